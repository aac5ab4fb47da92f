theorem dX7_init_0 : decode cX7_init 0 = .ok (.aload_n 0, 1) := by decide +kernel
theorem dX7_init_1 : decode cX7_init 1 = .ok (.invokespecial 1, 3) := by decide +kernel
theorem dX7_init_4 : decode cX7_init 4 = .ok (.aload_n 0, 1) := by decide +kernel
theorem dX7_init_5 : decode cX7_init 5 = .ok (.sipush 200, 3) := by decide +kernel
theorem dX7_init_8 : decode cX7_init 8 = .ok (.newarray .byte, 2) := by decide +kernel
theorem dX7_init_10 : decode cX7_init 10 = .ok (.putfield 7, 3) := by decide +kernel
theorem dX7_init_13 : decode cX7_init 13 = .ok (.aload_n 0, 1) := by decide +kernel
theorem dX7_init_14 : decode cX7_init 14 = .ok (.iconst 2, 1) := by decide +kernel
theorem dX7_init_15 : decode cX7_init 15 = .ok (.newarray .int, 2) := by decide +kernel
theorem dX7_init_17 : decode cX7_init 17 = .ok (.putfield 13, 3) := by decide +kernel
theorem dX7_init_20 : decode cX7_init 20 = .ok (.aload_n 0, 1) := by decide +kernel
theorem dX7_init_21 : decode cX7_init 21 = .ok (.bipush 12, 2) := by decide +kernel
theorem dX7_init_23 : decode cX7_init 23 = .ok (.newarray .int, 2) := by decide +kernel
theorem dX7_init_25 : decode cX7_init 25 = .ok (.putfield 17, 3) := by decide +kernel
theorem dX7_init_28 : decode cX7_init 28 = .ok (.aload_n 0, 1) := by decide +kernel
theorem dX7_init_29 : decode cX7_init 29 = .ok (.bipush 36, 2) := by decide +kernel
theorem dX7_init_31 : decode cX7_init 31 = .ok (.newarray .int, 2) := by decide +kernel
theorem dX7_init_33 : decode cX7_init 33 = .ok (.putfield 20, 3) := by decide +kernel
theorem dX7_init_36 : decode cX7_init 36 = .ok (.aload_n 0, 1) := by decide +kernel
theorem dX7_init_37 : decode cX7_init 37 = .ok (.iconst 2, 1) := by decide +kernel
theorem dX7_init_38 : decode cX7_init 38 = .ok (.newarray .int, 2) := by decide +kernel
theorem dX7_init_40 : decode cX7_init 40 = .ok (.putfield 23, 3) := by decide +kernel
theorem dX7_init_43 : decode cX7_init 43 = .ok (.aload_n 0, 1) := by decide +kernel
theorem dX7_init_44 : decode cX7_init 44 = .ok (.bipush 36, 2) := by decide +kernel
theorem dX7_init_46 : decode cX7_init 46 = .ok (.newarray .int, 2) := by decide +kernel
theorem dX7_init_48 : decode cX7_init 48 = .ok (.putfield 26, 3) := by decide +kernel
theorem dX7_init_51 : decode cX7_init 51 = .ok (.aload_n 0, 1) := by decide +kernel
theorem dX7_init_52 : decode cX7_init 52 = .ok (.bipush 12, 2) := by decide +kernel
theorem dX7_init_54 : decode cX7_init 54 = .ok (.newarray .int, 2) := by decide +kernel
theorem dX7_init_56 : decode cX7_init 56 = .ok (.putfield 29, 3) := by decide +kernel
theorem dX7_init_59 : decode cX7_init 59 = .ok (.aload_n 0, 1) := by decide +kernel
theorem dX7_init_60 : decode cX7_init 60 = .ok (.bipush 84, 2) := by decide +kernel
theorem dX7_init_62 : decode cX7_init 62 = .ok (.newarray .int, 2) := by decide +kernel
theorem dX7_init_64 : decode cX7_init 64 = .ok (.putfield 32, 3) := by decide +kernel
theorem dX7_init_67 : decode cX7_init 67 = .ok (.aload_n 0, 1) := by decide +kernel
theorem dX7_init_68 : decode cX7_init 68 = .ok (.iconst 2, 1) := by decide +kernel
theorem dX7_init_69 : decode cX7_init 69 = .ok (.newarray .int, 2) := by decide +kernel
theorem dX7_init_71 : decode cX7_init 71 = .ok (.putfield 35, 3) := by decide +kernel
theorem dX7_init_74 : decode cX7_init 74 = .ok (.aload_n 0, 1) := by decide +kernel
theorem dX7_init_75 : decode cX7_init 75 = .ok (.sipush 372, 3) := by decide +kernel
theorem dX7_init_78 : decode cX7_init 78 = .ok (.newarray .int, 2) := by decide +kernel
theorem dX7_init_80 : decode cX7_init 80 = .ok (.putfield 38, 3) := by decide +kernel
theorem dX7_init_83 : decode cX7_init 83 = .ok (.aload_n 0, 1) := by decide +kernel
theorem dX7_init_84 : decode cX7_init 84 = .ok (.iconst 3, 1) := by decide +kernel
theorem dX7_init_85 : decode cX7_init 85 = .ok (.newarray .int, 2) := by decide +kernel
theorem dX7_init_87 : decode cX7_init 87 = .ok (.putfield 41, 3) := by decide +kernel
theorem dX7_init_90 : decode cX7_init 90 = .ok (.aload_n 0, 1) := by decide +kernel
theorem dX7_init_91 : decode cX7_init 91 = .ok (.bipush 6, 2) := by decide +kernel
theorem dX7_init_93 : decode cX7_init 93 = .ok (.newarray .int, 2) := by decide +kernel
theorem dX7_init_95 : decode cX7_init 95 = .ok (.putfield 44, 3) := by decide +kernel
theorem dX7_init_98 : decode cX7_init 98 = .ok (.aload_n 0, 1) := by decide +kernel
theorem dX7_init_99 : decode cX7_init 99 = .ok (.bipush 7, 2) := by decide +kernel
theorem dX7_init_101 : decode cX7_init 101 = .ok (.newarray .int, 2) := by decide +kernel
theorem dX7_init_103 : decode cX7_init 103 = .ok (.putfield 47, 3) := by decide +kernel
theorem dX7_init_106 : decode cX7_init 106 = .ok (.aload_n 0, 1) := by decide +kernel
theorem dX7_init_107 : decode cX7_init 107 = .ok (.bipush 7, 2) := by decide +kernel
theorem dX7_init_109 : decode cX7_init 109 = .ok (.newarray .int, 2) := by decide +kernel
theorem dX7_init_111 : decode cX7_init 111 = .ok (.putfield 50, 3) := by decide +kernel
theorem dX7_init_114 : decode cX7_init 114 = .ok (.aload_n 0, 1) := by decide +kernel
theorem dX7_init_115 : decode cX7_init 115 = .ok (.bipush 7, 2) := by decide +kernel
theorem dX7_init_117 : decode cX7_init 117 = .ok (.newarray .int, 2) := by decide +kernel
theorem dX7_init_119 : decode cX7_init 119 = .ok (.putfield 53, 3) := by decide +kernel
theorem dX7_init_122 : decode cX7_init 122 = .ok (.aload_n 0, 1) := by decide +kernel
theorem dX7_init_123 : decode cX7_init 123 = .ok (.iconst 0, 1) := by decide +kernel
theorem dX7_init_124 : decode cX7_init 124 = .ok (.iconst 3, 1) := by decide +kernel
theorem dX7_init_125 : decode cX7_init 125 = .ok (.iconst 2, 1) := by decide +kernel
theorem dX7_init_126 : decode cX7_init 126 = .ok (.iconst 4, 1) := by decide +kernel
theorem dX7_init_127 : decode cX7_init 127 = .ok (.invokevirtual 56, 3) := by decide +kernel
theorem dX7_init_130 : decode cX7_init 130 = .ok (.aload_n 0, 1) := by decide +kernel
theorem dX7_init_131 : decode cX7_init 131 = .ok (.iconst 1, 1) := by decide +kernel
theorem dX7_init_132 : decode cX7_init 132 = .ok (.iconst 4, 1) := by decide +kernel
theorem dX7_init_133 : decode cX7_init 133 = .ok (.iconst 1, 1) := by decide +kernel
theorem dX7_init_134 : decode cX7_init 134 = .ok (.iconst 2, 1) := by decide +kernel
theorem dX7_init_135 : decode cX7_init 135 = .ok (.invokevirtual 56, 3) := by decide +kernel
theorem dX7_init_138 : decode cX7_init 138 = .ok (.aload_n 0, 1) := by decide +kernel
theorem dX7_init_139 : decode cX7_init 139 = .ok (.iconst 2, 1) := by decide +kernel
theorem dX7_init_140 : decode cX7_init 140 = .ok (.iconst 2, 1) := by decide +kernel
theorem dX7_init_141 : decode cX7_init 141 = .ok (.iconst 2, 1) := by decide +kernel
theorem dX7_init_142 : decode cX7_init 142 = .ok (.bipush 6, 2) := by decide +kernel
theorem dX7_init_144 : decode cX7_init 144 = .ok (.invokevirtual 56, 3) := by decide +kernel
theorem dX7_init_147 : decode cX7_init 147 = .ok (.aload_n 0, 1) := by decide +kernel
theorem dX7_init_148 : decode cX7_init 148 = .ok (.iconst 3, 1) := by decide +kernel
theorem dX7_init_149 : decode cX7_init 149 = .ok (.iconst 1, 1) := by decide +kernel
theorem dX7_init_150 : decode cX7_init 150 = .ok (.iconst 5, 1) := by decide +kernel
theorem dX7_init_151 : decode cX7_init 151 = .ok (.iconst 0, 1) := by decide +kernel
theorem dX7_init_152 : decode cX7_init 152 = .ok (.invokevirtual 56, 3) := by decide +kernel
theorem dX7_init_155 : decode cX7_init 155 = .ok (.aload_n 0, 1) := by decide +kernel
theorem dX7_init_156 : decode cX7_init 156 = .ok (.iconst 1, 1) := by decide +kernel
theorem dX7_init_157 : decode cX7_init 157 = .ok (.iconst 0, 1) := by decide +kernel
theorem dX7_init_158 : decode cX7_init 158 = .ok (.iconst 0, 1) := by decide +kernel
theorem dX7_init_159 : decode cX7_init 159 = .ok (.iconst 2, 1) := by decide +kernel
theorem dX7_init_160 : decode cX7_init 160 = .ok (.invokevirtual 60, 3) := by decide +kernel
theorem dX7_init_163 : decode cX7_init 163 = .ok (.aload_n 0, 1) := by decide +kernel
theorem dX7_init_164 : decode cX7_init 164 = .ok (.iconst 0, 1) := by decide +kernel
theorem dX7_init_165 : decode cX7_init 165 = .ok (.iconst 1, 1) := by decide +kernel
theorem dX7_init_166 : decode cX7_init 166 = .ok (.iconst 1, 1) := by decide +kernel
theorem dX7_init_167 : decode cX7_init 167 = .ok (.iconst 3, 1) := by decide +kernel
theorem dX7_init_168 : decode cX7_init 168 = .ok (.invokevirtual 60, 3) := by decide +kernel
theorem dX7_init_171 : decode cX7_init 171 = .ok (.aload_n 0, 1) := by decide +kernel
theorem dX7_init_172 : decode cX7_init 172 = .ok (.iconst 2, 1) := by decide +kernel
theorem dX7_init_173 : decode cX7_init 173 = .ok (.iconst 0, 1) := by decide +kernel
theorem dX7_init_174 : decode cX7_init 174 = .ok (.iconst 1, 1) := by decide +kernel
theorem dX7_init_175 : decode cX7_init 175 = .ok (.iconst 5, 1) := by decide +kernel
theorem dX7_init_176 : decode cX7_init 176 = .ok (.invokevirtual 60, 3) := by decide +kernel
theorem dX7_init_179 : decode cX7_init 179 = .ok (.aload_n 0, 1) := by decide +kernel
theorem dX7_init_180 : decode cX7_init 180 = .ok (.getfield 32, 3) := by decide +kernel
theorem dX7_init_183 : decode cX7_init 183 = .ok (.bipush 42, 2) := by decide +kernel
theorem dX7_init_185 : decode cX7_init 185 = .ok (.iconst 2, 1) := by decide +kernel
theorem dX7_init_186 : decode cX7_init 186 = .ok (.iastore, 1) := by decide +kernel
theorem dX7_init_187 : decode cX7_init 187 = .ok (.aload_n 0, 1) := by decide +kernel
theorem dX7_init_188 : decode cX7_init 188 = .ok (.getfield 32, 3) := by decide +kernel
theorem dX7_init_191 : decode cX7_init 191 = .ok (.bipush 44, 2) := by decide +kernel
theorem dX7_init_193 : decode cX7_init 193 = .ok (.iconst 1, 1) := by decide +kernel
theorem dX7_init_194 : decode cX7_init 194 = .ok (.iastore, 1) := by decide +kernel
theorem dX7_init_195 : decode cX7_init 195 = .ok (.aload_n 0, 1) := by decide +kernel
theorem dX7_init_196 : decode cX7_init 196 = .ok (.getfield 32, 3) := by decide +kernel
theorem dX7_init_199 : decode cX7_init 199 = .ok (.bipush 50, 2) := by decide +kernel
theorem dX7_init_201 : decode cX7_init 201 = .ok (.iconst 0, 1) := by decide +kernel
theorem dX7_init_202 : decode cX7_init 202 = .ok (.iastore, 1) := by decide +kernel
theorem dX7_init_203 : decode cX7_init 203 = .ok (.aload_n 0, 1) := by decide +kernel
theorem dX7_init_204 : decode cX7_init 204 = .ok (.getfield 32, 3) := by decide +kernel
theorem dX7_init_207 : decode cX7_init 207 = .ok (.bipush 56, 2) := by decide +kernel
theorem dX7_init_209 : decode cX7_init 209 = .ok (.iconst 1, 1) := by decide +kernel
theorem dX7_init_210 : decode cX7_init 210 = .ok (.iastore, 1) := by decide +kernel
theorem dX7_init_211 : decode cX7_init 211 = .ok (.aload_n 0, 1) := by decide +kernel
theorem dX7_init_212 : decode cX7_init 212 = .ok (.getfield 32, 3) := by decide +kernel
theorem dX7_init_215 : decode cX7_init 215 = .ok (.bipush 59, 2) := by decide +kernel
theorem dX7_init_217 : decode cX7_init 217 = .ok (.iconst 1, 1) := by decide +kernel
theorem dX7_init_218 : decode cX7_init 218 = .ok (.iastore, 1) := by decide +kernel
theorem dX7_init_219 : decode cX7_init 219 = .ok (.aload_n 0, 1) := by decide +kernel
theorem dX7_init_220 : decode cX7_init 220 = .ok (.getfield 32, 3) := by decide +kernel
theorem dX7_init_223 : decode cX7_init 223 = .ok (.bipush 67, 2) := by decide +kernel
theorem dX7_init_225 : decode cX7_init 225 = .ok (.iconst 1, 1) := by decide +kernel
theorem dX7_init_226 : decode cX7_init 226 = .ok (.iastore, 1) := by decide +kernel
theorem dX7_init_227 : decode cX7_init 227 = .ok (.aload_n 0, 1) := by decide +kernel
theorem dX7_init_228 : decode cX7_init 228 = .ok (.getfield 35, 3) := by decide +kernel
theorem dX7_init_231 : decode cX7_init 231 = .ok (.iconst 1, 1) := by decide +kernel
theorem dX7_init_232 : decode cX7_init 232 = .ok (.iconst 2, 1) := by decide +kernel
theorem dX7_init_233 : decode cX7_init 233 = .ok (.iastore, 1) := by decide +kernel
theorem dX7_init_234 : decode cX7_init 234 = .ok (.aload_n 0, 1) := by decide +kernel
theorem dX7_init_235 : decode cX7_init 235 = .ok (.invokevirtual 63, 3) := by decide +kernel
theorem dX7_init_238 : decode cX7_init 238 = .ok (.return_, 1) := by decide +kernel
theorem dX7_firstPerson_0 : decode cX7_firstPerson 0 = .ok (.bipush 6, 2) := by decide +kernel
theorem dX7_firstPerson_2 : decode cX7_firstPerson 2 = .ok (.aload_n 0, 1) := by decide +kernel
theorem dX7_firstPerson_3 : decode cX7_firstPerson 3 = .ok (.getfield 13, 3) := by decide +kernel
theorem dX7_firstPerson_6 : decode cX7_firstPerson 6 = .ok (.iconst 1, 1) := by decide +kernel
theorem dX7_firstPerson_7 : decode cX7_firstPerson 7 = .ok (.iaload, 1) := by decide +kernel
theorem dX7_firstPerson_8 : decode cX7_firstPerson 8 = .ok (.iadd, 1) := by decide +kernel
theorem dX7_firstPerson_9 : decode cX7_firstPerson 9 = .ok (.istore 5, 2) := by decide +kernel
theorem dX7_firstPerson_11 : decode cX7_firstPerson 11 = .ok (.aload_n 0, 1) := by decide +kernel
theorem dX7_firstPerson_12 : decode cX7_firstPerson 12 = .ok (.getfield 17, 3) := by decide +kernel
theorem dX7_firstPerson_15 : decode cX7_firstPerson 15 = .ok (.iload 5, 2) := by decide +kernel
theorem dX7_firstPerson_17 : decode cX7_firstPerson 17 = .ok (.iload_n 1, 1) := by decide +kernel
theorem dX7_firstPerson_18 : decode cX7_firstPerson 18 = .ok (.iastore, 1) := by decide +kernel
theorem dX7_firstPerson_19 : decode cX7_firstPerson 19 = .ok (.aload_n 0, 1) := by decide +kernel
theorem dX7_firstPerson_20 : decode cX7_firstPerson 20 = .ok (.getfield 20, 3) := by decide +kernel
theorem dX7_firstPerson_23 : decode cX7_firstPerson 23 = .ok (.iconst 3, 1) := by decide +kernel
theorem dX7_firstPerson_24 : decode cX7_firstPerson 24 = .ok (.iload 5, 2) := by decide +kernel
theorem dX7_firstPerson_26 : decode cX7_firstPerson 26 = .ok (.imul, 1) := by decide +kernel
theorem dX7_firstPerson_27 : decode cX7_firstPerson 27 = .ok (.iload_n 2, 1) := by decide +kernel
theorem dX7_firstPerson_28 : decode cX7_firstPerson 28 = .ok (.iastore, 1) := by decide +kernel
theorem dX7_firstPerson_29 : decode cX7_firstPerson 29 = .ok (.aload_n 0, 1) := by decide +kernel
theorem dX7_firstPerson_30 : decode cX7_firstPerson 30 = .ok (.getfield 20, 3) := by decide +kernel
theorem dX7_firstPerson_33 : decode cX7_firstPerson 33 = .ok (.iconst 3, 1) := by decide +kernel
theorem dX7_firstPerson_34 : decode cX7_firstPerson 34 = .ok (.iload 5, 2) := by decide +kernel
theorem dX7_firstPerson_36 : decode cX7_firstPerson 36 = .ok (.imul, 1) := by decide +kernel
theorem dX7_firstPerson_37 : decode cX7_firstPerson 37 = .ok (.iconst 1, 1) := by decide +kernel
theorem dX7_firstPerson_38 : decode cX7_firstPerson 38 = .ok (.iadd, 1) := by decide +kernel
theorem dX7_firstPerson_39 : decode cX7_firstPerson 39 = .ok (.iload_n 3, 1) := by decide +kernel
theorem dX7_firstPerson_40 : decode cX7_firstPerson 40 = .ok (.iastore, 1) := by decide +kernel
theorem dX7_firstPerson_41 : decode cX7_firstPerson 41 = .ok (.aload_n 0, 1) := by decide +kernel
theorem dX7_firstPerson_42 : decode cX7_firstPerson 42 = .ok (.getfield 20, 3) := by decide +kernel
theorem dX7_firstPerson_45 : decode cX7_firstPerson 45 = .ok (.iconst 3, 1) := by decide +kernel
theorem dX7_firstPerson_46 : decode cX7_firstPerson 46 = .ok (.iload 5, 2) := by decide +kernel
theorem dX7_firstPerson_48 : decode cX7_firstPerson 48 = .ok (.imul, 1) := by decide +kernel
theorem dX7_firstPerson_49 : decode cX7_firstPerson 49 = .ok (.iconst 2, 1) := by decide +kernel
theorem dX7_firstPerson_50 : decode cX7_firstPerson 50 = .ok (.iadd, 1) := by decide +kernel
theorem dX7_firstPerson_51 : decode cX7_firstPerson 51 = .ok (.iload 4, 2) := by decide +kernel
theorem dX7_firstPerson_53 : decode cX7_firstPerson 53 = .ok (.iastore, 1) := by decide +kernel
theorem dX7_firstPerson_54 : decode cX7_firstPerson 54 = .ok (.iconst 0, 1) := by decide +kernel
theorem dX7_firstPerson_55 : decode cX7_firstPerson 55 = .ok (.istore 6, 2) := by decide +kernel
theorem dX7_firstPerson_57 : decode cX7_firstPerson 57 = .ok (.iload 6, 2) := by decide +kernel
theorem dX7_firstPerson_59 : decode cX7_firstPerson 59 = .ok (.bipush 7, 2) := by decide +kernel
theorem dX7_firstPerson_61 : decode cX7_firstPerson 61 = .ok (.if_icmp .ge 24, 3) := by decide +kernel
theorem dX7_firstPerson_64 : decode cX7_firstPerson 64 = .ok (.aload_n 0, 1) := by decide +kernel
theorem dX7_firstPerson_65 : decode cX7_firstPerson 65 = .ok (.getfield 32, 3) := by decide +kernel
theorem dX7_firstPerson_68 : decode cX7_firstPerson 68 = .ok (.bipush 7, 2) := by decide +kernel
theorem dX7_firstPerson_70 : decode cX7_firstPerson 70 = .ok (.iload 5, 2) := by decide +kernel
theorem dX7_firstPerson_72 : decode cX7_firstPerson 72 = .ok (.imul, 1) := by decide +kernel
theorem dX7_firstPerson_73 : decode cX7_firstPerson 73 = .ok (.iload 6, 2) := by decide +kernel
theorem dX7_firstPerson_75 : decode cX7_firstPerson 75 = .ok (.iadd, 1) := by decide +kernel
theorem dX7_firstPerson_76 : decode cX7_firstPerson 76 = .ok (.bipush (-4), 2) := by decide +kernel
theorem dX7_firstPerson_78 : decode cX7_firstPerson 78 = .ok (.iastore, 1) := by decide +kernel
theorem dX7_firstPerson_79 : decode cX7_firstPerson 79 = .ok (.iinc 6 1, 3) := by decide +kernel
theorem dX7_firstPerson_82 : decode cX7_firstPerson 82 = .ok (.goto (-25), 3) := by decide +kernel
theorem dX7_firstPerson_85 : decode cX7_firstPerson 85 = .ok (.aload_n 0, 1) := by decide +kernel
theorem dX7_firstPerson_86 : decode cX7_firstPerson 86 = .ok (.getfield 13, 3) := by decide +kernel
theorem dX7_firstPerson_89 : decode cX7_firstPerson 89 = .ok (.iconst 1, 1) := by decide +kernel
theorem dX7_firstPerson_90 : decode cX7_firstPerson 90 = .ok (.dup2, 1) := by decide +kernel
theorem dX7_firstPerson_91 : decode cX7_firstPerson 91 = .ok (.iaload, 1) := by decide +kernel
theorem dX7_firstPerson_92 : decode cX7_firstPerson 92 = .ok (.iconst 1, 1) := by decide +kernel
theorem dX7_firstPerson_93 : decode cX7_firstPerson 93 = .ok (.iadd, 1) := by decide +kernel
theorem dX7_firstPerson_94 : decode cX7_firstPerson 94 = .ok (.iastore, 1) := by decide +kernel
theorem dX7_firstPerson_95 : decode cX7_firstPerson 95 = .ok (.return_, 1) := by decide +kernel
theorem dX7_firstDeed_0 : decode cX7_firstDeed 0 = .ok (.bipush 6, 2) := by decide +kernel
theorem dX7_firstDeed_2 : decode cX7_firstDeed 2 = .ok (.aload_n 0, 1) := by decide +kernel
theorem dX7_firstDeed_3 : decode cX7_firstDeed 3 = .ok (.getfield 23, 3) := by decide +kernel
theorem dX7_firstDeed_6 : decode cX7_firstDeed 6 = .ok (.iconst 1, 1) := by decide +kernel
theorem dX7_firstDeed_7 : decode cX7_firstDeed 7 = .ok (.iaload, 1) := by decide +kernel
theorem dX7_firstDeed_8 : decode cX7_firstDeed 8 = .ok (.iadd, 1) := by decide +kernel
theorem dX7_firstDeed_9 : decode cX7_firstDeed 9 = .ok (.istore 5, 2) := by decide +kernel
theorem dX7_firstDeed_11 : decode cX7_firstDeed 11 = .ok (.aload_n 0, 1) := by decide +kernel
theorem dX7_firstDeed_12 : decode cX7_firstDeed 12 = .ok (.getfield 26, 3) := by decide +kernel
theorem dX7_firstDeed_15 : decode cX7_firstDeed 15 = .ok (.iconst 3, 1) := by decide +kernel
theorem dX7_firstDeed_16 : decode cX7_firstDeed 16 = .ok (.iload 5, 2) := by decide +kernel
theorem dX7_firstDeed_18 : decode cX7_firstDeed 18 = .ok (.imul, 1) := by decide +kernel
theorem dX7_firstDeed_19 : decode cX7_firstDeed 19 = .ok (.iload_n 1, 1) := by decide +kernel
theorem dX7_firstDeed_20 : decode cX7_firstDeed 20 = .ok (.iastore, 1) := by decide +kernel
theorem dX7_firstDeed_21 : decode cX7_firstDeed 21 = .ok (.aload_n 0, 1) := by decide +kernel
theorem dX7_firstDeed_22 : decode cX7_firstDeed 22 = .ok (.getfield 26, 3) := by decide +kernel
theorem dX7_firstDeed_25 : decode cX7_firstDeed 25 = .ok (.iconst 3, 1) := by decide +kernel
theorem dX7_firstDeed_26 : decode cX7_firstDeed 26 = .ok (.iload 5, 2) := by decide +kernel
theorem dX7_firstDeed_28 : decode cX7_firstDeed 28 = .ok (.imul, 1) := by decide +kernel
theorem dX7_firstDeed_29 : decode cX7_firstDeed 29 = .ok (.iconst 1, 1) := by decide +kernel
theorem dX7_firstDeed_30 : decode cX7_firstDeed 30 = .ok (.iadd, 1) := by decide +kernel
theorem dX7_firstDeed_31 : decode cX7_firstDeed 31 = .ok (.iload_n 2, 1) := by decide +kernel
theorem dX7_firstDeed_32 : decode cX7_firstDeed 32 = .ok (.iastore, 1) := by decide +kernel
theorem dX7_firstDeed_33 : decode cX7_firstDeed 33 = .ok (.aload_n 0, 1) := by decide +kernel
theorem dX7_firstDeed_34 : decode cX7_firstDeed 34 = .ok (.getfield 26, 3) := by decide +kernel
theorem dX7_firstDeed_37 : decode cX7_firstDeed 37 = .ok (.iconst 3, 1) := by decide +kernel
theorem dX7_firstDeed_38 : decode cX7_firstDeed 38 = .ok (.iload 5, 2) := by decide +kernel
theorem dX7_firstDeed_40 : decode cX7_firstDeed 40 = .ok (.imul, 1) := by decide +kernel
theorem dX7_firstDeed_41 : decode cX7_firstDeed 41 = .ok (.iconst 2, 1) := by decide +kernel
theorem dX7_firstDeed_42 : decode cX7_firstDeed 42 = .ok (.iadd, 1) := by decide +kernel
theorem dX7_firstDeed_43 : decode cX7_firstDeed 43 = .ok (.iload_n 3, 1) := by decide +kernel
theorem dX7_firstDeed_44 : decode cX7_firstDeed 44 = .ok (.iastore, 1) := by decide +kernel
theorem dX7_firstDeed_45 : decode cX7_firstDeed 45 = .ok (.aload_n 0, 1) := by decide +kernel
theorem dX7_firstDeed_46 : decode cX7_firstDeed 46 = .ok (.getfield 29, 3) := by decide +kernel
theorem dX7_firstDeed_49 : decode cX7_firstDeed 49 = .ok (.iload 5, 2) := by decide +kernel
theorem dX7_firstDeed_51 : decode cX7_firstDeed 51 = .ok (.iload 4, 2) := by decide +kernel
theorem dX7_firstDeed_53 : decode cX7_firstDeed 53 = .ok (.iastore, 1) := by decide +kernel
theorem dX7_firstDeed_54 : decode cX7_firstDeed 54 = .ok (.aload_n 0, 1) := by decide +kernel
theorem dX7_firstDeed_55 : decode cX7_firstDeed 55 = .ok (.getfield 23, 3) := by decide +kernel
theorem dX7_firstDeed_58 : decode cX7_firstDeed 58 = .ok (.iconst 1, 1) := by decide +kernel
theorem dX7_firstDeed_59 : decode cX7_firstDeed 59 = .ok (.dup2, 1) := by decide +kernel
theorem dX7_firstDeed_60 : decode cX7_firstDeed 60 = .ok (.iaload, 1) := by decide +kernel
theorem dX7_firstDeed_61 : decode cX7_firstDeed 61 = .ok (.iconst 1, 1) := by decide +kernel
theorem dX7_firstDeed_62 : decode cX7_firstDeed 62 = .ok (.iadd, 1) := by decide +kernel
theorem dX7_firstDeed_63 : decode cX7_firstDeed 63 = .ok (.iastore, 1) := by decide +kernel
theorem dX7_firstDeed_64 : decode cX7_firstDeed 64 = .ok (.return_, 1) := by decide +kernel
theorem dX7_in_0 : decode cX7_in 0 = .ok (.iload_n 0, 1) := by decide +kernel
theorem dX7_in_1 : decode cX7_in 1 = .ok (.iload_n 1, 1) := by decide +kernel
theorem dX7_in_2 : decode cX7_in 2 = .ok (.if_icmp .lt 12, 3) := by decide +kernel
theorem dX7_in_5 : decode cX7_in 5 = .ok (.iload_n 0, 1) := by decide +kernel
theorem dX7_in_6 : decode cX7_in 6 = .ok (.iload_n 2, 1) := by decide +kernel
theorem dX7_in_7 : decode cX7_in 7 = .ok (.if_icmp .gt 7, 3) := by decide +kernel
theorem dX7_in_10 : decode cX7_in 10 = .ok (.iconst 1, 1) := by decide +kernel
theorem dX7_in_11 : decode cX7_in 11 = .ok (.goto 4, 3) := by decide +kernel
theorem dX7_in_14 : decode cX7_in 14 = .ok (.iconst 0, 1) := by decide +kernel
theorem dX7_in_15 : decode cX7_in 15 = .ok (.ireturn, 1) := by decide +kernel
theorem dX7_write_0 : decode cX7_write 0 = .ok (.iload_n 1, 1) := by decide +kernel
theorem dX7_write_1 : decode cX7_write 1 = .ok (.bipush 32, 2) := by decide +kernel
theorem dX7_write_3 : decode cX7_write 3 = .ok (.bipush 126, 2) := by decide +kernel
theorem dX7_write_5 : decode cX7_write 5 = .ok (.invokestatic 66, 3) := by decide +kernel
theorem dX7_write_8 : decode cX7_write 8 = .ok (.ifCond .ne 5, 3) := by decide +kernel
theorem dX7_write_11 : decode cX7_write 11 = .ok (.iconst (-1), 1) := by decide +kernel
theorem dX7_write_12 : decode cX7_write 12 = .ok (.ireturn, 1) := by decide +kernel
theorem dX7_write_13 : decode cX7_write 13 = .ok (.aload_n 0, 1) := by decide +kernel
theorem dX7_write_14 : decode cX7_write 14 = .ok (.getfield 70, 3) := by decide +kernel
theorem dX7_write_17 : decode cX7_write 17 = .ok (.sipush 200, 3) := by decide +kernel
theorem dX7_write_20 : decode cX7_write 20 = .ok (.if_icmp .ne 6, 3) := by decide +kernel
theorem dX7_write_23 : decode cX7_write 23 = .ok (.bipush (-3), 2) := by decide +kernel
theorem dX7_write_25 : decode cX7_write 25 = .ok (.ireturn, 1) := by decide +kernel
theorem dX7_write_26 : decode cX7_write 26 = .ok (.aload_n 0, 1) := by decide +kernel
theorem dX7_write_27 : decode cX7_write 27 = .ok (.getfield 7, 3) := by decide +kernel
theorem dX7_write_30 : decode cX7_write 30 = .ok (.aload_n 0, 1) := by decide +kernel
theorem dX7_write_31 : decode cX7_write 31 = .ok (.getfield 70, 3) := by decide +kernel
theorem dX7_write_34 : decode cX7_write 34 = .ok (.iload_n 1, 1) := by decide +kernel
theorem dX7_write_35 : decode cX7_write 35 = .ok (.i2b, 1) := by decide +kernel
theorem dX7_write_36 : decode cX7_write 36 = .ok (.bastore, 1) := by decide +kernel
theorem dX7_write_37 : decode cX7_write 37 = .ok (.aload_n 0, 1) := by decide +kernel
theorem dX7_write_38 : decode cX7_write 38 = .ok (.dup, 1) := by decide +kernel
theorem dX7_write_39 : decode cX7_write 39 = .ok (.getfield 70, 3) := by decide +kernel
theorem dX7_write_42 : decode cX7_write 42 = .ok (.iconst 1, 1) := by decide +kernel
theorem dX7_write_43 : decode cX7_write 43 = .ok (.iadd, 1) := by decide +kernel
theorem dX7_write_44 : decode cX7_write 44 = .ok (.putfield 70, 3) := by decide +kernel
theorem dX7_write_47 : decode cX7_write 47 = .ok (.aload_n 0, 1) := by decide +kernel
theorem dX7_write_48 : decode cX7_write 48 = .ok (.getfield 70, 3) := by decide +kernel
theorem dX7_write_51 : decode cX7_write 51 = .ok (.ireturn, 1) := by decide +kernel
theorem dX7_wipe_0 : decode cX7_wipe 0 = .ok (.aload_n 0, 1) := by decide +kernel
theorem dX7_wipe_1 : decode cX7_wipe 1 = .ok (.getfield 70, 3) := by decide +kernel
theorem dX7_wipe_4 : decode cX7_wipe 4 = .ok (.istore_n 1, 1) := by decide +kernel
theorem dX7_wipe_5 : decode cX7_wipe 5 = .ok (.aload_n 0, 1) := by decide +kernel
theorem dX7_wipe_6 : decode cX7_wipe 6 = .ok (.iconst 0, 1) := by decide +kernel
theorem dX7_wipe_7 : decode cX7_wipe 7 = .ok (.putfield 70, 3) := by decide +kernel
theorem dX7_wipe_10 : decode cX7_wipe 10 = .ok (.iload_n 1, 1) := by decide +kernel
theorem dX7_wipe_11 : decode cX7_wipe 11 = .ok (.ireturn, 1) := by decide +kernel
theorem dX7_here_0 : decode cX7_here 0 = .ok (.aload_n 0, 1) := by decide +kernel
theorem dX7_here_1 : decode cX7_here 1 = .ok (.getfield 74, 3) := by decide +kernel
theorem dX7_here_4 : decode cX7_here 4 = .ok (.aload_n 0, 1) := by decide +kernel
theorem dX7_here_5 : decode cX7_here 5 = .ok (.getfield 70, 3) := by decide +kernel
theorem dX7_here_8 : decode cX7_here 8 = .ok (.if_icmp .ge 15, 3) := by decide +kernel
theorem dX7_here_11 : decode cX7_here 11 = .ok (.aload_n 0, 1) := by decide +kernel
theorem dX7_here_12 : decode cX7_here 12 = .ok (.getfield 7, 3) := by decide +kernel
theorem dX7_here_15 : decode cX7_here 15 = .ok (.aload_n 0, 1) := by decide +kernel
theorem dX7_here_16 : decode cX7_here 16 = .ok (.getfield 74, 3) := by decide +kernel
theorem dX7_here_19 : decode cX7_here 19 = .ok (.baload, 1) := by decide +kernel
theorem dX7_here_20 : decode cX7_here 20 = .ok (.goto 4, 3) := by decide +kernel
theorem dX7_here_23 : decode cX7_here 23 = .ok (.iconst (-1), 1) := by decide +kernel
theorem dX7_here_24 : decode cX7_here 24 = .ok (.ireturn, 1) := by decide +kernel
theorem dX7_number_0 : decode cX7_number 0 = .ok (.iconst 0, 1) := by decide +kernel
theorem dX7_number_1 : decode cX7_number 1 = .ok (.istore 4, 2) := by decide +kernel
theorem dX7_number_3 : decode cX7_number 3 = .ok (.iconst 0, 1) := by decide +kernel
theorem dX7_number_4 : decode cX7_number 4 = .ok (.istore 5, 2) := by decide +kernel
theorem dX7_number_6 : decode cX7_number 6 = .ok (.iload 5, 2) := by decide +kernel
theorem dX7_number_8 : decode cX7_number 8 = .ok (.iconst 2, 1) := by decide +kernel
theorem dX7_number_9 : decode cX7_number 9 = .ok (.if_icmp .ge 48, 3) := by decide +kernel
theorem dX7_number_12 : decode cX7_number 12 = .ok (.aload_n 0, 1) := by decide +kernel
theorem dX7_number_13 : decode cX7_number 13 = .ok (.invokevirtual 77, 3) := by decide +kernel
theorem dX7_number_16 : decode cX7_number 16 = .ok (.bipush 48, 2) := by decide +kernel
theorem dX7_number_18 : decode cX7_number 18 = .ok (.bipush 57, 2) := by decide +kernel
theorem dX7_number_20 : decode cX7_number 20 = .ok (.invokestatic 66, 3) := by decide +kernel
theorem dX7_number_23 : decode cX7_number 23 = .ok (.ifCond .eq 34, 3) := by decide +kernel
theorem dX7_number_26 : decode cX7_number 26 = .ok (.bipush 10, 2) := by decide +kernel
theorem dX7_number_28 : decode cX7_number 28 = .ok (.iload 4, 2) := by decide +kernel
theorem dX7_number_30 : decode cX7_number 30 = .ok (.imul, 1) := by decide +kernel
theorem dX7_number_31 : decode cX7_number 31 = .ok (.aload_n 0, 1) := by decide +kernel
theorem dX7_number_32 : decode cX7_number 32 = .ok (.invokevirtual 77, 3) := by decide +kernel
theorem dX7_number_35 : decode cX7_number 35 = .ok (.iadd, 1) := by decide +kernel
theorem dX7_number_36 : decode cX7_number 36 = .ok (.bipush 48, 2) := by decide +kernel
theorem dX7_number_38 : decode cX7_number 38 = .ok (.isub, 1) := by decide +kernel
theorem dX7_number_39 : decode cX7_number 39 = .ok (.istore 4, 2) := by decide +kernel
theorem dX7_number_41 : decode cX7_number 41 = .ok (.aload_n 0, 1) := by decide +kernel
theorem dX7_number_42 : decode cX7_number 42 = .ok (.dup, 1) := by decide +kernel
theorem dX7_number_43 : decode cX7_number 43 = .ok (.getfield 74, 3) := by decide +kernel
theorem dX7_number_46 : decode cX7_number 46 = .ok (.iconst 1, 1) := by decide +kernel
theorem dX7_number_47 : decode cX7_number 47 = .ok (.iadd, 1) := by decide +kernel
theorem dX7_number_48 : decode cX7_number 48 = .ok (.putfield 74, 3) := by decide +kernel
theorem dX7_number_51 : decode cX7_number 51 = .ok (.iinc 5 1, 3) := by decide +kernel
theorem dX7_number_54 : decode cX7_number 54 = .ok (.goto (-48), 3) := by decide +kernel
theorem dX7_number_57 : decode cX7_number 57 = .ok (.aload_n 0, 1) := by decide +kernel
theorem dX7_number_58 : decode cX7_number 58 = .ok (.aload_n 0, 1) := by decide +kernel
theorem dX7_number_59 : decode cX7_number 59 = .ok (.getfield 81, 3) := by decide +kernel
theorem dX7_number_62 : decode cX7_number 62 = .ok (.ifCond .eq 30, 3) := by decide +kernel
theorem dX7_number_65 : decode cX7_number 65 = .ok (.iload 5, 2) := by decide +kernel
theorem dX7_number_67 : decode cX7_number 67 = .ok (.ifCond .le 25, 3) := by decide +kernel
theorem dX7_number_70 : decode cX7_number 70 = .ok (.iload 4, 2) := by decide +kernel
theorem dX7_number_72 : decode cX7_number 72 = .ok (.iload_n 1, 1) := by decide +kernel
theorem dX7_number_73 : decode cX7_number 73 = .ok (.iload_n 2, 1) := by decide +kernel
theorem dX7_number_74 : decode cX7_number 74 = .ok (.invokestatic 66, 3) := by decide +kernel
theorem dX7_number_77 : decode cX7_number 77 = .ok (.ifCond .eq 15, 3) := by decide +kernel
theorem dX7_number_80 : decode cX7_number 80 = .ok (.aload_n 0, 1) := by decide +kernel
theorem dX7_number_81 : decode cX7_number 81 = .ok (.invokevirtual 77, 3) := by decide +kernel
theorem dX7_number_84 : decode cX7_number 84 = .ok (.iload_n 3, 1) := by decide +kernel
theorem dX7_number_85 : decode cX7_number 85 = .ok (.if_icmp .ne 7, 3) := by decide +kernel
theorem dX7_number_88 : decode cX7_number 88 = .ok (.iconst 1, 1) := by decide +kernel
theorem dX7_number_89 : decode cX7_number 89 = .ok (.goto 4, 3) := by decide +kernel
theorem dX7_number_92 : decode cX7_number 92 = .ok (.iconst 0, 1) := by decide +kernel
theorem dX7_number_93 : decode cX7_number 93 = .ok (.putfield 81, 3) := by decide +kernel
theorem dX7_number_96 : decode cX7_number 96 = .ok (.aload_n 0, 1) := by decide +kernel
theorem dX7_number_97 : decode cX7_number 97 = .ok (.dup, 1) := by decide +kernel
theorem dX7_number_98 : decode cX7_number 98 = .ok (.getfield 74, 3) := by decide +kernel
theorem dX7_number_101 : decode cX7_number 101 = .ok (.iconst 1, 1) := by decide +kernel
theorem dX7_number_102 : decode cX7_number 102 = .ok (.iadd, 1) := by decide +kernel
theorem dX7_number_103 : decode cX7_number 103 = .ok (.putfield 74, 3) := by decide +kernel
theorem dX7_number_106 : decode cX7_number 106 = .ok (.iload 4, 2) := by decide +kernel
theorem dX7_number_108 : decode cX7_number 108 = .ok (.ireturn, 1) := by decide +kernel
theorem dX7_readItem_0 : decode cX7_readItem 0 = .ok (.aload_n 0, 1) := by decide +kernel
theorem dX7_readItem_1 : decode cX7_readItem 1 = .ok (.invokevirtual 77, 3) := by decide +kernel
theorem dX7_readItem_4 : decode cX7_readItem 4 = .ok (.istore_n 1, 1) := by decide +kernel
theorem dX7_readItem_5 : decode cX7_readItem 5 = .ok (.aload_n 0, 1) := by decide +kernel
theorem dX7_readItem_6 : decode cX7_readItem 6 = .ok (.dup, 1) := by decide +kernel
theorem dX7_readItem_7 : decode cX7_readItem 7 = .ok (.getfield 74, 3) := by decide +kernel
theorem dX7_readItem_10 : decode cX7_readItem 10 = .ok (.iconst 1, 1) := by decide +kernel
theorem dX7_readItem_11 : decode cX7_readItem 11 = .ok (.iadd, 1) := by decide +kernel
theorem dX7_readItem_12 : decode cX7_readItem 12 = .ok (.putfield 74, 3) := by decide +kernel
theorem dX7_readItem_15 : decode cX7_readItem 15 = .ok (.aload_n 0, 1) := by decide +kernel
theorem dX7_readItem_16 : decode cX7_readItem 16 = .ok (.iconst 1, 1) := by decide +kernel
theorem dX7_readItem_17 : decode cX7_readItem 17 = .ok (.putfield 81, 3) := by decide +kernel
theorem dX7_readItem_20 : decode cX7_readItem 20 = .ok (.iload_n 1, 1) := by decide +kernel
theorem dX7_readItem_21 : decode cX7_readItem 21 = .ok (.lookupswitch 315 #[(99, 297), (100, 124), (104, 228), (112, 43)], 43) := by decide +kernel
theorem dX7_readItem_64 : decode cX7_readItem 64 = .ok (.aload_n 0, 1) := by decide +kernel
theorem dX7_readItem_65 : decode cX7_readItem 65 = .ok (.aload_n 0, 1) := by decide +kernel
theorem dX7_readItem_66 : decode cX7_readItem 66 = .ok (.getfield 13, 3) := by decide +kernel
theorem dX7_readItem_69 : decode cX7_readItem 69 = .ok (.iconst 1, 1) := by decide +kernel
theorem dX7_readItem_70 : decode cX7_readItem 70 = .ok (.iaload, 1) := by decide +kernel
theorem dX7_readItem_71 : decode cX7_readItem 71 = .ok (.bipush 6, 2) := by decide +kernel
theorem dX7_readItem_73 : decode cX7_readItem 73 = .ok (.if_icmp .ge 7, 3) := by decide +kernel
theorem dX7_readItem_76 : decode cX7_readItem 76 = .ok (.iconst 1, 1) := by decide +kernel
theorem dX7_readItem_77 : decode cX7_readItem 77 = .ok (.goto 4, 3) := by decide +kernel
theorem dX7_readItem_80 : decode cX7_readItem 80 = .ok (.iconst 0, 1) := by decide +kernel
theorem dX7_readItem_81 : decode cX7_readItem 81 = .ok (.putfield 81, 3) := by decide +kernel
theorem dX7_readItem_84 : decode cX7_readItem 84 = .ok (.aload_n 0, 1) := by decide +kernel
theorem dX7_readItem_85 : decode cX7_readItem 85 = .ok (.iconst 0, 1) := by decide +kernel
theorem dX7_readItem_86 : decode cX7_readItem 86 = .ok (.iconst 4, 1) := by decide +kernel
theorem dX7_readItem_87 : decode cX7_readItem 87 = .ok (.bipush 44, 2) := by decide +kernel
theorem dX7_readItem_89 : decode cX7_readItem 89 = .ok (.invokevirtual 85, 3) := by decide +kernel
theorem dX7_readItem_92 : decode cX7_readItem 92 = .ok (.istore_n 2, 1) := by decide +kernel
theorem dX7_readItem_93 : decode cX7_readItem 93 = .ok (.aload_n 0, 1) := by decide +kernel
theorem dX7_readItem_94 : decode cX7_readItem 94 = .ok (.iconst 0, 1) := by decide +kernel
theorem dX7_readItem_95 : decode cX7_readItem 95 = .ok (.bipush 9, 2) := by decide +kernel
theorem dX7_readItem_97 : decode cX7_readItem 97 = .ok (.bipush 44, 2) := by decide +kernel
theorem dX7_readItem_99 : decode cX7_readItem 99 = .ok (.invokevirtual 85, 3) := by decide +kernel
theorem dX7_readItem_102 : decode cX7_readItem 102 = .ok (.istore_n 3, 1) := by decide +kernel
theorem dX7_readItem_103 : decode cX7_readItem 103 = .ok (.aload_n 0, 1) := by decide +kernel
theorem dX7_readItem_104 : decode cX7_readItem 104 = .ok (.iconst 0, 1) := by decide +kernel
theorem dX7_readItem_105 : decode cX7_readItem 105 = .ok (.bipush 9, 2) := by decide +kernel
theorem dX7_readItem_107 : decode cX7_readItem 107 = .ok (.bipush 44, 2) := by decide +kernel
theorem dX7_readItem_109 : decode cX7_readItem 109 = .ok (.invokevirtual 85, 3) := by decide +kernel
theorem dX7_readItem_112 : decode cX7_readItem 112 = .ok (.istore 4, 2) := by decide +kernel
theorem dX7_readItem_114 : decode cX7_readItem 114 = .ok (.aload_n 0, 1) := by decide +kernel
theorem dX7_readItem_115 : decode cX7_readItem 115 = .ok (.iconst 0, 1) := by decide +kernel
theorem dX7_readItem_116 : decode cX7_readItem 116 = .ok (.bipush 9, 2) := by decide +kernel
theorem dX7_readItem_118 : decode cX7_readItem 118 = .ok (.bipush 59, 2) := by decide +kernel
theorem dX7_readItem_120 : decode cX7_readItem 120 = .ok (.invokevirtual 85, 3) := by decide +kernel
theorem dX7_readItem_123 : decode cX7_readItem 123 = .ok (.istore 5, 2) := by decide +kernel
theorem dX7_readItem_125 : decode cX7_readItem 125 = .ok (.aload_n 0, 1) := by decide +kernel
theorem dX7_readItem_126 : decode cX7_readItem 126 = .ok (.getfield 81, 3) := by decide +kernel
theorem dX7_readItem_129 : decode cX7_readItem 129 = .ok (.ifCond .eq 212, 3) := by decide +kernel
theorem dX7_readItem_132 : decode cX7_readItem 132 = .ok (.aload_n 0, 1) := by decide +kernel
theorem dX7_readItem_133 : decode cX7_readItem 133 = .ok (.iload_n 2, 1) := by decide +kernel
theorem dX7_readItem_134 : decode cX7_readItem 134 = .ok (.iload_n 3, 1) := by decide +kernel
theorem dX7_readItem_135 : decode cX7_readItem 135 = .ok (.iload 4, 2) := by decide +kernel
theorem dX7_readItem_137 : decode cX7_readItem 137 = .ok (.iload 5, 2) := by decide +kernel
theorem dX7_readItem_139 : decode cX7_readItem 139 = .ok (.invokevirtual 56, 3) := by decide +kernel
theorem dX7_readItem_142 : decode cX7_readItem 142 = .ok (.goto 199, 3) := by decide +kernel
theorem dX7_readItem_145 : decode cX7_readItem 145 = .ok (.aload_n 0, 1) := by decide +kernel
theorem dX7_readItem_146 : decode cX7_readItem 146 = .ok (.aload_n 0, 1) := by decide +kernel
theorem dX7_readItem_147 : decode cX7_readItem 147 = .ok (.getfield 23, 3) := by decide +kernel
theorem dX7_readItem_150 : decode cX7_readItem 150 = .ok (.iconst 1, 1) := by decide +kernel
theorem dX7_readItem_151 : decode cX7_readItem 151 = .ok (.iaload, 1) := by decide +kernel
theorem dX7_readItem_152 : decode cX7_readItem 152 = .ok (.bipush 6, 2) := by decide +kernel
theorem dX7_readItem_154 : decode cX7_readItem 154 = .ok (.if_icmp .ge 7, 3) := by decide +kernel
theorem dX7_readItem_157 : decode cX7_readItem 157 = .ok (.iconst 1, 1) := by decide +kernel
theorem dX7_readItem_158 : decode cX7_readItem 158 = .ok (.goto 4, 3) := by decide +kernel
theorem dX7_readItem_161 : decode cX7_readItem 161 = .ok (.iconst 0, 1) := by decide +kernel
theorem dX7_readItem_162 : decode cX7_readItem 162 = .ok (.putfield 81, 3) := by decide +kernel
theorem dX7_readItem_165 : decode cX7_readItem 165 = .ok (.aload_n 0, 1) := by decide +kernel
theorem dX7_readItem_166 : decode cX7_readItem 166 = .ok (.iconst 0, 1) := by decide +kernel
theorem dX7_readItem_167 : decode cX7_readItem 167 = .ok (.iconst 4, 1) := by decide +kernel
theorem dX7_readItem_168 : decode cX7_readItem 168 = .ok (.bipush 44, 2) := by decide +kernel
theorem dX7_readItem_170 : decode cX7_readItem 170 = .ok (.invokevirtual 85, 3) := by decide +kernel
theorem dX7_readItem_173 : decode cX7_readItem 173 = .ok (.istore_n 2, 1) := by decide +kernel
theorem dX7_readItem_174 : decode cX7_readItem 174 = .ok (.aload_n 0, 1) := by decide +kernel
theorem dX7_readItem_175 : decode cX7_readItem 175 = .ok (.iconst 0, 1) := by decide +kernel
theorem dX7_readItem_176 : decode cX7_readItem 176 = .ok (.iconst 4, 1) := by decide +kernel
theorem dX7_readItem_177 : decode cX7_readItem 177 = .ok (.bipush 44, 2) := by decide +kernel
theorem dX7_readItem_179 : decode cX7_readItem 179 = .ok (.invokevirtual 85, 3) := by decide +kernel
theorem dX7_readItem_182 : decode cX7_readItem 182 = .ok (.istore_n 3, 1) := by decide +kernel
theorem dX7_readItem_183 : decode cX7_readItem 183 = .ok (.aload_n 0, 1) := by decide +kernel
theorem dX7_readItem_184 : decode cX7_readItem 184 = .ok (.iconst 0, 1) := by decide +kernel
theorem dX7_readItem_185 : decode cX7_readItem 185 = .ok (.iconst 4, 1) := by decide +kernel
theorem dX7_readItem_186 : decode cX7_readItem 186 = .ok (.bipush 44, 2) := by decide +kernel
theorem dX7_readItem_188 : decode cX7_readItem 188 = .ok (.invokevirtual 85, 3) := by decide +kernel
theorem dX7_readItem_191 : decode cX7_readItem 191 = .ok (.istore 4, 2) := by decide +kernel
theorem dX7_readItem_193 : decode cX7_readItem 193 = .ok (.aload_n 0, 1) := by decide +kernel
theorem dX7_readItem_194 : decode cX7_readItem 194 = .ok (.iconst 0, 1) := by decide +kernel
theorem dX7_readItem_195 : decode cX7_readItem 195 = .ok (.bipush 9, 2) := by decide +kernel
theorem dX7_readItem_197 : decode cX7_readItem 197 = .ok (.bipush 59, 2) := by decide +kernel
theorem dX7_readItem_199 : decode cX7_readItem 199 = .ok (.invokevirtual 85, 3) := by decide +kernel
theorem dX7_readItem_202 : decode cX7_readItem 202 = .ok (.istore 5, 2) := by decide +kernel
theorem dX7_readItem_204 : decode cX7_readItem 204 = .ok (.aload_n 0, 1) := by decide +kernel
theorem dX7_readItem_205 : decode cX7_readItem 205 = .ok (.aload_n 0, 1) := by decide +kernel
theorem dX7_readItem_206 : decode cX7_readItem 206 = .ok (.getfield 81, 3) := by decide +kernel
theorem dX7_readItem_209 : decode cX7_readItem 209 = .ok (.ifCond .eq 16, 3) := by decide +kernel
theorem dX7_readItem_212 : decode cX7_readItem 212 = .ok (.iload_n 2, 1) := by decide +kernel
theorem dX7_readItem_213 : decode cX7_readItem 213 = .ok (.iload_n 3, 1) := by decide +kernel
theorem dX7_readItem_214 : decode cX7_readItem 214 = .ok (.iadd, 1) := by decide +kernel
theorem dX7_readItem_215 : decode cX7_readItem 215 = .ok (.iload 4, 2) := by decide +kernel
theorem dX7_readItem_217 : decode cX7_readItem 217 = .ok (.iadd, 1) := by decide +kernel
theorem dX7_readItem_218 : decode cX7_readItem 218 = .ok (.ifCond .le 7, 3) := by decide +kernel
theorem dX7_readItem_221 : decode cX7_readItem 221 = .ok (.iconst 1, 1) := by decide +kernel
theorem dX7_readItem_222 : decode cX7_readItem 222 = .ok (.goto 4, 3) := by decide +kernel
theorem dX7_readItem_225 : decode cX7_readItem 225 = .ok (.iconst 0, 1) := by decide +kernel
theorem dX7_readItem_226 : decode cX7_readItem 226 = .ok (.putfield 81, 3) := by decide +kernel
theorem dX7_readItem_229 : decode cX7_readItem 229 = .ok (.aload_n 0, 1) := by decide +kernel
theorem dX7_readItem_230 : decode cX7_readItem 230 = .ok (.getfield 81, 3) := by decide +kernel
theorem dX7_readItem_233 : decode cX7_readItem 233 = .ok (.ifCond .eq 108, 3) := by decide +kernel
theorem dX7_readItem_236 : decode cX7_readItem 236 = .ok (.aload_n 0, 1) := by decide +kernel
theorem dX7_readItem_237 : decode cX7_readItem 237 = .ok (.iload_n 2, 1) := by decide +kernel
theorem dX7_readItem_238 : decode cX7_readItem 238 = .ok (.iload_n 3, 1) := by decide +kernel
theorem dX7_readItem_239 : decode cX7_readItem 239 = .ok (.iload 4, 2) := by decide +kernel
theorem dX7_readItem_241 : decode cX7_readItem 241 = .ok (.iload 5, 2) := by decide +kernel
theorem dX7_readItem_243 : decode cX7_readItem 243 = .ok (.invokevirtual 60, 3) := by decide +kernel
theorem dX7_readItem_246 : decode cX7_readItem 246 = .ok (.goto 95, 3) := by decide +kernel
theorem dX7_readItem_249 : decode cX7_readItem 249 = .ok (.aload_n 0, 1) := by decide +kernel
theorem dX7_readItem_250 : decode cX7_readItem 250 = .ok (.iconst 0, 1) := by decide +kernel
theorem dX7_readItem_251 : decode cX7_readItem 251 = .ok (.aload_n 0, 1) := by decide +kernel
theorem dX7_readItem_252 : decode cX7_readItem 252 = .ok (.getfield 13, 3) := by decide +kernel
theorem dX7_readItem_255 : decode cX7_readItem 255 = .ok (.iconst 1, 1) := by decide +kernel
theorem dX7_readItem_256 : decode cX7_readItem 256 = .ok (.iaload, 1) := by decide +kernel
theorem dX7_readItem_257 : decode cX7_readItem 257 = .ok (.iconst 1, 1) := by decide +kernel
theorem dX7_readItem_258 : decode cX7_readItem 258 = .ok (.isub, 1) := by decide +kernel
theorem dX7_readItem_259 : decode cX7_readItem 259 = .ok (.bipush 44, 2) := by decide +kernel
theorem dX7_readItem_261 : decode cX7_readItem 261 = .ok (.invokevirtual 85, 3) := by decide +kernel
theorem dX7_readItem_264 : decode cX7_readItem 264 = .ok (.istore_n 2, 1) := by decide +kernel
theorem dX7_readItem_265 : decode cX7_readItem 265 = .ok (.aload_n 0, 1) := by decide +kernel
theorem dX7_readItem_266 : decode cX7_readItem 266 = .ok (.iconst 0, 1) := by decide +kernel
theorem dX7_readItem_267 : decode cX7_readItem 267 = .ok (.bipush 6, 2) := by decide +kernel
theorem dX7_readItem_269 : decode cX7_readItem 269 = .ok (.bipush 44, 2) := by decide +kernel
theorem dX7_readItem_271 : decode cX7_readItem 271 = .ok (.invokevirtual 85, 3) := by decide +kernel
theorem dX7_readItem_274 : decode cX7_readItem 274 = .ok (.istore_n 3, 1) := by decide +kernel
theorem dX7_readItem_275 : decode cX7_readItem 275 = .ok (.aload_n 0, 1) := by decide +kernel
theorem dX7_readItem_276 : decode cX7_readItem 276 = .ok (.iconst 0, 1) := by decide +kernel
theorem dX7_readItem_277 : decode cX7_readItem 277 = .ok (.aload_n 0, 1) := by decide +kernel
theorem dX7_readItem_278 : decode cX7_readItem 278 = .ok (.getfield 23, 3) := by decide +kernel
theorem dX7_readItem_281 : decode cX7_readItem 281 = .ok (.iconst 1, 1) := by decide +kernel
theorem dX7_readItem_282 : decode cX7_readItem 282 = .ok (.iaload, 1) := by decide +kernel
theorem dX7_readItem_283 : decode cX7_readItem 283 = .ok (.iconst 1, 1) := by decide +kernel
theorem dX7_readItem_284 : decode cX7_readItem 284 = .ok (.isub, 1) := by decide +kernel
theorem dX7_readItem_285 : decode cX7_readItem 285 = .ok (.bipush 59, 2) := by decide +kernel
theorem dX7_readItem_287 : decode cX7_readItem 287 = .ok (.invokevirtual 85, 3) := by decide +kernel
theorem dX7_readItem_290 : decode cX7_readItem 290 = .ok (.istore 4, 2) := by decide +kernel
theorem dX7_readItem_292 : decode cX7_readItem 292 = .ok (.aload_n 0, 1) := by decide +kernel
theorem dX7_readItem_293 : decode cX7_readItem 293 = .ok (.getfield 81, 3) := by decide +kernel
theorem dX7_readItem_296 : decode cX7_readItem 296 = .ok (.ifCond .eq 45, 3) := by decide +kernel
theorem dX7_readItem_299 : decode cX7_readItem 299 = .ok (.aload_n 0, 1) := by decide +kernel
theorem dX7_readItem_300 : decode cX7_readItem 300 = .ok (.getfield 32, 3) := by decide +kernel
theorem dX7_readItem_303 : decode cX7_readItem 303 = .ok (.bipush 7, 2) := by decide +kernel
theorem dX7_readItem_305 : decode cX7_readItem 305 = .ok (.bipush 6, 2) := by decide +kernel
theorem dX7_readItem_307 : decode cX7_readItem 307 = .ok (.iload_n 2, 1) := by decide +kernel
theorem dX7_readItem_308 : decode cX7_readItem 308 = .ok (.iadd, 1) := by decide +kernel
theorem dX7_readItem_309 : decode cX7_readItem 309 = .ok (.imul, 1) := by decide +kernel
theorem dX7_readItem_310 : decode cX7_readItem 310 = .ok (.iload_n 3, 1) := by decide +kernel
theorem dX7_readItem_311 : decode cX7_readItem 311 = .ok (.iadd, 1) := by decide +kernel
theorem dX7_readItem_312 : decode cX7_readItem 312 = .ok (.iload 4, 2) := by decide +kernel
theorem dX7_readItem_314 : decode cX7_readItem 314 = .ok (.iastore, 1) := by decide +kernel
theorem dX7_readItem_315 : decode cX7_readItem 315 = .ok (.goto 26, 3) := by decide +kernel
theorem dX7_readItem_318 : decode cX7_readItem 318 = .ok (.aload_n 0, 1) := by decide +kernel
theorem dX7_readItem_319 : decode cX7_readItem 319 = .ok (.getfield 35, 3) := by decide +kernel
theorem dX7_readItem_322 : decode cX7_readItem 322 = .ok (.iconst 1, 1) := by decide +kernel
theorem dX7_readItem_323 : decode cX7_readItem 323 = .ok (.aload_n 0, 1) := by decide +kernel
theorem dX7_readItem_324 : decode cX7_readItem 324 = .ok (.iconst 0, 1) := by decide +kernel
theorem dX7_readItem_325 : decode cX7_readItem 325 = .ok (.bipush 9, 2) := by decide +kernel
theorem dX7_readItem_327 : decode cX7_readItem 327 = .ok (.bipush 59, 2) := by decide +kernel
theorem dX7_readItem_329 : decode cX7_readItem 329 = .ok (.invokevirtual 85, 3) := by decide +kernel
theorem dX7_readItem_332 : decode cX7_readItem 332 = .ok (.iastore, 1) := by decide +kernel
theorem dX7_readItem_333 : decode cX7_readItem 333 = .ok (.goto 8, 3) := by decide +kernel
theorem dX7_readItem_336 : decode cX7_readItem 336 = .ok (.aload_n 0, 1) := by decide +kernel
theorem dX7_readItem_337 : decode cX7_readItem 337 = .ok (.iconst 0, 1) := by decide +kernel
theorem dX7_readItem_338 : decode cX7_readItem 338 = .ok (.putfield 81, 3) := by decide +kernel
theorem dX7_readItem_341 : decode cX7_readItem 341 = .ok (.return_, 1) := by decide +kernel
theorem dX7_fault_0 : decode cX7_fault 0 = .ok (.aload_n 0, 1) := by decide +kernel
theorem dX7_fault_1 : decode cX7_fault 1 = .ok (.iconst 0, 1) := by decide +kernel
theorem dX7_fault_2 : decode cX7_fault 2 = .ok (.putfield 74, 3) := by decide +kernel
theorem dX7_fault_5 : decode cX7_fault 5 = .ok (.aload_n 0, 1) := by decide +kernel
theorem dX7_fault_6 : decode cX7_fault 6 = .ok (.getfield 13, 3) := by decide +kernel
theorem dX7_fault_9 : decode cX7_fault 9 = .ok (.iconst 1, 1) := by decide +kernel
theorem dX7_fault_10 : decode cX7_fault 10 = .ok (.iconst 0, 1) := by decide +kernel
theorem dX7_fault_11 : decode cX7_fault 11 = .ok (.iastore, 1) := by decide +kernel
theorem dX7_fault_12 : decode cX7_fault 12 = .ok (.aload_n 0, 1) := by decide +kernel
theorem dX7_fault_13 : decode cX7_fault 13 = .ok (.getfield 23, 3) := by decide +kernel
theorem dX7_fault_16 : decode cX7_fault 16 = .ok (.iconst 1, 1) := by decide +kernel
theorem dX7_fault_17 : decode cX7_fault 17 = .ok (.iconst 0, 1) := by decide +kernel
theorem dX7_fault_18 : decode cX7_fault 18 = .ok (.iastore, 1) := by decide +kernel
theorem dX7_fault_19 : decode cX7_fault 19 = .ok (.aload_n 0, 1) := by decide +kernel
theorem dX7_fault_20 : decode cX7_fault 20 = .ok (.getfield 35, 3) := by decide +kernel
theorem dX7_fault_23 : decode cX7_fault 23 = .ok (.iconst 1, 1) := by decide +kernel
theorem dX7_fault_24 : decode cX7_fault 24 = .ok (.iconst 1, 1) := by decide +kernel
theorem dX7_fault_25 : decode cX7_fault 25 = .ok (.iastore, 1) := by decide +kernel
theorem dX7_fault_26 : decode cX7_fault 26 = .ok (.aload_n 0, 1) := by decide +kernel
theorem dX7_fault_27 : decode cX7_fault 27 = .ok (.getfield 74, 3) := by decide +kernel
theorem dX7_fault_30 : decode cX7_fault 30 = .ok (.aload_n 0, 1) := by decide +kernel
theorem dX7_fault_31 : decode cX7_fault 31 = .ok (.getfield 70, 3) := by decide +kernel
theorem dX7_fault_34 : decode cX7_fault 34 = .ok (.if_icmp .ge 24, 3) := by decide +kernel
theorem dX7_fault_37 : decode cX7_fault 37 = .ok (.aload_n 0, 1) := by decide +kernel
theorem dX7_fault_38 : decode cX7_fault 38 = .ok (.getfield 74, 3) := by decide +kernel
theorem dX7_fault_41 : decode cX7_fault 41 = .ok (.istore_n 1, 1) := by decide +kernel
theorem dX7_fault_42 : decode cX7_fault 42 = .ok (.aload_n 0, 1) := by decide +kernel
theorem dX7_fault_43 : decode cX7_fault 43 = .ok (.invokevirtual 89, 3) := by decide +kernel
theorem dX7_fault_46 : decode cX7_fault 46 = .ok (.aload_n 0, 1) := by decide +kernel
theorem dX7_fault_47 : decode cX7_fault 47 = .ok (.getfield 81, 3) := by decide +kernel
theorem dX7_fault_50 : decode cX7_fault 50 = .ok (.ifCond .ne 5, 3) := by decide +kernel
theorem dX7_fault_53 : decode cX7_fault 53 = .ok (.iload_n 1, 1) := by decide +kernel
theorem dX7_fault_54 : decode cX7_fault 54 = .ok (.ireturn, 1) := by decide +kernel
theorem dX7_fault_55 : decode cX7_fault 55 = .ok (.goto (-29), 3) := by decide +kernel
theorem dX7_fault_58 : decode cX7_fault 58 = .ok (.bipush (-4), 2) := by decide +kernel
theorem dX7_fault_60 : decode cX7_fault 60 = .ok (.ireturn, 1) := by decide +kernel
theorem dX7_takeDraft_0 : decode cX7_takeDraft 0 = .ok (.aload_n 0, 1) := by decide +kernel
theorem dX7_takeDraft_1 : decode cX7_takeDraft 1 = .ok (.getfield 13, 3) := by decide +kernel
theorem dX7_takeDraft_4 : decode cX7_takeDraft 4 = .ok (.iconst 0, 1) := by decide +kernel
theorem dX7_takeDraft_5 : decode cX7_takeDraft 5 = .ok (.aload_n 0, 1) := by decide +kernel
theorem dX7_takeDraft_6 : decode cX7_takeDraft 6 = .ok (.getfield 13, 3) := by decide +kernel
theorem dX7_takeDraft_9 : decode cX7_takeDraft 9 = .ok (.iconst 1, 1) := by decide +kernel
theorem dX7_takeDraft_10 : decode cX7_takeDraft 10 = .ok (.iaload, 1) := by decide +kernel
theorem dX7_takeDraft_11 : decode cX7_takeDraft 11 = .ok (.iastore, 1) := by decide +kernel
theorem dX7_takeDraft_12 : decode cX7_takeDraft 12 = .ok (.aload_n 0, 1) := by decide +kernel
theorem dX7_takeDraft_13 : decode cX7_takeDraft 13 = .ok (.getfield 23, 3) := by decide +kernel
theorem dX7_takeDraft_16 : decode cX7_takeDraft 16 = .ok (.iconst 0, 1) := by decide +kernel
theorem dX7_takeDraft_17 : decode cX7_takeDraft 17 = .ok (.aload_n 0, 1) := by decide +kernel
theorem dX7_takeDraft_18 : decode cX7_takeDraft 18 = .ok (.getfield 23, 3) := by decide +kernel
theorem dX7_takeDraft_21 : decode cX7_takeDraft 21 = .ok (.iconst 1, 1) := by decide +kernel
theorem dX7_takeDraft_22 : decode cX7_takeDraft 22 = .ok (.iaload, 1) := by decide +kernel
theorem dX7_takeDraft_23 : decode cX7_takeDraft 23 = .ok (.iastore, 1) := by decide +kernel
theorem dX7_takeDraft_24 : decode cX7_takeDraft 24 = .ok (.aload_n 0, 1) := by decide +kernel
theorem dX7_takeDraft_25 : decode cX7_takeDraft 25 = .ok (.getfield 35, 3) := by decide +kernel
theorem dX7_takeDraft_28 : decode cX7_takeDraft 28 = .ok (.iconst 0, 1) := by decide +kernel
theorem dX7_takeDraft_29 : decode cX7_takeDraft 29 = .ok (.aload_n 0, 1) := by decide +kernel
theorem dX7_takeDraft_30 : decode cX7_takeDraft 30 = .ok (.getfield 35, 3) := by decide +kernel
theorem dX7_takeDraft_33 : decode cX7_takeDraft 33 = .ok (.iconst 1, 1) := by decide +kernel
theorem dX7_takeDraft_34 : decode cX7_takeDraft 34 = .ok (.iaload, 1) := by decide +kernel
theorem dX7_takeDraft_35 : decode cX7_takeDraft 35 = .ok (.iastore, 1) := by decide +kernel
theorem dX7_takeDraft_36 : decode cX7_takeDraft 36 = .ok (.iconst 0, 1) := by decide +kernel
theorem dX7_takeDraft_37 : decode cX7_takeDraft 37 = .ok (.istore_n 1, 1) := by decide +kernel
theorem dX7_takeDraft_38 : decode cX7_takeDraft 38 = .ok (.iload_n 1, 1) := by decide +kernel
theorem dX7_takeDraft_39 : decode cX7_takeDraft 39 = .ok (.bipush 6, 2) := by decide +kernel
theorem dX7_takeDraft_41 : decode cX7_takeDraft 41 = .ok (.if_icmp .ge 24, 3) := by decide +kernel
theorem dX7_takeDraft_44 : decode cX7_takeDraft 44 = .ok (.aload_n 0, 1) := by decide +kernel
theorem dX7_takeDraft_45 : decode cX7_takeDraft 45 = .ok (.getfield 17, 3) := by decide +kernel
theorem dX7_takeDraft_48 : decode cX7_takeDraft 48 = .ok (.iload_n 1, 1) := by decide +kernel
theorem dX7_takeDraft_49 : decode cX7_takeDraft 49 = .ok (.aload_n 0, 1) := by decide +kernel
theorem dX7_takeDraft_50 : decode cX7_takeDraft 50 = .ok (.getfield 17, 3) := by decide +kernel
theorem dX7_takeDraft_53 : decode cX7_takeDraft 53 = .ok (.bipush 6, 2) := by decide +kernel
theorem dX7_takeDraft_55 : decode cX7_takeDraft 55 = .ok (.iload_n 1, 1) := by decide +kernel
theorem dX7_takeDraft_56 : decode cX7_takeDraft 56 = .ok (.iadd, 1) := by decide +kernel
theorem dX7_takeDraft_57 : decode cX7_takeDraft 57 = .ok (.iaload, 1) := by decide +kernel
theorem dX7_takeDraft_58 : decode cX7_takeDraft 58 = .ok (.iastore, 1) := by decide +kernel
theorem dX7_takeDraft_59 : decode cX7_takeDraft 59 = .ok (.iinc 1 1, 3) := by decide +kernel
theorem dX7_takeDraft_62 : decode cX7_takeDraft 62 = .ok (.goto (-24), 3) := by decide +kernel
theorem dX7_takeDraft_65 : decode cX7_takeDraft 65 = .ok (.iconst 0, 1) := by decide +kernel
theorem dX7_takeDraft_66 : decode cX7_takeDraft 66 = .ok (.istore_n 1, 1) := by decide +kernel
theorem dX7_takeDraft_67 : decode cX7_takeDraft 67 = .ok (.iload_n 1, 1) := by decide +kernel
theorem dX7_takeDraft_68 : decode cX7_takeDraft 68 = .ok (.bipush 18, 2) := by decide +kernel
theorem dX7_takeDraft_70 : decode cX7_takeDraft 70 = .ok (.if_icmp .ge 39, 3) := by decide +kernel
theorem dX7_takeDraft_73 : decode cX7_takeDraft 73 = .ok (.aload_n 0, 1) := by decide +kernel
theorem dX7_takeDraft_74 : decode cX7_takeDraft 74 = .ok (.getfield 20, 3) := by decide +kernel
theorem dX7_takeDraft_77 : decode cX7_takeDraft 77 = .ok (.iload_n 1, 1) := by decide +kernel
theorem dX7_takeDraft_78 : decode cX7_takeDraft 78 = .ok (.aload_n 0, 1) := by decide +kernel
theorem dX7_takeDraft_79 : decode cX7_takeDraft 79 = .ok (.getfield 20, 3) := by decide +kernel
theorem dX7_takeDraft_82 : decode cX7_takeDraft 82 = .ok (.bipush 18, 2) := by decide +kernel
theorem dX7_takeDraft_84 : decode cX7_takeDraft 84 = .ok (.iload_n 1, 1) := by decide +kernel
theorem dX7_takeDraft_85 : decode cX7_takeDraft 85 = .ok (.iadd, 1) := by decide +kernel
theorem dX7_takeDraft_86 : decode cX7_takeDraft 86 = .ok (.iaload, 1) := by decide +kernel
theorem dX7_takeDraft_87 : decode cX7_takeDraft 87 = .ok (.iastore, 1) := by decide +kernel
theorem dX7_takeDraft_88 : decode cX7_takeDraft 88 = .ok (.aload_n 0, 1) := by decide +kernel
theorem dX7_takeDraft_89 : decode cX7_takeDraft 89 = .ok (.getfield 26, 3) := by decide +kernel
theorem dX7_takeDraft_92 : decode cX7_takeDraft 92 = .ok (.iload_n 1, 1) := by decide +kernel
theorem dX7_takeDraft_93 : decode cX7_takeDraft 93 = .ok (.aload_n 0, 1) := by decide +kernel
theorem dX7_takeDraft_94 : decode cX7_takeDraft 94 = .ok (.getfield 26, 3) := by decide +kernel
theorem dX7_takeDraft_97 : decode cX7_takeDraft 97 = .ok (.bipush 18, 2) := by decide +kernel
theorem dX7_takeDraft_99 : decode cX7_takeDraft 99 = .ok (.iload_n 1, 1) := by decide +kernel
theorem dX7_takeDraft_100 : decode cX7_takeDraft 100 = .ok (.iadd, 1) := by decide +kernel
theorem dX7_takeDraft_101 : decode cX7_takeDraft 101 = .ok (.iaload, 1) := by decide +kernel
theorem dX7_takeDraft_102 : decode cX7_takeDraft 102 = .ok (.iastore, 1) := by decide +kernel
theorem dX7_takeDraft_103 : decode cX7_takeDraft 103 = .ok (.iinc 1 1, 3) := by decide +kernel
theorem dX7_takeDraft_106 : decode cX7_takeDraft 106 = .ok (.goto (-39), 3) := by decide +kernel
theorem dX7_takeDraft_109 : decode cX7_takeDraft 109 = .ok (.iconst 0, 1) := by decide +kernel
theorem dX7_takeDraft_110 : decode cX7_takeDraft 110 = .ok (.istore_n 1, 1) := by decide +kernel
theorem dX7_takeDraft_111 : decode cX7_takeDraft 111 = .ok (.iload_n 1, 1) := by decide +kernel
theorem dX7_takeDraft_112 : decode cX7_takeDraft 112 = .ok (.bipush 6, 2) := by decide +kernel
theorem dX7_takeDraft_114 : decode cX7_takeDraft 114 = .ok (.if_icmp .ge 24, 3) := by decide +kernel
theorem dX7_takeDraft_117 : decode cX7_takeDraft 117 = .ok (.aload_n 0, 1) := by decide +kernel
theorem dX7_takeDraft_118 : decode cX7_takeDraft 118 = .ok (.getfield 29, 3) := by decide +kernel
theorem dX7_takeDraft_121 : decode cX7_takeDraft 121 = .ok (.iload_n 1, 1) := by decide +kernel
theorem dX7_takeDraft_122 : decode cX7_takeDraft 122 = .ok (.aload_n 0, 1) := by decide +kernel
theorem dX7_takeDraft_123 : decode cX7_takeDraft 123 = .ok (.getfield 29, 3) := by decide +kernel
theorem dX7_takeDraft_126 : decode cX7_takeDraft 126 = .ok (.bipush 6, 2) := by decide +kernel
theorem dX7_takeDraft_128 : decode cX7_takeDraft 128 = .ok (.iload_n 1, 1) := by decide +kernel
theorem dX7_takeDraft_129 : decode cX7_takeDraft 129 = .ok (.iadd, 1) := by decide +kernel
theorem dX7_takeDraft_130 : decode cX7_takeDraft 130 = .ok (.iaload, 1) := by decide +kernel
theorem dX7_takeDraft_131 : decode cX7_takeDraft 131 = .ok (.iastore, 1) := by decide +kernel
theorem dX7_takeDraft_132 : decode cX7_takeDraft 132 = .ok (.iinc 1 1, 3) := by decide +kernel
theorem dX7_takeDraft_135 : decode cX7_takeDraft 135 = .ok (.goto (-24), 3) := by decide +kernel
theorem dX7_takeDraft_138 : decode cX7_takeDraft 138 = .ok (.iconst 0, 1) := by decide +kernel
theorem dX7_takeDraft_139 : decode cX7_takeDraft 139 = .ok (.istore_n 1, 1) := by decide +kernel
theorem dX7_takeDraft_140 : decode cX7_takeDraft 140 = .ok (.iload_n 1, 1) := by decide +kernel
theorem dX7_takeDraft_141 : decode cX7_takeDraft 141 = .ok (.bipush 42, 2) := by decide +kernel
theorem dX7_takeDraft_143 : decode cX7_takeDraft 143 = .ok (.if_icmp .ge 24, 3) := by decide +kernel
theorem dX7_takeDraft_146 : decode cX7_takeDraft 146 = .ok (.aload_n 0, 1) := by decide +kernel
theorem dX7_takeDraft_147 : decode cX7_takeDraft 147 = .ok (.getfield 32, 3) := by decide +kernel
theorem dX7_takeDraft_150 : decode cX7_takeDraft 150 = .ok (.iload_n 1, 1) := by decide +kernel
theorem dX7_takeDraft_151 : decode cX7_takeDraft 151 = .ok (.aload_n 0, 1) := by decide +kernel
theorem dX7_takeDraft_152 : decode cX7_takeDraft 152 = .ok (.getfield 32, 3) := by decide +kernel
theorem dX7_takeDraft_155 : decode cX7_takeDraft 155 = .ok (.bipush 42, 2) := by decide +kernel
theorem dX7_takeDraft_157 : decode cX7_takeDraft 157 = .ok (.iload_n 1, 1) := by decide +kernel
theorem dX7_takeDraft_158 : decode cX7_takeDraft 158 = .ok (.iadd, 1) := by decide +kernel
theorem dX7_takeDraft_159 : decode cX7_takeDraft 159 = .ok (.iaload, 1) := by decide +kernel
theorem dX7_takeDraft_160 : decode cX7_takeDraft 160 = .ok (.iastore, 1) := by decide +kernel
theorem dX7_takeDraft_161 : decode cX7_takeDraft 161 = .ok (.iinc 1 1, 3) := by decide +kernel
theorem dX7_takeDraft_164 : decode cX7_takeDraft 164 = .ok (.goto (-24), 3) := by decide +kernel
theorem dX7_takeDraft_167 : decode cX7_takeDraft 167 = .ok (.iconst 0, 1) := by decide +kernel
theorem dX7_takeDraft_168 : decode cX7_takeDraft 168 = .ok (.istore_n 1, 1) := by decide +kernel
theorem dX7_takeDraft_169 : decode cX7_takeDraft 169 = .ok (.iload_n 1, 1) := by decide +kernel
theorem dX7_takeDraft_170 : decode cX7_takeDraft 170 = .ok (.bipush 31, 2) := by decide +kernel
theorem dX7_takeDraft_172 : decode cX7_takeDraft 172 = .ok (.if_icmp .ge 16, 3) := by decide +kernel
theorem dX7_takeDraft_175 : decode cX7_takeDraft 175 = .ok (.aload_n 0, 1) := by decide +kernel
theorem dX7_takeDraft_176 : decode cX7_takeDraft 176 = .ok (.getfield 38, 3) := by decide +kernel
theorem dX7_takeDraft_179 : decode cX7_takeDraft 179 = .ok (.iload_n 1, 1) := by decide +kernel
theorem dX7_takeDraft_180 : decode cX7_takeDraft 180 = .ok (.iconst 0, 1) := by decide +kernel
theorem dX7_takeDraft_181 : decode cX7_takeDraft 181 = .ok (.iastore, 1) := by decide +kernel
theorem dX7_takeDraft_182 : decode cX7_takeDraft 182 = .ok (.iinc 1 1, 3) := by decide +kernel
theorem dX7_takeDraft_185 : decode cX7_takeDraft 185 = .ok (.goto (-16), 3) := by decide +kernel
theorem dX7_takeDraft_188 : decode cX7_takeDraft 188 = .ok (.iconst 0, 1) := by decide +kernel
theorem dX7_takeDraft_189 : decode cX7_takeDraft 189 = .ok (.istore_n 1, 1) := by decide +kernel
theorem dX7_takeDraft_190 : decode cX7_takeDraft 190 = .ok (.iload_n 1, 1) := by decide +kernel
theorem dX7_takeDraft_191 : decode cX7_takeDraft 191 = .ok (.iconst 3, 1) := by decide +kernel
theorem dX7_takeDraft_192 : decode cX7_takeDraft 192 = .ok (.aload_n 0, 1) := by decide +kernel
theorem dX7_takeDraft_193 : decode cX7_takeDraft 193 = .ok (.getfield 13, 3) := by decide +kernel
theorem dX7_takeDraft_196 : decode cX7_takeDraft 196 = .ok (.iconst 0, 1) := by decide +kernel
theorem dX7_takeDraft_197 : decode cX7_takeDraft 197 = .ok (.iaload, 1) := by decide +kernel
