theorem dX6_init_0 : decode cX6_init 0 = .ok (.aload_n 0, 1) := by decide +kernel
theorem dX6_init_1 : decode cX6_init 1 = .ok (.invokespecial 1, 3) := by decide +kernel
theorem dX6_init_4 : decode cX6_init 4 = .ok (.aload_n 0, 1) := by decide +kernel
theorem dX6_init_5 : decode cX6_init 5 = .ok (.new 7, 3) := by decide +kernel
theorem dX6_init_8 : decode cX6_init 8 = .ok (.dup, 1) := by decide +kernel
theorem dX6_init_9 : decode cX6_init 9 = .ok (.invokespecial 9, 3) := by decide +kernel
theorem dX6_init_12 : decode cX6_init 12 = .ok (.putfield 10, 3) := by decide +kernel
theorem dX6_init_15 : decode cX6_init 15 = .ok (.aload_n 0, 1) := by decide +kernel
theorem dX6_init_16 : decode cX6_init 16 = .ok (.new 16, 3) := by decide +kernel
theorem dX6_init_19 : decode cX6_init 19 = .ok (.dup, 1) := by decide +kernel
theorem dX6_init_20 : decode cX6_init 20 = .ok (.invokespecial 18, 3) := by decide +kernel
theorem dX6_init_23 : decode cX6_init 23 = .ok (.putfield 19, 3) := by decide +kernel
theorem dX6_init_26 : decode cX6_init 26 = .ok (.aload_n 0, 1) := by decide +kernel
theorem dX6_init_27 : decode cX6_init 27 = .ok (.new 16, 3) := by decide +kernel
theorem dX6_init_30 : decode cX6_init 30 = .ok (.dup, 1) := by decide +kernel
theorem dX6_init_31 : decode cX6_init 31 = .ok (.invokespecial 18, 3) := by decide +kernel
theorem dX6_init_34 : decode cX6_init 34 = .ok (.putfield 23, 3) := by decide +kernel
theorem dX6_init_37 : decode cX6_init 37 = .ok (.aload_n 0, 1) := by decide +kernel
theorem dX6_init_38 : decode cX6_init 38 = .ok (.new 26, 3) := by decide +kernel
theorem dX6_init_41 : decode cX6_init 41 = .ok (.dup, 1) := by decide +kernel
theorem dX6_init_42 : decode cX6_init 42 = .ok (.invokespecial 28, 3) := by decide +kernel
theorem dX6_init_45 : decode cX6_init 45 = .ok (.putfield 29, 3) := by decide +kernel
theorem dX6_init_48 : decode cX6_init 48 = .ok (.aload_n 0, 1) := by decide +kernel
theorem dX6_init_49 : decode cX6_init 49 = .ok (.new 26, 3) := by decide +kernel
theorem dX6_init_52 : decode cX6_init 52 = .ok (.dup, 1) := by decide +kernel
theorem dX6_init_53 : decode cX6_init 53 = .ok (.invokespecial 28, 3) := by decide +kernel
theorem dX6_init_56 : decode cX6_init 56 = .ok (.putfield 33, 3) := by decide +kernel
theorem dX6_init_59 : decode cX6_init 59 = .ok (.aload_n 0, 1) := by decide +kernel
theorem dX6_init_60 : decode cX6_init 60 = .ok (.new 36, 3) := by decide +kernel
theorem dX6_init_63 : decode cX6_init 63 = .ok (.dup, 1) := by decide +kernel
theorem dX6_init_64 : decode cX6_init 64 = .ok (.bipush 8, 2) := by decide +kernel
theorem dX6_init_66 : decode cX6_init 66 = .ok (.invokespecial 38, 3) := by decide +kernel
theorem dX6_init_69 : decode cX6_init 69 = .ok (.putfield 41, 3) := by decide +kernel
theorem dX6_init_72 : decode cX6_init 72 = .ok (.aload_n 0, 1) := by decide +kernel
theorem dX6_init_73 : decode cX6_init 73 = .ok (.new 36, 3) := by decide +kernel
theorem dX6_init_76 : decode cX6_init 76 = .ok (.dup, 1) := by decide +kernel
theorem dX6_init_77 : decode cX6_init 77 = .ok (.iconst 2, 1) := by decide +kernel
theorem dX6_init_78 : decode cX6_init 78 = .ok (.invokespecial 38, 3) := by decide +kernel
theorem dX6_init_81 : decode cX6_init 81 = .ok (.putfield 45, 3) := by decide +kernel
theorem dX6_init_84 : decode cX6_init 84 = .ok (.aload_n 0, 1) := by decide +kernel
theorem dX6_init_85 : decode cX6_init 85 = .ok (.new 48, 3) := by decide +kernel
theorem dX6_init_88 : decode cX6_init 88 = .ok (.dup, 1) := by decide +kernel
theorem dX6_init_89 : decode cX6_init 89 = .ok (.invokespecial 50, 3) := by decide +kernel
theorem dX6_init_92 : decode cX6_init 92 = .ok (.putfield 51, 3) := by decide +kernel
theorem dX6_init_95 : decode cX6_init 95 = .ok (.aload_n 0, 1) := by decide +kernel
theorem dX6_init_96 : decode cX6_init 96 = .ok (.new 55, 3) := by decide +kernel
theorem dX6_init_99 : decode cX6_init 99 = .ok (.dup, 1) := by decide +kernel
theorem dX6_init_100 : decode cX6_init 100 = .ok (.invokespecial 57, 3) := by decide +kernel
theorem dX6_init_103 : decode cX6_init 103 = .ok (.putfield 58, 3) := by decide +kernel
theorem dX6_init_106 : decode cX6_init 106 = .ok (.aload_n 0, 1) := by decide +kernel
theorem dX6_init_107 : decode cX6_init 107 = .ok (.iconst 3, 1) := by decide +kernel
theorem dX6_init_108 : decode cX6_init 108 = .ok (.newarray .int, 2) := by decide +kernel
theorem dX6_init_110 : decode cX6_init 110 = .ok (.putfield 62, 3) := by decide +kernel
theorem dX6_init_113 : decode cX6_init 113 = .ok (.iconst 0, 1) := by decide +kernel
theorem dX6_init_114 : decode cX6_init 114 = .ok (.istore_n 1, 1) := by decide +kernel
theorem dX6_init_115 : decode cX6_init 115 = .ok (.iload_n 1, 1) := by decide +kernel
theorem dX6_init_116 : decode cX6_init 116 = .ok (.ldc 66, 2) := by decide +kernel
theorem dX6_init_118 : decode cX6_init 118 = .ok (.invokevirtual 68, 3) := by decide +kernel
theorem dX6_init_121 : decode cX6_init 121 = .ok (.if_icmp .ge 23, 3) := by decide +kernel
theorem dX6_init_124 : decode cX6_init 124 = .ok (.aload_n 0, 1) := by decide +kernel
theorem dX6_init_125 : decode cX6_init 125 = .ok (.getfield 10, 3) := by decide +kernel
theorem dX6_init_128 : decode cX6_init 128 = .ok (.ldc 66, 2) := by decide +kernel
theorem dX6_init_130 : decode cX6_init 130 = .ok (.iload_n 1, 1) := by decide +kernel
theorem dX6_init_131 : decode cX6_init 131 = .ok (.invokevirtual 74, 3) := by decide +kernel
theorem dX6_init_134 : decode cX6_init 134 = .ok (.invokevirtual 78, 3) := by decide +kernel
theorem dX6_init_137 : decode cX6_init 137 = .ok (.pop, 1) := by decide +kernel
theorem dX6_init_138 : decode cX6_init 138 = .ok (.iinc 1 1, 3) := by decide +kernel
theorem dX6_init_141 : decode cX6_init 141 = .ok (.goto (-26), 3) := by decide +kernel
theorem dX6_init_144 : decode cX6_init 144 = .ok (.aload_n 0, 1) := by decide +kernel
theorem dX6_init_145 : decode cX6_init 145 = .ok (.getfield 10, 3) := by decide +kernel
theorem dX6_init_148 : decode cX6_init 148 = .ok (.aload_n 0, 1) := by decide +kernel
theorem dX6_init_149 : decode cX6_init 149 = .ok (.getfield 19, 3) := by decide +kernel
theorem dX6_init_152 : decode cX6_init 152 = .ok (.invokevirtual 82, 3) := by decide +kernel
theorem dX6_init_155 : decode cX6_init 155 = .ok (.pop, 1) := by decide +kernel
theorem dX6_init_156 : decode cX6_init 156 = .ok (.aload_n 0, 1) := by decide +kernel
theorem dX6_init_157 : decode cX6_init 157 = .ok (.getfield 10, 3) := by decide +kernel
theorem dX6_init_160 : decode cX6_init 160 = .ok (.iconst 0, 1) := by decide +kernel
theorem dX6_init_161 : decode cX6_init 161 = .ok (.putfield 86, 3) := by decide +kernel
theorem dX6_init_164 : decode cX6_init 164 = .ok (.aload_n 0, 1) := by decide +kernel
theorem dX6_init_165 : decode cX6_init 165 = .ok (.getfield 29, 3) := by decide +kernel
theorem dX6_init_168 : decode cX6_init 168 = .ok (.aload_n 0, 1) := by decide +kernel
theorem dX6_init_169 : decode cX6_init 169 = .ok (.getfield 19, 3) := by decide +kernel
theorem dX6_init_172 : decode cX6_init 172 = .ok (.invokevirtual 89, 3) := by decide +kernel
theorem dX6_init_175 : decode cX6_init 175 = .ok (.return_, 1) := by decide +kernel
theorem dX6_write_0 : decode cX6_write 0 = .ok (.iload_n 1, 1) := by decide +kernel
theorem dX6_write_1 : decode cX6_write 1 = .ok (.bipush 32, 2) := by decide +kernel
theorem dX6_write_3 : decode cX6_write 3 = .ok (.bipush 126, 2) := by decide +kernel
theorem dX6_write_5 : decode cX6_write 5 = .ok (.invokestatic 93, 3) := by decide +kernel
theorem dX6_write_8 : decode cX6_write 8 = .ok (.ifCond .ne 5, 3) := by decide +kernel
theorem dX6_write_11 : decode cX6_write 11 = .ok (.iconst (-1), 1) := by decide +kernel
theorem dX6_write_12 : decode cX6_write 12 = .ok (.ireturn, 1) := by decide +kernel
theorem dX6_write_13 : decode cX6_write 13 = .ok (.aload_n 0, 1) := by decide +kernel
theorem dX6_write_14 : decode cX6_write 14 = .ok (.getfield 10, 3) := by decide +kernel
theorem dX6_write_17 : decode cX6_write 17 = .ok (.iload_n 1, 1) := by decide +kernel
theorem dX6_write_18 : decode cX6_write 18 = .ok (.invokevirtual 78, 3) := by decide +kernel
theorem dX6_write_21 : decode cX6_write 21 = .ok (.ifCond .eq 13, 3) := by decide +kernel
theorem dX6_write_24 : decode cX6_write 24 = .ok (.aload_n 0, 1) := by decide +kernel
theorem dX6_write_25 : decode cX6_write 25 = .ok (.getfield 10, 3) := by decide +kernel
theorem dX6_write_28 : decode cX6_write 28 = .ok (.getfield 86, 3) := by decide +kernel
theorem dX6_write_31 : decode cX6_write 31 = .ok (.goto 5, 3) := by decide +kernel
theorem dX6_write_34 : decode cX6_write 34 = .ok (.bipush (-3), 2) := by decide +kernel
theorem dX6_write_36 : decode cX6_write 36 = .ok (.ireturn, 1) := by decide +kernel
theorem dX6_wipe_0 : decode cX6_wipe 0 = .ok (.aload_n 0, 1) := by decide +kernel
theorem dX6_wipe_1 : decode cX6_wipe 1 = .ok (.getfield 10, 3) := by decide +kernel
theorem dX6_wipe_4 : decode cX6_wipe 4 = .ok (.getfield 86, 3) := by decide +kernel
theorem dX6_wipe_7 : decode cX6_wipe 7 = .ok (.istore_n 1, 1) := by decide +kernel
theorem dX6_wipe_8 : decode cX6_wipe 8 = .ok (.aload_n 0, 1) := by decide +kernel
theorem dX6_wipe_9 : decode cX6_wipe 9 = .ok (.getfield 10, 3) := by decide +kernel
theorem dX6_wipe_12 : decode cX6_wipe 12 = .ok (.iconst 0, 1) := by decide +kernel
theorem dX6_wipe_13 : decode cX6_wipe 13 = .ok (.putfield 86, 3) := by decide +kernel
theorem dX6_wipe_16 : decode cX6_wipe 16 = .ok (.iload_n 1, 1) := by decide +kernel
theorem dX6_wipe_17 : decode cX6_wipe 17 = .ok (.ireturn, 1) := by decide +kernel
theorem dX6_fault_0 : decode cX6_fault 0 = .ok (.aload_n 0, 1) := by decide +kernel
theorem dX6_fault_1 : decode cX6_fault 1 = .ok (.getfield 10, 3) := by decide +kernel
theorem dX6_fault_4 : decode cX6_fault 4 = .ok (.aload_n 0, 1) := by decide +kernel
theorem dX6_fault_5 : decode cX6_fault 5 = .ok (.getfield 23, 3) := by decide +kernel
theorem dX6_fault_8 : decode cX6_fault 8 = .ok (.invokevirtual 82, 3) := by decide +kernel
theorem dX6_fault_11 : decode cX6_fault 11 = .ok (.ireturn, 1) := by decide +kernel
theorem dX6_lay_0 : decode cX6_lay 0 = .ok (.aload_n 0, 1) := by decide +kernel
theorem dX6_lay_1 : decode cX6_lay 1 = .ok (.getfield 10, 3) := by decide +kernel
theorem dX6_lay_4 : decode cX6_lay 4 = .ok (.aload_n 0, 1) := by decide +kernel
theorem dX6_lay_5 : decode cX6_lay 5 = .ok (.getfield 23, 3) := by decide +kernel
theorem dX6_lay_8 : decode cX6_lay 8 = .ok (.invokevirtual 82, 3) := by decide +kernel
theorem dX6_lay_11 : decode cX6_lay 11 = .ok (.bipush (-4), 2) := by decide +kernel
theorem dX6_lay_13 : decode cX6_lay 13 = .ok (.if_icmp .ne 13, 3) := by decide +kernel
theorem dX6_lay_16 : decode cX6_lay 16 = .ok (.aload_n 0, 1) := by decide +kernel
theorem dX6_lay_17 : decode cX6_lay 17 = .ok (.getfield 23, 3) := by decide +kernel
theorem dX6_lay_20 : decode cX6_lay 20 = .ok (.getfield 97, 3) := by decide +kernel
theorem dX6_lay_23 : decode cX6_lay 23 = .ok (.ifCond .ne 6, 3) := by decide +kernel
theorem dX6_lay_26 : decode cX6_lay 26 = .ok (.bipush (-2), 2) := by decide +kernel
theorem dX6_lay_28 : decode cX6_lay 28 = .ok (.ireturn, 1) := by decide +kernel
theorem dX6_lay_29 : decode cX6_lay 29 = .ok (.aload_n 0, 1) := by decide +kernel
theorem dX6_lay_30 : decode cX6_lay 30 = .ok (.getfield 19, 3) := by decide +kernel
theorem dX6_lay_33 : decode cX6_lay 33 = .ok (.astore_n 1, 1) := by decide +kernel
theorem dX6_lay_34 : decode cX6_lay 34 = .ok (.aload_n 0, 1) := by decide +kernel
theorem dX6_lay_35 : decode cX6_lay 35 = .ok (.aload_n 0, 1) := by decide +kernel
theorem dX6_lay_36 : decode cX6_lay 36 = .ok (.getfield 23, 3) := by decide +kernel
theorem dX6_lay_39 : decode cX6_lay 39 = .ok (.putfield 19, 3) := by decide +kernel
theorem dX6_lay_42 : decode cX6_lay 42 = .ok (.aload_n 0, 1) := by decide +kernel
theorem dX6_lay_43 : decode cX6_lay 43 = .ok (.aload_n 1, 1) := by decide +kernel
theorem dX6_lay_44 : decode cX6_lay 44 = .ok (.putfield 23, 3) := by decide +kernel
theorem dX6_lay_47 : decode cX6_lay 47 = .ok (.aload_n 0, 1) := by decide +kernel
theorem dX6_lay_48 : decode cX6_lay 48 = .ok (.getfield 29, 3) := by decide +kernel
theorem dX6_lay_51 : decode cX6_lay 51 = .ok (.aload_n 0, 1) := by decide +kernel
theorem dX6_lay_52 : decode cX6_lay 52 = .ok (.getfield 19, 3) := by decide +kernel
theorem dX6_lay_55 : decode cX6_lay 55 = .ok (.invokevirtual 89, 3) := by decide +kernel
theorem dX6_lay_58 : decode cX6_lay 58 = .ok (.aload_n 0, 1) := by decide +kernel
theorem dX6_lay_59 : decode cX6_lay 59 = .ok (.getfield 41, 3) := by decide +kernel
theorem dX6_lay_62 : decode cX6_lay 62 = .ok (.iconst 0, 1) := by decide +kernel
theorem dX6_lay_63 : decode cX6_lay 63 = .ok (.putfield 100, 3) := by decide +kernel
theorem dX6_lay_66 : decode cX6_lay 66 = .ok (.aload_n 0, 1) := by decide +kernel
theorem dX6_lay_67 : decode cX6_lay 67 = .ok (.getfield 45, 3) := by decide +kernel
theorem dX6_lay_70 : decode cX6_lay 70 = .ok (.iconst 0, 1) := by decide +kernel
theorem dX6_lay_71 : decode cX6_lay 71 = .ok (.putfield 100, 3) := by decide +kernel
theorem dX6_lay_74 : decode cX6_lay 74 = .ok (.aload_n 0, 1) := by decide +kernel
theorem dX6_lay_75 : decode cX6_lay 75 = .ok (.getfield 58, 3) := by decide +kernel
theorem dX6_lay_78 : decode cX6_lay 78 = .ok (.iconst 0, 1) := by decide +kernel
theorem dX6_lay_79 : decode cX6_lay 79 = .ok (.putfield 103, 3) := by decide +kernel
theorem dX6_lay_82 : decode cX6_lay 82 = .ok (.aload_n 0, 1) := by decide +kernel
theorem dX6_lay_83 : decode cX6_lay 83 = .ok (.getfield 19, 3) := by decide +kernel
theorem dX6_lay_86 : decode cX6_lay 86 = .ok (.getfield 97, 3) := by decide +kernel
theorem dX6_lay_89 : decode cX6_lay 89 = .ok (.ireturn, 1) := by decide +kernel
theorem dX6_person_0 : decode cX6_person 0 = .ok (.aload_n 0, 1) := by decide +kernel
theorem dX6_person_1 : decode cX6_person 1 = .ok (.iload_n 1, 1) := by decide +kernel
theorem dX6_person_2 : decode cX6_person 2 = .ok (.invokevirtual 104, 3) := by decide +kernel
theorem dX6_person_5 : decode cX6_person 5 = .ok (.ifCond .eq 13, 3) := by decide +kernel
theorem dX6_person_8 : decode cX6_person 8 = .ok (.iload_n 2, 1) := by decide +kernel
theorem dX6_person_9 : decode cX6_person 9 = .ok (.iconst 0, 1) := by decide +kernel
theorem dX6_person_10 : decode cX6_person 10 = .ok (.bipush 6, 2) := by decide +kernel
theorem dX6_person_12 : decode cX6_person 12 = .ok (.invokestatic 93, 3) := by decide +kernel
theorem dX6_person_15 : decode cX6_person 15 = .ok (.ifCond .ne 5, 3) := by decide +kernel
theorem dX6_person_18 : decode cX6_person 18 = .ok (.iconst (-1), 1) := by decide +kernel
theorem dX6_person_19 : decode cX6_person 19 = .ok (.ireturn, 1) := by decide +kernel
theorem dX6_person_20 : decode cX6_person 20 = .ok (.iload_n 2, 1) := by decide +kernel
theorem dX6_person_21 : decode cX6_person 21 = .ok (.tableswitch 82 0 6 #[43, 82, 82, 82, 53, 62, 72], 43) := by decide +kernel
theorem dX6_person_64 : decode cX6_person 64 = .ok (.aload_n 0, 1) := by decide +kernel
theorem dX6_person_65 : decode cX6_person 65 = .ok (.getfield 19, 3) := by decide +kernel
theorem dX6_person_68 : decode cX6_person 68 = .ok (.getfield 107, 3) := by decide +kernel
theorem dX6_person_71 : decode cX6_person 71 = .ok (.iload_n 1, 1) := by decide +kernel
theorem dX6_person_72 : decode cX6_person 72 = .ok (.iaload, 1) := by decide +kernel
theorem dX6_person_73 : decode cX6_person 73 = .ok (.ireturn, 1) := by decide +kernel
theorem dX6_person_74 : decode cX6_person 74 = .ok (.aload_n 0, 1) := by decide +kernel
theorem dX6_person_75 : decode cX6_person 75 = .ok (.getfield 29, 3) := by decide +kernel
theorem dX6_person_78 : decode cX6_person 78 = .ok (.iload_n 1, 1) := by decide +kernel
theorem dX6_person_79 : decode cX6_person 79 = .ok (.invokevirtual 110, 3) := by decide +kernel
theorem dX6_person_82 : decode cX6_person 82 = .ok (.ireturn, 1) := by decide +kernel
theorem dX6_person_83 : decode cX6_person 83 = .ok (.aload_n 0, 1) := by decide +kernel
theorem dX6_person_84 : decode cX6_person 84 = .ok (.getfield 29, 3) := by decide +kernel
theorem dX6_person_87 : decode cX6_person 87 = .ok (.getfield 114, 3) := by decide +kernel
theorem dX6_person_90 : decode cX6_person 90 = .ok (.iload_n 1, 1) := by decide +kernel
theorem dX6_person_91 : decode cX6_person 91 = .ok (.iaload, 1) := by decide +kernel
theorem dX6_person_92 : decode cX6_person 92 = .ok (.ireturn, 1) := by decide +kernel
theorem dX6_person_93 : decode cX6_person 93 = .ok (.aload_n 0, 1) := by decide +kernel
theorem dX6_person_94 : decode cX6_person 94 = .ok (.getfield 29, 3) := by decide +kernel
theorem dX6_person_97 : decode cX6_person 97 = .ok (.getfield 117, 3) := by decide +kernel
theorem dX6_person_100 : decode cX6_person 100 = .ok (.iload_n 1, 1) := by decide +kernel
theorem dX6_person_101 : decode cX6_person 101 = .ok (.iaload, 1) := by decide +kernel
theorem dX6_person_102 : decode cX6_person 102 = .ok (.ireturn, 1) := by decide +kernel
theorem dX6_person_103 : decode cX6_person 103 = .ok (.aload_n 0, 1) := by decide +kernel
theorem dX6_person_104 : decode cX6_person 104 = .ok (.getfield 29, 3) := by decide +kernel
theorem dX6_person_107 : decode cX6_person 107 = .ok (.getfield 120, 3) := by decide +kernel
theorem dX6_person_110 : decode cX6_person 110 = .ok (.iload_n 1, 1) := by decide +kernel
theorem dX6_person_111 : decode cX6_person 111 = .ok (.iconst 3, 1) := by decide +kernel
theorem dX6_person_112 : decode cX6_person 112 = .ok (.imul, 1) := by decide +kernel
theorem dX6_person_113 : decode cX6_person 113 = .ok (.iload_n 2, 1) := by decide +kernel
theorem dX6_person_114 : decode cX6_person 114 = .ok (.iadd, 1) := by decide +kernel
theorem dX6_person_115 : decode cX6_person 115 = .ok (.iconst 1, 1) := by decide +kernel
theorem dX6_person_116 : decode cX6_person 116 = .ok (.isub, 1) := by decide +kernel
theorem dX6_person_117 : decode cX6_person 117 = .ok (.iaload, 1) := by decide +kernel
theorem dX6_person_118 : decode cX6_person 118 = .ok (.ireturn, 1) := by decide +kernel
theorem dX6_deed_0 : decode cX6_deed 0 = .ok (.aload_n 0, 1) := by decide +kernel
theorem dX6_deed_1 : decode cX6_deed 1 = .ok (.iload_n 1, 1) := by decide +kernel
theorem dX6_deed_2 : decode cX6_deed 2 = .ok (.invokevirtual 123, 3) := by decide +kernel
theorem dX6_deed_5 : decode cX6_deed 5 = .ok (.ifCond .eq 12, 3) := by decide +kernel
theorem dX6_deed_8 : decode cX6_deed 8 = .ok (.iload_n 2, 1) := by decide +kernel
theorem dX6_deed_9 : decode cX6_deed 9 = .ok (.iconst 0, 1) := by decide +kernel
theorem dX6_deed_10 : decode cX6_deed 10 = .ok (.iconst 3, 1) := by decide +kernel
theorem dX6_deed_11 : decode cX6_deed 11 = .ok (.invokestatic 93, 3) := by decide +kernel
theorem dX6_deed_14 : decode cX6_deed 14 = .ok (.ifCond .ne 5, 3) := by decide +kernel
theorem dX6_deed_17 : decode cX6_deed 17 = .ok (.iconst (-1), 1) := by decide +kernel
theorem dX6_deed_18 : decode cX6_deed 18 = .ok (.ireturn, 1) := by decide +kernel
theorem dX6_deed_19 : decode cX6_deed 19 = .ok (.iload_n 2, 1) := by decide +kernel
theorem dX6_deed_20 : decode cX6_deed 20 = .ok (.iconst 3, 1) := by decide +kernel
theorem dX6_deed_21 : decode cX6_deed 21 = .ok (.if_icmp .ne 15, 3) := by decide +kernel
theorem dX6_deed_24 : decode cX6_deed 24 = .ok (.aload_n 0, 1) := by decide +kernel
theorem dX6_deed_25 : decode cX6_deed 25 = .ok (.getfield 19, 3) := by decide +kernel
theorem dX6_deed_28 : decode cX6_deed 28 = .ok (.getfield 126, 3) := by decide +kernel
theorem dX6_deed_31 : decode cX6_deed 31 = .ok (.iload_n 1, 1) := by decide +kernel
theorem dX6_deed_32 : decode cX6_deed 32 = .ok (.iaload, 1) := by decide +kernel
theorem dX6_deed_33 : decode cX6_deed 33 = .ok (.goto 16, 3) := by decide +kernel
theorem dX6_deed_36 : decode cX6_deed 36 = .ok (.aload_n 0, 1) := by decide +kernel
theorem dX6_deed_37 : decode cX6_deed 37 = .ok (.getfield 19, 3) := by decide +kernel
theorem dX6_deed_40 : decode cX6_deed 40 = .ok (.getfield 129, 3) := by decide +kernel
theorem dX6_deed_43 : decode cX6_deed 43 = .ok (.iload_n 1, 1) := by decide +kernel
theorem dX6_deed_44 : decode cX6_deed 44 = .ok (.iconst 3, 1) := by decide +kernel
theorem dX6_deed_45 : decode cX6_deed 45 = .ok (.imul, 1) := by decide +kernel
theorem dX6_deed_46 : decode cX6_deed 46 = .ok (.iload_n 2, 1) := by decide +kernel
theorem dX6_deed_47 : decode cX6_deed 47 = .ok (.iadd, 1) := by decide +kernel
theorem dX6_deed_48 : decode cX6_deed 48 = .ok (.iaload, 1) := by decide +kernel
theorem dX6_deed_49 : decode cX6_deed 49 = .ok (.ireturn, 1) := by decide +kernel
theorem dX6_told_0 : decode cX6_told 0 = .ok (.aload_n 0, 1) := by decide +kernel
theorem dX6_told_1 : decode cX6_told 1 = .ok (.iload_n 1, 1) := by decide +kernel
theorem dX6_told_2 : decode cX6_told 2 = .ok (.invokevirtual 104, 3) := by decide +kernel
theorem dX6_told_5 : decode cX6_told 5 = .ok (.ifCond .eq 13, 3) := by decide +kernel
theorem dX6_told_8 : decode cX6_told 8 = .ok (.iload_n 2, 1) := by decide +kernel
theorem dX6_told_9 : decode cX6_told 9 = .ok (.iconst 0, 1) := by decide +kernel
theorem dX6_told_10 : decode cX6_told 10 = .ok (.bipush 6, 2) := by decide +kernel
theorem dX6_told_12 : decode cX6_told 12 = .ok (.invokestatic 93, 3) := by decide +kernel
theorem dX6_told_15 : decode cX6_told 15 = .ok (.ifCond .ne 5, 3) := by decide +kernel
theorem dX6_told_18 : decode cX6_told 18 = .ok (.iconst (-1), 1) := by decide +kernel
theorem dX6_told_19 : decode cX6_told 19 = .ok (.ireturn, 1) := by decide +kernel
theorem dX6_told_20 : decode cX6_told 20 = .ok (.aload_n 0, 1) := by decide +kernel
theorem dX6_told_21 : decode cX6_told 21 = .ok (.getfield 19, 3) := by decide +kernel
theorem dX6_told_24 : decode cX6_told 24 = .ok (.getfield 132, 3) := by decide +kernel
theorem dX6_told_27 : decode cX6_told 27 = .ok (.iload_n 1, 1) := by decide +kernel
theorem dX6_told_28 : decode cX6_told 28 = .ok (.bipush 7, 2) := by decide +kernel
theorem dX6_told_30 : decode cX6_told 30 = .ok (.imul, 1) := by decide +kernel
theorem dX6_told_31 : decode cX6_told 31 = .ok (.iload_n 2, 1) := by decide +kernel
theorem dX6_told_32 : decode cX6_told 32 = .ok (.iadd, 1) := by decide +kernel
theorem dX6_told_33 : decode cX6_told 33 = .ok (.iaload, 1) := by decide +kernel
theorem dX6_told_34 : decode cX6_told 34 = .ok (.ireturn, 1) := by decide +kernel
theorem dX6_can_0 : decode cX6_can 0 = .ok (.aload_n 0, 1) := by decide +kernel
theorem dX6_can_1 : decode cX6_can 1 = .ok (.iload_n 1, 1) := by decide +kernel
theorem dX6_can_2 : decode cX6_can 2 = .ok (.invokevirtual 104, 3) := by decide +kernel
theorem dX6_can_5 : decode cX6_can 5 = .ok (.ifCond .eq 11, 3) := by decide +kernel
theorem dX6_can_8 : decode cX6_can 8 = .ok (.aload_n 0, 1) := by decide +kernel
theorem dX6_can_9 : decode cX6_can 9 = .ok (.iload_n 2, 1) := by decide +kernel
theorem dX6_can_10 : decode cX6_can 10 = .ok (.invokevirtual 123, 3) := by decide +kernel
theorem dX6_can_13 : decode cX6_can 13 = .ok (.ifCond .ne 5, 3) := by decide +kernel
theorem dX6_can_16 : decode cX6_can 16 = .ok (.iconst (-1), 1) := by decide +kernel
theorem dX6_can_17 : decode cX6_can 17 = .ok (.ireturn, 1) := by decide +kernel
theorem dX6_can_18 : decode cX6_can 18 = .ok (.aload_n 0, 1) := by decide +kernel
theorem dX6_can_19 : decode cX6_can 19 = .ok (.getfield 19, 3) := by decide +kernel
theorem dX6_can_22 : decode cX6_can 22 = .ok (.iload_n 1, 1) := by decide +kernel
theorem dX6_can_23 : decode cX6_can 23 = .ok (.iload_n 2, 1) := by decide +kernel
theorem dX6_can_24 : decode cX6_can 24 = .ok (.aload_n 0, 1) := by decide +kernel
theorem dX6_can_25 : decode cX6_can 25 = .ok (.getfield 29, 3) := by decide +kernel
theorem dX6_can_28 : decode cX6_can 28 = .ok (.getfield 120, 3) := by decide +kernel
theorem dX6_can_31 : decode cX6_can 31 = .ok (.iload_n 1, 1) := by decide +kernel
theorem dX6_can_32 : decode cX6_can 32 = .ok (.iconst 3, 1) := by decide +kernel
theorem dX6_can_33 : decode cX6_can 33 = .ok (.imul, 1) := by decide +kernel
theorem dX6_can_34 : decode cX6_can 34 = .ok (.invokevirtual 135, 3) := by decide +kernel
theorem dX6_can_37 : decode cX6_can 37 = .ok (.ifCond .eq 7, 3) := by decide +kernel
theorem dX6_can_40 : decode cX6_can 40 = .ok (.iconst 1, 1) := by decide +kernel
theorem dX6_can_41 : decode cX6_can 41 = .ok (.goto 4, 3) := by decide +kernel
theorem dX6_can_44 : decode cX6_can 44 = .ok (.iconst 0, 1) := by decide +kernel
theorem dX6_can_45 : decode cX6_can 45 = .ok (.ireturn, 1) := by decide +kernel
theorem dX6_pass_0 : decode cX6_pass 0 = .ok (.iload_n 1, 1) := by decide +kernel
theorem dX6_pass_1 : decode cX6_pass 1 = .ok (.iconst 1, 1) := by decide +kernel
theorem dX6_pass_2 : decode cX6_pass 2 = .ok (.bipush 30, 2) := by decide +kernel
theorem dX6_pass_4 : decode cX6_pass 4 = .ok (.invokestatic 93, 3) := by decide +kernel
theorem dX6_pass_7 : decode cX6_pass 7 = .ok (.ifCond .ne 5, 3) := by decide +kernel
theorem dX6_pass_10 : decode cX6_pass 10 = .ok (.iconst (-1), 1) := by decide +kernel
theorem dX6_pass_11 : decode cX6_pass 11 = .ok (.ireturn, 1) := by decide +kernel
theorem dX6_pass_12 : decode cX6_pass 12 = .ok (.aload_n 0, 1) := by decide +kernel
theorem dX6_pass_13 : decode cX6_pass 13 = .ok (.getfield 41, 3) := by decide +kernel
theorem dX6_pass_16 : decode cX6_pass 16 = .ok (.aload_n 0, 1) := by decide +kernel
theorem dX6_pass_17 : decode cX6_pass 17 = .ok (.getfield 29, 3) := by decide +kernel
theorem dX6_pass_20 : decode cX6_pass 20 = .ok (.invokevirtual 139, 3) := by decide +kernel
theorem dX6_pass_23 : decode cX6_pass 23 = .ok (.aload_n 0, 1) := by decide +kernel
theorem dX6_pass_24 : decode cX6_pass 24 = .ok (.getfield 29, 3) := by decide +kernel
theorem dX6_pass_27 : decode cX6_pass 27 = .ok (.aload_n 0, 1) := by decide +kernel
theorem dX6_pass_28 : decode cX6_pass 28 = .ok (.getfield 19, 3) := by decide +kernel
theorem dX6_pass_31 : decode cX6_pass 31 = .ok (.iload_n 1, 1) := by decide +kernel
theorem dX6_pass_32 : decode cX6_pass 32 = .ok (.invokevirtual 143, 3) := by decide +kernel
theorem dX6_pass_35 : decode cX6_pass 35 = .ok (.aload_n 0, 1) := by decide +kernel
theorem dX6_pass_36 : decode cX6_pass 36 = .ok (.getfield 29, 3) := by decide +kernel
theorem dX6_pass_39 : decode cX6_pass 39 = .ok (.invokevirtual 147, 3) := by decide +kernel
theorem dX6_pass_42 : decode cX6_pass 42 = .ok (.ireturn, 1) := by decide +kernel
theorem dX6_act_0 : decode cX6_act 0 = .ok (.aload_n 0, 1) := by decide +kernel
theorem dX6_act_1 : decode cX6_act 1 = .ok (.iload_n 1, 1) := by decide +kernel
theorem dX6_act_2 : decode cX6_act 2 = .ok (.invokevirtual 104, 3) := by decide +kernel
theorem dX6_act_5 : decode cX6_act 5 = .ok (.ifCond .eq 11, 3) := by decide +kernel
theorem dX6_act_8 : decode cX6_act 8 = .ok (.aload_n 0, 1) := by decide +kernel
theorem dX6_act_9 : decode cX6_act 9 = .ok (.iload_n 2, 1) := by decide +kernel
theorem dX6_act_10 : decode cX6_act 10 = .ok (.invokevirtual 123, 3) := by decide +kernel
theorem dX6_act_13 : decode cX6_act 13 = .ok (.ifCond .ne 5, 3) := by decide +kernel
theorem dX6_act_16 : decode cX6_act 16 = .ok (.iconst (-1), 1) := by decide +kernel
theorem dX6_act_17 : decode cX6_act 17 = .ok (.ireturn, 1) := by decide +kernel
theorem dX6_act_18 : decode cX6_act 18 = .ok (.aload_n 0, 1) := by decide +kernel
theorem dX6_act_19 : decode cX6_act 19 = .ok (.getfield 19, 3) := by decide +kernel
theorem dX6_act_22 : decode cX6_act 22 = .ok (.iload_n 1, 1) := by decide +kernel
theorem dX6_act_23 : decode cX6_act 23 = .ok (.iload_n 2, 1) := by decide +kernel
theorem dX6_act_24 : decode cX6_act 24 = .ok (.aload_n 0, 1) := by decide +kernel
theorem dX6_act_25 : decode cX6_act 25 = .ok (.getfield 29, 3) := by decide +kernel
theorem dX6_act_28 : decode cX6_act 28 = .ok (.getfield 120, 3) := by decide +kernel
theorem dX6_act_31 : decode cX6_act 31 = .ok (.iload_n 1, 1) := by decide +kernel
theorem dX6_act_32 : decode cX6_act 32 = .ok (.iconst 3, 1) := by decide +kernel
theorem dX6_act_33 : decode cX6_act 33 = .ok (.imul, 1) := by decide +kernel
theorem dX6_act_34 : decode cX6_act 34 = .ok (.invokevirtual 135, 3) := by decide +kernel
theorem dX6_act_37 : decode cX6_act 37 = .ok (.ifCond .ne 6, 3) := by decide +kernel
theorem dX6_act_40 : decode cX6_act 40 = .ok (.bipush (-2), 2) := by decide +kernel
theorem dX6_act_42 : decode cX6_act 42 = .ok (.ireturn, 1) := by decide +kernel
theorem dX6_act_43 : decode cX6_act 43 = .ok (.aload_n 0, 1) := by decide +kernel
theorem dX6_act_44 : decode cX6_act 44 = .ok (.getfield 41, 3) := by decide +kernel
theorem dX6_act_47 : decode cX6_act 47 = .ok (.aload_n 0, 1) := by decide +kernel
theorem dX6_act_48 : decode cX6_act 48 = .ok (.getfield 29, 3) := by decide +kernel
theorem dX6_act_51 : decode cX6_act 51 = .ok (.invokevirtual 139, 3) := by decide +kernel
theorem dX6_act_54 : decode cX6_act 54 = .ok (.aload_n 0, 1) := by decide +kernel
theorem dX6_act_55 : decode cX6_act 55 = .ok (.getfield 29, 3) := by decide +kernel
theorem dX6_act_58 : decode cX6_act 58 = .ok (.aload_n 0, 1) := by decide +kernel
theorem dX6_act_59 : decode cX6_act 59 = .ok (.getfield 19, 3) := by decide +kernel
theorem dX6_act_62 : decode cX6_act 62 = .ok (.iload_n 1, 1) := by decide +kernel
theorem dX6_act_63 : decode cX6_act 63 = .ok (.iload_n 2, 1) := by decide +kernel
theorem dX6_act_64 : decode cX6_act 64 = .ok (.invokevirtual 150, 3) := by decide +kernel
theorem dX6_act_67 : decode cX6_act 67 = .ok (.ireturn, 1) := by decide +kernel
theorem dX6_lend_0 : decode cX6_lend 0 = .ok (.aload_n 0, 1) := by decide +kernel
theorem dX6_lend_1 : decode cX6_lend 1 = .ok (.iload_n 1, 1) := by decide +kernel
theorem dX6_lend_2 : decode cX6_lend 2 = .ok (.invokevirtual 104, 3) := by decide +kernel
theorem dX6_lend_5 : decode cX6_lend 5 = .ok (.ifCond .eq 34, 3) := by decide +kernel
theorem dX6_lend_8 : decode cX6_lend 8 = .ok (.aload_n 0, 1) := by decide +kernel
theorem dX6_lend_9 : decode cX6_lend 9 = .ok (.iload_n 2, 1) := by decide +kernel
theorem dX6_lend_10 : decode cX6_lend 10 = .ok (.invokevirtual 104, 3) := by decide +kernel
theorem dX6_lend_13 : decode cX6_lend 13 = .ok (.ifCond .eq 26, 3) := by decide +kernel
theorem dX6_lend_16 : decode cX6_lend 16 = .ok (.iload_n 1, 1) := by decide +kernel
theorem dX6_lend_17 : decode cX6_lend 17 = .ok (.iload_n 2, 1) := by decide +kernel
theorem dX6_lend_18 : decode cX6_lend 18 = .ok (.if_icmp .eq 21, 3) := by decide +kernel
theorem dX6_lend_21 : decode cX6_lend 21 = .ok (.iload_n 3, 1) := by decide +kernel
theorem dX6_lend_22 : decode cX6_lend 22 = .ok (.invokestatic 154, 3) := by decide +kernel
theorem dX6_lend_25 : decode cX6_lend 25 = .ok (.ifCond .eq 14, 3) := by decide +kernel
theorem dX6_lend_28 : decode cX6_lend 28 = .ok (.iload 4, 2) := by decide +kernel
theorem dX6_lend_30 : decode cX6_lend 30 = .ok (.iconst 1, 1) := by decide +kernel
theorem dX6_lend_31 : decode cX6_lend 31 = .ok (.bipush 99, 2) := by decide +kernel
theorem dX6_lend_33 : decode cX6_lend 33 = .ok (.invokestatic 93, 3) := by decide +kernel
theorem dX6_lend_36 : decode cX6_lend 36 = .ok (.ifCond .ne 5, 3) := by decide +kernel
theorem dX6_lend_39 : decode cX6_lend 39 = .ok (.iconst (-1), 1) := by decide +kernel
theorem dX6_lend_40 : decode cX6_lend 40 = .ok (.ireturn, 1) := by decide +kernel
theorem dX6_lend_41 : decode cX6_lend 41 = .ok (.iload_n 1, 1) := by decide +kernel
theorem dX6_lend_42 : decode cX6_lend 42 = .ok (.iconst 3, 1) := by decide +kernel
theorem dX6_lend_43 : decode cX6_lend 43 = .ok (.imul, 1) := by decide +kernel
theorem dX6_lend_44 : decode cX6_lend 44 = .ok (.iload_n 3, 1) := by decide +kernel
theorem dX6_lend_45 : decode cX6_lend 45 = .ok (.iadd, 1) := by decide +kernel
theorem dX6_lend_46 : decode cX6_lend 46 = .ok (.istore 5, 2) := by decide +kernel
theorem dX6_lend_48 : decode cX6_lend 48 = .ok (.iload_n 2, 1) := by decide +kernel
theorem dX6_lend_49 : decode cX6_lend 49 = .ok (.iconst 3, 1) := by decide +kernel
theorem dX6_lend_50 : decode cX6_lend 50 = .ok (.imul, 1) := by decide +kernel
theorem dX6_lend_51 : decode cX6_lend 51 = .ok (.iload_n 3, 1) := by decide +kernel
theorem dX6_lend_52 : decode cX6_lend 52 = .ok (.iadd, 1) := by decide +kernel
theorem dX6_lend_53 : decode cX6_lend 53 = .ok (.istore 6, 2) := by decide +kernel
theorem dX6_lend_55 : decode cX6_lend 55 = .ok (.aload_n 0, 1) := by decide +kernel
theorem dX6_lend_56 : decode cX6_lend 56 = .ok (.getfield 29, 3) := by decide +kernel
theorem dX6_lend_59 : decode cX6_lend 59 = .ok (.getfield 120, 3) := by decide +kernel
theorem dX6_lend_62 : decode cX6_lend 62 = .ok (.iload 5, 2) := by decide +kernel
theorem dX6_lend_64 : decode cX6_lend 64 = .ok (.iaload, 1) := by decide +kernel
theorem dX6_lend_65 : decode cX6_lend 65 = .ok (.iload 4, 2) := by decide +kernel
theorem dX6_lend_67 : decode cX6_lend 67 = .ok (.if_icmp .ge 6, 3) := by decide +kernel
theorem dX6_lend_70 : decode cX6_lend 70 = .ok (.bipush (-2), 2) := by decide +kernel
theorem dX6_lend_72 : decode cX6_lend 72 = .ok (.ireturn, 1) := by decide +kernel
theorem dX6_lend_73 : decode cX6_lend 73 = .ok (.aload_n 0, 1) := by decide +kernel
theorem dX6_lend_74 : decode cX6_lend 74 = .ok (.getfield 29, 3) := by decide +kernel
theorem dX6_lend_77 : decode cX6_lend 77 = .ok (.getfield 120, 3) := by decide +kernel
theorem dX6_lend_80 : decode cX6_lend 80 = .ok (.iload 6, 2) := by decide +kernel
theorem dX6_lend_82 : decode cX6_lend 82 = .ok (.iaload, 1) := by decide +kernel
theorem dX6_lend_83 : decode cX6_lend 83 = .ok (.iload 4, 2) := by decide +kernel
theorem dX6_lend_85 : decode cX6_lend 85 = .ok (.iadd, 1) := by decide +kernel
theorem dX6_lend_86 : decode cX6_lend 86 = .ok (.bipush 99, 2) := by decide +kernel
theorem dX6_lend_88 : decode cX6_lend 88 = .ok (.if_icmp .le 6, 3) := by decide +kernel
theorem dX6_lend_91 : decode cX6_lend 91 = .ok (.bipush (-3), 2) := by decide +kernel
theorem dX6_lend_93 : decode cX6_lend 93 = .ok (.ireturn, 1) := by decide +kernel
theorem dX6_lend_94 : decode cX6_lend 94 = .ok (.aload_n 0, 1) := by decide +kernel
theorem dX6_lend_95 : decode cX6_lend 95 = .ok (.getfield 41, 3) := by decide +kernel
theorem dX6_lend_98 : decode cX6_lend 98 = .ok (.aload_n 0, 1) := by decide +kernel
theorem dX6_lend_99 : decode cX6_lend 99 = .ok (.getfield 29, 3) := by decide +kernel
theorem dX6_lend_102 : decode cX6_lend 102 = .ok (.invokevirtual 139, 3) := by decide +kernel
theorem dX6_lend_105 : decode cX6_lend 105 = .ok (.aload_n 0, 1) := by decide +kernel
theorem dX6_lend_106 : decode cX6_lend 106 = .ok (.getfield 29, 3) := by decide +kernel
theorem dX6_lend_109 : decode cX6_lend 109 = .ok (.getfield 120, 3) := by decide +kernel
theorem dX6_lend_112 : decode cX6_lend 112 = .ok (.iload 5, 2) := by decide +kernel
theorem dX6_lend_114 : decode cX6_lend 114 = .ok (.dup2, 1) := by decide +kernel
theorem dX6_lend_115 : decode cX6_lend 115 = .ok (.iaload, 1) := by decide +kernel
theorem dX6_lend_116 : decode cX6_lend 116 = .ok (.iload 4, 2) := by decide +kernel
theorem dX6_lend_118 : decode cX6_lend 118 = .ok (.isub, 1) := by decide +kernel
theorem dX6_lend_119 : decode cX6_lend 119 = .ok (.iastore, 1) := by decide +kernel
theorem dX6_lend_120 : decode cX6_lend 120 = .ok (.aload_n 0, 1) := by decide +kernel
theorem dX6_lend_121 : decode cX6_lend 121 = .ok (.getfield 29, 3) := by decide +kernel
theorem dX6_lend_124 : decode cX6_lend 124 = .ok (.getfield 120, 3) := by decide +kernel
theorem dX6_lend_127 : decode cX6_lend 127 = .ok (.iload 6, 2) := by decide +kernel
theorem dX6_lend_129 : decode cX6_lend 129 = .ok (.dup2, 1) := by decide +kernel
theorem dX6_lend_130 : decode cX6_lend 130 = .ok (.iaload, 1) := by decide +kernel
theorem dX6_lend_131 : decode cX6_lend 131 = .ok (.iload 4, 2) := by decide +kernel
theorem dX6_lend_133 : decode cX6_lend 133 = .ok (.iadd, 1) := by decide +kernel
theorem dX6_lend_134 : decode cX6_lend 134 = .ok (.iastore, 1) := by decide +kernel
theorem dX6_lend_135 : decode cX6_lend 135 = .ok (.aload_n 0, 1) := by decide +kernel
theorem dX6_lend_136 : decode cX6_lend 136 = .ok (.getfield 29, 3) := by decide +kernel
theorem dX6_lend_139 : decode cX6_lend 139 = .ok (.getfield 120, 3) := by decide +kernel
theorem dX6_lend_142 : decode cX6_lend 142 = .ok (.iload 6, 2) := by decide +kernel
theorem dX6_lend_144 : decode cX6_lend 144 = .ok (.iaload, 1) := by decide +kernel
theorem dX6_lend_145 : decode cX6_lend 145 = .ok (.ireturn, 1) := by decide +kernel
theorem dX6_sell_0 : decode cX6_sell 0 = .ok (.aload_n 0, 1) := by decide +kernel
theorem dX6_sell_1 : decode cX6_sell 1 = .ok (.iload_n 1, 1) := by decide +kernel
theorem dX6_sell_2 : decode cX6_sell 2 = .ok (.invokevirtual 104, 3) := by decide +kernel
theorem dX6_sell_5 : decode cX6_sell 5 = .ok (.ifCond .eq 20, 3) := by decide +kernel
theorem dX6_sell_8 : decode cX6_sell 8 = .ok (.iload_n 2, 1) := by decide +kernel
theorem dX6_sell_9 : decode cX6_sell 9 = .ok (.invokestatic 154, 3) := by decide +kernel
theorem dX6_sell_12 : decode cX6_sell 12 = .ok (.ifCond .eq 13, 3) := by decide +kernel
theorem dX6_sell_15 : decode cX6_sell 15 = .ok (.iload_n 3, 1) := by decide +kernel
theorem dX6_sell_16 : decode cX6_sell 16 = .ok (.iconst 1, 1) := by decide +kernel
theorem dX6_sell_17 : decode cX6_sell 17 = .ok (.bipush 99, 2) := by decide +kernel
theorem dX6_sell_19 : decode cX6_sell 19 = .ok (.invokestatic 93, 3) := by decide +kernel
theorem dX6_sell_22 : decode cX6_sell 22 = .ok (.ifCond .ne 5, 3) := by decide +kernel
theorem dX6_sell_25 : decode cX6_sell 25 = .ok (.iconst (-1), 1) := by decide +kernel
theorem dX6_sell_26 : decode cX6_sell 26 = .ok (.ireturn, 1) := by decide +kernel
theorem dX6_sell_27 : decode cX6_sell 27 = .ok (.iload_n 1, 1) := by decide +kernel
theorem dX6_sell_28 : decode cX6_sell 28 = .ok (.iconst 3, 1) := by decide +kernel
theorem dX6_sell_29 : decode cX6_sell 29 = .ok (.imul, 1) := by decide +kernel
theorem dX6_sell_30 : decode cX6_sell 30 = .ok (.iload_n 2, 1) := by decide +kernel
theorem dX6_sell_31 : decode cX6_sell 31 = .ok (.iadd, 1) := by decide +kernel
theorem dX6_sell_32 : decode cX6_sell 32 = .ok (.istore 4, 2) := by decide +kernel
theorem dX6_sell_34 : decode cX6_sell 34 = .ok (.aload_n 0, 1) := by decide +kernel
theorem dX6_sell_35 : decode cX6_sell 35 = .ok (.getfield 29, 3) := by decide +kernel
theorem dX6_sell_38 : decode cX6_sell 38 = .ok (.getfield 120, 3) := by decide +kernel
theorem dX6_sell_41 : decode cX6_sell 41 = .ok (.iload 4, 2) := by decide +kernel
theorem dX6_sell_43 : decode cX6_sell 43 = .ok (.iaload, 1) := by decide +kernel
theorem dX6_sell_44 : decode cX6_sell 44 = .ok (.iload_n 3, 1) := by decide +kernel
theorem dX6_sell_45 : decode cX6_sell 45 = .ok (.if_icmp .ge 6, 3) := by decide +kernel
theorem dX6_sell_48 : decode cX6_sell 48 = .ok (.bipush (-2), 2) := by decide +kernel
theorem dX6_sell_50 : decode cX6_sell 50 = .ok (.ireturn, 1) := by decide +kernel
theorem dX6_sell_51 : decode cX6_sell 51 = .ok (.aload_n 0, 1) := by decide +kernel
theorem dX6_sell_52 : decode cX6_sell 52 = .ok (.getfield 41, 3) := by decide +kernel
theorem dX6_sell_55 : decode cX6_sell 55 = .ok (.aload_n 0, 1) := by decide +kernel
theorem dX6_sell_56 : decode cX6_sell 56 = .ok (.getfield 29, 3) := by decide +kernel
theorem dX6_sell_59 : decode cX6_sell 59 = .ok (.invokevirtual 139, 3) := by decide +kernel
theorem dX6_sell_62 : decode cX6_sell 62 = .ok (.aload_n 0, 1) := by decide +kernel
theorem dX6_sell_63 : decode cX6_sell 63 = .ok (.getfield 29, 3) := by decide +kernel
theorem dX6_sell_66 : decode cX6_sell 66 = .ok (.getfield 120, 3) := by decide +kernel
theorem dX6_sell_69 : decode cX6_sell 69 = .ok (.iload 4, 2) := by decide +kernel
theorem dX6_sell_71 : decode cX6_sell 71 = .ok (.dup2, 1) := by decide +kernel
theorem dX6_sell_72 : decode cX6_sell 72 = .ok (.iaload, 1) := by decide +kernel
theorem dX6_sell_73 : decode cX6_sell 73 = .ok (.iload_n 3, 1) := by decide +kernel
theorem dX6_sell_74 : decode cX6_sell 74 = .ok (.isub, 1) := by decide +kernel
theorem dX6_sell_75 : decode cX6_sell 75 = .ok (.iastore, 1) := by decide +kernel
theorem dX6_sell_76 : decode cX6_sell 76 = .ok (.aload_n 0, 1) := by decide +kernel
theorem dX6_sell_77 : decode cX6_sell 77 = .ok (.getfield 29, 3) := by decide +kernel
theorem dX6_sell_80 : decode cX6_sell 80 = .ok (.getfield 114, 3) := by decide +kernel
theorem dX6_sell_83 : decode cX6_sell 83 = .ok (.iload_n 1, 1) := by decide +kernel
theorem dX6_sell_84 : decode cX6_sell 84 = .ok (.dup2, 1) := by decide +kernel
theorem dX6_sell_85 : decode cX6_sell 85 = .ok (.iaload, 1) := by decide +kernel
theorem dX6_sell_86 : decode cX6_sell 86 = .ok (.iload_n 3, 1) := by decide +kernel
theorem dX6_sell_87 : decode cX6_sell 87 = .ok (.aload_n 0, 1) := by decide +kernel
theorem dX6_sell_88 : decode cX6_sell 88 = .ok (.getfield 19, 3) := by decide +kernel
theorem dX6_sell_91 : decode cX6_sell 91 = .ok (.getfield 157, 3) := by decide +kernel
theorem dX6_sell_94 : decode cX6_sell 94 = .ok (.imul, 1) := by decide +kernel
theorem dX6_sell_95 : decode cX6_sell 95 = .ok (.iadd, 1) := by decide +kernel
theorem dX6_sell_96 : decode cX6_sell 96 = .ok (.iastore, 1) := by decide +kernel
theorem dX6_sell_97 : decode cX6_sell 97 = .ok (.aload_n 0, 1) := by decide +kernel
theorem dX6_sell_98 : decode cX6_sell 98 = .ok (.getfield 29, 3) := by decide +kernel
theorem dX6_sell_101 : decode cX6_sell 101 = .ok (.getfield 114, 3) := by decide +kernel
theorem dX6_sell_104 : decode cX6_sell 104 = .ok (.iload_n 1, 1) := by decide +kernel
theorem dX6_sell_105 : decode cX6_sell 105 = .ok (.iaload, 1) := by decide +kernel
theorem dX6_sell_106 : decode cX6_sell 106 = .ok (.ireturn, 1) := by decide +kernel
theorem dX6_levy_0 : decode cX6_levy 0 = .ok (.iload_n 1, 1) := by decide +kernel
theorem dX6_levy_1 : decode cX6_levy 1 = .ok (.invokestatic 154, 3) := by decide +kernel
theorem dX6_levy_4 : decode cX6_levy 4 = .ok (.ifCond .eq 13, 3) := by decide +kernel
theorem dX6_levy_7 : decode cX6_levy 7 = .ok (.iload_n 2, 1) := by decide +kernel
theorem dX6_levy_8 : decode cX6_levy 8 = .ok (.iconst 1, 1) := by decide +kernel
theorem dX6_levy_9 : decode cX6_levy 9 = .ok (.bipush 99, 2) := by decide +kernel
theorem dX6_levy_11 : decode cX6_levy 11 = .ok (.invokestatic 93, 3) := by decide +kernel
theorem dX6_levy_14 : decode cX6_levy 14 = .ok (.ifCond .ne 5, 3) := by decide +kernel
theorem dX6_levy_17 : decode cX6_levy 17 = .ok (.iconst (-1), 1) := by decide +kernel
theorem dX6_levy_18 : decode cX6_levy 18 = .ok (.ireturn, 1) := by decide +kernel
theorem dX6_levy_19 : decode cX6_levy 19 = .ok (.aload_n 0, 1) := by decide +kernel
theorem dX6_levy_20 : decode cX6_levy 20 = .ok (.getfield 41, 3) := by decide +kernel
theorem dX6_levy_23 : decode cX6_levy 23 = .ok (.aload_n 0, 1) := by decide +kernel
theorem dX6_levy_24 : decode cX6_levy 24 = .ok (.getfield 29, 3) := by decide +kernel
theorem dX6_levy_27 : decode cX6_levy 27 = .ok (.invokevirtual 139, 3) := by decide +kernel
theorem dX6_levy_30 : decode cX6_levy 30 = .ok (.iconst 0, 1) := by decide +kernel
theorem dX6_levy_31 : decode cX6_levy 31 = .ok (.istore_n 3, 1) := by decide +kernel
theorem dX6_levy_32 : decode cX6_levy 32 = .ok (.iload_n 3, 1) := by decide +kernel
theorem dX6_levy_33 : decode cX6_levy 33 = .ok (.iload_n 2, 1) := by decide +kernel
theorem dX6_levy_34 : decode cX6_levy 34 = .ok (.if_icmp .ge 24, 3) := by decide +kernel
theorem dX6_levy_37 : decode cX6_levy 37 = .ok (.aload_n 0, 1) := by decide +kernel
theorem dX6_levy_38 : decode cX6_levy 38 = .ok (.getfield 29, 3) := by decide +kernel
theorem dX6_levy_41 : decode cX6_levy 41 = .ok (.aload_n 0, 1) := by decide +kernel
theorem dX6_levy_42 : decode cX6_levy 42 = .ok (.getfield 19, 3) := by decide +kernel
theorem dX6_levy_45 : decode cX6_levy 45 = .ok (.iload_n 1, 1) := by decide +kernel
theorem dX6_levy_46 : decode cX6_levy 46 = .ok (.invokevirtual 160, 3) := by decide +kernel
theorem dX6_levy_49 : decode cX6_levy 49 = .ok (.ifCond .eq 9, 3) := by decide +kernel
theorem dX6_levy_52 : decode cX6_levy 52 = .ok (.iinc 3 1, 3) := by decide +kernel
theorem dX6_levy_55 : decode cX6_levy 55 = .ok (.goto (-23), 3) := by decide +kernel
theorem dX6_levy_58 : decode cX6_levy 58 = .ok (.iload_n 3, 1) := by decide +kernel
theorem dX6_levy_59 : decode cX6_levy 59 = .ok (.ireturn, 1) := by decide +kernel
theorem dX6_undo_0 : decode cX6_undo 0 = .ok (.aload_n 0, 1) := by decide +kernel
theorem dX6_undo_1 : decode cX6_undo 1 = .ok (.getfield 41, 3) := by decide +kernel
theorem dX6_undo_4 : decode cX6_undo 4 = .ok (.aload_n 0, 1) := by decide +kernel
theorem dX6_undo_5 : decode cX6_undo 5 = .ok (.getfield 29, 3) := by decide +kernel
theorem dX6_undo_8 : decode cX6_undo 8 = .ok (.invokevirtual 164, 3) := by decide +kernel
theorem dX6_undo_11 : decode cX6_undo 11 = .ok (.ifCond .eq 13, 3) := by decide +kernel
theorem dX6_undo_14 : decode cX6_undo 14 = .ok (.aload_n 0, 1) := by decide +kernel
theorem dX6_undo_15 : decode cX6_undo 15 = .ok (.getfield 41, 3) := by decide +kernel
theorem dX6_undo_18 : decode cX6_undo 18 = .ok (.getfield 100, 3) := by decide +kernel
theorem dX6_undo_21 : decode cX6_undo 21 = .ok (.goto 5, 3) := by decide +kernel
theorem dX6_undo_24 : decode cX6_undo 24 = .ok (.bipush (-2), 2) := by decide +kernel
theorem dX6_undo_26 : decode cX6_undo 26 = .ok (.ireturn, 1) := by decide +kernel
theorem dX6_behind_0 : decode cX6_behind 0 = .ok (.iload_n 1, 1) := by decide +kernel
theorem dX6_behind_1 : decode cX6_behind 1 = .ok (.iconst 0, 1) := by decide +kernel
theorem dX6_behind_2 : decode cX6_behind 2 = .ok (.bipush 60, 2) := by decide +kernel
theorem dX6_behind_4 : decode cX6_behind 4 = .ok (.invokestatic 93, 3) := by decide +kernel
theorem dX6_behind_7 : decode cX6_behind 7 = .ok (.ifCond .eq 20, 3) := by decide +kernel
theorem dX6_behind_10 : decode cX6_behind 10 = .ok (.aload_n 0, 1) := by decide +kernel
theorem dX6_behind_11 : decode cX6_behind 11 = .ok (.iload_n 2, 1) := by decide +kernel
theorem dX6_behind_12 : decode cX6_behind 12 = .ok (.invokevirtual 104, 3) := by decide +kernel
theorem dX6_behind_15 : decode cX6_behind 15 = .ok (.ifCond .eq 12, 3) := by decide +kernel
theorem dX6_behind_18 : decode cX6_behind 18 = .ok (.iload_n 3, 1) := by decide +kernel
theorem dX6_behind_19 : decode cX6_behind 19 = .ok (.iconst 0, 1) := by decide +kernel
theorem dX6_behind_20 : decode cX6_behind 20 = .ok (.iconst 4, 1) := by decide +kernel
theorem dX6_behind_21 : decode cX6_behind 21 = .ok (.invokestatic 93, 3) := by decide +kernel
theorem dX6_behind_24 : decode cX6_behind 24 = .ok (.ifCond .ne 5, 3) := by decide +kernel
theorem dX6_behind_27 : decode cX6_behind 27 = .ok (.iconst (-1), 1) := by decide +kernel
theorem dX6_behind_28 : decode cX6_behind 28 = .ok (.ireturn, 1) := by decide +kernel
theorem dX6_behind_29 : decode cX6_behind 29 = .ok (.aload_n 0, 1) := by decide +kernel
theorem dX6_behind_30 : decode cX6_behind 30 = .ok (.getfield 33, 3) := by decide +kernel
theorem dX6_behind_33 : decode cX6_behind 33 = .ok (.aload_n 0, 1) := by decide +kernel
theorem dX6_behind_34 : decode cX6_behind 34 = .ok (.getfield 29, 3) := by decide +kernel
theorem dX6_behind_37 : decode cX6_behind 37 = .ok (.invokevirtual 168, 3) := by decide +kernel
theorem dX6_behind_40 : decode cX6_behind 40 = .ok (.aload_n 0, 1) := by decide +kernel
theorem dX6_behind_41 : decode cX6_behind 41 = .ok (.getfield 33, 3) := by decide +kernel
theorem dX6_behind_44 : decode cX6_behind 44 = .ok (.aload_n 0, 1) := by decide +kernel
theorem dX6_behind_45 : decode cX6_behind 45 = .ok (.getfield 19, 3) := by decide +kernel
theorem dX6_behind_48 : decode cX6_behind 48 = .ok (.iload_n 1, 1) := by decide +kernel
theorem dX6_behind_49 : decode cX6_behind 49 = .ok (.invokevirtual 143, 3) := by decide +kernel
theorem dX6_behind_52 : decode cX6_behind 52 = .ok (.iload_n 3, 1) := by decide +kernel
theorem dX6_behind_53 : decode cX6_behind 53 = .ok (.lookupswitch 56 #[(3, 27), (4, 36)], 27) := by decide +kernel
theorem dX6_behind_80 : decode cX6_behind 80 = .ok (.aload_n 0, 1) := by decide +kernel
theorem dX6_behind_81 : decode cX6_behind 81 = .ok (.getfield 33, 3) := by decide +kernel
theorem dX6_behind_84 : decode cX6_behind 84 = .ok (.iload_n 2, 1) := by decide +kernel
theorem dX6_behind_85 : decode cX6_behind 85 = .ok (.invokevirtual 110, 3) := by decide +kernel
theorem dX6_behind_88 : decode cX6_behind 88 = .ok (.ireturn, 1) := by decide +kernel
theorem dX6_behind_89 : decode cX6_behind 89 = .ok (.aload_n 0, 1) := by decide +kernel
theorem dX6_behind_90 : decode cX6_behind 90 = .ok (.getfield 33, 3) := by decide +kernel
theorem dX6_behind_93 : decode cX6_behind 93 = .ok (.getfield 117, 3) := by decide +kernel
theorem dX6_behind_96 : decode cX6_behind 96 = .ok (.iload_n 2, 1) := by decide +kernel
theorem dX6_behind_97 : decode cX6_behind 97 = .ok (.iaload, 1) := by decide +kernel
theorem dX6_behind_98 : decode cX6_behind 98 = .ok (.aload_n 0, 1) := by decide +kernel
theorem dX6_behind_99 : decode cX6_behind 99 = .ok (.getfield 29, 3) := by decide +kernel
theorem dX6_behind_102 : decode cX6_behind 102 = .ok (.getfield 117, 3) := by decide +kernel
theorem dX6_behind_105 : decode cX6_behind 105 = .ok (.iload_n 2, 1) := by decide +kernel
theorem dX6_behind_106 : decode cX6_behind 106 = .ok (.iaload, 1) := by decide +kernel
theorem dX6_behind_107 : decode cX6_behind 107 = .ok (.isub, 1) := by decide +kernel
theorem dX6_behind_108 : decode cX6_behind 108 = .ok (.ireturn, 1) := by decide +kernel
theorem dX6_behind_109 : decode cX6_behind 109 = .ok (.aload_n 0, 1) := by decide +kernel
theorem dX6_behind_110 : decode cX6_behind 110 = .ok (.getfield 33, 3) := by decide +kernel
theorem dX6_behind_113 : decode cX6_behind 113 = .ok (.getfield 120, 3) := by decide +kernel
theorem dX6_behind_116 : decode cX6_behind 116 = .ok (.iload_n 2, 1) := by decide +kernel
theorem dX6_behind_117 : decode cX6_behind 117 = .ok (.iconst 3, 1) := by decide +kernel
theorem dX6_behind_118 : decode cX6_behind 118 = .ok (.imul, 1) := by decide +kernel
theorem dX6_behind_119 : decode cX6_behind 119 = .ok (.iload_n 3, 1) := by decide +kernel
theorem dX6_behind_120 : decode cX6_behind 120 = .ok (.iadd, 1) := by decide +kernel
theorem dX6_behind_121 : decode cX6_behind 121 = .ok (.iaload, 1) := by decide +kernel
theorem dX6_behind_122 : decode cX6_behind 122 = .ok (.ireturn, 1) := by decide +kernel
theorem dX6_grey_0 : decode cX6_grey 0 = .ok (.iload_n 1, 1) := by decide +kernel
theorem dX6_grey_1 : decode cX6_grey 1 = .ok (.iconst 0, 1) := by decide +kernel
theorem dX6_grey_2 : decode cX6_grey 2 = .ok (.iconst 1, 1) := by decide +kernel
theorem dX6_grey_3 : decode cX6_grey 3 = .ok (.invokestatic 93, 3) := by decide +kernel
theorem dX6_grey_6 : decode cX6_grey 6 = .ok (.ifCond .ne 5, 3) := by decide +kernel
theorem dX6_grey_9 : decode cX6_grey 9 = .ok (.iconst (-1), 1) := by decide +kernel
theorem dX6_grey_10 : decode cX6_grey 10 = .ok (.ireturn, 1) := by decide +kernel
theorem dX6_grey_11 : decode cX6_grey 11 = .ok (.aload_n 0, 1) := by decide +kernel
theorem dX6_grey_12 : decode cX6_grey 12 = .ok (.getfield 33, 3) := by decide +kernel
theorem dX6_grey_15 : decode cX6_grey 15 = .ok (.aload_n 0, 1) := by decide +kernel
theorem dX6_grey_16 : decode cX6_grey 16 = .ok (.getfield 29, 3) := by decide +kernel
theorem dX6_grey_19 : decode cX6_grey 19 = .ok (.invokevirtual 168, 3) := by decide +kernel
theorem dX6_grey_22 : decode cX6_grey 22 = .ok (.iconst 1, 1) := by decide +kernel
theorem dX6_grey_23 : decode cX6_grey 23 = .ok (.istore_n 2, 1) := by decide +kernel
theorem dX6_grey_24 : decode cX6_grey 24 = .ok (.iload_n 2, 1) := by decide +kernel
theorem dX6_grey_25 : decode cX6_grey 25 = .ok (.bipush 60, 2) := by decide +kernel
theorem dX6_grey_27 : decode cX6_grey 27 = .ok (.if_icmp .gt 70, 3) := by decide +kernel
theorem dX6_grey_30 : decode cX6_grey 30 = .ok (.aload_n 0, 1) := by decide +kernel
theorem dX6_grey_31 : decode cX6_grey 31 = .ok (.getfield 33, 3) := by decide +kernel
theorem dX6_grey_34 : decode cX6_grey 34 = .ok (.aload_n 0, 1) := by decide +kernel
theorem dX6_grey_35 : decode cX6_grey 35 = .ok (.getfield 19, 3) := by decide +kernel
theorem dX6_grey_38 : decode cX6_grey 38 = .ok (.invokevirtual 171, 3) := by decide +kernel
theorem dX6_grey_41 : decode cX6_grey 41 = .ok (.aload_n 0, 1) := by decide +kernel
theorem dX6_grey_42 : decode cX6_grey 42 = .ok (.getfield 33, 3) := by decide +kernel
theorem dX6_grey_45 : decode cX6_grey 45 = .ok (.aload_n 0, 1) := by decide +kernel
theorem dX6_grey_46 : decode cX6_grey 46 = .ok (.getfield 19, 3) := by decide +kernel
theorem dX6_grey_49 : decode cX6_grey 49 = .ok (.invokevirtual 174, 3) := by decide +kernel
theorem dX6_grey_52 : decode cX6_grey 52 = .ok (.aload_n 0, 1) := by decide +kernel
theorem dX6_grey_53 : decode cX6_grey 53 = .ok (.getfield 33, 3) := by decide +kernel
theorem dX6_grey_56 : decode cX6_grey 56 = .ok (.aload_n 0, 1) := by decide +kernel
theorem dX6_grey_57 : decode cX6_grey 57 = .ok (.getfield 19, 3) := by decide +kernel
theorem dX6_grey_60 : decode cX6_grey 60 = .ok (.invokevirtual 177, 3) := by decide +kernel
theorem dX6_grey_63 : decode cX6_grey 63 = .ok (.istore_n 3, 1) := by decide +kernel
theorem dX6_grey_64 : decode cX6_grey 64 = .ok (.iload_n 3, 1) := by decide +kernel
theorem dX6_grey_65 : decode cX6_grey 65 = .ok (.bipush (-4), 2) := by decide +kernel
theorem dX6_grey_67 : decode cX6_grey 67 = .ok (.if_icmp .eq 13, 3) := by decide +kernel
theorem dX6_grey_70 : decode cX6_grey 70 = .ok (.iload_n 1, 1) := by decide +kernel
theorem dX6_grey_71 : decode cX6_grey 71 = .ok (.ifCond .ne 7, 3) := by decide +kernel
theorem dX6_grey_74 : decode cX6_grey 74 = .ok (.iload_n 3, 1) := by decide +kernel
theorem dX6_grey_75 : decode cX6_grey 75 = .ok (.goto 4, 3) := by decide +kernel
theorem dX6_grey_78 : decode cX6_grey 78 = .ok (.iload_n 2, 1) := by decide +kernel
theorem dX6_grey_79 : decode cX6_grey 79 = .ok (.ireturn, 1) := by decide +kernel
theorem dX6_grey_80 : decode cX6_grey 80 = .ok (.aload_n 0, 1) := by decide +kernel
theorem dX6_grey_81 : decode cX6_grey 81 = .ok (.getfield 33, 3) := by decide +kernel
theorem dX6_grey_84 : decode cX6_grey 84 = .ok (.aload_n 0, 1) := by decide +kernel
theorem dX6_grey_85 : decode cX6_grey 85 = .ok (.getfield 19, 3) := by decide +kernel
theorem dX6_grey_88 : decode cX6_grey 88 = .ok (.invokevirtual 180, 3) := by decide +kernel
theorem dX6_grey_91 : decode cX6_grey 91 = .ok (.iinc 2 1, 3) := by decide +kernel
theorem dX6_grey_94 : decode cX6_grey 94 = .ok (.goto (-70), 3) := by decide +kernel
theorem dX6_grey_97 : decode cX6_grey 97 = .ok (.bipush (-4), 2) := by decide +kernel
theorem dX6_grey_99 : decode cX6_grey 99 = .ok (.ireturn, 1) := by decide +kernel
theorem dX6_best_0 : decode cX6_best 0 = .ok (.aload_n 0, 1) := by decide +kernel
theorem dX6_best_1 : decode cX6_best 1 = .ok (.iload_n 1, 1) := by decide +kernel
theorem dX6_best_2 : decode cX6_best 2 = .ok (.invokevirtual 104, 3) := by decide +kernel
theorem dX6_best_5 : decode cX6_best 5 = .ok (.ifCond .eq 19, 3) := by decide +kernel
theorem dX6_best_8 : decode cX6_best 8 = .ok (.iload_n 2, 1) := by decide +kernel
theorem dX6_best_9 : decode cX6_best 9 = .ok (.iconst (-1), 1) := by decide +kernel
theorem dX6_best_10 : decode cX6_best 10 = .ok (.if_icmp .lt 14, 3) := by decide +kernel
theorem dX6_best_13 : decode cX6_best 13 = .ok (.iload_n 2, 1) := by decide +kernel
theorem dX6_best_14 : decode cX6_best 14 = .ok (.aload_n 0, 1) := by decide +kernel
theorem dX6_best_15 : decode cX6_best 15 = .ok (.getfield 19, 3) := by decide +kernel
theorem dX6_best_18 : decode cX6_best 18 = .ok (.getfield 183, 3) := by decide +kernel
theorem dX6_best_21 : decode cX6_best 21 = .ok (.if_icmp .lt 5, 3) := by decide +kernel
theorem dX6_best_24 : decode cX6_best 24 = .ok (.iconst (-1), 1) := by decide +kernel
theorem dX6_best_25 : decode cX6_best 25 = .ok (.ireturn, 1) := by decide +kernel
theorem dX6_best_26 : decode cX6_best 26 = .ok (.aload_n 0, 1) := by decide +kernel
theorem dX6_best_27 : decode cX6_best 27 = .ok (.getfield 51, 3) := by decide +kernel
theorem dX6_best_30 : decode cX6_best 30 = .ok (.aload_n 0, 1) := by decide +kernel
theorem dX6_best_31 : decode cX6_best 31 = .ok (.getfield 19, 3) := by decide +kernel
theorem dX6_best_34 : decode cX6_best 34 = .ok (.iload_n 1, 1) := by decide +kernel
theorem dX6_best_35 : decode cX6_best 35 = .ok (.aload_n 0, 1) := by decide +kernel
theorem dX6_best_36 : decode cX6_best 36 = .ok (.getfield 29, 3) := by decide +kernel
theorem dX6_best_39 : decode cX6_best 39 = .ok (.invokevirtual 186, 3) := by decide +kernel
theorem dX6_best_42 : decode cX6_best 42 = .ok (.iload_n 2, 1) := by decide +kernel
theorem dX6_best_43 : decode cX6_best 43 = .ok (.ifCond .ge 13, 3) := by decide +kernel
theorem dX6_best_46 : decode cX6_best 46 = .ok (.aload_n 0, 1) := by decide +kernel
theorem dX6_best_47 : decode cX6_best 47 = .ok (.getfield 51, 3) := by decide +kernel
theorem dX6_best_50 : decode cX6_best 50 = .ok (.getfield 190, 3) := by decide +kernel
theorem dX6_best_53 : decode cX6_best 53 = .ok (.goto 12, 3) := by decide +kernel
theorem dX6_best_56 : decode cX6_best 56 = .ok (.aload_n 0, 1) := by decide +kernel
theorem dX6_best_57 : decode cX6_best 57 = .ok (.getfield 51, 3) := by decide +kernel
theorem dX6_best_60 : decode cX6_best 60 = .ok (.getfield 193, 3) := by decide +kernel
theorem dX6_best_63 : decode cX6_best 63 = .ok (.iload_n 2, 1) := by decide +kernel
theorem dX6_best_64 : decode cX6_best 64 = .ok (.iaload, 1) := by decide +kernel
theorem dX6_best_65 : decode cX6_best 65 = .ok (.ireturn, 1) := by decide +kernel
theorem dX6_lending_0 : decode cX6_lending 0 = .ok (.iconst 0, 1) := by decide +kernel
theorem dX6_lending_1 : decode cX6_lending 1 = .ok (.istore_n 1, 1) := by decide +kernel
theorem dX6_lending_2 : decode cX6_lending 2 = .ok (.iconst 0, 1) := by decide +kernel
theorem dX6_lending_3 : decode cX6_lending 3 = .ok (.istore_n 2, 1) := by decide +kernel
theorem dX6_lending_4 : decode cX6_lending 4 = .ok (.iload_n 2, 1) := by decide +kernel
theorem dX6_lending_5 : decode cX6_lending 5 = .ok (.iconst 3, 1) := by decide +kernel
theorem dX6_lending_6 : decode cX6_lending 6 = .ok (.if_icmp .ge 83, 3) := by decide +kernel
theorem dX6_lending_9 : decode cX6_lending 9 = .ok (.iconst 0, 1) := by decide +kernel
theorem dX6_lending_10 : decode cX6_lending 10 = .ok (.istore_n 3, 1) := by decide +kernel
theorem dX6_lending_11 : decode cX6_lending 11 = .ok (.iconst 0, 1) := by decide +kernel
theorem dX6_lending_12 : decode cX6_lending 12 = .ok (.istore 4, 2) := by decide +kernel
theorem dX6_lending_14 : decode cX6_lending 14 = .ok (.iload 4, 2) := by decide +kernel
theorem dX6_lending_16 : decode cX6_lending 16 = .ok (.aload_n 0, 1) := by decide +kernel
theorem dX6_lending_17 : decode cX6_lending 17 = .ok (.getfield 19, 3) := by decide +kernel
theorem dX6_lending_20 : decode cX6_lending 20 = .ok (.getfield 97, 3) := by decide +kernel
theorem dX6_lending_23 : decode cX6_lending 23 = .ok (.if_icmp .ge 53, 3) := by decide +kernel
theorem dX6_lending_26 : decode cX6_lending 26 = .ok (.aload_n 0, 1) := by decide +kernel
theorem dX6_lending_27 : decode cX6_lending 27 = .ok (.getfield 29, 3) := by decide +kernel
theorem dX6_lending_30 : decode cX6_lending 30 = .ok (.getfield 120, 3) := by decide +kernel
theorem dX6_lending_33 : decode cX6_lending 33 = .ok (.iload 4, 2) := by decide +kernel
theorem dX6_lending_35 : decode cX6_lending 35 = .ok (.iconst 3, 1) := by decide +kernel
theorem dX6_lending_36 : decode cX6_lending 36 = .ok (.imul, 1) := by decide +kernel
theorem dX6_lending_37 : decode cX6_lending 37 = .ok (.iload_n 2, 1) := by decide +kernel
theorem dX6_lending_38 : decode cX6_lending 38 = .ok (.iadd, 1) := by decide +kernel
theorem dX6_lending_39 : decode cX6_lending 39 = .ok (.iaload, 1) := by decide +kernel
theorem dX6_lending_40 : decode cX6_lending 40 = .ok (.aload_n 0, 1) := by decide +kernel
