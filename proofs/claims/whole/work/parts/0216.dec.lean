theorem dX7_takeDraft_198 : decode cX7_takeDraft 198 = .ok (.imul, 1) := by decide +kernel
theorem dX7_takeDraft_199 : decode cX7_takeDraft 199 = .ok (.if_icmp .ge 23, 3) := by decide +kernel
theorem dX7_takeDraft_202 : decode cX7_takeDraft 202 = .ok (.aload_n 0, 1) := by decide +kernel
theorem dX7_takeDraft_203 : decode cX7_takeDraft 203 = .ok (.getfield 38, 3) := by decide +kernel
theorem dX7_takeDraft_206 : decode cX7_takeDraft 206 = .ok (.iconst 1, 1) := by decide +kernel
theorem dX7_takeDraft_207 : decode cX7_takeDraft 207 = .ok (.iload_n 1, 1) := by decide +kernel
theorem dX7_takeDraft_208 : decode cX7_takeDraft 208 = .ok (.iadd, 1) := by decide +kernel
theorem dX7_takeDraft_209 : decode cX7_takeDraft 209 = .ok (.aload_n 0, 1) := by decide +kernel
theorem dX7_takeDraft_210 : decode cX7_takeDraft 210 = .ok (.getfield 20, 3) := by decide +kernel
theorem dX7_takeDraft_213 : decode cX7_takeDraft 213 = .ok (.iload_n 1, 1) := by decide +kernel
theorem dX7_takeDraft_214 : decode cX7_takeDraft 214 = .ok (.iaload, 1) := by decide +kernel
theorem dX7_takeDraft_215 : decode cX7_takeDraft 215 = .ok (.iastore, 1) := by decide +kernel
theorem dX7_takeDraft_216 : decode cX7_takeDraft 216 = .ok (.iinc 1 1, 3) := by decide +kernel
theorem dX7_takeDraft_219 : decode cX7_takeDraft 219 = .ok (.goto (-29), 3) := by decide +kernel
theorem dX7_takeDraft_222 : decode cX7_takeDraft 222 = .ok (.aload_n 0, 1) := by decide +kernel
theorem dX7_takeDraft_223 : decode cX7_takeDraft 223 = .ok (.iconst 0, 1) := by decide +kernel
theorem dX7_takeDraft_224 : decode cX7_takeDraft 224 = .ok (.putfield 92, 3) := by decide +kernel
theorem dX7_takeDraft_227 : decode cX7_takeDraft 227 = .ok (.aload_n 0, 1) := by decide +kernel
theorem dX7_takeDraft_228 : decode cX7_takeDraft 228 = .ok (.iconst 0, 1) := by decide +kernel
theorem dX7_takeDraft_229 : decode cX7_takeDraft 229 = .ok (.putfield 95, 3) := by decide +kernel
theorem dX7_takeDraft_232 : decode cX7_takeDraft 232 = .ok (.aload_n 0, 1) := by decide +kernel
theorem dX7_takeDraft_233 : decode cX7_takeDraft 233 = .ok (.iconst 0, 1) := by decide +kernel
theorem dX7_takeDraft_234 : decode cX7_takeDraft 234 = .ok (.putfield 98, 3) := by decide +kernel
theorem dX7_takeDraft_237 : decode cX7_takeDraft 237 = .ok (.return_, 1) := by decide +kernel
theorem dX7_lay_0 : decode cX7_lay 0 = .ok (.aload_n 0, 1) := by decide +kernel
theorem dX7_lay_1 : decode cX7_lay 1 = .ok (.invokevirtual 101, 3) := by decide +kernel
theorem dX7_lay_4 : decode cX7_lay 4 = .ok (.bipush (-4), 2) := by decide +kernel
theorem dX7_lay_6 : decode cX7_lay 6 = .ok (.if_icmp .ne 12, 3) := by decide +kernel
theorem dX7_lay_9 : decode cX7_lay 9 = .ok (.aload_n 0, 1) := by decide +kernel
theorem dX7_lay_10 : decode cX7_lay 10 = .ok (.getfield 13, 3) := by decide +kernel
theorem dX7_lay_13 : decode cX7_lay 13 = .ok (.iconst 1, 1) := by decide +kernel
theorem dX7_lay_14 : decode cX7_lay 14 = .ok (.iaload, 1) := by decide +kernel
theorem dX7_lay_15 : decode cX7_lay 15 = .ok (.ifCond .ne 6, 3) := by decide +kernel
theorem dX7_lay_18 : decode cX7_lay 18 = .ok (.bipush (-2), 2) := by decide +kernel
theorem dX7_lay_20 : decode cX7_lay 20 = .ok (.ireturn, 1) := by decide +kernel
theorem dX7_lay_21 : decode cX7_lay 21 = .ok (.aload_n 0, 1) := by decide +kernel
theorem dX7_lay_22 : decode cX7_lay 22 = .ok (.invokevirtual 63, 3) := by decide +kernel
theorem dX7_lay_25 : decode cX7_lay 25 = .ok (.aload_n 0, 1) := by decide +kernel
theorem dX7_lay_26 : decode cX7_lay 26 = .ok (.getfield 13, 3) := by decide +kernel
theorem dX7_lay_29 : decode cX7_lay 29 = .ok (.iconst 0, 1) := by decide +kernel
theorem dX7_lay_30 : decode cX7_lay 30 = .ok (.iaload, 1) := by decide +kernel
theorem dX7_lay_31 : decode cX7_lay 31 = .ok (.ireturn, 1) := by decide +kernel
theorem dX7_copy_0 : decode cX7_copy 0 = .ok (.iconst 0, 1) := by decide +kernel
theorem dX7_copy_1 : decode cX7_copy 1 = .ok (.istore_n 3, 1) := by decide +kernel
theorem dX7_copy_2 : decode cX7_copy 2 = .ok (.iload_n 3, 1) := by decide +kernel
theorem dX7_copy_3 : decode cX7_copy 3 = .ok (.bipush 31, 2) := by decide +kernel
theorem dX7_copy_5 : decode cX7_copy 5 = .ok (.if_icmp .ge 25, 3) := by decide +kernel
theorem dX7_copy_8 : decode cX7_copy 8 = .ok (.aload_n 0, 1) := by decide +kernel
theorem dX7_copy_9 : decode cX7_copy 9 = .ok (.getfield 38, 3) := by decide +kernel
theorem dX7_copy_12 : decode cX7_copy 12 = .ok (.iload_n 2, 1) := by decide +kernel
theorem dX7_copy_13 : decode cX7_copy 13 = .ok (.iload_n 3, 1) := by decide +kernel
theorem dX7_copy_14 : decode cX7_copy 14 = .ok (.iadd, 1) := by decide +kernel
theorem dX7_copy_15 : decode cX7_copy 15 = .ok (.aload_n 0, 1) := by decide +kernel
theorem dX7_copy_16 : decode cX7_copy 16 = .ok (.getfield 38, 3) := by decide +kernel
theorem dX7_copy_19 : decode cX7_copy 19 = .ok (.iload_n 1, 1) := by decide +kernel
theorem dX7_copy_20 : decode cX7_copy 20 = .ok (.iload_n 3, 1) := by decide +kernel
theorem dX7_copy_21 : decode cX7_copy 21 = .ok (.iadd, 1) := by decide +kernel
theorem dX7_copy_22 : decode cX7_copy 22 = .ok (.iaload, 1) := by decide +kernel
theorem dX7_copy_23 : decode cX7_copy 23 = .ok (.iastore, 1) := by decide +kernel
theorem dX7_copy_24 : decode cX7_copy 24 = .ok (.iinc 3 1, 3) := by decide +kernel
theorem dX7_copy_27 : decode cX7_copy 27 = .ok (.goto (-25), 3) := by decide +kernel
theorem dX7_copy_30 : decode cX7_copy 30 = .ok (.return_, 1) := by decide +kernel
theorem dX7_isPerson_0 : decode cX7_isPerson 0 = .ok (.iload_n 1, 1) := by decide +kernel
theorem dX7_isPerson_1 : decode cX7_isPerson 1 = .ok (.iconst 0, 1) := by decide +kernel
theorem dX7_isPerson_2 : decode cX7_isPerson 2 = .ok (.aload_n 0, 1) := by decide +kernel
theorem dX7_isPerson_3 : decode cX7_isPerson 3 = .ok (.getfield 13, 3) := by decide +kernel
theorem dX7_isPerson_6 : decode cX7_isPerson 6 = .ok (.iconst 0, 1) := by decide +kernel
theorem dX7_isPerson_7 : decode cX7_isPerson 7 = .ok (.iaload, 1) := by decide +kernel
theorem dX7_isPerson_8 : decode cX7_isPerson 8 = .ok (.iconst 1, 1) := by decide +kernel
theorem dX7_isPerson_9 : decode cX7_isPerson 9 = .ok (.isub, 1) := by decide +kernel
theorem dX7_isPerson_10 : decode cX7_isPerson 10 = .ok (.invokestatic 66, 3) := by decide +kernel
theorem dX7_isPerson_13 : decode cX7_isPerson 13 = .ok (.ireturn, 1) := by decide +kernel
theorem dX7_isDeed_0 : decode cX7_isDeed 0 = .ok (.iload_n 1, 1) := by decide +kernel
theorem dX7_isDeed_1 : decode cX7_isDeed 1 = .ok (.iconst 0, 1) := by decide +kernel
theorem dX7_isDeed_2 : decode cX7_isDeed 2 = .ok (.aload_n 0, 1) := by decide +kernel
theorem dX7_isDeed_3 : decode cX7_isDeed 3 = .ok (.getfield 23, 3) := by decide +kernel
theorem dX7_isDeed_6 : decode cX7_isDeed 6 = .ok (.iconst 0, 1) := by decide +kernel
theorem dX7_isDeed_7 : decode cX7_isDeed 7 = .ok (.iaload, 1) := by decide +kernel
theorem dX7_isDeed_8 : decode cX7_isDeed 8 = .ok (.iconst 1, 1) := by decide +kernel
theorem dX7_isDeed_9 : decode cX7_isDeed 9 = .ok (.isub, 1) := by decide +kernel
theorem dX7_isDeed_10 : decode cX7_isDeed 10 = .ok (.invokestatic 66, 3) := by decide +kernel
theorem dX7_isDeed_13 : decode cX7_isDeed 13 = .ok (.ireturn, 1) := by decide +kernel
theorem dX7_isSort_0 : decode cX7_isSort 0 = .ok (.iload_n 0, 1) := by decide +kernel
theorem dX7_isSort_1 : decode cX7_isSort 1 = .ok (.iconst 0, 1) := by decide +kernel
theorem dX7_isSort_2 : decode cX7_isSort 2 = .ok (.iconst 2, 1) := by decide +kernel
theorem dX7_isSort_3 : decode cX7_isSort 3 = .ok (.invokestatic 66, 3) := by decide +kernel
theorem dX7_isSort_6 : decode cX7_isSort 6 = .ok (.ireturn, 1) := by decide +kernel
theorem dX7_hue_0 : decode cX7_hue 0 = .ok (.iconst 0, 1) := by decide +kernel
theorem dX7_hue_1 : decode cX7_hue 1 = .ok (.istore_n 3, 1) := by decide +kernel
theorem dX7_hue_2 : decode cX7_hue 2 = .ok (.iconst 0, 1) := by decide +kernel
theorem dX7_hue_3 : decode cX7_hue 3 = .ok (.istore 4, 2) := by decide +kernel
theorem dX7_hue_5 : decode cX7_hue 5 = .ok (.iload 4, 2) := by decide +kernel
theorem dX7_hue_7 : decode cX7_hue 7 = .ok (.iconst 3, 1) := by decide +kernel
theorem dX7_hue_8 : decode cX7_hue 8 = .ok (.if_icmp .ge 38, 3) := by decide +kernel
theorem dX7_hue_11 : decode cX7_hue 11 = .ok (.iload_n 3, 1) := by decide +kernel
theorem dX7_hue_12 : decode cX7_hue 12 = .ok (.aload_n 0, 1) := by decide +kernel
theorem dX7_hue_13 : decode cX7_hue 13 = .ok (.getfield 38, 3) := by decide +kernel
theorem dX7_hue_16 : decode cX7_hue 16 = .ok (.iload_n 1, 1) := by decide +kernel
theorem dX7_hue_17 : decode cX7_hue 17 = .ok (.iconst 1, 1) := by decide +kernel
theorem dX7_hue_18 : decode cX7_hue 18 = .ok (.iadd, 1) := by decide +kernel
theorem dX7_hue_19 : decode cX7_hue 19 = .ok (.iconst 3, 1) := by decide +kernel
theorem dX7_hue_20 : decode cX7_hue 20 = .ok (.iload_n 2, 1) := by decide +kernel
theorem dX7_hue_21 : decode cX7_hue 21 = .ok (.imul, 1) := by decide +kernel
theorem dX7_hue_22 : decode cX7_hue 22 = .ok (.iadd, 1) := by decide +kernel
theorem dX7_hue_23 : decode cX7_hue 23 = .ok (.iload 4, 2) := by decide +kernel
theorem dX7_hue_25 : decode cX7_hue 25 = .ok (.iadd, 1) := by decide +kernel
theorem dX7_hue_26 : decode cX7_hue 26 = .ok (.iaload, 1) := by decide +kernel
theorem dX7_hue_27 : decode cX7_hue 27 = .ok (.ifCond .le 10, 3) := by decide +kernel
theorem dX7_hue_30 : decode cX7_hue 30 = .ok (.iconst 1, 1) := by decide +kernel
theorem dX7_hue_31 : decode cX7_hue 31 = .ok (.iload 4, 2) := by decide +kernel
theorem dX7_hue_33 : decode cX7_hue 33 = .ok (.ishl, 1) := by decide +kernel
theorem dX7_hue_34 : decode cX7_hue 34 = .ok (.goto 4, 3) := by decide +kernel
theorem dX7_hue_37 : decode cX7_hue 37 = .ok (.iconst 0, 1) := by decide +kernel
theorem dX7_hue_38 : decode cX7_hue 38 = .ok (.ior, 1) := by decide +kernel
theorem dX7_hue_39 : decode cX7_hue 39 = .ok (.istore_n 3, 1) := by decide +kernel
theorem dX7_hue_40 : decode cX7_hue 40 = .ok (.iinc 4 1, 3) := by decide +kernel
theorem dX7_hue_43 : decode cX7_hue 43 = .ok (.goto (-38), 3) := by decide +kernel
theorem dX7_hue_46 : decode cX7_hue 46 = .ok (.iload_n 3, 1) := by decide +kernel
theorem dX7_hue_47 : decode cX7_hue 47 = .ok (.ireturn, 1) := by decide +kernel
theorem dX7_person_0 : decode cX7_person 0 = .ok (.aload_n 0, 1) := by decide +kernel
theorem dX7_person_1 : decode cX7_person 1 = .ok (.iload_n 1, 1) := by decide +kernel
theorem dX7_person_2 : decode cX7_person 2 = .ok (.invokevirtual 104, 3) := by decide +kernel
theorem dX7_person_5 : decode cX7_person 5 = .ok (.ifCond .ne 5, 3) := by decide +kernel
theorem dX7_person_8 : decode cX7_person 8 = .ok (.iconst (-1), 1) := by decide +kernel
theorem dX7_person_9 : decode cX7_person 9 = .ok (.ireturn, 1) := by decide +kernel
theorem dX7_person_10 : decode cX7_person 10 = .ok (.iload_n 2, 1) := by decide +kernel
theorem dX7_person_11 : decode cX7_person 11 = .ok (.tableswitch 90 0 6 #[41, 48, 48, 48, 63, 70, 80], 41) := by decide +kernel
theorem dX7_person_52 : decode cX7_person 52 = .ok (.aload_n 0, 1) := by decide +kernel
theorem dX7_person_53 : decode cX7_person 53 = .ok (.getfield 17, 3) := by decide +kernel
theorem dX7_person_56 : decode cX7_person 56 = .ok (.iload_n 1, 1) := by decide +kernel
theorem dX7_person_57 : decode cX7_person 57 = .ok (.iaload, 1) := by decide +kernel
theorem dX7_person_58 : decode cX7_person 58 = .ok (.ireturn, 1) := by decide +kernel
theorem dX7_person_59 : decode cX7_person 59 = .ok (.aload_n 0, 1) := by decide +kernel
theorem dX7_person_60 : decode cX7_person 60 = .ok (.getfield 38, 3) := by decide +kernel
theorem dX7_person_63 : decode cX7_person 63 = .ok (.iconst 1, 1) := by decide +kernel
theorem dX7_person_64 : decode cX7_person 64 = .ok (.iconst 3, 1) := by decide +kernel
theorem dX7_person_65 : decode cX7_person 65 = .ok (.iload_n 1, 1) := by decide +kernel
theorem dX7_person_66 : decode cX7_person 66 = .ok (.imul, 1) := by decide +kernel
theorem dX7_person_67 : decode cX7_person 67 = .ok (.iadd, 1) := by decide +kernel
theorem dX7_person_68 : decode cX7_person 68 = .ok (.iload_n 2, 1) := by decide +kernel
theorem dX7_person_69 : decode cX7_person 69 = .ok (.iadd, 1) := by decide +kernel
theorem dX7_person_70 : decode cX7_person 70 = .ok (.iconst 1, 1) := by decide +kernel
theorem dX7_person_71 : decode cX7_person 71 = .ok (.isub, 1) := by decide +kernel
theorem dX7_person_72 : decode cX7_person 72 = .ok (.iaload, 1) := by decide +kernel
theorem dX7_person_73 : decode cX7_person 73 = .ok (.ireturn, 1) := by decide +kernel
theorem dX7_person_74 : decode cX7_person 74 = .ok (.aload_n 0, 1) := by decide +kernel
theorem dX7_person_75 : decode cX7_person 75 = .ok (.iconst 0, 1) := by decide +kernel
theorem dX7_person_76 : decode cX7_person 76 = .ok (.iload_n 1, 1) := by decide +kernel
theorem dX7_person_77 : decode cX7_person 77 = .ok (.invokevirtual 108, 3) := by decide +kernel
theorem dX7_person_80 : decode cX7_person 80 = .ok (.ireturn, 1) := by decide +kernel
theorem dX7_person_81 : decode cX7_person 81 = .ok (.aload_n 0, 1) := by decide +kernel
theorem dX7_person_82 : decode cX7_person 82 = .ok (.getfield 38, 3) := by decide +kernel
theorem dX7_person_85 : decode cX7_person 85 = .ok (.bipush 19, 2) := by decide +kernel
theorem dX7_person_87 : decode cX7_person 87 = .ok (.iload_n 1, 1) := by decide +kernel
theorem dX7_person_88 : decode cX7_person 88 = .ok (.iadd, 1) := by decide +kernel
theorem dX7_person_89 : decode cX7_person 89 = .ok (.iaload, 1) := by decide +kernel
theorem dX7_person_90 : decode cX7_person 90 = .ok (.ireturn, 1) := by decide +kernel
theorem dX7_person_91 : decode cX7_person 91 = .ok (.aload_n 0, 1) := by decide +kernel
theorem dX7_person_92 : decode cX7_person 92 = .ok (.getfield 38, 3) := by decide +kernel
theorem dX7_person_95 : decode cX7_person 95 = .ok (.bipush 25, 2) := by decide +kernel
theorem dX7_person_97 : decode cX7_person 97 = .ok (.iload_n 1, 1) := by decide +kernel
theorem dX7_person_98 : decode cX7_person 98 = .ok (.iadd, 1) := by decide +kernel
theorem dX7_person_99 : decode cX7_person 99 = .ok (.iaload, 1) := by decide +kernel
theorem dX7_person_100 : decode cX7_person 100 = .ok (.ireturn, 1) := by decide +kernel
theorem dX7_person_101 : decode cX7_person 101 = .ok (.iconst (-1), 1) := by decide +kernel
theorem dX7_person_102 : decode cX7_person 102 = .ok (.ireturn, 1) := by decide +kernel
theorem dX7_deed_0 : decode cX7_deed 0 = .ok (.aload_n 0, 1) := by decide +kernel
theorem dX7_deed_1 : decode cX7_deed 1 = .ok (.iload_n 1, 1) := by decide +kernel
theorem dX7_deed_2 : decode cX7_deed 2 = .ok (.invokevirtual 112, 3) := by decide +kernel
theorem dX7_deed_5 : decode cX7_deed 5 = .ok (.ifCond .eq 12, 3) := by decide +kernel
theorem dX7_deed_8 : decode cX7_deed 8 = .ok (.iload_n 2, 1) := by decide +kernel
theorem dX7_deed_9 : decode cX7_deed 9 = .ok (.iconst 0, 1) := by decide +kernel
theorem dX7_deed_10 : decode cX7_deed 10 = .ok (.iconst 3, 1) := by decide +kernel
theorem dX7_deed_11 : decode cX7_deed 11 = .ok (.invokestatic 66, 3) := by decide +kernel
theorem dX7_deed_14 : decode cX7_deed 14 = .ok (.ifCond .ne 5, 3) := by decide +kernel
theorem dX7_deed_17 : decode cX7_deed 17 = .ok (.iconst (-1), 1) := by decide +kernel
theorem dX7_deed_18 : decode cX7_deed 18 = .ok (.ireturn, 1) := by decide +kernel
theorem dX7_deed_19 : decode cX7_deed 19 = .ok (.iload_n 2, 1) := by decide +kernel
theorem dX7_deed_20 : decode cX7_deed 20 = .ok (.iconst 3, 1) := by decide +kernel
theorem dX7_deed_21 : decode cX7_deed 21 = .ok (.if_icmp .ge 16, 3) := by decide +kernel
theorem dX7_deed_24 : decode cX7_deed 24 = .ok (.aload_n 0, 1) := by decide +kernel
theorem dX7_deed_25 : decode cX7_deed 25 = .ok (.getfield 26, 3) := by decide +kernel
theorem dX7_deed_28 : decode cX7_deed 28 = .ok (.iconst 3, 1) := by decide +kernel
theorem dX7_deed_29 : decode cX7_deed 29 = .ok (.iload_n 1, 1) := by decide +kernel
theorem dX7_deed_30 : decode cX7_deed 30 = .ok (.imul, 1) := by decide +kernel
theorem dX7_deed_31 : decode cX7_deed 31 = .ok (.iload_n 2, 1) := by decide +kernel
theorem dX7_deed_32 : decode cX7_deed 32 = .ok (.iadd, 1) := by decide +kernel
theorem dX7_deed_33 : decode cX7_deed 33 = .ok (.iaload, 1) := by decide +kernel
theorem dX7_deed_34 : decode cX7_deed 34 = .ok (.goto 9, 3) := by decide +kernel
theorem dX7_deed_37 : decode cX7_deed 37 = .ok (.aload_n 0, 1) := by decide +kernel
theorem dX7_deed_38 : decode cX7_deed 38 = .ok (.getfield 29, 3) := by decide +kernel
theorem dX7_deed_41 : decode cX7_deed 41 = .ok (.iload_n 1, 1) := by decide +kernel
theorem dX7_deed_42 : decode cX7_deed 42 = .ok (.iaload, 1) := by decide +kernel
theorem dX7_deed_43 : decode cX7_deed 43 = .ok (.ireturn, 1) := by decide +kernel
theorem dX7_told_0 : decode cX7_told 0 = .ok (.aload_n 0, 1) := by decide +kernel
theorem dX7_told_1 : decode cX7_told 1 = .ok (.iload_n 1, 1) := by decide +kernel
theorem dX7_told_2 : decode cX7_told 2 = .ok (.invokevirtual 104, 3) := by decide +kernel
theorem dX7_told_5 : decode cX7_told 5 = .ok (.ifCond .eq 27, 3) := by decide +kernel
theorem dX7_told_8 : decode cX7_told 8 = .ok (.iload_n 2, 1) := by decide +kernel
theorem dX7_told_9 : decode cX7_told 9 = .ok (.iconst 0, 1) := by decide +kernel
theorem dX7_told_10 : decode cX7_told 10 = .ok (.bipush 6, 2) := by decide +kernel
theorem dX7_told_12 : decode cX7_told 12 = .ok (.invokestatic 66, 3) := by decide +kernel
theorem dX7_told_15 : decode cX7_told 15 = .ok (.ifCond .eq 17, 3) := by decide +kernel
theorem dX7_told_18 : decode cX7_told 18 = .ok (.aload_n 0, 1) := by decide +kernel
theorem dX7_told_19 : decode cX7_told 19 = .ok (.getfield 32, 3) := by decide +kernel
theorem dX7_told_22 : decode cX7_told 22 = .ok (.bipush 7, 2) := by decide +kernel
theorem dX7_told_24 : decode cX7_told 24 = .ok (.iload_n 1, 1) := by decide +kernel
theorem dX7_told_25 : decode cX7_told 25 = .ok (.imul, 1) := by decide +kernel
theorem dX7_told_26 : decode cX7_told 26 = .ok (.iload_n 2, 1) := by decide +kernel
theorem dX7_told_27 : decode cX7_told 27 = .ok (.iadd, 1) := by decide +kernel
theorem dX7_told_28 : decode cX7_told 28 = .ok (.iaload, 1) := by decide +kernel
theorem dX7_told_29 : decode cX7_told 29 = .ok (.goto 4, 3) := by decide +kernel
theorem dX7_told_32 : decode cX7_told 32 = .ok (.iconst (-1), 1) := by decide +kernel
theorem dX7_told_33 : decode cX7_told 33 = .ok (.ireturn, 1) := by decide +kernel
theorem dX7_plainCost_0 : decode cX7_plainCost 0 = .ok (.iconst 0, 1) := by decide +kernel
theorem dX7_plainCost_1 : decode cX7_plainCost 1 = .ok (.istore_n 3, 1) := by decide +kernel
theorem dX7_plainCost_2 : decode cX7_plainCost 2 = .ok (.iconst 0, 1) := by decide +kernel
theorem dX7_plainCost_3 : decode cX7_plainCost 3 = .ok (.istore 4, 2) := by decide +kernel
theorem dX7_plainCost_5 : decode cX7_plainCost 5 = .ok (.iload 4, 2) := by decide +kernel
theorem dX7_plainCost_7 : decode cX7_plainCost 7 = .ok (.iconst 3, 1) := by decide +kernel
theorem dX7_plainCost_8 : decode cX7_plainCost 8 = .ok (.if_icmp .ge 37, 3) := by decide +kernel
theorem dX7_plainCost_11 : decode cX7_plainCost 11 = .ok (.aload_n 0, 1) := by decide +kernel
theorem dX7_plainCost_12 : decode cX7_plainCost 12 = .ok (.getfield 41, 3) := by decide +kernel
theorem dX7_plainCost_15 : decode cX7_plainCost 15 = .ok (.iload 4, 2) := by decide +kernel
theorem dX7_plainCost_17 : decode cX7_plainCost 17 = .ok (.aload_n 0, 1) := by decide +kernel
theorem dX7_plainCost_18 : decode cX7_plainCost 18 = .ok (.getfield 26, 3) := by decide +kernel
theorem dX7_plainCost_21 : decode cX7_plainCost 21 = .ok (.iconst 3, 1) := by decide +kernel
theorem dX7_plainCost_22 : decode cX7_plainCost 22 = .ok (.iload_n 2, 1) := by decide +kernel
theorem dX7_plainCost_23 : decode cX7_plainCost 23 = .ok (.imul, 1) := by decide +kernel
theorem dX7_plainCost_24 : decode cX7_plainCost 24 = .ok (.iload 4, 2) := by decide +kernel
theorem dX7_plainCost_26 : decode cX7_plainCost 26 = .ok (.iadd, 1) := by decide +kernel
theorem dX7_plainCost_27 : decode cX7_plainCost 27 = .ok (.iaload, 1) := by decide +kernel
theorem dX7_plainCost_28 : decode cX7_plainCost 28 = .ok (.iastore, 1) := by decide +kernel
theorem dX7_plainCost_29 : decode cX7_plainCost 29 = .ok (.iload_n 3, 1) := by decide +kernel
theorem dX7_plainCost_30 : decode cX7_plainCost 30 = .ok (.aload_n 0, 1) := by decide +kernel
theorem dX7_plainCost_31 : decode cX7_plainCost 31 = .ok (.getfield 41, 3) := by decide +kernel
theorem dX7_plainCost_34 : decode cX7_plainCost 34 = .ok (.iload 4, 2) := by decide +kernel
theorem dX7_plainCost_36 : decode cX7_plainCost 36 = .ok (.iaload, 1) := by decide +kernel
theorem dX7_plainCost_37 : decode cX7_plainCost 37 = .ok (.iadd, 1) := by decide +kernel
theorem dX7_plainCost_38 : decode cX7_plainCost 38 = .ok (.istore_n 3, 1) := by decide +kernel
theorem dX7_plainCost_39 : decode cX7_plainCost 39 = .ok (.iinc 4 1, 3) := by decide +kernel
theorem dX7_plainCost_42 : decode cX7_plainCost 42 = .ok (.goto (-37), 3) := by decide +kernel
theorem dX7_plainCost_45 : decode cX7_plainCost 45 = .ok (.aload_n 0, 1) := by decide +kernel
theorem dX7_plainCost_46 : decode cX7_plainCost 46 = .ok (.getfield 17, 3) := by decide +kernel
theorem dX7_plainCost_49 : decode cX7_plainCost 49 = .ok (.iload_n 1, 1) := by decide +kernel
theorem dX7_plainCost_50 : decode cX7_plainCost 50 = .ok (.iaload, 1) := by decide +kernel
theorem dX7_plainCost_51 : decode cX7_plainCost 51 = .ok (.iconst 3, 1) := by decide +kernel
theorem dX7_plainCost_52 : decode cX7_plainCost 52 = .ok (.if_icmp .ne 12, 3) := by decide +kernel
theorem dX7_plainCost_55 : decode cX7_plainCost 55 = .ok (.iload_n 3, 1) := by decide +kernel
theorem dX7_plainCost_56 : decode cX7_plainCost 56 = .ok (.iconst 1, 1) := by decide +kernel
theorem dX7_plainCost_57 : decode cX7_plainCost 57 = .ok (.if_icmp .le 7, 3) := by decide +kernel
theorem dX7_plainCost_60 : decode cX7_plainCost 60 = .ok (.iconst 1, 1) := by decide +kernel
theorem dX7_plainCost_61 : decode cX7_plainCost 61 = .ok (.goto 4, 3) := by decide +kernel
theorem dX7_plainCost_64 : decode cX7_plainCost 64 = .ok (.iconst 0, 1) := by decide +kernel
theorem dX7_plainCost_65 : decode cX7_plainCost 65 = .ok (.istore 4, 2) := by decide +kernel
theorem dX7_plainCost_67 : decode cX7_plainCost 67 = .ok (.iconst 0, 1) := by decide +kernel
theorem dX7_plainCost_68 : decode cX7_plainCost 68 = .ok (.istore 5, 2) := by decide +kernel
theorem dX7_plainCost_70 : decode cX7_plainCost 70 = .ok (.iload 5, 2) := by decide +kernel
theorem dX7_plainCost_72 : decode cX7_plainCost 72 = .ok (.iconst 3, 1) := by decide +kernel
theorem dX7_plainCost_73 : decode cX7_plainCost 73 = .ok (.if_icmp .ge 38, 3) := by decide +kernel
theorem dX7_plainCost_76 : decode cX7_plainCost 76 = .ok (.iload 4, 2) := by decide +kernel
theorem dX7_plainCost_78 : decode cX7_plainCost 78 = .ok (.ifCond .eq 33, 3) := by decide +kernel
theorem dX7_plainCost_81 : decode cX7_plainCost 81 = .ok (.aload_n 0, 1) := by decide +kernel
theorem dX7_plainCost_82 : decode cX7_plainCost 82 = .ok (.getfield 41, 3) := by decide +kernel
theorem dX7_plainCost_85 : decode cX7_plainCost 85 = .ok (.iload 5, 2) := by decide +kernel
theorem dX7_plainCost_87 : decode cX7_plainCost 87 = .ok (.iaload, 1) := by decide +kernel
theorem dX7_plainCost_88 : decode cX7_plainCost 88 = .ok (.ifCond .le 17, 3) := by decide +kernel
theorem dX7_plainCost_91 : decode cX7_plainCost 91 = .ok (.aload_n 0, 1) := by decide +kernel
theorem dX7_plainCost_92 : decode cX7_plainCost 92 = .ok (.getfield 41, 3) := by decide +kernel
theorem dX7_plainCost_95 : decode cX7_plainCost 95 = .ok (.iload 5, 2) := by decide +kernel
theorem dX7_plainCost_97 : decode cX7_plainCost 97 = .ok (.dup2, 1) := by decide +kernel
theorem dX7_plainCost_98 : decode cX7_plainCost 98 = .ok (.iaload, 1) := by decide +kernel
theorem dX7_plainCost_99 : decode cX7_plainCost 99 = .ok (.iconst 1, 1) := by decide +kernel
theorem dX7_plainCost_100 : decode cX7_plainCost 100 = .ok (.isub, 1) := by decide +kernel
theorem dX7_plainCost_101 : decode cX7_plainCost 101 = .ok (.iastore, 1) := by decide +kernel
theorem dX7_plainCost_102 : decode cX7_plainCost 102 = .ok (.iconst 0, 1) := by decide +kernel
theorem dX7_plainCost_103 : decode cX7_plainCost 103 = .ok (.istore 4, 2) := by decide +kernel
theorem dX7_plainCost_105 : decode cX7_plainCost 105 = .ok (.iinc 5 1, 3) := by decide +kernel
theorem dX7_plainCost_108 : decode cX7_plainCost 108 = .ok (.goto (-38), 3) := by decide +kernel
theorem dX7_plainCost_111 : decode cX7_plainCost 111 = .ok (.return_, 1) := by decide +kernel
theorem dX7_lacks_0 : decode cX7_lacks 0 = .ok (.iconst 0, 1) := by decide +kernel
theorem dX7_lacks_1 : decode cX7_lacks 1 = .ok (.istore_n 3, 1) := by decide +kernel
theorem dX7_lacks_2 : decode cX7_lacks 2 = .ok (.iconst 0, 1) := by decide +kernel
theorem dX7_lacks_3 : decode cX7_lacks 3 = .ok (.istore 4, 2) := by decide +kernel
theorem dX7_lacks_5 : decode cX7_lacks 5 = .ok (.iload 4, 2) := by decide +kernel
theorem dX7_lacks_7 : decode cX7_lacks 7 = .ok (.iconst 3, 1) := by decide +kernel
theorem dX7_lacks_8 : decode cX7_lacks 8 = .ok (.if_icmp .ge 48, 3) := by decide +kernel
theorem dX7_lacks_11 : decode cX7_lacks 11 = .ok (.aload_n 0, 1) := by decide +kernel
theorem dX7_lacks_12 : decode cX7_lacks 12 = .ok (.getfield 41, 3) := by decide +kernel
theorem dX7_lacks_15 : decode cX7_lacks 15 = .ok (.iload 4, 2) := by decide +kernel
theorem dX7_lacks_17 : decode cX7_lacks 17 = .ok (.iaload, 1) := by decide +kernel
theorem dX7_lacks_18 : decode cX7_lacks 18 = .ok (.aload_n 0, 1) := by decide +kernel
theorem dX7_lacks_19 : decode cX7_lacks 19 = .ok (.getfield 38, 3) := by decide +kernel
theorem dX7_lacks_22 : decode cX7_lacks 22 = .ok (.iload_n 1, 1) := by decide +kernel
theorem dX7_lacks_23 : decode cX7_lacks 23 = .ok (.iconst 1, 1) := by decide +kernel
theorem dX7_lacks_24 : decode cX7_lacks 24 = .ok (.iadd, 1) := by decide +kernel
theorem dX7_lacks_25 : decode cX7_lacks 25 = .ok (.iconst 3, 1) := by decide +kernel
theorem dX7_lacks_26 : decode cX7_lacks 26 = .ok (.iload_n 2, 1) := by decide +kernel
theorem dX7_lacks_27 : decode cX7_lacks 27 = .ok (.imul, 1) := by decide +kernel
theorem dX7_lacks_28 : decode cX7_lacks 28 = .ok (.iadd, 1) := by decide +kernel
theorem dX7_lacks_29 : decode cX7_lacks 29 = .ok (.iload 4, 2) := by decide +kernel
theorem dX7_lacks_31 : decode cX7_lacks 31 = .ok (.iadd, 1) := by decide +kernel
theorem dX7_lacks_32 : decode cX7_lacks 32 = .ok (.iaload, 1) := by decide +kernel
theorem dX7_lacks_33 : decode cX7_lacks 33 = .ok (.isub, 1) := by decide +kernel
theorem dX7_lacks_34 : decode cX7_lacks 34 = .ok (.istore 5, 2) := by decide +kernel
theorem dX7_lacks_36 : decode cX7_lacks 36 = .ok (.iload_n 3, 1) := by decide +kernel
theorem dX7_lacks_37 : decode cX7_lacks 37 = .ok (.iload 5, 2) := by decide +kernel
theorem dX7_lacks_39 : decode cX7_lacks 39 = .ok (.ifCond .le 8, 3) := by decide +kernel
theorem dX7_lacks_42 : decode cX7_lacks 42 = .ok (.iload 5, 2) := by decide +kernel
theorem dX7_lacks_44 : decode cX7_lacks 44 = .ok (.goto 4, 3) := by decide +kernel
theorem dX7_lacks_47 : decode cX7_lacks 47 = .ok (.iconst 0, 1) := by decide +kernel
theorem dX7_lacks_48 : decode cX7_lacks 48 = .ok (.iadd, 1) := by decide +kernel
theorem dX7_lacks_49 : decode cX7_lacks 49 = .ok (.istore_n 3, 1) := by decide +kernel
theorem dX7_lacks_50 : decode cX7_lacks 50 = .ok (.iinc 4 1, 3) := by decide +kernel
theorem dX7_lacks_53 : decode cX7_lacks 53 = .ok (.goto (-48), 3) := by decide +kernel
theorem dX7_lacks_56 : decode cX7_lacks 56 = .ok (.iload_n 3, 1) := by decide +kernel
theorem dX7_lacks_57 : decode cX7_lacks 57 = .ok (.ireturn, 1) := by decide +kernel
theorem dX7_canDo_0 : decode cX7_canDo 0 = .ok (.aload_n 0, 1) := by decide +kernel
theorem dX7_canDo_1 : decode cX7_canDo 1 = .ok (.iload_n 2, 1) := by decide +kernel
theorem dX7_canDo_2 : decode cX7_canDo 2 = .ok (.iload_n 3, 1) := by decide +kernel
theorem dX7_canDo_3 : decode cX7_canDo 3 = .ok (.invokevirtual 115, 3) := by decide +kernel
theorem dX7_canDo_6 : decode cX7_canDo 6 = .ok (.aload_n 0, 1) := by decide +kernel
theorem dX7_canDo_7 : decode cX7_canDo 7 = .ok (.iload_n 1, 1) := by decide +kernel
theorem dX7_canDo_8 : decode cX7_canDo 8 = .ok (.iload_n 2, 1) := by decide +kernel
theorem dX7_canDo_9 : decode cX7_canDo 9 = .ok (.invokevirtual 119, 3) := by decide +kernel
theorem dX7_canDo_12 : decode cX7_canDo 12 = .ok (.istore 4, 2) := by decide +kernel
theorem dX7_canDo_14 : decode cX7_canDo 14 = .ok (.iload 4, 2) := by decide +kernel
theorem dX7_canDo_16 : decode cX7_canDo 16 = .ok (.iconst 1, 1) := by decide +kernel
theorem dX7_canDo_17 : decode cX7_canDo 17 = .ok (.if_icmp .ne 13, 3) := by decide +kernel
theorem dX7_canDo_20 : decode cX7_canDo 20 = .ok (.aload_n 0, 1) := by decide +kernel
theorem dX7_canDo_21 : decode cX7_canDo 21 = .ok (.getfield 17, 3) := by decide +kernel
theorem dX7_canDo_24 : decode cX7_canDo 24 = .ok (.iload_n 2, 1) := by decide +kernel
theorem dX7_canDo_25 : decode cX7_canDo 25 = .ok (.iaload, 1) := by decide +kernel
theorem dX7_canDo_26 : decode cX7_canDo 26 = .ok (.iconst 4, 1) := by decide +kernel
theorem dX7_canDo_27 : decode cX7_canDo 27 = .ok (.if_icmp .eq 14, 3) := by decide +kernel
theorem dX7_canDo_30 : decode cX7_canDo 30 = .ok (.iload 4, 2) := by decide +kernel
theorem dX7_canDo_32 : decode cX7_canDo 32 = .ok (.ifCond .ne 7, 3) := by decide +kernel
theorem dX7_canDo_35 : decode cX7_canDo 35 = .ok (.iconst 1, 1) := by decide +kernel
theorem dX7_canDo_36 : decode cX7_canDo 36 = .ok (.goto 4, 3) := by decide +kernel
theorem dX7_canDo_39 : decode cX7_canDo 39 = .ok (.iconst 0, 1) := by decide +kernel
theorem dX7_canDo_40 : decode cX7_canDo 40 = .ok (.ireturn, 1) := by decide +kernel
theorem dX7_canDo_41 : decode cX7_canDo 41 = .ok (.iload_n 1, 1) := by decide +kernel
theorem dX7_canDo_42 : decode cX7_canDo 42 = .ok (.iconst 1, 1) := by decide +kernel
theorem dX7_canDo_43 : decode cX7_canDo 43 = .ok (.iadd, 1) := by decide +kernel
theorem dX7_canDo_44 : decode cX7_canDo 44 = .ok (.iconst 3, 1) := by decide +kernel
theorem dX7_canDo_45 : decode cX7_canDo 45 = .ok (.iload_n 2, 1) := by decide +kernel
theorem dX7_canDo_46 : decode cX7_canDo 46 = .ok (.imul, 1) := by decide +kernel
theorem dX7_canDo_47 : decode cX7_canDo 47 = .ok (.iadd, 1) := by decide +kernel
theorem dX7_canDo_48 : decode cX7_canDo 48 = .ok (.istore 5, 2) := by decide +kernel
theorem dX7_canDo_50 : decode cX7_canDo 50 = .ok (.iconst 0, 1) := by decide +kernel
theorem dX7_canDo_51 : decode cX7_canDo 51 = .ok (.istore 6, 2) := by decide +kernel
theorem dX7_canDo_53 : decode cX7_canDo 53 = .ok (.iconst 0, 1) := by decide +kernel
theorem dX7_canDo_54 : decode cX7_canDo 54 = .ok (.istore 7, 2) := by decide +kernel
theorem dX7_canDo_56 : decode cX7_canDo 56 = .ok (.iload 7, 2) := by decide +kernel
theorem dX7_canDo_58 : decode cX7_canDo 58 = .ok (.iconst 3, 1) := by decide +kernel
theorem dX7_canDo_59 : decode cX7_canDo 59 = .ok (.if_icmp .ge 56, 3) := by decide +kernel
theorem dX7_canDo_62 : decode cX7_canDo 62 = .ok (.aload_n 0, 1) := by decide +kernel
theorem dX7_canDo_63 : decode cX7_canDo 63 = .ok (.getfield 41, 3) := by decide +kernel
theorem dX7_canDo_66 : decode cX7_canDo 66 = .ok (.iload 7, 2) := by decide +kernel
theorem dX7_canDo_68 : decode cX7_canDo 68 = .ok (.aload_n 0, 1) := by decide +kernel
theorem dX7_canDo_69 : decode cX7_canDo 69 = .ok (.getfield 41, 3) := by decide +kernel
theorem dX7_canDo_72 : decode cX7_canDo 72 = .ok (.iload 7, 2) := by decide +kernel
theorem dX7_canDo_74 : decode cX7_canDo 74 = .ok (.iaload, 1) := by decide +kernel
theorem dX7_canDo_75 : decode cX7_canDo 75 = .ok (.aload_n 0, 1) := by decide +kernel
theorem dX7_canDo_76 : decode cX7_canDo 76 = .ok (.getfield 38, 3) := by decide +kernel
theorem dX7_canDo_79 : decode cX7_canDo 79 = .ok (.iload 5, 2) := by decide +kernel
theorem dX7_canDo_81 : decode cX7_canDo 81 = .ok (.iload 7, 2) := by decide +kernel
theorem dX7_canDo_83 : decode cX7_canDo 83 = .ok (.iadd, 1) := by decide +kernel
theorem dX7_canDo_84 : decode cX7_canDo 84 = .ok (.iaload, 1) := by decide +kernel
theorem dX7_canDo_85 : decode cX7_canDo 85 = .ok (.if_icmp .le 16, 3) := by decide +kernel
theorem dX7_canDo_88 : decode cX7_canDo 88 = .ok (.aload_n 0, 1) := by decide +kernel
theorem dX7_canDo_89 : decode cX7_canDo 89 = .ok (.getfield 38, 3) := by decide +kernel
theorem dX7_canDo_92 : decode cX7_canDo 92 = .ok (.iload 5, 2) := by decide +kernel
theorem dX7_canDo_94 : decode cX7_canDo 94 = .ok (.iload 7, 2) := by decide +kernel
theorem dX7_canDo_96 : decode cX7_canDo 96 = .ok (.iadd, 1) := by decide +kernel
theorem dX7_canDo_97 : decode cX7_canDo 97 = .ok (.iaload, 1) := by decide +kernel
theorem dX7_canDo_98 : decode cX7_canDo 98 = .ok (.goto 10, 3) := by decide +kernel
theorem dX7_canDo_101 : decode cX7_canDo 101 = .ok (.aload_n 0, 1) := by decide +kernel
theorem dX7_canDo_102 : decode cX7_canDo 102 = .ok (.getfield 41, 3) := by decide +kernel
theorem dX7_canDo_105 : decode cX7_canDo 105 = .ok (.iload 7, 2) := by decide +kernel
theorem dX7_canDo_107 : decode cX7_canDo 107 = .ok (.iaload, 1) := by decide +kernel
theorem dX7_canDo_108 : decode cX7_canDo 108 = .ok (.iastore, 1) := by decide +kernel
theorem dX7_canDo_109 : decode cX7_canDo 109 = .ok (.iinc 7 1, 3) := by decide +kernel
theorem dX7_canDo_112 : decode cX7_canDo 112 = .ok (.goto (-56), 3) := by decide +kernel
theorem dX7_canDo_115 : decode cX7_canDo 115 = .ok (.iconst 1, 1) := by decide +kernel
theorem dX7_canDo_116 : decode cX7_canDo 116 = .ok (.istore 7, 2) := by decide +kernel
theorem dX7_canDo_118 : decode cX7_canDo 118 = .ok (.iload 7, 2) := by decide +kernel
theorem dX7_canDo_120 : decode cX7_canDo 120 = .ok (.iconst 3, 1) := by decide +kernel
theorem dX7_canDo_121 : decode cX7_canDo 121 = .ok (.if_icmp .ge 57, 3) := by decide +kernel
theorem dX7_canDo_124 : decode cX7_canDo 124 = .ok (.aload_n 0, 1) := by decide +kernel
theorem dX7_canDo_125 : decode cX7_canDo 125 = .ok (.getfield 38, 3) := by decide +kernel
theorem dX7_canDo_128 : decode cX7_canDo 128 = .ok (.iload 5, 2) := by decide +kernel
theorem dX7_canDo_130 : decode cX7_canDo 130 = .ok (.iload 7, 2) := by decide +kernel
theorem dX7_canDo_132 : decode cX7_canDo 132 = .ok (.iadd, 1) := by decide +kernel
theorem dX7_canDo_133 : decode cX7_canDo 133 = .ok (.iaload, 1) := by decide +kernel
theorem dX7_canDo_134 : decode cX7_canDo 134 = .ok (.aload_n 0, 1) := by decide +kernel
theorem dX7_canDo_135 : decode cX7_canDo 135 = .ok (.getfield 41, 3) := by decide +kernel
theorem dX7_canDo_138 : decode cX7_canDo 138 = .ok (.iload 7, 2) := by decide +kernel
theorem dX7_canDo_140 : decode cX7_canDo 140 = .ok (.iaload, 1) := by decide +kernel
theorem dX7_canDo_141 : decode cX7_canDo 141 = .ok (.isub, 1) := by decide +kernel
theorem dX7_canDo_142 : decode cX7_canDo 142 = .ok (.aload_n 0, 1) := by decide +kernel
theorem dX7_canDo_143 : decode cX7_canDo 143 = .ok (.getfield 38, 3) := by decide +kernel
theorem dX7_canDo_146 : decode cX7_canDo 146 = .ok (.iload 5, 2) := by decide +kernel
theorem dX7_canDo_148 : decode cX7_canDo 148 = .ok (.iload 6, 2) := by decide +kernel
theorem dX7_canDo_150 : decode cX7_canDo 150 = .ok (.iadd, 1) := by decide +kernel
theorem dX7_canDo_151 : decode cX7_canDo 151 = .ok (.iaload, 1) := by decide +kernel
theorem dX7_canDo_152 : decode cX7_canDo 152 = .ok (.aload_n 0, 1) := by decide +kernel
theorem dX7_canDo_153 : decode cX7_canDo 153 = .ok (.getfield 41, 3) := by decide +kernel
theorem dX7_canDo_156 : decode cX7_canDo 156 = .ok (.iload 6, 2) := by decide +kernel
theorem dX7_canDo_158 : decode cX7_canDo 158 = .ok (.iaload, 1) := by decide +kernel
theorem dX7_canDo_159 : decode cX7_canDo 159 = .ok (.isub, 1) := by decide +kernel
theorem dX7_canDo_160 : decode cX7_canDo 160 = .ok (.if_icmp .le 8, 3) := by decide +kernel
theorem dX7_canDo_163 : decode cX7_canDo 163 = .ok (.iload 7, 2) := by decide +kernel
theorem dX7_canDo_165 : decode cX7_canDo 165 = .ok (.goto 5, 3) := by decide +kernel
theorem dX7_canDo_168 : decode cX7_canDo 168 = .ok (.iload 6, 2) := by decide +kernel
theorem dX7_canDo_170 : decode cX7_canDo 170 = .ok (.istore 6, 2) := by decide +kernel
theorem dX7_canDo_172 : decode cX7_canDo 172 = .ok (.iinc 7 1, 3) := by decide +kernel
theorem dX7_canDo_175 : decode cX7_canDo 175 = .ok (.goto (-57), 3) := by decide +kernel
theorem dX7_canDo_178 : decode cX7_canDo 178 = .ok (.aload_n 0, 1) := by decide +kernel
theorem dX7_canDo_179 : decode cX7_canDo 179 = .ok (.getfield 38, 3) := by decide +kernel
theorem dX7_canDo_182 : decode cX7_canDo 182 = .ok (.iload 5, 2) := by decide +kernel
theorem dX7_canDo_184 : decode cX7_canDo 184 = .ok (.iload 6, 2) := by decide +kernel
theorem dX7_canDo_186 : decode cX7_canDo 186 = .ok (.iadd, 1) := by decide +kernel
theorem dX7_canDo_187 : decode cX7_canDo 187 = .ok (.iaload, 1) := by decide +kernel
theorem dX7_canDo_188 : decode cX7_canDo 188 = .ok (.aload_n 0, 1) := by decide +kernel
theorem dX7_canDo_189 : decode cX7_canDo 189 = .ok (.getfield 41, 3) := by decide +kernel
theorem dX7_canDo_192 : decode cX7_canDo 192 = .ok (.iload 6, 2) := by decide +kernel
theorem dX7_canDo_194 : decode cX7_canDo 194 = .ok (.iaload, 1) := by decide +kernel
theorem dX7_canDo_195 : decode cX7_canDo 195 = .ok (.isub, 1) := by decide +kernel
theorem dX7_canDo_196 : decode cX7_canDo 196 = .ok (.iconst 2, 1) := by decide +kernel
theorem dX7_canDo_197 : decode cX7_canDo 197 = .ok (.if_icmp .lt 7, 3) := by decide +kernel
theorem dX7_canDo_200 : decode cX7_canDo 200 = .ok (.iconst 1, 1) := by decide +kernel
theorem dX7_canDo_201 : decode cX7_canDo 201 = .ok (.goto 4, 3) := by decide +kernel
theorem dX7_canDo_204 : decode cX7_canDo 204 = .ok (.iconst 0, 1) := by decide +kernel
theorem dX7_canDo_205 : decode cX7_canDo 205 = .ok (.istore 7, 2) := by decide +kernel
theorem dX7_canDo_207 : decode cX7_canDo 207 = .ok (.aload_n 0, 1) := by decide +kernel
theorem dX7_canDo_208 : decode cX7_canDo 208 = .ok (.getfield 41, 3) := by decide +kernel
theorem dX7_canDo_211 : decode cX7_canDo 211 = .ok (.iload 6, 2) := by decide +kernel
theorem dX7_canDo_213 : decode cX7_canDo 213 = .ok (.dup2, 1) := by decide +kernel
theorem dX7_canDo_214 : decode cX7_canDo 214 = .ok (.iaload, 1) := by decide +kernel
theorem dX7_canDo_215 : decode cX7_canDo 215 = .ok (.iconst 2, 1) := by decide +kernel
theorem dX7_canDo_216 : decode cX7_canDo 216 = .ok (.iadd, 1) := by decide +kernel
theorem dX7_canDo_217 : decode cX7_canDo 217 = .ok (.iastore, 1) := by decide +kernel
theorem dX7_canDo_218 : decode cX7_canDo 218 = .ok (.iload 7, 2) := by decide +kernel
theorem dX7_canDo_220 : decode cX7_canDo 220 = .ok (.ireturn, 1) := by decide +kernel
theorem dX7_doIt_0 : decode cX7_doIt 0 = .ok (.aload_n 0, 1) := by decide +kernel
theorem dX7_doIt_1 : decode cX7_doIt 1 = .ok (.iload_n 1, 1) := by decide +kernel
theorem dX7_doIt_2 : decode cX7_doIt 2 = .ok (.iload_n 2, 1) := by decide +kernel
theorem dX7_doIt_3 : decode cX7_doIt 3 = .ok (.iload_n 3, 1) := by decide +kernel
theorem dX7_doIt_4 : decode cX7_doIt 4 = .ok (.invokevirtual 122, 3) := by decide +kernel
theorem dX7_doIt_7 : decode cX7_doIt 7 = .ok (.ifCond .ne 6, 3) := by decide +kernel
theorem dX7_doIt_10 : decode cX7_doIt 10 = .ok (.bipush (-2), 2) := by decide +kernel
theorem dX7_doIt_12 : decode cX7_doIt 12 = .ok (.ireturn, 1) := by decide +kernel
theorem dX7_doIt_13 : decode cX7_doIt 13 = .ok (.iconst 0, 1) := by decide +kernel
theorem dX7_doIt_14 : decode cX7_doIt 14 = .ok (.istore 4, 2) := by decide +kernel
theorem dX7_doIt_16 : decode cX7_doIt 16 = .ok (.iconst 0, 1) := by decide +kernel
theorem dX7_doIt_17 : decode cX7_doIt 17 = .ok (.istore 5, 2) := by decide +kernel
theorem dX7_doIt_19 : decode cX7_doIt 19 = .ok (.iload 5, 2) := by decide +kernel
theorem dX7_doIt_21 : decode cX7_doIt 21 = .ok (.iconst 3, 1) := by decide +kernel
theorem dX7_doIt_22 : decode cX7_doIt 22 = .ok (.if_icmp .ge 46, 3) := by decide +kernel
theorem dX7_doIt_25 : decode cX7_doIt 25 = .ok (.aload_n 0, 1) := by decide +kernel
theorem dX7_doIt_26 : decode cX7_doIt 26 = .ok (.getfield 38, 3) := by decide +kernel
theorem dX7_doIt_29 : decode cX7_doIt 29 = .ok (.iload_n 1, 1) := by decide +kernel
theorem dX7_doIt_30 : decode cX7_doIt 30 = .ok (.iconst 1, 1) := by decide +kernel
theorem dX7_doIt_31 : decode cX7_doIt 31 = .ok (.iadd, 1) := by decide +kernel
theorem dX7_doIt_32 : decode cX7_doIt 32 = .ok (.iconst 3, 1) := by decide +kernel
theorem dX7_doIt_33 : decode cX7_doIt 33 = .ok (.iload_n 2, 1) := by decide +kernel
theorem dX7_doIt_34 : decode cX7_doIt 34 = .ok (.imul, 1) := by decide +kernel
theorem dX7_doIt_35 : decode cX7_doIt 35 = .ok (.iadd, 1) := by decide +kernel
theorem dX7_doIt_36 : decode cX7_doIt 36 = .ok (.iload 5, 2) := by decide +kernel
theorem dX7_doIt_38 : decode cX7_doIt 38 = .ok (.iadd, 1) := by decide +kernel
theorem dX7_doIt_39 : decode cX7_doIt 39 = .ok (.dup2, 1) := by decide +kernel
theorem dX7_doIt_40 : decode cX7_doIt 40 = .ok (.iaload, 1) := by decide +kernel
theorem dX7_doIt_41 : decode cX7_doIt 41 = .ok (.aload_n 0, 1) := by decide +kernel
theorem dX7_doIt_42 : decode cX7_doIt 42 = .ok (.getfield 41, 3) := by decide +kernel
theorem dX7_doIt_45 : decode cX7_doIt 45 = .ok (.iload 5, 2) := by decide +kernel
theorem dX7_doIt_47 : decode cX7_doIt 47 = .ok (.iaload, 1) := by decide +kernel
theorem dX7_doIt_48 : decode cX7_doIt 48 = .ok (.isub, 1) := by decide +kernel
theorem dX7_doIt_49 : decode cX7_doIt 49 = .ok (.iastore, 1) := by decide +kernel
theorem dX7_doIt_50 : decode cX7_doIt 50 = .ok (.iload 4, 2) := by decide +kernel
theorem dX7_doIt_52 : decode cX7_doIt 52 = .ok (.aload_n 0, 1) := by decide +kernel
theorem dX7_doIt_53 : decode cX7_doIt 53 = .ok (.getfield 41, 3) := by decide +kernel
theorem dX7_doIt_56 : decode cX7_doIt 56 = .ok (.iload 5, 2) := by decide +kernel
theorem dX7_doIt_58 : decode cX7_doIt 58 = .ok (.iaload, 1) := by decide +kernel
theorem dX7_doIt_59 : decode cX7_doIt 59 = .ok (.iadd, 1) := by decide +kernel
theorem dX7_doIt_60 : decode cX7_doIt 60 = .ok (.istore 4, 2) := by decide +kernel
theorem dX7_doIt_62 : decode cX7_doIt 62 = .ok (.iinc 5 1, 3) := by decide +kernel
theorem dX7_doIt_65 : decode cX7_doIt 65 = .ok (.goto (-46), 3) := by decide +kernel
theorem dX7_doIt_68 : decode cX7_doIt 68 = .ok (.aload_n 0, 1) := by decide +kernel
theorem dX7_doIt_69 : decode cX7_doIt 69 = .ok (.getfield 38, 3) := by decide +kernel
theorem dX7_doIt_72 : decode cX7_doIt 72 = .ok (.iload_n 1, 1) := by decide +kernel
theorem dX7_doIt_73 : decode cX7_doIt 73 = .ok (.bipush 25, 2) := by decide +kernel
theorem dX7_doIt_75 : decode cX7_doIt 75 = .ok (.iadd, 1) := by decide +kernel
theorem dX7_doIt_76 : decode cX7_doIt 76 = .ok (.iload_n 2, 1) := by decide +kernel
theorem dX7_doIt_77 : decode cX7_doIt 77 = .ok (.iadd, 1) := by decide +kernel
theorem dX7_doIt_78 : decode cX7_doIt 78 = .ok (.dup2, 1) := by decide +kernel
theorem dX7_doIt_79 : decode cX7_doIt 79 = .ok (.iaload, 1) := by decide +kernel
theorem dX7_doIt_80 : decode cX7_doIt 80 = .ok (.aload_n 0, 1) := by decide +kernel
theorem dX7_doIt_81 : decode cX7_doIt 81 = .ok (.getfield 29, 3) := by decide +kernel
theorem dX7_doIt_84 : decode cX7_doIt 84 = .ok (.iload_n 3, 1) := by decide +kernel
theorem dX7_doIt_85 : decode cX7_doIt 85 = .ok (.iaload, 1) := by decide +kernel
theorem dX7_doIt_86 : decode cX7_doIt 86 = .ok (.iadd, 1) := by decide +kernel
theorem dX7_doIt_87 : decode cX7_doIt 87 = .ok (.iastore, 1) := by decide +kernel
theorem dX7_doIt_88 : decode cX7_doIt 88 = .ok (.iload 4, 2) := by decide +kernel
theorem dX7_doIt_90 : decode cX7_doIt 90 = .ok (.ireturn, 1) := by decide +kernel
theorem dX7_can_0 : decode cX7_can 0 = .ok (.aload_n 0, 1) := by decide +kernel
theorem dX7_can_1 : decode cX7_can 1 = .ok (.iload_n 1, 1) := by decide +kernel
theorem dX7_can_2 : decode cX7_can 2 = .ok (.invokevirtual 104, 3) := by decide +kernel
theorem dX7_can_5 : decode cX7_can 5 = .ok (.ifCond .eq 11, 3) := by decide +kernel
theorem dX7_can_8 : decode cX7_can 8 = .ok (.aload_n 0, 1) := by decide +kernel
theorem dX7_can_9 : decode cX7_can 9 = .ok (.iload_n 2, 1) := by decide +kernel
theorem dX7_can_10 : decode cX7_can 10 = .ok (.invokevirtual 112, 3) := by decide +kernel
theorem dX7_can_13 : decode cX7_can 13 = .ok (.ifCond .ne 5, 3) := by decide +kernel
theorem dX7_can_16 : decode cX7_can 16 = .ok (.iconst (-1), 1) := by decide +kernel
theorem dX7_can_17 : decode cX7_can 17 = .ok (.ireturn, 1) := by decide +kernel
theorem dX7_can_18 : decode cX7_can 18 = .ok (.aload_n 0, 1) := by decide +kernel
theorem dX7_can_19 : decode cX7_can 19 = .ok (.iconst 0, 1) := by decide +kernel
theorem dX7_can_20 : decode cX7_can 20 = .ok (.iload_n 1, 1) := by decide +kernel
theorem dX7_can_21 : decode cX7_can 21 = .ok (.iload_n 2, 1) := by decide +kernel
theorem dX7_can_22 : decode cX7_can 22 = .ok (.invokevirtual 122, 3) := by decide +kernel
theorem dX7_can_25 : decode cX7_can 25 = .ok (.ifCond .eq 7, 3) := by decide +kernel
theorem dX7_can_28 : decode cX7_can 28 = .ok (.iconst 1, 1) := by decide +kernel
theorem dX7_can_29 : decode cX7_can 29 = .ok (.goto 4, 3) := by decide +kernel
theorem dX7_can_32 : decode cX7_can 32 = .ok (.iconst 0, 1) := by decide +kernel
theorem dX7_can_33 : decode cX7_can 33 = .ok (.ireturn, 1) := by decide +kernel
theorem dX7_toldDeeds_0 : decode cX7_toldDeeds 0 = .ok (.iconst 0, 1) := by decide +kernel
theorem dX7_toldDeeds_1 : decode cX7_toldDeeds 1 = .ok (.istore_n 2, 1) := by decide +kernel
theorem dX7_toldDeeds_2 : decode cX7_toldDeeds 2 = .ok (.iload_n 2, 1) := by decide +kernel
theorem dX7_toldDeeds_3 : decode cX7_toldDeeds 3 = .ok (.aload_n 0, 1) := by decide +kernel
theorem dX7_toldDeeds_4 : decode cX7_toldDeeds 4 = .ok (.getfield 13, 3) := by decide +kernel
theorem dX7_toldDeeds_7 : decode cX7_toldDeeds 7 = .ok (.iconst 0, 1) := by decide +kernel
theorem dX7_toldDeeds_8 : decode cX7_toldDeeds 8 = .ok (.iaload, 1) := by decide +kernel
theorem dX7_toldDeeds_9 : decode cX7_toldDeeds 9 = .ok (.if_icmp .ge 45, 3) := by decide +kernel
theorem dX7_toldDeeds_12 : decode cX7_toldDeeds 12 = .ok (.aload_n 0, 1) := by decide +kernel
theorem dX7_toldDeeds_13 : decode cX7_toldDeeds 13 = .ok (.getfield 32, 3) := by decide +kernel
theorem dX7_toldDeeds_16 : decode cX7_toldDeeds 16 = .ok (.bipush 7, 2) := by decide +kernel
theorem dX7_toldDeeds_18 : decode cX7_toldDeeds 18 = .ok (.iload_n 2, 1) := by decide +kernel
theorem dX7_toldDeeds_19 : decode cX7_toldDeeds 19 = .ok (.imul, 1) := by decide +kernel
theorem dX7_toldDeeds_20 : decode cX7_toldDeeds 20 = .ok (.aload_n 0, 1) := by decide +kernel
theorem dX7_toldDeeds_21 : decode cX7_toldDeeds 21 = .ok (.getfield 38, 3) := by decide +kernel
theorem dX7_toldDeeds_24 : decode cX7_toldDeeds 24 = .ok (.iload_n 1, 1) := by decide +kernel
theorem dX7_toldDeeds_25 : decode cX7_toldDeeds 25 = .ok (.iconst 0, 1) := by decide +kernel
theorem dX7_toldDeeds_26 : decode cX7_toldDeeds 26 = .ok (.iadd, 1) := by decide +kernel
theorem dX7_toldDeeds_27 : decode cX7_toldDeeds 27 = .ok (.iaload, 1) := by decide +kernel
theorem dX7_toldDeeds_28 : decode cX7_toldDeeds 28 = .ok (.bipush 7, 2) := by decide +kernel
theorem dX7_toldDeeds_30 : decode cX7_toldDeeds 30 = .ok (.irem, 1) := by decide +kernel
theorem dX7_toldDeeds_31 : decode cX7_toldDeeds 31 = .ok (.iadd, 1) := by decide +kernel
theorem dX7_toldDeeds_32 : decode cX7_toldDeeds 32 = .ok (.iaload, 1) := by decide +kernel
theorem dX7_toldDeeds_33 : decode cX7_toldDeeds 33 = .ok (.istore_n 3, 1) := by decide +kernel
theorem dX7_toldDeeds_34 : decode cX7_toldDeeds 34 = .ok (.iload_n 3, 1) := by decide +kernel
theorem dX7_toldDeeds_35 : decode cX7_toldDeeds 35 = .ok (.bipush (-4), 2) := by decide +kernel
theorem dX7_toldDeeds_37 : decode cX7_toldDeeds 37 = .ok (.if_icmp .eq 11, 3) := by decide +kernel
theorem dX7_toldDeeds_40 : decode cX7_toldDeeds 40 = .ok (.aload_n 0, 1) := by decide +kernel
theorem dX7_toldDeeds_41 : decode cX7_toldDeeds 41 = .ok (.iload_n 1, 1) := by decide +kernel
theorem dX7_toldDeeds_42 : decode cX7_toldDeeds 42 = .ok (.iload_n 2, 1) := by decide +kernel
theorem dX7_toldDeeds_43 : decode cX7_toldDeeds 43 = .ok (.iload_n 3, 1) := by decide +kernel
theorem dX7_toldDeeds_44 : decode cX7_toldDeeds 44 = .ok (.invokevirtual 125, 3) := by decide +kernel
theorem dX7_toldDeeds_47 : decode cX7_toldDeeds 47 = .ok (.pop, 1) := by decide +kernel
theorem dX7_toldDeeds_48 : decode cX7_toldDeeds 48 = .ok (.iinc 2 1, 3) := by decide +kernel
theorem dX7_toldDeeds_51 : decode cX7_toldDeeds 51 = .ok (.goto (-49), 3) := by decide +kernel
theorem dX7_toldDeeds_54 : decode cX7_toldDeeds 54 = .ok (.return_, 1) := by decide +kernel
theorem dX7_sea_0 : decode cX7_sea 0 = .ok (.iload_n 1, 1) := by decide +kernel
theorem dX7_sea_1 : decode cX7_sea 1 = .ok (.iconst 1, 1) := by decide +kernel
theorem dX7_sea_2 : decode cX7_sea 2 = .ok (.iadd, 1) := by decide +kernel
theorem dX7_sea_3 : decode cX7_sea 3 = .ok (.iconst 3, 1) := by decide +kernel
theorem dX7_sea_4 : decode cX7_sea 4 = .ok (.iload_n 2, 1) := by decide +kernel
theorem dX7_sea_5 : decode cX7_sea 5 = .ok (.imul, 1) := by decide +kernel
theorem dX7_sea_6 : decode cX7_sea 6 = .ok (.iadd, 1) := by decide +kernel
theorem dX7_sea_7 : decode cX7_sea 7 = .ok (.iconst 2, 1) := by decide +kernel
theorem dX7_sea_8 : decode cX7_sea 8 = .ok (.iadd, 1) := by decide +kernel
theorem dX7_sea_9 : decode cX7_sea 9 = .ok (.istore_n 3, 1) := by decide +kernel
theorem dX7_sea_10 : decode cX7_sea 10 = .ok (.aload_n 0, 1) := by decide +kernel
theorem dX7_sea_11 : decode cX7_sea 11 = .ok (.getfield 38, 3) := by decide +kernel
theorem dX7_sea_14 : decode cX7_sea 14 = .ok (.iload_n 3, 1) := by decide +kernel
theorem dX7_sea_15 : decode cX7_sea 15 = .ok (.dup2, 1) := by decide +kernel
theorem dX7_sea_16 : decode cX7_sea 16 = .ok (.iaload, 1) := by decide +kernel
theorem dX7_sea_17 : decode cX7_sea 17 = .ok (.aload_n 0, 1) := by decide +kernel
theorem dX7_sea_18 : decode cX7_sea 18 = .ok (.getfield 17, 3) := by decide +kernel
theorem dX7_sea_21 : decode cX7_sea 21 = .ok (.iload_n 2, 1) := by decide +kernel
theorem dX7_sea_22 : decode cX7_sea 22 = .ok (.iaload, 1) := by decide +kernel
theorem dX7_sea_23 : decode cX7_sea 23 = .ok (.iconst 2, 1) := by decide +kernel
theorem dX7_sea_24 : decode cX7_sea 24 = .ok (.if_icmp .ne 16, 3) := by decide +kernel
theorem dX7_sea_27 : decode cX7_sea 27 = .ok (.aload_n 0, 1) := by decide +kernel
theorem dX7_sea_28 : decode cX7_sea 28 = .ok (.getfield 38, 3) := by decide +kernel
theorem dX7_sea_31 : decode cX7_sea 31 = .ok (.iload_n 3, 1) := by decide +kernel
theorem dX7_sea_32 : decode cX7_sea 32 = .ok (.iaload, 1) := by decide +kernel
theorem dX7_sea_33 : decode cX7_sea 33 = .ok (.ifCond .le 7, 3) := by decide +kernel
theorem dX7_sea_36 : decode cX7_sea 36 = .ok (.iconst 1, 1) := by decide +kernel
theorem dX7_sea_37 : decode cX7_sea 37 = .ok (.goto 4, 3) := by decide +kernel
theorem dX7_sea_40 : decode cX7_sea 40 = .ok (.iconst 0, 1) := by decide +kernel
theorem dX7_sea_41 : decode cX7_sea 41 = .ok (.isub, 1) := by decide +kernel
theorem dX7_sea_42 : decode cX7_sea 42 = .ok (.iastore, 1) := by decide +kernel
theorem dX7_sea_43 : decode cX7_sea 43 = .ok (.return_, 1) := by decide +kernel
theorem dX7_seaAll_0 : decode cX7_seaAll 0 = .ok (.iconst 0, 1) := by decide +kernel
theorem dX7_seaAll_1 : decode cX7_seaAll 1 = .ok (.istore_n 2, 1) := by decide +kernel
theorem dX7_seaAll_2 : decode cX7_seaAll 2 = .ok (.iload_n 2, 1) := by decide +kernel
theorem dX7_seaAll_3 : decode cX7_seaAll 3 = .ok (.aload_n 0, 1) := by decide +kernel
theorem dX7_seaAll_4 : decode cX7_seaAll 4 = .ok (.getfield 13, 3) := by decide +kernel
theorem dX7_seaAll_7 : decode cX7_seaAll 7 = .ok (.iconst 0, 1) := by decide +kernel
theorem dX7_seaAll_8 : decode cX7_seaAll 8 = .ok (.iaload, 1) := by decide +kernel
theorem dX7_seaAll_9 : decode cX7_seaAll 9 = .ok (.if_icmp .ge 15, 3) := by decide +kernel
theorem dX7_seaAll_12 : decode cX7_seaAll 12 = .ok (.aload_n 0, 1) := by decide +kernel
theorem dX7_seaAll_13 : decode cX7_seaAll 13 = .ok (.iload_n 1, 1) := by decide +kernel
theorem dX7_seaAll_14 : decode cX7_seaAll 14 = .ok (.iload_n 2, 1) := by decide +kernel
theorem dX7_seaAll_15 : decode cX7_seaAll 15 = .ok (.invokevirtual 128, 3) := by decide +kernel
theorem dX7_seaAll_18 : decode cX7_seaAll 18 = .ok (.iinc 2 1, 3) := by decide +kernel
theorem dX7_seaAll_21 : decode cX7_seaAll 21 = .ok (.goto (-19), 3) := by decide +kernel
theorem dX7_seaAll_24 : decode cX7_seaAll 24 = .ok (.return_, 1) := by decide +kernel
theorem dX7_over_0 : decode cX7_over 0 = .ok (.aload_n 0, 1) := by decide +kernel
theorem dX7_over_1 : decode cX7_over 1 = .ok (.getfield 38, 3) := by decide +kernel
theorem dX7_over_4 : decode cX7_over 4 = .ok (.iload_n 1, 1) := by decide +kernel
theorem dX7_over_5 : decode cX7_over 5 = .ok (.iconst 0, 1) := by decide +kernel
theorem dX7_over_6 : decode cX7_over 6 = .ok (.iadd, 1) := by decide +kernel
theorem dX7_over_7 : decode cX7_over 7 = .ok (.iaload, 1) := by decide +kernel
theorem dX7_over_8 : decode cX7_over 8 = .ok (.bipush 7, 2) := by decide +kernel
theorem dX7_over_10 : decode cX7_over 10 = .ok (.irem, 1) := by decide +kernel
theorem dX7_over_11 : decode cX7_over 11 = .ok (.bipush 6, 2) := by decide +kernel
theorem dX7_over_13 : decode cX7_over 13 = .ok (.if_icmp .ne 7, 3) := by decide +kernel
theorem dX7_over_16 : decode cX7_over 16 = .ok (.iconst 1, 1) := by decide +kernel
theorem dX7_over_17 : decode cX7_over 17 = .ok (.goto 4, 3) := by decide +kernel
theorem dX7_over_20 : decode cX7_over 20 = .ok (.iconst 0, 1) := by decide +kernel
theorem dX7_over_21 : decode cX7_over 21 = .ok (.istore_n 2, 1) := by decide +kernel
theorem dX7_over_22 : decode cX7_over 22 = .ok (.iconst 0, 1) := by decide +kernel
theorem dX7_over_23 : decode cX7_over 23 = .ok (.istore_n 3, 1) := by decide +kernel
theorem dX7_over_24 : decode cX7_over 24 = .ok (.iload_n 3, 1) := by decide +kernel
theorem dX7_over_25 : decode cX7_over 25 = .ok (.iconst 3, 1) := by decide +kernel
theorem dX7_over_26 : decode cX7_over 26 = .ok (.aload_n 0, 1) := by decide +kernel
theorem dX7_over_27 : decode cX7_over 27 = .ok (.getfield 13, 3) := by decide +kernel
theorem dX7_over_30 : decode cX7_over 30 = .ok (.iconst 0, 1) := by decide +kernel
theorem dX7_over_31 : decode cX7_over 31 = .ok (.iaload, 1) := by decide +kernel
theorem dX7_over_32 : decode cX7_over 32 = .ok (.imul, 1) := by decide +kernel
theorem dX7_over_33 : decode cX7_over 33 = .ok (.if_icmp .ge 72, 3) := by decide +kernel
theorem dX7_over_36 : decode cX7_over 36 = .ok (.iload_n 2, 1) := by decide +kernel
theorem dX7_over_37 : decode cX7_over 37 = .ok (.ifCond .eq 68, 3) := by decide +kernel
theorem dX7_over_40 : decode cX7_over 40 = .ok (.aload_n 0, 1) := by decide +kernel
theorem dX7_over_41 : decode cX7_over 41 = .ok (.getfield 20, 3) := by decide +kernel
theorem dX7_over_44 : decode cX7_over 44 = .ok (.iload_n 3, 1) := by decide +kernel
theorem dX7_over_45 : decode cX7_over 45 = .ok (.iaload, 1) := by decide +kernel
theorem dX7_over_46 : decode cX7_over 46 = .ok (.aload_n 0, 1) := by decide +kernel
theorem dX7_over_47 : decode cX7_over 47 = .ok (.getfield 17, 3) := by decide +kernel
theorem dX7_over_50 : decode cX7_over 50 = .ok (.iload_n 3, 1) := by decide +kernel
theorem dX7_over_51 : decode cX7_over 51 = .ok (.iconst 3, 1) := by decide +kernel
theorem dX7_over_52 : decode cX7_over 52 = .ok (.idiv, 1) := by decide +kernel
theorem dX7_over_53 : decode cX7_over 53 = .ok (.iaload, 1) := by decide +kernel
theorem dX7_over_54 : decode cX7_over 54 = .ok (.iconst 1, 1) := by decide +kernel
theorem dX7_over_55 : decode cX7_over 55 = .ok (.if_icmp .ne 16, 3) := by decide +kernel
theorem dX7_over_58 : decode cX7_over 58 = .ok (.aload_n 0, 1) := by decide +kernel
theorem dX7_over_59 : decode cX7_over 59 = .ok (.getfield 38, 3) := by decide +kernel
theorem dX7_over_62 : decode cX7_over 62 = .ok (.iload_n 1, 1) := by decide +kernel
theorem dX7_over_63 : decode cX7_over 63 = .ok (.iconst 1, 1) := by decide +kernel
theorem dX7_over_64 : decode cX7_over 64 = .ok (.iadd, 1) := by decide +kernel
theorem dX7_over_65 : decode cX7_over 65 = .ok (.iload_n 3, 1) := by decide +kernel
theorem dX7_over_66 : decode cX7_over 66 = .ok (.iadd, 1) := by decide +kernel
theorem dX7_over_67 : decode cX7_over 67 = .ok (.iaload, 1) := by decide +kernel
theorem dX7_over_68 : decode cX7_over 68 = .ok (.goto 4, 3) := by decide +kernel
theorem dX7_over_71 : decode cX7_over 71 = .ok (.iconst 0, 1) := by decide +kernel
theorem dX7_over_72 : decode cX7_over 72 = .ok (.iadd, 1) := by decide +kernel
theorem dX7_over_73 : decode cX7_over 73 = .ok (.istore 4, 2) := by decide +kernel
theorem dX7_over_75 : decode cX7_over 75 = .ok (.aload_n 0, 1) := by decide +kernel
theorem dX7_over_76 : decode cX7_over 76 = .ok (.getfield 38, 3) := by decide +kernel
theorem dX7_over_79 : decode cX7_over 79 = .ok (.iload_n 1, 1) := by decide +kernel
theorem dX7_over_80 : decode cX7_over 80 = .ok (.iconst 1, 1) := by decide +kernel
theorem dX7_over_81 : decode cX7_over 81 = .ok (.iadd, 1) := by decide +kernel
theorem dX7_over_82 : decode cX7_over 82 = .ok (.iload_n 3, 1) := by decide +kernel
theorem dX7_over_83 : decode cX7_over 83 = .ok (.iadd, 1) := by decide +kernel
theorem dX7_over_84 : decode cX7_over 84 = .ok (.iload 4, 2) := by decide +kernel
theorem dX7_over_86 : decode cX7_over 86 = .ok (.bipush 99, 2) := by decide +kernel
theorem dX7_over_88 : decode cX7_over 88 = .ok (.if_icmp .le 8, 3) := by decide +kernel
theorem dX7_over_91 : decode cX7_over 91 = .ok (.bipush 99, 2) := by decide +kernel
theorem dX7_over_93 : decode cX7_over 93 = .ok (.goto 5, 3) := by decide +kernel
theorem dX7_over_96 : decode cX7_over 96 = .ok (.iload 4, 2) := by decide +kernel
theorem dX7_over_98 : decode cX7_over 98 = .ok (.iastore, 1) := by decide +kernel
theorem dX7_over_99 : decode cX7_over 99 = .ok (.iinc 3 1, 3) := by decide +kernel
theorem dX7_over_102 : decode cX7_over 102 = .ok (.goto (-78), 3) := by decide +kernel
theorem dX7_over_105 : decode cX7_over 105 = .ok (.aload_n 0, 1) := by decide +kernel
theorem dX7_over_106 : decode cX7_over 106 = .ok (.getfield 38, 3) := by decide +kernel
theorem dX7_over_109 : decode cX7_over 109 = .ok (.iload_n 1, 1) := by decide +kernel
theorem dX7_over_110 : decode cX7_over 110 = .ok (.iconst 0, 1) := by decide +kernel
theorem dX7_over_111 : decode cX7_over 111 = .ok (.iadd, 1) := by decide +kernel
theorem dX7_over_112 : decode cX7_over 112 = .ok (.dup2, 1) := by decide +kernel
theorem dX7_over_113 : decode cX7_over 113 = .ok (.iaload, 1) := by decide +kernel
theorem dX7_over_114 : decode cX7_over 114 = .ok (.iconst 1, 1) := by decide +kernel
theorem dX7_over_115 : decode cX7_over 115 = .ok (.iadd, 1) := by decide +kernel
theorem dX7_over_116 : decode cX7_over 116 = .ok (.iastore, 1) := by decide +kernel
theorem dX7_over_117 : decode cX7_over 117 = .ok (.return_, 1) := by decide +kernel
theorem dX7_know_0 : decode cX7_know 0 = .ok (.aload_n 0, 1) := by decide +kernel
theorem dX7_know_1 : decode cX7_know 1 = .ok (.getfield 92, 3) := by decide +kernel
theorem dX7_know_4 : decode cX7_know 4 = .ok (.bipush 8, 2) := by decide +kernel
theorem dX7_know_6 : decode cX7_know 6 = .ok (.if_icmp .ne 46, 3) := by decide +kernel
theorem dX7_know_9 : decode cX7_know 9 = .ok (.iconst 0, 1) := by decide +kernel
theorem dX7_know_10 : decode cX7_know 10 = .ok (.istore_n 1, 1) := by decide +kernel
theorem dX7_know_11 : decode cX7_know 11 = .ok (.iload_n 1, 1) := by decide +kernel
theorem dX7_know_12 : decode cX7_know 12 = .ok (.sipush 217, 3) := by decide +kernel
theorem dX7_know_15 : decode cX7_know 15 = .ok (.if_icmp .ge 27, 3) := by decide +kernel
theorem dX7_know_18 : decode cX7_know 18 = .ok (.aload_n 0, 1) := by decide +kernel
theorem dX7_know_19 : decode cX7_know 19 = .ok (.getfield 38, 3) := by decide +kernel
theorem dX7_know_22 : decode cX7_know 22 = .ok (.bipush 31, 2) := by decide +kernel
theorem dX7_know_24 : decode cX7_know 24 = .ok (.iload_n 1, 1) := by decide +kernel
theorem dX7_know_25 : decode cX7_know 25 = .ok (.iadd, 1) := by decide +kernel
theorem dX7_know_26 : decode cX7_know 26 = .ok (.aload_n 0, 1) := by decide +kernel
