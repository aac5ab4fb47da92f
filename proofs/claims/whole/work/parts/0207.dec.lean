theorem dX0_init_0 : decode cX0_init 0 = .ok (.aload_n 0, 1) := by decide +kernel
theorem dX0_init_1 : decode cX0_init 1 = .ok (.invokespecial 5, 3) := by decide +kernel
theorem dX0_init_4 : decode cX0_init 4 = .ok (.aload_n 0, 1) := by decide +kernel
theorem dX0_init_5 : decode cX0_init 5 = .ok (.bipush 111, 2) := by decide +kernel
theorem dX0_init_7 : decode cX0_init 7 = .ok (.newarray .int, 2) := by decide +kernel
theorem dX0_init_9 : decode cX0_init 9 = .ok (.putfield 11, 3) := by decide +kernel
theorem dX0_init_12 : decode cX0_init 12 = .ok (.aload_n 0, 1) := by decide +kernel
theorem dX0_init_13 : decode cX0_init 13 = .ok (.bipush 6, 2) := by decide +kernel
theorem dX0_init_15 : decode cX0_init 15 = .ok (.newarray .int, 2) := by decide +kernel
theorem dX0_init_17 : decode cX0_init 17 = .ok (.putfield 15, 3) := by decide +kernel
theorem dX0_init_20 : decode cX0_init 20 = .ok (.aload_n 0, 1) := by decide +kernel
theorem dX0_init_21 : decode cX0_init 21 = .ok (.bipush 6, 2) := by decide +kernel
theorem dX0_init_23 : decode cX0_init 23 = .ok (.newarray .int, 2) := by decide +kernel
theorem dX0_init_25 : decode cX0_init 25 = .ok (.putfield 18, 3) := by decide +kernel
theorem dX0_init_28 : decode cX0_init 28 = .ok (.aload_n 0, 1) := by decide +kernel
theorem dX0_init_29 : decode cX0_init 29 = .ok (.bipush 7, 2) := by decide +kernel
theorem dX0_init_31 : decode cX0_init 31 = .ok (.newarray .int, 2) := by decide +kernel
theorem dX0_init_33 : decode cX0_init 33 = .ok (.putfield 21, 3) := by decide +kernel
theorem dX0_init_36 : decode cX0_init 36 = .ok (.return_, 1) := by decide +kernel
theorem dX0_choose_0 : decode cX0_choose 0 = .ok (.aload_n 0, 1) := by decide +kernel
theorem dX0_choose_1 : decode cX0_choose 1 = .ok (.iconst (-1), 1) := by decide +kernel
theorem dX0_choose_2 : decode cX0_choose 2 = .ok (.putfield 24, 3) := by decide +kernel
theorem dX0_choose_5 : decode cX0_choose 5 = .ok (.aload_n 0, 1) := by decide +kernel
theorem dX0_choose_6 : decode cX0_choose 6 = .ok (.iconst 0, 1) := by decide +kernel
theorem dX0_choose_7 : decode cX0_choose 7 = .ok (.putfield 28, 3) := by decide +kernel
theorem dX0_choose_10 : decode cX0_choose 10 = .ok (.aload_n 0, 1) := by decide +kernel
theorem dX0_choose_11 : decode cX0_choose 11 = .ok (.getfield 21, 3) := by decide +kernel
theorem dX0_choose_14 : decode cX0_choose 14 = .ok (.aload_n 1, 1) := by decide +kernel
theorem dX0_choose_15 : decode cX0_choose 15 = .ok (.getfield 31, 3) := by decide +kernel
theorem dX0_choose_18 : decode cX0_choose 18 = .ok (.iconst 0, 1) := by decide +kernel
theorem dX0_choose_19 : decode cX0_choose 19 = .ok (.iastore, 1) := by decide +kernel
theorem dX0_choose_20 : decode cX0_choose 20 = .ok (.aload_n 1, 1) := by decide +kernel
theorem dX0_choose_21 : decode cX0_choose 21 = .ok (.getfield 31, 3) := by decide +kernel
theorem dX0_choose_24 : decode cX0_choose 24 = .ok (.iconst 1, 1) := by decide +kernel
theorem dX0_choose_25 : decode cX0_choose 25 = .ok (.isub, 1) := by decide +kernel
theorem dX0_choose_26 : decode cX0_choose 26 = .ok (.istore 4, 2) := by decide +kernel
theorem dX0_choose_28 : decode cX0_choose 28 = .ok (.iload 4, 2) := by decide +kernel
theorem dX0_choose_30 : decode cX0_choose 30 = .ok (.ifCond .lt 35, 3) := by decide +kernel
theorem dX0_choose_33 : decode cX0_choose 33 = .ok (.aload_n 0, 1) := by decide +kernel
theorem dX0_choose_34 : decode cX0_choose 34 = .ok (.getfield 21, 3) := by decide +kernel
theorem dX0_choose_37 : decode cX0_choose 37 = .ok (.iload 4, 2) := by decide +kernel
theorem dX0_choose_39 : decode cX0_choose 39 = .ok (.aload_n 0, 1) := by decide +kernel
theorem dX0_choose_40 : decode cX0_choose 40 = .ok (.getfield 21, 3) := by decide +kernel
theorem dX0_choose_43 : decode cX0_choose 43 = .ok (.iload 4, 2) := by decide +kernel
theorem dX0_choose_45 : decode cX0_choose 45 = .ok (.iconst 1, 1) := by decide +kernel
theorem dX0_choose_46 : decode cX0_choose 46 = .ok (.iadd, 1) := by decide +kernel
theorem dX0_choose_47 : decode cX0_choose 47 = .ok (.iaload, 1) := by decide +kernel
theorem dX0_choose_48 : decode cX0_choose 48 = .ok (.iconst 5, 1) := by decide +kernel
theorem dX0_choose_49 : decode cX0_choose 49 = .ok (.aload_n 1, 1) := by decide +kernel
theorem dX0_choose_50 : decode cX0_choose 50 = .ok (.getfield 36, 3) := by decide +kernel
theorem dX0_choose_53 : decode cX0_choose 53 = .ok (.iload 4, 2) := by decide +kernel
theorem dX0_choose_55 : decode cX0_choose 55 = .ok (.iaload, 1) := by decide +kernel
theorem dX0_choose_56 : decode cX0_choose 56 = .ok (.imul, 1) := by decide +kernel
theorem dX0_choose_57 : decode cX0_choose 57 = .ok (.iadd, 1) := by decide +kernel
theorem dX0_choose_58 : decode cX0_choose 58 = .ok (.iastore, 1) := by decide +kernel
theorem dX0_choose_59 : decode cX0_choose 59 = .ok (.iinc 4 (-1), 3) := by decide +kernel
theorem dX0_choose_62 : decode cX0_choose 62 = .ok (.goto (-34), 3) := by decide +kernel
theorem dX0_choose_65 : decode cX0_choose 65 = .ok (.aload_n 3, 1) := by decide +kernel
theorem dX0_choose_66 : decode cX0_choose 66 = .ok (.getfield 39, 3) := by decide +kernel
theorem dX0_choose_69 : decode cX0_choose 69 = .ok (.iload_n 2, 1) := by decide +kernel
theorem dX0_choose_70 : decode cX0_choose 70 = .ok (.iconst 3, 1) := by decide +kernel
theorem dX0_choose_71 : decode cX0_choose 71 = .ok (.imul, 1) := by decide +kernel
theorem dX0_choose_72 : decode cX0_choose 72 = .ok (.aload_n 0, 1) := by decide +kernel
theorem dX0_choose_73 : decode cX0_choose 73 = .ok (.getfield 11, 3) := by decide +kernel
theorem dX0_choose_76 : decode cX0_choose 76 = .ok (.bipush 108, 2) := by decide +kernel
theorem dX0_choose_78 : decode cX0_choose 78 = .ok (.iconst 3, 1) := by decide +kernel
theorem dX0_choose_79 : decode cX0_choose 79 = .ok (.invokestatic 44, 3) := by decide +kernel
theorem dX0_choose_82 : decode cX0_choose 82 = .ok (.aload_n 0, 1) := by decide +kernel
theorem dX0_choose_83 : decode cX0_choose 83 = .ok (.aload_n 1, 1) := by decide +kernel
theorem dX0_choose_84 : decode cX0_choose 84 = .ok (.iload_n 2, 1) := by decide +kernel
theorem dX0_choose_85 : decode cX0_choose 85 = .ok (.iconst 0, 1) := by decide +kernel
theorem dX0_choose_86 : decode cX0_choose 86 = .ok (.bipush 108, 2) := by decide +kernel
theorem dX0_choose_88 : decode cX0_choose 88 = .ok (.iconst 0, 1) := by decide +kernel
theorem dX0_choose_89 : decode cX0_choose 89 = .ok (.iconst 0, 1) := by decide +kernel
theorem dX0_choose_90 : decode cX0_choose 90 = .ok (.invokevirtual 50, 3) := by decide +kernel
theorem dX0_choose_93 : decode cX0_choose 93 = .ok (.return_, 1) := by decide +kernel
theorem dX0_search_0 : decode cX0_search 0 = .ok (.aload_n 0, 1) := by decide +kernel
theorem dX0_search_1 : decode cX0_search 1 = .ok (.iload 5, 2) := by decide +kernel
theorem dX0_search_3 : decode cX0_search 3 = .ok (.aload_n 0, 1) := by decide +kernel
theorem dX0_search_4 : decode cX0_search 4 = .ok (.getfield 21, 3) := by decide +kernel
theorem dX0_search_7 : decode cX0_search 7 = .ok (.iload_n 3, 1) := by decide +kernel
theorem dX0_search_8 : decode cX0_search 8 = .ok (.iaload, 1) := by decide +kernel
theorem dX0_search_9 : decode cX0_search 9 = .ok (.iadd, 1) := by decide +kernel
theorem dX0_search_10 : decode cX0_search 10 = .ok (.iload 6, 2) := by decide +kernel
theorem dX0_search_12 : decode cX0_search 12 = .ok (.invokevirtual 54, 3) := by decide +kernel
theorem dX0_search_15 : decode cX0_search 15 = .ok (.ifCond .ne 4, 3) := by decide +kernel
theorem dX0_search_18 : decode cX0_search 18 = .ok (.return_, 1) := by decide +kernel
theorem dX0_search_19 : decode cX0_search 19 = .ok (.iload_n 3, 1) := by decide +kernel
theorem dX0_search_20 : decode cX0_search 20 = .ok (.aload_n 1, 1) := by decide +kernel
theorem dX0_search_21 : decode cX0_search 21 = .ok (.getfield 31, 3) := by decide +kernel
theorem dX0_search_24 : decode cX0_search 24 = .ok (.if_icmp .lt 31, 3) := by decide +kernel
theorem dX0_search_27 : decode cX0_search 27 = .ok (.aload_n 0, 1) := by decide +kernel
theorem dX0_search_28 : decode cX0_search 28 = .ok (.iload 5, 2) := by decide +kernel
theorem dX0_search_30 : decode cX0_search 30 = .ok (.putfield 24, 3) := by decide +kernel
theorem dX0_search_33 : decode cX0_search 33 = .ok (.aload_n 0, 1) := by decide +kernel
theorem dX0_search_34 : decode cX0_search 34 = .ok (.iload 6, 2) := by decide +kernel
theorem dX0_search_36 : decode cX0_search 36 = .ok (.putfield 28, 3) := by decide +kernel
theorem dX0_search_39 : decode cX0_search 39 = .ok (.aload_n 0, 1) := by decide +kernel
theorem dX0_search_40 : decode cX0_search 40 = .ok (.getfield 15, 3) := by decide +kernel
theorem dX0_search_43 : decode cX0_search 43 = .ok (.iconst 0, 1) := by decide +kernel
theorem dX0_search_44 : decode cX0_search 44 = .ok (.aload_n 0, 1) := by decide +kernel
theorem dX0_search_45 : decode cX0_search 45 = .ok (.getfield 18, 3) := by decide +kernel
theorem dX0_search_48 : decode cX0_search 48 = .ok (.iconst 0, 1) := by decide +kernel
theorem dX0_search_49 : decode cX0_search 49 = .ok (.bipush 6, 2) := by decide +kernel
theorem dX0_search_51 : decode cX0_search 51 = .ok (.invokestatic 44, 3) := by decide +kernel
theorem dX0_search_54 : decode cX0_search 54 = .ok (.return_, 1) := by decide +kernel
theorem dX0_search_55 : decode cX0_search 55 = .ok (.aload_n 0, 1) := by decide +kernel
theorem dX0_search_56 : decode cX0_search 56 = .ok (.aload_n 1, 1) := by decide +kernel
theorem dX0_search_57 : decode cX0_search 57 = .ok (.iload_n 2, 1) := by decide +kernel
theorem dX0_search_58 : decode cX0_search 58 = .ok (.iload_n 3, 1) := by decide +kernel
theorem dX0_search_59 : decode cX0_search 59 = .ok (.iload 4, 2) := by decide +kernel
theorem dX0_search_61 : decode cX0_search 61 = .ok (.invokevirtual 58, 3) := by decide +kernel
theorem dX0_search_64 : decode cX0_search 64 = .ok (.istore 7, 2) := by decide +kernel
theorem dX0_search_66 : decode cX0_search 66 = .ok (.iload 7, 2) := by decide +kernel
theorem dX0_search_68 : decode cX0_search 68 = .ok (.ifCond .lt 52, 3) := by decide +kernel
theorem dX0_search_71 : decode cX0_search 71 = .ok (.aload_n 0, 1) := by decide +kernel
theorem dX0_search_72 : decode cX0_search 72 = .ok (.getfield 15, 3) := by decide +kernel
theorem dX0_search_75 : decode cX0_search 75 = .ok (.iload_n 3, 1) := by decide +kernel
theorem dX0_search_76 : decode cX0_search 76 = .ok (.iload 7, 2) := by decide +kernel
theorem dX0_search_78 : decode cX0_search 78 = .ok (.iastore, 1) := by decide +kernel
theorem dX0_search_79 : decode cX0_search 79 = .ok (.aload_n 0, 1) := by decide +kernel
theorem dX0_search_80 : decode cX0_search 80 = .ok (.aload_n 1, 1) := by decide +kernel
theorem dX0_search_81 : decode cX0_search 81 = .ok (.iload_n 2, 1) := by decide +kernel
theorem dX0_search_82 : decode cX0_search 82 = .ok (.iload_n 3, 1) := by decide +kernel
theorem dX0_search_83 : decode cX0_search 83 = .ok (.iconst 1, 1) := by decide +kernel
theorem dX0_search_84 : decode cX0_search 84 = .ok (.iadd, 1) := by decide +kernel
theorem dX0_search_85 : decode cX0_search 85 = .ok (.iload_n 3, 1) := by decide +kernel
theorem dX0_search_86 : decode cX0_search 86 = .ok (.bipush 18, 2) := by decide +kernel
theorem dX0_search_88 : decode cX0_search 88 = .ok (.imul, 1) := by decide +kernel
theorem dX0_search_89 : decode cX0_search 89 = .ok (.iload 7, 2) := by decide +kernel
theorem dX0_search_91 : decode cX0_search 91 = .ok (.iconst 3, 1) := by decide +kernel
theorem dX0_search_92 : decode cX0_search 92 = .ok (.imul, 1) := by decide +kernel
theorem dX0_search_93 : decode cX0_search 93 = .ok (.iadd, 1) := by decide +kernel
theorem dX0_search_94 : decode cX0_search 94 = .ok (.iload 5, 2) := by decide +kernel
theorem dX0_search_96 : decode cX0_search 96 = .ok (.iload 7, 2) := by decide +kernel
theorem dX0_search_98 : decode cX0_search 98 = .ok (.aload_n 1, 1) := by decide +kernel
theorem dX0_search_99 : decode cX0_search 99 = .ok (.getfield 36, 3) := by decide +kernel
theorem dX0_search_102 : decode cX0_search 102 = .ok (.iload_n 3, 1) := by decide +kernel
theorem dX0_search_103 : decode cX0_search 103 = .ok (.iaload, 1) := by decide +kernel
theorem dX0_search_104 : decode cX0_search 104 = .ok (.imul, 1) := by decide +kernel
theorem dX0_search_105 : decode cX0_search 105 = .ok (.iadd, 1) := by decide +kernel
theorem dX0_search_106 : decode cX0_search 106 = .ok (.iload 6, 2) := by decide +kernel
theorem dX0_search_108 : decode cX0_search 108 = .ok (.iload 7, 2) := by decide +kernel
theorem dX0_search_110 : decode cX0_search 110 = .ok (.iadd, 1) := by decide +kernel
theorem dX0_search_111 : decode cX0_search 111 = .ok (.invokevirtual 50, 3) := by decide +kernel
theorem dX0_search_114 : decode cX0_search 114 = .ok (.iinc 7 (-1), 3) := by decide +kernel
theorem dX0_search_117 : decode cX0_search 117 = .ok (.goto (-51), 3) := by decide +kernel
theorem dX0_search_120 : decode cX0_search 120 = .ok (.return_, 1) := by decide +kernel
theorem dX0_isBetter_0 : decode cX0_isBetter 0 = .ok (.iload_n 1, 1) := by decide +kernel
theorem dX0_isBetter_1 : decode cX0_isBetter 1 = .ok (.aload_n 0, 1) := by decide +kernel
theorem dX0_isBetter_2 : decode cX0_isBetter 2 = .ok (.getfield 24, 3) := by decide +kernel
theorem dX0_isBetter_5 : decode cX0_isBetter 5 = .ok (.if_icmp .gt 19, 3) := by decide +kernel
theorem dX0_isBetter_8 : decode cX0_isBetter 8 = .ok (.iload_n 1, 1) := by decide +kernel
theorem dX0_isBetter_9 : decode cX0_isBetter 9 = .ok (.aload_n 0, 1) := by decide +kernel
theorem dX0_isBetter_10 : decode cX0_isBetter 10 = .ok (.getfield 24, 3) := by decide +kernel
theorem dX0_isBetter_13 : decode cX0_isBetter 13 = .ok (.if_icmp .ne 15, 3) := by decide +kernel
theorem dX0_isBetter_16 : decode cX0_isBetter 16 = .ok (.iload_n 2, 1) := by decide +kernel
theorem dX0_isBetter_17 : decode cX0_isBetter 17 = .ok (.aload_n 0, 1) := by decide +kernel
theorem dX0_isBetter_18 : decode cX0_isBetter 18 = .ok (.getfield 28, 3) := by decide +kernel
theorem dX0_isBetter_21 : decode cX0_isBetter 21 = .ok (.if_icmp .ge 7, 3) := by decide +kernel
theorem dX0_isBetter_24 : decode cX0_isBetter 24 = .ok (.iconst 1, 1) := by decide +kernel
theorem dX0_isBetter_25 : decode cX0_isBetter 25 = .ok (.goto 4, 3) := by decide +kernel
theorem dX0_isBetter_28 : decode cX0_isBetter 28 = .ok (.iconst 0, 1) := by decide +kernel
theorem dX0_isBetter_29 : decode cX0_isBetter 29 = .ok (.ireturn, 1) := by decide +kernel
theorem dX0_repeat_0 : decode cX0_repeat 0 = .ok (.iload_n 3, 1) := by decide +kernel
theorem dX0_repeat_1 : decode cX0_repeat 1 = .ok (.bipush 18, 2) := by decide +kernel
theorem dX0_repeat_3 : decode cX0_repeat 3 = .ok (.imul, 1) := by decide +kernel
theorem dX0_repeat_4 : decode cX0_repeat 4 = .ok (.istore 5, 2) := by decide +kernel
theorem dX0_repeat_6 : decode cX0_repeat 6 = .ok (.aload_n 0, 1) := by decide +kernel
theorem dX0_repeat_7 : decode cX0_repeat 7 = .ok (.getfield 11, 3) := by decide +kernel
theorem dX0_repeat_10 : decode cX0_repeat 10 = .ok (.iload 4, 2) := by decide +kernel
theorem dX0_repeat_12 : decode cX0_repeat 12 = .ok (.aload_n 0, 1) := by decide +kernel
theorem dX0_repeat_13 : decode cX0_repeat 13 = .ok (.getfield 11, 3) := by decide +kernel
theorem dX0_repeat_16 : decode cX0_repeat 16 = .ok (.iload 5, 2) := by decide +kernel
theorem dX0_repeat_18 : decode cX0_repeat 18 = .ok (.iconst 3, 1) := by decide +kernel
theorem dX0_repeat_19 : decode cX0_repeat 19 = .ok (.invokestatic 44, 3) := by decide +kernel
theorem dX0_repeat_22 : decode cX0_repeat 22 = .ok (.iconst 0, 1) := by decide +kernel
theorem dX0_repeat_23 : decode cX0_repeat 23 = .ok (.istore 6, 2) := by decide +kernel
theorem dX0_repeat_25 : decode cX0_repeat 25 = .ok (.iload 6, 2) := by decide +kernel
theorem dX0_repeat_27 : decode cX0_repeat 27 = .ok (.iconst 5, 1) := by decide +kernel
theorem dX0_repeat_28 : decode cX0_repeat 28 = .ok (.if_icmp .ge 58, 3) := by decide +kernel
theorem dX0_repeat_31 : decode cX0_repeat 31 = .ok (.aload_n 1, 1) := by decide +kernel
theorem dX0_repeat_32 : decode cX0_repeat 32 = .ok (.iload_n 2, 1) := by decide +kernel
theorem dX0_repeat_33 : decode cX0_repeat 33 = .ok (.iload_n 3, 1) := by decide +kernel
theorem dX0_repeat_34 : decode cX0_repeat 34 = .ok (.aload_n 0, 1) := by decide +kernel
theorem dX0_repeat_35 : decode cX0_repeat 35 = .ok (.getfield 11, 3) := by decide +kernel
theorem dX0_repeat_38 : decode cX0_repeat 38 = .ok (.iload 5, 2) := by decide +kernel
theorem dX0_repeat_40 : decode cX0_repeat 40 = .ok (.invokevirtual 62, 3) := by decide +kernel
theorem dX0_repeat_43 : decode cX0_repeat 43 = .ok (.ifCond .ne 6, 3) := by decide +kernel
theorem dX0_repeat_46 : decode cX0_repeat 46 = .ok (.iload 6, 2) := by decide +kernel
theorem dX0_repeat_48 : decode cX0_repeat 48 = .ok (.ireturn, 1) := by decide +kernel
theorem dX0_repeat_49 : decode cX0_repeat 49 = .ok (.aload_n 0, 1) := by decide +kernel
theorem dX0_repeat_50 : decode cX0_repeat 50 = .ok (.getfield 11, 3) := by decide +kernel
theorem dX0_repeat_53 : decode cX0_repeat 53 = .ok (.iload 5, 2) := by decide +kernel
theorem dX0_repeat_55 : decode cX0_repeat 55 = .ok (.aload_n 0, 1) := by decide +kernel
theorem dX0_repeat_56 : decode cX0_repeat 56 = .ok (.getfield 11, 3) := by decide +kernel
theorem dX0_repeat_59 : decode cX0_repeat 59 = .ok (.iload 5, 2) := by decide +kernel
theorem dX0_repeat_61 : decode cX0_repeat 61 = .ok (.iconst 3, 1) := by decide +kernel
theorem dX0_repeat_62 : decode cX0_repeat 62 = .ok (.iadd, 1) := by decide +kernel
theorem dX0_repeat_63 : decode cX0_repeat 63 = .ok (.iconst 3, 1) := by decide +kernel
theorem dX0_repeat_64 : decode cX0_repeat 64 = .ok (.invokestatic 44, 3) := by decide +kernel
theorem dX0_repeat_67 : decode cX0_repeat 67 = .ok (.iinc 5 3, 3) := by decide +kernel
theorem dX0_repeat_70 : decode cX0_repeat 70 = .ok (.aload_n 1, 1) := by decide +kernel
theorem dX0_repeat_71 : decode cX0_repeat 71 = .ok (.aload_n 0, 1) := by decide +kernel
theorem dX0_repeat_72 : decode cX0_repeat 72 = .ok (.getfield 11, 3) := by decide +kernel
theorem dX0_repeat_75 : decode cX0_repeat 75 = .ok (.iload 5, 2) := by decide +kernel
theorem dX0_repeat_77 : decode cX0_repeat 77 = .ok (.invokevirtual 66, 3) := by decide +kernel
theorem dX0_repeat_80 : decode cX0_repeat 80 = .ok (.iinc 6 1, 3) := by decide +kernel
theorem dX0_repeat_83 : decode cX0_repeat 83 = .ok (.goto (-58), 3) := by decide +kernel
theorem dX0_repeat_86 : decode cX0_repeat 86 = .ok (.iconst 5, 1) := by decide +kernel
theorem dX0_repeat_87 : decode cX0_repeat 87 = .ok (.ireturn, 1) := by decide +kernel
