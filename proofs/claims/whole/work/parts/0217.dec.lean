theorem dX7_know_27 : decode cX7_know 27 = .ok (.getfield 38, 3) := by decide +kernel
theorem dX7_know_30 : decode cX7_know 30 = .ok (.bipush 62, 2) := by decide +kernel
theorem dX7_know_32 : decode cX7_know 32 = .ok (.iload_n 1, 1) := by decide +kernel
theorem dX7_know_33 : decode cX7_know 33 = .ok (.iadd, 1) := by decide +kernel
theorem dX7_know_34 : decode cX7_know 34 = .ok (.iaload, 1) := by decide +kernel
theorem dX7_know_35 : decode cX7_know 35 = .ok (.iastore, 1) := by decide +kernel
theorem dX7_know_36 : decode cX7_know 36 = .ok (.iinc 1 1, 3) := by decide +kernel
theorem dX7_know_39 : decode cX7_know 39 = .ok (.goto (-28), 3) := by decide +kernel
theorem dX7_know_42 : decode cX7_know 42 = .ok (.aload_n 0, 1) := by decide +kernel
theorem dX7_know_43 : decode cX7_know 43 = .ok (.dup, 1) := by decide +kernel
theorem dX7_know_44 : decode cX7_know 44 = .ok (.getfield 92, 3) := by decide +kernel
theorem dX7_know_47 : decode cX7_know 47 = .ok (.iconst 1, 1) := by decide +kernel
theorem dX7_know_48 : decode cX7_know 48 = .ok (.isub, 1) := by decide +kernel
theorem dX7_know_49 : decode cX7_know 49 = .ok (.putfield 92, 3) := by decide +kernel
theorem dX7_know_52 : decode cX7_know 52 = .ok (.aload_n 0, 1) := by decide +kernel
theorem dX7_know_53 : decode cX7_know 53 = .ok (.iconst 0, 1) := by decide +kernel
theorem dX7_know_54 : decode cX7_know 54 = .ok (.bipush 31, 2) := by decide +kernel
theorem dX7_know_56 : decode cX7_know 56 = .ok (.bipush 31, 2) := by decide +kernel
theorem dX7_know_58 : decode cX7_know 58 = .ok (.aload_n 0, 1) := by decide +kernel
theorem dX7_know_59 : decode cX7_know 59 = .ok (.getfield 92, 3) := by decide +kernel
theorem dX7_know_62 : decode cX7_know 62 = .ok (.imul, 1) := by decide +kernel
theorem dX7_know_63 : decode cX7_know 63 = .ok (.iadd, 1) := by decide +kernel
theorem dX7_know_64 : decode cX7_know 64 = .ok (.invokevirtual 131, 3) := by decide +kernel
theorem dX7_know_67 : decode cX7_know 67 = .ok (.aload_n 0, 1) := by decide +kernel
theorem dX7_know_68 : decode cX7_know 68 = .ok (.dup, 1) := by decide +kernel
theorem dX7_know_69 : decode cX7_know 69 = .ok (.getfield 92, 3) := by decide +kernel
theorem dX7_know_72 : decode cX7_know 72 = .ok (.iconst 1, 1) := by decide +kernel
theorem dX7_know_73 : decode cX7_know 73 = .ok (.iadd, 1) := by decide +kernel
theorem dX7_know_74 : decode cX7_know 74 = .ok (.putfield 92, 3) := by decide +kernel
theorem dX7_know_77 : decode cX7_know 77 = .ok (.return_, 1) := by decide +kernel
theorem dX7_pass_0 : decode cX7_pass 0 = .ok (.iload_n 1, 1) := by decide +kernel
theorem dX7_pass_1 : decode cX7_pass 1 = .ok (.iconst 1, 1) := by decide +kernel
theorem dX7_pass_2 : decode cX7_pass 2 = .ok (.bipush 30, 2) := by decide +kernel
theorem dX7_pass_4 : decode cX7_pass 4 = .ok (.invokestatic 66, 3) := by decide +kernel
theorem dX7_pass_7 : decode cX7_pass 7 = .ok (.ifCond .ne 5, 3) := by decide +kernel
theorem dX7_pass_10 : decode cX7_pass 10 = .ok (.iconst (-1), 1) := by decide +kernel
theorem dX7_pass_11 : decode cX7_pass 11 = .ok (.ireturn, 1) := by decide +kernel
theorem dX7_pass_12 : decode cX7_pass 12 = .ok (.aload_n 0, 1) := by decide +kernel
theorem dX7_pass_13 : decode cX7_pass 13 = .ok (.invokevirtual 134, 3) := by decide +kernel
theorem dX7_pass_16 : decode cX7_pass 16 = .ok (.iconst 0, 1) := by decide +kernel
theorem dX7_pass_17 : decode cX7_pass 17 = .ok (.istore_n 2, 1) := by decide +kernel
theorem dX7_pass_18 : decode cX7_pass 18 = .ok (.iload_n 2, 1) := by decide +kernel
theorem dX7_pass_19 : decode cX7_pass 19 = .ok (.iload_n 1, 1) := by decide +kernel
theorem dX7_pass_20 : decode cX7_pass 20 = .ok (.if_icmp .ge 24, 3) := by decide +kernel
theorem dX7_pass_23 : decode cX7_pass 23 = .ok (.aload_n 0, 1) := by decide +kernel
theorem dX7_pass_24 : decode cX7_pass 24 = .ok (.iconst 0, 1) := by decide +kernel
theorem dX7_pass_25 : decode cX7_pass 25 = .ok (.invokevirtual 137, 3) := by decide +kernel
theorem dX7_pass_28 : decode cX7_pass 28 = .ok (.aload_n 0, 1) := by decide +kernel
theorem dX7_pass_29 : decode cX7_pass 29 = .ok (.iconst 0, 1) := by decide +kernel
theorem dX7_pass_30 : decode cX7_pass 30 = .ok (.invokevirtual 141, 3) := by decide +kernel
theorem dX7_pass_33 : decode cX7_pass 33 = .ok (.aload_n 0, 1) := by decide +kernel
theorem dX7_pass_34 : decode cX7_pass 34 = .ok (.iconst 0, 1) := by decide +kernel
theorem dX7_pass_35 : decode cX7_pass 35 = .ok (.invokevirtual 144, 3) := by decide +kernel
theorem dX7_pass_38 : decode cX7_pass 38 = .ok (.iinc 2 1, 3) := by decide +kernel
theorem dX7_pass_41 : decode cX7_pass 41 = .ok (.goto (-23), 3) := by decide +kernel
theorem dX7_pass_44 : decode cX7_pass 44 = .ok (.aload_n 0, 1) := by decide +kernel
theorem dX7_pass_45 : decode cX7_pass 45 = .ok (.getfield 38, 3) := by decide +kernel
theorem dX7_pass_48 : decode cX7_pass 48 = .ok (.iconst 0, 1) := by decide +kernel
theorem dX7_pass_49 : decode cX7_pass 49 = .ok (.iaload, 1) := by decide +kernel
theorem dX7_pass_50 : decode cX7_pass 50 = .ok (.bipush 7, 2) := by decide +kernel
theorem dX7_pass_52 : decode cX7_pass 52 = .ok (.irem, 1) := by decide +kernel
theorem dX7_pass_53 : decode cX7_pass 53 = .ok (.ireturn, 1) := by decide +kernel
theorem dX7_act_0 : decode cX7_act 0 = .ok (.aload_n 0, 1) := by decide +kernel
theorem dX7_act_1 : decode cX7_act 1 = .ok (.iload_n 1, 1) := by decide +kernel
theorem dX7_act_2 : decode cX7_act 2 = .ok (.invokevirtual 104, 3) := by decide +kernel
theorem dX7_act_5 : decode cX7_act 5 = .ok (.ifCond .eq 11, 3) := by decide +kernel
theorem dX7_act_8 : decode cX7_act 8 = .ok (.aload_n 0, 1) := by decide +kernel
theorem dX7_act_9 : decode cX7_act 9 = .ok (.iload_n 2, 1) := by decide +kernel
theorem dX7_act_10 : decode cX7_act 10 = .ok (.invokevirtual 112, 3) := by decide +kernel
theorem dX7_act_13 : decode cX7_act 13 = .ok (.ifCond .ne 5, 3) := by decide +kernel
theorem dX7_act_16 : decode cX7_act 16 = .ok (.iconst (-1), 1) := by decide +kernel
theorem dX7_act_17 : decode cX7_act 17 = .ok (.ireturn, 1) := by decide +kernel
theorem dX7_act_18 : decode cX7_act 18 = .ok (.aload_n 0, 1) := by decide +kernel
theorem dX7_act_19 : decode cX7_act 19 = .ok (.iconst 0, 1) := by decide +kernel
theorem dX7_act_20 : decode cX7_act 20 = .ok (.iload_n 1, 1) := by decide +kernel
theorem dX7_act_21 : decode cX7_act 21 = .ok (.iload_n 2, 1) := by decide +kernel
theorem dX7_act_22 : decode cX7_act 22 = .ok (.invokevirtual 122, 3) := by decide +kernel
theorem dX7_act_25 : decode cX7_act 25 = .ok (.ifCond .ne 6, 3) := by decide +kernel
theorem dX7_act_28 : decode cX7_act 28 = .ok (.bipush (-2), 2) := by decide +kernel
theorem dX7_act_30 : decode cX7_act 30 = .ok (.ireturn, 1) := by decide +kernel
theorem dX7_act_31 : decode cX7_act 31 = .ok (.aload_n 0, 1) := by decide +kernel
theorem dX7_act_32 : decode cX7_act 32 = .ok (.invokevirtual 134, 3) := by decide +kernel
theorem dX7_act_35 : decode cX7_act 35 = .ok (.aload_n 0, 1) := by decide +kernel
theorem dX7_act_36 : decode cX7_act 36 = .ok (.iconst 0, 1) := by decide +kernel
theorem dX7_act_37 : decode cX7_act 37 = .ok (.iload_n 1, 1) := by decide +kernel
theorem dX7_act_38 : decode cX7_act 38 = .ok (.iload_n 2, 1) := by decide +kernel
theorem dX7_act_39 : decode cX7_act 39 = .ok (.invokevirtual 125, 3) := by decide +kernel
theorem dX7_act_42 : decode cX7_act 42 = .ok (.ireturn, 1) := by decide +kernel
theorem dX7_lend_0 : decode cX7_lend 0 = .ok (.aload_n 0, 1) := by decide +kernel
theorem dX7_lend_1 : decode cX7_lend 1 = .ok (.iload_n 1, 1) := by decide +kernel
theorem dX7_lend_2 : decode cX7_lend 2 = .ok (.invokevirtual 104, 3) := by decide +kernel
theorem dX7_lend_5 : decode cX7_lend 5 = .ok (.ifCond .eq 34, 3) := by decide +kernel
theorem dX7_lend_8 : decode cX7_lend 8 = .ok (.aload_n 0, 1) := by decide +kernel
theorem dX7_lend_9 : decode cX7_lend 9 = .ok (.iload_n 2, 1) := by decide +kernel
theorem dX7_lend_10 : decode cX7_lend 10 = .ok (.invokevirtual 104, 3) := by decide +kernel
theorem dX7_lend_13 : decode cX7_lend 13 = .ok (.ifCond .eq 26, 3) := by decide +kernel
theorem dX7_lend_16 : decode cX7_lend 16 = .ok (.iload_n 1, 1) := by decide +kernel
theorem dX7_lend_17 : decode cX7_lend 17 = .ok (.iload_n 2, 1) := by decide +kernel
theorem dX7_lend_18 : decode cX7_lend 18 = .ok (.if_icmp .eq 21, 3) := by decide +kernel
theorem dX7_lend_21 : decode cX7_lend 21 = .ok (.iload_n 3, 1) := by decide +kernel
theorem dX7_lend_22 : decode cX7_lend 22 = .ok (.invokestatic 147, 3) := by decide +kernel
theorem dX7_lend_25 : decode cX7_lend 25 = .ok (.ifCond .eq 14, 3) := by decide +kernel
theorem dX7_lend_28 : decode cX7_lend 28 = .ok (.iload 4, 2) := by decide +kernel
theorem dX7_lend_30 : decode cX7_lend 30 = .ok (.iconst 1, 1) := by decide +kernel
theorem dX7_lend_31 : decode cX7_lend 31 = .ok (.bipush 99, 2) := by decide +kernel
theorem dX7_lend_33 : decode cX7_lend 33 = .ok (.invokestatic 66, 3) := by decide +kernel
theorem dX7_lend_36 : decode cX7_lend 36 = .ok (.ifCond .ne 5, 3) := by decide +kernel
theorem dX7_lend_39 : decode cX7_lend 39 = .ok (.iconst (-1), 1) := by decide +kernel
theorem dX7_lend_40 : decode cX7_lend 40 = .ok (.ireturn, 1) := by decide +kernel
theorem dX7_lend_41 : decode cX7_lend 41 = .ok (.iconst 1, 1) := by decide +kernel
theorem dX7_lend_42 : decode cX7_lend 42 = .ok (.iconst 3, 1) := by decide +kernel
theorem dX7_lend_43 : decode cX7_lend 43 = .ok (.iload_n 1, 1) := by decide +kernel
theorem dX7_lend_44 : decode cX7_lend 44 = .ok (.imul, 1) := by decide +kernel
theorem dX7_lend_45 : decode cX7_lend 45 = .ok (.iadd, 1) := by decide +kernel
theorem dX7_lend_46 : decode cX7_lend 46 = .ok (.iload_n 3, 1) := by decide +kernel
theorem dX7_lend_47 : decode cX7_lend 47 = .ok (.iadd, 1) := by decide +kernel
theorem dX7_lend_48 : decode cX7_lend 48 = .ok (.istore 5, 2) := by decide +kernel
theorem dX7_lend_50 : decode cX7_lend 50 = .ok (.iconst 1, 1) := by decide +kernel
theorem dX7_lend_51 : decode cX7_lend 51 = .ok (.iconst 3, 1) := by decide +kernel
theorem dX7_lend_52 : decode cX7_lend 52 = .ok (.iload_n 2, 1) := by decide +kernel
theorem dX7_lend_53 : decode cX7_lend 53 = .ok (.imul, 1) := by decide +kernel
theorem dX7_lend_54 : decode cX7_lend 54 = .ok (.iadd, 1) := by decide +kernel
theorem dX7_lend_55 : decode cX7_lend 55 = .ok (.iload_n 3, 1) := by decide +kernel
theorem dX7_lend_56 : decode cX7_lend 56 = .ok (.iadd, 1) := by decide +kernel
theorem dX7_lend_57 : decode cX7_lend 57 = .ok (.istore 6, 2) := by decide +kernel
theorem dX7_lend_59 : decode cX7_lend 59 = .ok (.aload_n 0, 1) := by decide +kernel
theorem dX7_lend_60 : decode cX7_lend 60 = .ok (.getfield 38, 3) := by decide +kernel
theorem dX7_lend_63 : decode cX7_lend 63 = .ok (.iload 5, 2) := by decide +kernel
theorem dX7_lend_65 : decode cX7_lend 65 = .ok (.iaload, 1) := by decide +kernel
theorem dX7_lend_66 : decode cX7_lend 66 = .ok (.iload 4, 2) := by decide +kernel
theorem dX7_lend_68 : decode cX7_lend 68 = .ok (.if_icmp .ge 6, 3) := by decide +kernel
theorem dX7_lend_71 : decode cX7_lend 71 = .ok (.bipush (-2), 2) := by decide +kernel
theorem dX7_lend_73 : decode cX7_lend 73 = .ok (.ireturn, 1) := by decide +kernel
theorem dX7_lend_74 : decode cX7_lend 74 = .ok (.aload_n 0, 1) := by decide +kernel
theorem dX7_lend_75 : decode cX7_lend 75 = .ok (.getfield 38, 3) := by decide +kernel
theorem dX7_lend_78 : decode cX7_lend 78 = .ok (.iload 6, 2) := by decide +kernel
theorem dX7_lend_80 : decode cX7_lend 80 = .ok (.iaload, 1) := by decide +kernel
theorem dX7_lend_81 : decode cX7_lend 81 = .ok (.iload 4, 2) := by decide +kernel
theorem dX7_lend_83 : decode cX7_lend 83 = .ok (.iadd, 1) := by decide +kernel
theorem dX7_lend_84 : decode cX7_lend 84 = .ok (.bipush 99, 2) := by decide +kernel
theorem dX7_lend_86 : decode cX7_lend 86 = .ok (.if_icmp .le 6, 3) := by decide +kernel
theorem dX7_lend_89 : decode cX7_lend 89 = .ok (.bipush (-3), 2) := by decide +kernel
theorem dX7_lend_91 : decode cX7_lend 91 = .ok (.ireturn, 1) := by decide +kernel
theorem dX7_lend_92 : decode cX7_lend 92 = .ok (.aload_n 0, 1) := by decide +kernel
theorem dX7_lend_93 : decode cX7_lend 93 = .ok (.invokevirtual 134, 3) := by decide +kernel
theorem dX7_lend_96 : decode cX7_lend 96 = .ok (.aload_n 0, 1) := by decide +kernel
theorem dX7_lend_97 : decode cX7_lend 97 = .ok (.getfield 38, 3) := by decide +kernel
theorem dX7_lend_100 : decode cX7_lend 100 = .ok (.iload 5, 2) := by decide +kernel
theorem dX7_lend_102 : decode cX7_lend 102 = .ok (.dup2, 1) := by decide +kernel
theorem dX7_lend_103 : decode cX7_lend 103 = .ok (.iaload, 1) := by decide +kernel
theorem dX7_lend_104 : decode cX7_lend 104 = .ok (.iload 4, 2) := by decide +kernel
theorem dX7_lend_106 : decode cX7_lend 106 = .ok (.isub, 1) := by decide +kernel
theorem dX7_lend_107 : decode cX7_lend 107 = .ok (.iastore, 1) := by decide +kernel
theorem dX7_lend_108 : decode cX7_lend 108 = .ok (.aload_n 0, 1) := by decide +kernel
theorem dX7_lend_109 : decode cX7_lend 109 = .ok (.getfield 38, 3) := by decide +kernel
theorem dX7_lend_112 : decode cX7_lend 112 = .ok (.iload 6, 2) := by decide +kernel
theorem dX7_lend_114 : decode cX7_lend 114 = .ok (.dup2, 1) := by decide +kernel
theorem dX7_lend_115 : decode cX7_lend 115 = .ok (.iaload, 1) := by decide +kernel
theorem dX7_lend_116 : decode cX7_lend 116 = .ok (.iload 4, 2) := by decide +kernel
theorem dX7_lend_118 : decode cX7_lend 118 = .ok (.iadd, 1) := by decide +kernel
theorem dX7_lend_119 : decode cX7_lend 119 = .ok (.iastore, 1) := by decide +kernel
theorem dX7_lend_120 : decode cX7_lend 120 = .ok (.aload_n 0, 1) := by decide +kernel
theorem dX7_lend_121 : decode cX7_lend 121 = .ok (.getfield 38, 3) := by decide +kernel
theorem dX7_lend_124 : decode cX7_lend 124 = .ok (.iload 6, 2) := by decide +kernel
theorem dX7_lend_126 : decode cX7_lend 126 = .ok (.iaload, 1) := by decide +kernel
theorem dX7_lend_127 : decode cX7_lend 127 = .ok (.ireturn, 1) := by decide +kernel
theorem dX7_sell_0 : decode cX7_sell 0 = .ok (.aload_n 0, 1) := by decide +kernel
theorem dX7_sell_1 : decode cX7_sell 1 = .ok (.iload_n 1, 1) := by decide +kernel
theorem dX7_sell_2 : decode cX7_sell 2 = .ok (.invokevirtual 104, 3) := by decide +kernel
theorem dX7_sell_5 : decode cX7_sell 5 = .ok (.ifCond .eq 20, 3) := by decide +kernel
theorem dX7_sell_8 : decode cX7_sell 8 = .ok (.iload_n 2, 1) := by decide +kernel
theorem dX7_sell_9 : decode cX7_sell 9 = .ok (.invokestatic 147, 3) := by decide +kernel
theorem dX7_sell_12 : decode cX7_sell 12 = .ok (.ifCond .eq 13, 3) := by decide +kernel
theorem dX7_sell_15 : decode cX7_sell 15 = .ok (.iload_n 3, 1) := by decide +kernel
theorem dX7_sell_16 : decode cX7_sell 16 = .ok (.iconst 1, 1) := by decide +kernel
theorem dX7_sell_17 : decode cX7_sell 17 = .ok (.bipush 99, 2) := by decide +kernel
theorem dX7_sell_19 : decode cX7_sell 19 = .ok (.invokestatic 66, 3) := by decide +kernel
theorem dX7_sell_22 : decode cX7_sell 22 = .ok (.ifCond .ne 5, 3) := by decide +kernel
theorem dX7_sell_25 : decode cX7_sell 25 = .ok (.iconst (-1), 1) := by decide +kernel
theorem dX7_sell_26 : decode cX7_sell 26 = .ok (.ireturn, 1) := by decide +kernel
theorem dX7_sell_27 : decode cX7_sell 27 = .ok (.aload_n 0, 1) := by decide +kernel
theorem dX7_sell_28 : decode cX7_sell 28 = .ok (.getfield 38, 3) := by decide +kernel
theorem dX7_sell_31 : decode cX7_sell 31 = .ok (.iconst 1, 1) := by decide +kernel
theorem dX7_sell_32 : decode cX7_sell 32 = .ok (.iconst 3, 1) := by decide +kernel
theorem dX7_sell_33 : decode cX7_sell 33 = .ok (.iload_n 1, 1) := by decide +kernel
theorem dX7_sell_34 : decode cX7_sell 34 = .ok (.imul, 1) := by decide +kernel
theorem dX7_sell_35 : decode cX7_sell 35 = .ok (.iadd, 1) := by decide +kernel
theorem dX7_sell_36 : decode cX7_sell 36 = .ok (.iload_n 2, 1) := by decide +kernel
theorem dX7_sell_37 : decode cX7_sell 37 = .ok (.iadd, 1) := by decide +kernel
theorem dX7_sell_38 : decode cX7_sell 38 = .ok (.iaload, 1) := by decide +kernel
theorem dX7_sell_39 : decode cX7_sell 39 = .ok (.iload_n 3, 1) := by decide +kernel
theorem dX7_sell_40 : decode cX7_sell 40 = .ok (.if_icmp .ge 6, 3) := by decide +kernel
theorem dX7_sell_43 : decode cX7_sell 43 = .ok (.bipush (-2), 2) := by decide +kernel
theorem dX7_sell_45 : decode cX7_sell 45 = .ok (.ireturn, 1) := by decide +kernel
theorem dX7_sell_46 : decode cX7_sell 46 = .ok (.aload_n 0, 1) := by decide +kernel
theorem dX7_sell_47 : decode cX7_sell 47 = .ok (.invokevirtual 134, 3) := by decide +kernel
theorem dX7_sell_50 : decode cX7_sell 50 = .ok (.aload_n 0, 1) := by decide +kernel
theorem dX7_sell_51 : decode cX7_sell 51 = .ok (.getfield 38, 3) := by decide +kernel
theorem dX7_sell_54 : decode cX7_sell 54 = .ok (.iconst 1, 1) := by decide +kernel
theorem dX7_sell_55 : decode cX7_sell 55 = .ok (.iconst 3, 1) := by decide +kernel
theorem dX7_sell_56 : decode cX7_sell 56 = .ok (.iload_n 1, 1) := by decide +kernel
theorem dX7_sell_57 : decode cX7_sell 57 = .ok (.imul, 1) := by decide +kernel
theorem dX7_sell_58 : decode cX7_sell 58 = .ok (.iadd, 1) := by decide +kernel
theorem dX7_sell_59 : decode cX7_sell 59 = .ok (.iload_n 2, 1) := by decide +kernel
theorem dX7_sell_60 : decode cX7_sell 60 = .ok (.iadd, 1) := by decide +kernel
theorem dX7_sell_61 : decode cX7_sell 61 = .ok (.dup2, 1) := by decide +kernel
theorem dX7_sell_62 : decode cX7_sell 62 = .ok (.iaload, 1) := by decide +kernel
theorem dX7_sell_63 : decode cX7_sell 63 = .ok (.iload_n 3, 1) := by decide +kernel
theorem dX7_sell_64 : decode cX7_sell 64 = .ok (.isub, 1) := by decide +kernel
theorem dX7_sell_65 : decode cX7_sell 65 = .ok (.iastore, 1) := by decide +kernel
theorem dX7_sell_66 : decode cX7_sell 66 = .ok (.aload_n 0, 1) := by decide +kernel
theorem dX7_sell_67 : decode cX7_sell 67 = .ok (.getfield 38, 3) := by decide +kernel
theorem dX7_sell_70 : decode cX7_sell 70 = .ok (.bipush 19, 2) := by decide +kernel
theorem dX7_sell_72 : decode cX7_sell 72 = .ok (.iload_n 1, 1) := by decide +kernel
theorem dX7_sell_73 : decode cX7_sell 73 = .ok (.iadd, 1) := by decide +kernel
theorem dX7_sell_74 : decode cX7_sell 74 = .ok (.dup2, 1) := by decide +kernel
theorem dX7_sell_75 : decode cX7_sell 75 = .ok (.iaload, 1) := by decide +kernel
theorem dX7_sell_76 : decode cX7_sell 76 = .ok (.iload_n 3, 1) := by decide +kernel
theorem dX7_sell_77 : decode cX7_sell 77 = .ok (.aload_n 0, 1) := by decide +kernel
theorem dX7_sell_78 : decode cX7_sell 78 = .ok (.getfield 35, 3) := by decide +kernel
theorem dX7_sell_81 : decode cX7_sell 81 = .ok (.iconst 0, 1) := by decide +kernel
theorem dX7_sell_82 : decode cX7_sell 82 = .ok (.iaload, 1) := by decide +kernel
theorem dX7_sell_83 : decode cX7_sell 83 = .ok (.imul, 1) := by decide +kernel
theorem dX7_sell_84 : decode cX7_sell 84 = .ok (.iadd, 1) := by decide +kernel
theorem dX7_sell_85 : decode cX7_sell 85 = .ok (.iastore, 1) := by decide +kernel
theorem dX7_sell_86 : decode cX7_sell 86 = .ok (.aload_n 0, 1) := by decide +kernel
theorem dX7_sell_87 : decode cX7_sell 87 = .ok (.getfield 38, 3) := by decide +kernel
theorem dX7_sell_90 : decode cX7_sell 90 = .ok (.bipush 19, 2) := by decide +kernel
theorem dX7_sell_92 : decode cX7_sell 92 = .ok (.iload_n 1, 1) := by decide +kernel
theorem dX7_sell_93 : decode cX7_sell 93 = .ok (.iadd, 1) := by decide +kernel
theorem dX7_sell_94 : decode cX7_sell 94 = .ok (.iaload, 1) := by decide +kernel
theorem dX7_sell_95 : decode cX7_sell 95 = .ok (.ireturn, 1) := by decide +kernel
theorem dX7_levy_0 : decode cX7_levy 0 = .ok (.iload_n 1, 1) := by decide +kernel
theorem dX7_levy_1 : decode cX7_levy 1 = .ok (.invokestatic 147, 3) := by decide +kernel
theorem dX7_levy_4 : decode cX7_levy 4 = .ok (.ifCond .eq 13, 3) := by decide +kernel
theorem dX7_levy_7 : decode cX7_levy 7 = .ok (.iload_n 2, 1) := by decide +kernel
theorem dX7_levy_8 : decode cX7_levy 8 = .ok (.iconst 1, 1) := by decide +kernel
theorem dX7_levy_9 : decode cX7_levy 9 = .ok (.bipush 99, 2) := by decide +kernel
theorem dX7_levy_11 : decode cX7_levy 11 = .ok (.invokestatic 66, 3) := by decide +kernel
theorem dX7_levy_14 : decode cX7_levy 14 = .ok (.ifCond .ne 5, 3) := by decide +kernel
theorem dX7_levy_17 : decode cX7_levy 17 = .ok (.iconst (-1), 1) := by decide +kernel
theorem dX7_levy_18 : decode cX7_levy 18 = .ok (.ireturn, 1) := by decide +kernel
theorem dX7_levy_19 : decode cX7_levy 19 = .ok (.aload_n 0, 1) := by decide +kernel
theorem dX7_levy_20 : decode cX7_levy 20 = .ok (.invokevirtual 134, 3) := by decide +kernel
theorem dX7_levy_23 : decode cX7_levy 23 = .ok (.iconst 0, 1) := by decide +kernel
theorem dX7_levy_24 : decode cX7_levy 24 = .ok (.istore_n 3, 1) := by decide +kernel
theorem dX7_levy_25 : decode cX7_levy 25 = .ok (.iload_n 3, 1) := by decide +kernel
theorem dX7_levy_26 : decode cX7_levy 26 = .ok (.iload_n 2, 1) := by decide +kernel
theorem dX7_levy_27 : decode cX7_levy 27 = .ok (.if_icmp .ge 105, 3) := by decide +kernel
theorem dX7_levy_30 : decode cX7_levy 30 = .ok (.iconst 0, 1) := by decide +kernel
theorem dX7_levy_31 : decode cX7_levy 31 = .ok (.istore 4, 2) := by decide +kernel
theorem dX7_levy_33 : decode cX7_levy 33 = .ok (.iconst 1, 1) := by decide +kernel
theorem dX7_levy_34 : decode cX7_levy 34 = .ok (.istore 5, 2) := by decide +kernel
theorem dX7_levy_36 : decode cX7_levy 36 = .ok (.iload 5, 2) := by decide +kernel
theorem dX7_levy_38 : decode cX7_levy 38 = .ok (.aload_n 0, 1) := by decide +kernel
theorem dX7_levy_39 : decode cX7_levy 39 = .ok (.getfield 13, 3) := by decide +kernel
theorem dX7_levy_42 : decode cX7_levy 42 = .ok (.iconst 0, 1) := by decide +kernel
theorem dX7_levy_43 : decode cX7_levy 43 = .ok (.iaload, 1) := by decide +kernel
theorem dX7_levy_44 : decode cX7_levy 44 = .ok (.if_icmp .ge 47, 3) := by decide +kernel
theorem dX7_levy_47 : decode cX7_levy 47 = .ok (.aload_n 0, 1) := by decide +kernel
theorem dX7_levy_48 : decode cX7_levy 48 = .ok (.getfield 38, 3) := by decide +kernel
theorem dX7_levy_51 : decode cX7_levy 51 = .ok (.iconst 1, 1) := by decide +kernel
theorem dX7_levy_52 : decode cX7_levy 52 = .ok (.iconst 3, 1) := by decide +kernel
theorem dX7_levy_53 : decode cX7_levy 53 = .ok (.iload 5, 2) := by decide +kernel
theorem dX7_levy_55 : decode cX7_levy 55 = .ok (.imul, 1) := by decide +kernel
theorem dX7_levy_56 : decode cX7_levy 56 = .ok (.iadd, 1) := by decide +kernel
theorem dX7_levy_57 : decode cX7_levy 57 = .ok (.iload_n 1, 1) := by decide +kernel
theorem dX7_levy_58 : decode cX7_levy 58 = .ok (.iadd, 1) := by decide +kernel
theorem dX7_levy_59 : decode cX7_levy 59 = .ok (.iaload, 1) := by decide +kernel
theorem dX7_levy_60 : decode cX7_levy 60 = .ok (.aload_n 0, 1) := by decide +kernel
theorem dX7_levy_61 : decode cX7_levy 61 = .ok (.getfield 38, 3) := by decide +kernel
theorem dX7_levy_64 : decode cX7_levy 64 = .ok (.iconst 1, 1) := by decide +kernel
theorem dX7_levy_65 : decode cX7_levy 65 = .ok (.iconst 3, 1) := by decide +kernel
theorem dX7_levy_66 : decode cX7_levy 66 = .ok (.iload 4, 2) := by decide +kernel
theorem dX7_levy_68 : decode cX7_levy 68 = .ok (.imul, 1) := by decide +kernel
theorem dX7_levy_69 : decode cX7_levy 69 = .ok (.iadd, 1) := by decide +kernel
theorem dX7_levy_70 : decode cX7_levy 70 = .ok (.iload_n 1, 1) := by decide +kernel
theorem dX7_levy_71 : decode cX7_levy 71 = .ok (.iadd, 1) := by decide +kernel
theorem dX7_levy_72 : decode cX7_levy 72 = .ok (.iaload, 1) := by decide +kernel
theorem dX7_levy_73 : decode cX7_levy 73 = .ok (.if_icmp .le 8, 3) := by decide +kernel
theorem dX7_levy_76 : decode cX7_levy 76 = .ok (.iload 5, 2) := by decide +kernel
theorem dX7_levy_78 : decode cX7_levy 78 = .ok (.goto 5, 3) := by decide +kernel
theorem dX7_levy_81 : decode cX7_levy 81 = .ok (.iload 4, 2) := by decide +kernel
theorem dX7_levy_83 : decode cX7_levy 83 = .ok (.istore 4, 2) := by decide +kernel
theorem dX7_levy_85 : decode cX7_levy 85 = .ok (.iinc 5 1, 3) := by decide +kernel
theorem dX7_levy_88 : decode cX7_levy 88 = .ok (.goto (-52), 3) := by decide +kernel
theorem dX7_levy_91 : decode cX7_levy 91 = .ok (.aload_n 0, 1) := by decide +kernel
theorem dX7_levy_92 : decode cX7_levy 92 = .ok (.getfield 38, 3) := by decide +kernel
theorem dX7_levy_95 : decode cX7_levy 95 = .ok (.iconst 1, 1) := by decide +kernel
theorem dX7_levy_96 : decode cX7_levy 96 = .ok (.iconst 3, 1) := by decide +kernel
theorem dX7_levy_97 : decode cX7_levy 97 = .ok (.iload 4, 2) := by decide +kernel
theorem dX7_levy_99 : decode cX7_levy 99 = .ok (.imul, 1) := by decide +kernel
theorem dX7_levy_100 : decode cX7_levy 100 = .ok (.iadd, 1) := by decide +kernel
theorem dX7_levy_101 : decode cX7_levy 101 = .ok (.iload_n 1, 1) := by decide +kernel
theorem dX7_levy_102 : decode cX7_levy 102 = .ok (.iadd, 1) := by decide +kernel
theorem dX7_levy_103 : decode cX7_levy 103 = .ok (.iaload, 1) := by decide +kernel
theorem dX7_levy_104 : decode cX7_levy 104 = .ok (.ifCond .ne 5, 3) := by decide +kernel
theorem dX7_levy_107 : decode cX7_levy 107 = .ok (.iload_n 3, 1) := by decide +kernel
theorem dX7_levy_108 : decode cX7_levy 108 = .ok (.ireturn, 1) := by decide +kernel
theorem dX7_levy_109 : decode cX7_levy 109 = .ok (.aload_n 0, 1) := by decide +kernel
theorem dX7_levy_110 : decode cX7_levy 110 = .ok (.getfield 38, 3) := by decide +kernel
theorem dX7_levy_113 : decode cX7_levy 113 = .ok (.iconst 1, 1) := by decide +kernel
theorem dX7_levy_114 : decode cX7_levy 114 = .ok (.iconst 3, 1) := by decide +kernel
theorem dX7_levy_115 : decode cX7_levy 115 = .ok (.iload 4, 2) := by decide +kernel
theorem dX7_levy_117 : decode cX7_levy 117 = .ok (.imul, 1) := by decide +kernel
theorem dX7_levy_118 : decode cX7_levy 118 = .ok (.iadd, 1) := by decide +kernel
theorem dX7_levy_119 : decode cX7_levy 119 = .ok (.iload_n 1, 1) := by decide +kernel
theorem dX7_levy_120 : decode cX7_levy 120 = .ok (.iadd, 1) := by decide +kernel
theorem dX7_levy_121 : decode cX7_levy 121 = .ok (.dup2, 1) := by decide +kernel
theorem dX7_levy_122 : decode cX7_levy 122 = .ok (.iaload, 1) := by decide +kernel
theorem dX7_levy_123 : decode cX7_levy 123 = .ok (.iconst 1, 1) := by decide +kernel
theorem dX7_levy_124 : decode cX7_levy 124 = .ok (.isub, 1) := by decide +kernel
theorem dX7_levy_125 : decode cX7_levy 125 = .ok (.iastore, 1) := by decide +kernel
theorem dX7_levy_126 : decode cX7_levy 126 = .ok (.iinc 3 1, 3) := by decide +kernel
theorem dX7_levy_129 : decode cX7_levy 129 = .ok (.goto (-104), 3) := by decide +kernel
theorem dX7_levy_132 : decode cX7_levy 132 = .ok (.iload_n 2, 1) := by decide +kernel
theorem dX7_levy_133 : decode cX7_levy 133 = .ok (.ireturn, 1) := by decide +kernel
theorem dX7_undo_0 : decode cX7_undo 0 = .ok (.aload_n 0, 1) := by decide +kernel
theorem dX7_undo_1 : decode cX7_undo 1 = .ok (.getfield 92, 3) := by decide +kernel
theorem dX7_undo_4 : decode cX7_undo 4 = .ok (.ifCond .ne 6, 3) := by decide +kernel
theorem dX7_undo_7 : decode cX7_undo 7 = .ok (.bipush (-2), 2) := by decide +kernel
theorem dX7_undo_9 : decode cX7_undo 9 = .ok (.ireturn, 1) := by decide +kernel
theorem dX7_undo_10 : decode cX7_undo 10 = .ok (.aload_n 0, 1) := by decide +kernel
theorem dX7_undo_11 : decode cX7_undo 11 = .ok (.dup, 1) := by decide +kernel
theorem dX7_undo_12 : decode cX7_undo 12 = .ok (.getfield 92, 3) := by decide +kernel
theorem dX7_undo_15 : decode cX7_undo 15 = .ok (.iconst 1, 1) := by decide +kernel
theorem dX7_undo_16 : decode cX7_undo 16 = .ok (.isub, 1) := by decide +kernel
theorem dX7_undo_17 : decode cX7_undo 17 = .ok (.putfield 92, 3) := by decide +kernel
theorem dX7_undo_20 : decode cX7_undo 20 = .ok (.aload_n 0, 1) := by decide +kernel
theorem dX7_undo_21 : decode cX7_undo 21 = .ok (.bipush 31, 2) := by decide +kernel
theorem dX7_undo_23 : decode cX7_undo 23 = .ok (.bipush 31, 2) := by decide +kernel
theorem dX7_undo_25 : decode cX7_undo 25 = .ok (.aload_n 0, 1) := by decide +kernel
theorem dX7_undo_26 : decode cX7_undo 26 = .ok (.getfield 92, 3) := by decide +kernel
theorem dX7_undo_29 : decode cX7_undo 29 = .ok (.imul, 1) := by decide +kernel
theorem dX7_undo_30 : decode cX7_undo 30 = .ok (.iadd, 1) := by decide +kernel
theorem dX7_undo_31 : decode cX7_undo 31 = .ok (.iconst 0, 1) := by decide +kernel
theorem dX7_undo_32 : decode cX7_undo 32 = .ok (.invokevirtual 131, 3) := by decide +kernel
theorem dX7_undo_35 : decode cX7_undo 35 = .ok (.aload_n 0, 1) := by decide +kernel
theorem dX7_undo_36 : decode cX7_undo 36 = .ok (.getfield 92, 3) := by decide +kernel
theorem dX7_undo_39 : decode cX7_undo 39 = .ok (.ireturn, 1) := by decide +kernel
theorem dX7_behind_0 : decode cX7_behind 0 = .ok (.iload_n 1, 1) := by decide +kernel
theorem dX7_behind_1 : decode cX7_behind 1 = .ok (.iconst 0, 1) := by decide +kernel
theorem dX7_behind_2 : decode cX7_behind 2 = .ok (.bipush 60, 2) := by decide +kernel
theorem dX7_behind_4 : decode cX7_behind 4 = .ok (.invokestatic 66, 3) := by decide +kernel
theorem dX7_behind_7 : decode cX7_behind 7 = .ok (.ifCond .eq 20, 3) := by decide +kernel
theorem dX7_behind_10 : decode cX7_behind 10 = .ok (.aload_n 0, 1) := by decide +kernel
theorem dX7_behind_11 : decode cX7_behind 11 = .ok (.iload_n 2, 1) := by decide +kernel
theorem dX7_behind_12 : decode cX7_behind 12 = .ok (.invokevirtual 104, 3) := by decide +kernel
theorem dX7_behind_15 : decode cX7_behind 15 = .ok (.ifCond .eq 12, 3) := by decide +kernel
theorem dX7_behind_18 : decode cX7_behind 18 = .ok (.iload_n 3, 1) := by decide +kernel
theorem dX7_behind_19 : decode cX7_behind 19 = .ok (.iconst 0, 1) := by decide +kernel
theorem dX7_behind_20 : decode cX7_behind 20 = .ok (.iconst 4, 1) := by decide +kernel
theorem dX7_behind_21 : decode cX7_behind 21 = .ok (.invokestatic 66, 3) := by decide +kernel
theorem dX7_behind_24 : decode cX7_behind 24 = .ok (.ifCond .ne 5, 3) := by decide +kernel
theorem dX7_behind_27 : decode cX7_behind 27 = .ok (.iconst (-1), 1) := by decide +kernel
theorem dX7_behind_28 : decode cX7_behind 28 = .ok (.ireturn, 1) := by decide +kernel
theorem dX7_behind_29 : decode cX7_behind 29 = .ok (.aload_n 0, 1) := by decide +kernel
theorem dX7_behind_30 : decode cX7_behind 30 = .ok (.iconst 0, 1) := by decide +kernel
theorem dX7_behind_31 : decode cX7_behind 31 = .ok (.sipush 341, 3) := by decide +kernel
theorem dX7_behind_34 : decode cX7_behind 34 = .ok (.invokevirtual 131, 3) := by decide +kernel
theorem dX7_behind_37 : decode cX7_behind 37 = .ok (.iconst 0, 1) := by decide +kernel
theorem dX7_behind_38 : decode cX7_behind 38 = .ok (.istore 4, 2) := by decide +kernel
theorem dX7_behind_40 : decode cX7_behind 40 = .ok (.iload 4, 2) := by decide +kernel
theorem dX7_behind_42 : decode cX7_behind 42 = .ok (.iload_n 1, 1) := by decide +kernel
theorem dX7_behind_43 : decode cX7_behind 43 = .ok (.if_icmp .ge 30, 3) := by decide +kernel
theorem dX7_behind_46 : decode cX7_behind 46 = .ok (.aload_n 0, 1) := by decide +kernel
theorem dX7_behind_47 : decode cX7_behind 47 = .ok (.sipush 341, 3) := by decide +kernel
theorem dX7_behind_50 : decode cX7_behind 50 = .ok (.invokevirtual 137, 3) := by decide +kernel
theorem dX7_behind_53 : decode cX7_behind 53 = .ok (.aload_n 0, 1) := by decide +kernel
theorem dX7_behind_54 : decode cX7_behind 54 = .ok (.sipush 341, 3) := by decide +kernel
theorem dX7_behind_57 : decode cX7_behind 57 = .ok (.invokevirtual 141, 3) := by decide +kernel
theorem dX7_behind_60 : decode cX7_behind 60 = .ok (.aload_n 0, 1) := by decide +kernel
theorem dX7_behind_61 : decode cX7_behind 61 = .ok (.sipush 341, 3) := by decide +kernel
theorem dX7_behind_64 : decode cX7_behind 64 = .ok (.invokevirtual 144, 3) := by decide +kernel
theorem dX7_behind_67 : decode cX7_behind 67 = .ok (.iinc 4 1, 3) := by decide +kernel
theorem dX7_behind_70 : decode cX7_behind 70 = .ok (.goto (-30), 3) := by decide +kernel
theorem dX7_behind_73 : decode cX7_behind 73 = .ok (.iload_n 3, 1) := by decide +kernel
theorem dX7_behind_74 : decode cX7_behind 74 = .ok (.iconst 3, 1) := by decide +kernel
theorem dX7_behind_75 : decode cX7_behind 75 = .ok (.if_icmp .ge 20, 3) := by decide +kernel
theorem dX7_behind_78 : decode cX7_behind 78 = .ok (.aload_n 0, 1) := by decide +kernel
theorem dX7_behind_79 : decode cX7_behind 79 = .ok (.getfield 38, 3) := by decide +kernel
theorem dX7_behind_82 : decode cX7_behind 82 = .ok (.sipush 342, 3) := by decide +kernel
theorem dX7_behind_85 : decode cX7_behind 85 = .ok (.iconst 3, 1) := by decide +kernel
theorem dX7_behind_86 : decode cX7_behind 86 = .ok (.iload_n 2, 1) := by decide +kernel
theorem dX7_behind_87 : decode cX7_behind 87 = .ok (.imul, 1) := by decide +kernel
theorem dX7_behind_88 : decode cX7_behind 88 = .ok (.iadd, 1) := by decide +kernel
theorem dX7_behind_89 : decode cX7_behind 89 = .ok (.iload_n 3, 1) := by decide +kernel
theorem dX7_behind_90 : decode cX7_behind 90 = .ok (.iadd, 1) := by decide +kernel
theorem dX7_behind_91 : decode cX7_behind 91 = .ok (.iaload, 1) := by decide +kernel
theorem dX7_behind_92 : decode cX7_behind 92 = .ok (.goto 39, 3) := by decide +kernel
theorem dX7_behind_95 : decode cX7_behind 95 = .ok (.iload_n 3, 1) := by decide +kernel
theorem dX7_behind_96 : decode cX7_behind 96 = .ok (.iconst 3, 1) := by decide +kernel
theorem dX7_behind_97 : decode cX7_behind 97 = .ok (.if_icmp .ne 14, 3) := by decide +kernel
theorem dX7_behind_100 : decode cX7_behind 100 = .ok (.aload_n 0, 1) := by decide +kernel
theorem dX7_behind_101 : decode cX7_behind 101 = .ok (.sipush 341, 3) := by decide +kernel
theorem dX7_behind_104 : decode cX7_behind 104 = .ok (.iload_n 2, 1) := by decide +kernel
theorem dX7_behind_105 : decode cX7_behind 105 = .ok (.invokevirtual 108, 3) := by decide +kernel
theorem dX7_behind_108 : decode cX7_behind 108 = .ok (.goto 23, 3) := by decide +kernel
theorem dX7_behind_111 : decode cX7_behind 111 = .ok (.aload_n 0, 1) := by decide +kernel
theorem dX7_behind_112 : decode cX7_behind 112 = .ok (.getfield 38, 3) := by decide +kernel
theorem dX7_behind_115 : decode cX7_behind 115 = .ok (.sipush 366, 3) := by decide +kernel
theorem dX7_behind_118 : decode cX7_behind 118 = .ok (.iload_n 2, 1) := by decide +kernel
theorem dX7_behind_119 : decode cX7_behind 119 = .ok (.iadd, 1) := by decide +kernel
theorem dX7_behind_120 : decode cX7_behind 120 = .ok (.iaload, 1) := by decide +kernel
theorem dX7_behind_121 : decode cX7_behind 121 = .ok (.aload_n 0, 1) := by decide +kernel
theorem dX7_behind_122 : decode cX7_behind 122 = .ok (.getfield 38, 3) := by decide +kernel
theorem dX7_behind_125 : decode cX7_behind 125 = .ok (.bipush 25, 2) := by decide +kernel
theorem dX7_behind_127 : decode cX7_behind 127 = .ok (.iload_n 2, 1) := by decide +kernel
theorem dX7_behind_128 : decode cX7_behind 128 = .ok (.iadd, 1) := by decide +kernel
theorem dX7_behind_129 : decode cX7_behind 129 = .ok (.iaload, 1) := by decide +kernel
theorem dX7_behind_130 : decode cX7_behind 130 = .ok (.isub, 1) := by decide +kernel
theorem dX7_behind_131 : decode cX7_behind 131 = .ok (.ireturn, 1) := by decide +kernel
theorem dX7_grey_0 : decode cX7_grey 0 = .ok (.iload_n 1, 1) := by decide +kernel
theorem dX7_grey_1 : decode cX7_grey 1 = .ok (.iconst 0, 1) := by decide +kernel
theorem dX7_grey_2 : decode cX7_grey 2 = .ok (.iconst 1, 1) := by decide +kernel
theorem dX7_grey_3 : decode cX7_grey 3 = .ok (.invokestatic 66, 3) := by decide +kernel
theorem dX7_grey_6 : decode cX7_grey 6 = .ok (.ifCond .ne 5, 3) := by decide +kernel
theorem dX7_grey_9 : decode cX7_grey 9 = .ok (.iconst (-1), 1) := by decide +kernel
theorem dX7_grey_10 : decode cX7_grey 10 = .ok (.ireturn, 1) := by decide +kernel
theorem dX7_grey_11 : decode cX7_grey 11 = .ok (.aload_n 0, 1) := by decide +kernel
theorem dX7_grey_12 : decode cX7_grey 12 = .ok (.iconst 0, 1) := by decide +kernel
theorem dX7_grey_13 : decode cX7_grey 13 = .ok (.sipush 341, 3) := by decide +kernel
theorem dX7_grey_16 : decode cX7_grey 16 = .ok (.invokevirtual 131, 3) := by decide +kernel
theorem dX7_grey_19 : decode cX7_grey 19 = .ok (.iconst 1, 1) := by decide +kernel
theorem dX7_grey_20 : decode cX7_grey 20 = .ok (.istore_n 2, 1) := by decide +kernel
theorem dX7_grey_21 : decode cX7_grey 21 = .ok (.iload_n 2, 1) := by decide +kernel
theorem dX7_grey_22 : decode cX7_grey 22 = .ok (.bipush 60, 2) := by decide +kernel
theorem dX7_grey_24 : decode cX7_grey 24 = .ok (.if_icmp .gt 69, 3) := by decide +kernel
theorem dX7_grey_27 : decode cX7_grey 27 = .ok (.aload_n 0, 1) := by decide +kernel
theorem dX7_grey_28 : decode cX7_grey 28 = .ok (.sipush 341, 3) := by decide +kernel
theorem dX7_grey_31 : decode cX7_grey 31 = .ok (.invokevirtual 137, 3) := by decide +kernel
theorem dX7_grey_34 : decode cX7_grey 34 = .ok (.aload_n 0, 1) := by decide +kernel
theorem dX7_grey_35 : decode cX7_grey 35 = .ok (.sipush 341, 3) := by decide +kernel
theorem dX7_grey_38 : decode cX7_grey 38 = .ok (.invokevirtual 141, 3) := by decide +kernel
theorem dX7_grey_41 : decode cX7_grey 41 = .ok (.iconst 0, 1) := by decide +kernel
theorem dX7_grey_42 : decode cX7_grey 42 = .ok (.istore_n 3, 1) := by decide +kernel
theorem dX7_grey_43 : decode cX7_grey 43 = .ok (.iload_n 3, 1) := by decide +kernel
theorem dX7_grey_44 : decode cX7_grey 44 = .ok (.aload_n 0, 1) := by decide +kernel
theorem dX7_grey_45 : decode cX7_grey 45 = .ok (.getfield 13, 3) := by decide +kernel
theorem dX7_grey_48 : decode cX7_grey 48 = .ok (.iconst 0, 1) := by decide +kernel
theorem dX7_grey_49 : decode cX7_grey 49 = .ok (.iaload, 1) := by decide +kernel
theorem dX7_grey_50 : decode cX7_grey 50 = .ok (.if_icmp .ge 30, 3) := by decide +kernel
theorem dX7_grey_53 : decode cX7_grey 53 = .ok (.aload_n 0, 1) := by decide +kernel
theorem dX7_grey_54 : decode cX7_grey 54 = .ok (.sipush 341, 3) := by decide +kernel
theorem dX7_grey_57 : decode cX7_grey 57 = .ok (.iload_n 3, 1) := by decide +kernel
theorem dX7_grey_58 : decode cX7_grey 58 = .ok (.invokevirtual 108, 3) := by decide +kernel
theorem dX7_grey_61 : decode cX7_grey 61 = .ok (.ifCond .ne 13, 3) := by decide +kernel
theorem dX7_grey_64 : decode cX7_grey 64 = .ok (.iload_n 1, 1) := by decide +kernel
theorem dX7_grey_65 : decode cX7_grey 65 = .ok (.ifCond .ne 7, 3) := by decide +kernel
theorem dX7_grey_68 : decode cX7_grey 68 = .ok (.iload_n 3, 1) := by decide +kernel
theorem dX7_grey_69 : decode cX7_grey 69 = .ok (.goto 4, 3) := by decide +kernel
theorem dX7_grey_72 : decode cX7_grey 72 = .ok (.iload_n 2, 1) := by decide +kernel
theorem dX7_grey_73 : decode cX7_grey 73 = .ok (.ireturn, 1) := by decide +kernel
theorem dX7_grey_74 : decode cX7_grey 74 = .ok (.iinc 3 1, 3) := by decide +kernel
theorem dX7_grey_77 : decode cX7_grey 77 = .ok (.goto (-34), 3) := by decide +kernel
theorem dX7_grey_80 : decode cX7_grey 80 = .ok (.aload_n 0, 1) := by decide +kernel
theorem dX7_grey_81 : decode cX7_grey 81 = .ok (.sipush 341, 3) := by decide +kernel
theorem dX7_grey_84 : decode cX7_grey 84 = .ok (.invokevirtual 144, 3) := by decide +kernel
theorem dX7_grey_87 : decode cX7_grey 87 = .ok (.iinc 2 1, 3) := by decide +kernel
theorem dX7_grey_90 : decode cX7_grey 90 = .ok (.goto (-69), 3) := by decide +kernel
theorem dX7_grey_93 : decode cX7_grey 93 = .ok (.bipush (-4), 2) := by decide +kernel
theorem dX7_grey_95 : decode cX7_grey 95 = .ok (.ireturn, 1) := by decide +kernel
theorem dX7_tryRow_0 : decode cX7_tryRow 0 = .ok (.aload_n 0, 1) := by decide +kernel
theorem dX7_tryRow_1 : decode cX7_tryRow 1 = .ok (.iconst 0, 1) := by decide +kernel
theorem dX7_tryRow_2 : decode cX7_tryRow 2 = .ok (.sipush 341, 3) := by decide +kernel
theorem dX7_tryRow_5 : decode cX7_tryRow 5 = .ok (.invokevirtual 131, 3) := by decide +kernel
theorem dX7_tryRow_8 : decode cX7_tryRow 8 = .ok (.aload_n 0, 1) := by decide +kernel
theorem dX7_tryRow_9 : decode cX7_tryRow 9 = .ok (.iconst 0, 1) := by decide +kernel
theorem dX7_tryRow_10 : decode cX7_tryRow 10 = .ok (.putfield 150, 3) := by decide +kernel
theorem dX7_tryRow_13 : decode cX7_tryRow 13 = .ok (.aload_n 0, 1) := by decide +kernel
theorem dX7_tryRow_14 : decode cX7_tryRow 14 = .ok (.iconst 0, 1) := by decide +kernel
theorem dX7_tryRow_15 : decode cX7_tryRow 15 = .ok (.putfield 153, 3) := by decide +kernel
theorem dX7_tryRow_18 : decode cX7_tryRow 18 = .ok (.iload_n 2, 1) := by decide +kernel
theorem dX7_tryRow_19 : decode cX7_tryRow 19 = .ok (.istore_n 3, 1) := by decide +kernel
theorem dX7_tryRow_20 : decode cX7_tryRow 20 = .ok (.aload_n 0, 1) := by decide +kernel
theorem dX7_tryRow_21 : decode cX7_tryRow 21 = .ok (.getfield 23, 3) := by decide +kernel
theorem dX7_tryRow_24 : decode cX7_tryRow 24 = .ok (.iconst 0, 1) := by decide +kernel
theorem dX7_tryRow_25 : decode cX7_tryRow 25 = .ok (.iaload, 1) := by decide +kernel
theorem dX7_tryRow_26 : decode cX7_tryRow 26 = .ok (.iconst 1, 1) := by decide +kernel
theorem dX7_tryRow_27 : decode cX7_tryRow 27 = .ok (.isub, 1) := by decide +kernel
theorem dX7_tryRow_28 : decode cX7_tryRow 28 = .ok (.istore 4, 2) := by decide +kernel
theorem dX7_tryRow_30 : decode cX7_tryRow 30 = .ok (.iload 4, 2) := by decide +kernel
theorem dX7_tryRow_32 : decode cX7_tryRow 32 = .ok (.ifCond .lt 25, 3) := by decide +kernel
theorem dX7_tryRow_35 : decode cX7_tryRow 35 = .ok (.aload_n 0, 1) := by decide +kernel
theorem dX7_tryRow_36 : decode cX7_tryRow 36 = .ok (.getfield 44, 3) := by decide +kernel
theorem dX7_tryRow_39 : decode cX7_tryRow 39 = .ok (.iload 4, 2) := by decide +kernel
theorem dX7_tryRow_41 : decode cX7_tryRow 41 = .ok (.iload_n 3, 1) := by decide +kernel
theorem dX7_tryRow_42 : decode cX7_tryRow 42 = .ok (.bipush 6, 2) := by decide +kernel
theorem dX7_tryRow_44 : decode cX7_tryRow 44 = .ok (.irem, 1) := by decide +kernel
theorem dX7_tryRow_45 : decode cX7_tryRow 45 = .ok (.iastore, 1) := by decide +kernel
theorem dX7_tryRow_46 : decode cX7_tryRow 46 = .ok (.iload_n 3, 1) := by decide +kernel
theorem dX7_tryRow_47 : decode cX7_tryRow 47 = .ok (.bipush 6, 2) := by decide +kernel
theorem dX7_tryRow_49 : decode cX7_tryRow 49 = .ok (.idiv, 1) := by decide +kernel
theorem dX7_tryRow_50 : decode cX7_tryRow 50 = .ok (.istore_n 3, 1) := by decide +kernel
theorem dX7_tryRow_51 : decode cX7_tryRow 51 = .ok (.iinc 4 (-1), 3) := by decide +kernel
theorem dX7_tryRow_54 : decode cX7_tryRow 54 = .ok (.goto (-24), 3) := by decide +kernel
theorem dX7_tryRow_57 : decode cX7_tryRow 57 = .ok (.iconst 1, 1) := by decide +kernel
theorem dX7_tryRow_58 : decode cX7_tryRow 58 = .ok (.istore 4, 2) := by decide +kernel
theorem dX7_tryRow_60 : decode cX7_tryRow 60 = .ok (.iconst 0, 1) := by decide +kernel
theorem dX7_tryRow_61 : decode cX7_tryRow 61 = .ok (.istore 5, 2) := by decide +kernel
theorem dX7_tryRow_63 : decode cX7_tryRow 63 = .ok (.iload 5, 2) := by decide +kernel
theorem dX7_tryRow_65 : decode cX7_tryRow 65 = .ok (.aload_n 0, 1) := by decide +kernel
theorem dX7_tryRow_66 : decode cX7_tryRow 66 = .ok (.getfield 23, 3) := by decide +kernel
theorem dX7_tryRow_69 : decode cX7_tryRow 69 = .ok (.iconst 0, 1) := by decide +kernel
theorem dX7_tryRow_70 : decode cX7_tryRow 70 = .ok (.iaload, 1) := by decide +kernel
theorem dX7_tryRow_71 : decode cX7_tryRow 71 = .ok (.if_icmp .ge 81, 3) := by decide +kernel
theorem dX7_tryRow_74 : decode cX7_tryRow 74 = .ok (.iconst 0, 1) := by decide +kernel
theorem dX7_tryRow_75 : decode cX7_tryRow 75 = .ok (.istore 6, 2) := by decide +kernel
theorem dX7_tryRow_77 : decode cX7_tryRow 77 = .ok (.iload 6, 2) := by decide +kernel
theorem dX7_tryRow_79 : decode cX7_tryRow 79 = .ok (.aload_n 0, 1) := by decide +kernel
theorem dX7_tryRow_80 : decode cX7_tryRow 80 = .ok (.getfield 44, 3) := by decide +kernel
theorem dX7_tryRow_83 : decode cX7_tryRow 83 = .ok (.iload 5, 2) := by decide +kernel
theorem dX7_tryRow_85 : decode cX7_tryRow 85 = .ok (.iaload, 1) := by decide +kernel
theorem dX7_tryRow_86 : decode cX7_tryRow 86 = .ok (.if_icmp .ge 60, 3) := by decide +kernel
theorem dX7_tryRow_89 : decode cX7_tryRow 89 = .ok (.iload 4, 2) := by decide +kernel
theorem dX7_tryRow_91 : decode cX7_tryRow 91 = .ok (.ifCond .eq 55, 3) := by decide +kernel
theorem dX7_tryRow_94 : decode cX7_tryRow 94 = .ok (.aload_n 0, 1) := by decide +kernel
theorem dX7_tryRow_95 : decode cX7_tryRow 95 = .ok (.sipush 341, 3) := by decide +kernel
theorem dX7_tryRow_98 : decode cX7_tryRow 98 = .ok (.iload_n 1, 1) := by decide +kernel
theorem dX7_tryRow_99 : decode cX7_tryRow 99 = .ok (.iload 5, 2) := by decide +kernel
theorem dX7_tryRow_101 : decode cX7_tryRow 101 = .ok (.invokevirtual 125, 3) := by decide +kernel
theorem dX7_tryRow_104 : decode cX7_tryRow 104 = .ok (.ifCond .lt 7, 3) := by decide +kernel
theorem dX7_tryRow_107 : decode cX7_tryRow 107 = .ok (.iconst 1, 1) := by decide +kernel
theorem dX7_tryRow_108 : decode cX7_tryRow 108 = .ok (.goto 4, 3) := by decide +kernel
theorem dX7_tryRow_111 : decode cX7_tryRow 111 = .ok (.iconst 0, 1) := by decide +kernel
theorem dX7_tryRow_112 : decode cX7_tryRow 112 = .ok (.istore 4, 2) := by decide +kernel
theorem dX7_tryRow_114 : decode cX7_tryRow 114 = .ok (.aload_n 0, 1) := by decide +kernel
theorem dX7_tryRow_115 : decode cX7_tryRow 115 = .ok (.dup, 1) := by decide +kernel
theorem dX7_tryRow_116 : decode cX7_tryRow 116 = .ok (.getfield 150, 3) := by decide +kernel
theorem dX7_tryRow_119 : decode cX7_tryRow 119 = .ok (.aload_n 0, 1) := by decide +kernel
theorem dX7_tryRow_120 : decode cX7_tryRow 120 = .ok (.getfield 29, 3) := by decide +kernel
theorem dX7_tryRow_123 : decode cX7_tryRow 123 = .ok (.iload 5, 2) := by decide +kernel
theorem dX7_tryRow_125 : decode cX7_tryRow 125 = .ok (.iaload, 1) := by decide +kernel
theorem dX7_tryRow_126 : decode cX7_tryRow 126 = .ok (.iadd, 1) := by decide +kernel
theorem dX7_tryRow_127 : decode cX7_tryRow 127 = .ok (.putfield 150, 3) := by decide +kernel
theorem dX7_tryRow_130 : decode cX7_tryRow 130 = .ok (.aload_n 0, 1) := by decide +kernel
theorem dX7_tryRow_131 : decode cX7_tryRow 131 = .ok (.dup, 1) := by decide +kernel
theorem dX7_tryRow_132 : decode cX7_tryRow 132 = .ok (.getfield 153, 3) := by decide +kernel
theorem dX7_tryRow_135 : decode cX7_tryRow 135 = .ok (.iconst 1, 1) := by decide +kernel
theorem dX7_tryRow_136 : decode cX7_tryRow 136 = .ok (.iadd, 1) := by decide +kernel
theorem dX7_tryRow_137 : decode cX7_tryRow 137 = .ok (.putfield 153, 3) := by decide +kernel
theorem dX7_tryRow_140 : decode cX7_tryRow 140 = .ok (.iinc 6 1, 3) := by decide +kernel
theorem dX7_tryRow_143 : decode cX7_tryRow 143 = .ok (.goto (-66), 3) := by decide +kernel
theorem dX7_tryRow_146 : decode cX7_tryRow 146 = .ok (.iinc 5 1, 3) := by decide +kernel
theorem dX7_tryRow_149 : decode cX7_tryRow 149 = .ok (.goto (-86), 3) := by decide +kernel
theorem dX7_tryRow_152 : decode cX7_tryRow 152 = .ok (.iload 4, 2) := by decide +kernel
theorem dX7_tryRow_154 : decode cX7_tryRow 154 = .ok (.ireturn, 1) := by decide +kernel
theorem dX7_best_0 : decode cX7_best 0 = .ok (.aload_n 0, 1) := by decide +kernel
theorem dX7_best_1 : decode cX7_best 1 = .ok (.iload_n 1, 1) := by decide +kernel
theorem dX7_best_2 : decode cX7_best 2 = .ok (.invokevirtual 104, 3) := by decide +kernel
theorem dX7_best_5 : decode cX7_best 5 = .ok (.ifCond .eq 16, 3) := by decide +kernel
theorem dX7_best_8 : decode cX7_best 8 = .ok (.iload_n 2, 1) := by decide +kernel
theorem dX7_best_9 : decode cX7_best 9 = .ok (.iconst (-1), 1) := by decide +kernel
theorem dX7_best_10 : decode cX7_best 10 = .ok (.if_icmp .eq 13, 3) := by decide +kernel
theorem dX7_best_13 : decode cX7_best 13 = .ok (.aload_n 0, 1) := by decide +kernel
theorem dX7_best_14 : decode cX7_best 14 = .ok (.iload_n 2, 1) := by decide +kernel
theorem dX7_best_15 : decode cX7_best 15 = .ok (.invokevirtual 112, 3) := by decide +kernel
theorem dX7_best_18 : decode cX7_best 18 = .ok (.ifCond .ne 5, 3) := by decide +kernel
theorem dX7_best_21 : decode cX7_best 21 = .ok (.iconst (-1), 1) := by decide +kernel
theorem dX7_best_22 : decode cX7_best 22 = .ok (.ireturn, 1) := by decide +kernel
theorem dX7_best_23 : decode cX7_best 23 = .ok (.iconst 1, 1) := by decide +kernel
theorem dX7_best_24 : decode cX7_best 24 = .ok (.istore_n 3, 1) := by decide +kernel
theorem dX7_best_25 : decode cX7_best 25 = .ok (.iconst 0, 1) := by decide +kernel
theorem dX7_best_26 : decode cX7_best 26 = .ok (.istore 4, 2) := by decide +kernel
theorem dX7_best_28 : decode cX7_best 28 = .ok (.iload 4, 2) := by decide +kernel
theorem dX7_best_30 : decode cX7_best 30 = .ok (.aload_n 0, 1) := by decide +kernel
theorem dX7_best_31 : decode cX7_best 31 = .ok (.getfield 23, 3) := by decide +kernel
theorem dX7_best_34 : decode cX7_best 34 = .ok (.iconst 0, 1) := by decide +kernel
theorem dX7_best_35 : decode cX7_best 35 = .ok (.iaload, 1) := by decide +kernel
theorem dX7_best_36 : decode cX7_best 36 = .ok (.if_icmp .ge 14, 3) := by decide +kernel
theorem dX7_best_39 : decode cX7_best 39 = .ok (.iload_n 3, 1) := by decide +kernel
theorem dX7_best_40 : decode cX7_best 40 = .ok (.bipush 6, 2) := by decide +kernel
theorem dX7_best_42 : decode cX7_best 42 = .ok (.imul, 1) := by decide +kernel
theorem dX7_best_43 : decode cX7_best 43 = .ok (.istore_n 3, 1) := by decide +kernel
theorem dX7_best_44 : decode cX7_best 44 = .ok (.iinc 4 1, 3) := by decide +kernel
theorem dX7_best_47 : decode cX7_best 47 = .ok (.goto (-19), 3) := by decide +kernel
theorem dX7_best_50 : decode cX7_best 50 = .ok (.iconst 0, 1) := by decide +kernel
theorem dX7_best_51 : decode cX7_best 51 = .ok (.istore 4, 2) := by decide +kernel
theorem dX7_best_53 : decode cX7_best 53 = .ok (.iconst 0, 1) := by decide +kernel
theorem dX7_best_54 : decode cX7_best 54 = .ok (.istore 5, 2) := by decide +kernel
theorem dX7_best_56 : decode cX7_best 56 = .ok (.iconst 0, 1) := by decide +kernel
theorem dX7_best_57 : decode cX7_best 57 = .ok (.istore 6, 2) := by decide +kernel
theorem dX7_best_59 : decode cX7_best 59 = .ok (.iconst 1, 1) := by decide +kernel
theorem dX7_best_60 : decode cX7_best 60 = .ok (.istore 7, 2) := by decide +kernel
theorem dX7_best_62 : decode cX7_best 62 = .ok (.iload 7, 2) := by decide +kernel
theorem dX7_best_64 : decode cX7_best 64 = .ok (.iload_n 3, 1) := by decide +kernel
theorem dX7_best_65 : decode cX7_best 65 = .ok (.if_icmp .ge 62, 3) := by decide +kernel
theorem dX7_best_68 : decode cX7_best 68 = .ok (.aload_n 0, 1) := by decide +kernel
theorem dX7_best_69 : decode cX7_best 69 = .ok (.iload_n 1, 1) := by decide +kernel
theorem dX7_best_70 : decode cX7_best 70 = .ok (.iload 7, 2) := by decide +kernel
theorem dX7_best_72 : decode cX7_best 72 = .ok (.invokevirtual 156, 3) := by decide +kernel
theorem dX7_best_75 : decode cX7_best 75 = .ok (.ifCond .eq 46, 3) := by decide +kernel
theorem dX7_best_78 : decode cX7_best 78 = .ok (.aload_n 0, 1) := by decide +kernel
theorem dX7_best_79 : decode cX7_best 79 = .ok (.getfield 150, 3) := by decide +kernel
theorem dX7_best_82 : decode cX7_best 82 = .ok (.iload 5, 2) := by decide +kernel
theorem dX7_best_84 : decode cX7_best 84 = .ok (.if_icmp .gt 21, 3) := by decide +kernel
theorem dX7_best_87 : decode cX7_best 87 = .ok (.aload_n 0, 1) := by decide +kernel
theorem dX7_best_88 : decode cX7_best 88 = .ok (.getfield 150, 3) := by decide +kernel
theorem dX7_best_91 : decode cX7_best 91 = .ok (.iload 5, 2) := by decide +kernel
theorem dX7_best_93 : decode cX7_best 93 = .ok (.if_icmp .ne 28, 3) := by decide +kernel
theorem dX7_best_96 : decode cX7_best 96 = .ok (.aload_n 0, 1) := by decide +kernel
theorem dX7_best_97 : decode cX7_best 97 = .ok (.getfield 153, 3) := by decide +kernel
theorem dX7_best_100 : decode cX7_best 100 = .ok (.iload 6, 2) := by decide +kernel
theorem dX7_best_102 : decode cX7_best 102 = .ok (.if_icmp .gt 19, 3) := by decide +kernel
theorem dX7_best_105 : decode cX7_best 105 = .ok (.iload 7, 2) := by decide +kernel
theorem dX7_best_107 : decode cX7_best 107 = .ok (.istore 4, 2) := by decide +kernel
theorem dX7_best_109 : decode cX7_best 109 = .ok (.aload_n 0, 1) := by decide +kernel
theorem dX7_best_110 : decode cX7_best 110 = .ok (.getfield 150, 3) := by decide +kernel
theorem dX7_best_113 : decode cX7_best 113 = .ok (.istore 5, 2) := by decide +kernel
theorem dX7_best_115 : decode cX7_best 115 = .ok (.aload_n 0, 1) := by decide +kernel
theorem dX7_best_116 : decode cX7_best 116 = .ok (.getfield 153, 3) := by decide +kernel
theorem dX7_best_119 : decode cX7_best 119 = .ok (.istore 6, 2) := by decide +kernel
theorem dX7_best_121 : decode cX7_best 121 = .ok (.iinc 7 1, 3) := by decide +kernel
theorem dX7_best_124 : decode cX7_best 124 = .ok (.goto (-62), 3) := by decide +kernel
theorem dX7_best_127 : decode cX7_best 127 = .ok (.aload_n 0, 1) := by decide +kernel
theorem dX7_best_128 : decode cX7_best 128 = .ok (.iload_n 1, 1) := by decide +kernel
theorem dX7_best_129 : decode cX7_best 129 = .ok (.iload 4, 2) := by decide +kernel
theorem dX7_best_131 : decode cX7_best 131 = .ok (.invokevirtual 156, 3) := by decide +kernel
theorem dX7_best_134 : decode cX7_best 134 = .ok (.pop, 1) := by decide +kernel
theorem dX7_best_135 : decode cX7_best 135 = .ok (.iload_n 2, 1) := by decide +kernel
theorem dX7_best_136 : decode cX7_best 136 = .ok (.iconst (-1), 1) := by decide +kernel
theorem dX7_best_137 : decode cX7_best 137 = .ok (.if_icmp .ne 8, 3) := by decide +kernel
theorem dX7_best_140 : decode cX7_best 140 = .ok (.iload 5, 2) := by decide +kernel
theorem dX7_best_142 : decode cX7_best 142 = .ok (.goto 9, 3) := by decide +kernel
theorem dX7_best_145 : decode cX7_best 145 = .ok (.aload_n 0, 1) := by decide +kernel
theorem dX7_best_146 : decode cX7_best 146 = .ok (.getfield 44, 3) := by decide +kernel
theorem dX7_best_149 : decode cX7_best 149 = .ok (.iload_n 2, 1) := by decide +kernel
theorem dX7_best_150 : decode cX7_best 150 = .ok (.iaload, 1) := by decide +kernel
theorem dX7_best_151 : decode cX7_best 151 = .ok (.ireturn, 1) := by decide +kernel
theorem dX7_lending_0 : decode cX7_lending 0 = .ok (.iconst 0, 1) := by decide +kernel
theorem dX7_lending_1 : decode cX7_lending 1 = .ok (.istore_n 1, 1) := by decide +kernel
theorem dX7_lending_2 : decode cX7_lending 2 = .ok (.iconst 0, 1) := by decide +kernel
theorem dX7_lending_3 : decode cX7_lending 3 = .ok (.istore_n 2, 1) := by decide +kernel
theorem dX7_lending_4 : decode cX7_lending 4 = .ok (.iload_n 2, 1) := by decide +kernel
theorem dX7_lending_5 : decode cX7_lending 5 = .ok (.iconst 3, 1) := by decide +kernel
theorem dX7_lending_6 : decode cX7_lending 6 = .ok (.if_icmp .ge 137, 3) := by decide +kernel
theorem dX7_lending_9 : decode cX7_lending 9 = .ok (.iconst 0, 1) := by decide +kernel
theorem dX7_lending_10 : decode cX7_lending 10 = .ok (.istore_n 3, 1) := by decide +kernel
theorem dX7_lending_11 : decode cX7_lending 11 = .ok (.iconst 0, 1) := by decide +kernel
theorem dX7_lending_12 : decode cX7_lending 12 = .ok (.istore 4, 2) := by decide +kernel
theorem dX7_lending_14 : decode cX7_lending 14 = .ok (.iconst 0, 1) := by decide +kernel
theorem dX7_lending_15 : decode cX7_lending 15 = .ok (.istore 5, 2) := by decide +kernel
theorem dX7_lending_17 : decode cX7_lending 17 = .ok (.iload 5, 2) := by decide +kernel
theorem dX7_lending_19 : decode cX7_lending 19 = .ok (.aload_n 0, 1) := by decide +kernel
theorem dX7_lending_20 : decode cX7_lending 20 = .ok (.getfield 13, 3) := by decide +kernel
theorem dX7_lending_23 : decode cX7_lending 23 = .ok (.iconst 0, 1) := by decide +kernel
theorem dX7_lending_24 : decode cX7_lending 24 = .ok (.iaload, 1) := by decide +kernel
theorem dX7_lending_25 : decode cX7_lending 25 = .ok (.if_icmp .ge 103, 3) := by decide +kernel
theorem dX7_lending_28 : decode cX7_lending 28 = .ok (.aload_n 0, 1) := by decide +kernel
theorem dX7_lending_29 : decode cX7_lending 29 = .ok (.getfield 32, 3) := by decide +kernel
theorem dX7_lending_32 : decode cX7_lending 32 = .ok (.bipush 7, 2) := by decide +kernel
theorem dX7_lending_34 : decode cX7_lending 34 = .ok (.iload 5, 2) := by decide +kernel
theorem dX7_lending_36 : decode cX7_lending 36 = .ok (.imul, 1) := by decide +kernel
theorem dX7_lending_37 : decode cX7_lending 37 = .ok (.aload_n 0, 1) := by decide +kernel
theorem dX7_lending_38 : decode cX7_lending 38 = .ok (.getfield 38, 3) := by decide +kernel
theorem dX7_lending_41 : decode cX7_lending 41 = .ok (.iconst 0, 1) := by decide +kernel
theorem dX7_lending_42 : decode cX7_lending 42 = .ok (.iaload, 1) := by decide +kernel
theorem dX7_lending_43 : decode cX7_lending 43 = .ok (.bipush 7, 2) := by decide +kernel
theorem dX7_lending_45 : decode cX7_lending 45 = .ok (.irem, 1) := by decide +kernel
theorem dX7_lending_46 : decode cX7_lending 46 = .ok (.iadd, 1) := by decide +kernel
theorem dX7_lending_47 : decode cX7_lending 47 = .ok (.iaload, 1) := by decide +kernel
theorem dX7_lending_48 : decode cX7_lending 48 = .ok (.istore 6, 2) := by decide +kernel
theorem dX7_lending_50 : decode cX7_lending 50 = .ok (.iconst 0, 1) := by decide +kernel
theorem dX7_lending_51 : decode cX7_lending 51 = .ok (.istore 7, 2) := by decide +kernel
theorem dX7_lending_53 : decode cX7_lending 53 = .ok (.iload 6, 2) := by decide +kernel
theorem dX7_lending_55 : decode cX7_lending 55 = .ok (.bipush (-4), 2) := by decide +kernel
theorem dX7_lending_57 : decode cX7_lending 57 = .ok (.if_icmp .eq 19, 3) := by decide +kernel
theorem dX7_lending_60 : decode cX7_lending 60 = .ok (.aload_n 0, 1) := by decide +kernel
theorem dX7_lending_61 : decode cX7_lending 61 = .ok (.iload 5, 2) := by decide +kernel
theorem dX7_lending_63 : decode cX7_lending 63 = .ok (.iload 6, 2) := by decide +kernel
theorem dX7_lending_65 : decode cX7_lending 65 = .ok (.invokevirtual 115, 3) := by decide +kernel
theorem dX7_lending_68 : decode cX7_lending 68 = .ok (.aload_n 0, 1) := by decide +kernel
theorem dX7_lending_69 : decode cX7_lending 69 = .ok (.getfield 41, 3) := by decide +kernel
theorem dX7_lending_72 : decode cX7_lending 72 = .ok (.iload_n 2, 1) := by decide +kernel
theorem dX7_lending_73 : decode cX7_lending 73 = .ok (.iaload, 1) := by decide +kernel
theorem dX7_lending_74 : decode cX7_lending 74 = .ok (.istore 7, 2) := by decide +kernel
theorem dX7_lending_76 : decode cX7_lending 76 = .ok (.aload_n 0, 1) := by decide +kernel
theorem dX7_lending_77 : decode cX7_lending 77 = .ok (.getfield 38, 3) := by decide +kernel
theorem dX7_lending_80 : decode cX7_lending 80 = .ok (.iconst 1, 1) := by decide +kernel
theorem dX7_lending_81 : decode cX7_lending 81 = .ok (.iconst 3, 1) := by decide +kernel
theorem dX7_lending_82 : decode cX7_lending 82 = .ok (.iload 5, 2) := by decide +kernel
theorem dX7_lending_84 : decode cX7_lending 84 = .ok (.imul, 1) := by decide +kernel
theorem dX7_lending_85 : decode cX7_lending 85 = .ok (.iadd, 1) := by decide +kernel
theorem dX7_lending_86 : decode cX7_lending 86 = .ok (.iload_n 2, 1) := by decide +kernel
theorem dX7_lending_87 : decode cX7_lending 87 = .ok (.iadd, 1) := by decide +kernel
theorem dX7_lending_88 : decode cX7_lending 88 = .ok (.iaload, 1) := by decide +kernel
theorem dX7_lending_89 : decode cX7_lending 89 = .ok (.istore 8, 2) := by decide +kernel
theorem dX7_lending_91 : decode cX7_lending 91 = .ok (.iload_n 3, 1) := by decide +kernel
theorem dX7_lending_92 : decode cX7_lending 92 = .ok (.iload 8, 2) := by decide +kernel
theorem dX7_lending_94 : decode cX7_lending 94 = .ok (.iadd, 1) := by decide +kernel
theorem dX7_lending_95 : decode cX7_lending 95 = .ok (.istore_n 3, 1) := by decide +kernel
theorem dX7_lending_96 : decode cX7_lending 96 = .ok (.iload 4, 2) := by decide +kernel
theorem dX7_lending_98 : decode cX7_lending 98 = .ok (.iload 7, 2) := by decide +kernel
theorem dX7_lending_100 : decode cX7_lending 100 = .ok (.iadd, 1) := by decide +kernel
theorem dX7_lending_101 : decode cX7_lending 101 = .ok (.istore 4, 2) := by decide +kernel
theorem dX7_lending_103 : decode cX7_lending 103 = .ok (.iload_n 1, 1) := by decide +kernel
theorem dX7_lending_104 : decode cX7_lending 104 = .ok (.iload 7, 2) := by decide +kernel
theorem dX7_lending_106 : decode cX7_lending 106 = .ok (.iload 8, 2) := by decide +kernel
theorem dX7_lending_108 : decode cX7_lending 108 = .ok (.if_icmp .le 11, 3) := by decide +kernel
theorem dX7_lending_111 : decode cX7_lending 111 = .ok (.iload 7, 2) := by decide +kernel
