theorem dX5_init_0 : decode cX5_init 0 = .ok (.aload_n 0, 1) := by decide +kernel
theorem dX5_init_1 : decode cX5_init 1 = .ok (.invokespecial 3, 3) := by decide +kernel
theorem dX5_init_4 : decode cX5_init 4 = .ok (.aload_n 0, 1) := by decide +kernel
theorem dX5_init_5 : decode cX5_init 5 = .ok (.bipush 7, 2) := by decide +kernel
theorem dX5_init_7 : decode cX5_init 7 = .ok (.newarray .int, 2) := by decide +kernel
theorem dX5_init_9 : decode cX5_init 9 = .ok (.putfield 11, 3) := by decide +kernel
theorem dX5_init_12 : decode cX5_init 12 = .ok (.aload_n 0, 1) := by decide +kernel
theorem dX5_init_13 : decode cX5_init 13 = .ok (.bipush 7, 2) := by decide +kernel
theorem dX5_init_15 : decode cX5_init 15 = .ok (.newarray .int, 2) := by decide +kernel
theorem dX5_init_17 : decode cX5_init 17 = .ok (.putfield 15, 3) := by decide +kernel
theorem dX5_init_20 : decode cX5_init 20 = .ok (.aload_n 0, 1) := by decide +kernel
theorem dX5_init_21 : decode cX5_init 21 = .ok (.bipush 7, 2) := by decide +kernel
theorem dX5_init_23 : decode cX5_init 23 = .ok (.newarray .int, 2) := by decide +kernel
theorem dX5_init_25 : decode cX5_init 25 = .ok (.putfield 18, 3) := by decide +kernel
theorem dX5_init_28 : decode cX5_init 28 = .ok (.aload_n 0, 1) := by decide +kernel
theorem dX5_init_29 : decode cX5_init 29 = .ok (.bipush 15, 2) := by decide +kernel
theorem dX5_init_31 : decode cX5_init 31 = .ok (.newarray .int, 2) := by decide +kernel
theorem dX5_init_33 : decode cX5_init 33 = .ok (.putfield 21, 3) := by decide +kernel
theorem dX5_init_36 : decode cX5_init 36 = .ok (.aload_n 0, 1) := by decide +kernel
theorem dX5_init_37 : decode cX5_init 37 = .ok (.iconst 4, 1) := by decide +kernel
theorem dX5_init_38 : decode cX5_init 38 = .ok (.newarray .int, 2) := by decide +kernel
theorem dX5_init_40 : decode cX5_init 40 = .ok (.putfield 24, 3) := by decide +kernel
theorem dX5_init_43 : decode cX5_init 43 = .ok (.aload_n 0, 1) := by decide +kernel
theorem dX5_init_44 : decode cX5_init 44 = .ok (.iconst 4, 1) := by decide +kernel
theorem dX5_init_45 : decode cX5_init 45 = .ok (.newarray .int, 2) := by decide +kernel
theorem dX5_init_47 : decode cX5_init 47 = .ok (.putfield 27, 3) := by decide +kernel
theorem dX5_init_50 : decode cX5_init 50 = .ok (.return_, 1) := by decide +kernel
theorem dX5_add_0 : decode cX5_add 0 = .ok (.aload_n 0, 1) := by decide +kernel
theorem dX5_add_1 : decode cX5_add 1 = .ok (.getfield 30, 3) := by decide +kernel
theorem dX5_add_4 : decode cX5_add 4 = .ok (.bipush 7, 2) := by decide +kernel
theorem dX5_add_6 : decode cX5_add 6 = .ok (.if_icmp .lt 5, 3) := by decide +kernel
theorem dX5_add_9 : decode cX5_add 9 = .ok (.iconst 0, 1) := by decide +kernel
theorem dX5_add_10 : decode cX5_add 10 = .ok (.ireturn, 1) := by decide +kernel
theorem dX5_add_11 : decode cX5_add 11 = .ok (.aload_n 0, 1) := by decide +kernel
theorem dX5_add_12 : decode cX5_add 12 = .ok (.getfield 11, 3) := by decide +kernel
theorem dX5_add_15 : decode cX5_add 15 = .ok (.aload_n 0, 1) := by decide +kernel
theorem dX5_add_16 : decode cX5_add 16 = .ok (.getfield 30, 3) := by decide +kernel
theorem dX5_add_19 : decode cX5_add 19 = .ok (.iload_n 1, 1) := by decide +kernel
theorem dX5_add_20 : decode cX5_add 20 = .ok (.iastore, 1) := by decide +kernel
theorem dX5_add_21 : decode cX5_add 21 = .ok (.aload_n 0, 1) := by decide +kernel
theorem dX5_add_22 : decode cX5_add 22 = .ok (.getfield 15, 3) := by decide +kernel
theorem dX5_add_25 : decode cX5_add 25 = .ok (.aload_n 0, 1) := by decide +kernel
theorem dX5_add_26 : decode cX5_add 26 = .ok (.getfield 30, 3) := by decide +kernel
theorem dX5_add_29 : decode cX5_add 29 = .ok (.iload_n 2, 1) := by decide +kernel
theorem dX5_add_30 : decode cX5_add 30 = .ok (.iastore, 1) := by decide +kernel
theorem dX5_add_31 : decode cX5_add 31 = .ok (.aload_n 0, 1) := by decide +kernel
theorem dX5_add_32 : decode cX5_add 32 = .ok (.getfield 18, 3) := by decide +kernel
theorem dX5_add_35 : decode cX5_add 35 = .ok (.aload_n 0, 1) := by decide +kernel
theorem dX5_add_36 : decode cX5_add 36 = .ok (.getfield 30, 3) := by decide +kernel
theorem dX5_add_39 : decode cX5_add 39 = .ok (.iload_n 3, 1) := by decide +kernel
theorem dX5_add_40 : decode cX5_add 40 = .ok (.iastore, 1) := by decide +kernel
theorem dX5_add_41 : decode cX5_add 41 = .ok (.aload_n 0, 1) := by decide +kernel
theorem dX5_add_42 : decode cX5_add 42 = .ok (.dup, 1) := by decide +kernel
theorem dX5_add_43 : decode cX5_add 43 = .ok (.getfield 30, 3) := by decide +kernel
theorem dX5_add_46 : decode cX5_add 46 = .ok (.iconst 1, 1) := by decide +kernel
theorem dX5_add_47 : decode cX5_add 47 = .ok (.iadd, 1) := by decide +kernel
theorem dX5_add_48 : decode cX5_add 48 = .ok (.putfield 30, 3) := by decide +kernel
theorem dX5_add_51 : decode cX5_add 51 = .ok (.iconst 1, 1) := by decide +kernel
theorem dX5_add_52 : decode cX5_add 52 = .ok (.ireturn, 1) := by decide +kernel
theorem dX5_lastDay_0 : decode cX5_lastDay 0 = .ok (.iconst 0, 1) := by decide +kernel
theorem dX5_lastDay_1 : decode cX5_lastDay 1 = .ok (.istore_n 2, 1) := by decide +kernel
theorem dX5_lastDay_2 : decode cX5_lastDay 2 = .ok (.iconst 0, 1) := by decide +kernel
theorem dX5_lastDay_3 : decode cX5_lastDay 3 = .ok (.istore_n 3, 1) := by decide +kernel
theorem dX5_lastDay_4 : decode cX5_lastDay 4 = .ok (.iload_n 3, 1) := by decide +kernel
theorem dX5_lastDay_5 : decode cX5_lastDay 5 = .ok (.aload_n 0, 1) := by decide +kernel
theorem dX5_lastDay_6 : decode cX5_lastDay 6 = .ok (.getfield 30, 3) := by decide +kernel
theorem dX5_lastDay_9 : decode cX5_lastDay 9 = .ok (.if_icmp .ge 30, 3) := by decide +kernel
theorem dX5_lastDay_12 : decode cX5_lastDay 12 = .ok (.aload_n 0, 1) := by decide +kernel
theorem dX5_lastDay_13 : decode cX5_lastDay 13 = .ok (.getfield 11, 3) := by decide +kernel
theorem dX5_lastDay_16 : decode cX5_lastDay 16 = .ok (.iload_n 3, 1) := by decide +kernel
theorem dX5_lastDay_17 : decode cX5_lastDay 17 = .ok (.iaload, 1) := by decide +kernel
theorem dX5_lastDay_18 : decode cX5_lastDay 18 = .ok (.iload_n 1, 1) := by decide +kernel
theorem dX5_lastDay_19 : decode cX5_lastDay 19 = .ok (.if_icmp .ne 14, 3) := by decide +kernel
theorem dX5_lastDay_22 : decode cX5_lastDay 22 = .ok (.iload_n 2, 1) := by decide +kernel
theorem dX5_lastDay_23 : decode cX5_lastDay 23 = .ok (.aload_n 0, 1) := by decide +kernel
theorem dX5_lastDay_24 : decode cX5_lastDay 24 = .ok (.getfield 15, 3) := by decide +kernel
theorem dX5_lastDay_27 : decode cX5_lastDay 27 = .ok (.iload_n 3, 1) := by decide +kernel
theorem dX5_lastDay_28 : decode cX5_lastDay 28 = .ok (.iaload, 1) := by decide +kernel
theorem dX5_lastDay_29 : decode cX5_lastDay 29 = .ok (.invokestatic 34, 3) := by decide +kernel
theorem dX5_lastDay_32 : decode cX5_lastDay 32 = .ok (.istore_n 2, 1) := by decide +kernel
theorem dX5_lastDay_33 : decode cX5_lastDay 33 = .ok (.iinc 3 1, 3) := by decide +kernel
theorem dX5_lastDay_36 : decode cX5_lastDay 36 = .ok (.goto (-32), 3) := by decide +kernel
theorem dX5_lastDay_39 : decode cX5_lastDay 39 = .ok (.iload_n 2, 1) := by decide +kernel
theorem dX5_lastDay_40 : decode cX5_lastDay 40 = .ok (.ireturn, 1) := by decide +kernel
theorem dX5_agrees_0 : decode cX5_agrees 0 = .ok (.iconst 0, 1) := by decide +kernel
theorem dX5_agrees_1 : decode cX5_agrees 1 = .ok (.istore 4, 2) := by decide +kernel
theorem dX5_agrees_3 : decode cX5_agrees 3 = .ok (.iload 4, 2) := by decide +kernel
theorem dX5_agrees_5 : decode cX5_agrees 5 = .ok (.aload_n 0, 1) := by decide +kernel
theorem dX5_agrees_6 : decode cX5_agrees 6 = .ok (.getfield 30, 3) := by decide +kernel
theorem dX5_agrees_9 : decode cX5_agrees 9 = .ok (.if_icmp .ge 44, 3) := by decide +kernel
theorem dX5_agrees_12 : decode cX5_agrees 12 = .ok (.aload_n 0, 1) := by decide +kernel
theorem dX5_agrees_13 : decode cX5_agrees 13 = .ok (.getfield 11, 3) := by decide +kernel
theorem dX5_agrees_16 : decode cX5_agrees 16 = .ok (.iload 4, 2) := by decide +kernel
theorem dX5_agrees_18 : decode cX5_agrees 18 = .ok (.iaload, 1) := by decide +kernel
theorem dX5_agrees_19 : decode cX5_agrees 19 = .ok (.iload_n 1, 1) := by decide +kernel
theorem dX5_agrees_20 : decode cX5_agrees 20 = .ok (.if_icmp .ne 27, 3) := by decide +kernel
theorem dX5_agrees_23 : decode cX5_agrees 23 = .ok (.aload_n 0, 1) := by decide +kernel
theorem dX5_agrees_24 : decode cX5_agrees 24 = .ok (.getfield 15, 3) := by decide +kernel
theorem dX5_agrees_27 : decode cX5_agrees 27 = .ok (.iload 4, 2) := by decide +kernel
theorem dX5_agrees_29 : decode cX5_agrees 29 = .ok (.iaload, 1) := by decide +kernel
theorem dX5_agrees_30 : decode cX5_agrees 30 = .ok (.iload_n 2, 1) := by decide +kernel
theorem dX5_agrees_31 : decode cX5_agrees 31 = .ok (.if_icmp .ne 16, 3) := by decide +kernel
theorem dX5_agrees_34 : decode cX5_agrees 34 = .ok (.aload_n 0, 1) := by decide +kernel
theorem dX5_agrees_35 : decode cX5_agrees 35 = .ok (.getfield 18, 3) := by decide +kernel
theorem dX5_agrees_38 : decode cX5_agrees 38 = .ok (.iload 4, 2) := by decide +kernel
theorem dX5_agrees_40 : decode cX5_agrees 40 = .ok (.iaload, 1) := by decide +kernel
theorem dX5_agrees_41 : decode cX5_agrees 41 = .ok (.iload_n 3, 1) := by decide +kernel
theorem dX5_agrees_42 : decode cX5_agrees 42 = .ok (.if_icmp .eq 5, 3) := by decide +kernel
theorem dX5_agrees_45 : decode cX5_agrees 45 = .ok (.iconst 0, 1) := by decide +kernel
theorem dX5_agrees_46 : decode cX5_agrees 46 = .ok (.ireturn, 1) := by decide +kernel
theorem dX5_agrees_47 : decode cX5_agrees 47 = .ok (.iinc 4 1, 3) := by decide +kernel
theorem dX5_agrees_50 : decode cX5_agrees 50 = .ok (.goto (-47), 3) := by decide +kernel
theorem dX5_agrees_53 : decode cX5_agrees 53 = .ok (.iconst 1, 1) := by decide +kernel
theorem dX5_agrees_54 : decode cX5_agrees 54 = .ok (.ireturn, 1) := by decide +kernel
theorem dX5_recall_0 : decode cX5_recall 0 = .ok (.aload_n 0, 1) := by decide +kernel
theorem dX5_recall_1 : decode cX5_recall 1 = .ok (.iconst 0, 1) := by decide +kernel
theorem dX5_recall_2 : decode cX5_recall 2 = .ok (.putfield 40, 3) := by decide +kernel
theorem dX5_recall_5 : decode cX5_recall 5 = .ok (.aload_n 3, 1) := by decide +kernel
theorem dX5_recall_6 : decode cX5_recall 6 = .ok (.getfield 43, 3) := by decide +kernel
theorem dX5_recall_9 : decode cX5_recall 9 = .ok (.iload_n 2, 1) := by decide +kernel
theorem dX5_recall_10 : decode cX5_recall 10 = .ok (.iconst 3, 1) := by decide +kernel
theorem dX5_recall_11 : decode cX5_recall 11 = .ok (.imul, 1) := by decide +kernel
theorem dX5_recall_12 : decode cX5_recall 12 = .ok (.aload_n 0, 1) := by decide +kernel
theorem dX5_recall_13 : decode cX5_recall 13 = .ok (.getfield 21, 3) := by decide +kernel
theorem dX5_recall_16 : decode cX5_recall 16 = .ok (.iconst 0, 1) := by decide +kernel
theorem dX5_recall_17 : decode cX5_recall 17 = .ok (.iconst 3, 1) := by decide +kernel
theorem dX5_recall_18 : decode cX5_recall 18 = .ok (.invokestatic 48, 3) := by decide +kernel
theorem dX5_recall_21 : decode cX5_recall 21 = .ok (.aload_n 0, 1) := by decide +kernel
theorem dX5_recall_22 : decode cX5_recall 22 = .ok (.aload_n 1, 1) := by decide +kernel
theorem dX5_recall_23 : decode cX5_recall 23 = .ok (.iload_n 2, 1) := by decide +kernel
theorem dX5_recall_24 : decode cX5_recall 24 = .ok (.aload_n 3, 1) := by decide +kernel
theorem dX5_recall_25 : decode cX5_recall 25 = .ok (.invokevirtual 54, 3) := by decide +kernel
theorem dX5_recall_28 : decode cX5_recall 28 = .ok (.iconst 0, 1) := by decide +kernel
theorem dX5_recall_29 : decode cX5_recall 29 = .ok (.aload_n 0, 1) := by decide +kernel
theorem dX5_recall_30 : decode cX5_recall 30 = .ok (.iload_n 2, 1) := by decide +kernel
theorem dX5_recall_31 : decode cX5_recall 31 = .ok (.invokevirtual 58, 3) := by decide +kernel
theorem dX5_recall_34 : decode cX5_recall 34 = .ok (.invokevirtual 62, 3) := by decide +kernel
theorem dX5_recall_37 : decode cX5_recall 37 = .ok (.return_, 1) := by decide +kernel
theorem dX5_search_0 : decode cX5_search 0 = .ok (.iload 4, 2) := by decide +kernel
theorem dX5_search_2 : decode cX5_search 2 = .ok (.iload 5, 2) := by decide +kernel
theorem dX5_search_4 : decode cX5_search 4 = .ok (.if_icmp .lt 35, 3) := by decide +kernel
theorem dX5_search_7 : decode cX5_search 7 = .ok (.aload_n 0, 1) := by decide +kernel
theorem dX5_search_8 : decode cX5_search 8 = .ok (.getfield 40, 3) := by decide +kernel
theorem dX5_search_11 : decode cX5_search 11 = .ok (.ifCond .ne 17, 3) := by decide +kernel
theorem dX5_search_14 : decode cX5_search 14 = .ok (.aload_n 0, 1) := by decide +kernel
theorem dX5_search_15 : decode cX5_search 15 = .ok (.getfield 24, 3) := by decide +kernel
theorem dX5_search_18 : decode cX5_search 18 = .ok (.iconst 0, 1) := by decide +kernel
theorem dX5_search_19 : decode cX5_search 19 = .ok (.aload_n 0, 1) := by decide +kernel
theorem dX5_search_20 : decode cX5_search 20 = .ok (.getfield 27, 3) := by decide +kernel
theorem dX5_search_23 : decode cX5_search 23 = .ok (.iconst 0, 1) := by decide +kernel
theorem dX5_search_24 : decode cX5_search 24 = .ok (.iconst 4, 1) := by decide +kernel
theorem dX5_search_25 : decode cX5_search 25 = .ok (.invokestatic 48, 3) := by decide +kernel
theorem dX5_search_28 : decode cX5_search 28 = .ok (.aload_n 0, 1) := by decide +kernel
theorem dX5_search_29 : decode cX5_search 29 = .ok (.dup, 1) := by decide +kernel
theorem dX5_search_30 : decode cX5_search 30 = .ok (.getfield 40, 3) := by decide +kernel
theorem dX5_search_33 : decode cX5_search 33 = .ok (.iconst 1, 1) := by decide +kernel
theorem dX5_search_34 : decode cX5_search 34 = .ok (.iadd, 1) := by decide +kernel
theorem dX5_search_35 : decode cX5_search 35 = .ok (.putfield 40, 3) := by decide +kernel
theorem dX5_search_38 : decode cX5_search 38 = .ok (.return_, 1) := by decide +kernel
theorem dX5_search_39 : decode cX5_search 39 = .ok (.iconst (-1), 1) := by decide +kernel
theorem dX5_search_40 : decode cX5_search 40 = .ok (.istore 6, 2) := by decide +kernel
theorem dX5_search_42 : decode cX5_search 42 = .ok (.iload 6, 2) := by decide +kernel
theorem dX5_search_44 : decode cX5_search 44 = .ok (.aload_n 1, 1) := by decide +kernel
theorem dX5_search_45 : decode cX5_search 45 = .ok (.getfield 66, 3) := by decide +kernel
theorem dX5_search_48 : decode cX5_search 48 = .ok (.if_icmp .ge 60, 3) := by decide +kernel
theorem dX5_search_51 : decode cX5_search 51 = .ok (.aload_n 0, 1) := by decide +kernel
theorem dX5_search_52 : decode cX5_search 52 = .ok (.getfield 24, 3) := by decide +kernel
theorem dX5_search_55 : decode cX5_search 55 = .ok (.iload 4, 2) := by decide +kernel
theorem dX5_search_57 : decode cX5_search 57 = .ok (.iload 6, 2) := by decide +kernel
theorem dX5_search_59 : decode cX5_search 59 = .ok (.ifCond .ge 8, 3) := by decide +kernel
theorem dX5_search_62 : decode cX5_search 62 = .ok (.bipush (-4), 2) := by decide +kernel
theorem dX5_search_64 : decode cX5_search 64 = .ok (.goto 5, 3) := by decide +kernel
theorem dX5_search_67 : decode cX5_search 67 = .ok (.iload 6, 2) := by decide +kernel
theorem dX5_search_69 : decode cX5_search 69 = .ok (.iastore, 1) := by decide +kernel
theorem dX5_search_70 : decode cX5_search 70 = .ok (.aload_n 0, 1) := by decide +kernel
theorem dX5_search_71 : decode cX5_search 71 = .ok (.aload_n 1, 1) := by decide +kernel
theorem dX5_search_72 : decode cX5_search 72 = .ok (.iload_n 2, 1) := by decide +kernel
theorem dX5_search_73 : decode cX5_search 73 = .ok (.iload 6, 2) := by decide +kernel
theorem dX5_search_75 : decode cX5_search 75 = .ok (.iload_n 3, 1) := by decide +kernel
theorem dX5_search_76 : decode cX5_search 76 = .ok (.iload 4, 2) := by decide +kernel
theorem dX5_search_78 : decode cX5_search 78 = .ok (.invokevirtual 71, 3) := by decide +kernel
theorem dX5_search_81 : decode cX5_search 81 = .ok (.ifCond .eq 21, 3) := by decide +kernel
theorem dX5_search_84 : decode cX5_search 84 = .ok (.aload_n 0, 1) := by decide +kernel
theorem dX5_search_85 : decode cX5_search 85 = .ok (.aload_n 1, 1) := by decide +kernel
theorem dX5_search_86 : decode cX5_search 86 = .ok (.iload_n 2, 1) := by decide +kernel
theorem dX5_search_87 : decode cX5_search 87 = .ok (.iload_n 3, 1) := by decide +kernel
theorem dX5_search_88 : decode cX5_search 88 = .ok (.iconst 1, 1) := by decide +kernel
theorem dX5_search_89 : decode cX5_search 89 = .ok (.iadd, 1) := by decide +kernel
theorem dX5_search_90 : decode cX5_search 90 = .ok (.bipush 7, 2) := by decide +kernel
theorem dX5_search_92 : decode cX5_search 92 = .ok (.irem, 1) := by decide +kernel
theorem dX5_search_93 : decode cX5_search 93 = .ok (.iload 4, 2) := by decide +kernel
theorem dX5_search_95 : decode cX5_search 95 = .ok (.iconst 1, 1) := by decide +kernel
theorem dX5_search_96 : decode cX5_search 96 = .ok (.iadd, 1) := by decide +kernel
theorem dX5_search_97 : decode cX5_search 97 = .ok (.iload 5, 2) := by decide +kernel
theorem dX5_search_99 : decode cX5_search 99 = .ok (.invokevirtual 62, 3) := by decide +kernel
theorem dX5_search_102 : decode cX5_search 102 = .ok (.iinc 6 1, 3) := by decide +kernel
theorem dX5_search_105 : decode cX5_search 105 = .ok (.goto (-63), 3) := by decide +kernel
theorem dX5_search_108 : decode cX5_search 108 = .ok (.return_, 1) := by decide +kernel
theorem dX5_spendDay_0 : decode cX5_spendDay 0 = .ok (.iload 5, 2) := by decide +kernel
theorem dX5_spendDay_2 : decode cX5_spendDay 2 = .ok (.iconst 1, 1) := by decide +kernel
theorem dX5_spendDay_3 : decode cX5_spendDay 3 = .ok (.iadd, 1) := by decide +kernel
theorem dX5_spendDay_4 : decode cX5_spendDay 4 = .ok (.iconst 3, 1) := by decide +kernel
theorem dX5_spendDay_5 : decode cX5_spendDay 5 = .ok (.imul, 1) := by decide +kernel
theorem dX5_spendDay_6 : decode cX5_spendDay 6 = .ok (.istore 6, 2) := by decide +kernel
theorem dX5_spendDay_8 : decode cX5_spendDay 8 = .ok (.aload_n 0, 1) := by decide +kernel
theorem dX5_spendDay_9 : decode cX5_spendDay 9 = .ok (.getfield 21, 3) := by decide +kernel
theorem dX5_spendDay_12 : decode cX5_spendDay 12 = .ok (.iload 5, 2) := by decide +kernel
theorem dX5_spendDay_14 : decode cX5_spendDay 14 = .ok (.iconst 3, 1) := by decide +kernel
theorem dX5_spendDay_15 : decode cX5_spendDay 15 = .ok (.imul, 1) := by decide +kernel
theorem dX5_spendDay_16 : decode cX5_spendDay 16 = .ok (.aload_n 0, 1) := by decide +kernel
theorem dX5_spendDay_17 : decode cX5_spendDay 17 = .ok (.getfield 21, 3) := by decide +kernel
theorem dX5_spendDay_20 : decode cX5_spendDay 20 = .ok (.iload 6, 2) := by decide +kernel
theorem dX5_spendDay_22 : decode cX5_spendDay 22 = .ok (.iconst 3, 1) := by decide +kernel
theorem dX5_spendDay_23 : decode cX5_spendDay 23 = .ok (.invokestatic 48, 3) := by decide +kernel
theorem dX5_spendDay_26 : decode cX5_spendDay 26 = .ok (.iload_n 3, 1) := by decide +kernel
theorem dX5_spendDay_27 : decode cX5_spendDay 27 = .ok (.ifCond .lt 30, 3) := by decide +kernel
theorem dX5_spendDay_30 : decode cX5_spendDay 30 = .ok (.aload_n 1, 1) := by decide +kernel
theorem dX5_spendDay_31 : decode cX5_spendDay 31 = .ok (.iload_n 2, 1) := by decide +kernel
theorem dX5_spendDay_32 : decode cX5_spendDay 32 = .ok (.iload_n 3, 1) := by decide +kernel
theorem dX5_spendDay_33 : decode cX5_spendDay 33 = .ok (.aload_n 0, 1) := by decide +kernel
theorem dX5_spendDay_34 : decode cX5_spendDay 34 = .ok (.getfield 21, 3) := by decide +kernel
theorem dX5_spendDay_37 : decode cX5_spendDay 37 = .ok (.iload 6, 2) := by decide +kernel
theorem dX5_spendDay_39 : decode cX5_spendDay 39 = .ok (.invokevirtual 75, 3) := by decide +kernel
theorem dX5_spendDay_42 : decode cX5_spendDay 42 = .ok (.ifCond .ne 5, 3) := by decide +kernel
theorem dX5_spendDay_45 : decode cX5_spendDay 45 = .ok (.iconst 0, 1) := by decide +kernel
theorem dX5_spendDay_46 : decode cX5_spendDay 46 = .ok (.ireturn, 1) := by decide +kernel
theorem dX5_spendDay_47 : decode cX5_spendDay 47 = .ok (.aload_n 1, 1) := by decide +kernel
theorem dX5_spendDay_48 : decode cX5_spendDay 48 = .ok (.aload_n 0, 1) := by decide +kernel
theorem dX5_spendDay_49 : decode cX5_spendDay 49 = .ok (.getfield 21, 3) := by decide +kernel
theorem dX5_spendDay_52 : decode cX5_spendDay 52 = .ok (.iload 6, 2) := by decide +kernel
theorem dX5_spendDay_54 : decode cX5_spendDay 54 = .ok (.invokevirtual 79, 3) := by decide +kernel
theorem dX5_spendDay_57 : decode cX5_spendDay 57 = .ok (.aload_n 1, 1) := by decide +kernel
theorem dX5_spendDay_58 : decode cX5_spendDay 58 = .ok (.iload_n 2, 1) := by decide +kernel
theorem dX5_spendDay_59 : decode cX5_spendDay 59 = .ok (.aload_n 0, 1) := by decide +kernel
theorem dX5_spendDay_60 : decode cX5_spendDay 60 = .ok (.getfield 21, 3) := by decide +kernel
theorem dX5_spendDay_63 : decode cX5_spendDay 63 = .ok (.iload 6, 2) := by decide +kernel
theorem dX5_spendDay_65 : decode cX5_spendDay 65 = .ok (.invokevirtual 83, 3) := by decide +kernel
theorem dX5_spendDay_68 : decode cX5_spendDay 68 = .ok (.aload_n 0, 1) := by decide +kernel
theorem dX5_spendDay_69 : decode cX5_spendDay 69 = .ok (.iload_n 2, 1) := by decide +kernel
theorem dX5_spendDay_70 : decode cX5_spendDay 70 = .ok (.iload 5, 2) := by decide +kernel
theorem dX5_spendDay_72 : decode cX5_spendDay 72 = .ok (.iconst 1, 1) := by decide +kernel
theorem dX5_spendDay_73 : decode cX5_spendDay 73 = .ok (.iadd, 1) := by decide +kernel
theorem dX5_spendDay_74 : decode cX5_spendDay 74 = .ok (.aload_n 0, 1) := by decide +kernel
theorem dX5_spendDay_75 : decode cX5_spendDay 75 = .ok (.getfield 21, 3) := by decide +kernel
theorem dX5_spendDay_78 : decode cX5_spendDay 78 = .ok (.iload 6, 2) := by decide +kernel
theorem dX5_spendDay_80 : decode cX5_spendDay 80 = .ok (.invokestatic 87, 3) := by decide +kernel
theorem dX5_spendDay_83 : decode cX5_spendDay 83 = .ok (.invokevirtual 91, 3) := by decide +kernel
theorem dX5_spendDay_86 : decode cX5_spendDay 86 = .ok (.ifCond .ne 5, 3) := by decide +kernel
theorem dX5_spendDay_89 : decode cX5_spendDay 89 = .ok (.iconst 0, 1) := by decide +kernel
theorem dX5_spendDay_90 : decode cX5_spendDay 90 = .ok (.ireturn, 1) := by decide +kernel
theorem dX5_spendDay_91 : decode cX5_spendDay 91 = .ok (.iload 4, 2) := by decide +kernel
theorem dX5_spendDay_93 : decode cX5_spendDay 93 = .ok (.bipush 6, 2) := by decide +kernel
theorem dX5_spendDay_95 : decode cX5_spendDay 95 = .ok (.if_icmp .ne 14, 3) := by decide +kernel
theorem dX5_spendDay_98 : decode cX5_spendDay 98 = .ok (.aload_n 1, 1) := by decide +kernel
theorem dX5_spendDay_99 : decode cX5_spendDay 99 = .ok (.iload_n 2, 1) := by decide +kernel
theorem dX5_spendDay_100 : decode cX5_spendDay 100 = .ok (.aload_n 0, 1) := by decide +kernel
theorem dX5_spendDay_101 : decode cX5_spendDay 101 = .ok (.getfield 21, 3) := by decide +kernel
theorem dX5_spendDay_104 : decode cX5_spendDay 104 = .ok (.iload 6, 2) := by decide +kernel
theorem dX5_spendDay_106 : decode cX5_spendDay 106 = .ok (.invokevirtual 95, 3) := by decide +kernel
theorem dX5_spendDay_109 : decode cX5_spendDay 109 = .ok (.iconst 1, 1) := by decide +kernel
theorem dX5_spendDay_110 : decode cX5_spendDay 110 = .ok (.ireturn, 1) := by decide +kernel
