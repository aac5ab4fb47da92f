theorem dX6_lending_41 : decode cX6_lending 41 = .ok (.iload 4, 2) := by decide +kernel
theorem dX6_lending_43 : decode cX6_lending 43 = .ok (.iload_n 2, 1) := by decide +kernel
theorem dX6_lending_44 : decode cX6_lending 44 = .ok (.invokevirtual 196, 3) := by decide +kernel
theorem dX6_lending_47 : decode cX6_lending 47 = .ok (.isub, 1) := by decide +kernel
theorem dX6_lending_48 : decode cX6_lending 48 = .ok (.istore 5, 2) := by decide +kernel
theorem dX6_lending_50 : decode cX6_lending 50 = .ok (.iload_n 3, 1) := by decide +kernel
theorem dX6_lending_51 : decode cX6_lending 51 = .ok (.iload 5, 2) := by decide +kernel
theorem dX6_lending_53 : decode cX6_lending 53 = .ok (.iadd, 1) := by decide +kernel
theorem dX6_lending_54 : decode cX6_lending 54 = .ok (.istore_n 3, 1) := by decide +kernel
theorem dX6_lending_55 : decode cX6_lending 55 = .ok (.iload_n 1, 1) := by decide +kernel
theorem dX6_lending_56 : decode cX6_lending 56 = .ok (.iload 5, 2) := by decide +kernel
theorem dX6_lending_58 : decode cX6_lending 58 = .ok (.ifCond .ge 9, 3) := by decide +kernel
theorem dX6_lending_61 : decode cX6_lending 61 = .ok (.iload 5, 2) := by decide +kernel
theorem dX6_lending_63 : decode cX6_lending 63 = .ok (.ineg, 1) := by decide +kernel
theorem dX6_lending_64 : decode cX6_lending 64 = .ok (.goto 4, 3) := by decide +kernel
theorem dX6_lending_67 : decode cX6_lending 67 = .ok (.iconst 0, 1) := by decide +kernel
theorem dX6_lending_68 : decode cX6_lending 68 = .ok (.iadd, 1) := by decide +kernel
theorem dX6_lending_69 : decode cX6_lending 69 = .ok (.istore_n 1, 1) := by decide +kernel
theorem dX6_lending_70 : decode cX6_lending 70 = .ok (.iinc 4 1, 3) := by decide +kernel
theorem dX6_lending_73 : decode cX6_lending 73 = .ok (.goto (-59), 3) := by decide +kernel
theorem dX6_lending_76 : decode cX6_lending 76 = .ok (.iload_n 3, 1) := by decide +kernel
theorem dX6_lending_77 : decode cX6_lending 77 = .ok (.ifCond .ge 6, 3) := by decide +kernel
theorem dX6_lending_80 : decode cX6_lending 80 = .ok (.bipush (-4), 2) := by decide +kernel
theorem dX6_lending_82 : decode cX6_lending 82 = .ok (.ireturn, 1) := by decide +kernel
theorem dX6_lending_83 : decode cX6_lending 83 = .ok (.iinc 2 1, 3) := by decide +kernel
theorem dX6_lending_86 : decode cX6_lending 86 = .ok (.goto (-82), 3) := by decide +kernel
theorem dX6_lending_89 : decode cX6_lending 89 = .ok (.iload_n 1, 1) := by decide +kernel
theorem dX6_lending_90 : decode cX6_lending 90 = .ok (.ireturn, 1) := by decide +kernel
theorem dX6_heap_0 : decode cX6_heap 0 = .ok (.iload_n 1, 1) := by decide +kernel
theorem dX6_heap_1 : decode cX6_heap 1 = .ok (.iconst 0, 1) := by decide +kernel
theorem dX6_heap_2 : decode cX6_heap 2 = .ok (.bipush 99, 2) := by decide +kernel
theorem dX6_heap_4 : decode cX6_heap 4 = .ok (.invokestatic 93, 3) := by decide +kernel
theorem dX6_heap_7 : decode cX6_heap 7 = .ok (.ifCond .eq 23, 3) := by decide +kernel
theorem dX6_heap_10 : decode cX6_heap 10 = .ok (.iload_n 2, 1) := by decide +kernel
theorem dX6_heap_11 : decode cX6_heap 11 = .ok (.iconst 0, 1) := by decide +kernel
theorem dX6_heap_12 : decode cX6_heap 12 = .ok (.bipush 99, 2) := by decide +kernel
theorem dX6_heap_14 : decode cX6_heap 14 = .ok (.invokestatic 93, 3) := by decide +kernel
theorem dX6_heap_17 : decode cX6_heap 17 = .ok (.ifCond .eq 13, 3) := by decide +kernel
theorem dX6_heap_20 : decode cX6_heap 20 = .ok (.iload_n 3, 1) := by decide +kernel
theorem dX6_heap_21 : decode cX6_heap 21 = .ok (.iconst 0, 1) := by decide +kernel
theorem dX6_heap_22 : decode cX6_heap 22 = .ok (.bipush 99, 2) := by decide +kernel
theorem dX6_heap_24 : decode cX6_heap 24 = .ok (.invokestatic 93, 3) := by decide +kernel
theorem dX6_heap_27 : decode cX6_heap 27 = .ok (.ifCond .ne 5, 3) := by decide +kernel
theorem dX6_heap_30 : decode cX6_heap 30 = .ok (.iconst (-1), 1) := by decide +kernel
theorem dX6_heap_31 : decode cX6_heap 31 = .ok (.ireturn, 1) := by decide +kernel
theorem dX6_heap_32 : decode cX6_heap 32 = .ok (.bipush (-4), 2) := by decide +kernel
theorem dX6_heap_34 : decode cX6_heap 34 = .ok (.istore 4, 2) := by decide +kernel
theorem dX6_heap_36 : decode cX6_heap 36 = .ok (.bipush 7, 2) := by decide +kernel
theorem dX6_heap_38 : decode cX6_heap 38 = .ok (.istore 5, 2) := by decide +kernel
theorem dX6_heap_40 : decode cX6_heap 40 = .ok (.iconst 0, 1) := by decide +kernel
theorem dX6_heap_41 : decode cX6_heap 41 = .ok (.istore 6, 2) := by decide +kernel
theorem dX6_heap_43 : decode cX6_heap 43 = .ok (.iload 6, 2) := by decide +kernel
theorem dX6_heap_45 : decode cX6_heap 45 = .ok (.iconst 1, 1) := by decide +kernel
theorem dX6_heap_46 : decode cX6_heap 46 = .ok (.aload_n 0, 1) := by decide +kernel
theorem dX6_heap_47 : decode cX6_heap 47 = .ok (.getfield 19, 3) := by decide +kernel
theorem dX6_heap_50 : decode cX6_heap 50 = .ok (.getfield 97, 3) := by decide +kernel
theorem dX6_heap_53 : decode cX6_heap 53 = .ok (.ishl, 1) := by decide +kernel
theorem dX6_heap_54 : decode cX6_heap 54 = .ok (.if_icmp .ge 64, 3) := by decide +kernel
theorem dX6_heap_57 : decode cX6_heap 57 = .ok (.iload 6, 2) := by decide +kernel
theorem dX6_heap_59 : decode cX6_heap 59 = .ok (.invokestatic 200, 3) := by decide +kernel
theorem dX6_heap_62 : decode cX6_heap 62 = .ok (.istore 7, 2) := by decide +kernel
theorem dX6_heap_64 : decode cX6_heap 64 = .ok (.iload 7, 2) := by decide +kernel
theorem dX6_heap_66 : decode cX6_heap 66 = .ok (.iload 5, 2) := by decide +kernel
theorem dX6_heap_68 : decode cX6_heap 68 = .ok (.if_icmp .ge 44, 3) := by decide +kernel
theorem dX6_heap_71 : decode cX6_heap 71 = .ok (.aload_n 0, 1) := by decide +kernel
theorem dX6_heap_72 : decode cX6_heap 72 = .ok (.iload 6, 2) := by decide +kernel
theorem dX6_heap_74 : decode cX6_heap 74 = .ok (.iconst 0, 1) := by decide +kernel
theorem dX6_heap_75 : decode cX6_heap 75 = .ok (.invokevirtual 205, 3) := by decide +kernel
theorem dX6_heap_78 : decode cX6_heap 78 = .ok (.iload_n 1, 1) := by decide +kernel
theorem dX6_heap_79 : decode cX6_heap 79 = .ok (.if_icmp .lt 33, 3) := by decide +kernel
theorem dX6_heap_82 : decode cX6_heap 82 = .ok (.aload_n 0, 1) := by decide +kernel
theorem dX6_heap_83 : decode cX6_heap 83 = .ok (.iload 6, 2) := by decide +kernel
theorem dX6_heap_85 : decode cX6_heap 85 = .ok (.iconst 1, 1) := by decide +kernel
theorem dX6_heap_86 : decode cX6_heap 86 = .ok (.invokevirtual 205, 3) := by decide +kernel
theorem dX6_heap_89 : decode cX6_heap 89 = .ok (.iload_n 2, 1) := by decide +kernel
theorem dX6_heap_90 : decode cX6_heap 90 = .ok (.if_icmp .lt 22, 3) := by decide +kernel
theorem dX6_heap_93 : decode cX6_heap 93 = .ok (.aload_n 0, 1) := by decide +kernel
theorem dX6_heap_94 : decode cX6_heap 94 = .ok (.iload 6, 2) := by decide +kernel
theorem dX6_heap_96 : decode cX6_heap 96 = .ok (.iconst 2, 1) := by decide +kernel
theorem dX6_heap_97 : decode cX6_heap 97 = .ok (.invokevirtual 205, 3) := by decide +kernel
theorem dX6_heap_100 : decode cX6_heap 100 = .ok (.iload_n 3, 1) := by decide +kernel
theorem dX6_heap_101 : decode cX6_heap 101 = .ok (.if_icmp .lt 11, 3) := by decide +kernel
theorem dX6_heap_104 : decode cX6_heap 104 = .ok (.iload 6, 2) := by decide +kernel
theorem dX6_heap_106 : decode cX6_heap 106 = .ok (.istore 4, 2) := by decide +kernel
theorem dX6_heap_108 : decode cX6_heap 108 = .ok (.iload 7, 2) := by decide +kernel
theorem dX6_heap_110 : decode cX6_heap 110 = .ok (.istore 5, 2) := by decide +kernel
theorem dX6_heap_112 : decode cX6_heap 112 = .ok (.iinc 6 1, 3) := by decide +kernel
theorem dX6_heap_115 : decode cX6_heap 115 = .ok (.goto (-72), 3) := by decide +kernel
theorem dX6_heap_118 : decode cX6_heap 118 = .ok (.iload 4, 2) := by decide +kernel
theorem dX6_heap_120 : decode cX6_heap 120 = .ok (.ireturn, 1) := by decide +kernel
theorem dX6_seen_0 : decode cX6_seen 0 = .ok (.aload_n 0, 1) := by decide +kernel
theorem dX6_seen_1 : decode cX6_seen 1 = .ok (.iload_n 1, 1) := by decide +kernel
theorem dX6_seen_2 : decode cX6_seen 2 = .ok (.invokevirtual 104, 3) := by decide +kernel
theorem dX6_seen_5 : decode cX6_seen 5 = .ok (.ifCond .eq 22, 3) := by decide +kernel
theorem dX6_seen_8 : decode cX6_seen 8 = .ok (.iload_n 2, 1) := by decide +kernel
theorem dX6_seen_9 : decode cX6_seen 9 = .ok (.iconst 1, 1) := by decide +kernel
theorem dX6_seen_10 : decode cX6_seen 10 = .ok (.iconst 4, 1) := by decide +kernel
theorem dX6_seen_11 : decode cX6_seen 11 = .ok (.invokestatic 93, 3) := by decide +kernel
theorem dX6_seen_14 : decode cX6_seen 14 = .ok (.ifCond .eq 13, 3) := by decide +kernel
theorem dX6_seen_17 : decode cX6_seen 17 = .ok (.iload_n 3, 1) := by decide +kernel
theorem dX6_seen_18 : decode cX6_seen 18 = .ok (.iconst 0, 1) := by decide +kernel
theorem dX6_seen_19 : decode cX6_seen 19 = .ok (.bipush 7, 2) := by decide +kernel
theorem dX6_seen_21 : decode cX6_seen 21 = .ok (.invokestatic 93, 3) := by decide +kernel
theorem dX6_seen_24 : decode cX6_seen 24 = .ok (.ifCond .ne 5, 3) := by decide +kernel
theorem dX6_seen_27 : decode cX6_seen 27 = .ok (.iconst (-1), 1) := by decide +kernel
theorem dX6_seen_28 : decode cX6_seen 28 = .ok (.ireturn, 1) := by decide +kernel
theorem dX6_seen_29 : decode cX6_seen 29 = .ok (.aload_n 0, 1) := by decide +kernel
theorem dX6_seen_30 : decode cX6_seen 30 = .ok (.getfield 58, 3) := by decide +kernel
theorem dX6_seen_33 : decode cX6_seen 33 = .ok (.iload_n 1, 1) := by decide +kernel
theorem dX6_seen_34 : decode cX6_seen 34 = .ok (.iload_n 2, 1) := by decide +kernel
theorem dX6_seen_35 : decode cX6_seen 35 = .ok (.iload_n 3, 1) := by decide +kernel
theorem dX6_seen_36 : decode cX6_seen 36 = .ok (.invokevirtual 208, 3) := by decide +kernel
theorem dX6_seen_39 : decode cX6_seen 39 = .ok (.ifCond .eq 13, 3) := by decide +kernel
theorem dX6_seen_42 : decode cX6_seen 42 = .ok (.aload_n 0, 1) := by decide +kernel
theorem dX6_seen_43 : decode cX6_seen 43 = .ok (.getfield 58, 3) := by decide +kernel
theorem dX6_seen_46 : decode cX6_seen 46 = .ok (.getfield 103, 3) := by decide +kernel
theorem dX6_seen_49 : decode cX6_seen 49 = .ok (.goto 5, 3) := by decide +kernel
theorem dX6_seen_52 : decode cX6_seen 52 = .ok (.bipush (-3), 2) := by decide +kernel
theorem dX6_seen_54 : decode cX6_seen 54 = .ok (.ireturn, 1) := by decide +kernel
theorem dX6_forget_0 : decode cX6_forget 0 = .ok (.aload_n 0, 1) := by decide +kernel
theorem dX6_forget_1 : decode cX6_forget 1 = .ok (.getfield 58, 3) := by decide +kernel
theorem dX6_forget_4 : decode cX6_forget 4 = .ok (.getfield 103, 3) := by decide +kernel
theorem dX6_forget_7 : decode cX6_forget 7 = .ok (.istore_n 1, 1) := by decide +kernel
theorem dX6_forget_8 : decode cX6_forget 8 = .ok (.aload_n 0, 1) := by decide +kernel
theorem dX6_forget_9 : decode cX6_forget 9 = .ok (.getfield 58, 3) := by decide +kernel
theorem dX6_forget_12 : decode cX6_forget 12 = .ok (.iconst 0, 1) := by decide +kernel
theorem dX6_forget_13 : decode cX6_forget 13 = .ok (.putfield 103, 3) := by decide +kernel
theorem dX6_forget_16 : decode cX6_forget 16 = .ok (.iload_n 1, 1) := by decide +kernel
theorem dX6_forget_17 : decode cX6_forget 17 = .ok (.ireturn, 1) := by decide +kernel
theorem dX6_spent_0 : decode cX6_spent 0 = .ok (.aload_n 0, 1) := by decide +kernel
theorem dX6_spent_1 : decode cX6_spent 1 = .ok (.iload_n 1, 1) := by decide +kernel
theorem dX6_spent_2 : decode cX6_spent 2 = .ok (.invokevirtual 104, 3) := by decide +kernel
theorem dX6_spent_5 : decode cX6_spent 5 = .ok (.ifCond .eq 19, 3) := by decide +kernel
theorem dX6_spent_8 : decode cX6_spent 8 = .ok (.iload_n 2, 1) := by decide +kernel
theorem dX6_spent_9 : decode cX6_spent 9 = .ok (.ifCond .lt 15, 3) := by decide +kernel
theorem dX6_spent_12 : decode cX6_spent 12 = .ok (.iload_n 2, 1) := by decide +kernel
theorem dX6_spent_13 : decode cX6_spent 13 = .ok (.aload_n 0, 1) := by decide +kernel
theorem dX6_spent_14 : decode cX6_spent 14 = .ok (.getfield 58, 3) := by decide +kernel
theorem dX6_spent_17 : decode cX6_spent 17 = .ok (.iload_n 1, 1) := by decide +kernel
theorem dX6_spent_18 : decode cX6_spent 18 = .ok (.invokevirtual 210, 3) := by decide +kernel
theorem dX6_spent_21 : decode cX6_spent 21 = .ok (.if_icmp .le 5, 3) := by decide +kernel
theorem dX6_spent_24 : decode cX6_spent 24 = .ok (.iconst (-1), 1) := by decide +kernel
theorem dX6_spent_25 : decode cX6_spent 25 = .ok (.ireturn, 1) := by decide +kernel
theorem dX6_spent_26 : decode cX6_spent 26 = .ok (.aload_n 0, 1) := by decide +kernel
theorem dX6_spent_27 : decode cX6_spent 27 = .ok (.getfield 58, 3) := by decide +kernel
theorem dX6_spent_30 : decode cX6_spent 30 = .ok (.aload_n 0, 1) := by decide +kernel
theorem dX6_spent_31 : decode cX6_spent 31 = .ok (.getfield 19, 3) := by decide +kernel
theorem dX6_spent_34 : decode cX6_spent 34 = .ok (.iload_n 1, 1) := by decide +kernel
theorem dX6_spent_35 : decode cX6_spent 35 = .ok (.aload_n 0, 1) := by decide +kernel
theorem dX6_spent_36 : decode cX6_spent 36 = .ok (.getfield 29, 3) := by decide +kernel
theorem dX6_spent_39 : decode cX6_spent 39 = .ok (.invokevirtual 213, 3) := by decide +kernel
theorem dX6_spent_42 : decode cX6_spent 42 = .ok (.iload_n 2, 1) := by decide +kernel
theorem dX6_spent_43 : decode cX6_spent 43 = .ok (.ifCond .ne 11, 3) := by decide +kernel
theorem dX6_spent_46 : decode cX6_spent 46 = .ok (.aload_n 0, 1) := by decide +kernel
theorem dX6_spent_47 : decode cX6_spent 47 = .ok (.getfield 58, 3) := by decide +kernel
theorem dX6_spent_50 : decode cX6_spent 50 = .ok (.getfield 216, 3) := by decide +kernel
theorem dX6_spent_53 : decode cX6_spent 53 = .ok (.ireturn, 1) := by decide +kernel
theorem dX6_spent_54 : decode cX6_spent 54 = .ok (.aload_n 0, 1) := by decide +kernel
theorem dX6_spent_55 : decode cX6_spent 55 = .ok (.getfield 58, 3) := by decide +kernel
theorem dX6_spent_58 : decode cX6_spent 58 = .ok (.getfield 216, 3) := by decide +kernel
theorem dX6_spent_61 : decode cX6_spent 61 = .ok (.ifCond .ne 8, 3) := by decide +kernel
theorem dX6_spent_64 : decode cX6_spent 64 = .ok (.bipush (-4), 2) := by decide +kernel
theorem dX6_spent_66 : decode cX6_spent 66 = .ok (.goto 14, 3) := by decide +kernel
theorem dX6_spent_69 : decode cX6_spent 69 = .ok (.aload_n 0, 1) := by decide +kernel
theorem dX6_spent_70 : decode cX6_spent 70 = .ok (.getfield 58, 3) := by decide +kernel
theorem dX6_spent_73 : decode cX6_spent 73 = .ok (.getfield 219, 3) := by decide +kernel
theorem dX6_spent_76 : decode cX6_spent 76 = .ok (.iload_n 2, 1) := by decide +kernel
theorem dX6_spent_77 : decode cX6_spent 77 = .ok (.iconst 1, 1) := by decide +kernel
theorem dX6_spent_78 : decode cX6_spent 78 = .ok (.isub, 1) := by decide +kernel
theorem dX6_spent_79 : decode cX6_spent 79 = .ok (.iaload, 1) := by decide +kernel
theorem dX6_spent_80 : decode cX6_spent 80 = .ok (.ireturn, 1) := by decide +kernel
theorem dX6_saved_0 : decode cX6_saved 0 = .ok (.aload_n 0, 1) := by decide +kernel
theorem dX6_saved_1 : decode cX6_saved 1 = .ok (.iload_n 1, 1) := by decide +kernel
theorem dX6_saved_2 : decode cX6_saved 2 = .ok (.invokevirtual 104, 3) := by decide +kernel
theorem dX6_saved_5 : decode cX6_saved 5 = .ok (.ifCond .eq 20, 3) := by decide +kernel
theorem dX6_saved_8 : decode cX6_saved 8 = .ok (.iload_n 2, 1) := by decide +kernel
theorem dX6_saved_9 : decode cX6_saved 9 = .ok (.invokestatic 154, 3) := by decide +kernel
theorem dX6_saved_12 : decode cX6_saved 12 = .ok (.ifCond .eq 13, 3) := by decide +kernel
theorem dX6_saved_15 : decode cX6_saved 15 = .ok (.iload_n 3, 1) := by decide +kernel
theorem dX6_saved_16 : decode cX6_saved 16 = .ok (.iconst 0, 1) := by decide +kernel
theorem dX6_saved_17 : decode cX6_saved 17 = .ok (.bipush 99, 2) := by decide +kernel
theorem dX6_saved_19 : decode cX6_saved 19 = .ok (.invokestatic 93, 3) := by decide +kernel
theorem dX6_saved_22 : decode cX6_saved 22 = .ok (.ifCond .ne 5, 3) := by decide +kernel
theorem dX6_saved_25 : decode cX6_saved 25 = .ok (.iconst (-1), 1) := by decide +kernel
theorem dX6_saved_26 : decode cX6_saved 26 = .ok (.ireturn, 1) := by decide +kernel
theorem dX6_saved_27 : decode cX6_saved 27 = .ok (.aload_n 0, 1) := by decide +kernel
theorem dX6_saved_28 : decode cX6_saved 28 = .ok (.getfield 29, 3) := by decide +kernel
theorem dX6_saved_31 : decode cX6_saved 31 = .ok (.getfield 120, 3) := by decide +kernel
theorem dX6_saved_34 : decode cX6_saved 34 = .ok (.iload_n 1, 1) := by decide +kernel
theorem dX6_saved_35 : decode cX6_saved 35 = .ok (.iconst 3, 1) := by decide +kernel
theorem dX6_saved_36 : decode cX6_saved 36 = .ok (.imul, 1) := by decide +kernel
theorem dX6_saved_37 : decode cX6_saved 37 = .ok (.aload_n 0, 1) := by decide +kernel
theorem dX6_saved_38 : decode cX6_saved 38 = .ok (.getfield 62, 3) := by decide +kernel
theorem dX6_saved_41 : decode cX6_saved 41 = .ok (.iconst 0, 1) := by decide +kernel
theorem dX6_saved_42 : decode cX6_saved 42 = .ok (.iconst 3, 1) := by decide +kernel
theorem dX6_saved_43 : decode cX6_saved 43 = .ok (.invokestatic 222, 3) := by decide +kernel
theorem dX6_saved_46 : decode cX6_saved 46 = .ok (.iconst 0, 1) := by decide +kernel
theorem dX6_saved_47 : decode cX6_saved 47 = .ok (.istore 4, 2) := by decide +kernel
theorem dX6_saved_49 : decode cX6_saved 49 = .ok (.iload 4, 2) := by decide +kernel
theorem dX6_saved_51 : decode cX6_saved 51 = .ok (.bipush 50, 2) := by decide +kernel
theorem dX6_saved_53 : decode cX6_saved 53 = .ok (.if_icmp .gt 35, 3) := by decide +kernel
theorem dX6_saved_56 : decode cX6_saved 56 = .ok (.aload_n 0, 1) := by decide +kernel
theorem dX6_saved_57 : decode cX6_saved 57 = .ok (.getfield 62, 3) := by decide +kernel
theorem dX6_saved_60 : decode cX6_saved 60 = .ok (.iload_n 2, 1) := by decide +kernel
theorem dX6_saved_61 : decode cX6_saved 61 = .ok (.iaload, 1) := by decide +kernel
theorem dX6_saved_62 : decode cX6_saved 62 = .ok (.iload_n 3, 1) := by decide +kernel
theorem dX6_saved_63 : decode cX6_saved 63 = .ok (.if_icmp .lt 6, 3) := by decide +kernel
theorem dX6_saved_66 : decode cX6_saved 66 = .ok (.iload 4, 2) := by decide +kernel
theorem dX6_saved_68 : decode cX6_saved 68 = .ok (.ireturn, 1) := by decide +kernel
theorem dX6_saved_69 : decode cX6_saved 69 = .ok (.aload_n 0, 1) := by decide +kernel
theorem dX6_saved_70 : decode cX6_saved 70 = .ok (.getfield 19, 3) := by decide +kernel
theorem dX6_saved_73 : decode cX6_saved 73 = .ok (.iload_n 1, 1) := by decide +kernel
theorem dX6_saved_74 : decode cX6_saved 74 = .ok (.aload_n 0, 1) := by decide +kernel
theorem dX6_saved_75 : decode cX6_saved 75 = .ok (.getfield 62, 3) := by decide +kernel
theorem dX6_saved_78 : decode cX6_saved 78 = .ok (.iconst 0, 1) := by decide +kernel
theorem dX6_saved_79 : decode cX6_saved 79 = .ok (.invokevirtual 228, 3) := by decide +kernel
theorem dX6_saved_82 : decode cX6_saved 82 = .ok (.iinc 4 1, 3) := by decide +kernel
theorem dX6_saved_85 : decode cX6_saved 85 = .ok (.goto (-36), 3) := by decide +kernel
theorem dX6_saved_88 : decode cX6_saved 88 = .ok (.bipush (-4), 2) := by decide +kernel
theorem dX6_saved_90 : decode cX6_saved 90 = .ok (.ireturn, 1) := by decide +kernel
theorem dX6_lasts_0 : decode cX6_lasts 0 = .ok (.aload_n 0, 1) := by decide +kernel
theorem dX6_lasts_1 : decode cX6_lasts 1 = .ok (.iload_n 1, 1) := by decide +kernel
theorem dX6_lasts_2 : decode cX6_lasts 2 = .ok (.invokevirtual 104, 3) := by decide +kernel
theorem dX6_lasts_5 : decode cX6_lasts 5 = .ok (.ifCond .eq 42, 3) := by decide +kernel
theorem dX6_lasts_8 : decode cX6_lasts 8 = .ok (.aload_n 0, 1) := by decide +kernel
theorem dX6_lasts_9 : decode cX6_lasts 9 = .ok (.iload_n 2, 1) := by decide +kernel
theorem dX6_lasts_10 : decode cX6_lasts 10 = .ok (.invokevirtual 123, 3) := by decide +kernel
theorem dX6_lasts_13 : decode cX6_lasts 13 = .ok (.ifCond .eq 34, 3) := by decide +kernel
theorem dX6_lasts_16 : decode cX6_lasts 16 = .ok (.iload_n 3, 1) := by decide +kernel
theorem dX6_lasts_17 : decode cX6_lasts 17 = .ok (.iconst 0, 1) := by decide +kernel
theorem dX6_lasts_18 : decode cX6_lasts 18 = .ok (.bipush 10, 2) := by decide +kernel
theorem dX6_lasts_20 : decode cX6_lasts 20 = .ok (.invokestatic 93, 3) := by decide +kernel
theorem dX6_lasts_23 : decode cX6_lasts 23 = .ok (.ifCond .eq 24, 3) := by decide +kernel
theorem dX6_lasts_26 : decode cX6_lasts 26 = .ok (.iload 4, 2) := by decide +kernel
theorem dX6_lasts_28 : decode cX6_lasts 28 = .ok (.iconst 0, 1) := by decide +kernel
theorem dX6_lasts_29 : decode cX6_lasts 29 = .ok (.bipush 7, 2) := by decide +kernel
theorem dX6_lasts_31 : decode cX6_lasts 31 = .ok (.invokestatic 93, 3) := by decide +kernel
theorem dX6_lasts_34 : decode cX6_lasts 34 = .ok (.ifCond .eq 13, 3) := by decide +kernel
theorem dX6_lasts_37 : decode cX6_lasts 37 = .ok (.iload 5, 2) := by decide +kernel
theorem dX6_lasts_39 : decode cX6_lasts 39 = .ok (.iconst 0, 1) := by decide +kernel
theorem dX6_lasts_40 : decode cX6_lasts 40 = .ok (.iconst 1, 1) := by decide +kernel
theorem dX6_lasts_41 : decode cX6_lasts 41 = .ok (.invokestatic 93, 3) := by decide +kernel
theorem dX6_lasts_44 : decode cX6_lasts 44 = .ok (.ifCond .ne 5, 3) := by decide +kernel
theorem dX6_lasts_47 : decode cX6_lasts 47 = .ok (.iconst (-1), 1) := by decide +kernel
theorem dX6_lasts_48 : decode cX6_lasts 48 = .ok (.ireturn, 1) := by decide +kernel
theorem dX6_lasts_49 : decode cX6_lasts 49 = .ok (.aload_n 0, 1) := by decide +kernel
theorem dX6_lasts_50 : decode cX6_lasts 50 = .ok (.iload_n 1, 1) := by decide +kernel
theorem dX6_lasts_51 : decode cX6_lasts 51 = .ok (.iload_n 2, 1) := by decide +kernel
theorem dX6_lasts_52 : decode cX6_lasts 52 = .ok (.iload 4, 2) := by decide +kernel
theorem dX6_lasts_54 : decode cX6_lasts 54 = .ok (.invokevirtual 232, 3) := by decide +kernel
theorem dX6_lasts_57 : decode cX6_lasts 57 = .ok (.istore 6, 2) := by decide +kernel
theorem dX6_lasts_59 : decode cX6_lasts 59 = .ok (.lconst 0, 1) := by decide +kernel
theorem dX6_lasts_60 : decode cX6_lasts 60 = .ok (.lstore 7, 2) := by decide +kernel
theorem dX6_lasts_62 : decode cX6_lasts 62 = .ok (.iconst 0, 1) := by decide +kernel
theorem dX6_lasts_63 : decode cX6_lasts 63 = .ok (.istore 9, 2) := by decide +kernel
theorem dX6_lasts_65 : decode cX6_lasts 65 = .ok (.iload 9, 2) := by decide +kernel
theorem dX6_lasts_67 : decode cX6_lasts 67 = .ok (.iload 6, 2) := by decide +kernel
theorem dX6_lasts_69 : decode cX6_lasts 69 = .ok (.if_icmp .gt 41, 3) := by decide +kernel
theorem dX6_lasts_72 : decode cX6_lasts 72 = .ok (.lload 7, 2) := by decide +kernel
theorem dX6_lasts_74 : decode cX6_lasts 74 = .ok (.iload 4, 2) := by decide +kernel
theorem dX6_lasts_76 : decode cX6_lasts 76 = .ok (.iload 9, 2) := by decide +kernel
theorem dX6_lasts_78 : decode cX6_lasts 78 = .ok (.invokestatic 236, 3) := by decide +kernel
theorem dX6_lasts_81 : decode cX6_lasts 81 = .ok (.iload_n 3, 1) := by decide +kernel
theorem dX6_lasts_82 : decode cX6_lasts 82 = .ok (.iload 9, 2) := by decide +kernel
theorem dX6_lasts_84 : decode cX6_lasts 84 = .ok (.invokestatic 239, 3) := by decide +kernel
theorem dX6_lasts_87 : decode cX6_lasts 87 = .ok (.lmul, 1) := by decide +kernel
theorem dX6_lasts_88 : decode cX6_lasts 88 = .ok (.bipush 10, 2) := by decide +kernel
theorem dX6_lasts_90 : decode cX6_lasts 90 = .ok (.iload_n 3, 1) := by decide +kernel
theorem dX6_lasts_91 : decode cX6_lasts 91 = .ok (.isub, 1) := by decide +kernel
theorem dX6_lasts_92 : decode cX6_lasts 92 = .ok (.iload 4, 2) := by decide +kernel
theorem dX6_lasts_94 : decode cX6_lasts 94 = .ok (.iload 9, 2) := by decide +kernel
theorem dX6_lasts_96 : decode cX6_lasts 96 = .ok (.isub, 1) := by decide +kernel
theorem dX6_lasts_97 : decode cX6_lasts 97 = .ok (.invokestatic 239, 3) := by decide +kernel
theorem dX6_lasts_100 : decode cX6_lasts 100 = .ok (.lmul, 1) := by decide +kernel
theorem dX6_lasts_101 : decode cX6_lasts 101 = .ok (.ladd, 1) := by decide +kernel
theorem dX6_lasts_102 : decode cX6_lasts 102 = .ok (.lstore 7, 2) := by decide +kernel
theorem dX6_lasts_104 : decode cX6_lasts 104 = .ok (.iinc 9 1, 3) := by decide +kernel
theorem dX6_lasts_107 : decode cX6_lasts 107 = .ok (.goto (-42), 3) := by decide +kernel
theorem dX6_lasts_110 : decode cX6_lasts 110 = .ok (.bipush 10, 2) := by decide +kernel
theorem dX6_lasts_112 : decode cX6_lasts 112 = .ok (.iload 4, 2) := by decide +kernel
theorem dX6_lasts_114 : decode cX6_lasts 114 = .ok (.invokestatic 239, 3) := by decide +kernel
theorem dX6_lasts_117 : decode cX6_lasts 117 = .ok (.lstore 9, 2) := by decide +kernel
theorem dX6_lasts_119 : decode cX6_lasts 119 = .ok (.iload 5, 2) := by decide +kernel
theorem dX6_lasts_121 : decode cX6_lasts 121 = .ok (.ifCond .ne 8, 3) := by decide +kernel
theorem dX6_lasts_124 : decode cX6_lasts 124 = .ok (.lload 7, 2) := by decide +kernel
theorem dX6_lasts_126 : decode cX6_lasts 126 = .ok (.goto 5, 3) := by decide +kernel
theorem dX6_lasts_129 : decode cX6_lasts 129 = .ok (.lload 9, 2) := by decide +kernel
theorem dX6_lasts_131 : decode cX6_lasts 131 = .ok (.lload 7, 2) := by decide +kernel
theorem dX6_lasts_133 : decode cX6_lasts 133 = .ok (.lload 9, 2) := by decide +kernel
theorem dX6_lasts_135 : decode cX6_lasts 135 = .ok (.invokestatic 242, 3) := by decide +kernel
theorem dX6_lasts_138 : decode cX6_lasts 138 = .ok (.ldiv, 1) := by decide +kernel
theorem dX6_lasts_139 : decode cX6_lasts 139 = .ok (.l2i, 1) := by decide +kernel
theorem dX6_lasts_140 : decode cX6_lasts 140 = .ok (.ireturn, 1) := by decide +kernel
theorem dX6_year_0 : decode cX6_year 0 = .ok (.iload_n 1, 1) := by decide +kernel
theorem dX6_year_1 : decode cX6_year 1 = .ok (.iconst 0, 1) := by decide +kernel
theorem dX6_year_2 : decode cX6_year 2 = .ok (.sipush 9999, 3) := by decide +kernel
theorem dX6_year_5 : decode cX6_year 5 = .ok (.invokestatic 93, 3) := by decide +kernel
theorem dX6_year_8 : decode cX6_year 8 = .ok (.ifCond .eq 22, 3) := by decide +kernel
theorem dX6_year_11 : decode cX6_year 11 = .ok (.iload_n 2, 1) := by decide +kernel
theorem dX6_year_12 : decode cX6_year 12 = .ok (.iconst 1, 1) := by decide +kernel
theorem dX6_year_13 : decode cX6_year 13 = .ok (.bipush 60, 2) := by decide +kernel
theorem dX6_year_15 : decode cX6_year 15 = .ok (.invokestatic 93, 3) := by decide +kernel
theorem dX6_year_18 : decode cX6_year 18 = .ok (.ifCond .eq 12, 3) := by decide +kernel
theorem dX6_year_21 : decode cX6_year 21 = .ok (.iload_n 3, 1) := by decide +kernel
theorem dX6_year_22 : decode cX6_year 22 = .ok (.iconst 0, 1) := by decide +kernel
theorem dX6_year_23 : decode cX6_year 23 = .ok (.iconst 1, 1) := by decide +kernel
theorem dX6_year_24 : decode cX6_year 24 = .ok (.invokestatic 93, 3) := by decide +kernel
theorem dX6_year_27 : decode cX6_year 27 = .ok (.ifCond .ne 5, 3) := by decide +kernel
theorem dX6_year_30 : decode cX6_year 30 = .ok (.iconst (-1), 1) := by decide +kernel
theorem dX6_year_31 : decode cX6_year 31 = .ok (.ireturn, 1) := by decide +kernel
theorem dX6_year_32 : decode cX6_year 32 = .ok (.aload_n 0, 1) := by decide +kernel
theorem dX6_year_33 : decode cX6_year 33 = .ok (.getfield 33, 3) := by decide +kernel
theorem dX6_year_36 : decode cX6_year 36 = .ok (.aload_n 0, 1) := by decide +kernel
theorem dX6_year_37 : decode cX6_year 37 = .ok (.getfield 29, 3) := by decide +kernel
theorem dX6_year_40 : decode cX6_year 40 = .ok (.invokevirtual 168, 3) := by decide +kernel
theorem dX6_year_43 : decode cX6_year 43 = .ok (.iconst 0, 1) := by decide +kernel
theorem dX6_year_44 : decode cX6_year 44 = .ok (.istore 4, 2) := by decide +kernel
theorem dX6_year_46 : decode cX6_year 46 = .ok (.iconst 0, 1) := by decide +kernel
theorem dX6_year_47 : decode cX6_year 47 = .ok (.istore 5, 2) := by decide +kernel
theorem dX6_year_49 : decode cX6_year 49 = .ok (.iload 5, 2) := by decide +kernel
theorem dX6_year_51 : decode cX6_year 51 = .ok (.iload_n 2, 1) := by decide +kernel
theorem dX6_year_52 : decode cX6_year 52 = .ok (.if_icmp .ge 61, 3) := by decide +kernel
theorem dX6_year_55 : decode cX6_year 55 = .ok (.aload_n 0, 1) := by decide +kernel
theorem dX6_year_56 : decode cX6_year 56 = .ok (.getfield 33, 3) := by decide +kernel
theorem dX6_year_59 : decode cX6_year 59 = .ok (.aload_n 0, 1) := by decide +kernel
theorem dX6_year_60 : decode cX6_year 60 = .ok (.getfield 19, 3) := by decide +kernel
theorem dX6_year_63 : decode cX6_year 63 = .ok (.iload_n 1, 1) := by decide +kernel
theorem dX6_year_64 : decode cX6_year 64 = .ok (.iload 5, 2) := by decide +kernel
theorem dX6_year_66 : decode cX6_year 66 = .ok (.invokevirtual 246, 3) := by decide +kernel
theorem dX6_year_69 : decode cX6_year 69 = .ok (.aload_n 0, 1) := by decide +kernel
theorem dX6_year_70 : decode cX6_year 70 = .ok (.getfield 33, 3) := by decide +kernel
theorem dX6_year_73 : decode cX6_year 73 = .ok (.aload_n 0, 1) := by decide +kernel
theorem dX6_year_74 : decode cX6_year 74 = .ok (.getfield 19, 3) := by decide +kernel
theorem dX6_year_77 : decode cX6_year 77 = .ok (.invokevirtual 174, 3) := by decide +kernel
theorem dX6_year_80 : decode cX6_year 80 = .ok (.iload 4, 2) := by decide +kernel
theorem dX6_year_82 : decode cX6_year 82 = .ok (.aload_n 0, 1) := by decide +kernel
theorem dX6_year_83 : decode cX6_year 83 = .ok (.getfield 33, 3) := by decide +kernel
theorem dX6_year_86 : decode cX6_year 86 = .ok (.aload_n 0, 1) := by decide +kernel
theorem dX6_year_87 : decode cX6_year 87 = .ok (.getfield 19, 3) := by decide +kernel
theorem dX6_year_90 : decode cX6_year 90 = .ok (.invokevirtual 250, 3) := by decide +kernel
theorem dX6_year_93 : decode cX6_year 93 = .ok (.iadd, 1) := by decide +kernel
theorem dX6_year_94 : decode cX6_year 94 = .ok (.istore 4, 2) := by decide +kernel
theorem dX6_year_96 : decode cX6_year 96 = .ok (.aload_n 0, 1) := by decide +kernel
theorem dX6_year_97 : decode cX6_year 97 = .ok (.getfield 33, 3) := by decide +kernel
theorem dX6_year_100 : decode cX6_year 100 = .ok (.aload_n 0, 1) := by decide +kernel
theorem dX6_year_101 : decode cX6_year 101 = .ok (.getfield 19, 3) := by decide +kernel
theorem dX6_year_104 : decode cX6_year 104 = .ok (.invokevirtual 180, 3) := by decide +kernel
theorem dX6_year_107 : decode cX6_year 107 = .ok (.iinc 5 1, 3) := by decide +kernel
theorem dX6_year_110 : decode cX6_year 110 = .ok (.goto (-61), 3) := by decide +kernel
theorem dX6_year_113 : decode cX6_year 113 = .ok (.iload_n 3, 1) := by decide +kernel
theorem dX6_year_114 : decode cX6_year 114 = .ok (.ifCond .ne 8, 3) := by decide +kernel
theorem dX6_year_117 : decode cX6_year 117 = .ok (.iload 4, 2) := by decide +kernel
theorem dX6_year_119 : decode cX6_year 119 = .ok (.goto 26, 3) := by decide +kernel
theorem dX6_year_122 : decode cX6_year 122 = .ok (.aload_n 0, 1) := by decide +kernel
theorem dX6_year_123 : decode cX6_year 123 = .ok (.getfield 33, 3) := by decide +kernel
theorem dX6_year_126 : decode cX6_year 126 = .ok (.aload_n 0, 1) := by decide +kernel
theorem dX6_year_127 : decode cX6_year 127 = .ok (.getfield 19, 3) := by decide +kernel
theorem dX6_year_130 : decode cX6_year 130 = .ok (.invokevirtual 253, 3) := by decide +kernel
theorem dX6_year_133 : decode cX6_year 133 = .ok (.aload_n 0, 1) := by decide +kernel
theorem dX6_year_134 : decode cX6_year 134 = .ok (.getfield 29, 3) := by decide +kernel
theorem dX6_year_137 : decode cX6_year 137 = .ok (.aload_n 0, 1) := by decide +kernel
theorem dX6_year_138 : decode cX6_year 138 = .ok (.getfield 19, 3) := by decide +kernel
theorem dX6_year_141 : decode cX6_year 141 = .ok (.invokevirtual 253, 3) := by decide +kernel
theorem dX6_year_144 : decode cX6_year 144 = .ok (.isub, 1) := by decide +kernel
theorem dX6_year_145 : decode cX6_year 145 = .ok (.ireturn, 1) := by decide +kernel
theorem dX6_keep_0 : decode cX6_keep 0 = .ok (.aload_n 0, 1) := by decide +kernel
theorem dX6_keep_1 : decode cX6_keep 1 = .ok (.getfield 45, 3) := by decide +kernel
theorem dX6_keep_4 : decode cX6_keep 4 = .ok (.getfield 100, 3) := by decide +kernel
theorem dX6_keep_7 : decode cX6_keep 7 = .ok (.iconst 2, 1) := by decide +kernel
theorem dX6_keep_8 : decode cX6_keep 8 = .ok (.if_icmp .lt 6, 3) := by decide +kernel
theorem dX6_keep_11 : decode cX6_keep 11 = .ok (.bipush (-3), 2) := by decide +kernel
theorem dX6_keep_13 : decode cX6_keep 13 = .ok (.ireturn, 1) := by decide +kernel
theorem dX6_keep_14 : decode cX6_keep 14 = .ok (.aload_n 0, 1) := by decide +kernel
theorem dX6_keep_15 : decode cX6_keep 15 = .ok (.getfield 45, 3) := by decide +kernel
theorem dX6_keep_18 : decode cX6_keep 18 = .ok (.aload_n 0, 1) := by decide +kernel
theorem dX6_keep_19 : decode cX6_keep 19 = .ok (.getfield 29, 3) := by decide +kernel
theorem dX6_keep_22 : decode cX6_keep 22 = .ok (.invokevirtual 139, 3) := by decide +kernel
theorem dX6_keep_25 : decode cX6_keep 25 = .ok (.aload_n 0, 1) := by decide +kernel
theorem dX6_keep_26 : decode cX6_keep 26 = .ok (.getfield 45, 3) := by decide +kernel
theorem dX6_keep_29 : decode cX6_keep 29 = .ok (.getfield 100, 3) := by decide +kernel
theorem dX6_keep_32 : decode cX6_keep 32 = .ok (.ireturn, 1) := by decide +kernel
theorem dX6_back_0 : decode cX6_back 0 = .ok (.aload_n 0, 1) := by decide +kernel
theorem dX6_back_1 : decode cX6_back 1 = .ok (.getfield 45, 3) := by decide +kernel
theorem dX6_back_4 : decode cX6_back 4 = .ok (.aload_n 0, 1) := by decide +kernel
theorem dX6_back_5 : decode cX6_back 5 = .ok (.getfield 29, 3) := by decide +kernel
theorem dX6_back_8 : decode cX6_back 8 = .ok (.invokevirtual 164, 3) := by decide +kernel
theorem dX6_back_11 : decode cX6_back 11 = .ok (.ifCond .ne 6, 3) := by decide +kernel
theorem dX6_back_14 : decode cX6_back 14 = .ok (.bipush (-2), 2) := by decide +kernel
theorem dX6_back_16 : decode cX6_back 16 = .ok (.ireturn, 1) := by decide +kernel
theorem dX6_back_17 : decode cX6_back 17 = .ok (.aload_n 0, 1) := by decide +kernel
theorem dX6_back_18 : decode cX6_back 18 = .ok (.getfield 41, 3) := by decide +kernel
theorem dX6_back_21 : decode cX6_back 21 = .ok (.iconst 0, 1) := by decide +kernel
theorem dX6_back_22 : decode cX6_back 22 = .ok (.putfield 100, 3) := by decide +kernel
theorem dX6_back_25 : decode cX6_back 25 = .ok (.aload_n 0, 1) := by decide +kernel
theorem dX6_back_26 : decode cX6_back 26 = .ok (.getfield 45, 3) := by decide +kernel
theorem dX6_back_29 : decode cX6_back 29 = .ok (.getfield 100, 3) := by decide +kernel
theorem dX6_back_32 : decode cX6_back 32 = .ok (.ireturn, 1) := by decide +kernel
theorem dX6_count_0 : decode cX6_count 0 = .ok (.iload_n 1, 1) := by decide +kernel
theorem dX6_count_1 : decode cX6_count 1 = .ok (.tableswitch 143 0 9 #[55, 63, 71, 79, 87, 99, 111, 119, 127, 135], 55) := by decide +kernel
theorem dX6_count_56 : decode cX6_count 56 = .ok (.aload_n 0, 1) := by decide +kernel
theorem dX6_count_57 : decode cX6_count 57 = .ok (.getfield 19, 3) := by decide +kernel
theorem dX6_count_60 : decode cX6_count 60 = .ok (.getfield 97, 3) := by decide +kernel
theorem dX6_count_63 : decode cX6_count 63 = .ok (.ireturn, 1) := by decide +kernel
theorem dX6_count_64 : decode cX6_count 64 = .ok (.aload_n 0, 1) := by decide +kernel
theorem dX6_count_65 : decode cX6_count 65 = .ok (.getfield 19, 3) := by decide +kernel
theorem dX6_count_68 : decode cX6_count 68 = .ok (.getfield 183, 3) := by decide +kernel
theorem dX6_count_71 : decode cX6_count 71 = .ok (.ireturn, 1) := by decide +kernel
theorem dX6_count_72 : decode cX6_count 72 = .ok (.aload_n 0, 1) := by decide +kernel
theorem dX6_count_73 : decode cX6_count 73 = .ok (.getfield 29, 3) := by decide +kernel
theorem dX6_count_76 : decode cX6_count 76 = .ok (.invokevirtual 147, 3) := by decide +kernel
theorem dX6_count_79 : decode cX6_count 79 = .ok (.ireturn, 1) := by decide +kernel
theorem dX6_count_80 : decode cX6_count 80 = .ok (.aload_n 0, 1) := by decide +kernel
theorem dX6_count_81 : decode cX6_count 81 = .ok (.getfield 29, 3) := by decide +kernel
theorem dX6_count_84 : decode cX6_count 84 = .ok (.getfield 256, 3) := by decide +kernel
theorem dX6_count_87 : decode cX6_count 87 = .ok (.ireturn, 1) := by decide +kernel
theorem dX6_count_88 : decode cX6_count 88 = .ok (.aload_n 0, 1) := by decide +kernel
theorem dX6_count_89 : decode cX6_count 89 = .ok (.getfield 29, 3) := by decide +kernel
theorem dX6_count_92 : decode cX6_count 92 = .ok (.aload_n 0, 1) := by decide +kernel
theorem dX6_count_93 : decode cX6_count 93 = .ok (.getfield 19, 3) := by decide +kernel
theorem dX6_count_96 : decode cX6_count 96 = .ok (.invokevirtual 259, 3) := by decide +kernel
theorem dX6_count_99 : decode cX6_count 99 = .ok (.ireturn, 1) := by decide +kernel
theorem dX6_count_100 : decode cX6_count 100 = .ok (.aload_n 0, 1) := by decide +kernel
theorem dX6_count_101 : decode cX6_count 101 = .ok (.getfield 29, 3) := by decide +kernel
theorem dX6_count_104 : decode cX6_count 104 = .ok (.aload_n 0, 1) := by decide +kernel
theorem dX6_count_105 : decode cX6_count 105 = .ok (.getfield 19, 3) := by decide +kernel
theorem dX6_count_108 : decode cX6_count 108 = .ok (.invokevirtual 250, 3) := by decide +kernel
theorem dX6_count_111 : decode cX6_count 111 = .ok (.ireturn, 1) := by decide +kernel
theorem dX6_count_112 : decode cX6_count 112 = .ok (.aload_n 0, 1) := by decide +kernel
theorem dX6_count_113 : decode cX6_count 113 = .ok (.getfield 58, 3) := by decide +kernel
theorem dX6_count_116 : decode cX6_count 116 = .ok (.getfield 103, 3) := by decide +kernel
theorem dX6_count_119 : decode cX6_count 119 = .ok (.ireturn, 1) := by decide +kernel
theorem dX6_count_120 : decode cX6_count 120 = .ok (.aload_n 0, 1) := by decide +kernel
theorem dX6_count_121 : decode cX6_count 121 = .ok (.getfield 41, 3) := by decide +kernel
theorem dX6_count_124 : decode cX6_count 124 = .ok (.getfield 100, 3) := by decide +kernel
theorem dX6_count_127 : decode cX6_count 127 = .ok (.ireturn, 1) := by decide +kernel
theorem dX6_count_128 : decode cX6_count 128 = .ok (.aload_n 0, 1) := by decide +kernel
theorem dX6_count_129 : decode cX6_count 129 = .ok (.getfield 45, 3) := by decide +kernel
theorem dX6_count_132 : decode cX6_count 132 = .ok (.getfield 100, 3) := by decide +kernel
theorem dX6_count_135 : decode cX6_count 135 = .ok (.ireturn, 1) := by decide +kernel
theorem dX6_count_136 : decode cX6_count 136 = .ok (.aload_n 0, 1) := by decide +kernel
theorem dX6_count_137 : decode cX6_count 137 = .ok (.getfield 10, 3) := by decide +kernel
theorem dX6_count_140 : decode cX6_count 140 = .ok (.getfield 86, 3) := by decide +kernel
theorem dX6_count_143 : decode cX6_count 143 = .ok (.ireturn, 1) := by decide +kernel
theorem dX6_count_144 : decode cX6_count 144 = .ok (.iconst (-1), 1) := by decide +kernel
theorem dX6_count_145 : decode cX6_count 145 = .ok (.ireturn, 1) := by decide +kernel
theorem dX6_isPerson_0 : decode cX6_isPerson 0 = .ok (.iload_n 1, 1) := by decide +kernel
theorem dX6_isPerson_1 : decode cX6_isPerson 1 = .ok (.iconst 0, 1) := by decide +kernel
theorem dX6_isPerson_2 : decode cX6_isPerson 2 = .ok (.aload_n 0, 1) := by decide +kernel
theorem dX6_isPerson_3 : decode cX6_isPerson 3 = .ok (.getfield 19, 3) := by decide +kernel
theorem dX6_isPerson_6 : decode cX6_isPerson 6 = .ok (.getfield 97, 3) := by decide +kernel
theorem dX6_isPerson_9 : decode cX6_isPerson 9 = .ok (.iconst 1, 1) := by decide +kernel
theorem dX6_isPerson_10 : decode cX6_isPerson 10 = .ok (.isub, 1) := by decide +kernel
theorem dX6_isPerson_11 : decode cX6_isPerson 11 = .ok (.invokestatic 93, 3) := by decide +kernel
theorem dX6_isPerson_14 : decode cX6_isPerson 14 = .ok (.ireturn, 1) := by decide +kernel
theorem dX6_isDeed_0 : decode cX6_isDeed 0 = .ok (.iload_n 1, 1) := by decide +kernel
theorem dX6_isDeed_1 : decode cX6_isDeed 1 = .ok (.iconst 0, 1) := by decide +kernel
theorem dX6_isDeed_2 : decode cX6_isDeed 2 = .ok (.aload_n 0, 1) := by decide +kernel
theorem dX6_isDeed_3 : decode cX6_isDeed 3 = .ok (.getfield 19, 3) := by decide +kernel
theorem dX6_isDeed_6 : decode cX6_isDeed 6 = .ok (.getfield 183, 3) := by decide +kernel
theorem dX6_isDeed_9 : decode cX6_isDeed 9 = .ok (.iconst 1, 1) := by decide +kernel
theorem dX6_isDeed_10 : decode cX6_isDeed 10 = .ok (.isub, 1) := by decide +kernel
theorem dX6_isDeed_11 : decode cX6_isDeed 11 = .ok (.invokestatic 93, 3) := by decide +kernel
theorem dX6_isDeed_14 : decode cX6_isDeed 14 = .ok (.ireturn, 1) := by decide +kernel
theorem dX6_isSort_0 : decode cX6_isSort 0 = .ok (.iload_n 0, 1) := by decide +kernel
theorem dX6_isSort_1 : decode cX6_isSort 1 = .ok (.iconst 0, 1) := by decide +kernel
theorem dX6_isSort_2 : decode cX6_isSort 2 = .ok (.iconst 2, 1) := by decide +kernel
theorem dX6_isSort_3 : decode cX6_isSort 3 = .ok (.invokestatic 93, 3) := by decide +kernel
theorem dX6_isSort_6 : decode cX6_isSort 6 = .ok (.ireturn, 1) := by decide +kernel
theorem dX6_within_0 : decode cX6_within 0 = .ok (.iload_n 0, 1) := by decide +kernel
theorem dX6_within_1 : decode cX6_within 1 = .ok (.iload_n 1, 1) := by decide +kernel
theorem dX6_within_2 : decode cX6_within 2 = .ok (.if_icmp .lt 12, 3) := by decide +kernel
theorem dX6_within_5 : decode cX6_within 5 = .ok (.iload_n 0, 1) := by decide +kernel
theorem dX6_within_6 : decode cX6_within 6 = .ok (.iload_n 2, 1) := by decide +kernel
theorem dX6_within_7 : decode cX6_within 7 = .ok (.if_icmp .gt 7, 3) := by decide +kernel
theorem dX6_within_10 : decode cX6_within 10 = .ok (.iconst 1, 1) := by decide +kernel
theorem dX6_within_11 : decode cX6_within 11 = .ok (.goto 4, 3) := by decide +kernel
theorem dX6_within_14 : decode cX6_within 14 = .ok (.iconst 0, 1) := by decide +kernel
theorem dX6_within_15 : decode cX6_within 15 = .ok (.ireturn, 1) := by decide +kernel
theorem dX6_needToday_0 : decode cX6_needToday 0 = .ok (.aload_n 0, 1) := by decide +kernel
theorem dX6_needToday_1 : decode cX6_needToday 1 = .ok (.getfield 19, 3) := by decide +kernel
theorem dX6_needToday_4 : decode cX6_needToday 4 = .ok (.getfield 132, 3) := by decide +kernel
theorem dX6_needToday_7 : decode cX6_needToday 7 = .ok (.iload_n 1, 1) := by decide +kernel
theorem dX6_needToday_8 : decode cX6_needToday 8 = .ok (.bipush 7, 2) := by decide +kernel
theorem dX6_needToday_10 : decode cX6_needToday 10 = .ok (.imul, 1) := by decide +kernel
theorem dX6_needToday_11 : decode cX6_needToday 11 = .ok (.aload_n 0, 1) := by decide +kernel
theorem dX6_needToday_12 : decode cX6_needToday 12 = .ok (.getfield 29, 3) := by decide +kernel
theorem dX6_needToday_15 : decode cX6_needToday 15 = .ok (.invokevirtual 147, 3) := by decide +kernel
theorem dX6_needToday_18 : decode cX6_needToday 18 = .ok (.iadd, 1) := by decide +kernel
theorem dX6_needToday_19 : decode cX6_needToday 19 = .ok (.iaload, 1) := by decide +kernel
theorem dX6_needToday_20 : decode cX6_needToday 20 = .ok (.istore_n 3, 1) := by decide +kernel
theorem dX6_needToday_21 : decode cX6_needToday 21 = .ok (.iload_n 3, 1) := by decide +kernel
theorem dX6_needToday_22 : decode cX6_needToday 22 = .ok (.ifCond .ge 5, 3) := by decide +kernel
theorem dX6_needToday_25 : decode cX6_needToday 25 = .ok (.iconst 0, 1) := by decide +kernel
theorem dX6_needToday_26 : decode cX6_needToday 26 = .ok (.ireturn, 1) := by decide +kernel
theorem dX6_needToday_27 : decode cX6_needToday 27 = .ok (.aload_n 0, 1) := by decide +kernel
theorem dX6_needToday_28 : decode cX6_needToday 28 = .ok (.getfield 19, 3) := by decide +kernel
theorem dX6_needToday_31 : decode cX6_needToday 31 = .ok (.iload_n 1, 1) := by decide +kernel
theorem dX6_needToday_32 : decode cX6_needToday 32 = .ok (.iload_n 3, 1) := by decide +kernel
theorem dX6_needToday_33 : decode cX6_needToday 33 = .ok (.invokevirtual 262, 3) := by decide +kernel
theorem dX6_needToday_36 : decode cX6_needToday 36 = .ok (.aload_n 0, 1) := by decide +kernel
theorem dX6_needToday_37 : decode cX6_needToday 37 = .ok (.getfield 19, 3) := by decide +kernel
theorem dX6_needToday_40 : decode cX6_needToday 40 = .ok (.getfield 266, 3) := by decide +kernel
theorem dX6_needToday_43 : decode cX6_needToday 43 = .ok (.iload_n 2, 1) := by decide +kernel
theorem dX6_needToday_44 : decode cX6_needToday 44 = .ok (.iaload, 1) := by decide +kernel
theorem dX6_needToday_45 : decode cX6_needToday 45 = .ok (.ireturn, 1) := by decide +kernel
theorem dX6_sumOf_0 : decode cX6_sumOf 0 = .ok (.iconst 0, 1) := by decide +kernel
theorem dX6_sumOf_1 : decode cX6_sumOf 1 = .ok (.istore_n 3, 1) := by decide +kernel
theorem dX6_sumOf_2 : decode cX6_sumOf 2 = .ok (.iconst 0, 1) := by decide +kernel
theorem dX6_sumOf_3 : decode cX6_sumOf 3 = .ok (.istore 4, 2) := by decide +kernel
theorem dX6_sumOf_5 : decode cX6_sumOf 5 = .ok (.iload 4, 2) := by decide +kernel
theorem dX6_sumOf_7 : decode cX6_sumOf 7 = .ok (.aload_n 0, 1) := by decide +kernel
theorem dX6_sumOf_8 : decode cX6_sumOf 8 = .ok (.getfield 19, 3) := by decide +kernel
theorem dX6_sumOf_11 : decode cX6_sumOf 11 = .ok (.getfield 97, 3) := by decide +kernel
theorem dX6_sumOf_14 : decode cX6_sumOf 14 = .ok (.if_icmp .ge 33, 3) := by decide +kernel
theorem dX6_sumOf_17 : decode cX6_sumOf 17 = .ok (.iload_n 3, 1) := by decide +kernel
theorem dX6_sumOf_18 : decode cX6_sumOf 18 = .ok (.iload_n 1, 1) := by decide +kernel
theorem dX6_sumOf_19 : decode cX6_sumOf 19 = .ok (.iload 4, 2) := by decide +kernel
theorem dX6_sumOf_21 : decode cX6_sumOf 21 = .ok (.ishr, 1) := by decide +kernel
theorem dX6_sumOf_22 : decode cX6_sumOf 22 = .ok (.iconst 1, 1) := by decide +kernel
theorem dX6_sumOf_23 : decode cX6_sumOf 23 = .ok (.iand, 1) := by decide +kernel
theorem dX6_sumOf_24 : decode cX6_sumOf 24 = .ok (.aload_n 0, 1) := by decide +kernel
theorem dX6_sumOf_25 : decode cX6_sumOf 25 = .ok (.getfield 29, 3) := by decide +kernel
theorem dX6_sumOf_28 : decode cX6_sumOf 28 = .ok (.getfield 120, 3) := by decide +kernel
theorem dX6_sumOf_31 : decode cX6_sumOf 31 = .ok (.iload 4, 2) := by decide +kernel
theorem dX6_sumOf_33 : decode cX6_sumOf 33 = .ok (.iconst 3, 1) := by decide +kernel
theorem dX6_sumOf_34 : decode cX6_sumOf 34 = .ok (.imul, 1) := by decide +kernel
theorem dX6_sumOf_35 : decode cX6_sumOf 35 = .ok (.iload_n 2, 1) := by decide +kernel
theorem dX6_sumOf_36 : decode cX6_sumOf 36 = .ok (.iadd, 1) := by decide +kernel
theorem dX6_sumOf_37 : decode cX6_sumOf 37 = .ok (.iaload, 1) := by decide +kernel
theorem dX6_sumOf_38 : decode cX6_sumOf 38 = .ok (.imul, 1) := by decide +kernel
theorem dX6_sumOf_39 : decode cX6_sumOf 39 = .ok (.iadd, 1) := by decide +kernel
theorem dX6_sumOf_40 : decode cX6_sumOf 40 = .ok (.istore_n 3, 1) := by decide +kernel
theorem dX6_sumOf_41 : decode cX6_sumOf 41 = .ok (.iinc 4 1, 3) := by decide +kernel
theorem dX6_sumOf_44 : decode cX6_sumOf 44 = .ok (.goto (-39), 3) := by decide +kernel
theorem dX6_sumOf_47 : decode cX6_sumOf 47 = .ok (.iload_n 3, 1) := by decide +kernel
theorem dX6_sumOf_48 : decode cX6_sumOf 48 = .ok (.ireturn, 1) := by decide +kernel
theorem dX6_timesInARow_0 : decode cX6_timesInARow 0 = .ok (.aload_n 0, 1) := by decide +kernel
theorem dX6_timesInARow_1 : decode cX6_timesInARow 1 = .ok (.getfield 29, 3) := by decide +kernel
theorem dX6_timesInARow_4 : decode cX6_timesInARow 4 = .ok (.getfield 120, 3) := by decide +kernel
theorem dX6_timesInARow_7 : decode cX6_timesInARow 7 = .ok (.iload_n 1, 1) := by decide +kernel
theorem dX6_timesInARow_8 : decode cX6_timesInARow 8 = .ok (.iconst 3, 1) := by decide +kernel
theorem dX6_timesInARow_9 : decode cX6_timesInARow 9 = .ok (.imul, 1) := by decide +kernel
theorem dX6_timesInARow_10 : decode cX6_timesInARow 10 = .ok (.aload_n 0, 1) := by decide +kernel
theorem dX6_timesInARow_11 : decode cX6_timesInARow 11 = .ok (.getfield 62, 3) := by decide +kernel
theorem dX6_timesInARow_14 : decode cX6_timesInARow 14 = .ok (.iconst 0, 1) := by decide +kernel
theorem dX6_timesInARow_15 : decode cX6_timesInARow 15 = .ok (.iconst 3, 1) := by decide +kernel
theorem dX6_timesInARow_16 : decode cX6_timesInARow 16 = .ok (.invokestatic 222, 3) := by decide +kernel
theorem dX6_timesInARow_19 : decode cX6_timesInARow 19 = .ok (.iconst 0, 1) := by decide +kernel
theorem dX6_timesInARow_20 : decode cX6_timesInARow 20 = .ok (.istore 4, 2) := by decide +kernel
theorem dX6_timesInARow_22 : decode cX6_timesInARow 22 = .ok (.iload 4, 2) := by decide +kernel
theorem dX6_timesInARow_24 : decode cX6_timesInARow 24 = .ok (.iload_n 3, 1) := by decide +kernel
theorem dX6_timesInARow_25 : decode cX6_timesInARow 25 = .ok (.if_icmp .ge 38, 3) := by decide +kernel
theorem dX6_timesInARow_28 : decode cX6_timesInARow 28 = .ok (.aload_n 0, 1) := by decide +kernel
theorem dX6_timesInARow_29 : decode cX6_timesInARow 29 = .ok (.getfield 19, 3) := by decide +kernel
theorem dX6_timesInARow_32 : decode cX6_timesInARow 32 = .ok (.iload_n 1, 1) := by decide +kernel
theorem dX6_timesInARow_33 : decode cX6_timesInARow 33 = .ok (.iload_n 2, 1) := by decide +kernel
theorem dX6_timesInARow_34 : decode cX6_timesInARow 34 = .ok (.aload_n 0, 1) := by decide +kernel
theorem dX6_timesInARow_35 : decode cX6_timesInARow 35 = .ok (.getfield 62, 3) := by decide +kernel
theorem dX6_timesInARow_38 : decode cX6_timesInARow 38 = .ok (.iconst 0, 1) := by decide +kernel
theorem dX6_timesInARow_39 : decode cX6_timesInARow 39 = .ok (.invokevirtual 135, 3) := by decide +kernel
theorem dX6_timesInARow_42 : decode cX6_timesInARow 42 = .ok (.ifCond .eq 21, 3) := by decide +kernel
theorem dX6_timesInARow_45 : decode cX6_timesInARow 45 = .ok (.aload_n 0, 1) := by decide +kernel
theorem dX6_timesInARow_46 : decode cX6_timesInARow 46 = .ok (.getfield 19, 3) := by decide +kernel
theorem dX6_timesInARow_49 : decode cX6_timesInARow 49 = .ok (.aload_n 0, 1) := by decide +kernel
theorem dX6_timesInARow_50 : decode cX6_timesInARow 50 = .ok (.getfield 62, 3) := by decide +kernel
theorem dX6_timesInARow_53 : decode cX6_timesInARow 53 = .ok (.iconst 0, 1) := by decide +kernel
theorem dX6_timesInARow_54 : decode cX6_timesInARow 54 = .ok (.invokevirtual 269, 3) := by decide +kernel
theorem dX6_timesInARow_57 : decode cX6_timesInARow 57 = .ok (.iinc 4 1, 3) := by decide +kernel
theorem dX6_timesInARow_60 : decode cX6_timesInARow 60 = .ok (.goto (-38), 3) := by decide +kernel
theorem dX6_timesInARow_63 : decode cX6_timesInARow 63 = .ok (.iload 4, 2) := by decide +kernel
theorem dX6_timesInARow_65 : decode cX6_timesInARow 65 = .ok (.ireturn, 1) := by decide +kernel
theorem dX6_power_0 : decode cX6_power 0 = .ok (.lconst 1, 1) := by decide +kernel
theorem dX6_power_1 : decode cX6_power 1 = .ok (.lstore_n 2, 1) := by decide +kernel
theorem dX6_power_2 : decode cX6_power 2 = .ok (.iconst 0, 1) := by decide +kernel
theorem dX6_power_3 : decode cX6_power 3 = .ok (.istore 4, 2) := by decide +kernel
theorem dX6_power_5 : decode cX6_power 5 = .ok (.iload 4, 2) := by decide +kernel
theorem dX6_power_7 : decode cX6_power 7 = .ok (.iload_n 1, 1) := by decide +kernel
theorem dX6_power_8 : decode cX6_power 8 = .ok (.if_icmp .ge 14, 3) := by decide +kernel
theorem dX6_power_11 : decode cX6_power 11 = .ok (.lload_n 2, 1) := by decide +kernel
theorem dX6_power_12 : decode cX6_power 12 = .ok (.iload_n 0, 1) := by decide +kernel
theorem dX6_power_13 : decode cX6_power 13 = .ok (.i2l, 1) := by decide +kernel
theorem dX6_power_14 : decode cX6_power 14 = .ok (.lmul, 1) := by decide +kernel
theorem dX6_power_15 : decode cX6_power 15 = .ok (.lstore_n 2, 1) := by decide +kernel
theorem dX6_power_16 : decode cX6_power 16 = .ok (.iinc 4 1, 3) := by decide +kernel
theorem dX6_power_19 : decode cX6_power 19 = .ok (.goto (-14), 3) := by decide +kernel
theorem dX6_power_22 : decode cX6_power 22 = .ok (.lload_n 2, 1) := by decide +kernel
theorem dX6_power_23 : decode cX6_power 23 = .ok (.lreturn, 1) := by decide +kernel
theorem dX6_choose_0 : decode cX6_choose 0 = .ok (.lconst 1, 1) := by decide +kernel
theorem dX6_choose_1 : decode cX6_choose 1 = .ok (.lstore_n 2, 1) := by decide +kernel
theorem dX6_choose_2 : decode cX6_choose 2 = .ok (.iconst 1, 1) := by decide +kernel
theorem dX6_choose_3 : decode cX6_choose 3 = .ok (.istore 4, 2) := by decide +kernel
theorem dX6_choose_5 : decode cX6_choose 5 = .ok (.iload 4, 2) := by decide +kernel
theorem dX6_choose_7 : decode cX6_choose 7 = .ok (.iload_n 1, 1) := by decide +kernel
theorem dX6_choose_8 : decode cX6_choose 8 = .ok (.if_icmp .gt 23, 3) := by decide +kernel
theorem dX6_choose_11 : decode cX6_choose 11 = .ok (.lload_n 2, 1) := by decide +kernel
theorem dX6_choose_12 : decode cX6_choose 12 = .ok (.iload_n 0, 1) := by decide +kernel
theorem dX6_choose_13 : decode cX6_choose 13 = .ok (.iload_n 1, 1) := by decide +kernel
theorem dX6_choose_14 : decode cX6_choose 14 = .ok (.isub, 1) := by decide +kernel
theorem dX6_choose_15 : decode cX6_choose 15 = .ok (.iload 4, 2) := by decide +kernel
theorem dX6_choose_17 : decode cX6_choose 17 = .ok (.iadd, 1) := by decide +kernel
theorem dX6_choose_18 : decode cX6_choose 18 = .ok (.i2l, 1) := by decide +kernel
theorem dX6_choose_19 : decode cX6_choose 19 = .ok (.lmul, 1) := by decide +kernel
theorem dX6_choose_20 : decode cX6_choose 20 = .ok (.iload 4, 2) := by decide +kernel
theorem dX6_choose_22 : decode cX6_choose 22 = .ok (.i2l, 1) := by decide +kernel
theorem dX6_choose_23 : decode cX6_choose 23 = .ok (.ldiv, 1) := by decide +kernel
theorem dX6_choose_24 : decode cX6_choose 24 = .ok (.lstore_n 2, 1) := by decide +kernel
theorem dX6_choose_25 : decode cX6_choose 25 = .ok (.iinc 4 1, 3) := by decide +kernel
theorem dX6_choose_28 : decode cX6_choose 28 = .ok (.goto (-23), 3) := by decide +kernel
theorem dX6_choose_31 : decode cX6_choose 31 = .ok (.lload_n 2, 1) := by decide +kernel
theorem dX6_choose_32 : decode cX6_choose 32 = .ok (.lreturn, 1) := by decide +kernel
theorem dX6_commonDivisor_0 : decode cX6_commonDivisor 0 = .ok (.lload_n 0, 1) := by decide +kernel
theorem dX6_commonDivisor_1 : decode cX6_commonDivisor 1 = .ok (.lstore 4, 2) := by decide +kernel
theorem dX6_commonDivisor_3 : decode cX6_commonDivisor 3 = .ok (.lload_n 2, 1) := by decide +kernel
theorem dX6_commonDivisor_4 : decode cX6_commonDivisor 4 = .ok (.lstore 6, 2) := by decide +kernel
theorem dX6_commonDivisor_6 : decode cX6_commonDivisor 6 = .ok (.iconst 0, 1) := by decide +kernel
theorem dX6_commonDivisor_7 : decode cX6_commonDivisor 7 = .ok (.istore 8, 2) := by decide +kernel
theorem dX6_commonDivisor_9 : decode cX6_commonDivisor 9 = .ok (.iload 8, 2) := by decide +kernel
theorem dX6_commonDivisor_11 : decode cX6_commonDivisor 11 = .ok (.bipush 100, 2) := by decide +kernel
theorem dX6_commonDivisor_13 : decode cX6_commonDivisor 13 = .ok (.if_icmp .ge 31, 3) := by decide +kernel
theorem dX6_commonDivisor_16 : decode cX6_commonDivisor 16 = .ok (.lload 6, 2) := by decide +kernel
theorem dX6_commonDivisor_18 : decode cX6_commonDivisor 18 = .ok (.lconst 0, 1) := by decide +kernel
theorem dX6_commonDivisor_19 : decode cX6_commonDivisor 19 = .ok (.lcmp, 1) := by decide +kernel
theorem dX6_commonDivisor_20 : decode cX6_commonDivisor 20 = .ok (.ifCond .eq 24, 3) := by decide +kernel
theorem dX6_commonDivisor_23 : decode cX6_commonDivisor 23 = .ok (.lload 4, 2) := by decide +kernel
theorem dX6_commonDivisor_25 : decode cX6_commonDivisor 25 = .ok (.lload 6, 2) := by decide +kernel
theorem dX6_commonDivisor_27 : decode cX6_commonDivisor 27 = .ok (.lrem, 1) := by decide +kernel
theorem dX6_commonDivisor_28 : decode cX6_commonDivisor 28 = .ok (.lstore 9, 2) := by decide +kernel
theorem dX6_commonDivisor_30 : decode cX6_commonDivisor 30 = .ok (.lload 6, 2) := by decide +kernel
theorem dX6_commonDivisor_32 : decode cX6_commonDivisor 32 = .ok (.lstore 4, 2) := by decide +kernel
theorem dX6_commonDivisor_34 : decode cX6_commonDivisor 34 = .ok (.lload 9, 2) := by decide +kernel
theorem dX6_commonDivisor_36 : decode cX6_commonDivisor 36 = .ok (.lstore 6, 2) := by decide +kernel
theorem dX6_commonDivisor_38 : decode cX6_commonDivisor 38 = .ok (.iinc 8 1, 3) := by decide +kernel
theorem dX6_commonDivisor_41 : decode cX6_commonDivisor 41 = .ok (.goto (-32), 3) := by decide +kernel
theorem dX6_commonDivisor_44 : decode cX6_commonDivisor 44 = .ok (.lconst 1, 1) := by decide +kernel
theorem dX6_commonDivisor_45 : decode cX6_commonDivisor 45 = .ok (.lload 4, 2) := by decide +kernel
theorem dX6_commonDivisor_47 : decode cX6_commonDivisor 47 = .ok (.invokestatic 273, 3) := by decide +kernel
theorem dX6_commonDivisor_50 : decode cX6_commonDivisor 50 = .ok (.lreturn, 1) := by decide +kernel
theorem dX6_hueOf_0 : decode cX6_hueOf 0 = .ok (.iconst 0, 1) := by decide +kernel
theorem dX6_hueOf_1 : decode cX6_hueOf 1 = .ok (.istore_n 2, 1) := by decide +kernel
theorem dX6_hueOf_2 : decode cX6_hueOf 2 = .ok (.iconst 0, 1) := by decide +kernel
theorem dX6_hueOf_3 : decode cX6_hueOf 3 = .ok (.istore_n 3, 1) := by decide +kernel
theorem dX6_hueOf_4 : decode cX6_hueOf 4 = .ok (.iload_n 3, 1) := by decide +kernel
theorem dX6_hueOf_5 : decode cX6_hueOf 5 = .ok (.iconst 3, 1) := by decide +kernel
theorem dX6_hueOf_6 : decode cX6_hueOf 6 = .ok (.if_icmp .ge 23, 3) := by decide +kernel
theorem dX6_hueOf_9 : decode cX6_hueOf 9 = .ok (.aload_n 0, 1) := by decide +kernel
theorem dX6_hueOf_10 : decode cX6_hueOf 10 = .ok (.iload_n 1, 1) := by decide +kernel
theorem dX6_hueOf_11 : decode cX6_hueOf 11 = .ok (.iload_n 3, 1) := by decide +kernel
theorem dX6_hueOf_12 : decode cX6_hueOf 12 = .ok (.iadd, 1) := by decide +kernel
theorem dX6_hueOf_13 : decode cX6_hueOf 13 = .ok (.iaload, 1) := by decide +kernel
theorem dX6_hueOf_14 : decode cX6_hueOf 14 = .ok (.ifCond .le 9, 3) := by decide +kernel
theorem dX6_hueOf_17 : decode cX6_hueOf 17 = .ok (.iload_n 2, 1) := by decide +kernel
theorem dX6_hueOf_18 : decode cX6_hueOf 18 = .ok (.iconst 1, 1) := by decide +kernel
theorem dX6_hueOf_19 : decode cX6_hueOf 19 = .ok (.iload_n 3, 1) := by decide +kernel
theorem dX6_hueOf_20 : decode cX6_hueOf 20 = .ok (.ishl, 1) := by decide +kernel
theorem dX6_hueOf_21 : decode cX6_hueOf 21 = .ok (.ior, 1) := by decide +kernel
theorem dX6_hueOf_22 : decode cX6_hueOf 22 = .ok (.istore_n 2, 1) := by decide +kernel
theorem dX6_hueOf_23 : decode cX6_hueOf 23 = .ok (.iinc 3 1, 3) := by decide +kernel
theorem dX6_hueOf_26 : decode cX6_hueOf 26 = .ok (.goto (-22), 3) := by decide +kernel
theorem dX6_hueOf_29 : decode cX6_hueOf 29 = .ok (.iload_n 2, 1) := by decide +kernel
theorem dX6_hueOf_30 : decode cX6_hueOf 30 = .ok (.ireturn, 1) := by decide +kernel
