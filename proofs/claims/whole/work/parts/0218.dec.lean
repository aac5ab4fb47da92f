theorem dX7_lending_113 : decode cX7_lending 113 = .ok (.iload 8, 2) := by decide +kernel
theorem dX7_lending_115 : decode cX7_lending 115 = .ok (.isub, 1) := by decide +kernel
theorem dX7_lending_116 : decode cX7_lending 116 = .ok (.goto 4, 3) := by decide +kernel
theorem dX7_lending_119 : decode cX7_lending 119 = .ok (.iconst 0, 1) := by decide +kernel
theorem dX7_lending_120 : decode cX7_lending 120 = .ok (.iadd, 1) := by decide +kernel
theorem dX7_lending_121 : decode cX7_lending 121 = .ok (.istore_n 1, 1) := by decide +kernel
theorem dX7_lending_122 : decode cX7_lending 122 = .ok (.iinc 5 1, 3) := by decide +kernel
theorem dX7_lending_125 : decode cX7_lending 125 = .ok (.goto (-108), 3) := by decide +kernel
theorem dX7_lending_128 : decode cX7_lending 128 = .ok (.iload 4, 2) := by decide +kernel
theorem dX7_lending_130 : decode cX7_lending 130 = .ok (.iload_n 3, 1) := by decide +kernel
theorem dX7_lending_131 : decode cX7_lending 131 = .ok (.if_icmp .le 6, 3) := by decide +kernel
theorem dX7_lending_134 : decode cX7_lending 134 = .ok (.bipush (-4), 2) := by decide +kernel
theorem dX7_lending_136 : decode cX7_lending 136 = .ok (.ireturn, 1) := by decide +kernel
theorem dX7_lending_137 : decode cX7_lending 137 = .ok (.iinc 2 1, 3) := by decide +kernel
theorem dX7_lending_140 : decode cX7_lending 140 = .ok (.goto (-136), 3) := by decide +kernel
theorem dX7_lending_143 : decode cX7_lending 143 = .ok (.iload_n 1, 1) := by decide +kernel
theorem dX7_lending_144 : decode cX7_lending 144 = .ok (.ireturn, 1) := by decide +kernel
theorem dX7_together_0 : decode cX7_together 0 = .ok (.iconst 0, 1) := by decide +kernel
theorem dX7_together_1 : decode cX7_together 1 = .ok (.istore_n 3, 1) := by decide +kernel
theorem dX7_together_2 : decode cX7_together 2 = .ok (.iconst 0, 1) := by decide +kernel
theorem dX7_together_3 : decode cX7_together 3 = .ok (.istore 4, 2) := by decide +kernel
theorem dX7_together_5 : decode cX7_together 5 = .ok (.iload 4, 2) := by decide +kernel
theorem dX7_together_7 : decode cX7_together 7 = .ok (.aload_n 0, 1) := by decide +kernel
theorem dX7_together_8 : decode cX7_together 8 = .ok (.getfield 13, 3) := by decide +kernel
theorem dX7_together_11 : decode cX7_together 11 = .ok (.iconst 0, 1) := by decide +kernel
theorem dX7_together_12 : decode cX7_together 12 = .ok (.iaload, 1) := by decide +kernel
theorem dX7_together_13 : decode cX7_together 13 = .ok (.if_icmp .ge 32, 3) := by decide +kernel
theorem dX7_together_16 : decode cX7_together 16 = .ok (.iload_n 3, 1) := by decide +kernel
theorem dX7_together_17 : decode cX7_together 17 = .ok (.iload_n 1, 1) := by decide +kernel
theorem dX7_together_18 : decode cX7_together 18 = .ok (.iload 4, 2) := by decide +kernel
theorem dX7_together_20 : decode cX7_together 20 = .ok (.ishr, 1) := by decide +kernel
theorem dX7_together_21 : decode cX7_together 21 = .ok (.iconst 1, 1) := by decide +kernel
theorem dX7_together_22 : decode cX7_together 22 = .ok (.iand, 1) := by decide +kernel
theorem dX7_together_23 : decode cX7_together 23 = .ok (.aload_n 0, 1) := by decide +kernel
theorem dX7_together_24 : decode cX7_together 24 = .ok (.getfield 38, 3) := by decide +kernel
theorem dX7_together_27 : decode cX7_together 27 = .ok (.iconst 1, 1) := by decide +kernel
theorem dX7_together_28 : decode cX7_together 28 = .ok (.iconst 3, 1) := by decide +kernel
theorem dX7_together_29 : decode cX7_together 29 = .ok (.iload 4, 2) := by decide +kernel
theorem dX7_together_31 : decode cX7_together 31 = .ok (.imul, 1) := by decide +kernel
theorem dX7_together_32 : decode cX7_together 32 = .ok (.iadd, 1) := by decide +kernel
theorem dX7_together_33 : decode cX7_together 33 = .ok (.iload_n 2, 1) := by decide +kernel
theorem dX7_together_34 : decode cX7_together 34 = .ok (.iadd, 1) := by decide +kernel
theorem dX7_together_35 : decode cX7_together 35 = .ok (.iaload, 1) := by decide +kernel
theorem dX7_together_36 : decode cX7_together 36 = .ok (.imul, 1) := by decide +kernel
theorem dX7_together_37 : decode cX7_together 37 = .ok (.iadd, 1) := by decide +kernel
theorem dX7_together_38 : decode cX7_together 38 = .ok (.istore_n 3, 1) := by decide +kernel
theorem dX7_together_39 : decode cX7_together 39 = .ok (.iinc 4 1, 3) := by decide +kernel
theorem dX7_together_42 : decode cX7_together 42 = .ok (.goto (-37), 3) := by decide +kernel
theorem dX7_together_45 : decode cX7_together 45 = .ok (.iload_n 3, 1) := by decide +kernel
theorem dX7_together_46 : decode cX7_together 46 = .ok (.ireturn, 1) := by decide +kernel
theorem dX7_manyOf_0 : decode cX7_manyOf 0 = .ok (.iconst 0, 1) := by decide +kernel
theorem dX7_manyOf_1 : decode cX7_manyOf 1 = .ok (.istore_n 1, 1) := by decide +kernel
theorem dX7_manyOf_2 : decode cX7_manyOf 2 = .ok (.iconst 0, 1) := by decide +kernel
theorem dX7_manyOf_3 : decode cX7_manyOf 3 = .ok (.istore_n 2, 1) := by decide +kernel
theorem dX7_manyOf_4 : decode cX7_manyOf 4 = .ok (.iload_n 2, 1) := by decide +kernel
theorem dX7_manyOf_5 : decode cX7_manyOf 5 = .ok (.bipush 8, 2) := by decide +kernel
theorem dX7_manyOf_7 : decode cX7_manyOf 7 = .ok (.if_icmp .ge 17, 3) := by decide +kernel
theorem dX7_manyOf_10 : decode cX7_manyOf 10 = .ok (.iload_n 1, 1) := by decide +kernel
theorem dX7_manyOf_11 : decode cX7_manyOf 11 = .ok (.iload_n 0, 1) := by decide +kernel
theorem dX7_manyOf_12 : decode cX7_manyOf 12 = .ok (.iload_n 2, 1) := by decide +kernel
theorem dX7_manyOf_13 : decode cX7_manyOf 13 = .ok (.ishr, 1) := by decide +kernel
theorem dX7_manyOf_14 : decode cX7_manyOf 14 = .ok (.iconst 1, 1) := by decide +kernel
theorem dX7_manyOf_15 : decode cX7_manyOf 15 = .ok (.iand, 1) := by decide +kernel
theorem dX7_manyOf_16 : decode cX7_manyOf 16 = .ok (.iadd, 1) := by decide +kernel
theorem dX7_manyOf_17 : decode cX7_manyOf 17 = .ok (.istore_n 1, 1) := by decide +kernel
theorem dX7_manyOf_18 : decode cX7_manyOf 18 = .ok (.iinc 2 1, 3) := by decide +kernel
theorem dX7_manyOf_21 : decode cX7_manyOf 21 = .ok (.goto (-17), 3) := by decide +kernel
theorem dX7_manyOf_24 : decode cX7_manyOf 24 = .ok (.iload_n 1, 1) := by decide +kernel
theorem dX7_manyOf_25 : decode cX7_manyOf 25 = .ok (.ireturn, 1) := by decide +kernel
theorem dX7_heap_0 : decode cX7_heap 0 = .ok (.iload_n 1, 1) := by decide +kernel
theorem dX7_heap_1 : decode cX7_heap 1 = .ok (.iconst 0, 1) := by decide +kernel
theorem dX7_heap_2 : decode cX7_heap 2 = .ok (.bipush 99, 2) := by decide +kernel
theorem dX7_heap_4 : decode cX7_heap 4 = .ok (.invokestatic 66, 3) := by decide +kernel
theorem dX7_heap_7 : decode cX7_heap 7 = .ok (.ifCond .eq 23, 3) := by decide +kernel
theorem dX7_heap_10 : decode cX7_heap 10 = .ok (.iload_n 2, 1) := by decide +kernel
theorem dX7_heap_11 : decode cX7_heap 11 = .ok (.iconst 0, 1) := by decide +kernel
theorem dX7_heap_12 : decode cX7_heap 12 = .ok (.bipush 99, 2) := by decide +kernel
theorem dX7_heap_14 : decode cX7_heap 14 = .ok (.invokestatic 66, 3) := by decide +kernel
theorem dX7_heap_17 : decode cX7_heap 17 = .ok (.ifCond .eq 13, 3) := by decide +kernel
theorem dX7_heap_20 : decode cX7_heap 20 = .ok (.iload_n 3, 1) := by decide +kernel
theorem dX7_heap_21 : decode cX7_heap 21 = .ok (.iconst 0, 1) := by decide +kernel
theorem dX7_heap_22 : decode cX7_heap 22 = .ok (.bipush 99, 2) := by decide +kernel
theorem dX7_heap_24 : decode cX7_heap 24 = .ok (.invokestatic 66, 3) := by decide +kernel
theorem dX7_heap_27 : decode cX7_heap 27 = .ok (.ifCond .ne 5, 3) := by decide +kernel
theorem dX7_heap_30 : decode cX7_heap 30 = .ok (.iconst (-1), 1) := by decide +kernel
theorem dX7_heap_31 : decode cX7_heap 31 = .ok (.ireturn, 1) := by decide +kernel
theorem dX7_heap_32 : decode cX7_heap 32 = .ok (.bipush (-4), 2) := by decide +kernel
theorem dX7_heap_34 : decode cX7_heap 34 = .ok (.istore 4, 2) := by decide +kernel
theorem dX7_heap_36 : decode cX7_heap 36 = .ok (.iconst 0, 1) := by decide +kernel
theorem dX7_heap_37 : decode cX7_heap 37 = .ok (.istore 5, 2) := by decide +kernel
theorem dX7_heap_39 : decode cX7_heap 39 = .ok (.iload 5, 2) := by decide +kernel
theorem dX7_heap_41 : decode cX7_heap 41 = .ok (.iconst 1, 1) := by decide +kernel
theorem dX7_heap_42 : decode cX7_heap 42 = .ok (.aload_n 0, 1) := by decide +kernel
theorem dX7_heap_43 : decode cX7_heap 43 = .ok (.getfield 13, 3) := by decide +kernel
theorem dX7_heap_46 : decode cX7_heap 46 = .ok (.iconst 0, 1) := by decide +kernel
theorem dX7_heap_47 : decode cX7_heap 47 = .ok (.iaload, 1) := by decide +kernel
theorem dX7_heap_48 : decode cX7_heap 48 = .ok (.ishl, 1) := by decide +kernel
theorem dX7_heap_49 : decode cX7_heap 49 = .ok (.if_icmp .ge 83, 3) := by decide +kernel
theorem dX7_heap_52 : decode cX7_heap 52 = .ok (.aload_n 0, 1) := by decide +kernel
theorem dX7_heap_53 : decode cX7_heap 53 = .ok (.iload 5, 2) := by decide +kernel
theorem dX7_heap_55 : decode cX7_heap 55 = .ok (.iconst 0, 1) := by decide +kernel
theorem dX7_heap_56 : decode cX7_heap 56 = .ok (.invokevirtual 160, 3) := by decide +kernel
theorem dX7_heap_59 : decode cX7_heap 59 = .ok (.iload_n 1, 1) := by decide +kernel
theorem dX7_heap_60 : decode cX7_heap 60 = .ok (.if_icmp .lt 29, 3) := by decide +kernel
theorem dX7_heap_63 : decode cX7_heap 63 = .ok (.aload_n 0, 1) := by decide +kernel
theorem dX7_heap_64 : decode cX7_heap 64 = .ok (.iload 5, 2) := by decide +kernel
theorem dX7_heap_66 : decode cX7_heap 66 = .ok (.iconst 1, 1) := by decide +kernel
theorem dX7_heap_67 : decode cX7_heap 67 = .ok (.invokevirtual 160, 3) := by decide +kernel
theorem dX7_heap_70 : decode cX7_heap 70 = .ok (.iload_n 2, 1) := by decide +kernel
theorem dX7_heap_71 : decode cX7_heap 71 = .ok (.if_icmp .lt 18, 3) := by decide +kernel
theorem dX7_heap_74 : decode cX7_heap 74 = .ok (.aload_n 0, 1) := by decide +kernel
theorem dX7_heap_75 : decode cX7_heap 75 = .ok (.iload 5, 2) := by decide +kernel
theorem dX7_heap_77 : decode cX7_heap 77 = .ok (.iconst 2, 1) := by decide +kernel
theorem dX7_heap_78 : decode cX7_heap 78 = .ok (.invokevirtual 160, 3) := by decide +kernel
theorem dX7_heap_81 : decode cX7_heap 81 = .ok (.iload_n 3, 1) := by decide +kernel
theorem dX7_heap_82 : decode cX7_heap 82 = .ok (.if_icmp .lt 7, 3) := by decide +kernel
theorem dX7_heap_85 : decode cX7_heap 85 = .ok (.iconst 1, 1) := by decide +kernel
theorem dX7_heap_86 : decode cX7_heap 86 = .ok (.goto 4, 3) := by decide +kernel
theorem dX7_heap_89 : decode cX7_heap 89 = .ok (.iconst 0, 1) := by decide +kernel
theorem dX7_heap_90 : decode cX7_heap 90 = .ok (.istore 6, 2) := by decide +kernel
theorem dX7_heap_92 : decode cX7_heap 92 = .ok (.iload 6, 2) := by decide +kernel
theorem dX7_heap_94 : decode cX7_heap 94 = .ok (.ifCond .eq 28, 3) := by decide +kernel
theorem dX7_heap_97 : decode cX7_heap 97 = .ok (.iload 4, 2) := by decide +kernel
theorem dX7_heap_99 : decode cX7_heap 99 = .ok (.bipush (-4), 2) := by decide +kernel
theorem dX7_heap_101 : decode cX7_heap 101 = .ok (.if_icmp .eq 16, 3) := by decide +kernel
theorem dX7_heap_104 : decode cX7_heap 104 = .ok (.iload 5, 2) := by decide +kernel
theorem dX7_heap_106 : decode cX7_heap 106 = .ok (.invokestatic 163, 3) := by decide +kernel
theorem dX7_heap_109 : decode cX7_heap 109 = .ok (.iload 4, 2) := by decide +kernel
theorem dX7_heap_111 : decode cX7_heap 111 = .ok (.invokestatic 163, 3) := by decide +kernel
theorem dX7_heap_114 : decode cX7_heap 114 = .ok (.if_icmp .ge 8, 3) := by decide +kernel
theorem dX7_heap_117 : decode cX7_heap 117 = .ok (.iload 5, 2) := by decide +kernel
theorem dX7_heap_119 : decode cX7_heap 119 = .ok (.goto 5, 3) := by decide +kernel
theorem dX7_heap_122 : decode cX7_heap 122 = .ok (.iload 4, 2) := by decide +kernel
theorem dX7_heap_124 : decode cX7_heap 124 = .ok (.istore 4, 2) := by decide +kernel
theorem dX7_heap_126 : decode cX7_heap 126 = .ok (.iinc 5 1, 3) := by decide +kernel
theorem dX7_heap_129 : decode cX7_heap 129 = .ok (.goto (-90), 3) := by decide +kernel
theorem dX7_heap_132 : decode cX7_heap 132 = .ok (.iload 4, 2) := by decide +kernel
theorem dX7_heap_134 : decode cX7_heap 134 = .ok (.ireturn, 1) := by decide +kernel
theorem dX7_seen_0 : decode cX7_seen 0 = .ok (.aload_n 0, 1) := by decide +kernel
theorem dX7_seen_1 : decode cX7_seen 1 = .ok (.iload_n 1, 1) := by decide +kernel
theorem dX7_seen_2 : decode cX7_seen 2 = .ok (.invokevirtual 104, 3) := by decide +kernel
theorem dX7_seen_5 : decode cX7_seen 5 = .ok (.ifCond .eq 22, 3) := by decide +kernel
theorem dX7_seen_8 : decode cX7_seen 8 = .ok (.iload_n 2, 1) := by decide +kernel
theorem dX7_seen_9 : decode cX7_seen 9 = .ok (.iconst 1, 1) := by decide +kernel
theorem dX7_seen_10 : decode cX7_seen 10 = .ok (.iconst 4, 1) := by decide +kernel
theorem dX7_seen_11 : decode cX7_seen 11 = .ok (.invokestatic 66, 3) := by decide +kernel
theorem dX7_seen_14 : decode cX7_seen 14 = .ok (.ifCond .eq 13, 3) := by decide +kernel
theorem dX7_seen_17 : decode cX7_seen 17 = .ok (.iload_n 3, 1) := by decide +kernel
theorem dX7_seen_18 : decode cX7_seen 18 = .ok (.iconst 0, 1) := by decide +kernel
theorem dX7_seen_19 : decode cX7_seen 19 = .ok (.bipush 7, 2) := by decide +kernel
theorem dX7_seen_21 : decode cX7_seen 21 = .ok (.invokestatic 66, 3) := by decide +kernel
theorem dX7_seen_24 : decode cX7_seen 24 = .ok (.ifCond .ne 5, 3) := by decide +kernel
theorem dX7_seen_27 : decode cX7_seen 27 = .ok (.iconst (-1), 1) := by decide +kernel
theorem dX7_seen_28 : decode cX7_seen 28 = .ok (.ireturn, 1) := by decide +kernel
theorem dX7_seen_29 : decode cX7_seen 29 = .ok (.aload_n 0, 1) := by decide +kernel
theorem dX7_seen_30 : decode cX7_seen 30 = .ok (.getfield 98, 3) := by decide +kernel
theorem dX7_seen_33 : decode cX7_seen 33 = .ok (.bipush 7, 2) := by decide +kernel
theorem dX7_seen_35 : decode cX7_seen 35 = .ok (.if_icmp .ne 6, 3) := by decide +kernel
theorem dX7_seen_38 : decode cX7_seen 38 = .ok (.bipush (-3), 2) := by decide +kernel
theorem dX7_seen_40 : decode cX7_seen 40 = .ok (.ireturn, 1) := by decide +kernel
theorem dX7_seen_41 : decode cX7_seen 41 = .ok (.aload_n 0, 1) := by decide +kernel
theorem dX7_seen_42 : decode cX7_seen 42 = .ok (.getfield 47, 3) := by decide +kernel
theorem dX7_seen_45 : decode cX7_seen 45 = .ok (.aload_n 0, 1) := by decide +kernel
theorem dX7_seen_46 : decode cX7_seen 46 = .ok (.getfield 98, 3) := by decide +kernel
theorem dX7_seen_49 : decode cX7_seen 49 = .ok (.iload_n 1, 1) := by decide +kernel
theorem dX7_seen_50 : decode cX7_seen 50 = .ok (.iastore, 1) := by decide +kernel
theorem dX7_seen_51 : decode cX7_seen 51 = .ok (.aload_n 0, 1) := by decide +kernel
theorem dX7_seen_52 : decode cX7_seen 52 = .ok (.getfield 50, 3) := by decide +kernel
theorem dX7_seen_55 : decode cX7_seen 55 = .ok (.aload_n 0, 1) := by decide +kernel
theorem dX7_seen_56 : decode cX7_seen 56 = .ok (.getfield 98, 3) := by decide +kernel
theorem dX7_seen_59 : decode cX7_seen 59 = .ok (.iload_n 2, 1) := by decide +kernel
theorem dX7_seen_60 : decode cX7_seen 60 = .ok (.iastore, 1) := by decide +kernel
theorem dX7_seen_61 : decode cX7_seen 61 = .ok (.aload_n 0, 1) := by decide +kernel
theorem dX7_seen_62 : decode cX7_seen 62 = .ok (.getfield 53, 3) := by decide +kernel
theorem dX7_seen_65 : decode cX7_seen 65 = .ok (.aload_n 0, 1) := by decide +kernel
theorem dX7_seen_66 : decode cX7_seen 66 = .ok (.getfield 98, 3) := by decide +kernel
theorem dX7_seen_69 : decode cX7_seen 69 = .ok (.iload_n 3, 1) := by decide +kernel
theorem dX7_seen_70 : decode cX7_seen 70 = .ok (.iastore, 1) := by decide +kernel
theorem dX7_seen_71 : decode cX7_seen 71 = .ok (.aload_n 0, 1) := by decide +kernel
theorem dX7_seen_72 : decode cX7_seen 72 = .ok (.dup, 1) := by decide +kernel
theorem dX7_seen_73 : decode cX7_seen 73 = .ok (.getfield 98, 3) := by decide +kernel
theorem dX7_seen_76 : decode cX7_seen 76 = .ok (.iconst 1, 1) := by decide +kernel
theorem dX7_seen_77 : decode cX7_seen 77 = .ok (.iadd, 1) := by decide +kernel
theorem dX7_seen_78 : decode cX7_seen 78 = .ok (.putfield 98, 3) := by decide +kernel
theorem dX7_seen_81 : decode cX7_seen 81 = .ok (.aload_n 0, 1) := by decide +kernel
theorem dX7_seen_82 : decode cX7_seen 82 = .ok (.getfield 98, 3) := by decide +kernel
theorem dX7_seen_85 : decode cX7_seen 85 = .ok (.ireturn, 1) := by decide +kernel
theorem dX7_forget_0 : decode cX7_forget 0 = .ok (.aload_n 0, 1) := by decide +kernel
theorem dX7_forget_1 : decode cX7_forget 1 = .ok (.getfield 98, 3) := by decide +kernel
theorem dX7_forget_4 : decode cX7_forget 4 = .ok (.istore_n 1, 1) := by decide +kernel
theorem dX7_forget_5 : decode cX7_forget 5 = .ok (.aload_n 0, 1) := by decide +kernel
theorem dX7_forget_6 : decode cX7_forget 6 = .ok (.iconst 0, 1) := by decide +kernel
theorem dX7_forget_7 : decode cX7_forget 7 = .ok (.putfield 98, 3) := by decide +kernel
theorem dX7_forget_10 : decode cX7_forget 10 = .ok (.iload_n 1, 1) := by decide +kernel
theorem dX7_forget_11 : decode cX7_forget 11 = .ok (.ireturn, 1) := by decide +kernel
theorem dX7_lastOf_0 : decode cX7_lastOf 0 = .ok (.iconst 0, 1) := by decide +kernel
theorem dX7_lastOf_1 : decode cX7_lastOf 1 = .ok (.istore_n 2, 1) := by decide +kernel
theorem dX7_lastOf_2 : decode cX7_lastOf 2 = .ok (.iconst 0, 1) := by decide +kernel
theorem dX7_lastOf_3 : decode cX7_lastOf 3 = .ok (.istore_n 3, 1) := by decide +kernel
theorem dX7_lastOf_4 : decode cX7_lastOf 4 = .ok (.iload_n 3, 1) := by decide +kernel
theorem dX7_lastOf_5 : decode cX7_lastOf 5 = .ok (.aload_n 0, 1) := by decide +kernel
theorem dX7_lastOf_6 : decode cX7_lastOf 6 = .ok (.getfield 98, 3) := by decide +kernel
theorem dX7_lastOf_9 : decode cX7_lastOf 9 = .ok (.if_icmp .ge 40, 3) := by decide +kernel
theorem dX7_lastOf_12 : decode cX7_lastOf 12 = .ok (.aload_n 0, 1) := by decide +kernel
theorem dX7_lastOf_13 : decode cX7_lastOf 13 = .ok (.getfield 47, 3) := by decide +kernel
theorem dX7_lastOf_16 : decode cX7_lastOf 16 = .ok (.iload_n 3, 1) := by decide +kernel
theorem dX7_lastOf_17 : decode cX7_lastOf 17 = .ok (.iaload, 1) := by decide +kernel
theorem dX7_lastOf_18 : decode cX7_lastOf 18 = .ok (.iload_n 1, 1) := by decide +kernel
theorem dX7_lastOf_19 : decode cX7_lastOf 19 = .ok (.if_icmp .ne 22, 3) := by decide +kernel
theorem dX7_lastOf_22 : decode cX7_lastOf 22 = .ok (.aload_n 0, 1) := by decide +kernel
theorem dX7_lastOf_23 : decode cX7_lastOf 23 = .ok (.getfield 50, 3) := by decide +kernel
theorem dX7_lastOf_26 : decode cX7_lastOf 26 = .ok (.iload_n 3, 1) := by decide +kernel
theorem dX7_lastOf_27 : decode cX7_lastOf 27 = .ok (.iaload, 1) := by decide +kernel
theorem dX7_lastOf_28 : decode cX7_lastOf 28 = .ok (.iload_n 2, 1) := by decide +kernel
theorem dX7_lastOf_29 : decode cX7_lastOf 29 = .ok (.if_icmp .le 12, 3) := by decide +kernel
theorem dX7_lastOf_32 : decode cX7_lastOf 32 = .ok (.aload_n 0, 1) := by decide +kernel
theorem dX7_lastOf_33 : decode cX7_lastOf 33 = .ok (.getfield 50, 3) := by decide +kernel
theorem dX7_lastOf_36 : decode cX7_lastOf 36 = .ok (.iload_n 3, 1) := by decide +kernel
theorem dX7_lastOf_37 : decode cX7_lastOf 37 = .ok (.iaload, 1) := by decide +kernel
theorem dX7_lastOf_38 : decode cX7_lastOf 38 = .ok (.goto 4, 3) := by decide +kernel
theorem dX7_lastOf_41 : decode cX7_lastOf 41 = .ok (.iload_n 2, 1) := by decide +kernel
theorem dX7_lastOf_42 : decode cX7_lastOf 42 = .ok (.istore_n 2, 1) := by decide +kernel
theorem dX7_lastOf_43 : decode cX7_lastOf 43 = .ok (.iinc 3 1, 3) := by decide +kernel
theorem dX7_lastOf_46 : decode cX7_lastOf 46 = .ok (.goto (-42), 3) := by decide +kernel
theorem dX7_lastOf_49 : decode cX7_lastOf 49 = .ok (.iload_n 2, 1) := by decide +kernel
theorem dX7_lastOf_50 : decode cX7_lastOf 50 = .ok (.ireturn, 1) := by decide +kernel
theorem dX7_power_0 : decode cX7_power 0 = .ok (.iconst 1, 1) := by decide +kernel
theorem dX7_power_1 : decode cX7_power 1 = .ok (.istore_n 2, 1) := by decide +kernel
theorem dX7_power_2 : decode cX7_power 2 = .ok (.iconst 0, 1) := by decide +kernel
theorem dX7_power_3 : decode cX7_power 3 = .ok (.istore_n 3, 1) := by decide +kernel
theorem dX7_power_4 : decode cX7_power 4 = .ok (.iload_n 3, 1) := by decide +kernel
theorem dX7_power_5 : decode cX7_power 5 = .ok (.iload_n 1, 1) := by decide +kernel
theorem dX7_power_6 : decode cX7_power 6 = .ok (.if_icmp .ge 20, 3) := by decide +kernel
theorem dX7_power_9 : decode cX7_power 9 = .ok (.iload_n 2, 1) := by decide +kernel
theorem dX7_power_10 : decode cX7_power 10 = .ok (.aload_n 0, 1) := by decide +kernel
theorem dX7_power_11 : decode cX7_power 11 = .ok (.getfield 23, 3) := by decide +kernel
theorem dX7_power_14 : decode cX7_power 14 = .ok (.iconst 0, 1) := by decide +kernel
theorem dX7_power_15 : decode cX7_power 15 = .ok (.iaload, 1) := by decide +kernel
theorem dX7_power_16 : decode cX7_power 16 = .ok (.iconst 1, 1) := by decide +kernel
theorem dX7_power_17 : decode cX7_power 17 = .ok (.iadd, 1) := by decide +kernel
theorem dX7_power_18 : decode cX7_power 18 = .ok (.imul, 1) := by decide +kernel
theorem dX7_power_19 : decode cX7_power 19 = .ok (.istore_n 2, 1) := by decide +kernel
theorem dX7_power_20 : decode cX7_power 20 = .ok (.iinc 3 1, 3) := by decide +kernel
theorem dX7_power_23 : decode cX7_power 23 = .ok (.goto (-19), 3) := by decide +kernel
theorem dX7_power_26 : decode cX7_power 26 = .ok (.iload_n 2, 1) := by decide +kernel
theorem dX7_power_27 : decode cX7_power 27 = .ok (.ireturn, 1) := by decide +kernel
theorem dX7_isSpent_0 : decode cX7_isSpent 0 = .ok (.aload_n 0, 1) := by decide +kernel
theorem dX7_isSpent_1 : decode cX7_isSpent 1 = .ok (.iconst 0, 1) := by decide +kernel
theorem dX7_isSpent_2 : decode cX7_isSpent 2 = .ok (.sipush 341, 3) := by decide +kernel
theorem dX7_isSpent_5 : decode cX7_isSpent 5 = .ok (.invokevirtual 131, 3) := by decide +kernel
theorem dX7_isSpent_8 : decode cX7_isSpent 8 = .ok (.iconst 1, 1) := by decide +kernel
theorem dX7_isSpent_9 : decode cX7_isSpent 9 = .ok (.istore 4, 2) := by decide +kernel
theorem dX7_isSpent_11 : decode cX7_isSpent 11 = .ok (.iconst 1, 1) := by decide +kernel
theorem dX7_isSpent_12 : decode cX7_isSpent 12 = .ok (.istore 5, 2) := by decide +kernel
theorem dX7_isSpent_14 : decode cX7_isSpent 14 = .ok (.iload 5, 2) := by decide +kernel
theorem dX7_isSpent_16 : decode cX7_isSpent 16 = .ok (.iload_n 2, 1) := by decide +kernel
theorem dX7_isSpent_17 : decode cX7_isSpent 17 = .ok (.if_icmp .gt 148, 3) := by decide +kernel
theorem dX7_isSpent_20 : decode cX7_isSpent 20 = .ok (.iload 4, 2) := by decide +kernel
theorem dX7_isSpent_22 : decode cX7_isSpent 22 = .ok (.ifCond .eq 143, 3) := by decide +kernel
theorem dX7_isSpent_25 : decode cX7_isSpent 25 = .ok (.iload_n 3, 1) := by decide +kernel
theorem dX7_isSpent_26 : decode cX7_isSpent 26 = .ok (.aload_n 0, 1) := by decide +kernel
theorem dX7_isSpent_27 : decode cX7_isSpent 27 = .ok (.iload_n 2, 1) := by decide +kernel
theorem dX7_isSpent_28 : decode cX7_isSpent 28 = .ok (.iload 5, 2) := by decide +kernel
theorem dX7_isSpent_30 : decode cX7_isSpent 30 = .ok (.isub, 1) := by decide +kernel
theorem dX7_isSpent_31 : decode cX7_isSpent 31 = .ok (.invokevirtual 167, 3) := by decide +kernel
theorem dX7_isSpent_34 : decode cX7_isSpent 34 = .ok (.idiv, 1) := by decide +kernel
theorem dX7_isSpent_35 : decode cX7_isSpent 35 = .ok (.aload_n 0, 1) := by decide +kernel
theorem dX7_isSpent_36 : decode cX7_isSpent 36 = .ok (.getfield 23, 3) := by decide +kernel
theorem dX7_isSpent_39 : decode cX7_isSpent 39 = .ok (.iconst 0, 1) := by decide +kernel
theorem dX7_isSpent_40 : decode cX7_isSpent 40 = .ok (.iaload, 1) := by decide +kernel
theorem dX7_isSpent_41 : decode cX7_isSpent 41 = .ok (.iconst 1, 1) := by decide +kernel
theorem dX7_isSpent_42 : decode cX7_isSpent 42 = .ok (.iadd, 1) := by decide +kernel
theorem dX7_isSpent_43 : decode cX7_isSpent 43 = .ok (.irem, 1) := by decide +kernel
theorem dX7_isSpent_44 : decode cX7_isSpent 44 = .ok (.iconst 1, 1) := by decide +kernel
theorem dX7_isSpent_45 : decode cX7_isSpent 45 = .ok (.isub, 1) := by decide +kernel
theorem dX7_isSpent_46 : decode cX7_isSpent 46 = .ok (.istore 6, 2) := by decide +kernel
theorem dX7_isSpent_48 : decode cX7_isSpent 48 = .ok (.iload 6, 2) := by decide +kernel
theorem dX7_isSpent_50 : decode cX7_isSpent 50 = .ok (.ifCond .lt 16, 3) := by decide +kernel
theorem dX7_isSpent_53 : decode cX7_isSpent 53 = .ok (.aload_n 0, 1) := by decide +kernel
theorem dX7_isSpent_54 : decode cX7_isSpent 54 = .ok (.sipush 341, 3) := by decide +kernel
theorem dX7_isSpent_57 : decode cX7_isSpent 57 = .ok (.iload_n 1, 1) := by decide +kernel
theorem dX7_isSpent_58 : decode cX7_isSpent 58 = .ok (.iload 6, 2) := by decide +kernel
theorem dX7_isSpent_60 : decode cX7_isSpent 60 = .ok (.invokevirtual 125, 3) := by decide +kernel
theorem dX7_isSpent_63 : decode cX7_isSpent 63 = .ok (.ifCond .lt 7, 3) := by decide +kernel
theorem dX7_isSpent_66 : decode cX7_isSpent 66 = .ok (.iconst 1, 1) := by decide +kernel
theorem dX7_isSpent_67 : decode cX7_isSpent 67 = .ok (.goto 4, 3) := by decide +kernel
theorem dX7_isSpent_70 : decode cX7_isSpent 70 = .ok (.iconst 0, 1) := by decide +kernel
theorem dX7_isSpent_71 : decode cX7_isSpent 71 = .ok (.istore 4, 2) := by decide +kernel
theorem dX7_isSpent_73 : decode cX7_isSpent 73 = .ok (.aload_n 0, 1) := by decide +kernel
theorem dX7_isSpent_74 : decode cX7_isSpent 74 = .ok (.sipush 341, 3) := by decide +kernel
theorem dX7_isSpent_77 : decode cX7_isSpent 77 = .ok (.iload_n 1, 1) := by decide +kernel
theorem dX7_isSpent_78 : decode cX7_isSpent 78 = .ok (.invokevirtual 128, 3) := by decide +kernel
theorem dX7_isSpent_81 : decode cX7_isSpent 81 = .ok (.iconst 0, 1) := by decide +kernel
theorem dX7_isSpent_82 : decode cX7_isSpent 82 = .ok (.istore 7, 2) := by decide +kernel
theorem dX7_isSpent_84 : decode cX7_isSpent 84 = .ok (.iload 7, 2) := by decide +kernel
theorem dX7_isSpent_86 : decode cX7_isSpent 86 = .ok (.aload_n 0, 1) := by decide +kernel
theorem dX7_isSpent_87 : decode cX7_isSpent 87 = .ok (.getfield 98, 3) := by decide +kernel
theorem dX7_isSpent_90 : decode cX7_isSpent 90 = .ok (.if_icmp .ge 62, 3) := by decide +kernel
theorem dX7_isSpent_93 : decode cX7_isSpent 93 = .ok (.iload 4, 2) := by decide +kernel
theorem dX7_isSpent_95 : decode cX7_isSpent 95 = .ok (.ifCond .eq 48, 3) := by decide +kernel
theorem dX7_isSpent_98 : decode cX7_isSpent 98 = .ok (.aload_n 0, 1) := by decide +kernel
theorem dX7_isSpent_99 : decode cX7_isSpent 99 = .ok (.getfield 47, 3) := by decide +kernel
theorem dX7_isSpent_102 : decode cX7_isSpent 102 = .ok (.iload 7, 2) := by decide +kernel
theorem dX7_isSpent_104 : decode cX7_isSpent 104 = .ok (.iaload, 1) := by decide +kernel
theorem dX7_isSpent_105 : decode cX7_isSpent 105 = .ok (.iload_n 1, 1) := by decide +kernel
theorem dX7_isSpent_106 : decode cX7_isSpent 106 = .ok (.if_icmp .ne 33, 3) := by decide +kernel
theorem dX7_isSpent_109 : decode cX7_isSpent 109 = .ok (.aload_n 0, 1) := by decide +kernel
theorem dX7_isSpent_110 : decode cX7_isSpent 110 = .ok (.getfield 50, 3) := by decide +kernel
theorem dX7_isSpent_113 : decode cX7_isSpent 113 = .ok (.iload 7, 2) := by decide +kernel
theorem dX7_isSpent_115 : decode cX7_isSpent 115 = .ok (.iaload, 1) := by decide +kernel
theorem dX7_isSpent_116 : decode cX7_isSpent 116 = .ok (.iload 5, 2) := by decide +kernel
theorem dX7_isSpent_118 : decode cX7_isSpent 118 = .ok (.if_icmp .ne 21, 3) := by decide +kernel
theorem dX7_isSpent_121 : decode cX7_isSpent 121 = .ok (.aload_n 0, 1) := by decide +kernel
theorem dX7_isSpent_122 : decode cX7_isSpent 122 = .ok (.getfield 53, 3) := by decide +kernel
theorem dX7_isSpent_125 : decode cX7_isSpent 125 = .ok (.iload 7, 2) := by decide +kernel
theorem dX7_isSpent_127 : decode cX7_isSpent 127 = .ok (.iaload, 1) := by decide +kernel
theorem dX7_isSpent_128 : decode cX7_isSpent 128 = .ok (.aload_n 0, 1) := by decide +kernel
theorem dX7_isSpent_129 : decode cX7_isSpent 129 = .ok (.sipush 341, 3) := by decide +kernel
theorem dX7_isSpent_132 : decode cX7_isSpent 132 = .ok (.iload_n 1, 1) := by decide +kernel
theorem dX7_isSpent_133 : decode cX7_isSpent 133 = .ok (.invokevirtual 108, 3) := by decide +kernel
theorem dX7_isSpent_136 : decode cX7_isSpent 136 = .ok (.if_icmp .ne 7, 3) := by decide +kernel
theorem dX7_isSpent_139 : decode cX7_isSpent 139 = .ok (.iconst 1, 1) := by decide +kernel
theorem dX7_isSpent_140 : decode cX7_isSpent 140 = .ok (.goto 4, 3) := by decide +kernel
theorem dX7_isSpent_143 : decode cX7_isSpent 143 = .ok (.iconst 0, 1) := by decide +kernel
theorem dX7_isSpent_144 : decode cX7_isSpent 144 = .ok (.istore 4, 2) := by decide +kernel
theorem dX7_isSpent_146 : decode cX7_isSpent 146 = .ok (.iinc 7 1, 3) := by decide +kernel
theorem dX7_isSpent_149 : decode cX7_isSpent 149 = .ok (.goto (-65), 3) := by decide +kernel
theorem dX7_isSpent_152 : decode cX7_isSpent 152 = .ok (.aload_n 0, 1) := by decide +kernel
theorem dX7_isSpent_153 : decode cX7_isSpent 153 = .ok (.sipush 341, 3) := by decide +kernel
theorem dX7_isSpent_156 : decode cX7_isSpent 156 = .ok (.invokevirtual 144, 3) := by decide +kernel
theorem dX7_isSpent_159 : decode cX7_isSpent 159 = .ok (.iinc 5 1, 3) := by decide +kernel
theorem dX7_isSpent_162 : decode cX7_isSpent 162 = .ok (.goto (-148), 3) := by decide +kernel
theorem dX7_isSpent_165 : decode cX7_isSpent 165 = .ok (.iload 4, 2) := by decide +kernel
theorem dX7_isSpent_167 : decode cX7_isSpent 167 = .ok (.ireturn, 1) := by decide +kernel
theorem dX7_spent_0 : decode cX7_spent 0 = .ok (.aload_n 0, 1) := by decide +kernel
theorem dX7_spent_1 : decode cX7_spent 1 = .ok (.iload_n 1, 1) := by decide +kernel
theorem dX7_spent_2 : decode cX7_spent 2 = .ok (.invokevirtual 104, 3) := by decide +kernel
theorem dX7_spent_5 : decode cX7_spent 5 = .ok (.ifCond .eq 16, 3) := by decide +kernel
theorem dX7_spent_8 : decode cX7_spent 8 = .ok (.iload_n 2, 1) := by decide +kernel
theorem dX7_spent_9 : decode cX7_spent 9 = .ok (.iconst 0, 1) := by decide +kernel
theorem dX7_spent_10 : decode cX7_spent 10 = .ok (.aload_n 0, 1) := by decide +kernel
theorem dX7_spent_11 : decode cX7_spent 11 = .ok (.iload_n 1, 1) := by decide +kernel
theorem dX7_spent_12 : decode cX7_spent 12 = .ok (.invokevirtual 170, 3) := by decide +kernel
theorem dX7_spent_15 : decode cX7_spent 15 = .ok (.invokestatic 66, 3) := by decide +kernel
theorem dX7_spent_18 : decode cX7_spent 18 = .ok (.ifCond .ne 5, 3) := by decide +kernel
theorem dX7_spent_21 : decode cX7_spent 21 = .ok (.iconst (-1), 1) := by decide +kernel
theorem dX7_spent_22 : decode cX7_spent 22 = .ok (.ireturn, 1) := by decide +kernel
theorem dX7_spent_23 : decode cX7_spent 23 = .ok (.aload_n 0, 1) := by decide +kernel
theorem dX7_spent_24 : decode cX7_spent 24 = .ok (.iload_n 1, 1) := by decide +kernel
theorem dX7_spent_25 : decode cX7_spent 25 = .ok (.invokevirtual 170, 3) := by decide +kernel
theorem dX7_spent_28 : decode cX7_spent 28 = .ok (.istore_n 3, 1) := by decide +kernel
theorem dX7_spent_29 : decode cX7_spent 29 = .ok (.iconst 0, 1) := by decide +kernel
theorem dX7_spent_30 : decode cX7_spent 30 = .ok (.istore 4, 2) := by decide +kernel
theorem dX7_spent_32 : decode cX7_spent 32 = .ok (.bipush (-4), 2) := by decide +kernel
theorem dX7_spent_34 : decode cX7_spent 34 = .ok (.istore 5, 2) := by decide +kernel
theorem dX7_spent_36 : decode cX7_spent 36 = .ok (.iconst 0, 1) := by decide +kernel
theorem dX7_spent_37 : decode cX7_spent 37 = .ok (.istore 6, 2) := by decide +kernel
theorem dX7_spent_39 : decode cX7_spent 39 = .ok (.iload 6, 2) := by decide +kernel
theorem dX7_spent_41 : decode cX7_spent 41 = .ok (.aload_n 0, 1) := by decide +kernel
theorem dX7_spent_42 : decode cX7_spent 42 = .ok (.iload_n 3, 1) := by decide +kernel
theorem dX7_spent_43 : decode cX7_spent 43 = .ok (.invokevirtual 167, 3) := by decide +kernel
theorem dX7_spent_46 : decode cX7_spent 46 = .ok (.if_icmp .ge 37, 3) := by decide +kernel
theorem dX7_spent_49 : decode cX7_spent 49 = .ok (.aload_n 0, 1) := by decide +kernel
theorem dX7_spent_50 : decode cX7_spent 50 = .ok (.iload_n 1, 1) := by decide +kernel
theorem dX7_spent_51 : decode cX7_spent 51 = .ok (.iload_n 3, 1) := by decide +kernel
theorem dX7_spent_52 : decode cX7_spent 52 = .ok (.iload 6, 2) := by decide +kernel
theorem dX7_spent_54 : decode cX7_spent 54 = .ok (.invokevirtual 173, 3) := by decide +kernel
theorem dX7_spent_57 : decode cX7_spent 57 = .ok (.ifCond .eq 20, 3) := by decide +kernel
theorem dX7_spent_60 : decode cX7_spent 60 = .ok (.iload 4, 2) := by decide +kernel
theorem dX7_spent_62 : decode cX7_spent 62 = .ok (.ifCond .ne 8, 3) := by decide +kernel
theorem dX7_spent_65 : decode cX7_spent 65 = .ok (.iload 6, 2) := by decide +kernel
theorem dX7_spent_67 : decode cX7_spent 67 = .ok (.goto 5, 3) := by decide +kernel
theorem dX7_spent_70 : decode cX7_spent 70 = .ok (.iload 5, 2) := by decide +kernel
theorem dX7_spent_72 : decode cX7_spent 72 = .ok (.istore 5, 2) := by decide +kernel
theorem dX7_spent_74 : decode cX7_spent 74 = .ok (.iinc 4 1, 3) := by decide +kernel
theorem dX7_spent_77 : decode cX7_spent 77 = .ok (.iinc 6 1, 3) := by decide +kernel
theorem dX7_spent_80 : decode cX7_spent 80 = .ok (.goto (-41), 3) := by decide +kernel
theorem dX7_spent_83 : decode cX7_spent 83 = .ok (.iload_n 2, 1) := by decide +kernel
theorem dX7_spent_84 : decode cX7_spent 84 = .ok (.ifCond .eq 8, 3) := by decide +kernel
theorem dX7_spent_87 : decode cX7_spent 87 = .ok (.iload 4, 2) := by decide +kernel
theorem dX7_spent_89 : decode cX7_spent 89 = .ok (.ifCond .ne 15, 3) := by decide +kernel
theorem dX7_spent_92 : decode cX7_spent 92 = .ok (.iload_n 2, 1) := by decide +kernel
theorem dX7_spent_93 : decode cX7_spent 93 = .ok (.ifCond .ne 8, 3) := by decide +kernel
theorem dX7_spent_96 : decode cX7_spent 96 = .ok (.iload 4, 2) := by decide +kernel
theorem dX7_spent_98 : decode cX7_spent 98 = .ok (.goto 5, 3) := by decide +kernel
theorem dX7_spent_101 : decode cX7_spent 101 = .ok (.bipush (-4), 2) := by decide +kernel
theorem dX7_spent_103 : decode cX7_spent 103 = .ok (.ireturn, 1) := by decide +kernel
theorem dX7_spent_104 : decode cX7_spent 104 = .ok (.iload 5, 2) := by decide +kernel
theorem dX7_spent_106 : decode cX7_spent 106 = .ok (.aload_n 0, 1) := by decide +kernel
theorem dX7_spent_107 : decode cX7_spent 107 = .ok (.iload_n 3, 1) := by decide +kernel
theorem dX7_spent_108 : decode cX7_spent 108 = .ok (.iload_n 2, 1) := by decide +kernel
theorem dX7_spent_109 : decode cX7_spent 109 = .ok (.isub, 1) := by decide +kernel
theorem dX7_spent_110 : decode cX7_spent 110 = .ok (.invokevirtual 167, 3) := by decide +kernel
theorem dX7_spent_113 : decode cX7_spent 113 = .ok (.idiv, 1) := by decide +kernel
theorem dX7_spent_114 : decode cX7_spent 114 = .ok (.aload_n 0, 1) := by decide +kernel
theorem dX7_spent_115 : decode cX7_spent 115 = .ok (.getfield 23, 3) := by decide +kernel
theorem dX7_spent_118 : decode cX7_spent 118 = .ok (.iconst 0, 1) := by decide +kernel
theorem dX7_spent_119 : decode cX7_spent 119 = .ok (.iaload, 1) := by decide +kernel
theorem dX7_spent_120 : decode cX7_spent 120 = .ok (.iconst 1, 1) := by decide +kernel
theorem dX7_spent_121 : decode cX7_spent 121 = .ok (.iadd, 1) := by decide +kernel
theorem dX7_spent_122 : decode cX7_spent 122 = .ok (.irem, 1) := by decide +kernel
theorem dX7_spent_123 : decode cX7_spent 123 = .ok (.istore 6, 2) := by decide +kernel
theorem dX7_spent_125 : decode cX7_spent 125 = .ok (.iload 6, 2) := by decide +kernel
theorem dX7_spent_127 : decode cX7_spent 127 = .ok (.ifCond .ne 8, 3) := by decide +kernel
theorem dX7_spent_130 : decode cX7_spent 130 = .ok (.bipush (-4), 2) := by decide +kernel
theorem dX7_spent_132 : decode cX7_spent 132 = .ok (.goto 7, 3) := by decide +kernel
theorem dX7_spent_135 : decode cX7_spent 135 = .ok (.iload 6, 2) := by decide +kernel
theorem dX7_spent_137 : decode cX7_spent 137 = .ok (.iconst 1, 1) := by decide +kernel
theorem dX7_spent_138 : decode cX7_spent 138 = .ok (.isub, 1) := by decide +kernel
theorem dX7_spent_139 : decode cX7_spent 139 = .ok (.ireturn, 1) := by decide +kernel
theorem dX7_saved_0 : decode cX7_saved 0 = .ok (.aload_n 0, 1) := by decide +kernel
theorem dX7_saved_1 : decode cX7_saved 1 = .ok (.iload_n 1, 1) := by decide +kernel
theorem dX7_saved_2 : decode cX7_saved 2 = .ok (.invokevirtual 104, 3) := by decide +kernel
theorem dX7_saved_5 : decode cX7_saved 5 = .ok (.ifCond .eq 20, 3) := by decide +kernel
theorem dX7_saved_8 : decode cX7_saved 8 = .ok (.iload_n 2, 1) := by decide +kernel
theorem dX7_saved_9 : decode cX7_saved 9 = .ok (.invokestatic 147, 3) := by decide +kernel
theorem dX7_saved_12 : decode cX7_saved 12 = .ok (.ifCond .eq 13, 3) := by decide +kernel
theorem dX7_saved_15 : decode cX7_saved 15 = .ok (.iload_n 3, 1) := by decide +kernel
theorem dX7_saved_16 : decode cX7_saved 16 = .ok (.iconst 0, 1) := by decide +kernel
theorem dX7_saved_17 : decode cX7_saved 17 = .ok (.bipush 99, 2) := by decide +kernel
theorem dX7_saved_19 : decode cX7_saved 19 = .ok (.invokestatic 66, 3) := by decide +kernel
theorem dX7_saved_22 : decode cX7_saved 22 = .ok (.ifCond .ne 5, 3) := by decide +kernel
theorem dX7_saved_25 : decode cX7_saved 25 = .ok (.iconst (-1), 1) := by decide +kernel
theorem dX7_saved_26 : decode cX7_saved 26 = .ok (.ireturn, 1) := by decide +kernel
theorem dX7_saved_27 : decode cX7_saved 27 = .ok (.aload_n 0, 1) := by decide +kernel
theorem dX7_saved_28 : decode cX7_saved 28 = .ok (.iconst 0, 1) := by decide +kernel
theorem dX7_saved_29 : decode cX7_saved 29 = .ok (.sipush 341, 3) := by decide +kernel
theorem dX7_saved_32 : decode cX7_saved 32 = .ok (.invokevirtual 131, 3) := by decide +kernel
theorem dX7_saved_35 : decode cX7_saved 35 = .ok (.iconst 0, 1) := by decide +kernel
theorem dX7_saved_36 : decode cX7_saved 36 = .ok (.istore 4, 2) := by decide +kernel
theorem dX7_saved_38 : decode cX7_saved 38 = .ok (.iload 4, 2) := by decide +kernel
theorem dX7_saved_40 : decode cX7_saved 40 = .ok (.bipush 50, 2) := by decide +kernel
theorem dX7_saved_42 : decode cX7_saved 42 = .ok (.if_icmp .gt 76, 3) := by decide +kernel
theorem dX7_saved_45 : decode cX7_saved 45 = .ok (.aload_n 0, 1) := by decide +kernel
theorem dX7_saved_46 : decode cX7_saved 46 = .ok (.getfield 38, 3) := by decide +kernel
theorem dX7_saved_49 : decode cX7_saved 49 = .ok (.sipush 342, 3) := by decide +kernel
theorem dX7_saved_52 : decode cX7_saved 52 = .ok (.iconst 3, 1) := by decide +kernel
theorem dX7_saved_53 : decode cX7_saved 53 = .ok (.iload_n 1, 1) := by decide +kernel
theorem dX7_saved_54 : decode cX7_saved 54 = .ok (.imul, 1) := by decide +kernel
theorem dX7_saved_55 : decode cX7_saved 55 = .ok (.iadd, 1) := by decide +kernel
theorem dX7_saved_56 : decode cX7_saved 56 = .ok (.iload_n 2, 1) := by decide +kernel
theorem dX7_saved_57 : decode cX7_saved 57 = .ok (.iadd, 1) := by decide +kernel
theorem dX7_saved_58 : decode cX7_saved 58 = .ok (.iaload, 1) := by decide +kernel
theorem dX7_saved_59 : decode cX7_saved 59 = .ok (.iload_n 3, 1) := by decide +kernel
theorem dX7_saved_60 : decode cX7_saved 60 = .ok (.if_icmp .lt 6, 3) := by decide +kernel
theorem dX7_saved_63 : decode cX7_saved 63 = .ok (.iload 4, 2) := by decide +kernel
theorem dX7_saved_65 : decode cX7_saved 65 = .ok (.ireturn, 1) := by decide +kernel
theorem dX7_saved_66 : decode cX7_saved 66 = .ok (.iconst 1, 1) := by decide +kernel
theorem dX7_saved_67 : decode cX7_saved 67 = .ok (.istore 5, 2) := by decide +kernel
theorem dX7_saved_69 : decode cX7_saved 69 = .ok (.iload 5, 2) := by decide +kernel
theorem dX7_saved_71 : decode cX7_saved 71 = .ok (.ifCond .eq 41, 3) := by decide +kernel
theorem dX7_saved_74 : decode cX7_saved 74 = .ok (.aload_n 0, 1) := by decide +kernel
theorem dX7_saved_75 : decode cX7_saved 75 = .ok (.sipush 341, 3) := by decide +kernel
theorem dX7_saved_78 : decode cX7_saved 78 = .ok (.invokevirtual 141, 3) := by decide +kernel
theorem dX7_saved_81 : decode cX7_saved 81 = .ok (.aload_n 0, 1) := by decide +kernel
theorem dX7_saved_82 : decode cX7_saved 82 = .ok (.sipush 341, 3) := by decide +kernel
theorem dX7_saved_85 : decode cX7_saved 85 = .ok (.invokevirtual 144, 3) := by decide +kernel
theorem dX7_saved_88 : decode cX7_saved 88 = .ok (.aload_n 0, 1) := by decide +kernel
theorem dX7_saved_89 : decode cX7_saved 89 = .ok (.getfield 38, 3) := by decide +kernel
theorem dX7_saved_92 : decode cX7_saved 92 = .ok (.sipush 341, 3) := by decide +kernel
theorem dX7_saved_95 : decode cX7_saved 95 = .ok (.iaload, 1) := by decide +kernel
theorem dX7_saved_96 : decode cX7_saved 96 = .ok (.bipush 7, 2) := by decide +kernel
theorem dX7_saved_98 : decode cX7_saved 98 = .ok (.irem, 1) := by decide +kernel
theorem dX7_saved_99 : decode cX7_saved 99 = .ok (.ifCond .eq 7, 3) := by decide +kernel
theorem dX7_saved_102 : decode cX7_saved 102 = .ok (.iconst 1, 1) := by decide +kernel
theorem dX7_saved_103 : decode cX7_saved 103 = .ok (.goto 4, 3) := by decide +kernel
theorem dX7_saved_106 : decode cX7_saved 106 = .ok (.iconst 0, 1) := by decide +kernel
theorem dX7_saved_107 : decode cX7_saved 107 = .ok (.istore 5, 2) := by decide +kernel
theorem dX7_saved_109 : decode cX7_saved 109 = .ok (.goto (-40), 3) := by decide +kernel
theorem dX7_saved_112 : decode cX7_saved 112 = .ok (.iinc 4 1, 3) := by decide +kernel
theorem dX7_saved_115 : decode cX7_saved 115 = .ok (.goto (-77), 3) := by decide +kernel
theorem dX7_saved_118 : decode cX7_saved 118 = .ok (.bipush (-4), 2) := by decide +kernel
theorem dX7_saved_120 : decode cX7_saved 120 = .ok (.ireturn, 1) := by decide +kernel
theorem dX7_lasts_0 : decode cX7_lasts 0 = .ok (.aload_n 0, 1) := by decide +kernel
theorem dX7_lasts_1 : decode cX7_lasts 1 = .ok (.iload_n 1, 1) := by decide +kernel
theorem dX7_lasts_2 : decode cX7_lasts 2 = .ok (.invokevirtual 104, 3) := by decide +kernel
theorem dX7_lasts_5 : decode cX7_lasts 5 = .ok (.ifCond .eq 42, 3) := by decide +kernel
theorem dX7_lasts_8 : decode cX7_lasts 8 = .ok (.aload_n 0, 1) := by decide +kernel
theorem dX7_lasts_9 : decode cX7_lasts 9 = .ok (.iload_n 2, 1) := by decide +kernel
theorem dX7_lasts_10 : decode cX7_lasts 10 = .ok (.invokevirtual 112, 3) := by decide +kernel
theorem dX7_lasts_13 : decode cX7_lasts 13 = .ok (.ifCond .eq 34, 3) := by decide +kernel
theorem dX7_lasts_16 : decode cX7_lasts 16 = .ok (.iload_n 3, 1) := by decide +kernel
theorem dX7_lasts_17 : decode cX7_lasts 17 = .ok (.iconst 0, 1) := by decide +kernel
theorem dX7_lasts_18 : decode cX7_lasts 18 = .ok (.bipush 10, 2) := by decide +kernel
theorem dX7_lasts_20 : decode cX7_lasts 20 = .ok (.invokestatic 66, 3) := by decide +kernel
theorem dX7_lasts_23 : decode cX7_lasts 23 = .ok (.ifCond .eq 24, 3) := by decide +kernel
theorem dX7_lasts_26 : decode cX7_lasts 26 = .ok (.iload 4, 2) := by decide +kernel
theorem dX7_lasts_28 : decode cX7_lasts 28 = .ok (.iconst 0, 1) := by decide +kernel
theorem dX7_lasts_29 : decode cX7_lasts 29 = .ok (.bipush 7, 2) := by decide +kernel
theorem dX7_lasts_31 : decode cX7_lasts 31 = .ok (.invokestatic 66, 3) := by decide +kernel
theorem dX7_lasts_34 : decode cX7_lasts 34 = .ok (.ifCond .eq 13, 3) := by decide +kernel
theorem dX7_lasts_37 : decode cX7_lasts 37 = .ok (.iload 5, 2) := by decide +kernel
theorem dX7_lasts_39 : decode cX7_lasts 39 = .ok (.iconst 0, 1) := by decide +kernel
theorem dX7_lasts_40 : decode cX7_lasts 40 = .ok (.iconst 1, 1) := by decide +kernel
theorem dX7_lasts_41 : decode cX7_lasts 41 = .ok (.invokestatic 66, 3) := by decide +kernel
theorem dX7_lasts_44 : decode cX7_lasts 44 = .ok (.ifCond .ne 5, 3) := by decide +kernel
theorem dX7_lasts_47 : decode cX7_lasts 47 = .ok (.iconst (-1), 1) := by decide +kernel
theorem dX7_lasts_48 : decode cX7_lasts 48 = .ok (.ireturn, 1) := by decide +kernel
theorem dX7_lasts_49 : decode cX7_lasts 49 = .ok (.aload_n 0, 1) := by decide +kernel
theorem dX7_lasts_50 : decode cX7_lasts 50 = .ok (.iconst 0, 1) := by decide +kernel
theorem dX7_lasts_51 : decode cX7_lasts 51 = .ok (.sipush 341, 3) := by decide +kernel
theorem dX7_lasts_54 : decode cX7_lasts 54 = .ok (.invokevirtual 131, 3) := by decide +kernel
theorem dX7_lasts_57 : decode cX7_lasts 57 = .ok (.iconst 0, 1) := by decide +kernel
theorem dX7_lasts_58 : decode cX7_lasts 58 = .ok (.istore 6, 2) := by decide +kernel
theorem dX7_lasts_60 : decode cX7_lasts 60 = .ok (.iload 6, 2) := by decide +kernel
theorem dX7_lasts_62 : decode cX7_lasts 62 = .ok (.iload 4, 2) := by decide +kernel
theorem dX7_lasts_64 : decode cX7_lasts 64 = .ok (.if_icmp .ge 21, 3) := by decide +kernel
theorem dX7_lasts_67 : decode cX7_lasts 67 = .ok (.aload_n 0, 1) := by decide +kernel
theorem dX7_lasts_68 : decode cX7_lasts 68 = .ok (.sipush 341, 3) := by decide +kernel
theorem dX7_lasts_71 : decode cX7_lasts 71 = .ok (.iload_n 1, 1) := by decide +kernel
theorem dX7_lasts_72 : decode cX7_lasts 72 = .ok (.iload_n 2, 1) := by decide +kernel
theorem dX7_lasts_73 : decode cX7_lasts 73 = .ok (.invokevirtual 125, 3) := by decide +kernel
theorem dX7_lasts_76 : decode cX7_lasts 76 = .ok (.ifCond .lt 9, 3) := by decide +kernel
theorem dX7_lasts_79 : decode cX7_lasts 79 = .ok (.iinc 6 1, 3) := by decide +kernel
theorem dX7_lasts_82 : decode cX7_lasts 82 = .ok (.goto (-22), 3) := by decide +kernel
theorem dX7_lasts_85 : decode cX7_lasts 85 = .ok (.iconst 0, 1) := by decide +kernel
theorem dX7_lasts_86 : decode cX7_lasts 86 = .ok (.istore 7, 2) := by decide +kernel
theorem dX7_lasts_88 : decode cX7_lasts 88 = .ok (.iconst 1, 1) := by decide +kernel
theorem dX7_lasts_89 : decode cX7_lasts 89 = .ok (.istore 8, 2) := by decide +kernel
theorem dX7_lasts_91 : decode cX7_lasts 91 = .ok (.iconst 0, 1) := by decide +kernel
theorem dX7_lasts_92 : decode cX7_lasts 92 = .ok (.istore 9, 2) := by decide +kernel
theorem dX7_lasts_94 : decode cX7_lasts 94 = .ok (.iload 9, 2) := by decide +kernel
theorem dX7_lasts_96 : decode cX7_lasts 96 = .ok (.iconst 1, 1) := by decide +kernel
theorem dX7_lasts_97 : decode cX7_lasts 97 = .ok (.iload 4, 2) := by decide +kernel
theorem dX7_lasts_99 : decode cX7_lasts 99 = .ok (.ishl, 1) := by decide +kernel
theorem dX7_lasts_100 : decode cX7_lasts 100 = .ok (.if_icmp .ge 73, 3) := by decide +kernel
theorem dX7_lasts_103 : decode cX7_lasts 103 = .ok (.iload 9, 2) := by decide +kernel
theorem dX7_lasts_105 : decode cX7_lasts 105 = .ok (.invokestatic 163, 3) := by decide +kernel
theorem dX7_lasts_108 : decode cX7_lasts 108 = .ok (.iload 6, 2) := by decide +kernel
theorem dX7_lasts_110 : decode cX7_lasts 110 = .ok (.if_icmp .gt 7, 3) := by decide +kernel
theorem dX7_lasts_113 : decode cX7_lasts 113 = .ok (.iconst 1, 1) := by decide +kernel
theorem dX7_lasts_114 : decode cX7_lasts 114 = .ok (.goto 4, 3) := by decide +kernel
theorem dX7_lasts_117 : decode cX7_lasts 117 = .ok (.iconst 0, 1) := by decide +kernel
theorem dX7_lasts_118 : decode cX7_lasts 118 = .ok (.istore 10, 2) := by decide +kernel
theorem dX7_lasts_120 : decode cX7_lasts 120 = .ok (.iconst 0, 1) := by decide +kernel
theorem dX7_lasts_121 : decode cX7_lasts 121 = .ok (.istore 11, 2) := by decide +kernel
theorem dX7_lasts_123 : decode cX7_lasts 123 = .ok (.iload 11, 2) := by decide +kernel
theorem dX7_lasts_125 : decode cX7_lasts 125 = .ok (.iload 4, 2) := by decide +kernel
theorem dX7_lasts_127 : decode cX7_lasts 127 = .ok (.if_icmp .ge 33, 3) := by decide +kernel
theorem dX7_lasts_130 : decode cX7_lasts 130 = .ok (.iload 10, 2) := by decide +kernel
theorem dX7_lasts_132 : decode cX7_lasts 132 = .ok (.iload 9, 2) := by decide +kernel
theorem dX7_lasts_134 : decode cX7_lasts 134 = .ok (.iload 11, 2) := by decide +kernel
theorem dX7_lasts_136 : decode cX7_lasts 136 = .ok (.ishr, 1) := by decide +kernel
theorem dX7_lasts_137 : decode cX7_lasts 137 = .ok (.iconst 1, 1) := by decide +kernel
theorem dX7_lasts_138 : decode cX7_lasts 138 = .ok (.iand, 1) := by decide +kernel
theorem dX7_lasts_139 : decode cX7_lasts 139 = .ok (.iconst 1, 1) := by decide +kernel
theorem dX7_lasts_140 : decode cX7_lasts 140 = .ok (.if_icmp .ne 7, 3) := by decide +kernel
theorem dX7_lasts_143 : decode cX7_lasts 143 = .ok (.iload_n 3, 1) := by decide +kernel
theorem dX7_lasts_144 : decode cX7_lasts 144 = .ok (.goto 7, 3) := by decide +kernel
theorem dX7_lasts_147 : decode cX7_lasts 147 = .ok (.bipush 10, 2) := by decide +kernel
theorem dX7_lasts_149 : decode cX7_lasts 149 = .ok (.iload_n 3, 1) := by decide +kernel
theorem dX7_lasts_150 : decode cX7_lasts 150 = .ok (.isub, 1) := by decide +kernel
theorem dX7_lasts_151 : decode cX7_lasts 151 = .ok (.imul, 1) := by decide +kernel
theorem dX7_lasts_152 : decode cX7_lasts 152 = .ok (.istore 10, 2) := by decide +kernel
theorem dX7_lasts_154 : decode cX7_lasts 154 = .ok (.iinc 11 1, 3) := by decide +kernel
theorem dX7_lasts_157 : decode cX7_lasts 157 = .ok (.goto (-34), 3) := by decide +kernel
theorem dX7_lasts_160 : decode cX7_lasts 160 = .ok (.iload 7, 2) := by decide +kernel
theorem dX7_lasts_162 : decode cX7_lasts 162 = .ok (.iload 10, 2) := by decide +kernel
theorem dX7_lasts_164 : decode cX7_lasts 164 = .ok (.iadd, 1) := by decide +kernel
theorem dX7_lasts_165 : decode cX7_lasts 165 = .ok (.istore 7, 2) := by decide +kernel
theorem dX7_lasts_167 : decode cX7_lasts 167 = .ok (.iinc 9 1, 3) := by decide +kernel
theorem dX7_lasts_170 : decode cX7_lasts 170 = .ok (.goto (-76), 3) := by decide +kernel
theorem dX7_lasts_173 : decode cX7_lasts 173 = .ok (.iconst 0, 1) := by decide +kernel
theorem dX7_lasts_174 : decode cX7_lasts 174 = .ok (.istore 9, 2) := by decide +kernel
theorem dX7_lasts_176 : decode cX7_lasts 176 = .ok (.iload 9, 2) := by decide +kernel
theorem dX7_lasts_178 : decode cX7_lasts 178 = .ok (.iload 4, 2) := by decide +kernel
theorem dX7_lasts_180 : decode cX7_lasts 180 = .ok (.if_icmp .ge 16, 3) := by decide +kernel
theorem dX7_lasts_183 : decode cX7_lasts 183 = .ok (.iload 8, 2) := by decide +kernel
theorem dX7_lasts_185 : decode cX7_lasts 185 = .ok (.bipush 10, 2) := by decide +kernel
theorem dX7_lasts_187 : decode cX7_lasts 187 = .ok (.imul, 1) := by decide +kernel
theorem dX7_lasts_188 : decode cX7_lasts 188 = .ok (.istore 8, 2) := by decide +kernel
theorem dX7_lasts_190 : decode cX7_lasts 190 = .ok (.iinc 9 1, 3) := by decide +kernel
theorem dX7_lasts_193 : decode cX7_lasts 193 = .ok (.goto (-17), 3) := by decide +kernel
theorem dX7_lasts_196 : decode cX7_lasts 196 = .ok (.iload 7, 2) := by decide +kernel
theorem dX7_lasts_198 : decode cX7_lasts 198 = .ok (.istore 9, 2) := by decide +kernel
theorem dX7_lasts_200 : decode cX7_lasts 200 = .ok (.iload 8, 2) := by decide +kernel
theorem dX7_lasts_202 : decode cX7_lasts 202 = .ok (.istore 10, 2) := by decide +kernel
theorem dX7_lasts_204 : decode cX7_lasts 204 = .ok (.iload 10, 2) := by decide +kernel
theorem dX7_lasts_206 : decode cX7_lasts 206 = .ok (.ifCond .eq 21, 3) := by decide +kernel
theorem dX7_lasts_209 : decode cX7_lasts 209 = .ok (.iload 9, 2) := by decide +kernel
theorem dX7_lasts_211 : decode cX7_lasts 211 = .ok (.iload 10, 2) := by decide +kernel
theorem dX7_lasts_213 : decode cX7_lasts 213 = .ok (.irem, 1) := by decide +kernel
theorem dX7_lasts_214 : decode cX7_lasts 214 = .ok (.istore 11, 2) := by decide +kernel
theorem dX7_lasts_216 : decode cX7_lasts 216 = .ok (.iload 10, 2) := by decide +kernel
theorem dX7_lasts_218 : decode cX7_lasts 218 = .ok (.istore 9, 2) := by decide +kernel
theorem dX7_lasts_220 : decode cX7_lasts 220 = .ok (.iload 11, 2) := by decide +kernel
theorem dX7_lasts_222 : decode cX7_lasts 222 = .ok (.istore 10, 2) := by decide +kernel
theorem dX7_lasts_224 : decode cX7_lasts 224 = .ok (.goto (-20), 3) := by decide +kernel
theorem dX7_lasts_227 : decode cX7_lasts 227 = .ok (.iload 5, 2) := by decide +kernel
theorem dX7_lasts_229 : decode cX7_lasts 229 = .ok (.ifCond .ne 11, 3) := by decide +kernel
theorem dX7_lasts_232 : decode cX7_lasts 232 = .ok (.iload 7, 2) := by decide +kernel
theorem dX7_lasts_234 : decode cX7_lasts 234 = .ok (.iload 9, 2) := by decide +kernel
theorem dX7_lasts_236 : decode cX7_lasts 236 = .ok (.idiv, 1) := by decide +kernel
theorem dX7_lasts_237 : decode cX7_lasts 237 = .ok (.goto 8, 3) := by decide +kernel
theorem dX7_lasts_240 : decode cX7_lasts 240 = .ok (.iload 8, 2) := by decide +kernel
theorem dX7_lasts_242 : decode cX7_lasts 242 = .ok (.iload 9, 2) := by decide +kernel
theorem dX7_lasts_244 : decode cX7_lasts 244 = .ok (.idiv, 1) := by decide +kernel
theorem dX7_lasts_245 : decode cX7_lasts 245 = .ok (.ireturn, 1) := by decide +kernel
theorem dX7_year_0 : decode cX7_year 0 = .ok (.iload_n 1, 1) := by decide +kernel
theorem dX7_year_1 : decode cX7_year 1 = .ok (.iconst 0, 1) := by decide +kernel
theorem dX7_year_2 : decode cX7_year 2 = .ok (.sipush 9999, 3) := by decide +kernel
theorem dX7_year_5 : decode cX7_year 5 = .ok (.invokestatic 66, 3) := by decide +kernel
theorem dX7_year_8 : decode cX7_year 8 = .ok (.ifCond .eq 22, 3) := by decide +kernel
theorem dX7_year_11 : decode cX7_year 11 = .ok (.iload_n 2, 1) := by decide +kernel
theorem dX7_year_12 : decode cX7_year 12 = .ok (.iconst 1, 1) := by decide +kernel
theorem dX7_year_13 : decode cX7_year 13 = .ok (.bipush 60, 2) := by decide +kernel
theorem dX7_year_15 : decode cX7_year 15 = .ok (.invokestatic 66, 3) := by decide +kernel
theorem dX7_year_18 : decode cX7_year 18 = .ok (.ifCond .eq 12, 3) := by decide +kernel
theorem dX7_year_21 : decode cX7_year 21 = .ok (.iload_n 3, 1) := by decide +kernel
theorem dX7_year_22 : decode cX7_year 22 = .ok (.iconst 0, 1) := by decide +kernel
theorem dX7_year_23 : decode cX7_year 23 = .ok (.iconst 1, 1) := by decide +kernel
theorem dX7_year_24 : decode cX7_year 24 = .ok (.invokestatic 66, 3) := by decide +kernel
theorem dX7_year_27 : decode cX7_year 27 = .ok (.ifCond .ne 5, 3) := by decide +kernel
theorem dX7_year_30 : decode cX7_year 30 = .ok (.iconst (-1), 1) := by decide +kernel
theorem dX7_year_31 : decode cX7_year 31 = .ok (.ireturn, 1) := by decide +kernel
theorem dX7_year_32 : decode cX7_year 32 = .ok (.aload_n 0, 1) := by decide +kernel
theorem dX7_year_33 : decode cX7_year 33 = .ok (.iconst 0, 1) := by decide +kernel
theorem dX7_year_34 : decode cX7_year 34 = .ok (.sipush 341, 3) := by decide +kernel
theorem dX7_year_37 : decode cX7_year 37 = .ok (.invokevirtual 131, 3) := by decide +kernel
theorem dX7_year_40 : decode cX7_year 40 = .ok (.iconst 0, 1) := by decide +kernel
theorem dX7_year_41 : decode cX7_year 41 = .ok (.istore 4, 2) := by decide +kernel
theorem dX7_year_43 : decode cX7_year 43 = .ok (.iconst 0, 1) := by decide +kernel
theorem dX7_year_44 : decode cX7_year 44 = .ok (.istore 5, 2) := by decide +kernel
theorem dX7_year_46 : decode cX7_year 46 = .ok (.iload 5, 2) := by decide +kernel
theorem dX7_year_48 : decode cX7_year 48 = .ok (.iload_n 2, 1) := by decide +kernel
theorem dX7_year_49 : decode cX7_year 49 = .ok (.if_icmp .ge 158, 3) := by decide +kernel
theorem dX7_year_52 : decode cX7_year 52 = .ok (.iconst 0, 1) := by decide +kernel
theorem dX7_year_53 : decode cX7_year 53 = .ok (.istore 6, 2) := by decide +kernel
theorem dX7_year_55 : decode cX7_year 55 = .ok (.iload 6, 2) := by decide +kernel
theorem dX7_year_57 : decode cX7_year 57 = .ok (.aload_n 0, 1) := by decide +kernel
theorem dX7_year_58 : decode cX7_year 58 = .ok (.getfield 13, 3) := by decide +kernel
theorem dX7_year_61 : decode cX7_year 61 = .ok (.iconst 0, 1) := by decide +kernel
theorem dX7_year_62 : decode cX7_year 62 = .ok (.iaload, 1) := by decide +kernel
theorem dX7_year_63 : decode cX7_year 63 = .ok (.if_icmp .ge 82, 3) := by decide +kernel
theorem dX7_year_66 : decode cX7_year 66 = .ok (.ldc2_w 176, 3) := by decide +kernel
theorem dX7_year_69 : decode cX7_year 69 = .ok (.iload_n 1, 1) := by decide +kernel
theorem dX7_year_70 : decode cX7_year 70 = .ok (.i2l, 1) := by decide +kernel
theorem dX7_year_71 : decode cX7_year 71 = .ok (.lmul, 1) := by decide +kernel
theorem dX7_year_72 : decode cX7_year 72 = .ok (.ldc2_w 178, 3) := by decide +kernel
theorem dX7_year_75 : decode cX7_year 75 = .ok (.iload 5, 2) := by decide +kernel
theorem dX7_year_77 : decode cX7_year 77 = .ok (.i2l, 1) := by decide +kernel
theorem dX7_year_78 : decode cX7_year 78 = .ok (.lmul, 1) := by decide +kernel
theorem dX7_year_79 : decode cX7_year 79 = .ok (.ladd, 1) := by decide +kernel
theorem dX7_year_80 : decode cX7_year 80 = .ok (.ldc2_w 180, 3) := by decide +kernel
theorem dX7_year_83 : decode cX7_year 83 = .ok (.iload 6, 2) := by decide +kernel
theorem dX7_year_85 : decode cX7_year 85 = .ok (.i2l, 1) := by decide +kernel
theorem dX7_year_86 : decode cX7_year 86 = .ok (.lmul, 1) := by decide +kernel
theorem dX7_year_87 : decode cX7_year 87 = .ok (.ladd, 1) := by decide +kernel
theorem dX7_year_88 : decode cX7_year 88 = .ok (.lconst 1, 1) := by decide +kernel
theorem dX7_year_89 : decode cX7_year 89 = .ok (.ladd, 1) := by decide +kernel
theorem dX7_year_90 : decode cX7_year 90 = .ok (.lstore 7, 2) := by decide +kernel
theorem dX7_year_92 : decode cX7_year 92 = .ok (.lload 7, 2) := by decide +kernel
theorem dX7_year_94 : decode cX7_year 94 = .ok (.lload 7, 2) := by decide +kernel
theorem dX7_year_96 : decode cX7_year 96 = .ok (.lmul, 1) := by decide +kernel
theorem dX7_year_97 : decode cX7_year 97 = .ok (.ldc2_w 182, 3) := by decide +kernel
theorem dX7_year_100 : decode cX7_year 100 = .ok (.lrem, 1) := by decide +kernel
theorem dX7_year_101 : decode cX7_year 101 = .ok (.l2i, 1) := by decide +kernel
theorem dX7_year_102 : decode cX7_year 102 = .ok (.bipush 8, 2) := by decide +kernel
theorem dX7_year_104 : decode cX7_year 104 = .ok (.idiv, 1) := by decide +kernel
theorem dX7_year_105 : decode cX7_year 105 = .ok (.aload_n 0, 1) := by decide +kernel
theorem dX7_year_106 : decode cX7_year 106 = .ok (.getfield 23, 3) := by decide +kernel
theorem dX7_year_109 : decode cX7_year 109 = .ok (.iconst 0, 1) := by decide +kernel
theorem dX7_year_110 : decode cX7_year 110 = .ok (.iaload, 1) := by decide +kernel
theorem dX7_year_111 : decode cX7_year 111 = .ok (.iconst 1, 1) := by decide +kernel
theorem dX7_year_112 : decode cX7_year 112 = .ok (.iadd, 1) := by decide +kernel
theorem dX7_year_113 : decode cX7_year 113 = .ok (.irem, 1) := by decide +kernel
theorem dX7_year_114 : decode cX7_year 114 = .ok (.istore 9, 2) := by decide +kernel
theorem dX7_year_116 : decode cX7_year 116 = .ok (.iload 9, 2) := by decide +kernel
theorem dX7_year_118 : decode cX7_year 118 = .ok (.aload_n 0, 1) := by decide +kernel
theorem dX7_year_119 : decode cX7_year 119 = .ok (.getfield 23, 3) := by decide +kernel
theorem dX7_year_122 : decode cX7_year 122 = .ok (.iconst 0, 1) := by decide +kernel
theorem dX7_year_123 : decode cX7_year 123 = .ok (.iaload, 1) := by decide +kernel
theorem dX7_year_124 : decode cX7_year 124 = .ok (.if_icmp .ge 15, 3) := by decide +kernel
theorem dX7_year_127 : decode cX7_year 127 = .ok (.aload_n 0, 1) := by decide +kernel
theorem dX7_year_128 : decode cX7_year 128 = .ok (.sipush 341, 3) := by decide +kernel
theorem dX7_year_131 : decode cX7_year 131 = .ok (.iload 6, 2) := by decide +kernel
theorem dX7_year_133 : decode cX7_year 133 = .ok (.iload 9, 2) := by decide +kernel
theorem dX7_year_135 : decode cX7_year 135 = .ok (.invokevirtual 125, 3) := by decide +kernel
theorem dX7_year_138 : decode cX7_year 138 = .ok (.pop, 1) := by decide +kernel
theorem dX7_year_139 : decode cX7_year 139 = .ok (.iinc 6 1, 3) := by decide +kernel
theorem dX7_year_142 : decode cX7_year 142 = .ok (.goto (-87), 3) := by decide +kernel
theorem dX7_year_145 : decode cX7_year 145 = .ok (.aload_n 0, 1) := by decide +kernel
theorem dX7_year_146 : decode cX7_year 146 = .ok (.sipush 341, 3) := by decide +kernel
theorem dX7_year_149 : decode cX7_year 149 = .ok (.invokevirtual 141, 3) := by decide +kernel
theorem dX7_year_152 : decode cX7_year 152 = .ok (.iconst 0, 1) := by decide +kernel
theorem dX7_year_153 : decode cX7_year 153 = .ok (.istore 6, 2) := by decide +kernel
theorem dX7_year_155 : decode cX7_year 155 = .ok (.iload 6, 2) := by decide +kernel
theorem dX7_year_157 : decode cX7_year 157 = .ok (.aload_n 0, 1) := by decide +kernel
theorem dX7_year_158 : decode cX7_year 158 = .ok (.getfield 13, 3) := by decide +kernel
theorem dX7_year_161 : decode cX7_year 161 = .ok (.iconst 0, 1) := by decide +kernel
theorem dX7_year_162 : decode cX7_year 162 = .ok (.iaload, 1) := by decide +kernel
theorem dX7_year_163 : decode cX7_year 163 = .ok (.if_icmp .ge 31, 3) := by decide +kernel
theorem dX7_year_166 : decode cX7_year 166 = .ok (.iload 4, 2) := by decide +kernel
theorem dX7_year_168 : decode cX7_year 168 = .ok (.aload_n 0, 1) := by decide +kernel
theorem dX7_year_169 : decode cX7_year 169 = .ok (.sipush 341, 3) := by decide +kernel
theorem dX7_year_172 : decode cX7_year 172 = .ok (.iload 6, 2) := by decide +kernel
theorem dX7_year_174 : decode cX7_year 174 = .ok (.invokevirtual 108, 3) := by decide +kernel
theorem dX7_year_177 : decode cX7_year 177 = .ok (.ifCond .ne 7, 3) := by decide +kernel
theorem dX7_year_180 : decode cX7_year 180 = .ok (.iconst 1, 1) := by decide +kernel
theorem dX7_year_181 : decode cX7_year 181 = .ok (.goto 4, 3) := by decide +kernel
