theorem dX1_init_0 : decode cX1_init 0 = .ok (.aload_n 0, 1) := by decide +kernel
theorem dX1_init_1 : decode cX1_init 1 = .ok (.invokespecial 3, 3) := by decide +kernel
theorem dX1_init_4 : decode cX1_init 4 = .ok (.aload_n 0, 1) := by decide +kernel
theorem dX1_init_5 : decode cX1_init 5 = .ok (.sipush 200, 3) := by decide +kernel
theorem dX1_init_8 : decode cX1_init 8 = .ok (.newarray .int, 2) := by decide +kernel
theorem dX1_init_10 : decode cX1_init 10 = .ok (.putfield 11, 3) := by decide +kernel
theorem dX1_init_13 : decode cX1_init 13 = .ok (.aload_n 0, 1) := by decide +kernel
theorem dX1_init_14 : decode cX1_init 14 = .ok (.iconst 4, 1) := by decide +kernel
theorem dX1_init_15 : decode cX1_init 15 = .ok (.newarray .int, 2) := by decide +kernel
theorem dX1_init_17 : decode cX1_init 17 = .ok (.putfield 15, 3) := by decide +kernel
theorem dX1_init_20 : decode cX1_init 20 = .ok (.return_, 1) := by decide +kernel
theorem dX1_add_0 : decode cX1_add 0 = .ok (.aload_n 0, 1) := by decide +kernel
theorem dX1_add_1 : decode cX1_add 1 = .ok (.getfield 18, 3) := by decide +kernel
theorem dX1_add_4 : decode cX1_add 4 = .ok (.sipush 200, 3) := by decide +kernel
theorem dX1_add_7 : decode cX1_add 7 = .ok (.if_icmp .lt 5, 3) := by decide +kernel
theorem dX1_add_10 : decode cX1_add 10 = .ok (.iconst 0, 1) := by decide +kernel
theorem dX1_add_11 : decode cX1_add 11 = .ok (.ireturn, 1) := by decide +kernel
theorem dX1_add_12 : decode cX1_add 12 = .ok (.aload_n 0, 1) := by decide +kernel
theorem dX1_add_13 : decode cX1_add 13 = .ok (.getfield 11, 3) := by decide +kernel
theorem dX1_add_16 : decode cX1_add 16 = .ok (.aload_n 0, 1) := by decide +kernel
theorem dX1_add_17 : decode cX1_add 17 = .ok (.getfield 18, 3) := by decide +kernel
theorem dX1_add_20 : decode cX1_add 20 = .ok (.iload_n 1, 1) := by decide +kernel
theorem dX1_add_21 : decode cX1_add 21 = .ok (.iastore, 1) := by decide +kernel
theorem dX1_add_22 : decode cX1_add 22 = .ok (.aload_n 0, 1) := by decide +kernel
theorem dX1_add_23 : decode cX1_add 23 = .ok (.dup, 1) := by decide +kernel
theorem dX1_add_24 : decode cX1_add 24 = .ok (.getfield 18, 3) := by decide +kernel
theorem dX1_add_27 : decode cX1_add 27 = .ok (.iconst 1, 1) := by decide +kernel
theorem dX1_add_28 : decode cX1_add 28 = .ok (.iadd, 1) := by decide +kernel
theorem dX1_add_29 : decode cX1_add 29 = .ok (.putfield 18, 3) := by decide +kernel
theorem dX1_add_32 : decode cX1_add 32 = .ok (.iconst 1, 1) := by decide +kernel
theorem dX1_add_33 : decode cX1_add 33 = .ok (.ireturn, 1) := by decide +kernel
theorem dX1_firstFault_0 : decode cX1_firstFault 0 = .ok (.aload_n 1, 1) := by decide +kernel
theorem dX1_firstFault_1 : decode cX1_firstFault 1 = .ok (.invokevirtual 22, 3) := by decide +kernel
theorem dX1_firstFault_4 : decode cX1_firstFault 4 = .ok (.aload_n 0, 1) := by decide +kernel
theorem dX1_firstFault_5 : decode cX1_firstFault 5 = .ok (.iconst 0, 1) := by decide +kernel
theorem dX1_firstFault_6 : decode cX1_firstFault 6 = .ok (.putfield 27, 3) := by decide +kernel
theorem dX1_firstFault_9 : decode cX1_firstFault 9 = .ok (.iconst 0, 1) := by decide +kernel
theorem dX1_firstFault_10 : decode cX1_firstFault 10 = .ok (.istore_n 2, 1) := by decide +kernel
theorem dX1_firstFault_11 : decode cX1_firstFault 11 = .ok (.iload_n 2, 1) := by decide +kernel
theorem dX1_firstFault_12 : decode cX1_firstFault 12 = .ok (.sipush 200, 3) := by decide +kernel
theorem dX1_firstFault_15 : decode cX1_firstFault 15 = .ok (.if_icmp .ge 35, 3) := by decide +kernel
theorem dX1_firstFault_18 : decode cX1_firstFault 18 = .ok (.aload_n 0, 1) := by decide +kernel
theorem dX1_firstFault_19 : decode cX1_firstFault 19 = .ok (.getfield 27, 3) := by decide +kernel
theorem dX1_firstFault_22 : decode cX1_firstFault 22 = .ok (.aload_n 0, 1) := by decide +kernel
theorem dX1_firstFault_23 : decode cX1_firstFault 23 = .ok (.getfield 18, 3) := by decide +kernel
theorem dX1_firstFault_26 : decode cX1_firstFault 26 = .ok (.if_icmp .ge 24, 3) := by decide +kernel
theorem dX1_firstFault_29 : decode cX1_firstFault 29 = .ok (.aload_n 0, 1) := by decide +kernel
theorem dX1_firstFault_30 : decode cX1_firstFault 30 = .ok (.getfield 27, 3) := by decide +kernel
theorem dX1_firstFault_33 : decode cX1_firstFault 33 = .ok (.istore_n 3, 1) := by decide +kernel
theorem dX1_firstFault_34 : decode cX1_firstFault 34 = .ok (.aload_n 0, 1) := by decide +kernel
theorem dX1_firstFault_35 : decode cX1_firstFault 35 = .ok (.aload_n 1, 1) := by decide +kernel
theorem dX1_firstFault_36 : decode cX1_firstFault 36 = .ok (.invokevirtual 30, 3) := by decide +kernel
theorem dX1_firstFault_39 : decode cX1_firstFault 39 = .ok (.ifCond .ne 5, 3) := by decide +kernel
theorem dX1_firstFault_42 : decode cX1_firstFault 42 = .ok (.iload_n 3, 1) := by decide +kernel
theorem dX1_firstFault_43 : decode cX1_firstFault 43 = .ok (.ireturn, 1) := by decide +kernel
theorem dX1_firstFault_44 : decode cX1_firstFault 44 = .ok (.iinc 2 1, 3) := by decide +kernel
theorem dX1_firstFault_47 : decode cX1_firstFault 47 = .ok (.goto (-36), 3) := by decide +kernel
theorem dX1_firstFault_50 : decode cX1_firstFault 50 = .ok (.bipush (-4), 2) := by decide +kernel
theorem dX1_firstFault_52 : decode cX1_firstFault 52 = .ok (.ireturn, 1) := by decide +kernel
theorem dX1_readItem_0 : decode cX1_readItem 0 = .ok (.aload_n 0, 1) := by decide +kernel
theorem dX1_readItem_1 : decode cX1_readItem 1 = .ok (.invokevirtual 34, 3) := by decide +kernel
theorem dX1_readItem_4 : decode cX1_readItem 4 = .ok (.istore_n 2, 1) := by decide +kernel
theorem dX1_readItem_5 : decode cX1_readItem 5 = .ok (.iload_n 2, 1) := by decide +kernel
theorem dX1_readItem_6 : decode cX1_readItem 6 = .ok (.invokestatic 38, 3) := by decide +kernel
theorem dX1_readItem_9 : decode cX1_readItem 9 = .ok (.istore_n 3, 1) := by decide +kernel
theorem dX1_readItem_10 : decode cX1_readItem 10 = .ok (.iconst 0, 1) := by decide +kernel
theorem dX1_readItem_11 : decode cX1_readItem 11 = .ok (.istore 4, 2) := by decide +kernel
theorem dX1_readItem_13 : decode cX1_readItem 13 = .ok (.iload 4, 2) := by decide +kernel
theorem dX1_readItem_15 : decode cX1_readItem 15 = .ok (.iload_n 3, 1) := by decide +kernel
theorem dX1_readItem_16 : decode cX1_readItem 16 = .ok (.if_icmp .ge 58, 3) := by decide +kernel
theorem dX1_readItem_19 : decode cX1_readItem 19 = .ok (.aload_n 0, 1) := by decide +kernel
theorem dX1_readItem_20 : decode cX1_readItem 20 = .ok (.getfield 15, 3) := by decide +kernel
theorem dX1_readItem_23 : decode cX1_readItem 23 = .ok (.iload 4, 2) := by decide +kernel
theorem dX1_readItem_25 : decode cX1_readItem 25 = .ok (.aload_n 0, 1) := by decide +kernel
theorem dX1_readItem_26 : decode cX1_readItem 26 = .ok (.invokevirtual 42, 3) := by decide +kernel
theorem dX1_readItem_29 : decode cX1_readItem 29 = .ok (.iastore, 1) := by decide +kernel
theorem dX1_readItem_30 : decode cX1_readItem 30 = .ok (.iload 4, 2) := by decide +kernel
theorem dX1_readItem_32 : decode cX1_readItem 32 = .ok (.iload_n 3, 1) := by decide +kernel
theorem dX1_readItem_33 : decode cX1_readItem 33 = .ok (.iconst 1, 1) := by decide +kernel
theorem dX1_readItem_34 : decode cX1_readItem 34 = .ok (.isub, 1) := by decide +kernel
theorem dX1_readItem_35 : decode cX1_readItem 35 = .ok (.if_icmp .ne 8, 3) := by decide +kernel
theorem dX1_readItem_38 : decode cX1_readItem 38 = .ok (.bipush 59, 2) := by decide +kernel
theorem dX1_readItem_40 : decode cX1_readItem 40 = .ok (.goto 5, 3) := by decide +kernel
theorem dX1_readItem_43 : decode cX1_readItem 43 = .ok (.bipush 44, 2) := by decide +kernel
theorem dX1_readItem_45 : decode cX1_readItem 45 = .ok (.istore 5, 2) := by decide +kernel
theorem dX1_readItem_47 : decode cX1_readItem 47 = .ok (.aload_n 0, 1) := by decide +kernel
theorem dX1_readItem_48 : decode cX1_readItem 48 = .ok (.getfield 15, 3) := by decide +kernel
theorem dX1_readItem_51 : decode cX1_readItem 51 = .ok (.iload 4, 2) := by decide +kernel
theorem dX1_readItem_53 : decode cX1_readItem 53 = .ok (.iaload, 1) := by decide +kernel
theorem dX1_readItem_54 : decode cX1_readItem 54 = .ok (.ifCond .lt 12, 3) := by decide +kernel
theorem dX1_readItem_57 : decode cX1_readItem 57 = .ok (.aload_n 0, 1) := by decide +kernel
theorem dX1_readItem_58 : decode cX1_readItem 58 = .ok (.invokevirtual 34, 3) := by decide +kernel
theorem dX1_readItem_61 : decode cX1_readItem 61 = .ok (.iload 5, 2) := by decide +kernel
theorem dX1_readItem_63 : decode cX1_readItem 63 = .ok (.if_icmp .eq 5, 3) := by decide +kernel
theorem dX1_readItem_66 : decode cX1_readItem 66 = .ok (.iconst 0, 1) := by decide +kernel
theorem dX1_readItem_67 : decode cX1_readItem 67 = .ok (.ireturn, 1) := by decide +kernel
theorem dX1_readItem_68 : decode cX1_readItem 68 = .ok (.iinc 4 1, 3) := by decide +kernel
theorem dX1_readItem_71 : decode cX1_readItem 71 = .ok (.goto (-58), 3) := by decide +kernel
theorem dX1_readItem_74 : decode cX1_readItem 74 = .ok (.aload_n 1, 1) := by decide +kernel
theorem dX1_readItem_75 : decode cX1_readItem 75 = .ok (.iload_n 2, 1) := by decide +kernel
theorem dX1_readItem_76 : decode cX1_readItem 76 = .ok (.aload_n 0, 1) := by decide +kernel
theorem dX1_readItem_77 : decode cX1_readItem 77 = .ok (.getfield 15, 3) := by decide +kernel
theorem dX1_readItem_80 : decode cX1_readItem 80 = .ok (.invokevirtual 45, 3) := by decide +kernel
theorem dX1_readItem_83 : decode cX1_readItem 83 = .ok (.ireturn, 1) := by decide +kernel
theorem dX1_numbersBehind_0 : decode cX1_numbersBehind 0 = .ok (.iload_n 0, 1) := by decide +kernel
theorem dX1_numbersBehind_1 : decode cX1_numbersBehind 1 = .ok (.lookupswitch 49 #[(99, 47), (100, 43), (104, 45), (112, 43)], 43) := by decide +kernel
theorem dX1_numbersBehind_44 : decode cX1_numbersBehind 44 = .ok (.iconst 4, 1) := by decide +kernel
theorem dX1_numbersBehind_45 : decode cX1_numbersBehind 45 = .ok (.ireturn, 1) := by decide +kernel
theorem dX1_numbersBehind_46 : decode cX1_numbersBehind 46 = .ok (.iconst 3, 1) := by decide +kernel
theorem dX1_numbersBehind_47 : decode cX1_numbersBehind 47 = .ok (.ireturn, 1) := by decide +kernel
theorem dX1_numbersBehind_48 : decode cX1_numbersBehind 48 = .ok (.iconst 1, 1) := by decide +kernel
theorem dX1_numbersBehind_49 : decode cX1_numbersBehind 49 = .ok (.ireturn, 1) := by decide +kernel
theorem dX1_numbersBehind_50 : decode cX1_numbersBehind 50 = .ok (.iconst 0, 1) := by decide +kernel
theorem dX1_numbersBehind_51 : decode cX1_numbersBehind 51 = .ok (.ireturn, 1) := by decide +kernel
theorem dX1_readLetter_0 : decode cX1_readLetter 0 = .ok (.aload_n 0, 1) := by decide +kernel
theorem dX1_readLetter_1 : decode cX1_readLetter 1 = .ok (.getfield 27, 3) := by decide +kernel
theorem dX1_readLetter_4 : decode cX1_readLetter 4 = .ok (.aload_n 0, 1) := by decide +kernel
theorem dX1_readLetter_5 : decode cX1_readLetter 5 = .ok (.getfield 18, 3) := by decide +kernel
theorem dX1_readLetter_8 : decode cX1_readLetter 8 = .ok (.if_icmp .lt 6, 3) := by decide +kernel
theorem dX1_readLetter_11 : decode cX1_readLetter 11 = .ok (.bipush (-4), 2) := by decide +kernel
theorem dX1_readLetter_13 : decode cX1_readLetter 13 = .ok (.ireturn, 1) := by decide +kernel
theorem dX1_readLetter_14 : decode cX1_readLetter 14 = .ok (.aload_n 0, 1) := by decide +kernel
theorem dX1_readLetter_15 : decode cX1_readLetter 15 = .ok (.dup, 1) := by decide +kernel
theorem dX1_readLetter_16 : decode cX1_readLetter 16 = .ok (.getfield 27, 3) := by decide +kernel
theorem dX1_readLetter_19 : decode cX1_readLetter 19 = .ok (.iconst 1, 1) := by decide +kernel
theorem dX1_readLetter_20 : decode cX1_readLetter 20 = .ok (.iadd, 1) := by decide +kernel
theorem dX1_readLetter_21 : decode cX1_readLetter 21 = .ok (.putfield 27, 3) := by decide +kernel
theorem dX1_readLetter_24 : decode cX1_readLetter 24 = .ok (.aload_n 0, 1) := by decide +kernel
theorem dX1_readLetter_25 : decode cX1_readLetter 25 = .ok (.getfield 11, 3) := by decide +kernel
theorem dX1_readLetter_28 : decode cX1_readLetter 28 = .ok (.aload_n 0, 1) := by decide +kernel
theorem dX1_readLetter_29 : decode cX1_readLetter 29 = .ok (.getfield 27, 3) := by decide +kernel
theorem dX1_readLetter_32 : decode cX1_readLetter 32 = .ok (.iconst 1, 1) := by decide +kernel
theorem dX1_readLetter_33 : decode cX1_readLetter 33 = .ok (.isub, 1) := by decide +kernel
theorem dX1_readLetter_34 : decode cX1_readLetter 34 = .ok (.iaload, 1) := by decide +kernel
theorem dX1_readLetter_35 : decode cX1_readLetter 35 = .ok (.ireturn, 1) := by decide +kernel
theorem dX1_readNumber_0 : decode cX1_readNumber 0 = .ok (.bipush (-4), 2) := by decide +kernel
theorem dX1_readNumber_2 : decode cX1_readNumber 2 = .ok (.istore_n 1, 1) := by decide +kernel
theorem dX1_readNumber_3 : decode cX1_readNumber 3 = .ok (.iconst 0, 1) := by decide +kernel
theorem dX1_readNumber_4 : decode cX1_readNumber 4 = .ok (.istore_n 2, 1) := by decide +kernel
theorem dX1_readNumber_5 : decode cX1_readNumber 5 = .ok (.iload_n 2, 1) := by decide +kernel
theorem dX1_readNumber_6 : decode cX1_readNumber 6 = .ok (.iconst 2, 1) := by decide +kernel
theorem dX1_readNumber_7 : decode cX1_readNumber 7 = .ok (.if_icmp .ge 72, 3) := by decide +kernel
theorem dX1_readNumber_10 : decode cX1_readNumber 10 = .ok (.aload_n 0, 1) := by decide +kernel
theorem dX1_readNumber_11 : decode cX1_readNumber 11 = .ok (.getfield 27, 3) := by decide +kernel
theorem dX1_readNumber_14 : decode cX1_readNumber 14 = .ok (.aload_n 0, 1) := by decide +kernel
theorem dX1_readNumber_15 : decode cX1_readNumber 15 = .ok (.getfield 18, 3) := by decide +kernel
theorem dX1_readNumber_18 : decode cX1_readNumber 18 = .ok (.if_icmp .ge 61, 3) := by decide +kernel
theorem dX1_readNumber_21 : decode cX1_readNumber 21 = .ok (.aload_n 0, 1) := by decide +kernel
theorem dX1_readNumber_22 : decode cX1_readNumber 22 = .ok (.getfield 11, 3) := by decide +kernel
theorem dX1_readNumber_25 : decode cX1_readNumber 25 = .ok (.aload_n 0, 1) := by decide +kernel
theorem dX1_readNumber_26 : decode cX1_readNumber 26 = .ok (.getfield 27, 3) := by decide +kernel
theorem dX1_readNumber_29 : decode cX1_readNumber 29 = .ok (.iaload, 1) := by decide +kernel
theorem dX1_readNumber_30 : decode cX1_readNumber 30 = .ok (.istore_n 3, 1) := by decide +kernel
theorem dX1_readNumber_31 : decode cX1_readNumber 31 = .ok (.iload_n 3, 1) := by decide +kernel
theorem dX1_readNumber_32 : decode cX1_readNumber 32 = .ok (.bipush 48, 2) := by decide +kernel
theorem dX1_readNumber_34 : decode cX1_readNumber 34 = .ok (.bipush 57, 2) := by decide +kernel
theorem dX1_readNumber_36 : decode cX1_readNumber 36 = .ok (.invokestatic 49, 3) := by decide +kernel
theorem dX1_readNumber_39 : decode cX1_readNumber 39 = .ok (.ifCond .ne 6, 3) := by decide +kernel
theorem dX1_readNumber_42 : decode cX1_readNumber 42 = .ok (.goto 37, 3) := by decide +kernel
theorem dX1_readNumber_45 : decode cX1_readNumber 45 = .ok (.iload_n 2, 1) := by decide +kernel
theorem dX1_readNumber_46 : decode cX1_readNumber 46 = .ok (.ifCond .ne 7, 3) := by decide +kernel
theorem dX1_readNumber_49 : decode cX1_readNumber 49 = .ok (.iconst 0, 1) := by decide +kernel
theorem dX1_readNumber_50 : decode cX1_readNumber 50 = .ok (.goto 7, 3) := by decide +kernel
theorem dX1_readNumber_53 : decode cX1_readNumber 53 = .ok (.iload_n 1, 1) := by decide +kernel
theorem dX1_readNumber_54 : decode cX1_readNumber 54 = .ok (.bipush 10, 2) := by decide +kernel
theorem dX1_readNumber_56 : decode cX1_readNumber 56 = .ok (.imul, 1) := by decide +kernel
theorem dX1_readNumber_57 : decode cX1_readNumber 57 = .ok (.iload_n 3, 1) := by decide +kernel
theorem dX1_readNumber_58 : decode cX1_readNumber 58 = .ok (.iadd, 1) := by decide +kernel
theorem dX1_readNumber_59 : decode cX1_readNumber 59 = .ok (.bipush 48, 2) := by decide +kernel
theorem dX1_readNumber_61 : decode cX1_readNumber 61 = .ok (.isub, 1) := by decide +kernel
theorem dX1_readNumber_62 : decode cX1_readNumber 62 = .ok (.istore_n 1, 1) := by decide +kernel
theorem dX1_readNumber_63 : decode cX1_readNumber 63 = .ok (.aload_n 0, 1) := by decide +kernel
theorem dX1_readNumber_64 : decode cX1_readNumber 64 = .ok (.dup, 1) := by decide +kernel
theorem dX1_readNumber_65 : decode cX1_readNumber 65 = .ok (.getfield 27, 3) := by decide +kernel
theorem dX1_readNumber_68 : decode cX1_readNumber 68 = .ok (.iconst 1, 1) := by decide +kernel
theorem dX1_readNumber_69 : decode cX1_readNumber 69 = .ok (.iadd, 1) := by decide +kernel
theorem dX1_readNumber_70 : decode cX1_readNumber 70 = .ok (.putfield 27, 3) := by decide +kernel
theorem dX1_readNumber_73 : decode cX1_readNumber 73 = .ok (.iinc 2 1, 3) := by decide +kernel
theorem dX1_readNumber_76 : decode cX1_readNumber 76 = .ok (.goto (-71), 3) := by decide +kernel
theorem dX1_readNumber_79 : decode cX1_readNumber 79 = .ok (.iload_n 1, 1) := by decide +kernel
theorem dX1_readNumber_80 : decode cX1_readNumber 80 = .ok (.ireturn, 1) := by decide +kernel
