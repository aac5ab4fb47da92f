theorem dX4_init_0 : decode cX4_init 0 = .ok (.aload_n 0, 1) := by decide +kernel
theorem dX4_init_1 : decode cX4_init 1 = .ok (.invokespecial 3, 3) := by decide +kernel
theorem dX4_init_4 : decode cX4_init 4 = .ok (.aload_n 0, 1) := by decide +kernel
theorem dX4_init_5 : decode cX4_init 5 = .ok (.bipush 6, 2) := by decide +kernel
theorem dX4_init_7 : decode cX4_init 7 = .ok (.newarray .int, 2) := by decide +kernel
theorem dX4_init_9 : decode cX4_init 9 = .ok (.putfield 9, 3) := by decide +kernel
theorem dX4_init_12 : decode cX4_init 12 = .ok (.aload_n 0, 1) := by decide +kernel
theorem dX4_init_13 : decode cX4_init 13 = .ok (.bipush 18, 2) := by decide +kernel
theorem dX4_init_15 : decode cX4_init 15 = .ok (.newarray .int, 2) := by decide +kernel
theorem dX4_init_17 : decode cX4_init 17 = .ok (.putfield 15, 3) := by decide +kernel
theorem dX4_init_20 : decode cX4_init 20 = .ok (.aload_n 0, 1) := by decide +kernel
theorem dX4_init_21 : decode cX4_init 21 = .ok (.bipush 18, 2) := by decide +kernel
theorem dX4_init_23 : decode cX4_init 23 = .ok (.newarray .int, 2) := by decide +kernel
theorem dX4_init_25 : decode cX4_init 25 = .ok (.putfield 18, 3) := by decide +kernel
theorem dX4_init_28 : decode cX4_init 28 = .ok (.aload_n 0, 1) := by decide +kernel
theorem dX4_init_29 : decode cX4_init 29 = .ok (.bipush 6, 2) := by decide +kernel
theorem dX4_init_31 : decode cX4_init 31 = .ok (.newarray .int, 2) := by decide +kernel
theorem dX4_init_33 : decode cX4_init 33 = .ok (.putfield 21, 3) := by decide +kernel
theorem dX4_init_36 : decode cX4_init 36 = .ok (.aload_n 0, 1) := by decide +kernel
theorem dX4_init_37 : decode cX4_init 37 = .ok (.bipush 42, 2) := by decide +kernel
theorem dX4_init_39 : decode cX4_init 39 = .ok (.newarray .int, 2) := by decide +kernel
theorem dX4_init_41 : decode cX4_init 41 = .ok (.putfield 24, 3) := by decide +kernel
theorem dX4_init_44 : decode cX4_init 44 = .ok (.aload_n 0, 1) := by decide +kernel
theorem dX4_init_45 : decode cX4_init 45 = .ok (.iconst 3, 1) := by decide +kernel
theorem dX4_init_46 : decode cX4_init 46 = .ok (.newarray .int, 2) := by decide +kernel
theorem dX4_init_48 : decode cX4_init 48 = .ok (.putfield 27, 3) := by decide +kernel
theorem dX4_init_51 : decode cX4_init 51 = .ok (.return_, 1) := by decide +kernel
theorem dX4_empty_0 : decode cX4_empty 0 = .ok (.aload_n 0, 1) := by decide +kernel
theorem dX4_empty_1 : decode cX4_empty 1 = .ok (.iconst 0, 1) := by decide +kernel
theorem dX4_empty_2 : decode cX4_empty 2 = .ok (.putfield 30, 3) := by decide +kernel
theorem dX4_empty_5 : decode cX4_empty 5 = .ok (.aload_n 0, 1) := by decide +kernel
theorem dX4_empty_6 : decode cX4_empty 6 = .ok (.iconst 0, 1) := by decide +kernel
theorem dX4_empty_7 : decode cX4_empty 7 = .ok (.putfield 34, 3) := by decide +kernel
theorem dX4_empty_10 : decode cX4_empty 10 = .ok (.aload_n 0, 1) := by decide +kernel
theorem dX4_empty_11 : decode cX4_empty 11 = .ok (.iconst 1, 1) := by decide +kernel
theorem dX4_empty_12 : decode cX4_empty 12 = .ok (.putfield 37, 3) := by decide +kernel
theorem dX4_empty_15 : decode cX4_empty 15 = .ok (.iconst 0, 1) := by decide +kernel
theorem dX4_empty_16 : decode cX4_empty 16 = .ok (.istore_n 1, 1) := by decide +kernel
theorem dX4_empty_17 : decode cX4_empty 17 = .ok (.iload_n 1, 1) := by decide +kernel
theorem dX4_empty_18 : decode cX4_empty 18 = .ok (.aload_n 0, 1) := by decide +kernel
theorem dX4_empty_19 : decode cX4_empty 19 = .ok (.getfield 24, 3) := by decide +kernel
theorem dX4_empty_22 : decode cX4_empty 22 = .ok (.arraylength, 1) := by decide +kernel
theorem dX4_empty_23 : decode cX4_empty 23 = .ok (.if_icmp .ge 17, 3) := by decide +kernel
theorem dX4_empty_26 : decode cX4_empty 26 = .ok (.aload_n 0, 1) := by decide +kernel
theorem dX4_empty_27 : decode cX4_empty 27 = .ok (.getfield 24, 3) := by decide +kernel
theorem dX4_empty_30 : decode cX4_empty 30 = .ok (.iload_n 1, 1) := by decide +kernel
theorem dX4_empty_31 : decode cX4_empty 31 = .ok (.bipush (-4), 2) := by decide +kernel
theorem dX4_empty_33 : decode cX4_empty 33 = .ok (.iastore, 1) := by decide +kernel
theorem dX4_empty_34 : decode cX4_empty 34 = .ok (.iinc 1 1, 3) := by decide +kernel
theorem dX4_empty_37 : decode cX4_empty 37 = .ok (.goto (-20), 3) := by decide +kernel
theorem dX4_empty_40 : decode cX4_empty 40 = .ok (.return_, 1) := by decide +kernel
theorem dX4_take_0 : decode cX4_take 0 = .ok (.iload_n 1, 1) := by decide +kernel
theorem dX4_take_1 : decode cX4_take 1 = .ok (.lookupswitch 67 #[(99, 61), (100, 49), (104, 55), (112, 43)], 43) := by decide +kernel
theorem dX4_take_44 : decode cX4_take 44 = .ok (.aload_n 0, 1) := by decide +kernel
theorem dX4_take_45 : decode cX4_take 45 = .ok (.aload_n 2, 1) := by decide +kernel
theorem dX4_take_46 : decode cX4_take 46 = .ok (.invokevirtual 40, 3) := by decide +kernel
theorem dX4_take_49 : decode cX4_take 49 = .ok (.ireturn, 1) := by decide +kernel
theorem dX4_take_50 : decode cX4_take 50 = .ok (.aload_n 0, 1) := by decide +kernel
theorem dX4_take_51 : decode cX4_take 51 = .ok (.aload_n 2, 1) := by decide +kernel
theorem dX4_take_52 : decode cX4_take 52 = .ok (.invokevirtual 44, 3) := by decide +kernel
theorem dX4_take_55 : decode cX4_take 55 = .ok (.ireturn, 1) := by decide +kernel
theorem dX4_take_56 : decode cX4_take 56 = .ok (.aload_n 0, 1) := by decide +kernel
theorem dX4_take_57 : decode cX4_take 57 = .ok (.aload_n 2, 1) := by decide +kernel
theorem dX4_take_58 : decode cX4_take 58 = .ok (.invokevirtual 47, 3) := by decide +kernel
theorem dX4_take_61 : decode cX4_take 61 = .ok (.ireturn, 1) := by decide +kernel
theorem dX4_take_62 : decode cX4_take 62 = .ok (.aload_n 0, 1) := by decide +kernel
theorem dX4_take_63 : decode cX4_take 63 = .ok (.aload_n 2, 1) := by decide +kernel
theorem dX4_take_64 : decode cX4_take 64 = .ok (.invokevirtual 50, 3) := by decide +kernel
theorem dX4_take_67 : decode cX4_take 67 = .ok (.ireturn, 1) := by decide +kernel
theorem dX4_take_68 : decode cX4_take 68 = .ok (.iconst 0, 1) := by decide +kernel
theorem dX4_take_69 : decode cX4_take 69 = .ok (.ireturn, 1) := by decide +kernel
theorem dX4_takePerson_0 : decode cX4_takePerson 0 = .ok (.aload_n 0, 1) := by decide +kernel
theorem dX4_takePerson_1 : decode cX4_takePerson 1 = .ok (.getfield 30, 3) := by decide +kernel
theorem dX4_takePerson_4 : decode cX4_takePerson 4 = .ok (.bipush 6, 2) := by decide +kernel
theorem dX4_takePerson_6 : decode cX4_takePerson 6 = .ok (.if_icmp .ge 20, 3) := by decide +kernel
theorem dX4_takePerson_9 : decode cX4_takePerson 9 = .ok (.aload_n 1, 1) := by decide +kernel
theorem dX4_takePerson_10 : decode cX4_takePerson 10 = .ok (.iconst 0, 1) := by decide +kernel
theorem dX4_takePerson_11 : decode cX4_takePerson 11 = .ok (.iaload, 1) := by decide +kernel
theorem dX4_takePerson_12 : decode cX4_takePerson 12 = .ok (.iconst 4, 1) := by decide +kernel
theorem dX4_takePerson_13 : decode cX4_takePerson 13 = .ok (.if_icmp .gt 13, 3) := by decide +kernel
theorem dX4_takePerson_16 : decode cX4_takePerson 16 = .ok (.bipush 9, 2) := by decide +kernel
theorem dX4_takePerson_18 : decode cX4_takePerson 18 = .ok (.aload_n 1, 1) := by decide +kernel
theorem dX4_takePerson_19 : decode cX4_takePerson 19 = .ok (.iconst 1, 1) := by decide +kernel
theorem dX4_takePerson_20 : decode cX4_takePerson 20 = .ok (.invokestatic 53, 3) := by decide +kernel
theorem dX4_takePerson_23 : decode cX4_takePerson 23 = .ok (.ifCond .ne 5, 3) := by decide +kernel
theorem dX4_takePerson_26 : decode cX4_takePerson 26 = .ok (.iconst 0, 1) := by decide +kernel
theorem dX4_takePerson_27 : decode cX4_takePerson 27 = .ok (.ireturn, 1) := by decide +kernel
theorem dX4_takePerson_28 : decode cX4_takePerson 28 = .ok (.aload_n 0, 1) := by decide +kernel
theorem dX4_takePerson_29 : decode cX4_takePerson 29 = .ok (.getfield 9, 3) := by decide +kernel
theorem dX4_takePerson_32 : decode cX4_takePerson 32 = .ok (.aload_n 0, 1) := by decide +kernel
theorem dX4_takePerson_33 : decode cX4_takePerson 33 = .ok (.getfield 30, 3) := by decide +kernel
theorem dX4_takePerson_36 : decode cX4_takePerson 36 = .ok (.aload_n 1, 1) := by decide +kernel
theorem dX4_takePerson_37 : decode cX4_takePerson 37 = .ok (.iconst 0, 1) := by decide +kernel
theorem dX4_takePerson_38 : decode cX4_takePerson 38 = .ok (.iaload, 1) := by decide +kernel
theorem dX4_takePerson_39 : decode cX4_takePerson 39 = .ok (.iastore, 1) := by decide +kernel
theorem dX4_takePerson_40 : decode cX4_takePerson 40 = .ok (.aload_n 1, 1) := by decide +kernel
theorem dX4_takePerson_41 : decode cX4_takePerson 41 = .ok (.iconst 1, 1) := by decide +kernel
theorem dX4_takePerson_42 : decode cX4_takePerson 42 = .ok (.aload_n 0, 1) := by decide +kernel
theorem dX4_takePerson_43 : decode cX4_takePerson 43 = .ok (.getfield 15, 3) := by decide +kernel
theorem dX4_takePerson_46 : decode cX4_takePerson 46 = .ok (.aload_n 0, 1) := by decide +kernel
theorem dX4_takePerson_47 : decode cX4_takePerson 47 = .ok (.getfield 30, 3) := by decide +kernel
theorem dX4_takePerson_50 : decode cX4_takePerson 50 = .ok (.iconst 3, 1) := by decide +kernel
theorem dX4_takePerson_51 : decode cX4_takePerson 51 = .ok (.imul, 1) := by decide +kernel
theorem dX4_takePerson_52 : decode cX4_takePerson 52 = .ok (.iconst 3, 1) := by decide +kernel
theorem dX4_takePerson_53 : decode cX4_takePerson 53 = .ok (.invokestatic 57, 3) := by decide +kernel
theorem dX4_takePerson_56 : decode cX4_takePerson 56 = .ok (.aload_n 0, 1) := by decide +kernel
theorem dX4_takePerson_57 : decode cX4_takePerson 57 = .ok (.dup, 1) := by decide +kernel
theorem dX4_takePerson_58 : decode cX4_takePerson 58 = .ok (.getfield 30, 3) := by decide +kernel
theorem dX4_takePerson_61 : decode cX4_takePerson 61 = .ok (.iconst 1, 1) := by decide +kernel
theorem dX4_takePerson_62 : decode cX4_takePerson 62 = .ok (.iadd, 1) := by decide +kernel
theorem dX4_takePerson_63 : decode cX4_takePerson 63 = .ok (.putfield 30, 3) := by decide +kernel
theorem dX4_takePerson_66 : decode cX4_takePerson 66 = .ok (.iconst 1, 1) := by decide +kernel
theorem dX4_takePerson_67 : decode cX4_takePerson 67 = .ok (.ireturn, 1) := by decide +kernel
theorem dX4_takeDeed_0 : decode cX4_takeDeed 0 = .ok (.aload_n 0, 1) := by decide +kernel
theorem dX4_takeDeed_1 : decode cX4_takeDeed 1 = .ok (.getfield 34, 3) := by decide +kernel
theorem dX4_takeDeed_4 : decode cX4_takeDeed 4 = .ok (.bipush 6, 2) := by decide +kernel
theorem dX4_takeDeed_6 : decode cX4_takeDeed 6 = .ok (.if_icmp .ge 35, 3) := by decide +kernel
theorem dX4_takeDeed_9 : decode cX4_takeDeed 9 = .ok (.iconst 4, 1) := by decide +kernel
theorem dX4_takeDeed_10 : decode cX4_takeDeed 10 = .ok (.aload_n 1, 1) := by decide +kernel
theorem dX4_takeDeed_11 : decode cX4_takeDeed 11 = .ok (.iconst 0, 1) := by decide +kernel
theorem dX4_takeDeed_12 : decode cX4_takeDeed 12 = .ok (.invokestatic 53, 3) := by decide +kernel
theorem dX4_takeDeed_15 : decode cX4_takeDeed 15 = .ok (.ifCond .eq 26, 3) := by decide +kernel
theorem dX4_takeDeed_18 : decode cX4_takeDeed 18 = .ok (.aload_n 1, 1) := by decide +kernel
theorem dX4_takeDeed_19 : decode cX4_takeDeed 19 = .ok (.iconst 3, 1) := by decide +kernel
theorem dX4_takeDeed_20 : decode cX4_takeDeed 20 = .ok (.iaload, 1) := by decide +kernel
theorem dX4_takeDeed_21 : decode cX4_takeDeed 21 = .ok (.bipush 9, 2) := by decide +kernel
theorem dX4_takeDeed_23 : decode cX4_takeDeed 23 = .ok (.if_icmp .gt 18, 3) := by decide +kernel
theorem dX4_takeDeed_26 : decode cX4_takeDeed 26 = .ok (.aload_n 1, 1) := by decide +kernel
theorem dX4_takeDeed_27 : decode cX4_takeDeed 27 = .ok (.iconst 0, 1) := by decide +kernel
theorem dX4_takeDeed_28 : decode cX4_takeDeed 28 = .ok (.iaload, 1) := by decide +kernel
theorem dX4_takeDeed_29 : decode cX4_takeDeed 29 = .ok (.aload_n 1, 1) := by decide +kernel
theorem dX4_takeDeed_30 : decode cX4_takeDeed 30 = .ok (.iconst 1, 1) := by decide +kernel
theorem dX4_takeDeed_31 : decode cX4_takeDeed 31 = .ok (.iaload, 1) := by decide +kernel
theorem dX4_takeDeed_32 : decode cX4_takeDeed 32 = .ok (.iadd, 1) := by decide +kernel
theorem dX4_takeDeed_33 : decode cX4_takeDeed 33 = .ok (.aload_n 1, 1) := by decide +kernel
theorem dX4_takeDeed_34 : decode cX4_takeDeed 34 = .ok (.iconst 2, 1) := by decide +kernel
theorem dX4_takeDeed_35 : decode cX4_takeDeed 35 = .ok (.iaload, 1) := by decide +kernel
theorem dX4_takeDeed_36 : decode cX4_takeDeed 36 = .ok (.iadd, 1) := by decide +kernel
theorem dX4_takeDeed_37 : decode cX4_takeDeed 37 = .ok (.iconst 1, 1) := by decide +kernel
theorem dX4_takeDeed_38 : decode cX4_takeDeed 38 = .ok (.if_icmp .ge 5, 3) := by decide +kernel
theorem dX4_takeDeed_41 : decode cX4_takeDeed 41 = .ok (.iconst 0, 1) := by decide +kernel
theorem dX4_takeDeed_42 : decode cX4_takeDeed 42 = .ok (.ireturn, 1) := by decide +kernel
theorem dX4_takeDeed_43 : decode cX4_takeDeed 43 = .ok (.aload_n 1, 1) := by decide +kernel
theorem dX4_takeDeed_44 : decode cX4_takeDeed 44 = .ok (.iconst 0, 1) := by decide +kernel
theorem dX4_takeDeed_45 : decode cX4_takeDeed 45 = .ok (.aload_n 0, 1) := by decide +kernel
theorem dX4_takeDeed_46 : decode cX4_takeDeed 46 = .ok (.getfield 18, 3) := by decide +kernel
theorem dX4_takeDeed_49 : decode cX4_takeDeed 49 = .ok (.aload_n 0, 1) := by decide +kernel
theorem dX4_takeDeed_50 : decode cX4_takeDeed 50 = .ok (.getfield 34, 3) := by decide +kernel
theorem dX4_takeDeed_53 : decode cX4_takeDeed 53 = .ok (.iconst 3, 1) := by decide +kernel
theorem dX4_takeDeed_54 : decode cX4_takeDeed 54 = .ok (.imul, 1) := by decide +kernel
theorem dX4_takeDeed_55 : decode cX4_takeDeed 55 = .ok (.iconst 3, 1) := by decide +kernel
theorem dX4_takeDeed_56 : decode cX4_takeDeed 56 = .ok (.invokestatic 57, 3) := by decide +kernel
theorem dX4_takeDeed_59 : decode cX4_takeDeed 59 = .ok (.aload_n 0, 1) := by decide +kernel
theorem dX4_takeDeed_60 : decode cX4_takeDeed 60 = .ok (.getfield 21, 3) := by decide +kernel
theorem dX4_takeDeed_63 : decode cX4_takeDeed 63 = .ok (.aload_n 0, 1) := by decide +kernel
theorem dX4_takeDeed_64 : decode cX4_takeDeed 64 = .ok (.getfield 34, 3) := by decide +kernel
theorem dX4_takeDeed_67 : decode cX4_takeDeed 67 = .ok (.aload_n 1, 1) := by decide +kernel
theorem dX4_takeDeed_68 : decode cX4_takeDeed 68 = .ok (.iconst 3, 1) := by decide +kernel
theorem dX4_takeDeed_69 : decode cX4_takeDeed 69 = .ok (.iaload, 1) := by decide +kernel
theorem dX4_takeDeed_70 : decode cX4_takeDeed 70 = .ok (.iastore, 1) := by decide +kernel
theorem dX4_takeDeed_71 : decode cX4_takeDeed 71 = .ok (.aload_n 0, 1) := by decide +kernel
theorem dX4_takeDeed_72 : decode cX4_takeDeed 72 = .ok (.dup, 1) := by decide +kernel
theorem dX4_takeDeed_73 : decode cX4_takeDeed 73 = .ok (.getfield 34, 3) := by decide +kernel
theorem dX4_takeDeed_76 : decode cX4_takeDeed 76 = .ok (.iconst 1, 1) := by decide +kernel
theorem dX4_takeDeed_77 : decode cX4_takeDeed 77 = .ok (.iadd, 1) := by decide +kernel
theorem dX4_takeDeed_78 : decode cX4_takeDeed 78 = .ok (.putfield 34, 3) := by decide +kernel
theorem dX4_takeDeed_81 : decode cX4_takeDeed 81 = .ok (.iconst 1, 1) := by decide +kernel
theorem dX4_takeDeed_82 : decode cX4_takeDeed 82 = .ok (.ireturn, 1) := by decide +kernel
theorem dX4_takeHabit_0 : decode cX4_takeHabit 0 = .ok (.aload_n 1, 1) := by decide +kernel
theorem dX4_takeHabit_1 : decode cX4_takeHabit 1 = .ok (.iconst 0, 1) := by decide +kernel
theorem dX4_takeHabit_2 : decode cX4_takeHabit 2 = .ok (.iaload, 1) := by decide +kernel
theorem dX4_takeHabit_3 : decode cX4_takeHabit 3 = .ok (.aload_n 0, 1) := by decide +kernel
theorem dX4_takeHabit_4 : decode cX4_takeHabit 4 = .ok (.getfield 30, 3) := by decide +kernel
theorem dX4_takeHabit_7 : decode cX4_takeHabit 7 = .ok (.if_icmp .ge 21, 3) := by decide +kernel
theorem dX4_takeHabit_10 : decode cX4_takeHabit 10 = .ok (.aload_n 1, 1) := by decide +kernel
theorem dX4_takeHabit_11 : decode cX4_takeHabit 11 = .ok (.iconst 1, 1) := by decide +kernel
theorem dX4_takeHabit_12 : decode cX4_takeHabit 12 = .ok (.iaload, 1) := by decide +kernel
theorem dX4_takeHabit_13 : decode cX4_takeHabit 13 = .ok (.bipush 7, 2) := by decide +kernel
theorem dX4_takeHabit_15 : decode cX4_takeHabit 15 = .ok (.if_icmp .ge 13, 3) := by decide +kernel
theorem dX4_takeHabit_18 : decode cX4_takeHabit 18 = .ok (.aload_n 1, 1) := by decide +kernel
theorem dX4_takeHabit_19 : decode cX4_takeHabit 19 = .ok (.iconst 2, 1) := by decide +kernel
theorem dX4_takeHabit_20 : decode cX4_takeHabit 20 = .ok (.iaload, 1) := by decide +kernel
theorem dX4_takeHabit_21 : decode cX4_takeHabit 21 = .ok (.aload_n 0, 1) := by decide +kernel
theorem dX4_takeHabit_22 : decode cX4_takeHabit 22 = .ok (.getfield 34, 3) := by decide +kernel
theorem dX4_takeHabit_25 : decode cX4_takeHabit 25 = .ok (.if_icmp .lt 5, 3) := by decide +kernel
theorem dX4_takeHabit_28 : decode cX4_takeHabit 28 = .ok (.iconst 0, 1) := by decide +kernel
theorem dX4_takeHabit_29 : decode cX4_takeHabit 29 = .ok (.ireturn, 1) := by decide +kernel
theorem dX4_takeHabit_30 : decode cX4_takeHabit 30 = .ok (.aload_n 0, 1) := by decide +kernel
theorem dX4_takeHabit_31 : decode cX4_takeHabit 31 = .ok (.getfield 24, 3) := by decide +kernel
theorem dX4_takeHabit_34 : decode cX4_takeHabit 34 = .ok (.aload_n 1, 1) := by decide +kernel
theorem dX4_takeHabit_35 : decode cX4_takeHabit 35 = .ok (.iconst 0, 1) := by decide +kernel
theorem dX4_takeHabit_36 : decode cX4_takeHabit 36 = .ok (.iaload, 1) := by decide +kernel
theorem dX4_takeHabit_37 : decode cX4_takeHabit 37 = .ok (.bipush 7, 2) := by decide +kernel
theorem dX4_takeHabit_39 : decode cX4_takeHabit 39 = .ok (.imul, 1) := by decide +kernel
theorem dX4_takeHabit_40 : decode cX4_takeHabit 40 = .ok (.aload_n 1, 1) := by decide +kernel
theorem dX4_takeHabit_41 : decode cX4_takeHabit 41 = .ok (.iconst 1, 1) := by decide +kernel
theorem dX4_takeHabit_42 : decode cX4_takeHabit 42 = .ok (.iaload, 1) := by decide +kernel
theorem dX4_takeHabit_43 : decode cX4_takeHabit 43 = .ok (.iadd, 1) := by decide +kernel
theorem dX4_takeHabit_44 : decode cX4_takeHabit 44 = .ok (.aload_n 1, 1) := by decide +kernel
theorem dX4_takeHabit_45 : decode cX4_takeHabit 45 = .ok (.iconst 2, 1) := by decide +kernel
theorem dX4_takeHabit_46 : decode cX4_takeHabit 46 = .ok (.iaload, 1) := by decide +kernel
theorem dX4_takeHabit_47 : decode cX4_takeHabit 47 = .ok (.iastore, 1) := by decide +kernel
theorem dX4_takeHabit_48 : decode cX4_takeHabit 48 = .ok (.iconst 1, 1) := by decide +kernel
theorem dX4_takeHabit_49 : decode cX4_takeHabit 49 = .ok (.ireturn, 1) := by decide +kernel
theorem dX4_takePrice_0 : decode cX4_takePrice 0 = .ok (.aload_n 1, 1) := by decide +kernel
theorem dX4_takePrice_1 : decode cX4_takePrice 1 = .ok (.iconst 0, 1) := by decide +kernel
theorem dX4_takePrice_2 : decode cX4_takePrice 2 = .ok (.iaload, 1) := by decide +kernel
theorem dX4_takePrice_3 : decode cX4_takePrice 3 = .ok (.bipush 9, 2) := by decide +kernel
theorem dX4_takePrice_5 : decode cX4_takePrice 5 = .ok (.if_icmp .le 5, 3) := by decide +kernel
theorem dX4_takePrice_8 : decode cX4_takePrice 8 = .ok (.iconst 0, 1) := by decide +kernel
theorem dX4_takePrice_9 : decode cX4_takePrice 9 = .ok (.ireturn, 1) := by decide +kernel
theorem dX4_takePrice_10 : decode cX4_takePrice 10 = .ok (.aload_n 0, 1) := by decide +kernel
theorem dX4_takePrice_11 : decode cX4_takePrice 11 = .ok (.aload_n 1, 1) := by decide +kernel
theorem dX4_takePrice_12 : decode cX4_takePrice 12 = .ok (.iconst 0, 1) := by decide +kernel
theorem dX4_takePrice_13 : decode cX4_takePrice 13 = .ok (.iaload, 1) := by decide +kernel
theorem dX4_takePrice_14 : decode cX4_takePrice 14 = .ok (.putfield 37, 3) := by decide +kernel
theorem dX4_takePrice_17 : decode cX4_takePrice 17 = .ok (.iconst 1, 1) := by decide +kernel
theorem dX4_takePrice_18 : decode cX4_takePrice 18 = .ok (.ireturn, 1) := by decide +kernel
theorem dX4_eachUpTo_0 : decode cX4_eachUpTo 0 = .ok (.iconst 0, 1) := by decide +kernel
theorem dX4_eachUpTo_1 : decode cX4_eachUpTo 1 = .ok (.istore_n 3, 1) := by decide +kernel
theorem dX4_eachUpTo_2 : decode cX4_eachUpTo 2 = .ok (.iload_n 3, 1) := by decide +kernel
theorem dX4_eachUpTo_3 : decode cX4_eachUpTo 3 = .ok (.iconst 3, 1) := by decide +kernel
theorem dX4_eachUpTo_4 : decode cX4_eachUpTo 4 = .ok (.if_icmp .ge 20, 3) := by decide +kernel
theorem dX4_eachUpTo_7 : decode cX4_eachUpTo 7 = .ok (.aload_n 1, 1) := by decide +kernel
theorem dX4_eachUpTo_8 : decode cX4_eachUpTo 8 = .ok (.iload_n 2, 1) := by decide +kernel
theorem dX4_eachUpTo_9 : decode cX4_eachUpTo 9 = .ok (.iload_n 3, 1) := by decide +kernel
theorem dX4_eachUpTo_10 : decode cX4_eachUpTo 10 = .ok (.iadd, 1) := by decide +kernel
theorem dX4_eachUpTo_11 : decode cX4_eachUpTo 11 = .ok (.iaload, 1) := by decide +kernel
theorem dX4_eachUpTo_12 : decode cX4_eachUpTo 12 = .ok (.iload_n 0, 1) := by decide +kernel
theorem dX4_eachUpTo_13 : decode cX4_eachUpTo 13 = .ok (.if_icmp .le 5, 3) := by decide +kernel
theorem dX4_eachUpTo_16 : decode cX4_eachUpTo 16 = .ok (.iconst 0, 1) := by decide +kernel
theorem dX4_eachUpTo_17 : decode cX4_eachUpTo 17 = .ok (.ireturn, 1) := by decide +kernel
theorem dX4_eachUpTo_18 : decode cX4_eachUpTo 18 = .ok (.iinc 3 1, 3) := by decide +kernel
theorem dX4_eachUpTo_21 : decode cX4_eachUpTo 21 = .ok (.goto (-19), 3) := by decide +kernel
theorem dX4_eachUpTo_24 : decode cX4_eachUpTo 24 = .ok (.iconst 1, 1) := by decide +kernel
theorem dX4_eachUpTo_25 : decode cX4_eachUpTo 25 = .ok (.ireturn, 1) := by decide +kernel
theorem dX4_writeBill_0 : decode cX4_writeBill 0 = .ok (.aload_n 0, 1) := by decide +kernel
theorem dX4_writeBill_1 : decode cX4_writeBill 1 = .ok (.getfield 18, 3) := by decide +kernel
theorem dX4_writeBill_4 : decode cX4_writeBill 4 = .ok (.iload_n 2, 1) := by decide +kernel
theorem dX4_writeBill_5 : decode cX4_writeBill 5 = .ok (.iconst 3, 1) := by decide +kernel
theorem dX4_writeBill_6 : decode cX4_writeBill 6 = .ok (.imul, 1) := by decide +kernel
theorem dX4_writeBill_7 : decode cX4_writeBill 7 = .ok (.aload_n 0, 1) := by decide +kernel
theorem dX4_writeBill_8 : decode cX4_writeBill 8 = .ok (.getfield 27, 3) := by decide +kernel
theorem dX4_writeBill_11 : decode cX4_writeBill 11 = .ok (.iconst 0, 1) := by decide +kernel
theorem dX4_writeBill_12 : decode cX4_writeBill 12 = .ok (.iconst 3, 1) := by decide +kernel
theorem dX4_writeBill_13 : decode cX4_writeBill 13 = .ok (.invokestatic 57, 3) := by decide +kernel
theorem dX4_writeBill_16 : decode cX4_writeBill 16 = .ok (.aload_n 0, 1) := by decide +kernel
theorem dX4_writeBill_17 : decode cX4_writeBill 17 = .ok (.getfield 9, 3) := by decide +kernel
theorem dX4_writeBill_20 : decode cX4_writeBill 20 = .ok (.iload_n 1, 1) := by decide +kernel
theorem dX4_writeBill_21 : decode cX4_writeBill 21 = .ok (.iaload, 1) := by decide +kernel
theorem dX4_writeBill_22 : decode cX4_writeBill 22 = .ok (.iconst 3, 1) := by decide +kernel
theorem dX4_writeBill_23 : decode cX4_writeBill 23 = .ok (.if_icmp .ne 11, 3) := by decide +kernel
theorem dX4_writeBill_26 : decode cX4_writeBill 26 = .ok (.aload_n 0, 1) := by decide +kernel
theorem dX4_writeBill_27 : decode cX4_writeBill 27 = .ok (.invokevirtual 63, 3) := by decide +kernel
theorem dX4_writeBill_30 : decode cX4_writeBill 30 = .ok (.iconst 1, 1) := by decide +kernel
theorem dX4_writeBill_31 : decode cX4_writeBill 31 = .ok (.if_icmp .gt 4, 3) := by decide +kernel
theorem dX4_writeBill_34 : decode cX4_writeBill 34 = .ok (.return_, 1) := by decide +kernel
theorem dX4_writeBill_35 : decode cX4_writeBill 35 = .ok (.iconst 0, 1) := by decide +kernel
theorem dX4_writeBill_36 : decode cX4_writeBill 36 = .ok (.istore_n 3, 1) := by decide +kernel
theorem dX4_writeBill_37 : decode cX4_writeBill 37 = .ok (.iload_n 3, 1) := by decide +kernel
theorem dX4_writeBill_38 : decode cX4_writeBill 38 = .ok (.iconst 3, 1) := by decide +kernel
theorem dX4_writeBill_39 : decode cX4_writeBill 39 = .ok (.if_icmp .ge 29, 3) := by decide +kernel
theorem dX4_writeBill_42 : decode cX4_writeBill 42 = .ok (.aload_n 0, 1) := by decide +kernel
theorem dX4_writeBill_43 : decode cX4_writeBill 43 = .ok (.getfield 27, 3) := by decide +kernel
theorem dX4_writeBill_46 : decode cX4_writeBill 46 = .ok (.iload_n 3, 1) := by decide +kernel
theorem dX4_writeBill_47 : decode cX4_writeBill 47 = .ok (.iaload, 1) := by decide +kernel
theorem dX4_writeBill_48 : decode cX4_writeBill 48 = .ok (.ifCond .le 14, 3) := by decide +kernel
theorem dX4_writeBill_51 : decode cX4_writeBill 51 = .ok (.aload_n 0, 1) := by decide +kernel
theorem dX4_writeBill_52 : decode cX4_writeBill 52 = .ok (.getfield 27, 3) := by decide +kernel
theorem dX4_writeBill_55 : decode cX4_writeBill 55 = .ok (.iload_n 3, 1) := by decide +kernel
theorem dX4_writeBill_56 : decode cX4_writeBill 56 = .ok (.dup2, 1) := by decide +kernel
theorem dX4_writeBill_57 : decode cX4_writeBill 57 = .ok (.iaload, 1) := by decide +kernel
theorem dX4_writeBill_58 : decode cX4_writeBill 58 = .ok (.iconst 1, 1) := by decide +kernel
theorem dX4_writeBill_59 : decode cX4_writeBill 59 = .ok (.isub, 1) := by decide +kernel
theorem dX4_writeBill_60 : decode cX4_writeBill 60 = .ok (.iastore, 1) := by decide +kernel
theorem dX4_writeBill_61 : decode cX4_writeBill 61 = .ok (.return_, 1) := by decide +kernel
theorem dX4_writeBill_62 : decode cX4_writeBill 62 = .ok (.iinc 3 1, 3) := by decide +kernel
theorem dX4_writeBill_65 : decode cX4_writeBill 65 = .ok (.goto (-28), 3) := by decide +kernel
theorem dX4_writeBill_68 : decode cX4_writeBill 68 = .ok (.return_, 1) := by decide +kernel
theorem dX4_affords_0 : decode cX4_affords 0 = .ok (.aload_n 0, 1) := by decide +kernel
theorem dX4_affords_1 : decode cX4_affords 1 = .ok (.iload_n 1, 1) := by decide +kernel
theorem dX4_affords_2 : decode cX4_affords 2 = .ok (.iload_n 2, 1) := by decide +kernel
theorem dX4_affords_3 : decode cX4_affords 3 = .ok (.invokevirtual 67, 3) := by decide +kernel
theorem dX4_affords_6 : decode cX4_affords 6 = .ok (.iconst 0, 1) := by decide +kernel
theorem dX4_affords_7 : decode cX4_affords 7 = .ok (.istore 5, 2) := by decide +kernel
theorem dX4_affords_9 : decode cX4_affords 9 = .ok (.iconst 0, 1) := by decide +kernel
theorem dX4_affords_10 : decode cX4_affords 10 = .ok (.istore 6, 2) := by decide +kernel
theorem dX4_affords_12 : decode cX4_affords 12 = .ok (.iconst 0, 1) := by decide +kernel
theorem dX4_affords_13 : decode cX4_affords 13 = .ok (.istore 7, 2) := by decide +kernel
theorem dX4_affords_15 : decode cX4_affords 15 = .ok (.iload 7, 2) := by decide +kernel
theorem dX4_affords_17 : decode cX4_affords 17 = .ok (.iconst 3, 1) := by decide +kernel
theorem dX4_affords_18 : decode cX4_affords 18 = .ok (.if_icmp .ge 42, 3) := by decide +kernel
theorem dX4_affords_21 : decode cX4_affords 21 = .ok (.aload_n 0, 1) := by decide +kernel
theorem dX4_affords_22 : decode cX4_affords 22 = .ok (.getfield 27, 3) := by decide +kernel
theorem dX4_affords_25 : decode cX4_affords 25 = .ok (.iload 7, 2) := by decide +kernel
theorem dX4_affords_27 : decode cX4_affords 27 = .ok (.iaload, 1) := by decide +kernel
theorem dX4_affords_28 : decode cX4_affords 28 = .ok (.aload_n 3, 1) := by decide +kernel
theorem dX4_affords_29 : decode cX4_affords 29 = .ok (.iload 4, 2) := by decide +kernel
theorem dX4_affords_31 : decode cX4_affords 31 = .ok (.iload 7, 2) := by decide +kernel
theorem dX4_affords_33 : decode cX4_affords 33 = .ok (.iadd, 1) := by decide +kernel
theorem dX4_affords_34 : decode cX4_affords 34 = .ok (.iaload, 1) := by decide +kernel
theorem dX4_affords_35 : decode cX4_affords 35 = .ok (.isub, 1) := by decide +kernel
theorem dX4_affords_36 : decode cX4_affords 36 = .ok (.istore 8, 2) := by decide +kernel
theorem dX4_affords_38 : decode cX4_affords 38 = .ok (.iload 8, 2) := by decide +kernel
theorem dX4_affords_40 : decode cX4_affords 40 = .ok (.ifCond .le 14, 3) := by decide +kernel
theorem dX4_affords_43 : decode cX4_affords 43 = .ok (.iload 5, 2) := by decide +kernel
theorem dX4_affords_45 : decode cX4_affords 45 = .ok (.iload 8, 2) := by decide +kernel
theorem dX4_affords_47 : decode cX4_affords 47 = .ok (.iadd, 1) := by decide +kernel
theorem dX4_affords_48 : decode cX4_affords 48 = .ok (.istore 5, 2) := by decide +kernel
theorem dX4_affords_50 : decode cX4_affords 50 = .ok (.iload 7, 2) := by decide +kernel
theorem dX4_affords_52 : decode cX4_affords 52 = .ok (.istore 6, 2) := by decide +kernel
theorem dX4_affords_54 : decode cX4_affords 54 = .ok (.iinc 7 1, 3) := by decide +kernel
theorem dX4_affords_57 : decode cX4_affords 57 = .ok (.goto (-42), 3) := by decide +kernel
theorem dX4_affords_60 : decode cX4_affords 60 = .ok (.iload 5, 2) := by decide +kernel
theorem dX4_affords_62 : decode cX4_affords 62 = .ok (.ifCond .ne 5, 3) := by decide +kernel
theorem dX4_affords_65 : decode cX4_affords 65 = .ok (.iconst 1, 1) := by decide +kernel
theorem dX4_affords_66 : decode cX4_affords 66 = .ok (.ireturn, 1) := by decide +kernel
theorem dX4_affords_67 : decode cX4_affords 67 = .ok (.iload 5, 2) := by decide +kernel
theorem dX4_affords_69 : decode cX4_affords 69 = .ok (.iconst 1, 1) := by decide +kernel
theorem dX4_affords_70 : decode cX4_affords 70 = .ok (.if_icmp .ne 29, 3) := by decide +kernel
theorem dX4_affords_73 : decode cX4_affords 73 = .ok (.aload_n 0, 1) := by decide +kernel
theorem dX4_affords_74 : decode cX4_affords 74 = .ok (.getfield 9, 3) := by decide +kernel
theorem dX4_affords_77 : decode cX4_affords 77 = .ok (.iload_n 1, 1) := by decide +kernel
theorem dX4_affords_78 : decode cX4_affords 78 = .ok (.iaload, 1) := by decide +kernel
theorem dX4_affords_79 : decode cX4_affords 79 = .ok (.iconst 4, 1) := by decide +kernel
theorem dX4_affords_80 : decode cX4_affords 80 = .ok (.if_icmp .ne 19, 3) := by decide +kernel
theorem dX4_affords_83 : decode cX4_affords 83 = .ok (.aload_n 0, 1) := by decide +kernel
theorem dX4_affords_84 : decode cX4_affords 84 = .ok (.aload_n 3, 1) := by decide +kernel
theorem dX4_affords_85 : decode cX4_affords 85 = .ok (.iload 4, 2) := by decide +kernel
theorem dX4_affords_87 : decode cX4_affords 87 = .ok (.iload 6, 2) := by decide +kernel
theorem dX4_affords_89 : decode cX4_affords 89 = .ok (.invokevirtual 71, 3) := by decide +kernel
theorem dX4_affords_92 : decode cX4_affords 92 = .ok (.ifCond .eq 7, 3) := by decide +kernel
theorem dX4_affords_95 : decode cX4_affords 95 = .ok (.iconst 1, 1) := by decide +kernel
theorem dX4_affords_96 : decode cX4_affords 96 = .ok (.goto 4, 3) := by decide +kernel
theorem dX4_affords_99 : decode cX4_affords 99 = .ok (.iconst 0, 1) := by decide +kernel
theorem dX4_affords_100 : decode cX4_affords 100 = .ok (.ireturn, 1) := by decide +kernel
theorem dX4_mix_0 : decode cX4_mix 0 = .ok (.aload_n 0, 1) := by decide +kernel
theorem dX4_mix_1 : decode cX4_mix 1 = .ok (.getfield 27, 3) := by decide +kernel
theorem dX4_mix_4 : decode cX4_mix 4 = .ok (.iload_n 3, 1) := by decide +kernel
theorem dX4_mix_5 : decode cX4_mix 5 = .ok (.dup2, 1) := by decide +kernel
theorem dX4_mix_6 : decode cX4_mix 6 = .ok (.iaload, 1) := by decide +kernel
theorem dX4_mix_7 : decode cX4_mix 7 = .ok (.iconst 1, 1) := by decide +kernel
theorem dX4_mix_8 : decode cX4_mix 8 = .ok (.isub, 1) := by decide +kernel
theorem dX4_mix_9 : decode cX4_mix 9 = .ok (.iastore, 1) := by decide +kernel
theorem dX4_mix_10 : decode cX4_mix 10 = .ok (.iconst 0, 1) := by decide +kernel
theorem dX4_mix_11 : decode cX4_mix 11 = .ok (.istore 4, 2) := by decide +kernel
theorem dX4_mix_13 : decode cX4_mix 13 = .ok (.iconst 1, 1) := by decide +kernel
theorem dX4_mix_14 : decode cX4_mix 14 = .ok (.istore 5, 2) := by decide +kernel
theorem dX4_mix_16 : decode cX4_mix 16 = .ok (.iload 5, 2) := by decide +kernel
theorem dX4_mix_18 : decode cX4_mix 18 = .ok (.iconst 3, 1) := by decide +kernel
theorem dX4_mix_19 : decode cX4_mix 19 = .ok (.if_icmp .ge 44, 3) := by decide +kernel
theorem dX4_mix_22 : decode cX4_mix 22 = .ok (.aload_n 1, 1) := by decide +kernel
theorem dX4_mix_23 : decode cX4_mix 23 = .ok (.iload_n 2, 1) := by decide +kernel
theorem dX4_mix_24 : decode cX4_mix 24 = .ok (.iload 5, 2) := by decide +kernel
theorem dX4_mix_26 : decode cX4_mix 26 = .ok (.iadd, 1) := by decide +kernel
theorem dX4_mix_27 : decode cX4_mix 27 = .ok (.iaload, 1) := by decide +kernel
theorem dX4_mix_28 : decode cX4_mix 28 = .ok (.aload_n 0, 1) := by decide +kernel
theorem dX4_mix_29 : decode cX4_mix 29 = .ok (.getfield 27, 3) := by decide +kernel
theorem dX4_mix_32 : decode cX4_mix 32 = .ok (.iload 5, 2) := by decide +kernel
theorem dX4_mix_34 : decode cX4_mix 34 = .ok (.iaload, 1) := by decide +kernel
theorem dX4_mix_35 : decode cX4_mix 35 = .ok (.isub, 1) := by decide +kernel
theorem dX4_mix_36 : decode cX4_mix 36 = .ok (.aload_n 1, 1) := by decide +kernel
theorem dX4_mix_37 : decode cX4_mix 37 = .ok (.iload_n 2, 1) := by decide +kernel
theorem dX4_mix_38 : decode cX4_mix 38 = .ok (.iload 4, 2) := by decide +kernel
theorem dX4_mix_40 : decode cX4_mix 40 = .ok (.iadd, 1) := by decide +kernel
theorem dX4_mix_41 : decode cX4_mix 41 = .ok (.iaload, 1) := by decide +kernel
theorem dX4_mix_42 : decode cX4_mix 42 = .ok (.aload_n 0, 1) := by decide +kernel
theorem dX4_mix_43 : decode cX4_mix 43 = .ok (.getfield 27, 3) := by decide +kernel
theorem dX4_mix_46 : decode cX4_mix 46 = .ok (.iload 4, 2) := by decide +kernel
theorem dX4_mix_48 : decode cX4_mix 48 = .ok (.iaload, 1) := by decide +kernel
theorem dX4_mix_49 : decode cX4_mix 49 = .ok (.isub, 1) := by decide +kernel
theorem dX4_mix_50 : decode cX4_mix 50 = .ok (.if_icmp .le 7, 3) := by decide +kernel
theorem dX4_mix_53 : decode cX4_mix 53 = .ok (.iload 5, 2) := by decide +kernel
theorem dX4_mix_55 : decode cX4_mix 55 = .ok (.istore 4, 2) := by decide +kernel
theorem dX4_mix_57 : decode cX4_mix 57 = .ok (.iinc 5 1, 3) := by decide +kernel
theorem dX4_mix_60 : decode cX4_mix 60 = .ok (.goto (-44), 3) := by decide +kernel
theorem dX4_mix_63 : decode cX4_mix 63 = .ok (.aload_n 1, 1) := by decide +kernel
theorem dX4_mix_64 : decode cX4_mix 64 = .ok (.iload_n 2, 1) := by decide +kernel
theorem dX4_mix_65 : decode cX4_mix 65 = .ok (.iload 4, 2) := by decide +kernel
theorem dX4_mix_67 : decode cX4_mix 67 = .ok (.iadd, 1) := by decide +kernel
theorem dX4_mix_68 : decode cX4_mix 68 = .ok (.iaload, 1) := by decide +kernel
theorem dX4_mix_69 : decode cX4_mix 69 = .ok (.aload_n 0, 1) := by decide +kernel
theorem dX4_mix_70 : decode cX4_mix 70 = .ok (.getfield 27, 3) := by decide +kernel
theorem dX4_mix_73 : decode cX4_mix 73 = .ok (.iload 4, 2) := by decide +kernel
theorem dX4_mix_75 : decode cX4_mix 75 = .ok (.iaload, 1) := by decide +kernel
theorem dX4_mix_76 : decode cX4_mix 76 = .ok (.isub, 1) := by decide +kernel
theorem dX4_mix_77 : decode cX4_mix 77 = .ok (.iconst 2, 1) := by decide +kernel
theorem dX4_mix_78 : decode cX4_mix 78 = .ok (.if_icmp .ge 5, 3) := by decide +kernel
theorem dX4_mix_81 : decode cX4_mix 81 = .ok (.iconst 0, 1) := by decide +kernel
theorem dX4_mix_82 : decode cX4_mix 82 = .ok (.ireturn, 1) := by decide +kernel
theorem dX4_mix_83 : decode cX4_mix 83 = .ok (.aload_n 0, 1) := by decide +kernel
theorem dX4_mix_84 : decode cX4_mix 84 = .ok (.getfield 27, 3) := by decide +kernel
theorem dX4_mix_87 : decode cX4_mix 87 = .ok (.iload 4, 2) := by decide +kernel
theorem dX4_mix_89 : decode cX4_mix 89 = .ok (.dup2, 1) := by decide +kernel
theorem dX4_mix_90 : decode cX4_mix 90 = .ok (.iaload, 1) := by decide +kernel
theorem dX4_mix_91 : decode cX4_mix 91 = .ok (.iconst 2, 1) := by decide +kernel
theorem dX4_mix_92 : decode cX4_mix 92 = .ok (.iadd, 1) := by decide +kernel
theorem dX4_mix_93 : decode cX4_mix 93 = .ok (.iastore, 1) := by decide +kernel
theorem dX4_mix_94 : decode cX4_mix 94 = .ok (.iconst 1, 1) := by decide +kernel
theorem dX4_mix_95 : decode cX4_mix 95 = .ok (.ireturn, 1) := by decide +kernel
theorem dX4_billSum_0 : decode cX4_billSum 0 = .ok (.aload_n 0, 1) := by decide +kernel
theorem dX4_billSum_1 : decode cX4_billSum 1 = .ok (.getfield 27, 3) := by decide +kernel
theorem dX4_billSum_4 : decode cX4_billSum 4 = .ok (.iconst 0, 1) := by decide +kernel
theorem dX4_billSum_5 : decode cX4_billSum 5 = .ok (.iaload, 1) := by decide +kernel
theorem dX4_billSum_6 : decode cX4_billSum 6 = .ok (.aload_n 0, 1) := by decide +kernel
theorem dX4_billSum_7 : decode cX4_billSum 7 = .ok (.getfield 27, 3) := by decide +kernel
theorem dX4_billSum_10 : decode cX4_billSum 10 = .ok (.iconst 1, 1) := by decide +kernel
theorem dX4_billSum_11 : decode cX4_billSum 11 = .ok (.iaload, 1) := by decide +kernel
theorem dX4_billSum_12 : decode cX4_billSum 12 = .ok (.iadd, 1) := by decide +kernel
theorem dX4_billSum_13 : decode cX4_billSum 13 = .ok (.aload_n 0, 1) := by decide +kernel
theorem dX4_billSum_14 : decode cX4_billSum 14 = .ok (.getfield 27, 3) := by decide +kernel
theorem dX4_billSum_17 : decode cX4_billSum 17 = .ok (.iconst 2, 1) := by decide +kernel
theorem dX4_billSum_18 : decode cX4_billSum 18 = .ok (.iaload, 1) := by decide +kernel
theorem dX4_billSum_19 : decode cX4_billSum 19 = .ok (.iadd, 1) := by decide +kernel
theorem dX4_billSum_20 : decode cX4_billSum 20 = .ok (.ireturn, 1) := by decide +kernel
theorem dX4_pay_0 : decode cX4_pay 0 = .ok (.iconst 0, 1) := by decide +kernel
theorem dX4_pay_1 : decode cX4_pay 1 = .ok (.istore_n 3, 1) := by decide +kernel
theorem dX4_pay_2 : decode cX4_pay 2 = .ok (.iload_n 3, 1) := by decide +kernel
theorem dX4_pay_3 : decode cX4_pay 3 = .ok (.iconst 3, 1) := by decide +kernel
theorem dX4_pay_4 : decode cX4_pay 4 = .ok (.if_icmp .ge 23, 3) := by decide +kernel
theorem dX4_pay_7 : decode cX4_pay 7 = .ok (.aload_n 1, 1) := by decide +kernel
theorem dX4_pay_8 : decode cX4_pay 8 = .ok (.iload_n 2, 1) := by decide +kernel
theorem dX4_pay_9 : decode cX4_pay 9 = .ok (.iload_n 3, 1) := by decide +kernel
theorem dX4_pay_10 : decode cX4_pay 10 = .ok (.iadd, 1) := by decide +kernel
theorem dX4_pay_11 : decode cX4_pay 11 = .ok (.dup2, 1) := by decide +kernel
theorem dX4_pay_12 : decode cX4_pay 12 = .ok (.iaload, 1) := by decide +kernel
theorem dX4_pay_13 : decode cX4_pay 13 = .ok (.aload_n 0, 1) := by decide +kernel
theorem dX4_pay_14 : decode cX4_pay 14 = .ok (.getfield 27, 3) := by decide +kernel
theorem dX4_pay_17 : decode cX4_pay 17 = .ok (.iload_n 3, 1) := by decide +kernel
theorem dX4_pay_18 : decode cX4_pay 18 = .ok (.iaload, 1) := by decide +kernel
theorem dX4_pay_19 : decode cX4_pay 19 = .ok (.isub, 1) := by decide +kernel
theorem dX4_pay_20 : decode cX4_pay 20 = .ok (.iastore, 1) := by decide +kernel
theorem dX4_pay_21 : decode cX4_pay 21 = .ok (.iinc 3 1, 3) := by decide +kernel
theorem dX4_pay_24 : decode cX4_pay 24 = .ok (.goto (-22), 3) := by decide +kernel
theorem dX4_pay_27 : decode cX4_pay 27 = .ok (.return_, 1) := by decide +kernel
theorem dX4_fade_0 : decode cX4_fade 0 = .ok (.aload_n 0, 1) := by decide +kernel
theorem dX4_fade_1 : decode cX4_fade 1 = .ok (.getfield 9, 3) := by decide +kernel
theorem dX4_fade_4 : decode cX4_fade 4 = .ok (.iload_n 1, 1) := by decide +kernel
theorem dX4_fade_5 : decode cX4_fade 5 = .ok (.iaload, 1) := by decide +kernel
theorem dX4_fade_6 : decode cX4_fade 6 = .ok (.iconst 2, 1) := by decide +kernel
theorem dX4_fade_7 : decode cX4_fade 7 = .ok (.if_icmp .ne 20, 3) := by decide +kernel
theorem dX4_fade_10 : decode cX4_fade 10 = .ok (.aload_n 2, 1) := by decide +kernel
theorem dX4_fade_11 : decode cX4_fade 11 = .ok (.iload_n 3, 1) := by decide +kernel
theorem dX4_fade_12 : decode cX4_fade 12 = .ok (.iconst 2, 1) := by decide +kernel
theorem dX4_fade_13 : decode cX4_fade 13 = .ok (.iadd, 1) := by decide +kernel
theorem dX4_fade_14 : decode cX4_fade 14 = .ok (.iaload, 1) := by decide +kernel
theorem dX4_fade_15 : decode cX4_fade 15 = .ok (.ifCond .le 12, 3) := by decide +kernel
theorem dX4_fade_18 : decode cX4_fade 18 = .ok (.aload_n 2, 1) := by decide +kernel
theorem dX4_fade_19 : decode cX4_fade 19 = .ok (.iload_n 3, 1) := by decide +kernel
theorem dX4_fade_20 : decode cX4_fade 20 = .ok (.iconst 2, 1) := by decide +kernel
theorem dX4_fade_21 : decode cX4_fade 21 = .ok (.iadd, 1) := by decide +kernel
theorem dX4_fade_22 : decode cX4_fade 22 = .ok (.dup2, 1) := by decide +kernel
theorem dX4_fade_23 : decode cX4_fade 23 = .ok (.iaload, 1) := by decide +kernel
theorem dX4_fade_24 : decode cX4_fade 24 = .ok (.iconst 1, 1) := by decide +kernel
theorem dX4_fade_25 : decode cX4_fade 25 = .ok (.isub, 1) := by decide +kernel
theorem dX4_fade_26 : decode cX4_fade 26 = .ok (.iastore, 1) := by decide +kernel
theorem dX4_fade_27 : decode cX4_fade 27 = .ok (.return_, 1) := by decide +kernel
theorem dX4_renew_0 : decode cX4_renew 0 = .ok (.iconst 0, 1) := by decide +kernel
theorem dX4_renew_1 : decode cX4_renew 1 = .ok (.istore 4, 2) := by decide +kernel
theorem dX4_renew_3 : decode cX4_renew 3 = .ok (.iload 4, 2) := by decide +kernel
theorem dX4_renew_5 : decode cX4_renew 5 = .ok (.iconst 3, 1) := by decide +kernel
theorem dX4_renew_6 : decode cX4_renew 6 = .ok (.if_icmp .ge 56, 3) := by decide +kernel
theorem dX4_renew_9 : decode cX4_renew 9 = .ok (.aload_n 0, 1) := by decide +kernel
theorem dX4_renew_10 : decode cX4_renew 10 = .ok (.getfield 9, 3) := by decide +kernel
theorem dX4_renew_13 : decode cX4_renew 13 = .ok (.iload_n 1, 1) := by decide +kernel
theorem dX4_renew_14 : decode cX4_renew 14 = .ok (.iaload, 1) := by decide +kernel
theorem dX4_renew_15 : decode cX4_renew 15 = .ok (.iconst 1, 1) := by decide +kernel
theorem dX4_renew_16 : decode cX4_renew 16 = .ok (.if_icmp .ne 12, 3) := by decide +kernel
theorem dX4_renew_19 : decode cX4_renew 19 = .ok (.aload_n 2, 1) := by decide +kernel
theorem dX4_renew_20 : decode cX4_renew 20 = .ok (.iload_n 3, 1) := by decide +kernel
theorem dX4_renew_21 : decode cX4_renew 21 = .ok (.iload 4, 2) := by decide +kernel
theorem dX4_renew_23 : decode cX4_renew 23 = .ok (.iadd, 1) := by decide +kernel
theorem dX4_renew_24 : decode cX4_renew 24 = .ok (.iaload, 1) := by decide +kernel
theorem dX4_renew_25 : decode cX4_renew 25 = .ok (.goto 4, 3) := by decide +kernel
theorem dX4_renew_28 : decode cX4_renew 28 = .ok (.iconst 0, 1) := by decide +kernel
theorem dX4_renew_29 : decode cX4_renew 29 = .ok (.istore 5, 2) := by decide +kernel
theorem dX4_renew_31 : decode cX4_renew 31 = .ok (.aload_n 2, 1) := by decide +kernel
theorem dX4_renew_32 : decode cX4_renew 32 = .ok (.iload_n 3, 1) := by decide +kernel
theorem dX4_renew_33 : decode cX4_renew 33 = .ok (.iload 4, 2) := by decide +kernel
theorem dX4_renew_35 : decode cX4_renew 35 = .ok (.iadd, 1) := by decide +kernel
theorem dX4_renew_36 : decode cX4_renew 36 = .ok (.bipush 99, 2) := by decide +kernel
theorem dX4_renew_38 : decode cX4_renew 38 = .ok (.iload 5, 2) := by decide +kernel
theorem dX4_renew_40 : decode cX4_renew 40 = .ok (.aload_n 0, 1) := by decide +kernel
theorem dX4_renew_41 : decode cX4_renew 41 = .ok (.getfield 15, 3) := by decide +kernel
theorem dX4_renew_44 : decode cX4_renew 44 = .ok (.iload_n 1, 1) := by decide +kernel
theorem dX4_renew_45 : decode cX4_renew 45 = .ok (.iconst 3, 1) := by decide +kernel
theorem dX4_renew_46 : decode cX4_renew 46 = .ok (.imul, 1) := by decide +kernel
theorem dX4_renew_47 : decode cX4_renew 47 = .ok (.iload 4, 2) := by decide +kernel
theorem dX4_renew_49 : decode cX4_renew 49 = .ok (.iadd, 1) := by decide +kernel
theorem dX4_renew_50 : decode cX4_renew 50 = .ok (.iaload, 1) := by decide +kernel
theorem dX4_renew_51 : decode cX4_renew 51 = .ok (.iadd, 1) := by decide +kernel
theorem dX4_renew_52 : decode cX4_renew 52 = .ok (.invokestatic 75, 3) := by decide +kernel
theorem dX4_renew_55 : decode cX4_renew 55 = .ok (.iastore, 1) := by decide +kernel
theorem dX4_renew_56 : decode cX4_renew 56 = .ok (.iinc 4 1, 3) := by decide +kernel
theorem dX4_renew_59 : decode cX4_renew 59 = .ok (.goto (-56), 3) := by decide +kernel
theorem dX4_renew_62 : decode cX4_renew 62 = .ok (.return_, 1) := by decide +kernel
