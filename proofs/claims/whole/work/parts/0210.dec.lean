theorem dX3_init_0 : decode cX3_init 0 = .ok (.aload_n 0, 1) := by decide +kernel
theorem dX3_init_1 : decode cX3_init 1 = .ok (.invokespecial 3, 3) := by decide +kernel
theorem dX3_init_4 : decode cX3_init 4 = .ok (.aload_n 0, 1) := by decide +kernel
theorem dX3_init_5 : decode cX3_init 5 = .ok (.bipush 18, 2) := by decide +kernel
theorem dX3_init_7 : decode cX3_init 7 = .ok (.newarray .int, 2) := by decide +kernel
theorem dX3_init_9 : decode cX3_init 9 = .ok (.putfield 9, 3) := by decide +kernel
theorem dX3_init_12 : decode cX3_init 12 = .ok (.aload_n 0, 1) := by decide +kernel
theorem dX3_init_13 : decode cX3_init 13 = .ok (.bipush 6, 2) := by decide +kernel
theorem dX3_init_15 : decode cX3_init 15 = .ok (.newarray .int, 2) := by decide +kernel
theorem dX3_init_17 : decode cX3_init 17 = .ok (.putfield 15, 3) := by decide +kernel
theorem dX3_init_20 : decode cX3_init 20 = .ok (.aload_n 0, 1) := by decide +kernel
theorem dX3_init_21 : decode cX3_init 21 = .ok (.bipush 6, 2) := by decide +kernel
theorem dX3_init_23 : decode cX3_init 23 = .ok (.newarray .int, 2) := by decide +kernel
theorem dX3_init_25 : decode cX3_init 25 = .ok (.putfield 18, 3) := by decide +kernel
theorem dX3_init_28 : decode cX3_init 28 = .ok (.return_, 1) := by decide +kernel
theorem dX3_begin_0 : decode cX3_begin 0 = .ok (.aload_n 0, 1) := by decide +kernel
theorem dX3_begin_1 : decode cX3_begin 1 = .ok (.iconst 0, 1) := by decide +kernel
theorem dX3_begin_2 : decode cX3_begin 2 = .ok (.putfield 21, 3) := by decide +kernel
theorem dX3_begin_5 : decode cX3_begin 5 = .ok (.aload_n 1, 1) := by decide +kernel
theorem dX3_begin_6 : decode cX3_begin 6 = .ok (.getfield 25, 3) := by decide +kernel
theorem dX3_begin_9 : decode cX3_begin 9 = .ok (.iconst 0, 1) := by decide +kernel
theorem dX3_begin_10 : decode cX3_begin 10 = .ok (.aload_n 0, 1) := by decide +kernel
theorem dX3_begin_11 : decode cX3_begin 11 = .ok (.getfield 9, 3) := by decide +kernel
theorem dX3_begin_14 : decode cX3_begin 14 = .ok (.iconst 0, 1) := by decide +kernel
theorem dX3_begin_15 : decode cX3_begin 15 = .ok (.aload_n 0, 1) := by decide +kernel
theorem dX3_begin_16 : decode cX3_begin 16 = .ok (.getfield 9, 3) := by decide +kernel
theorem dX3_begin_19 : decode cX3_begin 19 = .ok (.arraylength, 1) := by decide +kernel
theorem dX3_begin_20 : decode cX3_begin 20 = .ok (.invokestatic 30, 3) := by decide +kernel
theorem dX3_begin_23 : decode cX3_begin 23 = .ok (.iconst 0, 1) := by decide +kernel
theorem dX3_begin_24 : decode cX3_begin 24 = .ok (.istore_n 2, 1) := by decide +kernel
theorem dX3_begin_25 : decode cX3_begin 25 = .ok (.iload_n 2, 1) := by decide +kernel
theorem dX3_begin_26 : decode cX3_begin 26 = .ok (.bipush 6, 2) := by decide +kernel
theorem dX3_begin_28 : decode cX3_begin 28 = .ok (.if_icmp .ge 23, 3) := by decide +kernel
theorem dX3_begin_31 : decode cX3_begin 31 = .ok (.aload_n 0, 1) := by decide +kernel
theorem dX3_begin_32 : decode cX3_begin 32 = .ok (.getfield 15, 3) := by decide +kernel
theorem dX3_begin_35 : decode cX3_begin 35 = .ok (.iload_n 2, 1) := by decide +kernel
theorem dX3_begin_36 : decode cX3_begin 36 = .ok (.iconst 0, 1) := by decide +kernel
theorem dX3_begin_37 : decode cX3_begin 37 = .ok (.iastore, 1) := by decide +kernel
theorem dX3_begin_38 : decode cX3_begin 38 = .ok (.aload_n 0, 1) := by decide +kernel
theorem dX3_begin_39 : decode cX3_begin 39 = .ok (.getfield 18, 3) := by decide +kernel
theorem dX3_begin_42 : decode cX3_begin 42 = .ok (.iload_n 2, 1) := by decide +kernel
theorem dX3_begin_43 : decode cX3_begin 43 = .ok (.iconst 0, 1) := by decide +kernel
theorem dX3_begin_44 : decode cX3_begin 44 = .ok (.iastore, 1) := by decide +kernel
theorem dX3_begin_45 : decode cX3_begin 45 = .ok (.iinc 2 1, 3) := by decide +kernel
theorem dX3_begin_48 : decode cX3_begin 48 = .ok (.goto (-23), 3) := by decide +kernel
theorem dX3_begin_51 : decode cX3_begin 51 = .ok (.return_, 1) := by decide +kernel
theorem dX3_copyFrom_0 : decode cX3_copyFrom 0 = .ok (.aload_n 1, 1) := by decide +kernel
theorem dX3_copyFrom_1 : decode cX3_copyFrom 1 = .ok (.getfield 9, 3) := by decide +kernel
theorem dX3_copyFrom_4 : decode cX3_copyFrom 4 = .ok (.iconst 0, 1) := by decide +kernel
theorem dX3_copyFrom_5 : decode cX3_copyFrom 5 = .ok (.aload_n 0, 1) := by decide +kernel
theorem dX3_copyFrom_6 : decode cX3_copyFrom 6 = .ok (.getfield 9, 3) := by decide +kernel
theorem dX3_copyFrom_9 : decode cX3_copyFrom 9 = .ok (.iconst 0, 1) := by decide +kernel
theorem dX3_copyFrom_10 : decode cX3_copyFrom 10 = .ok (.aload_n 0, 1) := by decide +kernel
theorem dX3_copyFrom_11 : decode cX3_copyFrom 11 = .ok (.getfield 9, 3) := by decide +kernel
theorem dX3_copyFrom_14 : decode cX3_copyFrom 14 = .ok (.arraylength, 1) := by decide +kernel
theorem dX3_copyFrom_15 : decode cX3_copyFrom 15 = .ok (.invokestatic 30, 3) := by decide +kernel
theorem dX3_copyFrom_18 : decode cX3_copyFrom 18 = .ok (.aload_n 1, 1) := by decide +kernel
theorem dX3_copyFrom_19 : decode cX3_copyFrom 19 = .ok (.getfield 15, 3) := by decide +kernel
theorem dX3_copyFrom_22 : decode cX3_copyFrom 22 = .ok (.iconst 0, 1) := by decide +kernel
theorem dX3_copyFrom_23 : decode cX3_copyFrom 23 = .ok (.aload_n 0, 1) := by decide +kernel
theorem dX3_copyFrom_24 : decode cX3_copyFrom 24 = .ok (.getfield 15, 3) := by decide +kernel
theorem dX3_copyFrom_27 : decode cX3_copyFrom 27 = .ok (.iconst 0, 1) := by decide +kernel
theorem dX3_copyFrom_28 : decode cX3_copyFrom 28 = .ok (.aload_n 0, 1) := by decide +kernel
theorem dX3_copyFrom_29 : decode cX3_copyFrom 29 = .ok (.getfield 15, 3) := by decide +kernel
theorem dX3_copyFrom_32 : decode cX3_copyFrom 32 = .ok (.arraylength, 1) := by decide +kernel
theorem dX3_copyFrom_33 : decode cX3_copyFrom 33 = .ok (.invokestatic 30, 3) := by decide +kernel
theorem dX3_copyFrom_36 : decode cX3_copyFrom 36 = .ok (.aload_n 1, 1) := by decide +kernel
theorem dX3_copyFrom_37 : decode cX3_copyFrom 37 = .ok (.getfield 18, 3) := by decide +kernel
theorem dX3_copyFrom_40 : decode cX3_copyFrom 40 = .ok (.iconst 0, 1) := by decide +kernel
theorem dX3_copyFrom_41 : decode cX3_copyFrom 41 = .ok (.aload_n 0, 1) := by decide +kernel
theorem dX3_copyFrom_42 : decode cX3_copyFrom 42 = .ok (.getfield 18, 3) := by decide +kernel
theorem dX3_copyFrom_45 : decode cX3_copyFrom 45 = .ok (.iconst 0, 1) := by decide +kernel
theorem dX3_copyFrom_46 : decode cX3_copyFrom 46 = .ok (.aload_n 0, 1) := by decide +kernel
theorem dX3_copyFrom_47 : decode cX3_copyFrom 47 = .ok (.getfield 18, 3) := by decide +kernel
theorem dX3_copyFrom_50 : decode cX3_copyFrom 50 = .ok (.arraylength, 1) := by decide +kernel
theorem dX3_copyFrom_51 : decode cX3_copyFrom 51 = .ok (.invokestatic 30, 3) := by decide +kernel
theorem dX3_copyFrom_54 : decode cX3_copyFrom 54 = .ok (.aload_n 0, 1) := by decide +kernel
theorem dX3_copyFrom_55 : decode cX3_copyFrom 55 = .ok (.aload_n 1, 1) := by decide +kernel
theorem dX3_copyFrom_56 : decode cX3_copyFrom 56 = .ok (.getfield 21, 3) := by decide +kernel
theorem dX3_copyFrom_59 : decode cX3_copyFrom 59 = .ok (.putfield 21, 3) := by decide +kernel
theorem dX3_copyFrom_62 : decode cX3_copyFrom 62 = .ok (.return_, 1) := by decide +kernel
theorem dX3_weekday_0 : decode cX3_weekday 0 = .ok (.aload_n 0, 1) := by decide +kernel
theorem dX3_weekday_1 : decode cX3_weekday 1 = .ok (.getfield 21, 3) := by decide +kernel
theorem dX3_weekday_4 : decode cX3_weekday 4 = .ok (.bipush 7, 2) := by decide +kernel
theorem dX3_weekday_6 : decode cX3_weekday 6 = .ok (.irem, 1) := by decide +kernel
theorem dX3_weekday_7 : decode cX3_weekday 7 = .ok (.ireturn, 1) := by decide +kernel
theorem dX3_hue_0 : decode cX3_hue 0 = .ok (.aload_n 0, 1) := by decide +kernel
theorem dX3_hue_1 : decode cX3_hue 1 = .ok (.getfield 9, 3) := by decide +kernel
theorem dX3_hue_4 : decode cX3_hue 4 = .ok (.iload_n 1, 1) := by decide +kernel
theorem dX3_hue_5 : decode cX3_hue 5 = .ok (.iconst 3, 1) := by decide +kernel
theorem dX3_hue_6 : decode cX3_hue 6 = .ok (.imul, 1) := by decide +kernel
theorem dX3_hue_7 : decode cX3_hue 7 = .ok (.invokestatic 36, 3) := by decide +kernel
theorem dX3_hue_10 : decode cX3_hue 10 = .ok (.ireturn, 1) := by decide +kernel
theorem dX3_perform_0 : decode cX3_perform 0 = .ok (.aload_n 1, 1) := by decide +kernel
theorem dX3_perform_1 : decode cX3_perform 1 = .ok (.iload_n 2, 1) := by decide +kernel
theorem dX3_perform_2 : decode cX3_perform 2 = .ok (.iload_n 3, 1) := by decide +kernel
theorem dX3_perform_3 : decode cX3_perform 3 = .ok (.aload_n 0, 1) := by decide +kernel
theorem dX3_perform_4 : decode cX3_perform 4 = .ok (.getfield 9, 3) := by decide +kernel
theorem dX3_perform_7 : decode cX3_perform 7 = .ok (.iload_n 2, 1) := by decide +kernel
theorem dX3_perform_8 : decode cX3_perform 8 = .ok (.iconst 3, 1) := by decide +kernel
theorem dX3_perform_9 : decode cX3_perform 9 = .ok (.imul, 1) := by decide +kernel
theorem dX3_perform_10 : decode cX3_perform 10 = .ok (.invokevirtual 40, 3) := by decide +kernel
theorem dX3_perform_13 : decode cX3_perform 13 = .ok (.ifCond .ne 6, 3) := by decide +kernel
theorem dX3_perform_16 : decode cX3_perform 16 = .ok (.bipush (-2), 2) := by decide +kernel
theorem dX3_perform_18 : decode cX3_perform 18 = .ok (.ireturn, 1) := by decide +kernel
theorem dX3_perform_19 : decode cX3_perform 19 = .ok (.aload_n 1, 1) := by decide +kernel
theorem dX3_perform_20 : decode cX3_perform 20 = .ok (.aload_n 0, 1) := by decide +kernel
theorem dX3_perform_21 : decode cX3_perform 21 = .ok (.getfield 9, 3) := by decide +kernel
theorem dX3_perform_24 : decode cX3_perform 24 = .ok (.iload_n 2, 1) := by decide +kernel
theorem dX3_perform_25 : decode cX3_perform 25 = .ok (.iconst 3, 1) := by decide +kernel
theorem dX3_perform_26 : decode cX3_perform 26 = .ok (.imul, 1) := by decide +kernel
theorem dX3_perform_27 : decode cX3_perform 27 = .ok (.invokevirtual 44, 3) := by decide +kernel
theorem dX3_perform_30 : decode cX3_perform 30 = .ok (.aload_n 0, 1) := by decide +kernel
theorem dX3_perform_31 : decode cX3_perform 31 = .ok (.getfield 18, 3) := by decide +kernel
theorem dX3_perform_34 : decode cX3_perform 34 = .ok (.iload_n 2, 1) := by decide +kernel
theorem dX3_perform_35 : decode cX3_perform 35 = .ok (.dup2, 1) := by decide +kernel
theorem dX3_perform_36 : decode cX3_perform 36 = .ok (.iaload, 1) := by decide +kernel
theorem dX3_perform_37 : decode cX3_perform 37 = .ok (.aload_n 1, 1) := by decide +kernel
theorem dX3_perform_38 : decode cX3_perform 38 = .ok (.getfield 48, 3) := by decide +kernel
theorem dX3_perform_41 : decode cX3_perform 41 = .ok (.iload_n 3, 1) := by decide +kernel
theorem dX3_perform_42 : decode cX3_perform 42 = .ok (.iaload, 1) := by decide +kernel
theorem dX3_perform_43 : decode cX3_perform 43 = .ok (.iadd, 1) := by decide +kernel
theorem dX3_perform_44 : decode cX3_perform 44 = .ok (.iastore, 1) := by decide +kernel
theorem dX3_perform_45 : decode cX3_perform 45 = .ok (.aload_n 1, 1) := by decide +kernel
theorem dX3_perform_46 : decode cX3_perform 46 = .ok (.invokevirtual 51, 3) := by decide +kernel
theorem dX3_perform_49 : decode cX3_perform 49 = .ok (.ireturn, 1) := by decide +kernel
theorem dX3_passDays_0 : decode cX3_passDays 0 = .ok (.iconst 0, 1) := by decide +kernel
theorem dX3_passDays_1 : decode cX3_passDays 1 = .ok (.istore_n 3, 1) := by decide +kernel
theorem dX3_passDays_2 : decode cX3_passDays 2 = .ok (.iload_n 3, 1) := by decide +kernel
theorem dX3_passDays_3 : decode cX3_passDays 3 = .ok (.iload_n 2, 1) := by decide +kernel
theorem dX3_passDays_4 : decode cX3_passDays 4 = .ok (.if_icmp .ge 24, 3) := by decide +kernel
theorem dX3_passDays_7 : decode cX3_passDays 7 = .ok (.aload_n 0, 1) := by decide +kernel
theorem dX3_passDays_8 : decode cX3_passDays 8 = .ok (.aload_n 1, 1) := by decide +kernel
theorem dX3_passDays_9 : decode cX3_passDays 9 = .ok (.invokevirtual 55, 3) := by decide +kernel
theorem dX3_passDays_12 : decode cX3_passDays 12 = .ok (.aload_n 0, 1) := by decide +kernel
theorem dX3_passDays_13 : decode cX3_passDays 13 = .ok (.aload_n 1, 1) := by decide +kernel
theorem dX3_passDays_14 : decode cX3_passDays 14 = .ok (.invokevirtual 59, 3) := by decide +kernel
theorem dX3_passDays_17 : decode cX3_passDays 17 = .ok (.aload_n 0, 1) := by decide +kernel
theorem dX3_passDays_18 : decode cX3_passDays 18 = .ok (.aload_n 1, 1) := by decide +kernel
theorem dX3_passDays_19 : decode cX3_passDays 19 = .ok (.invokevirtual 62, 3) := by decide +kernel
theorem dX3_passDays_22 : decode cX3_passDays 22 = .ok (.iinc 3 1, 3) := by decide +kernel
theorem dX3_passDays_25 : decode cX3_passDays 25 = .ok (.goto (-23), 3) := by decide +kernel
theorem dX3_passDays_28 : decode cX3_passDays 28 = .ok (.return_, 1) := by decide +kernel
theorem dX3_doTold_0 : decode cX3_doTold 0 = .ok (.iconst 0, 1) := by decide +kernel
theorem dX3_doTold_1 : decode cX3_doTold 1 = .ok (.istore_n 2, 1) := by decide +kernel
theorem dX3_doTold_2 : decode cX3_doTold 2 = .ok (.iload_n 2, 1) := by decide +kernel
theorem dX3_doTold_3 : decode cX3_doTold 3 = .ok (.aload_n 1, 1) := by decide +kernel
theorem dX3_doTold_4 : decode cX3_doTold 4 = .ok (.getfield 65, 3) := by decide +kernel
theorem dX3_doTold_7 : decode cX3_doTold 7 = .ok (.if_icmp .ge 36, 3) := by decide +kernel
theorem dX3_doTold_10 : decode cX3_doTold 10 = .ok (.aload_n 1, 1) := by decide +kernel
theorem dX3_doTold_11 : decode cX3_doTold 11 = .ok (.getfield 68, 3) := by decide +kernel
theorem dX3_doTold_14 : decode cX3_doTold 14 = .ok (.iload_n 2, 1) := by decide +kernel
theorem dX3_doTold_15 : decode cX3_doTold 15 = .ok (.bipush 7, 2) := by decide +kernel
theorem dX3_doTold_17 : decode cX3_doTold 17 = .ok (.imul, 1) := by decide +kernel
theorem dX3_doTold_18 : decode cX3_doTold 18 = .ok (.aload_n 0, 1) := by decide +kernel
theorem dX3_doTold_19 : decode cX3_doTold 19 = .ok (.invokevirtual 71, 3) := by decide +kernel
theorem dX3_doTold_22 : decode cX3_doTold 22 = .ok (.iadd, 1) := by decide +kernel
theorem dX3_doTold_23 : decode cX3_doTold 23 = .ok (.iaload, 1) := by decide +kernel
theorem dX3_doTold_24 : decode cX3_doTold 24 = .ok (.istore_n 3, 1) := by decide +kernel
theorem dX3_doTold_25 : decode cX3_doTold 25 = .ok (.iload_n 3, 1) := by decide +kernel
theorem dX3_doTold_26 : decode cX3_doTold 26 = .ok (.ifCond .lt 11, 3) := by decide +kernel
theorem dX3_doTold_29 : decode cX3_doTold 29 = .ok (.aload_n 0, 1) := by decide +kernel
theorem dX3_doTold_30 : decode cX3_doTold 30 = .ok (.aload_n 1, 1) := by decide +kernel
theorem dX3_doTold_31 : decode cX3_doTold 31 = .ok (.iload_n 2, 1) := by decide +kernel
theorem dX3_doTold_32 : decode cX3_doTold 32 = .ok (.iload_n 3, 1) := by decide +kernel
theorem dX3_doTold_33 : decode cX3_doTold 33 = .ok (.invokevirtual 74, 3) := by decide +kernel
theorem dX3_doTold_36 : decode cX3_doTold 36 = .ok (.pop, 1) := by decide +kernel
theorem dX3_doTold_37 : decode cX3_doTold 37 = .ok (.iinc 2 1, 3) := by decide +kernel
theorem dX3_doTold_40 : decode cX3_doTold 40 = .ok (.goto (-38), 3) := by decide +kernel
theorem dX3_doTold_43 : decode cX3_doTold 43 = .ok (.return_, 1) := by decide +kernel
theorem dX3_doDrawn_0 : decode cX3_doDrawn 0 = .ok (.iconst 0, 1) := by decide +kernel
theorem dX3_doDrawn_1 : decode cX3_doDrawn 1 = .ok (.istore 4, 2) := by decide +kernel
theorem dX3_doDrawn_3 : decode cX3_doDrawn 3 = .ok (.iload 4, 2) := by decide +kernel
theorem dX3_doDrawn_5 : decode cX3_doDrawn 5 = .ok (.aload_n 1, 1) := by decide +kernel
theorem dX3_doDrawn_6 : decode cX3_doDrawn 6 = .ok (.getfield 65, 3) := by decide +kernel
theorem dX3_doDrawn_9 : decode cX3_doDrawn 9 = .ok (.if_icmp .ge 44, 3) := by decide +kernel
theorem dX3_doDrawn_12 : decode cX3_doDrawn 12 = .ok (.iload_n 2, 1) := by decide +kernel
theorem dX3_doDrawn_13 : decode cX3_doDrawn 13 = .ok (.iload_n 3, 1) := by decide +kernel
theorem dX3_doDrawn_14 : decode cX3_doDrawn 14 = .ok (.iload 4, 2) := by decide +kernel
theorem dX3_doDrawn_16 : decode cX3_doDrawn 16 = .ok (.invokestatic 78, 3) := by decide +kernel
theorem dX3_doDrawn_19 : decode cX3_doDrawn 19 = .ok (.aload_n 1, 1) := by decide +kernel
theorem dX3_doDrawn_20 : decode cX3_doDrawn 20 = .ok (.getfield 82, 3) := by decide +kernel
theorem dX3_doDrawn_23 : decode cX3_doDrawn 23 = .ok (.iconst 1, 1) := by decide +kernel
theorem dX3_doDrawn_24 : decode cX3_doDrawn 24 = .ok (.iadd, 1) := by decide +kernel
theorem dX3_doDrawn_25 : decode cX3_doDrawn 25 = .ok (.irem, 1) := by decide +kernel
theorem dX3_doDrawn_26 : decode cX3_doDrawn 26 = .ok (.istore 5, 2) := by decide +kernel
theorem dX3_doDrawn_28 : decode cX3_doDrawn 28 = .ok (.iload 5, 2) := by decide +kernel
theorem dX3_doDrawn_30 : decode cX3_doDrawn 30 = .ok (.aload_n 1, 1) := by decide +kernel
theorem dX3_doDrawn_31 : decode cX3_doDrawn 31 = .ok (.getfield 82, 3) := by decide +kernel
theorem dX3_doDrawn_34 : decode cX3_doDrawn 34 = .ok (.if_icmp .ge 13, 3) := by decide +kernel
theorem dX3_doDrawn_37 : decode cX3_doDrawn 37 = .ok (.aload_n 0, 1) := by decide +kernel
theorem dX3_doDrawn_38 : decode cX3_doDrawn 38 = .ok (.aload_n 1, 1) := by decide +kernel
theorem dX3_doDrawn_39 : decode cX3_doDrawn 39 = .ok (.iload 4, 2) := by decide +kernel
theorem dX3_doDrawn_41 : decode cX3_doDrawn 41 = .ok (.iload 5, 2) := by decide +kernel
theorem dX3_doDrawn_43 : decode cX3_doDrawn 43 = .ok (.invokevirtual 74, 3) := by decide +kernel
theorem dX3_doDrawn_46 : decode cX3_doDrawn 46 = .ok (.pop, 1) := by decide +kernel
theorem dX3_doDrawn_47 : decode cX3_doDrawn 47 = .ok (.iinc 4 1, 3) := by decide +kernel
theorem dX3_doDrawn_50 : decode cX3_doDrawn 50 = .ok (.goto (-47), 3) := by decide +kernel
theorem dX3_doDrawn_53 : decode cX3_doDrawn 53 = .ok (.return_, 1) := by decide +kernel
theorem dX3_draw_0 : decode cX3_draw 0 = .ok (.ldc2_w 85, 3) := by decide +kernel
theorem dX3_draw_3 : decode cX3_draw 3 = .ok (.iload_n 0, 1) := by decide +kernel
theorem dX3_draw_4 : decode cX3_draw 4 = .ok (.i2l, 1) := by decide +kernel
theorem dX3_draw_5 : decode cX3_draw 5 = .ok (.lmul, 1) := by decide +kernel
theorem dX3_draw_6 : decode cX3_draw 6 = .ok (.ldc2_w 87, 3) := by decide +kernel
theorem dX3_draw_9 : decode cX3_draw 9 = .ok (.iload_n 1, 1) := by decide +kernel
theorem dX3_draw_10 : decode cX3_draw 10 = .ok (.i2l, 1) := by decide +kernel
theorem dX3_draw_11 : decode cX3_draw 11 = .ok (.lmul, 1) := by decide +kernel
theorem dX3_draw_12 : decode cX3_draw 12 = .ok (.ladd, 1) := by decide +kernel
theorem dX3_draw_13 : decode cX3_draw 13 = .ok (.ldc2_w 89, 3) := by decide +kernel
theorem dX3_draw_16 : decode cX3_draw 16 = .ok (.iload_n 2, 1) := by decide +kernel
theorem dX3_draw_17 : decode cX3_draw 17 = .ok (.i2l, 1) := by decide +kernel
theorem dX3_draw_18 : decode cX3_draw 18 = .ok (.lmul, 1) := by decide +kernel
theorem dX3_draw_19 : decode cX3_draw 19 = .ok (.ladd, 1) := by decide +kernel
theorem dX3_draw_20 : decode cX3_draw 20 = .ok (.lconst 1, 1) := by decide +kernel
theorem dX3_draw_21 : decode cX3_draw 21 = .ok (.ladd, 1) := by decide +kernel
theorem dX3_draw_22 : decode cX3_draw 22 = .ok (.lstore_n 3, 1) := by decide +kernel
theorem dX3_draw_23 : decode cX3_draw 23 = .ok (.lload_n 3, 1) := by decide +kernel
theorem dX3_draw_24 : decode cX3_draw 24 = .ok (.lload_n 3, 1) := by decide +kernel
theorem dX3_draw_25 : decode cX3_draw 25 = .ok (.lmul, 1) := by decide +kernel
theorem dX3_draw_26 : decode cX3_draw 26 = .ok (.ldc2_w 91, 3) := by decide +kernel
theorem dX3_draw_29 : decode cX3_draw 29 = .ok (.lrem, 1) := by decide +kernel
theorem dX3_draw_30 : decode cX3_draw 30 = .ok (.ldc2_w 93, 3) := by decide +kernel
theorem dX3_draw_33 : decode cX3_draw 33 = .ok (.ldiv, 1) := by decide +kernel
theorem dX3_draw_34 : decode cX3_draw 34 = .ok (.l2i, 1) := by decide +kernel
theorem dX3_draw_35 : decode cX3_draw 35 = .ok (.ireturn, 1) := by decide +kernel
theorem dX3_fade_0 : decode cX3_fade 0 = .ok (.iconst 0, 1) := by decide +kernel
theorem dX3_fade_1 : decode cX3_fade 1 = .ok (.istore_n 2, 1) := by decide +kernel
theorem dX3_fade_2 : decode cX3_fade 2 = .ok (.iload_n 2, 1) := by decide +kernel
theorem dX3_fade_3 : decode cX3_fade 3 = .ok (.aload_n 1, 1) := by decide +kernel
theorem dX3_fade_4 : decode cX3_fade 4 = .ok (.getfield 65, 3) := by decide +kernel
theorem dX3_fade_7 : decode cX3_fade 7 = .ok (.if_icmp .ge 21, 3) := by decide +kernel
theorem dX3_fade_10 : decode cX3_fade 10 = .ok (.aload_n 1, 1) := by decide +kernel
theorem dX3_fade_11 : decode cX3_fade 11 = .ok (.iload_n 2, 1) := by decide +kernel
theorem dX3_fade_12 : decode cX3_fade 12 = .ok (.aload_n 0, 1) := by decide +kernel
theorem dX3_fade_13 : decode cX3_fade 13 = .ok (.getfield 9, 3) := by decide +kernel
theorem dX3_fade_16 : decode cX3_fade 16 = .ok (.iload_n 2, 1) := by decide +kernel
theorem dX3_fade_17 : decode cX3_fade 17 = .ok (.iconst 3, 1) := by decide +kernel
theorem dX3_fade_18 : decode cX3_fade 18 = .ok (.imul, 1) := by decide +kernel
theorem dX3_fade_19 : decode cX3_fade 19 = .ok (.invokevirtual 95, 3) := by decide +kernel
theorem dX3_fade_22 : decode cX3_fade 22 = .ok (.iinc 2 1, 3) := by decide +kernel
theorem dX3_fade_25 : decode cX3_fade 25 = .ok (.goto (-23), 3) := by decide +kernel
theorem dX3_fade_28 : decode cX3_fade 28 = .ok (.return_, 1) := by decide +kernel
theorem dX3_endDay_0 : decode cX3_endDay 0 = .ok (.aload_n 0, 1) := by decide +kernel
theorem dX3_endDay_1 : decode cX3_endDay 1 = .ok (.invokevirtual 71, 3) := by decide +kernel
theorem dX3_endDay_4 : decode cX3_endDay 4 = .ok (.bipush 6, 2) := by decide +kernel
theorem dX3_endDay_6 : decode cX3_endDay 6 = .ok (.if_icmp .ne 31, 3) := by decide +kernel
theorem dX3_endDay_9 : decode cX3_endDay 9 = .ok (.iconst 0, 1) := by decide +kernel
theorem dX3_endDay_10 : decode cX3_endDay 10 = .ok (.istore_n 2, 1) := by decide +kernel
theorem dX3_endDay_11 : decode cX3_endDay 11 = .ok (.iload_n 2, 1) := by decide +kernel
theorem dX3_endDay_12 : decode cX3_endDay 12 = .ok (.aload_n 1, 1) := by decide +kernel
theorem dX3_endDay_13 : decode cX3_endDay 13 = .ok (.getfield 65, 3) := by decide +kernel
theorem dX3_endDay_16 : decode cX3_endDay 16 = .ok (.if_icmp .ge 21, 3) := by decide +kernel
theorem dX3_endDay_19 : decode cX3_endDay 19 = .ok (.aload_n 1, 1) := by decide +kernel
theorem dX3_endDay_20 : decode cX3_endDay 20 = .ok (.iload_n 2, 1) := by decide +kernel
theorem dX3_endDay_21 : decode cX3_endDay 21 = .ok (.aload_n 0, 1) := by decide +kernel
theorem dX3_endDay_22 : decode cX3_endDay 22 = .ok (.getfield 9, 3) := by decide +kernel
theorem dX3_endDay_25 : decode cX3_endDay 25 = .ok (.iload_n 2, 1) := by decide +kernel
theorem dX3_endDay_26 : decode cX3_endDay 26 = .ok (.iconst 3, 1) := by decide +kernel
theorem dX3_endDay_27 : decode cX3_endDay 27 = .ok (.imul, 1) := by decide +kernel
theorem dX3_endDay_28 : decode cX3_endDay 28 = .ok (.invokevirtual 98, 3) := by decide +kernel
theorem dX3_endDay_31 : decode cX3_endDay 31 = .ok (.iinc 2 1, 3) := by decide +kernel
theorem dX3_endDay_34 : decode cX3_endDay 34 = .ok (.goto (-23), 3) := by decide +kernel
theorem dX3_endDay_37 : decode cX3_endDay 37 = .ok (.aload_n 0, 1) := by decide +kernel
theorem dX3_endDay_38 : decode cX3_endDay 38 = .ok (.dup, 1) := by decide +kernel
theorem dX3_endDay_39 : decode cX3_endDay 39 = .ok (.getfield 21, 3) := by decide +kernel
theorem dX3_endDay_42 : decode cX3_endDay 42 = .ok (.iconst 1, 1) := by decide +kernel
theorem dX3_endDay_43 : decode cX3_endDay 43 = .ok (.iadd, 1) := by decide +kernel
theorem dX3_endDay_44 : decode cX3_endDay 44 = .ok (.putfield 21, 3) := by decide +kernel
theorem dX3_endDay_47 : decode cX3_endDay 47 = .ok (.return_, 1) := by decide +kernel
theorem dX3_firstGrey_0 : decode cX3_firstGrey 0 = .ok (.iconst 0, 1) := by decide +kernel
theorem dX3_firstGrey_1 : decode cX3_firstGrey 1 = .ok (.istore_n 2, 1) := by decide +kernel
theorem dX3_firstGrey_2 : decode cX3_firstGrey 2 = .ok (.iload_n 2, 1) := by decide +kernel
theorem dX3_firstGrey_3 : decode cX3_firstGrey 3 = .ok (.aload_n 1, 1) := by decide +kernel
theorem dX3_firstGrey_4 : decode cX3_firstGrey 4 = .ok (.getfield 65, 3) := by decide +kernel
theorem dX3_firstGrey_7 : decode cX3_firstGrey 7 = .ok (.if_icmp .ge 19, 3) := by decide +kernel
theorem dX3_firstGrey_10 : decode cX3_firstGrey 10 = .ok (.aload_n 0, 1) := by decide +kernel
theorem dX3_firstGrey_11 : decode cX3_firstGrey 11 = .ok (.iload_n 2, 1) := by decide +kernel
theorem dX3_firstGrey_12 : decode cX3_firstGrey 12 = .ok (.invokevirtual 101, 3) := by decide +kernel
theorem dX3_firstGrey_15 : decode cX3_firstGrey 15 = .ok (.ifCond .ne 5, 3) := by decide +kernel
theorem dX3_firstGrey_18 : decode cX3_firstGrey 18 = .ok (.iload_n 2, 1) := by decide +kernel
theorem dX3_firstGrey_19 : decode cX3_firstGrey 19 = .ok (.ireturn, 1) := by decide +kernel
theorem dX3_firstGrey_20 : decode cX3_firstGrey 20 = .ok (.iinc 2 1, 3) := by decide +kernel
theorem dX3_firstGrey_23 : decode cX3_firstGrey 23 = .ok (.goto (-21), 3) := by decide +kernel
theorem dX3_firstGrey_26 : decode cX3_firstGrey 26 = .ok (.bipush (-4), 2) := by decide +kernel
theorem dX3_firstGrey_28 : decode cX3_firstGrey 28 = .ok (.ireturn, 1) := by decide +kernel
theorem dX3_countGrey_0 : decode cX3_countGrey 0 = .ok (.iconst 0, 1) := by decide +kernel
theorem dX3_countGrey_1 : decode cX3_countGrey 1 = .ok (.istore_n 2, 1) := by decide +kernel
theorem dX3_countGrey_2 : decode cX3_countGrey 2 = .ok (.iconst 0, 1) := by decide +kernel
theorem dX3_countGrey_3 : decode cX3_countGrey 3 = .ok (.istore_n 3, 1) := by decide +kernel
theorem dX3_countGrey_4 : decode cX3_countGrey 4 = .ok (.iload_n 3, 1) := by decide +kernel
theorem dX3_countGrey_5 : decode cX3_countGrey 5 = .ok (.aload_n 1, 1) := by decide +kernel
theorem dX3_countGrey_6 : decode cX3_countGrey 6 = .ok (.getfield 65, 3) := by decide +kernel
theorem dX3_countGrey_9 : decode cX3_countGrey 9 = .ok (.if_icmp .ge 25, 3) := by decide +kernel
theorem dX3_countGrey_12 : decode cX3_countGrey 12 = .ok (.iload_n 2, 1) := by decide +kernel
theorem dX3_countGrey_13 : decode cX3_countGrey 13 = .ok (.aload_n 0, 1) := by decide +kernel
theorem dX3_countGrey_14 : decode cX3_countGrey 14 = .ok (.iload_n 3, 1) := by decide +kernel
theorem dX3_countGrey_15 : decode cX3_countGrey 15 = .ok (.invokevirtual 101, 3) := by decide +kernel
theorem dX3_countGrey_18 : decode cX3_countGrey 18 = .ok (.ifCond .ne 7, 3) := by decide +kernel
theorem dX3_countGrey_21 : decode cX3_countGrey 21 = .ok (.iconst 1, 1) := by decide +kernel
theorem dX3_countGrey_22 : decode cX3_countGrey 22 = .ok (.goto 4, 3) := by decide +kernel
theorem dX3_countGrey_25 : decode cX3_countGrey 25 = .ok (.iconst 0, 1) := by decide +kernel
theorem dX3_countGrey_26 : decode cX3_countGrey 26 = .ok (.iadd, 1) := by decide +kernel
theorem dX3_countGrey_27 : decode cX3_countGrey 27 = .ok (.istore_n 2, 1) := by decide +kernel
theorem dX3_countGrey_28 : decode cX3_countGrey 28 = .ok (.iinc 3 1, 3) := by decide +kernel
theorem dX3_countGrey_31 : decode cX3_countGrey 31 = .ok (.goto (-27), 3) := by decide +kernel
theorem dX3_countGrey_34 : decode cX3_countGrey 34 = .ok (.iload_n 2, 1) := by decide +kernel
theorem dX3_countGrey_35 : decode cX3_countGrey 35 = .ok (.ireturn, 1) := by decide +kernel
theorem dX3_worthOfAll_0 : decode cX3_worthOfAll 0 = .ok (.iconst 0, 1) := by decide +kernel
theorem dX3_worthOfAll_1 : decode cX3_worthOfAll 1 = .ok (.istore_n 2, 1) := by decide +kernel
theorem dX3_worthOfAll_2 : decode cX3_worthOfAll 2 = .ok (.iconst 0, 1) := by decide +kernel
theorem dX3_worthOfAll_3 : decode cX3_worthOfAll 3 = .ok (.istore_n 3, 1) := by decide +kernel
theorem dX3_worthOfAll_4 : decode cX3_worthOfAll 4 = .ok (.iload_n 3, 1) := by decide +kernel
theorem dX3_worthOfAll_5 : decode cX3_worthOfAll 5 = .ok (.aload_n 1, 1) := by decide +kernel
theorem dX3_worthOfAll_6 : decode cX3_worthOfAll 6 = .ok (.getfield 65, 3) := by decide +kernel
theorem dX3_worthOfAll_9 : decode cX3_worthOfAll 9 = .ok (.if_icmp .ge 18, 3) := by decide +kernel
theorem dX3_worthOfAll_12 : decode cX3_worthOfAll 12 = .ok (.iload_n 2, 1) := by decide +kernel
theorem dX3_worthOfAll_13 : decode cX3_worthOfAll 13 = .ok (.aload_n 0, 1) := by decide +kernel
theorem dX3_worthOfAll_14 : decode cX3_worthOfAll 14 = .ok (.getfield 18, 3) := by decide +kernel
theorem dX3_worthOfAll_17 : decode cX3_worthOfAll 17 = .ok (.iload_n 3, 1) := by decide +kernel
theorem dX3_worthOfAll_18 : decode cX3_worthOfAll 18 = .ok (.iaload, 1) := by decide +kernel
theorem dX3_worthOfAll_19 : decode cX3_worthOfAll 19 = .ok (.iadd, 1) := by decide +kernel
theorem dX3_worthOfAll_20 : decode cX3_worthOfAll 20 = .ok (.istore_n 2, 1) := by decide +kernel
theorem dX3_worthOfAll_21 : decode cX3_worthOfAll 21 = .ok (.iinc 3 1, 3) := by decide +kernel
theorem dX3_worthOfAll_24 : decode cX3_worthOfAll 24 = .ok (.goto (-20), 3) := by decide +kernel
theorem dX3_worthOfAll_27 : decode cX3_worthOfAll 27 = .ok (.iload_n 2, 1) := by decide +kernel
theorem dX3_worthOfAll_28 : decode cX3_worthOfAll 28 = .ok (.ireturn, 1) := by decide +kernel
theorem dX3_thimblesOfAll_0 : decode cX3_thimblesOfAll 0 = .ok (.iconst 0, 1) := by decide +kernel
theorem dX3_thimblesOfAll_1 : decode cX3_thimblesOfAll 1 = .ok (.istore_n 2, 1) := by decide +kernel
theorem dX3_thimblesOfAll_2 : decode cX3_thimblesOfAll 2 = .ok (.iconst 0, 1) := by decide +kernel
theorem dX3_thimblesOfAll_3 : decode cX3_thimblesOfAll 3 = .ok (.istore_n 3, 1) := by decide +kernel
theorem dX3_thimblesOfAll_4 : decode cX3_thimblesOfAll 4 = .ok (.iload_n 3, 1) := by decide +kernel
theorem dX3_thimblesOfAll_5 : decode cX3_thimblesOfAll 5 = .ok (.aload_n 1, 1) := by decide +kernel
theorem dX3_thimblesOfAll_6 : decode cX3_thimblesOfAll 6 = .ok (.getfield 65, 3) := by decide +kernel
theorem dX3_thimblesOfAll_9 : decode cX3_thimblesOfAll 9 = .ok (.iconst 3, 1) := by decide +kernel
theorem dX3_thimblesOfAll_10 : decode cX3_thimblesOfAll 10 = .ok (.imul, 1) := by decide +kernel
theorem dX3_thimblesOfAll_11 : decode cX3_thimblesOfAll 11 = .ok (.if_icmp .ge 18, 3) := by decide +kernel
theorem dX3_thimblesOfAll_14 : decode cX3_thimblesOfAll 14 = .ok (.iload_n 2, 1) := by decide +kernel
theorem dX3_thimblesOfAll_15 : decode cX3_thimblesOfAll 15 = .ok (.aload_n 0, 1) := by decide +kernel
theorem dX3_thimblesOfAll_16 : decode cX3_thimblesOfAll 16 = .ok (.getfield 9, 3) := by decide +kernel
theorem dX3_thimblesOfAll_19 : decode cX3_thimblesOfAll 19 = .ok (.iload_n 3, 1) := by decide +kernel
theorem dX3_thimblesOfAll_20 : decode cX3_thimblesOfAll 20 = .ok (.iaload, 1) := by decide +kernel
theorem dX3_thimblesOfAll_21 : decode cX3_thimblesOfAll 21 = .ok (.iadd, 1) := by decide +kernel
theorem dX3_thimblesOfAll_22 : decode cX3_thimblesOfAll 22 = .ok (.istore_n 2, 1) := by decide +kernel
theorem dX3_thimblesOfAll_23 : decode cX3_thimblesOfAll 23 = .ok (.iinc 3 1, 3) := by decide +kernel
theorem dX3_thimblesOfAll_26 : decode cX3_thimblesOfAll 26 = .ok (.goto (-22), 3) := by decide +kernel
theorem dX3_thimblesOfAll_29 : decode cX3_thimblesOfAll 29 = .ok (.iload_n 2, 1) := by decide +kernel
theorem dX3_thimblesOfAll_30 : decode cX3_thimblesOfAll 30 = .ok (.ireturn, 1) := by decide +kernel
theorem dX3_takeFromRichest_0 : decode cX3_takeFromRichest 0 = .ok (.iload_n 2, 1) := by decide +kernel
theorem dX3_takeFromRichest_1 : decode cX3_takeFromRichest 1 = .ok (.istore_n 3, 1) := by decide +kernel
theorem dX3_takeFromRichest_2 : decode cX3_takeFromRichest 2 = .ok (.iconst 1, 1) := by decide +kernel
theorem dX3_takeFromRichest_3 : decode cX3_takeFromRichest 3 = .ok (.istore 4, 2) := by decide +kernel
theorem dX3_takeFromRichest_5 : decode cX3_takeFromRichest 5 = .ok (.iload 4, 2) := by decide +kernel
theorem dX3_takeFromRichest_7 : decode cX3_takeFromRichest 7 = .ok (.aload_n 1, 1) := by decide +kernel
theorem dX3_takeFromRichest_8 : decode cX3_takeFromRichest 8 = .ok (.getfield 65, 3) := by decide +kernel
theorem dX3_takeFromRichest_11 : decode cX3_takeFromRichest 11 = .ok (.if_icmp .ge 36, 3) := by decide +kernel
theorem dX3_takeFromRichest_14 : decode cX3_takeFromRichest 14 = .ok (.aload_n 0, 1) := by decide +kernel
theorem dX3_takeFromRichest_15 : decode cX3_takeFromRichest 15 = .ok (.getfield 9, 3) := by decide +kernel
theorem dX3_takeFromRichest_18 : decode cX3_takeFromRichest 18 = .ok (.iload 4, 2) := by decide +kernel
theorem dX3_takeFromRichest_20 : decode cX3_takeFromRichest 20 = .ok (.iconst 3, 1) := by decide +kernel
theorem dX3_takeFromRichest_21 : decode cX3_takeFromRichest 21 = .ok (.imul, 1) := by decide +kernel
theorem dX3_takeFromRichest_22 : decode cX3_takeFromRichest 22 = .ok (.iload_n 2, 1) := by decide +kernel
theorem dX3_takeFromRichest_23 : decode cX3_takeFromRichest 23 = .ok (.iadd, 1) := by decide +kernel
theorem dX3_takeFromRichest_24 : decode cX3_takeFromRichest 24 = .ok (.iaload, 1) := by decide +kernel
theorem dX3_takeFromRichest_25 : decode cX3_takeFromRichest 25 = .ok (.aload_n 0, 1) := by decide +kernel
theorem dX3_takeFromRichest_26 : decode cX3_takeFromRichest 26 = .ok (.getfield 9, 3) := by decide +kernel
theorem dX3_takeFromRichest_29 : decode cX3_takeFromRichest 29 = .ok (.iload_n 3, 1) := by decide +kernel
theorem dX3_takeFromRichest_30 : decode cX3_takeFromRichest 30 = .ok (.iaload, 1) := by decide +kernel
theorem dX3_takeFromRichest_31 : decode cX3_takeFromRichest 31 = .ok (.if_icmp .le 10, 3) := by decide +kernel
theorem dX3_takeFromRichest_34 : decode cX3_takeFromRichest 34 = .ok (.iload 4, 2) := by decide +kernel
theorem dX3_takeFromRichest_36 : decode cX3_takeFromRichest 36 = .ok (.iconst 3, 1) := by decide +kernel
theorem dX3_takeFromRichest_37 : decode cX3_takeFromRichest 37 = .ok (.imul, 1) := by decide +kernel
theorem dX3_takeFromRichest_38 : decode cX3_takeFromRichest 38 = .ok (.iload_n 2, 1) := by decide +kernel
theorem dX3_takeFromRichest_39 : decode cX3_takeFromRichest 39 = .ok (.iadd, 1) := by decide +kernel
theorem dX3_takeFromRichest_40 : decode cX3_takeFromRichest 40 = .ok (.istore_n 3, 1) := by decide +kernel
theorem dX3_takeFromRichest_41 : decode cX3_takeFromRichest 41 = .ok (.iinc 4 1, 3) := by decide +kernel
theorem dX3_takeFromRichest_44 : decode cX3_takeFromRichest 44 = .ok (.goto (-39), 3) := by decide +kernel
theorem dX3_takeFromRichest_47 : decode cX3_takeFromRichest 47 = .ok (.aload_n 0, 1) := by decide +kernel
theorem dX3_takeFromRichest_48 : decode cX3_takeFromRichest 48 = .ok (.getfield 9, 3) := by decide +kernel
theorem dX3_takeFromRichest_51 : decode cX3_takeFromRichest 51 = .ok (.iload_n 3, 1) := by decide +kernel
theorem dX3_takeFromRichest_52 : decode cX3_takeFromRichest 52 = .ok (.iaload, 1) := by decide +kernel
theorem dX3_takeFromRichest_53 : decode cX3_takeFromRichest 53 = .ok (.ifCond .ne 5, 3) := by decide +kernel
theorem dX3_takeFromRichest_56 : decode cX3_takeFromRichest 56 = .ok (.iconst 0, 1) := by decide +kernel
theorem dX3_takeFromRichest_57 : decode cX3_takeFromRichest 57 = .ok (.ireturn, 1) := by decide +kernel
theorem dX3_takeFromRichest_58 : decode cX3_takeFromRichest 58 = .ok (.aload_n 0, 1) := by decide +kernel
theorem dX3_takeFromRichest_59 : decode cX3_takeFromRichest 59 = .ok (.getfield 9, 3) := by decide +kernel
theorem dX3_takeFromRichest_62 : decode cX3_takeFromRichest 62 = .ok (.iload_n 3, 1) := by decide +kernel
theorem dX3_takeFromRichest_63 : decode cX3_takeFromRichest 63 = .ok (.dup2, 1) := by decide +kernel
theorem dX3_takeFromRichest_64 : decode cX3_takeFromRichest 64 = .ok (.iaload, 1) := by decide +kernel
theorem dX3_takeFromRichest_65 : decode cX3_takeFromRichest 65 = .ok (.iconst 1, 1) := by decide +kernel
theorem dX3_takeFromRichest_66 : decode cX3_takeFromRichest 66 = .ok (.isub, 1) := by decide +kernel
theorem dX3_takeFromRichest_67 : decode cX3_takeFromRichest 67 = .ok (.iastore, 1) := by decide +kernel
theorem dX3_takeFromRichest_68 : decode cX3_takeFromRichest 68 = .ok (.iconst 1, 1) := by decide +kernel
theorem dX3_takeFromRichest_69 : decode cX3_takeFromRichest 69 = .ok (.ireturn, 1) := by decide +kernel
