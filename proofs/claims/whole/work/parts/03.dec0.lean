theorem dX0_init_0 : decode cX0_init 0 = .ok (.aload_n 0, 1) := by decide +kernel
theorem dX0_init_1 : decode cX0_init 1 = .ok (.invokespecial 1, 3) := by decide +kernel
theorem dX0_init_4 : decode cX0_init 4 = .ok (.return_, 1) := by decide +kernel
theorem dX0_sleepy_0 : decode cX0_sleepy 0 = .ok (.iconst 0, 1) := by decide +kernel
theorem dX0_sleepy_1 : decode cX0_sleepy 1 = .ok (.ireturn, 1) := by decide +kernel
theorem dX0_tires_0 : decode cX0_tires 0 = .ok (.aload_n 0, 1) := by decide +kernel
theorem dX0_tires_1 : decode cX0_tires 1 = .ok (.invokespecial 7, 3) := by decide +kernel
theorem dX0_tires_4 : decode cX0_tires 4 = .ok (.iconst 2, 1) := by decide +kernel
theorem dX0_tires_5 : decode cX0_tires 5 = .ok (.isub, 1) := by decide +kernel
theorem dX0_tires_6 : decode cX0_tires 6 = .ok (.ireturn, 1) := by decide +kernel
theorem dX1_init_0 : decode cX1_init 0 = .ok (.aload_n 0, 1) := by decide +kernel
theorem dX1_init_1 : decode cX1_init 1 = .ok (.invokespecial 1, 3) := by decide +kernel
theorem dX1_init_4 : decode cX1_init 4 = .ok (.return_, 1) := by decide +kernel
theorem dX1_sleepy_0 : decode cX1_sleepy 0 = .ok (.aload_n 0, 1) := by decide +kernel
theorem dX1_sleepy_1 : decode cX1_sleepy 1 = .ok (.iload_n 1, 1) := by decide +kernel
theorem dX1_sleepy_2 : decode cX1_sleepy 2 = .ok (.iload_n 2, 1) := by decide +kernel
theorem dX1_sleepy_3 : decode cX1_sleepy 3 = .ok (.iload_n 3, 1) := by decide +kernel
theorem dX1_sleepy_4 : decode cX1_sleepy 4 = .ok (.invokespecial 7, 3) := by decide +kernel
theorem dX1_sleepy_7 : decode cX1_sleepy 7 = .ok (.istore 4, 2) := by decide +kernel
theorem dX1_sleepy_9 : decode cX1_sleepy 9 = .ok (.iload_n 1, 1) := by decide +kernel
theorem dX1_sleepy_10 : decode cX1_sleepy 10 = .ok (.iconst 4, 1) := by decide +kernel
theorem dX1_sleepy_11 : decode cX1_sleepy 11 = .ok (.irem, 1) := by decide +kernel
theorem dX1_sleepy_12 : decode cX1_sleepy 12 = .ok (.ifCond .ne 14, 3) := by decide +kernel
theorem dX1_sleepy_15 : decode cX1_sleepy 15 = .ok (.iconst 0, 1) := by decide +kernel
theorem dX1_sleepy_16 : decode cX1_sleepy 16 = .ok (.iload 4, 2) := by decide +kernel
theorem dX1_sleepy_18 : decode cX1_sleepy 18 = .ok (.iconst 3, 1) := by decide +kernel
theorem dX1_sleepy_19 : decode cX1_sleepy 19 = .ok (.isub, 1) := by decide +kernel
theorem dX1_sleepy_20 : decode cX1_sleepy 20 = .ok (.invokestatic 11, 3) := by decide +kernel
theorem dX1_sleepy_23 : decode cX1_sleepy 23 = .ok (.goto 5, 3) := by decide +kernel
theorem dX1_sleepy_26 : decode cX1_sleepy 26 = .ok (.iload 4, 2) := by decide +kernel
theorem dX1_sleepy_28 : decode cX1_sleepy 28 = .ok (.ireturn, 1) := by decide +kernel
theorem dX2_init_0 : decode cX2_init 0 = .ok (.aload_n 0, 1) := by decide +kernel
theorem dX2_init_1 : decode cX2_init 1 = .ok (.invokespecial 1, 3) := by decide +kernel
theorem dX2_init_4 : decode cX2_init 4 = .ok (.return_, 1) := by decide +kernel
theorem dX2_sleepy_0 : decode cX2_sleepy 0 = .ok (.aload_n 0, 1) := by decide +kernel
theorem dX2_sleepy_1 : decode cX2_sleepy 1 = .ok (.iload_n 1, 1) := by decide +kernel
theorem dX2_sleepy_2 : decode cX2_sleepy 2 = .ok (.iload_n 2, 1) := by decide +kernel
theorem dX2_sleepy_3 : decode cX2_sleepy 3 = .ok (.iload_n 3, 1) := by decide +kernel
theorem dX2_sleepy_4 : decode cX2_sleepy 4 = .ok (.invokespecial 7, 3) := by decide +kernel
theorem dX2_sleepy_7 : decode cX2_sleepy 7 = .ok (.istore 4, 2) := by decide +kernel
theorem dX2_sleepy_9 : decode cX2_sleepy 9 = .ok (.iload_n 2, 1) := by decide +kernel
theorem dX2_sleepy_10 : decode cX2_sleepy 10 = .ok (.ifCond .eq 10, 3) := by decide +kernel
theorem dX2_sleepy_13 : decode cX2_sleepy 13 = .ok (.iconst 2, 1) := by decide +kernel
theorem dX2_sleepy_14 : decode cX2_sleepy 14 = .ok (.iload 4, 2) := by decide +kernel
theorem dX2_sleepy_16 : decode cX2_sleepy 16 = .ok (.imul, 1) := by decide +kernel
theorem dX2_sleepy_17 : decode cX2_sleepy 17 = .ok (.goto 5, 3) := by decide +kernel
theorem dX2_sleepy_20 : decode cX2_sleepy 20 = .ok (.iload 4, 2) := by decide +kernel
theorem dX2_sleepy_22 : decode cX2_sleepy 22 = .ok (.ireturn, 1) := by decide +kernel
theorem dX3_init_0 : decode cX3_init 0 = .ok (.aload_n 0, 1) := by decide +kernel
theorem dX3_init_1 : decode cX3_init 1 = .ok (.invokespecial 3, 3) := by decide +kernel
theorem dX3_init_4 : decode cX3_init 4 = .ok (.aload_n 0, 1) := by decide +kernel
theorem dX3_init_5 : decode cX3_init 5 = .ok (.bipush 61, 2) := by decide +kernel
theorem dX3_init_7 : decode cX3_init 7 = .ok (.newarray .int, 2) := by decide +kernel
theorem dX3_init_9 : decode cX3_init 9 = .ok (.putfield 9, 3) := by decide +kernel
theorem dX3_init_12 : decode cX3_init 12 = .ok (.aload_n 0, 1) := by decide +kernel
theorem dX3_init_13 : decode cX3_init 13 = .ok (.bipush 61, 2) := by decide +kernel
theorem dX3_init_15 : decode cX3_init 15 = .ok (.newarray .int, 2) := by decide +kernel
theorem dX3_init_17 : decode cX3_init 17 = .ok (.putfield 15, 3) := by decide +kernel
theorem dX3_init_20 : decode cX3_init 20 = .ok (.aload_n 0, 1) := by decide +kernel
theorem dX3_init_21 : decode cX3_init 21 = .ok (.new 18, 3) := by decide +kernel
theorem dX3_init_24 : decode cX3_init 24 = .ok (.dup, 1) := by decide +kernel
theorem dX3_init_25 : decode cX3_init 25 = .ok (.aload_n 1, 1) := by decide +kernel
theorem dX3_init_26 : decode cX3_init 26 = .ok (.invokespecial 20, 3) := by decide +kernel
theorem dX3_init_29 : decode cX3_init 29 = .ok (.putfield 23, 3) := by decide +kernel
theorem dX3_init_32 : decode cX3_init 32 = .ok (.return_, 1) := by decide +kernel
theorem dX3_run_0 : decode cX3_run 0 = .ok (.aload_n 0, 1) := by decide +kernel
theorem dX3_run_1 : decode cX3_run 1 = .ok (.getfield 23, 3) := by decide +kernel
theorem dX3_run_4 : decode cX3_run 4 = .ok (.aload_n 1, 1) := by decide +kernel
theorem dX3_run_5 : decode cX3_run 5 = .ok (.invokevirtual 27, 3) := by decide +kernel
theorem dX3_run_8 : decode cX3_run 8 = .ok (.iconst 0, 1) := by decide +kernel
theorem dX3_run_9 : decode cX3_run 9 = .ok (.istore_n 3, 1) := by decide +kernel
theorem dX3_run_10 : decode cX3_run 10 = .ok (.iload_n 3, 1) := by decide +kernel
theorem dX3_run_11 : decode cX3_run 11 = .ok (.iload_n 2, 1) := by decide +kernel
theorem dX3_run_12 : decode cX3_run 12 = .ok (.if_icmp .gt 61, 3) := by decide +kernel
theorem dX3_run_15 : decode cX3_run 15 = .ok (.iload_n 3, 1) := by decide +kernel
theorem dX3_run_16 : decode cX3_run 16 = .ok (.bipush 60, 2) := by decide +kernel
theorem dX3_run_18 : decode cX3_run 18 = .ok (.if_icmp .gt 55, 3) := by decide +kernel
theorem dX3_run_21 : decode cX3_run 21 = .ok (.aload_n 0, 1) := by decide +kernel
theorem dX3_run_22 : decode cX3_run 22 = .ok (.getfield 9, 3) := by decide +kernel
theorem dX3_run_25 : decode cX3_run 25 = .ok (.iload_n 3, 1) := by decide +kernel
theorem dX3_run_26 : decode cX3_run 26 = .ok (.aload_n 0, 1) := by decide +kernel
theorem dX3_run_27 : decode cX3_run 27 = .ok (.getfield 23, 3) := by decide +kernel
theorem dX3_run_30 : decode cX3_run 30 = .ok (.getfield 31, 3) := by decide +kernel
theorem dX3_run_33 : decode cX3_run 33 = .ok (.iastore, 1) := by decide +kernel
theorem dX3_run_34 : decode cX3_run 34 = .ok (.aload_n 0, 1) := by decide +kernel
theorem dX3_run_35 : decode cX3_run 35 = .ok (.getfield 15, 3) := by decide +kernel
theorem dX3_run_38 : decode cX3_run 38 = .ok (.iload_n 3, 1) := by decide +kernel
theorem dX3_run_39 : decode cX3_run 39 = .ok (.aload_n 0, 1) := by decide +kernel
theorem dX3_run_40 : decode cX3_run 40 = .ok (.getfield 23, 3) := by decide +kernel
theorem dX3_run_43 : decode cX3_run 43 = .ok (.aload_n 0, 1) := by decide +kernel
theorem dX3_run_44 : decode cX3_run 44 = .ok (.getfield 23, 3) := by decide +kernel
theorem dX3_run_47 : decode cX3_run 47 = .ok (.getfield 35, 3) := by decide +kernel
theorem dX3_run_50 : decode cX3_run 50 = .ok (.invokevirtual 38, 3) := by decide +kernel
theorem dX3_run_53 : decode cX3_run 53 = .ok (.iastore, 1) := by decide +kernel
theorem dX3_run_54 : decode cX3_run 54 = .ok (.aload_n 0, 1) := by decide +kernel
theorem dX3_run_55 : decode cX3_run 55 = .ok (.getfield 23, 3) := by decide +kernel
theorem dX3_run_58 : decode cX3_run 58 = .ok (.aload_n 0, 1) := by decide +kernel
theorem dX3_run_59 : decode cX3_run 59 = .ok (.getfield 15, 3) := by decide +kernel
theorem dX3_run_62 : decode cX3_run 62 = .ok (.iload_n 3, 1) := by decide +kernel
theorem dX3_run_63 : decode cX3_run 63 = .ok (.iaload, 1) := by decide +kernel
theorem dX3_run_64 : decode cX3_run 64 = .ok (.invokevirtual 42, 3) := by decide +kernel
theorem dX3_run_67 : decode cX3_run 67 = .ok (.iinc 3 1, 3) := by decide +kernel
theorem dX3_run_70 : decode cX3_run 70 = .ok (.goto (-60), 3) := by decide +kernel
theorem dX3_run_73 : decode cX3_run 73 = .ok (.return_, 1) := by decide +kernel
theorem dX3_timesSteered_0 : decode cX3_timesSteered 0 = .ok (.iconst 0, 1) := by decide +kernel
theorem dX3_timesSteered_1 : decode cX3_timesSteered 1 = .ok (.istore_n 3, 1) := by decide +kernel
theorem dX3_timesSteered_2 : decode cX3_timesSteered 2 = .ok (.iconst 0, 1) := by decide +kernel
theorem dX3_timesSteered_3 : decode cX3_timesSteered 3 = .ok (.istore 4, 2) := by decide +kernel
theorem dX3_timesSteered_5 : decode cX3_timesSteered 5 = .ok (.iload 4, 2) := by decide +kernel
theorem dX3_timesSteered_7 : decode cX3_timesSteered 7 = .ok (.iload_n 2, 1) := by decide +kernel
theorem dX3_timesSteered_8 : decode cX3_timesSteered 8 = .ok (.if_icmp .ge 30, 3) := by decide +kernel
theorem dX3_timesSteered_11 : decode cX3_timesSteered 11 = .ok (.iload 4, 2) := by decide +kernel
theorem dX3_timesSteered_13 : decode cX3_timesSteered 13 = .ok (.bipush 60, 2) := by decide +kernel
theorem dX3_timesSteered_15 : decode cX3_timesSteered 15 = .ok (.if_icmp .gt 23, 3) := by decide +kernel
theorem dX3_timesSteered_18 : decode cX3_timesSteered 18 = .ok (.aload_n 0, 1) := by decide +kernel
theorem dX3_timesSteered_19 : decode cX3_timesSteered 19 = .ok (.getfield 15, 3) := by decide +kernel
theorem dX3_timesSteered_22 : decode cX3_timesSteered 22 = .ok (.iload 4, 2) := by decide +kernel
theorem dX3_timesSteered_24 : decode cX3_timesSteered 24 = .ok (.iaload, 1) := by decide +kernel
theorem dX3_timesSteered_25 : decode cX3_timesSteered 25 = .ok (.iload_n 1, 1) := by decide +kernel
theorem dX3_timesSteered_26 : decode cX3_timesSteered 26 = .ok (.if_icmp .ne 6, 3) := by decide +kernel
theorem dX3_timesSteered_29 : decode cX3_timesSteered 29 = .ok (.iinc 3 1, 3) := by decide +kernel
theorem dX3_timesSteered_32 : decode cX3_timesSteered 32 = .ok (.iinc 4 1, 3) := by decide +kernel
theorem dX3_timesSteered_35 : decode cX3_timesSteered 35 = .ok (.goto (-30), 3) := by decide +kernel
theorem dX3_timesSteered_38 : decode cX3_timesSteered 38 = .ok (.iload_n 3, 1) := by decide +kernel
theorem dX3_timesSteered_39 : decode cX3_timesSteered 39 = .ok (.ireturn, 1) := by decide +kernel
theorem dX4_init_0 : decode cX4_init 0 = .ok (.aload_n 0, 1) := by decide +kernel
theorem dX4_init_1 : decode cX4_init 1 = .ok (.invokespecial 3, 3) := by decide +kernel
theorem dX4_init_4 : decode cX4_init 4 = .ok (.aload_n 0, 1) := by decide +kernel
theorem dX4_init_5 : decode cX4_init 5 = .ok (.bipush 6, 2) := by decide +kernel
theorem dX4_init_7 : decode cX4_init 7 = .ok (.newarray .int, 2) := by decide +kernel
theorem dX4_init_9 : decode cX4_init 9 = .ok (.putfield 9, 3) := by decide +kernel
theorem dX4_init_12 : decode cX4_init 12 = .ok (.aload_n 0, 1) := by decide +kernel
theorem dX4_init_13 : decode cX4_init 13 = .ok (.bipush 6, 2) := by decide +kernel
theorem dX4_init_15 : decode cX4_init 15 = .ok (.newarray .int, 2) := by decide +kernel
theorem dX4_init_17 : decode cX4_init 17 = .ok (.putfield 15, 3) := by decide +kernel
theorem dX4_init_20 : decode cX4_init 20 = .ok (.aload_n 0, 1) := by decide +kernel
theorem dX4_init_21 : decode cX4_init 21 = .ok (.bipush 6, 2) := by decide +kernel
theorem dX4_init_23 : decode cX4_init 23 = .ok (.newarray .int, 2) := by decide +kernel
theorem dX4_init_25 : decode cX4_init 25 = .ok (.putfield 18, 3) := by decide +kernel
theorem dX4_init_28 : decode cX4_init 28 = .ok (.aload_n 0, 1) := by decide +kernel
theorem dX4_init_29 : decode cX4_init 29 = .ok (.aload_n 1, 1) := by decide +kernel
theorem dX4_init_30 : decode cX4_init 30 = .ok (.putfield 21, 3) := by decide +kernel
theorem dX4_init_33 : decode cX4_init 33 = .ok (.return_, 1) := by decide +kernel
theorem dX4_begin_0 : decode cX4_begin 0 = .ok (.aload_n 0, 1) := by decide +kernel
theorem dX4_begin_1 : decode cX4_begin 1 = .ok (.iconst 0, 1) := by decide +kernel
theorem dX4_begin_2 : decode cX4_begin 2 = .ok (.putfield 25, 3) := by decide +kernel
theorem dX4_begin_5 : decode cX4_begin 5 = .ok (.aload_n 0, 1) := by decide +kernel
theorem dX4_begin_6 : decode cX4_begin 6 = .ok (.iconst 0, 1) := by decide +kernel
theorem dX4_begin_7 : decode cX4_begin 7 = .ok (.putfield 29, 3) := by decide +kernel
theorem dX4_begin_10 : decode cX4_begin 10 = .ok (.aload_n 0, 1) := by decide +kernel
theorem dX4_begin_11 : decode cX4_begin 11 = .ok (.iconst 0, 1) := by decide +kernel
theorem dX4_begin_12 : decode cX4_begin 12 = .ok (.putfield 32, 3) := by decide +kernel
theorem dX4_begin_15 : decode cX4_begin 15 = .ok (.aload_n 0, 1) := by decide +kernel
theorem dX4_begin_16 : decode cX4_begin 16 = .ok (.iconst 0, 1) := by decide +kernel
theorem dX4_begin_17 : decode cX4_begin 17 = .ok (.putfield 35, 3) := by decide +kernel
theorem dX4_begin_20 : decode cX4_begin 20 = .ok (.return_, 1) := by decide +kernel
theorem dX4_take_0 : decode cX4_take 0 = .ok (.aload_n 1, 1) := by decide +kernel
theorem dX4_take_1 : decode cX4_take 1 = .ok (.getfield 9, 3) := by decide +kernel
theorem dX4_take_4 : decode cX4_take 4 = .ok (.iconst 0, 1) := by decide +kernel
theorem dX4_take_5 : decode cX4_take 5 = .ok (.aload_n 0, 1) := by decide +kernel
theorem dX4_take_6 : decode cX4_take 6 = .ok (.getfield 9, 3) := by decide +kernel
theorem dX4_take_9 : decode cX4_take 9 = .ok (.iconst 0, 1) := by decide +kernel
theorem dX4_take_10 : decode cX4_take 10 = .ok (.bipush 6, 2) := by decide +kernel
theorem dX4_take_12 : decode cX4_take 12 = .ok (.invokestatic 38, 3) := by decide +kernel
theorem dX4_take_15 : decode cX4_take 15 = .ok (.aload_n 1, 1) := by decide +kernel
theorem dX4_take_16 : decode cX4_take 16 = .ok (.getfield 15, 3) := by decide +kernel
theorem dX4_take_19 : decode cX4_take 19 = .ok (.iconst 0, 1) := by decide +kernel
theorem dX4_take_20 : decode cX4_take 20 = .ok (.aload_n 0, 1) := by decide +kernel
theorem dX4_take_21 : decode cX4_take 21 = .ok (.getfield 15, 3) := by decide +kernel
theorem dX4_take_24 : decode cX4_take 24 = .ok (.iconst 0, 1) := by decide +kernel
theorem dX4_take_25 : decode cX4_take 25 = .ok (.bipush 6, 2) := by decide +kernel
theorem dX4_take_27 : decode cX4_take 27 = .ok (.invokestatic 38, 3) := by decide +kernel
theorem dX4_take_30 : decode cX4_take 30 = .ok (.aload_n 1, 1) := by decide +kernel
theorem dX4_take_31 : decode cX4_take 31 = .ok (.getfield 18, 3) := by decide +kernel
theorem dX4_take_34 : decode cX4_take 34 = .ok (.iconst 0, 1) := by decide +kernel
theorem dX4_take_35 : decode cX4_take 35 = .ok (.aload_n 0, 1) := by decide +kernel
theorem dX4_take_36 : decode cX4_take 36 = .ok (.getfield 18, 3) := by decide +kernel
theorem dX4_take_39 : decode cX4_take 39 = .ok (.iconst 0, 1) := by decide +kernel
theorem dX4_take_40 : decode cX4_take 40 = .ok (.bipush 6, 2) := by decide +kernel
theorem dX4_take_42 : decode cX4_take 42 = .ok (.invokestatic 38, 3) := by decide +kernel
theorem dX4_take_45 : decode cX4_take 45 = .ok (.aload_n 0, 1) := by decide +kernel
theorem dX4_take_46 : decode cX4_take 46 = .ok (.aload_n 1, 1) := by decide +kernel
theorem dX4_take_47 : decode cX4_take 47 = .ok (.getfield 25, 3) := by decide +kernel
theorem dX4_take_50 : decode cX4_take 50 = .ok (.putfield 25, 3) := by decide +kernel
theorem dX4_take_53 : decode cX4_take 53 = .ok (.aload_n 0, 1) := by decide +kernel
theorem dX4_take_54 : decode cX4_take 54 = .ok (.aload_n 1, 1) := by decide +kernel
theorem dX4_take_55 : decode cX4_take 55 = .ok (.getfield 29, 3) := by decide +kernel
theorem dX4_take_58 : decode cX4_take 58 = .ok (.putfield 29, 3) := by decide +kernel
theorem dX4_take_61 : decode cX4_take 61 = .ok (.aload_n 0, 1) := by decide +kernel
theorem dX4_take_62 : decode cX4_take 62 = .ok (.aload_n 1, 1) := by decide +kernel
theorem dX4_take_63 : decode cX4_take 63 = .ok (.getfield 32, 3) := by decide +kernel
theorem dX4_take_66 : decode cX4_take 66 = .ok (.putfield 32, 3) := by decide +kernel
theorem dX4_take_69 : decode cX4_take 69 = .ok (.aload_n 0, 1) := by decide +kernel
theorem dX4_take_70 : decode cX4_take 70 = .ok (.aload_n 1, 1) := by decide +kernel
theorem dX4_take_71 : decode cX4_take 71 = .ok (.getfield 35, 3) := by decide +kernel
theorem dX4_take_74 : decode cX4_take 74 = .ok (.putfield 35, 3) := by decide +kernel
theorem dX4_take_77 : decode cX4_take 77 = .ok (.return_, 1) := by decide +kernel
theorem dX4_sleepiness_0 : decode cX4_sleepiness 0 = .ok (.aload_n 0, 1) := by decide +kernel
theorem dX4_sleepiness_1 : decode cX4_sleepiness 1 = .ok (.getfield 21, 3) := by decide +kernel
theorem dX4_sleepiness_4 : decode cX4_sleepiness 4 = .ok (.aload_n 0, 1) := by decide +kernel
theorem dX4_sleepiness_5 : decode cX4_sleepiness 5 = .ok (.getfield 9, 3) := by decide +kernel
theorem dX4_sleepiness_8 : decode cX4_sleepiness 8 = .ok (.iload_n 1, 1) := by decide +kernel
theorem dX4_sleepiness_9 : decode cX4_sleepiness 9 = .ok (.iaload, 1) := by decide +kernel
theorem dX4_sleepiness_10 : decode cX4_sleepiness 10 = .ok (.aaload, 1) := by decide +kernel
theorem dX4_sleepiness_11 : decode cX4_sleepiness 11 = .ok (.aload_n 0, 1) := by decide +kernel
theorem dX4_sleepiness_12 : decode cX4_sleepiness 12 = .ok (.getfield 32, 3) := by decide +kernel
theorem dX4_sleepiness_15 : decode cX4_sleepiness 15 = .ok (.iload_n 2, 1) := by decide +kernel
theorem dX4_sleepiness_16 : decode cX4_sleepiness 16 = .ok (.aload_n 0, 1) := by decide +kernel
theorem dX4_sleepiness_17 : decode cX4_sleepiness 17 = .ok (.getfield 15, 3) := by decide +kernel
theorem dX4_sleepiness_20 : decode cX4_sleepiness 20 = .ok (.iload_n 1, 1) := by decide +kernel
theorem dX4_sleepiness_21 : decode cX4_sleepiness 21 = .ok (.iaload, 1) := by decide +kernel
theorem dX4_sleepiness_22 : decode cX4_sleepiness 22 = .ok (.invokevirtual 44, 3) := by decide +kernel
theorem dX4_sleepiness_25 : decode cX4_sleepiness 25 = .ok (.ireturn, 1) := by decide +kernel
theorem dX4_steerer_0 : decode cX4_steerer 0 = .ok (.iconst (-1), 1) := by decide +kernel
theorem dX4_steerer_1 : decode cX4_steerer 1 = .ok (.istore_n 2, 1) := by decide +kernel
theorem dX4_steerer_2 : decode cX4_steerer 2 = .ok (.iconst 0, 1) := by decide +kernel
theorem dX4_steerer_3 : decode cX4_steerer 3 = .ok (.istore_n 3, 1) := by decide +kernel
theorem dX4_steerer_4 : decode cX4_steerer 4 = .ok (.iconst 0, 1) := by decide +kernel
theorem dX4_steerer_5 : decode cX4_steerer 5 = .ok (.istore 4, 2) := by decide +kernel
theorem dX4_steerer_7 : decode cX4_steerer 7 = .ok (.iload 4, 2) := by decide +kernel
theorem dX4_steerer_9 : decode cX4_steerer 9 = .ok (.aload_n 0, 1) := by decide +kernel
theorem dX4_steerer_10 : decode cX4_steerer 10 = .ok (.getfield 25, 3) := by decide +kernel
theorem dX4_steerer_13 : decode cX4_steerer 13 = .ok (.if_icmp .ge 35, 3) := by decide +kernel
theorem dX4_steerer_16 : decode cX4_steerer 16 = .ok (.aload_n 0, 1) := by decide +kernel
theorem dX4_steerer_17 : decode cX4_steerer 17 = .ok (.iload 4, 2) := by decide +kernel
theorem dX4_steerer_19 : decode cX4_steerer 19 = .ok (.iload_n 1, 1) := by decide +kernel
theorem dX4_steerer_20 : decode cX4_steerer 20 = .ok (.iload 4, 2) := by decide +kernel
theorem dX4_steerer_22 : decode cX4_steerer 22 = .ok (.invokestatic 50, 3) := by decide +kernel
theorem dX4_steerer_25 : decode cX4_steerer 25 = .ok (.invokevirtual 54, 3) := by decide +kernel
theorem dX4_steerer_28 : decode cX4_steerer 28 = .ok (.istore 5, 2) := by decide +kernel
theorem dX4_steerer_30 : decode cX4_steerer 30 = .ok (.iload 5, 2) := by decide +kernel
theorem dX4_steerer_32 : decode cX4_steerer 32 = .ok (.iload_n 3, 1) := by decide +kernel
theorem dX4_steerer_33 : decode cX4_steerer 33 = .ok (.if_icmp .le 9, 3) := by decide +kernel
theorem dX4_steerer_36 : decode cX4_steerer 36 = .ok (.iload 5, 2) := by decide +kernel
theorem dX4_steerer_38 : decode cX4_steerer 38 = .ok (.istore_n 3, 1) := by decide +kernel
theorem dX4_steerer_39 : decode cX4_steerer 39 = .ok (.iload 4, 2) := by decide +kernel
theorem dX4_steerer_41 : decode cX4_steerer 41 = .ok (.istore_n 2, 1) := by decide +kernel
theorem dX4_steerer_42 : decode cX4_steerer 42 = .ok (.iinc 4 1, 3) := by decide +kernel
theorem dX4_steerer_45 : decode cX4_steerer 45 = .ok (.goto (-38), 3) := by decide +kernel
theorem dX4_steerer_48 : decode cX4_steerer 48 = .ok (.iload_n 2, 1) := by decide +kernel
theorem dX4_steerer_49 : decode cX4_steerer 49 = .ok (.ireturn, 1) := by decide +kernel
theorem dX4_go_0 : decode cX4_go 0 = .ok (.iconst 0, 1) := by decide +kernel
theorem dX4_go_1 : decode cX4_go 1 = .ok (.istore_n 2, 1) := by decide +kernel
theorem dX4_go_2 : decode cX4_go 2 = .ok (.iload_n 2, 1) := by decide +kernel
theorem dX4_go_3 : decode cX4_go 3 = .ok (.aload_n 0, 1) := by decide +kernel
theorem dX4_go_4 : decode cX4_go 4 = .ok (.getfield 25, 3) := by decide +kernel
theorem dX4_go_7 : decode cX4_go 7 = .ok (.if_icmp .ge 82, 3) := by decide +kernel
theorem dX4_go_10 : decode cX4_go 10 = .ok (.iload_n 2, 1) := by decide +kernel
theorem dX4_go_11 : decode cX4_go 11 = .ok (.iload_n 1, 1) := by decide +kernel
theorem dX4_go_12 : decode cX4_go 12 = .ok (.if_icmp .ne 39, 3) := by decide +kernel
theorem dX4_go_15 : decode cX4_go 15 = .ok (.aload_n 0, 1) := by decide +kernel
theorem dX4_go_16 : decode cX4_go 16 = .ok (.dup, 1) := by decide +kernel
theorem dX4_go_17 : decode cX4_go 17 = .ok (.getfield 29, 3) := by decide +kernel
theorem dX4_go_20 : decode cX4_go 20 = .ok (.aload_n 0, 1) := by decide +kernel
theorem dX4_go_21 : decode cX4_go 21 = .ok (.getfield 18, 3) := by decide +kernel
theorem dX4_go_24 : decode cX4_go 24 = .ok (.iload_n 2, 1) := by decide +kernel
theorem dX4_go_25 : decode cX4_go 25 = .ok (.iaload, 1) := by decide +kernel
theorem dX4_go_26 : decode cX4_go 26 = .ok (.iadd, 1) := by decide +kernel
theorem dX4_go_27 : decode cX4_go 27 = .ok (.putfield 29, 3) := by decide +kernel
theorem dX4_go_30 : decode cX4_go 30 = .ok (.aload_n 0, 1) := by decide +kernel
theorem dX4_go_31 : decode cX4_go 31 = .ok (.getfield 15, 3) := by decide +kernel
theorem dX4_go_34 : decode cX4_go 34 = .ok (.iload_n 2, 1) := by decide +kernel
theorem dX4_go_35 : decode cX4_go 35 = .ok (.iconst 0, 1) := by decide +kernel
theorem dX4_go_36 : decode cX4_go 36 = .ok (.aload_n 0, 1) := by decide +kernel
theorem dX4_go_37 : decode cX4_go 37 = .ok (.getfield 15, 3) := by decide +kernel
theorem dX4_go_40 : decode cX4_go 40 = .ok (.iload_n 2, 1) := by decide +kernel
theorem dX4_go_41 : decode cX4_go 41 = .ok (.iaload, 1) := by decide +kernel
theorem dX4_go_42 : decode cX4_go 42 = .ok (.iconst 4, 1) := by decide +kernel
theorem dX4_go_43 : decode cX4_go 43 = .ok (.isub, 1) := by decide +kernel
theorem dX4_go_44 : decode cX4_go 44 = .ok (.invokestatic 58, 3) := by decide +kernel
theorem dX4_go_47 : decode cX4_go 47 = .ok (.iastore, 1) := by decide +kernel
theorem dX4_go_48 : decode cX4_go 48 = .ok (.goto 35, 3) := by decide +kernel
theorem dX4_go_51 : decode cX4_go 51 = .ok (.aload_n 0, 1) := by decide +kernel
theorem dX4_go_52 : decode cX4_go 52 = .ok (.getfield 15, 3) := by decide +kernel
theorem dX4_go_55 : decode cX4_go 55 = .ok (.iload_n 2, 1) := by decide +kernel
theorem dX4_go_56 : decode cX4_go 56 = .ok (.bipush 99, 2) := by decide +kernel
theorem dX4_go_58 : decode cX4_go 58 = .ok (.aload_n 0, 1) := by decide +kernel
theorem dX4_go_59 : decode cX4_go 59 = .ok (.getfield 15, 3) := by decide +kernel
theorem dX4_go_62 : decode cX4_go 62 = .ok (.iload_n 2, 1) := by decide +kernel
theorem dX4_go_63 : decode cX4_go 63 = .ok (.iaload, 1) := by decide +kernel
theorem dX4_go_64 : decode cX4_go 64 = .ok (.aload_n 0, 1) := by decide +kernel
theorem dX4_go_65 : decode cX4_go 65 = .ok (.getfield 21, 3) := by decide +kernel
theorem dX4_go_68 : decode cX4_go 68 = .ok (.aload_n 0, 1) := by decide +kernel
theorem dX4_go_69 : decode cX4_go 69 = .ok (.getfield 9, 3) := by decide +kernel
theorem dX4_go_72 : decode cX4_go 72 = .ok (.iload_n 2, 1) := by decide +kernel
theorem dX4_go_73 : decode cX4_go 73 = .ok (.iaload, 1) := by decide +kernel
theorem dX4_go_74 : decode cX4_go 74 = .ok (.aaload, 1) := by decide +kernel
theorem dX4_go_75 : decode cX4_go 75 = .ok (.invokevirtual 64, 3) := by decide +kernel
theorem dX4_go_78 : decode cX4_go 78 = .ok (.iadd, 1) := by decide +kernel
theorem dX4_go_79 : decode cX4_go 79 = .ok (.invokestatic 68, 3) := by decide +kernel
theorem dX4_go_82 : decode cX4_go 82 = .ok (.iastore, 1) := by decide +kernel
theorem dX4_go_83 : decode cX4_go 83 = .ok (.iinc 2 1, 3) := by decide +kernel
theorem dX4_go_86 : decode cX4_go 86 = .ok (.goto (-84), 3) := by decide +kernel
theorem dX4_go_89 : decode cX4_go 89 = .ok (.aload_n 0, 1) := by decide +kernel
theorem dX4_go_90 : decode cX4_go 90 = .ok (.iconst 0, 1) := by decide +kernel
theorem dX4_go_91 : decode cX4_go 91 = .ok (.putfield 35, 3) := by decide +kernel
theorem dX4_go_94 : decode cX4_go 94 = .ok (.aload_n 0, 1) := by decide +kernel
theorem dX4_go_95 : decode cX4_go 95 = .ok (.dup, 1) := by decide +kernel
theorem dX4_go_96 : decode cX4_go 96 = .ok (.getfield 32, 3) := by decide +kernel
theorem dX4_go_99 : decode cX4_go 99 = .ok (.iconst 1, 1) := by decide +kernel
theorem dX4_go_100 : decode cX4_go 100 = .ok (.iadd, 1) := by decide +kernel
theorem dX4_go_101 : decode cX4_go 101 = .ok (.putfield 32, 3) := by decide +kernel
theorem dX4_go_104 : decode cX4_go 104 = .ok (.return_, 1) := by decide +kernel
theorem dX4_canSteer_0 : decode cX4_canSteer 0 = .ok (.aload_n 0, 1) := by decide +kernel
theorem dX4_canSteer_1 : decode cX4_canSteer 1 = .ok (.iload_n 1, 1) := by decide +kernel
theorem dX4_canSteer_2 : decode cX4_canSteer 2 = .ok (.iconst 1, 1) := by decide +kernel
theorem dX4_canSteer_3 : decode cX4_canSteer 3 = .ok (.invokevirtual 54, 3) := by decide +kernel
theorem dX4_canSteer_6 : decode cX4_canSteer 6 = .ok (.aload_n 0, 1) := by decide +kernel
theorem dX4_canSteer_7 : decode cX4_canSteer 7 = .ok (.iload_n 1, 1) := by decide +kernel
theorem dX4_canSteer_8 : decode cX4_canSteer 8 = .ok (.iconst 0, 1) := by decide +kernel
theorem dX4_canSteer_9 : decode cX4_canSteer 9 = .ok (.invokevirtual 54, 3) := by decide +kernel
theorem dX4_canSteer_12 : decode cX4_canSteer 12 = .ok (.invokestatic 58, 3) := by decide +kernel
theorem dX4_canSteer_15 : decode cX4_canSteer 15 = .ok (.istore_n 2, 1) := by decide +kernel
theorem dX4_canSteer_16 : decode cX4_canSteer 16 = .ok (.iload_n 2, 1) := by decide +kernel
theorem dX4_canSteer_17 : decode cX4_canSteer 17 = .ok (.ifCond .le 7, 3) := by decide +kernel
theorem dX4_canSteer_20 : decode cX4_canSteer 20 = .ok (.iconst 1, 1) := by decide +kernel
theorem dX4_canSteer_21 : decode cX4_canSteer 21 = .ok (.goto 4, 3) := by decide +kernel
theorem dX4_canSteer_24 : decode cX4_canSteer 24 = .ok (.iconst 0, 1) := by decide +kernel
theorem dX4_canSteer_25 : decode cX4_canSteer 25 = .ok (.istore_n 3, 1) := by decide +kernel
theorem dX4_canSteer_26 : decode cX4_canSteer 26 = .ok (.iconst 0, 1) := by decide +kernel
theorem dX4_canSteer_27 : decode cX4_canSteer 27 = .ok (.istore 4, 2) := by decide +kernel
theorem dX4_canSteer_29 : decode cX4_canSteer 29 = .ok (.iload 4, 2) := by decide +kernel
theorem dX4_canSteer_31 : decode cX4_canSteer 31 = .ok (.aload_n 0, 1) := by decide +kernel
theorem dX4_canSteer_32 : decode cX4_canSteer 32 = .ok (.getfield 25, 3) := by decide +kernel
theorem dX4_canSteer_35 : decode cX4_canSteer 35 = .ok (.if_icmp .ge 56, 3) := by decide +kernel
theorem dX4_canSteer_38 : decode cX4_canSteer 38 = .ok (.aload_n 0, 1) := by decide +kernel
theorem dX4_canSteer_39 : decode cX4_canSteer 39 = .ok (.iload 4, 2) := by decide +kernel
theorem dX4_canSteer_41 : decode cX4_canSteer 41 = .ok (.iconst 1, 1) := by decide +kernel
theorem dX4_canSteer_42 : decode cX4_canSteer 42 = .ok (.invokevirtual 54, 3) := by decide +kernel
theorem dX4_canSteer_45 : decode cX4_canSteer 45 = .ok (.aload_n 0, 1) := by decide +kernel
theorem dX4_canSteer_46 : decode cX4_canSteer 46 = .ok (.iload 4, 2) := by decide +kernel
theorem dX4_canSteer_48 : decode cX4_canSteer 48 = .ok (.iconst 0, 1) := by decide +kernel
theorem dX4_canSteer_49 : decode cX4_canSteer 49 = .ok (.invokevirtual 54, 3) := by decide +kernel
theorem dX4_canSteer_52 : decode cX4_canSteer 52 = .ok (.invokestatic 68, 3) := by decide +kernel
theorem dX4_canSteer_55 : decode cX4_canSteer 55 = .ok (.istore 5, 2) := by decide +kernel
theorem dX4_canSteer_57 : decode cX4_canSteer 57 = .ok (.iload_n 3, 1) := by decide +kernel
theorem dX4_canSteer_58 : decode cX4_canSteer 58 = .ok (.ifCond .eq 25, 3) := by decide +kernel
theorem dX4_canSteer_61 : decode cX4_canSteer 61 = .ok (.iload 4, 2) := by decide +kernel
theorem dX4_canSteer_63 : decode cX4_canSteer 63 = .ok (.iload_n 1, 1) := by decide +kernel
theorem dX4_canSteer_64 : decode cX4_canSteer 64 = .ok (.if_icmp .eq 15, 3) := by decide +kernel
theorem dX4_canSteer_67 : decode cX4_canSteer 67 = .ok (.iload 4, 2) := by decide +kernel
theorem dX4_canSteer_69 : decode cX4_canSteer 69 = .ok (.iload 5, 2) := by decide +kernel
theorem dX4_canSteer_71 : decode cX4_canSteer 71 = .ok (.iload_n 1, 1) := by decide +kernel
theorem dX4_canSteer_72 : decode cX4_canSteer 72 = .ok (.iload_n 2, 1) := by decide +kernel
theorem dX4_canSteer_73 : decode cX4_canSteer 73 = .ok (.invokestatic 71, 3) := by decide +kernel
theorem dX4_canSteer_76 : decode cX4_canSteer 76 = .ok (.ifCond .eq 7, 3) := by decide +kernel
theorem dX4_canSteer_79 : decode cX4_canSteer 79 = .ok (.iconst 1, 1) := by decide +kernel
theorem dX4_canSteer_80 : decode cX4_canSteer 80 = .ok (.goto 4, 3) := by decide +kernel
theorem dX4_canSteer_83 : decode cX4_canSteer 83 = .ok (.iconst 0, 1) := by decide +kernel
theorem dX4_canSteer_84 : decode cX4_canSteer 84 = .ok (.istore_n 3, 1) := by decide +kernel
theorem dX4_canSteer_85 : decode cX4_canSteer 85 = .ok (.iinc 4 1, 3) := by decide +kernel
theorem dX4_canSteer_88 : decode cX4_canSteer 88 = .ok (.goto (-59), 3) := by decide +kernel
theorem dX4_canSteer_91 : decode cX4_canSteer 91 = .ok (.iload_n 3, 1) := by decide +kernel
theorem dX4_canSteer_92 : decode cX4_canSteer 92 = .ok (.ireturn, 1) := by decide +kernel
theorem dX4_chances_0 : decode cX4_chances 0 = .ok (.iload_n 2, 1) := by decide +kernel
theorem dX4_chances_1 : decode cX4_chances 1 = .ok (.aload_n 0, 1) := by decide +kernel
theorem dX4_chances_2 : decode cX4_chances 2 = .ok (.iload_n 1, 1) := by decide +kernel
theorem dX4_chances_3 : decode cX4_chances 3 = .ok (.aload_n 0, 1) := by decide +kernel
theorem dX4_chances_4 : decode cX4_chances 4 = .ok (.iload_n 1, 1) := by decide +kernel
theorem dX4_chances_5 : decode cX4_chances 5 = .ok (.iconst 1, 1) := by decide +kernel
theorem dX4_chances_6 : decode cX4_chances 6 = .ok (.invokevirtual 54, 3) := by decide +kernel
theorem dX4_chances_9 : decode cX4_chances 9 = .ok (.iload_n 2, 1) := by decide +kernel
theorem dX4_chances_10 : decode cX4_chances 10 = .ok (.invokevirtual 75, 3) := by decide +kernel
theorem dX4_chances_13 : decode cX4_chances 13 = .ok (.imul, 1) := by decide +kernel
theorem dX4_chances_14 : decode cX4_chances 14 = .ok (.bipush 10, 2) := by decide +kernel
theorem dX4_chances_16 : decode cX4_chances 16 = .ok (.iload_n 2, 1) := by decide +kernel
theorem dX4_chances_17 : decode cX4_chances 17 = .ok (.isub, 1) := by decide +kernel
theorem dX4_chances_18 : decode cX4_chances 18 = .ok (.aload_n 0, 1) := by decide +kernel
theorem dX4_chances_19 : decode cX4_chances 19 = .ok (.iload_n 1, 1) := by decide +kernel
theorem dX4_chances_20 : decode cX4_chances 20 = .ok (.aload_n 0, 1) := by decide +kernel
theorem dX4_chances_21 : decode cX4_chances 21 = .ok (.iload_n 1, 1) := by decide +kernel
theorem dX4_chances_22 : decode cX4_chances 22 = .ok (.iconst 0, 1) := by decide +kernel
theorem dX4_chances_23 : decode cX4_chances 23 = .ok (.invokevirtual 54, 3) := by decide +kernel
theorem dX4_chances_26 : decode cX4_chances 26 = .ok (.iload_n 2, 1) := by decide +kernel
theorem dX4_chances_27 : decode cX4_chances 27 = .ok (.invokevirtual 75, 3) := by decide +kernel
theorem dX4_chances_30 : decode cX4_chances 30 = .ok (.imul, 1) := by decide +kernel
theorem dX4_chances_31 : decode cX4_chances 31 = .ok (.iadd, 1) := by decide +kernel
theorem dX4_chances_32 : decode cX4_chances 32 = .ok (.ireturn, 1) := by decide +kernel
theorem dX4_chancesOfOthers_0 : decode cX4_chancesOfOthers 0 = .ok (.iload_n 2, 1) := by decide +kernel
theorem dX4_chancesOfOthers_1 : decode cX4_chancesOfOthers 1 = .ok (.ifCond .gt 5, 3) := by decide +kernel
theorem dX4_chancesOfOthers_4 : decode cX4_chancesOfOthers 4 = .ok (.iconst 0, 1) := by decide +kernel
theorem dX4_chancesOfOthers_5 : decode cX4_chancesOfOthers 5 = .ok (.ireturn, 1) := by decide +kernel
theorem dX4_chancesOfOthers_6 : decode cX4_chancesOfOthers 6 = .ok (.iconst 1, 1) := by decide +kernel
theorem dX4_chancesOfOthers_7 : decode cX4_chancesOfOthers 7 = .ok (.istore 4, 2) := by decide +kernel
theorem dX4_chancesOfOthers_9 : decode cX4_chancesOfOthers 9 = .ok (.iconst 0, 1) := by decide +kernel
theorem dX4_chancesOfOthers_10 : decode cX4_chancesOfOthers 10 = .ok (.istore 5, 2) := by decide +kernel
theorem dX4_chancesOfOthers_12 : decode cX4_chancesOfOthers 12 = .ok (.iload 5, 2) := by decide +kernel
theorem dX4_chancesOfOthers_14 : decode cX4_chancesOfOthers 14 = .ok (.aload_n 0, 1) := by decide +kernel
theorem dX4_chancesOfOthers_15 : decode cX4_chancesOfOthers 15 = .ok (.getfield 25, 3) := by decide +kernel
theorem dX4_chancesOfOthers_18 : decode cX4_chancesOfOthers 18 = .ok (.if_icmp .ge 76, 3) := by decide +kernel
theorem dX4_chancesOfOthers_21 : decode cX4_chancesOfOthers 21 = .ok (.iload 5, 2) := by decide +kernel
theorem dX4_chancesOfOthers_23 : decode cX4_chancesOfOthers 23 = .ok (.iload_n 1, 1) := by decide +kernel
theorem dX4_chancesOfOthers_24 : decode cX4_chancesOfOthers 24 = .ok (.if_icmp .eq 64, 3) := by decide +kernel
theorem dX4_chancesOfOthers_27 : decode cX4_chancesOfOthers 27 = .ok (.iload 5, 2) := by decide +kernel
theorem dX4_chancesOfOthers_29 : decode cX4_chancesOfOthers 29 = .ok (.aload_n 0, 1) := by decide +kernel
theorem dX4_chancesOfOthers_30 : decode cX4_chancesOfOthers 30 = .ok (.iload 5, 2) := by decide +kernel
theorem dX4_chancesOfOthers_32 : decode cX4_chancesOfOthers 32 = .ok (.iconst 1, 1) := by decide +kernel
theorem dX4_chancesOfOthers_33 : decode cX4_chancesOfOthers 33 = .ok (.invokevirtual 54, 3) := by decide +kernel
theorem dX4_chancesOfOthers_36 : decode cX4_chancesOfOthers 36 = .ok (.iload_n 1, 1) := by decide +kernel
theorem dX4_chancesOfOthers_37 : decode cX4_chancesOfOthers 37 = .ok (.iload_n 2, 1) := by decide +kernel
theorem dX4_chancesOfOthers_38 : decode cX4_chancesOfOthers 38 = .ok (.invokestatic 71, 3) := by decide +kernel
theorem dX4_chancesOfOthers_41 : decode cX4_chancesOfOthers 41 = .ok (.ifCond .eq 7, 3) := by decide +kernel
theorem dX4_chancesOfOthers_44 : decode cX4_chancesOfOthers 44 = .ok (.iload_n 3, 1) := by decide +kernel
theorem dX4_chancesOfOthers_45 : decode cX4_chancesOfOthers 45 = .ok (.goto 4, 3) := by decide +kernel
theorem dX4_chancesOfOthers_48 : decode cX4_chancesOfOthers 48 = .ok (.iconst 0, 1) := by decide +kernel
theorem dX4_chancesOfOthers_49 : decode cX4_chancesOfOthers 49 = .ok (.istore 6, 2) := by decide +kernel
theorem dX4_chancesOfOthers_51 : decode cX4_chancesOfOthers 51 = .ok (.iload 5, 2) := by decide +kernel
theorem dX4_chancesOfOthers_53 : decode cX4_chancesOfOthers 53 = .ok (.aload_n 0, 1) := by decide +kernel
theorem dX4_chancesOfOthers_54 : decode cX4_chancesOfOthers 54 = .ok (.iload 5, 2) := by decide +kernel
theorem dX4_chancesOfOthers_56 : decode cX4_chancesOfOthers 56 = .ok (.iconst 0, 1) := by decide +kernel
theorem dX4_chancesOfOthers_57 : decode cX4_chancesOfOthers 57 = .ok (.invokevirtual 54, 3) := by decide +kernel
theorem dX4_chancesOfOthers_60 : decode cX4_chancesOfOthers 60 = .ok (.iload_n 1, 1) := by decide +kernel
theorem dX4_chancesOfOthers_61 : decode cX4_chancesOfOthers 61 = .ok (.iload_n 2, 1) := by decide +kernel
theorem dX4_chancesOfOthers_62 : decode cX4_chancesOfOthers 62 = .ok (.invokestatic 71, 3) := by decide +kernel
theorem dX4_chancesOfOthers_65 : decode cX4_chancesOfOthers 65 = .ok (.ifCond .eq 10, 3) := by decide +kernel
theorem dX4_chancesOfOthers_68 : decode cX4_chancesOfOthers 68 = .ok (.bipush 10, 2) := by decide +kernel
theorem dX4_chancesOfOthers_70 : decode cX4_chancesOfOthers 70 = .ok (.iload_n 3, 1) := by decide +kernel
theorem dX4_chancesOfOthers_71 : decode cX4_chancesOfOthers 71 = .ok (.isub, 1) := by decide +kernel
theorem dX4_chancesOfOthers_72 : decode cX4_chancesOfOthers 72 = .ok (.goto 4, 3) := by decide +kernel
theorem dX4_chancesOfOthers_75 : decode cX4_chancesOfOthers 75 = .ok (.iconst 0, 1) := by decide +kernel
theorem dX4_chancesOfOthers_76 : decode cX4_chancesOfOthers 76 = .ok (.istore 7, 2) := by decide +kernel
theorem dX4_chancesOfOthers_78 : decode cX4_chancesOfOthers 78 = .ok (.iload 4, 2) := by decide +kernel
theorem dX4_chancesOfOthers_80 : decode cX4_chancesOfOthers 80 = .ok (.iload 6, 2) := by decide +kernel
theorem dX4_chancesOfOthers_82 : decode cX4_chancesOfOthers 82 = .ok (.iload 7, 2) := by decide +kernel
theorem dX4_chancesOfOthers_84 : decode cX4_chancesOfOthers 84 = .ok (.iadd, 1) := by decide +kernel
theorem dX4_chancesOfOthers_85 : decode cX4_chancesOfOthers 85 = .ok (.imul, 1) := by decide +kernel
theorem dX4_chancesOfOthers_86 : decode cX4_chancesOfOthers 86 = .ok (.istore 4, 2) := by decide +kernel
theorem dX4_chancesOfOthers_88 : decode cX4_chancesOfOthers 88 = .ok (.iinc 5 1, 3) := by decide +kernel
theorem dX4_chancesOfOthers_91 : decode cX4_chancesOfOthers 91 = .ok (.goto (-79), 3) := by decide +kernel
theorem dX4_chancesOfOthers_94 : decode cX4_chancesOfOthers 94 = .ok (.iload 4, 2) := by decide +kernel
theorem dX4_chancesOfOthers_96 : decode cX4_chancesOfOthers 96 = .ok (.ireturn, 1) := by decide +kernel
theorem dX4_staysBehind_0 : decode cX4_staysBehind 0 = .ok (.iload_n 0, 1) := by decide +kernel
theorem dX4_staysBehind_1 : decode cX4_staysBehind 1 = .ok (.iload_n 2, 1) := by decide +kernel
theorem dX4_staysBehind_2 : decode cX4_staysBehind 2 = .ok (.if_icmp .ge 16, 3) := by decide +kernel
theorem dX4_staysBehind_5 : decode cX4_staysBehind 5 = .ok (.iload_n 1, 1) := by decide +kernel
theorem dX4_staysBehind_6 : decode cX4_staysBehind 6 = .ok (.iload_n 3, 1) := by decide +kernel
theorem dX4_staysBehind_7 : decode cX4_staysBehind 7 = .ok (.if_icmp .ge 7, 3) := by decide +kernel
theorem dX4_staysBehind_10 : decode cX4_staysBehind 10 = .ok (.iconst 1, 1) := by decide +kernel
theorem dX4_staysBehind_11 : decode cX4_staysBehind 11 = .ok (.goto 17, 3) := by decide +kernel
theorem dX4_staysBehind_14 : decode cX4_staysBehind 14 = .ok (.iconst 0, 1) := by decide +kernel
theorem dX4_staysBehind_15 : decode cX4_staysBehind 15 = .ok (.goto 13, 3) := by decide +kernel
theorem dX4_staysBehind_18 : decode cX4_staysBehind 18 = .ok (.iload_n 1, 1) := by decide +kernel
theorem dX4_staysBehind_19 : decode cX4_staysBehind 19 = .ok (.iload_n 3, 1) := by decide +kernel
theorem dX4_staysBehind_20 : decode cX4_staysBehind 20 = .ok (.if_icmp .gt 7, 3) := by decide +kernel
theorem dX4_staysBehind_23 : decode cX4_staysBehind 23 = .ok (.iconst 1, 1) := by decide +kernel
theorem dX4_staysBehind_24 : decode cX4_staysBehind 24 = .ok (.goto 4, 3) := by decide +kernel
theorem dX4_staysBehind_27 : decode cX4_staysBehind 27 = .ok (.iconst 0, 1) := by decide +kernel
theorem dX4_staysBehind_28 : decode cX4_staysBehind 28 = .ok (.ireturn, 1) := by decide +kernel
theorem dX4_pairRests_0 : decode cX4_pairRests 0 = .ok (.aload_n 0, 1) := by decide +kernel
theorem dX4_pairRests_1 : decode cX4_pairRests 1 = .ok (.iload_n 1, 1) := by decide +kernel
theorem dX4_pairRests_2 : decode cX4_pairRests 2 = .ok (.iload_n 2, 1) := by decide +kernel
theorem dX4_pairRests_3 : decode cX4_pairRests 3 = .ok (.iload_n 3, 1) := by decide +kernel
theorem dX4_pairRests_4 : decode cX4_pairRests 4 = .ok (.invokevirtual 79, 3) := by decide +kernel
theorem dX4_pairRests_7 : decode cX4_pairRests 7 = .ok (.istore 4, 2) := by decide +kernel
theorem dX4_pairRests_9 : decode cX4_pairRests 9 = .ok (.iload 4, 2) := by decide +kernel
theorem dX4_pairRests_11 : decode cX4_pairRests 11 = .ok (.iload_n 1, 1) := by decide +kernel
theorem dX4_pairRests_12 : decode cX4_pairRests 12 = .ok (.if_icmp .ne 20, 3) := by decide +kernel
theorem dX4_pairRests_15 : decode cX4_pairRests 15 = .ok (.aload_n 0, 1) := by decide +kernel
theorem dX4_pairRests_16 : decode cX4_pairRests 16 = .ok (.iload_n 1, 1) := by decide +kernel
theorem dX4_pairRests_17 : decode cX4_pairRests 17 = .ok (.iload_n 2, 1) := by decide +kernel
theorem dX4_pairRests_18 : decode cX4_pairRests 18 = .ok (.iload_n 3, 1) := by decide +kernel
theorem dX4_pairRests_19 : decode cX4_pairRests 19 = .ok (.iconst 1, 1) := by decide +kernel
theorem dX4_pairRests_20 : decode cX4_pairRests 20 = .ok (.ixor, 1) := by decide +kernel
theorem dX4_pairRests_21 : decode cX4_pairRests 21 = .ok (.invokevirtual 79, 3) := by decide +kernel
theorem dX4_pairRests_24 : decode cX4_pairRests 24 = .ok (.iload_n 1, 1) := by decide +kernel
theorem dX4_pairRests_25 : decode cX4_pairRests 25 = .ok (.if_icmp .eq 7, 3) := by decide +kernel
theorem dX4_pairRests_28 : decode cX4_pairRests 28 = .ok (.iconst 1, 1) := by decide +kernel
theorem dX4_pairRests_29 : decode cX4_pairRests 29 = .ok (.goto 4, 3) := by decide +kernel
theorem dX4_pairRests_32 : decode cX4_pairRests 32 = .ok (.iconst 0, 1) := by decide +kernel
theorem dX4_pairRests_33 : decode cX4_pairRests 33 = .ok (.istore 5, 2) := by decide +kernel
theorem dX4_pairRests_35 : decode cX4_pairRests 35 = .ok (.iload 4, 2) := by decide +kernel
theorem dX4_pairRests_37 : decode cX4_pairRests 37 = .ok (.iload_n 2, 1) := by decide +kernel
theorem dX4_pairRests_38 : decode cX4_pairRests 38 = .ok (.if_icmp .ne 20, 3) := by decide +kernel
theorem dX4_pairRests_41 : decode cX4_pairRests 41 = .ok (.aload_n 0, 1) := by decide +kernel
theorem dX4_pairRests_42 : decode cX4_pairRests 42 = .ok (.iload_n 1, 1) := by decide +kernel
theorem dX4_pairRests_43 : decode cX4_pairRests 43 = .ok (.iload_n 2, 1) := by decide +kernel
theorem dX4_pairRests_44 : decode cX4_pairRests 44 = .ok (.iload_n 3, 1) := by decide +kernel
theorem dX4_pairRests_45 : decode cX4_pairRests 45 = .ok (.iconst 2, 1) := by decide +kernel
theorem dX4_pairRests_46 : decode cX4_pairRests 46 = .ok (.ixor, 1) := by decide +kernel
theorem dX4_pairRests_47 : decode cX4_pairRests 47 = .ok (.invokevirtual 79, 3) := by decide +kernel
theorem dX4_pairRests_50 : decode cX4_pairRests 50 = .ok (.iload_n 2, 1) := by decide +kernel
theorem dX4_pairRests_51 : decode cX4_pairRests 51 = .ok (.if_icmp .eq 7, 3) := by decide +kernel
theorem dX4_pairRests_54 : decode cX4_pairRests 54 = .ok (.iconst 1, 1) := by decide +kernel
theorem dX4_pairRests_55 : decode cX4_pairRests 55 = .ok (.goto 4, 3) := by decide +kernel
theorem dX4_pairRests_58 : decode cX4_pairRests 58 = .ok (.iconst 0, 1) := by decide +kernel
theorem dX4_pairRests_59 : decode cX4_pairRests 59 = .ok (.istore 6, 2) := by decide +kernel
theorem dX4_pairRests_61 : decode cX4_pairRests 61 = .ok (.iload 5, 2) := by decide +kernel
theorem dX4_pairRests_63 : decode cX4_pairRests 63 = .ok (.ifCond .ne 12, 3) := by decide +kernel
theorem dX4_pairRests_66 : decode cX4_pairRests 66 = .ok (.iload 6, 2) := by decide +kernel
theorem dX4_pairRests_68 : decode cX4_pairRests 68 = .ok (.ifCond .ne 7, 3) := by decide +kernel
theorem dX4_pairRests_71 : decode cX4_pairRests 71 = .ok (.iconst 1, 1) := by decide +kernel
theorem dX4_pairRests_72 : decode cX4_pairRests 72 = .ok (.goto 4, 3) := by decide +kernel
theorem dX4_pairRests_75 : decode cX4_pairRests 75 = .ok (.iconst 0, 1) := by decide +kernel
theorem dX4_pairRests_76 : decode cX4_pairRests 76 = .ok (.ireturn, 1) := by decide +kernel
theorem dX4_steererByPair_0 : decode cX4_steererByPair 0 = .ok (.aload_n 0, 1) := by decide +kernel
theorem dX4_steererByPair_1 : decode cX4_steererByPair 1 = .ok (.getfield 35, 3) := by decide +kernel
theorem dX4_steererByPair_4 : decode cX4_steererByPair 4 = .ok (.iconst 1, 1) := by decide +kernel
theorem dX4_steererByPair_5 : decode cX4_steererByPair 5 = .ok (.iload_n 1, 1) := by decide +kernel
theorem dX4_steererByPair_6 : decode cX4_steererByPair 6 = .ok (.ishl, 1) := by decide +kernel
theorem dX4_steererByPair_7 : decode cX4_steererByPair 7 = .ok (.iconst (-1), 1) := by decide +kernel
theorem dX4_steererByPair_8 : decode cX4_steererByPair 8 = .ok (.ixor, 1) := by decide +kernel
theorem dX4_steererByPair_9 : decode cX4_steererByPair 9 = .ok (.iand, 1) := by decide +kernel
theorem dX4_steererByPair_10 : decode cX4_steererByPair 10 = .ok (.iconst 1, 1) := by decide +kernel
theorem dX4_steererByPair_11 : decode cX4_steererByPair 11 = .ok (.iload_n 2, 1) := by decide +kernel
theorem dX4_steererByPair_12 : decode cX4_steererByPair 12 = .ok (.ishl, 1) := by decide +kernel
theorem dX4_steererByPair_13 : decode cX4_steererByPair 13 = .ok (.iconst (-1), 1) := by decide +kernel
theorem dX4_steererByPair_14 : decode cX4_steererByPair 14 = .ok (.ixor, 1) := by decide +kernel
theorem dX4_steererByPair_15 : decode cX4_steererByPair 15 = .ok (.iand, 1) := by decide +kernel
theorem dX4_steererByPair_16 : decode cX4_steererByPair 16 = .ok (.istore 4, 2) := by decide +kernel
theorem dX4_steererByPair_18 : decode cX4_steererByPair 18 = .ok (.aload_n 0, 1) := by decide +kernel
theorem dX4_steererByPair_19 : decode cX4_steererByPair 19 = .ok (.iload 4, 2) := by decide +kernel
theorem dX4_steererByPair_21 : decode cX4_steererByPair 21 = .ok (.iload_n 3, 1) := by decide +kernel
theorem dX4_steererByPair_22 : decode cX4_steererByPair 22 = .ok (.iconst 1, 1) := by decide +kernel
theorem dX4_steererByPair_23 : decode cX4_steererByPair 23 = .ok (.iand, 1) := by decide +kernel
theorem dX4_steererByPair_24 : decode cX4_steererByPair 24 = .ok (.iload_n 1, 1) := by decide +kernel
theorem dX4_steererByPair_25 : decode cX4_steererByPair 25 = .ok (.ishl, 1) := by decide +kernel
theorem dX4_steererByPair_26 : decode cX4_steererByPair 26 = .ok (.ior, 1) := by decide +kernel
theorem dX4_steererByPair_27 : decode cX4_steererByPair 27 = .ok (.iload_n 3, 1) := by decide +kernel
theorem dX4_steererByPair_28 : decode cX4_steererByPair 28 = .ok (.iconst 1, 1) := by decide +kernel
theorem dX4_steererByPair_29 : decode cX4_steererByPair 29 = .ok (.ishr, 1) := by decide +kernel
theorem dX4_steererByPair_30 : decode cX4_steererByPair 30 = .ok (.iconst 1, 1) := by decide +kernel
theorem dX4_steererByPair_31 : decode cX4_steererByPair 31 = .ok (.iand, 1) := by decide +kernel
theorem dX4_steererByPair_32 : decode cX4_steererByPair 32 = .ok (.iload_n 2, 1) := by decide +kernel
theorem dX4_steererByPair_33 : decode cX4_steererByPair 33 = .ok (.ishl, 1) := by decide +kernel
theorem dX4_steererByPair_34 : decode cX4_steererByPair 34 = .ok (.ior, 1) := by decide +kernel
theorem dX4_steererByPair_35 : decode cX4_steererByPair 35 = .ok (.invokevirtual 82, 3) := by decide +kernel
theorem dX4_steererByPair_38 : decode cX4_steererByPair 38 = .ok (.ireturn, 1) := by decide +kernel
theorem dX5_init_0 : decode cX5_init 0 = .ok (.aload_n 0, 1) := by decide +kernel
theorem dX5_init_1 : decode cX5_init 1 = .ok (.invokespecial 1, 3) := by decide +kernel
theorem dX5_init_4 : decode cX5_init 4 = .ok (.return_, 1) := by decide +kernel
theorem dX5_sleepy_0 : decode cX5_sleepy 0 = .ok (.aload_n 0, 1) := by decide +kernel
theorem dX5_sleepy_1 : decode cX5_sleepy 1 = .ok (.iload_n 1, 1) := by decide +kernel
theorem dX5_sleepy_2 : decode cX5_sleepy 2 = .ok (.iload_n 2, 1) := by decide +kernel
theorem dX5_sleepy_3 : decode cX5_sleepy 3 = .ok (.iload_n 3, 1) := by decide +kernel
theorem dX5_sleepy_4 : decode cX5_sleepy 4 = .ok (.invokespecial 7, 3) := by decide +kernel
theorem dX5_sleepy_7 : decode cX5_sleepy 7 = .ok (.istore 4, 2) := by decide +kernel
theorem dX5_sleepy_9 : decode cX5_sleepy 9 = .ok (.iload_n 1, 1) := by decide +kernel
theorem dX5_sleepy_10 : decode cX5_sleepy 10 = .ok (.bipush 7, 2) := by decide +kernel
theorem dX5_sleepy_12 : decode cX5_sleepy 12 = .ok (.irem, 1) := by decide +kernel
theorem dX5_sleepy_13 : decode cX5_sleepy 13 = .ok (.iconst 3, 1) := by decide +kernel
theorem dX5_sleepy_14 : decode cX5_sleepy 14 = .ok (.if_icmp .ne 10, 3) := by decide +kernel
theorem dX5_sleepy_17 : decode cX5_sleepy 17 = .ok (.iload 4, 2) := by decide +kernel
theorem dX5_sleepy_19 : decode cX5_sleepy 19 = .ok (.iconst 5, 1) := by decide +kernel
theorem dX5_sleepy_20 : decode cX5_sleepy 20 = .ok (.iadd, 1) := by decide +kernel
theorem dX5_sleepy_21 : decode cX5_sleepy 21 = .ok (.goto 5, 3) := by decide +kernel
theorem dX5_sleepy_24 : decode cX5_sleepy 24 = .ok (.iload 4, 2) := by decide +kernel
theorem dX5_sleepy_26 : decode cX5_sleepy 26 = .ok (.ireturn, 1) := by decide +kernel
theorem dX6_init_0 : decode cX6_init 0 = .ok (.aload_n 0, 1) := by decide +kernel
theorem dX6_init_1 : decode cX6_init 1 = .ok (.invokespecial 3, 3) := by decide +kernel
theorem dX6_init_4 : decode cX6_init 4 = .ok (.aload_n 0, 1) := by decide +kernel
theorem dX6_init_5 : decode cX6_init 5 = .ok (.iconst 5, 1) := by decide +kernel
theorem dX6_init_6 : decode cX6_init 6 = .ok (.anewarray 9, 3) := by decide +kernel
theorem dX6_init_9 : decode cX6_init 9 = .ok (.putfield 11, 3) := by decide +kernel
theorem dX6_init_12 : decode cX6_init 12 = .ok (.aload_n 0, 1) := by decide +kernel
theorem dX6_init_13 : decode cX6_init 13 = .ok (.iconst 4, 1) := by decide +kernel
theorem dX6_init_14 : decode cX6_init 14 = .ok (.newarray .int, 2) := by decide +kernel
theorem dX6_init_16 : decode cX6_init 16 = .ok (.putfield 17, 3) := by decide +kernel
theorem dX6_init_19 : decode cX6_init 19 = .ok (.aload_n 0, 1) := by decide +kernel
theorem dX6_init_20 : decode cX6_init 20 = .ok (.iconst 4, 1) := by decide +kernel
theorem dX6_init_21 : decode cX6_init 21 = .ok (.newarray .int, 2) := by decide +kernel
theorem dX6_init_23 : decode cX6_init 23 = .ok (.putfield 21, 3) := by decide +kernel
theorem dX6_init_26 : decode cX6_init 26 = .ok (.iconst 0, 1) := by decide +kernel
theorem dX6_init_27 : decode cX6_init 27 = .ok (.istore_n 2, 1) := by decide +kernel
theorem dX6_init_28 : decode cX6_init 28 = .ok (.iload_n 2, 1) := by decide +kernel
theorem dX6_init_29 : decode cX6_init 29 = .ok (.iconst 4, 1) := by decide +kernel
theorem dX6_init_30 : decode cX6_init 30 = .ok (.if_icmp .gt 23, 3) := by decide +kernel
theorem dX6_init_33 : decode cX6_init 33 = .ok (.aload_n 0, 1) := by decide +kernel
theorem dX6_init_34 : decode cX6_init 34 = .ok (.getfield 11, 3) := by decide +kernel
theorem dX6_init_37 : decode cX6_init 37 = .ok (.iload_n 2, 1) := by decide +kernel
theorem dX6_init_38 : decode cX6_init 38 = .ok (.new 9, 3) := by decide +kernel
theorem dX6_init_41 : decode cX6_init 41 = .ok (.dup, 1) := by decide +kernel
theorem dX6_init_42 : decode cX6_init 42 = .ok (.aload_n 1, 1) := by decide +kernel
theorem dX6_init_43 : decode cX6_init 43 = .ok (.invokespecial 24, 3) := by decide +kernel
theorem dX6_init_46 : decode cX6_init 46 = .ok (.aastore, 1) := by decide +kernel
theorem dX6_init_47 : decode cX6_init 47 = .ok (.iinc 2 1, 3) := by decide +kernel
theorem dX6_init_50 : decode cX6_init 50 = .ok (.goto (-22), 3) := by decide +kernel
theorem dX6_init_53 : decode cX6_init 53 = .ok (.return_, 1) := by decide +kernel
theorem dX6_seek_0 : decode cX6_seek 0 = .ok (.aload_n 0, 1) := by decide +kernel
theorem dX6_seek_1 : decode cX6_seek 1 = .ok (.iload_n 2, 1) := by decide +kernel
theorem dX6_seek_2 : decode cX6_seek 2 = .ok (.putfield 27, 3) := by decide +kernel
theorem dX6_seek_5 : decode cX6_seek 5 = .ok (.aload_n 0, 1) := by decide +kernel
theorem dX6_seek_6 : decode cX6_seek 6 = .ok (.iload_n 3, 1) := by decide +kernel
theorem dX6_seek_7 : decode cX6_seek 7 = .ok (.iconst 4, 1) := by decide +kernel
theorem dX6_seek_8 : decode cX6_seek 8 = .ok (.invokestatic 31, 3) := by decide +kernel
theorem dX6_seek_11 : decode cX6_seek 11 = .ok (.putfield 37, 3) := by decide +kernel
theorem dX6_seek_14 : decode cX6_seek 14 = .ok (.aload_n 0, 1) := by decide +kernel
theorem dX6_seek_15 : decode cX6_seek 15 = .ok (.aload_n 0, 1) := by decide +kernel
theorem dX6_seek_16 : decode cX6_seek 16 = .ok (.getfield 37, 3) := by decide +kernel
theorem dX6_seek_19 : decode cX6_seek 19 = .ok (.iconst 1, 1) := by decide +kernel
theorem dX6_seek_20 : decode cX6_seek 20 = .ok (.iadd, 1) := by decide +kernel
theorem dX6_seek_21 : decode cX6_seek 21 = .ok (.putfield 40, 3) := by decide +kernel
theorem dX6_seek_24 : decode cX6_seek 24 = .ok (.aload_n 0, 1) := by decide +kernel
theorem dX6_seek_25 : decode cX6_seek 25 = .ok (.getfield 11, 3) := by decide +kernel
theorem dX6_seek_28 : decode cX6_seek 28 = .ok (.iconst 0, 1) := by decide +kernel
theorem dX6_seek_29 : decode cX6_seek 29 = .ok (.aaload, 1) := by decide +kernel
theorem dX6_seek_30 : decode cX6_seek 30 = .ok (.aload_n 1, 1) := by decide +kernel
theorem dX6_seek_31 : decode cX6_seek 31 = .ok (.invokevirtual 43, 3) := by decide +kernel
theorem dX6_seek_34 : decode cX6_seek 34 = .ok (.aload_n 0, 1) := by decide +kernel
theorem dX6_seek_35 : decode cX6_seek 35 = .ok (.iconst 0, 1) := by decide +kernel
theorem dX6_seek_36 : decode cX6_seek 36 = .ok (.iconst 0, 1) := by decide +kernel
theorem dX6_seek_37 : decode cX6_seek 37 = .ok (.invokevirtual 47, 3) := by decide +kernel
theorem dX6_seek_40 : decode cX6_seek 40 = .ok (.aload_n 0, 1) := by decide +kernel
theorem dX6_seek_41 : decode cX6_seek 41 = .ok (.getfield 40, 3) := by decide +kernel
theorem dX6_seek_44 : decode cX6_seek 44 = .ok (.aload_n 0, 1) := by decide +kernel
theorem dX6_seek_45 : decode cX6_seek 45 = .ok (.getfield 37, 3) := by decide +kernel
theorem dX6_seek_48 : decode cX6_seek 48 = .ok (.if_icmp .gt 7, 3) := by decide +kernel
theorem dX6_seek_51 : decode cX6_seek 51 = .ok (.iconst 1, 1) := by decide +kernel
theorem dX6_seek_52 : decode cX6_seek 52 = .ok (.goto 4, 3) := by decide +kernel
theorem dX6_seek_55 : decode cX6_seek 55 = .ok (.iconst 0, 1) := by decide +kernel
theorem dX6_seek_56 : decode cX6_seek 56 = .ok (.ireturn, 1) := by decide +kernel
theorem dX6_serve_0 : decode cX6_serve 0 = .ok (.aload_n 0, 1) := by decide +kernel
theorem dX6_serve_1 : decode cX6_serve 1 = .ok (.getfield 11, 3) := by decide +kernel
theorem dX6_serve_4 : decode cX6_serve 4 = .ok (.iload_n 1, 1) := by decide +kernel
theorem dX6_serve_5 : decode cX6_serve 5 = .ok (.aaload, 1) := by decide +kernel
theorem dX6_serve_6 : decode cX6_serve 6 = .ok (.astore_n 3, 1) := by decide +kernel
theorem dX6_serve_7 : decode cX6_serve 7 = .ok (.iload_n 2, 1) := by decide +kernel
theorem dX6_serve_8 : decode cX6_serve 8 = .ok (.aload_n 0, 1) := by decide +kernel
theorem dX6_serve_9 : decode cX6_serve 9 = .ok (.getfield 40, 3) := by decide +kernel
theorem dX6_serve_12 : decode cX6_serve 12 = .ok (.if_icmp .ge 26, 3) := by decide +kernel
theorem dX6_serve_15 : decode cX6_serve 15 = .ok (.aload_n 0, 1) := by decide +kernel
theorem dX6_serve_16 : decode cX6_serve 16 = .ok (.getfield 27, 3) := by decide +kernel
theorem dX6_serve_19 : decode cX6_serve 19 = .ok (.aload_n 3, 1) := by decide +kernel
theorem dX6_serve_20 : decode cX6_serve 20 = .ok (.getfield 51, 3) := by decide +kernel
theorem dX6_serve_23 : decode cX6_serve 23 = .ok (.isub, 1) := by decide +kernel
theorem dX6_serve_24 : decode cX6_serve 24 = .ok (.invokestatic 54, 3) := by decide +kernel
theorem dX6_serve_27 : decode cX6_serve 27 = .ok (.iconst 3, 1) := by decide +kernel
theorem dX6_serve_28 : decode cX6_serve 28 = .ok (.aload_n 0, 1) := by decide +kernel
theorem dX6_serve_29 : decode cX6_serve 29 = .ok (.getfield 37, 3) := by decide +kernel
theorem dX6_serve_32 : decode cX6_serve 32 = .ok (.iload_n 1, 1) := by decide +kernel
theorem dX6_serve_33 : decode cX6_serve 33 = .ok (.isub, 1) := by decide +kernel
theorem dX6_serve_34 : decode cX6_serve 34 = .ok (.imul, 1) := by decide +kernel
theorem dX6_serve_35 : decode cX6_serve 35 = .ok (.if_icmp .le 4, 3) := by decide +kernel
theorem dX6_serve_38 : decode cX6_serve 38 = .ok (.return_, 1) := by decide +kernel
theorem dX6_serve_39 : decode cX6_serve 39 = .ok (.iload_n 1, 1) := by decide +kernel
theorem dX6_serve_40 : decode cX6_serve 40 = .ok (.aload_n 0, 1) := by decide +kernel
theorem dX6_serve_41 : decode cX6_serve 41 = .ok (.getfield 37, 3) := by decide +kernel
theorem dX6_serve_44 : decode cX6_serve 44 = .ok (.if_icmp .lt 23, 3) := by decide +kernel
theorem dX6_serve_47 : decode cX6_serve 47 = .ok (.aload_n 0, 1) := by decide +kernel
theorem dX6_serve_48 : decode cX6_serve 48 = .ok (.iload_n 2, 1) := by decide +kernel
theorem dX6_serve_49 : decode cX6_serve 49 = .ok (.putfield 40, 3) := by decide +kernel
theorem dX6_serve_52 : decode cX6_serve 52 = .ok (.aload_n 0, 1) := by decide +kernel
theorem dX6_serve_53 : decode cX6_serve 53 = .ok (.getfield 17, 3) := by decide +kernel
theorem dX6_serve_56 : decode cX6_serve 56 = .ok (.iconst 0, 1) := by decide +kernel
theorem dX6_serve_57 : decode cX6_serve 57 = .ok (.aload_n 0, 1) := by decide +kernel
theorem dX6_serve_58 : decode cX6_serve 58 = .ok (.getfield 21, 3) := by decide +kernel
theorem dX6_serve_61 : decode cX6_serve 61 = .ok (.iconst 0, 1) := by decide +kernel
theorem dX6_serve_62 : decode cX6_serve 62 = .ok (.iconst 4, 1) := by decide +kernel
theorem dX6_serve_63 : decode cX6_serve 63 = .ok (.invokestatic 58, 3) := by decide +kernel
theorem dX6_serve_66 : decode cX6_serve 66 = .ok (.return_, 1) := by decide +kernel
theorem dX6_serve_67 : decode cX6_serve 67 = .ok (.aload_n 3, 1) := by decide +kernel
theorem dX6_serve_68 : decode cX6_serve 68 = .ok (.aload_n 3, 1) := by decide +kernel
theorem dX6_serve_69 : decode cX6_serve 69 = .ok (.getfield 64, 3) := by decide +kernel
theorem dX6_serve_72 : decode cX6_serve 72 = .ok (.invokevirtual 67, 3) := by decide +kernel
theorem dX6_serve_75 : decode cX6_serve 75 = .ok (.istore 4, 2) := by decide +kernel
theorem dX6_serve_77 : decode cX6_serve 77 = .ok (.aload_n 0, 1) := by decide +kernel
theorem dX6_serve_78 : decode cX6_serve 78 = .ok (.getfield 17, 3) := by decide +kernel
theorem dX6_serve_81 : decode cX6_serve 81 = .ok (.iload_n 1, 1) := by decide +kernel
theorem dX6_serve_82 : decode cX6_serve 82 = .ok (.bipush 6, 2) := by decide +kernel
theorem dX6_serve_84 : decode cX6_serve 84 = .ok (.iastore, 1) := by decide +kernel
theorem dX6_serve_85 : decode cX6_serve 85 = .ok (.aload_n 0, 1) := by decide +kernel
theorem dX6_serve_86 : decode cX6_serve 86 = .ok (.iload_n 1, 1) := by decide +kernel
theorem dX6_serve_87 : decode cX6_serve 87 = .ok (.iload 4, 2) := by decide +kernel
theorem dX6_serve_89 : decode cX6_serve 89 = .ok (.iload_n 2, 1) := by decide +kernel
theorem dX6_serve_90 : decode cX6_serve 90 = .ok (.invokevirtual 70, 3) := by decide +kernel
theorem dX6_serve_93 : decode cX6_serve 93 = .ok (.iconst 0, 1) := by decide +kernel
theorem dX6_serve_94 : decode cX6_serve 94 = .ok (.istore 5, 2) := by decide +kernel
theorem dX6_serve_96 : decode cX6_serve 96 = .ok (.iload 5, 2) := by decide +kernel
theorem dX6_serve_98 : decode cX6_serve 98 = .ok (.aload_n 3, 1) := by decide +kernel
theorem dX6_serve_99 : decode cX6_serve 99 = .ok (.getfield 74, 3) := by decide +kernel
theorem dX6_serve_102 : decode cX6_serve 102 = .ok (.if_icmp .ge 49, 3) := by decide +kernel
theorem dX6_serve_105 : decode cX6_serve 105 = .ok (.aload_n 3, 1) := by decide +kernel
theorem dX6_serve_106 : decode cX6_serve 106 = .ok (.aload_n 3, 1) := by decide +kernel
theorem dX6_serve_107 : decode cX6_serve 107 = .ok (.getfield 64, 3) := by decide +kernel
theorem dX6_serve_110 : decode cX6_serve 110 = .ok (.iconst 1, 1) := by decide +kernel
theorem dX6_serve_111 : decode cX6_serve 111 = .ok (.iload 5, 2) := by decide +kernel
theorem dX6_serve_113 : decode cX6_serve 113 = .ok (.ishl, 1) := by decide +kernel
theorem dX6_serve_114 : decode cX6_serve 114 = .ok (.ior, 1) := by decide +kernel
theorem dX6_serve_115 : decode cX6_serve 115 = .ok (.invokevirtual 67, 3) := by decide +kernel
theorem dX6_serve_118 : decode cX6_serve 118 = .ok (.istore 6, 2) := by decide +kernel
theorem dX6_serve_120 : decode cX6_serve 120 = .ok (.iload 6, 2) := by decide +kernel
theorem dX6_serve_122 : decode cX6_serve 122 = .ok (.iload 4, 2) := by decide +kernel
theorem dX6_serve_124 : decode cX6_serve 124 = .ok (.if_icmp .eq 21, 3) := by decide +kernel
theorem dX6_serve_127 : decode cX6_serve 127 = .ok (.aload_n 0, 1) := by decide +kernel
theorem dX6_serve_128 : decode cX6_serve 128 = .ok (.getfield 17, 3) := by decide +kernel
theorem dX6_serve_131 : decode cX6_serve 131 = .ok (.iload_n 1, 1) := by decide +kernel
theorem dX6_serve_132 : decode cX6_serve 132 = .ok (.iload 5, 2) := by decide +kernel
theorem dX6_serve_134 : decode cX6_serve 134 = .ok (.iastore, 1) := by decide +kernel
theorem dX6_serve_135 : decode cX6_serve 135 = .ok (.aload_n 0, 1) := by decide +kernel
theorem dX6_serve_136 : decode cX6_serve 136 = .ok (.iload_n 1, 1) := by decide +kernel
theorem dX6_serve_137 : decode cX6_serve 137 = .ok (.iload 6, 2) := by decide +kernel
theorem dX6_serve_139 : decode cX6_serve 139 = .ok (.iload_n 2, 1) := by decide +kernel
theorem dX6_serve_140 : decode cX6_serve 140 = .ok (.iconst 1, 1) := by decide +kernel
theorem dX6_serve_141 : decode cX6_serve 141 = .ok (.iadd, 1) := by decide +kernel
theorem dX6_serve_142 : decode cX6_serve 142 = .ok (.invokevirtual 70, 3) := by decide +kernel
theorem dX6_serve_145 : decode cX6_serve 145 = .ok (.iinc 5 1, 3) := by decide +kernel
theorem dX6_serve_148 : decode cX6_serve 148 = .ok (.goto (-52), 3) := by decide +kernel
theorem dX6_serve_151 : decode cX6_serve 151 = .ok (.return_, 1) := by decide +kernel
theorem dX6_goOn_0 : decode cX6_goOn 0 = .ok (.aload_n 0, 1) := by decide +kernel
theorem dX6_goOn_1 : decode cX6_goOn 1 = .ok (.getfield 11, 3) := by decide +kernel
theorem dX6_goOn_4 : decode cX6_goOn 4 = .ok (.iload_n 1, 1) := by decide +kernel
theorem dX6_goOn_5 : decode cX6_goOn 5 = .ok (.iconst 1, 1) := by decide +kernel
theorem dX6_goOn_6 : decode cX6_goOn 6 = .ok (.iadd, 1) := by decide +kernel
theorem dX6_goOn_7 : decode cX6_goOn 7 = .ok (.aaload, 1) := by decide +kernel
theorem dX6_goOn_8 : decode cX6_goOn 8 = .ok (.aload_n 0, 1) := by decide +kernel
theorem dX6_goOn_9 : decode cX6_goOn 9 = .ok (.getfield 11, 3) := by decide +kernel
theorem dX6_goOn_12 : decode cX6_goOn 12 = .ok (.iload_n 1, 1) := by decide +kernel
theorem dX6_goOn_13 : decode cX6_goOn 13 = .ok (.aaload, 1) := by decide +kernel
theorem dX6_goOn_14 : decode cX6_goOn 14 = .ok (.invokevirtual 43, 3) := by decide +kernel
theorem dX6_goOn_17 : decode cX6_goOn 17 = .ok (.aload_n 0, 1) := by decide +kernel
theorem dX6_goOn_18 : decode cX6_goOn 18 = .ok (.getfield 11, 3) := by decide +kernel
theorem dX6_goOn_21 : decode cX6_goOn 21 = .ok (.iload_n 1, 1) := by decide +kernel
theorem dX6_goOn_22 : decode cX6_goOn 22 = .ok (.iconst 1, 1) := by decide +kernel
theorem dX6_goOn_23 : decode cX6_goOn 23 = .ok (.iadd, 1) := by decide +kernel
theorem dX6_goOn_24 : decode cX6_goOn 24 = .ok (.aaload, 1) := by decide +kernel
theorem dX6_goOn_25 : decode cX6_goOn 25 = .ok (.iload_n 2, 1) := by decide +kernel
theorem dX6_goOn_26 : decode cX6_goOn 26 = .ok (.invokevirtual 77, 3) := by decide +kernel
theorem dX6_goOn_29 : decode cX6_goOn 29 = .ok (.aload_n 0, 1) := by decide +kernel
theorem dX6_goOn_30 : decode cX6_goOn 30 = .ok (.iload_n 1, 1) := by decide +kernel
theorem dX6_goOn_31 : decode cX6_goOn 31 = .ok (.iconst 1, 1) := by decide +kernel
theorem dX6_goOn_32 : decode cX6_goOn 32 = .ok (.iadd, 1) := by decide +kernel
theorem dX6_goOn_33 : decode cX6_goOn 33 = .ok (.iload_n 3, 1) := by decide +kernel
theorem dX6_goOn_34 : decode cX6_goOn 34 = .ok (.invokevirtual 47, 3) := by decide +kernel
theorem dX6_goOn_37 : decode cX6_goOn 37 = .ok (.return_, 1) := by decide +kernel
theorem dX7_init_0 : decode cX7_init 0 = .ok (.aload_n 0, 1) := by decide +kernel
theorem dX7_init_1 : decode cX7_init 1 = .ok (.invokespecial 1, 3) := by decide +kernel
theorem dX7_init_4 : decode cX7_init 4 = .ok (.return_, 1) := by decide +kernel
theorem dX7_sleepy_0 : decode cX7_sleepy 0 = .ok (.iload_n 3, 1) := by decide +kernel
theorem dX7_sleepy_1 : decode cX7_sleepy 1 = .ok (.ireturn, 1) := by decide +kernel
theorem dX7_tires_0 : decode cX7_tires 0 = .ok (.iconst 1, 1) := by decide +kernel
theorem dX7_tires_1 : decode cX7_tires 1 = .ok (.ireturn, 1) := by decide +kernel
theorem dX8_init_0 : decode cX8_init 0 = .ok (.aload_n 0, 1) := by decide +kernel
theorem dX8_init_1 : decode cX8_init 1 = .ok (.invokespecial 1, 3) := by decide +kernel
theorem dX8_init_4 : decode cX8_init 4 = .ok (.return_, 1) := by decide +kernel
theorem dX8_sleepy_0 : decode cX8_sleepy 0 = .ok (.aload_n 0, 1) := by decide +kernel
theorem dX8_sleepy_1 : decode cX8_sleepy 1 = .ok (.iload_n 1, 1) := by decide +kernel
theorem dX8_sleepy_2 : decode cX8_sleepy 2 = .ok (.iload_n 2, 1) := by decide +kernel
theorem dX8_sleepy_3 : decode cX8_sleepy 3 = .ok (.iload_n 3, 1) := by decide +kernel
theorem dX8_sleepy_4 : decode cX8_sleepy 4 = .ok (.invokespecial 7, 3) := by decide +kernel
theorem dX8_sleepy_7 : decode cX8_sleepy 7 = .ok (.istore 4, 2) := by decide +kernel
theorem dX8_sleepy_9 : decode cX8_sleepy 9 = .ok (.iload_n 2, 1) := by decide +kernel
theorem dX8_sleepy_10 : decode cX8_sleepy 10 = .ok (.ifCond .eq 8, 3) := by decide +kernel
theorem dX8_sleepy_13 : decode cX8_sleepy 13 = .ok (.iload 4, 2) := by decide +kernel
theorem dX8_sleepy_15 : decode cX8_sleepy 15 = .ok (.goto 7, 3) := by decide +kernel
theorem dX8_sleepy_18 : decode cX8_sleepy 18 = .ok (.iload 4, 2) := by decide +kernel
theorem dX8_sleepy_20 : decode cX8_sleepy 20 = .ok (.iconst 2, 1) := by decide +kernel
theorem dX8_sleepy_21 : decode cX8_sleepy 21 = .ok (.idiv, 1) := by decide +kernel
theorem dX8_sleepy_22 : decode cX8_sleepy 22 = .ok (.ireturn, 1) := by decide +kernel
theorem dX8_tires_0 : decode cX8_tires 0 = .ok (.aload_n 0, 1) := by decide +kernel
theorem dX8_tires_1 : decode cX8_tires 1 = .ok (.invokespecial 11, 3) := by decide +kernel
theorem dX8_tires_4 : decode cX8_tires 4 = .ok (.iconst 1, 1) := by decide +kernel
theorem dX8_tires_5 : decode cX8_tires 5 = .ok (.iadd, 1) := by decide +kernel
theorem dX8_tires_6 : decode cX8_tires 6 = .ok (.ireturn, 1) := by decide +kernel
theorem dX9_init_0 : decode cX9_init 0 = .ok (.aload_n 0, 1) := by decide +kernel
theorem dX9_init_1 : decode cX9_init 1 = .ok (.invokespecial 3, 3) := by decide +kernel
theorem dX9_init_4 : decode cX9_init 4 = .ok (.aload_n 0, 1) := by decide +kernel
theorem dX9_init_5 : decode cX9_init 5 = .ok (.sipush 150, 3) := by decide +kernel
theorem dX9_init_8 : decode cX9_init 8 = .ok (.newarray .int, 2) := by decide +kernel
theorem dX9_init_10 : decode cX9_init 10 = .ok (.putfield 9, 3) := by decide +kernel
theorem dX9_init_13 : decode cX9_init 13 = .ok (.return_, 1) := by decide +kernel
theorem dX9_append_0 : decode cX9_append 0 = .ok (.aload_n 0, 1) := by decide +kernel
theorem dX9_append_1 : decode cX9_append 1 = .ok (.getfield 15, 3) := by decide +kernel
theorem dX9_append_4 : decode cX9_append 4 = .ok (.sipush 150, 3) := by decide +kernel
theorem dX9_append_7 : decode cX9_append 7 = .ok (.if_icmp .ge 23, 3) := by decide +kernel
theorem dX9_append_10 : decode cX9_append 10 = .ok (.aload_n 0, 1) := by decide +kernel
theorem dX9_append_11 : decode cX9_append 11 = .ok (.getfield 9, 3) := by decide +kernel
theorem dX9_append_14 : decode cX9_append 14 = .ok (.aload_n 0, 1) := by decide +kernel
theorem dX9_append_15 : decode cX9_append 15 = .ok (.getfield 15, 3) := by decide +kernel
theorem dX9_append_18 : decode cX9_append 18 = .ok (.iload_n 1, 1) := by decide +kernel
theorem dX9_append_19 : decode cX9_append 19 = .ok (.iastore, 1) := by decide +kernel
theorem dX9_append_20 : decode cX9_append 20 = .ok (.aload_n 0, 1) := by decide +kernel
theorem dX9_append_21 : decode cX9_append 21 = .ok (.dup, 1) := by decide +kernel
theorem dX9_append_22 : decode cX9_append 22 = .ok (.getfield 15, 3) := by decide +kernel
theorem dX9_append_25 : decode cX9_append 25 = .ok (.iconst 1, 1) := by decide +kernel
theorem dX9_append_26 : decode cX9_append 26 = .ok (.iadd, 1) := by decide +kernel
theorem dX9_append_27 : decode cX9_append 27 = .ok (.putfield 15, 3) := by decide +kernel
theorem dX9_append_30 : decode cX9_append 30 = .ok (.return_, 1) := by decide +kernel
theorem dX9_parse_0 : decode cX9_parse 0 = .ok (.aload_n 1, 1) := by decide +kernel
theorem dX9_parse_1 : decode cX9_parse 1 = .ok (.invokevirtual 19, 3) := by decide +kernel
theorem dX9_parse_4 : decode cX9_parse 4 = .ok (.aload_n 0, 1) := by decide +kernel
theorem dX9_parse_5 : decode cX9_parse 5 = .ok (.iconst (-1), 1) := by decide +kernel
theorem dX9_parse_6 : decode cX9_parse 6 = .ok (.putfield 24, 3) := by decide +kernel
theorem dX9_parse_9 : decode cX9_parse 9 = .ok (.aload_n 0, 1) := by decide +kernel
theorem dX9_parse_10 : decode cX9_parse 10 = .ok (.iconst 0, 1) := by decide +kernel
theorem dX9_parse_11 : decode cX9_parse 11 = .ok (.putfield 27, 3) := by decide +kernel
theorem dX9_parse_14 : decode cX9_parse 14 = .ok (.aload_n 0, 1) := by decide +kernel
theorem dX9_parse_15 : decode cX9_parse 15 = .ok (.invokevirtual 30, 3) := by decide +kernel
theorem dX9_parse_18 : decode cX9_parse 18 = .ok (.aload_n 0, 1) := by decide +kernel
theorem dX9_parse_19 : decode cX9_parse 19 = .ok (.ldc 33, 2) := by decide +kernel
theorem dX9_parse_21 : decode cX9_parse 21 = .ok (.invokevirtual 35, 3) := by decide +kernel
theorem dX9_parse_24 : decode cX9_parse 24 = .ok (.ifCond .eq 14, 3) := by decide +kernel
theorem dX9_parse_27 : decode cX9_parse 27 = .ok (.aload_n 0, 1) := by decide +kernel
theorem dX9_parse_28 : decode cX9_parse 28 = .ok (.invokevirtual 30, 3) := by decide +kernel
theorem dX9_parse_31 : decode cX9_parse 31 = .ok (.aload_n 0, 1) := by decide +kernel
theorem dX9_parse_32 : decode cX9_parse 32 = .ok (.invokevirtual 39, 3) := by decide +kernel
theorem dX9_parse_35 : decode cX9_parse 35 = .ok (.goto 7, 3) := by decide +kernel
theorem dX9_parse_38 : decode cX9_parse 38 = .ok (.aload_n 0, 1) := by decide +kernel
theorem dX9_parse_39 : decode cX9_parse 39 = .ok (.invokevirtual 42, 3) := by decide +kernel
theorem dX9_parse_42 : decode cX9_parse 42 = .ok (.iconst 1, 1) := by decide +kernel
theorem dX9_parse_43 : decode cX9_parse 43 = .ok (.istore_n 2, 1) := by decide +kernel
theorem dX9_parse_44 : decode cX9_parse 44 = .ok (.iload_n 2, 1) := by decide +kernel
theorem dX9_parse_45 : decode cX9_parse 45 = .ok (.sipush 150, 3) := by decide +kernel
theorem dX9_parse_48 : decode cX9_parse 48 = .ok (.if_icmp .ge 33, 3) := by decide +kernel
theorem dX9_parse_51 : decode cX9_parse 51 = .ok (.aload_n 0, 1) := by decide +kernel
theorem dX9_parse_52 : decode cX9_parse 52 = .ok (.getfield 24, 3) := by decide +kernel
theorem dX9_parse_55 : decode cX9_parse 55 = .ok (.iconst (-1), 1) := by decide +kernel
theorem dX9_parse_56 : decode cX9_parse 56 = .ok (.if_icmp .ne 25, 3) := by decide +kernel
theorem dX9_parse_59 : decode cX9_parse 59 = .ok (.aload_n 0, 1) := by decide +kernel
theorem dX9_parse_60 : decode cX9_parse 60 = .ok (.getfield 45, 3) := by decide +kernel
theorem dX9_parse_63 : decode cX9_parse 63 = .ok (.ifCond .eq 18, 3) := by decide +kernel
theorem dX9_parse_66 : decode cX9_parse 66 = .ok (.aload_n 0, 1) := by decide +kernel
theorem dX9_parse_67 : decode cX9_parse 67 = .ok (.aload_n 1, 1) := by decide +kernel
theorem dX9_parse_68 : decode cX9_parse 68 = .ok (.invokevirtual 48, 3) := by decide +kernel
theorem dX9_parse_71 : decode cX9_parse 71 = .ok (.aload_n 0, 1) := by decide +kernel
theorem dX9_parse_72 : decode cX9_parse 72 = .ok (.invokevirtual 39, 3) := by decide +kernel
theorem dX9_parse_75 : decode cX9_parse 75 = .ok (.iinc 2 1, 3) := by decide +kernel
theorem dX9_parse_78 : decode cX9_parse 78 = .ok (.goto (-34), 3) := by decide +kernel
theorem dX9_parse_81 : decode cX9_parse 81 = .ok (.iload_n 2, 1) := by decide +kernel
theorem dX9_parse_82 : decode cX9_parse 82 = .ok (.ireturn, 1) := by decide +kernel
theorem dX9_parseItem_0 : decode cX9_parseItem 0 = .ok (.aload_n 0, 1) := by decide +kernel
theorem dX9_parseItem_1 : decode cX9_parseItem 1 = .ok (.ldc 52, 2) := by decide +kernel
theorem dX9_parseItem_3 : decode cX9_parseItem 3 = .ok (.invokevirtual 35, 3) := by decide +kernel
theorem dX9_parseItem_6 : decode cX9_parseItem 6 = .ok (.ifCond .eq 12, 3) := by decide +kernel
theorem dX9_parseItem_9 : decode cX9_parseItem 9 = .ok (.aload_n 0, 1) := by decide +kernel
theorem dX9_parseItem_10 : decode cX9_parseItem 10 = .ok (.aload_n 1, 1) := by decide +kernel
theorem dX9_parseItem_11 : decode cX9_parseItem 11 = .ok (.iconst 1, 1) := by decide +kernel
theorem dX9_parseItem_12 : decode cX9_parseItem 12 = .ok (.invokevirtual 54, 3) := by decide +kernel
theorem dX9_parseItem_15 : decode cX9_parseItem 15 = .ok (.goto 61, 3) := by decide +kernel
theorem dX9_parseItem_18 : decode cX9_parseItem 18 = .ok (.aload_n 0, 1) := by decide +kernel
theorem dX9_parseItem_19 : decode cX9_parseItem 19 = .ok (.ldc 58, 2) := by decide +kernel
theorem dX9_parseItem_21 : decode cX9_parseItem 21 = .ok (.invokevirtual 35, 3) := by decide +kernel
theorem dX9_parseItem_24 : decode cX9_parseItem 24 = .ok (.ifCond .eq 12, 3) := by decide +kernel
theorem dX9_parseItem_27 : decode cX9_parseItem 27 = .ok (.aload_n 0, 1) := by decide +kernel
theorem dX9_parseItem_28 : decode cX9_parseItem 28 = .ok (.aload_n 1, 1) := by decide +kernel
theorem dX9_parseItem_29 : decode cX9_parseItem 29 = .ok (.iconst (-1), 1) := by decide +kernel
theorem dX9_parseItem_30 : decode cX9_parseItem 30 = .ok (.invokevirtual 54, 3) := by decide +kernel
theorem dX9_parseItem_33 : decode cX9_parseItem 33 = .ok (.goto 43, 3) := by decide +kernel
theorem dX9_parseItem_36 : decode cX9_parseItem 36 = .ok (.aload_n 0, 1) := by decide +kernel
theorem dX9_parseItem_37 : decode cX9_parseItem 37 = .ok (.ldc 60, 2) := by decide +kernel
theorem dX9_parseItem_39 : decode cX9_parseItem 39 = .ok (.invokevirtual 35, 3) := by decide +kernel
theorem dX9_parseItem_42 : decode cX9_parseItem 42 = .ok (.ifCond .eq 12, 3) := by decide +kernel
theorem dX9_parseItem_45 : decode cX9_parseItem 45 = .ok (.aload_n 0, 1) := by decide +kernel
theorem dX9_parseItem_46 : decode cX9_parseItem 46 = .ok (.aload_n 1, 1) := by decide +kernel
theorem dX9_parseItem_47 : decode cX9_parseItem 47 = .ok (.iconst 1, 1) := by decide +kernel
theorem dX9_parseItem_48 : decode cX9_parseItem 48 = .ok (.invokevirtual 62, 3) := by decide +kernel
theorem dX9_parseItem_51 : decode cX9_parseItem 51 = .ok (.goto 25, 3) := by decide +kernel
theorem dX9_parseItem_54 : decode cX9_parseItem 54 = .ok (.aload_n 0, 1) := by decide +kernel
theorem dX9_parseItem_55 : decode cX9_parseItem 55 = .ok (.ldc 65, 2) := by decide +kernel
theorem dX9_parseItem_57 : decode cX9_parseItem 57 = .ok (.invokevirtual 35, 3) := by decide +kernel
theorem dX9_parseItem_60 : decode cX9_parseItem 60 = .ok (.ifCond .eq 12, 3) := by decide +kernel
theorem dX9_parseItem_63 : decode cX9_parseItem 63 = .ok (.aload_n 0, 1) := by decide +kernel
theorem dX9_parseItem_64 : decode cX9_parseItem 64 = .ok (.aload_n 1, 1) := by decide +kernel
theorem dX9_parseItem_65 : decode cX9_parseItem 65 = .ok (.iconst (-1), 1) := by decide +kernel
theorem dX9_parseItem_66 : decode cX9_parseItem 66 = .ok (.invokevirtual 62, 3) := by decide +kernel
theorem dX9_parseItem_69 : decode cX9_parseItem 69 = .ok (.goto 7, 3) := by decide +kernel
theorem dX9_parseItem_72 : decode cX9_parseItem 72 = .ok (.aload_n 0, 1) := by decide +kernel
theorem dX9_parseItem_73 : decode cX9_parseItem 73 = .ok (.invokevirtual 42, 3) := by decide +kernel
theorem dX9_parseItem_76 : decode cX9_parseItem 76 = .ok (.return_, 1) := by decide +kernel
theorem dX9_parseRock_0 : decode cX9_parseRock 0 = .ok (.aload_n 1, 1) := by decide +kernel
theorem dX9_parseRock_1 : decode cX9_parseRock 1 = .ok (.getfield 67, 3) := by decide +kernel
theorem dX9_parseRock_4 : decode cX9_parseRock 4 = .ok (.bipush 6, 2) := by decide +kernel
theorem dX9_parseRock_6 : decode cX9_parseRock 6 = .ok (.if_icmp .lt 8, 3) := by decide +kernel
theorem dX9_parseRock_9 : decode cX9_parseRock 9 = .ok (.aload_n 0, 1) := by decide +kernel
theorem dX9_parseRock_10 : decode cX9_parseRock 10 = .ok (.invokevirtual 42, 3) := by decide +kernel
theorem dX9_parseRock_13 : decode cX9_parseRock 13 = .ok (.return_, 1) := by decide +kernel
theorem dX9_parseRock_14 : decode cX9_parseRock 14 = .ok (.aload_n 0, 1) := by decide +kernel
theorem dX9_parseRock_15 : decode cX9_parseRock 15 = .ok (.invokevirtual 30, 3) := by decide +kernel
theorem dX9_parseRock_18 : decode cX9_parseRock 18 = .ok (.iload_n 2, 1) := by decide +kernel
theorem dX9_parseRock_19 : decode cX9_parseRock 19 = .ok (.aload_n 0, 1) := by decide +kernel
theorem dX9_parseRock_20 : decode cX9_parseRock 20 = .ok (.getfield 70, 3) := by decide +kernel
theorem dX9_parseRock_23 : decode cX9_parseRock 23 = .ok (.imul, 1) := by decide +kernel
theorem dX9_parseRock_24 : decode cX9_parseRock 24 = .ok (.istore_n 3, 1) := by decide +kernel
theorem dX9_parseRock_25 : decode cX9_parseRock 25 = .ok (.aload_n 0, 1) := by decide +kernel
theorem dX9_parseRock_26 : decode cX9_parseRock 26 = .ok (.bipush 60, 2) := by decide +kernel
theorem dX9_parseRock_28 : decode cX9_parseRock 28 = .ok (.invokevirtual 73, 3) := by decide +kernel
theorem dX9_parseRock_31 : decode cX9_parseRock 31 = .ok (.ifCond .eq 11, 3) := by decide +kernel
theorem dX9_parseRock_34 : decode cX9_parseRock 34 = .ok (.aload_n 1, 1) := by decide +kernel
theorem dX9_parseRock_35 : decode cX9_parseRock 35 = .ok (.iload_n 3, 1) := by decide +kernel
theorem dX9_parseRock_36 : decode cX9_parseRock 36 = .ok (.invokevirtual 77, 3) := by decide +kernel
theorem dX9_parseRock_39 : decode cX9_parseRock 39 = .ok (.ifCond .eq 8, 3) := by decide +kernel
theorem dX9_parseRock_42 : decode cX9_parseRock 42 = .ok (.aload_n 0, 1) := by decide +kernel
theorem dX9_parseRock_43 : decode cX9_parseRock 43 = .ok (.invokevirtual 42, 3) := by decide +kernel
theorem dX9_parseRock_46 : decode cX9_parseRock 46 = .ok (.return_, 1) := by decide +kernel
theorem dX9_parseRock_47 : decode cX9_parseRock 47 = .ok (.aload_n 0, 1) := by decide +kernel
theorem dX9_parseRock_48 : decode cX9_parseRock 48 = .ok (.invokevirtual 30, 3) := by decide +kernel
theorem dX9_parseRock_51 : decode cX9_parseRock 51 = .ok (.aload_n 1, 1) := by decide +kernel
theorem dX9_parseRock_52 : decode cX9_parseRock 52 = .ok (.iload_n 3, 1) := by decide +kernel
theorem dX9_parseRock_53 : decode cX9_parseRock 53 = .ok (.invokevirtual 80, 3) := by decide +kernel
theorem dX9_parseRock_56 : decode cX9_parseRock 56 = .ok (.return_, 1) := by decide +kernel
theorem dX9_parseHand_0 : decode cX9_parseHand 0 = .ok (.aload_n 1, 1) := by decide +kernel
theorem dX9_parseHand_1 : decode cX9_parseHand 1 = .ok (.getfield 84, 3) := by decide +kernel
theorem dX9_parseHand_4 : decode cX9_parseHand 4 = .ok (.getfield 88, 3) := by decide +kernel
theorem dX9_parseHand_7 : decode cX9_parseHand 7 = .ok (.bipush 6, 2) := by decide +kernel
theorem dX9_parseHand_9 : decode cX9_parseHand 9 = .ok (.if_icmp .lt 8, 3) := by decide +kernel
theorem dX9_parseHand_12 : decode cX9_parseHand 12 = .ok (.aload_n 0, 1) := by decide +kernel
theorem dX9_parseHand_13 : decode cX9_parseHand 13 = .ok (.invokevirtual 42, 3) := by decide +kernel
theorem dX9_parseHand_16 : decode cX9_parseHand 16 = .ok (.return_, 1) := by decide +kernel
theorem dX9_parseHand_17 : decode cX9_parseHand 17 = .ok (.aload_n 0, 1) := by decide +kernel
theorem dX9_parseHand_18 : decode cX9_parseHand 18 = .ok (.invokevirtual 30, 3) := by decide +kernel
theorem dX9_parseHand_21 : decode cX9_parseHand 21 = .ok (.aload_n 0, 1) := by decide +kernel
theorem dX9_parseHand_22 : decode cX9_parseHand 22 = .ok (.iconst 5, 1) := by decide +kernel
theorem dX9_parseHand_23 : decode cX9_parseHand 23 = .ok (.invokevirtual 93, 3) := by decide +kernel
theorem dX9_parseHand_26 : decode cX9_parseHand 26 = .ok (.istore_n 3, 1) := by decide +kernel
theorem dX9_parseHand_27 : decode cX9_parseHand 27 = .ok (.aload_n 0, 1) := by decide +kernel
theorem dX9_parseHand_28 : decode cX9_parseHand 28 = .ok (.bipush 40, 2) := by decide +kernel
theorem dX9_parseHand_30 : decode cX9_parseHand 30 = .ok (.invokevirtual 93, 3) := by decide +kernel
theorem dX9_parseHand_33 : decode cX9_parseHand 33 = .ok (.istore 4, 2) := by decide +kernel
theorem dX9_parseHand_35 : decode cX9_parseHand 35 = .ok (.iload_n 2, 1) := by decide +kernel
theorem dX9_parseHand_36 : decode cX9_parseHand 36 = .ok (.aload_n 0, 1) := by decide +kernel
theorem dX9_parseHand_37 : decode cX9_parseHand 37 = .ok (.iconst 3, 1) := by decide +kernel
theorem dX9_parseHand_38 : decode cX9_parseHand 38 = .ok (.invokevirtual 93, 3) := by decide +kernel
theorem dX9_parseHand_41 : decode cX9_parseHand 41 = .ok (.imul, 1) := by decide +kernel
theorem dX9_parseHand_42 : decode cX9_parseHand 42 = .ok (.istore 5, 2) := by decide +kernel
theorem dX9_parseHand_44 : decode cX9_parseHand 44 = .ok (.aload_n 0, 1) := by decide +kernel
theorem dX9_parseHand_45 : decode cX9_parseHand 45 = .ok (.getfield 24, 3) := by decide +kernel
theorem dX9_parseHand_48 : decode cX9_parseHand 48 = .ok (.iconst (-1), 1) := by decide +kernel
theorem dX9_parseHand_49 : decode cX9_parseHand 49 = .ok (.if_icmp .ne 12, 3) := by decide +kernel
theorem dX9_parseHand_52 : decode cX9_parseHand 52 = .ok (.aload_n 1, 1) := by decide +kernel
theorem dX9_parseHand_53 : decode cX9_parseHand 53 = .ok (.iload_n 3, 1) := by decide +kernel
theorem dX9_parseHand_54 : decode cX9_parseHand 54 = .ok (.iload 4, 2) := by decide +kernel
theorem dX9_parseHand_56 : decode cX9_parseHand 56 = .ok (.iload 5, 2) := by decide +kernel
theorem dX9_parseHand_58 : decode cX9_parseHand 58 = .ok (.invokevirtual 97, 3) := by decide +kernel
theorem dX9_parseHand_61 : decode cX9_parseHand 61 = .ok (.return_, 1) := by decide +kernel
theorem dX9_takeNumberUpTo_0 : decode cX9_takeNumberUpTo 0 = .ok (.aload_n 0, 1) := by decide +kernel
theorem dX9_takeNumberUpTo_1 : decode cX9_takeNumberUpTo 1 = .ok (.getfield 70, 3) := by decide +kernel
theorem dX9_takeNumberUpTo_4 : decode cX9_takeNumberUpTo 4 = .ok (.istore_n 2, 1) := by decide +kernel
theorem dX9_takeNumberUpTo_5 : decode cX9_takeNumberUpTo 5 = .ok (.aload_n 0, 1) := by decide +kernel
theorem dX9_takeNumberUpTo_6 : decode cX9_takeNumberUpTo 6 = .ok (.iload_n 1, 1) := by decide +kernel
theorem dX9_takeNumberUpTo_7 : decode cX9_takeNumberUpTo 7 = .ok (.invokevirtual 73, 3) := by decide +kernel
theorem dX9_takeNumberUpTo_10 : decode cX9_takeNumberUpTo 10 = .ok (.ifCond .eq 10, 3) := by decide +kernel
theorem dX9_takeNumberUpTo_13 : decode cX9_takeNumberUpTo 13 = .ok (.aload_n 0, 1) := by decide +kernel
theorem dX9_takeNumberUpTo_14 : decode cX9_takeNumberUpTo 14 = .ok (.invokevirtual 30, 3) := by decide +kernel
theorem dX9_takeNumberUpTo_17 : decode cX9_takeNumberUpTo 17 = .ok (.goto 7, 3) := by decide +kernel
theorem dX9_takeNumberUpTo_20 : decode cX9_takeNumberUpTo 20 = .ok (.aload_n 0, 1) := by decide +kernel
theorem dX9_takeNumberUpTo_21 : decode cX9_takeNumberUpTo 21 = .ok (.invokevirtual 42, 3) := by decide +kernel
theorem dX9_takeNumberUpTo_24 : decode cX9_takeNumberUpTo 24 = .ok (.iload_n 2, 1) := by decide +kernel
theorem dX9_takeNumberUpTo_25 : decode cX9_takeNumberUpTo 25 = .ok (.ireturn, 1) := by decide +kernel
theorem dX9_expectStop_0 : decode cX9_expectStop 0 = .ok (.aload_n 0, 1) := by decide +kernel
theorem dX9_expectStop_1 : decode cX9_expectStop 1 = .ok (.getfield 45, 3) := by decide +kernel
theorem dX9_expectStop_4 : decode cX9_expectStop 4 = .ok (.iconst 3, 1) := by decide +kernel
theorem dX9_expectStop_5 : decode cX9_expectStop 5 = .ok (.if_icmp .ne 10, 3) := by decide +kernel
theorem dX9_expectStop_8 : decode cX9_expectStop 8 = .ok (.aload_n 0, 1) := by decide +kernel
theorem dX9_expectStop_9 : decode cX9_expectStop 9 = .ok (.invokevirtual 30, 3) := by decide +kernel
theorem dX9_expectStop_12 : decode cX9_expectStop 12 = .ok (.goto 7, 3) := by decide +kernel
theorem dX9_expectStop_15 : decode cX9_expectStop 15 = .ok (.aload_n 0, 1) := by decide +kernel
theorem dX9_expectStop_16 : decode cX9_expectStop 16 = .ok (.invokevirtual 42, 3) := by decide +kernel
theorem dX9_expectStop_19 : decode cX9_expectStop 19 = .ok (.return_, 1) := by decide +kernel
theorem dX9_fail_0 : decode cX9_fail 0 = .ok (.aload_n 0, 1) := by decide +kernel
theorem dX9_fail_1 : decode cX9_fail 1 = .ok (.getfield 24, 3) := by decide +kernel
theorem dX9_fail_4 : decode cX9_fail 4 = .ok (.iconst (-1), 1) := by decide +kernel
theorem dX9_fail_5 : decode cX9_fail 5 = .ok (.if_icmp .ne 11, 3) := by decide +kernel
theorem dX9_fail_8 : decode cX9_fail 8 = .ok (.aload_n 0, 1) := by decide +kernel
theorem dX9_fail_9 : decode cX9_fail 9 = .ok (.aload_n 0, 1) := by decide +kernel
theorem dX9_fail_10 : decode cX9_fail 10 = .ok (.getfield 101, 3) := by decide +kernel
theorem dX9_fail_13 : decode cX9_fail 13 = .ok (.putfield 24, 3) := by decide +kernel
theorem dX9_fail_16 : decode cX9_fail 16 = .ok (.return_, 1) := by decide +kernel
theorem dX9_isNumberUpTo_0 : decode cX9_isNumberUpTo 0 = .ok (.aload_n 0, 1) := by decide +kernel
theorem dX9_isNumberUpTo_1 : decode cX9_isNumberUpTo 1 = .ok (.getfield 45, 3) := by decide +kernel
theorem dX9_isNumberUpTo_4 : decode cX9_isNumberUpTo 4 = .ok (.iconst 2, 1) := by decide +kernel
theorem dX9_isNumberUpTo_5 : decode cX9_isNumberUpTo 5 = .ok (.if_icmp .ne 15, 3) := by decide +kernel
theorem dX9_isNumberUpTo_8 : decode cX9_isNumberUpTo 8 = .ok (.aload_n 0, 1) := by decide +kernel
theorem dX9_isNumberUpTo_9 : decode cX9_isNumberUpTo 9 = .ok (.getfield 70, 3) := by decide +kernel
theorem dX9_isNumberUpTo_12 : decode cX9_isNumberUpTo 12 = .ok (.iload_n 1, 1) := by decide +kernel
theorem dX9_isNumberUpTo_13 : decode cX9_isNumberUpTo 13 = .ok (.if_icmp .gt 7, 3) := by decide +kernel
theorem dX9_isNumberUpTo_16 : decode cX9_isNumberUpTo 16 = .ok (.iconst 1, 1) := by decide +kernel
theorem dX9_isNumberUpTo_17 : decode cX9_isNumberUpTo 17 = .ok (.goto 4, 3) := by decide +kernel
theorem dX9_isNumberUpTo_20 : decode cX9_isNumberUpTo 20 = .ok (.iconst 0, 1) := by decide +kernel
theorem dX9_isNumberUpTo_21 : decode cX9_isNumberUpTo 21 = .ok (.ireturn, 1) := by decide +kernel
theorem dX9_isWord_0 : decode cX9_isWord 0 = .ok (.aload_n 0, 1) := by decide +kernel
theorem dX9_isWord_1 : decode cX9_isWord 1 = .ok (.getfield 45, 3) := by decide +kernel
theorem dX9_isWord_4 : decode cX9_isWord 4 = .ok (.iconst 1, 1) := by decide +kernel
theorem dX9_isWord_5 : decode cX9_isWord 5 = .ok (.if_icmp .ne 19, 3) := by decide +kernel
theorem dX9_isWord_8 : decode cX9_isWord 8 = .ok (.aload_n 0, 1) := by decide +kernel
theorem dX9_isWord_9 : decode cX9_isWord 9 = .ok (.getfield 27, 3) := by decide +kernel
theorem dX9_isWord_12 : decode cX9_isWord 12 = .ok (.aload_n 0, 1) := by decide +kernel
theorem dX9_isWord_13 : decode cX9_isWord 13 = .ok (.getfield 101, 3) := by decide +kernel
theorem dX9_isWord_16 : decode cX9_isWord 16 = .ok (.isub, 1) := by decide +kernel
theorem dX9_isWord_17 : decode cX9_isWord 17 = .ok (.aload_n 1, 1) := by decide +kernel
theorem dX9_isWord_18 : decode cX9_isWord 18 = .ok (.invokevirtual 104, 3) := by decide +kernel
theorem dX9_isWord_21 : decode cX9_isWord 21 = .ok (.if_icmp .eq 5, 3) := by decide +kernel
theorem dX9_isWord_24 : decode cX9_isWord 24 = .ok (.iconst 0, 1) := by decide +kernel
theorem dX9_isWord_25 : decode cX9_isWord 25 = .ok (.ireturn, 1) := by decide +kernel
theorem dX9_isWord_26 : decode cX9_isWord 26 = .ok (.iconst 0, 1) := by decide +kernel
theorem dX9_isWord_27 : decode cX9_isWord 27 = .ok (.istore_n 2, 1) := by decide +kernel
theorem dX9_isWord_28 : decode cX9_isWord 28 = .ok (.iload_n 2, 1) := by decide +kernel
theorem dX9_isWord_29 : decode cX9_isWord 29 = .ok (.aload_n 1, 1) := by decide +kernel
theorem dX9_isWord_30 : decode cX9_isWord 30 = .ok (.invokevirtual 104, 3) := by decide +kernel
theorem dX9_isWord_33 : decode cX9_isWord 33 = .ok (.if_icmp .ge 30, 3) := by decide +kernel
theorem dX9_isWord_36 : decode cX9_isWord 36 = .ok (.aload_n 0, 1) := by decide +kernel
theorem dX9_isWord_37 : decode cX9_isWord 37 = .ok (.getfield 9, 3) := by decide +kernel
theorem dX9_isWord_40 : decode cX9_isWord 40 = .ok (.aload_n 0, 1) := by decide +kernel
theorem dX9_isWord_41 : decode cX9_isWord 41 = .ok (.getfield 101, 3) := by decide +kernel
theorem dX9_isWord_44 : decode cX9_isWord 44 = .ok (.iload_n 2, 1) := by decide +kernel
theorem dX9_isWord_45 : decode cX9_isWord 45 = .ok (.iadd, 1) := by decide +kernel
theorem dX9_isWord_46 : decode cX9_isWord 46 = .ok (.iaload, 1) := by decide +kernel
theorem dX9_isWord_47 : decode cX9_isWord 47 = .ok (.aload_n 1, 1) := by decide +kernel
theorem dX9_isWord_48 : decode cX9_isWord 48 = .ok (.iload_n 2, 1) := by decide +kernel
theorem dX9_isWord_49 : decode cX9_isWord 49 = .ok (.invokevirtual 109, 3) := by decide +kernel
theorem dX9_isWord_52 : decode cX9_isWord 52 = .ok (.if_icmp .eq 5, 3) := by decide +kernel
theorem dX9_isWord_55 : decode cX9_isWord 55 = .ok (.iconst 0, 1) := by decide +kernel
theorem dX9_isWord_56 : decode cX9_isWord 56 = .ok (.ireturn, 1) := by decide +kernel
theorem dX9_isWord_57 : decode cX9_isWord 57 = .ok (.iinc 2 1, 3) := by decide +kernel
theorem dX9_isWord_60 : decode cX9_isWord 60 = .ok (.goto (-32), 3) := by decide +kernel
theorem dX9_isWord_63 : decode cX9_isWord 63 = .ok (.iconst 1, 1) := by decide +kernel
theorem dX9_isWord_64 : decode cX9_isWord 64 = .ok (.ireturn, 1) := by decide +kernel
theorem dX9_advance_0 : decode cX9_advance 0 = .ok (.aload_n 0, 1) := by decide +kernel
theorem dX9_advance_1 : decode cX9_advance 1 = .ok (.aload_n 0, 1) := by decide +kernel
theorem dX9_advance_2 : decode cX9_advance 2 = .ok (.getfield 27, 3) := by decide +kernel
theorem dX9_advance_5 : decode cX9_advance 5 = .ok (.putfield 101, 3) := by decide +kernel
theorem dX9_advance_8 : decode cX9_advance 8 = .ok (.aload_n 0, 1) := by decide +kernel
theorem dX9_advance_9 : decode cX9_advance 9 = .ok (.getfield 101, 3) := by decide +kernel
theorem dX9_advance_12 : decode cX9_advance 12 = .ok (.aload_n 0, 1) := by decide +kernel
theorem dX9_advance_13 : decode cX9_advance 13 = .ok (.getfield 15, 3) := by decide +kernel
theorem dX9_advance_16 : decode cX9_advance 16 = .ok (.if_icmp .ge 30, 3) := by decide +kernel
theorem dX9_advance_19 : decode cX9_advance 19 = .ok (.aload_n 0, 1) := by decide +kernel
theorem dX9_advance_20 : decode cX9_advance 20 = .ok (.getfield 9, 3) := by decide +kernel
theorem dX9_advance_23 : decode cX9_advance 23 = .ok (.aload_n 0, 1) := by decide +kernel
theorem dX9_advance_24 : decode cX9_advance 24 = .ok (.getfield 101, 3) := by decide +kernel
theorem dX9_advance_27 : decode cX9_advance 27 = .ok (.iaload, 1) := by decide +kernel
theorem dX9_advance_28 : decode cX9_advance 28 = .ok (.bipush 32, 2) := by decide +kernel
theorem dX9_advance_30 : decode cX9_advance 30 = .ok (.if_icmp .ne 16, 3) := by decide +kernel
theorem dX9_advance_33 : decode cX9_advance 33 = .ok (.aload_n 0, 1) := by decide +kernel
theorem dX9_advance_34 : decode cX9_advance 34 = .ok (.dup, 1) := by decide +kernel
theorem dX9_advance_35 : decode cX9_advance 35 = .ok (.getfield 101, 3) := by decide +kernel
theorem dX9_advance_38 : decode cX9_advance 38 = .ok (.iconst 1, 1) := by decide +kernel
theorem dX9_advance_39 : decode cX9_advance 39 = .ok (.iadd, 1) := by decide +kernel
theorem dX9_advance_40 : decode cX9_advance 40 = .ok (.putfield 101, 3) := by decide +kernel
theorem dX9_advance_43 : decode cX9_advance 43 = .ok (.goto (-35), 3) := by decide +kernel
theorem dX9_advance_46 : decode cX9_advance 46 = .ok (.aload_n 0, 1) := by decide +kernel
theorem dX9_advance_47 : decode cX9_advance 47 = .ok (.aload_n 0, 1) := by decide +kernel
theorem dX9_advance_48 : decode cX9_advance 48 = .ok (.getfield 101, 3) := by decide +kernel
theorem dX9_advance_51 : decode cX9_advance 51 = .ok (.putfield 27, 3) := by decide +kernel
theorem dX9_advance_54 : decode cX9_advance 54 = .ok (.aload_n 0, 1) := by decide +kernel
theorem dX9_advance_55 : decode cX9_advance 55 = .ok (.iconst 0, 1) := by decide +kernel
theorem dX9_advance_56 : decode cX9_advance 56 = .ok (.putfield 70, 3) := by decide +kernel
theorem dX9_advance_59 : decode cX9_advance 59 = .ok (.aload_n 0, 1) := by decide +kernel
theorem dX9_advance_60 : decode cX9_advance 60 = .ok (.getfield 101, 3) := by decide +kernel
theorem dX9_advance_63 : decode cX9_advance 63 = .ok (.aload_n 0, 1) := by decide +kernel
theorem dX9_advance_64 : decode cX9_advance 64 = .ok (.getfield 15, 3) := by decide +kernel
theorem dX9_advance_67 : decode cX9_advance 67 = .ok (.if_icmp .lt 11, 3) := by decide +kernel
theorem dX9_advance_70 : decode cX9_advance 70 = .ok (.aload_n 0, 1) := by decide +kernel
theorem dX9_advance_71 : decode cX9_advance 71 = .ok (.iconst 0, 1) := by decide +kernel
theorem dX9_advance_72 : decode cX9_advance 72 = .ok (.putfield 45, 3) := by decide +kernel
theorem dX9_advance_75 : decode cX9_advance 75 = .ok (.goto 80, 3) := by decide +kernel
theorem dX9_advance_78 : decode cX9_advance 78 = .ok (.aload_n 0, 1) := by decide +kernel
theorem dX9_advance_79 : decode cX9_advance 79 = .ok (.getfield 9, 3) := by decide +kernel
theorem dX9_advance_82 : decode cX9_advance 82 = .ok (.aload_n 0, 1) := by decide +kernel
theorem dX9_advance_83 : decode cX9_advance 83 = .ok (.getfield 101, 3) := by decide +kernel
theorem dX9_advance_86 : decode cX9_advance 86 = .ok (.iaload, 1) := by decide +kernel
theorem dX9_advance_87 : decode cX9_advance 87 = .ok (.invokestatic 113, 3) := by decide +kernel
theorem dX9_advance_90 : decode cX9_advance 90 = .ok (.ifCond .eq 10, 3) := by decide +kernel
theorem dX9_advance_93 : decode cX9_advance 93 = .ok (.aload_n 0, 1) := by decide +kernel
theorem dX9_advance_94 : decode cX9_advance 94 = .ok (.invokevirtual 116, 3) := by decide +kernel
theorem dX9_advance_97 : decode cX9_advance 97 = .ok (.goto 58, 3) := by decide +kernel
theorem dX9_advance_100 : decode cX9_advance 100 = .ok (.aload_n 0, 1) := by decide +kernel
theorem dX9_advance_101 : decode cX9_advance 101 = .ok (.getfield 9, 3) := by decide +kernel
theorem dX9_advance_104 : decode cX9_advance 104 = .ok (.aload_n 0, 1) := by decide +kernel
theorem dX9_advance_105 : decode cX9_advance 105 = .ok (.getfield 101, 3) := by decide +kernel
theorem dX9_advance_108 : decode cX9_advance 108 = .ok (.iaload, 1) := by decide +kernel
theorem dX9_advance_109 : decode cX9_advance 109 = .ok (.invokestatic 119, 3) := by decide +kernel
theorem dX9_advance_112 : decode cX9_advance 112 = .ok (.ifCond .eq 10, 3) := by decide +kernel
theorem dX9_advance_115 : decode cX9_advance 115 = .ok (.aload_n 0, 1) := by decide +kernel
theorem dX9_advance_116 : decode cX9_advance 116 = .ok (.invokevirtual 122, 3) := by decide +kernel
theorem dX9_advance_119 : decode cX9_advance 119 = .ok (.goto 36, 3) := by decide +kernel
theorem dX9_advance_122 : decode cX9_advance 122 = .ok (.aload_n 0, 1) := by decide +kernel
theorem dX9_advance_123 : decode cX9_advance 123 = .ok (.aload_n 0, 1) := by decide +kernel
theorem dX9_advance_124 : decode cX9_advance 124 = .ok (.getfield 9, 3) := by decide +kernel
theorem dX9_advance_127 : decode cX9_advance 127 = .ok (.aload_n 0, 1) := by decide +kernel
theorem dX9_advance_128 : decode cX9_advance 128 = .ok (.getfield 101, 3) := by decide +kernel
theorem dX9_advance_131 : decode cX9_advance 131 = .ok (.iaload, 1) := by decide +kernel
theorem dX9_advance_132 : decode cX9_advance 132 = .ok (.bipush 59, 2) := by decide +kernel
theorem dX9_advance_134 : decode cX9_advance 134 = .ok (.if_icmp .ne 7, 3) := by decide +kernel
theorem dX9_advance_137 : decode cX9_advance 137 = .ok (.iconst 3, 1) := by decide +kernel
theorem dX9_advance_138 : decode cX9_advance 138 = .ok (.goto 4, 3) := by decide +kernel
theorem dX9_advance_141 : decode cX9_advance 141 = .ok (.iconst 4, 1) := by decide +kernel
theorem dX9_advance_142 : decode cX9_advance 142 = .ok (.putfield 45, 3) := by decide +kernel
theorem dX9_advance_145 : decode cX9_advance 145 = .ok (.aload_n 0, 1) := by decide +kernel
theorem dX9_advance_146 : decode cX9_advance 146 = .ok (.dup, 1) := by decide +kernel
theorem dX9_advance_147 : decode cX9_advance 147 = .ok (.getfield 27, 3) := by decide +kernel
theorem dX9_advance_150 : decode cX9_advance 150 = .ok (.iconst 1, 1) := by decide +kernel
theorem dX9_advance_151 : decode cX9_advance 151 = .ok (.iadd, 1) := by decide +kernel
theorem dX9_advance_152 : decode cX9_advance 152 = .ok (.putfield 27, 3) := by decide +kernel
theorem dX9_advance_155 : decode cX9_advance 155 = .ok (.return_, 1) := by decide +kernel
theorem dX9_advanceOverWord_0 : decode cX9_advanceOverWord 0 = .ok (.aload_n 0, 1) := by decide +kernel
theorem dX9_advanceOverWord_1 : decode cX9_advanceOverWord 1 = .ok (.iconst 1, 1) := by decide +kernel
theorem dX9_advanceOverWord_2 : decode cX9_advanceOverWord 2 = .ok (.putfield 45, 3) := by decide +kernel
theorem dX9_advanceOverWord_5 : decode cX9_advanceOverWord 5 = .ok (.aload_n 0, 1) := by decide +kernel
theorem dX9_advanceOverWord_6 : decode cX9_advanceOverWord 6 = .ok (.getfield 27, 3) := by decide +kernel
theorem dX9_advanceOverWord_9 : decode cX9_advanceOverWord 9 = .ok (.aload_n 0, 1) := by decide +kernel
theorem dX9_advanceOverWord_10 : decode cX9_advanceOverWord 10 = .ok (.getfield 15, 3) := by decide +kernel
theorem dX9_advanceOverWord_13 : decode cX9_advanceOverWord 13 = .ok (.if_icmp .ge 31, 3) := by decide +kernel
theorem dX9_advanceOverWord_16 : decode cX9_advanceOverWord 16 = .ok (.aload_n 0, 1) := by decide +kernel
theorem dX9_advanceOverWord_17 : decode cX9_advanceOverWord 17 = .ok (.getfield 9, 3) := by decide +kernel
theorem dX9_advanceOverWord_20 : decode cX9_advanceOverWord 20 = .ok (.aload_n 0, 1) := by decide +kernel
theorem dX9_advanceOverWord_21 : decode cX9_advanceOverWord 21 = .ok (.getfield 27, 3) := by decide +kernel
theorem dX9_advanceOverWord_24 : decode cX9_advanceOverWord 24 = .ok (.iaload, 1) := by decide +kernel
theorem dX9_advanceOverWord_25 : decode cX9_advanceOverWord 25 = .ok (.invokestatic 113, 3) := by decide +kernel
theorem dX9_advanceOverWord_28 : decode cX9_advanceOverWord 28 = .ok (.ifCond .eq 16, 3) := by decide +kernel
theorem dX9_advanceOverWord_31 : decode cX9_advanceOverWord 31 = .ok (.aload_n 0, 1) := by decide +kernel
theorem dX9_advanceOverWord_32 : decode cX9_advanceOverWord 32 = .ok (.dup, 1) := by decide +kernel
theorem dX9_advanceOverWord_33 : decode cX9_advanceOverWord 33 = .ok (.getfield 27, 3) := by decide +kernel
theorem dX9_advanceOverWord_36 : decode cX9_advanceOverWord 36 = .ok (.iconst 1, 1) := by decide +kernel
theorem dX9_advanceOverWord_37 : decode cX9_advanceOverWord 37 = .ok (.iadd, 1) := by decide +kernel
theorem dX9_advanceOverWord_38 : decode cX9_advanceOverWord 38 = .ok (.putfield 27, 3) := by decide +kernel
theorem dX9_advanceOverWord_41 : decode cX9_advanceOverWord 41 = .ok (.goto (-36), 3) := by decide +kernel
theorem dX9_advanceOverWord_44 : decode cX9_advanceOverWord 44 = .ok (.return_, 1) := by decide +kernel
theorem dX9_advanceOverNumber_0 : decode cX9_advanceOverNumber 0 = .ok (.aload_n 0, 1) := by decide +kernel
theorem dX9_advanceOverNumber_1 : decode cX9_advanceOverNumber 1 = .ok (.getfield 27, 3) := by decide +kernel
theorem dX9_advanceOverNumber_4 : decode cX9_advanceOverNumber 4 = .ok (.aload_n 0, 1) := by decide +kernel
theorem dX9_advanceOverNumber_5 : decode cX9_advanceOverNumber 5 = .ok (.getfield 15, 3) := by decide +kernel
theorem dX9_advanceOverNumber_8 : decode cX9_advanceOverNumber 8 = .ok (.if_icmp .ge 55, 3) := by decide +kernel
theorem dX9_advanceOverNumber_11 : decode cX9_advanceOverNumber 11 = .ok (.aload_n 0, 1) := by decide +kernel
theorem dX9_advanceOverNumber_12 : decode cX9_advanceOverNumber 12 = .ok (.getfield 9, 3) := by decide +kernel
theorem dX9_advanceOverNumber_15 : decode cX9_advanceOverNumber 15 = .ok (.aload_n 0, 1) := by decide +kernel
theorem dX9_advanceOverNumber_16 : decode cX9_advanceOverNumber 16 = .ok (.getfield 27, 3) := by decide +kernel
theorem dX9_advanceOverNumber_19 : decode cX9_advanceOverNumber 19 = .ok (.iaload, 1) := by decide +kernel
theorem dX9_advanceOverNumber_20 : decode cX9_advanceOverNumber 20 = .ok (.invokestatic 119, 3) := by decide +kernel
theorem dX9_advanceOverNumber_23 : decode cX9_advanceOverNumber 23 = .ok (.ifCond .eq 40, 3) := by decide +kernel
theorem dX9_advanceOverNumber_26 : decode cX9_advanceOverNumber 26 = .ok (.aload_n 0, 1) := by decide +kernel
theorem dX9_advanceOverNumber_27 : decode cX9_advanceOverNumber 27 = .ok (.aload_n 0, 1) := by decide +kernel
theorem dX9_advanceOverNumber_28 : decode cX9_advanceOverNumber 28 = .ok (.getfield 70, 3) := by decide +kernel
theorem dX9_advanceOverNumber_31 : decode cX9_advanceOverNumber 31 = .ok (.bipush 10, 2) := by decide +kernel
theorem dX9_advanceOverNumber_33 : decode cX9_advanceOverNumber 33 = .ok (.imul, 1) := by decide +kernel
theorem dX9_advanceOverNumber_34 : decode cX9_advanceOverNumber 34 = .ok (.aload_n 0, 1) := by decide +kernel
theorem dX9_advanceOverNumber_35 : decode cX9_advanceOverNumber 35 = .ok (.getfield 9, 3) := by decide +kernel
theorem dX9_advanceOverNumber_38 : decode cX9_advanceOverNumber 38 = .ok (.aload_n 0, 1) := by decide +kernel
theorem dX9_advanceOverNumber_39 : decode cX9_advanceOverNumber 39 = .ok (.getfield 27, 3) := by decide +kernel
theorem dX9_advanceOverNumber_42 : decode cX9_advanceOverNumber 42 = .ok (.iaload, 1) := by decide +kernel
theorem dX9_advanceOverNumber_43 : decode cX9_advanceOverNumber 43 = .ok (.bipush 48, 2) := by decide +kernel
theorem dX9_advanceOverNumber_45 : decode cX9_advanceOverNumber 45 = .ok (.isub, 1) := by decide +kernel
theorem dX9_advanceOverNumber_46 : decode cX9_advanceOverNumber 46 = .ok (.iadd, 1) := by decide +kernel
theorem dX9_advanceOverNumber_47 : decode cX9_advanceOverNumber 47 = .ok (.putfield 70, 3) := by decide +kernel
theorem dX9_advanceOverNumber_50 : decode cX9_advanceOverNumber 50 = .ok (.aload_n 0, 1) := by decide +kernel
theorem dX9_advanceOverNumber_51 : decode cX9_advanceOverNumber 51 = .ok (.dup, 1) := by decide +kernel
theorem dX9_advanceOverNumber_52 : decode cX9_advanceOverNumber 52 = .ok (.getfield 27, 3) := by decide +kernel
theorem dX9_advanceOverNumber_55 : decode cX9_advanceOverNumber 55 = .ok (.iconst 1, 1) := by decide +kernel
theorem dX9_advanceOverNumber_56 : decode cX9_advanceOverNumber 56 = .ok (.iadd, 1) := by decide +kernel
theorem dX9_advanceOverNumber_57 : decode cX9_advanceOverNumber 57 = .ok (.putfield 27, 3) := by decide +kernel
theorem dX9_advanceOverNumber_60 : decode cX9_advanceOverNumber 60 = .ok (.goto (-60), 3) := by decide +kernel
theorem dX9_advanceOverNumber_63 : decode cX9_advanceOverNumber 63 = .ok (.aload_n 0, 1) := by decide +kernel
theorem dX9_advanceOverNumber_64 : decode cX9_advanceOverNumber 64 = .ok (.aload_n 0, 1) := by decide +kernel
theorem dX9_advanceOverNumber_65 : decode cX9_advanceOverNumber 65 = .ok (.getfield 27, 3) := by decide +kernel
theorem dX9_advanceOverNumber_68 : decode cX9_advanceOverNumber 68 = .ok (.aload_n 0, 1) := by decide +kernel
theorem dX9_advanceOverNumber_69 : decode cX9_advanceOverNumber 69 = .ok (.getfield 101, 3) := by decide +kernel
theorem dX9_advanceOverNumber_72 : decode cX9_advanceOverNumber 72 = .ok (.isub, 1) := by decide +kernel
theorem dX9_advanceOverNumber_73 : decode cX9_advanceOverNumber 73 = .ok (.iconst 2, 1) := by decide +kernel
theorem dX9_advanceOverNumber_74 : decode cX9_advanceOverNumber 74 = .ok (.if_icmp .gt 7, 3) := by decide +kernel
theorem dX9_advanceOverNumber_77 : decode cX9_advanceOverNumber 77 = .ok (.iconst 2, 1) := by decide +kernel
theorem dX9_advanceOverNumber_78 : decode cX9_advanceOverNumber 78 = .ok (.goto 4, 3) := by decide +kernel
theorem dX9_advanceOverNumber_81 : decode cX9_advanceOverNumber 81 = .ok (.iconst 4, 1) := by decide +kernel
theorem dX9_advanceOverNumber_82 : decode cX9_advanceOverNumber 82 = .ok (.putfield 45, 3) := by decide +kernel
theorem dX9_advanceOverNumber_85 : decode cX9_advanceOverNumber 85 = .ok (.return_, 1) := by decide +kernel
theorem dX9_isLetter_0 : decode cX9_isLetter 0 = .ok (.iload_n 0, 1) := by decide +kernel
theorem dX9_isLetter_1 : decode cX9_isLetter 1 = .ok (.bipush 97, 2) := by decide +kernel
theorem dX9_isLetter_3 : decode cX9_isLetter 3 = .ok (.if_icmp .lt 13, 3) := by decide +kernel
theorem dX9_isLetter_6 : decode cX9_isLetter 6 = .ok (.iload_n 0, 1) := by decide +kernel
theorem dX9_isLetter_7 : decode cX9_isLetter 7 = .ok (.bipush 122, 2) := by decide +kernel
theorem dX9_isLetter_9 : decode cX9_isLetter 9 = .ok (.if_icmp .gt 7, 3) := by decide +kernel
theorem dX9_isLetter_12 : decode cX9_isLetter 12 = .ok (.iconst 1, 1) := by decide +kernel
theorem dX9_isLetter_13 : decode cX9_isLetter 13 = .ok (.goto 4, 3) := by decide +kernel
theorem dX9_isLetter_16 : decode cX9_isLetter 16 = .ok (.iconst 0, 1) := by decide +kernel
theorem dX9_isLetter_17 : decode cX9_isLetter 17 = .ok (.ireturn, 1) := by decide +kernel
theorem dX9_isFigure_0 : decode cX9_isFigure 0 = .ok (.iload_n 0, 1) := by decide +kernel
theorem dX9_isFigure_1 : decode cX9_isFigure 1 = .ok (.bipush 48, 2) := by decide +kernel
theorem dX9_isFigure_3 : decode cX9_isFigure 3 = .ok (.if_icmp .lt 13, 3) := by decide +kernel
theorem dX9_isFigure_6 : decode cX9_isFigure 6 = .ok (.iload_n 0, 1) := by decide +kernel
theorem dX9_isFigure_7 : decode cX9_isFigure 7 = .ok (.bipush 57, 2) := by decide +kernel
theorem dX9_isFigure_9 : decode cX9_isFigure 9 = .ok (.if_icmp .gt 7, 3) := by decide +kernel
theorem dX9_isFigure_12 : decode cX9_isFigure 12 = .ok (.iconst 1, 1) := by decide +kernel
theorem dX9_isFigure_13 : decode cX9_isFigure 13 = .ok (.goto 4, 3) := by decide +kernel
theorem dX9_isFigure_16 : decode cX9_isFigure 16 = .ok (.iconst 0, 1) := by decide +kernel
theorem dX9_isFigure_17 : decode cX9_isFigure 17 = .ok (.ireturn, 1) := by decide +kernel
theorem dX10_init_0 : decode cX10_init 0 = .ok (.aload_n 0, 1) := by decide +kernel
theorem dX10_init_1 : decode cX10_init 1 = .ok (.invokespecial 3, 3) := by decide +kernel
theorem dX10_init_4 : decode cX10_init 4 = .ok (.aload_n 0, 1) := by decide +kernel
theorem dX10_init_5 : decode cX10_init 5 = .ok (.bipush 6, 2) := by decide +kernel
theorem dX10_init_7 : decode cX10_init 7 = .ok (.newarray .int, 2) := by decide +kernel
theorem dX10_init_9 : decode cX10_init 9 = .ok (.putfield 9, 3) := by decide +kernel
theorem dX10_init_12 : decode cX10_init 12 = .ok (.aload_n 0, 1) := by decide +kernel
theorem dX10_init_13 : decode cX10_init 13 = .ok (.bipush 6, 2) := by decide +kernel
theorem dX10_init_15 : decode cX10_init 15 = .ok (.newarray .int, 2) := by decide +kernel
theorem dX10_init_17 : decode cX10_init 17 = .ok (.putfield 15, 3) := by decide +kernel
theorem dX10_init_20 : decode cX10_init 20 = .ok (.aload_n 0, 1) := by decide +kernel
theorem dX10_init_21 : decode cX10_init 21 = .ok (.bipush 6, 2) := by decide +kernel
theorem dX10_init_23 : decode cX10_init 23 = .ok (.newarray .int, 2) := by decide +kernel
theorem dX10_init_25 : decode cX10_init 25 = .ok (.putfield 18, 3) := by decide +kernel
theorem dX10_init_28 : decode cX10_init 28 = .ok (.aload_n 0, 1) := by decide +kernel
theorem dX10_init_29 : decode cX10_init 29 = .ok (.bipush 8, 2) := by decide +kernel
theorem dX10_init_31 : decode cX10_init 31 = .ok (.anewarray 21, 3) := by decide +kernel
theorem dX10_init_34 : decode cX10_init 34 = .ok (.putfield 23, 3) := by decide +kernel
theorem dX10_init_37 : decode cX10_init 37 = .ok (.aload_n 0, 1) := by decide +kernel
theorem dX10_init_38 : decode cX10_init 38 = .ok (.new 21, 3) := by decide +kernel
theorem dX10_init_41 : decode cX10_init 41 = .ok (.dup, 1) := by decide +kernel
theorem dX10_init_42 : decode cX10_init 42 = .ok (.aload_n 1, 1) := by decide +kernel
theorem dX10_init_43 : decode cX10_init 43 = .ok (.invokespecial 27, 3) := by decide +kernel
theorem dX10_init_46 : decode cX10_init 46 = .ok (.putfield 30, 3) := by decide +kernel
theorem dX10_init_49 : decode cX10_init 49 = .ok (.iconst 0, 1) := by decide +kernel
theorem dX10_init_50 : decode cX10_init 50 = .ok (.istore_n 2, 1) := by decide +kernel
theorem dX10_init_51 : decode cX10_init 51 = .ok (.iload_n 2, 1) := by decide +kernel
theorem dX10_init_52 : decode cX10_init 52 = .ok (.bipush 8, 2) := by decide +kernel
theorem dX10_init_54 : decode cX10_init 54 = .ok (.if_icmp .ge 23, 3) := by decide +kernel
theorem dX10_init_57 : decode cX10_init 57 = .ok (.aload_n 0, 1) := by decide +kernel
theorem dX10_init_58 : decode cX10_init 58 = .ok (.getfield 23, 3) := by decide +kernel
theorem dX10_init_61 : decode cX10_init 61 = .ok (.iload_n 2, 1) := by decide +kernel
theorem dX10_init_62 : decode cX10_init 62 = .ok (.new 21, 3) := by decide +kernel
theorem dX10_init_65 : decode cX10_init 65 = .ok (.dup, 1) := by decide +kernel
theorem dX10_init_66 : decode cX10_init 66 = .ok (.aload_n 1, 1) := by decide +kernel
theorem dX10_init_67 : decode cX10_init 67 = .ok (.invokespecial 27, 3) := by decide +kernel
theorem dX10_init_70 : decode cX10_init 70 = .ok (.aastore, 1) := by decide +kernel
theorem dX10_init_71 : decode cX10_init 71 = .ok (.iinc 2 1, 3) := by decide +kernel
theorem dX10_init_74 : decode cX10_init 74 = .ok (.goto (-23), 3) := by decide +kernel
theorem dX10_init_77 : decode cX10_init 77 = .ok (.return_, 1) := by decide +kernel
theorem dX10_begin_0 : decode cX10_begin 0 = .ok (.aload_n 0, 1) := by decide +kernel
theorem dX10_begin_1 : decode cX10_begin 1 = .ok (.getfield 30, 3) := by decide +kernel
theorem dX10_begin_4 : decode cX10_begin 4 = .ok (.invokevirtual 34, 3) := by decide +kernel
theorem dX10_begin_7 : decode cX10_begin 7 = .ok (.aload_n 0, 1) := by decide +kernel
theorem dX10_begin_8 : decode cX10_begin 8 = .ok (.iconst 0, 1) := by decide +kernel
theorem dX10_begin_9 : decode cX10_begin 9 = .ok (.putfield 37, 3) := by decide +kernel
theorem dX10_begin_12 : decode cX10_begin 12 = .ok (.aload_n 0, 1) := by decide +kernel
theorem dX10_begin_13 : decode cX10_begin 13 = .ok (.iconst 0, 1) := by decide +kernel
theorem dX10_begin_14 : decode cX10_begin 14 = .ok (.putfield 41, 3) := by decide +kernel
theorem dX10_begin_17 : decode cX10_begin 17 = .ok (.aload_n 0, 1) := by decide +kernel
theorem dX10_begin_18 : decode cX10_begin 18 = .ok (.iconst 0, 1) := by decide +kernel
theorem dX10_begin_19 : decode cX10_begin 19 = .ok (.putfield 44, 3) := by decide +kernel
theorem dX10_begin_22 : decode cX10_begin 22 = .ok (.return_, 1) := by decide +kernel
theorem dX10_take_0 : decode cX10_take 0 = .ok (.aload_n 0, 1) := by decide +kernel
theorem dX10_take_1 : decode cX10_take 1 = .ok (.getfield 30, 3) := by decide +kernel
theorem dX10_take_4 : decode cX10_take 4 = .ok (.aload_n 1, 1) := by decide +kernel
theorem dX10_take_5 : decode cX10_take 5 = .ok (.getfield 30, 3) := by decide +kernel
theorem dX10_take_8 : decode cX10_take 8 = .ok (.invokevirtual 47, 3) := by decide +kernel
theorem dX10_take_11 : decode cX10_take 11 = .ok (.aload_n 1, 1) := by decide +kernel
theorem dX10_take_12 : decode cX10_take 12 = .ok (.getfield 9, 3) := by decide +kernel
theorem dX10_take_15 : decode cX10_take 15 = .ok (.iconst 0, 1) := by decide +kernel
theorem dX10_take_16 : decode cX10_take 16 = .ok (.aload_n 0, 1) := by decide +kernel
theorem dX10_take_17 : decode cX10_take 17 = .ok (.getfield 9, 3) := by decide +kernel
theorem dX10_take_20 : decode cX10_take 20 = .ok (.iconst 0, 1) := by decide +kernel
theorem dX10_take_21 : decode cX10_take 21 = .ok (.bipush 6, 2) := by decide +kernel
theorem dX10_take_23 : decode cX10_take 23 = .ok (.invokestatic 51, 3) := by decide +kernel
theorem dX10_take_26 : decode cX10_take 26 = .ok (.aload_n 1, 1) := by decide +kernel
theorem dX10_take_27 : decode cX10_take 27 = .ok (.getfield 15, 3) := by decide +kernel
theorem dX10_take_30 : decode cX10_take 30 = .ok (.iconst 0, 1) := by decide +kernel
theorem dX10_take_31 : decode cX10_take 31 = .ok (.aload_n 0, 1) := by decide +kernel
theorem dX10_take_32 : decode cX10_take 32 = .ok (.getfield 15, 3) := by decide +kernel
theorem dX10_take_35 : decode cX10_take 35 = .ok (.iconst 0, 1) := by decide +kernel
theorem dX10_take_36 : decode cX10_take 36 = .ok (.bipush 6, 2) := by decide +kernel
theorem dX10_take_38 : decode cX10_take 38 = .ok (.invokestatic 51, 3) := by decide +kernel
theorem dX10_take_41 : decode cX10_take 41 = .ok (.aload_n 1, 1) := by decide +kernel
theorem dX10_take_42 : decode cX10_take 42 = .ok (.getfield 18, 3) := by decide +kernel
theorem dX10_take_45 : decode cX10_take 45 = .ok (.iconst 0, 1) := by decide +kernel
theorem dX10_take_46 : decode cX10_take 46 = .ok (.aload_n 0, 1) := by decide +kernel
theorem dX10_take_47 : decode cX10_take 47 = .ok (.getfield 18, 3) := by decide +kernel
theorem dX10_take_50 : decode cX10_take 50 = .ok (.iconst 0, 1) := by decide +kernel
theorem dX10_take_51 : decode cX10_take 51 = .ok (.bipush 6, 2) := by decide +kernel
theorem dX10_take_53 : decode cX10_take 53 = .ok (.invokestatic 51, 3) := by decide +kernel
theorem dX10_take_56 : decode cX10_take 56 = .ok (.iconst 0, 1) := by decide +kernel
theorem dX10_take_57 : decode cX10_take 57 = .ok (.istore_n 2, 1) := by decide +kernel
theorem dX10_take_58 : decode cX10_take 58 = .ok (.iload_n 2, 1) := by decide +kernel
theorem dX10_take_59 : decode cX10_take 59 = .ok (.aload_n 1, 1) := by decide +kernel
theorem dX10_take_60 : decode cX10_take 60 = .ok (.getfield 44, 3) := by decide +kernel
theorem dX10_take_63 : decode cX10_take 63 = .ok (.if_icmp .ge 24, 3) := by decide +kernel
theorem dX10_take_66 : decode cX10_take 66 = .ok (.aload_n 0, 1) := by decide +kernel
theorem dX10_take_67 : decode cX10_take 67 = .ok (.getfield 23, 3) := by decide +kernel
theorem dX10_take_70 : decode cX10_take 70 = .ok (.iload_n 2, 1) := by decide +kernel
theorem dX10_take_71 : decode cX10_take 71 = .ok (.aaload, 1) := by decide +kernel
theorem dX10_take_72 : decode cX10_take 72 = .ok (.aload_n 1, 1) := by decide +kernel
theorem dX10_take_73 : decode cX10_take 73 = .ok (.getfield 23, 3) := by decide +kernel
theorem dX10_take_76 : decode cX10_take 76 = .ok (.iload_n 2, 1) := by decide +kernel
theorem dX10_take_77 : decode cX10_take 77 = .ok (.aaload, 1) := by decide +kernel
theorem dX10_take_78 : decode cX10_take 78 = .ok (.invokevirtual 47, 3) := by decide +kernel
theorem dX10_take_81 : decode cX10_take 81 = .ok (.iinc 2 1, 3) := by decide +kernel
theorem dX10_take_84 : decode cX10_take 84 = .ok (.goto (-26), 3) := by decide +kernel
theorem dX10_take_87 : decode cX10_take 87 = .ok (.aload_n 0, 1) := by decide +kernel
theorem dX10_take_88 : decode cX10_take 88 = .ok (.aload_n 1, 1) := by decide +kernel
theorem dX10_take_89 : decode cX10_take 89 = .ok (.getfield 37, 3) := by decide +kernel
theorem dX10_take_92 : decode cX10_take 92 = .ok (.putfield 37, 3) := by decide +kernel
theorem dX10_take_95 : decode cX10_take 95 = .ok (.aload_n 0, 1) := by decide +kernel
theorem dX10_take_96 : decode cX10_take 96 = .ok (.aload_n 1, 1) := by decide +kernel
theorem dX10_take_97 : decode cX10_take 97 = .ok (.getfield 41, 3) := by decide +kernel
theorem dX10_take_100 : decode cX10_take 100 = .ok (.putfield 41, 3) := by decide +kernel
theorem dX10_take_103 : decode cX10_take 103 = .ok (.aload_n 0, 1) := by decide +kernel
theorem dX10_take_104 : decode cX10_take 104 = .ok (.aload_n 1, 1) := by decide +kernel
theorem dX10_take_105 : decode cX10_take 105 = .ok (.getfield 44, 3) := by decide +kernel
theorem dX10_take_108 : decode cX10_take 108 = .ok (.putfield 44, 3) := by decide +kernel
theorem dX10_take_111 : decode cX10_take 111 = .ok (.return_, 1) := by decide +kernel
theorem dX10_isRock_0 : decode cX10_isRock 0 = .ok (.iconst 0, 1) := by decide +kernel
theorem dX10_isRock_1 : decode cX10_isRock 1 = .ok (.istore_n 2, 1) := by decide +kernel
theorem dX10_isRock_2 : decode cX10_isRock 2 = .ok (.iload_n 2, 1) := by decide +kernel
theorem dX10_isRock_3 : decode cX10_isRock 3 = .ok (.aload_n 0, 1) := by decide +kernel
theorem dX10_isRock_4 : decode cX10_isRock 4 = .ok (.getfield 37, 3) := by decide +kernel
theorem dX10_isRock_7 : decode cX10_isRock 7 = .ok (.if_icmp .ge 21, 3) := by decide +kernel
theorem dX10_isRock_10 : decode cX10_isRock 10 = .ok (.aload_n 0, 1) := by decide +kernel
theorem dX10_isRock_11 : decode cX10_isRock 11 = .ok (.getfield 9, 3) := by decide +kernel
theorem dX10_isRock_14 : decode cX10_isRock 14 = .ok (.iload_n 2, 1) := by decide +kernel
theorem dX10_isRock_15 : decode cX10_isRock 15 = .ok (.iaload, 1) := by decide +kernel
theorem dX10_isRock_16 : decode cX10_isRock 16 = .ok (.iload_n 1, 1) := by decide +kernel
theorem dX10_isRock_17 : decode cX10_isRock 17 = .ok (.if_icmp .ne 5, 3) := by decide +kernel
theorem dX10_isRock_20 : decode cX10_isRock 20 = .ok (.iconst 1, 1) := by decide +kernel
theorem dX10_isRock_21 : decode cX10_isRock 21 = .ok (.ireturn, 1) := by decide +kernel
theorem dX10_isRock_22 : decode cX10_isRock 22 = .ok (.iinc 2 1, 3) := by decide +kernel
theorem dX10_isRock_25 : decode cX10_isRock 25 = .ok (.goto (-23), 3) := by decide +kernel
theorem dX10_isRock_28 : decode cX10_isRock 28 = .ok (.iconst 0, 1) := by decide +kernel
theorem dX10_isRock_29 : decode cX10_isRock 29 = .ok (.ireturn, 1) := by decide +kernel
theorem dX10_addRock_0 : decode cX10_addRock 0 = .ok (.aload_n 0, 1) := by decide +kernel
theorem dX10_addRock_1 : decode cX10_addRock 1 = .ok (.getfield 37, 3) := by decide +kernel
theorem dX10_addRock_4 : decode cX10_addRock 4 = .ok (.bipush 6, 2) := by decide +kernel
theorem dX10_addRock_6 : decode cX10_addRock 6 = .ok (.if_icmp .ge 23, 3) := by decide +kernel
theorem dX10_addRock_9 : decode cX10_addRock 9 = .ok (.aload_n 0, 1) := by decide +kernel
theorem dX10_addRock_10 : decode cX10_addRock 10 = .ok (.getfield 9, 3) := by decide +kernel
theorem dX10_addRock_13 : decode cX10_addRock 13 = .ok (.aload_n 0, 1) := by decide +kernel
theorem dX10_addRock_14 : decode cX10_addRock 14 = .ok (.getfield 37, 3) := by decide +kernel
theorem dX10_addRock_17 : decode cX10_addRock 17 = .ok (.iload_n 1, 1) := by decide +kernel
theorem dX10_addRock_18 : decode cX10_addRock 18 = .ok (.iastore, 1) := by decide +kernel
theorem dX10_addRock_19 : decode cX10_addRock 19 = .ok (.aload_n 0, 1) := by decide +kernel
theorem dX10_addRock_20 : decode cX10_addRock 20 = .ok (.dup, 1) := by decide +kernel
theorem dX10_addRock_21 : decode cX10_addRock 21 = .ok (.getfield 37, 3) := by decide +kernel
theorem dX10_addRock_24 : decode cX10_addRock 24 = .ok (.iconst 1, 1) := by decide +kernel
theorem dX10_addRock_25 : decode cX10_addRock 25 = .ok (.iadd, 1) := by decide +kernel
theorem dX10_addRock_26 : decode cX10_addRock 26 = .ok (.putfield 37, 3) := by decide +kernel
theorem dX10_addRock_29 : decode cX10_addRock 29 = .ok (.return_, 1) := by decide +kernel
theorem dX10_addHand_0 : decode cX10_addHand 0 = .ok (.aload_n 0, 1) := by decide +kernel
theorem dX10_addHand_1 : decode cX10_addHand 1 = .ok (.getfield 30, 3) := by decide +kernel
theorem dX10_addHand_4 : decode cX10_addHand 4 = .ok (.getfield 57, 3) := by decide +kernel
theorem dX10_addHand_7 : decode cX10_addHand 7 = .ok (.istore 4, 2) := by decide +kernel
theorem dX10_addHand_9 : decode cX10_addHand 9 = .ok (.iload 4, 2) := by decide +kernel
theorem dX10_addHand_11 : decode cX10_addHand 11 = .ok (.bipush 6, 2) := by decide +kernel
theorem dX10_addHand_13 : decode cX10_addHand 13 = .ok (.if_icmp .ge 54, 3) := by decide +kernel
theorem dX10_addHand_16 : decode cX10_addHand 16 = .ok (.aload_n 0, 1) := by decide +kernel
theorem dX10_addHand_17 : decode cX10_addHand 17 = .ok (.getfield 30, 3) := by decide +kernel
theorem dX10_addHand_20 : decode cX10_addHand 20 = .ok (.getfield 60, 3) := by decide +kernel
theorem dX10_addHand_23 : decode cX10_addHand 23 = .ok (.iload 4, 2) := by decide +kernel
theorem dX10_addHand_25 : decode cX10_addHand 25 = .ok (.iload_n 1, 1) := by decide +kernel
theorem dX10_addHand_26 : decode cX10_addHand 26 = .ok (.iastore, 1) := by decide +kernel
theorem dX10_addHand_27 : decode cX10_addHand 27 = .ok (.aload_n 0, 1) := by decide +kernel
theorem dX10_addHand_28 : decode cX10_addHand 28 = .ok (.getfield 30, 3) := by decide +kernel
theorem dX10_addHand_31 : decode cX10_addHand 31 = .ok (.getfield 63, 3) := by decide +kernel
theorem dX10_addHand_34 : decode cX10_addHand 34 = .ok (.iload 4, 2) := by decide +kernel
theorem dX10_addHand_36 : decode cX10_addHand 36 = .ok (.iload_n 2, 1) := by decide +kernel
theorem dX10_addHand_37 : decode cX10_addHand 37 = .ok (.iastore, 1) := by decide +kernel
theorem dX10_addHand_38 : decode cX10_addHand 38 = .ok (.aload_n 0, 1) := by decide +kernel
theorem dX10_addHand_39 : decode cX10_addHand 39 = .ok (.getfield 30, 3) := by decide +kernel
theorem dX10_addHand_42 : decode cX10_addHand 42 = .ok (.getfield 66, 3) := by decide +kernel
theorem dX10_addHand_45 : decode cX10_addHand 45 = .ok (.iload 4, 2) := by decide +kernel
theorem dX10_addHand_47 : decode cX10_addHand 47 = .ok (.iload_n 3, 1) := by decide +kernel
theorem dX10_addHand_48 : decode cX10_addHand 48 = .ok (.iastore, 1) := by decide +kernel
theorem dX10_addHand_49 : decode cX10_addHand 49 = .ok (.aload_n 0, 1) := by decide +kernel
theorem dX10_addHand_50 : decode cX10_addHand 50 = .ok (.getfield 30, 3) := by decide +kernel
theorem dX10_addHand_53 : decode cX10_addHand 53 = .ok (.dup, 1) := by decide +kernel
theorem dX10_addHand_54 : decode cX10_addHand 54 = .ok (.getfield 57, 3) := by decide +kernel
theorem dX10_addHand_57 : decode cX10_addHand 57 = .ok (.iconst 1, 1) := by decide +kernel
theorem dX10_addHand_58 : decode cX10_addHand 58 = .ok (.iadd, 1) := by decide +kernel
theorem dX10_addHand_59 : decode cX10_addHand 59 = .ok (.putfield 57, 3) := by decide +kernel
theorem dX10_addHand_62 : decode cX10_addHand 62 = .ok (.aload_n 0, 1) := by decide +kernel
theorem dX10_addHand_63 : decode cX10_addHand 63 = .ok (.iconst 0, 1) := by decide +kernel
theorem dX10_addHand_64 : decode cX10_addHand 64 = .ok (.putfield 44, 3) := by decide +kernel
theorem dX10_addHand_67 : decode cX10_addHand 67 = .ok (.return_, 1) := by decide +kernel
theorem dX10_addSight_0 : decode cX10_addSight 0 = .ok (.aload_n 0, 1) := by decide +kernel
theorem dX10_addSight_1 : decode cX10_addSight 1 = .ok (.getfield 41, 3) := by decide +kernel
theorem dX10_addSight_4 : decode cX10_addSight 4 = .ok (.bipush 6, 2) := by decide +kernel
theorem dX10_addSight_6 : decode cX10_addSight 6 = .ok (.if_icmp .ge 33, 3) := by decide +kernel
theorem dX10_addSight_9 : decode cX10_addSight 9 = .ok (.aload_n 0, 1) := by decide +kernel
theorem dX10_addSight_10 : decode cX10_addSight 10 = .ok (.getfield 15, 3) := by decide +kernel
theorem dX10_addSight_13 : decode cX10_addSight 13 = .ok (.aload_n 0, 1) := by decide +kernel
theorem dX10_addSight_14 : decode cX10_addSight 14 = .ok (.getfield 41, 3) := by decide +kernel
theorem dX10_addSight_17 : decode cX10_addSight 17 = .ok (.iload_n 1, 1) := by decide +kernel
theorem dX10_addSight_18 : decode cX10_addSight 18 = .ok (.iastore, 1) := by decide +kernel
theorem dX10_addSight_19 : decode cX10_addSight 19 = .ok (.aload_n 0, 1) := by decide +kernel
theorem dX10_addSight_20 : decode cX10_addSight 20 = .ok (.getfield 18, 3) := by decide +kernel
theorem dX10_addSight_23 : decode cX10_addSight 23 = .ok (.aload_n 0, 1) := by decide +kernel
theorem dX10_addSight_24 : decode cX10_addSight 24 = .ok (.getfield 41, 3) := by decide +kernel
theorem dX10_addSight_27 : decode cX10_addSight 27 = .ok (.iload_n 2, 1) := by decide +kernel
theorem dX10_addSight_28 : decode cX10_addSight 28 = .ok (.iastore, 1) := by decide +kernel
theorem dX10_addSight_29 : decode cX10_addSight 29 = .ok (.aload_n 0, 1) := by decide +kernel
theorem dX10_addSight_30 : decode cX10_addSight 30 = .ok (.dup, 1) := by decide +kernel
theorem dX10_addSight_31 : decode cX10_addSight 31 = .ok (.getfield 41, 3) := by decide +kernel
theorem dX10_addSight_34 : decode cX10_addSight 34 = .ok (.iconst 1, 1) := by decide +kernel
theorem dX10_addSight_35 : decode cX10_addSight 35 = .ok (.iadd, 1) := by decide +kernel
theorem dX10_addSight_36 : decode cX10_addSight 36 = .ok (.putfield 41, 3) := by decide +kernel
theorem dX10_addSight_39 : decode cX10_addSight 39 = .ok (.return_, 1) := by decide +kernel
theorem dX10_remember_0 : decode cX10_remember 0 = .ok (.aload_n 0, 1) := by decide +kernel
theorem dX10_remember_1 : decode cX10_remember 1 = .ok (.getfield 44, 3) := by decide +kernel
theorem dX10_remember_4 : decode cX10_remember 4 = .ok (.bipush 8, 2) := by decide +kernel
theorem dX10_remember_6 : decode cX10_remember 6 = .ok (.if_icmp .ne 56, 3) := by decide +kernel
theorem dX10_remember_9 : decode cX10_remember 9 = .ok (.aload_n 0, 1) := by decide +kernel
theorem dX10_remember_10 : decode cX10_remember 10 = .ok (.getfield 23, 3) := by decide +kernel
theorem dX10_remember_13 : decode cX10_remember 13 = .ok (.iconst 0, 1) := by decide +kernel
theorem dX10_remember_14 : decode cX10_remember 14 = .ok (.aaload, 1) := by decide +kernel
theorem dX10_remember_15 : decode cX10_remember 15 = .ok (.astore_n 1, 1) := by decide +kernel
theorem dX10_remember_16 : decode cX10_remember 16 = .ok (.iconst 1, 1) := by decide +kernel
theorem dX10_remember_17 : decode cX10_remember 17 = .ok (.istore_n 2, 1) := by decide +kernel
theorem dX10_remember_18 : decode cX10_remember 18 = .ok (.iload_n 2, 1) := by decide +kernel
theorem dX10_remember_19 : decode cX10_remember 19 = .ok (.bipush 8, 2) := by decide +kernel
theorem dX10_remember_21 : decode cX10_remember 21 = .ok (.if_icmp .ge 23, 3) := by decide +kernel
theorem dX10_remember_24 : decode cX10_remember 24 = .ok (.aload_n 0, 1) := by decide +kernel
theorem dX10_remember_25 : decode cX10_remember 25 = .ok (.getfield 23, 3) := by decide +kernel
theorem dX10_remember_28 : decode cX10_remember 28 = .ok (.iload_n 2, 1) := by decide +kernel
theorem dX10_remember_29 : decode cX10_remember 29 = .ok (.iconst 1, 1) := by decide +kernel
theorem dX10_remember_30 : decode cX10_remember 30 = .ok (.isub, 1) := by decide +kernel
theorem dX10_remember_31 : decode cX10_remember 31 = .ok (.aload_n 0, 1) := by decide +kernel
theorem dX10_remember_32 : decode cX10_remember 32 = .ok (.getfield 23, 3) := by decide +kernel
theorem dX10_remember_35 : decode cX10_remember 35 = .ok (.iload_n 2, 1) := by decide +kernel
theorem dX10_remember_36 : decode cX10_remember 36 = .ok (.aaload, 1) := by decide +kernel
theorem dX10_remember_37 : decode cX10_remember 37 = .ok (.aastore, 1) := by decide +kernel
theorem dX10_remember_38 : decode cX10_remember 38 = .ok (.iinc 2 1, 3) := by decide +kernel
theorem dX10_remember_41 : decode cX10_remember 41 = .ok (.goto (-23), 3) := by decide +kernel
theorem dX10_remember_44 : decode cX10_remember 44 = .ok (.aload_n 0, 1) := by decide +kernel
theorem dX10_remember_45 : decode cX10_remember 45 = .ok (.getfield 23, 3) := by decide +kernel
theorem dX10_remember_48 : decode cX10_remember 48 = .ok (.bipush 7, 2) := by decide +kernel
theorem dX10_remember_50 : decode cX10_remember 50 = .ok (.aload_n 1, 1) := by decide +kernel
theorem dX10_remember_51 : decode cX10_remember 51 = .ok (.aastore, 1) := by decide +kernel
theorem dX10_remember_52 : decode cX10_remember 52 = .ok (.aload_n 0, 1) := by decide +kernel
theorem dX10_remember_53 : decode cX10_remember 53 = .ok (.dup, 1) := by decide +kernel
theorem dX10_remember_54 : decode cX10_remember 54 = .ok (.getfield 44, 3) := by decide +kernel
theorem dX10_remember_57 : decode cX10_remember 57 = .ok (.iconst 1, 1) := by decide +kernel
theorem dX10_remember_58 : decode cX10_remember 58 = .ok (.isub, 1) := by decide +kernel
theorem dX10_remember_59 : decode cX10_remember 59 = .ok (.putfield 44, 3) := by decide +kernel
theorem dX10_remember_62 : decode cX10_remember 62 = .ok (.aload_n 0, 1) := by decide +kernel
theorem dX10_remember_63 : decode cX10_remember 63 = .ok (.getfield 23, 3) := by decide +kernel
theorem dX10_remember_66 : decode cX10_remember 66 = .ok (.aload_n 0, 1) := by decide +kernel
theorem dX10_remember_67 : decode cX10_remember 67 = .ok (.getfield 44, 3) := by decide +kernel
theorem dX10_remember_70 : decode cX10_remember 70 = .ok (.aaload, 1) := by decide +kernel
theorem dX10_remember_71 : decode cX10_remember 71 = .ok (.aload_n 0, 1) := by decide +kernel
theorem dX10_remember_72 : decode cX10_remember 72 = .ok (.getfield 30, 3) := by decide +kernel
theorem dX10_remember_75 : decode cX10_remember 75 = .ok (.invokevirtual 47, 3) := by decide +kernel
theorem dX10_remember_78 : decode cX10_remember 78 = .ok (.aload_n 0, 1) := by decide +kernel
theorem dX10_remember_79 : decode cX10_remember 79 = .ok (.dup, 1) := by decide +kernel
theorem dX10_remember_80 : decode cX10_remember 80 = .ok (.getfield 44, 3) := by decide +kernel
theorem dX10_remember_83 : decode cX10_remember 83 = .ok (.iconst 1, 1) := by decide +kernel
theorem dX10_remember_84 : decode cX10_remember 84 = .ok (.iadd, 1) := by decide +kernel
theorem dX10_remember_85 : decode cX10_remember 85 = .ok (.putfield 44, 3) := by decide +kernel
theorem dX10_remember_88 : decode cX10_remember 88 = .ok (.return_, 1) := by decide +kernel
theorem dX10_goBack_0 : decode cX10_goBack 0 = .ok (.aload_n 0, 1) := by decide +kernel
theorem dX10_goBack_1 : decode cX10_goBack 1 = .ok (.getfield 44, 3) := by decide +kernel
theorem dX10_goBack_4 : decode cX10_goBack 4 = .ok (.ifCond .ne 5, 3) := by decide +kernel
theorem dX10_goBack_7 : decode cX10_goBack 7 = .ok (.iconst 0, 1) := by decide +kernel
theorem dX10_goBack_8 : decode cX10_goBack 8 = .ok (.ireturn, 1) := by decide +kernel
theorem dX10_goBack_9 : decode cX10_goBack 9 = .ok (.aload_n 0, 1) := by decide +kernel
theorem dX10_goBack_10 : decode cX10_goBack 10 = .ok (.dup, 1) := by decide +kernel
theorem dX10_goBack_11 : decode cX10_goBack 11 = .ok (.getfield 44, 3) := by decide +kernel
theorem dX10_goBack_14 : decode cX10_goBack 14 = .ok (.iconst 1, 1) := by decide +kernel
theorem dX10_goBack_15 : decode cX10_goBack 15 = .ok (.isub, 1) := by decide +kernel
theorem dX10_goBack_16 : decode cX10_goBack 16 = .ok (.putfield 44, 3) := by decide +kernel
theorem dX10_goBack_19 : decode cX10_goBack 19 = .ok (.aload_n 0, 1) := by decide +kernel
theorem dX10_goBack_20 : decode cX10_goBack 20 = .ok (.getfield 30, 3) := by decide +kernel
theorem dX10_goBack_23 : decode cX10_goBack 23 = .ok (.aload_n 0, 1) := by decide +kernel
theorem dX10_goBack_24 : decode cX10_goBack 24 = .ok (.getfield 23, 3) := by decide +kernel
theorem dX10_goBack_27 : decode cX10_goBack 27 = .ok (.aload_n 0, 1) := by decide +kernel
theorem dX10_goBack_28 : decode cX10_goBack 28 = .ok (.getfield 44, 3) := by decide +kernel
theorem dX10_goBack_31 : decode cX10_goBack 31 = .ok (.aaload, 1) := by decide +kernel
theorem dX10_goBack_32 : decode cX10_goBack 32 = .ok (.invokevirtual 47, 3) := by decide +kernel
theorem dX10_goBack_35 : decode cX10_goBack 35 = .ok (.iconst 1, 1) := by decide +kernel
theorem dX10_goBack_36 : decode cX10_goBack 36 = .ok (.ireturn, 1) := by decide +kernel
theorem dX10_digestOnto_0 : decode cX10_digestOnto 0 = .ok (.ldc2_w 69, 3) := by decide +kernel
theorem dX10_digestOnto_3 : decode cX10_digestOnto 3 = .ok (.lload_n 1, 1) := by decide +kernel
theorem dX10_digestOnto_4 : decode cX10_digestOnto 4 = .ok (.lmul, 1) := by decide +kernel
theorem dX10_digestOnto_5 : decode cX10_digestOnto 5 = .ok (.aload_n 0, 1) := by decide +kernel
theorem dX10_digestOnto_6 : decode cX10_digestOnto 6 = .ok (.getfield 30, 3) := by decide +kernel
theorem dX10_digestOnto_9 : decode cX10_digestOnto 9 = .ok (.getfield 71, 3) := by decide +kernel
theorem dX10_digestOnto_12 : decode cX10_digestOnto 12 = .ok (.i2l, 1) := by decide +kernel
theorem dX10_digestOnto_13 : decode cX10_digestOnto 13 = .ok (.ladd, 1) := by decide +kernel
theorem dX10_digestOnto_14 : decode cX10_digestOnto 14 = .ok (.lstore_n 3, 1) := by decide +kernel
theorem dX10_digestOnto_15 : decode cX10_digestOnto 15 = .ok (.iconst 0, 1) := by decide +kernel
theorem dX10_digestOnto_16 : decode cX10_digestOnto 16 = .ok (.istore 5, 2) := by decide +kernel
theorem dX10_digestOnto_18 : decode cX10_digestOnto 18 = .ok (.iload 5, 2) := by decide +kernel
theorem dX10_digestOnto_20 : decode cX10_digestOnto 20 = .ok (.aload_n 0, 1) := by decide +kernel
theorem dX10_digestOnto_21 : decode cX10_digestOnto 21 = .ok (.getfield 30, 3) := by decide +kernel
theorem dX10_digestOnto_24 : decode cX10_digestOnto 24 = .ok (.getfield 57, 3) := by decide +kernel
theorem dX10_digestOnto_27 : decode cX10_digestOnto 27 = .ok (.if_icmp .ge 91, 3) := by decide +kernel
theorem dX10_digestOnto_30 : decode cX10_digestOnto 30 = .ok (.ldc2_w 69, 3) := by decide +kernel
theorem dX10_digestOnto_33 : decode cX10_digestOnto 33 = .ok (.lload_n 3, 1) := by decide +kernel
theorem dX10_digestOnto_34 : decode cX10_digestOnto 34 = .ok (.lmul, 1) := by decide +kernel
theorem dX10_digestOnto_35 : decode cX10_digestOnto 35 = .ok (.aload_n 0, 1) := by decide +kernel
theorem dX10_digestOnto_36 : decode cX10_digestOnto 36 = .ok (.getfield 30, 3) := by decide +kernel
theorem dX10_digestOnto_39 : decode cX10_digestOnto 39 = .ok (.getfield 60, 3) := by decide +kernel
theorem dX10_digestOnto_42 : decode cX10_digestOnto 42 = .ok (.iload 5, 2) := by decide +kernel
theorem dX10_digestOnto_44 : decode cX10_digestOnto 44 = .ok (.iaload, 1) := by decide +kernel
theorem dX10_digestOnto_45 : decode cX10_digestOnto 45 = .ok (.i2l, 1) := by decide +kernel
theorem dX10_digestOnto_46 : decode cX10_digestOnto 46 = .ok (.ladd, 1) := by decide +kernel
theorem dX10_digestOnto_47 : decode cX10_digestOnto 47 = .ok (.lstore_n 3, 1) := by decide +kernel
theorem dX10_digestOnto_48 : decode cX10_digestOnto 48 = .ok (.ldc2_w 69, 3) := by decide +kernel
theorem dX10_digestOnto_51 : decode cX10_digestOnto 51 = .ok (.lload_n 3, 1) := by decide +kernel
theorem dX10_digestOnto_52 : decode cX10_digestOnto 52 = .ok (.lmul, 1) := by decide +kernel
theorem dX10_digestOnto_53 : decode cX10_digestOnto 53 = .ok (.aload_n 0, 1) := by decide +kernel
theorem dX10_digestOnto_54 : decode cX10_digestOnto 54 = .ok (.getfield 30, 3) := by decide +kernel
theorem dX10_digestOnto_57 : decode cX10_digestOnto 57 = .ok (.getfield 63, 3) := by decide +kernel
theorem dX10_digestOnto_60 : decode cX10_digestOnto 60 = .ok (.iload 5, 2) := by decide +kernel
theorem dX10_digestOnto_62 : decode cX10_digestOnto 62 = .ok (.iaload, 1) := by decide +kernel
theorem dX10_digestOnto_63 : decode cX10_digestOnto 63 = .ok (.i2l, 1) := by decide +kernel
theorem dX10_digestOnto_64 : decode cX10_digestOnto 64 = .ok (.ladd, 1) := by decide +kernel
theorem dX10_digestOnto_65 : decode cX10_digestOnto 65 = .ok (.lstore_n 3, 1) := by decide +kernel
theorem dX10_digestOnto_66 : decode cX10_digestOnto 66 = .ok (.ldc2_w 69, 3) := by decide +kernel
theorem dX10_digestOnto_69 : decode cX10_digestOnto 69 = .ok (.lload_n 3, 1) := by decide +kernel
theorem dX10_digestOnto_70 : decode cX10_digestOnto 70 = .ok (.lmul, 1) := by decide +kernel
theorem dX10_digestOnto_71 : decode cX10_digestOnto 71 = .ok (.aload_n 0, 1) := by decide +kernel
theorem dX10_digestOnto_72 : decode cX10_digestOnto 72 = .ok (.getfield 30, 3) := by decide +kernel
theorem dX10_digestOnto_75 : decode cX10_digestOnto 75 = .ok (.getfield 66, 3) := by decide +kernel
theorem dX10_digestOnto_78 : decode cX10_digestOnto 78 = .ok (.iload 5, 2) := by decide +kernel
theorem dX10_digestOnto_80 : decode cX10_digestOnto 80 = .ok (.iaload, 1) := by decide +kernel
theorem dX10_digestOnto_81 : decode cX10_digestOnto 81 = .ok (.i2l, 1) := by decide +kernel
theorem dX10_digestOnto_82 : decode cX10_digestOnto 82 = .ok (.ladd, 1) := by decide +kernel
theorem dX10_digestOnto_83 : decode cX10_digestOnto 83 = .ok (.lstore_n 3, 1) := by decide +kernel
theorem dX10_digestOnto_84 : decode cX10_digestOnto 84 = .ok (.ldc2_w 69, 3) := by decide +kernel
theorem dX10_digestOnto_87 : decode cX10_digestOnto 87 = .ok (.lload_n 3, 1) := by decide +kernel
theorem dX10_digestOnto_88 : decode cX10_digestOnto 88 = .ok (.lmul, 1) := by decide +kernel
theorem dX10_digestOnto_89 : decode cX10_digestOnto 89 = .ok (.aload_n 0, 1) := by decide +kernel
theorem dX10_digestOnto_90 : decode cX10_digestOnto 90 = .ok (.getfield 30, 3) := by decide +kernel
theorem dX10_digestOnto_93 : decode cX10_digestOnto 93 = .ok (.getfield 74, 3) := by decide +kernel
theorem dX10_digestOnto_96 : decode cX10_digestOnto 96 = .ok (.iload 5, 2) := by decide +kernel
theorem dX10_digestOnto_98 : decode cX10_digestOnto 98 = .ok (.invokestatic 77, 3) := by decide +kernel
theorem dX10_digestOnto_101 : decode cX10_digestOnto 101 = .ok (.ifCond .eq 7, 3) := by decide +kernel
theorem dX10_digestOnto_104 : decode cX10_digestOnto 104 = .ok (.iconst 1, 1) := by decide +kernel
theorem dX10_digestOnto_105 : decode cX10_digestOnto 105 = .ok (.goto 4, 3) := by decide +kernel
theorem dX10_digestOnto_108 : decode cX10_digestOnto 108 = .ok (.iconst 0, 1) := by decide +kernel
theorem dX10_digestOnto_109 : decode cX10_digestOnto 109 = .ok (.i2l, 1) := by decide +kernel
theorem dX10_digestOnto_110 : decode cX10_digestOnto 110 = .ok (.ladd, 1) := by decide +kernel
theorem dX10_digestOnto_111 : decode cX10_digestOnto 111 = .ok (.lstore_n 3, 1) := by decide +kernel
theorem dX10_digestOnto_112 : decode cX10_digestOnto 112 = .ok (.iinc 5 1, 3) := by decide +kernel
theorem dX10_digestOnto_115 : decode cX10_digestOnto 115 = .ok (.goto (-97), 3) := by decide +kernel
theorem dX10_digestOnto_118 : decode cX10_digestOnto 118 = .ok (.iconst 0, 1) := by decide +kernel
theorem dX10_digestOnto_119 : decode cX10_digestOnto 119 = .ok (.istore 5, 2) := by decide +kernel
theorem dX10_digestOnto_121 : decode cX10_digestOnto 121 = .ok (.iload 5, 2) := by decide +kernel
theorem dX10_digestOnto_123 : decode cX10_digestOnto 123 = .ok (.aload_n 0, 1) := by decide +kernel
theorem dX10_digestOnto_124 : decode cX10_digestOnto 124 = .ok (.getfield 37, 3) := by decide +kernel
theorem dX10_digestOnto_127 : decode cX10_digestOnto 127 = .ok (.if_icmp .ge 24, 3) := by decide +kernel
theorem dX10_digestOnto_130 : decode cX10_digestOnto 130 = .ok (.ldc2_w 69, 3) := by decide +kernel
theorem dX10_digestOnto_133 : decode cX10_digestOnto 133 = .ok (.lload_n 3, 1) := by decide +kernel
theorem dX10_digestOnto_134 : decode cX10_digestOnto 134 = .ok (.lmul, 1) := by decide +kernel
theorem dX10_digestOnto_135 : decode cX10_digestOnto 135 = .ok (.aload_n 0, 1) := by decide +kernel
theorem dX10_digestOnto_136 : decode cX10_digestOnto 136 = .ok (.getfield 9, 3) := by decide +kernel
theorem dX10_digestOnto_139 : decode cX10_digestOnto 139 = .ok (.iload 5, 2) := by decide +kernel
theorem dX10_digestOnto_141 : decode cX10_digestOnto 141 = .ok (.iaload, 1) := by decide +kernel
theorem dX10_digestOnto_142 : decode cX10_digestOnto 142 = .ok (.i2l, 1) := by decide +kernel
theorem dX10_digestOnto_143 : decode cX10_digestOnto 143 = .ok (.ladd, 1) := by decide +kernel
theorem dX10_digestOnto_144 : decode cX10_digestOnto 144 = .ok (.lstore_n 3, 1) := by decide +kernel
theorem dX10_digestOnto_145 : decode cX10_digestOnto 145 = .ok (.iinc 5 1, 3) := by decide +kernel
theorem dX10_digestOnto_148 : decode cX10_digestOnto 148 = .ok (.goto (-27), 3) := by decide +kernel
theorem dX10_digestOnto_151 : decode cX10_digestOnto 151 = .ok (.iconst 0, 1) := by decide +kernel
theorem dX10_digestOnto_152 : decode cX10_digestOnto 152 = .ok (.istore 5, 2) := by decide +kernel
theorem dX10_digestOnto_154 : decode cX10_digestOnto 154 = .ok (.iload 5, 2) := by decide +kernel
theorem dX10_digestOnto_156 : decode cX10_digestOnto 156 = .ok (.aload_n 0, 1) := by decide +kernel
theorem dX10_digestOnto_157 : decode cX10_digestOnto 157 = .ok (.getfield 41, 3) := by decide +kernel
theorem dX10_digestOnto_160 : decode cX10_digestOnto 160 = .ok (.if_icmp .ge 39, 3) := by decide +kernel
theorem dX10_digestOnto_163 : decode cX10_digestOnto 163 = .ok (.ldc2_w 69, 3) := by decide +kernel
theorem dX10_digestOnto_166 : decode cX10_digestOnto 166 = .ok (.lload_n 3, 1) := by decide +kernel
theorem dX10_digestOnto_167 : decode cX10_digestOnto 167 = .ok (.lmul, 1) := by decide +kernel
theorem dX10_digestOnto_168 : decode cX10_digestOnto 168 = .ok (.aload_n 0, 1) := by decide +kernel
theorem dX10_digestOnto_169 : decode cX10_digestOnto 169 = .ok (.getfield 15, 3) := by decide +kernel
theorem dX10_digestOnto_172 : decode cX10_digestOnto 172 = .ok (.iload 5, 2) := by decide +kernel
theorem dX10_digestOnto_174 : decode cX10_digestOnto 174 = .ok (.iaload, 1) := by decide +kernel
theorem dX10_digestOnto_175 : decode cX10_digestOnto 175 = .ok (.i2l, 1) := by decide +kernel
theorem dX10_digestOnto_176 : decode cX10_digestOnto 176 = .ok (.ladd, 1) := by decide +kernel
theorem dX10_digestOnto_177 : decode cX10_digestOnto 177 = .ok (.lstore_n 3, 1) := by decide +kernel
theorem dX10_digestOnto_178 : decode cX10_digestOnto 178 = .ok (.ldc2_w 69, 3) := by decide +kernel
theorem dX10_digestOnto_181 : decode cX10_digestOnto 181 = .ok (.lload_n 3, 1) := by decide +kernel
theorem dX10_digestOnto_182 : decode cX10_digestOnto 182 = .ok (.lmul, 1) := by decide +kernel
theorem dX10_digestOnto_183 : decode cX10_digestOnto 183 = .ok (.aload_n 0, 1) := by decide +kernel
theorem dX10_digestOnto_184 : decode cX10_digestOnto 184 = .ok (.getfield 18, 3) := by decide +kernel
theorem dX10_digestOnto_187 : decode cX10_digestOnto 187 = .ok (.iload 5, 2) := by decide +kernel
theorem dX10_digestOnto_189 : decode cX10_digestOnto 189 = .ok (.iaload, 1) := by decide +kernel
theorem dX10_digestOnto_190 : decode cX10_digestOnto 190 = .ok (.i2l, 1) := by decide +kernel
theorem dX10_digestOnto_191 : decode cX10_digestOnto 191 = .ok (.ladd, 1) := by decide +kernel
theorem dX10_digestOnto_192 : decode cX10_digestOnto 192 = .ok (.lstore_n 3, 1) := by decide +kernel
theorem dX10_digestOnto_193 : decode cX10_digestOnto 193 = .ok (.iinc 5 1, 3) := by decide +kernel
theorem dX10_digestOnto_196 : decode cX10_digestOnto 196 = .ok (.goto (-42), 3) := by decide +kernel
theorem dX10_digestOnto_199 : decode cX10_digestOnto 199 = .ok (.lload_n 3, 1) := by decide +kernel
theorem dX10_digestOnto_200 : decode cX10_digestOnto 200 = .ok (.lreturn, 1) := by decide +kernel
theorem dX11_init_0 : decode cX11_init 0 = .ok (.aload_n 0, 1) := by decide +kernel
theorem dX11_init_1 : decode cX11_init 1 = .ok (.invokespecial 1, 3) := by decide +kernel
theorem dX11_init_4 : decode cX11_init 4 = .ok (.bipush 6, 2) := by decide +kernel
theorem dX11_init_6 : decode cX11_init 6 = .ok (.anewarray 9, 3) := by decide +kernel
theorem dX11_init_9 : decode cX11_init 9 = .ok (.astore_n 1, 1) := by decide +kernel
theorem dX11_init_10 : decode cX11_init 10 = .ok (.aload_n 1, 1) := by decide +kernel
theorem dX11_init_11 : decode cX11_init 11 = .ok (.iconst 0, 1) := by decide +kernel
theorem dX11_init_12 : decode cX11_init 12 = .ok (.new 9, 3) := by decide +kernel
theorem dX11_init_15 : decode cX11_init 15 = .ok (.dup, 1) := by decide +kernel
theorem dX11_init_16 : decode cX11_init 16 = .ok (.invokespecial 11, 3) := by decide +kernel
theorem dX11_init_19 : decode cX11_init 19 = .ok (.aastore, 1) := by decide +kernel
theorem dX11_init_20 : decode cX11_init 20 = .ok (.aload_n 1, 1) := by decide +kernel
theorem dX11_init_21 : decode cX11_init 21 = .ok (.iconst 1, 1) := by decide +kernel
theorem dX11_init_22 : decode cX11_init 22 = .ok (.new 12, 3) := by decide +kernel
theorem dX11_init_25 : decode cX11_init 25 = .ok (.dup, 1) := by decide +kernel
theorem dX11_init_26 : decode cX11_init 26 = .ok (.invokespecial 14, 3) := by decide +kernel
theorem dX11_init_29 : decode cX11_init 29 = .ok (.aastore, 1) := by decide +kernel
theorem dX11_init_30 : decode cX11_init 30 = .ok (.aload_n 1, 1) := by decide +kernel
theorem dX11_init_31 : decode cX11_init 31 = .ok (.iconst 2, 1) := by decide +kernel
theorem dX11_init_32 : decode cX11_init 32 = .ok (.new 15, 3) := by decide +kernel
theorem dX11_init_35 : decode cX11_init 35 = .ok (.dup, 1) := by decide +kernel
theorem dX11_init_36 : decode cX11_init 36 = .ok (.invokespecial 17, 3) := by decide +kernel
theorem dX11_init_39 : decode cX11_init 39 = .ok (.aastore, 1) := by decide +kernel
theorem dX11_init_40 : decode cX11_init 40 = .ok (.aload_n 1, 1) := by decide +kernel
theorem dX11_init_41 : decode cX11_init 41 = .ok (.iconst 3, 1) := by decide +kernel
theorem dX11_init_42 : decode cX11_init 42 = .ok (.new 18, 3) := by decide +kernel
theorem dX11_init_45 : decode cX11_init 45 = .ok (.dup, 1) := by decide +kernel
theorem dX11_init_46 : decode cX11_init 46 = .ok (.invokespecial 20, 3) := by decide +kernel
theorem dX11_init_49 : decode cX11_init 49 = .ok (.aastore, 1) := by decide +kernel
theorem dX11_init_50 : decode cX11_init 50 = .ok (.aload_n 1, 1) := by decide +kernel
theorem dX11_init_51 : decode cX11_init 51 = .ok (.iconst 4, 1) := by decide +kernel
theorem dX11_init_52 : decode cX11_init 52 = .ok (.new 21, 3) := by decide +kernel
theorem dX11_init_55 : decode cX11_init 55 = .ok (.dup, 1) := by decide +kernel
theorem dX11_init_56 : decode cX11_init 56 = .ok (.invokespecial 23, 3) := by decide +kernel
theorem dX11_init_59 : decode cX11_init 59 = .ok (.aastore, 1) := by decide +kernel
theorem dX11_init_60 : decode cX11_init 60 = .ok (.aload_n 1, 1) := by decide +kernel
theorem dX11_init_61 : decode cX11_init 61 = .ok (.iconst 5, 1) := by decide +kernel
theorem dX11_init_62 : decode cX11_init 62 = .ok (.new 24, 3) := by decide +kernel
theorem dX11_init_65 : decode cX11_init 65 = .ok (.dup, 1) := by decide +kernel
theorem dX11_init_66 : decode cX11_init 66 = .ok (.invokespecial 26, 3) := by decide +kernel
theorem dX11_init_69 : decode cX11_init 69 = .ok (.aastore, 1) := by decide +kernel
theorem dX11_init_70 : decode cX11_init 70 = .ok (.aload_n 0, 1) := by decide +kernel
theorem dX11_init_71 : decode cX11_init 71 = .ok (.new 27, 3) := by decide +kernel
theorem dX11_init_74 : decode cX11_init 74 = .ok (.dup, 1) := by decide +kernel
theorem dX11_init_75 : decode cX11_init 75 = .ok (.aload_n 1, 1) := by decide +kernel
theorem dX11_init_76 : decode cX11_init 76 = .ok (.invokespecial 29, 3) := by decide +kernel
theorem dX11_init_79 : decode cX11_init 79 = .ok (.putfield 32, 3) := by decide +kernel
theorem dX11_init_82 : decode cX11_init 82 = .ok (.aload_n 0, 1) := by decide +kernel
theorem dX11_init_83 : decode cX11_init 83 = .ok (.new 27, 3) := by decide +kernel
theorem dX11_init_86 : decode cX11_init 86 = .ok (.dup, 1) := by decide +kernel
theorem dX11_init_87 : decode cX11_init 87 = .ok (.aload_n 1, 1) := by decide +kernel
theorem dX11_init_88 : decode cX11_init 88 = .ok (.invokespecial 29, 3) := by decide +kernel
theorem dX11_init_91 : decode cX11_init 91 = .ok (.putfield 36, 3) := by decide +kernel
theorem dX11_init_94 : decode cX11_init 94 = .ok (.aload_n 0, 1) := by decide +kernel
theorem dX11_init_95 : decode cX11_init 95 = .ok (.iconst 2, 1) := by decide +kernel
theorem dX11_init_96 : decode cX11_init 96 = .ok (.anewarray 27, 3) := by decide +kernel
theorem dX11_init_99 : decode cX11_init 99 = .ok (.putfield 39, 3) := by decide +kernel
theorem dX11_init_102 : decode cX11_init 102 = .ok (.iconst 0, 1) := by decide +kernel
theorem dX11_init_103 : decode cX11_init 103 = .ok (.istore_n 2, 1) := by decide +kernel
theorem dX11_init_104 : decode cX11_init 104 = .ok (.iload_n 2, 1) := by decide +kernel
theorem dX11_init_105 : decode cX11_init 105 = .ok (.iconst 2, 1) := by decide +kernel
theorem dX11_init_106 : decode cX11_init 106 = .ok (.if_icmp .ge 23, 3) := by decide +kernel
theorem dX11_init_109 : decode cX11_init 109 = .ok (.aload_n 0, 1) := by decide +kernel
theorem dX11_init_110 : decode cX11_init 110 = .ok (.getfield 39, 3) := by decide +kernel
theorem dX11_init_113 : decode cX11_init 113 = .ok (.iload_n 2, 1) := by decide +kernel
theorem dX11_init_114 : decode cX11_init 114 = .ok (.new 27, 3) := by decide +kernel
theorem dX11_init_117 : decode cX11_init 117 = .ok (.dup, 1) := by decide +kernel
theorem dX11_init_118 : decode cX11_init 118 = .ok (.aload_n 1, 1) := by decide +kernel
theorem dX11_init_119 : decode cX11_init 119 = .ok (.invokespecial 29, 3) := by decide +kernel
theorem dX11_init_122 : decode cX11_init 122 = .ok (.aastore, 1) := by decide +kernel
theorem dX11_init_123 : decode cX11_init 123 = .ok (.iinc 2 1, 3) := by decide +kernel
theorem dX11_init_126 : decode cX11_init 126 = .ok (.goto (-22), 3) := by decide +kernel
theorem dX11_init_129 : decode cX11_init 129 = .ok (.aload_n 0, 1) := by decide +kernel
theorem dX11_init_130 : decode cX11_init 130 = .ok (.iconst 2, 1) := by decide +kernel
theorem dX11_init_131 : decode cX11_init 131 = .ok (.newarray .boolean, 2) := by decide +kernel
theorem dX11_init_133 : decode cX11_init 133 = .ok (.putfield 43, 3) := by decide +kernel
theorem dX11_init_136 : decode cX11_init 136 = .ok (.aload_n 0, 1) := by decide +kernel
theorem dX11_init_137 : decode cX11_init 137 = .ok (.new 47, 3) := by decide +kernel
theorem dX11_init_140 : decode cX11_init 140 = .ok (.dup, 1) := by decide +kernel
theorem dX11_init_141 : decode cX11_init 141 = .ok (.aload_n 1, 1) := by decide +kernel
theorem dX11_init_142 : decode cX11_init 142 = .ok (.invokespecial 49, 3) := by decide +kernel
theorem dX11_init_145 : decode cX11_init 145 = .ok (.putfield 50, 3) := by decide +kernel
theorem dX11_init_148 : decode cX11_init 148 = .ok (.aload_n 0, 1) := by decide +kernel
theorem dX11_init_149 : decode cX11_init 149 = .ok (.new 54, 3) := by decide +kernel
theorem dX11_init_152 : decode cX11_init 152 = .ok (.dup, 1) := by decide +kernel
theorem dX11_init_153 : decode cX11_init 153 = .ok (.aload_n 1, 1) := by decide +kernel
theorem dX11_init_154 : decode cX11_init 154 = .ok (.invokespecial 56, 3) := by decide +kernel
theorem dX11_init_157 : decode cX11_init 157 = .ok (.putfield 57, 3) := by decide +kernel
theorem dX11_init_160 : decode cX11_init 160 = .ok (.aload_n 0, 1) := by decide +kernel
theorem dX11_init_161 : decode cX11_init 161 = .ok (.new 61, 3) := by decide +kernel
theorem dX11_init_164 : decode cX11_init 164 = .ok (.dup, 1) := by decide +kernel
theorem dX11_init_165 : decode cX11_init 165 = .ok (.aload_n 1, 1) := by decide +kernel
theorem dX11_init_166 : decode cX11_init 166 = .ok (.invokespecial 63, 3) := by decide +kernel
theorem dX11_init_169 : decode cX11_init 169 = .ok (.putfield 64, 3) := by decide +kernel
theorem dX11_init_172 : decode cX11_init 172 = .ok (.aload_n 0, 1) := by decide +kernel
theorem dX11_init_173 : decode cX11_init 173 = .ok (.new 68, 3) := by decide +kernel
theorem dX11_init_176 : decode cX11_init 176 = .ok (.dup, 1) := by decide +kernel
theorem dX11_init_177 : decode cX11_init 177 = .ok (.invokespecial 70, 3) := by decide +kernel
theorem dX11_init_180 : decode cX11_init 180 = .ok (.putfield 71, 3) := by decide +kernel
theorem dX11_init_183 : decode cX11_init 183 = .ok (.aload_n 0, 1) := by decide +kernel
theorem dX11_init_184 : decode cX11_init 184 = .ok (.iconst 0, 1) := by decide +kernel
theorem dX11_init_185 : decode cX11_init 185 = .ok (.putfield 75, 3) := by decide +kernel
theorem dX11_init_188 : decode cX11_init 188 = .ok (.aload_n 0, 1) := by decide +kernel
theorem dX11_init_189 : decode cX11_init 189 = .ok (.iconst 1, 1) := by decide +kernel
theorem dX11_init_190 : decode cX11_init 190 = .ok (.putfield 79, 3) := by decide +kernel
theorem dX11_init_193 : decode cX11_init 193 = .ok (.return_, 1) := by decide +kernel
theorem dX11_ship_0 : decode cX11_ship 0 = .ok (.aload_n 0, 1) := by decide +kernel
theorem dX11_ship_1 : decode cX11_ship 1 = .ok (.getfield 32, 3) := by decide +kernel
theorem dX11_ship_4 : decode cX11_ship 4 = .ok (.getfield 82, 3) := by decide +kernel
theorem dX11_ship_7 : decode cX11_ship 7 = .ok (.getfield 85, 3) := by decide +kernel
theorem dX11_ship_10 : decode cX11_ship 10 = .ok (.istore_n 1, 1) := by decide +kernel
theorem dX11_ship_11 : decode cX11_ship 11 = .ok (.aload_n 0, 1) := by decide +kernel
theorem dX11_ship_12 : decode cX11_ship 12 = .ok (.getfield 32, 3) := by decide +kernel
theorem dX11_ship_15 : decode cX11_ship 15 = .ok (.invokevirtual 88, 3) := by decide +kernel
theorem dX11_ship_18 : decode cX11_ship 18 = .ok (.iload_n 1, 1) := by decide +kernel
theorem dX11_ship_19 : decode cX11_ship 19 = .ok (.ireturn, 1) := by decide +kernel
theorem dX11_rock_0 : decode cX11_rock 0 = .ok (.iload_n 1, 1) := by decide +kernel
theorem dX11_rock_1 : decode cX11_rock 1 = .ok (.invokestatic 91, 3) := by decide +kernel
theorem dX11_rock_4 : decode cX11_rock 4 = .ok (.ifCond .ne 10, 3) := by decide +kernel
theorem dX11_rock_7 : decode cX11_rock 7 = .ok (.aload_n 0, 1) := by decide +kernel
theorem dX11_rock_8 : decode cX11_rock 8 = .ok (.bipush (-2), 2) := by decide +kernel
theorem dX11_rock_10 : decode cX11_rock 10 = .ok (.invokevirtual 95, 3) := by decide +kernel
theorem dX11_rock_13 : decode cX11_rock 13 = .ok (.ireturn, 1) := by decide +kernel
theorem dX11_rock_14 : decode cX11_rock 14 = .ok (.aload_n 0, 1) := by decide +kernel
theorem dX11_rock_15 : decode cX11_rock 15 = .ok (.getfield 32, 3) := by decide +kernel
theorem dX11_rock_18 : decode cX11_rock 18 = .ok (.iload_n 1, 1) := by decide +kernel
theorem dX11_rock_19 : decode cX11_rock 19 = .ok (.invokevirtual 99, 3) := by decide +kernel
theorem dX11_rock_22 : decode cX11_rock 22 = .ok (.ifCond .eq 8, 3) := by decide +kernel
theorem dX11_rock_25 : decode cX11_rock 25 = .ok (.aload_n 0, 1) := by decide +kernel
theorem dX11_rock_26 : decode cX11_rock 26 = .ok (.invokevirtual 102, 3) := by decide +kernel
theorem dX11_rock_29 : decode cX11_rock 29 = .ok (.ireturn, 1) := by decide +kernel
theorem dX11_rock_30 : decode cX11_rock 30 = .ok (.aload_n 0, 1) := by decide +kernel
theorem dX11_rock_31 : decode cX11_rock 31 = .ok (.getfield 32, 3) := by decide +kernel
theorem dX11_rock_34 : decode cX11_rock 34 = .ok (.getfield 106, 3) := by decide +kernel
theorem dX11_rock_37 : decode cX11_rock 37 = .ok (.bipush 6, 2) := by decide +kernel
theorem dX11_rock_39 : decode cX11_rock 39 = .ok (.if_icmp .lt 8, 3) := by decide +kernel
