theorem dX0_init_0 : decode cX0_init 0 = .ok (.aload_n 0, 1) := by decide +kernel
theorem dX0_init_1 : decode cX0_init 1 = .ok (.invokespecial 3, 3) := by decide +kernel
theorem dX0_init_4 : decode cX0_init 4 = .ok (.aload_n 0, 1) := by decide +kernel
theorem dX0_init_5 : decode cX0_init 5 = .ok (.bipush 60, 2) := by decide +kernel
theorem dX0_init_7 : decode cX0_init 7 = .ok (.newarray .int, 2) := by decide +kernel
theorem dX0_init_9 : decode cX0_init 9 = .ok (.putfield 9, 3) := by decide +kernel
theorem dX0_init_12 : decode cX0_init 12 = .ok (.aload_n 0, 1) := by decide +kernel
theorem dX0_init_13 : decode cX0_init 13 = .ok (.bipush 10, 2) := by decide +kernel
theorem dX0_init_15 : decode cX0_init 15 = .ok (.putfield 15, 3) := by decide +kernel
theorem dX0_init_18 : decode cX0_init 18 = .ok (.aload_n 0, 1) := by decide +kernel
theorem dX0_init_19 : decode cX0_init 19 = .ok (.iconst 5, 1) := by decide +kernel
theorem dX0_init_20 : decode cX0_init 20 = .ok (.putfield 19, 3) := by decide +kernel
theorem dX0_init_23 : decode cX0_init 23 = .ok (.aload_n 0, 1) := by decide +kernel
theorem dX0_init_24 : decode cX0_init 24 = .ok (.iconst 2, 1) := by decide +kernel
theorem dX0_init_25 : decode cX0_init 25 = .ok (.putfield 22, 3) := by decide +kernel
theorem dX0_init_28 : decode cX0_init 28 = .ok (.return_, 1) := by decide +kernel
theorem dX0_copyFrom_0 : decode cX0_copyFrom 0 = .ok (.aload_n 1, 1) := by decide +kernel
theorem dX0_copyFrom_1 : decode cX0_copyFrom 1 = .ok (.getfield 9, 3) := by decide +kernel
theorem dX0_copyFrom_4 : decode cX0_copyFrom 4 = .ok (.iconst 0, 1) := by decide +kernel
theorem dX0_copyFrom_5 : decode cX0_copyFrom 5 = .ok (.aload_n 0, 1) := by decide +kernel
theorem dX0_copyFrom_6 : decode cX0_copyFrom 6 = .ok (.getfield 9, 3) := by decide +kernel
theorem dX0_copyFrom_9 : decode cX0_copyFrom 9 = .ok (.iconst 0, 1) := by decide +kernel
theorem dX0_copyFrom_10 : decode cX0_copyFrom 10 = .ok (.bipush 60, 2) := by decide +kernel
theorem dX0_copyFrom_12 : decode cX0_copyFrom 12 = .ok (.invokestatic 25, 3) := by decide +kernel
theorem dX0_copyFrom_15 : decode cX0_copyFrom 15 = .ok (.aload_n 0, 1) := by decide +kernel
theorem dX0_copyFrom_16 : decode cX0_copyFrom 16 = .ok (.aload_n 1, 1) := by decide +kernel
theorem dX0_copyFrom_17 : decode cX0_copyFrom 17 = .ok (.getfield 15, 3) := by decide +kernel
theorem dX0_copyFrom_20 : decode cX0_copyFrom 20 = .ok (.putfield 15, 3) := by decide +kernel
theorem dX0_copyFrom_23 : decode cX0_copyFrom 23 = .ok (.aload_n 0, 1) := by decide +kernel
theorem dX0_copyFrom_24 : decode cX0_copyFrom 24 = .ok (.aload_n 1, 1) := by decide +kernel
theorem dX0_copyFrom_25 : decode cX0_copyFrom 25 = .ok (.getfield 19, 3) := by decide +kernel
theorem dX0_copyFrom_28 : decode cX0_copyFrom 28 = .ok (.putfield 19, 3) := by decide +kernel
theorem dX0_copyFrom_31 : decode cX0_copyFrom 31 = .ok (.aload_n 0, 1) := by decide +kernel
theorem dX0_copyFrom_32 : decode cX0_copyFrom 32 = .ok (.aload_n 1, 1) := by decide +kernel
theorem dX0_copyFrom_33 : decode cX0_copyFrom 33 = .ok (.getfield 22, 3) := by decide +kernel
theorem dX0_copyFrom_36 : decode cX0_copyFrom 36 = .ok (.putfield 22, 3) := by decide +kernel
theorem dX0_copyFrom_39 : decode cX0_copyFrom 39 = .ok (.aload_n 0, 1) := by decide +kernel
theorem dX0_copyFrom_40 : decode cX0_copyFrom 40 = .ok (.aload_n 1, 1) := by decide +kernel
theorem dX0_copyFrom_41 : decode cX0_copyFrom 41 = .ok (.getfield 31, 3) := by decide +kernel
theorem dX0_copyFrom_44 : decode cX0_copyFrom 44 = .ok (.putfield 31, 3) := by decide +kernel
theorem dX0_copyFrom_47 : decode cX0_copyFrom 47 = .ok (.aload_n 0, 1) := by decide +kernel
theorem dX0_copyFrom_48 : decode cX0_copyFrom 48 = .ok (.aload_n 1, 1) := by decide +kernel
theorem dX0_copyFrom_49 : decode cX0_copyFrom 49 = .ok (.getfield 35, 3) := by decide +kernel
theorem dX0_copyFrom_52 : decode cX0_copyFrom 52 = .ok (.putfield 35, 3) := by decide +kernel
theorem dX0_copyFrom_55 : decode cX0_copyFrom 55 = .ok (.return_, 1) := by decide +kernel
theorem dX0_openTime_0 : decode cX0_openTime 0 = .ok (.aload_n 0, 1) := by decide +kernel
theorem dX0_openTime_1 : decode cX0_openTime 1 = .ok (.getfield 9, 3) := by decide +kernel
theorem dX0_openTime_4 : decode cX0_openTime 4 = .ok (.iload_n 1, 1) := by decide +kernel
theorem dX0_openTime_5 : decode cX0_openTime 5 = .ok (.bipush 60, 2) := by decide +kernel
theorem dX0_openTime_7 : decode cX0_openTime 7 = .ok (.invokestatic 38, 3) := by decide +kernel
theorem dX0_openTime_10 : decode cX0_openTime 10 = .ok (.iconst 0, 1) := by decide +kernel
theorem dX0_openTime_11 : decode cX0_openTime 11 = .ok (.iastore, 1) := by decide +kernel
theorem dX0_openTime_12 : decode cX0_openTime 12 = .ok (.return_, 1) := by decide +kernel
theorem dX0_addActivation_0 : decode cX0_addActivation 0 = .ok (.aload_n 0, 1) := by decide +kernel
theorem dX0_addActivation_1 : decode cX0_addActivation 1 = .ok (.getfield 9, 3) := by decide +kernel
theorem dX0_addActivation_4 : decode cX0_addActivation 4 = .ok (.iload_n 1, 1) := by decide +kernel
theorem dX0_addActivation_5 : decode cX0_addActivation 5 = .ok (.bipush 60, 2) := by decide +kernel
theorem dX0_addActivation_7 : decode cX0_addActivation 7 = .ok (.invokestatic 38, 3) := by decide +kernel
theorem dX0_addActivation_10 : decode cX0_addActivation 10 = .ok (.dup2, 1) := by decide +kernel
theorem dX0_addActivation_11 : decode cX0_addActivation 11 = .ok (.iaload, 1) := by decide +kernel
theorem dX0_addActivation_12 : decode cX0_addActivation 12 = .ok (.iconst 1, 1) := by decide +kernel
theorem dX0_addActivation_13 : decode cX0_addActivation 13 = .ok (.iadd, 1) := by decide +kernel
theorem dX0_addActivation_14 : decode cX0_addActivation 14 = .ok (.iastore, 1) := by decide +kernel
theorem dX0_addActivation_15 : decode cX0_addActivation 15 = .ok (.return_, 1) := by decide +kernel
theorem dX0_rateAt_0 : decode cX0_rateAt 0 = .ok (.iconst 0, 1) := by decide +kernel
theorem dX0_rateAt_1 : decode cX0_rateAt 1 = .ok (.istore_n 2, 1) := by decide +kernel
theorem dX0_rateAt_2 : decode cX0_rateAt 2 = .ok (.iconst 0, 1) := by decide +kernel
theorem dX0_rateAt_3 : decode cX0_rateAt 3 = .ok (.istore_n 3, 1) := by decide +kernel
theorem dX0_rateAt_4 : decode cX0_rateAt 4 = .ok (.iload_n 3, 1) := by decide +kernel
theorem dX0_rateAt_5 : decode cX0_rateAt 5 = .ok (.aload_n 0, 1) := by decide +kernel
theorem dX0_rateAt_6 : decode cX0_rateAt 6 = .ok (.getfield 15, 3) := by decide +kernel
theorem dX0_rateAt_9 : decode cX0_rateAt 9 = .ok (.if_icmp .ge 30, 3) := by decide +kernel
theorem dX0_rateAt_12 : decode cX0_rateAt 12 = .ok (.iload_n 3, 1) := by decide +kernel
theorem dX0_rateAt_13 : decode cX0_rateAt 13 = .ok (.iload_n 1, 1) := by decide +kernel
theorem dX0_rateAt_14 : decode cX0_rateAt 14 = .ok (.if_icmp .ge 25, 3) := by decide +kernel
theorem dX0_rateAt_17 : decode cX0_rateAt 17 = .ok (.iload_n 2, 1) := by decide +kernel
theorem dX0_rateAt_18 : decode cX0_rateAt 18 = .ok (.aload_n 0, 1) := by decide +kernel
theorem dX0_rateAt_19 : decode cX0_rateAt 19 = .ok (.getfield 9, 3) := by decide +kernel
theorem dX0_rateAt_22 : decode cX0_rateAt 22 = .ok (.iload_n 1, 1) := by decide +kernel
theorem dX0_rateAt_23 : decode cX0_rateAt 23 = .ok (.iload_n 3, 1) := by decide +kernel
theorem dX0_rateAt_24 : decode cX0_rateAt 24 = .ok (.isub, 1) := by decide +kernel
theorem dX0_rateAt_25 : decode cX0_rateAt 25 = .ok (.bipush 60, 2) := by decide +kernel
theorem dX0_rateAt_27 : decode cX0_rateAt 27 = .ok (.invokestatic 38, 3) := by decide +kernel
theorem dX0_rateAt_30 : decode cX0_rateAt 30 = .ok (.iaload, 1) := by decide +kernel
theorem dX0_rateAt_31 : decode cX0_rateAt 31 = .ok (.iadd, 1) := by decide +kernel
theorem dX0_rateAt_32 : decode cX0_rateAt 32 = .ok (.istore_n 2, 1) := by decide +kernel
theorem dX0_rateAt_33 : decode cX0_rateAt 33 = .ok (.iinc 3 1, 3) := by decide +kernel
theorem dX0_rateAt_36 : decode cX0_rateAt 36 = .ok (.goto (-32), 3) := by decide +kernel
theorem dX0_rateAt_39 : decode cX0_rateAt 39 = .ok (.iload_n 2, 1) := by decide +kernel
theorem dX0_rateAt_40 : decode cX0_rateAt 40 = .ok (.ireturn, 1) := by decide +kernel
theorem dX1_init_0 : decode cX1_init 0 = .ok (.aload_n 0, 1) := by decide +kernel
theorem dX1_init_1 : decode cX1_init 1 = .ok (.invokespecial 3, 3) := by decide +kernel
theorem dX1_init_4 : decode cX1_init 4 = .ok (.aload_n 0, 1) := by decide +kernel
theorem dX1_init_5 : decode cX1_init 5 = .ok (.bipush 30, 2) := by decide +kernel
theorem dX1_init_7 : decode cX1_init 7 = .ok (.newarray .int, 2) := by decide +kernel
theorem dX1_init_9 : decode cX1_init 9 = .ok (.putfield 9, 3) := by decide +kernel
theorem dX1_init_12 : decode cX1_init 12 = .ok (.aload_n 0, 1) := by decide +kernel
theorem dX1_init_13 : decode cX1_init 13 = .ok (.bipush 30, 2) := by decide +kernel
theorem dX1_init_15 : decode cX1_init 15 = .ok (.newarray .int, 2) := by decide +kernel
theorem dX1_init_17 : decode cX1_init 17 = .ok (.putfield 15, 3) := by decide +kernel
theorem dX1_init_20 : decode cX1_init 20 = .ok (.aload_n 0, 1) := by decide +kernel
theorem dX1_init_21 : decode cX1_init 21 = .ok (.bipush 30, 2) := by decide +kernel
theorem dX1_init_23 : decode cX1_init 23 = .ok (.newarray .int, 2) := by decide +kernel
theorem dX1_init_25 : decode cX1_init 25 = .ok (.putfield 18, 3) := by decide +kernel
theorem dX1_init_28 : decode cX1_init 28 = .ok (.return_, 1) := by decide +kernel
theorem dX1_copyFrom_0 : decode cX1_copyFrom 0 = .ok (.aload_n 1, 1) := by decide +kernel
theorem dX1_copyFrom_1 : decode cX1_copyFrom 1 = .ok (.getfield 9, 3) := by decide +kernel
theorem dX1_copyFrom_4 : decode cX1_copyFrom 4 = .ok (.iconst 0, 1) := by decide +kernel
theorem dX1_copyFrom_5 : decode cX1_copyFrom 5 = .ok (.aload_n 0, 1) := by decide +kernel
theorem dX1_copyFrom_6 : decode cX1_copyFrom 6 = .ok (.getfield 9, 3) := by decide +kernel
theorem dX1_copyFrom_9 : decode cX1_copyFrom 9 = .ok (.iconst 0, 1) := by decide +kernel
theorem dX1_copyFrom_10 : decode cX1_copyFrom 10 = .ok (.bipush 30, 2) := by decide +kernel
theorem dX1_copyFrom_12 : decode cX1_copyFrom 12 = .ok (.invokestatic 21, 3) := by decide +kernel
theorem dX1_copyFrom_15 : decode cX1_copyFrom 15 = .ok (.aload_n 1, 1) := by decide +kernel
theorem dX1_copyFrom_16 : decode cX1_copyFrom 16 = .ok (.getfield 15, 3) := by decide +kernel
theorem dX1_copyFrom_19 : decode cX1_copyFrom 19 = .ok (.iconst 0, 1) := by decide +kernel
theorem dX1_copyFrom_20 : decode cX1_copyFrom 20 = .ok (.aload_n 0, 1) := by decide +kernel
theorem dX1_copyFrom_21 : decode cX1_copyFrom 21 = .ok (.getfield 15, 3) := by decide +kernel
theorem dX1_copyFrom_24 : decode cX1_copyFrom 24 = .ok (.iconst 0, 1) := by decide +kernel
theorem dX1_copyFrom_25 : decode cX1_copyFrom 25 = .ok (.bipush 30, 2) := by decide +kernel
theorem dX1_copyFrom_27 : decode cX1_copyFrom 27 = .ok (.invokestatic 21, 3) := by decide +kernel
theorem dX1_copyFrom_30 : decode cX1_copyFrom 30 = .ok (.aload_n 1, 1) := by decide +kernel
theorem dX1_copyFrom_31 : decode cX1_copyFrom 31 = .ok (.getfield 18, 3) := by decide +kernel
theorem dX1_copyFrom_34 : decode cX1_copyFrom 34 = .ok (.iconst 0, 1) := by decide +kernel
theorem dX1_copyFrom_35 : decode cX1_copyFrom 35 = .ok (.aload_n 0, 1) := by decide +kernel
theorem dX1_copyFrom_36 : decode cX1_copyFrom 36 = .ok (.getfield 18, 3) := by decide +kernel
theorem dX1_copyFrom_39 : decode cX1_copyFrom 39 = .ok (.iconst 0, 1) := by decide +kernel
theorem dX1_copyFrom_40 : decode cX1_copyFrom 40 = .ok (.bipush 30, 2) := by decide +kernel
theorem dX1_copyFrom_42 : decode cX1_copyFrom 42 = .ok (.invokestatic 21, 3) := by decide +kernel
theorem dX1_copyFrom_45 : decode cX1_copyFrom 45 = .ok (.aload_n 0, 1) := by decide +kernel
theorem dX1_copyFrom_46 : decode cX1_copyFrom 46 = .ok (.aload_n 1, 1) := by decide +kernel
theorem dX1_copyFrom_47 : decode cX1_copyFrom 47 = .ok (.getfield 27, 3) := by decide +kernel
theorem dX1_copyFrom_50 : decode cX1_copyFrom 50 = .ok (.putfield 27, 3) := by decide +kernel
theorem dX1_copyFrom_53 : decode cX1_copyFrom 53 = .ok (.return_, 1) := by decide +kernel
theorem dX1_write_0 : decode cX1_write 0 = .ok (.aload_n 0, 1) := by decide +kernel
theorem dX1_write_1 : decode cX1_write 1 = .ok (.getfield 27, 3) := by decide +kernel
theorem dX1_write_4 : decode cX1_write 4 = .ok (.bipush 30, 2) := by decide +kernel
theorem dX1_write_6 : decode cX1_write 6 = .ok (.invokestatic 31, 3) := by decide +kernel
theorem dX1_write_9 : decode cX1_write 9 = .ok (.istore 4, 2) := by decide +kernel
theorem dX1_write_11 : decode cX1_write 11 = .ok (.aload_n 0, 1) := by decide +kernel
theorem dX1_write_12 : decode cX1_write 12 = .ok (.getfield 9, 3) := by decide +kernel
theorem dX1_write_15 : decode cX1_write 15 = .ok (.iload 4, 2) := by decide +kernel
theorem dX1_write_17 : decode cX1_write 17 = .ok (.iload_n 1, 1) := by decide +kernel
theorem dX1_write_18 : decode cX1_write 18 = .ok (.iastore, 1) := by decide +kernel
theorem dX1_write_19 : decode cX1_write 19 = .ok (.aload_n 0, 1) := by decide +kernel
theorem dX1_write_20 : decode cX1_write 20 = .ok (.getfield 15, 3) := by decide +kernel
theorem dX1_write_23 : decode cX1_write 23 = .ok (.iload 4, 2) := by decide +kernel
theorem dX1_write_25 : decode cX1_write 25 = .ok (.iload_n 2, 1) := by decide +kernel
theorem dX1_write_26 : decode cX1_write 26 = .ok (.iastore, 1) := by decide +kernel
theorem dX1_write_27 : decode cX1_write 27 = .ok (.aload_n 0, 1) := by decide +kernel
theorem dX1_write_28 : decode cX1_write 28 = .ok (.getfield 18, 3) := by decide +kernel
theorem dX1_write_31 : decode cX1_write 31 = .ok (.iload 4, 2) := by decide +kernel
theorem dX1_write_33 : decode cX1_write 33 = .ok (.iload_n 3, 1) := by decide +kernel
theorem dX1_write_34 : decode cX1_write 34 = .ok (.iastore, 1) := by decide +kernel
theorem dX1_write_35 : decode cX1_write 35 = .ok (.aload_n 0, 1) := by decide +kernel
theorem dX1_write_36 : decode cX1_write 36 = .ok (.dup, 1) := by decide +kernel
theorem dX1_write_37 : decode cX1_write 37 = .ok (.getfield 27, 3) := by decide +kernel
theorem dX1_write_40 : decode cX1_write 40 = .ok (.iconst 1, 1) := by decide +kernel
theorem dX1_write_41 : decode cX1_write 41 = .ok (.iadd, 1) := by decide +kernel
theorem dX1_write_42 : decode cX1_write 42 = .ok (.putfield 27, 3) := by decide +kernel
theorem dX1_write_45 : decode cX1_write 45 = .ok (.return_, 1) := by decide +kernel
theorem dX1_kept_0 : decode cX1_kept 0 = .ok (.aload_n 0, 1) := by decide +kernel
theorem dX1_kept_1 : decode cX1_kept 1 = .ok (.getfield 27, 3) := by decide +kernel
theorem dX1_kept_4 : decode cX1_kept 4 = .ok (.bipush 30, 2) := by decide +kernel
theorem dX1_kept_6 : decode cX1_kept 6 = .ok (.invokestatic 37, 3) := by decide +kernel
theorem dX1_kept_9 : decode cX1_kept 9 = .ok (.ireturn, 1) := by decide +kernel
theorem dX1_eventNumber_0 : decode cX1_eventNumber 0 = .ok (.aload_n 0, 1) := by decide +kernel
theorem dX1_eventNumber_1 : decode cX1_eventNumber 1 = .ok (.getfield 27, 3) := by decide +kernel
theorem dX1_eventNumber_4 : decode cX1_eventNumber 4 = .ok (.iconst 1, 1) := by decide +kernel
theorem dX1_eventNumber_5 : decode cX1_eventNumber 5 = .ok (.isub, 1) := by decide +kernel
theorem dX1_eventNumber_6 : decode cX1_eventNumber 6 = .ok (.iload_n 1, 1) := by decide +kernel
theorem dX1_eventNumber_7 : decode cX1_eventNumber 7 = .ok (.isub, 1) := by decide +kernel
theorem dX1_eventNumber_8 : decode cX1_eventNumber 8 = .ok (.bipush 30, 2) := by decide +kernel
theorem dX1_eventNumber_10 : decode cX1_eventNumber 10 = .ok (.invokestatic 31, 3) := by decide +kernel
theorem dX1_eventNumber_13 : decode cX1_eventNumber 13 = .ok (.istore_n 3, 1) := by decide +kernel
theorem dX1_eventNumber_14 : decode cX1_eventNumber 14 = .ok (.iload_n 2, 1) := by decide +kernel
theorem dX1_eventNumber_15 : decode cX1_eventNumber 15 = .ok (.ifCond .ne 10, 3) := by decide +kernel
theorem dX1_eventNumber_18 : decode cX1_eventNumber 18 = .ok (.aload_n 0, 1) := by decide +kernel
theorem dX1_eventNumber_19 : decode cX1_eventNumber 19 = .ok (.getfield 9, 3) := by decide +kernel
theorem dX1_eventNumber_22 : decode cX1_eventNumber 22 = .ok (.iload_n 3, 1) := by decide +kernel
theorem dX1_eventNumber_23 : decode cX1_eventNumber 23 = .ok (.iaload, 1) := by decide +kernel
theorem dX1_eventNumber_24 : decode cX1_eventNumber 24 = .ok (.ireturn, 1) := by decide +kernel
theorem dX1_eventNumber_25 : decode cX1_eventNumber 25 = .ok (.iload_n 2, 1) := by decide +kernel
theorem dX1_eventNumber_26 : decode cX1_eventNumber 26 = .ok (.iconst 1, 1) := by decide +kernel
theorem dX1_eventNumber_27 : decode cX1_eventNumber 27 = .ok (.if_icmp .ne 12, 3) := by decide +kernel
theorem dX1_eventNumber_30 : decode cX1_eventNumber 30 = .ok (.aload_n 0, 1) := by decide +kernel
theorem dX1_eventNumber_31 : decode cX1_eventNumber 31 = .ok (.getfield 15, 3) := by decide +kernel
theorem dX1_eventNumber_34 : decode cX1_eventNumber 34 = .ok (.iload_n 3, 1) := by decide +kernel
theorem dX1_eventNumber_35 : decode cX1_eventNumber 35 = .ok (.iaload, 1) := by decide +kernel
theorem dX1_eventNumber_36 : decode cX1_eventNumber 36 = .ok (.goto 9, 3) := by decide +kernel
theorem dX1_eventNumber_39 : decode cX1_eventNumber 39 = .ok (.aload_n 0, 1) := by decide +kernel
theorem dX1_eventNumber_40 : decode cX1_eventNumber 40 = .ok (.getfield 18, 3) := by decide +kernel
theorem dX1_eventNumber_43 : decode cX1_eventNumber 43 = .ok (.iload_n 3, 1) := by decide +kernel
theorem dX1_eventNumber_44 : decode cX1_eventNumber 44 = .ok (.iaload, 1) := by decide +kernel
theorem dX1_eventNumber_45 : decode cX1_eventNumber 45 = .ok (.ireturn, 1) := by decide +kernel
theorem dX1_activationsOf_0 : decode cX1_activationsOf 0 = .ok (.iconst 0, 1) := by decide +kernel
theorem dX1_activationsOf_1 : decode cX1_activationsOf 1 = .ok (.istore_n 2, 1) := by decide +kernel
theorem dX1_activationsOf_2 : decode cX1_activationsOf 2 = .ok (.iconst 0, 1) := by decide +kernel
theorem dX1_activationsOf_3 : decode cX1_activationsOf 3 = .ok (.istore_n 3, 1) := by decide +kernel
theorem dX1_activationsOf_4 : decode cX1_activationsOf 4 = .ok (.iload_n 3, 1) := by decide +kernel
theorem dX1_activationsOf_5 : decode cX1_activationsOf 5 = .ok (.aload_n 0, 1) := by decide +kernel
theorem dX1_activationsOf_6 : decode cX1_activationsOf 6 = .ok (.invokevirtual 40, 3) := by decide +kernel
theorem dX1_activationsOf_9 : decode cX1_activationsOf 9 = .ok (.if_icmp .ge 32, 3) := by decide +kernel
theorem dX1_activationsOf_12 : decode cX1_activationsOf 12 = .ok (.aload_n 0, 1) := by decide +kernel
theorem dX1_activationsOf_13 : decode cX1_activationsOf 13 = .ok (.getfield 15, 3) := by decide +kernel
theorem dX1_activationsOf_16 : decode cX1_activationsOf 16 = .ok (.iload_n 3, 1) := by decide +kernel
theorem dX1_activationsOf_17 : decode cX1_activationsOf 17 = .ok (.iaload, 1) := by decide +kernel
theorem dX1_activationsOf_18 : decode cX1_activationsOf 18 = .ok (.iconst 1, 1) := by decide +kernel
theorem dX1_activationsOf_19 : decode cX1_activationsOf 19 = .ok (.if_icmp .ne 16, 3) := by decide +kernel
theorem dX1_activationsOf_22 : decode cX1_activationsOf 22 = .ok (.aload_n 0, 1) := by decide +kernel
theorem dX1_activationsOf_23 : decode cX1_activationsOf 23 = .ok (.getfield 18, 3) := by decide +kernel
theorem dX1_activationsOf_26 : decode cX1_activationsOf 26 = .ok (.iload_n 3, 1) := by decide +kernel
theorem dX1_activationsOf_27 : decode cX1_activationsOf 27 = .ok (.iaload, 1) := by decide +kernel
theorem dX1_activationsOf_28 : decode cX1_activationsOf 28 = .ok (.iload_n 1, 1) := by decide +kernel
theorem dX1_activationsOf_29 : decode cX1_activationsOf 29 = .ok (.if_icmp .ne 6, 3) := by decide +kernel
theorem dX1_activationsOf_32 : decode cX1_activationsOf 32 = .ok (.iinc 2 1, 3) := by decide +kernel
theorem dX1_activationsOf_35 : decode cX1_activationsOf 35 = .ok (.iinc 3 1, 3) := by decide +kernel
theorem dX1_activationsOf_38 : decode cX1_activationsOf 38 = .ok (.goto (-34), 3) := by decide +kernel
theorem dX1_activationsOf_41 : decode cX1_activationsOf 41 = .ok (.iload_n 2, 1) := by decide +kernel
theorem dX1_activationsOf_42 : decode cX1_activationsOf 42 = .ok (.ireturn, 1) := by decide +kernel
theorem dX2_init_0 : decode cX2_init 0 = .ok (.aload_n 0, 1) := by decide +kernel
theorem dX2_init_1 : decode cX2_init 1 = .ok (.invokespecial 3, 3) := by decide +kernel
theorem dX2_init_4 : decode cX2_init 4 = .ok (.aload_n 0, 1) := by decide +kernel
theorem dX2_init_5 : decode cX2_init 5 = .ok (.bipush 7, 2) := by decide +kernel
theorem dX2_init_7 : decode cX2_init 7 = .ok (.newarray .int, 2) := by decide +kernel
theorem dX2_init_9 : decode cX2_init 9 = .ok (.putfield 9, 3) := by decide +kernel
theorem dX2_init_12 : decode cX2_init 12 = .ok (.aload_n 0, 1) := by decide +kernel
theorem dX2_init_13 : decode cX2_init 13 = .ok (.bipush 40, 2) := by decide +kernel
theorem dX2_init_15 : decode cX2_init 15 = .ok (.newarray .int, 2) := by decide +kernel
theorem dX2_init_17 : decode cX2_init 17 = .ok (.putfield 15, 3) := by decide +kernel
theorem dX2_init_20 : decode cX2_init 20 = .ok (.return_, 1) := by decide +kernel
theorem dX2_begin_0 : decode cX2_begin 0 = .ok (.iconst 0, 1) := by decide +kernel
theorem dX2_begin_1 : decode cX2_begin 1 = .ok (.istore_n 3, 1) := by decide +kernel
theorem dX2_begin_2 : decode cX2_begin 2 = .ok (.iload_n 3, 1) := by decide +kernel
theorem dX2_begin_3 : decode cX2_begin 3 = .ok (.bipush 7, 2) := by decide +kernel
theorem dX2_begin_5 : decode cX2_begin 5 = .ok (.if_icmp .ge 16, 3) := by decide +kernel
theorem dX2_begin_8 : decode cX2_begin 8 = .ok (.aload_n 0, 1) := by decide +kernel
theorem dX2_begin_9 : decode cX2_begin 9 = .ok (.getfield 9, 3) := by decide +kernel
theorem dX2_begin_12 : decode cX2_begin 12 = .ok (.iload_n 3, 1) := by decide +kernel
theorem dX2_begin_13 : decode cX2_begin 13 = .ok (.iconst 0, 1) := by decide +kernel
theorem dX2_begin_14 : decode cX2_begin 14 = .ok (.iastore, 1) := by decide +kernel
theorem dX2_begin_15 : decode cX2_begin 15 = .ok (.iinc 3 1, 3) := by decide +kernel
theorem dX2_begin_18 : decode cX2_begin 18 = .ok (.goto (-16), 3) := by decide +kernel
theorem dX2_begin_21 : decode cX2_begin 21 = .ok (.aload_n 0, 1) := by decide +kernel
theorem dX2_begin_22 : decode cX2_begin 22 = .ok (.getfield 9, 3) := by decide +kernel
theorem dX2_begin_25 : decode cX2_begin 25 = .ok (.iconst 1, 1) := by decide +kernel
theorem dX2_begin_26 : decode cX2_begin 26 = .ok (.iload_n 1, 1) := by decide +kernel
theorem dX2_begin_27 : decode cX2_begin 27 = .ok (.iastore, 1) := by decide +kernel
theorem dX2_begin_28 : decode cX2_begin 28 = .ok (.aload_n 0, 1) := by decide +kernel
theorem dX2_begin_29 : decode cX2_begin 29 = .ok (.getfield 9, 3) := by decide +kernel
theorem dX2_begin_32 : decode cX2_begin 32 = .ok (.iconst 5, 1) := by decide +kernel
theorem dX2_begin_33 : decode cX2_begin 33 = .ok (.iload_n 2, 1) := by decide +kernel
theorem dX2_begin_34 : decode cX2_begin 34 = .ok (.iastore, 1) := by decide +kernel
theorem dX2_begin_35 : decode cX2_begin 35 = .ok (.aload_n 0, 1) := by decide +kernel
theorem dX2_begin_36 : decode cX2_begin 36 = .ok (.iconst 0, 1) := by decide +kernel
theorem dX2_begin_37 : decode cX2_begin 37 = .ok (.putfield 18, 3) := by decide +kernel
theorem dX2_begin_40 : decode cX2_begin 40 = .ok (.aload_n 0, 1) := by decide +kernel
theorem dX2_begin_41 : decode cX2_begin 41 = .ok (.iconst 0, 1) := by decide +kernel
theorem dX2_begin_42 : decode cX2_begin 42 = .ok (.putfield 22, 3) := by decide +kernel
theorem dX2_begin_45 : decode cX2_begin 45 = .ok (.aload_n 0, 1) := by decide +kernel
theorem dX2_begin_46 : decode cX2_begin 46 = .ok (.iconst (-1), 1) := by decide +kernel
theorem dX2_begin_47 : decode cX2_begin 47 = .ok (.putfield 25, 3) := by decide +kernel
theorem dX2_begin_50 : decode cX2_begin 50 = .ok (.aload_n 0, 1) := by decide +kernel
theorem dX2_begin_51 : decode cX2_begin 51 = .ok (.iconst 0, 1) := by decide +kernel
theorem dX2_begin_52 : decode cX2_begin 52 = .ok (.putfield 28, 3) := by decide +kernel
theorem dX2_begin_55 : decode cX2_begin 55 = .ok (.aload_n 0, 1) := by decide +kernel
theorem dX2_begin_56 : decode cX2_begin 56 = .ok (.iconst 1, 1) := by decide +kernel
theorem dX2_begin_57 : decode cX2_begin 57 = .ok (.putfield 32, 3) := by decide +kernel
theorem dX2_begin_60 : decode cX2_begin 60 = .ok (.aload_n 0, 1) := by decide +kernel
theorem dX2_begin_61 : decode cX2_begin 61 = .ok (.iconst 0, 1) := by decide +kernel
theorem dX2_begin_62 : decode cX2_begin 62 = .ok (.putfield 35, 3) := by decide +kernel
theorem dX2_begin_65 : decode cX2_begin 65 = .ok (.aload_n 0, 1) := by decide +kernel
theorem dX2_begin_66 : decode cX2_begin 66 = .ok (.iconst 0, 1) := by decide +kernel
theorem dX2_begin_67 : decode cX2_begin 67 = .ok (.putfield 38, 3) := by decide +kernel
theorem dX2_begin_70 : decode cX2_begin 70 = .ok (.aload_n 0, 1) := by decide +kernel
theorem dX2_begin_71 : decode cX2_begin 71 = .ok (.iconst 0, 1) := by decide +kernel
theorem dX2_begin_72 : decode cX2_begin 72 = .ok (.putfield 41, 3) := by decide +kernel
theorem dX2_begin_75 : decode cX2_begin 75 = .ok (.aload_n 0, 1) := by decide +kernel
theorem dX2_begin_76 : decode cX2_begin 76 = .ok (.iconst 0, 1) := by decide +kernel
theorem dX2_begin_77 : decode cX2_begin 77 = .ok (.putfield 44, 3) := by decide +kernel
theorem dX2_begin_80 : decode cX2_begin 80 = .ok (.return_, 1) := by decide +kernel
theorem dX2_copyFrom_0 : decode cX2_copyFrom 0 = .ok (.aload_n 1, 1) := by decide +kernel
theorem dX2_copyFrom_1 : decode cX2_copyFrom 1 = .ok (.getfield 9, 3) := by decide +kernel
theorem dX2_copyFrom_4 : decode cX2_copyFrom 4 = .ok (.iconst 0, 1) := by decide +kernel
theorem dX2_copyFrom_5 : decode cX2_copyFrom 5 = .ok (.aload_n 0, 1) := by decide +kernel
theorem dX2_copyFrom_6 : decode cX2_copyFrom 6 = .ok (.getfield 9, 3) := by decide +kernel
theorem dX2_copyFrom_9 : decode cX2_copyFrom 9 = .ok (.iconst 0, 1) := by decide +kernel
theorem dX2_copyFrom_10 : decode cX2_copyFrom 10 = .ok (.bipush 7, 2) := by decide +kernel
theorem dX2_copyFrom_12 : decode cX2_copyFrom 12 = .ok (.invokestatic 47, 3) := by decide +kernel
theorem dX2_copyFrom_15 : decode cX2_copyFrom 15 = .ok (.aload_n 1, 1) := by decide +kernel
theorem dX2_copyFrom_16 : decode cX2_copyFrom 16 = .ok (.getfield 15, 3) := by decide +kernel
theorem dX2_copyFrom_19 : decode cX2_copyFrom 19 = .ok (.iconst 0, 1) := by decide +kernel
theorem dX2_copyFrom_20 : decode cX2_copyFrom 20 = .ok (.aload_n 0, 1) := by decide +kernel
theorem dX2_copyFrom_21 : decode cX2_copyFrom 21 = .ok (.getfield 15, 3) := by decide +kernel
theorem dX2_copyFrom_24 : decode cX2_copyFrom 24 = .ok (.iconst 0, 1) := by decide +kernel
theorem dX2_copyFrom_25 : decode cX2_copyFrom 25 = .ok (.bipush 40, 2) := by decide +kernel
theorem dX2_copyFrom_27 : decode cX2_copyFrom 27 = .ok (.invokestatic 47, 3) := by decide +kernel
theorem dX2_copyFrom_30 : decode cX2_copyFrom 30 = .ok (.aload_n 0, 1) := by decide +kernel
theorem dX2_copyFrom_31 : decode cX2_copyFrom 31 = .ok (.aload_n 1, 1) := by decide +kernel
theorem dX2_copyFrom_32 : decode cX2_copyFrom 32 = .ok (.getfield 18, 3) := by decide +kernel
theorem dX2_copyFrom_35 : decode cX2_copyFrom 35 = .ok (.putfield 18, 3) := by decide +kernel
theorem dX2_copyFrom_38 : decode cX2_copyFrom 38 = .ok (.aload_n 0, 1) := by decide +kernel
theorem dX2_copyFrom_39 : decode cX2_copyFrom 39 = .ok (.aload_n 1, 1) := by decide +kernel
theorem dX2_copyFrom_40 : decode cX2_copyFrom 40 = .ok (.getfield 22, 3) := by decide +kernel
theorem dX2_copyFrom_43 : decode cX2_copyFrom 43 = .ok (.putfield 22, 3) := by decide +kernel
theorem dX2_copyFrom_46 : decode cX2_copyFrom 46 = .ok (.aload_n 0, 1) := by decide +kernel
theorem dX2_copyFrom_47 : decode cX2_copyFrom 47 = .ok (.aload_n 1, 1) := by decide +kernel
theorem dX2_copyFrom_48 : decode cX2_copyFrom 48 = .ok (.getfield 25, 3) := by decide +kernel
theorem dX2_copyFrom_51 : decode cX2_copyFrom 51 = .ok (.putfield 25, 3) := by decide +kernel
theorem dX2_copyFrom_54 : decode cX2_copyFrom 54 = .ok (.aload_n 0, 1) := by decide +kernel
theorem dX2_copyFrom_55 : decode cX2_copyFrom 55 = .ok (.aload_n 1, 1) := by decide +kernel
theorem dX2_copyFrom_56 : decode cX2_copyFrom 56 = .ok (.getfield 28, 3) := by decide +kernel
theorem dX2_copyFrom_59 : decode cX2_copyFrom 59 = .ok (.putfield 28, 3) := by decide +kernel
theorem dX2_copyFrom_62 : decode cX2_copyFrom 62 = .ok (.aload_n 0, 1) := by decide +kernel
theorem dX2_copyFrom_63 : decode cX2_copyFrom 63 = .ok (.aload_n 1, 1) := by decide +kernel
theorem dX2_copyFrom_64 : decode cX2_copyFrom 64 = .ok (.getfield 32, 3) := by decide +kernel
theorem dX2_copyFrom_67 : decode cX2_copyFrom 67 = .ok (.putfield 32, 3) := by decide +kernel
theorem dX2_copyFrom_70 : decode cX2_copyFrom 70 = .ok (.aload_n 0, 1) := by decide +kernel
theorem dX2_copyFrom_71 : decode cX2_copyFrom 71 = .ok (.aload_n 1, 1) := by decide +kernel
theorem dX2_copyFrom_72 : decode cX2_copyFrom 72 = .ok (.getfield 35, 3) := by decide +kernel
theorem dX2_copyFrom_75 : decode cX2_copyFrom 75 = .ok (.putfield 35, 3) := by decide +kernel
theorem dX2_copyFrom_78 : decode cX2_copyFrom 78 = .ok (.aload_n 0, 1) := by decide +kernel
theorem dX2_copyFrom_79 : decode cX2_copyFrom 79 = .ok (.aload_n 1, 1) := by decide +kernel
theorem dX2_copyFrom_80 : decode cX2_copyFrom 80 = .ok (.getfield 38, 3) := by decide +kernel
theorem dX2_copyFrom_83 : decode cX2_copyFrom 83 = .ok (.putfield 38, 3) := by decide +kernel
theorem dX2_copyFrom_86 : decode cX2_copyFrom 86 = .ok (.aload_n 0, 1) := by decide +kernel
theorem dX2_copyFrom_87 : decode cX2_copyFrom 87 = .ok (.aload_n 1, 1) := by decide +kernel
theorem dX2_copyFrom_88 : decode cX2_copyFrom 88 = .ok (.getfield 41, 3) := by decide +kernel
theorem dX2_copyFrom_91 : decode cX2_copyFrom 91 = .ok (.putfield 41, 3) := by decide +kernel
theorem dX2_copyFrom_94 : decode cX2_copyFrom 94 = .ok (.aload_n 0, 1) := by decide +kernel
theorem dX2_copyFrom_95 : decode cX2_copyFrom 95 = .ok (.aload_n 1, 1) := by decide +kernel
theorem dX2_copyFrom_96 : decode cX2_copyFrom 96 = .ok (.getfield 44, 3) := by decide +kernel
theorem dX2_copyFrom_99 : decode cX2_copyFrom 99 = .ok (.putfield 44, 3) := by decide +kernel
theorem dX2_copyFrom_102 : decode cX2_copyFrom 102 = .ok (.return_, 1) := by decide +kernel
theorem dX2_stands_0 : decode cX2_stands 0 = .ok (.aload_n 0, 1) := by decide +kernel
theorem dX2_stands_1 : decode cX2_stands 1 = .ok (.getfield 28, 3) := by decide +kernel
theorem dX2_stands_4 : decode cX2_stands 4 = .ok (.ifCond .ne 10, 3) := by decide +kernel
theorem dX2_stands_7 : decode cX2_stands 7 = .ok (.aload_n 0, 1) := by decide +kernel
theorem dX2_stands_8 : decode cX2_stands 8 = .ok (.getfield 32, 3) := by decide +kernel
theorem dX2_stands_11 : decode cX2_stands 11 = .ok (.ifCond .ne 7, 3) := by decide +kernel
theorem dX2_stands_14 : decode cX2_stands 14 = .ok (.iconst 1, 1) := by decide +kernel
theorem dX2_stands_15 : decode cX2_stands 15 = .ok (.goto 4, 3) := by decide +kernel
theorem dX2_stands_18 : decode cX2_stands 18 = .ok (.iconst 0, 1) := by decide +kernel
theorem dX2_stands_19 : decode cX2_stands 19 = .ok (.ireturn, 1) := by decide +kernel
theorem dX2_isShelved_0 : decode cX2_isShelved 0 = .ok (.aload_n 0, 1) := by decide +kernel
theorem dX2_isShelved_1 : decode cX2_isShelved 1 = .ok (.getfield 41, 3) := by decide +kernel
theorem dX2_isShelved_4 : decode cX2_isShelved 4 = .ok (.ifCond .le 7, 3) := by decide +kernel
theorem dX2_isShelved_7 : decode cX2_isShelved 7 = .ok (.iconst 1, 1) := by decide +kernel
theorem dX2_isShelved_8 : decode cX2_isShelved 8 = .ok (.goto 4, 3) := by decide +kernel
theorem dX2_isShelved_11 : decode cX2_isShelved 11 = .ok (.iconst 0, 1) := by decide +kernel
theorem dX2_isShelved_12 : decode cX2_isShelved 12 = .ok (.ireturn, 1) := by decide +kernel
theorem dX2_hasHighestPriority_0 : decode cX2_hasHighestPriority 0 = .ok (.aload_n 0, 1) := by decide +kernel
theorem dX2_hasHighestPriority_1 : decode cX2_hasHighestPriority 1 = .ok (.getfield 9, 3) := by decide +kernel
theorem dX2_hasHighestPriority_4 : decode cX2_hasHighestPriority 4 = .ok (.iconst 5, 1) := by decide +kernel
theorem dX2_hasHighestPriority_5 : decode cX2_hasHighestPriority 5 = .ok (.iaload, 1) := by decide +kernel
theorem dX2_hasHighestPriority_6 : decode cX2_hasHighestPriority 6 = .ok (.iconst 1, 1) := by decide +kernel
theorem dX2_hasHighestPriority_7 : decode cX2_hasHighestPriority 7 = .ok (.if_icmp .ne 7, 3) := by decide +kernel
theorem dX2_hasHighestPriority_10 : decode cX2_hasHighestPriority 10 = .ok (.iconst 1, 1) := by decide +kernel
theorem dX2_hasHighestPriority_11 : decode cX2_hasHighestPriority 11 = .ok (.goto 4, 3) := by decide +kernel
theorem dX2_hasHighestPriority_14 : decode cX2_hasHighestPriority 14 = .ok (.iconst 0, 1) := by decide +kernel
theorem dX2_hasHighestPriority_15 : decode cX2_hasHighestPriority 15 = .ok (.ireturn, 1) := by decide +kernel
theorem dX2_isTurning_0 : decode cX2_isTurning 0 = .ok (.aload_n 0, 1) := by decide +kernel
theorem dX2_isTurning_1 : decode cX2_isTurning 1 = .ok (.getfield 28, 3) := by decide +kernel
theorem dX2_isTurning_4 : decode cX2_isTurning 4 = .ok (.ifCond .eq 20, 3) := by decide +kernel
theorem dX2_isTurning_7 : decode cX2_isTurning 7 = .ok (.aload_n 0, 1) := by decide +kernel
theorem dX2_isTurning_8 : decode cX2_isTurning 8 = .ok (.aload_n 0, 1) := by decide +kernel
theorem dX2_isTurning_9 : decode cX2_isTurning 9 = .ok (.getfield 22, 3) := by decide +kernel
theorem dX2_isTurning_12 : decode cX2_isTurning 12 = .ok (.aload_n 0, 1) := by decide +kernel
theorem dX2_isTurning_13 : decode cX2_isTurning 13 = .ok (.getfield 9, 3) := by decide +kernel
theorem dX2_isTurning_16 : decode cX2_isTurning 16 = .ok (.iconst 2, 1) := by decide +kernel
theorem dX2_isTurning_17 : decode cX2_isTurning 17 = .ok (.iaload, 1) := by decide +kernel
theorem dX2_isTurning_18 : decode cX2_isTurning 18 = .ok (.invokevirtual 53, 3) := by decide +kernel
theorem dX2_isTurning_21 : decode cX2_isTurning 21 = .ok (.goto 11, 3) := by decide +kernel
theorem dX2_isTurning_24 : decode cX2_isTurning 24 = .ok (.aload_n 0, 1) := by decide +kernel
theorem dX2_isTurning_25 : decode cX2_isTurning 25 = .ok (.aload_n 0, 1) := by decide +kernel
theorem dX2_isTurning_26 : decode cX2_isTurning 26 = .ok (.getfield 22, 3) := by decide +kernel
theorem dX2_isTurning_29 : decode cX2_isTurning 29 = .ok (.invokevirtual 57, 3) := by decide +kernel
theorem dX2_isTurning_32 : decode cX2_isTurning 32 = .ok (.ireturn, 1) := by decide +kernel
theorem dX2_delayOf_0 : decode cX2_delayOf 0 = .ok (.iload_n 1, 1) := by decide +kernel
theorem dX2_delayOf_1 : decode cX2_delayOf 1 = .ok (.ifCond .eq 12, 3) := by decide +kernel
theorem dX2_delayOf_4 : decode cX2_delayOf 4 = .ok (.aload_n 0, 1) := by decide +kernel
theorem dX2_delayOf_5 : decode cX2_delayOf 5 = .ok (.getfield 9, 3) := by decide +kernel
theorem dX2_delayOf_8 : decode cX2_delayOf 8 = .ok (.iconst 4, 1) := by decide +kernel
theorem dX2_delayOf_9 : decode cX2_delayOf 9 = .ok (.iaload, 1) := by decide +kernel
theorem dX2_delayOf_10 : decode cX2_delayOf 10 = .ok (.goto 9, 3) := by decide +kernel
theorem dX2_delayOf_13 : decode cX2_delayOf 13 = .ok (.aload_n 0, 1) := by decide +kernel
theorem dX2_delayOf_14 : decode cX2_delayOf 14 = .ok (.getfield 9, 3) := by decide +kernel
theorem dX2_delayOf_17 : decode cX2_delayOf 17 = .ok (.iconst 3, 1) := by decide +kernel
theorem dX2_delayOf_18 : decode cX2_delayOf 18 = .ok (.iaload, 1) := by decide +kernel
theorem dX2_delayOf_19 : decode cX2_delayOf 19 = .ok (.ireturn, 1) := by decide +kernel
theorem dX2_isOver_0 : decode cX2_isOver 0 = .ok (.aload_n 0, 1) := by decide +kernel
theorem dX2_isOver_1 : decode cX2_isOver 1 = .ok (.getfield 9, 3) := by decide +kernel
theorem dX2_isOver_4 : decode cX2_isOver 4 = .ok (.iconst 0, 1) := by decide +kernel
theorem dX2_isOver_5 : decode cX2_isOver 5 = .ok (.iaload, 1) := by decide +kernel
theorem dX2_isOver_6 : decode cX2_isOver 6 = .ok (.ifCond .ne 21, 3) := by decide +kernel
theorem dX2_isOver_9 : decode cX2_isOver 9 = .ok (.iload_n 1, 1) := by decide +kernel
theorem dX2_isOver_10 : decode cX2_isOver 10 = .ok (.aload_n 0, 1) := by decide +kernel
theorem dX2_isOver_11 : decode cX2_isOver 11 = .ok (.getfield 9, 3) := by decide +kernel
theorem dX2_isOver_14 : decode cX2_isOver 14 = .ok (.iconst 1, 1) := by decide +kernel
theorem dX2_isOver_15 : decode cX2_isOver 15 = .ok (.iaload, 1) := by decide +kernel
theorem dX2_isOver_16 : decode cX2_isOver 16 = .ok (.if_icmp .lt 7, 3) := by decide +kernel
theorem dX2_isOver_19 : decode cX2_isOver 19 = .ok (.iconst 1, 1) := by decide +kernel
theorem dX2_isOver_20 : decode cX2_isOver 20 = .ok (.goto 22, 3) := by decide +kernel
theorem dX2_isOver_23 : decode cX2_isOver 23 = .ok (.iconst 0, 1) := by decide +kernel
theorem dX2_isOver_24 : decode cX2_isOver 24 = .ok (.goto 18, 3) := by decide +kernel
theorem dX2_isOver_27 : decode cX2_isOver 27 = .ok (.iload_n 1, 1) := by decide +kernel
theorem dX2_isOver_28 : decode cX2_isOver 28 = .ok (.aload_n 0, 1) := by decide +kernel
theorem dX2_isOver_29 : decode cX2_isOver 29 = .ok (.getfield 9, 3) := by decide +kernel
theorem dX2_isOver_32 : decode cX2_isOver 32 = .ok (.iconst 1, 1) := by decide +kernel
theorem dX2_isOver_33 : decode cX2_isOver 33 = .ok (.iaload, 1) := by decide +kernel
theorem dX2_isOver_34 : decode cX2_isOver 34 = .ok (.if_icmp .gt 7, 3) := by decide +kernel
theorem dX2_isOver_37 : decode cX2_isOver 37 = .ok (.iconst 1, 1) := by decide +kernel
theorem dX2_isOver_38 : decode cX2_isOver 38 = .ok (.goto 4, 3) := by decide +kernel
theorem dX2_isOver_41 : decode cX2_isOver 41 = .ok (.iconst 0, 1) := by decide +kernel
theorem dX2_isOver_42 : decode cX2_isOver 42 = .ok (.ireturn, 1) := by decide +kernel
theorem dX2_isClear_0 : decode cX2_isClear 0 = .ok (.aload_n 0, 1) := by decide +kernel
theorem dX2_isClear_1 : decode cX2_isClear 1 = .ok (.getfield 9, 3) := by decide +kernel
theorem dX2_isClear_4 : decode cX2_isClear 4 = .ok (.iconst 0, 1) := by decide +kernel
theorem dX2_isClear_5 : decode cX2_isClear 5 = .ok (.iaload, 1) := by decide +kernel
theorem dX2_isClear_6 : decode cX2_isClear 6 = .ok (.ifCond .ne 23, 3) := by decide +kernel
theorem dX2_isClear_9 : decode cX2_isClear 9 = .ok (.iload_n 1, 1) := by decide +kernel
theorem dX2_isClear_10 : decode cX2_isClear 10 = .ok (.aload_n 0, 1) := by decide +kernel
theorem dX2_isClear_11 : decode cX2_isClear 11 = .ok (.getfield 9, 3) := by decide +kernel
theorem dX2_isClear_14 : decode cX2_isClear 14 = .ok (.iconst 1, 1) := by decide +kernel
theorem dX2_isClear_15 : decode cX2_isClear 15 = .ok (.iaload, 1) := by decide +kernel
theorem dX2_isClear_16 : decode cX2_isClear 16 = .ok (.iload_n 2, 1) := by decide +kernel
theorem dX2_isClear_17 : decode cX2_isClear 17 = .ok (.isub, 1) := by decide +kernel
theorem dX2_isClear_18 : decode cX2_isClear 18 = .ok (.if_icmp .ge 7, 3) := by decide +kernel
theorem dX2_isClear_21 : decode cX2_isClear 21 = .ok (.iconst 1, 1) := by decide +kernel
theorem dX2_isClear_22 : decode cX2_isClear 22 = .ok (.goto 24, 3) := by decide +kernel
theorem dX2_isClear_25 : decode cX2_isClear 25 = .ok (.iconst 0, 1) := by decide +kernel
theorem dX2_isClear_26 : decode cX2_isClear 26 = .ok (.goto 20, 3) := by decide +kernel
theorem dX2_isClear_29 : decode cX2_isClear 29 = .ok (.iload_n 1, 1) := by decide +kernel
theorem dX2_isClear_30 : decode cX2_isClear 30 = .ok (.aload_n 0, 1) := by decide +kernel
theorem dX2_isClear_31 : decode cX2_isClear 31 = .ok (.getfield 9, 3) := by decide +kernel
theorem dX2_isClear_34 : decode cX2_isClear 34 = .ok (.iconst 1, 1) := by decide +kernel
theorem dX2_isClear_35 : decode cX2_isClear 35 = .ok (.iaload, 1) := by decide +kernel
theorem dX2_isClear_36 : decode cX2_isClear 36 = .ok (.iload_n 2, 1) := by decide +kernel
theorem dX2_isClear_37 : decode cX2_isClear 37 = .ok (.iadd, 1) := by decide +kernel
theorem dX2_isClear_38 : decode cX2_isClear 38 = .ok (.if_icmp .le 7, 3) := by decide +kernel
theorem dX2_isClear_41 : decode cX2_isClear 41 = .ok (.iconst 1, 1) := by decide +kernel
theorem dX2_isClear_42 : decode cX2_isClear 42 = .ok (.goto 4, 3) := by decide +kernel
theorem dX2_isClear_45 : decode cX2_isClear 45 = .ok (.iconst 0, 1) := by decide +kernel
theorem dX2_isClear_46 : decode cX2_isClear 46 = .ok (.ireturn, 1) := by decide +kernel
theorem dX2_putDownValue_0 : decode cX2_putDownValue 0 = .ok (.aload_n 0, 1) := by decide +kernel
theorem dX2_putDownValue_1 : decode cX2_putDownValue 1 = .ok (.getfield 15, 3) := by decide +kernel
theorem dX2_putDownValue_4 : decode cX2_putDownValue 4 = .ok (.aload_n 0, 1) := by decide +kernel
theorem dX2_putDownValue_5 : decode cX2_putDownValue 5 = .ok (.getfield 18, 3) := by decide +kernel
theorem dX2_putDownValue_8 : decode cX2_putDownValue 8 = .ok (.bipush 40, 2) := by decide +kernel
theorem dX2_putDownValue_10 : decode cX2_putDownValue 10 = .ok (.irem, 1) := by decide +kernel
theorem dX2_putDownValue_11 : decode cX2_putDownValue 11 = .ok (.aload_n 0, 1) := by decide +kernel
theorem dX2_putDownValue_12 : decode cX2_putDownValue 12 = .ok (.getfield 22, 3) := by decide +kernel
theorem dX2_putDownValue_15 : decode cX2_putDownValue 15 = .ok (.iastore, 1) := by decide +kernel
theorem dX2_putDownValue_16 : decode cX2_putDownValue 16 = .ok (.aload_n 0, 1) := by decide +kernel
theorem dX2_putDownValue_17 : decode cX2_putDownValue 17 = .ok (.dup, 1) := by decide +kernel
theorem dX2_putDownValue_18 : decode cX2_putDownValue 18 = .ok (.getfield 18, 3) := by decide +kernel
theorem dX2_putDownValue_21 : decode cX2_putDownValue 21 = .ok (.iconst 1, 1) := by decide +kernel
theorem dX2_putDownValue_22 : decode cX2_putDownValue 22 = .ok (.iadd, 1) := by decide +kernel
theorem dX2_putDownValue_23 : decode cX2_putDownValue 23 = .ok (.putfield 18, 3) := by decide +kernel
theorem dX2_putDownValue_26 : decode cX2_putDownValue 26 = .ok (.return_, 1) := by decide +kernel
theorem dX2_ownNumber_0 : decode cX2_ownNumber 0 = .ok (.iload_n 1, 1) := by decide +kernel
theorem dX2_ownNumber_1 : decode cX2_ownNumber 1 = .ok (.tableswitch 103 7 14 #[47, 52, 57, 70, 83, 88, 93, 98], 47) := by decide +kernel
theorem dX2_ownNumber_48 : decode cX2_ownNumber 48 = .ok (.aload_n 0, 1) := by decide +kernel
theorem dX2_ownNumber_49 : decode cX2_ownNumber 49 = .ok (.getfield 22, 3) := by decide +kernel
theorem dX2_ownNumber_52 : decode cX2_ownNumber 52 = .ok (.ireturn, 1) := by decide +kernel
theorem dX2_ownNumber_53 : decode cX2_ownNumber 53 = .ok (.aload_n 0, 1) := by decide +kernel
theorem dX2_ownNumber_54 : decode cX2_ownNumber 54 = .ok (.getfield 25, 3) := by decide +kernel
theorem dX2_ownNumber_57 : decode cX2_ownNumber 57 = .ok (.ireturn, 1) := by decide +kernel
theorem dX2_ownNumber_58 : decode cX2_ownNumber 58 = .ok (.aload_n 0, 1) := by decide +kernel
theorem dX2_ownNumber_59 : decode cX2_ownNumber 59 = .ok (.getfield 28, 3) := by decide +kernel
theorem dX2_ownNumber_62 : decode cX2_ownNumber 62 = .ok (.ifCond .eq 7, 3) := by decide +kernel
theorem dX2_ownNumber_65 : decode cX2_ownNumber 65 = .ok (.iconst 1, 1) := by decide +kernel
theorem dX2_ownNumber_66 : decode cX2_ownNumber 66 = .ok (.goto 4, 3) := by decide +kernel
theorem dX2_ownNumber_69 : decode cX2_ownNumber 69 = .ok (.iconst 0, 1) := by decide +kernel
theorem dX2_ownNumber_70 : decode cX2_ownNumber 70 = .ok (.ireturn, 1) := by decide +kernel
theorem dX2_ownNumber_71 : decode cX2_ownNumber 71 = .ok (.aload_n 0, 1) := by decide +kernel
theorem dX2_ownNumber_72 : decode cX2_ownNumber 72 = .ok (.getfield 32, 3) := by decide +kernel
theorem dX2_ownNumber_75 : decode cX2_ownNumber 75 = .ok (.ifCond .eq 7, 3) := by decide +kernel
theorem dX2_ownNumber_78 : decode cX2_ownNumber 78 = .ok (.iconst 1, 1) := by decide +kernel
theorem dX2_ownNumber_79 : decode cX2_ownNumber 79 = .ok (.goto 4, 3) := by decide +kernel
theorem dX2_ownNumber_82 : decode cX2_ownNumber 82 = .ok (.iconst 0, 1) := by decide +kernel
theorem dX2_ownNumber_83 : decode cX2_ownNumber 83 = .ok (.ireturn, 1) := by decide +kernel
theorem dX2_ownNumber_84 : decode cX2_ownNumber 84 = .ok (.aload_n 0, 1) := by decide +kernel
theorem dX2_ownNumber_85 : decode cX2_ownNumber 85 = .ok (.getfield 35, 3) := by decide +kernel
theorem dX2_ownNumber_88 : decode cX2_ownNumber 88 = .ok (.ireturn, 1) := by decide +kernel
theorem dX2_ownNumber_89 : decode cX2_ownNumber 89 = .ok (.aload_n 0, 1) := by decide +kernel
theorem dX2_ownNumber_90 : decode cX2_ownNumber 90 = .ok (.getfield 38, 3) := by decide +kernel
theorem dX2_ownNumber_93 : decode cX2_ownNumber 93 = .ok (.ireturn, 1) := by decide +kernel
theorem dX2_ownNumber_94 : decode cX2_ownNumber 94 = .ok (.aload_n 0, 1) := by decide +kernel
theorem dX2_ownNumber_95 : decode cX2_ownNumber 95 = .ok (.getfield 41, 3) := by decide +kernel
theorem dX2_ownNumber_98 : decode cX2_ownNumber 98 = .ok (.ireturn, 1) := by decide +kernel
theorem dX2_ownNumber_99 : decode cX2_ownNumber 99 = .ok (.aload_n 0, 1) := by decide +kernel
theorem dX2_ownNumber_100 : decode cX2_ownNumber 100 = .ok (.getfield 44, 3) := by decide +kernel
theorem dX2_ownNumber_103 : decode cX2_ownNumber 103 = .ok (.ireturn, 1) := by decide +kernel
theorem dX2_ownNumber_104 : decode cX2_ownNumber 104 = .ok (.iload_n 1, 1) := by decide +kernel
theorem dX2_ownNumber_105 : decode cX2_ownNumber 105 = .ok (.iconst 0, 1) := by decide +kernel
theorem dX2_ownNumber_106 : decode cX2_ownNumber 106 = .ok (.bipush 6, 2) := by decide +kernel
theorem dX2_ownNumber_108 : decode cX2_ownNumber 108 = .ok (.invokestatic 61, 3) := by decide +kernel
theorem dX2_ownNumber_111 : decode cX2_ownNumber 111 = .ok (.ifCond .eq 12, 3) := by decide +kernel
theorem dX2_ownNumber_114 : decode cX2_ownNumber 114 = .ok (.aload_n 0, 1) := by decide +kernel
theorem dX2_ownNumber_115 : decode cX2_ownNumber 115 = .ok (.getfield 9, 3) := by decide +kernel
theorem dX2_ownNumber_118 : decode cX2_ownNumber 118 = .ok (.iload_n 1, 1) := by decide +kernel
theorem dX2_ownNumber_119 : decode cX2_ownNumber 119 = .ok (.iaload, 1) := by decide +kernel
theorem dX2_ownNumber_120 : decode cX2_ownNumber 120 = .ok (.goto 6, 3) := by decide +kernel
theorem dX2_ownNumber_123 : decode cX2_ownNumber 123 = .ok (.sipush (-20001), 3) := by decide +kernel
theorem dX2_ownNumber_126 : decode cX2_ownNumber 126 = .ok (.ireturn, 1) := by decide +kernel
theorem dX2_alarmsWith_0 : decode cX2_alarmsWith 0 = .ok (.aload_n 0, 1) := by decide +kernel
theorem dX2_alarmsWith_1 : decode cX2_alarmsWith 1 = .ok (.getfield 18, 3) := by decide +kernel
theorem dX2_alarmsWith_4 : decode cX2_alarmsWith 4 = .ok (.bipush 40, 2) := by decide +kernel
theorem dX2_alarmsWith_6 : decode cX2_alarmsWith 6 = .ok (.if_icmp .le 13, 3) := by decide +kernel
theorem dX2_alarmsWith_9 : decode cX2_alarmsWith 9 = .ok (.aload_n 0, 1) := by decide +kernel
theorem dX2_alarmsWith_10 : decode cX2_alarmsWith 10 = .ok (.getfield 18, 3) := by decide +kernel
theorem dX2_alarmsWith_13 : decode cX2_alarmsWith 13 = .ok (.bipush 40, 2) := by decide +kernel
theorem dX2_alarmsWith_15 : decode cX2_alarmsWith 15 = .ok (.isub, 1) := by decide +kernel
theorem dX2_alarmsWith_16 : decode cX2_alarmsWith 16 = .ok (.goto 4, 3) := by decide +kernel
theorem dX2_alarmsWith_19 : decode cX2_alarmsWith 19 = .ok (.iconst 0, 1) := by decide +kernel
theorem dX2_alarmsWith_20 : decode cX2_alarmsWith 20 = .ok (.istore_n 2, 1) := by decide +kernel
theorem dX2_alarmsWith_21 : decode cX2_alarmsWith 21 = .ok (.iconst 0, 1) := by decide +kernel
theorem dX2_alarmsWith_22 : decode cX2_alarmsWith 22 = .ok (.istore_n 3, 1) := by decide +kernel
theorem dX2_alarmsWith_23 : decode cX2_alarmsWith 23 = .ok (.iconst 0, 1) := by decide +kernel
theorem dX2_alarmsWith_24 : decode cX2_alarmsWith 24 = .ok (.istore 4, 2) := by decide +kernel
theorem dX2_alarmsWith_26 : decode cX2_alarmsWith 26 = .ok (.iconst 0, 1) := by decide +kernel
theorem dX2_alarmsWith_27 : decode cX2_alarmsWith 27 = .ok (.istore 5, 2) := by decide +kernel
theorem dX2_alarmsWith_29 : decode cX2_alarmsWith 29 = .ok (.iload_n 2, 1) := by decide +kernel
theorem dX2_alarmsWith_30 : decode cX2_alarmsWith 30 = .ok (.istore 6, 2) := by decide +kernel
theorem dX2_alarmsWith_32 : decode cX2_alarmsWith 32 = .ok (.iload 6, 2) := by decide +kernel
theorem dX2_alarmsWith_34 : decode cX2_alarmsWith 34 = .ok (.aload_n 0, 1) := by decide +kernel
theorem dX2_alarmsWith_35 : decode cX2_alarmsWith 35 = .ok (.getfield 18, 3) := by decide +kernel
theorem dX2_alarmsWith_38 : decode cX2_alarmsWith 38 = .ok (.if_icmp .ge 95, 3) := by decide +kernel
theorem dX2_alarmsWith_41 : decode cX2_alarmsWith 41 = .ok (.aload_n 0, 1) := by decide +kernel
theorem dX2_alarmsWith_42 : decode cX2_alarmsWith 42 = .ok (.getfield 15, 3) := by decide +kernel
theorem dX2_alarmsWith_45 : decode cX2_alarmsWith 45 = .ok (.iload 6, 2) := by decide +kernel
theorem dX2_alarmsWith_47 : decode cX2_alarmsWith 47 = .ok (.bipush 40, 2) := by decide +kernel
theorem dX2_alarmsWith_49 : decode cX2_alarmsWith 49 = .ok (.irem, 1) := by decide +kernel
theorem dX2_alarmsWith_50 : decode cX2_alarmsWith 50 = .ok (.iaload, 1) := by decide +kernel
theorem dX2_alarmsWith_51 : decode cX2_alarmsWith 51 = .ok (.istore 7, 2) := by decide +kernel
theorem dX2_alarmsWith_53 : decode cX2_alarmsWith 53 = .ok (.iload_n 3, 1) := by decide +kernel
theorem dX2_alarmsWith_54 : decode cX2_alarmsWith 54 = .ok (.ifCond .eq 13, 3) := by decide +kernel
theorem dX2_alarmsWith_57 : decode cX2_alarmsWith 57 = .ok (.aload_n 0, 1) := by decide +kernel
theorem dX2_alarmsWith_58 : decode cX2_alarmsWith 58 = .ok (.iload 7, 2) := by decide +kernel
theorem dX2_alarmsWith_60 : decode cX2_alarmsWith 60 = .ok (.iload_n 1, 1) := by decide +kernel
theorem dX2_alarmsWith_61 : decode cX2_alarmsWith 61 = .ok (.invokevirtual 53, 3) := by decide +kernel
theorem dX2_alarmsWith_64 : decode cX2_alarmsWith 64 = .ok (.goto 9, 3) := by decide +kernel
theorem dX2_alarmsWith_67 : decode cX2_alarmsWith 67 = .ok (.aload_n 0, 1) := by decide +kernel
theorem dX2_alarmsWith_68 : decode cX2_alarmsWith 68 = .ok (.iload 7, 2) := by decide +kernel
theorem dX2_alarmsWith_70 : decode cX2_alarmsWith 70 = .ok (.invokevirtual 57, 3) := by decide +kernel
theorem dX2_alarmsWith_73 : decode cX2_alarmsWith 73 = .ok (.istore 8, 2) := by decide +kernel
theorem dX2_alarmsWith_75 : decode cX2_alarmsWith 75 = .ok (.iload 8, 2) := by decide +kernel
theorem dX2_alarmsWith_77 : decode cX2_alarmsWith 77 = .ok (.ifCond .eq 10, 3) := by decide +kernel
theorem dX2_alarmsWith_80 : decode cX2_alarmsWith 80 = .ok (.iload 4, 2) := by decide +kernel
theorem dX2_alarmsWith_82 : decode cX2_alarmsWith 82 = .ok (.iconst 1, 1) := by decide +kernel
theorem dX2_alarmsWith_83 : decode cX2_alarmsWith 83 = .ok (.iadd, 1) := by decide +kernel
theorem dX2_alarmsWith_84 : decode cX2_alarmsWith 84 = .ok (.goto 4, 3) := by decide +kernel
theorem dX2_alarmsWith_87 : decode cX2_alarmsWith 87 = .ok (.iconst 0, 1) := by decide +kernel
theorem dX2_alarmsWith_88 : decode cX2_alarmsWith 88 = .ok (.istore 4, 2) := by decide +kernel
theorem dX2_alarmsWith_90 : decode cX2_alarmsWith 90 = .ok (.iload 4, 2) := by decide +kernel
theorem dX2_alarmsWith_92 : decode cX2_alarmsWith 92 = .ok (.aload_n 0, 1) := by decide +kernel
theorem dX2_alarmsWith_93 : decode cX2_alarmsWith 93 = .ok (.iload_n 3, 1) := by decide +kernel
theorem dX2_alarmsWith_94 : decode cX2_alarmsWith 94 = .ok (.invokevirtual 65, 3) := by decide +kernel
theorem dX2_alarmsWith_97 : decode cX2_alarmsWith 97 = .ok (.if_icmp .le 30, 3) := by decide +kernel
theorem dX2_alarmsWith_100 : decode cX2_alarmsWith 100 = .ok (.iconst 0, 1) := by decide +kernel
theorem dX2_alarmsWith_101 : decode cX2_alarmsWith 101 = .ok (.istore 4, 2) := by decide +kernel
theorem dX2_alarmsWith_103 : decode cX2_alarmsWith 103 = .ok (.iload_n 3, 1) := by decide +kernel
theorem dX2_alarmsWith_104 : decode cX2_alarmsWith 104 = .ok (.ifCond .ne 7, 3) := by decide +kernel
theorem dX2_alarmsWith_107 : decode cX2_alarmsWith 107 = .ok (.iconst 1, 1) := by decide +kernel
theorem dX2_alarmsWith_108 : decode cX2_alarmsWith 108 = .ok (.goto 4, 3) := by decide +kernel
theorem dX2_alarmsWith_111 : decode cX2_alarmsWith 111 = .ok (.iconst 0, 1) := by decide +kernel
theorem dX2_alarmsWith_112 : decode cX2_alarmsWith 112 = .ok (.istore_n 3, 1) := by decide +kernel
theorem dX2_alarmsWith_113 : decode cX2_alarmsWith 113 = .ok (.iload 5, 2) := by decide +kernel
theorem dX2_alarmsWith_115 : decode cX2_alarmsWith 115 = .ok (.iload_n 3, 1) := by decide +kernel
theorem dX2_alarmsWith_116 : decode cX2_alarmsWith 116 = .ok (.ifCond .eq 7, 3) := by decide +kernel
theorem dX2_alarmsWith_119 : decode cX2_alarmsWith 119 = .ok (.iconst 1, 1) := by decide +kernel
theorem dX2_alarmsWith_120 : decode cX2_alarmsWith 120 = .ok (.goto 4, 3) := by decide +kernel
theorem dX2_alarmsWith_123 : decode cX2_alarmsWith 123 = .ok (.iconst 0, 1) := by decide +kernel
theorem dX2_alarmsWith_124 : decode cX2_alarmsWith 124 = .ok (.iadd, 1) := by decide +kernel
theorem dX2_alarmsWith_125 : decode cX2_alarmsWith 125 = .ok (.istore 5, 2) := by decide +kernel
theorem dX2_alarmsWith_127 : decode cX2_alarmsWith 127 = .ok (.iinc 6 1, 3) := by decide +kernel
theorem dX2_alarmsWith_130 : decode cX2_alarmsWith 130 = .ok (.goto (-98), 3) := by decide +kernel
theorem dX2_alarmsWith_133 : decode cX2_alarmsWith 133 = .ok (.iload 5, 2) := by decide +kernel
theorem dX2_alarmsWith_135 : decode cX2_alarmsWith 135 = .ok (.ireturn, 1) := by decide +kernel
theorem dX2_leastDeadbandFor_0 : decode cX2_leastDeadbandFor 0 = .ok (.aload_n 0, 1) := by decide +kernel
theorem dX2_leastDeadbandFor_1 : decode cX2_leastDeadbandFor 1 = .ok (.sipush 1000, 3) := by decide +kernel
theorem dX2_leastDeadbandFor_4 : decode cX2_leastDeadbandFor 4 = .ok (.invokevirtual 69, 3) := by decide +kernel
theorem dX2_leastDeadbandFor_7 : decode cX2_leastDeadbandFor 7 = .ok (.iload_n 1, 1) := by decide +kernel
theorem dX2_leastDeadbandFor_8 : decode cX2_leastDeadbandFor 8 = .ok (.if_icmp .le 7, 3) := by decide +kernel
theorem dX2_leastDeadbandFor_11 : decode cX2_leastDeadbandFor 11 = .ok (.sipush (-20009), 3) := by decide +kernel
theorem dX2_leastDeadbandFor_14 : decode cX2_leastDeadbandFor 14 = .ok (.ireturn, 1) := by decide +kernel
theorem dX2_leastDeadbandFor_15 : decode cX2_leastDeadbandFor 15 = .ok (.iconst 0, 1) := by decide +kernel
theorem dX2_leastDeadbandFor_16 : decode cX2_leastDeadbandFor 16 = .ok (.istore_n 2, 1) := by decide +kernel
theorem dX2_leastDeadbandFor_17 : decode cX2_leastDeadbandFor 17 = .ok (.sipush 1000, 3) := by decide +kernel
theorem dX2_leastDeadbandFor_20 : decode cX2_leastDeadbandFor 20 = .ok (.istore_n 3, 1) := by decide +kernel
theorem dX2_leastDeadbandFor_21 : decode cX2_leastDeadbandFor 21 = .ok (.iconst 0, 1) := by decide +kernel
theorem dX2_leastDeadbandFor_22 : decode cX2_leastDeadbandFor 22 = .ok (.istore 4, 2) := by decide +kernel
theorem dX2_leastDeadbandFor_24 : decode cX2_leastDeadbandFor 24 = .ok (.iload 4, 2) := by decide +kernel
theorem dX2_leastDeadbandFor_26 : decode cX2_leastDeadbandFor 26 = .ok (.sipush 1000, 3) := by decide +kernel
theorem dX2_leastDeadbandFor_29 : decode cX2_leastDeadbandFor 29 = .ok (.if_icmp .ge 42, 3) := by decide +kernel
theorem dX2_leastDeadbandFor_32 : decode cX2_leastDeadbandFor 32 = .ok (.iload_n 2, 1) := by decide +kernel
theorem dX2_leastDeadbandFor_33 : decode cX2_leastDeadbandFor 33 = .ok (.iload_n 3, 1) := by decide +kernel
theorem dX2_leastDeadbandFor_34 : decode cX2_leastDeadbandFor 34 = .ok (.if_icmp .ge 37, 3) := by decide +kernel
theorem dX2_leastDeadbandFor_37 : decode cX2_leastDeadbandFor 37 = .ok (.iload_n 2, 1) := by decide +kernel
theorem dX2_leastDeadbandFor_38 : decode cX2_leastDeadbandFor 38 = .ok (.iload_n 3, 1) := by decide +kernel
theorem dX2_leastDeadbandFor_39 : decode cX2_leastDeadbandFor 39 = .ok (.iadd, 1) := by decide +kernel
theorem dX2_leastDeadbandFor_40 : decode cX2_leastDeadbandFor 40 = .ok (.iconst 2, 1) := by decide +kernel
theorem dX2_leastDeadbandFor_41 : decode cX2_leastDeadbandFor 41 = .ok (.idiv, 1) := by decide +kernel
theorem dX2_leastDeadbandFor_42 : decode cX2_leastDeadbandFor 42 = .ok (.istore 5, 2) := by decide +kernel
theorem dX2_leastDeadbandFor_44 : decode cX2_leastDeadbandFor 44 = .ok (.aload_n 0, 1) := by decide +kernel
theorem dX2_leastDeadbandFor_45 : decode cX2_leastDeadbandFor 45 = .ok (.iload 5, 2) := by decide +kernel
theorem dX2_leastDeadbandFor_47 : decode cX2_leastDeadbandFor 47 = .ok (.invokevirtual 69, 3) := by decide +kernel
theorem dX2_leastDeadbandFor_50 : decode cX2_leastDeadbandFor 50 = .ok (.iload_n 1, 1) := by decide +kernel
theorem dX2_leastDeadbandFor_51 : decode cX2_leastDeadbandFor 51 = .ok (.if_icmp .le 11, 3) := by decide +kernel
theorem dX2_leastDeadbandFor_54 : decode cX2_leastDeadbandFor 54 = .ok (.iload 5, 2) := by decide +kernel
theorem dX2_leastDeadbandFor_56 : decode cX2_leastDeadbandFor 56 = .ok (.iconst 1, 1) := by decide +kernel
theorem dX2_leastDeadbandFor_57 : decode cX2_leastDeadbandFor 57 = .ok (.iadd, 1) := by decide +kernel
theorem dX2_leastDeadbandFor_58 : decode cX2_leastDeadbandFor 58 = .ok (.istore_n 2, 1) := by decide +kernel
theorem dX2_leastDeadbandFor_59 : decode cX2_leastDeadbandFor 59 = .ok (.goto 6, 3) := by decide +kernel
theorem dX2_leastDeadbandFor_62 : decode cX2_leastDeadbandFor 62 = .ok (.iload 5, 2) := by decide +kernel
theorem dX2_leastDeadbandFor_64 : decode cX2_leastDeadbandFor 64 = .ok (.istore_n 3, 1) := by decide +kernel
theorem dX2_leastDeadbandFor_65 : decode cX2_leastDeadbandFor 65 = .ok (.iinc 4 1, 3) := by decide +kernel
theorem dX2_leastDeadbandFor_68 : decode cX2_leastDeadbandFor 68 = .ok (.goto (-44), 3) := by decide +kernel
theorem dX2_leastDeadbandFor_71 : decode cX2_leastDeadbandFor 71 = .ok (.iload_n 3, 1) := by decide +kernel
theorem dX2_leastDeadbandFor_72 : decode cX2_leastDeadbandFor 72 = .ok (.ireturn, 1) := by decide +kernel
theorem dX3_init_0 : decode cX3_init 0 = .ok (.aload_n 0, 1) := by decide +kernel
theorem dX3_init_1 : decode cX3_init 1 = .ok (.invokespecial 3, 3) := by decide +kernel
theorem dX3_init_4 : decode cX3_init 4 = .ok (.aload_n 0, 1) := by decide +kernel
theorem dX3_init_5 : decode cX3_init 5 = .ok (.bipush 80, 2) := by decide +kernel
theorem dX3_init_7 : decode cX3_init 7 = .ok (.newarray .char, 2) := by decide +kernel
theorem dX3_init_9 : decode cX3_init 9 = .ok (.putfield 11, 3) := by decide +kernel
theorem dX3_init_12 : decode cX3_init 12 = .ok (.aload_n 0, 1) := by decide +kernel
theorem dX3_init_13 : decode cX3_init 13 = .ok (.bipush 14, 2) := by decide +kernel
theorem dX3_init_15 : decode cX3_init 15 = .ok (.newarray .int, 2) := by decide +kernel
theorem dX3_init_17 : decode cX3_init 17 = .ok (.putfield 15, 3) := by decide +kernel
theorem dX3_init_20 : decode cX3_init 20 = .ok (.aload_n 0, 1) := by decide +kernel
theorem dX3_init_21 : decode cX3_init 21 = .ok (.bipush 14, 2) := by decide +kernel
theorem dX3_init_23 : decode cX3_init 23 = .ok (.newarray .int, 2) := by decide +kernel
theorem dX3_init_25 : decode cX3_init 25 = .ok (.putfield 19, 3) := by decide +kernel
theorem dX3_init_28 : decode cX3_init 28 = .ok (.aload_n 0, 1) := by decide +kernel
theorem dX3_init_29 : decode cX3_init 29 = .ok (.bipush 14, 2) := by decide +kernel
theorem dX3_init_31 : decode cX3_init 31 = .ok (.newarray .int, 2) := by decide +kernel
theorem dX3_init_33 : decode cX3_init 33 = .ok (.putfield 22, 3) := by decide +kernel
theorem dX3_init_36 : decode cX3_init 36 = .ok (.return_, 1) := by decide +kernel
theorem dX3_append_0 : decode cX3_append 0 = .ok (.aload_n 0, 1) := by decide +kernel
theorem dX3_append_1 : decode cX3_append 1 = .ok (.getfield 25, 3) := by decide +kernel
theorem dX3_append_4 : decode cX3_append 4 = .ok (.bipush 80, 2) := by decide +kernel
theorem dX3_append_6 : decode cX3_append 6 = .ok (.if_icmp .lt 7, 3) := by decide +kernel
theorem dX3_append_9 : decode cX3_append 9 = .ok (.sipush (-20003), 3) := by decide +kernel
theorem dX3_append_12 : decode cX3_append 12 = .ok (.ireturn, 1) := by decide +kernel
theorem dX3_append_13 : decode cX3_append 13 = .ok (.aload_n 0, 1) := by decide +kernel
theorem dX3_append_14 : decode cX3_append 14 = .ok (.getfield 11, 3) := by decide +kernel
theorem dX3_append_17 : decode cX3_append 17 = .ok (.aload_n 0, 1) := by decide +kernel
theorem dX3_append_18 : decode cX3_append 18 = .ok (.getfield 25, 3) := by decide +kernel
theorem dX3_append_21 : decode cX3_append 21 = .ok (.iload_n 1, 1) := by decide +kernel
theorem dX3_append_22 : decode cX3_append 22 = .ok (.castore, 1) := by decide +kernel
theorem dX3_append_23 : decode cX3_append 23 = .ok (.aload_n 0, 1) := by decide +kernel
theorem dX3_append_24 : decode cX3_append 24 = .ok (.dup, 1) := by decide +kernel
theorem dX3_append_25 : decode cX3_append 25 = .ok (.getfield 25, 3) := by decide +kernel
theorem dX3_append_28 : decode cX3_append 28 = .ok (.iconst 1, 1) := by decide +kernel
theorem dX3_append_29 : decode cX3_append 29 = .ok (.iadd, 1) := by decide +kernel
theorem dX3_append_30 : decode cX3_append 30 = .ok (.putfield 25, 3) := by decide +kernel
theorem dX3_append_33 : decode cX3_append 33 = .ok (.aload_n 0, 1) := by decide +kernel
theorem dX3_append_34 : decode cX3_append 34 = .ok (.getfield 25, 3) := by decide +kernel
theorem dX3_append_37 : decode cX3_append 37 = .ok (.ireturn, 1) := by decide +kernel
