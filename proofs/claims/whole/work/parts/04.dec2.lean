theorem dX6_init_0 : decode cX6_init 0 = .ok (.aload_n 0, 1) := by decide +kernel
theorem dX6_init_1 : decode cX6_init 1 = .ok (.invokespecial 1, 3) := by decide +kernel
theorem dX6_init_4 : decode cX6_init 4 = .ok (.aload_n 0, 1) := by decide +kernel
theorem dX6_init_5 : decode cX6_init 5 = .ok (.sipush 1080, 3) := by decide +kernel
theorem dX6_init_8 : decode cX6_init 8 = .ok (.newarray .int, 2) := by decide +kernel
theorem dX6_init_10 : decode cX6_init 10 = .ok (.putfield 7, 3) := by decide +kernel
theorem dX6_init_13 : decode cX6_init 13 = .ok (.aload_n 0, 1) := by decide +kernel
theorem dX6_init_14 : decode cX6_init 14 = .ok (.sipush 1080, 3) := by decide +kernel
theorem dX6_init_17 : decode cX6_init 17 = .ok (.newarray .int, 2) := by decide +kernel
theorem dX6_init_19 : decode cX6_init 19 = .ok (.putfield 13, 3) := by decide +kernel
theorem dX6_init_22 : decode cX6_init 22 = .ok (.aload_n 0, 1) := by decide +kernel
theorem dX6_init_23 : decode cX6_init 23 = .ok (.sipush 4320, 3) := by decide +kernel
theorem dX6_init_26 : decode cX6_init 26 = .ok (.newarray .int, 2) := by decide +kernel
theorem dX6_init_28 : decode cX6_init 28 = .ok (.putfield 16, 3) := by decide +kernel
theorem dX6_init_31 : decode cX6_init 31 = .ok (.aload_n 0, 1) := by decide +kernel
theorem dX6_init_32 : decode cX6_init 32 = .ok (.bipush 16, 2) := by decide +kernel
theorem dX6_init_34 : decode cX6_init 34 = .ok (.newarray .int, 2) := by decide +kernel
theorem dX6_init_36 : decode cX6_init 36 = .ok (.putfield 19, 3) := by decide +kernel
theorem dX6_init_39 : decode cX6_init 39 = .ok (.aload_n 0, 1) := by decide +kernel
theorem dX6_init_40 : decode cX6_init 40 = .ok (.bipush 80, 2) := by decide +kernel
theorem dX6_init_42 : decode cX6_init 42 = .ok (.newarray .int, 2) := by decide +kernel
theorem dX6_init_44 : decode cX6_init 44 = .ok (.putfield 22, 3) := by decide +kernel
theorem dX6_init_47 : decode cX6_init 47 = .ok (.aload_n 0, 1) := by decide +kernel
theorem dX6_init_48 : decode cX6_init 48 = .ok (.bipush 63, 2) := by decide +kernel
theorem dX6_init_50 : decode cX6_init 50 = .ok (.newarray .int, 2) := by decide +kernel
theorem dX6_init_52 : decode cX6_init 52 = .ok (.putfield 25, 3) := by decide +kernel
theorem dX6_init_55 : decode cX6_init 55 = .ok (.aload_n 0, 1) := by decide +kernel
theorem dX6_init_56 : decode cX6_init 56 = .ok (.getfield 7, 3) := by decide +kernel
theorem dX6_init_59 : decode cX6_init 59 = .ok (.iconst 5, 1) := by decide +kernel
theorem dX6_init_60 : decode cX6_init 60 = .ok (.bipush 10, 2) := by decide +kernel
theorem dX6_init_62 : decode cX6_init 62 = .ok (.iastore, 1) := by decide +kernel
theorem dX6_init_63 : decode cX6_init 63 = .ok (.aload_n 0, 1) := by decide +kernel
theorem dX6_init_64 : decode cX6_init 64 = .ok (.getfield 7, 3) := by decide +kernel
theorem dX6_init_67 : decode cX6_init 67 = .ok (.bipush 6, 2) := by decide +kernel
theorem dX6_init_69 : decode cX6_init 69 = .ok (.iconst 5, 1) := by decide +kernel
theorem dX6_init_70 : decode cX6_init 70 = .ok (.iastore, 1) := by decide +kernel
theorem dX6_init_71 : decode cX6_init 71 = .ok (.aload_n 0, 1) := by decide +kernel
theorem dX6_init_72 : decode cX6_init 72 = .ok (.getfield 7, 3) := by decide +kernel
theorem dX6_init_75 : decode cX6_init 75 = .ok (.bipush 7, 2) := by decide +kernel
theorem dX6_init_77 : decode cX6_init 77 = .ok (.iconst 2, 1) := by decide +kernel
theorem dX6_init_78 : decode cX6_init 78 = .ok (.iastore, 1) := by decide +kernel
theorem dX6_init_79 : decode cX6_init 79 = .ok (.return_, 1) := by decide +kernel
theorem dX6_in_0 : decode cX6_in 0 = .ok (.iload_n 0, 1) := by decide +kernel
theorem dX6_in_1 : decode cX6_in 1 = .ok (.iload_n 1, 1) := by decide +kernel
theorem dX6_in_2 : decode cX6_in 2 = .ok (.if_icmp .lt 12, 3) := by decide +kernel
theorem dX6_in_5 : decode cX6_in 5 = .ok (.iload_n 0, 1) := by decide +kernel
theorem dX6_in_6 : decode cX6_in 6 = .ok (.iload_n 2, 1) := by decide +kernel
theorem dX6_in_7 : decode cX6_in 7 = .ok (.if_icmp .gt 7, 3) := by decide +kernel
theorem dX6_in_10 : decode cX6_in 10 = .ok (.iconst 1, 1) := by decide +kernel
theorem dX6_in_11 : decode cX6_in 11 = .ok (.goto 4, 3) := by decide +kernel
theorem dX6_in_14 : decode cX6_in 14 = .ok (.iconst 0, 1) := by decide +kernel
theorem dX6_in_15 : decode cX6_in 15 = .ok (.ireturn, 1) := by decide +kernel
theorem dX6_keeps_0 : decode cX6_keeps 0 = .ok (.aload_n 0, 1) := by decide +kernel
theorem dX6_keeps_1 : decode cX6_keeps 1 = .ok (.getfield 28, 3) := by decide +kernel
theorem dX6_keeps_4 : decode cX6_keeps 4 = .ok (.iconst 4, 1) := by decide +kernel
theorem dX6_keeps_5 : decode cX6_keeps 5 = .ok (.if_icmp .ne 44, 3) := by decide +kernel
theorem dX6_keeps_8 : decode cX6_keeps 8 = .ok (.iconst 0, 1) := by decide +kernel
theorem dX6_keeps_9 : decode cX6_keeps 9 = .ok (.istore_n 2, 1) := by decide +kernel
theorem dX6_keeps_10 : decode cX6_keeps 10 = .ok (.iload_n 2, 1) := by decide +kernel
theorem dX6_keeps_11 : decode cX6_keeps 11 = .ok (.sipush 3240, 3) := by decide +kernel
theorem dX6_keeps_14 : decode cX6_keeps 14 = .ok (.if_icmp .ge 25, 3) := by decide +kernel
theorem dX6_keeps_17 : decode cX6_keeps 17 = .ok (.aload_n 0, 1) := by decide +kernel
theorem dX6_keeps_18 : decode cX6_keeps 18 = .ok (.getfield 16, 3) := by decide +kernel
theorem dX6_keeps_21 : decode cX6_keeps 21 = .ok (.iload_n 2, 1) := by decide +kernel
theorem dX6_keeps_22 : decode cX6_keeps 22 = .ok (.aload_n 0, 1) := by decide +kernel
theorem dX6_keeps_23 : decode cX6_keeps 23 = .ok (.getfield 16, 3) := by decide +kernel
theorem dX6_keeps_26 : decode cX6_keeps 26 = .ok (.iload_n 2, 1) := by decide +kernel
theorem dX6_keeps_27 : decode cX6_keeps 27 = .ok (.sipush 1080, 3) := by decide +kernel
theorem dX6_keeps_30 : decode cX6_keeps 30 = .ok (.iadd, 1) := by decide +kernel
theorem dX6_keeps_31 : decode cX6_keeps 31 = .ok (.iaload, 1) := by decide +kernel
theorem dX6_keeps_32 : decode cX6_keeps 32 = .ok (.iastore, 1) := by decide +kernel
theorem dX6_keeps_33 : decode cX6_keeps 33 = .ok (.iinc 2 1, 3) := by decide +kernel
theorem dX6_keeps_36 : decode cX6_keeps 36 = .ok (.goto (-26), 3) := by decide +kernel
theorem dX6_keeps_39 : decode cX6_keeps 39 = .ok (.aload_n 0, 1) := by decide +kernel
theorem dX6_keeps_40 : decode cX6_keeps 40 = .ok (.dup, 1) := by decide +kernel
theorem dX6_keeps_41 : decode cX6_keeps 41 = .ok (.getfield 28, 3) := by decide +kernel
theorem dX6_keeps_44 : decode cX6_keeps 44 = .ok (.iconst 1, 1) := by decide +kernel
theorem dX6_keeps_45 : decode cX6_keeps 45 = .ok (.isub, 1) := by decide +kernel
theorem dX6_keeps_46 : decode cX6_keeps 46 = .ok (.putfield 28, 3) := by decide +kernel
theorem dX6_keeps_49 : decode cX6_keeps 49 = .ok (.iconst 0, 1) := by decide +kernel
theorem dX6_keeps_50 : decode cX6_keeps 50 = .ok (.istore_n 2, 1) := by decide +kernel
theorem dX6_keeps_51 : decode cX6_keeps 51 = .ok (.iload_n 2, 1) := by decide +kernel
theorem dX6_keeps_52 : decode cX6_keeps 52 = .ok (.sipush 1080, 3) := by decide +kernel
theorem dX6_keeps_55 : decode cX6_keeps 55 = .ok (.if_icmp .ge 27, 3) := by decide +kernel
theorem dX6_keeps_58 : decode cX6_keeps 58 = .ok (.aload_n 0, 1) := by decide +kernel
theorem dX6_keeps_59 : decode cX6_keeps 59 = .ok (.getfield 16, 3) := by decide +kernel
theorem dX6_keeps_62 : decode cX6_keeps 62 = .ok (.sipush 1080, 3) := by decide +kernel
theorem dX6_keeps_65 : decode cX6_keeps 65 = .ok (.aload_n 0, 1) := by decide +kernel
theorem dX6_keeps_66 : decode cX6_keeps 66 = .ok (.getfield 28, 3) := by decide +kernel
theorem dX6_keeps_69 : decode cX6_keeps 69 = .ok (.imul, 1) := by decide +kernel
theorem dX6_keeps_70 : decode cX6_keeps 70 = .ok (.iload_n 2, 1) := by decide +kernel
theorem dX6_keeps_71 : decode cX6_keeps 71 = .ok (.iadd, 1) := by decide +kernel
theorem dX6_keeps_72 : decode cX6_keeps 72 = .ok (.aload_n 1, 1) := by decide +kernel
theorem dX6_keeps_73 : decode cX6_keeps 73 = .ok (.iload_n 2, 1) := by decide +kernel
theorem dX6_keeps_74 : decode cX6_keeps 74 = .ok (.iaload, 1) := by decide +kernel
theorem dX6_keeps_75 : decode cX6_keeps 75 = .ok (.iastore, 1) := by decide +kernel
theorem dX6_keeps_76 : decode cX6_keeps 76 = .ok (.iinc 2 1, 3) := by decide +kernel
theorem dX6_keeps_79 : decode cX6_keeps 79 = .ok (.goto (-28), 3) := by decide +kernel
theorem dX6_keeps_82 : decode cX6_keeps 82 = .ok (.aload_n 0, 1) := by decide +kernel
theorem dX6_keeps_83 : decode cX6_keeps 83 = .ok (.dup, 1) := by decide +kernel
theorem dX6_keeps_84 : decode cX6_keeps 84 = .ok (.getfield 28, 3) := by decide +kernel
theorem dX6_keeps_87 : decode cX6_keeps 87 = .ok (.iconst 1, 1) := by decide +kernel
theorem dX6_keeps_88 : decode cX6_keeps 88 = .ok (.iadd, 1) := by decide +kernel
theorem dX6_keeps_89 : decode cX6_keeps 89 = .ok (.putfield 28, 3) := by decide +kernel
theorem dX6_keeps_92 : decode cX6_keeps 92 = .ok (.return_, 1) := by decide +kernel
theorem dX6_copies_0 : decode cX6_copies 0 = .ok (.iconst 0, 1) := by decide +kernel
theorem dX6_copies_1 : decode cX6_copies 1 = .ok (.istore_n 2, 1) := by decide +kernel
theorem dX6_copies_2 : decode cX6_copies 2 = .ok (.iload_n 2, 1) := by decide +kernel
theorem dX6_copies_3 : decode cX6_copies 3 = .ok (.sipush 1080, 3) := by decide +kernel
theorem dX6_copies_6 : decode cX6_copies 6 = .ok (.if_icmp .ge 15, 3) := by decide +kernel
theorem dX6_copies_9 : decode cX6_copies 9 = .ok (.aload_n 1, 1) := by decide +kernel
theorem dX6_copies_10 : decode cX6_copies 10 = .ok (.iload_n 2, 1) := by decide +kernel
theorem dX6_copies_11 : decode cX6_copies 11 = .ok (.aload_n 0, 1) := by decide +kernel
theorem dX6_copies_12 : decode cX6_copies 12 = .ok (.iload_n 2, 1) := by decide +kernel
theorem dX6_copies_13 : decode cX6_copies 13 = .ok (.iaload, 1) := by decide +kernel
theorem dX6_copies_14 : decode cX6_copies 14 = .ok (.iastore, 1) := by decide +kernel
theorem dX6_copies_15 : decode cX6_copies 15 = .ok (.iinc 2 1, 3) := by decide +kernel
theorem dX6_copies_18 : decode cX6_copies 18 = .ok (.goto (-16), 3) := by decide +kernel
theorem dX6_copies_21 : decode cX6_copies 21 = .ok (.return_, 1) := by decide +kernel
theorem dX6_of_0 : decode cX6_of 0 = .ok (.aload_n 0, 1) := by decide +kernel
theorem dX6_of_1 : decode cX6_of 1 = .ok (.getfield 7, 3) := by decide +kernel
theorem dX6_of_4 : decode cX6_of 4 = .ok (.sipush 176, 3) := by decide +kernel
theorem dX6_of_7 : decode cX6_of 7 = .ok (.bipush 56, 2) := by decide +kernel
theorem dX6_of_9 : decode cX6_of 9 = .ok (.iload_n 1, 1) := by decide +kernel
theorem dX6_of_10 : decode cX6_of 10 = .ok (.imul, 1) := by decide +kernel
theorem dX6_of_11 : decode cX6_of 11 = .ok (.iadd, 1) := by decide +kernel
theorem dX6_of_12 : decode cX6_of 12 = .ok (.iload_n 2, 1) := by decide +kernel
theorem dX6_of_13 : decode cX6_of 13 = .ok (.iadd, 1) := by decide +kernel
theorem dX6_of_14 : decode cX6_of 14 = .ok (.iaload, 1) := by decide +kernel
theorem dX6_of_15 : decode cX6_of 15 = .ok (.ireturn, 1) := by decide +kernel
theorem dX6_puts_0 : decode cX6_puts 0 = .ok (.aload_n 0, 1) := by decide +kernel
theorem dX6_puts_1 : decode cX6_puts 1 = .ok (.getfield 7, 3) := by decide +kernel
theorem dX6_puts_4 : decode cX6_puts 4 = .ok (.sipush 176, 3) := by decide +kernel
theorem dX6_puts_7 : decode cX6_puts 7 = .ok (.bipush 56, 2) := by decide +kernel
theorem dX6_puts_9 : decode cX6_puts 9 = .ok (.iload_n 1, 1) := by decide +kernel
theorem dX6_puts_10 : decode cX6_puts 10 = .ok (.imul, 1) := by decide +kernel
theorem dX6_puts_11 : decode cX6_puts 11 = .ok (.iadd, 1) := by decide +kernel
theorem dX6_puts_12 : decode cX6_puts 12 = .ok (.iload_n 2, 1) := by decide +kernel
theorem dX6_puts_13 : decode cX6_puts 13 = .ok (.iadd, 1) := by decide +kernel
theorem dX6_puts_14 : decode cX6_puts 14 = .ok (.iload_n 3, 1) := by decide +kernel
theorem dX6_puts_15 : decode cX6_puts 15 = .ok (.iastore, 1) := by decide +kernel
theorem dX6_puts_16 : decode cX6_puts 16 = .ok (.return_, 1) := by decide +kernel
theorem dX6_isPoint_0 : decode cX6_isPoint 0 = .ok (.iload_n 1, 1) := by decide +kernel
theorem dX6_isPoint_1 : decode cX6_isPoint 1 = .ok (.iconst 0, 1) := by decide +kernel
theorem dX6_isPoint_2 : decode cX6_isPoint 2 = .ok (.aload_n 0, 1) := by decide +kernel
theorem dX6_isPoint_3 : decode cX6_isPoint 3 = .ok (.getfield 7, 3) := by decide +kernel
theorem dX6_isPoint_6 : decode cX6_isPoint 6 = .ok (.iconst 0, 1) := by decide +kernel
theorem dX6_isPoint_7 : decode cX6_isPoint 7 = .ok (.iaload, 1) := by decide +kernel
theorem dX6_isPoint_8 : decode cX6_isPoint 8 = .ok (.iconst 1, 1) := by decide +kernel
theorem dX6_isPoint_9 : decode cX6_isPoint 9 = .ok (.isub, 1) := by decide +kernel
theorem dX6_isPoint_10 : decode cX6_isPoint 10 = .ok (.invokestatic 32, 3) := by decide +kernel
theorem dX6_isPoint_13 : decode cX6_isPoint 13 = .ok (.ireturn, 1) := by decide +kernel
theorem dX6_isValue_0 : decode cX6_isValue 0 = .ok (.iload_n 0, 1) := by decide +kernel
theorem dX6_isValue_1 : decode cX6_isValue 1 = .ok (.sipush (-10000), 3) := by decide +kernel
theorem dX6_isValue_4 : decode cX6_isValue 4 = .ok (.sipush 10000, 3) := by decide +kernel
theorem dX6_isValue_7 : decode cX6_isValue 7 = .ok (.invokestatic 32, 3) := by decide +kernel
theorem dX6_isValue_10 : decode cX6_isValue 10 = .ok (.ireturn, 1) := by decide +kernel
theorem dX6_happens_0 : decode cX6_happens 0 = .ok (.bipush 80, 2) := by decide +kernel
theorem dX6_happens_2 : decode cX6_happens 2 = .ok (.iconst 3, 1) := by decide +kernel
theorem dX6_happens_3 : decode cX6_happens 3 = .ok (.aload_n 0, 1) := by decide +kernel
theorem dX6_happens_4 : decode cX6_happens 4 = .ok (.getfield 7, 3) := by decide +kernel
theorem dX6_happens_7 : decode cX6_happens 7 = .ok (.bipush 9, 2) := by decide +kernel
theorem dX6_happens_9 : decode cX6_happens 9 = .ok (.iaload, 1) := by decide +kernel
theorem dX6_happens_10 : decode cX6_happens 10 = .ok (.bipush 30, 2) := by decide +kernel
theorem dX6_happens_12 : decode cX6_happens 12 = .ok (.irem, 1) := by decide +kernel
theorem dX6_happens_13 : decode cX6_happens 13 = .ok (.imul, 1) := by decide +kernel
theorem dX6_happens_14 : decode cX6_happens 14 = .ok (.iadd, 1) := by decide +kernel
theorem dX6_happens_15 : decode cX6_happens 15 = .ok (.istore_n 3, 1) := by decide +kernel
theorem dX6_happens_16 : decode cX6_happens 16 = .ok (.aload_n 0, 1) := by decide +kernel
theorem dX6_happens_17 : decode cX6_happens 17 = .ok (.getfield 7, 3) := by decide +kernel
theorem dX6_happens_20 : decode cX6_happens 20 = .ok (.iload_n 3, 1) := by decide +kernel
theorem dX6_happens_21 : decode cX6_happens 21 = .ok (.aload_n 0, 1) := by decide +kernel
theorem dX6_happens_22 : decode cX6_happens 22 = .ok (.getfield 7, 3) := by decide +kernel
theorem dX6_happens_25 : decode cX6_happens 25 = .ok (.iconst 1, 1) := by decide +kernel
theorem dX6_happens_26 : decode cX6_happens 26 = .ok (.iaload, 1) := by decide +kernel
theorem dX6_happens_27 : decode cX6_happens 27 = .ok (.iastore, 1) := by decide +kernel
theorem dX6_happens_28 : decode cX6_happens 28 = .ok (.aload_n 0, 1) := by decide +kernel
theorem dX6_happens_29 : decode cX6_happens 29 = .ok (.getfield 7, 3) := by decide +kernel
theorem dX6_happens_32 : decode cX6_happens 32 = .ok (.iload_n 3, 1) := by decide +kernel
theorem dX6_happens_33 : decode cX6_happens 33 = .ok (.iconst 1, 1) := by decide +kernel
theorem dX6_happens_34 : decode cX6_happens 34 = .ok (.iadd, 1) := by decide +kernel
theorem dX6_happens_35 : decode cX6_happens 35 = .ok (.iload_n 1, 1) := by decide +kernel
theorem dX6_happens_36 : decode cX6_happens 36 = .ok (.iastore, 1) := by decide +kernel
theorem dX6_happens_37 : decode cX6_happens 37 = .ok (.aload_n 0, 1) := by decide +kernel
theorem dX6_happens_38 : decode cX6_happens 38 = .ok (.getfield 7, 3) := by decide +kernel
theorem dX6_happens_41 : decode cX6_happens 41 = .ok (.iload_n 3, 1) := by decide +kernel
theorem dX6_happens_42 : decode cX6_happens 42 = .ok (.iconst 2, 1) := by decide +kernel
theorem dX6_happens_43 : decode cX6_happens 43 = .ok (.iadd, 1) := by decide +kernel
theorem dX6_happens_44 : decode cX6_happens 44 = .ok (.iload_n 2, 1) := by decide +kernel
theorem dX6_happens_45 : decode cX6_happens 45 = .ok (.iastore, 1) := by decide +kernel
theorem dX6_happens_46 : decode cX6_happens 46 = .ok (.aload_n 0, 1) := by decide +kernel
theorem dX6_happens_47 : decode cX6_happens 47 = .ok (.getfield 7, 3) := by decide +kernel
theorem dX6_happens_50 : decode cX6_happens 50 = .ok (.bipush 9, 2) := by decide +kernel
theorem dX6_happens_52 : decode cX6_happens 52 = .ok (.dup2, 1) := by decide +kernel
theorem dX6_happens_53 : decode cX6_happens 53 = .ok (.iaload, 1) := by decide +kernel
theorem dX6_happens_54 : decode cX6_happens 54 = .ok (.iconst 1, 1) := by decide +kernel
theorem dX6_happens_55 : decode cX6_happens 55 = .ok (.iadd, 1) := by decide +kernel
theorem dX6_happens_56 : decode cX6_happens 56 = .ok (.iastore, 1) := by decide +kernel
theorem dX6_happens_57 : decode cX6_happens 57 = .ok (.return_, 1) := by decide +kernel
theorem dX6_add_0 : decode cX6_add 0 = .ok (.iload_n 1, 1) := by decide +kernel
theorem dX6_add_1 : decode cX6_add 1 = .ok (.invokestatic 36, 3) := by decide +kernel
theorem dX6_add_4 : decode cX6_add 4 = .ok (.ifCond .eq 12, 3) := by decide +kernel
theorem dX6_add_7 : decode cX6_add 7 = .ok (.iload_n 2, 1) := by decide +kernel
theorem dX6_add_8 : decode cX6_add 8 = .ok (.iconst 1, 1) := by decide +kernel
theorem dX6_add_9 : decode cX6_add 9 = .ok (.iconst 4, 1) := by decide +kernel
theorem dX6_add_10 : decode cX6_add 10 = .ok (.invokestatic 32, 3) := by decide +kernel
theorem dX6_add_13 : decode cX6_add 13 = .ok (.ifCond .ne 7, 3) := by decide +kernel
theorem dX6_add_16 : decode cX6_add 16 = .ok (.sipush (-20001), 3) := by decide +kernel
theorem dX6_add_19 : decode cX6_add 19 = .ok (.ireturn, 1) := by decide +kernel
theorem dX6_add_20 : decode cX6_add 20 = .ok (.aload_n 0, 1) := by decide +kernel
theorem dX6_add_21 : decode cX6_add 21 = .ok (.getfield 7, 3) := by decide +kernel
theorem dX6_add_24 : decode cX6_add 24 = .ok (.iconst 0, 1) := by decide +kernel
theorem dX6_add_25 : decode cX6_add 25 = .ok (.iaload, 1) := by decide +kernel
theorem dX6_add_26 : decode cX6_add 26 = .ok (.bipush 16, 2) := by decide +kernel
theorem dX6_add_28 : decode cX6_add 28 = .ok (.if_icmp .ne 7, 3) := by decide +kernel
theorem dX6_add_31 : decode cX6_add 31 = .ok (.sipush (-20003), 3) := by decide +kernel
theorem dX6_add_34 : decode cX6_add 34 = .ok (.ireturn, 1) := by decide +kernel
theorem dX6_add_35 : decode cX6_add 35 = .ok (.aload_n 0, 1) := by decide +kernel
theorem dX6_add_36 : decode cX6_add 36 = .ok (.aload_n 0, 1) := by decide +kernel
theorem dX6_add_37 : decode cX6_add 37 = .ok (.getfield 7, 3) := by decide +kernel
theorem dX6_add_40 : decode cX6_add 40 = .ok (.invokevirtual 40, 3) := by decide +kernel
theorem dX6_add_43 : decode cX6_add 43 = .ok (.aload_n 0, 1) := by decide +kernel
theorem dX6_add_44 : decode cX6_add 44 = .ok (.getfield 7, 3) := by decide +kernel
theorem dX6_add_47 : decode cX6_add 47 = .ok (.iconst 0, 1) := by decide +kernel
theorem dX6_add_48 : decode cX6_add 48 = .ok (.iaload, 1) := by decide +kernel
theorem dX6_add_49 : decode cX6_add 49 = .ok (.istore_n 3, 1) := by decide +kernel
theorem dX6_add_50 : decode cX6_add 50 = .ok (.iconst 0, 1) := by decide +kernel
theorem dX6_add_51 : decode cX6_add 51 = .ok (.istore 4, 2) := by decide +kernel
theorem dX6_add_53 : decode cX6_add 53 = .ok (.iload 4, 2) := by decide +kernel
theorem dX6_add_55 : decode cX6_add 55 = .ok (.bipush 56, 2) := by decide +kernel
theorem dX6_add_57 : decode cX6_add 57 = .ok (.if_icmp .ge 17, 3) := by decide +kernel
theorem dX6_add_60 : decode cX6_add 60 = .ok (.aload_n 0, 1) := by decide +kernel
theorem dX6_add_61 : decode cX6_add 61 = .ok (.iload_n 3, 1) := by decide +kernel
theorem dX6_add_62 : decode cX6_add 62 = .ok (.iload 4, 2) := by decide +kernel
theorem dX6_add_64 : decode cX6_add 64 = .ok (.iconst 0, 1) := by decide +kernel
theorem dX6_add_65 : decode cX6_add 65 = .ok (.invokevirtual 44, 3) := by decide +kernel
theorem dX6_add_68 : decode cX6_add 68 = .ok (.iinc 4 1, 3) := by decide +kernel
theorem dX6_add_71 : decode cX6_add 71 = .ok (.goto (-18), 3) := by decide +kernel
theorem dX6_add_74 : decode cX6_add 74 = .ok (.aload_n 0, 1) := by decide +kernel
theorem dX6_add_75 : decode cX6_add 75 = .ok (.iload_n 3, 1) := by decide +kernel
theorem dX6_add_76 : decode cX6_add 76 = .ok (.iconst 1, 1) := by decide +kernel
theorem dX6_add_77 : decode cX6_add 77 = .ok (.iload_n 1, 1) := by decide +kernel
theorem dX6_add_78 : decode cX6_add 78 = .ok (.invokevirtual 44, 3) := by decide +kernel
theorem dX6_add_81 : decode cX6_add 81 = .ok (.aload_n 0, 1) := by decide +kernel
theorem dX6_add_82 : decode cX6_add 82 = .ok (.iload_n 3, 1) := by decide +kernel
theorem dX6_add_83 : decode cX6_add 83 = .ok (.iconst 5, 1) := by decide +kernel
theorem dX6_add_84 : decode cX6_add 84 = .ok (.iload_n 2, 1) := by decide +kernel
theorem dX6_add_85 : decode cX6_add 85 = .ok (.invokevirtual 44, 3) := by decide +kernel
theorem dX6_add_88 : decode cX6_add 88 = .ok (.aload_n 0, 1) := by decide +kernel
theorem dX6_add_89 : decode cX6_add 89 = .ok (.iload_n 3, 1) := by decide +kernel
theorem dX6_add_90 : decode cX6_add 90 = .ok (.bipush 8, 2) := by decide +kernel
theorem dX6_add_92 : decode cX6_add 92 = .ok (.iconst (-1), 1) := by decide +kernel
theorem dX6_add_93 : decode cX6_add 93 = .ok (.invokevirtual 44, 3) := by decide +kernel
theorem dX6_add_96 : decode cX6_add 96 = .ok (.aload_n 0, 1) := by decide +kernel
theorem dX6_add_97 : decode cX6_add 97 = .ok (.iload_n 3, 1) := by decide +kernel
theorem dX6_add_98 : decode cX6_add 98 = .ok (.bipush 10, 2) := by decide +kernel
theorem dX6_add_100 : decode cX6_add 100 = .ok (.iconst 1, 1) := by decide +kernel
theorem dX6_add_101 : decode cX6_add 101 = .ok (.invokevirtual 44, 3) := by decide +kernel
theorem dX6_add_104 : decode cX6_add 104 = .ok (.aload_n 0, 1) := by decide +kernel
theorem dX6_add_105 : decode cX6_add 105 = .ok (.getfield 7, 3) := by decide +kernel
theorem dX6_add_108 : decode cX6_add 108 = .ok (.iconst 0, 1) := by decide +kernel
theorem dX6_add_109 : decode cX6_add 109 = .ok (.dup2, 1) := by decide +kernel
theorem dX6_add_110 : decode cX6_add 110 = .ok (.iaload, 1) := by decide +kernel
theorem dX6_add_111 : decode cX6_add 111 = .ok (.iconst 1, 1) := by decide +kernel
theorem dX6_add_112 : decode cX6_add 112 = .ok (.iadd, 1) := by decide +kernel
theorem dX6_add_113 : decode cX6_add 113 = .ok (.iastore, 1) := by decide +kernel
theorem dX6_add_114 : decode cX6_add 114 = .ok (.iload_n 3, 1) := by decide +kernel
theorem dX6_add_115 : decode cX6_add 115 = .ok (.ireturn, 1) := by decide +kernel
theorem dX6_isIn_0 : decode cX6_isIn 0 = .ok (.iload_n 0, 1) := by decide +kernel
theorem dX6_isIn_1 : decode cX6_isIn 1 = .ok (.tableswitch 83 0 5 #[39, 46, 51, 60, 68, 76], 39) := by decide +kernel
theorem dX6_isIn_40 : decode cX6_isIn 40 = .ok (.iload_n 1, 1) := by decide +kernel
theorem dX6_isIn_41 : decode cX6_isIn 41 = .ok (.iconst 0, 1) := by decide +kernel
theorem dX6_isIn_42 : decode cX6_isIn 42 = .ok (.iconst 1, 1) := by decide +kernel
theorem dX6_isIn_43 : decode cX6_isIn 43 = .ok (.invokestatic 32, 3) := by decide +kernel
theorem dX6_isIn_46 : decode cX6_isIn 46 = .ok (.ireturn, 1) := by decide +kernel
theorem dX6_isIn_47 : decode cX6_isIn 47 = .ok (.iload_n 1, 1) := by decide +kernel
theorem dX6_isIn_48 : decode cX6_isIn 48 = .ok (.invokestatic 36, 3) := by decide +kernel
theorem dX6_isIn_51 : decode cX6_isIn 51 = .ok (.ireturn, 1) := by decide +kernel
theorem dX6_isIn_52 : decode cX6_isIn 52 = .ok (.iload_n 1, 1) := by decide +kernel
theorem dX6_isIn_53 : decode cX6_isIn 53 = .ok (.iconst 0, 1) := by decide +kernel
theorem dX6_isIn_54 : decode cX6_isIn 54 = .ok (.sipush 1000, 3) := by decide +kernel
theorem dX6_isIn_57 : decode cX6_isIn 57 = .ok (.invokestatic 32, 3) := by decide +kernel
theorem dX6_isIn_60 : decode cX6_isIn 60 = .ok (.ireturn, 1) := by decide +kernel
theorem dX6_isIn_61 : decode cX6_isIn 61 = .ok (.iload_n 1, 1) := by decide +kernel
theorem dX6_isIn_62 : decode cX6_isIn 62 = .ok (.iconst 0, 1) := by decide +kernel
theorem dX6_isIn_63 : decode cX6_isIn 63 = .ok (.bipush 20, 2) := by decide +kernel
theorem dX6_isIn_65 : decode cX6_isIn 65 = .ok (.invokestatic 32, 3) := by decide +kernel
theorem dX6_isIn_68 : decode cX6_isIn 68 = .ok (.ireturn, 1) := by decide +kernel
theorem dX6_isIn_69 : decode cX6_isIn 69 = .ok (.iload_n 1, 1) := by decide +kernel
theorem dX6_isIn_70 : decode cX6_isIn 70 = .ok (.iconst 0, 1) := by decide +kernel
theorem dX6_isIn_71 : decode cX6_isIn 71 = .ok (.bipush 20, 2) := by decide +kernel
theorem dX6_isIn_73 : decode cX6_isIn 73 = .ok (.invokestatic 32, 3) := by decide +kernel
theorem dX6_isIn_76 : decode cX6_isIn 76 = .ok (.ireturn, 1) := by decide +kernel
theorem dX6_isIn_77 : decode cX6_isIn 77 = .ok (.iload_n 1, 1) := by decide +kernel
theorem dX6_isIn_78 : decode cX6_isIn 78 = .ok (.iconst 1, 1) := by decide +kernel
theorem dX6_isIn_79 : decode cX6_isIn 79 = .ok (.iconst 4, 1) := by decide +kernel
theorem dX6_isIn_80 : decode cX6_isIn 80 = .ok (.invokestatic 32, 3) := by decide +kernel
theorem dX6_isIn_83 : decode cX6_isIn 83 = .ok (.ireturn, 1) := by decide +kernel
theorem dX6_isIn_84 : decode cX6_isIn 84 = .ok (.iload_n 0, 1) := by decide +kernel
theorem dX6_isIn_85 : decode cX6_isIn 85 = .ok (.bipush 6, 2) := by decide +kernel
theorem dX6_isIn_87 : decode cX6_isIn 87 = .ok (.if_icmp .ne 17, 3) := by decide +kernel
theorem dX6_isIn_90 : decode cX6_isIn 90 = .ok (.iload_n 1, 1) := by decide +kernel
theorem dX6_isIn_91 : decode cX6_isIn 91 = .ok (.iconst 0, 1) := by decide +kernel
theorem dX6_isIn_92 : decode cX6_isIn 92 = .ok (.bipush 15, 2) := by decide +kernel
theorem dX6_isIn_94 : decode cX6_isIn 94 = .ok (.invokestatic 32, 3) := by decide +kernel
theorem dX6_isIn_97 : decode cX6_isIn 97 = .ok (.ifCond .eq 7, 3) := by decide +kernel
theorem dX6_isIn_100 : decode cX6_isIn 100 = .ok (.iconst 1, 1) := by decide +kernel
theorem dX6_isIn_101 : decode cX6_isIn 101 = .ok (.goto 4, 3) := by decide +kernel
theorem dX6_isIn_104 : decode cX6_isIn 104 = .ok (.iconst 0, 1) := by decide +kernel
theorem dX6_isIn_105 : decode cX6_isIn 105 = .ok (.ireturn, 1) := by decide +kernel
theorem dX6_leavesShelf_0 : decode cX6_leavesShelf 0 = .ok (.aload_n 0, 1) := by decide +kernel
theorem dX6_leavesShelf_1 : decode cX6_leavesShelf 1 = .ok (.iload_n 1, 1) := by decide +kernel
theorem dX6_leavesShelf_2 : decode cX6_leavesShelf 2 = .ok (.bipush 13, 2) := by decide +kernel
theorem dX6_leavesShelf_4 : decode cX6_leavesShelf 4 = .ok (.iconst 0, 1) := by decide +kernel
theorem dX6_leavesShelf_5 : decode cX6_leavesShelf 5 = .ok (.invokevirtual 44, 3) := by decide +kernel
theorem dX6_leavesShelf_8 : decode cX6_leavesShelf 8 = .ok (.aload_n 0, 1) := by decide +kernel
theorem dX6_leavesShelf_9 : decode cX6_leavesShelf 9 = .ok (.iconst 5, 1) := by decide +kernel
theorem dX6_leavesShelf_10 : decode cX6_leavesShelf 10 = .ok (.iload_n 1, 1) := by decide +kernel
theorem dX6_leavesShelf_11 : decode cX6_leavesShelf 11 = .ok (.invokevirtual 48, 3) := by decide +kernel
theorem dX6_leavesShelf_14 : decode cX6_leavesShelf 14 = .ok (.return_, 1) := by decide +kernel
theorem dX6_set_0 : decode cX6_set 0 = .ok (.aload_n 0, 1) := by decide +kernel
theorem dX6_set_1 : decode cX6_set 1 = .ok (.iload_n 1, 1) := by decide +kernel
theorem dX6_set_2 : decode cX6_set 2 = .ok (.invokevirtual 52, 3) := by decide +kernel
theorem dX6_set_5 : decode cX6_set 5 = .ok (.ifCond .eq 11, 3) := by decide +kernel
theorem dX6_set_8 : decode cX6_set 8 = .ok (.iload_n 2, 1) := by decide +kernel
theorem dX6_set_9 : decode cX6_set 9 = .ok (.iload_n 3, 1) := by decide +kernel
theorem dX6_set_10 : decode cX6_set 10 = .ok (.invokestatic 55, 3) := by decide +kernel
theorem dX6_set_13 : decode cX6_set 13 = .ok (.ifCond .ne 7, 3) := by decide +kernel
theorem dX6_set_16 : decode cX6_set 16 = .ok (.sipush (-20001), 3) := by decide +kernel
theorem dX6_set_19 : decode cX6_set 19 = .ok (.ireturn, 1) := by decide +kernel
theorem dX6_set_20 : decode cX6_set 20 = .ok (.aload_n 0, 1) := by decide +kernel
theorem dX6_set_21 : decode cX6_set 21 = .ok (.aload_n 0, 1) := by decide +kernel
theorem dX6_set_22 : decode cX6_set 22 = .ok (.getfield 7, 3) := by decide +kernel
theorem dX6_set_25 : decode cX6_set 25 = .ok (.invokevirtual 40, 3) := by decide +kernel
theorem dX6_set_28 : decode cX6_set 28 = .ok (.aload_n 0, 1) := by decide +kernel
theorem dX6_set_29 : decode cX6_set 29 = .ok (.iload_n 1, 1) := by decide +kernel
theorem dX6_set_30 : decode cX6_set 30 = .ok (.iload_n 2, 1) := by decide +kernel
theorem dX6_set_31 : decode cX6_set 31 = .ok (.invokevirtual 59, 3) := by decide +kernel
theorem dX6_set_34 : decode cX6_set 34 = .ok (.istore 4, 2) := by decide +kernel
theorem dX6_set_36 : decode cX6_set 36 = .ok (.aload_n 0, 1) := by decide +kernel
theorem dX6_set_37 : decode cX6_set 37 = .ok (.iload_n 1, 1) := by decide +kernel
theorem dX6_set_38 : decode cX6_set 38 = .ok (.iload_n 2, 1) := by decide +kernel
theorem dX6_set_39 : decode cX6_set 39 = .ok (.iload_n 3, 1) := by decide +kernel
theorem dX6_set_40 : decode cX6_set 40 = .ok (.invokevirtual 44, 3) := by decide +kernel
theorem dX6_set_43 : decode cX6_set 43 = .ok (.aload_n 0, 1) := by decide +kernel
theorem dX6_set_44 : decode cX6_set 44 = .ok (.iload_n 1, 1) := by decide +kernel
theorem dX6_set_45 : decode cX6_set 45 = .ok (.iconst 5, 1) := by decide +kernel
theorem dX6_set_46 : decode cX6_set 46 = .ok (.invokevirtual 59, 3) := by decide +kernel
theorem dX6_set_49 : decode cX6_set 49 = .ok (.iconst 1, 1) := by decide +kernel
theorem dX6_set_50 : decode cX6_set 50 = .ok (.if_icmp .ne 18, 3) := by decide +kernel
theorem dX6_set_53 : decode cX6_set 53 = .ok (.aload_n 0, 1) := by decide +kernel
theorem dX6_set_54 : decode cX6_set 54 = .ok (.iload_n 1, 1) := by decide +kernel
theorem dX6_set_55 : decode cX6_set 55 = .ok (.bipush 13, 2) := by decide +kernel
theorem dX6_set_57 : decode cX6_set 57 = .ok (.invokevirtual 59, 3) := by decide +kernel
theorem dX6_set_60 : decode cX6_set 60 = .ok (.ifCond .le 8, 3) := by decide +kernel
theorem dX6_set_63 : decode cX6_set 63 = .ok (.aload_n 0, 1) := by decide +kernel
theorem dX6_set_64 : decode cX6_set 64 = .ok (.iload_n 1, 1) := by decide +kernel
theorem dX6_set_65 : decode cX6_set 65 = .ok (.invokevirtual 63, 3) := by decide +kernel
theorem dX6_set_68 : decode cX6_set 68 = .ok (.iload 4, 2) := by decide +kernel
theorem dX6_set_70 : decode cX6_set 70 = .ok (.ireturn, 1) := by decide +kernel
theorem dX6_setRoot_0 : decode cX6_setRoot 0 = .ok (.aload_n 0, 1) := by decide +kernel
theorem dX6_setRoot_1 : decode cX6_setRoot 1 = .ok (.iload_n 1, 1) := by decide +kernel
theorem dX6_setRoot_2 : decode cX6_setRoot 2 = .ok (.invokevirtual 52, 3) := by decide +kernel
theorem dX6_setRoot_5 : decode cX6_setRoot 5 = .ok (.ifCond .eq 16, 3) := by decide +kernel
theorem dX6_setRoot_8 : decode cX6_setRoot 8 = .ok (.iload_n 2, 1) := by decide +kernel
theorem dX6_setRoot_9 : decode cX6_setRoot 9 = .ok (.iconst (-1), 1) := by decide +kernel
theorem dX6_setRoot_10 : decode cX6_setRoot 10 = .ok (.if_icmp .eq 15, 3) := by decide +kernel
theorem dX6_setRoot_13 : decode cX6_setRoot 13 = .ok (.aload_n 0, 1) := by decide +kernel
theorem dX6_setRoot_14 : decode cX6_setRoot 14 = .ok (.iload_n 2, 1) := by decide +kernel
theorem dX6_setRoot_15 : decode cX6_setRoot 15 = .ok (.invokevirtual 52, 3) := by decide +kernel
theorem dX6_setRoot_18 : decode cX6_setRoot 18 = .ok (.ifCond .ne 7, 3) := by decide +kernel
theorem dX6_setRoot_21 : decode cX6_setRoot 21 = .ok (.sipush (-20001), 3) := by decide +kernel
theorem dX6_setRoot_24 : decode cX6_setRoot 24 = .ok (.ireturn, 1) := by decide +kernel
theorem dX6_setRoot_25 : decode cX6_setRoot 25 = .ok (.iload_n 2, 1) := by decide +kernel
theorem dX6_setRoot_26 : decode cX6_setRoot 26 = .ok (.istore_n 3, 1) := by decide +kernel
theorem dX6_setRoot_27 : decode cX6_setRoot 27 = .ok (.iload_n 3, 1) := by decide +kernel
theorem dX6_setRoot_28 : decode cX6_setRoot 28 = .ok (.ifCond .lt 19, 3) := by decide +kernel
theorem dX6_setRoot_31 : decode cX6_setRoot 31 = .ok (.iload_n 3, 1) := by decide +kernel
theorem dX6_setRoot_32 : decode cX6_setRoot 32 = .ok (.iload_n 1, 1) := by decide +kernel
theorem dX6_setRoot_33 : decode cX6_setRoot 33 = .ok (.if_icmp .eq 14, 3) := by decide +kernel
theorem dX6_setRoot_36 : decode cX6_setRoot 36 = .ok (.aload_n 0, 1) := by decide +kernel
theorem dX6_setRoot_37 : decode cX6_setRoot 37 = .ok (.iload_n 3, 1) := by decide +kernel
theorem dX6_setRoot_38 : decode cX6_setRoot 38 = .ok (.bipush 8, 2) := by decide +kernel
theorem dX6_setRoot_40 : decode cX6_setRoot 40 = .ok (.invokevirtual 59, 3) := by decide +kernel
theorem dX6_setRoot_43 : decode cX6_setRoot 43 = .ok (.istore_n 3, 1) := by decide +kernel
theorem dX6_setRoot_44 : decode cX6_setRoot 44 = .ok (.goto (-17), 3) := by decide +kernel
theorem dX6_setRoot_47 : decode cX6_setRoot 47 = .ok (.iload_n 3, 1) := by decide +kernel
theorem dX6_setRoot_48 : decode cX6_setRoot 48 = .ok (.iload_n 1, 1) := by decide +kernel
theorem dX6_setRoot_49 : decode cX6_setRoot 49 = .ok (.if_icmp .ne 7, 3) := by decide +kernel
theorem dX6_setRoot_52 : decode cX6_setRoot 52 = .ok (.sipush (-20002), 3) := by decide +kernel
theorem dX6_setRoot_55 : decode cX6_setRoot 55 = .ok (.ireturn, 1) := by decide +kernel
theorem dX6_setRoot_56 : decode cX6_setRoot 56 = .ok (.aload_n 0, 1) := by decide +kernel
theorem dX6_setRoot_57 : decode cX6_setRoot 57 = .ok (.aload_n 0, 1) := by decide +kernel
theorem dX6_setRoot_58 : decode cX6_setRoot 58 = .ok (.getfield 7, 3) := by decide +kernel
theorem dX6_setRoot_61 : decode cX6_setRoot 61 = .ok (.invokevirtual 40, 3) := by decide +kernel
theorem dX6_setRoot_64 : decode cX6_setRoot 64 = .ok (.aload_n 0, 1) := by decide +kernel
theorem dX6_setRoot_65 : decode cX6_setRoot 65 = .ok (.iload_n 1, 1) := by decide +kernel
theorem dX6_setRoot_66 : decode cX6_setRoot 66 = .ok (.bipush 8, 2) := by decide +kernel
theorem dX6_setRoot_68 : decode cX6_setRoot 68 = .ok (.invokevirtual 59, 3) := by decide +kernel
theorem dX6_setRoot_71 : decode cX6_setRoot 71 = .ok (.istore 4, 2) := by decide +kernel
theorem dX6_setRoot_73 : decode cX6_setRoot 73 = .ok (.aload_n 0, 1) := by decide +kernel
theorem dX6_setRoot_74 : decode cX6_setRoot 74 = .ok (.iload_n 1, 1) := by decide +kernel
theorem dX6_setRoot_75 : decode cX6_setRoot 75 = .ok (.bipush 8, 2) := by decide +kernel
theorem dX6_setRoot_77 : decode cX6_setRoot 77 = .ok (.iload_n 2, 1) := by decide +kernel
theorem dX6_setRoot_78 : decode cX6_setRoot 78 = .ok (.invokevirtual 44, 3) := by decide +kernel
theorem dX6_setRoot_81 : decode cX6_setRoot 81 = .ok (.iload 4, 2) := by decide +kernel
theorem dX6_setRoot_83 : decode cX6_setRoot 83 = .ok (.ireturn, 1) := by decide +kernel
theorem dX6_values_0 : decode cX6_values 0 = .ok (.aload_n 0, 1) := by decide +kernel
theorem dX6_values_1 : decode cX6_values 1 = .ok (.iload_n 1, 1) := by decide +kernel
theorem dX6_values_2 : decode cX6_values 2 = .ok (.invokevirtual 52, 3) := by decide +kernel
theorem dX6_values_5 : decode cX6_values 5 = .ok (.ifCond .eq 10, 3) := by decide +kernel
theorem dX6_values_8 : decode cX6_values 8 = .ok (.iload_n 2, 1) := by decide +kernel
theorem dX6_values_9 : decode cX6_values 9 = .ok (.invokestatic 36, 3) := by decide +kernel
theorem dX6_values_12 : decode cX6_values 12 = .ok (.ifCond .ne 7, 3) := by decide +kernel
theorem dX6_values_15 : decode cX6_values 15 = .ok (.sipush (-20001), 3) := by decide +kernel
theorem dX6_values_18 : decode cX6_values 18 = .ok (.ireturn, 1) := by decide +kernel
theorem dX6_values_19 : decode cX6_values 19 = .ok (.aload_n 0, 1) := by decide +kernel
theorem dX6_values_20 : decode cX6_values 20 = .ok (.iload_n 1, 1) := by decide +kernel
theorem dX6_values_21 : decode cX6_values 21 = .ok (.bipush 7, 2) := by decide +kernel
theorem dX6_values_23 : decode cX6_values 23 = .ok (.invokevirtual 59, 3) := by decide +kernel
theorem dX6_values_26 : decode cX6_values 26 = .ok (.istore_n 3, 1) := by decide +kernel
theorem dX6_values_27 : decode cX6_values 27 = .ok (.aload_n 0, 1) := by decide +kernel
theorem dX6_values_28 : decode cX6_values 28 = .ok (.iload_n 1, 1) := by decide +kernel
theorem dX6_values_29 : decode cX6_values 29 = .ok (.bipush 7, 2) := by decide +kernel
theorem dX6_values_31 : decode cX6_values 31 = .ok (.iload_n 2, 1) := by decide +kernel
theorem dX6_values_32 : decode cX6_values 32 = .ok (.invokevirtual 44, 3) := by decide +kernel
theorem dX6_values_35 : decode cX6_values 35 = .ok (.iload_n 3, 1) := by decide +kernel
theorem dX6_values_36 : decode cX6_values 36 = .ok (.ireturn, 1) := by decide +kernel
theorem dX6_acts_0 : decode cX6_acts 0 = .ok (.iload_n 1, 1) := by decide +kernel
theorem dX6_acts_1 : decode cX6_acts 1 = .ok (.sipush (-20001), 3) := by decide +kernel
theorem dX6_acts_4 : decode cX6_acts 4 = .ok (.if_icmp .eq 18, 3) := by decide +kernel
theorem dX6_acts_7 : decode cX6_acts 7 = .ok (.iload_n 1, 1) := by decide +kernel
theorem dX6_acts_8 : decode cX6_acts 8 = .ok (.sipush (-20002), 3) := by decide +kernel
theorem dX6_acts_11 : decode cX6_acts 11 = .ok (.if_icmp .eq 11, 3) := by decide +kernel
theorem dX6_acts_14 : decode cX6_acts 14 = .ok (.aload_n 0, 1) := by decide +kernel
theorem dX6_acts_15 : decode cX6_acts 15 = .ok (.aload_n 0, 1) := by decide +kernel
theorem dX6_acts_16 : decode cX6_acts 16 = .ok (.getfield 13, 3) := by decide +kernel
theorem dX6_acts_19 : decode cX6_acts 19 = .ok (.invokevirtual 40, 3) := by decide +kernel
theorem dX6_acts_22 : decode cX6_acts 22 = .ok (.iload_n 1, 1) := by decide +kernel
theorem dX6_acts_23 : decode cX6_acts 23 = .ok (.ireturn, 1) := by decide +kernel
theorem dX6_setValue_0 : decode cX6_setValue 0 = .ok (.aload_n 0, 1) := by decide +kernel
theorem dX6_setValue_1 : decode cX6_setValue 1 = .ok (.getfield 7, 3) := by decide +kernel
theorem dX6_setValue_4 : decode cX6_setValue 4 = .ok (.aload_n 0, 1) := by decide +kernel
theorem dX6_setValue_5 : decode cX6_setValue 5 = .ok (.getfield 13, 3) := by decide +kernel
theorem dX6_setValue_8 : decode cX6_setValue 8 = .ok (.invokestatic 67, 3) := by decide +kernel
theorem dX6_setValue_11 : decode cX6_setValue 11 = .ok (.aload_n 0, 1) := by decide +kernel
theorem dX6_setValue_12 : decode cX6_setValue 12 = .ok (.aload_n 0, 1) := by decide +kernel
theorem dX6_setValue_13 : decode cX6_setValue 13 = .ok (.iload_n 1, 1) := by decide +kernel
theorem dX6_setValue_14 : decode cX6_setValue 14 = .ok (.iload_n 2, 1) := by decide +kernel
theorem dX6_setValue_15 : decode cX6_setValue 15 = .ok (.invokevirtual 71, 3) := by decide +kernel
theorem dX6_setValue_18 : decode cX6_setValue 18 = .ok (.invokevirtual 74, 3) := by decide +kernel
theorem dX6_setValue_21 : decode cX6_setValue 21 = .ok (.ireturn, 1) := by decide +kernel
theorem dX6_stands_0 : decode cX6_stands 0 = .ok (.aload_n 0, 1) := by decide +kernel
theorem dX6_stands_1 : decode cX6_stands 1 = .ok (.iload_n 1, 1) := by decide +kernel
theorem dX6_stands_2 : decode cX6_stands 2 = .ok (.bipush 9, 2) := by decide +kernel
theorem dX6_stands_4 : decode cX6_stands 4 = .ok (.invokevirtual 59, 3) := by decide +kernel
theorem dX6_stands_7 : decode cX6_stands 7 = .ok (.iconst 1, 1) := by decide +kernel
theorem dX6_stands_8 : decode cX6_stands 8 = .ok (.if_icmp .eq 13, 3) := by decide +kernel
theorem dX6_stands_11 : decode cX6_stands 11 = .ok (.aload_n 0, 1) := by decide +kernel
theorem dX6_stands_12 : decode cX6_stands 12 = .ok (.iload_n 1, 1) := by decide +kernel
theorem dX6_stands_13 : decode cX6_stands 13 = .ok (.bipush 10, 2) := by decide +kernel
theorem dX6_stands_15 : decode cX6_stands 15 = .ok (.invokevirtual 59, 3) := by decide +kernel
theorem dX6_stands_18 : decode cX6_stands 18 = .ok (.ifCond .ne 7, 3) := by decide +kernel
theorem dX6_stands_21 : decode cX6_stands 21 = .ok (.iconst 1, 1) := by decide +kernel
theorem dX6_stands_22 : decode cX6_stands 22 = .ok (.goto 4, 3) := by decide +kernel
theorem dX6_stands_25 : decode cX6_stands 25 = .ok (.iconst 0, 1) := by decide +kernel
theorem dX6_stands_26 : decode cX6_stands 26 = .ok (.ireturn, 1) := by decide +kernel
theorem dX6_hasRoot_0 : decode cX6_hasRoot 0 = .ok (.iconst 0, 1) := by decide +kernel
theorem dX6_hasRoot_1 : decode cX6_hasRoot 1 = .ok (.istore_n 2, 1) := by decide +kernel
theorem dX6_hasRoot_2 : decode cX6_hasRoot 2 = .ok (.aload_n 0, 1) := by decide +kernel
theorem dX6_hasRoot_3 : decode cX6_hasRoot 3 = .ok (.iload_n 1, 1) := by decide +kernel
theorem dX6_hasRoot_4 : decode cX6_hasRoot 4 = .ok (.bipush 8, 2) := by decide +kernel
theorem dX6_hasRoot_6 : decode cX6_hasRoot 6 = .ok (.invokevirtual 59, 3) := by decide +kernel
theorem dX6_hasRoot_9 : decode cX6_hasRoot 9 = .ok (.istore_n 3, 1) := by decide +kernel
theorem dX6_hasRoot_10 : decode cX6_hasRoot 10 = .ok (.iload_n 3, 1) := by decide +kernel
theorem dX6_hasRoot_11 : decode cX6_hasRoot 11 = .ok (.ifCond .lt 35, 3) := by decide +kernel
theorem dX6_hasRoot_14 : decode cX6_hasRoot 14 = .ok (.iload_n 2, 1) := by decide +kernel
theorem dX6_hasRoot_15 : decode cX6_hasRoot 15 = .ok (.ifCond .ne 14, 3) := by decide +kernel
theorem dX6_hasRoot_18 : decode cX6_hasRoot 18 = .ok (.aload_n 0, 1) := by decide +kernel
theorem dX6_hasRoot_19 : decode cX6_hasRoot 19 = .ok (.iload_n 3, 1) := by decide +kernel
theorem dX6_hasRoot_20 : decode cX6_hasRoot 20 = .ok (.bipush 9, 2) := by decide +kernel
theorem dX6_hasRoot_22 : decode cX6_hasRoot 22 = .ok (.invokevirtual 59, 3) := by decide +kernel
theorem dX6_hasRoot_25 : decode cX6_hasRoot 25 = .ok (.iconst 1, 1) := by decide +kernel
theorem dX6_hasRoot_26 : decode cX6_hasRoot 26 = .ok (.if_icmp .ne 7, 3) := by decide +kernel
theorem dX6_hasRoot_29 : decode cX6_hasRoot 29 = .ok (.iconst 1, 1) := by decide +kernel
theorem dX6_hasRoot_30 : decode cX6_hasRoot 30 = .ok (.goto 4, 3) := by decide +kernel
theorem dX6_hasRoot_33 : decode cX6_hasRoot 33 = .ok (.iconst 0, 1) := by decide +kernel
theorem dX6_hasRoot_34 : decode cX6_hasRoot 34 = .ok (.istore_n 2, 1) := by decide +kernel
theorem dX6_hasRoot_35 : decode cX6_hasRoot 35 = .ok (.aload_n 0, 1) := by decide +kernel
theorem dX6_hasRoot_36 : decode cX6_hasRoot 36 = .ok (.iload_n 3, 1) := by decide +kernel
theorem dX6_hasRoot_37 : decode cX6_hasRoot 37 = .ok (.bipush 8, 2) := by decide +kernel
theorem dX6_hasRoot_39 : decode cX6_hasRoot 39 = .ok (.invokevirtual 59, 3) := by decide +kernel
theorem dX6_hasRoot_42 : decode cX6_hasRoot 42 = .ok (.istore_n 3, 1) := by decide +kernel
theorem dX6_hasRoot_43 : decode cX6_hasRoot 43 = .ok (.goto (-33), 3) := by decide +kernel
theorem dX6_hasRoot_46 : decode cX6_hasRoot 46 = .ok (.iload_n 2, 1) := by decide +kernel
theorem dX6_hasRoot_47 : decode cX6_hasRoot 47 = .ok (.ireturn, 1) := by decide +kernel
theorem dX6_why_0 : decode cX6_why 0 = .ok (.aload_n 0, 1) := by decide +kernel
theorem dX6_why_1 : decode cX6_why 1 = .ok (.iload_n 1, 1) := by decide +kernel
theorem dX6_why_2 : decode cX6_why 2 = .ok (.invokevirtual 78, 3) := by decide +kernel
theorem dX6_why_5 : decode cX6_why 5 = .ok (.ifCond .ne 7, 3) := by decide +kernel
theorem dX6_why_8 : decode cX6_why 8 = .ok (.sipush (-20009), 3) := by decide +kernel
theorem dX6_why_11 : decode cX6_why 11 = .ok (.ireturn, 1) := by decide +kernel
theorem dX6_why_12 : decode cX6_why 12 = .ok (.aload_n 0, 1) := by decide +kernel
theorem dX6_why_13 : decode cX6_why 13 = .ok (.iload_n 1, 1) := by decide +kernel
theorem dX6_why_14 : decode cX6_why 14 = .ok (.bipush 13, 2) := by decide +kernel
theorem dX6_why_16 : decode cX6_why 16 = .ok (.invokevirtual 59, 3) := by decide +kernel
theorem dX6_why_19 : decode cX6_why 19 = .ok (.ifCond .le 5, 3) := by decide +kernel
theorem dX6_why_22 : decode cX6_why 22 = .ok (.iconst 1, 1) := by decide +kernel
theorem dX6_why_23 : decode cX6_why 23 = .ok (.ireturn, 1) := by decide +kernel
theorem dX6_why_24 : decode cX6_why 24 = .ok (.aload_n 0, 1) := by decide +kernel
theorem dX6_why_25 : decode cX6_why 25 = .ok (.iload_n 1, 1) := by decide +kernel
theorem dX6_why_26 : decode cX6_why 26 = .ok (.iconst 5, 1) := by decide +kernel
theorem dX6_why_27 : decode cX6_why 27 = .ok (.invokevirtual 59, 3) := by decide +kernel
theorem dX6_why_30 : decode cX6_why 30 = .ok (.iconst 1, 1) := by decide +kernel
theorem dX6_why_31 : decode cX6_why 31 = .ok (.if_icmp .ne 5, 3) := by decide +kernel
theorem dX6_why_34 : decode cX6_why 34 = .ok (.iconst 0, 1) := by decide +kernel
theorem dX6_why_35 : decode cX6_why 35 = .ok (.ireturn, 1) := by decide +kernel
theorem dX6_why_36 : decode cX6_why 36 = .ok (.aload_n 0, 1) := by decide +kernel
theorem dX6_why_37 : decode cX6_why 37 = .ok (.iload_n 1, 1) := by decide +kernel
theorem dX6_why_38 : decode cX6_why 38 = .ok (.bipush 6, 2) := by decide +kernel
theorem dX6_why_40 : decode cX6_why 40 = .ok (.invokevirtual 59, 3) := by decide +kernel
theorem dX6_why_43 : decode cX6_why 43 = .ok (.aload_n 0, 1) := by decide +kernel
theorem dX6_why_44 : decode cX6_why 44 = .ok (.getfield 7, 3) := by decide +kernel
theorem dX6_why_47 : decode cX6_why 47 = .ok (.iconst 2, 1) := by decide +kernel
theorem dX6_why_48 : decode cX6_why 48 = .ok (.iaload, 1) := by decide +kernel
theorem dX6_why_49 : decode cX6_why 49 = .ok (.ishr, 1) := by decide +kernel
theorem dX6_why_50 : decode cX6_why 50 = .ok (.iconst 1, 1) := by decide +kernel
theorem dX6_why_51 : decode cX6_why 51 = .ok (.iand, 1) := by decide +kernel
theorem dX6_why_52 : decode cX6_why 52 = .ok (.iconst 1, 1) := by decide +kernel
theorem dX6_why_53 : decode cX6_why 53 = .ok (.if_icmp .ne 5, 3) := by decide +kernel
theorem dX6_why_56 : decode cX6_why 56 = .ok (.iconst 2, 1) := by decide +kernel
theorem dX6_why_57 : decode cX6_why 57 = .ok (.ireturn, 1) := by decide +kernel
theorem dX6_why_58 : decode cX6_why 58 = .ok (.aload_n 0, 1) := by decide +kernel
theorem dX6_why_59 : decode cX6_why 59 = .ok (.iload_n 1, 1) := by decide +kernel
theorem dX6_why_60 : decode cX6_why 60 = .ok (.invokevirtual 81, 3) := by decide +kernel
theorem dX6_why_63 : decode cX6_why 63 = .ok (.ifCond .eq 7, 3) := by decide +kernel
theorem dX6_why_66 : decode cX6_why 66 = .ok (.iconst 3, 1) := by decide +kernel
theorem dX6_why_67 : decode cX6_why 67 = .ok (.goto 44, 3) := by decide +kernel
theorem dX6_why_70 : decode cX6_why 70 = .ok (.aload_n 0, 1) := by decide +kernel
theorem dX6_why_71 : decode cX6_why 71 = .ok (.getfield 7, 3) := by decide +kernel
theorem dX6_why_74 : decode cX6_why 74 = .ok (.iconst 3, 1) := by decide +kernel
theorem dX6_why_75 : decode cX6_why 75 = .ok (.iaload, 1) := by decide +kernel
theorem dX6_why_76 : decode cX6_why 76 = .ok (.iconst 1, 1) := by decide +kernel
theorem dX6_why_77 : decode cX6_why 77 = .ok (.if_icmp .ne 33, 3) := by decide +kernel
theorem dX6_why_80 : decode cX6_why 80 = .ok (.aload_n 0, 1) := by decide +kernel
theorem dX6_why_81 : decode cX6_why 81 = .ok (.iload_n 1, 1) := by decide +kernel
theorem dX6_why_82 : decode cX6_why 82 = .ok (.bipush 12, 2) := by decide +kernel
theorem dX6_why_84 : decode cX6_why 84 = .ok (.invokevirtual 59, 3) := by decide +kernel
theorem dX6_why_87 : decode cX6_why 87 = .ok (.aload_n 0, 1) := by decide +kernel
theorem dX6_why_88 : decode cX6_why 88 = .ok (.getfield 7, 3) := by decide +kernel
theorem dX6_why_91 : decode cX6_why 91 = .ok (.iconst 4, 1) := by decide +kernel
theorem dX6_why_92 : decode cX6_why 92 = .ok (.iaload, 1) := by decide +kernel
theorem dX6_why_93 : decode cX6_why 93 = .ok (.if_icmp .lt 17, 3) := by decide +kernel
theorem dX6_why_96 : decode cX6_why 96 = .ok (.aload_n 0, 1) := by decide +kernel
theorem dX6_why_97 : decode cX6_why 97 = .ok (.iload_n 1, 1) := by decide +kernel
theorem dX6_why_98 : decode cX6_why 98 = .ok (.iconst 5, 1) := by decide +kernel
theorem dX6_why_99 : decode cX6_why 99 = .ok (.invokevirtual 59, 3) := by decide +kernel
theorem dX6_why_102 : decode cX6_why 102 = .ok (.iconst 2, 1) := by decide +kernel
theorem dX6_why_103 : decode cX6_why 103 = .ok (.if_icmp .le 7, 3) := by decide +kernel
theorem dX6_why_106 : decode cX6_why 106 = .ok (.iconst 4, 1) := by decide +kernel
theorem dX6_why_107 : decode cX6_why 107 = .ok (.goto 4, 3) := by decide +kernel
theorem dX6_why_110 : decode cX6_why 110 = .ok (.iconst 0, 1) := by decide +kernel
theorem dX6_why_111 : decode cX6_why 111 = .ok (.ireturn, 1) := by decide +kernel
theorem dX6_told_0 : decode cX6_told 0 = .ok (.iload_n 2, 1) := by decide +kernel
theorem dX6_told_1 : decode cX6_told 1 = .ok (.bipush 15, 2) := by decide +kernel
theorem dX6_told_3 : decode cX6_told 3 = .ok (.if_icmp .ge 12, 3) := by decide +kernel
theorem dX6_told_6 : decode cX6_told 6 = .ok (.aload_n 0, 1) := by decide +kernel
theorem dX6_told_7 : decode cX6_told 7 = .ok (.iload_n 1, 1) := by decide +kernel
theorem dX6_told_8 : decode cX6_told 8 = .ok (.iload_n 2, 1) := by decide +kernel
theorem dX6_told_9 : decode cX6_told 9 = .ok (.invokevirtual 59, 3) := by decide +kernel
theorem dX6_told_12 : decode cX6_told 12 = .ok (.goto 8, 3) := by decide +kernel
theorem dX6_told_15 : decode cX6_told 15 = .ok (.aload_n 0, 1) := by decide +kernel
theorem dX6_told_16 : decode cX6_told 16 = .ok (.iload_n 1, 1) := by decide +kernel
theorem dX6_told_17 : decode cX6_told 17 = .ok (.invokevirtual 84, 3) := by decide +kernel
theorem dX6_told_20 : decode cX6_told 20 = .ok (.ireturn, 1) := by decide +kernel
theorem dX6_point_0 : decode cX6_point 0 = .ok (.aload_n 0, 1) := by decide +kernel
theorem dX6_point_1 : decode cX6_point 1 = .ok (.iload_n 1, 1) := by decide +kernel
theorem dX6_point_2 : decode cX6_point 2 = .ok (.invokevirtual 52, 3) := by decide +kernel
theorem dX6_point_5 : decode cX6_point 5 = .ok (.ifCond .eq 22, 3) := by decide +kernel
theorem dX6_point_8 : decode cX6_point 8 = .ok (.iload_n 2, 1) := by decide +kernel
theorem dX6_point_9 : decode cX6_point 9 = .ok (.iconst 0, 1) := by decide +kernel
theorem dX6_point_10 : decode cX6_point 10 = .ok (.bipush 15, 2) := by decide +kernel
theorem dX6_point_12 : decode cX6_point 12 = .ok (.invokestatic 32, 3) := by decide +kernel
theorem dX6_point_15 : decode cX6_point 15 = .ok (.ifCond .eq 12, 3) := by decide +kernel
theorem dX6_point_18 : decode cX6_point 18 = .ok (.aload_n 0, 1) := by decide +kernel
theorem dX6_point_19 : decode cX6_point 19 = .ok (.iload_n 1, 1) := by decide +kernel
theorem dX6_point_20 : decode cX6_point 20 = .ok (.iload_n 2, 1) := by decide +kernel
theorem dX6_point_21 : decode cX6_point 21 = .ok (.invokevirtual 87, 3) := by decide +kernel
theorem dX6_point_24 : decode cX6_point 24 = .ok (.goto 6, 3) := by decide +kernel
theorem dX6_point_27 : decode cX6_point 27 = .ok (.sipush (-20001), 3) := by decide +kernel
theorem dX6_point_30 : decode cX6_point 30 = .ok (.ireturn, 1) := by decide +kernel
theorem dX6_points_0 : decode cX6_points 0 = .ok (.aload_n 0, 1) := by decide +kernel
theorem dX6_points_1 : decode cX6_points 1 = .ok (.getfield 7, 3) := by decide +kernel
theorem dX6_points_4 : decode cX6_points 4 = .ok (.iconst 0, 1) := by decide +kernel
theorem dX6_points_5 : decode cX6_points 5 = .ok (.iaload, 1) := by decide +kernel
theorem dX6_points_6 : decode cX6_points 6 = .ok (.ireturn, 1) := by decide +kernel
theorem dX6_states_0 : decode cX6_states 0 = .ok (.iload_n 1, 1) := by decide +kernel
theorem dX6_states_1 : decode cX6_states 1 = .ok (.iconst 0, 1) := by decide +kernel
theorem dX6_states_2 : decode cX6_states 2 = .ok (.iconst 3, 1) := by decide +kernel
theorem dX6_states_3 : decode cX6_states 3 = .ok (.invokestatic 32, 3) := by decide +kernel
theorem dX6_states_6 : decode cX6_states 6 = .ok (.ifCond .ne 7, 3) := by decide +kernel
theorem dX6_states_9 : decode cX6_states 9 = .ok (.sipush (-20001), 3) := by decide +kernel
theorem dX6_states_12 : decode cX6_states 12 = .ok (.ireturn, 1) := by decide +kernel
theorem dX6_states_13 : decode cX6_states 13 = .ok (.aload_n 0, 1) := by decide +kernel
theorem dX6_states_14 : decode cX6_states 14 = .ok (.getfield 7, 3) := by decide +kernel
theorem dX6_states_17 : decode cX6_states 17 = .ok (.iconst 2, 1) := by decide +kernel
theorem dX6_states_18 : decode cX6_states 18 = .ok (.iaload, 1) := by decide +kernel
theorem dX6_states_19 : decode cX6_states 19 = .ok (.istore_n 2, 1) := by decide +kernel
theorem dX6_states_20 : decode cX6_states 20 = .ok (.aload_n 0, 1) := by decide +kernel
theorem dX6_states_21 : decode cX6_states 21 = .ok (.getfield 7, 3) := by decide +kernel
theorem dX6_states_24 : decode cX6_states 24 = .ok (.iconst 2, 1) := by decide +kernel
theorem dX6_states_25 : decode cX6_states 25 = .ok (.iload_n 1, 1) := by decide +kernel
theorem dX6_states_26 : decode cX6_states 26 = .ok (.iastore, 1) := by decide +kernel
theorem dX6_states_27 : decode cX6_states 27 = .ok (.iload_n 2, 1) := by decide +kernel
theorem dX6_states_28 : decode cX6_states 28 = .ok (.ireturn, 1) := by decide +kernel
theorem dX6_setState_0 : decode cX6_setState 0 = .ok (.aload_n 0, 1) := by decide +kernel
theorem dX6_setState_1 : decode cX6_setState 1 = .ok (.getfield 7, 3) := by decide +kernel
theorem dX6_setState_4 : decode cX6_setState 4 = .ok (.aload_n 0, 1) := by decide +kernel
theorem dX6_setState_5 : decode cX6_setState 5 = .ok (.getfield 13, 3) := by decide +kernel
theorem dX6_setState_8 : decode cX6_setState 8 = .ok (.invokestatic 67, 3) := by decide +kernel
theorem dX6_setState_11 : decode cX6_setState 11 = .ok (.aload_n 0, 1) := by decide +kernel
theorem dX6_setState_12 : decode cX6_setState 12 = .ok (.aload_n 0, 1) := by decide +kernel
theorem dX6_setState_13 : decode cX6_setState 13 = .ok (.iload_n 1, 1) := by decide +kernel
theorem dX6_setState_14 : decode cX6_setState 14 = .ok (.invokevirtual 90, 3) := by decide +kernel
theorem dX6_setState_17 : decode cX6_setState 17 = .ok (.invokevirtual 74, 3) := by decide +kernel
theorem dX6_setState_20 : decode cX6_setState 20 = .ok (.ireturn, 1) := by decide +kernel
theorem dX6_setFlood_0 : decode cX6_setFlood 0 = .ok (.iload_n 1, 1) := by decide +kernel
theorem dX6_setFlood_1 : decode cX6_setFlood 1 = .ok (.iconst 1, 1) := by decide +kernel
theorem dX6_setFlood_2 : decode cX6_setFlood 2 = .ok (.bipush 60, 2) := by decide +kernel
theorem dX6_setFlood_4 : decode cX6_setFlood 4 = .ok (.invokestatic 32, 3) := by decide +kernel
theorem dX6_setFlood_7 : decode cX6_setFlood 7 = .ok (.ifCond .eq 22, 3) := by decide +kernel
theorem dX6_setFlood_10 : decode cX6_setFlood 10 = .ok (.iload_n 2, 1) := by decide +kernel
theorem dX6_setFlood_11 : decode cX6_setFlood 11 = .ok (.iconst 1, 1) := by decide +kernel
theorem dX6_setFlood_12 : decode cX6_setFlood 12 = .ok (.bipush 50, 2) := by decide +kernel
theorem dX6_setFlood_14 : decode cX6_setFlood 14 = .ok (.invokestatic 32, 3) := by decide +kernel
theorem dX6_setFlood_17 : decode cX6_setFlood 17 = .ok (.ifCond .eq 12, 3) := by decide +kernel
theorem dX6_setFlood_20 : decode cX6_setFlood 20 = .ok (.iload_n 3, 1) := by decide +kernel
theorem dX6_setFlood_21 : decode cX6_setFlood 21 = .ok (.iconst 0, 1) := by decide +kernel
theorem dX6_setFlood_22 : decode cX6_setFlood 22 = .ok (.iload_n 2, 1) := by decide +kernel
theorem dX6_setFlood_23 : decode cX6_setFlood 23 = .ok (.invokestatic 32, 3) := by decide +kernel
theorem dX6_setFlood_26 : decode cX6_setFlood 26 = .ok (.ifCond .ne 7, 3) := by decide +kernel
theorem dX6_setFlood_29 : decode cX6_setFlood 29 = .ok (.sipush (-20001), 3) := by decide +kernel
theorem dX6_setFlood_32 : decode cX6_setFlood 32 = .ok (.ireturn, 1) := by decide +kernel
theorem dX6_setFlood_33 : decode cX6_setFlood 33 = .ok (.aload_n 0, 1) := by decide +kernel
theorem dX6_setFlood_34 : decode cX6_setFlood 34 = .ok (.aload_n 0, 1) := by decide +kernel
theorem dX6_setFlood_35 : decode cX6_setFlood 35 = .ok (.getfield 7, 3) := by decide +kernel
theorem dX6_setFlood_38 : decode cX6_setFlood 38 = .ok (.invokevirtual 40, 3) := by decide +kernel
theorem dX6_setFlood_41 : decode cX6_setFlood 41 = .ok (.sipush 10000, 3) := by decide +kernel
theorem dX6_setFlood_44 : decode cX6_setFlood 44 = .ok (.aload_n 0, 1) := by decide +kernel
theorem dX6_setFlood_45 : decode cX6_setFlood 45 = .ok (.getfield 7, 3) := by decide +kernel
theorem dX6_setFlood_48 : decode cX6_setFlood 48 = .ok (.iconst 5, 1) := by decide +kernel
theorem dX6_setFlood_49 : decode cX6_setFlood 49 = .ok (.iaload, 1) := by decide +kernel
theorem dX6_setFlood_50 : decode cX6_setFlood 50 = .ok (.imul, 1) := by decide +kernel
theorem dX6_setFlood_51 : decode cX6_setFlood 51 = .ok (.bipush 100, 2) := by decide +kernel
theorem dX6_setFlood_53 : decode cX6_setFlood 53 = .ok (.aload_n 0, 1) := by decide +kernel
theorem dX6_setFlood_54 : decode cX6_setFlood 54 = .ok (.getfield 7, 3) := by decide +kernel
theorem dX6_setFlood_57 : decode cX6_setFlood 57 = .ok (.bipush 6, 2) := by decide +kernel
theorem dX6_setFlood_59 : decode cX6_setFlood 59 = .ok (.iaload, 1) := by decide +kernel
theorem dX6_setFlood_60 : decode cX6_setFlood 60 = .ok (.imul, 1) := by decide +kernel
theorem dX6_setFlood_61 : decode cX6_setFlood 61 = .ok (.iadd, 1) := by decide +kernel
theorem dX6_setFlood_62 : decode cX6_setFlood 62 = .ok (.aload_n 0, 1) := by decide +kernel
theorem dX6_setFlood_63 : decode cX6_setFlood 63 = .ok (.getfield 7, 3) := by decide +kernel
theorem dX6_setFlood_66 : decode cX6_setFlood 66 = .ok (.bipush 7, 2) := by decide +kernel
theorem dX6_setFlood_68 : decode cX6_setFlood 68 = .ok (.iaload, 1) := by decide +kernel
theorem dX6_setFlood_69 : decode cX6_setFlood 69 = .ok (.iadd, 1) := by decide +kernel
theorem dX6_setFlood_70 : decode cX6_setFlood 70 = .ok (.istore 4, 2) := by decide +kernel
theorem dX6_setFlood_72 : decode cX6_setFlood 72 = .ok (.aload_n 0, 1) := by decide +kernel
theorem dX6_setFlood_73 : decode cX6_setFlood 73 = .ok (.getfield 7, 3) := by decide +kernel
theorem dX6_setFlood_76 : decode cX6_setFlood 76 = .ok (.iconst 5, 1) := by decide +kernel
theorem dX6_setFlood_77 : decode cX6_setFlood 77 = .ok (.iload_n 1, 1) := by decide +kernel
theorem dX6_setFlood_78 : decode cX6_setFlood 78 = .ok (.iastore, 1) := by decide +kernel
theorem dX6_setFlood_79 : decode cX6_setFlood 79 = .ok (.aload_n 0, 1) := by decide +kernel
theorem dX6_setFlood_80 : decode cX6_setFlood 80 = .ok (.getfield 7, 3) := by decide +kernel
theorem dX6_setFlood_83 : decode cX6_setFlood 83 = .ok (.bipush 6, 2) := by decide +kernel
theorem dX6_setFlood_85 : decode cX6_setFlood 85 = .ok (.iload_n 2, 1) := by decide +kernel
theorem dX6_setFlood_86 : decode cX6_setFlood 86 = .ok (.iastore, 1) := by decide +kernel
theorem dX6_setFlood_87 : decode cX6_setFlood 87 = .ok (.aload_n 0, 1) := by decide +kernel
theorem dX6_setFlood_88 : decode cX6_setFlood 88 = .ok (.getfield 7, 3) := by decide +kernel
theorem dX6_setFlood_91 : decode cX6_setFlood 91 = .ok (.bipush 7, 2) := by decide +kernel
theorem dX6_setFlood_93 : decode cX6_setFlood 93 = .ok (.iload_n 3, 1) := by decide +kernel
theorem dX6_setFlood_94 : decode cX6_setFlood 94 = .ok (.iastore, 1) := by decide +kernel
theorem dX6_setFlood_95 : decode cX6_setFlood 95 = .ok (.iload 4, 2) := by decide +kernel
theorem dX6_setFlood_97 : decode cX6_setFlood 97 = .ok (.ireturn, 1) := by decide +kernel
theorem dX6_isOver_0 : decode cX6_isOver 0 = .ok (.iload_n 0, 1) := by decide +kernel
theorem dX6_isOver_1 : decode cX6_isOver 1 = .ok (.ifCond .ne 16, 3) := by decide +kernel
theorem dX6_isOver_4 : decode cX6_isOver 4 = .ok (.iload_n 2, 1) := by decide +kernel
theorem dX6_isOver_5 : decode cX6_isOver 5 = .ok (.iload_n 1, 1) := by decide +kernel
theorem dX6_isOver_6 : decode cX6_isOver 6 = .ok (.if_icmp .lt 7, 3) := by decide +kernel
theorem dX6_isOver_9 : decode cX6_isOver 9 = .ok (.iconst 1, 1) := by decide +kernel
theorem dX6_isOver_10 : decode cX6_isOver 10 = .ok (.goto 17, 3) := by decide +kernel
theorem dX6_isOver_13 : decode cX6_isOver 13 = .ok (.iconst 0, 1) := by decide +kernel
theorem dX6_isOver_14 : decode cX6_isOver 14 = .ok (.goto 13, 3) := by decide +kernel
theorem dX6_isOver_17 : decode cX6_isOver 17 = .ok (.iload_n 2, 1) := by decide +kernel
theorem dX6_isOver_18 : decode cX6_isOver 18 = .ok (.iload_n 1, 1) := by decide +kernel
theorem dX6_isOver_19 : decode cX6_isOver 19 = .ok (.if_icmp .gt 7, 3) := by decide +kernel
theorem dX6_isOver_22 : decode cX6_isOver 22 = .ok (.iconst 1, 1) := by decide +kernel
theorem dX6_isOver_23 : decode cX6_isOver 23 = .ok (.goto 4, 3) := by decide +kernel
theorem dX6_isOver_26 : decode cX6_isOver 26 = .ok (.iconst 0, 1) := by decide +kernel
theorem dX6_isOver_27 : decode cX6_isOver 27 = .ok (.ireturn, 1) := by decide +kernel
theorem dX6_isClear_0 : decode cX6_isClear 0 = .ok (.iload_n 2, 1) := by decide +kernel
theorem dX6_isClear_1 : decode cX6_isClear 1 = .ok (.ifCond .ne 20, 3) := by decide +kernel
theorem dX6_isClear_4 : decode cX6_isClear 4 = .ok (.iload_n 0, 1) := by decide +kernel
theorem dX6_isClear_5 : decode cX6_isClear 5 = .ok (.iload_n 1, 1) := by decide +kernel
theorem dX6_isClear_6 : decode cX6_isClear 6 = .ok (.iload_n 3, 1) := by decide +kernel
theorem dX6_isClear_7 : decode cX6_isClear 7 = .ok (.invokestatic 93, 3) := by decide +kernel
theorem dX6_isClear_10 : decode cX6_isClear 10 = .ok (.ifCond .ne 7, 3) := by decide +kernel
theorem dX6_isClear_13 : decode cX6_isClear 13 = .ok (.iconst 1, 1) := by decide +kernel
theorem dX6_isClear_14 : decode cX6_isClear 14 = .ok (.goto 38, 3) := by decide +kernel
theorem dX6_isClear_17 : decode cX6_isClear 17 = .ok (.iconst 0, 1) := by decide +kernel
theorem dX6_isClear_18 : decode cX6_isClear 18 = .ok (.goto 34, 3) := by decide +kernel
theorem dX6_isClear_21 : decode cX6_isClear 21 = .ok (.iload_n 0, 1) := by decide +kernel
theorem dX6_isClear_22 : decode cX6_isClear 22 = .ok (.ifCond .ne 18, 3) := by decide +kernel
theorem dX6_isClear_25 : decode cX6_isClear 25 = .ok (.iload_n 3, 1) := by decide +kernel
theorem dX6_isClear_26 : decode cX6_isClear 26 = .ok (.iload_n 1, 1) := by decide +kernel
theorem dX6_isClear_27 : decode cX6_isClear 27 = .ok (.iload_n 2, 1) := by decide +kernel
theorem dX6_isClear_28 : decode cX6_isClear 28 = .ok (.isub, 1) := by decide +kernel
theorem dX6_isClear_29 : decode cX6_isClear 29 = .ok (.if_icmp .ge 7, 3) := by decide +kernel
theorem dX6_isClear_32 : decode cX6_isClear 32 = .ok (.iconst 1, 1) := by decide +kernel
theorem dX6_isClear_33 : decode cX6_isClear 33 = .ok (.goto 19, 3) := by decide +kernel
theorem dX6_isClear_36 : decode cX6_isClear 36 = .ok (.iconst 0, 1) := by decide +kernel
theorem dX6_isClear_37 : decode cX6_isClear 37 = .ok (.goto 15, 3) := by decide +kernel
theorem dX6_isClear_40 : decode cX6_isClear 40 = .ok (.iload_n 3, 1) := by decide +kernel
theorem dX6_isClear_41 : decode cX6_isClear 41 = .ok (.iload_n 1, 1) := by decide +kernel
theorem dX6_isClear_42 : decode cX6_isClear 42 = .ok (.iload_n 2, 1) := by decide +kernel
theorem dX6_isClear_43 : decode cX6_isClear 43 = .ok (.iadd, 1) := by decide +kernel
theorem dX6_isClear_44 : decode cX6_isClear 44 = .ok (.if_icmp .le 7, 3) := by decide +kernel
theorem dX6_isClear_47 : decode cX6_isClear 47 = .ok (.iconst 1, 1) := by decide +kernel
theorem dX6_isClear_48 : decode cX6_isClear 48 = .ok (.goto 4, 3) := by decide +kernel
theorem dX6_isClear_51 : decode cX6_isClear 51 = .ok (.iconst 0, 1) := by decide +kernel
theorem dX6_isClear_52 : decode cX6_isClear 52 = .ok (.ireturn, 1) := by decide +kernel
theorem dX6_looks_0 : decode cX6_looks 0 = .ok (.aload_n 0, 1) := by decide +kernel
theorem dX6_looks_1 : decode cX6_looks 1 = .ok (.iload_n 1, 1) := by decide +kernel
theorem dX6_looks_2 : decode cX6_looks 2 = .ok (.bipush 9, 2) := by decide +kernel
theorem dX6_looks_4 : decode cX6_looks 4 = .ok (.invokevirtual 59, 3) := by decide +kernel
theorem dX6_looks_7 : decode cX6_looks 7 = .ok (.ifCond .ne 7, 3) := by decide +kernel
theorem dX6_looks_10 : decode cX6_looks 10 = .ok (.iconst 1, 1) := by decide +kernel
theorem dX6_looks_11 : decode cX6_looks 11 = .ok (.goto 4, 3) := by decide +kernel
theorem dX6_looks_14 : decode cX6_looks 14 = .ok (.iconst 0, 1) := by decide +kernel
theorem dX6_looks_15 : decode cX6_looks 15 = .ok (.istore_n 2, 1) := by decide +kernel
theorem dX6_looks_16 : decode cX6_looks 16 = .ok (.iload_n 2, 1) := by decide +kernel
theorem dX6_looks_17 : decode cX6_looks 17 = .ok (.ifCond .eq 28, 3) := by decide +kernel
theorem dX6_looks_20 : decode cX6_looks 20 = .ok (.aload_n 0, 1) := by decide +kernel
theorem dX6_looks_21 : decode cX6_looks 21 = .ok (.iload_n 1, 1) := by decide +kernel
theorem dX6_looks_22 : decode cX6_looks 22 = .ok (.iconst 0, 1) := by decide +kernel
theorem dX6_looks_23 : decode cX6_looks 23 = .ok (.invokevirtual 59, 3) := by decide +kernel
theorem dX6_looks_26 : decode cX6_looks 26 = .ok (.aload_n 0, 1) := by decide +kernel
theorem dX6_looks_27 : decode cX6_looks 27 = .ok (.iload_n 1, 1) := by decide +kernel
theorem dX6_looks_28 : decode cX6_looks 28 = .ok (.iconst 1, 1) := by decide +kernel
theorem dX6_looks_29 : decode cX6_looks 29 = .ok (.invokevirtual 59, 3) := by decide +kernel
theorem dX6_looks_32 : decode cX6_looks 32 = .ok (.aload_n 0, 1) := by decide +kernel
theorem dX6_looks_33 : decode cX6_looks 33 = .ok (.iload_n 1, 1) := by decide +kernel
theorem dX6_looks_34 : decode cX6_looks 34 = .ok (.bipush 7, 2) := by decide +kernel
theorem dX6_looks_36 : decode cX6_looks 36 = .ok (.invokevirtual 59, 3) := by decide +kernel
theorem dX6_looks_39 : decode cX6_looks 39 = .ok (.invokestatic 93, 3) := by decide +kernel
theorem dX6_looks_42 : decode cX6_looks 42 = .ok (.goto 31, 3) := by decide +kernel
theorem dX6_looks_45 : decode cX6_looks 45 = .ok (.aload_n 0, 1) := by decide +kernel
theorem dX6_looks_46 : decode cX6_looks 46 = .ok (.iload_n 1, 1) := by decide +kernel
theorem dX6_looks_47 : decode cX6_looks 47 = .ok (.iconst 0, 1) := by decide +kernel
theorem dX6_looks_48 : decode cX6_looks 48 = .ok (.invokevirtual 59, 3) := by decide +kernel
theorem dX6_looks_51 : decode cX6_looks 51 = .ok (.aload_n 0, 1) := by decide +kernel
theorem dX6_looks_52 : decode cX6_looks 52 = .ok (.iload_n 1, 1) := by decide +kernel
theorem dX6_looks_53 : decode cX6_looks 53 = .ok (.iconst 1, 1) := by decide +kernel
theorem dX6_looks_54 : decode cX6_looks 54 = .ok (.invokevirtual 59, 3) := by decide +kernel
theorem dX6_looks_57 : decode cX6_looks 57 = .ok (.aload_n 0, 1) := by decide +kernel
theorem dX6_looks_58 : decode cX6_looks 58 = .ok (.iload_n 1, 1) := by decide +kernel
theorem dX6_looks_59 : decode cX6_looks 59 = .ok (.iconst 2, 1) := by decide +kernel
theorem dX6_looks_60 : decode cX6_looks 60 = .ok (.invokevirtual 59, 3) := by decide +kernel
theorem dX6_looks_63 : decode cX6_looks 63 = .ok (.aload_n 0, 1) := by decide +kernel
theorem dX6_looks_64 : decode cX6_looks 64 = .ok (.iload_n 1, 1) := by decide +kernel
theorem dX6_looks_65 : decode cX6_looks 65 = .ok (.bipush 7, 2) := by decide +kernel
theorem dX6_looks_67 : decode cX6_looks 67 = .ok (.invokevirtual 59, 3) := by decide +kernel
theorem dX6_looks_70 : decode cX6_looks 70 = .ok (.invokestatic 96, 3) := by decide +kernel
theorem dX6_looks_73 : decode cX6_looks 73 = .ok (.istore_n 3, 1) := by decide +kernel
theorem dX6_looks_74 : decode cX6_looks 74 = .ok (.aload_n 0, 1) := by decide +kernel
theorem dX6_looks_75 : decode cX6_looks 75 = .ok (.iload_n 1, 1) := by decide +kernel
theorem dX6_looks_76 : decode cX6_looks 76 = .ok (.bipush 11, 2) := by decide +kernel
theorem dX6_looks_78 : decode cX6_looks 78 = .ok (.iload_n 3, 1) := by decide +kernel
theorem dX6_looks_79 : decode cX6_looks 79 = .ok (.ifCond .eq 15, 3) := by decide +kernel
theorem dX6_looks_82 : decode cX6_looks 82 = .ok (.aload_n 0, 1) := by decide +kernel
theorem dX6_looks_83 : decode cX6_looks 83 = .ok (.iload_n 1, 1) := by decide +kernel
theorem dX6_looks_84 : decode cX6_looks 84 = .ok (.bipush 11, 2) := by decide +kernel
theorem dX6_looks_86 : decode cX6_looks 86 = .ok (.invokevirtual 59, 3) := by decide +kernel
theorem dX6_looks_89 : decode cX6_looks 89 = .ok (.iconst 1, 1) := by decide +kernel
theorem dX6_looks_90 : decode cX6_looks 90 = .ok (.iadd, 1) := by decide +kernel
theorem dX6_looks_91 : decode cX6_looks 91 = .ok (.goto 4, 3) := by decide +kernel
theorem dX6_looks_94 : decode cX6_looks 94 = .ok (.iconst 0, 1) := by decide +kernel
theorem dX6_looks_95 : decode cX6_looks 95 = .ok (.invokevirtual 44, 3) := by decide +kernel
theorem dX6_looks_98 : decode cX6_looks 98 = .ok (.aload_n 0, 1) := by decide +kernel
theorem dX6_looks_99 : decode cX6_looks 99 = .ok (.iload_n 1, 1) := by decide +kernel
theorem dX6_looks_100 : decode cX6_looks 100 = .ok (.bipush 11, 2) := by decide +kernel
theorem dX6_looks_102 : decode cX6_looks 102 = .ok (.invokevirtual 59, 3) := by decide +kernel
theorem dX6_looks_105 : decode cX6_looks 105 = .ok (.aload_n 0, 1) := by decide +kernel
theorem dX6_looks_106 : decode cX6_looks 106 = .ok (.iload_n 1, 1) := by decide +kernel
theorem dX6_looks_107 : decode cX6_looks 107 = .ok (.iload_n 2, 1) := by decide +kernel
theorem dX6_looks_108 : decode cX6_looks 108 = .ok (.ifCond .eq 7, 3) := by decide +kernel
theorem dX6_looks_111 : decode cX6_looks 111 = .ok (.iconst 3, 1) := by decide +kernel
theorem dX6_looks_112 : decode cX6_looks 112 = .ok (.goto 4, 3) := by decide +kernel
theorem dX6_looks_115 : decode cX6_looks 115 = .ok (.iconst 4, 1) := by decide +kernel
theorem dX6_looks_116 : decode cX6_looks 116 = .ok (.invokevirtual 59, 3) := by decide +kernel
theorem dX6_looks_119 : decode cX6_looks 119 = .ok (.if_icmp .le 114, 3) := by decide +kernel
theorem dX6_looks_122 : decode cX6_looks 122 = .ok (.aload_n 0, 1) := by decide +kernel
theorem dX6_looks_123 : decode cX6_looks 123 = .ok (.iload_n 1, 1) := by decide +kernel
theorem dX6_looks_124 : decode cX6_looks 124 = .ok (.bipush 11, 2) := by decide +kernel
theorem dX6_looks_126 : decode cX6_looks 126 = .ok (.iconst 0, 1) := by decide +kernel
theorem dX6_looks_127 : decode cX6_looks 127 = .ok (.invokevirtual 44, 3) := by decide +kernel
theorem dX6_looks_130 : decode cX6_looks 130 = .ok (.aload_n 0, 1) := by decide +kernel
theorem dX6_looks_131 : decode cX6_looks 131 = .ok (.iload_n 1, 1) := by decide +kernel
theorem dX6_looks_132 : decode cX6_looks 132 = .ok (.bipush 9, 2) := by decide +kernel
theorem dX6_looks_134 : decode cX6_looks 134 = .ok (.iload_n 2, 1) := by decide +kernel
theorem dX6_looks_135 : decode cX6_looks 135 = .ok (.ifCond .eq 7, 3) := by decide +kernel
theorem dX6_looks_138 : decode cX6_looks 138 = .ok (.iconst 1, 1) := by decide +kernel
theorem dX6_looks_139 : decode cX6_looks 139 = .ok (.goto 4, 3) := by decide +kernel
theorem dX6_looks_142 : decode cX6_looks 142 = .ok (.iconst 0, 1) := by decide +kernel
theorem dX6_looks_143 : decode cX6_looks 143 = .ok (.invokevirtual 44, 3) := by decide +kernel
theorem dX6_looks_146 : decode cX6_looks 146 = .ok (.iload_n 2, 1) := by decide +kernel
theorem dX6_looks_147 : decode cX6_looks 147 = .ok (.ifCond .eq 72, 3) := by decide +kernel
theorem dX6_looks_150 : decode cX6_looks 150 = .ok (.aload_n 0, 1) := by decide +kernel
theorem dX6_looks_151 : decode cX6_looks 151 = .ok (.iload_n 1, 1) := by decide +kernel
theorem dX6_looks_152 : decode cX6_looks 152 = .ok (.bipush 10, 2) := by decide +kernel
theorem dX6_looks_154 : decode cX6_looks 154 = .ok (.iconst 0, 1) := by decide +kernel
theorem dX6_looks_155 : decode cX6_looks 155 = .ok (.invokevirtual 44, 3) := by decide +kernel
theorem dX6_looks_158 : decode cX6_looks 158 = .ok (.aload_n 0, 1) := by decide +kernel
theorem dX6_looks_159 : decode cX6_looks 159 = .ok (.iload_n 1, 1) := by decide +kernel
theorem dX6_looks_160 : decode cX6_looks 160 = .ok (.bipush 12, 2) := by decide +kernel
theorem dX6_looks_162 : decode cX6_looks 162 = .ok (.aload_n 0, 1) := by decide +kernel
theorem dX6_looks_163 : decode cX6_looks 163 = .ok (.getfield 7, 3) := by decide +kernel
theorem dX6_looks_166 : decode cX6_looks 166 = .ok (.iconst 1, 1) := by decide +kernel
theorem dX6_looks_167 : decode cX6_looks 167 = .ok (.iaload, 1) := by decide +kernel
theorem dX6_looks_168 : decode cX6_looks 168 = .ok (.invokevirtual 44, 3) := by decide +kernel
theorem dX6_looks_171 : decode cX6_looks 171 = .ok (.aload_n 0, 1) := by decide +kernel
theorem dX6_looks_172 : decode cX6_looks 172 = .ok (.iload_n 1, 1) := by decide +kernel
theorem dX6_looks_173 : decode cX6_looks 173 = .ok (.bipush 14, 2) := by decide +kernel
theorem dX6_looks_175 : decode cX6_looks 175 = .ok (.aload_n 0, 1) := by decide +kernel
theorem dX6_looks_176 : decode cX6_looks 176 = .ok (.iload_n 1, 1) := by decide +kernel
theorem dX6_looks_177 : decode cX6_looks 177 = .ok (.bipush 14, 2) := by decide +kernel
theorem dX6_looks_179 : decode cX6_looks 179 = .ok (.invokevirtual 59, 3) := by decide +kernel
theorem dX6_looks_182 : decode cX6_looks 182 = .ok (.iconst 1, 1) := by decide +kernel
theorem dX6_looks_183 : decode cX6_looks 183 = .ok (.iadd, 1) := by decide +kernel
theorem dX6_looks_184 : decode cX6_looks 184 = .ok (.invokevirtual 44, 3) := by decide +kernel
theorem dX6_looks_187 : decode cX6_looks 187 = .ok (.aload_n 0, 1) := by decide +kernel
theorem dX6_looks_188 : decode cX6_looks 188 = .ok (.getfield 7, 3) := by decide +kernel
theorem dX6_looks_191 : decode cX6_looks 191 = .ok (.bipush 8, 2) := by decide +kernel
theorem dX6_looks_193 : decode cX6_looks 193 = .ok (.dup2, 1) := by decide +kernel
theorem dX6_looks_194 : decode cX6_looks 194 = .ok (.iaload, 1) := by decide +kernel
theorem dX6_looks_195 : decode cX6_looks 195 = .ok (.iconst 1, 1) := by decide +kernel
theorem dX6_looks_196 : decode cX6_looks 196 = .ok (.iadd, 1) := by decide +kernel
theorem dX6_looks_197 : decode cX6_looks 197 = .ok (.iastore, 1) := by decide +kernel
theorem dX6_looks_198 : decode cX6_looks 198 = .ok (.aload_n 0, 1) := by decide +kernel
theorem dX6_looks_199 : decode cX6_looks 199 = .ok (.getfield 7, 3) := by decide +kernel
theorem dX6_looks_202 : decode cX6_looks 202 = .ok (.bipush 16, 2) := by decide +kernel
theorem dX6_looks_204 : decode cX6_looks 204 = .ok (.aload_n 0, 1) := by decide +kernel
theorem dX6_looks_205 : decode cX6_looks 205 = .ok (.getfield 7, 3) := by decide +kernel
theorem dX6_looks_208 : decode cX6_looks 208 = .ok (.iconst 1, 1) := by decide +kernel
theorem dX6_looks_209 : decode cX6_looks 209 = .ok (.iaload, 1) := by decide +kernel
theorem dX6_looks_210 : decode cX6_looks 210 = .ok (.bipush 64, 2) := by decide +kernel
theorem dX6_looks_212 : decode cX6_looks 212 = .ok (.irem, 1) := by decide +kernel
theorem dX6_looks_213 : decode cX6_looks 213 = .ok (.iadd, 1) := by decide +kernel
theorem dX6_looks_214 : decode cX6_looks 214 = .ok (.dup2, 1) := by decide +kernel
theorem dX6_looks_215 : decode cX6_looks 215 = .ok (.iaload, 1) := by decide +kernel
theorem dX6_looks_216 : decode cX6_looks 216 = .ok (.iconst 1, 1) := by decide +kernel
theorem dX6_looks_217 : decode cX6_looks 217 = .ok (.iadd, 1) := by decide +kernel
theorem dX6_looks_218 : decode cX6_looks 218 = .ok (.iastore, 1) := by decide +kernel
theorem dX6_looks_219 : decode cX6_looks 219 = .ok (.aload_n 0, 1) := by decide +kernel
theorem dX6_looks_220 : decode cX6_looks 220 = .ok (.iload_n 2, 1) := by decide +kernel
theorem dX6_looks_221 : decode cX6_looks 221 = .ok (.ifCond .eq 7, 3) := by decide +kernel
theorem dX6_looks_224 : decode cX6_looks 224 = .ok (.iconst 1, 1) := by decide +kernel
theorem dX6_looks_225 : decode cX6_looks 225 = .ok (.goto 4, 3) := by decide +kernel
theorem dX6_looks_228 : decode cX6_looks 228 = .ok (.iconst 2, 1) := by decide +kernel
theorem dX6_looks_229 : decode cX6_looks 229 = .ok (.iload_n 1, 1) := by decide +kernel
theorem dX6_looks_230 : decode cX6_looks 230 = .ok (.invokevirtual 48, 3) := by decide +kernel
theorem dX6_looks_233 : decode cX6_looks 233 = .ok (.return_, 1) := by decide +kernel
theorem dX6_rate_0 : decode cX6_rate 0 = .ok (.iconst 0, 1) := by decide +kernel
theorem dX6_rate_1 : decode cX6_rate 1 = .ok (.istore_n 1, 1) := by decide +kernel
theorem dX6_rate_2 : decode cX6_rate 2 = .ok (.aload_n 0, 1) := by decide +kernel
theorem dX6_rate_3 : decode cX6_rate 3 = .ok (.getfield 7, 3) := by decide +kernel
theorem dX6_rate_6 : decode cX6_rate 6 = .ok (.iconst 1, 1) := by decide +kernel
theorem dX6_rate_7 : decode cX6_rate 7 = .ok (.iaload, 1) := by decide +kernel
theorem dX6_rate_8 : decode cX6_rate 8 = .ok (.istore_n 2, 1) := by decide +kernel
theorem dX6_rate_9 : decode cX6_rate 9 = .ok (.iload_n 2, 1) := by decide +kernel
theorem dX6_rate_10 : decode cX6_rate 10 = .ok (.aload_n 0, 1) := by decide +kernel
theorem dX6_rate_11 : decode cX6_rate 11 = .ok (.getfield 7, 3) := by decide +kernel
theorem dX6_rate_14 : decode cX6_rate 14 = .ok (.iconst 1, 1) := by decide +kernel
theorem dX6_rate_15 : decode cX6_rate 15 = .ok (.iaload, 1) := by decide +kernel
theorem dX6_rate_16 : decode cX6_rate 16 = .ok (.aload_n 0, 1) := by decide +kernel
theorem dX6_rate_17 : decode cX6_rate 17 = .ok (.getfield 7, 3) := by decide +kernel
theorem dX6_rate_20 : decode cX6_rate 20 = .ok (.iconst 5, 1) := by decide +kernel
theorem dX6_rate_21 : decode cX6_rate 21 = .ok (.iaload, 1) := by decide +kernel
theorem dX6_rate_22 : decode cX6_rate 22 = .ok (.isub, 1) := by decide +kernel
theorem dX6_rate_23 : decode cX6_rate 23 = .ok (.if_icmp .le 28, 3) := by decide +kernel
theorem dX6_rate_26 : decode cX6_rate 26 = .ok (.iload_n 2, 1) := by decide +kernel
theorem dX6_rate_27 : decode cX6_rate 27 = .ok (.ifCond .le 24, 3) := by decide +kernel
theorem dX6_rate_30 : decode cX6_rate 30 = .ok (.iload_n 1, 1) := by decide +kernel
theorem dX6_rate_31 : decode cX6_rate 31 = .ok (.aload_n 0, 1) := by decide +kernel
theorem dX6_rate_32 : decode cX6_rate 32 = .ok (.getfield 7, 3) := by decide +kernel
theorem dX6_rate_35 : decode cX6_rate 35 = .ok (.bipush 16, 2) := by decide +kernel
theorem dX6_rate_37 : decode cX6_rate 37 = .ok (.iload_n 2, 1) := by decide +kernel
theorem dX6_rate_38 : decode cX6_rate 38 = .ok (.bipush 64, 2) := by decide +kernel
theorem dX6_rate_40 : decode cX6_rate 40 = .ok (.irem, 1) := by decide +kernel
theorem dX6_rate_41 : decode cX6_rate 41 = .ok (.iadd, 1) := by decide +kernel
theorem dX6_rate_42 : decode cX6_rate 42 = .ok (.iaload, 1) := by decide +kernel
theorem dX6_rate_43 : decode cX6_rate 43 = .ok (.iadd, 1) := by decide +kernel
theorem dX6_rate_44 : decode cX6_rate 44 = .ok (.istore_n 1, 1) := by decide +kernel
theorem dX6_rate_45 : decode cX6_rate 45 = .ok (.iinc 2 (-1), 3) := by decide +kernel
theorem dX6_rate_48 : decode cX6_rate 48 = .ok (.goto (-39), 3) := by decide +kernel
theorem dX6_rate_51 : decode cX6_rate 51 = .ok (.iload_n 1, 1) := by decide +kernel
theorem dX6_rate_52 : decode cX6_rate 52 = .ok (.ireturn, 1) := by decide +kernel
theorem dX6_ticksOnce_0 : decode cX6_ticksOnce 0 = .ok (.aload_n 0, 1) := by decide +kernel
theorem dX6_ticksOnce_1 : decode cX6_ticksOnce 1 = .ok (.getfield 7, 3) := by decide +kernel
theorem dX6_ticksOnce_4 : decode cX6_ticksOnce 4 = .ok (.iconst 1, 1) := by decide +kernel
theorem dX6_ticksOnce_5 : decode cX6_ticksOnce 5 = .ok (.dup2, 1) := by decide +kernel
theorem dX6_ticksOnce_6 : decode cX6_ticksOnce 6 = .ok (.iaload, 1) := by decide +kernel
theorem dX6_ticksOnce_7 : decode cX6_ticksOnce 7 = .ok (.iconst 1, 1) := by decide +kernel
theorem dX6_ticksOnce_8 : decode cX6_ticksOnce 8 = .ok (.iadd, 1) := by decide +kernel
theorem dX6_ticksOnce_9 : decode cX6_ticksOnce 9 = .ok (.iastore, 1) := by decide +kernel
theorem dX6_ticksOnce_10 : decode cX6_ticksOnce 10 = .ok (.aload_n 0, 1) := by decide +kernel
theorem dX6_ticksOnce_11 : decode cX6_ticksOnce 11 = .ok (.getfield 7, 3) := by decide +kernel
theorem dX6_ticksOnce_14 : decode cX6_ticksOnce 14 = .ok (.bipush 16, 2) := by decide +kernel
theorem dX6_ticksOnce_16 : decode cX6_ticksOnce 16 = .ok (.aload_n 0, 1) := by decide +kernel
theorem dX6_ticksOnce_17 : decode cX6_ticksOnce 17 = .ok (.getfield 7, 3) := by decide +kernel
theorem dX6_ticksOnce_20 : decode cX6_ticksOnce 20 = .ok (.iconst 1, 1) := by decide +kernel
theorem dX6_ticksOnce_21 : decode cX6_ticksOnce 21 = .ok (.iaload, 1) := by decide +kernel
theorem dX6_ticksOnce_22 : decode cX6_ticksOnce 22 = .ok (.bipush 64, 2) := by decide +kernel
theorem dX6_ticksOnce_24 : decode cX6_ticksOnce 24 = .ok (.irem, 1) := by decide +kernel
theorem dX6_ticksOnce_25 : decode cX6_ticksOnce 25 = .ok (.iadd, 1) := by decide +kernel
theorem dX6_ticksOnce_26 : decode cX6_ticksOnce 26 = .ok (.iconst 0, 1) := by decide +kernel
theorem dX6_ticksOnce_27 : decode cX6_ticksOnce 27 = .ok (.iastore, 1) := by decide +kernel
theorem dX6_ticksOnce_28 : decode cX6_ticksOnce 28 = .ok (.iconst 0, 1) := by decide +kernel
theorem dX6_ticksOnce_29 : decode cX6_ticksOnce 29 = .ok (.istore_n 1, 1) := by decide +kernel
theorem dX6_ticksOnce_30 : decode cX6_ticksOnce 30 = .ok (.iload_n 1, 1) := by decide +kernel
theorem dX6_ticksOnce_31 : decode cX6_ticksOnce 31 = .ok (.aload_n 0, 1) := by decide +kernel
theorem dX6_ticksOnce_32 : decode cX6_ticksOnce 32 = .ok (.getfield 7, 3) := by decide +kernel
theorem dX6_ticksOnce_35 : decode cX6_ticksOnce 35 = .ok (.iconst 0, 1) := by decide +kernel
theorem dX6_ticksOnce_36 : decode cX6_ticksOnce 36 = .ok (.iaload, 1) := by decide +kernel
theorem dX6_ticksOnce_37 : decode cX6_ticksOnce 37 = .ok (.if_icmp .ge 14, 3) := by decide +kernel
theorem dX6_ticksOnce_40 : decode cX6_ticksOnce 40 = .ok (.aload_n 0, 1) := by decide +kernel
theorem dX6_ticksOnce_41 : decode cX6_ticksOnce 41 = .ok (.iload_n 1, 1) := by decide +kernel
theorem dX6_ticksOnce_42 : decode cX6_ticksOnce 42 = .ok (.invokevirtual 100, 3) := by decide +kernel
theorem dX6_ticksOnce_45 : decode cX6_ticksOnce 45 = .ok (.iinc 1 1, 3) := by decide +kernel
theorem dX6_ticksOnce_48 : decode cX6_ticksOnce 48 = .ok (.goto (-18), 3) := by decide +kernel
theorem dX6_ticksOnce_51 : decode cX6_ticksOnce 51 = .ok (.iconst 0, 1) := by decide +kernel
theorem dX6_ticksOnce_52 : decode cX6_ticksOnce 52 = .ok (.istore_n 1, 1) := by decide +kernel
theorem dX6_ticksOnce_53 : decode cX6_ticksOnce 53 = .ok (.iload_n 1, 1) := by decide +kernel
theorem dX6_ticksOnce_54 : decode cX6_ticksOnce 54 = .ok (.aload_n 0, 1) := by decide +kernel
theorem dX6_ticksOnce_55 : decode cX6_ticksOnce 55 = .ok (.getfield 7, 3) := by decide +kernel
theorem dX6_ticksOnce_58 : decode cX6_ticksOnce 58 = .ok (.iconst 0, 1) := by decide +kernel
theorem dX6_ticksOnce_59 : decode cX6_ticksOnce 59 = .ok (.iaload, 1) := by decide +kernel
theorem dX6_ticksOnce_60 : decode cX6_ticksOnce 60 = .ok (.if_icmp .ge 40, 3) := by decide +kernel
theorem dX6_ticksOnce_63 : decode cX6_ticksOnce 63 = .ok (.aload_n 0, 1) := by decide +kernel
theorem dX6_ticksOnce_64 : decode cX6_ticksOnce 64 = .ok (.iload_n 1, 1) := by decide +kernel
theorem dX6_ticksOnce_65 : decode cX6_ticksOnce 65 = .ok (.bipush 13, 2) := by decide +kernel
theorem dX6_ticksOnce_67 : decode cX6_ticksOnce 67 = .ok (.invokevirtual 59, 3) := by decide +kernel
theorem dX6_ticksOnce_70 : decode cX6_ticksOnce 70 = .ok (.ifCond .le 24, 3) := by decide +kernel
theorem dX6_ticksOnce_73 : decode cX6_ticksOnce 73 = .ok (.aload_n 0, 1) := by decide +kernel
theorem dX6_ticksOnce_74 : decode cX6_ticksOnce 74 = .ok (.iload_n 1, 1) := by decide +kernel
theorem dX6_ticksOnce_75 : decode cX6_ticksOnce 75 = .ok (.bipush 13, 2) := by decide +kernel
theorem dX6_ticksOnce_77 : decode cX6_ticksOnce 77 = .ok (.invokevirtual 59, 3) := by decide +kernel
theorem dX6_ticksOnce_80 : decode cX6_ticksOnce 80 = .ok (.aload_n 0, 1) := by decide +kernel
theorem dX6_ticksOnce_81 : decode cX6_ticksOnce 81 = .ok (.getfield 7, 3) := by decide +kernel
theorem dX6_ticksOnce_84 : decode cX6_ticksOnce 84 = .ok (.iconst 1, 1) := by decide +kernel
theorem dX6_ticksOnce_85 : decode cX6_ticksOnce 85 = .ok (.iaload, 1) := by decide +kernel
theorem dX6_ticksOnce_86 : decode cX6_ticksOnce 86 = .ok (.if_icmp .gt 8, 3) := by decide +kernel
theorem dX6_ticksOnce_89 : decode cX6_ticksOnce 89 = .ok (.aload_n 0, 1) := by decide +kernel
theorem dX6_ticksOnce_90 : decode cX6_ticksOnce 90 = .ok (.iload_n 1, 1) := by decide +kernel
theorem dX6_ticksOnce_91 : decode cX6_ticksOnce 91 = .ok (.invokevirtual 63, 3) := by decide +kernel
theorem dX6_ticksOnce_94 : decode cX6_ticksOnce 94 = .ok (.iinc 1 1, 3) := by decide +kernel
theorem dX6_ticksOnce_97 : decode cX6_ticksOnce 97 = .ok (.goto (-44), 3) := by decide +kernel
theorem dX6_ticksOnce_100 : decode cX6_ticksOnce 100 = .ok (.aload_n 0, 1) := by decide +kernel
theorem dX6_ticksOnce_101 : decode cX6_ticksOnce 101 = .ok (.getfield 7, 3) := by decide +kernel
theorem dX6_ticksOnce_104 : decode cX6_ticksOnce 104 = .ok (.iconst 3, 1) := by decide +kernel
theorem dX6_ticksOnce_105 : decode cX6_ticksOnce 105 = .ok (.iaload, 1) := by decide +kernel
theorem dX6_ticksOnce_106 : decode cX6_ticksOnce 106 = .ok (.ifCond .ne 48, 3) := by decide +kernel
theorem dX6_ticksOnce_109 : decode cX6_ticksOnce 109 = .ok (.aload_n 0, 1) := by decide +kernel
theorem dX6_ticksOnce_110 : decode cX6_ticksOnce 110 = .ok (.invokevirtual 103, 3) := by decide +kernel
theorem dX6_ticksOnce_113 : decode cX6_ticksOnce 113 = .ok (.aload_n 0, 1) := by decide +kernel
theorem dX6_ticksOnce_114 : decode cX6_ticksOnce 114 = .ok (.getfield 7, 3) := by decide +kernel
theorem dX6_ticksOnce_117 : decode cX6_ticksOnce 117 = .ok (.bipush 6, 2) := by decide +kernel
theorem dX6_ticksOnce_119 : decode cX6_ticksOnce 119 = .ok (.iaload, 1) := by decide +kernel
theorem dX6_ticksOnce_120 : decode cX6_ticksOnce 120 = .ok (.if_icmp .le 34, 3) := by decide +kernel
theorem dX6_ticksOnce_123 : decode cX6_ticksOnce 123 = .ok (.aload_n 0, 1) := by decide +kernel
theorem dX6_ticksOnce_124 : decode cX6_ticksOnce 124 = .ok (.getfield 7, 3) := by decide +kernel
theorem dX6_ticksOnce_127 : decode cX6_ticksOnce 127 = .ok (.iconst 3, 1) := by decide +kernel
theorem dX6_ticksOnce_128 : decode cX6_ticksOnce 128 = .ok (.iconst 1, 1) := by decide +kernel
theorem dX6_ticksOnce_129 : decode cX6_ticksOnce 129 = .ok (.iastore, 1) := by decide +kernel
theorem dX6_ticksOnce_130 : decode cX6_ticksOnce 130 = .ok (.aload_n 0, 1) := by decide +kernel
theorem dX6_ticksOnce_131 : decode cX6_ticksOnce 131 = .ok (.getfield 7, 3) := by decide +kernel
theorem dX6_ticksOnce_134 : decode cX6_ticksOnce 134 = .ok (.iconst 4, 1) := by decide +kernel
theorem dX6_ticksOnce_135 : decode cX6_ticksOnce 135 = .ok (.aload_n 0, 1) := by decide +kernel
theorem dX6_ticksOnce_136 : decode cX6_ticksOnce 136 = .ok (.getfield 7, 3) := by decide +kernel
theorem dX6_ticksOnce_139 : decode cX6_ticksOnce 139 = .ok (.iconst 1, 1) := by decide +kernel
theorem dX6_ticksOnce_140 : decode cX6_ticksOnce 140 = .ok (.iaload, 1) := by decide +kernel
theorem dX6_ticksOnce_141 : decode cX6_ticksOnce 141 = .ok (.iastore, 1) := by decide +kernel
theorem dX6_ticksOnce_142 : decode cX6_ticksOnce 142 = .ok (.aload_n 0, 1) := by decide +kernel
theorem dX6_ticksOnce_143 : decode cX6_ticksOnce 143 = .ok (.bipush 6, 2) := by decide +kernel
theorem dX6_ticksOnce_145 : decode cX6_ticksOnce 145 = .ok (.sipush (-20009), 3) := by decide +kernel
theorem dX6_ticksOnce_148 : decode cX6_ticksOnce 148 = .ok (.invokevirtual 48, 3) := by decide +kernel
theorem dX6_ticksOnce_151 : decode cX6_ticksOnce 151 = .ok (.goto 43, 3) := by decide +kernel
theorem dX6_ticksOnce_154 : decode cX6_ticksOnce 154 = .ok (.aload_n 0, 1) := by decide +kernel
theorem dX6_ticksOnce_155 : decode cX6_ticksOnce 155 = .ok (.getfield 7, 3) := by decide +kernel
theorem dX6_ticksOnce_158 : decode cX6_ticksOnce 158 = .ok (.iconst 3, 1) := by decide +kernel
theorem dX6_ticksOnce_159 : decode cX6_ticksOnce 159 = .ok (.iaload, 1) := by decide +kernel
theorem dX6_ticksOnce_160 : decode cX6_ticksOnce 160 = .ok (.iconst 1, 1) := by decide +kernel
theorem dX6_ticksOnce_161 : decode cX6_ticksOnce 161 = .ok (.if_icmp .ne 33, 3) := by decide +kernel
theorem dX6_ticksOnce_164 : decode cX6_ticksOnce 164 = .ok (.aload_n 0, 1) := by decide +kernel
theorem dX6_ticksOnce_165 : decode cX6_ticksOnce 165 = .ok (.invokevirtual 103, 3) := by decide +kernel
theorem dX6_ticksOnce_168 : decode cX6_ticksOnce 168 = .ok (.aload_n 0, 1) := by decide +kernel
theorem dX6_ticksOnce_169 : decode cX6_ticksOnce 169 = .ok (.getfield 7, 3) := by decide +kernel
theorem dX6_ticksOnce_172 : decode cX6_ticksOnce 172 = .ok (.bipush 7, 2) := by decide +kernel
theorem dX6_ticksOnce_174 : decode cX6_ticksOnce 174 = .ok (.iaload, 1) := by decide +kernel
theorem dX6_ticksOnce_175 : decode cX6_ticksOnce 175 = .ok (.if_icmp .gt 19, 3) := by decide +kernel
theorem dX6_ticksOnce_178 : decode cX6_ticksOnce 178 = .ok (.aload_n 0, 1) := by decide +kernel
theorem dX6_ticksOnce_179 : decode cX6_ticksOnce 179 = .ok (.getfield 7, 3) := by decide +kernel
theorem dX6_ticksOnce_182 : decode cX6_ticksOnce 182 = .ok (.iconst 3, 1) := by decide +kernel
theorem dX6_ticksOnce_183 : decode cX6_ticksOnce 183 = .ok (.iconst 0, 1) := by decide +kernel
theorem dX6_ticksOnce_184 : decode cX6_ticksOnce 184 = .ok (.iastore, 1) := by decide +kernel
theorem dX6_ticksOnce_185 : decode cX6_ticksOnce 185 = .ok (.aload_n 0, 1) := by decide +kernel
theorem dX6_ticksOnce_186 : decode cX6_ticksOnce 186 = .ok (.bipush 7, 2) := by decide +kernel
theorem dX6_ticksOnce_188 : decode cX6_ticksOnce 188 = .ok (.sipush (-20009), 3) := by decide +kernel
theorem dX6_ticksOnce_191 : decode cX6_ticksOnce 191 = .ok (.invokevirtual 48, 3) := by decide +kernel
theorem dX6_ticksOnce_194 : decode cX6_ticksOnce 194 = .ok (.iconst 0, 1) := by decide +kernel
theorem dX6_ticksOnce_195 : decode cX6_ticksOnce 195 = .ok (.istore_n 1, 1) := by decide +kernel
theorem dX6_ticksOnce_196 : decode cX6_ticksOnce 196 = .ok (.iload_n 1, 1) := by decide +kernel
theorem dX6_ticksOnce_197 : decode cX6_ticksOnce 197 = .ok (.aload_n 0, 1) := by decide +kernel
theorem dX6_ticksOnce_198 : decode cX6_ticksOnce 198 = .ok (.getfield 7, 3) := by decide +kernel
theorem dX6_ticksOnce_201 : decode cX6_ticksOnce 201 = .ok (.iconst 0, 1) := by decide +kernel
theorem dX6_ticksOnce_202 : decode cX6_ticksOnce 202 = .ok (.iaload, 1) := by decide +kernel
theorem dX6_ticksOnce_203 : decode cX6_ticksOnce 203 = .ok (.if_icmp .ge 50, 3) := by decide +kernel
theorem dX6_ticksOnce_206 : decode cX6_ticksOnce 206 = .ok (.aload_n 0, 1) := by decide +kernel
theorem dX6_ticksOnce_207 : decode cX6_ticksOnce 207 = .ok (.iload_n 1, 1) := by decide +kernel
theorem dX6_ticksOnce_208 : decode cX6_ticksOnce 208 = .ok (.bipush 16, 2) := by decide +kernel
theorem dX6_ticksOnce_210 : decode cX6_ticksOnce 210 = .ok (.aload_n 0, 1) := by decide +kernel
theorem dX6_ticksOnce_211 : decode cX6_ticksOnce 211 = .ok (.iload_n 1, 1) := by decide +kernel
theorem dX6_ticksOnce_212 : decode cX6_ticksOnce 212 = .ok (.bipush 15, 2) := by decide +kernel
theorem dX6_ticksOnce_214 : decode cX6_ticksOnce 214 = .ok (.invokevirtual 59, 3) := by decide +kernel
theorem dX6_ticksOnce_217 : decode cX6_ticksOnce 217 = .ok (.bipush 40, 2) := by decide +kernel
theorem dX6_ticksOnce_219 : decode cX6_ticksOnce 219 = .ok (.irem, 1) := by decide +kernel
theorem dX6_ticksOnce_220 : decode cX6_ticksOnce 220 = .ok (.iadd, 1) := by decide +kernel
theorem dX6_ticksOnce_221 : decode cX6_ticksOnce 221 = .ok (.aload_n 0, 1) := by decide +kernel
theorem dX6_ticksOnce_222 : decode cX6_ticksOnce 222 = .ok (.iload_n 1, 1) := by decide +kernel
theorem dX6_ticksOnce_223 : decode cX6_ticksOnce 223 = .ok (.bipush 7, 2) := by decide +kernel
theorem dX6_ticksOnce_225 : decode cX6_ticksOnce 225 = .ok (.invokevirtual 59, 3) := by decide +kernel
theorem dX6_ticksOnce_228 : decode cX6_ticksOnce 228 = .ok (.invokevirtual 44, 3) := by decide +kernel
theorem dX6_ticksOnce_231 : decode cX6_ticksOnce 231 = .ok (.aload_n 0, 1) := by decide +kernel
theorem dX6_ticksOnce_232 : decode cX6_ticksOnce 232 = .ok (.iload_n 1, 1) := by decide +kernel
theorem dX6_ticksOnce_233 : decode cX6_ticksOnce 233 = .ok (.bipush 15, 2) := by decide +kernel
theorem dX6_ticksOnce_235 : decode cX6_ticksOnce 235 = .ok (.aload_n 0, 1) := by decide +kernel
theorem dX6_ticksOnce_236 : decode cX6_ticksOnce 236 = .ok (.iload_n 1, 1) := by decide +kernel
theorem dX6_ticksOnce_237 : decode cX6_ticksOnce 237 = .ok (.bipush 15, 2) := by decide +kernel
theorem dX6_ticksOnce_239 : decode cX6_ticksOnce 239 = .ok (.invokevirtual 59, 3) := by decide +kernel
theorem dX6_ticksOnce_242 : decode cX6_ticksOnce 242 = .ok (.iconst 1, 1) := by decide +kernel
theorem dX6_ticksOnce_243 : decode cX6_ticksOnce 243 = .ok (.iadd, 1) := by decide +kernel
theorem dX6_ticksOnce_244 : decode cX6_ticksOnce 244 = .ok (.invokevirtual 44, 3) := by decide +kernel
theorem dX6_ticksOnce_247 : decode cX6_ticksOnce 247 = .ok (.iinc 1 1, 3) := by decide +kernel
theorem dX6_ticksOnce_250 : decode cX6_ticksOnce 250 = .ok (.goto (-54), 3) := by decide +kernel
theorem dX6_ticksOnce_253 : decode cX6_ticksOnce 253 = .ok (.return_, 1) := by decide +kernel
theorem dX6_ticks_0 : decode cX6_ticks 0 = .ok (.iload_n 1, 1) := by decide +kernel
theorem dX6_ticks_1 : decode cX6_ticks 1 = .ok (.iconst 1, 1) := by decide +kernel
theorem dX6_ticks_2 : decode cX6_ticks 2 = .ok (.bipush 100, 2) := by decide +kernel
theorem dX6_ticks_4 : decode cX6_ticks 4 = .ok (.invokestatic 32, 3) := by decide +kernel
theorem dX6_ticks_7 : decode cX6_ticks 7 = .ok (.ifCond .ne 7, 3) := by decide +kernel
theorem dX6_ticks_10 : decode cX6_ticks 10 = .ok (.sipush (-20001), 3) := by decide +kernel
theorem dX6_ticks_13 : decode cX6_ticks 13 = .ok (.ireturn, 1) := by decide +kernel
theorem dX6_ticks_14 : decode cX6_ticks 14 = .ok (.aload_n 0, 1) := by decide +kernel
theorem dX6_ticks_15 : decode cX6_ticks 15 = .ok (.getfield 7, 3) := by decide +kernel
theorem dX6_ticks_18 : decode cX6_ticks 18 = .ok (.iconst 1, 1) := by decide +kernel
theorem dX6_ticks_19 : decode cX6_ticks 19 = .ok (.iaload, 1) := by decide +kernel
theorem dX6_ticks_20 : decode cX6_ticks 20 = .ok (.iload_n 1, 1) := by decide +kernel
theorem dX6_ticks_21 : decode cX6_ticks 21 = .ok (.iadd, 1) := by decide +kernel
theorem dX6_ticks_22 : decode cX6_ticks 22 = .ok (.sipush 10000, 3) := by decide +kernel
theorem dX6_ticks_25 : decode cX6_ticks 25 = .ok (.if_icmp .le 7, 3) := by decide +kernel
theorem dX6_ticks_28 : decode cX6_ticks 28 = .ok (.sipush (-20002), 3) := by decide +kernel
theorem dX6_ticks_31 : decode cX6_ticks 31 = .ok (.ireturn, 1) := by decide +kernel
theorem dX6_ticks_32 : decode cX6_ticks 32 = .ok (.iconst 0, 1) := by decide +kernel
theorem dX6_ticks_33 : decode cX6_ticks 33 = .ok (.istore_n 2, 1) := by decide +kernel
theorem dX6_ticks_34 : decode cX6_ticks 34 = .ok (.iload_n 2, 1) := by decide +kernel
theorem dX6_ticks_35 : decode cX6_ticks 35 = .ok (.iload_n 1, 1) := by decide +kernel
theorem dX6_ticks_36 : decode cX6_ticks 36 = .ok (.if_icmp .ge 13, 3) := by decide +kernel
theorem dX6_ticks_39 : decode cX6_ticks 39 = .ok (.aload_n 0, 1) := by decide +kernel
theorem dX6_ticks_40 : decode cX6_ticks 40 = .ok (.invokevirtual 107, 3) := by decide +kernel
theorem dX6_ticks_43 : decode cX6_ticks 43 = .ok (.iinc 2 1, 3) := by decide +kernel
theorem dX6_ticks_46 : decode cX6_ticks 46 = .ok (.goto (-12), 3) := by decide +kernel
theorem dX6_ticks_49 : decode cX6_ticks 49 = .ok (.aload_n 0, 1) := by decide +kernel
theorem dX6_ticks_50 : decode cX6_ticks 50 = .ok (.getfield 7, 3) := by decide +kernel
theorem dX6_ticks_53 : decode cX6_ticks 53 = .ok (.iconst 1, 1) := by decide +kernel
theorem dX6_ticks_54 : decode cX6_ticks 54 = .ok (.iaload, 1) := by decide +kernel
theorem dX6_ticks_55 : decode cX6_ticks 55 = .ok (.ireturn, 1) := by decide +kernel
theorem dX6_tick_0 : decode cX6_tick 0 = .ok (.aload_n 0, 1) := by decide +kernel
theorem dX6_tick_1 : decode cX6_tick 1 = .ok (.getfield 7, 3) := by decide +kernel
theorem dX6_tick_4 : decode cX6_tick 4 = .ok (.aload_n 0, 1) := by decide +kernel
theorem dX6_tick_5 : decode cX6_tick 5 = .ok (.getfield 13, 3) := by decide +kernel
theorem dX6_tick_8 : decode cX6_tick 8 = .ok (.invokestatic 67, 3) := by decide +kernel
theorem dX6_tick_11 : decode cX6_tick 11 = .ok (.aload_n 0, 1) := by decide +kernel
theorem dX6_tick_12 : decode cX6_tick 12 = .ok (.aload_n 0, 1) := by decide +kernel
theorem dX6_tick_13 : decode cX6_tick 13 = .ok (.iload_n 1, 1) := by decide +kernel
theorem dX6_tick_14 : decode cX6_tick 14 = .ok (.invokevirtual 110, 3) := by decide +kernel
theorem dX6_tick_17 : decode cX6_tick 17 = .ok (.invokevirtual 74, 3) := by decide +kernel
theorem dX6_tick_20 : decode cX6_tick 20 = .ok (.ireturn, 1) := by decide +kernel
theorem dX6_plant_0 : decode cX6_plant 0 = .ok (.iload_n 1, 1) := by decide +kernel
theorem dX6_plant_1 : decode cX6_plant 1 = .ok (.iconst 0, 1) := by decide +kernel
theorem dX6_plant_2 : decode cX6_plant 2 = .ok (.iconst 4, 1) := by decide +kernel
theorem dX6_plant_3 : decode cX6_plant 3 = .ok (.invokestatic 32, 3) := by decide +kernel
theorem dX6_plant_6 : decode cX6_plant 6 = .ok (.ifCond .ne 7, 3) := by decide +kernel
theorem dX6_plant_9 : decode cX6_plant 9 = .ok (.sipush (-20001), 3) := by decide +kernel
theorem dX6_plant_12 : decode cX6_plant 12 = .ok (.ireturn, 1) := by decide +kernel
theorem dX6_plant_13 : decode cX6_plant 13 = .ok (.iload_n 1, 1) := by decide +kernel
theorem dX6_plant_14 : decode cX6_plant 14 = .ok (.ifCond .ne 12, 3) := by decide +kernel
theorem dX6_plant_17 : decode cX6_plant 17 = .ok (.aload_n 0, 1) := by decide +kernel
theorem dX6_plant_18 : decode cX6_plant 18 = .ok (.getfield 7, 3) := by decide +kernel
theorem dX6_plant_21 : decode cX6_plant 21 = .ok (.iconst 1, 1) := by decide +kernel
theorem dX6_plant_22 : decode cX6_plant 22 = .ok (.iaload, 1) := by decide +kernel
theorem dX6_plant_23 : decode cX6_plant 23 = .ok (.goto 50, 3) := by decide +kernel
theorem dX6_plant_26 : decode cX6_plant 26 = .ok (.iload_n 1, 1) := by decide +kernel
theorem dX6_plant_27 : decode cX6_plant 27 = .ok (.iconst 1, 1) := by decide +kernel
theorem dX6_plant_28 : decode cX6_plant 28 = .ok (.if_icmp .ne 12, 3) := by decide +kernel
theorem dX6_plant_31 : decode cX6_plant 31 = .ok (.aload_n 0, 1) := by decide +kernel
theorem dX6_plant_32 : decode cX6_plant 32 = .ok (.getfield 7, 3) := by decide +kernel
theorem dX6_plant_35 : decode cX6_plant 35 = .ok (.iconst 2, 1) := by decide +kernel
theorem dX6_plant_36 : decode cX6_plant 36 = .ok (.iaload, 1) := by decide +kernel
theorem dX6_plant_37 : decode cX6_plant 37 = .ok (.goto 36, 3) := by decide +kernel
theorem dX6_plant_40 : decode cX6_plant 40 = .ok (.iload_n 1, 1) := by decide +kernel
theorem dX6_plant_41 : decode cX6_plant 41 = .ok (.iconst 2, 1) := by decide +kernel
theorem dX6_plant_42 : decode cX6_plant 42 = .ok (.if_icmp .ne 12, 3) := by decide +kernel
theorem dX6_plant_45 : decode cX6_plant 45 = .ok (.aload_n 0, 1) := by decide +kernel
theorem dX6_plant_46 : decode cX6_plant 46 = .ok (.getfield 7, 3) := by decide +kernel
theorem dX6_plant_49 : decode cX6_plant 49 = .ok (.iconst 3, 1) := by decide +kernel
theorem dX6_plant_50 : decode cX6_plant 50 = .ok (.iaload, 1) := by decide +kernel
theorem dX6_plant_51 : decode cX6_plant 51 = .ok (.goto 22, 3) := by decide +kernel
theorem dX6_plant_54 : decode cX6_plant 54 = .ok (.iload_n 1, 1) := by decide +kernel
theorem dX6_plant_55 : decode cX6_plant 55 = .ok (.iconst 3, 1) := by decide +kernel
theorem dX6_plant_56 : decode cX6_plant 56 = .ok (.if_icmp .ne 10, 3) := by decide +kernel
theorem dX6_plant_59 : decode cX6_plant 59 = .ok (.aload_n 0, 1) := by decide +kernel
theorem dX6_plant_60 : decode cX6_plant 60 = .ok (.invokevirtual 103, 3) := by decide +kernel
theorem dX6_plant_63 : decode cX6_plant 63 = .ok (.goto 10, 3) := by decide +kernel
theorem dX6_plant_66 : decode cX6_plant 66 = .ok (.aload_n 0, 1) := by decide +kernel
theorem dX6_plant_67 : decode cX6_plant 67 = .ok (.getfield 7, 3) := by decide +kernel
theorem dX6_plant_70 : decode cX6_plant 70 = .ok (.bipush 8, 2) := by decide +kernel
theorem dX6_plant_72 : decode cX6_plant 72 = .ok (.iaload, 1) := by decide +kernel
theorem dX6_plant_73 : decode cX6_plant 73 = .ok (.ireturn, 1) := by decide +kernel
theorem dX6_acks_0 : decode cX6_acks 0 = .ok (.aload_n 0, 1) := by decide +kernel
theorem dX6_acks_1 : decode cX6_acks 1 = .ok (.iload_n 1, 1) := by decide +kernel
theorem dX6_acks_2 : decode cX6_acks 2 = .ok (.invokevirtual 52, 3) := by decide +kernel
theorem dX6_acks_5 : decode cX6_acks 5 = .ok (.ifCond .ne 7, 3) := by decide +kernel
theorem dX6_acks_8 : decode cX6_acks 8 = .ok (.sipush (-20001), 3) := by decide +kernel
theorem dX6_acks_11 : decode cX6_acks 11 = .ok (.ireturn, 1) := by decide +kernel
theorem dX6_acks_12 : decode cX6_acks 12 = .ok (.aload_n 0, 1) := by decide +kernel
theorem dX6_acks_13 : decode cX6_acks 13 = .ok (.iload_n 1, 1) := by decide +kernel
theorem dX6_acks_14 : decode cX6_acks 14 = .ok (.bipush 10, 2) := by decide +kernel
theorem dX6_acks_16 : decode cX6_acks 16 = .ok (.invokevirtual 59, 3) := by decide +kernel
theorem dX6_acks_19 : decode cX6_acks 19 = .ok (.iconst 1, 1) := by decide +kernel
theorem dX6_acks_20 : decode cX6_acks 20 = .ok (.if_icmp .ne 7, 3) := by decide +kernel
theorem dX6_acks_23 : decode cX6_acks 23 = .ok (.sipush (-20002), 3) := by decide +kernel
theorem dX6_acks_26 : decode cX6_acks 26 = .ok (.ireturn, 1) := by decide +kernel
theorem dX6_acks_27 : decode cX6_acks 27 = .ok (.aload_n 0, 1) := by decide +kernel
theorem dX6_acks_28 : decode cX6_acks 28 = .ok (.iload_n 1, 1) := by decide +kernel
theorem dX6_acks_29 : decode cX6_acks 29 = .ok (.bipush 10, 2) := by decide +kernel
theorem dX6_acks_31 : decode cX6_acks 31 = .ok (.iconst 1, 1) := by decide +kernel
theorem dX6_acks_32 : decode cX6_acks 32 = .ok (.invokevirtual 44, 3) := by decide +kernel
theorem dX6_acks_35 : decode cX6_acks 35 = .ok (.aload_n 0, 1) := by decide +kernel
theorem dX6_acks_36 : decode cX6_acks 36 = .ok (.getfield 7, 3) := by decide +kernel
theorem dX6_acks_39 : decode cX6_acks 39 = .ok (.iconst 1, 1) := by decide +kernel
theorem dX6_acks_40 : decode cX6_acks 40 = .ok (.iaload, 1) := by decide +kernel
theorem dX6_acks_41 : decode cX6_acks 41 = .ok (.aload_n 0, 1) := by decide +kernel
theorem dX6_acks_42 : decode cX6_acks 42 = .ok (.iload_n 1, 1) := by decide +kernel
theorem dX6_acks_43 : decode cX6_acks 43 = .ok (.bipush 12, 2) := by decide +kernel
theorem dX6_acks_45 : decode cX6_acks 45 = .ok (.invokevirtual 59, 3) := by decide +kernel
theorem dX6_acks_48 : decode cX6_acks 48 = .ok (.isub, 1) := by decide +kernel
theorem dX6_acks_49 : decode cX6_acks 49 = .ok (.istore_n 2, 1) := by decide +kernel
theorem dX6_acks_50 : decode cX6_acks 50 = .ok (.aload_n 0, 1) := by decide +kernel
theorem dX6_acks_51 : decode cX6_acks 51 = .ok (.getfield 7, 3) := by decide +kernel
theorem dX6_acks_54 : decode cX6_acks 54 = .ok (.bipush 10, 2) := by decide +kernel
theorem dX6_acks_56 : decode cX6_acks 56 = .ok (.dup2, 1) := by decide +kernel
theorem dX6_acks_57 : decode cX6_acks 57 = .ok (.iaload, 1) := by decide +kernel
theorem dX6_acks_58 : decode cX6_acks 58 = .ok (.iload_n 2, 1) := by decide +kernel
theorem dX6_acks_59 : decode cX6_acks 59 = .ok (.iadd, 1) := by decide +kernel
theorem dX6_acks_60 : decode cX6_acks 60 = .ok (.iastore, 1) := by decide +kernel
theorem dX6_acks_61 : decode cX6_acks 61 = .ok (.aload_n 0, 1) := by decide +kernel
theorem dX6_acks_62 : decode cX6_acks 62 = .ok (.getfield 7, 3) := by decide +kernel
theorem dX6_acks_65 : decode cX6_acks 65 = .ok (.bipush 11, 2) := by decide +kernel
theorem dX6_acks_67 : decode cX6_acks 67 = .ok (.dup2, 1) := by decide +kernel
theorem dX6_acks_68 : decode cX6_acks 68 = .ok (.iaload, 1) := by decide +kernel
theorem dX6_acks_69 : decode cX6_acks 69 = .ok (.iconst 1, 1) := by decide +kernel
theorem dX6_acks_70 : decode cX6_acks 70 = .ok (.iadd, 1) := by decide +kernel
theorem dX6_acks_71 : decode cX6_acks 71 = .ok (.iastore, 1) := by decide +kernel
theorem dX6_acks_72 : decode cX6_acks 72 = .ok (.aload_n 0, 1) := by decide +kernel
theorem dX6_acks_73 : decode cX6_acks 73 = .ok (.iconst 3, 1) := by decide +kernel
theorem dX6_acks_74 : decode cX6_acks 74 = .ok (.iload_n 1, 1) := by decide +kernel
theorem dX6_acks_75 : decode cX6_acks 75 = .ok (.invokevirtual 48, 3) := by decide +kernel
theorem dX6_acks_78 : decode cX6_acks 78 = .ok (.iload_n 2, 1) := by decide +kernel
theorem dX6_acks_79 : decode cX6_acks 79 = .ok (.ireturn, 1) := by decide +kernel
theorem dX6_ack_0 : decode cX6_ack 0 = .ok (.aload_n 0, 1) := by decide +kernel
theorem dX6_ack_1 : decode cX6_ack 1 = .ok (.getfield 7, 3) := by decide +kernel
theorem dX6_ack_4 : decode cX6_ack 4 = .ok (.aload_n 0, 1) := by decide +kernel
theorem dX6_ack_5 : decode cX6_ack 5 = .ok (.getfield 13, 3) := by decide +kernel
theorem dX6_ack_8 : decode cX6_ack 8 = .ok (.invokestatic 67, 3) := by decide +kernel
theorem dX6_ack_11 : decode cX6_ack 11 = .ok (.aload_n 0, 1) := by decide +kernel
theorem dX6_ack_12 : decode cX6_ack 12 = .ok (.aload_n 0, 1) := by decide +kernel
theorem dX6_ack_13 : decode cX6_ack 13 = .ok (.iload_n 1, 1) := by decide +kernel
theorem dX6_ack_14 : decode cX6_ack 14 = .ok (.invokevirtual 113, 3) := by decide +kernel
theorem dX6_ack_17 : decode cX6_ack 17 = .ok (.invokevirtual 74, 3) := by decide +kernel
theorem dX6_ack_20 : decode cX6_ack 20 = .ok (.ireturn, 1) := by decide +kernel
theorem dX6_isAhead_0 : decode cX6_isAhead 0 = .ok (.aload_n 0, 1) := by decide +kernel
theorem dX6_isAhead_1 : decode cX6_isAhead 1 = .ok (.iload_n 1, 1) := by decide +kernel
theorem dX6_isAhead_2 : decode cX6_isAhead 2 = .ok (.iconst 5, 1) := by decide +kernel
theorem dX6_isAhead_3 : decode cX6_isAhead 3 = .ok (.invokevirtual 59, 3) := by decide +kernel
theorem dX6_isAhead_6 : decode cX6_isAhead 6 = .ok (.aload_n 0, 1) := by decide +kernel
theorem dX6_isAhead_7 : decode cX6_isAhead 7 = .ok (.iload_n 2, 1) := by decide +kernel
theorem dX6_isAhead_8 : decode cX6_isAhead 8 = .ok (.iconst 5, 1) := by decide +kernel
theorem dX6_isAhead_9 : decode cX6_isAhead 9 = .ok (.invokevirtual 59, 3) := by decide +kernel
theorem dX6_isAhead_12 : decode cX6_isAhead 12 = .ok (.isub, 1) := by decide +kernel
theorem dX6_isAhead_13 : decode cX6_isAhead 13 = .ok (.istore_n 3, 1) := by decide +kernel
theorem dX6_isAhead_14 : decode cX6_isAhead 14 = .ok (.iload_n 3, 1) := by decide +kernel
theorem dX6_isAhead_15 : decode cX6_isAhead 15 = .ok (.ifCond .ne 21, 3) := by decide +kernel
theorem dX6_isAhead_18 : decode cX6_isAhead 18 = .ok (.aload_n 0, 1) := by decide +kernel
theorem dX6_isAhead_19 : decode cX6_isAhead 19 = .ok (.iload_n 1, 1) := by decide +kernel
theorem dX6_isAhead_20 : decode cX6_isAhead 20 = .ok (.bipush 10, 2) := by decide +kernel
theorem dX6_isAhead_22 : decode cX6_isAhead 22 = .ok (.invokevirtual 59, 3) := by decide +kernel
theorem dX6_isAhead_25 : decode cX6_isAhead 25 = .ok (.aload_n 0, 1) := by decide +kernel
theorem dX6_isAhead_26 : decode cX6_isAhead 26 = .ok (.iload_n 2, 1) := by decide +kernel
theorem dX6_isAhead_27 : decode cX6_isAhead 27 = .ok (.bipush 10, 2) := by decide +kernel
theorem dX6_isAhead_29 : decode cX6_isAhead 29 = .ok (.invokevirtual 59, 3) := by decide +kernel
theorem dX6_isAhead_32 : decode cX6_isAhead 32 = .ok (.isub, 1) := by decide +kernel
theorem dX6_isAhead_33 : decode cX6_isAhead 33 = .ok (.goto 4, 3) := by decide +kernel
theorem dX6_isAhead_36 : decode cX6_isAhead 36 = .ok (.iload_n 3, 1) := by decide +kernel
theorem dX6_isAhead_37 : decode cX6_isAhead 37 = .ok (.istore_n 3, 1) := by decide +kernel
theorem dX6_isAhead_38 : decode cX6_isAhead 38 = .ok (.iload_n 3, 1) := by decide +kernel
theorem dX6_isAhead_39 : decode cX6_isAhead 39 = .ok (.ifCond .ne 21, 3) := by decide +kernel
theorem dX6_isAhead_42 : decode cX6_isAhead 42 = .ok (.aload_n 0, 1) := by decide +kernel
theorem dX6_isAhead_43 : decode cX6_isAhead 43 = .ok (.iload_n 1, 1) := by decide +kernel
theorem dX6_isAhead_44 : decode cX6_isAhead 44 = .ok (.bipush 12, 2) := by decide +kernel
theorem dX6_isAhead_46 : decode cX6_isAhead 46 = .ok (.invokevirtual 59, 3) := by decide +kernel
theorem dX6_isAhead_49 : decode cX6_isAhead 49 = .ok (.aload_n 0, 1) := by decide +kernel
theorem dX6_isAhead_50 : decode cX6_isAhead 50 = .ok (.iload_n 2, 1) := by decide +kernel
theorem dX6_isAhead_51 : decode cX6_isAhead 51 = .ok (.bipush 12, 2) := by decide +kernel
theorem dX6_isAhead_53 : decode cX6_isAhead 53 = .ok (.invokevirtual 59, 3) := by decide +kernel
theorem dX6_isAhead_56 : decode cX6_isAhead 56 = .ok (.isub, 1) := by decide +kernel
theorem dX6_isAhead_57 : decode cX6_isAhead 57 = .ok (.goto 4, 3) := by decide +kernel
theorem dX6_isAhead_60 : decode cX6_isAhead 60 = .ok (.iload_n 3, 1) := by decide +kernel
theorem dX6_isAhead_61 : decode cX6_isAhead 61 = .ok (.istore_n 3, 1) := by decide +kernel
theorem dX6_isAhead_62 : decode cX6_isAhead 62 = .ok (.iload_n 3, 1) := by decide +kernel
theorem dX6_isAhead_63 : decode cX6_isAhead 63 = .ok (.ifCond .ne 16, 3) := by decide +kernel
theorem dX6_isAhead_66 : decode cX6_isAhead 66 = .ok (.iload_n 1, 1) := by decide +kernel
theorem dX6_isAhead_67 : decode cX6_isAhead 67 = .ok (.iload_n 2, 1) := by decide +kernel
theorem dX6_isAhead_68 : decode cX6_isAhead 68 = .ok (.if_icmp .ge 7, 3) := by decide +kernel
theorem dX6_isAhead_71 : decode cX6_isAhead 71 = .ok (.iconst 1, 1) := by decide +kernel
theorem dX6_isAhead_72 : decode cX6_isAhead 72 = .ok (.goto 16, 3) := by decide +kernel
theorem dX6_isAhead_75 : decode cX6_isAhead 75 = .ok (.iconst 0, 1) := by decide +kernel
theorem dX6_isAhead_76 : decode cX6_isAhead 76 = .ok (.goto 12, 3) := by decide +kernel
theorem dX6_isAhead_79 : decode cX6_isAhead 79 = .ok (.iload_n 3, 1) := by decide +kernel
theorem dX6_isAhead_80 : decode cX6_isAhead 80 = .ok (.ifCond .ge 7, 3) := by decide +kernel
theorem dX6_isAhead_83 : decode cX6_isAhead 83 = .ok (.iconst 1, 1) := by decide +kernel
theorem dX6_isAhead_84 : decode cX6_isAhead 84 = .ok (.goto 4, 3) := by decide +kernel
theorem dX6_isAhead_87 : decode cX6_isAhead 87 = .ok (.iconst 0, 1) := by decide +kernel
theorem dX6_isAhead_88 : decode cX6_isAhead 88 = .ok (.ireturn, 1) := by decide +kernel
theorem dX6_lists_0 : decode cX6_lists 0 = .ok (.aload_n 0, 1) := by decide +kernel
theorem dX6_lists_1 : decode cX6_lists 1 = .ok (.iconst 0, 1) := by decide +kernel
theorem dX6_lists_2 : decode cX6_lists 2 = .ok (.putfield 116, 3) := by decide +kernel
theorem dX6_lists_5 : decode cX6_lists 5 = .ok (.iconst 0, 1) := by decide +kernel
theorem dX6_lists_6 : decode cX6_lists 6 = .ok (.istore_n 1, 1) := by decide +kernel
theorem dX6_lists_7 : decode cX6_lists 7 = .ok (.iload_n 1, 1) := by decide +kernel
theorem dX6_lists_8 : decode cX6_lists 8 = .ok (.aload_n 0, 1) := by decide +kernel
theorem dX6_lists_9 : decode cX6_lists 9 = .ok (.getfield 7, 3) := by decide +kernel
theorem dX6_lists_12 : decode cX6_lists 12 = .ok (.iconst 0, 1) := by decide +kernel
theorem dX6_lists_13 : decode cX6_lists 13 = .ok (.iaload, 1) := by decide +kernel
theorem dX6_lists_14 : decode cX6_lists 14 = .ok (.if_icmp .ge 79, 3) := by decide +kernel
theorem dX6_lists_17 : decode cX6_lists 17 = .ok (.aload_n 0, 1) := by decide +kernel
theorem dX6_lists_18 : decode cX6_lists 18 = .ok (.iload_n 1, 1) := by decide +kernel
theorem dX6_lists_19 : decode cX6_lists 19 = .ok (.invokevirtual 84, 3) := by decide +kernel
theorem dX6_lists_22 : decode cX6_lists 22 = .ok (.ifCond .ne 65, 3) := by decide +kernel
theorem dX6_lists_25 : decode cX6_lists 25 = .ok (.aload_n 0, 1) := by decide +kernel
theorem dX6_lists_26 : decode cX6_lists 26 = .ok (.getfield 116, 3) := by decide +kernel
theorem dX6_lists_29 : decode cX6_lists 29 = .ok (.istore_n 2, 1) := by decide +kernel
theorem dX6_lists_30 : decode cX6_lists 30 = .ok (.iload_n 2, 1) := by decide +kernel
theorem dX6_lists_31 : decode cX6_lists 31 = .ok (.ifCond .le 39, 3) := by decide +kernel
theorem dX6_lists_34 : decode cX6_lists 34 = .ok (.aload_n 0, 1) := by decide +kernel
theorem dX6_lists_35 : decode cX6_lists 35 = .ok (.iload_n 1, 1) := by decide +kernel
theorem dX6_lists_36 : decode cX6_lists 36 = .ok (.aload_n 0, 1) := by decide +kernel
theorem dX6_lists_37 : decode cX6_lists 37 = .ok (.getfield 19, 3) := by decide +kernel
theorem dX6_lists_40 : decode cX6_lists 40 = .ok (.iload_n 2, 1) := by decide +kernel
theorem dX6_lists_41 : decode cX6_lists 41 = .ok (.iconst 1, 1) := by decide +kernel
theorem dX6_lists_42 : decode cX6_lists 42 = .ok (.isub, 1) := by decide +kernel
theorem dX6_lists_43 : decode cX6_lists 43 = .ok (.iaload, 1) := by decide +kernel
theorem dX6_lists_44 : decode cX6_lists 44 = .ok (.invokevirtual 119, 3) := by decide +kernel
theorem dX6_lists_47 : decode cX6_lists 47 = .ok (.ifCond .eq 23, 3) := by decide +kernel
theorem dX6_lists_50 : decode cX6_lists 50 = .ok (.aload_n 0, 1) := by decide +kernel
theorem dX6_lists_51 : decode cX6_lists 51 = .ok (.getfield 19, 3) := by decide +kernel
theorem dX6_lists_54 : decode cX6_lists 54 = .ok (.iload_n 2, 1) := by decide +kernel
theorem dX6_lists_55 : decode cX6_lists 55 = .ok (.aload_n 0, 1) := by decide +kernel
theorem dX6_lists_56 : decode cX6_lists 56 = .ok (.getfield 19, 3) := by decide +kernel
theorem dX6_lists_59 : decode cX6_lists 59 = .ok (.iload_n 2, 1) := by decide +kernel
theorem dX6_lists_60 : decode cX6_lists 60 = .ok (.iconst 1, 1) := by decide +kernel
theorem dX6_lists_61 : decode cX6_lists 61 = .ok (.isub, 1) := by decide +kernel
theorem dX6_lists_62 : decode cX6_lists 62 = .ok (.iaload, 1) := by decide +kernel
theorem dX6_lists_63 : decode cX6_lists 63 = .ok (.iastore, 1) := by decide +kernel
theorem dX6_lists_64 : decode cX6_lists 64 = .ok (.iinc 2 (-1), 3) := by decide +kernel
theorem dX6_lists_67 : decode cX6_lists 67 = .ok (.goto (-37), 3) := by decide +kernel
theorem dX6_lists_70 : decode cX6_lists 70 = .ok (.aload_n 0, 1) := by decide +kernel
theorem dX6_lists_71 : decode cX6_lists 71 = .ok (.getfield 19, 3) := by decide +kernel
theorem dX6_lists_74 : decode cX6_lists 74 = .ok (.iload_n 2, 1) := by decide +kernel
theorem dX6_lists_75 : decode cX6_lists 75 = .ok (.iload_n 1, 1) := by decide +kernel
theorem dX6_lists_76 : decode cX6_lists 76 = .ok (.iastore, 1) := by decide +kernel
theorem dX6_lists_77 : decode cX6_lists 77 = .ok (.aload_n 0, 1) := by decide +kernel
theorem dX6_lists_78 : decode cX6_lists 78 = .ok (.dup, 1) := by decide +kernel
theorem dX6_lists_79 : decode cX6_lists 79 = .ok (.getfield 116, 3) := by decide +kernel
theorem dX6_lists_82 : decode cX6_lists 82 = .ok (.iconst 1, 1) := by decide +kernel
theorem dX6_lists_83 : decode cX6_lists 83 = .ok (.iadd, 1) := by decide +kernel
theorem dX6_lists_84 : decode cX6_lists 84 = .ok (.putfield 116, 3) := by decide +kernel
theorem dX6_lists_87 : decode cX6_lists 87 = .ok (.iinc 1 1, 3) := by decide +kernel
theorem dX6_lists_90 : decode cX6_lists 90 = .ok (.goto (-83), 3) := by decide +kernel
theorem dX6_lists_93 : decode cX6_lists 93 = .ok (.return_, 1) := by decide +kernel
theorem dX6_ackAll_0 : decode cX6_ackAll 0 = .ok (.aload_n 0, 1) := by decide +kernel
theorem dX6_ackAll_1 : decode cX6_ackAll 1 = .ok (.aload_n 0, 1) := by decide +kernel
theorem dX6_ackAll_2 : decode cX6_ackAll 2 = .ok (.getfield 7, 3) := by decide +kernel
theorem dX6_ackAll_5 : decode cX6_ackAll 5 = .ok (.invokevirtual 40, 3) := by decide +kernel
theorem dX6_ackAll_8 : decode cX6_ackAll 8 = .ok (.aload_n 0, 1) := by decide +kernel
theorem dX6_ackAll_9 : decode cX6_ackAll 9 = .ok (.invokevirtual 122, 3) := by decide +kernel
theorem dX6_ackAll_12 : decode cX6_ackAll 12 = .ok (.iconst 0, 1) := by decide +kernel
theorem dX6_ackAll_13 : decode cX6_ackAll 13 = .ok (.istore_n 1, 1) := by decide +kernel
theorem dX6_ackAll_14 : decode cX6_ackAll 14 = .ok (.iconst 0, 1) := by decide +kernel
theorem dX6_ackAll_15 : decode cX6_ackAll 15 = .ok (.istore_n 2, 1) := by decide +kernel
theorem dX6_ackAll_16 : decode cX6_ackAll 16 = .ok (.iload_n 2, 1) := by decide +kernel
theorem dX6_ackAll_17 : decode cX6_ackAll 17 = .ok (.aload_n 0, 1) := by decide +kernel
theorem dX6_ackAll_18 : decode cX6_ackAll 18 = .ok (.getfield 116, 3) := by decide +kernel
theorem dX6_ackAll_21 : decode cX6_ackAll 21 = .ok (.if_icmp .ge 38, 3) := by decide +kernel
theorem dX6_ackAll_24 : decode cX6_ackAll 24 = .ok (.aload_n 0, 1) := by decide +kernel
theorem dX6_ackAll_25 : decode cX6_ackAll 25 = .ok (.aload_n 0, 1) := by decide +kernel
theorem dX6_ackAll_26 : decode cX6_ackAll 26 = .ok (.getfield 19, 3) := by decide +kernel
theorem dX6_ackAll_29 : decode cX6_ackAll 29 = .ok (.iload_n 2, 1) := by decide +kernel
theorem dX6_ackAll_30 : decode cX6_ackAll 30 = .ok (.iaload, 1) := by decide +kernel
theorem dX6_ackAll_31 : decode cX6_ackAll 31 = .ok (.bipush 10, 2) := by decide +kernel
theorem dX6_ackAll_33 : decode cX6_ackAll 33 = .ok (.invokevirtual 59, 3) := by decide +kernel
theorem dX6_ackAll_36 : decode cX6_ackAll 36 = .ok (.ifCond .ne 17, 3) := by decide +kernel
theorem dX6_ackAll_39 : decode cX6_ackAll 39 = .ok (.aload_n 0, 1) := by decide +kernel
theorem dX6_ackAll_40 : decode cX6_ackAll 40 = .ok (.aload_n 0, 1) := by decide +kernel
theorem dX6_ackAll_41 : decode cX6_ackAll 41 = .ok (.getfield 19, 3) := by decide +kernel
theorem dX6_ackAll_44 : decode cX6_ackAll 44 = .ok (.iload_n 2, 1) := by decide +kernel
theorem dX6_ackAll_45 : decode cX6_ackAll 45 = .ok (.iaload, 1) := by decide +kernel
theorem dX6_ackAll_46 : decode cX6_ackAll 46 = .ok (.invokevirtual 113, 3) := by decide +kernel
theorem dX6_ackAll_49 : decode cX6_ackAll 49 = .ok (.istore_n 3, 1) := by decide +kernel
theorem dX6_ackAll_50 : decode cX6_ackAll 50 = .ok (.iinc 1 1, 3) := by decide +kernel
theorem dX6_ackAll_53 : decode cX6_ackAll 53 = .ok (.iinc 2 1, 3) := by decide +kernel
theorem dX6_ackAll_56 : decode cX6_ackAll 56 = .ok (.goto (-40), 3) := by decide +kernel
theorem dX6_ackAll_59 : decode cX6_ackAll 59 = .ok (.iload_n 1, 1) := by decide +kernel
theorem dX6_ackAll_60 : decode cX6_ackAll 60 = .ok (.ireturn, 1) := by decide +kernel
theorem dX6_shelves_0 : decode cX6_shelves 0 = .ok (.aload_n 0, 1) := by decide +kernel
theorem dX6_shelves_1 : decode cX6_shelves 1 = .ok (.iload_n 1, 1) := by decide +kernel
theorem dX6_shelves_2 : decode cX6_shelves 2 = .ok (.invokevirtual 52, 3) := by decide +kernel
theorem dX6_shelves_5 : decode cX6_shelves 5 = .ok (.ifCond .eq 14, 3) := by decide +kernel
theorem dX6_shelves_8 : decode cX6_shelves 8 = .ok (.iload_n 2, 1) := by decide +kernel
theorem dX6_shelves_9 : decode cX6_shelves 9 = .ok (.iconst 1, 1) := by decide +kernel
theorem dX6_shelves_10 : decode cX6_shelves 10 = .ok (.sipush 1000, 3) := by decide +kernel
theorem dX6_shelves_13 : decode cX6_shelves 13 = .ok (.invokestatic 32, 3) := by decide +kernel
theorem dX6_shelves_16 : decode cX6_shelves 16 = .ok (.ifCond .ne 7, 3) := by decide +kernel
theorem dX6_shelves_19 : decode cX6_shelves 19 = .ok (.sipush (-20001), 3) := by decide +kernel
theorem dX6_shelves_22 : decode cX6_shelves 22 = .ok (.ireturn, 1) := by decide +kernel
theorem dX6_shelves_23 : decode cX6_shelves 23 = .ok (.aload_n 0, 1) := by decide +kernel
theorem dX6_shelves_24 : decode cX6_shelves 24 = .ok (.iload_n 1, 1) := by decide +kernel
theorem dX6_shelves_25 : decode cX6_shelves 25 = .ok (.iconst 5, 1) := by decide +kernel
theorem dX6_shelves_26 : decode cX6_shelves 26 = .ok (.invokevirtual 59, 3) := by decide +kernel
theorem dX6_shelves_29 : decode cX6_shelves 29 = .ok (.iconst 1, 1) := by decide +kernel
theorem dX6_shelves_30 : decode cX6_shelves 30 = .ok (.if_icmp .ne 7, 3) := by decide +kernel
theorem dX6_shelves_33 : decode cX6_shelves 33 = .ok (.sipush (-20002), 3) := by decide +kernel
theorem dX6_shelves_36 : decode cX6_shelves 36 = .ok (.ireturn, 1) := by decide +kernel
theorem dX6_shelves_37 : decode cX6_shelves 37 = .ok (.aload_n 0, 1) := by decide +kernel
theorem dX6_shelves_38 : decode cX6_shelves 38 = .ok (.iload_n 1, 1) := by decide +kernel
theorem dX6_shelves_39 : decode cX6_shelves 39 = .ok (.bipush 13, 2) := by decide +kernel
theorem dX6_shelves_41 : decode cX6_shelves 41 = .ok (.aload_n 0, 1) := by decide +kernel
theorem dX6_shelves_42 : decode cX6_shelves 42 = .ok (.getfield 7, 3) := by decide +kernel
theorem dX6_shelves_45 : decode cX6_shelves 45 = .ok (.iconst 1, 1) := by decide +kernel
theorem dX6_shelves_46 : decode cX6_shelves 46 = .ok (.iaload, 1) := by decide +kernel
theorem dX6_shelves_47 : decode cX6_shelves 47 = .ok (.iload_n 2, 1) := by decide +kernel
theorem dX6_shelves_48 : decode cX6_shelves 48 = .ok (.iadd, 1) := by decide +kernel
theorem dX6_shelves_49 : decode cX6_shelves 49 = .ok (.invokevirtual 44, 3) := by decide +kernel
theorem dX6_shelves_52 : decode cX6_shelves 52 = .ok (.aload_n 0, 1) := by decide +kernel
theorem dX6_shelves_53 : decode cX6_shelves 53 = .ok (.iconst 4, 1) := by decide +kernel
theorem dX6_shelves_54 : decode cX6_shelves 54 = .ok (.iload_n 1, 1) := by decide +kernel
theorem dX6_shelves_55 : decode cX6_shelves 55 = .ok (.invokevirtual 48, 3) := by decide +kernel
theorem dX6_shelves_58 : decode cX6_shelves 58 = .ok (.aload_n 0, 1) := by decide +kernel
theorem dX6_shelves_59 : decode cX6_shelves 59 = .ok (.getfield 7, 3) := by decide +kernel
theorem dX6_shelves_62 : decode cX6_shelves 62 = .ok (.iconst 1, 1) := by decide +kernel
theorem dX6_shelves_63 : decode cX6_shelves 63 = .ok (.iaload, 1) := by decide +kernel
theorem dX6_shelves_64 : decode cX6_shelves 64 = .ok (.iload_n 2, 1) := by decide +kernel
theorem dX6_shelves_65 : decode cX6_shelves 65 = .ok (.iadd, 1) := by decide +kernel
theorem dX6_shelves_66 : decode cX6_shelves 66 = .ok (.ireturn, 1) := by decide +kernel
theorem dX6_shelve_0 : decode cX6_shelve 0 = .ok (.aload_n 0, 1) := by decide +kernel
theorem dX6_shelve_1 : decode cX6_shelve 1 = .ok (.getfield 7, 3) := by decide +kernel
theorem dX6_shelve_4 : decode cX6_shelve 4 = .ok (.aload_n 0, 1) := by decide +kernel
theorem dX6_shelve_5 : decode cX6_shelve 5 = .ok (.getfield 13, 3) := by decide +kernel
theorem dX6_shelve_8 : decode cX6_shelve 8 = .ok (.invokestatic 67, 3) := by decide +kernel
theorem dX6_shelve_11 : decode cX6_shelve 11 = .ok (.aload_n 0, 1) := by decide +kernel
theorem dX6_shelve_12 : decode cX6_shelve 12 = .ok (.aload_n 0, 1) := by decide +kernel
theorem dX6_shelve_13 : decode cX6_shelve 13 = .ok (.iload_n 1, 1) := by decide +kernel
theorem dX6_shelve_14 : decode cX6_shelve 14 = .ok (.iload_n 2, 1) := by decide +kernel
theorem dX6_shelve_15 : decode cX6_shelve 15 = .ok (.invokevirtual 125, 3) := by decide +kernel
theorem dX6_shelve_18 : decode cX6_shelve 18 = .ok (.invokevirtual 74, 3) := by decide +kernel
theorem dX6_shelve_21 : decode cX6_shelve 21 = .ok (.ireturn, 1) := by decide +kernel
theorem dX6_unshelve_0 : decode cX6_unshelve 0 = .ok (.aload_n 0, 1) := by decide +kernel
theorem dX6_unshelve_1 : decode cX6_unshelve 1 = .ok (.iload_n 1, 1) := by decide +kernel
theorem dX6_unshelve_2 : decode cX6_unshelve 2 = .ok (.invokevirtual 52, 3) := by decide +kernel
theorem dX6_unshelve_5 : decode cX6_unshelve 5 = .ok (.ifCond .ne 7, 3) := by decide +kernel
theorem dX6_unshelve_8 : decode cX6_unshelve 8 = .ok (.sipush (-20001), 3) := by decide +kernel
theorem dX6_unshelve_11 : decode cX6_unshelve 11 = .ok (.ireturn, 1) := by decide +kernel
theorem dX6_unshelve_12 : decode cX6_unshelve 12 = .ok (.aload_n 0, 1) := by decide +kernel
theorem dX6_unshelve_13 : decode cX6_unshelve 13 = .ok (.iload_n 1, 1) := by decide +kernel
theorem dX6_unshelve_14 : decode cX6_unshelve 14 = .ok (.bipush 13, 2) := by decide +kernel
theorem dX6_unshelve_16 : decode cX6_unshelve 16 = .ok (.invokevirtual 59, 3) := by decide +kernel
theorem dX6_unshelve_19 : decode cX6_unshelve 19 = .ok (.ifCond .ne 7, 3) := by decide +kernel
theorem dX6_unshelve_22 : decode cX6_unshelve 22 = .ok (.sipush (-20002), 3) := by decide +kernel
theorem dX6_unshelve_25 : decode cX6_unshelve 25 = .ok (.ireturn, 1) := by decide +kernel
theorem dX6_unshelve_26 : decode cX6_unshelve 26 = .ok (.aload_n 0, 1) := by decide +kernel
theorem dX6_unshelve_27 : decode cX6_unshelve 27 = .ok (.aload_n 0, 1) := by decide +kernel
theorem dX6_unshelve_28 : decode cX6_unshelve 28 = .ok (.getfield 7, 3) := by decide +kernel
theorem dX6_unshelve_31 : decode cX6_unshelve 31 = .ok (.invokevirtual 40, 3) := by decide +kernel
theorem dX6_unshelve_34 : decode cX6_unshelve 34 = .ok (.aload_n 0, 1) := by decide +kernel
theorem dX6_unshelve_35 : decode cX6_unshelve 35 = .ok (.iload_n 1, 1) := by decide +kernel
theorem dX6_unshelve_36 : decode cX6_unshelve 36 = .ok (.bipush 13, 2) := by decide +kernel
theorem dX6_unshelve_38 : decode cX6_unshelve 38 = .ok (.invokevirtual 59, 3) := by decide +kernel
theorem dX6_unshelve_41 : decode cX6_unshelve 41 = .ok (.aload_n 0, 1) := by decide +kernel
theorem dX6_unshelve_42 : decode cX6_unshelve 42 = .ok (.getfield 7, 3) := by decide +kernel
theorem dX6_unshelve_45 : decode cX6_unshelve 45 = .ok (.iconst 1, 1) := by decide +kernel
theorem dX6_unshelve_46 : decode cX6_unshelve 46 = .ok (.iaload, 1) := by decide +kernel
theorem dX6_unshelve_47 : decode cX6_unshelve 47 = .ok (.isub, 1) := by decide +kernel
theorem dX6_unshelve_48 : decode cX6_unshelve 48 = .ok (.istore_n 2, 1) := by decide +kernel
theorem dX6_unshelve_49 : decode cX6_unshelve 49 = .ok (.aload_n 0, 1) := by decide +kernel
theorem dX6_unshelve_50 : decode cX6_unshelve 50 = .ok (.iload_n 1, 1) := by decide +kernel
theorem dX6_unshelve_51 : decode cX6_unshelve 51 = .ok (.invokevirtual 63, 3) := by decide +kernel
theorem dX6_unshelve_54 : decode cX6_unshelve 54 = .ok (.iload_n 2, 1) := by decide +kernel
theorem dX6_unshelve_55 : decode cX6_unshelve 55 = .ok (.ireturn, 1) := by decide +kernel
theorem dX6_list_0 : decode cX6_list 0 = .ok (.iload_n 1, 1) := by decide +kernel
theorem dX6_list_1 : decode cX6_list 1 = .ok (.ifCond .ge 7, 3) := by decide +kernel
theorem dX6_list_4 : decode cX6_list 4 = .ok (.sipush (-20001), 3) := by decide +kernel
theorem dX6_list_7 : decode cX6_list 7 = .ok (.ireturn, 1) := by decide +kernel
theorem dX6_list_8 : decode cX6_list 8 = .ok (.aload_n 0, 1) := by decide +kernel
theorem dX6_list_9 : decode cX6_list 9 = .ok (.invokevirtual 122, 3) := by decide +kernel
theorem dX6_list_12 : decode cX6_list 12 = .ok (.iload_n 1, 1) := by decide +kernel
theorem dX6_list_13 : decode cX6_list 13 = .ok (.aload_n 0, 1) := by decide +kernel
theorem dX6_list_14 : decode cX6_list 14 = .ok (.getfield 116, 3) := by decide +kernel
theorem dX6_list_17 : decode cX6_list 17 = .ok (.if_icmp .ge 12, 3) := by decide +kernel
theorem dX6_list_20 : decode cX6_list 20 = .ok (.aload_n 0, 1) := by decide +kernel
theorem dX6_list_21 : decode cX6_list 21 = .ok (.getfield 19, 3) := by decide +kernel
theorem dX6_list_24 : decode cX6_list 24 = .ok (.iload_n 1, 1) := by decide +kernel
theorem dX6_list_25 : decode cX6_list 25 = .ok (.iaload, 1) := by decide +kernel
theorem dX6_list_26 : decode cX6_list 26 = .ok (.goto 6, 3) := by decide +kernel
theorem dX6_list_29 : decode cX6_list 29 = .ok (.sipush (-20009), 3) := by decide +kernel
theorem dX6_list_32 : decode cX6_list 32 = .ok (.ireturn, 1) := by decide +kernel
theorem dX6_counts_0 : decode cX6_counts 0 = .ok (.iload_n 2, 1) := by decide +kernel
theorem dX6_counts_1 : decode cX6_counts 1 = .ok (.bipush 6, 2) := by decide +kernel
theorem dX6_counts_3 : decode cX6_counts 3 = .ok (.if_icmp .ge 32, 3) := by decide +kernel
theorem dX6_counts_6 : decode cX6_counts 6 = .ok (.iload_n 2, 1) := by decide +kernel
theorem dX6_counts_7 : decode cX6_counts 7 = .ok (.ifCond .ne 11, 3) := by decide +kernel
theorem dX6_counts_10 : decode cX6_counts 10 = .ok (.aload_n 0, 1) := by decide +kernel
theorem dX6_counts_11 : decode cX6_counts 11 = .ok (.iload_n 1, 1) := by decide +kernel
theorem dX6_counts_12 : decode cX6_counts 12 = .ok (.invokevirtual 78, 3) := by decide +kernel
theorem dX6_counts_15 : decode cX6_counts 15 = .ok (.goto 19, 3) := by decide +kernel
theorem dX6_counts_18 : decode cX6_counts 18 = .ok (.aload_n 0, 1) := by decide +kernel
theorem dX6_counts_19 : decode cX6_counts 19 = .ok (.iload_n 1, 1) := by decide +kernel
theorem dX6_counts_20 : decode cX6_counts 20 = .ok (.invokevirtual 84, 3) := by decide +kernel
theorem dX6_counts_23 : decode cX6_counts 23 = .ok (.iload_n 2, 1) := by decide +kernel
theorem dX6_counts_24 : decode cX6_counts 24 = .ok (.iconst 1, 1) := by decide +kernel
theorem dX6_counts_25 : decode cX6_counts 25 = .ok (.isub, 1) := by decide +kernel
theorem dX6_counts_26 : decode cX6_counts 26 = .ok (.if_icmp .ne 7, 3) := by decide +kernel
theorem dX6_counts_29 : decode cX6_counts 29 = .ok (.iconst 1, 1) := by decide +kernel
theorem dX6_counts_30 : decode cX6_counts 30 = .ok (.goto 4, 3) := by decide +kernel
theorem dX6_counts_33 : decode cX6_counts 33 = .ok (.iconst 0, 1) := by decide +kernel
theorem dX6_counts_34 : decode cX6_counts 34 = .ok (.ireturn, 1) := by decide +kernel
theorem dX6_counts_35 : decode cX6_counts 35 = .ok (.iload_n 2, 1) := by decide +kernel
theorem dX6_counts_36 : decode cX6_counts 36 = .ok (.bipush 6, 2) := by decide +kernel
theorem dX6_counts_38 : decode cX6_counts 38 = .ok (.if_icmp .ne 21, 3) := by decide +kernel
theorem dX6_counts_41 : decode cX6_counts 41 = .ok (.aload_n 0, 1) := by decide +kernel
theorem dX6_counts_42 : decode cX6_counts 42 = .ok (.iload_n 1, 1) := by decide +kernel
theorem dX6_counts_43 : decode cX6_counts 43 = .ok (.bipush 13, 2) := by decide +kernel
theorem dX6_counts_45 : decode cX6_counts 45 = .ok (.invokevirtual 59, 3) := by decide +kernel
theorem dX6_counts_48 : decode cX6_counts 48 = .ok (.ifCond .le 7, 3) := by decide +kernel
theorem dX6_counts_51 : decode cX6_counts 51 = .ok (.iconst 1, 1) := by decide +kernel
theorem dX6_counts_52 : decode cX6_counts 52 = .ok (.goto 22, 3) := by decide +kernel
theorem dX6_counts_55 : decode cX6_counts 55 = .ok (.iconst 0, 1) := by decide +kernel
theorem dX6_counts_56 : decode cX6_counts 56 = .ok (.goto 18, 3) := by decide +kernel
theorem dX6_counts_59 : decode cX6_counts 59 = .ok (.aload_n 0, 1) := by decide +kernel
theorem dX6_counts_60 : decode cX6_counts 60 = .ok (.iload_n 1, 1) := by decide +kernel
theorem dX6_counts_61 : decode cX6_counts 61 = .ok (.bipush 10, 2) := by decide +kernel
theorem dX6_counts_63 : decode cX6_counts 63 = .ok (.invokevirtual 59, 3) := by decide +kernel
theorem dX6_counts_66 : decode cX6_counts 66 = .ok (.ifCond .ne 7, 3) := by decide +kernel
theorem dX6_counts_69 : decode cX6_counts 69 = .ok (.iconst 1, 1) := by decide +kernel
theorem dX6_counts_70 : decode cX6_counts 70 = .ok (.goto 4, 3) := by decide +kernel
theorem dX6_counts_73 : decode cX6_counts 73 = .ok (.iconst 0, 1) := by decide +kernel
theorem dX6_counts_74 : decode cX6_counts 74 = .ok (.ireturn, 1) := by decide +kernel
theorem dX6_count_0 : decode cX6_count 0 = .ok (.iload_n 1, 1) := by decide +kernel
theorem dX6_count_1 : decode cX6_count 1 = .ok (.iconst 0, 1) := by decide +kernel
theorem dX6_count_2 : decode cX6_count 2 = .ok (.bipush 7, 2) := by decide +kernel
theorem dX6_count_4 : decode cX6_count 4 = .ok (.invokestatic 32, 3) := by decide +kernel
theorem dX6_count_7 : decode cX6_count 7 = .ok (.ifCond .ne 7, 3) := by decide +kernel
theorem dX6_count_10 : decode cX6_count 10 = .ok (.sipush (-20001), 3) := by decide +kernel
theorem dX6_count_13 : decode cX6_count 13 = .ok (.ireturn, 1) := by decide +kernel
theorem dX6_count_14 : decode cX6_count 14 = .ok (.iconst 0, 1) := by decide +kernel
theorem dX6_count_15 : decode cX6_count 15 = .ok (.istore_n 2, 1) := by decide +kernel
theorem dX6_count_16 : decode cX6_count 16 = .ok (.iconst 0, 1) := by decide +kernel
theorem dX6_count_17 : decode cX6_count 17 = .ok (.istore_n 3, 1) := by decide +kernel
theorem dX6_count_18 : decode cX6_count 18 = .ok (.iload_n 3, 1) := by decide +kernel
theorem dX6_count_19 : decode cX6_count 19 = .ok (.aload_n 0, 1) := by decide +kernel
theorem dX6_count_20 : decode cX6_count 20 = .ok (.getfield 7, 3) := by decide +kernel
theorem dX6_count_23 : decode cX6_count 23 = .ok (.iconst 0, 1) := by decide +kernel
theorem dX6_count_24 : decode cX6_count 24 = .ok (.iaload, 1) := by decide +kernel
theorem dX6_count_25 : decode cX6_count 25 = .ok (.if_icmp .ge 26, 3) := by decide +kernel
theorem dX6_count_28 : decode cX6_count 28 = .ok (.iload_n 2, 1) := by decide +kernel
theorem dX6_count_29 : decode cX6_count 29 = .ok (.aload_n 0, 1) := by decide +kernel
theorem dX6_count_30 : decode cX6_count 30 = .ok (.iload_n 3, 1) := by decide +kernel
theorem dX6_count_31 : decode cX6_count 31 = .ok (.iload_n 1, 1) := by decide +kernel
theorem dX6_count_32 : decode cX6_count 32 = .ok (.invokevirtual 128, 3) := by decide +kernel
theorem dX6_count_35 : decode cX6_count 35 = .ok (.ifCond .eq 7, 3) := by decide +kernel
theorem dX6_count_38 : decode cX6_count 38 = .ok (.iconst 1, 1) := by decide +kernel
theorem dX6_count_39 : decode cX6_count 39 = .ok (.goto 4, 3) := by decide +kernel
theorem dX6_count_42 : decode cX6_count 42 = .ok (.iconst 0, 1) := by decide +kernel
theorem dX6_count_43 : decode cX6_count 43 = .ok (.iadd, 1) := by decide +kernel
theorem dX6_count_44 : decode cX6_count 44 = .ok (.istore_n 2, 1) := by decide +kernel
theorem dX6_count_45 : decode cX6_count 45 = .ok (.iinc 3 1, 3) := by decide +kernel
theorem dX6_count_48 : decode cX6_count 48 = .ok (.goto (-30), 3) := by decide +kernel
theorem dX6_count_51 : decode cX6_count 51 = .ok (.iload_n 2, 1) := by decide +kernel
theorem dX6_count_52 : decode cX6_count 52 = .ok (.ireturn, 1) := by decide +kernel
theorem dX6_events_0 : decode cX6_events 0 = .ok (.aload_n 0, 1) := by decide +kernel
theorem dX6_events_1 : decode cX6_events 1 = .ok (.getfield 7, 3) := by decide +kernel
theorem dX6_events_4 : decode cX6_events 4 = .ok (.bipush 9, 2) := by decide +kernel
theorem dX6_events_6 : decode cX6_events 6 = .ok (.iaload, 1) := by decide +kernel
theorem dX6_events_7 : decode cX6_events 7 = .ok (.ireturn, 1) := by decide +kernel
theorem dX6_eventOf_0 : decode cX6_eventOf 0 = .ok (.iload_n 1, 1) := by decide +kernel
theorem dX6_eventOf_1 : decode cX6_eventOf 1 = .ok (.bipush 30, 2) := by decide +kernel
theorem dX6_eventOf_3 : decode cX6_eventOf 3 = .ok (.if_icmp .ge 43, 3) := by decide +kernel
theorem dX6_eventOf_6 : decode cX6_eventOf 6 = .ok (.iload_n 1, 1) := by decide +kernel
theorem dX6_eventOf_7 : decode cX6_eventOf 7 = .ok (.aload_n 0, 1) := by decide +kernel
theorem dX6_eventOf_8 : decode cX6_eventOf 8 = .ok (.getfield 7, 3) := by decide +kernel
theorem dX6_eventOf_11 : decode cX6_eventOf 11 = .ok (.bipush 9, 2) := by decide +kernel
theorem dX6_eventOf_13 : decode cX6_eventOf 13 = .ok (.iaload, 1) := by decide +kernel
theorem dX6_eventOf_14 : decode cX6_eventOf 14 = .ok (.if_icmp .ge 32, 3) := by decide +kernel
theorem dX6_eventOf_17 : decode cX6_eventOf 17 = .ok (.aload_n 0, 1) := by decide +kernel
theorem dX6_eventOf_18 : decode cX6_eventOf 18 = .ok (.getfield 7, 3) := by decide +kernel
theorem dX6_eventOf_21 : decode cX6_eventOf 21 = .ok (.bipush 80, 2) := by decide +kernel
theorem dX6_eventOf_23 : decode cX6_eventOf 23 = .ok (.iconst 3, 1) := by decide +kernel
theorem dX6_eventOf_24 : decode cX6_eventOf 24 = .ok (.aload_n 0, 1) := by decide +kernel
theorem dX6_eventOf_25 : decode cX6_eventOf 25 = .ok (.getfield 7, 3) := by decide +kernel
theorem dX6_eventOf_28 : decode cX6_eventOf 28 = .ok (.bipush 9, 2) := by decide +kernel
theorem dX6_eventOf_30 : decode cX6_eventOf 30 = .ok (.iaload, 1) := by decide +kernel
theorem dX6_eventOf_31 : decode cX6_eventOf 31 = .ok (.iconst 1, 1) := by decide +kernel
theorem dX6_eventOf_32 : decode cX6_eventOf 32 = .ok (.isub, 1) := by decide +kernel
theorem dX6_eventOf_33 : decode cX6_eventOf 33 = .ok (.iload_n 1, 1) := by decide +kernel
theorem dX6_eventOf_34 : decode cX6_eventOf 34 = .ok (.isub, 1) := by decide +kernel
theorem dX6_eventOf_35 : decode cX6_eventOf 35 = .ok (.bipush 30, 2) := by decide +kernel
theorem dX6_eventOf_37 : decode cX6_eventOf 37 = .ok (.irem, 1) := by decide +kernel
theorem dX6_eventOf_38 : decode cX6_eventOf 38 = .ok (.imul, 1) := by decide +kernel
theorem dX6_eventOf_39 : decode cX6_eventOf 39 = .ok (.iadd, 1) := by decide +kernel
theorem dX6_eventOf_40 : decode cX6_eventOf 40 = .ok (.iload_n 2, 1) := by decide +kernel
theorem dX6_eventOf_41 : decode cX6_eventOf 41 = .ok (.iadd, 1) := by decide +kernel
theorem dX6_eventOf_42 : decode cX6_eventOf 42 = .ok (.iaload, 1) := by decide +kernel
theorem dX6_eventOf_43 : decode cX6_eventOf 43 = .ok (.goto 6, 3) := by decide +kernel
theorem dX6_eventOf_46 : decode cX6_eventOf 46 = .ok (.sipush (-20009), 3) := by decide +kernel
theorem dX6_eventOf_49 : decode cX6_eventOf 49 = .ok (.ireturn, 1) := by decide +kernel
theorem dX6_event_0 : decode cX6_event 0 = .ok (.iload_n 1, 1) := by decide +kernel
theorem dX6_event_1 : decode cX6_event 1 = .ok (.ifCond .lt 12, 3) := by decide +kernel
theorem dX6_event_4 : decode cX6_event 4 = .ok (.iload_n 2, 1) := by decide +kernel
theorem dX6_event_5 : decode cX6_event 5 = .ok (.iconst 0, 1) := by decide +kernel
theorem dX6_event_6 : decode cX6_event 6 = .ok (.iconst 2, 1) := by decide +kernel
theorem dX6_event_7 : decode cX6_event 7 = .ok (.invokestatic 32, 3) := by decide +kernel
theorem dX6_event_10 : decode cX6_event 10 = .ok (.ifCond .ne 9, 3) := by decide +kernel
theorem dX6_event_13 : decode cX6_event 13 = .ok (.sipush (-20001), 3) := by decide +kernel
theorem dX6_event_16 : decode cX6_event 16 = .ok (.goto 9, 3) := by decide +kernel
theorem dX6_event_19 : decode cX6_event 19 = .ok (.aload_n 0, 1) := by decide +kernel
theorem dX6_event_20 : decode cX6_event 20 = .ok (.iload_n 1, 1) := by decide +kernel
theorem dX6_event_21 : decode cX6_event 21 = .ok (.iload_n 2, 1) := by decide +kernel
theorem dX6_event_22 : decode cX6_event 22 = .ok (.invokevirtual 131, 3) := by decide +kernel
theorem dX6_event_25 : decode cX6_event 25 = .ok (.ireturn, 1) := by decide +kernel
theorem dX6_meanAck_0 : decode cX6_meanAck 0 = .ok (.aload_n 0, 1) := by decide +kernel
theorem dX6_meanAck_1 : decode cX6_meanAck 1 = .ok (.getfield 7, 3) := by decide +kernel
theorem dX6_meanAck_4 : decode cX6_meanAck 4 = .ok (.bipush 11, 2) := by decide +kernel
theorem dX6_meanAck_6 : decode cX6_meanAck 6 = .ok (.iaload, 1) := by decide +kernel
theorem dX6_meanAck_7 : decode cX6_meanAck 7 = .ok (.ifCond .ne 7, 3) := by decide +kernel
theorem dX6_meanAck_10 : decode cX6_meanAck 10 = .ok (.fconst 0, 1) := by decide +kernel
theorem dX6_meanAck_11 : decode cX6_meanAck 11 = .ok (.goto 20, 3) := by decide +kernel
theorem dX6_meanAck_14 : decode cX6_meanAck 14 = .ok (.aload_n 0, 1) := by decide +kernel
theorem dX6_meanAck_15 : decode cX6_meanAck 15 = .ok (.getfield 7, 3) := by decide +kernel
theorem dX6_meanAck_18 : decode cX6_meanAck 18 = .ok (.bipush 10, 2) := by decide +kernel
theorem dX6_meanAck_20 : decode cX6_meanAck 20 = .ok (.iaload, 1) := by decide +kernel
theorem dX6_meanAck_21 : decode cX6_meanAck 21 = .ok (.i2f, 1) := by decide +kernel
theorem dX6_meanAck_22 : decode cX6_meanAck 22 = .ok (.aload_n 0, 1) := by decide +kernel
theorem dX6_meanAck_23 : decode cX6_meanAck 23 = .ok (.getfield 7, 3) := by decide +kernel
theorem dX6_meanAck_26 : decode cX6_meanAck 26 = .ok (.bipush 11, 2) := by decide +kernel
theorem dX6_meanAck_28 : decode cX6_meanAck 28 = .ok (.iaload, 1) := by decide +kernel
theorem dX6_meanAck_29 : decode cX6_meanAck 29 = .ok (.i2f, 1) := by decide +kernel
theorem dX6_meanAck_30 : decode cX6_meanAck 30 = .ok (.fdiv, 1) := by decide +kernel
theorem dX6_meanAck_31 : decode cX6_meanAck 31 = .ok (.freturn, 1) := by decide +kernel
theorem dX6_worst_0 : decode cX6_worst 0 = .ok (.sipush (-20009), 3) := by decide +kernel
theorem dX6_worst_3 : decode cX6_worst 3 = .ok (.istore_n 1, 1) := by decide +kernel
theorem dX6_worst_4 : decode cX6_worst 4 = .ok (.iconst 0, 1) := by decide +kernel
theorem dX6_worst_5 : decode cX6_worst 5 = .ok (.istore_n 2, 1) := by decide +kernel
theorem dX6_worst_6 : decode cX6_worst 6 = .ok (.iconst 0, 1) := by decide +kernel
theorem dX6_worst_7 : decode cX6_worst 7 = .ok (.istore_n 3, 1) := by decide +kernel
theorem dX6_worst_8 : decode cX6_worst 8 = .ok (.iload_n 3, 1) := by decide +kernel
theorem dX6_worst_9 : decode cX6_worst 9 = .ok (.aload_n 0, 1) := by decide +kernel
theorem dX6_worst_10 : decode cX6_worst 10 = .ok (.getfield 7, 3) := by decide +kernel
theorem dX6_worst_13 : decode cX6_worst 13 = .ok (.iconst 0, 1) := by decide +kernel
theorem dX6_worst_14 : decode cX6_worst 14 = .ok (.iaload, 1) := by decide +kernel
theorem dX6_worst_15 : decode cX6_worst 15 = .ok (.if_icmp .ge 97, 3) := by decide +kernel
theorem dX6_worst_18 : decode cX6_worst 18 = .ok (.iconst 0, 1) := by decide +kernel
theorem dX6_worst_19 : decode cX6_worst 19 = .ok (.istore 4, 2) := by decide +kernel
theorem dX6_worst_21 : decode cX6_worst 21 = .ok (.iconst 0, 1) := by decide +kernel
theorem dX6_worst_22 : decode cX6_worst 22 = .ok (.istore 5, 2) := by decide +kernel
theorem dX6_worst_24 : decode cX6_worst 24 = .ok (.iload 5, 2) := by decide +kernel
theorem dX6_worst_26 : decode cX6_worst 26 = .ok (.bipush 30, 2) := by decide +kernel
theorem dX6_worst_28 : decode cX6_worst 28 = .ok (.if_icmp .ge 53, 3) := by decide +kernel
theorem dX6_worst_31 : decode cX6_worst 31 = .ok (.iload 5, 2) := by decide +kernel
theorem dX6_worst_33 : decode cX6_worst 33 = .ok (.aload_n 0, 1) := by decide +kernel
theorem dX6_worst_34 : decode cX6_worst 34 = .ok (.getfield 7, 3) := by decide +kernel
theorem dX6_worst_37 : decode cX6_worst 37 = .ok (.bipush 9, 2) := by decide +kernel
theorem dX6_worst_39 : decode cX6_worst 39 = .ok (.iaload, 1) := by decide +kernel
theorem dX6_worst_40 : decode cX6_worst 40 = .ok (.if_icmp .ge 41, 3) := by decide +kernel
theorem dX6_worst_43 : decode cX6_worst 43 = .ok (.iload 4, 2) := by decide +kernel
theorem dX6_worst_45 : decode cX6_worst 45 = .ok (.aload_n 0, 1) := by decide +kernel
theorem dX6_worst_46 : decode cX6_worst 46 = .ok (.iload 5, 2) := by decide +kernel
theorem dX6_worst_48 : decode cX6_worst 48 = .ok (.iconst 1, 1) := by decide +kernel
theorem dX6_worst_49 : decode cX6_worst 49 = .ok (.invokevirtual 131, 3) := by decide +kernel
theorem dX6_worst_52 : decode cX6_worst 52 = .ok (.iconst 1, 1) := by decide +kernel
theorem dX6_worst_53 : decode cX6_worst 53 = .ok (.if_icmp .ne 18, 3) := by decide +kernel
theorem dX6_worst_56 : decode cX6_worst 56 = .ok (.aload_n 0, 1) := by decide +kernel
theorem dX6_worst_57 : decode cX6_worst 57 = .ok (.iload 5, 2) := by decide +kernel
theorem dX6_worst_59 : decode cX6_worst 59 = .ok (.iconst 2, 1) := by decide +kernel
theorem dX6_worst_60 : decode cX6_worst 60 = .ok (.invokevirtual 131, 3) := by decide +kernel
theorem dX6_worst_63 : decode cX6_worst 63 = .ok (.iload_n 3, 1) := by decide +kernel
theorem dX6_worst_64 : decode cX6_worst 64 = .ok (.if_icmp .ne 7, 3) := by decide +kernel
theorem dX6_worst_67 : decode cX6_worst 67 = .ok (.iconst 1, 1) := by decide +kernel
theorem dX6_worst_68 : decode cX6_worst 68 = .ok (.goto 4, 3) := by decide +kernel
theorem dX6_worst_71 : decode cX6_worst 71 = .ok (.iconst 0, 1) := by decide +kernel
theorem dX6_worst_72 : decode cX6_worst 72 = .ok (.iadd, 1) := by decide +kernel
theorem dX6_worst_73 : decode cX6_worst 73 = .ok (.istore 4, 2) := by decide +kernel
theorem dX6_worst_75 : decode cX6_worst 75 = .ok (.iinc 5 1, 3) := by decide +kernel
theorem dX6_worst_78 : decode cX6_worst 78 = .ok (.goto (-54), 3) := by decide +kernel
theorem dX6_worst_81 : decode cX6_worst 81 = .ok (.iload 4, 2) := by decide +kernel
theorem dX6_worst_83 : decode cX6_worst 83 = .ok (.iload_n 2, 1) := by decide +kernel
theorem dX6_worst_84 : decode cX6_worst 84 = .ok (.if_icmp .le 7, 3) := by decide +kernel
theorem dX6_worst_87 : decode cX6_worst 87 = .ok (.iload_n 3, 1) := by decide +kernel
theorem dX6_worst_88 : decode cX6_worst 88 = .ok (.goto 4, 3) := by decide +kernel
theorem dX6_worst_91 : decode cX6_worst 91 = .ok (.iload_n 1, 1) := by decide +kernel
theorem dX6_worst_92 : decode cX6_worst 92 = .ok (.istore_n 1, 1) := by decide +kernel
theorem dX6_worst_93 : decode cX6_worst 93 = .ok (.iload 4, 2) := by decide +kernel
theorem dX6_worst_95 : decode cX6_worst 95 = .ok (.iload_n 2, 1) := by decide +kernel
theorem dX6_worst_96 : decode cX6_worst 96 = .ok (.if_icmp .le 8, 3) := by decide +kernel
theorem dX6_worst_99 : decode cX6_worst 99 = .ok (.iload 4, 2) := by decide +kernel
theorem dX6_worst_101 : decode cX6_worst 101 = .ok (.goto 4, 3) := by decide +kernel
theorem dX6_worst_104 : decode cX6_worst 104 = .ok (.iload_n 2, 1) := by decide +kernel
theorem dX6_worst_105 : decode cX6_worst 105 = .ok (.istore_n 2, 1) := by decide +kernel
theorem dX6_worst_106 : decode cX6_worst 106 = .ok (.iinc 3 1, 3) := by decide +kernel
theorem dX6_worst_109 : decode cX6_worst 109 = .ok (.goto (-101), 3) := by decide +kernel
theorem dX6_worst_112 : decode cX6_worst 112 = .ok (.iload_n 1, 1) := by decide +kernel
theorem dX6_worst_113 : decode cX6_worst 113 = .ok (.ireturn, 1) := by decide +kernel
theorem dX6_plays_0 : decode cX6_plays 0 = .ok (.aload_n 0, 1) := by decide +kernel
theorem dX6_plays_1 : decode cX6_plays 1 = .ok (.iload_n 1, 1) := by decide +kernel
theorem dX6_plays_2 : decode cX6_plays 2 = .ok (.bipush 15, 2) := by decide +kernel
theorem dX6_plays_4 : decode cX6_plays 4 = .ok (.invokevirtual 59, 3) := by decide +kernel
theorem dX6_plays_7 : decode cX6_plays 7 = .ok (.bipush 40, 2) := by decide +kernel
theorem dX6_plays_9 : decode cX6_plays 9 = .ok (.if_icmp .ge 13, 3) := by decide +kernel
theorem dX6_plays_12 : decode cX6_plays 12 = .ok (.aload_n 0, 1) := by decide +kernel
theorem dX6_plays_13 : decode cX6_plays 13 = .ok (.iload_n 1, 1) := by decide +kernel
theorem dX6_plays_14 : decode cX6_plays 14 = .ok (.bipush 15, 2) := by decide +kernel
theorem dX6_plays_16 : decode cX6_plays 16 = .ok (.invokevirtual 59, 3) := by decide +kernel
theorem dX6_plays_19 : decode cX6_plays 19 = .ok (.goto 5, 3) := by decide +kernel
theorem dX6_plays_22 : decode cX6_plays 22 = .ok (.bipush 40, 2) := by decide +kernel
theorem dX6_plays_24 : decode cX6_plays 24 = .ok (.istore_n 3, 1) := by decide +kernel
theorem dX6_plays_25 : decode cX6_plays 25 = .ok (.iconst 0, 1) := by decide +kernel
theorem dX6_plays_26 : decode cX6_plays 26 = .ok (.istore 4, 2) := by decide +kernel
theorem dX6_plays_28 : decode cX6_plays 28 = .ok (.iconst 0, 1) := by decide +kernel
theorem dX6_plays_29 : decode cX6_plays 29 = .ok (.istore 5, 2) := by decide +kernel
theorem dX6_plays_31 : decode cX6_plays 31 = .ok (.iconst 0, 1) := by decide +kernel
theorem dX6_plays_32 : decode cX6_plays 32 = .ok (.istore 6, 2) := by decide +kernel
theorem dX6_plays_34 : decode cX6_plays 34 = .ok (.aload_n 0, 1) := by decide +kernel
theorem dX6_plays_35 : decode cX6_plays 35 = .ok (.iload_n 1, 1) := by decide +kernel
theorem dX6_plays_36 : decode cX6_plays 36 = .ok (.bipush 15, 2) := by decide +kernel
theorem dX6_plays_38 : decode cX6_plays 38 = .ok (.invokevirtual 59, 3) := by decide +kernel
theorem dX6_plays_41 : decode cX6_plays 41 = .ok (.iload_n 3, 1) := by decide +kernel
theorem dX6_plays_42 : decode cX6_plays 42 = .ok (.isub, 1) := by decide +kernel
theorem dX6_plays_43 : decode cX6_plays 43 = .ok (.istore 7, 2) := by decide +kernel
theorem dX6_plays_45 : decode cX6_plays 45 = .ok (.iload 7, 2) := by decide +kernel
theorem dX6_plays_47 : decode cX6_plays 47 = .ok (.aload_n 0, 1) := by decide +kernel
theorem dX6_plays_48 : decode cX6_plays 48 = .ok (.iload_n 1, 1) := by decide +kernel
theorem dX6_plays_49 : decode cX6_plays 49 = .ok (.bipush 15, 2) := by decide +kernel
theorem dX6_plays_51 : decode cX6_plays 51 = .ok (.invokevirtual 59, 3) := by decide +kernel
theorem dX6_plays_54 : decode cX6_plays 54 = .ok (.if_icmp .ge 134, 3) := by decide +kernel
theorem dX6_plays_57 : decode cX6_plays 57 = .ok (.aload_n 0, 1) := by decide +kernel
theorem dX6_plays_58 : decode cX6_plays 58 = .ok (.iload_n 1, 1) := by decide +kernel
theorem dX6_plays_59 : decode cX6_plays 59 = .ok (.bipush 16, 2) := by decide +kernel
theorem dX6_plays_61 : decode cX6_plays 61 = .ok (.iload 7, 2) := by decide +kernel
theorem dX6_plays_63 : decode cX6_plays 63 = .ok (.bipush 40, 2) := by decide +kernel
theorem dX6_plays_65 : decode cX6_plays 65 = .ok (.irem, 1) := by decide +kernel
theorem dX6_plays_66 : decode cX6_plays 66 = .ok (.iadd, 1) := by decide +kernel
theorem dX6_plays_67 : decode cX6_plays 67 = .ok (.invokevirtual 59, 3) := by decide +kernel
theorem dX6_plays_70 : decode cX6_plays 70 = .ok (.istore 8, 2) := by decide +kernel
theorem dX6_plays_72 : decode cX6_plays 72 = .ok (.iload 6, 2) := by decide +kernel
theorem dX6_plays_74 : decode cX6_plays 74 = .ok (.ifCond .eq 24, 3) := by decide +kernel
theorem dX6_plays_77 : decode cX6_plays 77 = .ok (.aload_n 0, 1) := by decide +kernel
theorem dX6_plays_78 : decode cX6_plays 78 = .ok (.iload_n 1, 1) := by decide +kernel
theorem dX6_plays_79 : decode cX6_plays 79 = .ok (.iconst 0, 1) := by decide +kernel
theorem dX6_plays_80 : decode cX6_plays 80 = .ok (.invokevirtual 59, 3) := by decide +kernel
theorem dX6_plays_83 : decode cX6_plays 83 = .ok (.aload_n 0, 1) := by decide +kernel
theorem dX6_plays_84 : decode cX6_plays 84 = .ok (.iload_n 1, 1) := by decide +kernel
theorem dX6_plays_85 : decode cX6_plays 85 = .ok (.iconst 1, 1) := by decide +kernel
theorem dX6_plays_86 : decode cX6_plays 86 = .ok (.invokevirtual 59, 3) := by decide +kernel
theorem dX6_plays_89 : decode cX6_plays 89 = .ok (.iload_n 2, 1) := by decide +kernel
theorem dX6_plays_90 : decode cX6_plays 90 = .ok (.iload 8, 2) := by decide +kernel
theorem dX6_plays_92 : decode cX6_plays 92 = .ok (.invokestatic 96, 3) := by decide +kernel
theorem dX6_plays_95 : decode cX6_plays 95 = .ok (.goto 20, 3) := by decide +kernel
theorem dX6_plays_98 : decode cX6_plays 98 = .ok (.aload_n 0, 1) := by decide +kernel
theorem dX6_plays_99 : decode cX6_plays 99 = .ok (.iload_n 1, 1) := by decide +kernel
theorem dX6_plays_100 : decode cX6_plays 100 = .ok (.iconst 0, 1) := by decide +kernel
theorem dX6_plays_101 : decode cX6_plays 101 = .ok (.invokevirtual 59, 3) := by decide +kernel
theorem dX6_plays_104 : decode cX6_plays 104 = .ok (.aload_n 0, 1) := by decide +kernel
theorem dX6_plays_105 : decode cX6_plays 105 = .ok (.iload_n 1, 1) := by decide +kernel
theorem dX6_plays_106 : decode cX6_plays 106 = .ok (.iconst 1, 1) := by decide +kernel
theorem dX6_plays_107 : decode cX6_plays 107 = .ok (.invokevirtual 59, 3) := by decide +kernel
theorem dX6_plays_110 : decode cX6_plays 110 = .ok (.iload 8, 2) := by decide +kernel
theorem dX6_plays_112 : decode cX6_plays 112 = .ok (.invokestatic 93, 3) := by decide +kernel
theorem dX6_plays_115 : decode cX6_plays 115 = .ok (.istore 9, 2) := by decide +kernel
theorem dX6_plays_117 : decode cX6_plays 117 = .ok (.iload 9, 2) := by decide +kernel
theorem dX6_plays_119 : decode cX6_plays 119 = .ok (.ifCond .eq 10, 3) := by decide +kernel
theorem dX6_plays_122 : decode cX6_plays 122 = .ok (.iload 5, 2) := by decide +kernel
theorem dX6_plays_124 : decode cX6_plays 124 = .ok (.iconst 1, 1) := by decide +kernel
theorem dX6_plays_125 : decode cX6_plays 125 = .ok (.iadd, 1) := by decide +kernel
theorem dX6_plays_126 : decode cX6_plays 126 = .ok (.goto 4, 3) := by decide +kernel
theorem dX6_plays_129 : decode cX6_plays 129 = .ok (.iconst 0, 1) := by decide +kernel
theorem dX6_plays_130 : decode cX6_plays 130 = .ok (.istore 5, 2) := by decide +kernel
theorem dX6_plays_132 : decode cX6_plays 132 = .ok (.iload 5, 2) := by decide +kernel
theorem dX6_plays_134 : decode cX6_plays 134 = .ok (.aload_n 0, 1) := by decide +kernel
theorem dX6_plays_135 : decode cX6_plays 135 = .ok (.iload_n 1, 1) := by decide +kernel
theorem dX6_plays_136 : decode cX6_plays 136 = .ok (.iload 6, 2) := by decide +kernel
theorem dX6_plays_138 : decode cX6_plays 138 = .ok (.ifCond .eq 7, 3) := by decide +kernel
theorem dX6_plays_141 : decode cX6_plays 141 = .ok (.iconst 4, 1) := by decide +kernel
theorem dX6_plays_142 : decode cX6_plays 142 = .ok (.goto 4, 3) := by decide +kernel
theorem dX6_plays_145 : decode cX6_plays 145 = .ok (.iconst 3, 1) := by decide +kernel
theorem dX6_plays_146 : decode cX6_plays 146 = .ok (.invokevirtual 59, 3) := by decide +kernel
theorem dX6_plays_149 : decode cX6_plays 149 = .ok (.if_icmp .le 33, 3) := by decide +kernel
theorem dX6_plays_152 : decode cX6_plays 152 = .ok (.iload 4, 2) := by decide +kernel
theorem dX6_plays_154 : decode cX6_plays 154 = .ok (.iload 6, 2) := by decide +kernel
theorem dX6_plays_156 : decode cX6_plays 156 = .ok (.ifCond .eq 7, 3) := by decide +kernel
theorem dX6_plays_159 : decode cX6_plays 159 = .ok (.iconst 0, 1) := by decide +kernel
theorem dX6_plays_160 : decode cX6_plays 160 = .ok (.goto 4, 3) := by decide +kernel
theorem dX6_plays_163 : decode cX6_plays 163 = .ok (.iconst 1, 1) := by decide +kernel
theorem dX6_plays_164 : decode cX6_plays 164 = .ok (.iadd, 1) := by decide +kernel
theorem dX6_plays_165 : decode cX6_plays 165 = .ok (.istore 4, 2) := by decide +kernel
theorem dX6_plays_167 : decode cX6_plays 167 = .ok (.iload 6, 2) := by decide +kernel
theorem dX6_plays_169 : decode cX6_plays 169 = .ok (.ifCond .ne 7, 3) := by decide +kernel
theorem dX6_plays_172 : decode cX6_plays 172 = .ok (.iconst 1, 1) := by decide +kernel
theorem dX6_plays_173 : decode cX6_plays 173 = .ok (.goto 4, 3) := by decide +kernel
theorem dX6_plays_176 : decode cX6_plays 176 = .ok (.iconst 0, 1) := by decide +kernel
theorem dX6_plays_177 : decode cX6_plays 177 = .ok (.istore 6, 2) := by decide +kernel
theorem dX6_plays_179 : decode cX6_plays 179 = .ok (.iconst 0, 1) := by decide +kernel
theorem dX6_plays_180 : decode cX6_plays 180 = .ok (.istore 5, 2) := by decide +kernel
theorem dX6_plays_182 : decode cX6_plays 182 = .ok (.iinc 7 1, 3) := by decide +kernel
theorem dX6_plays_185 : decode cX6_plays 185 = .ok (.goto (-140), 3) := by decide +kernel
theorem dX6_plays_188 : decode cX6_plays 188 = .ok (.iload 4, 2) := by decide +kernel
theorem dX6_plays_190 : decode cX6_plays 190 = .ok (.ireturn, 1) := by decide +kernel
theorem dX6_replay_0 : decode cX6_replay 0 = .ok (.aload_n 0, 1) := by decide +kernel
theorem dX6_replay_1 : decode cX6_replay 1 = .ok (.iload_n 1, 1) := by decide +kernel
theorem dX6_replay_2 : decode cX6_replay 2 = .ok (.invokevirtual 52, 3) := by decide +kernel
theorem dX6_replay_5 : decode cX6_replay 5 = .ok (.ifCond .eq 23, 3) := by decide +kernel
theorem dX6_replay_8 : decode cX6_replay 8 = .ok (.iload_n 2, 1) := by decide +kernel
theorem dX6_replay_9 : decode cX6_replay 9 = .ok (.iconst 0, 1) := by decide +kernel
theorem dX6_replay_10 : decode cX6_replay 10 = .ok (.sipush 1000, 3) := by decide +kernel
theorem dX6_replay_13 : decode cX6_replay 13 = .ok (.invokestatic 32, 3) := by decide +kernel
theorem dX6_replay_16 : decode cX6_replay 16 = .ok (.ifCond .eq 12, 3) := by decide +kernel
theorem dX6_replay_19 : decode cX6_replay 19 = .ok (.aload_n 0, 1) := by decide +kernel
theorem dX6_replay_20 : decode cX6_replay 20 = .ok (.iload_n 1, 1) := by decide +kernel
theorem dX6_replay_21 : decode cX6_replay 21 = .ok (.iload_n 2, 1) := by decide +kernel
theorem dX6_replay_22 : decode cX6_replay 22 = .ok (.invokevirtual 134, 3) := by decide +kernel
theorem dX6_replay_25 : decode cX6_replay 25 = .ok (.goto 6, 3) := by decide +kernel
theorem dX6_replay_28 : decode cX6_replay 28 = .ok (.sipush (-20001), 3) := by decide +kernel
theorem dX6_replay_31 : decode cX6_replay 31 = .ok (.ireturn, 1) := by decide +kernel
theorem dX6_leastDeadband_0 : decode cX6_leastDeadband 0 = .ok (.aload_n 0, 1) := by decide +kernel
theorem dX6_leastDeadband_1 : decode cX6_leastDeadband 1 = .ok (.iload_n 1, 1) := by decide +kernel
theorem dX6_leastDeadband_2 : decode cX6_leastDeadband 2 = .ok (.invokevirtual 52, 3) := by decide +kernel
theorem dX6_leastDeadband_5 : decode cX6_leastDeadband 5 = .ok (.ifCond .eq 13, 3) := by decide +kernel
theorem dX6_leastDeadband_8 : decode cX6_leastDeadband 8 = .ok (.iload_n 2, 1) := by decide +kernel
theorem dX6_leastDeadband_9 : decode cX6_leastDeadband 9 = .ok (.iconst 0, 1) := by decide +kernel
theorem dX6_leastDeadband_10 : decode cX6_leastDeadband 10 = .ok (.bipush 40, 2) := by decide +kernel
theorem dX6_leastDeadband_12 : decode cX6_leastDeadband 12 = .ok (.invokestatic 32, 3) := by decide +kernel
theorem dX6_leastDeadband_15 : decode cX6_leastDeadband 15 = .ok (.ifCond .ne 7, 3) := by decide +kernel
theorem dX6_leastDeadband_18 : decode cX6_leastDeadband 18 = .ok (.sipush (-20001), 3) := by decide +kernel
theorem dX6_leastDeadband_21 : decode cX6_leastDeadband 21 = .ok (.ireturn, 1) := by decide +kernel
theorem dX6_leastDeadband_22 : decode cX6_leastDeadband 22 = .ok (.iconst 0, 1) := by decide +kernel
theorem dX6_leastDeadband_23 : decode cX6_leastDeadband 23 = .ok (.istore_n 3, 1) := by decide +kernel
theorem dX6_leastDeadband_24 : decode cX6_leastDeadband 24 = .ok (.iload_n 3, 1) := by decide +kernel
theorem dX6_leastDeadband_25 : decode cX6_leastDeadband 25 = .ok (.sipush 1000, 3) := by decide +kernel
theorem dX6_leastDeadband_28 : decode cX6_leastDeadband 28 = .ok (.if_icmp .gt 21, 3) := by decide +kernel
theorem dX6_leastDeadband_31 : decode cX6_leastDeadband 31 = .ok (.aload_n 0, 1) := by decide +kernel
theorem dX6_leastDeadband_32 : decode cX6_leastDeadband 32 = .ok (.iload_n 1, 1) := by decide +kernel
theorem dX6_leastDeadband_33 : decode cX6_leastDeadband 33 = .ok (.iload_n 3, 1) := by decide +kernel
theorem dX6_leastDeadband_34 : decode cX6_leastDeadband 34 = .ok (.invokevirtual 134, 3) := by decide +kernel
theorem dX6_leastDeadband_37 : decode cX6_leastDeadband 37 = .ok (.iload_n 2, 1) := by decide +kernel
theorem dX6_leastDeadband_38 : decode cX6_leastDeadband 38 = .ok (.if_icmp .gt 5, 3) := by decide +kernel
theorem dX6_leastDeadband_41 : decode cX6_leastDeadband 41 = .ok (.iload_n 3, 1) := by decide +kernel
theorem dX6_leastDeadband_42 : decode cX6_leastDeadband 42 = .ok (.ireturn, 1) := by decide +kernel
theorem dX6_leastDeadband_43 : decode cX6_leastDeadband 43 = .ok (.iinc 3 1, 3) := by decide +kernel
theorem dX6_leastDeadband_46 : decode cX6_leastDeadband 46 = .ok (.goto (-22), 3) := by decide +kernel
theorem dX6_leastDeadband_49 : decode cX6_leastDeadband 49 = .ok (.sipush (-20009), 3) := by decide +kernel
theorem dX6_leastDeadband_52 : decode cX6_leastDeadband 52 = .ok (.ireturn, 1) := by decide +kernel
theorem dX6_type_0 : decode cX6_type 0 = .ok (.iload_n 1, 1) := by decide +kernel
theorem dX6_type_1 : decode cX6_type 1 = .ok (.bipush 32, 2) := by decide +kernel
theorem dX6_type_3 : decode cX6_type 3 = .ok (.bipush 126, 2) := by decide +kernel
theorem dX6_type_5 : decode cX6_type 5 = .ok (.invokestatic 32, 3) := by decide +kernel
theorem dX6_type_8 : decode cX6_type 8 = .ok (.ifCond .ne 7, 3) := by decide +kernel
theorem dX6_type_11 : decode cX6_type 11 = .ok (.sipush (-20001), 3) := by decide +kernel
theorem dX6_type_14 : decode cX6_type 14 = .ok (.ireturn, 1) := by decide +kernel
theorem dX6_type_15 : decode cX6_type 15 = .ok (.aload_n 0, 1) := by decide +kernel
theorem dX6_type_16 : decode cX6_type 16 = .ok (.getfield 137, 3) := by decide +kernel
theorem dX6_type_19 : decode cX6_type 19 = .ok (.bipush 80, 2) := by decide +kernel
theorem dX6_type_21 : decode cX6_type 21 = .ok (.if_icmp .ne 7, 3) := by decide +kernel
theorem dX6_type_24 : decode cX6_type 24 = .ok (.sipush (-20003), 3) := by decide +kernel
theorem dX6_type_27 : decode cX6_type 27 = .ok (.ireturn, 1) := by decide +kernel
theorem dX6_type_28 : decode cX6_type 28 = .ok (.aload_n 0, 1) := by decide +kernel
theorem dX6_type_29 : decode cX6_type 29 = .ok (.getfield 22, 3) := by decide +kernel
theorem dX6_type_32 : decode cX6_type 32 = .ok (.aload_n 0, 1) := by decide +kernel
theorem dX6_type_33 : decode cX6_type 33 = .ok (.getfield 137, 3) := by decide +kernel
theorem dX6_type_36 : decode cX6_type 36 = .ok (.iload_n 1, 1) := by decide +kernel
theorem dX6_type_37 : decode cX6_type 37 = .ok (.iastore, 1) := by decide +kernel
theorem dX6_type_38 : decode cX6_type 38 = .ok (.aload_n 0, 1) := by decide +kernel
theorem dX6_type_39 : decode cX6_type 39 = .ok (.dup, 1) := by decide +kernel
theorem dX6_type_40 : decode cX6_type 40 = .ok (.getfield 137, 3) := by decide +kernel
theorem dX6_type_43 : decode cX6_type 43 = .ok (.iconst 1, 1) := by decide +kernel
theorem dX6_type_44 : decode cX6_type 44 = .ok (.iadd, 1) := by decide +kernel
theorem dX6_type_45 : decode cX6_type 45 = .ok (.putfield 137, 3) := by decide +kernel
theorem dX6_type_48 : decode cX6_type 48 = .ok (.aload_n 0, 1) := by decide +kernel
theorem dX6_type_49 : decode cX6_type 49 = .ok (.getfield 137, 3) := by decide +kernel
theorem dX6_type_52 : decode cX6_type 52 = .ok (.ireturn, 1) := by decide +kernel
theorem dX6_clear_0 : decode cX6_clear 0 = .ok (.aload_n 0, 1) := by decide +kernel
theorem dX6_clear_1 : decode cX6_clear 1 = .ok (.getfield 137, 3) := by decide +kernel
theorem dX6_clear_4 : decode cX6_clear 4 = .ok (.istore_n 1, 1) := by decide +kernel
theorem dX6_clear_5 : decode cX6_clear 5 = .ok (.aload_n 0, 1) := by decide +kernel
theorem dX6_clear_6 : decode cX6_clear 6 = .ok (.iconst 0, 1) := by decide +kernel
theorem dX6_clear_7 : decode cX6_clear 7 = .ok (.putfield 137, 3) := by decide +kernel
theorem dX6_clear_10 : decode cX6_clear 10 = .ok (.iload_n 1, 1) := by decide +kernel
theorem dX6_clear_11 : decode cX6_clear 11 = .ok (.ireturn, 1) := by decide +kernel
theorem dX6_sign_0 : decode cX6_sign 0 = .ok (.aload_n 0, 1) := by decide +kernel
theorem dX6_sign_1 : decode cX6_sign 1 = .ok (.getfield 140, 3) := by decide +kernel
theorem dX6_sign_4 : decode cX6_sign 4 = .ok (.aload_n 0, 1) := by decide +kernel
theorem dX6_sign_5 : decode cX6_sign 5 = .ok (.getfield 137, 3) := by decide +kernel
theorem dX6_sign_8 : decode cX6_sign 8 = .ok (.if_icmp .ge 15, 3) := by decide +kernel
theorem dX6_sign_11 : decode cX6_sign 11 = .ok (.aload_n 0, 1) := by decide +kernel
theorem dX6_sign_12 : decode cX6_sign 12 = .ok (.getfield 22, 3) := by decide +kernel
theorem dX6_sign_15 : decode cX6_sign 15 = .ok (.aload_n 0, 1) := by decide +kernel
theorem dX6_sign_16 : decode cX6_sign 16 = .ok (.getfield 140, 3) := by decide +kernel
theorem dX6_sign_19 : decode cX6_sign 19 = .ok (.iaload, 1) := by decide +kernel
theorem dX6_sign_20 : decode cX6_sign 20 = .ok (.goto 4, 3) := by decide +kernel
theorem dX6_sign_23 : decode cX6_sign 23 = .ok (.iconst (-1), 1) := by decide +kernel
theorem dX6_sign_24 : decode cX6_sign 24 = .ok (.ireturn, 1) := by decide +kernel
theorem dX6_takes_0 : decode cX6_takes 0 = .ok (.aload_n 0, 1) := by decide +kernel
theorem dX6_takes_1 : decode cX6_takes 1 = .ok (.invokevirtual 143, 3) := by decide +kernel
theorem dX6_takes_4 : decode cX6_takes 4 = .ok (.iload_n 1, 1) := by decide +kernel
theorem dX6_takes_5 : decode cX6_takes 5 = .ok (.if_icmp .ne 7, 3) := by decide +kernel
theorem dX6_takes_8 : decode cX6_takes 8 = .ok (.iconst 1, 1) := by decide +kernel
theorem dX6_takes_9 : decode cX6_takes 9 = .ok (.goto 4, 3) := by decide +kernel
theorem dX6_takes_12 : decode cX6_takes 12 = .ok (.iconst 0, 1) := by decide +kernel
theorem dX6_takes_13 : decode cX6_takes 13 = .ok (.istore_n 2, 1) := by decide +kernel
theorem dX6_takes_14 : decode cX6_takes 14 = .ok (.aload_n 0, 1) := by decide +kernel
theorem dX6_takes_15 : decode cX6_takes 15 = .ok (.dup, 1) := by decide +kernel
theorem dX6_takes_16 : decode cX6_takes 16 = .ok (.getfield 140, 3) := by decide +kernel
theorem dX6_takes_19 : decode cX6_takes 19 = .ok (.iload_n 2, 1) := by decide +kernel
theorem dX6_takes_20 : decode cX6_takes 20 = .ok (.ifCond .eq 7, 3) := by decide +kernel
theorem dX6_takes_23 : decode cX6_takes 23 = .ok (.iconst 1, 1) := by decide +kernel
theorem dX6_takes_24 : decode cX6_takes 24 = .ok (.goto 4, 3) := by decide +kernel
theorem dX6_takes_27 : decode cX6_takes 27 = .ok (.iconst 0, 1) := by decide +kernel
theorem dX6_takes_28 : decode cX6_takes 28 = .ok (.iadd, 1) := by decide +kernel
theorem dX6_takes_29 : decode cX6_takes 29 = .ok (.putfield 140, 3) := by decide +kernel
theorem dX6_takes_32 : decode cX6_takes 32 = .ok (.iload_n 2, 1) := by decide +kernel
theorem dX6_takes_33 : decode cX6_takes 33 = .ok (.ireturn, 1) := by decide +kernel
theorem dX6_three_0 : decode cX6_three 0 = .ok (.aload_n 0, 1) := by decide +kernel
theorem dX6_three_1 : decode cX6_three 1 = .ok (.iload_n 1, 1) := by decide +kernel
theorem dX6_three_2 : decode cX6_three 2 = .ok (.invokevirtual 146, 3) := by decide +kernel
theorem dX6_three_5 : decode cX6_three 5 = .ok (.ifCond .eq 23, 3) := by decide +kernel
theorem dX6_three_8 : decode cX6_three 8 = .ok (.aload_n 0, 1) := by decide +kernel
theorem dX6_three_9 : decode cX6_three 9 = .ok (.iload_n 2, 1) := by decide +kernel
theorem dX6_three_10 : decode cX6_three 10 = .ok (.invokevirtual 146, 3) := by decide +kernel
theorem dX6_three_13 : decode cX6_three 13 = .ok (.ifCond .eq 15, 3) := by decide +kernel
theorem dX6_three_16 : decode cX6_three 16 = .ok (.aload_n 0, 1) := by decide +kernel
theorem dX6_three_17 : decode cX6_three 17 = .ok (.iload_n 3, 1) := by decide +kernel
theorem dX6_three_18 : decode cX6_three 18 = .ok (.invokevirtual 146, 3) := by decide +kernel
theorem dX6_three_21 : decode cX6_three 21 = .ok (.ifCond .eq 7, 3) := by decide +kernel
theorem dX6_three_24 : decode cX6_three 24 = .ok (.iconst 1, 1) := by decide +kernel
theorem dX6_three_25 : decode cX6_three 25 = .ok (.goto 4, 3) := by decide +kernel
theorem dX6_three_28 : decode cX6_three 28 = .ok (.iconst 0, 1) := by decide +kernel
theorem dX6_three_29 : decode cX6_three 29 = .ok (.ireturn, 1) := by decide +kernel
theorem dX6_number_0 : decode cX6_number 0 = .ok (.iconst 0, 1) := by decide +kernel
theorem dX6_number_1 : decode cX6_number 1 = .ok (.istore_n 2, 1) := by decide +kernel
theorem dX6_number_2 : decode cX6_number 2 = .ok (.iconst 0, 1) := by decide +kernel
theorem dX6_number_3 : decode cX6_number 3 = .ok (.istore_n 3, 1) := by decide +kernel
theorem dX6_number_4 : decode cX6_number 4 = .ok (.iload_n 2, 1) := by decide +kernel
theorem dX6_number_5 : decode cX6_number 5 = .ok (.iconst 5, 1) := by decide +kernel
theorem dX6_number_6 : decode cX6_number 6 = .ok (.if_icmp .ge 46, 3) := by decide +kernel
theorem dX6_number_9 : decode cX6_number 9 = .ok (.aload_n 0, 1) := by decide +kernel
theorem dX6_number_10 : decode cX6_number 10 = .ok (.invokevirtual 143, 3) := by decide +kernel
theorem dX6_number_13 : decode cX6_number 13 = .ok (.bipush 48, 2) := by decide +kernel
theorem dX6_number_15 : decode cX6_number 15 = .ok (.bipush 57, 2) := by decide +kernel
theorem dX6_number_17 : decode cX6_number 17 = .ok (.invokestatic 32, 3) := by decide +kernel
theorem dX6_number_20 : decode cX6_number 20 = .ok (.ifCond .eq 32, 3) := by decide +kernel
theorem dX6_number_23 : decode cX6_number 23 = .ok (.bipush 10, 2) := by decide +kernel
theorem dX6_number_25 : decode cX6_number 25 = .ok (.iload_n 3, 1) := by decide +kernel
theorem dX6_number_26 : decode cX6_number 26 = .ok (.imul, 1) := by decide +kernel
theorem dX6_number_27 : decode cX6_number 27 = .ok (.aload_n 0, 1) := by decide +kernel
theorem dX6_number_28 : decode cX6_number 28 = .ok (.invokevirtual 143, 3) := by decide +kernel
theorem dX6_number_31 : decode cX6_number 31 = .ok (.iadd, 1) := by decide +kernel
theorem dX6_number_32 : decode cX6_number 32 = .ok (.bipush 48, 2) := by decide +kernel
theorem dX6_number_34 : decode cX6_number 34 = .ok (.isub, 1) := by decide +kernel
theorem dX6_number_35 : decode cX6_number 35 = .ok (.istore_n 3, 1) := by decide +kernel
theorem dX6_number_36 : decode cX6_number 36 = .ok (.aload_n 0, 1) := by decide +kernel
theorem dX6_number_37 : decode cX6_number 37 = .ok (.dup, 1) := by decide +kernel
theorem dX6_number_38 : decode cX6_number 38 = .ok (.getfield 140, 3) := by decide +kernel
theorem dX6_number_41 : decode cX6_number 41 = .ok (.iconst 1, 1) := by decide +kernel
theorem dX6_number_42 : decode cX6_number 42 = .ok (.iadd, 1) := by decide +kernel
theorem dX6_number_43 : decode cX6_number 43 = .ok (.putfield 140, 3) := by decide +kernel
theorem dX6_number_46 : decode cX6_number 46 = .ok (.iinc 2 1, 3) := by decide +kernel
theorem dX6_number_49 : decode cX6_number 49 = .ok (.goto (-45), 3) := by decide +kernel
theorem dX6_number_52 : decode cX6_number 52 = .ok (.aload_n 0, 1) := by decide +kernel
theorem dX6_number_53 : decode cX6_number 53 = .ok (.getfield 25, 3) := by decide +kernel
theorem dX6_number_56 : decode cX6_number 56 = .ok (.iconst 3, 1) := by decide +kernel
theorem dX6_number_57 : decode cX6_number 57 = .ok (.aload_n 0, 1) := by decide +kernel
theorem dX6_number_58 : decode cX6_number 58 = .ok (.getfield 149, 3) := by decide +kernel
theorem dX6_number_61 : decode cX6_number 61 = .ok (.imul, 1) := by decide +kernel
theorem dX6_number_62 : decode cX6_number 62 = .ok (.iload_n 1, 1) := by decide +kernel
theorem dX6_number_63 : decode cX6_number 63 = .ok (.iadd, 1) := by decide +kernel
theorem dX6_number_64 : decode cX6_number 64 = .ok (.iload_n 3, 1) := by decide +kernel
theorem dX6_number_65 : decode cX6_number 65 = .ok (.iastore, 1) := by decide +kernel
theorem dX6_number_66 : decode cX6_number 66 = .ok (.iload_n 2, 1) := by decide +kernel
theorem dX6_number_67 : decode cX6_number 67 = .ok (.ifCond .le 7, 3) := by decide +kernel
theorem dX6_number_70 : decode cX6_number 70 = .ok (.iconst 1, 1) := by decide +kernel
theorem dX6_number_71 : decode cX6_number 71 = .ok (.goto 4, 3) := by decide +kernel
theorem dX6_number_74 : decode cX6_number 74 = .ok (.iconst 0, 1) := by decide +kernel
theorem dX6_number_75 : decode cX6_number 75 = .ok (.ireturn, 1) := by decide +kernel
theorem dX6_word_0 : decode cX6_word 0 = .ok (.iconst 0, 1) := by decide +kernel
theorem dX6_word_1 : decode cX6_word 1 = .ok (.istore_n 1, 1) := by decide +kernel
theorem dX6_word_2 : decode cX6_word 2 = .ok (.iconst 0, 1) := by decide +kernel
theorem dX6_word_3 : decode cX6_word 3 = .ok (.istore_n 2, 1) := by decide +kernel
theorem dX6_word_4 : decode cX6_word 4 = .ok (.aload_n 0, 1) := by decide +kernel
theorem dX6_word_5 : decode cX6_word 5 = .ok (.invokevirtual 143, 3) := by decide +kernel
theorem dX6_word_8 : decode cX6_word 8 = .ok (.bipush 97, 2) := by decide +kernel
theorem dX6_word_10 : decode cX6_word 10 = .ok (.if_icmp .ne 19, 3) := by decide +kernel
theorem dX6_word_13 : decode cX6_word 13 = .ok (.iconst 1, 1) := by decide +kernel
theorem dX6_word_14 : decode cX6_word 14 = .ok (.istore_n 1, 1) := by decide +kernel
theorem dX6_word_15 : decode cX6_word 15 = .ok (.aload_n 0, 1) := by decide +kernel
theorem dX6_word_16 : decode cX6_word 16 = .ok (.bipush 97, 2) := by decide +kernel
theorem dX6_word_18 : decode cX6_word 18 = .ok (.bipush 99, 2) := by decide +kernel
theorem dX6_word_20 : decode cX6_word 20 = .ok (.bipush 107, 2) := by decide +kernel
theorem dX6_word_22 : decode cX6_word 22 = .ok (.invokevirtual 152, 3) := by decide +kernel
theorem dX6_word_25 : decode cX6_word 25 = .ok (.istore_n 2, 1) := by decide +kernel
theorem dX6_word_26 : decode cX6_word 26 = .ok (.goto 171, 3) := by decide +kernel
theorem dX6_word_29 : decode cX6_word 29 = .ok (.aload_n 0, 1) := by decide +kernel
theorem dX6_word_30 : decode cX6_word 30 = .ok (.invokevirtual 143, 3) := by decide +kernel
theorem dX6_word_33 : decode cX6_word 33 = .ok (.bipush 116, 2) := by decide +kernel
theorem dX6_word_35 : decode cX6_word 35 = .ok (.if_icmp .ne 36, 3) := by decide +kernel
theorem dX6_word_38 : decode cX6_word 38 = .ok (.iconst 3, 1) := by decide +kernel
theorem dX6_word_39 : decode cX6_word 39 = .ok (.istore_n 1, 1) := by decide +kernel
theorem dX6_word_40 : decode cX6_word 40 = .ok (.aload_n 0, 1) := by decide +kernel
theorem dX6_word_41 : decode cX6_word 41 = .ok (.bipush 116, 2) := by decide +kernel
theorem dX6_word_43 : decode cX6_word 43 = .ok (.bipush 105, 2) := by decide +kernel
theorem dX6_word_45 : decode cX6_word 45 = .ok (.bipush 99, 2) := by decide +kernel
theorem dX6_word_47 : decode cX6_word 47 = .ok (.invokevirtual 152, 3) := by decide +kernel
theorem dX6_word_50 : decode cX6_word 50 = .ok (.ifCond .eq 16, 3) := by decide +kernel
theorem dX6_word_53 : decode cX6_word 53 = .ok (.aload_n 0, 1) := by decide +kernel
theorem dX6_word_54 : decode cX6_word 54 = .ok (.bipush 107, 2) := by decide +kernel
theorem dX6_word_56 : decode cX6_word 56 = .ok (.invokevirtual 146, 3) := by decide +kernel
theorem dX6_word_59 : decode cX6_word 59 = .ok (.ifCond .eq 7, 3) := by decide +kernel
theorem dX6_word_62 : decode cX6_word 62 = .ok (.iconst 1, 1) := by decide +kernel
theorem dX6_word_63 : decode cX6_word 63 = .ok (.goto 4, 3) := by decide +kernel
theorem dX6_word_66 : decode cX6_word 66 = .ok (.iconst 0, 1) := by decide +kernel
theorem dX6_word_67 : decode cX6_word 67 = .ok (.istore_n 2, 1) := by decide +kernel
theorem dX6_word_68 : decode cX6_word 68 = .ok (.goto 129, 3) := by decide +kernel
theorem dX6_word_71 : decode cX6_word 71 = .ok (.aload_n 0, 1) := by decide +kernel
theorem dX6_word_72 : decode cX6_word 72 = .ok (.bipush 115, 2) := by decide +kernel
theorem dX6_word_74 : decode cX6_word 74 = .ok (.invokevirtual 146, 3) := by decide +kernel
theorem dX6_word_77 : decode cX6_word 77 = .ok (.ifCond .eq 120, 3) := by decide +kernel
theorem dX6_word_80 : decode cX6_word 80 = .ok (.aload_n 0, 1) := by decide +kernel
theorem dX6_word_81 : decode cX6_word 81 = .ok (.invokevirtual 143, 3) := by decide +kernel
theorem dX6_word_84 : decode cX6_word 84 = .ok (.bipush 104, 2) := by decide +kernel
theorem dX6_word_86 : decode cX6_word 86 = .ok (.if_icmp .ne 45, 3) := by decide +kernel
theorem dX6_word_89 : decode cX6_word 89 = .ok (.iconst 2, 1) := by decide +kernel
theorem dX6_word_90 : decode cX6_word 90 = .ok (.istore_n 1, 1) := by decide +kernel
theorem dX6_word_91 : decode cX6_word 91 = .ok (.aload_n 0, 1) := by decide +kernel
theorem dX6_word_92 : decode cX6_word 92 = .ok (.bipush 104, 2) := by decide +kernel
theorem dX6_word_94 : decode cX6_word 94 = .ok (.bipush 101, 2) := by decide +kernel
theorem dX6_word_96 : decode cX6_word 96 = .ok (.bipush 108, 2) := by decide +kernel
theorem dX6_word_98 : decode cX6_word 98 = .ok (.invokevirtual 152, 3) := by decide +kernel
theorem dX6_word_101 : decode cX6_word 101 = .ok (.ifCond .eq 25, 3) := by decide +kernel
theorem dX6_word_104 : decode cX6_word 104 = .ok (.aload_n 0, 1) := by decide +kernel
theorem dX6_word_105 : decode cX6_word 105 = .ok (.bipush 118, 2) := by decide +kernel
theorem dX6_word_107 : decode cX6_word 107 = .ok (.invokevirtual 146, 3) := by decide +kernel
theorem dX6_word_110 : decode cX6_word 110 = .ok (.ifCond .eq 16, 3) := by decide +kernel
theorem dX6_word_113 : decode cX6_word 113 = .ok (.aload_n 0, 1) := by decide +kernel
theorem dX6_word_114 : decode cX6_word 114 = .ok (.bipush 101, 2) := by decide +kernel
theorem dX6_word_116 : decode cX6_word 116 = .ok (.invokevirtual 146, 3) := by decide +kernel
theorem dX6_word_119 : decode cX6_word 119 = .ok (.ifCond .eq 7, 3) := by decide +kernel
theorem dX6_word_122 : decode cX6_word 122 = .ok (.iconst 1, 1) := by decide +kernel
theorem dX6_word_123 : decode cX6_word 123 = .ok (.goto 4, 3) := by decide +kernel
theorem dX6_word_126 : decode cX6_word 126 = .ok (.iconst 0, 1) := by decide +kernel
theorem dX6_word_127 : decode cX6_word 127 = .ok (.istore_n 2, 1) := by decide +kernel
theorem dX6_word_128 : decode cX6_word 128 = .ok (.goto 69, 3) := by decide +kernel
theorem dX6_word_131 : decode cX6_word 131 = .ok (.aload_n 0, 1) := by decide +kernel
theorem dX6_word_132 : decode cX6_word 132 = .ok (.invokevirtual 143, 3) := by decide +kernel
theorem dX6_word_135 : decode cX6_word 135 = .ok (.bipush 116, 2) := by decide +kernel
theorem dX6_word_137 : decode cX6_word 137 = .ok (.if_icmp .ne 36, 3) := by decide +kernel
theorem dX6_word_140 : decode cX6_word 140 = .ok (.iconst 4, 1) := by decide +kernel
theorem dX6_word_141 : decode cX6_word 141 = .ok (.istore_n 1, 1) := by decide +kernel
theorem dX6_word_142 : decode cX6_word 142 = .ok (.aload_n 0, 1) := by decide +kernel
theorem dX6_word_143 : decode cX6_word 143 = .ok (.bipush 116, 2) := by decide +kernel
theorem dX6_word_145 : decode cX6_word 145 = .ok (.bipush 97, 2) := by decide +kernel
theorem dX6_word_147 : decode cX6_word 147 = .ok (.bipush 116, 2) := by decide +kernel
theorem dX6_word_149 : decode cX6_word 149 = .ok (.invokevirtual 152, 3) := by decide +kernel
theorem dX6_word_152 : decode cX6_word 152 = .ok (.ifCond .eq 16, 3) := by decide +kernel
theorem dX6_word_155 : decode cX6_word 155 = .ok (.aload_n 0, 1) := by decide +kernel
theorem dX6_word_156 : decode cX6_word 156 = .ok (.bipush 101, 2) := by decide +kernel
theorem dX6_word_158 : decode cX6_word 158 = .ok (.invokevirtual 146, 3) := by decide +kernel
theorem dX6_word_161 : decode cX6_word 161 = .ok (.ifCond .eq 7, 3) := by decide +kernel
theorem dX6_word_164 : decode cX6_word 164 = .ok (.iconst 1, 1) := by decide +kernel
theorem dX6_word_165 : decode cX6_word 165 = .ok (.goto 4, 3) := by decide +kernel
theorem dX6_word_168 : decode cX6_word 168 = .ok (.iconst 0, 1) := by decide +kernel
theorem dX6_word_169 : decode cX6_word 169 = .ok (.istore_n 2, 1) := by decide +kernel
theorem dX6_word_170 : decode cX6_word 170 = .ok (.goto 27, 3) := by decide +kernel
theorem dX6_word_173 : decode cX6_word 173 = .ok (.aload_n 0, 1) := by decide +kernel
theorem dX6_word_174 : decode cX6_word 174 = .ok (.bipush 101, 2) := by decide +kernel
theorem dX6_word_176 : decode cX6_word 176 = .ok (.invokevirtual 146, 3) := by decide +kernel
theorem dX6_word_179 : decode cX6_word 179 = .ok (.ifCond .eq 16, 3) := by decide +kernel
theorem dX6_word_182 : decode cX6_word 182 = .ok (.aload_n 0, 1) := by decide +kernel
theorem dX6_word_183 : decode cX6_word 183 = .ok (.bipush 116, 2) := by decide +kernel
theorem dX6_word_185 : decode cX6_word 185 = .ok (.invokevirtual 146, 3) := by decide +kernel
theorem dX6_word_188 : decode cX6_word 188 = .ok (.ifCond .eq 7, 3) := by decide +kernel
theorem dX6_word_191 : decode cX6_word 191 = .ok (.iconst 1, 1) := by decide +kernel
theorem dX6_word_192 : decode cX6_word 192 = .ok (.goto 4, 3) := by decide +kernel
theorem dX6_word_195 : decode cX6_word 195 = .ok (.iconst 0, 1) := by decide +kernel
theorem dX6_word_196 : decode cX6_word 196 = .ok (.istore_n 2, 1) := by decide +kernel
theorem dX6_word_197 : decode cX6_word 197 = .ok (.aload_n 0, 1) := by decide +kernel
theorem dX6_word_198 : decode cX6_word 198 = .ok (.getfield 25, 3) := by decide +kernel
theorem dX6_word_201 : decode cX6_word 201 = .ok (.iconst 3, 1) := by decide +kernel
theorem dX6_word_202 : decode cX6_word 202 = .ok (.aload_n 0, 1) := by decide +kernel
theorem dX6_word_203 : decode cX6_word 203 = .ok (.getfield 149, 3) := by decide +kernel
theorem dX6_word_206 : decode cX6_word 206 = .ok (.imul, 1) := by decide +kernel
theorem dX6_word_207 : decode cX6_word 207 = .ok (.iload_n 1, 1) := by decide +kernel
theorem dX6_word_208 : decode cX6_word 208 = .ok (.iastore, 1) := by decide +kernel
theorem dX6_word_209 : decode cX6_word 209 = .ok (.iload_n 2, 1) := by decide +kernel
theorem dX6_word_210 : decode cX6_word 210 = .ok (.ifCond .eq 16, 3) := by decide +kernel
theorem dX6_word_213 : decode cX6_word 213 = .ok (.aload_n 0, 1) := by decide +kernel
theorem dX6_word_214 : decode cX6_word 214 = .ok (.bipush 32, 2) := by decide +kernel
theorem dX6_word_216 : decode cX6_word 216 = .ok (.invokevirtual 146, 3) := by decide +kernel
theorem dX6_word_219 : decode cX6_word 219 = .ok (.ifCond .eq 7, 3) := by decide +kernel
theorem dX6_word_222 : decode cX6_word 222 = .ok (.iconst 1, 1) := by decide +kernel
theorem dX6_word_223 : decode cX6_word 223 = .ok (.goto 4, 3) := by decide +kernel
theorem dX6_word_226 : decode cX6_word 226 = .ok (.iconst 0, 1) := by decide +kernel
theorem dX6_word_227 : decode cX6_word 227 = .ok (.ireturn, 1) := by decide +kernel
theorem dX6_readsCommand_0 : decode cX6_readsCommand 0 = .ok (.aload_n 0, 1) := by decide +kernel
theorem dX6_readsCommand_1 : decode cX6_readsCommand 1 = .ok (.invokevirtual 155, 3) := by decide +kernel
theorem dX6_readsCommand_4 : decode cX6_readsCommand 4 = .ok (.ifCond .eq 11, 3) := by decide +kernel
theorem dX6_readsCommand_7 : decode cX6_readsCommand 7 = .ok (.aload_n 0, 1) := by decide +kernel
theorem dX6_readsCommand_8 : decode cX6_readsCommand 8 = .ok (.iconst 1, 1) := by decide +kernel
theorem dX6_readsCommand_9 : decode cX6_readsCommand 9 = .ok (.invokevirtual 159, 3) := by decide +kernel
theorem dX6_readsCommand_12 : decode cX6_readsCommand 12 = .ok (.ifCond .ne 5, 3) := by decide +kernel
theorem dX6_readsCommand_15 : decode cX6_readsCommand 15 = .ok (.iconst 0, 1) := by decide +kernel
theorem dX6_readsCommand_16 : decode cX6_readsCommand 16 = .ok (.ireturn, 1) := by decide +kernel
theorem dX6_readsCommand_17 : decode cX6_readsCommand 17 = .ok (.aload_n 0, 1) := by decide +kernel
theorem dX6_readsCommand_18 : decode cX6_readsCommand 18 = .ok (.getfield 25, 3) := by decide +kernel
theorem dX6_readsCommand_21 : decode cX6_readsCommand 21 = .ok (.iconst 3, 1) := by decide +kernel
theorem dX6_readsCommand_22 : decode cX6_readsCommand 22 = .ok (.aload_n 0, 1) := by decide +kernel
theorem dX6_readsCommand_23 : decode cX6_readsCommand 23 = .ok (.getfield 149, 3) := by decide +kernel
theorem dX6_readsCommand_26 : decode cX6_readsCommand 26 = .ok (.imul, 1) := by decide +kernel
theorem dX6_readsCommand_27 : decode cX6_readsCommand 27 = .ok (.iaload, 1) := by decide +kernel
theorem dX6_readsCommand_28 : decode cX6_readsCommand 28 = .ok (.istore_n 1, 1) := by decide +kernel
theorem dX6_readsCommand_29 : decode cX6_readsCommand 29 = .ok (.iload_n 1, 1) := by decide +kernel
theorem dX6_readsCommand_30 : decode cX6_readsCommand 30 = .ok (.iconst 2, 1) := by decide +kernel
theorem dX6_readsCommand_31 : decode cX6_readsCommand 31 = .ok (.if_icmp .ne 26, 3) := by decide +kernel
theorem dX6_readsCommand_34 : decode cX6_readsCommand 34 = .ok (.aload_n 0, 1) := by decide +kernel
theorem dX6_readsCommand_35 : decode cX6_readsCommand 35 = .ok (.bipush 58, 2) := by decide +kernel
theorem dX6_readsCommand_37 : decode cX6_readsCommand 37 = .ok (.invokevirtual 146, 3) := by decide +kernel
theorem dX6_readsCommand_40 : decode cX6_readsCommand 40 = .ok (.ifCond .eq 15, 3) := by decide +kernel
theorem dX6_readsCommand_43 : decode cX6_readsCommand 43 = .ok (.aload_n 0, 1) := by decide +kernel
theorem dX6_readsCommand_44 : decode cX6_readsCommand 44 = .ok (.iconst 2, 1) := by decide +kernel
theorem dX6_readsCommand_45 : decode cX6_readsCommand 45 = .ok (.invokevirtual 159, 3) := by decide +kernel
theorem dX6_readsCommand_48 : decode cX6_readsCommand 48 = .ok (.ifCond .eq 7, 3) := by decide +kernel
theorem dX6_readsCommand_51 : decode cX6_readsCommand 51 = .ok (.iconst 1, 1) := by decide +kernel
theorem dX6_readsCommand_52 : decode cX6_readsCommand 52 = .ok (.goto 4, 3) := by decide +kernel
theorem dX6_readsCommand_55 : decode cX6_readsCommand 55 = .ok (.iconst 0, 1) := by decide +kernel
theorem dX6_readsCommand_56 : decode cX6_readsCommand 56 = .ok (.ireturn, 1) := by decide +kernel
theorem dX6_readsCommand_57 : decode cX6_readsCommand 57 = .ok (.iload_n 1, 1) := by decide +kernel
theorem dX6_readsCommand_58 : decode cX6_readsCommand 58 = .ok (.ifCond .le 5, 3) := by decide +kernel
theorem dX6_readsCommand_61 : decode cX6_readsCommand 61 = .ok (.iconst 1, 1) := by decide +kernel
theorem dX6_readsCommand_62 : decode cX6_readsCommand 62 = .ok (.ireturn, 1) := by decide +kernel
theorem dX6_readsCommand_63 : decode cX6_readsCommand 63 = .ok (.aload_n 0, 1) := by decide +kernel
theorem dX6_readsCommand_64 : decode cX6_readsCommand 64 = .ok (.bipush 61, 2) := by decide +kernel
theorem dX6_readsCommand_66 : decode cX6_readsCommand 66 = .ok (.invokevirtual 146, 3) := by decide +kernel
theorem dX6_readsCommand_69 : decode cX6_readsCommand 69 = .ok (.ifCond .ne 5, 3) := by decide +kernel
theorem dX6_readsCommand_72 : decode cX6_readsCommand 72 = .ok (.iconst 0, 1) := by decide +kernel
theorem dX6_readsCommand_73 : decode cX6_readsCommand 73 = .ok (.ireturn, 1) := by decide +kernel
theorem dX6_readsCommand_74 : decode cX6_readsCommand 74 = .ok (.aload_n 0, 1) := by decide +kernel
theorem dX6_readsCommand_75 : decode cX6_readsCommand 75 = .ok (.bipush 45, 2) := by decide +kernel
theorem dX6_readsCommand_77 : decode cX6_readsCommand 77 = .ok (.invokevirtual 146, 3) := by decide +kernel
theorem dX6_readsCommand_80 : decode cX6_readsCommand 80 = .ok (.istore_n 2, 1) := by decide +kernel
theorem dX6_readsCommand_81 : decode cX6_readsCommand 81 = .ok (.aload_n 0, 1) := by decide +kernel
theorem dX6_readsCommand_82 : decode cX6_readsCommand 82 = .ok (.iconst 2, 1) := by decide +kernel
theorem dX6_readsCommand_83 : decode cX6_readsCommand 83 = .ok (.invokevirtual 159, 3) := by decide +kernel
theorem dX6_readsCommand_86 : decode cX6_readsCommand 86 = .ok (.istore_n 3, 1) := by decide +kernel
theorem dX6_readsCommand_87 : decode cX6_readsCommand 87 = .ok (.aload_n 0, 1) := by decide +kernel
theorem dX6_readsCommand_88 : decode cX6_readsCommand 88 = .ok (.getfield 25, 3) := by decide +kernel
theorem dX6_readsCommand_91 : decode cX6_readsCommand 91 = .ok (.iconst 3, 1) := by decide +kernel
theorem dX6_readsCommand_92 : decode cX6_readsCommand 92 = .ok (.aload_n 0, 1) := by decide +kernel
theorem dX6_readsCommand_93 : decode cX6_readsCommand 93 = .ok (.getfield 149, 3) := by decide +kernel
theorem dX6_readsCommand_96 : decode cX6_readsCommand 96 = .ok (.imul, 1) := by decide +kernel
theorem dX6_readsCommand_97 : decode cX6_readsCommand 97 = .ok (.iconst 2, 1) := by decide +kernel
theorem dX6_readsCommand_98 : decode cX6_readsCommand 98 = .ok (.iadd, 1) := by decide +kernel
theorem dX6_readsCommand_99 : decode cX6_readsCommand 99 = .ok (.iload_n 2, 1) := by decide +kernel
theorem dX6_readsCommand_100 : decode cX6_readsCommand 100 = .ok (.ifCond .eq 20, 3) := by decide +kernel
theorem dX6_readsCommand_103 : decode cX6_readsCommand 103 = .ok (.aload_n 0, 1) := by decide +kernel
theorem dX6_readsCommand_104 : decode cX6_readsCommand 104 = .ok (.getfield 25, 3) := by decide +kernel
theorem dX6_readsCommand_107 : decode cX6_readsCommand 107 = .ok (.iconst 3, 1) := by decide +kernel
theorem dX6_readsCommand_108 : decode cX6_readsCommand 108 = .ok (.aload_n 0, 1) := by decide +kernel
theorem dX6_readsCommand_109 : decode cX6_readsCommand 109 = .ok (.getfield 149, 3) := by decide +kernel
theorem dX6_readsCommand_112 : decode cX6_readsCommand 112 = .ok (.imul, 1) := by decide +kernel
theorem dX6_readsCommand_113 : decode cX6_readsCommand 113 = .ok (.iconst 2, 1) := by decide +kernel
theorem dX6_readsCommand_114 : decode cX6_readsCommand 114 = .ok (.iadd, 1) := by decide +kernel
theorem dX6_readsCommand_115 : decode cX6_readsCommand 115 = .ok (.iaload, 1) := by decide +kernel
theorem dX6_readsCommand_116 : decode cX6_readsCommand 116 = .ok (.ineg, 1) := by decide +kernel
theorem dX6_readsCommand_117 : decode cX6_readsCommand 117 = .ok (.goto 16, 3) := by decide +kernel
theorem dX6_readsCommand_120 : decode cX6_readsCommand 120 = .ok (.aload_n 0, 1) := by decide +kernel
theorem dX6_readsCommand_121 : decode cX6_readsCommand 121 = .ok (.getfield 25, 3) := by decide +kernel
theorem dX6_readsCommand_124 : decode cX6_readsCommand 124 = .ok (.iconst 3, 1) := by decide +kernel
theorem dX6_readsCommand_125 : decode cX6_readsCommand 125 = .ok (.aload_n 0, 1) := by decide +kernel
theorem dX6_readsCommand_126 : decode cX6_readsCommand 126 = .ok (.getfield 149, 3) := by decide +kernel
theorem dX6_readsCommand_129 : decode cX6_readsCommand 129 = .ok (.imul, 1) := by decide +kernel
theorem dX6_readsCommand_130 : decode cX6_readsCommand 130 = .ok (.iconst 2, 1) := by decide +kernel
theorem dX6_readsCommand_131 : decode cX6_readsCommand 131 = .ok (.iadd, 1) := by decide +kernel
theorem dX6_readsCommand_132 : decode cX6_readsCommand 132 = .ok (.iaload, 1) := by decide +kernel
theorem dX6_readsCommand_133 : decode cX6_readsCommand 133 = .ok (.iastore, 1) := by decide +kernel
theorem dX6_readsCommand_134 : decode cX6_readsCommand 134 = .ok (.iload_n 3, 1) := by decide +kernel
theorem dX6_readsCommand_135 : decode cX6_readsCommand 135 = .ok (.ireturn, 1) := by decide +kernel
theorem dX6_reads_0 : decode cX6_reads 0 = .ok (.aload_n 0, 1) := by decide +kernel
theorem dX6_reads_1 : decode cX6_reads 1 = .ok (.iconst 0, 1) := by decide +kernel
theorem dX6_reads_2 : decode cX6_reads 2 = .ok (.putfield 140, 3) := by decide +kernel
theorem dX6_reads_5 : decode cX6_reads 5 = .ok (.aload_n 0, 1) := by decide +kernel
theorem dX6_reads_6 : decode cX6_reads 6 = .ok (.iconst 0, 1) := by decide +kernel
theorem dX6_reads_7 : decode cX6_reads 7 = .ok (.putfield 149, 3) := by decide +kernel
theorem dX6_reads_10 : decode cX6_reads 10 = .ok (.iconst 1, 1) := by decide +kernel
theorem dX6_reads_11 : decode cX6_reads 11 = .ok (.istore_n 1, 1) := by decide +kernel
theorem dX6_reads_12 : decode cX6_reads 12 = .ok (.iload_n 1, 1) := by decide +kernel
theorem dX6_reads_13 : decode cX6_reads 13 = .ok (.ifCond .eq 32, 3) := by decide +kernel
theorem dX6_reads_16 : decode cX6_reads 16 = .ok (.aload_n 0, 1) := by decide +kernel
theorem dX6_reads_17 : decode cX6_reads 17 = .ok (.invokevirtual 162, 3) := by decide +kernel
theorem dX6_reads_20 : decode cX6_reads 20 = .ok (.ifCond .ne 5, 3) := by decide +kernel
theorem dX6_reads_23 : decode cX6_reads 23 = .ok (.iconst 0, 1) := by decide +kernel
theorem dX6_reads_24 : decode cX6_reads 24 = .ok (.ireturn, 1) := by decide +kernel
theorem dX6_reads_25 : decode cX6_reads 25 = .ok (.aload_n 0, 1) := by decide +kernel
theorem dX6_reads_26 : decode cX6_reads 26 = .ok (.dup, 1) := by decide +kernel
theorem dX6_reads_27 : decode cX6_reads 27 = .ok (.getfield 149, 3) := by decide +kernel
theorem dX6_reads_30 : decode cX6_reads 30 = .ok (.iconst 1, 1) := by decide +kernel
theorem dX6_reads_31 : decode cX6_reads 31 = .ok (.iadd, 1) := by decide +kernel
theorem dX6_reads_32 : decode cX6_reads 32 = .ok (.putfield 149, 3) := by decide +kernel
theorem dX6_reads_35 : decode cX6_reads 35 = .ok (.aload_n 0, 1) := by decide +kernel
theorem dX6_reads_36 : decode cX6_reads 36 = .ok (.bipush 59, 2) := by decide +kernel
theorem dX6_reads_38 : decode cX6_reads 38 = .ok (.invokevirtual 146, 3) := by decide +kernel
theorem dX6_reads_41 : decode cX6_reads 41 = .ok (.istore_n 1, 1) := by decide +kernel
theorem dX6_reads_42 : decode cX6_reads 42 = .ok (.goto (-30), 3) := by decide +kernel
theorem dX6_reads_45 : decode cX6_reads 45 = .ok (.aload_n 0, 1) := by decide +kernel
theorem dX6_reads_46 : decode cX6_reads 46 = .ok (.getfield 140, 3) := by decide +kernel
theorem dX6_reads_49 : decode cX6_reads 49 = .ok (.aload_n 0, 1) := by decide +kernel
theorem dX6_reads_50 : decode cX6_reads 50 = .ok (.getfield 137, 3) := by decide +kernel
theorem dX6_reads_53 : decode cX6_reads 53 = .ok (.if_icmp .ne 7, 3) := by decide +kernel
theorem dX6_reads_56 : decode cX6_reads 56 = .ok (.iconst 1, 1) := by decide +kernel
theorem dX6_reads_57 : decode cX6_reads 57 = .ok (.goto 4, 3) := by decide +kernel
theorem dX6_reads_60 : decode cX6_reads 60 = .ok (.iconst 0, 1) := by decide +kernel
theorem dX6_reads_61 : decode cX6_reads 61 = .ok (.ireturn, 1) := by decide +kernel
theorem dX6_does_0 : decode cX6_does 0 = .ok (.aload_n 0, 1) := by decide +kernel
theorem dX6_does_1 : decode cX6_does 1 = .ok (.getfield 25, 3) := by decide +kernel
theorem dX6_does_4 : decode cX6_does 4 = .ok (.iconst 3, 1) := by decide +kernel
theorem dX6_does_5 : decode cX6_does 5 = .ok (.iload_n 1, 1) := by decide +kernel
theorem dX6_does_6 : decode cX6_does 6 = .ok (.imul, 1) := by decide +kernel
theorem dX6_does_7 : decode cX6_does 7 = .ok (.iconst 1, 1) := by decide +kernel
theorem dX6_does_8 : decode cX6_does 8 = .ok (.iadd, 1) := by decide +kernel
theorem dX6_does_9 : decode cX6_does 9 = .ok (.iaload, 1) := by decide +kernel
theorem dX6_does_10 : decode cX6_does 10 = .ok (.istore_n 2, 1) := by decide +kernel
theorem dX6_does_11 : decode cX6_does 11 = .ok (.aload_n 0, 1) := by decide +kernel
theorem dX6_does_12 : decode cX6_does 12 = .ok (.getfield 25, 3) := by decide +kernel
theorem dX6_does_15 : decode cX6_does 15 = .ok (.iconst 3, 1) := by decide +kernel
theorem dX6_does_16 : decode cX6_does 16 = .ok (.iload_n 1, 1) := by decide +kernel
theorem dX6_does_17 : decode cX6_does 17 = .ok (.imul, 1) := by decide +kernel
theorem dX6_does_18 : decode cX6_does 18 = .ok (.iconst 2, 1) := by decide +kernel
theorem dX6_does_19 : decode cX6_does 19 = .ok (.iadd, 1) := by decide +kernel
theorem dX6_does_20 : decode cX6_does 20 = .ok (.iaload, 1) := by decide +kernel
theorem dX6_does_21 : decode cX6_does 21 = .ok (.istore_n 3, 1) := by decide +kernel
theorem dX6_does_22 : decode cX6_does 22 = .ok (.aload_n 0, 1) := by decide +kernel
theorem dX6_does_23 : decode cX6_does 23 = .ok (.getfield 25, 3) := by decide +kernel
theorem dX6_does_26 : decode cX6_does 26 = .ok (.iconst 3, 1) := by decide +kernel
theorem dX6_does_27 : decode cX6_does 27 = .ok (.iload_n 1, 1) := by decide +kernel
theorem dX6_does_28 : decode cX6_does 28 = .ok (.imul, 1) := by decide +kernel
theorem dX6_does_29 : decode cX6_does 29 = .ok (.iaload, 1) := by decide +kernel
theorem dX6_does_30 : decode cX6_does 30 = .ok (.tableswitch 56 0 3 #[30, 37, 43, 50], 30) := by decide +kernel
theorem dX6_does_60 : decode cX6_does 60 = .ok (.aload_n 0, 1) := by decide +kernel
theorem dX6_does_61 : decode cX6_does 61 = .ok (.iload_n 2, 1) := by decide +kernel
theorem dX6_does_62 : decode cX6_does 62 = .ok (.iload_n 3, 1) := by decide +kernel
theorem dX6_does_63 : decode cX6_does 63 = .ok (.invokevirtual 71, 3) := by decide +kernel
theorem dX6_does_66 : decode cX6_does 66 = .ok (.ireturn, 1) := by decide +kernel
theorem dX6_does_67 : decode cX6_does 67 = .ok (.aload_n 0, 1) := by decide +kernel
theorem dX6_does_68 : decode cX6_does 68 = .ok (.iload_n 2, 1) := by decide +kernel
theorem dX6_does_69 : decode cX6_does 69 = .ok (.invokevirtual 113, 3) := by decide +kernel
theorem dX6_does_72 : decode cX6_does 72 = .ok (.ireturn, 1) := by decide +kernel
theorem dX6_does_73 : decode cX6_does 73 = .ok (.aload_n 0, 1) := by decide +kernel
theorem dX6_does_74 : decode cX6_does 74 = .ok (.iload_n 2, 1) := by decide +kernel
theorem dX6_does_75 : decode cX6_does 75 = .ok (.iload_n 3, 1) := by decide +kernel
theorem dX6_does_76 : decode cX6_does 76 = .ok (.invokevirtual 125, 3) := by decide +kernel
theorem dX6_does_79 : decode cX6_does 79 = .ok (.ireturn, 1) := by decide +kernel
theorem dX6_does_80 : decode cX6_does 80 = .ok (.aload_n 0, 1) := by decide +kernel
theorem dX6_does_81 : decode cX6_does 81 = .ok (.iload_n 2, 1) := by decide +kernel
theorem dX6_does_82 : decode cX6_does 82 = .ok (.invokevirtual 110, 3) := by decide +kernel
theorem dX6_does_85 : decode cX6_does 85 = .ok (.ireturn, 1) := by decide +kernel
theorem dX6_does_86 : decode cX6_does 86 = .ok (.aload_n 0, 1) := by decide +kernel
theorem dX6_does_87 : decode cX6_does 87 = .ok (.iload_n 2, 1) := by decide +kernel
theorem dX6_does_88 : decode cX6_does 88 = .ok (.invokevirtual 90, 3) := by decide +kernel
theorem dX6_does_91 : decode cX6_does 91 = .ok (.ireturn, 1) := by decide +kernel
theorem dX6_run_0 : decode cX6_run 0 = .ok (.aload_n 0, 1) := by decide +kernel
theorem dX6_run_1 : decode cX6_run 1 = .ok (.invokevirtual 165, 3) := by decide +kernel
theorem dX6_run_4 : decode cX6_run 4 = .ok (.ifCond .ne 11, 3) := by decide +kernel
theorem dX6_run_7 : decode cX6_run 7 = .ok (.bipush (-100), 2) := by decide +kernel
theorem dX6_run_9 : decode cX6_run 9 = .ok (.aload_n 0, 1) := by decide +kernel
theorem dX6_run_10 : decode cX6_run 10 = .ok (.getfield 140, 3) := by decide +kernel
theorem dX6_run_13 : decode cX6_run 13 = .ok (.isub, 1) := by decide +kernel
theorem dX6_run_14 : decode cX6_run 14 = .ok (.ireturn, 1) := by decide +kernel
theorem dX6_run_15 : decode cX6_run 15 = .ok (.aload_n 0, 1) := by decide +kernel
theorem dX6_run_16 : decode cX6_run 16 = .ok (.getfield 7, 3) := by decide +kernel
theorem dX6_run_19 : decode cX6_run 19 = .ok (.aload_n 0, 1) := by decide +kernel
theorem dX6_run_20 : decode cX6_run 20 = .ok (.getfield 13, 3) := by decide +kernel
theorem dX6_run_23 : decode cX6_run 23 = .ok (.invokestatic 67, 3) := by decide +kernel
theorem dX6_run_26 : decode cX6_run 26 = .ok (.iconst 0, 1) := by decide +kernel
theorem dX6_run_27 : decode cX6_run 27 = .ok (.istore_n 1, 1) := by decide +kernel
theorem dX6_run_28 : decode cX6_run 28 = .ok (.iload_n 1, 1) := by decide +kernel
theorem dX6_run_29 : decode cX6_run 29 = .ok (.aload_n 0, 1) := by decide +kernel
theorem dX6_run_30 : decode cX6_run 30 = .ok (.getfield 149, 3) := by decide +kernel
theorem dX6_run_33 : decode cX6_run 33 = .ok (.if_icmp .ge 46, 3) := by decide +kernel
theorem dX6_run_36 : decode cX6_run 36 = .ok (.aload_n 0, 1) := by decide +kernel
theorem dX6_run_37 : decode cX6_run 37 = .ok (.iload_n 1, 1) := by decide +kernel
theorem dX6_run_38 : decode cX6_run 38 = .ok (.invokevirtual 168, 3) := by decide +kernel
theorem dX6_run_41 : decode cX6_run 41 = .ok (.istore_n 2, 1) := by decide +kernel
theorem dX6_run_42 : decode cX6_run 42 = .ok (.iload_n 2, 1) := by decide +kernel
theorem dX6_run_43 : decode cX6_run 43 = .ok (.sipush (-20001), 3) := by decide +kernel
theorem dX6_run_46 : decode cX6_run 46 = .ok (.if_icmp .eq 10, 3) := by decide +kernel
theorem dX6_run_49 : decode cX6_run 49 = .ok (.iload_n 2, 1) := by decide +kernel
theorem dX6_run_50 : decode cX6_run 50 = .ok (.sipush (-20002), 3) := by decide +kernel
theorem dX6_run_53 : decode cX6_run 53 = .ok (.if_icmp .ne 20, 3) := by decide +kernel
theorem dX6_run_56 : decode cX6_run 56 = .ok (.aload_n 0, 1) := by decide +kernel
theorem dX6_run_57 : decode cX6_run 57 = .ok (.getfield 13, 3) := by decide +kernel
theorem dX6_run_60 : decode cX6_run 60 = .ok (.aload_n 0, 1) := by decide +kernel
theorem dX6_run_61 : decode cX6_run 61 = .ok (.getfield 7, 3) := by decide +kernel
theorem dX6_run_64 : decode cX6_run 64 = .ok (.invokestatic 67, 3) := by decide +kernel
theorem dX6_run_67 : decode cX6_run 67 = .ok (.sipush (-1000), 3) := by decide +kernel
theorem dX6_run_70 : decode cX6_run 70 = .ok (.iload_n 1, 1) := by decide +kernel
theorem dX6_run_71 : decode cX6_run 71 = .ok (.isub, 1) := by decide +kernel
theorem dX6_run_72 : decode cX6_run 72 = .ok (.ireturn, 1) := by decide +kernel
theorem dX6_run_73 : decode cX6_run 73 = .ok (.iinc 1 1, 3) := by decide +kernel
theorem dX6_run_76 : decode cX6_run 76 = .ok (.goto (-48), 3) := by decide +kernel
theorem dX6_run_79 : decode cX6_run 79 = .ok (.aload_n 0, 1) := by decide +kernel
theorem dX6_run_80 : decode cX6_run 80 = .ok (.aload_n 0, 1) := by decide +kernel
theorem dX6_run_81 : decode cX6_run 81 = .ok (.getfield 13, 3) := by decide +kernel
theorem dX6_run_84 : decode cX6_run 84 = .ok (.invokevirtual 40, 3) := by decide +kernel
theorem dX6_run_87 : decode cX6_run 87 = .ok (.aload_n 0, 1) := by decide +kernel
theorem dX6_run_88 : decode cX6_run 88 = .ok (.iconst 0, 1) := by decide +kernel
theorem dX6_run_89 : decode cX6_run 89 = .ok (.putfield 137, 3) := by decide +kernel
theorem dX6_run_92 : decode cX6_run 92 = .ok (.aload_n 0, 1) := by decide +kernel
theorem dX6_run_93 : decode cX6_run 93 = .ok (.getfield 149, 3) := by decide +kernel
theorem dX6_run_96 : decode cX6_run 96 = .ok (.ireturn, 1) := by decide +kernel
theorem dX6_undo_0 : decode cX6_undo 0 = .ok (.aload_n 0, 1) := by decide +kernel
theorem dX6_undo_1 : decode cX6_undo 1 = .ok (.getfield 28, 3) := by decide +kernel
theorem dX6_undo_4 : decode cX6_undo 4 = .ok (.ifCond .ne 7, 3) := by decide +kernel
theorem dX6_undo_7 : decode cX6_undo 7 = .ok (.sipush (-20009), 3) := by decide +kernel
theorem dX6_undo_10 : decode cX6_undo 10 = .ok (.ireturn, 1) := by decide +kernel
theorem dX6_undo_11 : decode cX6_undo 11 = .ok (.aload_n 0, 1) := by decide +kernel
theorem dX6_undo_12 : decode cX6_undo 12 = .ok (.dup, 1) := by decide +kernel
theorem dX6_undo_13 : decode cX6_undo 13 = .ok (.getfield 28, 3) := by decide +kernel
theorem dX6_undo_16 : decode cX6_undo 16 = .ok (.iconst 1, 1) := by decide +kernel
theorem dX6_undo_17 : decode cX6_undo 17 = .ok (.isub, 1) := by decide +kernel
theorem dX6_undo_18 : decode cX6_undo 18 = .ok (.putfield 28, 3) := by decide +kernel
theorem dX6_undo_21 : decode cX6_undo 21 = .ok (.iconst 0, 1) := by decide +kernel
theorem dX6_undo_22 : decode cX6_undo 22 = .ok (.istore_n 1, 1) := by decide +kernel
theorem dX6_undo_23 : decode cX6_undo 23 = .ok (.iload_n 1, 1) := by decide +kernel
theorem dX6_undo_24 : decode cX6_undo 24 = .ok (.sipush 1080, 3) := by decide +kernel
theorem dX6_undo_27 : decode cX6_undo 27 = .ok (.if_icmp .ge 30, 3) := by decide +kernel
theorem dX6_undo_30 : decode cX6_undo 30 = .ok (.aload_n 0, 1) := by decide +kernel
theorem dX6_undo_31 : decode cX6_undo 31 = .ok (.getfield 7, 3) := by decide +kernel
theorem dX6_undo_34 : decode cX6_undo 34 = .ok (.iload_n 1, 1) := by decide +kernel
theorem dX6_undo_35 : decode cX6_undo 35 = .ok (.aload_n 0, 1) := by decide +kernel
theorem dX6_undo_36 : decode cX6_undo 36 = .ok (.getfield 16, 3) := by decide +kernel
theorem dX6_undo_39 : decode cX6_undo 39 = .ok (.sipush 1080, 3) := by decide +kernel
theorem dX6_undo_42 : decode cX6_undo 42 = .ok (.aload_n 0, 1) := by decide +kernel
theorem dX6_undo_43 : decode cX6_undo 43 = .ok (.getfield 28, 3) := by decide +kernel
theorem dX6_undo_46 : decode cX6_undo 46 = .ok (.imul, 1) := by decide +kernel
theorem dX6_undo_47 : decode cX6_undo 47 = .ok (.iload_n 1, 1) := by decide +kernel
theorem dX6_undo_48 : decode cX6_undo 48 = .ok (.iadd, 1) := by decide +kernel
theorem dX6_undo_49 : decode cX6_undo 49 = .ok (.iaload, 1) := by decide +kernel
theorem dX6_undo_50 : decode cX6_undo 50 = .ok (.iastore, 1) := by decide +kernel
theorem dX6_undo_51 : decode cX6_undo 51 = .ok (.iinc 1 1, 3) := by decide +kernel
theorem dX6_undo_54 : decode cX6_undo 54 = .ok (.goto (-31), 3) := by decide +kernel
theorem dX6_undo_57 : decode cX6_undo 57 = .ok (.aload_n 0, 1) := by decide +kernel
theorem dX6_undo_58 : decode cX6_undo 58 = .ok (.getfield 28, 3) := by decide +kernel
theorem dX6_undo_61 : decode cX6_undo 61 = .ok (.ireturn, 1) := by decide +kernel
theorem dX6_fingerprint_0 : decode cX6_fingerprint 0 = .ok (.ldc2_w 171, 3) := by decide +kernel
theorem dX6_fingerprint_3 : decode cX6_fingerprint 3 = .ok (.lstore_n 1, 1) := by decide +kernel
theorem dX6_fingerprint_4 : decode cX6_fingerprint 4 = .ok (.iconst 0, 1) := by decide +kernel
theorem dX6_fingerprint_5 : decode cX6_fingerprint 5 = .ok (.istore_n 3, 1) := by decide +kernel
theorem dX6_fingerprint_6 : decode cX6_fingerprint 6 = .ok (.iload_n 3, 1) := by decide +kernel
theorem dX6_fingerprint_7 : decode cX6_fingerprint 7 = .ok (.iconst 5, 1) := by decide +kernel
theorem dX6_fingerprint_8 : decode cX6_fingerprint 8 = .ok (.if_icmp .ge 77, 3) := by decide +kernel
theorem dX6_fingerprint_11 : decode cX6_fingerprint 11 = .ok (.ldc2_w 173, 3) := by decide +kernel
theorem dX6_fingerprint_14 : decode cX6_fingerprint 14 = .ok (.lload_n 1, 1) := by decide +kernel
theorem dX6_fingerprint_15 : decode cX6_fingerprint 15 = .ok (.lmul, 1) := by decide +kernel
theorem dX6_fingerprint_16 : decode cX6_fingerprint 16 = .ok (.iload_n 3, 1) := by decide +kernel
theorem dX6_fingerprint_17 : decode cX6_fingerprint 17 = .ok (.ifCond .ne 12, 3) := by decide +kernel
theorem dX6_fingerprint_20 : decode cX6_fingerprint 20 = .ok (.aload_n 0, 1) := by decide +kernel
theorem dX6_fingerprint_21 : decode cX6_fingerprint 21 = .ok (.getfield 7, 3) := by decide +kernel
theorem dX6_fingerprint_24 : decode cX6_fingerprint 24 = .ok (.iconst 1, 1) := by decide +kernel
theorem dX6_fingerprint_25 : decode cX6_fingerprint 25 = .ok (.iaload, 1) := by decide +kernel
theorem dX6_fingerprint_26 : decode cX6_fingerprint 26 = .ok (.goto 50, 3) := by decide +kernel
theorem dX6_fingerprint_29 : decode cX6_fingerprint 29 = .ok (.iload_n 3, 1) := by decide +kernel
theorem dX6_fingerprint_30 : decode cX6_fingerprint 30 = .ok (.iconst 1, 1) := by decide +kernel
theorem dX6_fingerprint_31 : decode cX6_fingerprint 31 = .ok (.if_icmp .ne 12, 3) := by decide +kernel
theorem dX6_fingerprint_34 : decode cX6_fingerprint 34 = .ok (.aload_n 0, 1) := by decide +kernel
theorem dX6_fingerprint_35 : decode cX6_fingerprint 35 = .ok (.getfield 7, 3) := by decide +kernel
theorem dX6_fingerprint_38 : decode cX6_fingerprint 38 = .ok (.iconst 2, 1) := by decide +kernel
theorem dX6_fingerprint_39 : decode cX6_fingerprint 39 = .ok (.iaload, 1) := by decide +kernel
theorem dX6_fingerprint_40 : decode cX6_fingerprint 40 = .ok (.goto 36, 3) := by decide +kernel
theorem dX6_fingerprint_43 : decode cX6_fingerprint 43 = .ok (.iload_n 3, 1) := by decide +kernel
theorem dX6_fingerprint_44 : decode cX6_fingerprint 44 = .ok (.iconst 2, 1) := by decide +kernel
theorem dX6_fingerprint_45 : decode cX6_fingerprint 45 = .ok (.if_icmp .ne 12, 3) := by decide +kernel
theorem dX6_fingerprint_48 : decode cX6_fingerprint 48 = .ok (.aload_n 0, 1) := by decide +kernel
theorem dX6_fingerprint_49 : decode cX6_fingerprint 49 = .ok (.getfield 7, 3) := by decide +kernel
theorem dX6_fingerprint_52 : decode cX6_fingerprint 52 = .ok (.iconst 3, 1) := by decide +kernel
theorem dX6_fingerprint_53 : decode cX6_fingerprint 53 = .ok (.iaload, 1) := by decide +kernel
theorem dX6_fingerprint_54 : decode cX6_fingerprint 54 = .ok (.goto 22, 3) := by decide +kernel
theorem dX6_fingerprint_57 : decode cX6_fingerprint 57 = .ok (.iload_n 3, 1) := by decide +kernel
theorem dX6_fingerprint_58 : decode cX6_fingerprint 58 = .ok (.iconst 3, 1) := by decide +kernel
theorem dX6_fingerprint_59 : decode cX6_fingerprint 59 = .ok (.if_icmp .ne 10, 3) := by decide +kernel
theorem dX6_fingerprint_62 : decode cX6_fingerprint 62 = .ok (.aload_n 0, 1) := by decide +kernel
theorem dX6_fingerprint_63 : decode cX6_fingerprint 63 = .ok (.invokevirtual 103, 3) := by decide +kernel
theorem dX6_fingerprint_66 : decode cX6_fingerprint 66 = .ok (.goto 10, 3) := by decide +kernel
theorem dX6_fingerprint_69 : decode cX6_fingerprint 69 = .ok (.aload_n 0, 1) := by decide +kernel
theorem dX6_fingerprint_70 : decode cX6_fingerprint 70 = .ok (.getfield 7, 3) := by decide +kernel
theorem dX6_fingerprint_73 : decode cX6_fingerprint 73 = .ok (.bipush 8, 2) := by decide +kernel
theorem dX6_fingerprint_75 : decode cX6_fingerprint 75 = .ok (.iaload, 1) := by decide +kernel
theorem dX6_fingerprint_76 : decode cX6_fingerprint 76 = .ok (.i2l, 1) := by decide +kernel
theorem dX6_fingerprint_77 : decode cX6_fingerprint 77 = .ok (.ladd, 1) := by decide +kernel
theorem dX6_fingerprint_78 : decode cX6_fingerprint 78 = .ok (.lstore_n 1, 1) := by decide +kernel
theorem dX6_fingerprint_79 : decode cX6_fingerprint 79 = .ok (.iinc 3 1, 3) := by decide +kernel
theorem dX6_fingerprint_82 : decode cX6_fingerprint 82 = .ok (.goto (-76), 3) := by decide +kernel
theorem dX6_fingerprint_85 : decode cX6_fingerprint 85 = .ok (.ldc2_w 173, 3) := by decide +kernel
theorem dX6_fingerprint_88 : decode cX6_fingerprint 88 = .ok (.lload_n 1, 1) := by decide +kernel
theorem dX6_fingerprint_89 : decode cX6_fingerprint 89 = .ok (.lmul, 1) := by decide +kernel
theorem dX6_fingerprint_90 : decode cX6_fingerprint 90 = .ok (.aload_n 0, 1) := by decide +kernel
theorem dX6_fingerprint_91 : decode cX6_fingerprint 91 = .ok (.getfield 7, 3) := by decide +kernel
theorem dX6_fingerprint_94 : decode cX6_fingerprint 94 = .ok (.iconst 0, 1) := by decide +kernel
theorem dX6_fingerprint_95 : decode cX6_fingerprint 95 = .ok (.iaload, 1) := by decide +kernel
theorem dX6_fingerprint_96 : decode cX6_fingerprint 96 = .ok (.i2l, 1) := by decide +kernel
theorem dX6_fingerprint_97 : decode cX6_fingerprint 97 = .ok (.ladd, 1) := by decide +kernel
theorem dX6_fingerprint_98 : decode cX6_fingerprint 98 = .ok (.lstore_n 1, 1) := by decide +kernel
theorem dX6_fingerprint_99 : decode cX6_fingerprint 99 = .ok (.iconst 0, 1) := by decide +kernel
theorem dX6_fingerprint_100 : decode cX6_fingerprint 100 = .ok (.istore_n 3, 1) := by decide +kernel
theorem dX6_fingerprint_101 : decode cX6_fingerprint 101 = .ok (.iload_n 3, 1) := by decide +kernel
theorem dX6_fingerprint_102 : decode cX6_fingerprint 102 = .ok (.aload_n 0, 1) := by decide +kernel
theorem dX6_fingerprint_103 : decode cX6_fingerprint 103 = .ok (.getfield 7, 3) := by decide +kernel
theorem dX6_fingerprint_106 : decode cX6_fingerprint 106 = .ok (.iconst 0, 1) := by decide +kernel
theorem dX6_fingerprint_107 : decode cX6_fingerprint 107 = .ok (.iaload, 1) := by decide +kernel
theorem dX6_fingerprint_108 : decode cX6_fingerprint 108 = .ok (.if_icmp .ge 40, 3) := by decide +kernel
theorem dX6_fingerprint_111 : decode cX6_fingerprint 111 = .ok (.iconst 0, 1) := by decide +kernel
theorem dX6_fingerprint_112 : decode cX6_fingerprint 112 = .ok (.istore 4, 2) := by decide +kernel
theorem dX6_fingerprint_114 : decode cX6_fingerprint 114 = .ok (.iload 4, 2) := by decide +kernel
theorem dX6_fingerprint_116 : decode cX6_fingerprint 116 = .ok (.bipush 16, 2) := by decide +kernel
theorem dX6_fingerprint_118 : decode cX6_fingerprint 118 = .ok (.if_icmp .ge 24, 3) := by decide +kernel
theorem dX6_fingerprint_121 : decode cX6_fingerprint 121 = .ok (.ldc2_w 173, 3) := by decide +kernel
theorem dX6_fingerprint_124 : decode cX6_fingerprint 124 = .ok (.lload_n 1, 1) := by decide +kernel
theorem dX6_fingerprint_125 : decode cX6_fingerprint 125 = .ok (.lmul, 1) := by decide +kernel
theorem dX6_fingerprint_126 : decode cX6_fingerprint 126 = .ok (.aload_n 0, 1) := by decide +kernel
theorem dX6_fingerprint_127 : decode cX6_fingerprint 127 = .ok (.iload_n 3, 1) := by decide +kernel
theorem dX6_fingerprint_128 : decode cX6_fingerprint 128 = .ok (.iload 4, 2) := by decide +kernel
theorem dX6_fingerprint_130 : decode cX6_fingerprint 130 = .ok (.invokevirtual 87, 3) := by decide +kernel
theorem dX6_fingerprint_133 : decode cX6_fingerprint 133 = .ok (.i2l, 1) := by decide +kernel
theorem dX6_fingerprint_134 : decode cX6_fingerprint 134 = .ok (.ladd, 1) := by decide +kernel
theorem dX6_fingerprint_135 : decode cX6_fingerprint 135 = .ok (.lstore_n 1, 1) := by decide +kernel
theorem dX6_fingerprint_136 : decode cX6_fingerprint 136 = .ok (.iinc 4 1, 3) := by decide +kernel
theorem dX6_fingerprint_139 : decode cX6_fingerprint 139 = .ok (.goto (-25), 3) := by decide +kernel
theorem dX6_fingerprint_142 : decode cX6_fingerprint 142 = .ok (.iinc 3 1, 3) := by decide +kernel
theorem dX6_fingerprint_145 : decode cX6_fingerprint 145 = .ok (.goto (-44), 3) := by decide +kernel
theorem dX6_fingerprint_148 : decode cX6_fingerprint 148 = .ok (.ldc2_w 173, 3) := by decide +kernel
theorem dX6_fingerprint_151 : decode cX6_fingerprint 151 = .ok (.lload_n 1, 1) := by decide +kernel
theorem dX6_fingerprint_152 : decode cX6_fingerprint 152 = .ok (.lmul, 1) := by decide +kernel
theorem dX6_fingerprint_153 : decode cX6_fingerprint 153 = .ok (.aload_n 0, 1) := by decide +kernel
theorem dX6_fingerprint_154 : decode cX6_fingerprint 154 = .ok (.getfield 7, 3) := by decide +kernel
theorem dX6_fingerprint_157 : decode cX6_fingerprint 157 = .ok (.bipush 9, 2) := by decide +kernel
theorem dX6_fingerprint_159 : decode cX6_fingerprint 159 = .ok (.iaload, 1) := by decide +kernel
theorem dX6_fingerprint_160 : decode cX6_fingerprint 160 = .ok (.i2l, 1) := by decide +kernel
theorem dX6_fingerprint_161 : decode cX6_fingerprint 161 = .ok (.ladd, 1) := by decide +kernel
theorem dX6_fingerprint_162 : decode cX6_fingerprint 162 = .ok (.lstore_n 1, 1) := by decide +kernel
theorem dX6_fingerprint_163 : decode cX6_fingerprint 163 = .ok (.iconst 0, 1) := by decide +kernel
theorem dX6_fingerprint_164 : decode cX6_fingerprint 164 = .ok (.istore_n 3, 1) := by decide +kernel
theorem dX6_fingerprint_165 : decode cX6_fingerprint 165 = .ok (.iload_n 3, 1) := by decide +kernel
theorem dX6_fingerprint_166 : decode cX6_fingerprint 166 = .ok (.bipush 30, 2) := by decide +kernel
theorem dX6_fingerprint_168 : decode cX6_fingerprint 168 = .ok (.if_icmp .ge 50, 3) := by decide +kernel
theorem dX6_fingerprint_171 : decode cX6_fingerprint 171 = .ok (.iload_n 3, 1) := by decide +kernel
theorem dX6_fingerprint_172 : decode cX6_fingerprint 172 = .ok (.aload_n 0, 1) := by decide +kernel
theorem dX6_fingerprint_173 : decode cX6_fingerprint 173 = .ok (.getfield 7, 3) := by decide +kernel
theorem dX6_fingerprint_176 : decode cX6_fingerprint 176 = .ok (.bipush 9, 2) := by decide +kernel
theorem dX6_fingerprint_178 : decode cX6_fingerprint 178 = .ok (.iaload, 1) := by decide +kernel
theorem dX6_fingerprint_179 : decode cX6_fingerprint 179 = .ok (.if_icmp .ge 39, 3) := by decide +kernel
theorem dX6_fingerprint_182 : decode cX6_fingerprint 182 = .ok (.iconst 0, 1) := by decide +kernel
theorem dX6_fingerprint_183 : decode cX6_fingerprint 183 = .ok (.istore 4, 2) := by decide +kernel
theorem dX6_fingerprint_185 : decode cX6_fingerprint 185 = .ok (.iload 4, 2) := by decide +kernel
theorem dX6_fingerprint_187 : decode cX6_fingerprint 187 = .ok (.iconst 3, 1) := by decide +kernel
theorem dX6_fingerprint_188 : decode cX6_fingerprint 188 = .ok (.if_icmp .ge 24, 3) := by decide +kernel
theorem dX6_fingerprint_191 : decode cX6_fingerprint 191 = .ok (.ldc2_w 173, 3) := by decide +kernel
theorem dX6_fingerprint_194 : decode cX6_fingerprint 194 = .ok (.lload_n 1, 1) := by decide +kernel
theorem dX6_fingerprint_195 : decode cX6_fingerprint 195 = .ok (.lmul, 1) := by decide +kernel
theorem dX6_fingerprint_196 : decode cX6_fingerprint 196 = .ok (.aload_n 0, 1) := by decide +kernel
theorem dX6_fingerprint_197 : decode cX6_fingerprint 197 = .ok (.iload_n 3, 1) := by decide +kernel
theorem dX6_fingerprint_198 : decode cX6_fingerprint 198 = .ok (.iload 4, 2) := by decide +kernel
theorem dX6_fingerprint_200 : decode cX6_fingerprint 200 = .ok (.invokevirtual 131, 3) := by decide +kernel
theorem dX6_fingerprint_203 : decode cX6_fingerprint 203 = .ok (.i2l, 1) := by decide +kernel
theorem dX6_fingerprint_204 : decode cX6_fingerprint 204 = .ok (.ladd, 1) := by decide +kernel
theorem dX6_fingerprint_205 : decode cX6_fingerprint 205 = .ok (.lstore_n 1, 1) := by decide +kernel
theorem dX6_fingerprint_206 : decode cX6_fingerprint 206 = .ok (.iinc 4 1, 3) := by decide +kernel
theorem dX6_fingerprint_209 : decode cX6_fingerprint 209 = .ok (.goto (-24), 3) := by decide +kernel
theorem dX6_fingerprint_212 : decode cX6_fingerprint 212 = .ok (.iinc 3 1, 3) := by decide +kernel
theorem dX6_fingerprint_215 : decode cX6_fingerprint 215 = .ok (.goto (-50), 3) := by decide +kernel
theorem dX6_fingerprint_218 : decode cX6_fingerprint 218 = .ok (.lload_n 1, 1) := by decide +kernel
theorem dX6_fingerprint_219 : decode cX6_fingerprint 219 = .ok (.lreturn, 1) := by decide +kernel
