theorem dX4_init_0 : decode cX4_init 0 = .ok (.aload_n 0, 1) := by decide +kernel
theorem dX4_init_1 : decode cX4_init 1 = .ok (.invokespecial 3, 3) := by decide +kernel
theorem dX4_init_4 : decode cX4_init 4 = .ok (.aload_n 0, 1) := by decide +kernel
theorem dX4_init_5 : decode cX4_init 5 = .ok (.bipush 16, 2) := by decide +kernel
theorem dX4_init_7 : decode cX4_init 7 = .ok (.anewarray 9, 3) := by decide +kernel
theorem dX4_init_10 : decode cX4_init 10 = .ok (.putfield 11, 3) := by decide +kernel
theorem dX4_init_13 : decode cX4_init 13 = .ok (.aload_n 0, 1) := by decide +kernel
theorem dX4_init_14 : decode cX4_init 14 = .ok (.new 17, 3) := by decide +kernel
theorem dX4_init_17 : decode cX4_init 17 = .ok (.dup, 1) := by decide +kernel
theorem dX4_init_18 : decode cX4_init 18 = .ok (.invokespecial 19, 3) := by decide +kernel
theorem dX4_init_21 : decode cX4_init 21 = .ok (.putfield 20, 3) := by decide +kernel
theorem dX4_init_24 : decode cX4_init 24 = .ok (.aload_n 0, 1) := by decide +kernel
theorem dX4_init_25 : decode cX4_init 25 = .ok (.new 24, 3) := by decide +kernel
theorem dX4_init_28 : decode cX4_init 28 = .ok (.dup, 1) := by decide +kernel
theorem dX4_init_29 : decode cX4_init 29 = .ok (.invokespecial 26, 3) := by decide +kernel
theorem dX4_init_32 : decode cX4_init 32 = .ok (.putfield 27, 3) := by decide +kernel
theorem dX4_init_35 : decode cX4_init 35 = .ok (.iconst 0, 1) := by decide +kernel
theorem dX4_init_36 : decode cX4_init 36 = .ok (.istore_n 1, 1) := by decide +kernel
theorem dX4_init_37 : decode cX4_init 37 = .ok (.iload_n 1, 1) := by decide +kernel
theorem dX4_init_38 : decode cX4_init 38 = .ok (.bipush 16, 2) := by decide +kernel
theorem dX4_init_40 : decode cX4_init 40 = .ok (.if_icmp .ge 22, 3) := by decide +kernel
theorem dX4_init_43 : decode cX4_init 43 = .ok (.aload_n 0, 1) := by decide +kernel
theorem dX4_init_44 : decode cX4_init 44 = .ok (.getfield 11, 3) := by decide +kernel
theorem dX4_init_47 : decode cX4_init 47 = .ok (.iload_n 1, 1) := by decide +kernel
theorem dX4_init_48 : decode cX4_init 48 = .ok (.new 9, 3) := by decide +kernel
theorem dX4_init_51 : decode cX4_init 51 = .ok (.dup, 1) := by decide +kernel
theorem dX4_init_52 : decode cX4_init 52 = .ok (.invokespecial 31, 3) := by decide +kernel
theorem dX4_init_55 : decode cX4_init 55 = .ok (.aastore, 1) := by decide +kernel
theorem dX4_init_56 : decode cX4_init 56 = .ok (.iinc 1 1, 3) := by decide +kernel
theorem dX4_init_59 : decode cX4_init 59 = .ok (.goto (-22), 3) := by decide +kernel
theorem dX4_init_62 : decode cX4_init 62 = .ok (.return_, 1) := by decide +kernel
theorem dX4_copyFrom_0 : decode cX4_copyFrom 0 = .ok (.iconst 0, 1) := by decide +kernel
theorem dX4_copyFrom_1 : decode cX4_copyFrom 1 = .ok (.istore_n 2, 1) := by decide +kernel
theorem dX4_copyFrom_2 : decode cX4_copyFrom 2 = .ok (.iload_n 2, 1) := by decide +kernel
theorem dX4_copyFrom_3 : decode cX4_copyFrom 3 = .ok (.aload_n 1, 1) := by decide +kernel
theorem dX4_copyFrom_4 : decode cX4_copyFrom 4 = .ok (.getfield 32, 3) := by decide +kernel
theorem dX4_copyFrom_7 : decode cX4_copyFrom 7 = .ok (.if_icmp .ge 24, 3) := by decide +kernel
theorem dX4_copyFrom_10 : decode cX4_copyFrom 10 = .ok (.aload_n 0, 1) := by decide +kernel
theorem dX4_copyFrom_11 : decode cX4_copyFrom 11 = .ok (.getfield 11, 3) := by decide +kernel
theorem dX4_copyFrom_14 : decode cX4_copyFrom 14 = .ok (.iload_n 2, 1) := by decide +kernel
theorem dX4_copyFrom_15 : decode cX4_copyFrom 15 = .ok (.aaload, 1) := by decide +kernel
theorem dX4_copyFrom_16 : decode cX4_copyFrom 16 = .ok (.aload_n 1, 1) := by decide +kernel
theorem dX4_copyFrom_17 : decode cX4_copyFrom 17 = .ok (.getfield 11, 3) := by decide +kernel
theorem dX4_copyFrom_20 : decode cX4_copyFrom 20 = .ok (.iload_n 2, 1) := by decide +kernel
theorem dX4_copyFrom_21 : decode cX4_copyFrom 21 = .ok (.aaload, 1) := by decide +kernel
theorem dX4_copyFrom_22 : decode cX4_copyFrom 22 = .ok (.invokevirtual 36, 3) := by decide +kernel
theorem dX4_copyFrom_25 : decode cX4_copyFrom 25 = .ok (.iinc 2 1, 3) := by decide +kernel
theorem dX4_copyFrom_28 : decode cX4_copyFrom 28 = .ok (.goto (-26), 3) := by decide +kernel
theorem dX4_copyFrom_31 : decode cX4_copyFrom 31 = .ok (.aload_n 0, 1) := by decide +kernel
theorem dX4_copyFrom_32 : decode cX4_copyFrom 32 = .ok (.getfield 20, 3) := by decide +kernel
theorem dX4_copyFrom_35 : decode cX4_copyFrom 35 = .ok (.aload_n 1, 1) := by decide +kernel
theorem dX4_copyFrom_36 : decode cX4_copyFrom 36 = .ok (.getfield 20, 3) := by decide +kernel
theorem dX4_copyFrom_39 : decode cX4_copyFrom 39 = .ok (.invokevirtual 40, 3) := by decide +kernel
theorem dX4_copyFrom_42 : decode cX4_copyFrom 42 = .ok (.aload_n 0, 1) := by decide +kernel
theorem dX4_copyFrom_43 : decode cX4_copyFrom 43 = .ok (.getfield 27, 3) := by decide +kernel
theorem dX4_copyFrom_46 : decode cX4_copyFrom 46 = .ok (.aload_n 1, 1) := by decide +kernel
theorem dX4_copyFrom_47 : decode cX4_copyFrom 47 = .ok (.getfield 27, 3) := by decide +kernel
theorem dX4_copyFrom_50 : decode cX4_copyFrom 50 = .ok (.invokevirtual 43, 3) := by decide +kernel
theorem dX4_copyFrom_53 : decode cX4_copyFrom 53 = .ok (.aload_n 0, 1) := by decide +kernel
theorem dX4_copyFrom_54 : decode cX4_copyFrom 54 = .ok (.aload_n 1, 1) := by decide +kernel
theorem dX4_copyFrom_55 : decode cX4_copyFrom 55 = .ok (.getfield 32, 3) := by decide +kernel
theorem dX4_copyFrom_58 : decode cX4_copyFrom 58 = .ok (.putfield 32, 3) := by decide +kernel
theorem dX4_copyFrom_61 : decode cX4_copyFrom 61 = .ok (.aload_n 0, 1) := by decide +kernel
theorem dX4_copyFrom_62 : decode cX4_copyFrom 62 = .ok (.aload_n 1, 1) := by decide +kernel
theorem dX4_copyFrom_63 : decode cX4_copyFrom 63 = .ok (.getfield 46, 3) := by decide +kernel
theorem dX4_copyFrom_66 : decode cX4_copyFrom 66 = .ok (.putfield 46, 3) := by decide +kernel
theorem dX4_copyFrom_69 : decode cX4_copyFrom 69 = .ok (.aload_n 0, 1) := by decide +kernel
theorem dX4_copyFrom_70 : decode cX4_copyFrom 70 = .ok (.aload_n 1, 1) := by decide +kernel
theorem dX4_copyFrom_71 : decode cX4_copyFrom 71 = .ok (.getfield 49, 3) := by decide +kernel
theorem dX4_copyFrom_74 : decode cX4_copyFrom 74 = .ok (.putfield 49, 3) := by decide +kernel
theorem dX4_copyFrom_77 : decode cX4_copyFrom 77 = .ok (.aload_n 0, 1) := by decide +kernel
theorem dX4_copyFrom_78 : decode cX4_copyFrom 78 = .ok (.aload_n 1, 1) := by decide +kernel
theorem dX4_copyFrom_79 : decode cX4_copyFrom 79 = .ok (.getfield 52, 3) := by decide +kernel
theorem dX4_copyFrom_82 : decode cX4_copyFrom 82 = .ok (.putfield 52, 3) := by decide +kernel
theorem dX4_copyFrom_85 : decode cX4_copyFrom 85 = .ok (.aload_n 0, 1) := by decide +kernel
theorem dX4_copyFrom_86 : decode cX4_copyFrom 86 = .ok (.aload_n 1, 1) := by decide +kernel
theorem dX4_copyFrom_87 : decode cX4_copyFrom 87 = .ok (.getfield 55, 3) := by decide +kernel
theorem dX4_copyFrom_90 : decode cX4_copyFrom 90 = .ok (.putfield 55, 3) := by decide +kernel
theorem dX4_copyFrom_93 : decode cX4_copyFrom 93 = .ok (.aload_n 0, 1) := by decide +kernel
theorem dX4_copyFrom_94 : decode cX4_copyFrom 94 = .ok (.aload_n 1, 1) := by decide +kernel
theorem dX4_copyFrom_95 : decode cX4_copyFrom 95 = .ok (.getfield 58, 3) := by decide +kernel
theorem dX4_copyFrom_98 : decode cX4_copyFrom 98 = .ok (.putfield 58, 3) := by decide +kernel
theorem dX4_copyFrom_101 : decode cX4_copyFrom 101 = .ok (.return_, 1) := by decide +kernel
theorem dX4_hasPoint_0 : decode cX4_hasPoint 0 = .ok (.iload_n 1, 1) := by decide +kernel
theorem dX4_hasPoint_1 : decode cX4_hasPoint 1 = .ok (.iconst 0, 1) := by decide +kernel
theorem dX4_hasPoint_2 : decode cX4_hasPoint 2 = .ok (.aload_n 0, 1) := by decide +kernel
theorem dX4_hasPoint_3 : decode cX4_hasPoint 3 = .ok (.getfield 32, 3) := by decide +kernel
theorem dX4_hasPoint_6 : decode cX4_hasPoint 6 = .ok (.iconst 1, 1) := by decide +kernel
theorem dX4_hasPoint_7 : decode cX4_hasPoint 7 = .ok (.isub, 1) := by decide +kernel
theorem dX4_hasPoint_8 : decode cX4_hasPoint 8 = .ok (.invokestatic 61, 3) := by decide +kernel
theorem dX4_hasPoint_11 : decode cX4_hasPoint 11 = .ok (.ireturn, 1) := by decide +kernel
theorem dX4_addPoint_0 : decode cX4_addPoint 0 = .ok (.iload_n 1, 1) := by decide +kernel
theorem dX4_addPoint_1 : decode cX4_addPoint 1 = .ok (.sipush (-10000), 3) := by decide +kernel
theorem dX4_addPoint_4 : decode cX4_addPoint 4 = .ok (.sipush 10000, 3) := by decide +kernel
theorem dX4_addPoint_7 : decode cX4_addPoint 7 = .ok (.invokestatic 61, 3) := by decide +kernel
theorem dX4_addPoint_10 : decode cX4_addPoint 10 = .ok (.ifCond .eq 12, 3) := by decide +kernel
theorem dX4_addPoint_13 : decode cX4_addPoint 13 = .ok (.iload_n 2, 1) := by decide +kernel
theorem dX4_addPoint_14 : decode cX4_addPoint 14 = .ok (.iconst 1, 1) := by decide +kernel
theorem dX4_addPoint_15 : decode cX4_addPoint 15 = .ok (.iconst 4, 1) := by decide +kernel
theorem dX4_addPoint_16 : decode cX4_addPoint 16 = .ok (.invokestatic 61, 3) := by decide +kernel
theorem dX4_addPoint_19 : decode cX4_addPoint 19 = .ok (.ifCond .ne 7, 3) := by decide +kernel
theorem dX4_addPoint_22 : decode cX4_addPoint 22 = .ok (.sipush (-20001), 3) := by decide +kernel
theorem dX4_addPoint_25 : decode cX4_addPoint 25 = .ok (.ireturn, 1) := by decide +kernel
theorem dX4_addPoint_26 : decode cX4_addPoint 26 = .ok (.aload_n 0, 1) := by decide +kernel
theorem dX4_addPoint_27 : decode cX4_addPoint 27 = .ok (.getfield 32, 3) := by decide +kernel
theorem dX4_addPoint_30 : decode cX4_addPoint 30 = .ok (.bipush 16, 2) := by decide +kernel
theorem dX4_addPoint_32 : decode cX4_addPoint 32 = .ok (.if_icmp .lt 7, 3) := by decide +kernel
theorem dX4_addPoint_35 : decode cX4_addPoint 35 = .ok (.sipush (-20003), 3) := by decide +kernel
theorem dX4_addPoint_38 : decode cX4_addPoint 38 = .ok (.ireturn, 1) := by decide +kernel
theorem dX4_addPoint_39 : decode cX4_addPoint 39 = .ok (.aload_n 0, 1) := by decide +kernel
theorem dX4_addPoint_40 : decode cX4_addPoint 40 = .ok (.getfield 11, 3) := by decide +kernel
theorem dX4_addPoint_43 : decode cX4_addPoint 43 = .ok (.aload_n 0, 1) := by decide +kernel
theorem dX4_addPoint_44 : decode cX4_addPoint 44 = .ok (.getfield 32, 3) := by decide +kernel
theorem dX4_addPoint_47 : decode cX4_addPoint 47 = .ok (.aaload, 1) := by decide +kernel
theorem dX4_addPoint_48 : decode cX4_addPoint 48 = .ok (.iload_n 1, 1) := by decide +kernel
theorem dX4_addPoint_49 : decode cX4_addPoint 49 = .ok (.iload_n 2, 1) := by decide +kernel
theorem dX4_addPoint_50 : decode cX4_addPoint 50 = .ok (.invokevirtual 65, 3) := by decide +kernel
theorem dX4_addPoint_53 : decode cX4_addPoint 53 = .ok (.aload_n 0, 1) := by decide +kernel
theorem dX4_addPoint_54 : decode cX4_addPoint 54 = .ok (.dup, 1) := by decide +kernel
theorem dX4_addPoint_55 : decode cX4_addPoint 55 = .ok (.getfield 32, 3) := by decide +kernel
theorem dX4_addPoint_58 : decode cX4_addPoint 58 = .ok (.iconst 1, 1) := by decide +kernel
theorem dX4_addPoint_59 : decode cX4_addPoint 59 = .ok (.iadd, 1) := by decide +kernel
theorem dX4_addPoint_60 : decode cX4_addPoint 60 = .ok (.putfield 32, 3) := by decide +kernel
theorem dX4_addPoint_63 : decode cX4_addPoint 63 = .ok (.aload_n 0, 1) := by decide +kernel
theorem dX4_addPoint_64 : decode cX4_addPoint 64 = .ok (.getfield 32, 3) := by decide +kernel
theorem dX4_addPoint_67 : decode cX4_addPoint 67 = .ok (.iconst 1, 1) := by decide +kernel
theorem dX4_addPoint_68 : decode cX4_addPoint 68 = .ok (.isub, 1) := by decide +kernel
theorem dX4_addPoint_69 : decode cX4_addPoint 69 = .ok (.ireturn, 1) := by decide +kernel
theorem dX4_changeSetting_0 : decode cX4_changeSetting 0 = .ok (.aload_n 0, 1) := by decide +kernel
theorem dX4_changeSetting_1 : decode cX4_changeSetting 1 = .ok (.iload_n 1, 1) := by decide +kernel
theorem dX4_changeSetting_2 : decode cX4_changeSetting 2 = .ok (.invokevirtual 69, 3) := by decide +kernel
theorem dX4_changeSetting_5 : decode cX4_changeSetting 5 = .ok (.ifCond .eq 30, 3) := by decide +kernel
theorem dX4_changeSetting_8 : decode cX4_changeSetting 8 = .ok (.iload_n 2, 1) := by decide +kernel
theorem dX4_changeSetting_9 : decode cX4_changeSetting 9 = .ok (.iconst 0, 1) := by decide +kernel
theorem dX4_changeSetting_10 : decode cX4_changeSetting 10 = .ok (.bipush 6, 2) := by decide +kernel
theorem dX4_changeSetting_12 : decode cX4_changeSetting 12 = .ok (.invokestatic 61, 3) := by decide +kernel
theorem dX4_changeSetting_15 : decode cX4_changeSetting 15 = .ok (.ifCond .eq 20, 3) := by decide +kernel
theorem dX4_changeSetting_18 : decode cX4_changeSetting 18 = .ok (.iload_n 3, 1) := by decide +kernel
theorem dX4_changeSetting_19 : decode cX4_changeSetting 19 = .ok (.getstatic 73, 3) := by decide +kernel
theorem dX4_changeSetting_22 : decode cX4_changeSetting 22 = .ok (.iload_n 2, 1) := by decide +kernel
theorem dX4_changeSetting_23 : decode cX4_changeSetting 23 = .ok (.iaload, 1) := by decide +kernel
theorem dX4_changeSetting_24 : decode cX4_changeSetting 24 = .ok (.getstatic 77, 3) := by decide +kernel
theorem dX4_changeSetting_27 : decode cX4_changeSetting 27 = .ok (.iload_n 2, 1) := by decide +kernel
theorem dX4_changeSetting_28 : decode cX4_changeSetting 28 = .ok (.iaload, 1) := by decide +kernel
theorem dX4_changeSetting_29 : decode cX4_changeSetting 29 = .ok (.invokestatic 61, 3) := by decide +kernel
theorem dX4_changeSetting_32 : decode cX4_changeSetting 32 = .ok (.ifCond .ne 7, 3) := by decide +kernel
theorem dX4_changeSetting_35 : decode cX4_changeSetting 35 = .ok (.sipush (-20001), 3) := by decide +kernel
theorem dX4_changeSetting_38 : decode cX4_changeSetting 38 = .ok (.ireturn, 1) := by decide +kernel
theorem dX4_changeSetting_39 : decode cX4_changeSetting 39 = .ok (.aload_n 0, 1) := by decide +kernel
theorem dX4_changeSetting_40 : decode cX4_changeSetting 40 = .ok (.getfield 11, 3) := by decide +kernel
theorem dX4_changeSetting_43 : decode cX4_changeSetting 43 = .ok (.iload_n 1, 1) := by decide +kernel
theorem dX4_changeSetting_44 : decode cX4_changeSetting 44 = .ok (.aaload, 1) := by decide +kernel
theorem dX4_changeSetting_45 : decode cX4_changeSetting 45 = .ok (.astore 4, 2) := by decide +kernel
theorem dX4_changeSetting_47 : decode cX4_changeSetting 47 = .ok (.aload 4, 2) := by decide +kernel
theorem dX4_changeSetting_49 : decode cX4_changeSetting 49 = .ok (.getfield 80, 3) := by decide +kernel
theorem dX4_changeSetting_52 : decode cX4_changeSetting 52 = .ok (.iload_n 2, 1) := by decide +kernel
theorem dX4_changeSetting_53 : decode cX4_changeSetting 53 = .ok (.iaload, 1) := by decide +kernel
theorem dX4_changeSetting_54 : decode cX4_changeSetting 54 = .ok (.istore 5, 2) := by decide +kernel
theorem dX4_changeSetting_56 : decode cX4_changeSetting 56 = .ok (.aload 4, 2) := by decide +kernel
theorem dX4_changeSetting_58 : decode cX4_changeSetting 58 = .ok (.getfield 80, 3) := by decide +kernel
theorem dX4_changeSetting_61 : decode cX4_changeSetting 61 = .ok (.iload_n 2, 1) := by decide +kernel
theorem dX4_changeSetting_62 : decode cX4_changeSetting 62 = .ok (.iload_n 3, 1) := by decide +kernel
theorem dX4_changeSetting_63 : decode cX4_changeSetting 63 = .ok (.iastore, 1) := by decide +kernel
theorem dX4_changeSetting_64 : decode cX4_changeSetting 64 = .ok (.aload 4, 2) := by decide +kernel
theorem dX4_changeSetting_66 : decode cX4_changeSetting 66 = .ok (.invokevirtual 83, 3) := by decide +kernel
theorem dX4_changeSetting_69 : decode cX4_changeSetting 69 = .ok (.ifCond .eq 16, 3) := by decide +kernel
theorem dX4_changeSetting_72 : decode cX4_changeSetting 72 = .ok (.aload 4, 2) := by decide +kernel
theorem dX4_changeSetting_74 : decode cX4_changeSetting 74 = .ok (.invokevirtual 87, 3) := by decide +kernel
theorem dX4_changeSetting_77 : decode cX4_changeSetting 77 = .ok (.ifCond .eq 8, 3) := by decide +kernel
theorem dX4_changeSetting_80 : decode cX4_changeSetting 80 = .ok (.aload_n 0, 1) := by decide +kernel
theorem dX4_changeSetting_81 : decode cX4_changeSetting 81 = .ok (.iload_n 1, 1) := by decide +kernel
theorem dX4_changeSetting_82 : decode cX4_changeSetting 82 = .ok (.invokevirtual 90, 3) := by decide +kernel
theorem dX4_changeSetting_85 : decode cX4_changeSetting 85 = .ok (.iload 5, 2) := by decide +kernel
theorem dX4_changeSetting_87 : decode cX4_changeSetting 87 = .ok (.ireturn, 1) := by decide +kernel
theorem dX4_changeRoot_0 : decode cX4_changeRoot 0 = .ok (.aload_n 0, 1) := by decide +kernel
theorem dX4_changeRoot_1 : decode cX4_changeRoot 1 = .ok (.iload_n 1, 1) := by decide +kernel
theorem dX4_changeRoot_2 : decode cX4_changeRoot 2 = .ok (.invokevirtual 69, 3) := by decide +kernel
theorem dX4_changeRoot_5 : decode cX4_changeRoot 5 = .ok (.ifCond .eq 16, 3) := by decide +kernel
theorem dX4_changeRoot_8 : decode cX4_changeRoot 8 = .ok (.iload_n 2, 1) := by decide +kernel
theorem dX4_changeRoot_9 : decode cX4_changeRoot 9 = .ok (.iconst (-1), 1) := by decide +kernel
theorem dX4_changeRoot_10 : decode cX4_changeRoot 10 = .ok (.if_icmp .eq 15, 3) := by decide +kernel
theorem dX4_changeRoot_13 : decode cX4_changeRoot 13 = .ok (.aload_n 0, 1) := by decide +kernel
theorem dX4_changeRoot_14 : decode cX4_changeRoot 14 = .ok (.iload_n 2, 1) := by decide +kernel
theorem dX4_changeRoot_15 : decode cX4_changeRoot 15 = .ok (.invokevirtual 69, 3) := by decide +kernel
theorem dX4_changeRoot_18 : decode cX4_changeRoot 18 = .ok (.ifCond .ne 7, 3) := by decide +kernel
theorem dX4_changeRoot_21 : decode cX4_changeRoot 21 = .ok (.sipush (-20001), 3) := by decide +kernel
theorem dX4_changeRoot_24 : decode cX4_changeRoot 24 = .ok (.ireturn, 1) := by decide +kernel
theorem dX4_changeRoot_25 : decode cX4_changeRoot 25 = .ok (.aload_n 0, 1) := by decide +kernel
theorem dX4_changeRoot_26 : decode cX4_changeRoot 26 = .ok (.iload_n 1, 1) := by decide +kernel
theorem dX4_changeRoot_27 : decode cX4_changeRoot 27 = .ok (.iload_n 2, 1) := by decide +kernel
theorem dX4_changeRoot_28 : decode cX4_changeRoot 28 = .ok (.invokevirtual 94, 3) := by decide +kernel
theorem dX4_changeRoot_31 : decode cX4_changeRoot 31 = .ok (.ifCond .eq 7, 3) := by decide +kernel
theorem dX4_changeRoot_34 : decode cX4_changeRoot 34 = .ok (.sipush (-20002), 3) := by decide +kernel
theorem dX4_changeRoot_37 : decode cX4_changeRoot 37 = .ok (.ireturn, 1) := by decide +kernel
theorem dX4_changeRoot_38 : decode cX4_changeRoot 38 = .ok (.aload_n 0, 1) := by decide +kernel
theorem dX4_changeRoot_39 : decode cX4_changeRoot 39 = .ok (.getfield 11, 3) := by decide +kernel
theorem dX4_changeRoot_42 : decode cX4_changeRoot 42 = .ok (.iload_n 1, 1) := by decide +kernel
theorem dX4_changeRoot_43 : decode cX4_changeRoot 43 = .ok (.aaload, 1) := by decide +kernel
theorem dX4_changeRoot_44 : decode cX4_changeRoot 44 = .ok (.getfield 98, 3) := by decide +kernel
theorem dX4_changeRoot_47 : decode cX4_changeRoot 47 = .ok (.istore_n 3, 1) := by decide +kernel
theorem dX4_changeRoot_48 : decode cX4_changeRoot 48 = .ok (.aload_n 0, 1) := by decide +kernel
theorem dX4_changeRoot_49 : decode cX4_changeRoot 49 = .ok (.getfield 11, 3) := by decide +kernel
theorem dX4_changeRoot_52 : decode cX4_changeRoot 52 = .ok (.iload_n 1, 1) := by decide +kernel
theorem dX4_changeRoot_53 : decode cX4_changeRoot 53 = .ok (.aaload, 1) := by decide +kernel
theorem dX4_changeRoot_54 : decode cX4_changeRoot 54 = .ok (.iload_n 2, 1) := by decide +kernel
theorem dX4_changeRoot_55 : decode cX4_changeRoot 55 = .ok (.putfield 98, 3) := by decide +kernel
theorem dX4_changeRoot_58 : decode cX4_changeRoot 58 = .ok (.iload_n 3, 1) := by decide +kernel
theorem dX4_changeRoot_59 : decode cX4_changeRoot 59 = .ok (.ireturn, 1) := by decide +kernel
theorem dX4_isOnWayUp_0 : decode cX4_isOnWayUp 0 = .ok (.iload_n 2, 1) := by decide +kernel
theorem dX4_isOnWayUp_1 : decode cX4_isOnWayUp 1 = .ok (.istore_n 3, 1) := by decide +kernel
theorem dX4_isOnWayUp_2 : decode cX4_isOnWayUp 2 = .ok (.iconst 0, 1) := by decide +kernel
theorem dX4_isOnWayUp_3 : decode cX4_isOnWayUp 3 = .ok (.istore 4, 2) := by decide +kernel
theorem dX4_isOnWayUp_5 : decode cX4_isOnWayUp 5 = .ok (.iload 4, 2) := by decide +kernel
theorem dX4_isOnWayUp_7 : decode cX4_isOnWayUp 7 = .ok (.bipush 16, 2) := by decide +kernel
theorem dX4_isOnWayUp_9 : decode cX4_isOnWayUp 9 = .ok (.if_icmp .ge 34, 3) := by decide +kernel
theorem dX4_isOnWayUp_12 : decode cX4_isOnWayUp 12 = .ok (.aload_n 0, 1) := by decide +kernel
theorem dX4_isOnWayUp_13 : decode cX4_isOnWayUp 13 = .ok (.iload_n 3, 1) := by decide +kernel
theorem dX4_isOnWayUp_14 : decode cX4_isOnWayUp 14 = .ok (.invokevirtual 69, 3) := by decide +kernel
theorem dX4_isOnWayUp_17 : decode cX4_isOnWayUp 17 = .ok (.ifCond .eq 26, 3) := by decide +kernel
theorem dX4_isOnWayUp_20 : decode cX4_isOnWayUp 20 = .ok (.iload_n 3, 1) := by decide +kernel
theorem dX4_isOnWayUp_21 : decode cX4_isOnWayUp 21 = .ok (.iload_n 1, 1) := by decide +kernel
theorem dX4_isOnWayUp_22 : decode cX4_isOnWayUp 22 = .ok (.if_icmp .ne 5, 3) := by decide +kernel
theorem dX4_isOnWayUp_25 : decode cX4_isOnWayUp 25 = .ok (.iconst 1, 1) := by decide +kernel
theorem dX4_isOnWayUp_26 : decode cX4_isOnWayUp 26 = .ok (.ireturn, 1) := by decide +kernel
theorem dX4_isOnWayUp_27 : decode cX4_isOnWayUp 27 = .ok (.aload_n 0, 1) := by decide +kernel
theorem dX4_isOnWayUp_28 : decode cX4_isOnWayUp 28 = .ok (.getfield 11, 3) := by decide +kernel
theorem dX4_isOnWayUp_31 : decode cX4_isOnWayUp 31 = .ok (.iload_n 3, 1) := by decide +kernel
theorem dX4_isOnWayUp_32 : decode cX4_isOnWayUp 32 = .ok (.aaload, 1) := by decide +kernel
theorem dX4_isOnWayUp_33 : decode cX4_isOnWayUp 33 = .ok (.getfield 98, 3) := by decide +kernel
theorem dX4_isOnWayUp_36 : decode cX4_isOnWayUp 36 = .ok (.istore_n 3, 1) := by decide +kernel
theorem dX4_isOnWayUp_37 : decode cX4_isOnWayUp 37 = .ok (.iinc 4 1, 3) := by decide +kernel
theorem dX4_isOnWayUp_40 : decode cX4_isOnWayUp 40 = .ok (.goto (-35), 3) := by decide +kernel
theorem dX4_isOnWayUp_43 : decode cX4_isOnWayUp 43 = .ok (.iconst 0, 1) := by decide +kernel
theorem dX4_isOnWayUp_44 : decode cX4_isOnWayUp 44 = .ok (.ireturn, 1) := by decide +kernel
theorem dX4_changeValue_0 : decode cX4_changeValue 0 = .ok (.aload_n 0, 1) := by decide +kernel
theorem dX4_changeValue_1 : decode cX4_changeValue 1 = .ok (.iload_n 1, 1) := by decide +kernel
theorem dX4_changeValue_2 : decode cX4_changeValue 2 = .ok (.invokevirtual 69, 3) := by decide +kernel
theorem dX4_changeValue_5 : decode cX4_changeValue 5 = .ok (.ifCond .eq 16, 3) := by decide +kernel
theorem dX4_changeValue_8 : decode cX4_changeValue 8 = .ok (.iload_n 2, 1) := by decide +kernel
theorem dX4_changeValue_9 : decode cX4_changeValue 9 = .ok (.sipush (-10000), 3) := by decide +kernel
theorem dX4_changeValue_12 : decode cX4_changeValue 12 = .ok (.sipush 10000, 3) := by decide +kernel
theorem dX4_changeValue_15 : decode cX4_changeValue 15 = .ok (.invokestatic 61, 3) := by decide +kernel
theorem dX4_changeValue_18 : decode cX4_changeValue 18 = .ok (.ifCond .ne 7, 3) := by decide +kernel
theorem dX4_changeValue_21 : decode cX4_changeValue 21 = .ok (.sipush (-20001), 3) := by decide +kernel
theorem dX4_changeValue_24 : decode cX4_changeValue 24 = .ok (.ireturn, 1) := by decide +kernel
theorem dX4_changeValue_25 : decode cX4_changeValue 25 = .ok (.aload_n 0, 1) := by decide +kernel
theorem dX4_changeValue_26 : decode cX4_changeValue 26 = .ok (.getfield 11, 3) := by decide +kernel
theorem dX4_changeValue_29 : decode cX4_changeValue 29 = .ok (.iload_n 1, 1) := by decide +kernel
theorem dX4_changeValue_30 : decode cX4_changeValue 30 = .ok (.aaload, 1) := by decide +kernel
theorem dX4_changeValue_31 : decode cX4_changeValue 31 = .ok (.getfield 101, 3) := by decide +kernel
theorem dX4_changeValue_34 : decode cX4_changeValue 34 = .ok (.istore_n 3, 1) := by decide +kernel
theorem dX4_changeValue_35 : decode cX4_changeValue 35 = .ok (.aload_n 0, 1) := by decide +kernel
theorem dX4_changeValue_36 : decode cX4_changeValue 36 = .ok (.getfield 11, 3) := by decide +kernel
theorem dX4_changeValue_39 : decode cX4_changeValue 39 = .ok (.iload_n 1, 1) := by decide +kernel
theorem dX4_changeValue_40 : decode cX4_changeValue 40 = .ok (.aaload, 1) := by decide +kernel
theorem dX4_changeValue_41 : decode cX4_changeValue 41 = .ok (.iload_n 2, 1) := by decide +kernel
theorem dX4_changeValue_42 : decode cX4_changeValue 42 = .ok (.putfield 101, 3) := by decide +kernel
theorem dX4_changeValue_45 : decode cX4_changeValue 45 = .ok (.iload_n 3, 1) := by decide +kernel
theorem dX4_changeValue_46 : decode cX4_changeValue 46 = .ok (.ireturn, 1) := by decide +kernel
theorem dX4_changeMode_0 : decode cX4_changeMode 0 = .ok (.iload_n 1, 1) := by decide +kernel
theorem dX4_changeMode_1 : decode cX4_changeMode 1 = .ok (.iconst 0, 1) := by decide +kernel
theorem dX4_changeMode_2 : decode cX4_changeMode 2 = .ok (.iconst 3, 1) := by decide +kernel
theorem dX4_changeMode_3 : decode cX4_changeMode 3 = .ok (.invokestatic 61, 3) := by decide +kernel
theorem dX4_changeMode_6 : decode cX4_changeMode 6 = .ok (.ifCond .ne 7, 3) := by decide +kernel
theorem dX4_changeMode_9 : decode cX4_changeMode 9 = .ok (.sipush (-20001), 3) := by decide +kernel
theorem dX4_changeMode_12 : decode cX4_changeMode 12 = .ok (.ireturn, 1) := by decide +kernel
theorem dX4_changeMode_13 : decode cX4_changeMode 13 = .ok (.aload_n 0, 1) := by decide +kernel
theorem dX4_changeMode_14 : decode cX4_changeMode 14 = .ok (.getfield 49, 3) := by decide +kernel
theorem dX4_changeMode_17 : decode cX4_changeMode 17 = .ok (.istore_n 2, 1) := by decide +kernel
theorem dX4_changeMode_18 : decode cX4_changeMode 18 = .ok (.aload_n 0, 1) := by decide +kernel
theorem dX4_changeMode_19 : decode cX4_changeMode 19 = .ok (.iload_n 1, 1) := by decide +kernel
theorem dX4_changeMode_20 : decode cX4_changeMode 20 = .ok (.putfield 49, 3) := by decide +kernel
theorem dX4_changeMode_23 : decode cX4_changeMode 23 = .ok (.iload_n 2, 1) := by decide +kernel
theorem dX4_changeMode_24 : decode cX4_changeMode 24 = .ok (.ireturn, 1) := by decide +kernel
theorem dX4_changeFlood_0 : decode cX4_changeFlood 0 = .ok (.iload_n 1, 1) := by decide +kernel
theorem dX4_changeFlood_1 : decode cX4_changeFlood 1 = .ok (.iconst 1, 1) := by decide +kernel
theorem dX4_changeFlood_2 : decode cX4_changeFlood 2 = .ok (.bipush 60, 2) := by decide +kernel
theorem dX4_changeFlood_4 : decode cX4_changeFlood 4 = .ok (.invokestatic 61, 3) := by decide +kernel
theorem dX4_changeFlood_7 : decode cX4_changeFlood 7 = .ok (.ifCond .eq 22, 3) := by decide +kernel
theorem dX4_changeFlood_10 : decode cX4_changeFlood 10 = .ok (.iload_n 2, 1) := by decide +kernel
theorem dX4_changeFlood_11 : decode cX4_changeFlood 11 = .ok (.iconst 1, 1) := by decide +kernel
theorem dX4_changeFlood_12 : decode cX4_changeFlood 12 = .ok (.bipush 50, 2) := by decide +kernel
theorem dX4_changeFlood_14 : decode cX4_changeFlood 14 = .ok (.invokestatic 61, 3) := by decide +kernel
theorem dX4_changeFlood_17 : decode cX4_changeFlood 17 = .ok (.ifCond .eq 12, 3) := by decide +kernel
theorem dX4_changeFlood_20 : decode cX4_changeFlood 20 = .ok (.iload_n 3, 1) := by decide +kernel
theorem dX4_changeFlood_21 : decode cX4_changeFlood 21 = .ok (.iconst 0, 1) := by decide +kernel
theorem dX4_changeFlood_22 : decode cX4_changeFlood 22 = .ok (.iload_n 2, 1) := by decide +kernel
theorem dX4_changeFlood_23 : decode cX4_changeFlood 23 = .ok (.invokestatic 61, 3) := by decide +kernel
theorem dX4_changeFlood_26 : decode cX4_changeFlood 26 = .ok (.ifCond .ne 7, 3) := by decide +kernel
theorem dX4_changeFlood_29 : decode cX4_changeFlood 29 = .ok (.sipush (-20001), 3) := by decide +kernel
theorem dX4_changeFlood_32 : decode cX4_changeFlood 32 = .ok (.ireturn, 1) := by decide +kernel
theorem dX4_changeFlood_33 : decode cX4_changeFlood 33 = .ok (.sipush 10000, 3) := by decide +kernel
theorem dX4_changeFlood_36 : decode cX4_changeFlood 36 = .ok (.aload_n 0, 1) := by decide +kernel
theorem dX4_changeFlood_37 : decode cX4_changeFlood 37 = .ok (.getfield 20, 3) := by decide +kernel
theorem dX4_changeFlood_40 : decode cX4_changeFlood 40 = .ok (.getfield 104, 3) := by decide +kernel
theorem dX4_changeFlood_43 : decode cX4_changeFlood 43 = .ok (.imul, 1) := by decide +kernel
theorem dX4_changeFlood_44 : decode cX4_changeFlood 44 = .ok (.bipush 100, 2) := by decide +kernel
theorem dX4_changeFlood_46 : decode cX4_changeFlood 46 = .ok (.aload_n 0, 1) := by decide +kernel
theorem dX4_changeFlood_47 : decode cX4_changeFlood 47 = .ok (.getfield 20, 3) := by decide +kernel
theorem dX4_changeFlood_50 : decode cX4_changeFlood 50 = .ok (.getfield 107, 3) := by decide +kernel
theorem dX4_changeFlood_53 : decode cX4_changeFlood 53 = .ok (.imul, 1) := by decide +kernel
theorem dX4_changeFlood_54 : decode cX4_changeFlood 54 = .ok (.iadd, 1) := by decide +kernel
theorem dX4_changeFlood_55 : decode cX4_changeFlood 55 = .ok (.aload_n 0, 1) := by decide +kernel
theorem dX4_changeFlood_56 : decode cX4_changeFlood 56 = .ok (.getfield 20, 3) := by decide +kernel
theorem dX4_changeFlood_59 : decode cX4_changeFlood 59 = .ok (.getfield 110, 3) := by decide +kernel
theorem dX4_changeFlood_62 : decode cX4_changeFlood 62 = .ok (.iadd, 1) := by decide +kernel
theorem dX4_changeFlood_63 : decode cX4_changeFlood 63 = .ok (.istore 4, 2) := by decide +kernel
theorem dX4_changeFlood_65 : decode cX4_changeFlood 65 = .ok (.aload_n 0, 1) := by decide +kernel
theorem dX4_changeFlood_66 : decode cX4_changeFlood 66 = .ok (.getfield 20, 3) := by decide +kernel
theorem dX4_changeFlood_69 : decode cX4_changeFlood 69 = .ok (.iload_n 1, 1) := by decide +kernel
theorem dX4_changeFlood_70 : decode cX4_changeFlood 70 = .ok (.putfield 104, 3) := by decide +kernel
theorem dX4_changeFlood_73 : decode cX4_changeFlood 73 = .ok (.aload_n 0, 1) := by decide +kernel
theorem dX4_changeFlood_74 : decode cX4_changeFlood 74 = .ok (.getfield 20, 3) := by decide +kernel
theorem dX4_changeFlood_77 : decode cX4_changeFlood 77 = .ok (.iload_n 2, 1) := by decide +kernel
theorem dX4_changeFlood_78 : decode cX4_changeFlood 78 = .ok (.putfield 107, 3) := by decide +kernel
theorem dX4_changeFlood_81 : decode cX4_changeFlood 81 = .ok (.aload_n 0, 1) := by decide +kernel
theorem dX4_changeFlood_82 : decode cX4_changeFlood 82 = .ok (.getfield 20, 3) := by decide +kernel
theorem dX4_changeFlood_85 : decode cX4_changeFlood 85 = .ok (.iload_n 3, 1) := by decide +kernel
theorem dX4_changeFlood_86 : decode cX4_changeFlood 86 = .ok (.putfield 110, 3) := by decide +kernel
theorem dX4_changeFlood_89 : decode cX4_changeFlood 89 = .ok (.iload 4, 2) := by decide +kernel
theorem dX4_changeFlood_91 : decode cX4_changeFlood 91 = .ok (.ireturn, 1) := by decide +kernel
theorem dX4_passTicks_0 : decode cX4_passTicks 0 = .ok (.iload_n 1, 1) := by decide +kernel
theorem dX4_passTicks_1 : decode cX4_passTicks 1 = .ok (.iconst 1, 1) := by decide +kernel
theorem dX4_passTicks_2 : decode cX4_passTicks 2 = .ok (.bipush 100, 2) := by decide +kernel
theorem dX4_passTicks_4 : decode cX4_passTicks 4 = .ok (.invokestatic 61, 3) := by decide +kernel
theorem dX4_passTicks_7 : decode cX4_passTicks 7 = .ok (.ifCond .ne 7, 3) := by decide +kernel
theorem dX4_passTicks_10 : decode cX4_passTicks 10 = .ok (.sipush (-20001), 3) := by decide +kernel
theorem dX4_passTicks_13 : decode cX4_passTicks 13 = .ok (.ireturn, 1) := by decide +kernel
theorem dX4_passTicks_14 : decode cX4_passTicks 14 = .ok (.aload_n 0, 1) := by decide +kernel
theorem dX4_passTicks_15 : decode cX4_passTicks 15 = .ok (.getfield 46, 3) := by decide +kernel
theorem dX4_passTicks_18 : decode cX4_passTicks 18 = .ok (.iload_n 1, 1) := by decide +kernel
theorem dX4_passTicks_19 : decode cX4_passTicks 19 = .ok (.iadd, 1) := by decide +kernel
theorem dX4_passTicks_20 : decode cX4_passTicks 20 = .ok (.sipush 10000, 3) := by decide +kernel
theorem dX4_passTicks_23 : decode cX4_passTicks 23 = .ok (.if_icmp .le 7, 3) := by decide +kernel
theorem dX4_passTicks_26 : decode cX4_passTicks 26 = .ok (.sipush (-20002), 3) := by decide +kernel
theorem dX4_passTicks_29 : decode cX4_passTicks 29 = .ok (.ireturn, 1) := by decide +kernel
theorem dX4_passTicks_30 : decode cX4_passTicks 30 = .ok (.iconst 0, 1) := by decide +kernel
theorem dX4_passTicks_31 : decode cX4_passTicks 31 = .ok (.istore_n 2, 1) := by decide +kernel
theorem dX4_passTicks_32 : decode cX4_passTicks 32 = .ok (.iload_n 2, 1) := by decide +kernel
theorem dX4_passTicks_33 : decode cX4_passTicks 33 = .ok (.iload_n 1, 1) := by decide +kernel
theorem dX4_passTicks_34 : decode cX4_passTicks 34 = .ok (.if_icmp .ge 13, 3) := by decide +kernel
theorem dX4_passTicks_37 : decode cX4_passTicks 37 = .ok (.aload_n 0, 1) := by decide +kernel
theorem dX4_passTicks_38 : decode cX4_passTicks 38 = .ok (.invokevirtual 113, 3) := by decide +kernel
theorem dX4_passTicks_41 : decode cX4_passTicks 41 = .ok (.iinc 2 1, 3) := by decide +kernel
theorem dX4_passTicks_44 : decode cX4_passTicks 44 = .ok (.goto (-12), 3) := by decide +kernel
theorem dX4_passTicks_47 : decode cX4_passTicks 47 = .ok (.aload_n 0, 1) := by decide +kernel
theorem dX4_passTicks_48 : decode cX4_passTicks 48 = .ok (.getfield 46, 3) := by decide +kernel
theorem dX4_passTicks_51 : decode cX4_passTicks 51 = .ok (.ireturn, 1) := by decide +kernel
theorem dX4_passTick_0 : decode cX4_passTick 0 = .ok (.aload_n 0, 1) := by decide +kernel
theorem dX4_passTick_1 : decode cX4_passTick 1 = .ok (.dup, 1) := by decide +kernel
theorem dX4_passTick_2 : decode cX4_passTick 2 = .ok (.getfield 46, 3) := by decide +kernel
theorem dX4_passTick_5 : decode cX4_passTick 5 = .ok (.iconst 1, 1) := by decide +kernel
theorem dX4_passTick_6 : decode cX4_passTick 6 = .ok (.iadd, 1) := by decide +kernel
theorem dX4_passTick_7 : decode cX4_passTick 7 = .ok (.putfield 46, 3) := by decide +kernel
theorem dX4_passTick_10 : decode cX4_passTick 10 = .ok (.aload_n 0, 1) := by decide +kernel
theorem dX4_passTick_11 : decode cX4_passTick 11 = .ok (.getfield 20, 3) := by decide +kernel
theorem dX4_passTick_14 : decode cX4_passTick 14 = .ok (.aload_n 0, 1) := by decide +kernel
theorem dX4_passTick_15 : decode cX4_passTick 15 = .ok (.getfield 46, 3) := by decide +kernel
theorem dX4_passTick_18 : decode cX4_passTick 18 = .ok (.invokevirtual 116, 3) := by decide +kernel
theorem dX4_passTick_21 : decode cX4_passTick 21 = .ok (.iconst 0, 1) := by decide +kernel
theorem dX4_passTick_22 : decode cX4_passTick 22 = .ok (.istore_n 1, 1) := by decide +kernel
theorem dX4_passTick_23 : decode cX4_passTick 23 = .ok (.iload_n 1, 1) := by decide +kernel
theorem dX4_passTick_24 : decode cX4_passTick 24 = .ok (.aload_n 0, 1) := by decide +kernel
theorem dX4_passTick_25 : decode cX4_passTick 25 = .ok (.getfield 32, 3) := by decide +kernel
theorem dX4_passTick_28 : decode cX4_passTick 28 = .ok (.if_icmp .ge 14, 3) := by decide +kernel
theorem dX4_passTick_31 : decode cX4_passTick 31 = .ok (.aload_n 0, 1) := by decide +kernel
theorem dX4_passTick_32 : decode cX4_passTick 32 = .ok (.iload_n 1, 1) := by decide +kernel
theorem dX4_passTick_33 : decode cX4_passTick 33 = .ok (.invokevirtual 119, 3) := by decide +kernel
theorem dX4_passTick_36 : decode cX4_passTick 36 = .ok (.iinc 1 1, 3) := by decide +kernel
theorem dX4_passTick_39 : decode cX4_passTick 39 = .ok (.goto (-16), 3) := by decide +kernel
theorem dX4_passTick_42 : decode cX4_passTick 42 = .ok (.iconst 0, 1) := by decide +kernel
theorem dX4_passTick_43 : decode cX4_passTick 43 = .ok (.istore_n 1, 1) := by decide +kernel
theorem dX4_passTick_44 : decode cX4_passTick 44 = .ok (.iload_n 1, 1) := by decide +kernel
theorem dX4_passTick_45 : decode cX4_passTick 45 = .ok (.aload_n 0, 1) := by decide +kernel
theorem dX4_passTick_46 : decode cX4_passTick 46 = .ok (.getfield 32, 3) := by decide +kernel
theorem dX4_passTick_49 : decode cX4_passTick 49 = .ok (.if_icmp .ge 42, 3) := by decide +kernel
theorem dX4_passTick_52 : decode cX4_passTick 52 = .ok (.aload_n 0, 1) := by decide +kernel
theorem dX4_passTick_53 : decode cX4_passTick 53 = .ok (.getfield 11, 3) := by decide +kernel
theorem dX4_passTick_56 : decode cX4_passTick 56 = .ok (.iload_n 1, 1) := by decide +kernel
theorem dX4_passTick_57 : decode cX4_passTick 57 = .ok (.aaload, 1) := by decide +kernel
theorem dX4_passTick_58 : decode cX4_passTick 58 = .ok (.invokevirtual 87, 3) := by decide +kernel
theorem dX4_passTick_61 : decode cX4_passTick 61 = .ok (.ifCond .eq 24, 3) := by decide +kernel
theorem dX4_passTick_64 : decode cX4_passTick 64 = .ok (.aload_n 0, 1) := by decide +kernel
theorem dX4_passTick_65 : decode cX4_passTick 65 = .ok (.getfield 46, 3) := by decide +kernel
theorem dX4_passTick_68 : decode cX4_passTick 68 = .ok (.aload_n 0, 1) := by decide +kernel
theorem dX4_passTick_69 : decode cX4_passTick 69 = .ok (.getfield 11, 3) := by decide +kernel
theorem dX4_passTick_72 : decode cX4_passTick 72 = .ok (.iload_n 1, 1) := by decide +kernel
theorem dX4_passTick_73 : decode cX4_passTick 73 = .ok (.aaload, 1) := by decide +kernel
theorem dX4_passTick_74 : decode cX4_passTick 74 = .ok (.getfield 122, 3) := by decide +kernel
theorem dX4_passTick_77 : decode cX4_passTick 77 = .ok (.if_icmp .lt 8, 3) := by decide +kernel
theorem dX4_passTick_80 : decode cX4_passTick 80 = .ok (.aload_n 0, 1) := by decide +kernel
theorem dX4_passTick_81 : decode cX4_passTick 81 = .ok (.iload_n 1, 1) := by decide +kernel
theorem dX4_passTick_82 : decode cX4_passTick 82 = .ok (.invokevirtual 90, 3) := by decide +kernel
theorem dX4_passTick_85 : decode cX4_passTick 85 = .ok (.iinc 1 1, 3) := by decide +kernel
theorem dX4_passTick_88 : decode cX4_passTick 88 = .ok (.goto (-44), 3) := by decide +kernel
theorem dX4_passTick_91 : decode cX4_passTick 91 = .ok (.aload_n 0, 1) := by decide +kernel
theorem dX4_passTick_92 : decode cX4_passTick 92 = .ok (.invokevirtual 125, 3) := by decide +kernel
theorem dX4_passTick_95 : decode cX4_passTick 95 = .ok (.iconst 0, 1) := by decide +kernel
theorem dX4_passTick_96 : decode cX4_passTick 96 = .ok (.istore_n 1, 1) := by decide +kernel
theorem dX4_passTick_97 : decode cX4_passTick 97 = .ok (.iload_n 1, 1) := by decide +kernel
theorem dX4_passTick_98 : decode cX4_passTick 98 = .ok (.aload_n 0, 1) := by decide +kernel
theorem dX4_passTick_99 : decode cX4_passTick 99 = .ok (.getfield 32, 3) := by decide +kernel
theorem dX4_passTick_102 : decode cX4_passTick 102 = .ok (.if_icmp .ge 18, 3) := by decide +kernel
theorem dX4_passTick_105 : decode cX4_passTick 105 = .ok (.aload_n 0, 1) := by decide +kernel
theorem dX4_passTick_106 : decode cX4_passTick 106 = .ok (.getfield 11, 3) := by decide +kernel
theorem dX4_passTick_109 : decode cX4_passTick 109 = .ok (.iload_n 1, 1) := by decide +kernel
theorem dX4_passTick_110 : decode cX4_passTick 110 = .ok (.aaload, 1) := by decide +kernel
theorem dX4_passTick_111 : decode cX4_passTick 111 = .ok (.invokevirtual 128, 3) := by decide +kernel
theorem dX4_passTick_114 : decode cX4_passTick 114 = .ok (.iinc 1 1, 3) := by decide +kernel
theorem dX4_passTick_117 : decode cX4_passTick 117 = .ok (.goto (-20), 3) := by decide +kernel
theorem dX4_passTick_120 : decode cX4_passTick 120 = .ok (.return_, 1) := by decide +kernel
theorem dX4_movePoint_0 : decode cX4_movePoint 0 = .ok (.aload_n 0, 1) := by decide +kernel
theorem dX4_movePoint_1 : decode cX4_movePoint 1 = .ok (.getfield 11, 3) := by decide +kernel
theorem dX4_movePoint_4 : decode cX4_movePoint 4 = .ok (.iload_n 1, 1) := by decide +kernel
theorem dX4_movePoint_5 : decode cX4_movePoint 5 = .ok (.aaload, 1) := by decide +kernel
theorem dX4_movePoint_6 : decode cX4_movePoint 6 = .ok (.astore_n 2, 1) := by decide +kernel
theorem dX4_movePoint_7 : decode cX4_movePoint 7 = .ok (.aload_n 2, 1) := by decide +kernel
theorem dX4_movePoint_8 : decode cX4_movePoint 8 = .ok (.aload_n 2, 1) := by decide +kernel
theorem dX4_movePoint_9 : decode cX4_movePoint 9 = .ok (.invokevirtual 131, 3) := by decide +kernel
theorem dX4_movePoint_12 : decode cX4_movePoint 12 = .ok (.ifCond .eq 12, 3) := by decide +kernel
theorem dX4_movePoint_15 : decode cX4_movePoint 15 = .ok (.aload_n 2, 1) := by decide +kernel
theorem dX4_movePoint_16 : decode cX4_movePoint 16 = .ok (.getfield 134, 3) := by decide +kernel
theorem dX4_movePoint_19 : decode cX4_movePoint 19 = .ok (.iconst 1, 1) := by decide +kernel
theorem dX4_movePoint_20 : decode cX4_movePoint 20 = .ok (.iadd, 1) := by decide +kernel
theorem dX4_movePoint_21 : decode cX4_movePoint 21 = .ok (.goto 4, 3) := by decide +kernel
theorem dX4_movePoint_24 : decode cX4_movePoint 24 = .ok (.iconst 0, 1) := by decide +kernel
theorem dX4_movePoint_25 : decode cX4_movePoint 25 = .ok (.putfield 134, 3) := by decide +kernel
theorem dX4_movePoint_28 : decode cX4_movePoint 28 = .ok (.aload_n 2, 1) := by decide +kernel
theorem dX4_movePoint_29 : decode cX4_movePoint 29 = .ok (.getfield 134, 3) := by decide +kernel
theorem dX4_movePoint_32 : decode cX4_movePoint 32 = .ok (.aload_n 2, 1) := by decide +kernel
theorem dX4_movePoint_33 : decode cX4_movePoint 33 = .ok (.aload_n 2, 1) := by decide +kernel
theorem dX4_movePoint_34 : decode cX4_movePoint 34 = .ok (.getfield 137, 3) := by decide +kernel
theorem dX4_movePoint_37 : decode cX4_movePoint 37 = .ok (.invokevirtual 141, 3) := by decide +kernel
theorem dX4_movePoint_40 : decode cX4_movePoint 40 = .ok (.if_icmp .gt 4, 3) := by decide +kernel
theorem dX4_movePoint_43 : decode cX4_movePoint 43 = .ok (.return_, 1) := by decide +kernel
theorem dX4_movePoint_44 : decode cX4_movePoint 44 = .ok (.aload_n 2, 1) := by decide +kernel
theorem dX4_movePoint_45 : decode cX4_movePoint 45 = .ok (.iconst 0, 1) := by decide +kernel
theorem dX4_movePoint_46 : decode cX4_movePoint 46 = .ok (.putfield 134, 3) := by decide +kernel
theorem dX4_movePoint_49 : decode cX4_movePoint 49 = .ok (.aload_n 2, 1) := by decide +kernel
theorem dX4_movePoint_50 : decode cX4_movePoint 50 = .ok (.getfield 137, 3) := by decide +kernel
theorem dX4_movePoint_53 : decode cX4_movePoint 53 = .ok (.ifCond .eq 24, 3) := by decide +kernel
theorem dX4_movePoint_56 : decode cX4_movePoint 56 = .ok (.aload_n 2, 1) := by decide +kernel
theorem dX4_movePoint_57 : decode cX4_movePoint 57 = .ok (.iconst 0, 1) := by decide +kernel
theorem dX4_movePoint_58 : decode cX4_movePoint 58 = .ok (.putfield 137, 3) := by decide +kernel
theorem dX4_movePoint_61 : decode cX4_movePoint 61 = .ok (.aload_n 0, 1) := by decide +kernel
theorem dX4_movePoint_62 : decode cX4_movePoint 62 = .ok (.getfield 27, 3) := by decide +kernel
theorem dX4_movePoint_65 : decode cX4_movePoint 65 = .ok (.aload_n 0, 1) := by decide +kernel
theorem dX4_movePoint_66 : decode cX4_movePoint 66 = .ok (.getfield 46, 3) := by decide +kernel
theorem dX4_movePoint_69 : decode cX4_movePoint 69 = .ok (.iconst 2, 1) := by decide +kernel
theorem dX4_movePoint_70 : decode cX4_movePoint 70 = .ok (.iload_n 1, 1) := by decide +kernel
theorem dX4_movePoint_71 : decode cX4_movePoint 71 = .ok (.invokevirtual 145, 3) := by decide +kernel
theorem dX4_movePoint_74 : decode cX4_movePoint 74 = .ok (.goto 8, 3) := by decide +kernel
theorem dX4_movePoint_77 : decode cX4_movePoint 77 = .ok (.aload_n 0, 1) := by decide +kernel
theorem dX4_movePoint_78 : decode cX4_movePoint 78 = .ok (.iload_n 1, 1) := by decide +kernel
theorem dX4_movePoint_79 : decode cX4_movePoint 79 = .ok (.invokevirtual 149, 3) := by decide +kernel
theorem dX4_movePoint_82 : decode cX4_movePoint 82 = .ok (.return_, 1) := by decide +kernel
theorem dX4_activate_0 : decode cX4_activate 0 = .ok (.aload_n 0, 1) := by decide +kernel
theorem dX4_activate_1 : decode cX4_activate 1 = .ok (.getfield 11, 3) := by decide +kernel
theorem dX4_activate_4 : decode cX4_activate 4 = .ok (.iload_n 1, 1) := by decide +kernel
theorem dX4_activate_5 : decode cX4_activate 5 = .ok (.aaload, 1) := by decide +kernel
theorem dX4_activate_6 : decode cX4_activate 6 = .ok (.astore_n 2, 1) := by decide +kernel
theorem dX4_activate_7 : decode cX4_activate 7 = .ok (.aload_n 2, 1) := by decide +kernel
theorem dX4_activate_8 : decode cX4_activate 8 = .ok (.iconst 1, 1) := by decide +kernel
theorem dX4_activate_9 : decode cX4_activate 9 = .ok (.putfield 137, 3) := by decide +kernel
theorem dX4_activate_12 : decode cX4_activate 12 = .ok (.aload_n 2, 1) := by decide +kernel
theorem dX4_activate_13 : decode cX4_activate 13 = .ok (.iconst 0, 1) := by decide +kernel
theorem dX4_activate_14 : decode cX4_activate 14 = .ok (.putfield 152, 3) := by decide +kernel
theorem dX4_activate_17 : decode cX4_activate 17 = .ok (.aload_n 2, 1) := by decide +kernel
theorem dX4_activate_18 : decode cX4_activate 18 = .ok (.aload_n 0, 1) := by decide +kernel
theorem dX4_activate_19 : decode cX4_activate 19 = .ok (.getfield 46, 3) := by decide +kernel
theorem dX4_activate_22 : decode cX4_activate 22 = .ok (.putfield 155, 3) := by decide +kernel
theorem dX4_activate_25 : decode cX4_activate 25 = .ok (.aload_n 2, 1) := by decide +kernel
theorem dX4_activate_26 : decode cX4_activate 26 = .ok (.dup, 1) := by decide +kernel
theorem dX4_activate_27 : decode cX4_activate 27 = .ok (.getfield 158, 3) := by decide +kernel
theorem dX4_activate_30 : decode cX4_activate 30 = .ok (.iconst 1, 1) := by decide +kernel
theorem dX4_activate_31 : decode cX4_activate 31 = .ok (.iadd, 1) := by decide +kernel
theorem dX4_activate_32 : decode cX4_activate 32 = .ok (.putfield 158, 3) := by decide +kernel
theorem dX4_activate_35 : decode cX4_activate 35 = .ok (.aload_n 0, 1) := by decide +kernel
theorem dX4_activate_36 : decode cX4_activate 36 = .ok (.dup, 1) := by decide +kernel
theorem dX4_activate_37 : decode cX4_activate 37 = .ok (.getfield 52, 3) := by decide +kernel
theorem dX4_activate_40 : decode cX4_activate 40 = .ok (.iconst 1, 1) := by decide +kernel
theorem dX4_activate_41 : decode cX4_activate 41 = .ok (.iadd, 1) := by decide +kernel
theorem dX4_activate_42 : decode cX4_activate 42 = .ok (.putfield 52, 3) := by decide +kernel
theorem dX4_activate_45 : decode cX4_activate 45 = .ok (.aload_n 0, 1) := by decide +kernel
theorem dX4_activate_46 : decode cX4_activate 46 = .ok (.getfield 20, 3) := by decide +kernel
theorem dX4_activate_49 : decode cX4_activate 49 = .ok (.aload_n 0, 1) := by decide +kernel
theorem dX4_activate_50 : decode cX4_activate 50 = .ok (.getfield 46, 3) := by decide +kernel
theorem dX4_activate_53 : decode cX4_activate 53 = .ok (.invokevirtual 159, 3) := by decide +kernel
theorem dX4_activate_56 : decode cX4_activate 56 = .ok (.aload_n 0, 1) := by decide +kernel
theorem dX4_activate_57 : decode cX4_activate 57 = .ok (.getfield 27, 3) := by decide +kernel
theorem dX4_activate_60 : decode cX4_activate 60 = .ok (.aload_n 0, 1) := by decide +kernel
theorem dX4_activate_61 : decode cX4_activate 61 = .ok (.getfield 46, 3) := by decide +kernel
theorem dX4_activate_64 : decode cX4_activate 64 = .ok (.iconst 1, 1) := by decide +kernel
theorem dX4_activate_65 : decode cX4_activate 65 = .ok (.iload_n 1, 1) := by decide +kernel
theorem dX4_activate_66 : decode cX4_activate 66 = .ok (.invokevirtual 145, 3) := by decide +kernel
theorem dX4_activate_69 : decode cX4_activate 69 = .ok (.return_, 1) := by decide +kernel
theorem dX4_endShelf_0 : decode cX4_endShelf 0 = .ok (.aload_n 0, 1) := by decide +kernel
theorem dX4_endShelf_1 : decode cX4_endShelf 1 = .ok (.getfield 11, 3) := by decide +kernel
theorem dX4_endShelf_4 : decode cX4_endShelf 4 = .ok (.iload_n 1, 1) := by decide +kernel
theorem dX4_endShelf_5 : decode cX4_endShelf 5 = .ok (.aaload, 1) := by decide +kernel
theorem dX4_endShelf_6 : decode cX4_endShelf 6 = .ok (.iconst 0, 1) := by decide +kernel
theorem dX4_endShelf_7 : decode cX4_endShelf 7 = .ok (.putfield 122, 3) := by decide +kernel
theorem dX4_endShelf_10 : decode cX4_endShelf 10 = .ok (.aload_n 0, 1) := by decide +kernel
theorem dX4_endShelf_11 : decode cX4_endShelf 11 = .ok (.getfield 27, 3) := by decide +kernel
theorem dX4_endShelf_14 : decode cX4_endShelf 14 = .ok (.aload_n 0, 1) := by decide +kernel
theorem dX4_endShelf_15 : decode cX4_endShelf 15 = .ok (.getfield 46, 3) := by decide +kernel
theorem dX4_endShelf_18 : decode cX4_endShelf 18 = .ok (.iconst 5, 1) := by decide +kernel
theorem dX4_endShelf_19 : decode cX4_endShelf 19 = .ok (.iload_n 1, 1) := by decide +kernel
theorem dX4_endShelf_20 : decode cX4_endShelf 20 = .ok (.invokevirtual 145, 3) := by decide +kernel
theorem dX4_endShelf_23 : decode cX4_endShelf 23 = .ok (.return_, 1) := by decide +kernel
theorem dX4_lookAtFlood_0 : decode cX4_lookAtFlood 0 = .ok (.aload_n 0, 1) := by decide +kernel
theorem dX4_lookAtFlood_1 : decode cX4_lookAtFlood 1 = .ok (.getfield 20, 3) := by decide +kernel
theorem dX4_lookAtFlood_4 : decode cX4_lookAtFlood 4 = .ok (.aload_n 0, 1) := by decide +kernel
theorem dX4_lookAtFlood_5 : decode cX4_lookAtFlood 5 = .ok (.getfield 46, 3) := by decide +kernel
theorem dX4_lookAtFlood_8 : decode cX4_lookAtFlood 8 = .ok (.invokevirtual 162, 3) := by decide +kernel
theorem dX4_lookAtFlood_11 : decode cX4_lookAtFlood 11 = .ok (.istore_n 1, 1) := by decide +kernel
theorem dX4_lookAtFlood_12 : decode cX4_lookAtFlood 12 = .ok (.aload_n 0, 1) := by decide +kernel
theorem dX4_lookAtFlood_13 : decode cX4_lookAtFlood 13 = .ok (.getfield 20, 3) := by decide +kernel
theorem dX4_lookAtFlood_16 : decode cX4_lookAtFlood 16 = .ok (.getfield 166, 3) := by decide +kernel
theorem dX4_lookAtFlood_19 : decode cX4_lookAtFlood 19 = .ok (.ifCond .ne 52, 3) := by decide +kernel
theorem dX4_lookAtFlood_22 : decode cX4_lookAtFlood 22 = .ok (.iload_n 1, 1) := by decide +kernel
theorem dX4_lookAtFlood_23 : decode cX4_lookAtFlood 23 = .ok (.aload_n 0, 1) := by decide +kernel
theorem dX4_lookAtFlood_24 : decode cX4_lookAtFlood 24 = .ok (.getfield 20, 3) := by decide +kernel
theorem dX4_lookAtFlood_27 : decode cX4_lookAtFlood 27 = .ok (.getfield 107, 3) := by decide +kernel
theorem dX4_lookAtFlood_30 : decode cX4_lookAtFlood 30 = .ok (.if_icmp .le 41, 3) := by decide +kernel
theorem dX4_lookAtFlood_33 : decode cX4_lookAtFlood 33 = .ok (.aload_n 0, 1) := by decide +kernel
theorem dX4_lookAtFlood_34 : decode cX4_lookAtFlood 34 = .ok (.getfield 20, 3) := by decide +kernel
theorem dX4_lookAtFlood_37 : decode cX4_lookAtFlood 37 = .ok (.iconst 1, 1) := by decide +kernel
theorem dX4_lookAtFlood_38 : decode cX4_lookAtFlood 38 = .ok (.putfield 166, 3) := by decide +kernel
theorem dX4_lookAtFlood_41 : decode cX4_lookAtFlood 41 = .ok (.aload_n 0, 1) := by decide +kernel
theorem dX4_lookAtFlood_42 : decode cX4_lookAtFlood 42 = .ok (.getfield 20, 3) := by decide +kernel
theorem dX4_lookAtFlood_45 : decode cX4_lookAtFlood 45 = .ok (.aload_n 0, 1) := by decide +kernel
theorem dX4_lookAtFlood_46 : decode cX4_lookAtFlood 46 = .ok (.getfield 46, 3) := by decide +kernel
theorem dX4_lookAtFlood_49 : decode cX4_lookAtFlood 49 = .ok (.putfield 169, 3) := by decide +kernel
theorem dX4_lookAtFlood_52 : decode cX4_lookAtFlood 52 = .ok (.aload_n 0, 1) := by decide +kernel
theorem dX4_lookAtFlood_53 : decode cX4_lookAtFlood 53 = .ok (.getfield 27, 3) := by decide +kernel
theorem dX4_lookAtFlood_56 : decode cX4_lookAtFlood 56 = .ok (.aload_n 0, 1) := by decide +kernel
theorem dX4_lookAtFlood_57 : decode cX4_lookAtFlood 57 = .ok (.getfield 46, 3) := by decide +kernel
theorem dX4_lookAtFlood_60 : decode cX4_lookAtFlood 60 = .ok (.bipush 6, 2) := by decide +kernel
theorem dX4_lookAtFlood_62 : decode cX4_lookAtFlood 62 = .ok (.sipush (-20009), 3) := by decide +kernel
theorem dX4_lookAtFlood_65 : decode cX4_lookAtFlood 65 = .ok (.invokevirtual 145, 3) := by decide +kernel
theorem dX4_lookAtFlood_68 : decode cX4_lookAtFlood 68 = .ok (.goto 48, 3) := by decide +kernel
theorem dX4_lookAtFlood_71 : decode cX4_lookAtFlood 71 = .ok (.aload_n 0, 1) := by decide +kernel
theorem dX4_lookAtFlood_72 : decode cX4_lookAtFlood 72 = .ok (.getfield 20, 3) := by decide +kernel
theorem dX4_lookAtFlood_75 : decode cX4_lookAtFlood 75 = .ok (.getfield 166, 3) := by decide +kernel
theorem dX4_lookAtFlood_78 : decode cX4_lookAtFlood 78 = .ok (.ifCond .eq 38, 3) := by decide +kernel
theorem dX4_lookAtFlood_81 : decode cX4_lookAtFlood 81 = .ok (.iload_n 1, 1) := by decide +kernel
theorem dX4_lookAtFlood_82 : decode cX4_lookAtFlood 82 = .ok (.aload_n 0, 1) := by decide +kernel
theorem dX4_lookAtFlood_83 : decode cX4_lookAtFlood 83 = .ok (.getfield 20, 3) := by decide +kernel
theorem dX4_lookAtFlood_86 : decode cX4_lookAtFlood 86 = .ok (.getfield 110, 3) := by decide +kernel
theorem dX4_lookAtFlood_89 : decode cX4_lookAtFlood 89 = .ok (.if_icmp .gt 27, 3) := by decide +kernel
theorem dX4_lookAtFlood_92 : decode cX4_lookAtFlood 92 = .ok (.aload_n 0, 1) := by decide +kernel
theorem dX4_lookAtFlood_93 : decode cX4_lookAtFlood 93 = .ok (.getfield 20, 3) := by decide +kernel
theorem dX4_lookAtFlood_96 : decode cX4_lookAtFlood 96 = .ok (.iconst 0, 1) := by decide +kernel
theorem dX4_lookAtFlood_97 : decode cX4_lookAtFlood 97 = .ok (.putfield 166, 3) := by decide +kernel
theorem dX4_lookAtFlood_100 : decode cX4_lookAtFlood 100 = .ok (.aload_n 0, 1) := by decide +kernel
theorem dX4_lookAtFlood_101 : decode cX4_lookAtFlood 101 = .ok (.getfield 27, 3) := by decide +kernel
theorem dX4_lookAtFlood_104 : decode cX4_lookAtFlood 104 = .ok (.aload_n 0, 1) := by decide +kernel
theorem dX4_lookAtFlood_105 : decode cX4_lookAtFlood 105 = .ok (.getfield 46, 3) := by decide +kernel
theorem dX4_lookAtFlood_108 : decode cX4_lookAtFlood 108 = .ok (.bipush 7, 2) := by decide +kernel
theorem dX4_lookAtFlood_110 : decode cX4_lookAtFlood 110 = .ok (.sipush (-20009), 3) := by decide +kernel
theorem dX4_lookAtFlood_113 : decode cX4_lookAtFlood 113 = .ok (.invokevirtual 145, 3) := by decide +kernel
theorem dX4_lookAtFlood_116 : decode cX4_lookAtFlood 116 = .ok (.return_, 1) := by decide +kernel
theorem dX4_acknowledge_0 : decode cX4_acknowledge 0 = .ok (.aload_n 0, 1) := by decide +kernel
theorem dX4_acknowledge_1 : decode cX4_acknowledge 1 = .ok (.iload_n 1, 1) := by decide +kernel
theorem dX4_acknowledge_2 : decode cX4_acknowledge 2 = .ok (.invokevirtual 69, 3) := by decide +kernel
theorem dX4_acknowledge_5 : decode cX4_acknowledge 5 = .ok (.ifCond .ne 7, 3) := by decide +kernel
theorem dX4_acknowledge_8 : decode cX4_acknowledge 8 = .ok (.sipush (-20001), 3) := by decide +kernel
theorem dX4_acknowledge_11 : decode cX4_acknowledge 11 = .ok (.ireturn, 1) := by decide +kernel
theorem dX4_acknowledge_12 : decode cX4_acknowledge 12 = .ok (.aload_n 0, 1) := by decide +kernel
theorem dX4_acknowledge_13 : decode cX4_acknowledge 13 = .ok (.getfield 11, 3) := by decide +kernel
theorem dX4_acknowledge_16 : decode cX4_acknowledge 16 = .ok (.iload_n 1, 1) := by decide +kernel
theorem dX4_acknowledge_17 : decode cX4_acknowledge 17 = .ok (.aaload, 1) := by decide +kernel
theorem dX4_acknowledge_18 : decode cX4_acknowledge 18 = .ok (.astore_n 2, 1) := by decide +kernel
theorem dX4_acknowledge_19 : decode cX4_acknowledge 19 = .ok (.aload_n 2, 1) := by decide +kernel
theorem dX4_acknowledge_20 : decode cX4_acknowledge 20 = .ok (.getfield 152, 3) := by decide +kernel
theorem dX4_acknowledge_23 : decode cX4_acknowledge 23 = .ok (.ifCond .eq 7, 3) := by decide +kernel
theorem dX4_acknowledge_26 : decode cX4_acknowledge 26 = .ok (.sipush (-20002), 3) := by decide +kernel
theorem dX4_acknowledge_29 : decode cX4_acknowledge 29 = .ok (.ireturn, 1) := by decide +kernel
theorem dX4_acknowledge_30 : decode cX4_acknowledge 30 = .ok (.aload_n 2, 1) := by decide +kernel
theorem dX4_acknowledge_31 : decode cX4_acknowledge 31 = .ok (.iconst 1, 1) := by decide +kernel
theorem dX4_acknowledge_32 : decode cX4_acknowledge 32 = .ok (.putfield 152, 3) := by decide +kernel
theorem dX4_acknowledge_35 : decode cX4_acknowledge 35 = .ok (.aload_n 0, 1) := by decide +kernel
theorem dX4_acknowledge_36 : decode cX4_acknowledge 36 = .ok (.getfield 46, 3) := by decide +kernel
theorem dX4_acknowledge_39 : decode cX4_acknowledge 39 = .ok (.aload_n 2, 1) := by decide +kernel
theorem dX4_acknowledge_40 : decode cX4_acknowledge 40 = .ok (.getfield 155, 3) := by decide +kernel
theorem dX4_acknowledge_43 : decode cX4_acknowledge 43 = .ok (.isub, 1) := by decide +kernel
theorem dX4_acknowledge_44 : decode cX4_acknowledge 44 = .ok (.istore_n 3, 1) := by decide +kernel
theorem dX4_acknowledge_45 : decode cX4_acknowledge 45 = .ok (.aload_n 0, 1) := by decide +kernel
theorem dX4_acknowledge_46 : decode cX4_acknowledge 46 = .ok (.dup, 1) := by decide +kernel
theorem dX4_acknowledge_47 : decode cX4_acknowledge 47 = .ok (.getfield 55, 3) := by decide +kernel
theorem dX4_acknowledge_50 : decode cX4_acknowledge 50 = .ok (.iload_n 3, 1) := by decide +kernel
theorem dX4_acknowledge_51 : decode cX4_acknowledge 51 = .ok (.iadd, 1) := by decide +kernel
theorem dX4_acknowledge_52 : decode cX4_acknowledge 52 = .ok (.putfield 55, 3) := by decide +kernel
theorem dX4_acknowledge_55 : decode cX4_acknowledge 55 = .ok (.aload_n 0, 1) := by decide +kernel
theorem dX4_acknowledge_56 : decode cX4_acknowledge 56 = .ok (.dup, 1) := by decide +kernel
theorem dX4_acknowledge_57 : decode cX4_acknowledge 57 = .ok (.getfield 58, 3) := by decide +kernel
theorem dX4_acknowledge_60 : decode cX4_acknowledge 60 = .ok (.iconst 1, 1) := by decide +kernel
theorem dX4_acknowledge_61 : decode cX4_acknowledge 61 = .ok (.iadd, 1) := by decide +kernel
theorem dX4_acknowledge_62 : decode cX4_acknowledge 62 = .ok (.putfield 58, 3) := by decide +kernel
theorem dX4_acknowledge_65 : decode cX4_acknowledge 65 = .ok (.aload_n 0, 1) := by decide +kernel
theorem dX4_acknowledge_66 : decode cX4_acknowledge 66 = .ok (.getfield 27, 3) := by decide +kernel
theorem dX4_acknowledge_69 : decode cX4_acknowledge 69 = .ok (.aload_n 0, 1) := by decide +kernel
theorem dX4_acknowledge_70 : decode cX4_acknowledge 70 = .ok (.getfield 46, 3) := by decide +kernel
theorem dX4_acknowledge_73 : decode cX4_acknowledge 73 = .ok (.iconst 3, 1) := by decide +kernel
theorem dX4_acknowledge_74 : decode cX4_acknowledge 74 = .ok (.iload_n 1, 1) := by decide +kernel
theorem dX4_acknowledge_75 : decode cX4_acknowledge 75 = .ok (.invokevirtual 145, 3) := by decide +kernel
theorem dX4_acknowledge_78 : decode cX4_acknowledge 78 = .ok (.iload_n 3, 1) := by decide +kernel
theorem dX4_acknowledge_79 : decode cX4_acknowledge 79 = .ok (.ireturn, 1) := by decide +kernel
theorem dX4_putOnShelf_0 : decode cX4_putOnShelf 0 = .ok (.aload_n 0, 1) := by decide +kernel
theorem dX4_putOnShelf_1 : decode cX4_putOnShelf 1 = .ok (.iload_n 1, 1) := by decide +kernel
theorem dX4_putOnShelf_2 : decode cX4_putOnShelf 2 = .ok (.invokevirtual 69, 3) := by decide +kernel
theorem dX4_putOnShelf_5 : decode cX4_putOnShelf 5 = .ok (.ifCond .eq 14, 3) := by decide +kernel
theorem dX4_putOnShelf_8 : decode cX4_putOnShelf 8 = .ok (.iload_n 2, 1) := by decide +kernel
theorem dX4_putOnShelf_9 : decode cX4_putOnShelf 9 = .ok (.iconst 1, 1) := by decide +kernel
theorem dX4_putOnShelf_10 : decode cX4_putOnShelf 10 = .ok (.sipush 1000, 3) := by decide +kernel
theorem dX4_putOnShelf_13 : decode cX4_putOnShelf 13 = .ok (.invokestatic 61, 3) := by decide +kernel
theorem dX4_putOnShelf_16 : decode cX4_putOnShelf 16 = .ok (.ifCond .ne 7, 3) := by decide +kernel
theorem dX4_putOnShelf_19 : decode cX4_putOnShelf 19 = .ok (.sipush (-20001), 3) := by decide +kernel
theorem dX4_putOnShelf_22 : decode cX4_putOnShelf 22 = .ok (.ireturn, 1) := by decide +kernel
theorem dX4_putOnShelf_23 : decode cX4_putOnShelf 23 = .ok (.aload_n 0, 1) := by decide +kernel
theorem dX4_putOnShelf_24 : decode cX4_putOnShelf 24 = .ok (.getfield 11, 3) := by decide +kernel
theorem dX4_putOnShelf_27 : decode cX4_putOnShelf 27 = .ok (.iload_n 1, 1) := by decide +kernel
theorem dX4_putOnShelf_28 : decode cX4_putOnShelf 28 = .ok (.aaload, 1) := by decide +kernel
theorem dX4_putOnShelf_29 : decode cX4_putOnShelf 29 = .ok (.invokevirtual 83, 3) := by decide +kernel
theorem dX4_putOnShelf_32 : decode cX4_putOnShelf 32 = .ok (.ifCond .eq 7, 3) := by decide +kernel
theorem dX4_putOnShelf_35 : decode cX4_putOnShelf 35 = .ok (.sipush (-20002), 3) := by decide +kernel
theorem dX4_putOnShelf_38 : decode cX4_putOnShelf 38 = .ok (.ireturn, 1) := by decide +kernel
theorem dX4_putOnShelf_39 : decode cX4_putOnShelf 39 = .ok (.aload_n 0, 1) := by decide +kernel
theorem dX4_putOnShelf_40 : decode cX4_putOnShelf 40 = .ok (.getfield 11, 3) := by decide +kernel
theorem dX4_putOnShelf_43 : decode cX4_putOnShelf 43 = .ok (.iload_n 1, 1) := by decide +kernel
theorem dX4_putOnShelf_44 : decode cX4_putOnShelf 44 = .ok (.aaload, 1) := by decide +kernel
theorem dX4_putOnShelf_45 : decode cX4_putOnShelf 45 = .ok (.aload_n 0, 1) := by decide +kernel
theorem dX4_putOnShelf_46 : decode cX4_putOnShelf 46 = .ok (.getfield 46, 3) := by decide +kernel
theorem dX4_putOnShelf_49 : decode cX4_putOnShelf 49 = .ok (.iload_n 2, 1) := by decide +kernel
theorem dX4_putOnShelf_50 : decode cX4_putOnShelf 50 = .ok (.iadd, 1) := by decide +kernel
theorem dX4_putOnShelf_51 : decode cX4_putOnShelf 51 = .ok (.putfield 122, 3) := by decide +kernel
theorem dX4_putOnShelf_54 : decode cX4_putOnShelf 54 = .ok (.aload_n 0, 1) := by decide +kernel
theorem dX4_putOnShelf_55 : decode cX4_putOnShelf 55 = .ok (.getfield 27, 3) := by decide +kernel
theorem dX4_putOnShelf_58 : decode cX4_putOnShelf 58 = .ok (.aload_n 0, 1) := by decide +kernel
theorem dX4_putOnShelf_59 : decode cX4_putOnShelf 59 = .ok (.getfield 46, 3) := by decide +kernel
theorem dX4_putOnShelf_62 : decode cX4_putOnShelf 62 = .ok (.iconst 4, 1) := by decide +kernel
theorem dX4_putOnShelf_63 : decode cX4_putOnShelf 63 = .ok (.iload_n 1, 1) := by decide +kernel
theorem dX4_putOnShelf_64 : decode cX4_putOnShelf 64 = .ok (.invokevirtual 145, 3) := by decide +kernel
theorem dX4_putOnShelf_67 : decode cX4_putOnShelf 67 = .ok (.aload_n 0, 1) := by decide +kernel
theorem dX4_putOnShelf_68 : decode cX4_putOnShelf 68 = .ok (.getfield 46, 3) := by decide +kernel
theorem dX4_putOnShelf_71 : decode cX4_putOnShelf 71 = .ok (.iload_n 2, 1) := by decide +kernel
theorem dX4_putOnShelf_72 : decode cX4_putOnShelf 72 = .ok (.iadd, 1) := by decide +kernel
theorem dX4_putOnShelf_73 : decode cX4_putOnShelf 73 = .ok (.ireturn, 1) := by decide +kernel
theorem dX4_takeFromShelf_0 : decode cX4_takeFromShelf 0 = .ok (.aload_n 0, 1) := by decide +kernel
theorem dX4_takeFromShelf_1 : decode cX4_takeFromShelf 1 = .ok (.iload_n 1, 1) := by decide +kernel
theorem dX4_takeFromShelf_2 : decode cX4_takeFromShelf 2 = .ok (.invokevirtual 69, 3) := by decide +kernel
theorem dX4_takeFromShelf_5 : decode cX4_takeFromShelf 5 = .ok (.ifCond .ne 7, 3) := by decide +kernel
theorem dX4_takeFromShelf_8 : decode cX4_takeFromShelf 8 = .ok (.sipush (-20001), 3) := by decide +kernel
theorem dX4_takeFromShelf_11 : decode cX4_takeFromShelf 11 = .ok (.ireturn, 1) := by decide +kernel
theorem dX4_takeFromShelf_12 : decode cX4_takeFromShelf 12 = .ok (.aload_n 0, 1) := by decide +kernel
theorem dX4_takeFromShelf_13 : decode cX4_takeFromShelf 13 = .ok (.getfield 11, 3) := by decide +kernel
theorem dX4_takeFromShelf_16 : decode cX4_takeFromShelf 16 = .ok (.iload_n 1, 1) := by decide +kernel
theorem dX4_takeFromShelf_17 : decode cX4_takeFromShelf 17 = .ok (.aaload, 1) := by decide +kernel
theorem dX4_takeFromShelf_18 : decode cX4_takeFromShelf 18 = .ok (.invokevirtual 87, 3) := by decide +kernel
theorem dX4_takeFromShelf_21 : decode cX4_takeFromShelf 21 = .ok (.ifCond .ne 7, 3) := by decide +kernel
theorem dX4_takeFromShelf_24 : decode cX4_takeFromShelf 24 = .ok (.sipush (-20002), 3) := by decide +kernel
theorem dX4_takeFromShelf_27 : decode cX4_takeFromShelf 27 = .ok (.ireturn, 1) := by decide +kernel
theorem dX4_takeFromShelf_28 : decode cX4_takeFromShelf 28 = .ok (.aload_n 0, 1) := by decide +kernel
theorem dX4_takeFromShelf_29 : decode cX4_takeFromShelf 29 = .ok (.getfield 11, 3) := by decide +kernel
theorem dX4_takeFromShelf_32 : decode cX4_takeFromShelf 32 = .ok (.iload_n 1, 1) := by decide +kernel
theorem dX4_takeFromShelf_33 : decode cX4_takeFromShelf 33 = .ok (.aaload, 1) := by decide +kernel
theorem dX4_takeFromShelf_34 : decode cX4_takeFromShelf 34 = .ok (.getfield 122, 3) := by decide +kernel
theorem dX4_takeFromShelf_37 : decode cX4_takeFromShelf 37 = .ok (.aload_n 0, 1) := by decide +kernel
theorem dX4_takeFromShelf_38 : decode cX4_takeFromShelf 38 = .ok (.getfield 46, 3) := by decide +kernel
theorem dX4_takeFromShelf_41 : decode cX4_takeFromShelf 41 = .ok (.isub, 1) := by decide +kernel
theorem dX4_takeFromShelf_42 : decode cX4_takeFromShelf 42 = .ok (.istore_n 2, 1) := by decide +kernel
theorem dX4_takeFromShelf_43 : decode cX4_takeFromShelf 43 = .ok (.aload_n 0, 1) := by decide +kernel
theorem dX4_takeFromShelf_44 : decode cX4_takeFromShelf 44 = .ok (.iload_n 1, 1) := by decide +kernel
theorem dX4_takeFromShelf_45 : decode cX4_takeFromShelf 45 = .ok (.invokevirtual 90, 3) := by decide +kernel
theorem dX4_takeFromShelf_48 : decode cX4_takeFromShelf 48 = .ok (.iload_n 2, 1) := by decide +kernel
theorem dX4_takeFromShelf_49 : decode cX4_takeFromShelf 49 = .ok (.ireturn, 1) := by decide +kernel
theorem dX4_pointNumber_0 : decode cX4_pointNumber 0 = .ok (.iload_n 2, 1) := by decide +kernel
theorem dX4_pointNumber_1 : decode cX4_pointNumber 1 = .ok (.bipush 15, 2) := by decide +kernel
theorem dX4_pointNumber_3 : decode cX4_pointNumber 3 = .ok (.if_icmp .ne 11, 3) := by decide +kernel
theorem dX4_pointNumber_6 : decode cX4_pointNumber 6 = .ok (.aload_n 0, 1) := by decide +kernel
theorem dX4_pointNumber_7 : decode cX4_pointNumber 7 = .ok (.iload_n 1, 1) := by decide +kernel
theorem dX4_pointNumber_8 : decode cX4_pointNumber 8 = .ok (.invokevirtual 172, 3) := by decide +kernel
theorem dX4_pointNumber_11 : decode cX4_pointNumber 11 = .ok (.goto 13, 3) := by decide +kernel
theorem dX4_pointNumber_14 : decode cX4_pointNumber 14 = .ok (.aload_n 0, 1) := by decide +kernel
theorem dX4_pointNumber_15 : decode cX4_pointNumber 15 = .ok (.getfield 11, 3) := by decide +kernel
theorem dX4_pointNumber_18 : decode cX4_pointNumber 18 = .ok (.iload_n 1, 1) := by decide +kernel
theorem dX4_pointNumber_19 : decode cX4_pointNumber 19 = .ok (.aaload, 1) := by decide +kernel
theorem dX4_pointNumber_20 : decode cX4_pointNumber 20 = .ok (.iload_n 2, 1) := by decide +kernel
theorem dX4_pointNumber_21 : decode cX4_pointNumber 21 = .ok (.invokevirtual 175, 3) := by decide +kernel
theorem dX4_pointNumber_24 : decode cX4_pointNumber 24 = .ok (.ireturn, 1) := by decide +kernel
theorem dX4_whyHidden_0 : decode cX4_whyHidden 0 = .ok (.aload_n 0, 1) := by decide +kernel
theorem dX4_whyHidden_1 : decode cX4_whyHidden 1 = .ok (.getfield 11, 3) := by decide +kernel
theorem dX4_whyHidden_4 : decode cX4_whyHidden 4 = .ok (.iload_n 1, 1) := by decide +kernel
theorem dX4_whyHidden_5 : decode cX4_whyHidden 5 = .ok (.aaload, 1) := by decide +kernel
theorem dX4_whyHidden_6 : decode cX4_whyHidden 6 = .ok (.astore_n 2, 1) := by decide +kernel
theorem dX4_whyHidden_7 : decode cX4_whyHidden 7 = .ok (.aload_n 2, 1) := by decide +kernel
theorem dX4_whyHidden_8 : decode cX4_whyHidden 8 = .ok (.invokevirtual 178, 3) := by decide +kernel
theorem dX4_whyHidden_11 : decode cX4_whyHidden 11 = .ok (.ifCond .ne 7, 3) := by decide +kernel
theorem dX4_whyHidden_14 : decode cX4_whyHidden 14 = .ok (.sipush (-20009), 3) := by decide +kernel
theorem dX4_whyHidden_17 : decode cX4_whyHidden 17 = .ok (.ireturn, 1) := by decide +kernel
theorem dX4_whyHidden_18 : decode cX4_whyHidden 18 = .ok (.aload_n 2, 1) := by decide +kernel
theorem dX4_whyHidden_19 : decode cX4_whyHidden 19 = .ok (.invokevirtual 87, 3) := by decide +kernel
theorem dX4_whyHidden_22 : decode cX4_whyHidden 22 = .ok (.ifCond .eq 5, 3) := by decide +kernel
theorem dX4_whyHidden_25 : decode cX4_whyHidden 25 = .ok (.iconst 1, 1) := by decide +kernel
theorem dX4_whyHidden_26 : decode cX4_whyHidden 26 = .ok (.ireturn, 1) := by decide +kernel
theorem dX4_whyHidden_27 : decode cX4_whyHidden 27 = .ok (.aload_n 2, 1) := by decide +kernel
theorem dX4_whyHidden_28 : decode cX4_whyHidden 28 = .ok (.invokevirtual 83, 3) := by decide +kernel
theorem dX4_whyHidden_31 : decode cX4_whyHidden 31 = .ok (.ifCond .eq 5, 3) := by decide +kernel
theorem dX4_whyHidden_34 : decode cX4_whyHidden 34 = .ok (.iconst 0, 1) := by decide +kernel
theorem dX4_whyHidden_35 : decode cX4_whyHidden 35 = .ok (.ireturn, 1) := by decide +kernel
theorem dX4_whyHidden_36 : decode cX4_whyHidden 36 = .ok (.aload_n 2, 1) := by decide +kernel
theorem dX4_whyHidden_37 : decode cX4_whyHidden 37 = .ok (.getfield 80, 3) := by decide +kernel
theorem dX4_whyHidden_40 : decode cX4_whyHidden 40 = .ok (.bipush 6, 2) := by decide +kernel
theorem dX4_whyHidden_42 : decode cX4_whyHidden 42 = .ok (.iaload, 1) := by decide +kernel
theorem dX4_whyHidden_43 : decode cX4_whyHidden 43 = .ok (.aload_n 0, 1) := by decide +kernel
theorem dX4_whyHidden_44 : decode cX4_whyHidden 44 = .ok (.getfield 49, 3) := by decide +kernel
theorem dX4_whyHidden_47 : decode cX4_whyHidden 47 = .ok (.ishr, 1) := by decide +kernel
theorem dX4_whyHidden_48 : decode cX4_whyHidden 48 = .ok (.iconst 1, 1) := by decide +kernel
theorem dX4_whyHidden_49 : decode cX4_whyHidden 49 = .ok (.iand, 1) := by decide +kernel
theorem dX4_whyHidden_50 : decode cX4_whyHidden 50 = .ok (.iconst 1, 1) := by decide +kernel
theorem dX4_whyHidden_51 : decode cX4_whyHidden 51 = .ok (.if_icmp .ne 5, 3) := by decide +kernel
theorem dX4_whyHidden_54 : decode cX4_whyHidden 54 = .ok (.iconst 2, 1) := by decide +kernel
theorem dX4_whyHidden_55 : decode cX4_whyHidden 55 = .ok (.ireturn, 1) := by decide +kernel
theorem dX4_whyHidden_56 : decode cX4_whyHidden 56 = .ok (.aload_n 0, 1) := by decide +kernel
theorem dX4_whyHidden_57 : decode cX4_whyHidden 57 = .ok (.aload_n 2, 1) := by decide +kernel
theorem dX4_whyHidden_58 : decode cX4_whyHidden 58 = .ok (.invokevirtual 181, 3) := by decide +kernel
theorem dX4_whyHidden_61 : decode cX4_whyHidden 61 = .ok (.ifCond .eq 5, 3) := by decide +kernel
theorem dX4_whyHidden_64 : decode cX4_whyHidden 64 = .ok (.iconst 3, 1) := by decide +kernel
theorem dX4_whyHidden_65 : decode cX4_whyHidden 65 = .ok (.ireturn, 1) := by decide +kernel
theorem dX4_whyHidden_66 : decode cX4_whyHidden 66 = .ok (.aload_n 0, 1) := by decide +kernel
theorem dX4_whyHidden_67 : decode cX4_whyHidden 67 = .ok (.aload_n 2, 1) := by decide +kernel
theorem dX4_whyHidden_68 : decode cX4_whyHidden 68 = .ok (.invokevirtual 185, 3) := by decide +kernel
theorem dX4_whyHidden_71 : decode cX4_whyHidden 71 = .ok (.ifCond .eq 7, 3) := by decide +kernel
theorem dX4_whyHidden_74 : decode cX4_whyHidden 74 = .ok (.iconst 4, 1) := by decide +kernel
theorem dX4_whyHidden_75 : decode cX4_whyHidden 75 = .ok (.goto 4, 3) := by decide +kernel
theorem dX4_whyHidden_78 : decode cX4_whyHidden 78 = .ok (.iconst 0, 1) := by decide +kernel
theorem dX4_whyHidden_79 : decode cX4_whyHidden 79 = .ok (.ireturn, 1) := by decide +kernel
theorem dX4_hasRootInAlarm_0 : decode cX4_hasRootInAlarm 0 = .ok (.aload_n 1, 1) := by decide +kernel
theorem dX4_hasRootInAlarm_1 : decode cX4_hasRootInAlarm 1 = .ok (.getfield 98, 3) := by decide +kernel
theorem dX4_hasRootInAlarm_4 : decode cX4_hasRootInAlarm 4 = .ok (.istore_n 2, 1) := by decide +kernel
theorem dX4_hasRootInAlarm_5 : decode cX4_hasRootInAlarm 5 = .ok (.iconst 0, 1) := by decide +kernel
theorem dX4_hasRootInAlarm_6 : decode cX4_hasRootInAlarm 6 = .ok (.istore_n 3, 1) := by decide +kernel
theorem dX4_hasRootInAlarm_7 : decode cX4_hasRootInAlarm 7 = .ok (.iload_n 3, 1) := by decide +kernel
theorem dX4_hasRootInAlarm_8 : decode cX4_hasRootInAlarm 8 = .ok (.bipush 16, 2) := by decide +kernel
theorem dX4_hasRootInAlarm_10 : decode cX4_hasRootInAlarm 10 = .ok (.if_icmp .ge 41, 3) := by decide +kernel
theorem dX4_hasRootInAlarm_13 : decode cX4_hasRootInAlarm 13 = .ok (.aload_n 0, 1) := by decide +kernel
theorem dX4_hasRootInAlarm_14 : decode cX4_hasRootInAlarm 14 = .ok (.iload_n 2, 1) := by decide +kernel
theorem dX4_hasRootInAlarm_15 : decode cX4_hasRootInAlarm 15 = .ok (.invokevirtual 69, 3) := by decide +kernel
theorem dX4_hasRootInAlarm_18 : decode cX4_hasRootInAlarm 18 = .ok (.ifCond .eq 33, 3) := by decide +kernel
theorem dX4_hasRootInAlarm_21 : decode cX4_hasRootInAlarm 21 = .ok (.aload_n 0, 1) := by decide +kernel
theorem dX4_hasRootInAlarm_22 : decode cX4_hasRootInAlarm 22 = .ok (.getfield 11, 3) := by decide +kernel
theorem dX4_hasRootInAlarm_25 : decode cX4_hasRootInAlarm 25 = .ok (.iload_n 2, 1) := by decide +kernel
theorem dX4_hasRootInAlarm_26 : decode cX4_hasRootInAlarm 26 = .ok (.aaload, 1) := by decide +kernel
theorem dX4_hasRootInAlarm_27 : decode cX4_hasRootInAlarm 27 = .ok (.getfield 137, 3) := by decide +kernel
theorem dX4_hasRootInAlarm_30 : decode cX4_hasRootInAlarm 30 = .ok (.ifCond .eq 5, 3) := by decide +kernel
theorem dX4_hasRootInAlarm_33 : decode cX4_hasRootInAlarm 33 = .ok (.iconst 1, 1) := by decide +kernel
theorem dX4_hasRootInAlarm_34 : decode cX4_hasRootInAlarm 34 = .ok (.ireturn, 1) := by decide +kernel
theorem dX4_hasRootInAlarm_35 : decode cX4_hasRootInAlarm 35 = .ok (.aload_n 0, 1) := by decide +kernel
theorem dX4_hasRootInAlarm_36 : decode cX4_hasRootInAlarm 36 = .ok (.getfield 11, 3) := by decide +kernel
theorem dX4_hasRootInAlarm_39 : decode cX4_hasRootInAlarm 39 = .ok (.iload_n 2, 1) := by decide +kernel
theorem dX4_hasRootInAlarm_40 : decode cX4_hasRootInAlarm 40 = .ok (.aaload, 1) := by decide +kernel
theorem dX4_hasRootInAlarm_41 : decode cX4_hasRootInAlarm 41 = .ok (.getfield 98, 3) := by decide +kernel
theorem dX4_hasRootInAlarm_44 : decode cX4_hasRootInAlarm 44 = .ok (.istore_n 2, 1) := by decide +kernel
theorem dX4_hasRootInAlarm_45 : decode cX4_hasRootInAlarm 45 = .ok (.iinc 3 1, 3) := by decide +kernel
theorem dX4_hasRootInAlarm_48 : decode cX4_hasRootInAlarm 48 = .ok (.goto (-41), 3) := by decide +kernel
theorem dX4_hasRootInAlarm_51 : decode cX4_hasRootInAlarm 51 = .ok (.iconst 0, 1) := by decide +kernel
theorem dX4_hasRootInAlarm_52 : decode cX4_hasRootInAlarm 52 = .ok (.ireturn, 1) := by decide +kernel
theorem dX4_isFlooded_0 : decode cX4_isFlooded 0 = .ok (.aload_n 0, 1) := by decide +kernel
theorem dX4_isFlooded_1 : decode cX4_isFlooded 1 = .ok (.getfield 20, 3) := by decide +kernel
theorem dX4_isFlooded_4 : decode cX4_isFlooded 4 = .ok (.getfield 166, 3) := by decide +kernel
theorem dX4_isFlooded_7 : decode cX4_isFlooded 7 = .ok (.ifCond .eq 31, 3) := by decide +kernel
theorem dX4_isFlooded_10 : decode cX4_isFlooded 10 = .ok (.aload_n 1, 1) := by decide +kernel
theorem dX4_isFlooded_11 : decode cX4_isFlooded 11 = .ok (.getfield 155, 3) := by decide +kernel
theorem dX4_isFlooded_14 : decode cX4_isFlooded 14 = .ok (.aload_n 0, 1) := by decide +kernel
theorem dX4_isFlooded_15 : decode cX4_isFlooded 15 = .ok (.getfield 20, 3) := by decide +kernel
theorem dX4_isFlooded_18 : decode cX4_isFlooded 18 = .ok (.getfield 169, 3) := by decide +kernel
theorem dX4_isFlooded_21 : decode cX4_isFlooded 21 = .ok (.if_icmp .lt 17, 3) := by decide +kernel
theorem dX4_isFlooded_24 : decode cX4_isFlooded 24 = .ok (.aload_n 1, 1) := by decide +kernel
theorem dX4_isFlooded_25 : decode cX4_isFlooded 25 = .ok (.getfield 80, 3) := by decide +kernel
theorem dX4_isFlooded_28 : decode cX4_isFlooded 28 = .ok (.iconst 5, 1) := by decide +kernel
theorem dX4_isFlooded_29 : decode cX4_isFlooded 29 = .ok (.iaload, 1) := by decide +kernel
theorem dX4_isFlooded_30 : decode cX4_isFlooded 30 = .ok (.iconst 3, 1) := by decide +kernel
theorem dX4_isFlooded_31 : decode cX4_isFlooded 31 = .ok (.if_icmp .lt 7, 3) := by decide +kernel
theorem dX4_isFlooded_34 : decode cX4_isFlooded 34 = .ok (.iconst 1, 1) := by decide +kernel
theorem dX4_isFlooded_35 : decode cX4_isFlooded 35 = .ok (.goto 4, 3) := by decide +kernel
theorem dX4_isFlooded_38 : decode cX4_isFlooded 38 = .ok (.iconst 0, 1) := by decide +kernel
theorem dX4_isFlooded_39 : decode cX4_isFlooded 39 = .ok (.ireturn, 1) := by decide +kernel
theorem dX4_fillList_0 : decode cX4_fillList 0 = .ok (.iconst 0, 1) := by decide +kernel
theorem dX4_fillList_1 : decode cX4_fillList 1 = .ok (.istore_n 2, 1) := by decide +kernel
theorem dX4_fillList_2 : decode cX4_fillList 2 = .ok (.iconst 0, 1) := by decide +kernel
theorem dX4_fillList_3 : decode cX4_fillList 3 = .ok (.istore_n 3, 1) := by decide +kernel
theorem dX4_fillList_4 : decode cX4_fillList 4 = .ok (.iload_n 3, 1) := by decide +kernel
theorem dX4_fillList_5 : decode cX4_fillList 5 = .ok (.aload_n 0, 1) := by decide +kernel
theorem dX4_fillList_6 : decode cX4_fillList 6 = .ok (.getfield 32, 3) := by decide +kernel
theorem dX4_fillList_9 : decode cX4_fillList 9 = .ok (.if_icmp .ge 63, 3) := by decide +kernel
theorem dX4_fillList_12 : decode cX4_fillList 12 = .ok (.aload_n 0, 1) := by decide +kernel
theorem dX4_fillList_13 : decode cX4_fillList 13 = .ok (.iload_n 3, 1) := by decide +kernel
theorem dX4_fillList_14 : decode cX4_fillList 14 = .ok (.invokevirtual 172, 3) := by decide +kernel
theorem dX4_fillList_17 : decode cX4_fillList 17 = .ok (.ifCond .ne 49, 3) := by decide +kernel
theorem dX4_fillList_20 : decode cX4_fillList 20 = .ok (.iload_n 2, 1) := by decide +kernel
theorem dX4_fillList_21 : decode cX4_fillList 21 = .ok (.istore 4, 2) := by decide +kernel
theorem dX4_fillList_23 : decode cX4_fillList 23 = .ok (.iload 4, 2) := by decide +kernel
theorem dX4_fillList_25 : decode cX4_fillList 25 = .ok (.ifCond .le 33, 3) := by decide +kernel
theorem dX4_fillList_28 : decode cX4_fillList 28 = .ok (.aload_n 0, 1) := by decide +kernel
theorem dX4_fillList_29 : decode cX4_fillList 29 = .ok (.iload_n 3, 1) := by decide +kernel
theorem dX4_fillList_30 : decode cX4_fillList 30 = .ok (.aload_n 1, 1) := by decide +kernel
theorem dX4_fillList_31 : decode cX4_fillList 31 = .ok (.iload 4, 2) := by decide +kernel
theorem dX4_fillList_33 : decode cX4_fillList 33 = .ok (.iconst 1, 1) := by decide +kernel
theorem dX4_fillList_34 : decode cX4_fillList 34 = .ok (.isub, 1) := by decide +kernel
theorem dX4_fillList_35 : decode cX4_fillList 35 = .ok (.iaload, 1) := by decide +kernel
theorem dX4_fillList_36 : decode cX4_fillList 36 = .ok (.invokevirtual 188, 3) := by decide +kernel
theorem dX4_fillList_39 : decode cX4_fillList 39 = .ok (.ifCond .eq 19, 3) := by decide +kernel
theorem dX4_fillList_42 : decode cX4_fillList 42 = .ok (.aload_n 1, 1) := by decide +kernel
theorem dX4_fillList_43 : decode cX4_fillList 43 = .ok (.iload 4, 2) := by decide +kernel
theorem dX4_fillList_45 : decode cX4_fillList 45 = .ok (.aload_n 1, 1) := by decide +kernel
theorem dX4_fillList_46 : decode cX4_fillList 46 = .ok (.iload 4, 2) := by decide +kernel
theorem dX4_fillList_48 : decode cX4_fillList 48 = .ok (.iconst 1, 1) := by decide +kernel
theorem dX4_fillList_49 : decode cX4_fillList 49 = .ok (.isub, 1) := by decide +kernel
theorem dX4_fillList_50 : decode cX4_fillList 50 = .ok (.iaload, 1) := by decide +kernel
theorem dX4_fillList_51 : decode cX4_fillList 51 = .ok (.iastore, 1) := by decide +kernel
theorem dX4_fillList_52 : decode cX4_fillList 52 = .ok (.iinc 4 (-1), 3) := by decide +kernel
theorem dX4_fillList_55 : decode cX4_fillList 55 = .ok (.goto (-32), 3) := by decide +kernel
theorem dX4_fillList_58 : decode cX4_fillList 58 = .ok (.aload_n 1, 1) := by decide +kernel
theorem dX4_fillList_59 : decode cX4_fillList 59 = .ok (.iload 4, 2) := by decide +kernel
theorem dX4_fillList_61 : decode cX4_fillList 61 = .ok (.iload_n 3, 1) := by decide +kernel
theorem dX4_fillList_62 : decode cX4_fillList 62 = .ok (.iastore, 1) := by decide +kernel
theorem dX4_fillList_63 : decode cX4_fillList 63 = .ok (.iinc 2 1, 3) := by decide +kernel
theorem dX4_fillList_66 : decode cX4_fillList 66 = .ok (.iinc 3 1, 3) := by decide +kernel
theorem dX4_fillList_69 : decode cX4_fillList 69 = .ok (.goto (-65), 3) := by decide +kernel
theorem dX4_fillList_72 : decode cX4_fillList 72 = .ok (.iload_n 2, 1) := by decide +kernel
theorem dX4_fillList_73 : decode cX4_fillList 73 = .ok (.ireturn, 1) := by decide +kernel
theorem dX4_comesBefore_0 : decode cX4_comesBefore 0 = .ok (.aload_n 0, 1) := by decide +kernel
theorem dX4_comesBefore_1 : decode cX4_comesBefore 1 = .ok (.getfield 11, 3) := by decide +kernel
theorem dX4_comesBefore_4 : decode cX4_comesBefore 4 = .ok (.iload_n 1, 1) := by decide +kernel
theorem dX4_comesBefore_5 : decode cX4_comesBefore 5 = .ok (.aaload, 1) := by decide +kernel
theorem dX4_comesBefore_6 : decode cX4_comesBefore 6 = .ok (.astore_n 3, 1) := by decide +kernel
theorem dX4_comesBefore_7 : decode cX4_comesBefore 7 = .ok (.aload_n 0, 1) := by decide +kernel
theorem dX4_comesBefore_8 : decode cX4_comesBefore 8 = .ok (.getfield 11, 3) := by decide +kernel
theorem dX4_comesBefore_11 : decode cX4_comesBefore 11 = .ok (.iload_n 2, 1) := by decide +kernel
theorem dX4_comesBefore_12 : decode cX4_comesBefore 12 = .ok (.aaload, 1) := by decide +kernel
theorem dX4_comesBefore_13 : decode cX4_comesBefore 13 = .ok (.astore 4, 2) := by decide +kernel
theorem dX4_comesBefore_15 : decode cX4_comesBefore 15 = .ok (.aload_n 3, 1) := by decide +kernel
theorem dX4_comesBefore_16 : decode cX4_comesBefore 16 = .ok (.getfield 80, 3) := by decide +kernel
theorem dX4_comesBefore_19 : decode cX4_comesBefore 19 = .ok (.iconst 5, 1) := by decide +kernel
theorem dX4_comesBefore_20 : decode cX4_comesBefore 20 = .ok (.iaload, 1) := by decide +kernel
theorem dX4_comesBefore_21 : decode cX4_comesBefore 21 = .ok (.aload 4, 2) := by decide +kernel
theorem dX4_comesBefore_23 : decode cX4_comesBefore 23 = .ok (.getfield 80, 3) := by decide +kernel
theorem dX4_comesBefore_26 : decode cX4_comesBefore 26 = .ok (.iconst 5, 1) := by decide +kernel
theorem dX4_comesBefore_27 : decode cX4_comesBefore 27 = .ok (.iaload, 1) := by decide +kernel
theorem dX4_comesBefore_28 : decode cX4_comesBefore 28 = .ok (.if_icmp .eq 25, 3) := by decide +kernel
theorem dX4_comesBefore_31 : decode cX4_comesBefore 31 = .ok (.aload_n 3, 1) := by decide +kernel
theorem dX4_comesBefore_32 : decode cX4_comesBefore 32 = .ok (.getfield 80, 3) := by decide +kernel
theorem dX4_comesBefore_35 : decode cX4_comesBefore 35 = .ok (.iconst 5, 1) := by decide +kernel
theorem dX4_comesBefore_36 : decode cX4_comesBefore 36 = .ok (.iaload, 1) := by decide +kernel
theorem dX4_comesBefore_37 : decode cX4_comesBefore 37 = .ok (.aload 4, 2) := by decide +kernel
theorem dX4_comesBefore_39 : decode cX4_comesBefore 39 = .ok (.getfield 80, 3) := by decide +kernel
theorem dX4_comesBefore_42 : decode cX4_comesBefore 42 = .ok (.iconst 5, 1) := by decide +kernel
theorem dX4_comesBefore_43 : decode cX4_comesBefore 43 = .ok (.iaload, 1) := by decide +kernel
theorem dX4_comesBefore_44 : decode cX4_comesBefore 44 = .ok (.if_icmp .ge 7, 3) := by decide +kernel
theorem dX4_comesBefore_47 : decode cX4_comesBefore 47 = .ok (.iconst 1, 1) := by decide +kernel
theorem dX4_comesBefore_48 : decode cX4_comesBefore 48 = .ok (.goto 4, 3) := by decide +kernel
theorem dX4_comesBefore_51 : decode cX4_comesBefore 51 = .ok (.iconst 0, 1) := by decide +kernel
theorem dX4_comesBefore_52 : decode cX4_comesBefore 52 = .ok (.ireturn, 1) := by decide +kernel
theorem dX4_comesBefore_53 : decode cX4_comesBefore 53 = .ok (.aload_n 3, 1) := by decide +kernel
theorem dX4_comesBefore_54 : decode cX4_comesBefore 54 = .ok (.getfield 152, 3) := by decide +kernel
theorem dX4_comesBefore_57 : decode cX4_comesBefore 57 = .ok (.aload 4, 2) := by decide +kernel
theorem dX4_comesBefore_59 : decode cX4_comesBefore 59 = .ok (.getfield 152, 3) := by decide +kernel
theorem dX4_comesBefore_62 : decode cX4_comesBefore 62 = .ok (.if_icmp .eq 9, 3) := by decide +kernel
theorem dX4_comesBefore_65 : decode cX4_comesBefore 65 = .ok (.aload 4, 2) := by decide +kernel
theorem dX4_comesBefore_67 : decode cX4_comesBefore 67 = .ok (.getfield 152, 3) := by decide +kernel
theorem dX4_comesBefore_70 : decode cX4_comesBefore 70 = .ok (.ireturn, 1) := by decide +kernel
theorem dX4_comesBefore_71 : decode cX4_comesBefore 71 = .ok (.aload_n 3, 1) := by decide +kernel
theorem dX4_comesBefore_72 : decode cX4_comesBefore 72 = .ok (.getfield 155, 3) := by decide +kernel
theorem dX4_comesBefore_75 : decode cX4_comesBefore 75 = .ok (.aload 4, 2) := by decide +kernel
theorem dX4_comesBefore_77 : decode cX4_comesBefore 77 = .ok (.getfield 155, 3) := by decide +kernel
theorem dX4_comesBefore_80 : decode cX4_comesBefore 80 = .ok (.if_icmp .ge 7, 3) := by decide +kernel
theorem dX4_comesBefore_83 : decode cX4_comesBefore 83 = .ok (.iconst 1, 1) := by decide +kernel
theorem dX4_comesBefore_84 : decode cX4_comesBefore 84 = .ok (.goto 4, 3) := by decide +kernel
theorem dX4_comesBefore_87 : decode cX4_comesBefore 87 = .ok (.iconst 0, 1) := by decide +kernel
theorem dX4_comesBefore_88 : decode cX4_comesBefore 88 = .ok (.ireturn, 1) := by decide +kernel
theorem dX4_isCounted_0 : decode cX4_isCounted 0 = .ok (.iload_n 2, 1) := by decide +kernel
theorem dX4_isCounted_1 : decode cX4_isCounted 1 = .ok (.lookupswitch 73 #[(0, 35), (6, 45), (7, 55)], 35) := by decide +kernel
theorem dX4_isCounted_36 : decode cX4_isCounted 36 = .ok (.aload_n 0, 1) := by decide +kernel
theorem dX4_isCounted_37 : decode cX4_isCounted 37 = .ok (.getfield 11, 3) := by decide +kernel
theorem dX4_isCounted_40 : decode cX4_isCounted 40 = .ok (.iload_n 1, 1) := by decide +kernel
theorem dX4_isCounted_41 : decode cX4_isCounted 41 = .ok (.aaload, 1) := by decide +kernel
theorem dX4_isCounted_42 : decode cX4_isCounted 42 = .ok (.invokevirtual 178, 3) := by decide +kernel
theorem dX4_isCounted_45 : decode cX4_isCounted 45 = .ok (.ireturn, 1) := by decide +kernel
theorem dX4_isCounted_46 : decode cX4_isCounted 46 = .ok (.aload_n 0, 1) := by decide +kernel
theorem dX4_isCounted_47 : decode cX4_isCounted 47 = .ok (.getfield 11, 3) := by decide +kernel
theorem dX4_isCounted_50 : decode cX4_isCounted 50 = .ok (.iload_n 1, 1) := by decide +kernel
theorem dX4_isCounted_51 : decode cX4_isCounted 51 = .ok (.aaload, 1) := by decide +kernel
theorem dX4_isCounted_52 : decode cX4_isCounted 52 = .ok (.invokevirtual 87, 3) := by decide +kernel
theorem dX4_isCounted_55 : decode cX4_isCounted 55 = .ok (.ireturn, 1) := by decide +kernel
theorem dX4_isCounted_56 : decode cX4_isCounted 56 = .ok (.aload_n 0, 1) := by decide +kernel
theorem dX4_isCounted_57 : decode cX4_isCounted 57 = .ok (.getfield 11, 3) := by decide +kernel
theorem dX4_isCounted_60 : decode cX4_isCounted 60 = .ok (.iload_n 1, 1) := by decide +kernel
theorem dX4_isCounted_61 : decode cX4_isCounted 61 = .ok (.aaload, 1) := by decide +kernel
theorem dX4_isCounted_62 : decode cX4_isCounted 62 = .ok (.getfield 152, 3) := by decide +kernel
theorem dX4_isCounted_65 : decode cX4_isCounted 65 = .ok (.ifCond .ne 7, 3) := by decide +kernel
theorem dX4_isCounted_68 : decode cX4_isCounted 68 = .ok (.iconst 1, 1) := by decide +kernel
theorem dX4_isCounted_69 : decode cX4_isCounted 69 = .ok (.goto 4, 3) := by decide +kernel
theorem dX4_isCounted_72 : decode cX4_isCounted 72 = .ok (.iconst 0, 1) := by decide +kernel
theorem dX4_isCounted_73 : decode cX4_isCounted 73 = .ok (.ireturn, 1) := by decide +kernel
theorem dX4_isCounted_74 : decode cX4_isCounted 74 = .ok (.aload_n 0, 1) := by decide +kernel
theorem dX4_isCounted_75 : decode cX4_isCounted 75 = .ok (.iload_n 1, 1) := by decide +kernel
theorem dX4_isCounted_76 : decode cX4_isCounted 76 = .ok (.invokevirtual 172, 3) := by decide +kernel
theorem dX4_isCounted_79 : decode cX4_isCounted 79 = .ok (.iload_n 2, 1) := by decide +kernel
theorem dX4_isCounted_80 : decode cX4_isCounted 80 = .ok (.iconst 1, 1) := by decide +kernel
theorem dX4_isCounted_81 : decode cX4_isCounted 81 = .ok (.isub, 1) := by decide +kernel
theorem dX4_isCounted_82 : decode cX4_isCounted 82 = .ok (.if_icmp .ne 7, 3) := by decide +kernel
theorem dX4_isCounted_85 : decode cX4_isCounted 85 = .ok (.iconst 1, 1) := by decide +kernel
theorem dX4_isCounted_86 : decode cX4_isCounted 86 = .ok (.goto 4, 3) := by decide +kernel
theorem dX4_isCounted_89 : decode cX4_isCounted 89 = .ok (.iconst 0, 1) := by decide +kernel
theorem dX4_isCounted_90 : decode cX4_isCounted 90 = .ok (.ireturn, 1) := by decide +kernel
theorem dX5_init_0 : decode cX5_init 0 = .ok (.aload_n 0, 1) := by decide +kernel
theorem dX5_init_1 : decode cX5_init 1 = .ok (.invokespecial 1, 3) := by decide +kernel
theorem dX5_init_4 : decode cX5_init 4 = .ok (.aload_n 0, 1) := by decide +kernel
theorem dX5_init_5 : decode cX5_init 5 = .ok (.new 7, 3) := by decide +kernel
theorem dX5_init_8 : decode cX5_init 8 = .ok (.dup, 1) := by decide +kernel
theorem dX5_init_9 : decode cX5_init 9 = .ok (.invokespecial 9, 3) := by decide +kernel
theorem dX5_init_12 : decode cX5_init 12 = .ok (.putfield 10, 3) := by decide +kernel
theorem dX5_init_15 : decode cX5_init 15 = .ok (.aload_n 0, 1) := by decide +kernel
theorem dX5_init_16 : decode cX5_init 16 = .ok (.bipush 16, 2) := by decide +kernel
theorem dX5_init_18 : decode cX5_init 18 = .ok (.newarray .int, 2) := by decide +kernel
theorem dX5_init_20 : decode cX5_init 20 = .ok (.putfield 16, 3) := by decide +kernel
theorem dX5_init_23 : decode cX5_init 23 = .ok (.aload_n 0, 1) := by decide +kernel
theorem dX5_init_24 : decode cX5_init 24 = .ok (.iconst 4, 1) := by decide +kernel
theorem dX5_init_25 : decode cX5_init 25 = .ok (.anewarray 20, 3) := by decide +kernel
theorem dX5_init_28 : decode cX5_init 28 = .ok (.putfield 22, 3) := by decide +kernel
theorem dX5_init_31 : decode cX5_init 31 = .ok (.iconst 0, 1) := by decide +kernel
theorem dX5_init_32 : decode cX5_init 32 = .ok (.istore_n 1, 1) := by decide +kernel
theorem dX5_init_33 : decode cX5_init 33 = .ok (.iload_n 1, 1) := by decide +kernel
theorem dX5_init_34 : decode cX5_init 34 = .ok (.iconst 4, 1) := by decide +kernel
theorem dX5_init_35 : decode cX5_init 35 = .ok (.if_icmp .ge 22, 3) := by decide +kernel
theorem dX5_init_38 : decode cX5_init 38 = .ok (.aload_n 0, 1) := by decide +kernel
theorem dX5_init_39 : decode cX5_init 39 = .ok (.getfield 22, 3) := by decide +kernel
theorem dX5_init_42 : decode cX5_init 42 = .ok (.iload_n 1, 1) := by decide +kernel
theorem dX5_init_43 : decode cX5_init 43 = .ok (.new 20, 3) := by decide +kernel
theorem dX5_init_46 : decode cX5_init 46 = .ok (.dup, 1) := by decide +kernel
theorem dX5_init_47 : decode cX5_init 47 = .ok (.invokespecial 26, 3) := by decide +kernel
theorem dX5_init_50 : decode cX5_init 50 = .ok (.aastore, 1) := by decide +kernel
theorem dX5_init_51 : decode cX5_init 51 = .ok (.iinc 1 1, 3) := by decide +kernel
theorem dX5_init_54 : decode cX5_init 54 = .ok (.goto (-21), 3) := by decide +kernel
theorem dX5_init_57 : decode cX5_init 57 = .ok (.aload_n 0, 1) := by decide +kernel
theorem dX5_init_58 : decode cX5_init 58 = .ok (.new 20, 3) := by decide +kernel
theorem dX5_init_61 : decode cX5_init 61 = .ok (.dup, 1) := by decide +kernel
theorem dX5_init_62 : decode cX5_init 62 = .ok (.invokespecial 26, 3) := by decide +kernel
theorem dX5_init_65 : decode cX5_init 65 = .ok (.putfield 27, 3) := by decide +kernel
theorem dX5_init_68 : decode cX5_init 68 = .ok (.aload_n 0, 1) := by decide +kernel
theorem dX5_init_69 : decode cX5_init 69 = .ok (.new 20, 3) := by decide +kernel
theorem dX5_init_72 : decode cX5_init 72 = .ok (.dup, 1) := by decide +kernel
theorem dX5_init_73 : decode cX5_init 73 = .ok (.invokespecial 26, 3) := by decide +kernel
theorem dX5_init_76 : decode cX5_init 76 = .ok (.putfield 31, 3) := by decide +kernel
theorem dX5_init_79 : decode cX5_init 79 = .ok (.return_, 1) := by decide +kernel
theorem dX5_add_0 : decode cX5_add 0 = .ok (.aload_n 0, 1) := by decide +kernel
theorem dX5_add_1 : decode cX5_add 1 = .ok (.invokevirtual 34, 3) := by decide +kernel
theorem dX5_add_4 : decode cX5_add 4 = .ok (.aload_n 0, 1) := by decide +kernel
theorem dX5_add_5 : decode cX5_add 5 = .ok (.aload_n 0, 1) := by decide +kernel
theorem dX5_add_6 : decode cX5_add 6 = .ok (.getfield 27, 3) := by decide +kernel
theorem dX5_add_9 : decode cX5_add 9 = .ok (.iload_n 1, 1) := by decide +kernel
theorem dX5_add_10 : decode cX5_add 10 = .ok (.iload_n 2, 1) := by decide +kernel
theorem dX5_add_11 : decode cX5_add 11 = .ok (.invokevirtual 37, 3) := by decide +kernel
theorem dX5_add_14 : decode cX5_add 14 = .ok (.invokevirtual 41, 3) := by decide +kernel
theorem dX5_add_17 : decode cX5_add 17 = .ok (.ireturn, 1) := by decide +kernel
theorem dX5_set_0 : decode cX5_set 0 = .ok (.aload_n 0, 1) := by decide +kernel
theorem dX5_set_1 : decode cX5_set 1 = .ok (.invokevirtual 34, 3) := by decide +kernel
theorem dX5_set_4 : decode cX5_set 4 = .ok (.aload_n 0, 1) := by decide +kernel
theorem dX5_set_5 : decode cX5_set 5 = .ok (.aload_n 0, 1) := by decide +kernel
theorem dX5_set_6 : decode cX5_set 6 = .ok (.getfield 27, 3) := by decide +kernel
theorem dX5_set_9 : decode cX5_set 9 = .ok (.iload_n 1, 1) := by decide +kernel
theorem dX5_set_10 : decode cX5_set 10 = .ok (.iload_n 2, 1) := by decide +kernel
theorem dX5_set_11 : decode cX5_set 11 = .ok (.iload_n 3, 1) := by decide +kernel
theorem dX5_set_12 : decode cX5_set 12 = .ok (.invokevirtual 45, 3) := by decide +kernel
theorem dX5_set_15 : decode cX5_set 15 = .ok (.invokevirtual 41, 3) := by decide +kernel
theorem dX5_set_18 : decode cX5_set 18 = .ok (.ireturn, 1) := by decide +kernel
theorem dX5_setRoot_0 : decode cX5_setRoot 0 = .ok (.aload_n 0, 1) := by decide +kernel
theorem dX5_setRoot_1 : decode cX5_setRoot 1 = .ok (.invokevirtual 34, 3) := by decide +kernel
theorem dX5_setRoot_4 : decode cX5_setRoot 4 = .ok (.aload_n 0, 1) := by decide +kernel
theorem dX5_setRoot_5 : decode cX5_setRoot 5 = .ok (.aload_n 0, 1) := by decide +kernel
theorem dX5_setRoot_6 : decode cX5_setRoot 6 = .ok (.getfield 27, 3) := by decide +kernel
theorem dX5_setRoot_9 : decode cX5_setRoot 9 = .ok (.iload_n 1, 1) := by decide +kernel
theorem dX5_setRoot_10 : decode cX5_setRoot 10 = .ok (.iload_n 2, 1) := by decide +kernel
theorem dX5_setRoot_11 : decode cX5_setRoot 11 = .ok (.invokevirtual 49, 3) := by decide +kernel
theorem dX5_setRoot_14 : decode cX5_setRoot 14 = .ok (.invokevirtual 41, 3) := by decide +kernel
theorem dX5_setRoot_17 : decode cX5_setRoot 17 = .ok (.ireturn, 1) := by decide +kernel
theorem dX5_setValue_0 : decode cX5_setValue 0 = .ok (.aload_n 0, 1) := by decide +kernel
theorem dX5_setValue_1 : decode cX5_setValue 1 = .ok (.invokevirtual 34, 3) := by decide +kernel
theorem dX5_setValue_4 : decode cX5_setValue 4 = .ok (.aload_n 0, 1) := by decide +kernel
theorem dX5_setValue_5 : decode cX5_setValue 5 = .ok (.aload_n 0, 1) := by decide +kernel
theorem dX5_setValue_6 : decode cX5_setValue 6 = .ok (.getfield 27, 3) := by decide +kernel
theorem dX5_setValue_9 : decode cX5_setValue 9 = .ok (.iload_n 1, 1) := by decide +kernel
theorem dX5_setValue_10 : decode cX5_setValue 10 = .ok (.iload_n 2, 1) := by decide +kernel
theorem dX5_setValue_11 : decode cX5_setValue 11 = .ok (.invokevirtual 52, 3) := by decide +kernel
theorem dX5_setValue_14 : decode cX5_setValue 14 = .ok (.invokevirtual 41, 3) := by decide +kernel
theorem dX5_setValue_17 : decode cX5_setValue 17 = .ok (.ireturn, 1) := by decide +kernel
theorem dX5_point_0 : decode cX5_point 0 = .ok (.aload_n 0, 1) := by decide +kernel
theorem dX5_point_1 : decode cX5_point 1 = .ok (.getfield 27, 3) := by decide +kernel
theorem dX5_point_4 : decode cX5_point 4 = .ok (.iload_n 1, 1) := by decide +kernel
theorem dX5_point_5 : decode cX5_point 5 = .ok (.invokevirtual 55, 3) := by decide +kernel
theorem dX5_point_8 : decode cX5_point 8 = .ok (.ifCond .eq 13, 3) := by decide +kernel
theorem dX5_point_11 : decode cX5_point 11 = .ok (.iload_n 2, 1) := by decide +kernel
theorem dX5_point_12 : decode cX5_point 12 = .ok (.iconst 0, 1) := by decide +kernel
theorem dX5_point_13 : decode cX5_point 13 = .ok (.bipush 15, 2) := by decide +kernel
theorem dX5_point_15 : decode cX5_point 15 = .ok (.invokestatic 59, 3) := by decide +kernel
theorem dX5_point_18 : decode cX5_point 18 = .ok (.ifCond .ne 7, 3) := by decide +kernel
theorem dX5_point_21 : decode cX5_point 21 = .ok (.sipush (-20001), 3) := by decide +kernel
theorem dX5_point_24 : decode cX5_point 24 = .ok (.ireturn, 1) := by decide +kernel
theorem dX5_point_25 : decode cX5_point 25 = .ok (.aload_n 0, 1) := by decide +kernel
theorem dX5_point_26 : decode cX5_point 26 = .ok (.getfield 27, 3) := by decide +kernel
theorem dX5_point_29 : decode cX5_point 29 = .ok (.iload_n 1, 1) := by decide +kernel
theorem dX5_point_30 : decode cX5_point 30 = .ok (.iload_n 2, 1) := by decide +kernel
theorem dX5_point_31 : decode cX5_point 31 = .ok (.invokevirtual 63, 3) := by decide +kernel
theorem dX5_point_34 : decode cX5_point 34 = .ok (.ireturn, 1) := by decide +kernel
theorem dX5_points_0 : decode cX5_points 0 = .ok (.aload_n 0, 1) := by decide +kernel
theorem dX5_points_1 : decode cX5_points 1 = .ok (.getfield 27, 3) := by decide +kernel
theorem dX5_points_4 : decode cX5_points 4 = .ok (.getfield 66, 3) := by decide +kernel
theorem dX5_points_7 : decode cX5_points 7 = .ok (.ireturn, 1) := by decide +kernel
theorem dX5_setState_0 : decode cX5_setState 0 = .ok (.aload_n 0, 1) := by decide +kernel
theorem dX5_setState_1 : decode cX5_setState 1 = .ok (.invokevirtual 34, 3) := by decide +kernel
theorem dX5_setState_4 : decode cX5_setState 4 = .ok (.aload_n 0, 1) := by decide +kernel
theorem dX5_setState_5 : decode cX5_setState 5 = .ok (.aload_n 0, 1) := by decide +kernel
theorem dX5_setState_6 : decode cX5_setState 6 = .ok (.getfield 27, 3) := by decide +kernel
theorem dX5_setState_9 : decode cX5_setState 9 = .ok (.iload_n 1, 1) := by decide +kernel
theorem dX5_setState_10 : decode cX5_setState 10 = .ok (.invokevirtual 70, 3) := by decide +kernel
theorem dX5_setState_13 : decode cX5_setState 13 = .ok (.invokevirtual 41, 3) := by decide +kernel
theorem dX5_setState_16 : decode cX5_setState 16 = .ok (.ireturn, 1) := by decide +kernel
theorem dX5_setFlood_0 : decode cX5_setFlood 0 = .ok (.aload_n 0, 1) := by decide +kernel
theorem dX5_setFlood_1 : decode cX5_setFlood 1 = .ok (.invokevirtual 34, 3) := by decide +kernel
theorem dX5_setFlood_4 : decode cX5_setFlood 4 = .ok (.aload_n 0, 1) := by decide +kernel
theorem dX5_setFlood_5 : decode cX5_setFlood 5 = .ok (.aload_n 0, 1) := by decide +kernel
theorem dX5_setFlood_6 : decode cX5_setFlood 6 = .ok (.getfield 27, 3) := by decide +kernel
theorem dX5_setFlood_9 : decode cX5_setFlood 9 = .ok (.iload_n 1, 1) := by decide +kernel
theorem dX5_setFlood_10 : decode cX5_setFlood 10 = .ok (.iload_n 2, 1) := by decide +kernel
theorem dX5_setFlood_11 : decode cX5_setFlood 11 = .ok (.iload_n 3, 1) := by decide +kernel
theorem dX5_setFlood_12 : decode cX5_setFlood 12 = .ok (.invokevirtual 73, 3) := by decide +kernel
theorem dX5_setFlood_15 : decode cX5_setFlood 15 = .ok (.invokevirtual 41, 3) := by decide +kernel
theorem dX5_setFlood_18 : decode cX5_setFlood 18 = .ok (.ireturn, 1) := by decide +kernel
theorem dX5_tick_0 : decode cX5_tick 0 = .ok (.aload_n 0, 1) := by decide +kernel
theorem dX5_tick_1 : decode cX5_tick 1 = .ok (.invokevirtual 34, 3) := by decide +kernel
theorem dX5_tick_4 : decode cX5_tick 4 = .ok (.aload_n 0, 1) := by decide +kernel
theorem dX5_tick_5 : decode cX5_tick 5 = .ok (.aload_n 0, 1) := by decide +kernel
theorem dX5_tick_6 : decode cX5_tick 6 = .ok (.getfield 27, 3) := by decide +kernel
theorem dX5_tick_9 : decode cX5_tick 9 = .ok (.iload_n 1, 1) := by decide +kernel
theorem dX5_tick_10 : decode cX5_tick 10 = .ok (.invokevirtual 76, 3) := by decide +kernel
theorem dX5_tick_13 : decode cX5_tick 13 = .ok (.invokevirtual 41, 3) := by decide +kernel
theorem dX5_tick_16 : decode cX5_tick 16 = .ok (.ireturn, 1) := by decide +kernel
theorem dX5_plant_0 : decode cX5_plant 0 = .ok (.iload_n 1, 1) := by decide +kernel
theorem dX5_plant_1 : decode cX5_plant 1 = .ok (.tableswitch 96 0 4 #[35, 43, 51, 70, 88], 35) := by decide +kernel
theorem dX5_plant_36 : decode cX5_plant 36 = .ok (.aload_n 0, 1) := by decide +kernel
theorem dX5_plant_37 : decode cX5_plant 37 = .ok (.getfield 27, 3) := by decide +kernel
theorem dX5_plant_40 : decode cX5_plant 40 = .ok (.getfield 79, 3) := by decide +kernel
theorem dX5_plant_43 : decode cX5_plant 43 = .ok (.ireturn, 1) := by decide +kernel
theorem dX5_plant_44 : decode cX5_plant 44 = .ok (.aload_n 0, 1) := by decide +kernel
theorem dX5_plant_45 : decode cX5_plant 45 = .ok (.getfield 27, 3) := by decide +kernel
theorem dX5_plant_48 : decode cX5_plant 48 = .ok (.getfield 82, 3) := by decide +kernel
theorem dX5_plant_51 : decode cX5_plant 51 = .ok (.ireturn, 1) := by decide +kernel
theorem dX5_plant_52 : decode cX5_plant 52 = .ok (.aload_n 0, 1) := by decide +kernel
theorem dX5_plant_53 : decode cX5_plant 53 = .ok (.getfield 27, 3) := by decide +kernel
theorem dX5_plant_56 : decode cX5_plant 56 = .ok (.getfield 85, 3) := by decide +kernel
theorem dX5_plant_59 : decode cX5_plant 59 = .ok (.getfield 89, 3) := by decide +kernel
theorem dX5_plant_62 : decode cX5_plant 62 = .ok (.ifCond .eq 7, 3) := by decide +kernel
theorem dX5_plant_65 : decode cX5_plant 65 = .ok (.iconst 1, 1) := by decide +kernel
theorem dX5_plant_66 : decode cX5_plant 66 = .ok (.goto 4, 3) := by decide +kernel
theorem dX5_plant_69 : decode cX5_plant 69 = .ok (.iconst 0, 1) := by decide +kernel
theorem dX5_plant_70 : decode cX5_plant 70 = .ok (.ireturn, 1) := by decide +kernel
theorem dX5_plant_71 : decode cX5_plant 71 = .ok (.aload_n 0, 1) := by decide +kernel
theorem dX5_plant_72 : decode cX5_plant 72 = .ok (.getfield 27, 3) := by decide +kernel
theorem dX5_plant_75 : decode cX5_plant 75 = .ok (.getfield 85, 3) := by decide +kernel
theorem dX5_plant_78 : decode cX5_plant 78 = .ok (.aload_n 0, 1) := by decide +kernel
theorem dX5_plant_79 : decode cX5_plant 79 = .ok (.getfield 27, 3) := by decide +kernel
theorem dX5_plant_82 : decode cX5_plant 82 = .ok (.getfield 79, 3) := by decide +kernel
theorem dX5_plant_85 : decode cX5_plant 85 = .ok (.invokevirtual 95, 3) := by decide +kernel
theorem dX5_plant_88 : decode cX5_plant 88 = .ok (.ireturn, 1) := by decide +kernel
theorem dX5_plant_89 : decode cX5_plant 89 = .ok (.aload_n 0, 1) := by decide +kernel
theorem dX5_plant_90 : decode cX5_plant 90 = .ok (.getfield 27, 3) := by decide +kernel
theorem dX5_plant_93 : decode cX5_plant 93 = .ok (.getfield 98, 3) := by decide +kernel
theorem dX5_plant_96 : decode cX5_plant 96 = .ok (.ireturn, 1) := by decide +kernel
theorem dX5_plant_97 : decode cX5_plant 97 = .ok (.sipush (-20001), 3) := by decide +kernel
theorem dX5_plant_100 : decode cX5_plant 100 = .ok (.ireturn, 1) := by decide +kernel
theorem dX5_ack_0 : decode cX5_ack 0 = .ok (.aload_n 0, 1) := by decide +kernel
theorem dX5_ack_1 : decode cX5_ack 1 = .ok (.invokevirtual 34, 3) := by decide +kernel
theorem dX5_ack_4 : decode cX5_ack 4 = .ok (.aload_n 0, 1) := by decide +kernel
theorem dX5_ack_5 : decode cX5_ack 5 = .ok (.aload_n 0, 1) := by decide +kernel
theorem dX5_ack_6 : decode cX5_ack 6 = .ok (.getfield 27, 3) := by decide +kernel
theorem dX5_ack_9 : decode cX5_ack 9 = .ok (.iload_n 1, 1) := by decide +kernel
theorem dX5_ack_10 : decode cX5_ack 10 = .ok (.invokevirtual 101, 3) := by decide +kernel
theorem dX5_ack_13 : decode cX5_ack 13 = .ok (.invokevirtual 41, 3) := by decide +kernel
theorem dX5_ack_16 : decode cX5_ack 16 = .ok (.ireturn, 1) := by decide +kernel
theorem dX5_ackAll_0 : decode cX5_ackAll 0 = .ok (.aload_n 0, 1) := by decide +kernel
theorem dX5_ackAll_1 : decode cX5_ackAll 1 = .ok (.invokevirtual 34, 3) := by decide +kernel
theorem dX5_ackAll_4 : decode cX5_ackAll 4 = .ok (.aload_n 0, 1) := by decide +kernel
theorem dX5_ackAll_5 : decode cX5_ackAll 5 = .ok (.getfield 27, 3) := by decide +kernel
theorem dX5_ackAll_8 : decode cX5_ackAll 8 = .ok (.aload_n 0, 1) := by decide +kernel
theorem dX5_ackAll_9 : decode cX5_ackAll 9 = .ok (.getfield 16, 3) := by decide +kernel
theorem dX5_ackAll_12 : decode cX5_ackAll 12 = .ok (.invokevirtual 104, 3) := by decide +kernel
theorem dX5_ackAll_15 : decode cX5_ackAll 15 = .ok (.istore_n 1, 1) := by decide +kernel
theorem dX5_ackAll_16 : decode cX5_ackAll 16 = .ok (.iconst 0, 1) := by decide +kernel
theorem dX5_ackAll_17 : decode cX5_ackAll 17 = .ok (.istore_n 2, 1) := by decide +kernel
theorem dX5_ackAll_18 : decode cX5_ackAll 18 = .ok (.iconst 0, 1) := by decide +kernel
theorem dX5_ackAll_19 : decode cX5_ackAll 19 = .ok (.istore_n 3, 1) := by decide +kernel
theorem dX5_ackAll_20 : decode cX5_ackAll 20 = .ok (.iload_n 3, 1) := by decide +kernel
theorem dX5_ackAll_21 : decode cX5_ackAll 21 = .ok (.iload_n 1, 1) := by decide +kernel
theorem dX5_ackAll_22 : decode cX5_ackAll 22 = .ok (.if_icmp .ge 31, 3) := by decide +kernel
theorem dX5_ackAll_25 : decode cX5_ackAll 25 = .ok (.aload_n 0, 1) := by decide +kernel
theorem dX5_ackAll_26 : decode cX5_ackAll 26 = .ok (.getfield 27, 3) := by decide +kernel
theorem dX5_ackAll_29 : decode cX5_ackAll 29 = .ok (.aload_n 0, 1) := by decide +kernel
theorem dX5_ackAll_30 : decode cX5_ackAll 30 = .ok (.getfield 16, 3) := by decide +kernel
theorem dX5_ackAll_33 : decode cX5_ackAll 33 = .ok (.iload_n 3, 1) := by decide +kernel
theorem dX5_ackAll_34 : decode cX5_ackAll 34 = .ok (.iaload, 1) := by decide +kernel
theorem dX5_ackAll_35 : decode cX5_ackAll 35 = .ok (.invokevirtual 101, 3) := by decide +kernel
theorem dX5_ackAll_38 : decode cX5_ackAll 38 = .ok (.invokestatic 108, 3) := by decide +kernel
theorem dX5_ackAll_41 : decode cX5_ackAll 41 = .ok (.ifCond .ne 6, 3) := by decide +kernel
theorem dX5_ackAll_44 : decode cX5_ackAll 44 = .ok (.iinc 2 1, 3) := by decide +kernel
theorem dX5_ackAll_47 : decode cX5_ackAll 47 = .ok (.iinc 3 1, 3) := by decide +kernel
theorem dX5_ackAll_50 : decode cX5_ackAll 50 = .ok (.goto (-30), 3) := by decide +kernel
theorem dX5_ackAll_53 : decode cX5_ackAll 53 = .ok (.aload_n 0, 1) := by decide +kernel
theorem dX5_ackAll_54 : decode cX5_ackAll 54 = .ok (.iload_n 2, 1) := by decide +kernel
theorem dX5_ackAll_55 : decode cX5_ackAll 55 = .ok (.invokevirtual 41, 3) := by decide +kernel
theorem dX5_ackAll_58 : decode cX5_ackAll 58 = .ok (.ireturn, 1) := by decide +kernel
theorem dX5_shelve_0 : decode cX5_shelve 0 = .ok (.aload_n 0, 1) := by decide +kernel
theorem dX5_shelve_1 : decode cX5_shelve 1 = .ok (.invokevirtual 34, 3) := by decide +kernel
theorem dX5_shelve_4 : decode cX5_shelve 4 = .ok (.aload_n 0, 1) := by decide +kernel
theorem dX5_shelve_5 : decode cX5_shelve 5 = .ok (.aload_n 0, 1) := by decide +kernel
theorem dX5_shelve_6 : decode cX5_shelve 6 = .ok (.getfield 27, 3) := by decide +kernel
theorem dX5_shelve_9 : decode cX5_shelve 9 = .ok (.iload_n 1, 1) := by decide +kernel
theorem dX5_shelve_10 : decode cX5_shelve 10 = .ok (.iload_n 2, 1) := by decide +kernel
theorem dX5_shelve_11 : decode cX5_shelve 11 = .ok (.invokevirtual 111, 3) := by decide +kernel
theorem dX5_shelve_14 : decode cX5_shelve 14 = .ok (.invokevirtual 41, 3) := by decide +kernel
theorem dX5_shelve_17 : decode cX5_shelve 17 = .ok (.ireturn, 1) := by decide +kernel
theorem dX5_unshelve_0 : decode cX5_unshelve 0 = .ok (.aload_n 0, 1) := by decide +kernel
theorem dX5_unshelve_1 : decode cX5_unshelve 1 = .ok (.invokevirtual 34, 3) := by decide +kernel
theorem dX5_unshelve_4 : decode cX5_unshelve 4 = .ok (.aload_n 0, 1) := by decide +kernel
theorem dX5_unshelve_5 : decode cX5_unshelve 5 = .ok (.aload_n 0, 1) := by decide +kernel
theorem dX5_unshelve_6 : decode cX5_unshelve 6 = .ok (.getfield 27, 3) := by decide +kernel
theorem dX5_unshelve_9 : decode cX5_unshelve 9 = .ok (.iload_n 1, 1) := by decide +kernel
theorem dX5_unshelve_10 : decode cX5_unshelve 10 = .ok (.invokevirtual 114, 3) := by decide +kernel
theorem dX5_unshelve_13 : decode cX5_unshelve 13 = .ok (.invokevirtual 41, 3) := by decide +kernel
theorem dX5_unshelve_16 : decode cX5_unshelve 16 = .ok (.ireturn, 1) := by decide +kernel
theorem dX5_list_0 : decode cX5_list 0 = .ok (.iload_n 1, 1) := by decide +kernel
theorem dX5_list_1 : decode cX5_list 1 = .ok (.ifCond .ge 7, 3) := by decide +kernel
theorem dX5_list_4 : decode cX5_list 4 = .ok (.sipush (-20001), 3) := by decide +kernel
theorem dX5_list_7 : decode cX5_list 7 = .ok (.ireturn, 1) := by decide +kernel
theorem dX5_list_8 : decode cX5_list 8 = .ok (.aload_n 0, 1) := by decide +kernel
theorem dX5_list_9 : decode cX5_list 9 = .ok (.getfield 27, 3) := by decide +kernel
theorem dX5_list_12 : decode cX5_list 12 = .ok (.aload_n 0, 1) := by decide +kernel
theorem dX5_list_13 : decode cX5_list 13 = .ok (.getfield 16, 3) := by decide +kernel
theorem dX5_list_16 : decode cX5_list 16 = .ok (.invokevirtual 104, 3) := by decide +kernel
theorem dX5_list_19 : decode cX5_list 19 = .ok (.istore_n 2, 1) := by decide +kernel
theorem dX5_list_20 : decode cX5_list 20 = .ok (.iload_n 1, 1) := by decide +kernel
theorem dX5_list_21 : decode cX5_list 21 = .ok (.iload_n 2, 1) := by decide +kernel
theorem dX5_list_22 : decode cX5_list 22 = .ok (.if_icmp .ge 12, 3) := by decide +kernel
theorem dX5_list_25 : decode cX5_list 25 = .ok (.aload_n 0, 1) := by decide +kernel
theorem dX5_list_26 : decode cX5_list 26 = .ok (.getfield 16, 3) := by decide +kernel
theorem dX5_list_29 : decode cX5_list 29 = .ok (.iload_n 1, 1) := by decide +kernel
theorem dX5_list_30 : decode cX5_list 30 = .ok (.iaload, 1) := by decide +kernel
theorem dX5_list_31 : decode cX5_list 31 = .ok (.goto 6, 3) := by decide +kernel
theorem dX5_list_34 : decode cX5_list 34 = .ok (.sipush (-20009), 3) := by decide +kernel
theorem dX5_list_37 : decode cX5_list 37 = .ok (.ireturn, 1) := by decide +kernel
theorem dX5_count_0 : decode cX5_count 0 = .ok (.iload_n 1, 1) := by decide +kernel
theorem dX5_count_1 : decode cX5_count 1 = .ok (.iconst 0, 1) := by decide +kernel
theorem dX5_count_2 : decode cX5_count 2 = .ok (.bipush 7, 2) := by decide +kernel
theorem dX5_count_4 : decode cX5_count 4 = .ok (.invokestatic 59, 3) := by decide +kernel
theorem dX5_count_7 : decode cX5_count 7 = .ok (.ifCond .ne 7, 3) := by decide +kernel
theorem dX5_count_10 : decode cX5_count 10 = .ok (.sipush (-20001), 3) := by decide +kernel
theorem dX5_count_13 : decode cX5_count 13 = .ok (.ireturn, 1) := by decide +kernel
theorem dX5_count_14 : decode cX5_count 14 = .ok (.iconst 0, 1) := by decide +kernel
theorem dX5_count_15 : decode cX5_count 15 = .ok (.istore_n 2, 1) := by decide +kernel
theorem dX5_count_16 : decode cX5_count 16 = .ok (.iconst 0, 1) := by decide +kernel
theorem dX5_count_17 : decode cX5_count 17 = .ok (.istore_n 3, 1) := by decide +kernel
theorem dX5_count_18 : decode cX5_count 18 = .ok (.iload_n 3, 1) := by decide +kernel
theorem dX5_count_19 : decode cX5_count 19 = .ok (.aload_n 0, 1) := by decide +kernel
theorem dX5_count_20 : decode cX5_count 20 = .ok (.getfield 27, 3) := by decide +kernel
theorem dX5_count_23 : decode cX5_count 23 = .ok (.getfield 66, 3) := by decide +kernel
theorem dX5_count_26 : decode cX5_count 26 = .ok (.if_icmp .ge 24, 3) := by decide +kernel
theorem dX5_count_29 : decode cX5_count 29 = .ok (.aload_n 0, 1) := by decide +kernel
theorem dX5_count_30 : decode cX5_count 30 = .ok (.getfield 27, 3) := by decide +kernel
theorem dX5_count_33 : decode cX5_count 33 = .ok (.iload_n 3, 1) := by decide +kernel
theorem dX5_count_34 : decode cX5_count 34 = .ok (.iload_n 1, 1) := by decide +kernel
theorem dX5_count_35 : decode cX5_count 35 = .ok (.invokevirtual 117, 3) := by decide +kernel
theorem dX5_count_38 : decode cX5_count 38 = .ok (.ifCond .eq 6, 3) := by decide +kernel
theorem dX5_count_41 : decode cX5_count 41 = .ok (.iinc 2 1, 3) := by decide +kernel
theorem dX5_count_44 : decode cX5_count 44 = .ok (.iinc 3 1, 3) := by decide +kernel
theorem dX5_count_47 : decode cX5_count 47 = .ok (.goto (-29), 3) := by decide +kernel
theorem dX5_count_50 : decode cX5_count 50 = .ok (.iload_n 2, 1) := by decide +kernel
theorem dX5_count_51 : decode cX5_count 51 = .ok (.ireturn, 1) := by decide +kernel
theorem dX5_events_0 : decode cX5_events 0 = .ok (.aload_n 0, 1) := by decide +kernel
theorem dX5_events_1 : decode cX5_events 1 = .ok (.getfield 27, 3) := by decide +kernel
theorem dX5_events_4 : decode cX5_events 4 = .ok (.getfield 121, 3) := by decide +kernel
theorem dX5_events_7 : decode cX5_events 7 = .ok (.getfield 125, 3) := by decide +kernel
theorem dX5_events_10 : decode cX5_events 10 = .ok (.ireturn, 1) := by decide +kernel
theorem dX5_event_0 : decode cX5_event 0 = .ok (.iload_n 1, 1) := by decide +kernel
theorem dX5_event_1 : decode cX5_event 1 = .ok (.ifCond .lt 12, 3) := by decide +kernel
theorem dX5_event_4 : decode cX5_event 4 = .ok (.iload_n 2, 1) := by decide +kernel
theorem dX5_event_5 : decode cX5_event 5 = .ok (.iconst 0, 1) := by decide +kernel
theorem dX5_event_6 : decode cX5_event 6 = .ok (.iconst 2, 1) := by decide +kernel
theorem dX5_event_7 : decode cX5_event 7 = .ok (.invokestatic 59, 3) := by decide +kernel
theorem dX5_event_10 : decode cX5_event 10 = .ok (.ifCond .ne 7, 3) := by decide +kernel
theorem dX5_event_13 : decode cX5_event 13 = .ok (.sipush (-20001), 3) := by decide +kernel
theorem dX5_event_16 : decode cX5_event 16 = .ok (.ireturn, 1) := by decide +kernel
theorem dX5_event_17 : decode cX5_event 17 = .ok (.iload_n 1, 1) := by decide +kernel
theorem dX5_event_18 : decode cX5_event 18 = .ok (.aload_n 0, 1) := by decide +kernel
theorem dX5_event_19 : decode cX5_event 19 = .ok (.getfield 27, 3) := by decide +kernel
theorem dX5_event_22 : decode cX5_event 22 = .ok (.getfield 121, 3) := by decide +kernel
theorem dX5_event_25 : decode cX5_event 25 = .ok (.invokevirtual 130, 3) := by decide +kernel
theorem dX5_event_28 : decode cX5_event 28 = .ok (.if_icmp .lt 7, 3) := by decide +kernel
theorem dX5_event_31 : decode cX5_event 31 = .ok (.sipush (-20009), 3) := by decide +kernel
theorem dX5_event_34 : decode cX5_event 34 = .ok (.ireturn, 1) := by decide +kernel
theorem dX5_event_35 : decode cX5_event 35 = .ok (.aload_n 0, 1) := by decide +kernel
theorem dX5_event_36 : decode cX5_event 36 = .ok (.getfield 27, 3) := by decide +kernel
theorem dX5_event_39 : decode cX5_event 39 = .ok (.getfield 121, 3) := by decide +kernel
theorem dX5_event_42 : decode cX5_event 42 = .ok (.iload_n 1, 1) := by decide +kernel
theorem dX5_event_43 : decode cX5_event 43 = .ok (.iload_n 2, 1) := by decide +kernel
theorem dX5_event_44 : decode cX5_event 44 = .ok (.invokevirtual 134, 3) := by decide +kernel
theorem dX5_event_47 : decode cX5_event 47 = .ok (.ireturn, 1) := by decide +kernel
theorem dX5_meanAck_0 : decode cX5_meanAck 0 = .ok (.aload_n 0, 1) := by decide +kernel
theorem dX5_meanAck_1 : decode cX5_meanAck 1 = .ok (.getfield 27, 3) := by decide +kernel
theorem dX5_meanAck_4 : decode cX5_meanAck 4 = .ok (.getfield 137, 3) := by decide +kernel
theorem dX5_meanAck_7 : decode cX5_meanAck 7 = .ok (.ifCond .ne 5, 3) := by decide +kernel
theorem dX5_meanAck_10 : decode cX5_meanAck 10 = .ok (.fconst 0, 1) := by decide +kernel
theorem dX5_meanAck_11 : decode cX5_meanAck 11 = .ok (.freturn, 1) := by decide +kernel
theorem dX5_meanAck_12 : decode cX5_meanAck 12 = .ok (.aload_n 0, 1) := by decide +kernel
theorem dX5_meanAck_13 : decode cX5_meanAck 13 = .ok (.getfield 27, 3) := by decide +kernel
theorem dX5_meanAck_16 : decode cX5_meanAck 16 = .ok (.getfield 140, 3) := by decide +kernel
theorem dX5_meanAck_19 : decode cX5_meanAck 19 = .ok (.i2f, 1) := by decide +kernel
theorem dX5_meanAck_20 : decode cX5_meanAck 20 = .ok (.aload_n 0, 1) := by decide +kernel
theorem dX5_meanAck_21 : decode cX5_meanAck 21 = .ok (.getfield 27, 3) := by decide +kernel
theorem dX5_meanAck_24 : decode cX5_meanAck 24 = .ok (.getfield 137, 3) := by decide +kernel
theorem dX5_meanAck_27 : decode cX5_meanAck 27 = .ok (.i2f, 1) := by decide +kernel
theorem dX5_meanAck_28 : decode cX5_meanAck 28 = .ok (.fdiv, 1) := by decide +kernel
theorem dX5_meanAck_29 : decode cX5_meanAck 29 = .ok (.freturn, 1) := by decide +kernel
theorem dX5_worst_0 : decode cX5_worst 0 = .ok (.sipush (-20009), 3) := by decide +kernel
theorem dX5_worst_3 : decode cX5_worst 3 = .ok (.istore_n 1, 1) := by decide +kernel
theorem dX5_worst_4 : decode cX5_worst 4 = .ok (.iconst 0, 1) := by decide +kernel
theorem dX5_worst_5 : decode cX5_worst 5 = .ok (.istore_n 2, 1) := by decide +kernel
theorem dX5_worst_6 : decode cX5_worst 6 = .ok (.iconst 0, 1) := by decide +kernel
theorem dX5_worst_7 : decode cX5_worst 7 = .ok (.istore_n 3, 1) := by decide +kernel
theorem dX5_worst_8 : decode cX5_worst 8 = .ok (.iload_n 3, 1) := by decide +kernel
theorem dX5_worst_9 : decode cX5_worst 9 = .ok (.aload_n 0, 1) := by decide +kernel
theorem dX5_worst_10 : decode cX5_worst 10 = .ok (.getfield 27, 3) := by decide +kernel
theorem dX5_worst_13 : decode cX5_worst 13 = .ok (.getfield 66, 3) := by decide +kernel
theorem dX5_worst_16 : decode cX5_worst 16 = .ok (.if_icmp .ge 33, 3) := by decide +kernel
theorem dX5_worst_19 : decode cX5_worst 19 = .ok (.aload_n 0, 1) := by decide +kernel
theorem dX5_worst_20 : decode cX5_worst 20 = .ok (.getfield 27, 3) := by decide +kernel
theorem dX5_worst_23 : decode cX5_worst 23 = .ok (.getfield 121, 3) := by decide +kernel
theorem dX5_worst_26 : decode cX5_worst 26 = .ok (.iload_n 3, 1) := by decide +kernel
theorem dX5_worst_27 : decode cX5_worst 27 = .ok (.invokevirtual 143, 3) := by decide +kernel
theorem dX5_worst_30 : decode cX5_worst 30 = .ok (.istore 4, 2) := by decide +kernel
theorem dX5_worst_32 : decode cX5_worst 32 = .ok (.iload 4, 2) := by decide +kernel
theorem dX5_worst_34 : decode cX5_worst 34 = .ok (.iload_n 2, 1) := by decide +kernel
theorem dX5_worst_35 : decode cX5_worst 35 = .ok (.if_icmp .le 8, 3) := by decide +kernel
theorem dX5_worst_38 : decode cX5_worst 38 = .ok (.iload_n 3, 1) := by decide +kernel
theorem dX5_worst_39 : decode cX5_worst 39 = .ok (.istore_n 1, 1) := by decide +kernel
theorem dX5_worst_40 : decode cX5_worst 40 = .ok (.iload 4, 2) := by decide +kernel
theorem dX5_worst_42 : decode cX5_worst 42 = .ok (.istore_n 2, 1) := by decide +kernel
theorem dX5_worst_43 : decode cX5_worst 43 = .ok (.iinc 3 1, 3) := by decide +kernel
theorem dX5_worst_46 : decode cX5_worst 46 = .ok (.goto (-38), 3) := by decide +kernel
theorem dX5_worst_49 : decode cX5_worst 49 = .ok (.iload_n 1, 1) := by decide +kernel
theorem dX5_worst_50 : decode cX5_worst 50 = .ok (.ireturn, 1) := by decide +kernel
theorem dX5_replay_0 : decode cX5_replay 0 = .ok (.aload_n 0, 1) := by decide +kernel
theorem dX5_replay_1 : decode cX5_replay 1 = .ok (.getfield 27, 3) := by decide +kernel
theorem dX5_replay_4 : decode cX5_replay 4 = .ok (.iload_n 1, 1) := by decide +kernel
theorem dX5_replay_5 : decode cX5_replay 5 = .ok (.invokevirtual 55, 3) := by decide +kernel
theorem dX5_replay_8 : decode cX5_replay 8 = .ok (.ifCond .eq 14, 3) := by decide +kernel
theorem dX5_replay_11 : decode cX5_replay 11 = .ok (.iload_n 2, 1) := by decide +kernel
theorem dX5_replay_12 : decode cX5_replay 12 = .ok (.iconst 0, 1) := by decide +kernel
theorem dX5_replay_13 : decode cX5_replay 13 = .ok (.sipush 1000, 3) := by decide +kernel
theorem dX5_replay_16 : decode cX5_replay 16 = .ok (.invokestatic 59, 3) := by decide +kernel
theorem dX5_replay_19 : decode cX5_replay 19 = .ok (.ifCond .ne 7, 3) := by decide +kernel
theorem dX5_replay_22 : decode cX5_replay 22 = .ok (.sipush (-20001), 3) := by decide +kernel
theorem dX5_replay_25 : decode cX5_replay 25 = .ok (.ireturn, 1) := by decide +kernel
theorem dX5_replay_26 : decode cX5_replay 26 = .ok (.aload_n 0, 1) := by decide +kernel
theorem dX5_replay_27 : decode cX5_replay 27 = .ok (.getfield 27, 3) := by decide +kernel
theorem dX5_replay_30 : decode cX5_replay 30 = .ok (.getfield 146, 3) := by decide +kernel
theorem dX5_replay_33 : decode cX5_replay 33 = .ok (.iload_n 1, 1) := by decide +kernel
theorem dX5_replay_34 : decode cX5_replay 34 = .ok (.aaload, 1) := by decide +kernel
theorem dX5_replay_35 : decode cX5_replay 35 = .ok (.iload_n 2, 1) := by decide +kernel
theorem dX5_replay_36 : decode cX5_replay 36 = .ok (.invokevirtual 150, 3) := by decide +kernel
theorem dX5_replay_39 : decode cX5_replay 39 = .ok (.ireturn, 1) := by decide +kernel
theorem dX5_leastDeadband_0 : decode cX5_leastDeadband 0 = .ok (.aload_n 0, 1) := by decide +kernel
theorem dX5_leastDeadband_1 : decode cX5_leastDeadband 1 = .ok (.getfield 27, 3) := by decide +kernel
theorem dX5_leastDeadband_4 : decode cX5_leastDeadband 4 = .ok (.iload_n 1, 1) := by decide +kernel
theorem dX5_leastDeadband_5 : decode cX5_leastDeadband 5 = .ok (.invokevirtual 55, 3) := by decide +kernel
theorem dX5_leastDeadband_8 : decode cX5_leastDeadband 8 = .ok (.ifCond .eq 13, 3) := by decide +kernel
theorem dX5_leastDeadband_11 : decode cX5_leastDeadband 11 = .ok (.iload_n 2, 1) := by decide +kernel
theorem dX5_leastDeadband_12 : decode cX5_leastDeadband 12 = .ok (.iconst 0, 1) := by decide +kernel
theorem dX5_leastDeadband_13 : decode cX5_leastDeadband 13 = .ok (.bipush 40, 2) := by decide +kernel
theorem dX5_leastDeadband_15 : decode cX5_leastDeadband 15 = .ok (.invokestatic 59, 3) := by decide +kernel
theorem dX5_leastDeadband_18 : decode cX5_leastDeadband 18 = .ok (.ifCond .ne 7, 3) := by decide +kernel
theorem dX5_leastDeadband_21 : decode cX5_leastDeadband 21 = .ok (.sipush (-20001), 3) := by decide +kernel
theorem dX5_leastDeadband_24 : decode cX5_leastDeadband 24 = .ok (.ireturn, 1) := by decide +kernel
theorem dX5_leastDeadband_25 : decode cX5_leastDeadband 25 = .ok (.aload_n 0, 1) := by decide +kernel
theorem dX5_leastDeadband_26 : decode cX5_leastDeadband 26 = .ok (.getfield 27, 3) := by decide +kernel
theorem dX5_leastDeadband_29 : decode cX5_leastDeadband 29 = .ok (.getfield 146, 3) := by decide +kernel
theorem dX5_leastDeadband_32 : decode cX5_leastDeadband 32 = .ok (.iload_n 1, 1) := by decide +kernel
theorem dX5_leastDeadband_33 : decode cX5_leastDeadband 33 = .ok (.aaload, 1) := by decide +kernel
theorem dX5_leastDeadband_34 : decode cX5_leastDeadband 34 = .ok (.iload_n 2, 1) := by decide +kernel
theorem dX5_leastDeadband_35 : decode cX5_leastDeadband 35 = .ok (.invokevirtual 155, 3) := by decide +kernel
theorem dX5_leastDeadband_38 : decode cX5_leastDeadband 38 = .ok (.ireturn, 1) := by decide +kernel
theorem dX5_type_0 : decode cX5_type 0 = .ok (.iload_n 1, 1) := by decide +kernel
theorem dX5_type_1 : decode cX5_type 1 = .ok (.bipush 32, 2) := by decide +kernel
theorem dX5_type_3 : decode cX5_type 3 = .ok (.bipush 126, 2) := by decide +kernel
theorem dX5_type_5 : decode cX5_type 5 = .ok (.invokestatic 59, 3) := by decide +kernel
theorem dX5_type_8 : decode cX5_type 8 = .ok (.ifCond .ne 7, 3) := by decide +kernel
theorem dX5_type_11 : decode cX5_type 11 = .ok (.sipush (-20001), 3) := by decide +kernel
theorem dX5_type_14 : decode cX5_type 14 = .ok (.ireturn, 1) := by decide +kernel
theorem dX5_type_15 : decode cX5_type 15 = .ok (.aload_n 0, 1) := by decide +kernel
theorem dX5_type_16 : decode cX5_type 16 = .ok (.getfield 10, 3) := by decide +kernel
theorem dX5_type_19 : decode cX5_type 19 = .ok (.iload_n 1, 1) := by decide +kernel
theorem dX5_type_20 : decode cX5_type 20 = .ok (.i2c, 1) := by decide +kernel
theorem dX5_type_21 : decode cX5_type 21 = .ok (.invokevirtual 158, 3) := by decide +kernel
theorem dX5_type_24 : decode cX5_type 24 = .ok (.ireturn, 1) := by decide +kernel
theorem dX5_undo_0 : decode cX5_undo 0 = .ok (.aload_n 0, 1) := by decide +kernel
theorem dX5_undo_1 : decode cX5_undo 1 = .ok (.getfield 182, 3) := by decide +kernel
theorem dX5_undo_4 : decode cX5_undo 4 = .ok (.ifCond .gt 7, 3) := by decide +kernel
theorem dX5_undo_7 : decode cX5_undo 7 = .ok (.sipush (-20009), 3) := by decide +kernel
theorem dX5_undo_10 : decode cX5_undo 10 = .ok (.ireturn, 1) := by decide +kernel
theorem dX5_undo_11 : decode cX5_undo 11 = .ok (.aload_n 0, 1) := by decide +kernel
theorem dX5_undo_12 : decode cX5_undo 12 = .ok (.dup, 1) := by decide +kernel
theorem dX5_undo_13 : decode cX5_undo 13 = .ok (.getfield 182, 3) := by decide +kernel
theorem dX5_undo_16 : decode cX5_undo 16 = .ok (.iconst 1, 1) := by decide +kernel
theorem dX5_undo_17 : decode cX5_undo 17 = .ok (.isub, 1) := by decide +kernel
theorem dX5_undo_18 : decode cX5_undo 18 = .ok (.putfield 182, 3) := by decide +kernel
theorem dX5_undo_21 : decode cX5_undo 21 = .ok (.aload_n 0, 1) := by decide +kernel
theorem dX5_undo_22 : decode cX5_undo 22 = .ok (.getfield 27, 3) := by decide +kernel
theorem dX5_undo_25 : decode cX5_undo 25 = .ok (.astore_n 1, 1) := by decide +kernel
theorem dX5_undo_26 : decode cX5_undo 26 = .ok (.aload_n 0, 1) := by decide +kernel
theorem dX5_undo_27 : decode cX5_undo 27 = .ok (.aload_n 0, 1) := by decide +kernel
theorem dX5_undo_28 : decode cX5_undo 28 = .ok (.getfield 22, 3) := by decide +kernel
theorem dX5_undo_31 : decode cX5_undo 31 = .ok (.aload_n 0, 1) := by decide +kernel
theorem dX5_undo_32 : decode cX5_undo 32 = .ok (.getfield 182, 3) := by decide +kernel
theorem dX5_undo_35 : decode cX5_undo 35 = .ok (.aaload, 1) := by decide +kernel
theorem dX5_undo_36 : decode cX5_undo 36 = .ok (.putfield 27, 3) := by decide +kernel
theorem dX5_undo_39 : decode cX5_undo 39 = .ok (.aload_n 0, 1) := by decide +kernel
theorem dX5_undo_40 : decode cX5_undo 40 = .ok (.getfield 22, 3) := by decide +kernel
theorem dX5_undo_43 : decode cX5_undo 43 = .ok (.aload_n 0, 1) := by decide +kernel
theorem dX5_undo_44 : decode cX5_undo 44 = .ok (.getfield 182, 3) := by decide +kernel
theorem dX5_undo_47 : decode cX5_undo 47 = .ok (.aload_n 1, 1) := by decide +kernel
theorem dX5_undo_48 : decode cX5_undo 48 = .ok (.aastore, 1) := by decide +kernel
theorem dX5_undo_49 : decode cX5_undo 49 = .ok (.aload_n 0, 1) := by decide +kernel
theorem dX5_undo_50 : decode cX5_undo 50 = .ok (.getfield 182, 3) := by decide +kernel
theorem dX5_undo_53 : decode cX5_undo 53 = .ok (.ireturn, 1) := by decide +kernel
theorem dX5_fingerprint_0 : decode cX5_fingerprint 0 = .ok (.ldc2_w 185, 3) := by decide +kernel
theorem dX5_fingerprint_3 : decode cX5_fingerprint 3 = .ok (.lstore_n 1, 1) := by decide +kernel
theorem dX5_fingerprint_4 : decode cX5_fingerprint 4 = .ok (.iconst 0, 1) := by decide +kernel
theorem dX5_fingerprint_5 : decode cX5_fingerprint 5 = .ok (.istore_n 3, 1) := by decide +kernel
theorem dX5_fingerprint_6 : decode cX5_fingerprint 6 = .ok (.iload_n 3, 1) := by decide +kernel
theorem dX5_fingerprint_7 : decode cX5_fingerprint 7 = .ok (.iconst 5, 1) := by decide +kernel
theorem dX5_fingerprint_8 : decode cX5_fingerprint 8 = .ok (.if_icmp .ge 22, 3) := by decide +kernel
theorem dX5_fingerprint_11 : decode cX5_fingerprint 11 = .ok (.ldc2_w 187, 3) := by decide +kernel
theorem dX5_fingerprint_14 : decode cX5_fingerprint 14 = .ok (.lload_n 1, 1) := by decide +kernel
theorem dX5_fingerprint_15 : decode cX5_fingerprint 15 = .ok (.lmul, 1) := by decide +kernel
theorem dX5_fingerprint_16 : decode cX5_fingerprint 16 = .ok (.aload_n 0, 1) := by decide +kernel
theorem dX5_fingerprint_17 : decode cX5_fingerprint 17 = .ok (.iload_n 3, 1) := by decide +kernel
theorem dX5_fingerprint_18 : decode cX5_fingerprint 18 = .ok (.invokevirtual 189, 3) := by decide +kernel
theorem dX5_fingerprint_21 : decode cX5_fingerprint 21 = .ok (.i2l, 1) := by decide +kernel
theorem dX5_fingerprint_22 : decode cX5_fingerprint 22 = .ok (.ladd, 1) := by decide +kernel
theorem dX5_fingerprint_23 : decode cX5_fingerprint 23 = .ok (.lstore_n 1, 1) := by decide +kernel
theorem dX5_fingerprint_24 : decode cX5_fingerprint 24 = .ok (.iinc 3 1, 3) := by decide +kernel
theorem dX5_fingerprint_27 : decode cX5_fingerprint 27 = .ok (.goto (-21), 3) := by decide +kernel
theorem dX5_fingerprint_30 : decode cX5_fingerprint 30 = .ok (.ldc2_w 187, 3) := by decide +kernel
theorem dX5_fingerprint_33 : decode cX5_fingerprint 33 = .ok (.lload_n 1, 1) := by decide +kernel
theorem dX5_fingerprint_34 : decode cX5_fingerprint 34 = .ok (.lmul, 1) := by decide +kernel
theorem dX5_fingerprint_35 : decode cX5_fingerprint 35 = .ok (.aload_n 0, 1) := by decide +kernel
theorem dX5_fingerprint_36 : decode cX5_fingerprint 36 = .ok (.invokevirtual 192, 3) := by decide +kernel
theorem dX5_fingerprint_39 : decode cX5_fingerprint 39 = .ok (.i2l, 1) := by decide +kernel
theorem dX5_fingerprint_40 : decode cX5_fingerprint 40 = .ok (.ladd, 1) := by decide +kernel
theorem dX5_fingerprint_41 : decode cX5_fingerprint 41 = .ok (.lstore_n 1, 1) := by decide +kernel
theorem dX5_fingerprint_42 : decode cX5_fingerprint 42 = .ok (.iconst 0, 1) := by decide +kernel
theorem dX5_fingerprint_43 : decode cX5_fingerprint 43 = .ok (.istore_n 3, 1) := by decide +kernel
theorem dX5_fingerprint_44 : decode cX5_fingerprint 44 = .ok (.iload_n 3, 1) := by decide +kernel
theorem dX5_fingerprint_45 : decode cX5_fingerprint 45 = .ok (.aload_n 0, 1) := by decide +kernel
theorem dX5_fingerprint_46 : decode cX5_fingerprint 46 = .ok (.invokevirtual 192, 3) := by decide +kernel
theorem dX5_fingerprint_49 : decode cX5_fingerprint 49 = .ok (.if_icmp .ge 40, 3) := by decide +kernel
theorem dX5_fingerprint_52 : decode cX5_fingerprint 52 = .ok (.iconst 0, 1) := by decide +kernel
theorem dX5_fingerprint_53 : decode cX5_fingerprint 53 = .ok (.istore 4, 2) := by decide +kernel
theorem dX5_fingerprint_55 : decode cX5_fingerprint 55 = .ok (.iload 4, 2) := by decide +kernel
theorem dX5_fingerprint_57 : decode cX5_fingerprint 57 = .ok (.bipush 16, 2) := by decide +kernel
theorem dX5_fingerprint_59 : decode cX5_fingerprint 59 = .ok (.if_icmp .ge 24, 3) := by decide +kernel
theorem dX5_fingerprint_62 : decode cX5_fingerprint 62 = .ok (.ldc2_w 187, 3) := by decide +kernel
theorem dX5_fingerprint_65 : decode cX5_fingerprint 65 = .ok (.lload_n 1, 1) := by decide +kernel
theorem dX5_fingerprint_66 : decode cX5_fingerprint 66 = .ok (.lmul, 1) := by decide +kernel
theorem dX5_fingerprint_67 : decode cX5_fingerprint 67 = .ok (.aload_n 0, 1) := by decide +kernel
theorem dX5_fingerprint_68 : decode cX5_fingerprint 68 = .ok (.iload_n 3, 1) := by decide +kernel
theorem dX5_fingerprint_69 : decode cX5_fingerprint 69 = .ok (.iload 4, 2) := by decide +kernel
theorem dX5_fingerprint_71 : decode cX5_fingerprint 71 = .ok (.invokevirtual 194, 3) := by decide +kernel
theorem dX5_fingerprint_74 : decode cX5_fingerprint 74 = .ok (.i2l, 1) := by decide +kernel
theorem dX5_fingerprint_75 : decode cX5_fingerprint 75 = .ok (.ladd, 1) := by decide +kernel
theorem dX5_fingerprint_76 : decode cX5_fingerprint 76 = .ok (.lstore_n 1, 1) := by decide +kernel
theorem dX5_fingerprint_77 : decode cX5_fingerprint 77 = .ok (.iinc 4 1, 3) := by decide +kernel
theorem dX5_fingerprint_80 : decode cX5_fingerprint 80 = .ok (.goto (-25), 3) := by decide +kernel
theorem dX5_fingerprint_83 : decode cX5_fingerprint 83 = .ok (.iinc 3 1, 3) := by decide +kernel
theorem dX5_fingerprint_86 : decode cX5_fingerprint 86 = .ok (.goto (-42), 3) := by decide +kernel
theorem dX5_fingerprint_89 : decode cX5_fingerprint 89 = .ok (.ldc2_w 187, 3) := by decide +kernel
theorem dX5_fingerprint_92 : decode cX5_fingerprint 92 = .ok (.lload_n 1, 1) := by decide +kernel
theorem dX5_fingerprint_93 : decode cX5_fingerprint 93 = .ok (.lmul, 1) := by decide +kernel
theorem dX5_fingerprint_94 : decode cX5_fingerprint 94 = .ok (.aload_n 0, 1) := by decide +kernel
theorem dX5_fingerprint_95 : decode cX5_fingerprint 95 = .ok (.invokevirtual 197, 3) := by decide +kernel
theorem dX5_fingerprint_98 : decode cX5_fingerprint 98 = .ok (.i2l, 1) := by decide +kernel
theorem dX5_fingerprint_99 : decode cX5_fingerprint 99 = .ok (.ladd, 1) := by decide +kernel
theorem dX5_fingerprint_100 : decode cX5_fingerprint 100 = .ok (.lstore_n 1, 1) := by decide +kernel
theorem dX5_fingerprint_101 : decode cX5_fingerprint 101 = .ok (.iconst 0, 1) := by decide +kernel
theorem dX5_fingerprint_102 : decode cX5_fingerprint 102 = .ok (.istore_n 3, 1) := by decide +kernel
theorem dX5_fingerprint_103 : decode cX5_fingerprint 103 = .ok (.iload_n 3, 1) := by decide +kernel
theorem dX5_fingerprint_104 : decode cX5_fingerprint 104 = .ok (.aload_n 0, 1) := by decide +kernel
theorem dX5_fingerprint_105 : decode cX5_fingerprint 105 = .ok (.getfield 27, 3) := by decide +kernel
theorem dX5_fingerprint_108 : decode cX5_fingerprint 108 = .ok (.getfield 121, 3) := by decide +kernel
theorem dX5_fingerprint_111 : decode cX5_fingerprint 111 = .ok (.invokevirtual 130, 3) := by decide +kernel
theorem dX5_fingerprint_114 : decode cX5_fingerprint 114 = .ok (.if_icmp .ge 39, 3) := by decide +kernel
theorem dX5_fingerprint_117 : decode cX5_fingerprint 117 = .ok (.iconst 0, 1) := by decide +kernel
theorem dX5_fingerprint_118 : decode cX5_fingerprint 118 = .ok (.istore 4, 2) := by decide +kernel
theorem dX5_fingerprint_120 : decode cX5_fingerprint 120 = .ok (.iload 4, 2) := by decide +kernel
theorem dX5_fingerprint_122 : decode cX5_fingerprint 122 = .ok (.iconst 3, 1) := by decide +kernel
theorem dX5_fingerprint_123 : decode cX5_fingerprint 123 = .ok (.if_icmp .ge 24, 3) := by decide +kernel
theorem dX5_fingerprint_126 : decode cX5_fingerprint 126 = .ok (.ldc2_w 187, 3) := by decide +kernel
theorem dX5_fingerprint_129 : decode cX5_fingerprint 129 = .ok (.lload_n 1, 1) := by decide +kernel
theorem dX5_fingerprint_130 : decode cX5_fingerprint 130 = .ok (.lmul, 1) := by decide +kernel
theorem dX5_fingerprint_131 : decode cX5_fingerprint 131 = .ok (.aload_n 0, 1) := by decide +kernel
theorem dX5_fingerprint_132 : decode cX5_fingerprint 132 = .ok (.iload_n 3, 1) := by decide +kernel
theorem dX5_fingerprint_133 : decode cX5_fingerprint 133 = .ok (.iload 4, 2) := by decide +kernel
theorem dX5_fingerprint_135 : decode cX5_fingerprint 135 = .ok (.invokevirtual 200, 3) := by decide +kernel
theorem dX5_fingerprint_138 : decode cX5_fingerprint 138 = .ok (.i2l, 1) := by decide +kernel
theorem dX5_fingerprint_139 : decode cX5_fingerprint 139 = .ok (.ladd, 1) := by decide +kernel
theorem dX5_fingerprint_140 : decode cX5_fingerprint 140 = .ok (.lstore_n 1, 1) := by decide +kernel
theorem dX5_fingerprint_141 : decode cX5_fingerprint 141 = .ok (.iinc 4 1, 3) := by decide +kernel
theorem dX5_fingerprint_144 : decode cX5_fingerprint 144 = .ok (.goto (-24), 3) := by decide +kernel
theorem dX5_fingerprint_147 : decode cX5_fingerprint 147 = .ok (.iinc 3 1, 3) := by decide +kernel
theorem dX5_fingerprint_150 : decode cX5_fingerprint 150 = .ok (.goto (-47), 3) := by decide +kernel
theorem dX5_fingerprint_153 : decode cX5_fingerprint 153 = .ok (.lload_n 1, 1) := by decide +kernel
theorem dX5_fingerprint_154 : decode cX5_fingerprint 154 = .ok (.lreturn, 1) := by decide +kernel
theorem dX5_isIn_0 : decode cX5_isIn 0 = .ok (.iload_n 0, 1) := by decide +kernel
theorem dX5_isIn_1 : decode cX5_isIn 1 = .ok (.iload_n 1, 1) := by decide +kernel
theorem dX5_isIn_2 : decode cX5_isIn 2 = .ok (.if_icmp .lt 12, 3) := by decide +kernel
theorem dX5_isIn_5 : decode cX5_isIn 5 = .ok (.iload_n 0, 1) := by decide +kernel
theorem dX5_isIn_6 : decode cX5_isIn 6 = .ok (.iload_n 2, 1) := by decide +kernel
theorem dX5_isIn_7 : decode cX5_isIn 7 = .ok (.if_icmp .gt 7, 3) := by decide +kernel
theorem dX5_isIn_10 : decode cX5_isIn 10 = .ok (.iconst 1, 1) := by decide +kernel
theorem dX5_isIn_11 : decode cX5_isIn 11 = .ok (.goto 4, 3) := by decide +kernel
theorem dX5_isIn_14 : decode cX5_isIn 14 = .ok (.iconst 0, 1) := by decide +kernel
theorem dX5_isIn_15 : decode cX5_isIn 15 = .ok (.ireturn, 1) := by decide +kernel
theorem dX5_isError_0 : decode cX5_isError 0 = .ok (.iload_n 0, 1) := by decide +kernel
theorem dX5_isError_1 : decode cX5_isError 1 = .ok (.sipush (-20001), 3) := by decide +kernel
theorem dX5_isError_4 : decode cX5_isError 4 = .ok (.if_icmp .gt 7, 3) := by decide +kernel
theorem dX5_isError_7 : decode cX5_isError 7 = .ok (.iconst 1, 1) := by decide +kernel
theorem dX5_isError_8 : decode cX5_isError 8 = .ok (.goto 4, 3) := by decide +kernel
theorem dX5_isError_11 : decode cX5_isError 11 = .ok (.iconst 0, 1) := by decide +kernel
theorem dX5_isError_12 : decode cX5_isError 12 = .ok (.ireturn, 1) := by decide +kernel
theorem dX5_noteBefore_0 : decode cX5_noteBefore 0 = .ok (.aload_n 0, 1) := by decide +kernel
theorem dX5_noteBefore_1 : decode cX5_noteBefore 1 = .ok (.getfield 31, 3) := by decide +kernel
theorem dX5_noteBefore_4 : decode cX5_noteBefore 4 = .ok (.aload_n 0, 1) := by decide +kernel
theorem dX5_noteBefore_5 : decode cX5_noteBefore 5 = .ok (.getfield 27, 3) := by decide +kernel
theorem dX5_noteBefore_8 : decode cX5_noteBefore 8 = .ok (.invokevirtual 178, 3) := by decide +kernel
theorem dX5_noteBefore_11 : decode cX5_noteBefore 11 = .ok (.return_, 1) := by decide +kernel
theorem dX5_settle_0 : decode cX5_settle 0 = .ok (.iload_n 1, 1) := by decide +kernel
theorem dX5_settle_1 : decode cX5_settle 1 = .ok (.invokestatic 108, 3) := by decide +kernel
theorem dX5_settle_4 : decode cX5_settle 4 = .ok (.ifCond .ne 7, 3) := by decide +kernel
theorem dX5_settle_7 : decode cX5_settle 7 = .ok (.aload_n 0, 1) := by decide +kernel
theorem dX5_settle_8 : decode cX5_settle 8 = .ok (.invokevirtual 203, 3) := by decide +kernel
theorem dX5_settle_11 : decode cX5_settle 11 = .ok (.iload_n 1, 1) := by decide +kernel
theorem dX5_settle_12 : decode cX5_settle 12 = .ok (.ireturn, 1) := by decide +kernel
theorem dX5_keepBefore_0 : decode cX5_keepBefore 0 = .ok (.aload_n 0, 1) := by decide +kernel
theorem dX5_keepBefore_1 : decode cX5_keepBefore 1 = .ok (.getfield 31, 3) := by decide +kernel
theorem dX5_keepBefore_4 : decode cX5_keepBefore 4 = .ok (.astore_n 1, 1) := by decide +kernel
theorem dX5_keepBefore_5 : decode cX5_keepBefore 5 = .ok (.aload_n 0, 1) := by decide +kernel
theorem dX5_keepBefore_6 : decode cX5_keepBefore 6 = .ok (.getfield 182, 3) := by decide +kernel
theorem dX5_keepBefore_9 : decode cX5_keepBefore 9 = .ok (.iconst 4, 1) := by decide +kernel
theorem dX5_keepBefore_10 : decode cX5_keepBefore 10 = .ok (.if_icmp .ge 37, 3) := by decide +kernel
theorem dX5_keepBefore_13 : decode cX5_keepBefore 13 = .ok (.aload_n 0, 1) := by decide +kernel
theorem dX5_keepBefore_14 : decode cX5_keepBefore 14 = .ok (.aload_n 0, 1) := by decide +kernel
theorem dX5_keepBefore_15 : decode cX5_keepBefore 15 = .ok (.getfield 22, 3) := by decide +kernel
theorem dX5_keepBefore_18 : decode cX5_keepBefore 18 = .ok (.aload_n 0, 1) := by decide +kernel
theorem dX5_keepBefore_19 : decode cX5_keepBefore 19 = .ok (.getfield 182, 3) := by decide +kernel
theorem dX5_keepBefore_22 : decode cX5_keepBefore 22 = .ok (.aaload, 1) := by decide +kernel
theorem dX5_keepBefore_23 : decode cX5_keepBefore 23 = .ok (.putfield 31, 3) := by decide +kernel
theorem dX5_keepBefore_26 : decode cX5_keepBefore 26 = .ok (.aload_n 0, 1) := by decide +kernel
theorem dX5_keepBefore_27 : decode cX5_keepBefore 27 = .ok (.getfield 22, 3) := by decide +kernel
theorem dX5_keepBefore_30 : decode cX5_keepBefore 30 = .ok (.aload_n 0, 1) := by decide +kernel
theorem dX5_keepBefore_31 : decode cX5_keepBefore 31 = .ok (.getfield 182, 3) := by decide +kernel
theorem dX5_keepBefore_34 : decode cX5_keepBefore 34 = .ok (.aload_n 1, 1) := by decide +kernel
theorem dX5_keepBefore_35 : decode cX5_keepBefore 35 = .ok (.aastore, 1) := by decide +kernel
theorem dX5_keepBefore_36 : decode cX5_keepBefore 36 = .ok (.aload_n 0, 1) := by decide +kernel
theorem dX5_keepBefore_37 : decode cX5_keepBefore 37 = .ok (.dup, 1) := by decide +kernel
theorem dX5_keepBefore_38 : decode cX5_keepBefore 38 = .ok (.getfield 182, 3) := by decide +kernel
theorem dX5_keepBefore_41 : decode cX5_keepBefore 41 = .ok (.iconst 1, 1) := by decide +kernel
theorem dX5_keepBefore_42 : decode cX5_keepBefore 42 = .ok (.iadd, 1) := by decide +kernel
theorem dX5_keepBefore_43 : decode cX5_keepBefore 43 = .ok (.putfield 182, 3) := by decide +kernel
theorem dX5_keepBefore_46 : decode cX5_keepBefore 46 = .ok (.return_, 1) := by decide +kernel
theorem dX5_keepBefore_47 : decode cX5_keepBefore 47 = .ok (.aload_n 0, 1) := by decide +kernel
theorem dX5_keepBefore_48 : decode cX5_keepBefore 48 = .ok (.aload_n 0, 1) := by decide +kernel
theorem dX5_keepBefore_49 : decode cX5_keepBefore 49 = .ok (.getfield 22, 3) := by decide +kernel
theorem dX5_keepBefore_52 : decode cX5_keepBefore 52 = .ok (.iconst 0, 1) := by decide +kernel
theorem dX5_keepBefore_53 : decode cX5_keepBefore 53 = .ok (.aaload, 1) := by decide +kernel
theorem dX5_keepBefore_54 : decode cX5_keepBefore 54 = .ok (.putfield 31, 3) := by decide +kernel
theorem dX5_keepBefore_57 : decode cX5_keepBefore 57 = .ok (.iconst 1, 1) := by decide +kernel
theorem dX5_keepBefore_58 : decode cX5_keepBefore 58 = .ok (.istore_n 2, 1) := by decide +kernel
theorem dX5_keepBefore_59 : decode cX5_keepBefore 59 = .ok (.iload_n 2, 1) := by decide +kernel
theorem dX5_keepBefore_60 : decode cX5_keepBefore 60 = .ok (.iconst 4, 1) := by decide +kernel
theorem dX5_keepBefore_61 : decode cX5_keepBefore 61 = .ok (.if_icmp .ge 23, 3) := by decide +kernel
theorem dX5_keepBefore_64 : decode cX5_keepBefore 64 = .ok (.aload_n 0, 1) := by decide +kernel
theorem dX5_keepBefore_65 : decode cX5_keepBefore 65 = .ok (.getfield 22, 3) := by decide +kernel
theorem dX5_keepBefore_68 : decode cX5_keepBefore 68 = .ok (.iload_n 2, 1) := by decide +kernel
theorem dX5_keepBefore_69 : decode cX5_keepBefore 69 = .ok (.iconst 1, 1) := by decide +kernel
theorem dX5_keepBefore_70 : decode cX5_keepBefore 70 = .ok (.isub, 1) := by decide +kernel
theorem dX5_keepBefore_71 : decode cX5_keepBefore 71 = .ok (.aload_n 0, 1) := by decide +kernel
theorem dX5_keepBefore_72 : decode cX5_keepBefore 72 = .ok (.getfield 22, 3) := by decide +kernel
theorem dX5_keepBefore_75 : decode cX5_keepBefore 75 = .ok (.iload_n 2, 1) := by decide +kernel
theorem dX5_keepBefore_76 : decode cX5_keepBefore 76 = .ok (.aaload, 1) := by decide +kernel
theorem dX5_keepBefore_77 : decode cX5_keepBefore 77 = .ok (.aastore, 1) := by decide +kernel
theorem dX5_keepBefore_78 : decode cX5_keepBefore 78 = .ok (.iinc 2 1, 3) := by decide +kernel
theorem dX5_keepBefore_81 : decode cX5_keepBefore 81 = .ok (.goto (-22), 3) := by decide +kernel
theorem dX5_keepBefore_84 : decode cX5_keepBefore 84 = .ok (.aload_n 0, 1) := by decide +kernel
theorem dX5_keepBefore_85 : decode cX5_keepBefore 85 = .ok (.getfield 22, 3) := by decide +kernel
theorem dX5_keepBefore_88 : decode cX5_keepBefore 88 = .ok (.iconst 3, 1) := by decide +kernel
theorem dX5_keepBefore_89 : decode cX5_keepBefore 89 = .ok (.aload_n 1, 1) := by decide +kernel
theorem dX5_keepBefore_90 : decode cX5_keepBefore 90 = .ok (.aastore, 1) := by decide +kernel
theorem dX5_keepBefore_91 : decode cX5_keepBefore 91 = .ok (.return_, 1) := by decide +kernel
