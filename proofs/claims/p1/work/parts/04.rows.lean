theorem dX2_init_0 : decode cX2_init 0 = .ok (.aload_n 0, 1) := by decide +kernel
theorem dX2_init_1 : decode cX2_init 1 = .ok (.invokespecial 3, 3) := by decide +kernel
theorem dX2_init_4 : decode cX2_init 4 = .ok (.aload_n 0, 1) := by decide +kernel
theorem dX2_init_5 : decode cX2_init 5 = .ok (.iconst 0, 1) := by decide +kernel
theorem dX2_init_6 : decode cX2_init 6 = .ok (.putfield 9, 3) := by decide +kernel
theorem dX2_init_9 : decode cX2_init 9 = .ok (.aload_n 0, 1) := by decide +kernel
theorem dX2_init_10 : decode cX2_init 10 = .ok (.iconst 0, 1) := by decide +kernel
theorem dX2_init_11 : decode cX2_init 11 = .ok (.putfield 15, 3) := by decide +kernel
theorem dX2_init_14 : decode cX2_init 14 = .ok (.aload_n 0, 1) := by decide +kernel
theorem dX2_init_15 : decode cX2_init 15 = .ok (.bipush 40, 2) := by decide +kernel
theorem dX2_init_17 : decode cX2_init 17 = .ok (.newarray .long, 2) := by decide +kernel
theorem dX2_init_19 : decode cX2_init 19 = .ok (.putfield 18, 3) := by decide +kernel
theorem dX2_init_22 : decode cX2_init 22 = .ok (.return_, 1) := by decide +kernel
theorem dX2_isMissing_0 : decode cX2_isMissing 0 = .ok (.aload_n 0, 1) := by decide +kernel
theorem dX2_isMissing_1 : decode cX2_isMissing 1 = .ok (.getfield 9, 3) := by decide +kernel
theorem dX2_isMissing_4 : decode cX2_isMissing 4 = .ok (.ifCond .ne 7, 3) := by decide +kernel
theorem dX2_isMissing_7 : decode cX2_isMissing 7 = .ok (.iconst 1, 1) := by decide +kernel
theorem dX2_isMissing_8 : decode cX2_isMissing 8 = .ok (.goto 4, 3) := by decide +kernel
theorem dX2_isMissing_12 : decode cX2_isMissing 12 = .ok (.ireturn, 1) := by decide +kernel
theorem dX2_renew_0 : decode cX2_renew 0 = .ok (.aload_n 0, 1) := by decide +kernel
theorem dX2_renew_1 : decode cX2_renew 1 = .ok (.iload_n 1, 1) := by decide +kernel
theorem dX2_renew_2 : decode cX2_renew 2 = .ok (.putfield 9, 3) := by decide +kernel
theorem dX2_renew_5 : decode cX2_renew 5 = .ok (.aload_n 0, 1) := by decide +kernel
theorem dX2_renew_6 : decode cX2_renew 6 = .ok (.iload_n 2, 1) := by decide +kernel
theorem dX2_renew_7 : decode cX2_renew 7 = .ok (.putfield 15, 3) := by decide +kernel
theorem dX2_renew_10 : decode cX2_renew 10 = .ok (.iconst 0, 1) := by decide +kernel
theorem dX2_renew_11 : decode cX2_renew 11 = .ok (.istore_n 3, 1) := by decide +kernel
theorem dX2_renew_12 : decode cX2_renew 12 = .ok (.iload_n 3, 1) := by decide +kernel
theorem dX2_renew_13 : decode cX2_renew 13 = .ok (.bipush 40, 2) := by decide +kernel
theorem dX2_renew_15 : decode cX2_renew 15 = .ok (.if_icmp .ge 16, 3) := by decide +kernel
theorem dX2_renew_18 : decode cX2_renew 18 = .ok (.aload_n 0, 1) := by decide +kernel
theorem dX2_renew_19 : decode cX2_renew 19 = .ok (.getfield 18, 3) := by decide +kernel
theorem dX2_renew_22 : decode cX2_renew 22 = .ok (.iload_n 3, 1) := by decide +kernel
theorem dX2_renew_23 : decode cX2_renew 23 = .ok (.lconst 0, 1) := by decide +kernel
theorem dX2_renew_24 : decode cX2_renew 24 = .ok (.lastore, 1) := by decide +kernel
theorem dX2_renew_25 : decode cX2_renew 25 = .ok (.iinc 3 1, 3) := by decide +kernel
theorem dX2_renew_28 : decode cX2_renew 28 = .ok (.goto (-16), 3) := by decide +kernel
theorem dX2_renew_31 : decode cX2_renew 31 = .ok (.return_, 1) := by decide +kernel
theorem dX3_init_0 : decode cX3_init 0 = .ok (.aload_n 0, 1) := by decide +kernel
theorem dX3_init_1 : decode cX3_init 1 = .ok (.invokespecial 3, 3) := by decide +kernel
theorem dX3_init_4 : decode cX3_init 4 = .ok (.aload_n 0, 1) := by decide +kernel
theorem dX3_init_5 : decode cX3_init 5 = .ok (.iconst 0, 1) := by decide +kernel
theorem dX3_init_6 : decode cX3_init 6 = .ok (.putfield 9, 3) := by decide +kernel
theorem dX3_init_9 : decode cX3_init 9 = .ok (.aload_n 0, 1) := by decide +kernel
theorem dX3_init_10 : decode cX3_init 10 = .ok (.bipush 6, 2) := by decide +kernel
theorem dX3_init_12 : decode cX3_init 12 = .ok (.newarray .int, 2) := by decide +kernel
theorem dX3_init_14 : decode cX3_init 14 = .ok (.putfield 15, 3) := by decide +kernel
theorem dX3_init_17 : decode cX3_init 17 = .ok (.aload_n 0, 1) := by decide +kernel
theorem dX3_init_18 : decode cX3_init 18 = .ok (.sipush 384, 3) := by decide +kernel
theorem dX3_init_21 : decode cX3_init 21 = .ok (.newarray .int, 2) := by decide +kernel
theorem dX3_init_23 : decode cX3_init 23 = .ok (.putfield 19, 3) := by decide +kernel
theorem dX3_init_26 : decode cX3_init 26 = .ok (.return_, 1) := by decide +kernel
theorem dX3_plan_0 : decode cX3_plan 0 = .ok (.aload_n 1, 1) := by decide +kernel
theorem dX3_plan_1 : decode cX3_plan 1 = .ok (.getfield 22, 3) := by decide +kernel
theorem dX3_plan_4 : decode cX3_plan 4 = .ok (.bipush 6, 2) := by decide +kernel
theorem dX3_plan_6 : decode cX3_plan 6 = .ok (.invokestatic 27, 3) := by decide +kernel
theorem dX3_plan_9 : decode cX3_plan 9 = .ok (.istore_n 2, 1) := by decide +kernel
theorem dX3_plan_10 : decode cX3_plan 10 = .ok (.iconst 1, 1) := by decide +kernel
theorem dX3_plan_11 : decode cX3_plan 11 = .ok (.iload_n 2, 1) := by decide +kernel
theorem dX3_plan_12 : decode cX3_plan 12 = .ok (.ishl, 1) := by decide +kernel
theorem dX3_plan_13 : decode cX3_plan 13 = .ok (.iconst 1, 1) := by decide +kernel
theorem dX3_plan_14 : decode cX3_plan 14 = .ok (.isub, 1) := by decide +kernel
theorem dX3_plan_15 : decode cX3_plan 15 = .ok (.istore_n 3, 1) := by decide +kernel
theorem dX3_plan_16 : decode cX3_plan 16 = .ok (.iload_n 3, 1) := by decide +kernel
theorem dX3_plan_17 : decode cX3_plan 17 = .ok (.ifCond .le 76, 3) := by decide +kernel
theorem dX3_plan_93 : decode cX3_plan 93 = .ok (.aload_n 0, 1) := by decide +kernel
theorem dX3_plan_94 : decode cX3_plan 94 = .ok (.aload_n 1, 1) := by decide +kernel
theorem dX3_plan_95 : decode cX3_plan 95 = .ok (.iload_n 2, 1) := by decide +kernel
theorem dX3_plan_96 : decode cX3_plan 96 = .ok (.invokevirtual 40, 3) := by decide +kernel
theorem dX3_plan_99 : decode cX3_plan 99 = .ok (.return_, 1) := by decide +kernel
theorem dX3_walk_0 : decode cX3_walk 0 = .ok (.iconst 0, 1) := by decide +kernel
theorem dX3_walk_1 : decode cX3_walk 1 = .ok (.istore_n 3, 1) := by decide +kernel
theorem dX3_walk_2 : decode cX3_walk 2 = .ok (.iconst (-1), 1) := by decide +kernel
theorem dX3_walk_3 : decode cX3_walk 3 = .ok (.istore 4, 2) := by decide +kernel
theorem dX3_walk_5 : decode cX3_walk 5 = .ok (.aload_n 0, 1) := by decide +kernel
theorem dX3_walk_6 : decode cX3_walk 6 = .ok (.iconst 0, 1) := by decide +kernel
theorem dX3_walk_7 : decode cX3_walk 7 = .ok (.putfield 9, 3) := by decide +kernel
theorem dX3_walk_10 : decode cX3_walk 10 = .ok (.iconst 0, 1) := by decide +kernel
theorem dX3_walk_11 : decode cX3_walk 11 = .ok (.istore 5, 2) := by decide +kernel
theorem dX3_walk_13 : decode cX3_walk 13 = .ok (.iload 5, 2) := by decide +kernel
theorem dX3_walk_15 : decode cX3_walk 15 = .ok (.iload_n 2, 1) := by decide +kernel
theorem dX3_walk_16 : decode cX3_walk 16 = .ok (.if_icmp .ge 65, 3) := by decide +kernel
theorem dX3_walk_81 : decode cX3_walk 81 = .ok (.return_, 1) := by decide +kernel
theorem dX4_init_0 : decode cX4_init 0 = .ok (.aload_n 0, 1) := by decide +kernel
theorem dX4_init_1 : decode cX4_init 1 = .ok (.invokespecial 3, 3) := by decide +kernel
theorem dX4_init_4 : decode cX4_init 4 = .ok (.aload_n 0, 1) := by decide +kernel
theorem dX4_init_5 : decode cX4_init 5 = .ok (.new 9, 3) := by decide +kernel
theorem dX4_init_8 : decode cX4_init 8 = .ok (.dup, 1) := by decide +kernel
theorem dX4_init_9 : decode cX4_init 9 = .ok (.invokespecial 11, 3) := by decide +kernel
theorem dX4_init_12 : decode cX4_init 12 = .ok (.putfield 12, 3) := by decide +kernel
theorem dX4_init_15 : decode cX4_init 15 = .ok (.aload_n 0, 1) := by decide +kernel
theorem dX4_init_16 : decode cX4_init 16 = .ok (.new 18, 3) := by decide +kernel
theorem dX4_init_19 : decode cX4_init 19 = .ok (.dup, 1) := by decide +kernel
theorem dX4_init_20 : decode cX4_init 20 = .ok (.invokespecial 20, 3) := by decide +kernel
theorem dX4_init_23 : decode cX4_init 23 = .ok (.putfield 21, 3) := by decide +kernel
theorem dX4_init_26 : decode cX4_init 26 = .ok (.aload_n 0, 1) := by decide +kernel
theorem dX4_init_27 : decode cX4_init 27 = .ok (.iconst 0, 1) := by decide +kernel
theorem dX4_init_28 : decode cX4_init 28 = .ok (.putfield 25, 3) := by decide +kernel
theorem dX4_init_31 : decode cX4_init 31 = .ok (.aload_n 0, 1) := by decide +kernel
theorem dX4_init_32 : decode cX4_init 32 = .ok (.iconst 0, 1) := by decide +kernel
theorem dX4_init_33 : decode cX4_init 33 = .ok (.putfield 29, 3) := by decide +kernel
theorem dX4_init_36 : decode cX4_init 36 = .ok (.aload_n 0, 1) := by decide +kernel
theorem dX4_init_37 : decode cX4_init 37 = .ok (.iconst 0, 1) := by decide +kernel
theorem dX4_init_38 : decode cX4_init 38 = .ok (.putfield 32, 3) := by decide +kernel
theorem dX4_init_41 : decode cX4_init 41 = .ok (.aload_n 0, 1) := by decide +kernel
theorem dX4_init_42 : decode cX4_init 42 = .ok (.lconst 0, 1) := by decide +kernel
theorem dX4_init_43 : decode cX4_init 43 = .ok (.putfield 35, 3) := by decide +kernel
theorem dX4_init_46 : decode cX4_init 46 = .ok (.return_, 1) := by decide +kernel
theorem dX5_init_0 : decode cX5_init 0 = .ok (.aload_n 0, 1) := by decide +kernel
theorem dX5_init_1 : decode cX5_init 1 = .ok (.invokespecial 3, 3) := by decide +kernel
theorem dX5_init_4 : decode cX5_init 4 = .ok (.aload_n 0, 1) := by decide +kernel
theorem dX5_init_5 : decode cX5_init 5 = .ok (.iconst (-1), 1) := by decide +kernel
theorem dX5_init_6 : decode cX5_init 6 = .ok (.putfield 9, 3) := by decide +kernel
theorem dX5_init_9 : decode cX5_init 9 = .ok (.aload_n 0, 1) := by decide +kernel
theorem dX5_init_10 : decode cX5_init 10 = .ok (.bipush 65, 2) := by decide +kernel
theorem dX5_init_12 : decode cX5_init 12 = .ok (.putfield 15, 3) := by decide +kernel
theorem dX5_init_15 : decode cX5_init 15 = .ok (.return_, 1) := by decide +kernel
theorem dX6_init_0 : decode cX6_init 0 = .ok (.aload_n 0, 1) := by decide +kernel
theorem dX6_init_1 : decode cX6_init 1 = .ok (.invokespecial 3, 3) := by decide +kernel
theorem dX6_init_4 : decode cX6_init 4 = .ok (.aload_n 0, 1) := by decide +kernel
theorem dX6_init_5 : decode cX6_init 5 = .ok (.iconst 0, 1) := by decide +kernel
theorem dX6_init_6 : decode cX6_init 6 = .ok (.putfield 9, 3) := by decide +kernel
theorem dX6_init_9 : decode cX6_init 9 = .ok (.aload_n 0, 1) := by decide +kernel
theorem dX6_init_10 : decode cX6_init 10 = .ok (.bipush 9, 2) := by decide +kernel
theorem dX6_init_12 : decode cX6_init 12 = .ok (.newarray .int, 2) := by decide +kernel
theorem dX6_init_14 : decode cX6_init 14 = .ok (.putfield 15, 3) := by decide +kernel
theorem dX6_init_17 : decode cX6_init 17 = .ok (.aload_n 0, 1) := by decide +kernel
theorem dX6_init_18 : decode cX6_init 18 = .ok (.bipush 9, 2) := by decide +kernel
theorem dX6_init_20 : decode cX6_init 20 = .ok (.newarray .int, 2) := by decide +kernel
theorem dX6_init_22 : decode cX6_init 22 = .ok (.putfield 19, 3) := by decide +kernel
theorem dX6_init_25 : decode cX6_init 25 = .ok (.aload_n 0, 1) := by decide +kernel
theorem dX6_init_26 : decode cX6_init 26 = .ok (.iconst 0, 1) := by decide +kernel
theorem dX6_init_27 : decode cX6_init 27 = .ok (.putfield 22, 3) := by decide +kernel
theorem dX6_init_30 : decode cX6_init 30 = .ok (.aload_n 0, 1) := by decide +kernel
theorem dX6_init_31 : decode cX6_init 31 = .ok (.iconst 4, 1) := by decide +kernel
theorem dX6_init_32 : decode cX6_init 32 = .ok (.newarray .int, 2) := by decide +kernel
theorem dX6_init_34 : decode cX6_init 34 = .ok (.putfield 25, 3) := by decide +kernel
theorem dX6_init_37 : decode cX6_init 37 = .ok (.aload_n 0, 1) := by decide +kernel
theorem dX6_init_38 : decode cX6_init 38 = .ok (.iconst 4, 1) := by decide +kernel
theorem dX6_init_39 : decode cX6_init 39 = .ok (.newarray .int, 2) := by decide +kernel
theorem dX6_init_41 : decode cX6_init 41 = .ok (.putfield 28, 3) := by decide +kernel
theorem dX6_init_44 : decode cX6_init 44 = .ok (.aload_n 0, 1) := by decide +kernel
theorem dX6_init_45 : decode cX6_init 45 = .ok (.iconst 0, 1) := by decide +kernel
theorem dX6_init_46 : decode cX6_init 46 = .ok (.putfield 31, 3) := by decide +kernel
theorem dX6_init_49 : decode cX6_init 49 = .ok (.aload_n 0, 1) := by decide +kernel
theorem dX6_init_50 : decode cX6_init 50 = .ok (.bipush 7, 2) := by decide +kernel
theorem dX6_init_52 : decode cX6_init 52 = .ok (.newarray .long, 2) := by decide +kernel
theorem dX6_init_54 : decode cX6_init 54 = .ok (.putfield 34, 3) := by decide +kernel
theorem dX6_init_57 : decode cX6_init 57 = .ok (.aload_n 0, 1) := by decide +kernel
theorem dX6_init_58 : decode cX6_init 58 = .ok (.bipush 63, 2) := by decide +kernel
theorem dX6_init_60 : decode cX6_init 60 = .ok (.putfield 38, 3) := by decide +kernel
theorem dX6_init_63 : decode cX6_init 63 = .ok (.iconst 0, 1) := by decide +kernel
theorem dX6_init_64 : decode cX6_init 64 = .ok (.istore_n 1, 1) := by decide +kernel
theorem dX6_init_65 : decode cX6_init 65 = .ok (.iload_n 1, 1) := by decide +kernel
theorem dX6_init_66 : decode cX6_init 66 = .ok (.iconst 4, 1) := by decide +kernel
theorem dX6_init_67 : decode cX6_init 67 = .ok (.if_icmp .ge 23, 3) := by decide +kernel
theorem dX6_init_70 : decode cX6_init 70 = .ok (.aload_n 0, 1) := by decide +kernel
theorem dX6_init_71 : decode cX6_init 71 = .ok (.getfield 25, 3) := by decide +kernel
theorem dX6_init_74 : decode cX6_init 74 = .ok (.iload_n 1, 1) := by decide +kernel
theorem dX6_init_75 : decode cX6_init 75 = .ok (.iconst (-1), 1) := by decide +kernel
theorem dX6_init_76 : decode cX6_init 76 = .ok (.iastore, 1) := by decide +kernel
theorem dX6_init_77 : decode cX6_init 77 = .ok (.aload_n 0, 1) := by decide +kernel
theorem dX6_init_78 : decode cX6_init 78 = .ok (.getfield 28, 3) := by decide +kernel
theorem dX6_init_81 : decode cX6_init 81 = .ok (.iload_n 1, 1) := by decide +kernel
theorem dX6_init_82 : decode cX6_init 82 = .ok (.iconst (-1), 1) := by decide +kernel
theorem dX6_init_83 : decode cX6_init 83 = .ok (.iastore, 1) := by decide +kernel
theorem dX6_init_84 : decode cX6_init 84 = .ok (.iinc 1 1, 3) := by decide +kernel
theorem dX6_init_87 : decode cX6_init 87 = .ok (.goto (-22), 3) := by decide +kernel
theorem dX6_init_90 : decode cX6_init 90 = .ok (.return_, 1) := by decide +kernel
theorem dX6_takeAll_0 : decode cX6_takeAll 0 = .ok (.aload_n 0, 1) := by decide +kernel
theorem dX6_takeAll_1 : decode cX6_takeAll 1 = .ok (.aload_n 1, 1) := by decide +kernel
theorem dX6_takeAll_2 : decode cX6_takeAll 2 = .ok (.getfield 9, 3) := by decide +kernel
theorem dX6_takeAll_5 : decode cX6_takeAll 5 = .ok (.putfield 9, 3) := by decide +kernel
theorem dX6_takeAll_8 : decode cX6_takeAll 8 = .ok (.aload_n 1, 1) := by decide +kernel
theorem dX6_takeAll_9 : decode cX6_takeAll 9 = .ok (.getfield 15, 3) := by decide +kernel
theorem dX6_takeAll_12 : decode cX6_takeAll 12 = .ok (.iconst 0, 1) := by decide +kernel
theorem dX6_takeAll_13 : decode cX6_takeAll 13 = .ok (.aload_n 0, 1) := by decide +kernel
theorem dX6_takeAll_14 : decode cX6_takeAll 14 = .ok (.getfield 15, 3) := by decide +kernel
theorem dX6_takeAll_17 : decode cX6_takeAll 17 = .ok (.iconst 0, 1) := by decide +kernel
theorem dX6_takeAll_18 : decode cX6_takeAll 18 = .ok (.bipush 9, 2) := by decide +kernel
theorem dX6_takeAll_20 : decode cX6_takeAll 20 = .ok (.invokestatic 41, 3) := by decide +kernel
theorem dX6_takeAll_23 : decode cX6_takeAll 23 = .ok (.aload_n 1, 1) := by decide +kernel
theorem dX6_takeAll_24 : decode cX6_takeAll 24 = .ok (.getfield 19, 3) := by decide +kernel
theorem dX6_takeAll_27 : decode cX6_takeAll 27 = .ok (.iconst 0, 1) := by decide +kernel
theorem dX6_takeAll_28 : decode cX6_takeAll 28 = .ok (.aload_n 0, 1) := by decide +kernel
theorem dX6_takeAll_29 : decode cX6_takeAll 29 = .ok (.getfield 19, 3) := by decide +kernel
theorem dX6_takeAll_32 : decode cX6_takeAll 32 = .ok (.iconst 0, 1) := by decide +kernel
theorem dX6_takeAll_33 : decode cX6_takeAll 33 = .ok (.bipush 9, 2) := by decide +kernel
theorem dX6_takeAll_35 : decode cX6_takeAll 35 = .ok (.invokestatic 41, 3) := by decide +kernel
theorem dX6_takeAll_38 : decode cX6_takeAll 38 = .ok (.aload_n 0, 1) := by decide +kernel
theorem dX6_takeAll_39 : decode cX6_takeAll 39 = .ok (.aload_n 1, 1) := by decide +kernel
theorem dX6_takeAll_40 : decode cX6_takeAll 40 = .ok (.getfield 22, 3) := by decide +kernel
theorem dX6_takeAll_43 : decode cX6_takeAll 43 = .ok (.putfield 22, 3) := by decide +kernel
theorem dX6_takeAll_46 : decode cX6_takeAll 46 = .ok (.aload_n 1, 1) := by decide +kernel
theorem dX6_takeAll_47 : decode cX6_takeAll 47 = .ok (.getfield 25, 3) := by decide +kernel
theorem dX6_takeAll_50 : decode cX6_takeAll 50 = .ok (.iconst 0, 1) := by decide +kernel
theorem dX6_takeAll_51 : decode cX6_takeAll 51 = .ok (.aload_n 0, 1) := by decide +kernel
theorem dX6_takeAll_52 : decode cX6_takeAll 52 = .ok (.getfield 25, 3) := by decide +kernel
theorem dX6_takeAll_55 : decode cX6_takeAll 55 = .ok (.iconst 0, 1) := by decide +kernel
theorem dX6_takeAll_56 : decode cX6_takeAll 56 = .ok (.iconst 4, 1) := by decide +kernel
theorem dX6_takeAll_57 : decode cX6_takeAll 57 = .ok (.invokestatic 41, 3) := by decide +kernel
theorem dX6_takeAll_60 : decode cX6_takeAll 60 = .ok (.aload_n 1, 1) := by decide +kernel
theorem dX6_takeAll_61 : decode cX6_takeAll 61 = .ok (.getfield 28, 3) := by decide +kernel
theorem dX6_takeAll_64 : decode cX6_takeAll 64 = .ok (.iconst 0, 1) := by decide +kernel
theorem dX6_takeAll_65 : decode cX6_takeAll 65 = .ok (.aload_n 0, 1) := by decide +kernel
theorem dX6_takeAll_66 : decode cX6_takeAll 66 = .ok (.getfield 28, 3) := by decide +kernel
theorem dX6_takeAll_69 : decode cX6_takeAll 69 = .ok (.iconst 0, 1) := by decide +kernel
theorem dX6_takeAll_70 : decode cX6_takeAll 70 = .ok (.iconst 4, 1) := by decide +kernel
theorem dX6_takeAll_71 : decode cX6_takeAll 71 = .ok (.invokestatic 41, 3) := by decide +kernel
theorem dX6_takeAll_74 : decode cX6_takeAll 74 = .ok (.aload_n 0, 1) := by decide +kernel
theorem dX6_takeAll_75 : decode cX6_takeAll 75 = .ok (.aload_n 1, 1) := by decide +kernel
theorem dX6_takeAll_76 : decode cX6_takeAll 76 = .ok (.getfield 31, 3) := by decide +kernel
theorem dX6_takeAll_79 : decode cX6_takeAll 79 = .ok (.putfield 31, 3) := by decide +kernel
theorem dX6_takeAll_82 : decode cX6_takeAll 82 = .ok (.aload_n 1, 1) := by decide +kernel
theorem dX6_takeAll_83 : decode cX6_takeAll 83 = .ok (.getfield 34, 3) := by decide +kernel
theorem dX6_takeAll_86 : decode cX6_takeAll 86 = .ok (.iconst 0, 1) := by decide +kernel
theorem dX6_takeAll_87 : decode cX6_takeAll 87 = .ok (.aload_n 0, 1) := by decide +kernel
theorem dX6_takeAll_88 : decode cX6_takeAll 88 = .ok (.getfield 34, 3) := by decide +kernel
theorem dX6_takeAll_91 : decode cX6_takeAll 91 = .ok (.iconst 0, 1) := by decide +kernel
theorem dX6_takeAll_92 : decode cX6_takeAll 92 = .ok (.bipush 7, 2) := by decide +kernel
theorem dX6_takeAll_94 : decode cX6_takeAll 94 = .ok (.invokestatic 41, 3) := by decide +kernel
theorem dX6_takeAll_97 : decode cX6_takeAll 97 = .ok (.aload_n 0, 1) := by decide +kernel
theorem dX6_takeAll_98 : decode cX6_takeAll 98 = .ok (.aload_n 1, 1) := by decide +kernel
theorem dX6_takeAll_99 : decode cX6_takeAll 99 = .ok (.getfield 38, 3) := by decide +kernel
theorem dX6_takeAll_102 : decode cX6_takeAll 102 = .ok (.putfield 38, 3) := by decide +kernel
theorem dX6_takeAll_105 : decode cX6_takeAll 105 = .ok (.return_, 1) := by decide +kernel
theorem dX6_hasShape_0 : decode cX6_hasShape 0 = .ok (.iload_n 1, 1) := by decide +kernel
theorem dX6_hasShape_1 : decode cX6_hasShape 1 = .ok (.ifCond .lt 15, 3) := by decide +kernel
theorem dX6_hasShape_4 : decode cX6_hasShape 4 = .ok (.iload_n 1, 1) := by decide +kernel
theorem dX6_hasShape_5 : decode cX6_hasShape 5 = .ok (.aload_n 0, 1) := by decide +kernel
theorem dX6_hasShape_6 : decode cX6_hasShape 6 = .ok (.getfield 9, 3) := by decide +kernel
theorem dX6_hasShape_9 : decode cX6_hasShape 9 = .ok (.if_icmp .ge 7, 3) := by decide +kernel
theorem dX6_hasShape_16 : decode cX6_hasShape 16 = .ok (.iconst 0, 1) := by decide +kernel
theorem dX6_hasShape_17 : decode cX6_hasShape 17 = .ok (.ireturn, 1) := by decide +kernel
theorem dX6_hasRoomForShape_0 : decode cX6_hasRoomForShape 0 = .ok (.aload_n 0, 1) := by decide +kernel
theorem dX6_hasRoomForShape_1 : decode cX6_hasRoomForShape 1 = .ok (.getfield 9, 3) := by decide +kernel
theorem dX6_hasRoomForShape_4 : decode cX6_hasRoomForShape 4 = .ok (.bipush 9, 2) := by decide +kernel
theorem dX6_hasRoomForShape_6 : decode cX6_hasRoomForShape 6 = .ok (.if_icmp .ge 7, 3) := by decide +kernel
theorem dX6_hasRoomForShape_9 : decode cX6_hasRoomForShape 9 = .ok (.iconst 1, 1) := by decide +kernel
theorem dX6_hasRoomForShape_10 : decode cX6_hasRoomForShape 10 = .ok (.goto 4, 3) := by decide +kernel
theorem dX6_hasRoomForShape_14 : decode cX6_hasRoomForShape 14 = .ok (.ireturn, 1) := by decide +kernel
theorem dX6_addShape_0 : decode cX6_addShape 0 = .ok (.aload_n 0, 1) := by decide +kernel
theorem dX6_addShape_1 : decode cX6_addShape 1 = .ok (.getfield 15, 3) := by decide +kernel
theorem dX6_addShape_4 : decode cX6_addShape 4 = .ok (.aload_n 0, 1) := by decide +kernel
theorem dX6_addShape_5 : decode cX6_addShape 5 = .ok (.getfield 9, 3) := by decide +kernel
theorem dX6_addShape_8 : decode cX6_addShape 8 = .ok (.iload_n 1, 1) := by decide +kernel
theorem dX6_addShape_9 : decode cX6_addShape 9 = .ok (.iastore, 1) := by decide +kernel
theorem dX6_addShape_10 : decode cX6_addShape 10 = .ok (.aload_n 0, 1) := by decide +kernel
theorem dX6_addShape_11 : decode cX6_addShape 11 = .ok (.getfield 19, 3) := by decide +kernel
theorem dX6_addShape_14 : decode cX6_addShape 14 = .ok (.aload_n 0, 1) := by decide +kernel
theorem dX6_addShape_15 : decode cX6_addShape 15 = .ok (.getfield 9, 3) := by decide +kernel
theorem dX6_addShape_18 : decode cX6_addShape 18 = .ok (.iload_n 2, 1) := by decide +kernel
theorem dX6_addShape_19 : decode cX6_addShape 19 = .ok (.iastore, 1) := by decide +kernel
theorem dX6_addShape_20 : decode cX6_addShape 20 = .ok (.aload_n 0, 1) := by decide +kernel
theorem dX6_addShape_21 : decode cX6_addShape 21 = .ok (.dup, 1) := by decide +kernel
theorem dX6_addShape_22 : decode cX6_addShape 22 = .ok (.getfield 9, 3) := by decide +kernel
theorem dX6_addShape_25 : decode cX6_addShape 25 = .ok (.iconst 1, 1) := by decide +kernel
theorem dX6_addShape_26 : decode cX6_addShape 26 = .ok (.iadd, 1) := by decide +kernel
theorem dX6_addShape_27 : decode cX6_addShape 27 = .ok (.putfield 9, 3) := by decide +kernel
theorem dX6_addShape_30 : decode cX6_addShape 30 = .ok (.aload_n 0, 1) := by decide +kernel
theorem dX6_addShape_31 : decode cX6_addShape 31 = .ok (.getfield 9, 3) := by decide +kernel
theorem dX6_addShape_34 : decode cX6_addShape 34 = .ok (.iconst 1, 1) := by decide +kernel
theorem dX6_addShape_35 : decode cX6_addShape 35 = .ok (.isub, 1) := by decide +kernel
theorem dX6_addShape_36 : decode cX6_addShape 36 = .ok (.ireturn, 1) := by decide +kernel
theorem dX6_wholeShapes_0 : decode cX6_wholeShapes 0 = .ok (.iconst 1, 1) := by decide +kernel
theorem dX6_wholeShapes_1 : decode cX6_wholeShapes 1 = .ok (.aload_n 0, 1) := by decide +kernel
theorem dX6_wholeShapes_2 : decode cX6_wholeShapes 2 = .ok (.getfield 9, 3) := by decide +kernel
theorem dX6_wholeShapes_5 : decode cX6_wholeShapes 5 = .ok (.ishl, 1) := by decide +kernel
theorem dX6_wholeShapes_6 : decode cX6_wholeShapes 6 = .ok (.iconst 1, 1) := by decide +kernel
theorem dX6_wholeShapes_7 : decode cX6_wholeShapes 7 = .ok (.isub, 1) := by decide +kernel
theorem dX6_wholeShapes_8 : decode cX6_wholeShapes 8 = .ok (.aload_n 0, 1) := by decide +kernel
theorem dX6_wholeShapes_9 : decode cX6_wholeShapes 9 = .ok (.getfield 22, 3) := by decide +kernel
theorem dX6_wholeShapes_12 : decode cX6_wholeShapes 12 = .ok (.iconst (-1), 1) := by decide +kernel
theorem dX6_wholeShapes_13 : decode cX6_wholeShapes 13 = .ok (.ixor, 1) := by decide +kernel
theorem dX6_wholeShapes_14 : decode cX6_wholeShapes 14 = .ok (.iand, 1) := by decide +kernel
theorem dX6_wholeShapes_15 : decode cX6_wholeShapes 15 = .ok (.ireturn, 1) := by decide +kernel
theorem dX6_holdsInUse_0 : decode cX6_holdsInUse 0 = .ok (.iconst 0, 1) := by decide +kernel
theorem dX6_holdsInUse_1 : decode cX6_holdsInUse 1 = .ok (.istore_n 1, 1) := by decide +kernel
theorem dX6_holdsInUse_2 : decode cX6_holdsInUse 2 = .ok (.iconst 0, 1) := by decide +kernel
theorem dX6_holdsInUse_3 : decode cX6_holdsInUse 3 = .ok (.istore_n 2, 1) := by decide +kernel
theorem dX6_holdsInUse_4 : decode cX6_holdsInUse 4 = .ok (.iload_n 2, 1) := by decide +kernel
theorem dX6_holdsInUse_5 : decode cX6_holdsInUse 5 = .ok (.iconst 4, 1) := by decide +kernel
theorem dX6_holdsInUse_6 : decode cX6_holdsInUse 6 = .ok (.if_icmp .ge 21, 3) := by decide +kernel
theorem dX6_holdsInUse_9 : decode cX6_holdsInUse 9 = .ok (.aload_n 0, 1) := by decide +kernel
theorem dX6_holdsInUse_10 : decode cX6_holdsInUse 10 = .ok (.getfield 25, 3) := by decide +kernel
theorem dX6_holdsInUse_13 : decode cX6_holdsInUse 13 = .ok (.iload_n 2, 1) := by decide +kernel
theorem dX6_holdsInUse_14 : decode cX6_holdsInUse 14 = .ok (.iaload, 1) := by decide +kernel
theorem dX6_holdsInUse_15 : decode cX6_holdsInUse 15 = .ok (.ifCond .lt 6, 3) := by decide +kernel
theorem dX6_holdsInUse_21 : decode cX6_holdsInUse 21 = .ok (.iinc 2 1, 3) := by decide +kernel
theorem dX6_holdsInUse_24 : decode cX6_holdsInUse 24 = .ok (.goto (-20), 3) := by decide +kernel
theorem dX6_holdsInUse_27 : decode cX6_holdsInUse 27 = .ok (.iload_n 1, 1) := by decide +kernel
theorem dX6_holdsInUse_28 : decode cX6_holdsInUse 28 = .ok (.ireturn, 1) := by decide +kernel
theorem dX6_cellsOfHold_0 : decode cX6_cellsOfHold 0 = .ok (.aload_n 0, 1) := by decide +kernel
theorem dX6_cellsOfHold_1 : decode cX6_cellsOfHold 1 = .ok (.getfield 25, 3) := by decide +kernel
theorem dX6_cellsOfHold_4 : decode cX6_cellsOfHold 4 = .ok (.iload_n 1, 1) := by decide +kernel
theorem dX6_cellsOfHold_5 : decode cX6_cellsOfHold 5 = .ok (.iaload, 1) := by decide +kernel
theorem dX6_cellsOfHold_6 : decode cX6_cellsOfHold 6 = .ok (.istore_n 2, 1) := by decide +kernel
theorem dX6_cellsOfHold_7 : decode cX6_cellsOfHold 7 = .ok (.aload_n 0, 1) := by decide +kernel
theorem dX6_cellsOfHold_8 : decode cX6_cellsOfHold 8 = .ok (.iload_n 2, 1) := by decide +kernel
theorem dX6_cellsOfHold_9 : decode cX6_cellsOfHold 9 = .ok (.invokevirtual 78, 3) := by decide +kernel
theorem dX6_cellsOfHold_12 : decode cX6_cellsOfHold 12 = .ok (.ifCond .eq 11, 3) := by decide +kernel
theorem dX6_cellsOfHold_23 : decode cX6_cellsOfHold 23 = .ok (.lconst 0, 1) := by decide +kernel
theorem dX6_cellsOfHold_24 : decode cX6_cellsOfHold 24 = .ok (.lreturn, 1) := by decide +kernel
theorem dX6_darkCells_0 : decode cX6_darkCells 0 = .ok (.lconst 0, 1) := by decide +kernel
theorem dX6_darkCells_1 : decode cX6_darkCells 1 = .ok (.lstore_n 1, 1) := by decide +kernel
theorem dX6_darkCells_2 : decode cX6_darkCells 2 = .ok (.iconst 0, 1) := by decide +kernel
theorem dX6_darkCells_3 : decode cX6_darkCells 3 = .ok (.istore_n 3, 1) := by decide +kernel
theorem dX6_darkCells_4 : decode cX6_darkCells 4 = .ok (.iload_n 3, 1) := by decide +kernel
theorem dX6_darkCells_5 : decode cX6_darkCells 5 = .ok (.iconst 4, 1) := by decide +kernel
theorem dX6_darkCells_6 : decode cX6_darkCells 6 = .ok (.if_icmp .ge 17, 3) := by decide +kernel
theorem dX6_darkCells_9 : decode cX6_darkCells 9 = .ok (.lload_n 1, 1) := by decide +kernel
theorem dX6_darkCells_10 : decode cX6_darkCells 10 = .ok (.aload_n 0, 1) := by decide +kernel
theorem dX6_darkCells_11 : decode cX6_darkCells 11 = .ok (.iload_n 3, 1) := by decide +kernel
theorem dX6_darkCells_12 : decode cX6_darkCells 12 = .ok (.invokevirtual 88, 3) := by decide +kernel
theorem dX6_darkCells_15 : decode cX6_darkCells 15 = .ok (.lor, 1) := by decide +kernel
theorem dX6_darkCells_16 : decode cX6_darkCells 16 = .ok (.lstore_n 1, 1) := by decide +kernel
theorem dX6_darkCells_17 : decode cX6_darkCells 17 = .ok (.iinc 3 1, 3) := by decide +kernel
theorem dX6_darkCells_20 : decode cX6_darkCells 20 = .ok (.goto (-16), 3) := by decide +kernel
theorem dX6_darkCells_23 : decode cX6_darkCells 23 = .ok (.lload_n 1, 1) := by decide +kernel
theorem dX6_darkCells_24 : decode cX6_darkCells 24 = .ok (.lreturn, 1) := by decide +kernel
theorem dX6_singleCells_0 : decode cX6_singleCells 0 = .ok (.lconst 0, 1) := by decide +kernel
theorem dX6_singleCells_1 : decode cX6_singleCells 1 = .ok (.lstore_n 1, 1) := by decide +kernel
theorem dX6_singleCells_2 : decode cX6_singleCells 2 = .ok (.lconst 0, 1) := by decide +kernel
theorem dX6_singleCells_3 : decode cX6_singleCells 3 = .ok (.lstore_n 3, 1) := by decide +kernel
theorem dX6_singleCells_4 : decode cX6_singleCells 4 = .ok (.iconst 0, 1) := by decide +kernel
theorem dX6_singleCells_5 : decode cX6_singleCells 5 = .ok (.istore 5, 2) := by decide +kernel
theorem dX6_singleCells_7 : decode cX6_singleCells 7 = .ok (.iload 5, 2) := by decide +kernel
theorem dX6_singleCells_9 : decode cX6_singleCells 9 = .ok (.iconst 4, 1) := by decide +kernel
theorem dX6_singleCells_10 : decode cX6_singleCells 10 = .ok (.if_icmp .ge 29, 3) := by decide +kernel
theorem dX6_singleCells_13 : decode cX6_singleCells 13 = .ok (.aload_n 0, 1) := by decide +kernel
theorem dX6_singleCells_14 : decode cX6_singleCells 14 = .ok (.iload 5, 2) := by decide +kernel
theorem dX6_singleCells_16 : decode cX6_singleCells 16 = .ok (.invokevirtual 88, 3) := by decide +kernel
theorem dX6_singleCells_19 : decode cX6_singleCells 19 = .ok (.lstore 6, 2) := by decide +kernel
theorem dX6_singleCells_21 : decode cX6_singleCells 21 = .ok (.lload_n 3, 1) := by decide +kernel
theorem dX6_singleCells_22 : decode cX6_singleCells 22 = .ok (.lload_n 1, 1) := by decide +kernel
theorem dX6_singleCells_23 : decode cX6_singleCells 23 = .ok (.lload 6, 2) := by decide +kernel
theorem dX6_singleCells_25 : decode cX6_singleCells 25 = .ok (.land, 1) := by decide +kernel
theorem dX6_singleCells_26 : decode cX6_singleCells 26 = .ok (.lor, 1) := by decide +kernel
theorem dX6_singleCells_27 : decode cX6_singleCells 27 = .ok (.lstore_n 3, 1) := by decide +kernel
theorem dX6_singleCells_28 : decode cX6_singleCells 28 = .ok (.lload_n 1, 1) := by decide +kernel
theorem dX6_singleCells_29 : decode cX6_singleCells 29 = .ok (.lload 6, 2) := by decide +kernel
theorem dX6_singleCells_31 : decode cX6_singleCells 31 = .ok (.lor, 1) := by decide +kernel
theorem dX6_singleCells_32 : decode cX6_singleCells 32 = .ok (.lstore_n 1, 1) := by decide +kernel
theorem dX6_singleCells_33 : decode cX6_singleCells 33 = .ok (.iinc 5 1, 3) := by decide +kernel
theorem dX6_singleCells_36 : decode cX6_singleCells 36 = .ok (.goto (-29), 3) := by decide +kernel
theorem dX6_singleCells_39 : decode cX6_singleCells 39 = .ok (.lload_n 1, 1) := by decide +kernel
theorem dX6_singleCells_40 : decode cX6_singleCells 40 = .ok (.lload_n 3, 1) := by decide +kernel
theorem dX6_singleCells_41 : decode cX6_singleCells 41 = .ok (.ldc2_w 92, 3) := by decide +kernel
theorem dX6_singleCells_44 : decode cX6_singleCells 44 = .ok (.lxor, 1) := by decide +kernel
theorem dX6_singleCells_45 : decode cX6_singleCells 45 = .ok (.land, 1) := by decide +kernel
theorem dX6_singleCells_46 : decode cX6_singleCells 46 = .ok (.lreturn, 1) := by decide +kernel
theorem dX6_hasScene_0 : decode cX6_hasScene 0 = .ok (.iload_n 1, 1) := by decide +kernel
theorem dX6_hasScene_1 : decode cX6_hasScene 1 = .ok (.ifCond .lt 15, 3) := by decide +kernel
theorem dX6_hasScene_4 : decode cX6_hasScene 4 = .ok (.iload_n 1, 1) := by decide +kernel
theorem dX6_hasScene_5 : decode cX6_hasScene 5 = .ok (.aload_n 0, 1) := by decide +kernel
theorem dX6_hasScene_6 : decode cX6_hasScene 6 = .ok (.getfield 31, 3) := by decide +kernel
theorem dX6_hasScene_9 : decode cX6_hasScene 9 = .ok (.if_icmp .ge 7, 3) := by decide +kernel
theorem dX6_hasScene_16 : decode cX6_hasScene 16 = .ok (.iconst 0, 1) := by decide +kernel
theorem dX6_hasScene_17 : decode cX6_hasScene 17 = .ok (.ireturn, 1) := by decide +kernel
theorem dX6_hasRoomForScene_0 : decode cX6_hasRoomForScene 0 = .ok (.aload_n 0, 1) := by decide +kernel
theorem dX6_hasRoomForScene_1 : decode cX6_hasRoomForScene 1 = .ok (.getfield 31, 3) := by decide +kernel
theorem dX6_hasRoomForScene_4 : decode cX6_hasRoomForScene 4 = .ok (.bipush 7, 2) := by decide +kernel
theorem dX6_hasRoomForScene_6 : decode cX6_hasRoomForScene 6 = .ok (.if_icmp .ge 7, 3) := by decide +kernel
theorem dX6_hasRoomForScene_9 : decode cX6_hasRoomForScene 9 = .ok (.iconst 1, 1) := by decide +kernel
theorem dX6_hasRoomForScene_10 : decode cX6_hasRoomForScene 10 = .ok (.goto 4, 3) := by decide +kernel
theorem dX6_hasRoomForScene_14 : decode cX6_hasRoomForScene 14 = .ok (.ireturn, 1) := by decide +kernel
theorem dX6_addScene_0 : decode cX6_addScene 0 = .ok (.aload_n 0, 1) := by decide +kernel
theorem dX6_addScene_1 : decode cX6_addScene 1 = .ok (.getfield 34, 3) := by decide +kernel
theorem dX6_addScene_4 : decode cX6_addScene 4 = .ok (.aload_n 0, 1) := by decide +kernel
theorem dX6_addScene_5 : decode cX6_addScene 5 = .ok (.getfield 31, 3) := by decide +kernel
theorem dX6_addScene_8 : decode cX6_addScene 8 = .ok (.lload_n 1, 1) := by decide +kernel
theorem dX6_addScene_9 : decode cX6_addScene 9 = .ok (.lastore, 1) := by decide +kernel
theorem dX6_addScene_10 : decode cX6_addScene 10 = .ok (.aload_n 0, 1) := by decide +kernel
theorem dX6_addScene_11 : decode cX6_addScene 11 = .ok (.dup, 1) := by decide +kernel
theorem dX6_addScene_12 : decode cX6_addScene 12 = .ok (.getfield 31, 3) := by decide +kernel
theorem dX6_addScene_15 : decode cX6_addScene 15 = .ok (.iconst 1, 1) := by decide +kernel
theorem dX6_addScene_16 : decode cX6_addScene 16 = .ok (.iadd, 1) := by decide +kernel
theorem dX6_addScene_17 : decode cX6_addScene 17 = .ok (.putfield 31, 3) := by decide +kernel
theorem dX6_addScene_20 : decode cX6_addScene 20 = .ok (.aload_n 0, 1) := by decide +kernel
theorem dX6_addScene_21 : decode cX6_addScene 21 = .ok (.getfield 31, 3) := by decide +kernel
theorem dX6_addScene_24 : decode cX6_addScene 24 = .ok (.iconst 1, 1) := by decide +kernel
theorem dX6_addScene_25 : decode cX6_addScene 25 = .ok (.isub, 1) := by decide +kernel
theorem dX6_addScene_26 : decode cX6_addScene 26 = .ok (.ireturn, 1) := by decide +kernel
theorem dX7_init_0 : decode cX7_init 0 = .ok (.aload_n 0, 1) := by decide +kernel
theorem dX7_init_1 : decode cX7_init 1 = .ok (.invokespecial 3, 3) := by decide +kernel
theorem dX7_init_4 : decode cX7_init 4 = .ok (.aload_n 0, 1) := by decide +kernel
theorem dX7_init_5 : decode cX7_init 5 = .ok (.iconst 0, 1) := by decide +kernel
theorem dX7_init_6 : decode cX7_init 6 = .ok (.putfield 9, 3) := by decide +kernel
theorem dX7_init_9 : decode cX7_init 9 = .ok (.aload_n 0, 1) := by decide +kernel
theorem dX7_init_10 : decode cX7_init 10 = .ok (.bipush 120, 2) := by decide +kernel
theorem dX7_init_12 : decode cX7_init 12 = .ok (.newarray .int, 2) := by decide +kernel
theorem dX7_init_14 : decode cX7_init 14 = .ok (.putfield 15, 3) := by decide +kernel
theorem dX7_init_17 : decode cX7_init 17 = .ok (.return_, 1) := by decide +kernel
theorem dX7_hasRoomFor_0 : decode cX7_hasRoomFor 0 = .ok (.iload_n 1, 1) := by decide +kernel
theorem dX7_hasRoomFor_1 : decode cX7_hasRoomFor 1 = .ok (.bipush 120, 2) := by decide +kernel
theorem dX7_hasRoomFor_3 : decode cX7_hasRoomFor 3 = .ok (.aload_n 0, 1) := by decide +kernel
theorem dX7_hasRoomFor_4 : decode cX7_hasRoomFor 4 = .ok (.getfield 9, 3) := by decide +kernel
theorem dX7_hasRoomFor_7 : decode cX7_hasRoomFor 7 = .ok (.isub, 1) := by decide +kernel
theorem dX7_hasRoomFor_8 : decode cX7_hasRoomFor 8 = .ok (.if_icmp .gt 7, 3) := by decide +kernel
theorem dX7_hasRoomFor_11 : decode cX7_hasRoomFor 11 = .ok (.iconst 1, 1) := by decide +kernel
theorem dX7_hasRoomFor_12 : decode cX7_hasRoomFor 12 = .ok (.goto 4, 3) := by decide +kernel
theorem dX7_hasRoomFor_15 : decode cX7_hasRoomFor 15 = .ok (.iconst 0, 1) := by decide +kernel
theorem dX7_hasRoomFor_16 : decode cX7_hasRoomFor 16 = .ok (.ireturn, 1) := by decide +kernel
theorem dX7_add_0 : decode cX7_add 0 = .ok (.aload_n 0, 1) := by decide +kernel
theorem dX7_add_1 : decode cX7_add 1 = .ok (.getfield 15, 3) := by decide +kernel
theorem dX7_add_4 : decode cX7_add 4 = .ok (.aload_n 0, 1) := by decide +kernel
theorem dX7_add_5 : decode cX7_add 5 = .ok (.getfield 9, 3) := by decide +kernel
theorem dX7_add_8 : decode cX7_add 8 = .ok (.iload_n 1, 1) := by decide +kernel
theorem dX7_add_9 : decode cX7_add 9 = .ok (.sipush 255, 3) := by decide +kernel
theorem dX7_add_12 : decode cX7_add 12 = .ok (.iand, 1) := by decide +kernel
theorem dX7_add_13 : decode cX7_add 13 = .ok (.iastore, 1) := by decide +kernel
theorem dX7_add_14 : decode cX7_add 14 = .ok (.aload_n 0, 1) := by decide +kernel
theorem dX7_add_15 : decode cX7_add 15 = .ok (.dup, 1) := by decide +kernel
theorem dX7_add_16 : decode cX7_add 16 = .ok (.getfield 9, 3) := by decide +kernel
theorem dX7_add_19 : decode cX7_add 19 = .ok (.iconst 1, 1) := by decide +kernel
theorem dX7_add_20 : decode cX7_add 20 = .ok (.iadd, 1) := by decide +kernel
theorem dX7_add_21 : decode cX7_add 21 = .ok (.putfield 9, 3) := by decide +kernel
theorem dX7_add_24 : decode cX7_add 24 = .ok (.return_, 1) := by decide +kernel
theorem dX8_init_0 : decode cX8_init 0 = .ok (.aload_n 0, 1) := by decide +kernel
theorem dX8_init_1 : decode cX8_init 1 = .ok (.invokespecial 1, 3) := by decide +kernel
theorem dX8_init_4 : decode cX8_init 4 = .ok (.aload_n 0, 1) := by decide +kernel
theorem dX8_init_5 : decode cX8_init 5 = .ok (.new 7, 3) := by decide +kernel
theorem dX8_init_8 : decode cX8_init 8 = .ok (.dup, 1) := by decide +kernel
theorem dX8_init_9 : decode cX8_init 9 = .ok (.invokespecial 9, 3) := by decide +kernel
theorem dX8_init_12 : decode cX8_init 12 = .ok (.putfield 10, 3) := by decide +kernel
theorem dX8_init_15 : decode cX8_init 15 = .ok (.aload_n 0, 1) := by decide +kernel
theorem dX8_init_16 : decode cX8_init 16 = .ok (.new 7, 3) := by decide +kernel
theorem dX8_init_19 : decode cX8_init 19 = .ok (.dup, 1) := by decide +kernel
theorem dX8_init_20 : decode cX8_init 20 = .ok (.invokespecial 9, 3) := by decide +kernel
theorem dX8_init_23 : decode cX8_init 23 = .ok (.putfield 16, 3) := by decide +kernel
theorem dX8_init_26 : decode cX8_init 26 = .ok (.aload_n 0, 1) := by decide +kernel
theorem dX8_init_27 : decode cX8_init 27 = .ok (.new 19, 3) := by decide +kernel
theorem dX8_init_30 : decode cX8_init 30 = .ok (.dup, 1) := by decide +kernel
theorem dX8_init_31 : decode cX8_init 31 = .ok (.invokespecial 21, 3) := by decide +kernel
theorem dX8_init_34 : decode cX8_init 34 = .ok (.putfield 22, 3) := by decide +kernel
theorem dX8_init_37 : decode cX8_init 37 = .ok (.aload_n 0, 1) := by decide +kernel
theorem dX8_init_38 : decode cX8_init 38 = .ok (.new 26, 3) := by decide +kernel
theorem dX8_init_41 : decode cX8_init 41 = .ok (.dup, 1) := by decide +kernel
theorem dX8_init_42 : decode cX8_init 42 = .ok (.invokespecial 28, 3) := by decide +kernel
theorem dX8_init_45 : decode cX8_init 45 = .ok (.putfield 29, 3) := by decide +kernel
theorem dX8_init_48 : decode cX8_init 48 = .ok (.aload_n 0, 1) := by decide +kernel
theorem dX8_init_49 : decode cX8_init 49 = .ok (.new 33, 3) := by decide +kernel
theorem dX8_init_52 : decode cX8_init 52 = .ok (.dup, 1) := by decide +kernel
theorem dX8_init_53 : decode cX8_init 53 = .ok (.invokespecial 35, 3) := by decide +kernel
theorem dX8_init_56 : decode cX8_init 56 = .ok (.putfield 36, 3) := by decide +kernel
theorem dX8_init_59 : decode cX8_init 59 = .ok (.aload_n 0, 1) := by decide +kernel
theorem dX8_init_60 : decode cX8_init 60 = .ok (.iconst 4, 1) := by decide +kernel
theorem dX8_init_61 : decode cX8_init 61 = .ok (.anewarray 40, 3) := by decide +kernel
theorem dX8_init_64 : decode cX8_init 64 = .ok (.putfield 42, 3) := by decide +kernel
theorem dX8_init_67 : decode cX8_init 67 = .ok (.aload_n 0, 1) := by decide +kernel
theorem dX8_init_68 : decode cX8_init 68 = .ok (.bipush 7, 2) := by decide +kernel
theorem dX8_init_70 : decode cX8_init 70 = .ok (.newarray .int, 2) := by decide +kernel
theorem dX8_init_72 : decode cX8_init 72 = .ok (.putfield 46, 3) := by decide +kernel
theorem dX8_init_75 : decode cX8_init 75 = .ok (.aload_n 0, 1) := by decide +kernel
theorem dX8_init_76 : decode cX8_init 76 = .ok (.iconst 0, 1) := by decide +kernel
theorem dX8_init_77 : decode cX8_init 77 = .ok (.putfield 50, 3) := by decide +kernel
theorem dX8_init_80 : decode cX8_init 80 = .ok (.iconst 0, 1) := by decide +kernel
theorem dX8_init_81 : decode cX8_init 81 = .ok (.istore_n 1, 1) := by decide +kernel
theorem dX8_init_82 : decode cX8_init 82 = .ok (.iload_n 1, 1) := by decide +kernel
theorem dX8_init_83 : decode cX8_init 83 = .ok (.iconst 4, 1) := by decide +kernel
theorem dX8_init_84 : decode cX8_init 84 = .ok (.if_icmp .ge 22, 3) := by decide +kernel
theorem dX8_init_87 : decode cX8_init 87 = .ok (.aload_n 0, 1) := by decide +kernel
theorem dX8_init_88 : decode cX8_init 88 = .ok (.getfield 42, 3) := by decide +kernel
theorem dX8_init_91 : decode cX8_init 91 = .ok (.iload_n 1, 1) := by decide +kernel
theorem dX8_init_92 : decode cX8_init 92 = .ok (.new 40, 3) := by decide +kernel
theorem dX8_init_95 : decode cX8_init 95 = .ok (.dup, 1) := by decide +kernel
theorem dX8_init_96 : decode cX8_init 96 = .ok (.invokespecial 54, 3) := by decide +kernel
theorem dX8_init_99 : decode cX8_init 99 = .ok (.aastore, 1) := by decide +kernel
theorem dX8_init_100 : decode cX8_init 100 = .ok (.iinc 1 1, 3) := by decide +kernel
theorem dX8_init_103 : decode cX8_init 103 = .ok (.goto (-21), 3) := by decide +kernel
theorem dX8_init_106 : decode cX8_init 106 = .ok (.return_, 1) := by decide +kernel
theorem dX8_shape_0 : decode cX8_shape 0 = .ok (.iload_n 1, 1) := by decide +kernel
theorem dX8_shape_1 : decode cX8_shape 1 = .ok (.invokestatic 55, 3) := by decide +kernel
theorem dX8_shape_4 : decode cX8_shape 4 = .ok (.ifCond .eq 10, 3) := by decide +kernel
theorem dX8_shape_7 : decode cX8_shape 7 = .ok (.iload_n 2, 1) := by decide +kernel
theorem dX8_shape_8 : decode cX8_shape 8 = .ok (.invokestatic 59, 3) := by decide +kernel
theorem dX8_shape_11 : decode cX8_shape 11 = .ok (.ifCond .ne 10, 3) := by decide +kernel
theorem dX8_shape_14 : decode cX8_shape 14 = .ok (.aload_n 0, 1) := by decide +kernel
theorem dX8_shape_15 : decode cX8_shape 15 = .ok (.ldc 62, 2) := by decide +kernel
theorem dX8_shape_17 : decode cX8_shape 17 = .ok (.invokevirtual 63, 3) := by decide +kernel
theorem dX8_shape_20 : decode cX8_shape 20 = .ok (.ireturn, 1) := by decide +kernel
theorem dX8_shape_21 : decode cX8_shape 21 = .ok (.aload_n 0, 1) := by decide +kernel
theorem dX8_shape_22 : decode cX8_shape 22 = .ok (.getfield 10, 3) := by decide +kernel
theorem dX8_shape_25 : decode cX8_shape 25 = .ok (.invokevirtual 67, 3) := by decide +kernel
theorem dX8_shape_28 : decode cX8_shape 28 = .ok (.ifCond .ne 10, 3) := by decide +kernel
theorem dX8_shape_38 : decode cX8_shape 38 = .ok (.aload_n 0, 1) := by decide +kernel
theorem dX8_shape_39 : decode cX8_shape 39 = .ok (.getfield 10, 3) := by decide +kernel
theorem dX8_shape_42 : decode cX8_shape 42 = .ok (.iload_n 1, 1) := by decide +kernel
theorem dX8_shape_43 : decode cX8_shape 43 = .ok (.iload_n 2, 1) := by decide +kernel
theorem dX8_shape_44 : decode cX8_shape 44 = .ok (.invokevirtual 72, 3) := by decide +kernel
theorem dX8_shape_47 : decode cX8_shape 47 = .ok (.ireturn, 1) := by decide +kernel
theorem dX8_of_0 : decode cX8_of 0 = .ok (.aload_n 0, 1) := by decide +kernel
theorem dX8_of_1 : decode cX8_of 1 = .ok (.getfield 10, 3) := by decide +kernel
theorem dX8_of_4 : decode cX8_of 4 = .ok (.iload_n 1, 1) := by decide +kernel
theorem dX8_of_5 : decode cX8_of 5 = .ok (.invokevirtual 76, 3) := by decide +kernel
theorem dX8_of_8 : decode cX8_of 8 = .ok (.ifCond .ne 10, 3) := by decide +kernel
theorem dX8_of_11 : decode cX8_of 11 = .ok (.aload_n 0, 1) := by decide +kernel
theorem dX8_of_12 : decode cX8_of 12 = .ok (.ldc 62, 2) := by decide +kernel
theorem dX8_of_14 : decode cX8_of 14 = .ok (.invokevirtual 63, 3) := by decide +kernel
theorem dX8_of_17 : decode cX8_of 17 = .ok (.ireturn, 1) := by decide +kernel
theorem dX8_cut_0 : decode cX8_cut 0 = .ok (.aload_n 0, 1) := by decide +kernel
theorem dX8_cut_1 : decode cX8_cut 1 = .ok (.getfield 10, 3) := by decide +kernel
theorem dX8_cut_4 : decode cX8_cut 4 = .ok (.iload_n 1, 1) := by decide +kernel
theorem dX8_cut_5 : decode cX8_cut 5 = .ok (.invokevirtual 76, 3) := by decide +kernel
theorem dX8_cut_8 : decode cX8_cut 8 = .ok (.ifCond .eq 10, 3) := by decide +kernel
theorem dX8_cut_18 : decode cX8_cut 18 = .ok (.aload_n 0, 1) := by decide +kernel
theorem dX8_cut_19 : decode cX8_cut 19 = .ok (.ldc 62, 2) := by decide +kernel
theorem dX8_cut_21 : decode cX8_cut 21 = .ok (.invokevirtual 63, 3) := by decide +kernel
theorem dX8_cut_24 : decode cX8_cut 24 = .ok (.ireturn, 1) := by decide +kernel
theorem dX8_tear_0 : decode cX8_tear 0 = .ok (.aload_n 0, 1) := by decide +kernel
theorem dX8_tear_1 : decode cX8_tear 1 = .ok (.getfield 10, 3) := by decide +kernel
theorem dX8_tear_4 : decode cX8_tear 4 = .ok (.iload_n 1, 1) := by decide +kernel
theorem dX8_tear_5 : decode cX8_tear 5 = .ok (.invokevirtual 76, 3) := by decide +kernel
theorem dX8_tear_8 : decode cX8_tear 8 = .ok (.ifCond .ne 10, 3) := by decide +kernel
theorem dX8_tear_11 : decode cX8_tear 11 = .ok (.aload_n 0, 1) := by decide +kernel
theorem dX8_tear_12 : decode cX8_tear 12 = .ok (.ldc 62, 2) := by decide +kernel
theorem dX8_tear_14 : decode cX8_tear 14 = .ok (.invokevirtual 63, 3) := by decide +kernel
theorem dX8_tear_17 : decode cX8_tear 17 = .ok (.ireturn, 1) := by decide +kernel
theorem dX8_become_0 : decode cX8_become 0 = .ok (.aload_n 0, 1) := by decide +kernel
theorem dX8_become_1 : decode cX8_become 1 = .ok (.getfield 10, 3) := by decide +kernel
theorem dX8_become_4 : decode cX8_become 4 = .ok (.iload_n 1, 1) := by decide +kernel
theorem dX8_become_5 : decode cX8_become 5 = .ok (.invokevirtual 76, 3) := by decide +kernel
theorem dX8_become_8 : decode cX8_become 8 = .ok (.ifCond .eq 10, 3) := by decide +kernel
theorem dX8_become_18 : decode cX8_become 18 = .ok (.aload_n 0, 1) := by decide +kernel
theorem dX8_become_19 : decode cX8_become 19 = .ok (.ldc 62, 2) := by decide +kernel
theorem dX8_become_21 : decode cX8_become 21 = .ok (.invokevirtual 63, 3) := by decide +kernel
theorem dX8_become_24 : decode cX8_become 24 = .ok (.ireturn, 1) := by decide +kernel
theorem dX8_as_0 : decode cX8_as 0 = .ok (.aload_n 0, 1) := by decide +kernel
theorem dX8_as_1 : decode cX8_as 1 = .ok (.getfield 10, 3) := by decide +kernel
theorem dX8_as_4 : decode cX8_as 4 = .ok (.iload_n 1, 1) := by decide +kernel
theorem dX8_as_5 : decode cX8_as 5 = .ok (.invokevirtual 76, 3) := by decide +kernel
theorem dX8_as_8 : decode cX8_as 8 = .ok (.ifCond .eq 10, 3) := by decide +kernel
theorem dX8_as_18 : decode cX8_as 18 = .ok (.aload_n 0, 1) := by decide +kernel
theorem dX8_as_19 : decode cX8_as 19 = .ok (.ldc 62, 2) := by decide +kernel
theorem dX8_as_21 : decode cX8_as 21 = .ok (.invokevirtual 63, 3) := by decide +kernel
theorem dX8_as_24 : decode cX8_as 24 = .ok (.ireturn, 1) := by decide +kernel
theorem dX8_thrown_0 : decode cX8_thrown 0 = .ok (.aload_n 0, 1) := by decide +kernel
theorem dX8_thrown_1 : decode cX8_thrown 1 = .ok (.getfield 10, 3) := by decide +kernel
theorem dX8_thrown_4 : decode cX8_thrown 4 = .ok (.iload_n 1, 1) := by decide +kernel
theorem dX8_thrown_5 : decode cX8_thrown 5 = .ok (.invokevirtual 76, 3) := by decide +kernel
theorem dX8_thrown_8 : decode cX8_thrown 8 = .ok (.ifCond .eq 12, 3) := by decide +kernel
theorem dX8_thrown_20 : decode cX8_thrown 20 = .ok (.aload_n 0, 1) := by decide +kernel
theorem dX8_thrown_21 : decode cX8_thrown 21 = .ok (.ldc 62, 2) := by decide +kernel
theorem dX8_thrown_23 : decode cX8_thrown 23 = .ok (.invokevirtual 63, 3) := by decide +kernel
theorem dX8_thrown_26 : decode cX8_thrown 26 = .ok (.ireturn, 1) := by decide +kernel
theorem dX8_shadow_0 : decode cX8_shadow 0 = .ok (.aload_n 0, 1) := by decide +kernel
theorem dX8_shadow_1 : decode cX8_shadow 1 = .ok (.getfield 10, 3) := by decide +kernel
theorem dX8_shadow_4 : decode cX8_shadow 4 = .ok (.iload_n 1, 1) := by decide +kernel
theorem dX8_shadow_5 : decode cX8_shadow 5 = .ok (.invokevirtual 76, 3) := by decide +kernel
theorem dX8_shadow_8 : decode cX8_shadow 8 = .ok (.ifCond .eq 10, 3) := by decide +kernel
theorem dX8_shadow_18 : decode cX8_shadow 18 = .ok (.aload_n 0, 1) := by decide +kernel
theorem dX8_shadow_19 : decode cX8_shadow 19 = .ok (.ldc 62, 2) := by decide +kernel
theorem dX8_shadow_21 : decode cX8_shadow 21 = .ok (.invokevirtual 63, 3) := by decide +kernel
theorem dX8_shadow_24 : decode cX8_shadow 24 = .ok (.i2l, 1) := by decide +kernel
theorem dX8_shadow_25 : decode cX8_shadow 25 = .ok (.lreturn, 1) := by decide +kernel
theorem dX8_hold_0 : decode cX8_hold 0 = .ok (.aload_n 0, 1) := by decide +kernel
theorem dX8_hold_1 : decode cX8_hold 1 = .ok (.getfield 10, 3) := by decide +kernel
theorem dX8_hold_4 : decode cX8_hold 4 = .ok (.iload_n 1, 1) := by decide +kernel
theorem dX8_hold_5 : decode cX8_hold 5 = .ok (.invokevirtual 76, 3) := by decide +kernel
theorem dX8_hold_8 : decode cX8_hold 8 = .ok (.ifCond .eq 10, 3) := by decide +kernel
theorem dX8_hold_18 : decode cX8_hold 18 = .ok (.aload_n 0, 1) := by decide +kernel
theorem dX8_hold_19 : decode cX8_hold 19 = .ok (.ldc 62, 2) := by decide +kernel
theorem dX8_hold_21 : decode cX8_hold 21 = .ok (.invokevirtual 63, 3) := by decide +kernel
theorem dX8_hold_24 : decode cX8_hold 24 = .ok (.ireturn, 1) := by decide +kernel
theorem dX8_move_0 : decode cX8_move 0 = .ok (.aload_n 0, 1) := by decide +kernel
theorem dX8_move_1 : decode cX8_move 1 = .ok (.getfield 10, 3) := by decide +kernel
theorem dX8_move_4 : decode cX8_move 4 = .ok (.iload_n 1, 1) := by decide +kernel
theorem dX8_move_5 : decode cX8_move 5 = .ok (.invokevirtual 76, 3) := by decide +kernel
theorem dX8_move_8 : decode cX8_move 8 = .ok (.ifCond .eq 10, 3) := by decide +kernel
theorem dX8_move_18 : decode cX8_move 18 = .ok (.aload_n 0, 1) := by decide +kernel
theorem dX8_move_19 : decode cX8_move 19 = .ok (.ldc 62, 2) := by decide +kernel
theorem dX8_move_21 : decode cX8_move 21 = .ok (.invokevirtual 63, 3) := by decide +kernel
theorem dX8_move_24 : decode cX8_move 24 = .ok (.ireturn, 1) := by decide +kernel
theorem dX8_drop_0 : decode cX8_drop 0 = .ok (.aload_n 0, 1) := by decide +kernel
theorem dX8_drop_1 : decode cX8_drop 1 = .ok (.getfield 10, 3) := by decide +kernel
theorem dX8_drop_4 : decode cX8_drop 4 = .ok (.iload_n 1, 1) := by decide +kernel
theorem dX8_drop_5 : decode cX8_drop 5 = .ok (.invokevirtual 76, 3) := by decide +kernel
theorem dX8_drop_8 : decode cX8_drop 8 = .ok (.ifCond .ne 10, 3) := by decide +kernel
theorem dX8_drop_11 : decode cX8_drop 11 = .ok (.aload_n 0, 1) := by decide +kernel
theorem dX8_drop_12 : decode cX8_drop 12 = .ok (.ldc 62, 2) := by decide +kernel
theorem dX8_drop_14 : decode cX8_drop 14 = .ok (.invokevirtual 63, 3) := by decide +kernel
theorem dX8_drop_17 : decode cX8_drop 17 = .ok (.ireturn, 1) := by decide +kernel
theorem dX8_held_0 : decode cX8_held 0 = .ok (.iload_n 1, 1) := by decide +kernel
theorem dX8_held_1 : decode cX8_held 1 = .ok (.ifCond .lt 17, 3) := by decide +kernel
theorem dX8_held_4 : decode cX8_held 4 = .ok (.iload_n 1, 1) := by decide +kernel
theorem dX8_held_5 : decode cX8_held 5 = .ok (.iconst 4, 1) := by decide +kernel
theorem dX8_held_6 : decode cX8_held 6 = .ok (.if_icmp .ge 12, 3) := by decide +kernel
theorem dX8_held_9 : decode cX8_held 9 = .ok (.iload_n 2, 1) := by decide +kernel
theorem dX8_held_10 : decode cX8_held 10 = .ok (.ifCond .lt 8, 3) := by decide +kernel
theorem dX8_held_13 : decode cX8_held 13 = .ok (.iload_n 2, 1) := by decide +kernel
theorem dX8_held_14 : decode cX8_held 14 = .ok (.iconst 1, 1) := by decide +kernel
theorem dX8_held_15 : decode cX8_held 15 = .ok (.if_icmp .le 10, 3) := by decide +kernel
theorem dX8_held_18 : decode cX8_held 18 = .ok (.aload_n 0, 1) := by decide +kernel
theorem dX8_held_19 : decode cX8_held 19 = .ok (.ldc 62, 2) := by decide +kernel
theorem dX8_held_21 : decode cX8_held 21 = .ok (.invokevirtual 63, 3) := by decide +kernel
theorem dX8_held_24 : decode cX8_held 24 = .ok (.ireturn, 1) := by decide +kernel
theorem dX8_held_25 : decode cX8_held 25 = .ok (.iload_n 2, 1) := by decide +kernel
theorem dX8_held_26 : decode cX8_held 26 = .ok (.ifCond .ne 15, 3) := by decide +kernel
theorem dX8_held_29 : decode cX8_held 29 = .ok (.aload_n 0, 1) := by decide +kernel
theorem dX8_held_30 : decode cX8_held 30 = .ok (.getfield 10, 3) := by decide +kernel
theorem dX8_held_33 : decode cX8_held 33 = .ok (.getfield 131, 3) := by decide +kernel
theorem dX8_held_36 : decode cX8_held 36 = .ok (.iload_n 1, 1) := by decide +kernel
theorem dX8_held_37 : decode cX8_held 37 = .ok (.iaload, 1) := by decide +kernel
theorem dX8_held_38 : decode cX8_held 38 = .ok (.goto 12, 3) := by decide +kernel
theorem dX8_held_41 : decode cX8_held 41 = .ok (.aload_n 0, 1) := by decide +kernel
theorem dX8_held_42 : decode cX8_held 42 = .ok (.getfield 10, 3) := by decide +kernel
theorem dX8_held_45 : decode cX8_held 45 = .ok (.getfield 124, 3) := by decide +kernel
theorem dX8_held_48 : decode cX8_held 48 = .ok (.iload_n 1, 1) := by decide +kernel
theorem dX8_held_49 : decode cX8_held 49 = .ok (.iaload, 1) := by decide +kernel
theorem dX8_held_50 : decode cX8_held 50 = .ok (.ireturn, 1) := by decide +kernel
theorem dX8_dark_0 : decode cX8_dark 0 = .ok (.aload_n 0, 1) := by decide +kernel
theorem dX8_dark_1 : decode cX8_dark 1 = .ok (.getfield 10, 3) := by decide +kernel
theorem dX8_dark_4 : decode cX8_dark 4 = .ok (.invokevirtual 134, 3) := by decide +kernel
theorem dX8_dark_7 : decode cX8_dark 7 = .ok (.lreturn, 1) := by decide +kernel
theorem dX8_single_0 : decode cX8_single 0 = .ok (.aload_n 0, 1) := by decide +kernel
theorem dX8_single_1 : decode cX8_single 1 = .ok (.getfield 10, 3) := by decide +kernel
theorem dX8_single_4 : decode cX8_single 4 = .ok (.invokevirtual 138, 3) := by decide +kernel
theorem dX8_single_7 : decode cX8_single 7 = .ok (.lreturn, 1) := by decide +kernel
theorem dX8_spare_0 : decode cX8_spare 0 = .ok (.aload_n 0, 1) := by decide +kernel
theorem dX8_spare_1 : decode cX8_spare 1 = .ok (.getfield 10, 3) := by decide +kernel
theorem dX8_spare_4 : decode cX8_spare 4 = .ok (.invokevirtual 138, 3) := by decide +kernel
theorem dX8_spare_7 : decode cX8_spare 7 = .ok (.lstore_n 1, 1) := by decide +kernel
theorem dX8_spare_8 : decode cX8_spare 8 = .ok (.iconst 0, 1) := by decide +kernel
theorem dX8_spare_9 : decode cX8_spare 9 = .ok (.istore_n 3, 1) := by decide +kernel
theorem dX8_spare_10 : decode cX8_spare 10 = .ok (.iload_n 3, 1) := by decide +kernel
theorem dX8_spare_11 : decode cX8_spare 11 = .ok (.aload_n 0, 1) := by decide +kernel
theorem dX8_spare_12 : decode cX8_spare 12 = .ok (.getfield 10, 3) := by decide +kernel
theorem dX8_spare_15 : decode cX8_spare 15 = .ok (.getfield 141, 3) := by decide +kernel
theorem dX8_spare_18 : decode cX8_spare 18 = .ok (.if_icmp .ge 53, 3) := by decide +kernel
theorem dX8_spare_71 : decode cX8_spare 71 = .ok (.aload_n 0, 1) := by decide +kernel
theorem dX8_spare_72 : decode cX8_spare 72 = .ok (.ldc 149, 2) := by decide +kernel
theorem dX8_spare_74 : decode cX8_spare 74 = .ok (.invokevirtual 63, 3) := by decide +kernel
theorem dX8_spare_77 : decode cX8_spare 77 = .ok (.ireturn, 1) := by decide +kernel
theorem dX8_scene_0 : decode cX8_scene 0 = .ok (.aload_n 0, 1) := by decide +kernel
theorem dX8_scene_1 : decode cX8_scene 1 = .ok (.getfield 10, 3) := by decide +kernel
theorem dX8_scene_4 : decode cX8_scene 4 = .ok (.invokevirtual 150, 3) := by decide +kernel
theorem dX8_scene_7 : decode cX8_scene 7 = .ok (.ifCond .ne 10, 3) := by decide +kernel
theorem dX8_scene_17 : decode cX8_scene 17 = .ok (.aload_n 0, 1) := by decide +kernel
theorem dX8_scene_18 : decode cX8_scene 18 = .ok (.getfield 10, 3) := by decide +kernel
theorem dX8_scene_21 : decode cX8_scene 21 = .ok (.lload_n 1, 1) := by decide +kernel
theorem dX8_scene_22 : decode cX8_scene 22 = .ok (.invokevirtual 153, 3) := by decide +kernel
theorem dX8_scene_25 : decode cX8_scene 25 = .ok (.ireturn, 1) := by decide +kernel
theorem dX8_draw_0 : decode cX8_draw 0 = .ok (.aload_n 0, 1) := by decide +kernel
theorem dX8_draw_1 : decode cX8_draw 1 = .ok (.getfield 10, 3) := by decide +kernel
theorem dX8_draw_4 : decode cX8_draw 4 = .ok (.iload_n 1, 1) := by decide +kernel
theorem dX8_draw_5 : decode cX8_draw 5 = .ok (.invokevirtual 157, 3) := by decide +kernel
theorem dX8_draw_8 : decode cX8_draw 8 = .ok (.ifCond .ne 10, 3) := by decide +kernel
theorem dX8_draw_11 : decode cX8_draw 11 = .ok (.aload_n 0, 1) := by decide +kernel
theorem dX8_draw_12 : decode cX8_draw 12 = .ok (.ldc 62, 2) := by decide +kernel
theorem dX8_draw_14 : decode cX8_draw 14 = .ok (.invokevirtual 63, 3) := by decide +kernel
theorem dX8_draw_17 : decode cX8_draw 17 = .ok (.ireturn, 1) := by decide +kernel
theorem dX8_picture_0 : decode cX8_picture 0 = .ok (.aload_n 0, 1) := by decide +kernel
theorem dX8_picture_1 : decode cX8_picture 1 = .ok (.getfield 10, 3) := by decide +kernel
theorem dX8_picture_4 : decode cX8_picture 4 = .ok (.iload_n 1, 1) := by decide +kernel
theorem dX8_picture_5 : decode cX8_picture 5 = .ok (.invokevirtual 157, 3) := by decide +kernel
theorem dX8_picture_8 : decode cX8_picture 8 = .ok (.ifCond .ne 11, 3) := by decide +kernel
theorem dX8_picture_11 : decode cX8_picture 11 = .ok (.aload_n 0, 1) := by decide +kernel
theorem dX8_picture_12 : decode cX8_picture 12 = .ok (.ldc 62, 2) := by decide +kernel
theorem dX8_picture_14 : decode cX8_picture 14 = .ok (.invokevirtual 63, 3) := by decide +kernel
theorem dX8_picture_17 : decode cX8_picture 17 = .ok (.i2l, 1) := by decide +kernel
theorem dX8_picture_18 : decode cX8_picture 18 = .ok (.lreturn, 1) := by decide +kernel
theorem dX8_off_0 : decode cX8_off 0 = .ok (.aload_n 0, 1) := by decide +kernel
theorem dX8_off_1 : decode cX8_off 1 = .ok (.getfield 10, 3) := by decide +kernel
theorem dX8_off_4 : decode cX8_off 4 = .ok (.iload_n 1, 1) := by decide +kernel
theorem dX8_off_5 : decode cX8_off 5 = .ok (.invokevirtual 157, 3) := by decide +kernel
theorem dX8_off_8 : decode cX8_off 8 = .ok (.ifCond .ne 10, 3) := by decide +kernel
theorem dX8_off_11 : decode cX8_off 11 = .ok (.aload_n 0, 1) := by decide +kernel
theorem dX8_off_12 : decode cX8_off 12 = .ok (.ldc 62, 2) := by decide +kernel
theorem dX8_off_14 : decode cX8_off 14 = .ok (.invokevirtual 63, 3) := by decide +kernel
theorem dX8_off_17 : decode cX8_off 17 = .ok (.ireturn, 1) := by decide +kernel
theorem dX8_changes_0 : decode cX8_changes 0 = .ok (.aload_n 0, 1) := by decide +kernel
theorem dX8_changes_1 : decode cX8_changes 1 = .ok (.getfield 10, 3) := by decide +kernel
theorem dX8_changes_4 : decode cX8_changes 4 = .ok (.iload_n 1, 1) := by decide +kernel
theorem dX8_changes_5 : decode cX8_changes 5 = .ok (.invokevirtual 157, 3) := by decide +kernel
theorem dX8_changes_8 : decode cX8_changes 8 = .ok (.ifCond .eq 14, 3) := by decide +kernel
theorem dX8_changes_22 : decode cX8_changes 22 = .ok (.aload_n 0, 1) := by decide +kernel
theorem dX8_changes_23 : decode cX8_changes 23 = .ok (.ldc 62, 2) := by decide +kernel
theorem dX8_changes_25 : decode cX8_changes 25 = .ok (.invokevirtual 63, 3) := by decide +kernel
theorem dX8_changes_28 : decode cX8_changes 28 = .ok (.ireturn, 1) := by decide +kernel
theorem dX8_allow_0 : decode cX8_allow 0 = .ok (.iload_n 1, 1) := by decide +kernel
theorem dX8_allow_1 : decode cX8_allow 1 = .ok (.ifCond .lt 22, 3) := by decide +kernel
theorem dX8_allow_4 : decode cX8_allow 4 = .ok (.iload_n 1, 1) := by decide +kernel
theorem dX8_allow_5 : decode cX8_allow 5 = .ok (.bipush 63, 2) := by decide +kernel
theorem dX8_allow_7 : decode cX8_allow 7 = .ok (.if_icmp .gt 16, 3) := by decide +kernel
theorem dX8_allow_10 : decode cX8_allow 10 = .ok (.iload_n 1, 1) := by decide +kernel
theorem dX8_allow_11 : decode cX8_allow 11 = .ok (.bipush 15, 2) := by decide +kernel
theorem dX8_allow_13 : decode cX8_allow 13 = .ok (.iand, 1) := by decide +kernel
theorem dX8_allow_14 : decode cX8_allow 14 = .ok (.ifCond .eq 9, 3) := by decide +kernel
theorem dX8_allow_17 : decode cX8_allow 17 = .ok (.iload_n 1, 1) := by decide +kernel
theorem dX8_allow_18 : decode cX8_allow 18 = .ok (.iconst 4, 1) := by decide +kernel
theorem dX8_allow_19 : decode cX8_allow 19 = .ok (.ishr, 1) := by decide +kernel
theorem dX8_allow_20 : decode cX8_allow 20 = .ok (.ifCond .ne 10, 3) := by decide +kernel
theorem dX8_allow_23 : decode cX8_allow 23 = .ok (.aload_n 0, 1) := by decide +kernel
theorem dX8_allow_24 : decode cX8_allow 24 = .ok (.ldc 62, 2) := by decide +kernel
theorem dX8_allow_26 : decode cX8_allow 26 = .ok (.invokevirtual 63, 3) := by decide +kernel
theorem dX8_allow_29 : decode cX8_allow 29 = .ok (.ireturn, 1) := by decide +kernel
theorem dX8_allow_30 : decode cX8_allow 30 = .ok (.aload_n 0, 1) := by decide +kernel
theorem dX8_allow_31 : decode cX8_allow 31 = .ok (.getfield 10, 3) := by decide +kernel
theorem dX8_allow_34 : decode cX8_allow 34 = .ok (.getfield 171, 3) := by decide +kernel
theorem dX8_allow_37 : decode cX8_allow 37 = .ok (.istore_n 2, 1) := by decide +kernel
theorem dX8_allow_38 : decode cX8_allow 38 = .ok (.aload_n 0, 1) := by decide +kernel
theorem dX8_allow_39 : decode cX8_allow 39 = .ok (.getfield 10, 3) := by decide +kernel
theorem dX8_allow_42 : decode cX8_allow 42 = .ok (.iload_n 1, 1) := by decide +kernel
theorem dX8_allow_43 : decode cX8_allow 43 = .ok (.putfield 171, 3) := by decide +kernel
theorem dX8_allow_46 : decode cX8_allow 46 = .ok (.iload_n 2, 1) := by decide +kernel
theorem dX8_allow_47 : decode cX8_allow 47 = .ok (.ireturn, 1) := by decide +kernel
theorem dX8_nearest_0 : decode cX8_nearest 0 = .ok (.aload_n 0, 1) := by decide +kernel
theorem dX8_nearest_1 : decode cX8_nearest 1 = .ok (.getfield 10, 3) := by decide +kernel
theorem dX8_nearest_4 : decode cX8_nearest 4 = .ok (.iload_n 1, 1) := by decide +kernel
theorem dX8_nearest_5 : decode cX8_nearest 5 = .ok (.invokevirtual 76, 3) := by decide +kernel
theorem dX8_nearest_8 : decode cX8_nearest 8 = .ok (.ifCond .eq 23, 3) := by decide +kernel
theorem dX8_nearest_31 : decode cX8_nearest 31 = .ok (.aload_n 0, 1) := by decide +kernel
theorem dX8_nearest_32 : decode cX8_nearest 32 = .ok (.ldc 62, 2) := by decide +kernel
theorem dX8_nearest_34 : decode cX8_nearest 34 = .ok (.invokevirtual 63, 3) := by decide +kernel
theorem dX8_nearest_37 : decode cX8_nearest 37 = .ok (.ireturn, 1) := by decide +kernel
theorem dX8_best_0 : decode cX8_best 0 = .ok (.aload_n 0, 1) := by decide +kernel
theorem dX8_best_1 : decode cX8_best 1 = .ok (.getfield 10, 3) := by decide +kernel
theorem dX8_best_4 : decode cX8_best 4 = .ok (.iload_n 1, 1) := by decide +kernel
theorem dX8_best_5 : decode cX8_best 5 = .ok (.invokevirtual 157, 3) := by decide +kernel
theorem dX8_best_8 : decode cX8_best 8 = .ok (.ifCond .ne 10, 3) := by decide +kernel
theorem dX8_best_11 : decode cX8_best 11 = .ok (.aload_n 0, 1) := by decide +kernel
theorem dX8_best_12 : decode cX8_best 12 = .ok (.ldc 62, 2) := by decide +kernel
theorem dX8_best_14 : decode cX8_best 14 = .ok (.invokevirtual 63, 3) := by decide +kernel
theorem dX8_best_17 : decode cX8_best 17 = .ok (.ireturn, 1) := by decide +kernel
theorem dX8_play_0 : decode cX8_play 0 = .ok (.aload_n 0, 1) := by decide +kernel
theorem dX8_play_1 : decode cX8_play 1 = .ok (.getfield 10, 3) := by decide +kernel
theorem dX8_play_4 : decode cX8_play 4 = .ok (.iload_n 1, 1) := by decide +kernel
theorem dX8_play_5 : decode cX8_play 5 = .ok (.invokevirtual 157, 3) := by decide +kernel
theorem dX8_play_8 : decode cX8_play 8 = .ok (.ifCond .ne 10, 3) := by decide +kernel
theorem dX8_play_11 : decode cX8_play 11 = .ok (.aload_n 0, 1) := by decide +kernel
theorem dX8_play_12 : decode cX8_play 12 = .ok (.ldc 62, 2) := by decide +kernel
theorem dX8_play_14 : decode cX8_play 14 = .ok (.invokevirtual 63, 3) := by decide +kernel
theorem dX8_play_17 : decode cX8_play 17 = .ok (.ireturn, 1) := by decide +kernel
theorem dX8_fits_0 : decode cX8_fits 0 = .ok (.aload_n 0, 1) := by decide +kernel
theorem dX8_fits_1 : decode cX8_fits 1 = .ok (.getfield 10, 3) := by decide +kernel
theorem dX8_fits_4 : decode cX8_fits 4 = .ok (.iload_n 1, 1) := by decide +kernel
theorem dX8_fits_5 : decode cX8_fits 5 = .ok (.invokevirtual 76, 3) := by decide +kernel
theorem dX8_fits_8 : decode cX8_fits 8 = .ok (.ifCond .eq 14, 3) := by decide +kernel
theorem dX8_fits_22 : decode cX8_fits 22 = .ok (.aload_n 0, 1) := by decide +kernel
theorem dX8_fits_23 : decode cX8_fits 23 = .ok (.ldc 62, 2) := by decide +kernel
theorem dX8_fits_25 : decode cX8_fits 25 = .ok (.invokevirtual 63, 3) := by decide +kernel
theorem dX8_fits_28 : decode cX8_fits 28 = .ok (.ireturn, 1) := by decide +kernel
theorem dX8_taken_0 : decode cX8_taken 0 = .ok (.aload_n 0, 1) := by decide +kernel
theorem dX8_taken_1 : decode cX8_taken 1 = .ok (.getfield 10, 3) := by decide +kernel
theorem dX8_taken_4 : decode cX8_taken 4 = .ok (.iload_n 1, 1) := by decide +kernel
theorem dX8_taken_5 : decode cX8_taken 5 = .ok (.invokevirtual 157, 3) := by decide +kernel
theorem dX8_taken_8 : decode cX8_taken 8 = .ok (.ifCond .eq 13, 3) := by decide +kernel
theorem dX8_taken_21 : decode cX8_taken 21 = .ok (.aload_n 0, 1) := by decide +kernel
theorem dX8_taken_22 : decode cX8_taken 22 = .ok (.ldc 62, 2) := by decide +kernel
theorem dX8_taken_24 : decode cX8_taken 24 = .ok (.invokevirtual 63, 3) := by decide +kernel
theorem dX8_taken_27 : decode cX8_taken 27 = .ok (.ireturn, 1) := by decide +kernel
theorem dX8_seen_0 : decode cX8_seen 0 = .ok (.aload_n 0, 1) := by decide +kernel
theorem dX8_seen_1 : decode cX8_seen 1 = .ok (.getfield 10, 3) := by decide +kernel
theorem dX8_seen_4 : decode cX8_seen 4 = .ok (.invokevirtual 134, 3) := by decide +kernel
theorem dX8_seen_7 : decode cX8_seen 7 = .ok (.lstore_n 1, 1) := by decide +kernel
theorem dX8_seen_8 : decode cX8_seen 8 = .ok (.iconst (-1), 1) := by decide +kernel
theorem dX8_seen_9 : decode cX8_seen 9 = .ok (.istore_n 3, 1) := by decide +kernel
theorem dX8_seen_10 : decode cX8_seen 10 = .ok (.bipush 65, 2) := by decide +kernel
theorem dX8_seen_12 : decode cX8_seen 12 = .ok (.istore 4, 2) := by decide +kernel
theorem dX8_seen_14 : decode cX8_seen 14 = .ok (.iconst 0, 1) := by decide +kernel
theorem dX8_seen_15 : decode cX8_seen 15 = .ok (.istore 5, 2) := by decide +kernel
theorem dX8_seen_17 : decode cX8_seen 17 = .ok (.iload 5, 2) := by decide +kernel
theorem dX8_seen_19 : decode cX8_seen 19 = .ok (.aload_n 0, 1) := by decide +kernel
theorem dX8_seen_20 : decode cX8_seen 20 = .ok (.getfield 10, 3) := by decide +kernel
theorem dX8_seen_23 : decode cX8_seen 23 = .ok (.getfield 204, 3) := by decide +kernel
theorem dX8_seen_26 : decode cX8_seen 26 = .ok (.if_icmp .ge 39, 3) := by decide +kernel
theorem dX8_seen_65 : decode cX8_seen 65 = .ok (.iload_n 3, 1) := by decide +kernel
theorem dX8_seen_66 : decode cX8_seen 66 = .ok (.ifCond .ge 12, 3) := by decide +kernel
theorem dX8_seen_69 : decode cX8_seen 69 = .ok (.aload_n 0, 1) := by decide +kernel
theorem dX8_seen_70 : decode cX8_seen 70 = .ok (.ldc 149, 2) := by decide +kernel
theorem dX8_seen_72 : decode cX8_seen 72 = .ok (.invokevirtual 63, 3) := by decide +kernel
theorem dX8_seen_75 : decode cX8_seen 75 = .ok (.goto 4, 3) := by decide +kernel
theorem dX8_seen_79 : decode cX8_seen 79 = .ok (.ireturn, 1) := by decide +kernel
theorem dX8_order_0 : decode cX8_order 0 = .ok (.iload_n 1, 1) := by decide +kernel
theorem dX8_order_1 : decode cX8_order 1 = .ok (.iconst (-1), 1) := by decide +kernel
theorem dX8_order_2 : decode cX8_order 2 = .ok (.if_icmp .ge 10, 3) := by decide +kernel
theorem dX8_order_5 : decode cX8_order 5 = .ok (.aload_n 0, 1) := by decide +kernel
theorem dX8_order_6 : decode cX8_order 6 = .ok (.ldc 62, 2) := by decide +kernel
theorem dX8_order_8 : decode cX8_order 8 = .ok (.invokevirtual 63, 3) := by decide +kernel
theorem dX8_order_11 : decode cX8_order 11 = .ok (.ireturn, 1) := by decide +kernel
theorem dX8_order_12 : decode cX8_order 12 = .ok (.aload_n 0, 1) := by decide +kernel
theorem dX8_order_13 : decode cX8_order 13 = .ok (.getfield 10, 3) := by decide +kernel
theorem dX8_order_16 : decode cX8_order 16 = .ok (.getfield 204, 3) := by decide +kernel
theorem dX8_order_19 : decode cX8_order 19 = .ok (.bipush 6, 2) := by decide +kernel
theorem dX8_order_21 : decode cX8_order 21 = .ok (.if_icmp .le 10, 3) := by decide +kernel
theorem dX8_order_31 : decode cX8_order 31 = .ok (.iload_n 1, 1) := by decide +kernel
theorem dX8_order_32 : decode cX8_order 32 = .ok (.aload_n 0, 1) := by decide +kernel
theorem dX8_order_33 : decode cX8_order 33 = .ok (.getfield 10, 3) := by decide +kernel
theorem dX8_order_36 : decode cX8_order 36 = .ok (.getfield 204, 3) := by decide +kernel
theorem dX8_order_39 : decode cX8_order 39 = .ok (.if_icmp .lt 10, 3) := by decide +kernel
theorem dX8_order_42 : decode cX8_order 42 = .ok (.aload_n 0, 1) := by decide +kernel
theorem dX8_order_43 : decode cX8_order 43 = .ok (.ldc 149, 2) := by decide +kernel
theorem dX8_order_45 : decode cX8_order 45 = .ok (.invokevirtual 63, 3) := by decide +kernel
theorem dX8_order_48 : decode cX8_order 48 = .ok (.ireturn, 1) := by decide +kernel
theorem dX8_order_49 : decode cX8_order 49 = .ok (.aload_n 0, 1) := by decide +kernel
theorem dX8_order_50 : decode cX8_order 50 = .ok (.getfield 29, 3) := by decide +kernel
theorem dX8_order_53 : decode cX8_order 53 = .ok (.aload_n 0, 1) := by decide +kernel
theorem dX8_order_54 : decode cX8_order 54 = .ok (.getfield 10, 3) := by decide +kernel
theorem dX8_order_57 : decode cX8_order 57 = .ok (.invokevirtual 211, 3) := by decide +kernel
theorem dX8_order_60 : decode cX8_order 60 = .ok (.iload_n 1, 1) := by decide +kernel
theorem dX8_order_61 : decode cX8_order 61 = .ok (.ifCond .ge 13, 3) := by decide +kernel
theorem dX8_order_64 : decode cX8_order 64 = .ok (.aload_n 0, 1) := by decide +kernel
theorem dX8_order_65 : decode cX8_order 65 = .ok (.getfield 29, 3) := by decide +kernel
theorem dX8_order_68 : decode cX8_order 68 = .ok (.getfield 215, 3) := by decide +kernel
theorem dX8_order_71 : decode cX8_order 71 = .ok (.goto 12, 3) := by decide +kernel
theorem dX8_order_83 : decode cX8_order 83 = .ok (.ireturn, 1) := by decide +kernel
theorem dX8_closest_0 : decode cX8_closest 0 = .ok (.bipush 65, 2) := by decide +kernel
theorem dX8_closest_2 : decode cX8_closest 2 = .ok (.istore_n 1, 1) := by decide +kernel
theorem dX8_closest_3 : decode cX8_closest 3 = .ok (.iconst 0, 1) := by decide +kernel
theorem dX8_closest_4 : decode cX8_closest 4 = .ok (.istore_n 2, 1) := by decide +kernel
theorem dX8_closest_5 : decode cX8_closest 5 = .ok (.iload_n 2, 1) := by decide +kernel
theorem dX8_closest_6 : decode cX8_closest 6 = .ok (.aload_n 0, 1) := by decide +kernel
theorem dX8_closest_7 : decode cX8_closest 7 = .ok (.getfield 10, 3) := by decide +kernel
theorem dX8_closest_10 : decode cX8_closest 10 = .ok (.getfield 204, 3) := by decide +kernel
theorem dX8_closest_13 : decode cX8_closest 13 = .ok (.if_icmp .ge 44, 3) := by decide +kernel
theorem dX8_closest_57 : decode cX8_closest 57 = .ok (.iload_n 1, 1) := by decide +kernel
theorem dX8_closest_58 : decode cX8_closest 58 = .ok (.bipush 64, 2) := by decide +kernel
theorem dX8_closest_60 : decode cX8_closest 60 = .ok (.if_icmp .le 12, 3) := by decide +kernel
theorem dX8_closest_63 : decode cX8_closest 63 = .ok (.aload_n 0, 1) := by decide +kernel
theorem dX8_closest_64 : decode cX8_closest 64 = .ok (.ldc 149, 2) := by decide +kernel
theorem dX8_closest_66 : decode cX8_closest 66 = .ok (.invokevirtual 63, 3) := by decide +kernel
theorem dX8_closest_69 : decode cX8_closest 69 = .ok (.goto 4, 3) := by decide +kernel
theorem dX8_closest_73 : decode cX8_closest 73 = .ok (.ireturn, 1) := by decide +kernel
theorem dX8_harmless_0 : decode cX8_harmless 0 = .ok (.aload_n 0, 1) := by decide +kernel
theorem dX8_harmless_1 : decode cX8_harmless 1 = .ok (.getfield 10, 3) := by decide +kernel
theorem dX8_harmless_4 : decode cX8_harmless 4 = .ok (.invokevirtual 226, 3) := by decide +kernel
theorem dX8_harmless_7 : decode cX8_harmless 7 = .ok (.istore_n 1, 1) := by decide +kernel
theorem dX8_harmless_8 : decode cX8_harmless 8 = .ok (.aload_n 0, 1) := by decide +kernel
theorem dX8_harmless_9 : decode cX8_harmless 9 = .ok (.getfield 10, 3) := by decide +kernel
theorem dX8_harmless_12 : decode cX8_harmless 12 = .ok (.getfield 204, 3) := by decide +kernel
theorem dX8_harmless_15 : decode cX8_harmless 15 = .ok (.ifCond .eq 7, 3) := by decide +kernel
theorem dX8_harmless_22 : decode cX8_harmless 22 = .ok (.aload_n 0, 1) := by decide +kernel
theorem dX8_harmless_23 : decode cX8_harmless 23 = .ok (.ldc 149, 2) := by decide +kernel
theorem dX8_harmless_25 : decode cX8_harmless 25 = .ok (.invokevirtual 63, 3) := by decide +kernel
theorem dX8_harmless_28 : decode cX8_harmless 28 = .ok (.ireturn, 1) := by decide +kernel
theorem dX8_feed_0 : decode cX8_feed 0 = .ok (.iload_n 2, 1) := by decide +kernel
theorem dX8_feed_1 : decode cX8_feed 1 = .ok (.iconst 1, 1) := by decide +kernel
theorem dX8_feed_2 : decode cX8_feed 2 = .ok (.if_icmp .lt 8, 3) := by decide +kernel
theorem dX8_feed_5 : decode cX8_feed 5 = .ok (.iload_n 2, 1) := by decide +kernel
theorem dX8_feed_6 : decode cX8_feed 6 = .ok (.iconst 4, 1) := by decide +kernel
theorem dX8_feed_7 : decode cX8_feed 7 = .ok (.if_icmp .le 10, 3) := by decide +kernel
theorem dX8_feed_10 : decode cX8_feed 10 = .ok (.aload_n 0, 1) := by decide +kernel
theorem dX8_feed_11 : decode cX8_feed 11 = .ok (.ldc 62, 2) := by decide +kernel
theorem dX8_feed_13 : decode cX8_feed 13 = .ok (.invokevirtual 63, 3) := by decide +kernel
theorem dX8_feed_16 : decode cX8_feed 16 = .ok (.ireturn, 1) := by decide +kernel
theorem dX8_feed_17 : decode cX8_feed 17 = .ok (.aload_n 0, 1) := by decide +kernel
theorem dX8_feed_18 : decode cX8_feed 18 = .ok (.getfield 36, 3) := by decide +kernel
theorem dX8_feed_21 : decode cX8_feed 21 = .ok (.getfield 232, 3) := by decide +kernel
theorem dX8_feed_24 : decode cX8_feed 24 = .ok (.iload_n 2, 1) := by decide +kernel
theorem dX8_feed_25 : decode cX8_feed 25 = .ok (.invokevirtual 236, 3) := by decide +kernel
theorem dX8_feed_28 : decode cX8_feed 28 = .ok (.ifCond .ne 10, 3) := by decide +kernel
theorem dX8_feed_38 : decode cX8_feed 38 = .ok (.iload_n 2, 1) := by decide +kernel
theorem dX8_feed_39 : decode cX8_feed 39 = .ok (.iconst 1, 1) := by decide +kernel
theorem dX8_feed_40 : decode cX8_feed 40 = .ok (.isub, 1) := by decide +kernel
theorem dX8_feed_41 : decode cX8_feed 41 = .ok (.istore_n 3, 1) := by decide +kernel
theorem dX8_feed_42 : decode cX8_feed 42 = .ok (.iload_n 3, 1) := by decide +kernel
theorem dX8_feed_43 : decode cX8_feed 43 = .ok (.ifCond .lt 25, 3) := by decide +kernel
theorem dX8_feed_46 : decode cX8_feed 46 = .ok (.aload_n 0, 1) := by decide +kernel
theorem dX8_feed_47 : decode cX8_feed 47 = .ok (.getfield 36, 3) := by decide +kernel
theorem dX8_feed_50 : decode cX8_feed 50 = .ok (.getfield 232, 3) := by decide +kernel
theorem dX8_feed_53 : decode cX8_feed 53 = .ok (.iload_n 1, 1) := by decide +kernel
theorem dX8_feed_54 : decode cX8_feed 54 = .ok (.bipush 8, 2) := by decide +kernel
theorem dX8_feed_56 : decode cX8_feed 56 = .ok (.iload_n 3, 1) := by decide +kernel
theorem dX8_feed_57 : decode cX8_feed 57 = .ok (.imul, 1) := by decide +kernel
theorem dX8_feed_58 : decode cX8_feed 58 = .ok (.ishr, 1) := by decide +kernel
theorem dX8_feed_59 : decode cX8_feed 59 = .ok (.invokevirtual 241, 3) := by decide +kernel
theorem dX8_feed_62 : decode cX8_feed 62 = .ok (.iinc 3 (-1), 3) := by decide +kernel
theorem dX8_feed_65 : decode cX8_feed 65 = .ok (.goto (-23), 3) := by decide +kernel
theorem dX8_feed_68 : decode cX8_feed 68 = .ok (.aload_n 0, 1) := by decide +kernel
theorem dX8_feed_69 : decode cX8_feed 69 = .ok (.getfield 36, 3) := by decide +kernel
theorem dX8_feed_72 : decode cX8_feed 72 = .ok (.getfield 232, 3) := by decide +kernel
theorem dX8_feed_75 : decode cX8_feed 75 = .ok (.getfield 244, 3) := by decide +kernel
theorem dX8_feed_78 : decode cX8_feed 78 = .ok (.ireturn, 1) := by decide +kernel
theorem dX8_wipe_0 : decode cX8_wipe 0 = .ok (.aload_n 0, 1) := by decide +kernel
theorem dX8_wipe_1 : decode cX8_wipe 1 = .ok (.getfield 36, 3) := by decide +kernel
theorem dX8_wipe_4 : decode cX8_wipe 4 = .ok (.getfield 232, 3) := by decide +kernel
theorem dX8_wipe_7 : decode cX8_wipe 7 = .ok (.getfield 244, 3) := by decide +kernel
theorem dX8_wipe_10 : decode cX8_wipe 10 = .ok (.istore_n 1, 1) := by decide +kernel
theorem dX8_wipe_11 : decode cX8_wipe 11 = .ok (.aload_n 0, 1) := by decide +kernel
theorem dX8_wipe_12 : decode cX8_wipe 12 = .ok (.getfield 36, 3) := by decide +kernel
theorem dX8_wipe_15 : decode cX8_wipe 15 = .ok (.getfield 232, 3) := by decide +kernel
theorem dX8_wipe_18 : decode cX8_wipe 18 = .ok (.iconst 0, 1) := by decide +kernel
theorem dX8_wipe_19 : decode cX8_wipe 19 = .ok (.putfield 244, 3) := by decide +kernel
theorem dX8_wipe_22 : decode cX8_wipe 22 = .ok (.iload_n 1, 1) := by decide +kernel
theorem dX8_wipe_23 : decode cX8_wipe 23 = .ok (.ireturn, 1) := by decide +kernel
theorem dX8_sheet_0 : decode cX8_sheet 0 = .ok (.aload_n 0, 1) := by decide +kernel
theorem dX8_sheet_1 : decode cX8_sheet 1 = .ok (.iload_n 1, 1) := by decide +kernel
theorem dX8_sheet_2 : decode cX8_sheet 2 = .ok (.invokevirtual 256, 3) := by decide +kernel
theorem dX8_sheet_5 : decode cX8_sheet 5 = .ok (.astore 4, 2) := by decide +kernel
theorem dX8_sheet_7 : decode cX8_sheet 7 = .ok (.aload 4, 2) := by decide +kernel
theorem dX8_sheet_9 : decode cX8_sheet 9 = .ok (.ifnull 10, 3) := by decide +kernel
theorem dX8_sheet_12 : decode cX8_sheet 12 = .ok (.iload_n 2, 1) := by decide +kernel
theorem dX8_sheet_13 : decode cX8_sheet 13 = .ok (.invokestatic 260, 3) := by decide +kernel
theorem dX8_sheet_16 : decode cX8_sheet 16 = .ok (.ifCond .ne 10, 3) := by decide +kernel
theorem dX8_sheet_19 : decode cX8_sheet 19 = .ok (.aload_n 0, 1) := by decide +kernel
theorem dX8_sheet_20 : decode cX8_sheet 20 = .ok (.ldc 62, 2) := by decide +kernel
theorem dX8_sheet_22 : decode cX8_sheet 22 = .ok (.invokevirtual 63, 3) := by decide +kernel
theorem dX8_sheet_25 : decode cX8_sheet 25 = .ok (.ireturn, 1) := by decide +kernel
theorem dX8_sheet_26 : decode cX8_sheet 26 = .ok (.iload_n 3, 1) := by decide +kernel
theorem dX8_sheet_27 : decode cX8_sheet 27 = .ok (.ifCond .ge 10, 3) := by decide +kernel
theorem dX8_sheet_30 : decode cX8_sheet 30 = .ok (.aload_n 0, 1) := by decide +kernel
theorem dX8_sheet_31 : decode cX8_sheet 31 = .ok (.ldc 210, 2) := by decide +kernel
theorem dX8_sheet_33 : decode cX8_sheet 33 = .ok (.invokevirtual 63, 3) := by decide +kernel
theorem dX8_sheet_36 : decode cX8_sheet 36 = .ok (.ireturn, 1) := by decide +kernel
theorem dX8_sheet_37 : decode cX8_sheet 37 = .ok (.iload_n 3, 1) := by decide +kernel
theorem dX8_sheet_38 : decode cX8_sheet 38 = .ok (.bipush 40, 2) := by decide +kernel
theorem dX8_sheet_40 : decode cX8_sheet 40 = .ok (.if_icmp .le 10, 3) := by decide +kernel
theorem dX8_sheet_43 : decode cX8_sheet 43 = .ok (.aload_n 0, 1) := by decide +kernel
theorem dX8_sheet_44 : decode cX8_sheet 44 = .ok (.ldc 62, 2) := by decide +kernel
theorem dX8_sheet_46 : decode cX8_sheet 46 = .ok (.invokevirtual 63, 3) := by decide +kernel
theorem dX8_sheet_49 : decode cX8_sheet 49 = .ok (.ireturn, 1) := by decide +kernel
theorem dX8_sheet_50 : decode cX8_sheet 50 = .ok (.aload 4, 2) := by decide +kernel
theorem dX8_sheet_52 : decode cX8_sheet 52 = .ok (.iload_n 2, 1) := by decide +kernel
theorem dX8_sheet_53 : decode cX8_sheet 53 = .ok (.iload_n 2, 1) := by decide +kernel
theorem dX8_sheet_54 : decode cX8_sheet 54 = .ok (.ifCond .ne 7, 3) := by decide +kernel
theorem dX8_sheet_57 : decode cX8_sheet 57 = .ok (.iconst 0, 1) := by decide +kernel
theorem dX8_sheet_58 : decode cX8_sheet 58 = .ok (.goto 4, 3) := by decide +kernel
theorem dX8_sheet_61 : decode cX8_sheet 61 = .ok (.iload_n 3, 1) := by decide +kernel
theorem dX8_sheet_62 : decode cX8_sheet 62 = .ok (.invokevirtual 263, 3) := by decide +kernel
theorem dX8_sheet_65 : decode cX8_sheet 65 = .ok (.aload 4, 2) := by decide +kernel
theorem dX8_sheet_67 : decode cX8_sheet 67 = .ok (.getfield 267, 3) := by decide +kernel
theorem dX8_sheet_70 : decode cX8_sheet 70 = .ok (.ireturn, 1) := by decide +kernel
theorem dX8_write_0 : decode cX8_write 0 = .ok (.aload_n 0, 1) := by decide +kernel
theorem dX8_write_1 : decode cX8_write 1 = .ok (.iload_n 1, 1) := by decide +kernel
theorem dX8_write_2 : decode cX8_write 2 = .ok (.invokevirtual 256, 3) := by decide +kernel
theorem dX8_write_5 : decode cX8_write 5 = .ok (.astore 5, 2) := by decide +kernel
theorem dX8_write_7 : decode cX8_write 7 = .ok (.aload 5, 2) := by decide +kernel
theorem dX8_write_9 : decode cX8_write 9 = .ok (.ifnonnull 11, 3) := by decide +kernel
theorem dX8_write_12 : decode cX8_write 12 = .ok (.aload_n 0, 1) := by decide +kernel
theorem dX8_write_13 : decode cX8_write 13 = .ok (.ldc 62, 2) := by decide +kernel
theorem dX8_write_15 : decode cX8_write 15 = .ok (.invokevirtual 63, 3) := by decide +kernel
theorem dX8_write_18 : decode cX8_write 18 = .ok (.i2l, 1) := by decide +kernel
theorem dX8_write_19 : decode cX8_write 19 = .ok (.lreturn, 1) := by decide +kernel
theorem dX8_write_20 : decode cX8_write 20 = .ok (.aload 5, 2) := by decide +kernel
theorem dX8_write_22 : decode cX8_write 22 = .ok (.invokevirtual 268, 3) := by decide +kernel
theorem dX8_write_25 : decode cX8_write 25 = .ok (.ifCond .eq 12, 3) := by decide +kernel
theorem dX8_write_28 : decode cX8_write 28 = .ok (.aload_n 0, 1) := by decide +kernel
theorem dX8_write_29 : decode cX8_write 29 = .ok (.ldc_w 271, 3) := by decide +kernel
theorem dX8_write_32 : decode cX8_write 32 = .ok (.invokevirtual 63, 3) := by decide +kernel
theorem dX8_write_35 : decode cX8_write 35 = .ok (.i2l, 1) := by decide +kernel
theorem dX8_write_36 : decode cX8_write 36 = .ok (.lreturn, 1) := by decide +kernel
theorem dX8_copy_0 : decode cX8_copy 0 = .ok (.aload_n 0, 1) := by decide +kernel
theorem dX8_copy_1 : decode cX8_copy 1 = .ok (.iload_n 1, 1) := by decide +kernel
theorem dX8_copy_2 : decode cX8_copy 2 = .ok (.invokevirtual 256, 3) := by decide +kernel
theorem dX8_copy_5 : decode cX8_copy 5 = .ok (.astore 6, 2) := by decide +kernel
theorem dX8_copy_7 : decode cX8_copy 7 = .ok (.aload_n 0, 1) := by decide +kernel
theorem dX8_copy_8 : decode cX8_copy 8 = .ok (.iload_n 3, 1) := by decide +kernel
theorem dX8_copy_9 : decode cX8_copy 9 = .ok (.invokevirtual 256, 3) := by decide +kernel
theorem dX8_copy_12 : decode cX8_copy 12 = .ok (.astore 7, 2) := by decide +kernel
theorem dX8_copy_14 : decode cX8_copy 14 = .ok (.aload 6, 2) := by decide +kernel
theorem dX8_copy_16 : decode cX8_copy 16 = .ok (.ifnull 8, 3) := by decide +kernel
theorem dX8_copy_19 : decode cX8_copy 19 = .ok (.aload 7, 2) := by decide +kernel
theorem dX8_copy_21 : decode cX8_copy 21 = .ok (.ifnonnull 10, 3) := by decide +kernel
theorem dX8_copy_24 : decode cX8_copy 24 = .ok (.aload_n 0, 1) := by decide +kernel
theorem dX8_copy_25 : decode cX8_copy 25 = .ok (.ldc 62, 2) := by decide +kernel
theorem dX8_copy_27 : decode cX8_copy 27 = .ok (.invokevirtual 63, 3) := by decide +kernel
theorem dX8_copy_30 : decode cX8_copy 30 = .ok (.ireturn, 1) := by decide +kernel
theorem dX8_copy_31 : decode cX8_copy 31 = .ok (.aload 6, 2) := by decide +kernel
theorem dX8_copy_33 : decode cX8_copy 33 = .ok (.invokevirtual 268, 3) := by decide +kernel
theorem dX8_copy_36 : decode cX8_copy 36 = .ok (.ifCond .ne 11, 3) := by decide +kernel
theorem dX8_copy_47 : decode cX8_copy 47 = .ok (.aload_n 0, 1) := by decide +kernel
theorem dX8_copy_48 : decode cX8_copy 48 = .ok (.ldc_w 271, 3) := by decide +kernel
theorem dX8_copy_51 : decode cX8_copy 51 = .ok (.invokevirtual 63, 3) := by decide +kernel
theorem dX8_copy_54 : decode cX8_copy 54 = .ok (.ireturn, 1) := by decide +kernel
theorem dX8_lays_0 : decode cX8_lays 0 = .ok (.aload_n 0, 1) := by decide +kernel
theorem dX8_lays_1 : decode cX8_lays 1 = .ok (.iload_n 1, 1) := by decide +kernel
theorem dX8_lays_2 : decode cX8_lays 2 = .ok (.invokevirtual 256, 3) := by decide +kernel
theorem dX8_lays_5 : decode cX8_lays 5 = .ok (.astore_n 2, 1) := by decide +kernel
theorem dX8_lays_6 : decode cX8_lays 6 = .ok (.aload_n 2, 1) := by decide +kernel
theorem dX8_lays_7 : decode cX8_lays 7 = .ok (.ifnonnull 10, 3) := by decide +kernel
theorem dX8_lays_10 : decode cX8_lays 10 = .ok (.aload_n 0, 1) := by decide +kernel
theorem dX8_lays_11 : decode cX8_lays 11 = .ok (.ldc 62, 2) := by decide +kernel
theorem dX8_lays_13 : decode cX8_lays 13 = .ok (.invokevirtual 63, 3) := by decide +kernel
theorem dX8_lays_16 : decode cX8_lays 16 = .ok (.ireturn, 1) := by decide +kernel
theorem dX8_lays_17 : decode cX8_lays 17 = .ok (.aload_n 2, 1) := by decide +kernel
theorem dX8_lays_18 : decode cX8_lays 18 = .ok (.invokevirtual 268, 3) := by decide +kernel
theorem dX8_lays_21 : decode cX8_lays 21 = .ok (.ifCond .eq 11, 3) := by decide +kernel
theorem dX8_lays_24 : decode cX8_lays 24 = .ok (.aload_n 0, 1) := by decide +kernel
theorem dX8_lays_25 : decode cX8_lays 25 = .ok (.ldc_w 271, 3) := by decide +kernel
theorem dX8_lays_28 : decode cX8_lays 28 = .ok (.invokevirtual 63, 3) := by decide +kernel
theorem dX8_lays_31 : decode cX8_lays 31 = .ok (.ireturn, 1) := by decide +kernel
theorem dX8_film_0 : decode cX8_film 0 = .ok (.aload_n 0, 1) := by decide +kernel
theorem dX8_film_1 : decode cX8_film 1 = .ok (.iload_n 1, 1) := by decide +kernel
theorem dX8_film_2 : decode cX8_film 2 = .ok (.invokevirtual 256, 3) := by decide +kernel
theorem dX8_film_5 : decode cX8_film 5 = .ok (.astore_n 2, 1) := by decide +kernel
theorem dX8_film_6 : decode cX8_film 6 = .ok (.aload_n 2, 1) := by decide +kernel
theorem dX8_film_7 : decode cX8_film 7 = .ok (.ifnonnull 10, 3) := by decide +kernel
theorem dX8_film_10 : decode cX8_film 10 = .ok (.aload_n 0, 1) := by decide +kernel
theorem dX8_film_11 : decode cX8_film 11 = .ok (.ldc 62, 2) := by decide +kernel
theorem dX8_film_13 : decode cX8_film 13 = .ok (.invokevirtual 63, 3) := by decide +kernel
theorem dX8_film_16 : decode cX8_film 16 = .ok (.ireturn, 1) := by decide +kernel
theorem dX8_film_17 : decode cX8_film 17 = .ok (.aload_n 2, 1) := by decide +kernel
theorem dX8_film_18 : decode cX8_film 18 = .ok (.invokevirtual 268, 3) := by decide +kernel
theorem dX8_film_21 : decode cX8_film 21 = .ok (.ifCond .eq 11, 3) := by decide +kernel
theorem dX8_film_24 : decode cX8_film 24 = .ok (.aload_n 0, 1) := by decide +kernel
theorem dX8_film_25 : decode cX8_film 25 = .ok (.ldc_w 271, 3) := by decide +kernel
theorem dX8_film_28 : decode cX8_film 28 = .ok (.invokevirtual 63, 3) := by decide +kernel
theorem dX8_film_31 : decode cX8_film 31 = .ok (.ireturn, 1) := by decide +kernel
theorem dX8_read_0 : decode cX8_read 0 = .ok (.aload_n 0, 1) := by decide +kernel
theorem dX8_read_1 : decode cX8_read 1 = .ok (.iload_n 1, 1) := by decide +kernel
theorem dX8_read_2 : decode cX8_read 2 = .ok (.invokevirtual 256, 3) := by decide +kernel
theorem dX8_read_5 : decode cX8_read 5 = .ok (.astore_n 2, 1) := by decide +kernel
theorem dX8_read_6 : decode cX8_read 6 = .ok (.aload_n 2, 1) := by decide +kernel
theorem dX8_read_7 : decode cX8_read 7 = .ok (.ifnonnull 10, 3) := by decide +kernel
theorem dX8_read_10 : decode cX8_read 10 = .ok (.aload_n 0, 1) := by decide +kernel
theorem dX8_read_11 : decode cX8_read 11 = .ok (.ldc 62, 2) := by decide +kernel
theorem dX8_read_13 : decode cX8_read 13 = .ok (.invokevirtual 63, 3) := by decide +kernel
theorem dX8_read_16 : decode cX8_read 16 = .ok (.ireturn, 1) := by decide +kernel
theorem dX8_read_17 : decode cX8_read 17 = .ok (.aload_n 2, 1) := by decide +kernel
theorem dX8_read_18 : decode cX8_read 18 = .ok (.invokevirtual 268, 3) := by decide +kernel
theorem dX8_read_21 : decode cX8_read 21 = .ok (.ifCond .eq 11, 3) := by decide +kernel
theorem dX8_read_24 : decode cX8_read 24 = .ok (.aload_n 0, 1) := by decide +kernel
theorem dX8_read_25 : decode cX8_read 25 = .ok (.ldc_w 271, 3) := by decide +kernel
theorem dX8_read_28 : decode cX8_read 28 = .ok (.invokevirtual 63, 3) := by decide +kernel
theorem dX8_read_31 : decode cX8_read 31 = .ok (.ireturn, 1) := by decide +kernel
theorem dX8_image_0 : decode cX8_image 0 = .ok (.aload_n 0, 1) := by decide +kernel
theorem dX8_image_1 : decode cX8_image 1 = .ok (.getfield 16, 3) := by decide +kernel
theorem dX8_image_4 : decode cX8_image 4 = .ok (.aload_n 0, 1) := by decide +kernel
theorem dX8_image_5 : decode cX8_image 5 = .ok (.getfield 10, 3) := by decide +kernel
theorem dX8_image_8 : decode cX8_image 8 = .ok (.invokevirtual 250, 3) := by decide +kernel
theorem dX8_image_11 : decode cX8_image 11 = .ok (.aload_n 0, 1) := by decide +kernel
theorem dX8_image_12 : decode cX8_image 12 = .ok (.iconst 1, 1) := by decide +kernel
theorem dX8_image_13 : decode cX8_image 13 = .ok (.putfield 50, 3) := by decide +kernel
theorem dX8_image_16 : decode cX8_image 16 = .ok (.iconst 1, 1) := by decide +kernel
theorem dX8_image_17 : decode cX8_image 17 = .ok (.ireturn, 1) := by decide +kernel
theorem dX8_undo_0 : decode cX8_undo 0 = .ok (.aload_n 0, 1) := by decide +kernel
theorem dX8_undo_1 : decode cX8_undo 1 = .ok (.getfield 50, 3) := by decide +kernel
theorem dX8_undo_4 : decode cX8_undo 4 = .ok (.ifCond .ne 10, 3) := by decide +kernel
theorem dX8_undo_7 : decode cX8_undo 7 = .ok (.aload_n 0, 1) := by decide +kernel
theorem dX8_undo_8 : decode cX8_undo 8 = .ok (.ldc 149, 2) := by decide +kernel
theorem dX8_undo_10 : decode cX8_undo 10 = .ok (.invokevirtual 63, 3) := by decide +kernel
theorem dX8_undo_13 : decode cX8_undo 13 = .ok (.ireturn, 1) := by decide +kernel
theorem dX8_forget_0 : decode cX8_forget 0 = .ok (.aload_n 0, 1) := by decide +kernel
theorem dX8_forget_1 : decode cX8_forget 1 = .ok (.getfield 50, 3) := by decide +kernel
theorem dX8_forget_4 : decode cX8_forget 4 = .ok (.ifCond .eq 7, 3) := by decide +kernel
theorem dX8_forget_11 : decode cX8_forget 11 = .ok (.iconst 0, 1) := by decide +kernel
theorem dX8_forget_12 : decode cX8_forget 12 = .ok (.istore_n 1, 1) := by decide +kernel
theorem dX8_forget_13 : decode cX8_forget 13 = .ok (.aload_n 0, 1) := by decide +kernel
theorem dX8_forget_14 : decode cX8_forget 14 = .ok (.iconst 0, 1) := by decide +kernel
theorem dX8_forget_15 : decode cX8_forget 15 = .ok (.putfield 50, 3) := by decide +kernel
theorem dX8_forget_18 : decode cX8_forget 18 = .ok (.iload_n 1, 1) := by decide +kernel
theorem dX8_forget_19 : decode cX8_forget 19 = .ok (.ireturn, 1) := by decide +kernel
theorem dX8_count_0 : decode cX8_count 0 = .ok (.iload_n 1, 1) := by decide +kernel
theorem dX8_count_1 : decode cX8_count 1 = .ok (.tableswitch 108 0 6 #[43, 51, 62, 70, 78, 89, 100], 43) := by decide +kernel
theorem dX8_count_44 : decode cX8_count 44 = .ok (.aload_n 0, 1) := by decide +kernel
theorem dX8_count_45 : decode cX8_count 45 = .ok (.getfield 10, 3) := by decide +kernel
theorem dX8_count_48 : decode cX8_count 48 = .ok (.getfield 141, 3) := by decide +kernel
theorem dX8_count_51 : decode cX8_count 51 = .ok (.ireturn, 1) := by decide +kernel
theorem dX8_count_52 : decode cX8_count 52 = .ok (.aload_n 0, 1) := by decide +kernel
theorem dX8_count_53 : decode cX8_count 53 = .ok (.getfield 10, 3) := by decide +kernel
theorem dX8_count_56 : decode cX8_count 56 = .ok (.getfield 297, 3) := by decide +kernel
theorem dX8_count_59 : decode cX8_count 59 = .ok (.invokestatic 229, 3) := by decide +kernel
theorem dX8_count_62 : decode cX8_count 62 = .ok (.ireturn, 1) := by decide +kernel
theorem dX8_count_63 : decode cX8_count 63 = .ok (.aload_n 0, 1) := by decide +kernel
theorem dX8_count_64 : decode cX8_count 64 = .ok (.getfield 10, 3) := by decide +kernel
theorem dX8_count_67 : decode cX8_count 67 = .ok (.getfield 204, 3) := by decide +kernel
theorem dX8_count_70 : decode cX8_count 70 = .ok (.ireturn, 1) := by decide +kernel
theorem dX8_count_71 : decode cX8_count 71 = .ok (.aload_n 0, 1) := by decide +kernel
theorem dX8_count_72 : decode cX8_count 72 = .ok (.getfield 10, 3) := by decide +kernel
theorem dX8_count_75 : decode cX8_count 75 = .ok (.invokevirtual 300, 3) := by decide +kernel
theorem dX8_count_78 : decode cX8_count 78 = .ok (.ireturn, 1) := by decide +kernel
theorem dX8_count_79 : decode cX8_count 79 = .ok (.aload_n 0, 1) := by decide +kernel
theorem dX8_count_80 : decode cX8_count 80 = .ok (.getfield 10, 3) := by decide +kernel
theorem dX8_count_83 : decode cX8_count 83 = .ok (.invokevirtual 134, 3) := by decide +kernel
theorem dX8_count_86 : decode cX8_count 86 = .ok (.invokestatic 303, 3) := by decide +kernel
theorem dX8_count_89 : decode cX8_count 89 = .ok (.ireturn, 1) := by decide +kernel
theorem dX8_count_90 : decode cX8_count 90 = .ok (.aload_n 0, 1) := by decide +kernel
theorem dX8_count_91 : decode cX8_count 91 = .ok (.getfield 36, 3) := by decide +kernel
theorem dX8_count_94 : decode cX8_count 94 = .ok (.getfield 232, 3) := by decide +kernel
theorem dX8_count_97 : decode cX8_count 97 = .ok (.getfield 244, 3) := by decide +kernel
theorem dX8_count_100 : decode cX8_count 100 = .ok (.ireturn, 1) := by decide +kernel
theorem dX8_count_101 : decode cX8_count 101 = .ok (.aload_n 0, 1) := by decide +kernel
theorem dX8_count_102 : decode cX8_count 102 = .ok (.getfield 10, 3) := by decide +kernel
theorem dX8_count_105 : decode cX8_count 105 = .ok (.getfield 171, 3) := by decide +kernel
theorem dX8_count_108 : decode cX8_count 108 = .ok (.ireturn, 1) := by decide +kernel
theorem dX8_count_109 : decode cX8_count 109 = .ok (.aload_n 0, 1) := by decide +kernel
theorem dX8_count_110 : decode cX8_count 110 = .ok (.ldc 62, 2) := by decide +kernel
theorem dX8_count_112 : decode cX8_count 112 = .ok (.invokevirtual 63, 3) := by decide +kernel
theorem dX8_count_115 : decode cX8_count 115 = .ok (.ireturn, 1) := by decide +kernel
theorem dX8_status_0 : decode cX8_status 0 = .ok (.iload_n 1, 1) := by decide +kernel
theorem dX8_status_1 : decode cX8_status 1 = .ok (.iconst (-1), 1) := by decide +kernel
theorem dX8_status_2 : decode cX8_status 2 = .ok (.if_icmp .lt 9, 3) := by decide +kernel
theorem dX8_status_5 : decode cX8_status 5 = .ok (.iload_n 1, 1) := by decide +kernel
theorem dX8_status_6 : decode cX8_status 6 = .ok (.bipush 7, 2) := by decide +kernel
theorem dX8_status_8 : decode cX8_status 8 = .ok (.if_icmp .lt 10, 3) := by decide +kernel
theorem dX8_status_11 : decode cX8_status 11 = .ok (.aload_n 0, 1) := by decide +kernel
theorem dX8_status_12 : decode cX8_status 12 = .ok (.ldc 62, 2) := by decide +kernel
theorem dX8_status_14 : decode cX8_status 14 = .ok (.invokevirtual 63, 3) := by decide +kernel
theorem dX8_status_17 : decode cX8_status 17 = .ok (.ireturn, 1) := by decide +kernel
theorem dX8_status_18 : decode cX8_status 18 = .ok (.iload_n 1, 1) := by decide +kernel
theorem dX8_status_19 : decode cX8_status 19 = .ok (.ifCond .lt 10, 3) := by decide +kernel
theorem dX8_status_22 : decode cX8_status 22 = .ok (.aload_n 0, 1) := by decide +kernel
theorem dX8_status_23 : decode cX8_status 23 = .ok (.getfield 46, 3) := by decide +kernel
theorem dX8_status_26 : decode cX8_status 26 = .ok (.iload_n 1, 1) := by decide +kernel
theorem dX8_status_27 : decode cX8_status 27 = .ok (.iaload, 1) := by decide +kernel
theorem dX8_status_28 : decode cX8_status 28 = .ok (.ireturn, 1) := by decide +kernel
theorem dX8_status_29 : decode cX8_status 29 = .ok (.iconst 0, 1) := by decide +kernel
theorem dX8_status_30 : decode cX8_status 30 = .ok (.istore_n 2, 1) := by decide +kernel
theorem dX8_status_31 : decode cX8_status 31 = .ok (.iconst 0, 1) := by decide +kernel
theorem dX8_status_32 : decode cX8_status 32 = .ok (.istore_n 3, 1) := by decide +kernel
theorem dX8_status_33 : decode cX8_status 33 = .ok (.iload_n 3, 1) := by decide +kernel
theorem dX8_status_34 : decode cX8_status 34 = .ok (.bipush 7, 2) := by decide +kernel
theorem dX8_status_36 : decode cX8_status 36 = .ok (.if_icmp .ge 18, 3) := by decide +kernel
theorem dX8_status_39 : decode cX8_status 39 = .ok (.iload_n 2, 1) := by decide +kernel
theorem dX8_status_40 : decode cX8_status 40 = .ok (.aload_n 0, 1) := by decide +kernel
theorem dX8_status_41 : decode cX8_status 41 = .ok (.getfield 46, 3) := by decide +kernel
theorem dX8_status_44 : decode cX8_status 44 = .ok (.iload_n 3, 1) := by decide +kernel
theorem dX8_status_45 : decode cX8_status 45 = .ok (.iaload, 1) := by decide +kernel
theorem dX8_status_46 : decode cX8_status 46 = .ok (.iadd, 1) := by decide +kernel
theorem dX8_status_47 : decode cX8_status 47 = .ok (.istore_n 2, 1) := by decide +kernel
theorem dX8_status_48 : decode cX8_status 48 = .ok (.iinc 3 1, 3) := by decide +kernel
theorem dX8_status_51 : decode cX8_status 51 = .ok (.goto (-18), 3) := by decide +kernel
theorem dX8_status_54 : decode cX8_status 54 = .ok (.iload_n 2, 1) := by decide +kernel
theorem dX8_status_55 : decode cX8_status 55 = .ok (.ireturn, 1) := by decide +kernel
theorem dX8_finding_0 : decode cX8_finding 0 = .ok (.ldc 62, 2) := by decide +kernel
theorem dX8_finding_2 : decode cX8_finding 2 = .ok (.iload_n 1, 1) := by decide +kernel
theorem dX8_finding_3 : decode cX8_finding 3 = .ok (.isub, 1) := by decide +kernel
theorem dX8_finding_4 : decode cX8_finding 4 = .ok (.istore_n 2, 1) := by decide +kernel
theorem dX8_finding_5 : decode cX8_finding 5 = .ok (.iload_n 2, 1) := by decide +kernel
theorem dX8_finding_6 : decode cX8_finding 6 = .ok (.ifCond .lt 19, 3) := by decide +kernel
theorem dX8_finding_9 : decode cX8_finding 9 = .ok (.iload_n 2, 1) := by decide +kernel
theorem dX8_finding_10 : decode cX8_finding 10 = .ok (.bipush 7, 2) := by decide +kernel
theorem dX8_finding_12 : decode cX8_finding 12 = .ok (.if_icmp .ge 13, 3) := by decide +kernel
theorem dX8_finding_15 : decode cX8_finding 15 = .ok (.aload_n 0, 1) := by decide +kernel
theorem dX8_finding_16 : decode cX8_finding 16 = .ok (.getfield 46, 3) := by decide +kernel
theorem dX8_finding_19 : decode cX8_finding 19 = .ok (.iload_n 2, 1) := by decide +kernel
theorem dX8_finding_20 : decode cX8_finding 20 = .ok (.dup2, 1) := by decide +kernel
theorem dX8_finding_21 : decode cX8_finding 21 = .ok (.iaload, 1) := by decide +kernel
theorem dX8_finding_22 : decode cX8_finding 22 = .ok (.iconst 1, 1) := by decide +kernel
theorem dX8_finding_23 : decode cX8_finding 23 = .ok (.iadd, 1) := by decide +kernel
theorem dX8_finding_24 : decode cX8_finding 24 = .ok (.iastore, 1) := by decide +kernel
theorem dX8_finding_25 : decode cX8_finding 25 = .ok (.iload_n 1, 1) := by decide +kernel
theorem dX8_finding_26 : decode cX8_finding 26 = .ok (.ireturn, 1) := by decide +kernel
theorem dX8_paperAt_0 : decode cX8_paperAt 0 = .ok (.iload_n 1, 1) := by decide +kernel
theorem dX8_paperAt_1 : decode cX8_paperAt 1 = .ok (.ifCond .lt 8, 3) := by decide +kernel
theorem dX8_paperAt_4 : decode cX8_paperAt 4 = .ok (.iload_n 1, 1) := by decide +kernel
theorem dX8_paperAt_5 : decode cX8_paperAt 5 = .ok (.iconst 4, 1) := by decide +kernel
theorem dX8_paperAt_6 : decode cX8_paperAt 6 = .ok (.if_icmp .lt 7, 3) := by decide +kernel
theorem dX8_paperAt_9 : decode cX8_paperAt 9 = .ok (.aconst_null, 1) := by decide +kernel
theorem dX8_paperAt_10 : decode cX8_paperAt 10 = .ok (.goto 9, 3) := by decide +kernel
theorem dX8_paperAt_13 : decode cX8_paperAt 13 = .ok (.aload_n 0, 1) := by decide +kernel
theorem dX8_paperAt_14 : decode cX8_paperAt 14 = .ok (.getfield 42, 3) := by decide +kernel
theorem dX8_paperAt_17 : decode cX8_paperAt 17 = .ok (.iload_n 1, 1) := by decide +kernel
theorem dX8_paperAt_18 : decode cX8_paperAt 18 = .ok (.aaload, 1) := by decide +kernel
theorem dX8_paperAt_19 : decode cX8_paperAt 19 = .ok (.areturn, 1) := by decide +kernel
theorem dX8_isKind_0 : decode cX8_isKind 0 = .ok (.iload_n 0, 1) := by decide +kernel
theorem dX8_isKind_1 : decode cX8_isKind 1 = .ok (.ifCond .lt 13, 3) := by decide +kernel
theorem dX8_isKind_4 : decode cX8_isKind 4 = .ok (.iload_n 0, 1) := by decide +kernel
theorem dX8_isKind_5 : decode cX8_isKind 5 = .ok (.bipush 6, 2) := by decide +kernel
theorem dX8_isKind_7 : decode cX8_isKind 7 = .ok (.if_icmp .ge 7, 3) := by decide +kernel
theorem dX8_isKind_10 : decode cX8_isKind 10 = .ok (.iconst 1, 1) := by decide +kernel
theorem dX8_isKind_11 : decode cX8_isKind 11 = .ok (.goto 4, 3) := by decide +kernel
theorem dX8_isKind_14 : decode cX8_isKind 14 = .ok (.iconst 0, 1) := by decide +kernel
theorem dX8_isKind_15 : decode cX8_isKind 15 = .ok (.ireturn, 1) := by decide +kernel
theorem dX8_isPoints_0 : decode cX8_isPoints 0 = .ok (.iload_n 0, 1) := by decide +kernel
theorem dX8_isPoints_1 : decode cX8_isPoints 1 = .ok (.ifCond .lt 14, 3) := by decide +kernel
theorem dX8_isPoints_4 : decode cX8_isPoints 4 = .ok (.iload_n 0, 1) := by decide +kernel
theorem dX8_isPoints_5 : decode cX8_isPoints 5 = .ok (.ldc_w 307, 3) := by decide +kernel
theorem dX8_isPoints_8 : decode cX8_isPoints 8 = .ok (.if_icmp .gt 7, 3) := by decide +kernel
theorem dX8_isPoints_11 : decode cX8_isPoints 11 = .ok (.iconst 1, 1) := by decide +kernel
theorem dX8_isPoints_12 : decode cX8_isPoints 12 = .ok (.goto 4, 3) := by decide +kernel
theorem dX8_isPoints_15 : decode cX8_isPoints 15 = .ok (.iconst 0, 1) := by decide +kernel
theorem dX8_isPoints_16 : decode cX8_isPoints 16 = .ok (.ireturn, 1) := by decide +kernel
theorem dX8_isWidth_0 : decode cX8_isWidth 0 = .ok (.iload_n 0, 1) := by decide +kernel
theorem dX8_isWidth_1 : decode cX8_isWidth 1 = .ok (.ifCond .eq 21, 3) := by decide +kernel
theorem dX8_isWidth_4 : decode cX8_isWidth 4 = .ok (.iload_n 0, 1) := by decide +kernel
theorem dX8_isWidth_5 : decode cX8_isWidth 5 = .ok (.bipush 8, 2) := by decide +kernel
theorem dX8_isWidth_7 : decode cX8_isWidth 7 = .ok (.if_icmp .eq 15, 3) := by decide +kernel
theorem dX8_isWidth_10 : decode cX8_isWidth 10 = .ok (.iload_n 0, 1) := by decide +kernel
theorem dX8_isWidth_11 : decode cX8_isWidth 11 = .ok (.bipush 16, 2) := by decide +kernel
theorem dX8_isWidth_13 : decode cX8_isWidth 13 = .ok (.if_icmp .eq 9, 3) := by decide +kernel
theorem dX8_isWidth_16 : decode cX8_isWidth 16 = .ok (.iload_n 0, 1) := by decide +kernel
theorem dX8_isWidth_17 : decode cX8_isWidth 17 = .ok (.bipush 64, 2) := by decide +kernel
theorem dX8_isWidth_19 : decode cX8_isWidth 19 = .ok (.if_icmp .ne 7, 3) := by decide +kernel
theorem dX8_isWidth_22 : decode cX8_isWidth 22 = .ok (.iconst 1, 1) := by decide +kernel
theorem dX8_isWidth_23 : decode cX8_isWidth 23 = .ok (.goto 4, 3) := by decide +kernel
theorem dX8_isWidth_26 : decode cX8_isWidth 26 = .ok (.iconst 0, 1) := by decide +kernel
theorem dX8_isWidth_27 : decode cX8_isWidth 27 = .ok (.ireturn, 1) := by decide +kernel
theorem dX9_finding_0 : decode cX9_finding 0 = .ok (.aload_n 0, 1) := by decide +kernel
theorem dX9_finding_1 : decode cX9_finding 1 = .ok (.getfield 23, 3) := by decide +kernel
theorem dX9_finding_4 : decode cX9_finding 4 = .ok (.ldc 74, 2) := by decide +kernel
theorem dX9_finding_6 : decode cX9_finding 6 = .ok (.iload_n 1, 1) := by decide +kernel
theorem dX9_finding_7 : decode cX9_finding 7 = .ok (.isub, 1) := by decide +kernel
theorem dX9_finding_8 : decode cX9_finding 8 = .ok (.iconst 1, 1) := by decide +kernel
theorem dX9_finding_9 : decode cX9_finding 9 = .ok (.iadd, 1) := by decide +kernel
theorem dX9_finding_10 : decode cX9_finding 10 = .ok (.dup2, 1) := by decide +kernel
theorem dX9_finding_11 : decode cX9_finding 11 = .ok (.iaload, 1) := by decide +kernel
theorem dX9_finding_12 : decode cX9_finding 12 = .ok (.iconst 1, 1) := by decide +kernel
theorem dX9_finding_13 : decode cX9_finding 13 = .ok (.iadd, 1) := by decide +kernel
theorem dX9_finding_14 : decode cX9_finding 14 = .ok (.iastore, 1) := by decide +kernel
theorem dX9_finding_15 : decode cX9_finding 15 = .ok (.aload_n 0, 1) := by decide +kernel
theorem dX9_finding_16 : decode cX9_finding 16 = .ok (.getfield 23, 3) := by decide +kernel
theorem dX9_finding_19 : decode cX9_finding 19 = .ok (.iconst 0, 1) := by decide +kernel
theorem dX9_finding_20 : decode cX9_finding 20 = .ok (.dup2, 1) := by decide +kernel
theorem dX9_finding_21 : decode cX9_finding 21 = .ok (.iaload, 1) := by decide +kernel
theorem dX9_finding_22 : decode cX9_finding 22 = .ok (.iconst 1, 1) := by decide +kernel
theorem dX9_finding_23 : decode cX9_finding 23 = .ok (.iadd, 1) := by decide +kernel
theorem dX9_finding_24 : decode cX9_finding 24 = .ok (.iastore, 1) := by decide +kernel
theorem dX9_finding_25 : decode cX9_finding 25 = .ok (.iload_n 1, 1) := by decide +kernel
theorem dX9_finding_26 : decode cX9_finding 26 = .ok (.ireturn, 1) := by decide +kernel
theorem dX9_within_0 : decode cX9_within 0 = .ok (.iload_n 0, 1) := by decide +kernel
theorem dX9_within_1 : decode cX9_within 1 = .ok (.iload_n 1, 1) := by decide +kernel
theorem dX9_within_2 : decode cX9_within 2 = .ok (.if_icmp .lt 12, 3) := by decide +kernel
theorem dX9_within_5 : decode cX9_within 5 = .ok (.iload_n 0, 1) := by decide +kernel
theorem dX9_within_6 : decode cX9_within 6 = .ok (.iload_n 2, 1) := by decide +kernel
theorem dX9_within_7 : decode cX9_within 7 = .ok (.if_icmp .gt 7, 3) := by decide +kernel
theorem dX9_within_10 : decode cX9_within 10 = .ok (.iconst 1, 1) := by decide +kernel
theorem dX9_within_11 : decode cX9_within 11 = .ok (.goto 4, 3) := by decide +kernel
theorem dX9_within_14 : decode cX9_within 14 = .ok (.iconst 0, 1) := by decide +kernel
theorem dX9_within_15 : decode cX9_within 15 = .ok (.ireturn, 1) := by decide +kernel
theorem dX9_putIn_0 : decode cX9_putIn 0 = .ok (.aload_n 0, 1) := by decide +kernel
theorem dX9_putIn_1 : decode cX9_putIn 1 = .ok (.getfield 9, 3) := by decide +kernel
theorem dX9_putIn_4 : decode cX9_putIn 4 = .ok (.iload_n 1, 1) := by decide +kernel
theorem dX9_putIn_5 : decode cX9_putIn 5 = .ok (.iaload, 1) := by decide +kernel
theorem dX9_putIn_6 : decode cX9_putIn 6 = .ok (.istore_n 3, 1) := by decide +kernel
theorem dX9_putIn_7 : decode cX9_putIn 7 = .ok (.aload_n 0, 1) := by decide +kernel
theorem dX9_putIn_8 : decode cX9_putIn 8 = .ok (.getfield 9, 3) := by decide +kernel
theorem dX9_putIn_11 : decode cX9_putIn 11 = .ok (.iload_n 1, 1) := by decide +kernel
theorem dX9_putIn_12 : decode cX9_putIn 12 = .ok (.iload_n 2, 1) := by decide +kernel
theorem dX9_putIn_13 : decode cX9_putIn 13 = .ok (.iastore, 1) := by decide +kernel
theorem dX9_putIn_14 : decode cX9_putIn 14 = .ok (.iload_n 3, 1) := by decide +kernel
theorem dX9_putIn_15 : decode cX9_putIn 15 = .ok (.ireturn, 1) := by decide +kernel
theorem dX9_bits_0 : decode cX9_bits 0 = .ok (.iconst 0, 1) := by decide +kernel
theorem dX9_bits_1 : decode cX9_bits 1 = .ok (.istore_n 2, 1) := by decide +kernel
theorem dX9_bits_2 : decode cX9_bits 2 = .ok (.lload_n 0, 1) := by decide +kernel
theorem dX9_bits_3 : decode cX9_bits 3 = .ok (.lstore_n 3, 1) := by decide +kernel
theorem dX9_bits_4 : decode cX9_bits 4 = .ok (.lload_n 3, 1) := by decide +kernel
theorem dX9_bits_5 : decode cX9_bits 5 = .ok (.lconst 0, 1) := by decide +kernel
theorem dX9_bits_6 : decode cX9_bits 6 = .ok (.lcmp, 1) := by decide +kernel
theorem dX9_bits_7 : decode cX9_bits 7 = .ok (.ifCond .eq 15, 3) := by decide +kernel
theorem dX9_bits_22 : decode cX9_bits 22 = .ok (.iload_n 2, 1) := by decide +kernel
theorem dX9_bits_23 : decode cX9_bits 23 = .ok (.ireturn, 1) := by decide +kernel
theorem dX9_isShape_0 : decode cX9_isShape 0 = .ok (.iload_n 1, 1) := by decide +kernel
theorem dX9_isShape_1 : decode cX9_isShape 1 = .ok (.iconst 0, 1) := by decide +kernel
theorem dX9_isShape_2 : decode cX9_isShape 2 = .ok (.aload_n 0, 1) := by decide +kernel
theorem dX9_isShape_3 : decode cX9_isShape 3 = .ok (.getfield 9, 3) := by decide +kernel
theorem dX9_isShape_6 : decode cX9_isShape 6 = .ok (.iconst 0, 1) := by decide +kernel
theorem dX9_isShape_7 : decode cX9_isShape 7 = .ok (.iaload, 1) := by decide +kernel
theorem dX9_isShape_8 : decode cX9_isShape 8 = .ok (.iconst 1, 1) := by decide +kernel
theorem dX9_isShape_9 : decode cX9_isShape 9 = .ok (.isub, 1) := by decide +kernel
theorem dX9_isShape_10 : decode cX9_isShape 10 = .ok (.invokestatic 75, 3) := by decide +kernel
theorem dX9_isShape_13 : decode cX9_isShape 13 = .ok (.ireturn, 1) := by decide +kernel
theorem dX9_isKind_0 : decode cX9_isKind 0 = .ok (.iload_n 0, 1) := by decide +kernel
theorem dX9_isKind_1 : decode cX9_isKind 1 = .ok (.iconst 0, 1) := by decide +kernel
theorem dX9_isKind_2 : decode cX9_isKind 2 = .ok (.iconst 5, 1) := by decide +kernel
theorem dX9_isKind_3 : decode cX9_isKind 3 = .ok (.invokestatic 75, 3) := by decide +kernel
theorem dX9_isKind_6 : decode cX9_isKind 6 = .ok (.ireturn, 1) := by decide +kernel
theorem dX9_made_0 : decode cX9_made 0 = .ok (.aload_n 0, 1) := by decide +kernel
theorem dX9_made_1 : decode cX9_made 1 = .ok (.getfield 9, 3) := by decide +kernel
theorem dX9_made_4 : decode cX9_made 4 = .ok (.iconst 0, 1) := by decide +kernel
theorem dX9_made_5 : decode cX9_made 5 = .ok (.iaload, 1) := by decide +kernel
theorem dX9_made_6 : decode cX9_made 6 = .ok (.istore_n 3, 1) := by decide +kernel
theorem dX9_made_7 : decode cX9_made 7 = .ok (.iconst 3, 1) := by decide +kernel
theorem dX9_made_8 : decode cX9_made 8 = .ok (.iconst 3, 1) := by decide +kernel
theorem dX9_made_9 : decode cX9_made 9 = .ok (.iload_n 3, 1) := by decide +kernel
theorem dX9_made_10 : decode cX9_made 10 = .ok (.imul, 1) := by decide +kernel
theorem dX9_made_11 : decode cX9_made 11 = .ok (.iadd, 1) := by decide +kernel
theorem dX9_made_12 : decode cX9_made 12 = .ok (.istore 4, 2) := by decide +kernel
theorem dX9_made_14 : decode cX9_made 14 = .ok (.aload_n 0, 1) := by decide +kernel
theorem dX9_made_15 : decode cX9_made 15 = .ok (.getfield 9, 3) := by decide +kernel
theorem dX9_made_18 : decode cX9_made 18 = .ok (.iload 4, 2) := by decide +kernel
theorem dX9_made_20 : decode cX9_made 20 = .ok (.iconst 0, 1) := by decide +kernel
theorem dX9_made_21 : decode cX9_made 21 = .ok (.iadd, 1) := by decide +kernel
theorem dX9_made_22 : decode cX9_made 22 = .ok (.iload_n 1, 1) := by decide +kernel
theorem dX9_made_23 : decode cX9_made 23 = .ok (.iastore, 1) := by decide +kernel
theorem dX9_made_24 : decode cX9_made 24 = .ok (.aload_n 0, 1) := by decide +kernel
theorem dX9_made_25 : decode cX9_made 25 = .ok (.getfield 9, 3) := by decide +kernel
theorem dX9_made_28 : decode cX9_made 28 = .ok (.iload 4, 2) := by decide +kernel
theorem dX9_made_30 : decode cX9_made 30 = .ok (.iconst 1, 1) := by decide +kernel
theorem dX9_made_31 : decode cX9_made 31 = .ok (.iadd, 1) := by decide +kernel
theorem dX9_made_32 : decode cX9_made 32 = .ok (.iload_n 2, 1) := by decide +kernel
theorem dX9_made_33 : decode cX9_made 33 = .ok (.iastore, 1) := by decide +kernel
theorem dX9_made_34 : decode cX9_made 34 = .ok (.aload_n 0, 1) := by decide +kernel
theorem dX9_made_35 : decode cX9_made 35 = .ok (.getfield 9, 3) := by decide +kernel
theorem dX9_made_38 : decode cX9_made 38 = .ok (.iload 4, 2) := by decide +kernel
theorem dX9_made_40 : decode cX9_made 40 = .ok (.iconst 2, 1) := by decide +kernel
theorem dX9_made_41 : decode cX9_made 41 = .ok (.iadd, 1) := by decide +kernel
theorem dX9_made_42 : decode cX9_made 42 = .ok (.iconst 0, 1) := by decide +kernel
theorem dX9_made_43 : decode cX9_made 43 = .ok (.iastore, 1) := by decide +kernel
theorem dX9_made_44 : decode cX9_made 44 = .ok (.aload_n 0, 1) := by decide +kernel
theorem dX9_made_45 : decode cX9_made 45 = .ok (.getfield 9, 3) := by decide +kernel
theorem dX9_made_48 : decode cX9_made 48 = .ok (.iconst 0, 1) := by decide +kernel
theorem dX9_made_49 : decode cX9_made 49 = .ok (.dup2, 1) := by decide +kernel
theorem dX9_made_50 : decode cX9_made 50 = .ok (.iaload, 1) := by decide +kernel
theorem dX9_made_51 : decode cX9_made 51 = .ok (.iconst 1, 1) := by decide +kernel
theorem dX9_made_52 : decode cX9_made 52 = .ok (.iadd, 1) := by decide +kernel
theorem dX9_made_53 : decode cX9_made 53 = .ok (.iastore, 1) := by decide +kernel
theorem dX9_made_54 : decode cX9_made 54 = .ok (.iload_n 3, 1) := by decide +kernel
theorem dX9_made_55 : decode cX9_made 55 = .ok (.ireturn, 1) := by decide +kernel
theorem dX9_shape_0 : decode cX9_shape 0 = .ok (.iload_n 1, 1) := by decide +kernel
theorem dX9_shape_1 : decode cX9_shape 1 = .ok (.invokestatic 79, 3) := by decide +kernel
theorem dX9_shape_4 : decode cX9_shape 4 = .ok (.ifCond .eq 13, 3) := by decide +kernel
theorem dX9_shape_7 : decode cX9_shape 7 = .ok (.iload_n 2, 1) := by decide +kernel
theorem dX9_shape_8 : decode cX9_shape 8 = .ok (.iconst 0, 1) := by decide +kernel
theorem dX9_shape_9 : decode cX9_shape 9 = .ok (.ldc 83, 2) := by decide +kernel
theorem dX9_shape_11 : decode cX9_shape 11 = .ok (.invokestatic 75, 3) := by decide +kernel
theorem dX9_shape_14 : decode cX9_shape 14 = .ok (.ifCond .ne 10, 3) := by decide +kernel
theorem dX9_shape_17 : decode cX9_shape 17 = .ok (.aload_n 0, 1) := by decide +kernel
theorem dX9_shape_18 : decode cX9_shape 18 = .ok (.ldc 74, 2) := by decide +kernel
theorem dX9_shape_20 : decode cX9_shape 20 = .ok (.invokevirtual 84, 3) := by decide +kernel
theorem dX9_shape_23 : decode cX9_shape 23 = .ok (.ireturn, 1) := by decide +kernel
theorem dX9_shape_24 : decode cX9_shape 24 = .ok (.aload_n 0, 1) := by decide +kernel
theorem dX9_shape_25 : decode cX9_shape 25 = .ok (.getfield 9, 3) := by decide +kernel
theorem dX9_shape_28 : decode cX9_shape 28 = .ok (.iconst 0, 1) := by decide +kernel
theorem dX9_shape_29 : decode cX9_shape 29 = .ok (.iaload, 1) := by decide +kernel
theorem dX9_shape_30 : decode cX9_shape 30 = .ok (.bipush 9, 2) := by decide +kernel
theorem dX9_shape_32 : decode cX9_shape 32 = .ok (.if_icmp .ne 12, 3) := by decide +kernel
theorem dX9_shape_44 : decode cX9_shape 44 = .ok (.aload_n 0, 1) := by decide +kernel
theorem dX9_shape_45 : decode cX9_shape 45 = .ok (.iload_n 1, 1) := by decide +kernel
theorem dX9_shape_46 : decode cX9_shape 46 = .ok (.iload_n 2, 1) := by decide +kernel
theorem dX9_shape_47 : decode cX9_shape 47 = .ok (.invokevirtual 89, 3) := by decide +kernel
theorem dX9_shape_50 : decode cX9_shape 50 = .ok (.ireturn, 1) := by decide +kernel
theorem dX9_of_0 : decode cX9_of 0 = .ok (.aload_n 0, 1) := by decide +kernel
theorem dX9_of_1 : decode cX9_of 1 = .ok (.iload_n 1, 1) := by decide +kernel
theorem dX9_of_2 : decode cX9_of 2 = .ok (.invokevirtual 93, 3) := by decide +kernel
theorem dX9_of_5 : decode cX9_of 5 = .ok (.ifCond .eq 12, 3) := by decide +kernel
theorem dX9_of_17 : decode cX9_of 17 = .ok (.aload_n 0, 1) := by decide +kernel
theorem dX9_of_18 : decode cX9_of 18 = .ok (.ldc 74, 2) := by decide +kernel
theorem dX9_of_20 : decode cX9_of 20 = .ok (.invokevirtual 84, 3) := by decide +kernel
theorem dX9_of_23 : decode cX9_of 23 = .ok (.ireturn, 1) := by decide +kernel
theorem dX9_cut_0 : decode cX9_cut 0 = .ok (.aload_n 0, 1) := by decide +kernel
theorem dX9_cut_1 : decode cX9_cut 1 = .ok (.iload_n 1, 1) := by decide +kernel
theorem dX9_cut_2 : decode cX9_cut 2 = .ok (.invokevirtual 93, 3) := by decide +kernel
theorem dX9_cut_5 : decode cX9_cut 5 = .ok (.ifCond .eq 28, 3) := by decide +kernel
theorem dX9_cut_33 : decode cX9_cut 33 = .ok (.aload_n 0, 1) := by decide +kernel
theorem dX9_cut_34 : decode cX9_cut 34 = .ok (.ldc 74, 2) := by decide +kernel
theorem dX9_cut_36 : decode cX9_cut 36 = .ok (.invokevirtual 84, 3) := by decide +kernel
theorem dX9_cut_39 : decode cX9_cut 39 = .ok (.ireturn, 1) := by decide +kernel
theorem dX9_tear_0 : decode cX9_tear 0 = .ok (.aload_n 0, 1) := by decide +kernel
theorem dX9_tear_1 : decode cX9_tear 1 = .ok (.iload_n 1, 1) := by decide +kernel
theorem dX9_tear_2 : decode cX9_tear 2 = .ok (.invokevirtual 93, 3) := by decide +kernel
theorem dX9_tear_5 : decode cX9_tear 5 = .ok (.ifCond .ne 10, 3) := by decide +kernel
theorem dX9_tear_8 : decode cX9_tear 8 = .ok (.aload_n 0, 1) := by decide +kernel
theorem dX9_tear_9 : decode cX9_tear 9 = .ok (.ldc 74, 2) := by decide +kernel
theorem dX9_tear_11 : decode cX9_tear 11 = .ok (.invokevirtual 84, 3) := by decide +kernel
theorem dX9_tear_14 : decode cX9_tear 14 = .ok (.ireturn, 1) := by decide +kernel
theorem dX9_become_0 : decode cX9_become 0 = .ok (.aload_n 0, 1) := by decide +kernel
theorem dX9_become_1 : decode cX9_become 1 = .ok (.iload_n 1, 1) := by decide +kernel
theorem dX9_become_2 : decode cX9_become 2 = .ok (.invokevirtual 93, 3) := by decide +kernel
theorem dX9_become_5 : decode cX9_become 5 = .ok (.ifCond .eq 25, 3) := by decide +kernel
theorem dX9_become_30 : decode cX9_become 30 = .ok (.aload_n 0, 1) := by decide +kernel
theorem dX9_become_31 : decode cX9_become 31 = .ok (.ldc 74, 2) := by decide +kernel
theorem dX9_become_33 : decode cX9_become 33 = .ok (.invokevirtual 84, 3) := by decide +kernel
theorem dX9_become_36 : decode cX9_become 36 = .ok (.ireturn, 1) := by decide +kernel
theorem dX9_as_0 : decode cX9_as 0 = .ok (.aload_n 0, 1) := by decide +kernel
theorem dX9_as_1 : decode cX9_as 1 = .ok (.iload_n 1, 1) := by decide +kernel
theorem dX9_as_2 : decode cX9_as 2 = .ok (.invokevirtual 93, 3) := by decide +kernel
theorem dX9_as_5 : decode cX9_as 5 = .ok (.ifCond .eq 10, 3) := by decide +kernel
theorem dX9_as_15 : decode cX9_as 15 = .ok (.aload_n 0, 1) := by decide +kernel
theorem dX9_as_16 : decode cX9_as 16 = .ok (.ldc 74, 2) := by decide +kernel
theorem dX9_as_18 : decode cX9_as 18 = .ok (.invokevirtual 84, 3) := by decide +kernel
theorem dX9_as_21 : decode cX9_as 21 = .ok (.ireturn, 1) := by decide +kernel
theorem dX9_thrown_0 : decode cX9_thrown 0 = .ok (.aload_n 0, 1) := by decide +kernel
theorem dX9_thrown_1 : decode cX9_thrown 1 = .ok (.iload_n 1, 1) := by decide +kernel
theorem dX9_thrown_2 : decode cX9_thrown 2 = .ok (.invokevirtual 93, 3) := by decide +kernel
theorem dX9_thrown_5 : decode cX9_thrown 5 = .ok (.ifCond .eq 31, 3) := by decide +kernel
theorem dX9_thrown_36 : decode cX9_thrown 36 = .ok (.aload_n 0, 1) := by decide +kernel
theorem dX9_thrown_37 : decode cX9_thrown 37 = .ok (.ldc 74, 2) := by decide +kernel
theorem dX9_thrown_39 : decode cX9_thrown 39 = .ok (.invokevirtual 84, 3) := by decide +kernel
theorem dX9_thrown_42 : decode cX9_thrown 42 = .ok (.ireturn, 1) := by decide +kernel
theorem dX9_shadow_0 : decode cX9_shadow 0 = .ok (.aload_n 0, 1) := by decide +kernel
theorem dX9_shadow_1 : decode cX9_shadow 1 = .ok (.iload_n 1, 1) := by decide +kernel
theorem dX9_shadow_2 : decode cX9_shadow 2 = .ok (.invokevirtual 93, 3) := by decide +kernel
theorem dX9_shadow_5 : decode cX9_shadow 5 = .ok (.ifCond .eq 19, 3) := by decide +kernel
theorem dX9_shadow_24 : decode cX9_shadow 24 = .ok (.aload_n 0, 1) := by decide +kernel
theorem dX9_shadow_25 : decode cX9_shadow 25 = .ok (.ldc 74, 2) := by decide +kernel
theorem dX9_shadow_27 : decode cX9_shadow 27 = .ok (.invokevirtual 84, 3) := by decide +kernel
theorem dX9_shadow_30 : decode cX9_shadow 30 = .ok (.i2l, 1) := by decide +kernel
theorem dX9_shadow_31 : decode cX9_shadow 31 = .ok (.lreturn, 1) := by decide +kernel
theorem dX9_hold_0 : decode cX9_hold 0 = .ok (.aload_n 0, 1) := by decide +kernel
theorem dX9_hold_1 : decode cX9_hold 1 = .ok (.iload_n 1, 1) := by decide +kernel
theorem dX9_hold_2 : decode cX9_hold 2 = .ok (.invokevirtual 93, 3) := by decide +kernel
theorem dX9_hold_5 : decode cX9_hold 5 = .ok (.ifCond .eq 10, 3) := by decide +kernel
theorem dX9_hold_15 : decode cX9_hold 15 = .ok (.aload_n 0, 1) := by decide +kernel
theorem dX9_hold_16 : decode cX9_hold 16 = .ok (.ldc 74, 2) := by decide +kernel
theorem dX9_hold_18 : decode cX9_hold 18 = .ok (.invokevirtual 84, 3) := by decide +kernel
theorem dX9_hold_21 : decode cX9_hold 21 = .ok (.ireturn, 1) := by decide +kernel
theorem dX9_move_0 : decode cX9_move 0 = .ok (.aload_n 0, 1) := by decide +kernel
theorem dX9_move_1 : decode cX9_move 1 = .ok (.iload_n 1, 1) := by decide +kernel
theorem dX9_move_2 : decode cX9_move 2 = .ok (.invokevirtual 93, 3) := by decide +kernel
theorem dX9_move_5 : decode cX9_move 5 = .ok (.ifCond .eq 10, 3) := by decide +kernel
theorem dX9_move_15 : decode cX9_move 15 = .ok (.aload_n 0, 1) := by decide +kernel
theorem dX9_move_16 : decode cX9_move 16 = .ok (.ldc 74, 2) := by decide +kernel
theorem dX9_move_18 : decode cX9_move 18 = .ok (.invokevirtual 84, 3) := by decide +kernel
theorem dX9_move_21 : decode cX9_move 21 = .ok (.ireturn, 1) := by decide +kernel
theorem dX9_drop_0 : decode cX9_drop 0 = .ok (.aload_n 0, 1) := by decide +kernel
theorem dX9_drop_1 : decode cX9_drop 1 = .ok (.iload_n 1, 1) := by decide +kernel
theorem dX9_drop_2 : decode cX9_drop 2 = .ok (.invokevirtual 93, 3) := by decide +kernel
theorem dX9_drop_5 : decode cX9_drop 5 = .ok (.ifCond .ne 10, 3) := by decide +kernel
theorem dX9_drop_8 : decode cX9_drop 8 = .ok (.aload_n 0, 1) := by decide +kernel
theorem dX9_drop_9 : decode cX9_drop 9 = .ok (.ldc 74, 2) := by decide +kernel
theorem dX9_drop_11 : decode cX9_drop 11 = .ok (.invokevirtual 84, 3) := by decide +kernel
theorem dX9_drop_14 : decode cX9_drop 14 = .ok (.ireturn, 1) := by decide +kernel
theorem dX9_held_0 : decode cX9_held 0 = .ok (.iload_n 1, 1) := by decide +kernel
theorem dX9_held_1 : decode cX9_held 1 = .ok (.iconst 0, 1) := by decide +kernel
theorem dX9_held_2 : decode cX9_held 2 = .ok (.iconst 3, 1) := by decide +kernel
theorem dX9_held_3 : decode cX9_held 3 = .ok (.invokestatic 75, 3) := by decide +kernel
theorem dX9_held_6 : decode cX9_held 6 = .ok (.ifCond .eq 33, 3) := by decide +kernel
theorem dX9_held_9 : decode cX9_held 9 = .ok (.iload_n 2, 1) := by decide +kernel
theorem dX9_held_10 : decode cX9_held 10 = .ok (.iconst 0, 1) := by decide +kernel
theorem dX9_held_11 : decode cX9_held 11 = .ok (.iconst 1, 1) := by decide +kernel
theorem dX9_held_12 : decode cX9_held 12 = .ok (.invokestatic 75, 3) := by decide +kernel
theorem dX9_held_15 : decode cX9_held 15 = .ok (.ifCond .eq 24, 3) := by decide +kernel
theorem dX9_held_18 : decode cX9_held 18 = .ok (.aload_n 0, 1) := by decide +kernel
theorem dX9_held_19 : decode cX9_held 19 = .ok (.getfield 9, 3) := by decide +kernel
theorem dX9_held_22 : decode cX9_held 22 = .ok (.iload_n 2, 1) := by decide +kernel
theorem dX9_held_23 : decode cX9_held 23 = .ok (.ifCond .ne 8, 3) := by decide +kernel
theorem dX9_held_26 : decode cX9_held 26 = .ok (.bipush 30, 2) := by decide +kernel
theorem dX9_held_28 : decode cX9_held 28 = .ok (.goto 5, 3) := by decide +kernel
theorem dX9_held_31 : decode cX9_held 31 = .ok (.bipush 34, 2) := by decide +kernel
theorem dX9_held_33 : decode cX9_held 33 = .ok (.iload_n 1, 1) := by decide +kernel
theorem dX9_held_34 : decode cX9_held 34 = .ok (.iadd, 1) := by decide +kernel
theorem dX9_held_35 : decode cX9_held 35 = .ok (.iaload, 1) := by decide +kernel
theorem dX9_held_36 : decode cX9_held 36 = .ok (.goto 9, 3) := by decide +kernel
theorem dX9_held_39 : decode cX9_held 39 = .ok (.aload_n 0, 1) := by decide +kernel
theorem dX9_held_40 : decode cX9_held 40 = .ok (.ldc 74, 2) := by decide +kernel
theorem dX9_held_42 : decode cX9_held 42 = .ok (.invokevirtual 84, 3) := by decide +kernel
theorem dX9_held_45 : decode cX9_held 45 = .ok (.ireturn, 1) := by decide +kernel
theorem dX9_shadowIn_0 : decode cX9_shadowIn 0 = .ok (.aload_n 0, 1) := by decide +kernel
theorem dX9_shadowIn_1 : decode cX9_shadowIn 1 = .ok (.getfield 9, 3) := by decide +kernel
theorem dX9_shadowIn_4 : decode cX9_shadowIn 4 = .ok (.bipush 30, 2) := by decide +kernel
theorem dX9_shadowIn_6 : decode cX9_shadowIn 6 = .ok (.iload_n 1, 1) := by decide +kernel
theorem dX9_shadowIn_7 : decode cX9_shadowIn 7 = .ok (.iadd, 1) := by decide +kernel
theorem dX9_shadowIn_8 : decode cX9_shadowIn 8 = .ok (.iaload, 1) := by decide +kernel
theorem dX9_shadowIn_9 : decode cX9_shadowIn 9 = .ok (.istore_n 2, 1) := by decide +kernel
theorem dX9_shadowIn_10 : decode cX9_shadowIn 10 = .ok (.iload_n 2, 1) := by decide +kernel
theorem dX9_shadowIn_11 : decode cX9_shadowIn 11 = .ok (.ifCond .lt 13, 3) := by decide +kernel
theorem dX9_shadowIn_24 : decode cX9_shadowIn 24 = .ok (.lconst 0, 1) := by decide +kernel
theorem dX9_shadowIn_25 : decode cX9_shadowIn 25 = .ok (.goto 17, 3) := by decide +kernel
theorem dX9_shadowIn_42 : decode cX9_shadowIn 42 = .ok (.lreturn, 1) := by decide +kernel
theorem dX9_darkBut_0 : decode cX9_darkBut 0 = .ok (.lconst 0, 1) := by decide +kernel
theorem dX9_darkBut_1 : decode cX9_darkBut 1 = .ok (.lstore_n 2, 1) := by decide +kernel
theorem dX9_darkBut_2 : decode cX9_darkBut 2 = .ok (.iconst 0, 1) := by decide +kernel
theorem dX9_darkBut_3 : decode cX9_darkBut 3 = .ok (.istore 4, 2) := by decide +kernel
theorem dX9_darkBut_5 : decode cX9_darkBut 5 = .ok (.iload 4, 2) := by decide +kernel
theorem dX9_darkBut_7 : decode cX9_darkBut 7 = .ok (.iconst 4, 1) := by decide +kernel
theorem dX9_darkBut_8 : decode cX9_darkBut 8 = .ok (.if_icmp .ge 28, 3) := by decide +kernel
theorem dX9_darkBut_11 : decode cX9_darkBut 11 = .ok (.lload_n 2, 1) := by decide +kernel
theorem dX9_darkBut_12 : decode cX9_darkBut 12 = .ok (.iload 4, 2) := by decide +kernel
theorem dX9_darkBut_14 : decode cX9_darkBut 14 = .ok (.iload_n 1, 1) := by decide +kernel
theorem dX9_darkBut_15 : decode cX9_darkBut 15 = .ok (.if_icmp .ne 7, 3) := by decide +kernel
theorem dX9_darkBut_18 : decode cX9_darkBut 18 = .ok (.lconst 0, 1) := by decide +kernel
theorem dX9_darkBut_19 : decode cX9_darkBut 19 = .ok (.goto 9, 3) := by decide +kernel
theorem dX9_darkBut_22 : decode cX9_darkBut 22 = .ok (.aload_n 0, 1) := by decide +kernel
theorem dX9_darkBut_23 : decode cX9_darkBut 23 = .ok (.iload 4, 2) := by decide +kernel
theorem dX9_darkBut_25 : decode cX9_darkBut 25 = .ok (.invokevirtual 137, 3) := by decide +kernel
theorem dX9_darkBut_28 : decode cX9_darkBut 28 = .ok (.lor, 1) := by decide +kernel
theorem dX9_darkBut_29 : decode cX9_darkBut 29 = .ok (.lstore_n 2, 1) := by decide +kernel
theorem dX9_darkBut_30 : decode cX9_darkBut 30 = .ok (.iinc 4 1, 3) := by decide +kernel
theorem dX9_darkBut_33 : decode cX9_darkBut 33 = .ok (.goto (-28), 3) := by decide +kernel
theorem dX9_darkBut_36 : decode cX9_darkBut 36 = .ok (.lload_n 2, 1) := by decide +kernel
theorem dX9_darkBut_37 : decode cX9_darkBut 37 = .ok (.lreturn, 1) := by decide +kernel
theorem dX9_dark_0 : decode cX9_dark 0 = .ok (.aload_n 0, 1) := by decide +kernel
theorem dX9_dark_1 : decode cX9_dark 1 = .ok (.iconst (-1), 1) := by decide +kernel
theorem dX9_dark_2 : decode cX9_dark 2 = .ok (.invokevirtual 141, 3) := by decide +kernel
theorem dX9_dark_5 : decode cX9_dark 5 = .ok (.lreturn, 1) := by decide +kernel
theorem dX9_single_0 : decode cX9_single 0 = .ok (.lconst 0, 1) := by decide +kernel
theorem dX9_single_1 : decode cX9_single 1 = .ok (.lstore_n 1, 1) := by decide +kernel
theorem dX9_single_2 : decode cX9_single 2 = .ok (.iconst 0, 1) := by decide +kernel
theorem dX9_single_3 : decode cX9_single 3 = .ok (.istore_n 3, 1) := by decide +kernel
theorem dX9_single_4 : decode cX9_single 4 = .ok (.iload_n 3, 1) := by decide +kernel
theorem dX9_single_5 : decode cX9_single 5 = .ok (.iconst 4, 1) := by decide +kernel
theorem dX9_single_6 : decode cX9_single 6 = .ok (.if_icmp .ge 27, 3) := by decide +kernel
theorem dX9_single_9 : decode cX9_single 9 = .ok (.lload_n 1, 1) := by decide +kernel
theorem dX9_single_10 : decode cX9_single 10 = .ok (.aload_n 0, 1) := by decide +kernel
theorem dX9_single_11 : decode cX9_single 11 = .ok (.iload_n 3, 1) := by decide +kernel
theorem dX9_single_12 : decode cX9_single 12 = .ok (.invokevirtual 137, 3) := by decide +kernel
theorem dX9_single_15 : decode cX9_single 15 = .ok (.aload_n 0, 1) := by decide +kernel
theorem dX9_single_16 : decode cX9_single 16 = .ok (.iload_n 3, 1) := by decide +kernel
theorem dX9_single_17 : decode cX9_single 17 = .ok (.invokevirtual 141, 3) := by decide +kernel
theorem dX9_single_20 : decode cX9_single 20 = .ok (.ldc2_w 144, 3) := by decide +kernel
theorem dX9_single_23 : decode cX9_single 23 = .ok (.lxor, 1) := by decide +kernel
theorem dX9_single_24 : decode cX9_single 24 = .ok (.land, 1) := by decide +kernel
theorem dX9_single_25 : decode cX9_single 25 = .ok (.lor, 1) := by decide +kernel
theorem dX9_single_26 : decode cX9_single 26 = .ok (.lstore_n 1, 1) := by decide +kernel
theorem dX9_single_27 : decode cX9_single 27 = .ok (.iinc 3 1, 3) := by decide +kernel
theorem dX9_single_30 : decode cX9_single 30 = .ok (.goto (-26), 3) := by decide +kernel
theorem dX9_single_33 : decode cX9_single 33 = .ok (.lload_n 1, 1) := by decide +kernel
theorem dX9_single_34 : decode cX9_single 34 = .ok (.lreturn, 1) := by decide +kernel
theorem dX9_spare_0 : decode cX9_spare 0 = .ok (.aload_n 0, 1) := by decide +kernel
theorem dX9_spare_1 : decode cX9_spare 1 = .ok (.invokevirtual 146, 3) := by decide +kernel
theorem dX9_spare_4 : decode cX9_spare 4 = .ok (.lstore_n 1, 1) := by decide +kernel
theorem dX9_spare_5 : decode cX9_spare 5 = .ok (.iconst 0, 1) := by decide +kernel
theorem dX9_spare_6 : decode cX9_spare 6 = .ok (.istore_n 3, 1) := by decide +kernel
theorem dX9_spare_7 : decode cX9_spare 7 = .ok (.iload_n 3, 1) := by decide +kernel
theorem dX9_spare_8 : decode cX9_spare 8 = .ok (.aload_n 0, 1) := by decide +kernel
theorem dX9_spare_9 : decode cX9_spare 9 = .ok (.getfield 9, 3) := by decide +kernel
theorem dX9_spare_12 : decode cX9_spare 12 = .ok (.iconst 0, 1) := by decide +kernel
theorem dX9_spare_13 : decode cX9_spare 13 = .ok (.iaload, 1) := by decide +kernel
theorem dX9_spare_14 : decode cX9_spare 14 = .ok (.if_icmp .ge 43, 3) := by decide +kernel
theorem dX9_spare_57 : decode cX9_spare 57 = .ok (.aload_n 0, 1) := by decide +kernel
theorem dX9_spare_58 : decode cX9_spare 58 = .ok (.ldc 150, 2) := by decide +kernel
theorem dX9_spare_60 : decode cX9_spare 60 = .ok (.invokevirtual 84, 3) := by decide +kernel
theorem dX9_spare_63 : decode cX9_spare 63 = .ok (.ireturn, 1) := by decide +kernel
theorem dX9_isScene_0 : decode cX9_isScene 0 = .ok (.iload_n 1, 1) := by decide +kernel
theorem dX9_isScene_1 : decode cX9_isScene 1 = .ok (.iconst 0, 1) := by decide +kernel
theorem dX9_isScene_2 : decode cX9_isScene 2 = .ok (.aload_n 0, 1) := by decide +kernel
theorem dX9_isScene_3 : decode cX9_isScene 3 = .ok (.getfield 9, 3) := by decide +kernel
theorem dX9_isScene_6 : decode cX9_isScene 6 = .ok (.iconst 1, 1) := by decide +kernel
theorem dX9_isScene_7 : decode cX9_isScene 7 = .ok (.iaload, 1) := by decide +kernel
theorem dX9_isScene_8 : decode cX9_isScene 8 = .ok (.iconst 1, 1) := by decide +kernel
theorem dX9_isScene_9 : decode cX9_isScene 9 = .ok (.isub, 1) := by decide +kernel
theorem dX9_isScene_10 : decode cX9_isScene 10 = .ok (.invokestatic 75, 3) := by decide +kernel
theorem dX9_isScene_13 : decode cX9_isScene 13 = .ok (.ireturn, 1) := by decide +kernel
theorem dX9_painted_0 : decode cX9_painted 0 = .ok (.aload_n 0, 1) := by decide +kernel
theorem dX9_painted_1 : decode cX9_painted 1 = .ok (.getfield 16, 3) := by decide +kernel
theorem dX9_painted_4 : decode cX9_painted 4 = .ok (.aload_n 0, 1) := by decide +kernel
theorem dX9_painted_5 : decode cX9_painted 5 = .ok (.getfield 9, 3) := by decide +kernel
theorem dX9_painted_8 : decode cX9_painted 8 = .ok (.iconst 1, 1) := by decide +kernel
theorem dX9_painted_9 : decode cX9_painted 9 = .ok (.iaload, 1) := by decide +kernel
theorem dX9_painted_10 : decode cX9_painted 10 = .ok (.lload_n 1, 1) := by decide +kernel
theorem dX9_painted_11 : decode cX9_painted 11 = .ok (.lastore, 1) := by decide +kernel
theorem dX9_painted_12 : decode cX9_painted 12 = .ok (.aload_n 0, 1) := by decide +kernel
theorem dX9_painted_13 : decode cX9_painted 13 = .ok (.getfield 9, 3) := by decide +kernel
theorem dX9_painted_16 : decode cX9_painted 16 = .ok (.iconst 1, 1) := by decide +kernel
theorem dX9_painted_17 : decode cX9_painted 17 = .ok (.dup2, 1) := by decide +kernel
theorem dX9_painted_18 : decode cX9_painted 18 = .ok (.iaload, 1) := by decide +kernel
theorem dX9_painted_19 : decode cX9_painted 19 = .ok (.iconst 1, 1) := by decide +kernel
theorem dX9_painted_20 : decode cX9_painted 20 = .ok (.iadd, 1) := by decide +kernel
theorem dX9_painted_21 : decode cX9_painted 21 = .ok (.iastore, 1) := by decide +kernel
theorem dX9_painted_22 : decode cX9_painted 22 = .ok (.aload_n 0, 1) := by decide +kernel
theorem dX9_painted_23 : decode cX9_painted 23 = .ok (.getfield 9, 3) := by decide +kernel
theorem dX9_painted_26 : decode cX9_painted 26 = .ok (.iconst 1, 1) := by decide +kernel
theorem dX9_painted_27 : decode cX9_painted 27 = .ok (.iaload, 1) := by decide +kernel
theorem dX9_painted_28 : decode cX9_painted 28 = .ok (.iconst 1, 1) := by decide +kernel
theorem dX9_painted_29 : decode cX9_painted 29 = .ok (.isub, 1) := by decide +kernel
theorem dX9_painted_30 : decode cX9_painted 30 = .ok (.ireturn, 1) := by decide +kernel
theorem dX9_scene_0 : decode cX9_scene 0 = .ok (.aload_n 0, 1) := by decide +kernel
theorem dX9_scene_1 : decode cX9_scene 1 = .ok (.getfield 9, 3) := by decide +kernel
theorem dX9_scene_4 : decode cX9_scene 4 = .ok (.iconst 1, 1) := by decide +kernel
theorem dX9_scene_5 : decode cX9_scene 5 = .ok (.iaload, 1) := by decide +kernel
theorem dX9_scene_6 : decode cX9_scene 6 = .ok (.bipush 7, 2) := by decide +kernel
theorem dX9_scene_8 : decode cX9_scene 8 = .ok (.if_icmp .ne 12, 3) := by decide +kernel
theorem dX9_scene_20 : decode cX9_scene 20 = .ok (.aload_n 0, 1) := by decide +kernel
theorem dX9_scene_21 : decode cX9_scene 21 = .ok (.lload_n 1, 1) := by decide +kernel
theorem dX9_scene_22 : decode cX9_scene 22 = .ok (.invokevirtual 151, 3) := by decide +kernel
theorem dX9_scene_25 : decode cX9_scene 25 = .ok (.ireturn, 1) := by decide +kernel
theorem dX9_draw_0 : decode cX9_draw 0 = .ok (.aload_n 0, 1) := by decide +kernel
theorem dX9_draw_1 : decode cX9_draw 1 = .ok (.iload_n 1, 1) := by decide +kernel
theorem dX9_draw_2 : decode cX9_draw 2 = .ok (.invokevirtual 155, 3) := by decide +kernel
theorem dX9_draw_5 : decode cX9_draw 5 = .ok (.ifCond .ne 10, 3) := by decide +kernel
theorem dX9_draw_8 : decode cX9_draw 8 = .ok (.aload_n 0, 1) := by decide +kernel
theorem dX9_draw_9 : decode cX9_draw 9 = .ok (.ldc 74, 2) := by decide +kernel
theorem dX9_draw_11 : decode cX9_draw 11 = .ok (.invokevirtual 84, 3) := by decide +kernel
theorem dX9_draw_14 : decode cX9_draw 14 = .ok (.ireturn, 1) := by decide +kernel
theorem dX9_picture_0 : decode cX9_picture 0 = .ok (.aload_n 0, 1) := by decide +kernel
theorem dX9_picture_1 : decode cX9_picture 1 = .ok (.iload_n 1, 1) := by decide +kernel
theorem dX9_picture_2 : decode cX9_picture 2 = .ok (.invokevirtual 155, 3) := by decide +kernel
theorem dX9_picture_5 : decode cX9_picture 5 = .ok (.ifCond .eq 12, 3) := by decide +kernel
theorem dX9_picture_17 : decode cX9_picture 17 = .ok (.aload_n 0, 1) := by decide +kernel
theorem dX9_picture_18 : decode cX9_picture 18 = .ok (.ldc 74, 2) := by decide +kernel
theorem dX9_picture_20 : decode cX9_picture 20 = .ok (.invokevirtual 84, 3) := by decide +kernel
theorem dX9_picture_23 : decode cX9_picture 23 = .ok (.i2l, 1) := by decide +kernel
theorem dX9_picture_24 : decode cX9_picture 24 = .ok (.lreturn, 1) := by decide +kernel
theorem dX9_off_0 : decode cX9_off 0 = .ok (.aload_n 0, 1) := by decide +kernel
theorem dX9_off_1 : decode cX9_off 1 = .ok (.iload_n 1, 1) := by decide +kernel
theorem dX9_off_2 : decode cX9_off 2 = .ok (.invokevirtual 155, 3) := by decide +kernel
theorem dX9_off_5 : decode cX9_off 5 = .ok (.ifCond .eq 20, 3) := by decide +kernel
theorem dX9_off_25 : decode cX9_off 25 = .ok (.aload_n 0, 1) := by decide +kernel
theorem dX9_off_26 : decode cX9_off 26 = .ok (.ldc 74, 2) := by decide +kernel
theorem dX9_off_28 : decode cX9_off 28 = .ok (.invokevirtual 84, 3) := by decide +kernel
theorem dX9_off_31 : decode cX9_off 31 = .ok (.ireturn, 1) := by decide +kernel
theorem dX9_changes_0 : decode cX9_changes 0 = .ok (.aload_n 0, 1) := by decide +kernel
theorem dX9_changes_1 : decode cX9_changes 1 = .ok (.iload_n 1, 1) := by decide +kernel
theorem dX9_changes_2 : decode cX9_changes 2 = .ok (.invokevirtual 155, 3) := by decide +kernel
theorem dX9_changes_5 : decode cX9_changes 5 = .ok (.ifCond .eq 20, 3) := by decide +kernel
theorem dX9_changes_25 : decode cX9_changes 25 = .ok (.aload_n 0, 1) := by decide +kernel
theorem dX9_changes_26 : decode cX9_changes 26 = .ok (.ldc 74, 2) := by decide +kernel
theorem dX9_changes_28 : decode cX9_changes 28 = .ok (.invokevirtual 84, 3) := by decide +kernel
theorem dX9_changes_31 : decode cX9_changes 31 = .ok (.ireturn, 1) := by decide +kernel
theorem dX9_allow_0 : decode cX9_allow 0 = .ok (.iload_n 1, 1) := by decide +kernel
theorem dX9_allow_1 : decode cX9_allow 1 = .ok (.iconst 0, 1) := by decide +kernel
theorem dX9_allow_2 : decode cX9_allow 2 = .ok (.bipush 63, 2) := by decide +kernel
theorem dX9_allow_4 : decode cX9_allow 4 = .ok (.invokestatic 75, 3) := by decide +kernel
theorem dX9_allow_7 : decode cX9_allow 7 = .ok (.ifCond .eq 25, 3) := by decide +kernel
theorem dX9_allow_10 : decode cX9_allow 10 = .ok (.iload_n 1, 1) := by decide +kernel
theorem dX9_allow_11 : decode cX9_allow 11 = .ok (.bipush 15, 2) := by decide +kernel
theorem dX9_allow_13 : decode cX9_allow 13 = .ok (.iand, 1) := by decide +kernel
theorem dX9_allow_14 : decode cX9_allow 14 = .ok (.ifCond .le 18, 3) := by decide +kernel
theorem dX9_allow_17 : decode cX9_allow 17 = .ok (.iload_n 1, 1) := by decide +kernel
theorem dX9_allow_18 : decode cX9_allow 18 = .ok (.bipush 15, 2) := by decide +kernel
theorem dX9_allow_20 : decode cX9_allow 20 = .ok (.if_icmp .le 12, 3) := by decide +kernel
theorem dX9_allow_23 : decode cX9_allow 23 = .ok (.aload_n 0, 1) := by decide +kernel
theorem dX9_allow_24 : decode cX9_allow 24 = .ok (.iconst 2, 1) := by decide +kernel
theorem dX9_allow_25 : decode cX9_allow 25 = .ok (.iload_n 1, 1) := by decide +kernel
theorem dX9_allow_26 : decode cX9_allow 26 = .ok (.invokevirtual 102, 3) := by decide +kernel
theorem dX9_allow_29 : decode cX9_allow 29 = .ok (.goto 9, 3) := by decide +kernel
theorem dX9_allow_32 : decode cX9_allow 32 = .ok (.aload_n 0, 1) := by decide +kernel
theorem dX9_allow_33 : decode cX9_allow 33 = .ok (.ldc 74, 2) := by decide +kernel
theorem dX9_allow_35 : decode cX9_allow 35 = .ok (.invokevirtual 84, 3) := by decide +kernel
theorem dX9_allow_38 : decode cX9_allow 38 = .ok (.ireturn, 1) := by decide +kernel
theorem dX9_nearest_0 : decode cX9_nearest 0 = .ok (.aload_n 0, 1) := by decide +kernel
theorem dX9_nearest_1 : decode cX9_nearest 1 = .ok (.iload_n 1, 1) := by decide +kernel
theorem dX9_nearest_2 : decode cX9_nearest 2 = .ok (.invokevirtual 93, 3) := by decide +kernel
theorem dX9_nearest_5 : decode cX9_nearest 5 = .ok (.ifCond .eq 20, 3) := by decide +kernel
theorem dX9_nearest_25 : decode cX9_nearest 25 = .ok (.aload_n 0, 1) := by decide +kernel
theorem dX9_nearest_26 : decode cX9_nearest 26 = .ok (.ldc 74, 2) := by decide +kernel
theorem dX9_nearest_28 : decode cX9_nearest 28 = .ok (.invokevirtual 84, 3) := by decide +kernel
theorem dX9_nearest_31 : decode cX9_nearest 31 = .ok (.ireturn, 1) := by decide +kernel
theorem dX9_best_0 : decode cX9_best 0 = .ok (.aload_n 0, 1) := by decide +kernel
theorem dX9_best_1 : decode cX9_best 1 = .ok (.iload_n 1, 1) := by decide +kernel
theorem dX9_best_2 : decode cX9_best 2 = .ok (.invokevirtual 155, 3) := by decide +kernel
theorem dX9_best_5 : decode cX9_best 5 = .ok (.ifCond .ne 10, 3) := by decide +kernel
theorem dX9_best_8 : decode cX9_best 8 = .ok (.aload_n 0, 1) := by decide +kernel
theorem dX9_best_9 : decode cX9_best 9 = .ok (.ldc 74, 2) := by decide +kernel
theorem dX9_best_11 : decode cX9_best 11 = .ok (.invokevirtual 84, 3) := by decide +kernel
theorem dX9_best_14 : decode cX9_best 14 = .ok (.ireturn, 1) := by decide +kernel
theorem dX9_play_0 : decode cX9_play 0 = .ok (.aload_n 0, 1) := by decide +kernel
theorem dX9_play_1 : decode cX9_play 1 = .ok (.iload_n 1, 1) := by decide +kernel
theorem dX9_play_2 : decode cX9_play 2 = .ok (.invokevirtual 155, 3) := by decide +kernel
theorem dX9_play_5 : decode cX9_play 5 = .ok (.ifCond .ne 10, 3) := by decide +kernel
theorem dX9_play_8 : decode cX9_play 8 = .ok (.aload_n 0, 1) := by decide +kernel
theorem dX9_play_9 : decode cX9_play 9 = .ok (.ldc 74, 2) := by decide +kernel
theorem dX9_play_11 : decode cX9_play 11 = .ok (.invokevirtual 84, 3) := by decide +kernel
theorem dX9_play_14 : decode cX9_play 14 = .ok (.ireturn, 1) := by decide +kernel
theorem dX9_fits_0 : decode cX9_fits 0 = .ok (.aload_n 0, 1) := by decide +kernel
theorem dX9_fits_1 : decode cX9_fits 1 = .ok (.iload_n 1, 1) := by decide +kernel
theorem dX9_fits_2 : decode cX9_fits 2 = .ok (.invokevirtual 93, 3) := by decide +kernel
theorem dX9_fits_5 : decode cX9_fits 5 = .ok (.ifCond .eq 11, 3) := by decide +kernel
theorem dX9_fits_16 : decode cX9_fits 16 = .ok (.aload_n 0, 1) := by decide +kernel
theorem dX9_fits_17 : decode cX9_fits 17 = .ok (.ldc 74, 2) := by decide +kernel
theorem dX9_fits_19 : decode cX9_fits 19 = .ok (.invokevirtual 84, 3) := by decide +kernel
theorem dX9_fits_22 : decode cX9_fits 22 = .ok (.ireturn, 1) := by decide +kernel
theorem dX9_taken_0 : decode cX9_taken 0 = .ok (.aload_n 0, 1) := by decide +kernel
theorem dX9_taken_1 : decode cX9_taken 1 = .ok (.iload_n 1, 1) := by decide +kernel
theorem dX9_taken_2 : decode cX9_taken 2 = .ok (.invokevirtual 155, 3) := by decide +kernel
theorem dX9_taken_5 : decode cX9_taken 5 = .ok (.ifCond .eq 13, 3) := by decide +kernel
theorem dX9_taken_18 : decode cX9_taken 18 = .ok (.aload_n 0, 1) := by decide +kernel
theorem dX9_taken_19 : decode cX9_taken 19 = .ok (.ldc 74, 2) := by decide +kernel
theorem dX9_taken_21 : decode cX9_taken 21 = .ok (.invokevirtual 84, 3) := by decide +kernel
theorem dX9_taken_24 : decode cX9_taken 24 = .ok (.ireturn, 1) := by decide +kernel
theorem dX9_seen_0 : decode cX9_seen 0 = .ok (.iconst (-1), 1) := by decide +kernel
theorem dX9_seen_1 : decode cX9_seen 1 = .ok (.istore_n 1, 1) := by decide +kernel
theorem dX9_seen_2 : decode cX9_seen 2 = .ok (.bipush 65, 2) := by decide +kernel
theorem dX9_seen_4 : decode cX9_seen 4 = .ok (.istore_n 2, 1) := by decide +kernel
theorem dX9_seen_5 : decode cX9_seen 5 = .ok (.iconst 0, 1) := by decide +kernel
theorem dX9_seen_6 : decode cX9_seen 6 = .ok (.istore_n 3, 1) := by decide +kernel
theorem dX9_seen_7 : decode cX9_seen 7 = .ok (.iload_n 3, 1) := by decide +kernel
theorem dX9_seen_8 : decode cX9_seen 8 = .ok (.aload_n 0, 1) := by decide +kernel
theorem dX9_seen_9 : decode cX9_seen 9 = .ok (.getfield 9, 3) := by decide +kernel
theorem dX9_seen_12 : decode cX9_seen 12 = .ok (.iconst 1, 1) := by decide +kernel
theorem dX9_seen_13 : decode cX9_seen 13 = .ok (.iaload, 1) := by decide +kernel
theorem dX9_seen_14 : decode cX9_seen 14 = .ok (.if_icmp .ge 44, 3) := by decide +kernel
theorem dX9_seen_58 : decode cX9_seen 58 = .ok (.iload_n 1, 1) := by decide +kernel
theorem dX9_seen_59 : decode cX9_seen 59 = .ok (.ifCond .ge 12, 3) := by decide +kernel
theorem dX9_seen_62 : decode cX9_seen 62 = .ok (.aload_n 0, 1) := by decide +kernel
theorem dX9_seen_63 : decode cX9_seen 63 = .ok (.ldc 150, 2) := by decide +kernel
theorem dX9_seen_65 : decode cX9_seen 65 = .ok (.invokevirtual 84, 3) := by decide +kernel
theorem dX9_seen_68 : decode cX9_seen 68 = .ok (.goto 4, 3) := by decide +kernel
theorem dX9_seen_72 : decode cX9_seen 72 = .ok (.ireturn, 1) := by decide +kernel
theorem dX9_goOn_0 : decode cX9_goOn 0 = .ok (.iload_n 1, 1) := by decide +kernel
theorem dX9_goOn_1 : decode cX9_goOn 1 = .ok (.aload_n 0, 1) := by decide +kernel
theorem dX9_goOn_2 : decode cX9_goOn 2 = .ok (.getfield 9, 3) := by decide +kernel
theorem dX9_goOn_5 : decode cX9_goOn 5 = .ok (.iconst 1, 1) := by decide +kernel
theorem dX9_goOn_6 : decode cX9_goOn 6 = .ok (.iaload, 1) := by decide +kernel
theorem dX9_goOn_7 : decode cX9_goOn 7 = .ok (.if_icmp .ne 53, 3) := by decide +kernel
theorem dX9_goOn_10 : decode cX9_goOn 10 = .ok (.aload_n 0, 1) := by decide +kernel
theorem dX9_goOn_11 : decode cX9_goOn 11 = .ok (.getfield 180, 3) := by decide +kernel
theorem dX9_goOn_14 : decode cX9_goOn 14 = .ok (.ifCond .lt 11, 3) := by decide +kernel
theorem dX9_goOn_25 : decode cX9_goOn 25 = .ok (.aload_n 0, 1) := by decide +kernel
theorem dX9_goOn_26 : decode cX9_goOn 26 = .ok (.iload_n 3, 1) := by decide +kernel
theorem dX9_goOn_27 : decode cX9_goOn 27 = .ok (.putfield 180, 3) := by decide +kernel
theorem dX9_goOn_30 : decode cX9_goOn 30 = .ok (.iconst 0, 1) := by decide +kernel
theorem dX9_goOn_31 : decode cX9_goOn 31 = .ok (.istore 4, 2) := by decide +kernel
theorem dX9_goOn_33 : decode cX9_goOn 33 = .ok (.iload 4, 2) := by decide +kernel
theorem dX9_goOn_35 : decode cX9_goOn 35 = .ok (.iload_n 1, 1) := by decide +kernel
theorem dX9_goOn_36 : decode cX9_goOn 36 = .ok (.if_icmp .ge 23, 3) := by decide +kernel
theorem dX9_goOn_59 : decode cX9_goOn 59 = .ok (.return_, 1) := by decide +kernel
theorem dX9_order_0 : decode cX9_order 0 = .ok (.iload_n 1, 1) := by decide +kernel
theorem dX9_order_1 : decode cX9_order 1 = .ok (.iconst (-1), 1) := by decide +kernel
theorem dX9_order_2 : decode cX9_order 2 = .ok (.if_icmp .ge 10, 3) := by decide +kernel
theorem dX9_order_5 : decode cX9_order 5 = .ok (.aload_n 0, 1) := by decide +kernel
theorem dX9_order_6 : decode cX9_order 6 = .ok (.ldc 74, 2) := by decide +kernel
theorem dX9_order_8 : decode cX9_order 8 = .ok (.invokevirtual 84, 3) := by decide +kernel
theorem dX9_order_11 : decode cX9_order 11 = .ok (.ireturn, 1) := by decide +kernel
theorem dX9_order_12 : decode cX9_order 12 = .ok (.aload_n 0, 1) := by decide +kernel
theorem dX9_order_13 : decode cX9_order 13 = .ok (.getfield 9, 3) := by decide +kernel
theorem dX9_order_16 : decode cX9_order 16 = .ok (.iconst 1, 1) := by decide +kernel
theorem dX9_order_17 : decode cX9_order 17 = .ok (.iaload, 1) := by decide +kernel
theorem dX9_order_18 : decode cX9_order 18 = .ok (.bipush 6, 2) := by decide +kernel
theorem dX9_order_20 : decode cX9_order 20 = .ok (.if_icmp .le 10, 3) := by decide +kernel
theorem dX9_order_30 : decode cX9_order 30 = .ok (.iload_n 1, 1) := by decide +kernel
theorem dX9_order_31 : decode cX9_order 31 = .ok (.aload_n 0, 1) := by decide +kernel
theorem dX9_order_32 : decode cX9_order 32 = .ok (.getfield 9, 3) := by decide +kernel
theorem dX9_order_35 : decode cX9_order 35 = .ok (.iconst 1, 1) := by decide +kernel
theorem dX9_order_36 : decode cX9_order 36 = .ok (.iaload, 1) := by decide +kernel
theorem dX9_order_37 : decode cX9_order 37 = .ok (.if_icmp .lt 10, 3) := by decide +kernel
theorem dX9_order_40 : decode cX9_order 40 = .ok (.aload_n 0, 1) := by decide +kernel
theorem dX9_order_41 : decode cX9_order 41 = .ok (.ldc 150, 2) := by decide +kernel
theorem dX9_order_43 : decode cX9_order 43 = .ok (.invokevirtual 84, 3) := by decide +kernel
theorem dX9_order_46 : decode cX9_order 46 = .ok (.ireturn, 1) := by decide +kernel
theorem dX9_order_47 : decode cX9_order 47 = .ok (.aload_n 0, 1) := by decide +kernel
theorem dX9_order_48 : decode cX9_order 48 = .ok (.iconst (-1), 1) := by decide +kernel
theorem dX9_order_49 : decode cX9_order 49 = .ok (.putfield 180, 3) := by decide +kernel
theorem dX9_order_52 : decode cX9_order 52 = .ok (.aload_n 0, 1) := by decide +kernel
theorem dX9_order_53 : decode cX9_order 53 = .ok (.iconst 0, 1) := by decide +kernel
theorem dX9_order_54 : decode cX9_order 54 = .ok (.iconst 0, 1) := by decide +kernel
theorem dX9_order_55 : decode cX9_order 55 = .ok (.iconst 0, 1) := by decide +kernel
theorem dX9_order_56 : decode cX9_order 56 = .ok (.invokevirtual 183, 3) := by decide +kernel
theorem dX9_order_59 : decode cX9_order 59 = .ok (.iload_n 1, 1) := by decide +kernel
theorem dX9_order_60 : decode cX9_order 60 = .ok (.ifCond .ge 10, 3) := by decide +kernel
theorem dX9_order_63 : decode cX9_order 63 = .ok (.aload_n 0, 1) := by decide +kernel
theorem dX9_order_64 : decode cX9_order 64 = .ok (.getfield 180, 3) := by decide +kernel
theorem dX9_order_67 : decode cX9_order 67 = .ok (.goto 9, 3) := by decide +kernel
theorem dX9_order_76 : decode cX9_order 76 = .ok (.ireturn, 1) := by decide +kernel
theorem dX9_closest_0 : decode cX9_closest 0 = .ok (.bipush 65, 2) := by decide +kernel
theorem dX9_closest_2 : decode cX9_closest 2 = .ok (.istore_n 1, 1) := by decide +kernel
theorem dX9_closest_3 : decode cX9_closest 3 = .ok (.iconst 0, 1) := by decide +kernel
theorem dX9_closest_4 : decode cX9_closest 4 = .ok (.istore_n 2, 1) := by decide +kernel
theorem dX9_closest_5 : decode cX9_closest 5 = .ok (.iload_n 2, 1) := by decide +kernel
theorem dX9_closest_6 : decode cX9_closest 6 = .ok (.aload_n 0, 1) := by decide +kernel
theorem dX9_closest_7 : decode cX9_closest 7 = .ok (.getfield 9, 3) := by decide +kernel
theorem dX9_closest_10 : decode cX9_closest 10 = .ok (.iconst 1, 1) := by decide +kernel
theorem dX9_closest_11 : decode cX9_closest 11 = .ok (.iaload, 1) := by decide +kernel
theorem dX9_closest_12 : decode cX9_closest 12 = .ok (.if_icmp .ge 43, 3) := by decide +kernel
theorem dX9_closest_55 : decode cX9_closest 55 = .ok (.iload_n 1, 1) := by decide +kernel
theorem dX9_closest_56 : decode cX9_closest 56 = .ok (.bipush 64, 2) := by decide +kernel
theorem dX9_closest_58 : decode cX9_closest 58 = .ok (.if_icmp .le 12, 3) := by decide +kernel
theorem dX9_closest_61 : decode cX9_closest 61 = .ok (.aload_n 0, 1) := by decide +kernel
theorem dX9_closest_62 : decode cX9_closest 62 = .ok (.ldc 150, 2) := by decide +kernel
theorem dX9_closest_64 : decode cX9_closest 64 = .ok (.invokevirtual 84, 3) := by decide +kernel
theorem dX9_closest_67 : decode cX9_closest 67 = .ok (.goto 4, 3) := by decide +kernel
theorem dX9_closest_71 : decode cX9_closest 71 = .ok (.ireturn, 1) := by decide +kernel
theorem dX9_harmless_0 : decode cX9_harmless 0 = .ok (.iconst 0, 1) := by decide +kernel
theorem dX9_harmless_1 : decode cX9_harmless 1 = .ok (.istore_n 1, 1) := by decide +kernel
theorem dX9_harmless_2 : decode cX9_harmless 2 = .ok (.iconst 0, 1) := by decide +kernel
theorem dX9_harmless_3 : decode cX9_harmless 3 = .ok (.istore_n 2, 1) := by decide +kernel
theorem dX9_harmless_4 : decode cX9_harmless 4 = .ok (.iload_n 2, 1) := by decide +kernel
theorem dX9_harmless_5 : decode cX9_harmless 5 = .ok (.aload_n 0, 1) := by decide +kernel
theorem dX9_harmless_6 : decode cX9_harmless 6 = .ok (.getfield 9, 3) := by decide +kernel
theorem dX9_harmless_9 : decode cX9_harmless 9 = .ok (.iconst 0, 1) := by decide +kernel
theorem dX9_harmless_10 : decode cX9_harmless 10 = .ok (.iaload, 1) := by decide +kernel
theorem dX9_harmless_11 : decode cX9_harmless 11 = .ok (.if_icmp .ge 28, 3) := by decide +kernel
theorem dX9_harmless_39 : decode cX9_harmless 39 = .ok (.aload_n 0, 1) := by decide +kernel
theorem dX9_harmless_40 : decode cX9_harmless 40 = .ok (.getfield 9, 3) := by decide +kernel
theorem dX9_harmless_43 : decode cX9_harmless 43 = .ok (.iconst 1, 1) := by decide +kernel
theorem dX9_harmless_44 : decode cX9_harmless 44 = .ok (.iaload, 1) := by decide +kernel
theorem dX9_harmless_45 : decode cX9_harmless 45 = .ok (.ifCond .eq 7, 3) := by decide +kernel
theorem dX9_harmless_52 : decode cX9_harmless 52 = .ok (.aload_n 0, 1) := by decide +kernel
theorem dX9_harmless_53 : decode cX9_harmless 53 = .ok (.ldc 150, 2) := by decide +kernel
theorem dX9_harmless_55 : decode cX9_harmless 55 = .ok (.invokevirtual 84, 3) := by decide +kernel
theorem dX9_harmless_58 : decode cX9_harmless 58 = .ok (.ireturn, 1) := by decide +kernel
theorem dX9_feed_0 : decode cX9_feed 0 = .ok (.iload_n 2, 1) := by decide +kernel
theorem dX9_feed_1 : decode cX9_feed 1 = .ok (.iconst 1, 1) := by decide +kernel
theorem dX9_feed_2 : decode cX9_feed 2 = .ok (.iconst 4, 1) := by decide +kernel
theorem dX9_feed_3 : decode cX9_feed 3 = .ok (.invokestatic 75, 3) := by decide +kernel
theorem dX9_feed_6 : decode cX9_feed 6 = .ok (.ifCond .ne 10, 3) := by decide +kernel
theorem dX9_feed_9 : decode cX9_feed 9 = .ok (.aload_n 0, 1) := by decide +kernel
theorem dX9_feed_10 : decode cX9_feed 10 = .ok (.ldc 74, 2) := by decide +kernel
theorem dX9_feed_12 : decode cX9_feed 12 = .ok (.invokevirtual 84, 3) := by decide +kernel
theorem dX9_feed_15 : decode cX9_feed 15 = .ok (.ireturn, 1) := by decide +kernel
theorem dX9_feed_16 : decode cX9_feed 16 = .ok (.aload_n 0, 1) := by decide +kernel
theorem dX9_feed_17 : decode cX9_feed 17 = .ok (.getfield 188, 3) := by decide +kernel
theorem dX9_feed_20 : decode cX9_feed 20 = .ok (.iload_n 2, 1) := by decide +kernel
theorem dX9_feed_21 : decode cX9_feed 21 = .ok (.iadd, 1) := by decide +kernel
theorem dX9_feed_22 : decode cX9_feed 22 = .ok (.bipush 120, 2) := by decide +kernel
theorem dX9_feed_24 : decode cX9_feed 24 = .ok (.if_icmp .le 10, 3) := by decide +kernel
theorem dX9_feed_34 : decode cX9_feed 34 = .ok (.iload_n 2, 1) := by decide +kernel
theorem dX9_feed_35 : decode cX9_feed 35 = .ok (.iconst 1, 1) := by decide +kernel
theorem dX9_feed_36 : decode cX9_feed 36 = .ok (.isub, 1) := by decide +kernel
theorem dX9_feed_37 : decode cX9_feed 37 = .ok (.istore_n 3, 1) := by decide +kernel
theorem dX9_feed_38 : decode cX9_feed 38 = .ok (.iload_n 3, 1) := by decide +kernel
theorem dX9_feed_39 : decode cX9_feed 39 = .ok (.ifCond .lt 38, 3) := by decide +kernel
theorem dX9_feed_42 : decode cX9_feed 42 = .ok (.aload_n 0, 1) := by decide +kernel
theorem dX9_feed_43 : decode cX9_feed 43 = .ok (.getfield 32, 3) := by decide +kernel
theorem dX9_feed_46 : decode cX9_feed 46 = .ok (.aload_n 0, 1) := by decide +kernel
theorem dX9_feed_47 : decode cX9_feed 47 = .ok (.getfield 188, 3) := by decide +kernel
theorem dX9_feed_50 : decode cX9_feed 50 = .ok (.iload_n 1, 1) := by decide +kernel
theorem dX9_feed_51 : decode cX9_feed 51 = .ok (.bipush 8, 2) := by decide +kernel
theorem dX9_feed_53 : decode cX9_feed 53 = .ok (.iload_n 3, 1) := by decide +kernel
theorem dX9_feed_54 : decode cX9_feed 54 = .ok (.imul, 1) := by decide +kernel
theorem dX9_feed_55 : decode cX9_feed 55 = .ok (.ishr, 1) := by decide +kernel
theorem dX9_feed_56 : decode cX9_feed 56 = .ok (.sipush 255, 3) := by decide +kernel
theorem dX9_feed_59 : decode cX9_feed 59 = .ok (.iand, 1) := by decide +kernel
theorem dX9_feed_60 : decode cX9_feed 60 = .ok (.iastore, 1) := by decide +kernel
theorem dX9_feed_61 : decode cX9_feed 61 = .ok (.aload_n 0, 1) := by decide +kernel
theorem dX9_feed_62 : decode cX9_feed 62 = .ok (.dup, 1) := by decide +kernel
theorem dX9_feed_63 : decode cX9_feed 63 = .ok (.getfield 188, 3) := by decide +kernel
theorem dX9_feed_66 : decode cX9_feed 66 = .ok (.iconst 1, 1) := by decide +kernel
theorem dX9_feed_67 : decode cX9_feed 67 = .ok (.iadd, 1) := by decide +kernel
theorem dX9_feed_68 : decode cX9_feed 68 = .ok (.putfield 188, 3) := by decide +kernel
theorem dX9_feed_71 : decode cX9_feed 71 = .ok (.iinc 3 (-1), 3) := by decide +kernel
theorem dX9_feed_74 : decode cX9_feed 74 = .ok (.goto (-36), 3) := by decide +kernel
theorem dX9_feed_77 : decode cX9_feed 77 = .ok (.aload_n 0, 1) := by decide +kernel
theorem dX9_feed_78 : decode cX9_feed 78 = .ok (.getfield 188, 3) := by decide +kernel
theorem dX9_feed_81 : decode cX9_feed 81 = .ok (.ireturn, 1) := by decide +kernel
theorem dX9_wipe_0 : decode cX9_wipe 0 = .ok (.aload_n 0, 1) := by decide +kernel
theorem dX9_wipe_1 : decode cX9_wipe 1 = .ok (.getfield 188, 3) := by decide +kernel
theorem dX9_wipe_4 : decode cX9_wipe 4 = .ok (.istore_n 1, 1) := by decide +kernel
theorem dX9_wipe_5 : decode cX9_wipe 5 = .ok (.aload_n 0, 1) := by decide +kernel
theorem dX9_wipe_6 : decode cX9_wipe 6 = .ok (.iconst 0, 1) := by decide +kernel
theorem dX9_wipe_7 : decode cX9_wipe 7 = .ok (.putfield 188, 3) := by decide +kernel
theorem dX9_wipe_10 : decode cX9_wipe 10 = .ok (.iload_n 1, 1) := by decide +kernel
theorem dX9_wipe_11 : decode cX9_wipe 11 = .ok (.ireturn, 1) := by decide +kernel
theorem dX9_isSheet_0 : decode cX9_isSheet 0 = .ok (.iload_n 0, 1) := by decide +kernel
theorem dX9_isSheet_1 : decode cX9_isSheet 1 = .ok (.iconst 0, 1) := by decide +kernel
theorem dX9_isSheet_2 : decode cX9_isSheet 2 = .ok (.iconst 3, 1) := by decide +kernel
theorem dX9_isSheet_3 : decode cX9_isSheet 3 = .ok (.invokestatic 75, 3) := by decide +kernel
theorem dX9_isSheet_6 : decode cX9_isSheet 6 = .ok (.ireturn, 1) := by decide +kernel
theorem dX9_sheet_0 : decode cX9_sheet 0 = .ok (.iload_n 1, 1) := by decide +kernel
theorem dX9_sheet_1 : decode cX9_sheet 1 = .ok (.invokestatic 285, 3) := by decide +kernel
theorem dX9_sheet_4 : decode cX9_sheet 4 = .ok (.ifCond .eq 25, 3) := by decide +kernel
theorem dX9_sheet_7 : decode cX9_sheet 7 = .ok (.iload_n 2, 1) := by decide +kernel
theorem dX9_sheet_8 : decode cX9_sheet 8 = .ok (.ifCond .eq 28, 3) := by decide +kernel
theorem dX9_sheet_11 : decode cX9_sheet 11 = .ok (.iload_n 2, 1) := by decide +kernel
theorem dX9_sheet_12 : decode cX9_sheet 12 = .ok (.bipush 8, 2) := by decide +kernel
theorem dX9_sheet_14 : decode cX9_sheet 14 = .ok (.if_icmp .eq 22, 3) := by decide +kernel
theorem dX9_sheet_17 : decode cX9_sheet 17 = .ok (.iload_n 2, 1) := by decide +kernel
theorem dX9_sheet_18 : decode cX9_sheet 18 = .ok (.bipush 16, 2) := by decide +kernel
theorem dX9_sheet_20 : decode cX9_sheet 20 = .ok (.if_icmp .eq 16, 3) := by decide +kernel
theorem dX9_sheet_23 : decode cX9_sheet 23 = .ok (.iload_n 2, 1) := by decide +kernel
theorem dX9_sheet_24 : decode cX9_sheet 24 = .ok (.bipush 64, 2) := by decide +kernel
theorem dX9_sheet_26 : decode cX9_sheet 26 = .ok (.if_icmp .eq 10, 3) := by decide +kernel
theorem dX9_sheet_29 : decode cX9_sheet 29 = .ok (.aload_n 0, 1) := by decide +kernel
theorem dX9_sheet_30 : decode cX9_sheet 30 = .ok (.ldc 74, 2) := by decide +kernel
theorem dX9_sheet_32 : decode cX9_sheet 32 = .ok (.invokevirtual 84, 3) := by decide +kernel
theorem dX9_sheet_35 : decode cX9_sheet 35 = .ok (.ireturn, 1) := by decide +kernel
theorem dX9_sheet_36 : decode cX9_sheet 36 = .ok (.iload_n 3, 1) := by decide +kernel
theorem dX9_sheet_37 : decode cX9_sheet 37 = .ok (.ifCond .ge 10, 3) := by decide +kernel
theorem dX9_sheet_40 : decode cX9_sheet 40 = .ok (.aload_n 0, 1) := by decide +kernel
theorem dX9_sheet_41 : decode cX9_sheet 41 = .ok (.ldc 187, 2) := by decide +kernel
theorem dX9_sheet_43 : decode cX9_sheet 43 = .ok (.invokevirtual 84, 3) := by decide +kernel
theorem dX9_sheet_46 : decode cX9_sheet 46 = .ok (.ireturn, 1) := by decide +kernel
theorem dX9_sheet_47 : decode cX9_sheet 47 = .ok (.iload_n 3, 1) := by decide +kernel
theorem dX9_sheet_48 : decode cX9_sheet 48 = .ok (.bipush 40, 2) := by decide +kernel
theorem dX9_sheet_50 : decode cX9_sheet 50 = .ok (.if_icmp .le 10, 3) := by decide +kernel
theorem dX9_sheet_53 : decode cX9_sheet 53 = .ok (.aload_n 0, 1) := by decide +kernel
theorem dX9_sheet_54 : decode cX9_sheet 54 = .ok (.ldc 74, 2) := by decide +kernel
theorem dX9_sheet_56 : decode cX9_sheet 56 = .ok (.invokevirtual 84, 3) := by decide +kernel
theorem dX9_sheet_59 : decode cX9_sheet 59 = .ok (.ireturn, 1) := by decide +kernel
theorem dX9_sheet_60 : decode cX9_sheet 60 = .ok (.aload_n 0, 1) := by decide +kernel
theorem dX9_sheet_61 : decode cX9_sheet 61 = .ok (.getfield 59, 3) := by decide +kernel
theorem dX9_sheet_64 : decode cX9_sheet 64 = .ok (.iload_n 1, 1) := by decide +kernel
theorem dX9_sheet_65 : decode cX9_sheet 65 = .ok (.iload_n 2, 1) := by decide +kernel
theorem dX9_sheet_66 : decode cX9_sheet 66 = .ok (.iastore, 1) := by decide +kernel
theorem dX9_sheet_67 : decode cX9_sheet 67 = .ok (.aload_n 0, 1) := by decide +kernel
theorem dX9_sheet_68 : decode cX9_sheet 68 = .ok (.getfield 62, 3) := by decide +kernel
theorem dX9_sheet_71 : decode cX9_sheet 71 = .ok (.iload_n 1, 1) := by decide +kernel
theorem dX9_sheet_72 : decode cX9_sheet 72 = .ok (.iload_n 2, 1) := by decide +kernel
theorem dX9_sheet_73 : decode cX9_sheet 73 = .ok (.ifCond .ne 7, 3) := by decide +kernel
theorem dX9_sheet_76 : decode cX9_sheet 76 = .ok (.iconst 0, 1) := by decide +kernel
theorem dX9_sheet_77 : decode cX9_sheet 77 = .ok (.goto 4, 3) := by decide +kernel
theorem dX9_sheet_80 : decode cX9_sheet 80 = .ok (.iload_n 3, 1) := by decide +kernel
theorem dX9_sheet_81 : decode cX9_sheet 81 = .ok (.iastore, 1) := by decide +kernel
theorem dX9_sheet_82 : decode cX9_sheet 82 = .ok (.iconst 0, 1) := by decide +kernel
theorem dX9_sheet_83 : decode cX9_sheet 83 = .ok (.istore 4, 2) := by decide +kernel
theorem dX9_sheet_85 : decode cX9_sheet 85 = .ok (.iload 4, 2) := by decide +kernel
theorem dX9_sheet_87 : decode cX9_sheet 87 = .ok (.bipush 40, 2) := by decide +kernel
theorem dX9_sheet_89 : decode cX9_sheet 89 = .ok (.if_icmp .ge 22, 3) := by decide +kernel
theorem dX9_sheet_92 : decode cX9_sheet 92 = .ok (.aload_n 0, 1) := by decide +kernel
theorem dX9_sheet_93 : decode cX9_sheet 93 = .ok (.getfield 65, 3) := by decide +kernel
theorem dX9_sheet_96 : decode cX9_sheet 96 = .ok (.bipush 40, 2) := by decide +kernel
theorem dX9_sheet_98 : decode cX9_sheet 98 = .ok (.iload_n 1, 1) := by decide +kernel
theorem dX9_sheet_99 : decode cX9_sheet 99 = .ok (.imul, 1) := by decide +kernel
theorem dX9_sheet_100 : decode cX9_sheet 100 = .ok (.iload 4, 2) := by decide +kernel
theorem dX9_sheet_102 : decode cX9_sheet 102 = .ok (.iadd, 1) := by decide +kernel
theorem dX9_sheet_103 : decode cX9_sheet 103 = .ok (.lconst 0, 1) := by decide +kernel
theorem dX9_sheet_104 : decode cX9_sheet 104 = .ok (.lastore, 1) := by decide +kernel
theorem dX9_sheet_105 : decode cX9_sheet 105 = .ok (.iinc 4 1, 3) := by decide +kernel
theorem dX9_sheet_108 : decode cX9_sheet 108 = .ok (.goto (-23), 3) := by decide +kernel
theorem dX9_sheet_111 : decode cX9_sheet 111 = .ok (.aload_n 0, 1) := by decide +kernel
theorem dX9_sheet_112 : decode cX9_sheet 112 = .ok (.getfield 62, 3) := by decide +kernel
theorem dX9_sheet_115 : decode cX9_sheet 115 = .ok (.iload_n 1, 1) := by decide +kernel
theorem dX9_sheet_116 : decode cX9_sheet 116 = .ok (.iaload, 1) := by decide +kernel
theorem dX9_sheet_117 : decode cX9_sheet 117 = .ok (.ireturn, 1) := by decide +kernel
theorem dX9_write_0 : decode cX9_write 0 = .ok (.iload_n 1, 1) := by decide +kernel
theorem dX9_write_1 : decode cX9_write 1 = .ok (.invokestatic 285, 3) := by decide +kernel
theorem dX9_write_4 : decode cX9_write 4 = .ok (.ifCond .ne 11, 3) := by decide +kernel
theorem dX9_write_7 : decode cX9_write 7 = .ok (.aload_n 0, 1) := by decide +kernel
theorem dX9_write_8 : decode cX9_write 8 = .ok (.ldc 74, 2) := by decide +kernel
theorem dX9_write_10 : decode cX9_write 10 = .ok (.invokevirtual 84, 3) := by decide +kernel
theorem dX9_write_13 : decode cX9_write 13 = .ok (.i2l, 1) := by decide +kernel
theorem dX9_write_14 : decode cX9_write 14 = .ok (.lreturn, 1) := by decide +kernel
theorem dX9_write_15 : decode cX9_write 15 = .ok (.aload_n 0, 1) := by decide +kernel
theorem dX9_write_16 : decode cX9_write 16 = .ok (.getfield 59, 3) := by decide +kernel
theorem dX9_write_19 : decode cX9_write 19 = .ok (.iload_n 1, 1) := by decide +kernel
theorem dX9_write_20 : decode cX9_write 20 = .ok (.iaload, 1) := by decide +kernel
theorem dX9_write_21 : decode cX9_write 21 = .ok (.ifCond .ne 12, 3) := by decide +kernel
theorem dX9_write_24 : decode cX9_write 24 = .ok (.aload_n 0, 1) := by decide +kernel
theorem dX9_write_25 : decode cX9_write 25 = .ok (.ldc_w 288, 3) := by decide +kernel
theorem dX9_write_28 : decode cX9_write 28 = .ok (.invokevirtual 84, 3) := by decide +kernel
theorem dX9_write_31 : decode cX9_write 31 = .ok (.i2l, 1) := by decide +kernel
theorem dX9_write_32 : decode cX9_write 32 = .ok (.lreturn, 1) := by decide +kernel
theorem dX9_copy_0 : decode cX9_copy 0 = .ok (.iload_n 1, 1) := by decide +kernel
theorem dX9_copy_1 : decode cX9_copy 1 = .ok (.invokestatic 285, 3) := by decide +kernel
theorem dX9_copy_4 : decode cX9_copy 4 = .ok (.ifCond .eq 10, 3) := by decide +kernel
theorem dX9_copy_7 : decode cX9_copy 7 = .ok (.iload_n 3, 1) := by decide +kernel
theorem dX9_copy_8 : decode cX9_copy 8 = .ok (.invokestatic 285, 3) := by decide +kernel
theorem dX9_copy_11 : decode cX9_copy 11 = .ok (.ifCond .ne 10, 3) := by decide +kernel
theorem dX9_copy_14 : decode cX9_copy 14 = .ok (.aload_n 0, 1) := by decide +kernel
theorem dX9_copy_15 : decode cX9_copy 15 = .ok (.ldc 74, 2) := by decide +kernel
theorem dX9_copy_17 : decode cX9_copy 17 = .ok (.invokevirtual 84, 3) := by decide +kernel
theorem dX9_copy_20 : decode cX9_copy 20 = .ok (.ireturn, 1) := by decide +kernel
theorem dX9_copy_21 : decode cX9_copy 21 = .ok (.aload_n 0, 1) := by decide +kernel
theorem dX9_copy_22 : decode cX9_copy 22 = .ok (.getfield 59, 3) := by decide +kernel
theorem dX9_copy_25 : decode cX9_copy 25 = .ok (.iload_n 1, 1) := by decide +kernel
theorem dX9_copy_26 : decode cX9_copy 26 = .ok (.iaload, 1) := by decide +kernel
theorem dX9_copy_27 : decode cX9_copy 27 = .ok (.ifCond .eq 12, 3) := by decide +kernel
theorem dX9_copy_39 : decode cX9_copy 39 = .ok (.aload_n 0, 1) := by decide +kernel
theorem dX9_copy_40 : decode cX9_copy 40 = .ok (.ldc_w 288, 3) := by decide +kernel
theorem dX9_copy_43 : decode cX9_copy 43 = .ok (.invokevirtual 84, 3) := by decide +kernel
theorem dX9_copy_46 : decode cX9_copy 46 = .ok (.ireturn, 1) := by decide +kernel
theorem dX9_lays_0 : decode cX9_lays 0 = .ok (.iload_n 1, 1) := by decide +kernel
theorem dX9_lays_1 : decode cX9_lays 1 = .ok (.invokestatic 285, 3) := by decide +kernel
theorem dX9_lays_4 : decode cX9_lays 4 = .ok (.ifCond .ne 10, 3) := by decide +kernel
theorem dX9_lays_7 : decode cX9_lays 7 = .ok (.aload_n 0, 1) := by decide +kernel
theorem dX9_lays_8 : decode cX9_lays 8 = .ok (.ldc 74, 2) := by decide +kernel
theorem dX9_lays_10 : decode cX9_lays 10 = .ok (.invokevirtual 84, 3) := by decide +kernel
theorem dX9_lays_13 : decode cX9_lays 13 = .ok (.ireturn, 1) := by decide +kernel
theorem dX9_lays_14 : decode cX9_lays 14 = .ok (.aload_n 0, 1) := by decide +kernel
theorem dX9_lays_15 : decode cX9_lays 15 = .ok (.getfield 59, 3) := by decide +kernel
theorem dX9_lays_18 : decode cX9_lays 18 = .ok (.iload_n 1, 1) := by decide +kernel
theorem dX9_lays_19 : decode cX9_lays 19 = .ok (.iaload, 1) := by decide +kernel
theorem dX9_lays_20 : decode cX9_lays 20 = .ok (.ifCond .ne 11, 3) := by decide +kernel
theorem dX9_lays_23 : decode cX9_lays 23 = .ok (.aload_n 0, 1) := by decide +kernel
theorem dX9_lays_24 : decode cX9_lays 24 = .ok (.ldc_w 288, 3) := by decide +kernel
theorem dX9_lays_27 : decode cX9_lays 27 = .ok (.invokevirtual 84, 3) := by decide +kernel
theorem dX9_lays_30 : decode cX9_lays 30 = .ok (.ireturn, 1) := by decide +kernel
theorem dX9_film_0 : decode cX9_film 0 = .ok (.iload_n 1, 1) := by decide +kernel
theorem dX9_film_1 : decode cX9_film 1 = .ok (.invokestatic 285, 3) := by decide +kernel
theorem dX9_film_4 : decode cX9_film 4 = .ok (.ifCond .ne 10, 3) := by decide +kernel
theorem dX9_film_7 : decode cX9_film 7 = .ok (.aload_n 0, 1) := by decide +kernel
theorem dX9_film_8 : decode cX9_film 8 = .ok (.ldc 74, 2) := by decide +kernel
theorem dX9_film_10 : decode cX9_film 10 = .ok (.invokevirtual 84, 3) := by decide +kernel
theorem dX9_film_13 : decode cX9_film 13 = .ok (.ireturn, 1) := by decide +kernel
theorem dX9_film_14 : decode cX9_film 14 = .ok (.aload_n 0, 1) := by decide +kernel
theorem dX9_film_15 : decode cX9_film 15 = .ok (.getfield 59, 3) := by decide +kernel
theorem dX9_film_18 : decode cX9_film 18 = .ok (.iload_n 1, 1) := by decide +kernel
theorem dX9_film_19 : decode cX9_film 19 = .ok (.iaload, 1) := by decide +kernel
theorem dX9_film_20 : decode cX9_film 20 = .ok (.ifCond .ne 11, 3) := by decide +kernel
theorem dX9_film_23 : decode cX9_film 23 = .ok (.aload_n 0, 1) := by decide +kernel
theorem dX9_film_24 : decode cX9_film 24 = .ok (.ldc_w 288, 3) := by decide +kernel
theorem dX9_film_27 : decode cX9_film 27 = .ok (.invokevirtual 84, 3) := by decide +kernel
theorem dX9_film_30 : decode cX9_film 30 = .ok (.ireturn, 1) := by decide +kernel
theorem dX9_read_0 : decode cX9_read 0 = .ok (.iload_n 1, 1) := by decide +kernel
theorem dX9_read_1 : decode cX9_read 1 = .ok (.invokestatic 285, 3) := by decide +kernel
theorem dX9_read_4 : decode cX9_read 4 = .ok (.ifCond .ne 10, 3) := by decide +kernel
theorem dX9_read_7 : decode cX9_read 7 = .ok (.aload_n 0, 1) := by decide +kernel
theorem dX9_read_8 : decode cX9_read 8 = .ok (.ldc 74, 2) := by decide +kernel
theorem dX9_read_10 : decode cX9_read 10 = .ok (.invokevirtual 84, 3) := by decide +kernel
theorem dX9_read_13 : decode cX9_read 13 = .ok (.ireturn, 1) := by decide +kernel
theorem dX9_read_14 : decode cX9_read 14 = .ok (.aload_n 0, 1) := by decide +kernel
theorem dX9_read_15 : decode cX9_read 15 = .ok (.getfield 59, 3) := by decide +kernel
theorem dX9_read_18 : decode cX9_read 18 = .ok (.iload_n 1, 1) := by decide +kernel
theorem dX9_read_19 : decode cX9_read 19 = .ok (.iaload, 1) := by decide +kernel
theorem dX9_read_20 : decode cX9_read 20 = .ok (.ifCond .ne 11, 3) := by decide +kernel
theorem dX9_read_23 : decode cX9_read 23 = .ok (.aload_n 0, 1) := by decide +kernel
theorem dX9_read_24 : decode cX9_read 24 = .ok (.ldc_w 288, 3) := by decide +kernel
theorem dX9_read_27 : decode cX9_read 27 = .ok (.invokevirtual 84, 3) := by decide +kernel
theorem dX9_read_30 : decode cX9_read 30 = .ok (.ireturn, 1) := by decide +kernel
theorem dX9_copyAll_0 : decode cX9_copyAll 0 = .ok (.iconst 0, 1) := by decide +kernel
theorem dX9_copyAll_1 : decode cX9_copyAll 1 = .ok (.istore 4, 2) := by decide +kernel
theorem dX9_copyAll_3 : decode cX9_copyAll 3 = .ok (.iload 4, 2) := by decide +kernel
theorem dX9_copyAll_5 : decode cX9_copyAll 5 = .ok (.bipush 38, 2) := by decide +kernel
theorem dX9_copyAll_7 : decode cX9_copyAll 7 = .ok (.if_icmp .ge 17, 3) := by decide +kernel
theorem dX9_copyAll_10 : decode cX9_copyAll 10 = .ok (.aload_n 1, 1) := by decide +kernel
theorem dX9_copyAll_11 : decode cX9_copyAll 11 = .ok (.iload 4, 2) := by decide +kernel
theorem dX9_copyAll_13 : decode cX9_copyAll 13 = .ok (.aload_n 0, 1) := by decide +kernel
theorem dX9_copyAll_14 : decode cX9_copyAll 14 = .ok (.iload 4, 2) := by decide +kernel
theorem dX9_copyAll_16 : decode cX9_copyAll 16 = .ok (.iaload, 1) := by decide +kernel
theorem dX9_copyAll_17 : decode cX9_copyAll 17 = .ok (.iastore, 1) := by decide +kernel
theorem dX9_copyAll_18 : decode cX9_copyAll 18 = .ok (.iinc 4 1, 3) := by decide +kernel
theorem dX9_copyAll_21 : decode cX9_copyAll 21 = .ok (.goto (-18), 3) := by decide +kernel
theorem dX9_copyAll_24 : decode cX9_copyAll 24 = .ok (.iconst 0, 1) := by decide +kernel
theorem dX9_copyAll_25 : decode cX9_copyAll 25 = .ok (.istore 4, 2) := by decide +kernel
theorem dX9_copyAll_27 : decode cX9_copyAll 27 = .ok (.iload 4, 2) := by decide +kernel
theorem dX9_copyAll_29 : decode cX9_copyAll 29 = .ok (.bipush 7, 2) := by decide +kernel
theorem dX9_copyAll_31 : decode cX9_copyAll 31 = .ok (.if_icmp .ge 17, 3) := by decide +kernel
theorem dX9_copyAll_34 : decode cX9_copyAll 34 = .ok (.aload_n 3, 1) := by decide +kernel
theorem dX9_copyAll_35 : decode cX9_copyAll 35 = .ok (.iload 4, 2) := by decide +kernel
theorem dX9_copyAll_37 : decode cX9_copyAll 37 = .ok (.aload_n 2, 1) := by decide +kernel
theorem dX9_copyAll_38 : decode cX9_copyAll 38 = .ok (.iload 4, 2) := by decide +kernel
theorem dX9_copyAll_40 : decode cX9_copyAll 40 = .ok (.laload, 1) := by decide +kernel
theorem dX9_copyAll_41 : decode cX9_copyAll 41 = .ok (.lastore, 1) := by decide +kernel
theorem dX9_copyAll_42 : decode cX9_copyAll 42 = .ok (.iinc 4 1, 3) := by decide +kernel
theorem dX9_copyAll_45 : decode cX9_copyAll 45 = .ok (.goto (-18), 3) := by decide +kernel
theorem dX9_copyAll_48 : decode cX9_copyAll 48 = .ok (.return_, 1) := by decide +kernel
theorem dX9_image_0 : decode cX9_image 0 = .ok (.aload_n 0, 1) := by decide +kernel
theorem dX9_image_1 : decode cX9_image 1 = .ok (.getfield 9, 3) := by decide +kernel
theorem dX9_image_4 : decode cX9_image 4 = .ok (.aload_n 0, 1) := by decide +kernel
theorem dX9_image_5 : decode cX9_image 5 = .ok (.getfield 13, 3) := by decide +kernel
theorem dX9_image_8 : decode cX9_image 8 = .ok (.aload_n 0, 1) := by decide +kernel
theorem dX9_image_9 : decode cX9_image 9 = .ok (.getfield 16, 3) := by decide +kernel
theorem dX9_image_12 : decode cX9_image 12 = .ok (.aload_n 0, 1) := by decide +kernel
theorem dX9_image_13 : decode cX9_image 13 = .ok (.getfield 20, 3) := by decide +kernel
theorem dX9_image_16 : decode cX9_image 16 = .ok (.invokestatic 298, 3) := by decide +kernel
theorem dX9_image_19 : decode cX9_image 19 = .ok (.aload_n 0, 1) := by decide +kernel
theorem dX9_image_20 : decode cX9_image 20 = .ok (.iconst 1, 1) := by decide +kernel
theorem dX9_image_21 : decode cX9_image 21 = .ok (.putfield 302, 3) := by decide +kernel
theorem dX9_image_24 : decode cX9_image 24 = .ok (.iconst 1, 1) := by decide +kernel
theorem dX9_image_25 : decode cX9_image 25 = .ok (.ireturn, 1) := by decide +kernel
theorem dX9_undo_0 : decode cX9_undo 0 = .ok (.aload_n 0, 1) := by decide +kernel
theorem dX9_undo_1 : decode cX9_undo 1 = .ok (.getfield 302, 3) := by decide +kernel
theorem dX9_undo_4 : decode cX9_undo 4 = .ok (.ifCond .ne 10, 3) := by decide +kernel
theorem dX9_undo_7 : decode cX9_undo 7 = .ok (.aload_n 0, 1) := by decide +kernel
theorem dX9_undo_8 : decode cX9_undo 8 = .ok (.ldc 150, 2) := by decide +kernel
theorem dX9_undo_10 : decode cX9_undo 10 = .ok (.invokevirtual 84, 3) := by decide +kernel
theorem dX9_undo_13 : decode cX9_undo 13 = .ok (.ireturn, 1) := by decide +kernel
theorem dX9_forget_0 : decode cX9_forget 0 = .ok (.aload_n 0, 1) := by decide +kernel
theorem dX9_forget_1 : decode cX9_forget 1 = .ok (.getfield 302, 3) := by decide +kernel
theorem dX9_forget_4 : decode cX9_forget 4 = .ok (.ifCond .eq 7, 3) := by decide +kernel
theorem dX9_forget_11 : decode cX9_forget 11 = .ok (.iconst 0, 1) := by decide +kernel
theorem dX9_forget_12 : decode cX9_forget 12 = .ok (.istore_n 1, 1) := by decide +kernel
theorem dX9_forget_13 : decode cX9_forget 13 = .ok (.aload_n 0, 1) := by decide +kernel
theorem dX9_forget_14 : decode cX9_forget 14 = .ok (.iconst 0, 1) := by decide +kernel
theorem dX9_forget_15 : decode cX9_forget 15 = .ok (.putfield 302, 3) := by decide +kernel
theorem dX9_forget_18 : decode cX9_forget 18 = .ok (.iload_n 1, 1) := by decide +kernel
theorem dX9_forget_19 : decode cX9_forget 19 = .ok (.ireturn, 1) := by decide +kernel
theorem dX9_count_0 : decode cX9_count 0 = .ok (.iconst 0, 1) := by decide +kernel
theorem dX9_count_1 : decode cX9_count 1 = .ok (.istore_n 2, 1) := by decide +kernel
theorem dX9_count_2 : decode cX9_count 2 = .ok (.iload_n 1, 1) := by decide +kernel
theorem dX9_count_3 : decode cX9_count 3 = .ok (.tableswitch 139 0 6 #[41, 48, 77, 84, 119, 127, 132], 41) := by decide +kernel
theorem dX9_count_44 : decode cX9_count 44 = .ok (.aload_n 0, 1) := by decide +kernel
theorem dX9_count_45 : decode cX9_count 45 = .ok (.getfield 9, 3) := by decide +kernel
theorem dX9_count_48 : decode cX9_count 48 = .ok (.iconst 0, 1) := by decide +kernel
theorem dX9_count_49 : decode cX9_count 49 = .ok (.iaload, 1) := by decide +kernel
theorem dX9_count_50 : decode cX9_count 50 = .ok (.ireturn, 1) := by decide +kernel
theorem dX9_count_51 : decode cX9_count 51 = .ok (.iconst 0, 1) := by decide +kernel
theorem dX9_count_52 : decode cX9_count 52 = .ok (.istore_n 3, 1) := by decide +kernel
theorem dX9_count_53 : decode cX9_count 53 = .ok (.iload_n 3, 1) := by decide +kernel
theorem dX9_count_54 : decode cX9_count 54 = .ok (.aload_n 0, 1) := by decide +kernel
theorem dX9_count_55 : decode cX9_count 55 = .ok (.getfield 9, 3) := by decide +kernel
theorem dX9_count_58 : decode cX9_count 58 = .ok (.iconst 0, 1) := by decide +kernel
theorem dX9_count_59 : decode cX9_count 59 = .ok (.iaload, 1) := by decide +kernel
theorem dX9_count_60 : decode cX9_count 60 = .ok (.if_icmp .ge 18, 3) := by decide +kernel
theorem dX9_count_78 : decode cX9_count 78 = .ok (.iload_n 2, 1) := by decide +kernel
theorem dX9_count_79 : decode cX9_count 79 = .ok (.ireturn, 1) := by decide +kernel
theorem dX9_count_80 : decode cX9_count 80 = .ok (.aload_n 0, 1) := by decide +kernel
theorem dX9_count_81 : decode cX9_count 81 = .ok (.getfield 9, 3) := by decide +kernel
theorem dX9_count_84 : decode cX9_count 84 = .ok (.iconst 1, 1) := by decide +kernel
theorem dX9_count_85 : decode cX9_count 85 = .ok (.iaload, 1) := by decide +kernel
theorem dX9_count_86 : decode cX9_count 86 = .ok (.ireturn, 1) := by decide +kernel
theorem dX9_count_87 : decode cX9_count 87 = .ok (.iconst 0, 1) := by decide +kernel
theorem dX9_count_88 : decode cX9_count 88 = .ok (.istore_n 3, 1) := by decide +kernel
theorem dX9_count_89 : decode cX9_count 89 = .ok (.iload_n 3, 1) := by decide +kernel
theorem dX9_count_90 : decode cX9_count 90 = .ok (.iconst 4, 1) := by decide +kernel
theorem dX9_count_91 : decode cX9_count 91 = .ok (.if_icmp .ge 29, 3) := by decide +kernel
theorem dX9_count_94 : decode cX9_count 94 = .ok (.iload_n 2, 1) := by decide +kernel
theorem dX9_count_95 : decode cX9_count 95 = .ok (.aload_n 0, 1) := by decide +kernel
theorem dX9_count_96 : decode cX9_count 96 = .ok (.getfield 9, 3) := by decide +kernel
theorem dX9_count_99 : decode cX9_count 99 = .ok (.bipush 30, 2) := by decide +kernel
theorem dX9_count_101 : decode cX9_count 101 = .ok (.iload_n 3, 1) := by decide +kernel
theorem dX9_count_102 : decode cX9_count 102 = .ok (.iadd, 1) := by decide +kernel
theorem dX9_count_103 : decode cX9_count 103 = .ok (.iaload, 1) := by decide +kernel
theorem dX9_count_104 : decode cX9_count 104 = .ok (.ifCond .ge 7, 3) := by decide +kernel
theorem dX9_count_107 : decode cX9_count 107 = .ok (.iconst 0, 1) := by decide +kernel
theorem dX9_count_108 : decode cX9_count 108 = .ok (.goto 4, 3) := by decide +kernel
theorem dX9_count_112 : decode cX9_count 112 = .ok (.iadd, 1) := by decide +kernel
theorem dX9_count_113 : decode cX9_count 113 = .ok (.istore_n 2, 1) := by decide +kernel
theorem dX9_count_114 : decode cX9_count 114 = .ok (.iinc 3 1, 3) := by decide +kernel
theorem dX9_count_117 : decode cX9_count 117 = .ok (.goto (-28), 3) := by decide +kernel
theorem dX9_count_120 : decode cX9_count 120 = .ok (.iload_n 2, 1) := by decide +kernel
theorem dX9_count_121 : decode cX9_count 121 = .ok (.ireturn, 1) := by decide +kernel
theorem dX9_count_122 : decode cX9_count 122 = .ok (.aload_n 0, 1) := by decide +kernel
theorem dX9_count_123 : decode cX9_count 123 = .ok (.invokevirtual 146, 3) := by decide +kernel
theorem dX9_count_126 : decode cX9_count 126 = .ok (.invokestatic 158, 3) := by decide +kernel
theorem dX9_count_129 : decode cX9_count 129 = .ok (.ireturn, 1) := by decide +kernel
theorem dX9_count_130 : decode cX9_count 130 = .ok (.aload_n 0, 1) := by decide +kernel
theorem dX9_count_131 : decode cX9_count 131 = .ok (.getfield 188, 3) := by decide +kernel
theorem dX9_count_134 : decode cX9_count 134 = .ok (.ireturn, 1) := by decide +kernel
theorem dX9_count_135 : decode cX9_count 135 = .ok (.aload_n 0, 1) := by decide +kernel
theorem dX9_count_136 : decode cX9_count 136 = .ok (.getfield 9, 3) := by decide +kernel
theorem dX9_count_139 : decode cX9_count 139 = .ok (.iconst 2, 1) := by decide +kernel
theorem dX9_count_140 : decode cX9_count 140 = .ok (.iaload, 1) := by decide +kernel
theorem dX9_count_141 : decode cX9_count 141 = .ok (.ireturn, 1) := by decide +kernel
theorem dX9_count_142 : decode cX9_count 142 = .ok (.aload_n 0, 1) := by decide +kernel
theorem dX9_count_143 : decode cX9_count 143 = .ok (.ldc 74, 2) := by decide +kernel
theorem dX9_count_145 : decode cX9_count 145 = .ok (.invokevirtual 84, 3) := by decide +kernel
theorem dX9_count_148 : decode cX9_count 148 = .ok (.ireturn, 1) := by decide +kernel
theorem dX9_status_0 : decode cX9_status 0 = .ok (.iload_n 1, 1) := by decide +kernel
theorem dX9_status_1 : decode cX9_status 1 = .ok (.iconst (-1), 1) := by decide +kernel
theorem dX9_status_2 : decode cX9_status 2 = .ok (.bipush 6, 2) := by decide +kernel
theorem dX9_status_4 : decode cX9_status 4 = .ok (.invokestatic 75, 3) := by decide +kernel
theorem dX9_status_7 : decode cX9_status 7 = .ok (.ifCond .eq 14, 3) := by decide +kernel
theorem dX9_status_10 : decode cX9_status 10 = .ok (.aload_n 0, 1) := by decide +kernel
theorem dX9_status_11 : decode cX9_status 11 = .ok (.getfield 23, 3) := by decide +kernel
theorem dX9_status_14 : decode cX9_status 14 = .ok (.iload_n 1, 1) := by decide +kernel
theorem dX9_status_15 : decode cX9_status 15 = .ok (.iconst 1, 1) := by decide +kernel
theorem dX9_status_16 : decode cX9_status 16 = .ok (.iadd, 1) := by decide +kernel
theorem dX9_status_17 : decode cX9_status 17 = .ok (.iaload, 1) := by decide +kernel
theorem dX9_status_18 : decode cX9_status 18 = .ok (.goto 9, 3) := by decide +kernel
theorem dX9_status_21 : decode cX9_status 21 = .ok (.aload_n 0, 1) := by decide +kernel
theorem dX9_status_22 : decode cX9_status 22 = .ok (.ldc 74, 2) := by decide +kernel
theorem dX9_status_24 : decode cX9_status 24 = .ok (.invokevirtual 84, 3) := by decide +kernel
theorem dX9_status_27 : decode cX9_status 27 = .ok (.ireturn, 1) := by decide +kernel
theorem dJ6_bitCount_0f7a4_0 : decode cJ6_bitCount_0f7a4 0 = .ok (.iload_n 0, 1) := by decide +kernel
theorem dJ6_bitCount_0f7a4_1 : decode cJ6_bitCount_0f7a4 1 = .ok (.iload_n 0, 1) := by decide +kernel
theorem dJ6_bitCount_0f7a4_2 : decode cJ6_bitCount_0f7a4 2 = .ok (.iconst 1, 1) := by decide +kernel
theorem dJ6_bitCount_0f7a4_3 : decode cJ6_bitCount_0f7a4 3 = .ok (.iushr, 1) := by decide +kernel
theorem dJ6_bitCount_0f7a4_4 : decode cJ6_bitCount_0f7a4 4 = .ok (.ldc_w 265, 3) := by decide +kernel
theorem dJ6_bitCount_0f7a4_7 : decode cJ6_bitCount_0f7a4 7 = .ok (.iand, 1) := by decide +kernel
theorem dJ6_bitCount_0f7a4_8 : decode cJ6_bitCount_0f7a4 8 = .ok (.isub, 1) := by decide +kernel
theorem dJ6_bitCount_0f7a4_9 : decode cJ6_bitCount_0f7a4 9 = .ok (.istore_n 0, 1) := by decide +kernel
theorem dJ6_bitCount_0f7a4_10 : decode cJ6_bitCount_0f7a4 10 = .ok (.iload_n 0, 1) := by decide +kernel
theorem dJ6_bitCount_0f7a4_11 : decode cJ6_bitCount_0f7a4 11 = .ok (.ldc_w 266, 3) := by decide +kernel
theorem dJ6_bitCount_0f7a4_14 : decode cJ6_bitCount_0f7a4 14 = .ok (.iand, 1) := by decide +kernel
theorem dJ6_bitCount_0f7a4_15 : decode cJ6_bitCount_0f7a4 15 = .ok (.iload_n 0, 1) := by decide +kernel
theorem dJ6_bitCount_0f7a4_16 : decode cJ6_bitCount_0f7a4 16 = .ok (.iconst 2, 1) := by decide +kernel
theorem dJ6_bitCount_0f7a4_17 : decode cJ6_bitCount_0f7a4 17 = .ok (.iushr, 1) := by decide +kernel
theorem dJ6_bitCount_0f7a4_18 : decode cJ6_bitCount_0f7a4 18 = .ok (.ldc_w 266, 3) := by decide +kernel
theorem dJ6_bitCount_0f7a4_21 : decode cJ6_bitCount_0f7a4 21 = .ok (.iand, 1) := by decide +kernel
theorem dJ6_bitCount_0f7a4_22 : decode cJ6_bitCount_0f7a4 22 = .ok (.iadd, 1) := by decide +kernel
theorem dJ6_bitCount_0f7a4_23 : decode cJ6_bitCount_0f7a4 23 = .ok (.istore_n 0, 1) := by decide +kernel
theorem dJ6_bitCount_0f7a4_24 : decode cJ6_bitCount_0f7a4 24 = .ok (.iload_n 0, 1) := by decide +kernel
theorem dJ6_bitCount_0f7a4_25 : decode cJ6_bitCount_0f7a4 25 = .ok (.iload_n 0, 1) := by decide +kernel
theorem dJ6_bitCount_0f7a4_26 : decode cJ6_bitCount_0f7a4 26 = .ok (.iconst 4, 1) := by decide +kernel
theorem dJ6_bitCount_0f7a4_27 : decode cJ6_bitCount_0f7a4 27 = .ok (.iushr, 1) := by decide +kernel
theorem dJ6_bitCount_0f7a4_28 : decode cJ6_bitCount_0f7a4 28 = .ok (.iadd, 1) := by decide +kernel
theorem dJ6_bitCount_0f7a4_29 : decode cJ6_bitCount_0f7a4 29 = .ok (.ldc_w 267, 3) := by decide +kernel
theorem dJ6_bitCount_0f7a4_32 : decode cJ6_bitCount_0f7a4 32 = .ok (.iand, 1) := by decide +kernel
theorem dJ6_bitCount_0f7a4_33 : decode cJ6_bitCount_0f7a4 33 = .ok (.istore_n 0, 1) := by decide +kernel
theorem dJ6_bitCount_0f7a4_34 : decode cJ6_bitCount_0f7a4 34 = .ok (.iload_n 0, 1) := by decide +kernel
theorem dJ6_bitCount_0f7a4_35 : decode cJ6_bitCount_0f7a4 35 = .ok (.iload_n 0, 1) := by decide +kernel
theorem dJ6_bitCount_0f7a4_36 : decode cJ6_bitCount_0f7a4 36 = .ok (.bipush 8, 2) := by decide +kernel
theorem dJ6_bitCount_0f7a4_38 : decode cJ6_bitCount_0f7a4 38 = .ok (.iushr, 1) := by decide +kernel
theorem dJ6_bitCount_0f7a4_39 : decode cJ6_bitCount_0f7a4 39 = .ok (.iadd, 1) := by decide +kernel
theorem dJ6_bitCount_0f7a4_40 : decode cJ6_bitCount_0f7a4 40 = .ok (.istore_n 0, 1) := by decide +kernel
theorem dJ6_bitCount_0f7a4_41 : decode cJ6_bitCount_0f7a4 41 = .ok (.iload_n 0, 1) := by decide +kernel
theorem dJ6_bitCount_0f7a4_42 : decode cJ6_bitCount_0f7a4 42 = .ok (.iload_n 0, 1) := by decide +kernel
theorem dJ6_bitCount_0f7a4_43 : decode cJ6_bitCount_0f7a4 43 = .ok (.bipush 16, 2) := by decide +kernel
theorem dJ6_bitCount_0f7a4_45 : decode cJ6_bitCount_0f7a4 45 = .ok (.iushr, 1) := by decide +kernel
theorem dJ6_bitCount_0f7a4_46 : decode cJ6_bitCount_0f7a4 46 = .ok (.iadd, 1) := by decide +kernel
theorem dJ6_bitCount_0f7a4_47 : decode cJ6_bitCount_0f7a4 47 = .ok (.istore_n 0, 1) := by decide +kernel
theorem dJ6_bitCount_0f7a4_48 : decode cJ6_bitCount_0f7a4 48 = .ok (.iload_n 0, 1) := by decide +kernel
theorem dJ6_bitCount_0f7a4_49 : decode cJ6_bitCount_0f7a4 49 = .ok (.bipush 63, 2) := by decide +kernel
theorem dJ6_bitCount_0f7a4_51 : decode cJ6_bitCount_0f7a4 51 = .ok (.iand, 1) := by decide +kernel
theorem dJ6_bitCount_0f7a4_52 : decode cJ6_bitCount_0f7a4 52 = .ok (.ireturn, 1) := by decide +kernel
theorem dJ13_bitCount_95d88_0 : decode cJ13_bitCount_95d88 0 = .ok (.lload_n 0, 1) := by decide +kernel
theorem dJ13_bitCount_95d88_1 : decode cJ13_bitCount_95d88 1 = .ok (.lload_n 0, 1) := by decide +kernel
theorem dJ13_bitCount_95d88_2 : decode cJ13_bitCount_95d88 2 = .ok (.iconst 1, 1) := by decide +kernel
theorem dJ13_bitCount_95d88_3 : decode cJ13_bitCount_95d88 3 = .ok (.lushr, 1) := by decide +kernel
theorem dJ13_bitCount_95d88_4 : decode cJ13_bitCount_95d88 4 = .ok (.ldc2_w 314, 3) := by decide +kernel
theorem dJ13_bitCount_95d88_7 : decode cJ13_bitCount_95d88 7 = .ok (.land, 1) := by decide +kernel
theorem dJ13_bitCount_95d88_8 : decode cJ13_bitCount_95d88 8 = .ok (.lsub, 1) := by decide +kernel
theorem dJ13_bitCount_95d88_9 : decode cJ13_bitCount_95d88 9 = .ok (.lstore_n 0, 1) := by decide +kernel
theorem dJ13_bitCount_95d88_10 : decode cJ13_bitCount_95d88 10 = .ok (.lload_n 0, 1) := by decide +kernel
theorem dJ13_bitCount_95d88_11 : decode cJ13_bitCount_95d88 11 = .ok (.ldc2_w 316, 3) := by decide +kernel
theorem dJ13_bitCount_95d88_14 : decode cJ13_bitCount_95d88 14 = .ok (.land, 1) := by decide +kernel
theorem dJ13_bitCount_95d88_15 : decode cJ13_bitCount_95d88 15 = .ok (.lload_n 0, 1) := by decide +kernel
theorem dJ13_bitCount_95d88_16 : decode cJ13_bitCount_95d88 16 = .ok (.iconst 2, 1) := by decide +kernel
theorem dJ13_bitCount_95d88_17 : decode cJ13_bitCount_95d88 17 = .ok (.lushr, 1) := by decide +kernel
theorem dJ13_bitCount_95d88_18 : decode cJ13_bitCount_95d88 18 = .ok (.ldc2_w 316, 3) := by decide +kernel
theorem dJ13_bitCount_95d88_21 : decode cJ13_bitCount_95d88 21 = .ok (.land, 1) := by decide +kernel
theorem dJ13_bitCount_95d88_22 : decode cJ13_bitCount_95d88 22 = .ok (.ladd, 1) := by decide +kernel
theorem dJ13_bitCount_95d88_23 : decode cJ13_bitCount_95d88 23 = .ok (.lstore_n 0, 1) := by decide +kernel
theorem dJ13_bitCount_95d88_24 : decode cJ13_bitCount_95d88 24 = .ok (.lload_n 0, 1) := by decide +kernel
theorem dJ13_bitCount_95d88_25 : decode cJ13_bitCount_95d88 25 = .ok (.lload_n 0, 1) := by decide +kernel
theorem dJ13_bitCount_95d88_26 : decode cJ13_bitCount_95d88 26 = .ok (.iconst 4, 1) := by decide +kernel
theorem dJ13_bitCount_95d88_27 : decode cJ13_bitCount_95d88 27 = .ok (.lushr, 1) := by decide +kernel
theorem dJ13_bitCount_95d88_28 : decode cJ13_bitCount_95d88 28 = .ok (.ladd, 1) := by decide +kernel
theorem dJ13_bitCount_95d88_29 : decode cJ13_bitCount_95d88 29 = .ok (.ldc2_w 318, 3) := by decide +kernel
theorem dJ13_bitCount_95d88_32 : decode cJ13_bitCount_95d88 32 = .ok (.land, 1) := by decide +kernel
theorem dJ13_bitCount_95d88_33 : decode cJ13_bitCount_95d88 33 = .ok (.lstore_n 0, 1) := by decide +kernel
theorem dJ13_bitCount_95d88_34 : decode cJ13_bitCount_95d88 34 = .ok (.lload_n 0, 1) := by decide +kernel
theorem dJ13_bitCount_95d88_35 : decode cJ13_bitCount_95d88 35 = .ok (.lload_n 0, 1) := by decide +kernel
theorem dJ13_bitCount_95d88_36 : decode cJ13_bitCount_95d88 36 = .ok (.bipush 8, 2) := by decide +kernel
theorem dJ13_bitCount_95d88_38 : decode cJ13_bitCount_95d88 38 = .ok (.lushr, 1) := by decide +kernel
theorem dJ13_bitCount_95d88_39 : decode cJ13_bitCount_95d88 39 = .ok (.ladd, 1) := by decide +kernel
theorem dJ13_bitCount_95d88_40 : decode cJ13_bitCount_95d88 40 = .ok (.lstore_n 0, 1) := by decide +kernel
theorem dJ13_bitCount_95d88_41 : decode cJ13_bitCount_95d88 41 = .ok (.lload_n 0, 1) := by decide +kernel
theorem dJ13_bitCount_95d88_42 : decode cJ13_bitCount_95d88 42 = .ok (.lload_n 0, 1) := by decide +kernel
theorem dJ13_bitCount_95d88_43 : decode cJ13_bitCount_95d88 43 = .ok (.bipush 16, 2) := by decide +kernel
theorem dJ13_bitCount_95d88_45 : decode cJ13_bitCount_95d88 45 = .ok (.lushr, 1) := by decide +kernel
theorem dJ13_bitCount_95d88_46 : decode cJ13_bitCount_95d88 46 = .ok (.ladd, 1) := by decide +kernel
theorem dJ13_bitCount_95d88_47 : decode cJ13_bitCount_95d88 47 = .ok (.lstore_n 0, 1) := by decide +kernel
theorem dJ13_bitCount_95d88_48 : decode cJ13_bitCount_95d88 48 = .ok (.lload_n 0, 1) := by decide +kernel
theorem dJ13_bitCount_95d88_49 : decode cJ13_bitCount_95d88 49 = .ok (.lload_n 0, 1) := by decide +kernel
theorem dJ13_bitCount_95d88_50 : decode cJ13_bitCount_95d88 50 = .ok (.bipush 32, 2) := by decide +kernel
theorem dJ13_bitCount_95d88_52 : decode cJ13_bitCount_95d88 52 = .ok (.lushr, 1) := by decide +kernel
theorem dJ13_bitCount_95d88_53 : decode cJ13_bitCount_95d88 53 = .ok (.ladd, 1) := by decide +kernel
theorem dJ13_bitCount_95d88_54 : decode cJ13_bitCount_95d88 54 = .ok (.lstore_n 0, 1) := by decide +kernel
theorem dJ13_bitCount_95d88_55 : decode cJ13_bitCount_95d88 55 = .ok (.lload_n 0, 1) := by decide +kernel
theorem dJ13_bitCount_95d88_56 : decode cJ13_bitCount_95d88 56 = .ok (.l2i, 1) := by decide +kernel
theorem dJ13_bitCount_95d88_57 : decode cJ13_bitCount_95d88 57 = .ok (.bipush 127, 2) := by decide +kernel
theorem dJ13_bitCount_95d88_59 : decode cJ13_bitCount_95d88 59 = .ok (.iand, 1) := by decide +kernel
theorem dJ13_bitCount_95d88_60 : decode cJ13_bitCount_95d88 60 = .ok (.ireturn, 1) := by decide +kernel
