theorem dX2_isMissing_0 : decode cX2_isMissing 0 = .ok (.aload_n 0, 1) := by decide +kernel
theorem dX2_isMissing_1 : decode cX2_isMissing 1 = .ok (.getfield 9, 3) := by decide +kernel
theorem dX2_isMissing_4 : decode cX2_isMissing 4 = .ok (.ifCond .ne 7, 3) := by decide +kernel
theorem dX2_isMissing_7 : decode cX2_isMissing 7 = .ok (.iconst 1, 1) := by decide +kernel
theorem dX2_isMissing_8 : decode cX2_isMissing 8 = .ok (.goto 4, 3) := by decide +kernel
theorem dX2_isMissing_11 : decode cX2_isMissing 11 = .ok (.iconst 0, 1) := by decide +kernel
theorem dX2_isMissing_12 : decode cX2_isMissing 12 = .ok (.ireturn, 1) := by decide +kernel
theorem dX2_renew_0 : decode cX2_renew 0 = .ok (.aload_n 0, 1) := by decide +kernel
theorem dX2_renew_1 : decode cX2_renew 1 = .ok (.iload_n 1, 1) := by decide +kernel
theorem dX2_renew_2 : decode cX2_renew 2 = .ok (.putfield 9, 3) := by decide +kernel
theorem dX2_renew_5 : decode cX2_renew 5 = .ok (.aload_n 0, 1) := by decide +kernel
theorem dX2_renew_6 : decode cX2_renew 6 = .ok (.iload_n 2, 1) := by decide +kernel
theorem dX2_renew_7 : decode cX2_renew 7 = .ok (.putfield 15, 3) := by decide +kernel
theorem dX2_renew_10 : decode cX2_renew 10 = .ok (.iconst 0, 1) := by decide +kernel
theorem dX2_renew_11 : decode cX2_renew 11 = .ok (.istore_n 3, 1) := by decide +kernel
theorem dX2_renew_12 : decode cX2_renew 12 = .ok (.iload_n 3, 1) := by decide +kernel
theorem dX2_renew_13 : decode cX2_renew 13 = .ok (.bipush 40, 2) := by decide +kernel
theorem dX2_renew_15 : decode cX2_renew 15 = .ok (.if_icmp .ge 16, 3) := by decide +kernel
theorem dX2_renew_18 : decode cX2_renew 18 = .ok (.aload_n 0, 1) := by decide +kernel
theorem dX2_renew_19 : decode cX2_renew 19 = .ok (.getfield 18, 3) := by decide +kernel
theorem dX2_renew_22 : decode cX2_renew 22 = .ok (.iload_n 3, 1) := by decide +kernel
theorem dX2_renew_23 : decode cX2_renew 23 = .ok (.lconst 0, 1) := by decide +kernel
theorem dX2_renew_24 : decode cX2_renew 24 = .ok (.lastore, 1) := by decide +kernel
theorem dX2_renew_25 : decode cX2_renew 25 = .ok (.iinc 3 1, 3) := by decide +kernel
theorem dX2_renew_28 : decode cX2_renew 28 = .ok (.goto (-16), 3) := by decide +kernel
theorem dX2_renew_31 : decode cX2_renew 31 = .ok (.return_, 1) := by decide +kernel
theorem dX2_put_0 : decode cX2_put 0 = .ok (.aload_n 0, 1) := by decide +kernel
theorem dX2_put_1 : decode cX2_put 1 = .ok (.getfield 18, 3) := by decide +kernel
theorem dX2_put_4 : decode cX2_put 4 = .ok (.iload_n 1, 1) := by decide +kernel
theorem dX2_put_5 : decode cX2_put 5 = .ok (.aload_n 0, 1) := by decide +kernel
theorem dX2_put_6 : decode cX2_put 6 = .ok (.getfield 9, 3) := by decide +kernel
theorem dX2_put_9 : decode cX2_put 9 = .ok (.bipush 64, 2) := by decide +kernel
theorem dX2_put_11 : decode cX2_put 11 = .ok (.if_icmp .ne 7, 3) := by decide +kernel
theorem dX2_put_14 : decode cX2_put 14 = .ok (.lload_n 2, 1) := by decide +kernel
theorem dX2_put_15 : decode cX2_put 15 = .ok (.goto 13, 3) := by decide +kernel
theorem dX2_put_18 : decode cX2_put 18 = .ok (.lload_n 2, 1) := by decide +kernel
theorem dX2_put_19 : decode cX2_put 19 = .ok (.lconst 1, 1) := by decide +kernel
theorem dX2_put_20 : decode cX2_put 20 = .ok (.aload_n 0, 1) := by decide +kernel
theorem dX2_put_21 : decode cX2_put 21 = .ok (.getfield 9, 3) := by decide +kernel
theorem dX2_put_24 : decode cX2_put 24 = .ok (.lshl, 1) := by decide +kernel
theorem dX2_put_25 : decode cX2_put 25 = .ok (.lconst 1, 1) := by decide +kernel
theorem dX2_put_26 : decode cX2_put 26 = .ok (.lsub, 1) := by decide +kernel
theorem dX2_put_27 : decode cX2_put 27 = .ok (.land, 1) := by decide +kernel
theorem dX2_put_28 : decode cX2_put 28 = .ok (.lastore, 1) := by decide +kernel
theorem dX2_put_29 : decode cX2_put 29 = .ok (.return_, 1) := by decide +kernel
theorem dX2_hasPart_0 : decode cX2_hasPart 0 = .ok (.iload_n 1, 1) := by decide +kernel
theorem dX2_hasPart_1 : decode cX2_hasPart 1 = .ok (.ifCond .lt 29, 3) := by decide +kernel
theorem dX2_hasPart_4 : decode cX2_hasPart 4 = .ok (.iload_n 2, 1) := by decide +kernel
theorem dX2_hasPart_5 : decode cX2_hasPart 5 = .ok (.ifCond .lt 25, 3) := by decide +kernel
theorem dX2_hasPart_8 : decode cX2_hasPart 8 = .ok (.iload_n 2, 1) := by decide +kernel
theorem dX2_hasPart_9 : decode cX2_hasPart 9 = .ok (.aload_n 0, 1) := by decide +kernel
theorem dX2_hasPart_10 : decode cX2_hasPart 10 = .ok (.getfield 15, 3) := by decide +kernel
theorem dX2_hasPart_13 : decode cX2_hasPart 13 = .ok (.if_icmp .gt 17, 3) := by decide +kernel
theorem dX2_hasPart_16 : decode cX2_hasPart 16 = .ok (.iload_n 1, 1) := by decide +kernel
theorem dX2_hasPart_17 : decode cX2_hasPart 17 = .ok (.aload_n 0, 1) := by decide +kernel
theorem dX2_hasPart_18 : decode cX2_hasPart 18 = .ok (.getfield 15, 3) := by decide +kernel
theorem dX2_hasPart_21 : decode cX2_hasPart 21 = .ok (.iload_n 2, 1) := by decide +kernel
theorem dX2_hasPart_22 : decode cX2_hasPart 22 = .ok (.isub, 1) := by decide +kernel
theorem dX2_hasPart_23 : decode cX2_hasPart 23 = .ok (.if_icmp .gt 7, 3) := by decide +kernel
theorem dX2_hasPart_26 : decode cX2_hasPart 26 = .ok (.iconst 1, 1) := by decide +kernel
theorem dX2_hasPart_27 : decode cX2_hasPart 27 = .ok (.goto 4, 3) := by decide +kernel
theorem dX2_hasPart_30 : decode cX2_hasPart 30 = .ok (.iconst 0, 1) := by decide +kernel
theorem dX2_hasPart_31 : decode cX2_hasPart 31 = .ok (.ireturn, 1) := by decide +kernel
theorem dX3_plan_0 : decode cX3_plan 0 = .ok (.aload_n 1, 1) := by decide +kernel
theorem dX3_plan_1 : decode cX3_plan 1 = .ok (.getfield 22, 3) := by decide +kernel
theorem dX3_plan_4 : decode cX3_plan 4 = .ok (.bipush 6, 2) := by decide +kernel
theorem dX3_plan_6 : decode cX3_plan 6 = .ok (.invokestatic 27, 3) := by decide +kernel
theorem dX3_plan_9 : decode cX3_plan 9 = .ok (.istore_n 2, 1) := by decide +kernel
theorem dX3_plan_10 : decode cX3_plan 10 = .ok (.iconst 1, 1) := by decide +kernel
theorem dX3_plan_11 : decode cX3_plan 11 = .ok (.iload_n 2, 1) := by decide +kernel
theorem dX3_plan_12 : decode cX3_plan 12 = .ok (.ishl, 1) := by decide +kernel
theorem dX3_plan_13 : decode cX3_plan 13 = .ok (.iconst 1, 1) := by decide +kernel
theorem dX3_plan_14 : decode cX3_plan 14 = .ok (.isub, 1) := by decide +kernel
theorem dX3_plan_15 : decode cX3_plan 15 = .ok (.istore_n 3, 1) := by decide +kernel
theorem dX3_plan_16 : decode cX3_plan 16 = .ok (.iload_n 3, 1) := by decide +kernel
theorem dX3_plan_17 : decode cX3_plan 17 = .ok (.ifCond .le 76, 3) := by decide +kernel
theorem dX3_plan_20 : decode cX3_plan 20 = .ok (.iconst 0, 1) := by decide +kernel
theorem dX3_plan_21 : decode cX3_plan 21 = .ok (.istore 4, 2) := by decide +kernel
theorem dX3_plan_23 : decode cX3_plan 23 = .ok (.iload 4, 2) := by decide +kernel
theorem dX3_plan_25 : decode cX3_plan 25 = .ok (.iload_n 2, 1) := by decide +kernel
theorem dX3_plan_26 : decode cX3_plan 26 = .ok (.if_icmp .ge 61, 3) := by decide +kernel
theorem dX3_plan_29 : decode cX3_plan 29 = .ok (.iload_n 3, 1) := by decide +kernel
theorem dX3_plan_30 : decode cX3_plan 30 = .ok (.iload 4, 2) := by decide +kernel
theorem dX3_plan_32 : decode cX3_plan 32 = .ok (.ishr, 1) := by decide +kernel
theorem dX3_plan_33 : decode cX3_plan 33 = .ok (.iconst 1, 1) := by decide +kernel
theorem dX3_plan_34 : decode cX3_plan 34 = .ok (.iand, 1) := by decide +kernel
theorem dX3_plan_35 : decode cX3_plan 35 = .ok (.iconst 1, 1) := by decide +kernel
theorem dX3_plan_36 : decode cX3_plan 36 = .ok (.if_icmp .ne 45, 3) := by decide +kernel
theorem dX3_plan_39 : decode cX3_plan 39 = .ok (.aload_n 0, 1) := by decide +kernel
theorem dX3_plan_40 : decode cX3_plan 40 = .ok (.aload_n 1, 1) := by decide +kernel
theorem dX3_plan_41 : decode cX3_plan 41 = .ok (.iload_n 3, 1) := by decide +kernel
theorem dX3_plan_42 : decode cX3_plan 42 = .ok (.iload 4, 2) := by decide +kernel
theorem dX3_plan_44 : decode cX3_plan 44 = .ok (.iload_n 2, 1) := by decide +kernel
theorem dX3_plan_45 : decode cX3_plan 45 = .ok (.invokevirtual 33, 3) := by decide +kernel
theorem dX3_plan_48 : decode cX3_plan 48 = .ok (.istore 5, 2) := by decide +kernel
theorem dX3_plan_50 : decode cX3_plan 50 = .ok (.aload_n 0, 1) := by decide +kernel
theorem dX3_plan_51 : decode cX3_plan 51 = .ok (.getfield 19, 3) := by decide +kernel
theorem dX3_plan_54 : decode cX3_plan 54 = .ok (.iload_n 3, 1) := by decide +kernel
theorem dX3_plan_55 : decode cX3_plan 55 = .ok (.bipush 6, 2) := by decide +kernel
theorem dX3_plan_57 : decode cX3_plan 57 = .ok (.imul, 1) := by decide +kernel
theorem dX3_plan_58 : decode cX3_plan 58 = .ok (.iload 4, 2) := by decide +kernel
theorem dX3_plan_60 : decode cX3_plan 60 = .ok (.iadd, 1) := by decide +kernel
theorem dX3_plan_61 : decode cX3_plan 61 = .ok (.iload 5, 2) := by decide +kernel
theorem dX3_plan_63 : decode cX3_plan 63 = .ok (.ifCond .ge 7, 3) := by decide +kernel
theorem dX3_plan_66 : decode cX3_plan 66 = .ok (.iconst 0, 1) := by decide +kernel
theorem dX3_plan_67 : decode cX3_plan 67 = .ok (.goto 13, 3) := by decide +kernel
theorem dX3_plan_70 : decode cX3_plan 70 = .ok (.aload_n 0, 1) := by decide +kernel
theorem dX3_plan_71 : decode cX3_plan 71 = .ok (.aload_n 1, 1) := by decide +kernel
theorem dX3_plan_72 : decode cX3_plan 72 = .ok (.iload_n 3, 1) := by decide +kernel
theorem dX3_plan_73 : decode cX3_plan 73 = .ok (.iload 4, 2) := by decide +kernel
theorem dX3_plan_75 : decode cX3_plan 75 = .ok (.iload 5, 2) := by decide +kernel
theorem dX3_plan_77 : decode cX3_plan 77 = .ok (.invokevirtual 37, 3) := by decide +kernel
theorem dX3_plan_80 : decode cX3_plan 80 = .ok (.iastore, 1) := by decide +kernel
theorem dX3_plan_81 : decode cX3_plan 81 = .ok (.iinc 4 1, 3) := by decide +kernel
theorem dX3_plan_84 : decode cX3_plan 84 = .ok (.goto (-61), 3) := by decide +kernel
theorem dX3_plan_87 : decode cX3_plan 87 = .ok (.iinc 3 (-1), 3) := by decide +kernel
theorem dX3_plan_90 : decode cX3_plan 90 = .ok (.goto (-74), 3) := by decide +kernel
theorem dX3_plan_93 : decode cX3_plan 93 = .ok (.aload_n 0, 1) := by decide +kernel
theorem dX3_plan_94 : decode cX3_plan 94 = .ok (.aload_n 1, 1) := by decide +kernel
theorem dX3_plan_95 : decode cX3_plan 95 = .ok (.iload_n 2, 1) := by decide +kernel
theorem dX3_plan_96 : decode cX3_plan 96 = .ok (.invokevirtual 40, 3) := by decide +kernel
theorem dX3_plan_99 : decode cX3_plan 99 = .ok (.return_, 1) := by decide +kernel
theorem dX3_walk_0 : decode cX3_walk 0 = .ok (.iconst 0, 1) := by decide +kernel
theorem dX3_walk_1 : decode cX3_walk 1 = .ok (.istore_n 3, 1) := by decide +kernel
theorem dX3_walk_2 : decode cX3_walk 2 = .ok (.iconst (-1), 1) := by decide +kernel
theorem dX3_walk_3 : decode cX3_walk 3 = .ok (.istore 4, 2) := by decide +kernel
theorem dX3_walk_5 : decode cX3_walk 5 = .ok (.aload_n 0, 1) := by decide +kernel
theorem dX3_walk_6 : decode cX3_walk 6 = .ok (.iconst 0, 1) := by decide +kernel
theorem dX3_walk_7 : decode cX3_walk 7 = .ok (.putfield 9, 3) := by decide +kernel
theorem dX3_walk_10 : decode cX3_walk 10 = .ok (.iconst 0, 1) := by decide +kernel
theorem dX3_walk_11 : decode cX3_walk 11 = .ok (.istore 5, 2) := by decide +kernel
theorem dX3_walk_13 : decode cX3_walk 13 = .ok (.iload 5, 2) := by decide +kernel
theorem dX3_walk_15 : decode cX3_walk 15 = .ok (.iload_n 2, 1) := by decide +kernel
theorem dX3_walk_16 : decode cX3_walk 16 = .ok (.if_icmp .ge 65, 3) := by decide +kernel
theorem dX3_walk_19 : decode cX3_walk 19 = .ok (.aload_n 0, 1) := by decide +kernel
theorem dX3_walk_20 : decode cX3_walk 20 = .ok (.aload_n 1, 1) := by decide +kernel
theorem dX3_walk_21 : decode cX3_walk 21 = .ok (.iload_n 3, 1) := by decide +kernel
theorem dX3_walk_22 : decode cX3_walk 22 = .ok (.iload 4, 2) := by decide +kernel
theorem dX3_walk_24 : decode cX3_walk 24 = .ok (.iload_n 2, 1) := by decide +kernel
theorem dX3_walk_25 : decode cX3_walk 25 = .ok (.invokevirtual 33, 3) := by decide +kernel
theorem dX3_walk_28 : decode cX3_walk 28 = .ok (.istore 6, 2) := by decide +kernel
theorem dX3_walk_30 : decode cX3_walk 30 = .ok (.iload 6, 2) := by decide +kernel
theorem dX3_walk_32 : decode cX3_walk 32 = .ok (.ifCond .ge 4, 3) := by decide +kernel
theorem dX3_walk_35 : decode cX3_walk 35 = .ok (.return_, 1) := by decide +kernel
theorem dX3_walk_36 : decode cX3_walk 36 = .ok (.iload 5, 2) := by decide +kernel
theorem dX3_walk_38 : decode cX3_walk 38 = .ok (.ifCond .ne 17, 3) := by decide +kernel
theorem dX3_walk_41 : decode cX3_walk 41 = .ok (.aload_n 0, 1) := by decide +kernel
theorem dX3_walk_42 : decode cX3_walk 42 = .ok (.aload_n 0, 1) := by decide +kernel
theorem dX3_walk_43 : decode cX3_walk 43 = .ok (.aload_n 1, 1) := by decide +kernel
theorem dX3_walk_44 : decode cX3_walk 44 = .ok (.iload_n 3, 1) := by decide +kernel
theorem dX3_walk_45 : decode cX3_walk 45 = .ok (.iload 4, 2) := by decide +kernel
theorem dX3_walk_47 : decode cX3_walk 47 = .ok (.iload 6, 2) := by decide +kernel
theorem dX3_walk_49 : decode cX3_walk 49 = .ok (.invokevirtual 37, 3) := by decide +kernel
theorem dX3_walk_52 : decode cX3_walk 52 = .ok (.putfield 9, 3) := by decide +kernel
theorem dX3_walk_55 : decode cX3_walk 55 = .ok (.aload_n 0, 1) := by decide +kernel
theorem dX3_walk_56 : decode cX3_walk 56 = .ok (.getfield 15, 3) := by decide +kernel
theorem dX3_walk_59 : decode cX3_walk 59 = .ok (.iload 5, 2) := by decide +kernel
theorem dX3_walk_61 : decode cX3_walk 61 = .ok (.iload 6, 2) := by decide +kernel
theorem dX3_walk_63 : decode cX3_walk 63 = .ok (.iastore, 1) := by decide +kernel
theorem dX3_walk_64 : decode cX3_walk 64 = .ok (.iload_n 3, 1) := by decide +kernel
theorem dX3_walk_65 : decode cX3_walk 65 = .ok (.iconst 1, 1) := by decide +kernel
theorem dX3_walk_66 : decode cX3_walk 66 = .ok (.iload 6, 2) := by decide +kernel
theorem dX3_walk_68 : decode cX3_walk 68 = .ok (.ishl, 1) := by decide +kernel
theorem dX3_walk_69 : decode cX3_walk 69 = .ok (.ior, 1) := by decide +kernel
theorem dX3_walk_70 : decode cX3_walk 70 = .ok (.istore_n 3, 1) := by decide +kernel
theorem dX3_walk_71 : decode cX3_walk 71 = .ok (.iload 6, 2) := by decide +kernel
theorem dX3_walk_73 : decode cX3_walk 73 = .ok (.istore 4, 2) := by decide +kernel
theorem dX3_walk_75 : decode cX3_walk 75 = .ok (.iinc 5 1, 3) := by decide +kernel
theorem dX3_walk_78 : decode cX3_walk 78 = .ok (.goto (-65), 3) := by decide +kernel
theorem dX3_walk_81 : decode cX3_walk 81 = .ok (.return_, 1) := by decide +kernel
theorem dX3_bestNext_0 : decode cX3_bestNext 0 = .ok (.iconst (-1), 1) := by decide +kernel
theorem dX3_bestNext_1 : decode cX3_bestNext 1 = .ok (.istore 5, 2) := by decide +kernel
theorem dX3_bestNext_3 : decode cX3_bestNext 3 = .ok (.iconst 0, 1) := by decide +kernel
theorem dX3_bestNext_4 : decode cX3_bestNext 4 = .ok (.istore 6, 2) := by decide +kernel
theorem dX3_bestNext_6 : decode cX3_bestNext 6 = .ok (.iconst 0, 1) := by decide +kernel
theorem dX3_bestNext_7 : decode cX3_bestNext 7 = .ok (.istore 7, 2) := by decide +kernel
theorem dX3_bestNext_9 : decode cX3_bestNext 9 = .ok (.iload 7, 2) := by decide +kernel
theorem dX3_bestNext_11 : decode cX3_bestNext 11 = .ok (.iload 4, 2) := by decide +kernel
theorem dX3_bestNext_13 : decode cX3_bestNext 13 = .ok (.if_icmp .ge 53, 3) := by decide +kernel
theorem dX3_bestNext_16 : decode cX3_bestNext 16 = .ok (.iload_n 2, 1) := by decide +kernel
theorem dX3_bestNext_17 : decode cX3_bestNext 17 = .ok (.iload 7, 2) := by decide +kernel
theorem dX3_bestNext_19 : decode cX3_bestNext 19 = .ok (.ishr, 1) := by decide +kernel
theorem dX3_bestNext_20 : decode cX3_bestNext 20 = .ok (.iconst 1, 1) := by decide +kernel
theorem dX3_bestNext_21 : decode cX3_bestNext 21 = .ok (.iand, 1) := by decide +kernel
theorem dX3_bestNext_22 : decode cX3_bestNext 22 = .ok (.iconst 1, 1) := by decide +kernel
theorem dX3_bestNext_23 : decode cX3_bestNext 23 = .ok (.if_icmp .ne 6, 3) := by decide +kernel
theorem dX3_bestNext_26 : decode cX3_bestNext 26 = .ok (.goto 34, 3) := by decide +kernel
theorem dX3_bestNext_29 : decode cX3_bestNext 29 = .ok (.aload_n 0, 1) := by decide +kernel
theorem dX3_bestNext_30 : decode cX3_bestNext 30 = .ok (.aload_n 1, 1) := by decide +kernel
theorem dX3_bestNext_31 : decode cX3_bestNext 31 = .ok (.iload_n 2, 1) := by decide +kernel
theorem dX3_bestNext_32 : decode cX3_bestNext 32 = .ok (.iload_n 3, 1) := by decide +kernel
theorem dX3_bestNext_33 : decode cX3_bestNext 33 = .ok (.iload 7, 2) := by decide +kernel
theorem dX3_bestNext_35 : decode cX3_bestNext 35 = .ok (.invokevirtual 37, 3) := by decide +kernel
theorem dX3_bestNext_38 : decode cX3_bestNext 38 = .ok (.istore 8, 2) := by decide +kernel
theorem dX3_bestNext_40 : decode cX3_bestNext 40 = .ok (.iload 5, 2) := by decide +kernel
theorem dX3_bestNext_42 : decode cX3_bestNext 42 = .ok (.ifCond .lt 10, 3) := by decide +kernel
theorem dX3_bestNext_45 : decode cX3_bestNext 45 = .ok (.iload 8, 2) := by decide +kernel
theorem dX3_bestNext_47 : decode cX3_bestNext 47 = .ok (.iload 6, 2) := by decide +kernel
theorem dX3_bestNext_49 : decode cX3_bestNext 49 = .ok (.if_icmp .ge 11, 3) := by decide +kernel
theorem dX3_bestNext_52 : decode cX3_bestNext 52 = .ok (.iload 7, 2) := by decide +kernel
theorem dX3_bestNext_54 : decode cX3_bestNext 54 = .ok (.istore 5, 2) := by decide +kernel
theorem dX3_bestNext_56 : decode cX3_bestNext 56 = .ok (.iload 8, 2) := by decide +kernel
theorem dX3_bestNext_58 : decode cX3_bestNext 58 = .ok (.istore 6, 2) := by decide +kernel
theorem dX3_bestNext_60 : decode cX3_bestNext 60 = .ok (.iinc 7 1, 3) := by decide +kernel
theorem dX3_bestNext_63 : decode cX3_bestNext 63 = .ok (.goto (-54), 3) := by decide +kernel
theorem dX3_bestNext_66 : decode cX3_bestNext 66 = .ok (.iload 5, 2) := by decide +kernel
theorem dX3_bestNext_68 : decode cX3_bestNext 68 = .ok (.ireturn, 1) := by decide +kernel
theorem dX3_costVia_0 : decode cX3_costVia 0 = .ok (.iload_n 3, 1) := by decide +kernel
theorem dX3_costVia_1 : decode cX3_costVia 1 = .ok (.ifCond .ge 7, 3) := by decide +kernel
theorem dX3_costVia_4 : decode cX3_costVia 4 = .ok (.iconst 0, 1) := by decide +kernel
theorem dX3_costVia_5 : decode cX3_costVia 5 = .ok (.goto 10, 3) := by decide +kernel
theorem dX3_costVia_8 : decode cX3_costVia 8 = .ok (.aload_n 1, 1) := by decide +kernel
theorem dX3_costVia_9 : decode cX3_costVia 9 = .ok (.iload_n 3, 1) := by decide +kernel
theorem dX3_costVia_10 : decode cX3_costVia 10 = .ok (.iload 4, 2) := by decide +kernel
theorem dX3_costVia_12 : decode cX3_costVia 12 = .ok (.invokevirtual 44, 3) := by decide +kernel
theorem dX3_costVia_15 : decode cX3_costVia 15 = .ok (.istore 5, 2) := by decide +kernel
theorem dX3_costVia_17 : decode cX3_costVia 17 = .ok (.iload 5, 2) := by decide +kernel
theorem dX3_costVia_19 : decode cX3_costVia 19 = .ok (.aload_n 0, 1) := by decide +kernel
theorem dX3_costVia_20 : decode cX3_costVia 20 = .ok (.getfield 19, 3) := by decide +kernel
theorem dX3_costVia_23 : decode cX3_costVia 23 = .ok (.iload_n 2, 1) := by decide +kernel
theorem dX3_costVia_24 : decode cX3_costVia 24 = .ok (.iconst 1, 1) := by decide +kernel
theorem dX3_costVia_25 : decode cX3_costVia 25 = .ok (.iload 4, 2) := by decide +kernel
theorem dX3_costVia_27 : decode cX3_costVia 27 = .ok (.ishl, 1) := by decide +kernel
theorem dX3_costVia_28 : decode cX3_costVia 28 = .ok (.ior, 1) := by decide +kernel
theorem dX3_costVia_29 : decode cX3_costVia 29 = .ok (.bipush 6, 2) := by decide +kernel
theorem dX3_costVia_31 : decode cX3_costVia 31 = .ok (.imul, 1) := by decide +kernel
theorem dX3_costVia_32 : decode cX3_costVia 32 = .ok (.iload 4, 2) := by decide +kernel
theorem dX3_costVia_34 : decode cX3_costVia 34 = .ok (.iadd, 1) := by decide +kernel
theorem dX3_costVia_35 : decode cX3_costVia 35 = .ok (.iaload, 1) := by decide +kernel
theorem dX3_costVia_36 : decode cX3_costVia 36 = .ok (.iadd, 1) := by decide +kernel
theorem dX3_costVia_37 : decode cX3_costVia 37 = .ok (.ireturn, 1) := by decide +kernel
theorem dX7_hasRoomFor_0 : decode cX7_hasRoomFor 0 = .ok (.iload_n 1, 1) := by decide +kernel
theorem dX7_hasRoomFor_1 : decode cX7_hasRoomFor 1 = .ok (.bipush 120, 2) := by decide +kernel
theorem dX7_hasRoomFor_3 : decode cX7_hasRoomFor 3 = .ok (.aload_n 0, 1) := by decide +kernel
theorem dX7_hasRoomFor_4 : decode cX7_hasRoomFor 4 = .ok (.getfield 9, 3) := by decide +kernel
theorem dX7_hasRoomFor_7 : decode cX7_hasRoomFor 7 = .ok (.isub, 1) := by decide +kernel
theorem dX7_hasRoomFor_8 : decode cX7_hasRoomFor 8 = .ok (.if_icmp .gt 7, 3) := by decide +kernel
theorem dX7_hasRoomFor_11 : decode cX7_hasRoomFor 11 = .ok (.iconst 1, 1) := by decide +kernel
theorem dX7_hasRoomFor_12 : decode cX7_hasRoomFor 12 = .ok (.goto 4, 3) := by decide +kernel
theorem dX7_hasRoomFor_15 : decode cX7_hasRoomFor 15 = .ok (.iconst 0, 1) := by decide +kernel
theorem dX7_hasRoomFor_16 : decode cX7_hasRoomFor 16 = .ok (.ireturn, 1) := by decide +kernel
theorem dX7_add_0 : decode cX7_add 0 = .ok (.aload_n 0, 1) := by decide +kernel
theorem dX7_add_1 : decode cX7_add 1 = .ok (.getfield 15, 3) := by decide +kernel
theorem dX7_add_4 : decode cX7_add 4 = .ok (.aload_n 0, 1) := by decide +kernel
theorem dX7_add_5 : decode cX7_add 5 = .ok (.getfield 9, 3) := by decide +kernel
theorem dX7_add_8 : decode cX7_add 8 = .ok (.iload_n 1, 1) := by decide +kernel
theorem dX7_add_9 : decode cX7_add 9 = .ok (.sipush 255, 3) := by decide +kernel
theorem dX7_add_12 : decode cX7_add 12 = .ok (.iand, 1) := by decide +kernel
theorem dX7_add_13 : decode cX7_add 13 = .ok (.iastore, 1) := by decide +kernel
theorem dX7_add_14 : decode cX7_add 14 = .ok (.aload_n 0, 1) := by decide +kernel
theorem dX7_add_15 : decode cX7_add 15 = .ok (.dup, 1) := by decide +kernel
theorem dX7_add_16 : decode cX7_add 16 = .ok (.getfield 9, 3) := by decide +kernel
theorem dX7_add_19 : decode cX7_add 19 = .ok (.iconst 1, 1) := by decide +kernel
theorem dX7_add_20 : decode cX7_add 20 = .ok (.iadd, 1) := by decide +kernel
theorem dX7_add_21 : decode cX7_add 21 = .ok (.putfield 9, 3) := by decide +kernel
theorem dX7_add_24 : decode cX7_add 24 = .ok (.return_, 1) := by decide +kernel
def w_p_isMissing : List Cond := .code yX2_isMissing cX2_isMissing 1 (some .boolean) :: (([.fieldLink RX2 9 "LampShapes$Paper" "bits" "I"] : List Cond) ++ wsX20)
set_option maxHeartbeats 4000000 in
set_option maxRecDepth 100000 in
theorem p_isMissing (l : Launch) (dC : Nat → ClassId) (dI : Nat → Nat → Nat) (ad : Nat → Nat) (h0 : Nat) (bt : Int32) (w1 : Value) (w2 : Value) : Met l yX2_isMissing w_p_isMissing ({ frames := 0, cells := 0, slots := 0, locals := 0 } : Room) (va_Pc [.ref h0] (preS dC dI ad [] [(h0, .inr (0, [.int bt, w1, w2]))])) (vp_Si (fun r => (r.toInt = 1 ∧ bt.toInt = 0) ∨ (r.toInt = 0 ∧ ¬ bt.toInt = 0))) 0 0 (fun _ => False) := by
  refine Met.ofW (cc := cX2_isMissing) (maxL := 1) (ret := (some .boolean)) (by decide) rfl ?_
  intro p e s m args below meth c s₁ B hml hv
  obtain ⟨rfl, hP, hK, hev⟩ := hv
  have hx := B.exec
  have hb := B.bytes
  have hr := B.returns
  have hts := atoms_spec (ws := w_p_isMissing) B.pre
  have hown : s.vm.findClass RX2 = some m.cls := findClass_of_methodNamed B.named
  have hlocks := B.notSynchronized
  have inX2 : ∀ w ∈ wsX20, w ∈ w_p_isMissing := fun w h => List.mem_cons_of_mem _ (List.mem_append_right _ h)
  have hP : va_P (dC, dI) vwCl [(h0, .inr (0, [.int bt, w1, w2]))] s.heap := hP
  have hl := lv_entry ([.ref h0]) (n := 1) (Nat.le_of_ble_eq_true rfl)
  rw [lg_entry_eq]
  generalize (lg_sl ([.ref h0]) ++ List.replicate (1 - (lg_sl ([.ref h0])).length) Slot.unset).toArray = ls at hl ⊢
  have hl : lv_has ls 1 [(0, .ref h0)] := hl
  refine lv_aload_n hx hb dX2_isMissing_0 rfl (lv_at hl 0 rfl) ?_
  refine va_get (D := (dC, dI)) (ci := 0) (v := .int bt) (C := RX2) (T := TX2) (N := 3) hx hb hts inX2 hown hK hP 0 rfl rfl 0 (by decide) (hts _ (List.mem_of_getElem? (i := 1) rfl)) (fun _ h9 => h9) rfl dX2_isMissing_1 ?_
  refine lv_if_ne (tgt := 11) hx hb dX2_isMissing_4 (by decide) (fun c_1 => ?_) (fun c_1 => ?_)
  · skip
    have tc_1 : ¬ bt.toInt = 0 := fun h => c_1 ((fa_eq _ _).mpr h)
    refine lv_iconst (v := 0) hx hb dX2_isMissing_11 (by decide) ?_
    exact W.zret (v := (0 : Int32)) hx hb hr (by decide) (fun t ht hW => ⟨(0 : Int32), rfl, (by first | omega | decide | (simp only [fa_lt, fa_le, fa_eq, and_true, true_and, and_false, false_and, not_true_eq_false, not_false_eq_true, li_0, li_1, li_2, li_3, li_4, li_5, li_6, li_7, li_8, li_9, li_10, li_12, li_15, li_16, li_20, li_30, li_34, li_38, li_40, li_63, li_64, li_65, li_78, li_120, li_1000, li_4000, li_10000, li_11077, li_255, li_65535, li_m1, li_m2, li_m1000000001, li_m1000000002, li_m1000000003, li_m1000000004, li_m1000000005, li_m1000000006, li_m1000000007, or_true, true_or, or_false, false_or, implies_true, true_implies, false_implies] <;> omega)), ht⟩) (fun _ h => absurd h List.not_mem_nil) dX2_isMissing_12
  · skip
    have tc_1 : bt.toInt = 0 := (fa_eq _ _).mp c_1
    refine lv_iconst (v := 1) hx hb dX2_isMissing_7 (by decide) ?_
    refine lv_goto (tgt := 12) hx hb dX2_isMissing_8 (by decide) ?_
    exact W.zret (v := (1 : Int32)) hx hb hr (by decide) (fun t ht hW => ⟨(1 : Int32), rfl, (by first | omega | decide | (simp only [fa_lt, fa_le, fa_eq, and_true, true_and, and_false, false_and, not_true_eq_false, not_false_eq_true, li_0, li_1, li_2, li_3, li_4, li_5, li_6, li_7, li_8, li_9, li_10, li_12, li_15, li_16, li_20, li_30, li_34, li_38, li_40, li_63, li_64, li_65, li_78, li_120, li_1000, li_4000, li_10000, li_11077, li_255, li_65535, li_m1, li_m2, li_m1000000001, li_m1000000002, li_m1000000003, li_m1000000004, li_m1000000005, li_m1000000006, li_m1000000007, or_true, true_or, or_false, false_or, implies_true, true_implies, false_implies] <;> omega)), ht⟩) (fun _ h => absurd h List.not_mem_nil) dX2_isMissing_12

def w_p_renew : List Cond := .code yX2_renew cX2_renew 4 none :: (([.fieldLink RX2 9 "LampShapes$Paper" "bits" "I", .fieldLink RX2 15 "LampShapes$Paper" "size" "I", .fieldLink RX2 18 "LampShapes$Paper" "numbers" "[J"] : List Cond) ++ wsX20)
set_option maxHeartbeats 4000000 in
set_option maxRecDepth 100000 in
theorem p_renew (l : Launch) (dC : Nat → ClassId) (dI : Nat → Nat → Nat) (ad : Nat → Nat) (h0 : Nat) (a : Int32) (b : Int32) (w0 : Value) (w1 : Value) (q0 : Nat) (c0 : ClassId) (f0 : Nat → Int64) (sz : Nat) : Met l yX2_renew w_p_renew ({ frames := 0, cells := 0, slots := 0, locals := 0 } : Room) (va_Pc [.ref h0, .int a, .int b] (preM dC dI ad [(c0, .long)] [(h0, .inr (0, [w0, w1, .ref q0])), (q0, .inl (c0, 40, .inr (.inl f0)))] sz)) (va_Qv (fun (_ : Unit) => True) (fun _ t => ∃ (g0 : Nat → Int64), va_P (dC, dI) vwCl [(h0, .inr (0, [.int a, .int b, .ref q0])), (q0, .inl (c0, 40, .inr (.inl g0)))] t.heap ∧ va_K (dC, dI) vwCl [(c0, .long)] t ∧ va_D (va_A [(h0, .inr (0, [w0, w1, .ref q0])), (q0, .inl (c0, 40, .inr (.inl f0)))] sz) [(h0, .inr (0, [.int a, .int b, .ref q0])), (q0, .inl (c0, 40, .inr (.inl g0)))]) (va_A [(h0, .inr (0, [w0, w1, .ref q0])), (q0, .inl (c0, 40, .inr (.inl f0)))] sz)) 0 0 (va_A [(h0, .inr (0, [w0, w1, .ref q0])), (q0, .inl (c0, 40, .inr (.inl f0)))] sz) := by
  refine Met.ofW (cc := cX2_renew) (maxL := 4) (ret := none) (by decide) rfl ?_
  intro p e s m args below meth c s₁ B hml hv
  obtain ⟨rfl, hsz, hP, hK, hD0, hev⟩ := hv
  have hx := B.exec
  have hb := B.bytes
  have hr := B.returns
  have hts := atoms_spec (ws := w_p_renew) B.pre
  have hown : s.vm.findClass RX2 = some m.cls := findClass_of_methodNamed B.named
  have hlocks := B.notSynchronized
  have inX2 : ∀ w ∈ wsX20, w ∈ w_p_renew := fun w h => List.mem_cons_of_mem _ (List.mem_append_right _ h)
  subst hsz
  have hD := hD0.self (sz := s.heap.size)
  generalize hAe : va_A [(h0, .inr (0, [w0, w1, .ref q0])), (q0, .inl (c0, 40, .inr (.inl f0)))] s.heap.size = A at hD ⊢
  have hA : ∀ q : Nat, s.heap.size ≤ q → A q := fun q h => by rw [← hAe]; exact Or.inr h
  have hS : va_S A s.heap s.heap [] := va_S.rf
  have hP : va_P (dC, dI) vwCl [(h0, .inr (0, [w0, w1, .ref q0])), (q0, .inl (c0, 40, .inr (.inl f0)))] s.heap := hP
  have hl := lv_entry ([.ref h0, .int a, .int b]) (n := 4) (Nat.le_of_ble_eq_true rfl)
  rw [lg_entry_eq]
  generalize (lg_sl ([.ref h0, .int a, .int b]) ++ List.replicate (4 - (lg_sl ([.ref h0, .int a, .int b])).length) Slot.unset).toArray = ls at hl ⊢
  have hl : lv_has ls 4 [(0, .ref h0), (1, .int a), (2, .int b)] := hl
  refine lv_aload_n hx hb dX2_renew_0 rfl (lv_at hl 0 rfl) ?_
  refine lv_iload_n hx hb dX2_renew_1 rfl (lv_at hl 1 rfl) ?_
  refine va_put (D := (dC, dI)) (ci := 0) (v := .int a) (ty := .int) (C := RX2) (T := TX2) (N := 3) hx hb hts inX2 tyX2 tyX2_ok nmX2 hown hK hP hD hS 0 rfl rfl 0 (by decide) (hts _ (List.mem_of_getElem? (i := 1) rfl)) (fun _ h9 => h9) rfl (by decide +kernel) rfl rfl (Nat.le_of_ble_eq_true rfl) dX2_renew_2 (fun H locs hP hD hS => ?_)
  have hP : va_P (dC, dI) vwCl [(h0, .inr (0, [.int a, w1, .ref q0])), (q0, .inl (c0, 40, .inr (.inl f0)))] H := hP
  have hD : va_D A [(h0, .inr (0, [.int a, w1, .ref q0])), (q0, .inl (c0, 40, .inr (.inl f0)))] := hD
  refine lv_aload_n hx hb dX2_renew_5 rfl (lv_at hl 0 rfl) ?_
  refine lv_iload_n hx hb dX2_renew_6 rfl (lv_at hl 2 rfl) ?_
  refine va_put (D := (dC, dI)) (ci := 0) (v := .int b) (ty := .int) (C := RX2) (T := TX2) (N := 3) hx hb hts inX2 tyX2 tyX2_ok nmX2 hown hK hP hD hS 0 rfl rfl 1 (by decide) (hts _ (List.mem_of_getElem? (i := 2) rfl)) (fun _ h9 => h9) rfl (by decide +kernel) rfl rfl (Nat.le_of_ble_eq_true rfl) dX2_renew_7 (fun H locs hP hD hS => ?_)
  have hP : va_P (dC, dI) vwCl [(h0, .inr (0, [.int a, .int b, .ref q0])), (q0, .inl (c0, 40, .inr (.inl f0)))] H := hP
  have hD : va_D A [(h0, .inr (0, [.int a, .int b, .ref q0])), (q0, .inl (c0, 40, .inr (.inl f0)))] := hD
  refine lv_iconst (v := 0) hx hb dX2_renew_10 (by decide) ?_
  refine lv_istore_n (lv' := [(3, .int 0), (0, .ref h0), (1, .int a), (2, .int b)]) hx hb dX2_renew_11 rfl hl (by decide) rfl (fun ls hl => ?_)
  refine pp_loop (ι := Int32 × (Nat → Int64)) (fun ⟨v3_12, y0⟩ => (40 - v3_12.toInt).toNat) (fun ⟨v3_12, y0⟩ H locs ls => (0 ≤ v3_12.toInt) ∧ (v3_12.toInt ≤ 40) ∧ va_P (dC, dI) vwCl [(h0, .inr (0, [.int a, .int b, .ref q0])), (q0, .inl (c0, 40, .inr (.inl y0)))] H ∧ va_D A [(h0, .inr (0, [.int a, .int b, .ref q0])), (q0, .inl (c0, 40, .inr (.inl y0)))] ∧ va_S A s.heap H locs ∧ lv_has ls 4 [(3, .int v3_12), (0, .ref h0), (1, .int a), (2, .int b)]) ?_ (0, f0) _ _ _ ⟨(by first | omega | decide | (simp only [fa_lt, fa_le, fa_eq, and_true, true_and, and_false, false_and, not_true_eq_false, not_false_eq_true, li_0, li_1, li_2, li_3, li_4, li_5, li_6, li_7, li_8, li_9, li_10, li_12, li_15, li_16, li_20, li_30, li_34, li_38, li_40, li_63, li_64, li_65, li_78, li_120, li_1000, li_4000, li_10000, li_11077, li_255, li_65535, li_m1, li_m2, li_m1000000001, li_m1000000002, li_m1000000003, li_m1000000004, li_m1000000005, li_m1000000006, li_m1000000007, or_true, true_or, or_false, false_or, implies_true, true_implies, false_implies] <;> omega)), (by first | omega | decide | (simp only [fa_lt, fa_le, fa_eq, and_true, true_and, and_false, false_and, not_true_eq_false, not_false_eq_true, li_0, li_1, li_2, li_3, li_4, li_5, li_6, li_7, li_8, li_9, li_10, li_12, li_15, li_16, li_20, li_30, li_34, li_38, li_40, li_63, li_64, li_65, li_78, li_120, li_1000, li_4000, li_10000, li_11077, li_255, li_65535, li_m1, li_m2, li_m1000000001, li_m1000000002, li_m1000000003, li_m1000000004, li_m1000000005, li_m1000000006, li_m1000000007, or_true, true_or, or_false, false_or, implies_true, true_implies, false_implies] <;> omega)), hP.sub [0, 1] rfl, hD.sub [0, 1] (by decide) rfl, hS, lv_sub hl [0, 1, 2, 3] rfl⟩
  intro k_1 ihk_1 u H locs ls hm hI
  obtain ⟨v3_12, y0⟩ := u
  obtain ⟨jk_1_0, jk_1_1, hP, hD, hS, hl⟩ := hI
  have hmk_1 : (40 - v3_12.toInt).toNat < k_1 + 1 := hm
  clear hm
  have jk_1_0 : 0 ≤ v3_12.toInt := jk_1_0
  have jk_1_1 : v3_12.toInt ≤ 40 := jk_1_1
  have hl : lv_has ls 4 [(3, .int v3_12), (0, .ref h0), (1, .int a), (2, .int b)] := hl
  have hP : va_P (dC, dI) vwCl [(h0, .inr (0, [.int a, .int b, .ref q0])), (q0, .inl (c0, 40, .inr (.inl y0)))] H := hP
  have hD : va_D A [(h0, .inr (0, [.int a, .int b, .ref q0])), (q0, .inl (c0, 40, .inr (.inl y0)))] := hD
  refine lv_iload_n hx hb dX2_renew_12 rfl (lv_at hl 0 rfl) ?_
  refine lv_bipush (v := 40) hx hb dX2_renew_13 (by decide) ?_
  refine lv_icmp_ge (tgt := 31) hx hb dX2_renew_15 (by decide) (fun c_2 => ?_) (fun c_2 => ?_)
  · skip
    have tc_2 : 40 ≤ v3_12.toInt := (fa_le _ _).mp c_2
    have hP9 := hP.sub (ws' := [(h0, .inr (0, [.int a, .int b, .ref q0])), (q0, .inl (c0, 40, .inr (.inl y0)))]) [0, 1] rfl
    have hD9 := hD.sub (ws' := [(h0, .inr (0, [.int a, .int b, .ref q0])), (q0, .inl (c0, 40, .inr (.inl y0)))]) [0, 1] (by decide) rfl
    have hK9 := hK.sub (tys' := [(c0, .long)]) [0] rfl
    exact W.vret hx hb hr (fun t ht hW => ⟨⟨(), rfl, trivial, y0, by rw [ht]; exact hP9, va_K.moved hW.alike hK9, hD9⟩, hS.F ht⟩) hS.2.2 dX2_renew_31
  · skip
    have tc_2 : ¬ 40 ≤ v3_12.toInt := fun h => c_2 ((fa_le _ _).mpr h)
    refine lv_aload_n hx hb dX2_renew_18 rfl (lv_at hl 1 rfl) ?_
    refine va_get (D := (dC, dI)) (ci := 0) (v := .ref q0) (C := RX2) (T := TX2) (N := 3) hx hb hts inX2 hown hK hP 0 rfl rfl 2 (by decide) (hts _ (List.mem_of_getElem? (i := 3) rfl)) (fun _ h9 => h9) rfl dX2_renew_19 ?_
    refine lv_iload_n hx hb dX2_renew_22 rfl (lv_at hl 0 rfl) ?_
    refine lv_lconst (v := 0) hx hb dX2_renew_23 (by decide) ?_
    refine va_last hx hb hK hP hD hS 1 0 rfl rfl (vp_in_iff.mpr ⟨by omega, by omega⟩) dX2_renew_24 (fun H locs hP hD hS => ?_)
    have hP : va_P (dC, dI) vwCl [(h0, .inr (0, [.int a, .int b, .ref q0])), (q0, .inl (c0, 40, .inr (.inl (vp_updL y0 v3_12.toNatClampNeg 0))))] H := hP
    have hD : va_D A [(h0, .inr (0, [.int a, .int b, .ref q0])), (q0, .inl (c0, 40, .inr (.inl (vp_updL y0 v3_12.toNatClampNeg 0))))] := hD
    obtain ⟨n_3, en_3⟩ : ∃ y : Int32, y = v3_12 + 1 := ⟨_, rfl⟩
    have tn_3 : n_3.toInt = v3_12.toInt + 1 := pp_add en_3 rfl rfl (by omega) (by omega)
    refine lv_iinc (v := n_3) (lv' := [(3, .int n_3), (0, .ref h0), (1, .int a), (2, .int b)]) hx hb dX2_renew_25 hl (k := 0) rfl (by rw [en_3]; rfl) (by decide) rfl (fun ls hl => ?_)
    clear en_3
    refine lv_goto (tgt := 12) hx hb dX2_renew_28 (by decide) ?_
    exact ihk_1 (n_3, (vp_updL y0 v3_12.toNatClampNeg 0)) _ _ _ (by show (40 - n_3.toInt).toNat < k_1; omega) ⟨(by first | omega | decide | (simp only [fa_lt, fa_le, fa_eq, and_true, true_and, and_false, false_and, not_true_eq_false, not_false_eq_true, li_0, li_1, li_2, li_3, li_4, li_5, li_6, li_7, li_8, li_9, li_10, li_12, li_15, li_16, li_20, li_30, li_34, li_38, li_40, li_63, li_64, li_65, li_78, li_120, li_1000, li_4000, li_10000, li_11077, li_255, li_65535, li_m1, li_m2, li_m1000000001, li_m1000000002, li_m1000000003, li_m1000000004, li_m1000000005, li_m1000000006, li_m1000000007, or_true, true_or, or_false, false_or, implies_true, true_implies, false_implies] <;> omega)), (by first | omega | decide | (simp only [fa_lt, fa_le, fa_eq, and_true, true_and, and_false, false_and, not_true_eq_false, not_false_eq_true, li_0, li_1, li_2, li_3, li_4, li_5, li_6, li_7, li_8, li_9, li_10, li_12, li_15, li_16, li_20, li_30, li_34, li_38, li_40, li_63, li_64, li_65, li_78, li_120, li_1000, li_4000, li_10000, li_11077, li_255, li_65535, li_m1, li_m2, li_m1000000001, li_m1000000002, li_m1000000003, li_m1000000004, li_m1000000005, li_m1000000006, li_m1000000007, or_true, true_or, or_false, false_or, implies_true, true_implies, false_implies] <;> omega)), hP.sub [0, 1] rfl, hD.sub [0, 1] (by decide) rfl, hS, lv_sub hl [0, 1, 2, 3] rfl⟩

def w_p_put : List Cond := .code yX2_put cX2_put 4 none :: (([.fieldLink RX2 18 "LampShapes$Paper" "numbers" "[J", .fieldLink RX2 9 "LampShapes$Paper" "bits" "I"] : List Cond) ++ wsX20)
set_option maxHeartbeats 4000000 in
set_option maxRecDepth 100000 in
theorem p_put (l : Launch) (dC : Nat → ClassId) (dI : Nat → Nat → Nat) (ad : Nat → Nat) (h0 : Nat) (k : Int32) (a : Int64) (bt : Int32) (w1 : Value) (q0 : Nat) (c0 : ClassId) (f0 : Nat → Int64) (sz : Nat) (hk : 0 ≤ k.toInt ∧ k.toInt ≤ 39) : Met l yX2_put w_p_put ({ frames := 0, cells := 0, slots := 0, locals := 0 } : Room) (va_Pc [.ref h0, .int k, .long a] (preM dC dI ad [(c0, .long)] [(h0, .inr (0, [.int bt, w1, .ref q0])), (q0, .inl (c0, 40, .inr (.inl f0)))] sz)) (va_Qv (fun (_ : Unit) => True) (fun _ t => ∃ (g0 : Nat → Int64), va_P (dC, dI) vwCl [(h0, .inr (0, [.int bt, w1, .ref q0])), (q0, .inl (c0, 40, .inr (.inl g0)))] t.heap ∧ va_K (dC, dI) vwCl [(c0, .long)] t ∧ va_D (va_A [(h0, .inr (0, [.int bt, w1, .ref q0])), (q0, .inl (c0, 40, .inr (.inl f0)))] sz) [(h0, .inr (0, [.int bt, w1, .ref q0])), (q0, .inl (c0, 40, .inr (.inl g0)))]) (va_A [(h0, .inr (0, [.int bt, w1, .ref q0])), (q0, .inl (c0, 40, .inr (.inl f0)))] sz)) 0 0 (va_A [(h0, .inr (0, [.int bt, w1, .ref q0])), (q0, .inl (c0, 40, .inr (.inl f0)))] sz) := by
  refine Met.ofW (cc := cX2_put) (maxL := 4) (ret := none) (by decide) rfl ?_
  intro p e s m args below meth c s₁ B hml hv
  obtain ⟨rfl, hsz, hP, hK, hD0, hev⟩ := hv
  have hx := B.exec
  have hb := B.bytes
  have hr := B.returns
  have hts := atoms_spec (ws := w_p_put) B.pre
  have hown : s.vm.findClass RX2 = some m.cls := findClass_of_methodNamed B.named
  have hlocks := B.notSynchronized
  have inX2 : ∀ w ∈ wsX20, w ∈ w_p_put := fun w h => List.mem_cons_of_mem _ (List.mem_append_right _ h)
  subst hsz
  have hD := hD0.self (sz := s.heap.size)
  generalize hAe : va_A [(h0, .inr (0, [.int bt, w1, .ref q0])), (q0, .inl (c0, 40, .inr (.inl f0)))] s.heap.size = A at hD ⊢
  have hA : ∀ q : Nat, s.heap.size ≤ q → A q := fun q h => by rw [← hAe]; exact Or.inr h
  have hS : va_S A s.heap s.heap [] := va_S.rf
  have hP : va_P (dC, dI) vwCl [(h0, .inr (0, [.int bt, w1, .ref q0])), (q0, .inl (c0, 40, .inr (.inl f0)))] s.heap := hP
  have hl := lv_entry ([.ref h0, .int k, .long a]) (n := 4) (Nat.le_of_ble_eq_true rfl)
  rw [lg_entry_eq]
  generalize (lg_sl ([.ref h0, .int k, .long a]) ++ List.replicate (4 - (lg_sl ([.ref h0, .int k, .long a])).length) Slot.unset).toArray = ls at hl ⊢
  have hl : lv_has ls 4 [(0, .ref h0), (1, .int k), (2, .long a)] := hl
  refine lv_aload_n hx hb dX2_put_0 rfl (lv_at hl 0 rfl) ?_
  refine va_get (D := (dC, dI)) (ci := 0) (v := .ref q0) (C := RX2) (T := TX2) (N := 3) hx hb hts inX2 hown hK hP 0 rfl rfl 2 (by decide) (hts _ (List.mem_of_getElem? (i := 1) rfl)) (fun _ h9 => h9) rfl dX2_put_1 ?_
  refine lv_iload_n hx hb dX2_put_4 rfl (lv_at hl 1 rfl) ?_
  refine lv_aload_n hx hb dX2_put_5 rfl (lv_at hl 0 rfl) ?_
  refine va_get (D := (dC, dI)) (ci := 0) (v := .int bt) (C := RX2) (T := TX2) (N := 3) hx hb hts inX2 hown hK hP 0 rfl rfl 0 (by decide) (hts _ (List.mem_of_getElem? (i := 2) rfl)) (fun _ h9 => h9) rfl dX2_put_6 ?_
  refine lv_bipush (v := 64) hx hb dX2_put_9 (by decide) ?_
  refine lv_icmp_ne (tgt := 18) hx hb dX2_put_11 (by decide) (fun c_1 => ?_) (fun c_1 => ?_)
  · skip
    have tc_1 : ¬ bt.toInt = 64 := fun h => c_1 ((fa_eq _ _).mpr h)
    refine lv_lload_n hx hb dX2_put_18 rfl (lv_at hl 2 rfl) ?_
    refine lv_lconst (v := 1) hx hb dX2_put_19 (by decide) ?_
    refine lv_aload_n hx hb dX2_put_20 rfl (lv_at hl 0 rfl) ?_
    refine va_get (D := (dC, dI)) (ci := 0) (v := .int bt) (C := RX2) (T := TX2) (N := 3) hx hb hts inX2 hown hK hP 0 rfl rfl 0 (by decide) (hts _ (List.mem_of_getElem? (i := 2) rfl)) (fun _ h9 => h9) rfl dX2_put_21 ?_
    obtain ⟨n_2, en_2⟩ : ∃ z : Int64, z = (1 : Int64) <<< (bt.toInt64 &&& 63) := ⟨_, rfl⟩
    refine lv_lshl (v := n_2) hx hb dX2_put_24 en_2.symm ?_
    clear en_2
    refine lv_lconst (v := 1) hx hb dX2_put_25 (by decide) ?_
    refine lv_lsub hx hb dX2_put_26 ?_
    refine lv_topl (fun n_3 en_3 => ?_)
    clear en_3
    refine lv_land hx hb dX2_put_27 ?_
    refine lv_topl (fun n_4 en_4 => ?_)
    clear en_4
    refine va_last hx hb hK hP hD hS 1 0 rfl rfl (vp_in_iff.mpr ⟨by omega, by omega⟩) dX2_put_28 (fun H locs hP hD hS => ?_)
    have hP : va_P (dC, dI) vwCl [(h0, .inr (0, [.int bt, w1, .ref q0])), (q0, .inl (c0, 40, .inr (.inl (vp_updL f0 k.toNatClampNeg n_4))))] H := hP
    have hD : va_D A [(h0, .inr (0, [.int bt, w1, .ref q0])), (q0, .inl (c0, 40, .inr (.inl (vp_updL f0 k.toNatClampNeg n_4))))] := hD
    have hP9 := hP.sub (ws' := [(h0, .inr (0, [.int bt, w1, .ref q0])), (q0, .inl (c0, 40, .inr (.inl (vp_updL f0 k.toNatClampNeg n_4))))]) [0, 1] rfl
    have hD9 := hD.sub (ws' := [(h0, .inr (0, [.int bt, w1, .ref q0])), (q0, .inl (c0, 40, .inr (.inl (vp_updL f0 k.toNatClampNeg n_4))))]) [0, 1] (by decide) rfl
    have hK9 := hK.sub (tys' := [(c0, .long)]) [0] rfl
    exact W.vret hx hb hr (fun t ht hW => ⟨⟨(), rfl, trivial, vp_updL f0 k.toNatClampNeg n_4, by rw [ht]; exact hP9, va_K.moved hW.alike hK9, hD9⟩, hS.F ht⟩) hS.2.2 dX2_put_29
  · skip
    have tc_1 : bt.toInt = 64 := (fa_eq _ _).mp c_1
    refine lv_lload_n hx hb dX2_put_14 rfl (lv_at hl 2 rfl) ?_
    refine lv_goto (tgt := 28) hx hb dX2_put_15 (by decide) ?_
    refine va_last hx hb hK hP hD hS 1 0 rfl rfl (vp_in_iff.mpr ⟨by omega, by omega⟩) dX2_put_28 (fun H locs hP hD hS => ?_)
    have hP : va_P (dC, dI) vwCl [(h0, .inr (0, [.int bt, w1, .ref q0])), (q0, .inl (c0, 40, .inr (.inl (vp_updL f0 k.toNatClampNeg a))))] H := hP
    have hD : va_D A [(h0, .inr (0, [.int bt, w1, .ref q0])), (q0, .inl (c0, 40, .inr (.inl (vp_updL f0 k.toNatClampNeg a))))] := hD
    have hP9 := hP.sub (ws' := [(h0, .inr (0, [.int bt, w1, .ref q0])), (q0, .inl (c0, 40, .inr (.inl (vp_updL f0 k.toNatClampNeg a))))]) [0, 1] rfl
    have hD9 := hD.sub (ws' := [(h0, .inr (0, [.int bt, w1, .ref q0])), (q0, .inl (c0, 40, .inr (.inl (vp_updL f0 k.toNatClampNeg a))))]) [0, 1] (by decide) rfl
    have hK9 := hK.sub (tys' := [(c0, .long)]) [0] rfl
    exact W.vret hx hb hr (fun t ht hW => ⟨⟨(), rfl, trivial, vp_updL f0 k.toNatClampNeg a, by rw [ht]; exact hP9, va_K.moved hW.alike hK9, hD9⟩, hS.F ht⟩) hS.2.2 dX2_put_29

def w_p_hasPart : List Cond := .code yX2_hasPart cX2_hasPart 3 (some .boolean) :: (([.fieldLink RX2 15 "LampShapes$Paper" "size" "I"] : List Cond) ++ wsX20)
set_option maxHeartbeats 4000000 in
set_option maxRecDepth 100000 in
theorem p_hasPart (l : Launch) (dC : Nat → ClassId) (dI : Nat → Nat → Nat) (ad : Nat → Nat) (h0 : Nat) (a : Int32) (b : Int32) (w0 : Value) (sz1 : Int32) (w2 : Value) (hz : 0 ≤ sz1.toInt ∧ sz1.toInt ≤ 40) : Met l yX2_hasPart w_p_hasPart ({ frames := 0, cells := 0, slots := 0, locals := 0 } : Room) (va_Pc [.ref h0, .int a, .int b] (preS dC dI ad [] [(h0, .inr (0, [w0, .int sz1, w2]))])) (vp_Si (fun r => (r.toInt = 1 ∧ 0 ≤ a.toInt ∧ 0 ≤ b.toInt ∧ a.toInt + b.toInt ≤ sz1.toInt) ∨ (r.toInt = 0 ∧ ¬ (0 ≤ a.toInt ∧ 0 ≤ b.toInt ∧ a.toInt + b.toInt ≤ sz1.toInt)))) 0 0 (fun _ => False) := by
  refine Met.ofW (cc := cX2_hasPart) (maxL := 3) (ret := (some .boolean)) (by decide) rfl ?_
  intro p e s m args below meth c s₁ B hml hv
  obtain ⟨rfl, hP, hK, hev⟩ := hv
  have hx := B.exec
  have hb := B.bytes
  have hr := B.returns
  have hts := atoms_spec (ws := w_p_hasPart) B.pre
  have hown : s.vm.findClass RX2 = some m.cls := findClass_of_methodNamed B.named
  have hlocks := B.notSynchronized
  have inX2 : ∀ w ∈ wsX20, w ∈ w_p_hasPart := fun w h => List.mem_cons_of_mem _ (List.mem_append_right _ h)
  have hP : va_P (dC, dI) vwCl [(h0, .inr (0, [w0, .int sz1, w2]))] s.heap := hP
  have hl := lv_entry ([.ref h0, .int a, .int b]) (n := 3) (Nat.le_of_ble_eq_true rfl)
  rw [lg_entry_eq]
  generalize (lg_sl ([.ref h0, .int a, .int b]) ++ List.replicate (3 - (lg_sl ([.ref h0, .int a, .int b])).length) Slot.unset).toArray = ls at hl ⊢
  have hl : lv_has ls 3 [(0, .ref h0), (1, .int a), (2, .int b)] := hl
  refine lv_iload_n hx hb dX2_hasPart_0 rfl (lv_at hl 1 rfl) ?_
  refine lv_if_lt (tgt := 30) hx hb dX2_hasPart_1 (by decide) (fun c_1 => ?_) (fun c_1 => ?_)
  · skip
    have tc_1 : a.toInt < 0 := (fa_lt _ _).mp c_1
    refine lv_iconst (v := 0) hx hb dX2_hasPart_30 (by decide) ?_
    exact W.zret (v := (0 : Int32)) hx hb hr (by decide) (fun t ht hW => ⟨(0 : Int32), rfl, (by first | omega | decide | (simp only [fa_lt, fa_le, fa_eq, and_true, true_and, and_false, false_and, not_true_eq_false, not_false_eq_true, li_0, li_1, li_2, li_3, li_4, li_5, li_6, li_7, li_8, li_9, li_10, li_12, li_15, li_16, li_20, li_30, li_34, li_38, li_40, li_63, li_64, li_65, li_78, li_120, li_1000, li_4000, li_10000, li_11077, li_255, li_65535, li_m1, li_m2, li_m1000000001, li_m1000000002, li_m1000000003, li_m1000000004, li_m1000000005, li_m1000000006, li_m1000000007, or_true, true_or, or_false, false_or, implies_true, true_implies, false_implies] <;> omega)), ht⟩) (fun _ h => absurd h List.not_mem_nil) dX2_hasPart_31
  · skip
    have tc_1 : ¬ a.toInt < 0 := fun h => c_1 ((fa_lt _ _).mpr h)
    refine lv_iload_n hx hb dX2_hasPart_4 rfl (lv_at hl 2 rfl) ?_
    refine lv_if_lt (tgt := 30) hx hb dX2_hasPart_5 (by decide) (fun c_2 => ?_) (fun c_2 => ?_)
    · skip
      have tc_2 : b.toInt < 0 := (fa_lt _ _).mp c_2
      refine lv_iconst (v := 0) hx hb dX2_hasPart_30 (by decide) ?_
      exact W.zret (v := (0 : Int32)) hx hb hr (by decide) (fun t ht hW => ⟨(0 : Int32), rfl, (by first | omega | decide | (simp only [fa_lt, fa_le, fa_eq, and_true, true_and, and_false, false_and, not_true_eq_false, not_false_eq_true, li_0, li_1, li_2, li_3, li_4, li_5, li_6, li_7, li_8, li_9, li_10, li_12, li_15, li_16, li_20, li_30, li_34, li_38, li_40, li_63, li_64, li_65, li_78, li_120, li_1000, li_4000, li_10000, li_11077, li_255, li_65535, li_m1, li_m2, li_m1000000001, li_m1000000002, li_m1000000003, li_m1000000004, li_m1000000005, li_m1000000006, li_m1000000007, or_true, true_or, or_false, false_or, implies_true, true_implies, false_implies] <;> omega)), ht⟩) (fun _ h => absurd h List.not_mem_nil) dX2_hasPart_31
    · skip
      have tc_2 : ¬ b.toInt < 0 := fun h => c_2 ((fa_lt _ _).mpr h)
      refine lv_iload_n hx hb dX2_hasPart_8 rfl (lv_at hl 2 rfl) ?_
      refine lv_aload_n hx hb dX2_hasPart_9 rfl (lv_at hl 0 rfl) ?_
      refine va_get (D := (dC, dI)) (ci := 0) (v := .int sz1) (C := RX2) (T := TX2) (N := 3) hx hb hts inX2 hown hK hP 0 rfl rfl 1 (by decide) (hts _ (List.mem_of_getElem? (i := 1) rfl)) (fun _ h9 => h9) rfl dX2_hasPart_10 ?_
      have rc_3_x := pp_rng b
      have rc_3_y := pp_rng sz1
      refine lv_icmp_gt (tgt := 30) hx hb dX2_hasPart_13 (by decide) (fun c_3 => ?_) (fun c_3 => ?_)
      · skip
        have tc_3 : sz1.toInt < b.toInt := (fa_lt _ _).mp c_3
        refine lv_iconst (v := 0) hx hb dX2_hasPart_30 (by decide) ?_
        exact W.zret (v := (0 : Int32)) hx hb hr (by decide) (fun t ht hW => ⟨(0 : Int32), rfl, (by first | omega | decide | (simp only [fa_lt, fa_le, fa_eq, and_true, true_and, and_false, false_and, not_true_eq_false, not_false_eq_true, li_0, li_1, li_2, li_3, li_4, li_5, li_6, li_7, li_8, li_9, li_10, li_12, li_15, li_16, li_20, li_30, li_34, li_38, li_40, li_63, li_64, li_65, li_78, li_120, li_1000, li_4000, li_10000, li_11077, li_255, li_65535, li_m1, li_m2, li_m1000000001, li_m1000000002, li_m1000000003, li_m1000000004, li_m1000000005, li_m1000000006, li_m1000000007, or_true, true_or, or_false, false_or, implies_true, true_implies, false_implies] <;> omega)), ht⟩) (fun _ h => absurd h List.not_mem_nil) dX2_hasPart_31
      · skip
        have tc_3 : ¬ sz1.toInt < b.toInt := fun h => c_3 ((fa_lt _ _).mpr h)
        refine lv_iload_n hx hb dX2_hasPart_16 rfl (lv_at hl 1 rfl) ?_
        refine lv_aload_n hx hb dX2_hasPart_17 rfl (lv_at hl 0 rfl) ?_
        refine va_get (D := (dC, dI)) (ci := 0) (v := .int sz1) (C := RX2) (T := TX2) (N := 3) hx hb hts inX2 hown hK hP 0 rfl rfl 1 (by decide) (hts _ (List.mem_of_getElem? (i := 1) rfl)) (fun _ h9 => h9) rfl dX2_hasPart_18 ?_
        refine lv_iload_n hx hb dX2_hasPart_21 rfl (lv_at hl 2 rfl) ?_
        refine lv_isub hx hb dX2_hasPart_22 ?_
        refine lv_topi (fun n_4 en_4 => ?_)
        have tn_4 : n_4.toInt = sz1.toInt - b.toInt := pp_sub en_4 rfl rfl (by omega) (by omega)
        clear en_4
        have rc_5_x := pp_rng a
        have rc_5_y := pp_rng n_4
        refine lv_icmp_gt (tgt := 30) hx hb dX2_hasPart_23 (by decide) (fun c_5 => ?_) (fun c_5 => ?_)
        · skip
          have tc_5 : n_4.toInt < a.toInt := (fa_lt _ _).mp c_5
          refine lv_iconst (v := 0) hx hb dX2_hasPart_30 (by decide) ?_
          exact W.zret (v := (0 : Int32)) hx hb hr (by decide) (fun t ht hW => ⟨(0 : Int32), rfl, (by first | omega | decide | (simp only [fa_lt, fa_le, fa_eq, and_true, true_and, and_false, false_and, not_true_eq_false, not_false_eq_true, li_0, li_1, li_2, li_3, li_4, li_5, li_6, li_7, li_8, li_9, li_10, li_12, li_15, li_16, li_20, li_30, li_34, li_38, li_40, li_63, li_64, li_65, li_78, li_120, li_1000, li_4000, li_10000, li_11077, li_255, li_65535, li_m1, li_m2, li_m1000000001, li_m1000000002, li_m1000000003, li_m1000000004, li_m1000000005, li_m1000000006, li_m1000000007, or_true, true_or, or_false, false_or, implies_true, true_implies, false_implies] <;> omega)), ht⟩) (fun _ h => absurd h List.not_mem_nil) dX2_hasPart_31
        · skip
          have tc_5 : ¬ n_4.toInt < a.toInt := fun h => c_5 ((fa_lt _ _).mpr h)
          refine lv_iconst (v := 1) hx hb dX2_hasPart_26 (by decide) ?_
          refine lv_goto (tgt := 31) hx hb dX2_hasPart_27 (by decide) ?_
          exact W.zret (v := (1 : Int32)) hx hb hr (by decide) (fun t ht hW => ⟨(1 : Int32), rfl, (by first | omega | decide | (simp only [fa_lt, fa_le, fa_eq, and_true, true_and, and_false, false_and, not_true_eq_false, not_false_eq_true, li_0, li_1, li_2, li_3, li_4, li_5, li_6, li_7, li_8, li_9, li_10, li_12, li_15, li_16, li_20, li_30, li_34, li_38, li_40, li_63, li_64, li_65, li_78, li_120, li_1000, li_4000, li_10000, li_11077, li_255, li_65535, li_m1, li_m2, li_m1000000001, li_m1000000002, li_m1000000003, li_m1000000004, li_m1000000005, li_m1000000006, li_m1000000007, or_true, true_or, or_false, false_or, implies_true, true_implies, false_implies] <;> omega)), ht⟩) (fun _ h => absurd h List.not_mem_nil) dX2_hasPart_31

def w_t_hasRoomFor : List Cond := .code yX7_hasRoomFor cX7_hasRoomFor 2 (some .boolean) :: (([.fieldLink RX7 9 "LampShapes$Tape" "size" "I"] : List Cond) ++ wsX70)
set_option maxHeartbeats 4000000 in
set_option maxRecDepth 100000 in
theorem t_hasRoomFor (l : Launch) (dC : Nat → ClassId) (dI : Nat → Nat → Nat) (ad : Nat → Nat) (h0 : Nat) (a : Int32) (ts : Int32) (w1 : Value) (ht : 0 ≤ ts.toInt ∧ ts.toInt ≤ 120) : Met l yX7_hasRoomFor w_t_hasRoomFor ({ frames := 0, cells := 0, slots := 0, locals := 0 } : Room) (va_Pc [.ref h0, .int a] (preS dC dI ad [] [(h0, .inr (5, [.int ts, w1]))])) (vp_Si (fun r => (r.toInt = 1 ∧ a.toInt + ts.toInt ≤ 120) ∨ (r.toInt = 0 ∧ ¬ a.toInt + ts.toInt ≤ 120))) 0 0 (fun _ => False) := by
  refine Met.ofW (cc := cX7_hasRoomFor) (maxL := 2) (ret := (some .boolean)) (by decide) rfl ?_
  intro p e s m args below meth c s₁ B hml hv
  obtain ⟨rfl, hP, hK, hev⟩ := hv
  have hx := B.exec
  have hb := B.bytes
  have hr := B.returns
  have hts := atoms_spec (ws := w_t_hasRoomFor) B.pre
  have hown : s.vm.findClass RX7 = some m.cls := findClass_of_methodNamed B.named
  have hlocks := B.notSynchronized
  have inX7 : ∀ w ∈ wsX70, w ∈ w_t_hasRoomFor := fun w h => List.mem_cons_of_mem _ (List.mem_append_right _ h)
  have hP : va_P (dC, dI) vwCl [(h0, .inr (5, [.int ts, w1]))] s.heap := hP
  have hl := lv_entry ([.ref h0, .int a]) (n := 2) (Nat.le_of_ble_eq_true rfl)
  rw [lg_entry_eq]
  generalize (lg_sl ([.ref h0, .int a]) ++ List.replicate (2 - (lg_sl ([.ref h0, .int a])).length) Slot.unset).toArray = ls at hl ⊢
  have hl : lv_has ls 2 [(0, .ref h0), (1, .int a)] := hl
  refine lv_iload_n hx hb dX7_hasRoomFor_0 rfl (lv_at hl 1 rfl) ?_
  refine lv_bipush (v := 120) hx hb dX7_hasRoomFor_1 (by decide) ?_
  refine lv_aload_n hx hb dX7_hasRoomFor_3 rfl (lv_at hl 0 rfl) ?_
  refine va_get (D := (dC, dI)) (ci := 5) (v := .int ts) (C := RX7) (T := TX7) (N := 2) hx hb hts inX7 hown hK hP 0 rfl rfl 0 (by decide) (hts _ (List.mem_of_getElem? (i := 1) rfl)) (fun _ h9 => h9) rfl dX7_hasRoomFor_4 ?_
  refine lv_isub hx hb dX7_hasRoomFor_7 ?_
  refine lv_topi (fun n_1 en_1 => ?_)
  have tn_1 : n_1.toInt = 120 - ts.toInt := pp_sub en_1 rfl rfl (by omega) (by omega)
  clear en_1
  have rc_2_x := pp_rng a
  have rc_2_y := pp_rng n_1
  refine lv_icmp_gt (tgt := 15) hx hb dX7_hasRoomFor_8 (by decide) (fun c_2 => ?_) (fun c_2 => ?_)
  · skip
    have tc_2 : n_1.toInt < a.toInt := (fa_lt _ _).mp c_2
    refine lv_iconst (v := 0) hx hb dX7_hasRoomFor_15 (by decide) ?_
    exact W.zret (v := (0 : Int32)) hx hb hr (by decide) (fun t ht hW => ⟨(0 : Int32), rfl, (by first | omega | decide | (simp only [fa_lt, fa_le, fa_eq, and_true, true_and, and_false, false_and, not_true_eq_false, not_false_eq_true, li_0, li_1, li_2, li_3, li_4, li_5, li_6, li_7, li_8, li_9, li_10, li_12, li_15, li_16, li_20, li_30, li_34, li_38, li_40, li_63, li_64, li_65, li_78, li_120, li_1000, li_4000, li_10000, li_11077, li_255, li_65535, li_m1, li_m2, li_m1000000001, li_m1000000002, li_m1000000003, li_m1000000004, li_m1000000005, li_m1000000006, li_m1000000007, or_true, true_or, or_false, false_or, implies_true, true_implies, false_implies] <;> omega)), ht⟩) (fun _ h => absurd h List.not_mem_nil) dX7_hasRoomFor_16
  · skip
    have tc_2 : ¬ n_1.toInt < a.toInt := fun h => c_2 ((fa_lt _ _).mpr h)
    refine lv_iconst (v := 1) hx hb dX7_hasRoomFor_11 (by decide) ?_
    refine lv_goto (tgt := 16) hx hb dX7_hasRoomFor_12 (by decide) ?_
    exact W.zret (v := (1 : Int32)) hx hb hr (by decide) (fun t ht hW => ⟨(1 : Int32), rfl, (by first | omega | decide | (simp only [fa_lt, fa_le, fa_eq, and_true, true_and, and_false, false_and, not_true_eq_false, not_false_eq_true, li_0, li_1, li_2, li_3, li_4, li_5, li_6, li_7, li_8, li_9, li_10, li_12, li_15, li_16, li_20, li_30, li_34, li_38, li_40, li_63, li_64, li_65, li_78, li_120, li_1000, li_4000, li_10000, li_11077, li_255, li_65535, li_m1, li_m2, li_m1000000001, li_m1000000002, li_m1000000003, li_m1000000004, li_m1000000005, li_m1000000006, li_m1000000007, or_true, true_or, or_false, false_or, implies_true, true_implies, false_implies] <;> omega)), ht⟩) (fun _ h => absurd h List.not_mem_nil) dX7_hasRoomFor_16

def w_t_add : List Cond := .code yX7_add cX7_add 2 none :: (([.fieldLink RX7 15 "LampShapes$Tape" "bytes" "[I", .fieldLink RX7 9 "LampShapes$Tape" "size" "I"] : List Cond) ++ wsX70)
set_option maxHeartbeats 4000000 in
set_option maxRecDepth 100000 in
theorem t_add (l : Launch) (dC : Nat → ClassId) (dI : Nat → Nat → Nat) (ad : Nat → Nat) (h0 : Nat) (a : Int32) (ts : Int32) (q0 : Nat) (c0 : ClassId) (f0 : Nat → Int32) (sz : Nat) (ht : 0 ≤ ts.toInt ∧ ts.toInt < 120) : Met l yX7_add w_t_add ({ frames := 0, cells := 0, slots := 0, locals := 0 } : Room) (va_Pc [.ref h0, .int a] (preM dC dI ad [(c0, .int)] [(h0, .inr (5, [.int ts, .ref q0])), (q0, .inl (c0, 120, .inl f0))] sz)) (va_Qv (fun (_ : Unit) => True) (fun _ t => ∃ (ts2 : Int32), ∃ (g0 : Nat → Int32), (ts2.toInt = ts.toInt + 1) ∧ va_P (dC, dI) vwCl [(h0, .inr (5, [.int ts2, .ref q0])), (q0, .inl (c0, 120, .inl g0))] t.heap ∧ va_K (dC, dI) vwCl [(c0, .int)] t ∧ va_D (va_A [(h0, .inr (5, [.int ts, .ref q0])), (q0, .inl (c0, 120, .inl f0))] sz) [(h0, .inr (5, [.int ts2, .ref q0])), (q0, .inl (c0, 120, .inl g0))]) (va_A [(h0, .inr (5, [.int ts, .ref q0])), (q0, .inl (c0, 120, .inl f0))] sz)) 0 0 (va_A [(h0, .inr (5, [.int ts, .ref q0])), (q0, .inl (c0, 120, .inl f0))] sz) := by
  refine Met.ofW (cc := cX7_add) (maxL := 2) (ret := none) (by decide) rfl ?_
  intro p e s m args below meth c s₁ B hml hv
  obtain ⟨rfl, hsz, hP, hK, hD0, hev⟩ := hv
  have hx := B.exec
  have hb := B.bytes
  have hr := B.returns
  have hts := atoms_spec (ws := w_t_add) B.pre
  have hown : s.vm.findClass RX7 = some m.cls := findClass_of_methodNamed B.named
  have hlocks := B.notSynchronized
  have inX7 : ∀ w ∈ wsX70, w ∈ w_t_add := fun w h => List.mem_cons_of_mem _ (List.mem_append_right _ h)
  subst hsz
  have hD := hD0.self (sz := s.heap.size)
  generalize hAe : va_A [(h0, .inr (5, [.int ts, .ref q0])), (q0, .inl (c0, 120, .inl f0))] s.heap.size = A at hD ⊢
  have hA : ∀ q : Nat, s.heap.size ≤ q → A q := fun q h => by rw [← hAe]; exact Or.inr h
  have hS : va_S A s.heap s.heap [] := va_S.rf
  have hP : va_P (dC, dI) vwCl [(h0, .inr (5, [.int ts, .ref q0])), (q0, .inl (c0, 120, .inl f0))] s.heap := hP
  have hl := lv_entry ([.ref h0, .int a]) (n := 2) (Nat.le_of_ble_eq_true rfl)
  rw [lg_entry_eq]
  generalize (lg_sl ([.ref h0, .int a]) ++ List.replicate (2 - (lg_sl ([.ref h0, .int a])).length) Slot.unset).toArray = ls at hl ⊢
  have hl : lv_has ls 2 [(0, .ref h0), (1, .int a)] := hl
  refine lv_aload_n hx hb dX7_add_0 rfl (lv_at hl 0 rfl) ?_
  refine va_get (D := (dC, dI)) (ci := 5) (v := .ref q0) (C := RX7) (T := TX7) (N := 2) hx hb hts inX7 hown hK hP 0 rfl rfl 1 (by decide) (hts _ (List.mem_of_getElem? (i := 1) rfl)) (fun _ h9 => h9) rfl dX7_add_1 ?_
  refine lv_aload_n hx hb dX7_add_4 rfl (lv_at hl 0 rfl) ?_
  refine va_get (D := (dC, dI)) (ci := 5) (v := .int ts) (C := RX7) (T := TX7) (N := 2) hx hb hts inX7 hown hK hP 0 rfl rfl 0 (by decide) (hts _ (List.mem_of_getElem? (i := 2) rfl)) (fun _ h9 => h9) rfl dX7_add_5 ?_
  refine lv_iload_n hx hb dX7_add_8 rfl (lv_at hl 1 rfl) ?_
  refine lv_sipush (v := 255) hx hb dX7_add_9 (by decide) ?_
  refine lv_iand hx hb dX7_add_12 ?_
  refine lv_topi (fun n_1 en_1 => ?_)
  clear en_1
  refine va_iast hx hb hK hP hD hS 1 0 rfl rfl (vp_in_iff.mpr ⟨by omega, by omega⟩) dX7_add_13 (fun H locs hP hD hS => ?_)
  have hP : va_P (dC, dI) vwCl [(h0, .inr (5, [.int ts, .ref q0])), (q0, .inl (c0, 120, .inl (upd f0 ts.toNatClampNeg n_1)))] H := hP
  have hD : va_D A [(h0, .inr (5, [.int ts, .ref q0])), (q0, .inl (c0, 120, .inl (upd f0 ts.toNatClampNeg n_1)))] := hD
  refine lv_aload_n hx hb dX7_add_14 rfl (lv_at hl 0 rfl) ?_
  refine lv_dup hx hb dX7_add_15 rfl ?_
  refine va_get (D := (dC, dI)) (ci := 5) (v := .int ts) (C := RX7) (T := TX7) (N := 2) hx hb hts inX7 hown hK hP 0 rfl rfl 0 (by decide) (hts _ (List.mem_of_getElem? (i := 2) rfl)) (fun _ h9 => h9) rfl dX7_add_16 ?_
  refine lv_iconst (v := 1) hx hb dX7_add_19 (by decide) ?_
  refine lv_iadd hx hb dX7_add_20 ?_
  refine lv_topi (fun n_2 en_2 => ?_)
  have tn_2 : n_2.toInt = ts.toInt + 1 := pp_add en_2 rfl rfl (by omega) (by omega)
  clear en_2
  refine va_put (D := (dC, dI)) (ci := 5) (v := .int n_2) (ty := .int) (C := RX7) (T := TX7) (N := 2) hx hb hts inX7 tyX7 tyX7_ok nmX7 hown hK hP hD hS 0 rfl rfl 0 (by decide) (hts _ (List.mem_of_getElem? (i := 2) rfl)) (fun _ h9 => h9) rfl (by decide +kernel) rfl rfl (Nat.le_of_ble_eq_true rfl) dX7_add_21 (fun H locs hP hD hS => ?_)
  have hP : va_P (dC, dI) vwCl [(h0, .inr (5, [.int n_2, .ref q0])), (q0, .inl (c0, 120, .inl (upd f0 ts.toNatClampNeg n_1)))] H := hP
  have hD : va_D A [(h0, .inr (5, [.int n_2, .ref q0])), (q0, .inl (c0, 120, .inl (upd f0 ts.toNatClampNeg n_1)))] := hD
  have hP9 := hP.sub (ws' := [(h0, .inr (5, [.int n_2, .ref q0])), (q0, .inl (c0, 120, .inl (upd f0 ts.toNatClampNeg n_1)))]) [0, 1] rfl
  have hD9 := hD.sub (ws' := [(h0, .inr (5, [.int n_2, .ref q0])), (q0, .inl (c0, 120, .inl (upd f0 ts.toNatClampNeg n_1)))]) [0, 1] (by decide) rfl
  have hK9 := hK.sub (tys' := [(c0, .int)]) [0] rfl
  exact W.vret hx hb hr (fun t ht hW => ⟨⟨(), rfl, trivial, n_2, upd f0 ts.toNatClampNeg n_1, (by first | omega | decide | (simp only [fa_lt, fa_le, fa_eq, and_true, true_and, and_false, false_and, not_true_eq_false, not_false_eq_true, li_0, li_1, li_2, li_3, li_4, li_5, li_6, li_7, li_8, li_9, li_10, li_12, li_15, li_16, li_20, li_30, li_34, li_38, li_40, li_63, li_64, li_65, li_78, li_120, li_1000, li_4000, li_10000, li_11077, li_255, li_65535, li_m1, li_m2, li_m1000000001, li_m1000000002, li_m1000000003, li_m1000000004, li_m1000000005, li_m1000000006, li_m1000000007, or_true, true_or, or_false, false_or, implies_true, true_implies, false_implies] <;> omega)), by rw [ht]; exact hP9, va_K.moved hW.alike hK9, hD9⟩, hS.F ht⟩) hS.2.2 dX7_add_24

def w_o_costVia : List Cond := .code yX3_costVia cX3_costVia 6 (some .int) :: (([.methodLink RX3 44 yX6_changesBetween, .instanceMethod yX6_changesBetween, .selects RX6 yX6_changesBetween yX6_changesBetween, .initialized RX6, .code yX6_changesBetween cX6_changesBetween 3 (some .int), .methodLink RX6 98 yX6_offBetween, .instanceMethod yX6_offBetween, .selects RX6 yX6_offBetween yX6_offBetween, .code yX6_offBetween cX6_offBetween 3 (some .int), .fieldLink RX6 34 "LampShapes$Stage" "pictures" "[J", .methodLink RX6 94 yX1_cellsOff, .static yX1_cellsOff, .initialized RX1, .code yX1_cellsOff cX1_cellsOff 4 (some .int), .methodLink RX1 15 yJ13_bitCount_95d88, .static yJ13_bitCount_95d88, .initialized RJ13, .code yJ13_bitCount_95d88 cJ13_bitCount_95d88 2 (some .int), .constantLong RJ13 314 (6148914691236517205), .constantLong RJ13 316 (3689348814741910323), .constantLong RJ13 318 (1085102592571150095), .fieldLink RX3 19 "LampShapes$Route" "rest" "[I"] : List Cond) ++ wsX60 ++ wsX30)
set_option maxRecDepth 20000 in
theorem g_o_costVia_s_changesBetween_44 : GoodIn w_o_costVia (wsV RX3 44 RX6 yX6_changesBetween w_s_changesBetween) := goodIn_r _ [1, 2, 3, 4, 5, 6, 7, 8, 4, 9, 10, 11, 12, 13, 14, 15, 16, 17, 18, 19, 20, 21, 23, 24, 25, 26, 27, 28, 29, 30, 31] rfl (by decide +kernel)
set_option maxHeartbeats 4000000 in
set_option maxRecDepth 100000 in
theorem o_costVia (l : Launch) (dC : Nat → ClassId) (dI : Nat → Nat → Nat) (ad : Nat → Nat) (h0 : Nat) (h1 : Nat) (a : Int32) (b : Int32) (k : Int32) (u0 : Value) (u1 : Value) (qr : Nat) (cr : ClassId) (fr : Nat → Int32) (w0 : Value) (w1 : Value) (w2 : Value) (w3 : Value) (w4 : Value) (w5 : Value) (w6 : Value) (q5 : Nat) (w8 : Value) (c5 : ClassId) (f5 : Nat → Int64) (hset : 0 ≤ a.toInt ∧ a.toInt ≤ 63) (hb2 : b.toInt ≤ 5) (hk : 0 ≤ k.toInt ∧ k.toInt ≤ 5) : Met l yX3_costVia w_o_costVia ({ frames := 4, cells := 0, slots := 0, locals := 88 } : Room) (va_Pc [.ref h0, .ref h1, .int a, .int b, .int k] (preS dC dI ad [(cr, .int), (c5, .long)] [(h0, .inr (1, [u0, u1, .ref qr])), (qr, .inl (cr, 384, .inl fr)), (h1, .inr (4, [w0, w1, w2, w3, w4, w5, w6, .ref q5, w8])), (q5, .inl (c5, 7, .inr (.inl f5)))])) (vp_Si (fun r => True)) 0 0 (fun _ => False) := by
  refine Met.ofW (cc := cX3_costVia) (maxL := 6) (ret := (some .int)) (by decide) rfl ?_
  intro p e s m args below meth c s₁ B hml hv
  obtain ⟨rfl, hP, hK, hev⟩ := hv
  have hx := B.exec
  have hb := B.bytes
  have hr := B.returns
  have hts := atoms_spec (ws := w_o_costVia) B.pre
  have hown : s.vm.findClass RX3 = some m.cls := findClass_of_methodNamed B.named
  have hlocks := B.notSynchronized
  have inX6 : ∀ w ∈ wsX60, w ∈ w_o_costVia := fun w h => List.mem_cons_of_mem _ (List.mem_append_left _ (List.mem_append_right _ h))
  have inX3 : ∀ w ∈ wsX30, w ∈ w_o_costVia := fun w h => List.mem_cons_of_mem _ (List.mem_append_right _ h)
  have hP : va_P (dC, dI) vwCl [(h0, .inr (1, [u0, u1, .ref qr])), (qr, .inl (cr, 384, .inl fr)), (h1, .inr (4, [w0, w1, w2, w3, w4, w5, w6, .ref q5, w8])), (q5, .inl (c5, 7, .inr (.inl f5)))] s.heap := hP
  have hl := lv_entry ([.ref h0, .ref h1, .int a, .int b, .int k]) (n := 6) (Nat.le_of_ble_eq_true rfl)
  rw [lg_entry_eq]
  generalize (lg_sl ([.ref h0, .ref h1, .int a, .int b, .int k]) ++ List.replicate (6 - (lg_sl ([.ref h0, .ref h1, .int a, .int b, .int k])).length) Slot.unset).toArray = ls at hl ⊢
  have hl : lv_has ls 6 [(0, .ref h0), (1, .ref h1), (2, .int a), (3, .int b), (4, .int k)] := hl
  refine lv_iload_n hx hb dX3_costVia_0 rfl (lv_at hl 3 rfl) ?_
  refine lv_if_ge (tgt := 8) hx hb dX3_costVia_1 (by decide) (fun c_1 => ?_) (fun c_1 => ?_)
  · skip
    have tc_1 : 0 ≤ b.toInt := (fa_le _ _).mp c_1
    refine lv_aload_n hx hb dX3_costVia_8 rfl (lv_at hl 1 rfl) ?_
    refine lv_iload_n hx hb dX3_costVia_9 rfl (lv_at hl 3 rfl) ?_
    refine lv_iload hx hb dX3_costVia_10 (lv_at hl 4 rfl) ?_
    have hPc := hP.sub (ws' := [(h1, .inr (4, [w0, w1, w2, w3, w4, w5, w6, .ref q5, w8])), (q5, .inl (c5, 7, .inr (.inl f5)))]) [2, 3] rfl
    have hKc := hK.sub (tys' := [(c5, .long)]) [1] rfl
    refine vp_callSi (W.runV (As := [.int b, .int k]) (rest := []) ⟨hx, hb, hml, hown, hts⟩ (s_changesBetween l dC dI ad h1 b k w0 w1 w2 w3 w4 w5 w6 q5 w8 c5 f5 (by first | omega | decide | (simp only [fa_lt, fa_le, fa_eq, and_true, true_and, and_false, false_and, not_true_eq_false, not_false_eq_true, li_0, li_1, li_2, li_3, li_4, li_5, li_6, li_7, li_8, li_9, li_10, li_12, li_15, li_16, li_20, li_30, li_34, li_38, li_40, li_63, li_64, li_65, li_78, li_120, li_1000, li_4000, li_10000, li_11077, li_255, li_65535, li_m1, li_m2, li_m1000000001, li_m1000000002, li_m1000000003, li_m1000000004, li_m1000000005, li_m1000000006, li_m1000000007, or_true, true_or, or_false, false_or, implies_true, true_implies, false_implies] <;> omega)) (by first | omega | decide | (simp only [fa_lt, fa_le, fa_eq, and_true, true_and, and_false, false_and, not_true_eq_false, not_false_eq_true, li_0, li_1, li_2, li_3, li_4, li_5, li_6, li_7, li_8, li_9, li_10, li_12, li_15, li_16, li_20, li_30, li_34, li_38, li_40, li_63, li_64, li_65, li_78, li_120, li_1000, li_4000, li_10000, li_11077, li_255, li_65535, li_m1, li_m2, li_m1000000001, li_m1000000002, li_m1000000003, li_m1000000004, li_m1000000005, li_m1000000006, li_m1000000007, or_true, true_or, or_false, false_or, implies_true, true_implies, false_implies] <;> omega))) (cwV 2 hts g_o_costVia_s_changesBetween_44 rfl rfl rfl (by decide +kernel) ⟨(Nat.le_of_ble_eq_true rfl), (Nat.le_of_ble_eq_true rfl)⟩) ⟨preS_blind, va_recv hKc hPc (ci := 4) (q0 := 0) rfl rfl, fun U hU hW => ⟨rfl, preS_at hU hW hPc hKc hev⟩⟩ rfl rfl hl.1 rfl (lv_room (Nat.le_of_ble_eq_true rfl)) dX3_costVia_12 ⟨(Nat.le_of_ble_eq_true rfl), (Nat.le_of_ble_eq_true rfl)⟩) (fun r_2 hw => ?_)
    refine lv_istore (lv' := [(5, .int r_2), (0, .ref h0), (1, .ref h1), (2, .int a), (3, .int b), (4, .int k)]) hx hb dX3_costVia_15 hl (by decide) rfl (fun ls hl => ?_)
    refine lv_iload hx hb dX3_costVia_17 (lv_at hl 0 rfl) ?_
    refine lv_aload_n hx hb dX3_costVia_19 rfl (lv_at hl 1 rfl) ?_
    refine va_get (D := (dC, dI)) (ci := 1) (v := .ref qr) (C := RX3) (T := TX3) (N := 3) hx hb hts inX3 hown hK hP 0 rfl rfl 2 (by decide) (hts _ (List.mem_of_getElem? (i := 22) rfl)) (fun _ h9 => h9) rfl dX3_costVia_20 ?_
    refine lv_iload_n hx hb dX3_costVia_23 rfl (lv_at hl 3 rfl) ?_
    refine lv_iconst (v := 1) hx hb dX3_costVia_24 (by decide) ?_
    refine lv_iload hx hb dX3_costVia_25 (lv_at hl 5 rfl) ?_
    refine lv_ishl hx hb dX3_costVia_27 ?_
    refine lv_topi (fun n_3 en_3 => ?_)
    have tn_3 := pp_shl1 en_3 (by omega) (by omega)
    clear en_3
    refine lv_ior hx hb dX3_costVia_28 ?_
    refine lv_topi (fun n_4 en_4 => ?_)
    have tn_4 : 0 ≤ n_4.toInt ∧ n_4.toInt ≤ 63 := pp_or63 en_4 (by omega) (by omega) (by omega) (by omega)
    clear en_4
    refine lv_bipush (v := 6) hx hb dX3_costVia_29 (by decide) ?_
    refine lv_imul hx hb dX3_costVia_31 ?_
    refine lv_topi (fun n_5 en_5 => ?_)
    have tn_5 : n_5.toInt = n_4.toInt * 6 := pp_mul en_5 rfl rfl (by omega) (by omega)
    clear en_5
    refine lv_iload hx hb dX3_costVia_32 (lv_at hl 5 rfl) ?_
    refine lv_iadd hx hb dX3_costVia_34 ?_
    refine lv_topi (fun n_6 en_6 => ?_)
    have tn_6 : n_6.toInt = n_5.toInt + k.toInt := pp_add en_6 rfl rfl (by omega) (by omega)
    clear en_6
    refine va_iald hx hb hK hP 1 0 rfl rfl (vp_in_iff.mpr ⟨by omega, by omega⟩) dX3_costVia_35 ?_
    refine lv_topi (fun n_7 en_7 => ?_)
    clear en_7
    refine lv_iadd hx hb dX3_costVia_36 ?_
    refine lv_topi (fun n_8 en_8 => ?_)
    clear en_8
    exact W.iret (v := n_8) hx hb hr (fun t ht hW => ⟨n_8, rfl, trivial, ht⟩) (fun _ h => absurd h List.not_mem_nil) dX3_costVia_37
  · skip
    have tc_1 : ¬ 0 ≤ b.toInt := fun h => c_1 ((fa_le _ _).mpr h)
    refine lv_iconst (v := 0) hx hb dX3_costVia_4 (by decide) ?_
    refine lv_goto (tgt := 15) hx hb dX3_costVia_5 (by decide) ?_
    refine lv_istore (lv' := [(5, .int 0), (0, .ref h0), (1, .ref h1), (2, .int a), (3, .int b), (4, .int k)]) hx hb dX3_costVia_15 hl (by decide) rfl (fun ls hl => ?_)
    refine lv_iload hx hb dX3_costVia_17 (lv_at hl 0 rfl) ?_
    refine lv_aload_n hx hb dX3_costVia_19 rfl (lv_at hl 1 rfl) ?_
    refine va_get (D := (dC, dI)) (ci := 1) (v := .ref qr) (C := RX3) (T := TX3) (N := 3) hx hb hts inX3 hown hK hP 0 rfl rfl 2 (by decide) (hts _ (List.mem_of_getElem? (i := 22) rfl)) (fun _ h9 => h9) rfl dX3_costVia_20 ?_
    refine lv_iload_n hx hb dX3_costVia_23 rfl (lv_at hl 3 rfl) ?_
    refine lv_iconst (v := 1) hx hb dX3_costVia_24 (by decide) ?_
    refine lv_iload hx hb dX3_costVia_25 (lv_at hl 5 rfl) ?_
    refine lv_ishl hx hb dX3_costVia_27 ?_
    refine lv_topi (fun n_9 en_9 => ?_)
    have tn_9 := pp_shl1 en_9 (by omega) (by omega)
    clear en_9
    refine lv_ior hx hb dX3_costVia_28 ?_
    refine lv_topi (fun n_10 en_10 => ?_)
    have tn_10 : 0 ≤ n_10.toInt ∧ n_10.toInt ≤ 63 := pp_or63 en_10 (by omega) (by omega) (by omega) (by omega)
    clear en_10
    refine lv_bipush (v := 6) hx hb dX3_costVia_29 (by decide) ?_
    refine lv_imul hx hb dX3_costVia_31 ?_
    refine lv_topi (fun n_11 en_11 => ?_)
    have tn_11 : n_11.toInt = n_10.toInt * 6 := pp_mul en_11 rfl rfl (by omega) (by omega)
    clear en_11
    refine lv_iload hx hb dX3_costVia_32 (lv_at hl 5 rfl) ?_
    refine lv_iadd hx hb dX3_costVia_34 ?_
    refine lv_topi (fun n_12 en_12 => ?_)
    have tn_12 : n_12.toInt = n_11.toInt + k.toInt := pp_add en_12 rfl rfl (by omega) (by omega)
    clear en_12
    refine va_iald hx hb hK hP 1 0 rfl rfl (vp_in_iff.mpr ⟨by omega, by omega⟩) dX3_costVia_35 ?_
    refine lv_topi (fun n_13 en_13 => ?_)
    clear en_13
    refine lv_iadd hx hb dX3_costVia_36 ?_
    refine lv_topi (fun n_14 en_14 => ?_)
    have tn_14 : n_14.toInt = 0 + n_13.toInt := pp_add en_14 rfl rfl (by have := pp_rng n_13; omega) (by have := pp_rng n_13; omega)
    clear en_14
    exact W.iret (v := n_14) hx hb hr (fun t ht hW => ⟨n_14, rfl, trivial, ht⟩) (fun _ h => absurd h List.not_mem_nil) dX3_costVia_37

def w_o_bestNext : List Cond := .code yX3_bestNext cX3_bestNext 9 (some .int) :: (([.methodLink RX3 37 yX3_costVia, .instanceMethod yX3_costVia, .selects RX3 yX3_costVia yX3_costVia, .initialized RX3, .code yX3_costVia cX3_costVia 6 (some .int), .methodLink RX3 44 yX6_changesBetween, .instanceMethod yX6_changesBetween, .selects RX6 yX6_changesBetween yX6_changesBetween, .initialized RX6, .code yX6_changesBetween cX6_changesBetween 3 (some .int), .methodLink RX6 98 yX6_offBetween, .instanceMethod yX6_offBetween, .selects RX6 yX6_offBetween yX6_offBetween, .code yX6_offBetween cX6_offBetween 3 (some .int), .fieldLink RX6 34 "LampShapes$Stage" "pictures" "[J", .methodLink RX6 94 yX1_cellsOff, .static yX1_cellsOff, .initialized RX1, .code yX1_cellsOff cX1_cellsOff 4 (some .int), .methodLink RX1 15 yJ13_bitCount_95d88, .static yJ13_bitCount_95d88, .initialized RJ13, .code yJ13_bitCount_95d88 cJ13_bitCount_95d88 2 (some .int), .constantLong RJ13 314 (6148914691236517205), .constantLong RJ13 316 (3689348814741910323), .constantLong RJ13 318 (1085102592571150095), .fieldLink RX3 19 "LampShapes$Route" "rest" "[I"] : List Cond) ++ wsX60 ++ wsX30)
set_option maxRecDepth 20000 in
theorem g_o_bestNext_o_costVia_37 : GoodIn w_o_bestNext (wsV RX3 37 RX3 yX3_costVia w_o_costVia) := goodIn_r _ [1, 2, 3, 4, 5, 6, 7, 8, 9, 10, 11, 12, 13, 14, 15, 16, 17, 18, 19, 20, 21, 22, 23, 24, 25, 26, 27, 28, 29, 30, 31, 32, 33, 34, 35, 36, 37, 38, 39] rfl (by decide +kernel)
set_option maxHeartbeats 4000000 in
set_option maxRecDepth 100000 in
theorem o_bestNext (l : Launch) (dC : Nat → ClassId) (dI : Nat → Nat → Nat) (ad : Nat → Nat) (h0 : Nat) (h1 : Nat) (a : Int32) (b : Int32) (mn : Int32) (u0 : Value) (u1 : Value) (qr : Nat) (cr : ClassId) (fr : Nat → Int32) (w0 : Value) (w1 : Value) (w2 : Value) (w3 : Value) (w4 : Value) (w5 : Value) (w6 : Value) (q5 : Nat) (w8 : Value) (c5 : ClassId) (f5 : Nat → Int64) (hset : 0 ≤ a.toInt ∧ a.toInt ≤ 63) (hb2 : b.toInt ≤ 5) (hmn : 0 ≤ mn.toInt ∧ mn.toInt ≤ 6) : Met l yX3_bestNext w_o_bestNext ({ frames := 5, cells := 0, slots := 0, locals := 113 } : Room) (va_Pc [.ref h0, .ref h1, .int a, .int b, .int mn] (preS dC dI ad [(cr, .int), (c5, .long)] [(h0, .inr (1, [u0, u1, .ref qr])), (qr, .inl (cr, 384, .inl fr)), (h1, .inr (4, [w0, w1, w2, w3, w4, w5, w6, .ref q5, w8])), (q5, .inl (c5, 7, .inr (.inl f5)))])) (vp_Si (fun r => (-1) ≤ r.toInt ∧ r.toInt ≤ 5)) 0 0 (fun _ => False) := by
  refine Met.ofW (cc := cX3_bestNext) (maxL := 9) (ret := (some .int)) (by decide) rfl ?_
  intro p e s m args below meth c s₁ B hml hv
  obtain ⟨rfl, hP, hK, hev⟩ := hv
  have hx := B.exec
  have hb := B.bytes
  have hr := B.returns
  have hts := atoms_spec (ws := w_o_bestNext) B.pre
  have hown : s.vm.findClass RX3 = some m.cls := findClass_of_methodNamed B.named
  have hlocks := B.notSynchronized
  have inX6 : ∀ w ∈ wsX60, w ∈ w_o_bestNext := fun w h => List.mem_cons_of_mem _ (List.mem_append_left _ (List.mem_append_right _ h))
  have inX3 : ∀ w ∈ wsX30, w ∈ w_o_bestNext := fun w h => List.mem_cons_of_mem _ (List.mem_append_right _ h)
  have hP : va_P (dC, dI) vwCl [(h0, .inr (1, [u0, u1, .ref qr])), (qr, .inl (cr, 384, .inl fr)), (h1, .inr (4, [w0, w1, w2, w3, w4, w5, w6, .ref q5, w8])), (q5, .inl (c5, 7, .inr (.inl f5)))] s.heap := hP
  have hl := lv_entry ([.ref h0, .ref h1, .int a, .int b, .int mn]) (n := 9) (Nat.le_of_ble_eq_true rfl)
  rw [lg_entry_eq]
  generalize (lg_sl ([.ref h0, .ref h1, .int a, .int b, .int mn]) ++ List.replicate (9 - (lg_sl ([.ref h0, .ref h1, .int a, .int b, .int mn])).length) Slot.unset).toArray = ls at hl ⊢
  have hl : lv_has ls 9 [(0, .ref h0), (1, .ref h1), (2, .int a), (3, .int b), (4, .int mn)] := hl
  refine lv_iconst (v := (-1)) hx hb dX3_bestNext_0 (by decide) ?_
  refine lv_istore (lv' := [(5, .int (-1)), (0, .ref h0), (1, .ref h1), (2, .int a), (3, .int b), (4, .int mn)]) hx hb dX3_bestNext_1 hl (by decide) rfl (fun ls hl => ?_)
  refine lv_iconst (v := 0) hx hb dX3_bestNext_3 (by decide) ?_
  refine lv_istore (lv' := [(6, .int 0), (5, .int (-1)), (0, .ref h0), (1, .ref h1), (2, .int a), (3, .int b), (4, .int mn)]) hx hb dX3_bestNext_4 hl (by decide) rfl (fun ls hl => ?_)
  refine lv_iconst (v := 0) hx hb dX3_bestNext_6 (by decide) ?_
  refine lv_istore (lv' := [(7, .int 0), (6, .int 0), (5, .int (-1)), (0, .ref h0), (1, .ref h1), (2, .int a), (3, .int b), (4, .int mn)]) hx hb dX3_bestNext_7 hl (by decide) rfl (fun ls hl => ?_)
  refine pp_loop (ι := Int32 × Int32 × Int32) (fun ⟨v7_9, v6_9, v5_9⟩ => (mn.toInt - v7_9.toInt).toNat) (fun ⟨v7_9, v6_9, v5_9⟩ H locs ls => ((-1) ≤ v5_9.toInt ∧ v5_9.toInt ≤ 5) ∧ (0 ≤ v7_9.toInt) ∧ H = s.heap ∧ locs = [] ∧ lv_has ls 9 [(7, .int v7_9), (6, .int v6_9), (5, .int v5_9), (0, .ref h0), (1, .ref h1), (2, .int a), (3, .int b), (4, .int mn)]) ?_ (0, 0, (-1)) _ _ _ ⟨(by first | omega | decide | (simp only [fa_lt, fa_le, fa_eq, and_true, true_and, and_false, false_and, not_true_eq_false, not_false_eq_true, li_0, li_1, li_2, li_3, li_4, li_5, li_6, li_7, li_8, li_9, li_10, li_12, li_15, li_16, li_20, li_30, li_34, li_38, li_40, li_63, li_64, li_65, li_78, li_120, li_1000, li_4000, li_10000, li_11077, li_255, li_65535, li_m1, li_m2, li_m1000000001, li_m1000000002, li_m1000000003, li_m1000000004, li_m1000000005, li_m1000000006, li_m1000000007, or_true, true_or, or_false, false_or, implies_true, true_implies, false_implies] <;> omega)), (by first | omega | decide | (simp only [fa_lt, fa_le, fa_eq, and_true, true_and, and_false, false_and, not_true_eq_false, not_false_eq_true, li_0, li_1, li_2, li_3, li_4, li_5, li_6, li_7, li_8, li_9, li_10, li_12, li_15, li_16, li_20, li_30, li_34, li_38, li_40, li_63, li_64, li_65, li_78, li_120, li_1000, li_4000, li_10000, li_11077, li_255, li_65535, li_m1, li_m2, li_m1000000001, li_m1000000002, li_m1000000003, li_m1000000004, li_m1000000005, li_m1000000006, li_m1000000007, or_true, true_or, or_false, false_or, implies_true, true_implies, false_implies] <;> omega)), rfl, rfl, lv_sub hl [0, 1, 2, 3, 4, 5, 6, 7] rfl⟩
  intro k_1 ihk_1 u H locs ls hm hI
  obtain ⟨v7_9, v6_9, v5_9⟩ := u
  obtain ⟨jk_1_0, jk_1_1, rfl, rfl, hl⟩ := hI
  have hmk_1 : (mn.toInt - v7_9.toInt).toNat < k_1 + 1 := hm
  clear hm
  have jk_1_0 : (-1) ≤ v5_9.toInt ∧ v5_9.toInt ≤ 5 := jk_1_0
  have jk_1_1 : 0 ≤ v7_9.toInt := jk_1_1
  have hl : lv_has ls 9 [(7, .int v7_9), (6, .int v6_9), (5, .int v5_9), (0, .ref h0), (1, .ref h1), (2, .int a), (3, .int b), (4, .int mn)] := hl
  refine lv_iload hx hb dX3_bestNext_9 (lv_at hl 0 rfl) ?_
  refine lv_iload hx hb dX3_bestNext_11 (lv_at hl 7 rfl) ?_
  have rc_2_x := pp_rng v7_9
  have rc_2_y := pp_rng mn
  refine lv_icmp_ge (tgt := 66) hx hb dX3_bestNext_13 (by decide) (fun c_2 => ?_) (fun c_2 => ?_)
  · skip
    have tc_2 : mn.toInt ≤ v7_9.toInt := (fa_le _ _).mp c_2
    refine lv_iload hx hb dX3_bestNext_66 (lv_at hl 2 rfl) ?_
    exact W.iret (v := v5_9) hx hb hr (fun t ht hW => ⟨v5_9, rfl, (by first | omega | decide | (simp only [fa_lt, fa_le, fa_eq, and_true, true_and, and_false, false_and, not_true_eq_false, not_false_eq_true, li_0, li_1, li_2, li_3, li_4, li_5, li_6, li_7, li_8, li_9, li_10, li_12, li_15, li_16, li_20, li_30, li_34, li_38, li_40, li_63, li_64, li_65, li_78, li_120, li_1000, li_4000, li_10000, li_11077, li_255, li_65535, li_m1, li_m2, li_m1000000001, li_m1000000002, li_m1000000003, li_m1000000004, li_m1000000005, li_m1000000006, li_m1000000007, or_true, true_or, or_false, false_or, implies_true, true_implies, false_implies] <;> omega)), ht⟩) (fun _ h => absurd h List.not_mem_nil) dX3_bestNext_68
  · skip
    have tc_2 : ¬ mn.toInt ≤ v7_9.toInt := fun h => c_2 ((fa_le _ _).mpr h)
    refine lv_iload_n hx hb dX3_bestNext_16 rfl (lv_at hl 5 rfl) ?_
    refine lv_iload hx hb dX3_bestNext_17 (lv_at hl 0 rfl) ?_
    refine lv_ishr hx hb dX3_bestNext_19 ?_
    refine lv_topi (fun n_3 en_3 => ?_)
    clear en_3
    refine lv_iconst (v := 1) hx hb dX3_bestNext_20 (by decide) ?_
    refine lv_iand hx hb dX3_bestNext_21 ?_
    refine lv_topi (fun n_4 en_4 => ?_)
    clear en_4
    refine lv_iconst (v := 1) hx hb dX3_bestNext_22 (by decide) ?_
    refine lv_icmp_ne (tgt := 29) hx hb dX3_bestNext_23 (by decide) (fun c_5 => ?_) (fun c_5 => ?_)
    · skip
      have tc_5 : ¬ n_4.toInt = 1 := fun h => c_5 ((fa_eq _ _).mpr h)
      refine lv_aload_n hx hb dX3_bestNext_29 rfl (lv_at hl 3 rfl) ?_
      refine lv_aload_n hx hb dX3_bestNext_30 rfl (lv_at hl 4 rfl) ?_
      refine lv_iload_n hx hb dX3_bestNext_31 rfl (lv_at hl 5 rfl) ?_
      refine lv_iload_n hx hb dX3_bestNext_32 rfl (lv_at hl 6 rfl) ?_
      refine lv_iload hx hb dX3_bestNext_33 (lv_at hl 0 rfl) ?_
      have hPc := hP.sub (ws' := [(h0, .inr (1, [u0, u1, .ref qr])), (qr, .inl (cr, 384, .inl fr)), (h1, .inr (4, [w0, w1, w2, w3, w4, w5, w6, .ref q5, w8])), (q5, .inl (c5, 7, .inr (.inl f5)))]) [0, 1, 2, 3] rfl
      have hKc := hK.sub (tys' := [(cr, .int), (c5, .long)]) [0, 1] rfl
      refine vp_callSi (W.runV (As := [.ref h1, .int a, .int b, .int v7_9]) (rest := []) ⟨hx, hb, hml, hown, hts⟩ (o_costVia l dC dI ad h0 h1 a b v7_9 u0 u1 qr cr fr w0 w1 w2 w3 w4 w5 w6 q5 w8 c5 f5 hset hb2 (by first | omega | decide | (simp only [fa_lt, fa_le, fa_eq, and_true, true_and, and_false, false_and, not_true_eq_false, not_false_eq_true, li_0, li_1, li_2, li_3, li_4, li_5, li_6, li_7, li_8, li_9, li_10, li_12, li_15, li_16, li_20, li_30, li_34, li_38, li_40, li_63, li_64, li_65, li_78, li_120, li_1000, li_4000, li_10000, li_11077, li_255, li_65535, li_m1, li_m2, li_m1000000001, li_m1000000002, li_m1000000003, li_m1000000004, li_m1000000005, li_m1000000006, li_m1000000007, or_true, true_or, or_false, false_or, implies_true, true_implies, false_implies] <;> omega))) (cwV 4 hts g_o_bestNext_o_costVia_37 rfl rfl rfl (by decide +kernel) ⟨(Nat.le_of_ble_eq_true rfl), (Nat.le_of_ble_eq_true rfl)⟩) ⟨preS_blind, va_recv hKc hPc (ci := 1) (q0 := 0) rfl rfl, fun U hU hW => ⟨rfl, preS_at hU hW hPc hKc hev⟩⟩ rfl rfl hl.1 rfl (lv_room (Nat.le_of_ble_eq_true rfl)) dX3_bestNext_35 ⟨(Nat.le_of_ble_eq_true rfl), (Nat.le_of_ble_eq_true rfl)⟩) (fun r_6 hw => ?_)
      refine lv_istore (lv' := [(8, .int r_6), (7, .int v7_9), (6, .int v6_9), (5, .int v5_9), (0, .ref h0), (1, .ref h1), (2, .int a), (3, .int b), (4, .int mn)]) hx hb dX3_bestNext_38 hl (by decide) rfl (fun ls hl => ?_)
      refine lv_iload hx hb dX3_bestNext_40 (lv_at hl 3 rfl) ?_
      refine lv_if_lt (tgt := 52) hx hb dX3_bestNext_42 (by decide) (fun c_7 => ?_) (fun c_7 => ?_)
      · skip
        have tc_7 : v5_9.toInt < 0 := (fa_lt _ _).mp c_7
        refine lv_iload hx hb dX3_bestNext_52 (lv_at hl 1 rfl) ?_
        refine lv_istore (lv' := [(5, .int v7_9), (8, .int r_6), (7, .int v7_9), (6, .int v6_9), (0, .ref h0), (1, .ref h1), (2, .int a), (3, .int b), (4, .int mn)]) hx hb dX3_bestNext_54 hl (by decide) rfl (fun ls hl => ?_)
        refine lv_iload hx hb dX3_bestNext_56 (lv_at hl 1 rfl) ?_
        refine lv_istore (lv' := [(6, .int r_6), (5, .int v7_9), (8, .int r_6), (7, .int v7_9), (0, .ref h0), (1, .ref h1), (2, .int a), (3, .int b), (4, .int mn)]) hx hb dX3_bestNext_58 hl (by decide) rfl (fun ls hl => ?_)
        obtain ⟨n_8, en_8⟩ : ∃ y : Int32, y = v7_9 + 1 := ⟨_, rfl⟩
        have tn_8 : n_8.toInt = v7_9.toInt + 1 := pp_add en_8 rfl rfl (by omega) (by omega)
        refine lv_iinc (v := n_8) (lv' := [(7, .int n_8), (6, .int r_6), (5, .int v7_9), (8, .int r_6), (0, .ref h0), (1, .ref h1), (2, .int a), (3, .int b), (4, .int mn)]) hx hb dX3_bestNext_60 hl (k := 3) rfl (by rw [en_8]; rfl) (by decide) rfl (fun ls hl => ?_)
        clear en_8
        refine lv_goto (tgt := 9) hx hb dX3_bestNext_63 (by decide) ?_
        exact ihk_1 (n_8, r_6, v7_9) _ _ _ (by show (mn.toInt - n_8.toInt).toNat < k_1; omega) ⟨(by first | omega | decide | (simp only [fa_lt, fa_le, fa_eq, and_true, true_and, and_false, false_and, not_true_eq_false, not_false_eq_true, li_0, li_1, li_2, li_3, li_4, li_5, li_6, li_7, li_8, li_9, li_10, li_12, li_15, li_16, li_20, li_30, li_34, li_38, li_40, li_63, li_64, li_65, li_78, li_120, li_1000, li_4000, li_10000, li_11077, li_255, li_65535, li_m1, li_m2, li_m1000000001, li_m1000000002, li_m1000000003, li_m1000000004, li_m1000000005, li_m1000000006, li_m1000000007, or_true, true_or, or_false, false_or, implies_true, true_implies, false_implies] <;> omega)), (by first | omega | decide | (simp only [fa_lt, fa_le, fa_eq, and_true, true_and, and_false, false_and, not_true_eq_false, not_false_eq_true, li_0, li_1, li_2, li_3, li_4, li_5, li_6, li_7, li_8, li_9, li_10, li_12, li_15, li_16, li_20, li_30, li_34, li_38, li_40, li_63, li_64, li_65, li_78, li_120, li_1000, li_4000, li_10000, li_11077, li_255, li_65535, li_m1, li_m2, li_m1000000001, li_m1000000002, li_m1000000003, li_m1000000004, li_m1000000005, li_m1000000006, li_m1000000007, or_true, true_or, or_false, false_or, implies_true, true_implies, false_implies] <;> omega)), rfl, rfl, lv_sub hl [0, 1, 2, 4, 5, 6, 7, 8] rfl⟩
      · skip
        have tc_7 : ¬ v5_9.toInt < 0 := fun h => c_7 ((fa_lt _ _).mpr h)
        refine lv_iload hx hb dX3_bestNext_45 (lv_at hl 0 rfl) ?_
        refine lv_iload hx hb dX3_bestNext_47 (lv_at hl 2 rfl) ?_
        have rc_9_x := pp_rng r_6
        have rc_9_y := pp_rng v6_9
        refine lv_icmp_ge (tgt := 60) hx hb dX3_bestNext_49 (by decide) (fun c_9 => ?_) (fun c_9 => ?_)
        · skip
          have tc_9 : v6_9.toInt ≤ r_6.toInt := (fa_le _ _).mp c_9
          obtain ⟨n_10, en_10⟩ : ∃ y : Int32, y = v7_9 + 1 := ⟨_, rfl⟩
          have tn_10 : n_10.toInt = v7_9.toInt + 1 := pp_add en_10 rfl rfl (by omega) (by omega)
          refine lv_iinc (v := n_10) (lv' := [(7, .int n_10), (8, .int r_6), (6, .int v6_9), (5, .int v5_9), (0, .ref h0), (1, .ref h1), (2, .int a), (3, .int b), (4, .int mn)]) hx hb dX3_bestNext_60 hl (k := 1) rfl (by rw [en_10]; rfl) (by decide) rfl (fun ls hl => ?_)
          clear en_10
          refine lv_goto (tgt := 9) hx hb dX3_bestNext_63 (by decide) ?_
          exact ihk_1 (n_10, v6_9, v5_9) _ _ _ (by show (mn.toInt - n_10.toInt).toNat < k_1; omega) ⟨(by first | omega | decide | (simp only [fa_lt, fa_le, fa_eq, and_true, true_and, and_false, false_and, not_true_eq_false, not_false_eq_true, li_0, li_1, li_2, li_3, li_4, li_5, li_6, li_7, li_8, li_9, li_10, li_12, li_15, li_16, li_20, li_30, li_34, li_38, li_40, li_63, li_64, li_65, li_78, li_120, li_1000, li_4000, li_10000, li_11077, li_255, li_65535, li_m1, li_m2, li_m1000000001, li_m1000000002, li_m1000000003, li_m1000000004, li_m1000000005, li_m1000000006, li_m1000000007, or_true, true_or, or_false, false_or, implies_true, true_implies, false_implies] <;> omega)), (by first | omega | decide | (simp only [fa_lt, fa_le, fa_eq, and_true, true_and, and_false, false_and, not_true_eq_false, not_false_eq_true, li_0, li_1, li_2, li_3, li_4, li_5, li_6, li_7, li_8, li_9, li_10, li_12, li_15, li_16, li_20, li_30, li_34, li_38, li_40, li_63, li_64, li_65, li_78, li_120, li_1000, li_4000, li_10000, li_11077, li_255, li_65535, li_m1, li_m2, li_m1000000001, li_m1000000002, li_m1000000003, li_m1000000004, li_m1000000005, li_m1000000006, li_m1000000007, or_true, true_or, or_false, false_or, implies_true, true_implies, false_implies] <;> omega)), rfl, rfl, lv_sub hl [0, 2, 3, 4, 5, 6, 7, 8] rfl⟩
        · skip
          have tc_9 : ¬ v6_9.toInt ≤ r_6.toInt := fun h => c_9 ((fa_le _ _).mpr h)
          refine lv_iload hx hb dX3_bestNext_52 (lv_at hl 1 rfl) ?_
          refine lv_istore (lv' := [(5, .int v7_9), (8, .int r_6), (7, .int v7_9), (6, .int v6_9), (0, .ref h0), (1, .ref h1), (2, .int a), (3, .int b), (4, .int mn)]) hx hb dX3_bestNext_54 hl (by decide) rfl (fun ls hl => ?_)
          refine lv_iload hx hb dX3_bestNext_56 (lv_at hl 1 rfl) ?_
          refine lv_istore (lv' := [(6, .int r_6), (5, .int v7_9), (8, .int r_6), (7, .int v7_9), (0, .ref h0), (1, .ref h1), (2, .int a), (3, .int b), (4, .int mn)]) hx hb dX3_bestNext_58 hl (by decide) rfl (fun ls hl => ?_)
          obtain ⟨n_11, en_11⟩ : ∃ y : Int32, y = v7_9 + 1 := ⟨_, rfl⟩
          have tn_11 : n_11.toInt = v7_9.toInt + 1 := pp_add en_11 rfl rfl (by omega) (by omega)
          refine lv_iinc (v := n_11) (lv' := [(7, .int n_11), (6, .int r_6), (5, .int v7_9), (8, .int r_6), (0, .ref h0), (1, .ref h1), (2, .int a), (3, .int b), (4, .int mn)]) hx hb dX3_bestNext_60 hl (k := 3) rfl (by rw [en_11]; rfl) (by decide) rfl (fun ls hl => ?_)
          clear en_11
          refine lv_goto (tgt := 9) hx hb dX3_bestNext_63 (by decide) ?_
          exact ihk_1 (n_11, r_6, v7_9) _ _ _ (by show (mn.toInt - n_11.toInt).toNat < k_1; omega) ⟨(by first | omega | decide | (simp only [fa_lt, fa_le, fa_eq, and_true, true_and, and_false, false_and, not_true_eq_false, not_false_eq_true, li_0, li_1, li_2, li_3, li_4, li_5, li_6, li_7, li_8, li_9, li_10, li_12, li_15, li_16, li_20, li_30, li_34, li_38, li_40, li_63, li_64, li_65, li_78, li_120, li_1000, li_4000, li_10000, li_11077, li_255, li_65535, li_m1, li_m2, li_m1000000001, li_m1000000002, li_m1000000003, li_m1000000004, li_m1000000005, li_m1000000006, li_m1000000007, or_true, true_or, or_false, false_or, implies_true, true_implies, false_implies] <;> omega)), (by first | omega | decide | (simp only [fa_lt, fa_le, fa_eq, and_true, true_and, and_false, false_and, not_true_eq_false, not_false_eq_true, li_0, li_1, li_2, li_3, li_4, li_5, li_6, li_7, li_8, li_9, li_10, li_12, li_15, li_16, li_20, li_30, li_34, li_38, li_40, li_63, li_64, li_65, li_78, li_120, li_1000, li_4000, li_10000, li_11077, li_255, li_65535, li_m1, li_m2, li_m1000000001, li_m1000000002, li_m1000000003, li_m1000000004, li_m1000000005, li_m1000000006, li_m1000000007, or_true, true_or, or_false, false_or, implies_true, true_implies, false_implies] <;> omega)), rfl, rfl, lv_sub hl [0, 1, 2, 4, 5, 6, 7, 8] rfl⟩
    · skip
      have tc_5 : n_4.toInt = 1 := (fa_eq _ _).mp c_5
      refine lv_goto (tgt := 60) hx hb dX3_bestNext_26 (by decide) ?_
      obtain ⟨n_12, en_12⟩ : ∃ y : Int32, y = v7_9 + 1 := ⟨_, rfl⟩
      have tn_12 : n_12.toInt = v7_9.toInt + 1 := pp_add en_12 rfl rfl (by omega) (by omega)
      refine lv_iinc (v := n_12) (lv' := [(7, .int n_12), (6, .int v6_9), (5, .int v5_9), (0, .ref h0), (1, .ref h1), (2, .int a), (3, .int b), (4, .int mn)]) hx hb dX3_bestNext_60 hl (k := 0) rfl (by rw [en_12]; rfl) (by decide) rfl (fun ls hl => ?_)
      clear en_12
      refine lv_goto (tgt := 9) hx hb dX3_bestNext_63 (by decide) ?_
      exact ihk_1 (n_12, v6_9, v5_9) _ _ _ (by show (mn.toInt - n_12.toInt).toNat < k_1; omega) ⟨(by first | omega | decide | (simp only [fa_lt, fa_le, fa_eq, and_true, true_and, and_false, false_and, not_true_eq_false, not_false_eq_true, li_0, li_1, li_2, li_3, li_4, li_5, li_6, li_7, li_8, li_9, li_10, li_12, li_15, li_16, li_20, li_30, li_34, li_38, li_40, li_63, li_64, li_65, li_78, li_120, li_1000, li_4000, li_10000, li_11077, li_255, li_65535, li_m1, li_m2, li_m1000000001, li_m1000000002, li_m1000000003, li_m1000000004, li_m1000000005, li_m1000000006, li_m1000000007, or_true, true_or, or_false, false_or, implies_true, true_implies, false_implies] <;> omega)), (by first | omega | decide | (simp only [fa_lt, fa_le, fa_eq, and_true, true_and, and_false, false_and, not_true_eq_false, not_false_eq_true, li_0, li_1, li_2, li_3, li_4, li_5, li_6, li_7, li_8, li_9, li_10, li_12, li_15, li_16, li_20, li_30, li_34, li_38, li_40, li_63, li_64, li_65, li_78, li_120, li_1000, li_4000, li_10000, li_11077, li_255, li_65535, li_m1, li_m2, li_m1000000001, li_m1000000002, li_m1000000003, li_m1000000004, li_m1000000005, li_m1000000006, li_m1000000007, or_true, true_or, or_false, false_or, implies_true, true_implies, false_implies] <;> omega)), rfl, rfl, lv_sub hl [0, 1, 2, 3, 4, 5, 6, 7] rfl⟩

def w_o_walk : List Cond := .code yX3_walk cX3_walk 7 none :: (([.fieldLink RX3 9 "LampShapes$Route" "cost" "I", .methodLink RX3 33 yX3_bestNext, .instanceMethod yX3_bestNext, .selects RX3 yX3_bestNext yX3_bestNext, .initialized RX3, .code yX3_bestNext cX3_bestNext 9 (some .int), .methodLink RX3 37 yX3_costVia, .instanceMethod yX3_costVia, .selects RX3 yX3_costVia yX3_costVia, .code yX3_costVia cX3_costVia 6 (some .int), .methodLink RX3 44 yX6_changesBetween, .instanceMethod yX6_changesBetween, .selects RX6 yX6_changesBetween yX6_changesBetween, .initialized RX6, .code yX6_changesBetween cX6_changesBetween 3 (some .int), .methodLink RX6 98 yX6_offBetween, .instanceMethod yX6_offBetween, .selects RX6 yX6_offBetween yX6_offBetween, .code yX6_offBetween cX6_offBetween 3 (some .int), .fieldLink RX6 34 "LampShapes$Stage" "pictures" "[J", .methodLink RX6 94 yX1_cellsOff, .static yX1_cellsOff, .initialized RX1, .code yX1_cellsOff cX1_cellsOff 4 (some .int), .methodLink RX1 15 yJ13_bitCount_95d88, .static yJ13_bitCount_95d88, .initialized RJ13, .code yJ13_bitCount_95d88 cJ13_bitCount_95d88 2 (some .int), .constantLong RJ13 314 (6148914691236517205), .constantLong RJ13 316 (3689348814741910323), .constantLong RJ13 318 (1085102592571150095), .fieldLink RX3 19 "LampShapes$Route" "rest" "[I", .fieldLink RX3 15 "LampShapes$Route" "steps" "[I"] : List Cond) ++ wsX30 ++ wsX60)
set_option maxRecDepth 20000 in
theorem g_o_walk_o_bestNext_33 : GoodIn w_o_walk (wsV RX3 33 RX3 yX3_bestNext w_o_bestNext) := goodIn_r _ [2, 3, 4, 5, 6, 7, 8, 9, 5, 10, 11, 12, 13, 14, 15, 16, 17, 18, 19, 20, 21, 22, 23, 24, 25, 26, 27, 28, 29, 30, 31, 32, 37, 38, 39, 40, 41, 42, 43, 44, 45, 34, 35, 36] rfl (by decide +kernel)
set_option maxRecDepth 20000 in
theorem g_o_walk_o_costVia_37 : GoodIn w_o_walk (wsV RX3 37 RX3 yX3_costVia w_o_costVia) := goodIn_r _ [7, 8, 9, 5, 10, 11, 12, 13, 14, 15, 16, 17, 18, 19, 20, 21, 22, 23, 24, 25, 26, 27, 28, 29, 30, 31, 32, 37, 38, 39, 40, 41, 42, 43, 44, 45, 34, 35, 36] rfl (by decide +kernel)
set_option maxHeartbeats 4000000 in
set_option maxRecDepth 100000 in
theorem o_walk (l : Launch) (dC : Nat → ClassId) (dI : Nat → Nat → Nat) (ad : Nat → Nat) (h0 : Nat) (h1 : Nat) (mn : Int32) (co : Int32) (qs : Nat) (qr : Nat) (cs : ClassId) (fs : Nat → Int32) (cr : ClassId) (fr : Nat → Int32) (w0 : Value) (w1 : Value) (w2 : Value) (w3 : Value) (w4 : Value) (w5 : Value) (w6 : Value) (q5 : Nat) (w8 : Value) (c5 : ClassId) (f5 : Nat → Int64) (sz : Nat) (hmn : 0 ≤ mn.toInt ∧ mn.toInt ≤ 6) : Met l yX3_walk w_o_walk ({ frames := 6, cells := 0, slots := 0, locals := 141 } : Room) (va_Pc [.ref h0, .ref h1, .int mn] (preM dC dI ad [(cs, .int), (cr, .int), (c5, .long)] [(h0, .inr (1, [.int co, .ref qs, .ref qr])), (qs, .inl (cs, 6, .inl fs)), (qr, .inl (cr, 384, .inl fr)), (h1, .inr (4, [w0, w1, w2, w3, w4, w5, w6, .ref q5, w8])), (q5, .inl (c5, 7, .inr (.inl f5)))] sz)) (va_Qv (fun (_ : Unit) => True) (fun _ t => ∃ (co2 : Int32), ∃ (gs : Nat → Int32), va_P (dC, dI) vwCl [(h0, .inr (1, [.int co2, .ref qs, .ref qr])), (qs, .inl (cs, 6, .inl gs)), (qr, .inl (cr, 384, .inl fr)), (h1, .inr (4, [w0, w1, w2, w3, w4, w5, w6, .ref q5, w8])), (q5, .inl (c5, 7, .inr (.inl f5)))] t.heap ∧ va_K (dC, dI) vwCl [(cs, .int), (cr, .int), (c5, .long)] t ∧ va_D (va_A [(h0, .inr (1, [.int co, .ref qs, .ref qr])), (qs, .inl (cs, 6, .inl fs)), (qr, .inl (cr, 384, .inl fr)), (h1, .inr (4, [w0, w1, w2, w3, w4, w5, w6, .ref q5, w8])), (q5, .inl (c5, 7, .inr (.inl f5)))] sz) [(h0, .inr (1, [.int co2, .ref qs, .ref qr])), (qs, .inl (cs, 6, .inl gs)), (qr, .inl (cr, 384, .inl fr)), (h1, .inr (4, [w0, w1, w2, w3, w4, w5, w6, .ref q5, w8])), (q5, .inl (c5, 7, .inr (.inl f5)))]) (va_A [(h0, .inr (1, [.int co, .ref qs, .ref qr])), (qs, .inl (cs, 6, .inl fs)), (qr, .inl (cr, 384, .inl fr)), (h1, .inr (4, [w0, w1, w2, w3, w4, w5, w6, .ref q5, w8])), (q5, .inl (c5, 7, .inr (.inl f5)))] sz)) 0 0 (va_A [(h0, .inr (1, [.int co, .ref qs, .ref qr])), (qs, .inl (cs, 6, .inl fs)), (qr, .inl (cr, 384, .inl fr)), (h1, .inr (4, [w0, w1, w2, w3, w4, w5, w6, .ref q5, w8])), (q5, .inl (c5, 7, .inr (.inl f5)))] sz) := by
  refine Met.ofW (cc := cX3_walk) (maxL := 7) (ret := none) (by decide) rfl ?_
  intro p e s m args below meth c s₁ B hml hv
  obtain ⟨rfl, hsz, hP, hK, hD0, hev⟩ := hv
  have hx := B.exec
  have hb := B.bytes
  have hr := B.returns
  have hts := atoms_spec (ws := w_o_walk) B.pre
  have hown : s.vm.findClass RX3 = some m.cls := findClass_of_methodNamed B.named
  have hlocks := B.notSynchronized
  have inX3 : ∀ w ∈ wsX30, w ∈ w_o_walk := fun w h => List.mem_cons_of_mem _ (List.mem_append_left _ (List.mem_append_right _ h))
  have inX6 : ∀ w ∈ wsX60, w ∈ w_o_walk := fun w h => List.mem_cons_of_mem _ (List.mem_append_right _ h)
  subst hsz
  have hD := hD0.self (sz := s.heap.size)
  generalize hAe : va_A [(h0, .inr (1, [.int co, .ref qs, .ref qr])), (qs, .inl (cs, 6, .inl fs)), (qr, .inl (cr, 384, .inl fr)), (h1, .inr (4, [w0, w1, w2, w3, w4, w5, w6, .ref q5, w8])), (q5, .inl (c5, 7, .inr (.inl f5)))] s.heap.size = A at hD ⊢
  have hA : ∀ q : Nat, s.heap.size ≤ q → A q := fun q h => by rw [← hAe]; exact Or.inr h
  have hS : va_S A s.heap s.heap [] := va_S.rf
  have hP : va_P (dC, dI) vwCl [(h0, .inr (1, [.int co, .ref qs, .ref qr])), (qs, .inl (cs, 6, .inl fs)), (qr, .inl (cr, 384, .inl fr)), (h1, .inr (4, [w0, w1, w2, w3, w4, w5, w6, .ref q5, w8])), (q5, .inl (c5, 7, .inr (.inl f5)))] s.heap := hP
  have hl := lv_entry ([.ref h0, .ref h1, .int mn]) (n := 7) (Nat.le_of_ble_eq_true rfl)
  rw [lg_entry_eq]
  generalize (lg_sl ([.ref h0, .ref h1, .int mn]) ++ List.replicate (7 - (lg_sl ([.ref h0, .ref h1, .int mn])).length) Slot.unset).toArray = ls at hl ⊢
  have hl : lv_has ls 7 [(0, .ref h0), (1, .ref h1), (2, .int mn)] := hl
  refine lv_iconst (v := 0) hx hb dX3_walk_0 (by decide) ?_
  refine lv_istore_n (lv' := [(3, .int 0), (0, .ref h0), (1, .ref h1), (2, .int mn)]) hx hb dX3_walk_1 rfl hl (by decide) rfl (fun ls hl => ?_)
  refine lv_iconst (v := (-1)) hx hb dX3_walk_2 (by decide) ?_
  refine lv_istore (lv' := [(4, .int (-1)), (3, .int 0), (0, .ref h0), (1, .ref h1), (2, .int mn)]) hx hb dX3_walk_3 hl (by decide) rfl (fun ls hl => ?_)
  refine lv_aload_n hx hb dX3_walk_5 rfl (lv_at hl 2 rfl) ?_
  refine lv_iconst (v := 0) hx hb dX3_walk_6 (by decide) ?_
  refine va_put (D := (dC, dI)) (ci := 1) (v := .int 0) (ty := .int) (C := RX3) (T := TX3) (N := 3) hx hb hts inX3 tyX3 tyX3_ok nmX3 hown hK hP hD hS 0 rfl rfl 0 (by decide) (hts _ (List.mem_of_getElem? (i := 1) rfl)) (fun _ h9 => h9) rfl (by decide +kernel) rfl rfl (Nat.le_of_ble_eq_true rfl) dX3_walk_7 (fun H locs hP hD hS => ?_)
  have hP : va_P (dC, dI) vwCl [(h0, .inr (1, [.int 0, .ref qs, .ref qr])), (qs, .inl (cs, 6, .inl fs)), (qr, .inl (cr, 384, .inl fr)), (h1, .inr (4, [w0, w1, w2, w3, w4, w5, w6, .ref q5, w8])), (q5, .inl (c5, 7, .inr (.inl f5)))] H := hP
  have hD : va_D A [(h0, .inr (1, [.int 0, .ref qs, .ref qr])), (qs, .inl (cs, 6, .inl fs)), (qr, .inl (cr, 384, .inl fr)), (h1, .inr (4, [w0, w1, w2, w3, w4, w5, w6, .ref q5, w8])), (q5, .inl (c5, 7, .inr (.inl f5)))] := hD
  refine lv_iconst (v := 0) hx hb dX3_walk_10 (by decide) ?_
  refine lv_istore (lv' := [(5, .int 0), (4, .int (-1)), (3, .int 0), (0, .ref h0), (1, .ref h1), (2, .int mn)]) hx hb dX3_walk_11 hl (by decide) rfl (fun ls hl => ?_)
  refine pp_loop (ι := Int32 × Int32 × Int32 × Int32 × (Nat → Int32)) (fun ⟨v5_13, v4_13, v3_13, y0, ys⟩ => (mn.toInt - v5_13.toInt).toNat) (fun ⟨v5_13, v4_13, v3_13, y0, ys⟩ H locs ls => (0 ≤ v3_13.toInt ∧ v3_13.toInt ≤ 63) ∧ (v4_13.toInt ≤ 5) ∧ (0 ≤ v5_13.toInt) ∧ va_P (dC, dI) vwCl [(h0, .inr (1, [.int y0, .ref qs, .ref qr])), (qs, .inl (cs, 6, .inl ys)), (qr, .inl (cr, 384, .inl fr)), (h1, .inr (4, [w0, w1, w2, w3, w4, w5, w6, .ref q5, w8])), (q5, .inl (c5, 7, .inr (.inl f5)))] H ∧ va_D A [(h0, .inr (1, [.int y0, .ref qs, .ref qr])), (qs, .inl (cs, 6, .inl ys)), (qr, .inl (cr, 384, .inl fr)), (h1, .inr (4, [w0, w1, w2, w3, w4, w5, w6, .ref q5, w8])), (q5, .inl (c5, 7, .inr (.inl f5)))] ∧ va_S A s.heap H locs ∧ lv_has ls 7 [(5, .int v5_13), (4, .int v4_13), (3, .int v3_13), (0, .ref h0), (1, .ref h1), (2, .int mn)]) ?_ (0, (-1), 0, 0, fs) _ _ _ ⟨(by first | omega | decide | (simp only [fa_lt, fa_le, fa_eq, and_true, true_and, and_false, false_and, not_true_eq_false, not_false_eq_true, li_0, li_1, li_2, li_3, li_4, li_5, li_6, li_7, li_8, li_9, li_10, li_12, li_15, li_16, li_20, li_30, li_34, li_38, li_40, li_63, li_64, li_65, li_78, li_120, li_1000, li_4000, li_10000, li_11077, li_255, li_65535, li_m1, li_m2, li_m1000000001, li_m1000000002, li_m1000000003, li_m1000000004, li_m1000000005, li_m1000000006, li_m1000000007, or_true, true_or, or_false, false_or, implies_true, true_implies, false_implies] <;> omega)), (by first | omega | decide | (simp only [fa_lt, fa_le, fa_eq, and_true, true_and, and_false, false_and, not_true_eq_false, not_false_eq_true, li_0, li_1, li_2, li_3, li_4, li_5, li_6, li_7, li_8, li_9, li_10, li_12, li_15, li_16, li_20, li_30, li_34, li_38, li_40, li_63, li_64, li_65, li_78, li_120, li_1000, li_4000, li_10000, li_11077, li_255, li_65535, li_m1, li_m2, li_m1000000001, li_m1000000002, li_m1000000003, li_m1000000004, li_m1000000005, li_m1000000006, li_m1000000007, or_true, true_or, or_false, false_or, implies_true, true_implies, false_implies] <;> omega)), (by first | omega | decide | (simp only [fa_lt, fa_le, fa_eq, and_true, true_and, and_false, false_and, not_true_eq_false, not_false_eq_true, li_0, li_1, li_2, li_3, li_4, li_5, li_6, li_7, li_8, li_9, li_10, li_12, li_15, li_16, li_20, li_30, li_34, li_38, li_40, li_63, li_64, li_65, li_78, li_120, li_1000, li_4000, li_10000, li_11077, li_255, li_65535, li_m1, li_m2, li_m1000000001, li_m1000000002, li_m1000000003, li_m1000000004, li_m1000000005, li_m1000000006, li_m1000000007, or_true, true_or, or_false, false_or, implies_true, true_implies, false_implies] <;> omega)), hP.sub [0, 1, 2, 3, 4] rfl, hD.sub [0, 1, 2, 3, 4] (by decide) rfl, hS, lv_sub hl [0, 1, 2, 3, 4, 5] rfl⟩
  intro k_1 ihk_1 u H locs ls hm hI
  obtain ⟨v5_13, v4_13, v3_13, y0, ys⟩ := u
  obtain ⟨jk_1_0, jk_1_1, jk_1_2, hP, hD, hS, hl⟩ := hI
  have hmk_1 : (mn.toInt - v5_13.toInt).toNat < k_1 + 1 := hm
  clear hm
  have jk_1_0 : 0 ≤ v3_13.toInt ∧ v3_13.toInt ≤ 63 := jk_1_0
  have jk_1_1 : v4_13.toInt ≤ 5 := jk_1_1
  have jk_1_2 : 0 ≤ v5_13.toInt := jk_1_2
  have hl : lv_has ls 7 [(5, .int v5_13), (4, .int v4_13), (3, .int v3_13), (0, .ref h0), (1, .ref h1), (2, .int mn)] := hl
  have hP : va_P (dC, dI) vwCl [(h0, .inr (1, [.int y0, .ref qs, .ref qr])), (qs, .inl (cs, 6, .inl ys)), (qr, .inl (cr, 384, .inl fr)), (h1, .inr (4, [w0, w1, w2, w3, w4, w5, w6, .ref q5, w8])), (q5, .inl (c5, 7, .inr (.inl f5)))] H := hP
  have hD : va_D A [(h0, .inr (1, [.int y0, .ref qs, .ref qr])), (qs, .inl (cs, 6, .inl ys)), (qr, .inl (cr, 384, .inl fr)), (h1, .inr (4, [w0, w1, w2, w3, w4, w5, w6, .ref q5, w8])), (q5, .inl (c5, 7, .inr (.inl f5)))] := hD
  refine lv_iload hx hb dX3_walk_13 (lv_at hl 0 rfl) ?_
  refine lv_iload_n hx hb dX3_walk_15 rfl (lv_at hl 5 rfl) ?_
  have rc_2_x := pp_rng v5_13
  have rc_2_y := pp_rng mn
  refine lv_icmp_ge (tgt := 81) hx hb dX3_walk_16 (by decide) (fun c_2 => ?_) (fun c_2 => ?_)
  · skip
    have tc_2 : mn.toInt ≤ v5_13.toInt := (fa_le _ _).mp c_2
    have hP9 := hP.sub (ws' := [(h0, .inr (1, [.int y0, .ref qs, .ref qr])), (qs, .inl (cs, 6, .inl ys)), (qr, .inl (cr, 384, .inl fr)), (h1, .inr (4, [w0, w1, w2, w3, w4, w5, w6, .ref q5, w8])), (q5, .inl (c5, 7, .inr (.inl f5)))]) [0, 1, 2, 3, 4] rfl
    have hD9 := hD.sub (ws' := [(h0, .inr (1, [.int y0, .ref qs, .ref qr])), (qs, .inl (cs, 6, .inl ys)), (qr, .inl (cr, 384, .inl fr)), (h1, .inr (4, [w0, w1, w2, w3, w4, w5, w6, .ref q5, w8])), (q5, .inl (c5, 7, .inr (.inl f5)))]) [0, 1, 2, 3, 4] (by decide) rfl
    have hK9 := hK.sub (tys' := [(cs, .int), (cr, .int), (c5, .long)]) [0, 1, 2] rfl
    exact W.vret hx hb hr (fun t ht hW => ⟨⟨(), rfl, trivial, y0, ys, by rw [ht]; exact hP9, va_K.moved hW.alike hK9, hD9⟩, hS.F ht⟩) hS.2.2 dX3_walk_81
  · skip
    have tc_2 : ¬ mn.toInt ≤ v5_13.toInt := fun h => c_2 ((fa_le _ _).mpr h)
    refine lv_aload_n hx hb dX3_walk_19 rfl (lv_at hl 3 rfl) ?_
    refine lv_aload_n hx hb dX3_walk_20 rfl (lv_at hl 4 rfl) ?_
    refine lv_iload_n hx hb dX3_walk_21 rfl (lv_at hl 2 rfl) ?_
    refine lv_iload hx hb dX3_walk_22 (lv_at hl 1 rfl) ?_
    refine lv_iload_n hx hb dX3_walk_24 rfl (lv_at hl 5 rfl) ?_
    have hPc := hP.sub (ws' := [(h0, .inr (1, [.int y0, .ref qs, .ref qr])), (qr, .inl (cr, 384, .inl fr)), (h1, .inr (4, [w0, w1, w2, w3, w4, w5, w6, .ref q5, w8])), (q5, .inl (c5, 7, .inr (.inl f5)))]) [0, 2, 3, 4] rfl
    have hKc := hK.sub (tys' := [(cr, .int), (c5, .long)]) [1, 2] rfl
    refine vp_callSi (W.runV (As := [.ref h1, .int v3_13, .int v4_13, .int mn]) (rest := []) ⟨hx, hb, hml, hown, hts⟩ (o_bestNext l dC dI ad h0 h1 v3_13 v4_13 mn (.int y0) (.ref qs) qr cr fr w0 w1 w2 w3 w4 w5 w6 q5 w8 c5 f5 (by first | omega | decide | (simp only [fa_lt, fa_le, fa_eq, and_true, true_and, and_false, false_and, not_true_eq_false, not_false_eq_true, li_0, li_1, li_2, li_3, li_4, li_5, li_6, li_7, li_8, li_9, li_10, li_12, li_15, li_16, li_20, li_30, li_34, li_38, li_40, li_63, li_64, li_65, li_78, li_120, li_1000, li_4000, li_10000, li_11077, li_255, li_65535, li_m1, li_m2, li_m1000000001, li_m1000000002, li_m1000000003, li_m1000000004, li_m1000000005, li_m1000000006, li_m1000000007, or_true, true_or, or_false, false_or, implies_true, true_implies, false_implies] <;> omega)) (by first | omega | decide | (simp only [fa_lt, fa_le, fa_eq, and_true, true_and, and_false, false_and, not_true_eq_false, not_false_eq_true, li_0, li_1, li_2, li_3, li_4, li_5, li_6, li_7, li_8, li_9, li_10, li_12, li_15, li_16, li_20, li_30, li_34, li_38, li_40, li_63, li_64, li_65, li_78, li_120, li_1000, li_4000, li_10000, li_11077, li_255, li_65535, li_m1, li_m2, li_m1000000001, li_m1000000002, li_m1000000003, li_m1000000004, li_m1000000005, li_m1000000006, li_m1000000007, or_true, true_or, or_false, false_or, implies_true, true_implies, false_implies] <;> omega)) hmn) (cwV 4 hts g_o_walk_o_bestNext_33 rfl rfl rfl (by decide +kernel) ⟨(Nat.le_of_ble_eq_true rfl), (Nat.le_of_ble_eq_true rfl)⟩) ⟨preS_blind, va_recv hKc hPc (ci := 1) (q0 := 0) rfl rfl, fun U hU hW => ⟨rfl, preS_at hU hW hPc hKc hev⟩⟩ rfl rfl hl.1 rfl (lv_room (Nat.le_of_ble_eq_true rfl)) dX3_walk_25 ⟨(Nat.le_of_ble_eq_true rfl), (Nat.le_of_ble_eq_true rfl)⟩) (fun r_3 hw => ?_)
    have hr_3 : (-1) ≤ r_3.toInt ∧ r_3.toInt ≤ 5 := hw
    refine lv_istore (lv' := [(6, .int r_3), (5, .int v5_13), (4, .int v4_13), (3, .int v3_13), (0, .ref h0), (1, .ref h1), (2, .int mn)]) hx hb dX3_walk_28 hl (by decide) rfl (fun ls hl => ?_)
    refine lv_iload hx hb dX3_walk_30 (lv_at hl 0 rfl) ?_
    refine lv_if_ge (tgt := 36) hx hb dX3_walk_32 (by decide) (fun c_4 => ?_) (fun c_4 => ?_)
    · skip
      have tc_4 : 0 ≤ r_3.toInt := (fa_le _ _).mp c_4
      refine lv_iload hx hb dX3_walk_36 (lv_at hl 1 rfl) ?_
      refine lv_if_ne (tgt := 55) hx hb dX3_walk_38 (by decide) (fun c_5 => ?_) (fun c_5 => ?_)
      · skip
        have tc_5 : ¬ v5_13.toInt = 0 := fun h => c_5 ((fa_eq _ _).mpr h)
        refine lv_aload_n hx hb dX3_walk_55 rfl (lv_at hl 4 rfl) ?_
        refine va_get (D := (dC, dI)) (ci := 1) (v := .ref qs) (C := RX3) (T := TX3) (N := 3) hx hb hts inX3 hown hK hP 0 rfl rfl 1 (by decide) (hts _ (List.mem_of_getElem? (i := 33) rfl)) (fun _ h9 => h9) rfl dX3_walk_56 ?_
        refine lv_iload hx hb dX3_walk_59 (lv_at hl 1 rfl) ?_
        refine lv_iload hx hb dX3_walk_61 (lv_at hl 0 rfl) ?_
        refine va_iast hx hb hK hP hD hS 1 0 rfl rfl (vp_in_iff.mpr ⟨by omega, by omega⟩) dX3_walk_63 (fun H locs hP hD hS => ?_)
        have hP : va_P (dC, dI) vwCl [(h0, .inr (1, [.int y0, .ref qs, .ref qr])), (qs, .inl (cs, 6, .inl (upd ys v5_13.toNatClampNeg r_3))), (qr, .inl (cr, 384, .inl fr)), (h1, .inr (4, [w0, w1, w2, w3, w4, w5, w6, .ref q5, w8])), (q5, .inl (c5, 7, .inr (.inl f5)))] H := hP
        have hD : va_D A [(h0, .inr (1, [.int y0, .ref qs, .ref qr])), (qs, .inl (cs, 6, .inl (upd ys v5_13.toNatClampNeg r_3))), (qr, .inl (cr, 384, .inl fr)), (h1, .inr (4, [w0, w1, w2, w3, w4, w5, w6, .ref q5, w8])), (q5, .inl (c5, 7, .inr (.inl f5)))] := hD
        refine lv_iload_n hx hb dX3_walk_64 rfl (lv_at hl 3 rfl) ?_
        refine lv_iconst (v := 1) hx hb dX3_walk_65 (by decide) ?_
        refine lv_iload hx hb dX3_walk_66 (lv_at hl 0 rfl) ?_
        refine lv_ishl hx hb dX3_walk_68 ?_
        refine lv_topi (fun n_6 en_6 => ?_)
        have tn_6 := pp_shl1 en_6 (by omega) (by omega)
        clear en_6
        refine lv_ior hx hb dX3_walk_69 ?_
        refine lv_topi (fun n_7 en_7 => ?_)
        have tn_7 : 0 ≤ n_7.toInt ∧ n_7.toInt ≤ 63 := pp_or63 en_7 (by omega) (by omega) (by omega) (by omega)
        clear en_7
        refine lv_istore_n (lv' := [(3, .int n_7), (6, .int r_3), (5, .int v5_13), (4, .int v4_13), (0, .ref h0), (1, .ref h1), (2, .int mn)]) hx hb dX3_walk_70 rfl hl (by decide) rfl (fun ls hl => ?_)
        refine lv_iload hx hb dX3_walk_71 (lv_at hl 1 rfl) ?_
        refine lv_istore (lv' := [(4, .int r_3), (3, .int n_7), (6, .int r_3), (5, .int v5_13), (0, .ref h0), (1, .ref h1), (2, .int mn)]) hx hb dX3_walk_73 hl (by decide) rfl (fun ls hl => ?_)
        obtain ⟨n_8, en_8⟩ : ∃ y : Int32, y = v5_13 + 1 := ⟨_, rfl⟩
        have tn_8 : n_8.toInt = v5_13.toInt + 1 := pp_add en_8 rfl rfl (by omega) (by omega)
        refine lv_iinc (v := n_8) (lv' := [(5, .int n_8), (4, .int r_3), (3, .int n_7), (6, .int r_3), (0, .ref h0), (1, .ref h1), (2, .int mn)]) hx hb dX3_walk_75 hl (k := 3) rfl (by rw [en_8]; rfl) (by decide) rfl (fun ls hl => ?_)
        clear en_8
        refine lv_goto (tgt := 13) hx hb dX3_walk_78 (by decide) ?_
        exact ihk_1 (n_8, r_3, n_7, y0, (upd ys v5_13.toNatClampNeg r_3)) _ _ _ (by show (mn.toInt - n_8.toInt).toNat < k_1; omega) ⟨(by first | omega | decide | (simp only [fa_lt, fa_le, fa_eq, and_true, true_and, and_false, false_and, not_true_eq_false, not_false_eq_true, li_0, li_1, li_2, li_3, li_4, li_5, li_6, li_7, li_8, li_9, li_10, li_12, li_15, li_16, li_20, li_30, li_34, li_38, li_40, li_63, li_64, li_65, li_78, li_120, li_1000, li_4000, li_10000, li_11077, li_255, li_65535, li_m1, li_m2, li_m1000000001, li_m1000000002, li_m1000000003, li_m1000000004, li_m1000000005, li_m1000000006, li_m1000000007, or_true, true_or, or_false, false_or, implies_true, true_implies, false_implies] <;> omega)), (by first | omega | decide | (simp only [fa_lt, fa_le, fa_eq, and_true, true_and, and_false, false_and, not_true_eq_false, not_false_eq_true, li_0, li_1, li_2, li_3, li_4, li_5, li_6, li_7, li_8, li_9, li_10, li_12, li_15, li_16, li_20, li_30, li_34, li_38, li_40, li_63, li_64, li_65, li_78, li_120, li_1000, li_4000, li_10000, li_11077, li_255, li_65535, li_m1, li_m2, li_m1000000001, li_m1000000002, li_m1000000003, li_m1000000004, li_m1000000005, li_m1000000006, li_m1000000007, or_true, true_or, or_false, false_or, implies_true, true_implies, false_implies] <;> omega)), (by first | omega | decide | (simp only [fa_lt, fa_le, fa_eq, and_true, true_and, and_false, false_and, not_true_eq_false, not_false_eq_true, li_0, li_1, li_2, li_3, li_4, li_5, li_6, li_7, li_8, li_9, li_10, li_12, li_15, li_16, li_20, li_30, li_34, li_38, li_40, li_63, li_64, li_65, li_78, li_120, li_1000, li_4000, li_10000, li_11077, li_255, li_65535, li_m1, li_m2, li_m1000000001, li_m1000000002, li_m1000000003, li_m1000000004, li_m1000000005, li_m1000000006, li_m1000000007, or_true, true_or, or_false, false_or, implies_true, true_implies, false_implies] <;> omega)), hP.sub [0, 1, 2, 3, 4] rfl, hD.sub [0, 1, 2, 3, 4] (by decide) rfl, hS, lv_sub hl [0, 1, 2, 4, 5, 6] rfl⟩
      · skip
        have tc_5 : v5_13.toInt = 0 := (fa_eq _ _).mp c_5
        refine lv_aload_n hx hb dX3_walk_41 rfl (lv_at hl 4 rfl) ?_
        refine lv_aload_n hx hb dX3_walk_42 rfl (lv_at hl 4 rfl) ?_
        refine lv_aload_n hx hb dX3_walk_43 rfl (lv_at hl 5 rfl) ?_
        refine lv_iload_n hx hb dX3_walk_44 rfl (lv_at hl 3 rfl) ?_
        refine lv_iload hx hb dX3_walk_45 (lv_at hl 2 rfl) ?_
        refine lv_iload hx hb dX3_walk_47 (lv_at hl 0 rfl) ?_
        have hPc := hP.sub (ws' := [(h0, .inr (1, [.int y0, .ref qs, .ref qr])), (qr, .inl (cr, 384, .inl fr)), (h1, .inr (4, [w0, w1, w2, w3, w4, w5, w6, .ref q5, w8])), (q5, .inl (c5, 7, .inr (.inl f5)))]) [0, 2, 3, 4] rfl
        have hKc := hK.sub (tys' := [(cr, .int), (c5, .long)]) [1, 2] rfl
        refine vp_callSi (W.runV (As := [.ref h1, .int v3_13, .int v4_13, .int r_3]) (rest := [.ref h0]) ⟨hx, hb, hml, hown, hts⟩ (o_costVia l dC dI ad h0 h1 v3_13 v4_13 r_3 (.int y0) (.ref qs) qr cr fr w0 w1 w2 w3 w4 w5 w6 q5 w8 c5 f5 (by first | omega | decide | (simp only [fa_lt, fa_le, fa_eq, and_true, true_and, and_false, false_and, not_true_eq_false, not_false_eq_true, li_0, li_1, li_2, li_3, li_4, li_5, li_6, li_7, li_8, li_9, li_10, li_12, li_15, li_16, li_20, li_30, li_34, li_38, li_40, li_63, li_64, li_65, li_78, li_120, li_1000, li_4000, li_10000, li_11077, li_255, li_65535, li_m1, li_m2, li_m1000000001, li_m1000000002, li_m1000000003, li_m1000000004, li_m1000000005, li_m1000000006, li_m1000000007, or_true, true_or, or_false, false_or, implies_true, true_implies, false_implies] <;> omega)) (by first | omega | decide | (simp only [fa_lt, fa_le, fa_eq, and_true, true_and, and_false, false_and, not_true_eq_false, not_false_eq_true, li_0, li_1, li_2, li_3, li_4, li_5, li_6, li_7, li_8, li_9, li_10, li_12, li_15, li_16, li_20, li_30, li_34, li_38, li_40, li_63, li_64, li_65, li_78, li_120, li_1000, li_4000, li_10000, li_11077, li_255, li_65535, li_m1, li_m2, li_m1000000001, li_m1000000002, li_m1000000003, li_m1000000004, li_m1000000005, li_m1000000006, li_m1000000007, or_true, true_or, or_false, false_or, implies_true, true_implies, false_implies] <;> omega)) (by first | omega | decide | (simp only [fa_lt, fa_le, fa_eq, and_true, true_and, and_false, false_and, not_true_eq_false, not_false_eq_true, li_0, li_1, li_2, li_3, li_4, li_5, li_6, li_7, li_8, li_9, li_10, li_12, li_15, li_16, li_20, li_30, li_34, li_38, li_40, li_63, li_64, li_65, li_78, li_120, li_1000, li_4000, li_10000, li_11077, li_255, li_65535, li_m1, li_m2, li_m1000000001, li_m1000000002, li_m1000000003, li_m1000000004, li_m1000000005, li_m1000000006, li_m1000000007, or_true, true_or, or_false, false_or, implies_true, true_implies, false_implies] <;> omega))) (cwV 4 hts g_o_walk_o_costVia_37 rfl rfl rfl (by decide +kernel) ⟨(Nat.le_of_ble_eq_true rfl), (Nat.le_of_ble_eq_true rfl)⟩) ⟨preS_blind, va_recv hKc hPc (ci := 1) (q0 := 0) rfl rfl, fun U hU hW => ⟨rfl, preS_at hU hW hPc hKc hev⟩⟩ rfl rfl hl.1 rfl (lv_room (Nat.le_of_ble_eq_true rfl)) dX3_walk_49 ⟨(Nat.le_of_ble_eq_true rfl), (Nat.le_of_ble_eq_true rfl)⟩) (fun r_9 hw => ?_)
        refine va_put (D := (dC, dI)) (ci := 1) (v := .int r_9) (ty := .int) (C := RX3) (T := TX3) (N := 3) hx hb hts inX3 tyX3 tyX3_ok nmX3 hown hK hP hD hS 0 rfl rfl 0 (by decide) (hts _ (List.mem_of_getElem? (i := 1) rfl)) (fun _ h9 => h9) rfl (by decide +kernel) rfl rfl (Nat.le_of_ble_eq_true rfl) dX3_walk_52 (fun H locs hP hD hS => ?_)
        have hP : va_P (dC, dI) vwCl [(h0, .inr (1, [.int r_9, .ref qs, .ref qr])), (qs, .inl (cs, 6, .inl ys)), (qr, .inl (cr, 384, .inl fr)), (h1, .inr (4, [w0, w1, w2, w3, w4, w5, w6, .ref q5, w8])), (q5, .inl (c5, 7, .inr (.inl f5)))] H := hP
        have hD : va_D A [(h0, .inr (1, [.int r_9, .ref qs, .ref qr])), (qs, .inl (cs, 6, .inl ys)), (qr, .inl (cr, 384, .inl fr)), (h1, .inr (4, [w0, w1, w2, w3, w4, w5, w6, .ref q5, w8])), (q5, .inl (c5, 7, .inr (.inl f5)))] := hD
        refine lv_aload_n hx hb dX3_walk_55 rfl (lv_at hl 4 rfl) ?_
        refine va_get (D := (dC, dI)) (ci := 1) (v := .ref qs) (C := RX3) (T := TX3) (N := 3) hx hb hts inX3 hown hK hP 0 rfl rfl 1 (by decide) (hts _ (List.mem_of_getElem? (i := 33) rfl)) (fun _ h9 => h9) rfl dX3_walk_56 ?_
        refine lv_iload hx hb dX3_walk_59 (lv_at hl 1 rfl) ?_
        refine lv_iload hx hb dX3_walk_61 (lv_at hl 0 rfl) ?_
        refine va_iast hx hb hK hP hD hS 1 0 rfl rfl (vp_in_iff.mpr ⟨by omega, by omega⟩) dX3_walk_63 (fun H locs hP hD hS => ?_)
        have hP : va_P (dC, dI) vwCl [(h0, .inr (1, [.int r_9, .ref qs, .ref qr])), (qs, .inl (cs, 6, .inl (upd ys v5_13.toNatClampNeg r_3))), (qr, .inl (cr, 384, .inl fr)), (h1, .inr (4, [w0, w1, w2, w3, w4, w5, w6, .ref q5, w8])), (q5, .inl (c5, 7, .inr (.inl f5)))] H := hP
        have hD : va_D A [(h0, .inr (1, [.int r_9, .ref qs, .ref qr])), (qs, .inl (cs, 6, .inl (upd ys v5_13.toNatClampNeg r_3))), (qr, .inl (cr, 384, .inl fr)), (h1, .inr (4, [w0, w1, w2, w3, w4, w5, w6, .ref q5, w8])), (q5, .inl (c5, 7, .inr (.inl f5)))] := hD
        refine lv_iload_n hx hb dX3_walk_64 rfl (lv_at hl 3 rfl) ?_
        refine lv_iconst (v := 1) hx hb dX3_walk_65 (by decide) ?_
        refine lv_iload hx hb dX3_walk_66 (lv_at hl 0 rfl) ?_
        refine lv_ishl hx hb dX3_walk_68 ?_
        refine lv_topi (fun n_10 en_10 => ?_)
        have tn_10 := pp_shl1 en_10 (by omega) (by omega)
        clear en_10
        refine lv_ior hx hb dX3_walk_69 ?_
        refine lv_topi (fun n_11 en_11 => ?_)
        have tn_11 : 0 ≤ n_11.toInt ∧ n_11.toInt ≤ 63 := pp_or63 en_11 (by omega) (by omega) (by omega) (by omega)
        clear en_11
        refine lv_istore_n (lv' := [(3, .int n_11), (6, .int r_3), (5, .int v5_13), (4, .int v4_13), (0, .ref h0), (1, .ref h1), (2, .int mn)]) hx hb dX3_walk_70 rfl hl (by decide) rfl (fun ls hl => ?_)
        refine lv_iload hx hb dX3_walk_71 (lv_at hl 1 rfl) ?_
        refine lv_istore (lv' := [(4, .int r_3), (3, .int n_11), (6, .int r_3), (5, .int v5_13), (0, .ref h0), (1, .ref h1), (2, .int mn)]) hx hb dX3_walk_73 hl (by decide) rfl (fun ls hl => ?_)
        obtain ⟨n_12, en_12⟩ : ∃ y : Int32, y = v5_13 + 1 := ⟨_, rfl⟩
        have tn_12 : n_12.toInt = v5_13.toInt + 1 := pp_add en_12 rfl rfl (by omega) (by omega)
        refine lv_iinc (v := n_12) (lv' := [(5, .int n_12), (4, .int r_3), (3, .int n_11), (6, .int r_3), (0, .ref h0), (1, .ref h1), (2, .int mn)]) hx hb dX3_walk_75 hl (k := 3) rfl (by rw [en_12]; rfl) (by decide) rfl (fun ls hl => ?_)
        clear en_12
        refine lv_goto (tgt := 13) hx hb dX3_walk_78 (by decide) ?_
        exact ihk_1 (n_12, r_3, n_11, r_9, (upd ys v5_13.toNatClampNeg r_3)) _ _ _ (by show (mn.toInt - n_12.toInt).toNat < k_1; omega) ⟨(by first | omega | decide | (simp only [fa_lt, fa_le, fa_eq, and_true, true_and, and_false, false_and, not_true_eq_false, not_false_eq_true, li_0, li_1, li_2, li_3, li_4, li_5, li_6, li_7, li_8, li_9, li_10, li_12, li_15, li_16, li_20, li_30, li_34, li_38, li_40, li_63, li_64, li_65, li_78, li_120, li_1000, li_4000, li_10000, li_11077, li_255, li_65535, li_m1, li_m2, li_m1000000001, li_m1000000002, li_m1000000003, li_m1000000004, li_m1000000005, li_m1000000006, li_m1000000007, or_true, true_or, or_false, false_or, implies_true, true_implies, false_implies] <;> omega)), (by first | omega | decide | (simp only [fa_lt, fa_le, fa_eq, and_true, true_and, and_false, false_and, not_true_eq_false, not_false_eq_true, li_0, li_1, li_2, li_3, li_4, li_5, li_6, li_7, li_8, li_9, li_10, li_12, li_15, li_16, li_20, li_30, li_34, li_38, li_40, li_63, li_64, li_65, li_78, li_120, li_1000, li_4000, li_10000, li_11077, li_255, li_65535, li_m1, li_m2, li_m1000000001, li_m1000000002, li_m1000000003, li_m1000000004, li_m1000000005, li_m1000000006, li_m1000000007, or_true, true_or, or_false, false_or, implies_true, true_implies, false_implies] <;> omega)), (by first | omega | decide | (simp only [fa_lt, fa_le, fa_eq, and_true, true_and, and_false, false_and, not_true_eq_false, not_false_eq_true, li_0, li_1, li_2, li_3, li_4, li_5, li_6, li_7, li_8, li_9, li_10, li_12, li_15, li_16, li_20, li_30, li_34, li_38, li_40, li_63, li_64, li_65, li_78, li_120, li_1000, li_4000, li_10000, li_11077, li_255, li_65535, li_m1, li_m2, li_m1000000001, li_m1000000002, li_m1000000003, li_m1000000004, li_m1000000005, li_m1000000006, li_m1000000007, or_true, true_or, or_false, false_or, implies_true, true_implies, false_implies] <;> omega)), hP.sub [0, 1, 2, 3, 4] rfl, hD.sub [0, 1, 2, 3, 4] (by decide) rfl, hS, lv_sub hl [0, 1, 2, 4, 5, 6] rfl⟩
    · skip
      have tc_4 : ¬ 0 ≤ r_3.toInt := fun h => c_4 ((fa_le _ _).mpr h)
      have hP9 := hP.sub (ws' := [(h0, .inr (1, [.int y0, .ref qs, .ref qr])), (qs, .inl (cs, 6, .inl ys)), (qr, .inl (cr, 384, .inl fr)), (h1, .inr (4, [w0, w1, w2, w3, w4, w5, w6, .ref q5, w8])), (q5, .inl (c5, 7, .inr (.inl f5)))]) [0, 1, 2, 3, 4] rfl
      have hD9 := hD.sub (ws' := [(h0, .inr (1, [.int y0, .ref qs, .ref qr])), (qs, .inl (cs, 6, .inl ys)), (qr, .inl (cr, 384, .inl fr)), (h1, .inr (4, [w0, w1, w2, w3, w4, w5, w6, .ref q5, w8])), (q5, .inl (c5, 7, .inr (.inl f5)))]) [0, 1, 2, 3, 4] (by decide) rfl
      have hK9 := hK.sub (tys' := [(cs, .int), (cr, .int), (c5, .long)]) [0, 1, 2] rfl
      exact W.vret hx hb hr (fun t ht hW => ⟨⟨(), rfl, trivial, y0, ys, by rw [ht]; exact hP9, va_K.moved hW.alike hK9, hD9⟩, hS.F ht⟩) hS.2.2 dX3_walk_35

def w_o_plan : List Cond := .code yX3_plan cX3_plan 6 none :: (([.methodLink RX3 27 Lib.Math.min.name, .static Lib.Math.min.name, .initialized "java/lang/Math", .code Lib.Math.min.name Lib.Math.min.code 2 (some .int), .methodLink RX3 40 yX3_walk, .instanceMethod yX3_walk, .selects RX3 yX3_walk yX3_walk, .initialized RX3, .code yX3_walk cX3_walk 7 none, .fieldLink RX3 9 "LampShapes$Route" "cost" "I", .methodLink RX3 33 yX3_bestNext, .instanceMethod yX3_bestNext, .selects RX3 yX3_bestNext yX3_bestNext, .code yX3_bestNext cX3_bestNext 9 (some .int), .methodLink RX3 37 yX3_costVia, .instanceMethod yX3_costVia, .selects RX3 yX3_costVia yX3_costVia, .code yX3_costVia cX3_costVia 6 (some .int), .methodLink RX3 44 yX6_changesBetween, .instanceMethod yX6_changesBetween, .selects RX6 yX6_changesBetween yX6_changesBetween, .initialized RX6, .code yX6_changesBetween cX6_changesBetween 3 (some .int), .methodLink RX6 98 yX6_offBetween, .instanceMethod yX6_offBetween, .selects RX6 yX6_offBetween yX6_offBetween, .code yX6_offBetween cX6_offBetween 3 (some .int), .fieldLink RX6 34 "LampShapes$Stage" "pictures" "[J", .methodLink RX6 94 yX1_cellsOff, .static yX1_cellsOff, .initialized RX1, .code yX1_cellsOff cX1_cellsOff 4 (some .int), .methodLink RX1 15 yJ13_bitCount_95d88, .static yJ13_bitCount_95d88, .initialized RJ13, .code yJ13_bitCount_95d88 cJ13_bitCount_95d88 2 (some .int), .constantLong RJ13 314 (6148914691236517205), .constantLong RJ13 316 (3689348814741910323), .constantLong RJ13 318 (1085102592571150095), .fieldLink RX3 19 "LampShapes$Route" "rest" "[I", .fieldLink RX3 15 "LampShapes$Route" "steps" "[I"] : List Cond) ++ wsX60 ++ wsX30)
set_option maxRecDepth 20000 in
theorem g_o_plan_o_walk_40 : GoodIn w_o_plan (wsV RX3 40 RX3 yX3_walk w_o_walk) := goodIn_r _ [5, 6, 7, 8, 9, 10, 11, 12, 13, 8, 14, 15, 16, 17, 18, 19, 20, 21, 22, 23, 24, 25, 26, 27, 28, 29, 30, 31, 32, 33, 34, 35, 36, 37, 38, 39, 40, 41, 51, 52, 53, 42, 43, 44, 45, 46, 47, 48, 49, 50] rfl (by decide +kernel)
set_option maxRecDepth 20000 in
theorem g_o_plan_o_bestNext_33 : GoodIn w_o_plan (wsV RX3 33 RX3 yX3_bestNext w_o_bestNext) := goodIn_r _ [11, 12, 13, 8, 14, 15, 16, 17, 8, 18, 19, 20, 21, 22, 23, 24, 25, 26, 27, 28, 29, 30, 31, 32, 33, 34, 35, 36, 37, 38, 39, 40, 42, 43, 44, 45, 46, 47, 48, 49, 50, 51, 52, 53] rfl (by decide +kernel)
set_option maxRecDepth 20000 in
theorem g_o_plan_o_costVia_37 : GoodIn w_o_plan (wsV RX3 37 RX3 yX3_costVia w_o_costVia) := goodIn_r _ [15, 16, 17, 8, 18, 19, 20, 21, 22, 23, 24, 25, 26, 27, 28, 29, 30, 31, 32, 33, 34, 35, 36, 37, 38, 39, 40, 42, 43, 44, 45, 46, 47, 48, 49, 50, 51, 52, 53] rfl (by decide +kernel)
set_option maxHeartbeats 4000000 in
set_option maxRecDepth 100000 in
theorem o_plan (l : Launch) (dC : Nat → ClassId) (dI : Nat → Nat → Nat) (ad : Nat → Nat) (h0 : Nat) (h1 : Nat) (co : Int32) (qs : Nat) (qr : Nat) (cs : ClassId) (fs : Nat → Int32) (cr : ClassId) (fr : Nat → Int32) (w0 : Value) (w1 : Value) (w2 : Value) (w3 : Value) (w4 : Value) (w5 : Value) (sc : Int32) (q5 : Nat) (w8 : Value) (c5 : ClassId) (f5 : Nat → Int64) (sz : Nat) (hsc : 0 ≤ sc.toInt ∧ sc.toInt ≤ 7) : Met l yX3_plan w_o_plan ({ frames := 7, cells := 0, slots := 0, locals := 167 } : Room) (va_Pc [.ref h0, .ref h1] (preM dC dI ad [(cs, .int), (cr, .int), (c5, .long)] [(h0, .inr (1, [.int co, .ref qs, .ref qr])), (qs, .inl (cs, 6, .inl fs)), (qr, .inl (cr, 384, .inl fr)), (h1, .inr (4, [w0, w1, w2, w3, w4, w5, .int sc, .ref q5, w8])), (q5, .inl (c5, 7, .inr (.inl f5)))] sz)) (va_Qv (fun (_ : Unit) => True) (fun _ t => ∃ (co2 : Int32), ∃ (gs : Nat → Int32), ∃ (gr : Nat → Int32), va_P (dC, dI) vwCl [(h0, .inr (1, [.int co2, .ref qs, .ref qr])), (qs, .inl (cs, 6, .inl gs)), (qr, .inl (cr, 384, .inl gr)), (h1, .inr (4, [w0, w1, w2, w3, w4, w5, .int sc, .ref q5, w8])), (q5, .inl (c5, 7, .inr (.inl f5)))] t.heap ∧ va_K (dC, dI) vwCl [(cs, .int), (cr, .int), (c5, .long)] t ∧ va_D (va_A [(h0, .inr (1, [.int co, .ref qs, .ref qr])), (qs, .inl (cs, 6, .inl fs)), (qr, .inl (cr, 384, .inl fr)), (h1, .inr (4, [w0, w1, w2, w3, w4, w5, .int sc, .ref q5, w8])), (q5, .inl (c5, 7, .inr (.inl f5)))] sz) [(h0, .inr (1, [.int co2, .ref qs, .ref qr])), (qs, .inl (cs, 6, .inl gs)), (qr, .inl (cr, 384, .inl gr)), (h1, .inr (4, [w0, w1, w2, w3, w4, w5, .int sc, .ref q5, w8])), (q5, .inl (c5, 7, .inr (.inl f5)))]) (va_A [(h0, .inr (1, [.int co, .ref qs, .ref qr])), (qs, .inl (cs, 6, .inl fs)), (qr, .inl (cr, 384, .inl fr)), (h1, .inr (4, [w0, w1, w2, w3, w4, w5, .int sc, .ref q5, w8])), (q5, .inl (c5, 7, .inr (.inl f5)))] sz)) 0 0 (va_A [(h0, .inr (1, [.int co, .ref qs, .ref qr])), (qs, .inl (cs, 6, .inl fs)), (qr, .inl (cr, 384, .inl fr)), (h1, .inr (4, [w0, w1, w2, w3, w4, w5, .int sc, .ref q5, w8])), (q5, .inl (c5, 7, .inr (.inl f5)))] sz) := by
  refine Met.ofW (cc := cX3_plan) (maxL := 6) (ret := none) (by decide) rfl ?_
  intro p e s m args below meth c s₁ B hml hv
  obtain ⟨rfl, hsz, hP, hK, hD0, hev⟩ := hv
  have hx := B.exec
  have hb := B.bytes
  have hr := B.returns
  have hts := atoms_spec (ws := w_o_plan) B.pre
  have hown : s.vm.findClass RX3 = some m.cls := findClass_of_methodNamed B.named
  have hlocks := B.notSynchronized
  have inX6 : ∀ w ∈ wsX60, w ∈ w_o_plan := fun w h => List.mem_cons_of_mem _ (List.mem_append_left _ (List.mem_append_right _ h))
  have inX3 : ∀ w ∈ wsX30, w ∈ w_o_plan := fun w h => List.mem_cons_of_mem _ (List.mem_append_right _ h)
  subst hsz
  have hD := hD0.self (sz := s.heap.size)
  generalize hAe : va_A [(h0, .inr (1, [.int co, .ref qs, .ref qr])), (qs, .inl (cs, 6, .inl fs)), (qr, .inl (cr, 384, .inl fr)), (h1, .inr (4, [w0, w1, w2, w3, w4, w5, .int sc, .ref q5, w8])), (q5, .inl (c5, 7, .inr (.inl f5)))] s.heap.size = A at hD ⊢
  have hA : ∀ q : Nat, s.heap.size ≤ q → A q := fun q h => by rw [← hAe]; exact Or.inr h
  have hS : va_S A s.heap s.heap [] := va_S.rf
  have hP : va_P (dC, dI) vwCl [(h0, .inr (1, [.int co, .ref qs, .ref qr])), (qs, .inl (cs, 6, .inl fs)), (qr, .inl (cr, 384, .inl fr)), (h1, .inr (4, [w0, w1, w2, w3, w4, w5, .int sc, .ref q5, w8])), (q5, .inl (c5, 7, .inr (.inl f5)))] s.heap := hP
  have hl := lv_entry ([.ref h0, .ref h1]) (n := 6) (Nat.le_of_ble_eq_true rfl)
  rw [lg_entry_eq]
  generalize (lg_sl ([.ref h0, .ref h1]) ++ List.replicate (6 - (lg_sl ([.ref h0, .ref h1])).length) Slot.unset).toArray = ls at hl ⊢
  have hl : lv_has ls 6 [(0, .ref h0), (1, .ref h1)] := hl
  refine lv_aload_n hx hb dX3_plan_0 rfl (lv_at hl 1 rfl) ?_
  refine va_getN (D := (dC, dI)) (ci := 4) (v := .int sc) (C := RX6) (T := TX6) (N := 9) hx hb hts inX6 hown hK hP 3 rfl rfl 6 (by decide) (ev_nest hev 7 rfl) (fun _ h9 => h9) rfl dX3_plan_1 ?_
  refine lv_bipush (v := 6) hx hb dX3_plan_4 (by decide) ?_
  refine va_mmin hx hb (by rw [hml]; exact hl.1.symm) hown (hts _ (List.mem_of_getElem? (i := 1) rfl)) (hts _ (List.mem_of_getElem? (i := 2) rfl)) (hts _ (List.mem_of_getElem? (i := 3) rfl)) (hts _ (List.mem_of_getElem? (i := 4) rfl)) (Nat.le_of_ble_eq_true rfl) (Nat.le_of_ble_eq_true rfl) (Nat.le_of_ble_eq_true rfl) (Nat.le_of_ble_eq_true rfl) dX3_plan_6 ?_
  refine lv_topi (fun n_1 en_1 => ?_)
  have tn_1 : n_1.toInt ≤ sc.toInt ∧ n_1.toInt ≤ 6 ∧ (n_1.toInt = sc.toInt ∨ n_1.toInt = 6) := pp_min en_1
  refine lv_istore_n (lv' := [(2, .int n_1), (0, .ref h0), (1, .ref h1)]) hx hb dX3_plan_9 rfl hl (by decide) rfl (fun ls hl => ?_)
  refine lv_iconst (v := 1) hx hb dX3_plan_10 (by decide) ?_
  refine lv_iload_n hx hb dX3_plan_11 rfl (lv_at hl 0 rfl) ?_
  refine lv_ishl hx hb dX3_plan_12 ?_
  refine lv_topi (fun n_2 en_2 => ?_)
  have tn_2 := pp_shl1 en_2 (by omega) (by omega)
  clear en_2
  refine lv_iconst (v := 1) hx hb dX3_plan_13 (by decide) ?_
  refine lv_isub hx hb dX3_plan_14 ?_
  refine lv_topi (fun n_3 en_3 => ?_)
  have tn_3 : n_3.toInt = n_2.toInt - 1 := pp_sub en_3 rfl rfl (by omega) (by omega)
  clear en_3
  refine lv_istore_n (lv' := [(3, .int n_3), (2, .int n_1), (0, .ref h0), (1, .ref h1)]) hx hb dX3_plan_15 rfl hl (by decide) rfl (fun ls hl => ?_)
  refine pp_loop (ι := Int32 × (Nat → Int32)) (fun ⟨v3_16, yr⟩ => (v3_16.toInt - 0).toNat) (fun ⟨v3_16, yr⟩ H locs ls => (v3_16.toInt ≤ n_3.toInt) ∧ (0 ≤ v3_16.toInt) ∧ va_P (dC, dI) vwCl [(h0, .inr (1, [.int co, .ref qs, .ref qr])), (qs, .inl (cs, 6, .inl fs)), (qr, .inl (cr, 384, .inl yr)), (h1, .inr (4, [w0, w1, w2, w3, w4, w5, .int sc, .ref q5, w8])), (q5, .inl (c5, 7, .inr (.inl f5)))] H ∧ va_D A [(h0, .inr (1, [.int co, .ref qs, .ref qr])), (qs, .inl (cs, 6, .inl fs)), (qr, .inl (cr, 384, .inl yr)), (h1, .inr (4, [w0, w1, w2, w3, w4, w5, .int sc, .ref q5, w8])), (q5, .inl (c5, 7, .inr (.inl f5)))] ∧ va_S A s.heap H locs ∧ lv_has ls 6 [(3, .int v3_16), (2, .int n_1), (0, .ref h0), (1, .ref h1)]) ?_ (n_3, fr) _ _ _ ⟨(by first | omega | decide | (simp only [fa_lt, fa_le, fa_eq, and_true, true_and, and_false, false_and, not_true_eq_false, not_false_eq_true, li_0, li_1, li_2, li_3, li_4, li_5, li_6, li_7, li_8, li_9, li_10, li_12, li_15, li_16, li_20, li_30, li_34, li_38, li_40, li_63, li_64, li_65, li_78, li_120, li_1000, li_4000, li_10000, li_11077, li_255, li_65535, li_m1, li_m2, li_m1000000001, li_m1000000002, li_m1000000003, li_m1000000004, li_m1000000005, li_m1000000006, li_m1000000007, or_true, true_or, or_false, false_or, implies_true, true_implies, false_implies] <;> omega)), (by first | omega | decide | (simp only [fa_lt, fa_le, fa_eq, and_true, true_and, and_false, false_and, not_true_eq_false, not_false_eq_true, li_0, li_1, li_2, li_3, li_4, li_5, li_6, li_7, li_8, li_9, li_10, li_12, li_15, li_16, li_20, li_30, li_34, li_38, li_40, li_63, li_64, li_65, li_78, li_120, li_1000, li_4000, li_10000, li_11077, li_255, li_65535, li_m1, li_m2, li_m1000000001, li_m1000000002, li_m1000000003, li_m1000000004, li_m1000000005, li_m1000000006, li_m1000000007, or_true, true_or, or_false, false_or, implies_true, true_implies, false_implies] <;> omega)), hP.sub [0, 1, 2, 3, 4] rfl, hD.sub [0, 1, 2, 3, 4] (by decide) rfl, hS, lv_sub hl [0, 1, 2, 3] rfl⟩
  intro k_4 ihk_4 u H locs ls hm hI
  obtain ⟨v3_16, yr⟩ := u
  obtain ⟨jk_4_0, jk_4_1, hP, hD, hS, hl⟩ := hI
  have hmk_4 : (v3_16.toInt - 0).toNat < k_4 + 1 := hm
  clear hm
  have jk_4_0 : v3_16.toInt ≤ n_3.toInt := jk_4_0
  have jk_4_1 : 0 ≤ v3_16.toInt := jk_4_1
  have hl : lv_has ls 6 [(3, .int v3_16), (2, .int n_1), (0, .ref h0), (1, .ref h1)] := hl
  have hP : va_P (dC, dI) vwCl [(h0, .inr (1, [.int co, .ref qs, .ref qr])), (qs, .inl (cs, 6, .inl fs)), (qr, .inl (cr, 384, .inl yr)), (h1, .inr (4, [w0, w1, w2, w3, w4, w5, .int sc, .ref q5, w8])), (q5, .inl (c5, 7, .inr (.inl f5)))] H := hP
  have hD : va_D A [(h0, .inr (1, [.int co, .ref qs, .ref qr])), (qs, .inl (cs, 6, .inl fs)), (qr, .inl (cr, 384, .inl yr)), (h1, .inr (4, [w0, w1, w2, w3, w4, w5, .int sc, .ref q5, w8])), (q5, .inl (c5, 7, .inr (.inl f5)))] := hD
  refine lv_iload_n hx hb dX3_plan_16 rfl (lv_at hl 0 rfl) ?_
  refine lv_if_le (tgt := 93) hx hb dX3_plan_17 (by decide) (fun c_5 => ?_) (fun c_5 => ?_)
  · skip
    have tc_5 : v3_16.toInt ≤ 0 := (fa_le _ _).mp c_5
    refine lv_aload_n hx hb dX3_plan_93 rfl (lv_at hl 2 rfl) ?_
    refine lv_aload_n hx hb dX3_plan_94 rfl (lv_at hl 3 rfl) ?_
    refine lv_iload_n hx hb dX3_plan_95 rfl (lv_at hl 1 rfl) ?_
    have hPc := hP.sub (ws' := [(h0, .inr (1, [.int co, .ref qs, .ref qr])), (qs, .inl (cs, 6, .inl fs)), (qr, .inl (cr, 384, .inl yr)), (h1, .inr (4, [w0, w1, w2, w3, w4, w5, .int sc, .ref q5, w8])), (q5, .inl (c5, 7, .inr (.inl f5)))]) [0, 1, 2, 3, 4] rfl
    have hKc := hK.sub (tys' := [(cs, .int), (cr, .int), (c5, .long)]) [0, 1, 2] rfl
    have hDc := hD.sub (ws' := [(h0, .inr (1, [.int co, .ref qs, .ref qr])), (qs, .inl (cs, 6, .inl fs)), (qr, .inl (cr, 384, .inl yr)), (h1, .inr (4, [w0, w1, w2, w3, w4, w5, .int sc, .ref q5, w8])), (q5, .inl (c5, 7, .inr (.inl f5)))]) [0, 1, 2, 3, 4] (by decide) rfl
    have hFc := va_free (wc := [(h0, .inr (1, [.int co, .ref qs, .ref qr])), (qs, .inl (cs, 6, .inl fs)), (qr, .inl (cr, 384, .inl yr)), (h1, .inr (4, [w0, w1, w2, w3, w4, w5, .int sc, .ref q5, w8])), (q5, .inl (c5, 7, .inr (.inl f5)))]) hD hS hA [0, 1, 2, 3, 4] rfl
    refine va_callv (va_runV (As := [.ref h1, .int n_1]) (rest := []) ⟨hx, hb, hml, hown, hts⟩ (o_walk l dC dI ad h0 h1 n_1 co qs qr cs fs cr yr w0 w1 w2 w3 w4 w5 (.int sc) q5 w8 c5 f5 H.size (by first | omega | decide | (simp only [fa_lt, fa_le, fa_eq, and_true, true_and, and_false, false_and, not_true_eq_false, not_false_eq_true, li_0, li_1, li_2, li_3, li_4, li_5, li_6, li_7, li_8, li_9, li_10, li_12, li_15, li_16, li_20, li_30, li_34, li_38, li_40, li_63, li_64, li_65, li_78, li_120, li_1000, li_4000, li_10000, li_11077, li_255, li_65535, li_m1, li_m2, li_m1000000001, li_m1000000002, li_m1000000003, li_m1000000004, li_m1000000005, li_m1000000006, li_m1000000007, or_true, true_or, or_false, false_or, implies_true, true_implies, false_implies] <;> omega))) (cwV 2 hts g_o_plan_o_walk_40 rfl rfl rfl (by decide +kernel) ⟨(Nat.le_of_ble_eq_true rfl), (Nat.le_of_ble_eq_true rfl)⟩) ⟨preM_blind, va_recv hKc hPc (ci := 1) (q0 := 0) rfl rfl, fun U hU hW => ⟨rfl, preM_at hU hW hPc hKc hDc hev⟩⟩ rfl rfl hl.1 rfl (lv_room (Nat.le_of_ble_eq_true rfl)) dX3_plan_96 ⟨(Nat.le_of_ble_eq_true rfl), (Nat.le_of_ble_eq_true rfl)⟩) hS (fun q _ h => hFc q h) hFc (fun u t H1 locs ht hvm hw hB hz1 hk1 hS => ?_)
    obtain ⟨co_7, gs_8, hP1, hK1, hD1⟩ := hB
    rw [ht] at hP1
    have hK1 := va_K.moved hvm.symm hK1
    obtain ⟨hP, hD⟩ := va_join (wr := []) (w1 := [(h0, .inr (1, [.int co_7, .ref qs, .ref qr])), (qs, .inl (cs, 6, .inl gs_8)), (qr, .inl (cr, 384, .inl yr)), (h1, .inr (4, [w0, w1, w2, w3, w4, w5, .int sc, .ref q5, w8])), (q5, .inl (c5, 7, .inr (.inl f5)))]) hP hD [0, 1, 2, 3, 4] [] rfl rfl (by decide) (by decide) hk1 hFc hP1 hD1
    generalize H1 = H at hP hS ⊢
    have hP : va_P (dC, dI) vwCl [(h0, .inr (1, [.int co_7, .ref qs, .ref qr])), (qs, .inl (cs, 6, .inl gs_8)), (qr, .inl (cr, 384, .inl yr)), (h1, .inr (4, [w0, w1, w2, w3, w4, w5, .int sc, .ref q5, w8])), (q5, .inl (c5, 7, .inr (.inl f5)))] H := hP
    have hD : va_D A [(h0, .inr (1, [.int co_7, .ref qs, .ref qr])), (qs, .inl (cs, 6, .inl gs_8)), (qr, .inl (cr, 384, .inl yr)), (h1, .inr (4, [w0, w1, w2, w3, w4, w5, .int sc, .ref q5, w8])), (q5, .inl (c5, 7, .inr (.inl f5)))] := hD
    have hP9 := hP.sub (ws' := [(h0, .inr (1, [.int co_7, .ref qs, .ref qr])), (qs, .inl (cs, 6, .inl gs_8)), (qr, .inl (cr, 384, .inl yr)), (h1, .inr (4, [w0, w1, w2, w3, w4, w5, .int sc, .ref q5, w8])), (q5, .inl (c5, 7, .inr (.inl f5)))]) [0, 1, 2, 3, 4] rfl
    have hD9 := hD.sub (ws' := [(h0, .inr (1, [.int co_7, .ref qs, .ref qr])), (qs, .inl (cs, 6, .inl gs_8)), (qr, .inl (cr, 384, .inl yr)), (h1, .inr (4, [w0, w1, w2, w3, w4, w5, .int sc, .ref q5, w8])), (q5, .inl (c5, 7, .inr (.inl f5)))]) [0, 1, 2, 3, 4] (by decide) rfl
    have hK9 := hK.sub (tys' := [(cs, .int), (cr, .int), (c5, .long)]) [0, 1, 2] rfl
    exact W.vret hx hb hr (fun t ht hW => ⟨⟨(), rfl, trivial, co_7, gs_8, yr, by rw [ht]; exact hP9, va_K.moved hW.alike hK9, hD9⟩, hS.F ht⟩) hS.2.2 dX3_plan_99
  · skip
    have tc_5 : ¬ v3_16.toInt ≤ 0 := fun h => c_5 ((fa_le _ _).mpr h)
    refine lv_iconst (v := 0) hx hb dX3_plan_20 (by decide) ?_
    refine lv_istore (lv' := [(4, .int 0), (3, .int v3_16), (2, .int n_1), (0, .ref h0), (1, .ref h1)]) hx hb dX3_plan_21 hl (by decide) rfl (fun ls hl => ?_)
    refine pp_loop (ι := Int32 × (Nat → Int32)) (fun ⟨v4_23, zr⟩ => (n_1.toInt - v4_23.toInt).toNat) (fun ⟨v4_23, zr⟩ H locs ls => (0 ≤ v4_23.toInt) ∧ va_P (dC, dI) vwCl [(h0, .inr (1, [.int co, .ref qs, .ref qr])), (qs, .inl (cs, 6, .inl fs)), (qr, .inl (cr, 384, .inl zr)), (h1, .inr (4, [w0, w1, w2, w3, w4, w5, .int sc, .ref q5, w8])), (q5, .inl (c5, 7, .inr (.inl f5)))] H ∧ va_D A [(h0, .inr (1, [.int co, .ref qs, .ref qr])), (qs, .inl (cs, 6, .inl fs)), (qr, .inl (cr, 384, .inl zr)), (h1, .inr (4, [w0, w1, w2, w3, w4, w5, .int sc, .ref q5, w8])), (q5, .inl (c5, 7, .inr (.inl f5)))] ∧ va_S A s.heap H locs ∧ lv_has ls 6 [(4, .int v4_23), (3, .int v3_16), (2, .int n_1), (0, .ref h0), (1, .ref h1)]) ?_ (0, yr) _ _ _ ⟨(by first | omega | decide | (simp only [fa_lt, fa_le, fa_eq, and_true, true_and, and_false, false_and, not_true_eq_false, not_false_eq_true, li_0, li_1, li_2, li_3, li_4, li_5, li_6, li_7, li_8, li_9, li_10, li_12, li_15, li_16, li_20, li_30, li_34, li_38, li_40, li_63, li_64, li_65, li_78, li_120, li_1000, li_4000, li_10000, li_11077, li_255, li_65535, li_m1, li_m2, li_m1000000001, li_m1000000002, li_m1000000003, li_m1000000004, li_m1000000005, li_m1000000006, li_m1000000007, or_true, true_or, or_false, false_or, implies_true, true_implies, false_implies] <;> omega)), hP.sub [0, 1, 2, 3, 4] rfl, hD.sub [0, 1, 2, 3, 4] (by decide) rfl, hS, lv_sub hl [0, 1, 2, 3, 4] rfl⟩
    intro k_9 ihk_9 u H locs ls hm hI
    obtain ⟨v4_23, zr⟩ := u
    obtain ⟨jk_9_0, hP, hD, hS, hl⟩ := hI
    have hmk_9 : (n_1.toInt - v4_23.toInt).toNat < k_9 + 1 := hm
    clear hm
    have jk_9_0 : 0 ≤ v4_23.toInt := jk_9_0
    have hl : lv_has ls 6 [(4, .int v4_23), (3, .int v3_16), (2, .int n_1), (0, .ref h0), (1, .ref h1)] := hl
    have hP : va_P (dC, dI) vwCl [(h0, .inr (1, [.int co, .ref qs, .ref qr])), (qs, .inl (cs, 6, .inl fs)), (qr, .inl (cr, 384, .inl zr)), (h1, .inr (4, [w0, w1, w2, w3, w4, w5, .int sc, .ref q5, w8])), (q5, .inl (c5, 7, .inr (.inl f5)))] H := hP
    have hD : va_D A [(h0, .inr (1, [.int co, .ref qs, .ref qr])), (qs, .inl (cs, 6, .inl fs)), (qr, .inl (cr, 384, .inl zr)), (h1, .inr (4, [w0, w1, w2, w3, w4, w5, .int sc, .ref q5, w8])), (q5, .inl (c5, 7, .inr (.inl f5)))] := hD
    refine lv_iload hx hb dX3_plan_23 (lv_at hl 0 rfl) ?_
    refine lv_iload_n hx hb dX3_plan_25 rfl (lv_at hl 2 rfl) ?_
    have rc_10_x := pp_rng v4_23
    have rc_10_y := pp_rng n_1
    refine lv_icmp_ge (tgt := 87) hx hb dX3_plan_26 (by decide) (fun c_10 => ?_) (fun c_10 => ?_)
    · skip
      have tc_10 : n_1.toInt ≤ v4_23.toInt := (fa_le _ _).mp c_10
      obtain ⟨n_11, en_11⟩ : ∃ y : Int32, y = v3_16 + (-1) := ⟨_, rfl⟩
      have tn_11 : n_11.toInt = v3_16.toInt + (-1) := pp_add en_11 rfl rfl (by omega) (by omega)
      refine lv_iinc (v := n_11) (lv' := [(3, .int n_11), (4, .int v4_23), (2, .int n_1), (0, .ref h0), (1, .ref h1)]) hx hb dX3_plan_87 hl (k := 1) rfl (by rw [en_11]; rfl) (by decide) rfl (fun ls hl => ?_)
      clear en_11
      refine lv_goto (tgt := 16) hx hb dX3_plan_90 (by decide) ?_
      exact ihk_4 (n_11, zr) _ _ _ (by show (n_11.toInt - 0).toNat < k_4; omega) ⟨(by first | omega | decide | (simp only [fa_lt, fa_le, fa_eq, and_true, true_and, and_false, false_and, not_true_eq_false, not_false_eq_true, li_0, li_1, li_2, li_3, li_4, li_5, li_6, li_7, li_8, li_9, li_10, li_12, li_15, li_16, li_20, li_30, li_34, li_38, li_40, li_63, li_64, li_65, li_78, li_120, li_1000, li_4000, li_10000, li_11077, li_255, li_65535, li_m1, li_m2, li_m1000000001, li_m1000000002, li_m1000000003, li_m1000000004, li_m1000000005, li_m1000000006, li_m1000000007, or_true, true_or, or_false, false_or, implies_true, true_implies, false_implies] <;> omega)), (by first | omega | decide | (simp only [fa_lt, fa_le, fa_eq, and_true, true_and, and_false, false_and, not_true_eq_false, not_false_eq_true, li_0, li_1, li_2, li_3, li_4, li_5, li_6, li_7, li_8, li_9, li_10, li_12, li_15, li_16, li_20, li_30, li_34, li_38, li_40, li_63, li_64, li_65, li_78, li_120, li_1000, li_4000, li_10000, li_11077, li_255, li_65535, li_m1, li_m2, li_m1000000001, li_m1000000002, li_m1000000003, li_m1000000004, li_m1000000005, li_m1000000006, li_m1000000007, or_true, true_or, or_false, false_or, implies_true, true_implies, false_implies] <;> omega)), hP.sub [0, 1, 2, 3, 4] rfl, hD.sub [0, 1, 2, 3, 4] (by decide) rfl, hS, lv_sub hl [0, 2, 3, 4] rfl⟩
    · skip
      have tc_10 : ¬ n_1.toInt ≤ v4_23.toInt := fun h => c_10 ((fa_le _ _).mpr h)
      refine lv_iload_n hx hb dX3_plan_29 rfl (lv_at hl 1 rfl) ?_
      refine lv_iload hx hb dX3_plan_30 (lv_at hl 0 rfl) ?_
      refine lv_ishr hx hb dX3_plan_32 ?_
      refine lv_topi (fun n_12 en_12 => ?_)
      clear en_12
      refine lv_iconst (v := 1) hx hb dX3_plan_33 (by decide) ?_
      refine lv_iand hx hb dX3_plan_34 ?_
      refine lv_topi (fun n_13 en_13 => ?_)
      clear en_13
      refine lv_iconst (v := 1) hx hb dX3_plan_35 (by decide) ?_
      refine lv_icmp_ne (tgt := 81) hx hb dX3_plan_36 (by decide) (fun c_14 => ?_) (fun c_14 => ?_)
      · skip
        have tc_14 : ¬ n_13.toInt = 1 := fun h => c_14 ((fa_eq _ _).mpr h)
        obtain ⟨n_15, en_15⟩ : ∃ y : Int32, y = v4_23 + 1 := ⟨_, rfl⟩
        have tn_15 : n_15.toInt = v4_23.toInt + 1 := pp_add en_15 rfl rfl (by omega) (by omega)
        refine lv_iinc (v := n_15) (lv' := [(4, .int n_15), (3, .int v3_16), (2, .int n_1), (0, .ref h0), (1, .ref h1)]) hx hb dX3_plan_81 hl (k := 0) rfl (by rw [en_15]; rfl) (by decide) rfl (fun ls hl => ?_)
        clear en_15
        refine lv_goto (tgt := 23) hx hb dX3_plan_84 (by decide) ?_
        exact ihk_9 (n_15, zr) _ _ _ (by show (n_1.toInt - n_15.toInt).toNat < k_9; omega) ⟨(by first | omega | decide | (simp only [fa_lt, fa_le, fa_eq, and_true, true_and, and_false, false_and, not_true_eq_false, not_false_eq_true, li_0, li_1, li_2, li_3, li_4, li_5, li_6, li_7, li_8, li_9, li_10, li_12, li_15, li_16, li_20, li_30, li_34, li_38, li_40, li_63, li_64, li_65, li_78, li_120, li_1000, li_4000, li_10000, li_11077, li_255, li_65535, li_m1, li_m2, li_m1000000001, li_m1000000002, li_m1000000003, li_m1000000004, li_m1000000005, li_m1000000006, li_m1000000007, or_true, true_or, or_false, false_or, implies_true, true_implies, false_implies] <;> omega)), hP.sub [0, 1, 2, 3, 4] rfl, hD.sub [0, 1, 2, 3, 4] (by decide) rfl, hS, lv_sub hl [0, 1, 2, 3, 4] rfl⟩
      · skip
        have tc_14 : n_13.toInt = 1 := (fa_eq _ _).mp c_14
        refine lv_aload_n hx hb dX3_plan_39 rfl (lv_at hl 3 rfl) ?_
        refine lv_aload_n hx hb dX3_plan_40 rfl (lv_at hl 4 rfl) ?_
        refine lv_iload_n hx hb dX3_plan_41 rfl (lv_at hl 1 rfl) ?_
        refine lv_iload hx hb dX3_plan_42 (lv_at hl 0 rfl) ?_
        refine lv_iload_n hx hb dX3_plan_44 rfl (lv_at hl 2 rfl) ?_
        have hPc := hP.sub (ws' := [(h0, .inr (1, [.int co, .ref qs, .ref qr])), (qr, .inl (cr, 384, .inl zr)), (h1, .inr (4, [w0, w1, w2, w3, w4, w5, .int sc, .ref q5, w8])), (q5, .inl (c5, 7, .inr (.inl f5)))]) [0, 2, 3, 4] rfl
        have hKc := hK.sub (tys' := [(cr, .int), (c5, .long)]) [1, 2] rfl
        refine vp_callSi (W.runV (As := [.ref h1, .int v3_16, .int v4_23, .int n_1]) (rest := []) ⟨hx, hb, hml, hown, hts⟩ (o_bestNext l dC dI ad h0 h1 v3_16 v4_23 n_1 (.int co) (.ref qs) qr cr zr w0 w1 w2 w3 w4 w5 (.int sc) q5 w8 c5 f5 (by first | omega | decide | (simp only [fa_lt, fa_le, fa_eq, and_true, true_and, and_false, false_and, not_true_eq_false, not_false_eq_true, li_0, li_1, li_2, li_3, li_4, li_5, li_6, li_7, li_8, li_9, li_10, li_12, li_15, li_16, li_20, li_30, li_34, li_38, li_40, li_63, li_64, li_65, li_78, li_120, li_1000, li_4000, li_10000, li_11077, li_255, li_65535, li_m1, li_m2, li_m1000000001, li_m1000000002, li_m1000000003, li_m1000000004, li_m1000000005, li_m1000000006, li_m1000000007, or_true, true_or, or_false, false_or, implies_true, true_implies, false_implies] <;> omega)) (by first | omega | decide | (simp only [fa_lt, fa_le, fa_eq, and_true, true_and, and_false, false_and, not_true_eq_false, not_false_eq_true, li_0, li_1, li_2, li_3, li_4, li_5, li_6, li_7, li_8, li_9, li_10, li_12, li_15, li_16, li_20, li_30, li_34, li_38, li_40, li_63, li_64, li_65, li_78, li_120, li_1000, li_4000, li_10000, li_11077, li_255, li_65535, li_m1, li_m2, li_m1000000001, li_m1000000002, li_m1000000003, li_m1000000004, li_m1000000005, li_m1000000006, li_m1000000007, or_true, true_or, or_false, false_or, implies_true, true_implies, false_implies] <;> omega)) (by first | omega | decide | (simp only [fa_lt, fa_le, fa_eq, and_true, true_and, and_false, false_and, not_true_eq_false, not_false_eq_true, li_0, li_1, li_2, li_3, li_4, li_5, li_6, li_7, li_8, li_9, li_10, li_12, li_15, li_16, li_20, li_30, li_34, li_38, li_40, li_63, li_64, li_65, li_78, li_120, li_1000, li_4000, li_10000, li_11077, li_255, li_65535, li_m1, li_m2, li_m1000000001, li_m1000000002, li_m1000000003, li_m1000000004, li_m1000000005, li_m1000000006, li_m1000000007, or_true, true_or, or_false, false_or, implies_true, true_implies, false_implies] <;> omega))) (cwV 4 hts g_o_plan_o_bestNext_33 rfl rfl rfl (by decide +kernel) ⟨(Nat.le_of_ble_eq_true rfl), (Nat.le_of_ble_eq_true rfl)⟩) ⟨preS_blind, va_recv hKc hPc (ci := 1) (q0 := 0) rfl rfl, fun U hU hW => ⟨rfl, preS_at hU hW hPc hKc hev⟩⟩ rfl rfl hl.1 rfl (lv_room (Nat.le_of_ble_eq_true rfl)) dX3_plan_45 ⟨(Nat.le_of_ble_eq_true rfl), (Nat.le_of_ble_eq_true rfl)⟩) (fun r_16 hw => ?_)
        have hr_16 : (-1) ≤ r_16.toInt ∧ r_16.toInt ≤ 5 := hw
        refine lv_istore (lv' := [(5, .int r_16), (4, .int v4_23), (3, .int v3_16), (2, .int n_1), (0, .ref h0), (1, .ref h1)]) hx hb dX3_plan_48 hl (by decide) rfl (fun ls hl => ?_)
        refine lv_aload_n hx hb dX3_plan_50 rfl (lv_at hl 4 rfl) ?_
        refine va_get (D := (dC, dI)) (ci := 1) (v := .ref qr) (C := RX3) (T := TX3) (N := 3) hx hb hts inX3 hown hK hP 0 rfl rfl 2 (by decide) (hts _ (List.mem_of_getElem? (i := 40) rfl)) (fun _ h9 => h9) rfl dX3_plan_51 ?_
        refine lv_iload_n hx hb dX3_plan_54 rfl (lv_at hl 2 rfl) ?_
        refine lv_bipush (v := 6) hx hb dX3_plan_55 (by decide) ?_
        refine lv_imul hx hb dX3_plan_57 ?_
        refine lv_topi (fun n_17 en_17 => ?_)
        have tn_17 : n_17.toInt = v3_16.toInt * 6 := pp_mul en_17 rfl rfl (by omega) (by omega)
        clear en_17
        refine lv_iload hx hb dX3_plan_58 (lv_at hl 1 rfl) ?_
        refine lv_iadd hx hb dX3_plan_60 ?_
        refine lv_topi (fun n_18 en_18 => ?_)
        have tn_18 : n_18.toInt = n_17.toInt + v4_23.toInt := pp_add en_18 rfl rfl (by omega) (by omega)
        clear en_18
        refine lv_iload hx hb dX3_plan_61 (lv_at hl 0 rfl) ?_
        refine lv_if_ge (tgt := 70) hx hb dX3_plan_63 (by decide) (fun c_19 => ?_) (fun c_19 => ?_)
        · skip
          have tc_19 : 0 ≤ r_16.toInt := (fa_le _ _).mp c_19
          refine lv_aload_n hx hb dX3_plan_70 rfl (lv_at hl 4 rfl) ?_
          refine lv_aload_n hx hb dX3_plan_71 rfl (lv_at hl 5 rfl) ?_
          refine lv_iload_n hx hb dX3_plan_72 rfl (lv_at hl 2 rfl) ?_
          refine lv_iload hx hb dX3_plan_73 (lv_at hl 1 rfl) ?_
          refine lv_iload hx hb dX3_plan_75 (lv_at hl 0 rfl) ?_
          have hPc := hP.sub (ws' := [(h0, .inr (1, [.int co, .ref qs, .ref qr])), (qr, .inl (cr, 384, .inl zr)), (h1, .inr (4, [w0, w1, w2, w3, w4, w5, .int sc, .ref q5, w8])), (q5, .inl (c5, 7, .inr (.inl f5)))]) [0, 2, 3, 4] rfl
          have hKc := hK.sub (tys' := [(cr, .int), (c5, .long)]) [1, 2] rfl
          refine vp_callSi (W.runV (As := [.ref h1, .int v3_16, .int v4_23, .int r_16]) (rest := [.int n_18, .ref qr]) ⟨hx, hb, hml, hown, hts⟩ (o_costVia l dC dI ad h0 h1 v3_16 v4_23 r_16 (.int co) (.ref qs) qr cr zr w0 w1 w2 w3 w4 w5 (.int sc) q5 w8 c5 f5 (by first | omega | decide | (simp only [fa_lt, fa_le, fa_eq, and_true, true_and, and_false, false_and, not_true_eq_false, not_false_eq_true, li_0, li_1, li_2, li_3, li_4, li_5, li_6, li_7, li_8, li_9, li_10, li_12, li_15, li_16, li_20, li_30, li_34, li_38, li_40, li_63, li_64, li_65, li_78, li_120, li_1000, li_4000, li_10000, li_11077, li_255, li_65535, li_m1, li_m2, li_m1000000001, li_m1000000002, li_m1000000003, li_m1000000004, li_m1000000005, li_m1000000006, li_m1000000007, or_true, true_or, or_false, false_or, implies_true, true_implies, false_implies] <;> omega)) (by first | omega | decide | (simp only [fa_lt, fa_le, fa_eq, and_true, true_and, and_false, false_and, not_true_eq_false, not_false_eq_true, li_0, li_1, li_2, li_3, li_4, li_5, li_6, li_7, li_8, li_9, li_10, li_12, li_15, li_16, li_20, li_30, li_34, li_38, li_40, li_63, li_64, li_65, li_78, li_120, li_1000, li_4000, li_10000, li_11077, li_255, li_65535, li_m1, li_m2, li_m1000000001, li_m1000000002, li_m1000000003, li_m1000000004, li_m1000000005, li_m1000000006, li_m1000000007, or_true, true_or, or_false, false_or, implies_true, true_implies, false_implies] <;> omega)) (by first | omega | decide | (simp only [fa_lt, fa_le, fa_eq, and_true, true_and, and_false, false_and, not_true_eq_false, not_false_eq_true, li_0, li_1, li_2, li_3, li_4, li_5, li_6, li_7, li_8, li_9, li_10, li_12, li_15, li_16, li_20, li_30, li_34, li_38, li_40, li_63, li_64, li_65, li_78, li_120, li_1000, li_4000, li_10000, li_11077, li_255, li_65535, li_m1, li_m2, li_m1000000001, li_m1000000002, li_m1000000003, li_m1000000004, li_m1000000005, li_m1000000006, li_m1000000007, or_true, true_or, or_false, false_or, implies_true, true_implies, false_implies] <;> omega))) (cwV 4 hts g_o_plan_o_costVia_37 rfl rfl rfl (by decide +kernel) ⟨(Nat.le_of_ble_eq_true rfl), (Nat.le_of_ble_eq_true rfl)⟩) ⟨preS_blind, va_recv hKc hPc (ci := 1) (q0 := 0) rfl rfl, fun U hU hW => ⟨rfl, preS_at hU hW hPc hKc hev⟩⟩ rfl rfl hl.1 rfl (lv_room (Nat.le_of_ble_eq_true rfl)) dX3_plan_77 ⟨(Nat.le_of_ble_eq_true rfl), (Nat.le_of_ble_eq_true rfl)⟩) (fun r_20 hw => ?_)
          refine va_iast hx hb hK hP hD hS 2 1 rfl rfl (vp_in_iff.mpr ⟨by omega, by omega⟩) dX3_plan_80 (fun H locs hP hD hS => ?_)
          have hP : va_P (dC, dI) vwCl [(h0, .inr (1, [.int co, .ref qs, .ref qr])), (qs, .inl (cs, 6, .inl fs)), (qr, .inl (cr, 384, .inl (upd zr n_18.toNatClampNeg r_20))), (h1, .inr (4, [w0, w1, w2, w3, w4, w5, .int sc, .ref q5, w8])), (q5, .inl (c5, 7, .inr (.inl f5)))] H := hP
          have hD : va_D A [(h0, .inr (1, [.int co, .ref qs, .ref qr])), (qs, .inl (cs, 6, .inl fs)), (qr, .inl (cr, 384, .inl (upd zr n_18.toNatClampNeg r_20))), (h1, .inr (4, [w0, w1, w2, w3, w4, w5, .int sc, .ref q5, w8])), (q5, .inl (c5, 7, .inr (.inl f5)))] := hD
          obtain ⟨n_21, en_21⟩ : ∃ y : Int32, y = v4_23 + 1 := ⟨_, rfl⟩
          have tn_21 : n_21.toInt = v4_23.toInt + 1 := pp_add en_21 rfl rfl (by omega) (by omega)
          refine lv_iinc (v := n_21) (lv' := [(4, .int n_21), (5, .int r_16), (3, .int v3_16), (2, .int n_1), (0, .ref h0), (1, .ref h1)]) hx hb dX3_plan_81 hl (k := 1) rfl (by rw [en_21]; rfl) (by decide) rfl (fun ls hl => ?_)
          clear en_21
          refine lv_goto (tgt := 23) hx hb dX3_plan_84 (by decide) ?_
          exact ihk_9 (n_21, (upd zr n_18.toNatClampNeg r_20)) _ _ _ (by show (n_1.toInt - n_21.toInt).toNat < k_9; omega) ⟨(by first | omega | decide | (simp only [fa_lt, fa_le, fa_eq, and_true, true_and, and_false, false_and, not_true_eq_false, not_false_eq_true, li_0, li_1, li_2, li_3, li_4, li_5, li_6, li_7, li_8, li_9, li_10, li_12, li_15, li_16, li_20, li_30, li_34, li_38, li_40, li_63, li_64, li_65, li_78, li_120, li_1000, li_4000, li_10000, li_11077, li_255, li_65535, li_m1, li_m2, li_m1000000001, li_m1000000002, li_m1000000003, li_m1000000004, li_m1000000005, li_m1000000006, li_m1000000007, or_true, true_or, or_false, false_or, implies_true, true_implies, false_implies] <;> omega)), hP.sub [0, 1, 2, 3, 4] rfl, hD.sub [0, 1, 2, 3, 4] (by decide) rfl, hS, lv_sub hl [0, 2, 3, 4, 5] rfl⟩
        · skip
          have tc_19 : ¬ 0 ≤ r_16.toInt := fun h => c_19 ((fa_le _ _).mpr h)
          refine lv_iconst (v := 0) hx hb dX3_plan_66 (by decide) ?_
          refine lv_goto (tgt := 80) hx hb dX3_plan_67 (by decide) ?_
          refine va_iast hx hb hK hP hD hS 2 1 rfl rfl (vp_in_iff.mpr ⟨by omega, by omega⟩) dX3_plan_80 (fun H locs hP hD hS => ?_)
          have hP : va_P (dC, dI) vwCl [(h0, .inr (1, [.int co, .ref qs, .ref qr])), (qs, .inl (cs, 6, .inl fs)), (qr, .inl (cr, 384, .inl (upd zr n_18.toNatClampNeg 0))), (h1, .inr (4, [w0, w1, w2, w3, w4, w5, .int sc, .ref q5, w8])), (q5, .inl (c5, 7, .inr (.inl f5)))] H := hP
          have hD : va_D A [(h0, .inr (1, [.int co, .ref qs, .ref qr])), (qs, .inl (cs, 6, .inl fs)), (qr, .inl (cr, 384, .inl (upd zr n_18.toNatClampNeg 0))), (h1, .inr (4, [w0, w1, w2, w3, w4, w5, .int sc, .ref q5, w8])), (q5, .inl (c5, 7, .inr (.inl f5)))] := hD
          obtain ⟨n_22, en_22⟩ : ∃ y : Int32, y = v4_23 + 1 := ⟨_, rfl⟩
          have tn_22 : n_22.toInt = v4_23.toInt + 1 := pp_add en_22 rfl rfl (by omega) (by omega)
          refine lv_iinc (v := n_22) (lv' := [(4, .int n_22), (5, .int r_16), (3, .int v3_16), (2, .int n_1), (0, .ref h0), (1, .ref h1)]) hx hb dX3_plan_81 hl (k := 1) rfl (by rw [en_22]; rfl) (by decide) rfl (fun ls hl => ?_)
          clear en_22
          refine lv_goto (tgt := 23) hx hb dX3_plan_84 (by decide) ?_
          exact ihk_9 (n_22, (upd zr n_18.toNatClampNeg 0)) _ _ _ (by show (n_1.toInt - n_22.toInt).toNat < k_9; omega) ⟨(by first | omega | decide | (simp only [fa_lt, fa_le, fa_eq, and_true, true_and, and_false, false_and, not_true_eq_false, not_false_eq_true, li_0, li_1, li_2, li_3, li_4, li_5, li_6, li_7, li_8, li_9, li_10, li_12, li_15, li_16, li_20, li_30, li_34, li_38, li_40, li_63, li_64, li_65, li_78, li_120, li_1000, li_4000, li_10000, li_11077, li_255, li_65535, li_m1, li_m2, li_m1000000001, li_m1000000002, li_m1000000003, li_m1000000004, li_m1000000005, li_m1000000006, li_m1000000007, or_true, true_or, or_false, false_or, implies_true, true_implies, false_implies] <;> omega)), hP.sub [0, 1, 2, 3, 4] rfl, hD.sub [0, 1, 2, 3, 4] (by decide) rfl, hS, lv_sub hl [0, 2, 3, 4, 5] rfl⟩

