set_option maxRecDepth 20000 in
theorem ggX0_isUnder_X0_nextAbove : GoodIn wsX0_isUnder wsX0_nextAbove := goodIn_r _ [4] (by decide +kernel) (by decide +kernel)
set_option maxRecDepth 20000 in
theorem gX0_isUnder_X0_nextAbove : GoodIn wsX0_isUnder (va_wsS RX0 9 yX0_nextAbove wsX0_nextAbove) := goodIn_app (goodIn_of _ (by decide +kernel)) ggX0_isUnder_X0_nextAbove
theorem dX0_isUnder_0 : decode cX0_isUnder 0 = .ok (.iload_n 0, 1) := by decide +kernel
theorem dX0_isUnder_1 : decode cX0_isUnder 1 = .ok (.istore_n 2, 1) := by decide +kernel
theorem dX0_isUnder_2 : decode cX0_isUnder 2 = .ok (.iconst 0, 1) := by decide +kernel
theorem dX0_isUnder_3 : decode cX0_isUnder 3 = .ok (.istore_n 3, 1) := by decide +kernel
theorem dX0_isUnder_4 : decode cX0_isUnder 4 = .ok (.iload_n 3, 1) := by decide +kernel
theorem dX0_isUnder_5 : decode cX0_isUnder 5 = .ok (.bipush 6, 2) := by decide +kernel
theorem dX0_isUnder_7 : decode cX0_isUnder 7 = .ok (.if_icmp .ge 21, 3) := by decide +kernel
theorem dX0_isUnder_10 : decode cX0_isUnder 10 = .ok (.iload_n 2, 1) := by decide +kernel
theorem dX0_isUnder_11 : decode cX0_isUnder 11 = .ok (.iload_n 1, 1) := by decide +kernel
theorem dX0_isUnder_12 : decode cX0_isUnder 12 = .ok (.if_icmp .ne 5, 3) := by decide +kernel
theorem dX0_isUnder_15 : decode cX0_isUnder 15 = .ok (.iconst 1, 1) := by decide +kernel
theorem dX0_isUnder_16 : decode cX0_isUnder 16 = .ok (.ireturn, 1) := by decide +kernel
theorem dX0_isUnder_17 : decode cX0_isUnder 17 = .ok (.iload_n 2, 1) := by decide +kernel
theorem dX0_isUnder_18 : decode cX0_isUnder 18 = .ok (.invokestatic 9, 3) := by decide +kernel
theorem dX0_isUnder_21 : decode cX0_isUnder 21 = .ok (.istore_n 2, 1) := by decide +kernel
theorem dX0_isUnder_22 : decode cX0_isUnder 22 = .ok (.iinc 3 1, 3) := by decide +kernel
theorem dX0_isUnder_25 : decode cX0_isUnder 25 = .ok (.goto (-21), 3) := by decide +kernel
theorem dX0_isUnder_28 : decode cX0_isUnder 28 = .ok (.iconst 0, 1) := by decide +kernel
theorem dX0_isUnder_29 : decode cX0_isUnder 29 = .ok (.ireturn, 1) := by decide +kernel
theorem dX0_nextAbove_0 : decode cX0_nextAbove 0 = .ok (.iload_n 0, 1) := by decide +kernel
theorem dX0_nextAbove_1 : decode cX0_nextAbove 1 = .ok (.tableswitch 31 3 5 #[27, 29, 27], 27) := by decide +kernel
theorem dX0_nextAbove_28 : decode cX0_nextAbove 28 = .ok (.iconst 1, 1) := by decide +kernel
theorem dX0_nextAbove_29 : decode cX0_nextAbove 29 = .ok (.ireturn, 1) := by decide +kernel
theorem dX0_nextAbove_30 : decode cX0_nextAbove 30 = .ok (.iconst 2, 1) := by decide +kernel
theorem dX0_nextAbove_31 : decode cX0_nextAbove 31 = .ok (.ireturn, 1) := by decide +kernel
theorem dX0_nextAbove_32 : decode cX0_nextAbove 32 = .ok (.iconst 0, 1) := by decide +kernel
theorem dX0_nextAbove_33 : decode cX0_nextAbove 33 = .ok (.ireturn, 1) := by decide +kernel
set_option maxRecDepth 20000 in
theorem ggX0_pointsBy_X0_turnedBy : GoodIn wsX0_pointsBy wsX0_turnedBy := goodIn_r _ [4] (by decide +kernel) (by decide +kernel)
set_option maxRecDepth 20000 in
theorem gX0_pointsBy_X0_turnedBy : GoodIn wsX0_pointsBy (va_wsS RX0 15 yX0_turnedBy wsX0_turnedBy) := goodIn_app (goodIn_of _ (by decide +kernel)) ggX0_pointsBy_X0_turnedBy
set_option maxRecDepth 20000 in
theorem ggX0_pointsBy_X0_mirroredBy : GoodIn wsX0_pointsBy wsX0_mirroredBy := goodIn_r _ [7, 8] (by decide +kernel) (by decide +kernel)
set_option maxRecDepth 20000 in
theorem gX0_pointsBy_X0_mirroredBy : GoodIn wsX0_pointsBy (va_wsS RX0 19 yX0_mirroredBy wsX0_mirroredBy) := goodIn_app (goodIn_of _ (by decide +kernel)) ggX0_pointsBy_X0_mirroredBy
set_option maxRecDepth 20000 in
theorem ggX0_pointsBy_X0_hollowed : GoodIn wsX0_pointsBy wsX0_hollowed := goodIn_r _ [11, 12] (by decide +kernel) (by decide +kernel)
set_option maxRecDepth 20000 in
theorem gX0_pointsBy_X0_hollowed : GoodIn wsX0_pointsBy (va_wsS RX0 22 yX0_hollowed wsX0_hollowed) := goodIn_app (goodIn_of _ (by decide +kernel)) ggX0_pointsBy_X0_hollowed
set_option maxRecDepth 20000 in
theorem ggX0_pointsBy_X0_doubled : GoodIn wsX0_pointsBy wsX0_doubled := goodIn_r _ [15, 16] (by decide +kernel) (by decide +kernel)
set_option maxRecDepth 20000 in
theorem gX0_pointsBy_X0_doubled : GoodIn wsX0_pointsBy (va_wsS RX0 25 yX0_doubled wsX0_doubled) := goodIn_app (goodIn_of _ (by decide +kernel)) ggX0_pointsBy_X0_doubled
set_option maxRecDepth 20000 in
theorem ggX0_pointsBy_X0_filled : GoodIn wsX0_pointsBy wsX0_filled := goodIn_r _ [19] (by decide +kernel) (by decide +kernel)
set_option maxRecDepth 20000 in
theorem gX0_pointsBy_X0_filled : GoodIn wsX0_pointsBy (va_wsS RX0 28 yX0_filled wsX0_filled) := goodIn_app (goodIn_of _ (by decide +kernel)) ggX0_pointsBy_X0_filled
theorem dX0_pointsBy_0 : decode cX0_pointsBy 0 = .ok (.iload_n 0, 1) := by decide +kernel
theorem dX0_pointsBy_1 : decode cX0_pointsBy 1 = .ok (.tableswitch 74 1 5 #[35, 41, 47, 56, 65], 35) := by decide +kernel
theorem dX0_pointsBy_36 : decode cX0_pointsBy 36 = .ok (.iload_n 1, 1) := by decide +kernel
theorem dX0_pointsBy_37 : decode cX0_pointsBy 37 = .ok (.iload_n 2, 1) := by decide +kernel
theorem dX0_pointsBy_38 : decode cX0_pointsBy 38 = .ok (.invokestatic 15, 3) := by decide +kernel
theorem dX0_pointsBy_41 : decode cX0_pointsBy 41 = .ok (.ireturn, 1) := by decide +kernel
theorem dX0_pointsBy_42 : decode cX0_pointsBy 42 = .ok (.iload_n 1, 1) := by decide +kernel
theorem dX0_pointsBy_43 : decode cX0_pointsBy 43 = .ok (.iload_n 2, 1) := by decide +kernel
theorem dX0_pointsBy_44 : decode cX0_pointsBy 44 = .ok (.invokestatic 19, 3) := by decide +kernel
theorem dX0_pointsBy_47 : decode cX0_pointsBy 47 = .ok (.ireturn, 1) := by decide +kernel
theorem dX0_pointsBy_48 : decode cX0_pointsBy 48 = .ok (.iload_n 1, 1) := by decide +kernel
theorem dX0_pointsBy_49 : decode cX0_pointsBy 49 = .ok (.iload_n 2, 1) := by decide +kernel
theorem dX0_pointsBy_50 : decode cX0_pointsBy 50 = .ok (.invokestatic 15, 3) := by decide +kernel
theorem dX0_pointsBy_53 : decode cX0_pointsBy 53 = .ok (.invokestatic 22, 3) := by decide +kernel
theorem dX0_pointsBy_56 : decode cX0_pointsBy 56 = .ok (.ireturn, 1) := by decide +kernel
theorem dX0_pointsBy_57 : decode cX0_pointsBy 57 = .ok (.iload_n 1, 1) := by decide +kernel
theorem dX0_pointsBy_58 : decode cX0_pointsBy 58 = .ok (.iload_n 2, 1) := by decide +kernel
theorem dX0_pointsBy_59 : decode cX0_pointsBy 59 = .ok (.invokestatic 19, 3) := by decide +kernel
theorem dX0_pointsBy_62 : decode cX0_pointsBy 62 = .ok (.invokestatic 25, 3) := by decide +kernel
theorem dX0_pointsBy_65 : decode cX0_pointsBy 65 = .ok (.ireturn, 1) := by decide +kernel
theorem dX0_pointsBy_66 : decode cX0_pointsBy 66 = .ok (.iload_n 1, 1) := by decide +kernel
theorem dX0_pointsBy_67 : decode cX0_pointsBy 67 = .ok (.iload_n 2, 1) := by decide +kernel
theorem dX0_pointsBy_68 : decode cX0_pointsBy 68 = .ok (.invokestatic 15, 3) := by decide +kernel
theorem dX0_pointsBy_71 : decode cX0_pointsBy 71 = .ok (.invokestatic 28, 3) := by decide +kernel
theorem dX0_pointsBy_74 : decode cX0_pointsBy 74 = .ok (.ireturn, 1) := by decide +kernel
theorem dX0_pointsBy_75 : decode cX0_pointsBy 75 = .ok (.iload_n 1, 1) := by decide +kernel
theorem dX0_pointsBy_76 : decode cX0_pointsBy 76 = .ok (.ireturn, 1) := by decide +kernel
theorem dX0_turnedBy_0 : decode cX0_turnedBy 0 = .ok (.iload_n 0, 1) := by decide +kernel
theorem dX0_turnedBy_1 : decode cX0_turnedBy 1 = .ok (.istore_n 2, 1) := by decide +kernel
theorem dX0_turnedBy_2 : decode cX0_turnedBy 2 = .ok (.iconst 0, 1) := by decide +kernel
theorem dX0_turnedBy_3 : decode cX0_turnedBy 3 = .ok (.istore_n 3, 1) := by decide +kernel
theorem dX0_turnedBy_4 : decode cX0_turnedBy 4 = .ok (.iload_n 3, 1) := by decide +kernel
theorem dX0_turnedBy_5 : decode cX0_turnedBy 5 = .ok (.iload_n 1, 1) := by decide +kernel
theorem dX0_turnedBy_6 : decode cX0_turnedBy 6 = .ok (.if_icmp .ge 61, 3) := by decide +kernel
theorem dX0_turnedBy_9 : decode cX0_turnedBy 9 = .ok (.iconst 0, 1) := by decide +kernel
theorem dX0_turnedBy_10 : decode cX0_turnedBy 10 = .ok (.istore 4, 2) := by decide +kernel
theorem dX0_turnedBy_12 : decode cX0_turnedBy 12 = .ok (.iconst 0, 1) := by decide +kernel
theorem dX0_turnedBy_13 : decode cX0_turnedBy 13 = .ok (.istore 5, 2) := by decide +kernel
theorem dX0_turnedBy_15 : decode cX0_turnedBy 15 = .ok (.iload 5, 2) := by decide +kernel
theorem dX0_turnedBy_17 : decode cX0_turnedBy 17 = .ok (.bipush 16, 2) := by decide +kernel
theorem dX0_turnedBy_19 : decode cX0_turnedBy 19 = .ok (.if_icmp .ge 39, 3) := by decide +kernel
theorem dX0_turnedBy_22 : decode cX0_turnedBy 22 = .ok (.iload_n 2, 1) := by decide +kernel
theorem dX0_turnedBy_23 : decode cX0_turnedBy 23 = .ok (.iload 5, 2) := by decide +kernel
theorem dX0_turnedBy_25 : decode cX0_turnedBy 25 = .ok (.ishr, 1) := by decide +kernel
theorem dX0_turnedBy_26 : decode cX0_turnedBy 26 = .ok (.iconst 1, 1) := by decide +kernel
theorem dX0_turnedBy_27 : decode cX0_turnedBy 27 = .ok (.iand, 1) := by decide +kernel
theorem dX0_turnedBy_28 : decode cX0_turnedBy 28 = .ok (.iconst 1, 1) := by decide +kernel
theorem dX0_turnedBy_29 : decode cX0_turnedBy 29 = .ok (.if_icmp .ne 23, 3) := by decide +kernel
theorem dX0_turnedBy_32 : decode cX0_turnedBy 32 = .ok (.iload 4, 2) := by decide +kernel
theorem dX0_turnedBy_34 : decode cX0_turnedBy 34 = .ok (.iconst 1, 1) := by decide +kernel
theorem dX0_turnedBy_35 : decode cX0_turnedBy 35 = .ok (.iconst 4, 1) := by decide +kernel
theorem dX0_turnedBy_36 : decode cX0_turnedBy 36 = .ok (.iload 5, 2) := by decide +kernel
theorem dX0_turnedBy_38 : decode cX0_turnedBy 38 = .ok (.iconst 4, 1) := by decide +kernel
theorem dX0_turnedBy_39 : decode cX0_turnedBy 39 = .ok (.irem, 1) := by decide +kernel
theorem dX0_turnedBy_40 : decode cX0_turnedBy 40 = .ok (.imul, 1) := by decide +kernel
theorem dX0_turnedBy_41 : decode cX0_turnedBy 41 = .ok (.iconst 3, 1) := by decide +kernel
theorem dX0_turnedBy_42 : decode cX0_turnedBy 42 = .ok (.iadd, 1) := by decide +kernel
theorem dX0_turnedBy_43 : decode cX0_turnedBy 43 = .ok (.iload 5, 2) := by decide +kernel
theorem dX0_turnedBy_45 : decode cX0_turnedBy 45 = .ok (.iconst 4, 1) := by decide +kernel
theorem dX0_turnedBy_46 : decode cX0_turnedBy 46 = .ok (.idiv, 1) := by decide +kernel
theorem dX0_turnedBy_47 : decode cX0_turnedBy 47 = .ok (.isub, 1) := by decide +kernel
theorem dX0_turnedBy_48 : decode cX0_turnedBy 48 = .ok (.ishl, 1) := by decide +kernel
theorem dX0_turnedBy_49 : decode cX0_turnedBy 49 = .ok (.ior, 1) := by decide +kernel
theorem dX0_turnedBy_50 : decode cX0_turnedBy 50 = .ok (.istore 4, 2) := by decide +kernel
theorem dX0_turnedBy_52 : decode cX0_turnedBy 52 = .ok (.iinc 5 1, 3) := by decide +kernel
theorem dX0_turnedBy_55 : decode cX0_turnedBy 55 = .ok (.goto (-40), 3) := by decide +kernel
theorem dX0_turnedBy_58 : decode cX0_turnedBy 58 = .ok (.iload 4, 2) := by decide +kernel
theorem dX0_turnedBy_60 : decode cX0_turnedBy 60 = .ok (.istore_n 2, 1) := by decide +kernel
theorem dX0_turnedBy_61 : decode cX0_turnedBy 61 = .ok (.iinc 3 1, 3) := by decide +kernel
theorem dX0_turnedBy_64 : decode cX0_turnedBy 64 = .ok (.goto (-60), 3) := by decide +kernel
theorem dX0_turnedBy_67 : decode cX0_turnedBy 67 = .ok (.iload_n 2, 1) := by decide +kernel
theorem dX0_turnedBy_68 : decode cX0_turnedBy 68 = .ok (.ireturn, 1) := by decide +kernel
theorem dX0_mirroredBy_0 : decode cX0_mirroredBy 0 = .ok (.iload_n 1, 1) := by decide +kernel
theorem dX0_mirroredBy_1 : decode cX0_mirroredBy 1 = .ok (.iconst 1, 1) := by decide +kernel
theorem dX0_mirroredBy_2 : decode cX0_mirroredBy 2 = .ok (.iand, 1) := by decide +kernel
theorem dX0_mirroredBy_3 : decode cX0_mirroredBy 3 = .ok (.ifCond .ne 5, 3) := by decide +kernel
theorem dX0_mirroredBy_6 : decode cX0_mirroredBy 6 = .ok (.iload_n 0, 1) := by decide +kernel
theorem dX0_mirroredBy_7 : decode cX0_mirroredBy 7 = .ok (.ireturn, 1) := by decide +kernel
theorem dX0_mirroredBy_8 : decode cX0_mirroredBy 8 = .ok (.iload_n 0, 1) := by decide +kernel
theorem dX0_mirroredBy_9 : decode cX0_mirroredBy 9 = .ok (.sipush 4369, 3) := by decide +kernel
theorem dX0_mirroredBy_12 : decode cX0_mirroredBy 12 = .ok (.iand, 1) := by decide +kernel
theorem dX0_mirroredBy_13 : decode cX0_mirroredBy 13 = .ok (.iconst 3, 1) := by decide +kernel
theorem dX0_mirroredBy_14 : decode cX0_mirroredBy 14 = .ok (.ishl, 1) := by decide +kernel
theorem dX0_mirroredBy_15 : decode cX0_mirroredBy 15 = .ok (.iload_n 0, 1) := by decide +kernel
theorem dX0_mirroredBy_16 : decode cX0_mirroredBy 16 = .ok (.sipush 8738, 3) := by decide +kernel
theorem dX0_mirroredBy_19 : decode cX0_mirroredBy 19 = .ok (.iand, 1) := by decide +kernel
theorem dX0_mirroredBy_20 : decode cX0_mirroredBy 20 = .ok (.iconst 1, 1) := by decide +kernel
theorem dX0_mirroredBy_21 : decode cX0_mirroredBy 21 = .ok (.ishl, 1) := by decide +kernel
theorem dX0_mirroredBy_22 : decode cX0_mirroredBy 22 = .ok (.ior, 1) := by decide +kernel
theorem dX0_mirroredBy_23 : decode cX0_mirroredBy 23 = .ok (.iload_n 0, 1) := by decide +kernel
theorem dX0_mirroredBy_24 : decode cX0_mirroredBy 24 = .ok (.sipush 17476, 3) := by decide +kernel
theorem dX0_mirroredBy_27 : decode cX0_mirroredBy 27 = .ok (.iand, 1) := by decide +kernel
theorem dX0_mirroredBy_28 : decode cX0_mirroredBy 28 = .ok (.iconst 1, 1) := by decide +kernel
theorem dX0_mirroredBy_29 : decode cX0_mirroredBy 29 = .ok (.ishr, 1) := by decide +kernel
theorem dX0_mirroredBy_30 : decode cX0_mirroredBy 30 = .ok (.ior, 1) := by decide +kernel
theorem dX0_mirroredBy_31 : decode cX0_mirroredBy 31 = .ok (.iload_n 0, 1) := by decide +kernel
theorem dX0_mirroredBy_32 : decode cX0_mirroredBy 32 = .ok (.ldc 31, 2) := by decide +kernel
theorem dX0_mirroredBy_34 : decode cX0_mirroredBy 34 = .ok (.iand, 1) := by decide +kernel
theorem dX0_mirroredBy_35 : decode cX0_mirroredBy 35 = .ok (.iconst 3, 1) := by decide +kernel
theorem dX0_mirroredBy_36 : decode cX0_mirroredBy 36 = .ok (.ishr, 1) := by decide +kernel
theorem dX0_mirroredBy_37 : decode cX0_mirroredBy 37 = .ok (.ior, 1) := by decide +kernel
theorem dX0_mirroredBy_38 : decode cX0_mirroredBy 38 = .ok (.ireturn, 1) := by decide +kernel
theorem dX0_hollowed_0 : decode cX0_hollowed 0 = .ok (.iload_n 0, 1) := by decide +kernel
theorem dX0_hollowed_1 : decode cX0_hollowed 1 = .ok (.iconst 1, 1) := by decide +kernel
theorem dX0_hollowed_2 : decode cX0_hollowed 2 = .ok (.ishl, 1) := by decide +kernel
theorem dX0_hollowed_3 : decode cX0_hollowed 3 = .ok (.ldc 32, 2) := by decide +kernel
theorem dX0_hollowed_5 : decode cX0_hollowed 5 = .ok (.iand, 1) := by decide +kernel
theorem dX0_hollowed_6 : decode cX0_hollowed 6 = .ok (.istore_n 1, 1) := by decide +kernel
theorem dX0_hollowed_7 : decode cX0_hollowed 7 = .ok (.iload_n 0, 1) := by decide +kernel
theorem dX0_hollowed_8 : decode cX0_hollowed 8 = .ok (.iconst 1, 1) := by decide +kernel
theorem dX0_hollowed_9 : decode cX0_hollowed 9 = .ok (.ishr, 1) := by decide +kernel
theorem dX0_hollowed_10 : decode cX0_hollowed 10 = .ok (.sipush 30583, 3) := by decide +kernel
theorem dX0_hollowed_13 : decode cX0_hollowed 13 = .ok (.iand, 1) := by decide +kernel
theorem dX0_hollowed_14 : decode cX0_hollowed 14 = .ok (.istore_n 2, 1) := by decide +kernel
theorem dX0_hollowed_15 : decode cX0_hollowed 15 = .ok (.iload_n 0, 1) := by decide +kernel
theorem dX0_hollowed_16 : decode cX0_hollowed 16 = .ok (.iconst 4, 1) := by decide +kernel
theorem dX0_hollowed_17 : decode cX0_hollowed 17 = .ok (.ishl, 1) := by decide +kernel
theorem dX0_hollowed_18 : decode cX0_hollowed 18 = .ok (.istore_n 3, 1) := by decide +kernel
theorem dX0_hollowed_19 : decode cX0_hollowed 19 = .ok (.iload_n 0, 1) := by decide +kernel
theorem dX0_hollowed_20 : decode cX0_hollowed 20 = .ok (.iconst 4, 1) := by decide +kernel
theorem dX0_hollowed_21 : decode cX0_hollowed 21 = .ok (.ishr, 1) := by decide +kernel
theorem dX0_hollowed_22 : decode cX0_hollowed 22 = .ok (.istore 4, 2) := by decide +kernel
theorem dX0_hollowed_24 : decode cX0_hollowed 24 = .ok (.iload_n 0, 1) := by decide +kernel
theorem dX0_hollowed_25 : decode cX0_hollowed 25 = .ok (.iload_n 1, 1) := by decide +kernel
theorem dX0_hollowed_26 : decode cX0_hollowed 26 = .ok (.iload_n 2, 1) := by decide +kernel
theorem dX0_hollowed_27 : decode cX0_hollowed 27 = .ok (.iand, 1) := by decide +kernel
theorem dX0_hollowed_28 : decode cX0_hollowed 28 = .ok (.iload_n 3, 1) := by decide +kernel
theorem dX0_hollowed_29 : decode cX0_hollowed 29 = .ok (.iand, 1) := by decide +kernel
theorem dX0_hollowed_30 : decode cX0_hollowed 30 = .ok (.iload 4, 2) := by decide +kernel
theorem dX0_hollowed_32 : decode cX0_hollowed 32 = .ok (.iand, 1) := by decide +kernel
theorem dX0_hollowed_33 : decode cX0_hollowed 33 = .ok (.iconst (-1), 1) := by decide +kernel
theorem dX0_hollowed_34 : decode cX0_hollowed 34 = .ok (.ixor, 1) := by decide +kernel
theorem dX0_hollowed_35 : decode cX0_hollowed 35 = .ok (.iand, 1) := by decide +kernel
theorem dX0_hollowed_36 : decode cX0_hollowed 36 = .ok (.ireturn, 1) := by decide +kernel
theorem dX0_doubled_0 : decode cX0_doubled 0 = .ok (.iload_n 0, 1) := by decide +kernel
theorem dX0_doubled_1 : decode cX0_doubled 1 = .ok (.iload_n 0, 1) := by decide +kernel
theorem dX0_doubled_2 : decode cX0_doubled 2 = .ok (.iconst 4, 1) := by decide +kernel
theorem dX0_doubled_3 : decode cX0_doubled 3 = .ok (.ishl, 1) := by decide +kernel
theorem dX0_doubled_4 : decode cX0_doubled 4 = .ok (.ior, 1) := by decide +kernel
theorem dX0_doubled_5 : decode cX0_doubled 5 = .ok (.ldc 33, 2) := by decide +kernel
theorem dX0_doubled_7 : decode cX0_doubled 7 = .ok (.iand, 1) := by decide +kernel
theorem dX0_doubled_8 : decode cX0_doubled 8 = .ok (.ireturn, 1) := by decide +kernel
theorem dX0_filled_0 : decode cX0_filled 0 = .ok (.iload_n 0, 1) := by decide +kernel
theorem dX0_filled_1 : decode cX0_filled 1 = .ok (.istore_n 1, 1) := by decide +kernel
theorem dX0_filled_2 : decode cX0_filled 2 = .ok (.iconst 0, 1) := by decide +kernel
theorem dX0_filled_3 : decode cX0_filled 3 = .ok (.istore_n 2, 1) := by decide +kernel
theorem dX0_filled_4 : decode cX0_filled 4 = .ok (.iload_n 2, 1) := by decide +kernel
theorem dX0_filled_5 : decode cX0_filled 5 = .ok (.bipush 16, 2) := by decide +kernel
theorem dX0_filled_7 : decode cX0_filled 7 = .ok (.if_icmp .ge 55, 3) := by decide +kernel
theorem dX0_filled_10 : decode cX0_filled 10 = .ok (.iload_n 0, 1) := by decide +kernel
theorem dX0_filled_11 : decode cX0_filled 11 = .ok (.iload_n 2, 1) := by decide +kernel
theorem dX0_filled_12 : decode cX0_filled 12 = .ok (.ishr, 1) := by decide +kernel
theorem dX0_filled_13 : decode cX0_filled 13 = .ok (.bipush 15, 2) := by decide +kernel
theorem dX0_filled_15 : decode cX0_filled 15 = .ok (.iand, 1) := by decide +kernel
theorem dX0_filled_16 : decode cX0_filled 16 = .ok (.istore_n 3, 1) := by decide +kernel
theorem dX0_filled_17 : decode cX0_filled 17 = .ok (.iload_n 3, 1) := by decide +kernel
theorem dX0_filled_18 : decode cX0_filled 18 = .ok (.iconst 1, 1) := by decide +kernel
theorem dX0_filled_19 : decode cX0_filled 19 = .ok (.ishl, 1) := by decide +kernel
theorem dX0_filled_20 : decode cX0_filled 20 = .ok (.iload_n 3, 1) := by decide +kernel
theorem dX0_filled_21 : decode cX0_filled 21 = .ok (.iconst 2, 1) := by decide +kernel
theorem dX0_filled_22 : decode cX0_filled 22 = .ok (.ishl, 1) := by decide +kernel
theorem dX0_filled_23 : decode cX0_filled 23 = .ok (.ior, 1) := by decide +kernel
theorem dX0_filled_24 : decode cX0_filled 24 = .ok (.iload_n 3, 1) := by decide +kernel
theorem dX0_filled_25 : decode cX0_filled 25 = .ok (.iconst 3, 1) := by decide +kernel
theorem dX0_filled_26 : decode cX0_filled 26 = .ok (.ishl, 1) := by decide +kernel
theorem dX0_filled_27 : decode cX0_filled 27 = .ok (.ior, 1) := by decide +kernel
theorem dX0_filled_28 : decode cX0_filled 28 = .ok (.istore 4, 2) := by decide +kernel
theorem dX0_filled_30 : decode cX0_filled 30 = .ok (.iload_n 3, 1) := by decide +kernel
theorem dX0_filled_31 : decode cX0_filled 31 = .ok (.iconst 1, 1) := by decide +kernel
theorem dX0_filled_32 : decode cX0_filled 32 = .ok (.ishr, 1) := by decide +kernel
theorem dX0_filled_33 : decode cX0_filled 33 = .ok (.iload_n 3, 1) := by decide +kernel
theorem dX0_filled_34 : decode cX0_filled 34 = .ok (.iconst 2, 1) := by decide +kernel
theorem dX0_filled_35 : decode cX0_filled 35 = .ok (.ishr, 1) := by decide +kernel
theorem dX0_filled_36 : decode cX0_filled 36 = .ok (.ior, 1) := by decide +kernel
theorem dX0_filled_37 : decode cX0_filled 37 = .ok (.iload_n 3, 1) := by decide +kernel
theorem dX0_filled_38 : decode cX0_filled 38 = .ok (.iconst 3, 1) := by decide +kernel
theorem dX0_filled_39 : decode cX0_filled 39 = .ok (.ishr, 1) := by decide +kernel
theorem dX0_filled_40 : decode cX0_filled 40 = .ok (.ior, 1) := by decide +kernel
theorem dX0_filled_41 : decode cX0_filled 41 = .ok (.istore 5, 2) := by decide +kernel
theorem dX0_filled_43 : decode cX0_filled 43 = .ok (.iload_n 1, 1) := by decide +kernel
theorem dX0_filled_44 : decode cX0_filled 44 = .ok (.iload 4, 2) := by decide +kernel
theorem dX0_filled_46 : decode cX0_filled 46 = .ok (.iload 5, 2) := by decide +kernel
theorem dX0_filled_48 : decode cX0_filled 48 = .ok (.iand, 1) := by decide +kernel
theorem dX0_filled_49 : decode cX0_filled 49 = .ok (.bipush 15, 2) := by decide +kernel
theorem dX0_filled_51 : decode cX0_filled 51 = .ok (.iand, 1) := by decide +kernel
theorem dX0_filled_52 : decode cX0_filled 52 = .ok (.iload_n 2, 1) := by decide +kernel
theorem dX0_filled_53 : decode cX0_filled 53 = .ok (.ishl, 1) := by decide +kernel
theorem dX0_filled_54 : decode cX0_filled 54 = .ok (.ior, 1) := by decide +kernel
theorem dX0_filled_55 : decode cX0_filled 55 = .ok (.istore_n 1, 1) := by decide +kernel
theorem dX0_filled_56 : decode cX0_filled 56 = .ok (.iinc 2 4, 3) := by decide +kernel
theorem dX0_filled_59 : decode cX0_filled 59 = .ok (.goto (-55), 3) := by decide +kernel
theorem dX0_filled_62 : decode cX0_filled 62 = .ok (.iload_n 1, 1) := by decide +kernel
theorem dX0_filled_63 : decode cX0_filled 63 = .ok (.ireturn, 1) := by decide +kernel
theorem dX1_isPlacing_0 : decode cX1_isPlacing 0 = .ok (.iload_n 0, 1) := by decide +kernel
theorem dX1_isPlacing_1 : decode cX1_isPlacing 1 = .ok (.sipush 1000, 3) := by decide +kernel
theorem dX1_isPlacing_4 : decode cX1_isPlacing 4 = .ok (.idiv, 1) := by decide +kernel
theorem dX1_isPlacing_5 : decode cX1_isPlacing 5 = .ok (.istore_n 1, 1) := by decide +kernel
theorem dX1_isPlacing_6 : decode cX1_isPlacing 6 = .ok (.iload_n 0, 1) := by decide +kernel
theorem dX1_isPlacing_7 : decode cX1_isPlacing 7 = .ok (.sipush 1000, 3) := by decide +kernel
theorem dX1_isPlacing_10 : decode cX1_isPlacing 10 = .ok (.irem, 1) := by decide +kernel
theorem dX1_isPlacing_11 : decode cX1_isPlacing 11 = .ok (.istore_n 2, 1) := by decide +kernel
theorem dX1_isPlacing_12 : decode cX1_isPlacing 12 = .ok (.iload_n 1, 1) := by decide +kernel
theorem dX1_isPlacing_13 : decode cX1_isPlacing 13 = .ok (.iconst 4, 1) := by decide +kernel
theorem dX1_isPlacing_14 : decode cX1_isPlacing 14 = .ok (.if_icmp .lt 31, 3) := by decide +kernel
theorem dX1_isPlacing_17 : decode cX1_isPlacing 17 = .ok (.iload_n 1, 1) := by decide +kernel
theorem dX1_isPlacing_18 : decode cX1_isPlacing 18 = .ok (.bipush 11, 2) := by decide +kernel
theorem dX1_isPlacing_20 : decode cX1_isPlacing 20 = .ok (.if_icmp .gt 25, 3) := by decide +kernel
theorem dX1_isPlacing_23 : decode cX1_isPlacing 23 = .ok (.iload_n 2, 1) := by decide +kernel
theorem dX1_isPlacing_24 : decode cX1_isPlacing 24 = .ok (.bipush 10, 2) := by decide +kernel
theorem dX1_isPlacing_26 : decode cX1_isPlacing 26 = .ok (.idiv, 1) := by decide +kernel
theorem dX1_isPlacing_27 : decode cX1_isPlacing 27 = .ok (.bipush 8, 2) := by decide +kernel
theorem dX1_isPlacing_29 : decode cX1_isPlacing 29 = .ok (.if_icmp .ge 16, 3) := by decide +kernel
theorem dX1_isPlacing_32 : decode cX1_isPlacing 32 = .ok (.iload_n 2, 1) := by decide +kernel
theorem dX1_isPlacing_33 : decode cX1_isPlacing 33 = .ok (.bipush 10, 2) := by decide +kernel
theorem dX1_isPlacing_35 : decode cX1_isPlacing 35 = .ok (.irem, 1) := by decide +kernel
theorem dX1_isPlacing_36 : decode cX1_isPlacing 36 = .ok (.bipush 8, 2) := by decide +kernel
theorem dX1_isPlacing_38 : decode cX1_isPlacing 38 = .ok (.if_icmp .ge 7, 3) := by decide +kernel
theorem dX1_isPlacing_41 : decode cX1_isPlacing 41 = .ok (.iconst 1, 1) := by decide +kernel
theorem dX1_isPlacing_42 : decode cX1_isPlacing 42 = .ok (.goto 4, 3) := by decide +kernel
theorem dX1_isPlacing_45 : decode cX1_isPlacing 45 = .ok (.iconst 0, 1) := by decide +kernel
theorem dX1_isPlacing_46 : decode cX1_isPlacing 46 = .ok (.ireturn, 1) := by decide +kernel
theorem dX1_placingAt_0 : decode cX1_placingAt 0 = .ok (.sipush 1000, 3) := by decide +kernel
theorem dX1_placingAt_3 : decode cX1_placingAt 3 = .ok (.iload_n 0, 1) := by decide +kernel
theorem dX1_placingAt_4 : decode cX1_placingAt 4 = .ok (.imul, 1) := by decide +kernel
theorem dX1_placingAt_5 : decode cX1_placingAt 5 = .ok (.bipush 10, 2) := by decide +kernel
theorem dX1_placingAt_7 : decode cX1_placingAt 7 = .ok (.iload_n 1, 1) := by decide +kernel
theorem dX1_placingAt_8 : decode cX1_placingAt 8 = .ok (.imul, 1) := by decide +kernel
theorem dX1_placingAt_9 : decode cX1_placingAt 9 = .ok (.iadd, 1) := by decide +kernel
theorem dX1_placingAt_10 : decode cX1_placingAt 10 = .ok (.iload_n 2, 1) := by decide +kernel
theorem dX1_placingAt_11 : decode cX1_placingAt 11 = .ok (.iadd, 1) := by decide +kernel
theorem dX1_placingAt_12 : decode cX1_placingAt 12 = .ok (.ireturn, 1) := by decide +kernel
theorem dX1_cellsAtCorner_0 : decode cX1_cellsAtCorner 0 = .ok (.lconst 0, 1) := by decide +kernel
theorem dX1_cellsAtCorner_1 : decode cX1_cellsAtCorner 1 = .ok (.lstore_n 2, 1) := by decide +kernel
theorem dX1_cellsAtCorner_2 : decode cX1_cellsAtCorner 2 = .ok (.iload_n 1, 1) := by decide +kernel
theorem dX1_cellsAtCorner_3 : decode cX1_cellsAtCorner 3 = .ok (.iconst 1, 1) := by decide +kernel
theorem dX1_cellsAtCorner_4 : decode cX1_cellsAtCorner 4 = .ok (.if_icmp .ne 7, 3) := by decide +kernel
theorem dX1_cellsAtCorner_7 : decode cX1_cellsAtCorner 7 = .ok (.lconst 1, 1) := by decide +kernel
theorem dX1_cellsAtCorner_8 : decode cX1_cellsAtCorner 8 = .ok (.goto 6, 3) := by decide +kernel
theorem dX1_cellsAtCorner_11 : decode cX1_cellsAtCorner 11 = .ok (.ldc2_w 9, 3) := by decide +kernel
theorem dX1_cellsAtCorner_14 : decode cX1_cellsAtCorner 14 = .ok (.lstore 4, 2) := by decide +kernel
theorem dX1_cellsAtCorner_16 : decode cX1_cellsAtCorner 16 = .ok (.iconst 0, 1) := by decide +kernel
theorem dX1_cellsAtCorner_17 : decode cX1_cellsAtCorner 17 = .ok (.istore 6, 2) := by decide +kernel
theorem dX1_cellsAtCorner_19 : decode cX1_cellsAtCorner 19 = .ok (.iload 6, 2) := by decide +kernel
theorem dX1_cellsAtCorner_21 : decode cX1_cellsAtCorner 21 = .ok (.iconst 4, 1) := by decide +kernel
theorem dX1_cellsAtCorner_22 : decode cX1_cellsAtCorner 22 = .ok (.if_icmp .ge 55, 3) := by decide +kernel
theorem dX1_cellsAtCorner_25 : decode cX1_cellsAtCorner 25 = .ok (.iconst 0, 1) := by decide +kernel
theorem dX1_cellsAtCorner_26 : decode cX1_cellsAtCorner 26 = .ok (.istore 7, 2) := by decide +kernel
theorem dX1_cellsAtCorner_28 : decode cX1_cellsAtCorner 28 = .ok (.iload 7, 2) := by decide +kernel
theorem dX1_cellsAtCorner_30 : decode cX1_cellsAtCorner 30 = .ok (.iconst 4, 1) := by decide +kernel
theorem dX1_cellsAtCorner_31 : decode cX1_cellsAtCorner 31 = .ok (.if_icmp .ge 40, 3) := by decide +kernel
theorem dX1_cellsAtCorner_34 : decode cX1_cellsAtCorner 34 = .ok (.iload_n 0, 1) := by decide +kernel
theorem dX1_cellsAtCorner_35 : decode cX1_cellsAtCorner 35 = .ok (.iconst 4, 1) := by decide +kernel
theorem dX1_cellsAtCorner_36 : decode cX1_cellsAtCorner 36 = .ok (.iload 6, 2) := by decide +kernel
theorem dX1_cellsAtCorner_38 : decode cX1_cellsAtCorner 38 = .ok (.imul, 1) := by decide +kernel
theorem dX1_cellsAtCorner_39 : decode cX1_cellsAtCorner 39 = .ok (.iload 7, 2) := by decide +kernel
theorem dX1_cellsAtCorner_41 : decode cX1_cellsAtCorner 41 = .ok (.iadd, 1) := by decide +kernel
theorem dX1_cellsAtCorner_42 : decode cX1_cellsAtCorner 42 = .ok (.ishr, 1) := by decide +kernel
theorem dX1_cellsAtCorner_43 : decode cX1_cellsAtCorner 43 = .ok (.iconst 1, 1) := by decide +kernel
theorem dX1_cellsAtCorner_44 : decode cX1_cellsAtCorner 44 = .ok (.iand, 1) := by decide +kernel
theorem dX1_cellsAtCorner_45 : decode cX1_cellsAtCorner 45 = .ok (.iconst 1, 1) := by decide +kernel
theorem dX1_cellsAtCorner_46 : decode cX1_cellsAtCorner 46 = .ok (.if_icmp .ne 19, 3) := by decide +kernel
theorem dX1_cellsAtCorner_49 : decode cX1_cellsAtCorner 49 = .ok (.lload_n 2, 1) := by decide +kernel
theorem dX1_cellsAtCorner_50 : decode cX1_cellsAtCorner 50 = .ok (.lload 4, 2) := by decide +kernel
theorem dX1_cellsAtCorner_52 : decode cX1_cellsAtCorner 52 = .ok (.iload_n 1, 1) := by decide +kernel
theorem dX1_cellsAtCorner_53 : decode cX1_cellsAtCorner 53 = .ok (.bipush 8, 2) := by decide +kernel
theorem dX1_cellsAtCorner_55 : decode cX1_cellsAtCorner 55 = .ok (.iload 6, 2) := by decide +kernel
theorem dX1_cellsAtCorner_57 : decode cX1_cellsAtCorner 57 = .ok (.imul, 1) := by decide +kernel
theorem dX1_cellsAtCorner_58 : decode cX1_cellsAtCorner 58 = .ok (.iload 7, 2) := by decide +kernel
theorem dX1_cellsAtCorner_60 : decode cX1_cellsAtCorner 60 = .ok (.iadd, 1) := by decide +kernel
theorem dX1_cellsAtCorner_61 : decode cX1_cellsAtCorner 61 = .ok (.imul, 1) := by decide +kernel
theorem dX1_cellsAtCorner_62 : decode cX1_cellsAtCorner 62 = .ok (.lshl, 1) := by decide +kernel
theorem dX1_cellsAtCorner_63 : decode cX1_cellsAtCorner 63 = .ok (.lor, 1) := by decide +kernel
theorem dX1_cellsAtCorner_64 : decode cX1_cellsAtCorner 64 = .ok (.lstore_n 2, 1) := by decide +kernel
theorem dX1_cellsAtCorner_65 : decode cX1_cellsAtCorner 65 = .ok (.iinc 7 1, 3) := by decide +kernel
theorem dX1_cellsAtCorner_68 : decode cX1_cellsAtCorner 68 = .ok (.goto (-40), 3) := by decide +kernel
theorem dX1_cellsAtCorner_71 : decode cX1_cellsAtCorner 71 = .ok (.iinc 6 1, 3) := by decide +kernel
theorem dX1_cellsAtCorner_74 : decode cX1_cellsAtCorner 74 = .ok (.goto (-55), 3) := by decide +kernel
theorem dX1_cellsAtCorner_77 : decode cX1_cellsAtCorner 77 = .ok (.lload_n 2, 1) := by decide +kernel
theorem dX1_cellsAtCorner_78 : decode cX1_cellsAtCorner 78 = .ok (.lreturn, 1) := by decide +kernel
theorem dX1_moved_0 : decode cX1_moved 0 = .ok (.ldc2_w 13, 3) := by decide +kernel
theorem dX1_moved_3 : decode cX1_moved 3 = .ok (.sipush 255, 3) := by decide +kernel
theorem dX1_moved_6 : decode cX1_moved 6 = .ok (.iload_n 3, 1) := by decide +kernel
theorem dX1_moved_7 : decode cX1_moved 7 = .ok (.ishr, 1) := by decide +kernel
theorem dX1_moved_8 : decode cX1_moved 8 = .ok (.i2l, 1) := by decide +kernel
theorem dX1_moved_9 : decode cX1_moved 9 = .ok (.lmul, 1) := by decide +kernel
theorem dX1_moved_10 : decode cX1_moved 10 = .ok (.lstore 4, 2) := by decide +kernel
theorem dX1_moved_12 : decode cX1_moved 12 = .ok (.lload_n 0, 1) := by decide +kernel
theorem dX1_moved_13 : decode cX1_moved 13 = .ok (.lload 4, 2) := by decide +kernel
theorem dX1_moved_15 : decode cX1_moved 15 = .ok (.land, 1) := by decide +kernel
theorem dX1_moved_16 : decode cX1_moved 16 = .ok (.bipush 8, 2) := by decide +kernel
theorem dX1_moved_18 : decode cX1_moved 18 = .ok (.iload_n 2, 1) := by decide +kernel
theorem dX1_moved_19 : decode cX1_moved 19 = .ok (.imul, 1) := by decide +kernel
theorem dX1_moved_20 : decode cX1_moved 20 = .ok (.iload_n 3, 1) := by decide +kernel
theorem dX1_moved_21 : decode cX1_moved 21 = .ok (.iadd, 1) := by decide +kernel
theorem dX1_moved_22 : decode cX1_moved 22 = .ok (.lshl, 1) := by decide +kernel
theorem dX1_moved_23 : decode cX1_moved 23 = .ok (.lreturn, 1) := by decide +kernel
set_option maxRecDepth 20000 in
theorem ggX1_cellsOff_J13_bitCount_95d88 : GoodIn wsX1_cellsOff wsJ13_bitCount_95d88 := goodIn_r _ [4, 5, 6, 7] (by decide +kernel) (by decide +kernel)
set_option maxRecDepth 20000 in
theorem gX1_cellsOff_J13_bitCount_95d88 : GoodIn wsX1_cellsOff (va_wsS RX1 15 yJ13_bitCount_95d88 wsJ13_bitCount_95d88) := goodIn_app (goodIn_of _ (by decide +kernel)) ggX1_cellsOff_J13_bitCount_95d88
theorem dX1_cellsOff_0 : decode cX1_cellsOff 0 = .ok (.lload_n 0, 1) := by decide +kernel
theorem dX1_cellsOff_1 : decode cX1_cellsOff 1 = .ok (.lload_n 2, 1) := by decide +kernel
theorem dX1_cellsOff_2 : decode cX1_cellsOff 2 = .ok (.lxor, 1) := by decide +kernel
theorem dX1_cellsOff_3 : decode cX1_cellsOff 3 = .ok (.invokestatic 15, 3) := by decide +kernel
theorem dX1_cellsOff_6 : decode cX1_cellsOff 6 = .ok (.ireturn, 1) := by decide +kernel
theorem dX1_rowOf_0 : decode cX1_rowOf 0 = .ok (.lload_n 0, 1) := by decide +kernel
theorem dX1_rowOf_1 : decode cX1_rowOf 1 = .ok (.bipush 8, 2) := by decide +kernel
theorem dX1_rowOf_3 : decode cX1_rowOf 3 = .ok (.iload_n 2, 1) := by decide +kernel
theorem dX1_rowOf_4 : decode cX1_rowOf 4 = .ok (.imul, 1) := by decide +kernel
theorem dX1_rowOf_5 : decode cX1_rowOf 5 = .ok (.lushr, 1) := by decide +kernel
theorem dX1_rowOf_6 : decode cX1_rowOf 6 = .ok (.ldc2_w 21, 3) := by decide +kernel
theorem dX1_rowOf_9 : decode cX1_rowOf 9 = .ok (.land, 1) := by decide +kernel
theorem dX1_rowOf_10 : decode cX1_rowOf 10 = .ok (.l2i, 1) := by decide +kernel
theorem dX1_rowOf_11 : decode cX1_rowOf 11 = .ok (.ireturn, 1) := by decide +kernel
theorem dX2_init_0 : decode cX2_init 0 = .ok (.aload_n 0, 1) := by decide +kernel
theorem dX2_init_1 : decode cX2_init 1 = .ok (.invokespecial 3, 3) := by decide +kernel
theorem dX2_init_4 : decode cX2_init 4 = .ok (.aload_n 0, 1) := by decide +kernel
theorem dX2_init_5 : decode cX2_init 5 = .ok (.iconst 0, 1) := by decide +kernel
theorem dX2_init_6 : decode cX2_init 6 = .ok (.putfield 9, 3) := by decide +kernel
theorem dX2_init_9 : decode cX2_init 9 = .ok (.aload_n 0, 1) := by decide +kernel
theorem dX2_init_10 : decode cX2_init 10 = .ok (.iconst 0, 1) := by decide +kernel
theorem dX2_init_11 : decode cX2_init 11 = .ok (.putfield 15, 3) := by decide +kernel
theorem dX2_init_14 : decode cX2_init 14 = .ok (.aload_n 0, 1) := by decide +kernel
theorem dX2_init_15 : decode cX2_init 15 = .ok (.bipush 40, 2) := by decide +kernel
theorem dX2_init_17 : decode cX2_init 17 = .ok (.newarray .long, 2) := by decide +kernel
theorem dX2_init_19 : decode cX2_init 19 = .ok (.putfield 18, 3) := by decide +kernel
theorem dX2_init_22 : decode cX2_init 22 = .ok (.return_, 1) := by decide +kernel
theorem dX2_isMissing_0 : decode cX2_isMissing 0 = .ok (.aload_n 0, 1) := by decide +kernel
theorem dX2_isMissing_1 : decode cX2_isMissing 1 = .ok (.getfield 9, 3) := by decide +kernel
theorem dX2_isMissing_4 : decode cX2_isMissing 4 = .ok (.ifCond .ne 7, 3) := by decide +kernel
theorem dX2_isMissing_7 : decode cX2_isMissing 7 = .ok (.iconst 1, 1) := by decide +kernel
theorem dX2_isMissing_8 : decode cX2_isMissing 8 = .ok (.goto 4, 3) := by decide +kernel
theorem dX2_isMissing_11 : decode cX2_isMissing 11 = .ok (.iconst 0, 1) := by decide +kernel
theorem dX2_isMissing_12 : decode cX2_isMissing 12 = .ok (.ireturn, 1) := by decide +kernel
theorem dX2_renew_0 : decode cX2_renew 0 = .ok (.aload_n 0, 1) := by decide +kernel
theorem dX2_renew_1 : decode cX2_renew 1 = .ok (.iload_n 1, 1) := by decide +kernel
theorem dX2_renew_2 : decode cX2_renew 2 = .ok (.putfield 9, 3) := by decide +kernel
theorem dX2_renew_5 : decode cX2_renew 5 = .ok (.aload_n 0, 1) := by decide +kernel
theorem dX2_renew_6 : decode cX2_renew 6 = .ok (.iload_n 2, 1) := by decide +kernel
theorem dX2_renew_7 : decode cX2_renew 7 = .ok (.putfield 15, 3) := by decide +kernel
theorem dX2_renew_10 : decode cX2_renew 10 = .ok (.iconst 0, 1) := by decide +kernel
theorem dX2_renew_11 : decode cX2_renew 11 = .ok (.istore_n 3, 1) := by decide +kernel
theorem dX2_renew_12 : decode cX2_renew 12 = .ok (.iload_n 3, 1) := by decide +kernel
theorem dX2_renew_13 : decode cX2_renew 13 = .ok (.bipush 40, 2) := by decide +kernel
theorem dX2_renew_15 : decode cX2_renew 15 = .ok (.if_icmp .ge 16, 3) := by decide +kernel
theorem dX2_renew_18 : decode cX2_renew 18 = .ok (.aload_n 0, 1) := by decide +kernel
theorem dX2_renew_19 : decode cX2_renew 19 = .ok (.getfield 18, 3) := by decide +kernel
theorem dX2_renew_22 : decode cX2_renew 22 = .ok (.iload_n 3, 1) := by decide +kernel
theorem dX2_renew_23 : decode cX2_renew 23 = .ok (.lconst 0, 1) := by decide +kernel
theorem dX2_renew_24 : decode cX2_renew 24 = .ok (.lastore, 1) := by decide +kernel
theorem dX2_renew_25 : decode cX2_renew 25 = .ok (.iinc 3 1, 3) := by decide +kernel
theorem dX2_renew_28 : decode cX2_renew 28 = .ok (.goto (-16), 3) := by decide +kernel
theorem dX2_renew_31 : decode cX2_renew 31 = .ok (.return_, 1) := by decide +kernel
theorem dX2_put_0 : decode cX2_put 0 = .ok (.aload_n 0, 1) := by decide +kernel
theorem dX2_put_1 : decode cX2_put 1 = .ok (.getfield 18, 3) := by decide +kernel
theorem dX2_put_4 : decode cX2_put 4 = .ok (.iload_n 1, 1) := by decide +kernel
theorem dX2_put_5 : decode cX2_put 5 = .ok (.aload_n 0, 1) := by decide +kernel
theorem dX2_put_6 : decode cX2_put 6 = .ok (.getfield 9, 3) := by decide +kernel
theorem dX2_put_9 : decode cX2_put 9 = .ok (.bipush 64, 2) := by decide +kernel
theorem dX2_put_11 : decode cX2_put 11 = .ok (.if_icmp .ne 7, 3) := by decide +kernel
theorem dX2_put_14 : decode cX2_put 14 = .ok (.lload_n 2, 1) := by decide +kernel
theorem dX2_put_15 : decode cX2_put 15 = .ok (.goto 13, 3) := by decide +kernel
theorem dX2_put_18 : decode cX2_put 18 = .ok (.lload_n 2, 1) := by decide +kernel
theorem dX2_put_19 : decode cX2_put 19 = .ok (.lconst 1, 1) := by decide +kernel
theorem dX2_put_20 : decode cX2_put 20 = .ok (.aload_n 0, 1) := by decide +kernel
theorem dX2_put_21 : decode cX2_put 21 = .ok (.getfield 9, 3) := by decide +kernel
theorem dX2_put_24 : decode cX2_put 24 = .ok (.lshl, 1) := by decide +kernel
theorem dX2_put_25 : decode cX2_put 25 = .ok (.lconst 1, 1) := by decide +kernel
theorem dX2_put_26 : decode cX2_put 26 = .ok (.lsub, 1) := by decide +kernel
theorem dX2_put_27 : decode cX2_put 27 = .ok (.land, 1) := by decide +kernel
theorem dX2_put_28 : decode cX2_put 28 = .ok (.lastore, 1) := by decide +kernel
theorem dX2_put_29 : decode cX2_put 29 = .ok (.return_, 1) := by decide +kernel
theorem dX2_hasPart_0 : decode cX2_hasPart 0 = .ok (.iload_n 1, 1) := by decide +kernel
theorem dX2_hasPart_1 : decode cX2_hasPart 1 = .ok (.ifCond .lt 29, 3) := by decide +kernel
theorem dX2_hasPart_4 : decode cX2_hasPart 4 = .ok (.iload_n 2, 1) := by decide +kernel
theorem dX2_hasPart_5 : decode cX2_hasPart 5 = .ok (.ifCond .lt 25, 3) := by decide +kernel
theorem dX2_hasPart_8 : decode cX2_hasPart 8 = .ok (.iload_n 2, 1) := by decide +kernel
theorem dX2_hasPart_9 : decode cX2_hasPart 9 = .ok (.aload_n 0, 1) := by decide +kernel
theorem dX2_hasPart_10 : decode cX2_hasPart 10 = .ok (.getfield 15, 3) := by decide +kernel
theorem dX2_hasPart_13 : decode cX2_hasPart 13 = .ok (.if_icmp .gt 17, 3) := by decide +kernel
theorem dX2_hasPart_16 : decode cX2_hasPart 16 = .ok (.iload_n 1, 1) := by decide +kernel
theorem dX2_hasPart_17 : decode cX2_hasPart 17 = .ok (.aload_n 0, 1) := by decide +kernel
theorem dX2_hasPart_18 : decode cX2_hasPart 18 = .ok (.getfield 15, 3) := by decide +kernel
theorem dX2_hasPart_21 : decode cX2_hasPart 21 = .ok (.iload_n 2, 1) := by decide +kernel
theorem dX2_hasPart_22 : decode cX2_hasPart 22 = .ok (.isub, 1) := by decide +kernel
theorem dX2_hasPart_23 : decode cX2_hasPart 23 = .ok (.if_icmp .gt 7, 3) := by decide +kernel
theorem dX2_hasPart_26 : decode cX2_hasPart 26 = .ok (.iconst 1, 1) := by decide +kernel
theorem dX2_hasPart_27 : decode cX2_hasPart 27 = .ok (.goto 4, 3) := by decide +kernel
theorem dX2_hasPart_30 : decode cX2_hasPart 30 = .ok (.iconst 0, 1) := by decide +kernel
theorem dX2_hasPart_31 : decode cX2_hasPart 31 = .ok (.ireturn, 1) := by decide +kernel
theorem dX3_init_0 : decode cX3_init 0 = .ok (.aload_n 0, 1) := by decide +kernel
theorem dX3_init_1 : decode cX3_init 1 = .ok (.invokespecial 3, 3) := by decide +kernel
theorem dX3_init_4 : decode cX3_init 4 = .ok (.aload_n 0, 1) := by decide +kernel
theorem dX3_init_5 : decode cX3_init 5 = .ok (.iconst 0, 1) := by decide +kernel
theorem dX3_init_6 : decode cX3_init 6 = .ok (.putfield 9, 3) := by decide +kernel
theorem dX3_init_9 : decode cX3_init 9 = .ok (.aload_n 0, 1) := by decide +kernel
theorem dX3_init_10 : decode cX3_init 10 = .ok (.bipush 6, 2) := by decide +kernel
theorem dX3_init_12 : decode cX3_init 12 = .ok (.newarray .int, 2) := by decide +kernel
theorem dX3_init_14 : decode cX3_init 14 = .ok (.putfield 15, 3) := by decide +kernel
theorem dX3_init_17 : decode cX3_init 17 = .ok (.aload_n 0, 1) := by decide +kernel
theorem dX3_init_18 : decode cX3_init 18 = .ok (.sipush 384, 3) := by decide +kernel
theorem dX3_init_21 : decode cX3_init 21 = .ok (.newarray .int, 2) := by decide +kernel
theorem dX3_init_23 : decode cX3_init 23 = .ok (.putfield 19, 3) := by decide +kernel
theorem dX3_init_26 : decode cX3_init 26 = .ok (.return_, 1) := by decide +kernel
set_option maxRecDepth 20000 in
theorem ggX3_plan_X3_bestNext : GoodIn wsX3_plan wsX3_bestNext := goodIn_r _ [10, 11, 12, 13, 9, 14, 5, 15, 16, 17, 18, 19, 20, 21, 22, 23, 24, 25, 26, 27, 28, 29, 30, 31, 32, 33, 34, 35, 51, 52, 53, 42, 43, 44, 45, 46, 47, 48, 49, 50] (by decide +kernel) (by decide +kernel)
set_option maxRecDepth 20000 in
theorem gX3_plan_X3_bestNext : GoodIn wsX3_plan (wsV RX3 33 RX3 yX3_bestNext wsX3_bestNext) := goodIn_app (goodIn_of _ (by decide +kernel)) ggX3_plan_X3_bestNext
set_option maxRecDepth 20000 in
theorem ggX3_plan_X3_costVia : GoodIn wsX3_plan wsX3_costVia := goodIn_r _ [14, 5, 15, 16, 17, 18, 19, 20, 21, 22, 23, 24, 25, 26, 27, 28, 29, 30, 31, 32, 33, 34, 35, 51, 52, 53, 42, 43, 44, 45, 46, 47, 48, 49, 50] (by decide +kernel) (by decide +kernel)
set_option maxRecDepth 20000 in
theorem gX3_plan_X3_costVia : GoodIn wsX3_plan (wsV RX3 37 RX3 yX3_costVia wsX3_costVia) := goodIn_app (goodIn_of _ (by decide +kernel)) ggX3_plan_X3_costVia
set_option maxRecDepth 20000 in
theorem ggX3_plan_X3_walk : GoodIn wsX3_plan wsX3_walk := goodIn_r _ [39, 40, 41, 6, 7, 8, 9, 10, 11, 12, 13, 14, 5, 15, 16, 17, 18, 19, 20, 21, 22, 23, 24, 25, 26, 27, 28, 29, 30, 31, 32, 33, 34, 35, 51, 52, 53, 42, 43, 44, 45, 46, 47, 48, 49, 50] (by decide +kernel) (by decide +kernel)
set_option maxRecDepth 20000 in
theorem gX3_plan_X3_walk : GoodIn wsX3_plan (wsV RX3 40 RX3 yX3_walk wsX3_walk) := goodIn_app (goodIn_of _ (by decide +kernel)) ggX3_plan_X3_walk
theorem dX3_plan_0 : decode cX3_plan 0 = .ok (.aload_n 1, 1) := by decide +kernel
theorem dX3_plan_1 : decode cX3_plan 1 = .ok (.getfield 22, 3) := by decide +kernel
theorem dX3_plan_4 : decode cX3_plan 4 = .ok (.bipush 6, 2) := by decide +kernel
theorem dX3_plan_6 : decode cX3_plan 6 = .ok (.invokestatic 27, 3) := by decide +kernel
theorem dX3_plan_9 : decode cX3_plan 9 = .ok (.istore_n 2, 1) := by decide +kernel
theorem dX3_plan_10 : decode cX3_plan 10 = .ok (.iconst 1, 1) := by decide +kernel
theorem dX3_plan_11 : decode cX3_plan 11 = .ok (.iload_n 2, 1) := by decide +kernel
theorem dX3_plan_12 : decode cX3_plan 12 = .ok (.ishl, 1) := by decide +kernel
theorem dX3_plan_13 : decode cX3_plan 13 = .ok (.iconst 1, 1) := by decide +kernel
theorem dX3_plan_14 : decode cX3_plan 14 = .ok (.isub, 1) := by decide +kernel
theorem dX3_plan_15 : decode cX3_plan 15 = .ok (.istore_n 3, 1) := by decide +kernel
theorem dX3_plan_16 : decode cX3_plan 16 = .ok (.iload_n 3, 1) := by decide +kernel
theorem dX3_plan_17 : decode cX3_plan 17 = .ok (.ifCond .le 76, 3) := by decide +kernel
theorem dX3_plan_20 : decode cX3_plan 20 = .ok (.iconst 0, 1) := by decide +kernel
theorem dX3_plan_21 : decode cX3_plan 21 = .ok (.istore 4, 2) := by decide +kernel
theorem dX3_plan_23 : decode cX3_plan 23 = .ok (.iload 4, 2) := by decide +kernel
theorem dX3_plan_25 : decode cX3_plan 25 = .ok (.iload_n 2, 1) := by decide +kernel
theorem dX3_plan_26 : decode cX3_plan 26 = .ok (.if_icmp .ge 61, 3) := by decide +kernel
theorem dX3_plan_29 : decode cX3_plan 29 = .ok (.iload_n 3, 1) := by decide +kernel
theorem dX3_plan_30 : decode cX3_plan 30 = .ok (.iload 4, 2) := by decide +kernel
theorem dX3_plan_32 : decode cX3_plan 32 = .ok (.ishr, 1) := by decide +kernel
theorem dX3_plan_33 : decode cX3_plan 33 = .ok (.iconst 1, 1) := by decide +kernel
theorem dX3_plan_34 : decode cX3_plan 34 = .ok (.iand, 1) := by decide +kernel
theorem dX3_plan_35 : decode cX3_plan 35 = .ok (.iconst 1, 1) := by decide +kernel
theorem dX3_plan_36 : decode cX3_plan 36 = .ok (.if_icmp .ne 45, 3) := by decide +kernel
theorem dX3_plan_39 : decode cX3_plan 39 = .ok (.aload_n 0, 1) := by decide +kernel
theorem dX3_plan_40 : decode cX3_plan 40 = .ok (.aload_n 1, 1) := by decide +kernel
theorem dX3_plan_41 : decode cX3_plan 41 = .ok (.iload_n 3, 1) := by decide +kernel
theorem dX3_plan_42 : decode cX3_plan 42 = .ok (.iload 4, 2) := by decide +kernel
theorem dX3_plan_44 : decode cX3_plan 44 = .ok (.iload_n 2, 1) := by decide +kernel
theorem dX3_plan_45 : decode cX3_plan 45 = .ok (.invokevirtual 33, 3) := by decide +kernel
theorem dX3_plan_48 : decode cX3_plan 48 = .ok (.istore 5, 2) := by decide +kernel
theorem dX3_plan_50 : decode cX3_plan 50 = .ok (.aload_n 0, 1) := by decide +kernel
theorem dX3_plan_51 : decode cX3_plan 51 = .ok (.getfield 19, 3) := by decide +kernel
theorem dX3_plan_54 : decode cX3_plan 54 = .ok (.iload_n 3, 1) := by decide +kernel
theorem dX3_plan_55 : decode cX3_plan 55 = .ok (.bipush 6, 2) := by decide +kernel
theorem dX3_plan_57 : decode cX3_plan 57 = .ok (.imul, 1) := by decide +kernel
theorem dX3_plan_58 : decode cX3_plan 58 = .ok (.iload 4, 2) := by decide +kernel
theorem dX3_plan_60 : decode cX3_plan 60 = .ok (.iadd, 1) := by decide +kernel
theorem dX3_plan_61 : decode cX3_plan 61 = .ok (.iload 5, 2) := by decide +kernel
theorem dX3_plan_63 : decode cX3_plan 63 = .ok (.ifCond .ge 7, 3) := by decide +kernel
theorem dX3_plan_66 : decode cX3_plan 66 = .ok (.iconst 0, 1) := by decide +kernel
theorem dX3_plan_67 : decode cX3_plan 67 = .ok (.goto 13, 3) := by decide +kernel
theorem dX3_plan_70 : decode cX3_plan 70 = .ok (.aload_n 0, 1) := by decide +kernel
theorem dX3_plan_71 : decode cX3_plan 71 = .ok (.aload_n 1, 1) := by decide +kernel
theorem dX3_plan_72 : decode cX3_plan 72 = .ok (.iload_n 3, 1) := by decide +kernel
theorem dX3_plan_73 : decode cX3_plan 73 = .ok (.iload 4, 2) := by decide +kernel
theorem dX3_plan_75 : decode cX3_plan 75 = .ok (.iload 5, 2) := by decide +kernel
theorem dX3_plan_77 : decode cX3_plan 77 = .ok (.invokevirtual 37, 3) := by decide +kernel
theorem dX3_plan_80 : decode cX3_plan 80 = .ok (.iastore, 1) := by decide +kernel
theorem dX3_plan_81 : decode cX3_plan 81 = .ok (.iinc 4 1, 3) := by decide +kernel
theorem dX3_plan_84 : decode cX3_plan 84 = .ok (.goto (-61), 3) := by decide +kernel
theorem dX3_plan_87 : decode cX3_plan 87 = .ok (.iinc 3 (-1), 3) := by decide +kernel
theorem dX3_plan_90 : decode cX3_plan 90 = .ok (.goto (-74), 3) := by decide +kernel
theorem dX3_plan_93 : decode cX3_plan 93 = .ok (.aload_n 0, 1) := by decide +kernel
theorem dX3_plan_94 : decode cX3_plan 94 = .ok (.aload_n 1, 1) := by decide +kernel
theorem dX3_plan_95 : decode cX3_plan 95 = .ok (.iload_n 2, 1) := by decide +kernel
theorem dX3_plan_96 : decode cX3_plan 96 = .ok (.invokevirtual 40, 3) := by decide +kernel
theorem dX3_plan_99 : decode cX3_plan 99 = .ok (.return_, 1) := by decide +kernel
set_option maxRecDepth 20000 in
theorem ggX3_walk_X3_bestNext : GoodIn wsX3_walk wsX3_bestNext := goodIn_r _ [7, 8, 9, 10, 6, 11, 12, 13, 14, 15, 16, 17, 18, 19, 20, 21, 22, 23, 24, 25, 26, 27, 28, 29, 30, 31, 32, 33, 34, 35, 36, 37, 38, 39, 40, 41, 42, 43, 44, 45] (by decide +kernel) (by decide +kernel)
set_option maxRecDepth 20000 in
theorem gX3_walk_X3_bestNext : GoodIn wsX3_walk (wsV RX3 33 RX3 yX3_bestNext wsX3_bestNext) := goodIn_app (goodIn_of _ (by decide +kernel)) ggX3_walk_X3_bestNext
set_option maxRecDepth 20000 in
theorem ggX3_walk_X3_costVia : GoodIn wsX3_walk wsX3_costVia := goodIn_r _ [11, 12, 13, 14, 15, 16, 17, 18, 19, 20, 21, 22, 23, 24, 25, 26, 27, 28, 29, 30, 31, 32, 33, 34, 35, 36, 37, 38, 39, 40, 41, 42, 43, 44, 45] (by decide +kernel) (by decide +kernel)
set_option maxRecDepth 20000 in
theorem gX3_walk_X3_costVia : GoodIn wsX3_walk (wsV RX3 37 RX3 yX3_costVia wsX3_costVia) := goodIn_app (goodIn_of _ (by decide +kernel)) ggX3_walk_X3_costVia
theorem dX3_walk_0 : decode cX3_walk 0 = .ok (.iconst 0, 1) := by decide +kernel
theorem dX3_walk_1 : decode cX3_walk 1 = .ok (.istore_n 3, 1) := by decide +kernel
theorem dX3_walk_2 : decode cX3_walk 2 = .ok (.iconst (-1), 1) := by decide +kernel
theorem dX3_walk_3 : decode cX3_walk 3 = .ok (.istore 4, 2) := by decide +kernel
theorem dX3_walk_5 : decode cX3_walk 5 = .ok (.aload_n 0, 1) := by decide +kernel
theorem dX3_walk_6 : decode cX3_walk 6 = .ok (.iconst 0, 1) := by decide +kernel
theorem dX3_walk_7 : decode cX3_walk 7 = .ok (.putfield 9, 3) := by decide +kernel
theorem dX3_walk_10 : decode cX3_walk 10 = .ok (.iconst 0, 1) := by decide +kernel
theorem dX3_walk_11 : decode cX3_walk 11 = .ok (.istore 5, 2) := by decide +kernel
theorem dX3_walk_13 : decode cX3_walk 13 = .ok (.iload 5, 2) := by decide +kernel
theorem dX3_walk_15 : decode cX3_walk 15 = .ok (.iload_n 2, 1) := by decide +kernel
theorem dX3_walk_16 : decode cX3_walk 16 = .ok (.if_icmp .ge 65, 3) := by decide +kernel
theorem dX3_walk_19 : decode cX3_walk 19 = .ok (.aload_n 0, 1) := by decide +kernel
theorem dX3_walk_20 : decode cX3_walk 20 = .ok (.aload_n 1, 1) := by decide +kernel
theorem dX3_walk_21 : decode cX3_walk 21 = .ok (.iload_n 3, 1) := by decide +kernel
theorem dX3_walk_22 : decode cX3_walk 22 = .ok (.iload 4, 2) := by decide +kernel
theorem dX3_walk_24 : decode cX3_walk 24 = .ok (.iload_n 2, 1) := by decide +kernel
theorem dX3_walk_25 : decode cX3_walk 25 = .ok (.invokevirtual 33, 3) := by decide +kernel
theorem dX3_walk_28 : decode cX3_walk 28 = .ok (.istore 6, 2) := by decide +kernel
theorem dX3_walk_30 : decode cX3_walk 30 = .ok (.iload 6, 2) := by decide +kernel
theorem dX3_walk_32 : decode cX3_walk 32 = .ok (.ifCond .ge 4, 3) := by decide +kernel
theorem dX3_walk_35 : decode cX3_walk 35 = .ok (.return_, 1) := by decide +kernel
theorem dX3_walk_36 : decode cX3_walk 36 = .ok (.iload 5, 2) := by decide +kernel
theorem dX3_walk_38 : decode cX3_walk 38 = .ok (.ifCond .ne 17, 3) := by decide +kernel
theorem dX3_walk_41 : decode cX3_walk 41 = .ok (.aload_n 0, 1) := by decide +kernel
theorem dX3_walk_42 : decode cX3_walk 42 = .ok (.aload_n 0, 1) := by decide +kernel
theorem dX3_walk_43 : decode cX3_walk 43 = .ok (.aload_n 1, 1) := by decide +kernel
theorem dX3_walk_44 : decode cX3_walk 44 = .ok (.iload_n 3, 1) := by decide +kernel
theorem dX3_walk_45 : decode cX3_walk 45 = .ok (.iload 4, 2) := by decide +kernel
theorem dX3_walk_47 : decode cX3_walk 47 = .ok (.iload 6, 2) := by decide +kernel
theorem dX3_walk_49 : decode cX3_walk 49 = .ok (.invokevirtual 37, 3) := by decide +kernel
theorem dX3_walk_52 : decode cX3_walk 52 = .ok (.putfield 9, 3) := by decide +kernel
theorem dX3_walk_55 : decode cX3_walk 55 = .ok (.aload_n 0, 1) := by decide +kernel
theorem dX3_walk_56 : decode cX3_walk 56 = .ok (.getfield 15, 3) := by decide +kernel
theorem dX3_walk_59 : decode cX3_walk 59 = .ok (.iload 5, 2) := by decide +kernel
theorem dX3_walk_61 : decode cX3_walk 61 = .ok (.iload 6, 2) := by decide +kernel
theorem dX3_walk_63 : decode cX3_walk 63 = .ok (.iastore, 1) := by decide +kernel
theorem dX3_walk_64 : decode cX3_walk 64 = .ok (.iload_n 3, 1) := by decide +kernel
theorem dX3_walk_65 : decode cX3_walk 65 = .ok (.iconst 1, 1) := by decide +kernel
theorem dX3_walk_66 : decode cX3_walk 66 = .ok (.iload 6, 2) := by decide +kernel
theorem dX3_walk_68 : decode cX3_walk 68 = .ok (.ishl, 1) := by decide +kernel
theorem dX3_walk_69 : decode cX3_walk 69 = .ok (.ior, 1) := by decide +kernel
theorem dX3_walk_70 : decode cX3_walk 70 = .ok (.istore_n 3, 1) := by decide +kernel
theorem dX3_walk_71 : decode cX3_walk 71 = .ok (.iload 6, 2) := by decide +kernel
theorem dX3_walk_73 : decode cX3_walk 73 = .ok (.istore 4, 2) := by decide +kernel
theorem dX3_walk_75 : decode cX3_walk 75 = .ok (.iinc 5 1, 3) := by decide +kernel
theorem dX3_walk_78 : decode cX3_walk 78 = .ok (.goto (-65), 3) := by decide +kernel
theorem dX3_walk_81 : decode cX3_walk 81 = .ok (.return_, 1) := by decide +kernel
set_option maxRecDepth 20000 in
theorem ggX3_bestNext_X3_costVia : GoodIn wsX3_bestNext wsX3_costVia := goodIn_r _ [5, 6, 7, 8, 9, 10, 11, 12, 13, 14, 15, 16, 17, 18, 19, 20, 21, 22, 23, 24, 25, 26, 27, 28, 29, 30, 31, 32, 33, 34, 35, 36, 37, 38, 39] (by decide +kernel) (by decide +kernel)
set_option maxRecDepth 20000 in
theorem gX3_bestNext_X3_costVia : GoodIn wsX3_bestNext (wsV RX3 37 RX3 yX3_costVia wsX3_costVia) := goodIn_app (goodIn_of _ (by decide +kernel)) ggX3_bestNext_X3_costVia
theorem dX3_bestNext_0 : decode cX3_bestNext 0 = .ok (.iconst (-1), 1) := by decide +kernel
theorem dX3_bestNext_1 : decode cX3_bestNext 1 = .ok (.istore 5, 2) := by decide +kernel
theorem dX3_bestNext_3 : decode cX3_bestNext 3 = .ok (.iconst 0, 1) := by decide +kernel
theorem dX3_bestNext_4 : decode cX3_bestNext 4 = .ok (.istore 6, 2) := by decide +kernel
theorem dX3_bestNext_6 : decode cX3_bestNext 6 = .ok (.iconst 0, 1) := by decide +kernel
theorem dX3_bestNext_7 : decode cX3_bestNext 7 = .ok (.istore 7, 2) := by decide +kernel
theorem dX3_bestNext_9 : decode cX3_bestNext 9 = .ok (.iload 7, 2) := by decide +kernel
theorem dX3_bestNext_11 : decode cX3_bestNext 11 = .ok (.iload 4, 2) := by decide +kernel
theorem dX3_bestNext_13 : decode cX3_bestNext 13 = .ok (.if_icmp .ge 53, 3) := by decide +kernel
theorem dX3_bestNext_16 : decode cX3_bestNext 16 = .ok (.iload_n 2, 1) := by decide +kernel
theorem dX3_bestNext_17 : decode cX3_bestNext 17 = .ok (.iload 7, 2) := by decide +kernel
theorem dX3_bestNext_19 : decode cX3_bestNext 19 = .ok (.ishr, 1) := by decide +kernel
theorem dX3_bestNext_20 : decode cX3_bestNext 20 = .ok (.iconst 1, 1) := by decide +kernel
theorem dX3_bestNext_21 : decode cX3_bestNext 21 = .ok (.iand, 1) := by decide +kernel
theorem dX3_bestNext_22 : decode cX3_bestNext 22 = .ok (.iconst 1, 1) := by decide +kernel
theorem dX3_bestNext_23 : decode cX3_bestNext 23 = .ok (.if_icmp .ne 6, 3) := by decide +kernel
theorem dX3_bestNext_26 : decode cX3_bestNext 26 = .ok (.goto 34, 3) := by decide +kernel
theorem dX3_bestNext_29 : decode cX3_bestNext 29 = .ok (.aload_n 0, 1) := by decide +kernel
theorem dX3_bestNext_30 : decode cX3_bestNext 30 = .ok (.aload_n 1, 1) := by decide +kernel
theorem dX3_bestNext_31 : decode cX3_bestNext 31 = .ok (.iload_n 2, 1) := by decide +kernel
theorem dX3_bestNext_32 : decode cX3_bestNext 32 = .ok (.iload_n 3, 1) := by decide +kernel
theorem dX3_bestNext_33 : decode cX3_bestNext 33 = .ok (.iload 7, 2) := by decide +kernel
theorem dX3_bestNext_35 : decode cX3_bestNext 35 = .ok (.invokevirtual 37, 3) := by decide +kernel
theorem dX3_bestNext_38 : decode cX3_bestNext 38 = .ok (.istore 8, 2) := by decide +kernel
theorem dX3_bestNext_40 : decode cX3_bestNext 40 = .ok (.iload 5, 2) := by decide +kernel
theorem dX3_bestNext_42 : decode cX3_bestNext 42 = .ok (.ifCond .lt 10, 3) := by decide +kernel
theorem dX3_bestNext_45 : decode cX3_bestNext 45 = .ok (.iload 8, 2) := by decide +kernel
theorem dX3_bestNext_47 : decode cX3_bestNext 47 = .ok (.iload 6, 2) := by decide +kernel
theorem dX3_bestNext_49 : decode cX3_bestNext 49 = .ok (.if_icmp .ge 11, 3) := by decide +kernel
theorem dX3_bestNext_52 : decode cX3_bestNext 52 = .ok (.iload 7, 2) := by decide +kernel
theorem dX3_bestNext_54 : decode cX3_bestNext 54 = .ok (.istore 5, 2) := by decide +kernel
theorem dX3_bestNext_56 : decode cX3_bestNext 56 = .ok (.iload 8, 2) := by decide +kernel
theorem dX3_bestNext_58 : decode cX3_bestNext 58 = .ok (.istore 6, 2) := by decide +kernel
theorem dX3_bestNext_60 : decode cX3_bestNext 60 = .ok (.iinc 7 1, 3) := by decide +kernel
theorem dX3_bestNext_63 : decode cX3_bestNext 63 = .ok (.goto (-54), 3) := by decide +kernel
theorem dX3_bestNext_66 : decode cX3_bestNext 66 = .ok (.iload 5, 2) := by decide +kernel
theorem dX3_bestNext_68 : decode cX3_bestNext 68 = .ok (.ireturn, 1) := by decide +kernel
set_option maxRecDepth 20000 in
theorem ggX3_costVia_X6_changesBetween : GoodIn wsX3_costVia wsX6_changesBetween := goodIn_r _ [6, 7, 8, 9, 5, 10, 11, 12, 13, 14, 15, 16, 17, 18, 19, 20, 21, 22, 26, 27, 28, 29, 30, 31, 32, 33, 34] (by decide +kernel) (by decide +kernel)
set_option maxRecDepth 20000 in
theorem gX3_costVia_X6_changesBetween : GoodIn wsX3_costVia (wsV RX3 44 RX6 yX6_changesBetween wsX6_changesBetween) := goodIn_app (goodIn_of _ (by decide +kernel)) ggX3_costVia_X6_changesBetween
theorem dX3_costVia_0 : decode cX3_costVia 0 = .ok (.iload_n 3, 1) := by decide +kernel
theorem dX3_costVia_1 : decode cX3_costVia 1 = .ok (.ifCond .ge 7, 3) := by decide +kernel
theorem dX3_costVia_4 : decode cX3_costVia 4 = .ok (.iconst 0, 1) := by decide +kernel
theorem dX3_costVia_5 : decode cX3_costVia 5 = .ok (.goto 10, 3) := by decide +kernel
theorem dX3_costVia_8 : decode cX3_costVia 8 = .ok (.aload_n 1, 1) := by decide +kernel
theorem dX3_costVia_9 : decode cX3_costVia 9 = .ok (.iload_n 3, 1) := by decide +kernel
theorem dX3_costVia_10 : decode cX3_costVia 10 = .ok (.iload 4, 2) := by decide +kernel
theorem dX3_costVia_12 : decode cX3_costVia 12 = .ok (.invokevirtual 44, 3) := by decide +kernel
theorem dX3_costVia_15 : decode cX3_costVia 15 = .ok (.istore 5, 2) := by decide +kernel
theorem dX3_costVia_17 : decode cX3_costVia 17 = .ok (.iload 5, 2) := by decide +kernel
theorem dX3_costVia_19 : decode cX3_costVia 19 = .ok (.aload_n 0, 1) := by decide +kernel
theorem dX3_costVia_20 : decode cX3_costVia 20 = .ok (.getfield 19, 3) := by decide +kernel
theorem dX3_costVia_23 : decode cX3_costVia 23 = .ok (.iload_n 2, 1) := by decide +kernel
theorem dX3_costVia_24 : decode cX3_costVia 24 = .ok (.iconst 1, 1) := by decide +kernel
theorem dX3_costVia_25 : decode cX3_costVia 25 = .ok (.iload 4, 2) := by decide +kernel
theorem dX3_costVia_27 : decode cX3_costVia 27 = .ok (.ishl, 1) := by decide +kernel
theorem dX3_costVia_28 : decode cX3_costVia 28 = .ok (.ior, 1) := by decide +kernel
theorem dX3_costVia_29 : decode cX3_costVia 29 = .ok (.bipush 6, 2) := by decide +kernel
theorem dX3_costVia_31 : decode cX3_costVia 31 = .ok (.imul, 1) := by decide +kernel
theorem dX3_costVia_32 : decode cX3_costVia 32 = .ok (.iload 4, 2) := by decide +kernel
theorem dX3_costVia_34 : decode cX3_costVia 34 = .ok (.iadd, 1) := by decide +kernel
theorem dX3_costVia_35 : decode cX3_costVia 35 = .ok (.iaload, 1) := by decide +kernel
theorem dX3_costVia_36 : decode cX3_costVia 36 = .ok (.iadd, 1) := by decide +kernel
theorem dX3_costVia_37 : decode cX3_costVia 37 = .ok (.ireturn, 1) := by decide +kernel
set_option maxRecDepth 20000 in
theorem ggX4_init_X7_init : GoodIn wsX4_init wsX7_init := goodIn_r _ [17, 18, 2, 3, 19, 20, 21, 36, 37] (by decide +kernel) (by decide +kernel)
set_option maxRecDepth 20000 in
theorem gX4_init_X7_init_n11 : GoodIn wsX4_init (wsX7_init) := ggX4_init_X7_init
set_option maxRecDepth 20000 in
theorem ggX4_init_X6_init : GoodIn wsX4_init wsX6_init := goodIn_r _ [24, 25, 2, 3, 26, 20, 27, 28, 29, 30, 31, 32, 33, 34, 35, 44, 45, 46, 47, 48, 49, 50, 51, 52] (by decide +kernel) (by decide +kernel)
set_option maxRecDepth 20000 in
theorem gX4_init_X6_init : GoodIn wsX4_init (wsX6_init) := ggX4_init_X6_init
theorem dX4_init_0 : decode cX4_init 0 = .ok (.aload_n 0, 1) := by decide +kernel
theorem dX4_init_1 : decode cX4_init 1 = .ok (.invokespecial 3, 3) := by decide +kernel
theorem dX4_init_4 : decode cX4_init 4 = .ok (.aload_n 0, 1) := by decide +kernel
theorem dX4_init_5 : decode cX4_init 5 = .ok (.new 9, 3) := by decide +kernel
theorem dX4_init_8 : decode cX4_init 8 = .ok (.dup, 1) := by decide +kernel
theorem dX4_init_9 : decode cX4_init 9 = .ok (.invokespecial 11, 3) := by decide +kernel
theorem dX4_init_12 : decode cX4_init 12 = .ok (.putfield 12, 3) := by decide +kernel
theorem dX4_init_15 : decode cX4_init 15 = .ok (.aload_n 0, 1) := by decide +kernel
theorem dX4_init_16 : decode cX4_init 16 = .ok (.new 18, 3) := by decide +kernel
theorem dX4_init_19 : decode cX4_init 19 = .ok (.dup, 1) := by decide +kernel
theorem dX4_init_20 : decode cX4_init 20 = .ok (.invokespecial 20, 3) := by decide +kernel
theorem dX4_init_23 : decode cX4_init 23 = .ok (.putfield 21, 3) := by decide +kernel
theorem dX4_init_26 : decode cX4_init 26 = .ok (.aload_n 0, 1) := by decide +kernel
theorem dX4_init_27 : decode cX4_init 27 = .ok (.iconst 0, 1) := by decide +kernel
theorem dX4_init_28 : decode cX4_init 28 = .ok (.putfield 25, 3) := by decide +kernel
theorem dX4_init_31 : decode cX4_init 31 = .ok (.aload_n 0, 1) := by decide +kernel
theorem dX4_init_32 : decode cX4_init 32 = .ok (.iconst 0, 1) := by decide +kernel
theorem dX4_init_33 : decode cX4_init 33 = .ok (.putfield 29, 3) := by decide +kernel
theorem dX4_init_36 : decode cX4_init 36 = .ok (.aload_n 0, 1) := by decide +kernel
theorem dX4_init_37 : decode cX4_init 37 = .ok (.iconst 0, 1) := by decide +kernel
theorem dX4_init_38 : decode cX4_init 38 = .ok (.putfield 32, 3) := by decide +kernel
theorem dX4_init_41 : decode cX4_init 41 = .ok (.aload_n 0, 1) := by decide +kernel
theorem dX4_init_42 : decode cX4_init 42 = .ok (.lconst 0, 1) := by decide +kernel
theorem dX4_init_43 : decode cX4_init 43 = .ok (.putfield 35, 3) := by decide +kernel
theorem dX4_init_46 : decode cX4_init 46 = .ok (.return_, 1) := by decide +kernel
set_option maxRecDepth 20000 in
theorem ggX4_perform_X4_advance : GoodIn wsX4_perform wsX4_advance := goodIn_r _ [8, 1, 2, 9, 3, 10, 11, 7, 12, 171, 172, 173, 174, 175, 176, 177, 178] (by decide +kernel) (by decide +kernel)
set_option maxRecDepth 20000 in
theorem gX4_perform_X4_advance : GoodIn wsX4_perform (wsV RX4 39 RX4 yX4_advance wsX4_advance) := goodIn_app (goodIn_of _ (by decide +kernel)) ggX4_perform_X4_advance
set_option maxRecDepth 20000 in
theorem ggX4_perform_X4_item : GoodIn wsX4_perform wsX4_item := goodIn_r _ [16, 17, 18, 19, 20, 7, 21, 22, 23, 24, 25, 3, 1, 2, 9, 26, 27, 28, 29, 30, 31, 32, 33, 34, 35, 36, 37, 38, 39, 40, 41, 42, 43, 44, 45, 46, 47, 48, 49, 50, 51, 52, 53, 54, 55, 56, 57, 58, 59, 60, 61, 62, 63, 64, 65, 66, 67, 68, 69, 70, 71, 72, 73, 74, 75, 76, 77, 78, 79, 80, 81, 82, 83, 84, 85, 4, 5, 6, 8, 10, 11, 12, 86, 87, 88, 89, 90, 91, 92, 93, 94, 95, 96, 97, 98, 99, 100, 101, 102, 103, 104, 105, 106, 107, 108, 109, 110, 111, 112, 113, 114, 115, 116, 117, 118, 119, 120, 121, 122, 123, 124, 125, 126, 127, 128, 129, 130, 131, 132, 133, 134, 135, 136, 137, 138, 139, 140, 141, 142, 143, 144, 145, 146, 147, 148, 149, 150, 151, 152, 153, 154, 155, 156, 157, 158, 159, 160, 161, 162, 163, 164, 165, 166, 167, 168, 169, 170, 171, 172, 173, 174, 175, 176, 177, 178, 179, 180, 181, 182, 183, 184, 185, 186, 187] (by decide +kernel) (by decide +kernel)
set_option maxRecDepth 20000 in
theorem gX4_perform_X4_item : GoodIn wsX4_perform (wsV RX4 42 RX4 yX4_item wsX4_item) := goodIn_app (goodIn_of _ (by decide +kernel)) ggX4_perform_X4_item
theorem dX4_perform_0 : decode cX4_perform 0 = .ok (.aload_n 0, 1) := by decide +kernel
theorem dX4_perform_1 : decode cX4_perform 1 = .ok (.iconst 0, 1) := by decide +kernel
theorem dX4_perform_2 : decode cX4_perform 2 = .ok (.putfield 32, 3) := by decide +kernel
theorem dX4_perform_5 : decode cX4_perform 5 = .ok (.aload_n 0, 1) := by decide +kernel
theorem dX4_perform_6 : decode cX4_perform 6 = .ok (.invokevirtual 39, 3) := by decide +kernel
theorem dX4_perform_9 : decode cX4_perform 9 = .ok (.iconst 1, 1) := by decide +kernel
theorem dX4_perform_10 : decode cX4_perform 10 = .ok (.istore_n 1, 1) := by decide +kernel
theorem dX4_perform_11 : decode cX4_perform 11 = .ok (.iload_n 1, 1) := by decide +kernel
theorem dX4_perform_12 : decode cX4_perform 12 = .ok (.bipush 120, 2) := by decide +kernel
theorem dX4_perform_14 : decode cX4_perform 14 = .ok (.if_icmp .gt 51, 3) := by decide +kernel
theorem dX4_perform_17 : decode cX4_perform 17 = .ok (.aload_n 0, 1) := by decide +kernel
theorem dX4_perform_18 : decode cX4_perform 18 = .ok (.invokevirtual 42, 3) := by decide +kernel
theorem dX4_perform_21 : decode cX4_perform 21 = .ok (.ifCond .ne 10, 3) := by decide +kernel
theorem dX4_perform_24 : decode cX4_perform 24 = .ok (.iconst (-1), 1) := by decide +kernel
theorem dX4_perform_25 : decode cX4_perform 25 = .ok (.aload_n 0, 1) := by decide +kernel
theorem dX4_perform_26 : decode cX4_perform 26 = .ok (.getfield 29, 3) := by decide +kernel
theorem dX4_perform_29 : decode cX4_perform 29 = .ok (.isub, 1) := by decide +kernel
theorem dX4_perform_30 : decode cX4_perform 30 = .ok (.ireturn, 1) := by decide +kernel
theorem dX4_perform_31 : decode cX4_perform 31 = .ok (.aload_n 0, 1) := by decide +kernel
theorem dX4_perform_32 : decode cX4_perform 32 = .ok (.getfield 25, 3) := by decide +kernel
theorem dX4_perform_35 : decode cX4_perform 35 = .ok (.ifCond .ne 5, 3) := by decide +kernel
theorem dX4_perform_38 : decode cX4_perform 38 = .ok (.iload_n 1, 1) := by decide +kernel
theorem dX4_perform_39 : decode cX4_perform 39 = .ok (.ireturn, 1) := by decide +kernel
theorem dX4_perform_40 : decode cX4_perform 40 = .ok (.aload_n 0, 1) := by decide +kernel
theorem dX4_perform_41 : decode cX4_perform 41 = .ok (.getfield 25, 3) := by decide +kernel
theorem dX4_perform_44 : decode cX4_perform 44 = .ok (.iconst 4, 1) := by decide +kernel
theorem dX4_perform_45 : decode cX4_perform 45 = .ok (.if_icmp .eq 10, 3) := by decide +kernel
theorem dX4_perform_48 : decode cX4_perform 48 = .ok (.iconst (-1), 1) := by decide +kernel
theorem dX4_perform_49 : decode cX4_perform 49 = .ok (.aload_n 0, 1) := by decide +kernel
theorem dX4_perform_50 : decode cX4_perform 50 = .ok (.getfield 29, 3) := by decide +kernel
theorem dX4_perform_53 : decode cX4_perform 53 = .ok (.isub, 1) := by decide +kernel
theorem dX4_perform_54 : decode cX4_perform 54 = .ok (.ireturn, 1) := by decide +kernel
theorem dX4_perform_55 : decode cX4_perform 55 = .ok (.aload_n 0, 1) := by decide +kernel
theorem dX4_perform_56 : decode cX4_perform 56 = .ok (.invokevirtual 39, 3) := by decide +kernel
theorem dX4_perform_59 : decode cX4_perform 59 = .ok (.iinc 1 1, 3) := by decide +kernel
theorem dX4_perform_62 : decode cX4_perform 62 = .ok (.goto (-51), 3) := by decide +kernel
theorem dX4_perform_65 : decode cX4_perform 65 = .ok (.iconst (-1), 1) := by decide +kernel
theorem dX4_perform_66 : decode cX4_perform 66 = .ok (.aload_n 0, 1) := by decide +kernel
theorem dX4_perform_67 : decode cX4_perform 67 = .ok (.getfield 29, 3) := by decide +kernel
theorem dX4_perform_70 : decode cX4_perform 70 = .ok (.isub, 1) := by decide +kernel
theorem dX4_perform_71 : decode cX4_perform 71 = .ok (.ireturn, 1) := by decide +kernel
set_option maxRecDepth 20000 in
theorem ggX4_advance_X4_sortOf : GoodIn wsX4_advance wsX4_sortOf := goodIn_r _ [8] (by decide +kernel) (by decide +kernel)
set_option maxRecDepth 20000 in
theorem gX4_advance_X4_sortOf : GoodIn wsX4_advance (va_wsS RX4 53 yX4_sortOf wsX4_sortOf) := goodIn_app (goodIn_of _ (by decide +kernel)) ggX4_advance_X4_sortOf
theorem dX4_advance_0 : decode cX4_advance 0 = .ok (.aload_n 0, 1) := by decide +kernel
theorem dX4_advance_1 : decode cX4_advance 1 = .ok (.aload_n 0, 1) := by decide +kernel
theorem dX4_advance_2 : decode cX4_advance 2 = .ok (.getfield 32, 3) := by decide +kernel
theorem dX4_advance_5 : decode cX4_advance 5 = .ok (.putfield 29, 3) := by decide +kernel
theorem dX4_advance_8 : decode cX4_advance 8 = .ok (.aload_n 0, 1) := by decide +kernel
theorem dX4_advance_9 : decode cX4_advance 9 = .ok (.getfield 29, 3) := by decide +kernel
theorem dX4_advance_12 : decode cX4_advance 12 = .ok (.aload_n 0, 1) := by decide +kernel
theorem dX4_advance_13 : decode cX4_advance 13 = .ok (.getfield 12, 3) := by decide +kernel
theorem dX4_advance_16 : decode cX4_advance 16 = .ok (.getfield 46, 3) := by decide +kernel
theorem dX4_advance_19 : decode cX4_advance 19 = .ok (.if_icmp .ge 35, 3) := by decide +kernel
theorem dX4_advance_22 : decode cX4_advance 22 = .ok (.aload_n 0, 1) := by decide +kernel
theorem dX4_advance_23 : decode cX4_advance 23 = .ok (.getfield 12, 3) := by decide +kernel
theorem dX4_advance_26 : decode cX4_advance 26 = .ok (.getfield 49, 3) := by decide +kernel
theorem dX4_advance_29 : decode cX4_advance 29 = .ok (.aload_n 0, 1) := by decide +kernel
theorem dX4_advance_30 : decode cX4_advance 30 = .ok (.getfield 29, 3) := by decide +kernel
theorem dX4_advance_33 : decode cX4_advance 33 = .ok (.iaload, 1) := by decide +kernel
theorem dX4_advance_34 : decode cX4_advance 34 = .ok (.invokestatic 53, 3) := by decide +kernel
theorem dX4_advance_37 : decode cX4_advance 37 = .ok (.iconst 5, 1) := by decide +kernel
theorem dX4_advance_38 : decode cX4_advance 38 = .ok (.if_icmp .ne 16, 3) := by decide +kernel
theorem dX4_advance_41 : decode cX4_advance 41 = .ok (.aload_n 0, 1) := by decide +kernel
theorem dX4_advance_42 : decode cX4_advance 42 = .ok (.dup, 1) := by decide +kernel
theorem dX4_advance_43 : decode cX4_advance 43 = .ok (.getfield 29, 3) := by decide +kernel
theorem dX4_advance_46 : decode cX4_advance 46 = .ok (.iconst 1, 1) := by decide +kernel
theorem dX4_advance_47 : decode cX4_advance 47 = .ok (.iadd, 1) := by decide +kernel
theorem dX4_advance_48 : decode cX4_advance 48 = .ok (.putfield 29, 3) := by decide +kernel
theorem dX4_advance_51 : decode cX4_advance 51 = .ok (.goto (-43), 3) := by decide +kernel
theorem dX4_advance_54 : decode cX4_advance 54 = .ok (.aload_n 0, 1) := by decide +kernel
theorem dX4_advance_55 : decode cX4_advance 55 = .ok (.aload_n 0, 1) := by decide +kernel
theorem dX4_advance_56 : decode cX4_advance 56 = .ok (.getfield 29, 3) := by decide +kernel
theorem dX4_advance_59 : decode cX4_advance 59 = .ok (.putfield 32, 3) := by decide +kernel
theorem dX4_advance_62 : decode cX4_advance 62 = .ok (.aload_n 0, 1) := by decide +kernel
theorem dX4_advance_63 : decode cX4_advance 63 = .ok (.getfield 29, 3) := by decide +kernel
theorem dX4_advance_66 : decode cX4_advance 66 = .ok (.aload_n 0, 1) := by decide +kernel
theorem dX4_advance_67 : decode cX4_advance 67 = .ok (.getfield 12, 3) := by decide +kernel
theorem dX4_advance_70 : decode cX4_advance 70 = .ok (.getfield 46, 3) := by decide +kernel
theorem dX4_advance_73 : decode cX4_advance 73 = .ok (.if_icmp .lt 9, 3) := by decide +kernel
theorem dX4_advance_76 : decode cX4_advance 76 = .ok (.aload_n 0, 1) := by decide +kernel
theorem dX4_advance_77 : decode cX4_advance 77 = .ok (.iconst 0, 1) := by decide +kernel
theorem dX4_advance_78 : decode cX4_advance 78 = .ok (.putfield 25, 3) := by decide +kernel
theorem dX4_advance_81 : decode cX4_advance 81 = .ok (.return_, 1) := by decide +kernel
theorem dX4_advance_82 : decode cX4_advance 82 = .ok (.aload_n 0, 1) := by decide +kernel
theorem dX4_advance_83 : decode cX4_advance 83 = .ok (.aload_n 0, 1) := by decide +kernel
theorem dX4_advance_84 : decode cX4_advance 84 = .ok (.getfield 12, 3) := by decide +kernel
theorem dX4_advance_87 : decode cX4_advance 87 = .ok (.getfield 49, 3) := by decide +kernel
theorem dX4_advance_90 : decode cX4_advance 90 = .ok (.aload_n 0, 1) := by decide +kernel
theorem dX4_advance_91 : decode cX4_advance 91 = .ok (.getfield 29, 3) := by decide +kernel
theorem dX4_advance_94 : decode cX4_advance 94 = .ok (.iaload, 1) := by decide +kernel
theorem dX4_advance_95 : decode cX4_advance 95 = .ok (.invokestatic 53, 3) := by decide +kernel
theorem dX4_advance_98 : decode cX4_advance 98 = .ok (.putfield 25, 3) := by decide +kernel
theorem dX4_advance_101 : decode cX4_advance 101 = .ok (.aload_n 0, 1) := by decide +kernel
theorem dX4_advance_102 : decode cX4_advance 102 = .ok (.dup, 1) := by decide +kernel
theorem dX4_advance_103 : decode cX4_advance 103 = .ok (.getfield 32, 3) := by decide +kernel
theorem dX4_advance_106 : decode cX4_advance 106 = .ok (.iconst 1, 1) := by decide +kernel
theorem dX4_advance_107 : decode cX4_advance 107 = .ok (.iadd, 1) := by decide +kernel
theorem dX4_advance_108 : decode cX4_advance 108 = .ok (.putfield 32, 3) := by decide +kernel
theorem dX4_advance_111 : decode cX4_advance 111 = .ok (.aload_n 0, 1) := by decide +kernel
theorem dX4_advance_112 : decode cX4_advance 112 = .ok (.getfield 25, 3) := by decide +kernel
theorem dX4_advance_115 : decode cX4_advance 115 = .ok (.iconst 4, 1) := by decide +kernel
theorem dX4_advance_116 : decode cX4_advance 116 = .ok (.if_icmp .eq 12, 3) := by decide +kernel
theorem dX4_advance_119 : decode cX4_advance 119 = .ok (.aload_n 0, 1) := by decide +kernel
theorem dX4_advance_120 : decode cX4_advance 120 = .ok (.getfield 25, 3) := by decide +kernel
theorem dX4_advance_123 : decode cX4_advance 123 = .ok (.bipush 6, 2) := by decide +kernel
theorem dX4_advance_125 : decode cX4_advance 125 = .ok (.if_icmp .ne 4, 3) := by decide +kernel
theorem dX4_advance_128 : decode cX4_advance 128 = .ok (.return_, 1) := by decide +kernel
theorem dX4_advance_129 : decode cX4_advance 129 = .ok (.aload_n 0, 1) := by decide +kernel
theorem dX4_advance_130 : decode cX4_advance 130 = .ok (.getfield 32, 3) := by decide +kernel
theorem dX4_advance_133 : decode cX4_advance 133 = .ok (.aload_n 0, 1) := by decide +kernel
theorem dX4_advance_134 : decode cX4_advance 134 = .ok (.getfield 12, 3) := by decide +kernel
theorem dX4_advance_137 : decode cX4_advance 137 = .ok (.getfield 46, 3) := by decide +kernel
theorem dX4_advance_140 : decode cX4_advance 140 = .ok (.if_icmp .ge 38, 3) := by decide +kernel
theorem dX4_advance_143 : decode cX4_advance 143 = .ok (.aload_n 0, 1) := by decide +kernel
theorem dX4_advance_144 : decode cX4_advance 144 = .ok (.getfield 12, 3) := by decide +kernel
theorem dX4_advance_147 : decode cX4_advance 147 = .ok (.getfield 49, 3) := by decide +kernel
theorem dX4_advance_150 : decode cX4_advance 150 = .ok (.aload_n 0, 1) := by decide +kernel
theorem dX4_advance_151 : decode cX4_advance 151 = .ok (.getfield 32, 3) := by decide +kernel
theorem dX4_advance_154 : decode cX4_advance 154 = .ok (.iaload, 1) := by decide +kernel
theorem dX4_advance_155 : decode cX4_advance 155 = .ok (.invokestatic 53, 3) := by decide +kernel
theorem dX4_advance_158 : decode cX4_advance 158 = .ok (.aload_n 0, 1) := by decide +kernel
theorem dX4_advance_159 : decode cX4_advance 159 = .ok (.getfield 25, 3) := by decide +kernel
theorem dX4_advance_162 : decode cX4_advance 162 = .ok (.if_icmp .ne 16, 3) := by decide +kernel
theorem dX4_advance_165 : decode cX4_advance 165 = .ok (.aload_n 0, 1) := by decide +kernel
theorem dX4_advance_166 : decode cX4_advance 166 = .ok (.dup, 1) := by decide +kernel
theorem dX4_advance_167 : decode cX4_advance 167 = .ok (.getfield 32, 3) := by decide +kernel
theorem dX4_advance_170 : decode cX4_advance 170 = .ok (.iconst 1, 1) := by decide +kernel
theorem dX4_advance_171 : decode cX4_advance 171 = .ok (.iadd, 1) := by decide +kernel
theorem dX4_advance_172 : decode cX4_advance 172 = .ok (.putfield 32, 3) := by decide +kernel
theorem dX4_advance_175 : decode cX4_advance 175 = .ok (.goto (-46), 3) := by decide +kernel
theorem dX4_advance_178 : decode cX4_advance 178 = .ok (.return_, 1) := by decide +kernel
theorem dX4_sortOf_0 : decode cX4_sortOf 0 = .ok (.iload_n 0, 1) := by decide +kernel
theorem dX4_sortOf_1 : decode cX4_sortOf 1 = .ok (.bipush 97, 2) := by decide +kernel
theorem dX4_sortOf_3 : decode cX4_sortOf 3 = .ok (.if_icmp .lt 11, 3) := by decide +kernel
theorem dX4_sortOf_6 : decode cX4_sortOf 6 = .ok (.iload_n 0, 1) := by decide +kernel
theorem dX4_sortOf_7 : decode cX4_sortOf 7 = .ok (.bipush 122, 2) := by decide +kernel
theorem dX4_sortOf_9 : decode cX4_sortOf 9 = .ok (.if_icmp .gt 5, 3) := by decide +kernel
theorem dX4_sortOf_12 : decode cX4_sortOf 12 = .ok (.iconst 1, 1) := by decide +kernel
theorem dX4_sortOf_13 : decode cX4_sortOf 13 = .ok (.ireturn, 1) := by decide +kernel
theorem dX4_sortOf_14 : decode cX4_sortOf 14 = .ok (.iload_n 0, 1) := by decide +kernel
theorem dX4_sortOf_15 : decode cX4_sortOf 15 = .ok (.bipush 48, 2) := by decide +kernel
theorem dX4_sortOf_17 : decode cX4_sortOf 17 = .ok (.if_icmp .lt 11, 3) := by decide +kernel
theorem dX4_sortOf_20 : decode cX4_sortOf 20 = .ok (.iload_n 0, 1) := by decide +kernel
theorem dX4_sortOf_21 : decode cX4_sortOf 21 = .ok (.bipush 57, 2) := by decide +kernel
theorem dX4_sortOf_23 : decode cX4_sortOf 23 = .ok (.if_icmp .gt 5, 3) := by decide +kernel
theorem dX4_sortOf_26 : decode cX4_sortOf 26 = .ok (.iconst 2, 1) := by decide +kernel
theorem dX4_sortOf_27 : decode cX4_sortOf 27 = .ok (.ireturn, 1) := by decide +kernel
theorem dX4_sortOf_28 : decode cX4_sortOf 28 = .ok (.iload_n 0, 1) := by decide +kernel
theorem dX4_sortOf_29 : decode cX4_sortOf 29 = .ok (.lookupswitch 49 #[(32, 47), (35, 43), (46, 43), (59, 45)], 43) := by decide +kernel
theorem dX4_sortOf_72 : decode cX4_sortOf 72 = .ok (.iconst 3, 1) := by decide +kernel
theorem dX4_sortOf_73 : decode cX4_sortOf 73 = .ok (.ireturn, 1) := by decide +kernel
theorem dX4_sortOf_74 : decode cX4_sortOf 74 = .ok (.iconst 4, 1) := by decide +kernel
theorem dX4_sortOf_75 : decode cX4_sortOf 75 = .ok (.ireturn, 1) := by decide +kernel
theorem dX4_sortOf_76 : decode cX4_sortOf 76 = .ok (.iconst 5, 1) := by decide +kernel
theorem dX4_sortOf_77 : decode cX4_sortOf 77 = .ok (.ireturn, 1) := by decide +kernel
theorem dX4_sortOf_78 : decode cX4_sortOf 78 = .ok (.bipush 6, 2) := by decide +kernel
theorem dX4_sortOf_80 : decode cX4_sortOf 80 = .ok (.ireturn, 1) := by decide +kernel
set_option maxRecDepth 20000 in
theorem ggX4_isWord_J0_length_8abf5 : GoodIn wsX4_isWord wsJ0_length_8abf5 := goodIn_r _ [9, 10, 11, 12, 13, 8, 14, 15, 16] (by decide +kernel) (by decide +kernel)
set_option maxRecDepth 20000 in
theorem gX4_isWord_J0_length_8abf5 : GoodIn wsX4_isWord (wsV RX4 57 RJ0 yJ0_length_8abf5 wsJ0_length_8abf5) := goodIn_app (goodIn_of _ (by decide +kernel)) ggX4_isWord_J0_length_8abf5
set_option maxRecDepth 20000 in
theorem ggX4_isWord_J0_charAt_5068e : GoodIn wsX4_isWord wsJ0_charAt_5068e := goodIn_r _ [20, 10, 21, 22, 23, 8, 24, 15, 16, 25, 26, 27, 28, 29, 30, 31, 32, 33, 34, 35, 36, 37, 38, 39, 40, 41, 42, 43, 44, 45, 46, 47, 48, 49, 50, 51, 52, 53] (by decide +kernel) (by decide +kernel)
set_option maxRecDepth 20000 in
theorem gX4_isWord_J0_charAt_5068e : GoodIn wsX4_isWord (wsV RX4 63 RJ0 yJ0_charAt_5068e wsJ0_charAt_5068e) := goodIn_app (goodIn_of _ (by decide +kernel)) ggX4_isWord_J0_charAt_5068e
theorem dX4_isWord_0 : decode cX4_isWord 0 = .ok (.aload_n 0, 1) := by decide +kernel
theorem dX4_isWord_1 : decode cX4_isWord 1 = .ok (.getfield 25, 3) := by decide +kernel
theorem dX4_isWord_4 : decode cX4_isWord 4 = .ok (.iconst 1, 1) := by decide +kernel
theorem dX4_isWord_5 : decode cX4_isWord 5 = .ok (.if_icmp .ne 19, 3) := by decide +kernel
theorem dX4_isWord_8 : decode cX4_isWord 8 = .ok (.aload_n 0, 1) := by decide +kernel
theorem dX4_isWord_9 : decode cX4_isWord 9 = .ok (.getfield 32, 3) := by decide +kernel
theorem dX4_isWord_12 : decode cX4_isWord 12 = .ok (.aload_n 0, 1) := by decide +kernel
theorem dX4_isWord_13 : decode cX4_isWord 13 = .ok (.getfield 29, 3) := by decide +kernel
theorem dX4_isWord_16 : decode cX4_isWord 16 = .ok (.isub, 1) := by decide +kernel
theorem dX4_isWord_17 : decode cX4_isWord 17 = .ok (.aload_n 1, 1) := by decide +kernel
theorem dX4_isWord_18 : decode cX4_isWord 18 = .ok (.invokevirtual 57, 3) := by decide +kernel
theorem dX4_isWord_21 : decode cX4_isWord 21 = .ok (.if_icmp .eq 5, 3) := by decide +kernel
theorem dX4_isWord_24 : decode cX4_isWord 24 = .ok (.iconst 0, 1) := by decide +kernel
theorem dX4_isWord_25 : decode cX4_isWord 25 = .ok (.ireturn, 1) := by decide +kernel
theorem dX4_isWord_26 : decode cX4_isWord 26 = .ok (.iconst 0, 1) := by decide +kernel
theorem dX4_isWord_27 : decode cX4_isWord 27 = .ok (.istore_n 2, 1) := by decide +kernel
theorem dX4_isWord_28 : decode cX4_isWord 28 = .ok (.iload_n 2, 1) := by decide +kernel
theorem dX4_isWord_29 : decode cX4_isWord 29 = .ok (.aload_n 1, 1) := by decide +kernel
theorem dX4_isWord_30 : decode cX4_isWord 30 = .ok (.invokevirtual 57, 3) := by decide +kernel
theorem dX4_isWord_33 : decode cX4_isWord 33 = .ok (.if_icmp .ge 33, 3) := by decide +kernel
theorem dX4_isWord_36 : decode cX4_isWord 36 = .ok (.aload_n 0, 1) := by decide +kernel
theorem dX4_isWord_37 : decode cX4_isWord 37 = .ok (.getfield 12, 3) := by decide +kernel
theorem dX4_isWord_40 : decode cX4_isWord 40 = .ok (.getfield 49, 3) := by decide +kernel
theorem dX4_isWord_43 : decode cX4_isWord 43 = .ok (.aload_n 0, 1) := by decide +kernel
theorem dX4_isWord_44 : decode cX4_isWord 44 = .ok (.getfield 29, 3) := by decide +kernel
theorem dX4_isWord_47 : decode cX4_isWord 47 = .ok (.iload_n 2, 1) := by decide +kernel
theorem dX4_isWord_48 : decode cX4_isWord 48 = .ok (.iadd, 1) := by decide +kernel
theorem dX4_isWord_49 : decode cX4_isWord 49 = .ok (.iaload, 1) := by decide +kernel
theorem dX4_isWord_50 : decode cX4_isWord 50 = .ok (.aload_n 1, 1) := by decide +kernel
theorem dX4_isWord_51 : decode cX4_isWord 51 = .ok (.iload_n 2, 1) := by decide +kernel
theorem dX4_isWord_52 : decode cX4_isWord 52 = .ok (.invokevirtual 63, 3) := by decide +kernel
theorem dX4_isWord_55 : decode cX4_isWord 55 = .ok (.if_icmp .eq 5, 3) := by decide +kernel
theorem dX4_isWord_58 : decode cX4_isWord 58 = .ok (.iconst 0, 1) := by decide +kernel
theorem dX4_isWord_59 : decode cX4_isWord 59 = .ok (.ireturn, 1) := by decide +kernel
theorem dX4_isWord_60 : decode cX4_isWord 60 = .ok (.iinc 2 1, 3) := by decide +kernel
theorem dX4_isWord_63 : decode cX4_isWord 63 = .ok (.goto (-35), 3) := by decide +kernel
theorem dX4_isWord_66 : decode cX4_isWord 66 = .ok (.iconst 1, 1) := by decide +kernel
theorem dX4_isWord_67 : decode cX4_isWord 67 = .ok (.ireturn, 1) := by decide +kernel
set_option maxRecDepth 20000 in
theorem ggX4_item_X4_kindNamed : GoodIn wsX4_item wsX4_kindNamed := goodIn_r _ [6, 7, 8, 9, 5, 10, 11, 12, 13, 14, 15, 16, 17, 18, 19, 20, 21, 22, 23, 24, 25, 26, 27, 28, 29, 30, 31, 32, 33, 34, 35, 36, 37, 38, 39, 40, 41, 42, 43, 44, 45, 46, 47, 48, 49, 50, 51, 52, 53, 54, 55, 56, 57, 58, 59, 60, 61, 62, 63, 167, 168, 169, 170, 171, 172, 173, 174] (by decide +kernel) (by decide +kernel)
set_option maxRecDepth 20000 in
theorem gX4_item_X4_kindNamed : GoodIn wsX4_item (wsV RX4 67 RX4 yX4_kindNamed wsX4_kindNamed) := goodIn_app (goodIn_of _ (by decide +kernel)) ggX4_item_X4_kindNamed
set_option maxRecDepth 20000 in
theorem ggX4_item_X4_shapeItem : GoodIn wsX4_item wsX4_shapeItem := goodIn_r _ [67, 1, 68, 69, 70, 71, 72, 73, 74, 75, 76, 77, 5, 78, 12, 13, 14, 11, 79, 80, 81, 82, 83, 84, 85, 86, 87, 88, 89, 90, 91, 167, 168, 169, 170, 171, 172, 175, 176, 177, 178, 179, 180, 181, 182, 183, 173, 174] (by decide +kernel) (by decide +kernel)
set_option maxRecDepth 20000 in
theorem gX4_item_X4_shapeItem : GoodIn wsX4_item (wsV RX4 70 RX4 yX4_shapeItem wsX4_shapeItem) := goodIn_app (goodIn_of _ (by decide +kernel)) ggX4_item_X4_shapeItem
set_option maxRecDepth 20000 in
theorem ggX4_item_X4_isWord : GoodIn wsX4_item wsX4_isWord := goodIn_r _ [10, 11, 12, 13, 14, 15, 16, 17, 18, 19, 20, 21, 22, 23, 24, 25, 26, 27, 28, 29, 30, 31, 32, 33, 34, 35, 36, 37, 38, 39, 40, 41, 42, 43, 44, 45, 46, 47, 48, 49, 50, 51, 52, 53, 54, 55, 56, 57, 58, 59, 60, 61, 62, 63, 167, 168, 169, 170, 171, 172, 173, 174] (by decide +kernel) (by decide +kernel)
set_option maxRecDepth 20000 in
theorem gX4_item_X4_isWord : GoodIn wsX4_item (wsV RX4 76 RX4 yX4_isWord wsX4_isWord) := goodIn_app (goodIn_of _ (by decide +kernel)) ggX4_item_X4_isWord
set_option maxRecDepth 20000 in
theorem ggX4_item_X4_sceneItem : GoodIn wsX4_item wsX4_sceneItem := goodIn_r _ [95, 1, 68, 96, 97, 98, 72, 99, 100, 75, 76, 77, 5, 78, 12, 13, 14, 11, 79, 80, 81, 82, 83, 84, 85, 101, 102, 103, 104, 105, 167, 168, 169, 170, 171, 172, 175, 176, 177, 178, 179, 180, 181, 182, 183, 173, 174] (by decide +kernel) (by decide +kernel)
set_option maxRecDepth 20000 in
theorem gX4_item_X4_sceneItem : GoodIn wsX4_item (wsV RX4 80 RX4 yX4_sceneItem wsX4_sceneItem) := goodIn_app (goodIn_of _ (by decide +kernel)) ggX4_item_X4_sceneItem
set_option maxRecDepth 20000 in
theorem ggX4_item_X4_holdItem : GoodIn wsX4_item wsX4_holdItem := goodIn_r _ [109, 1, 110, 111, 112, 72, 113, 114, 115, 116, 117, 118, 75, 76, 77, 5, 78, 12, 13, 14, 11, 79, 80, 81, 119, 120, 121, 122, 123, 124, 125, 126, 127, 128, 129, 130, 74, 131, 132, 133, 134, 135, 7, 8, 9, 10, 15, 16, 17, 18, 19, 20, 21, 22, 23, 24, 25, 26, 27, 28, 29, 30, 31, 32, 33, 34, 35, 36, 37, 38, 39, 40, 41, 42, 43, 44, 45, 46, 47, 48, 49, 50, 51, 52, 53, 54, 55, 56, 57, 58, 59, 60, 61, 62, 63, 136, 137, 138, 139, 140, 141, 142, 143, 144, 145, 146, 147, 148, 167, 168, 169, 170, 171, 172, 175, 176, 177, 178, 179, 180, 181, 182, 183, 173, 174] (by decide +kernel) (by decide +kernel)
set_option maxRecDepth 20000 in
theorem gX4_item_X4_holdItem : GoodIn wsX4_item (wsV RX4 85 RX4 yX4_holdItem wsX4_holdItem) := goodIn_app (goodIn_of _ (by decide +kernel)) ggX4_item_X4_holdItem
set_option maxRecDepth 20000 in
theorem ggX4_item_X4_tornItem : GoodIn wsX4_item wsX4_tornItem := goodIn_r _ [152, 1, 75, 76, 77, 5, 78, 12, 13, 14, 11, 79, 80, 81, 119, 120, 121, 122, 123, 124, 125, 126, 127, 128, 129, 72, 130, 74, 153, 154, 155, 156, 157, 167, 168, 169, 170, 171, 172, 173, 174, 175, 176, 177, 178, 179, 180, 181, 182, 183] (by decide +kernel) (by decide +kernel)
set_option maxRecDepth 20000 in
theorem gX4_item_X4_tornItem : GoodIn wsX4_item (wsV RX4 90 RX4 yX4_tornItem wsX4_tornItem) := goodIn_app (goodIn_of _ (by decide +kernel)) ggX4_item_X4_tornItem
set_option maxRecDepth 20000 in
theorem ggX4_item_X4_passes : GoodIn wsX4_item wsX4_passes := goodIn_r _ [135, 7, 8, 9, 5, 10, 11, 12, 13, 14, 15, 16, 17, 18, 19, 20, 21, 22, 23, 24, 25, 26, 27, 28, 29, 30, 31, 32, 33, 34, 35, 36, 37, 38, 39, 40, 41, 42, 43, 44, 45, 46, 47, 48, 49, 50, 51, 52, 53, 54, 55, 56, 57, 58, 59, 60, 61, 62, 63, 75, 76, 77, 78, 79, 80, 81, 167, 168, 169, 170, 171, 172, 173, 174] (by decide +kernel) (by decide +kernel)
set_option maxRecDepth 20000 in
theorem gX4_item_X4_passes : GoodIn wsX4_item (wsV RX4 95 RX4 yX4_passes wsX4_passes) := goodIn_app (goodIn_of _ (by decide +kernel)) ggX4_item_X4_passes
set_option maxRecDepth 20000 in
theorem ggX4_item_X6_emptyHands : GoodIn wsX4_item wsX6_emptyHands := goodIn_r _ [161, 162, 163, 164, 72, 165, 166, 145, 146, 147, 118, 148, 175, 176, 177, 178, 179, 180, 181, 182, 183] (by decide +kernel) (by decide +kernel)
set_option maxRecDepth 20000 in
theorem gX4_item_X6_emptyHands : GoodIn wsX4_item (wsV RX4 98 RX6 yX6_emptyHands wsX6_emptyHands) := goodIn_app (goodIn_of _ (by decide +kernel)) ggX4_item_X6_emptyHands
theorem dX4_item_0 : decode cX4_item 0 = .ok (.aload_n 0, 1) := by decide +kernel
theorem dX4_item_1 : decode cX4_item 1 = .ok (.invokevirtual 67, 3) := by decide +kernel
theorem dX4_item_4 : decode cX4_item 4 = .ok (.istore_n 1, 1) := by decide +kernel
theorem dX4_item_5 : decode cX4_item 5 = .ok (.iload_n 1, 1) := by decide +kernel
theorem dX4_item_6 : decode cX4_item 6 = .ok (.ifCond .lt 9, 3) := by decide +kernel
theorem dX4_item_9 : decode cX4_item 9 = .ok (.aload_n 0, 1) := by decide +kernel
theorem dX4_item_10 : decode cX4_item 10 = .ok (.iload_n 1, 1) := by decide +kernel
theorem dX4_item_11 : decode cX4_item 11 = .ok (.invokevirtual 70, 3) := by decide +kernel
theorem dX4_item_14 : decode cX4_item 14 = .ok (.ireturn, 1) := by decide +kernel
theorem dX4_item_15 : decode cX4_item 15 = .ok (.aload_n 0, 1) := by decide +kernel
theorem dX4_item_16 : decode cX4_item 16 = .ok (.ldc 74, 2) := by decide +kernel
theorem dX4_item_18 : decode cX4_item 18 = .ok (.invokevirtual 76, 3) := by decide +kernel
theorem dX4_item_21 : decode cX4_item 21 = .ok (.ifCond .eq 8, 3) := by decide +kernel
theorem dX4_item_24 : decode cX4_item 24 = .ok (.aload_n 0, 1) := by decide +kernel
theorem dX4_item_25 : decode cX4_item 25 = .ok (.invokevirtual 80, 3) := by decide +kernel
theorem dX4_item_28 : decode cX4_item 28 = .ok (.ireturn, 1) := by decide +kernel
theorem dX4_item_29 : decode cX4_item 29 = .ok (.aload_n 0, 1) := by decide +kernel
theorem dX4_item_30 : decode cX4_item 30 = .ok (.ldc 83, 2) := by decide +kernel
theorem dX4_item_32 : decode cX4_item 32 = .ok (.invokevirtual 76, 3) := by decide +kernel
theorem dX4_item_35 : decode cX4_item 35 = .ok (.ifCond .eq 8, 3) := by decide +kernel
theorem dX4_item_38 : decode cX4_item 38 = .ok (.aload_n 0, 1) := by decide +kernel
theorem dX4_item_39 : decode cX4_item 39 = .ok (.invokevirtual 85, 3) := by decide +kernel
theorem dX4_item_42 : decode cX4_item 42 = .ok (.ireturn, 1) := by decide +kernel
theorem dX4_item_43 : decode cX4_item 43 = .ok (.aload_n 0, 1) := by decide +kernel
theorem dX4_item_44 : decode cX4_item 44 = .ok (.ldc 88, 2) := by decide +kernel
theorem dX4_item_46 : decode cX4_item 46 = .ok (.invokevirtual 76, 3) := by decide +kernel
theorem dX4_item_49 : decode cX4_item 49 = .ok (.ifCond .eq 8, 3) := by decide +kernel
theorem dX4_item_52 : decode cX4_item 52 = .ok (.aload_n 0, 1) := by decide +kernel
theorem dX4_item_53 : decode cX4_item 53 = .ok (.invokevirtual 90, 3) := by decide +kernel
theorem dX4_item_56 : decode cX4_item 56 = .ok (.ireturn, 1) := by decide +kernel
theorem dX4_item_57 : decode cX4_item 57 = .ok (.aload_n 0, 1) := by decide +kernel
theorem dX4_item_58 : decode cX4_item 58 = .ok (.ldc 93, 2) := by decide +kernel
theorem dX4_item_60 : decode cX4_item 60 = .ok (.invokevirtual 95, 3) := by decide +kernel
theorem dX4_item_63 : decode cX4_item 63 = .ok (.ifCond .eq 12, 3) := by decide +kernel
theorem dX4_item_66 : decode cX4_item 66 = .ok (.aload_n 0, 1) := by decide +kernel
theorem dX4_item_67 : decode cX4_item 67 = .ok (.getfield 21, 3) := by decide +kernel
theorem dX4_item_70 : decode cX4_item 70 = .ok (.invokevirtual 98, 3) := by decide +kernel
theorem dX4_item_73 : decode cX4_item 73 = .ok (.iconst 1, 1) := by decide +kernel
theorem dX4_item_74 : decode cX4_item 74 = .ok (.ireturn, 1) := by decide +kernel
theorem dX4_item_75 : decode cX4_item 75 = .ok (.iconst 0, 1) := by decide +kernel
theorem dX4_item_76 : decode cX4_item 76 = .ok (.ireturn, 1) := by decide +kernel
set_option maxRecDepth 20000 in
theorem ggX4_kindNamed_X4_isWord : GoodIn wsX4_kindNamed wsX4_isWord := goodIn_r _ [5, 6, 7, 8, 9, 10, 11, 12, 13, 14, 15, 16, 17, 18, 19, 20, 21, 22, 23, 24, 25, 26, 27, 28, 29, 30, 31, 32, 33, 34, 35, 36, 37, 38, 39, 40, 41, 42, 43, 44, 45, 46, 47, 48, 49, 50, 51, 52, 53, 54, 55, 56, 57, 58, 59, 60, 61, 62, 63, 64, 65, 66] (by decide +kernel) (by decide +kernel)
set_option maxRecDepth 20000 in
theorem gX4_kindNamed_X4_isWord : GoodIn wsX4_kindNamed (wsV RX4 76 RX4 yX4_isWord wsX4_isWord) := goodIn_app (goodIn_of _ (by decide +kernel)) ggX4_kindNamed_X4_isWord
theorem dX4_kindNamed_0 : decode cX4_kindNamed 0 = .ok (.aload_n 0, 1) := by decide +kernel
theorem dX4_kindNamed_1 : decode cX4_kindNamed 1 = .ok (.ldc 101, 2) := by decide +kernel
theorem dX4_kindNamed_3 : decode cX4_kindNamed 3 = .ok (.invokevirtual 76, 3) := by decide +kernel
theorem dX4_kindNamed_6 : decode cX4_kindNamed 6 = .ok (.ifCond .eq 5, 3) := by decide +kernel
theorem dX4_kindNamed_9 : decode cX4_kindNamed 9 = .ok (.iconst 0, 1) := by decide +kernel
theorem dX4_kindNamed_10 : decode cX4_kindNamed 10 = .ok (.ireturn, 1) := by decide +kernel
theorem dX4_kindNamed_11 : decode cX4_kindNamed 11 = .ok (.aload_n 0, 1) := by decide +kernel
theorem dX4_kindNamed_12 : decode cX4_kindNamed 12 = .ok (.ldc 105, 2) := by decide +kernel
theorem dX4_kindNamed_14 : decode cX4_kindNamed 14 = .ok (.invokevirtual 76, 3) := by decide +kernel
theorem dX4_kindNamed_17 : decode cX4_kindNamed 17 = .ok (.ifCond .eq 5, 3) := by decide +kernel
theorem dX4_kindNamed_20 : decode cX4_kindNamed 20 = .ok (.iconst 1, 1) := by decide +kernel
theorem dX4_kindNamed_21 : decode cX4_kindNamed 21 = .ok (.ireturn, 1) := by decide +kernel
theorem dX4_kindNamed_22 : decode cX4_kindNamed 22 = .ok (.aload_n 0, 1) := by decide +kernel
theorem dX4_kindNamed_23 : decode cX4_kindNamed 23 = .ok (.ldc 107, 2) := by decide +kernel
theorem dX4_kindNamed_25 : decode cX4_kindNamed 25 = .ok (.invokevirtual 76, 3) := by decide +kernel
theorem dX4_kindNamed_28 : decode cX4_kindNamed 28 = .ok (.ifCond .eq 5, 3) := by decide +kernel
theorem dX4_kindNamed_31 : decode cX4_kindNamed 31 = .ok (.iconst 2, 1) := by decide +kernel
theorem dX4_kindNamed_32 : decode cX4_kindNamed 32 = .ok (.ireturn, 1) := by decide +kernel
theorem dX4_kindNamed_33 : decode cX4_kindNamed 33 = .ok (.aload_n 0, 1) := by decide +kernel
theorem dX4_kindNamed_34 : decode cX4_kindNamed 34 = .ok (.ldc 109, 2) := by decide +kernel
theorem dX4_kindNamed_36 : decode cX4_kindNamed 36 = .ok (.invokevirtual 76, 3) := by decide +kernel
theorem dX4_kindNamed_39 : decode cX4_kindNamed 39 = .ok (.ifCond .eq 5, 3) := by decide +kernel
theorem dX4_kindNamed_42 : decode cX4_kindNamed 42 = .ok (.iconst 3, 1) := by decide +kernel
theorem dX4_kindNamed_43 : decode cX4_kindNamed 43 = .ok (.ireturn, 1) := by decide +kernel
theorem dX4_kindNamed_44 : decode cX4_kindNamed 44 = .ok (.aload_n 0, 1) := by decide +kernel
theorem dX4_kindNamed_45 : decode cX4_kindNamed 45 = .ok (.ldc 111, 2) := by decide +kernel
theorem dX4_kindNamed_47 : decode cX4_kindNamed 47 = .ok (.invokevirtual 76, 3) := by decide +kernel
theorem dX4_kindNamed_50 : decode cX4_kindNamed 50 = .ok (.ifCond .eq 5, 3) := by decide +kernel
theorem dX4_kindNamed_53 : decode cX4_kindNamed 53 = .ok (.iconst 4, 1) := by decide +kernel
theorem dX4_kindNamed_54 : decode cX4_kindNamed 54 = .ok (.ireturn, 1) := by decide +kernel
theorem dX4_kindNamed_55 : decode cX4_kindNamed 55 = .ok (.aload_n 0, 1) := by decide +kernel
theorem dX4_kindNamed_56 : decode cX4_kindNamed 56 = .ok (.ldc 113, 2) := by decide +kernel
theorem dX4_kindNamed_58 : decode cX4_kindNamed 58 = .ok (.invokevirtual 76, 3) := by decide +kernel
theorem dX4_kindNamed_61 : decode cX4_kindNamed 61 = .ok (.ifCond .eq 7, 3) := by decide +kernel
theorem dX4_kindNamed_64 : decode cX4_kindNamed 64 = .ok (.iconst 5, 1) := by decide +kernel
theorem dX4_kindNamed_65 : decode cX4_kindNamed 65 = .ok (.goto 4, 3) := by decide +kernel
theorem dX4_kindNamed_68 : decode cX4_kindNamed 68 = .ok (.iconst (-1), 1) := by decide +kernel
theorem dX4_kindNamed_69 : decode cX4_kindNamed 69 = .ok (.ireturn, 1) := by decide +kernel
set_option maxRecDepth 20000 in
theorem ggX4_shapeItem_X6_hasRoomForShape : GoodIn wsX4_shapeItem wsX6_hasRoomForShape := goodIn_r _ [7, 8, 37, 38, 39, 40, 41, 42, 43, 44, 45] (by decide +kernel) (by decide +kernel)
set_option maxRecDepth 20000 in
theorem gX4_shapeItem_X6_hasRoomForShape : GoodIn wsX4_shapeItem (wsV RX4 115 RX6 yX6_hasRoomForShape wsX6_hasRoomForShape) := goodIn_app (goodIn_of _ (by decide +kernel)) ggX4_shapeItem_X6_hasRoomForShape
set_option maxRecDepth 20000 in
theorem ggX4_shapeItem_X4_advance : GoodIn wsX4_shapeItem wsX4_advance := goodIn_r _ [13, 14, 15, 16, 17, 18, 19, 12, 20, 31, 32, 33, 34, 35, 36, 46, 47] (by decide +kernel) (by decide +kernel)
set_option maxRecDepth 20000 in
theorem gX4_shapeItem_X4_advance : GoodIn wsX4_shapeItem (wsV RX4 39 RX4 yX4_advance wsX4_advance) := goodIn_app (goodIn_of _ (by decide +kernel)) ggX4_shapeItem_X4_advance
set_option maxRecDepth 20000 in
theorem ggX4_shapeItem_X4_drawnRows : GoodIn wsX4_shapeItem wsX4_drawnRows := goodIn_r _ [24, 2, 17, 14, 15, 16, 9, 10, 11, 12, 13, 18, 19, 20, 31, 32, 33, 34, 35, 36, 46, 47] (by decide +kernel) (by decide +kernel)
set_option maxRecDepth 20000 in
theorem gX4_shapeItem_X4_drawnRows : GoodIn wsX4_shapeItem (wsV RX4 118 RX4 yX4_drawnRows wsX4_drawnRows) := goodIn_app (goodIn_of _ (by decide +kernel)) ggX4_shapeItem_X4_drawnRows
set_option maxRecDepth 20000 in
theorem ggX4_shapeItem_X6_addShape : GoodIn wsX4_shapeItem wsX6_addShape := goodIn_r _ [28, 29, 8, 30, 37, 38, 39, 40, 41, 42, 43, 44, 45] (by decide +kernel) (by decide +kernel)
set_option maxRecDepth 20000 in
theorem gX4_shapeItem_X6_addShape : GoodIn wsX4_shapeItem (wsV RX4 121 RX6 yX6_addShape wsX6_addShape) := goodIn_app (goodIn_of _ (by decide +kernel)) ggX4_shapeItem_X6_addShape
theorem dX4_shapeItem_0 : decode cX4_shapeItem 0 = .ok (.aload_n 0, 1) := by decide +kernel
theorem dX4_shapeItem_1 : decode cX4_shapeItem 1 = .ok (.getfield 21, 3) := by decide +kernel
theorem dX4_shapeItem_4 : decode cX4_shapeItem 4 = .ok (.invokevirtual 115, 3) := by decide +kernel
theorem dX4_shapeItem_7 : decode cX4_shapeItem 7 = .ok (.ifCond .ne 5, 3) := by decide +kernel
theorem dX4_shapeItem_10 : decode cX4_shapeItem 10 = .ok (.iconst 0, 1) := by decide +kernel
theorem dX4_shapeItem_11 : decode cX4_shapeItem 11 = .ok (.ireturn, 1) := by decide +kernel
theorem dX4_shapeItem_12 : decode cX4_shapeItem 12 = .ok (.aload_n 0, 1) := by decide +kernel
theorem dX4_shapeItem_13 : decode cX4_shapeItem 13 = .ok (.invokevirtual 39, 3) := by decide +kernel
theorem dX4_shapeItem_16 : decode cX4_shapeItem 16 = .ok (.aload_n 0, 1) := by decide +kernel
theorem dX4_shapeItem_17 : decode cX4_shapeItem 17 = .ok (.iconst 4, 1) := by decide +kernel
theorem dX4_shapeItem_18 : decode cX4_shapeItem 18 = .ok (.invokevirtual 118, 3) := by decide +kernel
theorem dX4_shapeItem_21 : decode cX4_shapeItem 21 = .ok (.ifCond .ne 5, 3) := by decide +kernel
theorem dX4_shapeItem_24 : decode cX4_shapeItem 24 = .ok (.iconst 0, 1) := by decide +kernel
theorem dX4_shapeItem_25 : decode cX4_shapeItem 25 = .ok (.ireturn, 1) := by decide +kernel
theorem dX4_shapeItem_26 : decode cX4_shapeItem 26 = .ok (.aload_n 0, 1) := by decide +kernel
theorem dX4_shapeItem_27 : decode cX4_shapeItem 27 = .ok (.getfield 21, 3) := by decide +kernel
theorem dX4_shapeItem_30 : decode cX4_shapeItem 30 = .ok (.iload_n 1, 1) := by decide +kernel
theorem dX4_shapeItem_31 : decode cX4_shapeItem 31 = .ok (.aload_n 0, 1) := by decide +kernel
theorem dX4_shapeItem_32 : decode cX4_shapeItem 32 = .ok (.getfield 35, 3) := by decide +kernel
theorem dX4_shapeItem_35 : decode cX4_shapeItem 35 = .ok (.l2i, 1) := by decide +kernel
theorem dX4_shapeItem_36 : decode cX4_shapeItem 36 = .ok (.invokevirtual 121, 3) := by decide +kernel
theorem dX4_shapeItem_39 : decode cX4_shapeItem 39 = .ok (.pop, 1) := by decide +kernel
theorem dX4_shapeItem_40 : decode cX4_shapeItem 40 = .ok (.iconst 1, 1) := by decide +kernel
theorem dX4_shapeItem_41 : decode cX4_shapeItem 41 = .ok (.ireturn, 1) := by decide +kernel
set_option maxRecDepth 20000 in
theorem ggX4_sceneItem_X6_hasRoomForScene : GoodIn wsX4_sceneItem wsX6_hasRoomForScene := goodIn_r _ [7, 8, 36, 37, 38, 39, 40, 41, 42, 43, 44] (by decide +kernel) (by decide +kernel)
set_option maxRecDepth 20000 in
theorem gX4_sceneItem_X6_hasRoomForScene : GoodIn wsX4_sceneItem (wsV RX4 125 RX6 yX6_hasRoomForScene wsX6_hasRoomForScene) := goodIn_app (goodIn_of _ (by decide +kernel)) ggX4_sceneItem_X6_hasRoomForScene
set_option maxRecDepth 20000 in
theorem ggX4_sceneItem_X4_advance : GoodIn wsX4_sceneItem wsX4_advance := goodIn_r _ [13, 14, 15, 16, 17, 18, 19, 12, 20, 30, 31, 32, 33, 34, 35, 45, 46] (by decide +kernel) (by decide +kernel)
set_option maxRecDepth 20000 in
theorem gX4_sceneItem_X4_advance : GoodIn wsX4_sceneItem (wsV RX4 39 RX4 yX4_advance wsX4_advance) := goodIn_app (goodIn_of _ (by decide +kernel)) ggX4_sceneItem_X4_advance
set_option maxRecDepth 20000 in
theorem ggX4_sceneItem_X4_drawnRows : GoodIn wsX4_sceneItem wsX4_drawnRows := goodIn_r _ [24, 2, 17, 14, 15, 16, 9, 10, 11, 12, 13, 18, 19, 20, 30, 31, 32, 33, 34, 35, 45, 46] (by decide +kernel) (by decide +kernel)
set_option maxRecDepth 20000 in
theorem gX4_sceneItem_X4_drawnRows : GoodIn wsX4_sceneItem (wsV RX4 118 RX4 yX4_drawnRows wsX4_drawnRows) := goodIn_app (goodIn_of _ (by decide +kernel)) ggX4_sceneItem_X4_drawnRows
set_option maxRecDepth 20000 in
theorem ggX4_sceneItem_X6_addScene : GoodIn wsX4_sceneItem wsX6_addScene := goodIn_r _ [28, 29, 8, 36, 37, 38, 39, 40, 41, 42, 43, 44] (by decide +kernel) (by decide +kernel)
set_option maxRecDepth 20000 in
theorem gX4_sceneItem_X6_addScene : GoodIn wsX4_sceneItem (wsV RX4 128 RX6 yX6_addScene wsX6_addScene) := goodIn_app (goodIn_of _ (by decide +kernel)) ggX4_sceneItem_X6_addScene
theorem dX4_sceneItem_0 : decode cX4_sceneItem 0 = .ok (.aload_n 0, 1) := by decide +kernel
theorem dX4_sceneItem_1 : decode cX4_sceneItem 1 = .ok (.getfield 21, 3) := by decide +kernel
theorem dX4_sceneItem_4 : decode cX4_sceneItem 4 = .ok (.invokevirtual 125, 3) := by decide +kernel
theorem dX4_sceneItem_7 : decode cX4_sceneItem 7 = .ok (.ifCond .ne 5, 3) := by decide +kernel
theorem dX4_sceneItem_10 : decode cX4_sceneItem 10 = .ok (.iconst 0, 1) := by decide +kernel
theorem dX4_sceneItem_11 : decode cX4_sceneItem 11 = .ok (.ireturn, 1) := by decide +kernel
theorem dX4_sceneItem_12 : decode cX4_sceneItem 12 = .ok (.aload_n 0, 1) := by decide +kernel
theorem dX4_sceneItem_13 : decode cX4_sceneItem 13 = .ok (.invokevirtual 39, 3) := by decide +kernel
theorem dX4_sceneItem_16 : decode cX4_sceneItem 16 = .ok (.aload_n 0, 1) := by decide +kernel
theorem dX4_sceneItem_17 : decode cX4_sceneItem 17 = .ok (.bipush 8, 2) := by decide +kernel
theorem dX4_sceneItem_19 : decode cX4_sceneItem 19 = .ok (.invokevirtual 118, 3) := by decide +kernel
theorem dX4_sceneItem_22 : decode cX4_sceneItem 22 = .ok (.ifCond .ne 5, 3) := by decide +kernel
theorem dX4_sceneItem_25 : decode cX4_sceneItem 25 = .ok (.iconst 0, 1) := by decide +kernel
theorem dX4_sceneItem_26 : decode cX4_sceneItem 26 = .ok (.ireturn, 1) := by decide +kernel
theorem dX4_sceneItem_27 : decode cX4_sceneItem 27 = .ok (.aload_n 0, 1) := by decide +kernel
theorem dX4_sceneItem_28 : decode cX4_sceneItem 28 = .ok (.getfield 21, 3) := by decide +kernel
theorem dX4_sceneItem_31 : decode cX4_sceneItem 31 = .ok (.aload_n 0, 1) := by decide +kernel
theorem dX4_sceneItem_32 : decode cX4_sceneItem 32 = .ok (.getfield 35, 3) := by decide +kernel
theorem dX4_sceneItem_35 : decode cX4_sceneItem 35 = .ok (.invokevirtual 128, 3) := by decide +kernel
theorem dX4_sceneItem_38 : decode cX4_sceneItem 38 = .ok (.pop, 1) := by decide +kernel
theorem dX4_sceneItem_39 : decode cX4_sceneItem 39 = .ok (.iconst 1, 1) := by decide +kernel
theorem dX4_sceneItem_40 : decode cX4_sceneItem 40 = .ok (.ireturn, 1) := by decide +kernel
set_option maxRecDepth 20000 in
theorem ggX4_drawnRows_X4_advance : GoodIn wsX4_drawnRows wsX4_advance := goodIn_r _ [10, 3, 4, 5, 2, 11, 12, 9, 13, 14, 15, 16, 17, 18, 19, 20, 21] (by decide +kernel) (by decide +kernel)
set_option maxRecDepth 20000 in
theorem gX4_drawnRows_X4_advance : GoodIn wsX4_drawnRows (wsV RX4 39 RX4 yX4_advance wsX4_advance) := goodIn_app (goodIn_of _ (by decide +kernel)) ggX4_drawnRows_X4_advance
theorem dX4_drawnRows_0 : decode cX4_drawnRows 0 = .ok (.aload_n 0, 1) := by decide +kernel
theorem dX4_drawnRows_1 : decode cX4_drawnRows 1 = .ok (.lconst 0, 1) := by decide +kernel
theorem dX4_drawnRows_2 : decode cX4_drawnRows 2 = .ok (.putfield 35, 3) := by decide +kernel
theorem dX4_drawnRows_5 : decode cX4_drawnRows 5 = .ok (.aload_n 0, 1) := by decide +kernel
theorem dX4_drawnRows_6 : decode cX4_drawnRows 6 = .ok (.getfield 25, 3) := by decide +kernel
theorem dX4_drawnRows_9 : decode cX4_drawnRows 9 = .ok (.iconst 3, 1) := by decide +kernel
theorem dX4_drawnRows_10 : decode cX4_drawnRows 10 = .ok (.if_icmp .eq 5, 3) := by decide +kernel
theorem dX4_drawnRows_13 : decode cX4_drawnRows 13 = .ok (.iconst 0, 1) := by decide +kernel
theorem dX4_drawnRows_14 : decode cX4_drawnRows 14 = .ok (.ireturn, 1) := by decide +kernel
theorem dX4_drawnRows_15 : decode cX4_drawnRows 15 = .ok (.iconst 0, 1) := by decide +kernel
theorem dX4_drawnRows_16 : decode cX4_drawnRows 16 = .ok (.istore_n 2, 1) := by decide +kernel
theorem dX4_drawnRows_17 : decode cX4_drawnRows 17 = .ok (.iload_n 2, 1) := by decide +kernel
theorem dX4_drawnRows_18 : decode cX4_drawnRows 18 = .ok (.iload_n 1, 1) := by decide +kernel
theorem dX4_drawnRows_19 : decode cX4_drawnRows 19 = .ok (.if_icmp .ge 92, 3) := by decide +kernel
theorem dX4_drawnRows_22 : decode cX4_drawnRows 22 = .ok (.aload_n 0, 1) := by decide +kernel
theorem dX4_drawnRows_23 : decode cX4_drawnRows 23 = .ok (.getfield 25, 3) := by decide +kernel
theorem dX4_drawnRows_26 : decode cX4_drawnRows 26 = .ok (.iconst 3, 1) := by decide +kernel
theorem dX4_drawnRows_27 : decode cX4_drawnRows 27 = .ok (.if_icmp .ne 84, 3) := by decide +kernel
theorem dX4_drawnRows_30 : decode cX4_drawnRows 30 = .ok (.aload_n 0, 1) := by decide +kernel
theorem dX4_drawnRows_31 : decode cX4_drawnRows 31 = .ok (.getfield 32, 3) := by decide +kernel
theorem dX4_drawnRows_34 : decode cX4_drawnRows 34 = .ok (.aload_n 0, 1) := by decide +kernel
theorem dX4_drawnRows_35 : decode cX4_drawnRows 35 = .ok (.getfield 29, 3) := by decide +kernel
theorem dX4_drawnRows_38 : decode cX4_drawnRows 38 = .ok (.isub, 1) := by decide +kernel
theorem dX4_drawnRows_39 : decode cX4_drawnRows 39 = .ok (.iload_n 1, 1) := by decide +kernel
theorem dX4_drawnRows_40 : decode cX4_drawnRows 40 = .ok (.if_icmp .le 5, 3) := by decide +kernel
theorem dX4_drawnRows_43 : decode cX4_drawnRows 43 = .ok (.iconst 0, 1) := by decide +kernel
theorem dX4_drawnRows_44 : decode cX4_drawnRows 44 = .ok (.ireturn, 1) := by decide +kernel
theorem dX4_drawnRows_45 : decode cX4_drawnRows 45 = .ok (.iconst 0, 1) := by decide +kernel
theorem dX4_drawnRows_46 : decode cX4_drawnRows 46 = .ok (.istore_n 3, 1) := by decide +kernel
theorem dX4_drawnRows_47 : decode cX4_drawnRows 47 = .ok (.iload_n 3, 1) := by decide +kernel
theorem dX4_drawnRows_48 : decode cX4_drawnRows 48 = .ok (.aload_n 0, 1) := by decide +kernel
theorem dX4_drawnRows_49 : decode cX4_drawnRows 49 = .ok (.getfield 32, 3) := by decide +kernel
theorem dX4_drawnRows_52 : decode cX4_drawnRows 52 = .ok (.aload_n 0, 1) := by decide +kernel
theorem dX4_drawnRows_53 : decode cX4_drawnRows 53 = .ok (.getfield 29, 3) := by decide +kernel
theorem dX4_drawnRows_56 : decode cX4_drawnRows 56 = .ok (.isub, 1) := by decide +kernel
theorem dX4_drawnRows_57 : decode cX4_drawnRows 57 = .ok (.if_icmp .ge 44, 3) := by decide +kernel
theorem dX4_drawnRows_60 : decode cX4_drawnRows 60 = .ok (.aload_n 0, 1) := by decide +kernel
theorem dX4_drawnRows_61 : decode cX4_drawnRows 61 = .ok (.getfield 12, 3) := by decide +kernel
theorem dX4_drawnRows_64 : decode cX4_drawnRows 64 = .ok (.getfield 49, 3) := by decide +kernel
theorem dX4_drawnRows_67 : decode cX4_drawnRows 67 = .ok (.aload_n 0, 1) := by decide +kernel
theorem dX4_drawnRows_68 : decode cX4_drawnRows 68 = .ok (.getfield 29, 3) := by decide +kernel
theorem dX4_drawnRows_71 : decode cX4_drawnRows 71 = .ok (.iload_n 3, 1) := by decide +kernel
theorem dX4_drawnRows_72 : decode cX4_drawnRows 72 = .ok (.iadd, 1) := by decide +kernel
theorem dX4_drawnRows_73 : decode cX4_drawnRows 73 = .ok (.iaload, 1) := by decide +kernel
theorem dX4_drawnRows_74 : decode cX4_drawnRows 74 = .ok (.bipush 35, 2) := by decide +kernel
theorem dX4_drawnRows_76 : decode cX4_drawnRows 76 = .ok (.if_icmp .ne 19, 3) := by decide +kernel
theorem dX4_drawnRows_79 : decode cX4_drawnRows 79 = .ok (.aload_n 0, 1) := by decide +kernel
theorem dX4_drawnRows_80 : decode cX4_drawnRows 80 = .ok (.dup, 1) := by decide +kernel
theorem dX4_drawnRows_81 : decode cX4_drawnRows 81 = .ok (.getfield 35, 3) := by decide +kernel
theorem dX4_drawnRows_84 : decode cX4_drawnRows 84 = .ok (.lconst 1, 1) := by decide +kernel
theorem dX4_drawnRows_85 : decode cX4_drawnRows 85 = .ok (.iload_n 1, 1) := by decide +kernel
theorem dX4_drawnRows_86 : decode cX4_drawnRows 86 = .ok (.iload_n 2, 1) := by decide +kernel
theorem dX4_drawnRows_87 : decode cX4_drawnRows 87 = .ok (.imul, 1) := by decide +kernel
theorem dX4_drawnRows_88 : decode cX4_drawnRows 88 = .ok (.iload_n 3, 1) := by decide +kernel
theorem dX4_drawnRows_89 : decode cX4_drawnRows 89 = .ok (.iadd, 1) := by decide +kernel
theorem dX4_drawnRows_90 : decode cX4_drawnRows 90 = .ok (.lshl, 1) := by decide +kernel
theorem dX4_drawnRows_91 : decode cX4_drawnRows 91 = .ok (.lor, 1) := by decide +kernel
theorem dX4_drawnRows_92 : decode cX4_drawnRows 92 = .ok (.putfield 35, 3) := by decide +kernel
theorem dX4_drawnRows_95 : decode cX4_drawnRows 95 = .ok (.iinc 3 1, 3) := by decide +kernel
theorem dX4_drawnRows_98 : decode cX4_drawnRows 98 = .ok (.goto (-51), 3) := by decide +kernel
theorem dX4_drawnRows_101 : decode cX4_drawnRows 101 = .ok (.aload_n 0, 1) := by decide +kernel
theorem dX4_drawnRows_102 : decode cX4_drawnRows 102 = .ok (.invokevirtual 39, 3) := by decide +kernel
theorem dX4_drawnRows_105 : decode cX4_drawnRows 105 = .ok (.iinc 2 1, 3) := by decide +kernel
theorem dX4_drawnRows_108 : decode cX4_drawnRows 108 = .ok (.goto (-91), 3) := by decide +kernel
theorem dX4_drawnRows_111 : decode cX4_drawnRows 111 = .ok (.iconst 1, 1) := by decide +kernel
theorem dX4_drawnRows_112 : decode cX4_drawnRows 112 = .ok (.ireturn, 1) := by decide +kernel
set_option maxRecDepth 20000 in
theorem ggX4_holdItem_X6_freeHold : GoodIn wsX4_holdItem wsX6_freeHold := goodIn_r _ [6, 7, 8, 9, 5, 10, 11, 114, 115, 116, 117, 118, 119, 120, 121, 122] (by decide +kernel) (by decide +kernel)
set_option maxRecDepth 20000 in
theorem gX4_holdItem_X6_freeHold : GoodIn wsX4_holdItem (wsV RX4 132 RX6 yX6_freeHold wsX6_freeHold) := goodIn_app (goodIn_of _ (by decide +kernel)) ggX4_holdItem_X6_freeHold
set_option maxRecDepth 20000 in
theorem ggX4_holdItem_X4_advance : GoodIn wsX4_holdItem wsX4_advance := goodIn_r _ [16, 17, 18, 19, 20, 21, 22, 15, 23, 108, 109, 110, 111, 112, 113, 123, 124] (by decide +kernel) (by decide +kernel)
set_option maxRecDepth 20000 in
theorem gX4_holdItem_X4_advance : GoodIn wsX4_holdItem (wsV RX4 39 RX4 yX4_advance wsX4_advance) := goodIn_app (goodIn_of _ (by decide +kernel)) ggX4_holdItem_X4_advance
set_option maxRecDepth 20000 in
theorem ggX4_holdItem_X4_value : GoodIn wsX4_holdItem wsX4_value := goodIn_r _ [27, 20, 18, 17, 19, 28, 29, 30, 31, 108, 109, 110, 111, 112, 113, 123, 124] (by decide +kernel) (by decide +kernel)
set_option maxRecDepth 20000 in
theorem gX4_holdItem_X4_value : GoodIn wsX4_holdItem (wsV RX4 135 RX4 yX4_value wsX4_value) := goodIn_app (goodIn_of _ (by decide +kernel)) ggX4_holdItem_X4_value
set_option maxRecDepth 20000 in
theorem ggX4_holdItem_X6_hasShape : GoodIn wsX4_holdItem wsX6_hasShape := goodIn_r _ [35, 36, 114, 115, 116, 117, 118, 119, 120, 121, 122] (by decide +kernel) (by decide +kernel)
set_option maxRecDepth 20000 in
theorem gX4_holdItem_X6_hasShape : GoodIn wsX4_holdItem (wsV RX4 138 RX6 yX6_hasShape wsX6_hasShape) := goodIn_app (goodIn_of _ (by decide +kernel)) ggX4_holdItem_X6_hasShape
set_option maxRecDepth 20000 in
theorem ggX4_holdItem_X6_holdOf : GoodIn wsX4_holdItem wsX6_holdOf := goodIn_r _ [10, 11, 114, 115, 116, 117, 118, 119, 120, 121, 122] (by decide +kernel) (by decide +kernel)
set_option maxRecDepth 20000 in
theorem gX4_holdItem_X6_holdOf : GoodIn wsX4_holdItem (wsV RX4 141 RX6 yX6_holdOf wsX6_holdOf) := goodIn_app (goodIn_of _ (by decide +kernel)) ggX4_holdItem_X6_holdOf
set_option maxRecDepth 20000 in
theorem ggX4_holdItem_X4_passes : GoodIn wsX4_holdItem wsX4_passes := goodIn_r _ [41, 42, 43, 44, 15, 45, 20, 17, 18, 19, 46, 47, 48, 49, 50, 51, 52, 53, 54, 55, 56, 57, 58, 59, 60, 61, 62, 63, 64, 65, 66, 67, 68, 69, 70, 71, 72, 73, 74, 75, 76, 77, 78, 79, 80, 81, 82, 83, 84, 85, 86, 87, 88, 89, 90, 91, 92, 93, 94, 12, 13, 14, 16, 21, 22, 23, 108, 109, 110, 111, 112, 113, 123, 124] (by decide +kernel) (by decide +kernel)
set_option maxRecDepth 20000 in
theorem gX4_holdItem_X4_passes : GoodIn wsX4_holdItem (wsV RX4 95 RX4 yX4_passes wsX4_passes) := goodIn_app (goodIn_of _ (by decide +kernel)) ggX4_holdItem_X4_passes
set_option maxRecDepth 20000 in
theorem ggX4_holdItem_X4_numberWithin : GoodIn wsX4_holdItem wsX4_numberWithin := goodIn_r _ [98, 24, 25, 26, 15, 27, 20, 18, 17, 19, 28, 29, 30, 31, 12, 13, 14, 16, 21, 22, 23, 108, 109, 110, 111, 112, 113, 123, 124] (by decide +kernel) (by decide +kernel)
set_option maxRecDepth 20000 in
theorem gX4_holdItem_X4_numberWithin : GoodIn wsX4_holdItem (wsV RX4 146 RX4 yX4_numberWithin wsX4_numberWithin) := goodIn_app (goodIn_of _ (by decide +kernel)) ggX4_holdItem_X4_numberWithin
set_option maxRecDepth 20000 in
theorem ggX4_holdItem_X1_placingAt : GoodIn wsX4_holdItem wsX1_placingAt := goodIn_r _ [102] (by decide +kernel) (by decide +kernel)
set_option maxRecDepth 20000 in
theorem gX4_holdItem_X1_placingAt : GoodIn wsX4_holdItem (va_wsS RX4 153 yX1_placingAt wsX1_placingAt) := goodIn_app (goodIn_of _ (by decide +kernel)) ggX4_holdItem_X1_placingAt
set_option maxRecDepth 20000 in
theorem ggX4_holdItem_X6_take : GoodIn wsX4_holdItem wsX6_take := goodIn_r _ [106, 11, 107, 114, 115, 116, 117, 118, 119, 120, 121, 122] (by decide +kernel) (by decide +kernel)
set_option maxRecDepth 20000 in
theorem gX4_holdItem_X6_take : GoodIn wsX4_holdItem (wsV RX4 159 RX6 yX6_take wsX6_take) := goodIn_app (goodIn_of _ (by decide +kernel)) ggX4_holdItem_X6_take
theorem dX4_holdItem_0 : decode cX4_holdItem 0 = .ok (.aload_n 0, 1) := by decide +kernel
theorem dX4_holdItem_1 : decode cX4_holdItem 1 = .ok (.getfield 21, 3) := by decide +kernel
theorem dX4_holdItem_4 : decode cX4_holdItem 4 = .ok (.invokevirtual 132, 3) := by decide +kernel
theorem dX4_holdItem_7 : decode cX4_holdItem 7 = .ok (.istore_n 1, 1) := by decide +kernel
theorem dX4_holdItem_8 : decode cX4_holdItem 8 = .ok (.iload_n 1, 1) := by decide +kernel
theorem dX4_holdItem_9 : decode cX4_holdItem 9 = .ok (.ifCond .ge 5, 3) := by decide +kernel
theorem dX4_holdItem_12 : decode cX4_holdItem 12 = .ok (.iconst 0, 1) := by decide +kernel
theorem dX4_holdItem_13 : decode cX4_holdItem 13 = .ok (.ireturn, 1) := by decide +kernel
theorem dX4_holdItem_14 : decode cX4_holdItem 14 = .ok (.aload_n 0, 1) := by decide +kernel
theorem dX4_holdItem_15 : decode cX4_holdItem 15 = .ok (.invokevirtual 39, 3) := by decide +kernel
theorem dX4_holdItem_18 : decode cX4_holdItem 18 = .ok (.aload_n 0, 1) := by decide +kernel
theorem dX4_holdItem_19 : decode cX4_holdItem 19 = .ok (.invokevirtual 135, 3) := by decide +kernel
theorem dX4_holdItem_22 : decode cX4_holdItem 22 = .ok (.istore_n 2, 1) := by decide +kernel
theorem dX4_holdItem_23 : decode cX4_holdItem 23 = .ok (.aload_n 0, 1) := by decide +kernel
theorem dX4_holdItem_24 : decode cX4_holdItem 24 = .ok (.getfield 21, 3) := by decide +kernel
theorem dX4_holdItem_27 : decode cX4_holdItem 27 = .ok (.iload_n 2, 1) := by decide +kernel
theorem dX4_holdItem_28 : decode cX4_holdItem 28 = .ok (.invokevirtual 138, 3) := by decide +kernel
theorem dX4_holdItem_31 : decode cX4_holdItem 31 = .ok (.ifCond .eq 14, 3) := by decide +kernel
theorem dX4_holdItem_34 : decode cX4_holdItem 34 = .ok (.aload_n 0, 1) := by decide +kernel
theorem dX4_holdItem_35 : decode cX4_holdItem 35 = .ok (.getfield 21, 3) := by decide +kernel
theorem dX4_holdItem_38 : decode cX4_holdItem 38 = .ok (.iload_n 2, 1) := by decide +kernel
theorem dX4_holdItem_39 : decode cX4_holdItem 39 = .ok (.invokevirtual 141, 3) := by decide +kernel
theorem dX4_holdItem_42 : decode cX4_holdItem 42 = .ok (.ifCond .lt 5, 3) := by decide +kernel
theorem dX4_holdItem_45 : decode cX4_holdItem 45 = .ok (.iconst 0, 1) := by decide +kernel
theorem dX4_holdItem_46 : decode cX4_holdItem 46 = .ok (.ireturn, 1) := by decide +kernel
theorem dX4_holdItem_47 : decode cX4_holdItem 47 = .ok (.aload_n 0, 1) := by decide +kernel
theorem dX4_holdItem_48 : decode cX4_holdItem 48 = .ok (.invokevirtual 39, 3) := by decide +kernel
theorem dX4_holdItem_51 : decode cX4_holdItem 51 = .ok (.aload_n 0, 1) := by decide +kernel
theorem dX4_holdItem_52 : decode cX4_holdItem 52 = .ok (.ldc 144, 2) := by decide +kernel
theorem dX4_holdItem_54 : decode cX4_holdItem 54 = .ok (.invokevirtual 95, 3) := by decide +kernel
theorem dX4_holdItem_57 : decode cX4_holdItem 57 = .ok (.ifCond .eq 12, 3) := by decide +kernel
theorem dX4_holdItem_60 : decode cX4_holdItem 60 = .ok (.aload_n 0, 1) := by decide +kernel
theorem dX4_holdItem_61 : decode cX4_holdItem 61 = .ok (.iconst 1, 1) := by decide +kernel
theorem dX4_holdItem_62 : decode cX4_holdItem 62 = .ok (.iconst 2, 1) := by decide +kernel
theorem dX4_holdItem_63 : decode cX4_holdItem 63 = .ok (.invokevirtual 146, 3) := by decide +kernel
theorem dX4_holdItem_66 : decode cX4_holdItem 66 = .ok (.goto 4, 3) := by decide +kernel
theorem dX4_holdItem_69 : decode cX4_holdItem 69 = .ok (.iconst (-1), 1) := by decide +kernel
theorem dX4_holdItem_70 : decode cX4_holdItem 70 = .ok (.istore_n 3, 1) := by decide +kernel
theorem dX4_holdItem_71 : decode cX4_holdItem 71 = .ok (.iload_n 3, 1) := by decide +kernel
theorem dX4_holdItem_72 : decode cX4_holdItem 72 = .ok (.ifCond .ge 5, 3) := by decide +kernel
theorem dX4_holdItem_75 : decode cX4_holdItem 75 = .ok (.iconst 0, 1) := by decide +kernel
theorem dX4_holdItem_76 : decode cX4_holdItem 76 = .ok (.ireturn, 1) := by decide +kernel
theorem dX4_holdItem_77 : decode cX4_holdItem 77 = .ok (.aload_n 0, 1) := by decide +kernel
theorem dX4_holdItem_78 : decode cX4_holdItem 78 = .ok (.ldc 149, 2) := by decide +kernel
theorem dX4_holdItem_80 : decode cX4_holdItem 80 = .ok (.invokevirtual 95, 3) := by decide +kernel
theorem dX4_holdItem_83 : decode cX4_holdItem 83 = .ok (.ifCond .eq 12, 3) := by decide +kernel
theorem dX4_holdItem_86 : decode cX4_holdItem 86 = .ok (.aload_n 0, 1) := by decide +kernel
theorem dX4_holdItem_87 : decode cX4_holdItem 87 = .ok (.iconst 0, 1) := by decide +kernel
theorem dX4_holdItem_88 : decode cX4_holdItem 88 = .ok (.iconst 3, 1) := by decide +kernel
theorem dX4_holdItem_89 : decode cX4_holdItem 89 = .ok (.invokevirtual 146, 3) := by decide +kernel
theorem dX4_holdItem_92 : decode cX4_holdItem 92 = .ok (.goto 4, 3) := by decide +kernel
theorem dX4_holdItem_95 : decode cX4_holdItem 95 = .ok (.iconst (-1), 1) := by decide +kernel
theorem dX4_holdItem_96 : decode cX4_holdItem 96 = .ok (.istore 4, 2) := by decide +kernel
theorem dX4_holdItem_98 : decode cX4_holdItem 98 = .ok (.iload 4, 2) := by decide +kernel
theorem dX4_holdItem_100 : decode cX4_holdItem 100 = .ok (.ifCond .ge 5, 3) := by decide +kernel
theorem dX4_holdItem_103 : decode cX4_holdItem 103 = .ok (.iconst 0, 1) := by decide +kernel
theorem dX4_holdItem_104 : decode cX4_holdItem 104 = .ok (.ireturn, 1) := by decide +kernel
theorem dX4_holdItem_105 : decode cX4_holdItem 105 = .ok (.aload_n 0, 1) := by decide +kernel
theorem dX4_holdItem_106 : decode cX4_holdItem 106 = .ok (.ldc 151, 2) := by decide +kernel
theorem dX4_holdItem_108 : decode cX4_holdItem 108 = .ok (.invokevirtual 95, 3) := by decide +kernel
theorem dX4_holdItem_111 : decode cX4_holdItem 111 = .ok (.ifCond .eq 13, 3) := by decide +kernel
theorem dX4_holdItem_114 : decode cX4_holdItem 114 = .ok (.aload_n 0, 1) := by decide +kernel
theorem dX4_holdItem_115 : decode cX4_holdItem 115 = .ok (.iconst 0, 1) := by decide +kernel
theorem dX4_holdItem_116 : decode cX4_holdItem 116 = .ok (.bipush 7, 2) := by decide +kernel
theorem dX4_holdItem_118 : decode cX4_holdItem 118 = .ok (.invokevirtual 146, 3) := by decide +kernel
theorem dX4_holdItem_121 : decode cX4_holdItem 121 = .ok (.goto 4, 3) := by decide +kernel
theorem dX4_holdItem_124 : decode cX4_holdItem 124 = .ok (.iconst (-1), 1) := by decide +kernel
theorem dX4_holdItem_125 : decode cX4_holdItem 125 = .ok (.istore 5, 2) := by decide +kernel
theorem dX4_holdItem_127 : decode cX4_holdItem 127 = .ok (.iload 5, 2) := by decide +kernel
theorem dX4_holdItem_129 : decode cX4_holdItem 129 = .ok (.ifCond .ge 5, 3) := by decide +kernel
theorem dX4_holdItem_132 : decode cX4_holdItem 132 = .ok (.iconst 0, 1) := by decide +kernel
theorem dX4_holdItem_133 : decode cX4_holdItem 133 = .ok (.ireturn, 1) := by decide +kernel
theorem dX4_holdItem_134 : decode cX4_holdItem 134 = .ok (.aload_n 0, 1) := by decide +kernel
theorem dX4_holdItem_135 : decode cX4_holdItem 135 = .ok (.iconst 0, 1) := by decide +kernel
theorem dX4_holdItem_136 : decode cX4_holdItem 136 = .ok (.bipush 7, 2) := by decide +kernel
theorem dX4_holdItem_138 : decode cX4_holdItem 138 = .ok (.invokevirtual 146, 3) := by decide +kernel
theorem dX4_holdItem_141 : decode cX4_holdItem 141 = .ok (.istore 6, 2) := by decide +kernel
theorem dX4_holdItem_143 : decode cX4_holdItem 143 = .ok (.iload 6, 2) := by decide +kernel
theorem dX4_holdItem_145 : decode cX4_holdItem 145 = .ok (.ifCond .ge 5, 3) := by decide +kernel
theorem dX4_holdItem_148 : decode cX4_holdItem 148 = .ok (.iconst 0, 1) := by decide +kernel
theorem dX4_holdItem_149 : decode cX4_holdItem 149 = .ok (.ireturn, 1) := by decide +kernel
theorem dX4_holdItem_150 : decode cX4_holdItem 150 = .ok (.aload_n 0, 1) := by decide +kernel
theorem dX4_holdItem_151 : decode cX4_holdItem 151 = .ok (.getfield 21, 3) := by decide +kernel
theorem dX4_holdItem_154 : decode cX4_holdItem 154 = .ok (.iload_n 1, 1) := by decide +kernel
theorem dX4_holdItem_155 : decode cX4_holdItem 155 = .ok (.iload_n 2, 1) := by decide +kernel
theorem dX4_holdItem_156 : decode cX4_holdItem 156 = .ok (.iconst 4, 1) := by decide +kernel
theorem dX4_holdItem_157 : decode cX4_holdItem 157 = .ok (.iload_n 3, 1) := by decide +kernel
theorem dX4_holdItem_158 : decode cX4_holdItem 158 = .ok (.imul, 1) := by decide +kernel
theorem dX4_holdItem_159 : decode cX4_holdItem 159 = .ok (.iload 4, 2) := by decide +kernel
theorem dX4_holdItem_161 : decode cX4_holdItem 161 = .ok (.iadd, 1) := by decide +kernel
theorem dX4_holdItem_162 : decode cX4_holdItem 162 = .ok (.iload 5, 2) := by decide +kernel
theorem dX4_holdItem_164 : decode cX4_holdItem 164 = .ok (.iload 6, 2) := by decide +kernel
theorem dX4_holdItem_166 : decode cX4_holdItem 166 = .ok (.invokestatic 153, 3) := by decide +kernel
theorem dX4_holdItem_169 : decode cX4_holdItem 169 = .ok (.invokevirtual 159, 3) := by decide +kernel
theorem dX4_holdItem_172 : decode cX4_holdItem 172 = .ok (.iconst 1, 1) := by decide +kernel
theorem dX4_holdItem_173 : decode cX4_holdItem 173 = .ok (.ireturn, 1) := by decide +kernel
set_option maxRecDepth 20000 in
theorem ggX4_tornItem_X4_advance : GoodIn wsX4_tornItem wsX4_advance := goodIn_r _ [6, 7, 8, 9, 10, 11, 12, 5, 13, 33, 34, 35, 36, 37, 38, 39, 40] (by decide +kernel) (by decide +kernel)
set_option maxRecDepth 20000 in
theorem gX4_tornItem_X4_advance : GoodIn wsX4_tornItem (wsV RX4 39 RX4 yX4_advance wsX4_advance) := goodIn_app (goodIn_of _ (by decide +kernel)) ggX4_tornItem_X4_advance
set_option maxRecDepth 20000 in
theorem ggX4_tornItem_X4_value : GoodIn wsX4_tornItem wsX4_value := goodIn_r _ [17, 10, 8, 7, 9, 18, 19, 20, 21, 33, 34, 35, 36, 37, 38, 39, 40] (by decide +kernel) (by decide +kernel)
set_option maxRecDepth 20000 in
theorem gX4_tornItem_X4_value : GoodIn wsX4_tornItem (wsV RX4 135 RX4 yX4_value wsX4_value) := goodIn_app (goodIn_of _ (by decide +kernel)) ggX4_tornItem_X4_value
set_option maxRecDepth 20000 in
theorem ggX4_tornItem_X6_hasShape : GoodIn wsX4_tornItem wsX6_hasShape := goodIn_r _ [26, 27, 41, 42, 43, 44, 45, 46, 47, 48, 49] (by decide +kernel) (by decide +kernel)
set_option maxRecDepth 20000 in
theorem gX4_tornItem_X6_hasShape : GoodIn wsX4_tornItem (wsV RX4 138 RX6 yX6_hasShape wsX6_hasShape) := goodIn_app (goodIn_of _ (by decide +kernel)) ggX4_tornItem_X6_hasShape
set_option maxRecDepth 20000 in
theorem ggX4_tornItem_X6_setTorn : GoodIn wsX4_tornItem wsX6_setTorn := goodIn_r _ [31, 32, 41, 42, 43, 44, 45, 46, 47, 48, 49] (by decide +kernel) (by decide +kernel)
set_option maxRecDepth 20000 in
theorem gX4_tornItem_X6_setTorn : GoodIn wsX4_tornItem (wsV RX4 163 RX6 yX6_setTorn wsX6_setTorn) := goodIn_app (goodIn_of _ (by decide +kernel)) ggX4_tornItem_X6_setTorn
theorem dX4_tornItem_0 : decode cX4_tornItem 0 = .ok (.aload_n 0, 1) := by decide +kernel
theorem dX4_tornItem_1 : decode cX4_tornItem 1 = .ok (.invokevirtual 39, 3) := by decide +kernel
theorem dX4_tornItem_4 : decode cX4_tornItem 4 = .ok (.aload_n 0, 1) := by decide +kernel
theorem dX4_tornItem_5 : decode cX4_tornItem 5 = .ok (.invokevirtual 135, 3) := by decide +kernel
theorem dX4_tornItem_8 : decode cX4_tornItem 8 = .ok (.istore_n 1, 1) := by decide +kernel
theorem dX4_tornItem_9 : decode cX4_tornItem 9 = .ok (.aload_n 0, 1) := by decide +kernel
theorem dX4_tornItem_10 : decode cX4_tornItem 10 = .ok (.getfield 21, 3) := by decide +kernel
theorem dX4_tornItem_13 : decode cX4_tornItem 13 = .ok (.iload_n 1, 1) := by decide +kernel
theorem dX4_tornItem_14 : decode cX4_tornItem 14 = .ok (.invokevirtual 138, 3) := by decide +kernel
theorem dX4_tornItem_17 : decode cX4_tornItem 17 = .ok (.ifCond .ne 5, 3) := by decide +kernel
theorem dX4_tornItem_20 : decode cX4_tornItem 20 = .ok (.iconst 0, 1) := by decide +kernel
theorem dX4_tornItem_21 : decode cX4_tornItem 21 = .ok (.ireturn, 1) := by decide +kernel
theorem dX4_tornItem_22 : decode cX4_tornItem 22 = .ok (.aload_n 0, 1) := by decide +kernel
theorem dX4_tornItem_23 : decode cX4_tornItem 23 = .ok (.getfield 21, 3) := by decide +kernel
theorem dX4_tornItem_26 : decode cX4_tornItem 26 = .ok (.iload_n 1, 1) := by decide +kernel
theorem dX4_tornItem_27 : decode cX4_tornItem 27 = .ok (.iconst 1, 1) := by decide +kernel
theorem dX4_tornItem_28 : decode cX4_tornItem 28 = .ok (.invokevirtual 163, 3) := by decide +kernel
theorem dX4_tornItem_31 : decode cX4_tornItem 31 = .ok (.aload_n 0, 1) := by decide +kernel
theorem dX4_tornItem_32 : decode cX4_tornItem 32 = .ok (.invokevirtual 39, 3) := by decide +kernel
theorem dX4_tornItem_35 : decode cX4_tornItem 35 = .ok (.iconst 1, 1) := by decide +kernel
theorem dX4_tornItem_36 : decode cX4_tornItem 36 = .ok (.ireturn, 1) := by decide +kernel
set_option maxRecDepth 20000 in
theorem ggX4_passes_X4_isWord : GoodIn wsX4_passes wsX4_isWord := goodIn_r _ [5, 6, 7, 8, 9, 10, 11, 12, 13, 14, 15, 16, 17, 18, 19, 20, 21, 22, 23, 24, 25, 26, 27, 28, 29, 30, 31, 32, 33, 34, 35, 36, 37, 38, 39, 40, 41, 42, 43, 44, 45, 46, 47, 48, 49, 50, 51, 52, 53, 54, 55, 56, 57, 58, 66, 67, 68, 69, 70, 71, 72, 73] (by decide +kernel) (by decide +kernel)
set_option maxRecDepth 20000 in
theorem gX4_passes_X4_isWord : GoodIn wsX4_passes (wsV RX4 76 RX4 yX4_isWord wsX4_isWord) := goodIn_app (goodIn_of _ (by decide +kernel)) ggX4_passes_X4_isWord
set_option maxRecDepth 20000 in
theorem ggX4_passes_X4_advance : GoodIn wsX4_passes wsX4_advance := goodIn_r _ [62, 7, 8, 9, 6, 63, 64, 4, 65, 66, 67, 68, 69, 70, 71, 72, 73] (by decide +kernel) (by decide +kernel)
set_option maxRecDepth 20000 in
theorem gX4_passes_X4_advance : GoodIn wsX4_passes (wsV RX4 39 RX4 yX4_advance wsX4_advance) := goodIn_app (goodIn_of _ (by decide +kernel)) ggX4_passes_X4_advance
theorem dX4_passes_0 : decode cX4_passes 0 = .ok (.aload_n 0, 1) := by decide +kernel
theorem dX4_passes_1 : decode cX4_passes 1 = .ok (.aload_n 1, 1) := by decide +kernel
theorem dX4_passes_2 : decode cX4_passes 2 = .ok (.invokevirtual 76, 3) := by decide +kernel
theorem dX4_passes_5 : decode cX4_passes 5 = .ok (.ifCond .ne 5, 3) := by decide +kernel
theorem dX4_passes_8 : decode cX4_passes 8 = .ok (.iconst 0, 1) := by decide +kernel
theorem dX4_passes_9 : decode cX4_passes 9 = .ok (.ireturn, 1) := by decide +kernel
theorem dX4_passes_10 : decode cX4_passes 10 = .ok (.aload_n 0, 1) := by decide +kernel
theorem dX4_passes_11 : decode cX4_passes 11 = .ok (.invokevirtual 39, 3) := by decide +kernel
theorem dX4_passes_14 : decode cX4_passes 14 = .ok (.iconst 1, 1) := by decide +kernel
theorem dX4_passes_15 : decode cX4_passes 15 = .ok (.ireturn, 1) := by decide +kernel
set_option maxRecDepth 20000 in
theorem ggX4_numberWithin_X4_value : GoodIn wsX4_numberWithin wsX4_value := goodIn_r _ [5, 6, 7, 8, 9, 10, 11, 12, 13, 21, 22, 23, 24, 25, 26, 27, 28] (by decide +kernel) (by decide +kernel)
set_option maxRecDepth 20000 in
theorem gX4_numberWithin_X4_value : GoodIn wsX4_numberWithin (wsV RX4 135 RX4 yX4_value wsX4_value) := goodIn_app (goodIn_of _ (by decide +kernel)) ggX4_numberWithin_X4_value
set_option maxRecDepth 20000 in
theorem ggX4_numberWithin_X4_advance : GoodIn wsX4_numberWithin wsX4_advance := goodIn_r _ [17, 8, 7, 9, 6, 18, 19, 4, 20, 21, 22, 23, 24, 25, 26, 27, 28] (by decide +kernel) (by decide +kernel)
set_option maxRecDepth 20000 in
theorem gX4_numberWithin_X4_advance : GoodIn wsX4_numberWithin (wsV RX4 39 RX4 yX4_advance wsX4_advance) := goodIn_app (goodIn_of _ (by decide +kernel)) ggX4_numberWithin_X4_advance
theorem dX4_numberWithin_0 : decode cX4_numberWithin 0 = .ok (.aload_n 0, 1) := by decide +kernel
theorem dX4_numberWithin_1 : decode cX4_numberWithin 1 = .ok (.invokevirtual 135, 3) := by decide +kernel
theorem dX4_numberWithin_4 : decode cX4_numberWithin 4 = .ok (.istore_n 3, 1) := by decide +kernel
theorem dX4_numberWithin_5 : decode cX4_numberWithin 5 = .ok (.iload_n 3, 1) := by decide +kernel
theorem dX4_numberWithin_6 : decode cX4_numberWithin 6 = .ok (.iload_n 1, 1) := by decide +kernel
theorem dX4_numberWithin_7 : decode cX4_numberWithin 7 = .ok (.if_icmp .lt 8, 3) := by decide +kernel
theorem dX4_numberWithin_10 : decode cX4_numberWithin 10 = .ok (.iload_n 3, 1) := by decide +kernel
theorem dX4_numberWithin_11 : decode cX4_numberWithin 11 = .ok (.iload_n 2, 1) := by decide +kernel
theorem dX4_numberWithin_12 : decode cX4_numberWithin 12 = .ok (.if_icmp .le 5, 3) := by decide +kernel
theorem dX4_numberWithin_15 : decode cX4_numberWithin 15 = .ok (.iconst (-1), 1) := by decide +kernel
theorem dX4_numberWithin_16 : decode cX4_numberWithin 16 = .ok (.ireturn, 1) := by decide +kernel
theorem dX4_numberWithin_17 : decode cX4_numberWithin 17 = .ok (.aload_n 0, 1) := by decide +kernel
theorem dX4_numberWithin_18 : decode cX4_numberWithin 18 = .ok (.invokevirtual 39, 3) := by decide +kernel
theorem dX4_numberWithin_21 : decode cX4_numberWithin 21 = .ok (.iload_n 3, 1) := by decide +kernel
theorem dX4_numberWithin_22 : decode cX4_numberWithin 22 = .ok (.ireturn, 1) := by decide +kernel
theorem dX4_value_0 : decode cX4_value 0 = .ok (.aload_n 0, 1) := by decide +kernel
theorem dX4_value_1 : decode cX4_value 1 = .ok (.getfield 25, 3) := by decide +kernel
theorem dX4_value_4 : decode cX4_value 4 = .ok (.iconst 2, 1) := by decide +kernel
theorem dX4_value_5 : decode cX4_value 5 = .ok (.if_icmp .eq 5, 3) := by decide +kernel
theorem dX4_value_8 : decode cX4_value 8 = .ok (.iconst (-1), 1) := by decide +kernel
theorem dX4_value_9 : decode cX4_value 9 = .ok (.ireturn, 1) := by decide +kernel
theorem dX4_value_10 : decode cX4_value 10 = .ok (.iconst 0, 1) := by decide +kernel
theorem dX4_value_11 : decode cX4_value 11 = .ok (.istore_n 1, 1) := by decide +kernel
theorem dX4_value_12 : decode cX4_value 12 = .ok (.aload_n 0, 1) := by decide +kernel
theorem dX4_value_13 : decode cX4_value 13 = .ok (.getfield 29, 3) := by decide +kernel
theorem dX4_value_16 : decode cX4_value 16 = .ok (.istore_n 2, 1) := by decide +kernel
theorem dX4_value_17 : decode cX4_value 17 = .ok (.iload_n 2, 1) := by decide +kernel
theorem dX4_value_18 : decode cX4_value 18 = .ok (.aload_n 0, 1) := by decide +kernel
theorem dX4_value_19 : decode cX4_value 19 = .ok (.getfield 32, 3) := by decide +kernel
theorem dX4_value_22 : decode cX4_value 22 = .ok (.if_icmp .ge 33, 3) := by decide +kernel
theorem dX4_value_25 : decode cX4_value 25 = .ok (.sipush 10000, 3) := by decide +kernel
theorem dX4_value_28 : decode cX4_value 28 = .ok (.bipush 10, 2) := by decide +kernel
theorem dX4_value_30 : decode cX4_value 30 = .ok (.iload_n 1, 1) := by decide +kernel
theorem dX4_value_31 : decode cX4_value 31 = .ok (.imul, 1) := by decide +kernel
theorem dX4_value_32 : decode cX4_value 32 = .ok (.aload_n 0, 1) := by decide +kernel
theorem dX4_value_33 : decode cX4_value 33 = .ok (.getfield 12, 3) := by decide +kernel
theorem dX4_value_36 : decode cX4_value 36 = .ok (.getfield 49, 3) := by decide +kernel
theorem dX4_value_39 : decode cX4_value 39 = .ok (.iload_n 2, 1) := by decide +kernel
theorem dX4_value_40 : decode cX4_value 40 = .ok (.iaload, 1) := by decide +kernel
theorem dX4_value_41 : decode cX4_value 41 = .ok (.iadd, 1) := by decide +kernel
theorem dX4_value_42 : decode cX4_value 42 = .ok (.bipush 48, 2) := by decide +kernel
theorem dX4_value_44 : decode cX4_value 44 = .ok (.isub, 1) := by decide +kernel
theorem dX4_value_45 : decode cX4_value 45 = .ok (.invokestatic 167, 3) := by decide +kernel
theorem dX4_value_48 : decode cX4_value 48 = .ok (.istore_n 1, 1) := by decide +kernel
theorem dX4_value_49 : decode cX4_value 49 = .ok (.iinc 2 1, 3) := by decide +kernel
theorem dX4_value_52 : decode cX4_value 52 = .ok (.goto (-35), 3) := by decide +kernel
theorem dX4_value_55 : decode cX4_value 55 = .ok (.iload_n 1, 1) := by decide +kernel
theorem dX4_value_56 : decode cX4_value 56 = .ok (.ireturn, 1) := by decide +kernel
theorem dX5_init_0 : decode cX5_init 0 = .ok (.aload_n 0, 1) := by decide +kernel
theorem dX5_init_1 : decode cX5_init 1 = .ok (.invokespecial 3, 3) := by decide +kernel
theorem dX5_init_4 : decode cX5_init 4 = .ok (.aload_n 0, 1) := by decide +kernel
theorem dX5_init_5 : decode cX5_init 5 = .ok (.iconst (-1), 1) := by decide +kernel
theorem dX5_init_6 : decode cX5_init 6 = .ok (.putfield 9, 3) := by decide +kernel
theorem dX5_init_9 : decode cX5_init 9 = .ok (.aload_n 0, 1) := by decide +kernel
theorem dX5_init_10 : decode cX5_init 10 = .ok (.bipush 65, 2) := by decide +kernel
theorem dX5_init_12 : decode cX5_init 12 = .ok (.putfield 15, 3) := by decide +kernel
theorem dX5_init_15 : decode cX5_init 15 = .ok (.return_, 1) := by decide +kernel
set_option maxRecDepth 20000 in
theorem ggX5_seek_X6_isAllowed : GoodIn wsX5_seek wsX6_isAllowed := goodIn_r _ [7, 8, 66, 67, 68, 69, 70, 71, 72, 73, 74] (by decide +kernel) (by decide +kernel)
set_option maxRecDepth 20000 in
theorem gX5_seek_X6_isAllowed : GoodIn wsX5_seek (wsV RX5 18 RX6 yX6_isAllowed wsX6_isAllowed) := goodIn_app (goodIn_of _ (by decide +kernel)) ggX5_seek_X6_isAllowed
set_option maxRecDepth 20000 in
theorem ggX5_seek_X6_cornerBy : GoodIn wsX5_seek wsX6_cornerBy := goodIn_r _ [12, 13, 14, 15, 16, 17, 18, 19, 20, 21, 22, 23, 24, 25, 26, 27, 28, 29, 30, 31, 32, 33, 34, 35, 36, 37, 38, 39, 40, 41, 66, 67, 68, 69, 70, 71, 72, 73, 74] (by decide +kernel) (by decide +kernel)
set_option maxRecDepth 20000 in
theorem gX5_seek_X6_cornerBy : GoodIn wsX5_seek (wsV RX5 24 RX6 yX6_cornerBy wsX6_cornerBy) := goodIn_app (goodIn_of _ (by decide +kernel)) ggX5_seek_X6_cornerBy
set_option maxRecDepth 20000 in
theorem ggX5_seek_X5_seekByWay : GoodIn wsX5_seek wsX5_seekByWay := goodIn_r _ [46, 2, 1, 47, 48, 39, 49, 50, 51, 52, 53, 54, 55, 56, 57, 58, 59, 60, 61, 62, 63, 64, 65] (by decide +kernel) (by decide +kernel)
set_option maxRecDepth 20000 in
theorem gX5_seek_X5_seekByWay : GoodIn wsX5_seek (wsV RX5 28 RX5 yX5_seekByWay wsX5_seekByWay) := goodIn_app (goodIn_of _ (by decide +kernel)) ggX5_seek_X5_seekByWay
theorem dX5_seek_0 : decode cX5_seek 0 = .ok (.aload_n 0, 1) := by decide +kernel
theorem dX5_seek_1 : decode cX5_seek 1 = .ok (.iconst (-1), 1) := by decide +kernel
theorem dX5_seek_2 : decode cX5_seek 2 = .ok (.putfield 9, 3) := by decide +kernel
theorem dX5_seek_5 : decode cX5_seek 5 = .ok (.aload_n 0, 1) := by decide +kernel
theorem dX5_seek_6 : decode cX5_seek 6 = .ok (.bipush 65, 2) := by decide +kernel
theorem dX5_seek_8 : decode cX5_seek 8 = .ok (.putfield 15, 3) := by decide +kernel
theorem dX5_seek_11 : decode cX5_seek 11 = .ok (.iconst 4, 1) := by decide +kernel
theorem dX5_seek_12 : decode cX5_seek 12 = .ok (.istore 7, 2) := by decide +kernel
theorem dX5_seek_14 : decode cX5_seek 14 = .ok (.iload 7, 2) := by decide +kernel
theorem dX5_seek_16 : decode cX5_seek 16 = .ok (.bipush 11, 2) := by decide +kernel
theorem dX5_seek_18 : decode cX5_seek 18 = .ok (.if_icmp .gt 34, 3) := by decide +kernel
theorem dX5_seek_21 : decode cX5_seek 21 = .ok (.aload_n 1, 1) := by decide +kernel
theorem dX5_seek_22 : decode cX5_seek 22 = .ok (.iload 7, 2) := by decide +kernel
theorem dX5_seek_24 : decode cX5_seek 24 = .ok (.invokevirtual 18, 3) := by decide +kernel
theorem dX5_seek_27 : decode cX5_seek 27 = .ok (.ifCond .eq 19, 3) := by decide +kernel
theorem dX5_seek_30 : decode cX5_seek 30 = .ok (.aload_n 0, 1) := by decide +kernel
theorem dX5_seek_31 : decode cX5_seek 31 = .ok (.aload_n 1, 1) := by decide +kernel
theorem dX5_seek_32 : decode cX5_seek 32 = .ok (.iload_n 2, 1) := by decide +kernel
theorem dX5_seek_33 : decode cX5_seek 33 = .ok (.iload 7, 2) := by decide +kernel
theorem dX5_seek_35 : decode cX5_seek 35 = .ok (.invokevirtual 24, 3) := by decide +kernel
theorem dX5_seek_38 : decode cX5_seek 38 = .ok (.iload 7, 2) := by decide +kernel
theorem dX5_seek_40 : decode cX5_seek 40 = .ok (.lload_n 3, 1) := by decide +kernel
theorem dX5_seek_41 : decode cX5_seek 41 = .ok (.lload 5, 2) := by decide +kernel
theorem dX5_seek_43 : decode cX5_seek 43 = .ok (.invokevirtual 28, 3) := by decide +kernel
theorem dX5_seek_46 : decode cX5_seek 46 = .ok (.iinc 7 1, 3) := by decide +kernel
theorem dX5_seek_49 : decode cX5_seek 49 = .ok (.goto (-35), 3) := by decide +kernel
theorem dX5_seek_52 : decode cX5_seek 52 = .ok (.return_, 1) := by decide +kernel
set_option maxRecDepth 20000 in
theorem ggX5_seekByWay_X1_moved : GoodIn wsX5_seekByWay wsX1_moved := goodIn_r _ [6, 7] (by decide +kernel) (by decide +kernel)
set_option maxRecDepth 20000 in
theorem gX5_seekByWay_X1_moved : GoodIn wsX5_seekByWay (va_wsS RX5 32 yX1_moved wsX1_moved) := goodIn_app (goodIn_of _ (by decide +kernel)) ggX5_seekByWay_X1_moved
set_option maxRecDepth 20000 in
theorem ggX5_seekByWay_X1_cellsOff : GoodIn wsX5_seekByWay wsX1_cellsOff := goodIn_r _ [10, 11, 12, 13, 14, 15, 16, 17] (by decide +kernel) (by decide +kernel)
set_option maxRecDepth 20000 in
theorem gX5_seekByWay_X1_cellsOff : GoodIn wsX5_seekByWay (va_wsS RX5 38 yX1_cellsOff wsX1_cellsOff) := goodIn_app (goodIn_of _ (by decide +kernel)) ggX5_seekByWay_X1_cellsOff
set_option maxRecDepth 20000 in
theorem ggX5_seekByWay_X1_placingAt : GoodIn wsX5_seekByWay wsX1_placingAt := goodIn_r _ [20] (by decide +kernel) (by decide +kernel)
set_option maxRecDepth 20000 in
theorem gX5_seekByWay_X1_placingAt : GoodIn wsX5_seekByWay (va_wsS RX5 42 yX1_placingAt wsX1_placingAt) := goodIn_app (goodIn_of _ (by decide +kernel)) ggX5_seekByWay_X1_placingAt
theorem dX5_seekByWay_0 : decode cX5_seekByWay 0 = .ok (.iconst 0, 1) := by decide +kernel
theorem dX5_seekByWay_1 : decode cX5_seekByWay 1 = .ok (.istore 8, 2) := by decide +kernel
theorem dX5_seekByWay_3 : decode cX5_seekByWay 3 = .ok (.iload 8, 2) := by decide +kernel
theorem dX5_seekByWay_5 : decode cX5_seekByWay 5 = .ok (.bipush 8, 2) := by decide +kernel
theorem dX5_seekByWay_7 : decode cX5_seekByWay 7 = .ok (.if_icmp .ge 70, 3) := by decide +kernel
theorem dX5_seekByWay_10 : decode cX5_seekByWay 10 = .ok (.iconst 0, 1) := by decide +kernel
theorem dX5_seekByWay_11 : decode cX5_seekByWay 11 = .ok (.istore 9, 2) := by decide +kernel
theorem dX5_seekByWay_13 : decode cX5_seekByWay 13 = .ok (.iload 9, 2) := by decide +kernel
theorem dX5_seekByWay_15 : decode cX5_seekByWay 15 = .ok (.bipush 8, 2) := by decide +kernel
theorem dX5_seekByWay_17 : decode cX5_seekByWay 17 = .ok (.if_icmp .ge 54, 3) := by decide +kernel
theorem dX5_seekByWay_20 : decode cX5_seekByWay 20 = .ok (.lload 4, 2) := by decide +kernel
theorem dX5_seekByWay_22 : decode cX5_seekByWay 22 = .ok (.lload_n 1, 1) := by decide +kernel
theorem dX5_seekByWay_23 : decode cX5_seekByWay 23 = .ok (.iload 8, 2) := by decide +kernel
theorem dX5_seekByWay_25 : decode cX5_seekByWay 25 = .ok (.iload 9, 2) := by decide +kernel
theorem dX5_seekByWay_27 : decode cX5_seekByWay 27 = .ok (.invokestatic 32, 3) := by decide +kernel
theorem dX5_seekByWay_30 : decode cX5_seekByWay 30 = .ok (.lor, 1) := by decide +kernel
theorem dX5_seekByWay_31 : decode cX5_seekByWay 31 = .ok (.lload 6, 2) := by decide +kernel
theorem dX5_seekByWay_33 : decode cX5_seekByWay 33 = .ok (.invokestatic 38, 3) := by decide +kernel
theorem dX5_seekByWay_36 : decode cX5_seekByWay 36 = .ok (.istore 10, 2) := by decide +kernel
theorem dX5_seekByWay_38 : decode cX5_seekByWay 38 = .ok (.iload 10, 2) := by decide +kernel
theorem dX5_seekByWay_40 : decode cX5_seekByWay 40 = .ok (.aload_n 0, 1) := by decide +kernel
theorem dX5_seekByWay_41 : decode cX5_seekByWay 41 = .ok (.getfield 15, 3) := by decide +kernel
theorem dX5_seekByWay_44 : decode cX5_seekByWay 44 = .ok (.if_icmp .ge 21, 3) := by decide +kernel
theorem dX5_seekByWay_47 : decode cX5_seekByWay 47 = .ok (.aload_n 0, 1) := by decide +kernel
theorem dX5_seekByWay_48 : decode cX5_seekByWay 48 = .ok (.iload 10, 2) := by decide +kernel
theorem dX5_seekByWay_50 : decode cX5_seekByWay 50 = .ok (.putfield 15, 3) := by decide +kernel
theorem dX5_seekByWay_53 : decode cX5_seekByWay 53 = .ok (.aload_n 0, 1) := by decide +kernel
theorem dX5_seekByWay_54 : decode cX5_seekByWay 54 = .ok (.iload_n 3, 1) := by decide +kernel
theorem dX5_seekByWay_55 : decode cX5_seekByWay 55 = .ok (.iload 8, 2) := by decide +kernel
theorem dX5_seekByWay_57 : decode cX5_seekByWay 57 = .ok (.iload 9, 2) := by decide +kernel
theorem dX5_seekByWay_59 : decode cX5_seekByWay 59 = .ok (.invokestatic 42, 3) := by decide +kernel
theorem dX5_seekByWay_62 : decode cX5_seekByWay 62 = .ok (.putfield 9, 3) := by decide +kernel
theorem dX5_seekByWay_65 : decode cX5_seekByWay 65 = .ok (.iinc 9 1, 3) := by decide +kernel
theorem dX5_seekByWay_68 : decode cX5_seekByWay 68 = .ok (.goto (-55), 3) := by decide +kernel
theorem dX5_seekByWay_71 : decode cX5_seekByWay 71 = .ok (.iinc 8 1, 3) := by decide +kernel
theorem dX5_seekByWay_74 : decode cX5_seekByWay 74 = .ok (.goto (-71), 3) := by decide +kernel
theorem dX5_seekByWay_77 : decode cX5_seekByWay 77 = .ok (.return_, 1) := by decide +kernel
set_option maxRecDepth 20000 in
theorem ggX5_nearestOnes_X6_isTorn : GoodIn wsX5_nearestOnes wsX6_isTorn := goodIn_r _ [6, 7, 73, 74, 75, 76, 77, 78, 79, 80, 81] (by decide +kernel) (by decide +kernel)
set_option maxRecDepth 20000 in
theorem gX5_nearestOnes_X6_isTorn : GoodIn wsX5_nearestOnes (wsV RX5 49 RX6 yX6_isTorn wsX6_isTorn) := goodIn_app (goodIn_of _ (by decide +kernel)) ggX5_nearestOnes_X6_isTorn
set_option maxRecDepth 20000 in
theorem ggX5_nearestOnes_X5_seek : GoodIn wsX5_nearestOnes wsX5_seek := goodIn_r _ [12, 13, 1, 14, 15, 16, 5, 17, 18, 19, 20, 21, 22, 23, 24, 25, 26, 27, 28, 29, 30, 31, 32, 33, 34, 35, 36, 37, 38, 39, 40, 41, 42, 43, 44, 45, 46, 47, 48, 49, 50, 51, 52, 53, 54, 11, 55, 56, 57, 58, 59, 60, 61, 62, 63, 64, 65, 66, 67, 68, 69, 70, 71, 72, 82, 83, 73, 74, 75, 76, 77, 78, 79, 80, 81] (by decide +kernel) (by decide +kernel)
set_option maxRecDepth 20000 in
theorem gX5_nearestOnes_X5_seek : GoodIn wsX5_nearestOnes (wsV RX5 56 RX5 yX5_seek wsX5_seek) := goodIn_app (goodIn_of _ (by decide +kernel)) ggX5_nearestOnes_X5_seek
theorem dX5_nearestOnes_0 : decode cX5_nearestOnes 0 = .ok (.iconst 0, 1) := by decide +kernel
theorem dX5_nearestOnes_1 : decode cX5_nearestOnes 1 = .ok (.istore_n 3, 1) := by decide +kernel
theorem dX5_nearestOnes_2 : decode cX5_nearestOnes 2 = .ok (.bipush 65, 2) := by decide +kernel
theorem dX5_nearestOnes_4 : decode cX5_nearestOnes 4 = .ok (.istore 4, 2) := by decide +kernel
theorem dX5_nearestOnes_6 : decode cX5_nearestOnes 6 = .ok (.iconst 0, 1) := by decide +kernel
theorem dX5_nearestOnes_7 : decode cX5_nearestOnes 7 = .ok (.istore 5, 2) := by decide +kernel
theorem dX5_nearestOnes_9 : decode cX5_nearestOnes 9 = .ok (.iload 5, 2) := by decide +kernel
theorem dX5_nearestOnes_11 : decode cX5_nearestOnes 11 = .ok (.aload_n 1, 1) := by decide +kernel
theorem dX5_nearestOnes_12 : decode cX5_nearestOnes 12 = .ok (.getfield 46, 3) := by decide +kernel
theorem dX5_nearestOnes_15 : decode cX5_nearestOnes 15 = .ok (.if_icmp .ge 68, 3) := by decide +kernel
theorem dX5_nearestOnes_18 : decode cX5_nearestOnes 18 = .ok (.aload_n 1, 1) := by decide +kernel
theorem dX5_nearestOnes_19 : decode cX5_nearestOnes 19 = .ok (.iload 5, 2) := by decide +kernel
theorem dX5_nearestOnes_21 : decode cX5_nearestOnes 21 = .ok (.invokevirtual 49, 3) := by decide +kernel
theorem dX5_nearestOnes_24 : decode cX5_nearestOnes 24 = .ok (.ifCond .eq 6, 3) := by decide +kernel
theorem dX5_nearestOnes_27 : decode cX5_nearestOnes 27 = .ok (.goto 50, 3) := by decide +kernel
theorem dX5_nearestOnes_30 : decode cX5_nearestOnes 30 = .ok (.aload_n 0, 1) := by decide +kernel
theorem dX5_nearestOnes_31 : decode cX5_nearestOnes 31 = .ok (.aload_n 1, 1) := by decide +kernel
theorem dX5_nearestOnes_32 : decode cX5_nearestOnes 32 = .ok (.iload 5, 2) := by decide +kernel
theorem dX5_nearestOnes_34 : decode cX5_nearestOnes 34 = .ok (.lconst 0, 1) := by decide +kernel
theorem dX5_nearestOnes_35 : decode cX5_nearestOnes 35 = .ok (.aload_n 1, 1) := by decide +kernel
theorem dX5_nearestOnes_36 : decode cX5_nearestOnes 36 = .ok (.getfield 52, 3) := by decide +kernel
theorem dX5_nearestOnes_39 : decode cX5_nearestOnes 39 = .ok (.iload_n 2, 1) := by decide +kernel
theorem dX5_nearestOnes_40 : decode cX5_nearestOnes 40 = .ok (.laload, 1) := by decide +kernel
theorem dX5_nearestOnes_41 : decode cX5_nearestOnes 41 = .ok (.invokevirtual 56, 3) := by decide +kernel
theorem dX5_nearestOnes_44 : decode cX5_nearestOnes 44 = .ok (.aload_n 0, 1) := by decide +kernel
theorem dX5_nearestOnes_45 : decode cX5_nearestOnes 45 = .ok (.getfield 15, 3) := by decide +kernel
theorem dX5_nearestOnes_48 : decode cX5_nearestOnes 48 = .ok (.iload 4, 2) := by decide +kernel
theorem dX5_nearestOnes_50 : decode cX5_nearestOnes 50 = .ok (.if_icmp .ge 11, 3) := by decide +kernel
theorem dX5_nearestOnes_53 : decode cX5_nearestOnes 53 = .ok (.aload_n 0, 1) := by decide +kernel
theorem dX5_nearestOnes_54 : decode cX5_nearestOnes 54 = .ok (.getfield 15, 3) := by decide +kernel
theorem dX5_nearestOnes_57 : decode cX5_nearestOnes 57 = .ok (.istore 4, 2) := by decide +kernel
theorem dX5_nearestOnes_59 : decode cX5_nearestOnes 59 = .ok (.iconst 0, 1) := by decide +kernel
theorem dX5_nearestOnes_60 : decode cX5_nearestOnes 60 = .ok (.istore_n 3, 1) := by decide +kernel
theorem dX5_nearestOnes_61 : decode cX5_nearestOnes 61 = .ok (.aload_n 0, 1) := by decide +kernel
theorem dX5_nearestOnes_62 : decode cX5_nearestOnes 62 = .ok (.getfield 15, 3) := by decide +kernel
theorem dX5_nearestOnes_65 : decode cX5_nearestOnes 65 = .ok (.iload 4, 2) := by decide +kernel
theorem dX5_nearestOnes_67 : decode cX5_nearestOnes 67 = .ok (.if_icmp .ne 10, 3) := by decide +kernel
theorem dX5_nearestOnes_70 : decode cX5_nearestOnes 70 = .ok (.iload_n 3, 1) := by decide +kernel
theorem dX5_nearestOnes_71 : decode cX5_nearestOnes 71 = .ok (.iconst 1, 1) := by decide +kernel
theorem dX5_nearestOnes_72 : decode cX5_nearestOnes 72 = .ok (.iload 5, 2) := by decide +kernel
theorem dX5_nearestOnes_74 : decode cX5_nearestOnes 74 = .ok (.ishl, 1) := by decide +kernel
theorem dX5_nearestOnes_75 : decode cX5_nearestOnes 75 = .ok (.ior, 1) := by decide +kernel
theorem dX5_nearestOnes_76 : decode cX5_nearestOnes 76 = .ok (.istore_n 3, 1) := by decide +kernel
theorem dX5_nearestOnes_77 : decode cX5_nearestOnes 77 = .ok (.iinc 5 1, 3) := by decide +kernel
theorem dX5_nearestOnes_80 : decode cX5_nearestOnes 80 = .ok (.goto (-71), 3) := by decide +kernel
theorem dX5_nearestOnes_83 : decode cX5_nearestOnes 83 = .ok (.iload_n 3, 1) := by decide +kernel
theorem dX5_nearestOnes_84 : decode cX5_nearestOnes 84 = .ok (.ireturn, 1) := by decide +kernel
set_option maxRecDepth 20000 in
theorem ggX5_addOne_X1_cellsOff : GoodIn wsX5_addOne wsX1_cellsOff := goodIn_r _ [6, 7, 8, 9, 10, 11, 12, 13] (by decide +kernel) (by decide +kernel)
set_option maxRecDepth 20000 in
theorem gX5_addOne_X1_cellsOff : GoodIn wsX5_addOne (va_wsS RX5 38 yX1_cellsOff wsX1_cellsOff) := goodIn_app (goodIn_of _ (by decide +kernel)) ggX5_addOne_X1_cellsOff
set_option maxRecDepth 20000 in
theorem ggX5_addOne_X6_isTorn : GoodIn wsX5_addOne wsX6_isTorn := goodIn_r _ [18, 19, 83, 84, 85, 86, 87, 88, 89, 90, 91] (by decide +kernel) (by decide +kernel)
set_option maxRecDepth 20000 in
theorem gX5_addOne_X6_isTorn : GoodIn wsX5_addOne (wsV RX5 49 RX6 yX6_isTorn wsX6_isTorn) := goodIn_app (goodIn_of _ (by decide +kernel)) ggX5_addOne_X6_isTorn
set_option maxRecDepth 20000 in
theorem ggX5_addOne_X6_holdOf : GoodIn wsX5_addOne wsX6_holdOf := goodIn_r _ [23, 24, 83, 84, 85, 86, 87, 88, 89, 90, 91] (by decide +kernel) (by decide +kernel)
set_option maxRecDepth 20000 in
theorem gX5_addOne_X6_holdOf : GoodIn wsX5_addOne (wsV RX5 60 RX6 yX6_holdOf wsX6_holdOf) := goodIn_app (goodIn_of _ (by decide +kernel)) ggX5_addOne_X6_holdOf
set_option maxRecDepth 20000 in
theorem ggX5_addOne_X5_seek : GoodIn wsX5_addOne wsX5_seek := goodIn_r _ [29, 2, 1, 30, 31, 32, 17, 33, 34, 35, 36, 37, 38, 39, 40, 41, 42, 43, 44, 45, 46, 47, 48, 49, 50, 51, 52, 53, 54, 55, 56, 57, 58, 59, 60, 61, 62, 63, 64, 5, 65, 66, 67, 68, 69, 28, 70, 71, 72, 73, 74, 3, 4, 6, 7, 8, 9, 10, 11, 12, 13, 75, 76, 77, 92, 93, 83, 84, 85, 86, 87, 88, 89, 90, 91] (by decide +kernel) (by decide +kernel)
set_option maxRecDepth 20000 in
theorem gX5_addOne_X5_seek : GoodIn wsX5_addOne (wsV RX5 56 RX5 yX5_seek wsX5_seek) := goodIn_app (goodIn_of _ (by decide +kernel)) ggX5_addOne_X5_seek
set_option maxRecDepth 20000 in
theorem ggX5_addOne_X6_take : GoodIn wsX5_addOne wsX6_take := goodIn_r _ [81, 24, 82, 83, 84, 85, 86, 87, 88, 89, 90, 91] (by decide +kernel) (by decide +kernel)
set_option maxRecDepth 20000 in
theorem gX5_addOne_X6_take : GoodIn wsX5_addOne (wsV RX5 64 RX6 yX6_take wsX6_take) := goodIn_app (goodIn_of _ (by decide +kernel)) ggX5_addOne_X6_take
theorem dX5_addOne_0 : decode cX5_addOne 0 = .ok (.lload_n 3, 1) := by decide +kernel
theorem dX5_addOne_1 : decode cX5_addOne 1 = .ok (.lload 5, 2) := by decide +kernel
theorem dX5_addOne_3 : decode cX5_addOne 3 = .ok (.invokestatic 38, 3) := by decide +kernel
theorem dX5_addOne_6 : decode cX5_addOne 6 = .ok (.istore 7, 2) := by decide +kernel
theorem dX5_addOne_8 : decode cX5_addOne 8 = .ok (.iconst (-1), 1) := by decide +kernel
theorem dX5_addOne_9 : decode cX5_addOne 9 = .ok (.istore 8, 2) := by decide +kernel
theorem dX5_addOne_11 : decode cX5_addOne 11 = .ok (.iconst (-1), 1) := by decide +kernel
theorem dX5_addOne_12 : decode cX5_addOne 12 = .ok (.istore 9, 2) := by decide +kernel
theorem dX5_addOne_14 : decode cX5_addOne 14 = .ok (.iconst 0, 1) := by decide +kernel
theorem dX5_addOne_15 : decode cX5_addOne 15 = .ok (.istore 10, 2) := by decide +kernel
theorem dX5_addOne_17 : decode cX5_addOne 17 = .ok (.iload 10, 2) := by decide +kernel
theorem dX5_addOne_19 : decode cX5_addOne 19 = .ok (.aload_n 1, 1) := by decide +kernel
theorem dX5_addOne_20 : decode cX5_addOne 20 = .ok (.getfield 46, 3) := by decide +kernel
theorem dX5_addOne_23 : decode cX5_addOne 23 = .ok (.if_icmp .ge 65, 3) := by decide +kernel
theorem dX5_addOne_26 : decode cX5_addOne 26 = .ok (.aload_n 1, 1) := by decide +kernel
theorem dX5_addOne_27 : decode cX5_addOne 27 = .ok (.iload 10, 2) := by decide +kernel
theorem dX5_addOne_29 : decode cX5_addOne 29 = .ok (.invokevirtual 49, 3) := by decide +kernel
theorem dX5_addOne_32 : decode cX5_addOne 32 = .ok (.ifCond .ne 50, 3) := by decide +kernel
theorem dX5_addOne_35 : decode cX5_addOne 35 = .ok (.aload_n 1, 1) := by decide +kernel
theorem dX5_addOne_36 : decode cX5_addOne 36 = .ok (.iload 10, 2) := by decide +kernel
theorem dX5_addOne_38 : decode cX5_addOne 38 = .ok (.invokevirtual 60, 3) := by decide +kernel
theorem dX5_addOne_41 : decode cX5_addOne 41 = .ok (.ifCond .lt 6, 3) := by decide +kernel
theorem dX5_addOne_44 : decode cX5_addOne 44 = .ok (.goto 38, 3) := by decide +kernel
theorem dX5_addOne_47 : decode cX5_addOne 47 = .ok (.aload_n 0, 1) := by decide +kernel
theorem dX5_addOne_48 : decode cX5_addOne 48 = .ok (.aload_n 1, 1) := by decide +kernel
theorem dX5_addOne_49 : decode cX5_addOne 49 = .ok (.iload 10, 2) := by decide +kernel
theorem dX5_addOne_51 : decode cX5_addOne 51 = .ok (.lload_n 3, 1) := by decide +kernel
theorem dX5_addOne_52 : decode cX5_addOne 52 = .ok (.lload 5, 2) := by decide +kernel
theorem dX5_addOne_54 : decode cX5_addOne 54 = .ok (.invokevirtual 56, 3) := by decide +kernel
theorem dX5_addOne_57 : decode cX5_addOne 57 = .ok (.aload_n 0, 1) := by decide +kernel
theorem dX5_addOne_58 : decode cX5_addOne 58 = .ok (.getfield 15, 3) := by decide +kernel
theorem dX5_addOne_61 : decode cX5_addOne 61 = .ok (.iload 7, 2) := by decide +kernel
theorem dX5_addOne_63 : decode cX5_addOne 63 = .ok (.if_icmp .ge 19, 3) := by decide +kernel
theorem dX5_addOne_66 : decode cX5_addOne 66 = .ok (.aload_n 0, 1) := by decide +kernel
theorem dX5_addOne_67 : decode cX5_addOne 67 = .ok (.getfield 15, 3) := by decide +kernel
theorem dX5_addOne_70 : decode cX5_addOne 70 = .ok (.istore 7, 2) := by decide +kernel
theorem dX5_addOne_72 : decode cX5_addOne 72 = .ok (.iload 10, 2) := by decide +kernel
theorem dX5_addOne_74 : decode cX5_addOne 74 = .ok (.istore 8, 2) := by decide +kernel
theorem dX5_addOne_76 : decode cX5_addOne 76 = .ok (.aload_n 0, 1) := by decide +kernel
theorem dX5_addOne_77 : decode cX5_addOne 77 = .ok (.getfield 9, 3) := by decide +kernel
theorem dX5_addOne_80 : decode cX5_addOne 80 = .ok (.istore 9, 2) := by decide +kernel
theorem dX5_addOne_82 : decode cX5_addOne 82 = .ok (.iinc 10 1, 3) := by decide +kernel
theorem dX5_addOne_85 : decode cX5_addOne 85 = .ok (.goto (-68), 3) := by decide +kernel
theorem dX5_addOne_88 : decode cX5_addOne 88 = .ok (.iload 8, 2) := by decide +kernel
theorem dX5_addOne_90 : decode cX5_addOne 90 = .ok (.ifCond .ge 5, 3) := by decide +kernel
theorem dX5_addOne_93 : decode cX5_addOne 93 = .ok (.iconst 0, 1) := by decide +kernel
theorem dX5_addOne_94 : decode cX5_addOne 94 = .ok (.ireturn, 1) := by decide +kernel
theorem dX5_addOne_95 : decode cX5_addOne 95 = .ok (.aload_n 1, 1) := by decide +kernel
theorem dX5_addOne_96 : decode cX5_addOne 96 = .ok (.iload_n 2, 1) := by decide +kernel
theorem dX5_addOne_97 : decode cX5_addOne 97 = .ok (.iload 8, 2) := by decide +kernel
theorem dX5_addOne_99 : decode cX5_addOne 99 = .ok (.iload 9, 2) := by decide +kernel
theorem dX5_addOne_101 : decode cX5_addOne 101 = .ok (.invokevirtual 64, 3) := by decide +kernel
theorem dX5_addOne_104 : decode cX5_addOne 104 = .ok (.iconst 1, 1) := by decide +kernel
theorem dX5_addOne_105 : decode cX5_addOne 105 = .ok (.ireturn, 1) := by decide +kernel
set_option maxRecDepth 20000 in
theorem ggX5_placingsWithin_X6_isAllowed : GoodIn wsX5_placingsWithin wsX6_isAllowed := goodIn_r _ [5, 6, 49, 50, 51, 52, 53, 54, 55, 56, 57] (by decide +kernel) (by decide +kernel)
set_option maxRecDepth 20000 in
theorem gX5_placingsWithin_X6_isAllowed : GoodIn wsX5_placingsWithin (wsV RX5 18 RX6 yX6_isAllowed wsX6_isAllowed) := goodIn_app (goodIn_of _ (by decide +kernel)) ggX5_placingsWithin_X6_isAllowed
set_option maxRecDepth 20000 in
theorem ggX5_placingsWithin_X6_cornerBy : GoodIn wsX5_placingsWithin wsX6_cornerBy := goodIn_r _ [10, 11, 12, 13, 14, 15, 16, 17, 18, 19, 20, 21, 22, 23, 24, 25, 26, 27, 28, 29, 30, 31, 32, 33, 34, 35, 36, 37, 38, 39, 49, 50, 51, 52, 53, 54, 55, 56, 57] (by decide +kernel) (by decide +kernel)
set_option maxRecDepth 20000 in
theorem gX5_placingsWithin_X6_cornerBy : GoodIn wsX5_placingsWithin (wsV RX5 24 RX6 yX6_cornerBy wsX6_cornerBy) := goodIn_app (goodIn_of _ (by decide +kernel)) ggX5_placingsWithin_X6_cornerBy
set_option maxRecDepth 20000 in
theorem ggX5_placingsWithin_X5_placesWithin : GoodIn wsX5_placingsWithin wsX5_placesWithin := goodIn_r _ [43, 44, 45, 46, 37, 47, 48] (by decide +kernel) (by decide +kernel)
set_option maxRecDepth 20000 in
theorem gX5_placingsWithin_X5_placesWithin : GoodIn wsX5_placingsWithin (va_wsS RX5 68 yX5_placesWithin wsX5_placesWithin) := goodIn_app (goodIn_of _ (by decide +kernel)) ggX5_placingsWithin_X5_placesWithin
theorem dX5_placingsWithin_0 : decode cX5_placingsWithin 0 = .ok (.iconst 0, 1) := by decide +kernel
theorem dX5_placingsWithin_1 : decode cX5_placingsWithin 1 = .ok (.istore 5, 2) := by decide +kernel
theorem dX5_placingsWithin_3 : decode cX5_placingsWithin 3 = .ok (.iconst 4, 1) := by decide +kernel
theorem dX5_placingsWithin_4 : decode cX5_placingsWithin 4 = .ok (.istore 6, 2) := by decide +kernel
theorem dX5_placingsWithin_6 : decode cX5_placingsWithin 6 = .ok (.iload 6, 2) := by decide +kernel
theorem dX5_placingsWithin_8 : decode cX5_placingsWithin 8 = .ok (.bipush 11, 2) := by decide +kernel
theorem dX5_placingsWithin_10 : decode cX5_placingsWithin 10 = .ok (.if_icmp .gt 34, 3) := by decide +kernel
theorem dX5_placingsWithin_13 : decode cX5_placingsWithin 13 = .ok (.aload_n 1, 1) := by decide +kernel
theorem dX5_placingsWithin_14 : decode cX5_placingsWithin 14 = .ok (.iload 6, 2) := by decide +kernel
theorem dX5_placingsWithin_16 : decode cX5_placingsWithin 16 = .ok (.invokevirtual 18, 3) := by decide +kernel
theorem dX5_placingsWithin_19 : decode cX5_placingsWithin 19 = .ok (.ifCond .eq 19, 3) := by decide +kernel
theorem dX5_placingsWithin_22 : decode cX5_placingsWithin 22 = .ok (.iload 5, 2) := by decide +kernel
theorem dX5_placingsWithin_24 : decode cX5_placingsWithin 24 = .ok (.aload_n 1, 1) := by decide +kernel
theorem dX5_placingsWithin_25 : decode cX5_placingsWithin 25 = .ok (.iload_n 2, 1) := by decide +kernel
theorem dX5_placingsWithin_26 : decode cX5_placingsWithin 26 = .ok (.iload 6, 2) := by decide +kernel
theorem dX5_placingsWithin_28 : decode cX5_placingsWithin 28 = .ok (.invokevirtual 24, 3) := by decide +kernel
theorem dX5_placingsWithin_31 : decode cX5_placingsWithin 31 = .ok (.lload_n 3, 1) := by decide +kernel
theorem dX5_placingsWithin_32 : decode cX5_placingsWithin 32 = .ok (.invokestatic 68, 3) := by decide +kernel
theorem dX5_placingsWithin_35 : decode cX5_placingsWithin 35 = .ok (.iadd, 1) := by decide +kernel
theorem dX5_placingsWithin_36 : decode cX5_placingsWithin 36 = .ok (.istore 5, 2) := by decide +kernel
theorem dX5_placingsWithin_38 : decode cX5_placingsWithin 38 = .ok (.iinc 6 1, 3) := by decide +kernel
theorem dX5_placingsWithin_41 : decode cX5_placingsWithin 41 = .ok (.goto (-35), 3) := by decide +kernel
theorem dX5_placingsWithin_44 : decode cX5_placingsWithin 44 = .ok (.iload 5, 2) := by decide +kernel
theorem dX5_placingsWithin_46 : decode cX5_placingsWithin 46 = .ok (.ireturn, 1) := by decide +kernel
set_option maxRecDepth 20000 in
theorem ggX5_placesWithin_X1_moved : GoodIn wsX5_placesWithin wsX1_moved := goodIn_r _ [5, 6] (by decide +kernel) (by decide +kernel)
set_option maxRecDepth 20000 in
theorem gX5_placesWithin_X1_moved : GoodIn wsX5_placesWithin (va_wsS RX5 32 yX1_moved wsX1_moved) := goodIn_app (goodIn_of _ (by decide +kernel)) ggX5_placesWithin_X1_moved
theorem dX5_placesWithin_0 : decode cX5_placesWithin 0 = .ok (.iconst 0, 1) := by decide +kernel
theorem dX5_placesWithin_1 : decode cX5_placesWithin 1 = .ok (.istore 4, 2) := by decide +kernel
theorem dX5_placesWithin_3 : decode cX5_placesWithin 3 = .ok (.iconst 0, 1) := by decide +kernel
theorem dX5_placesWithin_4 : decode cX5_placesWithin 4 = .ok (.istore 5, 2) := by decide +kernel
theorem dX5_placesWithin_6 : decode cX5_placesWithin 6 = .ok (.iload 5, 2) := by decide +kernel
theorem dX5_placesWithin_8 : decode cX5_placesWithin 8 = .ok (.bipush 8, 2) := by decide +kernel
theorem dX5_placesWithin_10 : decode cX5_placesWithin 10 = .ok (.if_icmp .ge 58, 3) := by decide +kernel
theorem dX5_placesWithin_13 : decode cX5_placesWithin 13 = .ok (.iconst 0, 1) := by decide +kernel
theorem dX5_placesWithin_14 : decode cX5_placesWithin 14 = .ok (.istore 6, 2) := by decide +kernel
theorem dX5_placesWithin_16 : decode cX5_placesWithin 16 = .ok (.iload 6, 2) := by decide +kernel
theorem dX5_placesWithin_18 : decode cX5_placesWithin 18 = .ok (.bipush 8, 2) := by decide +kernel
theorem dX5_placesWithin_20 : decode cX5_placesWithin 20 = .ok (.if_icmp .ge 42, 3) := by decide +kernel
theorem dX5_placesWithin_23 : decode cX5_placesWithin 23 = .ok (.lload_n 0, 1) := by decide +kernel
theorem dX5_placesWithin_24 : decode cX5_placesWithin 24 = .ok (.iload 5, 2) := by decide +kernel
theorem dX5_placesWithin_26 : decode cX5_placesWithin 26 = .ok (.iload 6, 2) := by decide +kernel
theorem dX5_placesWithin_28 : decode cX5_placesWithin 28 = .ok (.invokestatic 32, 3) := by decide +kernel
theorem dX5_placesWithin_31 : decode cX5_placesWithin 31 = .ok (.lstore 7, 2) := by decide +kernel
theorem dX5_placesWithin_33 : decode cX5_placesWithin 33 = .ok (.lload 7, 2) := by decide +kernel
theorem dX5_placesWithin_35 : decode cX5_placesWithin 35 = .ok (.lconst 0, 1) := by decide +kernel
theorem dX5_placesWithin_36 : decode cX5_placesWithin 36 = .ok (.lcmp, 1) := by decide +kernel
theorem dX5_placesWithin_37 : decode cX5_placesWithin 37 = .ok (.ifCond .eq 19, 3) := by decide +kernel
theorem dX5_placesWithin_40 : decode cX5_placesWithin 40 = .ok (.lload 7, 2) := by decide +kernel
theorem dX5_placesWithin_42 : decode cX5_placesWithin 42 = .ok (.lload_n 2, 1) := by decide +kernel
theorem dX5_placesWithin_43 : decode cX5_placesWithin 43 = .ok (.ldc2_w 71, 3) := by decide +kernel
theorem dX5_placesWithin_46 : decode cX5_placesWithin 46 = .ok (.lxor, 1) := by decide +kernel
theorem dX5_placesWithin_47 : decode cX5_placesWithin 47 = .ok (.land, 1) := by decide +kernel
theorem dX5_placesWithin_48 : decode cX5_placesWithin 48 = .ok (.lconst 0, 1) := by decide +kernel
theorem dX5_placesWithin_49 : decode cX5_placesWithin 49 = .ok (.lcmp, 1) := by decide +kernel
theorem dX5_placesWithin_50 : decode cX5_placesWithin 50 = .ok (.ifCond .ne 6, 3) := by decide +kernel
theorem dX5_placesWithin_53 : decode cX5_placesWithin 53 = .ok (.iinc 4 1, 3) := by decide +kernel
theorem dX5_placesWithin_56 : decode cX5_placesWithin 56 = .ok (.iinc 6 1, 3) := by decide +kernel
theorem dX5_placesWithin_59 : decode cX5_placesWithin 59 = .ok (.goto (-43), 3) := by decide +kernel
theorem dX5_placesWithin_62 : decode cX5_placesWithin 62 = .ok (.iinc 5 1, 3) := by decide +kernel
theorem dX5_placesWithin_65 : decode cX5_placesWithin 65 = .ok (.goto (-59), 3) := by decide +kernel
theorem dX5_placesWithin_68 : decode cX5_placesWithin 68 = .ok (.iload 4, 2) := by decide +kernel
theorem dX5_placesWithin_70 : decode cX5_placesWithin 70 = .ok (.ireturn, 1) := by decide +kernel
theorem dX6_init_0 : decode cX6_init 0 = .ok (.aload_n 0, 1) := by decide +kernel
theorem dX6_init_1 : decode cX6_init 1 = .ok (.invokespecial 3, 3) := by decide +kernel
theorem dX6_init_4 : decode cX6_init 4 = .ok (.aload_n 0, 1) := by decide +kernel
theorem dX6_init_5 : decode cX6_init 5 = .ok (.iconst 0, 1) := by decide +kernel
theorem dX6_init_6 : decode cX6_init 6 = .ok (.putfield 9, 3) := by decide +kernel
theorem dX6_init_9 : decode cX6_init 9 = .ok (.aload_n 0, 1) := by decide +kernel
theorem dX6_init_10 : decode cX6_init 10 = .ok (.bipush 9, 2) := by decide +kernel
theorem dX6_init_12 : decode cX6_init 12 = .ok (.newarray .int, 2) := by decide +kernel
theorem dX6_init_14 : decode cX6_init 14 = .ok (.putfield 15, 3) := by decide +kernel
theorem dX6_init_17 : decode cX6_init 17 = .ok (.aload_n 0, 1) := by decide +kernel
theorem dX6_init_18 : decode cX6_init 18 = .ok (.bipush 9, 2) := by decide +kernel
theorem dX6_init_20 : decode cX6_init 20 = .ok (.newarray .int, 2) := by decide +kernel
theorem dX6_init_22 : decode cX6_init 22 = .ok (.putfield 19, 3) := by decide +kernel
theorem dX6_init_25 : decode cX6_init 25 = .ok (.aload_n 0, 1) := by decide +kernel
theorem dX6_init_26 : decode cX6_init 26 = .ok (.iconst 0, 1) := by decide +kernel
theorem dX6_init_27 : decode cX6_init 27 = .ok (.putfield 22, 3) := by decide +kernel
theorem dX6_init_30 : decode cX6_init 30 = .ok (.aload_n 0, 1) := by decide +kernel
theorem dX6_init_31 : decode cX6_init 31 = .ok (.iconst 4, 1) := by decide +kernel
theorem dX6_init_32 : decode cX6_init 32 = .ok (.newarray .int, 2) := by decide +kernel
theorem dX6_init_34 : decode cX6_init 34 = .ok (.putfield 25, 3) := by decide +kernel
theorem dX6_init_37 : decode cX6_init 37 = .ok (.aload_n 0, 1) := by decide +kernel
theorem dX6_init_38 : decode cX6_init 38 = .ok (.iconst 4, 1) := by decide +kernel
theorem dX6_init_39 : decode cX6_init 39 = .ok (.newarray .int, 2) := by decide +kernel
theorem dX6_init_41 : decode cX6_init 41 = .ok (.putfield 28, 3) := by decide +kernel
theorem dX6_init_44 : decode cX6_init 44 = .ok (.aload_n 0, 1) := by decide +kernel
theorem dX6_init_45 : decode cX6_init 45 = .ok (.iconst 0, 1) := by decide +kernel
theorem dX6_init_46 : decode cX6_init 46 = .ok (.putfield 31, 3) := by decide +kernel
theorem dX6_init_49 : decode cX6_init 49 = .ok (.aload_n 0, 1) := by decide +kernel
theorem dX6_init_50 : decode cX6_init 50 = .ok (.bipush 7, 2) := by decide +kernel
theorem dX6_init_52 : decode cX6_init 52 = .ok (.newarray .long, 2) := by decide +kernel
theorem dX6_init_54 : decode cX6_init 54 = .ok (.putfield 34, 3) := by decide +kernel
theorem dX6_init_57 : decode cX6_init 57 = .ok (.aload_n 0, 1) := by decide +kernel
theorem dX6_init_58 : decode cX6_init 58 = .ok (.bipush 63, 2) := by decide +kernel
theorem dX6_init_60 : decode cX6_init 60 = .ok (.putfield 38, 3) := by decide +kernel
theorem dX6_init_63 : decode cX6_init 63 = .ok (.iconst 0, 1) := by decide +kernel
theorem dX6_init_64 : decode cX6_init 64 = .ok (.istore_n 1, 1) := by decide +kernel
theorem dX6_init_65 : decode cX6_init 65 = .ok (.iload_n 1, 1) := by decide +kernel
theorem dX6_init_66 : decode cX6_init 66 = .ok (.iconst 4, 1) := by decide +kernel
theorem dX6_init_67 : decode cX6_init 67 = .ok (.if_icmp .ge 23, 3) := by decide +kernel
theorem dX6_init_70 : decode cX6_init 70 = .ok (.aload_n 0, 1) := by decide +kernel
theorem dX6_init_71 : decode cX6_init 71 = .ok (.getfield 25, 3) := by decide +kernel
theorem dX6_init_74 : decode cX6_init 74 = .ok (.iload_n 1, 1) := by decide +kernel
theorem dX6_init_75 : decode cX6_init 75 = .ok (.iconst (-1), 1) := by decide +kernel
theorem dX6_init_76 : decode cX6_init 76 = .ok (.iastore, 1) := by decide +kernel
theorem dX6_init_77 : decode cX6_init 77 = .ok (.aload_n 0, 1) := by decide +kernel
theorem dX6_init_78 : decode cX6_init 78 = .ok (.getfield 28, 3) := by decide +kernel
theorem dX6_init_81 : decode cX6_init 81 = .ok (.iload_n 1, 1) := by decide +kernel
theorem dX6_init_82 : decode cX6_init 82 = .ok (.iconst (-1), 1) := by decide +kernel
theorem dX6_init_83 : decode cX6_init 83 = .ok (.iastore, 1) := by decide +kernel
theorem dX6_init_84 : decode cX6_init 84 = .ok (.iinc 1 1, 3) := by decide +kernel
theorem dX6_init_87 : decode cX6_init 87 = .ok (.goto (-22), 3) := by decide +kernel
theorem dX6_init_90 : decode cX6_init 90 = .ok (.return_, 1) := by decide +kernel
theorem dX6_takeAll_0 : decode cX6_takeAll 0 = .ok (.aload_n 0, 1) := by decide +kernel
theorem dX6_takeAll_1 : decode cX6_takeAll 1 = .ok (.aload_n 1, 1) := by decide +kernel
theorem dX6_takeAll_2 : decode cX6_takeAll 2 = .ok (.getfield 9, 3) := by decide +kernel
theorem dX6_takeAll_5 : decode cX6_takeAll 5 = .ok (.putfield 9, 3) := by decide +kernel
theorem dX6_takeAll_8 : decode cX6_takeAll 8 = .ok (.aload_n 1, 1) := by decide +kernel
theorem dX6_takeAll_9 : decode cX6_takeAll 9 = .ok (.getfield 15, 3) := by decide +kernel
theorem dX6_takeAll_12 : decode cX6_takeAll 12 = .ok (.iconst 0, 1) := by decide +kernel
theorem dX6_takeAll_13 : decode cX6_takeAll 13 = .ok (.aload_n 0, 1) := by decide +kernel
theorem dX6_takeAll_14 : decode cX6_takeAll 14 = .ok (.getfield 15, 3) := by decide +kernel
theorem dX6_takeAll_17 : decode cX6_takeAll 17 = .ok (.iconst 0, 1) := by decide +kernel
theorem dX6_takeAll_18 : decode cX6_takeAll 18 = .ok (.bipush 9, 2) := by decide +kernel
theorem dX6_takeAll_20 : decode cX6_takeAll 20 = .ok (.invokestatic 41, 3) := by decide +kernel
theorem dX6_takeAll_23 : decode cX6_takeAll 23 = .ok (.aload_n 1, 1) := by decide +kernel
theorem dX6_takeAll_24 : decode cX6_takeAll 24 = .ok (.getfield 19, 3) := by decide +kernel
theorem dX6_takeAll_27 : decode cX6_takeAll 27 = .ok (.iconst 0, 1) := by decide +kernel
theorem dX6_takeAll_28 : decode cX6_takeAll 28 = .ok (.aload_n 0, 1) := by decide +kernel
theorem dX6_takeAll_29 : decode cX6_takeAll 29 = .ok (.getfield 19, 3) := by decide +kernel
theorem dX6_takeAll_32 : decode cX6_takeAll 32 = .ok (.iconst 0, 1) := by decide +kernel
theorem dX6_takeAll_33 : decode cX6_takeAll 33 = .ok (.bipush 9, 2) := by decide +kernel
theorem dX6_takeAll_35 : decode cX6_takeAll 35 = .ok (.invokestatic 41, 3) := by decide +kernel
theorem dX6_takeAll_38 : decode cX6_takeAll 38 = .ok (.aload_n 0, 1) := by decide +kernel
theorem dX6_takeAll_39 : decode cX6_takeAll 39 = .ok (.aload_n 1, 1) := by decide +kernel
theorem dX6_takeAll_40 : decode cX6_takeAll 40 = .ok (.getfield 22, 3) := by decide +kernel
theorem dX6_takeAll_43 : decode cX6_takeAll 43 = .ok (.putfield 22, 3) := by decide +kernel
theorem dX6_takeAll_46 : decode cX6_takeAll 46 = .ok (.aload_n 1, 1) := by decide +kernel
theorem dX6_takeAll_47 : decode cX6_takeAll 47 = .ok (.getfield 25, 3) := by decide +kernel
theorem dX6_takeAll_50 : decode cX6_takeAll 50 = .ok (.iconst 0, 1) := by decide +kernel
theorem dX6_takeAll_51 : decode cX6_takeAll 51 = .ok (.aload_n 0, 1) := by decide +kernel
theorem dX6_takeAll_52 : decode cX6_takeAll 52 = .ok (.getfield 25, 3) := by decide +kernel
theorem dX6_takeAll_55 : decode cX6_takeAll 55 = .ok (.iconst 0, 1) := by decide +kernel
theorem dX6_takeAll_56 : decode cX6_takeAll 56 = .ok (.iconst 4, 1) := by decide +kernel
theorem dX6_takeAll_57 : decode cX6_takeAll 57 = .ok (.invokestatic 41, 3) := by decide +kernel
theorem dX6_takeAll_60 : decode cX6_takeAll 60 = .ok (.aload_n 1, 1) := by decide +kernel
theorem dX6_takeAll_61 : decode cX6_takeAll 61 = .ok (.getfield 28, 3) := by decide +kernel
theorem dX6_takeAll_64 : decode cX6_takeAll 64 = .ok (.iconst 0, 1) := by decide +kernel
theorem dX6_takeAll_65 : decode cX6_takeAll 65 = .ok (.aload_n 0, 1) := by decide +kernel
theorem dX6_takeAll_66 : decode cX6_takeAll 66 = .ok (.getfield 28, 3) := by decide +kernel
theorem dX6_takeAll_69 : decode cX6_takeAll 69 = .ok (.iconst 0, 1) := by decide +kernel
theorem dX6_takeAll_70 : decode cX6_takeAll 70 = .ok (.iconst 4, 1) := by decide +kernel
theorem dX6_takeAll_71 : decode cX6_takeAll 71 = .ok (.invokestatic 41, 3) := by decide +kernel
theorem dX6_takeAll_74 : decode cX6_takeAll 74 = .ok (.aload_n 0, 1) := by decide +kernel
theorem dX6_takeAll_75 : decode cX6_takeAll 75 = .ok (.aload_n 1, 1) := by decide +kernel
theorem dX6_takeAll_76 : decode cX6_takeAll 76 = .ok (.getfield 31, 3) := by decide +kernel
theorem dX6_takeAll_79 : decode cX6_takeAll 79 = .ok (.putfield 31, 3) := by decide +kernel
theorem dX6_takeAll_82 : decode cX6_takeAll 82 = .ok (.aload_n 1, 1) := by decide +kernel
theorem dX6_takeAll_83 : decode cX6_takeAll 83 = .ok (.getfield 34, 3) := by decide +kernel
theorem dX6_takeAll_86 : decode cX6_takeAll 86 = .ok (.iconst 0, 1) := by decide +kernel
theorem dX6_takeAll_87 : decode cX6_takeAll 87 = .ok (.aload_n 0, 1) := by decide +kernel
theorem dX6_takeAll_88 : decode cX6_takeAll 88 = .ok (.getfield 34, 3) := by decide +kernel
theorem dX6_takeAll_91 : decode cX6_takeAll 91 = .ok (.iconst 0, 1) := by decide +kernel
theorem dX6_takeAll_92 : decode cX6_takeAll 92 = .ok (.bipush 7, 2) := by decide +kernel
theorem dX6_takeAll_94 : decode cX6_takeAll 94 = .ok (.invokestatic 41, 3) := by decide +kernel
theorem dX6_takeAll_97 : decode cX6_takeAll 97 = .ok (.aload_n 0, 1) := by decide +kernel
theorem dX6_takeAll_98 : decode cX6_takeAll 98 = .ok (.aload_n 1, 1) := by decide +kernel
theorem dX6_takeAll_99 : decode cX6_takeAll 99 = .ok (.getfield 38, 3) := by decide +kernel
theorem dX6_takeAll_102 : decode cX6_takeAll 102 = .ok (.putfield 38, 3) := by decide +kernel
theorem dX6_takeAll_105 : decode cX6_takeAll 105 = .ok (.return_, 1) := by decide +kernel
theorem dX6_hasShape_0 : decode cX6_hasShape 0 = .ok (.iload_n 1, 1) := by decide +kernel
theorem dX6_hasShape_1 : decode cX6_hasShape 1 = .ok (.ifCond .lt 15, 3) := by decide +kernel
theorem dX6_hasShape_4 : decode cX6_hasShape 4 = .ok (.iload_n 1, 1) := by decide +kernel
theorem dX6_hasShape_5 : decode cX6_hasShape 5 = .ok (.aload_n 0, 1) := by decide +kernel
theorem dX6_hasShape_6 : decode cX6_hasShape 6 = .ok (.getfield 9, 3) := by decide +kernel
theorem dX6_hasShape_9 : decode cX6_hasShape 9 = .ok (.if_icmp .ge 7, 3) := by decide +kernel
theorem dX6_hasShape_12 : decode cX6_hasShape 12 = .ok (.iconst 1, 1) := by decide +kernel
theorem dX6_hasShape_13 : decode cX6_hasShape 13 = .ok (.goto 4, 3) := by decide +kernel
theorem dX6_hasShape_16 : decode cX6_hasShape 16 = .ok (.iconst 0, 1) := by decide +kernel
theorem dX6_hasShape_17 : decode cX6_hasShape 17 = .ok (.ireturn, 1) := by decide +kernel
theorem dX6_hasRoomForShape_0 : decode cX6_hasRoomForShape 0 = .ok (.aload_n 0, 1) := by decide +kernel
theorem dX6_hasRoomForShape_1 : decode cX6_hasRoomForShape 1 = .ok (.getfield 9, 3) := by decide +kernel
theorem dX6_hasRoomForShape_4 : decode cX6_hasRoomForShape 4 = .ok (.bipush 9, 2) := by decide +kernel
theorem dX6_hasRoomForShape_6 : decode cX6_hasRoomForShape 6 = .ok (.if_icmp .ge 7, 3) := by decide +kernel
theorem dX6_hasRoomForShape_9 : decode cX6_hasRoomForShape 9 = .ok (.iconst 1, 1) := by decide +kernel
theorem dX6_hasRoomForShape_10 : decode cX6_hasRoomForShape 10 = .ok (.goto 4, 3) := by decide +kernel
theorem dX6_hasRoomForShape_13 : decode cX6_hasRoomForShape 13 = .ok (.iconst 0, 1) := by decide +kernel
theorem dX6_hasRoomForShape_14 : decode cX6_hasRoomForShape 14 = .ok (.ireturn, 1) := by decide +kernel
theorem dX6_addShape_0 : decode cX6_addShape 0 = .ok (.aload_n 0, 1) := by decide +kernel
theorem dX6_addShape_1 : decode cX6_addShape 1 = .ok (.getfield 15, 3) := by decide +kernel
theorem dX6_addShape_4 : decode cX6_addShape 4 = .ok (.aload_n 0, 1) := by decide +kernel
theorem dX6_addShape_5 : decode cX6_addShape 5 = .ok (.getfield 9, 3) := by decide +kernel
theorem dX6_addShape_8 : decode cX6_addShape 8 = .ok (.iload_n 1, 1) := by decide +kernel
theorem dX6_addShape_9 : decode cX6_addShape 9 = .ok (.iastore, 1) := by decide +kernel
theorem dX6_addShape_10 : decode cX6_addShape 10 = .ok (.aload_n 0, 1) := by decide +kernel
theorem dX6_addShape_11 : decode cX6_addShape 11 = .ok (.getfield 19, 3) := by decide +kernel
theorem dX6_addShape_14 : decode cX6_addShape 14 = .ok (.aload_n 0, 1) := by decide +kernel
theorem dX6_addShape_15 : decode cX6_addShape 15 = .ok (.getfield 9, 3) := by decide +kernel
theorem dX6_addShape_18 : decode cX6_addShape 18 = .ok (.iload_n 2, 1) := by decide +kernel
theorem dX6_addShape_19 : decode cX6_addShape 19 = .ok (.iastore, 1) := by decide +kernel
theorem dX6_addShape_20 : decode cX6_addShape 20 = .ok (.aload_n 0, 1) := by decide +kernel
theorem dX6_addShape_21 : decode cX6_addShape 21 = .ok (.dup, 1) := by decide +kernel
theorem dX6_addShape_22 : decode cX6_addShape 22 = .ok (.getfield 9, 3) := by decide +kernel
theorem dX6_addShape_25 : decode cX6_addShape 25 = .ok (.iconst 1, 1) := by decide +kernel
theorem dX6_addShape_26 : decode cX6_addShape 26 = .ok (.iadd, 1) := by decide +kernel
theorem dX6_addShape_27 : decode cX6_addShape 27 = .ok (.putfield 9, 3) := by decide +kernel
theorem dX6_addShape_30 : decode cX6_addShape 30 = .ok (.aload_n 0, 1) := by decide +kernel
theorem dX6_addShape_31 : decode cX6_addShape 31 = .ok (.getfield 9, 3) := by decide +kernel
theorem dX6_addShape_34 : decode cX6_addShape 34 = .ok (.iconst 1, 1) := by decide +kernel
theorem dX6_addShape_35 : decode cX6_addShape 35 = .ok (.isub, 1) := by decide +kernel
theorem dX6_addShape_36 : decode cX6_addShape 36 = .ok (.ireturn, 1) := by decide +kernel
theorem dX6_isTorn_0 : decode cX6_isTorn 0 = .ok (.aload_n 0, 1) := by decide +kernel
theorem dX6_isTorn_1 : decode cX6_isTorn 1 = .ok (.getfield 22, 3) := by decide +kernel
theorem dX6_isTorn_4 : decode cX6_isTorn 4 = .ok (.iload_n 1, 1) := by decide +kernel
theorem dX6_isTorn_5 : decode cX6_isTorn 5 = .ok (.ishr, 1) := by decide +kernel
theorem dX6_isTorn_6 : decode cX6_isTorn 6 = .ok (.iconst 1, 1) := by decide +kernel
theorem dX6_isTorn_7 : decode cX6_isTorn 7 = .ok (.iand, 1) := by decide +kernel
theorem dX6_isTorn_8 : decode cX6_isTorn 8 = .ok (.iconst 1, 1) := by decide +kernel
theorem dX6_isTorn_9 : decode cX6_isTorn 9 = .ok (.if_icmp .ne 7, 3) := by decide +kernel
theorem dX6_isTorn_12 : decode cX6_isTorn 12 = .ok (.iconst 1, 1) := by decide +kernel
theorem dX6_isTorn_13 : decode cX6_isTorn 13 = .ok (.goto 4, 3) := by decide +kernel
theorem dX6_isTorn_16 : decode cX6_isTorn 16 = .ok (.iconst 0, 1) := by decide +kernel
theorem dX6_isTorn_17 : decode cX6_isTorn 17 = .ok (.ireturn, 1) := by decide +kernel
theorem dX6_setTorn_0 : decode cX6_setTorn 0 = .ok (.aload_n 0, 1) := by decide +kernel
theorem dX6_setTorn_1 : decode cX6_setTorn 1 = .ok (.iload_n 2, 1) := by decide +kernel
theorem dX6_setTorn_2 : decode cX6_setTorn 2 = .ok (.ifCond .eq 14, 3) := by decide +kernel
theorem dX6_setTorn_5 : decode cX6_setTorn 5 = .ok (.aload_n 0, 1) := by decide +kernel
theorem dX6_setTorn_6 : decode cX6_setTorn 6 = .ok (.getfield 22, 3) := by decide +kernel
theorem dX6_setTorn_9 : decode cX6_setTorn 9 = .ok (.iconst 1, 1) := by decide +kernel
theorem dX6_setTorn_10 : decode cX6_setTorn 10 = .ok (.iload_n 1, 1) := by decide +kernel
theorem dX6_setTorn_11 : decode cX6_setTorn 11 = .ok (.ishl, 1) := by decide +kernel
theorem dX6_setTorn_12 : decode cX6_setTorn 12 = .ok (.ior, 1) := by decide +kernel
theorem dX6_setTorn_13 : decode cX6_setTorn 13 = .ok (.goto 13, 3) := by decide +kernel
theorem dX6_setTorn_16 : decode cX6_setTorn 16 = .ok (.aload_n 0, 1) := by decide +kernel
theorem dX6_setTorn_17 : decode cX6_setTorn 17 = .ok (.getfield 22, 3) := by decide +kernel
theorem dX6_setTorn_20 : decode cX6_setTorn 20 = .ok (.iconst 1, 1) := by decide +kernel
theorem dX6_setTorn_21 : decode cX6_setTorn 21 = .ok (.iload_n 1, 1) := by decide +kernel
theorem dX6_setTorn_22 : decode cX6_setTorn 22 = .ok (.ishl, 1) := by decide +kernel
theorem dX6_setTorn_23 : decode cX6_setTorn 23 = .ok (.iconst (-1), 1) := by decide +kernel
theorem dX6_setTorn_24 : decode cX6_setTorn 24 = .ok (.ixor, 1) := by decide +kernel
theorem dX6_setTorn_25 : decode cX6_setTorn 25 = .ok (.iand, 1) := by decide +kernel
theorem dX6_setTorn_26 : decode cX6_setTorn 26 = .ok (.putfield 22, 3) := by decide +kernel
theorem dX6_setTorn_29 : decode cX6_setTorn 29 = .ok (.return_, 1) := by decide +kernel
theorem dX6_wholeShapes_0 : decode cX6_wholeShapes 0 = .ok (.iconst 1, 1) := by decide +kernel
theorem dX6_wholeShapes_1 : decode cX6_wholeShapes 1 = .ok (.aload_n 0, 1) := by decide +kernel
theorem dX6_wholeShapes_2 : decode cX6_wholeShapes 2 = .ok (.getfield 9, 3) := by decide +kernel
theorem dX6_wholeShapes_5 : decode cX6_wholeShapes 5 = .ok (.ishl, 1) := by decide +kernel
theorem dX6_wholeShapes_6 : decode cX6_wholeShapes 6 = .ok (.iconst 1, 1) := by decide +kernel
theorem dX6_wholeShapes_7 : decode cX6_wholeShapes 7 = .ok (.isub, 1) := by decide +kernel
theorem dX6_wholeShapes_8 : decode cX6_wholeShapes 8 = .ok (.aload_n 0, 1) := by decide +kernel
theorem dX6_wholeShapes_9 : decode cX6_wholeShapes 9 = .ok (.getfield 22, 3) := by decide +kernel
theorem dX6_wholeShapes_12 : decode cX6_wholeShapes 12 = .ok (.iconst (-1), 1) := by decide +kernel
theorem dX6_wholeShapes_13 : decode cX6_wholeShapes 13 = .ok (.ixor, 1) := by decide +kernel
theorem dX6_wholeShapes_14 : decode cX6_wholeShapes 14 = .ok (.iand, 1) := by decide +kernel
theorem dX6_wholeShapes_15 : decode cX6_wholeShapes 15 = .ok (.ireturn, 1) := by decide +kernel
set_option maxRecDepth 20000 in
theorem ggX6_cornerBy_X0_pointsBy : GoodIn wsX6_cornerBy wsX0_pointsBy := goodIn_r _ [6, 7, 8, 5, 9, 10, 11, 12, 13, 14, 15, 16, 17, 18, 19, 20, 21, 22, 23, 24] (by decide +kernel) (by decide +kernel)
set_option maxRecDepth 20000 in
theorem gX6_cornerBy_X0_pointsBy : GoodIn wsX6_cornerBy (va_wsS RX6 47 yX0_pointsBy wsX0_pointsBy) := goodIn_app (goodIn_of _ (by decide +kernel)) ggX6_cornerBy_X0_pointsBy
set_option maxRecDepth 20000 in
theorem ggX6_cornerBy_X1_cellsAtCorner : GoodIn wsX6_cornerBy wsX1_cellsAtCorner := goodIn_r _ [28, 29] (by decide +kernel) (by decide +kernel)
set_option maxRecDepth 20000 in
theorem gX6_cornerBy_X1_cellsAtCorner : GoodIn wsX6_cornerBy (va_wsS RX6 53 yX1_cellsAtCorner wsX1_cellsAtCorner) := goodIn_app (goodIn_of _ (by decide +kernel)) ggX6_cornerBy_X1_cellsAtCorner
theorem dX6_cornerBy_0 : decode cX6_cornerBy 0 = .ok (.aload_n 0, 1) := by decide +kernel
theorem dX6_cornerBy_1 : decode cX6_cornerBy 1 = .ok (.getfield 15, 3) := by decide +kernel
theorem dX6_cornerBy_4 : decode cX6_cornerBy 4 = .ok (.iload_n 1, 1) := by decide +kernel
theorem dX6_cornerBy_5 : decode cX6_cornerBy 5 = .ok (.iaload, 1) := by decide +kernel
theorem dX6_cornerBy_6 : decode cX6_cornerBy 6 = .ok (.aload_n 0, 1) := by decide +kernel
theorem dX6_cornerBy_7 : decode cX6_cornerBy 7 = .ok (.getfield 19, 3) := by decide +kernel
theorem dX6_cornerBy_10 : decode cX6_cornerBy 10 = .ok (.iload_n 1, 1) := by decide +kernel
theorem dX6_cornerBy_11 : decode cX6_cornerBy 11 = .ok (.iaload, 1) := by decide +kernel
theorem dX6_cornerBy_12 : decode cX6_cornerBy 12 = .ok (.iload_n 2, 1) := by decide +kernel
theorem dX6_cornerBy_13 : decode cX6_cornerBy 13 = .ok (.iconst 4, 1) := by decide +kernel
theorem dX6_cornerBy_14 : decode cX6_cornerBy 14 = .ok (.irem, 1) := by decide +kernel
theorem dX6_cornerBy_15 : decode cX6_cornerBy 15 = .ok (.invokestatic 47, 3) := by decide +kernel
theorem dX6_cornerBy_18 : decode cX6_cornerBy 18 = .ok (.istore_n 3, 1) := by decide +kernel
theorem dX6_cornerBy_19 : decode cX6_cornerBy 19 = .ok (.iload_n 3, 1) := by decide +kernel
theorem dX6_cornerBy_20 : decode cX6_cornerBy 20 = .ok (.iload_n 2, 1) := by decide +kernel
theorem dX6_cornerBy_21 : decode cX6_cornerBy 21 = .ok (.iconst 4, 1) := by decide +kernel
theorem dX6_cornerBy_22 : decode cX6_cornerBy 22 = .ok (.idiv, 1) := by decide +kernel
theorem dX6_cornerBy_23 : decode cX6_cornerBy 23 = .ok (.invokestatic 53, 3) := by decide +kernel
theorem dX6_cornerBy_26 : decode cX6_cornerBy 26 = .ok (.lreturn, 1) := by decide +kernel
set_option maxRecDepth 20000 in
theorem ggX6_cellsBy_X6_cornerBy : GoodIn wsX6_cellsBy wsX6_cornerBy := goodIn_r _ [5, 6, 7, 8, 9, 10, 11, 12, 13, 14, 15, 16, 17, 18, 19, 20, 21, 22, 23, 24, 25, 26, 27, 28, 29, 30, 31, 32, 33, 34, 39, 40, 41, 42, 43, 44, 45, 46, 47] (by decide +kernel) (by decide +kernel)
set_option maxRecDepth 20000 in
theorem gX6_cellsBy_X6_cornerBy : GoodIn wsX6_cellsBy (wsV RX6 59 RX6 yX6_cornerBy wsX6_cornerBy) := goodIn_app (goodIn_of _ (by decide +kernel)) ggX6_cellsBy_X6_cornerBy
set_option maxRecDepth 20000 in
theorem ggX6_cellsBy_X1_moved : GoodIn wsX6_cellsBy wsX1_moved := goodIn_r _ [37, 38] (by decide +kernel) (by decide +kernel)
set_option maxRecDepth 20000 in
theorem gX6_cellsBy_X1_moved : GoodIn wsX6_cellsBy (va_wsS RX6 62 yX1_moved wsX1_moved) := goodIn_app (goodIn_of _ (by decide +kernel)) ggX6_cellsBy_X1_moved
theorem dX6_cellsBy_0 : decode cX6_cellsBy 0 = .ok (.iload_n 2, 1) := by decide +kernel
theorem dX6_cellsBy_1 : decode cX6_cellsBy 1 = .ok (.sipush 1000, 3) := by decide +kernel
theorem dX6_cellsBy_4 : decode cX6_cellsBy 4 = .ok (.irem, 1) := by decide +kernel
theorem dX6_cellsBy_5 : decode cX6_cellsBy 5 = .ok (.istore_n 3, 1) := by decide +kernel
theorem dX6_cellsBy_6 : decode cX6_cellsBy 6 = .ok (.aload_n 0, 1) := by decide +kernel
theorem dX6_cellsBy_7 : decode cX6_cellsBy 7 = .ok (.iload_n 1, 1) := by decide +kernel
theorem dX6_cellsBy_8 : decode cX6_cellsBy 8 = .ok (.iload_n 2, 1) := by decide +kernel
theorem dX6_cellsBy_9 : decode cX6_cellsBy 9 = .ok (.sipush 1000, 3) := by decide +kernel
theorem dX6_cellsBy_12 : decode cX6_cellsBy 12 = .ok (.idiv, 1) := by decide +kernel
theorem dX6_cellsBy_13 : decode cX6_cellsBy 13 = .ok (.invokevirtual 59, 3) := by decide +kernel
theorem dX6_cellsBy_16 : decode cX6_cellsBy 16 = .ok (.iload_n 3, 1) := by decide +kernel
theorem dX6_cellsBy_17 : decode cX6_cellsBy 17 = .ok (.bipush 10, 2) := by decide +kernel
theorem dX6_cellsBy_19 : decode cX6_cellsBy 19 = .ok (.idiv, 1) := by decide +kernel
theorem dX6_cellsBy_20 : decode cX6_cellsBy 20 = .ok (.iload_n 3, 1) := by decide +kernel
theorem dX6_cellsBy_21 : decode cX6_cellsBy 21 = .ok (.bipush 10, 2) := by decide +kernel
theorem dX6_cellsBy_23 : decode cX6_cellsBy 23 = .ok (.irem, 1) := by decide +kernel
theorem dX6_cellsBy_24 : decode cX6_cellsBy 24 = .ok (.invokestatic 62, 3) := by decide +kernel
theorem dX6_cellsBy_27 : decode cX6_cellsBy 27 = .ok (.lreturn, 1) := by decide +kernel
theorem dX6_isAllowed_0 : decode cX6_isAllowed 0 = .ok (.iload_n 1, 1) := by decide +kernel
theorem dX6_isAllowed_1 : decode cX6_isAllowed 1 = .ok (.iconst 4, 1) := by decide +kernel
theorem dX6_isAllowed_2 : decode cX6_isAllowed 2 = .ok (.irem, 1) := by decide +kernel
theorem dX6_isAllowed_3 : decode cX6_isAllowed 3 = .ok (.istore_n 2, 1) := by decide +kernel
theorem dX6_isAllowed_4 : decode cX6_isAllowed 4 = .ok (.iload_n 1, 1) := by decide +kernel
theorem dX6_isAllowed_5 : decode cX6_isAllowed 5 = .ok (.iconst 4, 1) := by decide +kernel
theorem dX6_isAllowed_6 : decode cX6_isAllowed 6 = .ok (.idiv, 1) := by decide +kernel
theorem dX6_isAllowed_7 : decode cX6_isAllowed 7 = .ok (.istore_n 3, 1) := by decide +kernel
theorem dX6_isAllowed_8 : decode cX6_isAllowed 8 = .ok (.aload_n 0, 1) := by decide +kernel
theorem dX6_isAllowed_9 : decode cX6_isAllowed 9 = .ok (.getfield 38, 3) := by decide +kernel
theorem dX6_isAllowed_12 : decode cX6_isAllowed 12 = .ok (.iload_n 2, 1) := by decide +kernel
theorem dX6_isAllowed_13 : decode cX6_isAllowed 13 = .ok (.ishr, 1) := by decide +kernel
theorem dX6_isAllowed_14 : decode cX6_isAllowed 14 = .ok (.iconst 1, 1) := by decide +kernel
theorem dX6_isAllowed_15 : decode cX6_isAllowed 15 = .ok (.iand, 1) := by decide +kernel
theorem dX6_isAllowed_16 : decode cX6_isAllowed 16 = .ok (.iconst 1, 1) := by decide +kernel
theorem dX6_isAllowed_17 : decode cX6_isAllowed 17 = .ok (.if_icmp .ne 21, 3) := by decide +kernel
theorem dX6_isAllowed_20 : decode cX6_isAllowed 20 = .ok (.aload_n 0, 1) := by decide +kernel
theorem dX6_isAllowed_21 : decode cX6_isAllowed 21 = .ok (.getfield 38, 3) := by decide +kernel
theorem dX6_isAllowed_24 : decode cX6_isAllowed 24 = .ok (.iconst 3, 1) := by decide +kernel
theorem dX6_isAllowed_25 : decode cX6_isAllowed 25 = .ok (.iload_n 3, 1) := by decide +kernel
theorem dX6_isAllowed_26 : decode cX6_isAllowed 26 = .ok (.iadd, 1) := by decide +kernel
theorem dX6_isAllowed_27 : decode cX6_isAllowed 27 = .ok (.ishr, 1) := by decide +kernel
theorem dX6_isAllowed_28 : decode cX6_isAllowed 28 = .ok (.iconst 1, 1) := by decide +kernel
theorem dX6_isAllowed_29 : decode cX6_isAllowed 29 = .ok (.iand, 1) := by decide +kernel
theorem dX6_isAllowed_30 : decode cX6_isAllowed 30 = .ok (.iconst 1, 1) := by decide +kernel
theorem dX6_isAllowed_31 : decode cX6_isAllowed 31 = .ok (.if_icmp .ne 7, 3) := by decide +kernel
theorem dX6_isAllowed_34 : decode cX6_isAllowed 34 = .ok (.iconst 1, 1) := by decide +kernel
theorem dX6_isAllowed_35 : decode cX6_isAllowed 35 = .ok (.goto 4, 3) := by decide +kernel
theorem dX6_isAllowed_38 : decode cX6_isAllowed 38 = .ok (.iconst 0, 1) := by decide +kernel
theorem dX6_isAllowed_39 : decode cX6_isAllowed 39 = .ok (.ireturn, 1) := by decide +kernel
theorem dX6_holdOf_0 : decode cX6_holdOf 0 = .ok (.iconst 0, 1) := by decide +kernel
theorem dX6_holdOf_1 : decode cX6_holdOf 1 = .ok (.istore_n 2, 1) := by decide +kernel
theorem dX6_holdOf_2 : decode cX6_holdOf 2 = .ok (.iload_n 2, 1) := by decide +kernel
theorem dX6_holdOf_3 : decode cX6_holdOf 3 = .ok (.iconst 4, 1) := by decide +kernel
theorem dX6_holdOf_4 : decode cX6_holdOf 4 = .ok (.if_icmp .ge 21, 3) := by decide +kernel
theorem dX6_holdOf_7 : decode cX6_holdOf 7 = .ok (.aload_n 0, 1) := by decide +kernel
theorem dX6_holdOf_8 : decode cX6_holdOf 8 = .ok (.getfield 25, 3) := by decide +kernel
theorem dX6_holdOf_11 : decode cX6_holdOf 11 = .ok (.iload_n 2, 1) := by decide +kernel
theorem dX6_holdOf_12 : decode cX6_holdOf 12 = .ok (.iaload, 1) := by decide +kernel
theorem dX6_holdOf_13 : decode cX6_holdOf 13 = .ok (.iload_n 1, 1) := by decide +kernel
theorem dX6_holdOf_14 : decode cX6_holdOf 14 = .ok (.if_icmp .ne 5, 3) := by decide +kernel
theorem dX6_holdOf_17 : decode cX6_holdOf 17 = .ok (.iload_n 2, 1) := by decide +kernel
theorem dX6_holdOf_18 : decode cX6_holdOf 18 = .ok (.ireturn, 1) := by decide +kernel
theorem dX6_holdOf_19 : decode cX6_holdOf 19 = .ok (.iinc 2 1, 3) := by decide +kernel
theorem dX6_holdOf_22 : decode cX6_holdOf 22 = .ok (.goto (-20), 3) := by decide +kernel
theorem dX6_holdOf_25 : decode cX6_holdOf 25 = .ok (.iconst (-1), 1) := by decide +kernel
theorem dX6_holdOf_26 : decode cX6_holdOf 26 = .ok (.ireturn, 1) := by decide +kernel
set_option maxRecDepth 20000 in
theorem ggX6_freeHold_X6_holdOf : GoodIn wsX6_freeHold wsX6_holdOf := goodIn_r _ [5, 6, 7, 8, 9, 10, 11, 12, 13, 14, 15] (by decide +kernel) (by decide +kernel)
set_option maxRecDepth 20000 in
theorem gX6_freeHold_X6_holdOf : GoodIn wsX6_freeHold (wsV RX6 66 RX6 yX6_holdOf wsX6_holdOf) := goodIn_app (goodIn_of _ (by decide +kernel)) ggX6_freeHold_X6_holdOf
theorem dX6_freeHold_0 : decode cX6_freeHold 0 = .ok (.aload_n 0, 1) := by decide +kernel
theorem dX6_freeHold_1 : decode cX6_freeHold 1 = .ok (.iconst (-1), 1) := by decide +kernel
theorem dX6_freeHold_2 : decode cX6_freeHold 2 = .ok (.invokevirtual 66, 3) := by decide +kernel
theorem dX6_freeHold_5 : decode cX6_freeHold 5 = .ok (.ireturn, 1) := by decide +kernel
theorem dX6_take_0 : decode cX6_take 0 = .ok (.aload_n 0, 1) := by decide +kernel
theorem dX6_take_1 : decode cX6_take 1 = .ok (.getfield 25, 3) := by decide +kernel
theorem dX6_take_4 : decode cX6_take 4 = .ok (.iload_n 1, 1) := by decide +kernel
theorem dX6_take_5 : decode cX6_take 5 = .ok (.iload_n 2, 1) := by decide +kernel
theorem dX6_take_6 : decode cX6_take 6 = .ok (.iastore, 1) := by decide +kernel
theorem dX6_take_7 : decode cX6_take 7 = .ok (.aload_n 0, 1) := by decide +kernel
theorem dX6_take_8 : decode cX6_take 8 = .ok (.getfield 28, 3) := by decide +kernel
theorem dX6_take_11 : decode cX6_take 11 = .ok (.iload_n 1, 1) := by decide +kernel
theorem dX6_take_12 : decode cX6_take 12 = .ok (.iload_n 3, 1) := by decide +kernel
theorem dX6_take_13 : decode cX6_take 13 = .ok (.iastore, 1) := by decide +kernel
theorem dX6_take_14 : decode cX6_take 14 = .ok (.return_, 1) := by decide +kernel
set_option maxRecDepth 20000 in
theorem ggX6_release_X6_take : GoodIn wsX6_release wsX6_take := goodIn_r _ [5, 6, 7, 8, 9, 10, 11, 12, 13, 14, 15, 16] (by decide +kernel) (by decide +kernel)
set_option maxRecDepth 20000 in
theorem gX6_release_X6_take : GoodIn wsX6_release (wsV RX6 70 RX6 yX6_take wsX6_take) := goodIn_app (goodIn_of _ (by decide +kernel)) ggX6_release_X6_take
theorem dX6_release_0 : decode cX6_release 0 = .ok (.aload_n 0, 1) := by decide +kernel
theorem dX6_release_1 : decode cX6_release 1 = .ok (.iload_n 1, 1) := by decide +kernel
theorem dX6_release_2 : decode cX6_release 2 = .ok (.iconst (-1), 1) := by decide +kernel
theorem dX6_release_3 : decode cX6_release 3 = .ok (.iconst (-1), 1) := by decide +kernel
theorem dX6_release_4 : decode cX6_release 4 = .ok (.invokevirtual 70, 3) := by decide +kernel
theorem dX6_release_7 : decode cX6_release 7 = .ok (.return_, 1) := by decide +kernel
set_option maxRecDepth 20000 in
theorem ggX6_emptyHands_X6_release : GoodIn wsX6_emptyHands wsX6_release := goodIn_r _ [5, 6, 7, 8, 4, 9, 10, 11, 12, 13, 14, 15, 16, 17, 18, 19, 20] (by decide +kernel) (by decide +kernel)
set_option maxRecDepth 20000 in
theorem gX6_emptyHands_X6_release : GoodIn wsX6_emptyHands (wsV RX6 74 RX6 yX6_release wsX6_release) := goodIn_app (goodIn_of _ (by decide +kernel)) ggX6_emptyHands_X6_release
theorem dX6_emptyHands_0 : decode cX6_emptyHands 0 = .ok (.iconst 0, 1) := by decide +kernel
theorem dX6_emptyHands_1 : decode cX6_emptyHands 1 = .ok (.istore_n 1, 1) := by decide +kernel
theorem dX6_emptyHands_2 : decode cX6_emptyHands 2 = .ok (.iload_n 1, 1) := by decide +kernel
theorem dX6_emptyHands_3 : decode cX6_emptyHands 3 = .ok (.iconst 4, 1) := by decide +kernel
theorem dX6_emptyHands_4 : decode cX6_emptyHands 4 = .ok (.if_icmp .ge 14, 3) := by decide +kernel
theorem dX6_emptyHands_7 : decode cX6_emptyHands 7 = .ok (.aload_n 0, 1) := by decide +kernel
theorem dX6_emptyHands_8 : decode cX6_emptyHands 8 = .ok (.iload_n 1, 1) := by decide +kernel
theorem dX6_emptyHands_9 : decode cX6_emptyHands 9 = .ok (.invokevirtual 74, 3) := by decide +kernel
theorem dX6_emptyHands_12 : decode cX6_emptyHands 12 = .ok (.iinc 1 1, 3) := by decide +kernel
theorem dX6_emptyHands_15 : decode cX6_emptyHands 15 = .ok (.goto (-13), 3) := by decide +kernel
theorem dX6_emptyHands_18 : decode cX6_emptyHands 18 = .ok (.return_, 1) := by decide +kernel
theorem dX6_holdsInUse_0 : decode cX6_holdsInUse 0 = .ok (.iconst 0, 1) := by decide +kernel
theorem dX6_holdsInUse_1 : decode cX6_holdsInUse 1 = .ok (.istore_n 1, 1) := by decide +kernel
theorem dX6_holdsInUse_2 : decode cX6_holdsInUse 2 = .ok (.iconst 0, 1) := by decide +kernel
theorem dX6_holdsInUse_3 : decode cX6_holdsInUse 3 = .ok (.istore_n 2, 1) := by decide +kernel
theorem dX6_holdsInUse_4 : decode cX6_holdsInUse 4 = .ok (.iload_n 2, 1) := by decide +kernel
theorem dX6_holdsInUse_5 : decode cX6_holdsInUse 5 = .ok (.iconst 4, 1) := by decide +kernel
theorem dX6_holdsInUse_6 : decode cX6_holdsInUse 6 = .ok (.if_icmp .ge 21, 3) := by decide +kernel
theorem dX6_holdsInUse_9 : decode cX6_holdsInUse 9 = .ok (.aload_n 0, 1) := by decide +kernel
theorem dX6_holdsInUse_10 : decode cX6_holdsInUse 10 = .ok (.getfield 25, 3) := by decide +kernel
theorem dX6_holdsInUse_13 : decode cX6_holdsInUse 13 = .ok (.iload_n 2, 1) := by decide +kernel
theorem dX6_holdsInUse_14 : decode cX6_holdsInUse 14 = .ok (.iaload, 1) := by decide +kernel
theorem dX6_holdsInUse_15 : decode cX6_holdsInUse 15 = .ok (.ifCond .lt 6, 3) := by decide +kernel
theorem dX6_holdsInUse_18 : decode cX6_holdsInUse 18 = .ok (.iinc 1 1, 3) := by decide +kernel
theorem dX6_holdsInUse_21 : decode cX6_holdsInUse 21 = .ok (.iinc 2 1, 3) := by decide +kernel
theorem dX6_holdsInUse_24 : decode cX6_holdsInUse 24 = .ok (.goto (-20), 3) := by decide +kernel
theorem dX6_holdsInUse_27 : decode cX6_holdsInUse 27 = .ok (.iload_n 1, 1) := by decide +kernel
theorem dX6_holdsInUse_28 : decode cX6_holdsInUse 28 = .ok (.ireturn, 1) := by decide +kernel
set_option maxRecDepth 20000 in
theorem ggX6_cellsOfHold_X6_hasShape : GoodIn wsX6_cellsOfHold wsX6_hasShape := goodIn_r _ [7, 8, 55, 56, 57, 58, 59, 60, 61, 62, 63] (by decide +kernel) (by decide +kernel)
set_option maxRecDepth 20000 in
theorem gX6_cellsOfHold_X6_hasShape : GoodIn wsX6_cellsOfHold (wsV RX6 78 RX6 yX6_hasShape wsX6_hasShape) := goodIn_app (goodIn_of _ (by decide +kernel)) ggX6_cellsOfHold_X6_hasShape
set_option maxRecDepth 20000 in
theorem ggX6_cellsOfHold_X6_isTorn : GoodIn wsX6_cellsOfHold wsX6_isTorn := goodIn_r _ [12, 13, 55, 56, 57, 58, 59, 60, 61, 62, 63] (by decide +kernel) (by decide +kernel)
set_option maxRecDepth 20000 in
theorem gX6_cellsOfHold_X6_isTorn : GoodIn wsX6_cellsOfHold (wsV RX6 82 RX6 yX6_isTorn wsX6_isTorn) := goodIn_app (goodIn_of _ (by decide +kernel)) ggX6_cellsOfHold_X6_isTorn
set_option maxRecDepth 20000 in
theorem ggX6_cellsOfHold_X6_cellsBy : GoodIn wsX6_cellsOfHold wsX6_cellsBy := goodIn_r _ [17, 18, 19, 20, 6, 21, 22, 23, 24, 25, 26, 27, 28, 29, 30, 31, 32, 33, 34, 35, 36, 37, 38, 39, 40, 41, 42, 43, 44, 45, 46, 47, 48, 49, 50, 51, 52, 53, 54, 55, 56, 57, 58, 59, 60, 61, 62, 63] (by decide +kernel) (by decide +kernel)
set_option maxRecDepth 20000 in
theorem gX6_cellsOfHold_X6_cellsBy : GoodIn wsX6_cellsOfHold (wsV RX6 85 RX6 yX6_cellsBy wsX6_cellsBy) := goodIn_app (goodIn_of _ (by decide +kernel)) ggX6_cellsOfHold_X6_cellsBy
theorem dX6_cellsOfHold_0 : decode cX6_cellsOfHold 0 = .ok (.aload_n 0, 1) := by decide +kernel
theorem dX6_cellsOfHold_1 : decode cX6_cellsOfHold 1 = .ok (.getfield 25, 3) := by decide +kernel
theorem dX6_cellsOfHold_4 : decode cX6_cellsOfHold 4 = .ok (.iload_n 1, 1) := by decide +kernel
theorem dX6_cellsOfHold_5 : decode cX6_cellsOfHold 5 = .ok (.iaload, 1) := by decide +kernel
theorem dX6_cellsOfHold_6 : decode cX6_cellsOfHold 6 = .ok (.istore_n 2, 1) := by decide +kernel
theorem dX6_cellsOfHold_7 : decode cX6_cellsOfHold 7 = .ok (.aload_n 0, 1) := by decide +kernel
theorem dX6_cellsOfHold_8 : decode cX6_cellsOfHold 8 = .ok (.iload_n 2, 1) := by decide +kernel
theorem dX6_cellsOfHold_9 : decode cX6_cellsOfHold 9 = .ok (.invokevirtual 78, 3) := by decide +kernel
theorem dX6_cellsOfHold_12 : decode cX6_cellsOfHold 12 = .ok (.ifCond .eq 11, 3) := by decide +kernel
theorem dX6_cellsOfHold_15 : decode cX6_cellsOfHold 15 = .ok (.aload_n 0, 1) := by decide +kernel
theorem dX6_cellsOfHold_16 : decode cX6_cellsOfHold 16 = .ok (.iload_n 2, 1) := by decide +kernel
theorem dX6_cellsOfHold_17 : decode cX6_cellsOfHold 17 = .ok (.invokevirtual 82, 3) := by decide +kernel
theorem dX6_cellsOfHold_20 : decode cX6_cellsOfHold 20 = .ok (.ifCond .eq 5, 3) := by decide +kernel
theorem dX6_cellsOfHold_23 : decode cX6_cellsOfHold 23 = .ok (.lconst 0, 1) := by decide +kernel
theorem dX6_cellsOfHold_24 : decode cX6_cellsOfHold 24 = .ok (.lreturn, 1) := by decide +kernel
theorem dX6_cellsOfHold_25 : decode cX6_cellsOfHold 25 = .ok (.aload_n 0, 1) := by decide +kernel
theorem dX6_cellsOfHold_26 : decode cX6_cellsOfHold 26 = .ok (.iload_n 2, 1) := by decide +kernel
theorem dX6_cellsOfHold_27 : decode cX6_cellsOfHold 27 = .ok (.aload_n 0, 1) := by decide +kernel
theorem dX6_cellsOfHold_28 : decode cX6_cellsOfHold 28 = .ok (.getfield 28, 3) := by decide +kernel
theorem dX6_cellsOfHold_31 : decode cX6_cellsOfHold 31 = .ok (.iload_n 1, 1) := by decide +kernel
theorem dX6_cellsOfHold_32 : decode cX6_cellsOfHold 32 = .ok (.iaload, 1) := by decide +kernel
theorem dX6_cellsOfHold_33 : decode cX6_cellsOfHold 33 = .ok (.invokevirtual 85, 3) := by decide +kernel
theorem dX6_cellsOfHold_36 : decode cX6_cellsOfHold 36 = .ok (.lreturn, 1) := by decide +kernel
set_option maxRecDepth 20000 in
theorem ggX6_darkCells_X6_cellsOfHold : GoodIn wsX6_darkCells wsX6_cellsOfHold := goodIn_r _ [5, 6, 7, 8, 9, 10, 4, 11, 12, 13, 14, 15, 16, 17, 18, 19, 20, 21, 22, 23, 24, 25, 26, 27, 28, 29, 30, 31, 32, 33, 34, 35, 36, 37, 38, 39, 40, 41, 42, 43, 44, 45, 46, 47, 48, 49, 50, 51, 52, 53, 54, 55, 56, 57, 58, 59, 60, 61, 62, 63, 64, 65, 66, 67] (by decide +kernel) (by decide +kernel)
set_option maxRecDepth 20000 in
theorem gX6_darkCells_X6_cellsOfHold : GoodIn wsX6_darkCells (wsV RX6 88 RX6 yX6_cellsOfHold wsX6_cellsOfHold) := goodIn_app (goodIn_of _ (by decide +kernel)) ggX6_darkCells_X6_cellsOfHold
theorem dX6_darkCells_0 : decode cX6_darkCells 0 = .ok (.lconst 0, 1) := by decide +kernel
theorem dX6_darkCells_1 : decode cX6_darkCells 1 = .ok (.lstore_n 1, 1) := by decide +kernel
theorem dX6_darkCells_2 : decode cX6_darkCells 2 = .ok (.iconst 0, 1) := by decide +kernel
theorem dX6_darkCells_3 : decode cX6_darkCells 3 = .ok (.istore_n 3, 1) := by decide +kernel
theorem dX6_darkCells_4 : decode cX6_darkCells 4 = .ok (.iload_n 3, 1) := by decide +kernel
theorem dX6_darkCells_5 : decode cX6_darkCells 5 = .ok (.iconst 4, 1) := by decide +kernel
theorem dX6_darkCells_6 : decode cX6_darkCells 6 = .ok (.if_icmp .ge 17, 3) := by decide +kernel
theorem dX6_darkCells_9 : decode cX6_darkCells 9 = .ok (.lload_n 1, 1) := by decide +kernel
theorem dX6_darkCells_10 : decode cX6_darkCells 10 = .ok (.aload_n 0, 1) := by decide +kernel
theorem dX6_darkCells_11 : decode cX6_darkCells 11 = .ok (.iload_n 3, 1) := by decide +kernel
theorem dX6_darkCells_12 : decode cX6_darkCells 12 = .ok (.invokevirtual 88, 3) := by decide +kernel
theorem dX6_darkCells_15 : decode cX6_darkCells 15 = .ok (.lor, 1) := by decide +kernel
theorem dX6_darkCells_16 : decode cX6_darkCells 16 = .ok (.lstore_n 1, 1) := by decide +kernel
theorem dX6_darkCells_17 : decode cX6_darkCells 17 = .ok (.iinc 3 1, 3) := by decide +kernel
theorem dX6_darkCells_20 : decode cX6_darkCells 20 = .ok (.goto (-16), 3) := by decide +kernel
theorem dX6_darkCells_23 : decode cX6_darkCells 23 = .ok (.lload_n 1, 1) := by decide +kernel
theorem dX6_darkCells_24 : decode cX6_darkCells 24 = .ok (.lreturn, 1) := by decide +kernel
set_option maxRecDepth 20000 in
theorem ggX6_singleCells_X6_cellsOfHold : GoodIn wsX6_singleCells wsX6_cellsOfHold := goodIn_r _ [6, 7, 8, 9, 10, 11, 5, 12, 13, 14, 15, 16, 17, 18, 19, 20, 21, 22, 23, 24, 25, 26, 27, 28, 29, 30, 31, 32, 33, 34, 35, 36, 37, 38, 39, 40, 41, 42, 43, 44, 45, 46, 47, 48, 49, 50, 51, 52, 53, 54, 55, 56, 57, 58, 59, 60, 61, 62, 63, 64, 65, 66, 67, 68] (by decide +kernel) (by decide +kernel)
set_option maxRecDepth 20000 in
theorem gX6_singleCells_X6_cellsOfHold : GoodIn wsX6_singleCells (wsV RX6 88 RX6 yX6_cellsOfHold wsX6_cellsOfHold) := goodIn_app (goodIn_of _ (by decide +kernel)) ggX6_singleCells_X6_cellsOfHold
theorem dX6_singleCells_0 : decode cX6_singleCells 0 = .ok (.lconst 0, 1) := by decide +kernel
theorem dX6_singleCells_1 : decode cX6_singleCells 1 = .ok (.lstore_n 1, 1) := by decide +kernel
theorem dX6_singleCells_2 : decode cX6_singleCells 2 = .ok (.lconst 0, 1) := by decide +kernel
theorem dX6_singleCells_3 : decode cX6_singleCells 3 = .ok (.lstore_n 3, 1) := by decide +kernel
theorem dX6_singleCells_4 : decode cX6_singleCells 4 = .ok (.iconst 0, 1) := by decide +kernel
theorem dX6_singleCells_5 : decode cX6_singleCells 5 = .ok (.istore 5, 2) := by decide +kernel
theorem dX6_singleCells_7 : decode cX6_singleCells 7 = .ok (.iload 5, 2) := by decide +kernel
theorem dX6_singleCells_9 : decode cX6_singleCells 9 = .ok (.iconst 4, 1) := by decide +kernel
theorem dX6_singleCells_10 : decode cX6_singleCells 10 = .ok (.if_icmp .ge 29, 3) := by decide +kernel
theorem dX6_singleCells_13 : decode cX6_singleCells 13 = .ok (.aload_n 0, 1) := by decide +kernel
theorem dX6_singleCells_14 : decode cX6_singleCells 14 = .ok (.iload 5, 2) := by decide +kernel
theorem dX6_singleCells_16 : decode cX6_singleCells 16 = .ok (.invokevirtual 88, 3) := by decide +kernel
theorem dX6_singleCells_19 : decode cX6_singleCells 19 = .ok (.lstore 6, 2) := by decide +kernel
theorem dX6_singleCells_21 : decode cX6_singleCells 21 = .ok (.lload_n 3, 1) := by decide +kernel
theorem dX6_singleCells_22 : decode cX6_singleCells 22 = .ok (.lload_n 1, 1) := by decide +kernel
theorem dX6_singleCells_23 : decode cX6_singleCells 23 = .ok (.lload 6, 2) := by decide +kernel
theorem dX6_singleCells_25 : decode cX6_singleCells 25 = .ok (.land, 1) := by decide +kernel
theorem dX6_singleCells_26 : decode cX6_singleCells 26 = .ok (.lor, 1) := by decide +kernel
theorem dX6_singleCells_27 : decode cX6_singleCells 27 = .ok (.lstore_n 3, 1) := by decide +kernel
theorem dX6_singleCells_28 : decode cX6_singleCells 28 = .ok (.lload_n 1, 1) := by decide +kernel
theorem dX6_singleCells_29 : decode cX6_singleCells 29 = .ok (.lload 6, 2) := by decide +kernel
theorem dX6_singleCells_31 : decode cX6_singleCells 31 = .ok (.lor, 1) := by decide +kernel
theorem dX6_singleCells_32 : decode cX6_singleCells 32 = .ok (.lstore_n 1, 1) := by decide +kernel
theorem dX6_singleCells_33 : decode cX6_singleCells 33 = .ok (.iinc 5 1, 3) := by decide +kernel
theorem dX6_singleCells_36 : decode cX6_singleCells 36 = .ok (.goto (-29), 3) := by decide +kernel
theorem dX6_singleCells_39 : decode cX6_singleCells 39 = .ok (.lload_n 1, 1) := by decide +kernel
theorem dX6_singleCells_40 : decode cX6_singleCells 40 = .ok (.lload_n 3, 1) := by decide +kernel
theorem dX6_singleCells_41 : decode cX6_singleCells 41 = .ok (.ldc2_w 92, 3) := by decide +kernel
theorem dX6_singleCells_44 : decode cX6_singleCells 44 = .ok (.lxor, 1) := by decide +kernel
theorem dX6_singleCells_45 : decode cX6_singleCells 45 = .ok (.land, 1) := by decide +kernel
theorem dX6_singleCells_46 : decode cX6_singleCells 46 = .ok (.lreturn, 1) := by decide +kernel
theorem dX6_hasScene_0 : decode cX6_hasScene 0 = .ok (.iload_n 1, 1) := by decide +kernel
theorem dX6_hasScene_1 : decode cX6_hasScene 1 = .ok (.ifCond .lt 15, 3) := by decide +kernel
theorem dX6_hasScene_4 : decode cX6_hasScene 4 = .ok (.iload_n 1, 1) := by decide +kernel
theorem dX6_hasScene_5 : decode cX6_hasScene 5 = .ok (.aload_n 0, 1) := by decide +kernel
theorem dX6_hasScene_6 : decode cX6_hasScene 6 = .ok (.getfield 31, 3) := by decide +kernel
theorem dX6_hasScene_9 : decode cX6_hasScene 9 = .ok (.if_icmp .ge 7, 3) := by decide +kernel
theorem dX6_hasScene_12 : decode cX6_hasScene 12 = .ok (.iconst 1, 1) := by decide +kernel
theorem dX6_hasScene_13 : decode cX6_hasScene 13 = .ok (.goto 4, 3) := by decide +kernel
theorem dX6_hasScene_16 : decode cX6_hasScene 16 = .ok (.iconst 0, 1) := by decide +kernel
theorem dX6_hasScene_17 : decode cX6_hasScene 17 = .ok (.ireturn, 1) := by decide +kernel
theorem dX6_hasRoomForScene_0 : decode cX6_hasRoomForScene 0 = .ok (.aload_n 0, 1) := by decide +kernel
theorem dX6_hasRoomForScene_1 : decode cX6_hasRoomForScene 1 = .ok (.getfield 31, 3) := by decide +kernel
theorem dX6_hasRoomForScene_4 : decode cX6_hasRoomForScene 4 = .ok (.bipush 7, 2) := by decide +kernel
theorem dX6_hasRoomForScene_6 : decode cX6_hasRoomForScene 6 = .ok (.if_icmp .ge 7, 3) := by decide +kernel
theorem dX6_hasRoomForScene_9 : decode cX6_hasRoomForScene 9 = .ok (.iconst 1, 1) := by decide +kernel
theorem dX6_hasRoomForScene_10 : decode cX6_hasRoomForScene 10 = .ok (.goto 4, 3) := by decide +kernel
theorem dX6_hasRoomForScene_13 : decode cX6_hasRoomForScene 13 = .ok (.iconst 0, 1) := by decide +kernel
theorem dX6_hasRoomForScene_14 : decode cX6_hasRoomForScene 14 = .ok (.ireturn, 1) := by decide +kernel
theorem dX6_addScene_0 : decode cX6_addScene 0 = .ok (.aload_n 0, 1) := by decide +kernel
theorem dX6_addScene_1 : decode cX6_addScene 1 = .ok (.getfield 34, 3) := by decide +kernel
theorem dX6_addScene_4 : decode cX6_addScene 4 = .ok (.aload_n 0, 1) := by decide +kernel
theorem dX6_addScene_5 : decode cX6_addScene 5 = .ok (.getfield 31, 3) := by decide +kernel
theorem dX6_addScene_8 : decode cX6_addScene 8 = .ok (.lload_n 1, 1) := by decide +kernel
theorem dX6_addScene_9 : decode cX6_addScene 9 = .ok (.lastore, 1) := by decide +kernel
theorem dX6_addScene_10 : decode cX6_addScene 10 = .ok (.aload_n 0, 1) := by decide +kernel
theorem dX6_addScene_11 : decode cX6_addScene 11 = .ok (.dup, 1) := by decide +kernel
theorem dX6_addScene_12 : decode cX6_addScene 12 = .ok (.getfield 31, 3) := by decide +kernel
theorem dX6_addScene_15 : decode cX6_addScene 15 = .ok (.iconst 1, 1) := by decide +kernel
theorem dX6_addScene_16 : decode cX6_addScene 16 = .ok (.iadd, 1) := by decide +kernel
theorem dX6_addScene_17 : decode cX6_addScene 17 = .ok (.putfield 31, 3) := by decide +kernel
theorem dX6_addScene_20 : decode cX6_addScene 20 = .ok (.aload_n 0, 1) := by decide +kernel
theorem dX6_addScene_21 : decode cX6_addScene 21 = .ok (.getfield 31, 3) := by decide +kernel
theorem dX6_addScene_24 : decode cX6_addScene 24 = .ok (.iconst 1, 1) := by decide +kernel
theorem dX6_addScene_25 : decode cX6_addScene 25 = .ok (.isub, 1) := by decide +kernel
theorem dX6_addScene_26 : decode cX6_addScene 26 = .ok (.ireturn, 1) := by decide +kernel
set_option maxRecDepth 20000 in
theorem ggX6_offBetween_X1_cellsOff : GoodIn wsX6_offBetween wsX1_cellsOff := goodIn_r _ [5, 6, 7, 8, 9, 10, 11, 12] (by decide +kernel) (by decide +kernel)
set_option maxRecDepth 20000 in
theorem gX6_offBetween_X1_cellsOff : GoodIn wsX6_offBetween (va_wsS RX6 94 yX1_cellsOff wsX1_cellsOff) := goodIn_app (goodIn_of _ (by decide +kernel)) ggX6_offBetween_X1_cellsOff
theorem dX6_offBetween_0 : decode cX6_offBetween 0 = .ok (.aload_n 0, 1) := by decide +kernel
theorem dX6_offBetween_1 : decode cX6_offBetween 1 = .ok (.getfield 34, 3) := by decide +kernel
theorem dX6_offBetween_4 : decode cX6_offBetween 4 = .ok (.iload_n 1, 1) := by decide +kernel
theorem dX6_offBetween_5 : decode cX6_offBetween 5 = .ok (.laload, 1) := by decide +kernel
theorem dX6_offBetween_6 : decode cX6_offBetween 6 = .ok (.aload_n 0, 1) := by decide +kernel
theorem dX6_offBetween_7 : decode cX6_offBetween 7 = .ok (.getfield 34, 3) := by decide +kernel
theorem dX6_offBetween_10 : decode cX6_offBetween 10 = .ok (.iload_n 2, 1) := by decide +kernel
theorem dX6_offBetween_11 : decode cX6_offBetween 11 = .ok (.laload, 1) := by decide +kernel
theorem dX6_offBetween_12 : decode cX6_offBetween 12 = .ok (.invokestatic 94, 3) := by decide +kernel
theorem dX6_offBetween_15 : decode cX6_offBetween 15 = .ok (.ireturn, 1) := by decide +kernel
set_option maxRecDepth 20000 in
theorem ggX6_changesBetween_X6_offBetween : GoodIn wsX6_changesBetween wsX6_offBetween := goodIn_r _ [5, 6, 7, 8, 9, 10, 11, 12, 13, 14, 15, 16, 17, 18, 19, 20, 21, 22, 23, 24, 25, 26] (by decide +kernel) (by decide +kernel)
set_option maxRecDepth 20000 in
theorem gX6_changesBetween_X6_offBetween : GoodIn wsX6_changesBetween (wsV RX6 98 RX6 yX6_offBetween wsX6_offBetween) := goodIn_app (goodIn_of _ (by decide +kernel)) ggX6_changesBetween_X6_offBetween
theorem dX6_changesBetween_0 : decode cX6_changesBetween 0 = .ok (.aload_n 0, 1) := by decide +kernel
theorem dX6_changesBetween_1 : decode cX6_changesBetween 1 = .ok (.iload_n 1, 1) := by decide +kernel
theorem dX6_changesBetween_2 : decode cX6_changesBetween 2 = .ok (.iload_n 2, 1) := by decide +kernel
theorem dX6_changesBetween_3 : decode cX6_changesBetween 3 = .ok (.invokevirtual 98, 3) := by decide +kernel
theorem dX6_changesBetween_6 : decode cX6_changesBetween 6 = .ok (.iconst 3, 1) := by decide +kernel
theorem dX6_changesBetween_7 : decode cX6_changesBetween 7 = .ok (.iadd, 1) := by decide +kernel
theorem dX6_changesBetween_8 : decode cX6_changesBetween 8 = .ok (.iconst 4, 1) := by decide +kernel
theorem dX6_changesBetween_9 : decode cX6_changesBetween 9 = .ok (.idiv, 1) := by decide +kernel
theorem dX6_changesBetween_10 : decode cX6_changesBetween 10 = .ok (.ireturn, 1) := by decide +kernel
theorem dX7_init_0 : decode cX7_init 0 = .ok (.aload_n 0, 1) := by decide +kernel
theorem dX7_init_1 : decode cX7_init 1 = .ok (.invokespecial 3, 3) := by decide +kernel
theorem dX7_init_4 : decode cX7_init 4 = .ok (.aload_n 0, 1) := by decide +kernel
theorem dX7_init_5 : decode cX7_init 5 = .ok (.iconst 0, 1) := by decide +kernel
theorem dX7_init_6 : decode cX7_init 6 = .ok (.putfield 9, 3) := by decide +kernel
theorem dX7_init_9 : decode cX7_init 9 = .ok (.aload_n 0, 1) := by decide +kernel
theorem dX7_init_10 : decode cX7_init 10 = .ok (.bipush 120, 2) := by decide +kernel
theorem dX7_init_12 : decode cX7_init 12 = .ok (.newarray .int, 2) := by decide +kernel
theorem dX7_init_14 : decode cX7_init 14 = .ok (.putfield 15, 3) := by decide +kernel
theorem dX7_init_17 : decode cX7_init 17 = .ok (.return_, 1) := by decide +kernel
theorem dX7_hasRoomFor_0 : decode cX7_hasRoomFor 0 = .ok (.iload_n 1, 1) := by decide +kernel
theorem dX7_hasRoomFor_1 : decode cX7_hasRoomFor 1 = .ok (.bipush 120, 2) := by decide +kernel
theorem dX7_hasRoomFor_3 : decode cX7_hasRoomFor 3 = .ok (.aload_n 0, 1) := by decide +kernel
theorem dX7_hasRoomFor_4 : decode cX7_hasRoomFor 4 = .ok (.getfield 9, 3) := by decide +kernel
theorem dX7_hasRoomFor_7 : decode cX7_hasRoomFor 7 = .ok (.isub, 1) := by decide +kernel
theorem dX7_hasRoomFor_8 : decode cX7_hasRoomFor 8 = .ok (.if_icmp .gt 7, 3) := by decide +kernel
theorem dX7_hasRoomFor_11 : decode cX7_hasRoomFor 11 = .ok (.iconst 1, 1) := by decide +kernel
theorem dX7_hasRoomFor_12 : decode cX7_hasRoomFor 12 = .ok (.goto 4, 3) := by decide +kernel
theorem dX7_hasRoomFor_15 : decode cX7_hasRoomFor 15 = .ok (.iconst 0, 1) := by decide +kernel
theorem dX7_hasRoomFor_16 : decode cX7_hasRoomFor 16 = .ok (.ireturn, 1) := by decide +kernel
theorem dX7_add_0 : decode cX7_add 0 = .ok (.aload_n 0, 1) := by decide +kernel
theorem dX7_add_1 : decode cX7_add 1 = .ok (.getfield 15, 3) := by decide +kernel
theorem dX7_add_4 : decode cX7_add 4 = .ok (.aload_n 0, 1) := by decide +kernel
theorem dX7_add_5 : decode cX7_add 5 = .ok (.getfield 9, 3) := by decide +kernel
theorem dX7_add_8 : decode cX7_add 8 = .ok (.iload_n 1, 1) := by decide +kernel
theorem dX7_add_9 : decode cX7_add 9 = .ok (.sipush 255, 3) := by decide +kernel
theorem dX7_add_12 : decode cX7_add 12 = .ok (.iand, 1) := by decide +kernel
theorem dX7_add_13 : decode cX7_add 13 = .ok (.iastore, 1) := by decide +kernel
theorem dX7_add_14 : decode cX7_add 14 = .ok (.aload_n 0, 1) := by decide +kernel
theorem dX7_add_15 : decode cX7_add 15 = .ok (.dup, 1) := by decide +kernel
theorem dX7_add_16 : decode cX7_add 16 = .ok (.getfield 9, 3) := by decide +kernel
theorem dX7_add_19 : decode cX7_add 19 = .ok (.iconst 1, 1) := by decide +kernel
theorem dX7_add_20 : decode cX7_add 20 = .ok (.iadd, 1) := by decide +kernel
theorem dX7_add_21 : decode cX7_add 21 = .ok (.putfield 9, 3) := by decide +kernel
theorem dX7_add_24 : decode cX7_add 24 = .ok (.return_, 1) := by decide +kernel
set_option maxRecDepth 20000 in
theorem ggX8_init_X6_init : GoodIn wsX8_init wsX6_init := goodIn_r _ [30, 31, 2, 3, 32, 23, 33, 34, 35, 36, 37, 38, 39, 40, 41, 78, 79, 80, 81, 82, 83, 84, 85, 86] (by decide +kernel) (by decide +kernel)
set_option maxRecDepth 20000 in
theorem gX8_init_X6_init : GoodIn wsX8_init (wsX6_init) := ggX8_init_X6_init
set_option maxRecDepth 20000 in
theorem ggX8_init_X5_init : GoodIn wsX8_init wsX5_init := goodIn_r _ [43, 44, 2, 3, 45, 46, 95, 96] (by decide +kernel) (by decide +kernel)
set_option maxRecDepth 20000 in
theorem gX8_init_X5_init_n21 : GoodIn wsX8_init (wsX5_init) := ggX8_init_X5_init
set_option maxRecDepth 20000 in
theorem ggX8_init_X3_init : GoodIn wsX8_init wsX3_init := goodIn_r _ [48, 49, 2, 3, 50, 23, 51, 52, 97, 98, 99] (by decide +kernel) (by decide +kernel)
set_option maxRecDepth 20000 in
theorem gX8_init_X3_init_n28 : GoodIn wsX8_init (wsX3_init) := ggX8_init_X3_init
set_option maxRecDepth 20000 in
theorem ggX8_init_X4_init : GoodIn wsX8_init wsX4_init := goodIn_r _ [54, 55, 2, 3, 56, 57, 58, 59, 60, 5, 6, 61, 62, 63, 64, 65, 66, 67, 68, 69, 23, 70, 71, 29, 30, 31, 32, 33, 34, 35, 36, 37, 38, 39, 40, 41, 109, 110, 100, 101, 102, 103, 104, 105, 78, 79, 80, 81, 82, 83, 84, 85, 86] (by decide +kernel) (by decide +kernel)
set_option maxRecDepth 20000 in
theorem gX8_init_X4_init_n35 : GoodIn wsX8_init (wsX4_init) := ggX8_init_X4_init
set_option maxRecDepth 20000 in
theorem ggX8_init_X2_init : GoodIn wsX8_init wsX2_init := goodIn_r _ [73, 74, 2, 3, 75, 76, 39, 77, 106, 107, 108] (by decide +kernel) (by decide +kernel)
set_option maxRecDepth 20000 in
theorem gX8_init_X2_init_n54 : GoodIn wsX8_init (wsX2_init) := ggX8_init_X2_init
theorem dX8_init_0 : decode cX8_init 0 = .ok (.aload_n 0, 1) := by decide +kernel
theorem dX8_init_1 : decode cX8_init 1 = .ok (.invokespecial 1, 3) := by decide +kernel
theorem dX8_init_4 : decode cX8_init 4 = .ok (.aload_n 0, 1) := by decide +kernel
theorem dX8_init_5 : decode cX8_init 5 = .ok (.new 7, 3) := by decide +kernel
theorem dX8_init_8 : decode cX8_init 8 = .ok (.dup, 1) := by decide +kernel
theorem dX8_init_9 : decode cX8_init 9 = .ok (.invokespecial 9, 3) := by decide +kernel
theorem dX8_init_12 : decode cX8_init 12 = .ok (.putfield 10, 3) := by decide +kernel
theorem dX8_init_15 : decode cX8_init 15 = .ok (.aload_n 0, 1) := by decide +kernel
theorem dX8_init_16 : decode cX8_init 16 = .ok (.new 7, 3) := by decide +kernel
theorem dX8_init_19 : decode cX8_init 19 = .ok (.dup, 1) := by decide +kernel
theorem dX8_init_20 : decode cX8_init 20 = .ok (.invokespecial 9, 3) := by decide +kernel
theorem dX8_init_23 : decode cX8_init 23 = .ok (.putfield 16, 3) := by decide +kernel
theorem dX8_init_26 : decode cX8_init 26 = .ok (.aload_n 0, 1) := by decide +kernel
theorem dX8_init_27 : decode cX8_init 27 = .ok (.new 19, 3) := by decide +kernel
theorem dX8_init_30 : decode cX8_init 30 = .ok (.dup, 1) := by decide +kernel
theorem dX8_init_31 : decode cX8_init 31 = .ok (.invokespecial 21, 3) := by decide +kernel
theorem dX8_init_34 : decode cX8_init 34 = .ok (.putfield 22, 3) := by decide +kernel
theorem dX8_init_37 : decode cX8_init 37 = .ok (.aload_n 0, 1) := by decide +kernel
theorem dX8_init_38 : decode cX8_init 38 = .ok (.new 26, 3) := by decide +kernel
theorem dX8_init_41 : decode cX8_init 41 = .ok (.dup, 1) := by decide +kernel
theorem dX8_init_42 : decode cX8_init 42 = .ok (.invokespecial 28, 3) := by decide +kernel
theorem dX8_init_45 : decode cX8_init 45 = .ok (.putfield 29, 3) := by decide +kernel
theorem dX8_init_48 : decode cX8_init 48 = .ok (.aload_n 0, 1) := by decide +kernel
theorem dX8_init_49 : decode cX8_init 49 = .ok (.new 33, 3) := by decide +kernel
theorem dX8_init_52 : decode cX8_init 52 = .ok (.dup, 1) := by decide +kernel
theorem dX8_init_53 : decode cX8_init 53 = .ok (.invokespecial 35, 3) := by decide +kernel
theorem dX8_init_56 : decode cX8_init 56 = .ok (.putfield 36, 3) := by decide +kernel
theorem dX8_init_59 : decode cX8_init 59 = .ok (.aload_n 0, 1) := by decide +kernel
theorem dX8_init_60 : decode cX8_init 60 = .ok (.iconst 4, 1) := by decide +kernel
theorem dX8_init_61 : decode cX8_init 61 = .ok (.anewarray 40, 3) := by decide +kernel
theorem dX8_init_64 : decode cX8_init 64 = .ok (.putfield 42, 3) := by decide +kernel
theorem dX8_init_67 : decode cX8_init 67 = .ok (.aload_n 0, 1) := by decide +kernel
theorem dX8_init_68 : decode cX8_init 68 = .ok (.bipush 7, 2) := by decide +kernel
theorem dX8_init_70 : decode cX8_init 70 = .ok (.newarray .int, 2) := by decide +kernel
theorem dX8_init_72 : decode cX8_init 72 = .ok (.putfield 46, 3) := by decide +kernel
theorem dX8_init_75 : decode cX8_init 75 = .ok (.aload_n 0, 1) := by decide +kernel
theorem dX8_init_76 : decode cX8_init 76 = .ok (.iconst 0, 1) := by decide +kernel
theorem dX8_init_77 : decode cX8_init 77 = .ok (.putfield 50, 3) := by decide +kernel
theorem dX8_init_80 : decode cX8_init 80 = .ok (.iconst 0, 1) := by decide +kernel
theorem dX8_init_81 : decode cX8_init 81 = .ok (.istore_n 1, 1) := by decide +kernel
theorem dX8_init_82 : decode cX8_init 82 = .ok (.iload_n 1, 1) := by decide +kernel
theorem dX8_init_83 : decode cX8_init 83 = .ok (.iconst 4, 1) := by decide +kernel
theorem dX8_init_84 : decode cX8_init 84 = .ok (.if_icmp .ge 22, 3) := by decide +kernel
theorem dX8_init_87 : decode cX8_init 87 = .ok (.aload_n 0, 1) := by decide +kernel
theorem dX8_init_88 : decode cX8_init 88 = .ok (.getfield 42, 3) := by decide +kernel
theorem dX8_init_91 : decode cX8_init 91 = .ok (.iload_n 1, 1) := by decide +kernel
theorem dX8_init_92 : decode cX8_init 92 = .ok (.new 40, 3) := by decide +kernel
theorem dX8_init_95 : decode cX8_init 95 = .ok (.dup, 1) := by decide +kernel
theorem dX8_init_96 : decode cX8_init 96 = .ok (.invokespecial 54, 3) := by decide +kernel
theorem dX8_init_99 : decode cX8_init 99 = .ok (.aastore, 1) := by decide +kernel
theorem dX8_init_100 : decode cX8_init 100 = .ok (.iinc 1 1, 3) := by decide +kernel
theorem dX8_init_103 : decode cX8_init 103 = .ok (.goto (-21), 3) := by decide +kernel
theorem dX8_init_106 : decode cX8_init 106 = .ok (.return_, 1) := by decide +kernel
set_option maxRecDepth 20000 in
theorem ggX8_shape_X8_isKind : GoodIn wsX8_shape wsX8_isKind := goodIn_r _ [7] (by decide +kernel) (by decide +kernel)
set_option maxRecDepth 20000 in
theorem gX8_shape_X8_isKind : GoodIn wsX8_shape (va_wsS RX8 55 yX8_isKind wsX8_isKind) := goodIn_app (goodIn_of _ (by decide +kernel)) ggX8_shape_X8_isKind
set_option maxRecDepth 20000 in
theorem ggX8_shape_X8_isPoints : GoodIn wsX8_shape wsX8_isPoints := goodIn_r _ [10, 11] (by decide +kernel) (by decide +kernel)
set_option maxRecDepth 20000 in
theorem gX8_shape_X8_isPoints : GoodIn wsX8_shape (va_wsS RX8 59 yX8_isPoints wsX8_isPoints) := goodIn_app (goodIn_of _ (by decide +kernel)) ggX8_shape_X8_isPoints
set_option maxRecDepth 20000 in
theorem ggX8_shape_X8_finding : GoodIn wsX8_shape wsX8_finding := goodIn_r _ [15, 1, 16, 29, 30, 31, 32, 33, 34, 35, 36] (by decide +kernel) (by decide +kernel)
set_option maxRecDepth 20000 in
theorem gX8_shape_X8_finding : GoodIn wsX8_shape (wsV RX8 63 RX8 yX8_finding wsX8_finding) := goodIn_app (goodIn_of _ (by decide +kernel)) ggX8_shape_X8_finding
set_option maxRecDepth 20000 in
theorem ggX8_shape_X6_hasRoomForShape : GoodIn wsX8_shape wsX6_hasRoomForShape := goodIn_r _ [21, 22, 37, 38, 39, 40, 41, 42, 43, 44, 45] (by decide +kernel) (by decide +kernel)
set_option maxRecDepth 20000 in
theorem gX8_shape_X6_hasRoomForShape : GoodIn wsX8_shape (wsV RX8 67 RX6 yX6_hasRoomForShape wsX6_hasRoomForShape) := goodIn_app (goodIn_of _ (by decide +kernel)) ggX8_shape_X6_hasRoomForShape
set_option maxRecDepth 20000 in
theorem ggX8_shape_X6_addShape : GoodIn wsX8_shape wsX6_addShape := goodIn_r _ [26, 27, 22, 28, 37, 38, 39, 40, 41, 42, 43, 44, 45] (by decide +kernel) (by decide +kernel)
set_option maxRecDepth 20000 in
theorem gX8_shape_X6_addShape : GoodIn wsX8_shape (wsV RX8 72 RX6 yX6_addShape wsX6_addShape) := goodIn_app (goodIn_of _ (by decide +kernel)) ggX8_shape_X6_addShape
theorem dX8_shape_0 : decode cX8_shape 0 = .ok (.iload_n 1, 1) := by decide +kernel
theorem dX8_shape_1 : decode cX8_shape 1 = .ok (.invokestatic 55, 3) := by decide +kernel
theorem dX8_shape_4 : decode cX8_shape 4 = .ok (.ifCond .eq 10, 3) := by decide +kernel
theorem dX8_shape_7 : decode cX8_shape 7 = .ok (.iload_n 2, 1) := by decide +kernel
theorem dX8_shape_8 : decode cX8_shape 8 = .ok (.invokestatic 59, 3) := by decide +kernel
theorem dX8_shape_11 : decode cX8_shape 11 = .ok (.ifCond .ne 10, 3) := by decide +kernel
theorem dX8_shape_14 : decode cX8_shape 14 = .ok (.aload_n 0, 1) := by decide +kernel
theorem dX8_shape_15 : decode cX8_shape 15 = .ok (.ldc 62, 2) := by decide +kernel
theorem dX8_shape_17 : decode cX8_shape 17 = .ok (.invokevirtual 63, 3) := by decide +kernel
theorem dX8_shape_20 : decode cX8_shape 20 = .ok (.ireturn, 1) := by decide +kernel
theorem dX8_shape_21 : decode cX8_shape 21 = .ok (.aload_n 0, 1) := by decide +kernel
theorem dX8_shape_22 : decode cX8_shape 22 = .ok (.getfield 10, 3) := by decide +kernel
theorem dX8_shape_25 : decode cX8_shape 25 = .ok (.invokevirtual 67, 3) := by decide +kernel
theorem dX8_shape_28 : decode cX8_shape 28 = .ok (.ifCond .ne 10, 3) := by decide +kernel
theorem dX8_shape_31 : decode cX8_shape 31 = .ok (.aload_n 0, 1) := by decide +kernel
theorem dX8_shape_32 : decode cX8_shape 32 = .ok (.ldc 71, 2) := by decide +kernel
theorem dX8_shape_34 : decode cX8_shape 34 = .ok (.invokevirtual 63, 3) := by decide +kernel
theorem dX8_shape_37 : decode cX8_shape 37 = .ok (.ireturn, 1) := by decide +kernel
theorem dX8_shape_38 : decode cX8_shape 38 = .ok (.aload_n 0, 1) := by decide +kernel
theorem dX8_shape_39 : decode cX8_shape 39 = .ok (.getfield 10, 3) := by decide +kernel
theorem dX8_shape_42 : decode cX8_shape 42 = .ok (.iload_n 1, 1) := by decide +kernel
theorem dX8_shape_43 : decode cX8_shape 43 = .ok (.iload_n 2, 1) := by decide +kernel
theorem dX8_shape_44 : decode cX8_shape 44 = .ok (.invokevirtual 72, 3) := by decide +kernel
theorem dX8_shape_47 : decode cX8_shape 47 = .ok (.ireturn, 1) := by decide +kernel
set_option maxRecDepth 20000 in
theorem ggX8_of_X6_hasShape : GoodIn wsX8_of wsX6_hasShape := goodIn_r _ [7, 8, 33, 34, 35, 36, 37, 38, 39, 40, 41] (by decide +kernel) (by decide +kernel)
set_option maxRecDepth 20000 in
theorem gX8_of_X6_hasShape : GoodIn wsX8_of (wsV RX8 76 RX6 yX6_hasShape wsX6_hasShape) := goodIn_app (goodIn_of _ (by decide +kernel)) ggX8_of_X6_hasShape
set_option maxRecDepth 20000 in
theorem ggX8_of_X8_finding : GoodIn wsX8_of wsX8_finding := goodIn_r _ [13, 2, 14, 25, 26, 27, 28, 29, 30, 31, 32] (by decide +kernel) (by decide +kernel)
set_option maxRecDepth 20000 in
theorem gX8_of_X8_finding : GoodIn wsX8_of (wsV RX8 63 RX8 yX8_finding wsX8_finding) := goodIn_app (goodIn_of _ (by decide +kernel)) ggX8_of_X8_finding
set_option maxRecDepth 20000 in
theorem ggX8_of_X6_isTorn : GoodIn wsX8_of wsX6_isTorn := goodIn_r _ [18, 19, 33, 34, 35, 36, 37, 38, 39, 40, 41] (by decide +kernel) (by decide +kernel)
set_option maxRecDepth 20000 in
theorem gX8_of_X6_isTorn : GoodIn wsX8_of (wsV RX8 85 RX6 yX6_isTorn wsX6_isTorn) := goodIn_app (goodIn_of _ (by decide +kernel)) ggX8_of_X6_isTorn
set_option maxRecDepth 20000 in
theorem ggX8_of_X6_holdOf : GoodIn wsX8_of wsX6_holdOf := goodIn_r _ [23, 24, 33, 34, 35, 36, 37, 38, 39, 40, 41] (by decide +kernel) (by decide +kernel)
set_option maxRecDepth 20000 in
theorem gX8_of_X6_holdOf : GoodIn wsX8_of (wsV RX8 88 RX6 yX6_holdOf wsX6_holdOf) := goodIn_app (goodIn_of _ (by decide +kernel)) ggX8_of_X6_holdOf
theorem dX8_of_0 : decode cX8_of 0 = .ok (.aload_n 0, 1) := by decide +kernel
theorem dX8_of_1 : decode cX8_of 1 = .ok (.getfield 10, 3) := by decide +kernel
theorem dX8_of_4 : decode cX8_of 4 = .ok (.iload_n 1, 1) := by decide +kernel
theorem dX8_of_5 : decode cX8_of 5 = .ok (.invokevirtual 76, 3) := by decide +kernel
theorem dX8_of_8 : decode cX8_of 8 = .ok (.ifCond .ne 10, 3) := by decide +kernel
theorem dX8_of_11 : decode cX8_of 11 = .ok (.aload_n 0, 1) := by decide +kernel
theorem dX8_of_12 : decode cX8_of 12 = .ok (.ldc 62, 2) := by decide +kernel
theorem dX8_of_14 : decode cX8_of 14 = .ok (.invokevirtual 63, 3) := by decide +kernel
theorem dX8_of_17 : decode cX8_of 17 = .ok (.ireturn, 1) := by decide +kernel
theorem dX8_of_18 : decode cX8_of 18 = .ok (.iload_n 2, 1) := by decide +kernel
theorem dX8_of_19 : decode cX8_of 19 = .ok (.tableswitch 75 0 3 #[29, 39, 49, 66], 29) := by decide +kernel
theorem dX8_of_48 : decode cX8_of 48 = .ok (.aload_n 0, 1) := by decide +kernel
theorem dX8_of_49 : decode cX8_of 49 = .ok (.getfield 10, 3) := by decide +kernel
theorem dX8_of_52 : decode cX8_of 52 = .ok (.getfield 79, 3) := by decide +kernel
theorem dX8_of_55 : decode cX8_of 55 = .ok (.iload_n 1, 1) := by decide +kernel
theorem dX8_of_56 : decode cX8_of 56 = .ok (.iaload, 1) := by decide +kernel
theorem dX8_of_57 : decode cX8_of 57 = .ok (.ireturn, 1) := by decide +kernel
theorem dX8_of_58 : decode cX8_of 58 = .ok (.aload_n 0, 1) := by decide +kernel
theorem dX8_of_59 : decode cX8_of 59 = .ok (.getfield 10, 3) := by decide +kernel
theorem dX8_of_62 : decode cX8_of 62 = .ok (.getfield 82, 3) := by decide +kernel
theorem dX8_of_65 : decode cX8_of 65 = .ok (.iload_n 1, 1) := by decide +kernel
theorem dX8_of_66 : decode cX8_of 66 = .ok (.iaload, 1) := by decide +kernel
theorem dX8_of_67 : decode cX8_of 67 = .ok (.ireturn, 1) := by decide +kernel
theorem dX8_of_68 : decode cX8_of 68 = .ok (.aload_n 0, 1) := by decide +kernel
theorem dX8_of_69 : decode cX8_of 69 = .ok (.getfield 10, 3) := by decide +kernel
theorem dX8_of_72 : decode cX8_of 72 = .ok (.iload_n 1, 1) := by decide +kernel
theorem dX8_of_73 : decode cX8_of 73 = .ok (.invokevirtual 85, 3) := by decide +kernel
theorem dX8_of_76 : decode cX8_of 76 = .ok (.ifCond .eq 7, 3) := by decide +kernel
theorem dX8_of_79 : decode cX8_of 79 = .ok (.iconst 1, 1) := by decide +kernel
theorem dX8_of_80 : decode cX8_of 80 = .ok (.goto 4, 3) := by decide +kernel
theorem dX8_of_83 : decode cX8_of 83 = .ok (.iconst 0, 1) := by decide +kernel
theorem dX8_of_84 : decode cX8_of 84 = .ok (.ireturn, 1) := by decide +kernel
theorem dX8_of_85 : decode cX8_of 85 = .ok (.aload_n 0, 1) := by decide +kernel
theorem dX8_of_86 : decode cX8_of 86 = .ok (.getfield 10, 3) := by decide +kernel
theorem dX8_of_89 : decode cX8_of 89 = .ok (.iload_n 1, 1) := by decide +kernel
theorem dX8_of_90 : decode cX8_of 90 = .ok (.invokevirtual 88, 3) := by decide +kernel
theorem dX8_of_93 : decode cX8_of 93 = .ok (.ireturn, 1) := by decide +kernel
theorem dX8_of_94 : decode cX8_of 94 = .ok (.aload_n 0, 1) := by decide +kernel
theorem dX8_of_95 : decode cX8_of 95 = .ok (.ldc 62, 2) := by decide +kernel
theorem dX8_of_97 : decode cX8_of 97 = .ok (.invokevirtual 63, 3) := by decide +kernel
theorem dX8_of_100 : decode cX8_of 100 = .ok (.ireturn, 1) := by decide +kernel
set_option maxRecDepth 20000 in
theorem ggX8_cut_X6_hasShape : GoodIn wsX8_cut wsX6_hasShape := goodIn_r _ [7, 8, 27, 28, 29, 30, 31, 32, 33, 34, 35] (by decide +kernel) (by decide +kernel)
set_option maxRecDepth 20000 in
theorem gX8_cut_X6_hasShape : GoodIn wsX8_cut (wsV RX8 76 RX6 yX6_hasShape wsX6_hasShape) := goodIn_app (goodIn_of _ (by decide +kernel)) ggX8_cut_X6_hasShape
set_option maxRecDepth 20000 in
theorem ggX8_cut_X8_isPoints : GoodIn wsX8_cut wsX8_isPoints := goodIn_r _ [12, 13] (by decide +kernel) (by decide +kernel)
set_option maxRecDepth 20000 in
theorem gX8_cut_X8_isPoints : GoodIn wsX8_cut (va_wsS RX8 59 yX8_isPoints wsX8_isPoints) := goodIn_app (goodIn_of _ (by decide +kernel)) ggX8_cut_X8_isPoints
set_option maxRecDepth 20000 in
theorem ggX8_cut_X8_finding : GoodIn wsX8_cut wsX8_finding := goodIn_r _ [17, 2, 18, 19, 20, 21, 22, 23, 24, 25, 26] (by decide +kernel) (by decide +kernel)
set_option maxRecDepth 20000 in
theorem gX8_cut_X8_finding : GoodIn wsX8_cut (wsV RX8 63 RX8 yX8_finding wsX8_finding) := goodIn_app (goodIn_of _ (by decide +kernel)) ggX8_cut_X8_finding
theorem dX8_cut_0 : decode cX8_cut 0 = .ok (.aload_n 0, 1) := by decide +kernel
theorem dX8_cut_1 : decode cX8_cut 1 = .ok (.getfield 10, 3) := by decide +kernel
theorem dX8_cut_4 : decode cX8_cut 4 = .ok (.iload_n 1, 1) := by decide +kernel
theorem dX8_cut_5 : decode cX8_cut 5 = .ok (.invokevirtual 76, 3) := by decide +kernel
theorem dX8_cut_8 : decode cX8_cut 8 = .ok (.ifCond .eq 10, 3) := by decide +kernel
theorem dX8_cut_11 : decode cX8_cut 11 = .ok (.iload_n 2, 1) := by decide +kernel
theorem dX8_cut_12 : decode cX8_cut 12 = .ok (.invokestatic 59, 3) := by decide +kernel
theorem dX8_cut_15 : decode cX8_cut 15 = .ok (.ifCond .ne 10, 3) := by decide +kernel
theorem dX8_cut_18 : decode cX8_cut 18 = .ok (.aload_n 0, 1) := by decide +kernel
theorem dX8_cut_19 : decode cX8_cut 19 = .ok (.ldc 62, 2) := by decide +kernel
theorem dX8_cut_21 : decode cX8_cut 21 = .ok (.invokevirtual 63, 3) := by decide +kernel
theorem dX8_cut_24 : decode cX8_cut 24 = .ok (.ireturn, 1) := by decide +kernel
theorem dX8_cut_25 : decode cX8_cut 25 = .ok (.aload_n 0, 1) := by decide +kernel
theorem dX8_cut_26 : decode cX8_cut 26 = .ok (.getfield 10, 3) := by decide +kernel
theorem dX8_cut_29 : decode cX8_cut 29 = .ok (.getfield 82, 3) := by decide +kernel
theorem dX8_cut_32 : decode cX8_cut 32 = .ok (.iload_n 1, 1) := by decide +kernel
theorem dX8_cut_33 : decode cX8_cut 33 = .ok (.iaload, 1) := by decide +kernel
theorem dX8_cut_34 : decode cX8_cut 34 = .ok (.istore_n 3, 1) := by decide +kernel
theorem dX8_cut_35 : decode cX8_cut 35 = .ok (.aload_n 0, 1) := by decide +kernel
theorem dX8_cut_36 : decode cX8_cut 36 = .ok (.getfield 10, 3) := by decide +kernel
theorem dX8_cut_39 : decode cX8_cut 39 = .ok (.getfield 82, 3) := by decide +kernel
theorem dX8_cut_42 : decode cX8_cut 42 = .ok (.iload_n 1, 1) := by decide +kernel
theorem dX8_cut_43 : decode cX8_cut 43 = .ok (.iload_n 2, 1) := by decide +kernel
theorem dX8_cut_44 : decode cX8_cut 44 = .ok (.iastore, 1) := by decide +kernel
theorem dX8_cut_45 : decode cX8_cut 45 = .ok (.iload_n 3, 1) := by decide +kernel
theorem dX8_cut_46 : decode cX8_cut 46 = .ok (.ireturn, 1) := by decide +kernel
set_option maxRecDepth 20000 in
theorem ggX8_tear_X6_hasShape : GoodIn wsX8_tear wsX6_hasShape := goodIn_r _ [7, 8, 32, 33, 34, 35, 36, 37, 38, 39, 40] (by decide +kernel) (by decide +kernel)
set_option maxRecDepth 20000 in
theorem gX8_tear_X6_hasShape : GoodIn wsX8_tear (wsV RX8 76 RX6 yX6_hasShape wsX6_hasShape) := goodIn_app (goodIn_of _ (by decide +kernel)) ggX8_tear_X6_hasShape
set_option maxRecDepth 20000 in
theorem ggX8_tear_X8_finding : GoodIn wsX8_tear wsX8_finding := goodIn_r _ [13, 2, 14, 24, 25, 26, 27, 28, 29, 30, 31] (by decide +kernel) (by decide +kernel)
set_option maxRecDepth 20000 in
theorem gX8_tear_X8_finding : GoodIn wsX8_tear (wsV RX8 63 RX8 yX8_finding wsX8_finding) := goodIn_app (goodIn_of _ (by decide +kernel)) ggX8_tear_X8_finding
set_option maxRecDepth 20000 in
theorem ggX8_tear_X6_isTorn : GoodIn wsX8_tear wsX6_isTorn := goodIn_r _ [18, 19, 32, 33, 34, 35, 36, 37, 38, 39, 40] (by decide +kernel) (by decide +kernel)
set_option maxRecDepth 20000 in
theorem gX8_tear_X6_isTorn : GoodIn wsX8_tear (wsV RX8 85 RX6 yX6_isTorn wsX6_isTorn) := goodIn_app (goodIn_of _ (by decide +kernel)) ggX8_tear_X6_isTorn
set_option maxRecDepth 20000 in
theorem ggX8_tear_X6_setTorn : GoodIn wsX8_tear wsX6_setTorn := goodIn_r _ [23, 19, 32, 33, 34, 35, 36, 37, 38, 39, 40] (by decide +kernel) (by decide +kernel)
set_option maxRecDepth 20000 in
theorem gX8_tear_X6_setTorn : GoodIn wsX8_tear (wsV RX8 91 RX6 yX6_setTorn wsX6_setTorn) := goodIn_app (goodIn_of _ (by decide +kernel)) ggX8_tear_X6_setTorn
theorem dX8_tear_0 : decode cX8_tear 0 = .ok (.aload_n 0, 1) := by decide +kernel
theorem dX8_tear_1 : decode cX8_tear 1 = .ok (.getfield 10, 3) := by decide +kernel
theorem dX8_tear_4 : decode cX8_tear 4 = .ok (.iload_n 1, 1) := by decide +kernel
theorem dX8_tear_5 : decode cX8_tear 5 = .ok (.invokevirtual 76, 3) := by decide +kernel
theorem dX8_tear_8 : decode cX8_tear 8 = .ok (.ifCond .ne 10, 3) := by decide +kernel
theorem dX8_tear_11 : decode cX8_tear 11 = .ok (.aload_n 0, 1) := by decide +kernel
theorem dX8_tear_12 : decode cX8_tear 12 = .ok (.ldc 62, 2) := by decide +kernel
theorem dX8_tear_14 : decode cX8_tear 14 = .ok (.invokevirtual 63, 3) := by decide +kernel
theorem dX8_tear_17 : decode cX8_tear 17 = .ok (.ireturn, 1) := by decide +kernel
theorem dX8_tear_18 : decode cX8_tear 18 = .ok (.aload_n 0, 1) := by decide +kernel
theorem dX8_tear_19 : decode cX8_tear 19 = .ok (.getfield 10, 3) := by decide +kernel
theorem dX8_tear_22 : decode cX8_tear 22 = .ok (.iload_n 1, 1) := by decide +kernel
theorem dX8_tear_23 : decode cX8_tear 23 = .ok (.invokevirtual 85, 3) := by decide +kernel
theorem dX8_tear_26 : decode cX8_tear 26 = .ok (.iload_n 2, 1) := by decide +kernel
theorem dX8_tear_27 : decode cX8_tear 27 = .ok (.if_icmp .ne 5, 3) := by decide +kernel
theorem dX8_tear_30 : decode cX8_tear 30 = .ok (.iconst 0, 1) := by decide +kernel
theorem dX8_tear_31 : decode cX8_tear 31 = .ok (.ireturn, 1) := by decide +kernel
theorem dX8_tear_32 : decode cX8_tear 32 = .ok (.aload_n 0, 1) := by decide +kernel
theorem dX8_tear_33 : decode cX8_tear 33 = .ok (.getfield 10, 3) := by decide +kernel
theorem dX8_tear_36 : decode cX8_tear 36 = .ok (.iload_n 1, 1) := by decide +kernel
theorem dX8_tear_37 : decode cX8_tear 37 = .ok (.iload_n 2, 1) := by decide +kernel
theorem dX8_tear_38 : decode cX8_tear 38 = .ok (.invokevirtual 91, 3) := by decide +kernel
theorem dX8_tear_41 : decode cX8_tear 41 = .ok (.iconst 1, 1) := by decide +kernel
theorem dX8_tear_42 : decode cX8_tear 42 = .ok (.ireturn, 1) := by decide +kernel
set_option maxRecDepth 20000 in
theorem ggX8_become_X6_hasShape : GoodIn wsX8_become wsX6_hasShape := goodIn_r _ [7, 8, 26, 27, 28, 29, 30, 31, 32, 33, 34] (by decide +kernel) (by decide +kernel)
set_option maxRecDepth 20000 in
theorem gX8_become_X6_hasShape : GoodIn wsX8_become (wsV RX8 76 RX6 yX6_hasShape wsX6_hasShape) := goodIn_app (goodIn_of _ (by decide +kernel)) ggX8_become_X6_hasShape
set_option maxRecDepth 20000 in
theorem ggX8_become_X8_isKind : GoodIn wsX8_become wsX8_isKind := goodIn_r _ [12] (by decide +kernel) (by decide +kernel)
set_option maxRecDepth 20000 in
theorem gX8_become_X8_isKind : GoodIn wsX8_become (va_wsS RX8 55 yX8_isKind wsX8_isKind) := goodIn_app (goodIn_of _ (by decide +kernel)) ggX8_become_X8_isKind
set_option maxRecDepth 20000 in
theorem ggX8_become_X8_finding : GoodIn wsX8_become wsX8_finding := goodIn_r _ [16, 2, 17, 18, 19, 20, 21, 22, 23, 24, 25] (by decide +kernel) (by decide +kernel)
set_option maxRecDepth 20000 in
theorem gX8_become_X8_finding : GoodIn wsX8_become (wsV RX8 63 RX8 yX8_finding wsX8_finding) := goodIn_app (goodIn_of _ (by decide +kernel)) ggX8_become_X8_finding
theorem dX8_become_0 : decode cX8_become 0 = .ok (.aload_n 0, 1) := by decide +kernel
theorem dX8_become_1 : decode cX8_become 1 = .ok (.getfield 10, 3) := by decide +kernel
theorem dX8_become_4 : decode cX8_become 4 = .ok (.iload_n 1, 1) := by decide +kernel
theorem dX8_become_5 : decode cX8_become 5 = .ok (.invokevirtual 76, 3) := by decide +kernel
theorem dX8_become_8 : decode cX8_become 8 = .ok (.ifCond .eq 10, 3) := by decide +kernel
theorem dX8_become_11 : decode cX8_become 11 = .ok (.iload_n 2, 1) := by decide +kernel
theorem dX8_become_12 : decode cX8_become 12 = .ok (.invokestatic 55, 3) := by decide +kernel
theorem dX8_become_15 : decode cX8_become 15 = .ok (.ifCond .ne 10, 3) := by decide +kernel
theorem dX8_become_18 : decode cX8_become 18 = .ok (.aload_n 0, 1) := by decide +kernel
theorem dX8_become_19 : decode cX8_become 19 = .ok (.ldc 62, 2) := by decide +kernel
theorem dX8_become_21 : decode cX8_become 21 = .ok (.invokevirtual 63, 3) := by decide +kernel
theorem dX8_become_24 : decode cX8_become 24 = .ok (.ireturn, 1) := by decide +kernel
theorem dX8_become_25 : decode cX8_become 25 = .ok (.aload_n 0, 1) := by decide +kernel
theorem dX8_become_26 : decode cX8_become 26 = .ok (.getfield 10, 3) := by decide +kernel
theorem dX8_become_29 : decode cX8_become 29 = .ok (.getfield 79, 3) := by decide +kernel
theorem dX8_become_32 : decode cX8_become 32 = .ok (.iload_n 1, 1) := by decide +kernel
theorem dX8_become_33 : decode cX8_become 33 = .ok (.iaload, 1) := by decide +kernel
theorem dX8_become_34 : decode cX8_become 34 = .ok (.istore_n 3, 1) := by decide +kernel
theorem dX8_become_35 : decode cX8_become 35 = .ok (.aload_n 0, 1) := by decide +kernel
theorem dX8_become_36 : decode cX8_become 36 = .ok (.getfield 10, 3) := by decide +kernel
theorem dX8_become_39 : decode cX8_become 39 = .ok (.getfield 79, 3) := by decide +kernel
theorem dX8_become_42 : decode cX8_become 42 = .ok (.iload_n 1, 1) := by decide +kernel
theorem dX8_become_43 : decode cX8_become 43 = .ok (.iload_n 2, 1) := by decide +kernel
theorem dX8_become_44 : decode cX8_become 44 = .ok (.iastore, 1) := by decide +kernel
theorem dX8_become_45 : decode cX8_become 45 = .ok (.iload_n 3, 1) := by decide +kernel
theorem dX8_become_46 : decode cX8_become 46 = .ok (.ireturn, 1) := by decide +kernel
set_option maxRecDepth 20000 in
theorem ggX8_as_X6_hasShape : GoodIn wsX8_as wsX6_hasShape := goodIn_r _ [8, 9, 34, 35, 36, 37, 38, 39, 40, 41, 42] (by decide +kernel) (by decide +kernel)
set_option maxRecDepth 20000 in
theorem gX8_as_X6_hasShape : GoodIn wsX8_as (wsV RX8 76 RX6 yX6_hasShape wsX6_hasShape) := goodIn_app (goodIn_of _ (by decide +kernel)) ggX8_as_X6_hasShape
set_option maxRecDepth 20000 in
theorem ggX8_as_X8_isKind : GoodIn wsX8_as wsX8_isKind := goodIn_r _ [13] (by decide +kernel) (by decide +kernel)
set_option maxRecDepth 20000 in
theorem gX8_as_X8_isKind : GoodIn wsX8_as (va_wsS RX8 55 yX8_isKind wsX8_isKind) := goodIn_app (goodIn_of _ (by decide +kernel)) ggX8_as_X8_isKind
set_option maxRecDepth 20000 in
theorem ggX8_as_X8_finding : GoodIn wsX8_as wsX8_finding := goodIn_r _ [17, 2, 18, 26, 27, 28, 29, 30, 31, 32, 33] (by decide +kernel) (by decide +kernel)
set_option maxRecDepth 20000 in
theorem gX8_as_X8_finding : GoodIn wsX8_as (wsV RX8 63 RX8 yX8_finding wsX8_finding) := goodIn_app (goodIn_of _ (by decide +kernel)) ggX8_as_X8_finding
set_option maxRecDepth 20000 in
theorem ggX8_as_X0_isUnder : GoodIn wsX8_as wsX0_isUnder := goodIn_r _ [22, 23, 24, 21, 25] (by decide +kernel) (by decide +kernel)
set_option maxRecDepth 20000 in
theorem gX8_as_X0_isUnder : GoodIn wsX8_as (va_wsS RX8 95 yX0_isUnder wsX0_isUnder) := goodIn_app (goodIn_of _ (by decide +kernel)) ggX8_as_X0_isUnder
theorem dX8_as_0 : decode cX8_as 0 = .ok (.aload_n 0, 1) := by decide +kernel
theorem dX8_as_1 : decode cX8_as 1 = .ok (.getfield 10, 3) := by decide +kernel
theorem dX8_as_4 : decode cX8_as 4 = .ok (.iload_n 1, 1) := by decide +kernel
theorem dX8_as_5 : decode cX8_as 5 = .ok (.invokevirtual 76, 3) := by decide +kernel
theorem dX8_as_8 : decode cX8_as 8 = .ok (.ifCond .eq 10, 3) := by decide +kernel
theorem dX8_as_11 : decode cX8_as 11 = .ok (.iload_n 2, 1) := by decide +kernel
theorem dX8_as_12 : decode cX8_as 12 = .ok (.invokestatic 55, 3) := by decide +kernel
theorem dX8_as_15 : decode cX8_as 15 = .ok (.ifCond .ne 10, 3) := by decide +kernel
theorem dX8_as_18 : decode cX8_as 18 = .ok (.aload_n 0, 1) := by decide +kernel
theorem dX8_as_19 : decode cX8_as 19 = .ok (.ldc 62, 2) := by decide +kernel
theorem dX8_as_21 : decode cX8_as 21 = .ok (.invokevirtual 63, 3) := by decide +kernel
theorem dX8_as_24 : decode cX8_as 24 = .ok (.ireturn, 1) := by decide +kernel
theorem dX8_as_25 : decode cX8_as 25 = .ok (.aload_n 0, 1) := by decide +kernel
theorem dX8_as_26 : decode cX8_as 26 = .ok (.getfield 10, 3) := by decide +kernel
theorem dX8_as_29 : decode cX8_as 29 = .ok (.getfield 79, 3) := by decide +kernel
theorem dX8_as_32 : decode cX8_as 32 = .ok (.iload_n 1, 1) := by decide +kernel
theorem dX8_as_33 : decode cX8_as 33 = .ok (.iaload, 1) := by decide +kernel
theorem dX8_as_34 : decode cX8_as 34 = .ok (.iload_n 2, 1) := by decide +kernel
theorem dX8_as_35 : decode cX8_as 35 = .ok (.invokestatic 95, 3) := by decide +kernel
theorem dX8_as_38 : decode cX8_as 38 = .ok (.ifCond .ne 10, 3) := by decide +kernel
theorem dX8_as_41 : decode cX8_as 41 = .ok (.aload_n 0, 1) := by decide +kernel
theorem dX8_as_42 : decode cX8_as 42 = .ok (.ldc 101, 2) := by decide +kernel
theorem dX8_as_44 : decode cX8_as 44 = .ok (.invokevirtual 63, 3) := by decide +kernel
theorem dX8_as_47 : decode cX8_as 47 = .ok (.ireturn, 1) := by decide +kernel
theorem dX8_as_48 : decode cX8_as 48 = .ok (.aload_n 0, 1) := by decide +kernel
theorem dX8_as_49 : decode cX8_as 49 = .ok (.getfield 10, 3) := by decide +kernel
theorem dX8_as_52 : decode cX8_as 52 = .ok (.getfield 82, 3) := by decide +kernel
theorem dX8_as_55 : decode cX8_as 55 = .ok (.iload_n 1, 1) := by decide +kernel
theorem dX8_as_56 : decode cX8_as 56 = .ok (.iaload, 1) := by decide +kernel
theorem dX8_as_57 : decode cX8_as 57 = .ok (.ireturn, 1) := by decide +kernel
set_option maxRecDepth 20000 in
theorem ggX8_thrown_X6_hasShape : GoodIn wsX8_thrown wsX6_hasShape := goodIn_r _ [7, 8, 45, 46, 47, 48, 49, 50, 51, 52, 53] (by decide +kernel) (by decide +kernel)
set_option maxRecDepth 20000 in
theorem gX8_thrown_X6_hasShape : GoodIn wsX8_thrown (wsV RX8 76 RX6 yX6_hasShape wsX6_hasShape) := goodIn_app (goodIn_of _ (by decide +kernel)) ggX8_thrown_X6_hasShape
set_option maxRecDepth 20000 in
theorem ggX8_thrown_X8_finding : GoodIn wsX8_thrown wsX8_finding := goodIn_r _ [13, 2, 14, 37, 38, 39, 40, 41, 42, 43, 44] (by decide +kernel) (by decide +kernel)
set_option maxRecDepth 20000 in
theorem gX8_thrown_X8_finding : GoodIn wsX8_thrown (wsV RX8 63 RX8 yX8_finding wsX8_finding) := goodIn_app (goodIn_of _ (by decide +kernel)) ggX8_thrown_X8_finding
set_option maxRecDepth 20000 in
theorem ggX8_thrown_X0_pointsBy : GoodIn wsX8_thrown wsX0_pointsBy := goodIn_r _ [18, 19, 20, 17, 21, 22, 23, 24, 25, 26, 27, 28, 29, 30, 31, 32, 33, 34, 35, 36] (by decide +kernel) (by decide +kernel)
set_option maxRecDepth 20000 in
theorem gX8_thrown_X0_pointsBy : GoodIn wsX8_thrown (va_wsS RX8 102 yX0_pointsBy wsX0_pointsBy) := goodIn_app (goodIn_of _ (by decide +kernel)) ggX8_thrown_X0_pointsBy
theorem dX8_thrown_0 : decode cX8_thrown 0 = .ok (.aload_n 0, 1) := by decide +kernel
theorem dX8_thrown_1 : decode cX8_thrown 1 = .ok (.getfield 10, 3) := by decide +kernel
theorem dX8_thrown_4 : decode cX8_thrown 4 = .ok (.iload_n 1, 1) := by decide +kernel
theorem dX8_thrown_5 : decode cX8_thrown 5 = .ok (.invokevirtual 76, 3) := by decide +kernel
