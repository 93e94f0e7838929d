theorem dX0_isUnder_0 : decode cX0_isUnder 0 = .ok (.iload_n 0, 1) := by decide +kernel
theorem dX0_isUnder_1 : decode cX0_isUnder 1 = .ok (.istore_n 2, 1) := by decide +kernel
theorem dX0_isUnder_2 : decode cX0_isUnder 2 = .ok (.iconst 0, 1) := by decide +kernel
theorem dX0_isUnder_3 : decode cX0_isUnder 3 = .ok (.istore_n 3, 1) := by decide +kernel
theorem dX0_isUnder_4 : decode cX0_isUnder 4 = .ok (.iload_n 3, 1) := by decide +kernel
theorem dX0_isUnder_5 : decode cX0_isUnder 5 = .ok (.bipush 6, 2) := by decide +kernel
theorem dX0_isUnder_7 : decode cX0_isUnder 7 = .ok (.if_icmp .ge 21, 3) := by decide +kernel
theorem dX0_isUnder_10 : decode cX0_isUnder 10 = .ok (.iload_n 2, 1) := by decide +kernel
theorem dX0_isUnder_11 : decode cX0_isUnder 11 = .ok (.iload_n 1, 1) := by decide +kernel
theorem dX0_isUnder_12 : decode cX0_isUnder 12 = .ok (.if_icmp .ne 5, 3) := by decide +kernel
theorem dX0_isUnder_15 : decode cX0_isUnder 15 = .ok (.iconst 1, 1) := by decide +kernel
theorem dX0_isUnder_16 : decode cX0_isUnder 16 = .ok (.ireturn, 1) := by decide +kernel
theorem dX0_isUnder_17 : decode cX0_isUnder 17 = .ok (.iload_n 2, 1) := by decide +kernel
theorem dX0_isUnder_18 : decode cX0_isUnder 18 = .ok (.invokestatic 9, 3) := by decide +kernel
theorem dX0_isUnder_21 : decode cX0_isUnder 21 = .ok (.istore_n 2, 1) := by decide +kernel
theorem dX0_isUnder_22 : decode cX0_isUnder 22 = .ok (.iinc 3 1, 3) := by decide +kernel
theorem dX0_isUnder_25 : decode cX0_isUnder 25 = .ok (.goto (-21), 3) := by decide +kernel
theorem dX0_isUnder_28 : decode cX0_isUnder 28 = .ok (.iconst 0, 1) := by decide +kernel
theorem dX0_isUnder_29 : decode cX0_isUnder 29 = .ok (.ireturn, 1) := by decide +kernel
theorem dX0_nextAbove_0 : decode cX0_nextAbove 0 = .ok (.iload_n 0, 1) := by decide +kernel
theorem dX0_nextAbove_1 : decode cX0_nextAbove 1 = .ok (.tableswitch 31 3 5 #[27, 29, 27], 27) := by decide +kernel
theorem dX0_nextAbove_28 : decode cX0_nextAbove 28 = .ok (.iconst 1, 1) := by decide +kernel
theorem dX0_nextAbove_29 : decode cX0_nextAbove 29 = .ok (.ireturn, 1) := by decide +kernel
theorem dX0_nextAbove_30 : decode cX0_nextAbove 30 = .ok (.iconst 2, 1) := by decide +kernel
theorem dX0_nextAbove_31 : decode cX0_nextAbove 31 = .ok (.ireturn, 1) := by decide +kernel
theorem dX0_nextAbove_32 : decode cX0_nextAbove 32 = .ok (.iconst 0, 1) := by decide +kernel
theorem dX0_nextAbove_33 : decode cX0_nextAbove 33 = .ok (.ireturn, 1) := by decide +kernel
theorem dX0_pointsBy_0 : decode cX0_pointsBy 0 = .ok (.iload_n 0, 1) := by decide +kernel
theorem dX0_pointsBy_1 : decode cX0_pointsBy 1 = .ok (.tableswitch 74 1 5 #[35, 41, 47, 56, 65], 35) := by decide +kernel
theorem dX0_pointsBy_36 : decode cX0_pointsBy 36 = .ok (.iload_n 1, 1) := by decide +kernel
theorem dX0_pointsBy_37 : decode cX0_pointsBy 37 = .ok (.iload_n 2, 1) := by decide +kernel
theorem dX0_pointsBy_38 : decode cX0_pointsBy 38 = .ok (.invokestatic 15, 3) := by decide +kernel
theorem dX0_pointsBy_41 : decode cX0_pointsBy 41 = .ok (.ireturn, 1) := by decide +kernel
theorem dX0_pointsBy_42 : decode cX0_pointsBy 42 = .ok (.iload_n 1, 1) := by decide +kernel
theorem dX0_pointsBy_43 : decode cX0_pointsBy 43 = .ok (.iload_n 2, 1) := by decide +kernel
theorem dX0_pointsBy_44 : decode cX0_pointsBy 44 = .ok (.invokestatic 19, 3) := by decide +kernel
theorem dX0_pointsBy_47 : decode cX0_pointsBy 47 = .ok (.ireturn, 1) := by decide +kernel
theorem dX0_pointsBy_48 : decode cX0_pointsBy 48 = .ok (.iload_n 1, 1) := by decide +kernel
theorem dX0_pointsBy_49 : decode cX0_pointsBy 49 = .ok (.iload_n 2, 1) := by decide +kernel
theorem dX0_pointsBy_50 : decode cX0_pointsBy 50 = .ok (.invokestatic 15, 3) := by decide +kernel
theorem dX0_pointsBy_53 : decode cX0_pointsBy 53 = .ok (.invokestatic 22, 3) := by decide +kernel
theorem dX0_pointsBy_56 : decode cX0_pointsBy 56 = .ok (.ireturn, 1) := by decide +kernel
theorem dX0_pointsBy_57 : decode cX0_pointsBy 57 = .ok (.iload_n 1, 1) := by decide +kernel
theorem dX0_pointsBy_58 : decode cX0_pointsBy 58 = .ok (.iload_n 2, 1) := by decide +kernel
theorem dX0_pointsBy_59 : decode cX0_pointsBy 59 = .ok (.invokestatic 19, 3) := by decide +kernel
theorem dX0_pointsBy_62 : decode cX0_pointsBy 62 = .ok (.invokestatic 25, 3) := by decide +kernel
theorem dX0_pointsBy_65 : decode cX0_pointsBy 65 = .ok (.ireturn, 1) := by decide +kernel
theorem dX0_pointsBy_66 : decode cX0_pointsBy 66 = .ok (.iload_n 1, 1) := by decide +kernel
theorem dX0_pointsBy_67 : decode cX0_pointsBy 67 = .ok (.iload_n 2, 1) := by decide +kernel
theorem dX0_pointsBy_68 : decode cX0_pointsBy 68 = .ok (.invokestatic 15, 3) := by decide +kernel
theorem dX0_pointsBy_71 : decode cX0_pointsBy 71 = .ok (.invokestatic 28, 3) := by decide +kernel
theorem dX0_pointsBy_74 : decode cX0_pointsBy 74 = .ok (.ireturn, 1) := by decide +kernel
theorem dX0_pointsBy_75 : decode cX0_pointsBy 75 = .ok (.iload_n 1, 1) := by decide +kernel
theorem dX0_pointsBy_76 : decode cX0_pointsBy 76 = .ok (.ireturn, 1) := by decide +kernel
theorem dX0_turnedBy_0 : decode cX0_turnedBy 0 = .ok (.iload_n 0, 1) := by decide +kernel
theorem dX0_turnedBy_1 : decode cX0_turnedBy 1 = .ok (.istore_n 2, 1) := by decide +kernel
theorem dX0_turnedBy_2 : decode cX0_turnedBy 2 = .ok (.iconst 0, 1) := by decide +kernel
theorem dX0_turnedBy_3 : decode cX0_turnedBy 3 = .ok (.istore_n 3, 1) := by decide +kernel
theorem dX0_turnedBy_4 : decode cX0_turnedBy 4 = .ok (.iload_n 3, 1) := by decide +kernel
theorem dX0_turnedBy_5 : decode cX0_turnedBy 5 = .ok (.iload_n 1, 1) := by decide +kernel
theorem dX0_turnedBy_6 : decode cX0_turnedBy 6 = .ok (.if_icmp .ge 61, 3) := by decide +kernel
theorem dX0_turnedBy_9 : decode cX0_turnedBy 9 = .ok (.iconst 0, 1) := by decide +kernel
theorem dX0_turnedBy_10 : decode cX0_turnedBy 10 = .ok (.istore 4, 2) := by decide +kernel
theorem dX0_turnedBy_12 : decode cX0_turnedBy 12 = .ok (.iconst 0, 1) := by decide +kernel
theorem dX0_turnedBy_13 : decode cX0_turnedBy 13 = .ok (.istore 5, 2) := by decide +kernel
theorem dX0_turnedBy_15 : decode cX0_turnedBy 15 = .ok (.iload 5, 2) := by decide +kernel
theorem dX0_turnedBy_17 : decode cX0_turnedBy 17 = .ok (.bipush 16, 2) := by decide +kernel
theorem dX0_turnedBy_19 : decode cX0_turnedBy 19 = .ok (.if_icmp .ge 39, 3) := by decide +kernel
theorem dX0_turnedBy_22 : decode cX0_turnedBy 22 = .ok (.iload_n 2, 1) := by decide +kernel
theorem dX0_turnedBy_23 : decode cX0_turnedBy 23 = .ok (.iload 5, 2) := by decide +kernel
theorem dX0_turnedBy_25 : decode cX0_turnedBy 25 = .ok (.ishr, 1) := by decide +kernel
theorem dX0_turnedBy_26 : decode cX0_turnedBy 26 = .ok (.iconst 1, 1) := by decide +kernel
theorem dX0_turnedBy_27 : decode cX0_turnedBy 27 = .ok (.iand, 1) := by decide +kernel
theorem dX0_turnedBy_28 : decode cX0_turnedBy 28 = .ok (.iconst 1, 1) := by decide +kernel
theorem dX0_turnedBy_29 : decode cX0_turnedBy 29 = .ok (.if_icmp .ne 23, 3) := by decide +kernel
theorem dX0_turnedBy_32 : decode cX0_turnedBy 32 = .ok (.iload 4, 2) := by decide +kernel
theorem dX0_turnedBy_34 : decode cX0_turnedBy 34 = .ok (.iconst 1, 1) := by decide +kernel
theorem dX0_turnedBy_35 : decode cX0_turnedBy 35 = .ok (.iconst 4, 1) := by decide +kernel
theorem dX0_turnedBy_36 : decode cX0_turnedBy 36 = .ok (.iload 5, 2) := by decide +kernel
theorem dX0_turnedBy_38 : decode cX0_turnedBy 38 = .ok (.iconst 4, 1) := by decide +kernel
theorem dX0_turnedBy_39 : decode cX0_turnedBy 39 = .ok (.irem, 1) := by decide +kernel
theorem dX0_turnedBy_40 : decode cX0_turnedBy 40 = .ok (.imul, 1) := by decide +kernel
theorem dX0_turnedBy_41 : decode cX0_turnedBy 41 = .ok (.iconst 3, 1) := by decide +kernel
theorem dX0_turnedBy_42 : decode cX0_turnedBy 42 = .ok (.iadd, 1) := by decide +kernel
theorem dX0_turnedBy_43 : decode cX0_turnedBy 43 = .ok (.iload 5, 2) := by decide +kernel
theorem dX0_turnedBy_45 : decode cX0_turnedBy 45 = .ok (.iconst 4, 1) := by decide +kernel
theorem dX0_turnedBy_46 : decode cX0_turnedBy 46 = .ok (.idiv, 1) := by decide +kernel
theorem dX0_turnedBy_47 : decode cX0_turnedBy 47 = .ok (.isub, 1) := by decide +kernel
theorem dX0_turnedBy_48 : decode cX0_turnedBy 48 = .ok (.ishl, 1) := by decide +kernel
theorem dX0_turnedBy_49 : decode cX0_turnedBy 49 = .ok (.ior, 1) := by decide +kernel
theorem dX0_turnedBy_50 : decode cX0_turnedBy 50 = .ok (.istore 4, 2) := by decide +kernel
theorem dX0_turnedBy_52 : decode cX0_turnedBy 52 = .ok (.iinc 5 1, 3) := by decide +kernel
theorem dX0_turnedBy_55 : decode cX0_turnedBy 55 = .ok (.goto (-40), 3) := by decide +kernel
theorem dX0_turnedBy_58 : decode cX0_turnedBy 58 = .ok (.iload 4, 2) := by decide +kernel
theorem dX0_turnedBy_60 : decode cX0_turnedBy 60 = .ok (.istore_n 2, 1) := by decide +kernel
theorem dX0_turnedBy_61 : decode cX0_turnedBy 61 = .ok (.iinc 3 1, 3) := by decide +kernel
theorem dX0_turnedBy_64 : decode cX0_turnedBy 64 = .ok (.goto (-60), 3) := by decide +kernel
theorem dX0_turnedBy_67 : decode cX0_turnedBy 67 = .ok (.iload_n 2, 1) := by decide +kernel
theorem dX0_turnedBy_68 : decode cX0_turnedBy 68 = .ok (.ireturn, 1) := by decide +kernel
theorem dX0_mirroredBy_0 : decode cX0_mirroredBy 0 = .ok (.iload_n 1, 1) := by decide +kernel
theorem dX0_mirroredBy_1 : decode cX0_mirroredBy 1 = .ok (.iconst 1, 1) := by decide +kernel
theorem dX0_mirroredBy_2 : decode cX0_mirroredBy 2 = .ok (.iand, 1) := by decide +kernel
theorem dX0_mirroredBy_3 : decode cX0_mirroredBy 3 = .ok (.ifCond .ne 5, 3) := by decide +kernel
theorem dX0_mirroredBy_6 : decode cX0_mirroredBy 6 = .ok (.iload_n 0, 1) := by decide +kernel
theorem dX0_mirroredBy_7 : decode cX0_mirroredBy 7 = .ok (.ireturn, 1) := by decide +kernel
theorem dX0_mirroredBy_8 : decode cX0_mirroredBy 8 = .ok (.iload_n 0, 1) := by decide +kernel
theorem dX0_mirroredBy_9 : decode cX0_mirroredBy 9 = .ok (.sipush 4369, 3) := by decide +kernel
theorem dX0_mirroredBy_12 : decode cX0_mirroredBy 12 = .ok (.iand, 1) := by decide +kernel
theorem dX0_mirroredBy_13 : decode cX0_mirroredBy 13 = .ok (.iconst 3, 1) := by decide +kernel
theorem dX0_mirroredBy_14 : decode cX0_mirroredBy 14 = .ok (.ishl, 1) := by decide +kernel
theorem dX0_mirroredBy_15 : decode cX0_mirroredBy 15 = .ok (.iload_n 0, 1) := by decide +kernel
theorem dX0_mirroredBy_16 : decode cX0_mirroredBy 16 = .ok (.sipush 8738, 3) := by decide +kernel
theorem dX0_mirroredBy_19 : decode cX0_mirroredBy 19 = .ok (.iand, 1) := by decide +kernel
theorem dX0_mirroredBy_20 : decode cX0_mirroredBy 20 = .ok (.iconst 1, 1) := by decide +kernel
theorem dX0_mirroredBy_21 : decode cX0_mirroredBy 21 = .ok (.ishl, 1) := by decide +kernel
theorem dX0_mirroredBy_22 : decode cX0_mirroredBy 22 = .ok (.ior, 1) := by decide +kernel
theorem dX0_mirroredBy_23 : decode cX0_mirroredBy 23 = .ok (.iload_n 0, 1) := by decide +kernel
theorem dX0_mirroredBy_24 : decode cX0_mirroredBy 24 = .ok (.sipush 17476, 3) := by decide +kernel
theorem dX0_mirroredBy_27 : decode cX0_mirroredBy 27 = .ok (.iand, 1) := by decide +kernel
theorem dX0_mirroredBy_28 : decode cX0_mirroredBy 28 = .ok (.iconst 1, 1) := by decide +kernel
theorem dX0_mirroredBy_29 : decode cX0_mirroredBy 29 = .ok (.ishr, 1) := by decide +kernel
theorem dX0_mirroredBy_30 : decode cX0_mirroredBy 30 = .ok (.ior, 1) := by decide +kernel
theorem dX0_mirroredBy_31 : decode cX0_mirroredBy 31 = .ok (.iload_n 0, 1) := by decide +kernel
theorem dX0_mirroredBy_32 : decode cX0_mirroredBy 32 = .ok (.ldc 31, 2) := by decide +kernel
theorem dX0_mirroredBy_34 : decode cX0_mirroredBy 34 = .ok (.iand, 1) := by decide +kernel
theorem dX0_mirroredBy_35 : decode cX0_mirroredBy 35 = .ok (.iconst 3, 1) := by decide +kernel
theorem dX0_mirroredBy_36 : decode cX0_mirroredBy 36 = .ok (.ishr, 1) := by decide +kernel
theorem dX0_mirroredBy_37 : decode cX0_mirroredBy 37 = .ok (.ior, 1) := by decide +kernel
theorem dX0_mirroredBy_38 : decode cX0_mirroredBy 38 = .ok (.ireturn, 1) := by decide +kernel
theorem dX0_hollowed_0 : decode cX0_hollowed 0 = .ok (.iload_n 0, 1) := by decide +kernel
theorem dX0_hollowed_1 : decode cX0_hollowed 1 = .ok (.iconst 1, 1) := by decide +kernel
theorem dX0_hollowed_2 : decode cX0_hollowed 2 = .ok (.ishl, 1) := by decide +kernel
theorem dX0_hollowed_3 : decode cX0_hollowed 3 = .ok (.ldc 32, 2) := by decide +kernel
theorem dX0_hollowed_5 : decode cX0_hollowed 5 = .ok (.iand, 1) := by decide +kernel
theorem dX0_hollowed_6 : decode cX0_hollowed 6 = .ok (.istore_n 1, 1) := by decide +kernel
theorem dX0_hollowed_7 : decode cX0_hollowed 7 = .ok (.iload_n 0, 1) := by decide +kernel
theorem dX0_hollowed_8 : decode cX0_hollowed 8 = .ok (.iconst 1, 1) := by decide +kernel
theorem dX0_hollowed_9 : decode cX0_hollowed 9 = .ok (.ishr, 1) := by decide +kernel
theorem dX0_hollowed_10 : decode cX0_hollowed 10 = .ok (.sipush 30583, 3) := by decide +kernel
theorem dX0_hollowed_13 : decode cX0_hollowed 13 = .ok (.iand, 1) := by decide +kernel
theorem dX0_hollowed_14 : decode cX0_hollowed 14 = .ok (.istore_n 2, 1) := by decide +kernel
theorem dX0_hollowed_15 : decode cX0_hollowed 15 = .ok (.iload_n 0, 1) := by decide +kernel
theorem dX0_hollowed_16 : decode cX0_hollowed 16 = .ok (.iconst 4, 1) := by decide +kernel
theorem dX0_hollowed_17 : decode cX0_hollowed 17 = .ok (.ishl, 1) := by decide +kernel
theorem dX0_hollowed_18 : decode cX0_hollowed 18 = .ok (.istore_n 3, 1) := by decide +kernel
theorem dX0_hollowed_19 : decode cX0_hollowed 19 = .ok (.iload_n 0, 1) := by decide +kernel
theorem dX0_hollowed_20 : decode cX0_hollowed 20 = .ok (.iconst 4, 1) := by decide +kernel
theorem dX0_hollowed_21 : decode cX0_hollowed 21 = .ok (.ishr, 1) := by decide +kernel
theorem dX0_hollowed_22 : decode cX0_hollowed 22 = .ok (.istore 4, 2) := by decide +kernel
theorem dX0_hollowed_24 : decode cX0_hollowed 24 = .ok (.iload_n 0, 1) := by decide +kernel
theorem dX0_hollowed_25 : decode cX0_hollowed 25 = .ok (.iload_n 1, 1) := by decide +kernel
theorem dX0_hollowed_26 : decode cX0_hollowed 26 = .ok (.iload_n 2, 1) := by decide +kernel
theorem dX0_hollowed_27 : decode cX0_hollowed 27 = .ok (.iand, 1) := by decide +kernel
theorem dX0_hollowed_28 : decode cX0_hollowed 28 = .ok (.iload_n 3, 1) := by decide +kernel
theorem dX0_hollowed_29 : decode cX0_hollowed 29 = .ok (.iand, 1) := by decide +kernel
theorem dX0_hollowed_30 : decode cX0_hollowed 30 = .ok (.iload 4, 2) := by decide +kernel
theorem dX0_hollowed_32 : decode cX0_hollowed 32 = .ok (.iand, 1) := by decide +kernel
theorem dX0_hollowed_33 : decode cX0_hollowed 33 = .ok (.iconst (-1), 1) := by decide +kernel
theorem dX0_hollowed_34 : decode cX0_hollowed 34 = .ok (.ixor, 1) := by decide +kernel
theorem dX0_hollowed_35 : decode cX0_hollowed 35 = .ok (.iand, 1) := by decide +kernel
theorem dX0_hollowed_36 : decode cX0_hollowed 36 = .ok (.ireturn, 1) := by decide +kernel
theorem dX0_doubled_0 : decode cX0_doubled 0 = .ok (.iload_n 0, 1) := by decide +kernel
theorem dX0_doubled_1 : decode cX0_doubled 1 = .ok (.iload_n 0, 1) := by decide +kernel
theorem dX0_doubled_2 : decode cX0_doubled 2 = .ok (.iconst 4, 1) := by decide +kernel
theorem dX0_doubled_3 : decode cX0_doubled 3 = .ok (.ishl, 1) := by decide +kernel
theorem dX0_doubled_4 : decode cX0_doubled 4 = .ok (.ior, 1) := by decide +kernel
theorem dX0_doubled_5 : decode cX0_doubled 5 = .ok (.ldc 33, 2) := by decide +kernel
theorem dX0_doubled_7 : decode cX0_doubled 7 = .ok (.iand, 1) := by decide +kernel
theorem dX0_doubled_8 : decode cX0_doubled 8 = .ok (.ireturn, 1) := by decide +kernel
theorem dX0_filled_0 : decode cX0_filled 0 = .ok (.iload_n 0, 1) := by decide +kernel
theorem dX0_filled_1 : decode cX0_filled 1 = .ok (.istore_n 1, 1) := by decide +kernel
theorem dX0_filled_2 : decode cX0_filled 2 = .ok (.iconst 0, 1) := by decide +kernel
theorem dX0_filled_3 : decode cX0_filled 3 = .ok (.istore_n 2, 1) := by decide +kernel
theorem dX0_filled_4 : decode cX0_filled 4 = .ok (.iload_n 2, 1) := by decide +kernel
theorem dX0_filled_5 : decode cX0_filled 5 = .ok (.bipush 16, 2) := by decide +kernel
theorem dX0_filled_7 : decode cX0_filled 7 = .ok (.if_icmp .ge 55, 3) := by decide +kernel
theorem dX0_filled_10 : decode cX0_filled 10 = .ok (.iload_n 0, 1) := by decide +kernel
theorem dX0_filled_11 : decode cX0_filled 11 = .ok (.iload_n 2, 1) := by decide +kernel
theorem dX0_filled_12 : decode cX0_filled 12 = .ok (.ishr, 1) := by decide +kernel
theorem dX0_filled_13 : decode cX0_filled 13 = .ok (.bipush 15, 2) := by decide +kernel
theorem dX0_filled_15 : decode cX0_filled 15 = .ok (.iand, 1) := by decide +kernel
theorem dX0_filled_16 : decode cX0_filled 16 = .ok (.istore_n 3, 1) := by decide +kernel
theorem dX0_filled_17 : decode cX0_filled 17 = .ok (.iload_n 3, 1) := by decide +kernel
theorem dX0_filled_18 : decode cX0_filled 18 = .ok (.iconst 1, 1) := by decide +kernel
theorem dX0_filled_19 : decode cX0_filled 19 = .ok (.ishl, 1) := by decide +kernel
theorem dX0_filled_20 : decode cX0_filled 20 = .ok (.iload_n 3, 1) := by decide +kernel
theorem dX0_filled_21 : decode cX0_filled 21 = .ok (.iconst 2, 1) := by decide +kernel
theorem dX0_filled_22 : decode cX0_filled 22 = .ok (.ishl, 1) := by decide +kernel
theorem dX0_filled_23 : decode cX0_filled 23 = .ok (.ior, 1) := by decide +kernel
theorem dX0_filled_24 : decode cX0_filled 24 = .ok (.iload_n 3, 1) := by decide +kernel
theorem dX0_filled_25 : decode cX0_filled 25 = .ok (.iconst 3, 1) := by decide +kernel
theorem dX0_filled_26 : decode cX0_filled 26 = .ok (.ishl, 1) := by decide +kernel
theorem dX0_filled_27 : decode cX0_filled 27 = .ok (.ior, 1) := by decide +kernel
theorem dX0_filled_28 : decode cX0_filled 28 = .ok (.istore 4, 2) := by decide +kernel
theorem dX0_filled_30 : decode cX0_filled 30 = .ok (.iload_n 3, 1) := by decide +kernel
theorem dX0_filled_31 : decode cX0_filled 31 = .ok (.iconst 1, 1) := by decide +kernel
theorem dX0_filled_32 : decode cX0_filled 32 = .ok (.ishr, 1) := by decide +kernel
theorem dX0_filled_33 : decode cX0_filled 33 = .ok (.iload_n 3, 1) := by decide +kernel
theorem dX0_filled_34 : decode cX0_filled 34 = .ok (.iconst 2, 1) := by decide +kernel
theorem dX0_filled_35 : decode cX0_filled 35 = .ok (.ishr, 1) := by decide +kernel
theorem dX0_filled_36 : decode cX0_filled 36 = .ok (.ior, 1) := by decide +kernel
theorem dX0_filled_37 : decode cX0_filled 37 = .ok (.iload_n 3, 1) := by decide +kernel
theorem dX0_filled_38 : decode cX0_filled 38 = .ok (.iconst 3, 1) := by decide +kernel
theorem dX0_filled_39 : decode cX0_filled 39 = .ok (.ishr, 1) := by decide +kernel
theorem dX0_filled_40 : decode cX0_filled 40 = .ok (.ior, 1) := by decide +kernel
theorem dX0_filled_41 : decode cX0_filled 41 = .ok (.istore 5, 2) := by decide +kernel
theorem dX0_filled_43 : decode cX0_filled 43 = .ok (.iload_n 1, 1) := by decide +kernel
theorem dX0_filled_44 : decode cX0_filled 44 = .ok (.iload 4, 2) := by decide +kernel
theorem dX0_filled_46 : decode cX0_filled 46 = .ok (.iload 5, 2) := by decide +kernel
theorem dX0_filled_48 : decode cX0_filled 48 = .ok (.iand, 1) := by decide +kernel
theorem dX0_filled_49 : decode cX0_filled 49 = .ok (.bipush 15, 2) := by decide +kernel
theorem dX0_filled_51 : decode cX0_filled 51 = .ok (.iand, 1) := by decide +kernel
theorem dX0_filled_52 : decode cX0_filled 52 = .ok (.iload_n 2, 1) := by decide +kernel
theorem dX0_filled_53 : decode cX0_filled 53 = .ok (.ishl, 1) := by decide +kernel
theorem dX0_filled_54 : decode cX0_filled 54 = .ok (.ior, 1) := by decide +kernel
theorem dX0_filled_55 : decode cX0_filled 55 = .ok (.istore_n 1, 1) := by decide +kernel
theorem dX0_filled_56 : decode cX0_filled 56 = .ok (.iinc 2 4, 3) := by decide +kernel
theorem dX0_filled_59 : decode cX0_filled 59 = .ok (.goto (-55), 3) := by decide +kernel
theorem dX0_filled_62 : decode cX0_filled 62 = .ok (.iload_n 1, 1) := by decide +kernel
theorem dX0_filled_63 : decode cX0_filled 63 = .ok (.ireturn, 1) := by decide +kernel
theorem dX1_isPlacing_0 : decode cX1_isPlacing 0 = .ok (.iload_n 0, 1) := by decide +kernel
theorem dX1_isPlacing_1 : decode cX1_isPlacing 1 = .ok (.sipush 1000, 3) := by decide +kernel
theorem dX1_isPlacing_4 : decode cX1_isPlacing 4 = .ok (.idiv, 1) := by decide +kernel
theorem dX1_isPlacing_5 : decode cX1_isPlacing 5 = .ok (.istore_n 1, 1) := by decide +kernel
theorem dX1_isPlacing_6 : decode cX1_isPlacing 6 = .ok (.iload_n 0, 1) := by decide +kernel
theorem dX1_isPlacing_7 : decode cX1_isPlacing 7 = .ok (.sipush 1000, 3) := by decide +kernel
theorem dX1_isPlacing_10 : decode cX1_isPlacing 10 = .ok (.irem, 1) := by decide +kernel
theorem dX1_isPlacing_11 : decode cX1_isPlacing 11 = .ok (.istore_n 2, 1) := by decide +kernel
theorem dX1_isPlacing_12 : decode cX1_isPlacing 12 = .ok (.iload_n 1, 1) := by decide +kernel
theorem dX1_isPlacing_13 : decode cX1_isPlacing 13 = .ok (.iconst 4, 1) := by decide +kernel
theorem dX1_isPlacing_14 : decode cX1_isPlacing 14 = .ok (.if_icmp .lt 31, 3) := by decide +kernel
theorem dX1_isPlacing_17 : decode cX1_isPlacing 17 = .ok (.iload_n 1, 1) := by decide +kernel
theorem dX1_isPlacing_18 : decode cX1_isPlacing 18 = .ok (.bipush 11, 2) := by decide +kernel
theorem dX1_isPlacing_20 : decode cX1_isPlacing 20 = .ok (.if_icmp .gt 25, 3) := by decide +kernel
theorem dX1_isPlacing_23 : decode cX1_isPlacing 23 = .ok (.iload_n 2, 1) := by decide +kernel
theorem dX1_isPlacing_24 : decode cX1_isPlacing 24 = .ok (.bipush 10, 2) := by decide +kernel
theorem dX1_isPlacing_26 : decode cX1_isPlacing 26 = .ok (.idiv, 1) := by decide +kernel
theorem dX1_isPlacing_27 : decode cX1_isPlacing 27 = .ok (.bipush 8, 2) := by decide +kernel
theorem dX1_isPlacing_29 : decode cX1_isPlacing 29 = .ok (.if_icmp .ge 16, 3) := by decide +kernel
theorem dX1_isPlacing_32 : decode cX1_isPlacing 32 = .ok (.iload_n 2, 1) := by decide +kernel
theorem dX1_isPlacing_33 : decode cX1_isPlacing 33 = .ok (.bipush 10, 2) := by decide +kernel
theorem dX1_isPlacing_35 : decode cX1_isPlacing 35 = .ok (.irem, 1) := by decide +kernel
theorem dX1_isPlacing_36 : decode cX1_isPlacing 36 = .ok (.bipush 8, 2) := by decide +kernel
theorem dX1_isPlacing_38 : decode cX1_isPlacing 38 = .ok (.if_icmp .ge 7, 3) := by decide +kernel
theorem dX1_isPlacing_41 : decode cX1_isPlacing 41 = .ok (.iconst 1, 1) := by decide +kernel
theorem dX1_isPlacing_42 : decode cX1_isPlacing 42 = .ok (.goto 4, 3) := by decide +kernel
theorem dX1_isPlacing_45 : decode cX1_isPlacing 45 = .ok (.iconst 0, 1) := by decide +kernel
theorem dX1_isPlacing_46 : decode cX1_isPlacing 46 = .ok (.ireturn, 1) := by decide +kernel
theorem dX1_placingAt_0 : decode cX1_placingAt 0 = .ok (.sipush 1000, 3) := by decide +kernel
theorem dX1_placingAt_3 : decode cX1_placingAt 3 = .ok (.iload_n 0, 1) := by decide +kernel
theorem dX1_placingAt_4 : decode cX1_placingAt 4 = .ok (.imul, 1) := by decide +kernel
theorem dX1_placingAt_5 : decode cX1_placingAt 5 = .ok (.bipush 10, 2) := by decide +kernel
theorem dX1_placingAt_7 : decode cX1_placingAt 7 = .ok (.iload_n 1, 1) := by decide +kernel
theorem dX1_placingAt_8 : decode cX1_placingAt 8 = .ok (.imul, 1) := by decide +kernel
theorem dX1_placingAt_9 : decode cX1_placingAt 9 = .ok (.iadd, 1) := by decide +kernel
theorem dX1_placingAt_10 : decode cX1_placingAt 10 = .ok (.iload_n 2, 1) := by decide +kernel
theorem dX1_placingAt_11 : decode cX1_placingAt 11 = .ok (.iadd, 1) := by decide +kernel
theorem dX1_placingAt_12 : decode cX1_placingAt 12 = .ok (.ireturn, 1) := by decide +kernel
theorem dX1_cellsAtCorner_0 : decode cX1_cellsAtCorner 0 = .ok (.lconst 0, 1) := by decide +kernel
theorem dX1_cellsAtCorner_1 : decode cX1_cellsAtCorner 1 = .ok (.lstore_n 2, 1) := by decide +kernel
theorem dX1_cellsAtCorner_2 : decode cX1_cellsAtCorner 2 = .ok (.iload_n 1, 1) := by decide +kernel
theorem dX1_cellsAtCorner_3 : decode cX1_cellsAtCorner 3 = .ok (.iconst 1, 1) := by decide +kernel
theorem dX1_cellsAtCorner_4 : decode cX1_cellsAtCorner 4 = .ok (.if_icmp .ne 7, 3) := by decide +kernel
theorem dX1_cellsAtCorner_7 : decode cX1_cellsAtCorner 7 = .ok (.lconst 1, 1) := by decide +kernel
theorem dX1_cellsAtCorner_8 : decode cX1_cellsAtCorner 8 = .ok (.goto 6, 3) := by decide +kernel
theorem dX1_cellsAtCorner_11 : decode cX1_cellsAtCorner 11 = .ok (.ldc2_w 9, 3) := by decide +kernel
theorem dX1_cellsAtCorner_14 : decode cX1_cellsAtCorner 14 = .ok (.lstore 4, 2) := by decide +kernel
theorem dX1_cellsAtCorner_16 : decode cX1_cellsAtCorner 16 = .ok (.iconst 0, 1) := by decide +kernel
theorem dX1_cellsAtCorner_17 : decode cX1_cellsAtCorner 17 = .ok (.istore 6, 2) := by decide +kernel
theorem dX1_cellsAtCorner_19 : decode cX1_cellsAtCorner 19 = .ok (.iload 6, 2) := by decide +kernel
theorem dX1_cellsAtCorner_21 : decode cX1_cellsAtCorner 21 = .ok (.iconst 4, 1) := by decide +kernel
theorem dX1_cellsAtCorner_22 : decode cX1_cellsAtCorner 22 = .ok (.if_icmp .ge 55, 3) := by decide +kernel
theorem dX1_cellsAtCorner_25 : decode cX1_cellsAtCorner 25 = .ok (.iconst 0, 1) := by decide +kernel
theorem dX1_cellsAtCorner_26 : decode cX1_cellsAtCorner 26 = .ok (.istore 7, 2) := by decide +kernel
theorem dX1_cellsAtCorner_28 : decode cX1_cellsAtCorner 28 = .ok (.iload 7, 2) := by decide +kernel
theorem dX1_cellsAtCorner_30 : decode cX1_cellsAtCorner 30 = .ok (.iconst 4, 1) := by decide +kernel
theorem dX1_cellsAtCorner_31 : decode cX1_cellsAtCorner 31 = .ok (.if_icmp .ge 40, 3) := by decide +kernel
theorem dX1_cellsAtCorner_34 : decode cX1_cellsAtCorner 34 = .ok (.iload_n 0, 1) := by decide +kernel
theorem dX1_cellsAtCorner_35 : decode cX1_cellsAtCorner 35 = .ok (.iconst 4, 1) := by decide +kernel
theorem dX1_cellsAtCorner_36 : decode cX1_cellsAtCorner 36 = .ok (.iload 6, 2) := by decide +kernel
theorem dX1_cellsAtCorner_38 : decode cX1_cellsAtCorner 38 = .ok (.imul, 1) := by decide +kernel
theorem dX1_cellsAtCorner_39 : decode cX1_cellsAtCorner 39 = .ok (.iload 7, 2) := by decide +kernel
theorem dX1_cellsAtCorner_41 : decode cX1_cellsAtCorner 41 = .ok (.iadd, 1) := by decide +kernel
theorem dX1_cellsAtCorner_42 : decode cX1_cellsAtCorner 42 = .ok (.ishr, 1) := by decide +kernel
theorem dX1_cellsAtCorner_43 : decode cX1_cellsAtCorner 43 = .ok (.iconst 1, 1) := by decide +kernel
theorem dX1_cellsAtCorner_44 : decode cX1_cellsAtCorner 44 = .ok (.iand, 1) := by decide +kernel
theorem dX1_cellsAtCorner_45 : decode cX1_cellsAtCorner 45 = .ok (.iconst 1, 1) := by decide +kernel
theorem dX1_cellsAtCorner_46 : decode cX1_cellsAtCorner 46 = .ok (.if_icmp .ne 19, 3) := by decide +kernel
theorem dX1_cellsAtCorner_49 : decode cX1_cellsAtCorner 49 = .ok (.lload_n 2, 1) := by decide +kernel
theorem dX1_cellsAtCorner_50 : decode cX1_cellsAtCorner 50 = .ok (.lload 4, 2) := by decide +kernel
theorem dX1_cellsAtCorner_52 : decode cX1_cellsAtCorner 52 = .ok (.iload_n 1, 1) := by decide +kernel
theorem dX1_cellsAtCorner_53 : decode cX1_cellsAtCorner 53 = .ok (.bipush 8, 2) := by decide +kernel
theorem dX1_cellsAtCorner_55 : decode cX1_cellsAtCorner 55 = .ok (.iload 6, 2) := by decide +kernel
theorem dX1_cellsAtCorner_57 : decode cX1_cellsAtCorner 57 = .ok (.imul, 1) := by decide +kernel
theorem dX1_cellsAtCorner_58 : decode cX1_cellsAtCorner 58 = .ok (.iload 7, 2) := by decide +kernel
theorem dX1_cellsAtCorner_60 : decode cX1_cellsAtCorner 60 = .ok (.iadd, 1) := by decide +kernel
theorem dX1_cellsAtCorner_61 : decode cX1_cellsAtCorner 61 = .ok (.imul, 1) := by decide +kernel
theorem dX1_cellsAtCorner_62 : decode cX1_cellsAtCorner 62 = .ok (.lshl, 1) := by decide +kernel
theorem dX1_cellsAtCorner_63 : decode cX1_cellsAtCorner 63 = .ok (.lor, 1) := by decide +kernel
theorem dX1_cellsAtCorner_64 : decode cX1_cellsAtCorner 64 = .ok (.lstore_n 2, 1) := by decide +kernel
theorem dX1_cellsAtCorner_65 : decode cX1_cellsAtCorner 65 = .ok (.iinc 7 1, 3) := by decide +kernel
theorem dX1_cellsAtCorner_68 : decode cX1_cellsAtCorner 68 = .ok (.goto (-40), 3) := by decide +kernel
theorem dX1_cellsAtCorner_71 : decode cX1_cellsAtCorner 71 = .ok (.iinc 6 1, 3) := by decide +kernel
theorem dX1_cellsAtCorner_74 : decode cX1_cellsAtCorner 74 = .ok (.goto (-55), 3) := by decide +kernel
theorem dX1_cellsAtCorner_77 : decode cX1_cellsAtCorner 77 = .ok (.lload_n 2, 1) := by decide +kernel
theorem dX1_cellsAtCorner_78 : decode cX1_cellsAtCorner 78 = .ok (.lreturn, 1) := by decide +kernel
theorem dX1_moved_0 : decode cX1_moved 0 = .ok (.ldc2_w 13, 3) := by decide +kernel
theorem dX1_moved_3 : decode cX1_moved 3 = .ok (.sipush 255, 3) := by decide +kernel
theorem dX1_moved_6 : decode cX1_moved 6 = .ok (.iload_n 3, 1) := by decide +kernel
theorem dX1_moved_7 : decode cX1_moved 7 = .ok (.ishr, 1) := by decide +kernel
theorem dX1_moved_8 : decode cX1_moved 8 = .ok (.i2l, 1) := by decide +kernel
theorem dX1_moved_9 : decode cX1_moved 9 = .ok (.lmul, 1) := by decide +kernel
theorem dX1_moved_10 : decode cX1_moved 10 = .ok (.lstore 4, 2) := by decide +kernel
theorem dX1_moved_12 : decode cX1_moved 12 = .ok (.lload_n 0, 1) := by decide +kernel
theorem dX1_moved_13 : decode cX1_moved 13 = .ok (.lload 4, 2) := by decide +kernel
theorem dX1_moved_15 : decode cX1_moved 15 = .ok (.land, 1) := by decide +kernel
theorem dX1_moved_16 : decode cX1_moved 16 = .ok (.bipush 8, 2) := by decide +kernel
theorem dX1_moved_18 : decode cX1_moved 18 = .ok (.iload_n 2, 1) := by decide +kernel
theorem dX1_moved_19 : decode cX1_moved 19 = .ok (.imul, 1) := by decide +kernel
theorem dX1_moved_20 : decode cX1_moved 20 = .ok (.iload_n 3, 1) := by decide +kernel
theorem dX1_moved_21 : decode cX1_moved 21 = .ok (.iadd, 1) := by decide +kernel
theorem dX1_moved_22 : decode cX1_moved 22 = .ok (.lshl, 1) := by decide +kernel
theorem dX1_moved_23 : decode cX1_moved 23 = .ok (.lreturn, 1) := by decide +kernel
theorem dX1_cellsOff_0 : decode cX1_cellsOff 0 = .ok (.lload_n 0, 1) := by decide +kernel
theorem dX1_cellsOff_1 : decode cX1_cellsOff 1 = .ok (.lload_n 2, 1) := by decide +kernel
theorem dX1_cellsOff_2 : decode cX1_cellsOff 2 = .ok (.lxor, 1) := by decide +kernel
theorem dX1_cellsOff_3 : decode cX1_cellsOff 3 = .ok (.invokestatic 15, 3) := by decide +kernel
theorem dX1_cellsOff_6 : decode cX1_cellsOff 6 = .ok (.ireturn, 1) := by decide +kernel
theorem dX1_rowOf_0 : decode cX1_rowOf 0 = .ok (.lload_n 0, 1) := by decide +kernel
theorem dX1_rowOf_1 : decode cX1_rowOf 1 = .ok (.bipush 8, 2) := by decide +kernel
theorem dX1_rowOf_3 : decode cX1_rowOf 3 = .ok (.iload_n 2, 1) := by decide +kernel
theorem dX1_rowOf_4 : decode cX1_rowOf 4 = .ok (.imul, 1) := by decide +kernel
theorem dX1_rowOf_5 : decode cX1_rowOf 5 = .ok (.lushr, 1) := by decide +kernel
theorem dX1_rowOf_6 : decode cX1_rowOf 6 = .ok (.ldc2_w 21, 3) := by decide +kernel
theorem dX1_rowOf_9 : decode cX1_rowOf 9 = .ok (.land, 1) := by decide +kernel
theorem dX1_rowOf_10 : decode cX1_rowOf 10 = .ok (.l2i, 1) := by decide +kernel
theorem dX1_rowOf_11 : decode cX1_rowOf 11 = .ok (.ireturn, 1) := by decide +kernel
theorem dX8_isKind_0 : decode cX8_isKind 0 = .ok (.iload_n 0, 1) := by decide +kernel
theorem dX8_isKind_1 : decode cX8_isKind 1 = .ok (.ifCond .lt 13, 3) := by decide +kernel
theorem dX8_isKind_4 : decode cX8_isKind 4 = .ok (.iload_n 0, 1) := by decide +kernel
theorem dX8_isKind_5 : decode cX8_isKind 5 = .ok (.bipush 6, 2) := by decide +kernel
theorem dX8_isKind_7 : decode cX8_isKind 7 = .ok (.if_icmp .ge 7, 3) := by decide +kernel
theorem dX8_isKind_10 : decode cX8_isKind 10 = .ok (.iconst 1, 1) := by decide +kernel
theorem dX8_isKind_11 : decode cX8_isKind 11 = .ok (.goto 4, 3) := by decide +kernel
theorem dX8_isKind_14 : decode cX8_isKind 14 = .ok (.iconst 0, 1) := by decide +kernel
theorem dX8_isKind_15 : decode cX8_isKind 15 = .ok (.ireturn, 1) := by decide +kernel
theorem dX8_isPoints_0 : decode cX8_isPoints 0 = .ok (.iload_n 0, 1) := by decide +kernel
theorem dX8_isPoints_1 : decode cX8_isPoints 1 = .ok (.ifCond .lt 14, 3) := by decide +kernel
theorem dX8_isPoints_4 : decode cX8_isPoints 4 = .ok (.iload_n 0, 1) := by decide +kernel
theorem dX8_isPoints_5 : decode cX8_isPoints 5 = .ok (.ldc_w 307, 3) := by decide +kernel
theorem dX8_isPoints_8 : decode cX8_isPoints 8 = .ok (.if_icmp .gt 7, 3) := by decide +kernel
theorem dX8_isPoints_11 : decode cX8_isPoints 11 = .ok (.iconst 1, 1) := by decide +kernel
theorem dX8_isPoints_12 : decode cX8_isPoints 12 = .ok (.goto 4, 3) := by decide +kernel
theorem dX8_isPoints_15 : decode cX8_isPoints 15 = .ok (.iconst 0, 1) := by decide +kernel
theorem dX8_isPoints_16 : decode cX8_isPoints 16 = .ok (.ireturn, 1) := by decide +kernel
theorem dX8_isWidth_0 : decode cX8_isWidth 0 = .ok (.iload_n 0, 1) := by decide +kernel
theorem dX8_isWidth_1 : decode cX8_isWidth 1 = .ok (.ifCond .eq 21, 3) := by decide +kernel
theorem dX8_isWidth_4 : decode cX8_isWidth 4 = .ok (.iload_n 0, 1) := by decide +kernel
theorem dX8_isWidth_5 : decode cX8_isWidth 5 = .ok (.bipush 8, 2) := by decide +kernel
theorem dX8_isWidth_7 : decode cX8_isWidth 7 = .ok (.if_icmp .eq 15, 3) := by decide +kernel
theorem dX8_isWidth_10 : decode cX8_isWidth 10 = .ok (.iload_n 0, 1) := by decide +kernel
theorem dX8_isWidth_11 : decode cX8_isWidth 11 = .ok (.bipush 16, 2) := by decide +kernel
theorem dX8_isWidth_13 : decode cX8_isWidth 13 = .ok (.if_icmp .eq 9, 3) := by decide +kernel
theorem dX8_isWidth_16 : decode cX8_isWidth 16 = .ok (.iload_n 0, 1) := by decide +kernel
theorem dX8_isWidth_17 : decode cX8_isWidth 17 = .ok (.bipush 64, 2) := by decide +kernel
theorem dX8_isWidth_19 : decode cX8_isWidth 19 = .ok (.if_icmp .ne 7, 3) := by decide +kernel
theorem dX8_isWidth_22 : decode cX8_isWidth 22 = .ok (.iconst 1, 1) := by decide +kernel
theorem dX8_isWidth_23 : decode cX8_isWidth 23 = .ok (.goto 4, 3) := by decide +kernel
theorem dX8_isWidth_26 : decode cX8_isWidth 26 = .ok (.iconst 0, 1) := by decide +kernel
theorem dX8_isWidth_27 : decode cX8_isWidth 27 = .ok (.ireturn, 1) := by decide +kernel
theorem dJ6_numberOfTrailingZeros_0f7a4_0 : decode cJ6_numberOfTrailingZeros_0f7a4 0 = .ok (.iload_n 0, 1) := by decide +kernel
theorem dJ6_numberOfTrailingZeros_0f7a4_1 : decode cJ6_numberOfTrailingZeros_0f7a4 1 = .ok (.iconst (-1), 1) := by decide +kernel
theorem dJ6_numberOfTrailingZeros_0f7a4_2 : decode cJ6_numberOfTrailingZeros_0f7a4 2 = .ok (.ixor, 1) := by decide +kernel
theorem dJ6_numberOfTrailingZeros_0f7a4_3 : decode cJ6_numberOfTrailingZeros_0f7a4 3 = .ok (.iload_n 0, 1) := by decide +kernel
theorem dJ6_numberOfTrailingZeros_0f7a4_4 : decode cJ6_numberOfTrailingZeros_0f7a4 4 = .ok (.iconst 1, 1) := by decide +kernel
theorem dJ6_numberOfTrailingZeros_0f7a4_5 : decode cJ6_numberOfTrailingZeros_0f7a4 5 = .ok (.isub, 1) := by decide +kernel
theorem dJ6_numberOfTrailingZeros_0f7a4_6 : decode cJ6_numberOfTrailingZeros_0f7a4 6 = .ok (.iand, 1) := by decide +kernel
theorem dJ6_numberOfTrailingZeros_0f7a4_7 : decode cJ6_numberOfTrailingZeros_0f7a4 7 = .ok (.istore_n 0, 1) := by decide +kernel
theorem dJ6_numberOfTrailingZeros_0f7a4_8 : decode cJ6_numberOfTrailingZeros_0f7a4 8 = .ok (.iload_n 0, 1) := by decide +kernel
theorem dJ6_numberOfTrailingZeros_0f7a4_9 : decode cJ6_numberOfTrailingZeros_0f7a4 9 = .ok (.ifCond .gt 8, 3) := by decide +kernel
theorem dJ6_numberOfTrailingZeros_0f7a4_12 : decode cJ6_numberOfTrailingZeros_0f7a4 12 = .ok (.iload_n 0, 1) := by decide +kernel
theorem dJ6_numberOfTrailingZeros_0f7a4_13 : decode cJ6_numberOfTrailingZeros_0f7a4 13 = .ok (.bipush 32, 2) := by decide +kernel
theorem dJ6_numberOfTrailingZeros_0f7a4_15 : decode cJ6_numberOfTrailingZeros_0f7a4 15 = .ok (.iand, 1) := by decide +kernel
theorem dJ6_numberOfTrailingZeros_0f7a4_16 : decode cJ6_numberOfTrailingZeros_0f7a4 16 = .ok (.ireturn, 1) := by decide +kernel
theorem dJ6_numberOfTrailingZeros_0f7a4_17 : decode cJ6_numberOfTrailingZeros_0f7a4 17 = .ok (.iconst 1, 1) := by decide +kernel
theorem dJ6_numberOfTrailingZeros_0f7a4_18 : decode cJ6_numberOfTrailingZeros_0f7a4 18 = .ok (.istore_n 1, 1) := by decide +kernel
theorem dJ6_numberOfTrailingZeros_0f7a4_19 : decode cJ6_numberOfTrailingZeros_0f7a4 19 = .ok (.iload_n 0, 1) := by decide +kernel
theorem dJ6_numberOfTrailingZeros_0f7a4_20 : decode cJ6_numberOfTrailingZeros_0f7a4 20 = .ok (.ldc_w 264, 3) := by decide +kernel
theorem dJ6_numberOfTrailingZeros_0f7a4_23 : decode cJ6_numberOfTrailingZeros_0f7a4 23 = .ok (.if_icmp .le 11, 3) := by decide +kernel
theorem dJ6_numberOfTrailingZeros_0f7a4_26 : decode cJ6_numberOfTrailingZeros_0f7a4 26 = .ok (.iinc 1 16, 3) := by decide +kernel
theorem dJ6_numberOfTrailingZeros_0f7a4_29 : decode cJ6_numberOfTrailingZeros_0f7a4 29 = .ok (.iload_n 0, 1) := by decide +kernel
theorem dJ6_numberOfTrailingZeros_0f7a4_30 : decode cJ6_numberOfTrailingZeros_0f7a4 30 = .ok (.bipush 16, 2) := by decide +kernel
theorem dJ6_numberOfTrailingZeros_0f7a4_32 : decode cJ6_numberOfTrailingZeros_0f7a4 32 = .ok (.iushr, 1) := by decide +kernel
theorem dJ6_numberOfTrailingZeros_0f7a4_33 : decode cJ6_numberOfTrailingZeros_0f7a4 33 = .ok (.istore_n 0, 1) := by decide +kernel
theorem dJ6_numberOfTrailingZeros_0f7a4_34 : decode cJ6_numberOfTrailingZeros_0f7a4 34 = .ok (.iload_n 0, 1) := by decide +kernel
theorem dJ6_numberOfTrailingZeros_0f7a4_35 : decode cJ6_numberOfTrailingZeros_0f7a4 35 = .ok (.sipush 256, 3) := by decide +kernel
theorem dJ6_numberOfTrailingZeros_0f7a4_38 : decode cJ6_numberOfTrailingZeros_0f7a4 38 = .ok (.if_icmp .le 11, 3) := by decide +kernel
theorem dJ6_numberOfTrailingZeros_0f7a4_41 : decode cJ6_numberOfTrailingZeros_0f7a4 41 = .ok (.iinc 1 8, 3) := by decide +kernel
theorem dJ6_numberOfTrailingZeros_0f7a4_44 : decode cJ6_numberOfTrailingZeros_0f7a4 44 = .ok (.iload_n 0, 1) := by decide +kernel
theorem dJ6_numberOfTrailingZeros_0f7a4_45 : decode cJ6_numberOfTrailingZeros_0f7a4 45 = .ok (.bipush 8, 2) := by decide +kernel
theorem dJ6_numberOfTrailingZeros_0f7a4_47 : decode cJ6_numberOfTrailingZeros_0f7a4 47 = .ok (.iushr, 1) := by decide +kernel
theorem dJ6_numberOfTrailingZeros_0f7a4_48 : decode cJ6_numberOfTrailingZeros_0f7a4 48 = .ok (.istore_n 0, 1) := by decide +kernel
theorem dJ6_numberOfTrailingZeros_0f7a4_49 : decode cJ6_numberOfTrailingZeros_0f7a4 49 = .ok (.iload_n 0, 1) := by decide +kernel
theorem dJ6_numberOfTrailingZeros_0f7a4_50 : decode cJ6_numberOfTrailingZeros_0f7a4 50 = .ok (.bipush 16, 2) := by decide +kernel
theorem dJ6_numberOfTrailingZeros_0f7a4_52 : decode cJ6_numberOfTrailingZeros_0f7a4 52 = .ok (.if_icmp .le 10, 3) := by decide +kernel
theorem dJ6_numberOfTrailingZeros_0f7a4_55 : decode cJ6_numberOfTrailingZeros_0f7a4 55 = .ok (.iinc 1 4, 3) := by decide +kernel
theorem dJ6_numberOfTrailingZeros_0f7a4_58 : decode cJ6_numberOfTrailingZeros_0f7a4 58 = .ok (.iload_n 0, 1) := by decide +kernel
theorem dJ6_numberOfTrailingZeros_0f7a4_59 : decode cJ6_numberOfTrailingZeros_0f7a4 59 = .ok (.iconst 4, 1) := by decide +kernel
theorem dJ6_numberOfTrailingZeros_0f7a4_60 : decode cJ6_numberOfTrailingZeros_0f7a4 60 = .ok (.iushr, 1) := by decide +kernel
theorem dJ6_numberOfTrailingZeros_0f7a4_61 : decode cJ6_numberOfTrailingZeros_0f7a4 61 = .ok (.istore_n 0, 1) := by decide +kernel
theorem dJ6_numberOfTrailingZeros_0f7a4_62 : decode cJ6_numberOfTrailingZeros_0f7a4 62 = .ok (.iload_n 0, 1) := by decide +kernel
theorem dJ6_numberOfTrailingZeros_0f7a4_63 : decode cJ6_numberOfTrailingZeros_0f7a4 63 = .ok (.iconst 4, 1) := by decide +kernel
theorem dJ6_numberOfTrailingZeros_0f7a4_64 : decode cJ6_numberOfTrailingZeros_0f7a4 64 = .ok (.if_icmp .le 10, 3) := by decide +kernel
theorem dJ6_numberOfTrailingZeros_0f7a4_67 : decode cJ6_numberOfTrailingZeros_0f7a4 67 = .ok (.iinc 1 2, 3) := by decide +kernel
theorem dJ6_numberOfTrailingZeros_0f7a4_70 : decode cJ6_numberOfTrailingZeros_0f7a4 70 = .ok (.iload_n 0, 1) := by decide +kernel
theorem dJ6_numberOfTrailingZeros_0f7a4_71 : decode cJ6_numberOfTrailingZeros_0f7a4 71 = .ok (.iconst 2, 1) := by decide +kernel
theorem dJ6_numberOfTrailingZeros_0f7a4_72 : decode cJ6_numberOfTrailingZeros_0f7a4 72 = .ok (.iushr, 1) := by decide +kernel
theorem dJ6_numberOfTrailingZeros_0f7a4_73 : decode cJ6_numberOfTrailingZeros_0f7a4 73 = .ok (.istore_n 0, 1) := by decide +kernel
theorem dJ6_numberOfTrailingZeros_0f7a4_74 : decode cJ6_numberOfTrailingZeros_0f7a4 74 = .ok (.iload_n 1, 1) := by decide +kernel
theorem dJ6_numberOfTrailingZeros_0f7a4_75 : decode cJ6_numberOfTrailingZeros_0f7a4 75 = .ok (.iload_n 0, 1) := by decide +kernel
theorem dJ6_numberOfTrailingZeros_0f7a4_76 : decode cJ6_numberOfTrailingZeros_0f7a4 76 = .ok (.iconst 1, 1) := by decide +kernel
theorem dJ6_numberOfTrailingZeros_0f7a4_77 : decode cJ6_numberOfTrailingZeros_0f7a4 77 = .ok (.iushr, 1) := by decide +kernel
theorem dJ6_numberOfTrailingZeros_0f7a4_78 : decode cJ6_numberOfTrailingZeros_0f7a4 78 = .ok (.iadd, 1) := by decide +kernel
theorem dJ6_numberOfTrailingZeros_0f7a4_79 : decode cJ6_numberOfTrailingZeros_0f7a4 79 = .ok (.ireturn, 1) := by decide +kernel
theorem dJ6_bitCount_0f7a4_0 : decode cJ6_bitCount_0f7a4 0 = .ok (.iload_n 0, 1) := by decide +kernel
theorem dJ6_bitCount_0f7a4_1 : decode cJ6_bitCount_0f7a4 1 = .ok (.iload_n 0, 1) := by decide +kernel
theorem dJ6_bitCount_0f7a4_2 : decode cJ6_bitCount_0f7a4 2 = .ok (.iconst 1, 1) := by decide +kernel
theorem dJ6_bitCount_0f7a4_3 : decode cJ6_bitCount_0f7a4 3 = .ok (.iushr, 1) := by decide +kernel
theorem dJ6_bitCount_0f7a4_4 : decode cJ6_bitCount_0f7a4 4 = .ok (.ldc_w 265, 3) := by decide +kernel
theorem dJ6_bitCount_0f7a4_7 : decode cJ6_bitCount_0f7a4 7 = .ok (.iand, 1) := by decide +kernel
theorem dJ6_bitCount_0f7a4_8 : decode cJ6_bitCount_0f7a4 8 = .ok (.isub, 1) := by decide +kernel
theorem dJ6_bitCount_0f7a4_9 : decode cJ6_bitCount_0f7a4 9 = .ok (.istore_n 0, 1) := by decide +kernel
theorem dJ6_bitCount_0f7a4_10 : decode cJ6_bitCount_0f7a4 10 = .ok (.iload_n 0, 1) := by decide +kernel
theorem dJ6_bitCount_0f7a4_11 : decode cJ6_bitCount_0f7a4 11 = .ok (.ldc_w 266, 3) := by decide +kernel
theorem dJ6_bitCount_0f7a4_14 : decode cJ6_bitCount_0f7a4 14 = .ok (.iand, 1) := by decide +kernel
theorem dJ6_bitCount_0f7a4_15 : decode cJ6_bitCount_0f7a4 15 = .ok (.iload_n 0, 1) := by decide +kernel
theorem dJ6_bitCount_0f7a4_16 : decode cJ6_bitCount_0f7a4 16 = .ok (.iconst 2, 1) := by decide +kernel
theorem dJ6_bitCount_0f7a4_17 : decode cJ6_bitCount_0f7a4 17 = .ok (.iushr, 1) := by decide +kernel
theorem dJ6_bitCount_0f7a4_18 : decode cJ6_bitCount_0f7a4 18 = .ok (.ldc_w 266, 3) := by decide +kernel
theorem dJ6_bitCount_0f7a4_21 : decode cJ6_bitCount_0f7a4 21 = .ok (.iand, 1) := by decide +kernel
theorem dJ6_bitCount_0f7a4_22 : decode cJ6_bitCount_0f7a4 22 = .ok (.iadd, 1) := by decide +kernel
theorem dJ6_bitCount_0f7a4_23 : decode cJ6_bitCount_0f7a4 23 = .ok (.istore_n 0, 1) := by decide +kernel
theorem dJ6_bitCount_0f7a4_24 : decode cJ6_bitCount_0f7a4 24 = .ok (.iload_n 0, 1) := by decide +kernel
theorem dJ6_bitCount_0f7a4_25 : decode cJ6_bitCount_0f7a4 25 = .ok (.iload_n 0, 1) := by decide +kernel
theorem dJ6_bitCount_0f7a4_26 : decode cJ6_bitCount_0f7a4 26 = .ok (.iconst 4, 1) := by decide +kernel
theorem dJ6_bitCount_0f7a4_27 : decode cJ6_bitCount_0f7a4 27 = .ok (.iushr, 1) := by decide +kernel
theorem dJ6_bitCount_0f7a4_28 : decode cJ6_bitCount_0f7a4 28 = .ok (.iadd, 1) := by decide +kernel
theorem dJ6_bitCount_0f7a4_29 : decode cJ6_bitCount_0f7a4 29 = .ok (.ldc_w 267, 3) := by decide +kernel
theorem dJ6_bitCount_0f7a4_32 : decode cJ6_bitCount_0f7a4 32 = .ok (.iand, 1) := by decide +kernel
theorem dJ6_bitCount_0f7a4_33 : decode cJ6_bitCount_0f7a4 33 = .ok (.istore_n 0, 1) := by decide +kernel
theorem dJ6_bitCount_0f7a4_34 : decode cJ6_bitCount_0f7a4 34 = .ok (.iload_n 0, 1) := by decide +kernel
theorem dJ6_bitCount_0f7a4_35 : decode cJ6_bitCount_0f7a4 35 = .ok (.iload_n 0, 1) := by decide +kernel
theorem dJ6_bitCount_0f7a4_36 : decode cJ6_bitCount_0f7a4 36 = .ok (.bipush 8, 2) := by decide +kernel
theorem dJ6_bitCount_0f7a4_38 : decode cJ6_bitCount_0f7a4 38 = .ok (.iushr, 1) := by decide +kernel
theorem dJ6_bitCount_0f7a4_39 : decode cJ6_bitCount_0f7a4 39 = .ok (.iadd, 1) := by decide +kernel
theorem dJ6_bitCount_0f7a4_40 : decode cJ6_bitCount_0f7a4 40 = .ok (.istore_n 0, 1) := by decide +kernel
theorem dJ6_bitCount_0f7a4_41 : decode cJ6_bitCount_0f7a4 41 = .ok (.iload_n 0, 1) := by decide +kernel
theorem dJ6_bitCount_0f7a4_42 : decode cJ6_bitCount_0f7a4 42 = .ok (.iload_n 0, 1) := by decide +kernel
theorem dJ6_bitCount_0f7a4_43 : decode cJ6_bitCount_0f7a4 43 = .ok (.bipush 16, 2) := by decide +kernel
theorem dJ6_bitCount_0f7a4_45 : decode cJ6_bitCount_0f7a4 45 = .ok (.iushr, 1) := by decide +kernel
theorem dJ6_bitCount_0f7a4_46 : decode cJ6_bitCount_0f7a4 46 = .ok (.iadd, 1) := by decide +kernel
theorem dJ6_bitCount_0f7a4_47 : decode cJ6_bitCount_0f7a4 47 = .ok (.istore_n 0, 1) := by decide +kernel
theorem dJ6_bitCount_0f7a4_48 : decode cJ6_bitCount_0f7a4 48 = .ok (.iload_n 0, 1) := by decide +kernel
theorem dJ6_bitCount_0f7a4_49 : decode cJ6_bitCount_0f7a4 49 = .ok (.bipush 63, 2) := by decide +kernel
theorem dJ6_bitCount_0f7a4_51 : decode cJ6_bitCount_0f7a4 51 = .ok (.iand, 1) := by decide +kernel
theorem dJ6_bitCount_0f7a4_52 : decode cJ6_bitCount_0f7a4 52 = .ok (.ireturn, 1) := by decide +kernel
theorem dJ13_bitCount_95d88_0 : decode cJ13_bitCount_95d88 0 = .ok (.lload_n 0, 1) := by decide +kernel
theorem dJ13_bitCount_95d88_1 : decode cJ13_bitCount_95d88 1 = .ok (.lload_n 0, 1) := by decide +kernel
theorem dJ13_bitCount_95d88_2 : decode cJ13_bitCount_95d88 2 = .ok (.iconst 1, 1) := by decide +kernel
theorem dJ13_bitCount_95d88_3 : decode cJ13_bitCount_95d88 3 = .ok (.lushr, 1) := by decide +kernel
theorem dJ13_bitCount_95d88_4 : decode cJ13_bitCount_95d88 4 = .ok (.ldc2_w 314, 3) := by decide +kernel
theorem dJ13_bitCount_95d88_7 : decode cJ13_bitCount_95d88 7 = .ok (.land, 1) := by decide +kernel
theorem dJ13_bitCount_95d88_8 : decode cJ13_bitCount_95d88 8 = .ok (.lsub, 1) := by decide +kernel
theorem dJ13_bitCount_95d88_9 : decode cJ13_bitCount_95d88 9 = .ok (.lstore_n 0, 1) := by decide +kernel
theorem dJ13_bitCount_95d88_10 : decode cJ13_bitCount_95d88 10 = .ok (.lload_n 0, 1) := by decide +kernel
theorem dJ13_bitCount_95d88_11 : decode cJ13_bitCount_95d88 11 = .ok (.ldc2_w 316, 3) := by decide +kernel
theorem dJ13_bitCount_95d88_14 : decode cJ13_bitCount_95d88 14 = .ok (.land, 1) := by decide +kernel
theorem dJ13_bitCount_95d88_15 : decode cJ13_bitCount_95d88 15 = .ok (.lload_n 0, 1) := by decide +kernel
theorem dJ13_bitCount_95d88_16 : decode cJ13_bitCount_95d88 16 = .ok (.iconst 2, 1) := by decide +kernel
theorem dJ13_bitCount_95d88_17 : decode cJ13_bitCount_95d88 17 = .ok (.lushr, 1) := by decide +kernel
theorem dJ13_bitCount_95d88_18 : decode cJ13_bitCount_95d88 18 = .ok (.ldc2_w 316, 3) := by decide +kernel
theorem dJ13_bitCount_95d88_21 : decode cJ13_bitCount_95d88 21 = .ok (.land, 1) := by decide +kernel
theorem dJ13_bitCount_95d88_22 : decode cJ13_bitCount_95d88 22 = .ok (.ladd, 1) := by decide +kernel
theorem dJ13_bitCount_95d88_23 : decode cJ13_bitCount_95d88 23 = .ok (.lstore_n 0, 1) := by decide +kernel
theorem dJ13_bitCount_95d88_24 : decode cJ13_bitCount_95d88 24 = .ok (.lload_n 0, 1) := by decide +kernel
theorem dJ13_bitCount_95d88_25 : decode cJ13_bitCount_95d88 25 = .ok (.lload_n 0, 1) := by decide +kernel
theorem dJ13_bitCount_95d88_26 : decode cJ13_bitCount_95d88 26 = .ok (.iconst 4, 1) := by decide +kernel
theorem dJ13_bitCount_95d88_27 : decode cJ13_bitCount_95d88 27 = .ok (.lushr, 1) := by decide +kernel
theorem dJ13_bitCount_95d88_28 : decode cJ13_bitCount_95d88 28 = .ok (.ladd, 1) := by decide +kernel
theorem dJ13_bitCount_95d88_29 : decode cJ13_bitCount_95d88 29 = .ok (.ldc2_w 318, 3) := by decide +kernel
theorem dJ13_bitCount_95d88_32 : decode cJ13_bitCount_95d88 32 = .ok (.land, 1) := by decide +kernel
theorem dJ13_bitCount_95d88_33 : decode cJ13_bitCount_95d88 33 = .ok (.lstore_n 0, 1) := by decide +kernel
theorem dJ13_bitCount_95d88_34 : decode cJ13_bitCount_95d88 34 = .ok (.lload_n 0, 1) := by decide +kernel
theorem dJ13_bitCount_95d88_35 : decode cJ13_bitCount_95d88 35 = .ok (.lload_n 0, 1) := by decide +kernel
theorem dJ13_bitCount_95d88_36 : decode cJ13_bitCount_95d88 36 = .ok (.bipush 8, 2) := by decide +kernel
theorem dJ13_bitCount_95d88_38 : decode cJ13_bitCount_95d88 38 = .ok (.lushr, 1) := by decide +kernel
theorem dJ13_bitCount_95d88_39 : decode cJ13_bitCount_95d88 39 = .ok (.ladd, 1) := by decide +kernel
theorem dJ13_bitCount_95d88_40 : decode cJ13_bitCount_95d88 40 = .ok (.lstore_n 0, 1) := by decide +kernel
theorem dJ13_bitCount_95d88_41 : decode cJ13_bitCount_95d88 41 = .ok (.lload_n 0, 1) := by decide +kernel
theorem dJ13_bitCount_95d88_42 : decode cJ13_bitCount_95d88 42 = .ok (.lload_n 0, 1) := by decide +kernel
theorem dJ13_bitCount_95d88_43 : decode cJ13_bitCount_95d88 43 = .ok (.bipush 16, 2) := by decide +kernel
theorem dJ13_bitCount_95d88_45 : decode cJ13_bitCount_95d88 45 = .ok (.lushr, 1) := by decide +kernel
theorem dJ13_bitCount_95d88_46 : decode cJ13_bitCount_95d88 46 = .ok (.ladd, 1) := by decide +kernel
theorem dJ13_bitCount_95d88_47 : decode cJ13_bitCount_95d88 47 = .ok (.lstore_n 0, 1) := by decide +kernel
theorem dJ13_bitCount_95d88_48 : decode cJ13_bitCount_95d88 48 = .ok (.lload_n 0, 1) := by decide +kernel
theorem dJ13_bitCount_95d88_49 : decode cJ13_bitCount_95d88 49 = .ok (.lload_n 0, 1) := by decide +kernel
theorem dJ13_bitCount_95d88_50 : decode cJ13_bitCount_95d88 50 = .ok (.bipush 32, 2) := by decide +kernel
theorem dJ13_bitCount_95d88_52 : decode cJ13_bitCount_95d88 52 = .ok (.lushr, 1) := by decide +kernel
theorem dJ13_bitCount_95d88_53 : decode cJ13_bitCount_95d88 53 = .ok (.ladd, 1) := by decide +kernel
theorem dJ13_bitCount_95d88_54 : decode cJ13_bitCount_95d88 54 = .ok (.lstore_n 0, 1) := by decide +kernel
theorem dJ13_bitCount_95d88_55 : decode cJ13_bitCount_95d88 55 = .ok (.lload_n 0, 1) := by decide +kernel
theorem dJ13_bitCount_95d88_56 : decode cJ13_bitCount_95d88 56 = .ok (.l2i, 1) := by decide +kernel
theorem dJ13_bitCount_95d88_57 : decode cJ13_bitCount_95d88 57 = .ok (.bipush 127, 2) := by decide +kernel
theorem dJ13_bitCount_95d88_59 : decode cJ13_bitCount_95d88 59 = .ok (.iand, 1) := by decide +kernel
theorem dJ13_bitCount_95d88_60 : decode cJ13_bitCount_95d88 60 = .ok (.ireturn, 1) := by decide +kernel
def w_k_nextAbove : List Cond := .code yX0_nextAbove cX0_nextAbove 1 (some .int) :: (([] : List Cond))
set_option maxHeartbeats 4000000 in
set_option maxRecDepth 100000 in
theorem k_nextAbove (l : Launch) (dC : Nat → ClassId) (dI : Nat → Nat → Nat) (ad : Nat → Nat) (a : Int32) : Met l yX0_nextAbove w_k_nextAbove ({ frames := 0, cells := 0, slots := 0, locals := 0 } : Room) (va_Pc [.int a] (preS dC dI ad [] [])) (vp_Si (fun r => True)) 0 0 (fun _ => False) := by
  refine Met.ofW (cc := cX0_nextAbove) (maxL := 1) (ret := (some .int)) (by decide) rfl ?_
  intro p e s m args below meth c s₁ B hml hv
  obtain ⟨rfl, hP, hK, hev⟩ := hv
  have hx := B.exec
  have hb := B.bytes
  have hr := B.returns
  have hts := atoms_spec (ws := w_k_nextAbove) B.pre
  have hown : s.vm.findClass RX0 = some m.cls := findClass_of_methodNamed B.named
  have hlocks := B.notSynchronized
  have hP : va_P (dC, dI) vwCl [] s.heap := hP
  have hl := lv_entry ([.int a]) (n := 1) (Nat.le_of_ble_eq_true rfl)
  rw [lg_entry_eq]
  generalize (lg_sl ([.int a]) ++ List.replicate (1 - (lg_sl ([.int a])).length) Slot.unset).toArray = ls at hl ⊢
  have hl : lv_has ls 1 [(0, .int a)] := hl
  refine lv_iload_n hx hb dX0_nextAbove_0 rfl (lv_at hl 0 rfl) ?_
  by_cases c_1 : a = 3
  · skip
    refine W.eq (g2 := F0 m 1 ls (.int 3 :: [])) (by rw [c_1]) ?_
    refine lv_tableIn (tgt := 28) hx hb dX0_nextAbove_1 (by decide) (by decide) rfl (by decide) ?_
    refine lv_iconst (v := 1) hx hb dX0_nextAbove_28 (by decide) ?_
    exact W.iret (v := (1 : Int32)) hx hb hr (fun t ht hW => ⟨(1 : Int32), rfl, trivial, ht⟩) (fun _ h => absurd h List.not_mem_nil) dX0_nextAbove_29
  · skip
    by_cases c_2 : a = 4
    · skip
      refine W.eq (g2 := F0 m 1 ls (.int 4 :: [])) (by rw [c_2]) ?_
      refine lv_tableIn (tgt := 30) hx hb dX0_nextAbove_1 (by decide) (by decide) rfl (by decide) ?_
      refine lv_iconst (v := 2) hx hb dX0_nextAbove_30 (by decide) ?_
      exact W.iret (v := (2 : Int32)) hx hb hr (fun t ht hW => ⟨(2 : Int32), rfl, trivial, ht⟩) (fun _ h => absurd h List.not_mem_nil) dX0_nextAbove_31
    · skip
      by_cases c_3 : a = 5
      · skip
        refine W.eq (g2 := F0 m 1 ls (.int 5 :: [])) (by rw [c_3]) ?_
        refine lv_tableIn (tgt := 28) hx hb dX0_nextAbove_1 (by decide) (by decide) rfl (by decide) ?_
        refine lv_iconst (v := 1) hx hb dX0_nextAbove_28 (by decide) ?_
        exact W.iret (v := (1 : Int32)) hx hb hr (fun t ht hW => ⟨(1 : Int32), rfl, trivial, ht⟩) (fun _ h => absurd h List.not_mem_nil) dX0_nextAbove_29
      · skip
        refine lv_tableOut (tgt := 32) hx hb dX0_nextAbove_1 (by simp only [fa_lt, fa_le, fa_eq, and_true, true_and, and_false, false_and, not_true_eq_false, not_false_eq_true, li_0, li_1, li_2, li_3, li_4, li_5, li_6, li_7, li_8, li_9, li_10, li_12, li_15, li_16, li_20, li_30, li_34, li_38, li_40, li_63, li_64, li_65, li_78, li_120, li_1000, li_4000, li_10000, li_11077, li_255, li_65535, li_m1, li_m2, li_m1000000001, li_m1000000002, li_m1000000003, li_m1000000004, li_m1000000005, li_m1000000006, li_m1000000007, or_true, true_or, or_false, false_or, implies_true, true_implies, false_implies] at c_1 c_2 c_3 <;> omega) (by decide) ?_
        refine lv_iconst (v := 0) hx hb dX0_nextAbove_32 (by decide) ?_
        exact W.iret (v := (0 : Int32)) hx hb hr (fun t ht hW => ⟨(0 : Int32), rfl, trivial, ht⟩) (fun _ h => absurd h List.not_mem_nil) dX0_nextAbove_33

def w_k_isUnder : List Cond := .code yX0_isUnder cX0_isUnder 4 (some .boolean) :: (([.methodLink RX0 9 yX0_nextAbove, .static yX0_nextAbove, .initialized RX0, .code yX0_nextAbove cX0_nextAbove 1 (some .int)] : List Cond))
set_option maxRecDepth 20000 in
theorem g_k_isUnder_k_nextAbove_9 : GoodIn w_k_isUnder (va_wsS RX0 9 yX0_nextAbove w_k_nextAbove) := goodIn_r _ [1, 2, 3, 4] rfl (by decide +kernel)
set_option maxHeartbeats 4000000 in
set_option maxRecDepth 100000 in
theorem k_isUnder (l : Launch) (dC : Nat → ClassId) (dI : Nat → Nat → Nat) (ad : Nat → Nat) (a : Int32) (b : Int32) : Met l yX0_isUnder w_k_isUnder ({ frames := 1, cells := 0, slots := 0, locals := 20 } : Room) (va_Pc [.int a, .int b] (preS dC dI ad [] [])) (vp_Si (fun r => True)) 0 0 (fun _ => False) := by
  refine Met.ofW (cc := cX0_isUnder) (maxL := 4) (ret := (some .boolean)) (by decide) rfl ?_
  intro p e s m args below meth c s₁ B hml hv
  obtain ⟨rfl, hP, hK, hev⟩ := hv
  have hx := B.exec
  have hb := B.bytes
  have hr := B.returns
  have hts := atoms_spec (ws := w_k_isUnder) B.pre
  have hown : s.vm.findClass RX0 = some m.cls := findClass_of_methodNamed B.named
  have hlocks := B.notSynchronized
  have hP : va_P (dC, dI) vwCl [] s.heap := hP
  have hl := lv_entry ([.int a, .int b]) (n := 4) (Nat.le_of_ble_eq_true rfl)
  rw [lg_entry_eq]
  generalize (lg_sl ([.int a, .int b]) ++ List.replicate (4 - (lg_sl ([.int a, .int b])).length) Slot.unset).toArray = ls at hl ⊢
  have hl : lv_has ls 4 [(0, .int a), (1, .int b)] := hl
  refine lv_iload_n hx hb dX0_isUnder_0 rfl (lv_at hl 0 rfl) ?_
  refine lv_istore_n (lv' := [(2, .int a), (0, .int a), (1, .int b)]) hx hb dX0_isUnder_1 rfl hl (by decide) rfl (fun ls hl => ?_)
  refine lv_iconst (v := 0) hx hb dX0_isUnder_2 (by decide) ?_
  refine lv_istore_n (lv' := [(3, .int 0), (2, .int a), (0, .int a), (1, .int b)]) hx hb dX0_isUnder_3 rfl hl (by decide) rfl (fun ls hl => ?_)
  refine pp_loop (ι := Int32 × Int32) (fun ⟨v3_4, v2_4⟩ => (6 - v3_4.toInt).toNat) (fun ⟨v3_4, v2_4⟩ H locs ls => (0 ≤ v3_4.toInt) ∧ (v3_4.toInt ≤ 6) ∧ H = s.heap ∧ locs = [] ∧ lv_has ls 4 [(3, .int v3_4), (2, .int v2_4), (0, .int a), (1, .int b)]) ?_ (0, a) _ _ _ ⟨(by first | omega | decide | (simp only [fa_lt, fa_le, fa_eq, and_true, true_and, and_false, false_and, not_true_eq_false, not_false_eq_true, li_0, li_1, li_2, li_3, li_4, li_5, li_6, li_7, li_8, li_9, li_10, li_12, li_15, li_16, li_20, li_30, li_34, li_38, li_40, li_63, li_64, li_65, li_78, li_120, li_1000, li_4000, li_10000, li_11077, li_255, li_65535, li_m1, li_m2, li_m1000000001, li_m1000000002, li_m1000000003, li_m1000000004, li_m1000000005, li_m1000000006, li_m1000000007, or_true, true_or, or_false, false_or, implies_true, true_implies, false_implies] <;> omega)), (by first | omega | decide | (simp only [fa_lt, fa_le, fa_eq, and_true, true_and, and_false, false_and, not_true_eq_false, not_false_eq_true, li_0, li_1, li_2, li_3, li_4, li_5, li_6, li_7, li_8, li_9, li_10, li_12, li_15, li_16, li_20, li_30, li_34, li_38, li_40, li_63, li_64, li_65, li_78, li_120, li_1000, li_4000, li_10000, li_11077, li_255, li_65535, li_m1, li_m2, li_m1000000001, li_m1000000002, li_m1000000003, li_m1000000004, li_m1000000005, li_m1000000006, li_m1000000007, or_true, true_or, or_false, false_or, implies_true, true_implies, false_implies] <;> omega)), rfl, rfl, lv_sub hl [0, 1, 2, 3] rfl⟩
  intro k_1 ihk_1 u H locs ls hm hI
  obtain ⟨v3_4, v2_4⟩ := u
  obtain ⟨jk_1_0, jk_1_1, rfl, rfl, hl⟩ := hI
  have hmk_1 : (6 - v3_4.toInt).toNat < k_1 + 1 := hm
  clear hm
  have jk_1_0 : 0 ≤ v3_4.toInt := jk_1_0
  have jk_1_1 : v3_4.toInt ≤ 6 := jk_1_1
  have hl : lv_has ls 4 [(3, .int v3_4), (2, .int v2_4), (0, .int a), (1, .int b)] := hl
  refine lv_iload_n hx hb dX0_isUnder_4 rfl (lv_at hl 0 rfl) ?_
  refine lv_bipush (v := 6) hx hb dX0_isUnder_5 (by decide) ?_
  refine lv_icmp_ge (tgt := 28) hx hb dX0_isUnder_7 (by decide) (fun c_2 => ?_) (fun c_2 => ?_)
  · skip
    have tc_2 : 6 ≤ v3_4.toInt := (fa_le _ _).mp c_2
    refine lv_iconst (v := 0) hx hb dX0_isUnder_28 (by decide) ?_
    exact W.zret (v := (0 : Int32)) hx hb hr (by decide) (fun t ht hW => ⟨(0 : Int32), rfl, trivial, ht⟩) (fun _ h => absurd h List.not_mem_nil) dX0_isUnder_29
  · skip
    have tc_2 : ¬ 6 ≤ v3_4.toInt := fun h => c_2 ((fa_le _ _).mpr h)
    refine lv_iload_n hx hb dX0_isUnder_10 rfl (lv_at hl 1 rfl) ?_
    refine lv_iload_n hx hb dX0_isUnder_11 rfl (lv_at hl 3 rfl) ?_
    have rc_3_x := pp_rng v2_4
    have rc_3_y := pp_rng b
    refine lv_icmp_ne (tgt := 17) hx hb dX0_isUnder_12 (by decide) (fun c_3 => ?_) (fun c_3 => ?_)
    · skip
      have tc_3 : ¬ v2_4.toInt = b.toInt := fun h => c_3 ((fa_eq _ _).mpr h)
      refine lv_iload_n hx hb dX0_isUnder_17 rfl (lv_at hl 1 rfl) ?_
      have hPc := hP.sub (ws' := []) [] rfl
      have hKc := hK.sub (tys' := []) [] rfl
      refine vp_callSi (W.runS (As := [.int v2_4]) (rest := []) ⟨hx, hb, hml, hown, hts⟩ (k_nextAbove l dC dI ad v2_4 ) (va_cwS 1 hts g_k_isUnder_k_nextAbove_9 rfl rfl rfl (by decide +kernel) ⟨(Nat.le_of_ble_eq_true rfl), (Nat.le_of_ble_eq_true rfl)⟩) ⟨preS_blind, fun U hU hW => ⟨rfl, preS_at hU hW hPc hKc hev⟩⟩ rfl rfl hl.1 rfl (lv_room (Nat.le_of_ble_eq_true rfl)) dX0_isUnder_18 ⟨(Nat.le_of_ble_eq_true rfl), (Nat.le_of_ble_eq_true rfl)⟩) (fun r_4 hw => ?_)
      refine lv_istore_n (lv' := [(2, .int r_4), (3, .int v3_4), (0, .int a), (1, .int b)]) hx hb dX0_isUnder_21 rfl hl (by decide) rfl (fun ls hl => ?_)
      obtain ⟨n_5, en_5⟩ : ∃ y : Int32, y = v3_4 + 1 := ⟨_, rfl⟩
      have tn_5 : n_5.toInt = v3_4.toInt + 1 := pp_add en_5 rfl rfl (by omega) (by omega)
      refine lv_iinc (v := n_5) (lv' := [(3, .int n_5), (2, .int r_4), (0, .int a), (1, .int b)]) hx hb dX0_isUnder_22 hl (k := 1) rfl (by rw [en_5]; rfl) (by decide) rfl (fun ls hl => ?_)
      clear en_5
      refine lv_goto (tgt := 4) hx hb dX0_isUnder_25 (by decide) ?_
      exact ihk_1 (n_5, r_4) _ _ _ (by show (6 - n_5.toInt).toNat < k_1; omega) ⟨(by first | omega | decide | (simp only [fa_lt, fa_le, fa_eq, and_true, true_and, and_false, false_and, not_true_eq_false, not_false_eq_true, li_0, li_1, li_2, li_3, li_4, li_5, li_6, li_7, li_8, li_9, li_10, li_12, li_15, li_16, li_20, li_30, li_34, li_38, li_40, li_63, li_64, li_65, li_78, li_120, li_1000, li_4000, li_10000, li_11077, li_255, li_65535, li_m1, li_m2, li_m1000000001, li_m1000000002, li_m1000000003, li_m1000000004, li_m1000000005, li_m1000000006, li_m1000000007, or_true, true_or, or_false, false_or, implies_true, true_implies, false_implies] <;> omega)), (by first | omega | decide | (simp only [fa_lt, fa_le, fa_eq, and_true, true_and, and_false, false_and, not_true_eq_false, not_false_eq_true, li_0, li_1, li_2, li_3, li_4, li_5, li_6, li_7, li_8, li_9, li_10, li_12, li_15, li_16, li_20, li_30, li_34, li_38, li_40, li_63, li_64, li_65, li_78, li_120, li_1000, li_4000, li_10000, li_11077, li_255, li_65535, li_m1, li_m2, li_m1000000001, li_m1000000002, li_m1000000003, li_m1000000004, li_m1000000005, li_m1000000006, li_m1000000007, or_true, true_or, or_false, false_or, implies_true, true_implies, false_implies] <;> omega)), rfl, rfl, lv_sub hl [0, 1, 2, 3] rfl⟩
    · skip
      have tc_3 : v2_4.toInt = b.toInt := (fa_eq _ _).mp c_3
      refine lv_iconst (v := 1) hx hb dX0_isUnder_15 (by decide) ?_
      exact W.zret (v := (1 : Int32)) hx hb hr (by decide) (fun t ht hW => ⟨(1 : Int32), rfl, trivial, ht⟩) (fun _ h => absurd h List.not_mem_nil) dX0_isUnder_16

def w_k_turnedBy : List Cond := .code yX0_turnedBy cX0_turnedBy 6 (some .int) :: (([] : List Cond))
set_option maxHeartbeats 4000000 in
set_option maxRecDepth 100000 in
theorem k_turnedBy (l : Launch) (dC : Nat → ClassId) (dI : Nat → Nat → Nat) (ad : Nat → Nat) (a : Int32) (b : Int32) : Met l yX0_turnedBy w_k_turnedBy ({ frames := 0, cells := 0, slots := 0, locals := 0 } : Room) (va_Pc [.int a, .int b] (preS dC dI ad [] [])) (vp_Si (fun r => True)) 0 0 (fun _ => False) := by
  refine Met.ofW (cc := cX0_turnedBy) (maxL := 6) (ret := (some .int)) (by decide) rfl ?_
  intro p e s m args below meth c s₁ B hml hv
  obtain ⟨rfl, hP, hK, hev⟩ := hv
  have hx := B.exec
  have hb := B.bytes
  have hr := B.returns
  have hts := atoms_spec (ws := w_k_turnedBy) B.pre
  have hown : s.vm.findClass RX0 = some m.cls := findClass_of_methodNamed B.named
  have hlocks := B.notSynchronized
  have hP : va_P (dC, dI) vwCl [] s.heap := hP
  have hl := lv_entry ([.int a, .int b]) (n := 6) (Nat.le_of_ble_eq_true rfl)
  rw [lg_entry_eq]
  generalize (lg_sl ([.int a, .int b]) ++ List.replicate (6 - (lg_sl ([.int a, .int b])).length) Slot.unset).toArray = ls at hl ⊢
  have hl : lv_has ls 6 [(0, .int a), (1, .int b)] := hl
  refine lv_iload_n hx hb dX0_turnedBy_0 rfl (lv_at hl 0 rfl) ?_
  refine lv_istore_n (lv' := [(2, .int a), (0, .int a), (1, .int b)]) hx hb dX0_turnedBy_1 rfl hl (by decide) rfl (fun ls hl => ?_)
  refine lv_iconst (v := 0) hx hb dX0_turnedBy_2 (by decide) ?_
  refine lv_istore_n (lv' := [(3, .int 0), (2, .int a), (0, .int a), (1, .int b)]) hx hb dX0_turnedBy_3 rfl hl (by decide) rfl (fun ls hl => ?_)
  refine pp_loop (ι := Int32 × Int32) (fun ⟨v3_4, v2_4⟩ => (b.toInt - v3_4.toInt).toNat) (fun ⟨v3_4, v2_4⟩ H locs ls => (0 ≤ v3_4.toInt) ∧ H = s.heap ∧ locs = [] ∧ lv_has ls 6 [(3, .int v3_4), (2, .int v2_4), (0, .int a), (1, .int b)]) ?_ (0, a) _ _ _ ⟨(by first | omega | decide | (simp only [fa_lt, fa_le, fa_eq, and_true, true_and, and_false, false_and, not_true_eq_false, not_false_eq_true, li_0, li_1, li_2, li_3, li_4, li_5, li_6, li_7, li_8, li_9, li_10, li_12, li_15, li_16, li_20, li_30, li_34, li_38, li_40, li_63, li_64, li_65, li_78, li_120, li_1000, li_4000, li_10000, li_11077, li_255, li_65535, li_m1, li_m2, li_m1000000001, li_m1000000002, li_m1000000003, li_m1000000004, li_m1000000005, li_m1000000006, li_m1000000007, or_true, true_or, or_false, false_or, implies_true, true_implies, false_implies] <;> omega)), rfl, rfl, lv_sub hl [0, 1, 2, 3] rfl⟩
  intro k_1 ihk_1 u H locs ls hm hI
  obtain ⟨v3_4, v2_4⟩ := u
  obtain ⟨jk_1_0, rfl, rfl, hl⟩ := hI
  have hmk_1 : (b.toInt - v3_4.toInt).toNat < k_1 + 1 := hm
  clear hm
  have jk_1_0 : 0 ≤ v3_4.toInt := jk_1_0
  have hl : lv_has ls 6 [(3, .int v3_4), (2, .int v2_4), (0, .int a), (1, .int b)] := hl
  refine lv_iload_n hx hb dX0_turnedBy_4 rfl (lv_at hl 0 rfl) ?_
  refine lv_iload_n hx hb dX0_turnedBy_5 rfl (lv_at hl 3 rfl) ?_
  have rc_2_x := pp_rng v3_4
  have rc_2_y := pp_rng b
  refine lv_icmp_ge (tgt := 67) hx hb dX0_turnedBy_6 (by decide) (fun c_2 => ?_) (fun c_2 => ?_)
  · skip
    have tc_2 : b.toInt ≤ v3_4.toInt := (fa_le _ _).mp c_2
    refine lv_iload_n hx hb dX0_turnedBy_67 rfl (lv_at hl 1 rfl) ?_
    exact W.iret (v := v2_4) hx hb hr (fun t ht hW => ⟨v2_4, rfl, trivial, ht⟩) (fun _ h => absurd h List.not_mem_nil) dX0_turnedBy_68
  · skip
    have tc_2 : ¬ b.toInt ≤ v3_4.toInt := fun h => c_2 ((fa_le _ _).mpr h)
    refine lv_iconst (v := 0) hx hb dX0_turnedBy_9 (by decide) ?_
    refine lv_istore (lv' := [(4, .int 0), (3, .int v3_4), (2, .int v2_4), (0, .int a), (1, .int b)]) hx hb dX0_turnedBy_10 hl (by decide) rfl (fun ls hl => ?_)
    refine lv_iconst (v := 0) hx hb dX0_turnedBy_12 (by decide) ?_
    refine lv_istore (lv' := [(5, .int 0), (4, .int 0), (3, .int v3_4), (2, .int v2_4), (0, .int a), (1, .int b)]) hx hb dX0_turnedBy_13 hl (by decide) rfl (fun ls hl => ?_)
    refine pp_loop (ι := Int32 × Int32) (fun ⟨v5_15, v4_15⟩ => (16 - v5_15.toInt).toNat) (fun ⟨v5_15, v4_15⟩ H locs ls => (0 ≤ v5_15.toInt) ∧ (v5_15.toInt ≤ 16) ∧ H = s.heap ∧ locs = [] ∧ lv_has ls 6 [(5, .int v5_15), (4, .int v4_15), (3, .int v3_4), (2, .int v2_4), (0, .int a), (1, .int b)]) ?_ (0, 0) _ _ _ ⟨(by first | omega | decide | (simp only [fa_lt, fa_le, fa_eq, and_true, true_and, and_false, false_and, not_true_eq_false, not_false_eq_true, li_0, li_1, li_2, li_3, li_4, li_5, li_6, li_7, li_8, li_9, li_10, li_12, li_15, li_16, li_20, li_30, li_34, li_38, li_40, li_63, li_64, li_65, li_78, li_120, li_1000, li_4000, li_10000, li_11077, li_255, li_65535, li_m1, li_m2, li_m1000000001, li_m1000000002, li_m1000000003, li_m1000000004, li_m1000000005, li_m1000000006, li_m1000000007, or_true, true_or, or_false, false_or, implies_true, true_implies, false_implies] <;> omega)), (by first | omega | decide | (simp only [fa_lt, fa_le, fa_eq, and_true, true_and, and_false, false_and, not_true_eq_false, not_false_eq_true, li_0, li_1, li_2, li_3, li_4, li_5, li_6, li_7, li_8, li_9, li_10, li_12, li_15, li_16, li_20, li_30, li_34, li_38, li_40, li_63, li_64, li_65, li_78, li_120, li_1000, li_4000, li_10000, li_11077, li_255, li_65535, li_m1, li_m2, li_m1000000001, li_m1000000002, li_m1000000003, li_m1000000004, li_m1000000005, li_m1000000006, li_m1000000007, or_true, true_or, or_false, false_or, implies_true, true_implies, false_implies] <;> omega)), rfl, rfl, lv_sub hl [0, 1, 2, 3, 4, 5] rfl⟩
    intro k_3 ihk_3 u H locs ls hm hI
    obtain ⟨v5_15, v4_15⟩ := u
    obtain ⟨jk_3_0, jk_3_1, rfl, rfl, hl⟩ := hI
    have hmk_3 : (16 - v5_15.toInt).toNat < k_3 + 1 := hm
    clear hm
    have jk_3_0 : 0 ≤ v5_15.toInt := jk_3_0
    have jk_3_1 : v5_15.toInt ≤ 16 := jk_3_1
    have hl : lv_has ls 6 [(5, .int v5_15), (4, .int v4_15), (3, .int v3_4), (2, .int v2_4), (0, .int a), (1, .int b)] := hl
    refine lv_iload hx hb dX0_turnedBy_15 (lv_at hl 0 rfl) ?_
    refine lv_bipush (v := 16) hx hb dX0_turnedBy_17 (by decide) ?_
    refine lv_icmp_ge (tgt := 58) hx hb dX0_turnedBy_19 (by decide) (fun c_4 => ?_) (fun c_4 => ?_)
    · skip
      have tc_4 : 16 ≤ v5_15.toInt := (fa_le _ _).mp c_4
      refine lv_iload hx hb dX0_turnedBy_58 (lv_at hl 1 rfl) ?_
      refine lv_istore_n (lv' := [(2, .int v4_15), (5, .int v5_15), (4, .int v4_15), (3, .int v3_4), (0, .int a), (1, .int b)]) hx hb dX0_turnedBy_60 rfl hl (by decide) rfl (fun ls hl => ?_)
      obtain ⟨n_5, en_5⟩ : ∃ y : Int32, y = v3_4 + 1 := ⟨_, rfl⟩
      have tn_5 : n_5.toInt = v3_4.toInt + 1 := pp_add en_5 rfl rfl (by have := pp_rng v3_4; omega) (by have := pp_rng v3_4; omega)
      refine lv_iinc (v := n_5) (lv' := [(3, .int n_5), (2, .int v4_15), (5, .int v5_15), (4, .int v4_15), (0, .int a), (1, .int b)]) hx hb dX0_turnedBy_61 hl (k := 3) rfl (by rw [en_5]; rfl) (by decide) rfl (fun ls hl => ?_)
      clear en_5
      refine lv_goto (tgt := 4) hx hb dX0_turnedBy_64 (by decide) ?_
      exact ihk_1 (n_5, v4_15) _ _ _ (by show (b.toInt - n_5.toInt).toNat < k_1; omega) ⟨(by first | omega | decide | (simp only [fa_lt, fa_le, fa_eq, and_true, true_and, and_false, false_and, not_true_eq_false, not_false_eq_true, li_0, li_1, li_2, li_3, li_4, li_5, li_6, li_7, li_8, li_9, li_10, li_12, li_15, li_16, li_20, li_30, li_34, li_38, li_40, li_63, li_64, li_65, li_78, li_120, li_1000, li_4000, li_10000, li_11077, li_255, li_65535, li_m1, li_m2, li_m1000000001, li_m1000000002, li_m1000000003, li_m1000000004, li_m1000000005, li_m1000000006, li_m1000000007, or_true, true_or, or_false, false_or, implies_true, true_implies, false_implies] <;> omega)), rfl, rfl, lv_sub hl [0, 1, 4, 5] rfl⟩
    · skip
      have tc_4 : ¬ 16 ≤ v5_15.toInt := fun h => c_4 ((fa_le _ _).mpr h)
      refine lv_iload_n hx hb dX0_turnedBy_22 rfl (lv_at hl 3 rfl) ?_
      refine lv_iload hx hb dX0_turnedBy_23 (lv_at hl 0 rfl) ?_
      refine lv_ishr hx hb dX0_turnedBy_25 ?_
      refine lv_topi (fun n_6 en_6 => ?_)
      clear en_6
      refine lv_iconst (v := 1) hx hb dX0_turnedBy_26 (by decide) ?_
      refine lv_iand hx hb dX0_turnedBy_27 ?_
      refine lv_topi (fun n_7 en_7 => ?_)
      clear en_7
      refine lv_iconst (v := 1) hx hb dX0_turnedBy_28 (by decide) ?_
      refine lv_icmp_ne (tgt := 52) hx hb dX0_turnedBy_29 (by decide) (fun c_8 => ?_) (fun c_8 => ?_)
      · skip
        have tc_8 : ¬ n_7.toInt = 1 := fun h => c_8 ((fa_eq _ _).mpr h)
        obtain ⟨n_9, en_9⟩ : ∃ y : Int32, y = v5_15 + 1 := ⟨_, rfl⟩
        have tn_9 : n_9.toInt = v5_15.toInt + 1 := pp_add en_9 rfl rfl (by omega) (by omega)
        refine lv_iinc (v := n_9) (lv' := [(5, .int n_9), (4, .int v4_15), (3, .int v3_4), (2, .int v2_4), (0, .int a), (1, .int b)]) hx hb dX0_turnedBy_52 hl (k := 0) rfl (by rw [en_9]; rfl) (by decide) rfl (fun ls hl => ?_)
        clear en_9
        refine lv_goto (tgt := 15) hx hb dX0_turnedBy_55 (by decide) ?_
        exact ihk_3 (n_9, v4_15) _ _ _ (by show (16 - n_9.toInt).toNat < k_3; omega) ⟨(by first | omega | decide | (simp only [fa_lt, fa_le, fa_eq, and_true, true_and, and_false, false_and, not_true_eq_false, not_false_eq_true, li_0, li_1, li_2, li_3, li_4, li_5, li_6, li_7, li_8, li_9, li_10, li_12, li_15, li_16, li_20, li_30, li_34, li_38, li_40, li_63, li_64, li_65, li_78, li_120, li_1000, li_4000, li_10000, li_11077, li_255, li_65535, li_m1, li_m2, li_m1000000001, li_m1000000002, li_m1000000003, li_m1000000004, li_m1000000005, li_m1000000006, li_m1000000007, or_true, true_or, or_false, false_or, implies_true, true_implies, false_implies] <;> omega)), (by first | omega | decide | (simp only [fa_lt, fa_le, fa_eq, and_true, true_and, and_false, false_and, not_true_eq_false, not_false_eq_true, li_0, li_1, li_2, li_3, li_4, li_5, li_6, li_7, li_8, li_9, li_10, li_12, li_15, li_16, li_20, li_30, li_34, li_38, li_40, li_63, li_64, li_65, li_78, li_120, li_1000, li_4000, li_10000, li_11077, li_255, li_65535, li_m1, li_m2, li_m1000000001, li_m1000000002, li_m1000000003, li_m1000000004, li_m1000000005, li_m1000000006, li_m1000000007, or_true, true_or, or_false, false_or, implies_true, true_implies, false_implies] <;> omega)), rfl, rfl, lv_sub hl [0, 1, 2, 3, 4, 5] rfl⟩
      · skip
        have tc_8 : n_7.toInt = 1 := (fa_eq _ _).mp c_8
        refine lv_iload hx hb dX0_turnedBy_32 (lv_at hl 1 rfl) ?_
        refine lv_iconst (v := 1) hx hb dX0_turnedBy_34 (by decide) ?_
        refine lv_iconst (v := 4) hx hb dX0_turnedBy_35 (by decide) ?_
        refine lv_iload hx hb dX0_turnedBy_36 (lv_at hl 0 rfl) ?_
        refine lv_iconst (v := 4) hx hb dX0_turnedBy_38 (by decide) ?_
        refine lv_irem hx hb dX0_turnedBy_39 (by decide) ?_
        refine lv_topi (fun n_10 en_10 => ?_)
        clear en_10
        refine lv_imul hx hb dX0_turnedBy_40 ?_
        refine lv_topi (fun n_11 en_11 => ?_)
        clear en_11
        refine lv_iconst (v := 3) hx hb dX0_turnedBy_41 (by decide) ?_
        refine lv_iadd hx hb dX0_turnedBy_42 ?_
        refine lv_topi (fun n_12 en_12 => ?_)
        clear en_12
        refine lv_iload hx hb dX0_turnedBy_43 (lv_at hl 0 rfl) ?_
        refine lv_iconst (v := 4) hx hb dX0_turnedBy_45 (by decide) ?_
        refine lv_idiv hx hb dX0_turnedBy_46 (by decide) ?_
        refine lv_topi (fun n_13 en_13 => ?_)
        clear en_13
        refine lv_isub hx hb dX0_turnedBy_47 ?_
        refine lv_topi (fun n_14 en_14 => ?_)
        clear en_14
        refine lv_ishl hx hb dX0_turnedBy_48 ?_
        refine lv_topi (fun n_15 en_15 => ?_)
        clear en_15
        refine lv_ior hx hb dX0_turnedBy_49 ?_
        refine lv_topi (fun n_16 en_16 => ?_)
        clear en_16
        refine lv_istore (lv' := [(4, .int n_16), (5, .int v5_15), (3, .int v3_4), (2, .int v2_4), (0, .int a), (1, .int b)]) hx hb dX0_turnedBy_50 hl (by decide) rfl (fun ls hl => ?_)
        obtain ⟨n_17, en_17⟩ : ∃ y : Int32, y = v5_15 + 1 := ⟨_, rfl⟩
        have tn_17 : n_17.toInt = v5_15.toInt + 1 := pp_add en_17 rfl rfl (by omega) (by omega)
        refine lv_iinc (v := n_17) (lv' := [(5, .int n_17), (4, .int n_16), (3, .int v3_4), (2, .int v2_4), (0, .int a), (1, .int b)]) hx hb dX0_turnedBy_52 hl (k := 1) rfl (by rw [en_17]; rfl) (by decide) rfl (fun ls hl => ?_)
        clear en_17
        refine lv_goto (tgt := 15) hx hb dX0_turnedBy_55 (by decide) ?_
        exact ihk_3 (n_17, n_16) _ _ _ (by show (16 - n_17.toInt).toNat < k_3; omega) ⟨(by first | omega | decide | (simp only [fa_lt, fa_le, fa_eq, and_true, true_and, and_false, false_and, not_true_eq_false, not_false_eq_true, li_0, li_1, li_2, li_3, li_4, li_5, li_6, li_7, li_8, li_9, li_10, li_12, li_15, li_16, li_20, li_30, li_34, li_38, li_40, li_63, li_64, li_65, li_78, li_120, li_1000, li_4000, li_10000, li_11077, li_255, li_65535, li_m1, li_m2, li_m1000000001, li_m1000000002, li_m1000000003, li_m1000000004, li_m1000000005, li_m1000000006, li_m1000000007, or_true, true_or, or_false, false_or, implies_true, true_implies, false_implies] <;> omega)), (by first | omega | decide | (simp only [fa_lt, fa_le, fa_eq, and_true, true_and, and_false, false_and, not_true_eq_false, not_false_eq_true, li_0, li_1, li_2, li_3, li_4, li_5, li_6, li_7, li_8, li_9, li_10, li_12, li_15, li_16, li_20, li_30, li_34, li_38, li_40, li_63, li_64, li_65, li_78, li_120, li_1000, li_4000, li_10000, li_11077, li_255, li_65535, li_m1, li_m2, li_m1000000001, li_m1000000002, li_m1000000003, li_m1000000004, li_m1000000005, li_m1000000006, li_m1000000007, or_true, true_or, or_false, false_or, implies_true, true_implies, false_implies] <;> omega)), rfl, rfl, lv_sub hl [0, 1, 2, 3, 4, 5] rfl⟩

def w_k_mirroredBy : List Cond := .code yX0_mirroredBy cX0_mirroredBy 2 (some .int) :: (([.constant RX0 31 (34952)] : List Cond))
set_option maxHeartbeats 4000000 in
set_option maxRecDepth 100000 in
theorem k_mirroredBy (l : Launch) (dC : Nat → ClassId) (dI : Nat → Nat → Nat) (ad : Nat → Nat) (a : Int32) (b : Int32) : Met l yX0_mirroredBy w_k_mirroredBy ({ frames := 0, cells := 0, slots := 0, locals := 0 } : Room) (va_Pc [.int a, .int b] (preS dC dI ad [] [])) (vp_Si (fun r => True)) 0 0 (fun _ => False) := by
  refine Met.ofW (cc := cX0_mirroredBy) (maxL := 2) (ret := (some .int)) (by decide) rfl ?_
  intro p e s m args below meth c s₁ B hml hv
  obtain ⟨rfl, hP, hK, hev⟩ := hv
  have hx := B.exec
  have hb := B.bytes
  have hr := B.returns
  have hts := atoms_spec (ws := w_k_mirroredBy) B.pre
  have hown : s.vm.findClass RX0 = some m.cls := findClass_of_methodNamed B.named
  have hlocks := B.notSynchronized
  have hP : va_P (dC, dI) vwCl [] s.heap := hP
  have hl := lv_entry ([.int a, .int b]) (n := 2) (Nat.le_of_ble_eq_true rfl)
  rw [lg_entry_eq]
  generalize (lg_sl ([.int a, .int b]) ++ List.replicate (2 - (lg_sl ([.int a, .int b])).length) Slot.unset).toArray = ls at hl ⊢
  have hl : lv_has ls 2 [(0, .int a), (1, .int b)] := hl
  refine lv_iload_n hx hb dX0_mirroredBy_0 rfl (lv_at hl 1 rfl) ?_
  refine lv_iconst (v := 1) hx hb dX0_mirroredBy_1 (by decide) ?_
  refine lv_iand hx hb dX0_mirroredBy_2 ?_
  refine lv_topi (fun n_1 en_1 => ?_)
  clear en_1
  refine lv_if_ne (tgt := 8) hx hb dX0_mirroredBy_3 (by decide) (fun c_2 => ?_) (fun c_2 => ?_)
  · skip
    have tc_2 : ¬ n_1.toInt = 0 := fun h => c_2 ((fa_eq _ _).mpr h)
    refine lv_iload_n hx hb dX0_mirroredBy_8 rfl (lv_at hl 0 rfl) ?_
    refine lv_sipush (v := 4369) hx hb dX0_mirroredBy_9 (by decide) ?_
    refine lv_iand hx hb dX0_mirroredBy_12 ?_
    refine lv_topi (fun n_3 en_3 => ?_)
    clear en_3
    refine lv_iconst (v := 3) hx hb dX0_mirroredBy_13 (by decide) ?_
    refine lv_ishl hx hb dX0_mirroredBy_14 ?_
    refine lv_topi (fun n_4 en_4 => ?_)
    clear en_4
    refine lv_iload_n hx hb dX0_mirroredBy_15 rfl (lv_at hl 0 rfl) ?_
    refine lv_sipush (v := 8738) hx hb dX0_mirroredBy_16 (by decide) ?_
    refine lv_iand hx hb dX0_mirroredBy_19 ?_
    refine lv_topi (fun n_5 en_5 => ?_)
    clear en_5
    refine lv_iconst (v := 1) hx hb dX0_mirroredBy_20 (by decide) ?_
    refine lv_ishl hx hb dX0_mirroredBy_21 ?_
    refine lv_topi (fun n_6 en_6 => ?_)
    clear en_6
    refine lv_ior hx hb dX0_mirroredBy_22 ?_
    refine lv_topi (fun n_7 en_7 => ?_)
    clear en_7
    refine lv_iload_n hx hb dX0_mirroredBy_23 rfl (lv_at hl 0 rfl) ?_
    refine lv_sipush (v := 17476) hx hb dX0_mirroredBy_24 (by decide) ?_
    refine lv_iand hx hb dX0_mirroredBy_27 ?_
    refine lv_topi (fun n_8 en_8 => ?_)
    clear en_8
    refine lv_iconst (v := 1) hx hb dX0_mirroredBy_28 (by decide) ?_
    refine lv_ishr hx hb dX0_mirroredBy_29 ?_
    refine lv_topi (fun n_9 en_9 => ?_)
    clear en_9
    refine lv_ior hx hb dX0_mirroredBy_30 ?_
    refine lv_topi (fun n_10 en_10 => ?_)
    clear en_10
    refine lv_iload_n hx hb dX0_mirroredBy_31 rfl (lv_at hl 0 rfl) ?_
    refine lv_ldc hx hb hown (hts _ (List.mem_of_getElem? (i := 1) rfl)) dX0_mirroredBy_32 ?_
    refine lv_iand hx hb dX0_mirroredBy_34 ?_
    refine lv_topi (fun n_11 en_11 => ?_)
    clear en_11
    refine lv_iconst (v := 3) hx hb dX0_mirroredBy_35 (by decide) ?_
    refine lv_ishr hx hb dX0_mirroredBy_36 ?_
    refine lv_topi (fun n_12 en_12 => ?_)
    clear en_12
    refine lv_ior hx hb dX0_mirroredBy_37 ?_
    refine lv_topi (fun n_13 en_13 => ?_)
    clear en_13
    exact W.iret (v := n_13) hx hb hr (fun t ht hW => ⟨n_13, rfl, trivial, ht⟩) (fun _ h => absurd h List.not_mem_nil) dX0_mirroredBy_38
  · skip
    have tc_2 : n_1.toInt = 0 := (fa_eq _ _).mp c_2
    refine lv_iload_n hx hb dX0_mirroredBy_6 rfl (lv_at hl 0 rfl) ?_
    exact W.iret (v := a) hx hb hr (fun t ht hW => ⟨a, rfl, trivial, ht⟩) (fun _ h => absurd h List.not_mem_nil) dX0_mirroredBy_7

def w_k_hollowed : List Cond := .code yX0_hollowed cX0_hollowed 5 (some .int) :: (([.constant RX0 32 (61166)] : List Cond))
set_option maxHeartbeats 4000000 in
set_option maxRecDepth 100000 in
theorem k_hollowed (l : Launch) (dC : Nat → ClassId) (dI : Nat → Nat → Nat) (ad : Nat → Nat) (a : Int32) : Met l yX0_hollowed w_k_hollowed ({ frames := 0, cells := 0, slots := 0, locals := 0 } : Room) (va_Pc [.int a] (preS dC dI ad [] [])) (vp_Si (fun r => True)) 0 0 (fun _ => False) := by
  refine Met.ofW (cc := cX0_hollowed) (maxL := 5) (ret := (some .int)) (by decide) rfl ?_
  intro p e s m args below meth c s₁ B hml hv
  obtain ⟨rfl, hP, hK, hev⟩ := hv
  have hx := B.exec
  have hb := B.bytes
  have hr := B.returns
  have hts := atoms_spec (ws := w_k_hollowed) B.pre
  have hown : s.vm.findClass RX0 = some m.cls := findClass_of_methodNamed B.named
  have hlocks := B.notSynchronized
  have hP : va_P (dC, dI) vwCl [] s.heap := hP
  have hl := lv_entry ([.int a]) (n := 5) (Nat.le_of_ble_eq_true rfl)
  rw [lg_entry_eq]
  generalize (lg_sl ([.int a]) ++ List.replicate (5 - (lg_sl ([.int a])).length) Slot.unset).toArray = ls at hl ⊢
  have hl : lv_has ls 5 [(0, .int a)] := hl
  refine lv_iload_n hx hb dX0_hollowed_0 rfl (lv_at hl 0 rfl) ?_
  refine lv_iconst (v := 1) hx hb dX0_hollowed_1 (by decide) ?_
  refine lv_ishl hx hb dX0_hollowed_2 ?_
  refine lv_topi (fun n_1 en_1 => ?_)
  clear en_1
  refine lv_ldc hx hb hown (hts _ (List.mem_of_getElem? (i := 1) rfl)) dX0_hollowed_3 ?_
  refine lv_iand hx hb dX0_hollowed_5 ?_
  refine lv_topi (fun n_2 en_2 => ?_)
  clear en_2
  refine lv_istore_n (lv' := [(1, .int n_2), (0, .int a)]) hx hb dX0_hollowed_6 rfl hl (by decide) rfl (fun ls hl => ?_)
  refine lv_iload_n hx hb dX0_hollowed_7 rfl (lv_at hl 1 rfl) ?_
  refine lv_iconst (v := 1) hx hb dX0_hollowed_8 (by decide) ?_
  refine lv_ishr hx hb dX0_hollowed_9 ?_
  refine lv_topi (fun n_3 en_3 => ?_)
  clear en_3
  refine lv_sipush (v := 30583) hx hb dX0_hollowed_10 (by decide) ?_
  refine lv_iand hx hb dX0_hollowed_13 ?_
  refine lv_topi (fun n_4 en_4 => ?_)
  clear en_4
  refine lv_istore_n (lv' := [(2, .int n_4), (1, .int n_2), (0, .int a)]) hx hb dX0_hollowed_14 rfl hl (by decide) rfl (fun ls hl => ?_)
  refine lv_iload_n hx hb dX0_hollowed_15 rfl (lv_at hl 2 rfl) ?_
  refine lv_iconst (v := 4) hx hb dX0_hollowed_16 (by decide) ?_
  refine lv_ishl hx hb dX0_hollowed_17 ?_
  refine lv_topi (fun n_5 en_5 => ?_)
  clear en_5
  refine lv_istore_n (lv' := [(3, .int n_5), (2, .int n_4), (1, .int n_2), (0, .int a)]) hx hb dX0_hollowed_18 rfl hl (by decide) rfl (fun ls hl => ?_)
  refine lv_iload_n hx hb dX0_hollowed_19 rfl (lv_at hl 3 rfl) ?_
  refine lv_iconst (v := 4) hx hb dX0_hollowed_20 (by decide) ?_
  refine lv_ishr hx hb dX0_hollowed_21 ?_
  refine lv_topi (fun n_6 en_6 => ?_)
  clear en_6
  refine lv_istore (lv' := [(4, .int n_6), (3, .int n_5), (2, .int n_4), (1, .int n_2), (0, .int a)]) hx hb dX0_hollowed_22 hl (by decide) rfl (fun ls hl => ?_)
  refine lv_iload_n hx hb dX0_hollowed_24 rfl (lv_at hl 4 rfl) ?_
  refine lv_iload_n hx hb dX0_hollowed_25 rfl (lv_at hl 3 rfl) ?_
  refine lv_iload_n hx hb dX0_hollowed_26 rfl (lv_at hl 2 rfl) ?_
  refine lv_iand hx hb dX0_hollowed_27 ?_
  refine lv_topi (fun n_7 en_7 => ?_)
  clear en_7
  refine lv_iload_n hx hb dX0_hollowed_28 rfl (lv_at hl 1 rfl) ?_
  refine lv_iand hx hb dX0_hollowed_29 ?_
  refine lv_topi (fun n_8 en_8 => ?_)
  clear en_8
  refine lv_iload hx hb dX0_hollowed_30 (lv_at hl 0 rfl) ?_
  refine lv_iand hx hb dX0_hollowed_32 ?_
  refine lv_topi (fun n_9 en_9 => ?_)
  clear en_9
  refine lv_iconst (v := (-1)) hx hb dX0_hollowed_33 (by decide) ?_
  refine lv_ixor hx hb dX0_hollowed_34 ?_
  refine lv_topi (fun n_10 en_10 => ?_)
  clear en_10
  refine lv_iand hx hb dX0_hollowed_35 ?_
  refine lv_topi (fun n_11 en_11 => ?_)
  clear en_11
  exact W.iret (v := n_11) hx hb hr (fun t ht hW => ⟨n_11, rfl, trivial, ht⟩) (fun _ h => absurd h List.not_mem_nil) dX0_hollowed_36

def w_k_doubled : List Cond := .code yX0_doubled cX0_doubled 1 (some .int) :: (([.constant RX0 33 (65535)] : List Cond))
set_option maxHeartbeats 4000000 in
set_option maxRecDepth 100000 in
theorem k_doubled (l : Launch) (dC : Nat → ClassId) (dI : Nat → Nat → Nat) (ad : Nat → Nat) (a : Int32) : Met l yX0_doubled w_k_doubled ({ frames := 0, cells := 0, slots := 0, locals := 0 } : Room) (va_Pc [.int a] (preS dC dI ad [] [])) (vp_Si (fun r => True)) 0 0 (fun _ => False) := by
  refine Met.ofW (cc := cX0_doubled) (maxL := 1) (ret := (some .int)) (by decide) rfl ?_
  intro p e s m args below meth c s₁ B hml hv
  obtain ⟨rfl, hP, hK, hev⟩ := hv
  have hx := B.exec
  have hb := B.bytes
  have hr := B.returns
  have hts := atoms_spec (ws := w_k_doubled) B.pre
  have hown : s.vm.findClass RX0 = some m.cls := findClass_of_methodNamed B.named
  have hlocks := B.notSynchronized
  have hP : va_P (dC, dI) vwCl [] s.heap := hP
  have hl := lv_entry ([.int a]) (n := 1) (Nat.le_of_ble_eq_true rfl)
  rw [lg_entry_eq]
  generalize (lg_sl ([.int a]) ++ List.replicate (1 - (lg_sl ([.int a])).length) Slot.unset).toArray = ls at hl ⊢
  have hl : lv_has ls 1 [(0, .int a)] := hl
  refine lv_iload_n hx hb dX0_doubled_0 rfl (lv_at hl 0 rfl) ?_
  refine lv_iload_n hx hb dX0_doubled_1 rfl (lv_at hl 0 rfl) ?_
  refine lv_iconst (v := 4) hx hb dX0_doubled_2 (by decide) ?_
  refine lv_ishl hx hb dX0_doubled_3 ?_
  refine lv_topi (fun n_1 en_1 => ?_)
  clear en_1
  refine lv_ior hx hb dX0_doubled_4 ?_
  refine lv_topi (fun n_2 en_2 => ?_)
  clear en_2
  refine lv_ldc hx hb hown (hts _ (List.mem_of_getElem? (i := 1) rfl)) dX0_doubled_5 ?_
  refine lv_iand hx hb dX0_doubled_7 ?_
  refine lv_topi (fun n_3 en_3 => ?_)
  clear en_3
  exact W.iret (v := n_3) hx hb hr (fun t ht hW => ⟨n_3, rfl, trivial, ht⟩) (fun _ h => absurd h List.not_mem_nil) dX0_doubled_8

def w_k_filled : List Cond := .code yX0_filled cX0_filled 6 (some .int) :: (([] : List Cond))
set_option maxHeartbeats 4000000 in
set_option maxRecDepth 100000 in
theorem k_filled (l : Launch) (dC : Nat → ClassId) (dI : Nat → Nat → Nat) (ad : Nat → Nat) (a : Int32) : Met l yX0_filled w_k_filled ({ frames := 0, cells := 0, slots := 0, locals := 0 } : Room) (va_Pc [.int a] (preS dC dI ad [] [])) (vp_Si (fun r => True)) 0 0 (fun _ => False) := by
  refine Met.ofW (cc := cX0_filled) (maxL := 6) (ret := (some .int)) (by decide) rfl ?_
  intro p e s m args below meth c s₁ B hml hv
  obtain ⟨rfl, hP, hK, hev⟩ := hv
  have hx := B.exec
  have hb := B.bytes
  have hr := B.returns
  have hts := atoms_spec (ws := w_k_filled) B.pre
  have hown : s.vm.findClass RX0 = some m.cls := findClass_of_methodNamed B.named
  have hlocks := B.notSynchronized
  have hP : va_P (dC, dI) vwCl [] s.heap := hP
  have hl := lv_entry ([.int a]) (n := 6) (Nat.le_of_ble_eq_true rfl)
  rw [lg_entry_eq]
  generalize (lg_sl ([.int a]) ++ List.replicate (6 - (lg_sl ([.int a])).length) Slot.unset).toArray = ls at hl ⊢
  have hl : lv_has ls 6 [(0, .int a)] := hl
  refine lv_iload_n hx hb dX0_filled_0 rfl (lv_at hl 0 rfl) ?_
  refine lv_istore_n (lv' := [(1, .int a), (0, .int a)]) hx hb dX0_filled_1 rfl hl (by decide) rfl (fun ls hl => ?_)
  refine lv_iconst (v := 0) hx hb dX0_filled_2 (by decide) ?_
  refine lv_istore_n (lv' := [(2, .int 0), (1, .int a), (0, .int a)]) hx hb dX0_filled_3 rfl hl (by decide) rfl (fun ls hl => ?_)
  refine pp_loop (ι := Int32 × Int32) (fun ⟨v2_4, v1_4⟩ => (16 - v2_4.toInt).toNat) (fun ⟨v2_4, v1_4⟩ H locs ls => (0 ≤ v2_4.toInt) ∧ (v2_4.toInt ≤ 19) ∧ H = s.heap ∧ locs = [] ∧ lv_has ls 6 [(2, .int v2_4), (1, .int v1_4), (0, .int a)]) ?_ (0, a) _ _ _ ⟨(by first | omega | decide | (simp only [fa_lt, fa_le, fa_eq, and_true, true_and, and_false, false_and, not_true_eq_false, not_false_eq_true, li_0, li_1, li_2, li_3, li_4, li_5, li_6, li_7, li_8, li_9, li_10, li_12, li_15, li_16, li_20, li_30, li_34, li_38, li_40, li_63, li_64, li_65, li_78, li_120, li_1000, li_4000, li_10000, li_11077, li_255, li_65535, li_m1, li_m2, li_m1000000001, li_m1000000002, li_m1000000003, li_m1000000004, li_m1000000005, li_m1000000006, li_m1000000007, or_true, true_or, or_false, false_or, implies_true, true_implies, false_implies] <;> omega)), (by first | omega | decide | (simp only [fa_lt, fa_le, fa_eq, and_true, true_and, and_false, false_and, not_true_eq_false, not_false_eq_true, li_0, li_1, li_2, li_3, li_4, li_5, li_6, li_7, li_8, li_9, li_10, li_12, li_15, li_16, li_20, li_30, li_34, li_38, li_40, li_63, li_64, li_65, li_78, li_120, li_1000, li_4000, li_10000, li_11077, li_255, li_65535, li_m1, li_m2, li_m1000000001, li_m1000000002, li_m1000000003, li_m1000000004, li_m1000000005, li_m1000000006, li_m1000000007, or_true, true_or, or_false, false_or, implies_true, true_implies, false_implies] <;> omega)), rfl, rfl, lv_sub hl [0, 1, 2] rfl⟩
  intro k_1 ihk_1 u H locs ls hm hI
  obtain ⟨v2_4, v1_4⟩ := u
  obtain ⟨jk_1_0, jk_1_1, rfl, rfl, hl⟩ := hI
  have hmk_1 : (16 - v2_4.toInt).toNat < k_1 + 1 := hm
  clear hm
  have jk_1_0 : 0 ≤ v2_4.toInt := jk_1_0
  have jk_1_1 : v2_4.toInt ≤ 19 := jk_1_1
  have hl : lv_has ls 6 [(2, .int v2_4), (1, .int v1_4), (0, .int a)] := hl
  refine lv_iload_n hx hb dX0_filled_4 rfl (lv_at hl 0 rfl) ?_
  refine lv_bipush (v := 16) hx hb dX0_filled_5 (by decide) ?_
  refine lv_icmp_ge (tgt := 62) hx hb dX0_filled_7 (by decide) (fun c_2 => ?_) (fun c_2 => ?_)
  · skip
    have tc_2 : 16 ≤ v2_4.toInt := (fa_le _ _).mp c_2
    refine lv_iload_n hx hb dX0_filled_62 rfl (lv_at hl 1 rfl) ?_
    exact W.iret (v := v1_4) hx hb hr (fun t ht hW => ⟨v1_4, rfl, trivial, ht⟩) (fun _ h => absurd h List.not_mem_nil) dX0_filled_63
  · skip
    have tc_2 : ¬ 16 ≤ v2_4.toInt := fun h => c_2 ((fa_le _ _).mpr h)
    refine lv_iload_n hx hb dX0_filled_10 rfl (lv_at hl 2 rfl) ?_
    refine lv_iload_n hx hb dX0_filled_11 rfl (lv_at hl 0 rfl) ?_
    refine lv_ishr hx hb dX0_filled_12 ?_
    refine lv_topi (fun n_3 en_3 => ?_)
    clear en_3
    refine lv_bipush (v := 15) hx hb dX0_filled_13 (by decide) ?_
    refine lv_iand hx hb dX0_filled_15 ?_
    refine lv_topi (fun n_4 en_4 => ?_)
    clear en_4
    refine lv_istore_n (lv' := [(3, .int n_4), (2, .int v2_4), (1, .int v1_4), (0, .int a)]) hx hb dX0_filled_16 rfl hl (by decide) rfl (fun ls hl => ?_)
    refine lv_iload_n hx hb dX0_filled_17 rfl (lv_at hl 0 rfl) ?_
    refine lv_iconst (v := 1) hx hb dX0_filled_18 (by decide) ?_
    refine lv_ishl hx hb dX0_filled_19 ?_
    refine lv_topi (fun n_5 en_5 => ?_)
    clear en_5
    refine lv_iload_n hx hb dX0_filled_20 rfl (lv_at hl 0 rfl) ?_
    refine lv_iconst (v := 2) hx hb dX0_filled_21 (by decide) ?_
    refine lv_ishl hx hb dX0_filled_22 ?_
    refine lv_topi (fun n_6 en_6 => ?_)
    clear en_6
    refine lv_ior hx hb dX0_filled_23 ?_
    refine lv_topi (fun n_7 en_7 => ?_)
    clear en_7
    refine lv_iload_n hx hb dX0_filled_24 rfl (lv_at hl 0 rfl) ?_
    refine lv_iconst (v := 3) hx hb dX0_filled_25 (by decide) ?_
    refine lv_ishl hx hb dX0_filled_26 ?_
    refine lv_topi (fun n_8 en_8 => ?_)
    clear en_8
    refine lv_ior hx hb dX0_filled_27 ?_
    refine lv_topi (fun n_9 en_9 => ?_)
    clear en_9
    refine lv_istore (lv' := [(4, .int n_9), (3, .int n_4), (2, .int v2_4), (1, .int v1_4), (0, .int a)]) hx hb dX0_filled_28 hl (by decide) rfl (fun ls hl => ?_)
    refine lv_iload_n hx hb dX0_filled_30 rfl (lv_at hl 1 rfl) ?_
    refine lv_iconst (v := 1) hx hb dX0_filled_31 (by decide) ?_
    refine lv_ishr hx hb dX0_filled_32 ?_
    refine lv_topi (fun n_10 en_10 => ?_)
    clear en_10
    refine lv_iload_n hx hb dX0_filled_33 rfl (lv_at hl 1 rfl) ?_
    refine lv_iconst (v := 2) hx hb dX0_filled_34 (by decide) ?_
    refine lv_ishr hx hb dX0_filled_35 ?_
    refine lv_topi (fun n_11 en_11 => ?_)
    clear en_11
    refine lv_ior hx hb dX0_filled_36 ?_
    refine lv_topi (fun n_12 en_12 => ?_)
    clear en_12
    refine lv_iload_n hx hb dX0_filled_37 rfl (lv_at hl 1 rfl) ?_
    refine lv_iconst (v := 3) hx hb dX0_filled_38 (by decide) ?_
    refine lv_ishr hx hb dX0_filled_39 ?_
    refine lv_topi (fun n_13 en_13 => ?_)
    clear en_13
    refine lv_ior hx hb dX0_filled_40 ?_
    refine lv_topi (fun n_14 en_14 => ?_)
    clear en_14
    refine lv_istore (lv' := [(5, .int n_14), (4, .int n_9), (3, .int n_4), (2, .int v2_4), (1, .int v1_4), (0, .int a)]) hx hb dX0_filled_41 hl (by decide) rfl (fun ls hl => ?_)
    refine lv_iload_n hx hb dX0_filled_43 rfl (lv_at hl 4 rfl) ?_
    refine lv_iload hx hb dX0_filled_44 (lv_at hl 1 rfl) ?_
    refine lv_iload hx hb dX0_filled_46 (lv_at hl 0 rfl) ?_
    refine lv_iand hx hb dX0_filled_48 ?_
    refine lv_topi (fun n_15 en_15 => ?_)
    clear en_15
    refine lv_bipush (v := 15) hx hb dX0_filled_49 (by decide) ?_
    refine lv_iand hx hb dX0_filled_51 ?_
    refine lv_topi (fun n_16 en_16 => ?_)
    clear en_16
    refine lv_iload_n hx hb dX0_filled_52 rfl (lv_at hl 3 rfl) ?_
    refine lv_ishl hx hb dX0_filled_53 ?_
    refine lv_topi (fun n_17 en_17 => ?_)
    clear en_17
    refine lv_ior hx hb dX0_filled_54 ?_
    refine lv_topi (fun n_18 en_18 => ?_)
    clear en_18
    refine lv_istore_n (lv' := [(1, .int n_18), (5, .int n_14), (4, .int n_9), (3, .int n_4), (2, .int v2_4), (0, .int a)]) hx hb dX0_filled_55 rfl hl (by decide) rfl (fun ls hl => ?_)
    obtain ⟨n_19, en_19⟩ : ∃ y : Int32, y = v2_4 + 4 := ⟨_, rfl⟩
    have tn_19 : n_19.toInt = v2_4.toInt + 4 := pp_add en_19 rfl rfl (by omega) (by omega)
    refine lv_iinc (v := n_19) (lv' := [(2, .int n_19), (1, .int n_18), (5, .int n_14), (4, .int n_9), (3, .int n_4), (0, .int a)]) hx hb dX0_filled_56 hl (k := 4) rfl (by rw [en_19]; rfl) (by decide) rfl (fun ls hl => ?_)
    clear en_19
    refine lv_goto (tgt := 4) hx hb dX0_filled_59 (by decide) ?_
    exact ihk_1 (n_19, n_18) _ _ _ (by show (16 - n_19.toInt).toNat < k_1; omega) ⟨(by first | omega | decide | (simp only [fa_lt, fa_le, fa_eq, and_true, true_and, and_false, false_and, not_true_eq_false, not_false_eq_true, li_0, li_1, li_2, li_3, li_4, li_5, li_6, li_7, li_8, li_9, li_10, li_12, li_15, li_16, li_20, li_30, li_34, li_38, li_40, li_63, li_64, li_65, li_78, li_120, li_1000, li_4000, li_10000, li_11077, li_255, li_65535, li_m1, li_m2, li_m1000000001, li_m1000000002, li_m1000000003, li_m1000000004, li_m1000000005, li_m1000000006, li_m1000000007, or_true, true_or, or_false, false_or, implies_true, true_implies, false_implies] <;> omega)), (by first | omega | decide | (simp only [fa_lt, fa_le, fa_eq, and_true, true_and, and_false, false_and, not_true_eq_false, not_false_eq_true, li_0, li_1, li_2, li_3, li_4, li_5, li_6, li_7, li_8, li_9, li_10, li_12, li_15, li_16, li_20, li_30, li_34, li_38, li_40, li_63, li_64, li_65, li_78, li_120, li_1000, li_4000, li_10000, li_11077, li_255, li_65535, li_m1, li_m2, li_m1000000001, li_m1000000002, li_m1000000003, li_m1000000004, li_m1000000005, li_m1000000006, li_m1000000007, or_true, true_or, or_false, false_or, implies_true, true_implies, false_implies] <;> omega)), rfl, rfl, lv_sub hl [0, 1, 5] rfl⟩

def w_k_pointsBy : List Cond := .code yX0_pointsBy cX0_pointsBy 3 (some .int) :: (([.methodLink RX0 15 yX0_turnedBy, .static yX0_turnedBy, .initialized RX0, .code yX0_turnedBy cX0_turnedBy 6 (some .int), .methodLink RX0 19 yX0_mirroredBy, .static yX0_mirroredBy, .code yX0_mirroredBy cX0_mirroredBy 2 (some .int), .constant RX0 31 (34952), .methodLink RX0 22 yX0_hollowed, .static yX0_hollowed, .code yX0_hollowed cX0_hollowed 5 (some .int), .constant RX0 32 (61166), .methodLink RX0 25 yX0_doubled, .static yX0_doubled, .code yX0_doubled cX0_doubled 1 (some .int), .constant RX0 33 (65535), .methodLink RX0 28 yX0_filled, .static yX0_filled, .code yX0_filled cX0_filled 6 (some .int)] : List Cond))
set_option maxRecDepth 20000 in
theorem g_k_pointsBy_k_turnedBy_15 : GoodIn w_k_pointsBy (va_wsS RX0 15 yX0_turnedBy w_k_turnedBy) := goodIn_r _ [1, 2, 3, 4] rfl (by decide +kernel)
set_option maxRecDepth 20000 in
theorem g_k_pointsBy_k_mirroredBy_19 : GoodIn w_k_pointsBy (va_wsS RX0 19 yX0_mirroredBy w_k_mirroredBy) := goodIn_r _ [5, 6, 3, 7, 8] rfl (by decide +kernel)
set_option maxRecDepth 20000 in
theorem g_k_pointsBy_k_hollowed_22 : GoodIn w_k_pointsBy (va_wsS RX0 22 yX0_hollowed w_k_hollowed) := goodIn_r _ [9, 10, 3, 11, 12] rfl (by decide +kernel)
set_option maxRecDepth 20000 in
theorem g_k_pointsBy_k_doubled_25 : GoodIn w_k_pointsBy (va_wsS RX0 25 yX0_doubled w_k_doubled) := goodIn_r _ [13, 14, 3, 15, 16] rfl (by decide +kernel)
set_option maxRecDepth 20000 in
theorem g_k_pointsBy_k_filled_28 : GoodIn w_k_pointsBy (va_wsS RX0 28 yX0_filled w_k_filled) := goodIn_r _ [17, 18, 3, 19] rfl (by decide +kernel)
set_option maxHeartbeats 4000000 in
set_option maxRecDepth 100000 in
theorem k_pointsBy (l : Launch) (dC : Nat → ClassId) (dI : Nat → Nat → Nat) (ad : Nat → Nat) (a : Int32) (b : Int32) (d : Int32) : Met l yX0_pointsBy w_k_pointsBy ({ frames := 1, cells := 0, slots := 0, locals := 25 } : Room) (va_Pc [.int a, .int b, .int d] (preS dC dI ad [] [])) (vp_Si (fun r => True)) 0 0 (fun _ => False) := by
  refine Met.ofW (cc := cX0_pointsBy) (maxL := 3) (ret := (some .int)) (by decide) rfl ?_
  intro p e s m args below meth c s₁ B hml hv
  obtain ⟨rfl, hP, hK, hev⟩ := hv
  have hx := B.exec
  have hb := B.bytes
  have hr := B.returns
  have hts := atoms_spec (ws := w_k_pointsBy) B.pre
  have hown : s.vm.findClass RX0 = some m.cls := findClass_of_methodNamed B.named
  have hlocks := B.notSynchronized
  have hP : va_P (dC, dI) vwCl [] s.heap := hP
  have hl := lv_entry ([.int a, .int b, .int d]) (n := 3) (Nat.le_of_ble_eq_true rfl)
  rw [lg_entry_eq]
  generalize (lg_sl ([.int a, .int b, .int d]) ++ List.replicate (3 - (lg_sl ([.int a, .int b, .int d])).length) Slot.unset).toArray = ls at hl ⊢
  have hl : lv_has ls 3 [(0, .int a), (1, .int b), (2, .int d)] := hl
  refine lv_iload_n hx hb dX0_pointsBy_0 rfl (lv_at hl 0 rfl) ?_
  by_cases c_1 : a = 1
  · skip
    refine W.eq (g2 := F0 m 1 ls (.int 1 :: [])) (by rw [c_1]) ?_
    refine lv_tableIn (tgt := 36) hx hb dX0_pointsBy_1 (by decide) (by decide) rfl (by decide) ?_
    refine lv_iload_n hx hb dX0_pointsBy_36 rfl (lv_at hl 1 rfl) ?_
    refine lv_iload_n hx hb dX0_pointsBy_37 rfl (lv_at hl 2 rfl) ?_
    have hPc := hP.sub (ws' := []) [] rfl
    have hKc := hK.sub (tys' := []) [] rfl
    refine vp_callSi (W.runS (As := [.int b, .int d]) (rest := []) ⟨hx, hb, hml, hown, hts⟩ (k_turnedBy l dC dI ad b d ) (va_cwS 2 hts g_k_pointsBy_k_turnedBy_15 rfl rfl rfl (by decide +kernel) ⟨(Nat.le_of_ble_eq_true rfl), (Nat.le_of_ble_eq_true rfl)⟩) ⟨preS_blind, fun U hU hW => ⟨rfl, preS_at hU hW hPc hKc hev⟩⟩ rfl rfl hl.1 rfl (lv_room (Nat.le_of_ble_eq_true rfl)) dX0_pointsBy_38 ⟨(Nat.le_of_ble_eq_true rfl), (Nat.le_of_ble_eq_true rfl)⟩) (fun r_2 hw => ?_)
    exact W.iret (v := r_2) hx hb hr (fun t ht hW => ⟨r_2, rfl, trivial, ht⟩) (fun _ h => absurd h List.not_mem_nil) dX0_pointsBy_41
  · skip
    by_cases c_3 : a = 2
    · skip
      refine W.eq (g2 := F0 m 1 ls (.int 2 :: [])) (by rw [c_3]) ?_
      refine lv_tableIn (tgt := 42) hx hb dX0_pointsBy_1 (by decide) (by decide) rfl (by decide) ?_
      refine lv_iload_n hx hb dX0_pointsBy_42 rfl (lv_at hl 1 rfl) ?_
      refine lv_iload_n hx hb dX0_pointsBy_43 rfl (lv_at hl 2 rfl) ?_
      have hPc := hP.sub (ws' := []) [] rfl
      have hKc := hK.sub (tys' := []) [] rfl
      refine vp_callSi (W.runS (As := [.int b, .int d]) (rest := []) ⟨hx, hb, hml, hown, hts⟩ (k_mirroredBy l dC dI ad b d ) (va_cwS 2 hts g_k_pointsBy_k_mirroredBy_19 rfl rfl rfl (by decide +kernel) ⟨(Nat.le_of_ble_eq_true rfl), (Nat.le_of_ble_eq_true rfl)⟩) ⟨preS_blind, fun U hU hW => ⟨rfl, preS_at hU hW hPc hKc hev⟩⟩ rfl rfl hl.1 rfl (lv_room (Nat.le_of_ble_eq_true rfl)) dX0_pointsBy_44 ⟨(Nat.le_of_ble_eq_true rfl), (Nat.le_of_ble_eq_true rfl)⟩) (fun r_4 hw => ?_)
      exact W.iret (v := r_4) hx hb hr (fun t ht hW => ⟨r_4, rfl, trivial, ht⟩) (fun _ h => absurd h List.not_mem_nil) dX0_pointsBy_47
    · skip
      by_cases c_5 : a = 3
      · skip
        refine W.eq (g2 := F0 m 1 ls (.int 3 :: [])) (by rw [c_5]) ?_
        refine lv_tableIn (tgt := 48) hx hb dX0_pointsBy_1 (by decide) (by decide) rfl (by decide) ?_
        refine lv_iload_n hx hb dX0_pointsBy_48 rfl (lv_at hl 1 rfl) ?_
        refine lv_iload_n hx hb dX0_pointsBy_49 rfl (lv_at hl 2 rfl) ?_
        have hPc := hP.sub (ws' := []) [] rfl
        have hKc := hK.sub (tys' := []) [] rfl
        refine vp_callSi (W.runS (As := [.int b, .int d]) (rest := []) ⟨hx, hb, hml, hown, hts⟩ (k_turnedBy l dC dI ad b d ) (va_cwS 2 hts g_k_pointsBy_k_turnedBy_15 rfl rfl rfl (by decide +kernel) ⟨(Nat.le_of_ble_eq_true rfl), (Nat.le_of_ble_eq_true rfl)⟩) ⟨preS_blind, fun U hU hW => ⟨rfl, preS_at hU hW hPc hKc hev⟩⟩ rfl rfl hl.1 rfl (lv_room (Nat.le_of_ble_eq_true rfl)) dX0_pointsBy_50 ⟨(Nat.le_of_ble_eq_true rfl), (Nat.le_of_ble_eq_true rfl)⟩) (fun r_6 hw => ?_)
        have hPc := hP.sub (ws' := []) [] rfl
        have hKc := hK.sub (tys' := []) [] rfl
        refine vp_callSi (W.runS (As := [.int r_6]) (rest := []) ⟨hx, hb, hml, hown, hts⟩ (k_hollowed l dC dI ad r_6 ) (va_cwS 1 hts g_k_pointsBy_k_hollowed_22 rfl rfl rfl (by decide +kernel) ⟨(Nat.le_of_ble_eq_true rfl), (Nat.le_of_ble_eq_true rfl)⟩) ⟨preS_blind, fun U hU hW => ⟨rfl, preS_at hU hW hPc hKc hev⟩⟩ rfl rfl hl.1 rfl (lv_room (Nat.le_of_ble_eq_true rfl)) dX0_pointsBy_53 ⟨(Nat.le_of_ble_eq_true rfl), (Nat.le_of_ble_eq_true rfl)⟩) (fun r_7 hw => ?_)
        exact W.iret (v := r_7) hx hb hr (fun t ht hW => ⟨r_7, rfl, trivial, ht⟩) (fun _ h => absurd h List.not_mem_nil) dX0_pointsBy_56
      · skip
        by_cases c_8 : a = 4
        · skip
          refine W.eq (g2 := F0 m 1 ls (.int 4 :: [])) (by rw [c_8]) ?_
          refine lv_tableIn (tgt := 57) hx hb dX0_pointsBy_1 (by decide) (by decide) rfl (by decide) ?_
          refine lv_iload_n hx hb dX0_pointsBy_57 rfl (lv_at hl 1 rfl) ?_
          refine lv_iload_n hx hb dX0_pointsBy_58 rfl (lv_at hl 2 rfl) ?_
          have hPc := hP.sub (ws' := []) [] rfl
          have hKc := hK.sub (tys' := []) [] rfl
          refine vp_callSi (W.runS (As := [.int b, .int d]) (rest := []) ⟨hx, hb, hml, hown, hts⟩ (k_mirroredBy l dC dI ad b d ) (va_cwS 2 hts g_k_pointsBy_k_mirroredBy_19 rfl rfl rfl (by decide +kernel) ⟨(Nat.le_of_ble_eq_true rfl), (Nat.le_of_ble_eq_true rfl)⟩) ⟨preS_blind, fun U hU hW => ⟨rfl, preS_at hU hW hPc hKc hev⟩⟩ rfl rfl hl.1 rfl (lv_room (Nat.le_of_ble_eq_true rfl)) dX0_pointsBy_59 ⟨(Nat.le_of_ble_eq_true rfl), (Nat.le_of_ble_eq_true rfl)⟩) (fun r_9 hw => ?_)
          have hPc := hP.sub (ws' := []) [] rfl
          have hKc := hK.sub (tys' := []) [] rfl
          refine vp_callSi (W.runS (As := [.int r_9]) (rest := []) ⟨hx, hb, hml, hown, hts⟩ (k_doubled l dC dI ad r_9 ) (va_cwS 1 hts g_k_pointsBy_k_doubled_25 rfl rfl rfl (by decide +kernel) ⟨(Nat.le_of_ble_eq_true rfl), (Nat.le_of_ble_eq_true rfl)⟩) ⟨preS_blind, fun U hU hW => ⟨rfl, preS_at hU hW hPc hKc hev⟩⟩ rfl rfl hl.1 rfl (lv_room (Nat.le_of_ble_eq_true rfl)) dX0_pointsBy_62 ⟨(Nat.le_of_ble_eq_true rfl), (Nat.le_of_ble_eq_true rfl)⟩) (fun r_10 hw => ?_)
          exact W.iret (v := r_10) hx hb hr (fun t ht hW => ⟨r_10, rfl, trivial, ht⟩) (fun _ h => absurd h List.not_mem_nil) dX0_pointsBy_65
        · skip
          by_cases c_11 : a = 5
          · skip
            refine W.eq (g2 := F0 m 1 ls (.int 5 :: [])) (by rw [c_11]) ?_
            refine lv_tableIn (tgt := 66) hx hb dX0_pointsBy_1 (by decide) (by decide) rfl (by decide) ?_
            refine lv_iload_n hx hb dX0_pointsBy_66 rfl (lv_at hl 1 rfl) ?_
            refine lv_iload_n hx hb dX0_pointsBy_67 rfl (lv_at hl 2 rfl) ?_
            have hPc := hP.sub (ws' := []) [] rfl
            have hKc := hK.sub (tys' := []) [] rfl
            refine vp_callSi (W.runS (As := [.int b, .int d]) (rest := []) ⟨hx, hb, hml, hown, hts⟩ (k_turnedBy l dC dI ad b d ) (va_cwS 2 hts g_k_pointsBy_k_turnedBy_15 rfl rfl rfl (by decide +kernel) ⟨(Nat.le_of_ble_eq_true rfl), (Nat.le_of_ble_eq_true rfl)⟩) ⟨preS_blind, fun U hU hW => ⟨rfl, preS_at hU hW hPc hKc hev⟩⟩ rfl rfl hl.1 rfl (lv_room (Nat.le_of_ble_eq_true rfl)) dX0_pointsBy_68 ⟨(Nat.le_of_ble_eq_true rfl), (Nat.le_of_ble_eq_true rfl)⟩) (fun r_12 hw => ?_)
            have hPc := hP.sub (ws' := []) [] rfl
            have hKc := hK.sub (tys' := []) [] rfl
            refine vp_callSi (W.runS (As := [.int r_12]) (rest := []) ⟨hx, hb, hml, hown, hts⟩ (k_filled l dC dI ad r_12 ) (va_cwS 1 hts g_k_pointsBy_k_filled_28 rfl rfl rfl (by decide +kernel) ⟨(Nat.le_of_ble_eq_true rfl), (Nat.le_of_ble_eq_true rfl)⟩) ⟨preS_blind, fun U hU hW => ⟨rfl, preS_at hU hW hPc hKc hev⟩⟩ rfl rfl hl.1 rfl (lv_room (Nat.le_of_ble_eq_true rfl)) dX0_pointsBy_71 ⟨(Nat.le_of_ble_eq_true rfl), (Nat.le_of_ble_eq_true rfl)⟩) (fun r_13 hw => ?_)
            exact W.iret (v := r_13) hx hb hr (fun t ht hW => ⟨r_13, rfl, trivial, ht⟩) (fun _ h => absurd h List.not_mem_nil) dX0_pointsBy_74
          · skip
            refine lv_tableOut (tgt := 75) hx hb dX0_pointsBy_1 (by simp only [fa_lt, fa_le, fa_eq, and_true, true_and, and_false, false_and, not_true_eq_false, not_false_eq_true, li_0, li_1, li_2, li_3, li_4, li_5, li_6, li_7, li_8, li_9, li_10, li_12, li_15, li_16, li_20, li_30, li_34, li_38, li_40, li_63, li_64, li_65, li_78, li_120, li_1000, li_4000, li_10000, li_11077, li_255, li_65535, li_m1, li_m2, li_m1000000001, li_m1000000002, li_m1000000003, li_m1000000004, li_m1000000005, li_m1000000006, li_m1000000007, or_true, true_or, or_false, false_or, implies_true, true_implies, false_implies] at c_1 c_3 c_5 c_8 c_11 <;> omega) (by decide) ?_
            refine lv_iload_n hx hb dX0_pointsBy_75 rfl (lv_at hl 1 rfl) ?_
            exact W.iret (v := b) hx hb hr (fun t ht hW => ⟨b, rfl, trivial, ht⟩) (fun _ h => absurd h List.not_mem_nil) dX0_pointsBy_76

def w_l_isPlacing : List Cond := .code yX1_isPlacing cX1_isPlacing 3 (some .boolean) :: (([] : List Cond))
set_option maxHeartbeats 4000000 in
set_option maxRecDepth 100000 in
theorem l_isPlacing (l : Launch) (dC : Nat → ClassId) (dI : Nat → Nat → Nat) (ad : Nat → Nat) (a : Int32) : Met l yX1_isPlacing w_l_isPlacing ({ frames := 0, cells := 0, slots := 0, locals := 0 } : Room) (va_Pc [.int a] (preS dC dI ad [] [])) (vp_Si (fun r => True)) 0 0 (fun _ => False) := by
  refine Met.ofW (cc := cX1_isPlacing) (maxL := 3) (ret := (some .boolean)) (by decide) rfl ?_
  intro p e s m args below meth c s₁ B hml hv
  obtain ⟨rfl, hP, hK, hev⟩ := hv
  have hx := B.exec
  have hb := B.bytes
  have hr := B.returns
  have hts := atoms_spec (ws := w_l_isPlacing) B.pre
  have hown : s.vm.findClass RX1 = some m.cls := findClass_of_methodNamed B.named
  have hlocks := B.notSynchronized
  have hP : va_P (dC, dI) vwCl [] s.heap := hP
  have hl := lv_entry ([.int a]) (n := 3) (Nat.le_of_ble_eq_true rfl)
  rw [lg_entry_eq]
  generalize (lg_sl ([.int a]) ++ List.replicate (3 - (lg_sl ([.int a])).length) Slot.unset).toArray = ls at hl ⊢
  have hl : lv_has ls 3 [(0, .int a)] := hl
  refine lv_iload_n hx hb dX1_isPlacing_0 rfl (lv_at hl 0 rfl) ?_
  refine lv_sipush (v := 1000) hx hb dX1_isPlacing_1 (by decide) ?_
  refine lv_idiv hx hb dX1_isPlacing_4 (by decide) ?_
  refine lv_topi (fun n_1 en_1 => ?_)
  clear en_1
  refine lv_istore_n (lv' := [(1, .int n_1), (0, .int a)]) hx hb dX1_isPlacing_5 rfl hl (by decide) rfl (fun ls hl => ?_)
  refine lv_iload_n hx hb dX1_isPlacing_6 rfl (lv_at hl 1 rfl) ?_
  refine lv_sipush (v := 1000) hx hb dX1_isPlacing_7 (by decide) ?_
  refine lv_irem hx hb dX1_isPlacing_10 (by decide) ?_
  refine lv_topi (fun n_2 en_2 => ?_)
  clear en_2
  refine lv_istore_n (lv' := [(2, .int n_2), (1, .int n_1), (0, .int a)]) hx hb dX1_isPlacing_11 rfl hl (by decide) rfl (fun ls hl => ?_)
  refine lv_iload_n hx hb dX1_isPlacing_12 rfl (lv_at hl 1 rfl) ?_
  refine lv_iconst (v := 4) hx hb dX1_isPlacing_13 (by decide) ?_
  refine lv_icmp_lt (tgt := 45) hx hb dX1_isPlacing_14 (by decide) (fun c_3 => ?_) (fun c_3 => ?_)
  · skip
    have tc_3 : n_1.toInt < 4 := (fa_lt _ _).mp c_3
    refine lv_iconst (v := 0) hx hb dX1_isPlacing_45 (by decide) ?_
    exact W.zret (v := (0 : Int32)) hx hb hr (by decide) (fun t ht hW => ⟨(0 : Int32), rfl, trivial, ht⟩) (fun _ h => absurd h List.not_mem_nil) dX1_isPlacing_46
  · skip
    have tc_3 : ¬ n_1.toInt < 4 := fun h => c_3 ((fa_lt _ _).mpr h)
    refine lv_iload_n hx hb dX1_isPlacing_17 rfl (lv_at hl 1 rfl) ?_
    refine lv_bipush (v := 11) hx hb dX1_isPlacing_18 (by decide) ?_
    refine lv_icmp_gt (tgt := 45) hx hb dX1_isPlacing_20 (by decide) (fun c_4 => ?_) (fun c_4 => ?_)
    · skip
      have tc_4 : 11 < n_1.toInt := (fa_lt _ _).mp c_4
      refine lv_iconst (v := 0) hx hb dX1_isPlacing_45 (by decide) ?_
      exact W.zret (v := (0 : Int32)) hx hb hr (by decide) (fun t ht hW => ⟨(0 : Int32), rfl, trivial, ht⟩) (fun _ h => absurd h List.not_mem_nil) dX1_isPlacing_46
    · skip
      have tc_4 : ¬ 11 < n_1.toInt := fun h => c_4 ((fa_lt _ _).mpr h)
      refine lv_iload_n hx hb dX1_isPlacing_23 rfl (lv_at hl 0 rfl) ?_
      refine lv_bipush (v := 10) hx hb dX1_isPlacing_24 (by decide) ?_
      refine lv_idiv hx hb dX1_isPlacing_26 (by decide) ?_
      refine lv_topi (fun n_5 en_5 => ?_)
      clear en_5
      refine lv_bipush (v := 8) hx hb dX1_isPlacing_27 (by decide) ?_
      refine lv_icmp_ge (tgt := 45) hx hb dX1_isPlacing_29 (by decide) (fun c_6 => ?_) (fun c_6 => ?_)
      · skip
        have tc_6 : 8 ≤ n_5.toInt := (fa_le _ _).mp c_6
        refine lv_iconst (v := 0) hx hb dX1_isPlacing_45 (by decide) ?_
        exact W.zret (v := (0 : Int32)) hx hb hr (by decide) (fun t ht hW => ⟨(0 : Int32), rfl, trivial, ht⟩) (fun _ h => absurd h List.not_mem_nil) dX1_isPlacing_46
      · skip
        have tc_6 : ¬ 8 ≤ n_5.toInt := fun h => c_6 ((fa_le _ _).mpr h)
        refine lv_iload_n hx hb dX1_isPlacing_32 rfl (lv_at hl 0 rfl) ?_
        refine lv_bipush (v := 10) hx hb dX1_isPlacing_33 (by decide) ?_
        refine lv_irem hx hb dX1_isPlacing_35 (by decide) ?_
        refine lv_topi (fun n_7 en_7 => ?_)
        clear en_7
        refine lv_bipush (v := 8) hx hb dX1_isPlacing_36 (by decide) ?_
        refine lv_icmp_ge (tgt := 45) hx hb dX1_isPlacing_38 (by decide) (fun c_8 => ?_) (fun c_8 => ?_)
        · skip
          have tc_8 : 8 ≤ n_7.toInt := (fa_le _ _).mp c_8
          refine lv_iconst (v := 0) hx hb dX1_isPlacing_45 (by decide) ?_
          exact W.zret (v := (0 : Int32)) hx hb hr (by decide) (fun t ht hW => ⟨(0 : Int32), rfl, trivial, ht⟩) (fun _ h => absurd h List.not_mem_nil) dX1_isPlacing_46
        · skip
          have tc_8 : ¬ 8 ≤ n_7.toInt := fun h => c_8 ((fa_le _ _).mpr h)
          refine lv_iconst (v := 1) hx hb dX1_isPlacing_41 (by decide) ?_
          refine lv_goto (tgt := 46) hx hb dX1_isPlacing_42 (by decide) ?_
          exact W.zret (v := (1 : Int32)) hx hb hr (by decide) (fun t ht hW => ⟨(1 : Int32), rfl, trivial, ht⟩) (fun _ h => absurd h List.not_mem_nil) dX1_isPlacing_46

def w_l_placingAt : List Cond := .code yX1_placingAt cX1_placingAt 3 (some .int) :: (([] : List Cond))
set_option maxHeartbeats 4000000 in
set_option maxRecDepth 100000 in
theorem l_placingAt (l : Launch) (dC : Nat → ClassId) (dI : Nat → Nat → Nat) (ad : Nat → Nat) (a : Int32) (b : Int32) (d : Int32) : Met l yX1_placingAt w_l_placingAt ({ frames := 0, cells := 0, slots := 0, locals := 0 } : Room) (va_Pc [.int a, .int b, .int d] (preS dC dI ad [] [])) (vp_Si (fun r => True)) 0 0 (fun _ => False) := by
  refine Met.ofW (cc := cX1_placingAt) (maxL := 3) (ret := (some .int)) (by decide) rfl ?_
  intro p e s m args below meth c s₁ B hml hv
  obtain ⟨rfl, hP, hK, hev⟩ := hv
  have hx := B.exec
  have hb := B.bytes
  have hr := B.returns
  have hts := atoms_spec (ws := w_l_placingAt) B.pre
  have hown : s.vm.findClass RX1 = some m.cls := findClass_of_methodNamed B.named
  have hlocks := B.notSynchronized
  have hP : va_P (dC, dI) vwCl [] s.heap := hP
  have hl := lv_entry ([.int a, .int b, .int d]) (n := 3) (Nat.le_of_ble_eq_true rfl)
  rw [lg_entry_eq]
  generalize (lg_sl ([.int a, .int b, .int d]) ++ List.replicate (3 - (lg_sl ([.int a, .int b, .int d])).length) Slot.unset).toArray = ls at hl ⊢
  have hl : lv_has ls 3 [(0, .int a), (1, .int b), (2, .int d)] := hl
  refine lv_sipush (v := 1000) hx hb dX1_placingAt_0 (by decide) ?_
  refine lv_iload_n hx hb dX1_placingAt_3 rfl (lv_at hl 0 rfl) ?_
  refine lv_imul hx hb dX1_placingAt_4 ?_
  refine lv_topi (fun n_1 en_1 => ?_)
  clear en_1
  refine lv_bipush (v := 10) hx hb dX1_placingAt_5 (by decide) ?_
  refine lv_iload_n hx hb dX1_placingAt_7 rfl (lv_at hl 1 rfl) ?_
  refine lv_imul hx hb dX1_placingAt_8 ?_
  refine lv_topi (fun n_2 en_2 => ?_)
  clear en_2
  refine lv_iadd hx hb dX1_placingAt_9 ?_
  refine lv_topi (fun n_3 en_3 => ?_)
  clear en_3
  refine lv_iload_n hx hb dX1_placingAt_10 rfl (lv_at hl 2 rfl) ?_
  refine lv_iadd hx hb dX1_placingAt_11 ?_
  refine lv_topi (fun n_4 en_4 => ?_)
  clear en_4
  exact W.iret (v := n_4) hx hb hr (fun t ht hW => ⟨n_4, rfl, trivial, ht⟩) (fun _ h => absurd h List.not_mem_nil) dX1_placingAt_12

def w_l_cellsAtCorner : List Cond := .code yX1_cellsAtCorner cX1_cellsAtCorner 8 (some .long) :: (([.constantLong RX1 9 (771)] : List Cond))
set_option maxHeartbeats 4000000 in
set_option maxRecDepth 100000 in
theorem l_cellsAtCorner (l : Launch) (dC : Nat → ClassId) (dI : Nat → Nat → Nat) (ad : Nat → Nat) (a : Int32) (b : Int32) : Met l yX1_cellsAtCorner w_l_cellsAtCorner ({ frames := 0, cells := 0, slots := 0, locals := 0 } : Room) (va_Pc [.int a, .int b] (preS dC dI ad [] [])) (vp_Sl (fun r => True)) 0 0 (fun _ => False) := by
  refine Met.ofW (cc := cX1_cellsAtCorner) (maxL := 8) (ret := (some .long)) (by decide) rfl ?_
  intro p e s m args below meth c s₁ B hml hv
  obtain ⟨rfl, hP, hK, hev⟩ := hv
  have hx := B.exec
  have hb := B.bytes
  have hr := B.returns
  have hts := atoms_spec (ws := w_l_cellsAtCorner) B.pre
  have hown : s.vm.findClass RX1 = some m.cls := findClass_of_methodNamed B.named
  have hlocks := B.notSynchronized
  have hP : va_P (dC, dI) vwCl [] s.heap := hP
  have hl := lv_entry ([.int a, .int b]) (n := 8) (Nat.le_of_ble_eq_true rfl)
  rw [lg_entry_eq]
  generalize (lg_sl ([.int a, .int b]) ++ List.replicate (8 - (lg_sl ([.int a, .int b])).length) Slot.unset).toArray = ls at hl ⊢
  have hl : lv_has ls 8 [(0, .int a), (1, .int b)] := hl
  refine lv_lconst (v := 0) hx hb dX1_cellsAtCorner_0 (by decide) ?_
  refine lv_lstore_n (lv' := [(2, .long 0), (0, .int a), (1, .int b)]) hx hb dX1_cellsAtCorner_1 rfl hl (by decide) rfl (fun ls hl => ?_)
  refine lv_iload_n hx hb dX1_cellsAtCorner_2 rfl (lv_at hl 2 rfl) ?_
  refine lv_iconst (v := 1) hx hb dX1_cellsAtCorner_3 (by decide) ?_
  refine lv_icmp_ne (tgt := 11) hx hb dX1_cellsAtCorner_4 (by decide) (fun c_1 => ?_) (fun c_1 => ?_)
  · skip
    have tc_1 : ¬ b.toInt = 1 := fun h => c_1 ((fa_eq _ _).mpr h)
    refine lv_ldc2 hx hb hown (hts _ (List.mem_of_getElem? (i := 1) rfl)) dX1_cellsAtCorner_11 ?_
    refine lv_lstore (lv' := [(4, .long 771), (2, .long 0), (0, .int a), (1, .int b)]) hx hb dX1_cellsAtCorner_14 hl (by decide) rfl (fun ls hl => ?_)
    refine lv_iconst (v := 0) hx hb dX1_cellsAtCorner_16 (by decide) ?_
    refine lv_istore (lv' := [(6, .int 0), (4, .long 771), (2, .long 0), (0, .int a), (1, .int b)]) hx hb dX1_cellsAtCorner_17 hl (by decide) rfl (fun ls hl => ?_)
    refine pp_loop (ι := Int32 × Int64) (fun ⟨v6_19, v2_19⟩ => (4 - v6_19.toInt).toNat) (fun ⟨v6_19, v2_19⟩ H locs ls => (0 ≤ v6_19.toInt) ∧ (v6_19.toInt ≤ 4) ∧ H = s.heap ∧ locs = [] ∧ lv_has ls 8 [(6, .int v6_19), (4, .long 771), (2, .long v2_19), (0, .int a), (1, .int b)]) ?_ (0, 0) _ _ _ ⟨(by first | omega | decide | (simp only [fa_lt, fa_le, fa_eq, and_true, true_and, and_false, false_and, not_true_eq_false, not_false_eq_true, li_0, li_1, li_2, li_3, li_4, li_5, li_6, li_7, li_8, li_9, li_10, li_12, li_15, li_16, li_20, li_30, li_34, li_38, li_40, li_63, li_64, li_65, li_78, li_120, li_1000, li_4000, li_10000, li_11077, li_255, li_65535, li_m1, li_m2, li_m1000000001, li_m1000000002, li_m1000000003, li_m1000000004, li_m1000000005, li_m1000000006, li_m1000000007, or_true, true_or, or_false, false_or, implies_true, true_implies, false_implies] <;> omega)), (by first | omega | decide | (simp only [fa_lt, fa_le, fa_eq, and_true, true_and, and_false, false_and, not_true_eq_false, not_false_eq_true, li_0, li_1, li_2, li_3, li_4, li_5, li_6, li_7, li_8, li_9, li_10, li_12, li_15, li_16, li_20, li_30, li_34, li_38, li_40, li_63, li_64, li_65, li_78, li_120, li_1000, li_4000, li_10000, li_11077, li_255, li_65535, li_m1, li_m2, li_m1000000001, li_m1000000002, li_m1000000003, li_m1000000004, li_m1000000005, li_m1000000006, li_m1000000007, or_true, true_or, or_false, false_or, implies_true, true_implies, false_implies] <;> omega)), rfl, rfl, lv_sub hl [0, 1, 2, 3, 4] rfl⟩
    intro k_2 ihk_2 u H locs ls hm hI
    obtain ⟨v6_19, v2_19⟩ := u
    obtain ⟨jk_2_0, jk_2_1, rfl, rfl, hl⟩ := hI
    have hmk_2 : (4 - v6_19.toInt).toNat < k_2 + 1 := hm
    clear hm
    have jk_2_0 : 0 ≤ v6_19.toInt := jk_2_0
    have jk_2_1 : v6_19.toInt ≤ 4 := jk_2_1
    have hl : lv_has ls 8 [(6, .int v6_19), (4, .long 771), (2, .long v2_19), (0, .int a), (1, .int b)] := hl
    refine lv_iload hx hb dX1_cellsAtCorner_19 (lv_at hl 0 rfl) ?_
    refine lv_iconst (v := 4) hx hb dX1_cellsAtCorner_21 (by decide) ?_
    refine lv_icmp_ge (tgt := 77) hx hb dX1_cellsAtCorner_22 (by decide) (fun c_3 => ?_) (fun c_3 => ?_)
    · skip
      have tc_3 : 4 ≤ v6_19.toInt := (fa_le _ _).mp c_3
      refine lv_lload_n hx hb dX1_cellsAtCorner_77 rfl (lv_at hl 2 rfl) ?_
      exact W.lret (v := v2_19) hx hb hr (fun t ht hW => ⟨v2_19, rfl, trivial, ht⟩) (fun _ h => absurd h List.not_mem_nil) dX1_cellsAtCorner_78
    · skip
      have tc_3 : ¬ 4 ≤ v6_19.toInt := fun h => c_3 ((fa_le _ _).mpr h)
      refine lv_iconst (v := 0) hx hb dX1_cellsAtCorner_25 (by decide) ?_
      refine lv_istore (lv' := [(7, .int 0), (6, .int v6_19), (4, .long 771), (2, .long v2_19), (0, .int a), (1, .int b)]) hx hb dX1_cellsAtCorner_26 hl (by decide) rfl (fun ls hl => ?_)
      refine pp_loop (ι := Int32 × Int64) (fun ⟨v7_28, v2_28⟩ => (4 - v7_28.toInt).toNat) (fun ⟨v7_28, v2_28⟩ H locs ls => (0 ≤ v7_28.toInt) ∧ (v7_28.toInt ≤ 4) ∧ H = s.heap ∧ locs = [] ∧ lv_has ls 8 [(7, .int v7_28), (6, .int v6_19), (4, .long 771), (2, .long v2_28), (0, .int a), (1, .int b)]) ?_ (0, v2_19) _ _ _ ⟨(by first | omega | decide | (simp only [fa_lt, fa_le, fa_eq, and_true, true_and, and_false, false_and, not_true_eq_false, not_false_eq_true, li_0, li_1, li_2, li_3, li_4, li_5, li_6, li_7, li_8, li_9, li_10, li_12, li_15, li_16, li_20, li_30, li_34, li_38, li_40, li_63, li_64, li_65, li_78, li_120, li_1000, li_4000, li_10000, li_11077, li_255, li_65535, li_m1, li_m2, li_m1000000001, li_m1000000002, li_m1000000003, li_m1000000004, li_m1000000005, li_m1000000006, li_m1000000007, or_true, true_or, or_false, false_or, implies_true, true_implies, false_implies] <;> omega)), (by first | omega | decide | (simp only [fa_lt, fa_le, fa_eq, and_true, true_and, and_false, false_and, not_true_eq_false, not_false_eq_true, li_0, li_1, li_2, li_3, li_4, li_5, li_6, li_7, li_8, li_9, li_10, li_12, li_15, li_16, li_20, li_30, li_34, li_38, li_40, li_63, li_64, li_65, li_78, li_120, li_1000, li_4000, li_10000, li_11077, li_255, li_65535, li_m1, li_m2, li_m1000000001, li_m1000000002, li_m1000000003, li_m1000000004, li_m1000000005, li_m1000000006, li_m1000000007, or_true, true_or, or_false, false_or, implies_true, true_implies, false_implies] <;> omega)), rfl, rfl, lv_sub hl [0, 1, 2, 3, 4, 5] rfl⟩
      intro k_4 ihk_4 u H locs ls hm hI
      obtain ⟨v7_28, v2_28⟩ := u
      obtain ⟨jk_4_0, jk_4_1, rfl, rfl, hl⟩ := hI
      have hmk_4 : (4 - v7_28.toInt).toNat < k_4 + 1 := hm
      clear hm
      have jk_4_0 : 0 ≤ v7_28.toInt := jk_4_0
      have jk_4_1 : v7_28.toInt ≤ 4 := jk_4_1
      have hl : lv_has ls 8 [(7, .int v7_28), (6, .int v6_19), (4, .long 771), (2, .long v2_28), (0, .int a), (1, .int b)] := hl
      refine lv_iload hx hb dX1_cellsAtCorner_28 (lv_at hl 0 rfl) ?_
      refine lv_iconst (v := 4) hx hb dX1_cellsAtCorner_30 (by decide) ?_
      refine lv_icmp_ge (tgt := 71) hx hb dX1_cellsAtCorner_31 (by decide) (fun c_5 => ?_) (fun c_5 => ?_)
      · skip
        have tc_5 : 4 ≤ v7_28.toInt := (fa_le _ _).mp c_5
        obtain ⟨n_6, en_6⟩ : ∃ y : Int32, y = v6_19 + 1 := ⟨_, rfl⟩
        have tn_6 : n_6.toInt = v6_19.toInt + 1 := pp_add en_6 rfl rfl (by omega) (by omega)
        refine lv_iinc (v := n_6) (lv' := [(6, .int n_6), (7, .int v7_28), (4, .long 771), (2, .long v2_28), (0, .int a), (1, .int b)]) hx hb dX1_cellsAtCorner_71 hl (k := 1) rfl (by rw [en_6]; rfl) (by decide) rfl (fun ls hl => ?_)
        clear en_6
        refine lv_goto (tgt := 19) hx hb dX1_cellsAtCorner_74 (by decide) ?_
        exact ihk_2 (n_6, v2_28) _ _ _ (by show (4 - n_6.toInt).toNat < k_2; omega) ⟨(by first | omega | decide | (simp only [fa_lt, fa_le, fa_eq, and_true, true_and, and_false, false_and, not_true_eq_false, not_false_eq_true, li_0, li_1, li_2, li_3, li_4, li_5, li_6, li_7, li_8, li_9, li_10, li_12, li_15, li_16, li_20, li_30, li_34, li_38, li_40, li_63, li_64, li_65, li_78, li_120, li_1000, li_4000, li_10000, li_11077, li_255, li_65535, li_m1, li_m2, li_m1000000001, li_m1000000002, li_m1000000003, li_m1000000004, li_m1000000005, li_m1000000006, li_m1000000007, or_true, true_or, or_false, false_or, implies_true, true_implies, false_implies] <;> omega)), (by first | omega | decide | (simp only [fa_lt, fa_le, fa_eq, and_true, true_and, and_false, false_and, not_true_eq_false, not_false_eq_true, li_0, li_1, li_2, li_3, li_4, li_5, li_6, li_7, li_8, li_9, li_10, li_12, li_15, li_16, li_20, li_30, li_34, li_38, li_40, li_63, li_64, li_65, li_78, li_120, li_1000, li_4000, li_10000, li_11077, li_255, li_65535, li_m1, li_m2, li_m1000000001, li_m1000000002, li_m1000000003, li_m1000000004, li_m1000000005, li_m1000000006, li_m1000000007, or_true, true_or, or_false, false_or, implies_true, true_implies, false_implies] <;> omega)), rfl, rfl, lv_sub hl [0, 2, 3, 4, 5] rfl⟩
      · skip
        have tc_5 : ¬ 4 ≤ v7_28.toInt := fun h => c_5 ((fa_le _ _).mpr h)
        refine lv_iload_n hx hb dX1_cellsAtCorner_34 rfl (lv_at hl 4 rfl) ?_
        refine lv_iconst (v := 4) hx hb dX1_cellsAtCorner_35 (by decide) ?_
        refine lv_iload hx hb dX1_cellsAtCorner_36 (lv_at hl 1 rfl) ?_
        refine lv_imul hx hb dX1_cellsAtCorner_38 ?_
        refine lv_topi (fun n_7 en_7 => ?_)
        have tn_7 : n_7.toInt = 4 * v6_19.toInt := pp_mul en_7 rfl rfl (by omega) (by omega)
        clear en_7
        refine lv_iload hx hb dX1_cellsAtCorner_39 (lv_at hl 0 rfl) ?_
        refine lv_iadd hx hb dX1_cellsAtCorner_41 ?_
        refine lv_topi (fun n_8 en_8 => ?_)
        have tn_8 : n_8.toInt = n_7.toInt + v7_28.toInt := pp_add en_8 rfl rfl (by omega) (by omega)
        clear en_8
        refine lv_ishr hx hb dX1_cellsAtCorner_42 ?_
        refine lv_topi (fun n_9 en_9 => ?_)
        clear en_9
        refine lv_iconst (v := 1) hx hb dX1_cellsAtCorner_43 (by decide) ?_
        refine lv_iand hx hb dX1_cellsAtCorner_44 ?_
        refine lv_topi (fun n_10 en_10 => ?_)
        clear en_10
        refine lv_iconst (v := 1) hx hb dX1_cellsAtCorner_45 (by decide) ?_
        refine lv_icmp_ne (tgt := 65) hx hb dX1_cellsAtCorner_46 (by decide) (fun c_11 => ?_) (fun c_11 => ?_)
        · skip
          have tc_11 : ¬ n_10.toInt = 1 := fun h => c_11 ((fa_eq _ _).mpr h)
          obtain ⟨n_12, en_12⟩ : ∃ y : Int32, y = v7_28 + 1 := ⟨_, rfl⟩
          have tn_12 : n_12.toInt = v7_28.toInt + 1 := pp_add en_12 rfl rfl (by omega) (by omega)
          refine lv_iinc (v := n_12) (lv' := [(7, .int n_12), (6, .int v6_19), (4, .long 771), (2, .long v2_28), (0, .int a), (1, .int b)]) hx hb dX1_cellsAtCorner_65 hl (k := 0) rfl (by rw [en_12]; rfl) (by decide) rfl (fun ls hl => ?_)
          clear en_12
          refine lv_goto (tgt := 28) hx hb dX1_cellsAtCorner_68 (by decide) ?_
          exact ihk_4 (n_12, v2_28) _ _ _ (by show (4 - n_12.toInt).toNat < k_4; omega) ⟨(by first | omega | decide | (simp only [fa_lt, fa_le, fa_eq, and_true, true_and, and_false, false_and, not_true_eq_false, not_false_eq_true, li_0, li_1, li_2, li_3, li_4, li_5, li_6, li_7, li_8, li_9, li_10, li_12, li_15, li_16, li_20, li_30, li_34, li_38, li_40, li_63, li_64, li_65, li_78, li_120, li_1000, li_4000, li_10000, li_11077, li_255, li_65535, li_m1, li_m2, li_m1000000001, li_m1000000002, li_m1000000003, li_m1000000004, li_m1000000005, li_m1000000006, li_m1000000007, or_true, true_or, or_false, false_or, implies_true, true_implies, false_implies] <;> omega)), (by first | omega | decide | (simp only [fa_lt, fa_le, fa_eq, and_true, true_and, and_false, false_and, not_true_eq_false, not_false_eq_true, li_0, li_1, li_2, li_3, li_4, li_5, li_6, li_7, li_8, li_9, li_10, li_12, li_15, li_16, li_20, li_30, li_34, li_38, li_40, li_63, li_64, li_65, li_78, li_120, li_1000, li_4000, li_10000, li_11077, li_255, li_65535, li_m1, li_m2, li_m1000000001, li_m1000000002, li_m1000000003, li_m1000000004, li_m1000000005, li_m1000000006, li_m1000000007, or_true, true_or, or_false, false_or, implies_true, true_implies, false_implies] <;> omega)), rfl, rfl, lv_sub hl [0, 1, 2, 3, 4, 5] rfl⟩
        · skip
          have tc_11 : n_10.toInt = 1 := (fa_eq _ _).mp c_11
          refine lv_lload_n hx hb dX1_cellsAtCorner_49 rfl (lv_at hl 3 rfl) ?_
          refine lv_lload hx hb dX1_cellsAtCorner_50 (lv_at hl 2 rfl) ?_
          refine lv_iload_n hx hb dX1_cellsAtCorner_52 rfl (lv_at hl 5 rfl) ?_
          refine lv_bipush (v := 8) hx hb dX1_cellsAtCorner_53 (by decide) ?_
          refine lv_iload hx hb dX1_cellsAtCorner_55 (lv_at hl 1 rfl) ?_
          refine lv_imul hx hb dX1_cellsAtCorner_57 ?_
          refine lv_topi (fun n_13 en_13 => ?_)
          have tn_13 : n_13.toInt = 8 * v6_19.toInt := pp_mul en_13 rfl rfl (by omega) (by omega)
          clear en_13
          refine lv_iload hx hb dX1_cellsAtCorner_58 (lv_at hl 0 rfl) ?_
          refine lv_iadd hx hb dX1_cellsAtCorner_60 ?_
          refine lv_topi (fun n_14 en_14 => ?_)
          have tn_14 : n_14.toInt = n_13.toInt + v7_28.toInt := pp_add en_14 rfl rfl (by omega) (by omega)
          clear en_14
          refine lv_imul hx hb dX1_cellsAtCorner_61 ?_
          refine lv_topi (fun n_15 en_15 => ?_)
          clear en_15
          obtain ⟨n_16, en_16⟩ : ∃ z : Int64, z = (771 : Int64) <<< (n_15.toInt64 &&& 63) := ⟨_, rfl⟩
          refine lv_lshl (v := n_16) hx hb dX1_cellsAtCorner_62 en_16.symm ?_
          clear en_16
          refine lv_lor hx hb dX1_cellsAtCorner_63 ?_
          refine lv_topl (fun n_17 en_17 => ?_)
          clear en_17
          refine lv_lstore_n (lv' := [(2, .long n_17), (7, .int v7_28), (6, .int v6_19), (4, .long 771), (0, .int a), (1, .int b)]) hx hb dX1_cellsAtCorner_64 rfl hl (by decide) rfl (fun ls hl => ?_)
          obtain ⟨n_18, en_18⟩ : ∃ y : Int32, y = v7_28 + 1 := ⟨_, rfl⟩
          have tn_18 : n_18.toInt = v7_28.toInt + 1 := pp_add en_18 rfl rfl (by omega) (by omega)
          refine lv_iinc (v := n_18) (lv' := [(7, .int n_18), (2, .long n_17), (6, .int v6_19), (4, .long 771), (0, .int a), (1, .int b)]) hx hb dX1_cellsAtCorner_65 hl (k := 1) rfl (by rw [en_18]; rfl) (by decide) rfl (fun ls hl => ?_)
          clear en_18
          refine lv_goto (tgt := 28) hx hb dX1_cellsAtCorner_68 (by decide) ?_
          exact ihk_4 (n_18, n_17) _ _ _ (by show (4 - n_18.toInt).toNat < k_4; omega) ⟨(by first | omega | decide | (simp only [fa_lt, fa_le, fa_eq, and_true, true_and, and_false, false_and, not_true_eq_false, not_false_eq_true, li_0, li_1, li_2, li_3, li_4, li_5, li_6, li_7, li_8, li_9, li_10, li_12, li_15, li_16, li_20, li_30, li_34, li_38, li_40, li_63, li_64, li_65, li_78, li_120, li_1000, li_4000, li_10000, li_11077, li_255, li_65535, li_m1, li_m2, li_m1000000001, li_m1000000002, li_m1000000003, li_m1000000004, li_m1000000005, li_m1000000006, li_m1000000007, or_true, true_or, or_false, false_or, implies_true, true_implies, false_implies] <;> omega)), (by first | omega | decide | (simp only [fa_lt, fa_le, fa_eq, and_true, true_and, and_false, false_and, not_true_eq_false, not_false_eq_true, li_0, li_1, li_2, li_3, li_4, li_5, li_6, li_7, li_8, li_9, li_10, li_12, li_15, li_16, li_20, li_30, li_34, li_38, li_40, li_63, li_64, li_65, li_78, li_120, li_1000, li_4000, li_10000, li_11077, li_255, li_65535, li_m1, li_m2, li_m1000000001, li_m1000000002, li_m1000000003, li_m1000000004, li_m1000000005, li_m1000000006, li_m1000000007, or_true, true_or, or_false, false_or, implies_true, true_implies, false_implies] <;> omega)), rfl, rfl, lv_sub hl [0, 2, 3, 1, 4, 5] rfl⟩
  · skip
    have tc_1 : b.toInt = 1 := (fa_eq _ _).mp c_1
    refine lv_lconst (v := 1) hx hb dX1_cellsAtCorner_7 (by decide) ?_
    refine lv_goto (tgt := 14) hx hb dX1_cellsAtCorner_8 (by decide) ?_
    refine lv_lstore (lv' := [(4, .long 1), (2, .long 0), (0, .int a), (1, .int b)]) hx hb dX1_cellsAtCorner_14 hl (by decide) rfl (fun ls hl => ?_)
    refine lv_iconst (v := 0) hx hb dX1_cellsAtCorner_16 (by decide) ?_
    refine lv_istore (lv' := [(6, .int 0), (4, .long 1), (2, .long 0), (0, .int a), (1, .int b)]) hx hb dX1_cellsAtCorner_17 hl (by decide) rfl (fun ls hl => ?_)
    refine pp_loop (ι := Int32 × Int64) (fun ⟨v6_19, v2_19⟩ => (4 - v6_19.toInt).toNat) (fun ⟨v6_19, v2_19⟩ H locs ls => (0 ≤ v6_19.toInt) ∧ (v6_19.toInt ≤ 4) ∧ H = s.heap ∧ locs = [] ∧ lv_has ls 8 [(6, .int v6_19), (4, .long 1), (2, .long v2_19), (0, .int a), (1, .int b)]) ?_ (0, 0) _ _ _ ⟨(by first | omega | decide | (simp only [fa_lt, fa_le, fa_eq, and_true, true_and, and_false, false_and, not_true_eq_false, not_false_eq_true, li_0, li_1, li_2, li_3, li_4, li_5, li_6, li_7, li_8, li_9, li_10, li_12, li_15, li_16, li_20, li_30, li_34, li_38, li_40, li_63, li_64, li_65, li_78, li_120, li_1000, li_4000, li_10000, li_11077, li_255, li_65535, li_m1, li_m2, li_m1000000001, li_m1000000002, li_m1000000003, li_m1000000004, li_m1000000005, li_m1000000006, li_m1000000007, or_true, true_or, or_false, false_or, implies_true, true_implies, false_implies] <;> omega)), (by first | omega | decide | (simp only [fa_lt, fa_le, fa_eq, and_true, true_and, and_false, false_and, not_true_eq_false, not_false_eq_true, li_0, li_1, li_2, li_3, li_4, li_5, li_6, li_7, li_8, li_9, li_10, li_12, li_15, li_16, li_20, li_30, li_34, li_38, li_40, li_63, li_64, li_65, li_78, li_120, li_1000, li_4000, li_10000, li_11077, li_255, li_65535, li_m1, li_m2, li_m1000000001, li_m1000000002, li_m1000000003, li_m1000000004, li_m1000000005, li_m1000000006, li_m1000000007, or_true, true_or, or_false, false_or, implies_true, true_implies, false_implies] <;> omega)), rfl, rfl, lv_sub hl [0, 1, 2, 3, 4] rfl⟩
    intro k_19 ihk_19 u H locs ls hm hI
    obtain ⟨v6_19, v2_19⟩ := u
    obtain ⟨jk_19_0, jk_19_1, rfl, rfl, hl⟩ := hI
    have hmk_19 : (4 - v6_19.toInt).toNat < k_19 + 1 := hm
    clear hm
    have jk_19_0 : 0 ≤ v6_19.toInt := jk_19_0
    have jk_19_1 : v6_19.toInt ≤ 4 := jk_19_1
    have hl : lv_has ls 8 [(6, .int v6_19), (4, .long 1), (2, .long v2_19), (0, .int a), (1, .int b)] := hl
    refine lv_iload hx hb dX1_cellsAtCorner_19 (lv_at hl 0 rfl) ?_
    refine lv_iconst (v := 4) hx hb dX1_cellsAtCorner_21 (by decide) ?_
    refine lv_icmp_ge (tgt := 77) hx hb dX1_cellsAtCorner_22 (by decide) (fun c_20 => ?_) (fun c_20 => ?_)
    · skip
      have tc_20 : 4 ≤ v6_19.toInt := (fa_le _ _).mp c_20
      refine lv_lload_n hx hb dX1_cellsAtCorner_77 rfl (lv_at hl 2 rfl) ?_
      exact W.lret (v := v2_19) hx hb hr (fun t ht hW => ⟨v2_19, rfl, trivial, ht⟩) (fun _ h => absurd h List.not_mem_nil) dX1_cellsAtCorner_78
    · skip
      have tc_20 : ¬ 4 ≤ v6_19.toInt := fun h => c_20 ((fa_le _ _).mpr h)
      refine lv_iconst (v := 0) hx hb dX1_cellsAtCorner_25 (by decide) ?_
      refine lv_istore (lv' := [(7, .int 0), (6, .int v6_19), (4, .long 1), (2, .long v2_19), (0, .int a), (1, .int b)]) hx hb dX1_cellsAtCorner_26 hl (by decide) rfl (fun ls hl => ?_)
      refine pp_loop (ι := Int32 × Int64) (fun ⟨v7_28, v2_28⟩ => (4 - v7_28.toInt).toNat) (fun ⟨v7_28, v2_28⟩ H locs ls => (0 ≤ v7_28.toInt) ∧ (v7_28.toInt ≤ 4) ∧ H = s.heap ∧ locs = [] ∧ lv_has ls 8 [(7, .int v7_28), (6, .int v6_19), (4, .long 1), (2, .long v2_28), (0, .int a), (1, .int b)]) ?_ (0, v2_19) _ _ _ ⟨(by first | omega | decide | (simp only [fa_lt, fa_le, fa_eq, and_true, true_and, and_false, false_and, not_true_eq_false, not_false_eq_true, li_0, li_1, li_2, li_3, li_4, li_5, li_6, li_7, li_8, li_9, li_10, li_12, li_15, li_16, li_20, li_30, li_34, li_38, li_40, li_63, li_64, li_65, li_78, li_120, li_1000, li_4000, li_10000, li_11077, li_255, li_65535, li_m1, li_m2, li_m1000000001, li_m1000000002, li_m1000000003, li_m1000000004, li_m1000000005, li_m1000000006, li_m1000000007, or_true, true_or, or_false, false_or, implies_true, true_implies, false_implies] <;> omega)), (by first | omega | decide | (simp only [fa_lt, fa_le, fa_eq, and_true, true_and, and_false, false_and, not_true_eq_false, not_false_eq_true, li_0, li_1, li_2, li_3, li_4, li_5, li_6, li_7, li_8, li_9, li_10, li_12, li_15, li_16, li_20, li_30, li_34, li_38, li_40, li_63, li_64, li_65, li_78, li_120, li_1000, li_4000, li_10000, li_11077, li_255, li_65535, li_m1, li_m2, li_m1000000001, li_m1000000002, li_m1000000003, li_m1000000004, li_m1000000005, li_m1000000006, li_m1000000007, or_true, true_or, or_false, false_or, implies_true, true_implies, false_implies] <;> omega)), rfl, rfl, lv_sub hl [0, 1, 2, 3, 4, 5] rfl⟩
      intro k_21 ihk_21 u H locs ls hm hI
      obtain ⟨v7_28, v2_28⟩ := u
      obtain ⟨jk_21_0, jk_21_1, rfl, rfl, hl⟩ := hI
      have hmk_21 : (4 - v7_28.toInt).toNat < k_21 + 1 := hm
      clear hm
      have jk_21_0 : 0 ≤ v7_28.toInt := jk_21_0
      have jk_21_1 : v7_28.toInt ≤ 4 := jk_21_1
      have hl : lv_has ls 8 [(7, .int v7_28), (6, .int v6_19), (4, .long 1), (2, .long v2_28), (0, .int a), (1, .int b)] := hl
      refine lv_iload hx hb dX1_cellsAtCorner_28 (lv_at hl 0 rfl) ?_
      refine lv_iconst (v := 4) hx hb dX1_cellsAtCorner_30 (by decide) ?_
      refine lv_icmp_ge (tgt := 71) hx hb dX1_cellsAtCorner_31 (by decide) (fun c_22 => ?_) (fun c_22 => ?_)
      · skip
        have tc_22 : 4 ≤ v7_28.toInt := (fa_le _ _).mp c_22
        obtain ⟨n_23, en_23⟩ : ∃ y : Int32, y = v6_19 + 1 := ⟨_, rfl⟩
        have tn_23 : n_23.toInt = v6_19.toInt + 1 := pp_add en_23 rfl rfl (by omega) (by omega)
        refine lv_iinc (v := n_23) (lv' := [(6, .int n_23), (7, .int v7_28), (4, .long 1), (2, .long v2_28), (0, .int a), (1, .int b)]) hx hb dX1_cellsAtCorner_71 hl (k := 1) rfl (by rw [en_23]; rfl) (by decide) rfl (fun ls hl => ?_)
        clear en_23
        refine lv_goto (tgt := 19) hx hb dX1_cellsAtCorner_74 (by decide) ?_
        exact ihk_19 (n_23, v2_28) _ _ _ (by show (4 - n_23.toInt).toNat < k_19; omega) ⟨(by first | omega | decide | (simp only [fa_lt, fa_le, fa_eq, and_true, true_and, and_false, false_and, not_true_eq_false, not_false_eq_true, li_0, li_1, li_2, li_3, li_4, li_5, li_6, li_7, li_8, li_9, li_10, li_12, li_15, li_16, li_20, li_30, li_34, li_38, li_40, li_63, li_64, li_65, li_78, li_120, li_1000, li_4000, li_10000, li_11077, li_255, li_65535, li_m1, li_m2, li_m1000000001, li_m1000000002, li_m1000000003, li_m1000000004, li_m1000000005, li_m1000000006, li_m1000000007, or_true, true_or, or_false, false_or, implies_true, true_implies, false_implies] <;> omega)), (by first | omega | decide | (simp only [fa_lt, fa_le, fa_eq, and_true, true_and, and_false, false_and, not_true_eq_false, not_false_eq_true, li_0, li_1, li_2, li_3, li_4, li_5, li_6, li_7, li_8, li_9, li_10, li_12, li_15, li_16, li_20, li_30, li_34, li_38, li_40, li_63, li_64, li_65, li_78, li_120, li_1000, li_4000, li_10000, li_11077, li_255, li_65535, li_m1, li_m2, li_m1000000001, li_m1000000002, li_m1000000003, li_m1000000004, li_m1000000005, li_m1000000006, li_m1000000007, or_true, true_or, or_false, false_or, implies_true, true_implies, false_implies] <;> omega)), rfl, rfl, lv_sub hl [0, 2, 3, 4, 5] rfl⟩
      · skip
        have tc_22 : ¬ 4 ≤ v7_28.toInt := fun h => c_22 ((fa_le _ _).mpr h)
        refine lv_iload_n hx hb dX1_cellsAtCorner_34 rfl (lv_at hl 4 rfl) ?_
        refine lv_iconst (v := 4) hx hb dX1_cellsAtCorner_35 (by decide) ?_
        refine lv_iload hx hb dX1_cellsAtCorner_36 (lv_at hl 1 rfl) ?_
        refine lv_imul hx hb dX1_cellsAtCorner_38 ?_
        refine lv_topi (fun n_24 en_24 => ?_)
        have tn_24 : n_24.toInt = 4 * v6_19.toInt := pp_mul en_24 rfl rfl (by omega) (by omega)
        clear en_24
        refine lv_iload hx hb dX1_cellsAtCorner_39 (lv_at hl 0 rfl) ?_
        refine lv_iadd hx hb dX1_cellsAtCorner_41 ?_
        refine lv_topi (fun n_25 en_25 => ?_)
        have tn_25 : n_25.toInt = n_24.toInt + v7_28.toInt := pp_add en_25 rfl rfl (by omega) (by omega)
        clear en_25
        refine lv_ishr hx hb dX1_cellsAtCorner_42 ?_
        refine lv_topi (fun n_26 en_26 => ?_)
        clear en_26
        refine lv_iconst (v := 1) hx hb dX1_cellsAtCorner_43 (by decide) ?_
        refine lv_iand hx hb dX1_cellsAtCorner_44 ?_
        refine lv_topi (fun n_27 en_27 => ?_)
        clear en_27
        refine lv_iconst (v := 1) hx hb dX1_cellsAtCorner_45 (by decide) ?_
        refine lv_icmp_ne (tgt := 65) hx hb dX1_cellsAtCorner_46 (by decide) (fun c_28 => ?_) (fun c_28 => ?_)
        · skip
          have tc_28 : ¬ n_27.toInt = 1 := fun h => c_28 ((fa_eq _ _).mpr h)
          obtain ⟨n_29, en_29⟩ : ∃ y : Int32, y = v7_28 + 1 := ⟨_, rfl⟩
          have tn_29 : n_29.toInt = v7_28.toInt + 1 := pp_add en_29 rfl rfl (by omega) (by omega)
          refine lv_iinc (v := n_29) (lv' := [(7, .int n_29), (6, .int v6_19), (4, .long 1), (2, .long v2_28), (0, .int a), (1, .int b)]) hx hb dX1_cellsAtCorner_65 hl (k := 0) rfl (by rw [en_29]; rfl) (by decide) rfl (fun ls hl => ?_)
          clear en_29
          refine lv_goto (tgt := 28) hx hb dX1_cellsAtCorner_68 (by decide) ?_
          exact ihk_21 (n_29, v2_28) _ _ _ (by show (4 - n_29.toInt).toNat < k_21; omega) ⟨(by first | omega | decide | (simp only [fa_lt, fa_le, fa_eq, and_true, true_and, and_false, false_and, not_true_eq_false, not_false_eq_true, li_0, li_1, li_2, li_3, li_4, li_5, li_6, li_7, li_8, li_9, li_10, li_12, li_15, li_16, li_20, li_30, li_34, li_38, li_40, li_63, li_64, li_65, li_78, li_120, li_1000, li_4000, li_10000, li_11077, li_255, li_65535, li_m1, li_m2, li_m1000000001, li_m1000000002, li_m1000000003, li_m1000000004, li_m1000000005, li_m1000000006, li_m1000000007, or_true, true_or, or_false, false_or, implies_true, true_implies, false_implies] <;> omega)), (by first | omega | decide | (simp only [fa_lt, fa_le, fa_eq, and_true, true_and, and_false, false_and, not_true_eq_false, not_false_eq_true, li_0, li_1, li_2, li_3, li_4, li_5, li_6, li_7, li_8, li_9, li_10, li_12, li_15, li_16, li_20, li_30, li_34, li_38, li_40, li_63, li_64, li_65, li_78, li_120, li_1000, li_4000, li_10000, li_11077, li_255, li_65535, li_m1, li_m2, li_m1000000001, li_m1000000002, li_m1000000003, li_m1000000004, li_m1000000005, li_m1000000006, li_m1000000007, or_true, true_or, or_false, false_or, implies_true, true_implies, false_implies] <;> omega)), rfl, rfl, lv_sub hl [0, 1, 2, 3, 4, 5] rfl⟩
        · skip
          have tc_28 : n_27.toInt = 1 := (fa_eq _ _).mp c_28
          refine lv_lload_n hx hb dX1_cellsAtCorner_49 rfl (lv_at hl 3 rfl) ?_
          refine lv_lload hx hb dX1_cellsAtCorner_50 (lv_at hl 2 rfl) ?_
          refine lv_iload_n hx hb dX1_cellsAtCorner_52 rfl (lv_at hl 5 rfl) ?_
          refine lv_bipush (v := 8) hx hb dX1_cellsAtCorner_53 (by decide) ?_
          refine lv_iload hx hb dX1_cellsAtCorner_55 (lv_at hl 1 rfl) ?_
          refine lv_imul hx hb dX1_cellsAtCorner_57 ?_
          refine lv_topi (fun n_30 en_30 => ?_)
          have tn_30 : n_30.toInt = 8 * v6_19.toInt := pp_mul en_30 rfl rfl (by omega) (by omega)
          clear en_30
          refine lv_iload hx hb dX1_cellsAtCorner_58 (lv_at hl 0 rfl) ?_
          refine lv_iadd hx hb dX1_cellsAtCorner_60 ?_
          refine lv_topi (fun n_31 en_31 => ?_)
          have tn_31 : n_31.toInt = n_30.toInt + v7_28.toInt := pp_add en_31 rfl rfl (by omega) (by omega)
          clear en_31
          refine lv_imul hx hb dX1_cellsAtCorner_61 ?_
          refine lv_topi (fun n_32 en_32 => ?_)
          clear en_32
          obtain ⟨n_33, en_33⟩ : ∃ z : Int64, z = (1 : Int64) <<< (n_32.toInt64 &&& 63) := ⟨_, rfl⟩
          refine lv_lshl (v := n_33) hx hb dX1_cellsAtCorner_62 en_33.symm ?_
          clear en_33
          refine lv_lor hx hb dX1_cellsAtCorner_63 ?_
          refine lv_topl (fun n_34 en_34 => ?_)
          clear en_34
          refine lv_lstore_n (lv' := [(2, .long n_34), (7, .int v7_28), (6, .int v6_19), (4, .long 1), (0, .int a), (1, .int b)]) hx hb dX1_cellsAtCorner_64 rfl hl (by decide) rfl (fun ls hl => ?_)
          obtain ⟨n_35, en_35⟩ : ∃ y : Int32, y = v7_28 + 1 := ⟨_, rfl⟩
          have tn_35 : n_35.toInt = v7_28.toInt + 1 := pp_add en_35 rfl rfl (by omega) (by omega)
          refine lv_iinc (v := n_35) (lv' := [(7, .int n_35), (2, .long n_34), (6, .int v6_19), (4, .long 1), (0, .int a), (1, .int b)]) hx hb dX1_cellsAtCorner_65 hl (k := 1) rfl (by rw [en_35]; rfl) (by decide) rfl (fun ls hl => ?_)
          clear en_35
          refine lv_goto (tgt := 28) hx hb dX1_cellsAtCorner_68 (by decide) ?_
          exact ihk_21 (n_35, n_34) _ _ _ (by show (4 - n_35.toInt).toNat < k_21; omega) ⟨(by first | omega | decide | (simp only [fa_lt, fa_le, fa_eq, and_true, true_and, and_false, false_and, not_true_eq_false, not_false_eq_true, li_0, li_1, li_2, li_3, li_4, li_5, li_6, li_7, li_8, li_9, li_10, li_12, li_15, li_16, li_20, li_30, li_34, li_38, li_40, li_63, li_64, li_65, li_78, li_120, li_1000, li_4000, li_10000, li_11077, li_255, li_65535, li_m1, li_m2, li_m1000000001, li_m1000000002, li_m1000000003, li_m1000000004, li_m1000000005, li_m1000000006, li_m1000000007, or_true, true_or, or_false, false_or, implies_true, true_implies, false_implies] <;> omega)), (by first | omega | decide | (simp only [fa_lt, fa_le, fa_eq, and_true, true_and, and_false, false_and, not_true_eq_false, not_false_eq_true, li_0, li_1, li_2, li_3, li_4, li_5, li_6, li_7, li_8, li_9, li_10, li_12, li_15, li_16, li_20, li_30, li_34, li_38, li_40, li_63, li_64, li_65, li_78, li_120, li_1000, li_4000, li_10000, li_11077, li_255, li_65535, li_m1, li_m2, li_m1000000001, li_m1000000002, li_m1000000003, li_m1000000004, li_m1000000005, li_m1000000006, li_m1000000007, or_true, true_or, or_false, false_or, implies_true, true_implies, false_implies] <;> omega)), rfl, rfl, lv_sub hl [0, 2, 3, 1, 4, 5] rfl⟩

def w_l_moved : List Cond := .code yX1_moved cX1_moved 6 (some .long) :: (([.constantLong RX1 13 (72340172838076673)] : List Cond))
set_option maxHeartbeats 4000000 in
set_option maxRecDepth 100000 in
theorem l_moved (l : Launch) (dC : Nat → ClassId) (dI : Nat → Nat → Nat) (ad : Nat → Nat) (a : Int64) (b : Int32) (d : Int32) : Met l yX1_moved w_l_moved ({ frames := 0, cells := 0, slots := 0, locals := 0 } : Room) (va_Pc [.long a, .int b, .int d] (preS dC dI ad [] [])) (vp_Sl (fun r => True)) 0 0 (fun _ => False) := by
  refine Met.ofW (cc := cX1_moved) (maxL := 6) (ret := (some .long)) (by decide) rfl ?_
  intro p e s m args below meth c s₁ B hml hv
  obtain ⟨rfl, hP, hK, hev⟩ := hv
  have hx := B.exec
  have hb := B.bytes
  have hr := B.returns
  have hts := atoms_spec (ws := w_l_moved) B.pre
  have hown : s.vm.findClass RX1 = some m.cls := findClass_of_methodNamed B.named
  have hlocks := B.notSynchronized
  have hP : va_P (dC, dI) vwCl [] s.heap := hP
  have hl := lv_entry ([.long a, .int b, .int d]) (n := 6) (Nat.le_of_ble_eq_true rfl)
  rw [lg_entry_eq]
  generalize (lg_sl ([.long a, .int b, .int d]) ++ List.replicate (6 - (lg_sl ([.long a, .int b, .int d])).length) Slot.unset).toArray = ls at hl ⊢
  have hl : lv_has ls 6 [(0, .long a), (2, .int b), (3, .int d)] := hl
  refine lv_ldc2 hx hb hown (hts _ (List.mem_of_getElem? (i := 1) rfl)) dX1_moved_0 ?_
  refine lv_sipush (v := 255) hx hb dX1_moved_3 (by decide) ?_
  refine lv_iload_n hx hb dX1_moved_6 rfl (lv_at hl 2 rfl) ?_
  refine lv_ishr hx hb dX1_moved_7 ?_
  refine lv_topi (fun n_1 en_1 => ?_)
  clear en_1
  obtain ⟨n_2, en_2⟩ : ∃ z : Int64, z = n_1.toInt64 := ⟨_, rfl⟩
  refine lv_i2l (v := n_2) hx hb dX1_moved_8 en_2.symm ?_
  clear en_2
  refine lv_lmul hx hb dX1_moved_9 ?_
  refine lv_topl (fun n_3 en_3 => ?_)
  clear en_3
  refine lv_lstore (lv' := [(4, .long n_3), (0, .long a), (2, .int b), (3, .int d)]) hx hb dX1_moved_10 hl (by decide) rfl (fun ls hl => ?_)
  refine lv_lload_n hx hb dX1_moved_12 rfl (lv_at hl 1 rfl) ?_
  refine lv_lload hx hb dX1_moved_13 (lv_at hl 0 rfl) ?_
  refine lv_land hx hb dX1_moved_15 ?_
  refine lv_topl (fun n_4 en_4 => ?_)
  clear en_4
  refine lv_bipush (v := 8) hx hb dX1_moved_16 (by decide) ?_
  refine lv_iload_n hx hb dX1_moved_18 rfl (lv_at hl 2 rfl) ?_
  refine lv_imul hx hb dX1_moved_19 ?_
  refine lv_topi (fun n_5 en_5 => ?_)
  clear en_5
  refine lv_iload_n hx hb dX1_moved_20 rfl (lv_at hl 3 rfl) ?_
  refine lv_iadd hx hb dX1_moved_21 ?_
  refine lv_topi (fun n_6 en_6 => ?_)
  clear en_6
  obtain ⟨n_7, en_7⟩ : ∃ z : Int64, z = n_4 <<< (n_6.toInt64 &&& 63) := ⟨_, rfl⟩
  refine lv_lshl (v := n_7) hx hb dX1_moved_22 en_7.symm ?_
  clear en_7
  exact W.lret (v := n_7) hx hb hr (fun t ht hW => ⟨n_7, rfl, trivial, ht⟩) (fun _ h => absurd h List.not_mem_nil) dX1_moved_23

def w_j_Lbit : List Cond := .code yJ13_bitCount_95d88 cJ13_bitCount_95d88 2 (some .int) :: (([.constantLong RJ13 314 (6148914691236517205), .constantLong RJ13 316 (3689348814741910323), .constantLong RJ13 318 (1085102592571150095)] : List Cond))
set_option maxHeartbeats 4000000 in
set_option maxRecDepth 100000 in
theorem j_Lbit (l : Launch) (dC : Nat → ClassId) (dI : Nat → Nat → Nat) (ad : Nat → Nat) (a : Int64) : Met l yJ13_bitCount_95d88 w_j_Lbit ({ frames := 0, cells := 0, slots := 0, locals := 0 } : Room) (va_Pc [.long a] (preS dC dI ad [] [])) (vp_Si (fun r => True)) 0 0 (fun _ => False) := by
  refine Met.ofW (cc := cJ13_bitCount_95d88) (maxL := 2) (ret := (some .int)) (by decide) rfl ?_
  intro p e s m args below meth c s₁ B hml hv
  obtain ⟨rfl, hP, hK, hev⟩ := hv
  have hx := B.exec
  have hb := B.bytes
  have hr := B.returns
  have hts := atoms_spec (ws := w_j_Lbit) B.pre
  have hown : s.vm.findClass RJ13 = some m.cls := findClass_of_methodNamed B.named
  have hlocks := B.notSynchronized
  have hP : va_P (dC, dI) vwCl [] s.heap := hP
  have hl := lv_entry ([.long a]) (n := 2) (Nat.le_of_ble_eq_true rfl)
  rw [lg_entry_eq]
  generalize (lg_sl ([.long a]) ++ List.replicate (2 - (lg_sl ([.long a])).length) Slot.unset).toArray = ls at hl ⊢
  have hl : lv_has ls 2 [(0, .long a)] := hl
  refine lv_lload_n hx hb dJ13_bitCount_95d88_0 rfl (lv_at hl 0 rfl) ?_
  refine lv_lload_n hx hb dJ13_bitCount_95d88_1 rfl (lv_at hl 0 rfl) ?_
  refine lv_iconst (v := 1) hx hb dJ13_bitCount_95d88_2 (by decide) ?_
  obtain ⟨n_1, en_1⟩ : ∃ z : Int64, z = (a.toUInt64 >>> ((1 : Int32).toInt64.toUInt64 &&& Int64.toUInt64 63)).toInt64 := ⟨_, rfl⟩
  refine lv_lushr (v := n_1) hx hb dJ13_bitCount_95d88_3 en_1.symm ?_
  clear en_1
  refine lv_ldc2 hx hb hown (hts _ (List.mem_of_getElem? (i := 1) rfl)) dJ13_bitCount_95d88_4 ?_
  refine lv_land hx hb dJ13_bitCount_95d88_7 ?_
  refine lv_topl (fun n_2 en_2 => ?_)
  clear en_2
  refine lv_lsub hx hb dJ13_bitCount_95d88_8 ?_
  refine lv_topl (fun n_3 en_3 => ?_)
  clear en_3
  refine lv_lstore_n (lv' := [(0, .long n_3)]) hx hb dJ13_bitCount_95d88_9 rfl hl (by decide) rfl (fun ls hl => ?_)
  refine lv_lload_n hx hb dJ13_bitCount_95d88_10 rfl (lv_at hl 0 rfl) ?_
  refine lv_ldc2 hx hb hown (hts _ (List.mem_of_getElem? (i := 2) rfl)) dJ13_bitCount_95d88_11 ?_
  refine lv_land hx hb dJ13_bitCount_95d88_14 ?_
  refine lv_topl (fun n_4 en_4 => ?_)
  clear en_4
  refine lv_lload_n hx hb dJ13_bitCount_95d88_15 rfl (lv_at hl 0 rfl) ?_
  refine lv_iconst (v := 2) hx hb dJ13_bitCount_95d88_16 (by decide) ?_
  obtain ⟨n_5, en_5⟩ : ∃ z : Int64, z = (n_3.toUInt64 >>> ((2 : Int32).toInt64.toUInt64 &&& Int64.toUInt64 63)).toInt64 := ⟨_, rfl⟩
  refine lv_lushr (v := n_5) hx hb dJ13_bitCount_95d88_17 en_5.symm ?_
  clear en_5
  refine lv_ldc2 hx hb hown (hts _ (List.mem_of_getElem? (i := 2) rfl)) dJ13_bitCount_95d88_18 ?_
  refine lv_land hx hb dJ13_bitCount_95d88_21 ?_
  refine lv_topl (fun n_6 en_6 => ?_)
  clear en_6
  refine lv_ladd hx hb dJ13_bitCount_95d88_22 ?_
  refine lv_topl (fun n_7 en_7 => ?_)
  clear en_7
  refine lv_lstore_n (lv' := [(0, .long n_7)]) hx hb dJ13_bitCount_95d88_23 rfl hl (by decide) rfl (fun ls hl => ?_)
  refine lv_lload_n hx hb dJ13_bitCount_95d88_24 rfl (lv_at hl 0 rfl) ?_
  refine lv_lload_n hx hb dJ13_bitCount_95d88_25 rfl (lv_at hl 0 rfl) ?_
  refine lv_iconst (v := 4) hx hb dJ13_bitCount_95d88_26 (by decide) ?_
  obtain ⟨n_8, en_8⟩ : ∃ z : Int64, z = (n_7.toUInt64 >>> ((4 : Int32).toInt64.toUInt64 &&& Int64.toUInt64 63)).toInt64 := ⟨_, rfl⟩
  refine lv_lushr (v := n_8) hx hb dJ13_bitCount_95d88_27 en_8.symm ?_
  clear en_8
  refine lv_ladd hx hb dJ13_bitCount_95d88_28 ?_
  refine lv_topl (fun n_9 en_9 => ?_)
  clear en_9
  refine lv_ldc2 hx hb hown (hts _ (List.mem_of_getElem? (i := 3) rfl)) dJ13_bitCount_95d88_29 ?_
  refine lv_land hx hb dJ13_bitCount_95d88_32 ?_
  refine lv_topl (fun n_10 en_10 => ?_)
  clear en_10
  refine lv_lstore_n (lv' := [(0, .long n_10)]) hx hb dJ13_bitCount_95d88_33 rfl hl (by decide) rfl (fun ls hl => ?_)
  refine lv_lload_n hx hb dJ13_bitCount_95d88_34 rfl (lv_at hl 0 rfl) ?_
  refine lv_lload_n hx hb dJ13_bitCount_95d88_35 rfl (lv_at hl 0 rfl) ?_
  refine lv_bipush (v := 8) hx hb dJ13_bitCount_95d88_36 (by decide) ?_
  obtain ⟨n_11, en_11⟩ : ∃ z : Int64, z = (n_10.toUInt64 >>> ((8 : Int32).toInt64.toUInt64 &&& Int64.toUInt64 63)).toInt64 := ⟨_, rfl⟩
  refine lv_lushr (v := n_11) hx hb dJ13_bitCount_95d88_38 en_11.symm ?_
  clear en_11
  refine lv_ladd hx hb dJ13_bitCount_95d88_39 ?_
  refine lv_topl (fun n_12 en_12 => ?_)
  clear en_12
  refine lv_lstore_n (lv' := [(0, .long n_12)]) hx hb dJ13_bitCount_95d88_40 rfl hl (by decide) rfl (fun ls hl => ?_)
  refine lv_lload_n hx hb dJ13_bitCount_95d88_41 rfl (lv_at hl 0 rfl) ?_
  refine lv_lload_n hx hb dJ13_bitCount_95d88_42 rfl (lv_at hl 0 rfl) ?_
  refine lv_bipush (v := 16) hx hb dJ13_bitCount_95d88_43 (by decide) ?_
  obtain ⟨n_13, en_13⟩ : ∃ z : Int64, z = (n_12.toUInt64 >>> ((16 : Int32).toInt64.toUInt64 &&& Int64.toUInt64 63)).toInt64 := ⟨_, rfl⟩
  refine lv_lushr (v := n_13) hx hb dJ13_bitCount_95d88_45 en_13.symm ?_
  clear en_13
  refine lv_ladd hx hb dJ13_bitCount_95d88_46 ?_
  refine lv_topl (fun n_14 en_14 => ?_)
  clear en_14
  refine lv_lstore_n (lv' := [(0, .long n_14)]) hx hb dJ13_bitCount_95d88_47 rfl hl (by decide) rfl (fun ls hl => ?_)
  refine lv_lload_n hx hb dJ13_bitCount_95d88_48 rfl (lv_at hl 0 rfl) ?_
  refine lv_lload_n hx hb dJ13_bitCount_95d88_49 rfl (lv_at hl 0 rfl) ?_
  refine lv_bipush (v := 32) hx hb dJ13_bitCount_95d88_50 (by decide) ?_
  obtain ⟨n_15, en_15⟩ : ∃ z : Int64, z = (n_14.toUInt64 >>> ((32 : Int32).toInt64.toUInt64 &&& Int64.toUInt64 63)).toInt64 := ⟨_, rfl⟩
  refine lv_lushr (v := n_15) hx hb dJ13_bitCount_95d88_52 en_15.symm ?_
  clear en_15
  refine lv_ladd hx hb dJ13_bitCount_95d88_53 ?_
  refine lv_topl (fun n_16 en_16 => ?_)
  clear en_16
  refine lv_lstore_n (lv' := [(0, .long n_16)]) hx hb dJ13_bitCount_95d88_54 rfl hl (by decide) rfl (fun ls hl => ?_)
  refine lv_lload_n hx hb dJ13_bitCount_95d88_55 rfl (lv_at hl 0 rfl) ?_
  obtain ⟨n_17, en_17⟩ : ∃ z : Int32, z = n_16.toInt32 := ⟨_, rfl⟩
  refine lv_l2i (v := n_17) hx hb dJ13_bitCount_95d88_56 en_17.symm ?_
  clear en_17
  refine lv_bipush (v := 127) hx hb dJ13_bitCount_95d88_57 (by decide) ?_
  refine lv_iand hx hb dJ13_bitCount_95d88_59 ?_
  refine lv_topi (fun n_18 en_18 => ?_)
  clear en_18
  exact W.iret (v := n_18) hx hb hr (fun t ht hW => ⟨n_18, rfl, trivial, ht⟩) (fun _ h => absurd h List.not_mem_nil) dJ13_bitCount_95d88_60

def w_j_Ibit : List Cond := .code yJ6_bitCount_0f7a4 cJ6_bitCount_0f7a4 1 (some .int) :: (([.constant RJ6 265 (1431655765), .constant RJ6 266 (858993459), .constant RJ6 267 (252645135)] : List Cond))
set_option maxHeartbeats 4000000 in
set_option maxRecDepth 100000 in
theorem j_Ibit (l : Launch) (dC : Nat → ClassId) (dI : Nat → Nat → Nat) (ad : Nat → Nat) (a : Int32) : Met l yJ6_bitCount_0f7a4 w_j_Ibit ({ frames := 0, cells := 0, slots := 0, locals := 0 } : Room) (va_Pc [.int a] (preS dC dI ad [] [])) (vp_Si (fun r => True)) 0 0 (fun _ => False) := by
  refine Met.ofW (cc := cJ6_bitCount_0f7a4) (maxL := 1) (ret := (some .int)) (by decide) rfl ?_
  intro p e s m args below meth c s₁ B hml hv
  obtain ⟨rfl, hP, hK, hev⟩ := hv
  have hx := B.exec
  have hb := B.bytes
  have hr := B.returns
  have hts := atoms_spec (ws := w_j_Ibit) B.pre
  have hown : s.vm.findClass RJ6 = some m.cls := findClass_of_methodNamed B.named
  have hlocks := B.notSynchronized
  have hP : va_P (dC, dI) vwCl [] s.heap := hP
  have hl := lv_entry ([.int a]) (n := 1) (Nat.le_of_ble_eq_true rfl)
  rw [lg_entry_eq]
  generalize (lg_sl ([.int a]) ++ List.replicate (1 - (lg_sl ([.int a])).length) Slot.unset).toArray = ls at hl ⊢
  have hl : lv_has ls 1 [(0, .int a)] := hl
  refine lv_iload_n hx hb dJ6_bitCount_0f7a4_0 rfl (lv_at hl 0 rfl) ?_
  refine lv_iload_n hx hb dJ6_bitCount_0f7a4_1 rfl (lv_at hl 0 rfl) ?_
  refine lv_iconst (v := 1) hx hb dJ6_bitCount_0f7a4_2 (by decide) ?_
  obtain ⟨n_1, en_1⟩ : ∃ z : Int32, z = (a.toUInt32 >>> ((1 : Int32).toUInt32 &&& Int32.toUInt32 31)).toInt32 := ⟨_, rfl⟩
  refine lv_iushr (v := n_1) hx hb dJ6_bitCount_0f7a4_3 en_1.symm ?_
  refine lv_ldcw hx hb hown (hts _ (List.mem_of_getElem? (i := 1) rfl)) dJ6_bitCount_0f7a4_4 ?_
  refine lv_iand hx hb dJ6_bitCount_0f7a4_7 ?_
  refine lv_topi (fun n_2 en_2 => ?_)
  clear en_2
  refine lv_isub hx hb dJ6_bitCount_0f7a4_8 ?_
  refine lv_topi (fun n_3 en_3 => ?_)
  clear en_3
  refine lv_istore_n (lv' := [(0, .int n_3)]) hx hb dJ6_bitCount_0f7a4_9 rfl hl (by decide) rfl (fun ls hl => ?_)
  refine lv_iload_n hx hb dJ6_bitCount_0f7a4_10 rfl (lv_at hl 0 rfl) ?_
  refine lv_ldcw hx hb hown (hts _ (List.mem_of_getElem? (i := 2) rfl)) dJ6_bitCount_0f7a4_11 ?_
  refine lv_iand hx hb dJ6_bitCount_0f7a4_14 ?_
  refine lv_topi (fun n_4 en_4 => ?_)
  clear en_4
  refine lv_iload_n hx hb dJ6_bitCount_0f7a4_15 rfl (lv_at hl 0 rfl) ?_
  refine lv_iconst (v := 2) hx hb dJ6_bitCount_0f7a4_16 (by decide) ?_
  obtain ⟨n_5, en_5⟩ : ∃ z : Int32, z = (n_3.toUInt32 >>> ((2 : Int32).toUInt32 &&& Int32.toUInt32 31)).toInt32 := ⟨_, rfl⟩
  refine lv_iushr (v := n_5) hx hb dJ6_bitCount_0f7a4_17 en_5.symm ?_
  refine lv_ldcw hx hb hown (hts _ (List.mem_of_getElem? (i := 2) rfl)) dJ6_bitCount_0f7a4_18 ?_
  refine lv_iand hx hb dJ6_bitCount_0f7a4_21 ?_
  refine lv_topi (fun n_6 en_6 => ?_)
  clear en_6
  refine lv_iadd hx hb dJ6_bitCount_0f7a4_22 ?_
  refine lv_topi (fun n_7 en_7 => ?_)
  clear en_7
  refine lv_istore_n (lv' := [(0, .int n_7)]) hx hb dJ6_bitCount_0f7a4_23 rfl hl (by decide) rfl (fun ls hl => ?_)
  refine lv_iload_n hx hb dJ6_bitCount_0f7a4_24 rfl (lv_at hl 0 rfl) ?_
  refine lv_iload_n hx hb dJ6_bitCount_0f7a4_25 rfl (lv_at hl 0 rfl) ?_
  refine lv_iconst (v := 4) hx hb dJ6_bitCount_0f7a4_26 (by decide) ?_
  obtain ⟨n_8, en_8⟩ : ∃ z : Int32, z = (n_7.toUInt32 >>> ((4 : Int32).toUInt32 &&& Int32.toUInt32 31)).toInt32 := ⟨_, rfl⟩
  refine lv_iushr (v := n_8) hx hb dJ6_bitCount_0f7a4_27 en_8.symm ?_
  refine lv_iadd hx hb dJ6_bitCount_0f7a4_28 ?_
  refine lv_topi (fun n_9 en_9 => ?_)
  clear en_9
  refine lv_ldcw hx hb hown (hts _ (List.mem_of_getElem? (i := 3) rfl)) dJ6_bitCount_0f7a4_29 ?_
  refine lv_iand hx hb dJ6_bitCount_0f7a4_32 ?_
  refine lv_topi (fun n_10 en_10 => ?_)
  clear en_10
  refine lv_istore_n (lv' := [(0, .int n_10)]) hx hb dJ6_bitCount_0f7a4_33 rfl hl (by decide) rfl (fun ls hl => ?_)
  refine lv_iload_n hx hb dJ6_bitCount_0f7a4_34 rfl (lv_at hl 0 rfl) ?_
  refine lv_iload_n hx hb dJ6_bitCount_0f7a4_35 rfl (lv_at hl 0 rfl) ?_
  refine lv_bipush (v := 8) hx hb dJ6_bitCount_0f7a4_36 (by decide) ?_
  obtain ⟨n_11, en_11⟩ : ∃ z : Int32, z = (n_10.toUInt32 >>> ((8 : Int32).toUInt32 &&& Int32.toUInt32 31)).toInt32 := ⟨_, rfl⟩
  refine lv_iushr (v := n_11) hx hb dJ6_bitCount_0f7a4_38 en_11.symm ?_
  refine lv_iadd hx hb dJ6_bitCount_0f7a4_39 ?_
  refine lv_topi (fun n_12 en_12 => ?_)
  clear en_12
  refine lv_istore_n (lv' := [(0, .int n_12)]) hx hb dJ6_bitCount_0f7a4_40 rfl hl (by decide) rfl (fun ls hl => ?_)
  refine lv_iload_n hx hb dJ6_bitCount_0f7a4_41 rfl (lv_at hl 0 rfl) ?_
  refine lv_iload_n hx hb dJ6_bitCount_0f7a4_42 rfl (lv_at hl 0 rfl) ?_
  refine lv_bipush (v := 16) hx hb dJ6_bitCount_0f7a4_43 (by decide) ?_
  obtain ⟨n_13, en_13⟩ : ∃ z : Int32, z = (n_12.toUInt32 >>> ((16 : Int32).toUInt32 &&& Int32.toUInt32 31)).toInt32 := ⟨_, rfl⟩
  refine lv_iushr (v := n_13) hx hb dJ6_bitCount_0f7a4_45 en_13.symm ?_
  refine lv_iadd hx hb dJ6_bitCount_0f7a4_46 ?_
  refine lv_topi (fun n_14 en_14 => ?_)
  clear en_14
  refine lv_istore_n (lv' := [(0, .int n_14)]) hx hb dJ6_bitCount_0f7a4_47 rfl hl (by decide) rfl (fun ls hl => ?_)
  refine lv_iload_n hx hb dJ6_bitCount_0f7a4_48 rfl (lv_at hl 0 rfl) ?_
  refine lv_bipush (v := 63) hx hb dJ6_bitCount_0f7a4_49 (by decide) ?_
  refine lv_iand hx hb dJ6_bitCount_0f7a4_51 ?_
  refine lv_topi (fun n_15 en_15 => ?_)
  clear en_15
  exact W.iret (v := n_15) hx hb hr (fun t ht hW => ⟨n_15, rfl, trivial, ht⟩) (fun _ h => absurd h List.not_mem_nil) dJ6_bitCount_0f7a4_52

def w_j_ntz : List Cond := .code yJ6_numberOfTrailingZeros_0f7a4 cJ6_numberOfTrailingZeros_0f7a4 2 (some .int) :: (([.constant RJ6 264 (65536)] : List Cond))
set_option maxHeartbeats 4000000 in
set_option maxRecDepth 100000 in
theorem j_ntz (l : Launch) (dC : Nat → ClassId) (dI : Nat → Nat → Nat) (ad : Nat → Nat) (a : Int32) : Met l yJ6_numberOfTrailingZeros_0f7a4 w_j_ntz ({ frames := 0, cells := 0, slots := 0, locals := 0 } : Room) (va_Pc [.int a] (preS dC dI ad [] [])) (vp_Si (fun r => True)) 0 0 (fun _ => False) := by
  refine Met.ofW (cc := cJ6_numberOfTrailingZeros_0f7a4) (maxL := 2) (ret := (some .int)) (by decide) rfl ?_
  intro p e s m args below meth c s₁ B hml hv
  obtain ⟨rfl, hP, hK, hev⟩ := hv
  have hx := B.exec
  have hb := B.bytes
  have hr := B.returns
  have hts := atoms_spec (ws := w_j_ntz) B.pre
  have hown : s.vm.findClass RJ6 = some m.cls := findClass_of_methodNamed B.named
  have hlocks := B.notSynchronized
  have hP : va_P (dC, dI) vwCl [] s.heap := hP
  have hl := lv_entry ([.int a]) (n := 2) (Nat.le_of_ble_eq_true rfl)
  rw [lg_entry_eq]
  generalize (lg_sl ([.int a]) ++ List.replicate (2 - (lg_sl ([.int a])).length) Slot.unset).toArray = ls at hl ⊢
  have hl : lv_has ls 2 [(0, .int a)] := hl
  refine lv_iload_n hx hb dJ6_numberOfTrailingZeros_0f7a4_0 rfl (lv_at hl 0 rfl) ?_
  refine lv_iconst (v := (-1)) hx hb dJ6_numberOfTrailingZeros_0f7a4_1 (by decide) ?_
  refine lv_ixor hx hb dJ6_numberOfTrailingZeros_0f7a4_2 ?_
  refine lv_topi (fun n_1 en_1 => ?_)
  clear en_1
  refine lv_iload_n hx hb dJ6_numberOfTrailingZeros_0f7a4_3 rfl (lv_at hl 0 rfl) ?_
  refine lv_iconst (v := 1) hx hb dJ6_numberOfTrailingZeros_0f7a4_4 (by decide) ?_
  refine lv_isub hx hb dJ6_numberOfTrailingZeros_0f7a4_5 ?_
  refine lv_topi (fun n_2 en_2 => ?_)
  clear en_2
  refine lv_iand hx hb dJ6_numberOfTrailingZeros_0f7a4_6 ?_
  refine lv_topi (fun n_3 en_3 => ?_)
  clear en_3
  refine lv_istore_n (lv' := [(0, .int n_3)]) hx hb dJ6_numberOfTrailingZeros_0f7a4_7 rfl hl (by decide) rfl (fun ls hl => ?_)
  refine lv_iload_n hx hb dJ6_numberOfTrailingZeros_0f7a4_8 rfl (lv_at hl 0 rfl) ?_
  refine lv_if_gt (tgt := 17) hx hb dJ6_numberOfTrailingZeros_0f7a4_9 (by decide) (fun c_4 => ?_) (fun c_4 => ?_)
  · skip
    have tc_4 : 0 < n_3.toInt := (fa_lt _ _).mp c_4
    refine lv_iconst (v := 1) hx hb dJ6_numberOfTrailingZeros_0f7a4_17 (by decide) ?_
    refine lv_istore_n (lv' := [(1, .int 1), (0, .int n_3)]) hx hb dJ6_numberOfTrailingZeros_0f7a4_18 rfl hl (by decide) rfl (fun ls hl => ?_)
    refine lv_iload_n hx hb dJ6_numberOfTrailingZeros_0f7a4_19 rfl (lv_at hl 1 rfl) ?_
    refine lv_ldcw hx hb hown (hts _ (List.mem_of_getElem? (i := 1) rfl)) dJ6_numberOfTrailingZeros_0f7a4_20 ?_
    refine lv_icmp_le (tgt := 34) hx hb dJ6_numberOfTrailingZeros_0f7a4_23 (by decide) (fun c_5 => ?_) (fun c_5 => ?_)
    · skip
      have tc_5 : n_3.toInt ≤ 65536 := (fa_le _ _).mp c_5
      refine lv_iload_n hx hb dJ6_numberOfTrailingZeros_0f7a4_34 rfl (lv_at hl 1 rfl) ?_
      refine lv_sipush (v := 256) hx hb dJ6_numberOfTrailingZeros_0f7a4_35 (by decide) ?_
      refine lv_icmp_le (tgt := 49) hx hb dJ6_numberOfTrailingZeros_0f7a4_38 (by decide) (fun c_6 => ?_) (fun c_6 => ?_)
      · skip
        have tc_6 : n_3.toInt ≤ 256 := (fa_le _ _).mp c_6
        refine lv_iload_n hx hb dJ6_numberOfTrailingZeros_0f7a4_49 rfl (lv_at hl 1 rfl) ?_
        refine lv_bipush (v := 16) hx hb dJ6_numberOfTrailingZeros_0f7a4_50 (by decide) ?_
        refine lv_icmp_le (tgt := 62) hx hb dJ6_numberOfTrailingZeros_0f7a4_52 (by decide) (fun c_7 => ?_) (fun c_7 => ?_)
        · skip
          have tc_7 : n_3.toInt ≤ 16 := (fa_le _ _).mp c_7
          refine lv_iload_n hx hb dJ6_numberOfTrailingZeros_0f7a4_62 rfl (lv_at hl 1 rfl) ?_
          refine lv_iconst (v := 4) hx hb dJ6_numberOfTrailingZeros_0f7a4_63 (by decide) ?_
          refine lv_icmp_le (tgt := 74) hx hb dJ6_numberOfTrailingZeros_0f7a4_64 (by decide) (fun c_8 => ?_) (fun c_8 => ?_)
          · skip
            have tc_8 : n_3.toInt ≤ 4 := (fa_le _ _).mp c_8
            refine lv_iload_n hx hb dJ6_numberOfTrailingZeros_0f7a4_74 rfl (lv_at hl 0 rfl) ?_
            refine lv_iload_n hx hb dJ6_numberOfTrailingZeros_0f7a4_75 rfl (lv_at hl 1 rfl) ?_
            refine lv_iconst (v := 1) hx hb dJ6_numberOfTrailingZeros_0f7a4_76 (by decide) ?_
            obtain ⟨n_9, en_9⟩ : ∃ z : Int32, z = (n_3.toUInt32 >>> ((1 : Int32).toUInt32 &&& Int32.toUInt32 31)).toInt32 := ⟨_, rfl⟩
            refine lv_iushr (v := n_9) hx hb dJ6_numberOfTrailingZeros_0f7a4_77 en_9.symm ?_
            refine lv_iadd hx hb dJ6_numberOfTrailingZeros_0f7a4_78 ?_
            refine lv_topi (fun n_10 en_10 => ?_)
            clear en_10
            exact W.iret (v := n_10) hx hb hr (fun t ht hW => ⟨n_10, rfl, trivial, ht⟩) (fun _ h => absurd h List.not_mem_nil) dJ6_numberOfTrailingZeros_0f7a4_79
          · skip
            have tc_8 : ¬ n_3.toInt ≤ 4 := fun h => c_8 ((fa_le _ _).mpr h)
            refine lv_iinc (v := 3) (lv' := [(1, .int 3), (0, .int n_3)]) hx hb dJ6_numberOfTrailingZeros_0f7a4_67 hl (k := 0) rfl (by decide) (by decide) rfl (fun ls hl => ?_)
            refine lv_iload_n hx hb dJ6_numberOfTrailingZeros_0f7a4_70 rfl (lv_at hl 1 rfl) ?_
            refine lv_iconst (v := 2) hx hb dJ6_numberOfTrailingZeros_0f7a4_71 (by decide) ?_
            obtain ⟨n_11, en_11⟩ : ∃ z : Int32, z = (n_3.toUInt32 >>> ((2 : Int32).toUInt32 &&& Int32.toUInt32 31)).toInt32 := ⟨_, rfl⟩
            refine lv_iushr (v := n_11) hx hb dJ6_numberOfTrailingZeros_0f7a4_72 en_11.symm ?_
            refine lv_istore_n (lv' := [(0, .int n_11), (1, .int 3)]) hx hb dJ6_numberOfTrailingZeros_0f7a4_73 rfl hl (by decide) rfl (fun ls hl => ?_)
            refine lv_iload_n hx hb dJ6_numberOfTrailingZeros_0f7a4_74 rfl (lv_at hl 1 rfl) ?_
            refine lv_iload_n hx hb dJ6_numberOfTrailingZeros_0f7a4_75 rfl (lv_at hl 0 rfl) ?_
            refine lv_iconst (v := 1) hx hb dJ6_numberOfTrailingZeros_0f7a4_76 (by decide) ?_
            obtain ⟨n_12, en_12⟩ : ∃ z : Int32, z = (n_11.toUInt32 >>> ((1 : Int32).toUInt32 &&& Int32.toUInt32 31)).toInt32 := ⟨_, rfl⟩
            refine lv_iushr (v := n_12) hx hb dJ6_numberOfTrailingZeros_0f7a4_77 en_12.symm ?_
            refine lv_iadd hx hb dJ6_numberOfTrailingZeros_0f7a4_78 ?_
            refine lv_topi (fun n_13 en_13 => ?_)
            clear en_13
            exact W.iret (v := n_13) hx hb hr (fun t ht hW => ⟨n_13, rfl, trivial, ht⟩) (fun _ h => absurd h List.not_mem_nil) dJ6_numberOfTrailingZeros_0f7a4_79
        · skip
          have tc_7 : ¬ n_3.toInt ≤ 16 := fun h => c_7 ((fa_le _ _).mpr h)
          refine lv_iinc (v := 5) (lv' := [(1, .int 5), (0, .int n_3)]) hx hb dJ6_numberOfTrailingZeros_0f7a4_55 hl (k := 0) rfl (by decide) (by decide) rfl (fun ls hl => ?_)
          refine lv_iload_n hx hb dJ6_numberOfTrailingZeros_0f7a4_58 rfl (lv_at hl 1 rfl) ?_
          refine lv_iconst (v := 4) hx hb dJ6_numberOfTrailingZeros_0f7a4_59 (by decide) ?_
          obtain ⟨n_14, en_14⟩ : ∃ z : Int32, z = (n_3.toUInt32 >>> ((4 : Int32).toUInt32 &&& Int32.toUInt32 31)).toInt32 := ⟨_, rfl⟩
          refine lv_iushr (v := n_14) hx hb dJ6_numberOfTrailingZeros_0f7a4_60 en_14.symm ?_
          refine lv_istore_n (lv' := [(0, .int n_14), (1, .int 5)]) hx hb dJ6_numberOfTrailingZeros_0f7a4_61 rfl hl (by decide) rfl (fun ls hl => ?_)
          refine lv_iload_n hx hb dJ6_numberOfTrailingZeros_0f7a4_62 rfl (lv_at hl 0 rfl) ?_
          refine lv_iconst (v := 4) hx hb dJ6_numberOfTrailingZeros_0f7a4_63 (by decide) ?_
          refine lv_icmp_le (tgt := 74) hx hb dJ6_numberOfTrailingZeros_0f7a4_64 (by decide) (fun c_15 => ?_) (fun c_15 => ?_)
          · skip
            have tc_15 : n_14.toInt ≤ 4 := (fa_le _ _).mp c_15
            refine lv_iload_n hx hb dJ6_numberOfTrailingZeros_0f7a4_74 rfl (lv_at hl 1 rfl) ?_
            refine lv_iload_n hx hb dJ6_numberOfTrailingZeros_0f7a4_75 rfl (lv_at hl 0 rfl) ?_
            refine lv_iconst (v := 1) hx hb dJ6_numberOfTrailingZeros_0f7a4_76 (by decide) ?_
            obtain ⟨n_16, en_16⟩ : ∃ z : Int32, z = (n_14.toUInt32 >>> ((1 : Int32).toUInt32 &&& Int32.toUInt32 31)).toInt32 := ⟨_, rfl⟩
            refine lv_iushr (v := n_16) hx hb dJ6_numberOfTrailingZeros_0f7a4_77 en_16.symm ?_
            refine lv_iadd hx hb dJ6_numberOfTrailingZeros_0f7a4_78 ?_
            refine lv_topi (fun n_17 en_17 => ?_)
            clear en_17
            exact W.iret (v := n_17) hx hb hr (fun t ht hW => ⟨n_17, rfl, trivial, ht⟩) (fun _ h => absurd h List.not_mem_nil) dJ6_numberOfTrailingZeros_0f7a4_79
          · skip
            have tc_15 : ¬ n_14.toInt ≤ 4 := fun h => c_15 ((fa_le _ _).mpr h)
            refine lv_iinc (v := 7) (lv' := [(1, .int 7), (0, .int n_14)]) hx hb dJ6_numberOfTrailingZeros_0f7a4_67 hl (k := 1) rfl (by decide) (by decide) rfl (fun ls hl => ?_)
            refine lv_iload_n hx hb dJ6_numberOfTrailingZeros_0f7a4_70 rfl (lv_at hl 1 rfl) ?_
            refine lv_iconst (v := 2) hx hb dJ6_numberOfTrailingZeros_0f7a4_71 (by decide) ?_
            obtain ⟨n_18, en_18⟩ : ∃ z : Int32, z = (n_14.toUInt32 >>> ((2 : Int32).toUInt32 &&& Int32.toUInt32 31)).toInt32 := ⟨_, rfl⟩
            refine lv_iushr (v := n_18) hx hb dJ6_numberOfTrailingZeros_0f7a4_72 en_18.symm ?_
            refine lv_istore_n (lv' := [(0, .int n_18), (1, .int 7)]) hx hb dJ6_numberOfTrailingZeros_0f7a4_73 rfl hl (by decide) rfl (fun ls hl => ?_)
            refine lv_iload_n hx hb dJ6_numberOfTrailingZeros_0f7a4_74 rfl (lv_at hl 1 rfl) ?_
            refine lv_iload_n hx hb dJ6_numberOfTrailingZeros_0f7a4_75 rfl (lv_at hl 0 rfl) ?_
            refine lv_iconst (v := 1) hx hb dJ6_numberOfTrailingZeros_0f7a4_76 (by decide) ?_
            obtain ⟨n_19, en_19⟩ : ∃ z : Int32, z = (n_18.toUInt32 >>> ((1 : Int32).toUInt32 &&& Int32.toUInt32 31)).toInt32 := ⟨_, rfl⟩
            refine lv_iushr (v := n_19) hx hb dJ6_numberOfTrailingZeros_0f7a4_77 en_19.symm ?_
            refine lv_iadd hx hb dJ6_numberOfTrailingZeros_0f7a4_78 ?_
            refine lv_topi (fun n_20 en_20 => ?_)
            clear en_20
            exact W.iret (v := n_20) hx hb hr (fun t ht hW => ⟨n_20, rfl, trivial, ht⟩) (fun _ h => absurd h List.not_mem_nil) dJ6_numberOfTrailingZeros_0f7a4_79
      · skip
        have tc_6 : ¬ n_3.toInt ≤ 256 := fun h => c_6 ((fa_le _ _).mpr h)
        refine lv_iinc (v := 9) (lv' := [(1, .int 9), (0, .int n_3)]) hx hb dJ6_numberOfTrailingZeros_0f7a4_41 hl (k := 0) rfl (by decide) (by decide) rfl (fun ls hl => ?_)
        refine lv_iload_n hx hb dJ6_numberOfTrailingZeros_0f7a4_44 rfl (lv_at hl 1 rfl) ?_
        refine lv_bipush (v := 8) hx hb dJ6_numberOfTrailingZeros_0f7a4_45 (by decide) ?_
        obtain ⟨n_21, en_21⟩ : ∃ z : Int32, z = (n_3.toUInt32 >>> ((8 : Int32).toUInt32 &&& Int32.toUInt32 31)).toInt32 := ⟨_, rfl⟩
        refine lv_iushr (v := n_21) hx hb dJ6_numberOfTrailingZeros_0f7a4_47 en_21.symm ?_
        refine lv_istore_n (lv' := [(0, .int n_21), (1, .int 9)]) hx hb dJ6_numberOfTrailingZeros_0f7a4_48 rfl hl (by decide) rfl (fun ls hl => ?_)
        refine lv_iload_n hx hb dJ6_numberOfTrailingZeros_0f7a4_49 rfl (lv_at hl 0 rfl) ?_
        refine lv_bipush (v := 16) hx hb dJ6_numberOfTrailingZeros_0f7a4_50 (by decide) ?_
        refine lv_icmp_le (tgt := 62) hx hb dJ6_numberOfTrailingZeros_0f7a4_52 (by decide) (fun c_22 => ?_) (fun c_22 => ?_)
        · skip
          have tc_22 : n_21.toInt ≤ 16 := (fa_le _ _).mp c_22
          refine lv_iload_n hx hb dJ6_numberOfTrailingZeros_0f7a4_62 rfl (lv_at hl 0 rfl) ?_
          refine lv_iconst (v := 4) hx hb dJ6_numberOfTrailingZeros_0f7a4_63 (by decide) ?_
          refine lv_icmp_le (tgt := 74) hx hb dJ6_numberOfTrailingZeros_0f7a4_64 (by decide) (fun c_23 => ?_) (fun c_23 => ?_)
          · skip
            have tc_23 : n_21.toInt ≤ 4 := (fa_le _ _).mp c_23
            refine lv_iload_n hx hb dJ6_numberOfTrailingZeros_0f7a4_74 rfl (lv_at hl 1 rfl) ?_
            refine lv_iload_n hx hb dJ6_numberOfTrailingZeros_0f7a4_75 rfl (lv_at hl 0 rfl) ?_
            refine lv_iconst (v := 1) hx hb dJ6_numberOfTrailingZeros_0f7a4_76 (by decide) ?_
            obtain ⟨n_24, en_24⟩ : ∃ z : Int32, z = (n_21.toUInt32 >>> ((1 : Int32).toUInt32 &&& Int32.toUInt32 31)).toInt32 := ⟨_, rfl⟩
            refine lv_iushr (v := n_24) hx hb dJ6_numberOfTrailingZeros_0f7a4_77 en_24.symm ?_
            refine lv_iadd hx hb dJ6_numberOfTrailingZeros_0f7a4_78 ?_
            refine lv_topi (fun n_25 en_25 => ?_)
            clear en_25
            exact W.iret (v := n_25) hx hb hr (fun t ht hW => ⟨n_25, rfl, trivial, ht⟩) (fun _ h => absurd h List.not_mem_nil) dJ6_numberOfTrailingZeros_0f7a4_79
          · skip
            have tc_23 : ¬ n_21.toInt ≤ 4 := fun h => c_23 ((fa_le _ _).mpr h)
            refine lv_iinc (v := 11) (lv' := [(1, .int 11), (0, .int n_21)]) hx hb dJ6_numberOfTrailingZeros_0f7a4_67 hl (k := 1) rfl (by decide) (by decide) rfl (fun ls hl => ?_)
            refine lv_iload_n hx hb dJ6_numberOfTrailingZeros_0f7a4_70 rfl (lv_at hl 1 rfl) ?_
            refine lv_iconst (v := 2) hx hb dJ6_numberOfTrailingZeros_0f7a4_71 (by decide) ?_
            obtain ⟨n_26, en_26⟩ : ∃ z : Int32, z = (n_21.toUInt32 >>> ((2 : Int32).toUInt32 &&& Int32.toUInt32 31)).toInt32 := ⟨_, rfl⟩
            refine lv_iushr (v := n_26) hx hb dJ6_numberOfTrailingZeros_0f7a4_72 en_26.symm ?_
            refine lv_istore_n (lv' := [(0, .int n_26), (1, .int 11)]) hx hb dJ6_numberOfTrailingZeros_0f7a4_73 rfl hl (by decide) rfl (fun ls hl => ?_)
            refine lv_iload_n hx hb dJ6_numberOfTrailingZeros_0f7a4_74 rfl (lv_at hl 1 rfl) ?_
            refine lv_iload_n hx hb dJ6_numberOfTrailingZeros_0f7a4_75 rfl (lv_at hl 0 rfl) ?_
            refine lv_iconst (v := 1) hx hb dJ6_numberOfTrailingZeros_0f7a4_76 (by decide) ?_
            obtain ⟨n_27, en_27⟩ : ∃ z : Int32, z = (n_26.toUInt32 >>> ((1 : Int32).toUInt32 &&& Int32.toUInt32 31)).toInt32 := ⟨_, rfl⟩
            refine lv_iushr (v := n_27) hx hb dJ6_numberOfTrailingZeros_0f7a4_77 en_27.symm ?_
            refine lv_iadd hx hb dJ6_numberOfTrailingZeros_0f7a4_78 ?_
            refine lv_topi (fun n_28 en_28 => ?_)
            clear en_28
            exact W.iret (v := n_28) hx hb hr (fun t ht hW => ⟨n_28, rfl, trivial, ht⟩) (fun _ h => absurd h List.not_mem_nil) dJ6_numberOfTrailingZeros_0f7a4_79
        · skip
          have tc_22 : ¬ n_21.toInt ≤ 16 := fun h => c_22 ((fa_le _ _).mpr h)
          refine lv_iinc (v := 13) (lv' := [(1, .int 13), (0, .int n_21)]) hx hb dJ6_numberOfTrailingZeros_0f7a4_55 hl (k := 1) rfl (by decide) (by decide) rfl (fun ls hl => ?_)
          refine lv_iload_n hx hb dJ6_numberOfTrailingZeros_0f7a4_58 rfl (lv_at hl 1 rfl) ?_
          refine lv_iconst (v := 4) hx hb dJ6_numberOfTrailingZeros_0f7a4_59 (by decide) ?_
          obtain ⟨n_29, en_29⟩ : ∃ z : Int32, z = (n_21.toUInt32 >>> ((4 : Int32).toUInt32 &&& Int32.toUInt32 31)).toInt32 := ⟨_, rfl⟩
          refine lv_iushr (v := n_29) hx hb dJ6_numberOfTrailingZeros_0f7a4_60 en_29.symm ?_
          refine lv_istore_n (lv' := [(0, .int n_29), (1, .int 13)]) hx hb dJ6_numberOfTrailingZeros_0f7a4_61 rfl hl (by decide) rfl (fun ls hl => ?_)
          refine lv_iload_n hx hb dJ6_numberOfTrailingZeros_0f7a4_62 rfl (lv_at hl 0 rfl) ?_
          refine lv_iconst (v := 4) hx hb dJ6_numberOfTrailingZeros_0f7a4_63 (by decide) ?_
          refine lv_icmp_le (tgt := 74) hx hb dJ6_numberOfTrailingZeros_0f7a4_64 (by decide) (fun c_30 => ?_) (fun c_30 => ?_)
          · skip
            have tc_30 : n_29.toInt ≤ 4 := (fa_le _ _).mp c_30
            refine lv_iload_n hx hb dJ6_numberOfTrailingZeros_0f7a4_74 rfl (lv_at hl 1 rfl) ?_
            refine lv_iload_n hx hb dJ6_numberOfTrailingZeros_0f7a4_75 rfl (lv_at hl 0 rfl) ?_
            refine lv_iconst (v := 1) hx hb dJ6_numberOfTrailingZeros_0f7a4_76 (by decide) ?_
            obtain ⟨n_31, en_31⟩ : ∃ z : Int32, z = (n_29.toUInt32 >>> ((1 : Int32).toUInt32 &&& Int32.toUInt32 31)).toInt32 := ⟨_, rfl⟩
            refine lv_iushr (v := n_31) hx hb dJ6_numberOfTrailingZeros_0f7a4_77 en_31.symm ?_
            refine lv_iadd hx hb dJ6_numberOfTrailingZeros_0f7a4_78 ?_
            refine lv_topi (fun n_32 en_32 => ?_)
            clear en_32
            exact W.iret (v := n_32) hx hb hr (fun t ht hW => ⟨n_32, rfl, trivial, ht⟩) (fun _ h => absurd h List.not_mem_nil) dJ6_numberOfTrailingZeros_0f7a4_79
          · skip
            have tc_30 : ¬ n_29.toInt ≤ 4 := fun h => c_30 ((fa_le _ _).mpr h)
            refine lv_iinc (v := 15) (lv' := [(1, .int 15), (0, .int n_29)]) hx hb dJ6_numberOfTrailingZeros_0f7a4_67 hl (k := 1) rfl (by decide) (by decide) rfl (fun ls hl => ?_)
            refine lv_iload_n hx hb dJ6_numberOfTrailingZeros_0f7a4_70 rfl (lv_at hl 1 rfl) ?_
            refine lv_iconst (v := 2) hx hb dJ6_numberOfTrailingZeros_0f7a4_71 (by decide) ?_
            obtain ⟨n_33, en_33⟩ : ∃ z : Int32, z = (n_29.toUInt32 >>> ((2 : Int32).toUInt32 &&& Int32.toUInt32 31)).toInt32 := ⟨_, rfl⟩
            refine lv_iushr (v := n_33) hx hb dJ6_numberOfTrailingZeros_0f7a4_72 en_33.symm ?_
            refine lv_istore_n (lv' := [(0, .int n_33), (1, .int 15)]) hx hb dJ6_numberOfTrailingZeros_0f7a4_73 rfl hl (by decide) rfl (fun ls hl => ?_)
            refine lv_iload_n hx hb dJ6_numberOfTrailingZeros_0f7a4_74 rfl (lv_at hl 1 rfl) ?_
            refine lv_iload_n hx hb dJ6_numberOfTrailingZeros_0f7a4_75 rfl (lv_at hl 0 rfl) ?_
            refine lv_iconst (v := 1) hx hb dJ6_numberOfTrailingZeros_0f7a4_76 (by decide) ?_
            obtain ⟨n_34, en_34⟩ : ∃ z : Int32, z = (n_33.toUInt32 >>> ((1 : Int32).toUInt32 &&& Int32.toUInt32 31)).toInt32 := ⟨_, rfl⟩
            refine lv_iushr (v := n_34) hx hb dJ6_numberOfTrailingZeros_0f7a4_77 en_34.symm ?_
            refine lv_iadd hx hb dJ6_numberOfTrailingZeros_0f7a4_78 ?_
            refine lv_topi (fun n_35 en_35 => ?_)
            clear en_35
            exact W.iret (v := n_35) hx hb hr (fun t ht hW => ⟨n_35, rfl, trivial, ht⟩) (fun _ h => absurd h List.not_mem_nil) dJ6_numberOfTrailingZeros_0f7a4_79
    · skip
      have tc_5 : ¬ n_3.toInt ≤ 65536 := fun h => c_5 ((fa_le _ _).mpr h)
      refine lv_iinc (v := 17) (lv' := [(1, .int 17), (0, .int n_3)]) hx hb dJ6_numberOfTrailingZeros_0f7a4_26 hl (k := 0) rfl (by decide) (by decide) rfl (fun ls hl => ?_)
      refine lv_iload_n hx hb dJ6_numberOfTrailingZeros_0f7a4_29 rfl (lv_at hl 1 rfl) ?_
      refine lv_bipush (v := 16) hx hb dJ6_numberOfTrailingZeros_0f7a4_30 (by decide) ?_
      obtain ⟨n_36, en_36⟩ : ∃ z : Int32, z = (n_3.toUInt32 >>> ((16 : Int32).toUInt32 &&& Int32.toUInt32 31)).toInt32 := ⟨_, rfl⟩
      refine lv_iushr (v := n_36) hx hb dJ6_numberOfTrailingZeros_0f7a4_32 en_36.symm ?_
      refine lv_istore_n (lv' := [(0, .int n_36), (1, .int 17)]) hx hb dJ6_numberOfTrailingZeros_0f7a4_33 rfl hl (by decide) rfl (fun ls hl => ?_)
      refine lv_iload_n hx hb dJ6_numberOfTrailingZeros_0f7a4_34 rfl (lv_at hl 0 rfl) ?_
      refine lv_sipush (v := 256) hx hb dJ6_numberOfTrailingZeros_0f7a4_35 (by decide) ?_
      refine lv_icmp_le (tgt := 49) hx hb dJ6_numberOfTrailingZeros_0f7a4_38 (by decide) (fun c_37 => ?_) (fun c_37 => ?_)
      · skip
        have tc_37 : n_36.toInt ≤ 256 := (fa_le _ _).mp c_37
        refine lv_iload_n hx hb dJ6_numberOfTrailingZeros_0f7a4_49 rfl (lv_at hl 0 rfl) ?_
        refine lv_bipush (v := 16) hx hb dJ6_numberOfTrailingZeros_0f7a4_50 (by decide) ?_
        refine lv_icmp_le (tgt := 62) hx hb dJ6_numberOfTrailingZeros_0f7a4_52 (by decide) (fun c_38 => ?_) (fun c_38 => ?_)
        · skip
          have tc_38 : n_36.toInt ≤ 16 := (fa_le _ _).mp c_38
          refine lv_iload_n hx hb dJ6_numberOfTrailingZeros_0f7a4_62 rfl (lv_at hl 0 rfl) ?_
          refine lv_iconst (v := 4) hx hb dJ6_numberOfTrailingZeros_0f7a4_63 (by decide) ?_
          refine lv_icmp_le (tgt := 74) hx hb dJ6_numberOfTrailingZeros_0f7a4_64 (by decide) (fun c_39 => ?_) (fun c_39 => ?_)
          · skip
            have tc_39 : n_36.toInt ≤ 4 := (fa_le _ _).mp c_39
            refine lv_iload_n hx hb dJ6_numberOfTrailingZeros_0f7a4_74 rfl (lv_at hl 1 rfl) ?_
            refine lv_iload_n hx hb dJ6_numberOfTrailingZeros_0f7a4_75 rfl (lv_at hl 0 rfl) ?_
            refine lv_iconst (v := 1) hx hb dJ6_numberOfTrailingZeros_0f7a4_76 (by decide) ?_
            obtain ⟨n_40, en_40⟩ : ∃ z : Int32, z = (n_36.toUInt32 >>> ((1 : Int32).toUInt32 &&& Int32.toUInt32 31)).toInt32 := ⟨_, rfl⟩
            refine lv_iushr (v := n_40) hx hb dJ6_numberOfTrailingZeros_0f7a4_77 en_40.symm ?_
            refine lv_iadd hx hb dJ6_numberOfTrailingZeros_0f7a4_78 ?_
            refine lv_topi (fun n_41 en_41 => ?_)
            clear en_41
            exact W.iret (v := n_41) hx hb hr (fun t ht hW => ⟨n_41, rfl, trivial, ht⟩) (fun _ h => absurd h List.not_mem_nil) dJ6_numberOfTrailingZeros_0f7a4_79
          · skip
            have tc_39 : ¬ n_36.toInt ≤ 4 := fun h => c_39 ((fa_le _ _).mpr h)
            refine lv_iinc (v := 19) (lv' := [(1, .int 19), (0, .int n_36)]) hx hb dJ6_numberOfTrailingZeros_0f7a4_67 hl (k := 1) rfl (by decide) (by decide) rfl (fun ls hl => ?_)
            refine lv_iload_n hx hb dJ6_numberOfTrailingZeros_0f7a4_70 rfl (lv_at hl 1 rfl) ?_
            refine lv_iconst (v := 2) hx hb dJ6_numberOfTrailingZeros_0f7a4_71 (by decide) ?_
            obtain ⟨n_42, en_42⟩ : ∃ z : Int32, z = (n_36.toUInt32 >>> ((2 : Int32).toUInt32 &&& Int32.toUInt32 31)).toInt32 := ⟨_, rfl⟩
            refine lv_iushr (v := n_42) hx hb dJ6_numberOfTrailingZeros_0f7a4_72 en_42.symm ?_
            refine lv_istore_n (lv' := [(0, .int n_42), (1, .int 19)]) hx hb dJ6_numberOfTrailingZeros_0f7a4_73 rfl hl (by decide) rfl (fun ls hl => ?_)
            refine lv_iload_n hx hb dJ6_numberOfTrailingZeros_0f7a4_74 rfl (lv_at hl 1 rfl) ?_
            refine lv_iload_n hx hb dJ6_numberOfTrailingZeros_0f7a4_75 rfl (lv_at hl 0 rfl) ?_
            refine lv_iconst (v := 1) hx hb dJ6_numberOfTrailingZeros_0f7a4_76 (by decide) ?_
            obtain ⟨n_43, en_43⟩ : ∃ z : Int32, z = (n_42.toUInt32 >>> ((1 : Int32).toUInt32 &&& Int32.toUInt32 31)).toInt32 := ⟨_, rfl⟩
            refine lv_iushr (v := n_43) hx hb dJ6_numberOfTrailingZeros_0f7a4_77 en_43.symm ?_
            refine lv_iadd hx hb dJ6_numberOfTrailingZeros_0f7a4_78 ?_
            refine lv_topi (fun n_44 en_44 => ?_)
            clear en_44
            exact W.iret (v := n_44) hx hb hr (fun t ht hW => ⟨n_44, rfl, trivial, ht⟩) (fun _ h => absurd h List.not_mem_nil) dJ6_numberOfTrailingZeros_0f7a4_79
        · skip
          have tc_38 : ¬ n_36.toInt ≤ 16 := fun h => c_38 ((fa_le _ _).mpr h)
          refine lv_iinc (v := 21) (lv' := [(1, .int 21), (0, .int n_36)]) hx hb dJ6_numberOfTrailingZeros_0f7a4_55 hl (k := 1) rfl (by decide) (by decide) rfl (fun ls hl => ?_)
          refine lv_iload_n hx hb dJ6_numberOfTrailingZeros_0f7a4_58 rfl (lv_at hl 1 rfl) ?_
          refine lv_iconst (v := 4) hx hb dJ6_numberOfTrailingZeros_0f7a4_59 (by decide) ?_
          obtain ⟨n_45, en_45⟩ : ∃ z : Int32, z = (n_36.toUInt32 >>> ((4 : Int32).toUInt32 &&& Int32.toUInt32 31)).toInt32 := ⟨_, rfl⟩
          refine lv_iushr (v := n_45) hx hb dJ6_numberOfTrailingZeros_0f7a4_60 en_45.symm ?_
          refine lv_istore_n (lv' := [(0, .int n_45), (1, .int 21)]) hx hb dJ6_numberOfTrailingZeros_0f7a4_61 rfl hl (by decide) rfl (fun ls hl => ?_)
          refine lv_iload_n hx hb dJ6_numberOfTrailingZeros_0f7a4_62 rfl (lv_at hl 0 rfl) ?_
          refine lv_iconst (v := 4) hx hb dJ6_numberOfTrailingZeros_0f7a4_63 (by decide) ?_
          refine lv_icmp_le (tgt := 74) hx hb dJ6_numberOfTrailingZeros_0f7a4_64 (by decide) (fun c_46 => ?_) (fun c_46 => ?_)
          · skip
            have tc_46 : n_45.toInt ≤ 4 := (fa_le _ _).mp c_46
            refine lv_iload_n hx hb dJ6_numberOfTrailingZeros_0f7a4_74 rfl (lv_at hl 1 rfl) ?_
            refine lv_iload_n hx hb dJ6_numberOfTrailingZeros_0f7a4_75 rfl (lv_at hl 0 rfl) ?_
            refine lv_iconst (v := 1) hx hb dJ6_numberOfTrailingZeros_0f7a4_76 (by decide) ?_
            obtain ⟨n_47, en_47⟩ : ∃ z : Int32, z = (n_45.toUInt32 >>> ((1 : Int32).toUInt32 &&& Int32.toUInt32 31)).toInt32 := ⟨_, rfl⟩
            refine lv_iushr (v := n_47) hx hb dJ6_numberOfTrailingZeros_0f7a4_77 en_47.symm ?_
            refine lv_iadd hx hb dJ6_numberOfTrailingZeros_0f7a4_78 ?_
            refine lv_topi (fun n_48 en_48 => ?_)
            clear en_48
            exact W.iret (v := n_48) hx hb hr (fun t ht hW => ⟨n_48, rfl, trivial, ht⟩) (fun _ h => absurd h List.not_mem_nil) dJ6_numberOfTrailingZeros_0f7a4_79
          · skip
            have tc_46 : ¬ n_45.toInt ≤ 4 := fun h => c_46 ((fa_le _ _).mpr h)
            refine lv_iinc (v := 23) (lv' := [(1, .int 23), (0, .int n_45)]) hx hb dJ6_numberOfTrailingZeros_0f7a4_67 hl (k := 1) rfl (by decide) (by decide) rfl (fun ls hl => ?_)
            refine lv_iload_n hx hb dJ6_numberOfTrailingZeros_0f7a4_70 rfl (lv_at hl 1 rfl) ?_
            refine lv_iconst (v := 2) hx hb dJ6_numberOfTrailingZeros_0f7a4_71 (by decide) ?_
            obtain ⟨n_49, en_49⟩ : ∃ z : Int32, z = (n_45.toUInt32 >>> ((2 : Int32).toUInt32 &&& Int32.toUInt32 31)).toInt32 := ⟨_, rfl⟩
            refine lv_iushr (v := n_49) hx hb dJ6_numberOfTrailingZeros_0f7a4_72 en_49.symm ?_
            refine lv_istore_n (lv' := [(0, .int n_49), (1, .int 23)]) hx hb dJ6_numberOfTrailingZeros_0f7a4_73 rfl hl (by decide) rfl (fun ls hl => ?_)
            refine lv_iload_n hx hb dJ6_numberOfTrailingZeros_0f7a4_74 rfl (lv_at hl 1 rfl) ?_
            refine lv_iload_n hx hb dJ6_numberOfTrailingZeros_0f7a4_75 rfl (lv_at hl 0 rfl) ?_
            refine lv_iconst (v := 1) hx hb dJ6_numberOfTrailingZeros_0f7a4_76 (by decide) ?_
            obtain ⟨n_50, en_50⟩ : ∃ z : Int32, z = (n_49.toUInt32 >>> ((1 : Int32).toUInt32 &&& Int32.toUInt32 31)).toInt32 := ⟨_, rfl⟩
            refine lv_iushr (v := n_50) hx hb dJ6_numberOfTrailingZeros_0f7a4_77 en_50.symm ?_
            refine lv_iadd hx hb dJ6_numberOfTrailingZeros_0f7a4_78 ?_
            refine lv_topi (fun n_51 en_51 => ?_)
            clear en_51
            exact W.iret (v := n_51) hx hb hr (fun t ht hW => ⟨n_51, rfl, trivial, ht⟩) (fun _ h => absurd h List.not_mem_nil) dJ6_numberOfTrailingZeros_0f7a4_79
      · skip
        have tc_37 : ¬ n_36.toInt ≤ 256 := fun h => c_37 ((fa_le _ _).mpr h)
        refine lv_iinc (v := 25) (lv' := [(1, .int 25), (0, .int n_36)]) hx hb dJ6_numberOfTrailingZeros_0f7a4_41 hl (k := 1) rfl (by decide) (by decide) rfl (fun ls hl => ?_)
        refine lv_iload_n hx hb dJ6_numberOfTrailingZeros_0f7a4_44 rfl (lv_at hl 1 rfl) ?_
        refine lv_bipush (v := 8) hx hb dJ6_numberOfTrailingZeros_0f7a4_45 (by decide) ?_
        obtain ⟨n_52, en_52⟩ : ∃ z : Int32, z = (n_36.toUInt32 >>> ((8 : Int32).toUInt32 &&& Int32.toUInt32 31)).toInt32 := ⟨_, rfl⟩
        refine lv_iushr (v := n_52) hx hb dJ6_numberOfTrailingZeros_0f7a4_47 en_52.symm ?_
        refine lv_istore_n (lv' := [(0, .int n_52), (1, .int 25)]) hx hb dJ6_numberOfTrailingZeros_0f7a4_48 rfl hl (by decide) rfl (fun ls hl => ?_)
        refine lv_iload_n hx hb dJ6_numberOfTrailingZeros_0f7a4_49 rfl (lv_at hl 0 rfl) ?_
        refine lv_bipush (v := 16) hx hb dJ6_numberOfTrailingZeros_0f7a4_50 (by decide) ?_
        refine lv_icmp_le (tgt := 62) hx hb dJ6_numberOfTrailingZeros_0f7a4_52 (by decide) (fun c_53 => ?_) (fun c_53 => ?_)
        · skip
          have tc_53 : n_52.toInt ≤ 16 := (fa_le _ _).mp c_53
          refine lv_iload_n hx hb dJ6_numberOfTrailingZeros_0f7a4_62 rfl (lv_at hl 0 rfl) ?_
          refine lv_iconst (v := 4) hx hb dJ6_numberOfTrailingZeros_0f7a4_63 (by decide) ?_
          refine lv_icmp_le (tgt := 74) hx hb dJ6_numberOfTrailingZeros_0f7a4_64 (by decide) (fun c_54 => ?_) (fun c_54 => ?_)
          · skip
            have tc_54 : n_52.toInt ≤ 4 := (fa_le _ _).mp c_54
            refine lv_iload_n hx hb dJ6_numberOfTrailingZeros_0f7a4_74 rfl (lv_at hl 1 rfl) ?_
            refine lv_iload_n hx hb dJ6_numberOfTrailingZeros_0f7a4_75 rfl (lv_at hl 0 rfl) ?_
            refine lv_iconst (v := 1) hx hb dJ6_numberOfTrailingZeros_0f7a4_76 (by decide) ?_
            obtain ⟨n_55, en_55⟩ : ∃ z : Int32, z = (n_52.toUInt32 >>> ((1 : Int32).toUInt32 &&& Int32.toUInt32 31)).toInt32 := ⟨_, rfl⟩
            refine lv_iushr (v := n_55) hx hb dJ6_numberOfTrailingZeros_0f7a4_77 en_55.symm ?_
            refine lv_iadd hx hb dJ6_numberOfTrailingZeros_0f7a4_78 ?_
            refine lv_topi (fun n_56 en_56 => ?_)
            clear en_56
            exact W.iret (v := n_56) hx hb hr (fun t ht hW => ⟨n_56, rfl, trivial, ht⟩) (fun _ h => absurd h List.not_mem_nil) dJ6_numberOfTrailingZeros_0f7a4_79
          · skip
            have tc_54 : ¬ n_52.toInt ≤ 4 := fun h => c_54 ((fa_le _ _).mpr h)
            refine lv_iinc (v := 27) (lv' := [(1, .int 27), (0, .int n_52)]) hx hb dJ6_numberOfTrailingZeros_0f7a4_67 hl (k := 1) rfl (by decide) (by decide) rfl (fun ls hl => ?_)
            refine lv_iload_n hx hb dJ6_numberOfTrailingZeros_0f7a4_70 rfl (lv_at hl 1 rfl) ?_
            refine lv_iconst (v := 2) hx hb dJ6_numberOfTrailingZeros_0f7a4_71 (by decide) ?_
            obtain ⟨n_57, en_57⟩ : ∃ z : Int32, z = (n_52.toUInt32 >>> ((2 : Int32).toUInt32 &&& Int32.toUInt32 31)).toInt32 := ⟨_, rfl⟩
            refine lv_iushr (v := n_57) hx hb dJ6_numberOfTrailingZeros_0f7a4_72 en_57.symm ?_
            refine lv_istore_n (lv' := [(0, .int n_57), (1, .int 27)]) hx hb dJ6_numberOfTrailingZeros_0f7a4_73 rfl hl (by decide) rfl (fun ls hl => ?_)
            refine lv_iload_n hx hb dJ6_numberOfTrailingZeros_0f7a4_74 rfl (lv_at hl 1 rfl) ?_
            refine lv_iload_n hx hb dJ6_numberOfTrailingZeros_0f7a4_75 rfl (lv_at hl 0 rfl) ?_
            refine lv_iconst (v := 1) hx hb dJ6_numberOfTrailingZeros_0f7a4_76 (by decide) ?_
            obtain ⟨n_58, en_58⟩ : ∃ z : Int32, z = (n_57.toUInt32 >>> ((1 : Int32).toUInt32 &&& Int32.toUInt32 31)).toInt32 := ⟨_, rfl⟩
            refine lv_iushr (v := n_58) hx hb dJ6_numberOfTrailingZeros_0f7a4_77 en_58.symm ?_
            refine lv_iadd hx hb dJ6_numberOfTrailingZeros_0f7a4_78 ?_
            refine lv_topi (fun n_59 en_59 => ?_)
            clear en_59
            exact W.iret (v := n_59) hx hb hr (fun t ht hW => ⟨n_59, rfl, trivial, ht⟩) (fun _ h => absurd h List.not_mem_nil) dJ6_numberOfTrailingZeros_0f7a4_79
        · skip
          have tc_53 : ¬ n_52.toInt ≤ 16 := fun h => c_53 ((fa_le _ _).mpr h)
          refine lv_iinc (v := 29) (lv' := [(1, .int 29), (0, .int n_52)]) hx hb dJ6_numberOfTrailingZeros_0f7a4_55 hl (k := 1) rfl (by decide) (by decide) rfl (fun ls hl => ?_)
          refine lv_iload_n hx hb dJ6_numberOfTrailingZeros_0f7a4_58 rfl (lv_at hl 1 rfl) ?_
          refine lv_iconst (v := 4) hx hb dJ6_numberOfTrailingZeros_0f7a4_59 (by decide) ?_
          obtain ⟨n_60, en_60⟩ : ∃ z : Int32, z = (n_52.toUInt32 >>> ((4 : Int32).toUInt32 &&& Int32.toUInt32 31)).toInt32 := ⟨_, rfl⟩
          refine lv_iushr (v := n_60) hx hb dJ6_numberOfTrailingZeros_0f7a4_60 en_60.symm ?_
          refine lv_istore_n (lv' := [(0, .int n_60), (1, .int 29)]) hx hb dJ6_numberOfTrailingZeros_0f7a4_61 rfl hl (by decide) rfl (fun ls hl => ?_)
          refine lv_iload_n hx hb dJ6_numberOfTrailingZeros_0f7a4_62 rfl (lv_at hl 0 rfl) ?_
          refine lv_iconst (v := 4) hx hb dJ6_numberOfTrailingZeros_0f7a4_63 (by decide) ?_
          refine lv_icmp_le (tgt := 74) hx hb dJ6_numberOfTrailingZeros_0f7a4_64 (by decide) (fun c_61 => ?_) (fun c_61 => ?_)
          · skip
            have tc_61 : n_60.toInt ≤ 4 := (fa_le _ _).mp c_61
            refine lv_iload_n hx hb dJ6_numberOfTrailingZeros_0f7a4_74 rfl (lv_at hl 1 rfl) ?_
            refine lv_iload_n hx hb dJ6_numberOfTrailingZeros_0f7a4_75 rfl (lv_at hl 0 rfl) ?_
            refine lv_iconst (v := 1) hx hb dJ6_numberOfTrailingZeros_0f7a4_76 (by decide) ?_
            obtain ⟨n_62, en_62⟩ : ∃ z : Int32, z = (n_60.toUInt32 >>> ((1 : Int32).toUInt32 &&& Int32.toUInt32 31)).toInt32 := ⟨_, rfl⟩
            refine lv_iushr (v := n_62) hx hb dJ6_numberOfTrailingZeros_0f7a4_77 en_62.symm ?_
            refine lv_iadd hx hb dJ6_numberOfTrailingZeros_0f7a4_78 ?_
            refine lv_topi (fun n_63 en_63 => ?_)
            clear en_63
            exact W.iret (v := n_63) hx hb hr (fun t ht hW => ⟨n_63, rfl, trivial, ht⟩) (fun _ h => absurd h List.not_mem_nil) dJ6_numberOfTrailingZeros_0f7a4_79
          · skip
            have tc_61 : ¬ n_60.toInt ≤ 4 := fun h => c_61 ((fa_le _ _).mpr h)
            refine lv_iinc (v := 31) (lv' := [(1, .int 31), (0, .int n_60)]) hx hb dJ6_numberOfTrailingZeros_0f7a4_67 hl (k := 1) rfl (by decide) (by decide) rfl (fun ls hl => ?_)
            refine lv_iload_n hx hb dJ6_numberOfTrailingZeros_0f7a4_70 rfl (lv_at hl 1 rfl) ?_
            refine lv_iconst (v := 2) hx hb dJ6_numberOfTrailingZeros_0f7a4_71 (by decide) ?_
            obtain ⟨n_64, en_64⟩ : ∃ z : Int32, z = (n_60.toUInt32 >>> ((2 : Int32).toUInt32 &&& Int32.toUInt32 31)).toInt32 := ⟨_, rfl⟩
            refine lv_iushr (v := n_64) hx hb dJ6_numberOfTrailingZeros_0f7a4_72 en_64.symm ?_
            refine lv_istore_n (lv' := [(0, .int n_64), (1, .int 31)]) hx hb dJ6_numberOfTrailingZeros_0f7a4_73 rfl hl (by decide) rfl (fun ls hl => ?_)
            refine lv_iload_n hx hb dJ6_numberOfTrailingZeros_0f7a4_74 rfl (lv_at hl 1 rfl) ?_
            refine lv_iload_n hx hb dJ6_numberOfTrailingZeros_0f7a4_75 rfl (lv_at hl 0 rfl) ?_
            refine lv_iconst (v := 1) hx hb dJ6_numberOfTrailingZeros_0f7a4_76 (by decide) ?_
            obtain ⟨n_65, en_65⟩ : ∃ z : Int32, z = (n_64.toUInt32 >>> ((1 : Int32).toUInt32 &&& Int32.toUInt32 31)).toInt32 := ⟨_, rfl⟩
            refine lv_iushr (v := n_65) hx hb dJ6_numberOfTrailingZeros_0f7a4_77 en_65.symm ?_
            refine lv_iadd hx hb dJ6_numberOfTrailingZeros_0f7a4_78 ?_
            refine lv_topi (fun n_66 en_66 => ?_)
            clear en_66
            exact W.iret (v := n_66) hx hb hr (fun t ht hW => ⟨n_66, rfl, trivial, ht⟩) (fun _ h => absurd h List.not_mem_nil) dJ6_numberOfTrailingZeros_0f7a4_79
  · skip
    have tc_4 : ¬ 0 < n_3.toInt := fun h => c_4 ((fa_lt _ _).mpr h)
    refine lv_iload_n hx hb dJ6_numberOfTrailingZeros_0f7a4_12 rfl (lv_at hl 0 rfl) ?_
    refine lv_bipush (v := 32) hx hb dJ6_numberOfTrailingZeros_0f7a4_13 (by decide) ?_
    refine lv_iand hx hb dJ6_numberOfTrailingZeros_0f7a4_15 ?_
    refine lv_topi (fun n_67 en_67 => ?_)
    clear en_67
    exact W.iret (v := n_67) hx hb hr (fun t ht hW => ⟨n_67, rfl, trivial, ht⟩) (fun _ h => absurd h List.not_mem_nil) dJ6_numberOfTrailingZeros_0f7a4_16

def w_l_cellsOff : List Cond := .code yX1_cellsOff cX1_cellsOff 4 (some .int) :: (([.methodLink RX1 15 yJ13_bitCount_95d88, .static yJ13_bitCount_95d88, .initialized RJ13, .code yJ13_bitCount_95d88 cJ13_bitCount_95d88 2 (some .int), .constantLong RJ13 314 (6148914691236517205), .constantLong RJ13 316 (3689348814741910323), .constantLong RJ13 318 (1085102592571150095)] : List Cond))
set_option maxRecDepth 20000 in
theorem g_l_cellsOff_j_Lbit_15 : GoodIn w_l_cellsOff (va_wsS RX1 15 yJ13_bitCount_95d88 w_j_Lbit) := goodIn_r _ [1, 2, 3, 4, 5, 6, 7] rfl (by decide +kernel)
set_option maxHeartbeats 4000000 in
set_option maxRecDepth 100000 in
theorem l_cellsOff (l : Launch) (dC : Nat → ClassId) (dI : Nat → Nat → Nat) (ad : Nat → Nat) (a : Int64) (b : Int64) : Met l yX1_cellsOff w_l_cellsOff ({ frames := 1, cells := 0, slots := 0, locals := 21 } : Room) (va_Pc [.long a, .long b] (preS dC dI ad [] [])) (vp_Si (fun r => True)) 0 0 (fun _ => False) := by
  refine Met.ofW (cc := cX1_cellsOff) (maxL := 4) (ret := (some .int)) (by decide) rfl ?_
  intro p e s m args below meth c s₁ B hml hv
  obtain ⟨rfl, hP, hK, hev⟩ := hv
  have hx := B.exec
  have hb := B.bytes
  have hr := B.returns
  have hts := atoms_spec (ws := w_l_cellsOff) B.pre
  have hown : s.vm.findClass RX1 = some m.cls := findClass_of_methodNamed B.named
  have hlocks := B.notSynchronized
  have hP : va_P (dC, dI) vwCl [] s.heap := hP
  have hl := lv_entry ([.long a, .long b]) (n := 4) (Nat.le_of_ble_eq_true rfl)
  rw [lg_entry_eq]
  generalize (lg_sl ([.long a, .long b]) ++ List.replicate (4 - (lg_sl ([.long a, .long b])).length) Slot.unset).toArray = ls at hl ⊢
  have hl : lv_has ls 4 [(0, .long a), (2, .long b)] := hl
  refine lv_lload_n hx hb dX1_cellsOff_0 rfl (lv_at hl 0 rfl) ?_
  refine lv_lload_n hx hb dX1_cellsOff_1 rfl (lv_at hl 1 rfl) ?_
  refine lv_lxor hx hb dX1_cellsOff_2 ?_
  refine lv_topl (fun n_1 en_1 => ?_)
  clear en_1
  have hPc := hP.sub (ws' := []) [] rfl
  have hKc := hK.sub (tys' := []) [] rfl
  refine vp_callSi (W.runS (As := [.long n_1]) (rest := []) ⟨hx, hb, hml, hown, hts⟩ (j_Lbit l dC dI ad n_1 ) (va_cwS 1 hts g_l_cellsOff_j_Lbit_15 rfl rfl rfl (by decide +kernel) ⟨(Nat.le_of_ble_eq_true rfl), (Nat.le_of_ble_eq_true rfl)⟩) ⟨preS_blind, fun U hU hW => ⟨rfl, preS_at hU hW hPc hKc hev⟩⟩ rfl rfl hl.1 rfl (lv_room (Nat.le_of_ble_eq_true rfl)) dX1_cellsOff_3 ⟨(Nat.le_of_ble_eq_true rfl), (Nat.le_of_ble_eq_true rfl)⟩) (fun r_2 hw => ?_)
  exact W.iret (v := r_2) hx hb hr (fun t ht hW => ⟨r_2, rfl, trivial, ht⟩) (fun _ h => absurd h List.not_mem_nil) dX1_cellsOff_6

def w_l_rowOf : List Cond := .code yX1_rowOf cX1_rowOf 3 (some .int) :: (([.constantLong RX1 21 (255)] : List Cond))
set_option maxHeartbeats 4000000 in
set_option maxRecDepth 100000 in
theorem l_rowOf (l : Launch) (dC : Nat → ClassId) (dI : Nat → Nat → Nat) (ad : Nat → Nat) (a : Int64) (b : Int32) : Met l yX1_rowOf w_l_rowOf ({ frames := 0, cells := 0, slots := 0, locals := 0 } : Room) (va_Pc [.long a, .int b] (preS dC dI ad [] [])) (vp_Si (fun r => True)) 0 0 (fun _ => False) := by
  refine Met.ofW (cc := cX1_rowOf) (maxL := 3) (ret := (some .int)) (by decide) rfl ?_
  intro p e s m args below meth c s₁ B hml hv
  obtain ⟨rfl, hP, hK, hev⟩ := hv
  have hx := B.exec
  have hb := B.bytes
  have hr := B.returns
  have hts := atoms_spec (ws := w_l_rowOf) B.pre
  have hown : s.vm.findClass RX1 = some m.cls := findClass_of_methodNamed B.named
  have hlocks := B.notSynchronized
  have hP : va_P (dC, dI) vwCl [] s.heap := hP
  have hl := lv_entry ([.long a, .int b]) (n := 3) (Nat.le_of_ble_eq_true rfl)
  rw [lg_entry_eq]
  generalize (lg_sl ([.long a, .int b]) ++ List.replicate (3 - (lg_sl ([.long a, .int b])).length) Slot.unset).toArray = ls at hl ⊢
  have hl : lv_has ls 3 [(0, .long a), (2, .int b)] := hl
  refine lv_lload_n hx hb dX1_rowOf_0 rfl (lv_at hl 0 rfl) ?_
  refine lv_bipush (v := 8) hx hb dX1_rowOf_1 (by decide) ?_
  refine lv_iload_n hx hb dX1_rowOf_3 rfl (lv_at hl 1 rfl) ?_
  refine lv_imul hx hb dX1_rowOf_4 ?_
  refine lv_topi (fun n_1 en_1 => ?_)
  clear en_1
  obtain ⟨n_2, en_2⟩ : ∃ z : Int64, z = (a.toUInt64 >>> (n_1.toInt64.toUInt64 &&& Int64.toUInt64 63)).toInt64 := ⟨_, rfl⟩
  refine lv_lushr (v := n_2) hx hb dX1_rowOf_5 en_2.symm ?_
  clear en_2
  refine lv_ldc2 hx hb hown (hts _ (List.mem_of_getElem? (i := 1) rfl)) dX1_rowOf_6 ?_
  refine lv_land hx hb dX1_rowOf_9 ?_
  refine lv_topl (fun n_3 en_3 => ?_)
  clear en_3
  obtain ⟨n_4, en_4⟩ : ∃ z : Int32, z = n_3.toInt32 := ⟨_, rfl⟩
  refine lv_l2i (v := n_4) hx hb dX1_rowOf_10 en_4.symm ?_
  clear en_4
  exact W.iret (v := n_4) hx hb hr (fun t ht hW => ⟨n_4, rfl, trivial, ht⟩) (fun _ h => absurd h List.not_mem_nil) dX1_rowOf_11

def w_x_isKind : List Cond := .code yX8_isKind cX8_isKind 1 (some .boolean) :: (([] : List Cond))
set_option maxHeartbeats 4000000 in
set_option maxRecDepth 100000 in
theorem x_isKind (l : Launch) (dC : Nat → ClassId) (dI : Nat → Nat → Nat) (ad : Nat → Nat) (a : Int32) : Met l yX8_isKind w_x_isKind ({ frames := 0, cells := 0, slots := 0, locals := 0 } : Room) (va_Pc [.int a] (preS dC dI ad [] [])) (vp_Si (fun r => True)) 0 0 (fun _ => False) := by
  refine Met.ofW (cc := cX8_isKind) (maxL := 1) (ret := (some .boolean)) (by decide) rfl ?_
  intro p e s m args below meth c s₁ B hml hv
  obtain ⟨rfl, hP, hK, hev⟩ := hv
  have hx := B.exec
  have hb := B.bytes
  have hr := B.returns
  have hts := atoms_spec (ws := w_x_isKind) B.pre
  have hown : s.vm.findClass RX8 = some m.cls := findClass_of_methodNamed B.named
  have hlocks := B.notSynchronized
  have hP : va_P (dC, dI) vwCl [] s.heap := hP
  have hl := lv_entry ([.int a]) (n := 1) (Nat.le_of_ble_eq_true rfl)
  rw [lg_entry_eq]
  generalize (lg_sl ([.int a]) ++ List.replicate (1 - (lg_sl ([.int a])).length) Slot.unset).toArray = ls at hl ⊢
  have hl : lv_has ls 1 [(0, .int a)] := hl
  refine lv_iload_n hx hb dX8_isKind_0 rfl (lv_at hl 0 rfl) ?_
  refine lv_if_lt (tgt := 14) hx hb dX8_isKind_1 (by decide) (fun c_1 => ?_) (fun c_1 => ?_)
  · skip
    have tc_1 : a.toInt < 0 := (fa_lt _ _).mp c_1
    refine lv_iconst (v := 0) hx hb dX8_isKind_14 (by decide) ?_
    exact W.zret (v := (0 : Int32)) hx hb hr (by decide) (fun t ht hW => ⟨(0 : Int32), rfl, trivial, ht⟩) (fun _ h => absurd h List.not_mem_nil) dX8_isKind_15
  · skip
    have tc_1 : ¬ a.toInt < 0 := fun h => c_1 ((fa_lt _ _).mpr h)
    refine lv_iload_n hx hb dX8_isKind_4 rfl (lv_at hl 0 rfl) ?_
    refine lv_bipush (v := 6) hx hb dX8_isKind_5 (by decide) ?_
    refine lv_icmp_ge (tgt := 14) hx hb dX8_isKind_7 (by decide) (fun c_2 => ?_) (fun c_2 => ?_)
    · skip
      have tc_2 : 6 ≤ a.toInt := (fa_le _ _).mp c_2
      refine lv_iconst (v := 0) hx hb dX8_isKind_14 (by decide) ?_
      exact W.zret (v := (0 : Int32)) hx hb hr (by decide) (fun t ht hW => ⟨(0 : Int32), rfl, trivial, ht⟩) (fun _ h => absurd h List.not_mem_nil) dX8_isKind_15
    · skip
      have tc_2 : ¬ 6 ≤ a.toInt := fun h => c_2 ((fa_le _ _).mpr h)
      refine lv_iconst (v := 1) hx hb dX8_isKind_10 (by decide) ?_
      refine lv_goto (tgt := 15) hx hb dX8_isKind_11 (by decide) ?_
      exact W.zret (v := (1 : Int32)) hx hb hr (by decide) (fun t ht hW => ⟨(1 : Int32), rfl, trivial, ht⟩) (fun _ h => absurd h List.not_mem_nil) dX8_isKind_15

def w_x_isPoints : List Cond := .code yX8_isPoints cX8_isPoints 1 (some .boolean) :: (([.constant RX8 307 (65535)] : List Cond))
set_option maxHeartbeats 4000000 in
set_option maxRecDepth 100000 in
theorem x_isPoints (l : Launch) (dC : Nat → ClassId) (dI : Nat → Nat → Nat) (ad : Nat → Nat) (a : Int32) : Met l yX8_isPoints w_x_isPoints ({ frames := 0, cells := 0, slots := 0, locals := 0 } : Room) (va_Pc [.int a] (preS dC dI ad [] [])) (vp_Si (fun r => True)) 0 0 (fun _ => False) := by
  refine Met.ofW (cc := cX8_isPoints) (maxL := 1) (ret := (some .boolean)) (by decide) rfl ?_
  intro p e s m args below meth c s₁ B hml hv
  obtain ⟨rfl, hP, hK, hev⟩ := hv
  have hx := B.exec
  have hb := B.bytes
  have hr := B.returns
  have hts := atoms_spec (ws := w_x_isPoints) B.pre
  have hown : s.vm.findClass RX8 = some m.cls := findClass_of_methodNamed B.named
  have hlocks := B.notSynchronized
  have hP : va_P (dC, dI) vwCl [] s.heap := hP
  have hl := lv_entry ([.int a]) (n := 1) (Nat.le_of_ble_eq_true rfl)
  rw [lg_entry_eq]
  generalize (lg_sl ([.int a]) ++ List.replicate (1 - (lg_sl ([.int a])).length) Slot.unset).toArray = ls at hl ⊢
  have hl : lv_has ls 1 [(0, .int a)] := hl
  refine lv_iload_n hx hb dX8_isPoints_0 rfl (lv_at hl 0 rfl) ?_
  refine lv_if_lt (tgt := 15) hx hb dX8_isPoints_1 (by decide) (fun c_1 => ?_) (fun c_1 => ?_)
  · skip
    have tc_1 : a.toInt < 0 := (fa_lt _ _).mp c_1
    refine lv_iconst (v := 0) hx hb dX8_isPoints_15 (by decide) ?_
    exact W.zret (v := (0 : Int32)) hx hb hr (by decide) (fun t ht hW => ⟨(0 : Int32), rfl, trivial, ht⟩) (fun _ h => absurd h List.not_mem_nil) dX8_isPoints_16
  · skip
    have tc_1 : ¬ a.toInt < 0 := fun h => c_1 ((fa_lt _ _).mpr h)
    refine lv_iload_n hx hb dX8_isPoints_4 rfl (lv_at hl 0 rfl) ?_
    refine lv_ldcw hx hb hown (hts _ (List.mem_of_getElem? (i := 1) rfl)) dX8_isPoints_5 ?_
    refine lv_icmp_gt (tgt := 15) hx hb dX8_isPoints_8 (by decide) (fun c_2 => ?_) (fun c_2 => ?_)
    · skip
      have tc_2 : 65535 < a.toInt := (fa_lt _ _).mp c_2
      refine lv_iconst (v := 0) hx hb dX8_isPoints_15 (by decide) ?_
      exact W.zret (v := (0 : Int32)) hx hb hr (by decide) (fun t ht hW => ⟨(0 : Int32), rfl, trivial, ht⟩) (fun _ h => absurd h List.not_mem_nil) dX8_isPoints_16
    · skip
      have tc_2 : ¬ 65535 < a.toInt := fun h => c_2 ((fa_lt _ _).mpr h)
      refine lv_iconst (v := 1) hx hb dX8_isPoints_11 (by decide) ?_
      refine lv_goto (tgt := 16) hx hb dX8_isPoints_12 (by decide) ?_
      exact W.zret (v := (1 : Int32)) hx hb hr (by decide) (fun t ht hW => ⟨(1 : Int32), rfl, trivial, ht⟩) (fun _ h => absurd h List.not_mem_nil) dX8_isPoints_16

def w_x_isWidth : List Cond := .code yX8_isWidth cX8_isWidth 1 (some .boolean) :: (([] : List Cond))
set_option maxHeartbeats 4000000 in
set_option maxRecDepth 100000 in
theorem x_isWidth (l : Launch) (dC : Nat → ClassId) (dI : Nat → Nat → Nat) (ad : Nat → Nat) (a : Int32) : Met l yX8_isWidth w_x_isWidth ({ frames := 0, cells := 0, slots := 0, locals := 0 } : Room) (va_Pc [.int a] (preS dC dI ad [] [])) (vp_Si (fun r => (r.toInt = 0 ∧ ¬ a.toInt = 0 ∧ ¬ a.toInt = 8 ∧ ¬ a.toInt = 16 ∧ ¬ a.toInt = 64) ∨ (r.toInt = 1 ∧ (a.toInt = 0 ∨ a.toInt = 8 ∨ a.toInt = 16 ∨ a.toInt = 64)))) 0 0 (fun _ => False) := by
  refine Met.ofW (cc := cX8_isWidth) (maxL := 1) (ret := (some .boolean)) (by decide) rfl ?_
  intro p e s m args below meth c s₁ B hml hv
  obtain ⟨rfl, hP, hK, hev⟩ := hv
  have hx := B.exec
  have hb := B.bytes
  have hr := B.returns
  have hts := atoms_spec (ws := w_x_isWidth) B.pre
  have hown : s.vm.findClass RX8 = some m.cls := findClass_of_methodNamed B.named
  have hlocks := B.notSynchronized
  have hP : va_P (dC, dI) vwCl [] s.heap := hP
  have hl := lv_entry ([.int a]) (n := 1) (Nat.le_of_ble_eq_true rfl)
  rw [lg_entry_eq]
  generalize (lg_sl ([.int a]) ++ List.replicate (1 - (lg_sl ([.int a])).length) Slot.unset).toArray = ls at hl ⊢
  have hl : lv_has ls 1 [(0, .int a)] := hl
  refine lv_iload_n hx hb dX8_isWidth_0 rfl (lv_at hl 0 rfl) ?_
  refine lv_if_eq (tgt := 22) hx hb dX8_isWidth_1 (by decide) (fun c_1 => ?_) (fun c_1 => ?_)
  · skip
    have tc_1 : a.toInt = 0 := (fa_eq _ _).mp c_1
    refine lv_iconst (v := 1) hx hb dX8_isWidth_22 (by decide) ?_
    refine lv_goto (tgt := 27) hx hb dX8_isWidth_23 (by decide) ?_
    exact W.zret (v := (1 : Int32)) hx hb hr (by decide) (fun t ht hW => ⟨(1 : Int32), rfl, (by first | omega | decide | (simp only [fa_lt, fa_le, fa_eq, and_true, true_and, and_false, false_and, not_true_eq_false, not_false_eq_true, li_0, li_1, li_2, li_3, li_4, li_5, li_6, li_7, li_8, li_9, li_10, li_12, li_15, li_16, li_20, li_30, li_34, li_38, li_40, li_63, li_64, li_65, li_78, li_120, li_1000, li_4000, li_10000, li_11077, li_255, li_65535, li_m1, li_m2, li_m1000000001, li_m1000000002, li_m1000000003, li_m1000000004, li_m1000000005, li_m1000000006, li_m1000000007, or_true, true_or, or_false, false_or, implies_true, true_implies, false_implies] <;> omega)), ht⟩) (fun _ h => absurd h List.not_mem_nil) dX8_isWidth_27
  · skip
    have tc_1 : ¬ a.toInt = 0 := fun h => c_1 ((fa_eq _ _).mpr h)
    refine lv_iload_n hx hb dX8_isWidth_4 rfl (lv_at hl 0 rfl) ?_
    refine lv_bipush (v := 8) hx hb dX8_isWidth_5 (by decide) ?_
    refine lv_icmp_eq (tgt := 22) hx hb dX8_isWidth_7 (by decide) (fun c_2 => ?_) (fun c_2 => ?_)
    · skip
      have tc_2 : a.toInt = 8 := (fa_eq _ _).mp c_2
      refine lv_iconst (v := 1) hx hb dX8_isWidth_22 (by decide) ?_
      refine lv_goto (tgt := 27) hx hb dX8_isWidth_23 (by decide) ?_
      exact W.zret (v := (1 : Int32)) hx hb hr (by decide) (fun t ht hW => ⟨(1 : Int32), rfl, (by first | omega | decide | (simp only [fa_lt, fa_le, fa_eq, and_true, true_and, and_false, false_and, not_true_eq_false, not_false_eq_true, li_0, li_1, li_2, li_3, li_4, li_5, li_6, li_7, li_8, li_9, li_10, li_12, li_15, li_16, li_20, li_30, li_34, li_38, li_40, li_63, li_64, li_65, li_78, li_120, li_1000, li_4000, li_10000, li_11077, li_255, li_65535, li_m1, li_m2, li_m1000000001, li_m1000000002, li_m1000000003, li_m1000000004, li_m1000000005, li_m1000000006, li_m1000000007, or_true, true_or, or_false, false_or, implies_true, true_implies, false_implies] <;> omega)), ht⟩) (fun _ h => absurd h List.not_mem_nil) dX8_isWidth_27
    · skip
      have tc_2 : ¬ a.toInt = 8 := fun h => c_2 ((fa_eq _ _).mpr h)
      refine lv_iload_n hx hb dX8_isWidth_10 rfl (lv_at hl 0 rfl) ?_
      refine lv_bipush (v := 16) hx hb dX8_isWidth_11 (by decide) ?_
      refine lv_icmp_eq (tgt := 22) hx hb dX8_isWidth_13 (by decide) (fun c_3 => ?_) (fun c_3 => ?_)
      · skip
        have tc_3 : a.toInt = 16 := (fa_eq _ _).mp c_3
        refine lv_iconst (v := 1) hx hb dX8_isWidth_22 (by decide) ?_
        refine lv_goto (tgt := 27) hx hb dX8_isWidth_23 (by decide) ?_
        exact W.zret (v := (1 : Int32)) hx hb hr (by decide) (fun t ht hW => ⟨(1 : Int32), rfl, (by first | omega | decide | (simp only [fa_lt, fa_le, fa_eq, and_true, true_and, and_false, false_and, not_true_eq_false, not_false_eq_true, li_0, li_1, li_2, li_3, li_4, li_5, li_6, li_7, li_8, li_9, li_10, li_12, li_15, li_16, li_20, li_30, li_34, li_38, li_40, li_63, li_64, li_65, li_78, li_120, li_1000, li_4000, li_10000, li_11077, li_255, li_65535, li_m1, li_m2, li_m1000000001, li_m1000000002, li_m1000000003, li_m1000000004, li_m1000000005, li_m1000000006, li_m1000000007, or_true, true_or, or_false, false_or, implies_true, true_implies, false_implies] <;> omega)), ht⟩) (fun _ h => absurd h List.not_mem_nil) dX8_isWidth_27
      · skip
        have tc_3 : ¬ a.toInt = 16 := fun h => c_3 ((fa_eq _ _).mpr h)
        refine lv_iload_n hx hb dX8_isWidth_16 rfl (lv_at hl 0 rfl) ?_
        refine lv_bipush (v := 64) hx hb dX8_isWidth_17 (by decide) ?_
        refine lv_icmp_ne (tgt := 26) hx hb dX8_isWidth_19 (by decide) (fun c_4 => ?_) (fun c_4 => ?_)
        · skip
          have tc_4 : ¬ a.toInt = 64 := fun h => c_4 ((fa_eq _ _).mpr h)
          refine lv_iconst (v := 0) hx hb dX8_isWidth_26 (by decide) ?_
          exact W.zret (v := (0 : Int32)) hx hb hr (by decide) (fun t ht hW => ⟨(0 : Int32), rfl, (by first | omega | decide | (simp only [fa_lt, fa_le, fa_eq, and_true, true_and, and_false, false_and, not_true_eq_false, not_false_eq_true, li_0, li_1, li_2, li_3, li_4, li_5, li_6, li_7, li_8, li_9, li_10, li_12, li_15, li_16, li_20, li_30, li_34, li_38, li_40, li_63, li_64, li_65, li_78, li_120, li_1000, li_4000, li_10000, li_11077, li_255, li_65535, li_m1, li_m2, li_m1000000001, li_m1000000002, li_m1000000003, li_m1000000004, li_m1000000005, li_m1000000006, li_m1000000007, or_true, true_or, or_false, false_or, implies_true, true_implies, false_implies] <;> omega)), ht⟩) (fun _ h => absurd h List.not_mem_nil) dX8_isWidth_27
        · skip
          have tc_4 : a.toInt = 64 := (fa_eq _ _).mp c_4
          refine lv_iconst (v := 1) hx hb dX8_isWidth_22 (by decide) ?_
          refine lv_goto (tgt := 27) hx hb dX8_isWidth_23 (by decide) ?_
          exact W.zret (v := (1 : Int32)) hx hb hr (by decide) (fun t ht hW => ⟨(1 : Int32), rfl, (by first | omega | decide | (simp only [fa_lt, fa_le, fa_eq, and_true, true_and, and_false, false_and, not_true_eq_false, not_false_eq_true, li_0, li_1, li_2, li_3, li_4, li_5, li_6, li_7, li_8, li_9, li_10, li_12, li_15, li_16, li_20, li_30, li_34, li_38, li_40, li_63, li_64, li_65, li_78, li_120, li_1000, li_4000, li_10000, li_11077, li_255, li_65535, li_m1, li_m2, li_m1000000001, li_m1000000002, li_m1000000003, li_m1000000004, li_m1000000005, li_m1000000006, li_m1000000007, or_true, true_or, or_false, false_or, implies_true, true_implies, false_implies] <;> omega)), ht⟩) (fun _ h => absurd h List.not_mem_nil) dX8_isWidth_27

