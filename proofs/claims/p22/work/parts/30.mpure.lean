theorem dX9_within_0 : decode cX9_within 0 = .ok (.iload_n 0, 1) := by decide +kernel
theorem dX9_within_1 : decode cX9_within 1 = .ok (.iload_n 1, 1) := by decide +kernel
theorem dX9_within_2 : decode cX9_within 2 = .ok (.if_icmp .lt 12, 3) := by decide +kernel
theorem dX9_within_5 : decode cX9_within 5 = .ok (.iload_n 0, 1) := by decide +kernel
theorem dX9_within_6 : decode cX9_within 6 = .ok (.iload_n 2, 1) := by decide +kernel
theorem dX9_within_7 : decode cX9_within 7 = .ok (.if_icmp .gt 7, 3) := by decide +kernel
theorem dX9_within_10 : decode cX9_within 10 = .ok (.iconst 1, 1) := by decide +kernel
theorem dX9_within_11 : decode cX9_within 11 = .ok (.goto 4, 3) := by decide +kernel
theorem dX9_within_14 : decode cX9_within 14 = .ok (.iconst 0, 1) := by decide +kernel
theorem dX9_within_15 : decode cX9_within 15 = .ok (.ireturn, 1) := by decide +kernel
theorem dX9_bits_0 : decode cX9_bits 0 = .ok (.iconst 0, 1) := by decide +kernel
theorem dX9_bits_1 : decode cX9_bits 1 = .ok (.istore_n 2, 1) := by decide +kernel
theorem dX9_bits_2 : decode cX9_bits 2 = .ok (.lload_n 0, 1) := by decide +kernel
theorem dX9_bits_3 : decode cX9_bits 3 = .ok (.lstore_n 3, 1) := by decide +kernel
theorem dX9_bits_4 : decode cX9_bits 4 = .ok (.lload_n 3, 1) := by decide +kernel
theorem dX9_bits_5 : decode cX9_bits 5 = .ok (.lconst 0, 1) := by decide +kernel
theorem dX9_bits_6 : decode cX9_bits 6 = .ok (.lcmp, 1) := by decide +kernel
theorem dX9_bits_7 : decode cX9_bits 7 = .ok (.ifCond .eq 15, 3) := by decide +kernel
theorem dX9_bits_10 : decode cX9_bits 10 = .ok (.iinc 2 1, 3) := by decide +kernel
theorem dX9_bits_13 : decode cX9_bits 13 = .ok (.lload_n 3, 1) := by decide +kernel
theorem dX9_bits_14 : decode cX9_bits 14 = .ok (.lload_n 3, 1) := by decide +kernel
theorem dX9_bits_15 : decode cX9_bits 15 = .ok (.lconst 1, 1) := by decide +kernel
theorem dX9_bits_16 : decode cX9_bits 16 = .ok (.lsub, 1) := by decide +kernel
theorem dX9_bits_17 : decode cX9_bits 17 = .ok (.land, 1) := by decide +kernel
theorem dX9_bits_18 : decode cX9_bits 18 = .ok (.lstore_n 3, 1) := by decide +kernel
theorem dX9_bits_19 : decode cX9_bits 19 = .ok (.goto (-15), 3) := by decide +kernel
theorem dX9_bits_22 : decode cX9_bits 22 = .ok (.iload_n 2, 1) := by decide +kernel
theorem dX9_bits_23 : decode cX9_bits 23 = .ok (.ireturn, 1) := by decide +kernel
theorem dX9_isKind_0 : decode cX9_isKind 0 = .ok (.iload_n 0, 1) := by decide +kernel
theorem dX9_isKind_1 : decode cX9_isKind 1 = .ok (.iconst 0, 1) := by decide +kernel
theorem dX9_isKind_2 : decode cX9_isKind 2 = .ok (.iconst 5, 1) := by decide +kernel
theorem dX9_isKind_3 : decode cX9_isKind 3 = .ok (.invokestatic 75, 3) := by decide +kernel
theorem dX9_isKind_6 : decode cX9_isKind 6 = .ok (.ireturn, 1) := by decide +kernel
theorem dX9_above_0 : decode cX9_above 0 = .ok (.iload_n 0, 1) := by decide +kernel
theorem dX9_above_1 : decode cX9_above 1 = .ok (.ifCond .ne 7, 3) := by decide +kernel
theorem dX9_above_4 : decode cX9_above 4 = .ok (.iconst (-1), 1) := by decide +kernel
theorem dX9_above_5 : decode cX9_above 5 = .ok (.goto 27, 3) := by decide +kernel
theorem dX9_above_8 : decode cX9_above 8 = .ok (.iload_n 0, 1) := by decide +kernel
theorem dX9_above_9 : decode cX9_above 9 = .ok (.iconst 3, 1) := by decide +kernel
theorem dX9_above_10 : decode cX9_above 10 = .ok (.if_icmp .eq 8, 3) := by decide +kernel
theorem dX9_above_13 : decode cX9_above 13 = .ok (.iload_n 0, 1) := by decide +kernel
theorem dX9_above_14 : decode cX9_above 14 = .ok (.iconst 5, 1) := by decide +kernel
theorem dX9_above_15 : decode cX9_above 15 = .ok (.if_icmp .ne 7, 3) := by decide +kernel
theorem dX9_above_18 : decode cX9_above 18 = .ok (.iconst 1, 1) := by decide +kernel
theorem dX9_above_19 : decode cX9_above 19 = .ok (.goto 13, 3) := by decide +kernel
theorem dX9_above_22 : decode cX9_above 22 = .ok (.iload_n 0, 1) := by decide +kernel
theorem dX9_above_23 : decode cX9_above 23 = .ok (.iconst 4, 1) := by decide +kernel
theorem dX9_above_24 : decode cX9_above 24 = .ok (.if_icmp .ne 7, 3) := by decide +kernel
theorem dX9_above_27 : decode cX9_above 27 = .ok (.iconst 2, 1) := by decide +kernel
theorem dX9_above_28 : decode cX9_above 28 = .ok (.goto 4, 3) := by decide +kernel
theorem dX9_above_31 : decode cX9_above 31 = .ok (.iconst 0, 1) := by decide +kernel
theorem dX9_above_32 : decode cX9_above 32 = .ok (.ireturn, 1) := by decide +kernel
theorem dX9_has_0 : decode cX9_has 0 = .ok (.iload_n 1, 1) := by decide +kernel
theorem dX9_has_1 : decode cX9_has 1 = .ok (.iconst 0, 1) := by decide +kernel
theorem dX9_has_2 : decode cX9_has 2 = .ok (.iconst 3, 1) := by decide +kernel
theorem dX9_has_3 : decode cX9_has 3 = .ok (.invokestatic 75, 3) := by decide +kernel
theorem dX9_has_6 : decode cX9_has 6 = .ok (.ifCond .eq 29, 3) := by decide +kernel
theorem dX9_has_9 : decode cX9_has 9 = .ok (.iload_n 2, 1) := by decide +kernel
theorem dX9_has_10 : decode cX9_has 10 = .ok (.iconst 0, 1) := by decide +kernel
theorem dX9_has_11 : decode cX9_has 11 = .ok (.iconst 3, 1) := by decide +kernel
theorem dX9_has_12 : decode cX9_has 12 = .ok (.invokestatic 75, 3) := by decide +kernel
theorem dX9_has_15 : decode cX9_has 15 = .ok (.ifCond .eq 20, 3) := by decide +kernel
theorem dX9_has_18 : decode cX9_has 18 = .ok (.iload_n 0, 1) := by decide +kernel
theorem dX9_has_19 : decode cX9_has 19 = .ok (.iconst 4, 1) := by decide +kernel
theorem dX9_has_20 : decode cX9_has 20 = .ok (.iload_n 1, 1) := by decide +kernel
theorem dX9_has_21 : decode cX9_has 21 = .ok (.imul, 1) := by decide +kernel
theorem dX9_has_22 : decode cX9_has 22 = .ok (.iload_n 2, 1) := by decide +kernel
theorem dX9_has_23 : decode cX9_has 23 = .ok (.iadd, 1) := by decide +kernel
theorem dX9_has_24 : decode cX9_has 24 = .ok (.ishr, 1) := by decide +kernel
theorem dX9_has_25 : decode cX9_has 25 = .ok (.iconst 1, 1) := by decide +kernel
theorem dX9_has_26 : decode cX9_has 26 = .ok (.iand, 1) := by decide +kernel
theorem dX9_has_27 : decode cX9_has 27 = .ok (.iconst 1, 1) := by decide +kernel
theorem dX9_has_28 : decode cX9_has 28 = .ok (.if_icmp .ne 7, 3) := by decide +kernel
theorem dX9_has_31 : decode cX9_has 31 = .ok (.iconst 1, 1) := by decide +kernel
theorem dX9_has_32 : decode cX9_has 32 = .ok (.goto 4, 3) := by decide +kernel
theorem dX9_has_35 : decode cX9_has 35 = .ok (.iconst 0, 1) := by decide +kernel
theorem dX9_has_36 : decode cX9_has 36 = .ok (.ireturn, 1) := by decide +kernel
theorem dX9_turned_0 : decode cX9_turned 0 = .ok (.iload_n 0, 1) := by decide +kernel
theorem dX9_turned_1 : decode cX9_turned 1 = .ok (.istore_n 2, 1) := by decide +kernel
theorem dX9_turned_2 : decode cX9_turned 2 = .ok (.iconst 0, 1) := by decide +kernel
theorem dX9_turned_3 : decode cX9_turned 3 = .ok (.istore_n 3, 1) := by decide +kernel
theorem dX9_turned_4 : decode cX9_turned 4 = .ok (.iload_n 3, 1) := by decide +kernel
theorem dX9_turned_5 : decode cX9_turned 5 = .ok (.iload_n 1, 1) := by decide +kernel
theorem dX9_turned_6 : decode cX9_turned 6 = .ok (.if_icmp .ge 78, 3) := by decide +kernel
theorem dX9_turned_9 : decode cX9_turned 9 = .ok (.iconst 0, 1) := by decide +kernel
theorem dX9_turned_10 : decode cX9_turned 10 = .ok (.istore 4, 2) := by decide +kernel
theorem dX9_turned_12 : decode cX9_turned 12 = .ok (.iconst 0, 1) := by decide +kernel
theorem dX9_turned_13 : decode cX9_turned 13 = .ok (.istore 5, 2) := by decide +kernel
theorem dX9_turned_15 : decode cX9_turned 15 = .ok (.iload 5, 2) := by decide +kernel
theorem dX9_turned_17 : decode cX9_turned 17 = .ok (.iconst 4, 1) := by decide +kernel
theorem dX9_turned_18 : decode cX9_turned 18 = .ok (.if_icmp .ge 57, 3) := by decide +kernel
theorem dX9_turned_21 : decode cX9_turned 21 = .ok (.iconst 0, 1) := by decide +kernel
theorem dX9_turned_22 : decode cX9_turned 22 = .ok (.istore 6, 2) := by decide +kernel
theorem dX9_turned_24 : decode cX9_turned 24 = .ok (.iload 6, 2) := by decide +kernel
theorem dX9_turned_26 : decode cX9_turned 26 = .ok (.iconst 4, 1) := by decide +kernel
theorem dX9_turned_27 : decode cX9_turned 27 = .ok (.if_icmp .ge 42, 3) := by decide +kernel
theorem dX9_turned_30 : decode cX9_turned 30 = .ok (.iload 4, 2) := by decide +kernel
theorem dX9_turned_32 : decode cX9_turned 32 = .ok (.iload_n 2, 1) := by decide +kernel
theorem dX9_turned_33 : decode cX9_turned 33 = .ok (.iload 5, 2) := by decide +kernel
theorem dX9_turned_35 : decode cX9_turned 35 = .ok (.iload 6, 2) := by decide +kernel
theorem dX9_turned_37 : decode cX9_turned 37 = .ok (.invokestatic 109, 3) := by decide +kernel
theorem dX9_turned_40 : decode cX9_turned 40 = .ok (.ifCond .eq 19, 3) := by decide +kernel
theorem dX9_turned_43 : decode cX9_turned 43 = .ok (.iconst 1, 1) := by decide +kernel
theorem dX9_turned_44 : decode cX9_turned 44 = .ok (.iconst 4, 1) := by decide +kernel
theorem dX9_turned_45 : decode cX9_turned 45 = .ok (.iload 6, 2) := by decide +kernel
theorem dX9_turned_47 : decode cX9_turned 47 = .ok (.imul, 1) := by decide +kernel
theorem dX9_turned_48 : decode cX9_turned 48 = .ok (.iconst 4, 1) := by decide +kernel
theorem dX9_turned_49 : decode cX9_turned 49 = .ok (.iadd, 1) := by decide +kernel
theorem dX9_turned_50 : decode cX9_turned 50 = .ok (.iconst 1, 1) := by decide +kernel
theorem dX9_turned_51 : decode cX9_turned 51 = .ok (.isub, 1) := by decide +kernel
theorem dX9_turned_52 : decode cX9_turned 52 = .ok (.iload 5, 2) := by decide +kernel
theorem dX9_turned_54 : decode cX9_turned 54 = .ok (.isub, 1) := by decide +kernel
theorem dX9_turned_55 : decode cX9_turned 55 = .ok (.ishl, 1) := by decide +kernel
theorem dX9_turned_56 : decode cX9_turned 56 = .ok (.goto 4, 3) := by decide +kernel
theorem dX9_turned_59 : decode cX9_turned 59 = .ok (.iconst 0, 1) := by decide +kernel
theorem dX9_turned_60 : decode cX9_turned 60 = .ok (.ior, 1) := by decide +kernel
theorem dX9_turned_61 : decode cX9_turned 61 = .ok (.istore 4, 2) := by decide +kernel
theorem dX9_turned_63 : decode cX9_turned 63 = .ok (.iinc 6 1, 3) := by decide +kernel
theorem dX9_turned_66 : decode cX9_turned 66 = .ok (.goto (-42), 3) := by decide +kernel
theorem dX9_turned_69 : decode cX9_turned 69 = .ok (.iinc 5 1, 3) := by decide +kernel
theorem dX9_turned_72 : decode cX9_turned 72 = .ok (.goto (-57), 3) := by decide +kernel
theorem dX9_turned_75 : decode cX9_turned 75 = .ok (.iload 4, 2) := by decide +kernel
theorem dX9_turned_77 : decode cX9_turned 77 = .ok (.istore_n 2, 1) := by decide +kernel
theorem dX9_turned_78 : decode cX9_turned 78 = .ok (.iinc 3 1, 3) := by decide +kernel
theorem dX9_turned_81 : decode cX9_turned 81 = .ok (.goto (-77), 3) := by decide +kernel
theorem dX9_turned_84 : decode cX9_turned 84 = .ok (.iload_n 2, 1) := by decide +kernel
theorem dX9_turned_85 : decode cX9_turned 85 = .ok (.ireturn, 1) := by decide +kernel
theorem dX9_mirrored_0 : decode cX9_mirrored 0 = .ok (.iconst 0, 1) := by decide +kernel
theorem dX9_mirrored_1 : decode cX9_mirrored 1 = .ok (.istore_n 2, 1) := by decide +kernel
theorem dX9_mirrored_2 : decode cX9_mirrored 2 = .ok (.iconst 0, 1) := by decide +kernel
theorem dX9_mirrored_3 : decode cX9_mirrored 3 = .ok (.istore_n 3, 1) := by decide +kernel
theorem dX9_mirrored_4 : decode cX9_mirrored 4 = .ok (.iload_n 3, 1) := by decide +kernel
theorem dX9_mirrored_5 : decode cX9_mirrored 5 = .ok (.iconst 4, 1) := by decide +kernel
theorem dX9_mirrored_6 : decode cX9_mirrored 6 = .ok (.if_icmp .ge 63, 3) := by decide +kernel
theorem dX9_mirrored_9 : decode cX9_mirrored 9 = .ok (.iconst 0, 1) := by decide +kernel
theorem dX9_mirrored_10 : decode cX9_mirrored 10 = .ok (.istore 4, 2) := by decide +kernel
theorem dX9_mirrored_12 : decode cX9_mirrored 12 = .ok (.iload 4, 2) := by decide +kernel
theorem dX9_mirrored_14 : decode cX9_mirrored 14 = .ok (.iconst 4, 1) := by decide +kernel
theorem dX9_mirrored_15 : decode cX9_mirrored 15 = .ok (.if_icmp .ge 48, 3) := by decide +kernel
theorem dX9_mirrored_18 : decode cX9_mirrored 18 = .ok (.iload_n 2, 1) := by decide +kernel
theorem dX9_mirrored_19 : decode cX9_mirrored 19 = .ok (.iload_n 0, 1) := by decide +kernel
theorem dX9_mirrored_20 : decode cX9_mirrored 20 = .ok (.iload_n 3, 1) := by decide +kernel
theorem dX9_mirrored_21 : decode cX9_mirrored 21 = .ok (.iload_n 1, 1) := by decide +kernel
theorem dX9_mirrored_22 : decode cX9_mirrored 22 = .ok (.iconst 2, 1) := by decide +kernel
theorem dX9_mirrored_23 : decode cX9_mirrored 23 = .ok (.irem, 1) := by decide +kernel
theorem dX9_mirrored_24 : decode cX9_mirrored 24 = .ok (.iconst 1, 1) := by decide +kernel
theorem dX9_mirrored_25 : decode cX9_mirrored 25 = .ok (.if_icmp .ne 10, 3) := by decide +kernel
theorem dX9_mirrored_28 : decode cX9_mirrored 28 = .ok (.iconst 3, 1) := by decide +kernel
theorem dX9_mirrored_29 : decode cX9_mirrored 29 = .ok (.iload 4, 2) := by decide +kernel
theorem dX9_mirrored_31 : decode cX9_mirrored 31 = .ok (.isub, 1) := by decide +kernel
theorem dX9_mirrored_32 : decode cX9_mirrored 32 = .ok (.goto 5, 3) := by decide +kernel
theorem dX9_mirrored_35 : decode cX9_mirrored 35 = .ok (.iload 4, 2) := by decide +kernel
theorem dX9_mirrored_37 : decode cX9_mirrored 37 = .ok (.invokestatic 109, 3) := by decide +kernel
theorem dX9_mirrored_40 : decode cX9_mirrored 40 = .ok (.ifCond .eq 14, 3) := by decide +kernel
theorem dX9_mirrored_43 : decode cX9_mirrored 43 = .ok (.iconst 1, 1) := by decide +kernel
theorem dX9_mirrored_44 : decode cX9_mirrored 44 = .ok (.iconst 4, 1) := by decide +kernel
theorem dX9_mirrored_45 : decode cX9_mirrored 45 = .ok (.iload_n 3, 1) := by decide +kernel
theorem dX9_mirrored_46 : decode cX9_mirrored 46 = .ok (.imul, 1) := by decide +kernel
theorem dX9_mirrored_47 : decode cX9_mirrored 47 = .ok (.iload 4, 2) := by decide +kernel
theorem dX9_mirrored_49 : decode cX9_mirrored 49 = .ok (.iadd, 1) := by decide +kernel
theorem dX9_mirrored_50 : decode cX9_mirrored 50 = .ok (.ishl, 1) := by decide +kernel
theorem dX9_mirrored_51 : decode cX9_mirrored 51 = .ok (.goto 4, 3) := by decide +kernel
theorem dX9_mirrored_54 : decode cX9_mirrored 54 = .ok (.iconst 0, 1) := by decide +kernel
theorem dX9_mirrored_55 : decode cX9_mirrored 55 = .ok (.ior, 1) := by decide +kernel
theorem dX9_mirrored_56 : decode cX9_mirrored 56 = .ok (.istore_n 2, 1) := by decide +kernel
theorem dX9_mirrored_57 : decode cX9_mirrored 57 = .ok (.iinc 4 1, 3) := by decide +kernel
theorem dX9_mirrored_60 : decode cX9_mirrored 60 = .ok (.goto (-48), 3) := by decide +kernel
theorem dX9_mirrored_63 : decode cX9_mirrored 63 = .ok (.iinc 3 1, 3) := by decide +kernel
theorem dX9_mirrored_66 : decode cX9_mirrored 66 = .ok (.goto (-62), 3) := by decide +kernel
theorem dX9_mirrored_69 : decode cX9_mirrored 69 = .ok (.iload_n 2, 1) := by decide +kernel
theorem dX9_mirrored_70 : decode cX9_mirrored 70 = .ok (.ireturn, 1) := by decide +kernel
theorem dX9_isInner_0 : decode cX9_isInner 0 = .ok (.iload_n 0, 1) := by decide +kernel
theorem dX9_isInner_1 : decode cX9_isInner 1 = .ok (.iload_n 1, 1) := by decide +kernel
theorem dX9_isInner_2 : decode cX9_isInner 2 = .ok (.iconst 1, 1) := by decide +kernel
theorem dX9_isInner_3 : decode cX9_isInner 3 = .ok (.isub, 1) := by decide +kernel
theorem dX9_isInner_4 : decode cX9_isInner 4 = .ok (.iload_n 2, 1) := by decide +kernel
theorem dX9_isInner_5 : decode cX9_isInner 5 = .ok (.invokestatic 109, 3) := by decide +kernel
theorem dX9_isInner_8 : decode cX9_isInner 8 = .ok (.ifCond .eq 40, 3) := by decide +kernel
theorem dX9_isInner_11 : decode cX9_isInner 11 = .ok (.iload_n 0, 1) := by decide +kernel
theorem dX9_isInner_12 : decode cX9_isInner 12 = .ok (.iload_n 1, 1) := by decide +kernel
theorem dX9_isInner_13 : decode cX9_isInner 13 = .ok (.iconst 1, 1) := by decide +kernel
theorem dX9_isInner_14 : decode cX9_isInner 14 = .ok (.iadd, 1) := by decide +kernel
theorem dX9_isInner_15 : decode cX9_isInner 15 = .ok (.iload_n 2, 1) := by decide +kernel
theorem dX9_isInner_16 : decode cX9_isInner 16 = .ok (.invokestatic 109, 3) := by decide +kernel
theorem dX9_isInner_19 : decode cX9_isInner 19 = .ok (.ifCond .eq 29, 3) := by decide +kernel
theorem dX9_isInner_22 : decode cX9_isInner 22 = .ok (.iload_n 0, 1) := by decide +kernel
theorem dX9_isInner_23 : decode cX9_isInner 23 = .ok (.iload_n 1, 1) := by decide +kernel
theorem dX9_isInner_24 : decode cX9_isInner 24 = .ok (.iload_n 2, 1) := by decide +kernel
theorem dX9_isInner_25 : decode cX9_isInner 25 = .ok (.iconst 1, 1) := by decide +kernel
theorem dX9_isInner_26 : decode cX9_isInner 26 = .ok (.isub, 1) := by decide +kernel
theorem dX9_isInner_27 : decode cX9_isInner 27 = .ok (.invokestatic 109, 3) := by decide +kernel
theorem dX9_isInner_30 : decode cX9_isInner 30 = .ok (.ifCond .eq 18, 3) := by decide +kernel
theorem dX9_isInner_33 : decode cX9_isInner 33 = .ok (.iload_n 0, 1) := by decide +kernel
theorem dX9_isInner_34 : decode cX9_isInner 34 = .ok (.iload_n 1, 1) := by decide +kernel
theorem dX9_isInner_35 : decode cX9_isInner 35 = .ok (.iload_n 2, 1) := by decide +kernel
theorem dX9_isInner_36 : decode cX9_isInner 36 = .ok (.iconst 1, 1) := by decide +kernel
theorem dX9_isInner_37 : decode cX9_isInner 37 = .ok (.iadd, 1) := by decide +kernel
theorem dX9_isInner_38 : decode cX9_isInner 38 = .ok (.invokestatic 109, 3) := by decide +kernel
theorem dX9_isInner_41 : decode cX9_isInner 41 = .ok (.ifCond .eq 7, 3) := by decide +kernel
theorem dX9_isInner_44 : decode cX9_isInner 44 = .ok (.iconst 1, 1) := by decide +kernel
theorem dX9_isInner_45 : decode cX9_isInner 45 = .ok (.goto 4, 3) := by decide +kernel
theorem dX9_isInner_48 : decode cX9_isInner 48 = .ok (.iconst 0, 1) := by decide +kernel
theorem dX9_isInner_49 : decode cX9_isInner 49 = .ok (.ireturn, 1) := by decide +kernel
theorem dX9_isBetween_0 : decode cX9_isBetween 0 = .ok (.iconst 0, 1) := by decide +kernel
theorem dX9_isBetween_1 : decode cX9_isBetween 1 = .ok (.istore_n 3, 1) := by decide +kernel
theorem dX9_isBetween_2 : decode cX9_isBetween 2 = .ok (.iconst 0, 1) := by decide +kernel
theorem dX9_isBetween_3 : decode cX9_isBetween 3 = .ok (.istore 4, 2) := by decide +kernel
theorem dX9_isBetween_5 : decode cX9_isBetween 5 = .ok (.iconst 0, 1) := by decide +kernel
theorem dX9_isBetween_6 : decode cX9_isBetween 6 = .ok (.istore 5, 2) := by decide +kernel
theorem dX9_isBetween_8 : decode cX9_isBetween 8 = .ok (.iload 5, 2) := by decide +kernel
theorem dX9_isBetween_10 : decode cX9_isBetween 10 = .ok (.iconst 4, 1) := by decide +kernel
theorem dX9_isBetween_11 : decode cX9_isBetween 11 = .ok (.if_icmp .ge 63, 3) := by decide +kernel
theorem dX9_isBetween_14 : decode cX9_isBetween 14 = .ok (.iload_n 3, 1) := by decide +kernel
theorem dX9_isBetween_15 : decode cX9_isBetween 15 = .ok (.ifCond .ne 19, 3) := by decide +kernel
theorem dX9_isBetween_18 : decode cX9_isBetween 18 = .ok (.iload 5, 2) := by decide +kernel
theorem dX9_isBetween_20 : decode cX9_isBetween 20 = .ok (.iload_n 2, 1) := by decide +kernel
theorem dX9_isBetween_21 : decode cX9_isBetween 21 = .ok (.if_icmp .ge 17, 3) := by decide +kernel
theorem dX9_isBetween_24 : decode cX9_isBetween 24 = .ok (.iload_n 0, 1) := by decide +kernel
theorem dX9_isBetween_25 : decode cX9_isBetween 25 = .ok (.iload_n 1, 1) := by decide +kernel
theorem dX9_isBetween_26 : decode cX9_isBetween 26 = .ok (.iload 5, 2) := by decide +kernel
theorem dX9_isBetween_28 : decode cX9_isBetween 28 = .ok (.invokestatic 109, 3) := by decide +kernel
theorem dX9_isBetween_31 : decode cX9_isBetween 31 = .ok (.ifCond .eq 7, 3) := by decide +kernel
theorem dX9_isBetween_34 : decode cX9_isBetween 34 = .ok (.iconst 1, 1) := by decide +kernel
theorem dX9_isBetween_35 : decode cX9_isBetween 35 = .ok (.goto 4, 3) := by decide +kernel
theorem dX9_isBetween_38 : decode cX9_isBetween 38 = .ok (.iconst 0, 1) := by decide +kernel
theorem dX9_isBetween_39 : decode cX9_isBetween 39 = .ok (.istore_n 3, 1) := by decide +kernel
theorem dX9_isBetween_40 : decode cX9_isBetween 40 = .ok (.iload 4, 2) := by decide +kernel
theorem dX9_isBetween_42 : decode cX9_isBetween 42 = .ok (.ifCond .ne 19, 3) := by decide +kernel
theorem dX9_isBetween_45 : decode cX9_isBetween 45 = .ok (.iload 5, 2) := by decide +kernel
theorem dX9_isBetween_47 : decode cX9_isBetween 47 = .ok (.iload_n 2, 1) := by decide +kernel
theorem dX9_isBetween_48 : decode cX9_isBetween 48 = .ok (.if_icmp .le 17, 3) := by decide +kernel
theorem dX9_isBetween_51 : decode cX9_isBetween 51 = .ok (.iload_n 0, 1) := by decide +kernel
theorem dX9_isBetween_52 : decode cX9_isBetween 52 = .ok (.iload_n 1, 1) := by decide +kernel
theorem dX9_isBetween_53 : decode cX9_isBetween 53 = .ok (.iload 5, 2) := by decide +kernel
theorem dX9_isBetween_55 : decode cX9_isBetween 55 = .ok (.invokestatic 109, 3) := by decide +kernel
theorem dX9_isBetween_58 : decode cX9_isBetween 58 = .ok (.ifCond .eq 7, 3) := by decide +kernel
theorem dX9_isBetween_61 : decode cX9_isBetween 61 = .ok (.iconst 1, 1) := by decide +kernel
theorem dX9_isBetween_62 : decode cX9_isBetween 62 = .ok (.goto 4, 3) := by decide +kernel
theorem dX9_isBetween_65 : decode cX9_isBetween 65 = .ok (.iconst 0, 1) := by decide +kernel
theorem dX9_isBetween_66 : decode cX9_isBetween 66 = .ok (.istore 4, 2) := by decide +kernel
theorem dX9_isBetween_68 : decode cX9_isBetween 68 = .ok (.iinc 5 1, 3) := by decide +kernel
theorem dX9_isBetween_71 : decode cX9_isBetween 71 = .ok (.goto (-63), 3) := by decide +kernel
theorem dX9_isBetween_74 : decode cX9_isBetween 74 = .ok (.iload_n 3, 1) := by decide +kernel
theorem dX9_isBetween_75 : decode cX9_isBetween 75 = .ok (.ifCond .eq 12, 3) := by decide +kernel
theorem dX9_isBetween_78 : decode cX9_isBetween 78 = .ok (.iload 4, 2) := by decide +kernel
theorem dX9_isBetween_80 : decode cX9_isBetween 80 = .ok (.ifCond .eq 7, 3) := by decide +kernel
theorem dX9_isBetween_83 : decode cX9_isBetween 83 = .ok (.iconst 1, 1) := by decide +kernel
theorem dX9_isBetween_84 : decode cX9_isBetween 84 = .ok (.goto 4, 3) := by decide +kernel
theorem dX9_isBetween_87 : decode cX9_isBetween 87 = .ok (.iconst 0, 1) := by decide +kernel
theorem dX9_isBetween_88 : decode cX9_isBetween 88 = .ok (.ireturn, 1) := by decide +kernel
theorem dX9_throwsOf_0 : decode cX9_throwsOf 0 = .ok (.iload_n 0, 1) := by decide +kernel
theorem dX9_throwsOf_1 : decode cX9_throwsOf 1 = .ok (.ifCond .ne 7, 3) := by decide +kernel
theorem dX9_throwsOf_4 : decode cX9_throwsOf 4 = .ok (.iload_n 1, 1) := by decide +kernel
theorem dX9_throwsOf_5 : decode cX9_throwsOf 5 = .ok (.goto 26, 3) := by decide +kernel
theorem dX9_throwsOf_8 : decode cX9_throwsOf 8 = .ok (.iload_n 0, 1) := by decide +kernel
theorem dX9_throwsOf_9 : decode cX9_throwsOf 9 = .ok (.iconst 2, 1) := by decide +kernel
theorem dX9_throwsOf_10 : decode cX9_throwsOf 10 = .ok (.if_icmp .eq 8, 3) := by decide +kernel
theorem dX9_throwsOf_13 : decode cX9_throwsOf 13 = .ok (.iload_n 0, 1) := by decide +kernel
theorem dX9_throwsOf_14 : decode cX9_throwsOf 14 = .ok (.iconst 4, 1) := by decide +kernel
theorem dX9_throwsOf_15 : decode cX9_throwsOf 15 = .ok (.if_icmp .ne 11, 3) := by decide +kernel
theorem dX9_throwsOf_18 : decode cX9_throwsOf 18 = .ok (.iload_n 1, 1) := by decide +kernel
theorem dX9_throwsOf_19 : decode cX9_throwsOf 19 = .ok (.iload_n 2, 1) := by decide +kernel
theorem dX9_throwsOf_20 : decode cX9_throwsOf 20 = .ok (.invokestatic 112, 3) := by decide +kernel
theorem dX9_throwsOf_23 : decode cX9_throwsOf 23 = .ok (.goto 8, 3) := by decide +kernel
theorem dX9_throwsOf_26 : decode cX9_throwsOf 26 = .ok (.iload_n 1, 1) := by decide +kernel
theorem dX9_throwsOf_27 : decode cX9_throwsOf 27 = .ok (.iload_n 2, 1) := by decide +kernel
theorem dX9_throwsOf_28 : decode cX9_throwsOf 28 = .ok (.invokestatic 114, 3) := by decide +kernel
theorem dX9_throwsOf_31 : decode cX9_throwsOf 31 = .ok (.istore_n 3, 1) := by decide +kernel
theorem dX9_throwsOf_32 : decode cX9_throwsOf 32 = .ok (.iconst 0, 1) := by decide +kernel
theorem dX9_throwsOf_33 : decode cX9_throwsOf 33 = .ok (.istore 4, 2) := by decide +kernel
theorem dX9_throwsOf_35 : decode cX9_throwsOf 35 = .ok (.iconst 0, 1) := by decide +kernel
theorem dX9_throwsOf_36 : decode cX9_throwsOf 36 = .ok (.istore 5, 2) := by decide +kernel
theorem dX9_throwsOf_38 : decode cX9_throwsOf 38 = .ok (.iload 5, 2) := by decide +kernel
theorem dX9_throwsOf_40 : decode cX9_throwsOf 40 = .ok (.iconst 4, 1) := by decide +kernel
theorem dX9_throwsOf_41 : decode cX9_throwsOf 41 = .ok (.if_icmp .ge 150, 3) := by decide +kernel
theorem dX9_throwsOf_44 : decode cX9_throwsOf 44 = .ok (.iconst 0, 1) := by decide +kernel
theorem dX9_throwsOf_45 : decode cX9_throwsOf 45 = .ok (.istore 6, 2) := by decide +kernel
theorem dX9_throwsOf_47 : decode cX9_throwsOf 47 = .ok (.iload 6, 2) := by decide +kernel
theorem dX9_throwsOf_49 : decode cX9_throwsOf 49 = .ok (.iconst 4, 1) := by decide +kernel
theorem dX9_throwsOf_50 : decode cX9_throwsOf 50 = .ok (.if_icmp .ge 135, 3) := by decide +kernel
theorem dX9_throwsOf_53 : decode cX9_throwsOf 53 = .ok (.iload_n 3, 1) := by decide +kernel
theorem dX9_throwsOf_54 : decode cX9_throwsOf 54 = .ok (.iload 5, 2) := by decide +kernel
theorem dX9_throwsOf_56 : decode cX9_throwsOf 56 = .ok (.iload 6, 2) := by decide +kernel
theorem dX9_throwsOf_58 : decode cX9_throwsOf 58 = .ok (.invokestatic 109, 3) := by decide +kernel
theorem dX9_throwsOf_61 : decode cX9_throwsOf 61 = .ok (.istore 7, 2) := by decide +kernel
theorem dX9_throwsOf_63 : decode cX9_throwsOf 63 = .ok (.iload_n 0, 1) := by decide +kernel
theorem dX9_throwsOf_64 : decode cX9_throwsOf 64 = .ok (.iconst 3, 1) := by decide +kernel
theorem dX9_throwsOf_65 : decode cX9_throwsOf 65 = .ok (.if_icmp .ne 27, 3) := by decide +kernel
theorem dX9_throwsOf_68 : decode cX9_throwsOf 68 = .ok (.iload 7, 2) := by decide +kernel
theorem dX9_throwsOf_70 : decode cX9_throwsOf 70 = .ok (.ifCond .eq 18, 3) := by decide +kernel
theorem dX9_throwsOf_73 : decode cX9_throwsOf 73 = .ok (.iload_n 3, 1) := by decide +kernel
theorem dX9_throwsOf_74 : decode cX9_throwsOf 74 = .ok (.iload 5, 2) := by decide +kernel
theorem dX9_throwsOf_76 : decode cX9_throwsOf 76 = .ok (.iload 6, 2) := by decide +kernel
theorem dX9_throwsOf_78 : decode cX9_throwsOf 78 = .ok (.invokestatic 116, 3) := by decide +kernel
theorem dX9_throwsOf_81 : decode cX9_throwsOf 81 = .ok (.ifCond .ne 7, 3) := by decide +kernel
theorem dX9_throwsOf_84 : decode cX9_throwsOf 84 = .ok (.iconst 1, 1) := by decide +kernel
theorem dX9_throwsOf_85 : decode cX9_throwsOf 85 = .ok (.goto 69, 3) := by decide +kernel
theorem dX9_throwsOf_88 : decode cX9_throwsOf 88 = .ok (.iconst 0, 1) := by decide +kernel
theorem dX9_throwsOf_89 : decode cX9_throwsOf 89 = .ok (.goto 65, 3) := by decide +kernel
theorem dX9_throwsOf_92 : decode cX9_throwsOf 92 = .ok (.iload_n 0, 1) := by decide +kernel
theorem dX9_throwsOf_93 : decode cX9_throwsOf 93 = .ok (.iconst 4, 1) := by decide +kernel
theorem dX9_throwsOf_94 : decode cX9_throwsOf 94 = .ok (.if_icmp .ne 29, 3) := by decide +kernel
theorem dX9_throwsOf_97 : decode cX9_throwsOf 97 = .ok (.iload 7, 2) := by decide +kernel
theorem dX9_throwsOf_99 : decode cX9_throwsOf 99 = .ok (.ifCond .ne 16, 3) := by decide +kernel
theorem dX9_throwsOf_102 : decode cX9_throwsOf 102 = .ok (.iload_n 3, 1) := by decide +kernel
theorem dX9_throwsOf_103 : decode cX9_throwsOf 103 = .ok (.iload 5, 2) := by decide +kernel
theorem dX9_throwsOf_105 : decode cX9_throwsOf 105 = .ok (.iconst 1, 1) := by decide +kernel
theorem dX9_throwsOf_106 : decode cX9_throwsOf 106 = .ok (.isub, 1) := by decide +kernel
theorem dX9_throwsOf_107 : decode cX9_throwsOf 107 = .ok (.iload 6, 2) := by decide +kernel
theorem dX9_throwsOf_109 : decode cX9_throwsOf 109 = .ok (.invokestatic 109, 3) := by decide +kernel
theorem dX9_throwsOf_112 : decode cX9_throwsOf 112 = .ok (.ifCond .eq 7, 3) := by decide +kernel
theorem dX9_throwsOf_115 : decode cX9_throwsOf 115 = .ok (.iconst 1, 1) := by decide +kernel
theorem dX9_throwsOf_116 : decode cX9_throwsOf 116 = .ok (.goto 38, 3) := by decide +kernel
theorem dX9_throwsOf_119 : decode cX9_throwsOf 119 = .ok (.iconst 0, 1) := by decide +kernel
theorem dX9_throwsOf_120 : decode cX9_throwsOf 120 = .ok (.goto 34, 3) := by decide +kernel
theorem dX9_throwsOf_123 : decode cX9_throwsOf 123 = .ok (.iload_n 0, 1) := by decide +kernel
theorem dX9_throwsOf_124 : decode cX9_throwsOf 124 = .ok (.iconst 5, 1) := by decide +kernel
theorem dX9_throwsOf_125 : decode cX9_throwsOf 125 = .ok (.if_icmp .ne 27, 3) := by decide +kernel
theorem dX9_throwsOf_128 : decode cX9_throwsOf 128 = .ok (.iload 7, 2) := by decide +kernel
theorem dX9_throwsOf_130 : decode cX9_throwsOf 130 = .ok (.ifCond .ne 14, 3) := by decide +kernel
theorem dX9_throwsOf_133 : decode cX9_throwsOf 133 = .ok (.iload_n 3, 1) := by decide +kernel
theorem dX9_throwsOf_134 : decode cX9_throwsOf 134 = .ok (.iload 5, 2) := by decide +kernel
theorem dX9_throwsOf_136 : decode cX9_throwsOf 136 = .ok (.iload 6, 2) := by decide +kernel
theorem dX9_throwsOf_138 : decode cX9_throwsOf 138 = .ok (.invokestatic 119, 3) := by decide +kernel
theorem dX9_throwsOf_141 : decode cX9_throwsOf 141 = .ok (.ifCond .eq 7, 3) := by decide +kernel
theorem dX9_throwsOf_144 : decode cX9_throwsOf 144 = .ok (.iconst 1, 1) := by decide +kernel
theorem dX9_throwsOf_145 : decode cX9_throwsOf 145 = .ok (.goto 9, 3) := by decide +kernel
theorem dX9_throwsOf_148 : decode cX9_throwsOf 148 = .ok (.iconst 0, 1) := by decide +kernel
theorem dX9_throwsOf_149 : decode cX9_throwsOf 149 = .ok (.goto 5, 3) := by decide +kernel
theorem dX9_throwsOf_152 : decode cX9_throwsOf 152 = .ok (.iload 7, 2) := by decide +kernel
theorem dX9_throwsOf_154 : decode cX9_throwsOf 154 = .ok (.istore 7, 2) := by decide +kernel
theorem dX9_throwsOf_156 : decode cX9_throwsOf 156 = .ok (.iload 4, 2) := by decide +kernel
theorem dX9_throwsOf_158 : decode cX9_throwsOf 158 = .ok (.iload 7, 2) := by decide +kernel
theorem dX9_throwsOf_160 : decode cX9_throwsOf 160 = .ok (.ifCond .eq 15, 3) := by decide +kernel
theorem dX9_throwsOf_163 : decode cX9_throwsOf 163 = .ok (.iconst 1, 1) := by decide +kernel
theorem dX9_throwsOf_164 : decode cX9_throwsOf 164 = .ok (.iconst 4, 1) := by decide +kernel
theorem dX9_throwsOf_165 : decode cX9_throwsOf 165 = .ok (.iload 5, 2) := by decide +kernel
theorem dX9_throwsOf_167 : decode cX9_throwsOf 167 = .ok (.imul, 1) := by decide +kernel
theorem dX9_throwsOf_168 : decode cX9_throwsOf 168 = .ok (.iload 6, 2) := by decide +kernel
theorem dX9_throwsOf_170 : decode cX9_throwsOf 170 = .ok (.iadd, 1) := by decide +kernel
theorem dX9_throwsOf_171 : decode cX9_throwsOf 171 = .ok (.ishl, 1) := by decide +kernel
theorem dX9_throwsOf_172 : decode cX9_throwsOf 172 = .ok (.goto 4, 3) := by decide +kernel
theorem dX9_throwsOf_175 : decode cX9_throwsOf 175 = .ok (.iconst 0, 1) := by decide +kernel
theorem dX9_throwsOf_176 : decode cX9_throwsOf 176 = .ok (.ior, 1) := by decide +kernel
theorem dX9_throwsOf_177 : decode cX9_throwsOf 177 = .ok (.istore 4, 2) := by decide +kernel
theorem dX9_throwsOf_179 : decode cX9_throwsOf 179 = .ok (.iinc 6 1, 3) := by decide +kernel
theorem dX9_throwsOf_182 : decode cX9_throwsOf 182 = .ok (.goto (-135), 3) := by decide +kernel
theorem dX9_throwsOf_185 : decode cX9_throwsOf 185 = .ok (.iinc 5 1, 3) := by decide +kernel
theorem dX9_throwsOf_188 : decode cX9_throwsOf 188 = .ok (.goto (-150), 3) := by decide +kernel
theorem dX9_throwsOf_191 : decode cX9_throwsOf 191 = .ok (.iload 4, 2) := by decide +kernel
theorem dX9_throwsOf_193 : decode cX9_throwsOf 193 = .ok (.ireturn, 1) := by decide +kernel
theorem dX9_isPlacing_0 : decode cX9_isPlacing 0 = .ok (.iload_n 0, 1) := by decide +kernel
theorem dX9_isPlacing_1 : decode cX9_isPlacing 1 = .ok (.sipush 4000, 3) := by decide +kernel
theorem dX9_isPlacing_4 : decode cX9_isPlacing 4 = .ok (.sipush 11077, 3) := by decide +kernel
theorem dX9_isPlacing_7 : decode cX9_isPlacing 7 = .ok (.invokestatic 75, 3) := by decide +kernel
theorem dX9_isPlacing_10 : decode cX9_isPlacing 10 = .ok (.ifCond .eq 26, 3) := by decide +kernel
theorem dX9_isPlacing_13 : decode cX9_isPlacing 13 = .ok (.iload_n 0, 1) := by decide +kernel
theorem dX9_isPlacing_14 : decode cX9_isPlacing 14 = .ok (.sipush 1000, 3) := by decide +kernel
theorem dX9_isPlacing_17 : decode cX9_isPlacing 17 = .ok (.irem, 1) := by decide +kernel
theorem dX9_isPlacing_18 : decode cX9_isPlacing 18 = .ok (.bipush 78, 2) := by decide +kernel
theorem dX9_isPlacing_20 : decode cX9_isPlacing 20 = .ok (.if_icmp .ge 16, 3) := by decide +kernel
theorem dX9_isPlacing_23 : decode cX9_isPlacing 23 = .ok (.iload_n 0, 1) := by decide +kernel
theorem dX9_isPlacing_24 : decode cX9_isPlacing 24 = .ok (.bipush 10, 2) := by decide +kernel
theorem dX9_isPlacing_26 : decode cX9_isPlacing 26 = .ok (.irem, 1) := by decide +kernel
theorem dX9_isPlacing_27 : decode cX9_isPlacing 27 = .ok (.bipush 8, 2) := by decide +kernel
theorem dX9_isPlacing_29 : decode cX9_isPlacing 29 = .ok (.if_icmp .ge 7, 3) := by decide +kernel
theorem dX9_isPlacing_32 : decode cX9_isPlacing 32 = .ok (.iconst 1, 1) := by decide +kernel
theorem dX9_isPlacing_33 : decode cX9_isPlacing 33 = .ok (.goto 4, 3) := by decide +kernel
theorem dX9_isPlacing_36 : decode cX9_isPlacing 36 = .ok (.iconst 0, 1) := by decide +kernel
theorem dX9_isPlacing_37 : decode cX9_isPlacing 37 = .ok (.ireturn, 1) := by decide +kernel
theorem dX9_isRowSign_0 : decode cX9_isRowSign 0 = .ok (.iload_n 0, 1) := by decide +kernel
theorem dX9_isRowSign_1 : decode cX9_isRowSign 1 = .ok (.bipush 35, 2) := by decide +kernel
theorem dX9_isRowSign_3 : decode cX9_isRowSign 3 = .ok (.if_icmp .eq 9, 3) := by decide +kernel
theorem dX9_isRowSign_6 : decode cX9_isRowSign 6 = .ok (.iload_n 0, 1) := by decide +kernel
theorem dX9_isRowSign_7 : decode cX9_isRowSign 7 = .ok (.bipush 46, 2) := by decide +kernel
theorem dX9_isRowSign_9 : decode cX9_isRowSign 9 = .ok (.if_icmp .ne 7, 3) := by decide +kernel
theorem dX9_isRowSign_12 : decode cX9_isRowSign 12 = .ok (.iconst 1, 1) := by decide +kernel
theorem dX9_isRowSign_13 : decode cX9_isRowSign 13 = .ok (.goto 4, 3) := by decide +kernel
theorem dX9_isRowSign_16 : decode cX9_isRowSign 16 = .ok (.iconst 0, 1) := by decide +kernel
theorem dX9_isRowSign_17 : decode cX9_isRowSign 17 = .ok (.ireturn, 1) := by decide +kernel
theorem dX9_isSheet_0 : decode cX9_isSheet 0 = .ok (.iload_n 0, 1) := by decide +kernel
theorem dX9_isSheet_1 : decode cX9_isSheet 1 = .ok (.iconst 0, 1) := by decide +kernel
theorem dX9_isSheet_2 : decode cX9_isSheet 2 = .ok (.iconst 3, 1) := by decide +kernel
theorem dX9_isSheet_3 : decode cX9_isSheet 3 = .ok (.invokestatic 75, 3) := by decide +kernel
theorem dX9_isSheet_6 : decode cX9_isSheet 6 = .ok (.ireturn, 1) := by decide +kernel
theorem dX9_cutTo_0 : decode cX9_cutTo 0 = .ok (.iload_n 2, 1) := by decide +kernel
theorem dX9_cutTo_1 : decode cX9_cutTo 1 = .ok (.bipush 8, 2) := by decide +kernel
theorem dX9_cutTo_3 : decode cX9_cutTo 3 = .ok (.if_icmp .ne 10, 3) := by decide +kernel
theorem dX9_cutTo_6 : decode cX9_cutTo 6 = .ok (.lload_n 0, 1) := by decide +kernel
theorem dX9_cutTo_7 : decode cX9_cutTo 7 = .ok (.l2i, 1) := by decide +kernel
theorem dX9_cutTo_8 : decode cX9_cutTo 8 = .ok (.i2b, 1) := by decide +kernel
theorem dX9_cutTo_9 : decode cX9_cutTo 9 = .ok (.i2l, 1) := by decide +kernel
theorem dX9_cutTo_10 : decode cX9_cutTo 10 = .ok (.goto 17, 3) := by decide +kernel
theorem dX9_cutTo_13 : decode cX9_cutTo 13 = .ok (.iload_n 2, 1) := by decide +kernel
theorem dX9_cutTo_14 : decode cX9_cutTo 14 = .ok (.bipush 16, 2) := by decide +kernel
theorem dX9_cutTo_16 : decode cX9_cutTo 16 = .ok (.if_icmp .ne 10, 3) := by decide +kernel
theorem dX9_cutTo_19 : decode cX9_cutTo 19 = .ok (.lload_n 0, 1) := by decide +kernel
theorem dX9_cutTo_20 : decode cX9_cutTo 20 = .ok (.l2i, 1) := by decide +kernel
theorem dX9_cutTo_21 : decode cX9_cutTo 21 = .ok (.i2s, 1) := by decide +kernel
theorem dX9_cutTo_22 : decode cX9_cutTo 22 = .ok (.i2l, 1) := by decide +kernel
theorem dX9_cutTo_23 : decode cX9_cutTo 23 = .ok (.goto 4, 3) := by decide +kernel
theorem dX9_cutTo_26 : decode cX9_cutTo 26 = .ok (.lload_n 0, 1) := by decide +kernel
theorem dX9_cutTo_27 : decode cX9_cutTo 27 = .ok (.lreturn, 1) := by decide +kernel
theorem dX9_rowOf_0 : decode cX9_rowOf 0 = .ok (.lload_n 0, 1) := by decide +kernel
theorem dX9_rowOf_1 : decode cX9_rowOf 1 = .ok (.bipush 8, 2) := by decide +kernel
theorem dX9_rowOf_3 : decode cX9_rowOf 3 = .ok (.iload_n 2, 1) := by decide +kernel
theorem dX9_rowOf_4 : decode cX9_rowOf 4 = .ok (.imul, 1) := by decide +kernel
theorem dX9_rowOf_5 : decode cX9_rowOf 5 = .ok (.lshr, 1) := by decide +kernel
theorem dX9_rowOf_6 : decode cX9_rowOf 6 = .ok (.ldc2_w 293, 3) := by decide +kernel
theorem dX9_rowOf_9 : decode cX9_rowOf 9 = .ok (.land, 1) := by decide +kernel
theorem dX9_rowOf_10 : decode cX9_rowOf 10 = .ok (.lreturn, 1) := by decide +kernel
def w_m_within : List Cond := .code yX9_within cX9_within 3 (some .boolean) :: (([] : List Cond))
set_option maxHeartbeats 4000000 in
set_option maxRecDepth 100000 in
theorem m_within (l : Launch) (dC : Nat → ClassId) (dI : Nat → Nat → Nat) (ad : Nat → Nat) (a : Int32) (lo : Int32) (hi : Int32) : Met l yX9_within w_m_within ({ frames := 0, cells := 0, slots := 0, locals := 0 } : Room) (va_Pc [.int a, .int lo, .int hi] (preS dC dI ad [] [])) (vp_Si (fun r => (r.toInt = 1 ∧ lo.toInt ≤ a.toInt ∧ a.toInt ≤ hi.toInt) ∨ (r.toInt = 0 ∧ ¬ (lo.toInt ≤ a.toInt ∧ a.toInt ≤ hi.toInt)))) 0 0 (fun _ => False) := by
  refine Met.ofW (cc := cX9_within) (maxL := 3) (ret := (some .boolean)) (by decide) rfl ?_
  intro p e s m args below meth c s₁ B hml hv
  obtain ⟨rfl, hP, hK, hev⟩ := hv
  have hx := B.exec
  have hb := B.bytes
  have hr := B.returns
  have hts := atoms_spec (ws := w_m_within) B.pre
  have hown : s.vm.findClass RX9 = some m.cls := findClass_of_methodNamed B.named
  have hlocks := B.notSynchronized
  have hP : va_P (dC, dI) vwCl [] s.heap := hP
  have hl := lv_entry ([.int a, .int lo, .int hi]) (n := 3) (Nat.le_of_ble_eq_true rfl)
  rw [lg_entry_eq]
  generalize (lg_sl ([.int a, .int lo, .int hi]) ++ List.replicate (3 - (lg_sl ([.int a, .int lo, .int hi])).length) Slot.unset).toArray = ls at hl ⊢
  have hl : lv_has ls 3 [(0, .int a), (1, .int lo), (2, .int hi)] := hl
  refine lv_iload_n hx hb dX9_within_0 rfl (lv_at hl 0 rfl) ?_
  refine lv_iload_n hx hb dX9_within_1 rfl (lv_at hl 1 rfl) ?_
  have rc_1_x := pp_rng a
  have rc_1_y := pp_rng lo
  refine lv_icmp_lt (tgt := 14) hx hb dX9_within_2 (by decide) (fun c_1 => ?_) (fun c_1 => ?_)
  · skip
    have tc_1 : a.toInt < lo.toInt := (fa_lt _ _).mp c_1
    refine lv_iconst (v := 0) hx hb dX9_within_14 (by decide) ?_
    exact W.zret (v := (0 : Int32)) hx hb hr (by decide) (fun t ht hW => ⟨(0 : Int32), rfl, (by first | omega | decide | (simp only [fa_lt, fa_le, fa_eq, and_true, true_and, and_false, false_and, not_true_eq_false, not_false_eq_true, li_0, li_1, li_2, li_3, li_4, li_5, li_6, li_7, li_8, li_9, li_10, li_12, li_15, li_16, li_20, li_30, li_34, li_38, li_40, li_63, li_64, li_65, li_78, li_120, li_1000, li_4000, li_10000, li_11077, li_255, li_65535, li_m1, li_m2, li_m1000000001, li_m1000000002, li_m1000000003, li_m1000000004, li_m1000000005, li_m1000000006, li_m1000000007, or_true, true_or, or_false, false_or, implies_true, true_implies, false_implies] <;> omega)), ht⟩) (fun _ h => absurd h List.not_mem_nil) dX9_within_15
  · skip
    have tc_1 : ¬ a.toInt < lo.toInt := fun h => c_1 ((fa_lt _ _).mpr h)
    refine lv_iload_n hx hb dX9_within_5 rfl (lv_at hl 0 rfl) ?_
    refine lv_iload_n hx hb dX9_within_6 rfl (lv_at hl 2 rfl) ?_
    have rc_2_x := pp_rng a
    have rc_2_y := pp_rng hi
    refine lv_icmp_gt (tgt := 14) hx hb dX9_within_7 (by decide) (fun c_2 => ?_) (fun c_2 => ?_)
    · skip
      have tc_2 : hi.toInt < a.toInt := (fa_lt _ _).mp c_2
      refine lv_iconst (v := 0) hx hb dX9_within_14 (by decide) ?_
      exact W.zret (v := (0 : Int32)) hx hb hr (by decide) (fun t ht hW => ⟨(0 : Int32), rfl, (by first | omega | decide | (simp only [fa_lt, fa_le, fa_eq, and_true, true_and, and_false, false_and, not_true_eq_false, not_false_eq_true, li_0, li_1, li_2, li_3, li_4, li_5, li_6, li_7, li_8, li_9, li_10, li_12, li_15, li_16, li_20, li_30, li_34, li_38, li_40, li_63, li_64, li_65, li_78, li_120, li_1000, li_4000, li_10000, li_11077, li_255, li_65535, li_m1, li_m2, li_m1000000001, li_m1000000002, li_m1000000003, li_m1000000004, li_m1000000005, li_m1000000006, li_m1000000007, or_true, true_or, or_false, false_or, implies_true, true_implies, false_implies] <;> omega)), ht⟩) (fun _ h => absurd h List.not_mem_nil) dX9_within_15
    · skip
      have tc_2 : ¬ hi.toInt < a.toInt := fun h => c_2 ((fa_lt _ _).mpr h)
      refine lv_iconst (v := 1) hx hb dX9_within_10 (by decide) ?_
      refine lv_goto (tgt := 15) hx hb dX9_within_11 (by decide) ?_
      exact W.zret (v := (1 : Int32)) hx hb hr (by decide) (fun t ht hW => ⟨(1 : Int32), rfl, (by first | omega | decide | (simp only [fa_lt, fa_le, fa_eq, and_true, true_and, and_false, false_and, not_true_eq_false, not_false_eq_true, li_0, li_1, li_2, li_3, li_4, li_5, li_6, li_7, li_8, li_9, li_10, li_12, li_15, li_16, li_20, li_30, li_34, li_38, li_40, li_63, li_64, li_65, li_78, li_120, li_1000, li_4000, li_10000, li_11077, li_255, li_65535, li_m1, li_m2, li_m1000000001, li_m1000000002, li_m1000000003, li_m1000000004, li_m1000000005, li_m1000000006, li_m1000000007, or_true, true_or, or_false, false_or, implies_true, true_implies, false_implies] <;> omega)), ht⟩) (fun _ h => absurd h List.not_mem_nil) dX9_within_15

def w_m_isKind : List Cond := .code yX9_isKind cX9_isKind 1 (some .boolean) :: (([.methodLink RX9 75 yX9_within, .static yX9_within, .initialized RX9, .code yX9_within cX9_within 3 (some .boolean)] : List Cond))
set_option maxRecDepth 20000 in
theorem g_m_isKind_m_within_75 : GoodIn w_m_isKind (va_wsS RX9 75 yX9_within w_m_within) := goodIn_r _ [1, 2, 3, 4] rfl (by decide +kernel)
set_option maxHeartbeats 4000000 in
set_option maxRecDepth 100000 in
theorem m_isKind (l : Launch) (dC : Nat → ClassId) (dI : Nat → Nat → Nat) (ad : Nat → Nat) (a : Int32) : Met l yX9_isKind w_m_isKind ({ frames := 1, cells := 0, slots := 0, locals := 22 } : Room) (va_Pc [.int a] (preS dC dI ad [] [])) (vp_Si (fun r => True)) 0 0 (fun _ => False) := by
  refine Met.ofW (cc := cX9_isKind) (maxL := 1) (ret := (some .boolean)) (by decide) rfl ?_
  intro p e s m args below meth c s₁ B hml hv
  obtain ⟨rfl, hP, hK, hev⟩ := hv
  have hx := B.exec
  have hb := B.bytes
  have hr := B.returns
  have hts := atoms_spec (ws := w_m_isKind) B.pre
  have hown : s.vm.findClass RX9 = some m.cls := findClass_of_methodNamed B.named
  have hlocks := B.notSynchronized
  have hP : va_P (dC, dI) vwCl [] s.heap := hP
  have hl := lv_entry ([.int a]) (n := 1) (Nat.le_of_ble_eq_true rfl)
  rw [lg_entry_eq]
  generalize (lg_sl ([.int a]) ++ List.replicate (1 - (lg_sl ([.int a])).length) Slot.unset).toArray = ls at hl ⊢
  have hl : lv_has ls 1 [(0, .int a)] := hl
  refine lv_iload_n hx hb dX9_isKind_0 rfl (lv_at hl 0 rfl) ?_
  refine lv_iconst (v := 0) hx hb dX9_isKind_1 (by decide) ?_
  refine lv_iconst (v := 5) hx hb dX9_isKind_2 (by decide) ?_
  have hPc := hP.sub (ws' := []) [] rfl
  have hKc := hK.sub (tys' := []) [] rfl
  refine vp_callSi (W.runS (As := [.int a, .int 0, .int 5]) (rest := []) ⟨hx, hb, hml, hown, hts⟩ (m_within l dC dI ad a 0 5 ) (va_cwS 3 hts g_m_isKind_m_within_75 rfl rfl rfl (by decide +kernel) ⟨(Nat.le_of_ble_eq_true rfl), (Nat.le_of_ble_eq_true rfl)⟩) ⟨preS_blind, fun U hU hW => ⟨rfl, preS_at hU hW hPc hKc hev⟩⟩ rfl rfl hl.1 rfl (lv_room (Nat.le_of_ble_eq_true rfl)) dX9_isKind_3 ⟨(Nat.le_of_ble_eq_true rfl), (Nat.le_of_ble_eq_true rfl)⟩) (fun r_1 hw => ?_)
  have hr_1 : (r_1.toInt = 1 ∧ 0 ≤ a.toInt ∧ a.toInt ≤ 5) ∨ (r_1.toInt = 0 ∧ ¬ (0 ≤ a.toInt ∧ a.toInt ≤ 5)) := hw
  exact W.zret (v := r_1) hx hb hr (pp_nb (by omega)) (fun t ht hW => ⟨r_1, rfl, trivial, ht⟩) (fun _ h => absurd h List.not_mem_nil) dX9_isKind_6

def w_m_isSheet : List Cond := .code yX9_isSheet cX9_isSheet 1 (some .boolean) :: (([.methodLink RX9 75 yX9_within, .static yX9_within, .initialized RX9, .code yX9_within cX9_within 3 (some .boolean)] : List Cond))
set_option maxRecDepth 20000 in
theorem g_m_isSheet_m_within_75 : GoodIn w_m_isSheet (va_wsS RX9 75 yX9_within w_m_within) := goodIn_r _ [1, 2, 3, 4] rfl (by decide +kernel)
set_option maxHeartbeats 4000000 in
set_option maxRecDepth 100000 in
theorem m_isSheet (l : Launch) (dC : Nat → ClassId) (dI : Nat → Nat → Nat) (ad : Nat → Nat) (a : Int32) : Met l yX9_isSheet w_m_isSheet ({ frames := 1, cells := 0, slots := 0, locals := 22 } : Room) (va_Pc [.int a] (preS dC dI ad [] [])) (vp_Si (fun r => (r.toInt = 1 ∧ 0 ≤ a.toInt ∧ a.toInt ≤ 3) ∨ (r.toInt = 0 ∧ ¬ (0 ≤ a.toInt ∧ a.toInt ≤ 3)))) 0 0 (fun _ => False) := by
  refine Met.ofW (cc := cX9_isSheet) (maxL := 1) (ret := (some .boolean)) (by decide) rfl ?_
  intro p e s m args below meth c s₁ B hml hv
  obtain ⟨rfl, hP, hK, hev⟩ := hv
  have hx := B.exec
  have hb := B.bytes
  have hr := B.returns
  have hts := atoms_spec (ws := w_m_isSheet) B.pre
  have hown : s.vm.findClass RX9 = some m.cls := findClass_of_methodNamed B.named
  have hlocks := B.notSynchronized
  have hP : va_P (dC, dI) vwCl [] s.heap := hP
  have hl := lv_entry ([.int a]) (n := 1) (Nat.le_of_ble_eq_true rfl)
  rw [lg_entry_eq]
  generalize (lg_sl ([.int a]) ++ List.replicate (1 - (lg_sl ([.int a])).length) Slot.unset).toArray = ls at hl ⊢
  have hl : lv_has ls 1 [(0, .int a)] := hl
  refine lv_iload_n hx hb dX9_isSheet_0 rfl (lv_at hl 0 rfl) ?_
  refine lv_iconst (v := 0) hx hb dX9_isSheet_1 (by decide) ?_
  refine lv_iconst (v := 3) hx hb dX9_isSheet_2 (by decide) ?_
  have hPc := hP.sub (ws' := []) [] rfl
  have hKc := hK.sub (tys' := []) [] rfl
  refine vp_callSi (W.runS (As := [.int a, .int 0, .int 3]) (rest := []) ⟨hx, hb, hml, hown, hts⟩ (m_within l dC dI ad a 0 3 ) (va_cwS 3 hts g_m_isSheet_m_within_75 rfl rfl rfl (by decide +kernel) ⟨(Nat.le_of_ble_eq_true rfl), (Nat.le_of_ble_eq_true rfl)⟩) ⟨preS_blind, fun U hU hW => ⟨rfl, preS_at hU hW hPc hKc hev⟩⟩ rfl rfl hl.1 rfl (lv_room (Nat.le_of_ble_eq_true rfl)) dX9_isSheet_3 ⟨(Nat.le_of_ble_eq_true rfl), (Nat.le_of_ble_eq_true rfl)⟩) (fun r_1 hw => ?_)
  have hr_1 : (r_1.toInt = 1 ∧ 0 ≤ a.toInt ∧ a.toInt ≤ 3) ∨ (r_1.toInt = 0 ∧ ¬ (0 ≤ a.toInt ∧ a.toInt ≤ 3)) := hw
  exact W.zret (v := r_1) hx hb hr (pp_nb (by omega)) (fun t ht hW => ⟨r_1, rfl, (by first | omega | decide | (simp only [fa_lt, fa_le, fa_eq, and_true, true_and, and_false, false_and, not_true_eq_false, not_false_eq_true, li_0, li_1, li_2, li_3, li_4, li_5, li_6, li_7, li_8, li_9, li_10, li_12, li_15, li_16, li_20, li_30, li_34, li_38, li_40, li_63, li_64, li_65, li_78, li_120, li_1000, li_4000, li_10000, li_11077, li_255, li_65535, li_m1, li_m2, li_m1000000001, li_m1000000002, li_m1000000003, li_m1000000004, li_m1000000005, li_m1000000006, li_m1000000007, or_true, true_or, or_false, false_or, implies_true, true_implies, false_implies] <;> omega)), ht⟩) (fun _ h => absurd h List.not_mem_nil) dX9_isSheet_6

def w_m_above : List Cond := .code yX9_above cX9_above 1 (some .int) :: (([] : List Cond))
set_option maxHeartbeats 4000000 in
set_option maxRecDepth 100000 in
theorem m_above (l : Launch) (dC : Nat → ClassId) (dI : Nat → Nat → Nat) (ad : Nat → Nat) (a : Int32) : Met l yX9_above w_m_above ({ frames := 0, cells := 0, slots := 0, locals := 0 } : Room) (va_Pc [.int a] (preS dC dI ad [] [])) (vp_Si (fun r => (a.toInt = 0 ∧ r.toInt = (-1)) ∨ ((a.toInt = 1 ∨ a.toInt = 2) ∧ r.toInt = 0) ∨ (¬ a.toInt = 0 ∧ 0 ≤ r.toInt ∧ r.toInt ≤ 2))) 0 0 (fun _ => False) := by
  refine Met.ofW (cc := cX9_above) (maxL := 1) (ret := (some .int)) (by decide) rfl ?_
  intro p e s m args below meth c s₁ B hml hv
  obtain ⟨rfl, hP, hK, hev⟩ := hv
  have hx := B.exec
  have hb := B.bytes
  have hr := B.returns
  have hts := atoms_spec (ws := w_m_above) B.pre
  have hown : s.vm.findClass RX9 = some m.cls := findClass_of_methodNamed B.named
  have hlocks := B.notSynchronized
  have hP : va_P (dC, dI) vwCl [] s.heap := hP
  have hl := lv_entry ([.int a]) (n := 1) (Nat.le_of_ble_eq_true rfl)
  rw [lg_entry_eq]
  generalize (lg_sl ([.int a]) ++ List.replicate (1 - (lg_sl ([.int a])).length) Slot.unset).toArray = ls at hl ⊢
  have hl : lv_has ls 1 [(0, .int a)] := hl
  refine lv_iload_n hx hb dX9_above_0 rfl (lv_at hl 0 rfl) ?_
  refine lv_if_ne (tgt := 8) hx hb dX9_above_1 (by decide) (fun c_1 => ?_) (fun c_1 => ?_)
  · skip
    have tc_1 : ¬ a.toInt = 0 := fun h => c_1 ((fa_eq _ _).mpr h)
    refine lv_iload_n hx hb dX9_above_8 rfl (lv_at hl 0 rfl) ?_
    refine lv_iconst (v := 3) hx hb dX9_above_9 (by decide) ?_
    refine lv_icmp_eq (tgt := 18) hx hb dX9_above_10 (by decide) (fun c_2 => ?_) (fun c_2 => ?_)
    · skip
      have tc_2 : a.toInt = 3 := (fa_eq _ _).mp c_2
      refine lv_iconst (v := 1) hx hb dX9_above_18 (by decide) ?_
      refine lv_goto (tgt := 32) hx hb dX9_above_19 (by decide) ?_
      exact W.iret (v := (1 : Int32)) hx hb hr (fun t ht hW => ⟨(1 : Int32), rfl, (by first | omega | decide | (simp only [fa_lt, fa_le, fa_eq, and_true, true_and, and_false, false_and, not_true_eq_false, not_false_eq_true, li_0, li_1, li_2, li_3, li_4, li_5, li_6, li_7, li_8, li_9, li_10, li_12, li_15, li_16, li_20, li_30, li_34, li_38, li_40, li_63, li_64, li_65, li_78, li_120, li_1000, li_4000, li_10000, li_11077, li_255, li_65535, li_m1, li_m2, li_m1000000001, li_m1000000002, li_m1000000003, li_m1000000004, li_m1000000005, li_m1000000006, li_m1000000007, or_true, true_or, or_false, false_or, implies_true, true_implies, false_implies] <;> omega)), ht⟩) (fun _ h => absurd h List.not_mem_nil) dX9_above_32
    · skip
      have tc_2 : ¬ a.toInt = 3 := fun h => c_2 ((fa_eq _ _).mpr h)
      refine lv_iload_n hx hb dX9_above_13 rfl (lv_at hl 0 rfl) ?_
      refine lv_iconst (v := 5) hx hb dX9_above_14 (by decide) ?_
      refine lv_icmp_ne (tgt := 22) hx hb dX9_above_15 (by decide) (fun c_3 => ?_) (fun c_3 => ?_)
      · skip
        have tc_3 : ¬ a.toInt = 5 := fun h => c_3 ((fa_eq _ _).mpr h)
        refine lv_iload_n hx hb dX9_above_22 rfl (lv_at hl 0 rfl) ?_
        refine lv_iconst (v := 4) hx hb dX9_above_23 (by decide) ?_
        refine lv_icmp_ne (tgt := 31) hx hb dX9_above_24 (by decide) (fun c_4 => ?_) (fun c_4 => ?_)
        · skip
          have tc_4 : ¬ a.toInt = 4 := fun h => c_4 ((fa_eq _ _).mpr h)
          refine lv_iconst (v := 0) hx hb dX9_above_31 (by decide) ?_
          exact W.iret (v := (0 : Int32)) hx hb hr (fun t ht hW => ⟨(0 : Int32), rfl, (by first | omega | decide | (simp only [fa_lt, fa_le, fa_eq, and_true, true_and, and_false, false_and, not_true_eq_false, not_false_eq_true, li_0, li_1, li_2, li_3, li_4, li_5, li_6, li_7, li_8, li_9, li_10, li_12, li_15, li_16, li_20, li_30, li_34, li_38, li_40, li_63, li_64, li_65, li_78, li_120, li_1000, li_4000, li_10000, li_11077, li_255, li_65535, li_m1, li_m2, li_m1000000001, li_m1000000002, li_m1000000003, li_m1000000004, li_m1000000005, li_m1000000006, li_m1000000007, or_true, true_or, or_false, false_or, implies_true, true_implies, false_implies] <;> omega)), ht⟩) (fun _ h => absurd h List.not_mem_nil) dX9_above_32
        · skip
          have tc_4 : a.toInt = 4 := (fa_eq _ _).mp c_4
          refine lv_iconst (v := 2) hx hb dX9_above_27 (by decide) ?_
          refine lv_goto (tgt := 32) hx hb dX9_above_28 (by decide) ?_
          exact W.iret (v := (2 : Int32)) hx hb hr (fun t ht hW => ⟨(2 : Int32), rfl, (by first | omega | decide | (simp only [fa_lt, fa_le, fa_eq, and_true, true_and, and_false, false_and, not_true_eq_false, not_false_eq_true, li_0, li_1, li_2, li_3, li_4, li_5, li_6, li_7, li_8, li_9, li_10, li_12, li_15, li_16, li_20, li_30, li_34, li_38, li_40, li_63, li_64, li_65, li_78, li_120, li_1000, li_4000, li_10000, li_11077, li_255, li_65535, li_m1, li_m2, li_m1000000001, li_m1000000002, li_m1000000003, li_m1000000004, li_m1000000005, li_m1000000006, li_m1000000007, or_true, true_or, or_false, false_or, implies_true, true_implies, false_implies] <;> omega)), ht⟩) (fun _ h => absurd h List.not_mem_nil) dX9_above_32
      · skip
        have tc_3 : a.toInt = 5 := (fa_eq _ _).mp c_3
        refine lv_iconst (v := 1) hx hb dX9_above_18 (by decide) ?_
        refine lv_goto (tgt := 32) hx hb dX9_above_19 (by decide) ?_
        exact W.iret (v := (1 : Int32)) hx hb hr (fun t ht hW => ⟨(1 : Int32), rfl, (by first | omega | decide | (simp only [fa_lt, fa_le, fa_eq, and_true, true_and, and_false, false_and, not_true_eq_false, not_false_eq_true, li_0, li_1, li_2, li_3, li_4, li_5, li_6, li_7, li_8, li_9, li_10, li_12, li_15, li_16, li_20, li_30, li_34, li_38, li_40, li_63, li_64, li_65, li_78, li_120, li_1000, li_4000, li_10000, li_11077, li_255, li_65535, li_m1, li_m2, li_m1000000001, li_m1000000002, li_m1000000003, li_m1000000004, li_m1000000005, li_m1000000006, li_m1000000007, or_true, true_or, or_false, false_or, implies_true, true_implies, false_implies] <;> omega)), ht⟩) (fun _ h => absurd h List.not_mem_nil) dX9_above_32
  · skip
    have tc_1 : a.toInt = 0 := (fa_eq _ _).mp c_1
    refine lv_iconst (v := (-1)) hx hb dX9_above_4 (by decide) ?_
    refine lv_goto (tgt := 32) hx hb dX9_above_5 (by decide) ?_
    exact W.iret (v := ((-1) : Int32)) hx hb hr (fun t ht hW => ⟨((-1) : Int32), rfl, (by first | omega | decide | (simp only [fa_lt, fa_le, fa_eq, and_true, true_and, and_false, false_and, not_true_eq_false, not_false_eq_true, li_0, li_1, li_2, li_3, li_4, li_5, li_6, li_7, li_8, li_9, li_10, li_12, li_15, li_16, li_20, li_30, li_34, li_38, li_40, li_63, li_64, li_65, li_78, li_120, li_1000, li_4000, li_10000, li_11077, li_255, li_65535, li_m1, li_m2, li_m1000000001, li_m1000000002, li_m1000000003, li_m1000000004, li_m1000000005, li_m1000000006, li_m1000000007, or_true, true_or, or_false, false_or, implies_true, true_implies, false_implies] <;> omega)), ht⟩) (fun _ h => absurd h List.not_mem_nil) dX9_above_32

def w_m_has : List Cond := .code yX9_has cX9_has 3 (some .boolean) :: (([.methodLink RX9 75 yX9_within, .static yX9_within, .initialized RX9, .code yX9_within cX9_within 3 (some .boolean)] : List Cond))
set_option maxRecDepth 20000 in
theorem g_m_has_m_within_75 : GoodIn w_m_has (va_wsS RX9 75 yX9_within w_m_within) := goodIn_r _ [1, 2, 3, 4] rfl (by decide +kernel)
set_option maxHeartbeats 4000000 in
set_option maxRecDepth 100000 in
theorem m_has (l : Launch) (dC : Nat → ClassId) (dI : Nat → Nat → Nat) (ad : Nat → Nat) (a : Int32) (b : Int32) (d : Int32) : Met l yX9_has w_m_has ({ frames := 1, cells := 0, slots := 0, locals := 22 } : Room) (va_Pc [.int a, .int b, .int d] (preS dC dI ad [] [])) (vp_Si (fun r => True)) 0 0 (fun _ => False) := by
  refine Met.ofW (cc := cX9_has) (maxL := 3) (ret := (some .boolean)) (by decide) rfl ?_
  intro p e s m args below meth c s₁ B hml hv
  obtain ⟨rfl, hP, hK, hev⟩ := hv
  have hx := B.exec
  have hb := B.bytes
  have hr := B.returns
  have hts := atoms_spec (ws := w_m_has) B.pre
  have hown : s.vm.findClass RX9 = some m.cls := findClass_of_methodNamed B.named
  have hlocks := B.notSynchronized
  have hP : va_P (dC, dI) vwCl [] s.heap := hP
  have hl := lv_entry ([.int a, .int b, .int d]) (n := 3) (Nat.le_of_ble_eq_true rfl)
  rw [lg_entry_eq]
  generalize (lg_sl ([.int a, .int b, .int d]) ++ List.replicate (3 - (lg_sl ([.int a, .int b, .int d])).length) Slot.unset).toArray = ls at hl ⊢
  have hl : lv_has ls 3 [(0, .int a), (1, .int b), (2, .int d)] := hl
  refine lv_iload_n hx hb dX9_has_0 rfl (lv_at hl 1 rfl) ?_
  refine lv_iconst (v := 0) hx hb dX9_has_1 (by decide) ?_
  refine lv_iconst (v := 3) hx hb dX9_has_2 (by decide) ?_
  have hPc := hP.sub (ws' := []) [] rfl
  have hKc := hK.sub (tys' := []) [] rfl
  refine vp_callSi (W.runS (As := [.int b, .int 0, .int 3]) (rest := []) ⟨hx, hb, hml, hown, hts⟩ (m_within l dC dI ad b 0 3 ) (va_cwS 3 hts g_m_has_m_within_75 rfl rfl rfl (by decide +kernel) ⟨(Nat.le_of_ble_eq_true rfl), (Nat.le_of_ble_eq_true rfl)⟩) ⟨preS_blind, fun U hU hW => ⟨rfl, preS_at hU hW hPc hKc hev⟩⟩ rfl rfl hl.1 rfl (lv_room (Nat.le_of_ble_eq_true rfl)) dX9_has_3 ⟨(Nat.le_of_ble_eq_true rfl), (Nat.le_of_ble_eq_true rfl)⟩) (fun r_1 hw => ?_)
  have hr_1 : (r_1.toInt = 1 ∧ 0 ≤ b.toInt ∧ b.toInt ≤ 3) ∨ (r_1.toInt = 0 ∧ ¬ (0 ≤ b.toInt ∧ b.toInt ≤ 3)) := hw
  refine lv_if_eq (tgt := 35) hx hb dX9_has_6 (by decide) (fun c_2 => ?_) (fun c_2 => ?_)
  · skip
    have tc_2 : r_1.toInt = 0 := (fa_eq _ _).mp c_2
    refine lv_iconst (v := 0) hx hb dX9_has_35 (by decide) ?_
    exact W.zret (v := (0 : Int32)) hx hb hr (by decide) (fun t ht hW => ⟨(0 : Int32), rfl, trivial, ht⟩) (fun _ h => absurd h List.not_mem_nil) dX9_has_36
  · skip
    have tc_2 : ¬ r_1.toInt = 0 := fun h => c_2 ((fa_eq _ _).mpr h)
    refine lv_iload_n hx hb dX9_has_9 rfl (lv_at hl 2 rfl) ?_
    refine lv_iconst (v := 0) hx hb dX9_has_10 (by decide) ?_
    refine lv_iconst (v := 3) hx hb dX9_has_11 (by decide) ?_
    have hPc := hP.sub (ws' := []) [] rfl
    have hKc := hK.sub (tys' := []) [] rfl
    refine vp_callSi (W.runS (As := [.int d, .int 0, .int 3]) (rest := []) ⟨hx, hb, hml, hown, hts⟩ (m_within l dC dI ad d 0 3 ) (va_cwS 3 hts g_m_has_m_within_75 rfl rfl rfl (by decide +kernel) ⟨(Nat.le_of_ble_eq_true rfl), (Nat.le_of_ble_eq_true rfl)⟩) ⟨preS_blind, fun U hU hW => ⟨rfl, preS_at hU hW hPc hKc hev⟩⟩ rfl rfl hl.1 rfl (lv_room (Nat.le_of_ble_eq_true rfl)) dX9_has_12 ⟨(Nat.le_of_ble_eq_true rfl), (Nat.le_of_ble_eq_true rfl)⟩) (fun r_3 hw => ?_)
    have hr_3 : (r_3.toInt = 1 ∧ 0 ≤ d.toInt ∧ d.toInt ≤ 3) ∨ (r_3.toInt = 0 ∧ ¬ (0 ≤ d.toInt ∧ d.toInt ≤ 3)) := hw
    refine lv_if_eq (tgt := 35) hx hb dX9_has_15 (by decide) (fun c_4 => ?_) (fun c_4 => ?_)
    · skip
      have tc_4 : r_3.toInt = 0 := (fa_eq _ _).mp c_4
      refine lv_iconst (v := 0) hx hb dX9_has_35 (by decide) ?_
      exact W.zret (v := (0 : Int32)) hx hb hr (by decide) (fun t ht hW => ⟨(0 : Int32), rfl, trivial, ht⟩) (fun _ h => absurd h List.not_mem_nil) dX9_has_36
    · skip
      have tc_4 : ¬ r_3.toInt = 0 := fun h => c_4 ((fa_eq _ _).mpr h)
      refine lv_iload_n hx hb dX9_has_18 rfl (lv_at hl 0 rfl) ?_
      refine lv_iconst (v := 4) hx hb dX9_has_19 (by decide) ?_
      refine lv_iload_n hx hb dX9_has_20 rfl (lv_at hl 1 rfl) ?_
      refine lv_imul hx hb dX9_has_21 ?_
      refine lv_topi (fun n_5 en_5 => ?_)
      clear en_5
      refine lv_iload_n hx hb dX9_has_22 rfl (lv_at hl 2 rfl) ?_
      refine lv_iadd hx hb dX9_has_23 ?_
      refine lv_topi (fun n_6 en_6 => ?_)
      clear en_6
      refine lv_ishr hx hb dX9_has_24 ?_
      refine lv_topi (fun n_7 en_7 => ?_)
      clear en_7
      refine lv_iconst (v := 1) hx hb dX9_has_25 (by decide) ?_
      refine lv_iand hx hb dX9_has_26 ?_
      refine lv_topi (fun n_8 en_8 => ?_)
      clear en_8
      refine lv_iconst (v := 1) hx hb dX9_has_27 (by decide) ?_
      refine lv_icmp_ne (tgt := 35) hx hb dX9_has_28 (by decide) (fun c_9 => ?_) (fun c_9 => ?_)
      · skip
        have tc_9 : ¬ n_8.toInt = 1 := fun h => c_9 ((fa_eq _ _).mpr h)
        refine lv_iconst (v := 0) hx hb dX9_has_35 (by decide) ?_
        exact W.zret (v := (0 : Int32)) hx hb hr (by decide) (fun t ht hW => ⟨(0 : Int32), rfl, trivial, ht⟩) (fun _ h => absurd h List.not_mem_nil) dX9_has_36
      · skip
        have tc_9 : n_8.toInt = 1 := (fa_eq _ _).mp c_9
        refine lv_iconst (v := 1) hx hb dX9_has_31 (by decide) ?_
        refine lv_goto (tgt := 36) hx hb dX9_has_32 (by decide) ?_
        exact W.zret (v := (1 : Int32)) hx hb hr (by decide) (fun t ht hW => ⟨(1 : Int32), rfl, trivial, ht⟩) (fun _ h => absurd h List.not_mem_nil) dX9_has_36

def w_m_turned : List Cond := .code yX9_turned cX9_turned 7 (some .int) :: (([.methodLink RX9 109 yX9_has, .static yX9_has, .initialized RX9, .code yX9_has cX9_has 3 (some .boolean), .methodLink RX9 75 yX9_within, .static yX9_within, .code yX9_within cX9_within 3 (some .boolean)] : List Cond))
set_option maxRecDepth 20000 in
theorem g_m_turned_m_has_109 : GoodIn w_m_turned (va_wsS RX9 109 yX9_has w_m_has) := goodIn_r _ [1, 2, 3, 4, 5, 6, 3, 7] rfl (by decide +kernel)
set_option maxHeartbeats 4000000 in
set_option maxRecDepth 100000 in
theorem m_turned (l : Launch) (dC : Nat → ClassId) (dI : Nat → Nat → Nat) (ad : Nat → Nat) (a : Int32) (b : Int32) : Met l yX9_turned w_m_turned ({ frames := 2, cells := 0, slots := 0, locals := 44 } : Room) (va_Pc [.int a, .int b] (preS dC dI ad [] [])) (vp_Si (fun r => True)) 0 0 (fun _ => False) := by
  refine Met.ofW (cc := cX9_turned) (maxL := 7) (ret := (some .int)) (by decide) rfl ?_
  intro p e s m args below meth c s₁ B hml hv
  obtain ⟨rfl, hP, hK, hev⟩ := hv
  have hx := B.exec
  have hb := B.bytes
  have hr := B.returns
  have hts := atoms_spec (ws := w_m_turned) B.pre
  have hown : s.vm.findClass RX9 = some m.cls := findClass_of_methodNamed B.named
  have hlocks := B.notSynchronized
  have hP : va_P (dC, dI) vwCl [] s.heap := hP
  have hl := lv_entry ([.int a, .int b]) (n := 7) (Nat.le_of_ble_eq_true rfl)
  rw [lg_entry_eq]
  generalize (lg_sl ([.int a, .int b]) ++ List.replicate (7 - (lg_sl ([.int a, .int b])).length) Slot.unset).toArray = ls at hl ⊢
  have hl : lv_has ls 7 [(0, .int a), (1, .int b)] := hl
  refine lv_iload_n hx hb dX9_turned_0 rfl (lv_at hl 0 rfl) ?_
  refine lv_istore_n (lv' := [(2, .int a), (0, .int a), (1, .int b)]) hx hb dX9_turned_1 rfl hl (by decide) rfl (fun ls hl => ?_)
  refine lv_iconst (v := 0) hx hb dX9_turned_2 (by decide) ?_
  refine lv_istore_n (lv' := [(3, .int 0), (2, .int a), (0, .int a), (1, .int b)]) hx hb dX9_turned_3 rfl hl (by decide) rfl (fun ls hl => ?_)
  refine pp_loop (ι := Int32 × Int32) (fun ⟨v3_4, v2_4⟩ => (b.toInt - v3_4.toInt).toNat) (fun ⟨v3_4, v2_4⟩ H locs ls => (0 ≤ v3_4.toInt) ∧ H = s.heap ∧ locs = [] ∧ lv_has ls 7 [(3, .int v3_4), (2, .int v2_4), (0, .int a), (1, .int b)]) ?_ (0, a) _ _ _ ⟨(by first | omega | decide | (simp only [fa_lt, fa_le, fa_eq, and_true, true_and, and_false, false_and, not_true_eq_false, not_false_eq_true, li_0, li_1, li_2, li_3, li_4, li_5, li_6, li_7, li_8, li_9, li_10, li_12, li_15, li_16, li_20, li_30, li_34, li_38, li_40, li_63, li_64, li_65, li_78, li_120, li_1000, li_4000, li_10000, li_11077, li_255, li_65535, li_m1, li_m2, li_m1000000001, li_m1000000002, li_m1000000003, li_m1000000004, li_m1000000005, li_m1000000006, li_m1000000007, or_true, true_or, or_false, false_or, implies_true, true_implies, false_implies] <;> omega)), rfl, rfl, lv_sub hl [0, 1, 2, 3] rfl⟩
  intro k_1 ihk_1 u H locs ls hm hI
  obtain ⟨v3_4, v2_4⟩ := u
  obtain ⟨jk_1_0, rfl, rfl, hl⟩ := hI
  have hmk_1 : (b.toInt - v3_4.toInt).toNat < k_1 + 1 := hm
  clear hm
  have jk_1_0 : 0 ≤ v3_4.toInt := jk_1_0
  have hl : lv_has ls 7 [(3, .int v3_4), (2, .int v2_4), (0, .int a), (1, .int b)] := hl
  refine lv_iload_n hx hb dX9_turned_4 rfl (lv_at hl 0 rfl) ?_
  refine lv_iload_n hx hb dX9_turned_5 rfl (lv_at hl 3 rfl) ?_
  have rc_2_x := pp_rng v3_4
  have rc_2_y := pp_rng b
  refine lv_icmp_ge (tgt := 84) hx hb dX9_turned_6 (by decide) (fun c_2 => ?_) (fun c_2 => ?_)
  · skip
    have tc_2 : b.toInt ≤ v3_4.toInt := (fa_le _ _).mp c_2
    refine lv_iload_n hx hb dX9_turned_84 rfl (lv_at hl 1 rfl) ?_
    exact W.iret (v := v2_4) hx hb hr (fun t ht hW => ⟨v2_4, rfl, trivial, ht⟩) (fun _ h => absurd h List.not_mem_nil) dX9_turned_85
  · skip
    have tc_2 : ¬ b.toInt ≤ v3_4.toInt := fun h => c_2 ((fa_le _ _).mpr h)
    refine lv_iconst (v := 0) hx hb dX9_turned_9 (by decide) ?_
    refine lv_istore (lv' := [(4, .int 0), (3, .int v3_4), (2, .int v2_4), (0, .int a), (1, .int b)]) hx hb dX9_turned_10 hl (by decide) rfl (fun ls hl => ?_)
    refine lv_iconst (v := 0) hx hb dX9_turned_12 (by decide) ?_
    refine lv_istore (lv' := [(5, .int 0), (4, .int 0), (3, .int v3_4), (2, .int v2_4), (0, .int a), (1, .int b)]) hx hb dX9_turned_13 hl (by decide) rfl (fun ls hl => ?_)
    refine pp_loop (ι := Int32 × Int32) (fun ⟨v5_15, v4_15⟩ => (4 - v5_15.toInt).toNat) (fun ⟨v5_15, v4_15⟩ H locs ls => (0 ≤ v5_15.toInt) ∧ (v5_15.toInt ≤ 4) ∧ H = s.heap ∧ locs = [] ∧ lv_has ls 7 [(5, .int v5_15), (4, .int v4_15), (3, .int v3_4), (2, .int v2_4), (0, .int a), (1, .int b)]) ?_ (0, 0) _ _ _ ⟨(by first | omega | decide | (simp only [fa_lt, fa_le, fa_eq, and_true, true_and, and_false, false_and, not_true_eq_false, not_false_eq_true, li_0, li_1, li_2, li_3, li_4, li_5, li_6, li_7, li_8, li_9, li_10, li_12, li_15, li_16, li_20, li_30, li_34, li_38, li_40, li_63, li_64, li_65, li_78, li_120, li_1000, li_4000, li_10000, li_11077, li_255, li_65535, li_m1, li_m2, li_m1000000001, li_m1000000002, li_m1000000003, li_m1000000004, li_m1000000005, li_m1000000006, li_m1000000007, or_true, true_or, or_false, false_or, implies_true, true_implies, false_implies] <;> omega)), (by first | omega | decide | (simp only [fa_lt, fa_le, fa_eq, and_true, true_and, and_false, false_and, not_true_eq_false, not_false_eq_true, li_0, li_1, li_2, li_3, li_4, li_5, li_6, li_7, li_8, li_9, li_10, li_12, li_15, li_16, li_20, li_30, li_34, li_38, li_40, li_63, li_64, li_65, li_78, li_120, li_1000, li_4000, li_10000, li_11077, li_255, li_65535, li_m1, li_m2, li_m1000000001, li_m1000000002, li_m1000000003, li_m1000000004, li_m1000000005, li_m1000000006, li_m1000000007, or_true, true_or, or_false, false_or, implies_true, true_implies, false_implies] <;> omega)), rfl, rfl, lv_sub hl [0, 1, 2, 3, 4, 5] rfl⟩
    intro k_3 ihk_3 u H locs ls hm hI
    obtain ⟨v5_15, v4_15⟩ := u
    obtain ⟨jk_3_0, jk_3_1, rfl, rfl, hl⟩ := hI
    have hmk_3 : (4 - v5_15.toInt).toNat < k_3 + 1 := hm
    clear hm
    have jk_3_0 : 0 ≤ v5_15.toInt := jk_3_0
    have jk_3_1 : v5_15.toInt ≤ 4 := jk_3_1
    have hl : lv_has ls 7 [(5, .int v5_15), (4, .int v4_15), (3, .int v3_4), (2, .int v2_4), (0, .int a), (1, .int b)] := hl
    refine lv_iload hx hb dX9_turned_15 (lv_at hl 0 rfl) ?_
    refine lv_iconst (v := 4) hx hb dX9_turned_17 (by decide) ?_
    refine lv_icmp_ge (tgt := 75) hx hb dX9_turned_18 (by decide) (fun c_4 => ?_) (fun c_4 => ?_)
    · skip
      have tc_4 : 4 ≤ v5_15.toInt := (fa_le _ _).mp c_4
      refine lv_iload hx hb dX9_turned_75 (lv_at hl 1 rfl) ?_
      refine lv_istore_n (lv' := [(2, .int v4_15), (5, .int v5_15), (4, .int v4_15), (3, .int v3_4), (0, .int a), (1, .int b)]) hx hb dX9_turned_77 rfl hl (by decide) rfl (fun ls hl => ?_)
      obtain ⟨n_5, en_5⟩ : ∃ y : Int32, y = v3_4 + 1 := ⟨_, rfl⟩
      have tn_5 : n_5.toInt = v3_4.toInt + 1 := pp_add en_5 rfl rfl (by have := pp_rng v3_4; omega) (by have := pp_rng v3_4; omega)
      refine lv_iinc (v := n_5) (lv' := [(3, .int n_5), (2, .int v4_15), (5, .int v5_15), (4, .int v4_15), (0, .int a), (1, .int b)]) hx hb dX9_turned_78 hl (k := 3) rfl (by rw [en_5]; rfl) (by decide) rfl (fun ls hl => ?_)
      clear en_5
      refine lv_goto (tgt := 4) hx hb dX9_turned_81 (by decide) ?_
      exact ihk_1 (n_5, v4_15) _ _ _ (by show (b.toInt - n_5.toInt).toNat < k_1; omega) ⟨(by first | omega | decide | (simp only [fa_lt, fa_le, fa_eq, and_true, true_and, and_false, false_and, not_true_eq_false, not_false_eq_true, li_0, li_1, li_2, li_3, li_4, li_5, li_6, li_7, li_8, li_9, li_10, li_12, li_15, li_16, li_20, li_30, li_34, li_38, li_40, li_63, li_64, li_65, li_78, li_120, li_1000, li_4000, li_10000, li_11077, li_255, li_65535, li_m1, li_m2, li_m1000000001, li_m1000000002, li_m1000000003, li_m1000000004, li_m1000000005, li_m1000000006, li_m1000000007, or_true, true_or, or_false, false_or, implies_true, true_implies, false_implies] <;> omega)), rfl, rfl, lv_sub hl [0, 1, 4, 5] rfl⟩
    · skip
      have tc_4 : ¬ 4 ≤ v5_15.toInt := fun h => c_4 ((fa_le _ _).mpr h)
      refine lv_iconst (v := 0) hx hb dX9_turned_21 (by decide) ?_
      refine lv_istore (lv' := [(6, .int 0), (5, .int v5_15), (4, .int v4_15), (3, .int v3_4), (2, .int v2_4), (0, .int a), (1, .int b)]) hx hb dX9_turned_22 hl (by decide) rfl (fun ls hl => ?_)
      refine pp_loop (ι := Int32 × Int32) (fun ⟨v6_24, v4_24⟩ => (4 - v6_24.toInt).toNat) (fun ⟨v6_24, v4_24⟩ H locs ls => (0 ≤ v6_24.toInt) ∧ (v6_24.toInt ≤ 4) ∧ H = s.heap ∧ locs = [] ∧ lv_has ls 7 [(6, .int v6_24), (5, .int v5_15), (4, .int v4_24), (3, .int v3_4), (2, .int v2_4), (0, .int a), (1, .int b)]) ?_ (0, v4_15) _ _ _ ⟨(by first | omega | decide | (simp only [fa_lt, fa_le, fa_eq, and_true, true_and, and_false, false_and, not_true_eq_false, not_false_eq_true, li_0, li_1, li_2, li_3, li_4, li_5, li_6, li_7, li_8, li_9, li_10, li_12, li_15, li_16, li_20, li_30, li_34, li_38, li_40, li_63, li_64, li_65, li_78, li_120, li_1000, li_4000, li_10000, li_11077, li_255, li_65535, li_m1, li_m2, li_m1000000001, li_m1000000002, li_m1000000003, li_m1000000004, li_m1000000005, li_m1000000006, li_m1000000007, or_true, true_or, or_false, false_or, implies_true, true_implies, false_implies] <;> omega)), (by first | omega | decide | (simp only [fa_lt, fa_le, fa_eq, and_true, true_and, and_false, false_and, not_true_eq_false, not_false_eq_true, li_0, li_1, li_2, li_3, li_4, li_5, li_6, li_7, li_8, li_9, li_10, li_12, li_15, li_16, li_20, li_30, li_34, li_38, li_40, li_63, li_64, li_65, li_78, li_120, li_1000, li_4000, li_10000, li_11077, li_255, li_65535, li_m1, li_m2, li_m1000000001, li_m1000000002, li_m1000000003, li_m1000000004, li_m1000000005, li_m1000000006, li_m1000000007, or_true, true_or, or_false, false_or, implies_true, true_implies, false_implies] <;> omega)), rfl, rfl, lv_sub hl [0, 1, 2, 3, 4, 5, 6] rfl⟩
      intro k_6 ihk_6 u H locs ls hm hI
      obtain ⟨v6_24, v4_24⟩ := u
      obtain ⟨jk_6_0, jk_6_1, rfl, rfl, hl⟩ := hI
      have hmk_6 : (4 - v6_24.toInt).toNat < k_6 + 1 := hm
      clear hm
      have jk_6_0 : 0 ≤ v6_24.toInt := jk_6_0
      have jk_6_1 : v6_24.toInt ≤ 4 := jk_6_1
      have hl : lv_has ls 7 [(6, .int v6_24), (5, .int v5_15), (4, .int v4_24), (3, .int v3_4), (2, .int v2_4), (0, .int a), (1, .int b)] := hl
      refine lv_iload hx hb dX9_turned_24 (lv_at hl 0 rfl) ?_
      refine lv_iconst (v := 4) hx hb dX9_turned_26 (by decide) ?_
      refine lv_icmp_ge (tgt := 69) hx hb dX9_turned_27 (by decide) (fun c_7 => ?_) (fun c_7 => ?_)
      · skip
        have tc_7 : 4 ≤ v6_24.toInt := (fa_le _ _).mp c_7
        obtain ⟨n_8, en_8⟩ : ∃ y : Int32, y = v5_15 + 1 := ⟨_, rfl⟩
        have tn_8 : n_8.toInt = v5_15.toInt + 1 := pp_add en_8 rfl rfl (by omega) (by omega)
        refine lv_iinc (v := n_8) (lv' := [(5, .int n_8), (6, .int v6_24), (4, .int v4_24), (3, .int v3_4), (2, .int v2_4), (0, .int a), (1, .int b)]) hx hb dX9_turned_69 hl (k := 1) rfl (by rw [en_8]; rfl) (by decide) rfl (fun ls hl => ?_)
        clear en_8
        refine lv_goto (tgt := 15) hx hb dX9_turned_72 (by decide) ?_
        exact ihk_3 (n_8, v4_24) _ _ _ (by show (4 - n_8.toInt).toNat < k_3; omega) ⟨(by first | omega | decide | (simp only [fa_lt, fa_le, fa_eq, and_true, true_and, and_false, false_and, not_true_eq_false, not_false_eq_true, li_0, li_1, li_2, li_3, li_4, li_5, li_6, li_7, li_8, li_9, li_10, li_12, li_15, li_16, li_20, li_30, li_34, li_38, li_40, li_63, li_64, li_65, li_78, li_120, li_1000, li_4000, li_10000, li_11077, li_255, li_65535, li_m1, li_m2, li_m1000000001, li_m1000000002, li_m1000000003, li_m1000000004, li_m1000000005, li_m1000000006, li_m1000000007, or_true, true_or, or_false, false_or, implies_true, true_implies, false_implies] <;> omega)), (by first | omega | decide | (simp only [fa_lt, fa_le, fa_eq, and_true, true_and, and_false, false_and, not_true_eq_false, not_false_eq_true, li_0, li_1, li_2, li_3, li_4, li_5, li_6, li_7, li_8, li_9, li_10, li_12, li_15, li_16, li_20, li_30, li_34, li_38, li_40, li_63, li_64, li_65, li_78, li_120, li_1000, li_4000, li_10000, li_11077, li_255, li_65535, li_m1, li_m2, li_m1000000001, li_m1000000002, li_m1000000003, li_m1000000004, li_m1000000005, li_m1000000006, li_m1000000007, or_true, true_or, or_false, false_or, implies_true, true_implies, false_implies] <;> omega)), rfl, rfl, lv_sub hl [0, 2, 3, 4, 5, 6] rfl⟩
      · skip
        have tc_7 : ¬ 4 ≤ v6_24.toInt := fun h => c_7 ((fa_le _ _).mpr h)
        refine lv_iload hx hb dX9_turned_30 (lv_at hl 2 rfl) ?_
        refine lv_iload_n hx hb dX9_turned_32 rfl (lv_at hl 4 rfl) ?_
        refine lv_iload hx hb dX9_turned_33 (lv_at hl 1 rfl) ?_
        refine lv_iload hx hb dX9_turned_35 (lv_at hl 0 rfl) ?_
        have hPc := hP.sub (ws' := []) [] rfl
        have hKc := hK.sub (tys' := []) [] rfl
        refine vp_callSi (W.runS (As := [.int v2_4, .int v5_15, .int v6_24]) (rest := [.int v4_24]) ⟨hx, hb, hml, hown, hts⟩ (m_has l dC dI ad v2_4 v5_15 v6_24 ) (va_cwS 3 hts g_m_turned_m_has_109 rfl rfl rfl (by decide +kernel) ⟨(Nat.le_of_ble_eq_true rfl), (Nat.le_of_ble_eq_true rfl)⟩) ⟨preS_blind, fun U hU hW => ⟨rfl, preS_at hU hW hPc hKc hev⟩⟩ rfl rfl hl.1 rfl (lv_room (Nat.le_of_ble_eq_true rfl)) dX9_turned_37 ⟨(Nat.le_of_ble_eq_true rfl), (Nat.le_of_ble_eq_true rfl)⟩) (fun r_9 hw => ?_)
        refine lv_if_eq (tgt := 59) hx hb dX9_turned_40 (by decide) (fun c_10 => ?_) (fun c_10 => ?_)
        · skip
          have tc_10 : r_9.toInt = 0 := (fa_eq _ _).mp c_10
          refine lv_iconst (v := 0) hx hb dX9_turned_59 (by decide) ?_
          refine lv_ior hx hb dX9_turned_60 ?_
          refine lv_topi (fun n_11 en_11 => ?_)
          clear en_11
          refine lv_istore (lv' := [(4, .int n_11), (6, .int v6_24), (5, .int v5_15), (3, .int v3_4), (2, .int v2_4), (0, .int a), (1, .int b)]) hx hb dX9_turned_61 hl (by decide) rfl (fun ls hl => ?_)
          obtain ⟨n_12, en_12⟩ : ∃ y : Int32, y = v6_24 + 1 := ⟨_, rfl⟩
          have tn_12 : n_12.toInt = v6_24.toInt + 1 := pp_add en_12 rfl rfl (by omega) (by omega)
          refine lv_iinc (v := n_12) (lv' := [(6, .int n_12), (4, .int n_11), (5, .int v5_15), (3, .int v3_4), (2, .int v2_4), (0, .int a), (1, .int b)]) hx hb dX9_turned_63 hl (k := 1) rfl (by rw [en_12]; rfl) (by decide) rfl (fun ls hl => ?_)
          clear en_12
          refine lv_goto (tgt := 24) hx hb dX9_turned_66 (by decide) ?_
          exact ihk_6 (n_12, n_11) _ _ _ (by show (4 - n_12.toInt).toNat < k_6; omega) ⟨(by first | omega | decide | (simp only [fa_lt, fa_le, fa_eq, and_true, true_and, and_false, false_and, not_true_eq_false, not_false_eq_true, li_0, li_1, li_2, li_3, li_4, li_5, li_6, li_7, li_8, li_9, li_10, li_12, li_15, li_16, li_20, li_30, li_34, li_38, li_40, li_63, li_64, li_65, li_78, li_120, li_1000, li_4000, li_10000, li_11077, li_255, li_65535, li_m1, li_m2, li_m1000000001, li_m1000000002, li_m1000000003, li_m1000000004, li_m1000000005, li_m1000000006, li_m1000000007, or_true, true_or, or_false, false_or, implies_true, true_implies, false_implies] <;> omega)), (by first | omega | decide | (simp only [fa_lt, fa_le, fa_eq, and_true, true_and, and_false, false_and, not_true_eq_false, not_false_eq_true, li_0, li_1, li_2, li_3, li_4, li_5, li_6, li_7, li_8, li_9, li_10, li_12, li_15, li_16, li_20, li_30, li_34, li_38, li_40, li_63, li_64, li_65, li_78, li_120, li_1000, li_4000, li_10000, li_11077, li_255, li_65535, li_m1, li_m2, li_m1000000001, li_m1000000002, li_m1000000003, li_m1000000004, li_m1000000005, li_m1000000006, li_m1000000007, or_true, true_or, or_false, false_or, implies_true, true_implies, false_implies] <;> omega)), rfl, rfl, lv_sub hl [0, 2, 1, 3, 4, 5, 6] rfl⟩
        · skip
          have tc_10 : ¬ r_9.toInt = 0 := fun h => c_10 ((fa_eq _ _).mpr h)
          refine lv_iconst (v := 1) hx hb dX9_turned_43 (by decide) ?_
          refine lv_iconst (v := 4) hx hb dX9_turned_44 (by decide) ?_
          refine lv_iload hx hb dX9_turned_45 (lv_at hl 0 rfl) ?_
          refine lv_imul hx hb dX9_turned_47 ?_
          refine lv_topi (fun n_13 en_13 => ?_)
          have tn_13 : n_13.toInt = 4 * v6_24.toInt := pp_mul en_13 rfl rfl (by omega) (by omega)
          clear en_13
          refine lv_iconst (v := 4) hx hb dX9_turned_48 (by decide) ?_
          refine lv_iadd hx hb dX9_turned_49 ?_
          refine lv_topi (fun n_14 en_14 => ?_)
          have tn_14 : n_14.toInt = n_13.toInt + 4 := pp_add en_14 rfl rfl (by omega) (by omega)
          clear en_14
          refine lv_iconst (v := 1) hx hb dX9_turned_50 (by decide) ?_
          refine lv_isub hx hb dX9_turned_51 ?_
          refine lv_topi (fun n_15 en_15 => ?_)
          have tn_15 : n_15.toInt = n_14.toInt - 1 := pp_sub en_15 rfl rfl (by omega) (by omega)
          clear en_15
          refine lv_iload hx hb dX9_turned_52 (lv_at hl 1 rfl) ?_
          refine lv_isub hx hb dX9_turned_54 ?_
          refine lv_topi (fun n_16 en_16 => ?_)
          have tn_16 : n_16.toInt = n_15.toInt - v5_15.toInt := pp_sub en_16 rfl rfl (by omega) (by omega)
          clear en_16
          refine lv_ishl hx hb dX9_turned_55 ?_
          refine lv_topi (fun n_17 en_17 => ?_)
          clear en_17
          refine lv_goto (tgt := 60) hx hb dX9_turned_56 (by decide) ?_
          refine lv_ior hx hb dX9_turned_60 ?_
          refine lv_topi (fun n_18 en_18 => ?_)
          clear en_18
          refine lv_istore (lv' := [(4, .int n_18), (6, .int v6_24), (5, .int v5_15), (3, .int v3_4), (2, .int v2_4), (0, .int a), (1, .int b)]) hx hb dX9_turned_61 hl (by decide) rfl (fun ls hl => ?_)
          obtain ⟨n_19, en_19⟩ : ∃ y : Int32, y = v6_24 + 1 := ⟨_, rfl⟩
          have tn_19 : n_19.toInt = v6_24.toInt + 1 := pp_add en_19 rfl rfl (by omega) (by omega)
          refine lv_iinc (v := n_19) (lv' := [(6, .int n_19), (4, .int n_18), (5, .int v5_15), (3, .int v3_4), (2, .int v2_4), (0, .int a), (1, .int b)]) hx hb dX9_turned_63 hl (k := 1) rfl (by rw [en_19]; rfl) (by decide) rfl (fun ls hl => ?_)
          clear en_19
          refine lv_goto (tgt := 24) hx hb dX9_turned_66 (by decide) ?_
          exact ihk_6 (n_19, n_18) _ _ _ (by show (4 - n_19.toInt).toNat < k_6; omega) ⟨(by first | omega | decide | (simp only [fa_lt, fa_le, fa_eq, and_true, true_and, and_false, false_and, not_true_eq_false, not_false_eq_true, li_0, li_1, li_2, li_3, li_4, li_5, li_6, li_7, li_8, li_9, li_10, li_12, li_15, li_16, li_20, li_30, li_34, li_38, li_40, li_63, li_64, li_65, li_78, li_120, li_1000, li_4000, li_10000, li_11077, li_255, li_65535, li_m1, li_m2, li_m1000000001, li_m1000000002, li_m1000000003, li_m1000000004, li_m1000000005, li_m1000000006, li_m1000000007, or_true, true_or, or_false, false_or, implies_true, true_implies, false_implies] <;> omega)), (by first | omega | decide | (simp only [fa_lt, fa_le, fa_eq, and_true, true_and, and_false, false_and, not_true_eq_false, not_false_eq_true, li_0, li_1, li_2, li_3, li_4, li_5, li_6, li_7, li_8, li_9, li_10, li_12, li_15, li_16, li_20, li_30, li_34, li_38, li_40, li_63, li_64, li_65, li_78, li_120, li_1000, li_4000, li_10000, li_11077, li_255, li_65535, li_m1, li_m2, li_m1000000001, li_m1000000002, li_m1000000003, li_m1000000004, li_m1000000005, li_m1000000006, li_m1000000007, or_true, true_or, or_false, false_or, implies_true, true_implies, false_implies] <;> omega)), rfl, rfl, lv_sub hl [0, 2, 1, 3, 4, 5, 6] rfl⟩

def w_m_mirrored : List Cond := .code yX9_mirrored cX9_mirrored 5 (some .int) :: (([.methodLink RX9 109 yX9_has, .static yX9_has, .initialized RX9, .code yX9_has cX9_has 3 (some .boolean), .methodLink RX9 75 yX9_within, .static yX9_within, .code yX9_within cX9_within 3 (some .boolean)] : List Cond))
set_option maxRecDepth 20000 in
theorem g_m_mirrored_m_has_109 : GoodIn w_m_mirrored (va_wsS RX9 109 yX9_has w_m_has) := goodIn_r _ [1, 2, 3, 4, 5, 6, 3, 7] rfl (by decide +kernel)
set_option maxHeartbeats 4000000 in
set_option maxRecDepth 100000 in
theorem m_mirrored (l : Launch) (dC : Nat → ClassId) (dI : Nat → Nat → Nat) (ad : Nat → Nat) (a : Int32) (b : Int32) : Met l yX9_mirrored w_m_mirrored ({ frames := 2, cells := 0, slots := 0, locals := 44 } : Room) (va_Pc [.int a, .int b] (preS dC dI ad [] [])) (vp_Si (fun r => True)) 0 0 (fun _ => False) := by
  refine Met.ofW (cc := cX9_mirrored) (maxL := 5) (ret := (some .int)) (by decide) rfl ?_
  intro p e s m args below meth c s₁ B hml hv
  obtain ⟨rfl, hP, hK, hev⟩ := hv
  have hx := B.exec
  have hb := B.bytes
  have hr := B.returns
  have hts := atoms_spec (ws := w_m_mirrored) B.pre
  have hown : s.vm.findClass RX9 = some m.cls := findClass_of_methodNamed B.named
  have hlocks := B.notSynchronized
  have hP : va_P (dC, dI) vwCl [] s.heap := hP
  have hl := lv_entry ([.int a, .int b]) (n := 5) (Nat.le_of_ble_eq_true rfl)
  rw [lg_entry_eq]
  generalize (lg_sl ([.int a, .int b]) ++ List.replicate (5 - (lg_sl ([.int a, .int b])).length) Slot.unset).toArray = ls at hl ⊢
  have hl : lv_has ls 5 [(0, .int a), (1, .int b)] := hl
  refine lv_iconst (v := 0) hx hb dX9_mirrored_0 (by decide) ?_
  refine lv_istore_n (lv' := [(2, .int 0), (0, .int a), (1, .int b)]) hx hb dX9_mirrored_1 rfl hl (by decide) rfl (fun ls hl => ?_)
  refine lv_iconst (v := 0) hx hb dX9_mirrored_2 (by decide) ?_
  refine lv_istore_n (lv' := [(3, .int 0), (2, .int 0), (0, .int a), (1, .int b)]) hx hb dX9_mirrored_3 rfl hl (by decide) rfl (fun ls hl => ?_)
  refine pp_loop (ι := Int32 × Int32) (fun ⟨v3_4, v2_4⟩ => (4 - v3_4.toInt).toNat) (fun ⟨v3_4, v2_4⟩ H locs ls => (0 ≤ v3_4.toInt) ∧ (v3_4.toInt ≤ 4) ∧ H = s.heap ∧ locs = [] ∧ lv_has ls 5 [(3, .int v3_4), (2, .int v2_4), (0, .int a), (1, .int b)]) ?_ (0, 0) _ _ _ ⟨(by first | omega | decide | (simp only [fa_lt, fa_le, fa_eq, and_true, true_and, and_false, false_and, not_true_eq_false, not_false_eq_true, li_0, li_1, li_2, li_3, li_4, li_5, li_6, li_7, li_8, li_9, li_10, li_12, li_15, li_16, li_20, li_30, li_34, li_38, li_40, li_63, li_64, li_65, li_78, li_120, li_1000, li_4000, li_10000, li_11077, li_255, li_65535, li_m1, li_m2, li_m1000000001, li_m1000000002, li_m1000000003, li_m1000000004, li_m1000000005, li_m1000000006, li_m1000000007, or_true, true_or, or_false, false_or, implies_true, true_implies, false_implies] <;> omega)), (by first | omega | decide | (simp only [fa_lt, fa_le, fa_eq, and_true, true_and, and_false, false_and, not_true_eq_false, not_false_eq_true, li_0, li_1, li_2, li_3, li_4, li_5, li_6, li_7, li_8, li_9, li_10, li_12, li_15, li_16, li_20, li_30, li_34, li_38, li_40, li_63, li_64, li_65, li_78, li_120, li_1000, li_4000, li_10000, li_11077, li_255, li_65535, li_m1, li_m2, li_m1000000001, li_m1000000002, li_m1000000003, li_m1000000004, li_m1000000005, li_m1000000006, li_m1000000007, or_true, true_or, or_false, false_or, implies_true, true_implies, false_implies] <;> omega)), rfl, rfl, lv_sub hl [0, 1, 2, 3] rfl⟩
  intro k_1 ihk_1 u H locs ls hm hI
  obtain ⟨v3_4, v2_4⟩ := u
  obtain ⟨jk_1_0, jk_1_1, rfl, rfl, hl⟩ := hI
  have hmk_1 : (4 - v3_4.toInt).toNat < k_1 + 1 := hm
  clear hm
  have jk_1_0 : 0 ≤ v3_4.toInt := jk_1_0
  have jk_1_1 : v3_4.toInt ≤ 4 := jk_1_1
  have hl : lv_has ls 5 [(3, .int v3_4), (2, .int v2_4), (0, .int a), (1, .int b)] := hl
  refine lv_iload_n hx hb dX9_mirrored_4 rfl (lv_at hl 0 rfl) ?_
  refine lv_iconst (v := 4) hx hb dX9_mirrored_5 (by decide) ?_
  refine lv_icmp_ge (tgt := 69) hx hb dX9_mirrored_6 (by decide) (fun c_2 => ?_) (fun c_2 => ?_)
  · skip
    have tc_2 : 4 ≤ v3_4.toInt := (fa_le _ _).mp c_2
    refine lv_iload_n hx hb dX9_mirrored_69 rfl (lv_at hl 1 rfl) ?_
    exact W.iret (v := v2_4) hx hb hr (fun t ht hW => ⟨v2_4, rfl, trivial, ht⟩) (fun _ h => absurd h List.not_mem_nil) dX9_mirrored_70
  · skip
    have tc_2 : ¬ 4 ≤ v3_4.toInt := fun h => c_2 ((fa_le _ _).mpr h)
    refine lv_iconst (v := 0) hx hb dX9_mirrored_9 (by decide) ?_
    refine lv_istore (lv' := [(4, .int 0), (3, .int v3_4), (2, .int v2_4), (0, .int a), (1, .int b)]) hx hb dX9_mirrored_10 hl (by decide) rfl (fun ls hl => ?_)
    refine pp_loop (ι := Int32 × Int32) (fun ⟨v4_12, v2_12⟩ => (4 - v4_12.toInt).toNat) (fun ⟨v4_12, v2_12⟩ H locs ls => (0 ≤ v4_12.toInt) ∧ (v4_12.toInt ≤ 4) ∧ H = s.heap ∧ locs = [] ∧ lv_has ls 5 [(4, .int v4_12), (3, .int v3_4), (2, .int v2_12), (0, .int a), (1, .int b)]) ?_ (0, v2_4) _ _ _ ⟨(by first | omega | decide | (simp only [fa_lt, fa_le, fa_eq, and_true, true_and, and_false, false_and, not_true_eq_false, not_false_eq_true, li_0, li_1, li_2, li_3, li_4, li_5, li_6, li_7, li_8, li_9, li_10, li_12, li_15, li_16, li_20, li_30, li_34, li_38, li_40, li_63, li_64, li_65, li_78, li_120, li_1000, li_4000, li_10000, li_11077, li_255, li_65535, li_m1, li_m2, li_m1000000001, li_m1000000002, li_m1000000003, li_m1000000004, li_m1000000005, li_m1000000006, li_m1000000007, or_true, true_or, or_false, false_or, implies_true, true_implies, false_implies] <;> omega)), (by first | omega | decide | (simp only [fa_lt, fa_le, fa_eq, and_true, true_and, and_false, false_and, not_true_eq_false, not_false_eq_true, li_0, li_1, li_2, li_3, li_4, li_5, li_6, li_7, li_8, li_9, li_10, li_12, li_15, li_16, li_20, li_30, li_34, li_38, li_40, li_63, li_64, li_65, li_78, li_120, li_1000, li_4000, li_10000, li_11077, li_255, li_65535, li_m1, li_m2, li_m1000000001, li_m1000000002, li_m1000000003, li_m1000000004, li_m1000000005, li_m1000000006, li_m1000000007, or_true, true_or, or_false, false_or, implies_true, true_implies, false_implies] <;> omega)), rfl, rfl, lv_sub hl [0, 1, 2, 3, 4] rfl⟩
    intro k_3 ihk_3 u H locs ls hm hI
    obtain ⟨v4_12, v2_12⟩ := u
    obtain ⟨jk_3_0, jk_3_1, rfl, rfl, hl⟩ := hI
    have hmk_3 : (4 - v4_12.toInt).toNat < k_3 + 1 := hm
    clear hm
    have jk_3_0 : 0 ≤ v4_12.toInt := jk_3_0
    have jk_3_1 : v4_12.toInt ≤ 4 := jk_3_1
    have hl : lv_has ls 5 [(4, .int v4_12), (3, .int v3_4), (2, .int v2_12), (0, .int a), (1, .int b)] := hl
    refine lv_iload hx hb dX9_mirrored_12 (lv_at hl 0 rfl) ?_
    refine lv_iconst (v := 4) hx hb dX9_mirrored_14 (by decide) ?_
    refine lv_icmp_ge (tgt := 63) hx hb dX9_mirrored_15 (by decide) (fun c_4 => ?_) (fun c_4 => ?_)
    · skip
      have tc_4 : 4 ≤ v4_12.toInt := (fa_le _ _).mp c_4
      obtain ⟨n_5, en_5⟩ : ∃ y : Int32, y = v3_4 + 1 := ⟨_, rfl⟩
      have tn_5 : n_5.toInt = v3_4.toInt + 1 := pp_add en_5 rfl rfl (by omega) (by omega)
      refine lv_iinc (v := n_5) (lv' := [(3, .int n_5), (4, .int v4_12), (2, .int v2_12), (0, .int a), (1, .int b)]) hx hb dX9_mirrored_63 hl (k := 1) rfl (by rw [en_5]; rfl) (by decide) rfl (fun ls hl => ?_)
      clear en_5
      refine lv_goto (tgt := 4) hx hb dX9_mirrored_66 (by decide) ?_
      exact ihk_1 (n_5, v2_12) _ _ _ (by show (4 - n_5.toInt).toNat < k_1; omega) ⟨(by first | omega | decide | (simp only [fa_lt, fa_le, fa_eq, and_true, true_and, and_false, false_and, not_true_eq_false, not_false_eq_true, li_0, li_1, li_2, li_3, li_4, li_5, li_6, li_7, li_8, li_9, li_10, li_12, li_15, li_16, li_20, li_30, li_34, li_38, li_40, li_63, li_64, li_65, li_78, li_120, li_1000, li_4000, li_10000, li_11077, li_255, li_65535, li_m1, li_m2, li_m1000000001, li_m1000000002, li_m1000000003, li_m1000000004, li_m1000000005, li_m1000000006, li_m1000000007, or_true, true_or, or_false, false_or, implies_true, true_implies, false_implies] <;> omega)), (by first | omega | decide | (simp only [fa_lt, fa_le, fa_eq, and_true, true_and, and_false, false_and, not_true_eq_false, not_false_eq_true, li_0, li_1, li_2, li_3, li_4, li_5, li_6, li_7, li_8, li_9, li_10, li_12, li_15, li_16, li_20, li_30, li_34, li_38, li_40, li_63, li_64, li_65, li_78, li_120, li_1000, li_4000, li_10000, li_11077, li_255, li_65535, li_m1, li_m2, li_m1000000001, li_m1000000002, li_m1000000003, li_m1000000004, li_m1000000005, li_m1000000006, li_m1000000007, or_true, true_or, or_false, false_or, implies_true, true_implies, false_implies] <;> omega)), rfl, rfl, lv_sub hl [0, 2, 3, 4] rfl⟩
    · skip
      have tc_4 : ¬ 4 ≤ v4_12.toInt := fun h => c_4 ((fa_le _ _).mpr h)
      refine lv_iload_n hx hb dX9_mirrored_18 rfl (lv_at hl 2 rfl) ?_
      refine lv_iload_n hx hb dX9_mirrored_19 rfl (lv_at hl 3 rfl) ?_
      refine lv_iload_n hx hb dX9_mirrored_20 rfl (lv_at hl 1 rfl) ?_
      refine lv_iload_n hx hb dX9_mirrored_21 rfl (lv_at hl 4 rfl) ?_
      refine lv_iconst (v := 2) hx hb dX9_mirrored_22 (by decide) ?_
      refine lv_irem hx hb dX9_mirrored_23 (by decide) ?_
      refine lv_topi (fun n_6 en_6 => ?_)
      clear en_6
      refine lv_iconst (v := 1) hx hb dX9_mirrored_24 (by decide) ?_
      refine lv_icmp_ne (tgt := 35) hx hb dX9_mirrored_25 (by decide) (fun c_7 => ?_) (fun c_7 => ?_)
      · skip
        have tc_7 : ¬ n_6.toInt = 1 := fun h => c_7 ((fa_eq _ _).mpr h)
        refine lv_iload hx hb dX9_mirrored_35 (lv_at hl 0 rfl) ?_
        have hPc := hP.sub (ws' := []) [] rfl
        have hKc := hK.sub (tys' := []) [] rfl
        refine vp_callSi (W.runS (As := [.int a, .int v3_4, .int v4_12]) (rest := [.int v2_12]) ⟨hx, hb, hml, hown, hts⟩ (m_has l dC dI ad a v3_4 v4_12 ) (va_cwS 3 hts g_m_mirrored_m_has_109 rfl rfl rfl (by decide +kernel) ⟨(Nat.le_of_ble_eq_true rfl), (Nat.le_of_ble_eq_true rfl)⟩) ⟨preS_blind, fun U hU hW => ⟨rfl, preS_at hU hW hPc hKc hev⟩⟩ rfl rfl hl.1 rfl (lv_room (Nat.le_of_ble_eq_true rfl)) dX9_mirrored_37 ⟨(Nat.le_of_ble_eq_true rfl), (Nat.le_of_ble_eq_true rfl)⟩) (fun r_8 hw => ?_)
        refine lv_if_eq (tgt := 54) hx hb dX9_mirrored_40 (by decide) (fun c_9 => ?_) (fun c_9 => ?_)
        · skip
          have tc_9 : r_8.toInt = 0 := (fa_eq _ _).mp c_9
          refine lv_iconst (v := 0) hx hb dX9_mirrored_54 (by decide) ?_
          refine lv_ior hx hb dX9_mirrored_55 ?_
          refine lv_topi (fun n_10 en_10 => ?_)
          clear en_10
          refine lv_istore_n (lv' := [(2, .int n_10), (4, .int v4_12), (3, .int v3_4), (0, .int a), (1, .int b)]) hx hb dX9_mirrored_56 rfl hl (by decide) rfl (fun ls hl => ?_)
          obtain ⟨n_11, en_11⟩ : ∃ y : Int32, y = v4_12 + 1 := ⟨_, rfl⟩
          have tn_11 : n_11.toInt = v4_12.toInt + 1 := pp_add en_11 rfl rfl (by omega) (by omega)
          refine lv_iinc (v := n_11) (lv' := [(4, .int n_11), (2, .int n_10), (3, .int v3_4), (0, .int a), (1, .int b)]) hx hb dX9_mirrored_57 hl (k := 1) rfl (by rw [en_11]; rfl) (by decide) rfl (fun ls hl => ?_)
          clear en_11
          refine lv_goto (tgt := 12) hx hb dX9_mirrored_60 (by decide) ?_
          exact ihk_3 (n_11, n_10) _ _ _ (by show (4 - n_11.toInt).toNat < k_3; omega) ⟨(by first | omega | decide | (simp only [fa_lt, fa_le, fa_eq, and_true, true_and, and_false, false_and, not_true_eq_false, not_false_eq_true, li_0, li_1, li_2, li_3, li_4, li_5, li_6, li_7, li_8, li_9, li_10, li_12, li_15, li_16, li_20, li_30, li_34, li_38, li_40, li_63, li_64, li_65, li_78, li_120, li_1000, li_4000, li_10000, li_11077, li_255, li_65535, li_m1, li_m2, li_m1000000001, li_m1000000002, li_m1000000003, li_m1000000004, li_m1000000005, li_m1000000006, li_m1000000007, or_true, true_or, or_false, false_or, implies_true, true_implies, false_implies] <;> omega)), (by first | omega | decide | (simp only [fa_lt, fa_le, fa_eq, and_true, true_and, and_false, false_and, not_true_eq_false, not_false_eq_true, li_0, li_1, li_2, li_3, li_4, li_5, li_6, li_7, li_8, li_9, li_10, li_12, li_15, li_16, li_20, li_30, li_34, li_38, li_40, li_63, li_64, li_65, li_78, li_120, li_1000, li_4000, li_10000, li_11077, li_255, li_65535, li_m1, li_m2, li_m1000000001, li_m1000000002, li_m1000000003, li_m1000000004, li_m1000000005, li_m1000000006, li_m1000000007, or_true, true_or, or_false, false_or, implies_true, true_implies, false_implies] <;> omega)), rfl, rfl, lv_sub hl [0, 2, 1, 3, 4] rfl⟩
        · skip
          have tc_9 : ¬ r_8.toInt = 0 := fun h => c_9 ((fa_eq _ _).mpr h)
          refine lv_iconst (v := 1) hx hb dX9_mirrored_43 (by decide) ?_
          refine lv_iconst (v := 4) hx hb dX9_mirrored_44 (by decide) ?_
          refine lv_iload_n hx hb dX9_mirrored_45 rfl (lv_at hl 1 rfl) ?_
          refine lv_imul hx hb dX9_mirrored_46 ?_
          refine lv_topi (fun n_12 en_12 => ?_)
          have tn_12 : n_12.toInt = 4 * v3_4.toInt := pp_mul en_12 rfl rfl (by omega) (by omega)
          clear en_12
          refine lv_iload hx hb dX9_mirrored_47 (lv_at hl 0 rfl) ?_
          refine lv_iadd hx hb dX9_mirrored_49 ?_
          refine lv_topi (fun n_13 en_13 => ?_)
          have tn_13 : n_13.toInt = n_12.toInt + v4_12.toInt := pp_add en_13 rfl rfl (by omega) (by omega)
          clear en_13
          refine lv_ishl hx hb dX9_mirrored_50 ?_
          refine lv_topi (fun n_14 en_14 => ?_)
          clear en_14
          refine lv_goto (tgt := 55) hx hb dX9_mirrored_51 (by decide) ?_
          refine lv_ior hx hb dX9_mirrored_55 ?_
          refine lv_topi (fun n_15 en_15 => ?_)
          clear en_15
          refine lv_istore_n (lv' := [(2, .int n_15), (4, .int v4_12), (3, .int v3_4), (0, .int a), (1, .int b)]) hx hb dX9_mirrored_56 rfl hl (by decide) rfl (fun ls hl => ?_)
          obtain ⟨n_16, en_16⟩ : ∃ y : Int32, y = v4_12 + 1 := ⟨_, rfl⟩
          have tn_16 : n_16.toInt = v4_12.toInt + 1 := pp_add en_16 rfl rfl (by omega) (by omega)
          refine lv_iinc (v := n_16) (lv' := [(4, .int n_16), (2, .int n_15), (3, .int v3_4), (0, .int a), (1, .int b)]) hx hb dX9_mirrored_57 hl (k := 1) rfl (by rw [en_16]; rfl) (by decide) rfl (fun ls hl => ?_)
          clear en_16
          refine lv_goto (tgt := 12) hx hb dX9_mirrored_60 (by decide) ?_
          exact ihk_3 (n_16, n_15) _ _ _ (by show (4 - n_16.toInt).toNat < k_3; omega) ⟨(by first | omega | decide | (simp only [fa_lt, fa_le, fa_eq, and_true, true_and, and_false, false_and, not_true_eq_false, not_false_eq_true, li_0, li_1, li_2, li_3, li_4, li_5, li_6, li_7, li_8, li_9, li_10, li_12, li_15, li_16, li_20, li_30, li_34, li_38, li_40, li_63, li_64, li_65, li_78, li_120, li_1000, li_4000, li_10000, li_11077, li_255, li_65535, li_m1, li_m2, li_m1000000001, li_m1000000002, li_m1000000003, li_m1000000004, li_m1000000005, li_m1000000006, li_m1000000007, or_true, true_or, or_false, false_or, implies_true, true_implies, false_implies] <;> omega)), (by first | omega | decide | (simp only [fa_lt, fa_le, fa_eq, and_true, true_and, and_false, false_and, not_true_eq_false, not_false_eq_true, li_0, li_1, li_2, li_3, li_4, li_5, li_6, li_7, li_8, li_9, li_10, li_12, li_15, li_16, li_20, li_30, li_34, li_38, li_40, li_63, li_64, li_65, li_78, li_120, li_1000, li_4000, li_10000, li_11077, li_255, li_65535, li_m1, li_m2, li_m1000000001, li_m1000000002, li_m1000000003, li_m1000000004, li_m1000000005, li_m1000000006, li_m1000000007, or_true, true_or, or_false, false_or, implies_true, true_implies, false_implies] <;> omega)), rfl, rfl, lv_sub hl [0, 2, 1, 3, 4] rfl⟩
      · skip
        have tc_7 : n_6.toInt = 1 := (fa_eq _ _).mp c_7
        refine lv_iconst (v := 3) hx hb dX9_mirrored_28 (by decide) ?_
        refine lv_iload hx hb dX9_mirrored_29 (lv_at hl 0 rfl) ?_
        refine lv_isub hx hb dX9_mirrored_31 ?_
        refine lv_topi (fun n_17 en_17 => ?_)
        have tn_17 : n_17.toInt = 3 - v4_12.toInt := pp_sub en_17 rfl rfl (by omega) (by omega)
        clear en_17
        refine lv_goto (tgt := 37) hx hb dX9_mirrored_32 (by decide) ?_
        have hPc := hP.sub (ws' := []) [] rfl
        have hKc := hK.sub (tys' := []) [] rfl
        refine vp_callSi (W.runS (As := [.int a, .int v3_4, .int n_17]) (rest := [.int v2_12]) ⟨hx, hb, hml, hown, hts⟩ (m_has l dC dI ad a v3_4 n_17 ) (va_cwS 3 hts g_m_mirrored_m_has_109 rfl rfl rfl (by decide +kernel) ⟨(Nat.le_of_ble_eq_true rfl), (Nat.le_of_ble_eq_true rfl)⟩) ⟨preS_blind, fun U hU hW => ⟨rfl, preS_at hU hW hPc hKc hev⟩⟩ rfl rfl hl.1 rfl (lv_room (Nat.le_of_ble_eq_true rfl)) dX9_mirrored_37 ⟨(Nat.le_of_ble_eq_true rfl), (Nat.le_of_ble_eq_true rfl)⟩) (fun r_18 hw => ?_)
        refine lv_if_eq (tgt := 54) hx hb dX9_mirrored_40 (by decide) (fun c_19 => ?_) (fun c_19 => ?_)
        · skip
          have tc_19 : r_18.toInt = 0 := (fa_eq _ _).mp c_19
          refine lv_iconst (v := 0) hx hb dX9_mirrored_54 (by decide) ?_
          refine lv_ior hx hb dX9_mirrored_55 ?_
          refine lv_topi (fun n_20 en_20 => ?_)
          clear en_20
          refine lv_istore_n (lv' := [(2, .int n_20), (4, .int v4_12), (3, .int v3_4), (0, .int a), (1, .int b)]) hx hb dX9_mirrored_56 rfl hl (by decide) rfl (fun ls hl => ?_)
          obtain ⟨n_21, en_21⟩ : ∃ y : Int32, y = v4_12 + 1 := ⟨_, rfl⟩
          have tn_21 : n_21.toInt = v4_12.toInt + 1 := pp_add en_21 rfl rfl (by omega) (by omega)
          refine lv_iinc (v := n_21) (lv' := [(4, .int n_21), (2, .int n_20), (3, .int v3_4), (0, .int a), (1, .int b)]) hx hb dX9_mirrored_57 hl (k := 1) rfl (by rw [en_21]; rfl) (by decide) rfl (fun ls hl => ?_)
          clear en_21
          refine lv_goto (tgt := 12) hx hb dX9_mirrored_60 (by decide) ?_
          exact ihk_3 (n_21, n_20) _ _ _ (by show (4 - n_21.toInt).toNat < k_3; omega) ⟨(by first | omega | decide | (simp only [fa_lt, fa_le, fa_eq, and_true, true_and, and_false, false_and, not_true_eq_false, not_false_eq_true, li_0, li_1, li_2, li_3, li_4, li_5, li_6, li_7, li_8, li_9, li_10, li_12, li_15, li_16, li_20, li_30, li_34, li_38, li_40, li_63, li_64, li_65, li_78, li_120, li_1000, li_4000, li_10000, li_11077, li_255, li_65535, li_m1, li_m2, li_m1000000001, li_m1000000002, li_m1000000003, li_m1000000004, li_m1000000005, li_m1000000006, li_m1000000007, or_true, true_or, or_false, false_or, implies_true, true_implies, false_implies] <;> omega)), (by first | omega | decide | (simp only [fa_lt, fa_le, fa_eq, and_true, true_and, and_false, false_and, not_true_eq_false, not_false_eq_true, li_0, li_1, li_2, li_3, li_4, li_5, li_6, li_7, li_8, li_9, li_10, li_12, li_15, li_16, li_20, li_30, li_34, li_38, li_40, li_63, li_64, li_65, li_78, li_120, li_1000, li_4000, li_10000, li_11077, li_255, li_65535, li_m1, li_m2, li_m1000000001, li_m1000000002, li_m1000000003, li_m1000000004, li_m1000000005, li_m1000000006, li_m1000000007, or_true, true_or, or_false, false_or, implies_true, true_implies, false_implies] <;> omega)), rfl, rfl, lv_sub hl [0, 2, 1, 3, 4] rfl⟩
        · skip
          have tc_19 : ¬ r_18.toInt = 0 := fun h => c_19 ((fa_eq _ _).mpr h)
          refine lv_iconst (v := 1) hx hb dX9_mirrored_43 (by decide) ?_
          refine lv_iconst (v := 4) hx hb dX9_mirrored_44 (by decide) ?_
          refine lv_iload_n hx hb dX9_mirrored_45 rfl (lv_at hl 1 rfl) ?_
          refine lv_imul hx hb dX9_mirrored_46 ?_
          refine lv_topi (fun n_22 en_22 => ?_)
          have tn_22 : n_22.toInt = 4 * v3_4.toInt := pp_mul en_22 rfl rfl (by omega) (by omega)
          clear en_22
          refine lv_iload hx hb dX9_mirrored_47 (lv_at hl 0 rfl) ?_
          refine lv_iadd hx hb dX9_mirrored_49 ?_
          refine lv_topi (fun n_23 en_23 => ?_)
          have tn_23 : n_23.toInt = n_22.toInt + v4_12.toInt := pp_add en_23 rfl rfl (by omega) (by omega)
          clear en_23
          refine lv_ishl hx hb dX9_mirrored_50 ?_
          refine lv_topi (fun n_24 en_24 => ?_)
          clear en_24
          refine lv_goto (tgt := 55) hx hb dX9_mirrored_51 (by decide) ?_
          refine lv_ior hx hb dX9_mirrored_55 ?_
          refine lv_topi (fun n_25 en_25 => ?_)
          clear en_25
          refine lv_istore_n (lv' := [(2, .int n_25), (4, .int v4_12), (3, .int v3_4), (0, .int a), (1, .int b)]) hx hb dX9_mirrored_56 rfl hl (by decide) rfl (fun ls hl => ?_)
          obtain ⟨n_26, en_26⟩ : ∃ y : Int32, y = v4_12 + 1 := ⟨_, rfl⟩
          have tn_26 : n_26.toInt = v4_12.toInt + 1 := pp_add en_26 rfl rfl (by omega) (by omega)
          refine lv_iinc (v := n_26) (lv' := [(4, .int n_26), (2, .int n_25), (3, .int v3_4), (0, .int a), (1, .int b)]) hx hb dX9_mirrored_57 hl (k := 1) rfl (by rw [en_26]; rfl) (by decide) rfl (fun ls hl => ?_)
          clear en_26
          refine lv_goto (tgt := 12) hx hb dX9_mirrored_60 (by decide) ?_
          exact ihk_3 (n_26, n_25) _ _ _ (by show (4 - n_26.toInt).toNat < k_3; omega) ⟨(by first | omega | decide | (simp only [fa_lt, fa_le, fa_eq, and_true, true_and, and_false, false_and, not_true_eq_false, not_false_eq_true, li_0, li_1, li_2, li_3, li_4, li_5, li_6, li_7, li_8, li_9, li_10, li_12, li_15, li_16, li_20, li_30, li_34, li_38, li_40, li_63, li_64, li_65, li_78, li_120, li_1000, li_4000, li_10000, li_11077, li_255, li_65535, li_m1, li_m2, li_m1000000001, li_m1000000002, li_m1000000003, li_m1000000004, li_m1000000005, li_m1000000006, li_m1000000007, or_true, true_or, or_false, false_or, implies_true, true_implies, false_implies] <;> omega)), (by first | omega | decide | (simp only [fa_lt, fa_le, fa_eq, and_true, true_and, and_false, false_and, not_true_eq_false, not_false_eq_true, li_0, li_1, li_2, li_3, li_4, li_5, li_6, li_7, li_8, li_9, li_10, li_12, li_15, li_16, li_20, li_30, li_34, li_38, li_40, li_63, li_64, li_65, li_78, li_120, li_1000, li_4000, li_10000, li_11077, li_255, li_65535, li_m1, li_m2, li_m1000000001, li_m1000000002, li_m1000000003, li_m1000000004, li_m1000000005, li_m1000000006, li_m1000000007, or_true, true_or, or_false, false_or, implies_true, true_implies, false_implies] <;> omega)), rfl, rfl, lv_sub hl [0, 2, 1, 3, 4] rfl⟩

def w_m_isInner : List Cond := .code yX9_isInner cX9_isInner 3 (some .boolean) :: (([.methodLink RX9 109 yX9_has, .static yX9_has, .initialized RX9, .code yX9_has cX9_has 3 (some .boolean), .methodLink RX9 75 yX9_within, .static yX9_within, .code yX9_within cX9_within 3 (some .boolean)] : List Cond))
set_option maxRecDepth 20000 in
theorem g_m_isInner_m_has_109 : GoodIn w_m_isInner (va_wsS RX9 109 yX9_has w_m_has) := goodIn_r _ [1, 2, 3, 4, 5, 6, 3, 7] rfl (by decide +kernel)
set_option maxHeartbeats 4000000 in
set_option maxRecDepth 100000 in
theorem m_isInner (l : Launch) (dC : Nat → ClassId) (dI : Nat → Nat → Nat) (ad : Nat → Nat) (a : Int32) (b : Int32) (d : Int32) : Met l yX9_isInner w_m_isInner ({ frames := 2, cells := 0, slots := 0, locals := 44 } : Room) (va_Pc [.int a, .int b, .int d] (preS dC dI ad [] [])) (vp_Si (fun r => True)) 0 0 (fun _ => False) := by
  refine Met.ofW (cc := cX9_isInner) (maxL := 3) (ret := (some .boolean)) (by decide) rfl ?_
  intro p e s m args below meth c s₁ B hml hv
  obtain ⟨rfl, hP, hK, hev⟩ := hv
  have hx := B.exec
  have hb := B.bytes
  have hr := B.returns
  have hts := atoms_spec (ws := w_m_isInner) B.pre
  have hown : s.vm.findClass RX9 = some m.cls := findClass_of_methodNamed B.named
  have hlocks := B.notSynchronized
  have hP : va_P (dC, dI) vwCl [] s.heap := hP
  have hl := lv_entry ([.int a, .int b, .int d]) (n := 3) (Nat.le_of_ble_eq_true rfl)
  rw [lg_entry_eq]
  generalize (lg_sl ([.int a, .int b, .int d]) ++ List.replicate (3 - (lg_sl ([.int a, .int b, .int d])).length) Slot.unset).toArray = ls at hl ⊢
  have hl : lv_has ls 3 [(0, .int a), (1, .int b), (2, .int d)] := hl
  refine lv_iload_n hx hb dX9_isInner_0 rfl (lv_at hl 0 rfl) ?_
  refine lv_iload_n hx hb dX9_isInner_1 rfl (lv_at hl 1 rfl) ?_
  refine lv_iconst (v := 1) hx hb dX9_isInner_2 (by decide) ?_
  refine lv_isub hx hb dX9_isInner_3 ?_
  refine lv_topi (fun n_1 en_1 => ?_)
  clear en_1
  refine lv_iload_n hx hb dX9_isInner_4 rfl (lv_at hl 2 rfl) ?_
  have hPc := hP.sub (ws' := []) [] rfl
  have hKc := hK.sub (tys' := []) [] rfl
  refine vp_callSi (W.runS (As := [.int a, .int n_1, .int d]) (rest := []) ⟨hx, hb, hml, hown, hts⟩ (m_has l dC dI ad a n_1 d ) (va_cwS 3 hts g_m_isInner_m_has_109 rfl rfl rfl (by decide +kernel) ⟨(Nat.le_of_ble_eq_true rfl), (Nat.le_of_ble_eq_true rfl)⟩) ⟨preS_blind, fun U hU hW => ⟨rfl, preS_at hU hW hPc hKc hev⟩⟩ rfl rfl hl.1 rfl (lv_room (Nat.le_of_ble_eq_true rfl)) dX9_isInner_5 ⟨(Nat.le_of_ble_eq_true rfl), (Nat.le_of_ble_eq_true rfl)⟩) (fun r_2 hw => ?_)
  refine lv_if_eq (tgt := 48) hx hb dX9_isInner_8 (by decide) (fun c_3 => ?_) (fun c_3 => ?_)
  · skip
    have tc_3 : r_2.toInt = 0 := (fa_eq _ _).mp c_3
    refine lv_iconst (v := 0) hx hb dX9_isInner_48 (by decide) ?_
    exact W.zret (v := (0 : Int32)) hx hb hr (by decide) (fun t ht hW => ⟨(0 : Int32), rfl, trivial, ht⟩) (fun _ h => absurd h List.not_mem_nil) dX9_isInner_49
  · skip
    have tc_3 : ¬ r_2.toInt = 0 := fun h => c_3 ((fa_eq _ _).mpr h)
    refine lv_iload_n hx hb dX9_isInner_11 rfl (lv_at hl 0 rfl) ?_
    refine lv_iload_n hx hb dX9_isInner_12 rfl (lv_at hl 1 rfl) ?_
    refine lv_iconst (v := 1) hx hb dX9_isInner_13 (by decide) ?_
    refine lv_iadd hx hb dX9_isInner_14 ?_
    refine lv_topi (fun n_4 en_4 => ?_)
    clear en_4
    refine lv_iload_n hx hb dX9_isInner_15 rfl (lv_at hl 2 rfl) ?_
    have hPc := hP.sub (ws' := []) [] rfl
    have hKc := hK.sub (tys' := []) [] rfl
    refine vp_callSi (W.runS (As := [.int a, .int n_4, .int d]) (rest := []) ⟨hx, hb, hml, hown, hts⟩ (m_has l dC dI ad a n_4 d ) (va_cwS 3 hts g_m_isInner_m_has_109 rfl rfl rfl (by decide +kernel) ⟨(Nat.le_of_ble_eq_true rfl), (Nat.le_of_ble_eq_true rfl)⟩) ⟨preS_blind, fun U hU hW => ⟨rfl, preS_at hU hW hPc hKc hev⟩⟩ rfl rfl hl.1 rfl (lv_room (Nat.le_of_ble_eq_true rfl)) dX9_isInner_16 ⟨(Nat.le_of_ble_eq_true rfl), (Nat.le_of_ble_eq_true rfl)⟩) (fun r_5 hw => ?_)
    refine lv_if_eq (tgt := 48) hx hb dX9_isInner_19 (by decide) (fun c_6 => ?_) (fun c_6 => ?_)
    · skip
      have tc_6 : r_5.toInt = 0 := (fa_eq _ _).mp c_6
      refine lv_iconst (v := 0) hx hb dX9_isInner_48 (by decide) ?_
      exact W.zret (v := (0 : Int32)) hx hb hr (by decide) (fun t ht hW => ⟨(0 : Int32), rfl, trivial, ht⟩) (fun _ h => absurd h List.not_mem_nil) dX9_isInner_49
    · skip
      have tc_6 : ¬ r_5.toInt = 0 := fun h => c_6 ((fa_eq _ _).mpr h)
      refine lv_iload_n hx hb dX9_isInner_22 rfl (lv_at hl 0 rfl) ?_
      refine lv_iload_n hx hb dX9_isInner_23 rfl (lv_at hl 1 rfl) ?_
      refine lv_iload_n hx hb dX9_isInner_24 rfl (lv_at hl 2 rfl) ?_
      refine lv_iconst (v := 1) hx hb dX9_isInner_25 (by decide) ?_
      refine lv_isub hx hb dX9_isInner_26 ?_
      refine lv_topi (fun n_7 en_7 => ?_)
      clear en_7
      have hPc := hP.sub (ws' := []) [] rfl
      have hKc := hK.sub (tys' := []) [] rfl
      refine vp_callSi (W.runS (As := [.int a, .int b, .int n_7]) (rest := []) ⟨hx, hb, hml, hown, hts⟩ (m_has l dC dI ad a b n_7 ) (va_cwS 3 hts g_m_isInner_m_has_109 rfl rfl rfl (by decide +kernel) ⟨(Nat.le_of_ble_eq_true rfl), (Nat.le_of_ble_eq_true rfl)⟩) ⟨preS_blind, fun U hU hW => ⟨rfl, preS_at hU hW hPc hKc hev⟩⟩ rfl rfl hl.1 rfl (lv_room (Nat.le_of_ble_eq_true rfl)) dX9_isInner_27 ⟨(Nat.le_of_ble_eq_true rfl), (Nat.le_of_ble_eq_true rfl)⟩) (fun r_8 hw => ?_)
      refine lv_if_eq (tgt := 48) hx hb dX9_isInner_30 (by decide) (fun c_9 => ?_) (fun c_9 => ?_)
      · skip
        have tc_9 : r_8.toInt = 0 := (fa_eq _ _).mp c_9
        refine lv_iconst (v := 0) hx hb dX9_isInner_48 (by decide) ?_
        exact W.zret (v := (0 : Int32)) hx hb hr (by decide) (fun t ht hW => ⟨(0 : Int32), rfl, trivial, ht⟩) (fun _ h => absurd h List.not_mem_nil) dX9_isInner_49
      · skip
        have tc_9 : ¬ r_8.toInt = 0 := fun h => c_9 ((fa_eq _ _).mpr h)
        refine lv_iload_n hx hb dX9_isInner_33 rfl (lv_at hl 0 rfl) ?_
        refine lv_iload_n hx hb dX9_isInner_34 rfl (lv_at hl 1 rfl) ?_
        refine lv_iload_n hx hb dX9_isInner_35 rfl (lv_at hl 2 rfl) ?_
        refine lv_iconst (v := 1) hx hb dX9_isInner_36 (by decide) ?_
        refine lv_iadd hx hb dX9_isInner_37 ?_
        refine lv_topi (fun n_10 en_10 => ?_)
        clear en_10
        have hPc := hP.sub (ws' := []) [] rfl
        have hKc := hK.sub (tys' := []) [] rfl
        refine vp_callSi (W.runS (As := [.int a, .int b, .int n_10]) (rest := []) ⟨hx, hb, hml, hown, hts⟩ (m_has l dC dI ad a b n_10 ) (va_cwS 3 hts g_m_isInner_m_has_109 rfl rfl rfl (by decide +kernel) ⟨(Nat.le_of_ble_eq_true rfl), (Nat.le_of_ble_eq_true rfl)⟩) ⟨preS_blind, fun U hU hW => ⟨rfl, preS_at hU hW hPc hKc hev⟩⟩ rfl rfl hl.1 rfl (lv_room (Nat.le_of_ble_eq_true rfl)) dX9_isInner_38 ⟨(Nat.le_of_ble_eq_true rfl), (Nat.le_of_ble_eq_true rfl)⟩) (fun r_11 hw => ?_)
        refine lv_if_eq (tgt := 48) hx hb dX9_isInner_41 (by decide) (fun c_12 => ?_) (fun c_12 => ?_)
        · skip
          have tc_12 : r_11.toInt = 0 := (fa_eq _ _).mp c_12
          refine lv_iconst (v := 0) hx hb dX9_isInner_48 (by decide) ?_
          exact W.zret (v := (0 : Int32)) hx hb hr (by decide) (fun t ht hW => ⟨(0 : Int32), rfl, trivial, ht⟩) (fun _ h => absurd h List.not_mem_nil) dX9_isInner_49
        · skip
          have tc_12 : ¬ r_11.toInt = 0 := fun h => c_12 ((fa_eq _ _).mpr h)
          refine lv_iconst (v := 1) hx hb dX9_isInner_44 (by decide) ?_
          refine lv_goto (tgt := 49) hx hb dX9_isInner_45 (by decide) ?_
          exact W.zret (v := (1 : Int32)) hx hb hr (by decide) (fun t ht hW => ⟨(1 : Int32), rfl, trivial, ht⟩) (fun _ h => absurd h List.not_mem_nil) dX9_isInner_49

def w_m_isBetween : List Cond := .code yX9_isBetween cX9_isBetween 6 (some .boolean) :: (([.methodLink RX9 109 yX9_has, .static yX9_has, .initialized RX9, .code yX9_has cX9_has 3 (some .boolean), .methodLink RX9 75 yX9_within, .static yX9_within, .code yX9_within cX9_within 3 (some .boolean)] : List Cond))
set_option maxRecDepth 20000 in
theorem g_m_isBetween_m_has_109 : GoodIn w_m_isBetween (va_wsS RX9 109 yX9_has w_m_has) := goodIn_r _ [1, 2, 3, 4, 5, 6, 3, 7] rfl (by decide +kernel)
set_option maxHeartbeats 4000000 in
set_option maxRecDepth 100000 in
theorem m_isBetween (l : Launch) (dC : Nat → ClassId) (dI : Nat → Nat → Nat) (ad : Nat → Nat) (a : Int32) (b : Int32) (d : Int32) : Met l yX9_isBetween w_m_isBetween ({ frames := 2, cells := 0, slots := 0, locals := 44 } : Room) (va_Pc [.int a, .int b, .int d] (preS dC dI ad [] [])) (vp_Si (fun r => True)) 0 0 (fun _ => False) := by
  refine Met.ofW (cc := cX9_isBetween) (maxL := 6) (ret := (some .boolean)) (by decide) rfl ?_
  intro p e s m args below meth c s₁ B hml hv
  obtain ⟨rfl, hP, hK, hev⟩ := hv
  have hx := B.exec
  have hb := B.bytes
  have hr := B.returns
  have hts := atoms_spec (ws := w_m_isBetween) B.pre
  have hown : s.vm.findClass RX9 = some m.cls := findClass_of_methodNamed B.named
  have hlocks := B.notSynchronized
  have hP : va_P (dC, dI) vwCl [] s.heap := hP
  have hl := lv_entry ([.int a, .int b, .int d]) (n := 6) (Nat.le_of_ble_eq_true rfl)
  rw [lg_entry_eq]
  generalize (lg_sl ([.int a, .int b, .int d]) ++ List.replicate (6 - (lg_sl ([.int a, .int b, .int d])).length) Slot.unset).toArray = ls at hl ⊢
  have hl : lv_has ls 6 [(0, .int a), (1, .int b), (2, .int d)] := hl
  refine lv_iconst (v := 0) hx hb dX9_isBetween_0 (by decide) ?_
  refine lv_istore_n (lv' := [(3, .int 0), (0, .int a), (1, .int b), (2, .int d)]) hx hb dX9_isBetween_1 rfl hl (by decide) rfl (fun ls hl => ?_)
  refine lv_iconst (v := 0) hx hb dX9_isBetween_2 (by decide) ?_
  refine lv_istore (lv' := [(4, .int 0), (3, .int 0), (0, .int a), (1, .int b), (2, .int d)]) hx hb dX9_isBetween_3 hl (by decide) rfl (fun ls hl => ?_)
  refine lv_iconst (v := 0) hx hb dX9_isBetween_5 (by decide) ?_
  refine lv_istore (lv' := [(5, .int 0), (4, .int 0), (3, .int 0), (0, .int a), (1, .int b), (2, .int d)]) hx hb dX9_isBetween_6 hl (by decide) rfl (fun ls hl => ?_)
  refine pp_loop (ι := Int32 × Int32 × Int32) (fun ⟨v5_8, v4_8, v3_8⟩ => (4 - v5_8.toInt).toNat) (fun ⟨v5_8, v4_8, v3_8⟩ H locs ls => (0 ≤ v5_8.toInt) ∧ (v5_8.toInt ≤ 4) ∧ H = s.heap ∧ locs = [] ∧ lv_has ls 6 [(5, .int v5_8), (4, .int v4_8), (3, .int v3_8), (0, .int a), (1, .int b), (2, .int d)]) ?_ (0, 0, 0) _ _ _ ⟨(by first | omega | decide | (simp only [fa_lt, fa_le, fa_eq, and_true, true_and, and_false, false_and, not_true_eq_false, not_false_eq_true, li_0, li_1, li_2, li_3, li_4, li_5, li_6, li_7, li_8, li_9, li_10, li_12, li_15, li_16, li_20, li_30, li_34, li_38, li_40, li_63, li_64, li_65, li_78, li_120, li_1000, li_4000, li_10000, li_11077, li_255, li_65535, li_m1, li_m2, li_m1000000001, li_m1000000002, li_m1000000003, li_m1000000004, li_m1000000005, li_m1000000006, li_m1000000007, or_true, true_or, or_false, false_or, implies_true, true_implies, false_implies] <;> omega)), (by first | omega | decide | (simp only [fa_lt, fa_le, fa_eq, and_true, true_and, and_false, false_and, not_true_eq_false, not_false_eq_true, li_0, li_1, li_2, li_3, li_4, li_5, li_6, li_7, li_8, li_9, li_10, li_12, li_15, li_16, li_20, li_30, li_34, li_38, li_40, li_63, li_64, li_65, li_78, li_120, li_1000, li_4000, li_10000, li_11077, li_255, li_65535, li_m1, li_m2, li_m1000000001, li_m1000000002, li_m1000000003, li_m1000000004, li_m1000000005, li_m1000000006, li_m1000000007, or_true, true_or, or_false, false_or, implies_true, true_implies, false_implies] <;> omega)), rfl, rfl, lv_sub hl [0, 1, 2, 3, 4, 5] rfl⟩
  intro k_1 ihk_1 u H locs ls hm hI
  obtain ⟨v5_8, v4_8, v3_8⟩ := u
  obtain ⟨jk_1_0, jk_1_1, rfl, rfl, hl⟩ := hI
  have hmk_1 : (4 - v5_8.toInt).toNat < k_1 + 1 := hm
  clear hm
  have jk_1_0 : 0 ≤ v5_8.toInt := jk_1_0
  have jk_1_1 : v5_8.toInt ≤ 4 := jk_1_1
  have hl : lv_has ls 6 [(5, .int v5_8), (4, .int v4_8), (3, .int v3_8), (0, .int a), (1, .int b), (2, .int d)] := hl
  refine lv_iload hx hb dX9_isBetween_8 (lv_at hl 0 rfl) ?_
  refine lv_iconst (v := 4) hx hb dX9_isBetween_10 (by decide) ?_
  refine lv_icmp_ge (tgt := 74) hx hb dX9_isBetween_11 (by decide) (fun c_2 => ?_) (fun c_2 => ?_)
  · skip
    have tc_2 : 4 ≤ v5_8.toInt := (fa_le _ _).mp c_2
    refine lv_iload_n hx hb dX9_isBetween_74 rfl (lv_at hl 2 rfl) ?_
    refine lv_if_eq (tgt := 87) hx hb dX9_isBetween_75 (by decide) (fun c_3 => ?_) (fun c_3 => ?_)
    · skip
      have tc_3 : v3_8.toInt = 0 := (fa_eq _ _).mp c_3
      refine lv_iconst (v := 0) hx hb dX9_isBetween_87 (by decide) ?_
      exact W.zret (v := (0 : Int32)) hx hb hr (by decide) (fun t ht hW => ⟨(0 : Int32), rfl, trivial, ht⟩) (fun _ h => absurd h List.not_mem_nil) dX9_isBetween_88
    · skip
      have tc_3 : ¬ v3_8.toInt = 0 := fun h => c_3 ((fa_eq _ _).mpr h)
      refine lv_iload hx hb dX9_isBetween_78 (lv_at hl 1 rfl) ?_
      refine lv_if_eq (tgt := 87) hx hb dX9_isBetween_80 (by decide) (fun c_4 => ?_) (fun c_4 => ?_)
      · skip
        have tc_4 : v4_8.toInt = 0 := (fa_eq _ _).mp c_4
        refine lv_iconst (v := 0) hx hb dX9_isBetween_87 (by decide) ?_
        exact W.zret (v := (0 : Int32)) hx hb hr (by decide) (fun t ht hW => ⟨(0 : Int32), rfl, trivial, ht⟩) (fun _ h => absurd h List.not_mem_nil) dX9_isBetween_88
      · skip
        have tc_4 : ¬ v4_8.toInt = 0 := fun h => c_4 ((fa_eq _ _).mpr h)
        refine lv_iconst (v := 1) hx hb dX9_isBetween_83 (by decide) ?_
        refine lv_goto (tgt := 88) hx hb dX9_isBetween_84 (by decide) ?_
        exact W.zret (v := (1 : Int32)) hx hb hr (by decide) (fun t ht hW => ⟨(1 : Int32), rfl, trivial, ht⟩) (fun _ h => absurd h List.not_mem_nil) dX9_isBetween_88
  · skip
    have tc_2 : ¬ 4 ≤ v5_8.toInt := fun h => c_2 ((fa_le _ _).mpr h)
    refine lv_iload_n hx hb dX9_isBetween_14 rfl (lv_at hl 2 rfl) ?_
    refine lv_if_ne (tgt := 34) hx hb dX9_isBetween_15 (by decide) (fun c_5 => ?_) (fun c_5 => ?_)
    · skip
      have tc_5 : ¬ v3_8.toInt = 0 := fun h => c_5 ((fa_eq _ _).mpr h)
      refine lv_iconst (v := 1) hx hb dX9_isBetween_34 (by decide) ?_
      refine lv_goto (tgt := 39) hx hb dX9_isBetween_35 (by decide) ?_
      refine lv_istore_n (lv' := [(3, .int 1), (5, .int v5_8), (4, .int v4_8), (0, .int a), (1, .int b), (2, .int d)]) hx hb dX9_isBetween_39 rfl hl (by decide) rfl (fun ls hl => ?_)
      refine lv_iload hx hb dX9_isBetween_40 (lv_at hl 2 rfl) ?_
      refine lv_if_ne (tgt := 61) hx hb dX9_isBetween_42 (by decide) (fun c_6 => ?_) (fun c_6 => ?_)
      · skip
        have tc_6 : ¬ v4_8.toInt = 0 := fun h => c_6 ((fa_eq _ _).mpr h)
        refine lv_iconst (v := 1) hx hb dX9_isBetween_61 (by decide) ?_
        refine lv_goto (tgt := 66) hx hb dX9_isBetween_62 (by decide) ?_
        refine lv_istore (lv' := [(4, .int 1), (3, .int 1), (5, .int v5_8), (0, .int a), (1, .int b), (2, .int d)]) hx hb dX9_isBetween_66 hl (by decide) rfl (fun ls hl => ?_)
        obtain ⟨n_7, en_7⟩ : ∃ y : Int32, y = v5_8 + 1 := ⟨_, rfl⟩
        have tn_7 : n_7.toInt = v5_8.toInt + 1 := pp_add en_7 rfl rfl (by omega) (by omega)
        refine lv_iinc (v := n_7) (lv' := [(5, .int n_7), (4, .int 1), (3, .int 1), (0, .int a), (1, .int b), (2, .int d)]) hx hb dX9_isBetween_68 hl (k := 2) rfl (by rw [en_7]; rfl) (by decide) rfl (fun ls hl => ?_)
        clear en_7
        refine lv_goto (tgt := 8) hx hb dX9_isBetween_71 (by decide) ?_
        exact ihk_1 (n_7, 1, 1) _ _ _ (by show (4 - n_7.toInt).toNat < k_1; omega) ⟨(by first | omega | decide | (simp only [fa_lt, fa_le, fa_eq, and_true, true_and, and_false, false_and, not_true_eq_false, not_false_eq_true, li_0, li_1, li_2, li_3, li_4, li_5, li_6, li_7, li_8, li_9, li_10, li_12, li_15, li_16, li_20, li_30, li_34, li_38, li_40, li_63, li_64, li_65, li_78, li_120, li_1000, li_4000, li_10000, li_11077, li_255, li_65535, li_m1, li_m2, li_m1000000001, li_m1000000002, li_m1000000003, li_m1000000004, li_m1000000005, li_m1000000006, li_m1000000007, or_true, true_or, or_false, false_or, implies_true, true_implies, false_implies] <;> omega)), (by first | omega | decide | (simp only [fa_lt, fa_le, fa_eq, and_true, true_and, and_false, false_and, not_true_eq_false, not_false_eq_true, li_0, li_1, li_2, li_3, li_4, li_5, li_6, li_7, li_8, li_9, li_10, li_12, li_15, li_16, li_20, li_30, li_34, li_38, li_40, li_63, li_64, li_65, li_78, li_120, li_1000, li_4000, li_10000, li_11077, li_255, li_65535, li_m1, li_m2, li_m1000000001, li_m1000000002, li_m1000000003, li_m1000000004, li_m1000000005, li_m1000000006, li_m1000000007, or_true, true_or, or_false, false_or, implies_true, true_implies, false_implies] <;> omega)), rfl, rfl, lv_sub hl [0, 1, 2, 3, 4, 5] rfl⟩
      · skip
        have tc_6 : v4_8.toInt = 0 := (fa_eq _ _).mp c_6
        refine lv_iload hx hb dX9_isBetween_45 (lv_at hl 1 rfl) ?_
        refine lv_iload_n hx hb dX9_isBetween_47 rfl (lv_at hl 5 rfl) ?_
        have rc_8_x := pp_rng v5_8
        have rc_8_y := pp_rng d
        refine lv_icmp_le (tgt := 65) hx hb dX9_isBetween_48 (by decide) (fun c_8 => ?_) (fun c_8 => ?_)
        · skip
          have tc_8 : v5_8.toInt ≤ d.toInt := (fa_le _ _).mp c_8
          refine lv_iconst (v := 0) hx hb dX9_isBetween_65 (by decide) ?_
          refine lv_istore (lv' := [(4, .int 0), (3, .int 1), (5, .int v5_8), (0, .int a), (1, .int b), (2, .int d)]) hx hb dX9_isBetween_66 hl (by decide) rfl (fun ls hl => ?_)
          obtain ⟨n_9, en_9⟩ : ∃ y : Int32, y = v5_8 + 1 := ⟨_, rfl⟩
          have tn_9 : n_9.toInt = v5_8.toInt + 1 := pp_add en_9 rfl rfl (by omega) (by omega)
          refine lv_iinc (v := n_9) (lv' := [(5, .int n_9), (4, .int 0), (3, .int 1), (0, .int a), (1, .int b), (2, .int d)]) hx hb dX9_isBetween_68 hl (k := 2) rfl (by rw [en_9]; rfl) (by decide) rfl (fun ls hl => ?_)
          clear en_9
          refine lv_goto (tgt := 8) hx hb dX9_isBetween_71 (by decide) ?_
          exact ihk_1 (n_9, 0, 1) _ _ _ (by show (4 - n_9.toInt).toNat < k_1; omega) ⟨(by first | omega | decide | (simp only [fa_lt, fa_le, fa_eq, and_true, true_and, and_false, false_and, not_true_eq_false, not_false_eq_true, li_0, li_1, li_2, li_3, li_4, li_5, li_6, li_7, li_8, li_9, li_10, li_12, li_15, li_16, li_20, li_30, li_34, li_38, li_40, li_63, li_64, li_65, li_78, li_120, li_1000, li_4000, li_10000, li_11077, li_255, li_65535, li_m1, li_m2, li_m1000000001, li_m1000000002, li_m1000000003, li_m1000000004, li_m1000000005, li_m1000000006, li_m1000000007, or_true, true_or, or_false, false_or, implies_true, true_implies, false_implies] <;> omega)), (by first | omega | decide | (simp only [fa_lt, fa_le, fa_eq, and_true, true_and, and_false, false_and, not_true_eq_false, not_false_eq_true, li_0, li_1, li_2, li_3, li_4, li_5, li_6, li_7, li_8, li_9, li_10, li_12, li_15, li_16, li_20, li_30, li_34, li_38, li_40, li_63, li_64, li_65, li_78, li_120, li_1000, li_4000, li_10000, li_11077, li_255, li_65535, li_m1, li_m2, li_m1000000001, li_m1000000002, li_m1000000003, li_m1000000004, li_m1000000005, li_m1000000006, li_m1000000007, or_true, true_or, or_false, false_or, implies_true, true_implies, false_implies] <;> omega)), rfl, rfl, lv_sub hl [0, 1, 2, 3, 4, 5] rfl⟩
        · skip
          have tc_8 : ¬ v5_8.toInt ≤ d.toInt := fun h => c_8 ((fa_le _ _).mpr h)
          refine lv_iload_n hx hb dX9_isBetween_51 rfl (lv_at hl 3 rfl) ?_
          refine lv_iload_n hx hb dX9_isBetween_52 rfl (lv_at hl 4 rfl) ?_
          refine lv_iload hx hb dX9_isBetween_53 (lv_at hl 1 rfl) ?_
          have hPc := hP.sub (ws' := []) [] rfl
          have hKc := hK.sub (tys' := []) [] rfl
          refine vp_callSi (W.runS (As := [.int a, .int b, .int v5_8]) (rest := []) ⟨hx, hb, hml, hown, hts⟩ (m_has l dC dI ad a b v5_8 ) (va_cwS 3 hts g_m_isBetween_m_has_109 rfl rfl rfl (by decide +kernel) ⟨(Nat.le_of_ble_eq_true rfl), (Nat.le_of_ble_eq_true rfl)⟩) ⟨preS_blind, fun U hU hW => ⟨rfl, preS_at hU hW hPc hKc hev⟩⟩ rfl rfl hl.1 rfl (lv_room (Nat.le_of_ble_eq_true rfl)) dX9_isBetween_55 ⟨(Nat.le_of_ble_eq_true rfl), (Nat.le_of_ble_eq_true rfl)⟩) (fun r_10 hw => ?_)
          refine lv_if_eq (tgt := 65) hx hb dX9_isBetween_58 (by decide) (fun c_11 => ?_) (fun c_11 => ?_)
          · skip
            have tc_11 : r_10.toInt = 0 := (fa_eq _ _).mp c_11
            refine lv_iconst (v := 0) hx hb dX9_isBetween_65 (by decide) ?_
            refine lv_istore (lv' := [(4, .int 0), (3, .int 1), (5, .int v5_8), (0, .int a), (1, .int b), (2, .int d)]) hx hb dX9_isBetween_66 hl (by decide) rfl (fun ls hl => ?_)
            obtain ⟨n_12, en_12⟩ : ∃ y : Int32, y = v5_8 + 1 := ⟨_, rfl⟩
            have tn_12 : n_12.toInt = v5_8.toInt + 1 := pp_add en_12 rfl rfl (by omega) (by omega)
            refine lv_iinc (v := n_12) (lv' := [(5, .int n_12), (4, .int 0), (3, .int 1), (0, .int a), (1, .int b), (2, .int d)]) hx hb dX9_isBetween_68 hl (k := 2) rfl (by rw [en_12]; rfl) (by decide) rfl (fun ls hl => ?_)
            clear en_12
            refine lv_goto (tgt := 8) hx hb dX9_isBetween_71 (by decide) ?_
            exact ihk_1 (n_12, 0, 1) _ _ _ (by show (4 - n_12.toInt).toNat < k_1; omega) ⟨(by first | omega | decide | (simp only [fa_lt, fa_le, fa_eq, and_true, true_and, and_false, false_and, not_true_eq_false, not_false_eq_true, li_0, li_1, li_2, li_3, li_4, li_5, li_6, li_7, li_8, li_9, li_10, li_12, li_15, li_16, li_20, li_30, li_34, li_38, li_40, li_63, li_64, li_65, li_78, li_120, li_1000, li_4000, li_10000, li_11077, li_255, li_65535, li_m1, li_m2, li_m1000000001, li_m1000000002, li_m1000000003, li_m1000000004, li_m1000000005, li_m1000000006, li_m1000000007, or_true, true_or, or_false, false_or, implies_true, true_implies, false_implies] <;> omega)), (by first | omega | decide | (simp only [fa_lt, fa_le, fa_eq, and_true, true_and, and_false, false_and, not_true_eq_false, not_false_eq_true, li_0, li_1, li_2, li_3, li_4, li_5, li_6, li_7, li_8, li_9, li_10, li_12, li_15, li_16, li_20, li_30, li_34, li_38, li_40, li_63, li_64, li_65, li_78, li_120, li_1000, li_4000, li_10000, li_11077, li_255, li_65535, li_m1, li_m2, li_m1000000001, li_m1000000002, li_m1000000003, li_m1000000004, li_m1000000005, li_m1000000006, li_m1000000007, or_true, true_or, or_false, false_or, implies_true, true_implies, false_implies] <;> omega)), rfl, rfl, lv_sub hl [0, 1, 2, 3, 4, 5] rfl⟩
          · skip
            have tc_11 : ¬ r_10.toInt = 0 := fun h => c_11 ((fa_eq _ _).mpr h)
            refine lv_iconst (v := 1) hx hb dX9_isBetween_61 (by decide) ?_
            refine lv_goto (tgt := 66) hx hb dX9_isBetween_62 (by decide) ?_
            refine lv_istore (lv' := [(4, .int 1), (3, .int 1), (5, .int v5_8), (0, .int a), (1, .int b), (2, .int d)]) hx hb dX9_isBetween_66 hl (by decide) rfl (fun ls hl => ?_)
            obtain ⟨n_13, en_13⟩ : ∃ y : Int32, y = v5_8 + 1 := ⟨_, rfl⟩
            have tn_13 : n_13.toInt = v5_8.toInt + 1 := pp_add en_13 rfl rfl (by omega) (by omega)
            refine lv_iinc (v := n_13) (lv' := [(5, .int n_13), (4, .int 1), (3, .int 1), (0, .int a), (1, .int b), (2, .int d)]) hx hb dX9_isBetween_68 hl (k := 2) rfl (by rw [en_13]; rfl) (by decide) rfl (fun ls hl => ?_)
            clear en_13
            refine lv_goto (tgt := 8) hx hb dX9_isBetween_71 (by decide) ?_
            exact ihk_1 (n_13, 1, 1) _ _ _ (by show (4 - n_13.toInt).toNat < k_1; omega) ⟨(by first | omega | decide | (simp only [fa_lt, fa_le, fa_eq, and_true, true_and, and_false, false_and, not_true_eq_false, not_false_eq_true, li_0, li_1, li_2, li_3, li_4, li_5, li_6, li_7, li_8, li_9, li_10, li_12, li_15, li_16, li_20, li_30, li_34, li_38, li_40, li_63, li_64, li_65, li_78, li_120, li_1000, li_4000, li_10000, li_11077, li_255, li_65535, li_m1, li_m2, li_m1000000001, li_m1000000002, li_m1000000003, li_m1000000004, li_m1000000005, li_m1000000006, li_m1000000007, or_true, true_or, or_false, false_or, implies_true, true_implies, false_implies] <;> omega)), (by first | omega | decide | (simp only [fa_lt, fa_le, fa_eq, and_true, true_and, and_false, false_and, not_true_eq_false, not_false_eq_true, li_0, li_1, li_2, li_3, li_4, li_5, li_6, li_7, li_8, li_9, li_10, li_12, li_15, li_16, li_20, li_30, li_34, li_38, li_40, li_63, li_64, li_65, li_78, li_120, li_1000, li_4000, li_10000, li_11077, li_255, li_65535, li_m1, li_m2, li_m1000000001, li_m1000000002, li_m1000000003, li_m1000000004, li_m1000000005, li_m1000000006, li_m1000000007, or_true, true_or, or_false, false_or, implies_true, true_implies, false_implies] <;> omega)), rfl, rfl, lv_sub hl [0, 1, 2, 3, 4, 5] rfl⟩
    · skip
      have tc_5 : v3_8.toInt = 0 := (fa_eq _ _).mp c_5
      refine lv_iload hx hb dX9_isBetween_18 (lv_at hl 0 rfl) ?_
      refine lv_iload_n hx hb dX9_isBetween_20 rfl (lv_at hl 5 rfl) ?_
      have rc_14_x := pp_rng v5_8
      have rc_14_y := pp_rng d
      refine lv_icmp_ge (tgt := 38) hx hb dX9_isBetween_21 (by decide) (fun c_14 => ?_) (fun c_14 => ?_)
      · skip
        have tc_14 : d.toInt ≤ v5_8.toInt := (fa_le _ _).mp c_14
        refine lv_iconst (v := 0) hx hb dX9_isBetween_38 (by decide) ?_
        refine lv_istore_n (lv' := [(3, .int 0), (5, .int v5_8), (4, .int v4_8), (0, .int a), (1, .int b), (2, .int d)]) hx hb dX9_isBetween_39 rfl hl (by decide) rfl (fun ls hl => ?_)
        refine lv_iload hx hb dX9_isBetween_40 (lv_at hl 2 rfl) ?_
        refine lv_if_ne (tgt := 61) hx hb dX9_isBetween_42 (by decide) (fun c_15 => ?_) (fun c_15 => ?_)
        · skip
          have tc_15 : ¬ v4_8.toInt = 0 := fun h => c_15 ((fa_eq _ _).mpr h)
          refine lv_iconst (v := 1) hx hb dX9_isBetween_61 (by decide) ?_
          refine lv_goto (tgt := 66) hx hb dX9_isBetween_62 (by decide) ?_
          refine lv_istore (lv' := [(4, .int 1), (3, .int 0), (5, .int v5_8), (0, .int a), (1, .int b), (2, .int d)]) hx hb dX9_isBetween_66 hl (by decide) rfl (fun ls hl => ?_)
          obtain ⟨n_16, en_16⟩ : ∃ y : Int32, y = v5_8 + 1 := ⟨_, rfl⟩
          have tn_16 : n_16.toInt = v5_8.toInt + 1 := pp_add en_16 rfl rfl (by omega) (by omega)
          refine lv_iinc (v := n_16) (lv' := [(5, .int n_16), (4, .int 1), (3, .int 0), (0, .int a), (1, .int b), (2, .int d)]) hx hb dX9_isBetween_68 hl (k := 2) rfl (by rw [en_16]; rfl) (by decide) rfl (fun ls hl => ?_)
          clear en_16
          refine lv_goto (tgt := 8) hx hb dX9_isBetween_71 (by decide) ?_
          exact ihk_1 (n_16, 1, 0) _ _ _ (by show (4 - n_16.toInt).toNat < k_1; omega) ⟨(by first | omega | decide | (simp only [fa_lt, fa_le, fa_eq, and_true, true_and, and_false, false_and, not_true_eq_false, not_false_eq_true, li_0, li_1, li_2, li_3, li_4, li_5, li_6, li_7, li_8, li_9, li_10, li_12, li_15, li_16, li_20, li_30, li_34, li_38, li_40, li_63, li_64, li_65, li_78, li_120, li_1000, li_4000, li_10000, li_11077, li_255, li_65535, li_m1, li_m2, li_m1000000001, li_m1000000002, li_m1000000003, li_m1000000004, li_m1000000005, li_m1000000006, li_m1000000007, or_true, true_or, or_false, false_or, implies_true, true_implies, false_implies] <;> omega)), (by first | omega | decide | (simp only [fa_lt, fa_le, fa_eq, and_true, true_and, and_false, false_and, not_true_eq_false, not_false_eq_true, li_0, li_1, li_2, li_3, li_4, li_5, li_6, li_7, li_8, li_9, li_10, li_12, li_15, li_16, li_20, li_30, li_34, li_38, li_40, li_63, li_64, li_65, li_78, li_120, li_1000, li_4000, li_10000, li_11077, li_255, li_65535, li_m1, li_m2, li_m1000000001, li_m1000000002, li_m1000000003, li_m1000000004, li_m1000000005, li_m1000000006, li_m1000000007, or_true, true_or, or_false, false_or, implies_true, true_implies, false_implies] <;> omega)), rfl, rfl, lv_sub hl [0, 1, 2, 3, 4, 5] rfl⟩
        · skip
          have tc_15 : v4_8.toInt = 0 := (fa_eq _ _).mp c_15
          refine lv_iload hx hb dX9_isBetween_45 (lv_at hl 1 rfl) ?_
          refine lv_iload_n hx hb dX9_isBetween_47 rfl (lv_at hl 5 rfl) ?_
          have rc_17_x := pp_rng v5_8
          have rc_17_y := pp_rng d
          refine lv_icmp_le (tgt := 65) hx hb dX9_isBetween_48 (by decide) (fun c_17 => ?_) (fun c_17 => ?_)
          · skip
            have tc_17 : v5_8.toInt ≤ d.toInt := (fa_le _ _).mp c_17
            refine lv_iconst (v := 0) hx hb dX9_isBetween_65 (by decide) ?_
            refine lv_istore (lv' := [(4, .int 0), (3, .int 0), (5, .int v5_8), (0, .int a), (1, .int b), (2, .int d)]) hx hb dX9_isBetween_66 hl (by decide) rfl (fun ls hl => ?_)
            obtain ⟨n_18, en_18⟩ : ∃ y : Int32, y = v5_8 + 1 := ⟨_, rfl⟩
            have tn_18 : n_18.toInt = v5_8.toInt + 1 := pp_add en_18 rfl rfl (by omega) (by omega)
            refine lv_iinc (v := n_18) (lv' := [(5, .int n_18), (4, .int 0), (3, .int 0), (0, .int a), (1, .int b), (2, .int d)]) hx hb dX9_isBetween_68 hl (k := 2) rfl (by rw [en_18]; rfl) (by decide) rfl (fun ls hl => ?_)
            clear en_18
            refine lv_goto (tgt := 8) hx hb dX9_isBetween_71 (by decide) ?_
            exact ihk_1 (n_18, 0, 0) _ _ _ (by show (4 - n_18.toInt).toNat < k_1; omega) ⟨(by first | omega | decide | (simp only [fa_lt, fa_le, fa_eq, and_true, true_and, and_false, false_and, not_true_eq_false, not_false_eq_true, li_0, li_1, li_2, li_3, li_4, li_5, li_6, li_7, li_8, li_9, li_10, li_12, li_15, li_16, li_20, li_30, li_34, li_38, li_40, li_63, li_64, li_65, li_78, li_120, li_1000, li_4000, li_10000, li_11077, li_255, li_65535, li_m1, li_m2, li_m1000000001, li_m1000000002, li_m1000000003, li_m1000000004, li_m1000000005, li_m1000000006, li_m1000000007, or_true, true_or, or_false, false_or, implies_true, true_implies, false_implies] <;> omega)), (by first | omega | decide | (simp only [fa_lt, fa_le, fa_eq, and_true, true_and, and_false, false_and, not_true_eq_false, not_false_eq_true, li_0, li_1, li_2, li_3, li_4, li_5, li_6, li_7, li_8, li_9, li_10, li_12, li_15, li_16, li_20, li_30, li_34, li_38, li_40, li_63, li_64, li_65, li_78, li_120, li_1000, li_4000, li_10000, li_11077, li_255, li_65535, li_m1, li_m2, li_m1000000001, li_m1000000002, li_m1000000003, li_m1000000004, li_m1000000005, li_m1000000006, li_m1000000007, or_true, true_or, or_false, false_or, implies_true, true_implies, false_implies] <;> omega)), rfl, rfl, lv_sub hl [0, 1, 2, 3, 4, 5] rfl⟩
          · skip
            have tc_17 : ¬ v5_8.toInt ≤ d.toInt := fun h => c_17 ((fa_le _ _).mpr h)
            refine lv_iload_n hx hb dX9_isBetween_51 rfl (lv_at hl 3 rfl) ?_
            refine lv_iload_n hx hb dX9_isBetween_52 rfl (lv_at hl 4 rfl) ?_
            refine lv_iload hx hb dX9_isBetween_53 (lv_at hl 1 rfl) ?_
            have hPc := hP.sub (ws' := []) [] rfl
            have hKc := hK.sub (tys' := []) [] rfl
            refine vp_callSi (W.runS (As := [.int a, .int b, .int v5_8]) (rest := []) ⟨hx, hb, hml, hown, hts⟩ (m_has l dC dI ad a b v5_8 ) (va_cwS 3 hts g_m_isBetween_m_has_109 rfl rfl rfl (by decide +kernel) ⟨(Nat.le_of_ble_eq_true rfl), (Nat.le_of_ble_eq_true rfl)⟩) ⟨preS_blind, fun U hU hW => ⟨rfl, preS_at hU hW hPc hKc hev⟩⟩ rfl rfl hl.1 rfl (lv_room (Nat.le_of_ble_eq_true rfl)) dX9_isBetween_55 ⟨(Nat.le_of_ble_eq_true rfl), (Nat.le_of_ble_eq_true rfl)⟩) (fun r_19 hw => ?_)
            refine lv_if_eq (tgt := 65) hx hb dX9_isBetween_58 (by decide) (fun c_20 => ?_) (fun c_20 => ?_)
            · skip
              have tc_20 : r_19.toInt = 0 := (fa_eq _ _).mp c_20
              refine lv_iconst (v := 0) hx hb dX9_isBetween_65 (by decide) ?_
              refine lv_istore (lv' := [(4, .int 0), (3, .int 0), (5, .int v5_8), (0, .int a), (1, .int b), (2, .int d)]) hx hb dX9_isBetween_66 hl (by decide) rfl (fun ls hl => ?_)
              obtain ⟨n_21, en_21⟩ : ∃ y : Int32, y = v5_8 + 1 := ⟨_, rfl⟩
              have tn_21 : n_21.toInt = v5_8.toInt + 1 := pp_add en_21 rfl rfl (by omega) (by omega)
              refine lv_iinc (v := n_21) (lv' := [(5, .int n_21), (4, .int 0), (3, .int 0), (0, .int a), (1, .int b), (2, .int d)]) hx hb dX9_isBetween_68 hl (k := 2) rfl (by rw [en_21]; rfl) (by decide) rfl (fun ls hl => ?_)
              clear en_21
              refine lv_goto (tgt := 8) hx hb dX9_isBetween_71 (by decide) ?_
              exact ihk_1 (n_21, 0, 0) _ _ _ (by show (4 - n_21.toInt).toNat < k_1; omega) ⟨(by first | omega | decide | (simp only [fa_lt, fa_le, fa_eq, and_true, true_and, and_false, false_and, not_true_eq_false, not_false_eq_true, li_0, li_1, li_2, li_3, li_4, li_5, li_6, li_7, li_8, li_9, li_10, li_12, li_15, li_16, li_20, li_30, li_34, li_38, li_40, li_63, li_64, li_65, li_78, li_120, li_1000, li_4000, li_10000, li_11077, li_255, li_65535, li_m1, li_m2, li_m1000000001, li_m1000000002, li_m1000000003, li_m1000000004, li_m1000000005, li_m1000000006, li_m1000000007, or_true, true_or, or_false, false_or, implies_true, true_implies, false_implies] <;> omega)), (by first | omega | decide | (simp only [fa_lt, fa_le, fa_eq, and_true, true_and, and_false, false_and, not_true_eq_false, not_false_eq_true, li_0, li_1, li_2, li_3, li_4, li_5, li_6, li_7, li_8, li_9, li_10, li_12, li_15, li_16, li_20, li_30, li_34, li_38, li_40, li_63, li_64, li_65, li_78, li_120, li_1000, li_4000, li_10000, li_11077, li_255, li_65535, li_m1, li_m2, li_m1000000001, li_m1000000002, li_m1000000003, li_m1000000004, li_m1000000005, li_m1000000006, li_m1000000007, or_true, true_or, or_false, false_or, implies_true, true_implies, false_implies] <;> omega)), rfl, rfl, lv_sub hl [0, 1, 2, 3, 4, 5] rfl⟩
            · skip
              have tc_20 : ¬ r_19.toInt = 0 := fun h => c_20 ((fa_eq _ _).mpr h)
              refine lv_iconst (v := 1) hx hb dX9_isBetween_61 (by decide) ?_
              refine lv_goto (tgt := 66) hx hb dX9_isBetween_62 (by decide) ?_
              refine lv_istore (lv' := [(4, .int 1), (3, .int 0), (5, .int v5_8), (0, .int a), (1, .int b), (2, .int d)]) hx hb dX9_isBetween_66 hl (by decide) rfl (fun ls hl => ?_)
              obtain ⟨n_22, en_22⟩ : ∃ y : Int32, y = v5_8 + 1 := ⟨_, rfl⟩
              have tn_22 : n_22.toInt = v5_8.toInt + 1 := pp_add en_22 rfl rfl (by omega) (by omega)
              refine lv_iinc (v := n_22) (lv' := [(5, .int n_22), (4, .int 1), (3, .int 0), (0, .int a), (1, .int b), (2, .int d)]) hx hb dX9_isBetween_68 hl (k := 2) rfl (by rw [en_22]; rfl) (by decide) rfl (fun ls hl => ?_)
              clear en_22
              refine lv_goto (tgt := 8) hx hb dX9_isBetween_71 (by decide) ?_
              exact ihk_1 (n_22, 1, 0) _ _ _ (by show (4 - n_22.toInt).toNat < k_1; omega) ⟨(by first | omega | decide | (simp only [fa_lt, fa_le, fa_eq, and_true, true_and, and_false, false_and, not_true_eq_false, not_false_eq_true, li_0, li_1, li_2, li_3, li_4, li_5, li_6, li_7, li_8, li_9, li_10, li_12, li_15, li_16, li_20, li_30, li_34, li_38, li_40, li_63, li_64, li_65, li_78, li_120, li_1000, li_4000, li_10000, li_11077, li_255, li_65535, li_m1, li_m2, li_m1000000001, li_m1000000002, li_m1000000003, li_m1000000004, li_m1000000005, li_m1000000006, li_m1000000007, or_true, true_or, or_false, false_or, implies_true, true_implies, false_implies] <;> omega)), (by first | omega | decide | (simp only [fa_lt, fa_le, fa_eq, and_true, true_and, and_false, false_and, not_true_eq_false, not_false_eq_true, li_0, li_1, li_2, li_3, li_4, li_5, li_6, li_7, li_8, li_9, li_10, li_12, li_15, li_16, li_20, li_30, li_34, li_38, li_40, li_63, li_64, li_65, li_78, li_120, li_1000, li_4000, li_10000, li_11077, li_255, li_65535, li_m1, li_m2, li_m1000000001, li_m1000000002, li_m1000000003, li_m1000000004, li_m1000000005, li_m1000000006, li_m1000000007, or_true, true_or, or_false, false_or, implies_true, true_implies, false_implies] <;> omega)), rfl, rfl, lv_sub hl [0, 1, 2, 3, 4, 5] rfl⟩
      · skip
        have tc_14 : ¬ d.toInt ≤ v5_8.toInt := fun h => c_14 ((fa_le _ _).mpr h)
        refine lv_iload_n hx hb dX9_isBetween_24 rfl (lv_at hl 3 rfl) ?_
        refine lv_iload_n hx hb dX9_isBetween_25 rfl (lv_at hl 4 rfl) ?_
        refine lv_iload hx hb dX9_isBetween_26 (lv_at hl 0 rfl) ?_
        have hPc := hP.sub (ws' := []) [] rfl
        have hKc := hK.sub (tys' := []) [] rfl
        refine vp_callSi (W.runS (As := [.int a, .int b, .int v5_8]) (rest := []) ⟨hx, hb, hml, hown, hts⟩ (m_has l dC dI ad a b v5_8 ) (va_cwS 3 hts g_m_isBetween_m_has_109 rfl rfl rfl (by decide +kernel) ⟨(Nat.le_of_ble_eq_true rfl), (Nat.le_of_ble_eq_true rfl)⟩) ⟨preS_blind, fun U hU hW => ⟨rfl, preS_at hU hW hPc hKc hev⟩⟩ rfl rfl hl.1 rfl (lv_room (Nat.le_of_ble_eq_true rfl)) dX9_isBetween_28 ⟨(Nat.le_of_ble_eq_true rfl), (Nat.le_of_ble_eq_true rfl)⟩) (fun r_23 hw => ?_)
        refine lv_if_eq (tgt := 38) hx hb dX9_isBetween_31 (by decide) (fun c_24 => ?_) (fun c_24 => ?_)
        · skip
          have tc_24 : r_23.toInt = 0 := (fa_eq _ _).mp c_24
          refine lv_iconst (v := 0) hx hb dX9_isBetween_38 (by decide) ?_
          refine lv_istore_n (lv' := [(3, .int 0), (5, .int v5_8), (4, .int v4_8), (0, .int a), (1, .int b), (2, .int d)]) hx hb dX9_isBetween_39 rfl hl (by decide) rfl (fun ls hl => ?_)
          refine lv_iload hx hb dX9_isBetween_40 (lv_at hl 2 rfl) ?_
          refine lv_if_ne (tgt := 61) hx hb dX9_isBetween_42 (by decide) (fun c_25 => ?_) (fun c_25 => ?_)
          · skip
            have tc_25 : ¬ v4_8.toInt = 0 := fun h => c_25 ((fa_eq _ _).mpr h)
            refine lv_iconst (v := 1) hx hb dX9_isBetween_61 (by decide) ?_
            refine lv_goto (tgt := 66) hx hb dX9_isBetween_62 (by decide) ?_
            refine lv_istore (lv' := [(4, .int 1), (3, .int 0), (5, .int v5_8), (0, .int a), (1, .int b), (2, .int d)]) hx hb dX9_isBetween_66 hl (by decide) rfl (fun ls hl => ?_)
            obtain ⟨n_26, en_26⟩ : ∃ y : Int32, y = v5_8 + 1 := ⟨_, rfl⟩
            have tn_26 : n_26.toInt = v5_8.toInt + 1 := pp_add en_26 rfl rfl (by omega) (by omega)
            refine lv_iinc (v := n_26) (lv' := [(5, .int n_26), (4, .int 1), (3, .int 0), (0, .int a), (1, .int b), (2, .int d)]) hx hb dX9_isBetween_68 hl (k := 2) rfl (by rw [en_26]; rfl) (by decide) rfl (fun ls hl => ?_)
            clear en_26
            refine lv_goto (tgt := 8) hx hb dX9_isBetween_71 (by decide) ?_
            exact ihk_1 (n_26, 1, 0) _ _ _ (by show (4 - n_26.toInt).toNat < k_1; omega) ⟨(by first | omega | decide | (simp only [fa_lt, fa_le, fa_eq, and_true, true_and, and_false, false_and, not_true_eq_false, not_false_eq_true, li_0, li_1, li_2, li_3, li_4, li_5, li_6, li_7, li_8, li_9, li_10, li_12, li_15, li_16, li_20, li_30, li_34, li_38, li_40, li_63, li_64, li_65, li_78, li_120, li_1000, li_4000, li_10000, li_11077, li_255, li_65535, li_m1, li_m2, li_m1000000001, li_m1000000002, li_m1000000003, li_m1000000004, li_m1000000005, li_m1000000006, li_m1000000007, or_true, true_or, or_false, false_or, implies_true, true_implies, false_implies] <;> omega)), (by first | omega | decide | (simp only [fa_lt, fa_le, fa_eq, and_true, true_and, and_false, false_and, not_true_eq_false, not_false_eq_true, li_0, li_1, li_2, li_3, li_4, li_5, li_6, li_7, li_8, li_9, li_10, li_12, li_15, li_16, li_20, li_30, li_34, li_38, li_40, li_63, li_64, li_65, li_78, li_120, li_1000, li_4000, li_10000, li_11077, li_255, li_65535, li_m1, li_m2, li_m1000000001, li_m1000000002, li_m1000000003, li_m1000000004, li_m1000000005, li_m1000000006, li_m1000000007, or_true, true_or, or_false, false_or, implies_true, true_implies, false_implies] <;> omega)), rfl, rfl, lv_sub hl [0, 1, 2, 3, 4, 5] rfl⟩
          · skip
            have tc_25 : v4_8.toInt = 0 := (fa_eq _ _).mp c_25
            refine lv_iload hx hb dX9_isBetween_45 (lv_at hl 1 rfl) ?_
            refine lv_iload_n hx hb dX9_isBetween_47 rfl (lv_at hl 5 rfl) ?_
            have rc_27_x := pp_rng v5_8
            have rc_27_y := pp_rng d
            refine lv_icmp_le (tgt := 65) hx hb dX9_isBetween_48 (by decide) (fun c_27 => ?_) (fun c_27 => ?_)
            · skip
              have tc_27 : v5_8.toInt ≤ d.toInt := (fa_le _ _).mp c_27
              refine lv_iconst (v := 0) hx hb dX9_isBetween_65 (by decide) ?_
              refine lv_istore (lv' := [(4, .int 0), (3, .int 0), (5, .int v5_8), (0, .int a), (1, .int b), (2, .int d)]) hx hb dX9_isBetween_66 hl (by decide) rfl (fun ls hl => ?_)
              obtain ⟨n_28, en_28⟩ : ∃ y : Int32, y = v5_8 + 1 := ⟨_, rfl⟩
              have tn_28 : n_28.toInt = v5_8.toInt + 1 := pp_add en_28 rfl rfl (by omega) (by omega)
              refine lv_iinc (v := n_28) (lv' := [(5, .int n_28), (4, .int 0), (3, .int 0), (0, .int a), (1, .int b), (2, .int d)]) hx hb dX9_isBetween_68 hl (k := 2) rfl (by rw [en_28]; rfl) (by decide) rfl (fun ls hl => ?_)
              clear en_28
              refine lv_goto (tgt := 8) hx hb dX9_isBetween_71 (by decide) ?_
              exact ihk_1 (n_28, 0, 0) _ _ _ (by show (4 - n_28.toInt).toNat < k_1; omega) ⟨(by first | omega | decide | (simp only [fa_lt, fa_le, fa_eq, and_true, true_and, and_false, false_and, not_true_eq_false, not_false_eq_true, li_0, li_1, li_2, li_3, li_4, li_5, li_6, li_7, li_8, li_9, li_10, li_12, li_15, li_16, li_20, li_30, li_34, li_38, li_40, li_63, li_64, li_65, li_78, li_120, li_1000, li_4000, li_10000, li_11077, li_255, li_65535, li_m1, li_m2, li_m1000000001, li_m1000000002, li_m1000000003, li_m1000000004, li_m1000000005, li_m1000000006, li_m1000000007, or_true, true_or, or_false, false_or, implies_true, true_implies, false_implies] <;> omega)), (by first | omega | decide | (simp only [fa_lt, fa_le, fa_eq, and_true, true_and, and_false, false_and, not_true_eq_false, not_false_eq_true, li_0, li_1, li_2, li_3, li_4, li_5, li_6, li_7, li_8, li_9, li_10, li_12, li_15, li_16, li_20, li_30, li_34, li_38, li_40, li_63, li_64, li_65, li_78, li_120, li_1000, li_4000, li_10000, li_11077, li_255, li_65535, li_m1, li_m2, li_m1000000001, li_m1000000002, li_m1000000003, li_m1000000004, li_m1000000005, li_m1000000006, li_m1000000007, or_true, true_or, or_false, false_or, implies_true, true_implies, false_implies] <;> omega)), rfl, rfl, lv_sub hl [0, 1, 2, 3, 4, 5] rfl⟩
            · skip
              have tc_27 : ¬ v5_8.toInt ≤ d.toInt := fun h => c_27 ((fa_le _ _).mpr h)
              refine lv_iload_n hx hb dX9_isBetween_51 rfl (lv_at hl 3 rfl) ?_
              refine lv_iload_n hx hb dX9_isBetween_52 rfl (lv_at hl 4 rfl) ?_
              refine lv_iload hx hb dX9_isBetween_53 (lv_at hl 1 rfl) ?_
              have hPc := hP.sub (ws' := []) [] rfl
              have hKc := hK.sub (tys' := []) [] rfl
              refine vp_callSi (W.runS (As := [.int a, .int b, .int v5_8]) (rest := []) ⟨hx, hb, hml, hown, hts⟩ (m_has l dC dI ad a b v5_8 ) (va_cwS 3 hts g_m_isBetween_m_has_109 rfl rfl rfl (by decide +kernel) ⟨(Nat.le_of_ble_eq_true rfl), (Nat.le_of_ble_eq_true rfl)⟩) ⟨preS_blind, fun U hU hW => ⟨rfl, preS_at hU hW hPc hKc hev⟩⟩ rfl rfl hl.1 rfl (lv_room (Nat.le_of_ble_eq_true rfl)) dX9_isBetween_55 ⟨(Nat.le_of_ble_eq_true rfl), (Nat.le_of_ble_eq_true rfl)⟩) (fun r_29 hw => ?_)
              refine lv_if_eq (tgt := 65) hx hb dX9_isBetween_58 (by decide) (fun c_30 => ?_) (fun c_30 => ?_)
              · skip
                have tc_30 : r_29.toInt = 0 := (fa_eq _ _).mp c_30
                refine lv_iconst (v := 0) hx hb dX9_isBetween_65 (by decide) ?_
                refine lv_istore (lv' := [(4, .int 0), (3, .int 0), (5, .int v5_8), (0, .int a), (1, .int b), (2, .int d)]) hx hb dX9_isBetween_66 hl (by decide) rfl (fun ls hl => ?_)
                obtain ⟨n_31, en_31⟩ : ∃ y : Int32, y = v5_8 + 1 := ⟨_, rfl⟩
                have tn_31 : n_31.toInt = v5_8.toInt + 1 := pp_add en_31 rfl rfl (by omega) (by omega)
                refine lv_iinc (v := n_31) (lv' := [(5, .int n_31), (4, .int 0), (3, .int 0), (0, .int a), (1, .int b), (2, .int d)]) hx hb dX9_isBetween_68 hl (k := 2) rfl (by rw [en_31]; rfl) (by decide) rfl (fun ls hl => ?_)
                clear en_31
                refine lv_goto (tgt := 8) hx hb dX9_isBetween_71 (by decide) ?_
                exact ihk_1 (n_31, 0, 0) _ _ _ (by show (4 - n_31.toInt).toNat < k_1; omega) ⟨(by first | omega | decide | (simp only [fa_lt, fa_le, fa_eq, and_true, true_and, and_false, false_and, not_true_eq_false, not_false_eq_true, li_0, li_1, li_2, li_3, li_4, li_5, li_6, li_7, li_8, li_9, li_10, li_12, li_15, li_16, li_20, li_30, li_34, li_38, li_40, li_63, li_64, li_65, li_78, li_120, li_1000, li_4000, li_10000, li_11077, li_255, li_65535, li_m1, li_m2, li_m1000000001, li_m1000000002, li_m1000000003, li_m1000000004, li_m1000000005, li_m1000000006, li_m1000000007, or_true, true_or, or_false, false_or, implies_true, true_implies, false_implies] <;> omega)), (by first | omega | decide | (simp only [fa_lt, fa_le, fa_eq, and_true, true_and, and_false, false_and, not_true_eq_false, not_false_eq_true, li_0, li_1, li_2, li_3, li_4, li_5, li_6, li_7, li_8, li_9, li_10, li_12, li_15, li_16, li_20, li_30, li_34, li_38, li_40, li_63, li_64, li_65, li_78, li_120, li_1000, li_4000, li_10000, li_11077, li_255, li_65535, li_m1, li_m2, li_m1000000001, li_m1000000002, li_m1000000003, li_m1000000004, li_m1000000005, li_m1000000006, li_m1000000007, or_true, true_or, or_false, false_or, implies_true, true_implies, false_implies] <;> omega)), rfl, rfl, lv_sub hl [0, 1, 2, 3, 4, 5] rfl⟩
              · skip
                have tc_30 : ¬ r_29.toInt = 0 := fun h => c_30 ((fa_eq _ _).mpr h)
                refine lv_iconst (v := 1) hx hb dX9_isBetween_61 (by decide) ?_
                refine lv_goto (tgt := 66) hx hb dX9_isBetween_62 (by decide) ?_
                refine lv_istore (lv' := [(4, .int 1), (3, .int 0), (5, .int v5_8), (0, .int a), (1, .int b), (2, .int d)]) hx hb dX9_isBetween_66 hl (by decide) rfl (fun ls hl => ?_)
                obtain ⟨n_32, en_32⟩ : ∃ y : Int32, y = v5_8 + 1 := ⟨_, rfl⟩
                have tn_32 : n_32.toInt = v5_8.toInt + 1 := pp_add en_32 rfl rfl (by omega) (by omega)
                refine lv_iinc (v := n_32) (lv' := [(5, .int n_32), (4, .int 1), (3, .int 0), (0, .int a), (1, .int b), (2, .int d)]) hx hb dX9_isBetween_68 hl (k := 2) rfl (by rw [en_32]; rfl) (by decide) rfl (fun ls hl => ?_)
                clear en_32
                refine lv_goto (tgt := 8) hx hb dX9_isBetween_71 (by decide) ?_
                exact ihk_1 (n_32, 1, 0) _ _ _ (by show (4 - n_32.toInt).toNat < k_1; omega) ⟨(by first | omega | decide | (simp only [fa_lt, fa_le, fa_eq, and_true, true_and, and_false, false_and, not_true_eq_false, not_false_eq_true, li_0, li_1, li_2, li_3, li_4, li_5, li_6, li_7, li_8, li_9, li_10, li_12, li_15, li_16, li_20, li_30, li_34, li_38, li_40, li_63, li_64, li_65, li_78, li_120, li_1000, li_4000, li_10000, li_11077, li_255, li_65535, li_m1, li_m2, li_m1000000001, li_m1000000002, li_m1000000003, li_m1000000004, li_m1000000005, li_m1000000006, li_m1000000007, or_true, true_or, or_false, false_or, implies_true, true_implies, false_implies] <;> omega)), (by first | omega | decide | (simp only [fa_lt, fa_le, fa_eq, and_true, true_and, and_false, false_and, not_true_eq_false, not_false_eq_true, li_0, li_1, li_2, li_3, li_4, li_5, li_6, li_7, li_8, li_9, li_10, li_12, li_15, li_16, li_20, li_30, li_34, li_38, li_40, li_63, li_64, li_65, li_78, li_120, li_1000, li_4000, li_10000, li_11077, li_255, li_65535, li_m1, li_m2, li_m1000000001, li_m1000000002, li_m1000000003, li_m1000000004, li_m1000000005, li_m1000000006, li_m1000000007, or_true, true_or, or_false, false_or, implies_true, true_implies, false_implies] <;> omega)), rfl, rfl, lv_sub hl [0, 1, 2, 3, 4, 5] rfl⟩
        · skip
          have tc_24 : ¬ r_23.toInt = 0 := fun h => c_24 ((fa_eq _ _).mpr h)
          refine lv_iconst (v := 1) hx hb dX9_isBetween_34 (by decide) ?_
          refine lv_goto (tgt := 39) hx hb dX9_isBetween_35 (by decide) ?_
          refine lv_istore_n (lv' := [(3, .int 1), (5, .int v5_8), (4, .int v4_8), (0, .int a), (1, .int b), (2, .int d)]) hx hb dX9_isBetween_39 rfl hl (by decide) rfl (fun ls hl => ?_)
          refine lv_iload hx hb dX9_isBetween_40 (lv_at hl 2 rfl) ?_
          refine lv_if_ne (tgt := 61) hx hb dX9_isBetween_42 (by decide) (fun c_33 => ?_) (fun c_33 => ?_)
          · skip
            have tc_33 : ¬ v4_8.toInt = 0 := fun h => c_33 ((fa_eq _ _).mpr h)
            refine lv_iconst (v := 1) hx hb dX9_isBetween_61 (by decide) ?_
            refine lv_goto (tgt := 66) hx hb dX9_isBetween_62 (by decide) ?_
            refine lv_istore (lv' := [(4, .int 1), (3, .int 1), (5, .int v5_8), (0, .int a), (1, .int b), (2, .int d)]) hx hb dX9_isBetween_66 hl (by decide) rfl (fun ls hl => ?_)
            obtain ⟨n_34, en_34⟩ : ∃ y : Int32, y = v5_8 + 1 := ⟨_, rfl⟩
            have tn_34 : n_34.toInt = v5_8.toInt + 1 := pp_add en_34 rfl rfl (by omega) (by omega)
            refine lv_iinc (v := n_34) (lv' := [(5, .int n_34), (4, .int 1), (3, .int 1), (0, .int a), (1, .int b), (2, .int d)]) hx hb dX9_isBetween_68 hl (k := 2) rfl (by rw [en_34]; rfl) (by decide) rfl (fun ls hl => ?_)
            clear en_34
            refine lv_goto (tgt := 8) hx hb dX9_isBetween_71 (by decide) ?_
            exact ihk_1 (n_34, 1, 1) _ _ _ (by show (4 - n_34.toInt).toNat < k_1; omega) ⟨(by first | omega | decide | (simp only [fa_lt, fa_le, fa_eq, and_true, true_and, and_false, false_and, not_true_eq_false, not_false_eq_true, li_0, li_1, li_2, li_3, li_4, li_5, li_6, li_7, li_8, li_9, li_10, li_12, li_15, li_16, li_20, li_30, li_34, li_38, li_40, li_63, li_64, li_65, li_78, li_120, li_1000, li_4000, li_10000, li_11077, li_255, li_65535, li_m1, li_m2, li_m1000000001, li_m1000000002, li_m1000000003, li_m1000000004, li_m1000000005, li_m1000000006, li_m1000000007, or_true, true_or, or_false, false_or, implies_true, true_implies, false_implies] <;> omega)), (by first | omega | decide | (simp only [fa_lt, fa_le, fa_eq, and_true, true_and, and_false, false_and, not_true_eq_false, not_false_eq_true, li_0, li_1, li_2, li_3, li_4, li_5, li_6, li_7, li_8, li_9, li_10, li_12, li_15, li_16, li_20, li_30, li_34, li_38, li_40, li_63, li_64, li_65, li_78, li_120, li_1000, li_4000, li_10000, li_11077, li_255, li_65535, li_m1, li_m2, li_m1000000001, li_m1000000002, li_m1000000003, li_m1000000004, li_m1000000005, li_m1000000006, li_m1000000007, or_true, true_or, or_false, false_or, implies_true, true_implies, false_implies] <;> omega)), rfl, rfl, lv_sub hl [0, 1, 2, 3, 4, 5] rfl⟩
          · skip
            have tc_33 : v4_8.toInt = 0 := (fa_eq _ _).mp c_33
            refine lv_iload hx hb dX9_isBetween_45 (lv_at hl 1 rfl) ?_
            refine lv_iload_n hx hb dX9_isBetween_47 rfl (lv_at hl 5 rfl) ?_
            have rc_35_x := pp_rng v5_8
            have rc_35_y := pp_rng d
            refine lv_icmp_le (tgt := 65) hx hb dX9_isBetween_48 (by decide) (fun c_35 => ?_) (fun c_35 => ?_)
            · skip
              have tc_35 : v5_8.toInt ≤ d.toInt := (fa_le _ _).mp c_35
              refine lv_iconst (v := 0) hx hb dX9_isBetween_65 (by decide) ?_
              refine lv_istore (lv' := [(4, .int 0), (3, .int 1), (5, .int v5_8), (0, .int a), (1, .int b), (2, .int d)]) hx hb dX9_isBetween_66 hl (by decide) rfl (fun ls hl => ?_)
              obtain ⟨n_36, en_36⟩ : ∃ y : Int32, y = v5_8 + 1 := ⟨_, rfl⟩
              have tn_36 : n_36.toInt = v5_8.toInt + 1 := pp_add en_36 rfl rfl (by omega) (by omega)
              refine lv_iinc (v := n_36) (lv' := [(5, .int n_36), (4, .int 0), (3, .int 1), (0, .int a), (1, .int b), (2, .int d)]) hx hb dX9_isBetween_68 hl (k := 2) rfl (by rw [en_36]; rfl) (by decide) rfl (fun ls hl => ?_)
              clear en_36
              refine lv_goto (tgt := 8) hx hb dX9_isBetween_71 (by decide) ?_
              exact ihk_1 (n_36, 0, 1) _ _ _ (by show (4 - n_36.toInt).toNat < k_1; omega) ⟨(by first | omega | decide | (simp only [fa_lt, fa_le, fa_eq, and_true, true_and, and_false, false_and, not_true_eq_false, not_false_eq_true, li_0, li_1, li_2, li_3, li_4, li_5, li_6, li_7, li_8, li_9, li_10, li_12, li_15, li_16, li_20, li_30, li_34, li_38, li_40, li_63, li_64, li_65, li_78, li_120, li_1000, li_4000, li_10000, li_11077, li_255, li_65535, li_m1, li_m2, li_m1000000001, li_m1000000002, li_m1000000003, li_m1000000004, li_m1000000005, li_m1000000006, li_m1000000007, or_true, true_or, or_false, false_or, implies_true, true_implies, false_implies] <;> omega)), (by first | omega | decide | (simp only [fa_lt, fa_le, fa_eq, and_true, true_and, and_false, false_and, not_true_eq_false, not_false_eq_true, li_0, li_1, li_2, li_3, li_4, li_5, li_6, li_7, li_8, li_9, li_10, li_12, li_15, li_16, li_20, li_30, li_34, li_38, li_40, li_63, li_64, li_65, li_78, li_120, li_1000, li_4000, li_10000, li_11077, li_255, li_65535, li_m1, li_m2, li_m1000000001, li_m1000000002, li_m1000000003, li_m1000000004, li_m1000000005, li_m1000000006, li_m1000000007, or_true, true_or, or_false, false_or, implies_true, true_implies, false_implies] <;> omega)), rfl, rfl, lv_sub hl [0, 1, 2, 3, 4, 5] rfl⟩
            · skip
              have tc_35 : ¬ v5_8.toInt ≤ d.toInt := fun h => c_35 ((fa_le _ _).mpr h)
              refine lv_iload_n hx hb dX9_isBetween_51 rfl (lv_at hl 3 rfl) ?_
              refine lv_iload_n hx hb dX9_isBetween_52 rfl (lv_at hl 4 rfl) ?_
              refine lv_iload hx hb dX9_isBetween_53 (lv_at hl 1 rfl) ?_
              have hPc := hP.sub (ws' := []) [] rfl
              have hKc := hK.sub (tys' := []) [] rfl
              refine vp_callSi (W.runS (As := [.int a, .int b, .int v5_8]) (rest := []) ⟨hx, hb, hml, hown, hts⟩ (m_has l dC dI ad a b v5_8 ) (va_cwS 3 hts g_m_isBetween_m_has_109 rfl rfl rfl (by decide +kernel) ⟨(Nat.le_of_ble_eq_true rfl), (Nat.le_of_ble_eq_true rfl)⟩) ⟨preS_blind, fun U hU hW => ⟨rfl, preS_at hU hW hPc hKc hev⟩⟩ rfl rfl hl.1 rfl (lv_room (Nat.le_of_ble_eq_true rfl)) dX9_isBetween_55 ⟨(Nat.le_of_ble_eq_true rfl), (Nat.le_of_ble_eq_true rfl)⟩) (fun r_37 hw => ?_)
              refine lv_if_eq (tgt := 65) hx hb dX9_isBetween_58 (by decide) (fun c_38 => ?_) (fun c_38 => ?_)
              · skip
                have tc_38 : r_37.toInt = 0 := (fa_eq _ _).mp c_38
                refine lv_iconst (v := 0) hx hb dX9_isBetween_65 (by decide) ?_
                refine lv_istore (lv' := [(4, .int 0), (3, .int 1), (5, .int v5_8), (0, .int a), (1, .int b), (2, .int d)]) hx hb dX9_isBetween_66 hl (by decide) rfl (fun ls hl => ?_)
                obtain ⟨n_39, en_39⟩ : ∃ y : Int32, y = v5_8 + 1 := ⟨_, rfl⟩
                have tn_39 : n_39.toInt = v5_8.toInt + 1 := pp_add en_39 rfl rfl (by omega) (by omega)
                refine lv_iinc (v := n_39) (lv' := [(5, .int n_39), (4, .int 0), (3, .int 1), (0, .int a), (1, .int b), (2, .int d)]) hx hb dX9_isBetween_68 hl (k := 2) rfl (by rw [en_39]; rfl) (by decide) rfl (fun ls hl => ?_)
                clear en_39
                refine lv_goto (tgt := 8) hx hb dX9_isBetween_71 (by decide) ?_
                exact ihk_1 (n_39, 0, 1) _ _ _ (by show (4 - n_39.toInt).toNat < k_1; omega) ⟨(by first | omega | decide | (simp only [fa_lt, fa_le, fa_eq, and_true, true_and, and_false, false_and, not_true_eq_false, not_false_eq_true, li_0, li_1, li_2, li_3, li_4, li_5, li_6, li_7, li_8, li_9, li_10, li_12, li_15, li_16, li_20, li_30, li_34, li_38, li_40, li_63, li_64, li_65, li_78, li_120, li_1000, li_4000, li_10000, li_11077, li_255, li_65535, li_m1, li_m2, li_m1000000001, li_m1000000002, li_m1000000003, li_m1000000004, li_m1000000005, li_m1000000006, li_m1000000007, or_true, true_or, or_false, false_or, implies_true, true_implies, false_implies] <;> omega)), (by first | omega | decide | (simp only [fa_lt, fa_le, fa_eq, and_true, true_and, and_false, false_and, not_true_eq_false, not_false_eq_true, li_0, li_1, li_2, li_3, li_4, li_5, li_6, li_7, li_8, li_9, li_10, li_12, li_15, li_16, li_20, li_30, li_34, li_38, li_40, li_63, li_64, li_65, li_78, li_120, li_1000, li_4000, li_10000, li_11077, li_255, li_65535, li_m1, li_m2, li_m1000000001, li_m1000000002, li_m1000000003, li_m1000000004, li_m1000000005, li_m1000000006, li_m1000000007, or_true, true_or, or_false, false_or, implies_true, true_implies, false_implies] <;> omega)), rfl, rfl, lv_sub hl [0, 1, 2, 3, 4, 5] rfl⟩
              · skip
                have tc_38 : ¬ r_37.toInt = 0 := fun h => c_38 ((fa_eq _ _).mpr h)
                refine lv_iconst (v := 1) hx hb dX9_isBetween_61 (by decide) ?_
                refine lv_goto (tgt := 66) hx hb dX9_isBetween_62 (by decide) ?_
                refine lv_istore (lv' := [(4, .int 1), (3, .int 1), (5, .int v5_8), (0, .int a), (1, .int b), (2, .int d)]) hx hb dX9_isBetween_66 hl (by decide) rfl (fun ls hl => ?_)
                obtain ⟨n_40, en_40⟩ : ∃ y : Int32, y = v5_8 + 1 := ⟨_, rfl⟩
                have tn_40 : n_40.toInt = v5_8.toInt + 1 := pp_add en_40 rfl rfl (by omega) (by omega)
                refine lv_iinc (v := n_40) (lv' := [(5, .int n_40), (4, .int 1), (3, .int 1), (0, .int a), (1, .int b), (2, .int d)]) hx hb dX9_isBetween_68 hl (k := 2) rfl (by rw [en_40]; rfl) (by decide) rfl (fun ls hl => ?_)
                clear en_40
                refine lv_goto (tgt := 8) hx hb dX9_isBetween_71 (by decide) ?_
                exact ihk_1 (n_40, 1, 1) _ _ _ (by show (4 - n_40.toInt).toNat < k_1; omega) ⟨(by first | omega | decide | (simp only [fa_lt, fa_le, fa_eq, and_true, true_and, and_false, false_and, not_true_eq_false, not_false_eq_true, li_0, li_1, li_2, li_3, li_4, li_5, li_6, li_7, li_8, li_9, li_10, li_12, li_15, li_16, li_20, li_30, li_34, li_38, li_40, li_63, li_64, li_65, li_78, li_120, li_1000, li_4000, li_10000, li_11077, li_255, li_65535, li_m1, li_m2, li_m1000000001, li_m1000000002, li_m1000000003, li_m1000000004, li_m1000000005, li_m1000000006, li_m1000000007, or_true, true_or, or_false, false_or, implies_true, true_implies, false_implies] <;> omega)), (by first | omega | decide | (simp only [fa_lt, fa_le, fa_eq, and_true, true_and, and_false, false_and, not_true_eq_false, not_false_eq_true, li_0, li_1, li_2, li_3, li_4, li_5, li_6, li_7, li_8, li_9, li_10, li_12, li_15, li_16, li_20, li_30, li_34, li_38, li_40, li_63, li_64, li_65, li_78, li_120, li_1000, li_4000, li_10000, li_11077, li_255, li_65535, li_m1, li_m2, li_m1000000001, li_m1000000002, li_m1000000003, li_m1000000004, li_m1000000005, li_m1000000006, li_m1000000007, or_true, true_or, or_false, false_or, implies_true, true_implies, false_implies] <;> omega)), rfl, rfl, lv_sub hl [0, 1, 2, 3, 4, 5] rfl⟩

def w_m_throwsOf : List Cond := .code yX9_throwsOf cX9_throwsOf 8 (some .int) :: (([.methodLink RX9 112 yX9_mirrored, .static yX9_mirrored, .initialized RX9, .code yX9_mirrored cX9_mirrored 5 (some .int), .methodLink RX9 109 yX9_has, .static yX9_has, .code yX9_has cX9_has 3 (some .boolean), .methodLink RX9 75 yX9_within, .static yX9_within, .code yX9_within cX9_within 3 (some .boolean), .methodLink RX9 114 yX9_turned, .static yX9_turned, .code yX9_turned cX9_turned 7 (some .int), .methodLink RX9 119 yX9_isBetween, .static yX9_isBetween, .code yX9_isBetween cX9_isBetween 6 (some .boolean), .methodLink RX9 116 yX9_isInner, .static yX9_isInner, .code yX9_isInner cX9_isInner 3 (some .boolean)] : List Cond))
set_option maxRecDepth 20000 in
theorem g_m_throwsOf_m_mirrored_112 : GoodIn w_m_throwsOf (va_wsS RX9 112 yX9_mirrored w_m_mirrored) := goodIn_r _ [1, 2, 3, 4, 5, 6, 3, 7, 8, 9, 10] rfl (by decide +kernel)
set_option maxRecDepth 20000 in
theorem g_m_throwsOf_m_has_109 : GoodIn w_m_throwsOf (va_wsS RX9 109 yX9_has w_m_has) := goodIn_r _ [5, 6, 3, 7, 8, 9, 3, 10] rfl (by decide +kernel)
set_option maxRecDepth 20000 in
theorem g_m_throwsOf_m_turned_114 : GoodIn w_m_throwsOf (va_wsS RX9 114 yX9_turned w_m_turned) := goodIn_r _ [11, 12, 3, 13, 5, 6, 3, 7, 8, 9, 10] rfl (by decide +kernel)
set_option maxRecDepth 20000 in
theorem g_m_throwsOf_m_isBetween_119 : GoodIn w_m_throwsOf (va_wsS RX9 119 yX9_isBetween w_m_isBetween) := goodIn_r _ [14, 15, 3, 16, 5, 6, 3, 7, 8, 9, 10] rfl (by decide +kernel)
set_option maxRecDepth 20000 in
theorem g_m_throwsOf_m_isInner_116 : GoodIn w_m_throwsOf (va_wsS RX9 116 yX9_isInner w_m_isInner) := goodIn_r _ [17, 18, 3, 19, 5, 6, 3, 7, 8, 9, 10] rfl (by decide +kernel)
set_option maxHeartbeats 4000000 in
set_option maxRecDepth 100000 in
theorem m_throwsOf (l : Launch) (dC : Nat → ClassId) (dI : Nat → Nat → Nat) (ad : Nat → Nat) (a : Int32) (b : Int32) (d : Int32) : Met l yX9_throwsOf w_m_throwsOf ({ frames := 3, cells := 0, slots := 0, locals := 70 } : Room) (va_Pc [.int a, .int b, .int d] (preS dC dI ad [] [])) (vp_Si (fun r => True)) 0 0 (fun _ => False) := by
  refine Met.ofW (cc := cX9_throwsOf) (maxL := 8) (ret := (some .int)) (by decide) rfl ?_
  intro p e s m args below meth c s₁ B hml hv
  obtain ⟨rfl, hP, hK, hev⟩ := hv
  have hx := B.exec
  have hb := B.bytes
  have hr := B.returns
  have hts := atoms_spec (ws := w_m_throwsOf) B.pre
  have hown : s.vm.findClass RX9 = some m.cls := findClass_of_methodNamed B.named
  have hlocks := B.notSynchronized
  have hP : va_P (dC, dI) vwCl [] s.heap := hP
  have hl := lv_entry ([.int a, .int b, .int d]) (n := 8) (Nat.le_of_ble_eq_true rfl)
  rw [lg_entry_eq]
  generalize (lg_sl ([.int a, .int b, .int d]) ++ List.replicate (8 - (lg_sl ([.int a, .int b, .int d])).length) Slot.unset).toArray = ls at hl ⊢
  have hl : lv_has ls 8 [(0, .int a), (1, .int b), (2, .int d)] := hl
  refine lv_iload_n hx hb dX9_throwsOf_0 rfl (lv_at hl 0 rfl) ?_
  refine lv_if_ne (tgt := 8) hx hb dX9_throwsOf_1 (by decide) (fun c_1 => ?_) (fun c_1 => ?_)
  · skip
    have tc_1 : ¬ a.toInt = 0 := fun h => c_1 ((fa_eq _ _).mpr h)
    refine lv_iload_n hx hb dX9_throwsOf_8 rfl (lv_at hl 0 rfl) ?_
    refine lv_iconst (v := 2) hx hb dX9_throwsOf_9 (by decide) ?_
    refine lv_icmp_eq (tgt := 18) hx hb dX9_throwsOf_10 (by decide) (fun c_2 => ?_) (fun c_2 => ?_)
    · skip
      have tc_2 : a.toInt = 2 := (fa_eq _ _).mp c_2
      refine lv_iload_n hx hb dX9_throwsOf_18 rfl (lv_at hl 1 rfl) ?_
      refine lv_iload_n hx hb dX9_throwsOf_19 rfl (lv_at hl 2 rfl) ?_
      have hPc := hP.sub (ws' := []) [] rfl
      have hKc := hK.sub (tys' := []) [] rfl
      refine vp_callSi (W.runS (As := [.int b, .int d]) (rest := []) ⟨hx, hb, hml, hown, hts⟩ (m_mirrored l dC dI ad b d ) (va_cwS 2 hts g_m_throwsOf_m_mirrored_112 rfl rfl rfl (by decide +kernel) ⟨(Nat.le_of_ble_eq_true rfl), (Nat.le_of_ble_eq_true rfl)⟩) ⟨preS_blind, fun U hU hW => ⟨rfl, preS_at hU hW hPc hKc hev⟩⟩ rfl rfl hl.1 rfl (lv_room (Nat.le_of_ble_eq_true rfl)) dX9_throwsOf_20 ⟨(Nat.le_of_ble_eq_true rfl), (Nat.le_of_ble_eq_true rfl)⟩) (fun r_3 hw => ?_)
      refine lv_goto (tgt := 31) hx hb dX9_throwsOf_23 (by decide) ?_
      refine lv_istore_n (lv' := [(3, .int r_3), (0, .int a), (1, .int b), (2, .int d)]) hx hb dX9_throwsOf_31 rfl hl (by decide) rfl (fun ls hl => ?_)
      refine lv_iconst (v := 0) hx hb dX9_throwsOf_32 (by decide) ?_
      refine lv_istore (lv' := [(4, .int 0), (3, .int r_3), (0, .int a), (1, .int b), (2, .int d)]) hx hb dX9_throwsOf_33 hl (by decide) rfl (fun ls hl => ?_)
      refine lv_iconst (v := 0) hx hb dX9_throwsOf_35 (by decide) ?_
      refine lv_istore (lv' := [(5, .int 0), (4, .int 0), (3, .int r_3), (0, .int a), (1, .int b), (2, .int d)]) hx hb dX9_throwsOf_36 hl (by decide) rfl (fun ls hl => ?_)
      refine pp_loop (ι := Int32 × Int32) (fun ⟨v5_38, v4_38⟩ => (4 - v5_38.toInt).toNat) (fun ⟨v5_38, v4_38⟩ H locs ls => (0 ≤ v5_38.toInt) ∧ (v5_38.toInt ≤ 4) ∧ H = s.heap ∧ locs = [] ∧ lv_has ls 8 [(5, .int v5_38), (4, .int v4_38), (3, .int r_3), (0, .int a), (1, .int b), (2, .int d)]) ?_ (0, 0) _ _ _ ⟨(by first | omega | decide | (simp only [fa_lt, fa_le, fa_eq, and_true, true_and, and_false, false_and, not_true_eq_false, not_false_eq_true, li_0, li_1, li_2, li_3, li_4, li_5, li_6, li_7, li_8, li_9, li_10, li_12, li_15, li_16, li_20, li_30, li_34, li_38, li_40, li_63, li_64, li_65, li_78, li_120, li_1000, li_4000, li_10000, li_11077, li_255, li_65535, li_m1, li_m2, li_m1000000001, li_m1000000002, li_m1000000003, li_m1000000004, li_m1000000005, li_m1000000006, li_m1000000007, or_true, true_or, or_false, false_or, implies_true, true_implies, false_implies] <;> omega)), (by first | omega | decide | (simp only [fa_lt, fa_le, fa_eq, and_true, true_and, and_false, false_and, not_true_eq_false, not_false_eq_true, li_0, li_1, li_2, li_3, li_4, li_5, li_6, li_7, li_8, li_9, li_10, li_12, li_15, li_16, li_20, li_30, li_34, li_38, li_40, li_63, li_64, li_65, li_78, li_120, li_1000, li_4000, li_10000, li_11077, li_255, li_65535, li_m1, li_m2, li_m1000000001, li_m1000000002, li_m1000000003, li_m1000000004, li_m1000000005, li_m1000000006, li_m1000000007, or_true, true_or, or_false, false_or, implies_true, true_implies, false_implies] <;> omega)), rfl, rfl, lv_sub hl [0, 1, 2, 3, 4, 5] rfl⟩
      intro k_4 ihk_4 u H locs ls hm hI
      obtain ⟨v5_38, v4_38⟩ := u
      obtain ⟨jk_4_0, jk_4_1, rfl, rfl, hl⟩ := hI
      have hmk_4 : (4 - v5_38.toInt).toNat < k_4 + 1 := hm
      clear hm
      have jk_4_0 : 0 ≤ v5_38.toInt := jk_4_0
      have jk_4_1 : v5_38.toInt ≤ 4 := jk_4_1
      have hl : lv_has ls 8 [(5, .int v5_38), (4, .int v4_38), (3, .int r_3), (0, .int a), (1, .int b), (2, .int d)] := hl
      refine lv_iload hx hb dX9_throwsOf_38 (lv_at hl 0 rfl) ?_
      refine lv_iconst (v := 4) hx hb dX9_throwsOf_40 (by decide) ?_
      refine lv_icmp_ge (tgt := 191) hx hb dX9_throwsOf_41 (by decide) (fun c_5 => ?_) (fun c_5 => ?_)
      · skip
        have tc_5 : 4 ≤ v5_38.toInt := (fa_le _ _).mp c_5
        refine lv_iload hx hb dX9_throwsOf_191 (lv_at hl 1 rfl) ?_
        exact W.iret (v := v4_38) hx hb hr (fun t ht hW => ⟨v4_38, rfl, trivial, ht⟩) (fun _ h => absurd h List.not_mem_nil) dX9_throwsOf_193
      · skip
        have tc_5 : ¬ 4 ≤ v5_38.toInt := fun h => c_5 ((fa_le _ _).mpr h)
        refine lv_iconst (v := 0) hx hb dX9_throwsOf_44 (by decide) ?_
        refine lv_istore (lv' := [(6, .int 0), (5, .int v5_38), (4, .int v4_38), (3, .int r_3), (0, .int a), (1, .int b), (2, .int d)]) hx hb dX9_throwsOf_45 hl (by decide) rfl (fun ls hl => ?_)
        refine pp_loop (ι := Int32 × Int32) (fun ⟨v6_47, v4_47⟩ => (4 - v6_47.toInt).toNat) (fun ⟨v6_47, v4_47⟩ H locs ls => (0 ≤ v6_47.toInt) ∧ (v6_47.toInt ≤ 4) ∧ H = s.heap ∧ locs = [] ∧ lv_has ls 8 [(6, .int v6_47), (5, .int v5_38), (4, .int v4_47), (3, .int r_3), (0, .int a), (1, .int b), (2, .int d)]) ?_ (0, v4_38) _ _ _ ⟨(by first | omega | decide | (simp only [fa_lt, fa_le, fa_eq, and_true, true_and, and_false, false_and, not_true_eq_false, not_false_eq_true, li_0, li_1, li_2, li_3, li_4, li_5, li_6, li_7, li_8, li_9, li_10, li_12, li_15, li_16, li_20, li_30, li_34, li_38, li_40, li_63, li_64, li_65, li_78, li_120, li_1000, li_4000, li_10000, li_11077, li_255, li_65535, li_m1, li_m2, li_m1000000001, li_m1000000002, li_m1000000003, li_m1000000004, li_m1000000005, li_m1000000006, li_m1000000007, or_true, true_or, or_false, false_or, implies_true, true_implies, false_implies] <;> omega)), (by first | omega | decide | (simp only [fa_lt, fa_le, fa_eq, and_true, true_and, and_false, false_and, not_true_eq_false, not_false_eq_true, li_0, li_1, li_2, li_3, li_4, li_5, li_6, li_7, li_8, li_9, li_10, li_12, li_15, li_16, li_20, li_30, li_34, li_38, li_40, li_63, li_64, li_65, li_78, li_120, li_1000, li_4000, li_10000, li_11077, li_255, li_65535, li_m1, li_m2, li_m1000000001, li_m1000000002, li_m1000000003, li_m1000000004, li_m1000000005, li_m1000000006, li_m1000000007, or_true, true_or, or_false, false_or, implies_true, true_implies, false_implies] <;> omega)), rfl, rfl, lv_sub hl [0, 1, 2, 3, 4, 5, 6] rfl⟩
        intro k_6 ihk_6 u H locs ls hm hI
        obtain ⟨v6_47, v4_47⟩ := u
        obtain ⟨jk_6_0, jk_6_1, rfl, rfl, hl⟩ := hI
        have hmk_6 : (4 - v6_47.toInt).toNat < k_6 + 1 := hm
        clear hm
        have jk_6_0 : 0 ≤ v6_47.toInt := jk_6_0
        have jk_6_1 : v6_47.toInt ≤ 4 := jk_6_1
        have hl : lv_has ls 8 [(6, .int v6_47), (5, .int v5_38), (4, .int v4_47), (3, .int r_3), (0, .int a), (1, .int b), (2, .int d)] := hl
        refine lv_iload hx hb dX9_throwsOf_47 (lv_at hl 0 rfl) ?_
        refine lv_iconst (v := 4) hx hb dX9_throwsOf_49 (by decide) ?_
        refine lv_icmp_ge (tgt := 185) hx hb dX9_throwsOf_50 (by decide) (fun c_7 => ?_) (fun c_7 => ?_)
        · skip
          have tc_7 : 4 ≤ v6_47.toInt := (fa_le _ _).mp c_7
          obtain ⟨n_8, en_8⟩ : ∃ y : Int32, y = v5_38 + 1 := ⟨_, rfl⟩
          have tn_8 : n_8.toInt = v5_38.toInt + 1 := pp_add en_8 rfl rfl (by omega) (by omega)
          refine lv_iinc (v := n_8) (lv' := [(5, .int n_8), (6, .int v6_47), (4, .int v4_47), (3, .int r_3), (0, .int a), (1, .int b), (2, .int d)]) hx hb dX9_throwsOf_185 hl (k := 1) rfl (by rw [en_8]; rfl) (by decide) rfl (fun ls hl => ?_)
          clear en_8
          refine lv_goto (tgt := 38) hx hb dX9_throwsOf_188 (by decide) ?_
          exact ihk_4 (n_8, v4_47) _ _ _ (by show (4 - n_8.toInt).toNat < k_4; omega) ⟨(by first | omega | decide | (simp only [fa_lt, fa_le, fa_eq, and_true, true_and, and_false, false_and, not_true_eq_false, not_false_eq_true, li_0, li_1, li_2, li_3, li_4, li_5, li_6, li_7, li_8, li_9, li_10, li_12, li_15, li_16, li_20, li_30, li_34, li_38, li_40, li_63, li_64, li_65, li_78, li_120, li_1000, li_4000, li_10000, li_11077, li_255, li_65535, li_m1, li_m2, li_m1000000001, li_m1000000002, li_m1000000003, li_m1000000004, li_m1000000005, li_m1000000006, li_m1000000007, or_true, true_or, or_false, false_or, implies_true, true_implies, false_implies] <;> omega)), (by first | omega | decide | (simp only [fa_lt, fa_le, fa_eq, and_true, true_and, and_false, false_and, not_true_eq_false, not_false_eq_true, li_0, li_1, li_2, li_3, li_4, li_5, li_6, li_7, li_8, li_9, li_10, li_12, li_15, li_16, li_20, li_30, li_34, li_38, li_40, li_63, li_64, li_65, li_78, li_120, li_1000, li_4000, li_10000, li_11077, li_255, li_65535, li_m1, li_m2, li_m1000000001, li_m1000000002, li_m1000000003, li_m1000000004, li_m1000000005, li_m1000000006, li_m1000000007, or_true, true_or, or_false, false_or, implies_true, true_implies, false_implies] <;> omega)), rfl, rfl, lv_sub hl [0, 2, 3, 4, 5, 6] rfl⟩
        · skip
          have tc_7 : ¬ 4 ≤ v6_47.toInt := fun h => c_7 ((fa_le _ _).mpr h)
          refine lv_iload_n hx hb dX9_throwsOf_53 rfl (lv_at hl 3 rfl) ?_
          refine lv_iload hx hb dX9_throwsOf_54 (lv_at hl 1 rfl) ?_
          refine lv_iload hx hb dX9_throwsOf_56 (lv_at hl 0 rfl) ?_
          have hPc := hP.sub (ws' := []) [] rfl
          have hKc := hK.sub (tys' := []) [] rfl
          refine vp_callSi (W.runS (As := [.int r_3, .int v5_38, .int v6_47]) (rest := []) ⟨hx, hb, hml, hown, hts⟩ (m_has l dC dI ad r_3 v5_38 v6_47 ) (va_cwS 3 hts g_m_throwsOf_m_has_109 rfl rfl rfl (by decide +kernel) ⟨(Nat.le_of_ble_eq_true rfl), (Nat.le_of_ble_eq_true rfl)⟩) ⟨preS_blind, fun U hU hW => ⟨rfl, preS_at hU hW hPc hKc hev⟩⟩ rfl rfl hl.1 rfl (lv_room (Nat.le_of_ble_eq_true rfl)) dX9_throwsOf_58 ⟨(Nat.le_of_ble_eq_true rfl), (Nat.le_of_ble_eq_true rfl)⟩) (fun r_9 hw => ?_)
          refine lv_istore (lv' := [(7, .int r_9), (6, .int v6_47), (5, .int v5_38), (4, .int v4_47), (3, .int r_3), (0, .int a), (1, .int b), (2, .int d)]) hx hb dX9_throwsOf_61 hl (by decide) rfl (fun ls hl => ?_)
          refine lv_iload_n hx hb dX9_throwsOf_63 rfl (lv_at hl 5 rfl) ?_
          refine lv_iconst (v := 3) hx hb dX9_throwsOf_64 (by decide) ?_
          refine lv_icmp_ne (tgt := 92) hx hb dX9_throwsOf_65 (by decide) (fun c_10 => ?_) (fun c_10 => ?_)
          · skip
            have tc_10 : ¬ a.toInt = 3 := fun h => c_10 ((fa_eq _ _).mpr h)
            refine lv_iload_n hx hb dX9_throwsOf_92 rfl (lv_at hl 5 rfl) ?_
            refine lv_iconst (v := 4) hx hb dX9_throwsOf_93 (by decide) ?_
            refine lv_icmp_ne (tgt := 123) hx hb dX9_throwsOf_94 (by decide) (fun c_11 => ?_) (fun c_11 => ?_)
            · skip
              have tc_11 : ¬ a.toInt = 4 := fun h => c_11 ((fa_eq _ _).mpr h)
              refine lv_iload_n hx hb dX9_throwsOf_123 rfl (lv_at hl 5 rfl) ?_
              refine lv_iconst (v := 5) hx hb dX9_throwsOf_124 (by decide) ?_
              refine lv_icmp_ne (tgt := 152) hx hb dX9_throwsOf_125 (by decide) (fun c_12 => ?_) (fun c_12 => ?_)
              · skip
                have tc_12 : ¬ a.toInt = 5 := fun h => c_12 ((fa_eq _ _).mpr h)
                refine lv_iload hx hb dX9_throwsOf_152 (lv_at hl 0 rfl) ?_
                refine lv_istore (lv' := [(7, .int r_9), (6, .int v6_47), (5, .int v5_38), (4, .int v4_47), (3, .int r_3), (0, .int a), (1, .int b), (2, .int d)]) hx hb dX9_throwsOf_154 hl (by decide) rfl (fun ls hl => ?_)
                refine lv_iload hx hb dX9_throwsOf_156 (lv_at hl 3 rfl) ?_
                refine lv_iload hx hb dX9_throwsOf_158 (lv_at hl 0 rfl) ?_
                refine lv_if_eq (tgt := 175) hx hb dX9_throwsOf_160 (by decide) (fun c_13 => ?_) (fun c_13 => ?_)
                · skip
                  have tc_13 : r_9.toInt = 0 := (fa_eq _ _).mp c_13
                  refine lv_iconst (v := 0) hx hb dX9_throwsOf_175 (by decide) ?_
                  refine lv_ior hx hb dX9_throwsOf_176 ?_
                  refine lv_topi (fun n_14 en_14 => ?_)
                  clear en_14
                  refine lv_istore (lv' := [(4, .int n_14), (7, .int r_9), (6, .int v6_47), (5, .int v5_38), (3, .int r_3), (0, .int a), (1, .int b), (2, .int d)]) hx hb dX9_throwsOf_177 hl (by decide) rfl (fun ls hl => ?_)
                  obtain ⟨n_15, en_15⟩ : ∃ y : Int32, y = v6_47 + 1 := ⟨_, rfl⟩
                  have tn_15 : n_15.toInt = v6_47.toInt + 1 := pp_add en_15 rfl rfl (by omega) (by omega)
                  refine lv_iinc (v := n_15) (lv' := [(6, .int n_15), (4, .int n_14), (7, .int r_9), (5, .int v5_38), (3, .int r_3), (0, .int a), (1, .int b), (2, .int d)]) hx hb dX9_throwsOf_179 hl (k := 2) rfl (by rw [en_15]; rfl) (by decide) rfl (fun ls hl => ?_)
                  clear en_15
                  refine lv_goto (tgt := 47) hx hb dX9_throwsOf_182 (by decide) ?_
                  exact ihk_6 (n_15, n_14) _ _ _ (by show (4 - n_15.toInt).toNat < k_6; omega) ⟨(by first | omega | decide | (simp only [fa_lt, fa_le, fa_eq, and_true, true_and, and_false, false_and, not_true_eq_false, not_false_eq_true, li_0, li_1, li_2, li_3, li_4, li_5, li_6, li_7, li_8, li_9, li_10, li_12, li_15, li_16, li_20, li_30, li_34, li_38, li_40, li_63, li_64, li_65, li_78, li_120, li_1000, li_4000, li_10000, li_11077, li_255, li_65535, li_m1, li_m2, li_m1000000001, li_m1000000002, li_m1000000003, li_m1000000004, li_m1000000005, li_m1000000006, li_m1000000007, or_true, true_or, or_false, false_or, implies_true, true_implies, false_implies] <;> omega)), (by first | omega | decide | (simp only [fa_lt, fa_le, fa_eq, and_true, true_and, and_false, false_and, not_true_eq_false, not_false_eq_true, li_0, li_1, li_2, li_3, li_4, li_5, li_6, li_7, li_8, li_9, li_10, li_12, li_15, li_16, li_20, li_30, li_34, li_38, li_40, li_63, li_64, li_65, li_78, li_120, li_1000, li_4000, li_10000, li_11077, li_255, li_65535, li_m1, li_m2, li_m1000000001, li_m1000000002, li_m1000000003, li_m1000000004, li_m1000000005, li_m1000000006, li_m1000000007, or_true, true_or, or_false, false_or, implies_true, true_implies, false_implies] <;> omega)), rfl, rfl, lv_sub hl [0, 3, 1, 4, 5, 6, 7] rfl⟩
                · skip
                  have tc_13 : ¬ r_9.toInt = 0 := fun h => c_13 ((fa_eq _ _).mpr h)
                  refine lv_iconst (v := 1) hx hb dX9_throwsOf_163 (by decide) ?_
                  refine lv_iconst (v := 4) hx hb dX9_throwsOf_164 (by decide) ?_
                  refine lv_iload hx hb dX9_throwsOf_165 (lv_at hl 2 rfl) ?_
                  refine lv_imul hx hb dX9_throwsOf_167 ?_
                  refine lv_topi (fun n_16 en_16 => ?_)
                  have tn_16 : n_16.toInt = 4 * v5_38.toInt := pp_mul en_16 rfl rfl (by omega) (by omega)
                  clear en_16
                  refine lv_iload hx hb dX9_throwsOf_168 (lv_at hl 1 rfl) ?_
                  refine lv_iadd hx hb dX9_throwsOf_170 ?_
                  refine lv_topi (fun n_17 en_17 => ?_)
                  have tn_17 : n_17.toInt = n_16.toInt + v6_47.toInt := pp_add en_17 rfl rfl (by omega) (by omega)
                  clear en_17
                  refine lv_ishl hx hb dX9_throwsOf_171 ?_
                  refine lv_topi (fun n_18 en_18 => ?_)
                  clear en_18
                  refine lv_goto (tgt := 176) hx hb dX9_throwsOf_172 (by decide) ?_
                  refine lv_ior hx hb dX9_throwsOf_176 ?_
                  refine lv_topi (fun n_19 en_19 => ?_)
                  clear en_19
                  refine lv_istore (lv' := [(4, .int n_19), (7, .int r_9), (6, .int v6_47), (5, .int v5_38), (3, .int r_3), (0, .int a), (1, .int b), (2, .int d)]) hx hb dX9_throwsOf_177 hl (by decide) rfl (fun ls hl => ?_)
                  obtain ⟨n_20, en_20⟩ : ∃ y : Int32, y = v6_47 + 1 := ⟨_, rfl⟩
                  have tn_20 : n_20.toInt = v6_47.toInt + 1 := pp_add en_20 rfl rfl (by omega) (by omega)
                  refine lv_iinc (v := n_20) (lv' := [(6, .int n_20), (4, .int n_19), (7, .int r_9), (5, .int v5_38), (3, .int r_3), (0, .int a), (1, .int b), (2, .int d)]) hx hb dX9_throwsOf_179 hl (k := 2) rfl (by rw [en_20]; rfl) (by decide) rfl (fun ls hl => ?_)
                  clear en_20
                  refine lv_goto (tgt := 47) hx hb dX9_throwsOf_182 (by decide) ?_
                  exact ihk_6 (n_20, n_19) _ _ _ (by show (4 - n_20.toInt).toNat < k_6; omega) ⟨(by first | omega | decide | (simp only [fa_lt, fa_le, fa_eq, and_true, true_and, and_false, false_and, not_true_eq_false, not_false_eq_true, li_0, li_1, li_2, li_3, li_4, li_5, li_6, li_7, li_8, li_9, li_10, li_12, li_15, li_16, li_20, li_30, li_34, li_38, li_40, li_63, li_64, li_65, li_78, li_120, li_1000, li_4000, li_10000, li_11077, li_255, li_65535, li_m1, li_m2, li_m1000000001, li_m1000000002, li_m1000000003, li_m1000000004, li_m1000000005, li_m1000000006, li_m1000000007, or_true, true_or, or_false, false_or, implies_true, true_implies, false_implies] <;> omega)), (by first | omega | decide | (simp only [fa_lt, fa_le, fa_eq, and_true, true_and, and_false, false_and, not_true_eq_false, not_false_eq_true, li_0, li_1, li_2, li_3, li_4, li_5, li_6, li_7, li_8, li_9, li_10, li_12, li_15, li_16, li_20, li_30, li_34, li_38, li_40, li_63, li_64, li_65, li_78, li_120, li_1000, li_4000, li_10000, li_11077, li_255, li_65535, li_m1, li_m2, li_m1000000001, li_m1000000002, li_m1000000003, li_m1000000004, li_m1000000005, li_m1000000006, li_m1000000007, or_true, true_or, or_false, false_or, implies_true, true_implies, false_implies] <;> omega)), rfl, rfl, lv_sub hl [0, 3, 1, 4, 5, 6, 7] rfl⟩
              · skip
                have tc_12 : a.toInt = 5 := (fa_eq _ _).mp c_12
                exfalso; omega
            · skip
              have tc_11 : a.toInt = 4 := (fa_eq _ _).mp c_11
              exfalso; omega
          · skip
            have tc_10 : a.toInt = 3 := (fa_eq _ _).mp c_10
            exfalso; omega
    · skip
      have tc_2 : ¬ a.toInt = 2 := fun h => c_2 ((fa_eq _ _).mpr h)
      refine lv_iload_n hx hb dX9_throwsOf_13 rfl (lv_at hl 0 rfl) ?_
      refine lv_iconst (v := 4) hx hb dX9_throwsOf_14 (by decide) ?_
      refine lv_icmp_ne (tgt := 26) hx hb dX9_throwsOf_15 (by decide) (fun c_21 => ?_) (fun c_21 => ?_)
      · skip
        have tc_21 : ¬ a.toInt = 4 := fun h => c_21 ((fa_eq _ _).mpr h)
        refine lv_iload_n hx hb dX9_throwsOf_26 rfl (lv_at hl 1 rfl) ?_
        refine lv_iload_n hx hb dX9_throwsOf_27 rfl (lv_at hl 2 rfl) ?_
        have hPc := hP.sub (ws' := []) [] rfl
        have hKc := hK.sub (tys' := []) [] rfl
        refine vp_callSi (W.runS (As := [.int b, .int d]) (rest := []) ⟨hx, hb, hml, hown, hts⟩ (m_turned l dC dI ad b d ) (va_cwS 2 hts g_m_throwsOf_m_turned_114 rfl rfl rfl (by decide +kernel) ⟨(Nat.le_of_ble_eq_true rfl), (Nat.le_of_ble_eq_true rfl)⟩) ⟨preS_blind, fun U hU hW => ⟨rfl, preS_at hU hW hPc hKc hev⟩⟩ rfl rfl hl.1 rfl (lv_room (Nat.le_of_ble_eq_true rfl)) dX9_throwsOf_28 ⟨(Nat.le_of_ble_eq_true rfl), (Nat.le_of_ble_eq_true rfl)⟩) (fun r_22 hw => ?_)
        refine lv_istore_n (lv' := [(3, .int r_22), (0, .int a), (1, .int b), (2, .int d)]) hx hb dX9_throwsOf_31 rfl hl (by decide) rfl (fun ls hl => ?_)
        refine lv_iconst (v := 0) hx hb dX9_throwsOf_32 (by decide) ?_
        refine lv_istore (lv' := [(4, .int 0), (3, .int r_22), (0, .int a), (1, .int b), (2, .int d)]) hx hb dX9_throwsOf_33 hl (by decide) rfl (fun ls hl => ?_)
        refine lv_iconst (v := 0) hx hb dX9_throwsOf_35 (by decide) ?_
        refine lv_istore (lv' := [(5, .int 0), (4, .int 0), (3, .int r_22), (0, .int a), (1, .int b), (2, .int d)]) hx hb dX9_throwsOf_36 hl (by decide) rfl (fun ls hl => ?_)
        refine pp_loop (ι := Int32 × Int32) (fun ⟨v5_38, v4_38⟩ => (4 - v5_38.toInt).toNat) (fun ⟨v5_38, v4_38⟩ H locs ls => (0 ≤ v5_38.toInt) ∧ (v5_38.toInt ≤ 4) ∧ H = s.heap ∧ locs = [] ∧ lv_has ls 8 [(5, .int v5_38), (4, .int v4_38), (3, .int r_22), (0, .int a), (1, .int b), (2, .int d)]) ?_ (0, 0) _ _ _ ⟨(by first | omega | decide | (simp only [fa_lt, fa_le, fa_eq, and_true, true_and, and_false, false_and, not_true_eq_false, not_false_eq_true, li_0, li_1, li_2, li_3, li_4, li_5, li_6, li_7, li_8, li_9, li_10, li_12, li_15, li_16, li_20, li_30, li_34, li_38, li_40, li_63, li_64, li_65, li_78, li_120, li_1000, li_4000, li_10000, li_11077, li_255, li_65535, li_m1, li_m2, li_m1000000001, li_m1000000002, li_m1000000003, li_m1000000004, li_m1000000005, li_m1000000006, li_m1000000007, or_true, true_or, or_false, false_or, implies_true, true_implies, false_implies] <;> omega)), (by first | omega | decide | (simp only [fa_lt, fa_le, fa_eq, and_true, true_and, and_false, false_and, not_true_eq_false, not_false_eq_true, li_0, li_1, li_2, li_3, li_4, li_5, li_6, li_7, li_8, li_9, li_10, li_12, li_15, li_16, li_20, li_30, li_34, li_38, li_40, li_63, li_64, li_65, li_78, li_120, li_1000, li_4000, li_10000, li_11077, li_255, li_65535, li_m1, li_m2, li_m1000000001, li_m1000000002, li_m1000000003, li_m1000000004, li_m1000000005, li_m1000000006, li_m1000000007, or_true, true_or, or_false, false_or, implies_true, true_implies, false_implies] <;> omega)), rfl, rfl, lv_sub hl [0, 1, 2, 3, 4, 5] rfl⟩
        intro k_23 ihk_23 u H locs ls hm hI
        obtain ⟨v5_38, v4_38⟩ := u
        obtain ⟨jk_23_0, jk_23_1, rfl, rfl, hl⟩ := hI
        have hmk_23 : (4 - v5_38.toInt).toNat < k_23 + 1 := hm
        clear hm
        have jk_23_0 : 0 ≤ v5_38.toInt := jk_23_0
        have jk_23_1 : v5_38.toInt ≤ 4 := jk_23_1
        have hl : lv_has ls 8 [(5, .int v5_38), (4, .int v4_38), (3, .int r_22), (0, .int a), (1, .int b), (2, .int d)] := hl
        refine lv_iload hx hb dX9_throwsOf_38 (lv_at hl 0 rfl) ?_
        refine lv_iconst (v := 4) hx hb dX9_throwsOf_40 (by decide) ?_
        refine lv_icmp_ge (tgt := 191) hx hb dX9_throwsOf_41 (by decide) (fun c_24 => ?_) (fun c_24 => ?_)
        · skip
          have tc_24 : 4 ≤ v5_38.toInt := (fa_le _ _).mp c_24
          refine lv_iload hx hb dX9_throwsOf_191 (lv_at hl 1 rfl) ?_
          exact W.iret (v := v4_38) hx hb hr (fun t ht hW => ⟨v4_38, rfl, trivial, ht⟩) (fun _ h => absurd h List.not_mem_nil) dX9_throwsOf_193
        · skip
          have tc_24 : ¬ 4 ≤ v5_38.toInt := fun h => c_24 ((fa_le _ _).mpr h)
          refine lv_iconst (v := 0) hx hb dX9_throwsOf_44 (by decide) ?_
          refine lv_istore (lv' := [(6, .int 0), (5, .int v5_38), (4, .int v4_38), (3, .int r_22), (0, .int a), (1, .int b), (2, .int d)]) hx hb dX9_throwsOf_45 hl (by decide) rfl (fun ls hl => ?_)
          refine pp_loop (ι := Int32 × Int32) (fun ⟨v6_47, v4_47⟩ => (4 - v6_47.toInt).toNat) (fun ⟨v6_47, v4_47⟩ H locs ls => (0 ≤ v6_47.toInt) ∧ (v6_47.toInt ≤ 4) ∧ H = s.heap ∧ locs = [] ∧ lv_has ls 8 [(6, .int v6_47), (5, .int v5_38), (4, .int v4_47), (3, .int r_22), (0, .int a), (1, .int b), (2, .int d)]) ?_ (0, v4_38) _ _ _ ⟨(by first | omega | decide | (simp only [fa_lt, fa_le, fa_eq, and_true, true_and, and_false, false_and, not_true_eq_false, not_false_eq_true, li_0, li_1, li_2, li_3, li_4, li_5, li_6, li_7, li_8, li_9, li_10, li_12, li_15, li_16, li_20, li_30, li_34, li_38, li_40, li_63, li_64, li_65, li_78, li_120, li_1000, li_4000, li_10000, li_11077, li_255, li_65535, li_m1, li_m2, li_m1000000001, li_m1000000002, li_m1000000003, li_m1000000004, li_m1000000005, li_m1000000006, li_m1000000007, or_true, true_or, or_false, false_or, implies_true, true_implies, false_implies] <;> omega)), (by first | omega | decide | (simp only [fa_lt, fa_le, fa_eq, and_true, true_and, and_false, false_and, not_true_eq_false, not_false_eq_true, li_0, li_1, li_2, li_3, li_4, li_5, li_6, li_7, li_8, li_9, li_10, li_12, li_15, li_16, li_20, li_30, li_34, li_38, li_40, li_63, li_64, li_65, li_78, li_120, li_1000, li_4000, li_10000, li_11077, li_255, li_65535, li_m1, li_m2, li_m1000000001, li_m1000000002, li_m1000000003, li_m1000000004, li_m1000000005, li_m1000000006, li_m1000000007, or_true, true_or, or_false, false_or, implies_true, true_implies, false_implies] <;> omega)), rfl, rfl, lv_sub hl [0, 1, 2, 3, 4, 5, 6] rfl⟩
          intro k_25 ihk_25 u H locs ls hm hI
          obtain ⟨v6_47, v4_47⟩ := u
          obtain ⟨jk_25_0, jk_25_1, rfl, rfl, hl⟩ := hI
          have hmk_25 : (4 - v6_47.toInt).toNat < k_25 + 1 := hm
          clear hm
          have jk_25_0 : 0 ≤ v6_47.toInt := jk_25_0
          have jk_25_1 : v6_47.toInt ≤ 4 := jk_25_1
          have hl : lv_has ls 8 [(6, .int v6_47), (5, .int v5_38), (4, .int v4_47), (3, .int r_22), (0, .int a), (1, .int b), (2, .int d)] := hl
          refine lv_iload hx hb dX9_throwsOf_47 (lv_at hl 0 rfl) ?_
          refine lv_iconst (v := 4) hx hb dX9_throwsOf_49 (by decide) ?_
          refine lv_icmp_ge (tgt := 185) hx hb dX9_throwsOf_50 (by decide) (fun c_26 => ?_) (fun c_26 => ?_)
          · skip
            have tc_26 : 4 ≤ v6_47.toInt := (fa_le _ _).mp c_26
            obtain ⟨n_27, en_27⟩ : ∃ y : Int32, y = v5_38 + 1 := ⟨_, rfl⟩
            have tn_27 : n_27.toInt = v5_38.toInt + 1 := pp_add en_27 rfl rfl (by omega) (by omega)
            refine lv_iinc (v := n_27) (lv' := [(5, .int n_27), (6, .int v6_47), (4, .int v4_47), (3, .int r_22), (0, .int a), (1, .int b), (2, .int d)]) hx hb dX9_throwsOf_185 hl (k := 1) rfl (by rw [en_27]; rfl) (by decide) rfl (fun ls hl => ?_)
            clear en_27
            refine lv_goto (tgt := 38) hx hb dX9_throwsOf_188 (by decide) ?_
            exact ihk_23 (n_27, v4_47) _ _ _ (by show (4 - n_27.toInt).toNat < k_23; omega) ⟨(by first | omega | decide | (simp only [fa_lt, fa_le, fa_eq, and_true, true_and, and_false, false_and, not_true_eq_false, not_false_eq_true, li_0, li_1, li_2, li_3, li_4, li_5, li_6, li_7, li_8, li_9, li_10, li_12, li_15, li_16, li_20, li_30, li_34, li_38, li_40, li_63, li_64, li_65, li_78, li_120, li_1000, li_4000, li_10000, li_11077, li_255, li_65535, li_m1, li_m2, li_m1000000001, li_m1000000002, li_m1000000003, li_m1000000004, li_m1000000005, li_m1000000006, li_m1000000007, or_true, true_or, or_false, false_or, implies_true, true_implies, false_implies] <;> omega)), (by first | omega | decide | (simp only [fa_lt, fa_le, fa_eq, and_true, true_and, and_false, false_and, not_true_eq_false, not_false_eq_true, li_0, li_1, li_2, li_3, li_4, li_5, li_6, li_7, li_8, li_9, li_10, li_12, li_15, li_16, li_20, li_30, li_34, li_38, li_40, li_63, li_64, li_65, li_78, li_120, li_1000, li_4000, li_10000, li_11077, li_255, li_65535, li_m1, li_m2, li_m1000000001, li_m1000000002, li_m1000000003, li_m1000000004, li_m1000000005, li_m1000000006, li_m1000000007, or_true, true_or, or_false, false_or, implies_true, true_implies, false_implies] <;> omega)), rfl, rfl, lv_sub hl [0, 2, 3, 4, 5, 6] rfl⟩
          · skip
            have tc_26 : ¬ 4 ≤ v6_47.toInt := fun h => c_26 ((fa_le _ _).mpr h)
            refine lv_iload_n hx hb dX9_throwsOf_53 rfl (lv_at hl 3 rfl) ?_
            refine lv_iload hx hb dX9_throwsOf_54 (lv_at hl 1 rfl) ?_
            refine lv_iload hx hb dX9_throwsOf_56 (lv_at hl 0 rfl) ?_
            have hPc := hP.sub (ws' := []) [] rfl
            have hKc := hK.sub (tys' := []) [] rfl
            refine vp_callSi (W.runS (As := [.int r_22, .int v5_38, .int v6_47]) (rest := []) ⟨hx, hb, hml, hown, hts⟩ (m_has l dC dI ad r_22 v5_38 v6_47 ) (va_cwS 3 hts g_m_throwsOf_m_has_109 rfl rfl rfl (by decide +kernel) ⟨(Nat.le_of_ble_eq_true rfl), (Nat.le_of_ble_eq_true rfl)⟩) ⟨preS_blind, fun U hU hW => ⟨rfl, preS_at hU hW hPc hKc hev⟩⟩ rfl rfl hl.1 rfl (lv_room (Nat.le_of_ble_eq_true rfl)) dX9_throwsOf_58 ⟨(Nat.le_of_ble_eq_true rfl), (Nat.le_of_ble_eq_true rfl)⟩) (fun r_28 hw => ?_)
            refine lv_istore (lv' := [(7, .int r_28), (6, .int v6_47), (5, .int v5_38), (4, .int v4_47), (3, .int r_22), (0, .int a), (1, .int b), (2, .int d)]) hx hb dX9_throwsOf_61 hl (by decide) rfl (fun ls hl => ?_)
            refine lv_iload_n hx hb dX9_throwsOf_63 rfl (lv_at hl 5 rfl) ?_
            refine lv_iconst (v := 3) hx hb dX9_throwsOf_64 (by decide) ?_
            refine lv_icmp_ne (tgt := 92) hx hb dX9_throwsOf_65 (by decide) (fun c_29 => ?_) (fun c_29 => ?_)
            · skip
              have tc_29 : ¬ a.toInt = 3 := fun h => c_29 ((fa_eq _ _).mpr h)
              refine lv_iload_n hx hb dX9_throwsOf_92 rfl (lv_at hl 5 rfl) ?_
              refine lv_iconst (v := 4) hx hb dX9_throwsOf_93 (by decide) ?_
              refine lv_icmp_ne (tgt := 123) hx hb dX9_throwsOf_94 (by decide) (fun c_30 => ?_) (fun c_30 => ?_)
              · skip
                have tc_30 : ¬ a.toInt = 4 := fun h => c_30 ((fa_eq _ _).mpr h)
                refine lv_iload_n hx hb dX9_throwsOf_123 rfl (lv_at hl 5 rfl) ?_
                refine lv_iconst (v := 5) hx hb dX9_throwsOf_124 (by decide) ?_
                refine lv_icmp_ne (tgt := 152) hx hb dX9_throwsOf_125 (by decide) (fun c_31 => ?_) (fun c_31 => ?_)
                · skip
                  have tc_31 : ¬ a.toInt = 5 := fun h => c_31 ((fa_eq _ _).mpr h)
                  refine lv_iload hx hb dX9_throwsOf_152 (lv_at hl 0 rfl) ?_
                  refine lv_istore (lv' := [(7, .int r_28), (6, .int v6_47), (5, .int v5_38), (4, .int v4_47), (3, .int r_22), (0, .int a), (1, .int b), (2, .int d)]) hx hb dX9_throwsOf_154 hl (by decide) rfl (fun ls hl => ?_)
                  refine lv_iload hx hb dX9_throwsOf_156 (lv_at hl 3 rfl) ?_
                  refine lv_iload hx hb dX9_throwsOf_158 (lv_at hl 0 rfl) ?_
                  refine lv_if_eq (tgt := 175) hx hb dX9_throwsOf_160 (by decide) (fun c_32 => ?_) (fun c_32 => ?_)
                  · skip
                    have tc_32 : r_28.toInt = 0 := (fa_eq _ _).mp c_32
                    refine lv_iconst (v := 0) hx hb dX9_throwsOf_175 (by decide) ?_
                    refine lv_ior hx hb dX9_throwsOf_176 ?_
                    refine lv_topi (fun n_33 en_33 => ?_)
                    clear en_33
                    refine lv_istore (lv' := [(4, .int n_33), (7, .int r_28), (6, .int v6_47), (5, .int v5_38), (3, .int r_22), (0, .int a), (1, .int b), (2, .int d)]) hx hb dX9_throwsOf_177 hl (by decide) rfl (fun ls hl => ?_)
                    obtain ⟨n_34, en_34⟩ : ∃ y : Int32, y = v6_47 + 1 := ⟨_, rfl⟩
                    have tn_34 : n_34.toInt = v6_47.toInt + 1 := pp_add en_34 rfl rfl (by omega) (by omega)
                    refine lv_iinc (v := n_34) (lv' := [(6, .int n_34), (4, .int n_33), (7, .int r_28), (5, .int v5_38), (3, .int r_22), (0, .int a), (1, .int b), (2, .int d)]) hx hb dX9_throwsOf_179 hl (k := 2) rfl (by rw [en_34]; rfl) (by decide) rfl (fun ls hl => ?_)
                    clear en_34
                    refine lv_goto (tgt := 47) hx hb dX9_throwsOf_182 (by decide) ?_
                    exact ihk_25 (n_34, n_33) _ _ _ (by show (4 - n_34.toInt).toNat < k_25; omega) ⟨(by first | omega | decide | (simp only [fa_lt, fa_le, fa_eq, and_true, true_and, and_false, false_and, not_true_eq_false, not_false_eq_true, li_0, li_1, li_2, li_3, li_4, li_5, li_6, li_7, li_8, li_9, li_10, li_12, li_15, li_16, li_20, li_30, li_34, li_38, li_40, li_63, li_64, li_65, li_78, li_120, li_1000, li_4000, li_10000, li_11077, li_255, li_65535, li_m1, li_m2, li_m1000000001, li_m1000000002, li_m1000000003, li_m1000000004, li_m1000000005, li_m1000000006, li_m1000000007, or_true, true_or, or_false, false_or, implies_true, true_implies, false_implies] <;> omega)), (by first | omega | decide | (simp only [fa_lt, fa_le, fa_eq, and_true, true_and, and_false, false_and, not_true_eq_false, not_false_eq_true, li_0, li_1, li_2, li_3, li_4, li_5, li_6, li_7, li_8, li_9, li_10, li_12, li_15, li_16, li_20, li_30, li_34, li_38, li_40, li_63, li_64, li_65, li_78, li_120, li_1000, li_4000, li_10000, li_11077, li_255, li_65535, li_m1, li_m2, li_m1000000001, li_m1000000002, li_m1000000003, li_m1000000004, li_m1000000005, li_m1000000006, li_m1000000007, or_true, true_or, or_false, false_or, implies_true, true_implies, false_implies] <;> omega)), rfl, rfl, lv_sub hl [0, 3, 1, 4, 5, 6, 7] rfl⟩
                  · skip
                    have tc_32 : ¬ r_28.toInt = 0 := fun h => c_32 ((fa_eq _ _).mpr h)
                    refine lv_iconst (v := 1) hx hb dX9_throwsOf_163 (by decide) ?_
                    refine lv_iconst (v := 4) hx hb dX9_throwsOf_164 (by decide) ?_
                    refine lv_iload hx hb dX9_throwsOf_165 (lv_at hl 2 rfl) ?_
                    refine lv_imul hx hb dX9_throwsOf_167 ?_
                    refine lv_topi (fun n_35 en_35 => ?_)
                    have tn_35 : n_35.toInt = 4 * v5_38.toInt := pp_mul en_35 rfl rfl (by omega) (by omega)
                    clear en_35
                    refine lv_iload hx hb dX9_throwsOf_168 (lv_at hl 1 rfl) ?_
                    refine lv_iadd hx hb dX9_throwsOf_170 ?_
                    refine lv_topi (fun n_36 en_36 => ?_)
                    have tn_36 : n_36.toInt = n_35.toInt + v6_47.toInt := pp_add en_36 rfl rfl (by omega) (by omega)
                    clear en_36
                    refine lv_ishl hx hb dX9_throwsOf_171 ?_
                    refine lv_topi (fun n_37 en_37 => ?_)
                    clear en_37
                    refine lv_goto (tgt := 176) hx hb dX9_throwsOf_172 (by decide) ?_
                    refine lv_ior hx hb dX9_throwsOf_176 ?_
                    refine lv_topi (fun n_38 en_38 => ?_)
                    clear en_38
                    refine lv_istore (lv' := [(4, .int n_38), (7, .int r_28), (6, .int v6_47), (5, .int v5_38), (3, .int r_22), (0, .int a), (1, .int b), (2, .int d)]) hx hb dX9_throwsOf_177 hl (by decide) rfl (fun ls hl => ?_)
                    obtain ⟨n_39, en_39⟩ : ∃ y : Int32, y = v6_47 + 1 := ⟨_, rfl⟩
                    have tn_39 : n_39.toInt = v6_47.toInt + 1 := pp_add en_39 rfl rfl (by omega) (by omega)
                    refine lv_iinc (v := n_39) (lv' := [(6, .int n_39), (4, .int n_38), (7, .int r_28), (5, .int v5_38), (3, .int r_22), (0, .int a), (1, .int b), (2, .int d)]) hx hb dX9_throwsOf_179 hl (k := 2) rfl (by rw [en_39]; rfl) (by decide) rfl (fun ls hl => ?_)
                    clear en_39
                    refine lv_goto (tgt := 47) hx hb dX9_throwsOf_182 (by decide) ?_
                    exact ihk_25 (n_39, n_38) _ _ _ (by show (4 - n_39.toInt).toNat < k_25; omega) ⟨(by first | omega | decide | (simp only [fa_lt, fa_le, fa_eq, and_true, true_and, and_false, false_and, not_true_eq_false, not_false_eq_true, li_0, li_1, li_2, li_3, li_4, li_5, li_6, li_7, li_8, li_9, li_10, li_12, li_15, li_16, li_20, li_30, li_34, li_38, li_40, li_63, li_64, li_65, li_78, li_120, li_1000, li_4000, li_10000, li_11077, li_255, li_65535, li_m1, li_m2, li_m1000000001, li_m1000000002, li_m1000000003, li_m1000000004, li_m1000000005, li_m1000000006, li_m1000000007, or_true, true_or, or_false, false_or, implies_true, true_implies, false_implies] <;> omega)), (by first | omega | decide | (simp only [fa_lt, fa_le, fa_eq, and_true, true_and, and_false, false_and, not_true_eq_false, not_false_eq_true, li_0, li_1, li_2, li_3, li_4, li_5, li_6, li_7, li_8, li_9, li_10, li_12, li_15, li_16, li_20, li_30, li_34, li_38, li_40, li_63, li_64, li_65, li_78, li_120, li_1000, li_4000, li_10000, li_11077, li_255, li_65535, li_m1, li_m2, li_m1000000001, li_m1000000002, li_m1000000003, li_m1000000004, li_m1000000005, li_m1000000006, li_m1000000007, or_true, true_or, or_false, false_or, implies_true, true_implies, false_implies] <;> omega)), rfl, rfl, lv_sub hl [0, 3, 1, 4, 5, 6, 7] rfl⟩
                · skip
                  have tc_31 : a.toInt = 5 := (fa_eq _ _).mp c_31
                  refine lv_iload hx hb dX9_throwsOf_128 (lv_at hl 0 rfl) ?_
                  refine lv_if_ne (tgt := 144) hx hb dX9_throwsOf_130 (by decide) (fun c_40 => ?_) (fun c_40 => ?_)
                  · skip
                    have tc_40 : ¬ r_28.toInt = 0 := fun h => c_40 ((fa_eq _ _).mpr h)
                    refine lv_iconst (v := 1) hx hb dX9_throwsOf_144 (by decide) ?_
                    refine lv_goto (tgt := 154) hx hb dX9_throwsOf_145 (by decide) ?_
                    refine lv_istore (lv' := [(7, .int 1), (6, .int v6_47), (5, .int v5_38), (4, .int v4_47), (3, .int r_22), (0, .int a), (1, .int b), (2, .int d)]) hx hb dX9_throwsOf_154 hl (by decide) rfl (fun ls hl => ?_)
                    refine lv_iload hx hb dX9_throwsOf_156 (lv_at hl 3 rfl) ?_
                    refine lv_iload hx hb dX9_throwsOf_158 (lv_at hl 0 rfl) ?_
                    refine lv_if_eq (tgt := 175) hx hb dX9_throwsOf_160 (by decide) (fun c => absurd c (by decide)) (fun _ => ?_)
                    refine lv_iconst (v := 1) hx hb dX9_throwsOf_163 (by decide) ?_
                    refine lv_iconst (v := 4) hx hb dX9_throwsOf_164 (by decide) ?_
                    refine lv_iload hx hb dX9_throwsOf_165 (lv_at hl 2 rfl) ?_
                    refine lv_imul hx hb dX9_throwsOf_167 ?_
                    refine lv_topi (fun n_41 en_41 => ?_)
                    have tn_41 : n_41.toInt = 4 * v5_38.toInt := pp_mul en_41 rfl rfl (by omega) (by omega)
                    clear en_41
                    refine lv_iload hx hb dX9_throwsOf_168 (lv_at hl 1 rfl) ?_
                    refine lv_iadd hx hb dX9_throwsOf_170 ?_
                    refine lv_topi (fun n_42 en_42 => ?_)
                    have tn_42 : n_42.toInt = n_41.toInt + v6_47.toInt := pp_add en_42 rfl rfl (by omega) (by omega)
                    clear en_42
                    refine lv_ishl hx hb dX9_throwsOf_171 ?_
                    refine lv_topi (fun n_43 en_43 => ?_)
                    clear en_43
                    refine lv_goto (tgt := 176) hx hb dX9_throwsOf_172 (by decide) ?_
                    refine lv_ior hx hb dX9_throwsOf_176 ?_
                    refine lv_topi (fun n_44 en_44 => ?_)
                    clear en_44
                    refine lv_istore (lv' := [(4, .int n_44), (7, .int 1), (6, .int v6_47), (5, .int v5_38), (3, .int r_22), (0, .int a), (1, .int b), (2, .int d)]) hx hb dX9_throwsOf_177 hl (by decide) rfl (fun ls hl => ?_)
                    obtain ⟨n_45, en_45⟩ : ∃ y : Int32, y = v6_47 + 1 := ⟨_, rfl⟩
                    have tn_45 : n_45.toInt = v6_47.toInt + 1 := pp_add en_45 rfl rfl (by omega) (by omega)
                    refine lv_iinc (v := n_45) (lv' := [(6, .int n_45), (4, .int n_44), (7, .int 1), (5, .int v5_38), (3, .int r_22), (0, .int a), (1, .int b), (2, .int d)]) hx hb dX9_throwsOf_179 hl (k := 2) rfl (by rw [en_45]; rfl) (by decide) rfl (fun ls hl => ?_)
                    clear en_45
                    refine lv_goto (tgt := 47) hx hb dX9_throwsOf_182 (by decide) ?_
                    exact ihk_25 (n_45, n_44) _ _ _ (by show (4 - n_45.toInt).toNat < k_25; omega) ⟨(by first | omega | decide | (simp only [fa_lt, fa_le, fa_eq, and_true, true_and, and_false, false_and, not_true_eq_false, not_false_eq_true, li_0, li_1, li_2, li_3, li_4, li_5, li_6, li_7, li_8, li_9, li_10, li_12, li_15, li_16, li_20, li_30, li_34, li_38, li_40, li_63, li_64, li_65, li_78, li_120, li_1000, li_4000, li_10000, li_11077, li_255, li_65535, li_m1, li_m2, li_m1000000001, li_m1000000002, li_m1000000003, li_m1000000004, li_m1000000005, li_m1000000006, li_m1000000007, or_true, true_or, or_false, false_or, implies_true, true_implies, false_implies] <;> omega)), (by first | omega | decide | (simp only [fa_lt, fa_le, fa_eq, and_true, true_and, and_false, false_and, not_true_eq_false, not_false_eq_true, li_0, li_1, li_2, li_3, li_4, li_5, li_6, li_7, li_8, li_9, li_10, li_12, li_15, li_16, li_20, li_30, li_34, li_38, li_40, li_63, li_64, li_65, li_78, li_120, li_1000, li_4000, li_10000, li_11077, li_255, li_65535, li_m1, li_m2, li_m1000000001, li_m1000000002, li_m1000000003, li_m1000000004, li_m1000000005, li_m1000000006, li_m1000000007, or_true, true_or, or_false, false_or, implies_true, true_implies, false_implies] <;> omega)), rfl, rfl, lv_sub hl [0, 3, 1, 4, 5, 6, 7] rfl⟩
                  · skip
                    have tc_40 : r_28.toInt = 0 := (fa_eq _ _).mp c_40
                    refine lv_iload_n hx hb dX9_throwsOf_133 rfl (lv_at hl 4 rfl) ?_
                    refine lv_iload hx hb dX9_throwsOf_134 (lv_at hl 2 rfl) ?_
                    refine lv_iload hx hb dX9_throwsOf_136 (lv_at hl 1 rfl) ?_
                    have hPc := hP.sub (ws' := []) [] rfl
                    have hKc := hK.sub (tys' := []) [] rfl
                    refine vp_callSi (W.runS (As := [.int r_22, .int v5_38, .int v6_47]) (rest := []) ⟨hx, hb, hml, hown, hts⟩ (m_isBetween l dC dI ad r_22 v5_38 v6_47 ) (va_cwS 3 hts g_m_throwsOf_m_isBetween_119 rfl rfl rfl (by decide +kernel) ⟨(Nat.le_of_ble_eq_true rfl), (Nat.le_of_ble_eq_true rfl)⟩) ⟨preS_blind, fun U hU hW => ⟨rfl, preS_at hU hW hPc hKc hev⟩⟩ rfl rfl hl.1 rfl (lv_room (Nat.le_of_ble_eq_true rfl)) dX9_throwsOf_138 ⟨(Nat.le_of_ble_eq_true rfl), (Nat.le_of_ble_eq_true rfl)⟩) (fun r_46 hw => ?_)
                    refine lv_if_eq (tgt := 148) hx hb dX9_throwsOf_141 (by decide) (fun c_47 => ?_) (fun c_47 => ?_)
                    · skip
                      have tc_47 : r_46.toInt = 0 := (fa_eq _ _).mp c_47
                      refine lv_iconst (v := 0) hx hb dX9_throwsOf_148 (by decide) ?_
                      refine lv_goto (tgt := 154) hx hb dX9_throwsOf_149 (by decide) ?_
                      refine lv_istore (lv' := [(7, .int 0), (6, .int v6_47), (5, .int v5_38), (4, .int v4_47), (3, .int r_22), (0, .int a), (1, .int b), (2, .int d)]) hx hb dX9_throwsOf_154 hl (by decide) rfl (fun ls hl => ?_)
                      refine lv_iload hx hb dX9_throwsOf_156 (lv_at hl 3 rfl) ?_
                      refine lv_iload hx hb dX9_throwsOf_158 (lv_at hl 0 rfl) ?_
                      refine lv_if_eq (tgt := 175) hx hb dX9_throwsOf_160 (by decide) (fun _ => ?_) (fun c => absurd (by decide) c)
                      refine lv_iconst (v := 0) hx hb dX9_throwsOf_175 (by decide) ?_
                      refine lv_ior hx hb dX9_throwsOf_176 ?_
                      refine lv_topi (fun n_48 en_48 => ?_)
                      clear en_48
                      refine lv_istore (lv' := [(4, .int n_48), (7, .int 0), (6, .int v6_47), (5, .int v5_38), (3, .int r_22), (0, .int a), (1, .int b), (2, .int d)]) hx hb dX9_throwsOf_177 hl (by decide) rfl (fun ls hl => ?_)
                      obtain ⟨n_49, en_49⟩ : ∃ y : Int32, y = v6_47 + 1 := ⟨_, rfl⟩
                      have tn_49 : n_49.toInt = v6_47.toInt + 1 := pp_add en_49 rfl rfl (by omega) (by omega)
                      refine lv_iinc (v := n_49) (lv' := [(6, .int n_49), (4, .int n_48), (7, .int 0), (5, .int v5_38), (3, .int r_22), (0, .int a), (1, .int b), (2, .int d)]) hx hb dX9_throwsOf_179 hl (k := 2) rfl (by rw [en_49]; rfl) (by decide) rfl (fun ls hl => ?_)
                      clear en_49
                      refine lv_goto (tgt := 47) hx hb dX9_throwsOf_182 (by decide) ?_
                      exact ihk_25 (n_49, n_48) _ _ _ (by show (4 - n_49.toInt).toNat < k_25; omega) ⟨(by first | omega | decide | (simp only [fa_lt, fa_le, fa_eq, and_true, true_and, and_false, false_and, not_true_eq_false, not_false_eq_true, li_0, li_1, li_2, li_3, li_4, li_5, li_6, li_7, li_8, li_9, li_10, li_12, li_15, li_16, li_20, li_30, li_34, li_38, li_40, li_63, li_64, li_65, li_78, li_120, li_1000, li_4000, li_10000, li_11077, li_255, li_65535, li_m1, li_m2, li_m1000000001, li_m1000000002, li_m1000000003, li_m1000000004, li_m1000000005, li_m1000000006, li_m1000000007, or_true, true_or, or_false, false_or, implies_true, true_implies, false_implies] <;> omega)), (by first | omega | decide | (simp only [fa_lt, fa_le, fa_eq, and_true, true_and, and_false, false_and, not_true_eq_false, not_false_eq_true, li_0, li_1, li_2, li_3, li_4, li_5, li_6, li_7, li_8, li_9, li_10, li_12, li_15, li_16, li_20, li_30, li_34, li_38, li_40, li_63, li_64, li_65, li_78, li_120, li_1000, li_4000, li_10000, li_11077, li_255, li_65535, li_m1, li_m2, li_m1000000001, li_m1000000002, li_m1000000003, li_m1000000004, li_m1000000005, li_m1000000006, li_m1000000007, or_true, true_or, or_false, false_or, implies_true, true_implies, false_implies] <;> omega)), rfl, rfl, lv_sub hl [0, 3, 1, 4, 5, 6, 7] rfl⟩
                    · skip
                      have tc_47 : ¬ r_46.toInt = 0 := fun h => c_47 ((fa_eq _ _).mpr h)
                      refine lv_iconst (v := 1) hx hb dX9_throwsOf_144 (by decide) ?_
                      refine lv_goto (tgt := 154) hx hb dX9_throwsOf_145 (by decide) ?_
                      refine lv_istore (lv' := [(7, .int 1), (6, .int v6_47), (5, .int v5_38), (4, .int v4_47), (3, .int r_22), (0, .int a), (1, .int b), (2, .int d)]) hx hb dX9_throwsOf_154 hl (by decide) rfl (fun ls hl => ?_)
                      refine lv_iload hx hb dX9_throwsOf_156 (lv_at hl 3 rfl) ?_
                      refine lv_iload hx hb dX9_throwsOf_158 (lv_at hl 0 rfl) ?_
                      refine lv_if_eq (tgt := 175) hx hb dX9_throwsOf_160 (by decide) (fun c => absurd c (by decide)) (fun _ => ?_)
                      refine lv_iconst (v := 1) hx hb dX9_throwsOf_163 (by decide) ?_
                      refine lv_iconst (v := 4) hx hb dX9_throwsOf_164 (by decide) ?_
                      refine lv_iload hx hb dX9_throwsOf_165 (lv_at hl 2 rfl) ?_
                      refine lv_imul hx hb dX9_throwsOf_167 ?_
                      refine lv_topi (fun n_50 en_50 => ?_)
                      have tn_50 : n_50.toInt = 4 * v5_38.toInt := pp_mul en_50 rfl rfl (by omega) (by omega)
                      clear en_50
                      refine lv_iload hx hb dX9_throwsOf_168 (lv_at hl 1 rfl) ?_
                      refine lv_iadd hx hb dX9_throwsOf_170 ?_
                      refine lv_topi (fun n_51 en_51 => ?_)
                      have tn_51 : n_51.toInt = n_50.toInt + v6_47.toInt := pp_add en_51 rfl rfl (by omega) (by omega)
                      clear en_51
                      refine lv_ishl hx hb dX9_throwsOf_171 ?_
                      refine lv_topi (fun n_52 en_52 => ?_)
                      clear en_52
                      refine lv_goto (tgt := 176) hx hb dX9_throwsOf_172 (by decide) ?_
                      refine lv_ior hx hb dX9_throwsOf_176 ?_
                      refine lv_topi (fun n_53 en_53 => ?_)
                      clear en_53
                      refine lv_istore (lv' := [(4, .int n_53), (7, .int 1), (6, .int v6_47), (5, .int v5_38), (3, .int r_22), (0, .int a), (1, .int b), (2, .int d)]) hx hb dX9_throwsOf_177 hl (by decide) rfl (fun ls hl => ?_)
                      obtain ⟨n_54, en_54⟩ : ∃ y : Int32, y = v6_47 + 1 := ⟨_, rfl⟩
                      have tn_54 : n_54.toInt = v6_47.toInt + 1 := pp_add en_54 rfl rfl (by omega) (by omega)
                      refine lv_iinc (v := n_54) (lv' := [(6, .int n_54), (4, .int n_53), (7, .int 1), (5, .int v5_38), (3, .int r_22), (0, .int a), (1, .int b), (2, .int d)]) hx hb dX9_throwsOf_179 hl (k := 2) rfl (by rw [en_54]; rfl) (by decide) rfl (fun ls hl => ?_)
                      clear en_54
                      refine lv_goto (tgt := 47) hx hb dX9_throwsOf_182 (by decide) ?_
                      exact ihk_25 (n_54, n_53) _ _ _ (by show (4 - n_54.toInt).toNat < k_25; omega) ⟨(by first | omega | decide | (simp only [fa_lt, fa_le, fa_eq, and_true, true_and, and_false, false_and, not_true_eq_false, not_false_eq_true, li_0, li_1, li_2, li_3, li_4, li_5, li_6, li_7, li_8, li_9, li_10, li_12, li_15, li_16, li_20, li_30, li_34, li_38, li_40, li_63, li_64, li_65, li_78, li_120, li_1000, li_4000, li_10000, li_11077, li_255, li_65535, li_m1, li_m2, li_m1000000001, li_m1000000002, li_m1000000003, li_m1000000004, li_m1000000005, li_m1000000006, li_m1000000007, or_true, true_or, or_false, false_or, implies_true, true_implies, false_implies] <;> omega)), (by first | omega | decide | (simp only [fa_lt, fa_le, fa_eq, and_true, true_and, and_false, false_and, not_true_eq_false, not_false_eq_true, li_0, li_1, li_2, li_3, li_4, li_5, li_6, li_7, li_8, li_9, li_10, li_12, li_15, li_16, li_20, li_30, li_34, li_38, li_40, li_63, li_64, li_65, li_78, li_120, li_1000, li_4000, li_10000, li_11077, li_255, li_65535, li_m1, li_m2, li_m1000000001, li_m1000000002, li_m1000000003, li_m1000000004, li_m1000000005, li_m1000000006, li_m1000000007, or_true, true_or, or_false, false_or, implies_true, true_implies, false_implies] <;> omega)), rfl, rfl, lv_sub hl [0, 3, 1, 4, 5, 6, 7] rfl⟩
              · skip
                have tc_30 : a.toInt = 4 := (fa_eq _ _).mp c_30
                refine lv_iload hx hb dX9_throwsOf_97 (lv_at hl 0 rfl) ?_
                refine lv_if_ne (tgt := 115) hx hb dX9_throwsOf_99 (by decide) (fun c_55 => ?_) (fun c_55 => ?_)
                · skip
                  have tc_55 : ¬ r_28.toInt = 0 := fun h => c_55 ((fa_eq _ _).mpr h)
                  refine lv_iconst (v := 1) hx hb dX9_throwsOf_115 (by decide) ?_
                  refine lv_goto (tgt := 154) hx hb dX9_throwsOf_116 (by decide) ?_
                  refine lv_istore (lv' := [(7, .int 1), (6, .int v6_47), (5, .int v5_38), (4, .int v4_47), (3, .int r_22), (0, .int a), (1, .int b), (2, .int d)]) hx hb dX9_throwsOf_154 hl (by decide) rfl (fun ls hl => ?_)
                  refine lv_iload hx hb dX9_throwsOf_156 (lv_at hl 3 rfl) ?_
                  refine lv_iload hx hb dX9_throwsOf_158 (lv_at hl 0 rfl) ?_
                  refine lv_if_eq (tgt := 175) hx hb dX9_throwsOf_160 (by decide) (fun c => absurd c (by decide)) (fun _ => ?_)
                  refine lv_iconst (v := 1) hx hb dX9_throwsOf_163 (by decide) ?_
                  refine lv_iconst (v := 4) hx hb dX9_throwsOf_164 (by decide) ?_
                  refine lv_iload hx hb dX9_throwsOf_165 (lv_at hl 2 rfl) ?_
                  refine lv_imul hx hb dX9_throwsOf_167 ?_
                  refine lv_topi (fun n_56 en_56 => ?_)
                  have tn_56 : n_56.toInt = 4 * v5_38.toInt := pp_mul en_56 rfl rfl (by omega) (by omega)
                  clear en_56
                  refine lv_iload hx hb dX9_throwsOf_168 (lv_at hl 1 rfl) ?_
                  refine lv_iadd hx hb dX9_throwsOf_170 ?_
                  refine lv_topi (fun n_57 en_57 => ?_)
                  have tn_57 : n_57.toInt = n_56.toInt + v6_47.toInt := pp_add en_57 rfl rfl (by omega) (by omega)
                  clear en_57
                  refine lv_ishl hx hb dX9_throwsOf_171 ?_
                  refine lv_topi (fun n_58 en_58 => ?_)
                  clear en_58
                  refine lv_goto (tgt := 176) hx hb dX9_throwsOf_172 (by decide) ?_
                  refine lv_ior hx hb dX9_throwsOf_176 ?_
                  refine lv_topi (fun n_59 en_59 => ?_)
                  clear en_59
                  refine lv_istore (lv' := [(4, .int n_59), (7, .int 1), (6, .int v6_47), (5, .int v5_38), (3, .int r_22), (0, .int a), (1, .int b), (2, .int d)]) hx hb dX9_throwsOf_177 hl (by decide) rfl (fun ls hl => ?_)
                  obtain ⟨n_60, en_60⟩ : ∃ y : Int32, y = v6_47 + 1 := ⟨_, rfl⟩
                  have tn_60 : n_60.toInt = v6_47.toInt + 1 := pp_add en_60 rfl rfl (by omega) (by omega)
                  refine lv_iinc (v := n_60) (lv' := [(6, .int n_60), (4, .int n_59), (7, .int 1), (5, .int v5_38), (3, .int r_22), (0, .int a), (1, .int b), (2, .int d)]) hx hb dX9_throwsOf_179 hl (k := 2) rfl (by rw [en_60]; rfl) (by decide) rfl (fun ls hl => ?_)
                  clear en_60
                  refine lv_goto (tgt := 47) hx hb dX9_throwsOf_182 (by decide) ?_
                  exact ihk_25 (n_60, n_59) _ _ _ (by show (4 - n_60.toInt).toNat < k_25; omega) ⟨(by first | omega | decide | (simp only [fa_lt, fa_le, fa_eq, and_true, true_and, and_false, false_and, not_true_eq_false, not_false_eq_true, li_0, li_1, li_2, li_3, li_4, li_5, li_6, li_7, li_8, li_9, li_10, li_12, li_15, li_16, li_20, li_30, li_34, li_38, li_40, li_63, li_64, li_65, li_78, li_120, li_1000, li_4000, li_10000, li_11077, li_255, li_65535, li_m1, li_m2, li_m1000000001, li_m1000000002, li_m1000000003, li_m1000000004, li_m1000000005, li_m1000000006, li_m1000000007, or_true, true_or, or_false, false_or, implies_true, true_implies, false_implies] <;> omega)), (by first | omega | decide | (simp only [fa_lt, fa_le, fa_eq, and_true, true_and, and_false, false_and, not_true_eq_false, not_false_eq_true, li_0, li_1, li_2, li_3, li_4, li_5, li_6, li_7, li_8, li_9, li_10, li_12, li_15, li_16, li_20, li_30, li_34, li_38, li_40, li_63, li_64, li_65, li_78, li_120, li_1000, li_4000, li_10000, li_11077, li_255, li_65535, li_m1, li_m2, li_m1000000001, li_m1000000002, li_m1000000003, li_m1000000004, li_m1000000005, li_m1000000006, li_m1000000007, or_true, true_or, or_false, false_or, implies_true, true_implies, false_implies] <;> omega)), rfl, rfl, lv_sub hl [0, 3, 1, 4, 5, 6, 7] rfl⟩
                · skip
                  have tc_55 : r_28.toInt = 0 := (fa_eq _ _).mp c_55
                  refine lv_iload_n hx hb dX9_throwsOf_102 rfl (lv_at hl 4 rfl) ?_
                  refine lv_iload hx hb dX9_throwsOf_103 (lv_at hl 2 rfl) ?_
                  refine lv_iconst (v := 1) hx hb dX9_throwsOf_105 (by decide) ?_
                  refine lv_isub hx hb dX9_throwsOf_106 ?_
                  refine lv_topi (fun n_61 en_61 => ?_)
                  have tn_61 : n_61.toInt = v5_38.toInt - 1 := pp_sub en_61 rfl rfl (by omega) (by omega)
                  clear en_61
                  refine lv_iload hx hb dX9_throwsOf_107 (lv_at hl 1 rfl) ?_
                  have hPc := hP.sub (ws' := []) [] rfl
                  have hKc := hK.sub (tys' := []) [] rfl
                  refine vp_callSi (W.runS (As := [.int r_22, .int n_61, .int v6_47]) (rest := []) ⟨hx, hb, hml, hown, hts⟩ (m_has l dC dI ad r_22 n_61 v6_47 ) (va_cwS 3 hts g_m_throwsOf_m_has_109 rfl rfl rfl (by decide +kernel) ⟨(Nat.le_of_ble_eq_true rfl), (Nat.le_of_ble_eq_true rfl)⟩) ⟨preS_blind, fun U hU hW => ⟨rfl, preS_at hU hW hPc hKc hev⟩⟩ rfl rfl hl.1 rfl (lv_room (Nat.le_of_ble_eq_true rfl)) dX9_throwsOf_109 ⟨(Nat.le_of_ble_eq_true rfl), (Nat.le_of_ble_eq_true rfl)⟩) (fun r_62 hw => ?_)
                  refine lv_if_eq (tgt := 119) hx hb dX9_throwsOf_112 (by decide) (fun c_63 => ?_) (fun c_63 => ?_)
                  · skip
                    have tc_63 : r_62.toInt = 0 := (fa_eq _ _).mp c_63
                    refine lv_iconst (v := 0) hx hb dX9_throwsOf_119 (by decide) ?_
                    refine lv_goto (tgt := 154) hx hb dX9_throwsOf_120 (by decide) ?_
                    refine lv_istore (lv' := [(7, .int 0), (6, .int v6_47), (5, .int v5_38), (4, .int v4_47), (3, .int r_22), (0, .int a), (1, .int b), (2, .int d)]) hx hb dX9_throwsOf_154 hl (by decide) rfl (fun ls hl => ?_)
                    refine lv_iload hx hb dX9_throwsOf_156 (lv_at hl 3 rfl) ?_
                    refine lv_iload hx hb dX9_throwsOf_158 (lv_at hl 0 rfl) ?_
                    refine lv_if_eq (tgt := 175) hx hb dX9_throwsOf_160 (by decide) (fun _ => ?_) (fun c => absurd (by decide) c)
                    refine lv_iconst (v := 0) hx hb dX9_throwsOf_175 (by decide) ?_
                    refine lv_ior hx hb dX9_throwsOf_176 ?_
                    refine lv_topi (fun n_64 en_64 => ?_)
                    clear en_64
                    refine lv_istore (lv' := [(4, .int n_64), (7, .int 0), (6, .int v6_47), (5, .int v5_38), (3, .int r_22), (0, .int a), (1, .int b), (2, .int d)]) hx hb dX9_throwsOf_177 hl (by decide) rfl (fun ls hl => ?_)
                    obtain ⟨n_65, en_65⟩ : ∃ y : Int32, y = v6_47 + 1 := ⟨_, rfl⟩
                    have tn_65 : n_65.toInt = v6_47.toInt + 1 := pp_add en_65 rfl rfl (by omega) (by omega)
                    refine lv_iinc (v := n_65) (lv' := [(6, .int n_65), (4, .int n_64), (7, .int 0), (5, .int v5_38), (3, .int r_22), (0, .int a), (1, .int b), (2, .int d)]) hx hb dX9_throwsOf_179 hl (k := 2) rfl (by rw [en_65]; rfl) (by decide) rfl (fun ls hl => ?_)
                    clear en_65
                    refine lv_goto (tgt := 47) hx hb dX9_throwsOf_182 (by decide) ?_
                    exact ihk_25 (n_65, n_64) _ _ _ (by show (4 - n_65.toInt).toNat < k_25; omega) ⟨(by first | omega | decide | (simp only [fa_lt, fa_le, fa_eq, and_true, true_and, and_false, false_and, not_true_eq_false, not_false_eq_true, li_0, li_1, li_2, li_3, li_4, li_5, li_6, li_7, li_8, li_9, li_10, li_12, li_15, li_16, li_20, li_30, li_34, li_38, li_40, li_63, li_64, li_65, li_78, li_120, li_1000, li_4000, li_10000, li_11077, li_255, li_65535, li_m1, li_m2, li_m1000000001, li_m1000000002, li_m1000000003, li_m1000000004, li_m1000000005, li_m1000000006, li_m1000000007, or_true, true_or, or_false, false_or, implies_true, true_implies, false_implies] <;> omega)), (by first | omega | decide | (simp only [fa_lt, fa_le, fa_eq, and_true, true_and, and_false, false_and, not_true_eq_false, not_false_eq_true, li_0, li_1, li_2, li_3, li_4, li_5, li_6, li_7, li_8, li_9, li_10, li_12, li_15, li_16, li_20, li_30, li_34, li_38, li_40, li_63, li_64, li_65, li_78, li_120, li_1000, li_4000, li_10000, li_11077, li_255, li_65535, li_m1, li_m2, li_m1000000001, li_m1000000002, li_m1000000003, li_m1000000004, li_m1000000005, li_m1000000006, li_m1000000007, or_true, true_or, or_false, false_or, implies_true, true_implies, false_implies] <;> omega)), rfl, rfl, lv_sub hl [0, 3, 1, 4, 5, 6, 7] rfl⟩
                  · skip
                    have tc_63 : ¬ r_62.toInt = 0 := fun h => c_63 ((fa_eq _ _).mpr h)
                    refine lv_iconst (v := 1) hx hb dX9_throwsOf_115 (by decide) ?_
                    refine lv_goto (tgt := 154) hx hb dX9_throwsOf_116 (by decide) ?_
                    refine lv_istore (lv' := [(7, .int 1), (6, .int v6_47), (5, .int v5_38), (4, .int v4_47), (3, .int r_22), (0, .int a), (1, .int b), (2, .int d)]) hx hb dX9_throwsOf_154 hl (by decide) rfl (fun ls hl => ?_)
                    refine lv_iload hx hb dX9_throwsOf_156 (lv_at hl 3 rfl) ?_
                    refine lv_iload hx hb dX9_throwsOf_158 (lv_at hl 0 rfl) ?_
                    refine lv_if_eq (tgt := 175) hx hb dX9_throwsOf_160 (by decide) (fun c => absurd c (by decide)) (fun _ => ?_)
                    refine lv_iconst (v := 1) hx hb dX9_throwsOf_163 (by decide) ?_
                    refine lv_iconst (v := 4) hx hb dX9_throwsOf_164 (by decide) ?_
                    refine lv_iload hx hb dX9_throwsOf_165 (lv_at hl 2 rfl) ?_
                    refine lv_imul hx hb dX9_throwsOf_167 ?_
                    refine lv_topi (fun n_66 en_66 => ?_)
                    have tn_66 : n_66.toInt = 4 * v5_38.toInt := pp_mul en_66 rfl rfl (by omega) (by omega)
                    clear en_66
                    refine lv_iload hx hb dX9_throwsOf_168 (lv_at hl 1 rfl) ?_
                    refine lv_iadd hx hb dX9_throwsOf_170 ?_
                    refine lv_topi (fun n_67 en_67 => ?_)
                    have tn_67 : n_67.toInt = n_66.toInt + v6_47.toInt := pp_add en_67 rfl rfl (by omega) (by omega)
                    clear en_67
                    refine lv_ishl hx hb dX9_throwsOf_171 ?_
                    refine lv_topi (fun n_68 en_68 => ?_)
                    clear en_68
                    refine lv_goto (tgt := 176) hx hb dX9_throwsOf_172 (by decide) ?_
                    refine lv_ior hx hb dX9_throwsOf_176 ?_
                    refine lv_topi (fun n_69 en_69 => ?_)
                    clear en_69
                    refine lv_istore (lv' := [(4, .int n_69), (7, .int 1), (6, .int v6_47), (5, .int v5_38), (3, .int r_22), (0, .int a), (1, .int b), (2, .int d)]) hx hb dX9_throwsOf_177 hl (by decide) rfl (fun ls hl => ?_)
                    obtain ⟨n_70, en_70⟩ : ∃ y : Int32, y = v6_47 + 1 := ⟨_, rfl⟩
                    have tn_70 : n_70.toInt = v6_47.toInt + 1 := pp_add en_70 rfl rfl (by omega) (by omega)
                    refine lv_iinc (v := n_70) (lv' := [(6, .int n_70), (4, .int n_69), (7, .int 1), (5, .int v5_38), (3, .int r_22), (0, .int a), (1, .int b), (2, .int d)]) hx hb dX9_throwsOf_179 hl (k := 2) rfl (by rw [en_70]; rfl) (by decide) rfl (fun ls hl => ?_)
                    clear en_70
                    refine lv_goto (tgt := 47) hx hb dX9_throwsOf_182 (by decide) ?_
                    exact ihk_25 (n_70, n_69) _ _ _ (by show (4 - n_70.toInt).toNat < k_25; omega) ⟨(by first | omega | decide | (simp only [fa_lt, fa_le, fa_eq, and_true, true_and, and_false, false_and, not_true_eq_false, not_false_eq_true, li_0, li_1, li_2, li_3, li_4, li_5, li_6, li_7, li_8, li_9, li_10, li_12, li_15, li_16, li_20, li_30, li_34, li_38, li_40, li_63, li_64, li_65, li_78, li_120, li_1000, li_4000, li_10000, li_11077, li_255, li_65535, li_m1, li_m2, li_m1000000001, li_m1000000002, li_m1000000003, li_m1000000004, li_m1000000005, li_m1000000006, li_m1000000007, or_true, true_or, or_false, false_or, implies_true, true_implies, false_implies] <;> omega)), (by first | omega | decide | (simp only [fa_lt, fa_le, fa_eq, and_true, true_and, and_false, false_and, not_true_eq_false, not_false_eq_true, li_0, li_1, li_2, li_3, li_4, li_5, li_6, li_7, li_8, li_9, li_10, li_12, li_15, li_16, li_20, li_30, li_34, li_38, li_40, li_63, li_64, li_65, li_78, li_120, li_1000, li_4000, li_10000, li_11077, li_255, li_65535, li_m1, li_m2, li_m1000000001, li_m1000000002, li_m1000000003, li_m1000000004, li_m1000000005, li_m1000000006, li_m1000000007, or_true, true_or, or_false, false_or, implies_true, true_implies, false_implies] <;> omega)), rfl, rfl, lv_sub hl [0, 3, 1, 4, 5, 6, 7] rfl⟩
            · skip
              have tc_29 : a.toInt = 3 := (fa_eq _ _).mp c_29
              refine lv_iload hx hb dX9_throwsOf_68 (lv_at hl 0 rfl) ?_
              refine lv_if_eq (tgt := 88) hx hb dX9_throwsOf_70 (by decide) (fun c_71 => ?_) (fun c_71 => ?_)
              · skip
                have tc_71 : r_28.toInt = 0 := (fa_eq _ _).mp c_71
                refine lv_iconst (v := 0) hx hb dX9_throwsOf_88 (by decide) ?_
                refine lv_goto (tgt := 154) hx hb dX9_throwsOf_89 (by decide) ?_
                refine lv_istore (lv' := [(7, .int 0), (6, .int v6_47), (5, .int v5_38), (4, .int v4_47), (3, .int r_22), (0, .int a), (1, .int b), (2, .int d)]) hx hb dX9_throwsOf_154 hl (by decide) rfl (fun ls hl => ?_)
                refine lv_iload hx hb dX9_throwsOf_156 (lv_at hl 3 rfl) ?_
                refine lv_iload hx hb dX9_throwsOf_158 (lv_at hl 0 rfl) ?_
                refine lv_if_eq (tgt := 175) hx hb dX9_throwsOf_160 (by decide) (fun _ => ?_) (fun c => absurd (by decide) c)
                refine lv_iconst (v := 0) hx hb dX9_throwsOf_175 (by decide) ?_
                refine lv_ior hx hb dX9_throwsOf_176 ?_
                refine lv_topi (fun n_72 en_72 => ?_)
                clear en_72
                refine lv_istore (lv' := [(4, .int n_72), (7, .int 0), (6, .int v6_47), (5, .int v5_38), (3, .int r_22), (0, .int a), (1, .int b), (2, .int d)]) hx hb dX9_throwsOf_177 hl (by decide) rfl (fun ls hl => ?_)
                obtain ⟨n_73, en_73⟩ : ∃ y : Int32, y = v6_47 + 1 := ⟨_, rfl⟩
                have tn_73 : n_73.toInt = v6_47.toInt + 1 := pp_add en_73 rfl rfl (by omega) (by omega)
                refine lv_iinc (v := n_73) (lv' := [(6, .int n_73), (4, .int n_72), (7, .int 0), (5, .int v5_38), (3, .int r_22), (0, .int a), (1, .int b), (2, .int d)]) hx hb dX9_throwsOf_179 hl (k := 2) rfl (by rw [en_73]; rfl) (by decide) rfl (fun ls hl => ?_)
                clear en_73
                refine lv_goto (tgt := 47) hx hb dX9_throwsOf_182 (by decide) ?_
                exact ihk_25 (n_73, n_72) _ _ _ (by show (4 - n_73.toInt).toNat < k_25; omega) ⟨(by first | omega | decide | (simp only [fa_lt, fa_le, fa_eq, and_true, true_and, and_false, false_and, not_true_eq_false, not_false_eq_true, li_0, li_1, li_2, li_3, li_4, li_5, li_6, li_7, li_8, li_9, li_10, li_12, li_15, li_16, li_20, li_30, li_34, li_38, li_40, li_63, li_64, li_65, li_78, li_120, li_1000, li_4000, li_10000, li_11077, li_255, li_65535, li_m1, li_m2, li_m1000000001, li_m1000000002, li_m1000000003, li_m1000000004, li_m1000000005, li_m1000000006, li_m1000000007, or_true, true_or, or_false, false_or, implies_true, true_implies, false_implies] <;> omega)), (by first | omega | decide | (simp only [fa_lt, fa_le, fa_eq, and_true, true_and, and_false, false_and, not_true_eq_false, not_false_eq_true, li_0, li_1, li_2, li_3, li_4, li_5, li_6, li_7, li_8, li_9, li_10, li_12, li_15, li_16, li_20, li_30, li_34, li_38, li_40, li_63, li_64, li_65, li_78, li_120, li_1000, li_4000, li_10000, li_11077, li_255, li_65535, li_m1, li_m2, li_m1000000001, li_m1000000002, li_m1000000003, li_m1000000004, li_m1000000005, li_m1000000006, li_m1000000007, or_true, true_or, or_false, false_or, implies_true, true_implies, false_implies] <;> omega)), rfl, rfl, lv_sub hl [0, 3, 1, 4, 5, 6, 7] rfl⟩
              · skip
                have tc_71 : ¬ r_28.toInt = 0 := fun h => c_71 ((fa_eq _ _).mpr h)
                refine lv_iload_n hx hb dX9_throwsOf_73 rfl (lv_at hl 4 rfl) ?_
                refine lv_iload hx hb dX9_throwsOf_74 (lv_at hl 2 rfl) ?_
                refine lv_iload hx hb dX9_throwsOf_76 (lv_at hl 1 rfl) ?_
                have hPc := hP.sub (ws' := []) [] rfl
                have hKc := hK.sub (tys' := []) [] rfl
                refine vp_callSi (W.runS (As := [.int r_22, .int v5_38, .int v6_47]) (rest := []) ⟨hx, hb, hml, hown, hts⟩ (m_isInner l dC dI ad r_22 v5_38 v6_47 ) (va_cwS 3 hts g_m_throwsOf_m_isInner_116 rfl rfl rfl (by decide +kernel) ⟨(Nat.le_of_ble_eq_true rfl), (Nat.le_of_ble_eq_true rfl)⟩) ⟨preS_blind, fun U hU hW => ⟨rfl, preS_at hU hW hPc hKc hev⟩⟩ rfl rfl hl.1 rfl (lv_room (Nat.le_of_ble_eq_true rfl)) dX9_throwsOf_78 ⟨(Nat.le_of_ble_eq_true rfl), (Nat.le_of_ble_eq_true rfl)⟩) (fun r_74 hw => ?_)
                refine lv_if_ne (tgt := 88) hx hb dX9_throwsOf_81 (by decide) (fun c_75 => ?_) (fun c_75 => ?_)
                · skip
                  have tc_75 : ¬ r_74.toInt = 0 := fun h => c_75 ((fa_eq _ _).mpr h)
                  refine lv_iconst (v := 0) hx hb dX9_throwsOf_88 (by decide) ?_
                  refine lv_goto (tgt := 154) hx hb dX9_throwsOf_89 (by decide) ?_
                  refine lv_istore (lv' := [(7, .int 0), (6, .int v6_47), (5, .int v5_38), (4, .int v4_47), (3, .int r_22), (0, .int a), (1, .int b), (2, .int d)]) hx hb dX9_throwsOf_154 hl (by decide) rfl (fun ls hl => ?_)
                  refine lv_iload hx hb dX9_throwsOf_156 (lv_at hl 3 rfl) ?_
                  refine lv_iload hx hb dX9_throwsOf_158 (lv_at hl 0 rfl) ?_
                  refine lv_if_eq (tgt := 175) hx hb dX9_throwsOf_160 (by decide) (fun _ => ?_) (fun c => absurd (by decide) c)
                  refine lv_iconst (v := 0) hx hb dX9_throwsOf_175 (by decide) ?_
                  refine lv_ior hx hb dX9_throwsOf_176 ?_
                  refine lv_topi (fun n_76 en_76 => ?_)
                  clear en_76
                  refine lv_istore (lv' := [(4, .int n_76), (7, .int 0), (6, .int v6_47), (5, .int v5_38), (3, .int r_22), (0, .int a), (1, .int b), (2, .int d)]) hx hb dX9_throwsOf_177 hl (by decide) rfl (fun ls hl => ?_)
                  obtain ⟨n_77, en_77⟩ : ∃ y : Int32, y = v6_47 + 1 := ⟨_, rfl⟩
                  have tn_77 : n_77.toInt = v6_47.toInt + 1 := pp_add en_77 rfl rfl (by omega) (by omega)
                  refine lv_iinc (v := n_77) (lv' := [(6, .int n_77), (4, .int n_76), (7, .int 0), (5, .int v5_38), (3, .int r_22), (0, .int a), (1, .int b), (2, .int d)]) hx hb dX9_throwsOf_179 hl (k := 2) rfl (by rw [en_77]; rfl) (by decide) rfl (fun ls hl => ?_)
                  clear en_77
                  refine lv_goto (tgt := 47) hx hb dX9_throwsOf_182 (by decide) ?_
                  exact ihk_25 (n_77, n_76) _ _ _ (by show (4 - n_77.toInt).toNat < k_25; omega) ⟨(by first | omega | decide | (simp only [fa_lt, fa_le, fa_eq, and_true, true_and, and_false, false_and, not_true_eq_false, not_false_eq_true, li_0, li_1, li_2, li_3, li_4, li_5, li_6, li_7, li_8, li_9, li_10, li_12, li_15, li_16, li_20, li_30, li_34, li_38, li_40, li_63, li_64, li_65, li_78, li_120, li_1000, li_4000, li_10000, li_11077, li_255, li_65535, li_m1, li_m2, li_m1000000001, li_m1000000002, li_m1000000003, li_m1000000004, li_m1000000005, li_m1000000006, li_m1000000007, or_true, true_or, or_false, false_or, implies_true, true_implies, false_implies] <;> omega)), (by first | omega | decide | (simp only [fa_lt, fa_le, fa_eq, and_true, true_and, and_false, false_and, not_true_eq_false, not_false_eq_true, li_0, li_1, li_2, li_3, li_4, li_5, li_6, li_7, li_8, li_9, li_10, li_12, li_15, li_16, li_20, li_30, li_34, li_38, li_40, li_63, li_64, li_65, li_78, li_120, li_1000, li_4000, li_10000, li_11077, li_255, li_65535, li_m1, li_m2, li_m1000000001, li_m1000000002, li_m1000000003, li_m1000000004, li_m1000000005, li_m1000000006, li_m1000000007, or_true, true_or, or_false, false_or, implies_true, true_implies, false_implies] <;> omega)), rfl, rfl, lv_sub hl [0, 3, 1, 4, 5, 6, 7] rfl⟩
                · skip
                  have tc_75 : r_74.toInt = 0 := (fa_eq _ _).mp c_75
                  refine lv_iconst (v := 1) hx hb dX9_throwsOf_84 (by decide) ?_
                  refine lv_goto (tgt := 154) hx hb dX9_throwsOf_85 (by decide) ?_
                  refine lv_istore (lv' := [(7, .int 1), (6, .int v6_47), (5, .int v5_38), (4, .int v4_47), (3, .int r_22), (0, .int a), (1, .int b), (2, .int d)]) hx hb dX9_throwsOf_154 hl (by decide) rfl (fun ls hl => ?_)
                  refine lv_iload hx hb dX9_throwsOf_156 (lv_at hl 3 rfl) ?_
                  refine lv_iload hx hb dX9_throwsOf_158 (lv_at hl 0 rfl) ?_
                  refine lv_if_eq (tgt := 175) hx hb dX9_throwsOf_160 (by decide) (fun c => absurd c (by decide)) (fun _ => ?_)
                  refine lv_iconst (v := 1) hx hb dX9_throwsOf_163 (by decide) ?_
                  refine lv_iconst (v := 4) hx hb dX9_throwsOf_164 (by decide) ?_
                  refine lv_iload hx hb dX9_throwsOf_165 (lv_at hl 2 rfl) ?_
                  refine lv_imul hx hb dX9_throwsOf_167 ?_
                  refine lv_topi (fun n_78 en_78 => ?_)
                  have tn_78 : n_78.toInt = 4 * v5_38.toInt := pp_mul en_78 rfl rfl (by omega) (by omega)
                  clear en_78
                  refine lv_iload hx hb dX9_throwsOf_168 (lv_at hl 1 rfl) ?_
                  refine lv_iadd hx hb dX9_throwsOf_170 ?_
                  refine lv_topi (fun n_79 en_79 => ?_)
                  have tn_79 : n_79.toInt = n_78.toInt + v6_47.toInt := pp_add en_79 rfl rfl (by omega) (by omega)
                  clear en_79
                  refine lv_ishl hx hb dX9_throwsOf_171 ?_
                  refine lv_topi (fun n_80 en_80 => ?_)
                  clear en_80
                  refine lv_goto (tgt := 176) hx hb dX9_throwsOf_172 (by decide) ?_
                  refine lv_ior hx hb dX9_throwsOf_176 ?_
                  refine lv_topi (fun n_81 en_81 => ?_)
                  clear en_81
                  refine lv_istore (lv' := [(4, .int n_81), (7, .int 1), (6, .int v6_47), (5, .int v5_38), (3, .int r_22), (0, .int a), (1, .int b), (2, .int d)]) hx hb dX9_throwsOf_177 hl (by decide) rfl (fun ls hl => ?_)
                  obtain ⟨n_82, en_82⟩ : ∃ y : Int32, y = v6_47 + 1 := ⟨_, rfl⟩
                  have tn_82 : n_82.toInt = v6_47.toInt + 1 := pp_add en_82 rfl rfl (by omega) (by omega)
                  refine lv_iinc (v := n_82) (lv' := [(6, .int n_82), (4, .int n_81), (7, .int 1), (5, .int v5_38), (3, .int r_22), (0, .int a), (1, .int b), (2, .int d)]) hx hb dX9_throwsOf_179 hl (k := 2) rfl (by rw [en_82]; rfl) (by decide) rfl (fun ls hl => ?_)
                  clear en_82
                  refine lv_goto (tgt := 47) hx hb dX9_throwsOf_182 (by decide) ?_
                  exact ihk_25 (n_82, n_81) _ _ _ (by show (4 - n_82.toInt).toNat < k_25; omega) ⟨(by first | omega | decide | (simp only [fa_lt, fa_le, fa_eq, and_true, true_and, and_false, false_and, not_true_eq_false, not_false_eq_true, li_0, li_1, li_2, li_3, li_4, li_5, li_6, li_7, li_8, li_9, li_10, li_12, li_15, li_16, li_20, li_30, li_34, li_38, li_40, li_63, li_64, li_65, li_78, li_120, li_1000, li_4000, li_10000, li_11077, li_255, li_65535, li_m1, li_m2, li_m1000000001, li_m1000000002, li_m1000000003, li_m1000000004, li_m1000000005, li_m1000000006, li_m1000000007, or_true, true_or, or_false, false_or, implies_true, true_implies, false_implies] <;> omega)), (by first | omega | decide | (simp only [fa_lt, fa_le, fa_eq, and_true, true_and, and_false, false_and, not_true_eq_false, not_false_eq_true, li_0, li_1, li_2, li_3, li_4, li_5, li_6, li_7, li_8, li_9, li_10, li_12, li_15, li_16, li_20, li_30, li_34, li_38, li_40, li_63, li_64, li_65, li_78, li_120, li_1000, li_4000, li_10000, li_11077, li_255, li_65535, li_m1, li_m2, li_m1000000001, li_m1000000002, li_m1000000003, li_m1000000004, li_m1000000005, li_m1000000006, li_m1000000007, or_true, true_or, or_false, false_or, implies_true, true_implies, false_implies] <;> omega)), rfl, rfl, lv_sub hl [0, 3, 1, 4, 5, 6, 7] rfl⟩
      · skip
        have tc_21 : a.toInt = 4 := (fa_eq _ _).mp c_21
        refine lv_iload_n hx hb dX9_throwsOf_18 rfl (lv_at hl 1 rfl) ?_
        refine lv_iload_n hx hb dX9_throwsOf_19 rfl (lv_at hl 2 rfl) ?_
        have hPc := hP.sub (ws' := []) [] rfl
        have hKc := hK.sub (tys' := []) [] rfl
        refine vp_callSi (W.runS (As := [.int b, .int d]) (rest := []) ⟨hx, hb, hml, hown, hts⟩ (m_mirrored l dC dI ad b d ) (va_cwS 2 hts g_m_throwsOf_m_mirrored_112 rfl rfl rfl (by decide +kernel) ⟨(Nat.le_of_ble_eq_true rfl), (Nat.le_of_ble_eq_true rfl)⟩) ⟨preS_blind, fun U hU hW => ⟨rfl, preS_at hU hW hPc hKc hev⟩⟩ rfl rfl hl.1 rfl (lv_room (Nat.le_of_ble_eq_true rfl)) dX9_throwsOf_20 ⟨(Nat.le_of_ble_eq_true rfl), (Nat.le_of_ble_eq_true rfl)⟩) (fun r_83 hw => ?_)
        refine lv_goto (tgt := 31) hx hb dX9_throwsOf_23 (by decide) ?_
        refine lv_istore_n (lv' := [(3, .int r_83), (0, .int a), (1, .int b), (2, .int d)]) hx hb dX9_throwsOf_31 rfl hl (by decide) rfl (fun ls hl => ?_)
        refine lv_iconst (v := 0) hx hb dX9_throwsOf_32 (by decide) ?_
        refine lv_istore (lv' := [(4, .int 0), (3, .int r_83), (0, .int a), (1, .int b), (2, .int d)]) hx hb dX9_throwsOf_33 hl (by decide) rfl (fun ls hl => ?_)
        refine lv_iconst (v := 0) hx hb dX9_throwsOf_35 (by decide) ?_
        refine lv_istore (lv' := [(5, .int 0), (4, .int 0), (3, .int r_83), (0, .int a), (1, .int b), (2, .int d)]) hx hb dX9_throwsOf_36 hl (by decide) rfl (fun ls hl => ?_)
        refine pp_loop (ι := Int32 × Int32) (fun ⟨v5_38, v4_38⟩ => (4 - v5_38.toInt).toNat) (fun ⟨v5_38, v4_38⟩ H locs ls => (0 ≤ v5_38.toInt) ∧ (v5_38.toInt ≤ 4) ∧ H = s.heap ∧ locs = [] ∧ lv_has ls 8 [(5, .int v5_38), (4, .int v4_38), (3, .int r_83), (0, .int a), (1, .int b), (2, .int d)]) ?_ (0, 0) _ _ _ ⟨(by first | omega | decide | (simp only [fa_lt, fa_le, fa_eq, and_true, true_and, and_false, false_and, not_true_eq_false, not_false_eq_true, li_0, li_1, li_2, li_3, li_4, li_5, li_6, li_7, li_8, li_9, li_10, li_12, li_15, li_16, li_20, li_30, li_34, li_38, li_40, li_63, li_64, li_65, li_78, li_120, li_1000, li_4000, li_10000, li_11077, li_255, li_65535, li_m1, li_m2, li_m1000000001, li_m1000000002, li_m1000000003, li_m1000000004, li_m1000000005, li_m1000000006, li_m1000000007, or_true, true_or, or_false, false_or, implies_true, true_implies, false_implies] <;> omega)), (by first | omega | decide | (simp only [fa_lt, fa_le, fa_eq, and_true, true_and, and_false, false_and, not_true_eq_false, not_false_eq_true, li_0, li_1, li_2, li_3, li_4, li_5, li_6, li_7, li_8, li_9, li_10, li_12, li_15, li_16, li_20, li_30, li_34, li_38, li_40, li_63, li_64, li_65, li_78, li_120, li_1000, li_4000, li_10000, li_11077, li_255, li_65535, li_m1, li_m2, li_m1000000001, li_m1000000002, li_m1000000003, li_m1000000004, li_m1000000005, li_m1000000006, li_m1000000007, or_true, true_or, or_false, false_or, implies_true, true_implies, false_implies] <;> omega)), rfl, rfl, lv_sub hl [0, 1, 2, 3, 4, 5] rfl⟩
        intro k_84 ihk_84 u H locs ls hm hI
        obtain ⟨v5_38, v4_38⟩ := u
        obtain ⟨jk_84_0, jk_84_1, rfl, rfl, hl⟩ := hI
        have hmk_84 : (4 - v5_38.toInt).toNat < k_84 + 1 := hm
        clear hm
        have jk_84_0 : 0 ≤ v5_38.toInt := jk_84_0
        have jk_84_1 : v5_38.toInt ≤ 4 := jk_84_1
        have hl : lv_has ls 8 [(5, .int v5_38), (4, .int v4_38), (3, .int r_83), (0, .int a), (1, .int b), (2, .int d)] := hl
        refine lv_iload hx hb dX9_throwsOf_38 (lv_at hl 0 rfl) ?_
        refine lv_iconst (v := 4) hx hb dX9_throwsOf_40 (by decide) ?_
        refine lv_icmp_ge (tgt := 191) hx hb dX9_throwsOf_41 (by decide) (fun c_85 => ?_) (fun c_85 => ?_)
        · skip
          have tc_85 : 4 ≤ v5_38.toInt := (fa_le _ _).mp c_85
          refine lv_iload hx hb dX9_throwsOf_191 (lv_at hl 1 rfl) ?_
          exact W.iret (v := v4_38) hx hb hr (fun t ht hW => ⟨v4_38, rfl, trivial, ht⟩) (fun _ h => absurd h List.not_mem_nil) dX9_throwsOf_193
        · skip
          have tc_85 : ¬ 4 ≤ v5_38.toInt := fun h => c_85 ((fa_le _ _).mpr h)
          refine lv_iconst (v := 0) hx hb dX9_throwsOf_44 (by decide) ?_
          refine lv_istore (lv' := [(6, .int 0), (5, .int v5_38), (4, .int v4_38), (3, .int r_83), (0, .int a), (1, .int b), (2, .int d)]) hx hb dX9_throwsOf_45 hl (by decide) rfl (fun ls hl => ?_)
          refine pp_loop (ι := Int32 × Int32) (fun ⟨v6_47, v4_47⟩ => (4 - v6_47.toInt).toNat) (fun ⟨v6_47, v4_47⟩ H locs ls => (0 ≤ v6_47.toInt) ∧ (v6_47.toInt ≤ 4) ∧ H = s.heap ∧ locs = [] ∧ lv_has ls 8 [(6, .int v6_47), (5, .int v5_38), (4, .int v4_47), (3, .int r_83), (0, .int a), (1, .int b), (2, .int d)]) ?_ (0, v4_38) _ _ _ ⟨(by first | omega | decide | (simp only [fa_lt, fa_le, fa_eq, and_true, true_and, and_false, false_and, not_true_eq_false, not_false_eq_true, li_0, li_1, li_2, li_3, li_4, li_5, li_6, li_7, li_8, li_9, li_10, li_12, li_15, li_16, li_20, li_30, li_34, li_38, li_40, li_63, li_64, li_65, li_78, li_120, li_1000, li_4000, li_10000, li_11077, li_255, li_65535, li_m1, li_m2, li_m1000000001, li_m1000000002, li_m1000000003, li_m1000000004, li_m1000000005, li_m1000000006, li_m1000000007, or_true, true_or, or_false, false_or, implies_true, true_implies, false_implies] <;> omega)), (by first | omega | decide | (simp only [fa_lt, fa_le, fa_eq, and_true, true_and, and_false, false_and, not_true_eq_false, not_false_eq_true, li_0, li_1, li_2, li_3, li_4, li_5, li_6, li_7, li_8, li_9, li_10, li_12, li_15, li_16, li_20, li_30, li_34, li_38, li_40, li_63, li_64, li_65, li_78, li_120, li_1000, li_4000, li_10000, li_11077, li_255, li_65535, li_m1, li_m2, li_m1000000001, li_m1000000002, li_m1000000003, li_m1000000004, li_m1000000005, li_m1000000006, li_m1000000007, or_true, true_or, or_false, false_or, implies_true, true_implies, false_implies] <;> omega)), rfl, rfl, lv_sub hl [0, 1, 2, 3, 4, 5, 6] rfl⟩
          intro k_86 ihk_86 u H locs ls hm hI
          obtain ⟨v6_47, v4_47⟩ := u
          obtain ⟨jk_86_0, jk_86_1, rfl, rfl, hl⟩ := hI
          have hmk_86 : (4 - v6_47.toInt).toNat < k_86 + 1 := hm
          clear hm
          have jk_86_0 : 0 ≤ v6_47.toInt := jk_86_0
          have jk_86_1 : v6_47.toInt ≤ 4 := jk_86_1
          have hl : lv_has ls 8 [(6, .int v6_47), (5, .int v5_38), (4, .int v4_47), (3, .int r_83), (0, .int a), (1, .int b), (2, .int d)] := hl
          refine lv_iload hx hb dX9_throwsOf_47 (lv_at hl 0 rfl) ?_
          refine lv_iconst (v := 4) hx hb dX9_throwsOf_49 (by decide) ?_
          refine lv_icmp_ge (tgt := 185) hx hb dX9_throwsOf_50 (by decide) (fun c_87 => ?_) (fun c_87 => ?_)
          · skip
            have tc_87 : 4 ≤ v6_47.toInt := (fa_le _ _).mp c_87
            obtain ⟨n_88, en_88⟩ : ∃ y : Int32, y = v5_38 + 1 := ⟨_, rfl⟩
            have tn_88 : n_88.toInt = v5_38.toInt + 1 := pp_add en_88 rfl rfl (by omega) (by omega)
            refine lv_iinc (v := n_88) (lv' := [(5, .int n_88), (6, .int v6_47), (4, .int v4_47), (3, .int r_83), (0, .int a), (1, .int b), (2, .int d)]) hx hb dX9_throwsOf_185 hl (k := 1) rfl (by rw [en_88]; rfl) (by decide) rfl (fun ls hl => ?_)
            clear en_88
            refine lv_goto (tgt := 38) hx hb dX9_throwsOf_188 (by decide) ?_
            exact ihk_84 (n_88, v4_47) _ _ _ (by show (4 - n_88.toInt).toNat < k_84; omega) ⟨(by first | omega | decide | (simp only [fa_lt, fa_le, fa_eq, and_true, true_and, and_false, false_and, not_true_eq_false, not_false_eq_true, li_0, li_1, li_2, li_3, li_4, li_5, li_6, li_7, li_8, li_9, li_10, li_12, li_15, li_16, li_20, li_30, li_34, li_38, li_40, li_63, li_64, li_65, li_78, li_120, li_1000, li_4000, li_10000, li_11077, li_255, li_65535, li_m1, li_m2, li_m1000000001, li_m1000000002, li_m1000000003, li_m1000000004, li_m1000000005, li_m1000000006, li_m1000000007, or_true, true_or, or_false, false_or, implies_true, true_implies, false_implies] <;> omega)), (by first | omega | decide | (simp only [fa_lt, fa_le, fa_eq, and_true, true_and, and_false, false_and, not_true_eq_false, not_false_eq_true, li_0, li_1, li_2, li_3, li_4, li_5, li_6, li_7, li_8, li_9, li_10, li_12, li_15, li_16, li_20, li_30, li_34, li_38, li_40, li_63, li_64, li_65, li_78, li_120, li_1000, li_4000, li_10000, li_11077, li_255, li_65535, li_m1, li_m2, li_m1000000001, li_m1000000002, li_m1000000003, li_m1000000004, li_m1000000005, li_m1000000006, li_m1000000007, or_true, true_or, or_false, false_or, implies_true, true_implies, false_implies] <;> omega)), rfl, rfl, lv_sub hl [0, 2, 3, 4, 5, 6] rfl⟩
          · skip
            have tc_87 : ¬ 4 ≤ v6_47.toInt := fun h => c_87 ((fa_le _ _).mpr h)
            refine lv_iload_n hx hb dX9_throwsOf_53 rfl (lv_at hl 3 rfl) ?_
            refine lv_iload hx hb dX9_throwsOf_54 (lv_at hl 1 rfl) ?_
            refine lv_iload hx hb dX9_throwsOf_56 (lv_at hl 0 rfl) ?_
            have hPc := hP.sub (ws' := []) [] rfl
            have hKc := hK.sub (tys' := []) [] rfl
            refine vp_callSi (W.runS (As := [.int r_83, .int v5_38, .int v6_47]) (rest := []) ⟨hx, hb, hml, hown, hts⟩ (m_has l dC dI ad r_83 v5_38 v6_47 ) (va_cwS 3 hts g_m_throwsOf_m_has_109 rfl rfl rfl (by decide +kernel) ⟨(Nat.le_of_ble_eq_true rfl), (Nat.le_of_ble_eq_true rfl)⟩) ⟨preS_blind, fun U hU hW => ⟨rfl, preS_at hU hW hPc hKc hev⟩⟩ rfl rfl hl.1 rfl (lv_room (Nat.le_of_ble_eq_true rfl)) dX9_throwsOf_58 ⟨(Nat.le_of_ble_eq_true rfl), (Nat.le_of_ble_eq_true rfl)⟩) (fun r_89 hw => ?_)
            refine lv_istore (lv' := [(7, .int r_89), (6, .int v6_47), (5, .int v5_38), (4, .int v4_47), (3, .int r_83), (0, .int a), (1, .int b), (2, .int d)]) hx hb dX9_throwsOf_61 hl (by decide) rfl (fun ls hl => ?_)
            refine lv_iload_n hx hb dX9_throwsOf_63 rfl (lv_at hl 5 rfl) ?_
            refine lv_iconst (v := 3) hx hb dX9_throwsOf_64 (by decide) ?_
            refine lv_icmp_ne (tgt := 92) hx hb dX9_throwsOf_65 (by decide) (fun c_90 => ?_) (fun c_90 => ?_)
            · skip
              have tc_90 : ¬ a.toInt = 3 := fun h => c_90 ((fa_eq _ _).mpr h)
              refine lv_iload_n hx hb dX9_throwsOf_92 rfl (lv_at hl 5 rfl) ?_
              refine lv_iconst (v := 4) hx hb dX9_throwsOf_93 (by decide) ?_
              refine lv_icmp_ne (tgt := 123) hx hb dX9_throwsOf_94 (by decide) (fun c_91 => ?_) (fun c_91 => ?_)
              · skip
                have tc_91 : ¬ a.toInt = 4 := fun h => c_91 ((fa_eq _ _).mpr h)
                exfalso; omega
              · skip
                have tc_91 : a.toInt = 4 := (fa_eq _ _).mp c_91
                refine lv_iload hx hb dX9_throwsOf_97 (lv_at hl 0 rfl) ?_
                refine lv_if_ne (tgt := 115) hx hb dX9_throwsOf_99 (by decide) (fun c_92 => ?_) (fun c_92 => ?_)
                · skip
                  have tc_92 : ¬ r_89.toInt = 0 := fun h => c_92 ((fa_eq _ _).mpr h)
                  refine lv_iconst (v := 1) hx hb dX9_throwsOf_115 (by decide) ?_
                  refine lv_goto (tgt := 154) hx hb dX9_throwsOf_116 (by decide) ?_
                  refine lv_istore (lv' := [(7, .int 1), (6, .int v6_47), (5, .int v5_38), (4, .int v4_47), (3, .int r_83), (0, .int a), (1, .int b), (2, .int d)]) hx hb dX9_throwsOf_154 hl (by decide) rfl (fun ls hl => ?_)
                  refine lv_iload hx hb dX9_throwsOf_156 (lv_at hl 3 rfl) ?_
                  refine lv_iload hx hb dX9_throwsOf_158 (lv_at hl 0 rfl) ?_
                  refine lv_if_eq (tgt := 175) hx hb dX9_throwsOf_160 (by decide) (fun c => absurd c (by decide)) (fun _ => ?_)
                  refine lv_iconst (v := 1) hx hb dX9_throwsOf_163 (by decide) ?_
                  refine lv_iconst (v := 4) hx hb dX9_throwsOf_164 (by decide) ?_
                  refine lv_iload hx hb dX9_throwsOf_165 (lv_at hl 2 rfl) ?_
                  refine lv_imul hx hb dX9_throwsOf_167 ?_
                  refine lv_topi (fun n_93 en_93 => ?_)
                  have tn_93 : n_93.toInt = 4 * v5_38.toInt := pp_mul en_93 rfl rfl (by omega) (by omega)
                  clear en_93
                  refine lv_iload hx hb dX9_throwsOf_168 (lv_at hl 1 rfl) ?_
                  refine lv_iadd hx hb dX9_throwsOf_170 ?_
                  refine lv_topi (fun n_94 en_94 => ?_)
                  have tn_94 : n_94.toInt = n_93.toInt + v6_47.toInt := pp_add en_94 rfl rfl (by omega) (by omega)
                  clear en_94
                  refine lv_ishl hx hb dX9_throwsOf_171 ?_
                  refine lv_topi (fun n_95 en_95 => ?_)
                  clear en_95
                  refine lv_goto (tgt := 176) hx hb dX9_throwsOf_172 (by decide) ?_
                  refine lv_ior hx hb dX9_throwsOf_176 ?_
                  refine lv_topi (fun n_96 en_96 => ?_)
                  clear en_96
                  refine lv_istore (lv' := [(4, .int n_96), (7, .int 1), (6, .int v6_47), (5, .int v5_38), (3, .int r_83), (0, .int a), (1, .int b), (2, .int d)]) hx hb dX9_throwsOf_177 hl (by decide) rfl (fun ls hl => ?_)
                  obtain ⟨n_97, en_97⟩ : ∃ y : Int32, y = v6_47 + 1 := ⟨_, rfl⟩
                  have tn_97 : n_97.toInt = v6_47.toInt + 1 := pp_add en_97 rfl rfl (by omega) (by omega)
                  refine lv_iinc (v := n_97) (lv' := [(6, .int n_97), (4, .int n_96), (7, .int 1), (5, .int v5_38), (3, .int r_83), (0, .int a), (1, .int b), (2, .int d)]) hx hb dX9_throwsOf_179 hl (k := 2) rfl (by rw [en_97]; rfl) (by decide) rfl (fun ls hl => ?_)
                  clear en_97
                  refine lv_goto (tgt := 47) hx hb dX9_throwsOf_182 (by decide) ?_
                  exact ihk_86 (n_97, n_96) _ _ _ (by show (4 - n_97.toInt).toNat < k_86; omega) ⟨(by first | omega | decide | (simp only [fa_lt, fa_le, fa_eq, and_true, true_and, and_false, false_and, not_true_eq_false, not_false_eq_true, li_0, li_1, li_2, li_3, li_4, li_5, li_6, li_7, li_8, li_9, li_10, li_12, li_15, li_16, li_20, li_30, li_34, li_38, li_40, li_63, li_64, li_65, li_78, li_120, li_1000, li_4000, li_10000, li_11077, li_255, li_65535, li_m1, li_m2, li_m1000000001, li_m1000000002, li_m1000000003, li_m1000000004, li_m1000000005, li_m1000000006, li_m1000000007, or_true, true_or, or_false, false_or, implies_true, true_implies, false_implies] <;> omega)), (by first | omega | decide | (simp only [fa_lt, fa_le, fa_eq, and_true, true_and, and_false, false_and, not_true_eq_false, not_false_eq_true, li_0, li_1, li_2, li_3, li_4, li_5, li_6, li_7, li_8, li_9, li_10, li_12, li_15, li_16, li_20, li_30, li_34, li_38, li_40, li_63, li_64, li_65, li_78, li_120, li_1000, li_4000, li_10000, li_11077, li_255, li_65535, li_m1, li_m2, li_m1000000001, li_m1000000002, li_m1000000003, li_m1000000004, li_m1000000005, li_m1000000006, li_m1000000007, or_true, true_or, or_false, false_or, implies_true, true_implies, false_implies] <;> omega)), rfl, rfl, lv_sub hl [0, 3, 1, 4, 5, 6, 7] rfl⟩
                · skip
                  have tc_92 : r_89.toInt = 0 := (fa_eq _ _).mp c_92
                  refine lv_iload_n hx hb dX9_throwsOf_102 rfl (lv_at hl 4 rfl) ?_
                  refine lv_iload hx hb dX9_throwsOf_103 (lv_at hl 2 rfl) ?_
                  refine lv_iconst (v := 1) hx hb dX9_throwsOf_105 (by decide) ?_
                  refine lv_isub hx hb dX9_throwsOf_106 ?_
                  refine lv_topi (fun n_98 en_98 => ?_)
                  have tn_98 : n_98.toInt = v5_38.toInt - 1 := pp_sub en_98 rfl rfl (by omega) (by omega)
                  clear en_98
                  refine lv_iload hx hb dX9_throwsOf_107 (lv_at hl 1 rfl) ?_
                  have hPc := hP.sub (ws' := []) [] rfl
                  have hKc := hK.sub (tys' := []) [] rfl
                  refine vp_callSi (W.runS (As := [.int r_83, .int n_98, .int v6_47]) (rest := []) ⟨hx, hb, hml, hown, hts⟩ (m_has l dC dI ad r_83 n_98 v6_47 ) (va_cwS 3 hts g_m_throwsOf_m_has_109 rfl rfl rfl (by decide +kernel) ⟨(Nat.le_of_ble_eq_true rfl), (Nat.le_of_ble_eq_true rfl)⟩) ⟨preS_blind, fun U hU hW => ⟨rfl, preS_at hU hW hPc hKc hev⟩⟩ rfl rfl hl.1 rfl (lv_room (Nat.le_of_ble_eq_true rfl)) dX9_throwsOf_109 ⟨(Nat.le_of_ble_eq_true rfl), (Nat.le_of_ble_eq_true rfl)⟩) (fun r_99 hw => ?_)
                  refine lv_if_eq (tgt := 119) hx hb dX9_throwsOf_112 (by decide) (fun c_100 => ?_) (fun c_100 => ?_)
                  · skip
                    have tc_100 : r_99.toInt = 0 := (fa_eq _ _).mp c_100
                    refine lv_iconst (v := 0) hx hb dX9_throwsOf_119 (by decide) ?_
                    refine lv_goto (tgt := 154) hx hb dX9_throwsOf_120 (by decide) ?_
                    refine lv_istore (lv' := [(7, .int 0), (6, .int v6_47), (5, .int v5_38), (4, .int v4_47), (3, .int r_83), (0, .int a), (1, .int b), (2, .int d)]) hx hb dX9_throwsOf_154 hl (by decide) rfl (fun ls hl => ?_)
                    refine lv_iload hx hb dX9_throwsOf_156 (lv_at hl 3 rfl) ?_
                    refine lv_iload hx hb dX9_throwsOf_158 (lv_at hl 0 rfl) ?_
                    refine lv_if_eq (tgt := 175) hx hb dX9_throwsOf_160 (by decide) (fun _ => ?_) (fun c => absurd (by decide) c)
                    refine lv_iconst (v := 0) hx hb dX9_throwsOf_175 (by decide) ?_
                    refine lv_ior hx hb dX9_throwsOf_176 ?_
                    refine lv_topi (fun n_101 en_101 => ?_)
                    clear en_101
                    refine lv_istore (lv' := [(4, .int n_101), (7, .int 0), (6, .int v6_47), (5, .int v5_38), (3, .int r_83), (0, .int a), (1, .int b), (2, .int d)]) hx hb dX9_throwsOf_177 hl (by decide) rfl (fun ls hl => ?_)
                    obtain ⟨n_102, en_102⟩ : ∃ y : Int32, y = v6_47 + 1 := ⟨_, rfl⟩
                    have tn_102 : n_102.toInt = v6_47.toInt + 1 := pp_add en_102 rfl rfl (by omega) (by omega)
                    refine lv_iinc (v := n_102) (lv' := [(6, .int n_102), (4, .int n_101), (7, .int 0), (5, .int v5_38), (3, .int r_83), (0, .int a), (1, .int b), (2, .int d)]) hx hb dX9_throwsOf_179 hl (k := 2) rfl (by rw [en_102]; rfl) (by decide) rfl (fun ls hl => ?_)
                    clear en_102
                    refine lv_goto (tgt := 47) hx hb dX9_throwsOf_182 (by decide) ?_
                    exact ihk_86 (n_102, n_101) _ _ _ (by show (4 - n_102.toInt).toNat < k_86; omega) ⟨(by first | omega | decide | (simp only [fa_lt, fa_le, fa_eq, and_true, true_and, and_false, false_and, not_true_eq_false, not_false_eq_true, li_0, li_1, li_2, li_3, li_4, li_5, li_6, li_7, li_8, li_9, li_10, li_12, li_15, li_16, li_20, li_30, li_34, li_38, li_40, li_63, li_64, li_65, li_78, li_120, li_1000, li_4000, li_10000, li_11077, li_255, li_65535, li_m1, li_m2, li_m1000000001, li_m1000000002, li_m1000000003, li_m1000000004, li_m1000000005, li_m1000000006, li_m1000000007, or_true, true_or, or_false, false_or, implies_true, true_implies, false_implies] <;> omega)), (by first | omega | decide | (simp only [fa_lt, fa_le, fa_eq, and_true, true_and, and_false, false_and, not_true_eq_false, not_false_eq_true, li_0, li_1, li_2, li_3, li_4, li_5, li_6, li_7, li_8, li_9, li_10, li_12, li_15, li_16, li_20, li_30, li_34, li_38, li_40, li_63, li_64, li_65, li_78, li_120, li_1000, li_4000, li_10000, li_11077, li_255, li_65535, li_m1, li_m2, li_m1000000001, li_m1000000002, li_m1000000003, li_m1000000004, li_m1000000005, li_m1000000006, li_m1000000007, or_true, true_or, or_false, false_or, implies_true, true_implies, false_implies] <;> omega)), rfl, rfl, lv_sub hl [0, 3, 1, 4, 5, 6, 7] rfl⟩
                  · skip
                    have tc_100 : ¬ r_99.toInt = 0 := fun h => c_100 ((fa_eq _ _).mpr h)
                    refine lv_iconst (v := 1) hx hb dX9_throwsOf_115 (by decide) ?_
                    refine lv_goto (tgt := 154) hx hb dX9_throwsOf_116 (by decide) ?_
                    refine lv_istore (lv' := [(7, .int 1), (6, .int v6_47), (5, .int v5_38), (4, .int v4_47), (3, .int r_83), (0, .int a), (1, .int b), (2, .int d)]) hx hb dX9_throwsOf_154 hl (by decide) rfl (fun ls hl => ?_)
                    refine lv_iload hx hb dX9_throwsOf_156 (lv_at hl 3 rfl) ?_
                    refine lv_iload hx hb dX9_throwsOf_158 (lv_at hl 0 rfl) ?_
                    refine lv_if_eq (tgt := 175) hx hb dX9_throwsOf_160 (by decide) (fun c => absurd c (by decide)) (fun _ => ?_)
                    refine lv_iconst (v := 1) hx hb dX9_throwsOf_163 (by decide) ?_
                    refine lv_iconst (v := 4) hx hb dX9_throwsOf_164 (by decide) ?_
                    refine lv_iload hx hb dX9_throwsOf_165 (lv_at hl 2 rfl) ?_
                    refine lv_imul hx hb dX9_throwsOf_167 ?_
                    refine lv_topi (fun n_103 en_103 => ?_)
                    have tn_103 : n_103.toInt = 4 * v5_38.toInt := pp_mul en_103 rfl rfl (by omega) (by omega)
                    clear en_103
                    refine lv_iload hx hb dX9_throwsOf_168 (lv_at hl 1 rfl) ?_
                    refine lv_iadd hx hb dX9_throwsOf_170 ?_
                    refine lv_topi (fun n_104 en_104 => ?_)
                    have tn_104 : n_104.toInt = n_103.toInt + v6_47.toInt := pp_add en_104 rfl rfl (by omega) (by omega)
                    clear en_104
                    refine lv_ishl hx hb dX9_throwsOf_171 ?_
                    refine lv_topi (fun n_105 en_105 => ?_)
                    clear en_105
                    refine lv_goto (tgt := 176) hx hb dX9_throwsOf_172 (by decide) ?_
                    refine lv_ior hx hb dX9_throwsOf_176 ?_
                    refine lv_topi (fun n_106 en_106 => ?_)
                    clear en_106
                    refine lv_istore (lv' := [(4, .int n_106), (7, .int 1), (6, .int v6_47), (5, .int v5_38), (3, .int r_83), (0, .int a), (1, .int b), (2, .int d)]) hx hb dX9_throwsOf_177 hl (by decide) rfl (fun ls hl => ?_)
                    obtain ⟨n_107, en_107⟩ : ∃ y : Int32, y = v6_47 + 1 := ⟨_, rfl⟩
                    have tn_107 : n_107.toInt = v6_47.toInt + 1 := pp_add en_107 rfl rfl (by omega) (by omega)
                    refine lv_iinc (v := n_107) (lv' := [(6, .int n_107), (4, .int n_106), (7, .int 1), (5, .int v5_38), (3, .int r_83), (0, .int a), (1, .int b), (2, .int d)]) hx hb dX9_throwsOf_179 hl (k := 2) rfl (by rw [en_107]; rfl) (by decide) rfl (fun ls hl => ?_)
                    clear en_107
                    refine lv_goto (tgt := 47) hx hb dX9_throwsOf_182 (by decide) ?_
                    exact ihk_86 (n_107, n_106) _ _ _ (by show (4 - n_107.toInt).toNat < k_86; omega) ⟨(by first | omega | decide | (simp only [fa_lt, fa_le, fa_eq, and_true, true_and, and_false, false_and, not_true_eq_false, not_false_eq_true, li_0, li_1, li_2, li_3, li_4, li_5, li_6, li_7, li_8, li_9, li_10, li_12, li_15, li_16, li_20, li_30, li_34, li_38, li_40, li_63, li_64, li_65, li_78, li_120, li_1000, li_4000, li_10000, li_11077, li_255, li_65535, li_m1, li_m2, li_m1000000001, li_m1000000002, li_m1000000003, li_m1000000004, li_m1000000005, li_m1000000006, li_m1000000007, or_true, true_or, or_false, false_or, implies_true, true_implies, false_implies] <;> omega)), (by first | omega | decide | (simp only [fa_lt, fa_le, fa_eq, and_true, true_and, and_false, false_and, not_true_eq_false, not_false_eq_true, li_0, li_1, li_2, li_3, li_4, li_5, li_6, li_7, li_8, li_9, li_10, li_12, li_15, li_16, li_20, li_30, li_34, li_38, li_40, li_63, li_64, li_65, li_78, li_120, li_1000, li_4000, li_10000, li_11077, li_255, li_65535, li_m1, li_m2, li_m1000000001, li_m1000000002, li_m1000000003, li_m1000000004, li_m1000000005, li_m1000000006, li_m1000000007, or_true, true_or, or_false, false_or, implies_true, true_implies, false_implies] <;> omega)), rfl, rfl, lv_sub hl [0, 3, 1, 4, 5, 6, 7] rfl⟩
            · skip
              have tc_90 : a.toInt = 3 := (fa_eq _ _).mp c_90
              exfalso; omega
  · skip
    have tc_1 : a.toInt = 0 := (fa_eq _ _).mp c_1
    refine lv_iload_n hx hb dX9_throwsOf_4 rfl (lv_at hl 1 rfl) ?_
    refine lv_goto (tgt := 31) hx hb dX9_throwsOf_5 (by decide) ?_
    refine lv_istore_n (lv' := [(3, .int b), (0, .int a), (1, .int b), (2, .int d)]) hx hb dX9_throwsOf_31 rfl hl (by decide) rfl (fun ls hl => ?_)
    refine lv_iconst (v := 0) hx hb dX9_throwsOf_32 (by decide) ?_
    refine lv_istore (lv' := [(4, .int 0), (3, .int b), (0, .int a), (1, .int b), (2, .int d)]) hx hb dX9_throwsOf_33 hl (by decide) rfl (fun ls hl => ?_)
    refine lv_iconst (v := 0) hx hb dX9_throwsOf_35 (by decide) ?_
    refine lv_istore (lv' := [(5, .int 0), (4, .int 0), (3, .int b), (0, .int a), (1, .int b), (2, .int d)]) hx hb dX9_throwsOf_36 hl (by decide) rfl (fun ls hl => ?_)
    refine pp_loop (ι := Int32 × Int32) (fun ⟨v5_38, v4_38⟩ => (4 - v5_38.toInt).toNat) (fun ⟨v5_38, v4_38⟩ H locs ls => (0 ≤ v5_38.toInt) ∧ (v5_38.toInt ≤ 4) ∧ H = s.heap ∧ locs = [] ∧ lv_has ls 8 [(5, .int v5_38), (4, .int v4_38), (3, .int b), (0, .int a), (1, .int b), (2, .int d)]) ?_ (0, 0) _ _ _ ⟨(by first | omega | decide | (simp only [fa_lt, fa_le, fa_eq, and_true, true_and, and_false, false_and, not_true_eq_false, not_false_eq_true, li_0, li_1, li_2, li_3, li_4, li_5, li_6, li_7, li_8, li_9, li_10, li_12, li_15, li_16, li_20, li_30, li_34, li_38, li_40, li_63, li_64, li_65, li_78, li_120, li_1000, li_4000, li_10000, li_11077, li_255, li_65535, li_m1, li_m2, li_m1000000001, li_m1000000002, li_m1000000003, li_m1000000004, li_m1000000005, li_m1000000006, li_m1000000007, or_true, true_or, or_false, false_or, implies_true, true_implies, false_implies] <;> omega)), (by first | omega | decide | (simp only [fa_lt, fa_le, fa_eq, and_true, true_and, and_false, false_and, not_true_eq_false, not_false_eq_true, li_0, li_1, li_2, li_3, li_4, li_5, li_6, li_7, li_8, li_9, li_10, li_12, li_15, li_16, li_20, li_30, li_34, li_38, li_40, li_63, li_64, li_65, li_78, li_120, li_1000, li_4000, li_10000, li_11077, li_255, li_65535, li_m1, li_m2, li_m1000000001, li_m1000000002, li_m1000000003, li_m1000000004, li_m1000000005, li_m1000000006, li_m1000000007, or_true, true_or, or_false, false_or, implies_true, true_implies, false_implies] <;> omega)), rfl, rfl, lv_sub hl [0, 1, 2, 3, 4, 5] rfl⟩
    intro k_108 ihk_108 u H locs ls hm hI
    obtain ⟨v5_38, v4_38⟩ := u
    obtain ⟨jk_108_0, jk_108_1, rfl, rfl, hl⟩ := hI
    have hmk_108 : (4 - v5_38.toInt).toNat < k_108 + 1 := hm
    clear hm
    have jk_108_0 : 0 ≤ v5_38.toInt := jk_108_0
    have jk_108_1 : v5_38.toInt ≤ 4 := jk_108_1
    have hl : lv_has ls 8 [(5, .int v5_38), (4, .int v4_38), (3, .int b), (0, .int a), (1, .int b), (2, .int d)] := hl
    refine lv_iload hx hb dX9_throwsOf_38 (lv_at hl 0 rfl) ?_
    refine lv_iconst (v := 4) hx hb dX9_throwsOf_40 (by decide) ?_
    refine lv_icmp_ge (tgt := 191) hx hb dX9_throwsOf_41 (by decide) (fun c_109 => ?_) (fun c_109 => ?_)
    · skip
      have tc_109 : 4 ≤ v5_38.toInt := (fa_le _ _).mp c_109
      refine lv_iload hx hb dX9_throwsOf_191 (lv_at hl 1 rfl) ?_
      exact W.iret (v := v4_38) hx hb hr (fun t ht hW => ⟨v4_38, rfl, trivial, ht⟩) (fun _ h => absurd h List.not_mem_nil) dX9_throwsOf_193
    · skip
      have tc_109 : ¬ 4 ≤ v5_38.toInt := fun h => c_109 ((fa_le _ _).mpr h)
      refine lv_iconst (v := 0) hx hb dX9_throwsOf_44 (by decide) ?_
      refine lv_istore (lv' := [(6, .int 0), (5, .int v5_38), (4, .int v4_38), (3, .int b), (0, .int a), (1, .int b), (2, .int d)]) hx hb dX9_throwsOf_45 hl (by decide) rfl (fun ls hl => ?_)
      refine pp_loop (ι := Int32 × Int32) (fun ⟨v6_47, v4_47⟩ => (4 - v6_47.toInt).toNat) (fun ⟨v6_47, v4_47⟩ H locs ls => (0 ≤ v6_47.toInt) ∧ (v6_47.toInt ≤ 4) ∧ H = s.heap ∧ locs = [] ∧ lv_has ls 8 [(6, .int v6_47), (5, .int v5_38), (4, .int v4_47), (3, .int b), (0, .int a), (1, .int b), (2, .int d)]) ?_ (0, v4_38) _ _ _ ⟨(by first | omega | decide | (simp only [fa_lt, fa_le, fa_eq, and_true, true_and, and_false, false_and, not_true_eq_false, not_false_eq_true, li_0, li_1, li_2, li_3, li_4, li_5, li_6, li_7, li_8, li_9, li_10, li_12, li_15, li_16, li_20, li_30, li_34, li_38, li_40, li_63, li_64, li_65, li_78, li_120, li_1000, li_4000, li_10000, li_11077, li_255, li_65535, li_m1, li_m2, li_m1000000001, li_m1000000002, li_m1000000003, li_m1000000004, li_m1000000005, li_m1000000006, li_m1000000007, or_true, true_or, or_false, false_or, implies_true, true_implies, false_implies] <;> omega)), (by first | omega | decide | (simp only [fa_lt, fa_le, fa_eq, and_true, true_and, and_false, false_and, not_true_eq_false, not_false_eq_true, li_0, li_1, li_2, li_3, li_4, li_5, li_6, li_7, li_8, li_9, li_10, li_12, li_15, li_16, li_20, li_30, li_34, li_38, li_40, li_63, li_64, li_65, li_78, li_120, li_1000, li_4000, li_10000, li_11077, li_255, li_65535, li_m1, li_m2, li_m1000000001, li_m1000000002, li_m1000000003, li_m1000000004, li_m1000000005, li_m1000000006, li_m1000000007, or_true, true_or, or_false, false_or, implies_true, true_implies, false_implies] <;> omega)), rfl, rfl, lv_sub hl [0, 1, 2, 3, 4, 5, 6] rfl⟩
      intro k_110 ihk_110 u H locs ls hm hI
      obtain ⟨v6_47, v4_47⟩ := u
      obtain ⟨jk_110_0, jk_110_1, rfl, rfl, hl⟩ := hI
      have hmk_110 : (4 - v6_47.toInt).toNat < k_110 + 1 := hm
      clear hm
      have jk_110_0 : 0 ≤ v6_47.toInt := jk_110_0
      have jk_110_1 : v6_47.toInt ≤ 4 := jk_110_1
      have hl : lv_has ls 8 [(6, .int v6_47), (5, .int v5_38), (4, .int v4_47), (3, .int b), (0, .int a), (1, .int b), (2, .int d)] := hl
      refine lv_iload hx hb dX9_throwsOf_47 (lv_at hl 0 rfl) ?_
      refine lv_iconst (v := 4) hx hb dX9_throwsOf_49 (by decide) ?_
      refine lv_icmp_ge (tgt := 185) hx hb dX9_throwsOf_50 (by decide) (fun c_111 => ?_) (fun c_111 => ?_)
      · skip
        have tc_111 : 4 ≤ v6_47.toInt := (fa_le _ _).mp c_111
        obtain ⟨n_112, en_112⟩ : ∃ y : Int32, y = v5_38 + 1 := ⟨_, rfl⟩
        have tn_112 : n_112.toInt = v5_38.toInt + 1 := pp_add en_112 rfl rfl (by omega) (by omega)
        refine lv_iinc (v := n_112) (lv' := [(5, .int n_112), (6, .int v6_47), (4, .int v4_47), (3, .int b), (0, .int a), (1, .int b), (2, .int d)]) hx hb dX9_throwsOf_185 hl (k := 1) rfl (by rw [en_112]; rfl) (by decide) rfl (fun ls hl => ?_)
        clear en_112
        refine lv_goto (tgt := 38) hx hb dX9_throwsOf_188 (by decide) ?_
        exact ihk_108 (n_112, v4_47) _ _ _ (by show (4 - n_112.toInt).toNat < k_108; omega) ⟨(by first | omega | decide | (simp only [fa_lt, fa_le, fa_eq, and_true, true_and, and_false, false_and, not_true_eq_false, not_false_eq_true, li_0, li_1, li_2, li_3, li_4, li_5, li_6, li_7, li_8, li_9, li_10, li_12, li_15, li_16, li_20, li_30, li_34, li_38, li_40, li_63, li_64, li_65, li_78, li_120, li_1000, li_4000, li_10000, li_11077, li_255, li_65535, li_m1, li_m2, li_m1000000001, li_m1000000002, li_m1000000003, li_m1000000004, li_m1000000005, li_m1000000006, li_m1000000007, or_true, true_or, or_false, false_or, implies_true, true_implies, false_implies] <;> omega)), (by first | omega | decide | (simp only [fa_lt, fa_le, fa_eq, and_true, true_and, and_false, false_and, not_true_eq_false, not_false_eq_true, li_0, li_1, li_2, li_3, li_4, li_5, li_6, li_7, li_8, li_9, li_10, li_12, li_15, li_16, li_20, li_30, li_34, li_38, li_40, li_63, li_64, li_65, li_78, li_120, li_1000, li_4000, li_10000, li_11077, li_255, li_65535, li_m1, li_m2, li_m1000000001, li_m1000000002, li_m1000000003, li_m1000000004, li_m1000000005, li_m1000000006, li_m1000000007, or_true, true_or, or_false, false_or, implies_true, true_implies, false_implies] <;> omega)), rfl, rfl, lv_sub hl [0, 2, 3, 4, 5, 6] rfl⟩
      · skip
        have tc_111 : ¬ 4 ≤ v6_47.toInt := fun h => c_111 ((fa_le _ _).mpr h)
        refine lv_iload_n hx hb dX9_throwsOf_53 rfl (lv_at hl 3 rfl) ?_
        refine lv_iload hx hb dX9_throwsOf_54 (lv_at hl 1 rfl) ?_
        refine lv_iload hx hb dX9_throwsOf_56 (lv_at hl 0 rfl) ?_
        have hPc := hP.sub (ws' := []) [] rfl
        have hKc := hK.sub (tys' := []) [] rfl
        refine vp_callSi (W.runS (As := [.int b, .int v5_38, .int v6_47]) (rest := []) ⟨hx, hb, hml, hown, hts⟩ (m_has l dC dI ad b v5_38 v6_47 ) (va_cwS 3 hts g_m_throwsOf_m_has_109 rfl rfl rfl (by decide +kernel) ⟨(Nat.le_of_ble_eq_true rfl), (Nat.le_of_ble_eq_true rfl)⟩) ⟨preS_blind, fun U hU hW => ⟨rfl, preS_at hU hW hPc hKc hev⟩⟩ rfl rfl hl.1 rfl (lv_room (Nat.le_of_ble_eq_true rfl)) dX9_throwsOf_58 ⟨(Nat.le_of_ble_eq_true rfl), (Nat.le_of_ble_eq_true rfl)⟩) (fun r_113 hw => ?_)
        refine lv_istore (lv' := [(7, .int r_113), (6, .int v6_47), (5, .int v5_38), (4, .int v4_47), (3, .int b), (0, .int a), (1, .int b), (2, .int d)]) hx hb dX9_throwsOf_61 hl (by decide) rfl (fun ls hl => ?_)
        refine lv_iload_n hx hb dX9_throwsOf_63 rfl (lv_at hl 5 rfl) ?_
        refine lv_iconst (v := 3) hx hb dX9_throwsOf_64 (by decide) ?_
        refine lv_icmp_ne (tgt := 92) hx hb dX9_throwsOf_65 (by decide) (fun c_114 => ?_) (fun c_114 => ?_)
        · skip
          have tc_114 : ¬ a.toInt = 3 := fun h => c_114 ((fa_eq _ _).mpr h)
          refine lv_iload_n hx hb dX9_throwsOf_92 rfl (lv_at hl 5 rfl) ?_
          refine lv_iconst (v := 4) hx hb dX9_throwsOf_93 (by decide) ?_
          refine lv_icmp_ne (tgt := 123) hx hb dX9_throwsOf_94 (by decide) (fun c_115 => ?_) (fun c_115 => ?_)
          · skip
            have tc_115 : ¬ a.toInt = 4 := fun h => c_115 ((fa_eq _ _).mpr h)
            refine lv_iload_n hx hb dX9_throwsOf_123 rfl (lv_at hl 5 rfl) ?_
            refine lv_iconst (v := 5) hx hb dX9_throwsOf_124 (by decide) ?_
            refine lv_icmp_ne (tgt := 152) hx hb dX9_throwsOf_125 (by decide) (fun c_116 => ?_) (fun c_116 => ?_)
            · skip
              have tc_116 : ¬ a.toInt = 5 := fun h => c_116 ((fa_eq _ _).mpr h)
              refine lv_iload hx hb dX9_throwsOf_152 (lv_at hl 0 rfl) ?_
              refine lv_istore (lv' := [(7, .int r_113), (6, .int v6_47), (5, .int v5_38), (4, .int v4_47), (3, .int b), (0, .int a), (1, .int b), (2, .int d)]) hx hb dX9_throwsOf_154 hl (by decide) rfl (fun ls hl => ?_)
              refine lv_iload hx hb dX9_throwsOf_156 (lv_at hl 3 rfl) ?_
              refine lv_iload hx hb dX9_throwsOf_158 (lv_at hl 0 rfl) ?_
              refine lv_if_eq (tgt := 175) hx hb dX9_throwsOf_160 (by decide) (fun c_117 => ?_) (fun c_117 => ?_)
              · skip
                have tc_117 : r_113.toInt = 0 := (fa_eq _ _).mp c_117
                refine lv_iconst (v := 0) hx hb dX9_throwsOf_175 (by decide) ?_
                refine lv_ior hx hb dX9_throwsOf_176 ?_
                refine lv_topi (fun n_118 en_118 => ?_)
                clear en_118
                refine lv_istore (lv' := [(4, .int n_118), (7, .int r_113), (6, .int v6_47), (5, .int v5_38), (3, .int b), (0, .int a), (1, .int b), (2, .int d)]) hx hb dX9_throwsOf_177 hl (by decide) rfl (fun ls hl => ?_)
                obtain ⟨n_119, en_119⟩ : ∃ y : Int32, y = v6_47 + 1 := ⟨_, rfl⟩
                have tn_119 : n_119.toInt = v6_47.toInt + 1 := pp_add en_119 rfl rfl (by omega) (by omega)
                refine lv_iinc (v := n_119) (lv' := [(6, .int n_119), (4, .int n_118), (7, .int r_113), (5, .int v5_38), (3, .int b), (0, .int a), (1, .int b), (2, .int d)]) hx hb dX9_throwsOf_179 hl (k := 2) rfl (by rw [en_119]; rfl) (by decide) rfl (fun ls hl => ?_)
                clear en_119
                refine lv_goto (tgt := 47) hx hb dX9_throwsOf_182 (by decide) ?_
                exact ihk_110 (n_119, n_118) _ _ _ (by show (4 - n_119.toInt).toNat < k_110; omega) ⟨(by first | omega | decide | (simp only [fa_lt, fa_le, fa_eq, and_true, true_and, and_false, false_and, not_true_eq_false, not_false_eq_true, li_0, li_1, li_2, li_3, li_4, li_5, li_6, li_7, li_8, li_9, li_10, li_12, li_15, li_16, li_20, li_30, li_34, li_38, li_40, li_63, li_64, li_65, li_78, li_120, li_1000, li_4000, li_10000, li_11077, li_255, li_65535, li_m1, li_m2, li_m1000000001, li_m1000000002, li_m1000000003, li_m1000000004, li_m1000000005, li_m1000000006, li_m1000000007, or_true, true_or, or_false, false_or, implies_true, true_implies, false_implies] <;> omega)), (by first | omega | decide | (simp only [fa_lt, fa_le, fa_eq, and_true, true_and, and_false, false_and, not_true_eq_false, not_false_eq_true, li_0, li_1, li_2, li_3, li_4, li_5, li_6, li_7, li_8, li_9, li_10, li_12, li_15, li_16, li_20, li_30, li_34, li_38, li_40, li_63, li_64, li_65, li_78, li_120, li_1000, li_4000, li_10000, li_11077, li_255, li_65535, li_m1, li_m2, li_m1000000001, li_m1000000002, li_m1000000003, li_m1000000004, li_m1000000005, li_m1000000006, li_m1000000007, or_true, true_or, or_false, false_or, implies_true, true_implies, false_implies] <;> omega)), rfl, rfl, lv_sub hl [0, 3, 1, 4, 5, 6, 7] rfl⟩
              · skip
                have tc_117 : ¬ r_113.toInt = 0 := fun h => c_117 ((fa_eq _ _).mpr h)
                refine lv_iconst (v := 1) hx hb dX9_throwsOf_163 (by decide) ?_
                refine lv_iconst (v := 4) hx hb dX9_throwsOf_164 (by decide) ?_
                refine lv_iload hx hb dX9_throwsOf_165 (lv_at hl 2 rfl) ?_
                refine lv_imul hx hb dX9_throwsOf_167 ?_
                refine lv_topi (fun n_120 en_120 => ?_)
                have tn_120 : n_120.toInt = 4 * v5_38.toInt := pp_mul en_120 rfl rfl (by omega) (by omega)
                clear en_120
                refine lv_iload hx hb dX9_throwsOf_168 (lv_at hl 1 rfl) ?_
                refine lv_iadd hx hb dX9_throwsOf_170 ?_
                refine lv_topi (fun n_121 en_121 => ?_)
                have tn_121 : n_121.toInt = n_120.toInt + v6_47.toInt := pp_add en_121 rfl rfl (by omega) (by omega)
                clear en_121
                refine lv_ishl hx hb dX9_throwsOf_171 ?_
                refine lv_topi (fun n_122 en_122 => ?_)
                clear en_122
                refine lv_goto (tgt := 176) hx hb dX9_throwsOf_172 (by decide) ?_
                refine lv_ior hx hb dX9_throwsOf_176 ?_
                refine lv_topi (fun n_123 en_123 => ?_)
                clear en_123
                refine lv_istore (lv' := [(4, .int n_123), (7, .int r_113), (6, .int v6_47), (5, .int v5_38), (3, .int b), (0, .int a), (1, .int b), (2, .int d)]) hx hb dX9_throwsOf_177 hl (by decide) rfl (fun ls hl => ?_)
                obtain ⟨n_124, en_124⟩ : ∃ y : Int32, y = v6_47 + 1 := ⟨_, rfl⟩
                have tn_124 : n_124.toInt = v6_47.toInt + 1 := pp_add en_124 rfl rfl (by omega) (by omega)
                refine lv_iinc (v := n_124) (lv' := [(6, .int n_124), (4, .int n_123), (7, .int r_113), (5, .int v5_38), (3, .int b), (0, .int a), (1, .int b), (2, .int d)]) hx hb dX9_throwsOf_179 hl (k := 2) rfl (by rw [en_124]; rfl) (by decide) rfl (fun ls hl => ?_)
                clear en_124
                refine lv_goto (tgt := 47) hx hb dX9_throwsOf_182 (by decide) ?_
                exact ihk_110 (n_124, n_123) _ _ _ (by show (4 - n_124.toInt).toNat < k_110; omega) ⟨(by first | omega | decide | (simp only [fa_lt, fa_le, fa_eq, and_true, true_and, and_false, false_and, not_true_eq_false, not_false_eq_true, li_0, li_1, li_2, li_3, li_4, li_5, li_6, li_7, li_8, li_9, li_10, li_12, li_15, li_16, li_20, li_30, li_34, li_38, li_40, li_63, li_64, li_65, li_78, li_120, li_1000, li_4000, li_10000, li_11077, li_255, li_65535, li_m1, li_m2, li_m1000000001, li_m1000000002, li_m1000000003, li_m1000000004, li_m1000000005, li_m1000000006, li_m1000000007, or_true, true_or, or_false, false_or, implies_true, true_implies, false_implies] <;> omega)), (by first | omega | decide | (simp only [fa_lt, fa_le, fa_eq, and_true, true_and, and_false, false_and, not_true_eq_false, not_false_eq_true, li_0, li_1, li_2, li_3, li_4, li_5, li_6, li_7, li_8, li_9, li_10, li_12, li_15, li_16, li_20, li_30, li_34, li_38, li_40, li_63, li_64, li_65, li_78, li_120, li_1000, li_4000, li_10000, li_11077, li_255, li_65535, li_m1, li_m2, li_m1000000001, li_m1000000002, li_m1000000003, li_m1000000004, li_m1000000005, li_m1000000006, li_m1000000007, or_true, true_or, or_false, false_or, implies_true, true_implies, false_implies] <;> omega)), rfl, rfl, lv_sub hl [0, 3, 1, 4, 5, 6, 7] rfl⟩
            · skip
              have tc_116 : a.toInt = 5 := (fa_eq _ _).mp c_116
              exfalso; omega
          · skip
            have tc_115 : a.toInt = 4 := (fa_eq _ _).mp c_115
            exfalso; omega
        · skip
          have tc_114 : a.toInt = 3 := (fa_eq _ _).mp c_114
          exfalso; omega

def w_m_isPlacing : List Cond := .code yX9_isPlacing cX9_isPlacing 1 (some .boolean) :: (([.methodLink RX9 75 yX9_within, .static yX9_within, .initialized RX9, .code yX9_within cX9_within 3 (some .boolean)] : List Cond))
set_option maxRecDepth 20000 in
theorem g_m_isPlacing_m_within_75 : GoodIn w_m_isPlacing (va_wsS RX9 75 yX9_within w_m_within) := goodIn_r _ [1, 2, 3, 4] rfl (by decide +kernel)
set_option maxHeartbeats 4000000 in
set_option maxRecDepth 100000 in
theorem m_isPlacing (l : Launch) (dC : Nat → ClassId) (dI : Nat → Nat → Nat) (ad : Nat → Nat) (a : Int32) : Met l yX9_isPlacing w_m_isPlacing ({ frames := 1, cells := 0, slots := 0, locals := 22 } : Room) (va_Pc [.int a] (preS dC dI ad [] [])) (vp_Si (fun r => True)) 0 0 (fun _ => False) := by
  refine Met.ofW (cc := cX9_isPlacing) (maxL := 1) (ret := (some .boolean)) (by decide) rfl ?_
  intro p e s m args below meth c s₁ B hml hv
  obtain ⟨rfl, hP, hK, hev⟩ := hv
  have hx := B.exec
  have hb := B.bytes
  have hr := B.returns
  have hts := atoms_spec (ws := w_m_isPlacing) B.pre
  have hown : s.vm.findClass RX9 = some m.cls := findClass_of_methodNamed B.named
  have hlocks := B.notSynchronized
  have hP : va_P (dC, dI) vwCl [] s.heap := hP
  have hl := lv_entry ([.int a]) (n := 1) (Nat.le_of_ble_eq_true rfl)
  rw [lg_entry_eq]
  generalize (lg_sl ([.int a]) ++ List.replicate (1 - (lg_sl ([.int a])).length) Slot.unset).toArray = ls at hl ⊢
  have hl : lv_has ls 1 [(0, .int a)] := hl
  refine lv_iload_n hx hb dX9_isPlacing_0 rfl (lv_at hl 0 rfl) ?_
  refine lv_sipush (v := 4000) hx hb dX9_isPlacing_1 (by decide) ?_
  refine lv_sipush (v := 11077) hx hb dX9_isPlacing_4 (by decide) ?_
  have hPc := hP.sub (ws' := []) [] rfl
  have hKc := hK.sub (tys' := []) [] rfl
  refine vp_callSi (W.runS (As := [.int a, .int 4000, .int 11077]) (rest := []) ⟨hx, hb, hml, hown, hts⟩ (m_within l dC dI ad a 4000 11077 ) (va_cwS 3 hts g_m_isPlacing_m_within_75 rfl rfl rfl (by decide +kernel) ⟨(Nat.le_of_ble_eq_true rfl), (Nat.le_of_ble_eq_true rfl)⟩) ⟨preS_blind, fun U hU hW => ⟨rfl, preS_at hU hW hPc hKc hev⟩⟩ rfl rfl hl.1 rfl (lv_room (Nat.le_of_ble_eq_true rfl)) dX9_isPlacing_7 ⟨(Nat.le_of_ble_eq_true rfl), (Nat.le_of_ble_eq_true rfl)⟩) (fun r_1 hw => ?_)
  have hr_1 : (r_1.toInt = 1 ∧ 4000 ≤ a.toInt ∧ a.toInt ≤ 11077) ∨ (r_1.toInt = 0 ∧ ¬ (4000 ≤ a.toInt ∧ a.toInt ≤ 11077)) := hw
  refine lv_if_eq (tgt := 36) hx hb dX9_isPlacing_10 (by decide) (fun c_2 => ?_) (fun c_2 => ?_)
  · skip
    have tc_2 : r_1.toInt = 0 := (fa_eq _ _).mp c_2
    refine lv_iconst (v := 0) hx hb dX9_isPlacing_36 (by decide) ?_
    exact W.zret (v := (0 : Int32)) hx hb hr (by decide) (fun t ht hW => ⟨(0 : Int32), rfl, trivial, ht⟩) (fun _ h => absurd h List.not_mem_nil) dX9_isPlacing_37
  · skip
    have tc_2 : ¬ r_1.toInt = 0 := fun h => c_2 ((fa_eq _ _).mpr h)
    refine lv_iload_n hx hb dX9_isPlacing_13 rfl (lv_at hl 0 rfl) ?_
    refine lv_sipush (v := 1000) hx hb dX9_isPlacing_14 (by decide) ?_
    refine lv_irem hx hb dX9_isPlacing_17 (by decide) ?_
    refine lv_topi (fun n_3 en_3 => ?_)
    clear en_3
    refine lv_bipush (v := 78) hx hb dX9_isPlacing_18 (by decide) ?_
    refine lv_icmp_ge (tgt := 36) hx hb dX9_isPlacing_20 (by decide) (fun c_4 => ?_) (fun c_4 => ?_)
    · skip
      have tc_4 : 78 ≤ n_3.toInt := (fa_le _ _).mp c_4
      refine lv_iconst (v := 0) hx hb dX9_isPlacing_36 (by decide) ?_
      exact W.zret (v := (0 : Int32)) hx hb hr (by decide) (fun t ht hW => ⟨(0 : Int32), rfl, trivial, ht⟩) (fun _ h => absurd h List.not_mem_nil) dX9_isPlacing_37
    · skip
      have tc_4 : ¬ 78 ≤ n_3.toInt := fun h => c_4 ((fa_le _ _).mpr h)
      refine lv_iload_n hx hb dX9_isPlacing_23 rfl (lv_at hl 0 rfl) ?_
      refine lv_bipush (v := 10) hx hb dX9_isPlacing_24 (by decide) ?_
      refine lv_irem hx hb dX9_isPlacing_26 (by decide) ?_
      refine lv_topi (fun n_5 en_5 => ?_)
      clear en_5
      refine lv_bipush (v := 8) hx hb dX9_isPlacing_27 (by decide) ?_
      refine lv_icmp_ge (tgt := 36) hx hb dX9_isPlacing_29 (by decide) (fun c_6 => ?_) (fun c_6 => ?_)
      · skip
        have tc_6 : 8 ≤ n_5.toInt := (fa_le _ _).mp c_6
        refine lv_iconst (v := 0) hx hb dX9_isPlacing_36 (by decide) ?_
        exact W.zret (v := (0 : Int32)) hx hb hr (by decide) (fun t ht hW => ⟨(0 : Int32), rfl, trivial, ht⟩) (fun _ h => absurd h List.not_mem_nil) dX9_isPlacing_37
      · skip
        have tc_6 : ¬ 8 ≤ n_5.toInt := fun h => c_6 ((fa_le _ _).mpr h)
        refine lv_iconst (v := 1) hx hb dX9_isPlacing_32 (by decide) ?_
        refine lv_goto (tgt := 37) hx hb dX9_isPlacing_33 (by decide) ?_
        exact W.zret (v := (1 : Int32)) hx hb hr (by decide) (fun t ht hW => ⟨(1 : Int32), rfl, trivial, ht⟩) (fun _ h => absurd h List.not_mem_nil) dX9_isPlacing_37

def w_m_rowOf : List Cond := .code yX9_rowOf cX9_rowOf 3 (some .long) :: (([.constantLong RX9 293 (255)] : List Cond))
set_option maxHeartbeats 4000000 in
set_option maxRecDepth 100000 in
theorem m_rowOf (l : Launch) (dC : Nat → ClassId) (dI : Nat → Nat → Nat) (ad : Nat → Nat) (a : Int64) (b : Int32) : Met l yX9_rowOf w_m_rowOf ({ frames := 0, cells := 0, slots := 0, locals := 0 } : Room) (va_Pc [.long a, .int b] (preS dC dI ad [] [])) (vp_Sl (fun r => True)) 0 0 (fun _ => False) := by
  refine Met.ofW (cc := cX9_rowOf) (maxL := 3) (ret := (some .long)) (by decide) rfl ?_
  intro p e s m args below meth c s₁ B hml hv
  obtain ⟨rfl, hP, hK, hev⟩ := hv
  have hx := B.exec
  have hb := B.bytes
  have hr := B.returns
  have hts := atoms_spec (ws := w_m_rowOf) B.pre
  have hown : s.vm.findClass RX9 = some m.cls := findClass_of_methodNamed B.named
  have hlocks := B.notSynchronized
  have hP : va_P (dC, dI) vwCl [] s.heap := hP
  have hl := lv_entry ([.long a, .int b]) (n := 3) (Nat.le_of_ble_eq_true rfl)
  rw [lg_entry_eq]
  generalize (lg_sl ([.long a, .int b]) ++ List.replicate (3 - (lg_sl ([.long a, .int b])).length) Slot.unset).toArray = ls at hl ⊢
  have hl : lv_has ls 3 [(0, .long a), (2, .int b)] := hl
  refine lv_lload_n hx hb dX9_rowOf_0 rfl (lv_at hl 0 rfl) ?_
  refine lv_bipush (v := 8) hx hb dX9_rowOf_1 (by decide) ?_
  refine lv_iload_n hx hb dX9_rowOf_3 rfl (lv_at hl 1 rfl) ?_
  refine lv_imul hx hb dX9_rowOf_4 ?_
  refine lv_topi (fun n_1 en_1 => ?_)
  clear en_1
  obtain ⟨n_2, en_2⟩ : ∃ z : Int64, z = a >>> (n_1.toInt64 &&& 63) := ⟨_, rfl⟩
  refine lv_lshr (v := n_2) hx hb dX9_rowOf_5 en_2.symm ?_
  clear en_2
  refine lv_ldc2 hx hb hown (hts _ (List.mem_of_getElem? (i := 1) rfl)) dX9_rowOf_6 ?_
  refine lv_land hx hb dX9_rowOf_9 ?_
  refine lv_topl (fun n_3 en_3 => ?_)
  clear en_3
  exact W.lret (v := n_3) hx hb hr (fun t ht hW => ⟨n_3, rfl, trivial, ht⟩) (fun _ h => absurd h List.not_mem_nil) dX9_rowOf_10

def w_m_cutTo : List Cond := .code yX9_cutTo cX9_cutTo 3 (some .long) :: (([] : List Cond))
set_option maxHeartbeats 4000000 in
set_option maxRecDepth 100000 in
theorem m_cutTo (l : Launch) (dC : Nat → ClassId) (dI : Nat → Nat → Nat) (ad : Nat → Nat) (a : Int64) (b : Int32) : Met l yX9_cutTo w_m_cutTo ({ frames := 0, cells := 0, slots := 0, locals := 0 } : Room) (va_Pc [.long a, .int b] (preS dC dI ad [] [])) (vp_Sl (fun r => True)) 0 0 (fun _ => False) := by
  refine Met.ofW (cc := cX9_cutTo) (maxL := 3) (ret := (some .long)) (by decide) rfl ?_
  intro p e s m args below meth c s₁ B hml hv
  obtain ⟨rfl, hP, hK, hev⟩ := hv
  have hx := B.exec
  have hb := B.bytes
  have hr := B.returns
  have hts := atoms_spec (ws := w_m_cutTo) B.pre
  have hown : s.vm.findClass RX9 = some m.cls := findClass_of_methodNamed B.named
  have hlocks := B.notSynchronized
  have hP : va_P (dC, dI) vwCl [] s.heap := hP
  have hl := lv_entry ([.long a, .int b]) (n := 3) (Nat.le_of_ble_eq_true rfl)
  rw [lg_entry_eq]
  generalize (lg_sl ([.long a, .int b]) ++ List.replicate (3 - (lg_sl ([.long a, .int b])).length) Slot.unset).toArray = ls at hl ⊢
  have hl : lv_has ls 3 [(0, .long a), (2, .int b)] := hl
  refine lv_iload_n hx hb dX9_cutTo_0 rfl (lv_at hl 1 rfl) ?_
  refine lv_bipush (v := 8) hx hb dX9_cutTo_1 (by decide) ?_
  refine lv_icmp_ne (tgt := 13) hx hb dX9_cutTo_3 (by decide) (fun c_1 => ?_) (fun c_1 => ?_)
  · skip
    have tc_1 : ¬ b.toInt = 8 := fun h => c_1 ((fa_eq _ _).mpr h)
    refine lv_iload_n hx hb dX9_cutTo_13 rfl (lv_at hl 1 rfl) ?_
    refine lv_bipush (v := 16) hx hb dX9_cutTo_14 (by decide) ?_
    refine lv_icmp_ne (tgt := 26) hx hb dX9_cutTo_16 (by decide) (fun c_2 => ?_) (fun c_2 => ?_)
    · skip
      have tc_2 : ¬ b.toInt = 16 := fun h => c_2 ((fa_eq _ _).mpr h)
      refine lv_lload_n hx hb dX9_cutTo_26 rfl (lv_at hl 0 rfl) ?_
      exact W.lret (v := a) hx hb hr (fun t ht hW => ⟨a, rfl, trivial, ht⟩) (fun _ h => absurd h List.not_mem_nil) dX9_cutTo_27
    · skip
      have tc_2 : b.toInt = 16 := (fa_eq _ _).mp c_2
      refine lv_lload_n hx hb dX9_cutTo_19 rfl (lv_at hl 0 rfl) ?_
      obtain ⟨n_3, en_3⟩ : ∃ z : Int32, z = a.toInt32 := ⟨_, rfl⟩
      refine lv_l2i (v := n_3) hx hb dX9_cutTo_20 en_3.symm ?_
      clear en_3
      obtain ⟨n_4, en_4⟩ : ∃ z : Int32, z = n_3.toInt16.toInt32 := ⟨_, rfl⟩
      refine lv_i2s (v := n_4) hx hb dX9_cutTo_21 en_4.symm ?_
      clear en_4
      obtain ⟨n_5, en_5⟩ : ∃ z : Int64, z = n_4.toInt64 := ⟨_, rfl⟩
      refine lv_i2l (v := n_5) hx hb dX9_cutTo_22 en_5.symm ?_
      clear en_5
      refine lv_goto (tgt := 27) hx hb dX9_cutTo_23 (by decide) ?_
      exact W.lret (v := n_5) hx hb hr (fun t ht hW => ⟨n_5, rfl, trivial, ht⟩) (fun _ h => absurd h List.not_mem_nil) dX9_cutTo_27
  · skip
    have tc_1 : b.toInt = 8 := (fa_eq _ _).mp c_1
    refine lv_lload_n hx hb dX9_cutTo_6 rfl (lv_at hl 0 rfl) ?_
    obtain ⟨n_6, en_6⟩ : ∃ z : Int32, z = a.toInt32 := ⟨_, rfl⟩
    refine lv_l2i (v := n_6) hx hb dX9_cutTo_7 en_6.symm ?_
    clear en_6
    obtain ⟨n_7, en_7⟩ : ∃ z : Int32, z = n_6.toInt8.toInt32 := ⟨_, rfl⟩
    refine lv_i2b (v := n_7) hx hb dX9_cutTo_8 en_7.symm ?_
    clear en_7
    obtain ⟨n_8, en_8⟩ : ∃ z : Int64, z = n_7.toInt64 := ⟨_, rfl⟩
    refine lv_i2l (v := n_8) hx hb dX9_cutTo_9 en_8.symm ?_
    clear en_8
    refine lv_goto (tgt := 27) hx hb dX9_cutTo_10 (by decide) ?_
    exact W.lret (v := n_8) hx hb hr (fun t ht hW => ⟨n_8, rfl, trivial, ht⟩) (fun _ h => absurd h List.not_mem_nil) dX9_cutTo_27

def w_m_isRowSign : List Cond := .code yX9_isRowSign cX9_isRowSign 1 (some .boolean) :: (([] : List Cond))
set_option maxHeartbeats 4000000 in
set_option maxRecDepth 100000 in
theorem m_isRowSign (l : Launch) (dC : Nat → ClassId) (dI : Nat → Nat → Nat) (ad : Nat → Nat) (a : Int32) : Met l yX9_isRowSign w_m_isRowSign ({ frames := 0, cells := 0, slots := 0, locals := 0 } : Room) (va_Pc [.int a] (preS dC dI ad [] [])) (vp_Si (fun r => True)) 0 0 (fun _ => False) := by
  refine Met.ofW (cc := cX9_isRowSign) (maxL := 1) (ret := (some .boolean)) (by decide) rfl ?_
  intro p e s m args below meth c s₁ B hml hv
  obtain ⟨rfl, hP, hK, hev⟩ := hv
  have hx := B.exec
  have hb := B.bytes
  have hr := B.returns
  have hts := atoms_spec (ws := w_m_isRowSign) B.pre
  have hown : s.vm.findClass RX9 = some m.cls := findClass_of_methodNamed B.named
  have hlocks := B.notSynchronized
  have hP : va_P (dC, dI) vwCl [] s.heap := hP
  have hl := lv_entry ([.int a]) (n := 1) (Nat.le_of_ble_eq_true rfl)
  rw [lg_entry_eq]
  generalize (lg_sl ([.int a]) ++ List.replicate (1 - (lg_sl ([.int a])).length) Slot.unset).toArray = ls at hl ⊢
  have hl : lv_has ls 1 [(0, .int a)] := hl
  refine lv_iload_n hx hb dX9_isRowSign_0 rfl (lv_at hl 0 rfl) ?_
  refine lv_bipush (v := 35) hx hb dX9_isRowSign_1 (by decide) ?_
  refine lv_icmp_eq (tgt := 12) hx hb dX9_isRowSign_3 (by decide) (fun c_1 => ?_) (fun c_1 => ?_)
  · skip
    have tc_1 : a.toInt = 35 := (fa_eq _ _).mp c_1
    refine lv_iconst (v := 1) hx hb dX9_isRowSign_12 (by decide) ?_
    refine lv_goto (tgt := 17) hx hb dX9_isRowSign_13 (by decide) ?_
    exact W.zret (v := (1 : Int32)) hx hb hr (by decide) (fun t ht hW => ⟨(1 : Int32), rfl, trivial, ht⟩) (fun _ h => absurd h List.not_mem_nil) dX9_isRowSign_17
  · skip
    have tc_1 : ¬ a.toInt = 35 := fun h => c_1 ((fa_eq _ _).mpr h)
    refine lv_iload_n hx hb dX9_isRowSign_6 rfl (lv_at hl 0 rfl) ?_
    refine lv_bipush (v := 46) hx hb dX9_isRowSign_7 (by decide) ?_
    refine lv_icmp_ne (tgt := 16) hx hb dX9_isRowSign_9 (by decide) (fun c_2 => ?_) (fun c_2 => ?_)
    · skip
      have tc_2 : ¬ a.toInt = 46 := fun h => c_2 ((fa_eq _ _).mpr h)
      refine lv_iconst (v := 0) hx hb dX9_isRowSign_16 (by decide) ?_
      exact W.zret (v := (0 : Int32)) hx hb hr (by decide) (fun t ht hW => ⟨(0 : Int32), rfl, trivial, ht⟩) (fun _ h => absurd h List.not_mem_nil) dX9_isRowSign_17
    · skip
      have tc_2 : a.toInt = 46 := (fa_eq _ _).mp c_2
      refine lv_iconst (v := 1) hx hb dX9_isRowSign_12 (by decide) ?_
      refine lv_goto (tgt := 17) hx hb dX9_isRowSign_13 (by decide) ?_
      exact W.zret (v := (1 : Int32)) hx hb hr (by decide) (fun t ht hW => ⟨(1 : Int32), rfl, trivial, ht⟩) (fun _ h => absurd h List.not_mem_nil) dX9_isRowSign_17

def w_m_bits : List Cond := .code yX9_bits cX9_bits 5 (some .int) :: (([] : List Cond))
set_option maxHeartbeats 4000000 in
set_option maxRecDepth 100000 in
theorem m_bits (l : Launch) (dC : Nat → ClassId) (dI : Nat → Nat → Nat) (ad : Nat → Nat) (a : Int64) : Met l yX9_bits w_m_bits ({ frames := 0, cells := 0, slots := 0, locals := 0 } : Room) (va_Pc [.long a] (preS dC dI ad [] [])) (vp_Si (fun r => True)) 0 0 (fun _ => False) := by
  refine Met.ofW (cc := cX9_bits) (maxL := 5) (ret := (some .int)) (by decide) rfl ?_
  intro p e s m args below meth c s₁ B hml hv
  obtain ⟨rfl, hP, hK, hev⟩ := hv
  have hx := B.exec
  have hb := B.bytes
  have hr := B.returns
  have hts := atoms_spec (ws := w_m_bits) B.pre
  have hown : s.vm.findClass RX9 = some m.cls := findClass_of_methodNamed B.named
  have hlocks := B.notSynchronized
  have hP : va_P (dC, dI) vwCl [] s.heap := hP
  have hl := lv_entry ([.long a]) (n := 5) (Nat.le_of_ble_eq_true rfl)
  rw [lg_entry_eq]
  generalize (lg_sl ([.long a]) ++ List.replicate (5 - (lg_sl ([.long a])).length) Slot.unset).toArray = ls at hl ⊢
  have hl : lv_has ls 5 [(0, .long a)] := hl
  refine lv_iconst (v := 0) hx hb dX9_bits_0 (by decide) ?_
  refine lv_istore_n (lv' := [(2, .int 0), (0, .long a)]) hx hb dX9_bits_1 rfl hl (by decide) rfl (fun ls hl => ?_)
  refine lv_lload_n hx hb dX9_bits_2 rfl (lv_at hl 1 rfl) ?_
  refine lv_lstore_n (lv' := [(3, .long a), (2, .int 0), (0, .long a)]) hx hb dX9_bits_3 rfl hl (by decide) rfl (fun ls hl => ?_)
  refine pp_loop (ι := Int64 × Int32) (fun ⟨v3_4, v2_4⟩ => v3_4.toBitVec.toNat) (fun ⟨v3_4, v2_4⟩ H locs ls => H = s.heap ∧ locs = [] ∧ lv_has ls 5 [(3, .long v3_4), (2, .int v2_4), (0, .long a)]) ?_ (a, 0) _ _ _ ⟨rfl, rfl, lv_sub hl [0, 1, 2] rfl⟩
  intro k_1 ihk_1 u H locs ls hm hI
  obtain ⟨v3_4, v2_4⟩ := u
  obtain ⟨rfl, rfl, hl⟩ := hI
  have hmk_1 : v3_4.toBitVec.toNat < k_1 + 1 := hm
  clear hm
  have hl : lv_has ls 5 [(3, .long v3_4), (2, .int v2_4), (0, .long a)] := hl
  refine lv_lload_n hx hb dX9_bits_4 rfl (lv_at hl 0 rfl) ?_
  refine lv_lconst (v := 0) hx hb dX9_bits_5 (by decide) ?_
  refine W.lcmp hx hb dX9_bits_6 ?_
  refine lv_topi (fun n_2 en_2 => ?_)
  refine lv_if_eq (tgt := 22) hx hb dX9_bits_7 (by decide) (fun c_3 => ?_) (fun c_3 => ?_)
  · skip
    have tc_3 : n_2.toInt = 0 := (fa_eq _ _).mp c_3
    refine lv_iload_n hx hb dX9_bits_22 rfl (lv_at hl 1 rfl) ?_
    exact W.iret (v := v2_4) hx hb hr (fun t ht hW => ⟨v2_4, rfl, trivial, ht⟩) (fun _ h => absurd h List.not_mem_nil) dX9_bits_23
  · skip
    have tc_3 : ¬ n_2.toInt = 0 := fun h => c_3 ((fa_eq _ _).mpr h)
    have zc_3 : ¬ v3_4 = (0 : Int64) := pp_lc_ne en_2 c_3
    obtain ⟨n_4, en_4⟩ : ∃ y : Int32, y = v2_4 + 1 := ⟨_, rfl⟩
    refine lv_iinc (v := n_4) (lv' := [(2, .int n_4), (3, .long v3_4), (0, .long a)]) hx hb dX9_bits_10 hl (k := 1) rfl (by rw [en_4]; rfl) (by decide) rfl (fun ls hl => ?_)
    clear en_4
    refine lv_lload_n hx hb dX9_bits_13 rfl (lv_at hl 1 rfl) ?_
    refine lv_lload_n hx hb dX9_bits_14 rfl (lv_at hl 1 rfl) ?_
    refine lv_lconst (v := 1) hx hb dX9_bits_15 (by decide) ?_
    refine lv_lsub hx hb dX9_bits_16 ?_
    refine lv_topl (fun n_5 en_5 => ?_)
    refine lv_land hx hb dX9_bits_17 ?_
    refine lv_topl (fun n_6 en_6 => ?_)
    refine lv_lstore_n (lv' := [(3, .long n_6), (2, .int n_4), (0, .long a)]) hx hb dX9_bits_18 rfl hl (by decide) rfl (fun ls hl => ?_)
    refine lv_goto (tgt := 4) hx hb dX9_bits_19 (by decide) ?_
    exact ihk_1 (n_6, n_4) _ _ _ (by show n_6.toBitVec.toNat < k_1; exact pp_bits_lt (by assumption) (by assumption) (by assumption) (by assumption)) ⟨rfl, rfl, lv_sub hl [0, 1, 2] rfl⟩

