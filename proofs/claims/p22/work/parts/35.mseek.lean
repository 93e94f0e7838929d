theorem dX9_nearestOff_0 : decode cX9_nearestOff 0 = .ok (.bipush 65, 2) := by decide +kernel
theorem dX9_nearestOff_2 : decode cX9_nearestOff 2 = .ok (.istore 6, 2) := by decide +kernel
theorem dX9_nearestOff_4 : decode cX9_nearestOff 4 = .ok (.sipush 4000, 3) := by decide +kernel
theorem dX9_nearestOff_7 : decode cX9_nearestOff 7 = .ok (.istore 7, 2) := by decide +kernel
theorem dX9_nearestOff_9 : decode cX9_nearestOff 9 = .ok (.iload 7, 2) := by decide +kernel
theorem dX9_nearestOff_11 : decode cX9_nearestOff 11 = .ok (.sipush 11077, 3) := by decide +kernel
theorem dX9_nearestOff_14 : decode cX9_nearestOff 14 = .ok (.if_icmp .gt 64, 3) := by decide +kernel
theorem dX9_nearestOff_17 : decode cX9_nearestOff 17 = .ok (.aload_n 0, 1) := by decide +kernel
theorem dX9_nearestOff_18 : decode cX9_nearestOff 18 = .ok (.iload 7, 2) := by decide +kernel
theorem dX9_nearestOff_20 : decode cX9_nearestOff 20 = .ok (.invokevirtual 164, 3) := by decide +kernel
theorem dX9_nearestOff_23 : decode cX9_nearestOff 23 = .ok (.ifCond .eq 49, 3) := by decide +kernel
theorem dX9_nearestOff_26 : decode cX9_nearestOff 26 = .ok (.lload_n 2, 1) := by decide +kernel
theorem dX9_nearestOff_27 : decode cX9_nearestOff 27 = .ok (.aload_n 0, 1) := by decide +kernel
theorem dX9_nearestOff_28 : decode cX9_nearestOff 28 = .ok (.iload_n 1, 1) := by decide +kernel
theorem dX9_nearestOff_29 : decode cX9_nearestOff 29 = .ok (.iload 7, 2) := by decide +kernel
theorem dX9_nearestOff_31 : decode cX9_nearestOff 31 = .ok (.invokevirtual 129, 3) := by decide +kernel
theorem dX9_nearestOff_34 : decode cX9_nearestOff 34 = .ok (.lor, 1) := by decide +kernel
theorem dX9_nearestOff_35 : decode cX9_nearestOff 35 = .ok (.lload 4, 2) := by decide +kernel
theorem dX9_nearestOff_37 : decode cX9_nearestOff 37 = .ok (.lxor, 1) := by decide +kernel
theorem dX9_nearestOff_38 : decode cX9_nearestOff 38 = .ok (.invokestatic 158, 3) := by decide +kernel
theorem dX9_nearestOff_41 : decode cX9_nearestOff 41 = .ok (.istore 8, 2) := by decide +kernel
theorem dX9_nearestOff_43 : decode cX9_nearestOff 43 = .ok (.aload_n 0, 1) := by decide +kernel
theorem dX9_nearestOff_44 : decode cX9_nearestOff 44 = .ok (.iload 8, 2) := by decide +kernel
theorem dX9_nearestOff_46 : decode cX9_nearestOff 46 = .ok (.iload 6, 2) := by decide +kernel
theorem dX9_nearestOff_48 : decode cX9_nearestOff 48 = .ok (.if_icmp .ge 8, 3) := by decide +kernel
theorem dX9_nearestOff_51 : decode cX9_nearestOff 51 = .ok (.iload 7, 2) := by decide +kernel
theorem dX9_nearestOff_53 : decode cX9_nearestOff 53 = .ok (.goto 7, 3) := by decide +kernel
theorem dX9_nearestOff_56 : decode cX9_nearestOff 56 = .ok (.aload_n 0, 1) := by decide +kernel
theorem dX9_nearestOff_57 : decode cX9_nearestOff 57 = .ok (.getfield 167, 3) := by decide +kernel
theorem dX9_nearestOff_60 : decode cX9_nearestOff 60 = .ok (.putfield 167, 3) := by decide +kernel
theorem dX9_nearestOff_63 : decode cX9_nearestOff 63 = .ok (.iload 6, 2) := by decide +kernel
theorem dX9_nearestOff_65 : decode cX9_nearestOff 65 = .ok (.iload 8, 2) := by decide +kernel
theorem dX9_nearestOff_67 : decode cX9_nearestOff 67 = .ok (.invokestatic 171, 3) := by decide +kernel
theorem dX9_nearestOff_70 : decode cX9_nearestOff 70 = .ok (.istore 6, 2) := by decide +kernel
theorem dX9_nearestOff_72 : decode cX9_nearestOff 72 = .ok (.iinc 7 1, 3) := by decide +kernel
theorem dX9_nearestOff_75 : decode cX9_nearestOff 75 = .ok (.goto (-66), 3) := by decide +kernel
theorem dX9_nearestOff_78 : decode cX9_nearestOff 78 = .ok (.iload 6, 2) := by decide +kernel
theorem dX9_nearestOff_80 : decode cX9_nearestOff 80 = .ok (.ireturn, 1) := by decide +kernel
theorem dX9_nearest_0 : decode cX9_nearest 0 = .ok (.aload_n 0, 1) := by decide +kernel
theorem dX9_nearest_1 : decode cX9_nearest 1 = .ok (.iload_n 1, 1) := by decide +kernel
theorem dX9_nearest_2 : decode cX9_nearest 2 = .ok (.invokevirtual 93, 3) := by decide +kernel
theorem dX9_nearest_5 : decode cX9_nearest 5 = .ok (.ifCond .eq 20, 3) := by decide +kernel
theorem dX9_nearest_8 : decode cX9_nearest 8 = .ok (.aload_n 0, 1) := by decide +kernel
theorem dX9_nearest_9 : decode cX9_nearest 9 = .ok (.iload_n 2, 1) := by decide +kernel
theorem dX9_nearest_10 : decode cX9_nearest 10 = .ok (.invokevirtual 155, 3) := by decide +kernel
theorem dX9_nearest_13 : decode cX9_nearest 13 = .ok (.ifCond .eq 12, 3) := by decide +kernel
theorem dX9_nearest_16 : decode cX9_nearest 16 = .ok (.iload_n 3, 1) := by decide +kernel
theorem dX9_nearest_17 : decode cX9_nearest 17 = .ok (.iconst 0, 1) := by decide +kernel
theorem dX9_nearest_18 : decode cX9_nearest 18 = .ok (.iconst 1, 1) := by decide +kernel
theorem dX9_nearest_19 : decode cX9_nearest 19 = .ok (.invokestatic 75, 3) := by decide +kernel
theorem dX9_nearest_22 : decode cX9_nearest 22 = .ok (.ifCond .ne 10, 3) := by decide +kernel
theorem dX9_nearest_25 : decode cX9_nearest 25 = .ok (.aload_n 0, 1) := by decide +kernel
theorem dX9_nearest_26 : decode cX9_nearest 26 = .ok (.ldc 74, 2) := by decide +kernel
theorem dX9_nearest_28 : decode cX9_nearest 28 = .ok (.invokevirtual 84, 3) := by decide +kernel
theorem dX9_nearest_31 : decode cX9_nearest 31 = .ok (.ireturn, 1) := by decide +kernel
theorem dX9_nearest_32 : decode cX9_nearest 32 = .ok (.aload_n 0, 1) := by decide +kernel
theorem dX9_nearest_33 : decode cX9_nearest 33 = .ok (.iload_n 1, 1) := by decide +kernel
theorem dX9_nearest_34 : decode cX9_nearest 34 = .ok (.lconst 0, 1) := by decide +kernel
theorem dX9_nearest_35 : decode cX9_nearest 35 = .ok (.aload_n 0, 1) := by decide +kernel
theorem dX9_nearest_36 : decode cX9_nearest 36 = .ok (.getfield 16, 3) := by decide +kernel
theorem dX9_nearest_39 : decode cX9_nearest 39 = .ok (.iload_n 2, 1) := by decide +kernel
theorem dX9_nearest_40 : decode cX9_nearest 40 = .ok (.laload, 1) := by decide +kernel
theorem dX9_nearest_41 : decode cX9_nearest 41 = .ok (.invokevirtual 176, 3) := by decide +kernel
theorem dX9_nearest_44 : decode cX9_nearest 44 = .ok (.istore 4, 2) := by decide +kernel
theorem dX9_nearest_46 : decode cX9_nearest 46 = .ok (.iload_n 3, 1) := by decide +kernel
theorem dX9_nearest_47 : decode cX9_nearest 47 = .ok (.ifCond .ne 10, 3) := by decide +kernel
theorem dX9_nearest_50 : decode cX9_nearest 50 = .ok (.aload_n 0, 1) := by decide +kernel
theorem dX9_nearest_51 : decode cX9_nearest 51 = .ok (.getfield 167, 3) := by decide +kernel
theorem dX9_nearest_54 : decode cX9_nearest 54 = .ok (.goto 5, 3) := by decide +kernel
theorem dX9_nearest_57 : decode cX9_nearest 57 = .ok (.iload 4, 2) := by decide +kernel
theorem dX9_nearest_59 : decode cX9_nearest 59 = .ok (.ireturn, 1) := by decide +kernel
theorem dX9_best_0 : decode cX9_best 0 = .ok (.aload_n 0, 1) := by decide +kernel
theorem dX9_best_1 : decode cX9_best 1 = .ok (.iload_n 1, 1) := by decide +kernel
theorem dX9_best_2 : decode cX9_best 2 = .ok (.invokevirtual 155, 3) := by decide +kernel
theorem dX9_best_5 : decode cX9_best 5 = .ok (.ifCond .ne 10, 3) := by decide +kernel
theorem dX9_best_8 : decode cX9_best 8 = .ok (.aload_n 0, 1) := by decide +kernel
theorem dX9_best_9 : decode cX9_best 9 = .ok (.ldc 74, 2) := by decide +kernel
theorem dX9_best_11 : decode cX9_best 11 = .ok (.invokevirtual 84, 3) := by decide +kernel
theorem dX9_best_14 : decode cX9_best 14 = .ok (.ireturn, 1) := by decide +kernel
theorem dX9_best_15 : decode cX9_best 15 = .ok (.iconst (-1), 1) := by decide +kernel
theorem dX9_best_16 : decode cX9_best 16 = .ok (.istore_n 2, 1) := by decide +kernel
theorem dX9_best_17 : decode cX9_best 17 = .ok (.bipush 65, 2) := by decide +kernel
theorem dX9_best_19 : decode cX9_best 19 = .ok (.istore_n 3, 1) := by decide +kernel
theorem dX9_best_20 : decode cX9_best 20 = .ok (.iconst 0, 1) := by decide +kernel
theorem dX9_best_21 : decode cX9_best 21 = .ok (.istore 4, 2) := by decide +kernel
theorem dX9_best_23 : decode cX9_best 23 = .ok (.iload 4, 2) := by decide +kernel
theorem dX9_best_25 : decode cX9_best 25 = .ok (.aload_n 0, 1) := by decide +kernel
theorem dX9_best_26 : decode cX9_best 26 = .ok (.getfield 9, 3) := by decide +kernel
theorem dX9_best_29 : decode cX9_best 29 = .ok (.iconst 0, 1) := by decide +kernel
theorem dX9_best_30 : decode cX9_best 30 = .ok (.iaload, 1) := by decide +kernel
theorem dX9_best_31 : decode cX9_best 31 = .ok (.if_icmp .ge 60, 3) := by decide +kernel
theorem dX9_best_34 : decode cX9_best 34 = .ok (.aload_n 0, 1) := by decide +kernel
theorem dX9_best_35 : decode cX9_best 35 = .ok (.iload 4, 2) := by decide +kernel
theorem dX9_best_37 : decode cX9_best 37 = .ok (.iconst 2, 1) := by decide +kernel
theorem dX9_best_38 : decode cX9_best 38 = .ok (.invokevirtual 99, 3) := by decide +kernel
theorem dX9_best_41 : decode cX9_best 41 = .ok (.iconst 1, 1) := by decide +kernel
theorem dX9_best_42 : decode cX9_best 42 = .ok (.if_icmp .ne 8, 3) := by decide +kernel
theorem dX9_best_45 : decode cX9_best 45 = .ok (.bipush 65, 2) := by decide +kernel
theorem dX9_best_47 : decode cX9_best 47 = .ok (.goto 16, 3) := by decide +kernel
theorem dX9_best_50 : decode cX9_best 50 = .ok (.aload_n 0, 1) := by decide +kernel
theorem dX9_best_51 : decode cX9_best 51 = .ok (.iload 4, 2) := by decide +kernel
theorem dX9_best_53 : decode cX9_best 53 = .ok (.lconst 0, 1) := by decide +kernel
theorem dX9_best_54 : decode cX9_best 54 = .ok (.aload_n 0, 1) := by decide +kernel
theorem dX9_best_55 : decode cX9_best 55 = .ok (.getfield 16, 3) := by decide +kernel
theorem dX9_best_58 : decode cX9_best 58 = .ok (.iload_n 1, 1) := by decide +kernel
theorem dX9_best_59 : decode cX9_best 59 = .ok (.laload, 1) := by decide +kernel
theorem dX9_best_60 : decode cX9_best 60 = .ok (.invokevirtual 176, 3) := by decide +kernel
theorem dX9_best_63 : decode cX9_best 63 = .ok (.istore 5, 2) := by decide +kernel
theorem dX9_best_65 : decode cX9_best 65 = .ok (.iload 5, 2) := by decide +kernel
theorem dX9_best_67 : decode cX9_best 67 = .ok (.iload_n 3, 1) := by decide +kernel
theorem dX9_best_68 : decode cX9_best 68 = .ok (.if_icmp .ge 8, 3) := by decide +kernel
theorem dX9_best_71 : decode cX9_best 71 = .ok (.iload 4, 2) := by decide +kernel
theorem dX9_best_73 : decode cX9_best 73 = .ok (.goto 4, 3) := by decide +kernel
theorem dX9_best_76 : decode cX9_best 76 = .ok (.iload_n 2, 1) := by decide +kernel
theorem dX9_best_77 : decode cX9_best 77 = .ok (.istore_n 2, 1) := by decide +kernel
theorem dX9_best_78 : decode cX9_best 78 = .ok (.iload_n 3, 1) := by decide +kernel
theorem dX9_best_79 : decode cX9_best 79 = .ok (.iload 5, 2) := by decide +kernel
theorem dX9_best_81 : decode cX9_best 81 = .ok (.invokestatic 171, 3) := by decide +kernel
theorem dX9_best_84 : decode cX9_best 84 = .ok (.istore_n 3, 1) := by decide +kernel
theorem dX9_best_85 : decode cX9_best 85 = .ok (.iinc 4 1, 3) := by decide +kernel
theorem dX9_best_88 : decode cX9_best 88 = .ok (.goto (-65), 3) := by decide +kernel
theorem dX9_best_91 : decode cX9_best 91 = .ok (.iload_n 2, 1) := by decide +kernel
theorem dX9_best_92 : decode cX9_best 92 = .ok (.ifCond .ge 12, 3) := by decide +kernel
theorem dX9_best_95 : decode cX9_best 95 = .ok (.aload_n 0, 1) := by decide +kernel
theorem dX9_best_96 : decode cX9_best 96 = .ok (.ldc 150, 2) := by decide +kernel
theorem dX9_best_98 : decode cX9_best 98 = .ok (.invokevirtual 84, 3) := by decide +kernel
theorem dX9_best_101 : decode cX9_best 101 = .ok (.goto 4, 3) := by decide +kernel
theorem dX9_best_104 : decode cX9_best 104 = .ok (.iload_n 2, 1) := by decide +kernel
theorem dX9_best_105 : decode cX9_best 105 = .ok (.ireturn, 1) := by decide +kernel
theorem dX9_play_0 : decode cX9_play 0 = .ok (.aload_n 0, 1) := by decide +kernel
theorem dX9_play_1 : decode cX9_play 1 = .ok (.iload_n 1, 1) := by decide +kernel
theorem dX9_play_2 : decode cX9_play 2 = .ok (.invokevirtual 155, 3) := by decide +kernel
theorem dX9_play_5 : decode cX9_play 5 = .ok (.ifCond .ne 10, 3) := by decide +kernel
theorem dX9_play_8 : decode cX9_play 8 = .ok (.aload_n 0, 1) := by decide +kernel
theorem dX9_play_9 : decode cX9_play 9 = .ok (.ldc 74, 2) := by decide +kernel
theorem dX9_play_11 : decode cX9_play 11 = .ok (.invokevirtual 84, 3) := by decide +kernel
theorem dX9_play_14 : decode cX9_play 14 = .ok (.ireturn, 1) := by decide +kernel
theorem dX9_play_15 : decode cX9_play 15 = .ok (.aload_n 0, 1) := by decide +kernel
theorem dX9_play_16 : decode cX9_play 16 = .ok (.invokevirtual 71, 3) := by decide +kernel
theorem dX9_play_19 : decode cX9_play 19 = .ok (.aload_n 0, 1) := by decide +kernel
theorem dX9_play_20 : decode cX9_play 20 = .ok (.getfield 16, 3) := by decide +kernel
theorem dX9_play_23 : decode cX9_play 23 = .ok (.iload_n 1, 1) := by decide +kernel
theorem dX9_play_24 : decode cX9_play 24 = .ok (.laload, 1) := by decide +kernel
theorem dX9_play_25 : decode cX9_play 25 = .ok (.invokestatic 158, 3) := by decide +kernel
theorem dX9_play_28 : decode cX9_play 28 = .ok (.istore_n 2, 1) := by decide +kernel
theorem dX9_play_29 : decode cX9_play 29 = .ok (.iconst (-1), 1) := by decide +kernel
theorem dX9_play_30 : decode cX9_play 30 = .ok (.istore_n 3, 1) := by decide +kernel
theorem dX9_play_31 : decode cX9_play 31 = .ok (.iconst (-1), 1) := by decide +kernel
theorem dX9_play_32 : decode cX9_play 32 = .ok (.istore 4, 2) := by decide +kernel
theorem dX9_play_34 : decode cX9_play 34 = .ok (.iconst 1, 1) := by decide +kernel
theorem dX9_play_35 : decode cX9_play 35 = .ok (.istore 5, 2) := by decide +kernel
theorem dX9_play_37 : decode cX9_play 37 = .ok (.iload 5, 2) := by decide +kernel
theorem dX9_play_39 : decode cX9_play 39 = .ok (.ifCond .eq 127, 3) := by decide +kernel
theorem dX9_play_42 : decode cX9_play 42 = .ok (.aload_n 0, 1) := by decide +kernel
theorem dX9_play_43 : decode cX9_play 43 = .ok (.iconst (-1), 1) := by decide +kernel
theorem dX9_play_44 : decode cX9_play 44 = .ok (.invokevirtual 96, 3) := by decide +kernel
theorem dX9_play_47 : decode cX9_play 47 = .ok (.ifCond .lt 119, 3) := by decide +kernel
theorem dX9_play_50 : decode cX9_play 50 = .ok (.iconst 0, 1) := by decide +kernel
theorem dX9_play_51 : decode cX9_play 51 = .ok (.istore 5, 2) := by decide +kernel
theorem dX9_play_53 : decode cX9_play 53 = .ok (.aload_n 0, 1) := by decide +kernel
theorem dX9_play_54 : decode cX9_play 54 = .ok (.invokevirtual 146, 3) := by decide +kernel
theorem dX9_play_57 : decode cX9_play 57 = .ok (.lstore 6, 2) := by decide +kernel
theorem dX9_play_59 : decode cX9_play 59 = .ok (.iconst 0, 1) := by decide +kernel
theorem dX9_play_60 : decode cX9_play 60 = .ok (.istore 8, 2) := by decide +kernel
theorem dX9_play_62 : decode cX9_play 62 = .ok (.iload 8, 2) := by decide +kernel
theorem dX9_play_64 : decode cX9_play 64 = .ok (.aload_n 0, 1) := by decide +kernel
theorem dX9_play_65 : decode cX9_play 65 = .ok (.getfield 9, 3) := by decide +kernel
theorem dX9_play_68 : decode cX9_play 68 = .ok (.iconst 0, 1) := by decide +kernel
theorem dX9_play_69 : decode cX9_play 69 = .ok (.iaload, 1) := by decide +kernel
theorem dX9_play_70 : decode cX9_play 70 = .ok (.if_icmp .ge 71, 3) := by decide +kernel
theorem dX9_play_73 : decode cX9_play 73 = .ok (.aload_n 0, 1) := by decide +kernel
theorem dX9_play_74 : decode cX9_play 74 = .ok (.iload 8, 2) := by decide +kernel
theorem dX9_play_76 : decode cX9_play 76 = .ok (.iconst 2, 1) := by decide +kernel
theorem dX9_play_77 : decode cX9_play 77 = .ok (.invokevirtual 99, 3) := by decide +kernel
theorem dX9_play_80 : decode cX9_play 80 = .ok (.iconst 1, 1) := by decide +kernel
theorem dX9_play_81 : decode cX9_play 81 = .ok (.if_icmp .eq 12, 3) := by decide +kernel
theorem dX9_play_84 : decode cX9_play 84 = .ok (.aload_n 0, 1) := by decide +kernel
theorem dX9_play_85 : decode cX9_play 85 = .ok (.iload 8, 2) := by decide +kernel
theorem dX9_play_87 : decode cX9_play 87 = .ok (.invokevirtual 96, 3) := by decide +kernel
theorem dX9_play_90 : decode cX9_play 90 = .ok (.ifCond .lt 8, 3) := by decide +kernel
theorem dX9_play_93 : decode cX9_play 93 = .ok (.bipush 65, 2) := by decide +kernel
theorem dX9_play_95 : decode cX9_play 95 = .ok (.goto 17, 3) := by decide +kernel
theorem dX9_play_98 : decode cX9_play 98 = .ok (.aload_n 0, 1) := by decide +kernel
theorem dX9_play_99 : decode cX9_play 99 = .ok (.iload 8, 2) := by decide +kernel
theorem dX9_play_101 : decode cX9_play 101 = .ok (.lload 6, 2) := by decide +kernel
theorem dX9_play_103 : decode cX9_play 103 = .ok (.aload_n 0, 1) := by decide +kernel
theorem dX9_play_104 : decode cX9_play 104 = .ok (.getfield 16, 3) := by decide +kernel
theorem dX9_play_107 : decode cX9_play 107 = .ok (.iload_n 1, 1) := by decide +kernel
theorem dX9_play_108 : decode cX9_play 108 = .ok (.laload, 1) := by decide +kernel
theorem dX9_play_109 : decode cX9_play 109 = .ok (.invokevirtual 176, 3) := by decide +kernel
theorem dX9_play_112 : decode cX9_play 112 = .ok (.istore 9, 2) := by decide +kernel
theorem dX9_play_114 : decode cX9_play 114 = .ok (.iload 9, 2) := by decide +kernel
theorem dX9_play_116 : decode cX9_play 116 = .ok (.iload_n 2, 1) := by decide +kernel
theorem dX9_play_117 : decode cX9_play 117 = .ok (.if_icmp .ge 18, 3) := by decide +kernel
theorem dX9_play_120 : decode cX9_play 120 = .ok (.iload 9, 2) := by decide +kernel
theorem dX9_play_122 : decode cX9_play 122 = .ok (.istore_n 2, 1) := by decide +kernel
theorem dX9_play_123 : decode cX9_play 123 = .ok (.iload 8, 2) := by decide +kernel
theorem dX9_play_125 : decode cX9_play 125 = .ok (.istore_n 3, 1) := by decide +kernel
theorem dX9_play_126 : decode cX9_play 126 = .ok (.aload_n 0, 1) := by decide +kernel
theorem dX9_play_127 : decode cX9_play 127 = .ok (.getfield 167, 3) := by decide +kernel
theorem dX9_play_130 : decode cX9_play 130 = .ok (.istore 4, 2) := by decide +kernel
theorem dX9_play_132 : decode cX9_play 132 = .ok (.iconst 1, 1) := by decide +kernel
theorem dX9_play_133 : decode cX9_play 133 = .ok (.istore 5, 2) := by decide +kernel
theorem dX9_play_135 : decode cX9_play 135 = .ok (.iinc 8 1, 3) := by decide +kernel
theorem dX9_play_138 : decode cX9_play 138 = .ok (.goto (-76), 3) := by decide +kernel
theorem dX9_play_141 : decode cX9_play 141 = .ok (.iload 5, 2) := by decide +kernel
theorem dX9_play_143 : decode cX9_play 143 = .ok (.ifCond .eq 20, 3) := by decide +kernel
theorem dX9_play_146 : decode cX9_play 146 = .ok (.aload_n 0, 1) := by decide +kernel
theorem dX9_play_147 : decode cX9_play 147 = .ok (.iload_n 3, 1) := by decide +kernel
theorem dX9_play_148 : decode cX9_play 148 = .ok (.iload 4, 2) := by decide +kernel
theorem dX9_play_150 : decode cX9_play 150 = .ok (.invokevirtual 134, 3) := by decide +kernel
theorem dX9_play_153 : decode cX9_play 153 = .ok (.ifCond .lt 7, 3) := by decide +kernel
theorem dX9_play_156 : decode cX9_play 156 = .ok (.iconst 1, 1) := by decide +kernel
theorem dX9_play_157 : decode cX9_play 157 = .ok (.goto 4, 3) := by decide +kernel
theorem dX9_play_161 : decode cX9_play 161 = .ok (.istore 5, 2) := by decide +kernel
theorem dX9_play_163 : decode cX9_play 163 = .ok (.goto (-126), 3) := by decide +kernel
theorem dX9_play_166 : decode cX9_play 166 = .ok (.iload_n 2, 1) := by decide +kernel
theorem dX9_play_167 : decode cX9_play 167 = .ok (.ireturn, 1) := by decide +kernel
theorem dX9_fits_0 : decode cX9_fits 0 = .ok (.aload_n 0, 1) := by decide +kernel
theorem dX9_fits_1 : decode cX9_fits 1 = .ok (.iload_n 1, 1) := by decide +kernel
theorem dX9_fits_2 : decode cX9_fits 2 = .ok (.invokevirtual 93, 3) := by decide +kernel
theorem dX9_fits_5 : decode cX9_fits 5 = .ok (.ifCond .eq 11, 3) := by decide +kernel
theorem dX9_fits_8 : decode cX9_fits 8 = .ok (.aload_n 0, 1) := by decide +kernel
theorem dX9_fits_9 : decode cX9_fits 9 = .ok (.iload_n 2, 1) := by decide +kernel
theorem dX9_fits_10 : decode cX9_fits 10 = .ok (.invokevirtual 155, 3) := by decide +kernel
theorem dX9_fits_13 : decode cX9_fits 13 = .ok (.ifCond .ne 10, 3) := by decide +kernel
theorem dX9_fits_16 : decode cX9_fits 16 = .ok (.aload_n 0, 1) := by decide +kernel
theorem dX9_fits_17 : decode cX9_fits 17 = .ok (.ldc 74, 2) := by decide +kernel
theorem dX9_fits_19 : decode cX9_fits 19 = .ok (.invokevirtual 84, 3) := by decide +kernel
theorem dX9_fits_22 : decode cX9_fits 22 = .ok (.ireturn, 1) := by decide +kernel
theorem dX9_fits_23 : decode cX9_fits 23 = .ok (.iconst 0, 1) := by decide +kernel
theorem dX9_fits_24 : decode cX9_fits 24 = .ok (.istore_n 3, 1) := by decide +kernel
theorem dX9_fits_25 : decode cX9_fits 25 = .ok (.sipush 4000, 3) := by decide +kernel
theorem dX9_fits_28 : decode cX9_fits 28 = .ok (.istore 4, 2) := by decide +kernel
theorem dX9_fits_30 : decode cX9_fits 30 = .ok (.iload 4, 2) := by decide +kernel
theorem dX9_fits_32 : decode cX9_fits 32 = .ok (.sipush 11077, 3) := by decide +kernel
theorem dX9_fits_35 : decode cX9_fits 35 = .ok (.if_icmp .gt 60, 3) := by decide +kernel
theorem dX9_fits_38 : decode cX9_fits 38 = .ok (.aload_n 0, 1) := by decide +kernel
theorem dX9_fits_39 : decode cX9_fits 39 = .ok (.iload 4, 2) := by decide +kernel
theorem dX9_fits_41 : decode cX9_fits 41 = .ok (.invokevirtual 164, 3) := by decide +kernel
theorem dX9_fits_44 : decode cX9_fits 44 = .ok (.ifCond .eq 45, 3) := by decide +kernel
theorem dX9_fits_47 : decode cX9_fits 47 = .ok (.aload_n 0, 1) := by decide +kernel
theorem dX9_fits_48 : decode cX9_fits 48 = .ok (.iload_n 1, 1) := by decide +kernel
theorem dX9_fits_49 : decode cX9_fits 49 = .ok (.iload 4, 2) := by decide +kernel
theorem dX9_fits_51 : decode cX9_fits 51 = .ok (.invokevirtual 129, 3) := by decide +kernel
theorem dX9_fits_54 : decode cX9_fits 54 = .ok (.lstore 5, 2) := by decide +kernel
theorem dX9_fits_56 : decode cX9_fits 56 = .ok (.iload_n 3, 1) := by decide +kernel
theorem dX9_fits_57 : decode cX9_fits 57 = .ok (.lload 5, 2) := by decide +kernel
theorem dX9_fits_59 : decode cX9_fits 59 = .ok (.lconst 0, 1) := by decide +kernel
theorem dX9_fits_60 : decode cX9_fits 60 = .ok (.lcmp, 1) := by decide +kernel
theorem dX9_fits_61 : decode cX9_fits 61 = .ok (.ifCond .eq 25, 3) := by decide +kernel
theorem dX9_fits_64 : decode cX9_fits 64 = .ok (.lload 5, 2) := by decide +kernel
theorem dX9_fits_66 : decode cX9_fits 66 = .ok (.aload_n 0, 1) := by decide +kernel
theorem dX9_fits_67 : decode cX9_fits 67 = .ok (.getfield 16, 3) := by decide +kernel
theorem dX9_fits_70 : decode cX9_fits 70 = .ok (.iload_n 2, 1) := by decide +kernel
theorem dX9_fits_71 : decode cX9_fits 71 = .ok (.laload, 1) := by decide +kernel
theorem dX9_fits_72 : decode cX9_fits 72 = .ok (.ldc2_w 144, 3) := by decide +kernel
theorem dX9_fits_75 : decode cX9_fits 75 = .ok (.lxor, 1) := by decide +kernel
theorem dX9_fits_76 : decode cX9_fits 76 = .ok (.land, 1) := by decide +kernel
theorem dX9_fits_77 : decode cX9_fits 77 = .ok (.lconst 0, 1) := by decide +kernel
theorem dX9_fits_78 : decode cX9_fits 78 = .ok (.lcmp, 1) := by decide +kernel
theorem dX9_fits_79 : decode cX9_fits 79 = .ok (.ifCond .ne 7, 3) := by decide +kernel
theorem dX9_fits_82 : decode cX9_fits 82 = .ok (.iconst 1, 1) := by decide +kernel
theorem dX9_fits_83 : decode cX9_fits 83 = .ok (.goto 4, 3) := by decide +kernel
theorem dX9_fits_86 : decode cX9_fits 86 = .ok (.iconst 0, 1) := by decide +kernel
theorem dX9_fits_87 : decode cX9_fits 87 = .ok (.iadd, 1) := by decide +kernel
theorem dX9_fits_88 : decode cX9_fits 88 = .ok (.istore_n 3, 1) := by decide +kernel
theorem dX9_fits_89 : decode cX9_fits 89 = .ok (.iinc 4 1, 3) := by decide +kernel
theorem dX9_fits_92 : decode cX9_fits 92 = .ok (.goto (-62), 3) := by decide +kernel
theorem dX9_fits_95 : decode cX9_fits 95 = .ok (.iload_n 3, 1) := by decide +kernel
theorem dX9_fits_96 : decode cX9_fits 96 = .ok (.ireturn, 1) := by decide +kernel
theorem dX9_harmless_0 : decode cX9_harmless 0 = .ok (.iconst 0, 1) := by decide +kernel
theorem dX9_harmless_1 : decode cX9_harmless 1 = .ok (.istore_n 1, 1) := by decide +kernel
theorem dX9_harmless_2 : decode cX9_harmless 2 = .ok (.iconst 0, 1) := by decide +kernel
theorem dX9_harmless_3 : decode cX9_harmless 3 = .ok (.istore_n 2, 1) := by decide +kernel
theorem dX9_harmless_4 : decode cX9_harmless 4 = .ok (.iload_n 2, 1) := by decide +kernel
theorem dX9_harmless_5 : decode cX9_harmless 5 = .ok (.aload_n 0, 1) := by decide +kernel
theorem dX9_harmless_6 : decode cX9_harmless 6 = .ok (.getfield 9, 3) := by decide +kernel
theorem dX9_harmless_9 : decode cX9_harmless 9 = .ok (.iconst 0, 1) := by decide +kernel
theorem dX9_harmless_10 : decode cX9_harmless 10 = .ok (.iaload, 1) := by decide +kernel
theorem dX9_harmless_11 : decode cX9_harmless 11 = .ok (.if_icmp .ge 28, 3) := by decide +kernel
theorem dX9_harmless_14 : decode cX9_harmless 14 = .ok (.iload_n 1, 1) := by decide +kernel
theorem dX9_harmless_15 : decode cX9_harmless 15 = .ok (.aload_n 0, 1) := by decide +kernel
theorem dX9_harmless_16 : decode cX9_harmless 16 = .ok (.iload_n 2, 1) := by decide +kernel
theorem dX9_harmless_17 : decode cX9_harmless 17 = .ok (.iconst 2, 1) := by decide +kernel
theorem dX9_harmless_18 : decode cX9_harmless 18 = .ok (.invokevirtual 99, 3) := by decide +kernel
theorem dX9_harmless_21 : decode cX9_harmless 21 = .ok (.ifCond .ne 9, 3) := by decide +kernel
theorem dX9_harmless_24 : decode cX9_harmless 24 = .ok (.iconst 1, 1) := by decide +kernel
theorem dX9_harmless_25 : decode cX9_harmless 25 = .ok (.iload_n 2, 1) := by decide +kernel
theorem dX9_harmless_26 : decode cX9_harmless 26 = .ok (.ishl, 1) := by decide +kernel
theorem dX9_harmless_27 : decode cX9_harmless 27 = .ok (.goto 4, 3) := by decide +kernel
theorem dX9_harmless_30 : decode cX9_harmless 30 = .ok (.iconst 0, 1) := by decide +kernel
theorem dX9_harmless_31 : decode cX9_harmless 31 = .ok (.ior, 1) := by decide +kernel
theorem dX9_harmless_32 : decode cX9_harmless 32 = .ok (.istore_n 1, 1) := by decide +kernel
theorem dX9_harmless_33 : decode cX9_harmless 33 = .ok (.iinc 2 1, 3) := by decide +kernel
theorem dX9_harmless_36 : decode cX9_harmless 36 = .ok (.goto (-32), 3) := by decide +kernel
theorem dX9_harmless_39 : decode cX9_harmless 39 = .ok (.aload_n 0, 1) := by decide +kernel
theorem dX9_harmless_40 : decode cX9_harmless 40 = .ok (.getfield 9, 3) := by decide +kernel
theorem dX9_harmless_43 : decode cX9_harmless 43 = .ok (.iconst 1, 1) := by decide +kernel
theorem dX9_harmless_44 : decode cX9_harmless 44 = .ok (.iaload, 1) := by decide +kernel
theorem dX9_harmless_45 : decode cX9_harmless 45 = .ok (.ifCond .eq 7, 3) := by decide +kernel
theorem dX9_harmless_48 : decode cX9_harmless 48 = .ok (.iload_n 1, 1) := by decide +kernel
theorem dX9_harmless_49 : decode cX9_harmless 49 = .ok (.ifCond .ne 10, 3) := by decide +kernel
theorem dX9_harmless_52 : decode cX9_harmless 52 = .ok (.aload_n 0, 1) := by decide +kernel
theorem dX9_harmless_53 : decode cX9_harmless 53 = .ok (.ldc 150, 2) := by decide +kernel
theorem dX9_harmless_55 : decode cX9_harmless 55 = .ok (.invokevirtual 84, 3) := by decide +kernel
theorem dX9_harmless_58 : decode cX9_harmless 58 = .ok (.ireturn, 1) := by decide +kernel
theorem dX9_harmless_59 : decode cX9_harmless 59 = .ok (.iconst 0, 1) := by decide +kernel
theorem dX9_harmless_60 : decode cX9_harmless 60 = .ok (.istore_n 2, 1) := by decide +kernel
theorem dX9_harmless_61 : decode cX9_harmless 61 = .ok (.iload_n 2, 1) := by decide +kernel
theorem dX9_harmless_62 : decode cX9_harmless 62 = .ok (.aload_n 0, 1) := by decide +kernel
theorem dX9_harmless_63 : decode cX9_harmless 63 = .ok (.getfield 9, 3) := by decide +kernel
theorem dX9_harmless_66 : decode cX9_harmless 66 = .ok (.iconst 1, 1) := by decide +kernel
theorem dX9_harmless_67 : decode cX9_harmless 67 = .ok (.iaload, 1) := by decide +kernel
theorem dX9_harmless_68 : decode cX9_harmless 68 = .ok (.if_icmp .ge 133, 3) := by decide +kernel
theorem dX9_harmless_71 : decode cX9_harmless 71 = .ok (.iconst 0, 1) := by decide +kernel
theorem dX9_harmless_72 : decode cX9_harmless 72 = .ok (.istore_n 3, 1) := by decide +kernel
theorem dX9_harmless_73 : decode cX9_harmless 73 = .ok (.bipush 65, 2) := by decide +kernel
theorem dX9_harmless_75 : decode cX9_harmless 75 = .ok (.istore 4, 2) := by decide +kernel
theorem dX9_harmless_77 : decode cX9_harmless 77 = .ok (.iconst 0, 1) := by decide +kernel
theorem dX9_harmless_78 : decode cX9_harmless 78 = .ok (.istore 5, 2) := by decide +kernel
theorem dX9_harmless_80 : decode cX9_harmless 80 = .ok (.iload 5, 2) := by decide +kernel
theorem dX9_harmless_82 : decode cX9_harmless 82 = .ok (.aload_n 0, 1) := by decide +kernel
theorem dX9_harmless_83 : decode cX9_harmless 83 = .ok (.getfield 9, 3) := by decide +kernel
theorem dX9_harmless_86 : decode cX9_harmless 86 = .ok (.iconst 0, 1) := by decide +kernel
theorem dX9_harmless_87 : decode cX9_harmless 87 = .ok (.iaload, 1) := by decide +kernel
theorem dX9_harmless_88 : decode cX9_harmless 88 = .ok (.if_icmp .ge 88, 3) := by decide +kernel
theorem dX9_harmless_91 : decode cX9_harmless 91 = .ok (.aload_n 0, 1) := by decide +kernel
theorem dX9_harmless_92 : decode cX9_harmless 92 = .ok (.iload 5, 2) := by decide +kernel
theorem dX9_harmless_94 : decode cX9_harmless 94 = .ok (.iconst 2, 1) := by decide +kernel
theorem dX9_harmless_95 : decode cX9_harmless 95 = .ok (.invokevirtual 99, 3) := by decide +kernel
theorem dX9_harmless_98 : decode cX9_harmless 98 = .ok (.iconst 1, 1) := by decide +kernel
theorem dX9_harmless_99 : decode cX9_harmless 99 = .ok (.if_icmp .ne 8, 3) := by decide +kernel
theorem dX9_harmless_102 : decode cX9_harmless 102 = .ok (.bipush 65, 2) := by decide +kernel
theorem dX9_harmless_104 : decode cX9_harmless 104 = .ok (.goto 16, 3) := by decide +kernel
theorem dX9_harmless_107 : decode cX9_harmless 107 = .ok (.aload_n 0, 1) := by decide +kernel
theorem dX9_harmless_108 : decode cX9_harmless 108 = .ok (.iload 5, 2) := by decide +kernel
theorem dX9_harmless_110 : decode cX9_harmless 110 = .ok (.lconst 0, 1) := by decide +kernel
theorem dX9_harmless_111 : decode cX9_harmless 111 = .ok (.aload_n 0, 1) := by decide +kernel
theorem dX9_harmless_112 : decode cX9_harmless 112 = .ok (.getfield 16, 3) := by decide +kernel
theorem dX9_harmless_115 : decode cX9_harmless 115 = .ok (.iload_n 2, 1) := by decide +kernel
theorem dX9_harmless_116 : decode cX9_harmless 116 = .ok (.laload, 1) := by decide +kernel
theorem dX9_harmless_117 : decode cX9_harmless 117 = .ok (.invokevirtual 176, 3) := by decide +kernel
theorem dX9_harmless_120 : decode cX9_harmless 120 = .ok (.istore 6, 2) := by decide +kernel
theorem dX9_harmless_122 : decode cX9_harmless 122 = .ok (.iload 6, 2) := by decide +kernel
theorem dX9_harmless_124 : decode cX9_harmless 124 = .ok (.iload 4, 2) := by decide +kernel
theorem dX9_harmless_126 : decode cX9_harmless 126 = .ok (.if_icmp .ge 10, 3) := by decide +kernel
theorem dX9_harmless_129 : decode cX9_harmless 129 = .ok (.iconst 1, 1) := by decide +kernel
theorem dX9_harmless_130 : decode cX9_harmless 130 = .ok (.iload 5, 2) := by decide +kernel
theorem dX9_harmless_132 : decode cX9_harmless 132 = .ok (.ishl, 1) := by decide +kernel
theorem dX9_harmless_133 : decode cX9_harmless 133 = .ok (.goto 27, 3) := by decide +kernel
theorem dX9_harmless_136 : decode cX9_harmless 136 = .ok (.iload 6, 2) := by decide +kernel
theorem dX9_harmless_138 : decode cX9_harmless 138 = .ok (.iload 4, 2) := by decide +kernel
theorem dX9_harmless_140 : decode cX9_harmless 140 = .ok (.if_icmp .ne 19, 3) := by decide +kernel
theorem dX9_harmless_143 : decode cX9_harmless 143 = .ok (.iload 6, 2) := by decide +kernel
theorem dX9_harmless_145 : decode cX9_harmless 145 = .ok (.bipush 65, 2) := by decide +kernel
theorem dX9_harmless_147 : decode cX9_harmless 147 = .ok (.if_icmp .ge 12, 3) := by decide +kernel
theorem dX9_harmless_150 : decode cX9_harmless 150 = .ok (.iload_n 3, 1) := by decide +kernel
theorem dX9_harmless_151 : decode cX9_harmless 151 = .ok (.iconst 1, 1) := by decide +kernel
theorem dX9_harmless_152 : decode cX9_harmless 152 = .ok (.iload 5, 2) := by decide +kernel
theorem dX9_harmless_154 : decode cX9_harmless 154 = .ok (.ishl, 1) := by decide +kernel
theorem dX9_harmless_155 : decode cX9_harmless 155 = .ok (.ior, 1) := by decide +kernel
theorem dX9_harmless_156 : decode cX9_harmless 156 = .ok (.goto 4, 3) := by decide +kernel
theorem dX9_harmless_159 : decode cX9_harmless 159 = .ok (.iload_n 3, 1) := by decide +kernel
theorem dX9_harmless_160 : decode cX9_harmless 160 = .ok (.istore_n 3, 1) := by decide +kernel
theorem dX9_harmless_161 : decode cX9_harmless 161 = .ok (.iload 4, 2) := by decide +kernel
theorem dX9_harmless_163 : decode cX9_harmless 163 = .ok (.iload 6, 2) := by decide +kernel
theorem dX9_harmless_165 : decode cX9_harmless 165 = .ok (.invokestatic 171, 3) := by decide +kernel
theorem dX9_harmless_168 : decode cX9_harmless 168 = .ok (.istore 4, 2) := by decide +kernel
theorem dX9_harmless_170 : decode cX9_harmless 170 = .ok (.iinc 5 1, 3) := by decide +kernel
theorem dX9_harmless_173 : decode cX9_harmless 173 = .ok (.goto (-93), 3) := by decide +kernel
theorem dX9_harmless_176 : decode cX9_harmless 176 = .ok (.iload_n 1, 1) := by decide +kernel
theorem dX9_harmless_177 : decode cX9_harmless 177 = .ok (.iload_n 3, 1) := by decide +kernel
theorem dX9_harmless_178 : decode cX9_harmless 178 = .ok (.i2l, 1) := by decide +kernel
theorem dX9_harmless_179 : decode cX9_harmless 179 = .ok (.invokestatic 158, 3) := by decide +kernel
theorem dX9_harmless_182 : decode cX9_harmless 182 = .ok (.iconst 1, 1) := by decide +kernel
theorem dX9_harmless_183 : decode cX9_harmless 183 = .ok (.if_icmp .ne 9, 3) := by decide +kernel
theorem dX9_harmless_186 : decode cX9_harmless 186 = .ok (.iload_n 3, 1) := by decide +kernel
theorem dX9_harmless_187 : decode cX9_harmless 187 = .ok (.iconst (-1), 1) := by decide +kernel
theorem dX9_harmless_188 : decode cX9_harmless 188 = .ok (.ixor, 1) := by decide +kernel
theorem dX9_harmless_189 : decode cX9_harmless 189 = .ok (.goto 4, 3) := by decide +kernel
theorem dX9_harmless_192 : decode cX9_harmless 192 = .ok (.iconst (-1), 1) := by decide +kernel
theorem dX9_harmless_193 : decode cX9_harmless 193 = .ok (.iand, 1) := by decide +kernel
theorem dX9_harmless_194 : decode cX9_harmless 194 = .ok (.istore_n 1, 1) := by decide +kernel
theorem dX9_harmless_195 : decode cX9_harmless 195 = .ok (.iinc 2 1, 3) := by decide +kernel
theorem dX9_harmless_198 : decode cX9_harmless 198 = .ok (.goto (-137), 3) := by decide +kernel
theorem dX9_harmless_201 : decode cX9_harmless 201 = .ok (.iload_n 1, 1) := by decide +kernel
theorem dX9_harmless_202 : decode cX9_harmless 202 = .ok (.ireturn, 1) := by decide +kernel
def w_m_nearestOff : List Cond := .code yX9_nearestOff cX9_nearestOff 9 (some .int) :: (([.methodLink RX9 164 yX9_isAllowed, .instanceMethod yX9_isAllowed, .selects RX9 yX9_isAllowed yX9_isAllowed, .initialized RX9, .code yX9_isAllowed cX9_isAllowed 2 (some .boolean), .methodLink RX9 126 yX9_isPlacing, .static yX9_isPlacing, .code yX9_isPlacing cX9_isPlacing 1 (some .boolean), .methodLink RX9 75 yX9_within, .static yX9_within, .code yX9_within cX9_within 3 (some .boolean), .fieldLink RX9 9 "LampShapesModel" "now" "[I", .methodLink RX9 129 yX9_shadowOf, .instanceMethod yX9_shadowOf, .selects RX9 yX9_shadowOf yX9_shadowOf, .code yX9_shadowOf cX9_shadowOf 11 (some .long), .methodLink RX9 99 yX9_shapeIs, .instanceMethod yX9_shapeIs, .selects RX9 yX9_shapeIs yX9_shapeIs, .code yX9_shapeIs cX9_shapeIs 3 (some .int), .methodLink RX9 122 yX9_throwsOf, .static yX9_throwsOf, .code yX9_throwsOf cX9_throwsOf 8 (some .int), .methodLink RX9 112 yX9_mirrored, .static yX9_mirrored, .code yX9_mirrored cX9_mirrored 5 (some .int), .methodLink RX9 109 yX9_has, .static yX9_has, .code yX9_has cX9_has 3 (some .boolean), .methodLink RX9 114 yX9_turned, .static yX9_turned, .code yX9_turned cX9_turned 7 (some .int), .methodLink RX9 119 yX9_isBetween, .static yX9_isBetween, .code yX9_isBetween cX9_isBetween 6 (some .boolean), .methodLink RX9 116 yX9_isInner, .static yX9_isInner, .code yX9_isInner cX9_isInner 3 (some .boolean), .methodLink RX9 158 yX9_bits, .static yX9_bits, .code yX9_bits cX9_bits 5 (some .int), .fieldLink RX9 167 "LampShapesModel" "nearestPlacing" "I", .methodLink RX9 171 Lib.Math.min.name, .static Lib.Math.min.name, .initialized "java/lang/Math", .code Lib.Math.min.name Lib.Math.min.code 2 (some .int)] : List Cond) ++ wsX90)
set_option maxRecDepth 20000 in
theorem g_m_nearestOff_m_isAllowed_164 : GoodIn w_m_nearestOff (wsV RX9 164 RX9 yX9_isAllowed w_m_isAllowed) := goodIn_r _ [1, 2, 3, 4, 5, 6, 7, 4, 8, 9, 10, 11, 12, 47, 48, 49, 50, 51, 52, 53, 54, 55, 56, 57, 58, 59, 60, 61, 62, 63, 64, 65, 66, 67, 68, 69, 70, 71, 72, 73, 74] rfl (by decide +kernel)
set_option maxRecDepth 20000 in
theorem g_m_nearestOff_m_shadowOf_129 : GoodIn w_m_nearestOff (wsV RX9 129 RX9 yX9_shadowOf w_m_shadowOf) := goodIn_r _ [13, 14, 15, 4, 16, 17, 18, 19, 4, 20, 12, 21, 22, 23, 24, 25, 26, 27, 28, 29, 9, 10, 11, 30, 31, 32, 33, 34, 35, 36, 37, 38, 47, 48, 49, 50, 51, 52, 53, 54, 55, 56, 57, 58, 59, 60, 61, 62, 63, 64, 65, 66, 67, 68, 69, 70, 71, 72, 73, 74] rfl (by decide +kernel)
set_option maxRecDepth 20000 in
theorem g_m_nearestOff_m_bits2_158 : GoodIn w_m_nearestOff (va_wsS RX9 158 yX9_bits w_m_bits2) := goodIn_r _ [39, 40, 4, 41] rfl (by decide +kernel)
set_option maxHeartbeats 4000000 in
set_option maxRecDepth 100000 in
theorem m_nearestOff (l : Launch) (dC : Nat → ClassId) (dI : Nat → Nat → Nat) (ad : Nat → Nat) (h0 : Nat) (k : Int32) (a : Int64) (b : Int64) (a0 : Nat) (v1 : Value) (v2 : Value) (v3 : Value) (v4 : Value) (v5 : Value) (np : Int32) (v7 : Value) (v8 : Value) (v9 : Value) (v10 : Value) (v11 : Value) (v12 : Value) (v13 : Value) (v14 : Value) (v15 : Value) (v16 : Value) (v17 : Value) (v18 : Value) (v19 : Value) (v20 : Value) (v21 : Value) (v22 : Value) (v23 : Value) (v24 : Value) (v25 : Value) (v26 : Value) (v27 : Value) (ac : ClassId) (nf : Nat → Int32) (sz : Nat) (hI : mI nf) (hk : 0 ≤ k.toInt ∧ k.toInt ≤ 8) : Met l yX9_nearestOff w_m_nearestOff ({ frames := 5, cells := 0, slots := 0, locals := 127 } : Room) (va_Pc [.ref h0, .int k, .long a, .long b] (preM dC dI ad [(ac, .int)] [(h0, .inr (7, [.ref a0, v1, v2, v3, v4, v5, .int np, v7, v8, v9, v10, v11, v12, v13, v14, v15, v16, v17, v18, v19, v20, v21, v22, v23, v24, v25, v26, v27])), (a0, .inl (ac, 38, .inl nf))] sz)) (va_Qi (fun (r : Int32) (_ : Unit) => r.toInt ≤ 65) (fun _ t => ∃ (np2 : Int32), va_P (dC, dI) vwCl [(h0, .inr (7, [.ref a0, v1, v2, v3, v4, v5, .int np2, v7, v8, v9, v10, v11, v12, v13, v14, v15, v16, v17, v18, v19, v20, v21, v22, v23, v24, v25, v26, v27])), (a0, .inl (ac, 38, .inl nf))] t.heap ∧ va_K (dC, dI) vwCl [(ac, .int)] t ∧ va_D (va_A [(h0, .inr (7, [.ref a0, v1, v2, v3, v4, v5, .int np, v7, v8, v9, v10, v11, v12, v13, v14, v15, v16, v17, v18, v19, v20, v21, v22, v23, v24, v25, v26, v27])), (a0, .inl (ac, 38, .inl nf))] sz) [(h0, .inr (7, [.ref a0, v1, v2, v3, v4, v5, .int np2, v7, v8, v9, v10, v11, v12, v13, v14, v15, v16, v17, v18, v19, v20, v21, v22, v23, v24, v25, v26, v27])), (a0, .inl (ac, 38, .inl nf))]) (va_A [(h0, .inr (7, [.ref a0, v1, v2, v3, v4, v5, .int np, v7, v8, v9, v10, v11, v12, v13, v14, v15, v16, v17, v18, v19, v20, v21, v22, v23, v24, v25, v26, v27])), (a0, .inl (ac, 38, .inl nf))] sz)) 0 0 (va_A [(h0, .inr (7, [.ref a0, v1, v2, v3, v4, v5, .int np, v7, v8, v9, v10, v11, v12, v13, v14, v15, v16, v17, v18, v19, v20, v21, v22, v23, v24, v25, v26, v27])), (a0, .inl (ac, 38, .inl nf))] sz) := by
  refine Met.ofW (cc := cX9_nearestOff) (maxL := 9) (ret := (some .int)) (by decide) rfl ?_
  intro p e s m args below meth c s₁ B hml hv
  obtain ⟨rfl, hsz, hP, hK, hD0, hev⟩ := hv
  have hx := B.exec
  have hb := B.bytes
  have hr := B.returns
  have hts := atoms_spec (ws := w_m_nearestOff) B.pre
  have hown : s.vm.findClass RX9 = some m.cls := findClass_of_methodNamed B.named
  have hlocks := B.notSynchronized
  have inX9 : ∀ w ∈ wsX90, w ∈ w_m_nearestOff := fun w h => List.mem_cons_of_mem _ (List.mem_append_right _ h)
  subst hsz
  have hD := hD0.self (sz := s.heap.size)
  generalize hAe : va_A [(h0, .inr (7, [.ref a0, v1, v2, v3, v4, v5, .int np, v7, v8, v9, v10, v11, v12, v13, v14, v15, v16, v17, v18, v19, v20, v21, v22, v23, v24, v25, v26, v27])), (a0, .inl (ac, 38, .inl nf))] s.heap.size = A at hD ⊢
  have hA : ∀ q : Nat, s.heap.size ≤ q → A q := fun q h => by rw [← hAe]; exact Or.inr h
  have hS : va_S A s.heap s.heap [] := va_S.rf
  have hP : va_P (dC, dI) vwCl [(h0, .inr (7, [.ref a0, v1, v2, v3, v4, v5, .int np, v7, v8, v9, v10, v11, v12, v13, v14, v15, v16, v17, v18, v19, v20, v21, v22, v23, v24, v25, v26, v27])), (a0, .inl (ac, 38, .inl nf))] s.heap := hP
  have hl := lv_entry ([.ref h0, .int k, .long a, .long b]) (n := 9) (Nat.le_of_ble_eq_true rfl)
  rw [lg_entry_eq]
  generalize (lg_sl ([.ref h0, .int k, .long a, .long b]) ++ List.replicate (9 - (lg_sl ([.ref h0, .int k, .long a, .long b])).length) Slot.unset).toArray = ls at hl ⊢
  have hl : lv_has ls 9 [(0, .ref h0), (1, .int k), (2, .long a), (4, .long b)] := hl
  refine lv_bipush (v := 65) hx hb dX9_nearestOff_0 (by decide) ?_
  refine lv_istore (lv' := [(6, .int 65), (0, .ref h0), (1, .int k), (2, .long a), (4, .long b)]) hx hb dX9_nearestOff_2 hl (by decide) rfl (fun ls hl => ?_)
  refine lv_sipush (v := 4000) hx hb dX9_nearestOff_4 (by decide) ?_
  refine lv_istore (lv' := [(7, .int 4000), (6, .int 65), (0, .ref h0), (1, .int k), (2, .long a), (4, .long b)]) hx hb dX9_nearestOff_7 hl (by decide) rfl (fun ls hl => ?_)
  refine pp_loop (ι := Int32 × Int32 × Int32) (fun ⟨v7_9, v6_9, y6⟩ => (11077 + 1 - v7_9.toInt).toNat) (fun ⟨v7_9, v6_9, y6⟩ H locs ls => (v6_9.toInt ≤ 65) ∧ (4000 ≤ v7_9.toInt) ∧ (v7_9.toInt ≤ 11078) ∧ va_P (dC, dI) vwCl [(h0, .inr (7, [.ref a0, v1, v2, v3, v4, v5, .int y6, v7, v8, v9, v10, v11, v12, v13, v14, v15, v16, v17, v18, v19, v20, v21, v22, v23, v24, v25, v26, v27])), (a0, .inl (ac, 38, .inl nf))] H ∧ va_D A [(h0, .inr (7, [.ref a0, v1, v2, v3, v4, v5, .int y6, v7, v8, v9, v10, v11, v12, v13, v14, v15, v16, v17, v18, v19, v20, v21, v22, v23, v24, v25, v26, v27])), (a0, .inl (ac, 38, .inl nf))] ∧ va_S A s.heap H locs ∧ lv_has ls 9 [(7, .int v7_9), (6, .int v6_9), (0, .ref h0), (1, .int k), (2, .long a), (4, .long b)]) ?_ (4000, 65, np) _ _ _ ⟨(by first | omega | decide | (simp only [fa_lt, fa_le, fa_eq, and_true, true_and, and_false, false_and, not_true_eq_false, not_false_eq_true, li_0, li_1, li_2, li_3, li_4, li_5, li_6, li_7, li_8, li_9, li_10, li_12, li_15, li_16, li_20, li_30, li_34, li_38, li_40, li_63, li_64, li_65, li_78, li_120, li_1000, li_4000, li_10000, li_11077, li_255, li_65535, li_m1, li_m2, li_m1000000001, li_m1000000002, li_m1000000003, li_m1000000004, li_m1000000005, li_m1000000006, li_m1000000007, or_true, true_or, or_false, false_or, implies_true, true_implies, false_implies] <;> omega)), (by first | omega | decide | (simp only [fa_lt, fa_le, fa_eq, and_true, true_and, and_false, false_and, not_true_eq_false, not_false_eq_true, li_0, li_1, li_2, li_3, li_4, li_5, li_6, li_7, li_8, li_9, li_10, li_12, li_15, li_16, li_20, li_30, li_34, li_38, li_40, li_63, li_64, li_65, li_78, li_120, li_1000, li_4000, li_10000, li_11077, li_255, li_65535, li_m1, li_m2, li_m1000000001, li_m1000000002, li_m1000000003, li_m1000000004, li_m1000000005, li_m1000000006, li_m1000000007, or_true, true_or, or_false, false_or, implies_true, true_implies, false_implies] <;> omega)), (by first | omega | decide | (simp only [fa_lt, fa_le, fa_eq, and_true, true_and, and_false, false_and, not_true_eq_false, not_false_eq_true, li_0, li_1, li_2, li_3, li_4, li_5, li_6, li_7, li_8, li_9, li_10, li_12, li_15, li_16, li_20, li_30, li_34, li_38, li_40, li_63, li_64, li_65, li_78, li_120, li_1000, li_4000, li_10000, li_11077, li_255, li_65535, li_m1, li_m2, li_m1000000001, li_m1000000002, li_m1000000003, li_m1000000004, li_m1000000005, li_m1000000006, li_m1000000007, or_true, true_or, or_false, false_or, implies_true, true_implies, false_implies] <;> omega)), hP.sub [0, 1] rfl, hD.sub [0, 1] (by decide) rfl, hS, lv_sub hl [0, 1, 2, 3, 4, 5] rfl⟩
  intro k_1 ihk_1 u H locs ls hm hI
  obtain ⟨v7_9, v6_9, y6⟩ := u
  obtain ⟨jk_1_0, jk_1_1, jk_1_2, hP, hD, hS, hl⟩ := hI
  have hmk_1 : (11077 + 1 - v7_9.toInt).toNat < k_1 + 1 := hm
  clear hm
  have jk_1_0 : v6_9.toInt ≤ 65 := jk_1_0
  have jk_1_1 : 4000 ≤ v7_9.toInt := jk_1_1
  have jk_1_2 : v7_9.toInt ≤ 11078 := jk_1_2
  have hl : lv_has ls 9 [(7, .int v7_9), (6, .int v6_9), (0, .ref h0), (1, .int k), (2, .long a), (4, .long b)] := hl
  have hP : va_P (dC, dI) vwCl [(h0, .inr (7, [.ref a0, v1, v2, v3, v4, v5, .int y6, v7, v8, v9, v10, v11, v12, v13, v14, v15, v16, v17, v18, v19, v20, v21, v22, v23, v24, v25, v26, v27])), (a0, .inl (ac, 38, .inl nf))] H := hP
  have hD : va_D A [(h0, .inr (7, [.ref a0, v1, v2, v3, v4, v5, .int y6, v7, v8, v9, v10, v11, v12, v13, v14, v15, v16, v17, v18, v19, v20, v21, v22, v23, v24, v25, v26, v27])), (a0, .inl (ac, 38, .inl nf))] := hD
  refine lv_iload hx hb dX9_nearestOff_9 (lv_at hl 0 rfl) ?_
  refine lv_sipush (v := 11077) hx hb dX9_nearestOff_11 (by decide) ?_
  refine lv_icmp_gt (tgt := 78) hx hb dX9_nearestOff_14 (by decide) (fun c_2 => ?_) (fun c_2 => ?_)
  · skip
    have tc_2 : 11077 < v7_9.toInt := (fa_lt _ _).mp c_2
    refine lv_iload hx hb dX9_nearestOff_78 (lv_at hl 1 rfl) ?_
    have hP9 := hP.sub (ws' := [(h0, .inr (7, [.ref a0, v1, v2, v3, v4, v5, .int y6, v7, v8, v9, v10, v11, v12, v13, v14, v15, v16, v17, v18, v19, v20, v21, v22, v23, v24, v25, v26, v27])), (a0, .inl (ac, 38, .inl nf))]) [0, 1] rfl
    have hD9 := hD.sub (ws' := [(h0, .inr (7, [.ref a0, v1, v2, v3, v4, v5, .int y6, v7, v8, v9, v10, v11, v12, v13, v14, v15, v16, v17, v18, v19, v20, v21, v22, v23, v24, v25, v26, v27])), (a0, .inl (ac, 38, .inl nf))]) [0, 1] (by decide) rfl
    have hK9 := hK.sub (tys' := [(ac, .int)]) [0] rfl
    exact W.iret (v := v6_9) hx hb hr (fun t ht hW => ⟨⟨v6_9, (), rfl, (by first | omega | decide | (simp only [fa_lt, fa_le, fa_eq, and_true, true_and, and_false, false_and, not_true_eq_false, not_false_eq_true, li_0, li_1, li_2, li_3, li_4, li_5, li_6, li_7, li_8, li_9, li_10, li_12, li_15, li_16, li_20, li_30, li_34, li_38, li_40, li_63, li_64, li_65, li_78, li_120, li_1000, li_4000, li_10000, li_11077, li_255, li_65535, li_m1, li_m2, li_m1000000001, li_m1000000002, li_m1000000003, li_m1000000004, li_m1000000005, li_m1000000006, li_m1000000007, or_true, true_or, or_false, false_or, implies_true, true_implies, false_implies] <;> omega)), y6, by rw [ht]; exact hP9, va_K.moved hW.alike hK9, hD9⟩, hS.F ht⟩) hS.2.2 dX9_nearestOff_80
  · skip
    have tc_2 : ¬ 11077 < v7_9.toInt := fun h => c_2 ((fa_lt _ _).mpr h)
    refine lv_aload_n hx hb dX9_nearestOff_17 rfl (lv_at hl 2 rfl) ?_
    refine lv_iload hx hb dX9_nearestOff_18 (lv_at hl 0 rfl) ?_
    have hPc := hP.sub (ws' := [(h0, .inr (7, [.ref a0, v1, v2, v3, v4, v5, .int y6, v7, v8, v9, v10, v11, v12, v13, v14, v15, v16, v17, v18, v19, v20, v21, v22, v23, v24, v25, v26, v27])), (a0, .inl (ac, 38, .inl nf))]) [0, 1] rfl
    have hKc := hK.sub (tys' := [(ac, .int)]) [0] rfl
    refine vp_callSi (W.runV (As := [.int v7_9]) (rest := []) ⟨hx, hb, hml, hown, hts⟩ (m_isAllowed l dC dI ad h0 v7_9 a0 v1 v2 v3 v4 v5 (.int y6) v7 v8 v9 v10 v11 v12 v13 v14 v15 v16 v17 v18 v19 v20 v21 v22 v23 v24 v25 v26 v27 ac nf ) (cwV 1 hts g_m_nearestOff_m_isAllowed_164 rfl rfl rfl (by decide +kernel) ⟨(Nat.le_of_ble_eq_true rfl), (Nat.le_of_ble_eq_true rfl)⟩) ⟨preS_blind, va_recv hKc hPc (ci := 7) (q0 := 0) rfl rfl, fun U hU hW => ⟨rfl, preS_at hU hW hPc hKc hev⟩⟩ rfl rfl hl.1 rfl (lv_room (Nat.le_of_ble_eq_true rfl)) dX9_nearestOff_20 ⟨(Nat.le_of_ble_eq_true rfl), (Nat.le_of_ble_eq_true rfl)⟩) (fun r_3 hw => ?_)
    refine lv_if_eq (tgt := 72) hx hb dX9_nearestOff_23 (by decide) (fun c_4 => ?_) (fun c_4 => ?_)
    · skip
      have tc_4 : r_3.toInt = 0 := (fa_eq _ _).mp c_4
      obtain ⟨n_5, en_5⟩ : ∃ y : Int32, y = v7_9 + 1 := ⟨_, rfl⟩
      have tn_5 : n_5.toInt = v7_9.toInt + 1 := pp_add en_5 rfl rfl (by omega) (by omega)
      refine lv_iinc (v := n_5) (lv' := [(7, .int n_5), (6, .int v6_9), (0, .ref h0), (1, .int k), (2, .long a), (4, .long b)]) hx hb dX9_nearestOff_72 hl (k := 0) rfl (by rw [en_5]; rfl) (by decide) rfl (fun ls hl => ?_)
      clear en_5
      refine lv_goto (tgt := 9) hx hb dX9_nearestOff_75 (by decide) ?_
      exact ihk_1 (n_5, v6_9, y6) _ _ _ (by show (11077 + 1 - n_5.toInt).toNat < k_1; omega) ⟨(by first | omega | decide | (simp only [fa_lt, fa_le, fa_eq, and_true, true_and, and_false, false_and, not_true_eq_false, not_false_eq_true, li_0, li_1, li_2, li_3, li_4, li_5, li_6, li_7, li_8, li_9, li_10, li_12, li_15, li_16, li_20, li_30, li_34, li_38, li_40, li_63, li_64, li_65, li_78, li_120, li_1000, li_4000, li_10000, li_11077, li_255, li_65535, li_m1, li_m2, li_m1000000001, li_m1000000002, li_m1000000003, li_m1000000004, li_m1000000005, li_m1000000006, li_m1000000007, or_true, true_or, or_false, false_or, implies_true, true_implies, false_implies] <;> omega)), (by first | omega | decide | (simp only [fa_lt, fa_le, fa_eq, and_true, true_and, and_false, false_and, not_true_eq_false, not_false_eq_true, li_0, li_1, li_2, li_3, li_4, li_5, li_6, li_7, li_8, li_9, li_10, li_12, li_15, li_16, li_20, li_30, li_34, li_38, li_40, li_63, li_64, li_65, li_78, li_120, li_1000, li_4000, li_10000, li_11077, li_255, li_65535, li_m1, li_m2, li_m1000000001, li_m1000000002, li_m1000000003, li_m1000000004, li_m1000000005, li_m1000000006, li_m1000000007, or_true, true_or, or_false, false_or, implies_true, true_implies, false_implies] <;> omega)), (by first | omega | decide | (simp only [fa_lt, fa_le, fa_eq, and_true, true_and, and_false, false_and, not_true_eq_false, not_false_eq_true, li_0, li_1, li_2, li_3, li_4, li_5, li_6, li_7, li_8, li_9, li_10, li_12, li_15, li_16, li_20, li_30, li_34, li_38, li_40, li_63, li_64, li_65, li_78, li_120, li_1000, li_4000, li_10000, li_11077, li_255, li_65535, li_m1, li_m2, li_m1000000001, li_m1000000002, li_m1000000003, li_m1000000004, li_m1000000005, li_m1000000006, li_m1000000007, or_true, true_or, or_false, false_or, implies_true, true_implies, false_implies] <;> omega)), hP.sub [0, 1] rfl, hD.sub [0, 1] (by decide) rfl, hS, lv_sub hl [0, 1, 2, 3, 4, 5] rfl⟩
    · skip
      have tc_4 : ¬ r_3.toInt = 0 := fun h => c_4 ((fa_eq _ _).mpr h)
      refine lv_lload_n hx hb dX9_nearestOff_26 rfl (lv_at hl 4 rfl) ?_
      refine lv_aload_n hx hb dX9_nearestOff_27 rfl (lv_at hl 2 rfl) ?_
      refine lv_iload_n hx hb dX9_nearestOff_28 rfl (lv_at hl 3 rfl) ?_
      refine lv_iload hx hb dX9_nearestOff_29 (lv_at hl 0 rfl) ?_
      have hPc := hP.sub (ws' := [(h0, .inr (7, [.ref a0, v1, v2, v3, v4, v5, .int y6, v7, v8, v9, v10, v11, v12, v13, v14, v15, v16, v17, v18, v19, v20, v21, v22, v23, v24, v25, v26, v27])), (a0, .inl (ac, 38, .inl nf))]) [0, 1] rfl
      have hKc := hK.sub (tys' := [(ac, .int)]) [0] rfl
      refine vp_callSl (W.runV (As := [.int k, .int v7_9]) (rest := [.long a]) ⟨hx, hb, hml, hown, hts⟩ (m_shadowOf l dC dI ad h0 k v7_9 a0 v1 v2 v3 v4 v5 (.int y6) v7 v8 v9 v10 v11 v12 v13 v14 v15 v16 v17 v18 v19 v20 v21 v22 v23 v24 v25 v26 v27 ac nf hk) (cwV 2 hts g_m_nearestOff_m_shadowOf_129 rfl rfl rfl (by decide +kernel) ⟨(Nat.le_of_ble_eq_true rfl), (Nat.le_of_ble_eq_true rfl)⟩) ⟨preS_blind, va_recv hKc hPc (ci := 7) (q0 := 0) rfl rfl, fun U hU hW => ⟨rfl, preS_at hU hW hPc hKc hev⟩⟩ rfl rfl hl.1 rfl (lv_room (Nat.le_of_ble_eq_true rfl)) dX9_nearestOff_31 ⟨(Nat.le_of_ble_eq_true rfl), (Nat.le_of_ble_eq_true rfl)⟩) (fun r_6 hw => ?_)
      refine lv_lor hx hb dX9_nearestOff_34 ?_
      refine lv_topl (fun n_7 en_7 => ?_)
      clear en_7
      refine lv_lload hx hb dX9_nearestOff_35 (lv_at hl 5 rfl) ?_
      refine lv_lxor hx hb dX9_nearestOff_37 ?_
      refine lv_topl (fun n_8 en_8 => ?_)
      clear en_8
      have hPc := hP.sub (ws' := []) [] rfl
      have hKc := hK.sub (tys' := []) [] rfl
      refine vp_callSi (W.runS (As := [.long n_8]) (rest := []) ⟨hx, hb, hml, hown, hts⟩ (m_bits2 l dC dI ad n_8 ) (va_cwS 1 hts g_m_nearestOff_m_bits2_158 rfl rfl rfl (by decide +kernel) ⟨(Nat.le_of_ble_eq_true rfl), (Nat.le_of_ble_eq_true rfl)⟩) ⟨preS_blind, fun U hU hW => ⟨rfl, preS_at hU hW hPc hKc hev⟩⟩ rfl rfl hl.1 rfl (lv_room (Nat.le_of_ble_eq_true rfl)) dX9_nearestOff_38 ⟨(Nat.le_of_ble_eq_true rfl), (Nat.le_of_ble_eq_true rfl)⟩) (fun r_9 hw => ?_)
      have hr_9 : (0 ≤ r_9.toInt ∧ r_9.toInt ≤ 64) ∧ (n_8.toBitVec.toNat < 512 → r_9.toInt = (pop9 n_8.toBitVec.toNat : Int)) := hw
      refine lv_istore (lv' := [(8, .int r_9), (7, .int v7_9), (6, .int v6_9), (0, .ref h0), (1, .int k), (2, .long a), (4, .long b)]) hx hb dX9_nearestOff_41 hl (by decide) rfl (fun ls hl => ?_)
      refine lv_aload_n hx hb dX9_nearestOff_43 rfl (lv_at hl 3 rfl) ?_
      refine lv_iload hx hb dX9_nearestOff_44 (lv_at hl 0 rfl) ?_
      refine lv_iload hx hb dX9_nearestOff_46 (lv_at hl 2 rfl) ?_
      have rc_10_x := pp_rng r_9
      have rc_10_y := pp_rng v6_9
      refine lv_icmp_ge (tgt := 56) hx hb dX9_nearestOff_48 (by decide) (fun c_10 => ?_) (fun c_10 => ?_)
      · skip
        have tc_10 : v6_9.toInt ≤ r_9.toInt := (fa_le _ _).mp c_10
        refine lv_aload_n hx hb dX9_nearestOff_56 rfl (lv_at hl 3 rfl) ?_
        refine va_get (D := (dC, dI)) (ci := 7) (v := .int y6) (C := RX9) (T := TX9) (N := 28) hx hb hts inX9 hown hK hP 0 rfl rfl 6 (by decide) (hts _ (List.mem_of_getElem? (i := 42) rfl)) (fun _ h9 => h9) rfl dX9_nearestOff_57 ?_
        refine va_put (D := (dC, dI)) (ci := 7) (v := .int y6) (ty := .int) (C := RX9) (T := TX9) (N := 28) hx hb hts inX9 tyX9 tyX9_ok nmX9 hown hK hP hD hS 0 rfl rfl 6 (by decide) (hts _ (List.mem_of_getElem? (i := 42) rfl)) (fun _ h9 => h9) rfl (by decide +kernel) rfl rfl (Nat.le_of_ble_eq_true rfl) dX9_nearestOff_60 (fun H locs hP hD hS => ?_)
        have hP : va_P (dC, dI) vwCl [(h0, .inr (7, [.ref a0, v1, v2, v3, v4, v5, .int y6, v7, v8, v9, v10, v11, v12, v13, v14, v15, v16, v17, v18, v19, v20, v21, v22, v23, v24, v25, v26, v27])), (a0, .inl (ac, 38, .inl nf))] H := hP
        have hD : va_D A [(h0, .inr (7, [.ref a0, v1, v2, v3, v4, v5, .int y6, v7, v8, v9, v10, v11, v12, v13, v14, v15, v16, v17, v18, v19, v20, v21, v22, v23, v24, v25, v26, v27])), (a0, .inl (ac, 38, .inl nf))] := hD
        refine lv_iload hx hb dX9_nearestOff_63 (lv_at hl 2 rfl) ?_
        refine lv_iload hx hb dX9_nearestOff_65 (lv_at hl 0 rfl) ?_
        refine va_mmin hx hb (by rw [hml]; exact hl.1.symm) hown (hts _ (List.mem_of_getElem? (i := 43) rfl)) (hts _ (List.mem_of_getElem? (i := 44) rfl)) (hts _ (List.mem_of_getElem? (i := 45) rfl)) (hts _ (List.mem_of_getElem? (i := 46) rfl)) (Nat.le_of_ble_eq_true rfl) (Nat.le_of_ble_eq_true rfl) (Nat.le_of_ble_eq_true rfl) (Nat.le_of_ble_eq_true rfl) dX9_nearestOff_67 ?_
        refine lv_topi (fun n_11 en_11 => ?_)
        have tn_11 : n_11.toInt ≤ v6_9.toInt ∧ n_11.toInt ≤ r_9.toInt ∧ (n_11.toInt = v6_9.toInt ∨ n_11.toInt = r_9.toInt) := pp_min en_11
        refine lv_istore (lv' := [(6, .int n_11), (8, .int r_9), (7, .int v7_9), (0, .ref h0), (1, .int k), (2, .long a), (4, .long b)]) hx hb dX9_nearestOff_70 hl (by decide) rfl (fun ls hl => ?_)
        obtain ⟨n_12, en_12⟩ : ∃ y : Int32, y = v7_9 + 1 := ⟨_, rfl⟩
        have tn_12 : n_12.toInt = v7_9.toInt + 1 := pp_add en_12 rfl rfl (by omega) (by omega)
        refine lv_iinc (v := n_12) (lv' := [(7, .int n_12), (6, .int n_11), (8, .int r_9), (0, .ref h0), (1, .int k), (2, .long a), (4, .long b)]) hx hb dX9_nearestOff_72 hl (k := 2) rfl (by rw [en_12]; rfl) (by decide) rfl (fun ls hl => ?_)
        clear en_12
        refine lv_goto (tgt := 9) hx hb dX9_nearestOff_75 (by decide) ?_
        exact ihk_1 (n_12, n_11, y6) _ _ _ (by show (11077 + 1 - n_12.toInt).toNat < k_1; omega) ⟨(by first | omega | decide | (simp only [fa_lt, fa_le, fa_eq, and_true, true_and, and_false, false_and, not_true_eq_false, not_false_eq_true, li_0, li_1, li_2, li_3, li_4, li_5, li_6, li_7, li_8, li_9, li_10, li_12, li_15, li_16, li_20, li_30, li_34, li_38, li_40, li_63, li_64, li_65, li_78, li_120, li_1000, li_4000, li_10000, li_11077, li_255, li_65535, li_m1, li_m2, li_m1000000001, li_m1000000002, li_m1000000003, li_m1000000004, li_m1000000005, li_m1000000006, li_m1000000007, or_true, true_or, or_false, false_or, implies_true, true_implies, false_implies] <;> omega)), (by first | omega | decide | (simp only [fa_lt, fa_le, fa_eq, and_true, true_and, and_false, false_and, not_true_eq_false, not_false_eq_true, li_0, li_1, li_2, li_3, li_4, li_5, li_6, li_7, li_8, li_9, li_10, li_12, li_15, li_16, li_20, li_30, li_34, li_38, li_40, li_63, li_64, li_65, li_78, li_120, li_1000, li_4000, li_10000, li_11077, li_255, li_65535, li_m1, li_m2, li_m1000000001, li_m1000000002, li_m1000000003, li_m1000000004, li_m1000000005, li_m1000000006, li_m1000000007, or_true, true_or, or_false, false_or, implies_true, true_implies, false_implies] <;> omega)), (by first | omega | decide | (simp only [fa_lt, fa_le, fa_eq, and_true, true_and, and_false, false_and, not_true_eq_false, not_false_eq_true, li_0, li_1, li_2, li_3, li_4, li_5, li_6, li_7, li_8, li_9, li_10, li_12, li_15, li_16, li_20, li_30, li_34, li_38, li_40, li_63, li_64, li_65, li_78, li_120, li_1000, li_4000, li_10000, li_11077, li_255, li_65535, li_m1, li_m2, li_m1000000001, li_m1000000002, li_m1000000003, li_m1000000004, li_m1000000005, li_m1000000006, li_m1000000007, or_true, true_or, or_false, false_or, implies_true, true_implies, false_implies] <;> omega)), hP.sub [0, 1] rfl, hD.sub [0, 1] (by decide) rfl, hS, lv_sub hl [0, 1, 3, 4, 5, 6] rfl⟩
      · skip
        have tc_10 : ¬ v6_9.toInt ≤ r_9.toInt := fun h => c_10 ((fa_le _ _).mpr h)
        refine lv_iload hx hb dX9_nearestOff_51 (lv_at hl 1 rfl) ?_
        refine lv_goto (tgt := 60) hx hb dX9_nearestOff_53 (by decide) ?_
        refine va_put (D := (dC, dI)) (ci := 7) (v := .int v7_9) (ty := .int) (C := RX9) (T := TX9) (N := 28) hx hb hts inX9 tyX9 tyX9_ok nmX9 hown hK hP hD hS 0 rfl rfl 6 (by decide) (hts _ (List.mem_of_getElem? (i := 42) rfl)) (fun _ h9 => h9) rfl (by decide +kernel) rfl rfl (Nat.le_of_ble_eq_true rfl) dX9_nearestOff_60 (fun H locs hP hD hS => ?_)
        have hP : va_P (dC, dI) vwCl [(h0, .inr (7, [.ref a0, v1, v2, v3, v4, v5, .int v7_9, v7, v8, v9, v10, v11, v12, v13, v14, v15, v16, v17, v18, v19, v20, v21, v22, v23, v24, v25, v26, v27])), (a0, .inl (ac, 38, .inl nf))] H := hP
        have hD : va_D A [(h0, .inr (7, [.ref a0, v1, v2, v3, v4, v5, .int v7_9, v7, v8, v9, v10, v11, v12, v13, v14, v15, v16, v17, v18, v19, v20, v21, v22, v23, v24, v25, v26, v27])), (a0, .inl (ac, 38, .inl nf))] := hD
        refine lv_iload hx hb dX9_nearestOff_63 (lv_at hl 2 rfl) ?_
        refine lv_iload hx hb dX9_nearestOff_65 (lv_at hl 0 rfl) ?_
        refine va_mmin hx hb (by rw [hml]; exact hl.1.symm) hown (hts _ (List.mem_of_getElem? (i := 43) rfl)) (hts _ (List.mem_of_getElem? (i := 44) rfl)) (hts _ (List.mem_of_getElem? (i := 45) rfl)) (hts _ (List.mem_of_getElem? (i := 46) rfl)) (Nat.le_of_ble_eq_true rfl) (Nat.le_of_ble_eq_true rfl) (Nat.le_of_ble_eq_true rfl) (Nat.le_of_ble_eq_true rfl) dX9_nearestOff_67 ?_
        refine lv_topi (fun n_13 en_13 => ?_)
        have tn_13 : n_13.toInt ≤ v6_9.toInt ∧ n_13.toInt ≤ r_9.toInt ∧ (n_13.toInt = v6_9.toInt ∨ n_13.toInt = r_9.toInt) := pp_min en_13
        refine lv_istore (lv' := [(6, .int n_13), (8, .int r_9), (7, .int v7_9), (0, .ref h0), (1, .int k), (2, .long a), (4, .long b)]) hx hb dX9_nearestOff_70 hl (by decide) rfl (fun ls hl => ?_)
        obtain ⟨n_14, en_14⟩ : ∃ y : Int32, y = v7_9 + 1 := ⟨_, rfl⟩
        have tn_14 : n_14.toInt = v7_9.toInt + 1 := pp_add en_14 rfl rfl (by omega) (by omega)
        refine lv_iinc (v := n_14) (lv' := [(7, .int n_14), (6, .int n_13), (8, .int r_9), (0, .ref h0), (1, .int k), (2, .long a), (4, .long b)]) hx hb dX9_nearestOff_72 hl (k := 2) rfl (by rw [en_14]; rfl) (by decide) rfl (fun ls hl => ?_)
        clear en_14
        refine lv_goto (tgt := 9) hx hb dX9_nearestOff_75 (by decide) ?_
        exact ihk_1 (n_14, n_13, v7_9) _ _ _ (by show (11077 + 1 - n_14.toInt).toNat < k_1; omega) ⟨(by first | omega | decide | (simp only [fa_lt, fa_le, fa_eq, and_true, true_and, and_false, false_and, not_true_eq_false, not_false_eq_true, li_0, li_1, li_2, li_3, li_4, li_5, li_6, li_7, li_8, li_9, li_10, li_12, li_15, li_16, li_20, li_30, li_34, li_38, li_40, li_63, li_64, li_65, li_78, li_120, li_1000, li_4000, li_10000, li_11077, li_255, li_65535, li_m1, li_m2, li_m1000000001, li_m1000000002, li_m1000000003, li_m1000000004, li_m1000000005, li_m1000000006, li_m1000000007, or_true, true_or, or_false, false_or, implies_true, true_implies, false_implies] <;> omega)), (by first | omega | decide | (simp only [fa_lt, fa_le, fa_eq, and_true, true_and, and_false, false_and, not_true_eq_false, not_false_eq_true, li_0, li_1, li_2, li_3, li_4, li_5, li_6, li_7, li_8, li_9, li_10, li_12, li_15, li_16, li_20, li_30, li_34, li_38, li_40, li_63, li_64, li_65, li_78, li_120, li_1000, li_4000, li_10000, li_11077, li_255, li_65535, li_m1, li_m2, li_m1000000001, li_m1000000002, li_m1000000003, li_m1000000004, li_m1000000005, li_m1000000006, li_m1000000007, or_true, true_or, or_false, false_or, implies_true, true_implies, false_implies] <;> omega)), (by first | omega | decide | (simp only [fa_lt, fa_le, fa_eq, and_true, true_and, and_false, false_and, not_true_eq_false, not_false_eq_true, li_0, li_1, li_2, li_3, li_4, li_5, li_6, li_7, li_8, li_9, li_10, li_12, li_15, li_16, li_20, li_30, li_34, li_38, li_40, li_63, li_64, li_65, li_78, li_120, li_1000, li_4000, li_10000, li_11077, li_255, li_65535, li_m1, li_m2, li_m1000000001, li_m1000000002, li_m1000000003, li_m1000000004, li_m1000000005, li_m1000000006, li_m1000000007, or_true, true_or, or_false, false_or, implies_true, true_implies, false_implies] <;> omega)), hP.sub [0, 1] rfl, hD.sub [0, 1] (by decide) rfl, hS, lv_sub hl [0, 1, 3, 4, 5, 6] rfl⟩

def w_m_nearest : List Cond := .code yX9_nearest cX9_nearest 5 (some .int) :: (([.methodLink RX9 93 yX9_isShape, .instanceMethod yX9_isShape, .selects RX9 yX9_isShape yX9_isShape, .initialized RX9, .code yX9_isShape cX9_isShape 2 (some .boolean), .fieldLink RX9 9 "LampShapesModel" "now" "[I", .methodLink RX9 75 yX9_within, .static yX9_within, .code yX9_within cX9_within 3 (some .boolean), .constant RX9 74 (-1000000001), .methodLink RX9 84 yX9_finding, .instanceMethod yX9_finding, .selects RX9 yX9_finding yX9_finding, .code yX9_finding cX9_finding 2 (some .int), .fieldLink RX9 23 "LampShapesModel" "found" "[I", .methodLink RX9 155 yX9_isScene, .instanceMethod yX9_isScene, .selects RX9 yX9_isScene yX9_isScene, .code yX9_isScene cX9_isScene 2 (some .boolean), .fieldLink RX9 16 "LampShapesModel" "pictures" "[J", .methodLink RX9 176 yX9_nearestOff, .instanceMethod yX9_nearestOff, .selects RX9 yX9_nearestOff yX9_nearestOff, .code yX9_nearestOff cX9_nearestOff 9 (some .int), .methodLink RX9 164 yX9_isAllowed, .instanceMethod yX9_isAllowed, .selects RX9 yX9_isAllowed yX9_isAllowed, .code yX9_isAllowed cX9_isAllowed 2 (some .boolean), .methodLink RX9 126 yX9_isPlacing, .static yX9_isPlacing, .code yX9_isPlacing cX9_isPlacing 1 (some .boolean), .methodLink RX9 129 yX9_shadowOf, .instanceMethod yX9_shadowOf, .selects RX9 yX9_shadowOf yX9_shadowOf, .code yX9_shadowOf cX9_shadowOf 11 (some .long), .methodLink RX9 99 yX9_shapeIs, .instanceMethod yX9_shapeIs, .selects RX9 yX9_shapeIs yX9_shapeIs, .code yX9_shapeIs cX9_shapeIs 3 (some .int), .methodLink RX9 122 yX9_throwsOf, .static yX9_throwsOf, .code yX9_throwsOf cX9_throwsOf 8 (some .int), .methodLink RX9 112 yX9_mirrored, .static yX9_mirrored, .code yX9_mirrored cX9_mirrored 5 (some .int), .methodLink RX9 109 yX9_has, .static yX9_has, .code yX9_has cX9_has 3 (some .boolean), .methodLink RX9 114 yX9_turned, .static yX9_turned, .code yX9_turned cX9_turned 7 (some .int), .methodLink RX9 119 yX9_isBetween, .static yX9_isBetween, .code yX9_isBetween cX9_isBetween 6 (some .boolean), .methodLink RX9 116 yX9_isInner, .static yX9_isInner, .code yX9_isInner cX9_isInner 3 (some .boolean), .methodLink RX9 158 yX9_bits, .static yX9_bits, .code yX9_bits cX9_bits 5 (some .int), .fieldLink RX9 167 "LampShapesModel" "nearestPlacing" "I", .methodLink RX9 171 Lib.Math.min.name, .static Lib.Math.min.name, .initialized "java/lang/Math", .code Lib.Math.min.name Lib.Math.min.code 2 (some .int)] : List Cond) ++ wsX90)
set_option maxRecDepth 20000 in
theorem g_m_nearest_m_isShape_93 : GoodIn w_m_nearest (wsV RX9 93 RX9 yX9_isShape w_m_isShape) := goodIn_r _ [1, 2, 3, 4, 5, 6, 7, 8, 4, 9, 66, 67, 68, 69, 70, 71, 72, 73, 74, 75, 76, 77, 78, 79, 80, 81, 82, 83, 84, 85, 86, 87, 88, 89, 90, 91, 92, 93] rfl (by decide +kernel)
set_option maxRecDepth 20000 in
theorem g_m_nearest_mf_beyond_84 : GoodIn w_m_nearest (wsV RX9 84 RX9 yX9_finding w_mf_beyond) := goodIn_r _ [11, 12, 13, 4, 14, 15, 10, 66, 67, 68, 69, 70, 71, 72, 73, 74, 75, 76, 77, 78, 79, 80, 81, 82, 83, 84, 85, 86, 87, 88, 89, 90, 91, 92, 93] rfl (by decide +kernel)
set_option maxRecDepth 20000 in
theorem g_m_nearest_m_isScene_155 : GoodIn w_m_nearest (wsV RX9 155 RX9 yX9_isScene w_m_isScene) := goodIn_r _ [16, 17, 18, 4, 19, 6, 7, 8, 4, 9, 66, 67, 68, 69, 70, 71, 72, 73, 74, 75, 76, 77, 78, 79, 80, 81, 82, 83, 84, 85, 86, 87, 88, 89, 90, 91, 92, 93] rfl (by decide +kernel)
set_option maxRecDepth 20000 in
theorem g_m_nearest_m_within_75 : GoodIn w_m_nearest (va_wsS RX9 75 yX9_within w_m_within) := goodIn_r _ [7, 8, 4, 9] rfl (by decide +kernel)
set_option maxRecDepth 20000 in
theorem g_m_nearest_m_nearestOff_176 : GoodIn w_m_nearest (wsV RX9 176 RX9 yX9_nearestOff w_m_nearestOff) := goodIn_r _ [21, 22, 23, 4, 24, 25, 26, 27, 4, 28, 29, 30, 31, 7, 8, 9, 6, 32, 33, 34, 35, 36, 37, 38, 39, 40, 41, 42, 43, 44, 45, 46, 47, 48, 49, 50, 51, 52, 53, 54, 55, 56, 57, 58, 59, 60, 61, 62, 63, 64, 65, 66, 67, 68, 69, 70, 71, 72, 73, 74, 75, 76, 77, 78, 79, 80, 81, 82, 83, 84, 85, 86, 87, 88, 89, 90, 91, 92, 93] rfl (by decide +kernel)
set_option maxHeartbeats 4000000 in
set_option maxRecDepth 100000 in
theorem m_nearest (l : Launch) (dC : Nat → ClassId) (dI : Nat → Nat → Nat) (ad : Nat → Nat) (h0 : Nat) (a : Int32) (b : Int32) (a3 : Int32) (a0 : Nat) (v1 : Value) (p0 : Nat) (v3 : Value) (v4 : Value) (t0 : Nat) (np : Int32) (v7 : Value) (v8 : Value) (v9 : Value) (v10 : Value) (v11 : Value) (v12 : Value) (v13 : Value) (v14 : Value) (v15 : Value) (v16 : Value) (v17 : Value) (v18 : Value) (v19 : Value) (v20 : Value) (v21 : Value) (v22 : Value) (v23 : Value) (v24 : Value) (v25 : Value) (v26 : Value) (v27 : Value) (tc : ClassId) (tf : Nat → Int32) (ac : ClassId) (nf : Nat → Int32) (pc : ClassId) (pf : Nat → Int64) (sz : Nat) (hI : mI nf) : Met l yX9_nearest w_m_nearest ({ frames := 6, cells := 0, slots := 0, locals := 155 } : Room) (va_Pc [.ref h0, .int a, .int b, .int a3] (preM dC dI ad [(tc, .int), (ac, .int), (pc, .long)] [(h0, .inr (7, [.ref a0, v1, .ref p0, v3, v4, .ref t0, .int np, v7, v8, v9, v10, v11, v12, v13, v14, v15, v16, v17, v18, v19, v20, v21, v22, v23, v24, v25, v26, v27])), (t0, .inl (tc, 8, .inl tf)), (a0, .inl (ac, 38, .inl nf)), (p0, .inl (pc, 7, .inr (.inl pf)))] sz)) (va_Qi (fun (r : Int32) (_ : Unit) => True) (fun _ t => ∃ (tg : Nat → Int32), ∃ (np2 : Int32), va_P (dC, dI) vwCl [(h0, .inr (7, [.ref a0, v1, .ref p0, v3, v4, .ref t0, .int np2, v7, v8, v9, v10, v11, v12, v13, v14, v15, v16, v17, v18, v19, v20, v21, v22, v23, v24, v25, v26, v27])), (t0, .inl (tc, 8, .inl tg)), (a0, .inl (ac, 38, .inl nf)), (p0, .inl (pc, 7, .inr (.inl pf)))] t.heap ∧ va_K (dC, dI) vwCl [(tc, .int), (ac, .int), (pc, .long)] t ∧ va_D (va_A [(h0, .inr (7, [.ref a0, v1, .ref p0, v3, v4, .ref t0, .int np, v7, v8, v9, v10, v11, v12, v13, v14, v15, v16, v17, v18, v19, v20, v21, v22, v23, v24, v25, v26, v27])), (t0, .inl (tc, 8, .inl tf)), (a0, .inl (ac, 38, .inl nf)), (p0, .inl (pc, 7, .inr (.inl pf)))] sz) [(h0, .inr (7, [.ref a0, v1, .ref p0, v3, v4, .ref t0, .int np2, v7, v8, v9, v10, v11, v12, v13, v14, v15, v16, v17, v18, v19, v20, v21, v22, v23, v24, v25, v26, v27])), (t0, .inl (tc, 8, .inl tg)), (a0, .inl (ac, 38, .inl nf)), (p0, .inl (pc, 7, .inr (.inl pf)))]) (va_A [(h0, .inr (7, [.ref a0, v1, .ref p0, v3, v4, .ref t0, .int np, v7, v8, v9, v10, v11, v12, v13, v14, v15, v16, v17, v18, v19, v20, v21, v22, v23, v24, v25, v26, v27])), (t0, .inl (tc, 8, .inl tf)), (a0, .inl (ac, 38, .inl nf)), (p0, .inl (pc, 7, .inr (.inl pf)))] sz)) 0 0 (va_A [(h0, .inr (7, [.ref a0, v1, .ref p0, v3, v4, .ref t0, .int np, v7, v8, v9, v10, v11, v12, v13, v14, v15, v16, v17, v18, v19, v20, v21, v22, v23, v24, v25, v26, v27])), (t0, .inl (tc, 8, .inl tf)), (a0, .inl (ac, 38, .inl nf)), (p0, .inl (pc, 7, .inr (.inl pf)))] sz) := by
  refine Met.ofW (cc := cX9_nearest) (maxL := 5) (ret := (some .int)) (by decide) rfl ?_
  intro p e s m args below meth c s₁ B hml hv
  obtain ⟨rfl, hsz, hP, hK, hD0, hev⟩ := hv
  have hx := B.exec
  have hb := B.bytes
  have hr := B.returns
  have hts := atoms_spec (ws := w_m_nearest) B.pre
  have hown : s.vm.findClass RX9 = some m.cls := findClass_of_methodNamed B.named
  have hlocks := B.notSynchronized
  have inX9 : ∀ w ∈ wsX90, w ∈ w_m_nearest := fun w h => List.mem_cons_of_mem _ (List.mem_append_right _ h)
  subst hsz
  have hD := hD0.self (sz := s.heap.size)
  generalize hAe : va_A [(h0, .inr (7, [.ref a0, v1, .ref p0, v3, v4, .ref t0, .int np, v7, v8, v9, v10, v11, v12, v13, v14, v15, v16, v17, v18, v19, v20, v21, v22, v23, v24, v25, v26, v27])), (t0, .inl (tc, 8, .inl tf)), (a0, .inl (ac, 38, .inl nf)), (p0, .inl (pc, 7, .inr (.inl pf)))] s.heap.size = A at hD ⊢
  have hA : ∀ q : Nat, s.heap.size ≤ q → A q := fun q h => by rw [← hAe]; exact Or.inr h
  have hS : va_S A s.heap s.heap [] := va_S.rf
  have hP : va_P (dC, dI) vwCl [(h0, .inr (7, [.ref a0, v1, .ref p0, v3, v4, .ref t0, .int np, v7, v8, v9, v10, v11, v12, v13, v14, v15, v16, v17, v18, v19, v20, v21, v22, v23, v24, v25, v26, v27])), (t0, .inl (tc, 8, .inl tf)), (a0, .inl (ac, 38, .inl nf)), (p0, .inl (pc, 7, .inr (.inl pf)))] s.heap := hP
  have hl := lv_entry ([.ref h0, .int a, .int b, .int a3]) (n := 5) (Nat.le_of_ble_eq_true rfl)
  rw [lg_entry_eq]
  generalize (lg_sl ([.ref h0, .int a, .int b, .int a3]) ++ List.replicate (5 - (lg_sl ([.ref h0, .int a, .int b, .int a3])).length) Slot.unset).toArray = ls at hl ⊢
  have hl : lv_has ls 5 [(0, .ref h0), (1, .int a), (2, .int b), (3, .int a3)] := hl
  refine lv_aload_n hx hb dX9_nearest_0 rfl (lv_at hl 0 rfl) ?_
  refine lv_iload_n hx hb dX9_nearest_1 rfl (lv_at hl 1 rfl) ?_
  have hPc := hP.sub (ws' := [(h0, .inr (7, [.ref a0, v1, .ref p0, v3, v4, .ref t0, .int np, v7, v8, v9, v10, v11, v12, v13, v14, v15, v16, v17, v18, v19, v20, v21, v22, v23, v24, v25, v26, v27])), (a0, .inl (ac, 38, .inl nf))]) [0, 2] rfl
  have hKc := hK.sub (tys' := [(ac, .int)]) [1] rfl
  refine vp_callSi (W.runV (As := [.int a]) (rest := []) ⟨hx, hb, hml, hown, hts⟩ (m_isShape l dC dI ad h0 a a0 v1 (.ref p0) v3 v4 (.ref t0) (.int np) v7 v8 v9 v10 v11 v12 v13 v14 v15 v16 v17 v18 v19 v20 v21 v22 v23 v24 v25 v26 v27 ac nf hI) (cwV 1 hts g_m_nearest_m_isShape_93 rfl rfl rfl (by decide +kernel) ⟨(Nat.le_of_ble_eq_true rfl), (Nat.le_of_ble_eq_true rfl)⟩) ⟨preS_blind, va_recv hKc hPc (ci := 7) (q0 := 0) rfl rfl, fun U hU hW => ⟨rfl, preS_at hU hW hPc hKc hev⟩⟩ rfl rfl hl.1 rfl (lv_room (Nat.le_of_ble_eq_true rfl)) dX9_nearest_2 ⟨(Nat.le_of_ble_eq_true rfl), (Nat.le_of_ble_eq_true rfl)⟩) (fun r_1 hw => ?_)
  have hr_1 : (r_1.toInt = 1 ∧ 0 ≤ a.toInt ∧ a.toInt < (nf 0).toInt ∧ a.toInt ≤ 8) ∨ r_1.toInt = 0 := hw
  refine lv_if_eq (tgt := 25) hx hb dX9_nearest_5 (by decide) (fun c_2 => ?_) (fun c_2 => ?_)
  · skip
    have tc_2 : r_1.toInt = 0 := (fa_eq _ _).mp c_2
    refine lv_aload_n hx hb dX9_nearest_25 rfl (lv_at hl 0 rfl) ?_
    refine lv_ldc hx hb hown (hts _ (List.mem_of_getElem? (i := 10) rfl)) dX9_nearest_26 ?_
    have hPc := hP.sub (ws' := [(h0, .inr (7, [.ref a0, v1, .ref p0, v3, v4, .ref t0, .int np, v7, v8, v9, v10, v11, v12, v13, v14, v15, v16, v17, v18, v19, v20, v21, v22, v23, v24, v25, v26, v27])), (t0, .inl (tc, 8, .inl tf))]) [0, 1] rfl
    have hKc := hK.sub (tys' := [(tc, .int)]) [0] rfl
    have hDc := hD.sub (ws' := [(h0, .inr (7, [.ref a0, v1, .ref p0, v3, v4, .ref t0, .int np, v7, v8, v9, v10, v11, v12, v13, v14, v15, v16, v17, v18, v19, v20, v21, v22, v23, v24, v25, v26, v27])), (t0, .inl (tc, 8, .inl tf))]) [0, 1] (by decide) rfl
    have hFc := va_free (wc := [(h0, .inr (7, [.ref a0, v1, .ref p0, v3, v4, .ref t0, .int np, v7, v8, v9, v10, v11, v12, v13, v14, v15, v16, v17, v18, v19, v20, v21, v22, v23, v24, v25, v26, v27])), (t0, .inl (tc, 8, .inl tf))]) hD hS hA [0, 1] rfl
    refine va_calli (va_runV (As := [.int (-1000000001)]) (rest := []) ⟨hx, hb, hml, hown, hts⟩ (mf_beyond l dC dI ad h0 (.ref a0) v1 (.ref p0) v3 v4 t0 (.int np) v7 v8 v9 v10 v11 v12 v13 v14 v15 v16 v17 v18 v19 v20 v21 v22 v23 v24 v25 v26 v27 tc tf s.heap.size ) (cwV 1 hts g_m_nearest_mf_beyond_84 rfl rfl rfl (by decide +kernel) ⟨(Nat.le_of_ble_eq_true rfl), (Nat.le_of_ble_eq_true rfl)⟩) ⟨preM_blind, va_recv hKc hPc (ci := 7) (q0 := 0) rfl rfl, fun U hU hW => ⟨rfl, preM_at hU hW hPc hKc hDc hev⟩⟩ rfl rfl hl.1 rfl (lv_room (Nat.le_of_ble_eq_true rfl)) dX9_nearest_28 ⟨(Nat.le_of_ble_eq_true rfl), (Nat.le_of_ble_eq_true rfl)⟩) hS (fun q _ h => hFc q h) hFc (fun r_3 u t H1 locs ht hvm hw hB hz1 hk1 hS => ?_)
    obtain ⟨tg_4, hP1, hK1, hD1⟩ := hB
    rw [ht] at hP1
    have hK1 := va_K.moved hvm.symm hK1
    obtain ⟨hP, hD⟩ := va_join (wr := [(a0, .inl (ac, 38, .inl nf)), (p0, .inl (pc, 7, .inr (.inl pf)))]) (w1 := [(h0, .inr (7, [.ref a0, v1, .ref p0, v3, v4, .ref t0, .int np, v7, v8, v9, v10, v11, v12, v13, v14, v15, v16, v17, v18, v19, v20, v21, v22, v23, v24, v25, v26, v27])), (t0, .inl (tc, 8, .inl tg_4))]) hP hD [0, 1] [2, 3] rfl rfl (by decide) (by decide) hk1 hFc hP1 hD1
    generalize H1 = H at hP hS ⊢
    have hP : va_P (dC, dI) vwCl [(a0, .inl (ac, 38, .inl nf)), (p0, .inl (pc, 7, .inr (.inl pf))), (h0, .inr (7, [.ref a0, v1, .ref p0, v3, v4, .ref t0, .int np, v7, v8, v9, v10, v11, v12, v13, v14, v15, v16, v17, v18, v19, v20, v21, v22, v23, v24, v25, v26, v27])), (t0, .inl (tc, 8, .inl tg_4))] H := hP
    have hD : va_D A [(a0, .inl (ac, 38, .inl nf)), (p0, .inl (pc, 7, .inr (.inl pf))), (h0, .inr (7, [.ref a0, v1, .ref p0, v3, v4, .ref t0, .int np, v7, v8, v9, v10, v11, v12, v13, v14, v15, v16, v17, v18, v19, v20, v21, v22, v23, v24, v25, v26, v27])), (t0, .inl (tc, 8, .inl tg_4))] := hD
    subst hw
    have hP9 := hP.sub (ws' := [(h0, .inr (7, [.ref a0, v1, .ref p0, v3, v4, .ref t0, .int np, v7, v8, v9, v10, v11, v12, v13, v14, v15, v16, v17, v18, v19, v20, v21, v22, v23, v24, v25, v26, v27])), (t0, .inl (tc, 8, .inl tg_4)), (a0, .inl (ac, 38, .inl nf)), (p0, .inl (pc, 7, .inr (.inl pf)))]) [2, 3, 0, 1] rfl
    have hD9 := hD.sub (ws' := [(h0, .inr (7, [.ref a0, v1, .ref p0, v3, v4, .ref t0, .int np, v7, v8, v9, v10, v11, v12, v13, v14, v15, v16, v17, v18, v19, v20, v21, v22, v23, v24, v25, v26, v27])), (t0, .inl (tc, 8, .inl tg_4)), (a0, .inl (ac, 38, .inl nf)), (p0, .inl (pc, 7, .inr (.inl pf)))]) [2, 3, 0, 1] (by decide) rfl
    have hK9 := hK.sub (tys' := [(tc, .int), (ac, .int), (pc, .long)]) [0, 1, 2] rfl
    exact W.iret (v := ((-1000000001) : Int32)) hx hb hr (fun t ht hW => ⟨⟨((-1000000001) : Int32), (), rfl, trivial, tg_4, np, by rw [ht]; exact hP9, va_K.moved hW.alike hK9, hD9⟩, hS.F ht⟩) hS.2.2 dX9_nearest_31
  · skip
    have tc_2 : ¬ r_1.toInt = 0 := fun h => c_2 ((fa_eq _ _).mpr h)
    have i_5 : 0 ≤ a.toInt ∧ a.toInt < (nf 0).toInt ∧ a.toInt ≤ 8 := by omega
    refine lv_aload_n hx hb dX9_nearest_8 rfl (lv_at hl 0 rfl) ?_
    refine lv_iload_n hx hb dX9_nearest_9 rfl (lv_at hl 2 rfl) ?_
    have hPc := hP.sub (ws' := [(h0, .inr (7, [.ref a0, v1, .ref p0, v3, v4, .ref t0, .int np, v7, v8, v9, v10, v11, v12, v13, v14, v15, v16, v17, v18, v19, v20, v21, v22, v23, v24, v25, v26, v27])), (a0, .inl (ac, 38, .inl nf))]) [0, 2] rfl
    have hKc := hK.sub (tys' := [(ac, .int)]) [1] rfl
    refine vp_callSi (W.runV (As := [.int b]) (rest := []) ⟨hx, hb, hml, hown, hts⟩ (m_isScene l dC dI ad h0 b a0 v1 (.ref p0) v3 v4 (.ref t0) (.int np) v7 v8 v9 v10 v11 v12 v13 v14 v15 v16 v17 v18 v19 v20 v21 v22 v23 v24 v25 v26 v27 ac nf hI) (cwV 1 hts g_m_nearest_m_isScene_155 rfl rfl rfl (by decide +kernel) ⟨(Nat.le_of_ble_eq_true rfl), (Nat.le_of_ble_eq_true rfl)⟩) ⟨preS_blind, va_recv hKc hPc (ci := 7) (q0 := 0) rfl rfl, fun U hU hW => ⟨rfl, preS_at hU hW hPc hKc hev⟩⟩ rfl rfl hl.1 rfl (lv_room (Nat.le_of_ble_eq_true rfl)) dX9_nearest_10 ⟨(Nat.le_of_ble_eq_true rfl), (Nat.le_of_ble_eq_true rfl)⟩) (fun r_6 hw => ?_)
    have hr_6 : (r_6.toInt = 1 ∧ 0 ≤ b.toInt ∧ b.toInt < (nf 1).toInt ∧ b.toInt ≤ 6) ∨ r_6.toInt = 0 := hw
    refine lv_if_eq (tgt := 25) hx hb dX9_nearest_13 (by decide) (fun c_7 => ?_) (fun c_7 => ?_)
    · skip
      have tc_7 : r_6.toInt = 0 := (fa_eq _ _).mp c_7
      refine lv_aload_n hx hb dX9_nearest_25 rfl (lv_at hl 0 rfl) ?_
      refine lv_ldc hx hb hown (hts _ (List.mem_of_getElem? (i := 10) rfl)) dX9_nearest_26 ?_
      have hPc := hP.sub (ws' := [(h0, .inr (7, [.ref a0, v1, .ref p0, v3, v4, .ref t0, .int np, v7, v8, v9, v10, v11, v12, v13, v14, v15, v16, v17, v18, v19, v20, v21, v22, v23, v24, v25, v26, v27])), (t0, .inl (tc, 8, .inl tf))]) [0, 1] rfl
      have hKc := hK.sub (tys' := [(tc, .int)]) [0] rfl
      have hDc := hD.sub (ws' := [(h0, .inr (7, [.ref a0, v1, .ref p0, v3, v4, .ref t0, .int np, v7, v8, v9, v10, v11, v12, v13, v14, v15, v16, v17, v18, v19, v20, v21, v22, v23, v24, v25, v26, v27])), (t0, .inl (tc, 8, .inl tf))]) [0, 1] (by decide) rfl
      have hFc := va_free (wc := [(h0, .inr (7, [.ref a0, v1, .ref p0, v3, v4, .ref t0, .int np, v7, v8, v9, v10, v11, v12, v13, v14, v15, v16, v17, v18, v19, v20, v21, v22, v23, v24, v25, v26, v27])), (t0, .inl (tc, 8, .inl tf))]) hD hS hA [0, 1] rfl
      refine va_calli (va_runV (As := [.int (-1000000001)]) (rest := []) ⟨hx, hb, hml, hown, hts⟩ (mf_beyond l dC dI ad h0 (.ref a0) v1 (.ref p0) v3 v4 t0 (.int np) v7 v8 v9 v10 v11 v12 v13 v14 v15 v16 v17 v18 v19 v20 v21 v22 v23 v24 v25 v26 v27 tc tf s.heap.size ) (cwV 1 hts g_m_nearest_mf_beyond_84 rfl rfl rfl (by decide +kernel) ⟨(Nat.le_of_ble_eq_true rfl), (Nat.le_of_ble_eq_true rfl)⟩) ⟨preM_blind, va_recv hKc hPc (ci := 7) (q0 := 0) rfl rfl, fun U hU hW => ⟨rfl, preM_at hU hW hPc hKc hDc hev⟩⟩ rfl rfl hl.1 rfl (lv_room (Nat.le_of_ble_eq_true rfl)) dX9_nearest_28 ⟨(Nat.le_of_ble_eq_true rfl), (Nat.le_of_ble_eq_true rfl)⟩) hS (fun q _ h => hFc q h) hFc (fun r_8 u t H1 locs ht hvm hw hB hz1 hk1 hS => ?_)
      obtain ⟨tg_9, hP1, hK1, hD1⟩ := hB
      rw [ht] at hP1
      have hK1 := va_K.moved hvm.symm hK1
      obtain ⟨hP, hD⟩ := va_join (wr := [(a0, .inl (ac, 38, .inl nf)), (p0, .inl (pc, 7, .inr (.inl pf)))]) (w1 := [(h0, .inr (7, [.ref a0, v1, .ref p0, v3, v4, .ref t0, .int np, v7, v8, v9, v10, v11, v12, v13, v14, v15, v16, v17, v18, v19, v20, v21, v22, v23, v24, v25, v26, v27])), (t0, .inl (tc, 8, .inl tg_9))]) hP hD [0, 1] [2, 3] rfl rfl (by decide) (by decide) hk1 hFc hP1 hD1
      generalize H1 = H at hP hS ⊢
      have hP : va_P (dC, dI) vwCl [(a0, .inl (ac, 38, .inl nf)), (p0, .inl (pc, 7, .inr (.inl pf))), (h0, .inr (7, [.ref a0, v1, .ref p0, v3, v4, .ref t0, .int np, v7, v8, v9, v10, v11, v12, v13, v14, v15, v16, v17, v18, v19, v20, v21, v22, v23, v24, v25, v26, v27])), (t0, .inl (tc, 8, .inl tg_9))] H := hP
      have hD : va_D A [(a0, .inl (ac, 38, .inl nf)), (p0, .inl (pc, 7, .inr (.inl pf))), (h0, .inr (7, [.ref a0, v1, .ref p0, v3, v4, .ref t0, .int np, v7, v8, v9, v10, v11, v12, v13, v14, v15, v16, v17, v18, v19, v20, v21, v22, v23, v24, v25, v26, v27])), (t0, .inl (tc, 8, .inl tg_9))] := hD
      subst hw
      have hP9 := hP.sub (ws' := [(h0, .inr (7, [.ref a0, v1, .ref p0, v3, v4, .ref t0, .int np, v7, v8, v9, v10, v11, v12, v13, v14, v15, v16, v17, v18, v19, v20, v21, v22, v23, v24, v25, v26, v27])), (t0, .inl (tc, 8, .inl tg_9)), (a0, .inl (ac, 38, .inl nf)), (p0, .inl (pc, 7, .inr (.inl pf)))]) [2, 3, 0, 1] rfl
      have hD9 := hD.sub (ws' := [(h0, .inr (7, [.ref a0, v1, .ref p0, v3, v4, .ref t0, .int np, v7, v8, v9, v10, v11, v12, v13, v14, v15, v16, v17, v18, v19, v20, v21, v22, v23, v24, v25, v26, v27])), (t0, .inl (tc, 8, .inl tg_9)), (a0, .inl (ac, 38, .inl nf)), (p0, .inl (pc, 7, .inr (.inl pf)))]) [2, 3, 0, 1] (by decide) rfl
      have hK9 := hK.sub (tys' := [(tc, .int), (ac, .int), (pc, .long)]) [0, 1, 2] rfl
      exact W.iret (v := ((-1000000001) : Int32)) hx hb hr (fun t ht hW => ⟨⟨((-1000000001) : Int32), (), rfl, trivial, tg_9, np, by rw [ht]; exact hP9, va_K.moved hW.alike hK9, hD9⟩, hS.F ht⟩) hS.2.2 dX9_nearest_31
    · skip
      have tc_7 : ¬ r_6.toInt = 0 := fun h => c_7 ((fa_eq _ _).mpr h)
      have i_10 : 0 ≤ b.toInt ∧ b.toInt < (nf 1).toInt ∧ b.toInt ≤ 6 := by omega
      refine lv_iload_n hx hb dX9_nearest_16 rfl (lv_at hl 3 rfl) ?_
      refine lv_iconst (v := 0) hx hb dX9_nearest_17 (by decide) ?_
      refine lv_iconst (v := 1) hx hb dX9_nearest_18 (by decide) ?_
      have hPc := hP.sub (ws' := []) [] rfl
      have hKc := hK.sub (tys' := []) [] rfl
      refine vp_callSi (W.runS (As := [.int a3, .int 0, .int 1]) (rest := []) ⟨hx, hb, hml, hown, hts⟩ (m_within l dC dI ad a3 0 1 ) (va_cwS 3 hts g_m_nearest_m_within_75 rfl rfl rfl (by decide +kernel) ⟨(Nat.le_of_ble_eq_true rfl), (Nat.le_of_ble_eq_true rfl)⟩) ⟨preS_blind, fun U hU hW => ⟨rfl, preS_at hU hW hPc hKc hev⟩⟩ rfl rfl hl.1 rfl (lv_room (Nat.le_of_ble_eq_true rfl)) dX9_nearest_19 ⟨(Nat.le_of_ble_eq_true rfl), (Nat.le_of_ble_eq_true rfl)⟩) (fun r_11 hw => ?_)
      have hr_11 : (r_11.toInt = 1 ∧ 0 ≤ a3.toInt ∧ a3.toInt ≤ 1) ∨ (r_11.toInt = 0 ∧ ¬ (0 ≤ a3.toInt ∧ a3.toInt ≤ 1)) := hw
      refine lv_if_ne (tgt := 32) hx hb dX9_nearest_22 (by decide) (fun c_12 => ?_) (fun c_12 => ?_)
      · skip
        have tc_12 : ¬ r_11.toInt = 0 := fun h => c_12 ((fa_eq _ _).mpr h)
        have i_13 : 0 ≤ a3.toInt ∧ a3.toInt ≤ 1 := by omega
        refine lv_aload_n hx hb dX9_nearest_32 rfl (lv_at hl 0 rfl) ?_
        refine lv_iload_n hx hb dX9_nearest_33 rfl (lv_at hl 1 rfl) ?_
        refine lv_lconst (v := 0) hx hb dX9_nearest_34 (by decide) ?_
        refine lv_aload_n hx hb dX9_nearest_35 rfl (lv_at hl 0 rfl) ?_
        refine va_get (D := (dC, dI)) (ci := 7) (v := .ref p0) (C := RX9) (T := TX9) (N := 28) hx hb hts inX9 hown hK hP 0 rfl rfl 2 (by decide) (hts _ (List.mem_of_getElem? (i := 20) rfl)) (fun _ h9 => h9) rfl dX9_nearest_36 ?_
        refine lv_iload_n hx hb dX9_nearest_39 rfl (lv_at hl 2 rfl) ?_
        refine va_lald hx hb hK hP 3 2 rfl rfl (vp_in_iff.mpr ⟨by omega, by omega⟩) dX9_nearest_40 ?_
        refine lv_topl (fun n_14 en_14 => ?_)
        clear en_14
        have hPc := hP.sub (ws' := [(h0, .inr (7, [.ref a0, v1, .ref p0, v3, v4, .ref t0, .int np, v7, v8, v9, v10, v11, v12, v13, v14, v15, v16, v17, v18, v19, v20, v21, v22, v23, v24, v25, v26, v27])), (a0, .inl (ac, 38, .inl nf))]) [0, 2] rfl
        have hKc := hK.sub (tys' := [(ac, .int)]) [1] rfl
        have hDc := hD.sub (ws' := [(h0, .inr (7, [.ref a0, v1, .ref p0, v3, v4, .ref t0, .int np, v7, v8, v9, v10, v11, v12, v13, v14, v15, v16, v17, v18, v19, v20, v21, v22, v23, v24, v25, v26, v27])), (a0, .inl (ac, 38, .inl nf))]) [0, 2] (by decide) rfl
        have hFc := va_free (wc := [(h0, .inr (7, [.ref a0, v1, .ref p0, v3, v4, .ref t0, .int np, v7, v8, v9, v10, v11, v12, v13, v14, v15, v16, v17, v18, v19, v20, v21, v22, v23, v24, v25, v26, v27])), (a0, .inl (ac, 38, .inl nf))]) hD hS hA [0, 2] rfl
        refine va_calli (va_runV (As := [.int a, .long 0, .long n_14]) (rest := []) ⟨hx, hb, hml, hown, hts⟩ (m_nearestOff l dC dI ad h0 a 0 n_14 a0 v1 (.ref p0) v3 v4 (.ref t0) np v7 v8 v9 v10 v11 v12 v13 v14 v15 v16 v17 v18 v19 v20 v21 v22 v23 v24 v25 v26 v27 ac nf s.heap.size hI (by first | omega | decide | (simp only [fa_lt, fa_le, fa_eq, and_true, true_and, and_false, false_and, not_true_eq_false, not_false_eq_true, li_0, li_1, li_2, li_3, li_4, li_5, li_6, li_7, li_8, li_9, li_10, li_12, li_15, li_16, li_20, li_30, li_34, li_38, li_40, li_63, li_64, li_65, li_78, li_120, li_1000, li_4000, li_10000, li_11077, li_255, li_65535, li_m1, li_m2, li_m1000000001, li_m1000000002, li_m1000000003, li_m1000000004, li_m1000000005, li_m1000000006, li_m1000000007, or_true, true_or, or_false, false_or, implies_true, true_implies, false_implies] <;> omega))) (cwV 3 hts g_m_nearest_m_nearestOff_176 rfl rfl rfl (by decide +kernel) ⟨(Nat.le_of_ble_eq_true rfl), (Nat.le_of_ble_eq_true rfl)⟩) ⟨preM_blind, va_recv hKc hPc (ci := 7) (q0 := 0) rfl rfl, fun U hU hW => ⟨rfl, preM_at hU hW hPc hKc hDc hev⟩⟩ rfl rfl hl.1 rfl (lv_room (Nat.le_of_ble_eq_true rfl)) dX9_nearest_41 ⟨(Nat.le_of_ble_eq_true rfl), (Nat.le_of_ble_eq_true rfl)⟩) hS (fun q _ h => hFc q h) hFc (fun r_15 u t H1 locs ht hvm hw hB hz1 hk1 hS => ?_)
        obtain ⟨np_16, hP1, hK1, hD1⟩ := hB
        rw [ht] at hP1
        have hK1 := va_K.moved hvm.symm hK1
        obtain ⟨hP, hD⟩ := va_join (wr := [(t0, .inl (tc, 8, .inl tf)), (p0, .inl (pc, 7, .inr (.inl pf)))]) (w1 := [(h0, .inr (7, [.ref a0, v1, .ref p0, v3, v4, .ref t0, .int np_16, v7, v8, v9, v10, v11, v12, v13, v14, v15, v16, v17, v18, v19, v20, v21, v22, v23, v24, v25, v26, v27])), (a0, .inl (ac, 38, .inl nf))]) hP hD [0, 2] [1, 3] rfl rfl (by decide) (by decide) hk1 hFc hP1 hD1
        generalize H1 = H at hP hS ⊢
        have hP : va_P (dC, dI) vwCl [(t0, .inl (tc, 8, .inl tf)), (p0, .inl (pc, 7, .inr (.inl pf))), (h0, .inr (7, [.ref a0, v1, .ref p0, v3, v4, .ref t0, .int np_16, v7, v8, v9, v10, v11, v12, v13, v14, v15, v16, v17, v18, v19, v20, v21, v22, v23, v24, v25, v26, v27])), (a0, .inl (ac, 38, .inl nf))] H := hP
        have hD : va_D A [(t0, .inl (tc, 8, .inl tf)), (p0, .inl (pc, 7, .inr (.inl pf))), (h0, .inr (7, [.ref a0, v1, .ref p0, v3, v4, .ref t0, .int np_16, v7, v8, v9, v10, v11, v12, v13, v14, v15, v16, v17, v18, v19, v20, v21, v22, v23, v24, v25, v26, v27])), (a0, .inl (ac, 38, .inl nf))] := hD
        have hr_15 : r_15.toInt ≤ 65 := hw
        refine lv_istore (lv' := [(4, .int r_15), (0, .ref h0), (1, .int a), (2, .int b), (3, .int a3)]) hx hb dX9_nearest_44 hl (by decide) rfl (fun ls hl => ?_)
        refine lv_iload_n hx hb dX9_nearest_46 rfl (lv_at hl 4 rfl) ?_
        refine lv_if_ne (tgt := 57) hx hb dX9_nearest_47 (by decide) (fun c_17 => ?_) (fun c_17 => ?_)
        · skip
          have tc_17 : ¬ a3.toInt = 0 := fun h => c_17 ((fa_eq _ _).mpr h)
          refine lv_iload hx hb dX9_nearest_57 (lv_at hl 0 rfl) ?_
          have hP9 := hP.sub (ws' := [(h0, .inr (7, [.ref a0, v1, .ref p0, v3, v4, .ref t0, .int np_16, v7, v8, v9, v10, v11, v12, v13, v14, v15, v16, v17, v18, v19, v20, v21, v22, v23, v24, v25, v26, v27])), (t0, .inl (tc, 8, .inl tf)), (a0, .inl (ac, 38, .inl nf)), (p0, .inl (pc, 7, .inr (.inl pf)))]) [2, 0, 3, 1] rfl
          have hD9 := hD.sub (ws' := [(h0, .inr (7, [.ref a0, v1, .ref p0, v3, v4, .ref t0, .int np_16, v7, v8, v9, v10, v11, v12, v13, v14, v15, v16, v17, v18, v19, v20, v21, v22, v23, v24, v25, v26, v27])), (t0, .inl (tc, 8, .inl tf)), (a0, .inl (ac, 38, .inl nf)), (p0, .inl (pc, 7, .inr (.inl pf)))]) [2, 0, 3, 1] (by decide) rfl
          have hK9 := hK.sub (tys' := [(tc, .int), (ac, .int), (pc, .long)]) [0, 1, 2] rfl
          exact W.iret (v := r_15) hx hb hr (fun t ht hW => ⟨⟨r_15, (), rfl, trivial, tf, np_16, by rw [ht]; exact hP9, va_K.moved hW.alike hK9, hD9⟩, hS.F ht⟩) hS.2.2 dX9_nearest_59
        · skip
          have tc_17 : a3.toInt = 0 := (fa_eq _ _).mp c_17
          refine lv_aload_n hx hb dX9_nearest_50 rfl (lv_at hl 1 rfl) ?_
          refine va_get (D := (dC, dI)) (ci := 7) (v := .int np_16) (C := RX9) (T := TX9) (N := 28) hx hb hts inX9 hown hK hP 2 rfl rfl 6 (by decide) (hts _ (List.mem_of_getElem? (i := 61) rfl)) (fun _ h9 => h9) rfl dX9_nearest_51 ?_
          refine lv_goto (tgt := 59) hx hb dX9_nearest_54 (by decide) ?_
          have hP9 := hP.sub (ws' := [(h0, .inr (7, [.ref a0, v1, .ref p0, v3, v4, .ref t0, .int np_16, v7, v8, v9, v10, v11, v12, v13, v14, v15, v16, v17, v18, v19, v20, v21, v22, v23, v24, v25, v26, v27])), (t0, .inl (tc, 8, .inl tf)), (a0, .inl (ac, 38, .inl nf)), (p0, .inl (pc, 7, .inr (.inl pf)))]) [2, 0, 3, 1] rfl
          have hD9 := hD.sub (ws' := [(h0, .inr (7, [.ref a0, v1, .ref p0, v3, v4, .ref t0, .int np_16, v7, v8, v9, v10, v11, v12, v13, v14, v15, v16, v17, v18, v19, v20, v21, v22, v23, v24, v25, v26, v27])), (t0, .inl (tc, 8, .inl tf)), (a0, .inl (ac, 38, .inl nf)), (p0, .inl (pc, 7, .inr (.inl pf)))]) [2, 0, 3, 1] (by decide) rfl
          have hK9 := hK.sub (tys' := [(tc, .int), (ac, .int), (pc, .long)]) [0, 1, 2] rfl
          exact W.iret (v := np_16) hx hb hr (fun t ht hW => ⟨⟨np_16, (), rfl, trivial, tf, np_16, by rw [ht]; exact hP9, va_K.moved hW.alike hK9, hD9⟩, hS.F ht⟩) hS.2.2 dX9_nearest_59
      · skip
        have tc_12 : r_11.toInt = 0 := (fa_eq _ _).mp c_12
        refine lv_aload_n hx hb dX9_nearest_25 rfl (lv_at hl 0 rfl) ?_
        refine lv_ldc hx hb hown (hts _ (List.mem_of_getElem? (i := 10) rfl)) dX9_nearest_26 ?_
        have hPc := hP.sub (ws' := [(h0, .inr (7, [.ref a0, v1, .ref p0, v3, v4, .ref t0, .int np, v7, v8, v9, v10, v11, v12, v13, v14, v15, v16, v17, v18, v19, v20, v21, v22, v23, v24, v25, v26, v27])), (t0, .inl (tc, 8, .inl tf))]) [0, 1] rfl
        have hKc := hK.sub (tys' := [(tc, .int)]) [0] rfl
        have hDc := hD.sub (ws' := [(h0, .inr (7, [.ref a0, v1, .ref p0, v3, v4, .ref t0, .int np, v7, v8, v9, v10, v11, v12, v13, v14, v15, v16, v17, v18, v19, v20, v21, v22, v23, v24, v25, v26, v27])), (t0, .inl (tc, 8, .inl tf))]) [0, 1] (by decide) rfl
        have hFc := va_free (wc := [(h0, .inr (7, [.ref a0, v1, .ref p0, v3, v4, .ref t0, .int np, v7, v8, v9, v10, v11, v12, v13, v14, v15, v16, v17, v18, v19, v20, v21, v22, v23, v24, v25, v26, v27])), (t0, .inl (tc, 8, .inl tf))]) hD hS hA [0, 1] rfl
        refine va_calli (va_runV (As := [.int (-1000000001)]) (rest := []) ⟨hx, hb, hml, hown, hts⟩ (mf_beyond l dC dI ad h0 (.ref a0) v1 (.ref p0) v3 v4 t0 (.int np) v7 v8 v9 v10 v11 v12 v13 v14 v15 v16 v17 v18 v19 v20 v21 v22 v23 v24 v25 v26 v27 tc tf s.heap.size ) (cwV 1 hts g_m_nearest_mf_beyond_84 rfl rfl rfl (by decide +kernel) ⟨(Nat.le_of_ble_eq_true rfl), (Nat.le_of_ble_eq_true rfl)⟩) ⟨preM_blind, va_recv hKc hPc (ci := 7) (q0 := 0) rfl rfl, fun U hU hW => ⟨rfl, preM_at hU hW hPc hKc hDc hev⟩⟩ rfl rfl hl.1 rfl (lv_room (Nat.le_of_ble_eq_true rfl)) dX9_nearest_28 ⟨(Nat.le_of_ble_eq_true rfl), (Nat.le_of_ble_eq_true rfl)⟩) hS (fun q _ h => hFc q h) hFc (fun r_18 u t H1 locs ht hvm hw hB hz1 hk1 hS => ?_)
        obtain ⟨tg_19, hP1, hK1, hD1⟩ := hB
        rw [ht] at hP1
        have hK1 := va_K.moved hvm.symm hK1
        obtain ⟨hP, hD⟩ := va_join (wr := [(a0, .inl (ac, 38, .inl nf)), (p0, .inl (pc, 7, .inr (.inl pf)))]) (w1 := [(h0, .inr (7, [.ref a0, v1, .ref p0, v3, v4, .ref t0, .int np, v7, v8, v9, v10, v11, v12, v13, v14, v15, v16, v17, v18, v19, v20, v21, v22, v23, v24, v25, v26, v27])), (t0, .inl (tc, 8, .inl tg_19))]) hP hD [0, 1] [2, 3] rfl rfl (by decide) (by decide) hk1 hFc hP1 hD1
        generalize H1 = H at hP hS ⊢
        have hP : va_P (dC, dI) vwCl [(a0, .inl (ac, 38, .inl nf)), (p0, .inl (pc, 7, .inr (.inl pf))), (h0, .inr (7, [.ref a0, v1, .ref p0, v3, v4, .ref t0, .int np, v7, v8, v9, v10, v11, v12, v13, v14, v15, v16, v17, v18, v19, v20, v21, v22, v23, v24, v25, v26, v27])), (t0, .inl (tc, 8, .inl tg_19))] H := hP
        have hD : va_D A [(a0, .inl (ac, 38, .inl nf)), (p0, .inl (pc, 7, .inr (.inl pf))), (h0, .inr (7, [.ref a0, v1, .ref p0, v3, v4, .ref t0, .int np, v7, v8, v9, v10, v11, v12, v13, v14, v15, v16, v17, v18, v19, v20, v21, v22, v23, v24, v25, v26, v27])), (t0, .inl (tc, 8, .inl tg_19))] := hD
        subst hw
        have hP9 := hP.sub (ws' := [(h0, .inr (7, [.ref a0, v1, .ref p0, v3, v4, .ref t0, .int np, v7, v8, v9, v10, v11, v12, v13, v14, v15, v16, v17, v18, v19, v20, v21, v22, v23, v24, v25, v26, v27])), (t0, .inl (tc, 8, .inl tg_19)), (a0, .inl (ac, 38, .inl nf)), (p0, .inl (pc, 7, .inr (.inl pf)))]) [2, 3, 0, 1] rfl
        have hD9 := hD.sub (ws' := [(h0, .inr (7, [.ref a0, v1, .ref p0, v3, v4, .ref t0, .int np, v7, v8, v9, v10, v11, v12, v13, v14, v15, v16, v17, v18, v19, v20, v21, v22, v23, v24, v25, v26, v27])), (t0, .inl (tc, 8, .inl tg_19)), (a0, .inl (ac, 38, .inl nf)), (p0, .inl (pc, 7, .inr (.inl pf)))]) [2, 3, 0, 1] (by decide) rfl
        have hK9 := hK.sub (tys' := [(tc, .int), (ac, .int), (pc, .long)]) [0, 1, 2] rfl
        exact W.iret (v := ((-1000000001) : Int32)) hx hb hr (fun t ht hW => ⟨⟨((-1000000001) : Int32), (), rfl, trivial, tg_19, np, by rw [ht]; exact hP9, va_K.moved hW.alike hK9, hD9⟩, hS.F ht⟩) hS.2.2 dX9_nearest_31

def w_m_best : List Cond := .code yX9_best cX9_best 6 (some .int) :: (([.methodLink RX9 155 yX9_isScene, .instanceMethod yX9_isScene, .selects RX9 yX9_isScene yX9_isScene, .initialized RX9, .code yX9_isScene cX9_isScene 2 (some .boolean), .fieldLink RX9 9 "LampShapesModel" "now" "[I", .methodLink RX9 75 yX9_within, .static yX9_within, .code yX9_within cX9_within 3 (some .boolean), .constant RX9 150 (-1000000004), .methodLink RX9 84 yX9_finding, .instanceMethod yX9_finding, .selects RX9 yX9_finding yX9_finding, .code yX9_finding cX9_finding 2 (some .int), .fieldLink RX9 23 "LampShapesModel" "found" "[I", .constant RX9 74 (-1000000001), .methodLink RX9 99 yX9_shapeIs, .instanceMethod yX9_shapeIs, .selects RX9 yX9_shapeIs yX9_shapeIs, .code yX9_shapeIs cX9_shapeIs 3 (some .int), .fieldLink RX9 16 "LampShapesModel" "pictures" "[J", .methodLink RX9 176 yX9_nearestOff, .instanceMethod yX9_nearestOff, .selects RX9 yX9_nearestOff yX9_nearestOff, .code yX9_nearestOff cX9_nearestOff 9 (some .int), .methodLink RX9 164 yX9_isAllowed, .instanceMethod yX9_isAllowed, .selects RX9 yX9_isAllowed yX9_isAllowed, .code yX9_isAllowed cX9_isAllowed 2 (some .boolean), .methodLink RX9 126 yX9_isPlacing, .static yX9_isPlacing, .code yX9_isPlacing cX9_isPlacing 1 (some .boolean), .methodLink RX9 129 yX9_shadowOf, .instanceMethod yX9_shadowOf, .selects RX9 yX9_shadowOf yX9_shadowOf, .code yX9_shadowOf cX9_shadowOf 11 (some .long), .methodLink RX9 122 yX9_throwsOf, .static yX9_throwsOf, .code yX9_throwsOf cX9_throwsOf 8 (some .int), .methodLink RX9 112 yX9_mirrored, .static yX9_mirrored, .code yX9_mirrored cX9_mirrored 5 (some .int), .methodLink RX9 109 yX9_has, .static yX9_has, .code yX9_has cX9_has 3 (some .boolean), .methodLink RX9 114 yX9_turned, .static yX9_turned, .code yX9_turned cX9_turned 7 (some .int), .methodLink RX9 119 yX9_isBetween, .static yX9_isBetween, .code yX9_isBetween cX9_isBetween 6 (some .boolean), .methodLink RX9 116 yX9_isInner, .static yX9_isInner, .code yX9_isInner cX9_isInner 3 (some .boolean), .methodLink RX9 158 yX9_bits, .static yX9_bits, .code yX9_bits cX9_bits 5 (some .int), .fieldLink RX9 167 "LampShapesModel" "nearestPlacing" "I", .methodLink RX9 171 Lib.Math.min.name, .static Lib.Math.min.name, .initialized "java/lang/Math", .code Lib.Math.min.name Lib.Math.min.code 2 (some .int)] : List Cond) ++ wsX90)
set_option maxRecDepth 20000 in
theorem g_m_best_m_isScene_155 : GoodIn w_m_best (wsV RX9 155 RX9 yX9_isScene w_m_isScene) := goodIn_r _ [1, 2, 3, 4, 5, 6, 7, 8, 4, 9, 63, 64, 65, 66, 67, 68, 69, 70, 71, 72, 73, 74, 75, 76, 77, 78, 79, 80, 81, 82, 83, 84, 85, 86, 87, 88, 89, 90] rfl (by decide +kernel)
set_option maxRecDepth 20000 in
theorem g_m_best_mf_none_84 : GoodIn w_m_best (wsV RX9 84 RX9 yX9_finding w_mf_none) := goodIn_r _ [11, 12, 13, 4, 14, 15, 16, 63, 64, 65, 66, 67, 68, 69, 70, 71, 72, 73, 74, 75, 76, 77, 78, 79, 80, 81, 82, 83, 84, 85, 86, 87, 88, 89, 90] rfl (by decide +kernel)
set_option maxRecDepth 20000 in
theorem g_m_best_m_shapeIs_99 : GoodIn w_m_best (wsV RX9 99 RX9 yX9_shapeIs w_m_shapeIs) := goodIn_r _ [17, 18, 19, 4, 20, 6, 63, 64, 65, 66, 67, 68, 69, 70, 71, 72, 73, 74, 75, 76, 77, 78, 79, 80, 81, 82, 83, 84, 85, 86, 87, 88, 89, 90] rfl (by decide +kernel)
set_option maxRecDepth 20000 in
theorem g_m_best_m_nearestOff_176 : GoodIn w_m_best (wsV RX9 176 RX9 yX9_nearestOff w_m_nearestOff) := goodIn_r _ [22, 23, 24, 4, 25, 26, 27, 28, 4, 29, 30, 31, 32, 7, 8, 9, 6, 33, 34, 35, 36, 17, 18, 19, 20, 37, 38, 39, 40, 41, 42, 43, 44, 45, 46, 47, 48, 49, 50, 51, 52, 53, 54, 55, 56, 57, 58, 59, 60, 61, 62, 63, 64, 65, 66, 67, 68, 69, 70, 71, 72, 73, 74, 75, 76, 77, 78, 79, 80, 81, 82, 83, 84, 85, 86, 87, 88, 89, 90] rfl (by decide +kernel)
set_option maxRecDepth 20000 in
theorem g_m_best_mf_beyond_84 : GoodIn w_m_best (wsV RX9 84 RX9 yX9_finding w_mf_beyond) := goodIn_r _ [11, 12, 13, 4, 14, 15, 16, 63, 64, 65, 66, 67, 68, 69, 70, 71, 72, 73, 74, 75, 76, 77, 78, 79, 80, 81, 82, 83, 84, 85, 86, 87, 88, 89, 90] rfl (by decide +kernel)
set_option maxHeartbeats 4000000 in
set_option maxRecDepth 100000 in
theorem m_best (l : Launch) (dC : Nat → ClassId) (dI : Nat → Nat → Nat) (ad : Nat → Nat) (h0 : Nat) (a : Int32) (a0 : Nat) (v1 : Value) (p0 : Nat) (v3 : Value) (v4 : Value) (t0 : Nat) (np : Int32) (v7 : Value) (v8 : Value) (v9 : Value) (v10 : Value) (v11 : Value) (v12 : Value) (v13 : Value) (v14 : Value) (v15 : Value) (v16 : Value) (v17 : Value) (v18 : Value) (v19 : Value) (v20 : Value) (v21 : Value) (v22 : Value) (v23 : Value) (v24 : Value) (v25 : Value) (v26 : Value) (v27 : Value) (tc : ClassId) (tf : Nat → Int32) (ac : ClassId) (nf : Nat → Int32) (pc : ClassId) (pf : Nat → Int64) (sz : Nat) (hI : mI nf) : Met l yX9_best w_m_best ({ frames := 6, cells := 0, slots := 0, locals := 155 } : Room) (va_Pc [.ref h0, .int a] (preM dC dI ad [(tc, .int), (ac, .int), (pc, .long)] [(h0, .inr (7, [.ref a0, v1, .ref p0, v3, v4, .ref t0, .int np, v7, v8, v9, v10, v11, v12, v13, v14, v15, v16, v17, v18, v19, v20, v21, v22, v23, v24, v25, v26, v27])), (t0, .inl (tc, 8, .inl tf)), (a0, .inl (ac, 38, .inl nf)), (p0, .inl (pc, 7, .inr (.inl pf)))] sz)) (va_Qi (fun (r : Int32) (_ : Unit) => True) (fun _ t => ∃ (tg : Nat → Int32), ∃ (np2 : Int32), va_P (dC, dI) vwCl [(h0, .inr (7, [.ref a0, v1, .ref p0, v3, v4, .ref t0, .int np2, v7, v8, v9, v10, v11, v12, v13, v14, v15, v16, v17, v18, v19, v20, v21, v22, v23, v24, v25, v26, v27])), (t0, .inl (tc, 8, .inl tg)), (a0, .inl (ac, 38, .inl nf)), (p0, .inl (pc, 7, .inr (.inl pf)))] t.heap ∧ va_K (dC, dI) vwCl [(tc, .int), (ac, .int), (pc, .long)] t ∧ va_D (va_A [(h0, .inr (7, [.ref a0, v1, .ref p0, v3, v4, .ref t0, .int np, v7, v8, v9, v10, v11, v12, v13, v14, v15, v16, v17, v18, v19, v20, v21, v22, v23, v24, v25, v26, v27])), (t0, .inl (tc, 8, .inl tf)), (a0, .inl (ac, 38, .inl nf)), (p0, .inl (pc, 7, .inr (.inl pf)))] sz) [(h0, .inr (7, [.ref a0, v1, .ref p0, v3, v4, .ref t0, .int np2, v7, v8, v9, v10, v11, v12, v13, v14, v15, v16, v17, v18, v19, v20, v21, v22, v23, v24, v25, v26, v27])), (t0, .inl (tc, 8, .inl tg)), (a0, .inl (ac, 38, .inl nf)), (p0, .inl (pc, 7, .inr (.inl pf)))]) (va_A [(h0, .inr (7, [.ref a0, v1, .ref p0, v3, v4, .ref t0, .int np, v7, v8, v9, v10, v11, v12, v13, v14, v15, v16, v17, v18, v19, v20, v21, v22, v23, v24, v25, v26, v27])), (t0, .inl (tc, 8, .inl tf)), (a0, .inl (ac, 38, .inl nf)), (p0, .inl (pc, 7, .inr (.inl pf)))] sz)) 0 0 (va_A [(h0, .inr (7, [.ref a0, v1, .ref p0, v3, v4, .ref t0, .int np, v7, v8, v9, v10, v11, v12, v13, v14, v15, v16, v17, v18, v19, v20, v21, v22, v23, v24, v25, v26, v27])), (t0, .inl (tc, 8, .inl tf)), (a0, .inl (ac, 38, .inl nf)), (p0, .inl (pc, 7, .inr (.inl pf)))] sz) := by
  refine Met.ofW (cc := cX9_best) (maxL := 6) (ret := (some .int)) (by decide) rfl ?_
  intro p e s m args below meth c s₁ B hml hv
  obtain ⟨rfl, hsz, hP, hK, hD0, hev⟩ := hv
  have hx := B.exec
  have hb := B.bytes
  have hr := B.returns
  have hts := atoms_spec (ws := w_m_best) B.pre
  have hown : s.vm.findClass RX9 = some m.cls := findClass_of_methodNamed B.named
  have hlocks := B.notSynchronized
  have inX9 : ∀ w ∈ wsX90, w ∈ w_m_best := fun w h => List.mem_cons_of_mem _ (List.mem_append_right _ h)
  subst hsz
  have hD := hD0.self (sz := s.heap.size)
  generalize hAe : va_A [(h0, .inr (7, [.ref a0, v1, .ref p0, v3, v4, .ref t0, .int np, v7, v8, v9, v10, v11, v12, v13, v14, v15, v16, v17, v18, v19, v20, v21, v22, v23, v24, v25, v26, v27])), (t0, .inl (tc, 8, .inl tf)), (a0, .inl (ac, 38, .inl nf)), (p0, .inl (pc, 7, .inr (.inl pf)))] s.heap.size = A at hD ⊢
  have hA : ∀ q : Nat, s.heap.size ≤ q → A q := fun q h => by rw [← hAe]; exact Or.inr h
  have hS : va_S A s.heap s.heap [] := va_S.rf
  have hP : va_P (dC, dI) vwCl [(h0, .inr (7, [.ref a0, v1, .ref p0, v3, v4, .ref t0, .int np, v7, v8, v9, v10, v11, v12, v13, v14, v15, v16, v17, v18, v19, v20, v21, v22, v23, v24, v25, v26, v27])), (t0, .inl (tc, 8, .inl tf)), (a0, .inl (ac, 38, .inl nf)), (p0, .inl (pc, 7, .inr (.inl pf)))] s.heap := hP
  have hl := lv_entry ([.ref h0, .int a]) (n := 6) (Nat.le_of_ble_eq_true rfl)
  rw [lg_entry_eq]
  generalize (lg_sl ([.ref h0, .int a]) ++ List.replicate (6 - (lg_sl ([.ref h0, .int a])).length) Slot.unset).toArray = ls at hl ⊢
  have hl : lv_has ls 6 [(0, .ref h0), (1, .int a)] := hl
  refine lv_aload_n hx hb dX9_best_0 rfl (lv_at hl 0 rfl) ?_
  refine lv_iload_n hx hb dX9_best_1 rfl (lv_at hl 1 rfl) ?_
  have hPc := hP.sub (ws' := [(h0, .inr (7, [.ref a0, v1, .ref p0, v3, v4, .ref t0, .int np, v7, v8, v9, v10, v11, v12, v13, v14, v15, v16, v17, v18, v19, v20, v21, v22, v23, v24, v25, v26, v27])), (a0, .inl (ac, 38, .inl nf))]) [0, 2] rfl
  have hKc := hK.sub (tys' := [(ac, .int)]) [1] rfl
  refine vp_callSi (W.runV (As := [.int a]) (rest := []) ⟨hx, hb, hml, hown, hts⟩ (m_isScene l dC dI ad h0 a a0 v1 (.ref p0) v3 v4 (.ref t0) (.int np) v7 v8 v9 v10 v11 v12 v13 v14 v15 v16 v17 v18 v19 v20 v21 v22 v23 v24 v25 v26 v27 ac nf hI) (cwV 1 hts g_m_best_m_isScene_155 rfl rfl rfl (by decide +kernel) ⟨(Nat.le_of_ble_eq_true rfl), (Nat.le_of_ble_eq_true rfl)⟩) ⟨preS_blind, va_recv hKc hPc (ci := 7) (q0 := 0) rfl rfl, fun U hU hW => ⟨rfl, preS_at hU hW hPc hKc hev⟩⟩ rfl rfl hl.1 rfl (lv_room (Nat.le_of_ble_eq_true rfl)) dX9_best_2 ⟨(Nat.le_of_ble_eq_true rfl), (Nat.le_of_ble_eq_true rfl)⟩) (fun r_1 hw => ?_)
  have hr_1 : (r_1.toInt = 1 ∧ 0 ≤ a.toInt ∧ a.toInt < (nf 1).toInt ∧ a.toInt ≤ 6) ∨ r_1.toInt = 0 := hw
  refine lv_if_ne (tgt := 15) hx hb dX9_best_5 (by decide) (fun c_2 => ?_) (fun c_2 => ?_)
  · skip
    have tc_2 : ¬ r_1.toInt = 0 := fun h => c_2 ((fa_eq _ _).mpr h)
    have i_3 : 0 ≤ a.toInt ∧ a.toInt < (nf 1).toInt ∧ a.toInt ≤ 6 := by omega
    refine lv_iconst (v := (-1)) hx hb dX9_best_15 (by decide) ?_
    refine lv_istore_n (lv' := [(2, .int (-1)), (0, .ref h0), (1, .int a)]) hx hb dX9_best_16 rfl hl (by decide) rfl (fun ls hl => ?_)
    refine lv_bipush (v := 65) hx hb dX9_best_17 (by decide) ?_
    refine lv_istore_n (lv' := [(3, .int 65), (2, .int (-1)), (0, .ref h0), (1, .int a)]) hx hb dX9_best_19 rfl hl (by decide) rfl (fun ls hl => ?_)
    refine lv_iconst (v := 0) hx hb dX9_best_20 (by decide) ?_
    refine lv_istore (lv' := [(4, .int 0), (3, .int 65), (2, .int (-1)), (0, .ref h0), (1, .int a)]) hx hb dX9_best_21 hl (by decide) rfl (fun ls hl => ?_)
    refine pp_loop (ι := Int32 × Int32 × Int32 × Int32) (fun ⟨v4_23, v3_23, v2_23, y6_23⟩ => ((nf 0).toInt - v4_23.toInt).toNat) (fun ⟨v4_23, v3_23, v2_23, y6_23⟩ H locs ls => (0 ≤ v4_23.toInt) ∧ va_P (dC, dI) vwCl [(h0, .inr (7, [.ref a0, v1, .ref p0, v3, v4, .ref t0, .int y6_23, v7, v8, v9, v10, v11, v12, v13, v14, v15, v16, v17, v18, v19, v20, v21, v22, v23, v24, v25, v26, v27])), (t0, .inl (tc, 8, .inl tf)), (a0, .inl (ac, 38, .inl nf)), (p0, .inl (pc, 7, .inr (.inl pf)))] H ∧ va_D A [(h0, .inr (7, [.ref a0, v1, .ref p0, v3, v4, .ref t0, .int y6_23, v7, v8, v9, v10, v11, v12, v13, v14, v15, v16, v17, v18, v19, v20, v21, v22, v23, v24, v25, v26, v27])), (t0, .inl (tc, 8, .inl tf)), (a0, .inl (ac, 38, .inl nf)), (p0, .inl (pc, 7, .inr (.inl pf)))] ∧ va_S A s.heap H locs ∧ lv_has ls 6 [(4, .int v4_23), (3, .int v3_23), (2, .int v2_23), (0, .ref h0), (1, .int a)]) ?_ (0, 65, (-1), np) _ _ _ ⟨(by first | omega | decide | (simp only [fa_lt, fa_le, fa_eq, and_true, true_and, and_false, false_and, not_true_eq_false, not_false_eq_true, li_0, li_1, li_2, li_3, li_4, li_5, li_6, li_7, li_8, li_9, li_10, li_12, li_15, li_16, li_20, li_30, li_34, li_38, li_40, li_63, li_64, li_65, li_78, li_120, li_1000, li_4000, li_10000, li_11077, li_255, li_65535, li_m1, li_m2, li_m1000000001, li_m1000000002, li_m1000000003, li_m1000000004, li_m1000000005, li_m1000000006, li_m1000000007, or_true, true_or, or_false, false_or, implies_true, true_implies, false_implies] <;> omega)), hP.sub [0, 1, 2, 3] rfl, hD.sub [0, 1, 2, 3] (by decide) rfl, hS, lv_sub hl [0, 1, 2, 3, 4] rfl⟩
    intro k_4 ihk_4 u H locs ls hm hI
    obtain ⟨v4_23, v3_23, v2_23, y6_23⟩ := u
    obtain ⟨jk_4_0, hP, hD, hS, hl⟩ := hI
    have hmk_4 : ((nf 0).toInt - v4_23.toInt).toNat < k_4 + 1 := hm
    clear hm
    have jk_4_0 : 0 ≤ v4_23.toInt := jk_4_0
    have hl : lv_has ls 6 [(4, .int v4_23), (3, .int v3_23), (2, .int v2_23), (0, .ref h0), (1, .int a)] := hl
    have hP : va_P (dC, dI) vwCl [(h0, .inr (7, [.ref a0, v1, .ref p0, v3, v4, .ref t0, .int y6_23, v7, v8, v9, v10, v11, v12, v13, v14, v15, v16, v17, v18, v19, v20, v21, v22, v23, v24, v25, v26, v27])), (t0, .inl (tc, 8, .inl tf)), (a0, .inl (ac, 38, .inl nf)), (p0, .inl (pc, 7, .inr (.inl pf)))] H := hP
    have hD : va_D A [(h0, .inr (7, [.ref a0, v1, .ref p0, v3, v4, .ref t0, .int y6_23, v7, v8, v9, v10, v11, v12, v13, v14, v15, v16, v17, v18, v19, v20, v21, v22, v23, v24, v25, v26, v27])), (t0, .inl (tc, 8, .inl tf)), (a0, .inl (ac, 38, .inl nf)), (p0, .inl (pc, 7, .inr (.inl pf)))] := hD
    refine lv_iload hx hb dX9_best_23 (lv_at hl 0 rfl) ?_
    refine lv_aload_n hx hb dX9_best_25 rfl (lv_at hl 3 rfl) ?_
    refine va_get (D := (dC, dI)) (ci := 7) (v := .ref a0) (C := RX9) (T := TX9) (N := 28) hx hb hts inX9 hown hK hP 0 rfl rfl 0 (by decide) (hts _ (List.mem_of_getElem? (i := 6) rfl)) (fun _ h9 => h9) rfl dX9_best_26 ?_
    refine lv_iconst (v := 0) hx hb dX9_best_29 (by decide) ?_
    refine va_iald hx hb hK hP 2 1 rfl rfl (vp_in_nI (n := 0) (by decide) (by decide)) dX9_best_30 ?_
    refine pp_ti (y := nf 0) rfl ?_
    refine lv_topi (fun n_5 en_5 => ?_)
    have tn_5 : n_5.toInt = (nf 0).toInt ∧ 0 ≤ n_5.toInt ∧ n_5.toInt ≤ 9 := mI_r0 hI en_5
    clear en_5
    have rc_6_x := pp_rng v4_23
    have rc_6_y := pp_rng n_5
    refine lv_icmp_ge (tgt := 91) hx hb dX9_best_31 (by decide) (fun c_6 => ?_) (fun c_6 => ?_)
    · skip
      have tc_6 : n_5.toInt ≤ v4_23.toInt := (fa_le _ _).mp c_6
      refine lv_iload_n hx hb dX9_best_91 rfl (lv_at hl 2 rfl) ?_
      refine lv_if_ge (tgt := 104) hx hb dX9_best_92 (by decide) (fun c_7 => ?_) (fun c_7 => ?_)
      · skip
        have tc_7 : 0 ≤ v2_23.toInt := (fa_le _ _).mp c_7
        refine lv_iload_n hx hb dX9_best_104 rfl (lv_at hl 2 rfl) ?_
        have hP9 := hP.sub (ws' := [(h0, .inr (7, [.ref a0, v1, .ref p0, v3, v4, .ref t0, .int y6_23, v7, v8, v9, v10, v11, v12, v13, v14, v15, v16, v17, v18, v19, v20, v21, v22, v23, v24, v25, v26, v27])), (t0, .inl (tc, 8, .inl tf)), (a0, .inl (ac, 38, .inl nf)), (p0, .inl (pc, 7, .inr (.inl pf)))]) [0, 1, 2, 3] rfl
        have hD9 := hD.sub (ws' := [(h0, .inr (7, [.ref a0, v1, .ref p0, v3, v4, .ref t0, .int y6_23, v7, v8, v9, v10, v11, v12, v13, v14, v15, v16, v17, v18, v19, v20, v21, v22, v23, v24, v25, v26, v27])), (t0, .inl (tc, 8, .inl tf)), (a0, .inl (ac, 38, .inl nf)), (p0, .inl (pc, 7, .inr (.inl pf)))]) [0, 1, 2, 3] (by decide) rfl
        have hK9 := hK.sub (tys' := [(tc, .int), (ac, .int), (pc, .long)]) [0, 1, 2] rfl
        exact W.iret (v := v2_23) hx hb hr (fun t ht hW => ⟨⟨v2_23, (), rfl, trivial, tf, y6_23, by rw [ht]; exact hP9, va_K.moved hW.alike hK9, hD9⟩, hS.F ht⟩) hS.2.2 dX9_best_105
      · skip
        have tc_7 : ¬ 0 ≤ v2_23.toInt := fun h => c_7 ((fa_le _ _).mpr h)
        refine lv_aload_n hx hb dX9_best_95 rfl (lv_at hl 3 rfl) ?_
        refine lv_ldc hx hb hown (hts _ (List.mem_of_getElem? (i := 10) rfl)) dX9_best_96 ?_
        have hPc := hP.sub (ws' := [(h0, .inr (7, [.ref a0, v1, .ref p0, v3, v4, .ref t0, .int y6_23, v7, v8, v9, v10, v11, v12, v13, v14, v15, v16, v17, v18, v19, v20, v21, v22, v23, v24, v25, v26, v27])), (t0, .inl (tc, 8, .inl tf))]) [0, 1] rfl
        have hKc := hK.sub (tys' := [(tc, .int)]) [0] rfl
        have hDc := hD.sub (ws' := [(h0, .inr (7, [.ref a0, v1, .ref p0, v3, v4, .ref t0, .int y6_23, v7, v8, v9, v10, v11, v12, v13, v14, v15, v16, v17, v18, v19, v20, v21, v22, v23, v24, v25, v26, v27])), (t0, .inl (tc, 8, .inl tf))]) [0, 1] (by decide) rfl
        have hFc := va_free (wc := [(h0, .inr (7, [.ref a0, v1, .ref p0, v3, v4, .ref t0, .int y6_23, v7, v8, v9, v10, v11, v12, v13, v14, v15, v16, v17, v18, v19, v20, v21, v22, v23, v24, v25, v26, v27])), (t0, .inl (tc, 8, .inl tf))]) hD hS hA [0, 1] rfl
        refine va_calli (va_runV (As := [.int (-1000000004)]) (rest := []) ⟨hx, hb, hml, hown, hts⟩ (mf_none l dC dI ad h0 (.ref a0) v1 (.ref p0) v3 v4 t0 (.int y6_23) v7 v8 v9 v10 v11 v12 v13 v14 v15 v16 v17 v18 v19 v20 v21 v22 v23 v24 v25 v26 v27 tc tf H.size ) (cwV 1 hts g_m_best_mf_none_84 rfl rfl rfl (by decide +kernel) ⟨(Nat.le_of_ble_eq_true rfl), (Nat.le_of_ble_eq_true rfl)⟩) ⟨preM_blind, va_recv hKc hPc (ci := 7) (q0 := 0) rfl rfl, fun U hU hW => ⟨rfl, preM_at hU hW hPc hKc hDc hev⟩⟩ rfl rfl hl.1 rfl (lv_room (Nat.le_of_ble_eq_true rfl)) dX9_best_98 ⟨(Nat.le_of_ble_eq_true rfl), (Nat.le_of_ble_eq_true rfl)⟩) hS (fun q _ h => hFc q h) hFc (fun r_8 u t H1 locs ht hvm hw hB hz1 hk1 hS => ?_)
        obtain ⟨tg_9, hP1, hK1, hD1⟩ := hB
        rw [ht] at hP1
        have hK1 := va_K.moved hvm.symm hK1
        obtain ⟨hP, hD⟩ := va_join (wr := [(a0, .inl (ac, 38, .inl nf)), (p0, .inl (pc, 7, .inr (.inl pf)))]) (w1 := [(h0, .inr (7, [.ref a0, v1, .ref p0, v3, v4, .ref t0, .int y6_23, v7, v8, v9, v10, v11, v12, v13, v14, v15, v16, v17, v18, v19, v20, v21, v22, v23, v24, v25, v26, v27])), (t0, .inl (tc, 8, .inl tg_9))]) hP hD [0, 1] [2, 3] rfl rfl (by decide) (by decide) hk1 hFc hP1 hD1
        generalize H1 = H at hP hS ⊢
        have hP : va_P (dC, dI) vwCl [(a0, .inl (ac, 38, .inl nf)), (p0, .inl (pc, 7, .inr (.inl pf))), (h0, .inr (7, [.ref a0, v1, .ref p0, v3, v4, .ref t0, .int y6_23, v7, v8, v9, v10, v11, v12, v13, v14, v15, v16, v17, v18, v19, v20, v21, v22, v23, v24, v25, v26, v27])), (t0, .inl (tc, 8, .inl tg_9))] H := hP
        have hD : va_D A [(a0, .inl (ac, 38, .inl nf)), (p0, .inl (pc, 7, .inr (.inl pf))), (h0, .inr (7, [.ref a0, v1, .ref p0, v3, v4, .ref t0, .int y6_23, v7, v8, v9, v10, v11, v12, v13, v14, v15, v16, v17, v18, v19, v20, v21, v22, v23, v24, v25, v26, v27])), (t0, .inl (tc, 8, .inl tg_9))] := hD
        subst hw
        refine lv_goto (tgt := 105) hx hb dX9_best_101 (by decide) ?_
        have hP9 := hP.sub (ws' := [(h0, .inr (7, [.ref a0, v1, .ref p0, v3, v4, .ref t0, .int y6_23, v7, v8, v9, v10, v11, v12, v13, v14, v15, v16, v17, v18, v19, v20, v21, v22, v23, v24, v25, v26, v27])), (t0, .inl (tc, 8, .inl tg_9)), (a0, .inl (ac, 38, .inl nf)), (p0, .inl (pc, 7, .inr (.inl pf)))]) [2, 3, 0, 1] rfl
        have hD9 := hD.sub (ws' := [(h0, .inr (7, [.ref a0, v1, .ref p0, v3, v4, .ref t0, .int y6_23, v7, v8, v9, v10, v11, v12, v13, v14, v15, v16, v17, v18, v19, v20, v21, v22, v23, v24, v25, v26, v27])), (t0, .inl (tc, 8, .inl tg_9)), (a0, .inl (ac, 38, .inl nf)), (p0, .inl (pc, 7, .inr (.inl pf)))]) [2, 3, 0, 1] (by decide) rfl
        have hK9 := hK.sub (tys' := [(tc, .int), (ac, .int), (pc, .long)]) [0, 1, 2] rfl
        exact W.iret (v := ((-1000000004) : Int32)) hx hb hr (fun t ht hW => ⟨⟨((-1000000004) : Int32), (), rfl, trivial, tg_9, y6_23, by rw [ht]; exact hP9, va_K.moved hW.alike hK9, hD9⟩, hS.F ht⟩) hS.2.2 dX9_best_105
    · skip
      have tc_6 : ¬ n_5.toInt ≤ v4_23.toInt := fun h => c_6 ((fa_le _ _).mpr h)
      refine lv_aload_n hx hb dX9_best_34 rfl (lv_at hl 3 rfl) ?_
      refine lv_iload hx hb dX9_best_35 (lv_at hl 0 rfl) ?_
      refine lv_iconst (v := 2) hx hb dX9_best_37 (by decide) ?_
      have hPc := hP.sub (ws' := [(h0, .inr (7, [.ref a0, v1, .ref p0, v3, v4, .ref t0, .int y6_23, v7, v8, v9, v10, v11, v12, v13, v14, v15, v16, v17, v18, v19, v20, v21, v22, v23, v24, v25, v26, v27])), (a0, .inl (ac, 38, .inl nf))]) [0, 2] rfl
      have hKc := hK.sub (tys' := [(ac, .int)]) [1] rfl
      refine vp_callSi (W.runV (As := [.int v4_23, .int 2]) (rest := []) ⟨hx, hb, hml, hown, hts⟩ (m_shapeIs l dC dI ad h0 v4_23 2 a0 v1 (.ref p0) v3 v4 (.ref t0) (.int y6_23) v7 v8 v9 v10 v11 v12 v13 v14 v15 v16 v17 v18 v19 v20 v21 v22 v23 v24 v25 v26 v27 ac nf (by first | omega | decide | (simp only [fa_lt, fa_le, fa_eq, and_true, true_and, and_false, false_and, not_true_eq_false, not_false_eq_true, li_0, li_1, li_2, li_3, li_4, li_5, li_6, li_7, li_8, li_9, li_10, li_12, li_15, li_16, li_20, li_30, li_34, li_38, li_40, li_63, li_64, li_65, li_78, li_120, li_1000, li_4000, li_10000, li_11077, li_255, li_65535, li_m1, li_m2, li_m1000000001, li_m1000000002, li_m1000000003, li_m1000000004, li_m1000000005, li_m1000000006, li_m1000000007, or_true, true_or, or_false, false_or, implies_true, true_implies, false_implies] <;> omega)) (by first | omega | decide | (simp only [fa_lt, fa_le, fa_eq, and_true, true_and, and_false, false_and, not_true_eq_false, not_false_eq_true, li_0, li_1, li_2, li_3, li_4, li_5, li_6, li_7, li_8, li_9, li_10, li_12, li_15, li_16, li_20, li_30, li_34, li_38, li_40, li_63, li_64, li_65, li_78, li_120, li_1000, li_4000, li_10000, li_11077, li_255, li_65535, li_m1, li_m2, li_m1000000001, li_m1000000002, li_m1000000003, li_m1000000004, li_m1000000005, li_m1000000006, li_m1000000007, or_true, true_or, or_false, false_or, implies_true, true_implies, false_implies] <;> omega))) (cwV 2 hts g_m_best_m_shapeIs_99 rfl rfl rfl (by decide +kernel) ⟨(Nat.le_of_ble_eq_true rfl), (Nat.le_of_ble_eq_true rfl)⟩) ⟨preS_blind, va_recv hKc hPc (ci := 7) (q0 := 0) rfl rfl, fun U hU hW => ⟨rfl, preS_at hU hW hPc hKc hev⟩⟩ rfl rfl hl.1 rfl (lv_room (Nat.le_of_ble_eq_true rfl)) dX9_best_38 ⟨(Nat.le_of_ble_eq_true rfl), (Nat.le_of_ble_eq_true rfl)⟩) (fun r_10 hw => ?_)
      refine lv_iconst (v := 1) hx hb dX9_best_41 (by decide) ?_
      refine lv_icmp_ne (tgt := 50) hx hb dX9_best_42 (by decide) (fun c_11 => ?_) (fun c_11 => ?_)
      · skip
        have tc_11 : ¬ r_10.toInt = 1 := fun h => c_11 ((fa_eq _ _).mpr h)
        refine lv_aload_n hx hb dX9_best_50 rfl (lv_at hl 3 rfl) ?_
        refine lv_iload hx hb dX9_best_51 (lv_at hl 0 rfl) ?_
        refine lv_lconst (v := 0) hx hb dX9_best_53 (by decide) ?_
        refine lv_aload_n hx hb dX9_best_54 rfl (lv_at hl 3 rfl) ?_
        refine va_get (D := (dC, dI)) (ci := 7) (v := .ref p0) (C := RX9) (T := TX9) (N := 28) hx hb hts inX9 hown hK hP 0 rfl rfl 2 (by decide) (hts _ (List.mem_of_getElem? (i := 21) rfl)) (fun _ h9 => h9) rfl dX9_best_55 ?_
        refine lv_iload_n hx hb dX9_best_58 rfl (lv_at hl 4 rfl) ?_
        refine va_lald hx hb hK hP 3 2 rfl rfl (vp_in_iff.mpr ⟨by omega, by omega⟩) dX9_best_59 ?_
        refine lv_topl (fun n_12 en_12 => ?_)
        clear en_12
        have hPc := hP.sub (ws' := [(h0, .inr (7, [.ref a0, v1, .ref p0, v3, v4, .ref t0, .int y6_23, v7, v8, v9, v10, v11, v12, v13, v14, v15, v16, v17, v18, v19, v20, v21, v22, v23, v24, v25, v26, v27])), (a0, .inl (ac, 38, .inl nf))]) [0, 2] rfl
        have hKc := hK.sub (tys' := [(ac, .int)]) [1] rfl
        have hDc := hD.sub (ws' := [(h0, .inr (7, [.ref a0, v1, .ref p0, v3, v4, .ref t0, .int y6_23, v7, v8, v9, v10, v11, v12, v13, v14, v15, v16, v17, v18, v19, v20, v21, v22, v23, v24, v25, v26, v27])), (a0, .inl (ac, 38, .inl nf))]) [0, 2] (by decide) rfl
        have hFc := va_free (wc := [(h0, .inr (7, [.ref a0, v1, .ref p0, v3, v4, .ref t0, .int y6_23, v7, v8, v9, v10, v11, v12, v13, v14, v15, v16, v17, v18, v19, v20, v21, v22, v23, v24, v25, v26, v27])), (a0, .inl (ac, 38, .inl nf))]) hD hS hA [0, 2] rfl
        refine va_calli (va_runV (As := [.int v4_23, .long 0, .long n_12]) (rest := []) ⟨hx, hb, hml, hown, hts⟩ (m_nearestOff l dC dI ad h0 v4_23 0 n_12 a0 v1 (.ref p0) v3 v4 (.ref t0) y6_23 v7 v8 v9 v10 v11 v12 v13 v14 v15 v16 v17 v18 v19 v20 v21 v22 v23 v24 v25 v26 v27 ac nf H.size hI (by first | omega | decide | (simp only [fa_lt, fa_le, fa_eq, and_true, true_and, and_false, false_and, not_true_eq_false, not_false_eq_true, li_0, li_1, li_2, li_3, li_4, li_5, li_6, li_7, li_8, li_9, li_10, li_12, li_15, li_16, li_20, li_30, li_34, li_38, li_40, li_63, li_64, li_65, li_78, li_120, li_1000, li_4000, li_10000, li_11077, li_255, li_65535, li_m1, li_m2, li_m1000000001, li_m1000000002, li_m1000000003, li_m1000000004, li_m1000000005, li_m1000000006, li_m1000000007, or_true, true_or, or_false, false_or, implies_true, true_implies, false_implies] <;> omega))) (cwV 3 hts g_m_best_m_nearestOff_176 rfl rfl rfl (by decide +kernel) ⟨(Nat.le_of_ble_eq_true rfl), (Nat.le_of_ble_eq_true rfl)⟩) ⟨preM_blind, va_recv hKc hPc (ci := 7) (q0 := 0) rfl rfl, fun U hU hW => ⟨rfl, preM_at hU hW hPc hKc hDc hev⟩⟩ rfl rfl hl.1 rfl (lv_room (Nat.le_of_ble_eq_true rfl)) dX9_best_60 ⟨(Nat.le_of_ble_eq_true rfl), (Nat.le_of_ble_eq_true rfl)⟩) hS (fun q _ h => hFc q h) hFc (fun r_13 u t H1 locs ht hvm hw hB hz1 hk1 hS => ?_)
        obtain ⟨np_14, hP1, hK1, hD1⟩ := hB
        rw [ht] at hP1
        have hK1 := va_K.moved hvm.symm hK1
        obtain ⟨hP, hD⟩ := va_join (wr := [(t0, .inl (tc, 8, .inl tf)), (p0, .inl (pc, 7, .inr (.inl pf)))]) (w1 := [(h0, .inr (7, [.ref a0, v1, .ref p0, v3, v4, .ref t0, .int np_14, v7, v8, v9, v10, v11, v12, v13, v14, v15, v16, v17, v18, v19, v20, v21, v22, v23, v24, v25, v26, v27])), (a0, .inl (ac, 38, .inl nf))]) hP hD [0, 2] [1, 3] rfl rfl (by decide) (by decide) hk1 hFc hP1 hD1
        generalize H1 = H at hP hS ⊢
        have hP : va_P (dC, dI) vwCl [(t0, .inl (tc, 8, .inl tf)), (p0, .inl (pc, 7, .inr (.inl pf))), (h0, .inr (7, [.ref a0, v1, .ref p0, v3, v4, .ref t0, .int np_14, v7, v8, v9, v10, v11, v12, v13, v14, v15, v16, v17, v18, v19, v20, v21, v22, v23, v24, v25, v26, v27])), (a0, .inl (ac, 38, .inl nf))] H := hP
        have hD : va_D A [(t0, .inl (tc, 8, .inl tf)), (p0, .inl (pc, 7, .inr (.inl pf))), (h0, .inr (7, [.ref a0, v1, .ref p0, v3, v4, .ref t0, .int np_14, v7, v8, v9, v10, v11, v12, v13, v14, v15, v16, v17, v18, v19, v20, v21, v22, v23, v24, v25, v26, v27])), (a0, .inl (ac, 38, .inl nf))] := hD
        have hr_13 : r_13.toInt ≤ 65 := hw
        refine lv_istore (lv' := [(5, .int r_13), (4, .int v4_23), (3, .int v3_23), (2, .int v2_23), (0, .ref h0), (1, .int a)]) hx hb dX9_best_63 hl (by decide) rfl (fun ls hl => ?_)
        refine lv_iload hx hb dX9_best_65 (lv_at hl 0 rfl) ?_
        refine lv_iload_n hx hb dX9_best_67 rfl (lv_at hl 2 rfl) ?_
        have rc_15_x := pp_rng r_13
        have rc_15_y := pp_rng v3_23
        refine lv_icmp_ge (tgt := 76) hx hb dX9_best_68 (by decide) (fun c_15 => ?_) (fun c_15 => ?_)
        · skip
          have tc_15 : v3_23.toInt ≤ r_13.toInt := (fa_le _ _).mp c_15
          refine lv_iload_n hx hb dX9_best_76 rfl (lv_at hl 3 rfl) ?_
          refine lv_istore_n (lv' := [(2, .int v2_23), (5, .int r_13), (4, .int v4_23), (3, .int v3_23), (0, .ref h0), (1, .int a)]) hx hb dX9_best_77 rfl hl (by decide) rfl (fun ls hl => ?_)
          refine lv_iload_n hx hb dX9_best_78 rfl (lv_at hl 3 rfl) ?_
          refine lv_iload hx hb dX9_best_79 (lv_at hl 1 rfl) ?_
          refine va_mmin hx hb (by rw [hml]; exact hl.1.symm) hown (hts _ (List.mem_of_getElem? (i := 59) rfl)) (hts _ (List.mem_of_getElem? (i := 60) rfl)) (hts _ (List.mem_of_getElem? (i := 61) rfl)) (hts _ (List.mem_of_getElem? (i := 62) rfl)) (Nat.le_of_ble_eq_true rfl) (Nat.le_of_ble_eq_true rfl) (Nat.le_of_ble_eq_true rfl) (Nat.le_of_ble_eq_true rfl) dX9_best_81 ?_
          refine lv_topi (fun n_16 en_16 => ?_)
          have tn_16 : n_16.toInt ≤ v3_23.toInt ∧ n_16.toInt ≤ r_13.toInt ∧ (n_16.toInt = v3_23.toInt ∨ n_16.toInt = r_13.toInt) := pp_min en_16
          refine lv_istore_n (lv' := [(3, .int n_16), (2, .int v2_23), (5, .int r_13), (4, .int v4_23), (0, .ref h0), (1, .int a)]) hx hb dX9_best_84 rfl hl (by decide) rfl (fun ls hl => ?_)
          obtain ⟨n_17, en_17⟩ : ∃ y : Int32, y = v4_23 + 1 := ⟨_, rfl⟩
          have tn_17 : n_17.toInt = v4_23.toInt + 1 := pp_add en_17 rfl rfl (by omega) (by omega)
          refine lv_iinc (v := n_17) (lv' := [(4, .int n_17), (3, .int n_16), (2, .int v2_23), (5, .int r_13), (0, .ref h0), (1, .int a)]) hx hb dX9_best_85 hl (k := 3) rfl (by rw [en_17]; rfl) (by decide) rfl (fun ls hl => ?_)
          clear en_17
          refine lv_goto (tgt := 23) hx hb dX9_best_88 (by decide) ?_
          exact ihk_4 (n_17, n_16, v2_23, np_14) _ _ _ (by show ((nf 0).toInt - n_17.toInt).toNat < k_4; omega) ⟨(by first | omega | decide | (simp only [fa_lt, fa_le, fa_eq, and_true, true_and, and_false, false_and, not_true_eq_false, not_false_eq_true, li_0, li_1, li_2, li_3, li_4, li_5, li_6, li_7, li_8, li_9, li_10, li_12, li_15, li_16, li_20, li_30, li_34, li_38, li_40, li_63, li_64, li_65, li_78, li_120, li_1000, li_4000, li_10000, li_11077, li_255, li_65535, li_m1, li_m2, li_m1000000001, li_m1000000002, li_m1000000003, li_m1000000004, li_m1000000005, li_m1000000006, li_m1000000007, or_true, true_or, or_false, false_or, implies_true, true_implies, false_implies] <;> omega)), hP.sub [2, 0, 3, 1] rfl, hD.sub [2, 0, 3, 1] (by decide) rfl, hS, lv_sub hl [0, 1, 2, 4, 5] rfl⟩
        · skip
          have tc_15 : ¬ v3_23.toInt ≤ r_13.toInt := fun h => c_15 ((fa_le _ _).mpr h)
          refine lv_iload hx hb dX9_best_71 (lv_at hl 1 rfl) ?_
          refine lv_goto (tgt := 77) hx hb dX9_best_73 (by decide) ?_
          refine lv_istore_n (lv' := [(2, .int v4_23), (5, .int r_13), (4, .int v4_23), (3, .int v3_23), (0, .ref h0), (1, .int a)]) hx hb dX9_best_77 rfl hl (by decide) rfl (fun ls hl => ?_)
          refine lv_iload_n hx hb dX9_best_78 rfl (lv_at hl 3 rfl) ?_
          refine lv_iload hx hb dX9_best_79 (lv_at hl 1 rfl) ?_
          refine va_mmin hx hb (by rw [hml]; exact hl.1.symm) hown (hts _ (List.mem_of_getElem? (i := 59) rfl)) (hts _ (List.mem_of_getElem? (i := 60) rfl)) (hts _ (List.mem_of_getElem? (i := 61) rfl)) (hts _ (List.mem_of_getElem? (i := 62) rfl)) (Nat.le_of_ble_eq_true rfl) (Nat.le_of_ble_eq_true rfl) (Nat.le_of_ble_eq_true rfl) (Nat.le_of_ble_eq_true rfl) dX9_best_81 ?_
          refine lv_topi (fun n_18 en_18 => ?_)
          have tn_18 : n_18.toInt ≤ v3_23.toInt ∧ n_18.toInt ≤ r_13.toInt ∧ (n_18.toInt = v3_23.toInt ∨ n_18.toInt = r_13.toInt) := pp_min en_18
          refine lv_istore_n (lv' := [(3, .int n_18), (2, .int v4_23), (5, .int r_13), (4, .int v4_23), (0, .ref h0), (1, .int a)]) hx hb dX9_best_84 rfl hl (by decide) rfl (fun ls hl => ?_)
          obtain ⟨n_19, en_19⟩ : ∃ y : Int32, y = v4_23 + 1 := ⟨_, rfl⟩
          have tn_19 : n_19.toInt = v4_23.toInt + 1 := pp_add en_19 rfl rfl (by omega) (by omega)
          refine lv_iinc (v := n_19) (lv' := [(4, .int n_19), (3, .int n_18), (2, .int v4_23), (5, .int r_13), (0, .ref h0), (1, .int a)]) hx hb dX9_best_85 hl (k := 3) rfl (by rw [en_19]; rfl) (by decide) rfl (fun ls hl => ?_)
          clear en_19
          refine lv_goto (tgt := 23) hx hb dX9_best_88 (by decide) ?_
          exact ihk_4 (n_19, n_18, v4_23, np_14) _ _ _ (by show ((nf 0).toInt - n_19.toInt).toNat < k_4; omega) ⟨(by first | omega | decide | (simp only [fa_lt, fa_le, fa_eq, and_true, true_and, and_false, false_and, not_true_eq_false, not_false_eq_true, li_0, li_1, li_2, li_3, li_4, li_5, li_6, li_7, li_8, li_9, li_10, li_12, li_15, li_16, li_20, li_30, li_34, li_38, li_40, li_63, li_64, li_65, li_78, li_120, li_1000, li_4000, li_10000, li_11077, li_255, li_65535, li_m1, li_m2, li_m1000000001, li_m1000000002, li_m1000000003, li_m1000000004, li_m1000000005, li_m1000000006, li_m1000000007, or_true, true_or, or_false, false_or, implies_true, true_implies, false_implies] <;> omega)), hP.sub [2, 0, 3, 1] rfl, hD.sub [2, 0, 3, 1] (by decide) rfl, hS, lv_sub hl [0, 1, 2, 4, 5] rfl⟩
      · skip
        have tc_11 : r_10.toInt = 1 := (fa_eq _ _).mp c_11
        refine lv_bipush (v := 65) hx hb dX9_best_45 (by decide) ?_
        refine lv_goto (tgt := 63) hx hb dX9_best_47 (by decide) ?_
        refine lv_istore (lv' := [(5, .int 65), (4, .int v4_23), (3, .int v3_23), (2, .int v2_23), (0, .ref h0), (1, .int a)]) hx hb dX9_best_63 hl (by decide) rfl (fun ls hl => ?_)
        refine lv_iload hx hb dX9_best_65 (lv_at hl 0 rfl) ?_
        refine lv_iload_n hx hb dX9_best_67 rfl (lv_at hl 2 rfl) ?_
        refine lv_icmp_ge (tgt := 76) hx hb dX9_best_68 (by decide) (fun c_20 => ?_) (fun c_20 => ?_)
        · skip
          have tc_20 : v3_23.toInt ≤ 65 := (fa_le _ _).mp c_20
          refine lv_iload_n hx hb dX9_best_76 rfl (lv_at hl 3 rfl) ?_
          refine lv_istore_n (lv' := [(2, .int v2_23), (5, .int 65), (4, .int v4_23), (3, .int v3_23), (0, .ref h0), (1, .int a)]) hx hb dX9_best_77 rfl hl (by decide) rfl (fun ls hl => ?_)
          refine lv_iload_n hx hb dX9_best_78 rfl (lv_at hl 3 rfl) ?_
          refine lv_iload hx hb dX9_best_79 (lv_at hl 1 rfl) ?_
          refine va_mmin hx hb (by rw [hml]; exact hl.1.symm) hown (hts _ (List.mem_of_getElem? (i := 59) rfl)) (hts _ (List.mem_of_getElem? (i := 60) rfl)) (hts _ (List.mem_of_getElem? (i := 61) rfl)) (hts _ (List.mem_of_getElem? (i := 62) rfl)) (Nat.le_of_ble_eq_true rfl) (Nat.le_of_ble_eq_true rfl) (Nat.le_of_ble_eq_true rfl) (Nat.le_of_ble_eq_true rfl) dX9_best_81 ?_
          refine lv_topi (fun n_21 en_21 => ?_)
          have tn_21 : n_21.toInt ≤ v3_23.toInt ∧ n_21.toInt ≤ 65 ∧ (n_21.toInt = v3_23.toInt ∨ n_21.toInt = 65) := pp_min en_21
          refine lv_istore_n (lv' := [(3, .int n_21), (2, .int v2_23), (5, .int 65), (4, .int v4_23), (0, .ref h0), (1, .int a)]) hx hb dX9_best_84 rfl hl (by decide) rfl (fun ls hl => ?_)
          obtain ⟨n_22, en_22⟩ : ∃ y : Int32, y = v4_23 + 1 := ⟨_, rfl⟩
          have tn_22 : n_22.toInt = v4_23.toInt + 1 := pp_add en_22 rfl rfl (by omega) (by omega)
          refine lv_iinc (v := n_22) (lv' := [(4, .int n_22), (3, .int n_21), (2, .int v2_23), (5, .int 65), (0, .ref h0), (1, .int a)]) hx hb dX9_best_85 hl (k := 3) rfl (by rw [en_22]; rfl) (by decide) rfl (fun ls hl => ?_)
          clear en_22
          refine lv_goto (tgt := 23) hx hb dX9_best_88 (by decide) ?_
          exact ihk_4 (n_22, n_21, v2_23, y6_23) _ _ _ (by show ((nf 0).toInt - n_22.toInt).toNat < k_4; omega) ⟨(by first | omega | decide | (simp only [fa_lt, fa_le, fa_eq, and_true, true_and, and_false, false_and, not_true_eq_false, not_false_eq_true, li_0, li_1, li_2, li_3, li_4, li_5, li_6, li_7, li_8, li_9, li_10, li_12, li_15, li_16, li_20, li_30, li_34, li_38, li_40, li_63, li_64, li_65, li_78, li_120, li_1000, li_4000, li_10000, li_11077, li_255, li_65535, li_m1, li_m2, li_m1000000001, li_m1000000002, li_m1000000003, li_m1000000004, li_m1000000005, li_m1000000006, li_m1000000007, or_true, true_or, or_false, false_or, implies_true, true_implies, false_implies] <;> omega)), hP.sub [0, 1, 2, 3] rfl, hD.sub [0, 1, 2, 3] (by decide) rfl, hS, lv_sub hl [0, 1, 2, 4, 5] rfl⟩
        · skip
          have tc_20 : ¬ v3_23.toInt ≤ 65 := fun h => c_20 ((fa_le _ _).mpr h)
          refine lv_iload hx hb dX9_best_71 (lv_at hl 1 rfl) ?_
          refine lv_goto (tgt := 77) hx hb dX9_best_73 (by decide) ?_
          refine lv_istore_n (lv' := [(2, .int v4_23), (5, .int 65), (4, .int v4_23), (3, .int v3_23), (0, .ref h0), (1, .int a)]) hx hb dX9_best_77 rfl hl (by decide) rfl (fun ls hl => ?_)
          refine lv_iload_n hx hb dX9_best_78 rfl (lv_at hl 3 rfl) ?_
          refine lv_iload hx hb dX9_best_79 (lv_at hl 1 rfl) ?_
          refine va_mmin hx hb (by rw [hml]; exact hl.1.symm) hown (hts _ (List.mem_of_getElem? (i := 59) rfl)) (hts _ (List.mem_of_getElem? (i := 60) rfl)) (hts _ (List.mem_of_getElem? (i := 61) rfl)) (hts _ (List.mem_of_getElem? (i := 62) rfl)) (Nat.le_of_ble_eq_true rfl) (Nat.le_of_ble_eq_true rfl) (Nat.le_of_ble_eq_true rfl) (Nat.le_of_ble_eq_true rfl) dX9_best_81 ?_
          refine lv_topi (fun n_23 en_23 => ?_)
          have tn_23 : n_23.toInt ≤ v3_23.toInt ∧ n_23.toInt ≤ 65 ∧ (n_23.toInt = v3_23.toInt ∨ n_23.toInt = 65) := pp_min en_23
          refine lv_istore_n (lv' := [(3, .int n_23), (2, .int v4_23), (5, .int 65), (4, .int v4_23), (0, .ref h0), (1, .int a)]) hx hb dX9_best_84 rfl hl (by decide) rfl (fun ls hl => ?_)
          obtain ⟨n_24, en_24⟩ : ∃ y : Int32, y = v4_23 + 1 := ⟨_, rfl⟩
          have tn_24 : n_24.toInt = v4_23.toInt + 1 := pp_add en_24 rfl rfl (by omega) (by omega)
          refine lv_iinc (v := n_24) (lv' := [(4, .int n_24), (3, .int n_23), (2, .int v4_23), (5, .int 65), (0, .ref h0), (1, .int a)]) hx hb dX9_best_85 hl (k := 3) rfl (by rw [en_24]; rfl) (by decide) rfl (fun ls hl => ?_)
          clear en_24
          refine lv_goto (tgt := 23) hx hb dX9_best_88 (by decide) ?_
          exact ihk_4 (n_24, n_23, v4_23, y6_23) _ _ _ (by show ((nf 0).toInt - n_24.toInt).toNat < k_4; omega) ⟨(by first | omega | decide | (simp only [fa_lt, fa_le, fa_eq, and_true, true_and, and_false, false_and, not_true_eq_false, not_false_eq_true, li_0, li_1, li_2, li_3, li_4, li_5, li_6, li_7, li_8, li_9, li_10, li_12, li_15, li_16, li_20, li_30, li_34, li_38, li_40, li_63, li_64, li_65, li_78, li_120, li_1000, li_4000, li_10000, li_11077, li_255, li_65535, li_m1, li_m2, li_m1000000001, li_m1000000002, li_m1000000003, li_m1000000004, li_m1000000005, li_m1000000006, li_m1000000007, or_true, true_or, or_false, false_or, implies_true, true_implies, false_implies] <;> omega)), hP.sub [0, 1, 2, 3] rfl, hD.sub [0, 1, 2, 3] (by decide) rfl, hS, lv_sub hl [0, 1, 2, 4, 5] rfl⟩
  · skip
    have tc_2 : r_1.toInt = 0 := (fa_eq _ _).mp c_2
    refine lv_aload_n hx hb dX9_best_8 rfl (lv_at hl 0 rfl) ?_
    refine lv_ldc hx hb hown (hts _ (List.mem_of_getElem? (i := 16) rfl)) dX9_best_9 ?_
    have hPc := hP.sub (ws' := [(h0, .inr (7, [.ref a0, v1, .ref p0, v3, v4, .ref t0, .int np, v7, v8, v9, v10, v11, v12, v13, v14, v15, v16, v17, v18, v19, v20, v21, v22, v23, v24, v25, v26, v27])), (t0, .inl (tc, 8, .inl tf))]) [0, 1] rfl
    have hKc := hK.sub (tys' := [(tc, .int)]) [0] rfl
    have hDc := hD.sub (ws' := [(h0, .inr (7, [.ref a0, v1, .ref p0, v3, v4, .ref t0, .int np, v7, v8, v9, v10, v11, v12, v13, v14, v15, v16, v17, v18, v19, v20, v21, v22, v23, v24, v25, v26, v27])), (t0, .inl (tc, 8, .inl tf))]) [0, 1] (by decide) rfl
    have hFc := va_free (wc := [(h0, .inr (7, [.ref a0, v1, .ref p0, v3, v4, .ref t0, .int np, v7, v8, v9, v10, v11, v12, v13, v14, v15, v16, v17, v18, v19, v20, v21, v22, v23, v24, v25, v26, v27])), (t0, .inl (tc, 8, .inl tf))]) hD hS hA [0, 1] rfl
    refine va_calli (va_runV (As := [.int (-1000000001)]) (rest := []) ⟨hx, hb, hml, hown, hts⟩ (mf_beyond l dC dI ad h0 (.ref a0) v1 (.ref p0) v3 v4 t0 (.int np) v7 v8 v9 v10 v11 v12 v13 v14 v15 v16 v17 v18 v19 v20 v21 v22 v23 v24 v25 v26 v27 tc tf s.heap.size ) (cwV 1 hts g_m_best_mf_beyond_84 rfl rfl rfl (by decide +kernel) ⟨(Nat.le_of_ble_eq_true rfl), (Nat.le_of_ble_eq_true rfl)⟩) ⟨preM_blind, va_recv hKc hPc (ci := 7) (q0 := 0) rfl rfl, fun U hU hW => ⟨rfl, preM_at hU hW hPc hKc hDc hev⟩⟩ rfl rfl hl.1 rfl (lv_room (Nat.le_of_ble_eq_true rfl)) dX9_best_11 ⟨(Nat.le_of_ble_eq_true rfl), (Nat.le_of_ble_eq_true rfl)⟩) hS (fun q _ h => hFc q h) hFc (fun r_25 u t H1 locs ht hvm hw hB hz1 hk1 hS => ?_)
    obtain ⟨tg_26, hP1, hK1, hD1⟩ := hB
    rw [ht] at hP1
    have hK1 := va_K.moved hvm.symm hK1
    obtain ⟨hP, hD⟩ := va_join (wr := [(a0, .inl (ac, 38, .inl nf)), (p0, .inl (pc, 7, .inr (.inl pf)))]) (w1 := [(h0, .inr (7, [.ref a0, v1, .ref p0, v3, v4, .ref t0, .int np, v7, v8, v9, v10, v11, v12, v13, v14, v15, v16, v17, v18, v19, v20, v21, v22, v23, v24, v25, v26, v27])), (t0, .inl (tc, 8, .inl tg_26))]) hP hD [0, 1] [2, 3] rfl rfl (by decide) (by decide) hk1 hFc hP1 hD1
    generalize H1 = H at hP hS ⊢
    have hP : va_P (dC, dI) vwCl [(a0, .inl (ac, 38, .inl nf)), (p0, .inl (pc, 7, .inr (.inl pf))), (h0, .inr (7, [.ref a0, v1, .ref p0, v3, v4, .ref t0, .int np, v7, v8, v9, v10, v11, v12, v13, v14, v15, v16, v17, v18, v19, v20, v21, v22, v23, v24, v25, v26, v27])), (t0, .inl (tc, 8, .inl tg_26))] H := hP
    have hD : va_D A [(a0, .inl (ac, 38, .inl nf)), (p0, .inl (pc, 7, .inr (.inl pf))), (h0, .inr (7, [.ref a0, v1, .ref p0, v3, v4, .ref t0, .int np, v7, v8, v9, v10, v11, v12, v13, v14, v15, v16, v17, v18, v19, v20, v21, v22, v23, v24, v25, v26, v27])), (t0, .inl (tc, 8, .inl tg_26))] := hD
    subst hw
    have hP9 := hP.sub (ws' := [(h0, .inr (7, [.ref a0, v1, .ref p0, v3, v4, .ref t0, .int np, v7, v8, v9, v10, v11, v12, v13, v14, v15, v16, v17, v18, v19, v20, v21, v22, v23, v24, v25, v26, v27])), (t0, .inl (tc, 8, .inl tg_26)), (a0, .inl (ac, 38, .inl nf)), (p0, .inl (pc, 7, .inr (.inl pf)))]) [2, 3, 0, 1] rfl
    have hD9 := hD.sub (ws' := [(h0, .inr (7, [.ref a0, v1, .ref p0, v3, v4, .ref t0, .int np, v7, v8, v9, v10, v11, v12, v13, v14, v15, v16, v17, v18, v19, v20, v21, v22, v23, v24, v25, v26, v27])), (t0, .inl (tc, 8, .inl tg_26)), (a0, .inl (ac, 38, .inl nf)), (p0, .inl (pc, 7, .inr (.inl pf)))]) [2, 3, 0, 1] (by decide) rfl
    have hK9 := hK.sub (tys' := [(tc, .int), (ac, .int), (pc, .long)]) [0, 1, 2] rfl
    exact W.iret (v := ((-1000000001) : Int32)) hx hb hr (fun t ht hW => ⟨⟨((-1000000001) : Int32), (), rfl, trivial, tg_26, np, by rw [ht]; exact hP9, va_K.moved hW.alike hK9, hD9⟩, hS.F ht⟩) hS.2.2 dX9_best_14

def w_m_harmless : List Cond := .code yX9_harmless cX9_harmless 7 (some .int) :: (([.fieldLink RX9 9 "LampShapesModel" "now" "[I", .constant RX9 150 (-1000000004), .methodLink RX9 84 yX9_finding, .instanceMethod yX9_finding, .selects RX9 yX9_finding yX9_finding, .initialized RX9, .code yX9_finding cX9_finding 2 (some .int), .fieldLink RX9 23 "LampShapesModel" "found" "[I", .constant RX9 74 (-1000000001), .methodLink RX9 158 yX9_bits, .static yX9_bits, .code yX9_bits cX9_bits 5 (some .int), .methodLink RX9 99 yX9_shapeIs, .instanceMethod yX9_shapeIs, .selects RX9 yX9_shapeIs yX9_shapeIs, .code yX9_shapeIs cX9_shapeIs 3 (some .int), .fieldLink RX9 16 "LampShapesModel" "pictures" "[J", .methodLink RX9 176 yX9_nearestOff, .instanceMethod yX9_nearestOff, .selects RX9 yX9_nearestOff yX9_nearestOff, .code yX9_nearestOff cX9_nearestOff 9 (some .int), .methodLink RX9 164 yX9_isAllowed, .instanceMethod yX9_isAllowed, .selects RX9 yX9_isAllowed yX9_isAllowed, .code yX9_isAllowed cX9_isAllowed 2 (some .boolean), .methodLink RX9 126 yX9_isPlacing, .static yX9_isPlacing, .code yX9_isPlacing cX9_isPlacing 1 (some .boolean), .methodLink RX9 75 yX9_within, .static yX9_within, .code yX9_within cX9_within 3 (some .boolean), .methodLink RX9 129 yX9_shadowOf, .instanceMethod yX9_shadowOf, .selects RX9 yX9_shadowOf yX9_shadowOf, .code yX9_shadowOf cX9_shadowOf 11 (some .long), .methodLink RX9 122 yX9_throwsOf, .static yX9_throwsOf, .code yX9_throwsOf cX9_throwsOf 8 (some .int), .methodLink RX9 112 yX9_mirrored, .static yX9_mirrored, .code yX9_mirrored cX9_mirrored 5 (some .int), .methodLink RX9 109 yX9_has, .static yX9_has, .code yX9_has cX9_has 3 (some .boolean), .methodLink RX9 114 yX9_turned, .static yX9_turned, .code yX9_turned cX9_turned 7 (some .int), .methodLink RX9 119 yX9_isBetween, .static yX9_isBetween, .code yX9_isBetween cX9_isBetween 6 (some .boolean), .methodLink RX9 116 yX9_isInner, .static yX9_isInner, .code yX9_isInner cX9_isInner 3 (some .boolean), .fieldLink RX9 167 "LampShapesModel" "nearestPlacing" "I", .methodLink RX9 171 Lib.Math.min.name, .static Lib.Math.min.name, .initialized "java/lang/Math", .code Lib.Math.min.name Lib.Math.min.code 2 (some .int)] : List Cond) ++ wsX90)
set_option maxRecDepth 20000 in
theorem g_m_harmless_mf_none_84 : GoodIn w_m_harmless (wsV RX9 84 RX9 yX9_finding w_mf_none) := goodIn_r _ [3, 4, 5, 6, 7, 8, 9, 59, 60, 61, 62, 63, 64, 65, 66, 67, 68, 69, 70, 71, 72, 73, 74, 75, 76, 77, 78, 79, 80, 81, 82, 83, 84, 85, 86] rfl (by decide +kernel)
set_option maxRecDepth 20000 in
theorem g_m_harmless_m_bits2_158 : GoodIn w_m_harmless (va_wsS RX9 158 yX9_bits w_m_bits2) := goodIn_r _ [10, 11, 6, 12] rfl (by decide +kernel)
set_option maxRecDepth 20000 in
theorem g_m_harmless_m_shapeIs_99 : GoodIn w_m_harmless (wsV RX9 99 RX9 yX9_shapeIs w_m_shapeIs) := goodIn_r _ [13, 14, 15, 6, 16, 1, 59, 60, 61, 62, 63, 64, 65, 66, 67, 68, 69, 70, 71, 72, 73, 74, 75, 76, 77, 78, 79, 80, 81, 82, 83, 84, 85, 86] rfl (by decide +kernel)
set_option maxRecDepth 20000 in
theorem g_m_harmless_m_nearestOff_176 : GoodIn w_m_harmless (wsV RX9 176 RX9 yX9_nearestOff w_m_nearestOff) := goodIn_r _ [18, 19, 20, 6, 21, 22, 23, 24, 6, 25, 26, 27, 28, 29, 30, 31, 1, 32, 33, 34, 35, 13, 14, 15, 16, 36, 37, 38, 39, 40, 41, 42, 43, 44, 45, 46, 47, 48, 49, 50, 51, 52, 53, 10, 11, 12, 54, 55, 56, 57, 58, 59, 60, 61, 62, 63, 64, 65, 66, 67, 68, 69, 70, 71, 72, 73, 74, 75, 76, 77, 78, 79, 80, 81, 82, 83, 84, 85, 86] rfl (by decide +kernel)
set_option maxHeartbeats 4000000 in
set_option maxRecDepth 100000 in
theorem m_harmless (l : Launch) (dC : Nat → ClassId) (dI : Nat → Nat → Nat) (ad : Nat → Nat) (h0 : Nat) (a0 : Nat) (v1 : Value) (p0 : Nat) (v3 : Value) (v4 : Value) (t0 : Nat) (np : Int32) (v7 : Value) (v8 : Value) (v9 : Value) (v10 : Value) (v11 : Value) (v12 : Value) (v13 : Value) (v14 : Value) (v15 : Value) (v16 : Value) (v17 : Value) (v18 : Value) (v19 : Value) (v20 : Value) (v21 : Value) (v22 : Value) (v23 : Value) (v24 : Value) (v25 : Value) (v26 : Value) (v27 : Value) (tc : ClassId) (tf : Nat → Int32) (ac : ClassId) (nf : Nat → Int32) (pc : ClassId) (pf : Nat → Int64) (sz : Nat) (hI : mI nf) : Met l yX9_harmless w_m_harmless ({ frames := 6, cells := 0, slots := 0, locals := 155 } : Room) (va_Pc [.ref h0] (preM dC dI ad [(tc, .int), (ac, .int), (pc, .long)] [(h0, .inr (7, [.ref a0, v1, .ref p0, v3, v4, .ref t0, .int np, v7, v8, v9, v10, v11, v12, v13, v14, v15, v16, v17, v18, v19, v20, v21, v22, v23, v24, v25, v26, v27])), (t0, .inl (tc, 8, .inl tf)), (a0, .inl (ac, 38, .inl nf)), (p0, .inl (pc, 7, .inr (.inl pf)))] sz)) (va_Qi (fun (r : Int32) (_ : Unit) => True) (fun _ t => ∃ (tg : Nat → Int32), ∃ (np2 : Int32), va_P (dC, dI) vwCl [(h0, .inr (7, [.ref a0, v1, .ref p0, v3, v4, .ref t0, .int np2, v7, v8, v9, v10, v11, v12, v13, v14, v15, v16, v17, v18, v19, v20, v21, v22, v23, v24, v25, v26, v27])), (t0, .inl (tc, 8, .inl tg)), (a0, .inl (ac, 38, .inl nf)), (p0, .inl (pc, 7, .inr (.inl pf)))] t.heap ∧ va_K (dC, dI) vwCl [(tc, .int), (ac, .int), (pc, .long)] t ∧ va_D (va_A [(h0, .inr (7, [.ref a0, v1, .ref p0, v3, v4, .ref t0, .int np, v7, v8, v9, v10, v11, v12, v13, v14, v15, v16, v17, v18, v19, v20, v21, v22, v23, v24, v25, v26, v27])), (t0, .inl (tc, 8, .inl tf)), (a0, .inl (ac, 38, .inl nf)), (p0, .inl (pc, 7, .inr (.inl pf)))] sz) [(h0, .inr (7, [.ref a0, v1, .ref p0, v3, v4, .ref t0, .int np2, v7, v8, v9, v10, v11, v12, v13, v14, v15, v16, v17, v18, v19, v20, v21, v22, v23, v24, v25, v26, v27])), (t0, .inl (tc, 8, .inl tg)), (a0, .inl (ac, 38, .inl nf)), (p0, .inl (pc, 7, .inr (.inl pf)))]) (va_A [(h0, .inr (7, [.ref a0, v1, .ref p0, v3, v4, .ref t0, .int np, v7, v8, v9, v10, v11, v12, v13, v14, v15, v16, v17, v18, v19, v20, v21, v22, v23, v24, v25, v26, v27])), (t0, .inl (tc, 8, .inl tf)), (a0, .inl (ac, 38, .inl nf)), (p0, .inl (pc, 7, .inr (.inl pf)))] sz)) 0 0 (va_A [(h0, .inr (7, [.ref a0, v1, .ref p0, v3, v4, .ref t0, .int np, v7, v8, v9, v10, v11, v12, v13, v14, v15, v16, v17, v18, v19, v20, v21, v22, v23, v24, v25, v26, v27])), (t0, .inl (tc, 8, .inl tf)), (a0, .inl (ac, 38, .inl nf)), (p0, .inl (pc, 7, .inr (.inl pf)))] sz) := by
  refine Met.ofW (cc := cX9_harmless) (maxL := 7) (ret := (some .int)) (by decide) rfl ?_
  intro p e s m args below meth c s₁ B hml hv
  obtain ⟨rfl, hsz, hP, hK, hD0, hev⟩ := hv
  have hx := B.exec
  have hb := B.bytes
  have hr := B.returns
  have hts := atoms_spec (ws := w_m_harmless) B.pre
  have hown : s.vm.findClass RX9 = some m.cls := findClass_of_methodNamed B.named
  have hlocks := B.notSynchronized
  have inX9 : ∀ w ∈ wsX90, w ∈ w_m_harmless := fun w h => List.mem_cons_of_mem _ (List.mem_append_right _ h)
  subst hsz
  have hD := hD0.self (sz := s.heap.size)
  generalize hAe : va_A [(h0, .inr (7, [.ref a0, v1, .ref p0, v3, v4, .ref t0, .int np, v7, v8, v9, v10, v11, v12, v13, v14, v15, v16, v17, v18, v19, v20, v21, v22, v23, v24, v25, v26, v27])), (t0, .inl (tc, 8, .inl tf)), (a0, .inl (ac, 38, .inl nf)), (p0, .inl (pc, 7, .inr (.inl pf)))] s.heap.size = A at hD ⊢
  have hA : ∀ q : Nat, s.heap.size ≤ q → A q := fun q h => by rw [← hAe]; exact Or.inr h
  have hS : va_S A s.heap s.heap [] := va_S.rf
  have hP : va_P (dC, dI) vwCl [(h0, .inr (7, [.ref a0, v1, .ref p0, v3, v4, .ref t0, .int np, v7, v8, v9, v10, v11, v12, v13, v14, v15, v16, v17, v18, v19, v20, v21, v22, v23, v24, v25, v26, v27])), (t0, .inl (tc, 8, .inl tf)), (a0, .inl (ac, 38, .inl nf)), (p0, .inl (pc, 7, .inr (.inl pf)))] s.heap := hP
  have hl := lv_entry ([.ref h0]) (n := 7) (Nat.le_of_ble_eq_true rfl)
  rw [lg_entry_eq]
  generalize (lg_sl ([.ref h0]) ++ List.replicate (7 - (lg_sl ([.ref h0])).length) Slot.unset).toArray = ls at hl ⊢
  have hl : lv_has ls 7 [(0, .ref h0)] := hl
  refine lv_iconst (v := 0) hx hb dX9_harmless_0 (by decide) ?_
  refine lv_istore_n (lv' := [(1, .int 0), (0, .ref h0)]) hx hb dX9_harmless_1 rfl hl (by decide) rfl (fun ls hl => ?_)
  refine lv_iconst (v := 0) hx hb dX9_harmless_2 (by decide) ?_
  refine lv_istore_n (lv' := [(2, .int 0), (1, .int 0), (0, .ref h0)]) hx hb dX9_harmless_3 rfl hl (by decide) rfl (fun ls hl => ?_)
  refine pp_loop (ι := Int32 × Int32 × Int32) (fun ⟨v2_4, v1_4, y6_4⟩ => ((nf 0).toInt - v2_4.toInt).toNat) (fun ⟨v2_4, v1_4, y6_4⟩ H locs ls => (0 ≤ v2_4.toInt) ∧ va_P (dC, dI) vwCl [(h0, .inr (7, [.ref a0, v1, .ref p0, v3, v4, .ref t0, .int y6_4, v7, v8, v9, v10, v11, v12, v13, v14, v15, v16, v17, v18, v19, v20, v21, v22, v23, v24, v25, v26, v27])), (t0, .inl (tc, 8, .inl tf)), (a0, .inl (ac, 38, .inl nf)), (p0, .inl (pc, 7, .inr (.inl pf)))] H ∧ va_D A [(h0, .inr (7, [.ref a0, v1, .ref p0, v3, v4, .ref t0, .int y6_4, v7, v8, v9, v10, v11, v12, v13, v14, v15, v16, v17, v18, v19, v20, v21, v22, v23, v24, v25, v26, v27])), (t0, .inl (tc, 8, .inl tf)), (a0, .inl (ac, 38, .inl nf)), (p0, .inl (pc, 7, .inr (.inl pf)))] ∧ va_S A s.heap H locs ∧ lv_has ls 7 [(2, .int v2_4), (1, .int v1_4), (0, .ref h0)]) ?_ (0, 0, np) _ _ _ ⟨(by first | omega | decide | (simp only [fa_lt, fa_le, fa_eq, and_true, true_and, and_false, false_and, not_true_eq_false, not_false_eq_true, li_0, li_1, li_2, li_3, li_4, li_5, li_6, li_7, li_8, li_9, li_10, li_12, li_15, li_16, li_20, li_30, li_34, li_38, li_40, li_63, li_64, li_65, li_78, li_120, li_1000, li_4000, li_10000, li_11077, li_255, li_65535, li_m1, li_m2, li_m1000000001, li_m1000000002, li_m1000000003, li_m1000000004, li_m1000000005, li_m1000000006, li_m1000000007, or_true, true_or, or_false, false_or, implies_true, true_implies, false_implies] <;> omega)), hP.sub [0, 1, 2, 3] rfl, hD.sub [0, 1, 2, 3] (by decide) rfl, hS, lv_sub hl [0, 1, 2] rfl⟩
  intro k_1 ihk_1 u H locs ls hm hI
  obtain ⟨v2_4, v1_4, y6_4⟩ := u
  obtain ⟨jk_1_0, hP, hD, hS, hl⟩ := hI
  have hmk_1 : ((nf 0).toInt - v2_4.toInt).toNat < k_1 + 1 := hm
  clear hm
  have jk_1_0 : 0 ≤ v2_4.toInt := jk_1_0
  have hl : lv_has ls 7 [(2, .int v2_4), (1, .int v1_4), (0, .ref h0)] := hl
  have hP : va_P (dC, dI) vwCl [(h0, .inr (7, [.ref a0, v1, .ref p0, v3, v4, .ref t0, .int y6_4, v7, v8, v9, v10, v11, v12, v13, v14, v15, v16, v17, v18, v19, v20, v21, v22, v23, v24, v25, v26, v27])), (t0, .inl (tc, 8, .inl tf)), (a0, .inl (ac, 38, .inl nf)), (p0, .inl (pc, 7, .inr (.inl pf)))] H := hP
  have hD : va_D A [(h0, .inr (7, [.ref a0, v1, .ref p0, v3, v4, .ref t0, .int y6_4, v7, v8, v9, v10, v11, v12, v13, v14, v15, v16, v17, v18, v19, v20, v21, v22, v23, v24, v25, v26, v27])), (t0, .inl (tc, 8, .inl tf)), (a0, .inl (ac, 38, .inl nf)), (p0, .inl (pc, 7, .inr (.inl pf)))] := hD
  refine lv_iload_n hx hb dX9_harmless_4 rfl (lv_at hl 0 rfl) ?_
  refine lv_aload_n hx hb dX9_harmless_5 rfl (lv_at hl 2 rfl) ?_
  refine va_get (D := (dC, dI)) (ci := 7) (v := .ref a0) (C := RX9) (T := TX9) (N := 28) hx hb hts inX9 hown hK hP 0 rfl rfl 0 (by decide) (hts _ (List.mem_of_getElem? (i := 1) rfl)) (fun _ h9 => h9) rfl dX9_harmless_6 ?_
  refine lv_iconst (v := 0) hx hb dX9_harmless_9 (by decide) ?_
  refine va_iald hx hb hK hP 2 1 rfl rfl (vp_in_nI (n := 0) (by decide) (by decide)) dX9_harmless_10 ?_
  refine pp_ti (y := nf 0) rfl ?_
  refine lv_topi (fun n_2 en_2 => ?_)
  have tn_2 : n_2.toInt = (nf 0).toInt ∧ 0 ≤ n_2.toInt ∧ n_2.toInt ≤ 9 := mI_r0 hI en_2
  clear en_2
  have rc_3_x := pp_rng v2_4
  have rc_3_y := pp_rng n_2
  refine lv_icmp_ge (tgt := 39) hx hb dX9_harmless_11 (by decide) (fun c_3 => ?_) (fun c_3 => ?_)
  · skip
    have tc_3 : n_2.toInt ≤ v2_4.toInt := (fa_le _ _).mp c_3
    refine lv_aload_n hx hb dX9_harmless_39 rfl (lv_at hl 2 rfl) ?_
    refine va_get (D := (dC, dI)) (ci := 7) (v := .ref a0) (C := RX9) (T := TX9) (N := 28) hx hb hts inX9 hown hK hP 0 rfl rfl 0 (by decide) (hts _ (List.mem_of_getElem? (i := 1) rfl)) (fun _ h9 => h9) rfl dX9_harmless_40 ?_
    refine lv_iconst (v := 1) hx hb dX9_harmless_43 (by decide) ?_
    refine va_iald hx hb hK hP 2 1 rfl rfl (vp_in_nI (n := 1) (by decide) (by decide)) dX9_harmless_44 ?_
    refine pp_ti (y := nf 1) rfl ?_
    refine lv_topi (fun n_4 en_4 => ?_)
    have tn_4 : n_4.toInt = (nf 1).toInt ∧ 0 ≤ n_4.toInt ∧ n_4.toInt ≤ 7 := mI_r1 hI en_4
    clear en_4
    refine lv_if_eq (tgt := 52) hx hb dX9_harmless_45 (by decide) (fun c_5 => ?_) (fun c_5 => ?_)
    · skip
      have tc_5 : n_4.toInt = 0 := (fa_eq _ _).mp c_5
      refine lv_aload_n hx hb dX9_harmless_52 rfl (lv_at hl 2 rfl) ?_
      refine lv_ldc hx hb hown (hts _ (List.mem_of_getElem? (i := 2) rfl)) dX9_harmless_53 ?_
      have hPc := hP.sub (ws' := [(h0, .inr (7, [.ref a0, v1, .ref p0, v3, v4, .ref t0, .int y6_4, v7, v8, v9, v10, v11, v12, v13, v14, v15, v16, v17, v18, v19, v20, v21, v22, v23, v24, v25, v26, v27])), (t0, .inl (tc, 8, .inl tf))]) [0, 1] rfl
      have hKc := hK.sub (tys' := [(tc, .int)]) [0] rfl
      have hDc := hD.sub (ws' := [(h0, .inr (7, [.ref a0, v1, .ref p0, v3, v4, .ref t0, .int y6_4, v7, v8, v9, v10, v11, v12, v13, v14, v15, v16, v17, v18, v19, v20, v21, v22, v23, v24, v25, v26, v27])), (t0, .inl (tc, 8, .inl tf))]) [0, 1] (by decide) rfl
      have hFc := va_free (wc := [(h0, .inr (7, [.ref a0, v1, .ref p0, v3, v4, .ref t0, .int y6_4, v7, v8, v9, v10, v11, v12, v13, v14, v15, v16, v17, v18, v19, v20, v21, v22, v23, v24, v25, v26, v27])), (t0, .inl (tc, 8, .inl tf))]) hD hS hA [0, 1] rfl
      refine va_calli (va_runV (As := [.int (-1000000004)]) (rest := []) ⟨hx, hb, hml, hown, hts⟩ (mf_none l dC dI ad h0 (.ref a0) v1 (.ref p0) v3 v4 t0 (.int y6_4) v7 v8 v9 v10 v11 v12 v13 v14 v15 v16 v17 v18 v19 v20 v21 v22 v23 v24 v25 v26 v27 tc tf H.size ) (cwV 1 hts g_m_harmless_mf_none_84 rfl rfl rfl (by decide +kernel) ⟨(Nat.le_of_ble_eq_true rfl), (Nat.le_of_ble_eq_true rfl)⟩) ⟨preM_blind, va_recv hKc hPc (ci := 7) (q0 := 0) rfl rfl, fun U hU hW => ⟨rfl, preM_at hU hW hPc hKc hDc hev⟩⟩ rfl rfl hl.1 rfl (lv_room (Nat.le_of_ble_eq_true rfl)) dX9_harmless_55 ⟨(Nat.le_of_ble_eq_true rfl), (Nat.le_of_ble_eq_true rfl)⟩) hS (fun q _ h => hFc q h) hFc (fun r_6 u t H1 locs ht hvm hw hB hz1 hk1 hS => ?_)
      obtain ⟨tg_7, hP1, hK1, hD1⟩ := hB
      rw [ht] at hP1
      have hK1 := va_K.moved hvm.symm hK1
      obtain ⟨hP, hD⟩ := va_join (wr := [(a0, .inl (ac, 38, .inl nf)), (p0, .inl (pc, 7, .inr (.inl pf)))]) (w1 := [(h0, .inr (7, [.ref a0, v1, .ref p0, v3, v4, .ref t0, .int y6_4, v7, v8, v9, v10, v11, v12, v13, v14, v15, v16, v17, v18, v19, v20, v21, v22, v23, v24, v25, v26, v27])), (t0, .inl (tc, 8, .inl tg_7))]) hP hD [0, 1] [2, 3] rfl rfl (by decide) (by decide) hk1 hFc hP1 hD1
      generalize H1 = H at hP hS ⊢
      have hP : va_P (dC, dI) vwCl [(a0, .inl (ac, 38, .inl nf)), (p0, .inl (pc, 7, .inr (.inl pf))), (h0, .inr (7, [.ref a0, v1, .ref p0, v3, v4, .ref t0, .int y6_4, v7, v8, v9, v10, v11, v12, v13, v14, v15, v16, v17, v18, v19, v20, v21, v22, v23, v24, v25, v26, v27])), (t0, .inl (tc, 8, .inl tg_7))] H := hP
      have hD : va_D A [(a0, .inl (ac, 38, .inl nf)), (p0, .inl (pc, 7, .inr (.inl pf))), (h0, .inr (7, [.ref a0, v1, .ref p0, v3, v4, .ref t0, .int y6_4, v7, v8, v9, v10, v11, v12, v13, v14, v15, v16, v17, v18, v19, v20, v21, v22, v23, v24, v25, v26, v27])), (t0, .inl (tc, 8, .inl tg_7))] := hD
      subst hw
      have hP9 := hP.sub (ws' := [(h0, .inr (7, [.ref a0, v1, .ref p0, v3, v4, .ref t0, .int y6_4, v7, v8, v9, v10, v11, v12, v13, v14, v15, v16, v17, v18, v19, v20, v21, v22, v23, v24, v25, v26, v27])), (t0, .inl (tc, 8, .inl tg_7)), (a0, .inl (ac, 38, .inl nf)), (p0, .inl (pc, 7, .inr (.inl pf)))]) [2, 3, 0, 1] rfl
      have hD9 := hD.sub (ws' := [(h0, .inr (7, [.ref a0, v1, .ref p0, v3, v4, .ref t0, .int y6_4, v7, v8, v9, v10, v11, v12, v13, v14, v15, v16, v17, v18, v19, v20, v21, v22, v23, v24, v25, v26, v27])), (t0, .inl (tc, 8, .inl tg_7)), (a0, .inl (ac, 38, .inl nf)), (p0, .inl (pc, 7, .inr (.inl pf)))]) [2, 3, 0, 1] (by decide) rfl
      have hK9 := hK.sub (tys' := [(tc, .int), (ac, .int), (pc, .long)]) [0, 1, 2] rfl
      exact W.iret (v := ((-1000000004) : Int32)) hx hb hr (fun t ht hW => ⟨⟨((-1000000004) : Int32), (), rfl, trivial, tg_7, y6_4, by rw [ht]; exact hP9, va_K.moved hW.alike hK9, hD9⟩, hS.F ht⟩) hS.2.2 dX9_harmless_58
    · skip
      have tc_5 : ¬ n_4.toInt = 0 := fun h => c_5 ((fa_eq _ _).mpr h)
      refine lv_iload_n hx hb dX9_harmless_48 rfl (lv_at hl 1 rfl) ?_
      refine lv_if_ne (tgt := 59) hx hb dX9_harmless_49 (by decide) (fun c_8 => ?_) (fun c_8 => ?_)
      · skip
        have tc_8 : ¬ v1_4.toInt = 0 := fun h => c_8 ((fa_eq _ _).mpr h)
        refine lv_iconst (v := 0) hx hb dX9_harmless_59 (by decide) ?_
        refine lv_istore_n (lv' := [(2, .int 0), (1, .int v1_4), (0, .ref h0)]) hx hb dX9_harmless_60 rfl hl (by decide) rfl (fun ls hl => ?_)
        refine pp_loop (ι := Int32 × Int32 × Int32) (fun ⟨v2_61, v1_61, y6_61⟩ => ((nf 1).toInt - v2_61.toInt).toNat) (fun ⟨v2_61, v1_61, y6_61⟩ H locs ls => (0 ≤ v2_61.toInt) ∧ va_P (dC, dI) vwCl [(h0, .inr (7, [.ref a0, v1, .ref p0, v3, v4, .ref t0, .int y6_61, v7, v8, v9, v10, v11, v12, v13, v14, v15, v16, v17, v18, v19, v20, v21, v22, v23, v24, v25, v26, v27])), (t0, .inl (tc, 8, .inl tf)), (a0, .inl (ac, 38, .inl nf)), (p0, .inl (pc, 7, .inr (.inl pf)))] H ∧ va_D A [(h0, .inr (7, [.ref a0, v1, .ref p0, v3, v4, .ref t0, .int y6_61, v7, v8, v9, v10, v11, v12, v13, v14, v15, v16, v17, v18, v19, v20, v21, v22, v23, v24, v25, v26, v27])), (t0, .inl (tc, 8, .inl tf)), (a0, .inl (ac, 38, .inl nf)), (p0, .inl (pc, 7, .inr (.inl pf)))] ∧ va_S A s.heap H locs ∧ lv_has ls 7 [(2, .int v2_61), (1, .int v1_61), (0, .ref h0)]) ?_ (0, v1_4, y6_4) _ _ _ ⟨(by first | omega | decide | (simp only [fa_lt, fa_le, fa_eq, and_true, true_and, and_false, false_and, not_true_eq_false, not_false_eq_true, li_0, li_1, li_2, li_3, li_4, li_5, li_6, li_7, li_8, li_9, li_10, li_12, li_15, li_16, li_20, li_30, li_34, li_38, li_40, li_63, li_64, li_65, li_78, li_120, li_1000, li_4000, li_10000, li_11077, li_255, li_65535, li_m1, li_m2, li_m1000000001, li_m1000000002, li_m1000000003, li_m1000000004, li_m1000000005, li_m1000000006, li_m1000000007, or_true, true_or, or_false, false_or, implies_true, true_implies, false_implies] <;> omega)), hP.sub [0, 1, 2, 3] rfl, hD.sub [0, 1, 2, 3] (by decide) rfl, hS, lv_sub hl [0, 1, 2] rfl⟩
        intro k_9 ihk_9 u H locs ls hm hI
        obtain ⟨v2_61, v1_61, y6_61⟩ := u
        obtain ⟨jk_9_0, hP, hD, hS, hl⟩ := hI
        have hmk_9 : ((nf 1).toInt - v2_61.toInt).toNat < k_9 + 1 := hm
        clear hm
        have jk_9_0 : 0 ≤ v2_61.toInt := jk_9_0
        have hl : lv_has ls 7 [(2, .int v2_61), (1, .int v1_61), (0, .ref h0)] := hl
        have hP : va_P (dC, dI) vwCl [(h0, .inr (7, [.ref a0, v1, .ref p0, v3, v4, .ref t0, .int y6_61, v7, v8, v9, v10, v11, v12, v13, v14, v15, v16, v17, v18, v19, v20, v21, v22, v23, v24, v25, v26, v27])), (t0, .inl (tc, 8, .inl tf)), (a0, .inl (ac, 38, .inl nf)), (p0, .inl (pc, 7, .inr (.inl pf)))] H := hP
        have hD : va_D A [(h0, .inr (7, [.ref a0, v1, .ref p0, v3, v4, .ref t0, .int y6_61, v7, v8, v9, v10, v11, v12, v13, v14, v15, v16, v17, v18, v19, v20, v21, v22, v23, v24, v25, v26, v27])), (t0, .inl (tc, 8, .inl tf)), (a0, .inl (ac, 38, .inl nf)), (p0, .inl (pc, 7, .inr (.inl pf)))] := hD
        refine lv_iload_n hx hb dX9_harmless_61 rfl (lv_at hl 0 rfl) ?_
        refine lv_aload_n hx hb dX9_harmless_62 rfl (lv_at hl 2 rfl) ?_
        refine va_get (D := (dC, dI)) (ci := 7) (v := .ref a0) (C := RX9) (T := TX9) (N := 28) hx hb hts inX9 hown hK hP 0 rfl rfl 0 (by decide) (hts _ (List.mem_of_getElem? (i := 1) rfl)) (fun _ h9 => h9) rfl dX9_harmless_63 ?_
        refine lv_iconst (v := 1) hx hb dX9_harmless_66 (by decide) ?_
        refine va_iald hx hb hK hP 2 1 rfl rfl (vp_in_nI (n := 1) (by decide) (by decide)) dX9_harmless_67 ?_
        refine pp_ti (y := nf 1) rfl ?_
        refine lv_topi (fun n_10 en_10 => ?_)
        have tn_10 : n_10.toInt = (nf 1).toInt ∧ 0 ≤ n_10.toInt ∧ n_10.toInt ≤ 7 := mI_r1 hI en_10
        clear en_10
        have rc_11_x := pp_rng v2_61
        have rc_11_y := pp_rng n_10
        refine lv_icmp_ge (tgt := 201) hx hb dX9_harmless_68 (by decide) (fun c_11 => ?_) (fun c_11 => ?_)
        · skip
          have tc_11 : n_10.toInt ≤ v2_61.toInt := (fa_le _ _).mp c_11
          refine lv_iload_n hx hb dX9_harmless_201 rfl (lv_at hl 1 rfl) ?_
          have hP9 := hP.sub (ws' := [(h0, .inr (7, [.ref a0, v1, .ref p0, v3, v4, .ref t0, .int y6_61, v7, v8, v9, v10, v11, v12, v13, v14, v15, v16, v17, v18, v19, v20, v21, v22, v23, v24, v25, v26, v27])), (t0, .inl (tc, 8, .inl tf)), (a0, .inl (ac, 38, .inl nf)), (p0, .inl (pc, 7, .inr (.inl pf)))]) [0, 1, 2, 3] rfl
          have hD9 := hD.sub (ws' := [(h0, .inr (7, [.ref a0, v1, .ref p0, v3, v4, .ref t0, .int y6_61, v7, v8, v9, v10, v11, v12, v13, v14, v15, v16, v17, v18, v19, v20, v21, v22, v23, v24, v25, v26, v27])), (t0, .inl (tc, 8, .inl tf)), (a0, .inl (ac, 38, .inl nf)), (p0, .inl (pc, 7, .inr (.inl pf)))]) [0, 1, 2, 3] (by decide) rfl
          have hK9 := hK.sub (tys' := [(tc, .int), (ac, .int), (pc, .long)]) [0, 1, 2] rfl
          exact W.iret (v := v1_61) hx hb hr (fun t ht hW => ⟨⟨v1_61, (), rfl, trivial, tf, y6_61, by rw [ht]; exact hP9, va_K.moved hW.alike hK9, hD9⟩, hS.F ht⟩) hS.2.2 dX9_harmless_202
        · skip
          have tc_11 : ¬ n_10.toInt ≤ v2_61.toInt := fun h => c_11 ((fa_le _ _).mpr h)
          refine lv_iconst (v := 0) hx hb dX9_harmless_71 (by decide) ?_
          refine lv_istore_n (lv' := [(3, .int 0), (2, .int v2_61), (1, .int v1_61), (0, .ref h0)]) hx hb dX9_harmless_72 rfl hl (by decide) rfl (fun ls hl => ?_)
          refine lv_bipush (v := 65) hx hb dX9_harmless_73 (by decide) ?_
          refine lv_istore (lv' := [(4, .int 65), (3, .int 0), (2, .int v2_61), (1, .int v1_61), (0, .ref h0)]) hx hb dX9_harmless_75 hl (by decide) rfl (fun ls hl => ?_)
          refine lv_iconst (v := 0) hx hb dX9_harmless_77 (by decide) ?_
          refine lv_istore (lv' := [(5, .int 0), (4, .int 65), (3, .int 0), (2, .int v2_61), (1, .int v1_61), (0, .ref h0)]) hx hb dX9_harmless_78 hl (by decide) rfl (fun ls hl => ?_)
          refine pp_loop (ι := Int32 × Int32 × Int32 × Int32) (fun ⟨v5_80, v4_80, v3_80, y6_80⟩ => ((nf 0).toInt - v5_80.toInt).toNat) (fun ⟨v5_80, v4_80, v3_80, y6_80⟩ H locs ls => (0 ≤ v5_80.toInt) ∧ va_P (dC, dI) vwCl [(h0, .inr (7, [.ref a0, v1, .ref p0, v3, v4, .ref t0, .int y6_80, v7, v8, v9, v10, v11, v12, v13, v14, v15, v16, v17, v18, v19, v20, v21, v22, v23, v24, v25, v26, v27])), (t0, .inl (tc, 8, .inl tf)), (a0, .inl (ac, 38, .inl nf)), (p0, .inl (pc, 7, .inr (.inl pf)))] H ∧ va_D A [(h0, .inr (7, [.ref a0, v1, .ref p0, v3, v4, .ref t0, .int y6_80, v7, v8, v9, v10, v11, v12, v13, v14, v15, v16, v17, v18, v19, v20, v21, v22, v23, v24, v25, v26, v27])), (t0, .inl (tc, 8, .inl tf)), (a0, .inl (ac, 38, .inl nf)), (p0, .inl (pc, 7, .inr (.inl pf)))] ∧ va_S A s.heap H locs ∧ lv_has ls 7 [(5, .int v5_80), (4, .int v4_80), (3, .int v3_80), (2, .int v2_61), (1, .int v1_61), (0, .ref h0)]) ?_ (0, 65, 0, y6_61) _ _ _ ⟨(by first | omega | decide | (simp only [fa_lt, fa_le, fa_eq, and_true, true_and, and_false, false_and, not_true_eq_false, not_false_eq_true, li_0, li_1, li_2, li_3, li_4, li_5, li_6, li_7, li_8, li_9, li_10, li_12, li_15, li_16, li_20, li_30, li_34, li_38, li_40, li_63, li_64, li_65, li_78, li_120, li_1000, li_4000, li_10000, li_11077, li_255, li_65535, li_m1, li_m2, li_m1000000001, li_m1000000002, li_m1000000003, li_m1000000004, li_m1000000005, li_m1000000006, li_m1000000007, or_true, true_or, or_false, false_or, implies_true, true_implies, false_implies] <;> omega)), hP.sub [0, 1, 2, 3] rfl, hD.sub [0, 1, 2, 3] (by decide) rfl, hS, lv_sub hl [0, 1, 2, 3, 4, 5] rfl⟩
          intro k_12 ihk_12 u H locs ls hm hI
          obtain ⟨v5_80, v4_80, v3_80, y6_80⟩ := u
          obtain ⟨jk_12_0, hP, hD, hS, hl⟩ := hI
          have hmk_12 : ((nf 0).toInt - v5_80.toInt).toNat < k_12 + 1 := hm
          clear hm
          have jk_12_0 : 0 ≤ v5_80.toInt := jk_12_0
          have hl : lv_has ls 7 [(5, .int v5_80), (4, .int v4_80), (3, .int v3_80), (2, .int v2_61), (1, .int v1_61), (0, .ref h0)] := hl
          have hP : va_P (dC, dI) vwCl [(h0, .inr (7, [.ref a0, v1, .ref p0, v3, v4, .ref t0, .int y6_80, v7, v8, v9, v10, v11, v12, v13, v14, v15, v16, v17, v18, v19, v20, v21, v22, v23, v24, v25, v26, v27])), (t0, .inl (tc, 8, .inl tf)), (a0, .inl (ac, 38, .inl nf)), (p0, .inl (pc, 7, .inr (.inl pf)))] H := hP
          have hD : va_D A [(h0, .inr (7, [.ref a0, v1, .ref p0, v3, v4, .ref t0, .int y6_80, v7, v8, v9, v10, v11, v12, v13, v14, v15, v16, v17, v18, v19, v20, v21, v22, v23, v24, v25, v26, v27])), (t0, .inl (tc, 8, .inl tf)), (a0, .inl (ac, 38, .inl nf)), (p0, .inl (pc, 7, .inr (.inl pf)))] := hD
          refine lv_iload hx hb dX9_harmless_80 (lv_at hl 0 rfl) ?_
          refine lv_aload_n hx hb dX9_harmless_82 rfl (lv_at hl 5 rfl) ?_
          refine va_get (D := (dC, dI)) (ci := 7) (v := .ref a0) (C := RX9) (T := TX9) (N := 28) hx hb hts inX9 hown hK hP 0 rfl rfl 0 (by decide) (hts _ (List.mem_of_getElem? (i := 1) rfl)) (fun _ h9 => h9) rfl dX9_harmless_83 ?_
          refine lv_iconst (v := 0) hx hb dX9_harmless_86 (by decide) ?_
          refine va_iald hx hb hK hP 2 1 rfl rfl (vp_in_nI (n := 0) (by decide) (by decide)) dX9_harmless_87 ?_
          refine pp_ti (y := nf 0) rfl ?_
          refine lv_topi (fun n_13 en_13 => ?_)
          have tn_13 : n_13.toInt = (nf 0).toInt ∧ 0 ≤ n_13.toInt ∧ n_13.toInt ≤ 9 := mI_r0 hI en_13
          clear en_13
          have rc_14_x := pp_rng v5_80
          have rc_14_y := pp_rng n_13
          refine lv_icmp_ge (tgt := 176) hx hb dX9_harmless_88 (by decide) (fun c_14 => ?_) (fun c_14 => ?_)
          · skip
            have tc_14 : n_13.toInt ≤ v5_80.toInt := (fa_le _ _).mp c_14
            refine lv_iload_n hx hb dX9_harmless_176 rfl (lv_at hl 4 rfl) ?_
            refine lv_iload_n hx hb dX9_harmless_177 rfl (lv_at hl 2 rfl) ?_
            obtain ⟨n_15, en_15⟩ : ∃ z : Int64, z = v3_80.toInt64 := ⟨_, rfl⟩
            refine lv_i2l (v := n_15) hx hb dX9_harmless_178 en_15.symm ?_
            clear en_15
            have hPc := hP.sub (ws' := []) [] rfl
            have hKc := hK.sub (tys' := []) [] rfl
            refine vp_callSi (W.runS (As := [.long n_15]) (rest := [.int v1_61]) ⟨hx, hb, hml, hown, hts⟩ (m_bits2 l dC dI ad n_15 ) (va_cwS 1 hts g_m_harmless_m_bits2_158 rfl rfl rfl (by decide +kernel) ⟨(Nat.le_of_ble_eq_true rfl), (Nat.le_of_ble_eq_true rfl)⟩) ⟨preS_blind, fun U hU hW => ⟨rfl, preS_at hU hW hPc hKc hev⟩⟩ rfl rfl hl.1 rfl (lv_room (Nat.le_of_ble_eq_true rfl)) dX9_harmless_179 ⟨(Nat.le_of_ble_eq_true rfl), (Nat.le_of_ble_eq_true rfl)⟩) (fun r_16 hw => ?_)
            have hr_16 : (0 ≤ r_16.toInt ∧ r_16.toInt ≤ 64) ∧ (n_15.toBitVec.toNat < 512 → r_16.toInt = (pop9 n_15.toBitVec.toNat : Int)) := hw
            refine lv_iconst (v := 1) hx hb dX9_harmless_182 (by decide) ?_
            refine lv_icmp_ne (tgt := 192) hx hb dX9_harmless_183 (by decide) (fun c_17 => ?_) (fun c_17 => ?_)
            · skip
              have tc_17 : ¬ r_16.toInt = 1 := fun h => c_17 ((fa_eq _ _).mpr h)
              refine lv_iconst (v := (-1)) hx hb dX9_harmless_192 (by decide) ?_
              refine lv_iand hx hb dX9_harmless_193 ?_
              refine lv_topi (fun n_18 en_18 => ?_)
              clear en_18
              refine lv_istore_n (lv' := [(1, .int n_18), (5, .int v5_80), (4, .int v4_80), (3, .int v3_80), (2, .int v2_61), (0, .ref h0)]) hx hb dX9_harmless_194 rfl hl (by decide) rfl (fun ls hl => ?_)
              obtain ⟨n_19, en_19⟩ : ∃ y : Int32, y = v2_61 + 1 := ⟨_, rfl⟩
              have tn_19 : n_19.toInt = v2_61.toInt + 1 := pp_add en_19 rfl rfl (by omega) (by omega)
              refine lv_iinc (v := n_19) (lv' := [(2, .int n_19), (1, .int n_18), (5, .int v5_80), (4, .int v4_80), (3, .int v3_80), (0, .ref h0)]) hx hb dX9_harmless_195 hl (k := 4) rfl (by rw [en_19]; rfl) (by decide) rfl (fun ls hl => ?_)
              clear en_19
              refine lv_goto (tgt := 61) hx hb dX9_harmless_198 (by decide) ?_
              exact ihk_9 (n_19, n_18, y6_80) _ _ _ (by show ((nf 1).toInt - n_19.toInt).toNat < k_9; omega) ⟨(by first | omega | decide | (simp only [fa_lt, fa_le, fa_eq, and_true, true_and, and_false, false_and, not_true_eq_false, not_false_eq_true, li_0, li_1, li_2, li_3, li_4, li_5, li_6, li_7, li_8, li_9, li_10, li_12, li_15, li_16, li_20, li_30, li_34, li_38, li_40, li_63, li_64, li_65, li_78, li_120, li_1000, li_4000, li_10000, li_11077, li_255, li_65535, li_m1, li_m2, li_m1000000001, li_m1000000002, li_m1000000003, li_m1000000004, li_m1000000005, li_m1000000006, li_m1000000007, or_true, true_or, or_false, false_or, implies_true, true_implies, false_implies] <;> omega)), hP.sub [0, 1, 2, 3] rfl, hD.sub [0, 1, 2, 3] (by decide) rfl, hS, lv_sub hl [0, 1, 5] rfl⟩
            · skip
              have tc_17 : r_16.toInt = 1 := (fa_eq _ _).mp c_17
              refine lv_iload_n hx hb dX9_harmless_186 rfl (lv_at hl 2 rfl) ?_
              refine lv_iconst (v := (-1)) hx hb dX9_harmless_187 (by decide) ?_
              refine lv_ixor hx hb dX9_harmless_188 ?_
              refine lv_topi (fun n_20 en_20 => ?_)
              clear en_20
              refine lv_goto (tgt := 193) hx hb dX9_harmless_189 (by decide) ?_
              refine lv_iand hx hb dX9_harmless_193 ?_
              refine lv_topi (fun n_21 en_21 => ?_)
              clear en_21
              refine lv_istore_n (lv' := [(1, .int n_21), (5, .int v5_80), (4, .int v4_80), (3, .int v3_80), (2, .int v2_61), (0, .ref h0)]) hx hb dX9_harmless_194 rfl hl (by decide) rfl (fun ls hl => ?_)
              obtain ⟨n_22, en_22⟩ : ∃ y : Int32, y = v2_61 + 1 := ⟨_, rfl⟩
              have tn_22 : n_22.toInt = v2_61.toInt + 1 := pp_add en_22 rfl rfl (by omega) (by omega)
              refine lv_iinc (v := n_22) (lv' := [(2, .int n_22), (1, .int n_21), (5, .int v5_80), (4, .int v4_80), (3, .int v3_80), (0, .ref h0)]) hx hb dX9_harmless_195 hl (k := 4) rfl (by rw [en_22]; rfl) (by decide) rfl (fun ls hl => ?_)
              clear en_22
              refine lv_goto (tgt := 61) hx hb dX9_harmless_198 (by decide) ?_
              exact ihk_9 (n_22, n_21, y6_80) _ _ _ (by show ((nf 1).toInt - n_22.toInt).toNat < k_9; omega) ⟨(by first | omega | decide | (simp only [fa_lt, fa_le, fa_eq, and_true, true_and, and_false, false_and, not_true_eq_false, not_false_eq_true, li_0, li_1, li_2, li_3, li_4, li_5, li_6, li_7, li_8, li_9, li_10, li_12, li_15, li_16, li_20, li_30, li_34, li_38, li_40, li_63, li_64, li_65, li_78, li_120, li_1000, li_4000, li_10000, li_11077, li_255, li_65535, li_m1, li_m2, li_m1000000001, li_m1000000002, li_m1000000003, li_m1000000004, li_m1000000005, li_m1000000006, li_m1000000007, or_true, true_or, or_false, false_or, implies_true, true_implies, false_implies] <;> omega)), hP.sub [0, 1, 2, 3] rfl, hD.sub [0, 1, 2, 3] (by decide) rfl, hS, lv_sub hl [0, 1, 5] rfl⟩
          · skip
            have tc_14 : ¬ n_13.toInt ≤ v5_80.toInt := fun h => c_14 ((fa_le _ _).mpr h)
            refine lv_aload_n hx hb dX9_harmless_91 rfl (lv_at hl 5 rfl) ?_
            refine lv_iload hx hb dX9_harmless_92 (lv_at hl 0 rfl) ?_
            refine lv_iconst (v := 2) hx hb dX9_harmless_94 (by decide) ?_
            have hPc := hP.sub (ws' := [(h0, .inr (7, [.ref a0, v1, .ref p0, v3, v4, .ref t0, .int y6_80, v7, v8, v9, v10, v11, v12, v13, v14, v15, v16, v17, v18, v19, v20, v21, v22, v23, v24, v25, v26, v27])), (a0, .inl (ac, 38, .inl nf))]) [0, 2] rfl
            have hKc := hK.sub (tys' := [(ac, .int)]) [1] rfl
            refine vp_callSi (W.runV (As := [.int v5_80, .int 2]) (rest := []) ⟨hx, hb, hml, hown, hts⟩ (m_shapeIs l dC dI ad h0 v5_80 2 a0 v1 (.ref p0) v3 v4 (.ref t0) (.int y6_80) v7 v8 v9 v10 v11 v12 v13 v14 v15 v16 v17 v18 v19 v20 v21 v22 v23 v24 v25 v26 v27 ac nf (by first | omega | decide | (simp only [fa_lt, fa_le, fa_eq, and_true, true_and, and_false, false_and, not_true_eq_false, not_false_eq_true, li_0, li_1, li_2, li_3, li_4, li_5, li_6, li_7, li_8, li_9, li_10, li_12, li_15, li_16, li_20, li_30, li_34, li_38, li_40, li_63, li_64, li_65, li_78, li_120, li_1000, li_4000, li_10000, li_11077, li_255, li_65535, li_m1, li_m2, li_m1000000001, li_m1000000002, li_m1000000003, li_m1000000004, li_m1000000005, li_m1000000006, li_m1000000007, or_true, true_or, or_false, false_or, implies_true, true_implies, false_implies] <;> omega)) (by first | omega | decide | (simp only [fa_lt, fa_le, fa_eq, and_true, true_and, and_false, false_and, not_true_eq_false, not_false_eq_true, li_0, li_1, li_2, li_3, li_4, li_5, li_6, li_7, li_8, li_9, li_10, li_12, li_15, li_16, li_20, li_30, li_34, li_38, li_40, li_63, li_64, li_65, li_78, li_120, li_1000, li_4000, li_10000, li_11077, li_255, li_65535, li_m1, li_m2, li_m1000000001, li_m1000000002, li_m1000000003, li_m1000000004, li_m1000000005, li_m1000000006, li_m1000000007, or_true, true_or, or_false, false_or, implies_true, true_implies, false_implies] <;> omega))) (cwV 2 hts g_m_harmless_m_shapeIs_99 rfl rfl rfl (by decide +kernel) ⟨(Nat.le_of_ble_eq_true rfl), (Nat.le_of_ble_eq_true rfl)⟩) ⟨preS_blind, va_recv hKc hPc (ci := 7) (q0 := 0) rfl rfl, fun U hU hW => ⟨rfl, preS_at hU hW hPc hKc hev⟩⟩ rfl rfl hl.1 rfl (lv_room (Nat.le_of_ble_eq_true rfl)) dX9_harmless_95 ⟨(Nat.le_of_ble_eq_true rfl), (Nat.le_of_ble_eq_true rfl)⟩) (fun r_23 hw => ?_)
            refine lv_iconst (v := 1) hx hb dX9_harmless_98 (by decide) ?_
            refine lv_icmp_ne (tgt := 107) hx hb dX9_harmless_99 (by decide) (fun c_24 => ?_) (fun c_24 => ?_)
            · skip
              have tc_24 : ¬ r_23.toInt = 1 := fun h => c_24 ((fa_eq _ _).mpr h)
              refine lv_aload_n hx hb dX9_harmless_107 rfl (lv_at hl 5 rfl) ?_
              refine lv_iload hx hb dX9_harmless_108 (lv_at hl 0 rfl) ?_
              refine lv_lconst (v := 0) hx hb dX9_harmless_110 (by decide) ?_
              refine lv_aload_n hx hb dX9_harmless_111 rfl (lv_at hl 5 rfl) ?_
              refine va_get (D := (dC, dI)) (ci := 7) (v := .ref p0) (C := RX9) (T := TX9) (N := 28) hx hb hts inX9 hown hK hP 0 rfl rfl 2 (by decide) (hts _ (List.mem_of_getElem? (i := 17) rfl)) (fun _ h9 => h9) rfl dX9_harmless_112 ?_
              refine lv_iload_n hx hb dX9_harmless_115 rfl (lv_at hl 3 rfl) ?_
              refine va_lald hx hb hK hP 3 2 rfl rfl (vp_in_iff.mpr ⟨by omega, by omega⟩) dX9_harmless_116 ?_
              refine lv_topl (fun n_25 en_25 => ?_)
              clear en_25
              have hPc := hP.sub (ws' := [(h0, .inr (7, [.ref a0, v1, .ref p0, v3, v4, .ref t0, .int y6_80, v7, v8, v9, v10, v11, v12, v13, v14, v15, v16, v17, v18, v19, v20, v21, v22, v23, v24, v25, v26, v27])), (a0, .inl (ac, 38, .inl nf))]) [0, 2] rfl
              have hKc := hK.sub (tys' := [(ac, .int)]) [1] rfl
              have hDc := hD.sub (ws' := [(h0, .inr (7, [.ref a0, v1, .ref p0, v3, v4, .ref t0, .int y6_80, v7, v8, v9, v10, v11, v12, v13, v14, v15, v16, v17, v18, v19, v20, v21, v22, v23, v24, v25, v26, v27])), (a0, .inl (ac, 38, .inl nf))]) [0, 2] (by decide) rfl
              have hFc := va_free (wc := [(h0, .inr (7, [.ref a0, v1, .ref p0, v3, v4, .ref t0, .int y6_80, v7, v8, v9, v10, v11, v12, v13, v14, v15, v16, v17, v18, v19, v20, v21, v22, v23, v24, v25, v26, v27])), (a0, .inl (ac, 38, .inl nf))]) hD hS hA [0, 2] rfl
              refine va_calli (va_runV (As := [.int v5_80, .long 0, .long n_25]) (rest := []) ⟨hx, hb, hml, hown, hts⟩ (m_nearestOff l dC dI ad h0 v5_80 0 n_25 a0 v1 (.ref p0) v3 v4 (.ref t0) y6_80 v7 v8 v9 v10 v11 v12 v13 v14 v15 v16 v17 v18 v19 v20 v21 v22 v23 v24 v25 v26 v27 ac nf H.size hI (by first | omega | decide | (simp only [fa_lt, fa_le, fa_eq, and_true, true_and, and_false, false_and, not_true_eq_false, not_false_eq_true, li_0, li_1, li_2, li_3, li_4, li_5, li_6, li_7, li_8, li_9, li_10, li_12, li_15, li_16, li_20, li_30, li_34, li_38, li_40, li_63, li_64, li_65, li_78, li_120, li_1000, li_4000, li_10000, li_11077, li_255, li_65535, li_m1, li_m2, li_m1000000001, li_m1000000002, li_m1000000003, li_m1000000004, li_m1000000005, li_m1000000006, li_m1000000007, or_true, true_or, or_false, false_or, implies_true, true_implies, false_implies] <;> omega))) (cwV 3 hts g_m_harmless_m_nearestOff_176 rfl rfl rfl (by decide +kernel) ⟨(Nat.le_of_ble_eq_true rfl), (Nat.le_of_ble_eq_true rfl)⟩) ⟨preM_blind, va_recv hKc hPc (ci := 7) (q0 := 0) rfl rfl, fun U hU hW => ⟨rfl, preM_at hU hW hPc hKc hDc hev⟩⟩ rfl rfl hl.1 rfl (lv_room (Nat.le_of_ble_eq_true rfl)) dX9_harmless_117 ⟨(Nat.le_of_ble_eq_true rfl), (Nat.le_of_ble_eq_true rfl)⟩) hS (fun q _ h => hFc q h) hFc (fun r_26 u t H1 locs ht hvm hw hB hz1 hk1 hS => ?_)
              obtain ⟨np_27, hP1, hK1, hD1⟩ := hB
              rw [ht] at hP1
              have hK1 := va_K.moved hvm.symm hK1
              obtain ⟨hP, hD⟩ := va_join (wr := [(t0, .inl (tc, 8, .inl tf)), (p0, .inl (pc, 7, .inr (.inl pf)))]) (w1 := [(h0, .inr (7, [.ref a0, v1, .ref p0, v3, v4, .ref t0, .int np_27, v7, v8, v9, v10, v11, v12, v13, v14, v15, v16, v17, v18, v19, v20, v21, v22, v23, v24, v25, v26, v27])), (a0, .inl (ac, 38, .inl nf))]) hP hD [0, 2] [1, 3] rfl rfl (by decide) (by decide) hk1 hFc hP1 hD1
              generalize H1 = H at hP hS ⊢
              have hP : va_P (dC, dI) vwCl [(t0, .inl (tc, 8, .inl tf)), (p0, .inl (pc, 7, .inr (.inl pf))), (h0, .inr (7, [.ref a0, v1, .ref p0, v3, v4, .ref t0, .int np_27, v7, v8, v9, v10, v11, v12, v13, v14, v15, v16, v17, v18, v19, v20, v21, v22, v23, v24, v25, v26, v27])), (a0, .inl (ac, 38, .inl nf))] H := hP
              have hD : va_D A [(t0, .inl (tc, 8, .inl tf)), (p0, .inl (pc, 7, .inr (.inl pf))), (h0, .inr (7, [.ref a0, v1, .ref p0, v3, v4, .ref t0, .int np_27, v7, v8, v9, v10, v11, v12, v13, v14, v15, v16, v17, v18, v19, v20, v21, v22, v23, v24, v25, v26, v27])), (a0, .inl (ac, 38, .inl nf))] := hD
              have hr_26 : r_26.toInt ≤ 65 := hw
              refine lv_istore (lv' := [(6, .int r_26), (5, .int v5_80), (4, .int v4_80), (3, .int v3_80), (2, .int v2_61), (1, .int v1_61), (0, .ref h0)]) hx hb dX9_harmless_120 hl (by decide) rfl (fun ls hl => ?_)
              refine lv_iload hx hb dX9_harmless_122 (lv_at hl 0 rfl) ?_
              refine lv_iload hx hb dX9_harmless_124 (lv_at hl 2 rfl) ?_
              have rc_28_x := pp_rng r_26
              have rc_28_y := pp_rng v4_80
              refine lv_icmp_ge (tgt := 136) hx hb dX9_harmless_126 (by decide) (fun c_28 => ?_) (fun c_28 => ?_)
              · skip
                have tc_28 : v4_80.toInt ≤ r_26.toInt := (fa_le _ _).mp c_28
                refine lv_iload hx hb dX9_harmless_136 (lv_at hl 0 rfl) ?_
                refine lv_iload hx hb dX9_harmless_138 (lv_at hl 2 rfl) ?_
                have rc_29_x := pp_rng r_26
                have rc_29_y := pp_rng v4_80
                refine lv_icmp_ne (tgt := 159) hx hb dX9_harmless_140 (by decide) (fun c_29 => ?_) (fun c_29 => ?_)
                · skip
                  have tc_29 : ¬ r_26.toInt = v4_80.toInt := fun h => c_29 ((fa_eq _ _).mpr h)
                  refine lv_iload_n hx hb dX9_harmless_159 rfl (lv_at hl 3 rfl) ?_
                  refine lv_istore_n (lv' := [(3, .int v3_80), (6, .int r_26), (5, .int v5_80), (4, .int v4_80), (2, .int v2_61), (1, .int v1_61), (0, .ref h0)]) hx hb dX9_harmless_160 rfl hl (by decide) rfl (fun ls hl => ?_)
                  refine lv_iload hx hb dX9_harmless_161 (lv_at hl 3 rfl) ?_
                  refine lv_iload hx hb dX9_harmless_163 (lv_at hl 1 rfl) ?_
                  refine va_mmin hx hb (by rw [hml]; exact hl.1.symm) hown (hts _ (List.mem_of_getElem? (i := 55) rfl)) (hts _ (List.mem_of_getElem? (i := 56) rfl)) (hts _ (List.mem_of_getElem? (i := 57) rfl)) (hts _ (List.mem_of_getElem? (i := 58) rfl)) (Nat.le_of_ble_eq_true rfl) (Nat.le_of_ble_eq_true rfl) (Nat.le_of_ble_eq_true rfl) (Nat.le_of_ble_eq_true rfl) dX9_harmless_165 ?_
                  refine lv_topi (fun n_30 en_30 => ?_)
                  have tn_30 : n_30.toInt ≤ v4_80.toInt ∧ n_30.toInt ≤ r_26.toInt ∧ (n_30.toInt = v4_80.toInt ∨ n_30.toInt = r_26.toInt) := pp_min en_30
                  refine lv_istore (lv' := [(4, .int n_30), (3, .int v3_80), (6, .int r_26), (5, .int v5_80), (2, .int v2_61), (1, .int v1_61), (0, .ref h0)]) hx hb dX9_harmless_168 hl (by decide) rfl (fun ls hl => ?_)
                  obtain ⟨n_31, en_31⟩ : ∃ y : Int32, y = v5_80 + 1 := ⟨_, rfl⟩
                  have tn_31 : n_31.toInt = v5_80.toInt + 1 := pp_add en_31 rfl rfl (by omega) (by omega)
                  refine lv_iinc (v := n_31) (lv' := [(5, .int n_31), (4, .int n_30), (3, .int v3_80), (6, .int r_26), (2, .int v2_61), (1, .int v1_61), (0, .ref h0)]) hx hb dX9_harmless_170 hl (k := 3) rfl (by rw [en_31]; rfl) (by decide) rfl (fun ls hl => ?_)
                  clear en_31
                  refine lv_goto (tgt := 80) hx hb dX9_harmless_173 (by decide) ?_
                  exact ihk_12 (n_31, n_30, v3_80, np_27) _ _ _ (by show ((nf 0).toInt - n_31.toInt).toNat < k_12; omega) ⟨(by first | omega | decide | (simp only [fa_lt, fa_le, fa_eq, and_true, true_and, and_false, false_and, not_true_eq_false, not_false_eq_true, li_0, li_1, li_2, li_3, li_4, li_5, li_6, li_7, li_8, li_9, li_10, li_12, li_15, li_16, li_20, li_30, li_34, li_38, li_40, li_63, li_64, li_65, li_78, li_120, li_1000, li_4000, li_10000, li_11077, li_255, li_65535, li_m1, li_m2, li_m1000000001, li_m1000000002, li_m1000000003, li_m1000000004, li_m1000000005, li_m1000000006, li_m1000000007, or_true, true_or, or_false, false_or, implies_true, true_implies, false_implies] <;> omega)), hP.sub [2, 0, 3, 1] rfl, hD.sub [2, 0, 3, 1] (by decide) rfl, hS, lv_sub hl [0, 1, 2, 4, 5, 6] rfl⟩
                · skip
                  have tc_29 : r_26.toInt = v4_80.toInt := (fa_eq _ _).mp c_29
                  refine lv_iload hx hb dX9_harmless_143 (lv_at hl 0 rfl) ?_
                  refine lv_bipush (v := 65) hx hb dX9_harmless_145 (by decide) ?_
                  refine lv_icmp_ge (tgt := 159) hx hb dX9_harmless_147 (by decide) (fun c_32 => ?_) (fun c_32 => ?_)
                  · skip
                    have tc_32 : 65 ≤ r_26.toInt := (fa_le _ _).mp c_32
                    refine lv_iload_n hx hb dX9_harmless_159 rfl (lv_at hl 3 rfl) ?_
                    refine lv_istore_n (lv' := [(3, .int v3_80), (6, .int r_26), (5, .int v5_80), (4, .int v4_80), (2, .int v2_61), (1, .int v1_61), (0, .ref h0)]) hx hb dX9_harmless_160 rfl hl (by decide) rfl (fun ls hl => ?_)
                    refine lv_iload hx hb dX9_harmless_161 (lv_at hl 3 rfl) ?_
                    refine lv_iload hx hb dX9_harmless_163 (lv_at hl 1 rfl) ?_
                    refine va_mmin hx hb (by rw [hml]; exact hl.1.symm) hown (hts _ (List.mem_of_getElem? (i := 55) rfl)) (hts _ (List.mem_of_getElem? (i := 56) rfl)) (hts _ (List.mem_of_getElem? (i := 57) rfl)) (hts _ (List.mem_of_getElem? (i := 58) rfl)) (Nat.le_of_ble_eq_true rfl) (Nat.le_of_ble_eq_true rfl) (Nat.le_of_ble_eq_true rfl) (Nat.le_of_ble_eq_true rfl) dX9_harmless_165 ?_
                    refine lv_topi (fun n_33 en_33 => ?_)
                    have tn_33 : n_33.toInt ≤ v4_80.toInt ∧ n_33.toInt ≤ r_26.toInt ∧ (n_33.toInt = v4_80.toInt ∨ n_33.toInt = r_26.toInt) := pp_min en_33
                    refine lv_istore (lv' := [(4, .int n_33), (3, .int v3_80), (6, .int r_26), (5, .int v5_80), (2, .int v2_61), (1, .int v1_61), (0, .ref h0)]) hx hb dX9_harmless_168 hl (by decide) rfl (fun ls hl => ?_)
                    obtain ⟨n_34, en_34⟩ : ∃ y : Int32, y = v5_80 + 1 := ⟨_, rfl⟩
                    have tn_34 : n_34.toInt = v5_80.toInt + 1 := pp_add en_34 rfl rfl (by omega) (by omega)
                    refine lv_iinc (v := n_34) (lv' := [(5, .int n_34), (4, .int n_33), (3, .int v3_80), (6, .int r_26), (2, .int v2_61), (1, .int v1_61), (0, .ref h0)]) hx hb dX9_harmless_170 hl (k := 3) rfl (by rw [en_34]; rfl) (by decide) rfl (fun ls hl => ?_)
                    clear en_34
                    refine lv_goto (tgt := 80) hx hb dX9_harmless_173 (by decide) ?_
                    exact ihk_12 (n_34, n_33, v3_80, np_27) _ _ _ (by show ((nf 0).toInt - n_34.toInt).toNat < k_12; omega) ⟨(by first | omega | decide | (simp only [fa_lt, fa_le, fa_eq, and_true, true_and, and_false, false_and, not_true_eq_false, not_false_eq_true, li_0, li_1, li_2, li_3, li_4, li_5, li_6, li_7, li_8, li_9, li_10, li_12, li_15, li_16, li_20, li_30, li_34, li_38, li_40, li_63, li_64, li_65, li_78, li_120, li_1000, li_4000, li_10000, li_11077, li_255, li_65535, li_m1, li_m2, li_m1000000001, li_m1000000002, li_m1000000003, li_m1000000004, li_m1000000005, li_m1000000006, li_m1000000007, or_true, true_or, or_false, false_or, implies_true, true_implies, false_implies] <;> omega)), hP.sub [2, 0, 3, 1] rfl, hD.sub [2, 0, 3, 1] (by decide) rfl, hS, lv_sub hl [0, 1, 2, 4, 5, 6] rfl⟩
                  · skip
                    have tc_32 : ¬ 65 ≤ r_26.toInt := fun h => c_32 ((fa_le _ _).mpr h)
                    refine lv_iload_n hx hb dX9_harmless_150 rfl (lv_at hl 3 rfl) ?_
                    refine lv_iconst (v := 1) hx hb dX9_harmless_151 (by decide) ?_
                    refine lv_iload hx hb dX9_harmless_152 (lv_at hl 1 rfl) ?_
                    refine lv_ishl hx hb dX9_harmless_154 ?_
                    refine lv_topi (fun n_35 en_35 => ?_)
                    clear en_35
                    refine lv_ior hx hb dX9_harmless_155 ?_
                    refine lv_topi (fun n_36 en_36 => ?_)
                    clear en_36
                    refine lv_goto (tgt := 160) hx hb dX9_harmless_156 (by decide) ?_
                    refine lv_istore_n (lv' := [(3, .int n_36), (6, .int r_26), (5, .int v5_80), (4, .int v4_80), (2, .int v2_61), (1, .int v1_61), (0, .ref h0)]) hx hb dX9_harmless_160 rfl hl (by decide) rfl (fun ls hl => ?_)
                    refine lv_iload hx hb dX9_harmless_161 (lv_at hl 3 rfl) ?_
                    refine lv_iload hx hb dX9_harmless_163 (lv_at hl 1 rfl) ?_
                    refine va_mmin hx hb (by rw [hml]; exact hl.1.symm) hown (hts _ (List.mem_of_getElem? (i := 55) rfl)) (hts _ (List.mem_of_getElem? (i := 56) rfl)) (hts _ (List.mem_of_getElem? (i := 57) rfl)) (hts _ (List.mem_of_getElem? (i := 58) rfl)) (Nat.le_of_ble_eq_true rfl) (Nat.le_of_ble_eq_true rfl) (Nat.le_of_ble_eq_true rfl) (Nat.le_of_ble_eq_true rfl) dX9_harmless_165 ?_
                    refine lv_topi (fun n_37 en_37 => ?_)
                    have tn_37 : n_37.toInt ≤ v4_80.toInt ∧ n_37.toInt ≤ r_26.toInt ∧ (n_37.toInt = v4_80.toInt ∨ n_37.toInt = r_26.toInt) := pp_min en_37
                    refine lv_istore (lv' := [(4, .int n_37), (3, .int n_36), (6, .int r_26), (5, .int v5_80), (2, .int v2_61), (1, .int v1_61), (0, .ref h0)]) hx hb dX9_harmless_168 hl (by decide) rfl (fun ls hl => ?_)
                    obtain ⟨n_38, en_38⟩ : ∃ y : Int32, y = v5_80 + 1 := ⟨_, rfl⟩
                    have tn_38 : n_38.toInt = v5_80.toInt + 1 := pp_add en_38 rfl rfl (by omega) (by omega)
                    refine lv_iinc (v := n_38) (lv' := [(5, .int n_38), (4, .int n_37), (3, .int n_36), (6, .int r_26), (2, .int v2_61), (1, .int v1_61), (0, .ref h0)]) hx hb dX9_harmless_170 hl (k := 3) rfl (by rw [en_38]; rfl) (by decide) rfl (fun ls hl => ?_)
                    clear en_38
                    refine lv_goto (tgt := 80) hx hb dX9_harmless_173 (by decide) ?_
                    exact ihk_12 (n_38, n_37, n_36, np_27) _ _ _ (by show ((nf 0).toInt - n_38.toInt).toNat < k_12; omega) ⟨(by first | omega | decide | (simp only [fa_lt, fa_le, fa_eq, and_true, true_and, and_false, false_and, not_true_eq_false, not_false_eq_true, li_0, li_1, li_2, li_3, li_4, li_5, li_6, li_7, li_8, li_9, li_10, li_12, li_15, li_16, li_20, li_30, li_34, li_38, li_40, li_63, li_64, li_65, li_78, li_120, li_1000, li_4000, li_10000, li_11077, li_255, li_65535, li_m1, li_m2, li_m1000000001, li_m1000000002, li_m1000000003, li_m1000000004, li_m1000000005, li_m1000000006, li_m1000000007, or_true, true_or, or_false, false_or, implies_true, true_implies, false_implies] <;> omega)), hP.sub [2, 0, 3, 1] rfl, hD.sub [2, 0, 3, 1] (by decide) rfl, hS, lv_sub hl [0, 1, 2, 4, 5, 6] rfl⟩
              · skip
                have tc_28 : ¬ v4_80.toInt ≤ r_26.toInt := fun h => c_28 ((fa_le _ _).mpr h)
                refine lv_iconst (v := 1) hx hb dX9_harmless_129 (by decide) ?_
                refine lv_iload hx hb dX9_harmless_130 (lv_at hl 1 rfl) ?_
                refine lv_ishl hx hb dX9_harmless_132 ?_
                refine lv_topi (fun n_39 en_39 => ?_)
                clear en_39
                refine lv_goto (tgt := 160) hx hb dX9_harmless_133 (by decide) ?_
                refine lv_istore_n (lv' := [(3, .int n_39), (6, .int r_26), (5, .int v5_80), (4, .int v4_80), (2, .int v2_61), (1, .int v1_61), (0, .ref h0)]) hx hb dX9_harmless_160 rfl hl (by decide) rfl (fun ls hl => ?_)
                refine lv_iload hx hb dX9_harmless_161 (lv_at hl 3 rfl) ?_
                refine lv_iload hx hb dX9_harmless_163 (lv_at hl 1 rfl) ?_
                refine va_mmin hx hb (by rw [hml]; exact hl.1.symm) hown (hts _ (List.mem_of_getElem? (i := 55) rfl)) (hts _ (List.mem_of_getElem? (i := 56) rfl)) (hts _ (List.mem_of_getElem? (i := 57) rfl)) (hts _ (List.mem_of_getElem? (i := 58) rfl)) (Nat.le_of_ble_eq_true rfl) (Nat.le_of_ble_eq_true rfl) (Nat.le_of_ble_eq_true rfl) (Nat.le_of_ble_eq_true rfl) dX9_harmless_165 ?_
                refine lv_topi (fun n_40 en_40 => ?_)
                have tn_40 : n_40.toInt ≤ v4_80.toInt ∧ n_40.toInt ≤ r_26.toInt ∧ (n_40.toInt = v4_80.toInt ∨ n_40.toInt = r_26.toInt) := pp_min en_40
                refine lv_istore (lv' := [(4, .int n_40), (3, .int n_39), (6, .int r_26), (5, .int v5_80), (2, .int v2_61), (1, .int v1_61), (0, .ref h0)]) hx hb dX9_harmless_168 hl (by decide) rfl (fun ls hl => ?_)
                obtain ⟨n_41, en_41⟩ : ∃ y : Int32, y = v5_80 + 1 := ⟨_, rfl⟩
                have tn_41 : n_41.toInt = v5_80.toInt + 1 := pp_add en_41 rfl rfl (by omega) (by omega)
                refine lv_iinc (v := n_41) (lv' := [(5, .int n_41), (4, .int n_40), (3, .int n_39), (6, .int r_26), (2, .int v2_61), (1, .int v1_61), (0, .ref h0)]) hx hb dX9_harmless_170 hl (k := 3) rfl (by rw [en_41]; rfl) (by decide) rfl (fun ls hl => ?_)
                clear en_41
                refine lv_goto (tgt := 80) hx hb dX9_harmless_173 (by decide) ?_
                exact ihk_12 (n_41, n_40, n_39, np_27) _ _ _ (by show ((nf 0).toInt - n_41.toInt).toNat < k_12; omega) ⟨(by first | omega | decide | (simp only [fa_lt, fa_le, fa_eq, and_true, true_and, and_false, false_and, not_true_eq_false, not_false_eq_true, li_0, li_1, li_2, li_3, li_4, li_5, li_6, li_7, li_8, li_9, li_10, li_12, li_15, li_16, li_20, li_30, li_34, li_38, li_40, li_63, li_64, li_65, li_78, li_120, li_1000, li_4000, li_10000, li_11077, li_255, li_65535, li_m1, li_m2, li_m1000000001, li_m1000000002, li_m1000000003, li_m1000000004, li_m1000000005, li_m1000000006, li_m1000000007, or_true, true_or, or_false, false_or, implies_true, true_implies, false_implies] <;> omega)), hP.sub [2, 0, 3, 1] rfl, hD.sub [2, 0, 3, 1] (by decide) rfl, hS, lv_sub hl [0, 1, 2, 4, 5, 6] rfl⟩
            · skip
              have tc_24 : r_23.toInt = 1 := (fa_eq _ _).mp c_24
              refine lv_bipush (v := 65) hx hb dX9_harmless_102 (by decide) ?_
              refine lv_goto (tgt := 120) hx hb dX9_harmless_104 (by decide) ?_
              refine lv_istore (lv' := [(6, .int 65), (5, .int v5_80), (4, .int v4_80), (3, .int v3_80), (2, .int v2_61), (1, .int v1_61), (0, .ref h0)]) hx hb dX9_harmless_120 hl (by decide) rfl (fun ls hl => ?_)
              refine lv_iload hx hb dX9_harmless_122 (lv_at hl 0 rfl) ?_
              refine lv_iload hx hb dX9_harmless_124 (lv_at hl 2 rfl) ?_
              refine lv_icmp_ge (tgt := 136) hx hb dX9_harmless_126 (by decide) (fun c_42 => ?_) (fun c_42 => ?_)
              · skip
                have tc_42 : v4_80.toInt ≤ 65 := (fa_le _ _).mp c_42
                refine lv_iload hx hb dX9_harmless_136 (lv_at hl 0 rfl) ?_
                refine lv_iload hx hb dX9_harmless_138 (lv_at hl 2 rfl) ?_
                refine lv_icmp_ne (tgt := 159) hx hb dX9_harmless_140 (by decide) (fun c_43 => ?_) (fun c_43 => ?_)
                · skip
                  have tc_43 : ¬ 65 = v4_80.toInt := fun h => c_43 ((fa_eq _ _).mpr h)
                  refine lv_iload_n hx hb dX9_harmless_159 rfl (lv_at hl 3 rfl) ?_
                  refine lv_istore_n (lv' := [(3, .int v3_80), (6, .int 65), (5, .int v5_80), (4, .int v4_80), (2, .int v2_61), (1, .int v1_61), (0, .ref h0)]) hx hb dX9_harmless_160 rfl hl (by decide) rfl (fun ls hl => ?_)
                  refine lv_iload hx hb dX9_harmless_161 (lv_at hl 3 rfl) ?_
                  refine lv_iload hx hb dX9_harmless_163 (lv_at hl 1 rfl) ?_
                  refine va_mmin hx hb (by rw [hml]; exact hl.1.symm) hown (hts _ (List.mem_of_getElem? (i := 55) rfl)) (hts _ (List.mem_of_getElem? (i := 56) rfl)) (hts _ (List.mem_of_getElem? (i := 57) rfl)) (hts _ (List.mem_of_getElem? (i := 58) rfl)) (Nat.le_of_ble_eq_true rfl) (Nat.le_of_ble_eq_true rfl) (Nat.le_of_ble_eq_true rfl) (Nat.le_of_ble_eq_true rfl) dX9_harmless_165 ?_
                  refine lv_topi (fun n_44 en_44 => ?_)
                  have tn_44 : n_44.toInt ≤ v4_80.toInt ∧ n_44.toInt ≤ 65 ∧ (n_44.toInt = v4_80.toInt ∨ n_44.toInt = 65) := pp_min en_44
                  refine lv_istore (lv' := [(4, .int n_44), (3, .int v3_80), (6, .int 65), (5, .int v5_80), (2, .int v2_61), (1, .int v1_61), (0, .ref h0)]) hx hb dX9_harmless_168 hl (by decide) rfl (fun ls hl => ?_)
                  obtain ⟨n_45, en_45⟩ : ∃ y : Int32, y = v5_80 + 1 := ⟨_, rfl⟩
                  have tn_45 : n_45.toInt = v5_80.toInt + 1 := pp_add en_45 rfl rfl (by omega) (by omega)
                  refine lv_iinc (v := n_45) (lv' := [(5, .int n_45), (4, .int n_44), (3, .int v3_80), (6, .int 65), (2, .int v2_61), (1, .int v1_61), (0, .ref h0)]) hx hb dX9_harmless_170 hl (k := 3) rfl (by rw [en_45]; rfl) (by decide) rfl (fun ls hl => ?_)
                  clear en_45
                  refine lv_goto (tgt := 80) hx hb dX9_harmless_173 (by decide) ?_
                  exact ihk_12 (n_45, n_44, v3_80, y6_80) _ _ _ (by show ((nf 0).toInt - n_45.toInt).toNat < k_12; omega) ⟨(by first | omega | decide | (simp only [fa_lt, fa_le, fa_eq, and_true, true_and, and_false, false_and, not_true_eq_false, not_false_eq_true, li_0, li_1, li_2, li_3, li_4, li_5, li_6, li_7, li_8, li_9, li_10, li_12, li_15, li_16, li_20, li_30, li_34, li_38, li_40, li_63, li_64, li_65, li_78, li_120, li_1000, li_4000, li_10000, li_11077, li_255, li_65535, li_m1, li_m2, li_m1000000001, li_m1000000002, li_m1000000003, li_m1000000004, li_m1000000005, li_m1000000006, li_m1000000007, or_true, true_or, or_false, false_or, implies_true, true_implies, false_implies] <;> omega)), hP.sub [0, 1, 2, 3] rfl, hD.sub [0, 1, 2, 3] (by decide) rfl, hS, lv_sub hl [0, 1, 2, 4, 5, 6] rfl⟩
                · skip
                  have tc_43 : 65 = v4_80.toInt := (fa_eq _ _).mp c_43
                  refine lv_iload hx hb dX9_harmless_143 (lv_at hl 0 rfl) ?_
                  refine lv_bipush (v := 65) hx hb dX9_harmless_145 (by decide) ?_
                  refine lv_icmp_ge (tgt := 159) hx hb dX9_harmless_147 (by decide) (fun _ => ?_) (fun c => absurd (by decide) c)
                  refine lv_iload_n hx hb dX9_harmless_159 rfl (lv_at hl 3 rfl) ?_
                  refine lv_istore_n (lv' := [(3, .int v3_80), (6, .int 65), (5, .int v5_80), (4, .int v4_80), (2, .int v2_61), (1, .int v1_61), (0, .ref h0)]) hx hb dX9_harmless_160 rfl hl (by decide) rfl (fun ls hl => ?_)
                  refine lv_iload hx hb dX9_harmless_161 (lv_at hl 3 rfl) ?_
                  refine lv_iload hx hb dX9_harmless_163 (lv_at hl 1 rfl) ?_
                  refine va_mmin hx hb (by rw [hml]; exact hl.1.symm) hown (hts _ (List.mem_of_getElem? (i := 55) rfl)) (hts _ (List.mem_of_getElem? (i := 56) rfl)) (hts _ (List.mem_of_getElem? (i := 57) rfl)) (hts _ (List.mem_of_getElem? (i := 58) rfl)) (Nat.le_of_ble_eq_true rfl) (Nat.le_of_ble_eq_true rfl) (Nat.le_of_ble_eq_true rfl) (Nat.le_of_ble_eq_true rfl) dX9_harmless_165 ?_
                  refine lv_topi (fun n_46 en_46 => ?_)
                  have tn_46 : n_46.toInt ≤ v4_80.toInt ∧ n_46.toInt ≤ 65 ∧ (n_46.toInt = v4_80.toInt ∨ n_46.toInt = 65) := pp_min en_46
                  refine lv_istore (lv' := [(4, .int n_46), (3, .int v3_80), (6, .int 65), (5, .int v5_80), (2, .int v2_61), (1, .int v1_61), (0, .ref h0)]) hx hb dX9_harmless_168 hl (by decide) rfl (fun ls hl => ?_)
                  obtain ⟨n_47, en_47⟩ : ∃ y : Int32, y = v5_80 + 1 := ⟨_, rfl⟩
                  have tn_47 : n_47.toInt = v5_80.toInt + 1 := pp_add en_47 rfl rfl (by omega) (by omega)
                  refine lv_iinc (v := n_47) (lv' := [(5, .int n_47), (4, .int n_46), (3, .int v3_80), (6, .int 65), (2, .int v2_61), (1, .int v1_61), (0, .ref h0)]) hx hb dX9_harmless_170 hl (k := 3) rfl (by rw [en_47]; rfl) (by decide) rfl (fun ls hl => ?_)
                  clear en_47
                  refine lv_goto (tgt := 80) hx hb dX9_harmless_173 (by decide) ?_
                  exact ihk_12 (n_47, n_46, v3_80, y6_80) _ _ _ (by show ((nf 0).toInt - n_47.toInt).toNat < k_12; omega) ⟨(by first | omega | decide | (simp only [fa_lt, fa_le, fa_eq, and_true, true_and, and_false, false_and, not_true_eq_false, not_false_eq_true, li_0, li_1, li_2, li_3, li_4, li_5, li_6, li_7, li_8, li_9, li_10, li_12, li_15, li_16, li_20, li_30, li_34, li_38, li_40, li_63, li_64, li_65, li_78, li_120, li_1000, li_4000, li_10000, li_11077, li_255, li_65535, li_m1, li_m2, li_m1000000001, li_m1000000002, li_m1000000003, li_m1000000004, li_m1000000005, li_m1000000006, li_m1000000007, or_true, true_or, or_false, false_or, implies_true, true_implies, false_implies] <;> omega)), hP.sub [0, 1, 2, 3] rfl, hD.sub [0, 1, 2, 3] (by decide) rfl, hS, lv_sub hl [0, 1, 2, 4, 5, 6] rfl⟩
              · skip
                have tc_42 : ¬ v4_80.toInt ≤ 65 := fun h => c_42 ((fa_le _ _).mpr h)
                refine lv_iconst (v := 1) hx hb dX9_harmless_129 (by decide) ?_
                refine lv_iload hx hb dX9_harmless_130 (lv_at hl 1 rfl) ?_
                refine lv_ishl hx hb dX9_harmless_132 ?_
                refine lv_topi (fun n_48 en_48 => ?_)
                clear en_48
                refine lv_goto (tgt := 160) hx hb dX9_harmless_133 (by decide) ?_
                refine lv_istore_n (lv' := [(3, .int n_48), (6, .int 65), (5, .int v5_80), (4, .int v4_80), (2, .int v2_61), (1, .int v1_61), (0, .ref h0)]) hx hb dX9_harmless_160 rfl hl (by decide) rfl (fun ls hl => ?_)
                refine lv_iload hx hb dX9_harmless_161 (lv_at hl 3 rfl) ?_
                refine lv_iload hx hb dX9_harmless_163 (lv_at hl 1 rfl) ?_
                refine va_mmin hx hb (by rw [hml]; exact hl.1.symm) hown (hts _ (List.mem_of_getElem? (i := 55) rfl)) (hts _ (List.mem_of_getElem? (i := 56) rfl)) (hts _ (List.mem_of_getElem? (i := 57) rfl)) (hts _ (List.mem_of_getElem? (i := 58) rfl)) (Nat.le_of_ble_eq_true rfl) (Nat.le_of_ble_eq_true rfl) (Nat.le_of_ble_eq_true rfl) (Nat.le_of_ble_eq_true rfl) dX9_harmless_165 ?_
                refine lv_topi (fun n_49 en_49 => ?_)
                have tn_49 : n_49.toInt ≤ v4_80.toInt ∧ n_49.toInt ≤ 65 ∧ (n_49.toInt = v4_80.toInt ∨ n_49.toInt = 65) := pp_min en_49
                refine lv_istore (lv' := [(4, .int n_49), (3, .int n_48), (6, .int 65), (5, .int v5_80), (2, .int v2_61), (1, .int v1_61), (0, .ref h0)]) hx hb dX9_harmless_168 hl (by decide) rfl (fun ls hl => ?_)
                obtain ⟨n_50, en_50⟩ : ∃ y : Int32, y = v5_80 + 1 := ⟨_, rfl⟩
                have tn_50 : n_50.toInt = v5_80.toInt + 1 := pp_add en_50 rfl rfl (by omega) (by omega)
                refine lv_iinc (v := n_50) (lv' := [(5, .int n_50), (4, .int n_49), (3, .int n_48), (6, .int 65), (2, .int v2_61), (1, .int v1_61), (0, .ref h0)]) hx hb dX9_harmless_170 hl (k := 3) rfl (by rw [en_50]; rfl) (by decide) rfl (fun ls hl => ?_)
                clear en_50
                refine lv_goto (tgt := 80) hx hb dX9_harmless_173 (by decide) ?_
                exact ihk_12 (n_50, n_49, n_48, y6_80) _ _ _ (by show ((nf 0).toInt - n_50.toInt).toNat < k_12; omega) ⟨(by first | omega | decide | (simp only [fa_lt, fa_le, fa_eq, and_true, true_and, and_false, false_and, not_true_eq_false, not_false_eq_true, li_0, li_1, li_2, li_3, li_4, li_5, li_6, li_7, li_8, li_9, li_10, li_12, li_15, li_16, li_20, li_30, li_34, li_38, li_40, li_63, li_64, li_65, li_78, li_120, li_1000, li_4000, li_10000, li_11077, li_255, li_65535, li_m1, li_m2, li_m1000000001, li_m1000000002, li_m1000000003, li_m1000000004, li_m1000000005, li_m1000000006, li_m1000000007, or_true, true_or, or_false, false_or, implies_true, true_implies, false_implies] <;> omega)), hP.sub [0, 1, 2, 3] rfl, hD.sub [0, 1, 2, 3] (by decide) rfl, hS, lv_sub hl [0, 1, 2, 4, 5, 6] rfl⟩
      · skip
        have tc_8 : v1_4.toInt = 0 := (fa_eq _ _).mp c_8
        refine lv_aload_n hx hb dX9_harmless_52 rfl (lv_at hl 2 rfl) ?_
        refine lv_ldc hx hb hown (hts _ (List.mem_of_getElem? (i := 2) rfl)) dX9_harmless_53 ?_
        have hPc := hP.sub (ws' := [(h0, .inr (7, [.ref a0, v1, .ref p0, v3, v4, .ref t0, .int y6_4, v7, v8, v9, v10, v11, v12, v13, v14, v15, v16, v17, v18, v19, v20, v21, v22, v23, v24, v25, v26, v27])), (t0, .inl (tc, 8, .inl tf))]) [0, 1] rfl
        have hKc := hK.sub (tys' := [(tc, .int)]) [0] rfl
        have hDc := hD.sub (ws' := [(h0, .inr (7, [.ref a0, v1, .ref p0, v3, v4, .ref t0, .int y6_4, v7, v8, v9, v10, v11, v12, v13, v14, v15, v16, v17, v18, v19, v20, v21, v22, v23, v24, v25, v26, v27])), (t0, .inl (tc, 8, .inl tf))]) [0, 1] (by decide) rfl
        have hFc := va_free (wc := [(h0, .inr (7, [.ref a0, v1, .ref p0, v3, v4, .ref t0, .int y6_4, v7, v8, v9, v10, v11, v12, v13, v14, v15, v16, v17, v18, v19, v20, v21, v22, v23, v24, v25, v26, v27])), (t0, .inl (tc, 8, .inl tf))]) hD hS hA [0, 1] rfl
        refine va_calli (va_runV (As := [.int (-1000000004)]) (rest := []) ⟨hx, hb, hml, hown, hts⟩ (mf_none l dC dI ad h0 (.ref a0) v1 (.ref p0) v3 v4 t0 (.int y6_4) v7 v8 v9 v10 v11 v12 v13 v14 v15 v16 v17 v18 v19 v20 v21 v22 v23 v24 v25 v26 v27 tc tf H.size ) (cwV 1 hts g_m_harmless_mf_none_84 rfl rfl rfl (by decide +kernel) ⟨(Nat.le_of_ble_eq_true rfl), (Nat.le_of_ble_eq_true rfl)⟩) ⟨preM_blind, va_recv hKc hPc (ci := 7) (q0 := 0) rfl rfl, fun U hU hW => ⟨rfl, preM_at hU hW hPc hKc hDc hev⟩⟩ rfl rfl hl.1 rfl (lv_room (Nat.le_of_ble_eq_true rfl)) dX9_harmless_55 ⟨(Nat.le_of_ble_eq_true rfl), (Nat.le_of_ble_eq_true rfl)⟩) hS (fun q _ h => hFc q h) hFc (fun r_51 u t H1 locs ht hvm hw hB hz1 hk1 hS => ?_)
        obtain ⟨tg_52, hP1, hK1, hD1⟩ := hB
        rw [ht] at hP1
        have hK1 := va_K.moved hvm.symm hK1
        obtain ⟨hP, hD⟩ := va_join (wr := [(a0, .inl (ac, 38, .inl nf)), (p0, .inl (pc, 7, .inr (.inl pf)))]) (w1 := [(h0, .inr (7, [.ref a0, v1, .ref p0, v3, v4, .ref t0, .int y6_4, v7, v8, v9, v10, v11, v12, v13, v14, v15, v16, v17, v18, v19, v20, v21, v22, v23, v24, v25, v26, v27])), (t0, .inl (tc, 8, .inl tg_52))]) hP hD [0, 1] [2, 3] rfl rfl (by decide) (by decide) hk1 hFc hP1 hD1
        generalize H1 = H at hP hS ⊢
        have hP : va_P (dC, dI) vwCl [(a0, .inl (ac, 38, .inl nf)), (p0, .inl (pc, 7, .inr (.inl pf))), (h0, .inr (7, [.ref a0, v1, .ref p0, v3, v4, .ref t0, .int y6_4, v7, v8, v9, v10, v11, v12, v13, v14, v15, v16, v17, v18, v19, v20, v21, v22, v23, v24, v25, v26, v27])), (t0, .inl (tc, 8, .inl tg_52))] H := hP
        have hD : va_D A [(a0, .inl (ac, 38, .inl nf)), (p0, .inl (pc, 7, .inr (.inl pf))), (h0, .inr (7, [.ref a0, v1, .ref p0, v3, v4, .ref t0, .int y6_4, v7, v8, v9, v10, v11, v12, v13, v14, v15, v16, v17, v18, v19, v20, v21, v22, v23, v24, v25, v26, v27])), (t0, .inl (tc, 8, .inl tg_52))] := hD
        subst hw
        have hP9 := hP.sub (ws' := [(h0, .inr (7, [.ref a0, v1, .ref p0, v3, v4, .ref t0, .int y6_4, v7, v8, v9, v10, v11, v12, v13, v14, v15, v16, v17, v18, v19, v20, v21, v22, v23, v24, v25, v26, v27])), (t0, .inl (tc, 8, .inl tg_52)), (a0, .inl (ac, 38, .inl nf)), (p0, .inl (pc, 7, .inr (.inl pf)))]) [2, 3, 0, 1] rfl
        have hD9 := hD.sub (ws' := [(h0, .inr (7, [.ref a0, v1, .ref p0, v3, v4, .ref t0, .int y6_4, v7, v8, v9, v10, v11, v12, v13, v14, v15, v16, v17, v18, v19, v20, v21, v22, v23, v24, v25, v26, v27])), (t0, .inl (tc, 8, .inl tg_52)), (a0, .inl (ac, 38, .inl nf)), (p0, .inl (pc, 7, .inr (.inl pf)))]) [2, 3, 0, 1] (by decide) rfl
        have hK9 := hK.sub (tys' := [(tc, .int), (ac, .int), (pc, .long)]) [0, 1, 2] rfl
        exact W.iret (v := ((-1000000004) : Int32)) hx hb hr (fun t ht hW => ⟨⟨((-1000000004) : Int32), (), rfl, trivial, tg_52, y6_4, by rw [ht]; exact hP9, va_K.moved hW.alike hK9, hD9⟩, hS.F ht⟩) hS.2.2 dX9_harmless_58
  · skip
    have tc_3 : ¬ n_2.toInt ≤ v2_4.toInt := fun h => c_3 ((fa_le _ _).mpr h)
    refine lv_iload_n hx hb dX9_harmless_14 rfl (lv_at hl 1 rfl) ?_
    refine lv_aload_n hx hb dX9_harmless_15 rfl (lv_at hl 2 rfl) ?_
    refine lv_iload_n hx hb dX9_harmless_16 rfl (lv_at hl 0 rfl) ?_
    refine lv_iconst (v := 2) hx hb dX9_harmless_17 (by decide) ?_
    have hPc := hP.sub (ws' := [(h0, .inr (7, [.ref a0, v1, .ref p0, v3, v4, .ref t0, .int y6_4, v7, v8, v9, v10, v11, v12, v13, v14, v15, v16, v17, v18, v19, v20, v21, v22, v23, v24, v25, v26, v27])), (a0, .inl (ac, 38, .inl nf))]) [0, 2] rfl
    have hKc := hK.sub (tys' := [(ac, .int)]) [1] rfl
    refine vp_callSi (W.runV (As := [.int v2_4, .int 2]) (rest := [.int v1_4]) ⟨hx, hb, hml, hown, hts⟩ (m_shapeIs l dC dI ad h0 v2_4 2 a0 v1 (.ref p0) v3 v4 (.ref t0) (.int y6_4) v7 v8 v9 v10 v11 v12 v13 v14 v15 v16 v17 v18 v19 v20 v21 v22 v23 v24 v25 v26 v27 ac nf (by first | omega | decide | (simp only [fa_lt, fa_le, fa_eq, and_true, true_and, and_false, false_and, not_true_eq_false, not_false_eq_true, li_0, li_1, li_2, li_3, li_4, li_5, li_6, li_7, li_8, li_9, li_10, li_12, li_15, li_16, li_20, li_30, li_34, li_38, li_40, li_63, li_64, li_65, li_78, li_120, li_1000, li_4000, li_10000, li_11077, li_255, li_65535, li_m1, li_m2, li_m1000000001, li_m1000000002, li_m1000000003, li_m1000000004, li_m1000000005, li_m1000000006, li_m1000000007, or_true, true_or, or_false, false_or, implies_true, true_implies, false_implies] <;> omega)) (by first | omega | decide | (simp only [fa_lt, fa_le, fa_eq, and_true, true_and, and_false, false_and, not_true_eq_false, not_false_eq_true, li_0, li_1, li_2, li_3, li_4, li_5, li_6, li_7, li_8, li_9, li_10, li_12, li_15, li_16, li_20, li_30, li_34, li_38, li_40, li_63, li_64, li_65, li_78, li_120, li_1000, li_4000, li_10000, li_11077, li_255, li_65535, li_m1, li_m2, li_m1000000001, li_m1000000002, li_m1000000003, li_m1000000004, li_m1000000005, li_m1000000006, li_m1000000007, or_true, true_or, or_false, false_or, implies_true, true_implies, false_implies] <;> omega))) (cwV 2 hts g_m_harmless_m_shapeIs_99 rfl rfl rfl (by decide +kernel) ⟨(Nat.le_of_ble_eq_true rfl), (Nat.le_of_ble_eq_true rfl)⟩) ⟨preS_blind, va_recv hKc hPc (ci := 7) (q0 := 0) rfl rfl, fun U hU hW => ⟨rfl, preS_at hU hW hPc hKc hev⟩⟩ rfl rfl hl.1 rfl (lv_room (Nat.le_of_ble_eq_true rfl)) dX9_harmless_18 ⟨(Nat.le_of_ble_eq_true rfl), (Nat.le_of_ble_eq_true rfl)⟩) (fun r_53 hw => ?_)
    refine lv_if_ne (tgt := 30) hx hb dX9_harmless_21 (by decide) (fun c_54 => ?_) (fun c_54 => ?_)
    · skip
      have tc_54 : ¬ r_53.toInt = 0 := fun h => c_54 ((fa_eq _ _).mpr h)
      refine lv_iconst (v := 0) hx hb dX9_harmless_30 (by decide) ?_
      refine lv_ior hx hb dX9_harmless_31 ?_
      refine lv_topi (fun n_55 en_55 => ?_)
      clear en_55
      refine lv_istore_n (lv' := [(1, .int n_55), (2, .int v2_4), (0, .ref h0)]) hx hb dX9_harmless_32 rfl hl (by decide) rfl (fun ls hl => ?_)
      obtain ⟨n_56, en_56⟩ : ∃ y : Int32, y = v2_4 + 1 := ⟨_, rfl⟩
      have tn_56 : n_56.toInt = v2_4.toInt + 1 := pp_add en_56 rfl rfl (by omega) (by omega)
      refine lv_iinc (v := n_56) (lv' := [(2, .int n_56), (1, .int n_55), (0, .ref h0)]) hx hb dX9_harmless_33 hl (k := 1) rfl (by rw [en_56]; rfl) (by decide) rfl (fun ls hl => ?_)
      clear en_56
      refine lv_goto (tgt := 4) hx hb dX9_harmless_36 (by decide) ?_
      exact ihk_1 (n_56, n_55, y6_4) _ _ _ (by show ((nf 0).toInt - n_56.toInt).toNat < k_1; omega) ⟨(by first | omega | decide | (simp only [fa_lt, fa_le, fa_eq, and_true, true_and, and_false, false_and, not_true_eq_false, not_false_eq_true, li_0, li_1, li_2, li_3, li_4, li_5, li_6, li_7, li_8, li_9, li_10, li_12, li_15, li_16, li_20, li_30, li_34, li_38, li_40, li_63, li_64, li_65, li_78, li_120, li_1000, li_4000, li_10000, li_11077, li_255, li_65535, li_m1, li_m2, li_m1000000001, li_m1000000002, li_m1000000003, li_m1000000004, li_m1000000005, li_m1000000006, li_m1000000007, or_true, true_or, or_false, false_or, implies_true, true_implies, false_implies] <;> omega)), hP.sub [0, 1, 2, 3] rfl, hD.sub [0, 1, 2, 3] (by decide) rfl, hS, lv_sub hl [0, 1, 2] rfl⟩
    · skip
      have tc_54 : r_53.toInt = 0 := (fa_eq _ _).mp c_54
      refine lv_iconst (v := 1) hx hb dX9_harmless_24 (by decide) ?_
      refine lv_iload_n hx hb dX9_harmless_25 rfl (lv_at hl 0 rfl) ?_
      refine lv_ishl hx hb dX9_harmless_26 ?_
      refine lv_topi (fun n_57 en_57 => ?_)
      clear en_57
      refine lv_goto (tgt := 31) hx hb dX9_harmless_27 (by decide) ?_
      refine lv_ior hx hb dX9_harmless_31 ?_
      refine lv_topi (fun n_58 en_58 => ?_)
      clear en_58
      refine lv_istore_n (lv' := [(1, .int n_58), (2, .int v2_4), (0, .ref h0)]) hx hb dX9_harmless_32 rfl hl (by decide) rfl (fun ls hl => ?_)
      obtain ⟨n_59, en_59⟩ : ∃ y : Int32, y = v2_4 + 1 := ⟨_, rfl⟩
      have tn_59 : n_59.toInt = v2_4.toInt + 1 := pp_add en_59 rfl rfl (by omega) (by omega)
      refine lv_iinc (v := n_59) (lv' := [(2, .int n_59), (1, .int n_58), (0, .ref h0)]) hx hb dX9_harmless_33 hl (k := 1) rfl (by rw [en_59]; rfl) (by decide) rfl (fun ls hl => ?_)
      clear en_59
      refine lv_goto (tgt := 4) hx hb dX9_harmless_36 (by decide) ?_
      exact ihk_1 (n_59, n_58, y6_4) _ _ _ (by show ((nf 0).toInt - n_59.toInt).toNat < k_1; omega) ⟨(by first | omega | decide | (simp only [fa_lt, fa_le, fa_eq, and_true, true_and, and_false, false_and, not_true_eq_false, not_false_eq_true, li_0, li_1, li_2, li_3, li_4, li_5, li_6, li_7, li_8, li_9, li_10, li_12, li_15, li_16, li_20, li_30, li_34, li_38, li_40, li_63, li_64, li_65, li_78, li_120, li_1000, li_4000, li_10000, li_11077, li_255, li_65535, li_m1, li_m2, li_m1000000001, li_m1000000002, li_m1000000003, li_m1000000004, li_m1000000005, li_m1000000006, li_m1000000007, or_true, true_or, or_false, false_or, implies_true, true_implies, false_implies] <;> omega)), hP.sub [0, 1, 2, 3] rfl, hD.sub [0, 1, 2, 3] (by decide) rfl, hS, lv_sub hl [0, 1, 2] rfl⟩

def w_m_fits : List Cond := .code yX9_fits cX9_fits 7 (some .int) :: (([.methodLink RX9 93 yX9_isShape, .instanceMethod yX9_isShape, .selects RX9 yX9_isShape yX9_isShape, .initialized RX9, .code yX9_isShape cX9_isShape 2 (some .boolean), .fieldLink RX9 9 "LampShapesModel" "now" "[I", .methodLink RX9 75 yX9_within, .static yX9_within, .code yX9_within cX9_within 3 (some .boolean), .constant RX9 74 (-1000000001), .methodLink RX9 84 yX9_finding, .instanceMethod yX9_finding, .selects RX9 yX9_finding yX9_finding, .code yX9_finding cX9_finding 2 (some .int), .fieldLink RX9 23 "LampShapesModel" "found" "[I", .methodLink RX9 155 yX9_isScene, .instanceMethod yX9_isScene, .selects RX9 yX9_isScene yX9_isScene, .code yX9_isScene cX9_isScene 2 (some .boolean), .methodLink RX9 164 yX9_isAllowed, .instanceMethod yX9_isAllowed, .selects RX9 yX9_isAllowed yX9_isAllowed, .code yX9_isAllowed cX9_isAllowed 2 (some .boolean), .methodLink RX9 126 yX9_isPlacing, .static yX9_isPlacing, .code yX9_isPlacing cX9_isPlacing 1 (some .boolean), .methodLink RX9 129 yX9_shadowOf, .instanceMethod yX9_shadowOf, .selects RX9 yX9_shadowOf yX9_shadowOf, .code yX9_shadowOf cX9_shadowOf 11 (some .long), .methodLink RX9 99 yX9_shapeIs, .instanceMethod yX9_shapeIs, .selects RX9 yX9_shapeIs yX9_shapeIs, .code yX9_shapeIs cX9_shapeIs 3 (some .int), .methodLink RX9 122 yX9_throwsOf, .static yX9_throwsOf, .code yX9_throwsOf cX9_throwsOf 8 (some .int), .methodLink RX9 112 yX9_mirrored, .static yX9_mirrored, .code yX9_mirrored cX9_mirrored 5 (some .int), .methodLink RX9 109 yX9_has, .static yX9_has, .code yX9_has cX9_has 3 (some .boolean), .methodLink RX9 114 yX9_turned, .static yX9_turned, .code yX9_turned cX9_turned 7 (some .int), .methodLink RX9 119 yX9_isBetween, .static yX9_isBetween, .code yX9_isBetween cX9_isBetween 6 (some .boolean), .methodLink RX9 116 yX9_isInner, .static yX9_isInner, .code yX9_isInner cX9_isInner 3 (some .boolean), .fieldLink RX9 16 "LampShapesModel" "pictures" "[J", .constantLong RX9 144 (-1)] : List Cond) ++ wsX90)
set_option maxRecDepth 20000 in
theorem g_m_fits_m_isShape_93 : GoodIn w_m_fits (wsV RX9 93 RX9 yX9_isShape w_m_isShape) := goodIn_r _ [1, 2, 3, 4, 5, 6, 7, 8, 4, 9, 55, 56, 57, 58, 59, 60, 61, 62, 63, 64, 65, 66, 67, 68, 69, 70, 71, 72, 73, 74, 75, 76, 77, 78, 79, 80, 81, 82] rfl (by decide +kernel)
set_option maxRecDepth 20000 in
theorem g_m_fits_mf_beyond_84 : GoodIn w_m_fits (wsV RX9 84 RX9 yX9_finding w_mf_beyond) := goodIn_r _ [11, 12, 13, 4, 14, 15, 10, 55, 56, 57, 58, 59, 60, 61, 62, 63, 64, 65, 66, 67, 68, 69, 70, 71, 72, 73, 74, 75, 76, 77, 78, 79, 80, 81, 82] rfl (by decide +kernel)
set_option maxRecDepth 20000 in
theorem g_m_fits_m_isScene_155 : GoodIn w_m_fits (wsV RX9 155 RX9 yX9_isScene w_m_isScene) := goodIn_r _ [16, 17, 18, 4, 19, 6, 7, 8, 4, 9, 55, 56, 57, 58, 59, 60, 61, 62, 63, 64, 65, 66, 67, 68, 69, 70, 71, 72, 73, 74, 75, 76, 77, 78, 79, 80, 81, 82] rfl (by decide +kernel)
set_option maxRecDepth 20000 in
theorem g_m_fits_m_isAllowed_164 : GoodIn w_m_fits (wsV RX9 164 RX9 yX9_isAllowed w_m_isAllowed) := goodIn_r _ [20, 21, 22, 4, 23, 24, 25, 4, 26, 7, 8, 9, 6, 55, 56, 57, 58, 59, 60, 61, 62, 63, 64, 65, 66, 67, 68, 69, 70, 71, 72, 73, 74, 75, 76, 77, 78, 79, 80, 81, 82] rfl (by decide +kernel)
set_option maxRecDepth 20000 in
theorem g_m_fits_m_shadowOf_129 : GoodIn w_m_fits (wsV RX9 129 RX9 yX9_shadowOf w_m_shadowOf) := goodIn_r _ [27, 28, 29, 4, 30, 31, 32, 33, 4, 34, 6, 35, 36, 37, 38, 39, 40, 41, 42, 43, 7, 8, 9, 44, 45, 46, 47, 48, 49, 50, 51, 52, 55, 56, 57, 58, 59, 60, 61, 62, 63, 64, 65, 66, 67, 68, 69, 70, 71, 72, 73, 74, 75, 76, 77, 78, 79, 80, 81, 82] rfl (by decide +kernel)
set_option maxHeartbeats 4000000 in
set_option maxRecDepth 100000 in
theorem m_fits (l : Launch) (dC : Nat → ClassId) (dI : Nat → Nat → Nat) (ad : Nat → Nat) (h0 : Nat) (a : Int32) (b : Int32) (a0 : Nat) (v1 : Value) (p0 : Nat) (v3 : Value) (v4 : Value) (t0 : Nat) (v6 : Value) (v7 : Value) (v8 : Value) (v9 : Value) (v10 : Value) (v11 : Value) (v12 : Value) (v13 : Value) (v14 : Value) (v15 : Value) (v16 : Value) (v17 : Value) (v18 : Value) (v19 : Value) (v20 : Value) (v21 : Value) (v22 : Value) (v23 : Value) (v24 : Value) (v25 : Value) (v26 : Value) (v27 : Value) (tc : ClassId) (tf : Nat → Int32) (ac : ClassId) (nf : Nat → Int32) (pc : ClassId) (pf : Nat → Int64) (sz : Nat) (hI : mI nf) : Met l yX9_fits w_m_fits ({ frames := 5, cells := 0, slots := 0, locals := 127 } : Room) (va_Pc [.ref h0, .int a, .int b] (preM dC dI ad [(tc, .int), (ac, .int), (pc, .long)] [(h0, .inr (7, [.ref a0, v1, .ref p0, v3, v4, .ref t0, v6, v7, v8, v9, v10, v11, v12, v13, v14, v15, v16, v17, v18, v19, v20, v21, v22, v23, v24, v25, v26, v27])), (t0, .inl (tc, 8, .inl tf)), (a0, .inl (ac, 38, .inl nf)), (p0, .inl (pc, 7, .inr (.inl pf)))] sz)) (va_Qi (fun (r : Int32) (_ : Unit) => True) (fun _ t => ∃ (tg : Nat → Int32), va_P (dC, dI) vwCl [(h0, .inr (7, [.ref a0, v1, .ref p0, v3, v4, .ref t0, v6, v7, v8, v9, v10, v11, v12, v13, v14, v15, v16, v17, v18, v19, v20, v21, v22, v23, v24, v25, v26, v27])), (t0, .inl (tc, 8, .inl tg)), (a0, .inl (ac, 38, .inl nf)), (p0, .inl (pc, 7, .inr (.inl pf)))] t.heap ∧ va_K (dC, dI) vwCl [(tc, .int), (ac, .int), (pc, .long)] t ∧ va_D (va_A [(h0, .inr (7, [.ref a0, v1, .ref p0, v3, v4, .ref t0, v6, v7, v8, v9, v10, v11, v12, v13, v14, v15, v16, v17, v18, v19, v20, v21, v22, v23, v24, v25, v26, v27])), (t0, .inl (tc, 8, .inl tf)), (a0, .inl (ac, 38, .inl nf)), (p0, .inl (pc, 7, .inr (.inl pf)))] sz) [(h0, .inr (7, [.ref a0, v1, .ref p0, v3, v4, .ref t0, v6, v7, v8, v9, v10, v11, v12, v13, v14, v15, v16, v17, v18, v19, v20, v21, v22, v23, v24, v25, v26, v27])), (t0, .inl (tc, 8, .inl tg)), (a0, .inl (ac, 38, .inl nf)), (p0, .inl (pc, 7, .inr (.inl pf)))]) (va_A [(h0, .inr (7, [.ref a0, v1, .ref p0, v3, v4, .ref t0, v6, v7, v8, v9, v10, v11, v12, v13, v14, v15, v16, v17, v18, v19, v20, v21, v22, v23, v24, v25, v26, v27])), (t0, .inl (tc, 8, .inl tf)), (a0, .inl (ac, 38, .inl nf)), (p0, .inl (pc, 7, .inr (.inl pf)))] sz)) 0 0 (va_A [(h0, .inr (7, [.ref a0, v1, .ref p0, v3, v4, .ref t0, v6, v7, v8, v9, v10, v11, v12, v13, v14, v15, v16, v17, v18, v19, v20, v21, v22, v23, v24, v25, v26, v27])), (t0, .inl (tc, 8, .inl tf)), (a0, .inl (ac, 38, .inl nf)), (p0, .inl (pc, 7, .inr (.inl pf)))] sz) := by
  refine Met.ofW (cc := cX9_fits) (maxL := 7) (ret := (some .int)) (by decide) rfl ?_
  intro p e s m args below meth c s₁ B hml hv
  obtain ⟨rfl, hsz, hP, hK, hD0, hev⟩ := hv
  have hx := B.exec
  have hb := B.bytes
  have hr := B.returns
  have hts := atoms_spec (ws := w_m_fits) B.pre
  have hown : s.vm.findClass RX9 = some m.cls := findClass_of_methodNamed B.named
  have hlocks := B.notSynchronized
  have inX9 : ∀ w ∈ wsX90, w ∈ w_m_fits := fun w h => List.mem_cons_of_mem _ (List.mem_append_right _ h)
  subst hsz
  have hD := hD0.self (sz := s.heap.size)
  generalize hAe : va_A [(h0, .inr (7, [.ref a0, v1, .ref p0, v3, v4, .ref t0, v6, v7, v8, v9, v10, v11, v12, v13, v14, v15, v16, v17, v18, v19, v20, v21, v22, v23, v24, v25, v26, v27])), (t0, .inl (tc, 8, .inl tf)), (a0, .inl (ac, 38, .inl nf)), (p0, .inl (pc, 7, .inr (.inl pf)))] s.heap.size = A at hD ⊢
  have hA : ∀ q : Nat, s.heap.size ≤ q → A q := fun q h => by rw [← hAe]; exact Or.inr h
  have hS : va_S A s.heap s.heap [] := va_S.rf
  have hP : va_P (dC, dI) vwCl [(h0, .inr (7, [.ref a0, v1, .ref p0, v3, v4, .ref t0, v6, v7, v8, v9, v10, v11, v12, v13, v14, v15, v16, v17, v18, v19, v20, v21, v22, v23, v24, v25, v26, v27])), (t0, .inl (tc, 8, .inl tf)), (a0, .inl (ac, 38, .inl nf)), (p0, .inl (pc, 7, .inr (.inl pf)))] s.heap := hP
  have hl := lv_entry ([.ref h0, .int a, .int b]) (n := 7) (Nat.le_of_ble_eq_true rfl)
  rw [lg_entry_eq]
  generalize (lg_sl ([.ref h0, .int a, .int b]) ++ List.replicate (7 - (lg_sl ([.ref h0, .int a, .int b])).length) Slot.unset).toArray = ls at hl ⊢
  have hl : lv_has ls 7 [(0, .ref h0), (1, .int a), (2, .int b)] := hl
  refine lv_aload_n hx hb dX9_fits_0 rfl (lv_at hl 0 rfl) ?_
  refine lv_iload_n hx hb dX9_fits_1 rfl (lv_at hl 1 rfl) ?_
  have hPc := hP.sub (ws' := [(h0, .inr (7, [.ref a0, v1, .ref p0, v3, v4, .ref t0, v6, v7, v8, v9, v10, v11, v12, v13, v14, v15, v16, v17, v18, v19, v20, v21, v22, v23, v24, v25, v26, v27])), (a0, .inl (ac, 38, .inl nf))]) [0, 2] rfl
  have hKc := hK.sub (tys' := [(ac, .int)]) [1] rfl
  refine vp_callSi (W.runV (As := [.int a]) (rest := []) ⟨hx, hb, hml, hown, hts⟩ (m_isShape l dC dI ad h0 a a0 v1 (.ref p0) v3 v4 (.ref t0) v6 v7 v8 v9 v10 v11 v12 v13 v14 v15 v16 v17 v18 v19 v20 v21 v22 v23 v24 v25 v26 v27 ac nf hI) (cwV 1 hts g_m_fits_m_isShape_93 rfl rfl rfl (by decide +kernel) ⟨(Nat.le_of_ble_eq_true rfl), (Nat.le_of_ble_eq_true rfl)⟩) ⟨preS_blind, va_recv hKc hPc (ci := 7) (q0 := 0) rfl rfl, fun U hU hW => ⟨rfl, preS_at hU hW hPc hKc hev⟩⟩ rfl rfl hl.1 rfl (lv_room (Nat.le_of_ble_eq_true rfl)) dX9_fits_2 ⟨(Nat.le_of_ble_eq_true rfl), (Nat.le_of_ble_eq_true rfl)⟩) (fun r_1 hw => ?_)
  have hr_1 : (r_1.toInt = 1 ∧ 0 ≤ a.toInt ∧ a.toInt < (nf 0).toInt ∧ a.toInt ≤ 8) ∨ r_1.toInt = 0 := hw
  refine lv_if_eq (tgt := 16) hx hb dX9_fits_5 (by decide) (fun c_2 => ?_) (fun c_2 => ?_)
  · skip
    have tc_2 : r_1.toInt = 0 := (fa_eq _ _).mp c_2
    refine lv_aload_n hx hb dX9_fits_16 rfl (lv_at hl 0 rfl) ?_
    refine lv_ldc hx hb hown (hts _ (List.mem_of_getElem? (i := 10) rfl)) dX9_fits_17 ?_
    have hPc := hP.sub (ws' := [(h0, .inr (7, [.ref a0, v1, .ref p0, v3, v4, .ref t0, v6, v7, v8, v9, v10, v11, v12, v13, v14, v15, v16, v17, v18, v19, v20, v21, v22, v23, v24, v25, v26, v27])), (t0, .inl (tc, 8, .inl tf))]) [0, 1] rfl
    have hKc := hK.sub (tys' := [(tc, .int)]) [0] rfl
    have hDc := hD.sub (ws' := [(h0, .inr (7, [.ref a0, v1, .ref p0, v3, v4, .ref t0, v6, v7, v8, v9, v10, v11, v12, v13, v14, v15, v16, v17, v18, v19, v20, v21, v22, v23, v24, v25, v26, v27])), (t0, .inl (tc, 8, .inl tf))]) [0, 1] (by decide) rfl
    have hFc := va_free (wc := [(h0, .inr (7, [.ref a0, v1, .ref p0, v3, v4, .ref t0, v6, v7, v8, v9, v10, v11, v12, v13, v14, v15, v16, v17, v18, v19, v20, v21, v22, v23, v24, v25, v26, v27])), (t0, .inl (tc, 8, .inl tf))]) hD hS hA [0, 1] rfl
    refine va_calli (va_runV (As := [.int (-1000000001)]) (rest := []) ⟨hx, hb, hml, hown, hts⟩ (mf_beyond l dC dI ad h0 (.ref a0) v1 (.ref p0) v3 v4 t0 v6 v7 v8 v9 v10 v11 v12 v13 v14 v15 v16 v17 v18 v19 v20 v21 v22 v23 v24 v25 v26 v27 tc tf s.heap.size ) (cwV 1 hts g_m_fits_mf_beyond_84 rfl rfl rfl (by decide +kernel) ⟨(Nat.le_of_ble_eq_true rfl), (Nat.le_of_ble_eq_true rfl)⟩) ⟨preM_blind, va_recv hKc hPc (ci := 7) (q0 := 0) rfl rfl, fun U hU hW => ⟨rfl, preM_at hU hW hPc hKc hDc hev⟩⟩ rfl rfl hl.1 rfl (lv_room (Nat.le_of_ble_eq_true rfl)) dX9_fits_19 ⟨(Nat.le_of_ble_eq_true rfl), (Nat.le_of_ble_eq_true rfl)⟩) hS (fun q _ h => hFc q h) hFc (fun r_3 u t H1 locs ht hvm hw hB hz1 hk1 hS => ?_)
    obtain ⟨tg_4, hP1, hK1, hD1⟩ := hB
    rw [ht] at hP1
    have hK1 := va_K.moved hvm.symm hK1
    obtain ⟨hP, hD⟩ := va_join (wr := [(a0, .inl (ac, 38, .inl nf)), (p0, .inl (pc, 7, .inr (.inl pf)))]) (w1 := [(h0, .inr (7, [.ref a0, v1, .ref p0, v3, v4, .ref t0, v6, v7, v8, v9, v10, v11, v12, v13, v14, v15, v16, v17, v18, v19, v20, v21, v22, v23, v24, v25, v26, v27])), (t0, .inl (tc, 8, .inl tg_4))]) hP hD [0, 1] [2, 3] rfl rfl (by decide) (by decide) hk1 hFc hP1 hD1
    generalize H1 = H at hP hS ⊢
    have hP : va_P (dC, dI) vwCl [(a0, .inl (ac, 38, .inl nf)), (p0, .inl (pc, 7, .inr (.inl pf))), (h0, .inr (7, [.ref a0, v1, .ref p0, v3, v4, .ref t0, v6, v7, v8, v9, v10, v11, v12, v13, v14, v15, v16, v17, v18, v19, v20, v21, v22, v23, v24, v25, v26, v27])), (t0, .inl (tc, 8, .inl tg_4))] H := hP
    have hD : va_D A [(a0, .inl (ac, 38, .inl nf)), (p0, .inl (pc, 7, .inr (.inl pf))), (h0, .inr (7, [.ref a0, v1, .ref p0, v3, v4, .ref t0, v6, v7, v8, v9, v10, v11, v12, v13, v14, v15, v16, v17, v18, v19, v20, v21, v22, v23, v24, v25, v26, v27])), (t0, .inl (tc, 8, .inl tg_4))] := hD
    subst hw
    have hP9 := hP.sub (ws' := [(h0, .inr (7, [.ref a0, v1, .ref p0, v3, v4, .ref t0, v6, v7, v8, v9, v10, v11, v12, v13, v14, v15, v16, v17, v18, v19, v20, v21, v22, v23, v24, v25, v26, v27])), (t0, .inl (tc, 8, .inl tg_4)), (a0, .inl (ac, 38, .inl nf)), (p0, .inl (pc, 7, .inr (.inl pf)))]) [2, 3, 0, 1] rfl
    have hD9 := hD.sub (ws' := [(h0, .inr (7, [.ref a0, v1, .ref p0, v3, v4, .ref t0, v6, v7, v8, v9, v10, v11, v12, v13, v14, v15, v16, v17, v18, v19, v20, v21, v22, v23, v24, v25, v26, v27])), (t0, .inl (tc, 8, .inl tg_4)), (a0, .inl (ac, 38, .inl nf)), (p0, .inl (pc, 7, .inr (.inl pf)))]) [2, 3, 0, 1] (by decide) rfl
    have hK9 := hK.sub (tys' := [(tc, .int), (ac, .int), (pc, .long)]) [0, 1, 2] rfl
    exact W.iret (v := ((-1000000001) : Int32)) hx hb hr (fun t ht hW => ⟨⟨((-1000000001) : Int32), (), rfl, trivial, tg_4, by rw [ht]; exact hP9, va_K.moved hW.alike hK9, hD9⟩, hS.F ht⟩) hS.2.2 dX9_fits_22
  · skip
    have tc_2 : ¬ r_1.toInt = 0 := fun h => c_2 ((fa_eq _ _).mpr h)
    have i_5 : 0 ≤ a.toInt ∧ a.toInt < (nf 0).toInt ∧ a.toInt ≤ 8 := by omega
    refine lv_aload_n hx hb dX9_fits_8 rfl (lv_at hl 0 rfl) ?_
    refine lv_iload_n hx hb dX9_fits_9 rfl (lv_at hl 2 rfl) ?_
    have hPc := hP.sub (ws' := [(h0, .inr (7, [.ref a0, v1, .ref p0, v3, v4, .ref t0, v6, v7, v8, v9, v10, v11, v12, v13, v14, v15, v16, v17, v18, v19, v20, v21, v22, v23, v24, v25, v26, v27])), (a0, .inl (ac, 38, .inl nf))]) [0, 2] rfl
    have hKc := hK.sub (tys' := [(ac, .int)]) [1] rfl
    refine vp_callSi (W.runV (As := [.int b]) (rest := []) ⟨hx, hb, hml, hown, hts⟩ (m_isScene l dC dI ad h0 b a0 v1 (.ref p0) v3 v4 (.ref t0) v6 v7 v8 v9 v10 v11 v12 v13 v14 v15 v16 v17 v18 v19 v20 v21 v22 v23 v24 v25 v26 v27 ac nf hI) (cwV 1 hts g_m_fits_m_isScene_155 rfl rfl rfl (by decide +kernel) ⟨(Nat.le_of_ble_eq_true rfl), (Nat.le_of_ble_eq_true rfl)⟩) ⟨preS_blind, va_recv hKc hPc (ci := 7) (q0 := 0) rfl rfl, fun U hU hW => ⟨rfl, preS_at hU hW hPc hKc hev⟩⟩ rfl rfl hl.1 rfl (lv_room (Nat.le_of_ble_eq_true rfl)) dX9_fits_10 ⟨(Nat.le_of_ble_eq_true rfl), (Nat.le_of_ble_eq_true rfl)⟩) (fun r_6 hw => ?_)
    have hr_6 : (r_6.toInt = 1 ∧ 0 ≤ b.toInt ∧ b.toInt < (nf 1).toInt ∧ b.toInt ≤ 6) ∨ r_6.toInt = 0 := hw
    refine lv_if_ne (tgt := 23) hx hb dX9_fits_13 (by decide) (fun c_7 => ?_) (fun c_7 => ?_)
    · skip
      have tc_7 : ¬ r_6.toInt = 0 := fun h => c_7 ((fa_eq _ _).mpr h)
      have i_8 : 0 ≤ b.toInt ∧ b.toInt < (nf 1).toInt ∧ b.toInt ≤ 6 := by omega
      refine lv_iconst (v := 0) hx hb dX9_fits_23 (by decide) ?_
      refine lv_istore_n (lv' := [(3, .int 0), (0, .ref h0), (1, .int a), (2, .int b)]) hx hb dX9_fits_24 rfl hl (by decide) rfl (fun ls hl => ?_)
      refine lv_sipush (v := 4000) hx hb dX9_fits_25 (by decide) ?_
      refine lv_istore (lv' := [(4, .int 4000), (3, .int 0), (0, .ref h0), (1, .int a), (2, .int b)]) hx hb dX9_fits_28 hl (by decide) rfl (fun ls hl => ?_)
      refine pp_loop (ι := Int32 × Int32) (fun ⟨v4_30, v3_30⟩ => (11077 + 1 - v4_30.toInt).toNat) (fun ⟨v4_30, v3_30⟩ H locs ls => (4000 ≤ v4_30.toInt) ∧ (v4_30.toInt ≤ 11078) ∧ va_P (dC, dI) vwCl [(h0, .inr (7, [.ref a0, v1, .ref p0, v3, v4, .ref t0, v6, v7, v8, v9, v10, v11, v12, v13, v14, v15, v16, v17, v18, v19, v20, v21, v22, v23, v24, v25, v26, v27])), (t0, .inl (tc, 8, .inl tf)), (a0, .inl (ac, 38, .inl nf)), (p0, .inl (pc, 7, .inr (.inl pf)))] H ∧ va_D A [(h0, .inr (7, [.ref a0, v1, .ref p0, v3, v4, .ref t0, v6, v7, v8, v9, v10, v11, v12, v13, v14, v15, v16, v17, v18, v19, v20, v21, v22, v23, v24, v25, v26, v27])), (t0, .inl (tc, 8, .inl tf)), (a0, .inl (ac, 38, .inl nf)), (p0, .inl (pc, 7, .inr (.inl pf)))] ∧ va_S A s.heap H locs ∧ lv_has ls 7 [(4, .int v4_30), (3, .int v3_30), (0, .ref h0), (1, .int a), (2, .int b)]) ?_ (4000, 0) _ _ _ ⟨(by first | omega | decide | (simp only [fa_lt, fa_le, fa_eq, and_true, true_and, and_false, false_and, not_true_eq_false, not_false_eq_true, li_0, li_1, li_2, li_3, li_4, li_5, li_6, li_7, li_8, li_9, li_10, li_12, li_15, li_16, li_20, li_30, li_34, li_38, li_40, li_63, li_64, li_65, li_78, li_120, li_1000, li_4000, li_10000, li_11077, li_255, li_65535, li_m1, li_m2, li_m1000000001, li_m1000000002, li_m1000000003, li_m1000000004, li_m1000000005, li_m1000000006, li_m1000000007, or_true, true_or, or_false, false_or, implies_true, true_implies, false_implies] <;> omega)), (by first | omega | decide | (simp only [fa_lt, fa_le, fa_eq, and_true, true_and, and_false, false_and, not_true_eq_false, not_false_eq_true, li_0, li_1, li_2, li_3, li_4, li_5, li_6, li_7, li_8, li_9, li_10, li_12, li_15, li_16, li_20, li_30, li_34, li_38, li_40, li_63, li_64, li_65, li_78, li_120, li_1000, li_4000, li_10000, li_11077, li_255, li_65535, li_m1, li_m2, li_m1000000001, li_m1000000002, li_m1000000003, li_m1000000004, li_m1000000005, li_m1000000006, li_m1000000007, or_true, true_or, or_false, false_or, implies_true, true_implies, false_implies] <;> omega)), hP.sub [0, 1, 2, 3] rfl, hD.sub [0, 1, 2, 3] (by decide) rfl, hS, lv_sub hl [0, 1, 2, 3, 4] rfl⟩
      intro k_9 ihk_9 u H locs ls hm hI
      obtain ⟨v4_30, v3_30⟩ := u
      obtain ⟨jk_9_0, jk_9_1, hP, hD, hS, hl⟩ := hI
      have hmk_9 : (11077 + 1 - v4_30.toInt).toNat < k_9 + 1 := hm
      clear hm
      have jk_9_0 : 4000 ≤ v4_30.toInt := jk_9_0
      have jk_9_1 : v4_30.toInt ≤ 11078 := jk_9_1
      have hl : lv_has ls 7 [(4, .int v4_30), (3, .int v3_30), (0, .ref h0), (1, .int a), (2, .int b)] := hl
      have hP : va_P (dC, dI) vwCl [(h0, .inr (7, [.ref a0, v1, .ref p0, v3, v4, .ref t0, v6, v7, v8, v9, v10, v11, v12, v13, v14, v15, v16, v17, v18, v19, v20, v21, v22, v23, v24, v25, v26, v27])), (t0, .inl (tc, 8, .inl tf)), (a0, .inl (ac, 38, .inl nf)), (p0, .inl (pc, 7, .inr (.inl pf)))] H := hP
      have hD : va_D A [(h0, .inr (7, [.ref a0, v1, .ref p0, v3, v4, .ref t0, v6, v7, v8, v9, v10, v11, v12, v13, v14, v15, v16, v17, v18, v19, v20, v21, v22, v23, v24, v25, v26, v27])), (t0, .inl (tc, 8, .inl tf)), (a0, .inl (ac, 38, .inl nf)), (p0, .inl (pc, 7, .inr (.inl pf)))] := hD
      refine lv_iload hx hb dX9_fits_30 (lv_at hl 0 rfl) ?_
      refine lv_sipush (v := 11077) hx hb dX9_fits_32 (by decide) ?_
      refine lv_icmp_gt (tgt := 95) hx hb dX9_fits_35 (by decide) (fun c_10 => ?_) (fun c_10 => ?_)
      · skip
        have tc_10 : 11077 < v4_30.toInt := (fa_lt _ _).mp c_10
        refine lv_iload_n hx hb dX9_fits_95 rfl (lv_at hl 1 rfl) ?_
        have hP9 := hP.sub (ws' := [(h0, .inr (7, [.ref a0, v1, .ref p0, v3, v4, .ref t0, v6, v7, v8, v9, v10, v11, v12, v13, v14, v15, v16, v17, v18, v19, v20, v21, v22, v23, v24, v25, v26, v27])), (t0, .inl (tc, 8, .inl tf)), (a0, .inl (ac, 38, .inl nf)), (p0, .inl (pc, 7, .inr (.inl pf)))]) [0, 1, 2, 3] rfl
        have hD9 := hD.sub (ws' := [(h0, .inr (7, [.ref a0, v1, .ref p0, v3, v4, .ref t0, v6, v7, v8, v9, v10, v11, v12, v13, v14, v15, v16, v17, v18, v19, v20, v21, v22, v23, v24, v25, v26, v27])), (t0, .inl (tc, 8, .inl tf)), (a0, .inl (ac, 38, .inl nf)), (p0, .inl (pc, 7, .inr (.inl pf)))]) [0, 1, 2, 3] (by decide) rfl
        have hK9 := hK.sub (tys' := [(tc, .int), (ac, .int), (pc, .long)]) [0, 1, 2] rfl
        exact W.iret (v := v3_30) hx hb hr (fun t ht hW => ⟨⟨v3_30, (), rfl, trivial, tf, by rw [ht]; exact hP9, va_K.moved hW.alike hK9, hD9⟩, hS.F ht⟩) hS.2.2 dX9_fits_96
      · skip
        have tc_10 : ¬ 11077 < v4_30.toInt := fun h => c_10 ((fa_lt _ _).mpr h)
        refine lv_aload_n hx hb dX9_fits_38 rfl (lv_at hl 2 rfl) ?_
        refine lv_iload hx hb dX9_fits_39 (lv_at hl 0 rfl) ?_
        have hPc := hP.sub (ws' := [(h0, .inr (7, [.ref a0, v1, .ref p0, v3, v4, .ref t0, v6, v7, v8, v9, v10, v11, v12, v13, v14, v15, v16, v17, v18, v19, v20, v21, v22, v23, v24, v25, v26, v27])), (a0, .inl (ac, 38, .inl nf))]) [0, 2] rfl
        have hKc := hK.sub (tys' := [(ac, .int)]) [1] rfl
        refine vp_callSi (W.runV (As := [.int v4_30]) (rest := []) ⟨hx, hb, hml, hown, hts⟩ (m_isAllowed l dC dI ad h0 v4_30 a0 v1 (.ref p0) v3 v4 (.ref t0) v6 v7 v8 v9 v10 v11 v12 v13 v14 v15 v16 v17 v18 v19 v20 v21 v22 v23 v24 v25 v26 v27 ac nf ) (cwV 1 hts g_m_fits_m_isAllowed_164 rfl rfl rfl (by decide +kernel) ⟨(Nat.le_of_ble_eq_true rfl), (Nat.le_of_ble_eq_true rfl)⟩) ⟨preS_blind, va_recv hKc hPc (ci := 7) (q0 := 0) rfl rfl, fun U hU hW => ⟨rfl, preS_at hU hW hPc hKc hev⟩⟩ rfl rfl hl.1 rfl (lv_room (Nat.le_of_ble_eq_true rfl)) dX9_fits_41 ⟨(Nat.le_of_ble_eq_true rfl), (Nat.le_of_ble_eq_true rfl)⟩) (fun r_11 hw => ?_)
        refine lv_if_eq (tgt := 89) hx hb dX9_fits_44 (by decide) (fun c_12 => ?_) (fun c_12 => ?_)
        · skip
          have tc_12 : r_11.toInt = 0 := (fa_eq _ _).mp c_12
          obtain ⟨n_13, en_13⟩ : ∃ y : Int32, y = v4_30 + 1 := ⟨_, rfl⟩
          have tn_13 : n_13.toInt = v4_30.toInt + 1 := pp_add en_13 rfl rfl (by omega) (by omega)
          refine lv_iinc (v := n_13) (lv' := [(4, .int n_13), (3, .int v3_30), (0, .ref h0), (1, .int a), (2, .int b)]) hx hb dX9_fits_89 hl (k := 0) rfl (by rw [en_13]; rfl) (by decide) rfl (fun ls hl => ?_)
          clear en_13
          refine lv_goto (tgt := 30) hx hb dX9_fits_92 (by decide) ?_
          exact ihk_9 (n_13, v3_30) _ _ _ (by show (11077 + 1 - n_13.toInt).toNat < k_9; omega) ⟨(by first | omega | decide | (simp only [fa_lt, fa_le, fa_eq, and_true, true_and, and_false, false_and, not_true_eq_false, not_false_eq_true, li_0, li_1, li_2, li_3, li_4, li_5, li_6, li_7, li_8, li_9, li_10, li_12, li_15, li_16, li_20, li_30, li_34, li_38, li_40, li_63, li_64, li_65, li_78, li_120, li_1000, li_4000, li_10000, li_11077, li_255, li_65535, li_m1, li_m2, li_m1000000001, li_m1000000002, li_m1000000003, li_m1000000004, li_m1000000005, li_m1000000006, li_m1000000007, or_true, true_or, or_false, false_or, implies_true, true_implies, false_implies] <;> omega)), (by first | omega | decide | (simp only [fa_lt, fa_le, fa_eq, and_true, true_and, and_false, false_and, not_true_eq_false, not_false_eq_true, li_0, li_1, li_2, li_3, li_4, li_5, li_6, li_7, li_8, li_9, li_10, li_12, li_15, li_16, li_20, li_30, li_34, li_38, li_40, li_63, li_64, li_65, li_78, li_120, li_1000, li_4000, li_10000, li_11077, li_255, li_65535, li_m1, li_m2, li_m1000000001, li_m1000000002, li_m1000000003, li_m1000000004, li_m1000000005, li_m1000000006, li_m1000000007, or_true, true_or, or_false, false_or, implies_true, true_implies, false_implies] <;> omega)), hP.sub [0, 1, 2, 3] rfl, hD.sub [0, 1, 2, 3] (by decide) rfl, hS, lv_sub hl [0, 1, 2, 3, 4] rfl⟩
        · skip
          have tc_12 : ¬ r_11.toInt = 0 := fun h => c_12 ((fa_eq _ _).mpr h)
          refine lv_aload_n hx hb dX9_fits_47 rfl (lv_at hl 2 rfl) ?_
          refine lv_iload_n hx hb dX9_fits_48 rfl (lv_at hl 3 rfl) ?_
          refine lv_iload hx hb dX9_fits_49 (lv_at hl 0 rfl) ?_
          have hPc := hP.sub (ws' := [(h0, .inr (7, [.ref a0, v1, .ref p0, v3, v4, .ref t0, v6, v7, v8, v9, v10, v11, v12, v13, v14, v15, v16, v17, v18, v19, v20, v21, v22, v23, v24, v25, v26, v27])), (a0, .inl (ac, 38, .inl nf))]) [0, 2] rfl
          have hKc := hK.sub (tys' := [(ac, .int)]) [1] rfl
          refine vp_callSl (W.runV (As := [.int a, .int v4_30]) (rest := []) ⟨hx, hb, hml, hown, hts⟩ (m_shadowOf l dC dI ad h0 a v4_30 a0 v1 (.ref p0) v3 v4 (.ref t0) v6 v7 v8 v9 v10 v11 v12 v13 v14 v15 v16 v17 v18 v19 v20 v21 v22 v23 v24 v25 v26 v27 ac nf (by first | omega | decide | (simp only [fa_lt, fa_le, fa_eq, and_true, true_and, and_false, false_and, not_true_eq_false, not_false_eq_true, li_0, li_1, li_2, li_3, li_4, li_5, li_6, li_7, li_8, li_9, li_10, li_12, li_15, li_16, li_20, li_30, li_34, li_38, li_40, li_63, li_64, li_65, li_78, li_120, li_1000, li_4000, li_10000, li_11077, li_255, li_65535, li_m1, li_m2, li_m1000000001, li_m1000000002, li_m1000000003, li_m1000000004, li_m1000000005, li_m1000000006, li_m1000000007, or_true, true_or, or_false, false_or, implies_true, true_implies, false_implies] <;> omega))) (cwV 2 hts g_m_fits_m_shadowOf_129 rfl rfl rfl (by decide +kernel) ⟨(Nat.le_of_ble_eq_true rfl), (Nat.le_of_ble_eq_true rfl)⟩) ⟨preS_blind, va_recv hKc hPc (ci := 7) (q0 := 0) rfl rfl, fun U hU hW => ⟨rfl, preS_at hU hW hPc hKc hev⟩⟩ rfl rfl hl.1 rfl (lv_room (Nat.le_of_ble_eq_true rfl)) dX9_fits_51 ⟨(Nat.le_of_ble_eq_true rfl), (Nat.le_of_ble_eq_true rfl)⟩) (fun r_14 hw => ?_)
          refine lv_lstore (lv' := [(5, .long r_14), (4, .int v4_30), (3, .int v3_30), (0, .ref h0), (1, .int a), (2, .int b)]) hx hb dX9_fits_54 hl (by decide) rfl (fun ls hl => ?_)
          refine lv_iload_n hx hb dX9_fits_56 rfl (lv_at hl 2 rfl) ?_
          refine lv_lload hx hb dX9_fits_57 (lv_at hl 0 rfl) ?_
          refine lv_lconst (v := 0) hx hb dX9_fits_59 (by decide) ?_
          refine W.lcmp hx hb dX9_fits_60 ?_
          refine lv_topi (fun n_15 en_15 => ?_)
          refine lv_if_eq (tgt := 86) hx hb dX9_fits_61 (by decide) (fun c_16 => ?_) (fun c_16 => ?_)
          · skip
            have tc_16 : n_15.toInt = 0 := (fa_eq _ _).mp c_16
            refine lv_iconst (v := 0) hx hb dX9_fits_86 (by decide) ?_
            refine lv_iadd hx hb dX9_fits_87 ?_
            refine lv_topi (fun n_17 en_17 => ?_)
            have tn_17 : n_17.toInt = v3_30.toInt + 0 := pp_add en_17 rfl rfl (by have := pp_rng v3_30; omega) (by have := pp_rng v3_30; omega)
            clear en_17
            refine lv_istore_n (lv' := [(3, .int n_17), (5, .long r_14), (4, .int v4_30), (0, .ref h0), (1, .int a), (2, .int b)]) hx hb dX9_fits_88 rfl hl (by decide) rfl (fun ls hl => ?_)
            obtain ⟨n_18, en_18⟩ : ∃ y : Int32, y = v4_30 + 1 := ⟨_, rfl⟩
            have tn_18 : n_18.toInt = v4_30.toInt + 1 := pp_add en_18 rfl rfl (by omega) (by omega)
            refine lv_iinc (v := n_18) (lv' := [(4, .int n_18), (3, .int n_17), (5, .long r_14), (0, .ref h0), (1, .int a), (2, .int b)]) hx hb dX9_fits_89 hl (k := 2) rfl (by rw [en_18]; rfl) (by decide) rfl (fun ls hl => ?_)
            clear en_18
            refine lv_goto (tgt := 30) hx hb dX9_fits_92 (by decide) ?_
            exact ihk_9 (n_18, n_17) _ _ _ (by show (11077 + 1 - n_18.toInt).toNat < k_9; omega) ⟨(by first | omega | decide | (simp only [fa_lt, fa_le, fa_eq, and_true, true_and, and_false, false_and, not_true_eq_false, not_false_eq_true, li_0, li_1, li_2, li_3, li_4, li_5, li_6, li_7, li_8, li_9, li_10, li_12, li_15, li_16, li_20, li_30, li_34, li_38, li_40, li_63, li_64, li_65, li_78, li_120, li_1000, li_4000, li_10000, li_11077, li_255, li_65535, li_m1, li_m2, li_m1000000001, li_m1000000002, li_m1000000003, li_m1000000004, li_m1000000005, li_m1000000006, li_m1000000007, or_true, true_or, or_false, false_or, implies_true, true_implies, false_implies] <;> omega)), (by first | omega | decide | (simp only [fa_lt, fa_le, fa_eq, and_true, true_and, and_false, false_and, not_true_eq_false, not_false_eq_true, li_0, li_1, li_2, li_3, li_4, li_5, li_6, li_7, li_8, li_9, li_10, li_12, li_15, li_16, li_20, li_30, li_34, li_38, li_40, li_63, li_64, li_65, li_78, li_120, li_1000, li_4000, li_10000, li_11077, li_255, li_65535, li_m1, li_m2, li_m1000000001, li_m1000000002, li_m1000000003, li_m1000000004, li_m1000000005, li_m1000000006, li_m1000000007, or_true, true_or, or_false, false_or, implies_true, true_implies, false_implies] <;> omega)), hP.sub [0, 1, 2, 3] rfl, hD.sub [0, 1, 2, 3] (by decide) rfl, hS, lv_sub hl [0, 1, 3, 4, 5] rfl⟩
          · skip
            have tc_16 : ¬ n_15.toInt = 0 := fun h => c_16 ((fa_eq _ _).mpr h)
            have zc_16 : ¬ r_14 = (0 : Int64) := pp_lc_ne en_15 c_16
            refine lv_lload hx hb dX9_fits_64 (lv_at hl 0 rfl) ?_
            refine lv_aload_n hx hb dX9_fits_66 rfl (lv_at hl 3 rfl) ?_
            refine va_get (D := (dC, dI)) (ci := 7) (v := .ref p0) (C := RX9) (T := TX9) (N := 28) hx hb hts inX9 hown hK hP 0 rfl rfl 2 (by decide) (hts _ (List.mem_of_getElem? (i := 53) rfl)) (fun _ h9 => h9) rfl dX9_fits_67 ?_
            refine lv_iload_n hx hb dX9_fits_70 rfl (lv_at hl 5 rfl) ?_
            refine va_lald hx hb hK hP 3 2 rfl rfl (vp_in_iff.mpr ⟨by omega, by omega⟩) dX9_fits_71 ?_
            refine lv_topl (fun n_19 en_19 => ?_)
            clear en_19
            refine lv_ldc2 hx hb hown (hts _ (List.mem_of_getElem? (i := 54) rfl)) dX9_fits_72 ?_
            refine lv_lxor hx hb dX9_fits_75 ?_
            refine lv_topl (fun n_20 en_20 => ?_)
            clear en_20
            refine lv_land hx hb dX9_fits_76 ?_
            refine lv_topl (fun n_21 en_21 => ?_)
            clear en_21
            refine lv_lconst (v := 0) hx hb dX9_fits_77 (by decide) ?_
            refine W.lcmp hx hb dX9_fits_78 ?_
            refine lv_topi (fun n_22 en_22 => ?_)
            refine lv_if_ne (tgt := 86) hx hb dX9_fits_79 (by decide) (fun c_23 => ?_) (fun c_23 => ?_)
            · skip
              have tc_23 : ¬ n_22.toInt = 0 := fun h => c_23 ((fa_eq _ _).mpr h)
              have zc_23 : ¬ n_21 = (0 : Int64) := pp_lc_ne en_22 c_23
              refine lv_iconst (v := 0) hx hb dX9_fits_86 (by decide) ?_
              refine lv_iadd hx hb dX9_fits_87 ?_
              refine lv_topi (fun n_24 en_24 => ?_)
              have tn_24 : n_24.toInt = v3_30.toInt + 0 := pp_add en_24 rfl rfl (by have := pp_rng v3_30; omega) (by have := pp_rng v3_30; omega)
              clear en_24
              refine lv_istore_n (lv' := [(3, .int n_24), (5, .long r_14), (4, .int v4_30), (0, .ref h0), (1, .int a), (2, .int b)]) hx hb dX9_fits_88 rfl hl (by decide) rfl (fun ls hl => ?_)
              obtain ⟨n_25, en_25⟩ : ∃ y : Int32, y = v4_30 + 1 := ⟨_, rfl⟩
              have tn_25 : n_25.toInt = v4_30.toInt + 1 := pp_add en_25 rfl rfl (by omega) (by omega)
              refine lv_iinc (v := n_25) (lv' := [(4, .int n_25), (3, .int n_24), (5, .long r_14), (0, .ref h0), (1, .int a), (2, .int b)]) hx hb dX9_fits_89 hl (k := 2) rfl (by rw [en_25]; rfl) (by decide) rfl (fun ls hl => ?_)
              clear en_25
              refine lv_goto (tgt := 30) hx hb dX9_fits_92 (by decide) ?_
              exact ihk_9 (n_25, n_24) _ _ _ (by show (11077 + 1 - n_25.toInt).toNat < k_9; omega) ⟨(by first | omega | decide | (simp only [fa_lt, fa_le, fa_eq, and_true, true_and, and_false, false_and, not_true_eq_false, not_false_eq_true, li_0, li_1, li_2, li_3, li_4, li_5, li_6, li_7, li_8, li_9, li_10, li_12, li_15, li_16, li_20, li_30, li_34, li_38, li_40, li_63, li_64, li_65, li_78, li_120, li_1000, li_4000, li_10000, li_11077, li_255, li_65535, li_m1, li_m2, li_m1000000001, li_m1000000002, li_m1000000003, li_m1000000004, li_m1000000005, li_m1000000006, li_m1000000007, or_true, true_or, or_false, false_or, implies_true, true_implies, false_implies] <;> omega)), (by first | omega | decide | (simp only [fa_lt, fa_le, fa_eq, and_true, true_and, and_false, false_and, not_true_eq_false, not_false_eq_true, li_0, li_1, li_2, li_3, li_4, li_5, li_6, li_7, li_8, li_9, li_10, li_12, li_15, li_16, li_20, li_30, li_34, li_38, li_40, li_63, li_64, li_65, li_78, li_120, li_1000, li_4000, li_10000, li_11077, li_255, li_65535, li_m1, li_m2, li_m1000000001, li_m1000000002, li_m1000000003, li_m1000000004, li_m1000000005, li_m1000000006, li_m1000000007, or_true, true_or, or_false, false_or, implies_true, true_implies, false_implies] <;> omega)), hP.sub [0, 1, 2, 3] rfl, hD.sub [0, 1, 2, 3] (by decide) rfl, hS, lv_sub hl [0, 1, 3, 4, 5] rfl⟩
            · skip
              have tc_23 : n_22.toInt = 0 := (fa_eq _ _).mp c_23
              refine lv_iconst (v := 1) hx hb dX9_fits_82 (by decide) ?_
              refine lv_goto (tgt := 87) hx hb dX9_fits_83 (by decide) ?_
              refine lv_iadd hx hb dX9_fits_87 ?_
              refine lv_topi (fun n_26 en_26 => ?_)
              clear en_26
              refine lv_istore_n (lv' := [(3, .int n_26), (5, .long r_14), (4, .int v4_30), (0, .ref h0), (1, .int a), (2, .int b)]) hx hb dX9_fits_88 rfl hl (by decide) rfl (fun ls hl => ?_)
              obtain ⟨n_27, en_27⟩ : ∃ y : Int32, y = v4_30 + 1 := ⟨_, rfl⟩
              have tn_27 : n_27.toInt = v4_30.toInt + 1 := pp_add en_27 rfl rfl (by omega) (by omega)
              refine lv_iinc (v := n_27) (lv' := [(4, .int n_27), (3, .int n_26), (5, .long r_14), (0, .ref h0), (1, .int a), (2, .int b)]) hx hb dX9_fits_89 hl (k := 2) rfl (by rw [en_27]; rfl) (by decide) rfl (fun ls hl => ?_)
              clear en_27
              refine lv_goto (tgt := 30) hx hb dX9_fits_92 (by decide) ?_
              exact ihk_9 (n_27, n_26) _ _ _ (by show (11077 + 1 - n_27.toInt).toNat < k_9; omega) ⟨(by first | omega | decide | (simp only [fa_lt, fa_le, fa_eq, and_true, true_and, and_false, false_and, not_true_eq_false, not_false_eq_true, li_0, li_1, li_2, li_3, li_4, li_5, li_6, li_7, li_8, li_9, li_10, li_12, li_15, li_16, li_20, li_30, li_34, li_38, li_40, li_63, li_64, li_65, li_78, li_120, li_1000, li_4000, li_10000, li_11077, li_255, li_65535, li_m1, li_m2, li_m1000000001, li_m1000000002, li_m1000000003, li_m1000000004, li_m1000000005, li_m1000000006, li_m1000000007, or_true, true_or, or_false, false_or, implies_true, true_implies, false_implies] <;> omega)), (by first | omega | decide | (simp only [fa_lt, fa_le, fa_eq, and_true, true_and, and_false, false_and, not_true_eq_false, not_false_eq_true, li_0, li_1, li_2, li_3, li_4, li_5, li_6, li_7, li_8, li_9, li_10, li_12, li_15, li_16, li_20, li_30, li_34, li_38, li_40, li_63, li_64, li_65, li_78, li_120, li_1000, li_4000, li_10000, li_11077, li_255, li_65535, li_m1, li_m2, li_m1000000001, li_m1000000002, li_m1000000003, li_m1000000004, li_m1000000005, li_m1000000006, li_m1000000007, or_true, true_or, or_false, false_or, implies_true, true_implies, false_implies] <;> omega)), hP.sub [0, 1, 2, 3] rfl, hD.sub [0, 1, 2, 3] (by decide) rfl, hS, lv_sub hl [0, 1, 3, 4, 5] rfl⟩
    · skip
      have tc_7 : r_6.toInt = 0 := (fa_eq _ _).mp c_7
      refine lv_aload_n hx hb dX9_fits_16 rfl (lv_at hl 0 rfl) ?_
      refine lv_ldc hx hb hown (hts _ (List.mem_of_getElem? (i := 10) rfl)) dX9_fits_17 ?_
      have hPc := hP.sub (ws' := [(h0, .inr (7, [.ref a0, v1, .ref p0, v3, v4, .ref t0, v6, v7, v8, v9, v10, v11, v12, v13, v14, v15, v16, v17, v18, v19, v20, v21, v22, v23, v24, v25, v26, v27])), (t0, .inl (tc, 8, .inl tf))]) [0, 1] rfl
      have hKc := hK.sub (tys' := [(tc, .int)]) [0] rfl
      have hDc := hD.sub (ws' := [(h0, .inr (7, [.ref a0, v1, .ref p0, v3, v4, .ref t0, v6, v7, v8, v9, v10, v11, v12, v13, v14, v15, v16, v17, v18, v19, v20, v21, v22, v23, v24, v25, v26, v27])), (t0, .inl (tc, 8, .inl tf))]) [0, 1] (by decide) rfl
      have hFc := va_free (wc := [(h0, .inr (7, [.ref a0, v1, .ref p0, v3, v4, .ref t0, v6, v7, v8, v9, v10, v11, v12, v13, v14, v15, v16, v17, v18, v19, v20, v21, v22, v23, v24, v25, v26, v27])), (t0, .inl (tc, 8, .inl tf))]) hD hS hA [0, 1] rfl
      refine va_calli (va_runV (As := [.int (-1000000001)]) (rest := []) ⟨hx, hb, hml, hown, hts⟩ (mf_beyond l dC dI ad h0 (.ref a0) v1 (.ref p0) v3 v4 t0 v6 v7 v8 v9 v10 v11 v12 v13 v14 v15 v16 v17 v18 v19 v20 v21 v22 v23 v24 v25 v26 v27 tc tf s.heap.size ) (cwV 1 hts g_m_fits_mf_beyond_84 rfl rfl rfl (by decide +kernel) ⟨(Nat.le_of_ble_eq_true rfl), (Nat.le_of_ble_eq_true rfl)⟩) ⟨preM_blind, va_recv hKc hPc (ci := 7) (q0 := 0) rfl rfl, fun U hU hW => ⟨rfl, preM_at hU hW hPc hKc hDc hev⟩⟩ rfl rfl hl.1 rfl (lv_room (Nat.le_of_ble_eq_true rfl)) dX9_fits_19 ⟨(Nat.le_of_ble_eq_true rfl), (Nat.le_of_ble_eq_true rfl)⟩) hS (fun q _ h => hFc q h) hFc (fun r_28 u t H1 locs ht hvm hw hB hz1 hk1 hS => ?_)
      obtain ⟨tg_29, hP1, hK1, hD1⟩ := hB
      rw [ht] at hP1
      have hK1 := va_K.moved hvm.symm hK1
      obtain ⟨hP, hD⟩ := va_join (wr := [(a0, .inl (ac, 38, .inl nf)), (p0, .inl (pc, 7, .inr (.inl pf)))]) (w1 := [(h0, .inr (7, [.ref a0, v1, .ref p0, v3, v4, .ref t0, v6, v7, v8, v9, v10, v11, v12, v13, v14, v15, v16, v17, v18, v19, v20, v21, v22, v23, v24, v25, v26, v27])), (t0, .inl (tc, 8, .inl tg_29))]) hP hD [0, 1] [2, 3] rfl rfl (by decide) (by decide) hk1 hFc hP1 hD1
      generalize H1 = H at hP hS ⊢
      have hP : va_P (dC, dI) vwCl [(a0, .inl (ac, 38, .inl nf)), (p0, .inl (pc, 7, .inr (.inl pf))), (h0, .inr (7, [.ref a0, v1, .ref p0, v3, v4, .ref t0, v6, v7, v8, v9, v10, v11, v12, v13, v14, v15, v16, v17, v18, v19, v20, v21, v22, v23, v24, v25, v26, v27])), (t0, .inl (tc, 8, .inl tg_29))] H := hP
      have hD : va_D A [(a0, .inl (ac, 38, .inl nf)), (p0, .inl (pc, 7, .inr (.inl pf))), (h0, .inr (7, [.ref a0, v1, .ref p0, v3, v4, .ref t0, v6, v7, v8, v9, v10, v11, v12, v13, v14, v15, v16, v17, v18, v19, v20, v21, v22, v23, v24, v25, v26, v27])), (t0, .inl (tc, 8, .inl tg_29))] := hD
      subst hw
      have hP9 := hP.sub (ws' := [(h0, .inr (7, [.ref a0, v1, .ref p0, v3, v4, .ref t0, v6, v7, v8, v9, v10, v11, v12, v13, v14, v15, v16, v17, v18, v19, v20, v21, v22, v23, v24, v25, v26, v27])), (t0, .inl (tc, 8, .inl tg_29)), (a0, .inl (ac, 38, .inl nf)), (p0, .inl (pc, 7, .inr (.inl pf)))]) [2, 3, 0, 1] rfl
      have hD9 := hD.sub (ws' := [(h0, .inr (7, [.ref a0, v1, .ref p0, v3, v4, .ref t0, v6, v7, v8, v9, v10, v11, v12, v13, v14, v15, v16, v17, v18, v19, v20, v21, v22, v23, v24, v25, v26, v27])), (t0, .inl (tc, 8, .inl tg_29)), (a0, .inl (ac, 38, .inl nf)), (p0, .inl (pc, 7, .inr (.inl pf)))]) [2, 3, 0, 1] (by decide) rfl
      have hK9 := hK.sub (tys' := [(tc, .int), (ac, .int), (pc, .long)]) [0, 1, 2] rfl
      exact W.iret (v := ((-1000000001) : Int32)) hx hb hr (fun t ht hW => ⟨⟨((-1000000001) : Int32), (), rfl, trivial, tg_29, by rw [ht]; exact hP9, va_K.moved hW.alike hK9, hD9⟩, hS.F ht⟩) hS.2.2 dX9_fits_22

def w_m_play : List Cond := .code yX9_play cX9_play 10 (some .int) :: (([.methodLink RX9 155 yX9_isScene, .instanceMethod yX9_isScene, .selects RX9 yX9_isScene yX9_isScene, .initialized RX9, .code yX9_isScene cX9_isScene 2 (some .boolean), .fieldLink RX9 9 "LampShapesModel" "now" "[I", .methodLink RX9 75 yX9_within, .static yX9_within, .code yX9_within cX9_within 3 (some .boolean), .methodLink RX9 71 yX9_dropAll, .instanceMethod yX9_dropAll, .selects RX9 yX9_dropAll yX9_dropAll, .code yX9_dropAll cX9_dropAll 2 none, .fieldLink RX9 16 "LampShapesModel" "pictures" "[J", .methodLink RX9 158 yX9_bits, .static yX9_bits, .code yX9_bits cX9_bits 5 (some .int), .methodLink RX9 96 yX9_holdOf, .instanceMethod yX9_holdOf, .selects RX9 yX9_holdOf yX9_holdOf, .code yX9_holdOf cX9_holdOf 4 (some .int), .methodLink RX9 146 yX9_dark, .instanceMethod yX9_dark, .selects RX9 yX9_dark yX9_dark, .code yX9_dark cX9_dark 1 (some .long), .methodLink RX9 141 yX9_darkBut, .instanceMethod yX9_darkBut, .selects RX9 yX9_darkBut yX9_darkBut, .code yX9_darkBut cX9_darkBut 5 (some .long), .methodLink RX9 137 yX9_shadowIn, .instanceMethod yX9_shadowIn, .selects RX9 yX9_shadowIn yX9_shadowIn, .code yX9_shadowIn cX9_shadowIn 3 (some .long), .methodLink RX9 99 yX9_shapeIs, .instanceMethod yX9_shapeIs, .selects RX9 yX9_shapeIs yX9_shapeIs, .code yX9_shapeIs cX9_shapeIs 3 (some .int), .methodLink RX9 129 yX9_shadowOf, .instanceMethod yX9_shadowOf, .selects RX9 yX9_shadowOf yX9_shadowOf, .code yX9_shadowOf cX9_shadowOf 11 (some .long), .methodLink RX9 122 yX9_throwsOf, .static yX9_throwsOf, .code yX9_throwsOf cX9_throwsOf 8 (some .int), .methodLink RX9 112 yX9_mirrored, .static yX9_mirrored, .code yX9_mirrored cX9_mirrored 5 (some .int), .methodLink RX9 109 yX9_has, .static yX9_has, .code yX9_has cX9_has 3 (some .boolean), .methodLink RX9 114 yX9_turned, .static yX9_turned, .code yX9_turned cX9_turned 7 (some .int), .methodLink RX9 119 yX9_isBetween, .static yX9_isBetween, .code yX9_isBetween cX9_isBetween 6 (some .boolean), .methodLink RX9 116 yX9_isInner, .static yX9_isInner, .code yX9_isInner cX9_isInner 3 (some .boolean), .methodLink RX9 134 yX9_holds, .instanceMethod yX9_holds, .selects RX9 yX9_holds yX9_holds, .code yX9_holds cX9_holds 5 (some .int), .methodLink RX9 176 yX9_nearestOff, .instanceMethod yX9_nearestOff, .selects RX9 yX9_nearestOff yX9_nearestOff, .code yX9_nearestOff cX9_nearestOff 9 (some .int), .methodLink RX9 164 yX9_isAllowed, .instanceMethod yX9_isAllowed, .selects RX9 yX9_isAllowed yX9_isAllowed, .code yX9_isAllowed cX9_isAllowed 2 (some .boolean), .methodLink RX9 126 yX9_isPlacing, .static yX9_isPlacing, .code yX9_isPlacing cX9_isPlacing 1 (some .boolean), .fieldLink RX9 167 "LampShapesModel" "nearestPlacing" "I", .methodLink RX9 171 Lib.Math.min.name, .static Lib.Math.min.name, .initialized "java/lang/Math", .code Lib.Math.min.name Lib.Math.min.code 2 (some .int), .constant RX9 74 (-1000000001), .methodLink RX9 84 yX9_finding, .instanceMethod yX9_finding, .selects RX9 yX9_finding yX9_finding, .code yX9_finding cX9_finding 2 (some .int), .fieldLink RX9 23 "LampShapesModel" "found" "[I"] : List Cond) ++ wsX90)
set_option maxRecDepth 20000 in
theorem g_m_play_m_isScene_155 : GoodIn w_m_play (wsV RX9 155 RX9 yX9_isScene w_m_isScene) := goodIn_r _ [1, 2, 3, 4, 5, 6, 7, 8, 4, 9, 86, 87, 88, 89, 90, 91, 92, 93, 94, 95, 96, 97, 98, 99, 100, 101, 102, 103, 104, 105, 106, 107, 108, 109, 110, 111, 112, 113] rfl (by decide +kernel)
set_option maxRecDepth 20000 in
theorem g_m_play_m_dropAll_71 : GoodIn w_m_play (wsV RX9 71 RX9 yX9_dropAll w_m_dropAll) := goodIn_r _ [10, 11, 12, 4, 13, 6, 86, 87, 88, 89, 90, 91, 92, 93, 94, 95, 96, 97, 98, 99, 100, 101, 102, 103, 104, 105, 106, 107, 108, 109, 110, 111, 112, 113] rfl (by decide +kernel)
set_option maxRecDepth 20000 in
theorem g_m_play_m_bits2_158 : GoodIn w_m_play (va_wsS RX9 158 yX9_bits w_m_bits2) := goodIn_r _ [15, 16, 4, 17] rfl (by decide +kernel)
set_option maxRecDepth 20000 in
theorem g_m_play_m_holdOf_96 : GoodIn w_m_play (wsV RX9 96 RX9 yX9_holdOf w_m_holdOf) := goodIn_r _ [18, 19, 20, 4, 21, 6, 86, 87, 88, 89, 90, 91, 92, 93, 94, 95, 96, 97, 98, 99, 100, 101, 102, 103, 104, 105, 106, 107, 108, 109, 110, 111, 112, 113] rfl (by decide +kernel)
set_option maxRecDepth 20000 in
theorem g_m_play_m_dark_146 : GoodIn w_m_play (wsV RX9 146 RX9 yX9_dark w_m_dark) := goodIn_r _ [22, 23, 24, 4, 25, 26, 27, 28, 4, 29, 30, 31, 32, 33, 6, 34, 35, 36, 37, 38, 39, 40, 41, 42, 43, 44, 45, 46, 47, 48, 49, 50, 7, 8, 9, 51, 52, 53, 54, 55, 56, 57, 58, 59, 86, 87, 88, 89, 90, 91, 92, 93, 94, 95, 96, 97, 98, 99, 100, 101, 102, 103, 104, 105, 106, 107, 108, 109, 110, 111, 112, 113] rfl (by decide +kernel)
set_option maxRecDepth 20000 in
theorem g_m_play_m_holds_134 : GoodIn w_m_play (wsV RX9 134 RX9 yX9_holds w_m_holds) := goodIn_r _ [60, 61, 62, 4, 63, 18, 19, 20, 4, 21, 6, 86, 87, 88, 89, 90, 91, 92, 93, 94, 95, 96, 97, 98, 99, 100, 101, 102, 103, 104, 105, 106, 107, 108, 109, 110, 111, 112, 113] rfl (by decide +kernel)
set_option maxRecDepth 20000 in
theorem g_m_play_m_shapeIs_99 : GoodIn w_m_play (wsV RX9 99 RX9 yX9_shapeIs w_m_shapeIs) := goodIn_r _ [34, 35, 36, 4, 37, 6, 86, 87, 88, 89, 90, 91, 92, 93, 94, 95, 96, 97, 98, 99, 100, 101, 102, 103, 104, 105, 106, 107, 108, 109, 110, 111, 112, 113] rfl (by decide +kernel)
set_option maxRecDepth 20000 in
theorem g_m_play_m_nearestOff_176 : GoodIn w_m_play (wsV RX9 176 RX9 yX9_nearestOff w_m_nearestOff) := goodIn_r _ [64, 65, 66, 4, 67, 68, 69, 70, 4, 71, 72, 73, 74, 7, 8, 9, 6, 38, 39, 40, 41, 34, 35, 36, 37, 42, 43, 44, 45, 46, 47, 48, 49, 50, 51, 52, 53, 54, 55, 56, 57, 58, 59, 15, 16, 17, 75, 76, 77, 78, 79, 86, 87, 88, 89, 90, 91, 92, 93, 94, 95, 96, 97, 98, 99, 100, 101, 102, 103, 104, 105, 106, 107, 108, 109, 110, 111, 112, 113] rfl (by decide +kernel)
set_option maxRecDepth 20000 in
theorem g_m_play_mf_beyond_84 : GoodIn w_m_play (wsV RX9 84 RX9 yX9_finding w_mf_beyond) := goodIn_r _ [81, 82, 83, 4, 84, 85, 80, 86, 87, 88, 89, 90, 91, 92, 93, 94, 95, 96, 97, 98, 99, 100, 101, 102, 103, 104, 105, 106, 107, 108, 109, 110, 111, 112, 113] rfl (by decide +kernel)
set_option maxHeartbeats 4000000 in
set_option maxRecDepth 100000 in
theorem m_play (l : Launch) (dC : Nat → ClassId) (dI : Nat → Nat → Nat) (ad : Nat → Nat) (h0 : Nat) (a : Int32) (a0 : Nat) (v1 : Value) (p0 : Nat) (v3 : Value) (v4 : Value) (t0 : Nat) (np : Int32) (v7 : Value) (v8 : Value) (v9 : Value) (v10 : Value) (v11 : Value) (v12 : Value) (v13 : Value) (v14 : Value) (v15 : Value) (v16 : Value) (v17 : Value) (v18 : Value) (v19 : Value) (v20 : Value) (v21 : Value) (v22 : Value) (v23 : Value) (v24 : Value) (v25 : Value) (v26 : Value) (v27 : Value) (tc : ClassId) (tf : Nat → Int32) (ac : ClassId) (nf : Nat → Int32) (pc : ClassId) (pf : Nat → Int64) (sz : Nat) (hI : mI nf) : Met l yX9_play w_m_play ({ frames := 8, cells := 0, slots := 0, locals := 193 } : Room) (va_Pc [.ref h0, .int a] (preM dC dI ad [(tc, .int), (ac, .int), (pc, .long)] [(h0, .inr (7, [.ref a0, v1, .ref p0, v3, v4, .ref t0, .int np, v7, v8, v9, v10, v11, v12, v13, v14, v15, v16, v17, v18, v19, v20, v21, v22, v23, v24, v25, v26, v27])), (t0, .inl (tc, 8, .inl tf)), (a0, .inl (ac, 38, .inl nf)), (p0, .inl (pc, 7, .inr (.inl pf)))] sz)) (va_Qi (fun (r : Int32) (_ : Unit) => True) (fun _ t => ∃ (tg : Nat → Int32), ∃ (ng : Nat → Int32), ∃ (np2 : Int32), (mI ng) ∧ ((ng 2).toInt = (nf 2).toInt) ∧ va_P (dC, dI) vwCl [(h0, .inr (7, [.ref a0, v1, .ref p0, v3, v4, .ref t0, .int np2, v7, v8, v9, v10, v11, v12, v13, v14, v15, v16, v17, v18, v19, v20, v21, v22, v23, v24, v25, v26, v27])), (t0, .inl (tc, 8, .inl tg)), (a0, .inl (ac, 38, .inl ng)), (p0, .inl (pc, 7, .inr (.inl pf)))] t.heap ∧ va_K (dC, dI) vwCl [(tc, .int), (ac, .int), (pc, .long)] t ∧ va_D (va_A [(h0, .inr (7, [.ref a0, v1, .ref p0, v3, v4, .ref t0, .int np, v7, v8, v9, v10, v11, v12, v13, v14, v15, v16, v17, v18, v19, v20, v21, v22, v23, v24, v25, v26, v27])), (t0, .inl (tc, 8, .inl tf)), (a0, .inl (ac, 38, .inl nf)), (p0, .inl (pc, 7, .inr (.inl pf)))] sz) [(h0, .inr (7, [.ref a0, v1, .ref p0, v3, v4, .ref t0, .int np2, v7, v8, v9, v10, v11, v12, v13, v14, v15, v16, v17, v18, v19, v20, v21, v22, v23, v24, v25, v26, v27])), (t0, .inl (tc, 8, .inl tg)), (a0, .inl (ac, 38, .inl ng)), (p0, .inl (pc, 7, .inr (.inl pf)))]) (va_A [(h0, .inr (7, [.ref a0, v1, .ref p0, v3, v4, .ref t0, .int np, v7, v8, v9, v10, v11, v12, v13, v14, v15, v16, v17, v18, v19, v20, v21, v22, v23, v24, v25, v26, v27])), (t0, .inl (tc, 8, .inl tf)), (a0, .inl (ac, 38, .inl nf)), (p0, .inl (pc, 7, .inr (.inl pf)))] sz)) 0 0 (va_A [(h0, .inr (7, [.ref a0, v1, .ref p0, v3, v4, .ref t0, .int np, v7, v8, v9, v10, v11, v12, v13, v14, v15, v16, v17, v18, v19, v20, v21, v22, v23, v24, v25, v26, v27])), (t0, .inl (tc, 8, .inl tf)), (a0, .inl (ac, 38, .inl nf)), (p0, .inl (pc, 7, .inr (.inl pf)))] sz) := by
  refine Met.ofW (cc := cX9_play) (maxL := 10) (ret := (some .int)) (by decide) rfl ?_
  intro p e s m args below meth c s₁ B hml hv
  obtain ⟨rfl, hsz, hP, hK, hD0, hev⟩ := hv
  have hx := B.exec
  have hb := B.bytes
  have hr := B.returns
  have hts := atoms_spec (ws := w_m_play) B.pre
  have hown : s.vm.findClass RX9 = some m.cls := findClass_of_methodNamed B.named
  have hlocks := B.notSynchronized
  have inX9 : ∀ w ∈ wsX90, w ∈ w_m_play := fun w h => List.mem_cons_of_mem _ (List.mem_append_right _ h)
  subst hsz
  have hD := hD0.self (sz := s.heap.size)
  generalize hAe : va_A [(h0, .inr (7, [.ref a0, v1, .ref p0, v3, v4, .ref t0, .int np, v7, v8, v9, v10, v11, v12, v13, v14, v15, v16, v17, v18, v19, v20, v21, v22, v23, v24, v25, v26, v27])), (t0, .inl (tc, 8, .inl tf)), (a0, .inl (ac, 38, .inl nf)), (p0, .inl (pc, 7, .inr (.inl pf)))] s.heap.size = A at hD ⊢
  have hA : ∀ q : Nat, s.heap.size ≤ q → A q := fun q h => by rw [← hAe]; exact Or.inr h
  have hS : va_S A s.heap s.heap [] := va_S.rf
  have hP : va_P (dC, dI) vwCl [(h0, .inr (7, [.ref a0, v1, .ref p0, v3, v4, .ref t0, .int np, v7, v8, v9, v10, v11, v12, v13, v14, v15, v16, v17, v18, v19, v20, v21, v22, v23, v24, v25, v26, v27])), (t0, .inl (tc, 8, .inl tf)), (a0, .inl (ac, 38, .inl nf)), (p0, .inl (pc, 7, .inr (.inl pf)))] s.heap := hP
  have hl := lv_entry ([.ref h0, .int a]) (n := 10) (Nat.le_of_ble_eq_true rfl)
  rw [lg_entry_eq]
  generalize (lg_sl ([.ref h0, .int a]) ++ List.replicate (10 - (lg_sl ([.ref h0, .int a])).length) Slot.unset).toArray = ls at hl ⊢
  have hl : lv_has ls 10 [(0, .ref h0), (1, .int a)] := hl
  refine lv_aload_n hx hb dX9_play_0 rfl (lv_at hl 0 rfl) ?_
  refine lv_iload_n hx hb dX9_play_1 rfl (lv_at hl 1 rfl) ?_
  have hPc := hP.sub (ws' := [(h0, .inr (7, [.ref a0, v1, .ref p0, v3, v4, .ref t0, .int np, v7, v8, v9, v10, v11, v12, v13, v14, v15, v16, v17, v18, v19, v20, v21, v22, v23, v24, v25, v26, v27])), (a0, .inl (ac, 38, .inl nf))]) [0, 2] rfl
  have hKc := hK.sub (tys' := [(ac, .int)]) [1] rfl
  refine vp_callSi (W.runV (As := [.int a]) (rest := []) ⟨hx, hb, hml, hown, hts⟩ (m_isScene l dC dI ad h0 a a0 v1 (.ref p0) v3 v4 (.ref t0) (.int np) v7 v8 v9 v10 v11 v12 v13 v14 v15 v16 v17 v18 v19 v20 v21 v22 v23 v24 v25 v26 v27 ac nf hI) (cwV 1 hts g_m_play_m_isScene_155 rfl rfl rfl (by decide +kernel) ⟨(Nat.le_of_ble_eq_true rfl), (Nat.le_of_ble_eq_true rfl)⟩) ⟨preS_blind, va_recv hKc hPc (ci := 7) (q0 := 0) rfl rfl, fun U hU hW => ⟨rfl, preS_at hU hW hPc hKc hev⟩⟩ rfl rfl hl.1 rfl (lv_room (Nat.le_of_ble_eq_true rfl)) dX9_play_2 ⟨(Nat.le_of_ble_eq_true rfl), (Nat.le_of_ble_eq_true rfl)⟩) (fun r_1 hw => ?_)
  have hr_1 : (r_1.toInt = 1 ∧ 0 ≤ a.toInt ∧ a.toInt < (nf 1).toInt ∧ a.toInt ≤ 6) ∨ r_1.toInt = 0 := hw
  refine lv_if_ne (tgt := 15) hx hb dX9_play_5 (by decide) (fun c_2 => ?_) (fun c_2 => ?_)
  · skip
    have tc_2 : ¬ r_1.toInt = 0 := fun h => c_2 ((fa_eq _ _).mpr h)
    have i_3 : 0 ≤ a.toInt ∧ a.toInt < (nf 1).toInt ∧ a.toInt ≤ 6 := by omega
    refine lv_aload_n hx hb dX9_play_15 rfl (lv_at hl 0 rfl) ?_
    have hPc := hP.sub (ws' := [(h0, .inr (7, [.ref a0, v1, .ref p0, v3, v4, .ref t0, .int np, v7, v8, v9, v10, v11, v12, v13, v14, v15, v16, v17, v18, v19, v20, v21, v22, v23, v24, v25, v26, v27])), (a0, .inl (ac, 38, .inl nf))]) [0, 2] rfl
    have hKc := hK.sub (tys' := [(ac, .int)]) [1] rfl
    have hDc := hD.sub (ws' := [(h0, .inr (7, [.ref a0, v1, .ref p0, v3, v4, .ref t0, .int np, v7, v8, v9, v10, v11, v12, v13, v14, v15, v16, v17, v18, v19, v20, v21, v22, v23, v24, v25, v26, v27])), (a0, .inl (ac, 38, .inl nf))]) [0, 2] (by decide) rfl
    have hFc := va_free (wc := [(h0, .inr (7, [.ref a0, v1, .ref p0, v3, v4, .ref t0, .int np, v7, v8, v9, v10, v11, v12, v13, v14, v15, v16, v17, v18, v19, v20, v21, v22, v23, v24, v25, v26, v27])), (a0, .inl (ac, 38, .inl nf))]) hD hS hA [0, 2] rfl
    refine va_callv (va_runV (As := []) (rest := []) ⟨hx, hb, hml, hown, hts⟩ (m_dropAll l dC dI ad h0 a0 v1 (.ref p0) v3 v4 (.ref t0) (.int np) v7 v8 v9 v10 v11 v12 v13 v14 v15 v16 v17 v18 v19 v20 v21 v22 v23 v24 v25 v26 v27 ac nf s.heap.size hI) (cwV 0 hts g_m_play_m_dropAll_71 rfl rfl rfl (by decide +kernel) ⟨(Nat.le_of_ble_eq_true rfl), (Nat.le_of_ble_eq_true rfl)⟩) ⟨preM_blind, va_recv hKc hPc (ci := 7) (q0 := 0) rfl rfl, fun U hU hW => ⟨rfl, preM_at hU hW hPc hKc hDc hev⟩⟩ rfl rfl hl.1 rfl (lv_room (Nat.le_of_ble_eq_true rfl)) dX9_play_16 ⟨(Nat.le_of_ble_eq_true rfl), (Nat.le_of_ble_eq_true rfl)⟩) hS (fun q _ h => hFc q h) hFc (fun u t H1 locs ht hvm hw hB hz1 hk1 hS => ?_)
    obtain ⟨ng_5, hq_6, hq_7, hq_8, hP1, hK1, hD1⟩ := hB
    rw [ht] at hP1
    have hK1 := va_K.moved hvm.symm hK1
    obtain ⟨hP, hD⟩ := va_join (wr := [(t0, .inl (tc, 8, .inl tf)), (p0, .inl (pc, 7, .inr (.inl pf)))]) (w1 := [(h0, .inr (7, [.ref a0, v1, .ref p0, v3, v4, .ref t0, .int np, v7, v8, v9, v10, v11, v12, v13, v14, v15, v16, v17, v18, v19, v20, v21, v22, v23, v24, v25, v26, v27])), (a0, .inl (ac, 38, .inl ng_5))]) hP hD [0, 2] [1, 3] rfl rfl (by decide) (by decide) hk1 hFc hP1 hD1
    generalize H1 = H at hP hS ⊢
    have hP : va_P (dC, dI) vwCl [(t0, .inl (tc, 8, .inl tf)), (p0, .inl (pc, 7, .inr (.inl pf))), (h0, .inr (7, [.ref a0, v1, .ref p0, v3, v4, .ref t0, .int np, v7, v8, v9, v10, v11, v12, v13, v14, v15, v16, v17, v18, v19, v20, v21, v22, v23, v24, v25, v26, v27])), (a0, .inl (ac, 38, .inl ng_5))] H := hP
    have hD : va_D A [(t0, .inl (tc, 8, .inl tf)), (p0, .inl (pc, 7, .inr (.inl pf))), (h0, .inr (7, [.ref a0, v1, .ref p0, v3, v4, .ref t0, .int np, v7, v8, v9, v10, v11, v12, v13, v14, v15, v16, v17, v18, v19, v20, v21, v22, v23, v24, v25, v26, v27])), (a0, .inl (ac, 38, .inl ng_5))] := hD
    refine lv_aload_n hx hb dX9_play_19 rfl (lv_at hl 0 rfl) ?_
    refine va_get (D := (dC, dI)) (ci := 7) (v := .ref p0) (C := RX9) (T := TX9) (N := 28) hx hb hts inX9 hown hK hP 2 rfl rfl 2 (by decide) (hts _ (List.mem_of_getElem? (i := 14) rfl)) (fun _ h9 => h9) rfl dX9_play_20 ?_
    refine lv_iload_n hx hb dX9_play_23 rfl (lv_at hl 1 rfl) ?_
    refine va_lald hx hb hK hP 1 2 rfl rfl (vp_in_iff.mpr ⟨by omega, by omega⟩) dX9_play_24 ?_
    refine lv_topl (fun n_9 en_9 => ?_)
    clear en_9
    have hPc := hP.sub (ws' := []) [] rfl
    have hKc := hK.sub (tys' := []) [] rfl
    refine vp_callSi (W.runS (As := [.long n_9]) (rest := []) ⟨hx, hb, hml, hown, hts⟩ (m_bits2 l dC dI ad n_9 ) (va_cwS 1 hts g_m_play_m_bits2_158 rfl rfl rfl (by decide +kernel) ⟨(Nat.le_of_ble_eq_true rfl), (Nat.le_of_ble_eq_true rfl)⟩) ⟨preS_blind, fun U hU hW => ⟨rfl, preS_at hU hW hPc hKc hev⟩⟩ rfl rfl hl.1 rfl (lv_room (Nat.le_of_ble_eq_true rfl)) dX9_play_25 ⟨(Nat.le_of_ble_eq_true rfl), (Nat.le_of_ble_eq_true rfl)⟩) (fun r_10 hw => ?_)
    have hr_10 : (0 ≤ r_10.toInt ∧ r_10.toInt ≤ 64) ∧ (n_9.toBitVec.toNat < 512 → r_10.toInt = (pop9 n_9.toBitVec.toNat : Int)) := hw
    refine lv_istore_n (lv' := [(2, .int r_10), (0, .ref h0), (1, .int a)]) hx hb dX9_play_28 rfl hl (by decide) rfl (fun ls hl => ?_)
    refine lv_iconst (v := (-1)) hx hb dX9_play_29 (by decide) ?_
    refine lv_istore_n (lv' := [(3, .int (-1)), (2, .int r_10), (0, .ref h0), (1, .int a)]) hx hb dX9_play_30 rfl hl (by decide) rfl (fun ls hl => ?_)
    refine lv_iconst (v := (-1)) hx hb dX9_play_31 (by decide) ?_
    refine lv_istore (lv' := [(4, .int (-1)), (3, .int (-1)), (2, .int r_10), (0, .ref h0), (1, .int a)]) hx hb dX9_play_32 hl (by decide) rfl (fun ls hl => ?_)
    refine lv_iconst (v := 1) hx hb dX9_play_34 (by decide) ?_
    refine lv_istore (lv' := [(5, .int 1), (4, .int (-1)), (3, .int (-1)), (2, .int r_10), (0, .ref h0), (1, .int a)]) hx hb dX9_play_35 hl (by decide) rfl (fun ls hl => ?_)
    refine pp_loop (ι := Int32 × Int32 × Int32 × Int32 × Int32 × (Nat → Int32)) (fun ⟨v5_37, v4_37, v3_37, v2_37, y6, y0⟩ => 2 * fr y0 + v5_37.toInt.toNat) (fun ⟨v5_37, v4_37, v3_37, v2_37, y6, y0⟩ H locs ls => ((y0 0).toInt = (ng_5 0).toInt) ∧ ((y0 1).toInt = (ng_5 1).toInt) ∧ ((y0 2).toInt = (ng_5 2).toInt) ∧ (mI y0) ∧ (v2_37.toInt ≤ 64) ∧ (v5_37.toInt = 0 ∨ v5_37.toInt = 1) ∧ va_P (dC, dI) vwCl [(t0, .inl (tc, 8, .inl tf)), (p0, .inl (pc, 7, .inr (.inl pf))), (h0, .inr (7, [.ref a0, v1, .ref p0, v3, v4, .ref t0, .int y6, v7, v8, v9, v10, v11, v12, v13, v14, v15, v16, v17, v18, v19, v20, v21, v22, v23, v24, v25, v26, v27])), (a0, .inl (ac, 38, .inl y0))] H ∧ va_D A [(t0, .inl (tc, 8, .inl tf)), (p0, .inl (pc, 7, .inr (.inl pf))), (h0, .inr (7, [.ref a0, v1, .ref p0, v3, v4, .ref t0, .int y6, v7, v8, v9, v10, v11, v12, v13, v14, v15, v16, v17, v18, v19, v20, v21, v22, v23, v24, v25, v26, v27])), (a0, .inl (ac, 38, .inl y0))] ∧ va_S A s.heap H locs ∧ lv_has ls 10 [(5, .int v5_37), (4, .int v4_37), (3, .int v3_37), (2, .int v2_37), (0, .ref h0), (1, .int a)]) ?_ (1, (-1), (-1), r_10, np, ng_5) _ _ _ ⟨(by first | omega | decide | (simp only [fa_lt, fa_le, fa_eq, and_true, true_and, and_false, false_and, not_true_eq_false, not_false_eq_true, li_0, li_1, li_2, li_3, li_4, li_5, li_6, li_7, li_8, li_9, li_10, li_12, li_15, li_16, li_20, li_30, li_34, li_38, li_40, li_63, li_64, li_65, li_78, li_120, li_1000, li_4000, li_10000, li_11077, li_255, li_65535, li_m1, li_m2, li_m1000000001, li_m1000000002, li_m1000000003, li_m1000000004, li_m1000000005, li_m1000000006, li_m1000000007, or_true, true_or, or_false, false_or, implies_true, true_implies, false_implies] <;> omega)), (by first | omega | decide | (simp only [fa_lt, fa_le, fa_eq, and_true, true_and, and_false, false_and, not_true_eq_false, not_false_eq_true, li_0, li_1, li_2, li_3, li_4, li_5, li_6, li_7, li_8, li_9, li_10, li_12, li_15, li_16, li_20, li_30, li_34, li_38, li_40, li_63, li_64, li_65, li_78, li_120, li_1000, li_4000, li_10000, li_11077, li_255, li_65535, li_m1, li_m2, li_m1000000001, li_m1000000002, li_m1000000003, li_m1000000004, li_m1000000005, li_m1000000006, li_m1000000007, or_true, true_or, or_false, false_or, implies_true, true_implies, false_implies] <;> omega)), (by first | omega | decide | (simp only [fa_lt, fa_le, fa_eq, and_true, true_and, and_false, false_and, not_true_eq_false, not_false_eq_true, li_0, li_1, li_2, li_3, li_4, li_5, li_6, li_7, li_8, li_9, li_10, li_12, li_15, li_16, li_20, li_30, li_34, li_38, li_40, li_63, li_64, li_65, li_78, li_120, li_1000, li_4000, li_10000, li_11077, li_255, li_65535, li_m1, li_m2, li_m1000000001, li_m1000000002, li_m1000000003, li_m1000000004, li_m1000000005, li_m1000000006, li_m1000000007, or_true, true_or, or_false, false_or, implies_true, true_implies, false_implies] <;> omega)), hq_6, (by first | omega | decide | (simp only [fa_lt, fa_le, fa_eq, and_true, true_and, and_false, false_and, not_true_eq_false, not_false_eq_true, li_0, li_1, li_2, li_3, li_4, li_5, li_6, li_7, li_8, li_9, li_10, li_12, li_15, li_16, li_20, li_30, li_34, li_38, li_40, li_63, li_64, li_65, li_78, li_120, li_1000, li_4000, li_10000, li_11077, li_255, li_65535, li_m1, li_m2, li_m1000000001, li_m1000000002, li_m1000000003, li_m1000000004, li_m1000000005, li_m1000000006, li_m1000000007, or_true, true_or, or_false, false_or, implies_true, true_implies, false_implies] <;> omega)), (by first | omega | decide | (simp only [fa_lt, fa_le, fa_eq, and_true, true_and, and_false, false_and, not_true_eq_false, not_false_eq_true, li_0, li_1, li_2, li_3, li_4, li_5, li_6, li_7, li_8, li_9, li_10, li_12, li_15, li_16, li_20, li_30, li_34, li_38, li_40, li_63, li_64, li_65, li_78, li_120, li_1000, li_4000, li_10000, li_11077, li_255, li_65535, li_m1, li_m2, li_m1000000001, li_m1000000002, li_m1000000003, li_m1000000004, li_m1000000005, li_m1000000006, li_m1000000007, or_true, true_or, or_false, false_or, implies_true, true_implies, false_implies] <;> omega)), hP.sub [0, 1, 2, 3] rfl, hD.sub [0, 1, 2, 3] (by decide) rfl, hS, lv_sub hl [0, 1, 2, 3, 4, 5] rfl⟩
    intro k_11 ihk_11 u H locs ls hm hI
    obtain ⟨v5_37, v4_37, v3_37, v2_37, y6, y0⟩ := u
    obtain ⟨jk_11_0, jk_11_1, jk_11_2, jk_11_3, jk_11_4, jk_11_5, hP, hD, hS, hl⟩ := hI
    have hmk_11 : 2 * fr y0 + v5_37.toInt.toNat < k_11 + 1 := hm
    clear hm
    have jk_11_0 : (y0 0).toInt = (ng_5 0).toInt := jk_11_0
    have jk_11_1 : (y0 1).toInt = (ng_5 1).toInt := jk_11_1
    have jk_11_2 : (y0 2).toInt = (ng_5 2).toInt := jk_11_2
    have jk_11_3 : mI y0 := jk_11_3
    have jk_11_4 : v2_37.toInt ≤ 64 := jk_11_4
    have jk_11_5 : v5_37.toInt = 0 ∨ v5_37.toInt = 1 := jk_11_5
    have hl : lv_has ls 10 [(5, .int v5_37), (4, .int v4_37), (3, .int v3_37), (2, .int v2_37), (0, .ref h0), (1, .int a)] := hl
    have hP : va_P (dC, dI) vwCl [(t0, .inl (tc, 8, .inl tf)), (p0, .inl (pc, 7, .inr (.inl pf))), (h0, .inr (7, [.ref a0, v1, .ref p0, v3, v4, .ref t0, .int y6, v7, v8, v9, v10, v11, v12, v13, v14, v15, v16, v17, v18, v19, v20, v21, v22, v23, v24, v25, v26, v27])), (a0, .inl (ac, 38, .inl y0))] H := hP
    have hD : va_D A [(t0, .inl (tc, 8, .inl tf)), (p0, .inl (pc, 7, .inr (.inl pf))), (h0, .inr (7, [.ref a0, v1, .ref p0, v3, v4, .ref t0, .int y6, v7, v8, v9, v10, v11, v12, v13, v14, v15, v16, v17, v18, v19, v20, v21, v22, v23, v24, v25, v26, v27])), (a0, .inl (ac, 38, .inl y0))] := hD
    refine lv_iload hx hb dX9_play_37 (lv_at hl 0 rfl) ?_
    refine lv_if_eq (tgt := 166) hx hb dX9_play_39 (by decide) (fun c_12 => ?_) (fun c_12 => ?_)
    · skip
      have tc_12 : v5_37.toInt = 0 := (fa_eq _ _).mp c_12
      refine lv_iload_n hx hb dX9_play_166 rfl (lv_at hl 3 rfl) ?_
      have hP9 := hP.sub (ws' := [(h0, .inr (7, [.ref a0, v1, .ref p0, v3, v4, .ref t0, .int y6, v7, v8, v9, v10, v11, v12, v13, v14, v15, v16, v17, v18, v19, v20, v21, v22, v23, v24, v25, v26, v27])), (t0, .inl (tc, 8, .inl tf)), (a0, .inl (ac, 38, .inl y0)), (p0, .inl (pc, 7, .inr (.inl pf)))]) [2, 0, 3, 1] rfl
      have hD9 := hD.sub (ws' := [(h0, .inr (7, [.ref a0, v1, .ref p0, v3, v4, .ref t0, .int y6, v7, v8, v9, v10, v11, v12, v13, v14, v15, v16, v17, v18, v19, v20, v21, v22, v23, v24, v25, v26, v27])), (t0, .inl (tc, 8, .inl tf)), (a0, .inl (ac, 38, .inl y0)), (p0, .inl (pc, 7, .inr (.inl pf)))]) [2, 0, 3, 1] (by decide) rfl
      have hK9 := hK.sub (tys' := [(tc, .int), (ac, .int), (pc, .long)]) [0, 1, 2] rfl
      exact W.iret (v := v2_37) hx hb hr (fun t ht hW => ⟨⟨v2_37, (), rfl, trivial, tf, y0, y6, jk_11_3, (by first | omega | decide | (simp only [fa_lt, fa_le, fa_eq, and_true, true_and, and_false, false_and, not_true_eq_false, not_false_eq_true, li_0, li_1, li_2, li_3, li_4, li_5, li_6, li_7, li_8, li_9, li_10, li_12, li_15, li_16, li_20, li_30, li_34, li_38, li_40, li_63, li_64, li_65, li_78, li_120, li_1000, li_4000, li_10000, li_11077, li_255, li_65535, li_m1, li_m2, li_m1000000001, li_m1000000002, li_m1000000003, li_m1000000004, li_m1000000005, li_m1000000006, li_m1000000007, or_true, true_or, or_false, false_or, implies_true, true_implies, false_implies] <;> omega)), by rw [ht]; exact hP9, va_K.moved hW.alike hK9, hD9⟩, hS.F ht⟩) hS.2.2 dX9_play_167
    · skip
      have tc_12 : ¬ v5_37.toInt = 0 := fun h => c_12 ((fa_eq _ _).mpr h)
      refine lv_aload_n hx hb dX9_play_42 rfl (lv_at hl 4 rfl) ?_
      refine lv_iconst (v := (-1)) hx hb dX9_play_43 (by decide) ?_
      have hPc := hP.sub (ws' := [(h0, .inr (7, [.ref a0, v1, .ref p0, v3, v4, .ref t0, .int y6, v7, v8, v9, v10, v11, v12, v13, v14, v15, v16, v17, v18, v19, v20, v21, v22, v23, v24, v25, v26, v27])), (a0, .inl (ac, 38, .inl y0))]) [2, 3] rfl
      have hKc := hK.sub (tys' := [(ac, .int)]) [1] rfl
      refine vp_callSi (W.runV (As := [.int (-1)]) (rest := []) ⟨hx, hb, hml, hown, hts⟩ (m_holdOf l dC dI ad h0 (-1) a0 v1 (.ref p0) v3 v4 (.ref t0) (.int y6) v7 v8 v9 v10 v11 v12 v13 v14 v15 v16 v17 v18 v19 v20 v21 v22 v23 v24 v25 v26 v27 ac y0 jk_11_3) (cwV 1 hts g_m_play_m_holdOf_96 rfl rfl rfl (by decide +kernel) ⟨(Nat.le_of_ble_eq_true rfl), (Nat.le_of_ble_eq_true rfl)⟩) ⟨preS_blind, va_recv hKc hPc (ci := 7) (q0 := 0) rfl rfl, fun U hU hW => ⟨rfl, preS_at hU hW hPc hKc hev⟩⟩ rfl rfl hl.1 rfl (lv_room (Nat.le_of_ble_eq_true rfl)) dX9_play_44 ⟨(Nat.le_of_ble_eq_true rfl), (Nat.le_of_ble_eq_true rfl)⟩) (fun r_13 hw => ?_)
      have hr_13 : (-1) ≤ r_13.toInt ∧ r_13.toInt ≤ 3 ∧ ((0 ≤ r_13.toInt ∧ hF y0 (-1)) ∨ (r_13.toInt = (-1) ∧ ¬ hF y0 (-1))) := hw
      refine lv_if_lt (tgt := 166) hx hb dX9_play_47 (by decide) (fun c_14 => ?_) (fun c_14 => ?_)
      · skip
        have tc_14 : r_13.toInt < 0 := (fa_lt _ _).mp c_14
        refine lv_iload_n hx hb dX9_play_166 rfl (lv_at hl 3 rfl) ?_
        have hP9 := hP.sub (ws' := [(h0, .inr (7, [.ref a0, v1, .ref p0, v3, v4, .ref t0, .int y6, v7, v8, v9, v10, v11, v12, v13, v14, v15, v16, v17, v18, v19, v20, v21, v22, v23, v24, v25, v26, v27])), (t0, .inl (tc, 8, .inl tf)), (a0, .inl (ac, 38, .inl y0)), (p0, .inl (pc, 7, .inr (.inl pf)))]) [2, 0, 3, 1] rfl
        have hD9 := hD.sub (ws' := [(h0, .inr (7, [.ref a0, v1, .ref p0, v3, v4, .ref t0, .int y6, v7, v8, v9, v10, v11, v12, v13, v14, v15, v16, v17, v18, v19, v20, v21, v22, v23, v24, v25, v26, v27])), (t0, .inl (tc, 8, .inl tf)), (a0, .inl (ac, 38, .inl y0)), (p0, .inl (pc, 7, .inr (.inl pf)))]) [2, 0, 3, 1] (by decide) rfl
        have hK9 := hK.sub (tys' := [(tc, .int), (ac, .int), (pc, .long)]) [0, 1, 2] rfl
        exact W.iret (v := v2_37) hx hb hr (fun t ht hW => ⟨⟨v2_37, (), rfl, trivial, tf, y0, y6, jk_11_3, (by first | omega | decide | (simp only [fa_lt, fa_le, fa_eq, and_true, true_and, and_false, false_and, not_true_eq_false, not_false_eq_true, li_0, li_1, li_2, li_3, li_4, li_5, li_6, li_7, li_8, li_9, li_10, li_12, li_15, li_16, li_20, li_30, li_34, li_38, li_40, li_63, li_64, li_65, li_78, li_120, li_1000, li_4000, li_10000, li_11077, li_255, li_65535, li_m1, li_m2, li_m1000000001, li_m1000000002, li_m1000000003, li_m1000000004, li_m1000000005, li_m1000000006, li_m1000000007, or_true, true_or, or_false, false_or, implies_true, true_implies, false_implies] <;> omega)), by rw [ht]; exact hP9, va_K.moved hW.alike hK9, hD9⟩, hS.F ht⟩) hS.2.2 dX9_play_167
      · skip
        have tc_14 : ¬ r_13.toInt < 0 := fun h => c_14 ((fa_lt _ _).mpr h)
        refine lv_iconst (v := 0) hx hb dX9_play_50 (by decide) ?_
        refine lv_istore (lv' := [(5, .int 0), (4, .int v4_37), (3, .int v3_37), (2, .int v2_37), (0, .ref h0), (1, .int a)]) hx hb dX9_play_51 hl (by decide) rfl (fun ls hl => ?_)
        refine lv_aload_n hx hb dX9_play_53 rfl (lv_at hl 4 rfl) ?_
        have hPc := hP.sub (ws' := [(h0, .inr (7, [.ref a0, v1, .ref p0, v3, v4, .ref t0, .int y6, v7, v8, v9, v10, v11, v12, v13, v14, v15, v16, v17, v18, v19, v20, v21, v22, v23, v24, v25, v26, v27])), (a0, .inl (ac, 38, .inl y0))]) [2, 3] rfl
        have hKc := hK.sub (tys' := [(ac, .int)]) [1] rfl
        refine vp_callSl (W.runV (As := []) (rest := []) ⟨hx, hb, hml, hown, hts⟩ (m_dark l dC dI ad h0 a0 v1 (.ref p0) v3 v4 (.ref t0) (.int y6) v7 v8 v9 v10 v11 v12 v13 v14 v15 v16 v17 v18 v19 v20 v21 v22 v23 v24 v25 v26 v27 ac y0 jk_11_3) (cwV 0 hts g_m_play_m_dark_146 rfl rfl rfl (by decide +kernel) ⟨(Nat.le_of_ble_eq_true rfl), (Nat.le_of_ble_eq_true rfl)⟩) ⟨preS_blind, va_recv hKc hPc (ci := 7) (q0 := 0) rfl rfl, fun U hU hW => ⟨rfl, preS_at hU hW hPc hKc hev⟩⟩ rfl rfl hl.1 rfl (lv_room (Nat.le_of_ble_eq_true rfl)) dX9_play_54 ⟨(Nat.le_of_ble_eq_true rfl), (Nat.le_of_ble_eq_true rfl)⟩) (fun r_15 hw => ?_)
        refine lv_lstore (lv' := [(6, .long r_15), (5, .int 0), (4, .int v4_37), (3, .int v3_37), (2, .int v2_37), (0, .ref h0), (1, .int a)]) hx hb dX9_play_57 hl (by decide) rfl (fun ls hl => ?_)
        refine lv_iconst (v := 0) hx hb dX9_play_59 (by decide) ?_
        refine lv_istore (lv' := [(8, .int 0), (6, .long r_15), (5, .int 0), (4, .int v4_37), (3, .int v3_37), (2, .int v2_37), (0, .ref h0), (1, .int a)]) hx hb dX9_play_60 hl (by decide) rfl (fun ls hl => ?_)
        refine pp_loop (ι := Int32 × Int32 × Int32 × Int32 × Int32 × Int32) (fun ⟨v8_62, v5_62, v4_62, v3_62, v2_62, z6⟩ => ((y0 0).toInt - v8_62.toInt).toNat) (fun ⟨v8_62, v5_62, v4_62, v3_62, v2_62, z6⟩ H locs ls => (v2_62.toInt ≤ 64) ∧ ((v5_62.toInt = 0) ∨ (v5_62.toInt = 1 ∧ 0 ≤ v3_62.toInt ∧ v3_62.toInt ≤ 8 ∧ ¬ hF y0 v3_62.toInt)) ∧ (0 ≤ v8_62.toInt) ∧ va_P (dC, dI) vwCl [(t0, .inl (tc, 8, .inl tf)), (p0, .inl (pc, 7, .inr (.inl pf))), (h0, .inr (7, [.ref a0, v1, .ref p0, v3, v4, .ref t0, .int z6, v7, v8, v9, v10, v11, v12, v13, v14, v15, v16, v17, v18, v19, v20, v21, v22, v23, v24, v25, v26, v27])), (a0, .inl (ac, 38, .inl y0))] H ∧ va_D A [(t0, .inl (tc, 8, .inl tf)), (p0, .inl (pc, 7, .inr (.inl pf))), (h0, .inr (7, [.ref a0, v1, .ref p0, v3, v4, .ref t0, .int z6, v7, v8, v9, v10, v11, v12, v13, v14, v15, v16, v17, v18, v19, v20, v21, v22, v23, v24, v25, v26, v27])), (a0, .inl (ac, 38, .inl y0))] ∧ va_S A s.heap H locs ∧ lv_has ls 10 [(8, .int v8_62), (6, .long r_15), (5, .int v5_62), (4, .int v4_62), (3, .int v3_62), (2, .int v2_62), (0, .ref h0), (1, .int a)]) ?_ (0, 0, v4_37, v3_37, v2_37, y6) _ _ _ ⟨(by first | omega | decide | (simp only [fa_lt, fa_le, fa_eq, and_true, true_and, and_false, false_and, not_true_eq_false, not_false_eq_true, li_0, li_1, li_2, li_3, li_4, li_5, li_6, li_7, li_8, li_9, li_10, li_12, li_15, li_16, li_20, li_30, li_34, li_38, li_40, li_63, li_64, li_65, li_78, li_120, li_1000, li_4000, li_10000, li_11077, li_255, li_65535, li_m1, li_m2, li_m1000000001, li_m1000000002, li_m1000000003, li_m1000000004, li_m1000000005, li_m1000000006, li_m1000000007, or_true, true_or, or_false, false_or, implies_true, true_implies, false_implies] <;> omega)), (by first | omega | decide | (simp only [fa_lt, fa_le, fa_eq, and_true, true_and, and_false, false_and, not_true_eq_false, not_false_eq_true, li_0, li_1, li_2, li_3, li_4, li_5, li_6, li_7, li_8, li_9, li_10, li_12, li_15, li_16, li_20, li_30, li_34, li_38, li_40, li_63, li_64, li_65, li_78, li_120, li_1000, li_4000, li_10000, li_11077, li_255, li_65535, li_m1, li_m2, li_m1000000001, li_m1000000002, li_m1000000003, li_m1000000004, li_m1000000005, li_m1000000006, li_m1000000007, or_true, true_or, or_false, false_or, implies_true, true_implies, false_implies] <;> omega)), (by first | omega | decide | (simp only [fa_lt, fa_le, fa_eq, and_true, true_and, and_false, false_and, not_true_eq_false, not_false_eq_true, li_0, li_1, li_2, li_3, li_4, li_5, li_6, li_7, li_8, li_9, li_10, li_12, li_15, li_16, li_20, li_30, li_34, li_38, li_40, li_63, li_64, li_65, li_78, li_120, li_1000, li_4000, li_10000, li_11077, li_255, li_65535, li_m1, li_m2, li_m1000000001, li_m1000000002, li_m1000000003, li_m1000000004, li_m1000000005, li_m1000000006, li_m1000000007, or_true, true_or, or_false, false_or, implies_true, true_implies, false_implies] <;> omega)), hP.sub [0, 1, 2, 3] rfl, hD.sub [0, 1, 2, 3] (by decide) rfl, hS, lv_sub hl [0, 1, 2, 3, 4, 5, 6, 7] rfl⟩
        intro k_16 ihk_16 u H locs ls hm hI
        obtain ⟨v8_62, v5_62, v4_62, v3_62, v2_62, z6⟩ := u
        obtain ⟨jk_16_0, jk_16_1, jk_16_2, hP, hD, hS, hl⟩ := hI
        have hmk_16 : ((y0 0).toInt - v8_62.toInt).toNat < k_16 + 1 := hm
        clear hm
        have jk_16_0 : v2_62.toInt ≤ 64 := jk_16_0
        have jk_16_1 : (v5_62.toInt = 0) ∨ (v5_62.toInt = 1 ∧ 0 ≤ v3_62.toInt ∧ v3_62.toInt ≤ 8 ∧ ¬ hF y0 v3_62.toInt) := jk_16_1
        have jk_16_2 : 0 ≤ v8_62.toInt := jk_16_2
        have hl : lv_has ls 10 [(8, .int v8_62), (6, .long r_15), (5, .int v5_62), (4, .int v4_62), (3, .int v3_62), (2, .int v2_62), (0, .ref h0), (1, .int a)] := hl
        have hP : va_P (dC, dI) vwCl [(t0, .inl (tc, 8, .inl tf)), (p0, .inl (pc, 7, .inr (.inl pf))), (h0, .inr (7, [.ref a0, v1, .ref p0, v3, v4, .ref t0, .int z6, v7, v8, v9, v10, v11, v12, v13, v14, v15, v16, v17, v18, v19, v20, v21, v22, v23, v24, v25, v26, v27])), (a0, .inl (ac, 38, .inl y0))] H := hP
        have hD : va_D A [(t0, .inl (tc, 8, .inl tf)), (p0, .inl (pc, 7, .inr (.inl pf))), (h0, .inr (7, [.ref a0, v1, .ref p0, v3, v4, .ref t0, .int z6, v7, v8, v9, v10, v11, v12, v13, v14, v15, v16, v17, v18, v19, v20, v21, v22, v23, v24, v25, v26, v27])), (a0, .inl (ac, 38, .inl y0))] := hD
        refine lv_iload hx hb dX9_play_62 (lv_at hl 0 rfl) ?_
        refine lv_aload_n hx hb dX9_play_64 rfl (lv_at hl 6 rfl) ?_
        refine va_get (D := (dC, dI)) (ci := 7) (v := .ref a0) (C := RX9) (T := TX9) (N := 28) hx hb hts inX9 hown hK hP 2 rfl rfl 0 (by decide) (hts _ (List.mem_of_getElem? (i := 6) rfl)) (fun _ h9 => h9) rfl dX9_play_65 ?_
        refine lv_iconst (v := 0) hx hb dX9_play_68 (by decide) ?_
        refine va_iald hx hb hK hP 3 1 rfl rfl (vp_in_nI (n := 0) (by decide) (by decide)) dX9_play_69 ?_
        refine pp_ti (y := y0 0) rfl ?_
        refine lv_topi (fun n_17 en_17 => ?_)
        have tn_17 : n_17.toInt = (y0 0).toInt ∧ 0 ≤ n_17.toInt ∧ n_17.toInt ≤ 9 := mI_r0 jk_11_3 en_17
        clear en_17
        have rc_18_x := pp_rng v8_62
        have rc_18_y := pp_rng n_17
        refine lv_icmp_ge (tgt := 141) hx hb dX9_play_70 (by decide) (fun c_18 => ?_) (fun c_18 => ?_)
        · skip
          have tc_18 : n_17.toInt ≤ v8_62.toInt := (fa_le _ _).mp c_18
          refine lv_iload hx hb dX9_play_141 (lv_at hl 2 rfl) ?_
          refine lv_if_eq (tgt := 163) hx hb dX9_play_143 (by decide) (fun c_19 => ?_) (fun c_19 => ?_)
          · skip
            have tc_19 : v5_62.toInt = 0 := (fa_eq _ _).mp c_19
            refine lv_goto (tgt := 37) hx hb dX9_play_163 (by decide) ?_
            exact ihk_11 (v5_62, v4_62, v3_62, v2_62, z6, y0) _ _ _ (by show 2 * fr y0 + v5_62.toInt.toNat < k_11; first | omega | (simp only [fa_lt, fa_le, fa_eq, and_true, true_and, and_false, false_and, not_true_eq_false, not_false_eq_true, li_0, li_1, li_2, li_3, li_4, li_5, li_6, li_7, li_8, li_9, li_10, li_12, li_15, li_16, li_20, li_30, li_34, li_38, li_40, li_63, li_64, li_65, li_78, li_120, li_1000, li_4000, li_10000, li_11077, li_255, li_65535, li_m1, li_m2, li_m1000000001, li_m1000000002, li_m1000000003, li_m1000000004, li_m1000000005, li_m1000000006, li_m1000000007, or_true, true_or, or_false, false_or, implies_true, true_implies, false_implies]; omega) | (have hfr9 := fr_put (by assumption) (by omega); simp only [fa_lt, fa_le, fa_eq, and_true, true_and, and_false, false_and, not_true_eq_false, not_false_eq_true, li_0, li_1, li_2, li_3, li_4, li_5, li_6, li_7, li_8, li_9, li_10, li_12, li_15, li_16, li_20, li_30, li_34, li_38, li_40, li_63, li_64, li_65, li_78, li_120, li_1000, li_4000, li_10000, li_11077, li_255, li_65535, li_m1, li_m2, li_m1000000001, li_m1000000002, li_m1000000003, li_m1000000004, li_m1000000005, li_m1000000006, li_m1000000007, or_true, true_or, or_false, false_or, implies_true, true_implies, false_implies]; omega)) ⟨(by first | omega | decide | (simp only [fa_lt, fa_le, fa_eq, and_true, true_and, and_false, false_and, not_true_eq_false, not_false_eq_true, li_0, li_1, li_2, li_3, li_4, li_5, li_6, li_7, li_8, li_9, li_10, li_12, li_15, li_16, li_20, li_30, li_34, li_38, li_40, li_63, li_64, li_65, li_78, li_120, li_1000, li_4000, li_10000, li_11077, li_255, li_65535, li_m1, li_m2, li_m1000000001, li_m1000000002, li_m1000000003, li_m1000000004, li_m1000000005, li_m1000000006, li_m1000000007, or_true, true_or, or_false, false_or, implies_true, true_implies, false_implies] <;> omega)), (by first | omega | decide | (simp only [fa_lt, fa_le, fa_eq, and_true, true_and, and_false, false_and, not_true_eq_false, not_false_eq_true, li_0, li_1, li_2, li_3, li_4, li_5, li_6, li_7, li_8, li_9, li_10, li_12, li_15, li_16, li_20, li_30, li_34, li_38, li_40, li_63, li_64, li_65, li_78, li_120, li_1000, li_4000, li_10000, li_11077, li_255, li_65535, li_m1, li_m2, li_m1000000001, li_m1000000002, li_m1000000003, li_m1000000004, li_m1000000005, li_m1000000006, li_m1000000007, or_true, true_or, or_false, false_or, implies_true, true_implies, false_implies] <;> omega)), (by first | omega | decide | (simp only [fa_lt, fa_le, fa_eq, and_true, true_and, and_false, false_and, not_true_eq_false, not_false_eq_true, li_0, li_1, li_2, li_3, li_4, li_5, li_6, li_7, li_8, li_9, li_10, li_12, li_15, li_16, li_20, li_30, li_34, li_38, li_40, li_63, li_64, li_65, li_78, li_120, li_1000, li_4000, li_10000, li_11077, li_255, li_65535, li_m1, li_m2, li_m1000000001, li_m1000000002, li_m1000000003, li_m1000000004, li_m1000000005, li_m1000000006, li_m1000000007, or_true, true_or, or_false, false_or, implies_true, true_implies, false_implies] <;> omega)), jk_11_3, (by first | omega | decide | (simp only [fa_lt, fa_le, fa_eq, and_true, true_and, and_false, false_and, not_true_eq_false, not_false_eq_true, li_0, li_1, li_2, li_3, li_4, li_5, li_6, li_7, li_8, li_9, li_10, li_12, li_15, li_16, li_20, li_30, li_34, li_38, li_40, li_63, li_64, li_65, li_78, li_120, li_1000, li_4000, li_10000, li_11077, li_255, li_65535, li_m1, li_m2, li_m1000000001, li_m1000000002, li_m1000000003, li_m1000000004, li_m1000000005, li_m1000000006, li_m1000000007, or_true, true_or, or_false, false_or, implies_true, true_implies, false_implies] <;> omega)), (by first | omega | decide | (simp only [fa_lt, fa_le, fa_eq, and_true, true_and, and_false, false_and, not_true_eq_false, not_false_eq_true, li_0, li_1, li_2, li_3, li_4, li_5, li_6, li_7, li_8, li_9, li_10, li_12, li_15, li_16, li_20, li_30, li_34, li_38, li_40, li_63, li_64, li_65, li_78, li_120, li_1000, li_4000, li_10000, li_11077, li_255, li_65535, li_m1, li_m2, li_m1000000001, li_m1000000002, li_m1000000003, li_m1000000004, li_m1000000005, li_m1000000006, li_m1000000007, or_true, true_or, or_false, false_or, implies_true, true_implies, false_implies] <;> omega)), hP.sub [0, 1, 2, 3] rfl, hD.sub [0, 1, 2, 3] (by decide) rfl, hS, lv_sub hl [2, 3, 4, 5, 6, 7] rfl⟩
          · skip
            have tc_19 : ¬ v5_62.toInt = 0 := fun h => c_19 ((fa_eq _ _).mpr h)
            have hn9 : ¬ hF y0 v3_62.toInt := (jk_16_1).elim (fun z9 => absurd z9 (by omega)) (fun z9 => z9.2.2.2)
            have hn8 : 0 ≤ v3_62.toInt ∧ v3_62.toInt ≤ 8 := by omega
            refine lv_aload_n hx hb dX9_play_146 rfl (lv_at hl 6 rfl) ?_
            refine lv_iload_n hx hb dX9_play_147 rfl (lv_at hl 4 rfl) ?_
            refine lv_iload hx hb dX9_play_148 (lv_at hl 3 rfl) ?_
            have hPc := hP.sub (ws' := [(h0, .inr (7, [.ref a0, v1, .ref p0, v3, v4, .ref t0, .int z6, v7, v8, v9, v10, v11, v12, v13, v14, v15, v16, v17, v18, v19, v20, v21, v22, v23, v24, v25, v26, v27])), (a0, .inl (ac, 38, .inl y0))]) [2, 3] rfl
            have hKc := hK.sub (tys' := [(ac, .int)]) [1] rfl
            have hDc := hD.sub (ws' := [(h0, .inr (7, [.ref a0, v1, .ref p0, v3, v4, .ref t0, .int z6, v7, v8, v9, v10, v11, v12, v13, v14, v15, v16, v17, v18, v19, v20, v21, v22, v23, v24, v25, v26, v27])), (a0, .inl (ac, 38, .inl y0))]) [2, 3] (by decide) rfl
            have hFc := va_free (wc := [(h0, .inr (7, [.ref a0, v1, .ref p0, v3, v4, .ref t0, .int z6, v7, v8, v9, v10, v11, v12, v13, v14, v15, v16, v17, v18, v19, v20, v21, v22, v23, v24, v25, v26, v27])), (a0, .inl (ac, 38, .inl y0))]) hD hS hA [2, 3] rfl
            refine va_calli (va_runV (As := [.int v3_62, .int v4_62]) (rest := []) ⟨hx, hb, hml, hown, hts⟩ (m_holds l dC dI ad h0 v3_62 v4_62 a0 v1 (.ref p0) v3 v4 (.ref t0) (.int z6) v7 v8 v9 v10 v11 v12 v13 v14 v15 v16 v17 v18 v19 v20 v21 v22 v23 v24 v25 v26 v27 ac y0 H.size jk_11_3 (by first | omega | decide | (simp only [fa_lt, fa_le, fa_eq, and_true, true_and, and_false, false_and, not_true_eq_false, not_false_eq_true, li_0, li_1, li_2, li_3, li_4, li_5, li_6, li_7, li_8, li_9, li_10, li_12, li_15, li_16, li_20, li_30, li_34, li_38, li_40, li_63, li_64, li_65, li_78, li_120, li_1000, li_4000, li_10000, li_11077, li_255, li_65535, li_m1, li_m2, li_m1000000001, li_m1000000002, li_m1000000003, li_m1000000004, li_m1000000005, li_m1000000006, li_m1000000007, or_true, true_or, or_false, false_or, implies_true, true_implies, false_implies] <;> omega)) (hF_of hr_13 (by omega)) hn9) (cwV 2 hts g_m_play_m_holds_134 rfl rfl rfl (by decide +kernel) ⟨(Nat.le_of_ble_eq_true rfl), (Nat.le_of_ble_eq_true rfl)⟩) ⟨preM_blind, va_recv hKc hPc (ci := 7) (q0 := 0) rfl rfl, fun U hU hW => ⟨rfl, preM_at hU hW hPc hKc hDc hev⟩⟩ rfl rfl hl.1 rfl (lv_room (Nat.le_of_ble_eq_true rfl)) dX9_play_150 ⟨(Nat.le_of_ble_eq_true rfl), (Nat.le_of_ble_eq_true rfl)⟩) hS (fun q _ h => hFc q h) hFc (fun r_20 u t H1 locs ht hvm hw hB hz1 hk1 hS => ?_)
            obtain ⟨ng_21, hq_22, hq_23, hq_24, hP1, hK1, hD1⟩ := hB
            rw [ht] at hP1
            have hK1 := va_K.moved hvm.symm hK1
            obtain ⟨hP, hD⟩ := va_join (wr := [(t0, .inl (tc, 8, .inl tf)), (p0, .inl (pc, 7, .inr (.inl pf)))]) (w1 := [(h0, .inr (7, [.ref a0, v1, .ref p0, v3, v4, .ref t0, .int z6, v7, v8, v9, v10, v11, v12, v13, v14, v15, v16, v17, v18, v19, v20, v21, v22, v23, v24, v25, v26, v27])), (a0, .inl (ac, 38, .inl ng_21))]) hP hD [2, 3] [0, 1] rfl rfl (by decide) (by decide) hk1 hFc hP1 hD1
            generalize H1 = H at hP hS ⊢
            have hP : va_P (dC, dI) vwCl [(t0, .inl (tc, 8, .inl tf)), (p0, .inl (pc, 7, .inr (.inl pf))), (h0, .inr (7, [.ref a0, v1, .ref p0, v3, v4, .ref t0, .int z6, v7, v8, v9, v10, v11, v12, v13, v14, v15, v16, v17, v18, v19, v20, v21, v22, v23, v24, v25, v26, v27])), (a0, .inl (ac, 38, .inl ng_21))] H := hP
            have hD : va_D A [(t0, .inl (tc, 8, .inl tf)), (p0, .inl (pc, 7, .inr (.inl pf))), (h0, .inr (7, [.ref a0, v1, .ref p0, v3, v4, .ref t0, .int z6, v7, v8, v9, v10, v11, v12, v13, v14, v15, v16, v17, v18, v19, v20, v21, v22, v23, v24, v25, v26, v27])), (a0, .inl (ac, 38, .inl ng_21))] := hD
            have hr_20 : 0 ≤ r_20.toInt := hw
            refine lv_if_lt (tgt := 160) hx hb dX9_play_153 (by decide) (fun c_25 => ?_) (fun c_25 => ?_)
            · skip
              have tc_25 : r_20.toInt < 0 := (fa_lt _ _).mp c_25
              exfalso; omega
            · skip
              have tc_25 : ¬ r_20.toInt < 0 := fun h => c_25 ((fa_lt _ _).mpr h)
              refine lv_iconst (v := 1) hx hb dX9_play_156 (by decide) ?_
              refine lv_goto (tgt := 161) hx hb dX9_play_157 (by decide) ?_
              refine lv_istore (lv' := [(5, .int 1), (8, .int v8_62), (6, .long r_15), (4, .int v4_62), (3, .int v3_62), (2, .int v2_62), (0, .ref h0), (1, .int a)]) hx hb dX9_play_161 hl (by decide) rfl (fun ls hl => ?_)
              refine lv_goto (tgt := 37) hx hb dX9_play_163 (by decide) ?_
              exact ihk_11 ((1 : Int32), v4_62, v3_62, v2_62, z6, ng_21) _ _ _ (by show 2 * fr ng_21 + (1 : Int32).toInt.toNat < k_11; first | omega | (simp only [fa_lt, fa_le, fa_eq, and_true, true_and, and_false, false_and, not_true_eq_false, not_false_eq_true, li_0, li_1, li_2, li_3, li_4, li_5, li_6, li_7, li_8, li_9, li_10, li_12, li_15, li_16, li_20, li_30, li_34, li_38, li_40, li_63, li_64, li_65, li_78, li_120, li_1000, li_4000, li_10000, li_11077, li_255, li_65535, li_m1, li_m2, li_m1000000001, li_m1000000002, li_m1000000003, li_m1000000004, li_m1000000005, li_m1000000006, li_m1000000007, or_true, true_or, or_false, false_or, implies_true, true_implies, false_implies]; omega) | (have hfr9 := fr_put (by assumption) (by omega); simp only [fa_lt, fa_le, fa_eq, and_true, true_and, and_false, false_and, not_true_eq_false, not_false_eq_true, li_0, li_1, li_2, li_3, li_4, li_5, li_6, li_7, li_8, li_9, li_10, li_12, li_15, li_16, li_20, li_30, li_34, li_38, li_40, li_63, li_64, li_65, li_78, li_120, li_1000, li_4000, li_10000, li_11077, li_255, li_65535, li_m1, li_m2, li_m1000000001, li_m1000000002, li_m1000000003, li_m1000000004, li_m1000000005, li_m1000000006, li_m1000000007, or_true, true_or, or_false, false_or, implies_true, true_implies, false_implies]; omega)) ⟨(by first | omega | decide | (simp only [fa_lt, fa_le, fa_eq, and_true, true_and, and_false, false_and, not_true_eq_false, not_false_eq_true, li_0, li_1, li_2, li_3, li_4, li_5, li_6, li_7, li_8, li_9, li_10, li_12, li_15, li_16, li_20, li_30, li_34, li_38, li_40, li_63, li_64, li_65, li_78, li_120, li_1000, li_4000, li_10000, li_11077, li_255, li_65535, li_m1, li_m2, li_m1000000001, li_m1000000002, li_m1000000003, li_m1000000004, li_m1000000005, li_m1000000006, li_m1000000007, or_true, true_or, or_false, false_or, implies_true, true_implies, false_implies] <;> omega)), (by first | omega | decide | (simp only [fa_lt, fa_le, fa_eq, and_true, true_and, and_false, false_and, not_true_eq_false, not_false_eq_true, li_0, li_1, li_2, li_3, li_4, li_5, li_6, li_7, li_8, li_9, li_10, li_12, li_15, li_16, li_20, li_30, li_34, li_38, li_40, li_63, li_64, li_65, li_78, li_120, li_1000, li_4000, li_10000, li_11077, li_255, li_65535, li_m1, li_m2, li_m1000000001, li_m1000000002, li_m1000000003, li_m1000000004, li_m1000000005, li_m1000000006, li_m1000000007, or_true, true_or, or_false, false_or, implies_true, true_implies, false_implies] <;> omega)), (by first | omega | decide | (simp only [fa_lt, fa_le, fa_eq, and_true, true_and, and_false, false_and, not_true_eq_false, not_false_eq_true, li_0, li_1, li_2, li_3, li_4, li_5, li_6, li_7, li_8, li_9, li_10, li_12, li_15, li_16, li_20, li_30, li_34, li_38, li_40, li_63, li_64, li_65, li_78, li_120, li_1000, li_4000, li_10000, li_11077, li_255, li_65535, li_m1, li_m2, li_m1000000001, li_m1000000002, li_m1000000003, li_m1000000004, li_m1000000005, li_m1000000006, li_m1000000007, or_true, true_or, or_false, false_or, implies_true, true_implies, false_implies] <;> omega)), hq_22, (by first | omega | decide | (simp only [fa_lt, fa_le, fa_eq, and_true, true_and, and_false, false_and, not_true_eq_false, not_false_eq_true, li_0, li_1, li_2, li_3, li_4, li_5, li_6, li_7, li_8, li_9, li_10, li_12, li_15, li_16, li_20, li_30, li_34, li_38, li_40, li_63, li_64, li_65, li_78, li_120, li_1000, li_4000, li_10000, li_11077, li_255, li_65535, li_m1, li_m2, li_m1000000001, li_m1000000002, li_m1000000003, li_m1000000004, li_m1000000005, li_m1000000006, li_m1000000007, or_true, true_or, or_false, false_or, implies_true, true_implies, false_implies] <;> omega)), (by first | omega | decide | (simp only [fa_lt, fa_le, fa_eq, and_true, true_and, and_false, false_and, not_true_eq_false, not_false_eq_true, li_0, li_1, li_2, li_3, li_4, li_5, li_6, li_7, li_8, li_9, li_10, li_12, li_15, li_16, li_20, li_30, li_34, li_38, li_40, li_63, li_64, li_65, li_78, li_120, li_1000, li_4000, li_10000, li_11077, li_255, li_65535, li_m1, li_m2, li_m1000000001, li_m1000000002, li_m1000000003, li_m1000000004, li_m1000000005, li_m1000000006, li_m1000000007, or_true, true_or, or_false, false_or, implies_true, true_implies, false_implies] <;> omega)), hP.sub [0, 1, 2, 3] rfl, hD.sub [0, 1, 2, 3] (by decide) rfl, hS, lv_sub hl [0, 3, 4, 5, 6, 7] rfl⟩
        · skip
          have tc_18 : ¬ n_17.toInt ≤ v8_62.toInt := fun h => c_18 ((fa_le _ _).mpr h)
          refine lv_aload_n hx hb dX9_play_73 rfl (lv_at hl 6 rfl) ?_
          refine lv_iload hx hb dX9_play_74 (lv_at hl 0 rfl) ?_
          refine lv_iconst (v := 2) hx hb dX9_play_76 (by decide) ?_
          have hPc := hP.sub (ws' := [(h0, .inr (7, [.ref a0, v1, .ref p0, v3, v4, .ref t0, .int z6, v7, v8, v9, v10, v11, v12, v13, v14, v15, v16, v17, v18, v19, v20, v21, v22, v23, v24, v25, v26, v27])), (a0, .inl (ac, 38, .inl y0))]) [2, 3] rfl
          have hKc := hK.sub (tys' := [(ac, .int)]) [1] rfl
          refine vp_callSi (W.runV (As := [.int v8_62, .int 2]) (rest := []) ⟨hx, hb, hml, hown, hts⟩ (m_shapeIs l dC dI ad h0 v8_62 2 a0 v1 (.ref p0) v3 v4 (.ref t0) (.int z6) v7 v8 v9 v10 v11 v12 v13 v14 v15 v16 v17 v18 v19 v20 v21 v22 v23 v24 v25 v26 v27 ac y0 (by first | omega | decide | (simp only [fa_lt, fa_le, fa_eq, and_true, true_and, and_false, false_and, not_true_eq_false, not_false_eq_true, li_0, li_1, li_2, li_3, li_4, li_5, li_6, li_7, li_8, li_9, li_10, li_12, li_15, li_16, li_20, li_30, li_34, li_38, li_40, li_63, li_64, li_65, li_78, li_120, li_1000, li_4000, li_10000, li_11077, li_255, li_65535, li_m1, li_m2, li_m1000000001, li_m1000000002, li_m1000000003, li_m1000000004, li_m1000000005, li_m1000000006, li_m1000000007, or_true, true_or, or_false, false_or, implies_true, true_implies, false_implies] <;> omega)) (by first | omega | decide | (simp only [fa_lt, fa_le, fa_eq, and_true, true_and, and_false, false_and, not_true_eq_false, not_false_eq_true, li_0, li_1, li_2, li_3, li_4, li_5, li_6, li_7, li_8, li_9, li_10, li_12, li_15, li_16, li_20, li_30, li_34, li_38, li_40, li_63, li_64, li_65, li_78, li_120, li_1000, li_4000, li_10000, li_11077, li_255, li_65535, li_m1, li_m2, li_m1000000001, li_m1000000002, li_m1000000003, li_m1000000004, li_m1000000005, li_m1000000006, li_m1000000007, or_true, true_or, or_false, false_or, implies_true, true_implies, false_implies] <;> omega))) (cwV 2 hts g_m_play_m_shapeIs_99 rfl rfl rfl (by decide +kernel) ⟨(Nat.le_of_ble_eq_true rfl), (Nat.le_of_ble_eq_true rfl)⟩) ⟨preS_blind, va_recv hKc hPc (ci := 7) (q0 := 0) rfl rfl, fun U hU hW => ⟨rfl, preS_at hU hW hPc hKc hev⟩⟩ rfl rfl hl.1 rfl (lv_room (Nat.le_of_ble_eq_true rfl)) dX9_play_77 ⟨(Nat.le_of_ble_eq_true rfl), (Nat.le_of_ble_eq_true rfl)⟩) (fun r_26 hw => ?_)
          refine lv_iconst (v := 1) hx hb dX9_play_80 (by decide) ?_
          refine lv_icmp_eq (tgt := 93) hx hb dX9_play_81 (by decide) (fun c_27 => ?_) (fun c_27 => ?_)
          · skip
            have tc_27 : r_26.toInt = 1 := (fa_eq _ _).mp c_27
            refine lv_bipush (v := 65) hx hb dX9_play_93 (by decide) ?_
            refine lv_goto (tgt := 112) hx hb dX9_play_95 (by decide) ?_
            refine lv_istore (lv' := [(9, .int 65), (8, .int v8_62), (6, .long r_15), (5, .int v5_62), (4, .int v4_62), (3, .int v3_62), (2, .int v2_62), (0, .ref h0), (1, .int a)]) hx hb dX9_play_112 hl (by decide) rfl (fun ls hl => ?_)
            refine lv_iload hx hb dX9_play_114 (lv_at hl 0 rfl) ?_
            refine lv_iload_n hx hb dX9_play_116 rfl (lv_at hl 6 rfl) ?_
            refine lv_icmp_ge (tgt := 135) hx hb dX9_play_117 (by decide) (fun c_28 => ?_) (fun c_28 => ?_)
            · skip
              have tc_28 : v2_62.toInt ≤ 65 := (fa_le _ _).mp c_28
              obtain ⟨n_29, en_29⟩ : ∃ y : Int32, y = v8_62 + 1 := ⟨_, rfl⟩
              have tn_29 : n_29.toInt = v8_62.toInt + 1 := pp_add en_29 rfl rfl (by omega) (by omega)
              refine lv_iinc (v := n_29) (lv' := [(8, .int n_29), (9, .int 65), (6, .long r_15), (5, .int v5_62), (4, .int v4_62), (3, .int v3_62), (2, .int v2_62), (0, .ref h0), (1, .int a)]) hx hb dX9_play_135 hl (k := 1) rfl (by rw [en_29]; rfl) (by decide) rfl (fun ls hl => ?_)
              clear en_29
              refine lv_goto (tgt := 62) hx hb dX9_play_138 (by decide) ?_
              exact ihk_16 (n_29, v5_62, v4_62, v3_62, v2_62, z6) _ _ _ (by show ((y0 0).toInt - n_29.toInt).toNat < k_16; omega) ⟨(by first | omega | decide | (simp only [fa_lt, fa_le, fa_eq, and_true, true_and, and_false, false_and, not_true_eq_false, not_false_eq_true, li_0, li_1, li_2, li_3, li_4, li_5, li_6, li_7, li_8, li_9, li_10, li_12, li_15, li_16, li_20, li_30, li_34, li_38, li_40, li_63, li_64, li_65, li_78, li_120, li_1000, li_4000, li_10000, li_11077, li_255, li_65535, li_m1, li_m2, li_m1000000001, li_m1000000002, li_m1000000003, li_m1000000004, li_m1000000005, li_m1000000006, li_m1000000007, or_true, true_or, or_false, false_or, implies_true, true_implies, false_implies] <;> omega)), (by first | omega | exact Or.inr ⟨by decide, by omega, by omega, (by assumption)⟩ | (simp only [fa_lt, fa_le, fa_eq, and_true, true_and, and_false, false_and, not_true_eq_false, not_false_eq_true, li_0, li_1, li_2, li_3, li_4, li_5, li_6, li_7, li_8, li_9, li_10, li_12, li_15, li_16, li_20, li_30, li_34, li_38, li_40, li_63, li_64, li_65, li_78, li_120, li_1000, li_4000, li_10000, li_11077, li_255, li_65535, li_m1, li_m2, li_m1000000001, li_m1000000002, li_m1000000003, li_m1000000004, li_m1000000005, li_m1000000006, li_m1000000007, or_true, true_or, or_false, false_or, implies_true, true_implies, false_implies]; omega) | assumption), (by first | omega | decide | (simp only [fa_lt, fa_le, fa_eq, and_true, true_and, and_false, false_and, not_true_eq_false, not_false_eq_true, li_0, li_1, li_2, li_3, li_4, li_5, li_6, li_7, li_8, li_9, li_10, li_12, li_15, li_16, li_20, li_30, li_34, li_38, li_40, li_63, li_64, li_65, li_78, li_120, li_1000, li_4000, li_10000, li_11077, li_255, li_65535, li_m1, li_m2, li_m1000000001, li_m1000000002, li_m1000000003, li_m1000000004, li_m1000000005, li_m1000000006, li_m1000000007, or_true, true_or, or_false, false_or, implies_true, true_implies, false_implies] <;> omega)), hP.sub [0, 1, 2, 3] rfl, hD.sub [0, 1, 2, 3] (by decide) rfl, hS, lv_sub hl [0, 2, 3, 4, 5, 6, 7, 8] rfl⟩
            · skip
              have tc_28 : ¬ v2_62.toInt ≤ 65 := fun h => c_28 ((fa_le _ _).mpr h)
              exfalso; omega
          · skip
            have tc_27 : ¬ r_26.toInt = 1 := fun h => c_27 ((fa_eq _ _).mpr h)
            refine lv_aload_n hx hb dX9_play_84 rfl (lv_at hl 6 rfl) ?_
            refine lv_iload hx hb dX9_play_85 (lv_at hl 0 rfl) ?_
            have hPc := hP.sub (ws' := [(h0, .inr (7, [.ref a0, v1, .ref p0, v3, v4, .ref t0, .int z6, v7, v8, v9, v10, v11, v12, v13, v14, v15, v16, v17, v18, v19, v20, v21, v22, v23, v24, v25, v26, v27])), (a0, .inl (ac, 38, .inl y0))]) [2, 3] rfl
            have hKc := hK.sub (tys' := [(ac, .int)]) [1] rfl
            refine vp_callSi (W.runV (As := [.int v8_62]) (rest := []) ⟨hx, hb, hml, hown, hts⟩ (m_holdOf l dC dI ad h0 v8_62 a0 v1 (.ref p0) v3 v4 (.ref t0) (.int z6) v7 v8 v9 v10 v11 v12 v13 v14 v15 v16 v17 v18 v19 v20 v21 v22 v23 v24 v25 v26 v27 ac y0 jk_11_3) (cwV 1 hts g_m_play_m_holdOf_96 rfl rfl rfl (by decide +kernel) ⟨(Nat.le_of_ble_eq_true rfl), (Nat.le_of_ble_eq_true rfl)⟩) ⟨preS_blind, va_recv hKc hPc (ci := 7) (q0 := 0) rfl rfl, fun U hU hW => ⟨rfl, preS_at hU hW hPc hKc hev⟩⟩ rfl rfl hl.1 rfl (lv_room (Nat.le_of_ble_eq_true rfl)) dX9_play_87 ⟨(Nat.le_of_ble_eq_true rfl), (Nat.le_of_ble_eq_true rfl)⟩) (fun r_30 hw => ?_)
            have hr_30 : (-1) ≤ r_30.toInt ∧ r_30.toInt ≤ 3 ∧ ((0 ≤ r_30.toInt ∧ hF y0 v8_62.toInt) ∨ (r_30.toInt = (-1) ∧ ¬ hF y0 v8_62.toInt)) := hw
            refine lv_if_lt (tgt := 98) hx hb dX9_play_90 (by decide) (fun c_31 => ?_) (fun c_31 => ?_)
            · skip
              have tc_31 : r_30.toInt < 0 := (fa_lt _ _).mp c_31
              refine lv_aload_n hx hb dX9_play_98 rfl (lv_at hl 6 rfl) ?_
              refine lv_iload hx hb dX9_play_99 (lv_at hl 0 rfl) ?_
              refine lv_lload hx hb dX9_play_101 (lv_at hl 1 rfl) ?_
              refine lv_aload_n hx hb dX9_play_103 rfl (lv_at hl 6 rfl) ?_
              refine va_get (D := (dC, dI)) (ci := 7) (v := .ref p0) (C := RX9) (T := TX9) (N := 28) hx hb hts inX9 hown hK hP 2 rfl rfl 2 (by decide) (hts _ (List.mem_of_getElem? (i := 14) rfl)) (fun _ h9 => h9) rfl dX9_play_104 ?_
              refine lv_iload_n hx hb dX9_play_107 rfl (lv_at hl 7 rfl) ?_
              refine va_lald hx hb hK hP 1 2 rfl rfl (vp_in_iff.mpr ⟨by omega, by omega⟩) dX9_play_108 ?_
              refine lv_topl (fun n_32 en_32 => ?_)
              clear en_32
              have hPc := hP.sub (ws' := [(h0, .inr (7, [.ref a0, v1, .ref p0, v3, v4, .ref t0, .int z6, v7, v8, v9, v10, v11, v12, v13, v14, v15, v16, v17, v18, v19, v20, v21, v22, v23, v24, v25, v26, v27])), (a0, .inl (ac, 38, .inl y0))]) [2, 3] rfl
              have hKc := hK.sub (tys' := [(ac, .int)]) [1] rfl
              have hDc := hD.sub (ws' := [(h0, .inr (7, [.ref a0, v1, .ref p0, v3, v4, .ref t0, .int z6, v7, v8, v9, v10, v11, v12, v13, v14, v15, v16, v17, v18, v19, v20, v21, v22, v23, v24, v25, v26, v27])), (a0, .inl (ac, 38, .inl y0))]) [2, 3] (by decide) rfl
              have hFc := va_free (wc := [(h0, .inr (7, [.ref a0, v1, .ref p0, v3, v4, .ref t0, .int z6, v7, v8, v9, v10, v11, v12, v13, v14, v15, v16, v17, v18, v19, v20, v21, v22, v23, v24, v25, v26, v27])), (a0, .inl (ac, 38, .inl y0))]) hD hS hA [2, 3] rfl
              refine va_calli (va_runV (As := [.int v8_62, .long r_15, .long n_32]) (rest := []) ⟨hx, hb, hml, hown, hts⟩ (m_nearestOff l dC dI ad h0 v8_62 r_15 n_32 a0 v1 (.ref p0) v3 v4 (.ref t0) z6 v7 v8 v9 v10 v11 v12 v13 v14 v15 v16 v17 v18 v19 v20 v21 v22 v23 v24 v25 v26 v27 ac y0 H.size jk_11_3 (by first | omega | decide | (simp only [fa_lt, fa_le, fa_eq, and_true, true_and, and_false, false_and, not_true_eq_false, not_false_eq_true, li_0, li_1, li_2, li_3, li_4, li_5, li_6, li_7, li_8, li_9, li_10, li_12, li_15, li_16, li_20, li_30, li_34, li_38, li_40, li_63, li_64, li_65, li_78, li_120, li_1000, li_4000, li_10000, li_11077, li_255, li_65535, li_m1, li_m2, li_m1000000001, li_m1000000002, li_m1000000003, li_m1000000004, li_m1000000005, li_m1000000006, li_m1000000007, or_true, true_or, or_false, false_or, implies_true, true_implies, false_implies] <;> omega))) (cwV 3 hts g_m_play_m_nearestOff_176 rfl rfl rfl (by decide +kernel) ⟨(Nat.le_of_ble_eq_true rfl), (Nat.le_of_ble_eq_true rfl)⟩) ⟨preM_blind, va_recv hKc hPc (ci := 7) (q0 := 0) rfl rfl, fun U hU hW => ⟨rfl, preM_at hU hW hPc hKc hDc hev⟩⟩ rfl rfl hl.1 rfl (lv_room (Nat.le_of_ble_eq_true rfl)) dX9_play_109 ⟨(Nat.le_of_ble_eq_true rfl), (Nat.le_of_ble_eq_true rfl)⟩) hS (fun q _ h => hFc q h) hFc (fun r_33 u t H1 locs ht hvm hw hB hz1 hk1 hS => ?_)
              obtain ⟨np_34, hP1, hK1, hD1⟩ := hB
              rw [ht] at hP1
              have hK1 := va_K.moved hvm.symm hK1
              obtain ⟨hP, hD⟩ := va_join (wr := [(t0, .inl (tc, 8, .inl tf)), (p0, .inl (pc, 7, .inr (.inl pf)))]) (w1 := [(h0, .inr (7, [.ref a0, v1, .ref p0, v3, v4, .ref t0, .int np_34, v7, v8, v9, v10, v11, v12, v13, v14, v15, v16, v17, v18, v19, v20, v21, v22, v23, v24, v25, v26, v27])), (a0, .inl (ac, 38, .inl y0))]) hP hD [2, 3] [0, 1] rfl rfl (by decide) (by decide) hk1 hFc hP1 hD1
              generalize H1 = H at hP hS ⊢
              have hP : va_P (dC, dI) vwCl [(t0, .inl (tc, 8, .inl tf)), (p0, .inl (pc, 7, .inr (.inl pf))), (h0, .inr (7, [.ref a0, v1, .ref p0, v3, v4, .ref t0, .int np_34, v7, v8, v9, v10, v11, v12, v13, v14, v15, v16, v17, v18, v19, v20, v21, v22, v23, v24, v25, v26, v27])), (a0, .inl (ac, 38, .inl y0))] H := hP
              have hD : va_D A [(t0, .inl (tc, 8, .inl tf)), (p0, .inl (pc, 7, .inr (.inl pf))), (h0, .inr (7, [.ref a0, v1, .ref p0, v3, v4, .ref t0, .int np_34, v7, v8, v9, v10, v11, v12, v13, v14, v15, v16, v17, v18, v19, v20, v21, v22, v23, v24, v25, v26, v27])), (a0, .inl (ac, 38, .inl y0))] := hD
              have hr_33 : r_33.toInt ≤ 65 := hw
              refine lv_istore (lv' := [(9, .int r_33), (8, .int v8_62), (6, .long r_15), (5, .int v5_62), (4, .int v4_62), (3, .int v3_62), (2, .int v2_62), (0, .ref h0), (1, .int a)]) hx hb dX9_play_112 hl (by decide) rfl (fun ls hl => ?_)
              refine lv_iload hx hb dX9_play_114 (lv_at hl 0 rfl) ?_
              refine lv_iload_n hx hb dX9_play_116 rfl (lv_at hl 6 rfl) ?_
              have rc_35_x := pp_rng r_33
              have rc_35_y := pp_rng v2_62
              refine lv_icmp_ge (tgt := 135) hx hb dX9_play_117 (by decide) (fun c_35 => ?_) (fun c_35 => ?_)
              · skip
                have tc_35 : v2_62.toInt ≤ r_33.toInt := (fa_le _ _).mp c_35
                obtain ⟨n_36, en_36⟩ : ∃ y : Int32, y = v8_62 + 1 := ⟨_, rfl⟩
                have tn_36 : n_36.toInt = v8_62.toInt + 1 := pp_add en_36 rfl rfl (by omega) (by omega)
                refine lv_iinc (v := n_36) (lv' := [(8, .int n_36), (9, .int r_33), (6, .long r_15), (5, .int v5_62), (4, .int v4_62), (3, .int v3_62), (2, .int v2_62), (0, .ref h0), (1, .int a)]) hx hb dX9_play_135 hl (k := 1) rfl (by rw [en_36]; rfl) (by decide) rfl (fun ls hl => ?_)
                clear en_36
                refine lv_goto (tgt := 62) hx hb dX9_play_138 (by decide) ?_
                exact ihk_16 (n_36, v5_62, v4_62, v3_62, v2_62, np_34) _ _ _ (by show ((y0 0).toInt - n_36.toInt).toNat < k_16; omega) ⟨(by first | omega | decide | (simp only [fa_lt, fa_le, fa_eq, and_true, true_and, and_false, false_and, not_true_eq_false, not_false_eq_true, li_0, li_1, li_2, li_3, li_4, li_5, li_6, li_7, li_8, li_9, li_10, li_12, li_15, li_16, li_20, li_30, li_34, li_38, li_40, li_63, li_64, li_65, li_78, li_120, li_1000, li_4000, li_10000, li_11077, li_255, li_65535, li_m1, li_m2, li_m1000000001, li_m1000000002, li_m1000000003, li_m1000000004, li_m1000000005, li_m1000000006, li_m1000000007, or_true, true_or, or_false, false_or, implies_true, true_implies, false_implies] <;> omega)), (by first | omega | exact Or.inr ⟨by decide, by omega, by omega, (by assumption)⟩ | (simp only [fa_lt, fa_le, fa_eq, and_true, true_and, and_false, false_and, not_true_eq_false, not_false_eq_true, li_0, li_1, li_2, li_3, li_4, li_5, li_6, li_7, li_8, li_9, li_10, li_12, li_15, li_16, li_20, li_30, li_34, li_38, li_40, li_63, li_64, li_65, li_78, li_120, li_1000, li_4000, li_10000, li_11077, li_255, li_65535, li_m1, li_m2, li_m1000000001, li_m1000000002, li_m1000000003, li_m1000000004, li_m1000000005, li_m1000000006, li_m1000000007, or_true, true_or, or_false, false_or, implies_true, true_implies, false_implies]; omega) | assumption), (by first | omega | decide | (simp only [fa_lt, fa_le, fa_eq, and_true, true_and, and_false, false_and, not_true_eq_false, not_false_eq_true, li_0, li_1, li_2, li_3, li_4, li_5, li_6, li_7, li_8, li_9, li_10, li_12, li_15, li_16, li_20, li_30, li_34, li_38, li_40, li_63, li_64, li_65, li_78, li_120, li_1000, li_4000, li_10000, li_11077, li_255, li_65535, li_m1, li_m2, li_m1000000001, li_m1000000002, li_m1000000003, li_m1000000004, li_m1000000005, li_m1000000006, li_m1000000007, or_true, true_or, or_false, false_or, implies_true, true_implies, false_implies] <;> omega)), hP.sub [0, 1, 2, 3] rfl, hD.sub [0, 1, 2, 3] (by decide) rfl, hS, lv_sub hl [0, 2, 3, 4, 5, 6, 7, 8] rfl⟩
              · skip
                have tc_35 : ¬ v2_62.toInt ≤ r_33.toInt := fun h => c_35 ((fa_le _ _).mpr h)
                refine lv_iload hx hb dX9_play_120 (lv_at hl 0 rfl) ?_
                refine lv_istore_n (lv' := [(2, .int r_33), (9, .int r_33), (8, .int v8_62), (6, .long r_15), (5, .int v5_62), (4, .int v4_62), (3, .int v3_62), (0, .ref h0), (1, .int a)]) hx hb dX9_play_122 rfl hl (by decide) rfl (fun ls hl => ?_)
                refine lv_iload hx hb dX9_play_123 (lv_at hl 2 rfl) ?_
                refine lv_istore_n (lv' := [(3, .int v8_62), (2, .int r_33), (9, .int r_33), (8, .int v8_62), (6, .long r_15), (5, .int v5_62), (4, .int v4_62), (0, .ref h0), (1, .int a)]) hx hb dX9_play_125 rfl hl (by decide) rfl (fun ls hl => ?_)
                refine lv_aload_n hx hb dX9_play_126 rfl (lv_at hl 7 rfl) ?_
                refine va_get (D := (dC, dI)) (ci := 7) (v := .int np_34) (C := RX9) (T := TX9) (N := 28) hx hb hts inX9 hown hK hP 2 rfl rfl 6 (by decide) (hts _ (List.mem_of_getElem? (i := 75) rfl)) (fun _ h9 => h9) rfl dX9_play_127 ?_
                refine lv_istore (lv' := [(4, .int np_34), (3, .int v8_62), (2, .int r_33), (9, .int r_33), (8, .int v8_62), (6, .long r_15), (5, .int v5_62), (0, .ref h0), (1, .int a)]) hx hb dX9_play_130 hl (by decide) rfl (fun ls hl => ?_)
                refine lv_iconst (v := 1) hx hb dX9_play_132 (by decide) ?_
                refine lv_istore (lv' := [(5, .int 1), (4, .int np_34), (3, .int v8_62), (2, .int r_33), (9, .int r_33), (8, .int v8_62), (6, .long r_15), (0, .ref h0), (1, .int a)]) hx hb dX9_play_133 hl (by decide) rfl (fun ls hl => ?_)
                obtain ⟨n_37, en_37⟩ : ∃ y : Int32, y = v8_62 + 1 := ⟨_, rfl⟩
                have tn_37 : n_37.toInt = v8_62.toInt + 1 := pp_add en_37 rfl rfl (by omega) (by omega)
                refine lv_iinc (v := n_37) (lv' := [(8, .int n_37), (5, .int 1), (4, .int np_34), (3, .int v8_62), (2, .int r_33), (9, .int r_33), (6, .long r_15), (0, .ref h0), (1, .int a)]) hx hb dX9_play_135 hl (k := 5) rfl (by rw [en_37]; rfl) (by decide) rfl (fun ls hl => ?_)
                clear en_37
                refine lv_goto (tgt := 62) hx hb dX9_play_138 (by decide) ?_
                exact ihk_16 (n_37, (1 : Int32), np_34, v8_62, r_33, np_34) _ _ _ (by show ((y0 0).toInt - n_37.toInt).toNat < k_16; omega) ⟨(by first | omega | decide | (simp only [fa_lt, fa_le, fa_eq, and_true, true_and, and_false, false_and, not_true_eq_false, not_false_eq_true, li_0, li_1, li_2, li_3, li_4, li_5, li_6, li_7, li_8, li_9, li_10, li_12, li_15, li_16, li_20, li_30, li_34, li_38, li_40, li_63, li_64, li_65, li_78, li_120, li_1000, li_4000, li_10000, li_11077, li_255, li_65535, li_m1, li_m2, li_m1000000001, li_m1000000002, li_m1000000003, li_m1000000004, li_m1000000005, li_m1000000006, li_m1000000007, or_true, true_or, or_false, false_or, implies_true, true_implies, false_implies] <;> omega)), (by first | omega | exact Or.inr ⟨by decide, by omega, by omega, (hF_not hr_30 (by omega))⟩ | (simp only [fa_lt, fa_le, fa_eq, and_true, true_and, and_false, false_and, not_true_eq_false, not_false_eq_true, li_0, li_1, li_2, li_3, li_4, li_5, li_6, li_7, li_8, li_9, li_10, li_12, li_15, li_16, li_20, li_30, li_34, li_38, li_40, li_63, li_64, li_65, li_78, li_120, li_1000, li_4000, li_10000, li_11077, li_255, li_65535, li_m1, li_m2, li_m1000000001, li_m1000000002, li_m1000000003, li_m1000000004, li_m1000000005, li_m1000000006, li_m1000000007, or_true, true_or, or_false, false_or, implies_true, true_implies, false_implies]; omega) | assumption), (by first | omega | decide | (simp only [fa_lt, fa_le, fa_eq, and_true, true_and, and_false, false_and, not_true_eq_false, not_false_eq_true, li_0, li_1, li_2, li_3, li_4, li_5, li_6, li_7, li_8, li_9, li_10, li_12, li_15, li_16, li_20, li_30, li_34, li_38, li_40, li_63, li_64, li_65, li_78, li_120, li_1000, li_4000, li_10000, li_11077, li_255, li_65535, li_m1, li_m2, li_m1000000001, li_m1000000002, li_m1000000003, li_m1000000004, li_m1000000005, li_m1000000006, li_m1000000007, or_true, true_or, or_false, false_or, implies_true, true_implies, false_implies] <;> omega)), hP.sub [0, 1, 2, 3] rfl, hD.sub [0, 1, 2, 3] (by decide) rfl, hS, lv_sub hl [0, 6, 1, 2, 3, 4, 7, 8] rfl⟩
            · skip
              have tc_31 : ¬ r_30.toInt < 0 := fun h => c_31 ((fa_lt _ _).mpr h)
              refine lv_bipush (v := 65) hx hb dX9_play_93 (by decide) ?_
              refine lv_goto (tgt := 112) hx hb dX9_play_95 (by decide) ?_
              refine lv_istore (lv' := [(9, .int 65), (8, .int v8_62), (6, .long r_15), (5, .int v5_62), (4, .int v4_62), (3, .int v3_62), (2, .int v2_62), (0, .ref h0), (1, .int a)]) hx hb dX9_play_112 hl (by decide) rfl (fun ls hl => ?_)
              refine lv_iload hx hb dX9_play_114 (lv_at hl 0 rfl) ?_
              refine lv_iload_n hx hb dX9_play_116 rfl (lv_at hl 6 rfl) ?_
              refine lv_icmp_ge (tgt := 135) hx hb dX9_play_117 (by decide) (fun c_38 => ?_) (fun c_38 => ?_)
              · skip
                have tc_38 : v2_62.toInt ≤ 65 := (fa_le _ _).mp c_38
                obtain ⟨n_39, en_39⟩ : ∃ y : Int32, y = v8_62 + 1 := ⟨_, rfl⟩
                have tn_39 : n_39.toInt = v8_62.toInt + 1 := pp_add en_39 rfl rfl (by omega) (by omega)
                refine lv_iinc (v := n_39) (lv' := [(8, .int n_39), (9, .int 65), (6, .long r_15), (5, .int v5_62), (4, .int v4_62), (3, .int v3_62), (2, .int v2_62), (0, .ref h0), (1, .int a)]) hx hb dX9_play_135 hl (k := 1) rfl (by rw [en_39]; rfl) (by decide) rfl (fun ls hl => ?_)
                clear en_39
                refine lv_goto (tgt := 62) hx hb dX9_play_138 (by decide) ?_
                exact ihk_16 (n_39, v5_62, v4_62, v3_62, v2_62, z6) _ _ _ (by show ((y0 0).toInt - n_39.toInt).toNat < k_16; omega) ⟨(by first | omega | decide | (simp only [fa_lt, fa_le, fa_eq, and_true, true_and, and_false, false_and, not_true_eq_false, not_false_eq_true, li_0, li_1, li_2, li_3, li_4, li_5, li_6, li_7, li_8, li_9, li_10, li_12, li_15, li_16, li_20, li_30, li_34, li_38, li_40, li_63, li_64, li_65, li_78, li_120, li_1000, li_4000, li_10000, li_11077, li_255, li_65535, li_m1, li_m2, li_m1000000001, li_m1000000002, li_m1000000003, li_m1000000004, li_m1000000005, li_m1000000006, li_m1000000007, or_true, true_or, or_false, false_or, implies_true, true_implies, false_implies] <;> omega)), (by first | omega | exact Or.inr ⟨by decide, by omega, by omega, (by assumption)⟩ | (simp only [fa_lt, fa_le, fa_eq, and_true, true_and, and_false, false_and, not_true_eq_false, not_false_eq_true, li_0, li_1, li_2, li_3, li_4, li_5, li_6, li_7, li_8, li_9, li_10, li_12, li_15, li_16, li_20, li_30, li_34, li_38, li_40, li_63, li_64, li_65, li_78, li_120, li_1000, li_4000, li_10000, li_11077, li_255, li_65535, li_m1, li_m2, li_m1000000001, li_m1000000002, li_m1000000003, li_m1000000004, li_m1000000005, li_m1000000006, li_m1000000007, or_true, true_or, or_false, false_or, implies_true, true_implies, false_implies]; omega) | assumption), (by first | omega | decide | (simp only [fa_lt, fa_le, fa_eq, and_true, true_and, and_false, false_and, not_true_eq_false, not_false_eq_true, li_0, li_1, li_2, li_3, li_4, li_5, li_6, li_7, li_8, li_9, li_10, li_12, li_15, li_16, li_20, li_30, li_34, li_38, li_40, li_63, li_64, li_65, li_78, li_120, li_1000, li_4000, li_10000, li_11077, li_255, li_65535, li_m1, li_m2, li_m1000000001, li_m1000000002, li_m1000000003, li_m1000000004, li_m1000000005, li_m1000000006, li_m1000000007, or_true, true_or, or_false, false_or, implies_true, true_implies, false_implies] <;> omega)), hP.sub [0, 1, 2, 3] rfl, hD.sub [0, 1, 2, 3] (by decide) rfl, hS, lv_sub hl [0, 2, 3, 4, 5, 6, 7, 8] rfl⟩
              · skip
                have tc_38 : ¬ v2_62.toInt ≤ 65 := fun h => c_38 ((fa_le _ _).mpr h)
                exfalso; omega
  · skip
    have tc_2 : r_1.toInt = 0 := (fa_eq _ _).mp c_2
    refine lv_aload_n hx hb dX9_play_8 rfl (lv_at hl 0 rfl) ?_
    refine lv_ldc hx hb hown (hts _ (List.mem_of_getElem? (i := 80) rfl)) dX9_play_9 ?_
    have hPc := hP.sub (ws' := [(h0, .inr (7, [.ref a0, v1, .ref p0, v3, v4, .ref t0, .int np, v7, v8, v9, v10, v11, v12, v13, v14, v15, v16, v17, v18, v19, v20, v21, v22, v23, v24, v25, v26, v27])), (t0, .inl (tc, 8, .inl tf))]) [0, 1] rfl
    have hKc := hK.sub (tys' := [(tc, .int)]) [0] rfl
    have hDc := hD.sub (ws' := [(h0, .inr (7, [.ref a0, v1, .ref p0, v3, v4, .ref t0, .int np, v7, v8, v9, v10, v11, v12, v13, v14, v15, v16, v17, v18, v19, v20, v21, v22, v23, v24, v25, v26, v27])), (t0, .inl (tc, 8, .inl tf))]) [0, 1] (by decide) rfl
    have hFc := va_free (wc := [(h0, .inr (7, [.ref a0, v1, .ref p0, v3, v4, .ref t0, .int np, v7, v8, v9, v10, v11, v12, v13, v14, v15, v16, v17, v18, v19, v20, v21, v22, v23, v24, v25, v26, v27])), (t0, .inl (tc, 8, .inl tf))]) hD hS hA [0, 1] rfl
    refine va_calli (va_runV (As := [.int (-1000000001)]) (rest := []) ⟨hx, hb, hml, hown, hts⟩ (mf_beyond l dC dI ad h0 (.ref a0) v1 (.ref p0) v3 v4 t0 (.int np) v7 v8 v9 v10 v11 v12 v13 v14 v15 v16 v17 v18 v19 v20 v21 v22 v23 v24 v25 v26 v27 tc tf s.heap.size ) (cwV 1 hts g_m_play_mf_beyond_84 rfl rfl rfl (by decide +kernel) ⟨(Nat.le_of_ble_eq_true rfl), (Nat.le_of_ble_eq_true rfl)⟩) ⟨preM_blind, va_recv hKc hPc (ci := 7) (q0 := 0) rfl rfl, fun U hU hW => ⟨rfl, preM_at hU hW hPc hKc hDc hev⟩⟩ rfl rfl hl.1 rfl (lv_room (Nat.le_of_ble_eq_true rfl)) dX9_play_11 ⟨(Nat.le_of_ble_eq_true rfl), (Nat.le_of_ble_eq_true rfl)⟩) hS (fun q _ h => hFc q h) hFc (fun r_40 u t H1 locs ht hvm hw hB hz1 hk1 hS => ?_)
    obtain ⟨tg_41, hP1, hK1, hD1⟩ := hB
    rw [ht] at hP1
    have hK1 := va_K.moved hvm.symm hK1
    obtain ⟨hP, hD⟩ := va_join (wr := [(a0, .inl (ac, 38, .inl nf)), (p0, .inl (pc, 7, .inr (.inl pf)))]) (w1 := [(h0, .inr (7, [.ref a0, v1, .ref p0, v3, v4, .ref t0, .int np, v7, v8, v9, v10, v11, v12, v13, v14, v15, v16, v17, v18, v19, v20, v21, v22, v23, v24, v25, v26, v27])), (t0, .inl (tc, 8, .inl tg_41))]) hP hD [0, 1] [2, 3] rfl rfl (by decide) (by decide) hk1 hFc hP1 hD1
    generalize H1 = H at hP hS ⊢
    have hP : va_P (dC, dI) vwCl [(a0, .inl (ac, 38, .inl nf)), (p0, .inl (pc, 7, .inr (.inl pf))), (h0, .inr (7, [.ref a0, v1, .ref p0, v3, v4, .ref t0, .int np, v7, v8, v9, v10, v11, v12, v13, v14, v15, v16, v17, v18, v19, v20, v21, v22, v23, v24, v25, v26, v27])), (t0, .inl (tc, 8, .inl tg_41))] H := hP
    have hD : va_D A [(a0, .inl (ac, 38, .inl nf)), (p0, .inl (pc, 7, .inr (.inl pf))), (h0, .inr (7, [.ref a0, v1, .ref p0, v3, v4, .ref t0, .int np, v7, v8, v9, v10, v11, v12, v13, v14, v15, v16, v17, v18, v19, v20, v21, v22, v23, v24, v25, v26, v27])), (t0, .inl (tc, 8, .inl tg_41))] := hD
    subst hw
    have hP9 := hP.sub (ws' := [(h0, .inr (7, [.ref a0, v1, .ref p0, v3, v4, .ref t0, .int np, v7, v8, v9, v10, v11, v12, v13, v14, v15, v16, v17, v18, v19, v20, v21, v22, v23, v24, v25, v26, v27])), (t0, .inl (tc, 8, .inl tg_41)), (a0, .inl (ac, 38, .inl nf)), (p0, .inl (pc, 7, .inr (.inl pf)))]) [2, 3, 0, 1] rfl
    have hD9 := hD.sub (ws' := [(h0, .inr (7, [.ref a0, v1, .ref p0, v3, v4, .ref t0, .int np, v7, v8, v9, v10, v11, v12, v13, v14, v15, v16, v17, v18, v19, v20, v21, v22, v23, v24, v25, v26, v27])), (t0, .inl (tc, 8, .inl tg_41)), (a0, .inl (ac, 38, .inl nf)), (p0, .inl (pc, 7, .inr (.inl pf)))]) [2, 3, 0, 1] (by decide) rfl
    have hK9 := hK.sub (tys' := [(tc, .int), (ac, .int), (pc, .long)]) [0, 1, 2] rfl
    exact W.iret (v := ((-1000000001) : Int32)) hx hb hr (fun t ht hW => ⟨⟨((-1000000001) : Int32), (), rfl, trivial, tg_41, nf, np, hI, (by first | omega | decide | (simp only [fa_lt, fa_le, fa_eq, and_true, true_and, and_false, false_and, not_true_eq_false, not_false_eq_true, li_0, li_1, li_2, li_3, li_4, li_5, li_6, li_7, li_8, li_9, li_10, li_12, li_15, li_16, li_20, li_30, li_34, li_38, li_40, li_63, li_64, li_65, li_78, li_120, li_1000, li_4000, li_10000, li_11077, li_255, li_65535, li_m1, li_m2, li_m1000000001, li_m1000000002, li_m1000000003, li_m1000000004, li_m1000000005, li_m1000000006, li_m1000000007, or_true, true_or, or_false, false_or, implies_true, true_implies, false_implies] <;> omega)), by rw [ht]; exact hP9, va_K.moved hW.alike hK9, hD9⟩, hS.F ht⟩) hS.2.2 dX9_play_14

