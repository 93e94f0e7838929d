theorem dX5_seek_0 : decode cX5_seek 0 = .ok (.aload_n 0, 1) := by decide +kernel
theorem dX5_seek_1 : decode cX5_seek 1 = .ok (.iconst (-1), 1) := by decide +kernel
theorem dX5_seek_2 : decode cX5_seek 2 = .ok (.putfield 9, 3) := by decide +kernel
theorem dX5_seek_5 : decode cX5_seek 5 = .ok (.aload_n 0, 1) := by decide +kernel
theorem dX5_seek_6 : decode cX5_seek 6 = .ok (.bipush 65, 2) := by decide +kernel
theorem dX5_seek_8 : decode cX5_seek 8 = .ok (.putfield 15, 3) := by decide +kernel
theorem dX5_seek_11 : decode cX5_seek 11 = .ok (.iconst 4, 1) := by decide +kernel
theorem dX5_seek_12 : decode cX5_seek 12 = .ok (.istore 7, 2) := by decide +kernel
theorem dX5_seek_14 : decode cX5_seek 14 = .ok (.iload 7, 2) := by decide +kernel
theorem dX5_seek_16 : decode cX5_seek 16 = .ok (.bipush 11, 2) := by decide +kernel
theorem dX5_seek_18 : decode cX5_seek 18 = .ok (.if_icmp .gt 34, 3) := by decide +kernel
theorem dX5_seek_21 : decode cX5_seek 21 = .ok (.aload_n 1, 1) := by decide +kernel
theorem dX5_seek_22 : decode cX5_seek 22 = .ok (.iload 7, 2) := by decide +kernel
theorem dX5_seek_24 : decode cX5_seek 24 = .ok (.invokevirtual 18, 3) := by decide +kernel
theorem dX5_seek_27 : decode cX5_seek 27 = .ok (.ifCond .eq 19, 3) := by decide +kernel
theorem dX5_seek_30 : decode cX5_seek 30 = .ok (.aload_n 0, 1) := by decide +kernel
theorem dX5_seek_31 : decode cX5_seek 31 = .ok (.aload_n 1, 1) := by decide +kernel
theorem dX5_seek_32 : decode cX5_seek 32 = .ok (.iload_n 2, 1) := by decide +kernel
theorem dX5_seek_33 : decode cX5_seek 33 = .ok (.iload 7, 2) := by decide +kernel
theorem dX5_seek_35 : decode cX5_seek 35 = .ok (.invokevirtual 24, 3) := by decide +kernel
theorem dX5_seek_38 : decode cX5_seek 38 = .ok (.iload 7, 2) := by decide +kernel
theorem dX5_seek_40 : decode cX5_seek 40 = .ok (.lload_n 3, 1) := by decide +kernel
theorem dX5_seek_41 : decode cX5_seek 41 = .ok (.lload 5, 2) := by decide +kernel
theorem dX5_seek_43 : decode cX5_seek 43 = .ok (.invokevirtual 28, 3) := by decide +kernel
theorem dX5_seek_46 : decode cX5_seek 46 = .ok (.iinc 7 1, 3) := by decide +kernel
theorem dX5_seek_49 : decode cX5_seek 49 = .ok (.goto (-35), 3) := by decide +kernel
theorem dX5_seek_52 : decode cX5_seek 52 = .ok (.return_, 1) := by decide +kernel
theorem dX5_seekByWay_0 : decode cX5_seekByWay 0 = .ok (.iconst 0, 1) := by decide +kernel
theorem dX5_seekByWay_1 : decode cX5_seekByWay 1 = .ok (.istore 8, 2) := by decide +kernel
theorem dX5_seekByWay_3 : decode cX5_seekByWay 3 = .ok (.iload 8, 2) := by decide +kernel
theorem dX5_seekByWay_5 : decode cX5_seekByWay 5 = .ok (.bipush 8, 2) := by decide +kernel
theorem dX5_seekByWay_7 : decode cX5_seekByWay 7 = .ok (.if_icmp .ge 70, 3) := by decide +kernel
theorem dX5_seekByWay_10 : decode cX5_seekByWay 10 = .ok (.iconst 0, 1) := by decide +kernel
theorem dX5_seekByWay_11 : decode cX5_seekByWay 11 = .ok (.istore 9, 2) := by decide +kernel
theorem dX5_seekByWay_13 : decode cX5_seekByWay 13 = .ok (.iload 9, 2) := by decide +kernel
theorem dX5_seekByWay_15 : decode cX5_seekByWay 15 = .ok (.bipush 8, 2) := by decide +kernel
theorem dX5_seekByWay_17 : decode cX5_seekByWay 17 = .ok (.if_icmp .ge 54, 3) := by decide +kernel
theorem dX5_seekByWay_20 : decode cX5_seekByWay 20 = .ok (.lload 4, 2) := by decide +kernel
theorem dX5_seekByWay_22 : decode cX5_seekByWay 22 = .ok (.lload_n 1, 1) := by decide +kernel
theorem dX5_seekByWay_23 : decode cX5_seekByWay 23 = .ok (.iload 8, 2) := by decide +kernel
theorem dX5_seekByWay_25 : decode cX5_seekByWay 25 = .ok (.iload 9, 2) := by decide +kernel
theorem dX5_seekByWay_27 : decode cX5_seekByWay 27 = .ok (.invokestatic 32, 3) := by decide +kernel
theorem dX5_seekByWay_30 : decode cX5_seekByWay 30 = .ok (.lor, 1) := by decide +kernel
theorem dX5_seekByWay_31 : decode cX5_seekByWay 31 = .ok (.lload 6, 2) := by decide +kernel
theorem dX5_seekByWay_33 : decode cX5_seekByWay 33 = .ok (.invokestatic 38, 3) := by decide +kernel
theorem dX5_seekByWay_36 : decode cX5_seekByWay 36 = .ok (.istore 10, 2) := by decide +kernel
theorem dX5_seekByWay_38 : decode cX5_seekByWay 38 = .ok (.iload 10, 2) := by decide +kernel
theorem dX5_seekByWay_40 : decode cX5_seekByWay 40 = .ok (.aload_n 0, 1) := by decide +kernel
theorem dX5_seekByWay_41 : decode cX5_seekByWay 41 = .ok (.getfield 15, 3) := by decide +kernel
theorem dX5_seekByWay_44 : decode cX5_seekByWay 44 = .ok (.if_icmp .ge 21, 3) := by decide +kernel
theorem dX5_seekByWay_47 : decode cX5_seekByWay 47 = .ok (.aload_n 0, 1) := by decide +kernel
theorem dX5_seekByWay_48 : decode cX5_seekByWay 48 = .ok (.iload 10, 2) := by decide +kernel
theorem dX5_seekByWay_50 : decode cX5_seekByWay 50 = .ok (.putfield 15, 3) := by decide +kernel
theorem dX5_seekByWay_53 : decode cX5_seekByWay 53 = .ok (.aload_n 0, 1) := by decide +kernel
theorem dX5_seekByWay_54 : decode cX5_seekByWay 54 = .ok (.iload_n 3, 1) := by decide +kernel
theorem dX5_seekByWay_55 : decode cX5_seekByWay 55 = .ok (.iload 8, 2) := by decide +kernel
theorem dX5_seekByWay_57 : decode cX5_seekByWay 57 = .ok (.iload 9, 2) := by decide +kernel
theorem dX5_seekByWay_59 : decode cX5_seekByWay 59 = .ok (.invokestatic 42, 3) := by decide +kernel
theorem dX5_seekByWay_62 : decode cX5_seekByWay 62 = .ok (.putfield 9, 3) := by decide +kernel
theorem dX5_seekByWay_65 : decode cX5_seekByWay 65 = .ok (.iinc 9 1, 3) := by decide +kernel
theorem dX5_seekByWay_68 : decode cX5_seekByWay 68 = .ok (.goto (-55), 3) := by decide +kernel
theorem dX5_seekByWay_71 : decode cX5_seekByWay 71 = .ok (.iinc 8 1, 3) := by decide +kernel
theorem dX5_seekByWay_74 : decode cX5_seekByWay 74 = .ok (.goto (-71), 3) := by decide +kernel
theorem dX5_seekByWay_77 : decode cX5_seekByWay 77 = .ok (.return_, 1) := by decide +kernel
theorem dX5_nearestOnes_0 : decode cX5_nearestOnes 0 = .ok (.iconst 0, 1) := by decide +kernel
theorem dX5_nearestOnes_1 : decode cX5_nearestOnes 1 = .ok (.istore_n 3, 1) := by decide +kernel
theorem dX5_nearestOnes_2 : decode cX5_nearestOnes 2 = .ok (.bipush 65, 2) := by decide +kernel
theorem dX5_nearestOnes_4 : decode cX5_nearestOnes 4 = .ok (.istore 4, 2) := by decide +kernel
theorem dX5_nearestOnes_6 : decode cX5_nearestOnes 6 = .ok (.iconst 0, 1) := by decide +kernel
theorem dX5_nearestOnes_7 : decode cX5_nearestOnes 7 = .ok (.istore 5, 2) := by decide +kernel
theorem dX5_nearestOnes_9 : decode cX5_nearestOnes 9 = .ok (.iload 5, 2) := by decide +kernel
theorem dX5_nearestOnes_11 : decode cX5_nearestOnes 11 = .ok (.aload_n 1, 1) := by decide +kernel
theorem dX5_nearestOnes_12 : decode cX5_nearestOnes 12 = .ok (.getfield 46, 3) := by decide +kernel
theorem dX5_nearestOnes_15 : decode cX5_nearestOnes 15 = .ok (.if_icmp .ge 68, 3) := by decide +kernel
theorem dX5_nearestOnes_18 : decode cX5_nearestOnes 18 = .ok (.aload_n 1, 1) := by decide +kernel
theorem dX5_nearestOnes_19 : decode cX5_nearestOnes 19 = .ok (.iload 5, 2) := by decide +kernel
theorem dX5_nearestOnes_21 : decode cX5_nearestOnes 21 = .ok (.invokevirtual 49, 3) := by decide +kernel
theorem dX5_nearestOnes_24 : decode cX5_nearestOnes 24 = .ok (.ifCond .eq 6, 3) := by decide +kernel
theorem dX5_nearestOnes_27 : decode cX5_nearestOnes 27 = .ok (.goto 50, 3) := by decide +kernel
theorem dX5_nearestOnes_30 : decode cX5_nearestOnes 30 = .ok (.aload_n 0, 1) := by decide +kernel
theorem dX5_nearestOnes_31 : decode cX5_nearestOnes 31 = .ok (.aload_n 1, 1) := by decide +kernel
theorem dX5_nearestOnes_32 : decode cX5_nearestOnes 32 = .ok (.iload 5, 2) := by decide +kernel
theorem dX5_nearestOnes_34 : decode cX5_nearestOnes 34 = .ok (.lconst 0, 1) := by decide +kernel
theorem dX5_nearestOnes_35 : decode cX5_nearestOnes 35 = .ok (.aload_n 1, 1) := by decide +kernel
theorem dX5_nearestOnes_36 : decode cX5_nearestOnes 36 = .ok (.getfield 52, 3) := by decide +kernel
theorem dX5_nearestOnes_39 : decode cX5_nearestOnes 39 = .ok (.iload_n 2, 1) := by decide +kernel
theorem dX5_nearestOnes_40 : decode cX5_nearestOnes 40 = .ok (.laload, 1) := by decide +kernel
theorem dX5_nearestOnes_41 : decode cX5_nearestOnes 41 = .ok (.invokevirtual 56, 3) := by decide +kernel
theorem dX5_nearestOnes_44 : decode cX5_nearestOnes 44 = .ok (.aload_n 0, 1) := by decide +kernel
theorem dX5_nearestOnes_45 : decode cX5_nearestOnes 45 = .ok (.getfield 15, 3) := by decide +kernel
theorem dX5_nearestOnes_48 : decode cX5_nearestOnes 48 = .ok (.iload 4, 2) := by decide +kernel
theorem dX5_nearestOnes_50 : decode cX5_nearestOnes 50 = .ok (.if_icmp .ge 11, 3) := by decide +kernel
theorem dX5_nearestOnes_53 : decode cX5_nearestOnes 53 = .ok (.aload_n 0, 1) := by decide +kernel
theorem dX5_nearestOnes_54 : decode cX5_nearestOnes 54 = .ok (.getfield 15, 3) := by decide +kernel
theorem dX5_nearestOnes_57 : decode cX5_nearestOnes 57 = .ok (.istore 4, 2) := by decide +kernel
theorem dX5_nearestOnes_59 : decode cX5_nearestOnes 59 = .ok (.iconst 0, 1) := by decide +kernel
theorem dX5_nearestOnes_60 : decode cX5_nearestOnes 60 = .ok (.istore_n 3, 1) := by decide +kernel
theorem dX5_nearestOnes_61 : decode cX5_nearestOnes 61 = .ok (.aload_n 0, 1) := by decide +kernel
theorem dX5_nearestOnes_62 : decode cX5_nearestOnes 62 = .ok (.getfield 15, 3) := by decide +kernel
theorem dX5_nearestOnes_65 : decode cX5_nearestOnes 65 = .ok (.iload 4, 2) := by decide +kernel
theorem dX5_nearestOnes_67 : decode cX5_nearestOnes 67 = .ok (.if_icmp .ne 10, 3) := by decide +kernel
theorem dX5_nearestOnes_70 : decode cX5_nearestOnes 70 = .ok (.iload_n 3, 1) := by decide +kernel
theorem dX5_nearestOnes_71 : decode cX5_nearestOnes 71 = .ok (.iconst 1, 1) := by decide +kernel
theorem dX5_nearestOnes_72 : decode cX5_nearestOnes 72 = .ok (.iload 5, 2) := by decide +kernel
theorem dX5_nearestOnes_74 : decode cX5_nearestOnes 74 = .ok (.ishl, 1) := by decide +kernel
theorem dX5_nearestOnes_75 : decode cX5_nearestOnes 75 = .ok (.ior, 1) := by decide +kernel
theorem dX5_nearestOnes_76 : decode cX5_nearestOnes 76 = .ok (.istore_n 3, 1) := by decide +kernel
theorem dX5_nearestOnes_77 : decode cX5_nearestOnes 77 = .ok (.iinc 5 1, 3) := by decide +kernel
theorem dX5_nearestOnes_80 : decode cX5_nearestOnes 80 = .ok (.goto (-71), 3) := by decide +kernel
theorem dX5_nearestOnes_83 : decode cX5_nearestOnes 83 = .ok (.iload_n 3, 1) := by decide +kernel
theorem dX5_nearestOnes_84 : decode cX5_nearestOnes 84 = .ok (.ireturn, 1) := by decide +kernel
theorem dX5_addOne_0 : decode cX5_addOne 0 = .ok (.lload_n 3, 1) := by decide +kernel
theorem dX5_addOne_1 : decode cX5_addOne 1 = .ok (.lload 5, 2) := by decide +kernel
theorem dX5_addOne_3 : decode cX5_addOne 3 = .ok (.invokestatic 38, 3) := by decide +kernel
theorem dX5_addOne_6 : decode cX5_addOne 6 = .ok (.istore 7, 2) := by decide +kernel
theorem dX5_addOne_8 : decode cX5_addOne 8 = .ok (.iconst (-1), 1) := by decide +kernel
theorem dX5_addOne_9 : decode cX5_addOne 9 = .ok (.istore 8, 2) := by decide +kernel
theorem dX5_addOne_11 : decode cX5_addOne 11 = .ok (.iconst (-1), 1) := by decide +kernel
theorem dX5_addOne_12 : decode cX5_addOne 12 = .ok (.istore 9, 2) := by decide +kernel
theorem dX5_addOne_14 : decode cX5_addOne 14 = .ok (.iconst 0, 1) := by decide +kernel
theorem dX5_addOne_15 : decode cX5_addOne 15 = .ok (.istore 10, 2) := by decide +kernel
theorem dX5_addOne_17 : decode cX5_addOne 17 = .ok (.iload 10, 2) := by decide +kernel
theorem dX5_addOne_19 : decode cX5_addOne 19 = .ok (.aload_n 1, 1) := by decide +kernel
theorem dX5_addOne_20 : decode cX5_addOne 20 = .ok (.getfield 46, 3) := by decide +kernel
theorem dX5_addOne_23 : decode cX5_addOne 23 = .ok (.if_icmp .ge 65, 3) := by decide +kernel
theorem dX5_addOne_26 : decode cX5_addOne 26 = .ok (.aload_n 1, 1) := by decide +kernel
theorem dX5_addOne_27 : decode cX5_addOne 27 = .ok (.iload 10, 2) := by decide +kernel
theorem dX5_addOne_29 : decode cX5_addOne 29 = .ok (.invokevirtual 49, 3) := by decide +kernel
theorem dX5_addOne_32 : decode cX5_addOne 32 = .ok (.ifCond .ne 50, 3) := by decide +kernel
theorem dX5_addOne_35 : decode cX5_addOne 35 = .ok (.aload_n 1, 1) := by decide +kernel
theorem dX5_addOne_36 : decode cX5_addOne 36 = .ok (.iload 10, 2) := by decide +kernel
theorem dX5_addOne_38 : decode cX5_addOne 38 = .ok (.invokevirtual 60, 3) := by decide +kernel
theorem dX5_addOne_41 : decode cX5_addOne 41 = .ok (.ifCond .lt 6, 3) := by decide +kernel
theorem dX5_addOne_44 : decode cX5_addOne 44 = .ok (.goto 38, 3) := by decide +kernel
theorem dX5_addOne_47 : decode cX5_addOne 47 = .ok (.aload_n 0, 1) := by decide +kernel
theorem dX5_addOne_48 : decode cX5_addOne 48 = .ok (.aload_n 1, 1) := by decide +kernel
theorem dX5_addOne_49 : decode cX5_addOne 49 = .ok (.iload 10, 2) := by decide +kernel
theorem dX5_addOne_51 : decode cX5_addOne 51 = .ok (.lload_n 3, 1) := by decide +kernel
theorem dX5_addOne_52 : decode cX5_addOne 52 = .ok (.lload 5, 2) := by decide +kernel
theorem dX5_addOne_54 : decode cX5_addOne 54 = .ok (.invokevirtual 56, 3) := by decide +kernel
theorem dX5_addOne_57 : decode cX5_addOne 57 = .ok (.aload_n 0, 1) := by decide +kernel
theorem dX5_addOne_58 : decode cX5_addOne 58 = .ok (.getfield 15, 3) := by decide +kernel
theorem dX5_addOne_61 : decode cX5_addOne 61 = .ok (.iload 7, 2) := by decide +kernel
theorem dX5_addOne_63 : decode cX5_addOne 63 = .ok (.if_icmp .ge 19, 3) := by decide +kernel
theorem dX5_addOne_66 : decode cX5_addOne 66 = .ok (.aload_n 0, 1) := by decide +kernel
theorem dX5_addOne_67 : decode cX5_addOne 67 = .ok (.getfield 15, 3) := by decide +kernel
theorem dX5_addOne_70 : decode cX5_addOne 70 = .ok (.istore 7, 2) := by decide +kernel
theorem dX5_addOne_72 : decode cX5_addOne 72 = .ok (.iload 10, 2) := by decide +kernel
theorem dX5_addOne_74 : decode cX5_addOne 74 = .ok (.istore 8, 2) := by decide +kernel
theorem dX5_addOne_76 : decode cX5_addOne 76 = .ok (.aload_n 0, 1) := by decide +kernel
theorem dX5_addOne_77 : decode cX5_addOne 77 = .ok (.getfield 9, 3) := by decide +kernel
theorem dX5_addOne_80 : decode cX5_addOne 80 = .ok (.istore 9, 2) := by decide +kernel
theorem dX5_addOne_82 : decode cX5_addOne 82 = .ok (.iinc 10 1, 3) := by decide +kernel
theorem dX5_addOne_85 : decode cX5_addOne 85 = .ok (.goto (-68), 3) := by decide +kernel
theorem dX5_addOne_88 : decode cX5_addOne 88 = .ok (.iload 8, 2) := by decide +kernel
theorem dX5_addOne_90 : decode cX5_addOne 90 = .ok (.ifCond .ge 5, 3) := by decide +kernel
theorem dX5_addOne_93 : decode cX5_addOne 93 = .ok (.iconst 0, 1) := by decide +kernel
theorem dX5_addOne_94 : decode cX5_addOne 94 = .ok (.ireturn, 1) := by decide +kernel
theorem dX5_addOne_95 : decode cX5_addOne 95 = .ok (.aload_n 1, 1) := by decide +kernel
theorem dX5_addOne_96 : decode cX5_addOne 96 = .ok (.iload_n 2, 1) := by decide +kernel
theorem dX5_addOne_97 : decode cX5_addOne 97 = .ok (.iload 8, 2) := by decide +kernel
theorem dX5_addOne_99 : decode cX5_addOne 99 = .ok (.iload 9, 2) := by decide +kernel
theorem dX5_addOne_101 : decode cX5_addOne 101 = .ok (.invokevirtual 64, 3) := by decide +kernel
theorem dX5_addOne_104 : decode cX5_addOne 104 = .ok (.iconst 1, 1) := by decide +kernel
theorem dX5_addOne_105 : decode cX5_addOne 105 = .ok (.ireturn, 1) := by decide +kernel
theorem dX5_placingsWithin_0 : decode cX5_placingsWithin 0 = .ok (.iconst 0, 1) := by decide +kernel
theorem dX5_placingsWithin_1 : decode cX5_placingsWithin 1 = .ok (.istore 5, 2) := by decide +kernel
theorem dX5_placingsWithin_3 : decode cX5_placingsWithin 3 = .ok (.iconst 4, 1) := by decide +kernel
theorem dX5_placingsWithin_4 : decode cX5_placingsWithin 4 = .ok (.istore 6, 2) := by decide +kernel
theorem dX5_placingsWithin_6 : decode cX5_placingsWithin 6 = .ok (.iload 6, 2) := by decide +kernel
theorem dX5_placingsWithin_8 : decode cX5_placingsWithin 8 = .ok (.bipush 11, 2) := by decide +kernel
theorem dX5_placingsWithin_10 : decode cX5_placingsWithin 10 = .ok (.if_icmp .gt 34, 3) := by decide +kernel
theorem dX5_placingsWithin_13 : decode cX5_placingsWithin 13 = .ok (.aload_n 1, 1) := by decide +kernel
theorem dX5_placingsWithin_14 : decode cX5_placingsWithin 14 = .ok (.iload 6, 2) := by decide +kernel
theorem dX5_placingsWithin_16 : decode cX5_placingsWithin 16 = .ok (.invokevirtual 18, 3) := by decide +kernel
theorem dX5_placingsWithin_19 : decode cX5_placingsWithin 19 = .ok (.ifCond .eq 19, 3) := by decide +kernel
theorem dX5_placingsWithin_22 : decode cX5_placingsWithin 22 = .ok (.iload 5, 2) := by decide +kernel
theorem dX5_placingsWithin_24 : decode cX5_placingsWithin 24 = .ok (.aload_n 1, 1) := by decide +kernel
theorem dX5_placingsWithin_25 : decode cX5_placingsWithin 25 = .ok (.iload_n 2, 1) := by decide +kernel
theorem dX5_placingsWithin_26 : decode cX5_placingsWithin 26 = .ok (.iload 6, 2) := by decide +kernel
theorem dX5_placingsWithin_28 : decode cX5_placingsWithin 28 = .ok (.invokevirtual 24, 3) := by decide +kernel
theorem dX5_placingsWithin_31 : decode cX5_placingsWithin 31 = .ok (.lload_n 3, 1) := by decide +kernel
theorem dX5_placingsWithin_32 : decode cX5_placingsWithin 32 = .ok (.invokestatic 68, 3) := by decide +kernel
theorem dX5_placingsWithin_35 : decode cX5_placingsWithin 35 = .ok (.iadd, 1) := by decide +kernel
theorem dX5_placingsWithin_36 : decode cX5_placingsWithin 36 = .ok (.istore 5, 2) := by decide +kernel
theorem dX5_placingsWithin_38 : decode cX5_placingsWithin 38 = .ok (.iinc 6 1, 3) := by decide +kernel
theorem dX5_placingsWithin_41 : decode cX5_placingsWithin 41 = .ok (.goto (-35), 3) := by decide +kernel
theorem dX5_placingsWithin_44 : decode cX5_placingsWithin 44 = .ok (.iload 5, 2) := by decide +kernel
theorem dX5_placingsWithin_46 : decode cX5_placingsWithin 46 = .ok (.ireturn, 1) := by decide +kernel
theorem dX5_placesWithin_0 : decode cX5_placesWithin 0 = .ok (.iconst 0, 1) := by decide +kernel
theorem dX5_placesWithin_1 : decode cX5_placesWithin 1 = .ok (.istore 4, 2) := by decide +kernel
theorem dX5_placesWithin_3 : decode cX5_placesWithin 3 = .ok (.iconst 0, 1) := by decide +kernel
theorem dX5_placesWithin_4 : decode cX5_placesWithin 4 = .ok (.istore 5, 2) := by decide +kernel
theorem dX5_placesWithin_6 : decode cX5_placesWithin 6 = .ok (.iload 5, 2) := by decide +kernel
theorem dX5_placesWithin_8 : decode cX5_placesWithin 8 = .ok (.bipush 8, 2) := by decide +kernel
theorem dX5_placesWithin_10 : decode cX5_placesWithin 10 = .ok (.if_icmp .ge 58, 3) := by decide +kernel
theorem dX5_placesWithin_13 : decode cX5_placesWithin 13 = .ok (.iconst 0, 1) := by decide +kernel
theorem dX5_placesWithin_14 : decode cX5_placesWithin 14 = .ok (.istore 6, 2) := by decide +kernel
theorem dX5_placesWithin_16 : decode cX5_placesWithin 16 = .ok (.iload 6, 2) := by decide +kernel
theorem dX5_placesWithin_18 : decode cX5_placesWithin 18 = .ok (.bipush 8, 2) := by decide +kernel
theorem dX5_placesWithin_20 : decode cX5_placesWithin 20 = .ok (.if_icmp .ge 42, 3) := by decide +kernel
theorem dX5_placesWithin_23 : decode cX5_placesWithin 23 = .ok (.lload_n 0, 1) := by decide +kernel
theorem dX5_placesWithin_24 : decode cX5_placesWithin 24 = .ok (.iload 5, 2) := by decide +kernel
theorem dX5_placesWithin_26 : decode cX5_placesWithin 26 = .ok (.iload 6, 2) := by decide +kernel
theorem dX5_placesWithin_28 : decode cX5_placesWithin 28 = .ok (.invokestatic 32, 3) := by decide +kernel
theorem dX5_placesWithin_31 : decode cX5_placesWithin 31 = .ok (.lstore 7, 2) := by decide +kernel
theorem dX5_placesWithin_33 : decode cX5_placesWithin 33 = .ok (.lload 7, 2) := by decide +kernel
theorem dX5_placesWithin_35 : decode cX5_placesWithin 35 = .ok (.lconst 0, 1) := by decide +kernel
theorem dX5_placesWithin_36 : decode cX5_placesWithin 36 = .ok (.lcmp, 1) := by decide +kernel
theorem dX5_placesWithin_37 : decode cX5_placesWithin 37 = .ok (.ifCond .eq 19, 3) := by decide +kernel
theorem dX5_placesWithin_40 : decode cX5_placesWithin 40 = .ok (.lload 7, 2) := by decide +kernel
theorem dX5_placesWithin_42 : decode cX5_placesWithin 42 = .ok (.lload_n 2, 1) := by decide +kernel
theorem dX5_placesWithin_43 : decode cX5_placesWithin 43 = .ok (.ldc2_w 71, 3) := by decide +kernel
theorem dX5_placesWithin_46 : decode cX5_placesWithin 46 = .ok (.lxor, 1) := by decide +kernel
theorem dX5_placesWithin_47 : decode cX5_placesWithin 47 = .ok (.land, 1) := by decide +kernel
theorem dX5_placesWithin_48 : decode cX5_placesWithin 48 = .ok (.lconst 0, 1) := by decide +kernel
theorem dX5_placesWithin_49 : decode cX5_placesWithin 49 = .ok (.lcmp, 1) := by decide +kernel
theorem dX5_placesWithin_50 : decode cX5_placesWithin 50 = .ok (.ifCond .ne 6, 3) := by decide +kernel
theorem dX5_placesWithin_53 : decode cX5_placesWithin 53 = .ok (.iinc 4 1, 3) := by decide +kernel
theorem dX5_placesWithin_56 : decode cX5_placesWithin 56 = .ok (.iinc 6 1, 3) := by decide +kernel
theorem dX5_placesWithin_59 : decode cX5_placesWithin 59 = .ok (.goto (-43), 3) := by decide +kernel
theorem dX5_placesWithin_62 : decode cX5_placesWithin 62 = .ok (.iinc 5 1, 3) := by decide +kernel
theorem dX5_placesWithin_65 : decode cX5_placesWithin 65 = .ok (.goto (-59), 3) := by decide +kernel
theorem dX5_placesWithin_68 : decode cX5_placesWithin 68 = .ok (.iload 4, 2) := by decide +kernel
theorem dX5_placesWithin_70 : decode cX5_placesWithin 70 = .ok (.ireturn, 1) := by decide +kernel
def w_r_seekByWay : List Cond := .code yX5_seekByWay cX5_seekByWay 11 none :: (([.methodLink RX5 32 yX1_moved, .static yX1_moved, .initialized RX1, .code yX1_moved cX1_moved 6 (some .long), .constantLong RX1 13 (72340172838076673), .methodLink RX5 38 yX1_cellsOff, .static yX1_cellsOff, .code yX1_cellsOff cX1_cellsOff 4 (some .int), .methodLink RX1 15 yJ13_bitCount_95d88, .static yJ13_bitCount_95d88, .initialized RJ13, .code yJ13_bitCount_95d88 cJ13_bitCount_95d88 2 (some .int), .constantLong RJ13 314 (6148914691236517205), .constantLong RJ13 316 (3689348814741910323), .constantLong RJ13 318 (1085102592571150095), .fieldLink RX5 15 "LampShapes$Search" "least" "I", .methodLink RX5 42 yX1_placingAt, .static yX1_placingAt, .code yX1_placingAt cX1_placingAt 3 (some .int), .fieldLink RX5 9 "LampShapes$Search" "placing" "I"] : List Cond) ++ wsX50)
set_option maxRecDepth 20000 in
theorem g_r_seekByWay_l_moved_32 : GoodIn w_r_seekByWay (va_wsS RX5 32 yX1_moved w_l_moved) := goodIn_r _ [1, 2, 3, 4, 5] rfl (by decide +kernel)
set_option maxRecDepth 20000 in
theorem g_r_seekByWay_l_cellsOff_38 : GoodIn w_r_seekByWay (va_wsS RX5 38 yX1_cellsOff w_l_cellsOff) := goodIn_r _ [6, 7, 3, 8, 9, 10, 11, 12, 13, 14, 15] rfl (by decide +kernel)
set_option maxRecDepth 20000 in
theorem g_r_seekByWay_l_placingAt_42 : GoodIn w_r_seekByWay (va_wsS RX5 42 yX1_placingAt w_l_placingAt) := goodIn_r _ [17, 18, 3, 19] rfl (by decide +kernel)
set_option maxHeartbeats 4000000 in
set_option maxRecDepth 100000 in
theorem r_seekByWay (l : Launch) (dC : Nat → ClassId) (dI : Nat → Nat → Nat) (ad : Nat → Nat) (h0 : Nat) (a : Int64) (b : Int32) (d : Int64) (w : Int64) (pl : Int32) (lst : Int32) (sz : Nat) : Met l yX5_seekByWay w_r_seekByWay ({ frames := 2, cells := 0, slots := 0, locals := 44 } : Room) (va_Pc [.ref h0, .long a, .int b, .long d, .long w] (preM dC dI ad [] [(h0, .inr (3, [.int pl, .int lst]))] sz)) (va_Qv (fun (_ : Unit) => True) (fun _ t => ∃ (pl2 : Int32), ∃ (lst2 : Int32), va_P (dC, dI) vwCl [(h0, .inr (3, [.int pl2, .int lst2]))] t.heap ∧ va_K (dC, dI) vwCl [] t ∧ va_D (va_A [(h0, .inr (3, [.int pl, .int lst]))] sz) [(h0, .inr (3, [.int pl2, .int lst2]))]) (va_A [(h0, .inr (3, [.int pl, .int lst]))] sz)) 0 0 (va_A [(h0, .inr (3, [.int pl, .int lst]))] sz) := by
  refine Met.ofW (cc := cX5_seekByWay) (maxL := 11) (ret := none) (by decide) rfl ?_
  intro p e s m args below meth c s₁ B hml hv
  obtain ⟨rfl, hsz, hP, hK, hD0, hev⟩ := hv
  have hx := B.exec
  have hb := B.bytes
  have hr := B.returns
  have hts := atoms_spec (ws := w_r_seekByWay) B.pre
  have hown : s.vm.findClass RX5 = some m.cls := findClass_of_methodNamed B.named
  have hlocks := B.notSynchronized
  have inX5 : ∀ w ∈ wsX50, w ∈ w_r_seekByWay := fun w h => List.mem_cons_of_mem _ (List.mem_append_right _ h)
  subst hsz
  have hD := hD0.self (sz := s.heap.size)
  generalize hAe : va_A [(h0, .inr (3, [.int pl, .int lst]))] s.heap.size = A at hD ⊢
  have hA : ∀ q : Nat, s.heap.size ≤ q → A q := fun q h => by rw [← hAe]; exact Or.inr h
  have hS : va_S A s.heap s.heap [] := va_S.rf
  have hP : va_P (dC, dI) vwCl [(h0, .inr (3, [.int pl, .int lst]))] s.heap := hP
  have hl := lv_entry ([.ref h0, .long a, .int b, .long d, .long w]) (n := 11) (Nat.le_of_ble_eq_true rfl)
  rw [lg_entry_eq]
  generalize (lg_sl ([.ref h0, .long a, .int b, .long d, .long w]) ++ List.replicate (11 - (lg_sl ([.ref h0, .long a, .int b, .long d, .long w])).length) Slot.unset).toArray = ls at hl ⊢
  have hl : lv_has ls 11 [(0, .ref h0), (1, .long a), (3, .int b), (4, .long d), (6, .long w)] := hl
  refine lv_iconst (v := 0) hx hb dX5_seekByWay_0 (by decide) ?_
  refine lv_istore (lv' := [(8, .int 0), (0, .ref h0), (1, .long a), (3, .int b), (4, .long d), (6, .long w)]) hx hb dX5_seekByWay_1 hl (by decide) rfl (fun ls hl => ?_)
  refine pp_loop (ι := Int32 × Int32 × Int32) (fun ⟨v8_3, y0, y1⟩ => (8 - v8_3.toInt).toNat) (fun ⟨v8_3, y0, y1⟩ H locs ls => (0 ≤ v8_3.toInt) ∧ (v8_3.toInt ≤ 8) ∧ va_P (dC, dI) vwCl [(h0, .inr (3, [.int y0, .int y1]))] H ∧ va_D A [(h0, .inr (3, [.int y0, .int y1]))] ∧ va_S A s.heap H locs ∧ lv_has ls 11 [(8, .int v8_3), (0, .ref h0), (1, .long a), (3, .int b), (4, .long d), (6, .long w)]) ?_ (0, pl, lst) _ _ _ ⟨(by first | omega | decide | (simp only [fa_lt, fa_le, fa_eq, and_true, true_and, and_false, false_and, not_true_eq_false, not_false_eq_true, li_0, li_1, li_2, li_3, li_4, li_5, li_6, li_7, li_8, li_9, li_10, li_12, li_15, li_16, li_20, li_30, li_34, li_38, li_40, li_63, li_64, li_65, li_78, li_120, li_1000, li_4000, li_10000, li_11077, li_255, li_65535, li_m1, li_m2, li_m1000000001, li_m1000000002, li_m1000000003, li_m1000000004, li_m1000000005, li_m1000000006, li_m1000000007, or_true, true_or, or_false, false_or, implies_true, true_implies, false_implies] <;> omega)), (by first | omega | decide | (simp only [fa_lt, fa_le, fa_eq, and_true, true_and, and_false, false_and, not_true_eq_false, not_false_eq_true, li_0, li_1, li_2, li_3, li_4, li_5, li_6, li_7, li_8, li_9, li_10, li_12, li_15, li_16, li_20, li_30, li_34, li_38, li_40, li_63, li_64, li_65, li_78, li_120, li_1000, li_4000, li_10000, li_11077, li_255, li_65535, li_m1, li_m2, li_m1000000001, li_m1000000002, li_m1000000003, li_m1000000004, li_m1000000005, li_m1000000006, li_m1000000007, or_true, true_or, or_false, false_or, implies_true, true_implies, false_implies] <;> omega)), hP.sub [0] rfl, hD.sub [0] (by decide) rfl, hS, lv_sub hl [0, 1, 2, 3, 4, 5] rfl⟩
  intro k_1 ihk_1 u H locs ls hm hI
  obtain ⟨v8_3, y0, y1⟩ := u
  obtain ⟨jk_1_0, jk_1_1, hP, hD, hS, hl⟩ := hI
  have hmk_1 : (8 - v8_3.toInt).toNat < k_1 + 1 := hm
  clear hm
  have jk_1_0 : 0 ≤ v8_3.toInt := jk_1_0
  have jk_1_1 : v8_3.toInt ≤ 8 := jk_1_1
  have hl : lv_has ls 11 [(8, .int v8_3), (0, .ref h0), (1, .long a), (3, .int b), (4, .long d), (6, .long w)] := hl
  have hP : va_P (dC, dI) vwCl [(h0, .inr (3, [.int y0, .int y1]))] H := hP
  have hD : va_D A [(h0, .inr (3, [.int y0, .int y1]))] := hD
  refine lv_iload hx hb dX5_seekByWay_3 (lv_at hl 0 rfl) ?_
  refine lv_bipush (v := 8) hx hb dX5_seekByWay_5 (by decide) ?_
  refine lv_icmp_ge (tgt := 77) hx hb dX5_seekByWay_7 (by decide) (fun c_2 => ?_) (fun c_2 => ?_)
  · skip
    have tc_2 : 8 ≤ v8_3.toInt := (fa_le _ _).mp c_2
    have hP9 := hP.sub (ws' := [(h0, .inr (3, [.int y0, .int y1]))]) [0] rfl
    have hD9 := hD.sub (ws' := [(h0, .inr (3, [.int y0, .int y1]))]) [0] (by decide) rfl
    have hK9 := hK.sub (tys' := []) [] rfl
    exact W.vret hx hb hr (fun t ht hW => ⟨⟨(), rfl, trivial, y0, y1, by rw [ht]; exact hP9, va_K.moved hW.alike hK9, hD9⟩, hS.F ht⟩) hS.2.2 dX5_seekByWay_77
  · skip
    have tc_2 : ¬ 8 ≤ v8_3.toInt := fun h => c_2 ((fa_le _ _).mpr h)
    refine lv_iconst (v := 0) hx hb dX5_seekByWay_10 (by decide) ?_
    refine lv_istore (lv' := [(9, .int 0), (8, .int v8_3), (0, .ref h0), (1, .long a), (3, .int b), (4, .long d), (6, .long w)]) hx hb dX5_seekByWay_11 hl (by decide) rfl (fun ls hl => ?_)
    refine pp_loop (ι := Int32 × Int32 × Int32) (fun ⟨v9_13, z0, z1⟩ => (8 - v9_13.toInt).toNat) (fun ⟨v9_13, z0, z1⟩ H locs ls => (0 ≤ v9_13.toInt) ∧ (v9_13.toInt ≤ 8) ∧ va_P (dC, dI) vwCl [(h0, .inr (3, [.int z0, .int z1]))] H ∧ va_D A [(h0, .inr (3, [.int z0, .int z1]))] ∧ va_S A s.heap H locs ∧ lv_has ls 11 [(9, .int v9_13), (8, .int v8_3), (0, .ref h0), (1, .long a), (3, .int b), (4, .long d), (6, .long w)]) ?_ (0, y0, y1) _ _ _ ⟨(by first | omega | decide | (simp only [fa_lt, fa_le, fa_eq, and_true, true_and, and_false, false_and, not_true_eq_false, not_false_eq_true, li_0, li_1, li_2, li_3, li_4, li_5, li_6, li_7, li_8, li_9, li_10, li_12, li_15, li_16, li_20, li_30, li_34, li_38, li_40, li_63, li_64, li_65, li_78, li_120, li_1000, li_4000, li_10000, li_11077, li_255, li_65535, li_m1, li_m2, li_m1000000001, li_m1000000002, li_m1000000003, li_m1000000004, li_m1000000005, li_m1000000006, li_m1000000007, or_true, true_or, or_false, false_or, implies_true, true_implies, false_implies] <;> omega)), (by first | omega | decide | (simp only [fa_lt, fa_le, fa_eq, and_true, true_and, and_false, false_and, not_true_eq_false, not_false_eq_true, li_0, li_1, li_2, li_3, li_4, li_5, li_6, li_7, li_8, li_9, li_10, li_12, li_15, li_16, li_20, li_30, li_34, li_38, li_40, li_63, li_64, li_65, li_78, li_120, li_1000, li_4000, li_10000, li_11077, li_255, li_65535, li_m1, li_m2, li_m1000000001, li_m1000000002, li_m1000000003, li_m1000000004, li_m1000000005, li_m1000000006, li_m1000000007, or_true, true_or, or_false, false_or, implies_true, true_implies, false_implies] <;> omega)), hP.sub [0] rfl, hD.sub [0] (by decide) rfl, hS, lv_sub hl [0, 1, 2, 3, 4, 5, 6] rfl⟩
    intro k_3 ihk_3 u H locs ls hm hI
    obtain ⟨v9_13, z0, z1⟩ := u
    obtain ⟨jk_3_0, jk_3_1, hP, hD, hS, hl⟩ := hI
    have hmk_3 : (8 - v9_13.toInt).toNat < k_3 + 1 := hm
    clear hm
    have jk_3_0 : 0 ≤ v9_13.toInt := jk_3_0
    have jk_3_1 : v9_13.toInt ≤ 8 := jk_3_1
    have hl : lv_has ls 11 [(9, .int v9_13), (8, .int v8_3), (0, .ref h0), (1, .long a), (3, .int b), (4, .long d), (6, .long w)] := hl
    have hP : va_P (dC, dI) vwCl [(h0, .inr (3, [.int z0, .int z1]))] H := hP
    have hD : va_D A [(h0, .inr (3, [.int z0, .int z1]))] := hD
    refine lv_iload hx hb dX5_seekByWay_13 (lv_at hl 0 rfl) ?_
    refine lv_bipush (v := 8) hx hb dX5_seekByWay_15 (by decide) ?_
    refine lv_icmp_ge (tgt := 71) hx hb dX5_seekByWay_17 (by decide) (fun c_4 => ?_) (fun c_4 => ?_)
    · skip
      have tc_4 : 8 ≤ v9_13.toInt := (fa_le _ _).mp c_4
      obtain ⟨n_5, en_5⟩ : ∃ y : Int32, y = v8_3 + 1 := ⟨_, rfl⟩
      have tn_5 : n_5.toInt = v8_3.toInt + 1 := pp_add en_5 rfl rfl (by omega) (by omega)
      refine lv_iinc (v := n_5) (lv' := [(8, .int n_5), (9, .int v9_13), (0, .ref h0), (1, .long a), (3, .int b), (4, .long d), (6, .long w)]) hx hb dX5_seekByWay_71 hl (k := 1) rfl (by rw [en_5]; rfl) (by decide) rfl (fun ls hl => ?_)
      clear en_5
      refine lv_goto (tgt := 3) hx hb dX5_seekByWay_74 (by decide) ?_
      exact ihk_1 (n_5, z0, z1) _ _ _ (by show (8 - n_5.toInt).toNat < k_1; omega) ⟨(by first | omega | decide | (simp only [fa_lt, fa_le, fa_eq, and_true, true_and, and_false, false_and, not_true_eq_false, not_false_eq_true, li_0, li_1, li_2, li_3, li_4, li_5, li_6, li_7, li_8, li_9, li_10, li_12, li_15, li_16, li_20, li_30, li_34, li_38, li_40, li_63, li_64, li_65, li_78, li_120, li_1000, li_4000, li_10000, li_11077, li_255, li_65535, li_m1, li_m2, li_m1000000001, li_m1000000002, li_m1000000003, li_m1000000004, li_m1000000005, li_m1000000006, li_m1000000007, or_true, true_or, or_false, false_or, implies_true, true_implies, false_implies] <;> omega)), (by first | omega | decide | (simp only [fa_lt, fa_le, fa_eq, and_true, true_and, and_false, false_and, not_true_eq_false, not_false_eq_true, li_0, li_1, li_2, li_3, li_4, li_5, li_6, li_7, li_8, li_9, li_10, li_12, li_15, li_16, li_20, li_30, li_34, li_38, li_40, li_63, li_64, li_65, li_78, li_120, li_1000, li_4000, li_10000, li_11077, li_255, li_65535, li_m1, li_m2, li_m1000000001, li_m1000000002, li_m1000000003, li_m1000000004, li_m1000000005, li_m1000000006, li_m1000000007, or_true, true_or, or_false, false_or, implies_true, true_implies, false_implies] <;> omega)), hP.sub [0] rfl, hD.sub [0] (by decide) rfl, hS, lv_sub hl [0, 2, 3, 4, 5, 6] rfl⟩
    · skip
      have tc_4 : ¬ 8 ≤ v9_13.toInt := fun h => c_4 ((fa_le _ _).mpr h)
      refine lv_lload hx hb dX5_seekByWay_20 (lv_at hl 5 rfl) ?_
      refine lv_lload_n hx hb dX5_seekByWay_22 rfl (lv_at hl 3 rfl) ?_
      refine lv_iload hx hb dX5_seekByWay_23 (lv_at hl 1 rfl) ?_
      refine lv_iload hx hb dX5_seekByWay_25 (lv_at hl 0 rfl) ?_
      have hPc := hP.sub (ws' := []) [] rfl
      have hKc := hK.sub (tys' := []) [] rfl
      refine vp_callSl (W.runS (As := [.long a, .int v8_3, .int v9_13]) (rest := [.long d]) ⟨hx, hb, hml, hown, hts⟩ (l_moved l dC dI ad a v8_3 v9_13 ) (va_cwS 3 hts g_r_seekByWay_l_moved_32 rfl rfl rfl (by decide +kernel) ⟨(Nat.le_of_ble_eq_true rfl), (Nat.le_of_ble_eq_true rfl)⟩) ⟨preS_blind, fun U hU hW => ⟨rfl, preS_at hU hW hPc hKc hev⟩⟩ rfl rfl hl.1 rfl (lv_room (Nat.le_of_ble_eq_true rfl)) dX5_seekByWay_27 ⟨(Nat.le_of_ble_eq_true rfl), (Nat.le_of_ble_eq_true rfl)⟩) (fun r_6 hw => ?_)
      refine lv_lor hx hb dX5_seekByWay_30 ?_
      refine lv_topl (fun n_7 en_7 => ?_)
      clear en_7
      refine lv_lload hx hb dX5_seekByWay_31 (lv_at hl 6 rfl) ?_
      have hPc := hP.sub (ws' := []) [] rfl
      have hKc := hK.sub (tys' := []) [] rfl
      refine vp_callSi (W.runS (As := [.long n_7, .long w]) (rest := []) ⟨hx, hb, hml, hown, hts⟩ (l_cellsOff l dC dI ad n_7 w ) (va_cwS 2 hts g_r_seekByWay_l_cellsOff_38 rfl rfl rfl (by decide +kernel) ⟨(Nat.le_of_ble_eq_true rfl), (Nat.le_of_ble_eq_true rfl)⟩) ⟨preS_blind, fun U hU hW => ⟨rfl, preS_at hU hW hPc hKc hev⟩⟩ rfl rfl hl.1 rfl (lv_room (Nat.le_of_ble_eq_true rfl)) dX5_seekByWay_33 ⟨(Nat.le_of_ble_eq_true rfl), (Nat.le_of_ble_eq_true rfl)⟩) (fun r_8 hw => ?_)
      refine lv_istore (lv' := [(10, .int r_8), (9, .int v9_13), (8, .int v8_3), (0, .ref h0), (1, .long a), (3, .int b), (4, .long d), (6, .long w)]) hx hb dX5_seekByWay_36 hl (by decide) rfl (fun ls hl => ?_)
      refine lv_iload hx hb dX5_seekByWay_38 (lv_at hl 0 rfl) ?_
      refine lv_aload_n hx hb dX5_seekByWay_40 rfl (lv_at hl 3 rfl) ?_
      refine va_get (D := (dC, dI)) (ci := 3) (v := .int z1) (C := RX5) (T := TX5) (N := 2) hx hb hts inX5 hown hK hP 0 rfl rfl 1 (by decide) (hts _ (List.mem_of_getElem? (i := 16) rfl)) (fun _ h9 => h9) rfl dX5_seekByWay_41 ?_
      have rc_9_x := pp_rng r_8
      have rc_9_y := pp_rng z1
      refine lv_icmp_ge (tgt := 65) hx hb dX5_seekByWay_44 (by decide) (fun c_9 => ?_) (fun c_9 => ?_)
      · skip
        have tc_9 : z1.toInt ≤ r_8.toInt := (fa_le _ _).mp c_9
        obtain ⟨n_10, en_10⟩ : ∃ y : Int32, y = v9_13 + 1 := ⟨_, rfl⟩
        have tn_10 : n_10.toInt = v9_13.toInt + 1 := pp_add en_10 rfl rfl (by omega) (by omega)
        refine lv_iinc (v := n_10) (lv' := [(9, .int n_10), (10, .int r_8), (8, .int v8_3), (0, .ref h0), (1, .long a), (3, .int b), (4, .long d), (6, .long w)]) hx hb dX5_seekByWay_65 hl (k := 1) rfl (by rw [en_10]; rfl) (by decide) rfl (fun ls hl => ?_)
        clear en_10
        refine lv_goto (tgt := 13) hx hb dX5_seekByWay_68 (by decide) ?_
        exact ihk_3 (n_10, z0, z1) _ _ _ (by show (8 - n_10.toInt).toNat < k_3; omega) ⟨(by first | omega | decide | (simp only [fa_lt, fa_le, fa_eq, and_true, true_and, and_false, false_and, not_true_eq_false, not_false_eq_true, li_0, li_1, li_2, li_3, li_4, li_5, li_6, li_7, li_8, li_9, li_10, li_12, li_15, li_16, li_20, li_30, li_34, li_38, li_40, li_63, li_64, li_65, li_78, li_120, li_1000, li_4000, li_10000, li_11077, li_255, li_65535, li_m1, li_m2, li_m1000000001, li_m1000000002, li_m1000000003, li_m1000000004, li_m1000000005, li_m1000000006, li_m1000000007, or_true, true_or, or_false, false_or, implies_true, true_implies, false_implies] <;> omega)), (by first | omega | decide | (simp only [fa_lt, fa_le, fa_eq, and_true, true_and, and_false, false_and, not_true_eq_false, not_false_eq_true, li_0, li_1, li_2, li_3, li_4, li_5, li_6, li_7, li_8, li_9, li_10, li_12, li_15, li_16, li_20, li_30, li_34, li_38, li_40, li_63, li_64, li_65, li_78, li_120, li_1000, li_4000, li_10000, li_11077, li_255, li_65535, li_m1, li_m2, li_m1000000001, li_m1000000002, li_m1000000003, li_m1000000004, li_m1000000005, li_m1000000006, li_m1000000007, or_true, true_or, or_false, false_or, implies_true, true_implies, false_implies] <;> omega)), hP.sub [0] rfl, hD.sub [0] (by decide) rfl, hS, lv_sub hl [0, 2, 3, 4, 5, 6, 7] rfl⟩
      · skip
        have tc_9 : ¬ z1.toInt ≤ r_8.toInt := fun h => c_9 ((fa_le _ _).mpr h)
        refine lv_aload_n hx hb dX5_seekByWay_47 rfl (lv_at hl 3 rfl) ?_
        refine lv_iload hx hb dX5_seekByWay_48 (lv_at hl 0 rfl) ?_
        refine va_put (D := (dC, dI)) (ci := 3) (v := .int r_8) (ty := .int) (C := RX5) (T := TX5) (N := 2) hx hb hts inX5 tyX5 tyX5_ok nmX5 hown hK hP hD hS 0 rfl rfl 1 (by decide) (hts _ (List.mem_of_getElem? (i := 16) rfl)) (fun _ h9 => h9) rfl (by decide +kernel) rfl rfl (Nat.le_of_ble_eq_true rfl) dX5_seekByWay_50 (fun H locs hP hD hS => ?_)
        have hP : va_P (dC, dI) vwCl [(h0, .inr (3, [.int z0, .int r_8]))] H := hP
        have hD : va_D A [(h0, .inr (3, [.int z0, .int r_8]))] := hD
        refine lv_aload_n hx hb dX5_seekByWay_53 rfl (lv_at hl 3 rfl) ?_
        refine lv_iload_n hx hb dX5_seekByWay_54 rfl (lv_at hl 5 rfl) ?_
        refine lv_iload hx hb dX5_seekByWay_55 (lv_at hl 2 rfl) ?_
        refine lv_iload hx hb dX5_seekByWay_57 (lv_at hl 1 rfl) ?_
        have hPc := hP.sub (ws' := []) [] rfl
        have hKc := hK.sub (tys' := []) [] rfl
        refine vp_callSi (W.runS (As := [.int b, .int v8_3, .int v9_13]) (rest := [.ref h0]) ⟨hx, hb, hml, hown, hts⟩ (l_placingAt l dC dI ad b v8_3 v9_13 ) (va_cwS 3 hts g_r_seekByWay_l_placingAt_42 rfl rfl rfl (by decide +kernel) ⟨(Nat.le_of_ble_eq_true rfl), (Nat.le_of_ble_eq_true rfl)⟩) ⟨preS_blind, fun U hU hW => ⟨rfl, preS_at hU hW hPc hKc hev⟩⟩ rfl rfl hl.1 rfl (lv_room (Nat.le_of_ble_eq_true rfl)) dX5_seekByWay_59 ⟨(Nat.le_of_ble_eq_true rfl), (Nat.le_of_ble_eq_true rfl)⟩) (fun r_11 hw => ?_)
        refine va_put (D := (dC, dI)) (ci := 3) (v := .int r_11) (ty := .int) (C := RX5) (T := TX5) (N := 2) hx hb hts inX5 tyX5 tyX5_ok nmX5 hown hK hP hD hS 0 rfl rfl 0 (by decide) (hts _ (List.mem_of_getElem? (i := 20) rfl)) (fun _ h9 => h9) rfl (by decide +kernel) rfl rfl (Nat.le_of_ble_eq_true rfl) dX5_seekByWay_62 (fun H locs hP hD hS => ?_)
        have hP : va_P (dC, dI) vwCl [(h0, .inr (3, [.int r_11, .int r_8]))] H := hP
        have hD : va_D A [(h0, .inr (3, [.int r_11, .int r_8]))] := hD
        obtain ⟨n_12, en_12⟩ : ∃ y : Int32, y = v9_13 + 1 := ⟨_, rfl⟩
        have tn_12 : n_12.toInt = v9_13.toInt + 1 := pp_add en_12 rfl rfl (by omega) (by omega)
        refine lv_iinc (v := n_12) (lv' := [(9, .int n_12), (10, .int r_8), (8, .int v8_3), (0, .ref h0), (1, .long a), (3, .int b), (4, .long d), (6, .long w)]) hx hb dX5_seekByWay_65 hl (k := 1) rfl (by rw [en_12]; rfl) (by decide) rfl (fun ls hl => ?_)
        clear en_12
        refine lv_goto (tgt := 13) hx hb dX5_seekByWay_68 (by decide) ?_
        exact ihk_3 (n_12, r_11, r_8) _ _ _ (by show (8 - n_12.toInt).toNat < k_3; omega) ⟨(by first | omega | decide | (simp only [fa_lt, fa_le, fa_eq, and_true, true_and, and_false, false_and, not_true_eq_false, not_false_eq_true, li_0, li_1, li_2, li_3, li_4, li_5, li_6, li_7, li_8, li_9, li_10, li_12, li_15, li_16, li_20, li_30, li_34, li_38, li_40, li_63, li_64, li_65, li_78, li_120, li_1000, li_4000, li_10000, li_11077, li_255, li_65535, li_m1, li_m2, li_m1000000001, li_m1000000002, li_m1000000003, li_m1000000004, li_m1000000005, li_m1000000006, li_m1000000007, or_true, true_or, or_false, false_or, implies_true, true_implies, false_implies] <;> omega)), (by first | omega | decide | (simp only [fa_lt, fa_le, fa_eq, and_true, true_and, and_false, false_and, not_true_eq_false, not_false_eq_true, li_0, li_1, li_2, li_3, li_4, li_5, li_6, li_7, li_8, li_9, li_10, li_12, li_15, li_16, li_20, li_30, li_34, li_38, li_40, li_63, li_64, li_65, li_78, li_120, li_1000, li_4000, li_10000, li_11077, li_255, li_65535, li_m1, li_m2, li_m1000000001, li_m1000000002, li_m1000000003, li_m1000000004, li_m1000000005, li_m1000000006, li_m1000000007, or_true, true_or, or_false, false_or, implies_true, true_implies, false_implies] <;> omega)), hP.sub [0] rfl, hD.sub [0] (by decide) rfl, hS, lv_sub hl [0, 2, 3, 4, 5, 6, 7] rfl⟩

def w_r_seek : List Cond := .code yX5_seek cX5_seek 8 none :: (([.fieldLink RX5 9 "LampShapes$Search" "placing" "I", .fieldLink RX5 15 "LampShapes$Search" "least" "I", .methodLink RX5 18 yX6_isAllowed, .instanceMethod yX6_isAllowed, .selects RX6 yX6_isAllowed yX6_isAllowed, .initialized RX6, .code yX6_isAllowed cX6_isAllowed 4 (some .boolean), .fieldLink RX6 38 "LampShapes$Stage" "allowed" "I", .methodLink RX5 24 yX6_cornerBy, .instanceMethod yX6_cornerBy, .selects RX6 yX6_cornerBy yX6_cornerBy, .code yX6_cornerBy cX6_cornerBy 4 (some .long), .fieldLink RX6 15 "LampShapes$Stage" "kinds" "[I", .fieldLink RX6 19 "LampShapes$Stage" "points" "[I", .methodLink RX6 47 yX0_pointsBy, .static yX0_pointsBy, .initialized RX0, .code yX0_pointsBy cX0_pointsBy 3 (some .int), .methodLink RX0 15 yX0_turnedBy, .static yX0_turnedBy, .code yX0_turnedBy cX0_turnedBy 6 (some .int), .methodLink RX0 19 yX0_mirroredBy, .static yX0_mirroredBy, .code yX0_mirroredBy cX0_mirroredBy 2 (some .int), .constant RX0 31 (34952), .methodLink RX0 22 yX0_hollowed, .static yX0_hollowed, .code yX0_hollowed cX0_hollowed 5 (some .int), .constant RX0 32 (61166), .methodLink RX0 25 yX0_doubled, .static yX0_doubled, .code yX0_doubled cX0_doubled 1 (some .int), .constant RX0 33 (65535), .methodLink RX0 28 yX0_filled, .static yX0_filled, .code yX0_filled cX0_filled 6 (some .int), .methodLink RX6 53 yX1_cellsAtCorner, .static yX1_cellsAtCorner, .initialized RX1, .code yX1_cellsAtCorner cX1_cellsAtCorner 8 (some .long), .constantLong RX1 9 (771), .methodLink RX5 28 yX5_seekByWay, .instanceMethod yX5_seekByWay, .selects RX5 yX5_seekByWay yX5_seekByWay, .initialized RX5, .code yX5_seekByWay cX5_seekByWay 11 none, .methodLink RX5 32 yX1_moved, .static yX1_moved, .code yX1_moved cX1_moved 6 (some .long), .constantLong RX1 13 (72340172838076673), .methodLink RX5 38 yX1_cellsOff, .static yX1_cellsOff, .code yX1_cellsOff cX1_cellsOff 4 (some .int), .methodLink RX1 15 yJ13_bitCount_95d88, .static yJ13_bitCount_95d88, .initialized RJ13, .code yJ13_bitCount_95d88 cJ13_bitCount_95d88 2 (some .int), .constantLong RJ13 314 (6148914691236517205), .constantLong RJ13 316 (3689348814741910323), .constantLong RJ13 318 (1085102592571150095), .methodLink RX5 42 yX1_placingAt, .static yX1_placingAt, .code yX1_placingAt cX1_placingAt 3 (some .int)] : List Cond) ++ wsX50 ++ wsX60)
set_option maxRecDepth 20000 in
theorem g_r_seek_s_isAllowed_18 : GoodIn w_r_seek (wsV RX5 18 RX6 yX6_isAllowed w_s_isAllowed) := goodIn_r _ [3, 4, 5, 6, 7, 8, 66, 67, 68, 69, 70, 71, 72, 73, 74] rfl (by decide +kernel)
set_option maxRecDepth 20000 in
theorem g_r_seek_s_cornerBy_24 : GoodIn w_r_seek (wsV RX5 24 RX6 yX6_cornerBy w_s_cornerBy) := goodIn_r _ [9, 10, 11, 6, 12, 13, 14, 15, 16, 17, 18, 19, 20, 21, 22, 23, 24, 25, 26, 27, 28, 29, 30, 31, 32, 33, 34, 35, 36, 37, 38, 39, 40, 41, 66, 67, 68, 69, 70, 71, 72, 73, 74] rfl (by decide +kernel)
set_option maxRecDepth 20000 in
theorem g_r_seek_r_seekByWay_28 : GoodIn w_r_seek (wsV RX5 28 RX5 yX5_seekByWay w_r_seekByWay) := goodIn_r _ [42, 43, 44, 45, 46, 47, 48, 39, 49, 50, 51, 52, 53, 54, 55, 56, 57, 58, 59, 60, 2, 61, 62, 63, 1, 64, 65] rfl (by decide +kernel)
set_option maxHeartbeats 4000000 in
set_option maxRecDepth 100000 in
theorem r_seek (l : Launch) (dC : Nat → ClassId) (dI : Nat → Nat → Nat) (ad : Nat → Nat) (h0 : Nat) (h1 : Nat) (k : Int32) (a : Int64) (b : Int64) (pl : Int32) (lst : Int32) (w0 : Value) (q1 : Nat) (q2 : Nat) (w3 : Value) (w4 : Value) (w5 : Value) (w6 : Value) (w7 : Value) (al : Int32) (c1 : ClassId) (f1 : Nat → Int32) (c2 : ClassId) (f2 : Nat → Int32) (sz : Nat) (hk : 0 ≤ k.toInt ∧ k.toInt ≤ 8) : Met l yX5_seek w_r_seek ({ frames := 3, cells := 0, slots := 0, locals := 74 } : Room) (va_Pc [.ref h0, .ref h1, .int k, .long a, .long b] (preM dC dI ad [(c1, .int), (c2, .int)] [(h0, .inr (3, [.int pl, .int lst])), (h1, .inr (4, [w0, .ref q1, .ref q2, w3, w4, w5, w6, w7, .int al])), (q1, .inl (c1, 9, .inl f1)), (q2, .inl (c2, 9, .inl f2))] sz)) (va_Qv (fun (_ : Unit) => True) (fun _ t => ∃ (pl2 : Int32), ∃ (lst2 : Int32), va_P (dC, dI) vwCl [(h0, .inr (3, [.int pl2, .int lst2])), (h1, .inr (4, [w0, .ref q1, .ref q2, w3, w4, w5, w6, w7, .int al])), (q1, .inl (c1, 9, .inl f1)), (q2, .inl (c2, 9, .inl f2))] t.heap ∧ va_K (dC, dI) vwCl [(c1, .int), (c2, .int)] t ∧ va_D (va_A [(h0, .inr (3, [.int pl, .int lst])), (h1, .inr (4, [w0, .ref q1, .ref q2, w3, w4, w5, w6, w7, .int al])), (q1, .inl (c1, 9, .inl f1)), (q2, .inl (c2, 9, .inl f2))] sz) [(h0, .inr (3, [.int pl2, .int lst2])), (h1, .inr (4, [w0, .ref q1, .ref q2, w3, w4, w5, w6, w7, .int al])), (q1, .inl (c1, 9, .inl f1)), (q2, .inl (c2, 9, .inl f2))]) (va_A [(h0, .inr (3, [.int pl, .int lst])), (h1, .inr (4, [w0, .ref q1, .ref q2, w3, w4, w5, w6, w7, .int al])), (q1, .inl (c1, 9, .inl f1)), (q2, .inl (c2, 9, .inl f2))] sz)) 0 0 (va_A [(h0, .inr (3, [.int pl, .int lst])), (h1, .inr (4, [w0, .ref q1, .ref q2, w3, w4, w5, w6, w7, .int al])), (q1, .inl (c1, 9, .inl f1)), (q2, .inl (c2, 9, .inl f2))] sz) := by
  refine Met.ofW (cc := cX5_seek) (maxL := 8) (ret := none) (by decide) rfl ?_
  intro p e s m args below meth c s₁ B hml hv
  obtain ⟨rfl, hsz, hP, hK, hD0, hev⟩ := hv
  have hx := B.exec
  have hb := B.bytes
  have hr := B.returns
  have hts := atoms_spec (ws := w_r_seek) B.pre
  have hown : s.vm.findClass RX5 = some m.cls := findClass_of_methodNamed B.named
  have hlocks := B.notSynchronized
  have inX5 : ∀ w ∈ wsX50, w ∈ w_r_seek := fun w h => List.mem_cons_of_mem _ (List.mem_append_left _ (List.mem_append_right _ h))
  have inX6 : ∀ w ∈ wsX60, w ∈ w_r_seek := fun w h => List.mem_cons_of_mem _ (List.mem_append_right _ h)
  subst hsz
  have hD := hD0.self (sz := s.heap.size)
  generalize hAe : va_A [(h0, .inr (3, [.int pl, .int lst])), (h1, .inr (4, [w0, .ref q1, .ref q2, w3, w4, w5, w6, w7, .int al])), (q1, .inl (c1, 9, .inl f1)), (q2, .inl (c2, 9, .inl f2))] s.heap.size = A at hD ⊢
  have hA : ∀ q : Nat, s.heap.size ≤ q → A q := fun q h => by rw [← hAe]; exact Or.inr h
  have hS : va_S A s.heap s.heap [] := va_S.rf
  have hP : va_P (dC, dI) vwCl [(h0, .inr (3, [.int pl, .int lst])), (h1, .inr (4, [w0, .ref q1, .ref q2, w3, w4, w5, w6, w7, .int al])), (q1, .inl (c1, 9, .inl f1)), (q2, .inl (c2, 9, .inl f2))] s.heap := hP
  have hl := lv_entry ([.ref h0, .ref h1, .int k, .long a, .long b]) (n := 8) (Nat.le_of_ble_eq_true rfl)
  rw [lg_entry_eq]
  generalize (lg_sl ([.ref h0, .ref h1, .int k, .long a, .long b]) ++ List.replicate (8 - (lg_sl ([.ref h0, .ref h1, .int k, .long a, .long b])).length) Slot.unset).toArray = ls at hl ⊢
  have hl : lv_has ls 8 [(0, .ref h0), (1, .ref h1), (2, .int k), (3, .long a), (5, .long b)] := hl
  refine lv_aload_n hx hb dX5_seek_0 rfl (lv_at hl 0 rfl) ?_
  refine lv_iconst (v := (-1)) hx hb dX5_seek_1 (by decide) ?_
  refine va_put (D := (dC, dI)) (ci := 3) (v := .int (-1)) (ty := .int) (C := RX5) (T := TX5) (N := 2) hx hb hts inX5 tyX5 tyX5_ok nmX5 hown hK hP hD hS 0 rfl rfl 0 (by decide) (hts _ (List.mem_of_getElem? (i := 1) rfl)) (fun _ h9 => h9) rfl (by decide +kernel) rfl rfl (Nat.le_of_ble_eq_true rfl) dX5_seek_2 (fun H locs hP hD hS => ?_)
  have hP : va_P (dC, dI) vwCl [(h0, .inr (3, [.int (-1), .int lst])), (h1, .inr (4, [w0, .ref q1, .ref q2, w3, w4, w5, w6, w7, .int al])), (q1, .inl (c1, 9, .inl f1)), (q2, .inl (c2, 9, .inl f2))] H := hP
  have hD : va_D A [(h0, .inr (3, [.int (-1), .int lst])), (h1, .inr (4, [w0, .ref q1, .ref q2, w3, w4, w5, w6, w7, .int al])), (q1, .inl (c1, 9, .inl f1)), (q2, .inl (c2, 9, .inl f2))] := hD
  refine lv_aload_n hx hb dX5_seek_5 rfl (lv_at hl 0 rfl) ?_
  refine lv_bipush (v := 65) hx hb dX5_seek_6 (by decide) ?_
  refine va_put (D := (dC, dI)) (ci := 3) (v := .int 65) (ty := .int) (C := RX5) (T := TX5) (N := 2) hx hb hts inX5 tyX5 tyX5_ok nmX5 hown hK hP hD hS 0 rfl rfl 1 (by decide) (hts _ (List.mem_of_getElem? (i := 2) rfl)) (fun _ h9 => h9) rfl (by decide +kernel) rfl rfl (Nat.le_of_ble_eq_true rfl) dX5_seek_8 (fun H locs hP hD hS => ?_)
  have hP : va_P (dC, dI) vwCl [(h0, .inr (3, [.int (-1), .int 65])), (h1, .inr (4, [w0, .ref q1, .ref q2, w3, w4, w5, w6, w7, .int al])), (q1, .inl (c1, 9, .inl f1)), (q2, .inl (c2, 9, .inl f2))] H := hP
  have hD : va_D A [(h0, .inr (3, [.int (-1), .int 65])), (h1, .inr (4, [w0, .ref q1, .ref q2, w3, w4, w5, w6, w7, .int al])), (q1, .inl (c1, 9, .inl f1)), (q2, .inl (c2, 9, .inl f2))] := hD
  refine lv_iconst (v := 4) hx hb dX5_seek_11 (by decide) ?_
  refine lv_istore (lv' := [(7, .int 4), (0, .ref h0), (1, .ref h1), (2, .int k), (3, .long a), (5, .long b)]) hx hb dX5_seek_12 hl (by decide) rfl (fun ls hl => ?_)
  refine pp_loop (ι := Int32 × Int32 × Int32) (fun ⟨v7_14, y0, y1⟩ => (11 + 1 - v7_14.toInt).toNat) (fun ⟨v7_14, y0, y1⟩ H locs ls => (4 ≤ v7_14.toInt) ∧ (v7_14.toInt ≤ 12) ∧ va_P (dC, dI) vwCl [(h0, .inr (3, [.int y0, .int y1])), (h1, .inr (4, [w0, .ref q1, .ref q2, w3, w4, w5, w6, w7, .int al])), (q1, .inl (c1, 9, .inl f1)), (q2, .inl (c2, 9, .inl f2))] H ∧ va_D A [(h0, .inr (3, [.int y0, .int y1])), (h1, .inr (4, [w0, .ref q1, .ref q2, w3, w4, w5, w6, w7, .int al])), (q1, .inl (c1, 9, .inl f1)), (q2, .inl (c2, 9, .inl f2))] ∧ va_S A s.heap H locs ∧ lv_has ls 8 [(7, .int v7_14), (0, .ref h0), (1, .ref h1), (2, .int k), (3, .long a), (5, .long b)]) ?_ (4, (-1), 65) _ _ _ ⟨(by first | omega | decide | (simp only [fa_lt, fa_le, fa_eq, and_true, true_and, and_false, false_and, not_true_eq_false, not_false_eq_true, li_0, li_1, li_2, li_3, li_4, li_5, li_6, li_7, li_8, li_9, li_10, li_12, li_15, li_16, li_20, li_30, li_34, li_38, li_40, li_63, li_64, li_65, li_78, li_120, li_1000, li_4000, li_10000, li_11077, li_255, li_65535, li_m1, li_m2, li_m1000000001, li_m1000000002, li_m1000000003, li_m1000000004, li_m1000000005, li_m1000000006, li_m1000000007, or_true, true_or, or_false, false_or, implies_true, true_implies, false_implies] <;> omega)), (by first | omega | decide | (simp only [fa_lt, fa_le, fa_eq, and_true, true_and, and_false, false_and, not_true_eq_false, not_false_eq_true, li_0, li_1, li_2, li_3, li_4, li_5, li_6, li_7, li_8, li_9, li_10, li_12, li_15, li_16, li_20, li_30, li_34, li_38, li_40, li_63, li_64, li_65, li_78, li_120, li_1000, li_4000, li_10000, li_11077, li_255, li_65535, li_m1, li_m2, li_m1000000001, li_m1000000002, li_m1000000003, li_m1000000004, li_m1000000005, li_m1000000006, li_m1000000007, or_true, true_or, or_false, false_or, implies_true, true_implies, false_implies] <;> omega)), hP.sub [0, 1, 2, 3] rfl, hD.sub [0, 1, 2, 3] (by decide) rfl, hS, lv_sub hl [0, 1, 2, 3, 4, 5] rfl⟩
  intro k_1 ihk_1 u H locs ls hm hI
  obtain ⟨v7_14, y0, y1⟩ := u
  obtain ⟨jk_1_0, jk_1_1, hP, hD, hS, hl⟩ := hI
  have hmk_1 : (11 + 1 - v7_14.toInt).toNat < k_1 + 1 := hm
  clear hm
  have jk_1_0 : 4 ≤ v7_14.toInt := jk_1_0
  have jk_1_1 : v7_14.toInt ≤ 12 := jk_1_1
  have hl : lv_has ls 8 [(7, .int v7_14), (0, .ref h0), (1, .ref h1), (2, .int k), (3, .long a), (5, .long b)] := hl
  have hP : va_P (dC, dI) vwCl [(h0, .inr (3, [.int y0, .int y1])), (h1, .inr (4, [w0, .ref q1, .ref q2, w3, w4, w5, w6, w7, .int al])), (q1, .inl (c1, 9, .inl f1)), (q2, .inl (c2, 9, .inl f2))] H := hP
  have hD : va_D A [(h0, .inr (3, [.int y0, .int y1])), (h1, .inr (4, [w0, .ref q1, .ref q2, w3, w4, w5, w6, w7, .int al])), (q1, .inl (c1, 9, .inl f1)), (q2, .inl (c2, 9, .inl f2))] := hD
  refine lv_iload hx hb dX5_seek_14 (lv_at hl 0 rfl) ?_
  refine lv_bipush (v := 11) hx hb dX5_seek_16 (by decide) ?_
  refine lv_icmp_gt (tgt := 52) hx hb dX5_seek_18 (by decide) (fun c_2 => ?_) (fun c_2 => ?_)
  · skip
    have tc_2 : 11 < v7_14.toInt := (fa_lt _ _).mp c_2
    have hP9 := hP.sub (ws' := [(h0, .inr (3, [.int y0, .int y1])), (h1, .inr (4, [w0, .ref q1, .ref q2, w3, w4, w5, w6, w7, .int al])), (q1, .inl (c1, 9, .inl f1)), (q2, .inl (c2, 9, .inl f2))]) [0, 1, 2, 3] rfl
    have hD9 := hD.sub (ws' := [(h0, .inr (3, [.int y0, .int y1])), (h1, .inr (4, [w0, .ref q1, .ref q2, w3, w4, w5, w6, w7, .int al])), (q1, .inl (c1, 9, .inl f1)), (q2, .inl (c2, 9, .inl f2))]) [0, 1, 2, 3] (by decide) rfl
    have hK9 := hK.sub (tys' := [(c1, .int), (c2, .int)]) [0, 1] rfl
    exact W.vret hx hb hr (fun t ht hW => ⟨⟨(), rfl, trivial, y0, y1, by rw [ht]; exact hP9, va_K.moved hW.alike hK9, hD9⟩, hS.F ht⟩) hS.2.2 dX5_seek_52
  · skip
    have tc_2 : ¬ 11 < v7_14.toInt := fun h => c_2 ((fa_lt _ _).mpr h)
    refine lv_aload_n hx hb dX5_seek_21 rfl (lv_at hl 2 rfl) ?_
    refine lv_iload hx hb dX5_seek_22 (lv_at hl 0 rfl) ?_
    have hPc := hP.sub (ws' := [(h1, .inr (4, [w0, .ref q1, .ref q2, w3, w4, w5, w6, w7, .int al]))]) [1] rfl
    have hKc := hK.sub (tys' := []) [] rfl
    refine vp_callSi (W.runV (As := [.int v7_14]) (rest := []) ⟨hx, hb, hml, hown, hts⟩ (s_isAllowed l dC dI ad h1 v7_14 w0 (.ref q1) (.ref q2) w3 w4 w5 w6 w7 al ) (cwV 1 hts g_r_seek_s_isAllowed_18 rfl rfl rfl (by decide +kernel) ⟨(Nat.le_of_ble_eq_true rfl), (Nat.le_of_ble_eq_true rfl)⟩) ⟨preS_blind, va_recv hKc hPc (ci := 4) (q0 := 0) rfl rfl, fun U hU hW => ⟨rfl, preS_at hU hW hPc hKc hev⟩⟩ rfl rfl hl.1 rfl (lv_room (Nat.le_of_ble_eq_true rfl)) dX5_seek_24 ⟨(Nat.le_of_ble_eq_true rfl), (Nat.le_of_ble_eq_true rfl)⟩) (fun r_3 hw => ?_)
    refine lv_if_eq (tgt := 46) hx hb dX5_seek_27 (by decide) (fun c_4 => ?_) (fun c_4 => ?_)
    · skip
      have tc_4 : r_3.toInt = 0 := (fa_eq _ _).mp c_4
      obtain ⟨n_5, en_5⟩ : ∃ y : Int32, y = v7_14 + 1 := ⟨_, rfl⟩
      have tn_5 : n_5.toInt = v7_14.toInt + 1 := pp_add en_5 rfl rfl (by omega) (by omega)
      refine lv_iinc (v := n_5) (lv' := [(7, .int n_5), (0, .ref h0), (1, .ref h1), (2, .int k), (3, .long a), (5, .long b)]) hx hb dX5_seek_46 hl (k := 0) rfl (by rw [en_5]; rfl) (by decide) rfl (fun ls hl => ?_)
      clear en_5
      refine lv_goto (tgt := 14) hx hb dX5_seek_49 (by decide) ?_
      exact ihk_1 (n_5, y0, y1) _ _ _ (by show (11 + 1 - n_5.toInt).toNat < k_1; omega) ⟨(by first | omega | decide | (simp only [fa_lt, fa_le, fa_eq, and_true, true_and, and_false, false_and, not_true_eq_false, not_false_eq_true, li_0, li_1, li_2, li_3, li_4, li_5, li_6, li_7, li_8, li_9, li_10, li_12, li_15, li_16, li_20, li_30, li_34, li_38, li_40, li_63, li_64, li_65, li_78, li_120, li_1000, li_4000, li_10000, li_11077, li_255, li_65535, li_m1, li_m2, li_m1000000001, li_m1000000002, li_m1000000003, li_m1000000004, li_m1000000005, li_m1000000006, li_m1000000007, or_true, true_or, or_false, false_or, implies_true, true_implies, false_implies] <;> omega)), (by first | omega | decide | (simp only [fa_lt, fa_le, fa_eq, and_true, true_and, and_false, false_and, not_true_eq_false, not_false_eq_true, li_0, li_1, li_2, li_3, li_4, li_5, li_6, li_7, li_8, li_9, li_10, li_12, li_15, li_16, li_20, li_30, li_34, li_38, li_40, li_63, li_64, li_65, li_78, li_120, li_1000, li_4000, li_10000, li_11077, li_255, li_65535, li_m1, li_m2, li_m1000000001, li_m1000000002, li_m1000000003, li_m1000000004, li_m1000000005, li_m1000000006, li_m1000000007, or_true, true_or, or_false, false_or, implies_true, true_implies, false_implies] <;> omega)), hP.sub [0, 1, 2, 3] rfl, hD.sub [0, 1, 2, 3] (by decide) rfl, hS, lv_sub hl [0, 1, 2, 3, 4, 5] rfl⟩
    · skip
      have tc_4 : ¬ r_3.toInt = 0 := fun h => c_4 ((fa_eq _ _).mpr h)
      refine lv_aload_n hx hb dX5_seek_30 rfl (lv_at hl 1 rfl) ?_
      refine lv_aload_n hx hb dX5_seek_31 rfl (lv_at hl 2 rfl) ?_
      refine lv_iload_n hx hb dX5_seek_32 rfl (lv_at hl 3 rfl) ?_
      refine lv_iload hx hb dX5_seek_33 (lv_at hl 0 rfl) ?_
      have hPc := hP.sub (ws' := [(h1, .inr (4, [w0, .ref q1, .ref q2, w3, w4, w5, w6, w7, .int al])), (q1, .inl (c1, 9, .inl f1)), (q2, .inl (c2, 9, .inl f2))]) [1, 2, 3] rfl
      have hKc := hK.sub (tys' := [(c1, .int), (c2, .int)]) [0, 1] rfl
      refine vp_callSl (W.runV (As := [.int k, .int v7_14]) (rest := [.ref h0]) ⟨hx, hb, hml, hown, hts⟩ (s_cornerBy l dC dI ad h1 k v7_14 w0 q1 q2 w3 w4 w5 w6 w7 (.int al) c1 f1 c2 f2 hk) (cwV 2 hts g_r_seek_s_cornerBy_24 rfl rfl rfl (by decide +kernel) ⟨(Nat.le_of_ble_eq_true rfl), (Nat.le_of_ble_eq_true rfl)⟩) ⟨preS_blind, va_recv hKc hPc (ci := 4) (q0 := 0) rfl rfl, fun U hU hW => ⟨rfl, preS_at hU hW hPc hKc hev⟩⟩ rfl rfl hl.1 rfl (lv_room (Nat.le_of_ble_eq_true rfl)) dX5_seek_35 ⟨(Nat.le_of_ble_eq_true rfl), (Nat.le_of_ble_eq_true rfl)⟩) (fun r_6 hw => ?_)
      refine lv_iload hx hb dX5_seek_38 (lv_at hl 0 rfl) ?_
      refine lv_lload_n hx hb dX5_seek_40 rfl (lv_at hl 4 rfl) ?_
      refine lv_lload hx hb dX5_seek_41 (lv_at hl 5 rfl) ?_
      have hPc := hP.sub (ws' := [(h0, .inr (3, [.int y0, .int y1]))]) [0] rfl
      have hKc := hK.sub (tys' := []) [] rfl
      have hDc := hD.sub (ws' := [(h0, .inr (3, [.int y0, .int y1]))]) [0] (by decide) rfl
      have hFc := va_free (wc := [(h0, .inr (3, [.int y0, .int y1]))]) hD hS hA [0] rfl
      refine va_callv (va_runV (As := [.long r_6, .int v7_14, .long a, .long b]) (rest := []) ⟨hx, hb, hml, hown, hts⟩ (r_seekByWay l dC dI ad h0 r_6 v7_14 a b y0 y1 H.size ) (cwV 4 hts g_r_seek_r_seekByWay_28 rfl rfl rfl (by decide +kernel) ⟨(Nat.le_of_ble_eq_true rfl), (Nat.le_of_ble_eq_true rfl)⟩) ⟨preM_blind, va_recv hKc hPc (ci := 3) (q0 := 0) rfl rfl, fun U hU hW => ⟨rfl, preM_at hU hW hPc hKc hDc hev⟩⟩ rfl rfl hl.1 rfl (lv_room (Nat.le_of_ble_eq_true rfl)) dX5_seek_43 ⟨(Nat.le_of_ble_eq_true rfl), (Nat.le_of_ble_eq_true rfl)⟩) hS (fun q _ h => hFc q h) hFc (fun u t H1 locs ht hvm hw hB hz1 hk1 hS => ?_)
      obtain ⟨pl_8, lst_9, hP1, hK1, hD1⟩ := hB
      rw [ht] at hP1
      have hK1 := va_K.moved hvm.symm hK1
      obtain ⟨hP, hD⟩ := va_join (wr := [(h1, .inr (4, [w0, .ref q1, .ref q2, w3, w4, w5, w6, w7, .int al])), (q1, .inl (c1, 9, .inl f1)), (q2, .inl (c2, 9, .inl f2))]) (w1 := [(h0, .inr (3, [.int pl_8, .int lst_9]))]) hP hD [0] [1, 2, 3] rfl rfl (by decide) (by decide) hk1 hFc hP1 hD1
      generalize H1 = H at hP hS ⊢
      have hP : va_P (dC, dI) vwCl [(h1, .inr (4, [w0, .ref q1, .ref q2, w3, w4, w5, w6, w7, .int al])), (q1, .inl (c1, 9, .inl f1)), (q2, .inl (c2, 9, .inl f2)), (h0, .inr (3, [.int pl_8, .int lst_9]))] H := hP
      have hD : va_D A [(h1, .inr (4, [w0, .ref q1, .ref q2, w3, w4, w5, w6, w7, .int al])), (q1, .inl (c1, 9, .inl f1)), (q2, .inl (c2, 9, .inl f2)), (h0, .inr (3, [.int pl_8, .int lst_9]))] := hD
      obtain ⟨n_10, en_10⟩ : ∃ y : Int32, y = v7_14 + 1 := ⟨_, rfl⟩
      have tn_10 : n_10.toInt = v7_14.toInt + 1 := pp_add en_10 rfl rfl (by omega) (by omega)
      refine lv_iinc (v := n_10) (lv' := [(7, .int n_10), (0, .ref h0), (1, .ref h1), (2, .int k), (3, .long a), (5, .long b)]) hx hb dX5_seek_46 hl (k := 0) rfl (by rw [en_10]; rfl) (by decide) rfl (fun ls hl => ?_)
      clear en_10
      refine lv_goto (tgt := 14) hx hb dX5_seek_49 (by decide) ?_
      exact ihk_1 (n_10, pl_8, lst_9) _ _ _ (by show (11 + 1 - n_10.toInt).toNat < k_1; omega) ⟨(by first | omega | decide | (simp only [fa_lt, fa_le, fa_eq, and_true, true_and, and_false, false_and, not_true_eq_false, not_false_eq_true, li_0, li_1, li_2, li_3, li_4, li_5, li_6, li_7, li_8, li_9, li_10, li_12, li_15, li_16, li_20, li_30, li_34, li_38, li_40, li_63, li_64, li_65, li_78, li_120, li_1000, li_4000, li_10000, li_11077, li_255, li_65535, li_m1, li_m2, li_m1000000001, li_m1000000002, li_m1000000003, li_m1000000004, li_m1000000005, li_m1000000006, li_m1000000007, or_true, true_or, or_false, false_or, implies_true, true_implies, false_implies] <;> omega)), (by first | omega | decide | (simp only [fa_lt, fa_le, fa_eq, and_true, true_and, and_false, false_and, not_true_eq_false, not_false_eq_true, li_0, li_1, li_2, li_3, li_4, li_5, li_6, li_7, li_8, li_9, li_10, li_12, li_15, li_16, li_20, li_30, li_34, li_38, li_40, li_63, li_64, li_65, li_78, li_120, li_1000, li_4000, li_10000, li_11077, li_255, li_65535, li_m1, li_m2, li_m1000000001, li_m1000000002, li_m1000000003, li_m1000000004, li_m1000000005, li_m1000000006, li_m1000000007, or_true, true_or, or_false, false_or, implies_true, true_implies, false_implies] <;> omega)), hP.sub [3, 0, 1, 2] rfl, hD.sub [3, 0, 1, 2] (by decide) rfl, hS, lv_sub hl [0, 1, 2, 3, 4, 5] rfl⟩

def w_r_placesWithin : List Cond := .code yX5_placesWithin cX5_placesWithin 9 (some .int) :: (([.methodLink RX5 32 yX1_moved, .static yX1_moved, .initialized RX1, .code yX1_moved cX1_moved 6 (some .long), .constantLong RX1 13 (72340172838076673), .constantLong RX5 71 (-1)] : List Cond))
set_option maxRecDepth 20000 in
theorem g_r_placesWithin_l_moved_32 : GoodIn w_r_placesWithin (va_wsS RX5 32 yX1_moved w_l_moved) := goodIn_r _ [1, 2, 3, 4, 5] rfl (by decide +kernel)
set_option maxHeartbeats 4000000 in
set_option maxRecDepth 100000 in
theorem r_placesWithin (l : Launch) (dC : Nat → ClassId) (dI : Nat → Nat → Nat) (ad : Nat → Nat) (a : Int64) (b : Int64) : Met l yX5_placesWithin w_r_placesWithin ({ frames := 1, cells := 0, slots := 0, locals := 25 } : Room) (va_Pc [.long a, .long b] (preS dC dI ad [] [])) (vp_Si (fun r => True)) 0 0 (fun _ => False) := by
  refine Met.ofW (cc := cX5_placesWithin) (maxL := 9) (ret := (some .int)) (by decide) rfl ?_
  intro p e s m args below meth c s₁ B hml hv
  obtain ⟨rfl, hP, hK, hev⟩ := hv
  have hx := B.exec
  have hb := B.bytes
  have hr := B.returns
  have hts := atoms_spec (ws := w_r_placesWithin) B.pre
  have hown : s.vm.findClass RX5 = some m.cls := findClass_of_methodNamed B.named
  have hlocks := B.notSynchronized
  have hP : va_P (dC, dI) vwCl [] s.heap := hP
  have hl := lv_entry ([.long a, .long b]) (n := 9) (Nat.le_of_ble_eq_true rfl)
  rw [lg_entry_eq]
  generalize (lg_sl ([.long a, .long b]) ++ List.replicate (9 - (lg_sl ([.long a, .long b])).length) Slot.unset).toArray = ls at hl ⊢
  have hl : lv_has ls 9 [(0, .long a), (2, .long b)] := hl
  refine lv_iconst (v := 0) hx hb dX5_placesWithin_0 (by decide) ?_
  refine lv_istore (lv' := [(4, .int 0), (0, .long a), (2, .long b)]) hx hb dX5_placesWithin_1 hl (by decide) rfl (fun ls hl => ?_)
  refine lv_iconst (v := 0) hx hb dX5_placesWithin_3 (by decide) ?_
  refine lv_istore (lv' := [(5, .int 0), (4, .int 0), (0, .long a), (2, .long b)]) hx hb dX5_placesWithin_4 hl (by decide) rfl (fun ls hl => ?_)
  refine pp_loop (ι := Int32 × Int32) (fun ⟨v5_6, v4_6⟩ => (8 - v5_6.toInt).toNat) (fun ⟨v5_6, v4_6⟩ H locs ls => (0 ≤ v5_6.toInt) ∧ (v5_6.toInt ≤ 8) ∧ H = s.heap ∧ locs = [] ∧ lv_has ls 9 [(5, .int v5_6), (4, .int v4_6), (0, .long a), (2, .long b)]) ?_ (0, 0) _ _ _ ⟨(by first | omega | decide | (simp only [fa_lt, fa_le, fa_eq, and_true, true_and, and_false, false_and, not_true_eq_false, not_false_eq_true, li_0, li_1, li_2, li_3, li_4, li_5, li_6, li_7, li_8, li_9, li_10, li_12, li_15, li_16, li_20, li_30, li_34, li_38, li_40, li_63, li_64, li_65, li_78, li_120, li_1000, li_4000, li_10000, li_11077, li_255, li_65535, li_m1, li_m2, li_m1000000001, li_m1000000002, li_m1000000003, li_m1000000004, li_m1000000005, li_m1000000006, li_m1000000007, or_true, true_or, or_false, false_or, implies_true, true_implies, false_implies] <;> omega)), (by first | omega | decide | (simp only [fa_lt, fa_le, fa_eq, and_true, true_and, and_false, false_and, not_true_eq_false, not_false_eq_true, li_0, li_1, li_2, li_3, li_4, li_5, li_6, li_7, li_8, li_9, li_10, li_12, li_15, li_16, li_20, li_30, li_34, li_38, li_40, li_63, li_64, li_65, li_78, li_120, li_1000, li_4000, li_10000, li_11077, li_255, li_65535, li_m1, li_m2, li_m1000000001, li_m1000000002, li_m1000000003, li_m1000000004, li_m1000000005, li_m1000000006, li_m1000000007, or_true, true_or, or_false, false_or, implies_true, true_implies, false_implies] <;> omega)), rfl, rfl, lv_sub hl [0, 1, 2, 3] rfl⟩
  intro k_1 ihk_1 u H locs ls hm hI
  obtain ⟨v5_6, v4_6⟩ := u
  obtain ⟨jk_1_0, jk_1_1, rfl, rfl, hl⟩ := hI
  have hmk_1 : (8 - v5_6.toInt).toNat < k_1 + 1 := hm
  clear hm
  have jk_1_0 : 0 ≤ v5_6.toInt := jk_1_0
  have jk_1_1 : v5_6.toInt ≤ 8 := jk_1_1
  have hl : lv_has ls 9 [(5, .int v5_6), (4, .int v4_6), (0, .long a), (2, .long b)] := hl
  refine lv_iload hx hb dX5_placesWithin_6 (lv_at hl 0 rfl) ?_
  refine lv_bipush (v := 8) hx hb dX5_placesWithin_8 (by decide) ?_
  refine lv_icmp_ge (tgt := 68) hx hb dX5_placesWithin_10 (by decide) (fun c_2 => ?_) (fun c_2 => ?_)
  · skip
    have tc_2 : 8 ≤ v5_6.toInt := (fa_le _ _).mp c_2
    refine lv_iload hx hb dX5_placesWithin_68 (lv_at hl 1 rfl) ?_
    exact W.iret (v := v4_6) hx hb hr (fun t ht hW => ⟨v4_6, rfl, trivial, ht⟩) (fun _ h => absurd h List.not_mem_nil) dX5_placesWithin_70
  · skip
    have tc_2 : ¬ 8 ≤ v5_6.toInt := fun h => c_2 ((fa_le _ _).mpr h)
    refine lv_iconst (v := 0) hx hb dX5_placesWithin_13 (by decide) ?_
    refine lv_istore (lv' := [(6, .int 0), (5, .int v5_6), (4, .int v4_6), (0, .long a), (2, .long b)]) hx hb dX5_placesWithin_14 hl (by decide) rfl (fun ls hl => ?_)
    refine pp_loop (ι := Int32 × Int32) (fun ⟨v6_16, v4_16⟩ => (8 - v6_16.toInt).toNat) (fun ⟨v6_16, v4_16⟩ H locs ls => (0 ≤ v6_16.toInt) ∧ (v6_16.toInt ≤ 8) ∧ H = s.heap ∧ locs = [] ∧ lv_has ls 9 [(6, .int v6_16), (5, .int v5_6), (4, .int v4_16), (0, .long a), (2, .long b)]) ?_ (0, v4_6) _ _ _ ⟨(by first | omega | decide | (simp only [fa_lt, fa_le, fa_eq, and_true, true_and, and_false, false_and, not_true_eq_false, not_false_eq_true, li_0, li_1, li_2, li_3, li_4, li_5, li_6, li_7, li_8, li_9, li_10, li_12, li_15, li_16, li_20, li_30, li_34, li_38, li_40, li_63, li_64, li_65, li_78, li_120, li_1000, li_4000, li_10000, li_11077, li_255, li_65535, li_m1, li_m2, li_m1000000001, li_m1000000002, li_m1000000003, li_m1000000004, li_m1000000005, li_m1000000006, li_m1000000007, or_true, true_or, or_false, false_or, implies_true, true_implies, false_implies] <;> omega)), (by first | omega | decide | (simp only [fa_lt, fa_le, fa_eq, and_true, true_and, and_false, false_and, not_true_eq_false, not_false_eq_true, li_0, li_1, li_2, li_3, li_4, li_5, li_6, li_7, li_8, li_9, li_10, li_12, li_15, li_16, li_20, li_30, li_34, li_38, li_40, li_63, li_64, li_65, li_78, li_120, li_1000, li_4000, li_10000, li_11077, li_255, li_65535, li_m1, li_m2, li_m1000000001, li_m1000000002, li_m1000000003, li_m1000000004, li_m1000000005, li_m1000000006, li_m1000000007, or_true, true_or, or_false, false_or, implies_true, true_implies, false_implies] <;> omega)), rfl, rfl, lv_sub hl [0, 1, 2, 3, 4] rfl⟩
    intro k_3 ihk_3 u H locs ls hm hI
    obtain ⟨v6_16, v4_16⟩ := u
    obtain ⟨jk_3_0, jk_3_1, rfl, rfl, hl⟩ := hI
    have hmk_3 : (8 - v6_16.toInt).toNat < k_3 + 1 := hm
    clear hm
    have jk_3_0 : 0 ≤ v6_16.toInt := jk_3_0
    have jk_3_1 : v6_16.toInt ≤ 8 := jk_3_1
    have hl : lv_has ls 9 [(6, .int v6_16), (5, .int v5_6), (4, .int v4_16), (0, .long a), (2, .long b)] := hl
    refine lv_iload hx hb dX5_placesWithin_16 (lv_at hl 0 rfl) ?_
    refine lv_bipush (v := 8) hx hb dX5_placesWithin_18 (by decide) ?_
    refine lv_icmp_ge (tgt := 62) hx hb dX5_placesWithin_20 (by decide) (fun c_4 => ?_) (fun c_4 => ?_)
    · skip
      have tc_4 : 8 ≤ v6_16.toInt := (fa_le _ _).mp c_4
      obtain ⟨n_5, en_5⟩ : ∃ y : Int32, y = v5_6 + 1 := ⟨_, rfl⟩
      have tn_5 : n_5.toInt = v5_6.toInt + 1 := pp_add en_5 rfl rfl (by omega) (by omega)
      refine lv_iinc (v := n_5) (lv' := [(5, .int n_5), (6, .int v6_16), (4, .int v4_16), (0, .long a), (2, .long b)]) hx hb dX5_placesWithin_62 hl (k := 1) rfl (by rw [en_5]; rfl) (by decide) rfl (fun ls hl => ?_)
      clear en_5
      refine lv_goto (tgt := 6) hx hb dX5_placesWithin_65 (by decide) ?_
      exact ihk_1 (n_5, v4_16) _ _ _ (by show (8 - n_5.toInt).toNat < k_1; omega) ⟨(by first | omega | decide | (simp only [fa_lt, fa_le, fa_eq, and_true, true_and, and_false, false_and, not_true_eq_false, not_false_eq_true, li_0, li_1, li_2, li_3, li_4, li_5, li_6, li_7, li_8, li_9, li_10, li_12, li_15, li_16, li_20, li_30, li_34, li_38, li_40, li_63, li_64, li_65, li_78, li_120, li_1000, li_4000, li_10000, li_11077, li_255, li_65535, li_m1, li_m2, li_m1000000001, li_m1000000002, li_m1000000003, li_m1000000004, li_m1000000005, li_m1000000006, li_m1000000007, or_true, true_or, or_false, false_or, implies_true, true_implies, false_implies] <;> omega)), (by first | omega | decide | (simp only [fa_lt, fa_le, fa_eq, and_true, true_and, and_false, false_and, not_true_eq_false, not_false_eq_true, li_0, li_1, li_2, li_3, li_4, li_5, li_6, li_7, li_8, li_9, li_10, li_12, li_15, li_16, li_20, li_30, li_34, li_38, li_40, li_63, li_64, li_65, li_78, li_120, li_1000, li_4000, li_10000, li_11077, li_255, li_65535, li_m1, li_m2, li_m1000000001, li_m1000000002, li_m1000000003, li_m1000000004, li_m1000000005, li_m1000000006, li_m1000000007, or_true, true_or, or_false, false_or, implies_true, true_implies, false_implies] <;> omega)), rfl, rfl, lv_sub hl [0, 2, 3, 4] rfl⟩
    · skip
      have tc_4 : ¬ 8 ≤ v6_16.toInt := fun h => c_4 ((fa_le _ _).mpr h)
      refine lv_lload_n hx hb dX5_placesWithin_23 rfl (lv_at hl 3 rfl) ?_
      refine lv_iload hx hb dX5_placesWithin_24 (lv_at hl 1 rfl) ?_
      refine lv_iload hx hb dX5_placesWithin_26 (lv_at hl 0 rfl) ?_
      have hPc := hP.sub (ws' := []) [] rfl
      have hKc := hK.sub (tys' := []) [] rfl
      refine vp_callSl (W.runS (As := [.long a, .int v5_6, .int v6_16]) (rest := []) ⟨hx, hb, hml, hown, hts⟩ (l_moved l dC dI ad a v5_6 v6_16 ) (va_cwS 3 hts g_r_placesWithin_l_moved_32 rfl rfl rfl (by decide +kernel) ⟨(Nat.le_of_ble_eq_true rfl), (Nat.le_of_ble_eq_true rfl)⟩) ⟨preS_blind, fun U hU hW => ⟨rfl, preS_at hU hW hPc hKc hev⟩⟩ rfl rfl hl.1 rfl (lv_room (Nat.le_of_ble_eq_true rfl)) dX5_placesWithin_28 ⟨(Nat.le_of_ble_eq_true rfl), (Nat.le_of_ble_eq_true rfl)⟩) (fun r_6 hw => ?_)
      refine lv_lstore (lv' := [(7, .long r_6), (6, .int v6_16), (5, .int v5_6), (4, .int v4_16), (0, .long a), (2, .long b)]) hx hb dX5_placesWithin_31 hl (by decide) rfl (fun ls hl => ?_)
      refine lv_lload hx hb dX5_placesWithin_33 (lv_at hl 0 rfl) ?_
      refine lv_lconst (v := 0) hx hb dX5_placesWithin_35 (by decide) ?_
      refine W.lcmp hx hb dX5_placesWithin_36 ?_
      refine lv_topi (fun n_7 en_7 => ?_)
      refine lv_if_eq (tgt := 56) hx hb dX5_placesWithin_37 (by decide) (fun c_8 => ?_) (fun c_8 => ?_)
      · skip
        have tc_8 : n_7.toInt = 0 := (fa_eq _ _).mp c_8
        obtain ⟨n_9, en_9⟩ : ∃ y : Int32, y = v6_16 + 1 := ⟨_, rfl⟩
        have tn_9 : n_9.toInt = v6_16.toInt + 1 := pp_add en_9 rfl rfl (by omega) (by omega)
        refine lv_iinc (v := n_9) (lv' := [(6, .int n_9), (7, .long r_6), (5, .int v5_6), (4, .int v4_16), (0, .long a), (2, .long b)]) hx hb dX5_placesWithin_56 hl (k := 1) rfl (by rw [en_9]; rfl) (by decide) rfl (fun ls hl => ?_)
        clear en_9
        refine lv_goto (tgt := 16) hx hb dX5_placesWithin_59 (by decide) ?_
        exact ihk_3 (n_9, v4_16) _ _ _ (by show (8 - n_9.toInt).toNat < k_3; omega) ⟨(by first | omega | decide | (simp only [fa_lt, fa_le, fa_eq, and_true, true_and, and_false, false_and, not_true_eq_false, not_false_eq_true, li_0, li_1, li_2, li_3, li_4, li_5, li_6, li_7, li_8, li_9, li_10, li_12, li_15, li_16, li_20, li_30, li_34, li_38, li_40, li_63, li_64, li_65, li_78, li_120, li_1000, li_4000, li_10000, li_11077, li_255, li_65535, li_m1, li_m2, li_m1000000001, li_m1000000002, li_m1000000003, li_m1000000004, li_m1000000005, li_m1000000006, li_m1000000007, or_true, true_or, or_false, false_or, implies_true, true_implies, false_implies] <;> omega)), (by first | omega | decide | (simp only [fa_lt, fa_le, fa_eq, and_true, true_and, and_false, false_and, not_true_eq_false, not_false_eq_true, li_0, li_1, li_2, li_3, li_4, li_5, li_6, li_7, li_8, li_9, li_10, li_12, li_15, li_16, li_20, li_30, li_34, li_38, li_40, li_63, li_64, li_65, li_78, li_120, li_1000, li_4000, li_10000, li_11077, li_255, li_65535, li_m1, li_m2, li_m1000000001, li_m1000000002, li_m1000000003, li_m1000000004, li_m1000000005, li_m1000000006, li_m1000000007, or_true, true_or, or_false, false_or, implies_true, true_implies, false_implies] <;> omega)), rfl, rfl, lv_sub hl [0, 2, 3, 4, 5] rfl⟩
      · skip
        have tc_8 : ¬ n_7.toInt = 0 := fun h => c_8 ((fa_eq _ _).mpr h)
        have zc_8 : ¬ r_6 = (0 : Int64) := pp_lc_ne en_7 c_8
        refine lv_lload hx hb dX5_placesWithin_40 (lv_at hl 0 rfl) ?_
        refine lv_lload_n hx hb dX5_placesWithin_42 rfl (lv_at hl 5 rfl) ?_
        refine lv_ldc2 hx hb hown (hts _ (List.mem_of_getElem? (i := 6) rfl)) dX5_placesWithin_43 ?_
        refine lv_lxor hx hb dX5_placesWithin_46 ?_
        refine lv_topl (fun n_10 en_10 => ?_)
        clear en_10
        refine lv_land hx hb dX5_placesWithin_47 ?_
        refine lv_topl (fun n_11 en_11 => ?_)
        clear en_11
        refine lv_lconst (v := 0) hx hb dX5_placesWithin_48 (by decide) ?_
        refine W.lcmp hx hb dX5_placesWithin_49 ?_
        refine lv_topi (fun n_12 en_12 => ?_)
        refine lv_if_ne (tgt := 56) hx hb dX5_placesWithin_50 (by decide) (fun c_13 => ?_) (fun c_13 => ?_)
        · skip
          have tc_13 : ¬ n_12.toInt = 0 := fun h => c_13 ((fa_eq _ _).mpr h)
          have zc_13 : ¬ n_11 = (0 : Int64) := pp_lc_ne en_12 c_13
          obtain ⟨n_14, en_14⟩ : ∃ y : Int32, y = v6_16 + 1 := ⟨_, rfl⟩
          have tn_14 : n_14.toInt = v6_16.toInt + 1 := pp_add en_14 rfl rfl (by omega) (by omega)
          refine lv_iinc (v := n_14) (lv' := [(6, .int n_14), (7, .long r_6), (5, .int v5_6), (4, .int v4_16), (0, .long a), (2, .long b)]) hx hb dX5_placesWithin_56 hl (k := 1) rfl (by rw [en_14]; rfl) (by decide) rfl (fun ls hl => ?_)
          clear en_14
          refine lv_goto (tgt := 16) hx hb dX5_placesWithin_59 (by decide) ?_
          exact ihk_3 (n_14, v4_16) _ _ _ (by show (8 - n_14.toInt).toNat < k_3; omega) ⟨(by first | omega | decide | (simp only [fa_lt, fa_le, fa_eq, and_true, true_and, and_false, false_and, not_true_eq_false, not_false_eq_true, li_0, li_1, li_2, li_3, li_4, li_5, li_6, li_7, li_8, li_9, li_10, li_12, li_15, li_16, li_20, li_30, li_34, li_38, li_40, li_63, li_64, li_65, li_78, li_120, li_1000, li_4000, li_10000, li_11077, li_255, li_65535, li_m1, li_m2, li_m1000000001, li_m1000000002, li_m1000000003, li_m1000000004, li_m1000000005, li_m1000000006, li_m1000000007, or_true, true_or, or_false, false_or, implies_true, true_implies, false_implies] <;> omega)), (by first | omega | decide | (simp only [fa_lt, fa_le, fa_eq, and_true, true_and, and_false, false_and, not_true_eq_false, not_false_eq_true, li_0, li_1, li_2, li_3, li_4, li_5, li_6, li_7, li_8, li_9, li_10, li_12, li_15, li_16, li_20, li_30, li_34, li_38, li_40, li_63, li_64, li_65, li_78, li_120, li_1000, li_4000, li_10000, li_11077, li_255, li_65535, li_m1, li_m2, li_m1000000001, li_m1000000002, li_m1000000003, li_m1000000004, li_m1000000005, li_m1000000006, li_m1000000007, or_true, true_or, or_false, false_or, implies_true, true_implies, false_implies] <;> omega)), rfl, rfl, lv_sub hl [0, 2, 3, 4, 5] rfl⟩
        · skip
          have tc_13 : n_12.toInt = 0 := (fa_eq _ _).mp c_13
          obtain ⟨n_15, en_15⟩ : ∃ y : Int32, y = v4_16 + 1 := ⟨_, rfl⟩
          refine lv_iinc (v := n_15) (lv' := [(4, .int n_15), (7, .long r_6), (6, .int v6_16), (5, .int v5_6), (0, .long a), (2, .long b)]) hx hb dX5_placesWithin_53 hl (k := 3) rfl (by rw [en_15]; rfl) (by decide) rfl (fun ls hl => ?_)
          clear en_15
          obtain ⟨n_16, en_16⟩ : ∃ y : Int32, y = v6_16 + 1 := ⟨_, rfl⟩
          have tn_16 : n_16.toInt = v6_16.toInt + 1 := pp_add en_16 rfl rfl (by omega) (by omega)
          refine lv_iinc (v := n_16) (lv' := [(6, .int n_16), (4, .int n_15), (7, .long r_6), (5, .int v5_6), (0, .long a), (2, .long b)]) hx hb dX5_placesWithin_56 hl (k := 2) rfl (by rw [en_16]; rfl) (by decide) rfl (fun ls hl => ?_)
          clear en_16
          refine lv_goto (tgt := 16) hx hb dX5_placesWithin_59 (by decide) ?_
          exact ihk_3 (n_16, n_15) _ _ _ (by show (8 - n_16.toInt).toNat < k_3; omega) ⟨(by first | omega | decide | (simp only [fa_lt, fa_le, fa_eq, and_true, true_and, and_false, false_and, not_true_eq_false, not_false_eq_true, li_0, li_1, li_2, li_3, li_4, li_5, li_6, li_7, li_8, li_9, li_10, li_12, li_15, li_16, li_20, li_30, li_34, li_38, li_40, li_63, li_64, li_65, li_78, li_120, li_1000, li_4000, li_10000, li_11077, li_255, li_65535, li_m1, li_m2, li_m1000000001, li_m1000000002, li_m1000000003, li_m1000000004, li_m1000000005, li_m1000000006, li_m1000000007, or_true, true_or, or_false, false_or, implies_true, true_implies, false_implies] <;> omega)), (by first | omega | decide | (simp only [fa_lt, fa_le, fa_eq, and_true, true_and, and_false, false_and, not_true_eq_false, not_false_eq_true, li_0, li_1, li_2, li_3, li_4, li_5, li_6, li_7, li_8, li_9, li_10, li_12, li_15, li_16, li_20, li_30, li_34, li_38, li_40, li_63, li_64, li_65, li_78, li_120, li_1000, li_4000, li_10000, li_11077, li_255, li_65535, li_m1, li_m2, li_m1000000001, li_m1000000002, li_m1000000003, li_m1000000004, li_m1000000005, li_m1000000006, li_m1000000007, or_true, true_or, or_false, false_or, implies_true, true_implies, false_implies] <;> omega)), rfl, rfl, lv_sub hl [0, 3, 1, 4, 5] rfl⟩

def w_r_placingsWithin : List Cond := .code yX5_placingsWithin cX5_placingsWithin 7 (some .int) :: (([.methodLink RX5 18 yX6_isAllowed, .instanceMethod yX6_isAllowed, .selects RX6 yX6_isAllowed yX6_isAllowed, .initialized RX6, .code yX6_isAllowed cX6_isAllowed 4 (some .boolean), .fieldLink RX6 38 "LampShapes$Stage" "allowed" "I", .methodLink RX5 24 yX6_cornerBy, .instanceMethod yX6_cornerBy, .selects RX6 yX6_cornerBy yX6_cornerBy, .code yX6_cornerBy cX6_cornerBy 4 (some .long), .fieldLink RX6 15 "LampShapes$Stage" "kinds" "[I", .fieldLink RX6 19 "LampShapes$Stage" "points" "[I", .methodLink RX6 47 yX0_pointsBy, .static yX0_pointsBy, .initialized RX0, .code yX0_pointsBy cX0_pointsBy 3 (some .int), .methodLink RX0 15 yX0_turnedBy, .static yX0_turnedBy, .code yX0_turnedBy cX0_turnedBy 6 (some .int), .methodLink RX0 19 yX0_mirroredBy, .static yX0_mirroredBy, .code yX0_mirroredBy cX0_mirroredBy 2 (some .int), .constant RX0 31 (34952), .methodLink RX0 22 yX0_hollowed, .static yX0_hollowed, .code yX0_hollowed cX0_hollowed 5 (some .int), .constant RX0 32 (61166), .methodLink RX0 25 yX0_doubled, .static yX0_doubled, .code yX0_doubled cX0_doubled 1 (some .int), .constant RX0 33 (65535), .methodLink RX0 28 yX0_filled, .static yX0_filled, .code yX0_filled cX0_filled 6 (some .int), .methodLink RX6 53 yX1_cellsAtCorner, .static yX1_cellsAtCorner, .initialized RX1, .code yX1_cellsAtCorner cX1_cellsAtCorner 8 (some .long), .constantLong RX1 9 (771), .methodLink RX5 68 yX5_placesWithin, .static yX5_placesWithin, .initialized RX5, .code yX5_placesWithin cX5_placesWithin 9 (some .int), .methodLink RX5 32 yX1_moved, .static yX1_moved, .code yX1_moved cX1_moved 6 (some .long), .constantLong RX1 13 (72340172838076673), .constantLong RX5 71 (-1)] : List Cond) ++ wsX60)
set_option maxRecDepth 20000 in
theorem g_r_placingsWithin_s_isAllowed_18 : GoodIn w_r_placingsWithin (wsV RX5 18 RX6 yX6_isAllowed w_s_isAllowed) := goodIn_r _ [1, 2, 3, 4, 5, 6, 49, 50, 51, 52, 53, 54, 55, 56, 57] rfl (by decide +kernel)
set_option maxRecDepth 20000 in
theorem g_r_placingsWithin_s_cornerBy_24 : GoodIn w_r_placingsWithin (wsV RX5 24 RX6 yX6_cornerBy w_s_cornerBy) := goodIn_r _ [7, 8, 9, 4, 10, 11, 12, 13, 14, 15, 16, 17, 18, 19, 20, 21, 22, 23, 24, 25, 26, 27, 28, 29, 30, 31, 32, 33, 34, 35, 36, 37, 38, 39, 49, 50, 51, 52, 53, 54, 55, 56, 57] rfl (by decide +kernel)
set_option maxRecDepth 20000 in
theorem g_r_placingsWithin_r_placesWithin_68 : GoodIn w_r_placingsWithin (va_wsS RX5 68 yX5_placesWithin w_r_placesWithin) := goodIn_r _ [40, 41, 42, 43, 44, 45, 37, 46, 47, 48] rfl (by decide +kernel)
set_option maxHeartbeats 4000000 in
set_option maxRecDepth 100000 in
theorem r_placingsWithin (l : Launch) (dC : Nat → ClassId) (dI : Nat → Nat → Nat) (ad : Nat → Nat) (h0 : Nat) (h1 : Nat) (k : Int32) (a : Int64) (pl : Int32) (lst : Int32) (w0 : Value) (q1 : Nat) (q2 : Nat) (w3 : Value) (w4 : Value) (w5 : Value) (w6 : Value) (w7 : Value) (al : Int32) (c1 : ClassId) (f1 : Nat → Int32) (c2 : ClassId) (f2 : Nat → Int32) (hk : 0 ≤ k.toInt ∧ k.toInt ≤ 8) : Met l yX5_placingsWithin w_r_placingsWithin ({ frames := 3, cells := 0, slots := 0, locals := 70 } : Room) (va_Pc [.ref h0, .ref h1, .int k, .long a] (preS dC dI ad [(c1, .int), (c2, .int)] [(h0, .inr (3, [.int pl, .int lst])), (h1, .inr (4, [w0, .ref q1, .ref q2, w3, w4, w5, w6, w7, .int al])), (q1, .inl (c1, 9, .inl f1)), (q2, .inl (c2, 9, .inl f2))])) (vp_Si (fun r => True)) 0 0 (fun _ => False) := by
  refine Met.ofW (cc := cX5_placingsWithin) (maxL := 7) (ret := (some .int)) (by decide) rfl ?_
  intro p e s m args below meth c s₁ B hml hv
  obtain ⟨rfl, hP, hK, hev⟩ := hv
  have hx := B.exec
  have hb := B.bytes
  have hr := B.returns
  have hts := atoms_spec (ws := w_r_placingsWithin) B.pre
  have hown : s.vm.findClass RX5 = some m.cls := findClass_of_methodNamed B.named
  have hlocks := B.notSynchronized
  have inX6 : ∀ w ∈ wsX60, w ∈ w_r_placingsWithin := fun w h => List.mem_cons_of_mem _ (List.mem_append_right _ h)
  have hP : va_P (dC, dI) vwCl [(h0, .inr (3, [.int pl, .int lst])), (h1, .inr (4, [w0, .ref q1, .ref q2, w3, w4, w5, w6, w7, .int al])), (q1, .inl (c1, 9, .inl f1)), (q2, .inl (c2, 9, .inl f2))] s.heap := hP
  have hl := lv_entry ([.ref h0, .ref h1, .int k, .long a]) (n := 7) (Nat.le_of_ble_eq_true rfl)
  rw [lg_entry_eq]
  generalize (lg_sl ([.ref h0, .ref h1, .int k, .long a]) ++ List.replicate (7 - (lg_sl ([.ref h0, .ref h1, .int k, .long a])).length) Slot.unset).toArray = ls at hl ⊢
  have hl : lv_has ls 7 [(0, .ref h0), (1, .ref h1), (2, .int k), (3, .long a)] := hl
  refine lv_iconst (v := 0) hx hb dX5_placingsWithin_0 (by decide) ?_
  refine lv_istore (lv' := [(5, .int 0), (0, .ref h0), (1, .ref h1), (2, .int k), (3, .long a)]) hx hb dX5_placingsWithin_1 hl (by decide) rfl (fun ls hl => ?_)
  refine lv_iconst (v := 4) hx hb dX5_placingsWithin_3 (by decide) ?_
  refine lv_istore (lv' := [(6, .int 4), (5, .int 0), (0, .ref h0), (1, .ref h1), (2, .int k), (3, .long a)]) hx hb dX5_placingsWithin_4 hl (by decide) rfl (fun ls hl => ?_)
  refine pp_loop (ι := Int32 × Int32) (fun ⟨v6_6, v5_6⟩ => (11 + 1 - v6_6.toInt).toNat) (fun ⟨v6_6, v5_6⟩ H locs ls => (4 ≤ v6_6.toInt) ∧ (v6_6.toInt ≤ 12) ∧ H = s.heap ∧ locs = [] ∧ lv_has ls 7 [(6, .int v6_6), (5, .int v5_6), (0, .ref h0), (1, .ref h1), (2, .int k), (3, .long a)]) ?_ (4, 0) _ _ _ ⟨(by first | omega | decide | (simp only [fa_lt, fa_le, fa_eq, and_true, true_and, and_false, false_and, not_true_eq_false, not_false_eq_true, li_0, li_1, li_2, li_3, li_4, li_5, li_6, li_7, li_8, li_9, li_10, li_12, li_15, li_16, li_20, li_30, li_34, li_38, li_40, li_63, li_64, li_65, li_78, li_120, li_1000, li_4000, li_10000, li_11077, li_255, li_65535, li_m1, li_m2, li_m1000000001, li_m1000000002, li_m1000000003, li_m1000000004, li_m1000000005, li_m1000000006, li_m1000000007, or_true, true_or, or_false, false_or, implies_true, true_implies, false_implies] <;> omega)), (by first | omega | decide | (simp only [fa_lt, fa_le, fa_eq, and_true, true_and, and_false, false_and, not_true_eq_false, not_false_eq_true, li_0, li_1, li_2, li_3, li_4, li_5, li_6, li_7, li_8, li_9, li_10, li_12, li_15, li_16, li_20, li_30, li_34, li_38, li_40, li_63, li_64, li_65, li_78, li_120, li_1000, li_4000, li_10000, li_11077, li_255, li_65535, li_m1, li_m2, li_m1000000001, li_m1000000002, li_m1000000003, li_m1000000004, li_m1000000005, li_m1000000006, li_m1000000007, or_true, true_or, or_false, false_or, implies_true, true_implies, false_implies] <;> omega)), rfl, rfl, lv_sub hl [0, 1, 2, 3, 4, 5] rfl⟩
  intro k_1 ihk_1 u H locs ls hm hI
  obtain ⟨v6_6, v5_6⟩ := u
  obtain ⟨jk_1_0, jk_1_1, rfl, rfl, hl⟩ := hI
  have hmk_1 : (11 + 1 - v6_6.toInt).toNat < k_1 + 1 := hm
  clear hm
  have jk_1_0 : 4 ≤ v6_6.toInt := jk_1_0
  have jk_1_1 : v6_6.toInt ≤ 12 := jk_1_1
  have hl : lv_has ls 7 [(6, .int v6_6), (5, .int v5_6), (0, .ref h0), (1, .ref h1), (2, .int k), (3, .long a)] := hl
  refine lv_iload hx hb dX5_placingsWithin_6 (lv_at hl 0 rfl) ?_
  refine lv_bipush (v := 11) hx hb dX5_placingsWithin_8 (by decide) ?_
  refine lv_icmp_gt (tgt := 44) hx hb dX5_placingsWithin_10 (by decide) (fun c_2 => ?_) (fun c_2 => ?_)
  · skip
    have tc_2 : 11 < v6_6.toInt := (fa_lt _ _).mp c_2
    refine lv_iload hx hb dX5_placingsWithin_44 (lv_at hl 1 rfl) ?_
    exact W.iret (v := v5_6) hx hb hr (fun t ht hW => ⟨v5_6, rfl, trivial, ht⟩) (fun _ h => absurd h List.not_mem_nil) dX5_placingsWithin_46
  · skip
    have tc_2 : ¬ 11 < v6_6.toInt := fun h => c_2 ((fa_lt _ _).mpr h)
    refine lv_aload_n hx hb dX5_placingsWithin_13 rfl (lv_at hl 3 rfl) ?_
    refine lv_iload hx hb dX5_placingsWithin_14 (lv_at hl 0 rfl) ?_
    have hPc := hP.sub (ws' := [(h1, .inr (4, [w0, .ref q1, .ref q2, w3, w4, w5, w6, w7, .int al]))]) [1] rfl
    have hKc := hK.sub (tys' := []) [] rfl
    refine vp_callSi (W.runV (As := [.int v6_6]) (rest := []) ⟨hx, hb, hml, hown, hts⟩ (s_isAllowed l dC dI ad h1 v6_6 w0 (.ref q1) (.ref q2) w3 w4 w5 w6 w7 al ) (cwV 1 hts g_r_placingsWithin_s_isAllowed_18 rfl rfl rfl (by decide +kernel) ⟨(Nat.le_of_ble_eq_true rfl), (Nat.le_of_ble_eq_true rfl)⟩) ⟨preS_blind, va_recv hKc hPc (ci := 4) (q0 := 0) rfl rfl, fun U hU hW => ⟨rfl, preS_at hU hW hPc hKc hev⟩⟩ rfl rfl hl.1 rfl (lv_room (Nat.le_of_ble_eq_true rfl)) dX5_placingsWithin_16 ⟨(Nat.le_of_ble_eq_true rfl), (Nat.le_of_ble_eq_true rfl)⟩) (fun r_3 hw => ?_)
    refine lv_if_eq (tgt := 38) hx hb dX5_placingsWithin_19 (by decide) (fun c_4 => ?_) (fun c_4 => ?_)
    · skip
      have tc_4 : r_3.toInt = 0 := (fa_eq _ _).mp c_4
      obtain ⟨n_5, en_5⟩ : ∃ y : Int32, y = v6_6 + 1 := ⟨_, rfl⟩
      have tn_5 : n_5.toInt = v6_6.toInt + 1 := pp_add en_5 rfl rfl (by omega) (by omega)
      refine lv_iinc (v := n_5) (lv' := [(6, .int n_5), (5, .int v5_6), (0, .ref h0), (1, .ref h1), (2, .int k), (3, .long a)]) hx hb dX5_placingsWithin_38 hl (k := 0) rfl (by rw [en_5]; rfl) (by decide) rfl (fun ls hl => ?_)
      clear en_5
      refine lv_goto (tgt := 6) hx hb dX5_placingsWithin_41 (by decide) ?_
      exact ihk_1 (n_5, v5_6) _ _ _ (by show (11 + 1 - n_5.toInt).toNat < k_1; omega) ⟨(by first | omega | decide | (simp only [fa_lt, fa_le, fa_eq, and_true, true_and, and_false, false_and, not_true_eq_false, not_false_eq_true, li_0, li_1, li_2, li_3, li_4, li_5, li_6, li_7, li_8, li_9, li_10, li_12, li_15, li_16, li_20, li_30, li_34, li_38, li_40, li_63, li_64, li_65, li_78, li_120, li_1000, li_4000, li_10000, li_11077, li_255, li_65535, li_m1, li_m2, li_m1000000001, li_m1000000002, li_m1000000003, li_m1000000004, li_m1000000005, li_m1000000006, li_m1000000007, or_true, true_or, or_false, false_or, implies_true, true_implies, false_implies] <;> omega)), (by first | omega | decide | (simp only [fa_lt, fa_le, fa_eq, and_true, true_and, and_false, false_and, not_true_eq_false, not_false_eq_true, li_0, li_1, li_2, li_3, li_4, li_5, li_6, li_7, li_8, li_9, li_10, li_12, li_15, li_16, li_20, li_30, li_34, li_38, li_40, li_63, li_64, li_65, li_78, li_120, li_1000, li_4000, li_10000, li_11077, li_255, li_65535, li_m1, li_m2, li_m1000000001, li_m1000000002, li_m1000000003, li_m1000000004, li_m1000000005, li_m1000000006, li_m1000000007, or_true, true_or, or_false, false_or, implies_true, true_implies, false_implies] <;> omega)), rfl, rfl, lv_sub hl [0, 1, 2, 3, 4, 5] rfl⟩
    · skip
      have tc_4 : ¬ r_3.toInt = 0 := fun h => c_4 ((fa_eq _ _).mpr h)
      refine lv_iload hx hb dX5_placingsWithin_22 (lv_at hl 1 rfl) ?_
      refine lv_aload_n hx hb dX5_placingsWithin_24 rfl (lv_at hl 3 rfl) ?_
      refine lv_iload_n hx hb dX5_placingsWithin_25 rfl (lv_at hl 4 rfl) ?_
      refine lv_iload hx hb dX5_placingsWithin_26 (lv_at hl 0 rfl) ?_
      have hPc := hP.sub (ws' := [(h1, .inr (4, [w0, .ref q1, .ref q2, w3, w4, w5, w6, w7, .int al])), (q1, .inl (c1, 9, .inl f1)), (q2, .inl (c2, 9, .inl f2))]) [1, 2, 3] rfl
      have hKc := hK.sub (tys' := [(c1, .int), (c2, .int)]) [0, 1] rfl
      refine vp_callSl (W.runV (As := [.int k, .int v6_6]) (rest := [.int v5_6]) ⟨hx, hb, hml, hown, hts⟩ (s_cornerBy l dC dI ad h1 k v6_6 w0 q1 q2 w3 w4 w5 w6 w7 (.int al) c1 f1 c2 f2 hk) (cwV 2 hts g_r_placingsWithin_s_cornerBy_24 rfl rfl rfl (by decide +kernel) ⟨(Nat.le_of_ble_eq_true rfl), (Nat.le_of_ble_eq_true rfl)⟩) ⟨preS_blind, va_recv hKc hPc (ci := 4) (q0 := 0) rfl rfl, fun U hU hW => ⟨rfl, preS_at hU hW hPc hKc hev⟩⟩ rfl rfl hl.1 rfl (lv_room (Nat.le_of_ble_eq_true rfl)) dX5_placingsWithin_28 ⟨(Nat.le_of_ble_eq_true rfl), (Nat.le_of_ble_eq_true rfl)⟩) (fun r_6 hw => ?_)
      refine lv_lload_n hx hb dX5_placingsWithin_31 rfl (lv_at hl 5 rfl) ?_
      have hPc := hP.sub (ws' := []) [] rfl
      have hKc := hK.sub (tys' := []) [] rfl
      refine vp_callSi (W.runS (As := [.long r_6, .long a]) (rest := [.int v5_6]) ⟨hx, hb, hml, hown, hts⟩ (r_placesWithin l dC dI ad r_6 a ) (va_cwS 2 hts g_r_placingsWithin_r_placesWithin_68 rfl rfl rfl (by decide +kernel) ⟨(Nat.le_of_ble_eq_true rfl), (Nat.le_of_ble_eq_true rfl)⟩) ⟨preS_blind, fun U hU hW => ⟨rfl, preS_at hU hW hPc hKc hev⟩⟩ rfl rfl hl.1 rfl (lv_room (Nat.le_of_ble_eq_true rfl)) dX5_placingsWithin_32 ⟨(Nat.le_of_ble_eq_true rfl), (Nat.le_of_ble_eq_true rfl)⟩) (fun r_7 hw => ?_)
      refine lv_iadd hx hb dX5_placingsWithin_35 ?_
      refine lv_topi (fun n_8 en_8 => ?_)
      clear en_8
      refine lv_istore (lv' := [(5, .int n_8), (6, .int v6_6), (0, .ref h0), (1, .ref h1), (2, .int k), (3, .long a)]) hx hb dX5_placingsWithin_36 hl (by decide) rfl (fun ls hl => ?_)
      obtain ⟨n_9, en_9⟩ : ∃ y : Int32, y = v6_6 + 1 := ⟨_, rfl⟩
      have tn_9 : n_9.toInt = v6_6.toInt + 1 := pp_add en_9 rfl rfl (by omega) (by omega)
      refine lv_iinc (v := n_9) (lv' := [(6, .int n_9), (5, .int n_8), (0, .ref h0), (1, .ref h1), (2, .int k), (3, .long a)]) hx hb dX5_placingsWithin_38 hl (k := 1) rfl (by rw [en_9]; rfl) (by decide) rfl (fun ls hl => ?_)
      clear en_9
      refine lv_goto (tgt := 6) hx hb dX5_placingsWithin_41 (by decide) ?_
      exact ihk_1 (n_9, n_8) _ _ _ (by show (11 + 1 - n_9.toInt).toNat < k_1; omega) ⟨(by first | omega | decide | (simp only [fa_lt, fa_le, fa_eq, and_true, true_and, and_false, false_and, not_true_eq_false, not_false_eq_true, li_0, li_1, li_2, li_3, li_4, li_5, li_6, li_7, li_8, li_9, li_10, li_12, li_15, li_16, li_20, li_30, li_34, li_38, li_40, li_63, li_64, li_65, li_78, li_120, li_1000, li_4000, li_10000, li_11077, li_255, li_65535, li_m1, li_m2, li_m1000000001, li_m1000000002, li_m1000000003, li_m1000000004, li_m1000000005, li_m1000000006, li_m1000000007, or_true, true_or, or_false, false_or, implies_true, true_implies, false_implies] <;> omega)), (by first | omega | decide | (simp only [fa_lt, fa_le, fa_eq, and_true, true_and, and_false, false_and, not_true_eq_false, not_false_eq_true, li_0, li_1, li_2, li_3, li_4, li_5, li_6, li_7, li_8, li_9, li_10, li_12, li_15, li_16, li_20, li_30, li_34, li_38, li_40, li_63, li_64, li_65, li_78, li_120, li_1000, li_4000, li_10000, li_11077, li_255, li_65535, li_m1, li_m2, li_m1000000001, li_m1000000002, li_m1000000003, li_m1000000004, li_m1000000005, li_m1000000006, li_m1000000007, or_true, true_or, or_false, false_or, implies_true, true_implies, false_implies] <;> omega)), rfl, rfl, lv_sub hl [0, 1, 2, 3, 4, 5] rfl⟩

def w_r_nearestOnes : List Cond := .code yX5_nearestOnes cX5_nearestOnes 6 (some .int) :: (([.methodLink RX5 49 yX6_isTorn, .instanceMethod yX6_isTorn, .selects RX6 yX6_isTorn yX6_isTorn, .initialized RX6, .code yX6_isTorn cX6_isTorn 2 (some .boolean), .fieldLink RX6 22 "LampShapes$Stage" "tornShapes" "I", .methodLink RX5 56 yX5_seek, .instanceMethod yX5_seek, .selects RX5 yX5_seek yX5_seek, .initialized RX5, .code yX5_seek cX5_seek 8 none, .fieldLink RX5 9 "LampShapes$Search" "placing" "I", .fieldLink RX5 15 "LampShapes$Search" "least" "I", .methodLink RX5 18 yX6_isAllowed, .instanceMethod yX6_isAllowed, .selects RX6 yX6_isAllowed yX6_isAllowed, .code yX6_isAllowed cX6_isAllowed 4 (some .boolean), .fieldLink RX6 38 "LampShapes$Stage" "allowed" "I", .methodLink RX5 24 yX6_cornerBy, .instanceMethod yX6_cornerBy, .selects RX6 yX6_cornerBy yX6_cornerBy, .code yX6_cornerBy cX6_cornerBy 4 (some .long), .fieldLink RX6 15 "LampShapes$Stage" "kinds" "[I", .fieldLink RX6 19 "LampShapes$Stage" "points" "[I", .methodLink RX6 47 yX0_pointsBy, .static yX0_pointsBy, .initialized RX0, .code yX0_pointsBy cX0_pointsBy 3 (some .int), .methodLink RX0 15 yX0_turnedBy, .static yX0_turnedBy, .code yX0_turnedBy cX0_turnedBy 6 (some .int), .methodLink RX0 19 yX0_mirroredBy, .static yX0_mirroredBy, .code yX0_mirroredBy cX0_mirroredBy 2 (some .int), .constant RX0 31 (34952), .methodLink RX0 22 yX0_hollowed, .static yX0_hollowed, .code yX0_hollowed cX0_hollowed 5 (some .int), .constant RX0 32 (61166), .methodLink RX0 25 yX0_doubled, .static yX0_doubled, .code yX0_doubled cX0_doubled 1 (some .int), .constant RX0 33 (65535), .methodLink RX0 28 yX0_filled, .static yX0_filled, .code yX0_filled cX0_filled 6 (some .int), .methodLink RX6 53 yX1_cellsAtCorner, .static yX1_cellsAtCorner, .initialized RX1, .code yX1_cellsAtCorner cX1_cellsAtCorner 8 (some .long), .constantLong RX1 9 (771), .methodLink RX5 28 yX5_seekByWay, .instanceMethod yX5_seekByWay, .selects RX5 yX5_seekByWay yX5_seekByWay, .code yX5_seekByWay cX5_seekByWay 11 none, .methodLink RX5 32 yX1_moved, .static yX1_moved, .code yX1_moved cX1_moved 6 (some .long), .constantLong RX1 13 (72340172838076673), .methodLink RX5 38 yX1_cellsOff, .static yX1_cellsOff, .code yX1_cellsOff cX1_cellsOff 4 (some .int), .methodLink RX1 15 yJ13_bitCount_95d88, .static yJ13_bitCount_95d88, .initialized RJ13, .code yJ13_bitCount_95d88 cJ13_bitCount_95d88 2 (some .int), .constantLong RJ13 314 (6148914691236517205), .constantLong RJ13 316 (3689348814741910323), .constantLong RJ13 318 (1085102592571150095), .methodLink RX5 42 yX1_placingAt, .static yX1_placingAt, .code yX1_placingAt cX1_placingAt 3 (some .int)] : List Cond) ++ wsX60 ++ wsX50)
set_option maxRecDepth 20000 in
theorem g_r_nearestOnes_s_isTorn_49 : GoodIn w_r_nearestOnes (wsV RX5 49 RX6 yX6_isTorn w_s_isTorn) := goodIn_r _ [1, 2, 3, 4, 5, 6, 73, 74, 75, 76, 77, 78, 79, 80, 81] rfl (by decide +kernel)
set_option maxRecDepth 20000 in
theorem g_r_nearestOnes_r_seek_56 : GoodIn w_r_nearestOnes (wsV RX5 56 RX5 yX5_seek w_r_seek) := goodIn_r _ [7, 8, 9, 10, 11, 12, 13, 14, 15, 16, 4, 17, 18, 19, 20, 21, 22, 23, 24, 25, 26, 27, 28, 29, 30, 31, 32, 33, 34, 35, 36, 37, 38, 39, 40, 41, 42, 43, 44, 45, 46, 47, 48, 49, 50, 51, 52, 53, 54, 10, 55, 56, 57, 58, 59, 60, 61, 62, 63, 64, 65, 66, 67, 68, 69, 70, 71, 72, 82, 83, 73, 74, 75, 76, 77, 78, 79, 80, 81] rfl (by decide +kernel)
set_option maxHeartbeats 4000000 in
set_option maxRecDepth 100000 in
theorem r_nearestOnes (l : Launch) (dC : Nat → ClassId) (dI : Nat → Nat → Nat) (ad : Nat → Nat) (h0 : Nat) (h1 : Nat) (k : Int32) (pl : Int32) (lst : Int32) (sh : Int32) (q1 : Nat) (q2 : Nat) (tn : Int32) (w4 : Value) (w5 : Value) (w6 : Value) (q5 : Nat) (al : Int32) (c1 : ClassId) (f1 : Nat → Int32) (c2 : ClassId) (f2 : Nat → Int32) (c5 : ClassId) (f5 : Nat → Int64) (sz : Nat) (hsh : 0 ≤ sh.toInt ∧ sh.toInt ≤ 9) (hk : 0 ≤ k.toInt ∧ k.toInt ≤ 6) : Met l yX5_nearestOnes w_r_nearestOnes ({ frames := 4, cells := 0, slots := 0, locals := 101 } : Room) (va_Pc [.ref h0, .ref h1, .int k] (preM dC dI ad [(c1, .int), (c2, .int), (c5, .long)] [(h0, .inr (3, [.int pl, .int lst])), (h1, .inr (4, [.int sh, .ref q1, .ref q2, .int tn, w4, w5, w6, .ref q5, .int al])), (q1, .inl (c1, 9, .inl f1)), (q2, .inl (c2, 9, .inl f2)), (q5, .inl (c5, 7, .inr (.inl f5)))] sz)) (va_Qi (fun (r : Int32) (_ : Unit) => True) (fun _ t => ∃ (pl2 : Int32), ∃ (lst2 : Int32), va_P (dC, dI) vwCl [(h0, .inr (3, [.int pl2, .int lst2])), (h1, .inr (4, [.int sh, .ref q1, .ref q2, .int tn, w4, w5, w6, .ref q5, .int al])), (q1, .inl (c1, 9, .inl f1)), (q2, .inl (c2, 9, .inl f2)), (q5, .inl (c5, 7, .inr (.inl f5)))] t.heap ∧ va_K (dC, dI) vwCl [(c1, .int), (c2, .int), (c5, .long)] t ∧ va_D (va_A [(h0, .inr (3, [.int pl, .int lst])), (h1, .inr (4, [.int sh, .ref q1, .ref q2, .int tn, w4, w5, w6, .ref q5, .int al])), (q1, .inl (c1, 9, .inl f1)), (q2, .inl (c2, 9, .inl f2)), (q5, .inl (c5, 7, .inr (.inl f5)))] sz) [(h0, .inr (3, [.int pl2, .int lst2])), (h1, .inr (4, [.int sh, .ref q1, .ref q2, .int tn, w4, w5, w6, .ref q5, .int al])), (q1, .inl (c1, 9, .inl f1)), (q2, .inl (c2, 9, .inl f2)), (q5, .inl (c5, 7, .inr (.inl f5)))]) (va_A [(h0, .inr (3, [.int pl, .int lst])), (h1, .inr (4, [.int sh, .ref q1, .ref q2, .int tn, w4, w5, w6, .ref q5, .int al])), (q1, .inl (c1, 9, .inl f1)), (q2, .inl (c2, 9, .inl f2)), (q5, .inl (c5, 7, .inr (.inl f5)))] sz)) 0 0 (va_A [(h0, .inr (3, [.int pl, .int lst])), (h1, .inr (4, [.int sh, .ref q1, .ref q2, .int tn, w4, w5, w6, .ref q5, .int al])), (q1, .inl (c1, 9, .inl f1)), (q2, .inl (c2, 9, .inl f2)), (q5, .inl (c5, 7, .inr (.inl f5)))] sz) := by
  refine Met.ofW (cc := cX5_nearestOnes) (maxL := 6) (ret := (some .int)) (by decide) rfl ?_
  intro p e s m args below meth c s₁ B hml hv
  obtain ⟨rfl, hsz, hP, hK, hD0, hev⟩ := hv
  have hx := B.exec
  have hb := B.bytes
  have hr := B.returns
  have hts := atoms_spec (ws := w_r_nearestOnes) B.pre
  have hown : s.vm.findClass RX5 = some m.cls := findClass_of_methodNamed B.named
  have hlocks := B.notSynchronized
  have inX6 : ∀ w ∈ wsX60, w ∈ w_r_nearestOnes := fun w h => List.mem_cons_of_mem _ (List.mem_append_left _ (List.mem_append_right _ h))
  have inX5 : ∀ w ∈ wsX50, w ∈ w_r_nearestOnes := fun w h => List.mem_cons_of_mem _ (List.mem_append_right _ h)
  subst hsz
  have hD := hD0.self (sz := s.heap.size)
  generalize hAe : va_A [(h0, .inr (3, [.int pl, .int lst])), (h1, .inr (4, [.int sh, .ref q1, .ref q2, .int tn, w4, w5, w6, .ref q5, .int al])), (q1, .inl (c1, 9, .inl f1)), (q2, .inl (c2, 9, .inl f2)), (q5, .inl (c5, 7, .inr (.inl f5)))] s.heap.size = A at hD ⊢
  have hA : ∀ q : Nat, s.heap.size ≤ q → A q := fun q h => by rw [← hAe]; exact Or.inr h
  have hS : va_S A s.heap s.heap [] := va_S.rf
  have hP : va_P (dC, dI) vwCl [(h0, .inr (3, [.int pl, .int lst])), (h1, .inr (4, [.int sh, .ref q1, .ref q2, .int tn, w4, w5, w6, .ref q5, .int al])), (q1, .inl (c1, 9, .inl f1)), (q2, .inl (c2, 9, .inl f2)), (q5, .inl (c5, 7, .inr (.inl f5)))] s.heap := hP
  have hl := lv_entry ([.ref h0, .ref h1, .int k]) (n := 6) (Nat.le_of_ble_eq_true rfl)
  rw [lg_entry_eq]
  generalize (lg_sl ([.ref h0, .ref h1, .int k]) ++ List.replicate (6 - (lg_sl ([.ref h0, .ref h1, .int k])).length) Slot.unset).toArray = ls at hl ⊢
  have hl : lv_has ls 6 [(0, .ref h0), (1, .ref h1), (2, .int k)] := hl
  refine lv_iconst (v := 0) hx hb dX5_nearestOnes_0 (by decide) ?_
  refine lv_istore_n (lv' := [(3, .int 0), (0, .ref h0), (1, .ref h1), (2, .int k)]) hx hb dX5_nearestOnes_1 rfl hl (by decide) rfl (fun ls hl => ?_)
  refine lv_bipush (v := 65) hx hb dX5_nearestOnes_2 (by decide) ?_
  refine lv_istore (lv' := [(4, .int 65), (3, .int 0), (0, .ref h0), (1, .ref h1), (2, .int k)]) hx hb dX5_nearestOnes_4 hl (by decide) rfl (fun ls hl => ?_)
  refine lv_iconst (v := 0) hx hb dX5_nearestOnes_6 (by decide) ?_
  refine lv_istore (lv' := [(5, .int 0), (4, .int 65), (3, .int 0), (0, .ref h0), (1, .ref h1), (2, .int k)]) hx hb dX5_nearestOnes_7 hl (by decide) rfl (fun ls hl => ?_)
  refine pp_loop (ι := Int32 × Int32 × Int32 × Int32 × Int32) (fun ⟨v5_9, v4_9, v3_9, y0, y1⟩ => (sh.toInt - v5_9.toInt).toNat) (fun ⟨v5_9, v4_9, v3_9, y0, y1⟩ H locs ls => (0 ≤ v5_9.toInt) ∧ va_P (dC, dI) vwCl [(h0, .inr (3, [.int y0, .int y1])), (h1, .inr (4, [.int sh, .ref q1, .ref q2, .int tn, w4, w5, w6, .ref q5, .int al])), (q1, .inl (c1, 9, .inl f1)), (q2, .inl (c2, 9, .inl f2)), (q5, .inl (c5, 7, .inr (.inl f5)))] H ∧ va_D A [(h0, .inr (3, [.int y0, .int y1])), (h1, .inr (4, [.int sh, .ref q1, .ref q2, .int tn, w4, w5, w6, .ref q5, .int al])), (q1, .inl (c1, 9, .inl f1)), (q2, .inl (c2, 9, .inl f2)), (q5, .inl (c5, 7, .inr (.inl f5)))] ∧ va_S A s.heap H locs ∧ lv_has ls 6 [(5, .int v5_9), (4, .int v4_9), (3, .int v3_9), (0, .ref h0), (1, .ref h1), (2, .int k)]) ?_ (0, 65, 0, pl, lst) _ _ _ ⟨(by first | omega | decide | (simp only [fa_lt, fa_le, fa_eq, and_true, true_and, and_false, false_and, not_true_eq_false, not_false_eq_true, li_0, li_1, li_2, li_3, li_4, li_5, li_6, li_7, li_8, li_9, li_10, li_12, li_15, li_16, li_20, li_30, li_34, li_38, li_40, li_63, li_64, li_65, li_78, li_120, li_1000, li_4000, li_10000, li_11077, li_255, li_65535, li_m1, li_m2, li_m1000000001, li_m1000000002, li_m1000000003, li_m1000000004, li_m1000000005, li_m1000000006, li_m1000000007, or_true, true_or, or_false, false_or, implies_true, true_implies, false_implies] <;> omega)), hP.sub [0, 1, 2, 3, 4] rfl, hD.sub [0, 1, 2, 3, 4] (by decide) rfl, hS, lv_sub hl [0, 1, 2, 3, 4, 5] rfl⟩
  intro k_1 ihk_1 u H locs ls hm hI
  obtain ⟨v5_9, v4_9, v3_9, y0, y1⟩ := u
  obtain ⟨jk_1_0, hP, hD, hS, hl⟩ := hI
  have hmk_1 : (sh.toInt - v5_9.toInt).toNat < k_1 + 1 := hm
  clear hm
  have jk_1_0 : 0 ≤ v5_9.toInt := jk_1_0
  have hl : lv_has ls 6 [(5, .int v5_9), (4, .int v4_9), (3, .int v3_9), (0, .ref h0), (1, .ref h1), (2, .int k)] := hl
  have hP : va_P (dC, dI) vwCl [(h0, .inr (3, [.int y0, .int y1])), (h1, .inr (4, [.int sh, .ref q1, .ref q2, .int tn, w4, w5, w6, .ref q5, .int al])), (q1, .inl (c1, 9, .inl f1)), (q2, .inl (c2, 9, .inl f2)), (q5, .inl (c5, 7, .inr (.inl f5)))] H := hP
  have hD : va_D A [(h0, .inr (3, [.int y0, .int y1])), (h1, .inr (4, [.int sh, .ref q1, .ref q2, .int tn, w4, w5, w6, .ref q5, .int al])), (q1, .inl (c1, 9, .inl f1)), (q2, .inl (c2, 9, .inl f2)), (q5, .inl (c5, 7, .inr (.inl f5)))] := hD
  refine lv_iload hx hb dX5_nearestOnes_9 (lv_at hl 0 rfl) ?_
  refine lv_aload_n hx hb dX5_nearestOnes_11 rfl (lv_at hl 4 rfl) ?_
  refine va_getN (D := (dC, dI)) (ci := 4) (v := .int sh) (C := RX6) (T := TX6) (N := 9) hx hb hts inX6 hown hK hP 1 rfl rfl 0 (by decide) (ev_nest hev 0 rfl) (fun _ h9 => h9) rfl dX5_nearestOnes_12 ?_
  have rc_2_x := pp_rng v5_9
  have rc_2_y := pp_rng sh
  refine lv_icmp_ge (tgt := 83) hx hb dX5_nearestOnes_15 (by decide) (fun c_2 => ?_) (fun c_2 => ?_)
  · skip
    have tc_2 : sh.toInt ≤ v5_9.toInt := (fa_le _ _).mp c_2
    refine lv_iload_n hx hb dX5_nearestOnes_83 rfl (lv_at hl 2 rfl) ?_
    have hP9 := hP.sub (ws' := [(h0, .inr (3, [.int y0, .int y1])), (h1, .inr (4, [.int sh, .ref q1, .ref q2, .int tn, w4, w5, w6, .ref q5, .int al])), (q1, .inl (c1, 9, .inl f1)), (q2, .inl (c2, 9, .inl f2)), (q5, .inl (c5, 7, .inr (.inl f5)))]) [0, 1, 2, 3, 4] rfl
    have hD9 := hD.sub (ws' := [(h0, .inr (3, [.int y0, .int y1])), (h1, .inr (4, [.int sh, .ref q1, .ref q2, .int tn, w4, w5, w6, .ref q5, .int al])), (q1, .inl (c1, 9, .inl f1)), (q2, .inl (c2, 9, .inl f2)), (q5, .inl (c5, 7, .inr (.inl f5)))]) [0, 1, 2, 3, 4] (by decide) rfl
    have hK9 := hK.sub (tys' := [(c1, .int), (c2, .int), (c5, .long)]) [0, 1, 2] rfl
    exact W.iret (v := v3_9) hx hb hr (fun t ht hW => ⟨⟨v3_9, (), rfl, trivial, y0, y1, by rw [ht]; exact hP9, va_K.moved hW.alike hK9, hD9⟩, hS.F ht⟩) hS.2.2 dX5_nearestOnes_84
  · skip
    have tc_2 : ¬ sh.toInt ≤ v5_9.toInt := fun h => c_2 ((fa_le _ _).mpr h)
    refine lv_aload_n hx hb dX5_nearestOnes_18 rfl (lv_at hl 4 rfl) ?_
    refine lv_iload hx hb dX5_nearestOnes_19 (lv_at hl 0 rfl) ?_
    have hPc := hP.sub (ws' := [(h1, .inr (4, [.int sh, .ref q1, .ref q2, .int tn, w4, w5, w6, .ref q5, .int al]))]) [1] rfl
    have hKc := hK.sub (tys' := []) [] rfl
    refine vp_callSi (W.runV (As := [.int v5_9]) (rest := []) ⟨hx, hb, hml, hown, hts⟩ (s_isTorn l dC dI ad h1 v5_9 (.int sh) (.ref q1) (.ref q2) tn w4 w5 w6 (.ref q5) (.int al) ) (cwV 1 hts g_r_nearestOnes_s_isTorn_49 rfl rfl rfl (by decide +kernel) ⟨(Nat.le_of_ble_eq_true rfl), (Nat.le_of_ble_eq_true rfl)⟩) ⟨preS_blind, va_recv hKc hPc (ci := 4) (q0 := 0) rfl rfl, fun U hU hW => ⟨rfl, preS_at hU hW hPc hKc hev⟩⟩ rfl rfl hl.1 rfl (lv_room (Nat.le_of_ble_eq_true rfl)) dX5_nearestOnes_21 ⟨(Nat.le_of_ble_eq_true rfl), (Nat.le_of_ble_eq_true rfl)⟩) (fun r_3 hw => ?_)
    refine lv_if_eq (tgt := 30) hx hb dX5_nearestOnes_24 (by decide) (fun c_4 => ?_) (fun c_4 => ?_)
    · skip
      have tc_4 : r_3.toInt = 0 := (fa_eq _ _).mp c_4
      refine lv_aload_n hx hb dX5_nearestOnes_30 rfl (lv_at hl 3 rfl) ?_
      refine lv_aload_n hx hb dX5_nearestOnes_31 rfl (lv_at hl 4 rfl) ?_
      refine lv_iload hx hb dX5_nearestOnes_32 (lv_at hl 0 rfl) ?_
      refine lv_lconst (v := 0) hx hb dX5_nearestOnes_34 (by decide) ?_
      refine lv_aload_n hx hb dX5_nearestOnes_35 rfl (lv_at hl 4 rfl) ?_
      refine va_getN (D := (dC, dI)) (ci := 4) (v := .ref q5) (C := RX6) (T := TX6) (N := 9) hx hb hts inX6 hown hK hP 1 rfl rfl 7 (by decide) (ev_nest hev 9 rfl) (fun _ h9 => h9) rfl dX5_nearestOnes_36 ?_
      refine lv_iload_n hx hb dX5_nearestOnes_39 rfl (lv_at hl 5 rfl) ?_
      refine va_lald hx hb hK hP 4 2 rfl rfl (vp_in_iff.mpr ⟨by omega, by omega⟩) dX5_nearestOnes_40 ?_
      refine lv_topl (fun n_5 en_5 => ?_)
      clear en_5
      have hPc := hP.sub (ws' := [(h0, .inr (3, [.int y0, .int y1])), (h1, .inr (4, [.int sh, .ref q1, .ref q2, .int tn, w4, w5, w6, .ref q5, .int al])), (q1, .inl (c1, 9, .inl f1)), (q2, .inl (c2, 9, .inl f2))]) [0, 1, 2, 3] rfl
      have hKc := hK.sub (tys' := [(c1, .int), (c2, .int)]) [0, 1] rfl
      have hDc := hD.sub (ws' := [(h0, .inr (3, [.int y0, .int y1])), (h1, .inr (4, [.int sh, .ref q1, .ref q2, .int tn, w4, w5, w6, .ref q5, .int al])), (q1, .inl (c1, 9, .inl f1)), (q2, .inl (c2, 9, .inl f2))]) [0, 1, 2, 3] (by decide) rfl
      have hFc := va_free (wc := [(h0, .inr (3, [.int y0, .int y1])), (h1, .inr (4, [.int sh, .ref q1, .ref q2, .int tn, w4, w5, w6, .ref q5, .int al])), (q1, .inl (c1, 9, .inl f1)), (q2, .inl (c2, 9, .inl f2))]) hD hS hA [0, 1, 2, 3] rfl
      refine va_callv (va_runV (As := [.ref h1, .int v5_9, .long 0, .long n_5]) (rest := []) ⟨hx, hb, hml, hown, hts⟩ (r_seek l dC dI ad h0 h1 v5_9 0 n_5 y0 y1 (.int sh) q1 q2 (.int tn) w4 w5 w6 (.ref q5) al c1 f1 c2 f2 H.size (by first | omega | decide | (simp only [fa_lt, fa_le, fa_eq, and_true, true_and, and_false, false_and, not_true_eq_false, not_false_eq_true, li_0, li_1, li_2, li_3, li_4, li_5, li_6, li_7, li_8, li_9, li_10, li_12, li_15, li_16, li_20, li_30, li_34, li_38, li_40, li_63, li_64, li_65, li_78, li_120, li_1000, li_4000, li_10000, li_11077, li_255, li_65535, li_m1, li_m2, li_m1000000001, li_m1000000002, li_m1000000003, li_m1000000004, li_m1000000005, li_m1000000006, li_m1000000007, or_true, true_or, or_false, false_or, implies_true, true_implies, false_implies] <;> omega))) (cwV 4 hts g_r_nearestOnes_r_seek_56 rfl rfl rfl (by decide +kernel) ⟨(Nat.le_of_ble_eq_true rfl), (Nat.le_of_ble_eq_true rfl)⟩) ⟨preM_blind, va_recv hKc hPc (ci := 3) (q0 := 0) rfl rfl, fun U hU hW => ⟨rfl, preM_at hU hW hPc hKc hDc hev⟩⟩ rfl rfl hl.1 rfl (lv_room (Nat.le_of_ble_eq_true rfl)) dX5_nearestOnes_41 ⟨(Nat.le_of_ble_eq_true rfl), (Nat.le_of_ble_eq_true rfl)⟩) hS (fun q _ h => hFc q h) hFc (fun u t H1 locs ht hvm hw hB hz1 hk1 hS => ?_)
      obtain ⟨pl_7, lst_8, hP1, hK1, hD1⟩ := hB
      rw [ht] at hP1
      have hK1 := va_K.moved hvm.symm hK1
      obtain ⟨hP, hD⟩ := va_join (wr := [(q5, .inl (c5, 7, .inr (.inl f5)))]) (w1 := [(h0, .inr (3, [.int pl_7, .int lst_8])), (h1, .inr (4, [.int sh, .ref q1, .ref q2, .int tn, w4, w5, w6, .ref q5, .int al])), (q1, .inl (c1, 9, .inl f1)), (q2, .inl (c2, 9, .inl f2))]) hP hD [0, 1, 2, 3] [4] rfl rfl (by decide) (by decide) hk1 hFc hP1 hD1
      generalize H1 = H at hP hS ⊢
      have hP : va_P (dC, dI) vwCl [(q5, .inl (c5, 7, .inr (.inl f5))), (h0, .inr (3, [.int pl_7, .int lst_8])), (h1, .inr (4, [.int sh, .ref q1, .ref q2, .int tn, w4, w5, w6, .ref q5, .int al])), (q1, .inl (c1, 9, .inl f1)), (q2, .inl (c2, 9, .inl f2))] H := hP
      have hD : va_D A [(q5, .inl (c5, 7, .inr (.inl f5))), (h0, .inr (3, [.int pl_7, .int lst_8])), (h1, .inr (4, [.int sh, .ref q1, .ref q2, .int tn, w4, w5, w6, .ref q5, .int al])), (q1, .inl (c1, 9, .inl f1)), (q2, .inl (c2, 9, .inl f2))] := hD
      refine lv_aload_n hx hb dX5_nearestOnes_44 rfl (lv_at hl 3 rfl) ?_
      refine va_get (D := (dC, dI)) (ci := 3) (v := .int lst_8) (C := RX5) (T := TX5) (N := 2) hx hb hts inX5 hown hK hP 1 rfl rfl 1 (by decide) (hts _ (List.mem_of_getElem? (i := 13) rfl)) (fun _ h9 => h9) rfl dX5_nearestOnes_45 ?_
      refine lv_iload hx hb dX5_nearestOnes_48 (lv_at hl 1 rfl) ?_
      have rc_9_x := pp_rng lst_8
      have rc_9_y := pp_rng v4_9
      refine lv_icmp_ge (tgt := 61) hx hb dX5_nearestOnes_50 (by decide) (fun c_9 => ?_) (fun c_9 => ?_)
      · skip
        have tc_9 : v4_9.toInt ≤ lst_8.toInt := (fa_le _ _).mp c_9
        refine lv_aload_n hx hb dX5_nearestOnes_61 rfl (lv_at hl 3 rfl) ?_
        refine va_get (D := (dC, dI)) (ci := 3) (v := .int lst_8) (C := RX5) (T := TX5) (N := 2) hx hb hts inX5 hown hK hP 1 rfl rfl 1 (by decide) (hts _ (List.mem_of_getElem? (i := 13) rfl)) (fun _ h9 => h9) rfl dX5_nearestOnes_62 ?_
        refine lv_iload hx hb dX5_nearestOnes_65 (lv_at hl 1 rfl) ?_
        have rc_10_x := pp_rng lst_8
        have rc_10_y := pp_rng v4_9
        refine lv_icmp_ne (tgt := 77) hx hb dX5_nearestOnes_67 (by decide) (fun c_10 => ?_) (fun c_10 => ?_)
        · skip
          have tc_10 : ¬ lst_8.toInt = v4_9.toInt := fun h => c_10 ((fa_eq _ _).mpr h)
          obtain ⟨n_11, en_11⟩ : ∃ y : Int32, y = v5_9 + 1 := ⟨_, rfl⟩
          have tn_11 : n_11.toInt = v5_9.toInt + 1 := pp_add en_11 rfl rfl (by omega) (by omega)
          refine lv_iinc (v := n_11) (lv' := [(5, .int n_11), (4, .int v4_9), (3, .int v3_9), (0, .ref h0), (1, .ref h1), (2, .int k)]) hx hb dX5_nearestOnes_77 hl (k := 0) rfl (by rw [en_11]; rfl) (by decide) rfl (fun ls hl => ?_)
          clear en_11
          refine lv_goto (tgt := 9) hx hb dX5_nearestOnes_80 (by decide) ?_
          exact ihk_1 (n_11, v4_9, v3_9, pl_7, lst_8) _ _ _ (by show (sh.toInt - n_11.toInt).toNat < k_1; omega) ⟨(by first | omega | decide | (simp only [fa_lt, fa_le, fa_eq, and_true, true_and, and_false, false_and, not_true_eq_false, not_false_eq_true, li_0, li_1, li_2, li_3, li_4, li_5, li_6, li_7, li_8, li_9, li_10, li_12, li_15, li_16, li_20, li_30, li_34, li_38, li_40, li_63, li_64, li_65, li_78, li_120, li_1000, li_4000, li_10000, li_11077, li_255, li_65535, li_m1, li_m2, li_m1000000001, li_m1000000002, li_m1000000003, li_m1000000004, li_m1000000005, li_m1000000006, li_m1000000007, or_true, true_or, or_false, false_or, implies_true, true_implies, false_implies] <;> omega)), hP.sub [1, 2, 3, 4, 0] rfl, hD.sub [1, 2, 3, 4, 0] (by decide) rfl, hS, lv_sub hl [0, 1, 2, 3, 4, 5] rfl⟩
        · skip
          have tc_10 : lst_8.toInt = v4_9.toInt := (fa_eq _ _).mp c_10
          refine lv_iload_n hx hb dX5_nearestOnes_70 rfl (lv_at hl 2 rfl) ?_
          refine lv_iconst (v := 1) hx hb dX5_nearestOnes_71 (by decide) ?_
          refine lv_iload hx hb dX5_nearestOnes_72 (lv_at hl 0 rfl) ?_
          refine lv_ishl hx hb dX5_nearestOnes_74 ?_
          refine lv_topi (fun n_12 en_12 => ?_)
          clear en_12
          refine lv_ior hx hb dX5_nearestOnes_75 ?_
          refine lv_topi (fun n_13 en_13 => ?_)
          clear en_13
          refine lv_istore_n (lv' := [(3, .int n_13), (5, .int v5_9), (4, .int v4_9), (0, .ref h0), (1, .ref h1), (2, .int k)]) hx hb dX5_nearestOnes_76 rfl hl (by decide) rfl (fun ls hl => ?_)
          obtain ⟨n_14, en_14⟩ : ∃ y : Int32, y = v5_9 + 1 := ⟨_, rfl⟩
          have tn_14 : n_14.toInt = v5_9.toInt + 1 := pp_add en_14 rfl rfl (by omega) (by omega)
          refine lv_iinc (v := n_14) (lv' := [(5, .int n_14), (3, .int n_13), (4, .int v4_9), (0, .ref h0), (1, .ref h1), (2, .int k)]) hx hb dX5_nearestOnes_77 hl (k := 1) rfl (by rw [en_14]; rfl) (by decide) rfl (fun ls hl => ?_)
          clear en_14
          refine lv_goto (tgt := 9) hx hb dX5_nearestOnes_80 (by decide) ?_
          exact ihk_1 (n_14, v4_9, n_13, pl_7, lst_8) _ _ _ (by show (sh.toInt - n_14.toInt).toNat < k_1; omega) ⟨(by first | omega | decide | (simp only [fa_lt, fa_le, fa_eq, and_true, true_and, and_false, false_and, not_true_eq_false, not_false_eq_true, li_0, li_1, li_2, li_3, li_4, li_5, li_6, li_7, li_8, li_9, li_10, li_12, li_15, li_16, li_20, li_30, li_34, li_38, li_40, li_63, li_64, li_65, li_78, li_120, li_1000, li_4000, li_10000, li_11077, li_255, li_65535, li_m1, li_m2, li_m1000000001, li_m1000000002, li_m1000000003, li_m1000000004, li_m1000000005, li_m1000000006, li_m1000000007, or_true, true_or, or_false, false_or, implies_true, true_implies, false_implies] <;> omega)), hP.sub [1, 2, 3, 4, 0] rfl, hD.sub [1, 2, 3, 4, 0] (by decide) rfl, hS, lv_sub hl [0, 2, 1, 3, 4, 5] rfl⟩
      · skip
        have tc_9 : ¬ v4_9.toInt ≤ lst_8.toInt := fun h => c_9 ((fa_le _ _).mpr h)
        refine lv_aload_n hx hb dX5_nearestOnes_53 rfl (lv_at hl 3 rfl) ?_
        refine va_get (D := (dC, dI)) (ci := 3) (v := .int lst_8) (C := RX5) (T := TX5) (N := 2) hx hb hts inX5 hown hK hP 1 rfl rfl 1 (by decide) (hts _ (List.mem_of_getElem? (i := 13) rfl)) (fun _ h9 => h9) rfl dX5_nearestOnes_54 ?_
        refine lv_istore (lv' := [(4, .int lst_8), (5, .int v5_9), (3, .int v3_9), (0, .ref h0), (1, .ref h1), (2, .int k)]) hx hb dX5_nearestOnes_57 hl (by decide) rfl (fun ls hl => ?_)
        refine lv_iconst (v := 0) hx hb dX5_nearestOnes_59 (by decide) ?_
        refine lv_istore_n (lv' := [(3, .int 0), (4, .int lst_8), (5, .int v5_9), (0, .ref h0), (1, .ref h1), (2, .int k)]) hx hb dX5_nearestOnes_60 rfl hl (by decide) rfl (fun ls hl => ?_)
        refine lv_aload_n hx hb dX5_nearestOnes_61 rfl (lv_at hl 3 rfl) ?_
        refine va_get (D := (dC, dI)) (ci := 3) (v := .int lst_8) (C := RX5) (T := TX5) (N := 2) hx hb hts inX5 hown hK hP 1 rfl rfl 1 (by decide) (hts _ (List.mem_of_getElem? (i := 13) rfl)) (fun _ h9 => h9) rfl dX5_nearestOnes_62 ?_
        refine lv_iload hx hb dX5_nearestOnes_65 (lv_at hl 1 rfl) ?_
        have rc_15_x := pp_rng lst_8
        have rc_15_x := pp_rng lst_8
        refine lv_icmp_ne (tgt := 77) hx hb dX5_nearestOnes_67 (by decide) (fun c_15 => ?_) (fun c_15 => ?_)
        · skip
          have tc_15 : ¬ lst_8.toInt = lst_8.toInt := fun h => c_15 ((fa_eq _ _).mpr h)
          obtain ⟨n_16, en_16⟩ : ∃ y : Int32, y = v5_9 + 1 := ⟨_, rfl⟩
          have tn_16 : n_16.toInt = v5_9.toInt + 1 := pp_add en_16 rfl rfl (by omega) (by omega)
          refine lv_iinc (v := n_16) (lv' := [(5, .int n_16), (3, .int 0), (4, .int lst_8), (0, .ref h0), (1, .ref h1), (2, .int k)]) hx hb dX5_nearestOnes_77 hl (k := 2) rfl (by rw [en_16]; rfl) (by decide) rfl (fun ls hl => ?_)
          clear en_16
          refine lv_goto (tgt := 9) hx hb dX5_nearestOnes_80 (by decide) ?_
          exact ihk_1 (n_16, lst_8, 0, pl_7, lst_8) _ _ _ (by show (sh.toInt - n_16.toInt).toNat < k_1; omega) ⟨(by first | omega | decide | (simp only [fa_lt, fa_le, fa_eq, and_true, true_and, and_false, false_and, not_true_eq_false, not_false_eq_true, li_0, li_1, li_2, li_3, li_4, li_5, li_6, li_7, li_8, li_9, li_10, li_12, li_15, li_16, li_20, li_30, li_34, li_38, li_40, li_63, li_64, li_65, li_78, li_120, li_1000, li_4000, li_10000, li_11077, li_255, li_65535, li_m1, li_m2, li_m1000000001, li_m1000000002, li_m1000000003, li_m1000000004, li_m1000000005, li_m1000000006, li_m1000000007, or_true, true_or, or_false, false_or, implies_true, true_implies, false_implies] <;> omega)), hP.sub [1, 2, 3, 4, 0] rfl, hD.sub [1, 2, 3, 4, 0] (by decide) rfl, hS, lv_sub hl [0, 2, 1, 3, 4, 5] rfl⟩
        · skip
          have tc_15 : lst_8.toInt = lst_8.toInt := (fa_eq _ _).mp c_15
          refine lv_iload_n hx hb dX5_nearestOnes_70 rfl (lv_at hl 0 rfl) ?_
          refine lv_iconst (v := 1) hx hb dX5_nearestOnes_71 (by decide) ?_
          refine lv_iload hx hb dX5_nearestOnes_72 (lv_at hl 2 rfl) ?_
          refine lv_ishl hx hb dX5_nearestOnes_74 ?_
          refine lv_topi (fun n_17 en_17 => ?_)
          clear en_17
          refine lv_ior hx hb dX5_nearestOnes_75 ?_
          refine lv_topi (fun n_18 en_18 => ?_)
          clear en_18
          refine lv_istore_n (lv' := [(3, .int n_18), (4, .int lst_8), (5, .int v5_9), (0, .ref h0), (1, .ref h1), (2, .int k)]) hx hb dX5_nearestOnes_76 rfl hl (by decide) rfl (fun ls hl => ?_)
          obtain ⟨n_19, en_19⟩ : ∃ y : Int32, y = v5_9 + 1 := ⟨_, rfl⟩
          have tn_19 : n_19.toInt = v5_9.toInt + 1 := pp_add en_19 rfl rfl (by omega) (by omega)
          refine lv_iinc (v := n_19) (lv' := [(5, .int n_19), (3, .int n_18), (4, .int lst_8), (0, .ref h0), (1, .ref h1), (2, .int k)]) hx hb dX5_nearestOnes_77 hl (k := 2) rfl (by rw [en_19]; rfl) (by decide) rfl (fun ls hl => ?_)
          clear en_19
          refine lv_goto (tgt := 9) hx hb dX5_nearestOnes_80 (by decide) ?_
          exact ihk_1 (n_19, lst_8, n_18, pl_7, lst_8) _ _ _ (by show (sh.toInt - n_19.toInt).toNat < k_1; omega) ⟨(by first | omega | decide | (simp only [fa_lt, fa_le, fa_eq, and_true, true_and, and_false, false_and, not_true_eq_false, not_false_eq_true, li_0, li_1, li_2, li_3, li_4, li_5, li_6, li_7, li_8, li_9, li_10, li_12, li_15, li_16, li_20, li_30, li_34, li_38, li_40, li_63, li_64, li_65, li_78, li_120, li_1000, li_4000, li_10000, li_11077, li_255, li_65535, li_m1, li_m2, li_m1000000001, li_m1000000002, li_m1000000003, li_m1000000004, li_m1000000005, li_m1000000006, li_m1000000007, or_true, true_or, or_false, false_or, implies_true, true_implies, false_implies] <;> omega)), hP.sub [1, 2, 3, 4, 0] rfl, hD.sub [1, 2, 3, 4, 0] (by decide) rfl, hS, lv_sub hl [0, 2, 1, 3, 4, 5] rfl⟩
    · skip
      have tc_4 : ¬ r_3.toInt = 0 := fun h => c_4 ((fa_eq _ _).mpr h)
      refine lv_goto (tgt := 77) hx hb dX5_nearestOnes_27 (by decide) ?_
      obtain ⟨n_20, en_20⟩ : ∃ y : Int32, y = v5_9 + 1 := ⟨_, rfl⟩
      have tn_20 : n_20.toInt = v5_9.toInt + 1 := pp_add en_20 rfl rfl (by omega) (by omega)
      refine lv_iinc (v := n_20) (lv' := [(5, .int n_20), (4, .int v4_9), (3, .int v3_9), (0, .ref h0), (1, .ref h1), (2, .int k)]) hx hb dX5_nearestOnes_77 hl (k := 0) rfl (by rw [en_20]; rfl) (by decide) rfl (fun ls hl => ?_)
      clear en_20
      refine lv_goto (tgt := 9) hx hb dX5_nearestOnes_80 (by decide) ?_
      exact ihk_1 (n_20, v4_9, v3_9, y0, y1) _ _ _ (by show (sh.toInt - n_20.toInt).toNat < k_1; omega) ⟨(by first | omega | decide | (simp only [fa_lt, fa_le, fa_eq, and_true, true_and, and_false, false_and, not_true_eq_false, not_false_eq_true, li_0, li_1, li_2, li_3, li_4, li_5, li_6, li_7, li_8, li_9, li_10, li_12, li_15, li_16, li_20, li_30, li_34, li_38, li_40, li_63, li_64, li_65, li_78, li_120, li_1000, li_4000, li_10000, li_11077, li_255, li_65535, li_m1, li_m2, li_m1000000001, li_m1000000002, li_m1000000003, li_m1000000004, li_m1000000005, li_m1000000006, li_m1000000007, or_true, true_or, or_false, false_or, implies_true, true_implies, false_implies] <;> omega)), hP.sub [0, 1, 2, 3, 4] rfl, hD.sub [0, 1, 2, 3, 4] (by decide) rfl, hS, lv_sub hl [0, 1, 2, 3, 4, 5] rfl⟩

def w_r_addOne : List Cond := .code yX5_addOne cX5_addOne 11 (some .boolean) :: (([.methodLink RX5 38 yX1_cellsOff, .static yX1_cellsOff, .initialized RX1, .code yX1_cellsOff cX1_cellsOff 4 (some .int), .methodLink RX1 15 yJ13_bitCount_95d88, .static yJ13_bitCount_95d88, .initialized RJ13, .code yJ13_bitCount_95d88 cJ13_bitCount_95d88 2 (some .int), .constantLong RJ13 314 (6148914691236517205), .constantLong RJ13 316 (3689348814741910323), .constantLong RJ13 318 (1085102592571150095), .methodLink RX5 64 yX6_take, .instanceMethod yX6_take, .selects RX6 yX6_take yX6_take, .initialized RX6, .code yX6_take cX6_take 4 none, .fieldLink RX6 25 "LampShapes$Stage" "heldShapes" "[I", .fieldLink RX6 28 "LampShapes$Stage" "heldPlacings" "[I", .methodLink RX5 49 yX6_isTorn, .instanceMethod yX6_isTorn, .selects RX6 yX6_isTorn yX6_isTorn, .code yX6_isTorn cX6_isTorn 2 (some .boolean), .fieldLink RX6 22 "LampShapes$Stage" "tornShapes" "I", .methodLink RX5 60 yX6_holdOf, .instanceMethod yX6_holdOf, .selects RX6 yX6_holdOf yX6_holdOf, .code yX6_holdOf cX6_holdOf 3 (some .int), .methodLink RX5 56 yX5_seek, .instanceMethod yX5_seek, .selects RX5 yX5_seek yX5_seek, .initialized RX5, .code yX5_seek cX5_seek 8 none, .fieldLink RX5 9 "LampShapes$Search" "placing" "I", .fieldLink RX5 15 "LampShapes$Search" "least" "I", .methodLink RX5 18 yX6_isAllowed, .instanceMethod yX6_isAllowed, .selects RX6 yX6_isAllowed yX6_isAllowed, .code yX6_isAllowed cX6_isAllowed 4 (some .boolean), .fieldLink RX6 38 "LampShapes$Stage" "allowed" "I", .methodLink RX5 24 yX6_cornerBy, .instanceMethod yX6_cornerBy, .selects RX6 yX6_cornerBy yX6_cornerBy, .code yX6_cornerBy cX6_cornerBy 4 (some .long), .fieldLink RX6 15 "LampShapes$Stage" "kinds" "[I", .fieldLink RX6 19 "LampShapes$Stage" "points" "[I", .methodLink RX6 47 yX0_pointsBy, .static yX0_pointsBy, .initialized RX0, .code yX0_pointsBy cX0_pointsBy 3 (some .int), .methodLink RX0 15 yX0_turnedBy, .static yX0_turnedBy, .code yX0_turnedBy cX0_turnedBy 6 (some .int), .methodLink RX0 19 yX0_mirroredBy, .static yX0_mirroredBy, .code yX0_mirroredBy cX0_mirroredBy 2 (some .int), .constant RX0 31 (34952), .methodLink RX0 22 yX0_hollowed, .static yX0_hollowed, .code yX0_hollowed cX0_hollowed 5 (some .int), .constant RX0 32 (61166), .methodLink RX0 25 yX0_doubled, .static yX0_doubled, .code yX0_doubled cX0_doubled 1 (some .int), .constant RX0 33 (65535), .methodLink RX0 28 yX0_filled, .static yX0_filled, .code yX0_filled cX0_filled 6 (some .int), .methodLink RX6 53 yX1_cellsAtCorner, .static yX1_cellsAtCorner, .code yX1_cellsAtCorner cX1_cellsAtCorner 8 (some .long), .constantLong RX1 9 (771), .methodLink RX5 28 yX5_seekByWay, .instanceMethod yX5_seekByWay, .selects RX5 yX5_seekByWay yX5_seekByWay, .code yX5_seekByWay cX5_seekByWay 11 none, .methodLink RX5 32 yX1_moved, .static yX1_moved, .code yX1_moved cX1_moved 6 (some .long), .constantLong RX1 13 (72340172838076673), .methodLink RX5 42 yX1_placingAt, .static yX1_placingAt, .code yX1_placingAt cX1_placingAt 3 (some .int)] : List Cond) ++ wsX60 ++ wsX50)
set_option maxRecDepth 20000 in
theorem g_r_addOne_l_cellsOff_38 : GoodIn w_r_addOne (va_wsS RX5 38 yX1_cellsOff w_l_cellsOff) := goodIn_r _ [1, 2, 3, 4, 5, 6, 7, 8, 9, 10, 11] rfl (by decide +kernel)
set_option maxRecDepth 20000 in
theorem g_r_addOne_s_take_64 : GoodIn w_r_addOne (wsV RX5 64 RX6 yX6_take w_s_take) := goodIn_r _ [12, 13, 14, 15, 16, 17, 18, 83, 84, 85, 86, 87, 88, 89, 90, 91] rfl (by decide +kernel)
set_option maxRecDepth 20000 in
theorem g_r_addOne_s_isTorn_49 : GoodIn w_r_addOne (wsV RX5 49 RX6 yX6_isTorn w_s_isTorn) := goodIn_r _ [19, 20, 21, 15, 22, 23, 83, 84, 85, 86, 87, 88, 89, 90, 91] rfl (by decide +kernel)
set_option maxRecDepth 20000 in
theorem g_r_addOne_s_holdOf_60 : GoodIn w_r_addOne (wsV RX5 60 RX6 yX6_holdOf w_s_holdOf) := goodIn_r _ [24, 25, 26, 15, 27, 17, 83, 84, 85, 86, 87, 88, 89, 90, 91] rfl (by decide +kernel)
set_option maxRecDepth 20000 in
theorem g_r_addOne_r_seek_56 : GoodIn w_r_addOne (wsV RX5 56 RX5 yX5_seek w_r_seek) := goodIn_r _ [28, 29, 30, 31, 32, 33, 34, 35, 36, 37, 15, 38, 39, 40, 41, 42, 43, 44, 45, 46, 47, 48, 49, 50, 51, 52, 53, 54, 55, 56, 57, 58, 59, 60, 61, 62, 63, 64, 65, 66, 67, 68, 69, 3, 70, 71, 72, 73, 74, 31, 75, 76, 77, 78, 79, 1, 2, 4, 5, 6, 7, 8, 9, 10, 11, 80, 81, 82, 92, 93, 83, 84, 85, 86, 87, 88, 89, 90, 91] rfl (by decide +kernel)
set_option maxHeartbeats 4000000 in
set_option maxRecDepth 100000 in
theorem r_addOne (l : Launch) (dC : Nat → ClassId) (dI : Nat → Nat → Nat) (ad : Nat → Nat) (h0 : Nat) (h1 : Nat) (k : Int32) (a : Int64) (b : Int64) (pl : Int32) (lst : Int32) (sh : Int32) (q1 : Nat) (q2 : Nat) (tn : Int32) (q3 : Nat) (q4 : Nat) (w6 : Value) (w7 : Value) (al : Int32) (c1 : ClassId) (f1 : Nat → Int32) (c2 : ClassId) (f2 : Nat → Int32) (c3 : ClassId) (f3 : Nat → Int32) (c4 : ClassId) (f4 : Nat → Int32) (sz : Nat) (hsh : 0 ≤ sh.toInt ∧ sh.toInt ≤ 9) (hk : 0 ≤ k.toInt ∧ k.toInt ≤ 3) : Met l yX5_addOne w_r_addOne ({ frames := 4, cells := 0, slots := 0, locals := 101 } : Room) (va_Pc [.ref h0, .ref h1, .int k, .long a, .long b] (preM dC dI ad [(c1, .int), (c2, .int), (c3, .int), (c4, .int)] [(h0, .inr (3, [.int pl, .int lst])), (h1, .inr (4, [.int sh, .ref q1, .ref q2, .int tn, .ref q3, .ref q4, w6, w7, .int al])), (q1, .inl (c1, 9, .inl f1)), (q2, .inl (c2, 9, .inl f2)), (q3, .inl (c3, 4, .inl f3)), (q4, .inl (c4, 4, .inl f4))] sz)) (va_Qi (fun (r : Int32) (_ : Unit) => True) (fun _ t => ∃ (pl2 : Int32), ∃ (lst2 : Int32), ∃ (g3 : Nat → Int32), ∃ (g4 : Nat → Int32), va_P (dC, dI) vwCl [(h0, .inr (3, [.int pl2, .int lst2])), (h1, .inr (4, [.int sh, .ref q1, .ref q2, .int tn, .ref q3, .ref q4, w6, w7, .int al])), (q1, .inl (c1, 9, .inl f1)), (q2, .inl (c2, 9, .inl f2)), (q3, .inl (c3, 4, .inl g3)), (q4, .inl (c4, 4, .inl g4))] t.heap ∧ va_K (dC, dI) vwCl [(c1, .int), (c2, .int), (c3, .int), (c4, .int)] t ∧ va_D (va_A [(h0, .inr (3, [.int pl, .int lst])), (h1, .inr (4, [.int sh, .ref q1, .ref q2, .int tn, .ref q3, .ref q4, w6, w7, .int al])), (q1, .inl (c1, 9, .inl f1)), (q2, .inl (c2, 9, .inl f2)), (q3, .inl (c3, 4, .inl f3)), (q4, .inl (c4, 4, .inl f4))] sz) [(h0, .inr (3, [.int pl2, .int lst2])), (h1, .inr (4, [.int sh, .ref q1, .ref q2, .int tn, .ref q3, .ref q4, w6, w7, .int al])), (q1, .inl (c1, 9, .inl f1)), (q2, .inl (c2, 9, .inl f2)), (q3, .inl (c3, 4, .inl g3)), (q4, .inl (c4, 4, .inl g4))]) (va_A [(h0, .inr (3, [.int pl, .int lst])), (h1, .inr (4, [.int sh, .ref q1, .ref q2, .int tn, .ref q3, .ref q4, w6, w7, .int al])), (q1, .inl (c1, 9, .inl f1)), (q2, .inl (c2, 9, .inl f2)), (q3, .inl (c3, 4, .inl f3)), (q4, .inl (c4, 4, .inl f4))] sz)) 0 0 (va_A [(h0, .inr (3, [.int pl, .int lst])), (h1, .inr (4, [.int sh, .ref q1, .ref q2, .int tn, .ref q3, .ref q4, w6, w7, .int al])), (q1, .inl (c1, 9, .inl f1)), (q2, .inl (c2, 9, .inl f2)), (q3, .inl (c3, 4, .inl f3)), (q4, .inl (c4, 4, .inl f4))] sz) := by
  refine Met.ofW (cc := cX5_addOne) (maxL := 11) (ret := (some .boolean)) (by decide) rfl ?_
  intro p e s m args below meth c s₁ B hml hv
  obtain ⟨rfl, hsz, hP, hK, hD0, hev⟩ := hv
  have hx := B.exec
  have hb := B.bytes
  have hr := B.returns
  have hts := atoms_spec (ws := w_r_addOne) B.pre
  have hown : s.vm.findClass RX5 = some m.cls := findClass_of_methodNamed B.named
  have hlocks := B.notSynchronized
  have inX6 : ∀ w ∈ wsX60, w ∈ w_r_addOne := fun w h => List.mem_cons_of_mem _ (List.mem_append_left _ (List.mem_append_right _ h))
  have inX5 : ∀ w ∈ wsX50, w ∈ w_r_addOne := fun w h => List.mem_cons_of_mem _ (List.mem_append_right _ h)
  subst hsz
  have hD := hD0.self (sz := s.heap.size)
  generalize hAe : va_A [(h0, .inr (3, [.int pl, .int lst])), (h1, .inr (4, [.int sh, .ref q1, .ref q2, .int tn, .ref q3, .ref q4, w6, w7, .int al])), (q1, .inl (c1, 9, .inl f1)), (q2, .inl (c2, 9, .inl f2)), (q3, .inl (c3, 4, .inl f3)), (q4, .inl (c4, 4, .inl f4))] s.heap.size = A at hD ⊢
  have hA : ∀ q : Nat, s.heap.size ≤ q → A q := fun q h => by rw [← hAe]; exact Or.inr h
  have hS : va_S A s.heap s.heap [] := va_S.rf
  have hP : va_P (dC, dI) vwCl [(h0, .inr (3, [.int pl, .int lst])), (h1, .inr (4, [.int sh, .ref q1, .ref q2, .int tn, .ref q3, .ref q4, w6, w7, .int al])), (q1, .inl (c1, 9, .inl f1)), (q2, .inl (c2, 9, .inl f2)), (q3, .inl (c3, 4, .inl f3)), (q4, .inl (c4, 4, .inl f4))] s.heap := hP
  have hl := lv_entry ([.ref h0, .ref h1, .int k, .long a, .long b]) (n := 11) (Nat.le_of_ble_eq_true rfl)
  rw [lg_entry_eq]
  generalize (lg_sl ([.ref h0, .ref h1, .int k, .long a, .long b]) ++ List.replicate (11 - (lg_sl ([.ref h0, .ref h1, .int k, .long a, .long b])).length) Slot.unset).toArray = ls at hl ⊢
  have hl : lv_has ls 11 [(0, .ref h0), (1, .ref h1), (2, .int k), (3, .long a), (5, .long b)] := hl
  refine lv_lload_n hx hb dX5_addOne_0 rfl (lv_at hl 3 rfl) ?_
  refine lv_lload hx hb dX5_addOne_1 (lv_at hl 4 rfl) ?_
  have hPc := hP.sub (ws' := []) [] rfl
  have hKc := hK.sub (tys' := []) [] rfl
  refine vp_callSi (W.runS (As := [.long a, .long b]) (rest := []) ⟨hx, hb, hml, hown, hts⟩ (l_cellsOff l dC dI ad a b ) (va_cwS 2 hts g_r_addOne_l_cellsOff_38 rfl rfl rfl (by decide +kernel) ⟨(Nat.le_of_ble_eq_true rfl), (Nat.le_of_ble_eq_true rfl)⟩) ⟨preS_blind, fun U hU hW => ⟨rfl, preS_at hU hW hPc hKc hev⟩⟩ rfl rfl hl.1 rfl (lv_room (Nat.le_of_ble_eq_true rfl)) dX5_addOne_3 ⟨(Nat.le_of_ble_eq_true rfl), (Nat.le_of_ble_eq_true rfl)⟩) (fun r_1 hw => ?_)
  refine lv_istore (lv' := [(7, .int r_1), (0, .ref h0), (1, .ref h1), (2, .int k), (3, .long a), (5, .long b)]) hx hb dX5_addOne_6 hl (by decide) rfl (fun ls hl => ?_)
  refine lv_iconst (v := (-1)) hx hb dX5_addOne_8 (by decide) ?_
  refine lv_istore (lv' := [(8, .int (-1)), (7, .int r_1), (0, .ref h0), (1, .ref h1), (2, .int k), (3, .long a), (5, .long b)]) hx hb dX5_addOne_9 hl (by decide) rfl (fun ls hl => ?_)
  refine lv_iconst (v := (-1)) hx hb dX5_addOne_11 (by decide) ?_
  refine lv_istore (lv' := [(9, .int (-1)), (8, .int (-1)), (7, .int r_1), (0, .ref h0), (1, .ref h1), (2, .int k), (3, .long a), (5, .long b)]) hx hb dX5_addOne_12 hl (by decide) rfl (fun ls hl => ?_)
  refine lv_iconst (v := 0) hx hb dX5_addOne_14 (by decide) ?_
  refine lv_istore (lv' := [(10, .int 0), (9, .int (-1)), (8, .int (-1)), (7, .int r_1), (0, .ref h0), (1, .ref h1), (2, .int k), (3, .long a), (5, .long b)]) hx hb dX5_addOne_15 hl (by decide) rfl (fun ls hl => ?_)
  refine pp_loop (ι := Int32 × Int32 × Int32 × Int32 × Int32 × Int32) (fun ⟨v10_17, v9_17, v8_17, v7_17, y0, y1⟩ => (sh.toInt - v10_17.toInt).toNat) (fun ⟨v10_17, v9_17, v8_17, v7_17, y0, y1⟩ H locs ls => (0 ≤ v10_17.toInt) ∧ va_P (dC, dI) vwCl [(h0, .inr (3, [.int y0, .int y1])), (h1, .inr (4, [.int sh, .ref q1, .ref q2, .int tn, .ref q3, .ref q4, w6, w7, .int al])), (q1, .inl (c1, 9, .inl f1)), (q2, .inl (c2, 9, .inl f2)), (q3, .inl (c3, 4, .inl f3)), (q4, .inl (c4, 4, .inl f4))] H ∧ va_D A [(h0, .inr (3, [.int y0, .int y1])), (h1, .inr (4, [.int sh, .ref q1, .ref q2, .int tn, .ref q3, .ref q4, w6, w7, .int al])), (q1, .inl (c1, 9, .inl f1)), (q2, .inl (c2, 9, .inl f2)), (q3, .inl (c3, 4, .inl f3)), (q4, .inl (c4, 4, .inl f4))] ∧ va_S A s.heap H locs ∧ lv_has ls 11 [(10, .int v10_17), (9, .int v9_17), (8, .int v8_17), (7, .int v7_17), (0, .ref h0), (1, .ref h1), (2, .int k), (3, .long a), (5, .long b)]) ?_ (0, (-1), (-1), r_1, pl, lst) _ _ _ ⟨(by first | omega | decide | (simp only [fa_lt, fa_le, fa_eq, and_true, true_and, and_false, false_and, not_true_eq_false, not_false_eq_true, li_0, li_1, li_2, li_3, li_4, li_5, li_6, li_7, li_8, li_9, li_10, li_12, li_15, li_16, li_20, li_30, li_34, li_38, li_40, li_63, li_64, li_65, li_78, li_120, li_1000, li_4000, li_10000, li_11077, li_255, li_65535, li_m1, li_m2, li_m1000000001, li_m1000000002, li_m1000000003, li_m1000000004, li_m1000000005, li_m1000000006, li_m1000000007, or_true, true_or, or_false, false_or, implies_true, true_implies, false_implies] <;> omega)), hP.sub [0, 1, 2, 3, 4, 5] rfl, hD.sub [0, 1, 2, 3, 4, 5] (by decide) rfl, hS, lv_sub hl [0, 1, 2, 3, 4, 5, 6, 7, 8] rfl⟩
  intro k_2 ihk_2 u H locs ls hm hI
  obtain ⟨v10_17, v9_17, v8_17, v7_17, y0, y1⟩ := u
  obtain ⟨jk_2_0, hP, hD, hS, hl⟩ := hI
  have hmk_2 : (sh.toInt - v10_17.toInt).toNat < k_2 + 1 := hm
  clear hm
  have jk_2_0 : 0 ≤ v10_17.toInt := jk_2_0
  have hl : lv_has ls 11 [(10, .int v10_17), (9, .int v9_17), (8, .int v8_17), (7, .int v7_17), (0, .ref h0), (1, .ref h1), (2, .int k), (3, .long a), (5, .long b)] := hl
  have hP : va_P (dC, dI) vwCl [(h0, .inr (3, [.int y0, .int y1])), (h1, .inr (4, [.int sh, .ref q1, .ref q2, .int tn, .ref q3, .ref q4, w6, w7, .int al])), (q1, .inl (c1, 9, .inl f1)), (q2, .inl (c2, 9, .inl f2)), (q3, .inl (c3, 4, .inl f3)), (q4, .inl (c4, 4, .inl f4))] H := hP
  have hD : va_D A [(h0, .inr (3, [.int y0, .int y1])), (h1, .inr (4, [.int sh, .ref q1, .ref q2, .int tn, .ref q3, .ref q4, w6, w7, .int al])), (q1, .inl (c1, 9, .inl f1)), (q2, .inl (c2, 9, .inl f2)), (q3, .inl (c3, 4, .inl f3)), (q4, .inl (c4, 4, .inl f4))] := hD
  refine lv_iload hx hb dX5_addOne_17 (lv_at hl 0 rfl) ?_
  refine lv_aload_n hx hb dX5_addOne_19 rfl (lv_at hl 5 rfl) ?_
  refine va_getN (D := (dC, dI)) (ci := 4) (v := .int sh) (C := RX6) (T := TX6) (N := 9) hx hb hts inX6 hown hK hP 1 rfl rfl 0 (by decide) (ev_nest hev 0 rfl) (fun _ h9 => h9) rfl dX5_addOne_20 ?_
  have rc_3_x := pp_rng v10_17
  have rc_3_y := pp_rng sh
  refine lv_icmp_ge (tgt := 88) hx hb dX5_addOne_23 (by decide) (fun c_3 => ?_) (fun c_3 => ?_)
  · skip
    have tc_3 : sh.toInt ≤ v10_17.toInt := (fa_le _ _).mp c_3
    refine lv_iload hx hb dX5_addOne_88 (lv_at hl 2 rfl) ?_
    refine lv_if_ge (tgt := 95) hx hb dX5_addOne_90 (by decide) (fun c_4 => ?_) (fun c_4 => ?_)
    · skip
      have tc_4 : 0 ≤ v8_17.toInt := (fa_le _ _).mp c_4
      refine lv_aload_n hx hb dX5_addOne_95 rfl (lv_at hl 5 rfl) ?_
      refine lv_iload_n hx hb dX5_addOne_96 rfl (lv_at hl 6 rfl) ?_
      refine lv_iload hx hb dX5_addOne_97 (lv_at hl 2 rfl) ?_
      refine lv_iload hx hb dX5_addOne_99 (lv_at hl 1 rfl) ?_
      have hPc := hP.sub (ws' := [(h1, .inr (4, [.int sh, .ref q1, .ref q2, .int tn, .ref q3, .ref q4, w6, w7, .int al])), (q3, .inl (c3, 4, .inl f3)), (q4, .inl (c4, 4, .inl f4))]) [1, 4, 5] rfl
      have hKc := hK.sub (tys' := [(c3, .int), (c4, .int)]) [2, 3] rfl
      have hDc := hD.sub (ws' := [(h1, .inr (4, [.int sh, .ref q1, .ref q2, .int tn, .ref q3, .ref q4, w6, w7, .int al])), (q3, .inl (c3, 4, .inl f3)), (q4, .inl (c4, 4, .inl f4))]) [1, 4, 5] (by decide) rfl
      have hFc := va_free (wc := [(h1, .inr (4, [.int sh, .ref q1, .ref q2, .int tn, .ref q3, .ref q4, w6, w7, .int al])), (q3, .inl (c3, 4, .inl f3)), (q4, .inl (c4, 4, .inl f4))]) hD hS hA [1, 4, 5] rfl
      refine va_callv (va_runV (As := [.int k, .int v8_17, .int v9_17]) (rest := []) ⟨hx, hb, hml, hown, hts⟩ (s_take l dC dI ad h1 k v8_17 v9_17 (.int sh) (.ref q1) (.ref q2) (.int tn) q3 q4 w6 w7 (.int al) c3 f3 c4 f4 H.size hk) (cwV 3 hts g_r_addOne_s_take_64 rfl rfl rfl (by decide +kernel) ⟨(Nat.le_of_ble_eq_true rfl), (Nat.le_of_ble_eq_true rfl)⟩) ⟨preM_blind, va_recv hKc hPc (ci := 4) (q0 := 0) rfl rfl, fun U hU hW => ⟨rfl, preM_at hU hW hPc hKc hDc hev⟩⟩ rfl rfl hl.1 rfl (lv_room (Nat.le_of_ble_eq_true rfl)) dX5_addOne_101 ⟨(Nat.le_of_ble_eq_true rfl), (Nat.le_of_ble_eq_true rfl)⟩) hS (fun q _ h => hFc q h) hFc (fun u t H1 locs ht hvm hw hB hz1 hk1 hS => ?_)
      obtain ⟨g_6, g_7, hP1, hK1, hD1⟩ := hB
      rw [ht] at hP1
      have hK1 := va_K.moved hvm.symm hK1
      obtain ⟨hP, hD⟩ := va_join (wr := [(h0, .inr (3, [.int y0, .int y1])), (q1, .inl (c1, 9, .inl f1)), (q2, .inl (c2, 9, .inl f2))]) (w1 := [(h1, .inr (4, [.int sh, .ref q1, .ref q2, .int tn, .ref q3, .ref q4, w6, w7, .int al])), (q3, .inl (c3, 4, .inl g_6)), (q4, .inl (c4, 4, .inl g_7))]) hP hD [1, 4, 5] [0, 2, 3] rfl rfl (by decide) (by decide) hk1 hFc hP1 hD1
      generalize H1 = H at hP hS ⊢
      have hP : va_P (dC, dI) vwCl [(h0, .inr (3, [.int y0, .int y1])), (q1, .inl (c1, 9, .inl f1)), (q2, .inl (c2, 9, .inl f2)), (h1, .inr (4, [.int sh, .ref q1, .ref q2, .int tn, .ref q3, .ref q4, w6, w7, .int al])), (q3, .inl (c3, 4, .inl g_6)), (q4, .inl (c4, 4, .inl g_7))] H := hP
      have hD : va_D A [(h0, .inr (3, [.int y0, .int y1])), (q1, .inl (c1, 9, .inl f1)), (q2, .inl (c2, 9, .inl f2)), (h1, .inr (4, [.int sh, .ref q1, .ref q2, .int tn, .ref q3, .ref q4, w6, w7, .int al])), (q3, .inl (c3, 4, .inl g_6)), (q4, .inl (c4, 4, .inl g_7))] := hD
      refine lv_iconst (v := 1) hx hb dX5_addOne_104 (by decide) ?_
      have hP9 := hP.sub (ws' := [(h0, .inr (3, [.int y0, .int y1])), (h1, .inr (4, [.int sh, .ref q1, .ref q2, .int tn, .ref q3, .ref q4, w6, w7, .int al])), (q1, .inl (c1, 9, .inl f1)), (q2, .inl (c2, 9, .inl f2)), (q3, .inl (c3, 4, .inl g_6)), (q4, .inl (c4, 4, .inl g_7))]) [0, 3, 1, 2, 4, 5] rfl
      have hD9 := hD.sub (ws' := [(h0, .inr (3, [.int y0, .int y1])), (h1, .inr (4, [.int sh, .ref q1, .ref q2, .int tn, .ref q3, .ref q4, w6, w7, .int al])), (q1, .inl (c1, 9, .inl f1)), (q2, .inl (c2, 9, .inl f2)), (q3, .inl (c3, 4, .inl g_6)), (q4, .inl (c4, 4, .inl g_7))]) [0, 3, 1, 2, 4, 5] (by decide) rfl
      have hK9 := hK.sub (tys' := [(c1, .int), (c2, .int), (c3, .int), (c4, .int)]) [0, 1, 2, 3] rfl
      exact W.zret (v := (1 : Int32)) hx hb hr (by decide) (fun t ht hW => ⟨⟨(1 : Int32), (), rfl, trivial, y0, y1, g_6, g_7, by rw [ht]; exact hP9, va_K.moved hW.alike hK9, hD9⟩, hS.F ht⟩) hS.2.2 dX5_addOne_105
    · skip
      have tc_4 : ¬ 0 ≤ v8_17.toInt := fun h => c_4 ((fa_le _ _).mpr h)
      refine lv_iconst (v := 0) hx hb dX5_addOne_93 (by decide) ?_
      have hP9 := hP.sub (ws' := [(h0, .inr (3, [.int y0, .int y1])), (h1, .inr (4, [.int sh, .ref q1, .ref q2, .int tn, .ref q3, .ref q4, w6, w7, .int al])), (q1, .inl (c1, 9, .inl f1)), (q2, .inl (c2, 9, .inl f2)), (q3, .inl (c3, 4, .inl f3)), (q4, .inl (c4, 4, .inl f4))]) [0, 1, 2, 3, 4, 5] rfl
      have hD9 := hD.sub (ws' := [(h0, .inr (3, [.int y0, .int y1])), (h1, .inr (4, [.int sh, .ref q1, .ref q2, .int tn, .ref q3, .ref q4, w6, w7, .int al])), (q1, .inl (c1, 9, .inl f1)), (q2, .inl (c2, 9, .inl f2)), (q3, .inl (c3, 4, .inl f3)), (q4, .inl (c4, 4, .inl f4))]) [0, 1, 2, 3, 4, 5] (by decide) rfl
      have hK9 := hK.sub (tys' := [(c1, .int), (c2, .int), (c3, .int), (c4, .int)]) [0, 1, 2, 3] rfl
      exact W.zret (v := (0 : Int32)) hx hb hr (by decide) (fun t ht hW => ⟨⟨(0 : Int32), (), rfl, trivial, y0, y1, f3, f4, by rw [ht]; exact hP9, va_K.moved hW.alike hK9, hD9⟩, hS.F ht⟩) hS.2.2 dX5_addOne_94
  · skip
    have tc_3 : ¬ sh.toInt ≤ v10_17.toInt := fun h => c_3 ((fa_le _ _).mpr h)
    refine lv_aload_n hx hb dX5_addOne_26 rfl (lv_at hl 5 rfl) ?_
    refine lv_iload hx hb dX5_addOne_27 (lv_at hl 0 rfl) ?_
    have hPc := hP.sub (ws' := [(h1, .inr (4, [.int sh, .ref q1, .ref q2, .int tn, .ref q3, .ref q4, w6, w7, .int al]))]) [1] rfl
    have hKc := hK.sub (tys' := []) [] rfl
    refine vp_callSi (W.runV (As := [.int v10_17]) (rest := []) ⟨hx, hb, hml, hown, hts⟩ (s_isTorn l dC dI ad h1 v10_17 (.int sh) (.ref q1) (.ref q2) tn (.ref q3) (.ref q4) w6 w7 (.int al) ) (cwV 1 hts g_r_addOne_s_isTorn_49 rfl rfl rfl (by decide +kernel) ⟨(Nat.le_of_ble_eq_true rfl), (Nat.le_of_ble_eq_true rfl)⟩) ⟨preS_blind, va_recv hKc hPc (ci := 4) (q0 := 0) rfl rfl, fun U hU hW => ⟨rfl, preS_at hU hW hPc hKc hev⟩⟩ rfl rfl hl.1 rfl (lv_room (Nat.le_of_ble_eq_true rfl)) dX5_addOne_29 ⟨(Nat.le_of_ble_eq_true rfl), (Nat.le_of_ble_eq_true rfl)⟩) (fun r_8 hw => ?_)
    refine lv_if_ne (tgt := 82) hx hb dX5_addOne_32 (by decide) (fun c_9 => ?_) (fun c_9 => ?_)
    · skip
      have tc_9 : ¬ r_8.toInt = 0 := fun h => c_9 ((fa_eq _ _).mpr h)
      obtain ⟨n_10, en_10⟩ : ∃ y : Int32, y = v10_17 + 1 := ⟨_, rfl⟩
      have tn_10 : n_10.toInt = v10_17.toInt + 1 := pp_add en_10 rfl rfl (by omega) (by omega)
      refine lv_iinc (v := n_10) (lv' := [(10, .int n_10), (9, .int v9_17), (8, .int v8_17), (7, .int v7_17), (0, .ref h0), (1, .ref h1), (2, .int k), (3, .long a), (5, .long b)]) hx hb dX5_addOne_82 hl (k := 0) rfl (by rw [en_10]; rfl) (by decide) rfl (fun ls hl => ?_)
      clear en_10
      refine lv_goto (tgt := 17) hx hb dX5_addOne_85 (by decide) ?_
      exact ihk_2 (n_10, v9_17, v8_17, v7_17, y0, y1) _ _ _ (by show (sh.toInt - n_10.toInt).toNat < k_2; omega) ⟨(by first | omega | decide | (simp only [fa_lt, fa_le, fa_eq, and_true, true_and, and_false, false_and, not_true_eq_false, not_false_eq_true, li_0, li_1, li_2, li_3, li_4, li_5, li_6, li_7, li_8, li_9, li_10, li_12, li_15, li_16, li_20, li_30, li_34, li_38, li_40, li_63, li_64, li_65, li_78, li_120, li_1000, li_4000, li_10000, li_11077, li_255, li_65535, li_m1, li_m2, li_m1000000001, li_m1000000002, li_m1000000003, li_m1000000004, li_m1000000005, li_m1000000006, li_m1000000007, or_true, true_or, or_false, false_or, implies_true, true_implies, false_implies] <;> omega)), hP.sub [0, 1, 2, 3, 4, 5] rfl, hD.sub [0, 1, 2, 3, 4, 5] (by decide) rfl, hS, lv_sub hl [0, 1, 2, 3, 4, 5, 6, 7, 8] rfl⟩
    · skip
      have tc_9 : r_8.toInt = 0 := (fa_eq _ _).mp c_9
      refine lv_aload_n hx hb dX5_addOne_35 rfl (lv_at hl 5 rfl) ?_
      refine lv_iload hx hb dX5_addOne_36 (lv_at hl 0 rfl) ?_
      have hPc := hP.sub (ws' := [(h1, .inr (4, [.int sh, .ref q1, .ref q2, .int tn, .ref q3, .ref q4, w6, w7, .int al])), (q3, .inl (c3, 4, .inl f3))]) [1, 4] rfl
      have hKc := hK.sub (tys' := [(c3, .int)]) [2] rfl
      refine vp_callSi (W.runV (As := [.int v10_17]) (rest := []) ⟨hx, hb, hml, hown, hts⟩ (s_holdOf l dC dI ad h1 v10_17 (.int sh) (.ref q1) (.ref q2) (.int tn) q3 (.ref q4) w6 w7 (.int al) c3 f3 ) (cwV 1 hts g_r_addOne_s_holdOf_60 rfl rfl rfl (by decide +kernel) ⟨(Nat.le_of_ble_eq_true rfl), (Nat.le_of_ble_eq_true rfl)⟩) ⟨preS_blind, va_recv hKc hPc (ci := 4) (q0 := 0) rfl rfl, fun U hU hW => ⟨rfl, preS_at hU hW hPc hKc hev⟩⟩ rfl rfl hl.1 rfl (lv_room (Nat.le_of_ble_eq_true rfl)) dX5_addOne_38 ⟨(Nat.le_of_ble_eq_true rfl), (Nat.le_of_ble_eq_true rfl)⟩) (fun r_11 hw => ?_)
      have hr_11 : (-1) ≤ r_11.toInt ∧ r_11.toInt ≤ 3 := hw
      refine lv_if_lt (tgt := 47) hx hb dX5_addOne_41 (by decide) (fun c_12 => ?_) (fun c_12 => ?_)
      · skip
        have tc_12 : r_11.toInt < 0 := (fa_lt _ _).mp c_12
        refine lv_aload_n hx hb dX5_addOne_47 rfl (lv_at hl 4 rfl) ?_
        refine lv_aload_n hx hb dX5_addOne_48 rfl (lv_at hl 5 rfl) ?_
        refine lv_iload hx hb dX5_addOne_49 (lv_at hl 0 rfl) ?_
        refine lv_lload_n hx hb dX5_addOne_51 rfl (lv_at hl 7 rfl) ?_
        refine lv_lload hx hb dX5_addOne_52 (lv_at hl 8 rfl) ?_
        have hPc := hP.sub (ws' := [(h0, .inr (3, [.int y0, .int y1])), (h1, .inr (4, [.int sh, .ref q1, .ref q2, .int tn, .ref q3, .ref q4, w6, w7, .int al])), (q1, .inl (c1, 9, .inl f1)), (q2, .inl (c2, 9, .inl f2))]) [0, 1, 2, 3] rfl
        have hKc := hK.sub (tys' := [(c1, .int), (c2, .int)]) [0, 1] rfl
        have hDc := hD.sub (ws' := [(h0, .inr (3, [.int y0, .int y1])), (h1, .inr (4, [.int sh, .ref q1, .ref q2, .int tn, .ref q3, .ref q4, w6, w7, .int al])), (q1, .inl (c1, 9, .inl f1)), (q2, .inl (c2, 9, .inl f2))]) [0, 1, 2, 3] (by decide) rfl
        have hFc := va_free (wc := [(h0, .inr (3, [.int y0, .int y1])), (h1, .inr (4, [.int sh, .ref q1, .ref q2, .int tn, .ref q3, .ref q4, w6, w7, .int al])), (q1, .inl (c1, 9, .inl f1)), (q2, .inl (c2, 9, .inl f2))]) hD hS hA [0, 1, 2, 3] rfl
        refine va_callv (va_runV (As := [.ref h1, .int v10_17, .long a, .long b]) (rest := []) ⟨hx, hb, hml, hown, hts⟩ (r_seek l dC dI ad h0 h1 v10_17 a b y0 y1 (.int sh) q1 q2 (.int tn) (.ref q3) (.ref q4) w6 w7 al c1 f1 c2 f2 H.size (by first | omega | decide | (simp only [fa_lt, fa_le, fa_eq, and_true, true_and, and_false, false_and, not_true_eq_false, not_false_eq_true, li_0, li_1, li_2, li_3, li_4, li_5, li_6, li_7, li_8, li_9, li_10, li_12, li_15, li_16, li_20, li_30, li_34, li_38, li_40, li_63, li_64, li_65, li_78, li_120, li_1000, li_4000, li_10000, li_11077, li_255, li_65535, li_m1, li_m2, li_m1000000001, li_m1000000002, li_m1000000003, li_m1000000004, li_m1000000005, li_m1000000006, li_m1000000007, or_true, true_or, or_false, false_or, implies_true, true_implies, false_implies] <;> omega))) (cwV 4 hts g_r_addOne_r_seek_56 rfl rfl rfl (by decide +kernel) ⟨(Nat.le_of_ble_eq_true rfl), (Nat.le_of_ble_eq_true rfl)⟩) ⟨preM_blind, va_recv hKc hPc (ci := 3) (q0 := 0) rfl rfl, fun U hU hW => ⟨rfl, preM_at hU hW hPc hKc hDc hev⟩⟩ rfl rfl hl.1 rfl (lv_room (Nat.le_of_ble_eq_true rfl)) dX5_addOne_54 ⟨(Nat.le_of_ble_eq_true rfl), (Nat.le_of_ble_eq_true rfl)⟩) hS (fun q _ h => hFc q h) hFc (fun u t H1 locs ht hvm hw hB hz1 hk1 hS => ?_)
        obtain ⟨pl_14, lst_15, hP1, hK1, hD1⟩ := hB
        rw [ht] at hP1
        have hK1 := va_K.moved hvm.symm hK1
        obtain ⟨hP, hD⟩ := va_join (wr := [(q3, .inl (c3, 4, .inl f3)), (q4, .inl (c4, 4, .inl f4))]) (w1 := [(h0, .inr (3, [.int pl_14, .int lst_15])), (h1, .inr (4, [.int sh, .ref q1, .ref q2, .int tn, .ref q3, .ref q4, w6, w7, .int al])), (q1, .inl (c1, 9, .inl f1)), (q2, .inl (c2, 9, .inl f2))]) hP hD [0, 1, 2, 3] [4, 5] rfl rfl (by decide) (by decide) hk1 hFc hP1 hD1
        generalize H1 = H at hP hS ⊢
        have hP : va_P (dC, dI) vwCl [(q3, .inl (c3, 4, .inl f3)), (q4, .inl (c4, 4, .inl f4)), (h0, .inr (3, [.int pl_14, .int lst_15])), (h1, .inr (4, [.int sh, .ref q1, .ref q2, .int tn, .ref q3, .ref q4, w6, w7, .int al])), (q1, .inl (c1, 9, .inl f1)), (q2, .inl (c2, 9, .inl f2))] H := hP
        have hD : va_D A [(q3, .inl (c3, 4, .inl f3)), (q4, .inl (c4, 4, .inl f4)), (h0, .inr (3, [.int pl_14, .int lst_15])), (h1, .inr (4, [.int sh, .ref q1, .ref q2, .int tn, .ref q3, .ref q4, w6, w7, .int al])), (q1, .inl (c1, 9, .inl f1)), (q2, .inl (c2, 9, .inl f2))] := hD
        refine lv_aload_n hx hb dX5_addOne_57 rfl (lv_at hl 4 rfl) ?_
        refine va_get (D := (dC, dI)) (ci := 3) (v := .int lst_15) (C := RX5) (T := TX5) (N := 2) hx hb hts inX5 hown hK hP 2 rfl rfl 1 (by decide) (hts _ (List.mem_of_getElem? (i := 34) rfl)) (fun _ h9 => h9) rfl dX5_addOne_58 ?_
        refine lv_iload hx hb dX5_addOne_61 (lv_at hl 3 rfl) ?_
        have rc_16_x := pp_rng lst_15
        have rc_16_y := pp_rng v7_17
        refine lv_icmp_ge (tgt := 82) hx hb dX5_addOne_63 (by decide) (fun c_16 => ?_) (fun c_16 => ?_)
        · skip
          have tc_16 : v7_17.toInt ≤ lst_15.toInt := (fa_le _ _).mp c_16
          obtain ⟨n_17, en_17⟩ : ∃ y : Int32, y = v10_17 + 1 := ⟨_, rfl⟩
          have tn_17 : n_17.toInt = v10_17.toInt + 1 := pp_add en_17 rfl rfl (by omega) (by omega)
          refine lv_iinc (v := n_17) (lv' := [(10, .int n_17), (9, .int v9_17), (8, .int v8_17), (7, .int v7_17), (0, .ref h0), (1, .ref h1), (2, .int k), (3, .long a), (5, .long b)]) hx hb dX5_addOne_82 hl (k := 0) rfl (by rw [en_17]; rfl) (by decide) rfl (fun ls hl => ?_)
          clear en_17
          refine lv_goto (tgt := 17) hx hb dX5_addOne_85 (by decide) ?_
          exact ihk_2 (n_17, v9_17, v8_17, v7_17, pl_14, lst_15) _ _ _ (by show (sh.toInt - n_17.toInt).toNat < k_2; omega) ⟨(by first | omega | decide | (simp only [fa_lt, fa_le, fa_eq, and_true, true_and, and_false, false_and, not_true_eq_false, not_false_eq_true, li_0, li_1, li_2, li_3, li_4, li_5, li_6, li_7, li_8, li_9, li_10, li_12, li_15, li_16, li_20, li_30, li_34, li_38, li_40, li_63, li_64, li_65, li_78, li_120, li_1000, li_4000, li_10000, li_11077, li_255, li_65535, li_m1, li_m2, li_m1000000001, li_m1000000002, li_m1000000003, li_m1000000004, li_m1000000005, li_m1000000006, li_m1000000007, or_true, true_or, or_false, false_or, implies_true, true_implies, false_implies] <;> omega)), hP.sub [2, 3, 4, 5, 0, 1] rfl, hD.sub [2, 3, 4, 5, 0, 1] (by decide) rfl, hS, lv_sub hl [0, 1, 2, 3, 4, 5, 6, 7, 8] rfl⟩
        · skip
          have tc_16 : ¬ v7_17.toInt ≤ lst_15.toInt := fun h => c_16 ((fa_le _ _).mpr h)
          refine lv_aload_n hx hb dX5_addOne_66 rfl (lv_at hl 4 rfl) ?_
          refine va_get (D := (dC, dI)) (ci := 3) (v := .int lst_15) (C := RX5) (T := TX5) (N := 2) hx hb hts inX5 hown hK hP 2 rfl rfl 1 (by decide) (hts _ (List.mem_of_getElem? (i := 34) rfl)) (fun _ h9 => h9) rfl dX5_addOne_67 ?_
          refine lv_istore (lv' := [(7, .int lst_15), (10, .int v10_17), (9, .int v9_17), (8, .int v8_17), (0, .ref h0), (1, .ref h1), (2, .int k), (3, .long a), (5, .long b)]) hx hb dX5_addOne_70 hl (by decide) rfl (fun ls hl => ?_)
          refine lv_iload hx hb dX5_addOne_72 (lv_at hl 1 rfl) ?_
          refine lv_istore (lv' := [(8, .int v10_17), (7, .int lst_15), (10, .int v10_17), (9, .int v9_17), (0, .ref h0), (1, .ref h1), (2, .int k), (3, .long a), (5, .long b)]) hx hb dX5_addOne_74 hl (by decide) rfl (fun ls hl => ?_)
          refine lv_aload_n hx hb dX5_addOne_76 rfl (lv_at hl 4 rfl) ?_
          refine va_get (D := (dC, dI)) (ci := 3) (v := .int pl_14) (C := RX5) (T := TX5) (N := 2) hx hb hts inX5 hown hK hP 2 rfl rfl 0 (by decide) (hts _ (List.mem_of_getElem? (i := 33) rfl)) (fun _ h9 => h9) rfl dX5_addOne_77 ?_
          refine lv_istore (lv' := [(9, .int pl_14), (8, .int v10_17), (7, .int lst_15), (10, .int v10_17), (0, .ref h0), (1, .ref h1), (2, .int k), (3, .long a), (5, .long b)]) hx hb dX5_addOne_80 hl (by decide) rfl (fun ls hl => ?_)
          obtain ⟨n_18, en_18⟩ : ∃ y : Int32, y = v10_17 + 1 := ⟨_, rfl⟩
          have tn_18 : n_18.toInt = v10_17.toInt + 1 := pp_add en_18 rfl rfl (by omega) (by omega)
          refine lv_iinc (v := n_18) (lv' := [(10, .int n_18), (9, .int pl_14), (8, .int v10_17), (7, .int lst_15), (0, .ref h0), (1, .ref h1), (2, .int k), (3, .long a), (5, .long b)]) hx hb dX5_addOne_82 hl (k := 3) rfl (by rw [en_18]; rfl) (by decide) rfl (fun ls hl => ?_)
          clear en_18
          refine lv_goto (tgt := 17) hx hb dX5_addOne_85 (by decide) ?_
          exact ihk_2 (n_18, pl_14, v10_17, lst_15, pl_14, lst_15) _ _ _ (by show (sh.toInt - n_18.toInt).toNat < k_2; omega) ⟨(by first | omega | decide | (simp only [fa_lt, fa_le, fa_eq, and_true, true_and, and_false, false_and, not_true_eq_false, not_false_eq_true, li_0, li_1, li_2, li_3, li_4, li_5, li_6, li_7, li_8, li_9, li_10, li_12, li_15, li_16, li_20, li_30, li_34, li_38, li_40, li_63, li_64, li_65, li_78, li_120, li_1000, li_4000, li_10000, li_11077, li_255, li_65535, li_m1, li_m2, li_m1000000001, li_m1000000002, li_m1000000003, li_m1000000004, li_m1000000005, li_m1000000006, li_m1000000007, or_true, true_or, or_false, false_or, implies_true, true_implies, false_implies] <;> omega)), hP.sub [2, 3, 4, 5, 0, 1] rfl, hD.sub [2, 3, 4, 5, 0, 1] (by decide) rfl, hS, lv_sub hl [0, 1, 2, 3, 4, 5, 6, 7, 8] rfl⟩
      · skip
        have tc_12 : ¬ r_11.toInt < 0 := fun h => c_12 ((fa_lt _ _).mpr h)
        refine lv_goto (tgt := 82) hx hb dX5_addOne_44 (by decide) ?_
        obtain ⟨n_19, en_19⟩ : ∃ y : Int32, y = v10_17 + 1 := ⟨_, rfl⟩
        have tn_19 : n_19.toInt = v10_17.toInt + 1 := pp_add en_19 rfl rfl (by omega) (by omega)
        refine lv_iinc (v := n_19) (lv' := [(10, .int n_19), (9, .int v9_17), (8, .int v8_17), (7, .int v7_17), (0, .ref h0), (1, .ref h1), (2, .int k), (3, .long a), (5, .long b)]) hx hb dX5_addOne_82 hl (k := 0) rfl (by rw [en_19]; rfl) (by decide) rfl (fun ls hl => ?_)
        clear en_19
        refine lv_goto (tgt := 17) hx hb dX5_addOne_85 (by decide) ?_
        exact ihk_2 (n_19, v9_17, v8_17, v7_17, y0, y1) _ _ _ (by show (sh.toInt - n_19.toInt).toNat < k_2; omega) ⟨(by first | omega | decide | (simp only [fa_lt, fa_le, fa_eq, and_true, true_and, and_false, false_and, not_true_eq_false, not_false_eq_true, li_0, li_1, li_2, li_3, li_4, li_5, li_6, li_7, li_8, li_9, li_10, li_12, li_15, li_16, li_20, li_30, li_34, li_38, li_40, li_63, li_64, li_65, li_78, li_120, li_1000, li_4000, li_10000, li_11077, li_255, li_65535, li_m1, li_m2, li_m1000000001, li_m1000000002, li_m1000000003, li_m1000000004, li_m1000000005, li_m1000000006, li_m1000000007, or_true, true_or, or_false, false_or, implies_true, true_implies, false_implies] <;> omega)), hP.sub [0, 1, 2, 3, 4, 5] rfl, hD.sub [0, 1, 2, 3, 4, 5] (by decide) rfl, hS, lv_sub hl [0, 1, 2, 3, 4, 5, 6, 7, 8] rfl⟩

