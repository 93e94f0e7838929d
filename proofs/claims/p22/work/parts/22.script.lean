theorem dX4_perform_0 : decode cX4_perform 0 = .ok (.aload_n 0, 1) := by decide +kernel
theorem dX4_perform_1 : decode cX4_perform 1 = .ok (.iconst 0, 1) := by decide +kernel
theorem dX4_perform_2 : decode cX4_perform 2 = .ok (.putfield 32, 3) := by decide +kernel
theorem dX4_perform_5 : decode cX4_perform 5 = .ok (.aload_n 0, 1) := by decide +kernel
theorem dX4_perform_6 : decode cX4_perform 6 = .ok (.invokevirtual 39, 3) := by decide +kernel
theorem dX4_perform_9 : decode cX4_perform 9 = .ok (.iconst 1, 1) := by decide +kernel
theorem dX4_perform_10 : decode cX4_perform 10 = .ok (.istore_n 1, 1) := by decide +kernel
theorem dX4_perform_11 : decode cX4_perform 11 = .ok (.iload_n 1, 1) := by decide +kernel
theorem dX4_perform_12 : decode cX4_perform 12 = .ok (.bipush 120, 2) := by decide +kernel
theorem dX4_perform_14 : decode cX4_perform 14 = .ok (.if_icmp .gt 51, 3) := by decide +kernel
theorem dX4_perform_17 : decode cX4_perform 17 = .ok (.aload_n 0, 1) := by decide +kernel
theorem dX4_perform_18 : decode cX4_perform 18 = .ok (.invokevirtual 42, 3) := by decide +kernel
theorem dX4_perform_21 : decode cX4_perform 21 = .ok (.ifCond .ne 10, 3) := by decide +kernel
theorem dX4_perform_24 : decode cX4_perform 24 = .ok (.iconst (-1), 1) := by decide +kernel
theorem dX4_perform_25 : decode cX4_perform 25 = .ok (.aload_n 0, 1) := by decide +kernel
theorem dX4_perform_26 : decode cX4_perform 26 = .ok (.getfield 29, 3) := by decide +kernel
theorem dX4_perform_29 : decode cX4_perform 29 = .ok (.isub, 1) := by decide +kernel
theorem dX4_perform_30 : decode cX4_perform 30 = .ok (.ireturn, 1) := by decide +kernel
theorem dX4_perform_31 : decode cX4_perform 31 = .ok (.aload_n 0, 1) := by decide +kernel
theorem dX4_perform_32 : decode cX4_perform 32 = .ok (.getfield 25, 3) := by decide +kernel
theorem dX4_perform_35 : decode cX4_perform 35 = .ok (.ifCond .ne 5, 3) := by decide +kernel
theorem dX4_perform_38 : decode cX4_perform 38 = .ok (.iload_n 1, 1) := by decide +kernel
theorem dX4_perform_39 : decode cX4_perform 39 = .ok (.ireturn, 1) := by decide +kernel
theorem dX4_perform_40 : decode cX4_perform 40 = .ok (.aload_n 0, 1) := by decide +kernel
theorem dX4_perform_41 : decode cX4_perform 41 = .ok (.getfield 25, 3) := by decide +kernel
theorem dX4_perform_44 : decode cX4_perform 44 = .ok (.iconst 4, 1) := by decide +kernel
theorem dX4_perform_45 : decode cX4_perform 45 = .ok (.if_icmp .eq 10, 3) := by decide +kernel
theorem dX4_perform_48 : decode cX4_perform 48 = .ok (.iconst (-1), 1) := by decide +kernel
theorem dX4_perform_49 : decode cX4_perform 49 = .ok (.aload_n 0, 1) := by decide +kernel
theorem dX4_perform_50 : decode cX4_perform 50 = .ok (.getfield 29, 3) := by decide +kernel
theorem dX4_perform_53 : decode cX4_perform 53 = .ok (.isub, 1) := by decide +kernel
theorem dX4_perform_54 : decode cX4_perform 54 = .ok (.ireturn, 1) := by decide +kernel
theorem dX4_perform_55 : decode cX4_perform 55 = .ok (.aload_n 0, 1) := by decide +kernel
theorem dX4_perform_56 : decode cX4_perform 56 = .ok (.invokevirtual 39, 3) := by decide +kernel
theorem dX4_perform_59 : decode cX4_perform 59 = .ok (.iinc 1 1, 3) := by decide +kernel
theorem dX4_perform_62 : decode cX4_perform 62 = .ok (.goto (-51), 3) := by decide +kernel
theorem dX4_perform_65 : decode cX4_perform 65 = .ok (.iconst (-1), 1) := by decide +kernel
theorem dX4_perform_66 : decode cX4_perform 66 = .ok (.aload_n 0, 1) := by decide +kernel
theorem dX4_perform_67 : decode cX4_perform 67 = .ok (.getfield 29, 3) := by decide +kernel
theorem dX4_perform_70 : decode cX4_perform 70 = .ok (.isub, 1) := by decide +kernel
theorem dX4_perform_71 : decode cX4_perform 71 = .ok (.ireturn, 1) := by decide +kernel
theorem dX4_advance_0 : decode cX4_advance 0 = .ok (.aload_n 0, 1) := by decide +kernel
theorem dX4_advance_1 : decode cX4_advance 1 = .ok (.aload_n 0, 1) := by decide +kernel
theorem dX4_advance_2 : decode cX4_advance 2 = .ok (.getfield 32, 3) := by decide +kernel
theorem dX4_advance_5 : decode cX4_advance 5 = .ok (.putfield 29, 3) := by decide +kernel
theorem dX4_advance_8 : decode cX4_advance 8 = .ok (.aload_n 0, 1) := by decide +kernel
theorem dX4_advance_9 : decode cX4_advance 9 = .ok (.getfield 29, 3) := by decide +kernel
theorem dX4_advance_12 : decode cX4_advance 12 = .ok (.aload_n 0, 1) := by decide +kernel
theorem dX4_advance_13 : decode cX4_advance 13 = .ok (.getfield 12, 3) := by decide +kernel
theorem dX4_advance_16 : decode cX4_advance 16 = .ok (.getfield 46, 3) := by decide +kernel
theorem dX4_advance_19 : decode cX4_advance 19 = .ok (.if_icmp .ge 35, 3) := by decide +kernel
theorem dX4_advance_22 : decode cX4_advance 22 = .ok (.aload_n 0, 1) := by decide +kernel
theorem dX4_advance_23 : decode cX4_advance 23 = .ok (.getfield 12, 3) := by decide +kernel
theorem dX4_advance_26 : decode cX4_advance 26 = .ok (.getfield 49, 3) := by decide +kernel
theorem dX4_advance_29 : decode cX4_advance 29 = .ok (.aload_n 0, 1) := by decide +kernel
theorem dX4_advance_30 : decode cX4_advance 30 = .ok (.getfield 29, 3) := by decide +kernel
theorem dX4_advance_33 : decode cX4_advance 33 = .ok (.iaload, 1) := by decide +kernel
theorem dX4_advance_34 : decode cX4_advance 34 = .ok (.invokestatic 53, 3) := by decide +kernel
theorem dX4_advance_37 : decode cX4_advance 37 = .ok (.iconst 5, 1) := by decide +kernel
theorem dX4_advance_38 : decode cX4_advance 38 = .ok (.if_icmp .ne 16, 3) := by decide +kernel
theorem dX4_advance_41 : decode cX4_advance 41 = .ok (.aload_n 0, 1) := by decide +kernel
theorem dX4_advance_42 : decode cX4_advance 42 = .ok (.dup, 1) := by decide +kernel
theorem dX4_advance_43 : decode cX4_advance 43 = .ok (.getfield 29, 3) := by decide +kernel
theorem dX4_advance_46 : decode cX4_advance 46 = .ok (.iconst 1, 1) := by decide +kernel
theorem dX4_advance_47 : decode cX4_advance 47 = .ok (.iadd, 1) := by decide +kernel
theorem dX4_advance_48 : decode cX4_advance 48 = .ok (.putfield 29, 3) := by decide +kernel
theorem dX4_advance_51 : decode cX4_advance 51 = .ok (.goto (-43), 3) := by decide +kernel
theorem dX4_advance_54 : decode cX4_advance 54 = .ok (.aload_n 0, 1) := by decide +kernel
theorem dX4_advance_55 : decode cX4_advance 55 = .ok (.aload_n 0, 1) := by decide +kernel
theorem dX4_advance_56 : decode cX4_advance 56 = .ok (.getfield 29, 3) := by decide +kernel
theorem dX4_advance_59 : decode cX4_advance 59 = .ok (.putfield 32, 3) := by decide +kernel
theorem dX4_advance_62 : decode cX4_advance 62 = .ok (.aload_n 0, 1) := by decide +kernel
theorem dX4_advance_63 : decode cX4_advance 63 = .ok (.getfield 29, 3) := by decide +kernel
theorem dX4_advance_66 : decode cX4_advance 66 = .ok (.aload_n 0, 1) := by decide +kernel
theorem dX4_advance_67 : decode cX4_advance 67 = .ok (.getfield 12, 3) := by decide +kernel
theorem dX4_advance_70 : decode cX4_advance 70 = .ok (.getfield 46, 3) := by decide +kernel
theorem dX4_advance_73 : decode cX4_advance 73 = .ok (.if_icmp .lt 9, 3) := by decide +kernel
theorem dX4_advance_76 : decode cX4_advance 76 = .ok (.aload_n 0, 1) := by decide +kernel
theorem dX4_advance_77 : decode cX4_advance 77 = .ok (.iconst 0, 1) := by decide +kernel
theorem dX4_advance_78 : decode cX4_advance 78 = .ok (.putfield 25, 3) := by decide +kernel
theorem dX4_advance_81 : decode cX4_advance 81 = .ok (.return_, 1) := by decide +kernel
theorem dX4_advance_82 : decode cX4_advance 82 = .ok (.aload_n 0, 1) := by decide +kernel
theorem dX4_advance_83 : decode cX4_advance 83 = .ok (.aload_n 0, 1) := by decide +kernel
theorem dX4_advance_84 : decode cX4_advance 84 = .ok (.getfield 12, 3) := by decide +kernel
theorem dX4_advance_87 : decode cX4_advance 87 = .ok (.getfield 49, 3) := by decide +kernel
theorem dX4_advance_90 : decode cX4_advance 90 = .ok (.aload_n 0, 1) := by decide +kernel
theorem dX4_advance_91 : decode cX4_advance 91 = .ok (.getfield 29, 3) := by decide +kernel
theorem dX4_advance_94 : decode cX4_advance 94 = .ok (.iaload, 1) := by decide +kernel
theorem dX4_advance_95 : decode cX4_advance 95 = .ok (.invokestatic 53, 3) := by decide +kernel
theorem dX4_advance_98 : decode cX4_advance 98 = .ok (.putfield 25, 3) := by decide +kernel
theorem dX4_advance_101 : decode cX4_advance 101 = .ok (.aload_n 0, 1) := by decide +kernel
theorem dX4_advance_102 : decode cX4_advance 102 = .ok (.dup, 1) := by decide +kernel
theorem dX4_advance_103 : decode cX4_advance 103 = .ok (.getfield 32, 3) := by decide +kernel
theorem dX4_advance_106 : decode cX4_advance 106 = .ok (.iconst 1, 1) := by decide +kernel
theorem dX4_advance_107 : decode cX4_advance 107 = .ok (.iadd, 1) := by decide +kernel
theorem dX4_advance_108 : decode cX4_advance 108 = .ok (.putfield 32, 3) := by decide +kernel
theorem dX4_advance_111 : decode cX4_advance 111 = .ok (.aload_n 0, 1) := by decide +kernel
theorem dX4_advance_112 : decode cX4_advance 112 = .ok (.getfield 25, 3) := by decide +kernel
theorem dX4_advance_115 : decode cX4_advance 115 = .ok (.iconst 4, 1) := by decide +kernel
theorem dX4_advance_116 : decode cX4_advance 116 = .ok (.if_icmp .eq 12, 3) := by decide +kernel
theorem dX4_advance_119 : decode cX4_advance 119 = .ok (.aload_n 0, 1) := by decide +kernel
theorem dX4_advance_120 : decode cX4_advance 120 = .ok (.getfield 25, 3) := by decide +kernel
theorem dX4_advance_123 : decode cX4_advance 123 = .ok (.bipush 6, 2) := by decide +kernel
theorem dX4_advance_125 : decode cX4_advance 125 = .ok (.if_icmp .ne 4, 3) := by decide +kernel
theorem dX4_advance_128 : decode cX4_advance 128 = .ok (.return_, 1) := by decide +kernel
theorem dX4_advance_129 : decode cX4_advance 129 = .ok (.aload_n 0, 1) := by decide +kernel
theorem dX4_advance_130 : decode cX4_advance 130 = .ok (.getfield 32, 3) := by decide +kernel
theorem dX4_advance_133 : decode cX4_advance 133 = .ok (.aload_n 0, 1) := by decide +kernel
theorem dX4_advance_134 : decode cX4_advance 134 = .ok (.getfield 12, 3) := by decide +kernel
theorem dX4_advance_137 : decode cX4_advance 137 = .ok (.getfield 46, 3) := by decide +kernel
theorem dX4_advance_140 : decode cX4_advance 140 = .ok (.if_icmp .ge 38, 3) := by decide +kernel
theorem dX4_advance_143 : decode cX4_advance 143 = .ok (.aload_n 0, 1) := by decide +kernel
theorem dX4_advance_144 : decode cX4_advance 144 = .ok (.getfield 12, 3) := by decide +kernel
theorem dX4_advance_147 : decode cX4_advance 147 = .ok (.getfield 49, 3) := by decide +kernel
theorem dX4_advance_150 : decode cX4_advance 150 = .ok (.aload_n 0, 1) := by decide +kernel
theorem dX4_advance_151 : decode cX4_advance 151 = .ok (.getfield 32, 3) := by decide +kernel
theorem dX4_advance_154 : decode cX4_advance 154 = .ok (.iaload, 1) := by decide +kernel
theorem dX4_advance_155 : decode cX4_advance 155 = .ok (.invokestatic 53, 3) := by decide +kernel
theorem dX4_advance_158 : decode cX4_advance 158 = .ok (.aload_n 0, 1) := by decide +kernel
theorem dX4_advance_159 : decode cX4_advance 159 = .ok (.getfield 25, 3) := by decide +kernel
theorem dX4_advance_162 : decode cX4_advance 162 = .ok (.if_icmp .ne 16, 3) := by decide +kernel
theorem dX4_advance_165 : decode cX4_advance 165 = .ok (.aload_n 0, 1) := by decide +kernel
theorem dX4_advance_166 : decode cX4_advance 166 = .ok (.dup, 1) := by decide +kernel
theorem dX4_advance_167 : decode cX4_advance 167 = .ok (.getfield 32, 3) := by decide +kernel
theorem dX4_advance_170 : decode cX4_advance 170 = .ok (.iconst 1, 1) := by decide +kernel
theorem dX4_advance_171 : decode cX4_advance 171 = .ok (.iadd, 1) := by decide +kernel
theorem dX4_advance_172 : decode cX4_advance 172 = .ok (.putfield 32, 3) := by decide +kernel
theorem dX4_advance_175 : decode cX4_advance 175 = .ok (.goto (-46), 3) := by decide +kernel
theorem dX4_advance_178 : decode cX4_advance 178 = .ok (.return_, 1) := by decide +kernel
theorem dX4_sortOf_0 : decode cX4_sortOf 0 = .ok (.iload_n 0, 1) := by decide +kernel
theorem dX4_sortOf_1 : decode cX4_sortOf 1 = .ok (.bipush 97, 2) := by decide +kernel
theorem dX4_sortOf_3 : decode cX4_sortOf 3 = .ok (.if_icmp .lt 11, 3) := by decide +kernel
theorem dX4_sortOf_6 : decode cX4_sortOf 6 = .ok (.iload_n 0, 1) := by decide +kernel
theorem dX4_sortOf_7 : decode cX4_sortOf 7 = .ok (.bipush 122, 2) := by decide +kernel
theorem dX4_sortOf_9 : decode cX4_sortOf 9 = .ok (.if_icmp .gt 5, 3) := by decide +kernel
theorem dX4_sortOf_12 : decode cX4_sortOf 12 = .ok (.iconst 1, 1) := by decide +kernel
theorem dX4_sortOf_13 : decode cX4_sortOf 13 = .ok (.ireturn, 1) := by decide +kernel
theorem dX4_sortOf_14 : decode cX4_sortOf 14 = .ok (.iload_n 0, 1) := by decide +kernel
theorem dX4_sortOf_15 : decode cX4_sortOf 15 = .ok (.bipush 48, 2) := by decide +kernel
theorem dX4_sortOf_17 : decode cX4_sortOf 17 = .ok (.if_icmp .lt 11, 3) := by decide +kernel
theorem dX4_sortOf_20 : decode cX4_sortOf 20 = .ok (.iload_n 0, 1) := by decide +kernel
theorem dX4_sortOf_21 : decode cX4_sortOf 21 = .ok (.bipush 57, 2) := by decide +kernel
theorem dX4_sortOf_23 : decode cX4_sortOf 23 = .ok (.if_icmp .gt 5, 3) := by decide +kernel
theorem dX4_sortOf_26 : decode cX4_sortOf 26 = .ok (.iconst 2, 1) := by decide +kernel
theorem dX4_sortOf_27 : decode cX4_sortOf 27 = .ok (.ireturn, 1) := by decide +kernel
theorem dX4_sortOf_28 : decode cX4_sortOf 28 = .ok (.iload_n 0, 1) := by decide +kernel
theorem dX4_sortOf_29 : decode cX4_sortOf 29 = .ok (.lookupswitch 49 #[(32, 47), (35, 43), (46, 43), (59, 45)], 43) := by decide +kernel
theorem dX4_sortOf_72 : decode cX4_sortOf 72 = .ok (.iconst 3, 1) := by decide +kernel
theorem dX4_sortOf_73 : decode cX4_sortOf 73 = .ok (.ireturn, 1) := by decide +kernel
theorem dX4_sortOf_74 : decode cX4_sortOf 74 = .ok (.iconst 4, 1) := by decide +kernel
theorem dX4_sortOf_75 : decode cX4_sortOf 75 = .ok (.ireturn, 1) := by decide +kernel
theorem dX4_sortOf_76 : decode cX4_sortOf 76 = .ok (.iconst 5, 1) := by decide +kernel
theorem dX4_sortOf_77 : decode cX4_sortOf 77 = .ok (.ireturn, 1) := by decide +kernel
theorem dX4_sortOf_78 : decode cX4_sortOf 78 = .ok (.bipush 6, 2) := by decide +kernel
theorem dX4_sortOf_80 : decode cX4_sortOf 80 = .ok (.ireturn, 1) := by decide +kernel
theorem dX4_isWord_0 : decode cX4_isWord 0 = .ok (.aload_n 0, 1) := by decide +kernel
theorem dX4_isWord_1 : decode cX4_isWord 1 = .ok (.getfield 25, 3) := by decide +kernel
theorem dX4_isWord_4 : decode cX4_isWord 4 = .ok (.iconst 1, 1) := by decide +kernel
theorem dX4_isWord_5 : decode cX4_isWord 5 = .ok (.if_icmp .ne 19, 3) := by decide +kernel
theorem dX4_isWord_8 : decode cX4_isWord 8 = .ok (.aload_n 0, 1) := by decide +kernel
theorem dX4_isWord_9 : decode cX4_isWord 9 = .ok (.getfield 32, 3) := by decide +kernel
theorem dX4_isWord_12 : decode cX4_isWord 12 = .ok (.aload_n 0, 1) := by decide +kernel
theorem dX4_isWord_13 : decode cX4_isWord 13 = .ok (.getfield 29, 3) := by decide +kernel
theorem dX4_isWord_16 : decode cX4_isWord 16 = .ok (.isub, 1) := by decide +kernel
theorem dX4_isWord_17 : decode cX4_isWord 17 = .ok (.aload_n 1, 1) := by decide +kernel
theorem dX4_isWord_18 : decode cX4_isWord 18 = .ok (.invokevirtual 57, 3) := by decide +kernel
theorem dX4_isWord_21 : decode cX4_isWord 21 = .ok (.if_icmp .eq 5, 3) := by decide +kernel
theorem dX4_isWord_24 : decode cX4_isWord 24 = .ok (.iconst 0, 1) := by decide +kernel
theorem dX4_isWord_25 : decode cX4_isWord 25 = .ok (.ireturn, 1) := by decide +kernel
theorem dX4_isWord_26 : decode cX4_isWord 26 = .ok (.iconst 0, 1) := by decide +kernel
theorem dX4_isWord_27 : decode cX4_isWord 27 = .ok (.istore_n 2, 1) := by decide +kernel
theorem dX4_isWord_28 : decode cX4_isWord 28 = .ok (.iload_n 2, 1) := by decide +kernel
theorem dX4_isWord_29 : decode cX4_isWord 29 = .ok (.aload_n 1, 1) := by decide +kernel
theorem dX4_isWord_30 : decode cX4_isWord 30 = .ok (.invokevirtual 57, 3) := by decide +kernel
theorem dX4_isWord_33 : decode cX4_isWord 33 = .ok (.if_icmp .ge 33, 3) := by decide +kernel
theorem dX4_isWord_36 : decode cX4_isWord 36 = .ok (.aload_n 0, 1) := by decide +kernel
theorem dX4_isWord_37 : decode cX4_isWord 37 = .ok (.getfield 12, 3) := by decide +kernel
theorem dX4_isWord_40 : decode cX4_isWord 40 = .ok (.getfield 49, 3) := by decide +kernel
theorem dX4_isWord_43 : decode cX4_isWord 43 = .ok (.aload_n 0, 1) := by decide +kernel
theorem dX4_isWord_44 : decode cX4_isWord 44 = .ok (.getfield 29, 3) := by decide +kernel
theorem dX4_isWord_47 : decode cX4_isWord 47 = .ok (.iload_n 2, 1) := by decide +kernel
theorem dX4_isWord_48 : decode cX4_isWord 48 = .ok (.iadd, 1) := by decide +kernel
theorem dX4_isWord_49 : decode cX4_isWord 49 = .ok (.iaload, 1) := by decide +kernel
theorem dX4_isWord_50 : decode cX4_isWord 50 = .ok (.aload_n 1, 1) := by decide +kernel
theorem dX4_isWord_51 : decode cX4_isWord 51 = .ok (.iload_n 2, 1) := by decide +kernel
theorem dX4_isWord_52 : decode cX4_isWord 52 = .ok (.invokevirtual 63, 3) := by decide +kernel
theorem dX4_isWord_55 : decode cX4_isWord 55 = .ok (.if_icmp .eq 5, 3) := by decide +kernel
theorem dX4_isWord_58 : decode cX4_isWord 58 = .ok (.iconst 0, 1) := by decide +kernel
theorem dX4_isWord_59 : decode cX4_isWord 59 = .ok (.ireturn, 1) := by decide +kernel
theorem dX4_isWord_60 : decode cX4_isWord 60 = .ok (.iinc 2 1, 3) := by decide +kernel
theorem dX4_isWord_63 : decode cX4_isWord 63 = .ok (.goto (-35), 3) := by decide +kernel
theorem dX4_isWord_66 : decode cX4_isWord 66 = .ok (.iconst 1, 1) := by decide +kernel
theorem dX4_isWord_67 : decode cX4_isWord 67 = .ok (.ireturn, 1) := by decide +kernel
theorem dX4_item_0 : decode cX4_item 0 = .ok (.aload_n 0, 1) := by decide +kernel
theorem dX4_item_1 : decode cX4_item 1 = .ok (.invokevirtual 67, 3) := by decide +kernel
theorem dX4_item_4 : decode cX4_item 4 = .ok (.istore_n 1, 1) := by decide +kernel
theorem dX4_item_5 : decode cX4_item 5 = .ok (.iload_n 1, 1) := by decide +kernel
theorem dX4_item_6 : decode cX4_item 6 = .ok (.ifCond .lt 9, 3) := by decide +kernel
theorem dX4_item_9 : decode cX4_item 9 = .ok (.aload_n 0, 1) := by decide +kernel
theorem dX4_item_10 : decode cX4_item 10 = .ok (.iload_n 1, 1) := by decide +kernel
theorem dX4_item_11 : decode cX4_item 11 = .ok (.invokevirtual 70, 3) := by decide +kernel
theorem dX4_item_14 : decode cX4_item 14 = .ok (.ireturn, 1) := by decide +kernel
theorem dX4_item_15 : decode cX4_item 15 = .ok (.aload_n 0, 1) := by decide +kernel
theorem dX4_item_16 : decode cX4_item 16 = .ok (.ldc 74, 2) := by decide +kernel
theorem dX4_item_18 : decode cX4_item 18 = .ok (.invokevirtual 76, 3) := by decide +kernel
theorem dX4_item_21 : decode cX4_item 21 = .ok (.ifCond .eq 8, 3) := by decide +kernel
theorem dX4_item_24 : decode cX4_item 24 = .ok (.aload_n 0, 1) := by decide +kernel
theorem dX4_item_25 : decode cX4_item 25 = .ok (.invokevirtual 80, 3) := by decide +kernel
theorem dX4_item_28 : decode cX4_item 28 = .ok (.ireturn, 1) := by decide +kernel
theorem dX4_item_29 : decode cX4_item 29 = .ok (.aload_n 0, 1) := by decide +kernel
theorem dX4_item_30 : decode cX4_item 30 = .ok (.ldc 83, 2) := by decide +kernel
theorem dX4_item_32 : decode cX4_item 32 = .ok (.invokevirtual 76, 3) := by decide +kernel
theorem dX4_item_35 : decode cX4_item 35 = .ok (.ifCond .eq 8, 3) := by decide +kernel
theorem dX4_item_38 : decode cX4_item 38 = .ok (.aload_n 0, 1) := by decide +kernel
theorem dX4_item_39 : decode cX4_item 39 = .ok (.invokevirtual 85, 3) := by decide +kernel
theorem dX4_item_42 : decode cX4_item 42 = .ok (.ireturn, 1) := by decide +kernel
theorem dX4_item_43 : decode cX4_item 43 = .ok (.aload_n 0, 1) := by decide +kernel
theorem dX4_item_44 : decode cX4_item 44 = .ok (.ldc 88, 2) := by decide +kernel
theorem dX4_item_46 : decode cX4_item 46 = .ok (.invokevirtual 76, 3) := by decide +kernel
theorem dX4_item_49 : decode cX4_item 49 = .ok (.ifCond .eq 8, 3) := by decide +kernel
theorem dX4_item_52 : decode cX4_item 52 = .ok (.aload_n 0, 1) := by decide +kernel
theorem dX4_item_53 : decode cX4_item 53 = .ok (.invokevirtual 90, 3) := by decide +kernel
theorem dX4_item_56 : decode cX4_item 56 = .ok (.ireturn, 1) := by decide +kernel
theorem dX4_item_57 : decode cX4_item 57 = .ok (.aload_n 0, 1) := by decide +kernel
theorem dX4_item_58 : decode cX4_item 58 = .ok (.ldc 93, 2) := by decide +kernel
theorem dX4_item_60 : decode cX4_item 60 = .ok (.invokevirtual 95, 3) := by decide +kernel
theorem dX4_item_63 : decode cX4_item 63 = .ok (.ifCond .eq 12, 3) := by decide +kernel
theorem dX4_item_66 : decode cX4_item 66 = .ok (.aload_n 0, 1) := by decide +kernel
theorem dX4_item_67 : decode cX4_item 67 = .ok (.getfield 21, 3) := by decide +kernel
theorem dX4_item_70 : decode cX4_item 70 = .ok (.invokevirtual 98, 3) := by decide +kernel
theorem dX4_item_73 : decode cX4_item 73 = .ok (.iconst 1, 1) := by decide +kernel
theorem dX4_item_74 : decode cX4_item 74 = .ok (.ireturn, 1) := by decide +kernel
theorem dX4_item_75 : decode cX4_item 75 = .ok (.iconst 0, 1) := by decide +kernel
theorem dX4_item_76 : decode cX4_item 76 = .ok (.ireturn, 1) := by decide +kernel
theorem dX4_kindNamed_0 : decode cX4_kindNamed 0 = .ok (.aload_n 0, 1) := by decide +kernel
theorem dX4_kindNamed_1 : decode cX4_kindNamed 1 = .ok (.ldc 101, 2) := by decide +kernel
theorem dX4_kindNamed_3 : decode cX4_kindNamed 3 = .ok (.invokevirtual 76, 3) := by decide +kernel
theorem dX4_kindNamed_6 : decode cX4_kindNamed 6 = .ok (.ifCond .eq 5, 3) := by decide +kernel
theorem dX4_kindNamed_9 : decode cX4_kindNamed 9 = .ok (.iconst 0, 1) := by decide +kernel
theorem dX4_kindNamed_10 : decode cX4_kindNamed 10 = .ok (.ireturn, 1) := by decide +kernel
theorem dX4_kindNamed_11 : decode cX4_kindNamed 11 = .ok (.aload_n 0, 1) := by decide +kernel
theorem dX4_kindNamed_12 : decode cX4_kindNamed 12 = .ok (.ldc 105, 2) := by decide +kernel
theorem dX4_kindNamed_14 : decode cX4_kindNamed 14 = .ok (.invokevirtual 76, 3) := by decide +kernel
theorem dX4_kindNamed_17 : decode cX4_kindNamed 17 = .ok (.ifCond .eq 5, 3) := by decide +kernel
theorem dX4_kindNamed_20 : decode cX4_kindNamed 20 = .ok (.iconst 1, 1) := by decide +kernel
theorem dX4_kindNamed_21 : decode cX4_kindNamed 21 = .ok (.ireturn, 1) := by decide +kernel
theorem dX4_kindNamed_22 : decode cX4_kindNamed 22 = .ok (.aload_n 0, 1) := by decide +kernel
theorem dX4_kindNamed_23 : decode cX4_kindNamed 23 = .ok (.ldc 107, 2) := by decide +kernel
theorem dX4_kindNamed_25 : decode cX4_kindNamed 25 = .ok (.invokevirtual 76, 3) := by decide +kernel
theorem dX4_kindNamed_28 : decode cX4_kindNamed 28 = .ok (.ifCond .eq 5, 3) := by decide +kernel
theorem dX4_kindNamed_31 : decode cX4_kindNamed 31 = .ok (.iconst 2, 1) := by decide +kernel
theorem dX4_kindNamed_32 : decode cX4_kindNamed 32 = .ok (.ireturn, 1) := by decide +kernel
theorem dX4_kindNamed_33 : decode cX4_kindNamed 33 = .ok (.aload_n 0, 1) := by decide +kernel
theorem dX4_kindNamed_34 : decode cX4_kindNamed 34 = .ok (.ldc 109, 2) := by decide +kernel
theorem dX4_kindNamed_36 : decode cX4_kindNamed 36 = .ok (.invokevirtual 76, 3) := by decide +kernel
theorem dX4_kindNamed_39 : decode cX4_kindNamed 39 = .ok (.ifCond .eq 5, 3) := by decide +kernel
theorem dX4_kindNamed_42 : decode cX4_kindNamed 42 = .ok (.iconst 3, 1) := by decide +kernel
theorem dX4_kindNamed_43 : decode cX4_kindNamed 43 = .ok (.ireturn, 1) := by decide +kernel
theorem dX4_kindNamed_44 : decode cX4_kindNamed 44 = .ok (.aload_n 0, 1) := by decide +kernel
theorem dX4_kindNamed_45 : decode cX4_kindNamed 45 = .ok (.ldc 111, 2) := by decide +kernel
theorem dX4_kindNamed_47 : decode cX4_kindNamed 47 = .ok (.invokevirtual 76, 3) := by decide +kernel
theorem dX4_kindNamed_50 : decode cX4_kindNamed 50 = .ok (.ifCond .eq 5, 3) := by decide +kernel
theorem dX4_kindNamed_53 : decode cX4_kindNamed 53 = .ok (.iconst 4, 1) := by decide +kernel
theorem dX4_kindNamed_54 : decode cX4_kindNamed 54 = .ok (.ireturn, 1) := by decide +kernel
theorem dX4_kindNamed_55 : decode cX4_kindNamed 55 = .ok (.aload_n 0, 1) := by decide +kernel
theorem dX4_kindNamed_56 : decode cX4_kindNamed 56 = .ok (.ldc 113, 2) := by decide +kernel
theorem dX4_kindNamed_58 : decode cX4_kindNamed 58 = .ok (.invokevirtual 76, 3) := by decide +kernel
theorem dX4_kindNamed_61 : decode cX4_kindNamed 61 = .ok (.ifCond .eq 7, 3) := by decide +kernel
theorem dX4_kindNamed_64 : decode cX4_kindNamed 64 = .ok (.iconst 5, 1) := by decide +kernel
theorem dX4_kindNamed_65 : decode cX4_kindNamed 65 = .ok (.goto 4, 3) := by decide +kernel
theorem dX4_kindNamed_68 : decode cX4_kindNamed 68 = .ok (.iconst (-1), 1) := by decide +kernel
theorem dX4_kindNamed_69 : decode cX4_kindNamed 69 = .ok (.ireturn, 1) := by decide +kernel
theorem dX4_shapeItem_0 : decode cX4_shapeItem 0 = .ok (.aload_n 0, 1) := by decide +kernel
theorem dX4_shapeItem_1 : decode cX4_shapeItem 1 = .ok (.getfield 21, 3) := by decide +kernel
theorem dX4_shapeItem_4 : decode cX4_shapeItem 4 = .ok (.invokevirtual 115, 3) := by decide +kernel
theorem dX4_shapeItem_7 : decode cX4_shapeItem 7 = .ok (.ifCond .ne 5, 3) := by decide +kernel
theorem dX4_shapeItem_10 : decode cX4_shapeItem 10 = .ok (.iconst 0, 1) := by decide +kernel
theorem dX4_shapeItem_11 : decode cX4_shapeItem 11 = .ok (.ireturn, 1) := by decide +kernel
theorem dX4_shapeItem_12 : decode cX4_shapeItem 12 = .ok (.aload_n 0, 1) := by decide +kernel
theorem dX4_shapeItem_13 : decode cX4_shapeItem 13 = .ok (.invokevirtual 39, 3) := by decide +kernel
theorem dX4_shapeItem_16 : decode cX4_shapeItem 16 = .ok (.aload_n 0, 1) := by decide +kernel
theorem dX4_shapeItem_17 : decode cX4_shapeItem 17 = .ok (.iconst 4, 1) := by decide +kernel
theorem dX4_shapeItem_18 : decode cX4_shapeItem 18 = .ok (.invokevirtual 118, 3) := by decide +kernel
theorem dX4_shapeItem_21 : decode cX4_shapeItem 21 = .ok (.ifCond .ne 5, 3) := by decide +kernel
theorem dX4_shapeItem_24 : decode cX4_shapeItem 24 = .ok (.iconst 0, 1) := by decide +kernel
theorem dX4_shapeItem_25 : decode cX4_shapeItem 25 = .ok (.ireturn, 1) := by decide +kernel
theorem dX4_shapeItem_26 : decode cX4_shapeItem 26 = .ok (.aload_n 0, 1) := by decide +kernel
theorem dX4_shapeItem_27 : decode cX4_shapeItem 27 = .ok (.getfield 21, 3) := by decide +kernel
theorem dX4_shapeItem_30 : decode cX4_shapeItem 30 = .ok (.iload_n 1, 1) := by decide +kernel
theorem dX4_shapeItem_31 : decode cX4_shapeItem 31 = .ok (.aload_n 0, 1) := by decide +kernel
theorem dX4_shapeItem_32 : decode cX4_shapeItem 32 = .ok (.getfield 35, 3) := by decide +kernel
theorem dX4_shapeItem_35 : decode cX4_shapeItem 35 = .ok (.l2i, 1) := by decide +kernel
theorem dX4_shapeItem_36 : decode cX4_shapeItem 36 = .ok (.invokevirtual 121, 3) := by decide +kernel
theorem dX4_shapeItem_39 : decode cX4_shapeItem 39 = .ok (.pop, 1) := by decide +kernel
theorem dX4_shapeItem_40 : decode cX4_shapeItem 40 = .ok (.iconst 1, 1) := by decide +kernel
theorem dX4_shapeItem_41 : decode cX4_shapeItem 41 = .ok (.ireturn, 1) := by decide +kernel
theorem dX4_sceneItem_0 : decode cX4_sceneItem 0 = .ok (.aload_n 0, 1) := by decide +kernel
theorem dX4_sceneItem_1 : decode cX4_sceneItem 1 = .ok (.getfield 21, 3) := by decide +kernel
theorem dX4_sceneItem_4 : decode cX4_sceneItem 4 = .ok (.invokevirtual 125, 3) := by decide +kernel
theorem dX4_sceneItem_7 : decode cX4_sceneItem 7 = .ok (.ifCond .ne 5, 3) := by decide +kernel
theorem dX4_sceneItem_10 : decode cX4_sceneItem 10 = .ok (.iconst 0, 1) := by decide +kernel
theorem dX4_sceneItem_11 : decode cX4_sceneItem 11 = .ok (.ireturn, 1) := by decide +kernel
theorem dX4_sceneItem_12 : decode cX4_sceneItem 12 = .ok (.aload_n 0, 1) := by decide +kernel
theorem dX4_sceneItem_13 : decode cX4_sceneItem 13 = .ok (.invokevirtual 39, 3) := by decide +kernel
theorem dX4_sceneItem_16 : decode cX4_sceneItem 16 = .ok (.aload_n 0, 1) := by decide +kernel
theorem dX4_sceneItem_17 : decode cX4_sceneItem 17 = .ok (.bipush 8, 2) := by decide +kernel
theorem dX4_sceneItem_19 : decode cX4_sceneItem 19 = .ok (.invokevirtual 118, 3) := by decide +kernel
theorem dX4_sceneItem_22 : decode cX4_sceneItem 22 = .ok (.ifCond .ne 5, 3) := by decide +kernel
theorem dX4_sceneItem_25 : decode cX4_sceneItem 25 = .ok (.iconst 0, 1) := by decide +kernel
theorem dX4_sceneItem_26 : decode cX4_sceneItem 26 = .ok (.ireturn, 1) := by decide +kernel
theorem dX4_sceneItem_27 : decode cX4_sceneItem 27 = .ok (.aload_n 0, 1) := by decide +kernel
theorem dX4_sceneItem_28 : decode cX4_sceneItem 28 = .ok (.getfield 21, 3) := by decide +kernel
theorem dX4_sceneItem_31 : decode cX4_sceneItem 31 = .ok (.aload_n 0, 1) := by decide +kernel
theorem dX4_sceneItem_32 : decode cX4_sceneItem 32 = .ok (.getfield 35, 3) := by decide +kernel
theorem dX4_sceneItem_35 : decode cX4_sceneItem 35 = .ok (.invokevirtual 128, 3) := by decide +kernel
theorem dX4_sceneItem_38 : decode cX4_sceneItem 38 = .ok (.pop, 1) := by decide +kernel
theorem dX4_sceneItem_39 : decode cX4_sceneItem 39 = .ok (.iconst 1, 1) := by decide +kernel
theorem dX4_sceneItem_40 : decode cX4_sceneItem 40 = .ok (.ireturn, 1) := by decide +kernel
theorem dX4_drawnRows_0 : decode cX4_drawnRows 0 = .ok (.aload_n 0, 1) := by decide +kernel
theorem dX4_drawnRows_1 : decode cX4_drawnRows 1 = .ok (.lconst 0, 1) := by decide +kernel
theorem dX4_drawnRows_2 : decode cX4_drawnRows 2 = .ok (.putfield 35, 3) := by decide +kernel
theorem dX4_drawnRows_5 : decode cX4_drawnRows 5 = .ok (.aload_n 0, 1) := by decide +kernel
theorem dX4_drawnRows_6 : decode cX4_drawnRows 6 = .ok (.getfield 25, 3) := by decide +kernel
theorem dX4_drawnRows_9 : decode cX4_drawnRows 9 = .ok (.iconst 3, 1) := by decide +kernel
theorem dX4_drawnRows_10 : decode cX4_drawnRows 10 = .ok (.if_icmp .eq 5, 3) := by decide +kernel
theorem dX4_drawnRows_13 : decode cX4_drawnRows 13 = .ok (.iconst 0, 1) := by decide +kernel
theorem dX4_drawnRows_14 : decode cX4_drawnRows 14 = .ok (.ireturn, 1) := by decide +kernel
theorem dX4_drawnRows_15 : decode cX4_drawnRows 15 = .ok (.iconst 0, 1) := by decide +kernel
theorem dX4_drawnRows_16 : decode cX4_drawnRows 16 = .ok (.istore_n 2, 1) := by decide +kernel
theorem dX4_drawnRows_17 : decode cX4_drawnRows 17 = .ok (.iload_n 2, 1) := by decide +kernel
theorem dX4_drawnRows_18 : decode cX4_drawnRows 18 = .ok (.iload_n 1, 1) := by decide +kernel
theorem dX4_drawnRows_19 : decode cX4_drawnRows 19 = .ok (.if_icmp .ge 92, 3) := by decide +kernel
theorem dX4_drawnRows_22 : decode cX4_drawnRows 22 = .ok (.aload_n 0, 1) := by decide +kernel
theorem dX4_drawnRows_23 : decode cX4_drawnRows 23 = .ok (.getfield 25, 3) := by decide +kernel
theorem dX4_drawnRows_26 : decode cX4_drawnRows 26 = .ok (.iconst 3, 1) := by decide +kernel
theorem dX4_drawnRows_27 : decode cX4_drawnRows 27 = .ok (.if_icmp .ne 84, 3) := by decide +kernel
theorem dX4_drawnRows_30 : decode cX4_drawnRows 30 = .ok (.aload_n 0, 1) := by decide +kernel
theorem dX4_drawnRows_31 : decode cX4_drawnRows 31 = .ok (.getfield 32, 3) := by decide +kernel
theorem dX4_drawnRows_34 : decode cX4_drawnRows 34 = .ok (.aload_n 0, 1) := by decide +kernel
theorem dX4_drawnRows_35 : decode cX4_drawnRows 35 = .ok (.getfield 29, 3) := by decide +kernel
theorem dX4_drawnRows_38 : decode cX4_drawnRows 38 = .ok (.isub, 1) := by decide +kernel
theorem dX4_drawnRows_39 : decode cX4_drawnRows 39 = .ok (.iload_n 1, 1) := by decide +kernel
theorem dX4_drawnRows_40 : decode cX4_drawnRows 40 = .ok (.if_icmp .le 5, 3) := by decide +kernel
theorem dX4_drawnRows_43 : decode cX4_drawnRows 43 = .ok (.iconst 0, 1) := by decide +kernel
theorem dX4_drawnRows_44 : decode cX4_drawnRows 44 = .ok (.ireturn, 1) := by decide +kernel
theorem dX4_drawnRows_45 : decode cX4_drawnRows 45 = .ok (.iconst 0, 1) := by decide +kernel
theorem dX4_drawnRows_46 : decode cX4_drawnRows 46 = .ok (.istore_n 3, 1) := by decide +kernel
theorem dX4_drawnRows_47 : decode cX4_drawnRows 47 = .ok (.iload_n 3, 1) := by decide +kernel
theorem dX4_drawnRows_48 : decode cX4_drawnRows 48 = .ok (.aload_n 0, 1) := by decide +kernel
theorem dX4_drawnRows_49 : decode cX4_drawnRows 49 = .ok (.getfield 32, 3) := by decide +kernel
theorem dX4_drawnRows_52 : decode cX4_drawnRows 52 = .ok (.aload_n 0, 1) := by decide +kernel
theorem dX4_drawnRows_53 : decode cX4_drawnRows 53 = .ok (.getfield 29, 3) := by decide +kernel
theorem dX4_drawnRows_56 : decode cX4_drawnRows 56 = .ok (.isub, 1) := by decide +kernel
theorem dX4_drawnRows_57 : decode cX4_drawnRows 57 = .ok (.if_icmp .ge 44, 3) := by decide +kernel
theorem dX4_drawnRows_60 : decode cX4_drawnRows 60 = .ok (.aload_n 0, 1) := by decide +kernel
theorem dX4_drawnRows_61 : decode cX4_drawnRows 61 = .ok (.getfield 12, 3) := by decide +kernel
theorem dX4_drawnRows_64 : decode cX4_drawnRows 64 = .ok (.getfield 49, 3) := by decide +kernel
theorem dX4_drawnRows_67 : decode cX4_drawnRows 67 = .ok (.aload_n 0, 1) := by decide +kernel
theorem dX4_drawnRows_68 : decode cX4_drawnRows 68 = .ok (.getfield 29, 3) := by decide +kernel
theorem dX4_drawnRows_71 : decode cX4_drawnRows 71 = .ok (.iload_n 3, 1) := by decide +kernel
theorem dX4_drawnRows_72 : decode cX4_drawnRows 72 = .ok (.iadd, 1) := by decide +kernel
theorem dX4_drawnRows_73 : decode cX4_drawnRows 73 = .ok (.iaload, 1) := by decide +kernel
theorem dX4_drawnRows_74 : decode cX4_drawnRows 74 = .ok (.bipush 35, 2) := by decide +kernel
theorem dX4_drawnRows_76 : decode cX4_drawnRows 76 = .ok (.if_icmp .ne 19, 3) := by decide +kernel
theorem dX4_drawnRows_79 : decode cX4_drawnRows 79 = .ok (.aload_n 0, 1) := by decide +kernel
theorem dX4_drawnRows_80 : decode cX4_drawnRows 80 = .ok (.dup, 1) := by decide +kernel
theorem dX4_drawnRows_81 : decode cX4_drawnRows 81 = .ok (.getfield 35, 3) := by decide +kernel
theorem dX4_drawnRows_84 : decode cX4_drawnRows 84 = .ok (.lconst 1, 1) := by decide +kernel
theorem dX4_drawnRows_85 : decode cX4_drawnRows 85 = .ok (.iload_n 1, 1) := by decide +kernel
theorem dX4_drawnRows_86 : decode cX4_drawnRows 86 = .ok (.iload_n 2, 1) := by decide +kernel
theorem dX4_drawnRows_87 : decode cX4_drawnRows 87 = .ok (.imul, 1) := by decide +kernel
theorem dX4_drawnRows_88 : decode cX4_drawnRows 88 = .ok (.iload_n 3, 1) := by decide +kernel
theorem dX4_drawnRows_89 : decode cX4_drawnRows 89 = .ok (.iadd, 1) := by decide +kernel
theorem dX4_drawnRows_90 : decode cX4_drawnRows 90 = .ok (.lshl, 1) := by decide +kernel
theorem dX4_drawnRows_91 : decode cX4_drawnRows 91 = .ok (.lor, 1) := by decide +kernel
theorem dX4_drawnRows_92 : decode cX4_drawnRows 92 = .ok (.putfield 35, 3) := by decide +kernel
theorem dX4_drawnRows_95 : decode cX4_drawnRows 95 = .ok (.iinc 3 1, 3) := by decide +kernel
theorem dX4_drawnRows_98 : decode cX4_drawnRows 98 = .ok (.goto (-51), 3) := by decide +kernel
theorem dX4_drawnRows_101 : decode cX4_drawnRows 101 = .ok (.aload_n 0, 1) := by decide +kernel
theorem dX4_drawnRows_102 : decode cX4_drawnRows 102 = .ok (.invokevirtual 39, 3) := by decide +kernel
theorem dX4_drawnRows_105 : decode cX4_drawnRows 105 = .ok (.iinc 2 1, 3) := by decide +kernel
theorem dX4_drawnRows_108 : decode cX4_drawnRows 108 = .ok (.goto (-91), 3) := by decide +kernel
theorem dX4_drawnRows_111 : decode cX4_drawnRows 111 = .ok (.iconst 1, 1) := by decide +kernel
theorem dX4_drawnRows_112 : decode cX4_drawnRows 112 = .ok (.ireturn, 1) := by decide +kernel
theorem dX4_holdItem_0 : decode cX4_holdItem 0 = .ok (.aload_n 0, 1) := by decide +kernel
theorem dX4_holdItem_1 : decode cX4_holdItem 1 = .ok (.getfield 21, 3) := by decide +kernel
theorem dX4_holdItem_4 : decode cX4_holdItem 4 = .ok (.invokevirtual 132, 3) := by decide +kernel
theorem dX4_holdItem_7 : decode cX4_holdItem 7 = .ok (.istore_n 1, 1) := by decide +kernel
theorem dX4_holdItem_8 : decode cX4_holdItem 8 = .ok (.iload_n 1, 1) := by decide +kernel
theorem dX4_holdItem_9 : decode cX4_holdItem 9 = .ok (.ifCond .ge 5, 3) := by decide +kernel
theorem dX4_holdItem_12 : decode cX4_holdItem 12 = .ok (.iconst 0, 1) := by decide +kernel
theorem dX4_holdItem_13 : decode cX4_holdItem 13 = .ok (.ireturn, 1) := by decide +kernel
theorem dX4_holdItem_14 : decode cX4_holdItem 14 = .ok (.aload_n 0, 1) := by decide +kernel
theorem dX4_holdItem_15 : decode cX4_holdItem 15 = .ok (.invokevirtual 39, 3) := by decide +kernel
theorem dX4_holdItem_18 : decode cX4_holdItem 18 = .ok (.aload_n 0, 1) := by decide +kernel
theorem dX4_holdItem_19 : decode cX4_holdItem 19 = .ok (.invokevirtual 135, 3) := by decide +kernel
theorem dX4_holdItem_22 : decode cX4_holdItem 22 = .ok (.istore_n 2, 1) := by decide +kernel
theorem dX4_holdItem_23 : decode cX4_holdItem 23 = .ok (.aload_n 0, 1) := by decide +kernel
theorem dX4_holdItem_24 : decode cX4_holdItem 24 = .ok (.getfield 21, 3) := by decide +kernel
theorem dX4_holdItem_27 : decode cX4_holdItem 27 = .ok (.iload_n 2, 1) := by decide +kernel
theorem dX4_holdItem_28 : decode cX4_holdItem 28 = .ok (.invokevirtual 138, 3) := by decide +kernel
theorem dX4_holdItem_31 : decode cX4_holdItem 31 = .ok (.ifCond .eq 14, 3) := by decide +kernel
theorem dX4_holdItem_34 : decode cX4_holdItem 34 = .ok (.aload_n 0, 1) := by decide +kernel
theorem dX4_holdItem_35 : decode cX4_holdItem 35 = .ok (.getfield 21, 3) := by decide +kernel
theorem dX4_holdItem_38 : decode cX4_holdItem 38 = .ok (.iload_n 2, 1) := by decide +kernel
theorem dX4_holdItem_39 : decode cX4_holdItem 39 = .ok (.invokevirtual 141, 3) := by decide +kernel
theorem dX4_holdItem_42 : decode cX4_holdItem 42 = .ok (.ifCond .lt 5, 3) := by decide +kernel
theorem dX4_holdItem_45 : decode cX4_holdItem 45 = .ok (.iconst 0, 1) := by decide +kernel
theorem dX4_holdItem_46 : decode cX4_holdItem 46 = .ok (.ireturn, 1) := by decide +kernel
theorem dX4_holdItem_47 : decode cX4_holdItem 47 = .ok (.aload_n 0, 1) := by decide +kernel
theorem dX4_holdItem_48 : decode cX4_holdItem 48 = .ok (.invokevirtual 39, 3) := by decide +kernel
theorem dX4_holdItem_51 : decode cX4_holdItem 51 = .ok (.aload_n 0, 1) := by decide +kernel
theorem dX4_holdItem_52 : decode cX4_holdItem 52 = .ok (.ldc 144, 2) := by decide +kernel
theorem dX4_holdItem_54 : decode cX4_holdItem 54 = .ok (.invokevirtual 95, 3) := by decide +kernel
theorem dX4_holdItem_57 : decode cX4_holdItem 57 = .ok (.ifCond .eq 12, 3) := by decide +kernel
theorem dX4_holdItem_60 : decode cX4_holdItem 60 = .ok (.aload_n 0, 1) := by decide +kernel
theorem dX4_holdItem_61 : decode cX4_holdItem 61 = .ok (.iconst 1, 1) := by decide +kernel
theorem dX4_holdItem_62 : decode cX4_holdItem 62 = .ok (.iconst 2, 1) := by decide +kernel
theorem dX4_holdItem_63 : decode cX4_holdItem 63 = .ok (.invokevirtual 146, 3) := by decide +kernel
theorem dX4_holdItem_66 : decode cX4_holdItem 66 = .ok (.goto 4, 3) := by decide +kernel
theorem dX4_holdItem_69 : decode cX4_holdItem 69 = .ok (.iconst (-1), 1) := by decide +kernel
theorem dX4_holdItem_70 : decode cX4_holdItem 70 = .ok (.istore_n 3, 1) := by decide +kernel
theorem dX4_holdItem_71 : decode cX4_holdItem 71 = .ok (.iload_n 3, 1) := by decide +kernel
theorem dX4_holdItem_72 : decode cX4_holdItem 72 = .ok (.ifCond .ge 5, 3) := by decide +kernel
theorem dX4_holdItem_75 : decode cX4_holdItem 75 = .ok (.iconst 0, 1) := by decide +kernel
theorem dX4_holdItem_76 : decode cX4_holdItem 76 = .ok (.ireturn, 1) := by decide +kernel
theorem dX4_holdItem_77 : decode cX4_holdItem 77 = .ok (.aload_n 0, 1) := by decide +kernel
theorem dX4_holdItem_78 : decode cX4_holdItem 78 = .ok (.ldc 149, 2) := by decide +kernel
theorem dX4_holdItem_80 : decode cX4_holdItem 80 = .ok (.invokevirtual 95, 3) := by decide +kernel
theorem dX4_holdItem_83 : decode cX4_holdItem 83 = .ok (.ifCond .eq 12, 3) := by decide +kernel
theorem dX4_holdItem_86 : decode cX4_holdItem 86 = .ok (.aload_n 0, 1) := by decide +kernel
theorem dX4_holdItem_87 : decode cX4_holdItem 87 = .ok (.iconst 0, 1) := by decide +kernel
theorem dX4_holdItem_88 : decode cX4_holdItem 88 = .ok (.iconst 3, 1) := by decide +kernel
theorem dX4_holdItem_89 : decode cX4_holdItem 89 = .ok (.invokevirtual 146, 3) := by decide +kernel
theorem dX4_holdItem_92 : decode cX4_holdItem 92 = .ok (.goto 4, 3) := by decide +kernel
theorem dX4_holdItem_95 : decode cX4_holdItem 95 = .ok (.iconst (-1), 1) := by decide +kernel
theorem dX4_holdItem_96 : decode cX4_holdItem 96 = .ok (.istore 4, 2) := by decide +kernel
theorem dX4_holdItem_98 : decode cX4_holdItem 98 = .ok (.iload 4, 2) := by decide +kernel
theorem dX4_holdItem_100 : decode cX4_holdItem 100 = .ok (.ifCond .ge 5, 3) := by decide +kernel
theorem dX4_holdItem_103 : decode cX4_holdItem 103 = .ok (.iconst 0, 1) := by decide +kernel
theorem dX4_holdItem_104 : decode cX4_holdItem 104 = .ok (.ireturn, 1) := by decide +kernel
theorem dX4_holdItem_105 : decode cX4_holdItem 105 = .ok (.aload_n 0, 1) := by decide +kernel
theorem dX4_holdItem_106 : decode cX4_holdItem 106 = .ok (.ldc 151, 2) := by decide +kernel
theorem dX4_holdItem_108 : decode cX4_holdItem 108 = .ok (.invokevirtual 95, 3) := by decide +kernel
theorem dX4_holdItem_111 : decode cX4_holdItem 111 = .ok (.ifCond .eq 13, 3) := by decide +kernel
theorem dX4_holdItem_114 : decode cX4_holdItem 114 = .ok (.aload_n 0, 1) := by decide +kernel
theorem dX4_holdItem_115 : decode cX4_holdItem 115 = .ok (.iconst 0, 1) := by decide +kernel
theorem dX4_holdItem_116 : decode cX4_holdItem 116 = .ok (.bipush 7, 2) := by decide +kernel
theorem dX4_holdItem_118 : decode cX4_holdItem 118 = .ok (.invokevirtual 146, 3) := by decide +kernel
theorem dX4_holdItem_121 : decode cX4_holdItem 121 = .ok (.goto 4, 3) := by decide +kernel
theorem dX4_holdItem_124 : decode cX4_holdItem 124 = .ok (.iconst (-1), 1) := by decide +kernel
theorem dX4_holdItem_125 : decode cX4_holdItem 125 = .ok (.istore 5, 2) := by decide +kernel
theorem dX4_holdItem_127 : decode cX4_holdItem 127 = .ok (.iload 5, 2) := by decide +kernel
theorem dX4_holdItem_129 : decode cX4_holdItem 129 = .ok (.ifCond .ge 5, 3) := by decide +kernel
theorem dX4_holdItem_132 : decode cX4_holdItem 132 = .ok (.iconst 0, 1) := by decide +kernel
theorem dX4_holdItem_133 : decode cX4_holdItem 133 = .ok (.ireturn, 1) := by decide +kernel
theorem dX4_holdItem_134 : decode cX4_holdItem 134 = .ok (.aload_n 0, 1) := by decide +kernel
theorem dX4_holdItem_135 : decode cX4_holdItem 135 = .ok (.iconst 0, 1) := by decide +kernel
theorem dX4_holdItem_136 : decode cX4_holdItem 136 = .ok (.bipush 7, 2) := by decide +kernel
theorem dX4_holdItem_138 : decode cX4_holdItem 138 = .ok (.invokevirtual 146, 3) := by decide +kernel
theorem dX4_holdItem_141 : decode cX4_holdItem 141 = .ok (.istore 6, 2) := by decide +kernel
theorem dX4_holdItem_143 : decode cX4_holdItem 143 = .ok (.iload 6, 2) := by decide +kernel
theorem dX4_holdItem_145 : decode cX4_holdItem 145 = .ok (.ifCond .ge 5, 3) := by decide +kernel
theorem dX4_holdItem_148 : decode cX4_holdItem 148 = .ok (.iconst 0, 1) := by decide +kernel
theorem dX4_holdItem_149 : decode cX4_holdItem 149 = .ok (.ireturn, 1) := by decide +kernel
theorem dX4_holdItem_150 : decode cX4_holdItem 150 = .ok (.aload_n 0, 1) := by decide +kernel
theorem dX4_holdItem_151 : decode cX4_holdItem 151 = .ok (.getfield 21, 3) := by decide +kernel
theorem dX4_holdItem_154 : decode cX4_holdItem 154 = .ok (.iload_n 1, 1) := by decide +kernel
theorem dX4_holdItem_155 : decode cX4_holdItem 155 = .ok (.iload_n 2, 1) := by decide +kernel
theorem dX4_holdItem_156 : decode cX4_holdItem 156 = .ok (.iconst 4, 1) := by decide +kernel
theorem dX4_holdItem_157 : decode cX4_holdItem 157 = .ok (.iload_n 3, 1) := by decide +kernel
theorem dX4_holdItem_158 : decode cX4_holdItem 158 = .ok (.imul, 1) := by decide +kernel
theorem dX4_holdItem_159 : decode cX4_holdItem 159 = .ok (.iload 4, 2) := by decide +kernel
theorem dX4_holdItem_161 : decode cX4_holdItem 161 = .ok (.iadd, 1) := by decide +kernel
theorem dX4_holdItem_162 : decode cX4_holdItem 162 = .ok (.iload 5, 2) := by decide +kernel
theorem dX4_holdItem_164 : decode cX4_holdItem 164 = .ok (.iload 6, 2) := by decide +kernel
theorem dX4_holdItem_166 : decode cX4_holdItem 166 = .ok (.invokestatic 153, 3) := by decide +kernel
theorem dX4_holdItem_169 : decode cX4_holdItem 169 = .ok (.invokevirtual 159, 3) := by decide +kernel
theorem dX4_holdItem_172 : decode cX4_holdItem 172 = .ok (.iconst 1, 1) := by decide +kernel
theorem dX4_holdItem_173 : decode cX4_holdItem 173 = .ok (.ireturn, 1) := by decide +kernel
theorem dX4_tornItem_0 : decode cX4_tornItem 0 = .ok (.aload_n 0, 1) := by decide +kernel
theorem dX4_tornItem_1 : decode cX4_tornItem 1 = .ok (.invokevirtual 39, 3) := by decide +kernel
theorem dX4_tornItem_4 : decode cX4_tornItem 4 = .ok (.aload_n 0, 1) := by decide +kernel
theorem dX4_tornItem_5 : decode cX4_tornItem 5 = .ok (.invokevirtual 135, 3) := by decide +kernel
theorem dX4_tornItem_8 : decode cX4_tornItem 8 = .ok (.istore_n 1, 1) := by decide +kernel
theorem dX4_tornItem_9 : decode cX4_tornItem 9 = .ok (.aload_n 0, 1) := by decide +kernel
theorem dX4_tornItem_10 : decode cX4_tornItem 10 = .ok (.getfield 21, 3) := by decide +kernel
theorem dX4_tornItem_13 : decode cX4_tornItem 13 = .ok (.iload_n 1, 1) := by decide +kernel
theorem dX4_tornItem_14 : decode cX4_tornItem 14 = .ok (.invokevirtual 138, 3) := by decide +kernel
theorem dX4_tornItem_17 : decode cX4_tornItem 17 = .ok (.ifCond .ne 5, 3) := by decide +kernel
theorem dX4_tornItem_20 : decode cX4_tornItem 20 = .ok (.iconst 0, 1) := by decide +kernel
theorem dX4_tornItem_21 : decode cX4_tornItem 21 = .ok (.ireturn, 1) := by decide +kernel
theorem dX4_tornItem_22 : decode cX4_tornItem 22 = .ok (.aload_n 0, 1) := by decide +kernel
theorem dX4_tornItem_23 : decode cX4_tornItem 23 = .ok (.getfield 21, 3) := by decide +kernel
theorem dX4_tornItem_26 : decode cX4_tornItem 26 = .ok (.iload_n 1, 1) := by decide +kernel
theorem dX4_tornItem_27 : decode cX4_tornItem 27 = .ok (.iconst 1, 1) := by decide +kernel
theorem dX4_tornItem_28 : decode cX4_tornItem 28 = .ok (.invokevirtual 163, 3) := by decide +kernel
theorem dX4_tornItem_31 : decode cX4_tornItem 31 = .ok (.aload_n 0, 1) := by decide +kernel
theorem dX4_tornItem_32 : decode cX4_tornItem 32 = .ok (.invokevirtual 39, 3) := by decide +kernel
theorem dX4_tornItem_35 : decode cX4_tornItem 35 = .ok (.iconst 1, 1) := by decide +kernel
theorem dX4_tornItem_36 : decode cX4_tornItem 36 = .ok (.ireturn, 1) := by decide +kernel
theorem dX4_passes_0 : decode cX4_passes 0 = .ok (.aload_n 0, 1) := by decide +kernel
theorem dX4_passes_1 : decode cX4_passes 1 = .ok (.aload_n 1, 1) := by decide +kernel
theorem dX4_passes_2 : decode cX4_passes 2 = .ok (.invokevirtual 76, 3) := by decide +kernel
theorem dX4_passes_5 : decode cX4_passes 5 = .ok (.ifCond .ne 5, 3) := by decide +kernel
theorem dX4_passes_8 : decode cX4_passes 8 = .ok (.iconst 0, 1) := by decide +kernel
theorem dX4_passes_9 : decode cX4_passes 9 = .ok (.ireturn, 1) := by decide +kernel
theorem dX4_passes_10 : decode cX4_passes 10 = .ok (.aload_n 0, 1) := by decide +kernel
theorem dX4_passes_11 : decode cX4_passes 11 = .ok (.invokevirtual 39, 3) := by decide +kernel
theorem dX4_passes_14 : decode cX4_passes 14 = .ok (.iconst 1, 1) := by decide +kernel
theorem dX4_passes_15 : decode cX4_passes 15 = .ok (.ireturn, 1) := by decide +kernel
theorem dX4_numberWithin_0 : decode cX4_numberWithin 0 = .ok (.aload_n 0, 1) := by decide +kernel
theorem dX4_numberWithin_1 : decode cX4_numberWithin 1 = .ok (.invokevirtual 135, 3) := by decide +kernel
theorem dX4_numberWithin_4 : decode cX4_numberWithin 4 = .ok (.istore_n 3, 1) := by decide +kernel
theorem dX4_numberWithin_5 : decode cX4_numberWithin 5 = .ok (.iload_n 3, 1) := by decide +kernel
theorem dX4_numberWithin_6 : decode cX4_numberWithin 6 = .ok (.iload_n 1, 1) := by decide +kernel
theorem dX4_numberWithin_7 : decode cX4_numberWithin 7 = .ok (.if_icmp .lt 8, 3) := by decide +kernel
theorem dX4_numberWithin_10 : decode cX4_numberWithin 10 = .ok (.iload_n 3, 1) := by decide +kernel
theorem dX4_numberWithin_11 : decode cX4_numberWithin 11 = .ok (.iload_n 2, 1) := by decide +kernel
theorem dX4_numberWithin_12 : decode cX4_numberWithin 12 = .ok (.if_icmp .le 5, 3) := by decide +kernel
theorem dX4_numberWithin_15 : decode cX4_numberWithin 15 = .ok (.iconst (-1), 1) := by decide +kernel
theorem dX4_numberWithin_16 : decode cX4_numberWithin 16 = .ok (.ireturn, 1) := by decide +kernel
theorem dX4_numberWithin_17 : decode cX4_numberWithin 17 = .ok (.aload_n 0, 1) := by decide +kernel
theorem dX4_numberWithin_18 : decode cX4_numberWithin 18 = .ok (.invokevirtual 39, 3) := by decide +kernel
theorem dX4_numberWithin_21 : decode cX4_numberWithin 21 = .ok (.iload_n 3, 1) := by decide +kernel
theorem dX4_numberWithin_22 : decode cX4_numberWithin 22 = .ok (.ireturn, 1) := by decide +kernel
theorem dX4_value_0 : decode cX4_value 0 = .ok (.aload_n 0, 1) := by decide +kernel
theorem dX4_value_1 : decode cX4_value 1 = .ok (.getfield 25, 3) := by decide +kernel
theorem dX4_value_4 : decode cX4_value 4 = .ok (.iconst 2, 1) := by decide +kernel
theorem dX4_value_5 : decode cX4_value 5 = .ok (.if_icmp .eq 5, 3) := by decide +kernel
theorem dX4_value_8 : decode cX4_value 8 = .ok (.iconst (-1), 1) := by decide +kernel
theorem dX4_value_9 : decode cX4_value 9 = .ok (.ireturn, 1) := by decide +kernel
theorem dX4_value_10 : decode cX4_value 10 = .ok (.iconst 0, 1) := by decide +kernel
theorem dX4_value_11 : decode cX4_value 11 = .ok (.istore_n 1, 1) := by decide +kernel
theorem dX4_value_12 : decode cX4_value 12 = .ok (.aload_n 0, 1) := by decide +kernel
theorem dX4_value_13 : decode cX4_value 13 = .ok (.getfield 29, 3) := by decide +kernel
theorem dX4_value_16 : decode cX4_value 16 = .ok (.istore_n 2, 1) := by decide +kernel
theorem dX4_value_17 : decode cX4_value 17 = .ok (.iload_n 2, 1) := by decide +kernel
theorem dX4_value_18 : decode cX4_value 18 = .ok (.aload_n 0, 1) := by decide +kernel
theorem dX4_value_19 : decode cX4_value 19 = .ok (.getfield 32, 3) := by decide +kernel
theorem dX4_value_22 : decode cX4_value 22 = .ok (.if_icmp .ge 33, 3) := by decide +kernel
theorem dX4_value_25 : decode cX4_value 25 = .ok (.sipush 10000, 3) := by decide +kernel
theorem dX4_value_28 : decode cX4_value 28 = .ok (.bipush 10, 2) := by decide +kernel
theorem dX4_value_30 : decode cX4_value 30 = .ok (.iload_n 1, 1) := by decide +kernel
theorem dX4_value_31 : decode cX4_value 31 = .ok (.imul, 1) := by decide +kernel
theorem dX4_value_32 : decode cX4_value 32 = .ok (.aload_n 0, 1) := by decide +kernel
theorem dX4_value_33 : decode cX4_value 33 = .ok (.getfield 12, 3) := by decide +kernel
theorem dX4_value_36 : decode cX4_value 36 = .ok (.getfield 49, 3) := by decide +kernel
theorem dX4_value_39 : decode cX4_value 39 = .ok (.iload_n 2, 1) := by decide +kernel
theorem dX4_value_40 : decode cX4_value 40 = .ok (.iaload, 1) := by decide +kernel
theorem dX4_value_41 : decode cX4_value 41 = .ok (.iadd, 1) := by decide +kernel
theorem dX4_value_42 : decode cX4_value 42 = .ok (.bipush 48, 2) := by decide +kernel
theorem dX4_value_44 : decode cX4_value 44 = .ok (.isub, 1) := by decide +kernel
theorem dX4_value_45 : decode cX4_value 45 = .ok (.invokestatic 167, 3) := by decide +kernel
theorem dX4_value_48 : decode cX4_value 48 = .ok (.istore_n 1, 1) := by decide +kernel
theorem dX4_value_49 : decode cX4_value 49 = .ok (.iinc 2 1, 3) := by decide +kernel
theorem dX4_value_52 : decode cX4_value 52 = .ok (.goto (-35), 3) := by decide +kernel
theorem dX4_value_55 : decode cX4_value 55 = .ok (.iload_n 1, 1) := by decide +kernel
theorem dX4_value_56 : decode cX4_value 56 = .ok (.ireturn, 1) := by decide +kernel
def w_q_sortOf : List Cond := .code yX4_sortOf cX4_sortOf 1 (some .int) :: (([] : List Cond))
set_option maxHeartbeats 4000000 in
set_option maxRecDepth 100000 in
theorem q_sortOf (l : Launch) (dC : Nat → ClassId) (dI : Nat → Nat → Nat) (ad : Nat → Nat) (a : Int32) : Met l yX4_sortOf w_q_sortOf ({ frames := 0, cells := 0, slots := 0, locals := 0 } : Room) (va_Pc [.int a] (preS dC dI ad [] [])) (vp_Si (fun r => True)) 0 0 (fun _ => False) := by
  refine Met.ofW (cc := cX4_sortOf) (maxL := 1) (ret := (some .int)) (by decide) rfl ?_
  intro p e s m args below meth c s₁ B hml hv
  obtain ⟨rfl, hP, hK, hev⟩ := hv
  have hx := B.exec
  have hb := B.bytes
  have hr := B.returns
  have hts := atoms_spec (ws := w_q_sortOf) B.pre
  have hown : s.vm.findClass RX4 = some m.cls := findClass_of_methodNamed B.named
  have hlocks := B.notSynchronized
  have hP : va_P (dC, dI) vwCl [] s.heap := hP
  have hl := lv_entry ([.int a]) (n := 1) (Nat.le_of_ble_eq_true rfl)
  rw [lg_entry_eq]
  generalize (lg_sl ([.int a]) ++ List.replicate (1 - (lg_sl ([.int a])).length) Slot.unset).toArray = ls at hl ⊢
  have hl : lv_has ls 1 [(0, .int a)] := hl
  refine lv_iload_n hx hb dX4_sortOf_0 rfl (lv_at hl 0 rfl) ?_
  refine lv_bipush (v := 97) hx hb dX4_sortOf_1 (by decide) ?_
  refine lv_icmp_lt (tgt := 14) hx hb dX4_sortOf_3 (by decide) (fun c_1 => ?_) (fun c_1 => ?_)
  · skip
    have tc_1 : a.toInt < 97 := (fa_lt _ _).mp c_1
    refine lv_iload_n hx hb dX4_sortOf_14 rfl (lv_at hl 0 rfl) ?_
    refine lv_bipush (v := 48) hx hb dX4_sortOf_15 (by decide) ?_
    refine lv_icmp_lt (tgt := 28) hx hb dX4_sortOf_17 (by decide) (fun c_2 => ?_) (fun c_2 => ?_)
    · skip
      have tc_2 : a.toInt < 48 := (fa_lt _ _).mp c_2
      refine lv_iload_n hx hb dX4_sortOf_28 rfl (lv_at hl 0 rfl) ?_
      by_cases c_3 : a = 32
      · skip
        refine W.eq (g2 := F0 m 29 ls (.int 32 :: [])) (by rw [c_3]) ?_
        refine lv_lookup (tgt := 76) hx hb dX4_sortOf_29 (by decide) rfl (by decide) ?_
        refine lv_iconst (v := 5) hx hb dX4_sortOf_76 (by decide) ?_
        exact W.iret (v := (5 : Int32)) hx hb hr (fun t ht hW => ⟨(5 : Int32), rfl, trivial, ht⟩) (fun _ h => absurd h List.not_mem_nil) dX4_sortOf_77
      · skip
        by_cases c_4 : a = 35
        · skip
          refine W.eq (g2 := F0 m 29 ls (.int 35 :: [])) (by rw [c_4]) ?_
          refine lv_lookup (tgt := 72) hx hb dX4_sortOf_29 (by decide) rfl (by decide) ?_
          refine lv_iconst (v := 3) hx hb dX4_sortOf_72 (by decide) ?_
          exact W.iret (v := (3 : Int32)) hx hb hr (fun t ht hW => ⟨(3 : Int32), rfl, trivial, ht⟩) (fun _ h => absurd h List.not_mem_nil) dX4_sortOf_73
        · skip
          by_cases c_5 : a = 46
          · skip
            refine W.eq (g2 := F0 m 29 ls (.int 46 :: [])) (by rw [c_5]) ?_
            refine lv_lookup (tgt := 72) hx hb dX4_sortOf_29 (by decide) rfl (by decide) ?_
            refine lv_iconst (v := 3) hx hb dX4_sortOf_72 (by decide) ?_
            exact W.iret (v := (3 : Int32)) hx hb hr (fun t ht hW => ⟨(3 : Int32), rfl, trivial, ht⟩) (fun _ h => absurd h List.not_mem_nil) dX4_sortOf_73
          · skip
            by_cases c_6 : a = 59
            · skip
              refine W.eq (g2 := F0 m 29 ls (.int 59 :: [])) (by rw [c_6]) ?_
              refine lv_lookup (tgt := 74) hx hb dX4_sortOf_29 (by decide) rfl (by decide) ?_
              refine lv_iconst (v := 4) hx hb dX4_sortOf_74 (by decide) ?_
              exact W.iret (v := (4 : Int32)) hx hb hr (fun t ht hW => ⟨(4 : Int32), rfl, trivial, ht⟩) (fun _ h => absurd h List.not_mem_nil) dX4_sortOf_75
            · skip
              refine lv_lookup (tgt := 78) hx hb dX4_sortOf_29 (by decide) (by rw [lv_osw c_3 (k := 32) (by decide), lv_osw c_4 (k := 35) (by decide), lv_osw c_5 (k := 46) (by decide), lv_osw c_6 (k := 59) (by decide)]) rfl ?_
              refine lv_bipush (v := 6) hx hb dX4_sortOf_78 (by decide) ?_
              exact W.iret (v := (6 : Int32)) hx hb hr (fun t ht hW => ⟨(6 : Int32), rfl, trivial, ht⟩) (fun _ h => absurd h List.not_mem_nil) dX4_sortOf_80
    · skip
      have tc_2 : ¬ a.toInt < 48 := fun h => c_2 ((fa_lt _ _).mpr h)
      refine lv_iload_n hx hb dX4_sortOf_20 rfl (lv_at hl 0 rfl) ?_
      refine lv_bipush (v := 57) hx hb dX4_sortOf_21 (by decide) ?_
      refine lv_icmp_gt (tgt := 28) hx hb dX4_sortOf_23 (by decide) (fun c_7 => ?_) (fun c_7 => ?_)
      · skip
        have tc_7 : 57 < a.toInt := (fa_lt _ _).mp c_7
        refine lv_iload_n hx hb dX4_sortOf_28 rfl (lv_at hl 0 rfl) ?_
        by_cases c_8 : a = 32
        · skip
          refine W.eq (g2 := F0 m 29 ls (.int 32 :: [])) (by rw [c_8]) ?_
          refine lv_lookup (tgt := 76) hx hb dX4_sortOf_29 (by decide) rfl (by decide) ?_
          refine lv_iconst (v := 5) hx hb dX4_sortOf_76 (by decide) ?_
          exact W.iret (v := (5 : Int32)) hx hb hr (fun t ht hW => ⟨(5 : Int32), rfl, trivial, ht⟩) (fun _ h => absurd h List.not_mem_nil) dX4_sortOf_77
        · skip
          by_cases c_9 : a = 35
          · skip
            refine W.eq (g2 := F0 m 29 ls (.int 35 :: [])) (by rw [c_9]) ?_
            refine lv_lookup (tgt := 72) hx hb dX4_sortOf_29 (by decide) rfl (by decide) ?_
            refine lv_iconst (v := 3) hx hb dX4_sortOf_72 (by decide) ?_
            exact W.iret (v := (3 : Int32)) hx hb hr (fun t ht hW => ⟨(3 : Int32), rfl, trivial, ht⟩) (fun _ h => absurd h List.not_mem_nil) dX4_sortOf_73
          · skip
            by_cases c_10 : a = 46
            · skip
              refine W.eq (g2 := F0 m 29 ls (.int 46 :: [])) (by rw [c_10]) ?_
              refine lv_lookup (tgt := 72) hx hb dX4_sortOf_29 (by decide) rfl (by decide) ?_
              refine lv_iconst (v := 3) hx hb dX4_sortOf_72 (by decide) ?_
              exact W.iret (v := (3 : Int32)) hx hb hr (fun t ht hW => ⟨(3 : Int32), rfl, trivial, ht⟩) (fun _ h => absurd h List.not_mem_nil) dX4_sortOf_73
            · skip
              by_cases c_11 : a = 59
              · skip
                refine W.eq (g2 := F0 m 29 ls (.int 59 :: [])) (by rw [c_11]) ?_
                refine lv_lookup (tgt := 74) hx hb dX4_sortOf_29 (by decide) rfl (by decide) ?_
                refine lv_iconst (v := 4) hx hb dX4_sortOf_74 (by decide) ?_
                exact W.iret (v := (4 : Int32)) hx hb hr (fun t ht hW => ⟨(4 : Int32), rfl, trivial, ht⟩) (fun _ h => absurd h List.not_mem_nil) dX4_sortOf_75
              · skip
                refine lv_lookup (tgt := 78) hx hb dX4_sortOf_29 (by decide) (by rw [lv_osw c_8 (k := 32) (by decide), lv_osw c_9 (k := 35) (by decide), lv_osw c_10 (k := 46) (by decide), lv_osw c_11 (k := 59) (by decide)]) rfl ?_
                refine lv_bipush (v := 6) hx hb dX4_sortOf_78 (by decide) ?_
                exact W.iret (v := (6 : Int32)) hx hb hr (fun t ht hW => ⟨(6 : Int32), rfl, trivial, ht⟩) (fun _ h => absurd h List.not_mem_nil) dX4_sortOf_80
      · skip
        have tc_7 : ¬ 57 < a.toInt := fun h => c_7 ((fa_lt _ _).mpr h)
        refine lv_iconst (v := 2) hx hb dX4_sortOf_26 (by decide) ?_
        exact W.iret (v := (2 : Int32)) hx hb hr (fun t ht hW => ⟨(2 : Int32), rfl, trivial, ht⟩) (fun _ h => absurd h List.not_mem_nil) dX4_sortOf_27
  · skip
    have tc_1 : ¬ a.toInt < 97 := fun h => c_1 ((fa_lt _ _).mpr h)
    refine lv_iload_n hx hb dX4_sortOf_6 rfl (lv_at hl 0 rfl) ?_
    refine lv_bipush (v := 122) hx hb dX4_sortOf_7 (by decide) ?_
    refine lv_icmp_gt (tgt := 14) hx hb dX4_sortOf_9 (by decide) (fun c_12 => ?_) (fun c_12 => ?_)
    · skip
      have tc_12 : 122 < a.toInt := (fa_lt _ _).mp c_12
      refine lv_iload_n hx hb dX4_sortOf_14 rfl (lv_at hl 0 rfl) ?_
      refine lv_bipush (v := 48) hx hb dX4_sortOf_15 (by decide) ?_
      refine lv_icmp_lt (tgt := 28) hx hb dX4_sortOf_17 (by decide) (fun c_13 => ?_) (fun c_13 => ?_)
      · skip
        have tc_13 : a.toInt < 48 := (fa_lt _ _).mp c_13
        exfalso; omega
      · skip
        have tc_13 : ¬ a.toInt < 48 := fun h => c_13 ((fa_lt _ _).mpr h)
        refine lv_iload_n hx hb dX4_sortOf_20 rfl (lv_at hl 0 rfl) ?_
        refine lv_bipush (v := 57) hx hb dX4_sortOf_21 (by decide) ?_
        refine lv_icmp_gt (tgt := 28) hx hb dX4_sortOf_23 (by decide) (fun c_14 => ?_) (fun c_14 => ?_)
        · skip
          have tc_14 : 57 < a.toInt := (fa_lt _ _).mp c_14
          refine lv_iload_n hx hb dX4_sortOf_28 rfl (lv_at hl 0 rfl) ?_
          by_cases c_15 : a = 32
          · skip
            refine W.eq (g2 := F0 m 29 ls (.int 32 :: [])) (by rw [c_15]) ?_
            refine lv_lookup (tgt := 76) hx hb dX4_sortOf_29 (by decide) rfl (by decide) ?_
            refine lv_iconst (v := 5) hx hb dX4_sortOf_76 (by decide) ?_
            exact W.iret (v := (5 : Int32)) hx hb hr (fun t ht hW => ⟨(5 : Int32), rfl, trivial, ht⟩) (fun _ h => absurd h List.not_mem_nil) dX4_sortOf_77
          · skip
            by_cases c_16 : a = 35
            · skip
              refine W.eq (g2 := F0 m 29 ls (.int 35 :: [])) (by rw [c_16]) ?_
              refine lv_lookup (tgt := 72) hx hb dX4_sortOf_29 (by decide) rfl (by decide) ?_
              refine lv_iconst (v := 3) hx hb dX4_sortOf_72 (by decide) ?_
              exact W.iret (v := (3 : Int32)) hx hb hr (fun t ht hW => ⟨(3 : Int32), rfl, trivial, ht⟩) (fun _ h => absurd h List.not_mem_nil) dX4_sortOf_73
            · skip
              by_cases c_17 : a = 46
              · skip
                refine W.eq (g2 := F0 m 29 ls (.int 46 :: [])) (by rw [c_17]) ?_
                refine lv_lookup (tgt := 72) hx hb dX4_sortOf_29 (by decide) rfl (by decide) ?_
                refine lv_iconst (v := 3) hx hb dX4_sortOf_72 (by decide) ?_
                exact W.iret (v := (3 : Int32)) hx hb hr (fun t ht hW => ⟨(3 : Int32), rfl, trivial, ht⟩) (fun _ h => absurd h List.not_mem_nil) dX4_sortOf_73
              · skip
                by_cases c_18 : a = 59
                · skip
                  refine W.eq (g2 := F0 m 29 ls (.int 59 :: [])) (by rw [c_18]) ?_
                  refine lv_lookup (tgt := 74) hx hb dX4_sortOf_29 (by decide) rfl (by decide) ?_
                  refine lv_iconst (v := 4) hx hb dX4_sortOf_74 (by decide) ?_
                  exact W.iret (v := (4 : Int32)) hx hb hr (fun t ht hW => ⟨(4 : Int32), rfl, trivial, ht⟩) (fun _ h => absurd h List.not_mem_nil) dX4_sortOf_75
                · skip
                  refine lv_lookup (tgt := 78) hx hb dX4_sortOf_29 (by decide) (by rw [lv_osw c_15 (k := 32) (by decide), lv_osw c_16 (k := 35) (by decide), lv_osw c_17 (k := 46) (by decide), lv_osw c_18 (k := 59) (by decide)]) rfl ?_
                  refine lv_bipush (v := 6) hx hb dX4_sortOf_78 (by decide) ?_
                  exact W.iret (v := (6 : Int32)) hx hb hr (fun t ht hW => ⟨(6 : Int32), rfl, trivial, ht⟩) (fun _ h => absurd h List.not_mem_nil) dX4_sortOf_80
        · skip
          have tc_14 : ¬ 57 < a.toInt := fun h => c_14 ((fa_lt _ _).mpr h)
          exfalso; omega
    · skip
      have tc_12 : ¬ 122 < a.toInt := fun h => c_12 ((fa_lt _ _).mpr h)
      refine lv_iconst (v := 1) hx hb dX4_sortOf_12 (by decide) ?_
      exact W.iret (v := (1 : Int32)) hx hb hr (fun t ht hW => ⟨(1 : Int32), rfl, trivial, ht⟩) (fun _ h => absurd h List.not_mem_nil) dX4_sortOf_13

def w_q_advance : List Cond := .code yX4_advance cX4_advance 1 none :: (([.fieldLink RX4 32 "LampShapes$Script" "end" "I", .fieldLink RX4 29 "LampShapes$Script" "start" "I", .fieldLink RX4 12 "LampShapes$Script" "tape" "LLampShapes$Tape;", .methodLink RX4 53 yX4_sortOf, .static yX4_sortOf, .initialized RX4, .code yX4_sortOf cX4_sortOf 1 (some .int), .fieldLink RX4 25 "LampShapes$Script" "token" "I"] : List Cond) ++ wsX40 ++ wsX70)
set_option maxRecDepth 20000 in
theorem g_q_advance_q_sortOf_53 : GoodIn w_q_advance (va_wsS RX4 53 yX4_sortOf w_q_sortOf) := goodIn_r _ [4, 5, 6, 7] rfl (by decide +kernel)
set_option maxHeartbeats 4000000 in
set_option maxRecDepth 100000 in
theorem q_advance (l : Launch) (dC : Nat → ClassId) (dI : Nat → Nat → Nat) (ad : Nat → Nat) (h0 : Nat) (eh : Nat) (dh : Nat) (tk : Int32) (stt : Int32) (en : Int32) (dr : Int64) (ts : Int32) (q0 : Nat) (c0 : ClassId) (f0 : Nat → Int32) (sz : Nat) (hts2 : 0 ≤ ts.toInt ∧ ts.toInt ≤ 120) (hen : 0 ≤ en.toInt ∧ en.toInt ≤ ts.toInt) : Met l yX4_advance w_q_advance ({ frames := 1, cells := 0, slots := 0, locals := 20 } : Room) (va_Pc [.ref h0] (preM dC dI ad [(c0, .int)] [(h0, .inr (2, [.ref eh, .ref dh, .int tk, .int stt, .int en, .long dr])), (eh, .inr (5, [.int ts, .ref q0])), (q0, .inl (c0, 120, .inl f0))] sz)) (va_Qv (fun (_ : Unit) => True) (fun _ t => ∃ (tk2 : Int32), ∃ (st2 : Int32), ∃ (en2 : Int32), (0 ≤ st2.toInt ∧ st2.toInt ≤ en2.toInt ∧ en2.toInt ≤ ts.toInt) ∧ va_P (dC, dI) vwCl [(h0, .inr (2, [.ref eh, .ref dh, .int tk2, .int st2, .int en2, .long dr])), (eh, .inr (5, [.int ts, .ref q0])), (q0, .inl (c0, 120, .inl f0))] t.heap ∧ va_K (dC, dI) vwCl [(c0, .int)] t ∧ va_D (va_A [(h0, .inr (2, [.ref eh, .ref dh, .int tk, .int stt, .int en, .long dr])), (eh, .inr (5, [.int ts, .ref q0])), (q0, .inl (c0, 120, .inl f0))] sz) [(h0, .inr (2, [.ref eh, .ref dh, .int tk2, .int st2, .int en2, .long dr])), (eh, .inr (5, [.int ts, .ref q0])), (q0, .inl (c0, 120, .inl f0))]) (va_A [(h0, .inr (2, [.ref eh, .ref dh, .int tk, .int stt, .int en, .long dr])), (eh, .inr (5, [.int ts, .ref q0])), (q0, .inl (c0, 120, .inl f0))] sz)) 0 0 (va_A [(h0, .inr (2, [.ref eh, .ref dh, .int tk, .int stt, .int en, .long dr])), (eh, .inr (5, [.int ts, .ref q0])), (q0, .inl (c0, 120, .inl f0))] sz) := by
  refine Met.ofW (cc := cX4_advance) (maxL := 1) (ret := none) (by decide) rfl ?_
  intro p e s m args below meth c s₁ B hml hv
  obtain ⟨rfl, hsz, hP, hK, hD0, hev⟩ := hv
  have hx := B.exec
  have hb := B.bytes
  have hr := B.returns
  have hts := atoms_spec (ws := w_q_advance) B.pre
  have hown : s.vm.findClass RX4 = some m.cls := findClass_of_methodNamed B.named
  have hlocks := B.notSynchronized
  have inX4 : ∀ w ∈ wsX40, w ∈ w_q_advance := fun w h => List.mem_cons_of_mem _ (List.mem_append_left _ (List.mem_append_right _ h))
  have inX7 : ∀ w ∈ wsX70, w ∈ w_q_advance := fun w h => List.mem_cons_of_mem _ (List.mem_append_right _ h)
  subst hsz
  have hD := hD0.self (sz := s.heap.size)
  generalize hAe : va_A [(h0, .inr (2, [.ref eh, .ref dh, .int tk, .int stt, .int en, .long dr])), (eh, .inr (5, [.int ts, .ref q0])), (q0, .inl (c0, 120, .inl f0))] s.heap.size = A at hD ⊢
  have hA : ∀ q : Nat, s.heap.size ≤ q → A q := fun q h => by rw [← hAe]; exact Or.inr h
  have hS : va_S A s.heap s.heap [] := va_S.rf
  have hP : va_P (dC, dI) vwCl [(h0, .inr (2, [.ref eh, .ref dh, .int tk, .int stt, .int en, .long dr])), (eh, .inr (5, [.int ts, .ref q0])), (q0, .inl (c0, 120, .inl f0))] s.heap := hP
  have hl := lv_entry ([.ref h0]) (n := 1) (Nat.le_of_ble_eq_true rfl)
  rw [lg_entry_eq]
  generalize (lg_sl ([.ref h0]) ++ List.replicate (1 - (lg_sl ([.ref h0])).length) Slot.unset).toArray = ls at hl ⊢
  have hl : lv_has ls 1 [(0, .ref h0)] := hl
  refine lv_aload_n hx hb dX4_advance_0 rfl (lv_at hl 0 rfl) ?_
  refine lv_aload_n hx hb dX4_advance_1 rfl (lv_at hl 0 rfl) ?_
  refine va_get (D := (dC, dI)) (ci := 2) (v := .int en) (C := RX4) (T := TX4) (N := 6) hx hb hts inX4 hown hK hP 0 rfl rfl 4 (by decide) (hts _ (List.mem_of_getElem? (i := 1) rfl)) (fun _ h9 => h9) rfl dX4_advance_2 ?_
  refine va_put (D := (dC, dI)) (ci := 2) (v := .int en) (ty := .int) (C := RX4) (T := TX4) (N := 6) hx hb hts inX4 tyX4 tyX4_ok nmX4 hown hK hP hD hS 0 rfl rfl 3 (by decide) (hts _ (List.mem_of_getElem? (i := 2) rfl)) (fun _ h9 => h9) rfl (by decide +kernel) rfl rfl (Nat.le_of_ble_eq_true rfl) dX4_advance_5 (fun H locs hP hD hS => ?_)
  have hP : va_P (dC, dI) vwCl [(h0, .inr (2, [.ref eh, .ref dh, .int tk, .int en, .int en, .long dr])), (eh, .inr (5, [.int ts, .ref q0])), (q0, .inl (c0, 120, .inl f0))] H := hP
  have hD : va_D A [(h0, .inr (2, [.ref eh, .ref dh, .int tk, .int en, .int en, .long dr])), (eh, .inr (5, [.int ts, .ref q0])), (q0, .inl (c0, 120, .inl f0))] := hD
  refine pp_loop (ι := Int32) (fun y3 => (ts.toInt - y3.toInt).toNat) (fun y3 H locs ls => (0 ≤ y3.toInt ∧ y3.toInt ≤ ts.toInt) ∧ va_P (dC, dI) vwCl [(h0, .inr (2, [.ref eh, .ref dh, .int tk, .int y3, .int en, .long dr])), (eh, .inr (5, [.int ts, .ref q0])), (q0, .inl (c0, 120, .inl f0))] H ∧ va_D A [(h0, .inr (2, [.ref eh, .ref dh, .int tk, .int y3, .int en, .long dr])), (eh, .inr (5, [.int ts, .ref q0])), (q0, .inl (c0, 120, .inl f0))] ∧ va_S A s.heap H locs ∧ lv_has ls 1 [(0, .ref h0)]) ?_ en _ _ _ ⟨(by first | omega | decide | (simp only [fa_lt, fa_le, fa_eq, and_true, true_and, and_false, false_and, not_true_eq_false, not_false_eq_true, li_0, li_1, li_2, li_3, li_4, li_5, li_6, li_7, li_8, li_9, li_10, li_12, li_15, li_16, li_20, li_30, li_34, li_38, li_40, li_63, li_64, li_65, li_78, li_120, li_1000, li_4000, li_10000, li_11077, li_255, li_65535, li_m1, li_m2, li_m1000000001, li_m1000000002, li_m1000000003, li_m1000000004, li_m1000000005, li_m1000000006, li_m1000000007, or_true, true_or, or_false, false_or, implies_true, true_implies, false_implies] <;> omega)), hP.sub [0, 1, 2] rfl, hD.sub [0, 1, 2] (by decide) rfl, hS, lv_sub hl [0] rfl⟩
  intro k_1 ihk_1 u H locs ls hm hI
  obtain ⟨y3, rfl⟩ : ∃ z, z = u := ⟨_, rfl⟩
  obtain ⟨jk_1_0, hP, hD, hS, hl⟩ := hI
  have hmk_1 : (ts.toInt - y3.toInt).toNat < k_1 + 1 := hm
  clear hm
  have jk_1_0 : 0 ≤ y3.toInt ∧ y3.toInt ≤ ts.toInt := jk_1_0
  have hl : lv_has ls 1 [(0, .ref h0)] := hl
  have hP : va_P (dC, dI) vwCl [(h0, .inr (2, [.ref eh, .ref dh, .int tk, .int y3, .int en, .long dr])), (eh, .inr (5, [.int ts, .ref q0])), (q0, .inl (c0, 120, .inl f0))] H := hP
  have hD : va_D A [(h0, .inr (2, [.ref eh, .ref dh, .int tk, .int y3, .int en, .long dr])), (eh, .inr (5, [.int ts, .ref q0])), (q0, .inl (c0, 120, .inl f0))] := hD
  refine lv_aload_n hx hb dX4_advance_8 rfl (lv_at hl 0 rfl) ?_
  refine va_get (D := (dC, dI)) (ci := 2) (v := .int y3) (C := RX4) (T := TX4) (N := 6) hx hb hts inX4 hown hK hP 0 rfl rfl 3 (by decide) (hts _ (List.mem_of_getElem? (i := 2) rfl)) (fun _ h9 => h9) rfl dX4_advance_9 ?_
  refine lv_aload_n hx hb dX4_advance_12 rfl (lv_at hl 0 rfl) ?_
  refine va_get (D := (dC, dI)) (ci := 2) (v := .ref eh) (C := RX4) (T := TX4) (N := 6) hx hb hts inX4 hown hK hP 0 rfl rfl 0 (by decide) (hts _ (List.mem_of_getElem? (i := 3) rfl)) (fun _ h9 => h9) rfl dX4_advance_13 ?_
  refine va_getN (D := (dC, dI)) (ci := 5) (v := .int ts) (C := RX7) (T := TX7) (N := 2) hx hb hts inX7 hown hK hP 1 rfl rfl 0 (by decide) (ev_nest hev 16 rfl) (fun _ h9 => h9) rfl dX4_advance_16 ?_
  have rc_2_x := pp_rng y3
  have rc_2_y := pp_rng ts
  refine lv_icmp_ge (tgt := 54) hx hb dX4_advance_19 (by decide) (fun c_2 => ?_) (fun c_2 => ?_)
  · skip
    have tc_2 : ts.toInt ≤ y3.toInt := (fa_le _ _).mp c_2
    refine lv_aload_n hx hb dX4_advance_54 rfl (lv_at hl 0 rfl) ?_
    refine lv_aload_n hx hb dX4_advance_55 rfl (lv_at hl 0 rfl) ?_
    refine va_get (D := (dC, dI)) (ci := 2) (v := .int y3) (C := RX4) (T := TX4) (N := 6) hx hb hts inX4 hown hK hP 0 rfl rfl 3 (by decide) (hts _ (List.mem_of_getElem? (i := 2) rfl)) (fun _ h9 => h9) rfl dX4_advance_56 ?_
    refine va_put (D := (dC, dI)) (ci := 2) (v := .int y3) (ty := .int) (C := RX4) (T := TX4) (N := 6) hx hb hts inX4 tyX4 tyX4_ok nmX4 hown hK hP hD hS 0 rfl rfl 4 (by decide) (hts _ (List.mem_of_getElem? (i := 1) rfl)) (fun _ h9 => h9) rfl (by decide +kernel) rfl rfl (Nat.le_of_ble_eq_true rfl) dX4_advance_59 (fun H locs hP hD hS => ?_)
    have hP : va_P (dC, dI) vwCl [(h0, .inr (2, [.ref eh, .ref dh, .int tk, .int y3, .int y3, .long dr])), (eh, .inr (5, [.int ts, .ref q0])), (q0, .inl (c0, 120, .inl f0))] H := hP
    have hD : va_D A [(h0, .inr (2, [.ref eh, .ref dh, .int tk, .int y3, .int y3, .long dr])), (eh, .inr (5, [.int ts, .ref q0])), (q0, .inl (c0, 120, .inl f0))] := hD
    refine lv_aload_n hx hb dX4_advance_62 rfl (lv_at hl 0 rfl) ?_
    refine va_get (D := (dC, dI)) (ci := 2) (v := .int y3) (C := RX4) (T := TX4) (N := 6) hx hb hts inX4 hown hK hP 0 rfl rfl 3 (by decide) (hts _ (List.mem_of_getElem? (i := 2) rfl)) (fun _ h9 => h9) rfl dX4_advance_63 ?_
    refine lv_aload_n hx hb dX4_advance_66 rfl (lv_at hl 0 rfl) ?_
    refine va_get (D := (dC, dI)) (ci := 2) (v := .ref eh) (C := RX4) (T := TX4) (N := 6) hx hb hts inX4 hown hK hP 0 rfl rfl 0 (by decide) (hts _ (List.mem_of_getElem? (i := 3) rfl)) (fun _ h9 => h9) rfl dX4_advance_67 ?_
    refine va_getN (D := (dC, dI)) (ci := 5) (v := .int ts) (C := RX7) (T := TX7) (N := 2) hx hb hts inX7 hown hK hP 1 rfl rfl 0 (by decide) (ev_nest hev 16 rfl) (fun _ h9 => h9) rfl dX4_advance_70 ?_
    have rc_3_x := pp_rng y3
    have rc_3_y := pp_rng ts
    refine lv_icmp_lt (tgt := 82) hx hb dX4_advance_73 (by decide) (fun c_3 => ?_) (fun c_3 => ?_)
    · skip
      have tc_3 : y3.toInt < ts.toInt := (fa_lt _ _).mp c_3
      refine lv_aload_n hx hb dX4_advance_82 rfl (lv_at hl 0 rfl) ?_
      refine lv_aload_n hx hb dX4_advance_83 rfl (lv_at hl 0 rfl) ?_
      refine va_get (D := (dC, dI)) (ci := 2) (v := .ref eh) (C := RX4) (T := TX4) (N := 6) hx hb hts inX4 hown hK hP 0 rfl rfl 0 (by decide) (hts _ (List.mem_of_getElem? (i := 3) rfl)) (fun _ h9 => h9) rfl dX4_advance_84 ?_
      refine va_getN (D := (dC, dI)) (ci := 5) (v := .ref q0) (C := RX7) (T := TX7) (N := 2) hx hb hts inX7 hown hK hP 1 rfl rfl 1 (by decide) (ev_nest hev 18 rfl) (fun _ h9 => h9) rfl dX4_advance_87 ?_
      refine lv_aload_n hx hb dX4_advance_90 rfl (lv_at hl 0 rfl) ?_
      refine va_get (D := (dC, dI)) (ci := 2) (v := .int y3) (C := RX4) (T := TX4) (N := 6) hx hb hts inX4 hown hK hP 0 rfl rfl 3 (by decide) (hts _ (List.mem_of_getElem? (i := 2) rfl)) (fun _ h9 => h9) rfl dX4_advance_91 ?_
      refine va_iald hx hb hK hP 2 0 rfl rfl (vp_in_iff.mpr ⟨by omega, by omega⟩) dX4_advance_94 ?_
      refine lv_topi (fun n_4 en_4 => ?_)
      clear en_4
      have hPc := hP.sub (ws' := []) [] rfl
      have hKc := hK.sub (tys' := []) [] rfl
      refine vp_callSi (W.runS (As := [.int n_4]) (rest := [.ref h0]) ⟨hx, hb, hml, hown, hts⟩ (q_sortOf l dC dI ad n_4 ) (va_cwS 1 hts g_q_advance_q_sortOf_53 rfl rfl rfl (by decide +kernel) ⟨(Nat.le_of_ble_eq_true rfl), (Nat.le_of_ble_eq_true rfl)⟩) ⟨preS_blind, fun U hU hW => ⟨rfl, preS_at hU hW hPc hKc hev⟩⟩ rfl rfl hl.1 rfl (lv_room (Nat.le_of_ble_eq_true rfl)) dX4_advance_95 ⟨(Nat.le_of_ble_eq_true rfl), (Nat.le_of_ble_eq_true rfl)⟩) (fun r_5 hw => ?_)
      refine va_put (D := (dC, dI)) (ci := 2) (v := .int r_5) (ty := .int) (C := RX4) (T := TX4) (N := 6) hx hb hts inX4 tyX4 tyX4_ok nmX4 hown hK hP hD hS 0 rfl rfl 2 (by decide) (hts _ (List.mem_of_getElem? (i := 8) rfl)) (fun _ h9 => h9) rfl (by decide +kernel) rfl rfl (Nat.le_of_ble_eq_true rfl) dX4_advance_98 (fun H locs hP hD hS => ?_)
      have hP : va_P (dC, dI) vwCl [(h0, .inr (2, [.ref eh, .ref dh, .int r_5, .int y3, .int y3, .long dr])), (eh, .inr (5, [.int ts, .ref q0])), (q0, .inl (c0, 120, .inl f0))] H := hP
      have hD : va_D A [(h0, .inr (2, [.ref eh, .ref dh, .int r_5, .int y3, .int y3, .long dr])), (eh, .inr (5, [.int ts, .ref q0])), (q0, .inl (c0, 120, .inl f0))] := hD
      refine lv_aload_n hx hb dX4_advance_101 rfl (lv_at hl 0 rfl) ?_
      refine lv_dup hx hb dX4_advance_102 rfl ?_
      refine va_get (D := (dC, dI)) (ci := 2) (v := .int y3) (C := RX4) (T := TX4) (N := 6) hx hb hts inX4 hown hK hP 0 rfl rfl 4 (by decide) (hts _ (List.mem_of_getElem? (i := 1) rfl)) (fun _ h9 => h9) rfl dX4_advance_103 ?_
      refine lv_iconst (v := 1) hx hb dX4_advance_106 (by decide) ?_
      refine lv_iadd hx hb dX4_advance_107 ?_
      refine lv_topi (fun n_6 en_6 => ?_)
      have tn_6 : n_6.toInt = y3.toInt + 1 := pp_add en_6 rfl rfl (by omega) (by omega)
      clear en_6
      refine va_put (D := (dC, dI)) (ci := 2) (v := .int n_6) (ty := .int) (C := RX4) (T := TX4) (N := 6) hx hb hts inX4 tyX4 tyX4_ok nmX4 hown hK hP hD hS 0 rfl rfl 4 (by decide) (hts _ (List.mem_of_getElem? (i := 1) rfl)) (fun _ h9 => h9) rfl (by decide +kernel) rfl rfl (Nat.le_of_ble_eq_true rfl) dX4_advance_108 (fun H locs hP hD hS => ?_)
      have hP : va_P (dC, dI) vwCl [(h0, .inr (2, [.ref eh, .ref dh, .int r_5, .int y3, .int n_6, .long dr])), (eh, .inr (5, [.int ts, .ref q0])), (q0, .inl (c0, 120, .inl f0))] H := hP
      have hD : va_D A [(h0, .inr (2, [.ref eh, .ref dh, .int r_5, .int y3, .int n_6, .long dr])), (eh, .inr (5, [.int ts, .ref q0])), (q0, .inl (c0, 120, .inl f0))] := hD
      refine lv_aload_n hx hb dX4_advance_111 rfl (lv_at hl 0 rfl) ?_
      refine va_get (D := (dC, dI)) (ci := 2) (v := .int r_5) (C := RX4) (T := TX4) (N := 6) hx hb hts inX4 hown hK hP 0 rfl rfl 2 (by decide) (hts _ (List.mem_of_getElem? (i := 8) rfl)) (fun _ h9 => h9) rfl dX4_advance_112 ?_
      refine lv_iconst (v := 4) hx hb dX4_advance_115 (by decide) ?_
      refine lv_icmp_eq (tgt := 128) hx hb dX4_advance_116 (by decide) (fun c_7 => ?_) (fun c_7 => ?_)
      · skip
        have tc_7 : r_5.toInt = 4 := (fa_eq _ _).mp c_7
        have hP9 := hP.sub (ws' := [(h0, .inr (2, [.ref eh, .ref dh, .int r_5, .int y3, .int n_6, .long dr])), (eh, .inr (5, [.int ts, .ref q0])), (q0, .inl (c0, 120, .inl f0))]) [0, 1, 2] rfl
        have hD9 := hD.sub (ws' := [(h0, .inr (2, [.ref eh, .ref dh, .int r_5, .int y3, .int n_6, .long dr])), (eh, .inr (5, [.int ts, .ref q0])), (q0, .inl (c0, 120, .inl f0))]) [0, 1, 2] (by decide) rfl
        have hK9 := hK.sub (tys' := [(c0, .int)]) [0] rfl
        exact W.vret hx hb hr (fun t ht hW => ⟨⟨(), rfl, trivial, r_5, y3, n_6, (by first | omega | decide | (simp only [fa_lt, fa_le, fa_eq, and_true, true_and, and_false, false_and, not_true_eq_false, not_false_eq_true, li_0, li_1, li_2, li_3, li_4, li_5, li_6, li_7, li_8, li_9, li_10, li_12, li_15, li_16, li_20, li_30, li_34, li_38, li_40, li_63, li_64, li_65, li_78, li_120, li_1000, li_4000, li_10000, li_11077, li_255, li_65535, li_m1, li_m2, li_m1000000001, li_m1000000002, li_m1000000003, li_m1000000004, li_m1000000005, li_m1000000006, li_m1000000007, or_true, true_or, or_false, false_or, implies_true, true_implies, false_implies] <;> omega)), by rw [ht]; exact hP9, va_K.moved hW.alike hK9, hD9⟩, hS.F ht⟩) hS.2.2 dX4_advance_128
      · skip
        have tc_7 : ¬ r_5.toInt = 4 := fun h => c_7 ((fa_eq _ _).mpr h)
        refine lv_aload_n hx hb dX4_advance_119 rfl (lv_at hl 0 rfl) ?_
        refine va_get (D := (dC, dI)) (ci := 2) (v := .int r_5) (C := RX4) (T := TX4) (N := 6) hx hb hts inX4 hown hK hP 0 rfl rfl 2 (by decide) (hts _ (List.mem_of_getElem? (i := 8) rfl)) (fun _ h9 => h9) rfl dX4_advance_120 ?_
        refine lv_bipush (v := 6) hx hb dX4_advance_123 (by decide) ?_
        refine lv_icmp_ne (tgt := 129) hx hb dX4_advance_125 (by decide) (fun c_8 => ?_) (fun c_8 => ?_)
        · skip
          have tc_8 : ¬ r_5.toInt = 6 := fun h => c_8 ((fa_eq _ _).mpr h)
          refine pp_loop (ι := Int32) (fun y4 => (ts.toInt - y4.toInt).toNat) (fun y4 H locs ls => (y3.toInt ≤ y4.toInt ∧ y4.toInt ≤ ts.toInt) ∧ va_P (dC, dI) vwCl [(h0, .inr (2, [.ref eh, .ref dh, .int r_5, .int y3, .int y4, .long dr])), (eh, .inr (5, [.int ts, .ref q0])), (q0, .inl (c0, 120, .inl f0))] H ∧ va_D A [(h0, .inr (2, [.ref eh, .ref dh, .int r_5, .int y3, .int y4, .long dr])), (eh, .inr (5, [.int ts, .ref q0])), (q0, .inl (c0, 120, .inl f0))] ∧ va_S A s.heap H locs ∧ lv_has ls 1 [(0, .ref h0)]) ?_ n_6 _ _ _ ⟨(by first | omega | decide | (simp only [fa_lt, fa_le, fa_eq, and_true, true_and, and_false, false_and, not_true_eq_false, not_false_eq_true, li_0, li_1, li_2, li_3, li_4, li_5, li_6, li_7, li_8, li_9, li_10, li_12, li_15, li_16, li_20, li_30, li_34, li_38, li_40, li_63, li_64, li_65, li_78, li_120, li_1000, li_4000, li_10000, li_11077, li_255, li_65535, li_m1, li_m2, li_m1000000001, li_m1000000002, li_m1000000003, li_m1000000004, li_m1000000005, li_m1000000006, li_m1000000007, or_true, true_or, or_false, false_or, implies_true, true_implies, false_implies] <;> omega)), hP.sub [0, 1, 2] rfl, hD.sub [0, 1, 2] (by decide) rfl, hS, lv_sub hl [0] rfl⟩
          intro k_9 ihk_9 u H locs ls hm hI
          obtain ⟨y4, rfl⟩ : ∃ z, z = u := ⟨_, rfl⟩
          obtain ⟨jk_9_0, hP, hD, hS, hl⟩ := hI
          have hmk_9 : (ts.toInt - y4.toInt).toNat < k_9 + 1 := hm
          clear hm
          have jk_9_0 : y3.toInt ≤ y4.toInt ∧ y4.toInt ≤ ts.toInt := jk_9_0
          have hl : lv_has ls 1 [(0, .ref h0)] := hl
          have hP : va_P (dC, dI) vwCl [(h0, .inr (2, [.ref eh, .ref dh, .int r_5, .int y3, .int y4, .long dr])), (eh, .inr (5, [.int ts, .ref q0])), (q0, .inl (c0, 120, .inl f0))] H := hP
          have hD : va_D A [(h0, .inr (2, [.ref eh, .ref dh, .int r_5, .int y3, .int y4, .long dr])), (eh, .inr (5, [.int ts, .ref q0])), (q0, .inl (c0, 120, .inl f0))] := hD
          refine lv_aload_n hx hb dX4_advance_129 rfl (lv_at hl 0 rfl) ?_
          refine va_get (D := (dC, dI)) (ci := 2) (v := .int y4) (C := RX4) (T := TX4) (N := 6) hx hb hts inX4 hown hK hP 0 rfl rfl 4 (by decide) (hts _ (List.mem_of_getElem? (i := 1) rfl)) (fun _ h9 => h9) rfl dX4_advance_130 ?_
          refine lv_aload_n hx hb dX4_advance_133 rfl (lv_at hl 0 rfl) ?_
          refine va_get (D := (dC, dI)) (ci := 2) (v := .ref eh) (C := RX4) (T := TX4) (N := 6) hx hb hts inX4 hown hK hP 0 rfl rfl 0 (by decide) (hts _ (List.mem_of_getElem? (i := 3) rfl)) (fun _ h9 => h9) rfl dX4_advance_134 ?_
          refine va_getN (D := (dC, dI)) (ci := 5) (v := .int ts) (C := RX7) (T := TX7) (N := 2) hx hb hts inX7 hown hK hP 1 rfl rfl 0 (by decide) (ev_nest hev 16 rfl) (fun _ h9 => h9) rfl dX4_advance_137 ?_
          have rc_10_x := pp_rng y4
          have rc_10_y := pp_rng ts
          refine lv_icmp_ge (tgt := 178) hx hb dX4_advance_140 (by decide) (fun c_10 => ?_) (fun c_10 => ?_)
          · skip
            have tc_10 : ts.toInt ≤ y4.toInt := (fa_le _ _).mp c_10
            have hP9 := hP.sub (ws' := [(h0, .inr (2, [.ref eh, .ref dh, .int r_5, .int y3, .int y4, .long dr])), (eh, .inr (5, [.int ts, .ref q0])), (q0, .inl (c0, 120, .inl f0))]) [0, 1, 2] rfl
            have hD9 := hD.sub (ws' := [(h0, .inr (2, [.ref eh, .ref dh, .int r_5, .int y3, .int y4, .long dr])), (eh, .inr (5, [.int ts, .ref q0])), (q0, .inl (c0, 120, .inl f0))]) [0, 1, 2] (by decide) rfl
            have hK9 := hK.sub (tys' := [(c0, .int)]) [0] rfl
            exact W.vret hx hb hr (fun t ht hW => ⟨⟨(), rfl, trivial, r_5, y3, y4, (by first | omega | decide | (simp only [fa_lt, fa_le, fa_eq, and_true, true_and, and_false, false_and, not_true_eq_false, not_false_eq_true, li_0, li_1, li_2, li_3, li_4, li_5, li_6, li_7, li_8, li_9, li_10, li_12, li_15, li_16, li_20, li_30, li_34, li_38, li_40, li_63, li_64, li_65, li_78, li_120, li_1000, li_4000, li_10000, li_11077, li_255, li_65535, li_m1, li_m2, li_m1000000001, li_m1000000002, li_m1000000003, li_m1000000004, li_m1000000005, li_m1000000006, li_m1000000007, or_true, true_or, or_false, false_or, implies_true, true_implies, false_implies] <;> omega)), by rw [ht]; exact hP9, va_K.moved hW.alike hK9, hD9⟩, hS.F ht⟩) hS.2.2 dX4_advance_178
          · skip
            have tc_10 : ¬ ts.toInt ≤ y4.toInt := fun h => c_10 ((fa_le _ _).mpr h)
            refine lv_aload_n hx hb dX4_advance_143 rfl (lv_at hl 0 rfl) ?_
            refine va_get (D := (dC, dI)) (ci := 2) (v := .ref eh) (C := RX4) (T := TX4) (N := 6) hx hb hts inX4 hown hK hP 0 rfl rfl 0 (by decide) (hts _ (List.mem_of_getElem? (i := 3) rfl)) (fun _ h9 => h9) rfl dX4_advance_144 ?_
            refine va_getN (D := (dC, dI)) (ci := 5) (v := .ref q0) (C := RX7) (T := TX7) (N := 2) hx hb hts inX7 hown hK hP 1 rfl rfl 1 (by decide) (ev_nest hev 18 rfl) (fun _ h9 => h9) rfl dX4_advance_147 ?_
            refine lv_aload_n hx hb dX4_advance_150 rfl (lv_at hl 0 rfl) ?_
            refine va_get (D := (dC, dI)) (ci := 2) (v := .int y4) (C := RX4) (T := TX4) (N := 6) hx hb hts inX4 hown hK hP 0 rfl rfl 4 (by decide) (hts _ (List.mem_of_getElem? (i := 1) rfl)) (fun _ h9 => h9) rfl dX4_advance_151 ?_
            refine va_iald hx hb hK hP 2 0 rfl rfl (vp_in_iff.mpr ⟨by omega, by omega⟩) dX4_advance_154 ?_
            refine lv_topi (fun n_11 en_11 => ?_)
            clear en_11
            have hPc := hP.sub (ws' := []) [] rfl
            have hKc := hK.sub (tys' := []) [] rfl
            refine vp_callSi (W.runS (As := [.int n_11]) (rest := []) ⟨hx, hb, hml, hown, hts⟩ (q_sortOf l dC dI ad n_11 ) (va_cwS 1 hts g_q_advance_q_sortOf_53 rfl rfl rfl (by decide +kernel) ⟨(Nat.le_of_ble_eq_true rfl), (Nat.le_of_ble_eq_true rfl)⟩) ⟨preS_blind, fun U hU hW => ⟨rfl, preS_at hU hW hPc hKc hev⟩⟩ rfl rfl hl.1 rfl (lv_room (Nat.le_of_ble_eq_true rfl)) dX4_advance_155 ⟨(Nat.le_of_ble_eq_true rfl), (Nat.le_of_ble_eq_true rfl)⟩) (fun r_12 hw => ?_)
            refine lv_aload_n hx hb dX4_advance_158 rfl (lv_at hl 0 rfl) ?_
            refine va_get (D := (dC, dI)) (ci := 2) (v := .int r_5) (C := RX4) (T := TX4) (N := 6) hx hb hts inX4 hown hK hP 0 rfl rfl 2 (by decide) (hts _ (List.mem_of_getElem? (i := 8) rfl)) (fun _ h9 => h9) rfl dX4_advance_159 ?_
            have rc_13_x := pp_rng r_12
            have rc_13_y := pp_rng r_5
            refine lv_icmp_ne (tgt := 178) hx hb dX4_advance_162 (by decide) (fun c_13 => ?_) (fun c_13 => ?_)
            · skip
              have tc_13 : ¬ r_12.toInt = r_5.toInt := fun h => c_13 ((fa_eq _ _).mpr h)
              have hP9 := hP.sub (ws' := [(h0, .inr (2, [.ref eh, .ref dh, .int r_5, .int y3, .int y4, .long dr])), (eh, .inr (5, [.int ts, .ref q0])), (q0, .inl (c0, 120, .inl f0))]) [0, 1, 2] rfl
              have hD9 := hD.sub (ws' := [(h0, .inr (2, [.ref eh, .ref dh, .int r_5, .int y3, .int y4, .long dr])), (eh, .inr (5, [.int ts, .ref q0])), (q0, .inl (c0, 120, .inl f0))]) [0, 1, 2] (by decide) rfl
              have hK9 := hK.sub (tys' := [(c0, .int)]) [0] rfl
              exact W.vret hx hb hr (fun t ht hW => ⟨⟨(), rfl, trivial, r_5, y3, y4, (by first | omega | decide | (simp only [fa_lt, fa_le, fa_eq, and_true, true_and, and_false, false_and, not_true_eq_false, not_false_eq_true, li_0, li_1, li_2, li_3, li_4, li_5, li_6, li_7, li_8, li_9, li_10, li_12, li_15, li_16, li_20, li_30, li_34, li_38, li_40, li_63, li_64, li_65, li_78, li_120, li_1000, li_4000, li_10000, li_11077, li_255, li_65535, li_m1, li_m2, li_m1000000001, li_m1000000002, li_m1000000003, li_m1000000004, li_m1000000005, li_m1000000006, li_m1000000007, or_true, true_or, or_false, false_or, implies_true, true_implies, false_implies] <;> omega)), by rw [ht]; exact hP9, va_K.moved hW.alike hK9, hD9⟩, hS.F ht⟩) hS.2.2 dX4_advance_178
            · skip
              have tc_13 : r_12.toInt = r_5.toInt := (fa_eq _ _).mp c_13
              refine lv_aload_n hx hb dX4_advance_165 rfl (lv_at hl 0 rfl) ?_
              refine lv_dup hx hb dX4_advance_166 rfl ?_
              refine va_get (D := (dC, dI)) (ci := 2) (v := .int y4) (C := RX4) (T := TX4) (N := 6) hx hb hts inX4 hown hK hP 0 rfl rfl 4 (by decide) (hts _ (List.mem_of_getElem? (i := 1) rfl)) (fun _ h9 => h9) rfl dX4_advance_167 ?_
              refine lv_iconst (v := 1) hx hb dX4_advance_170 (by decide) ?_
              refine lv_iadd hx hb dX4_advance_171 ?_
              refine lv_topi (fun n_14 en_14 => ?_)
              have tn_14 : n_14.toInt = y4.toInt + 1 := pp_add en_14 rfl rfl (by omega) (by omega)
              clear en_14
              refine va_put (D := (dC, dI)) (ci := 2) (v := .int n_14) (ty := .int) (C := RX4) (T := TX4) (N := 6) hx hb hts inX4 tyX4 tyX4_ok nmX4 hown hK hP hD hS 0 rfl rfl 4 (by decide) (hts _ (List.mem_of_getElem? (i := 1) rfl)) (fun _ h9 => h9) rfl (by decide +kernel) rfl rfl (Nat.le_of_ble_eq_true rfl) dX4_advance_172 (fun H locs hP hD hS => ?_)
              have hP : va_P (dC, dI) vwCl [(h0, .inr (2, [.ref eh, .ref dh, .int r_5, .int y3, .int n_14, .long dr])), (eh, .inr (5, [.int ts, .ref q0])), (q0, .inl (c0, 120, .inl f0))] H := hP
              have hD : va_D A [(h0, .inr (2, [.ref eh, .ref dh, .int r_5, .int y3, .int n_14, .long dr])), (eh, .inr (5, [.int ts, .ref q0])), (q0, .inl (c0, 120, .inl f0))] := hD
              refine lv_goto (tgt := 129) hx hb dX4_advance_175 (by decide) ?_
              exact ihk_9 n_14 _ _ _ (by show (ts.toInt - n_14.toInt).toNat < k_9; omega) ⟨(by first | omega | decide | (simp only [fa_lt, fa_le, fa_eq, and_true, true_and, and_false, false_and, not_true_eq_false, not_false_eq_true, li_0, li_1, li_2, li_3, li_4, li_5, li_6, li_7, li_8, li_9, li_10, li_12, li_15, li_16, li_20, li_30, li_34, li_38, li_40, li_63, li_64, li_65, li_78, li_120, li_1000, li_4000, li_10000, li_11077, li_255, li_65535, li_m1, li_m2, li_m1000000001, li_m1000000002, li_m1000000003, li_m1000000004, li_m1000000005, li_m1000000006, li_m1000000007, or_true, true_or, or_false, false_or, implies_true, true_implies, false_implies] <;> omega)), hP.sub [0, 1, 2] rfl, hD.sub [0, 1, 2] (by decide) rfl, hS, lv_sub hl [0] rfl⟩
        · skip
          have tc_8 : r_5.toInt = 6 := (fa_eq _ _).mp c_8
          have hP9 := hP.sub (ws' := [(h0, .inr (2, [.ref eh, .ref dh, .int r_5, .int y3, .int n_6, .long dr])), (eh, .inr (5, [.int ts, .ref q0])), (q0, .inl (c0, 120, .inl f0))]) [0, 1, 2] rfl
          have hD9 := hD.sub (ws' := [(h0, .inr (2, [.ref eh, .ref dh, .int r_5, .int y3, .int n_6, .long dr])), (eh, .inr (5, [.int ts, .ref q0])), (q0, .inl (c0, 120, .inl f0))]) [0, 1, 2] (by decide) rfl
          have hK9 := hK.sub (tys' := [(c0, .int)]) [0] rfl
          exact W.vret hx hb hr (fun t ht hW => ⟨⟨(), rfl, trivial, r_5, y3, n_6, (by first | omega | decide | (simp only [fa_lt, fa_le, fa_eq, and_true, true_and, and_false, false_and, not_true_eq_false, not_false_eq_true, li_0, li_1, li_2, li_3, li_4, li_5, li_6, li_7, li_8, li_9, li_10, li_12, li_15, li_16, li_20, li_30, li_34, li_38, li_40, li_63, li_64, li_65, li_78, li_120, li_1000, li_4000, li_10000, li_11077, li_255, li_65535, li_m1, li_m2, li_m1000000001, li_m1000000002, li_m1000000003, li_m1000000004, li_m1000000005, li_m1000000006, li_m1000000007, or_true, true_or, or_false, false_or, implies_true, true_implies, false_implies] <;> omega)), by rw [ht]; exact hP9, va_K.moved hW.alike hK9, hD9⟩, hS.F ht⟩) hS.2.2 dX4_advance_128
    · skip
      have tc_3 : ¬ y3.toInt < ts.toInt := fun h => c_3 ((fa_lt _ _).mpr h)
      refine lv_aload_n hx hb dX4_advance_76 rfl (lv_at hl 0 rfl) ?_
      refine lv_iconst (v := 0) hx hb dX4_advance_77 (by decide) ?_
      refine va_put (D := (dC, dI)) (ci := 2) (v := .int 0) (ty := .int) (C := RX4) (T := TX4) (N := 6) hx hb hts inX4 tyX4 tyX4_ok nmX4 hown hK hP hD hS 0 rfl rfl 2 (by decide) (hts _ (List.mem_of_getElem? (i := 8) rfl)) (fun _ h9 => h9) rfl (by decide +kernel) rfl rfl (Nat.le_of_ble_eq_true rfl) dX4_advance_78 (fun H locs hP hD hS => ?_)
      have hP : va_P (dC, dI) vwCl [(h0, .inr (2, [.ref eh, .ref dh, .int 0, .int y3, .int y3, .long dr])), (eh, .inr (5, [.int ts, .ref q0])), (q0, .inl (c0, 120, .inl f0))] H := hP
      have hD : va_D A [(h0, .inr (2, [.ref eh, .ref dh, .int 0, .int y3, .int y3, .long dr])), (eh, .inr (5, [.int ts, .ref q0])), (q0, .inl (c0, 120, .inl f0))] := hD
      have hP9 := hP.sub (ws' := [(h0, .inr (2, [.ref eh, .ref dh, .int 0, .int y3, .int y3, .long dr])), (eh, .inr (5, [.int ts, .ref q0])), (q0, .inl (c0, 120, .inl f0))]) [0, 1, 2] rfl
      have hD9 := hD.sub (ws' := [(h0, .inr (2, [.ref eh, .ref dh, .int 0, .int y3, .int y3, .long dr])), (eh, .inr (5, [.int ts, .ref q0])), (q0, .inl (c0, 120, .inl f0))]) [0, 1, 2] (by decide) rfl
      have hK9 := hK.sub (tys' := [(c0, .int)]) [0] rfl
      exact W.vret hx hb hr (fun t ht hW => ⟨⟨(), rfl, trivial, 0, y3, y3, (by first | omega | decide | (simp only [fa_lt, fa_le, fa_eq, and_true, true_and, and_false, false_and, not_true_eq_false, not_false_eq_true, li_0, li_1, li_2, li_3, li_4, li_5, li_6, li_7, li_8, li_9, li_10, li_12, li_15, li_16, li_20, li_30, li_34, li_38, li_40, li_63, li_64, li_65, li_78, li_120, li_1000, li_4000, li_10000, li_11077, li_255, li_65535, li_m1, li_m2, li_m1000000001, li_m1000000002, li_m1000000003, li_m1000000004, li_m1000000005, li_m1000000006, li_m1000000007, or_true, true_or, or_false, false_or, implies_true, true_implies, false_implies] <;> omega)), by rw [ht]; exact hP9, va_K.moved hW.alike hK9, hD9⟩, hS.F ht⟩) hS.2.2 dX4_advance_81
  · skip
    have tc_2 : ¬ ts.toInt ≤ y3.toInt := fun h => c_2 ((fa_le _ _).mpr h)
    refine lv_aload_n hx hb dX4_advance_22 rfl (lv_at hl 0 rfl) ?_
    refine va_get (D := (dC, dI)) (ci := 2) (v := .ref eh) (C := RX4) (T := TX4) (N := 6) hx hb hts inX4 hown hK hP 0 rfl rfl 0 (by decide) (hts _ (List.mem_of_getElem? (i := 3) rfl)) (fun _ h9 => h9) rfl dX4_advance_23 ?_
    refine va_getN (D := (dC, dI)) (ci := 5) (v := .ref q0) (C := RX7) (T := TX7) (N := 2) hx hb hts inX7 hown hK hP 1 rfl rfl 1 (by decide) (ev_nest hev 18 rfl) (fun _ h9 => h9) rfl dX4_advance_26 ?_
    refine lv_aload_n hx hb dX4_advance_29 rfl (lv_at hl 0 rfl) ?_
    refine va_get (D := (dC, dI)) (ci := 2) (v := .int y3) (C := RX4) (T := TX4) (N := 6) hx hb hts inX4 hown hK hP 0 rfl rfl 3 (by decide) (hts _ (List.mem_of_getElem? (i := 2) rfl)) (fun _ h9 => h9) rfl dX4_advance_30 ?_
    refine va_iald hx hb hK hP 2 0 rfl rfl (vp_in_iff.mpr ⟨by omega, by omega⟩) dX4_advance_33 ?_
    refine lv_topi (fun n_15 en_15 => ?_)
    clear en_15
    have hPc := hP.sub (ws' := []) [] rfl
    have hKc := hK.sub (tys' := []) [] rfl
    refine vp_callSi (W.runS (As := [.int n_15]) (rest := []) ⟨hx, hb, hml, hown, hts⟩ (q_sortOf l dC dI ad n_15 ) (va_cwS 1 hts g_q_advance_q_sortOf_53 rfl rfl rfl (by decide +kernel) ⟨(Nat.le_of_ble_eq_true rfl), (Nat.le_of_ble_eq_true rfl)⟩) ⟨preS_blind, fun U hU hW => ⟨rfl, preS_at hU hW hPc hKc hev⟩⟩ rfl rfl hl.1 rfl (lv_room (Nat.le_of_ble_eq_true rfl)) dX4_advance_34 ⟨(Nat.le_of_ble_eq_true rfl), (Nat.le_of_ble_eq_true rfl)⟩) (fun r_16 hw => ?_)
    refine lv_iconst (v := 5) hx hb dX4_advance_37 (by decide) ?_
    refine lv_icmp_ne (tgt := 54) hx hb dX4_advance_38 (by decide) (fun c_17 => ?_) (fun c_17 => ?_)
    · skip
      have tc_17 : ¬ r_16.toInt = 5 := fun h => c_17 ((fa_eq _ _).mpr h)
      refine lv_aload_n hx hb dX4_advance_54 rfl (lv_at hl 0 rfl) ?_
      refine lv_aload_n hx hb dX4_advance_55 rfl (lv_at hl 0 rfl) ?_
      refine va_get (D := (dC, dI)) (ci := 2) (v := .int y3) (C := RX4) (T := TX4) (N := 6) hx hb hts inX4 hown hK hP 0 rfl rfl 3 (by decide) (hts _ (List.mem_of_getElem? (i := 2) rfl)) (fun _ h9 => h9) rfl dX4_advance_56 ?_
      refine va_put (D := (dC, dI)) (ci := 2) (v := .int y3) (ty := .int) (C := RX4) (T := TX4) (N := 6) hx hb hts inX4 tyX4 tyX4_ok nmX4 hown hK hP hD hS 0 rfl rfl 4 (by decide) (hts _ (List.mem_of_getElem? (i := 1) rfl)) (fun _ h9 => h9) rfl (by decide +kernel) rfl rfl (Nat.le_of_ble_eq_true rfl) dX4_advance_59 (fun H locs hP hD hS => ?_)
      have hP : va_P (dC, dI) vwCl [(h0, .inr (2, [.ref eh, .ref dh, .int tk, .int y3, .int y3, .long dr])), (eh, .inr (5, [.int ts, .ref q0])), (q0, .inl (c0, 120, .inl f0))] H := hP
      have hD : va_D A [(h0, .inr (2, [.ref eh, .ref dh, .int tk, .int y3, .int y3, .long dr])), (eh, .inr (5, [.int ts, .ref q0])), (q0, .inl (c0, 120, .inl f0))] := hD
      refine lv_aload_n hx hb dX4_advance_62 rfl (lv_at hl 0 rfl) ?_
      refine va_get (D := (dC, dI)) (ci := 2) (v := .int y3) (C := RX4) (T := TX4) (N := 6) hx hb hts inX4 hown hK hP 0 rfl rfl 3 (by decide) (hts _ (List.mem_of_getElem? (i := 2) rfl)) (fun _ h9 => h9) rfl dX4_advance_63 ?_
      refine lv_aload_n hx hb dX4_advance_66 rfl (lv_at hl 0 rfl) ?_
      refine va_get (D := (dC, dI)) (ci := 2) (v := .ref eh) (C := RX4) (T := TX4) (N := 6) hx hb hts inX4 hown hK hP 0 rfl rfl 0 (by decide) (hts _ (List.mem_of_getElem? (i := 3) rfl)) (fun _ h9 => h9) rfl dX4_advance_67 ?_
      refine va_getN (D := (dC, dI)) (ci := 5) (v := .int ts) (C := RX7) (T := TX7) (N := 2) hx hb hts inX7 hown hK hP 1 rfl rfl 0 (by decide) (ev_nest hev 16 rfl) (fun _ h9 => h9) rfl dX4_advance_70 ?_
      have rc_18_x := pp_rng y3
      have rc_18_y := pp_rng ts
      refine lv_icmp_lt (tgt := 82) hx hb dX4_advance_73 (by decide) (fun c_18 => ?_) (fun c_18 => ?_)
      · skip
        have tc_18 : y3.toInt < ts.toInt := (fa_lt _ _).mp c_18
        refine lv_aload_n hx hb dX4_advance_82 rfl (lv_at hl 0 rfl) ?_
        refine lv_aload_n hx hb dX4_advance_83 rfl (lv_at hl 0 rfl) ?_
        refine va_get (D := (dC, dI)) (ci := 2) (v := .ref eh) (C := RX4) (T := TX4) (N := 6) hx hb hts inX4 hown hK hP 0 rfl rfl 0 (by decide) (hts _ (List.mem_of_getElem? (i := 3) rfl)) (fun _ h9 => h9) rfl dX4_advance_84 ?_
        refine va_getN (D := (dC, dI)) (ci := 5) (v := .ref q0) (C := RX7) (T := TX7) (N := 2) hx hb hts inX7 hown hK hP 1 rfl rfl 1 (by decide) (ev_nest hev 18 rfl) (fun _ h9 => h9) rfl dX4_advance_87 ?_
        refine lv_aload_n hx hb dX4_advance_90 rfl (lv_at hl 0 rfl) ?_
        refine va_get (D := (dC, dI)) (ci := 2) (v := .int y3) (C := RX4) (T := TX4) (N := 6) hx hb hts inX4 hown hK hP 0 rfl rfl 3 (by decide) (hts _ (List.mem_of_getElem? (i := 2) rfl)) (fun _ h9 => h9) rfl dX4_advance_91 ?_
        refine va_iald hx hb hK hP 2 0 rfl rfl (vp_in_iff.mpr ⟨by omega, by omega⟩) dX4_advance_94 ?_
        refine lv_topi (fun n_19 en_19 => ?_)
        clear en_19
        have hPc := hP.sub (ws' := []) [] rfl
        have hKc := hK.sub (tys' := []) [] rfl
        refine vp_callSi (W.runS (As := [.int n_19]) (rest := [.ref h0]) ⟨hx, hb, hml, hown, hts⟩ (q_sortOf l dC dI ad n_19 ) (va_cwS 1 hts g_q_advance_q_sortOf_53 rfl rfl rfl (by decide +kernel) ⟨(Nat.le_of_ble_eq_true rfl), (Nat.le_of_ble_eq_true rfl)⟩) ⟨preS_blind, fun U hU hW => ⟨rfl, preS_at hU hW hPc hKc hev⟩⟩ rfl rfl hl.1 rfl (lv_room (Nat.le_of_ble_eq_true rfl)) dX4_advance_95 ⟨(Nat.le_of_ble_eq_true rfl), (Nat.le_of_ble_eq_true rfl)⟩) (fun r_20 hw => ?_)
        refine va_put (D := (dC, dI)) (ci := 2) (v := .int r_20) (ty := .int) (C := RX4) (T := TX4) (N := 6) hx hb hts inX4 tyX4 tyX4_ok nmX4 hown hK hP hD hS 0 rfl rfl 2 (by decide) (hts _ (List.mem_of_getElem? (i := 8) rfl)) (fun _ h9 => h9) rfl (by decide +kernel) rfl rfl (Nat.le_of_ble_eq_true rfl) dX4_advance_98 (fun H locs hP hD hS => ?_)
        have hP : va_P (dC, dI) vwCl [(h0, .inr (2, [.ref eh, .ref dh, .int r_20, .int y3, .int y3, .long dr])), (eh, .inr (5, [.int ts, .ref q0])), (q0, .inl (c0, 120, .inl f0))] H := hP
        have hD : va_D A [(h0, .inr (2, [.ref eh, .ref dh, .int r_20, .int y3, .int y3, .long dr])), (eh, .inr (5, [.int ts, .ref q0])), (q0, .inl (c0, 120, .inl f0))] := hD
        refine lv_aload_n hx hb dX4_advance_101 rfl (lv_at hl 0 rfl) ?_
        refine lv_dup hx hb dX4_advance_102 rfl ?_
        refine va_get (D := (dC, dI)) (ci := 2) (v := .int y3) (C := RX4) (T := TX4) (N := 6) hx hb hts inX4 hown hK hP 0 rfl rfl 4 (by decide) (hts _ (List.mem_of_getElem? (i := 1) rfl)) (fun _ h9 => h9) rfl dX4_advance_103 ?_
        refine lv_iconst (v := 1) hx hb dX4_advance_106 (by decide) ?_
        refine lv_iadd hx hb dX4_advance_107 ?_
        refine lv_topi (fun n_21 en_21 => ?_)
        have tn_21 : n_21.toInt = y3.toInt + 1 := pp_add en_21 rfl rfl (by omega) (by omega)
        clear en_21
        refine va_put (D := (dC, dI)) (ci := 2) (v := .int n_21) (ty := .int) (C := RX4) (T := TX4) (N := 6) hx hb hts inX4 tyX4 tyX4_ok nmX4 hown hK hP hD hS 0 rfl rfl 4 (by decide) (hts _ (List.mem_of_getElem? (i := 1) rfl)) (fun _ h9 => h9) rfl (by decide +kernel) rfl rfl (Nat.le_of_ble_eq_true rfl) dX4_advance_108 (fun H locs hP hD hS => ?_)
        have hP : va_P (dC, dI) vwCl [(h0, .inr (2, [.ref eh, .ref dh, .int r_20, .int y3, .int n_21, .long dr])), (eh, .inr (5, [.int ts, .ref q0])), (q0, .inl (c0, 120, .inl f0))] H := hP
        have hD : va_D A [(h0, .inr (2, [.ref eh, .ref dh, .int r_20, .int y3, .int n_21, .long dr])), (eh, .inr (5, [.int ts, .ref q0])), (q0, .inl (c0, 120, .inl f0))] := hD
        refine lv_aload_n hx hb dX4_advance_111 rfl (lv_at hl 0 rfl) ?_
        refine va_get (D := (dC, dI)) (ci := 2) (v := .int r_20) (C := RX4) (T := TX4) (N := 6) hx hb hts inX4 hown hK hP 0 rfl rfl 2 (by decide) (hts _ (List.mem_of_getElem? (i := 8) rfl)) (fun _ h9 => h9) rfl dX4_advance_112 ?_
        refine lv_iconst (v := 4) hx hb dX4_advance_115 (by decide) ?_
        refine lv_icmp_eq (tgt := 128) hx hb dX4_advance_116 (by decide) (fun c_22 => ?_) (fun c_22 => ?_)
        · skip
          have tc_22 : r_20.toInt = 4 := (fa_eq _ _).mp c_22
          have hP9 := hP.sub (ws' := [(h0, .inr (2, [.ref eh, .ref dh, .int r_20, .int y3, .int n_21, .long dr])), (eh, .inr (5, [.int ts, .ref q0])), (q0, .inl (c0, 120, .inl f0))]) [0, 1, 2] rfl
          have hD9 := hD.sub (ws' := [(h0, .inr (2, [.ref eh, .ref dh, .int r_20, .int y3, .int n_21, .long dr])), (eh, .inr (5, [.int ts, .ref q0])), (q0, .inl (c0, 120, .inl f0))]) [0, 1, 2] (by decide) rfl
          have hK9 := hK.sub (tys' := [(c0, .int)]) [0] rfl
          exact W.vret hx hb hr (fun t ht hW => ⟨⟨(), rfl, trivial, r_20, y3, n_21, (by first | omega | decide | (simp only [fa_lt, fa_le, fa_eq, and_true, true_and, and_false, false_and, not_true_eq_false, not_false_eq_true, li_0, li_1, li_2, li_3, li_4, li_5, li_6, li_7, li_8, li_9, li_10, li_12, li_15, li_16, li_20, li_30, li_34, li_38, li_40, li_63, li_64, li_65, li_78, li_120, li_1000, li_4000, li_10000, li_11077, li_255, li_65535, li_m1, li_m2, li_m1000000001, li_m1000000002, li_m1000000003, li_m1000000004, li_m1000000005, li_m1000000006, li_m1000000007, or_true, true_or, or_false, false_or, implies_true, true_implies, false_implies] <;> omega)), by rw [ht]; exact hP9, va_K.moved hW.alike hK9, hD9⟩, hS.F ht⟩) hS.2.2 dX4_advance_128
        · skip
          have tc_22 : ¬ r_20.toInt = 4 := fun h => c_22 ((fa_eq _ _).mpr h)
          refine lv_aload_n hx hb dX4_advance_119 rfl (lv_at hl 0 rfl) ?_
          refine va_get (D := (dC, dI)) (ci := 2) (v := .int r_20) (C := RX4) (T := TX4) (N := 6) hx hb hts inX4 hown hK hP 0 rfl rfl 2 (by decide) (hts _ (List.mem_of_getElem? (i := 8) rfl)) (fun _ h9 => h9) rfl dX4_advance_120 ?_
          refine lv_bipush (v := 6) hx hb dX4_advance_123 (by decide) ?_
          refine lv_icmp_ne (tgt := 129) hx hb dX4_advance_125 (by decide) (fun c_23 => ?_) (fun c_23 => ?_)
          · skip
            have tc_23 : ¬ r_20.toInt = 6 := fun h => c_23 ((fa_eq _ _).mpr h)
            refine pp_loop (ι := Int32) (fun y4 => (ts.toInt - y4.toInt).toNat) (fun y4 H locs ls => (y3.toInt ≤ y4.toInt ∧ y4.toInt ≤ ts.toInt) ∧ va_P (dC, dI) vwCl [(h0, .inr (2, [.ref eh, .ref dh, .int r_20, .int y3, .int y4, .long dr])), (eh, .inr (5, [.int ts, .ref q0])), (q0, .inl (c0, 120, .inl f0))] H ∧ va_D A [(h0, .inr (2, [.ref eh, .ref dh, .int r_20, .int y3, .int y4, .long dr])), (eh, .inr (5, [.int ts, .ref q0])), (q0, .inl (c0, 120, .inl f0))] ∧ va_S A s.heap H locs ∧ lv_has ls 1 [(0, .ref h0)]) ?_ n_21 _ _ _ ⟨(by first | omega | decide | (simp only [fa_lt, fa_le, fa_eq, and_true, true_and, and_false, false_and, not_true_eq_false, not_false_eq_true, li_0, li_1, li_2, li_3, li_4, li_5, li_6, li_7, li_8, li_9, li_10, li_12, li_15, li_16, li_20, li_30, li_34, li_38, li_40, li_63, li_64, li_65, li_78, li_120, li_1000, li_4000, li_10000, li_11077, li_255, li_65535, li_m1, li_m2, li_m1000000001, li_m1000000002, li_m1000000003, li_m1000000004, li_m1000000005, li_m1000000006, li_m1000000007, or_true, true_or, or_false, false_or, implies_true, true_implies, false_implies] <;> omega)), hP.sub [0, 1, 2] rfl, hD.sub [0, 1, 2] (by decide) rfl, hS, lv_sub hl [0] rfl⟩
            intro k_24 ihk_24 u H locs ls hm hI
            obtain ⟨y4, rfl⟩ : ∃ z, z = u := ⟨_, rfl⟩
            obtain ⟨jk_24_0, hP, hD, hS, hl⟩ := hI
            have hmk_24 : (ts.toInt - y4.toInt).toNat < k_24 + 1 := hm
            clear hm
            have jk_24_0 : y3.toInt ≤ y4.toInt ∧ y4.toInt ≤ ts.toInt := jk_24_0
            have hl : lv_has ls 1 [(0, .ref h0)] := hl
            have hP : va_P (dC, dI) vwCl [(h0, .inr (2, [.ref eh, .ref dh, .int r_20, .int y3, .int y4, .long dr])), (eh, .inr (5, [.int ts, .ref q0])), (q0, .inl (c0, 120, .inl f0))] H := hP
            have hD : va_D A [(h0, .inr (2, [.ref eh, .ref dh, .int r_20, .int y3, .int y4, .long dr])), (eh, .inr (5, [.int ts, .ref q0])), (q0, .inl (c0, 120, .inl f0))] := hD
            refine lv_aload_n hx hb dX4_advance_129 rfl (lv_at hl 0 rfl) ?_
            refine va_get (D := (dC, dI)) (ci := 2) (v := .int y4) (C := RX4) (T := TX4) (N := 6) hx hb hts inX4 hown hK hP 0 rfl rfl 4 (by decide) (hts _ (List.mem_of_getElem? (i := 1) rfl)) (fun _ h9 => h9) rfl dX4_advance_130 ?_
            refine lv_aload_n hx hb dX4_advance_133 rfl (lv_at hl 0 rfl) ?_
            refine va_get (D := (dC, dI)) (ci := 2) (v := .ref eh) (C := RX4) (T := TX4) (N := 6) hx hb hts inX4 hown hK hP 0 rfl rfl 0 (by decide) (hts _ (List.mem_of_getElem? (i := 3) rfl)) (fun _ h9 => h9) rfl dX4_advance_134 ?_
            refine va_getN (D := (dC, dI)) (ci := 5) (v := .int ts) (C := RX7) (T := TX7) (N := 2) hx hb hts inX7 hown hK hP 1 rfl rfl 0 (by decide) (ev_nest hev 16 rfl) (fun _ h9 => h9) rfl dX4_advance_137 ?_
            have rc_25_x := pp_rng y4
            have rc_25_y := pp_rng ts
            refine lv_icmp_ge (tgt := 178) hx hb dX4_advance_140 (by decide) (fun c_25 => ?_) (fun c_25 => ?_)
            · skip
              have tc_25 : ts.toInt ≤ y4.toInt := (fa_le _ _).mp c_25
              have hP9 := hP.sub (ws' := [(h0, .inr (2, [.ref eh, .ref dh, .int r_20, .int y3, .int y4, .long dr])), (eh, .inr (5, [.int ts, .ref q0])), (q0, .inl (c0, 120, .inl f0))]) [0, 1, 2] rfl
              have hD9 := hD.sub (ws' := [(h0, .inr (2, [.ref eh, .ref dh, .int r_20, .int y3, .int y4, .long dr])), (eh, .inr (5, [.int ts, .ref q0])), (q0, .inl (c0, 120, .inl f0))]) [0, 1, 2] (by decide) rfl
              have hK9 := hK.sub (tys' := [(c0, .int)]) [0] rfl
              exact W.vret hx hb hr (fun t ht hW => ⟨⟨(), rfl, trivial, r_20, y3, y4, (by first | omega | decide | (simp only [fa_lt, fa_le, fa_eq, and_true, true_and, and_false, false_and, not_true_eq_false, not_false_eq_true, li_0, li_1, li_2, li_3, li_4, li_5, li_6, li_7, li_8, li_9, li_10, li_12, li_15, li_16, li_20, li_30, li_34, li_38, li_40, li_63, li_64, li_65, li_78, li_120, li_1000, li_4000, li_10000, li_11077, li_255, li_65535, li_m1, li_m2, li_m1000000001, li_m1000000002, li_m1000000003, li_m1000000004, li_m1000000005, li_m1000000006, li_m1000000007, or_true, true_or, or_false, false_or, implies_true, true_implies, false_implies] <;> omega)), by rw [ht]; exact hP9, va_K.moved hW.alike hK9, hD9⟩, hS.F ht⟩) hS.2.2 dX4_advance_178
            · skip
              have tc_25 : ¬ ts.toInt ≤ y4.toInt := fun h => c_25 ((fa_le _ _).mpr h)
              refine lv_aload_n hx hb dX4_advance_143 rfl (lv_at hl 0 rfl) ?_
              refine va_get (D := (dC, dI)) (ci := 2) (v := .ref eh) (C := RX4) (T := TX4) (N := 6) hx hb hts inX4 hown hK hP 0 rfl rfl 0 (by decide) (hts _ (List.mem_of_getElem? (i := 3) rfl)) (fun _ h9 => h9) rfl dX4_advance_144 ?_
              refine va_getN (D := (dC, dI)) (ci := 5) (v := .ref q0) (C := RX7) (T := TX7) (N := 2) hx hb hts inX7 hown hK hP 1 rfl rfl 1 (by decide) (ev_nest hev 18 rfl) (fun _ h9 => h9) rfl dX4_advance_147 ?_
              refine lv_aload_n hx hb dX4_advance_150 rfl (lv_at hl 0 rfl) ?_
              refine va_get (D := (dC, dI)) (ci := 2) (v := .int y4) (C := RX4) (T := TX4) (N := 6) hx hb hts inX4 hown hK hP 0 rfl rfl 4 (by decide) (hts _ (List.mem_of_getElem? (i := 1) rfl)) (fun _ h9 => h9) rfl dX4_advance_151 ?_
              refine va_iald hx hb hK hP 2 0 rfl rfl (vp_in_iff.mpr ⟨by omega, by omega⟩) dX4_advance_154 ?_
              refine lv_topi (fun n_26 en_26 => ?_)
              clear en_26
              have hPc := hP.sub (ws' := []) [] rfl
              have hKc := hK.sub (tys' := []) [] rfl
              refine vp_callSi (W.runS (As := [.int n_26]) (rest := []) ⟨hx, hb, hml, hown, hts⟩ (q_sortOf l dC dI ad n_26 ) (va_cwS 1 hts g_q_advance_q_sortOf_53 rfl rfl rfl (by decide +kernel) ⟨(Nat.le_of_ble_eq_true rfl), (Nat.le_of_ble_eq_true rfl)⟩) ⟨preS_blind, fun U hU hW => ⟨rfl, preS_at hU hW hPc hKc hev⟩⟩ rfl rfl hl.1 rfl (lv_room (Nat.le_of_ble_eq_true rfl)) dX4_advance_155 ⟨(Nat.le_of_ble_eq_true rfl), (Nat.le_of_ble_eq_true rfl)⟩) (fun r_27 hw => ?_)
              refine lv_aload_n hx hb dX4_advance_158 rfl (lv_at hl 0 rfl) ?_
              refine va_get (D := (dC, dI)) (ci := 2) (v := .int r_20) (C := RX4) (T := TX4) (N := 6) hx hb hts inX4 hown hK hP 0 rfl rfl 2 (by decide) (hts _ (List.mem_of_getElem? (i := 8) rfl)) (fun _ h9 => h9) rfl dX4_advance_159 ?_
              have rc_28_x := pp_rng r_27
              have rc_28_y := pp_rng r_20
              refine lv_icmp_ne (tgt := 178) hx hb dX4_advance_162 (by decide) (fun c_28 => ?_) (fun c_28 => ?_)
              · skip
                have tc_28 : ¬ r_27.toInt = r_20.toInt := fun h => c_28 ((fa_eq _ _).mpr h)
                have hP9 := hP.sub (ws' := [(h0, .inr (2, [.ref eh, .ref dh, .int r_20, .int y3, .int y4, .long dr])), (eh, .inr (5, [.int ts, .ref q0])), (q0, .inl (c0, 120, .inl f0))]) [0, 1, 2] rfl
                have hD9 := hD.sub (ws' := [(h0, .inr (2, [.ref eh, .ref dh, .int r_20, .int y3, .int y4, .long dr])), (eh, .inr (5, [.int ts, .ref q0])), (q0, .inl (c0, 120, .inl f0))]) [0, 1, 2] (by decide) rfl
                have hK9 := hK.sub (tys' := [(c0, .int)]) [0] rfl
                exact W.vret hx hb hr (fun t ht hW => ⟨⟨(), rfl, trivial, r_20, y3, y4, (by first | omega | decide | (simp only [fa_lt, fa_le, fa_eq, and_true, true_and, and_false, false_and, not_true_eq_false, not_false_eq_true, li_0, li_1, li_2, li_3, li_4, li_5, li_6, li_7, li_8, li_9, li_10, li_12, li_15, li_16, li_20, li_30, li_34, li_38, li_40, li_63, li_64, li_65, li_78, li_120, li_1000, li_4000, li_10000, li_11077, li_255, li_65535, li_m1, li_m2, li_m1000000001, li_m1000000002, li_m1000000003, li_m1000000004, li_m1000000005, li_m1000000006, li_m1000000007, or_true, true_or, or_false, false_or, implies_true, true_implies, false_implies] <;> omega)), by rw [ht]; exact hP9, va_K.moved hW.alike hK9, hD9⟩, hS.F ht⟩) hS.2.2 dX4_advance_178
              · skip
                have tc_28 : r_27.toInt = r_20.toInt := (fa_eq _ _).mp c_28
                refine lv_aload_n hx hb dX4_advance_165 rfl (lv_at hl 0 rfl) ?_
                refine lv_dup hx hb dX4_advance_166 rfl ?_
                refine va_get (D := (dC, dI)) (ci := 2) (v := .int y4) (C := RX4) (T := TX4) (N := 6) hx hb hts inX4 hown hK hP 0 rfl rfl 4 (by decide) (hts _ (List.mem_of_getElem? (i := 1) rfl)) (fun _ h9 => h9) rfl dX4_advance_167 ?_
                refine lv_iconst (v := 1) hx hb dX4_advance_170 (by decide) ?_
                refine lv_iadd hx hb dX4_advance_171 ?_
                refine lv_topi (fun n_29 en_29 => ?_)
                have tn_29 : n_29.toInt = y4.toInt + 1 := pp_add en_29 rfl rfl (by omega) (by omega)
                clear en_29
                refine va_put (D := (dC, dI)) (ci := 2) (v := .int n_29) (ty := .int) (C := RX4) (T := TX4) (N := 6) hx hb hts inX4 tyX4 tyX4_ok nmX4 hown hK hP hD hS 0 rfl rfl 4 (by decide) (hts _ (List.mem_of_getElem? (i := 1) rfl)) (fun _ h9 => h9) rfl (by decide +kernel) rfl rfl (Nat.le_of_ble_eq_true rfl) dX4_advance_172 (fun H locs hP hD hS => ?_)
                have hP : va_P (dC, dI) vwCl [(h0, .inr (2, [.ref eh, .ref dh, .int r_20, .int y3, .int n_29, .long dr])), (eh, .inr (5, [.int ts, .ref q0])), (q0, .inl (c0, 120, .inl f0))] H := hP
                have hD : va_D A [(h0, .inr (2, [.ref eh, .ref dh, .int r_20, .int y3, .int n_29, .long dr])), (eh, .inr (5, [.int ts, .ref q0])), (q0, .inl (c0, 120, .inl f0))] := hD
                refine lv_goto (tgt := 129) hx hb dX4_advance_175 (by decide) ?_
                exact ihk_24 n_29 _ _ _ (by show (ts.toInt - n_29.toInt).toNat < k_24; omega) ⟨(by first | omega | decide | (simp only [fa_lt, fa_le, fa_eq, and_true, true_and, and_false, false_and, not_true_eq_false, not_false_eq_true, li_0, li_1, li_2, li_3, li_4, li_5, li_6, li_7, li_8, li_9, li_10, li_12, li_15, li_16, li_20, li_30, li_34, li_38, li_40, li_63, li_64, li_65, li_78, li_120, li_1000, li_4000, li_10000, li_11077, li_255, li_65535, li_m1, li_m2, li_m1000000001, li_m1000000002, li_m1000000003, li_m1000000004, li_m1000000005, li_m1000000006, li_m1000000007, or_true, true_or, or_false, false_or, implies_true, true_implies, false_implies] <;> omega)), hP.sub [0, 1, 2] rfl, hD.sub [0, 1, 2] (by decide) rfl, hS, lv_sub hl [0] rfl⟩
          · skip
            have tc_23 : r_20.toInt = 6 := (fa_eq _ _).mp c_23
            have hP9 := hP.sub (ws' := [(h0, .inr (2, [.ref eh, .ref dh, .int r_20, .int y3, .int n_21, .long dr])), (eh, .inr (5, [.int ts, .ref q0])), (q0, .inl (c0, 120, .inl f0))]) [0, 1, 2] rfl
            have hD9 := hD.sub (ws' := [(h0, .inr (2, [.ref eh, .ref dh, .int r_20, .int y3, .int n_21, .long dr])), (eh, .inr (5, [.int ts, .ref q0])), (q0, .inl (c0, 120, .inl f0))]) [0, 1, 2] (by decide) rfl
            have hK9 := hK.sub (tys' := [(c0, .int)]) [0] rfl
            exact W.vret hx hb hr (fun t ht hW => ⟨⟨(), rfl, trivial, r_20, y3, n_21, (by first | omega | decide | (simp only [fa_lt, fa_le, fa_eq, and_true, true_and, and_false, false_and, not_true_eq_false, not_false_eq_true, li_0, li_1, li_2, li_3, li_4, li_5, li_6, li_7, li_8, li_9, li_10, li_12, li_15, li_16, li_20, li_30, li_34, li_38, li_40, li_63, li_64, li_65, li_78, li_120, li_1000, li_4000, li_10000, li_11077, li_255, li_65535, li_m1, li_m2, li_m1000000001, li_m1000000002, li_m1000000003, li_m1000000004, li_m1000000005, li_m1000000006, li_m1000000007, or_true, true_or, or_false, false_or, implies_true, true_implies, false_implies] <;> omega)), by rw [ht]; exact hP9, va_K.moved hW.alike hK9, hD9⟩, hS.F ht⟩) hS.2.2 dX4_advance_128
      · skip
        have tc_18 : ¬ y3.toInt < ts.toInt := fun h => c_18 ((fa_lt _ _).mpr h)
        refine lv_aload_n hx hb dX4_advance_76 rfl (lv_at hl 0 rfl) ?_
        refine lv_iconst (v := 0) hx hb dX4_advance_77 (by decide) ?_
        refine va_put (D := (dC, dI)) (ci := 2) (v := .int 0) (ty := .int) (C := RX4) (T := TX4) (N := 6) hx hb hts inX4 tyX4 tyX4_ok nmX4 hown hK hP hD hS 0 rfl rfl 2 (by decide) (hts _ (List.mem_of_getElem? (i := 8) rfl)) (fun _ h9 => h9) rfl (by decide +kernel) rfl rfl (Nat.le_of_ble_eq_true rfl) dX4_advance_78 (fun H locs hP hD hS => ?_)
        have hP : va_P (dC, dI) vwCl [(h0, .inr (2, [.ref eh, .ref dh, .int 0, .int y3, .int y3, .long dr])), (eh, .inr (5, [.int ts, .ref q0])), (q0, .inl (c0, 120, .inl f0))] H := hP
        have hD : va_D A [(h0, .inr (2, [.ref eh, .ref dh, .int 0, .int y3, .int y3, .long dr])), (eh, .inr (5, [.int ts, .ref q0])), (q0, .inl (c0, 120, .inl f0))] := hD
        have hP9 := hP.sub (ws' := [(h0, .inr (2, [.ref eh, .ref dh, .int 0, .int y3, .int y3, .long dr])), (eh, .inr (5, [.int ts, .ref q0])), (q0, .inl (c0, 120, .inl f0))]) [0, 1, 2] rfl
        have hD9 := hD.sub (ws' := [(h0, .inr (2, [.ref eh, .ref dh, .int 0, .int y3, .int y3, .long dr])), (eh, .inr (5, [.int ts, .ref q0])), (q0, .inl (c0, 120, .inl f0))]) [0, 1, 2] (by decide) rfl
        have hK9 := hK.sub (tys' := [(c0, .int)]) [0] rfl
        exact W.vret hx hb hr (fun t ht hW => ⟨⟨(), rfl, trivial, 0, y3, y3, (by first | omega | decide | (simp only [fa_lt, fa_le, fa_eq, and_true, true_and, and_false, false_and, not_true_eq_false, not_false_eq_true, li_0, li_1, li_2, li_3, li_4, li_5, li_6, li_7, li_8, li_9, li_10, li_12, li_15, li_16, li_20, li_30, li_34, li_38, li_40, li_63, li_64, li_65, li_78, li_120, li_1000, li_4000, li_10000, li_11077, li_255, li_65535, li_m1, li_m2, li_m1000000001, li_m1000000002, li_m1000000003, li_m1000000004, li_m1000000005, li_m1000000006, li_m1000000007, or_true, true_or, or_false, false_or, implies_true, true_implies, false_implies] <;> omega)), by rw [ht]; exact hP9, va_K.moved hW.alike hK9, hD9⟩, hS.F ht⟩) hS.2.2 dX4_advance_81
    · skip
      have tc_17 : r_16.toInt = 5 := (fa_eq _ _).mp c_17
      refine lv_aload_n hx hb dX4_advance_41 rfl (lv_at hl 0 rfl) ?_
      refine lv_dup hx hb dX4_advance_42 rfl ?_
      refine va_get (D := (dC, dI)) (ci := 2) (v := .int y3) (C := RX4) (T := TX4) (N := 6) hx hb hts inX4 hown hK hP 0 rfl rfl 3 (by decide) (hts _ (List.mem_of_getElem? (i := 2) rfl)) (fun _ h9 => h9) rfl dX4_advance_43 ?_
      refine lv_iconst (v := 1) hx hb dX4_advance_46 (by decide) ?_
      refine lv_iadd hx hb dX4_advance_47 ?_
      refine lv_topi (fun n_30 en_30 => ?_)
      have tn_30 : n_30.toInt = y3.toInt + 1 := pp_add en_30 rfl rfl (by omega) (by omega)
      clear en_30
      refine va_put (D := (dC, dI)) (ci := 2) (v := .int n_30) (ty := .int) (C := RX4) (T := TX4) (N := 6) hx hb hts inX4 tyX4 tyX4_ok nmX4 hown hK hP hD hS 0 rfl rfl 3 (by decide) (hts _ (List.mem_of_getElem? (i := 2) rfl)) (fun _ h9 => h9) rfl (by decide +kernel) rfl rfl (Nat.le_of_ble_eq_true rfl) dX4_advance_48 (fun H locs hP hD hS => ?_)
      have hP : va_P (dC, dI) vwCl [(h0, .inr (2, [.ref eh, .ref dh, .int tk, .int n_30, .int en, .long dr])), (eh, .inr (5, [.int ts, .ref q0])), (q0, .inl (c0, 120, .inl f0))] H := hP
      have hD : va_D A [(h0, .inr (2, [.ref eh, .ref dh, .int tk, .int n_30, .int en, .long dr])), (eh, .inr (5, [.int ts, .ref q0])), (q0, .inl (c0, 120, .inl f0))] := hD
      refine lv_goto (tgt := 8) hx hb dX4_advance_51 (by decide) ?_
      exact ihk_1 n_30 _ _ _ (by show (ts.toInt - n_30.toInt).toNat < k_1; omega) ⟨(by first | omega | decide | (simp only [fa_lt, fa_le, fa_eq, and_true, true_and, and_false, false_and, not_true_eq_false, not_false_eq_true, li_0, li_1, li_2, li_3, li_4, li_5, li_6, li_7, li_8, li_9, li_10, li_12, li_15, li_16, li_20, li_30, li_34, li_38, li_40, li_63, li_64, li_65, li_78, li_120, li_1000, li_4000, li_10000, li_11077, li_255, li_65535, li_m1, li_m2, li_m1000000001, li_m1000000002, li_m1000000003, li_m1000000004, li_m1000000005, li_m1000000006, li_m1000000007, or_true, true_or, or_false, false_or, implies_true, true_implies, false_implies] <;> omega)), hP.sub [0, 1, 2] rfl, hD.sub [0, 1, 2] (by decide) rfl, hS, lv_sub hl [0] rfl⟩

def w_q_isWord : List Cond := .code yX4_isWord cX4_isWord 3 (some .boolean) :: (([.fieldLink RX4 25 "LampShapes$Script" "token" "I", .fieldLink RX4 32 "LampShapes$Script" "end" "I", .fieldLink RX4 29 "LampShapes$Script" "start" "I", .methodLink RX4 57 yJ0_length_8abf5, .instanceMethod yJ0_length_8abf5, .selects RJ0 yJ0_length_8abf5 yJ0_length_8abf5, .initialized RJ0, .code yJ0_length_8abf5 cJ0_length_8abf5 1 (some .int), .fieldLink RJ0 9 "java/lang/String" "value" "[B", .methodLink RJ0 335 yJ0_coder_7d493, .instanceMethod yJ0_coder_7d493, .selects RJ0 yJ0_coder_7d493 yJ0_coder_7d493, .code yJ0_coder_7d493 cJ0_coder_7d493 1 (some .byte), .fieldLink RJ0 38 "java/lang/String" "COMPACT_STRINGS" "Z", .fieldLink RJ0 15 "java/lang/String" "coder" "B", .fieldLink RX4 12 "LampShapes$Script" "tape" "LLampShapes$Tape;", .methodLink RX4 63 yJ0_charAt_5068e, .instanceMethod yJ0_charAt_5068e, .selects RJ0 yJ0_charAt_5068e yJ0_charAt_5068e, .code yJ0_charAt_5068e cJ0_charAt_5068e 2 (some .char), .methodLink RJ0 492 yJ0_isLatin1_aae02, .instanceMethod yJ0_isLatin1_aae02, .selects RJ0 yJ0_isLatin1_aae02 yJ0_isLatin1_aae02, .code yJ0_isLatin1_aae02 cJ0_isLatin1_aae02 1 (some .boolean), .methodLink RJ0 495 yJ1_charAt_3b067, .static yJ1_charAt_3b067, .initialized RJ1, .code yJ1_charAt_3b067 cJ1_charAt_3b067 2 (some .char), .methodLink RJ1 9 yJ0_checkIndex_df160, .static yJ0_checkIndex_df160, .code yJ0_checkIndex_df160 cJ0_checkIndex_df160 2 none, .fieldLink RJ0 1053 "jdk/internal/util/Preconditions" "SIOOBE_FORMATTER" "Ljava/util/function/BiFunction;", .methodLink RJ0 1059 yJ3_checkIndex_8e157, .static yJ3_checkIndex_8e157, .initialized RJ3, .code yJ3_checkIndex_8e157 cJ3_checkIndex_8e157 3 (some .int), .methodLink RJ0 498 yJ2_charAt_3b067, .static yJ2_charAt_3b067, .initialized RJ2, .code yJ2_charAt_3b067 cJ2_charAt_3b067 2 (some .char), .methodLink RJ2 67 yJ2_checkIndex_2214a, .static yJ2_checkIndex_2214a, .code yJ2_checkIndex_2214a cJ2_checkIndex_2214a 2 none, .methodLink RJ2 48 yJ2_length_9d52b, .static yJ2_length_9d52b, .code yJ2_length_9d52b cJ2_length_9d52b 1 (some .int), .methodLink RJ2 414 yJ0_checkIndex_df160, .methodLink RJ2 71 yJ2_getChar_3b067, .static yJ2_getChar_3b067, .code yJ2_getChar_3b067 cJ2_getChar_3b067 2 (some .char), .fieldLink RJ2 44 "java/lang/StringUTF16" "$assertionsDisabled" "Z", .fieldLink RJ2 59 "java/lang/StringUTF16" "HI_BYTE_SHIFT" "I", .fieldLink RJ2 63 "java/lang/StringUTF16" "LO_BYTE_SHIFT" "I"] : List Cond) ++ wsX40 ++ wsX70)
set_option maxRecDepth 20000 in
theorem g_q_isWord_c_length_57 : GoodIn w_q_isWord (wsV RX4 57 RJ0 yJ0_length_8abf5 w_c_length) := goodIn_r _ [4, 5, 6, 7, 8, 9, 10, 11, 12, 7, 13, 14, 15] rfl (by decide +kernel)
set_option maxRecDepth 20000 in
theorem g_q_isWord_c_charAt_63 : GoodIn w_q_isWord (wsV RX4 63 RJ0 yJ0_charAt_5068e w_c_charAt) := goodIn_r _ [17, 18, 19, 7, 20, 9, 21, 22, 23, 7, 24, 14, 15, 25, 26, 27, 28, 29, 30, 31, 32, 33, 34, 35, 36, 37, 38, 39, 40, 41, 42, 43, 44, 45, 46, 47, 48, 49, 50, 51, 52, 53] rfl (by decide +kernel)
set_option maxHeartbeats 4000000 in
set_option maxRecDepth 100000 in
theorem q_isWord (l : Launch) (dC : Nat → ClassId) (dI : Nat → Nat → Nat) (ad : Nat → Nat) (h0 : Nat) (kk : Nat) (eh : Nat) (dh : Nat) (tk : Int32) (stt : Int32) (en : Int32) (dr : Int64) (ts : Int32) (q0 : Nat) (c0 : ClassId) (f0 : Nat → Int32) (hkk : kk < 26) (hts2 : 0 ≤ ts.toInt ∧ ts.toInt ≤ 120) (hse : 0 ≤ stt.toInt ∧ en.toInt ≤ ts.toInt ∧ stt.toInt ≤ en.toInt) : Met l yX4_isWord w_q_isWord ({ frames := 4, cells := 0, slots := 0, locals := 85 } : Room) (va_Pc [.ref h0, .ref (ad kk)] (preST dC dI ad [(c0, .int)] [(h0, .inr (2, [.ref eh, .ref dh, .int tk, .int stt, .int en, .long dr])), (eh, .inr (5, [.int ts, .ref q0])), (q0, .inl (c0, 120, .inl f0))])) (vp_Si (fun r => r.toInt = 0 ∨ r.toInt = 1)) 0 0 (fun _ => False) := by
  refine Met.ofW (cc := cX4_isWord) (maxL := 3) (ret := (some .boolean)) (by decide) rfl ?_
  intro p e s m args below meth c s₁ B hml hv
  obtain ⟨rfl, ⟨hP, hK, hev⟩, hsf⟩ := hv
  have hS : va_S (fun _ => False) s.heap s.heap [] := va_S.rf
  have hx := B.exec
  have hb := B.bytes
  have hr := B.returns
  have hts := atoms_spec (ws := w_q_isWord) B.pre
  have hown : s.vm.findClass RX4 = some m.cls := findClass_of_methodNamed B.named
  have hlocks := B.notSynchronized
  have inX4 : ∀ w ∈ wsX40, w ∈ w_q_isWord := fun w h => List.mem_cons_of_mem _ (List.mem_append_left _ (List.mem_append_right _ h))
  have inX7 : ∀ w ∈ wsX70, w ∈ w_q_isWord := fun w h => List.mem_cons_of_mem _ (List.mem_append_right _ h)
  have hP : va_P (dC, dI) vwCl [(h0, .inr (2, [.ref eh, .ref dh, .int tk, .int stt, .int en, .long dr])), (eh, .inr (5, [.int ts, .ref q0])), (q0, .inl (c0, 120, .inl f0))] s.heap := hP
  have hl := lv_entry ([.ref h0, .ref (ad kk)]) (n := 3) (Nat.le_of_ble_eq_true rfl)
  rw [lg_entry_eq]
  generalize (lg_sl ([.ref h0, .ref (ad kk)]) ++ List.replicate (3 - (lg_sl ([.ref h0, .ref (ad kk)])).length) Slot.unset).toArray = ls at hl ⊢
  have hl : lv_has ls 3 [(0, .ref h0), (1, .ref (ad kk))] := hl
  have hn8 : s_n kk ≤ 8 := s_n_le kk hkk
  refine lv_aload_n hx hb dX4_isWord_0 rfl (lv_at hl 0 rfl) ?_
  refine va_get (D := (dC, dI)) (ci := 2) (v := .int tk) (C := RX4) (T := TX4) (N := 6) hx hb hts inX4 hown hK hP 0 rfl rfl 2 (by decide) (hts _ (List.mem_of_getElem? (i := 1) rfl)) (fun _ h9 => h9) rfl dX4_isWord_1 ?_
  refine lv_iconst (v := 1) hx hb dX4_isWord_4 (by decide) ?_
  refine lv_icmp_ne (tgt := 24) hx hb dX4_isWord_5 (by decide) (fun c_1 => ?_) (fun c_1 => ?_)
  · skip
    have tc_1 : ¬ tk.toInt = 1 := fun h => c_1 ((fa_eq _ _).mpr h)
    refine lv_iconst (v := 0) hx hb dX4_isWord_24 (by decide) ?_
    exact W.zret (v := (0 : Int32)) hx hb hr (by decide) (fun t ht hW => ⟨(0 : Int32), rfl, (by first | omega | decide | (simp only [fa_lt, fa_le, fa_eq, and_true, true_and, and_false, false_and, not_true_eq_false, not_false_eq_true, li_0, li_1, li_2, li_3, li_4, li_5, li_6, li_7, li_8, li_9, li_10, li_12, li_15, li_16, li_20, li_30, li_34, li_38, li_40, li_63, li_64, li_65, li_78, li_120, li_1000, li_4000, li_10000, li_11077, li_255, li_65535, li_m1, li_m2, li_m1000000001, li_m1000000002, li_m1000000003, li_m1000000004, li_m1000000005, li_m1000000006, li_m1000000007, or_true, true_or, or_false, false_or, implies_true, true_implies, false_implies] <;> omega)), ht⟩) (fun _ h => absurd h List.not_mem_nil) dX4_isWord_25
  · skip
    have tc_1 : tk.toInt = 1 := (fa_eq _ _).mp c_1
    refine lv_aload_n hx hb dX4_isWord_8 rfl (lv_at hl 0 rfl) ?_
    refine va_get (D := (dC, dI)) (ci := 2) (v := .int en) (C := RX4) (T := TX4) (N := 6) hx hb hts inX4 hown hK hP 0 rfl rfl 4 (by decide) (hts _ (List.mem_of_getElem? (i := 2) rfl)) (fun _ h9 => h9) rfl dX4_isWord_9 ?_
    refine lv_aload_n hx hb dX4_isWord_12 rfl (lv_at hl 0 rfl) ?_
    refine va_get (D := (dC, dI)) (ci := 2) (v := .int stt) (C := RX4) (T := TX4) (N := 6) hx hb hts inX4 hown hK hP 0 rfl rfl 3 (by decide) (hts _ (List.mem_of_getElem? (i := 3) rfl)) (fun _ h9 => h9) rfl dX4_isWord_13 ?_
    refine lv_isub hx hb dX4_isWord_16 ?_
    refine lv_topi (fun n_2 en_2 => ?_)
    have tn_2 : n_2.toInt = en.toInt - stt.toInt := pp_sub en_2 rfl rfl (by omega) (by omega)
    clear en_2
    refine lv_aload_n hx hb dX4_isWord_17 rfl (lv_at hl 1 rfl) ?_
    have hPc := hP.sub (ws' := []) [] rfl
    have hKc := hK.sub (tys' := []) [] rfl
    refine vp_callSi (W.runV (As := []) (rest := [.int n_2]) ⟨hx, hb, hml, hown, hts⟩ (c_length l dC dI ad kk hkk) (cwV 0 hts g_q_isWord_c_length_57 rfl rfl rfl (by decide +kernel) ⟨(Nat.le_of_ble_eq_true rfl), (Nat.le_of_ble_eq_true rfl)⟩) ⟨preST_blind, sf_recv hsf hS kk hkk, fun U hU hW => ⟨rfl, preS_at hU hW hPc hKc hev, sf_at hsf hS (fun _ h => h.elim) hU hW⟩⟩ rfl rfl hl.1 rfl (lv_room (Nat.le_of_ble_eq_true rfl)) dX4_isWord_18 ⟨(Nat.le_of_ble_eq_true rfl), (Nat.le_of_ble_eq_true rfl)⟩) (fun r_3 hw => ?_)
    have hr_3 : r_3.toInt = (s_n kk : Int) := hw
    have rc_4_x := pp_rng n_2
    have rc_4_y := pp_rng r_3
    refine lv_icmp_eq (tgt := 26) hx hb dX4_isWord_21 (by decide) (fun c_4 => ?_) (fun c_4 => ?_)
    · skip
      have tc_4 : n_2.toInt = r_3.toInt := (fa_eq _ _).mp c_4
      refine lv_iconst (v := 0) hx hb dX4_isWord_26 (by decide) ?_
      refine lv_istore_n (lv' := [(2, .int 0), (0, .ref h0), (1, .ref (ad kk))]) hx hb dX4_isWord_27 rfl hl (by decide) rfl (fun ls hl => ?_)
      refine pp_loop (ι := Int32) (fun v2_28 => ((s_n kk : Int) - v2_28.toInt).toNat) (fun v2_28 H locs ls => (0 ≤ v2_28.toInt ∧ v2_28.toInt ≤ 8) ∧ H = s.heap ∧ locs = [] ∧ lv_has ls 3 [(2, .int v2_28), (0, .ref h0), (1, .ref (ad kk))]) ?_ 0 _ _ _ ⟨(by first | omega | decide | (simp only [fa_lt, fa_le, fa_eq, and_true, true_and, and_false, false_and, not_true_eq_false, not_false_eq_true, li_0, li_1, li_2, li_3, li_4, li_5, li_6, li_7, li_8, li_9, li_10, li_12, li_15, li_16, li_20, li_30, li_34, li_38, li_40, li_63, li_64, li_65, li_78, li_120, li_1000, li_4000, li_10000, li_11077, li_255, li_65535, li_m1, li_m2, li_m1000000001, li_m1000000002, li_m1000000003, li_m1000000004, li_m1000000005, li_m1000000006, li_m1000000007, or_true, true_or, or_false, false_or, implies_true, true_implies, false_implies] <;> omega)), rfl, rfl, lv_sub hl [0, 1, 2] rfl⟩
      intro k_5 ihk_5 u H locs ls hm hI
      obtain ⟨v2_28, rfl⟩ : ∃ z, z = u := ⟨_, rfl⟩
      obtain ⟨jk_5_0, rfl, rfl, hl⟩ := hI
      have hmk_5 : ((s_n kk : Int) - v2_28.toInt).toNat < k_5 + 1 := hm
      clear hm
      have jk_5_0 : 0 ≤ v2_28.toInt ∧ v2_28.toInt ≤ 8 := jk_5_0
      have hl : lv_has ls 3 [(2, .int v2_28), (0, .ref h0), (1, .ref (ad kk))] := hl
      refine lv_iload_n hx hb dX4_isWord_28 rfl (lv_at hl 0 rfl) ?_
      refine lv_aload_n hx hb dX4_isWord_29 rfl (lv_at hl 2 rfl) ?_
      have hPc := hP.sub (ws' := []) [] rfl
      have hKc := hK.sub (tys' := []) [] rfl
      refine vp_callSi (W.runV (As := []) (rest := [.int v2_28]) ⟨hx, hb, hml, hown, hts⟩ (c_length l dC dI ad kk hkk) (cwV 0 hts g_q_isWord_c_length_57 rfl rfl rfl (by decide +kernel) ⟨(Nat.le_of_ble_eq_true rfl), (Nat.le_of_ble_eq_true rfl)⟩) ⟨preST_blind, sf_recv hsf hS kk hkk, fun U hU hW => ⟨rfl, preS_at hU hW hPc hKc hev, sf_at hsf hS (fun _ h => h.elim) hU hW⟩⟩ rfl rfl hl.1 rfl (lv_room (Nat.le_of_ble_eq_true rfl)) dX4_isWord_30 ⟨(Nat.le_of_ble_eq_true rfl), (Nat.le_of_ble_eq_true rfl)⟩) (fun r_6 hw => ?_)
      have hr_6 : r_6.toInt = (s_n kk : Int) := hw
      have rc_7_x := pp_rng v2_28
      have rc_7_y := pp_rng r_6
      refine lv_icmp_ge (tgt := 66) hx hb dX4_isWord_33 (by decide) (fun c_7 => ?_) (fun c_7 => ?_)
      · skip
        have tc_7 : r_6.toInt ≤ v2_28.toInt := (fa_le _ _).mp c_7
        refine lv_iconst (v := 1) hx hb dX4_isWord_66 (by decide) ?_
        exact W.zret (v := (1 : Int32)) hx hb hr (by decide) (fun t ht hW => ⟨(1 : Int32), rfl, (by first | omega | decide | (simp only [fa_lt, fa_le, fa_eq, and_true, true_and, and_false, false_and, not_true_eq_false, not_false_eq_true, li_0, li_1, li_2, li_3, li_4, li_5, li_6, li_7, li_8, li_9, li_10, li_12, li_15, li_16, li_20, li_30, li_34, li_38, li_40, li_63, li_64, li_65, li_78, li_120, li_1000, li_4000, li_10000, li_11077, li_255, li_65535, li_m1, li_m2, li_m1000000001, li_m1000000002, li_m1000000003, li_m1000000004, li_m1000000005, li_m1000000006, li_m1000000007, or_true, true_or, or_false, false_or, implies_true, true_implies, false_implies] <;> omega)), ht⟩) (fun _ h => absurd h List.not_mem_nil) dX4_isWord_67
      · skip
        have tc_7 : ¬ r_6.toInt ≤ v2_28.toInt := fun h => c_7 ((fa_le _ _).mpr h)
        refine lv_aload_n hx hb dX4_isWord_36 rfl (lv_at hl 1 rfl) ?_
        refine va_get (D := (dC, dI)) (ci := 2) (v := .ref eh) (C := RX4) (T := TX4) (N := 6) hx hb hts inX4 hown hK hP 0 rfl rfl 0 (by decide) (hts _ (List.mem_of_getElem? (i := 16) rfl)) (fun _ h9 => h9) rfl dX4_isWord_37 ?_
        refine va_getN (D := (dC, dI)) (ci := 5) (v := .ref q0) (C := RX7) (T := TX7) (N := 2) hx hb hts inX7 hown hK hP 1 rfl rfl 1 (by decide) (ev_nest hev 18 rfl) (fun _ h9 => h9) rfl dX4_isWord_40 ?_
        refine lv_aload_n hx hb dX4_isWord_43 rfl (lv_at hl 1 rfl) ?_
        refine va_get (D := (dC, dI)) (ci := 2) (v := .int stt) (C := RX4) (T := TX4) (N := 6) hx hb hts inX4 hown hK hP 0 rfl rfl 3 (by decide) (hts _ (List.mem_of_getElem? (i := 3) rfl)) (fun _ h9 => h9) rfl dX4_isWord_44 ?_
        refine lv_iload_n hx hb dX4_isWord_47 rfl (lv_at hl 0 rfl) ?_
        refine lv_iadd hx hb dX4_isWord_48 ?_
        refine lv_topi (fun n_8 en_8 => ?_)
        have tn_8 : n_8.toInt = stt.toInt + v2_28.toInt := pp_add en_8 rfl rfl (by omega) (by omega)
        clear en_8
        refine va_iald hx hb hK hP 2 0 rfl rfl (vp_in_iff.mpr ⟨by omega, by omega⟩) dX4_isWord_49 ?_
        refine lv_topi (fun n_9 en_9 => ?_)
        clear en_9
        refine lv_aload_n hx hb dX4_isWord_50 rfl (lv_at hl 2 rfl) ?_
        refine lv_iload_n hx hb dX4_isWord_51 rfl (lv_at hl 0 rfl) ?_
        have hPc := hP.sub (ws' := []) [] rfl
        have hKc := hK.sub (tys' := []) [] rfl
        refine vp_callSi (W.runV (As := [.int v2_28]) (rest := [.int n_9]) ⟨hx, hb, hml, hown, hts⟩ (c_charAt l dC dI ad kk v2_28 hkk (by first | omega | decide | (simp only [fa_lt, fa_le, fa_eq, and_true, true_and, and_false, false_and, not_true_eq_false, not_false_eq_true, li_0, li_1, li_2, li_3, li_4, li_5, li_6, li_7, li_8, li_9, li_10, li_12, li_15, li_16, li_20, li_30, li_34, li_38, li_40, li_63, li_64, li_65, li_78, li_120, li_1000, li_4000, li_10000, li_11077, li_255, li_65535, li_m1, li_m2, li_m1000000001, li_m1000000002, li_m1000000003, li_m1000000004, li_m1000000005, li_m1000000006, li_m1000000007, or_true, true_or, or_false, false_or, implies_true, true_implies, false_implies] <;> omega))) (cwV 1 hts g_q_isWord_c_charAt_63 rfl rfl rfl (by decide +kernel) ⟨(Nat.le_of_ble_eq_true rfl), (Nat.le_of_ble_eq_true rfl)⟩) ⟨preST_blind, sf_recv hsf hS kk hkk, fun U hU hW => ⟨rfl, preS_at hU hW hPc hKc hev, sf_at hsf hS (fun _ h => h.elim) hU hW⟩⟩ rfl rfl hl.1 rfl (lv_room (Nat.le_of_ble_eq_true rfl)) dX4_isWord_52 ⟨(Nat.le_of_ble_eq_true rfl), (Nat.le_of_ble_eq_true rfl)⟩) (fun r_10 hw => ?_)
        have rc_11_x := pp_rng n_9
        have rc_11_y := pp_rng r_10
        refine lv_icmp_eq (tgt := 60) hx hb dX4_isWord_55 (by decide) (fun c_11 => ?_) (fun c_11 => ?_)
        · skip
          have tc_11 : n_9.toInt = r_10.toInt := (fa_eq _ _).mp c_11
          obtain ⟨n_12, en_12⟩ : ∃ y : Int32, y = v2_28 + 1 := ⟨_, rfl⟩
          have tn_12 : n_12.toInt = v2_28.toInt + 1 := pp_add en_12 rfl rfl (by omega) (by omega)
          refine lv_iinc (v := n_12) (lv' := [(2, .int n_12), (0, .ref h0), (1, .ref (ad kk))]) hx hb dX4_isWord_60 hl (k := 0) rfl (by rw [en_12]; rfl) (by decide) rfl (fun ls hl => ?_)
          clear en_12
          refine lv_goto (tgt := 28) hx hb dX4_isWord_63 (by decide) ?_
          exact ihk_5 n_12 _ _ _ (by show ((s_n kk : Int) - n_12.toInt).toNat < k_5; omega) ⟨(by first | omega | decide | (simp only [fa_lt, fa_le, fa_eq, and_true, true_and, and_false, false_and, not_true_eq_false, not_false_eq_true, li_0, li_1, li_2, li_3, li_4, li_5, li_6, li_7, li_8, li_9, li_10, li_12, li_15, li_16, li_20, li_30, li_34, li_38, li_40, li_63, li_64, li_65, li_78, li_120, li_1000, li_4000, li_10000, li_11077, li_255, li_65535, li_m1, li_m2, li_m1000000001, li_m1000000002, li_m1000000003, li_m1000000004, li_m1000000005, li_m1000000006, li_m1000000007, or_true, true_or, or_false, false_or, implies_true, true_implies, false_implies] <;> omega)), rfl, rfl, lv_sub hl [0, 1, 2] rfl⟩
        · skip
          have tc_11 : ¬ n_9.toInt = r_10.toInt := fun h => c_11 ((fa_eq _ _).mpr h)
          refine lv_iconst (v := 0) hx hb dX4_isWord_58 (by decide) ?_
          exact W.zret (v := (0 : Int32)) hx hb hr (by decide) (fun t ht hW => ⟨(0 : Int32), rfl, (by first | omega | decide | (simp only [fa_lt, fa_le, fa_eq, and_true, true_and, and_false, false_and, not_true_eq_false, not_false_eq_true, li_0, li_1, li_2, li_3, li_4, li_5, li_6, li_7, li_8, li_9, li_10, li_12, li_15, li_16, li_20, li_30, li_34, li_38, li_40, li_63, li_64, li_65, li_78, li_120, li_1000, li_4000, li_10000, li_11077, li_255, li_65535, li_m1, li_m2, li_m1000000001, li_m1000000002, li_m1000000003, li_m1000000004, li_m1000000005, li_m1000000006, li_m1000000007, or_true, true_or, or_false, false_or, implies_true, true_implies, false_implies] <;> omega)), ht⟩) (fun _ h => absurd h List.not_mem_nil) dX4_isWord_59
    · skip
      have tc_4 : ¬ n_2.toInt = r_3.toInt := fun h => c_4 ((fa_eq _ _).mpr h)
      refine lv_iconst (v := 0) hx hb dX4_isWord_24 (by decide) ?_
      exact W.zret (v := (0 : Int32)) hx hb hr (by decide) (fun t ht hW => ⟨(0 : Int32), rfl, (by first | omega | decide | (simp only [fa_lt, fa_le, fa_eq, and_true, true_and, and_false, false_and, not_true_eq_false, not_false_eq_true, li_0, li_1, li_2, li_3, li_4, li_5, li_6, li_7, li_8, li_9, li_10, li_12, li_15, li_16, li_20, li_30, li_34, li_38, li_40, li_63, li_64, li_65, li_78, li_120, li_1000, li_4000, li_10000, li_11077, li_255, li_65535, li_m1, li_m2, li_m1000000001, li_m1000000002, li_m1000000003, li_m1000000004, li_m1000000005, li_m1000000006, li_m1000000007, or_true, true_or, or_false, false_or, implies_true, true_implies, false_implies] <;> omega)), ht⟩) (fun _ h => absurd h List.not_mem_nil) dX4_isWord_25

def w_q_passes : List Cond := .code yX4_passes cX4_passes 2 (some .boolean) :: (([.methodLink RX4 76 yX4_isWord, .instanceMethod yX4_isWord, .selects RX4 yX4_isWord yX4_isWord, .initialized RX4, .code yX4_isWord cX4_isWord 3 (some .boolean), .fieldLink RX4 25 "LampShapes$Script" "token" "I", .fieldLink RX4 32 "LampShapes$Script" "end" "I", .fieldLink RX4 29 "LampShapes$Script" "start" "I", .methodLink RX4 57 yJ0_length_8abf5, .instanceMethod yJ0_length_8abf5, .selects RJ0 yJ0_length_8abf5 yJ0_length_8abf5, .initialized RJ0, .code yJ0_length_8abf5 cJ0_length_8abf5 1 (some .int), .fieldLink RJ0 9 "java/lang/String" "value" "[B", .methodLink RJ0 335 yJ0_coder_7d493, .instanceMethod yJ0_coder_7d493, .selects RJ0 yJ0_coder_7d493 yJ0_coder_7d493, .code yJ0_coder_7d493 cJ0_coder_7d493 1 (some .byte), .fieldLink RJ0 38 "java/lang/String" "COMPACT_STRINGS" "Z", .fieldLink RJ0 15 "java/lang/String" "coder" "B", .fieldLink RX4 12 "LampShapes$Script" "tape" "LLampShapes$Tape;", .methodLink RX4 63 yJ0_charAt_5068e, .instanceMethod yJ0_charAt_5068e, .selects RJ0 yJ0_charAt_5068e yJ0_charAt_5068e, .code yJ0_charAt_5068e cJ0_charAt_5068e 2 (some .char), .methodLink RJ0 492 yJ0_isLatin1_aae02, .instanceMethod yJ0_isLatin1_aae02, .selects RJ0 yJ0_isLatin1_aae02 yJ0_isLatin1_aae02, .code yJ0_isLatin1_aae02 cJ0_isLatin1_aae02 1 (some .boolean), .methodLink RJ0 495 yJ1_charAt_3b067, .static yJ1_charAt_3b067, .initialized RJ1, .code yJ1_charAt_3b067 cJ1_charAt_3b067 2 (some .char), .methodLink RJ1 9 yJ0_checkIndex_df160, .static yJ0_checkIndex_df160, .code yJ0_checkIndex_df160 cJ0_checkIndex_df160 2 none, .fieldLink RJ0 1053 "jdk/internal/util/Preconditions" "SIOOBE_FORMATTER" "Ljava/util/function/BiFunction;", .methodLink RJ0 1059 yJ3_checkIndex_8e157, .static yJ3_checkIndex_8e157, .initialized RJ3, .code yJ3_checkIndex_8e157 cJ3_checkIndex_8e157 3 (some .int), .methodLink RJ0 498 yJ2_charAt_3b067, .static yJ2_charAt_3b067, .initialized RJ2, .code yJ2_charAt_3b067 cJ2_charAt_3b067 2 (some .char), .methodLink RJ2 67 yJ2_checkIndex_2214a, .static yJ2_checkIndex_2214a, .code yJ2_checkIndex_2214a cJ2_checkIndex_2214a 2 none, .methodLink RJ2 48 yJ2_length_9d52b, .static yJ2_length_9d52b, .code yJ2_length_9d52b cJ2_length_9d52b 1 (some .int), .methodLink RJ2 414 yJ0_checkIndex_df160, .methodLink RJ2 71 yJ2_getChar_3b067, .static yJ2_getChar_3b067, .code yJ2_getChar_3b067 cJ2_getChar_3b067 2 (some .char), .fieldLink RJ2 44 "java/lang/StringUTF16" "$assertionsDisabled" "Z", .fieldLink RJ2 59 "java/lang/StringUTF16" "HI_BYTE_SHIFT" "I", .fieldLink RJ2 63 "java/lang/StringUTF16" "LO_BYTE_SHIFT" "I", .methodLink RX4 39 yX4_advance, .instanceMethod yX4_advance, .selects RX4 yX4_advance yX4_advance, .code yX4_advance cX4_advance 1 none, .methodLink RX4 53 yX4_sortOf, .static yX4_sortOf, .code yX4_sortOf cX4_sortOf 1 (some .int)] : List Cond) ++ wsX40 ++ wsX70)
set_option maxRecDepth 20000 in
theorem g_q_passes_q_isWord_76 : GoodIn w_q_passes (wsV RX4 76 RX4 yX4_isWord w_q_isWord) := goodIn_r _ [1, 2, 3, 4, 5, 6, 7, 8, 9, 10, 11, 12, 13, 14, 15, 16, 17, 18, 19, 20, 21, 22, 23, 24, 25, 26, 27, 28, 29, 30, 31, 32, 33, 34, 35, 36, 37, 38, 39, 40, 41, 42, 43, 44, 45, 46, 47, 48, 49, 50, 51, 52, 53, 54, 55, 56, 57, 58, 66, 67, 68, 69, 70, 71, 72, 73] rfl (by decide +kernel)
set_option maxRecDepth 20000 in
theorem g_q_passes_q_advance_39 : GoodIn w_q_passes (wsV RX4 39 RX4 yX4_advance w_q_advance) := goodIn_r _ [59, 60, 61, 4, 62, 7, 8, 21, 63, 64, 4, 65, 6, 66, 67, 68, 69, 70, 71, 72, 73] rfl (by decide +kernel)
set_option maxHeartbeats 4000000 in
set_option maxRecDepth 100000 in
theorem q_passes (l : Launch) (dC : Nat → ClassId) (dI : Nat → Nat → Nat) (ad : Nat → Nat) (h0 : Nat) (kk : Nat) (eh : Nat) (dh : Nat) (tk : Int32) (stt : Int32) (en : Int32) (dr : Int64) (ts : Int32) (q0 : Nat) (c0 : ClassId) (f0 : Nat → Int32) (sz : Nat) (hkk : kk < 26) (hts2 : 0 ≤ ts.toInt ∧ ts.toInt ≤ 120) (hse : 0 ≤ stt.toInt ∧ en.toInt ≤ ts.toInt ∧ stt.toInt ≤ en.toInt) : Met l yX4_passes w_q_passes ({ frames := 5, cells := 0, slots := 0, locals := 107 } : Room) (va_Pc [.ref h0, .ref (ad kk)] (preT dC dI ad [(c0, .int)] [(h0, .inr (2, [.ref eh, .ref dh, .int tk, .int stt, .int en, .long dr])), (eh, .inr (5, [.int ts, .ref q0])), (q0, .inl (c0, 120, .inl f0))] sz)) (va_Qi (fun (r : Int32) (_ : Unit) => r.toInt = 0 ∨ r.toInt = 1) (fun _ t => ∃ (tk2 : Int32), ∃ (st2 : Int32), ∃ (en2 : Int32), (0 ≤ st2.toInt ∧ st2.toInt ≤ en2.toInt ∧ en2.toInt ≤ ts.toInt) ∧ va_P (dC, dI) vwCl [(h0, .inr (2, [.ref eh, .ref dh, .int tk2, .int st2, .int en2, .long dr])), (eh, .inr (5, [.int ts, .ref q0])), (q0, .inl (c0, 120, .inl f0))] t.heap ∧ va_K (dC, dI) vwCl [(c0, .int)] t ∧ va_D (va_A [(h0, .inr (2, [.ref eh, .ref dh, .int tk, .int stt, .int en, .long dr])), (eh, .inr (5, [.int ts, .ref q0])), (q0, .inl (c0, 120, .inl f0))] sz) [(h0, .inr (2, [.ref eh, .ref dh, .int tk2, .int st2, .int en2, .long dr])), (eh, .inr (5, [.int ts, .ref q0])), (q0, .inl (c0, 120, .inl f0))]) (va_A [(h0, .inr (2, [.ref eh, .ref dh, .int tk, .int stt, .int en, .long dr])), (eh, .inr (5, [.int ts, .ref q0])), (q0, .inl (c0, 120, .inl f0))] sz)) 0 0 (va_A [(h0, .inr (2, [.ref eh, .ref dh, .int tk, .int stt, .int en, .long dr])), (eh, .inr (5, [.int ts, .ref q0])), (q0, .inl (c0, 120, .inl f0))] sz) := by
  refine Met.ofW (cc := cX4_passes) (maxL := 2) (ret := (some .boolean)) (by decide) rfl ?_
  intro p e s m args below meth c s₁ B hml hv
  obtain ⟨rfl, ⟨hsz, hP, hK, hD0, hev⟩, hsf⟩ := hv
  have hx := B.exec
  have hb := B.bytes
  have hr := B.returns
  have hts := atoms_spec (ws := w_q_passes) B.pre
  have hown : s.vm.findClass RX4 = some m.cls := findClass_of_methodNamed B.named
  have hlocks := B.notSynchronized
  have inX4 : ∀ w ∈ wsX40, w ∈ w_q_passes := fun w h => List.mem_cons_of_mem _ (List.mem_append_left _ (List.mem_append_right _ h))
  have inX7 : ∀ w ∈ wsX70, w ∈ w_q_passes := fun w h => List.mem_cons_of_mem _ (List.mem_append_right _ h)
  subst hsz
  have hD := hD0.self (sz := s.heap.size)
  generalize hAe : va_A [(h0, .inr (2, [.ref eh, .ref dh, .int tk, .int stt, .int en, .long dr])), (eh, .inr (5, [.int ts, .ref q0])), (q0, .inl (c0, 120, .inl f0))] s.heap.size = A at hD hsf ⊢
  have hA : ∀ q : Nat, s.heap.size ≤ q → A q := fun q h => by rw [← hAe]; exact Or.inr h
  have hS : va_S A s.heap s.heap [] := va_S.rf
  have hP : va_P (dC, dI) vwCl [(h0, .inr (2, [.ref eh, .ref dh, .int tk, .int stt, .int en, .long dr])), (eh, .inr (5, [.int ts, .ref q0])), (q0, .inl (c0, 120, .inl f0))] s.heap := hP
  have hl := lv_entry ([.ref h0, .ref (ad kk)]) (n := 2) (Nat.le_of_ble_eq_true rfl)
  rw [lg_entry_eq]
  generalize (lg_sl ([.ref h0, .ref (ad kk)]) ++ List.replicate (2 - (lg_sl ([.ref h0, .ref (ad kk)])).length) Slot.unset).toArray = ls at hl ⊢
  have hl : lv_has ls 2 [(0, .ref h0), (1, .ref (ad kk))] := hl
  refine lv_aload_n hx hb dX4_passes_0 rfl (lv_at hl 0 rfl) ?_
  refine lv_aload_n hx hb dX4_passes_1 rfl (lv_at hl 1 rfl) ?_
  have hPc := hP.sub (ws' := [(h0, .inr (2, [.ref eh, .ref dh, .int tk, .int stt, .int en, .long dr])), (eh, .inr (5, [.int ts, .ref q0])), (q0, .inl (c0, 120, .inl f0))]) [0, 1, 2] rfl
  have hKc := hK.sub (tys' := [(c0, .int)]) [0] rfl
  refine vp_callSi (W.runV (As := [.ref (ad kk)]) (rest := []) ⟨hx, hb, hml, hown, hts⟩ (q_isWord l dC dI ad h0 kk eh dh tk stt en dr ts q0 c0 f0 hkk hts2 hse) (cwV 1 hts g_q_passes_q_isWord_76 rfl rfl rfl (by decide +kernel) ⟨(Nat.le_of_ble_eq_true rfl), (Nat.le_of_ble_eq_true rfl)⟩) ⟨preST_blind, va_recv hKc hPc (ci := 2) (q0 := 0) rfl rfl, fun U hU hW => ⟨rfl, preS_at hU hW hPc hKc hev, sf_at hsf hS (fun _ h => h.elim) hU hW⟩⟩ rfl rfl hl.1 rfl (lv_room (Nat.le_of_ble_eq_true rfl)) dX4_passes_2 ⟨(Nat.le_of_ble_eq_true rfl), (Nat.le_of_ble_eq_true rfl)⟩) (fun r_1 hw => ?_)
  have hr_1 : r_1.toInt = 0 ∨ r_1.toInt = 1 := hw
  refine lv_if_ne (tgt := 10) hx hb dX4_passes_5 (by decide) (fun c_2 => ?_) (fun c_2 => ?_)
  · skip
    have tc_2 : ¬ r_1.toInt = 0 := fun h => c_2 ((fa_eq _ _).mpr h)
    refine lv_aload_n hx hb dX4_passes_10 rfl (lv_at hl 0 rfl) ?_
    have hPc := hP.sub (ws' := [(h0, .inr (2, [.ref eh, .ref dh, .int tk, .int stt, .int en, .long dr])), (eh, .inr (5, [.int ts, .ref q0])), (q0, .inl (c0, 120, .inl f0))]) [0, 1, 2] rfl
    have hKc := hK.sub (tys' := [(c0, .int)]) [0] rfl
    have hDc := hD.sub (ws' := [(h0, .inr (2, [.ref eh, .ref dh, .int tk, .int stt, .int en, .long dr])), (eh, .inr (5, [.int ts, .ref q0])), (q0, .inl (c0, 120, .inl f0))]) [0, 1, 2] (by decide) rfl
    have hFc := va_free (wc := [(h0, .inr (2, [.ref eh, .ref dh, .int tk, .int stt, .int en, .long dr])), (eh, .inr (5, [.int ts, .ref q0])), (q0, .inl (c0, 120, .inl f0))]) hD hS hA [0, 1, 2] rfl
    refine va_callv (va_runV (As := []) (rest := []) ⟨hx, hb, hml, hown, hts⟩ (q_advance l dC dI ad h0 eh dh tk stt en dr ts q0 c0 f0 s.heap.size hts2 (by first | omega | decide | (simp only [fa_lt, fa_le, fa_eq, and_true, true_and, and_false, false_and, not_true_eq_false, not_false_eq_true, li_0, li_1, li_2, li_3, li_4, li_5, li_6, li_7, li_8, li_9, li_10, li_12, li_15, li_16, li_20, li_30, li_34, li_38, li_40, li_63, li_64, li_65, li_78, li_120, li_1000, li_4000, li_10000, li_11077, li_255, li_65535, li_m1, li_m2, li_m1000000001, li_m1000000002, li_m1000000003, li_m1000000004, li_m1000000005, li_m1000000006, li_m1000000007, or_true, true_or, or_false, false_or, implies_true, true_implies, false_implies] <;> omega))) (cwV 0 hts g_q_passes_q_advance_39 rfl rfl rfl (by decide +kernel) ⟨(Nat.le_of_ble_eq_true rfl), (Nat.le_of_ble_eq_true rfl)⟩) ⟨preM_blind, va_recv hKc hPc (ci := 2) (q0 := 0) rfl rfl, fun U hU hW => ⟨rfl, preM_at hU hW hPc hKc hDc hev⟩⟩ rfl rfl hl.1 rfl (lv_room (Nat.le_of_ble_eq_true rfl)) dX4_passes_11 ⟨(Nat.le_of_ble_eq_true rfl), (Nat.le_of_ble_eq_true rfl)⟩) hS (fun q _ h => hFc q h) hFc (fun u t H1 locs ht hvm hw hB hz1 hk1 hS => ?_)
    obtain ⟨tk_4, st_5, en_6, hq_7, hP1, hK1, hD1⟩ := hB
    rw [ht] at hP1
    have hK1 := va_K.moved hvm.symm hK1
    obtain ⟨hP, hD⟩ := va_join (wr := []) (w1 := [(h0, .inr (2, [.ref eh, .ref dh, .int tk_4, .int st_5, .int en_6, .long dr])), (eh, .inr (5, [.int ts, .ref q0])), (q0, .inl (c0, 120, .inl f0))]) hP hD [0, 1, 2] [] rfl rfl (by decide) (by decide) hk1 hFc hP1 hD1
    generalize H1 = H at hP hS ⊢
    have hP : va_P (dC, dI) vwCl [(h0, .inr (2, [.ref eh, .ref dh, .int tk_4, .int st_5, .int en_6, .long dr])), (eh, .inr (5, [.int ts, .ref q0])), (q0, .inl (c0, 120, .inl f0))] H := hP
    have hD : va_D A [(h0, .inr (2, [.ref eh, .ref dh, .int tk_4, .int st_5, .int en_6, .long dr])), (eh, .inr (5, [.int ts, .ref q0])), (q0, .inl (c0, 120, .inl f0))] := hD
    refine lv_iconst (v := 1) hx hb dX4_passes_14 (by decide) ?_
    have hP9 := hP.sub (ws' := [(h0, .inr (2, [.ref eh, .ref dh, .int tk_4, .int st_5, .int en_6, .long dr])), (eh, .inr (5, [.int ts, .ref q0])), (q0, .inl (c0, 120, .inl f0))]) [0, 1, 2] rfl
    have hD9 := hD.sub (ws' := [(h0, .inr (2, [.ref eh, .ref dh, .int tk_4, .int st_5, .int en_6, .long dr])), (eh, .inr (5, [.int ts, .ref q0])), (q0, .inl (c0, 120, .inl f0))]) [0, 1, 2] (by decide) rfl
    have hK9 := hK.sub (tys' := [(c0, .int)]) [0] rfl
    exact W.zret (v := (1 : Int32)) hx hb hr (by decide) (fun t ht hW => ⟨⟨(1 : Int32), (), rfl, (by first | omega | decide | (simp only [fa_lt, fa_le, fa_eq, and_true, true_and, and_false, false_and, not_true_eq_false, not_false_eq_true, li_0, li_1, li_2, li_3, li_4, li_5, li_6, li_7, li_8, li_9, li_10, li_12, li_15, li_16, li_20, li_30, li_34, li_38, li_40, li_63, li_64, li_65, li_78, li_120, li_1000, li_4000, li_10000, li_11077, li_255, li_65535, li_m1, li_m2, li_m1000000001, li_m1000000002, li_m1000000003, li_m1000000004, li_m1000000005, li_m1000000006, li_m1000000007, or_true, true_or, or_false, false_or, implies_true, true_implies, false_implies] <;> omega)), tk_4, st_5, en_6, hq_7, by rw [ht]; exact hP9, va_K.moved hW.alike hK9, hD9⟩, hS.F ht⟩) hS.2.2 dX4_passes_15
  · skip
    have tc_2 : r_1.toInt = 0 := (fa_eq _ _).mp c_2
    refine lv_iconst (v := 0) hx hb dX4_passes_8 (by decide) ?_
    have hP9 := hP.sub (ws' := [(h0, .inr (2, [.ref eh, .ref dh, .int tk, .int stt, .int en, .long dr])), (eh, .inr (5, [.int ts, .ref q0])), (q0, .inl (c0, 120, .inl f0))]) [0, 1, 2] rfl
    have hD9 := hD.sub (ws' := [(h0, .inr (2, [.ref eh, .ref dh, .int tk, .int stt, .int en, .long dr])), (eh, .inr (5, [.int ts, .ref q0])), (q0, .inl (c0, 120, .inl f0))]) [0, 1, 2] (by decide) rfl
    have hK9 := hK.sub (tys' := [(c0, .int)]) [0] rfl
    exact W.zret (v := (0 : Int32)) hx hb hr (by decide) (fun t ht hW => ⟨⟨(0 : Int32), (), rfl, (by first | omega | decide | (simp only [fa_lt, fa_le, fa_eq, and_true, true_and, and_false, false_and, not_true_eq_false, not_false_eq_true, li_0, li_1, li_2, li_3, li_4, li_5, li_6, li_7, li_8, li_9, li_10, li_12, li_15, li_16, li_20, li_30, li_34, li_38, li_40, li_63, li_64, li_65, li_78, li_120, li_1000, li_4000, li_10000, li_11077, li_255, li_65535, li_m1, li_m2, li_m1000000001, li_m1000000002, li_m1000000003, li_m1000000004, li_m1000000005, li_m1000000006, li_m1000000007, or_true, true_or, or_false, false_or, implies_true, true_implies, false_implies] <;> omega)), tk, stt, en, (by first | omega | decide | (simp only [fa_lt, fa_le, fa_eq, and_true, true_and, and_false, false_and, not_true_eq_false, not_false_eq_true, li_0, li_1, li_2, li_3, li_4, li_5, li_6, li_7, li_8, li_9, li_10, li_12, li_15, li_16, li_20, li_30, li_34, li_38, li_40, li_63, li_64, li_65, li_78, li_120, li_1000, li_4000, li_10000, li_11077, li_255, li_65535, li_m1, li_m2, li_m1000000001, li_m1000000002, li_m1000000003, li_m1000000004, li_m1000000005, li_m1000000006, li_m1000000007, or_true, true_or, or_false, false_or, implies_true, true_implies, false_implies] <;> omega)), by rw [ht]; exact hP9, va_K.moved hW.alike hK9, hD9⟩, hS.F ht⟩) hS.2.2 dX4_passes_9

def w_q_kindNamed : List Cond := .code yX4_kindNamed cX4_kindNamed 1 (some .int) :: (([.methodLink RX4 76 yX4_isWord, .instanceMethod yX4_isWord, .selects RX4 yX4_isWord yX4_isWord, .initialized RX4, .code yX4_isWord cX4_isWord 3 (some .boolean), .fieldLink RX4 25 "LampShapes$Script" "token" "I", .fieldLink RX4 32 "LampShapes$Script" "end" "I", .fieldLink RX4 29 "LampShapes$Script" "start" "I", .methodLink RX4 57 yJ0_length_8abf5, .instanceMethod yJ0_length_8abf5, .selects RJ0 yJ0_length_8abf5 yJ0_length_8abf5, .initialized RJ0, .code yJ0_length_8abf5 cJ0_length_8abf5 1 (some .int), .fieldLink RJ0 9 "java/lang/String" "value" "[B", .methodLink RJ0 335 yJ0_coder_7d493, .instanceMethod yJ0_coder_7d493, .selects RJ0 yJ0_coder_7d493 yJ0_coder_7d493, .code yJ0_coder_7d493 cJ0_coder_7d493 1 (some .byte), .fieldLink RJ0 38 "java/lang/String" "COMPACT_STRINGS" "Z", .fieldLink RJ0 15 "java/lang/String" "coder" "B", .fieldLink RX4 12 "LampShapes$Script" "tape" "LLampShapes$Tape;", .methodLink RX4 63 yJ0_charAt_5068e, .instanceMethod yJ0_charAt_5068e, .selects RJ0 yJ0_charAt_5068e yJ0_charAt_5068e, .code yJ0_charAt_5068e cJ0_charAt_5068e 2 (some .char), .methodLink RJ0 492 yJ0_isLatin1_aae02, .instanceMethod yJ0_isLatin1_aae02, .selects RJ0 yJ0_isLatin1_aae02 yJ0_isLatin1_aae02, .code yJ0_isLatin1_aae02 cJ0_isLatin1_aae02 1 (some .boolean), .methodLink RJ0 495 yJ1_charAt_3b067, .static yJ1_charAt_3b067, .initialized RJ1, .code yJ1_charAt_3b067 cJ1_charAt_3b067 2 (some .char), .methodLink RJ1 9 yJ0_checkIndex_df160, .static yJ0_checkIndex_df160, .code yJ0_checkIndex_df160 cJ0_checkIndex_df160 2 none, .fieldLink RJ0 1053 "jdk/internal/util/Preconditions" "SIOOBE_FORMATTER" "Ljava/util/function/BiFunction;", .methodLink RJ0 1059 yJ3_checkIndex_8e157, .static yJ3_checkIndex_8e157, .initialized RJ3, .code yJ3_checkIndex_8e157 cJ3_checkIndex_8e157 3 (some .int), .methodLink RJ0 498 yJ2_charAt_3b067, .static yJ2_charAt_3b067, .initialized RJ2, .code yJ2_charAt_3b067 cJ2_charAt_3b067 2 (some .char), .methodLink RJ2 67 yJ2_checkIndex_2214a, .static yJ2_checkIndex_2214a, .code yJ2_checkIndex_2214a cJ2_checkIndex_2214a 2 none, .methodLink RJ2 48 yJ2_length_9d52b, .static yJ2_length_9d52b, .code yJ2_length_9d52b cJ2_length_9d52b 1 (some .int), .methodLink RJ2 414 yJ0_checkIndex_df160, .methodLink RJ2 71 yJ2_getChar_3b067, .static yJ2_getChar_3b067, .code yJ2_getChar_3b067 cJ2_getChar_3b067 2 (some .char), .fieldLink RJ2 44 "java/lang/StringUTF16" "$assertionsDisabled" "Z", .fieldLink RJ2 59 "java/lang/StringUTF16" "HI_BYTE_SHIFT" "I", .fieldLink RJ2 63 "java/lang/StringUTF16" "LO_BYTE_SHIFT" "I"] : List Cond) ++ wsX40 ++ wsX70)
set_option maxRecDepth 20000 in
theorem g_q_kindNamed_q_isWord_76 : GoodIn w_q_kindNamed (wsV RX4 76 RX4 yX4_isWord w_q_isWord) := goodIn_r _ [1, 2, 3, 4, 5, 6, 7, 8, 9, 10, 11, 12, 13, 14, 15, 16, 17, 18, 19, 20, 21, 22, 23, 24, 25, 26, 27, 28, 29, 30, 31, 32, 33, 34, 35, 36, 37, 38, 39, 40, 41, 42, 43, 44, 45, 46, 47, 48, 49, 50, 51, 52, 53, 54, 55, 56, 57, 58, 59, 60, 61, 62, 63, 64, 65, 66] rfl (by decide +kernel)
set_option maxHeartbeats 4000000 in
set_option maxRecDepth 100000 in
theorem q_kindNamed (l : Launch) (dC : Nat → ClassId) (dI : Nat → Nat → Nat) (ad : Nat → Nat) (h0 : Nat) (eh : Nat) (dh : Nat) (tk : Int32) (stt : Int32) (en : Int32) (dr : Int64) (ts : Int32) (q0 : Nat) (c0 : ClassId) (f0 : Nat → Int32) (hts2 : 0 ≤ ts.toInt ∧ ts.toInt ≤ 120) (hse : 0 ≤ stt.toInt ∧ en.toInt ≤ ts.toInt ∧ stt.toInt ≤ en.toInt) : Met l yX4_kindNamed w_q_kindNamed ({ frames := 5, cells := 0, slots := 0, locals := 107 } : Room) (va_Pc [.ref h0] (preST dC dI ad [(c0, .int)] [(h0, .inr (2, [.ref eh, .ref dh, .int tk, .int stt, .int en, .long dr])), (eh, .inr (5, [.int ts, .ref q0])), (q0, .inl (c0, 120, .inl f0))])) (vp_Si (fun r => (-1) ≤ r.toInt ∧ r.toInt ≤ 5)) 0 0 (fun _ => False) := by
  refine Met.ofW (cc := cX4_kindNamed) (maxL := 1) (ret := (some .int)) (by decide) rfl ?_
  intro p e s m args below meth c s₁ B hml hv
  obtain ⟨rfl, ⟨hP, hK, hev⟩, hsf⟩ := hv
  have hS : va_S (fun _ => False) s.heap s.heap [] := va_S.rf
  have hx := B.exec
  have hb := B.bytes
  have hr := B.returns
  have hts := atoms_spec (ws := w_q_kindNamed) B.pre
  have hown : s.vm.findClass RX4 = some m.cls := findClass_of_methodNamed B.named
  have hlocks := B.notSynchronized
  have inX4 : ∀ w ∈ wsX40, w ∈ w_q_kindNamed := fun w h => List.mem_cons_of_mem _ (List.mem_append_left _ (List.mem_append_right _ h))
  have inX7 : ∀ w ∈ wsX70, w ∈ w_q_kindNamed := fun w h => List.mem_cons_of_mem _ (List.mem_append_right _ h)
  have hP : va_P (dC, dI) vwCl [(h0, .inr (2, [.ref eh, .ref dh, .int tk, .int stt, .int en, .long dr])), (eh, .inr (5, [.int ts, .ref q0])), (q0, .inl (c0, 120, .inl f0))] s.heap := hP
  have hl := lv_entry ([.ref h0]) (n := 1) (Nat.le_of_ble_eq_true rfl)
  rw [lg_entry_eq]
  generalize (lg_sl ([.ref h0]) ++ List.replicate (1 - (lg_sl ([.ref h0])).length) Slot.unset).toArray = ls at hl ⊢
  have hl : lv_has ls 1 [(0, .ref h0)] := hl
  refine lv_aload_n hx hb dX4_kindNamed_0 rfl (lv_at hl 0 rfl) ?_
  refine va_ldcS (tx := "shape") (q := ad 0) hx hb hown (ev_str hev 0 rfl) dX4_kindNamed_1 ?_
  have hPc := hP.sub (ws' := [(h0, .inr (2, [.ref eh, .ref dh, .int tk, .int stt, .int en, .long dr])), (eh, .inr (5, [.int ts, .ref q0])), (q0, .inl (c0, 120, .inl f0))]) [0, 1, 2] rfl
  have hKc := hK.sub (tys' := [(c0, .int)]) [0] rfl
  refine vp_callSi (W.runV (As := [.ref (ad 0)]) (rest := []) ⟨hx, hb, hml, hown, hts⟩ (q_isWord l dC dI ad h0 0 eh dh tk stt en dr ts q0 c0 f0 (by decide) hts2 hse) (cwV 1 hts g_q_kindNamed_q_isWord_76 rfl rfl rfl (by decide +kernel) ⟨(Nat.le_of_ble_eq_true rfl), (Nat.le_of_ble_eq_true rfl)⟩) ⟨preST_blind, va_recv hKc hPc (ci := 2) (q0 := 0) rfl rfl, fun U hU hW => ⟨rfl, preS_at hU hW hPc hKc hev, sf_at hsf hS (fun _ h => h.elim) hU hW⟩⟩ rfl rfl hl.1 rfl (lv_room (Nat.le_of_ble_eq_true rfl)) dX4_kindNamed_3 ⟨(Nat.le_of_ble_eq_true rfl), (Nat.le_of_ble_eq_true rfl)⟩) (fun r_1 hw => ?_)
  have hr_1 : r_1.toInt = 0 ∨ r_1.toInt = 1 := hw
  refine lv_if_eq (tgt := 11) hx hb dX4_kindNamed_6 (by decide) (fun c_2 => ?_) (fun c_2 => ?_)
  · skip
    have tc_2 : r_1.toInt = 0 := (fa_eq _ _).mp c_2
    refine lv_aload_n hx hb dX4_kindNamed_11 rfl (lv_at hl 0 rfl) ?_
    refine va_ldcS (tx := "turned") (q := ad 1) hx hb hown (ev_str hev 1 rfl) dX4_kindNamed_12 ?_
    have hPc := hP.sub (ws' := [(h0, .inr (2, [.ref eh, .ref dh, .int tk, .int stt, .int en, .long dr])), (eh, .inr (5, [.int ts, .ref q0])), (q0, .inl (c0, 120, .inl f0))]) [0, 1, 2] rfl
    have hKc := hK.sub (tys' := [(c0, .int)]) [0] rfl
    refine vp_callSi (W.runV (As := [.ref (ad 1)]) (rest := []) ⟨hx, hb, hml, hown, hts⟩ (q_isWord l dC dI ad h0 1 eh dh tk stt en dr ts q0 c0 f0 (by decide) hts2 hse) (cwV 1 hts g_q_kindNamed_q_isWord_76 rfl rfl rfl (by decide +kernel) ⟨(Nat.le_of_ble_eq_true rfl), (Nat.le_of_ble_eq_true rfl)⟩) ⟨preST_blind, va_recv hKc hPc (ci := 2) (q0 := 0) rfl rfl, fun U hU hW => ⟨rfl, preS_at hU hW hPc hKc hev, sf_at hsf hS (fun _ h => h.elim) hU hW⟩⟩ rfl rfl hl.1 rfl (lv_room (Nat.le_of_ble_eq_true rfl)) dX4_kindNamed_14 ⟨(Nat.le_of_ble_eq_true rfl), (Nat.le_of_ble_eq_true rfl)⟩) (fun r_3 hw => ?_)
    have hr_3 : r_3.toInt = 0 ∨ r_3.toInt = 1 := hw
    refine lv_if_eq (tgt := 22) hx hb dX4_kindNamed_17 (by decide) (fun c_4 => ?_) (fun c_4 => ?_)
    · skip
      have tc_4 : r_3.toInt = 0 := (fa_eq _ _).mp c_4
      refine lv_aload_n hx hb dX4_kindNamed_22 rfl (lv_at hl 0 rfl) ?_
      refine va_ldcS (tx := "mirrored") (q := ad 2) hx hb hown (ev_str hev 2 rfl) dX4_kindNamed_23 ?_
      have hPc := hP.sub (ws' := [(h0, .inr (2, [.ref eh, .ref dh, .int tk, .int stt, .int en, .long dr])), (eh, .inr (5, [.int ts, .ref q0])), (q0, .inl (c0, 120, .inl f0))]) [0, 1, 2] rfl
      have hKc := hK.sub (tys' := [(c0, .int)]) [0] rfl
      refine vp_callSi (W.runV (As := [.ref (ad 2)]) (rest := []) ⟨hx, hb, hml, hown, hts⟩ (q_isWord l dC dI ad h0 2 eh dh tk stt en dr ts q0 c0 f0 (by decide) hts2 hse) (cwV 1 hts g_q_kindNamed_q_isWord_76 rfl rfl rfl (by decide +kernel) ⟨(Nat.le_of_ble_eq_true rfl), (Nat.le_of_ble_eq_true rfl)⟩) ⟨preST_blind, va_recv hKc hPc (ci := 2) (q0 := 0) rfl rfl, fun U hU hW => ⟨rfl, preS_at hU hW hPc hKc hev, sf_at hsf hS (fun _ h => h.elim) hU hW⟩⟩ rfl rfl hl.1 rfl (lv_room (Nat.le_of_ble_eq_true rfl)) dX4_kindNamed_25 ⟨(Nat.le_of_ble_eq_true rfl), (Nat.le_of_ble_eq_true rfl)⟩) (fun r_5 hw => ?_)
      have hr_5 : r_5.toInt = 0 ∨ r_5.toInt = 1 := hw
      refine lv_if_eq (tgt := 33) hx hb dX4_kindNamed_28 (by decide) (fun c_6 => ?_) (fun c_6 => ?_)
      · skip
        have tc_6 : r_5.toInt = 0 := (fa_eq _ _).mp c_6
        refine lv_aload_n hx hb dX4_kindNamed_33 rfl (lv_at hl 0 rfl) ?_
        refine va_ldcS (tx := "hollow") (q := ad 3) hx hb hown (ev_str hev 3 rfl) dX4_kindNamed_34 ?_
        have hPc := hP.sub (ws' := [(h0, .inr (2, [.ref eh, .ref dh, .int tk, .int stt, .int en, .long dr])), (eh, .inr (5, [.int ts, .ref q0])), (q0, .inl (c0, 120, .inl f0))]) [0, 1, 2] rfl
        have hKc := hK.sub (tys' := [(c0, .int)]) [0] rfl
        refine vp_callSi (W.runV (As := [.ref (ad 3)]) (rest := []) ⟨hx, hb, hml, hown, hts⟩ (q_isWord l dC dI ad h0 3 eh dh tk stt en dr ts q0 c0 f0 (by decide) hts2 hse) (cwV 1 hts g_q_kindNamed_q_isWord_76 rfl rfl rfl (by decide +kernel) ⟨(Nat.le_of_ble_eq_true rfl), (Nat.le_of_ble_eq_true rfl)⟩) ⟨preST_blind, va_recv hKc hPc (ci := 2) (q0 := 0) rfl rfl, fun U hU hW => ⟨rfl, preS_at hU hW hPc hKc hev, sf_at hsf hS (fun _ h => h.elim) hU hW⟩⟩ rfl rfl hl.1 rfl (lv_room (Nat.le_of_ble_eq_true rfl)) dX4_kindNamed_36 ⟨(Nat.le_of_ble_eq_true rfl), (Nat.le_of_ble_eq_true rfl)⟩) (fun r_7 hw => ?_)
        have hr_7 : r_7.toInt = 0 ∨ r_7.toInt = 1 := hw
        refine lv_if_eq (tgt := 44) hx hb dX4_kindNamed_39 (by decide) (fun c_8 => ?_) (fun c_8 => ?_)
        · skip
          have tc_8 : r_7.toInt = 0 := (fa_eq _ _).mp c_8
          refine lv_aload_n hx hb dX4_kindNamed_44 rfl (lv_at hl 0 rfl) ?_
          refine va_ldcS (tx := "double") (q := ad 4) hx hb hown (ev_str hev 4 rfl) dX4_kindNamed_45 ?_
          have hPc := hP.sub (ws' := [(h0, .inr (2, [.ref eh, .ref dh, .int tk, .int stt, .int en, .long dr])), (eh, .inr (5, [.int ts, .ref q0])), (q0, .inl (c0, 120, .inl f0))]) [0, 1, 2] rfl
          have hKc := hK.sub (tys' := [(c0, .int)]) [0] rfl
          refine vp_callSi (W.runV (As := [.ref (ad 4)]) (rest := []) ⟨hx, hb, hml, hown, hts⟩ (q_isWord l dC dI ad h0 4 eh dh tk stt en dr ts q0 c0 f0 (by decide) hts2 hse) (cwV 1 hts g_q_kindNamed_q_isWord_76 rfl rfl rfl (by decide +kernel) ⟨(Nat.le_of_ble_eq_true rfl), (Nat.le_of_ble_eq_true rfl)⟩) ⟨preST_blind, va_recv hKc hPc (ci := 2) (q0 := 0) rfl rfl, fun U hU hW => ⟨rfl, preS_at hU hW hPc hKc hev, sf_at hsf hS (fun _ h => h.elim) hU hW⟩⟩ rfl rfl hl.1 rfl (lv_room (Nat.le_of_ble_eq_true rfl)) dX4_kindNamed_47 ⟨(Nat.le_of_ble_eq_true rfl), (Nat.le_of_ble_eq_true rfl)⟩) (fun r_9 hw => ?_)
          have hr_9 : r_9.toInt = 0 ∨ r_9.toInt = 1 := hw
          refine lv_if_eq (tgt := 55) hx hb dX4_kindNamed_50 (by decide) (fun c_10 => ?_) (fun c_10 => ?_)
          · skip
            have tc_10 : r_9.toInt = 0 := (fa_eq _ _).mp c_10
            refine lv_aload_n hx hb dX4_kindNamed_55 rfl (lv_at hl 0 rfl) ?_
            refine va_ldcS (tx := "filled") (q := ad 5) hx hb hown (ev_str hev 5 rfl) dX4_kindNamed_56 ?_
            have hPc := hP.sub (ws' := [(h0, .inr (2, [.ref eh, .ref dh, .int tk, .int stt, .int en, .long dr])), (eh, .inr (5, [.int ts, .ref q0])), (q0, .inl (c0, 120, .inl f0))]) [0, 1, 2] rfl
            have hKc := hK.sub (tys' := [(c0, .int)]) [0] rfl
            refine vp_callSi (W.runV (As := [.ref (ad 5)]) (rest := []) ⟨hx, hb, hml, hown, hts⟩ (q_isWord l dC dI ad h0 5 eh dh tk stt en dr ts q0 c0 f0 (by decide) hts2 hse) (cwV 1 hts g_q_kindNamed_q_isWord_76 rfl rfl rfl (by decide +kernel) ⟨(Nat.le_of_ble_eq_true rfl), (Nat.le_of_ble_eq_true rfl)⟩) ⟨preST_blind, va_recv hKc hPc (ci := 2) (q0 := 0) rfl rfl, fun U hU hW => ⟨rfl, preS_at hU hW hPc hKc hev, sf_at hsf hS (fun _ h => h.elim) hU hW⟩⟩ rfl rfl hl.1 rfl (lv_room (Nat.le_of_ble_eq_true rfl)) dX4_kindNamed_58 ⟨(Nat.le_of_ble_eq_true rfl), (Nat.le_of_ble_eq_true rfl)⟩) (fun r_11 hw => ?_)
            have hr_11 : r_11.toInt = 0 ∨ r_11.toInt = 1 := hw
            refine lv_if_eq (tgt := 68) hx hb dX4_kindNamed_61 (by decide) (fun c_12 => ?_) (fun c_12 => ?_)
            · skip
              have tc_12 : r_11.toInt = 0 := (fa_eq _ _).mp c_12
              refine lv_iconst (v := (-1)) hx hb dX4_kindNamed_68 (by decide) ?_
              exact W.iret (v := ((-1) : Int32)) hx hb hr (fun t ht hW => ⟨((-1) : Int32), rfl, (by first | omega | decide | (simp only [fa_lt, fa_le, fa_eq, and_true, true_and, and_false, false_and, not_true_eq_false, not_false_eq_true, li_0, li_1, li_2, li_3, li_4, li_5, li_6, li_7, li_8, li_9, li_10, li_12, li_15, li_16, li_20, li_30, li_34, li_38, li_40, li_63, li_64, li_65, li_78, li_120, li_1000, li_4000, li_10000, li_11077, li_255, li_65535, li_m1, li_m2, li_m1000000001, li_m1000000002, li_m1000000003, li_m1000000004, li_m1000000005, li_m1000000006, li_m1000000007, or_true, true_or, or_false, false_or, implies_true, true_implies, false_implies] <;> omega)), ht⟩) (fun _ h => absurd h List.not_mem_nil) dX4_kindNamed_69
            · skip
              have tc_12 : ¬ r_11.toInt = 0 := fun h => c_12 ((fa_eq _ _).mpr h)
              refine lv_iconst (v := 5) hx hb dX4_kindNamed_64 (by decide) ?_
              refine lv_goto (tgt := 69) hx hb dX4_kindNamed_65 (by decide) ?_
              exact W.iret (v := (5 : Int32)) hx hb hr (fun t ht hW => ⟨(5 : Int32), rfl, (by first | omega | decide | (simp only [fa_lt, fa_le, fa_eq, and_true, true_and, and_false, false_and, not_true_eq_false, not_false_eq_true, li_0, li_1, li_2, li_3, li_4, li_5, li_6, li_7, li_8, li_9, li_10, li_12, li_15, li_16, li_20, li_30, li_34, li_38, li_40, li_63, li_64, li_65, li_78, li_120, li_1000, li_4000, li_10000, li_11077, li_255, li_65535, li_m1, li_m2, li_m1000000001, li_m1000000002, li_m1000000003, li_m1000000004, li_m1000000005, li_m1000000006, li_m1000000007, or_true, true_or, or_false, false_or, implies_true, true_implies, false_implies] <;> omega)), ht⟩) (fun _ h => absurd h List.not_mem_nil) dX4_kindNamed_69
          · skip
            have tc_10 : ¬ r_9.toInt = 0 := fun h => c_10 ((fa_eq _ _).mpr h)
            refine lv_iconst (v := 4) hx hb dX4_kindNamed_53 (by decide) ?_
            exact W.iret (v := (4 : Int32)) hx hb hr (fun t ht hW => ⟨(4 : Int32), rfl, (by first | omega | decide | (simp only [fa_lt, fa_le, fa_eq, and_true, true_and, and_false, false_and, not_true_eq_false, not_false_eq_true, li_0, li_1, li_2, li_3, li_4, li_5, li_6, li_7, li_8, li_9, li_10, li_12, li_15, li_16, li_20, li_30, li_34, li_38, li_40, li_63, li_64, li_65, li_78, li_120, li_1000, li_4000, li_10000, li_11077, li_255, li_65535, li_m1, li_m2, li_m1000000001, li_m1000000002, li_m1000000003, li_m1000000004, li_m1000000005, li_m1000000006, li_m1000000007, or_true, true_or, or_false, false_or, implies_true, true_implies, false_implies] <;> omega)), ht⟩) (fun _ h => absurd h List.not_mem_nil) dX4_kindNamed_54
        · skip
          have tc_8 : ¬ r_7.toInt = 0 := fun h => c_8 ((fa_eq _ _).mpr h)
          refine lv_iconst (v := 3) hx hb dX4_kindNamed_42 (by decide) ?_
          exact W.iret (v := (3 : Int32)) hx hb hr (fun t ht hW => ⟨(3 : Int32), rfl, (by first | omega | decide | (simp only [fa_lt, fa_le, fa_eq, and_true, true_and, and_false, false_and, not_true_eq_false, not_false_eq_true, li_0, li_1, li_2, li_3, li_4, li_5, li_6, li_7, li_8, li_9, li_10, li_12, li_15, li_16, li_20, li_30, li_34, li_38, li_40, li_63, li_64, li_65, li_78, li_120, li_1000, li_4000, li_10000, li_11077, li_255, li_65535, li_m1, li_m2, li_m1000000001, li_m1000000002, li_m1000000003, li_m1000000004, li_m1000000005, li_m1000000006, li_m1000000007, or_true, true_or, or_false, false_or, implies_true, true_implies, false_implies] <;> omega)), ht⟩) (fun _ h => absurd h List.not_mem_nil) dX4_kindNamed_43
      · skip
        have tc_6 : ¬ r_5.toInt = 0 := fun h => c_6 ((fa_eq _ _).mpr h)
        refine lv_iconst (v := 2) hx hb dX4_kindNamed_31 (by decide) ?_
        exact W.iret (v := (2 : Int32)) hx hb hr (fun t ht hW => ⟨(2 : Int32), rfl, (by first | omega | decide | (simp only [fa_lt, fa_le, fa_eq, and_true, true_and, and_false, false_and, not_true_eq_false, not_false_eq_true, li_0, li_1, li_2, li_3, li_4, li_5, li_6, li_7, li_8, li_9, li_10, li_12, li_15, li_16, li_20, li_30, li_34, li_38, li_40, li_63, li_64, li_65, li_78, li_120, li_1000, li_4000, li_10000, li_11077, li_255, li_65535, li_m1, li_m2, li_m1000000001, li_m1000000002, li_m1000000003, li_m1000000004, li_m1000000005, li_m1000000006, li_m1000000007, or_true, true_or, or_false, false_or, implies_true, true_implies, false_implies] <;> omega)), ht⟩) (fun _ h => absurd h List.not_mem_nil) dX4_kindNamed_32
    · skip
      have tc_4 : ¬ r_3.toInt = 0 := fun h => c_4 ((fa_eq _ _).mpr h)
      refine lv_iconst (v := 1) hx hb dX4_kindNamed_20 (by decide) ?_
      exact W.iret (v := (1 : Int32)) hx hb hr (fun t ht hW => ⟨(1 : Int32), rfl, (by first | omega | decide | (simp only [fa_lt, fa_le, fa_eq, and_true, true_and, and_false, false_and, not_true_eq_false, not_false_eq_true, li_0, li_1, li_2, li_3, li_4, li_5, li_6, li_7, li_8, li_9, li_10, li_12, li_15, li_16, li_20, li_30, li_34, li_38, li_40, li_63, li_64, li_65, li_78, li_120, li_1000, li_4000, li_10000, li_11077, li_255, li_65535, li_m1, li_m2, li_m1000000001, li_m1000000002, li_m1000000003, li_m1000000004, li_m1000000005, li_m1000000006, li_m1000000007, or_true, true_or, or_false, false_or, implies_true, true_implies, false_implies] <;> omega)), ht⟩) (fun _ h => absurd h List.not_mem_nil) dX4_kindNamed_21
  · skip
    have tc_2 : ¬ r_1.toInt = 0 := fun h => c_2 ((fa_eq _ _).mpr h)
    refine lv_iconst (v := 0) hx hb dX4_kindNamed_9 (by decide) ?_
    exact W.iret (v := (0 : Int32)) hx hb hr (fun t ht hW => ⟨(0 : Int32), rfl, (by first | omega | decide | (simp only [fa_lt, fa_le, fa_eq, and_true, true_and, and_false, false_and, not_true_eq_false, not_false_eq_true, li_0, li_1, li_2, li_3, li_4, li_5, li_6, li_7, li_8, li_9, li_10, li_12, li_15, li_16, li_20, li_30, li_34, li_38, li_40, li_63, li_64, li_65, li_78, li_120, li_1000, li_4000, li_10000, li_11077, li_255, li_65535, li_m1, li_m2, li_m1000000001, li_m1000000002, li_m1000000003, li_m1000000004, li_m1000000005, li_m1000000006, li_m1000000007, or_true, true_or, or_false, false_or, implies_true, true_implies, false_implies] <;> omega)), ht⟩) (fun _ h => absurd h List.not_mem_nil) dX4_kindNamed_10

def w_q_value : List Cond := .code yX4_value cX4_value 3 (some .int) :: (([.fieldLink RX4 25 "LampShapes$Script" "token" "I", .fieldLink RX4 29 "LampShapes$Script" "start" "I", .fieldLink RX4 32 "LampShapes$Script" "end" "I", .fieldLink RX4 12 "LampShapes$Script" "tape" "LLampShapes$Tape;", .methodLink RX4 167 Lib.Math.min.name, .static Lib.Math.min.name, .initialized "java/lang/Math", .code Lib.Math.min.name Lib.Math.min.code 2 (some .int)] : List Cond) ++ wsX40 ++ wsX70)
set_option maxHeartbeats 4000000 in
set_option maxRecDepth 100000 in
theorem q_value (l : Launch) (dC : Nat → ClassId) (dI : Nat → Nat → Nat) (ad : Nat → Nat) (h0 : Nat) (eh : Nat) (dh : Nat) (tk : Int32) (stt : Int32) (en : Int32) (dr : Int64) (ts : Int32) (q0 : Nat) (c0 : ClassId) (f0 : Nat → Int32) (hts2 : 0 ≤ ts.toInt ∧ ts.toInt ≤ 120) (hse : 0 ≤ stt.toInt ∧ en.toInt ≤ ts.toInt ∧ stt.toInt ≤ en.toInt) : Met l yX4_value w_q_value ({ frames := 1, cells := 0, slots := 0, locals := 13 } : Room) (va_Pc [.ref h0] (preS dC dI ad [(c0, .int)] [(h0, .inr (2, [.ref eh, .ref dh, .int tk, .int stt, .int en, .long dr])), (eh, .inr (5, [.int ts, .ref q0])), (q0, .inl (c0, 120, .inl f0))])) (vp_Si (fun r => True)) 0 0 (fun _ => False) := by
  refine Met.ofW (cc := cX4_value) (maxL := 3) (ret := (some .int)) (by decide) rfl ?_
  intro p e s m args below meth c s₁ B hml hv
  obtain ⟨rfl, hP, hK, hev⟩ := hv
  have hx := B.exec
  have hb := B.bytes
  have hr := B.returns
  have hts := atoms_spec (ws := w_q_value) B.pre
  have hown : s.vm.findClass RX4 = some m.cls := findClass_of_methodNamed B.named
  have hlocks := B.notSynchronized
  have inX4 : ∀ w ∈ wsX40, w ∈ w_q_value := fun w h => List.mem_cons_of_mem _ (List.mem_append_left _ (List.mem_append_right _ h))
  have inX7 : ∀ w ∈ wsX70, w ∈ w_q_value := fun w h => List.mem_cons_of_mem _ (List.mem_append_right _ h)
  have hP : va_P (dC, dI) vwCl [(h0, .inr (2, [.ref eh, .ref dh, .int tk, .int stt, .int en, .long dr])), (eh, .inr (5, [.int ts, .ref q0])), (q0, .inl (c0, 120, .inl f0))] s.heap := hP
  have hl := lv_entry ([.ref h0]) (n := 3) (Nat.le_of_ble_eq_true rfl)
  rw [lg_entry_eq]
  generalize (lg_sl ([.ref h0]) ++ List.replicate (3 - (lg_sl ([.ref h0])).length) Slot.unset).toArray = ls at hl ⊢
  have hl : lv_has ls 3 [(0, .ref h0)] := hl
  refine lv_aload_n hx hb dX4_value_0 rfl (lv_at hl 0 rfl) ?_
  refine va_get (D := (dC, dI)) (ci := 2) (v := .int tk) (C := RX4) (T := TX4) (N := 6) hx hb hts inX4 hown hK hP 0 rfl rfl 2 (by decide) (hts _ (List.mem_of_getElem? (i := 1) rfl)) (fun _ h9 => h9) rfl dX4_value_1 ?_
  refine lv_iconst (v := 2) hx hb dX4_value_4 (by decide) ?_
  refine lv_icmp_eq (tgt := 10) hx hb dX4_value_5 (by decide) (fun c_1 => ?_) (fun c_1 => ?_)
  · skip
    have tc_1 : tk.toInt = 2 := (fa_eq _ _).mp c_1
    refine lv_iconst (v := 0) hx hb dX4_value_10 (by decide) ?_
    refine lv_istore_n (lv' := [(1, .int 0), (0, .ref h0)]) hx hb dX4_value_11 rfl hl (by decide) rfl (fun ls hl => ?_)
    refine lv_aload_n hx hb dX4_value_12 rfl (lv_at hl 1 rfl) ?_
    refine va_get (D := (dC, dI)) (ci := 2) (v := .int stt) (C := RX4) (T := TX4) (N := 6) hx hb hts inX4 hown hK hP 0 rfl rfl 3 (by decide) (hts _ (List.mem_of_getElem? (i := 2) rfl)) (fun _ h9 => h9) rfl dX4_value_13 ?_
    refine lv_istore_n (lv' := [(2, .int stt), (1, .int 0), (0, .ref h0)]) hx hb dX4_value_16 rfl hl (by decide) rfl (fun ls hl => ?_)
    refine pp_loop (ι := Int32 × Int32) (fun ⟨v2_17, v1_17⟩ => (en.toInt - v2_17.toInt).toNat) (fun ⟨v2_17, v1_17⟩ H locs ls => (stt.toInt ≤ v2_17.toInt) ∧ H = s.heap ∧ locs = [] ∧ lv_has ls 3 [(2, .int v2_17), (1, .int v1_17), (0, .ref h0)]) ?_ (stt, 0) _ _ _ ⟨(by first | omega | decide | (simp only [fa_lt, fa_le, fa_eq, and_true, true_and, and_false, false_and, not_true_eq_false, not_false_eq_true, li_0, li_1, li_2, li_3, li_4, li_5, li_6, li_7, li_8, li_9, li_10, li_12, li_15, li_16, li_20, li_30, li_34, li_38, li_40, li_63, li_64, li_65, li_78, li_120, li_1000, li_4000, li_10000, li_11077, li_255, li_65535, li_m1, li_m2, li_m1000000001, li_m1000000002, li_m1000000003, li_m1000000004, li_m1000000005, li_m1000000006, li_m1000000007, or_true, true_or, or_false, false_or, implies_true, true_implies, false_implies] <;> omega)), rfl, rfl, lv_sub hl [0, 1, 2] rfl⟩
    intro k_2 ihk_2 u H locs ls hm hI
    obtain ⟨v2_17, v1_17⟩ := u
    obtain ⟨jk_2_0, rfl, rfl, hl⟩ := hI
    have hmk_2 : (en.toInt - v2_17.toInt).toNat < k_2 + 1 := hm
    clear hm
    have jk_2_0 : stt.toInt ≤ v2_17.toInt := jk_2_0
    have hl : lv_has ls 3 [(2, .int v2_17), (1, .int v1_17), (0, .ref h0)] := hl
    refine lv_iload_n hx hb dX4_value_17 rfl (lv_at hl 0 rfl) ?_
    refine lv_aload_n hx hb dX4_value_18 rfl (lv_at hl 2 rfl) ?_
    refine va_get (D := (dC, dI)) (ci := 2) (v := .int en) (C := RX4) (T := TX4) (N := 6) hx hb hts inX4 hown hK hP 0 rfl rfl 4 (by decide) (hts _ (List.mem_of_getElem? (i := 3) rfl)) (fun _ h9 => h9) rfl dX4_value_19 ?_
    have rc_3_x := pp_rng v2_17
    have rc_3_y := pp_rng en
    refine lv_icmp_ge (tgt := 55) hx hb dX4_value_22 (by decide) (fun c_3 => ?_) (fun c_3 => ?_)
    · skip
      have tc_3 : en.toInt ≤ v2_17.toInt := (fa_le _ _).mp c_3
      refine lv_iload_n hx hb dX4_value_55 rfl (lv_at hl 1 rfl) ?_
      exact W.iret (v := v1_17) hx hb hr (fun t ht hW => ⟨v1_17, rfl, trivial, ht⟩) (fun _ h => absurd h List.not_mem_nil) dX4_value_56
    · skip
      have tc_3 : ¬ en.toInt ≤ v2_17.toInt := fun h => c_3 ((fa_le _ _).mpr h)
      refine lv_sipush (v := 10000) hx hb dX4_value_25 (by decide) ?_
      refine lv_bipush (v := 10) hx hb dX4_value_28 (by decide) ?_
      refine lv_iload_n hx hb dX4_value_30 rfl (lv_at hl 1 rfl) ?_
      refine lv_imul hx hb dX4_value_31 ?_
      refine lv_topi (fun n_4 en_4 => ?_)
      clear en_4
      refine lv_aload_n hx hb dX4_value_32 rfl (lv_at hl 2 rfl) ?_
      refine va_get (D := (dC, dI)) (ci := 2) (v := .ref eh) (C := RX4) (T := TX4) (N := 6) hx hb hts inX4 hown hK hP 0 rfl rfl 0 (by decide) (hts _ (List.mem_of_getElem? (i := 4) rfl)) (fun _ h9 => h9) rfl dX4_value_33 ?_
      refine va_getN (D := (dC, dI)) (ci := 5) (v := .ref q0) (C := RX7) (T := TX7) (N := 2) hx hb hts inX7 hown hK hP 1 rfl rfl 1 (by decide) (ev_nest hev 18 rfl) (fun _ h9 => h9) rfl dX4_value_36 ?_
      refine lv_iload_n hx hb dX4_value_39 rfl (lv_at hl 0 rfl) ?_
      refine va_iald hx hb hK hP 2 0 rfl rfl (vp_in_iff.mpr ⟨by omega, by omega⟩) dX4_value_40 ?_
      refine lv_topi (fun n_5 en_5 => ?_)
      clear en_5
      refine lv_iadd hx hb dX4_value_41 ?_
      refine lv_topi (fun n_6 en_6 => ?_)
      clear en_6
      refine lv_bipush (v := 48) hx hb dX4_value_42 (by decide) ?_
      refine lv_isub hx hb dX4_value_44 ?_
      refine lv_topi (fun n_7 en_7 => ?_)
      clear en_7
      refine va_mmin hx hb (by rw [hml]; exact hl.1.symm) hown (hts _ (List.mem_of_getElem? (i := 5) rfl)) (hts _ (List.mem_of_getElem? (i := 6) rfl)) (hts _ (List.mem_of_getElem? (i := 7) rfl)) (hts _ (List.mem_of_getElem? (i := 8) rfl)) (Nat.le_of_ble_eq_true rfl) (Nat.le_of_ble_eq_true rfl) (Nat.le_of_ble_eq_true rfl) (Nat.le_of_ble_eq_true rfl) dX4_value_45 ?_
      refine lv_topi (fun n_8 en_8 => ?_)
      have tn_8 : n_8.toInt ≤ 10000 ∧ n_8.toInt ≤ n_7.toInt ∧ (n_8.toInt = 10000 ∨ n_8.toInt = n_7.toInt) := pp_min en_8
      refine lv_istore_n (lv' := [(1, .int n_8), (2, .int v2_17), (0, .ref h0)]) hx hb dX4_value_48 rfl hl (by decide) rfl (fun ls hl => ?_)
      obtain ⟨n_9, en_9⟩ : ∃ y : Int32, y = v2_17 + 1 := ⟨_, rfl⟩
      have tn_9 : n_9.toInt = v2_17.toInt + 1 := pp_add en_9 rfl rfl (by omega) (by omega)
      refine lv_iinc (v := n_9) (lv' := [(2, .int n_9), (1, .int n_8), (0, .ref h0)]) hx hb dX4_value_49 hl (k := 1) rfl (by rw [en_9]; rfl) (by decide) rfl (fun ls hl => ?_)
      clear en_9
      refine lv_goto (tgt := 17) hx hb dX4_value_52 (by decide) ?_
      exact ihk_2 (n_9, n_8) _ _ _ (by show (en.toInt - n_9.toInt).toNat < k_2; omega) ⟨(by first | omega | decide | (simp only [fa_lt, fa_le, fa_eq, and_true, true_and, and_false, false_and, not_true_eq_false, not_false_eq_true, li_0, li_1, li_2, li_3, li_4, li_5, li_6, li_7, li_8, li_9, li_10, li_12, li_15, li_16, li_20, li_30, li_34, li_38, li_40, li_63, li_64, li_65, li_78, li_120, li_1000, li_4000, li_10000, li_11077, li_255, li_65535, li_m1, li_m2, li_m1000000001, li_m1000000002, li_m1000000003, li_m1000000004, li_m1000000005, li_m1000000006, li_m1000000007, or_true, true_or, or_false, false_or, implies_true, true_implies, false_implies] <;> omega)), rfl, rfl, lv_sub hl [0, 1, 2] rfl⟩
  · skip
    have tc_1 : ¬ tk.toInt = 2 := fun h => c_1 ((fa_eq _ _).mpr h)
    refine lv_iconst (v := (-1)) hx hb dX4_value_8 (by decide) ?_
    exact W.iret (v := ((-1) : Int32)) hx hb hr (fun t ht hW => ⟨((-1) : Int32), rfl, trivial, ht⟩) (fun _ h => absurd h List.not_mem_nil) dX4_value_9

def w_q_numberWithin : List Cond := .code yX4_numberWithin cX4_numberWithin 4 (some .int) :: (([.methodLink RX4 135 yX4_value, .instanceMethod yX4_value, .selects RX4 yX4_value yX4_value, .initialized RX4, .code yX4_value cX4_value 3 (some .int), .fieldLink RX4 25 "LampShapes$Script" "token" "I", .fieldLink RX4 29 "LampShapes$Script" "start" "I", .fieldLink RX4 32 "LampShapes$Script" "end" "I", .fieldLink RX4 12 "LampShapes$Script" "tape" "LLampShapes$Tape;", .methodLink RX4 167 Lib.Math.min.name, .static Lib.Math.min.name, .initialized "java/lang/Math", .code Lib.Math.min.name Lib.Math.min.code 2 (some .int), .methodLink RX4 39 yX4_advance, .instanceMethod yX4_advance, .selects RX4 yX4_advance yX4_advance, .code yX4_advance cX4_advance 1 none, .methodLink RX4 53 yX4_sortOf, .static yX4_sortOf, .code yX4_sortOf cX4_sortOf 1 (some .int)] : List Cond) ++ wsX40 ++ wsX70)
set_option maxRecDepth 20000 in
theorem g_q_numberWithin_q_value_135 : GoodIn w_q_numberWithin (wsV RX4 135 RX4 yX4_value w_q_value) := goodIn_r _ [1, 2, 3, 4, 5, 6, 7, 8, 9, 10, 11, 12, 13, 21, 22, 23, 24, 25, 26, 27, 28] rfl (by decide +kernel)
set_option maxRecDepth 20000 in
theorem g_q_numberWithin_q_advance_39 : GoodIn w_q_numberWithin (wsV RX4 39 RX4 yX4_advance w_q_advance) := goodIn_r _ [14, 15, 16, 4, 17, 8, 7, 9, 18, 19, 4, 20, 6, 21, 22, 23, 24, 25, 26, 27, 28] rfl (by decide +kernel)
set_option maxHeartbeats 4000000 in
set_option maxRecDepth 100000 in
theorem q_numberWithin (l : Launch) (dC : Nat → ClassId) (dI : Nat → Nat → Nat) (ad : Nat → Nat) (h0 : Nat) (lo : Int32) (hi : Int32) (eh : Nat) (dh : Nat) (tk : Int32) (stt : Int32) (en : Int32) (dr : Int64) (ts : Int32) (q0 : Nat) (c0 : ClassId) (f0 : Nat → Int32) (sz : Nat) (hts2 : 0 ≤ ts.toInt ∧ ts.toInt ≤ 120) (hse : 0 ≤ stt.toInt ∧ en.toInt ≤ ts.toInt ∧ stt.toInt ≤ en.toInt) : Met l yX4_numberWithin w_q_numberWithin ({ frames := 2, cells := 0, slots := 0, locals := 40 } : Room) (va_Pc [.ref h0, .int lo, .int hi] (preM dC dI ad [(c0, .int)] [(h0, .inr (2, [.ref eh, .ref dh, .int tk, .int stt, .int en, .long dr])), (eh, .inr (5, [.int ts, .ref q0])), (q0, .inl (c0, 120, .inl f0))] sz)) (va_Qi (fun (r : Int32) (_ : Unit) => r.toInt = (-1) ∨ (lo.toInt ≤ r.toInt ∧ r.toInt ≤ hi.toInt)) (fun _ t => ∃ (tk2 : Int32), ∃ (st2 : Int32), ∃ (en2 : Int32), (0 ≤ st2.toInt ∧ st2.toInt ≤ en2.toInt ∧ en2.toInt ≤ ts.toInt) ∧ va_P (dC, dI) vwCl [(h0, .inr (2, [.ref eh, .ref dh, .int tk2, .int st2, .int en2, .long dr])), (eh, .inr (5, [.int ts, .ref q0])), (q0, .inl (c0, 120, .inl f0))] t.heap ∧ va_K (dC, dI) vwCl [(c0, .int)] t ∧ va_D (va_A [(h0, .inr (2, [.ref eh, .ref dh, .int tk, .int stt, .int en, .long dr])), (eh, .inr (5, [.int ts, .ref q0])), (q0, .inl (c0, 120, .inl f0))] sz) [(h0, .inr (2, [.ref eh, .ref dh, .int tk2, .int st2, .int en2, .long dr])), (eh, .inr (5, [.int ts, .ref q0])), (q0, .inl (c0, 120, .inl f0))]) (va_A [(h0, .inr (2, [.ref eh, .ref dh, .int tk, .int stt, .int en, .long dr])), (eh, .inr (5, [.int ts, .ref q0])), (q0, .inl (c0, 120, .inl f0))] sz)) 0 0 (va_A [(h0, .inr (2, [.ref eh, .ref dh, .int tk, .int stt, .int en, .long dr])), (eh, .inr (5, [.int ts, .ref q0])), (q0, .inl (c0, 120, .inl f0))] sz) := by
  refine Met.ofW (cc := cX4_numberWithin) (maxL := 4) (ret := (some .int)) (by decide) rfl ?_
  intro p e s m args below meth c s₁ B hml hv
  obtain ⟨rfl, hsz, hP, hK, hD0, hev⟩ := hv
  have hx := B.exec
  have hb := B.bytes
  have hr := B.returns
  have hts := atoms_spec (ws := w_q_numberWithin) B.pre
  have hown : s.vm.findClass RX4 = some m.cls := findClass_of_methodNamed B.named
  have hlocks := B.notSynchronized
  have inX4 : ∀ w ∈ wsX40, w ∈ w_q_numberWithin := fun w h => List.mem_cons_of_mem _ (List.mem_append_left _ (List.mem_append_right _ h))
  have inX7 : ∀ w ∈ wsX70, w ∈ w_q_numberWithin := fun w h => List.mem_cons_of_mem _ (List.mem_append_right _ h)
  subst hsz
  have hD := hD0.self (sz := s.heap.size)
  generalize hAe : va_A [(h0, .inr (2, [.ref eh, .ref dh, .int tk, .int stt, .int en, .long dr])), (eh, .inr (5, [.int ts, .ref q0])), (q0, .inl (c0, 120, .inl f0))] s.heap.size = A at hD ⊢
  have hA : ∀ q : Nat, s.heap.size ≤ q → A q := fun q h => by rw [← hAe]; exact Or.inr h
  have hS : va_S A s.heap s.heap [] := va_S.rf
  have hP : va_P (dC, dI) vwCl [(h0, .inr (2, [.ref eh, .ref dh, .int tk, .int stt, .int en, .long dr])), (eh, .inr (5, [.int ts, .ref q0])), (q0, .inl (c0, 120, .inl f0))] s.heap := hP
  have hl := lv_entry ([.ref h0, .int lo, .int hi]) (n := 4) (Nat.le_of_ble_eq_true rfl)
  rw [lg_entry_eq]
  generalize (lg_sl ([.ref h0, .int lo, .int hi]) ++ List.replicate (4 - (lg_sl ([.ref h0, .int lo, .int hi])).length) Slot.unset).toArray = ls at hl ⊢
  have hl : lv_has ls 4 [(0, .ref h0), (1, .int lo), (2, .int hi)] := hl
  refine lv_aload_n hx hb dX4_numberWithin_0 rfl (lv_at hl 0 rfl) ?_
  have hPc := hP.sub (ws' := [(h0, .inr (2, [.ref eh, .ref dh, .int tk, .int stt, .int en, .long dr])), (eh, .inr (5, [.int ts, .ref q0])), (q0, .inl (c0, 120, .inl f0))]) [0, 1, 2] rfl
  have hKc := hK.sub (tys' := [(c0, .int)]) [0] rfl
  refine vp_callSi (W.runV (As := []) (rest := []) ⟨hx, hb, hml, hown, hts⟩ (q_value l dC dI ad h0 eh dh tk stt en dr ts q0 c0 f0 hts2 hse) (cwV 0 hts g_q_numberWithin_q_value_135 rfl rfl rfl (by decide +kernel) ⟨(Nat.le_of_ble_eq_true rfl), (Nat.le_of_ble_eq_true rfl)⟩) ⟨preS_blind, va_recv hKc hPc (ci := 2) (q0 := 0) rfl rfl, fun U hU hW => ⟨rfl, preS_at hU hW hPc hKc hev⟩⟩ rfl rfl hl.1 rfl (lv_room (Nat.le_of_ble_eq_true rfl)) dX4_numberWithin_1 ⟨(Nat.le_of_ble_eq_true rfl), (Nat.le_of_ble_eq_true rfl)⟩) (fun r_1 hw => ?_)
  refine lv_istore_n (lv' := [(3, .int r_1), (0, .ref h0), (1, .int lo), (2, .int hi)]) hx hb dX4_numberWithin_4 rfl hl (by decide) rfl (fun ls hl => ?_)
  refine lv_iload_n hx hb dX4_numberWithin_5 rfl (lv_at hl 0 rfl) ?_
  refine lv_iload_n hx hb dX4_numberWithin_6 rfl (lv_at hl 2 rfl) ?_
  have rc_2_x := pp_rng r_1
  have rc_2_y := pp_rng lo
  refine lv_icmp_lt (tgt := 15) hx hb dX4_numberWithin_7 (by decide) (fun c_2 => ?_) (fun c_2 => ?_)
  · skip
    have tc_2 : r_1.toInt < lo.toInt := (fa_lt _ _).mp c_2
    refine lv_iconst (v := (-1)) hx hb dX4_numberWithin_15 (by decide) ?_
    have hP9 := hP.sub (ws' := [(h0, .inr (2, [.ref eh, .ref dh, .int tk, .int stt, .int en, .long dr])), (eh, .inr (5, [.int ts, .ref q0])), (q0, .inl (c0, 120, .inl f0))]) [0, 1, 2] rfl
    have hD9 := hD.sub (ws' := [(h0, .inr (2, [.ref eh, .ref dh, .int tk, .int stt, .int en, .long dr])), (eh, .inr (5, [.int ts, .ref q0])), (q0, .inl (c0, 120, .inl f0))]) [0, 1, 2] (by decide) rfl
    have hK9 := hK.sub (tys' := [(c0, .int)]) [0] rfl
    exact W.iret (v := ((-1) : Int32)) hx hb hr (fun t ht hW => ⟨⟨((-1) : Int32), (), rfl, (by first | omega | decide | (simp only [fa_lt, fa_le, fa_eq, and_true, true_and, and_false, false_and, not_true_eq_false, not_false_eq_true, li_0, li_1, li_2, li_3, li_4, li_5, li_6, li_7, li_8, li_9, li_10, li_12, li_15, li_16, li_20, li_30, li_34, li_38, li_40, li_63, li_64, li_65, li_78, li_120, li_1000, li_4000, li_10000, li_11077, li_255, li_65535, li_m1, li_m2, li_m1000000001, li_m1000000002, li_m1000000003, li_m1000000004, li_m1000000005, li_m1000000006, li_m1000000007, or_true, true_or, or_false, false_or, implies_true, true_implies, false_implies] <;> omega)), tk, stt, en, (by first | omega | decide | (simp only [fa_lt, fa_le, fa_eq, and_true, true_and, and_false, false_and, not_true_eq_false, not_false_eq_true, li_0, li_1, li_2, li_3, li_4, li_5, li_6, li_7, li_8, li_9, li_10, li_12, li_15, li_16, li_20, li_30, li_34, li_38, li_40, li_63, li_64, li_65, li_78, li_120, li_1000, li_4000, li_10000, li_11077, li_255, li_65535, li_m1, li_m2, li_m1000000001, li_m1000000002, li_m1000000003, li_m1000000004, li_m1000000005, li_m1000000006, li_m1000000007, or_true, true_or, or_false, false_or, implies_true, true_implies, false_implies] <;> omega)), by rw [ht]; exact hP9, va_K.moved hW.alike hK9, hD9⟩, hS.F ht⟩) hS.2.2 dX4_numberWithin_16
  · skip
    have tc_2 : ¬ r_1.toInt < lo.toInt := fun h => c_2 ((fa_lt _ _).mpr h)
    refine lv_iload_n hx hb dX4_numberWithin_10 rfl (lv_at hl 0 rfl) ?_
    refine lv_iload_n hx hb dX4_numberWithin_11 rfl (lv_at hl 3 rfl) ?_
    have rc_3_x := pp_rng r_1
    have rc_3_y := pp_rng hi
    refine lv_icmp_le (tgt := 17) hx hb dX4_numberWithin_12 (by decide) (fun c_3 => ?_) (fun c_3 => ?_)
    · skip
      have tc_3 : r_1.toInt ≤ hi.toInt := (fa_le _ _).mp c_3
      refine lv_aload_n hx hb dX4_numberWithin_17 rfl (lv_at hl 1 rfl) ?_
      have hPc := hP.sub (ws' := [(h0, .inr (2, [.ref eh, .ref dh, .int tk, .int stt, .int en, .long dr])), (eh, .inr (5, [.int ts, .ref q0])), (q0, .inl (c0, 120, .inl f0))]) [0, 1, 2] rfl
      have hKc := hK.sub (tys' := [(c0, .int)]) [0] rfl
      have hDc := hD.sub (ws' := [(h0, .inr (2, [.ref eh, .ref dh, .int tk, .int stt, .int en, .long dr])), (eh, .inr (5, [.int ts, .ref q0])), (q0, .inl (c0, 120, .inl f0))]) [0, 1, 2] (by decide) rfl
      have hFc := va_free (wc := [(h0, .inr (2, [.ref eh, .ref dh, .int tk, .int stt, .int en, .long dr])), (eh, .inr (5, [.int ts, .ref q0])), (q0, .inl (c0, 120, .inl f0))]) hD hS hA [0, 1, 2] rfl
      refine va_callv (va_runV (As := []) (rest := []) ⟨hx, hb, hml, hown, hts⟩ (q_advance l dC dI ad h0 eh dh tk stt en dr ts q0 c0 f0 s.heap.size hts2 (by first | omega | decide | (simp only [fa_lt, fa_le, fa_eq, and_true, true_and, and_false, false_and, not_true_eq_false, not_false_eq_true, li_0, li_1, li_2, li_3, li_4, li_5, li_6, li_7, li_8, li_9, li_10, li_12, li_15, li_16, li_20, li_30, li_34, li_38, li_40, li_63, li_64, li_65, li_78, li_120, li_1000, li_4000, li_10000, li_11077, li_255, li_65535, li_m1, li_m2, li_m1000000001, li_m1000000002, li_m1000000003, li_m1000000004, li_m1000000005, li_m1000000006, li_m1000000007, or_true, true_or, or_false, false_or, implies_true, true_implies, false_implies] <;> omega))) (cwV 0 hts g_q_numberWithin_q_advance_39 rfl rfl rfl (by decide +kernel) ⟨(Nat.le_of_ble_eq_true rfl), (Nat.le_of_ble_eq_true rfl)⟩) ⟨preM_blind, va_recv hKc hPc (ci := 2) (q0 := 0) rfl rfl, fun U hU hW => ⟨rfl, preM_at hU hW hPc hKc hDc hev⟩⟩ rfl rfl hl.1 rfl (lv_room (Nat.le_of_ble_eq_true rfl)) dX4_numberWithin_18 ⟨(Nat.le_of_ble_eq_true rfl), (Nat.le_of_ble_eq_true rfl)⟩) hS (fun q _ h => hFc q h) hFc (fun u t H1 locs ht hvm hw hB hz1 hk1 hS => ?_)
      obtain ⟨tk_5, st_6, en_7, hq_8, hP1, hK1, hD1⟩ := hB
      rw [ht] at hP1
      have hK1 := va_K.moved hvm.symm hK1
      obtain ⟨hP, hD⟩ := va_join (wr := []) (w1 := [(h0, .inr (2, [.ref eh, .ref dh, .int tk_5, .int st_6, .int en_7, .long dr])), (eh, .inr (5, [.int ts, .ref q0])), (q0, .inl (c0, 120, .inl f0))]) hP hD [0, 1, 2] [] rfl rfl (by decide) (by decide) hk1 hFc hP1 hD1
      generalize H1 = H at hP hS ⊢
      have hP : va_P (dC, dI) vwCl [(h0, .inr (2, [.ref eh, .ref dh, .int tk_5, .int st_6, .int en_7, .long dr])), (eh, .inr (5, [.int ts, .ref q0])), (q0, .inl (c0, 120, .inl f0))] H := hP
      have hD : va_D A [(h0, .inr (2, [.ref eh, .ref dh, .int tk_5, .int st_6, .int en_7, .long dr])), (eh, .inr (5, [.int ts, .ref q0])), (q0, .inl (c0, 120, .inl f0))] := hD
      refine lv_iload_n hx hb dX4_numberWithin_21 rfl (lv_at hl 0 rfl) ?_
      have hP9 := hP.sub (ws' := [(h0, .inr (2, [.ref eh, .ref dh, .int tk_5, .int st_6, .int en_7, .long dr])), (eh, .inr (5, [.int ts, .ref q0])), (q0, .inl (c0, 120, .inl f0))]) [0, 1, 2] rfl
      have hD9 := hD.sub (ws' := [(h0, .inr (2, [.ref eh, .ref dh, .int tk_5, .int st_6, .int en_7, .long dr])), (eh, .inr (5, [.int ts, .ref q0])), (q0, .inl (c0, 120, .inl f0))]) [0, 1, 2] (by decide) rfl
      have hK9 := hK.sub (tys' := [(c0, .int)]) [0] rfl
      exact W.iret (v := r_1) hx hb hr (fun t ht hW => ⟨⟨r_1, (), rfl, (by first | omega | decide | (simp only [fa_lt, fa_le, fa_eq, and_true, true_and, and_false, false_and, not_true_eq_false, not_false_eq_true, li_0, li_1, li_2, li_3, li_4, li_5, li_6, li_7, li_8, li_9, li_10, li_12, li_15, li_16, li_20, li_30, li_34, li_38, li_40, li_63, li_64, li_65, li_78, li_120, li_1000, li_4000, li_10000, li_11077, li_255, li_65535, li_m1, li_m2, li_m1000000001, li_m1000000002, li_m1000000003, li_m1000000004, li_m1000000005, li_m1000000006, li_m1000000007, or_true, true_or, or_false, false_or, implies_true, true_implies, false_implies] <;> omega)), tk_5, st_6, en_7, hq_8, by rw [ht]; exact hP9, va_K.moved hW.alike hK9, hD9⟩, hS.F ht⟩) hS.2.2 dX4_numberWithin_22
    · skip
      have tc_3 : ¬ r_1.toInt ≤ hi.toInt := fun h => c_3 ((fa_le _ _).mpr h)
      refine lv_iconst (v := (-1)) hx hb dX4_numberWithin_15 (by decide) ?_
      have hP9 := hP.sub (ws' := [(h0, .inr (2, [.ref eh, .ref dh, .int tk, .int stt, .int en, .long dr])), (eh, .inr (5, [.int ts, .ref q0])), (q0, .inl (c0, 120, .inl f0))]) [0, 1, 2] rfl
      have hD9 := hD.sub (ws' := [(h0, .inr (2, [.ref eh, .ref dh, .int tk, .int stt, .int en, .long dr])), (eh, .inr (5, [.int ts, .ref q0])), (q0, .inl (c0, 120, .inl f0))]) [0, 1, 2] (by decide) rfl
      have hK9 := hK.sub (tys' := [(c0, .int)]) [0] rfl
      exact W.iret (v := ((-1) : Int32)) hx hb hr (fun t ht hW => ⟨⟨((-1) : Int32), (), rfl, (by first | omega | decide | (simp only [fa_lt, fa_le, fa_eq, and_true, true_and, and_false, false_and, not_true_eq_false, not_false_eq_true, li_0, li_1, li_2, li_3, li_4, li_5, li_6, li_7, li_8, li_9, li_10, li_12, li_15, li_16, li_20, li_30, li_34, li_38, li_40, li_63, li_64, li_65, li_78, li_120, li_1000, li_4000, li_10000, li_11077, li_255, li_65535, li_m1, li_m2, li_m1000000001, li_m1000000002, li_m1000000003, li_m1000000004, li_m1000000005, li_m1000000006, li_m1000000007, or_true, true_or, or_false, false_or, implies_true, true_implies, false_implies] <;> omega)), tk, stt, en, (by first | omega | decide | (simp only [fa_lt, fa_le, fa_eq, and_true, true_and, and_false, false_and, not_true_eq_false, not_false_eq_true, li_0, li_1, li_2, li_3, li_4, li_5, li_6, li_7, li_8, li_9, li_10, li_12, li_15, li_16, li_20, li_30, li_34, li_38, li_40, li_63, li_64, li_65, li_78, li_120, li_1000, li_4000, li_10000, li_11077, li_255, li_65535, li_m1, li_m2, li_m1000000001, li_m1000000002, li_m1000000003, li_m1000000004, li_m1000000005, li_m1000000006, li_m1000000007, or_true, true_or, or_false, false_or, implies_true, true_implies, false_implies] <;> omega)), by rw [ht]; exact hP9, va_K.moved hW.alike hK9, hD9⟩, hS.F ht⟩) hS.2.2 dX4_numberWithin_16

def w_q_drawnRows : List Cond := .code yX4_drawnRows cX4_drawnRows 4 (some .boolean) :: (([.fieldLink RX4 35 "LampShapes$Script" "drawn" "J", .fieldLink RX4 25 "LampShapes$Script" "token" "I", .fieldLink RX4 32 "LampShapes$Script" "end" "I", .fieldLink RX4 29 "LampShapes$Script" "start" "I", .methodLink RX4 39 yX4_advance, .instanceMethod yX4_advance, .selects RX4 yX4_advance yX4_advance, .initialized RX4, .code yX4_advance cX4_advance 1 none, .fieldLink RX4 12 "LampShapes$Script" "tape" "LLampShapes$Tape;", .methodLink RX4 53 yX4_sortOf, .static yX4_sortOf, .code yX4_sortOf cX4_sortOf 1 (some .int)] : List Cond) ++ wsX40 ++ wsX70)
set_option maxRecDepth 20000 in
theorem g_q_drawnRows_q_advance_39 : GoodIn w_q_drawnRows (wsV RX4 39 RX4 yX4_advance w_q_advance) := goodIn_r _ [5, 6, 7, 8, 9, 3, 4, 10, 11, 12, 8, 13, 2, 14, 15, 16, 17, 18, 19, 20, 21] rfl (by decide +kernel)
set_option maxHeartbeats 4000000 in
set_option maxRecDepth 100000 in
theorem q_drawnRows (l : Launch) (dC : Nat → ClassId) (dI : Nat → Nat → Nat) (ad : Nat → Nat) (h0 : Nat) (k : Int32) (eh : Nat) (dh : Nat) (tk : Int32) (stt : Int32) (en : Int32) (dr : Int64) (ts : Int32) (q0 : Nat) (c0 : ClassId) (f0 : Nat → Int32) (sz : Nat) (hts2 : 0 ≤ ts.toInt ∧ ts.toInt ≤ 120) (hse : 0 ≤ stt.toInt ∧ en.toInt ≤ ts.toInt ∧ stt.toInt ≤ en.toInt) (hk : 0 ≤ k.toInt ∧ k.toInt ≤ 8) : Met l yX4_drawnRows w_q_drawnRows ({ frames := 2, cells := 0, slots := 0, locals := 40 } : Room) (va_Pc [.ref h0, .int k] (preM dC dI ad [(c0, .int)] [(h0, .inr (2, [.ref eh, .ref dh, .int tk, .int stt, .int en, .long dr])), (eh, .inr (5, [.int ts, .ref q0])), (q0, .inl (c0, 120, .inl f0))] sz)) (va_Qi (fun (r : Int32) (_ : Unit) => r.toInt = 0 ∨ r.toInt = 1) (fun _ t => ∃ (tk2 : Int32), ∃ (st2 : Int32), ∃ (en2 : Int32), ∃ (dr2 : Int64), (0 ≤ st2.toInt ∧ st2.toInt ≤ en2.toInt ∧ en2.toInt ≤ ts.toInt) ∧ va_P (dC, dI) vwCl [(h0, .inr (2, [.ref eh, .ref dh, .int tk2, .int st2, .int en2, .long dr2])), (eh, .inr (5, [.int ts, .ref q0])), (q0, .inl (c0, 120, .inl f0))] t.heap ∧ va_K (dC, dI) vwCl [(c0, .int)] t ∧ va_D (va_A [(h0, .inr (2, [.ref eh, .ref dh, .int tk, .int stt, .int en, .long dr])), (eh, .inr (5, [.int ts, .ref q0])), (q0, .inl (c0, 120, .inl f0))] sz) [(h0, .inr (2, [.ref eh, .ref dh, .int tk2, .int st2, .int en2, .long dr2])), (eh, .inr (5, [.int ts, .ref q0])), (q0, .inl (c0, 120, .inl f0))]) (va_A [(h0, .inr (2, [.ref eh, .ref dh, .int tk, .int stt, .int en, .long dr])), (eh, .inr (5, [.int ts, .ref q0])), (q0, .inl (c0, 120, .inl f0))] sz)) 0 0 (va_A [(h0, .inr (2, [.ref eh, .ref dh, .int tk, .int stt, .int en, .long dr])), (eh, .inr (5, [.int ts, .ref q0])), (q0, .inl (c0, 120, .inl f0))] sz) := by
  refine Met.ofW (cc := cX4_drawnRows) (maxL := 4) (ret := (some .boolean)) (by decide) rfl ?_
  intro p e s m args below meth c s₁ B hml hv
  obtain ⟨rfl, hsz, hP, hK, hD0, hev⟩ := hv
  have hx := B.exec
  have hb := B.bytes
  have hr := B.returns
  have hts := atoms_spec (ws := w_q_drawnRows) B.pre
  have hown : s.vm.findClass RX4 = some m.cls := findClass_of_methodNamed B.named
  have hlocks := B.notSynchronized
  have inX4 : ∀ w ∈ wsX40, w ∈ w_q_drawnRows := fun w h => List.mem_cons_of_mem _ (List.mem_append_left _ (List.mem_append_right _ h))
  have inX7 : ∀ w ∈ wsX70, w ∈ w_q_drawnRows := fun w h => List.mem_cons_of_mem _ (List.mem_append_right _ h)
  subst hsz
  have hD := hD0.self (sz := s.heap.size)
  generalize hAe : va_A [(h0, .inr (2, [.ref eh, .ref dh, .int tk, .int stt, .int en, .long dr])), (eh, .inr (5, [.int ts, .ref q0])), (q0, .inl (c0, 120, .inl f0))] s.heap.size = A at hD ⊢
  have hA : ∀ q : Nat, s.heap.size ≤ q → A q := fun q h => by rw [← hAe]; exact Or.inr h
  have hS : va_S A s.heap s.heap [] := va_S.rf
  have hP : va_P (dC, dI) vwCl [(h0, .inr (2, [.ref eh, .ref dh, .int tk, .int stt, .int en, .long dr])), (eh, .inr (5, [.int ts, .ref q0])), (q0, .inl (c0, 120, .inl f0))] s.heap := hP
  have hl := lv_entry ([.ref h0, .int k]) (n := 4) (Nat.le_of_ble_eq_true rfl)
  rw [lg_entry_eq]
  generalize (lg_sl ([.ref h0, .int k]) ++ List.replicate (4 - (lg_sl ([.ref h0, .int k])).length) Slot.unset).toArray = ls at hl ⊢
  have hl : lv_has ls 4 [(0, .ref h0), (1, .int k)] := hl
  refine lv_aload_n hx hb dX4_drawnRows_0 rfl (lv_at hl 0 rfl) ?_
  refine lv_lconst (v := 0) hx hb dX4_drawnRows_1 (by decide) ?_
  refine va_put (D := (dC, dI)) (ci := 2) (v := .long 0) (ty := .long) (C := RX4) (T := TX4) (N := 6) hx hb hts inX4 tyX4 tyX4_ok nmX4 hown hK hP hD hS 0 rfl rfl 5 (by decide) (hts _ (List.mem_of_getElem? (i := 1) rfl)) (fun _ h9 => h9) rfl (by decide +kernel) rfl rfl (Nat.le_of_ble_eq_true rfl) dX4_drawnRows_2 (fun H locs hP hD hS => ?_)
  have hP : va_P (dC, dI) vwCl [(h0, .inr (2, [.ref eh, .ref dh, .int tk, .int stt, .int en, .long 0])), (eh, .inr (5, [.int ts, .ref q0])), (q0, .inl (c0, 120, .inl f0))] H := hP
  have hD : va_D A [(h0, .inr (2, [.ref eh, .ref dh, .int tk, .int stt, .int en, .long 0])), (eh, .inr (5, [.int ts, .ref q0])), (q0, .inl (c0, 120, .inl f0))] := hD
  refine lv_aload_n hx hb dX4_drawnRows_5 rfl (lv_at hl 0 rfl) ?_
  refine va_get (D := (dC, dI)) (ci := 2) (v := .int tk) (C := RX4) (T := TX4) (N := 6) hx hb hts inX4 hown hK hP 0 rfl rfl 2 (by decide) (hts _ (List.mem_of_getElem? (i := 2) rfl)) (fun _ h9 => h9) rfl dX4_drawnRows_6 ?_
  refine lv_iconst (v := 3) hx hb dX4_drawnRows_9 (by decide) ?_
  refine lv_icmp_eq (tgt := 15) hx hb dX4_drawnRows_10 (by decide) (fun c_1 => ?_) (fun c_1 => ?_)
  · skip
    have tc_1 : tk.toInt = 3 := (fa_eq _ _).mp c_1
    refine lv_iconst (v := 0) hx hb dX4_drawnRows_15 (by decide) ?_
    refine lv_istore_n (lv' := [(2, .int 0), (0, .ref h0), (1, .int k)]) hx hb dX4_drawnRows_16 rfl hl (by decide) rfl (fun ls hl => ?_)
    refine pp_loop (ι := Int32 × Int32 × Int32 × Int32 × Int64) (fun ⟨v2_17, ty, sy, ey, dy⟩ => (k.toInt - v2_17.toInt).toNat) (fun ⟨v2_17, ty, sy, ey, dy⟩ H locs ls => (0 ≤ sy.toInt ∧ ey.toInt ≤ ts.toInt ∧ sy.toInt ≤ ey.toInt) ∧ (0 ≤ v2_17.toInt) ∧ va_P (dC, dI) vwCl [(h0, .inr (2, [.ref eh, .ref dh, .int ty, .int sy, .int ey, .long dy])), (eh, .inr (5, [.int ts, .ref q0])), (q0, .inl (c0, 120, .inl f0))] H ∧ va_D A [(h0, .inr (2, [.ref eh, .ref dh, .int ty, .int sy, .int ey, .long dy])), (eh, .inr (5, [.int ts, .ref q0])), (q0, .inl (c0, 120, .inl f0))] ∧ va_S A s.heap H locs ∧ lv_has ls 4 [(2, .int v2_17), (0, .ref h0), (1, .int k)]) ?_ (0, tk, stt, en, 0) _ _ _ ⟨(by first | omega | decide | (simp only [fa_lt, fa_le, fa_eq, and_true, true_and, and_false, false_and, not_true_eq_false, not_false_eq_true, li_0, li_1, li_2, li_3, li_4, li_5, li_6, li_7, li_8, li_9, li_10, li_12, li_15, li_16, li_20, li_30, li_34, li_38, li_40, li_63, li_64, li_65, li_78, li_120, li_1000, li_4000, li_10000, li_11077, li_255, li_65535, li_m1, li_m2, li_m1000000001, li_m1000000002, li_m1000000003, li_m1000000004, li_m1000000005, li_m1000000006, li_m1000000007, or_true, true_or, or_false, false_or, implies_true, true_implies, false_implies] <;> omega)), (by first | omega | decide | (simp only [fa_lt, fa_le, fa_eq, and_true, true_and, and_false, false_and, not_true_eq_false, not_false_eq_true, li_0, li_1, li_2, li_3, li_4, li_5, li_6, li_7, li_8, li_9, li_10, li_12, li_15, li_16, li_20, li_30, li_34, li_38, li_40, li_63, li_64, li_65, li_78, li_120, li_1000, li_4000, li_10000, li_11077, li_255, li_65535, li_m1, li_m2, li_m1000000001, li_m1000000002, li_m1000000003, li_m1000000004, li_m1000000005, li_m1000000006, li_m1000000007, or_true, true_or, or_false, false_or, implies_true, true_implies, false_implies] <;> omega)), hP.sub [0, 1, 2] rfl, hD.sub [0, 1, 2] (by decide) rfl, hS, lv_sub hl [0, 1, 2] rfl⟩
    intro k_2 ihk_2 u H locs ls hm hI
    obtain ⟨v2_17, ty, sy, ey, dy⟩ := u
    obtain ⟨jk_2_0, jk_2_1, hP, hD, hS, hl⟩ := hI
    have hmk_2 : (k.toInt - v2_17.toInt).toNat < k_2 + 1 := hm
    clear hm
    have jk_2_0 : 0 ≤ sy.toInt ∧ ey.toInt ≤ ts.toInt ∧ sy.toInt ≤ ey.toInt := jk_2_0
    have jk_2_1 : 0 ≤ v2_17.toInt := jk_2_1
    have hl : lv_has ls 4 [(2, .int v2_17), (0, .ref h0), (1, .int k)] := hl
    have hP : va_P (dC, dI) vwCl [(h0, .inr (2, [.ref eh, .ref dh, .int ty, .int sy, .int ey, .long dy])), (eh, .inr (5, [.int ts, .ref q0])), (q0, .inl (c0, 120, .inl f0))] H := hP
    have hD : va_D A [(h0, .inr (2, [.ref eh, .ref dh, .int ty, .int sy, .int ey, .long dy])), (eh, .inr (5, [.int ts, .ref q0])), (q0, .inl (c0, 120, .inl f0))] := hD
    refine lv_iload_n hx hb dX4_drawnRows_17 rfl (lv_at hl 0 rfl) ?_
    refine lv_iload_n hx hb dX4_drawnRows_18 rfl (lv_at hl 2 rfl) ?_
    have rc_3_x := pp_rng v2_17
    have rc_3_y := pp_rng k
    refine lv_icmp_ge (tgt := 111) hx hb dX4_drawnRows_19 (by decide) (fun c_3 => ?_) (fun c_3 => ?_)
    · skip
      have tc_3 : k.toInt ≤ v2_17.toInt := (fa_le _ _).mp c_3
      refine lv_iconst (v := 1) hx hb dX4_drawnRows_111 (by decide) ?_
      have hP9 := hP.sub (ws' := [(h0, .inr (2, [.ref eh, .ref dh, .int ty, .int sy, .int ey, .long dy])), (eh, .inr (5, [.int ts, .ref q0])), (q0, .inl (c0, 120, .inl f0))]) [0, 1, 2] rfl
      have hD9 := hD.sub (ws' := [(h0, .inr (2, [.ref eh, .ref dh, .int ty, .int sy, .int ey, .long dy])), (eh, .inr (5, [.int ts, .ref q0])), (q0, .inl (c0, 120, .inl f0))]) [0, 1, 2] (by decide) rfl
      have hK9 := hK.sub (tys' := [(c0, .int)]) [0] rfl
      exact W.zret (v := (1 : Int32)) hx hb hr (by decide) (fun t ht hW => ⟨⟨(1 : Int32), (), rfl, (by first | omega | decide | (simp only [fa_lt, fa_le, fa_eq, and_true, true_and, and_false, false_and, not_true_eq_false, not_false_eq_true, li_0, li_1, li_2, li_3, li_4, li_5, li_6, li_7, li_8, li_9, li_10, li_12, li_15, li_16, li_20, li_30, li_34, li_38, li_40, li_63, li_64, li_65, li_78, li_120, li_1000, li_4000, li_10000, li_11077, li_255, li_65535, li_m1, li_m2, li_m1000000001, li_m1000000002, li_m1000000003, li_m1000000004, li_m1000000005, li_m1000000006, li_m1000000007, or_true, true_or, or_false, false_or, implies_true, true_implies, false_implies] <;> omega)), ty, sy, ey, dy, (by first | omega | decide | (simp only [fa_lt, fa_le, fa_eq, and_true, true_and, and_false, false_and, not_true_eq_false, not_false_eq_true, li_0, li_1, li_2, li_3, li_4, li_5, li_6, li_7, li_8, li_9, li_10, li_12, li_15, li_16, li_20, li_30, li_34, li_38, li_40, li_63, li_64, li_65, li_78, li_120, li_1000, li_4000, li_10000, li_11077, li_255, li_65535, li_m1, li_m2, li_m1000000001, li_m1000000002, li_m1000000003, li_m1000000004, li_m1000000005, li_m1000000006, li_m1000000007, or_true, true_or, or_false, false_or, implies_true, true_implies, false_implies] <;> omega)), by rw [ht]; exact hP9, va_K.moved hW.alike hK9, hD9⟩, hS.F ht⟩) hS.2.2 dX4_drawnRows_112
    · skip
      have tc_3 : ¬ k.toInt ≤ v2_17.toInt := fun h => c_3 ((fa_le _ _).mpr h)
      refine lv_aload_n hx hb dX4_drawnRows_22 rfl (lv_at hl 1 rfl) ?_
      refine va_get (D := (dC, dI)) (ci := 2) (v := .int ty) (C := RX4) (T := TX4) (N := 6) hx hb hts inX4 hown hK hP 0 rfl rfl 2 (by decide) (hts _ (List.mem_of_getElem? (i := 2) rfl)) (fun _ h9 => h9) rfl dX4_drawnRows_23 ?_
      refine lv_iconst (v := 3) hx hb dX4_drawnRows_26 (by decide) ?_
      refine lv_icmp_ne (tgt := 111) hx hb dX4_drawnRows_27 (by decide) (fun c_4 => ?_) (fun c_4 => ?_)
      · skip
        have tc_4 : ¬ ty.toInt = 3 := fun h => c_4 ((fa_eq _ _).mpr h)
        refine lv_iconst (v := 1) hx hb dX4_drawnRows_111 (by decide) ?_
        have hP9 := hP.sub (ws' := [(h0, .inr (2, [.ref eh, .ref dh, .int ty, .int sy, .int ey, .long dy])), (eh, .inr (5, [.int ts, .ref q0])), (q0, .inl (c0, 120, .inl f0))]) [0, 1, 2] rfl
        have hD9 := hD.sub (ws' := [(h0, .inr (2, [.ref eh, .ref dh, .int ty, .int sy, .int ey, .long dy])), (eh, .inr (5, [.int ts, .ref q0])), (q0, .inl (c0, 120, .inl f0))]) [0, 1, 2] (by decide) rfl
        have hK9 := hK.sub (tys' := [(c0, .int)]) [0] rfl
        exact W.zret (v := (1 : Int32)) hx hb hr (by decide) (fun t ht hW => ⟨⟨(1 : Int32), (), rfl, (by first | omega | decide | (simp only [fa_lt, fa_le, fa_eq, and_true, true_and, and_false, false_and, not_true_eq_false, not_false_eq_true, li_0, li_1, li_2, li_3, li_4, li_5, li_6, li_7, li_8, li_9, li_10, li_12, li_15, li_16, li_20, li_30, li_34, li_38, li_40, li_63, li_64, li_65, li_78, li_120, li_1000, li_4000, li_10000, li_11077, li_255, li_65535, li_m1, li_m2, li_m1000000001, li_m1000000002, li_m1000000003, li_m1000000004, li_m1000000005, li_m1000000006, li_m1000000007, or_true, true_or, or_false, false_or, implies_true, true_implies, false_implies] <;> omega)), ty, sy, ey, dy, (by first | omega | decide | (simp only [fa_lt, fa_le, fa_eq, and_true, true_and, and_false, false_and, not_true_eq_false, not_false_eq_true, li_0, li_1, li_2, li_3, li_4, li_5, li_6, li_7, li_8, li_9, li_10, li_12, li_15, li_16, li_20, li_30, li_34, li_38, li_40, li_63, li_64, li_65, li_78, li_120, li_1000, li_4000, li_10000, li_11077, li_255, li_65535, li_m1, li_m2, li_m1000000001, li_m1000000002, li_m1000000003, li_m1000000004, li_m1000000005, li_m1000000006, li_m1000000007, or_true, true_or, or_false, false_or, implies_true, true_implies, false_implies] <;> omega)), by rw [ht]; exact hP9, va_K.moved hW.alike hK9, hD9⟩, hS.F ht⟩) hS.2.2 dX4_drawnRows_112
      · skip
        have tc_4 : ty.toInt = 3 := (fa_eq _ _).mp c_4
        refine lv_aload_n hx hb dX4_drawnRows_30 rfl (lv_at hl 1 rfl) ?_
        refine va_get (D := (dC, dI)) (ci := 2) (v := .int ey) (C := RX4) (T := TX4) (N := 6) hx hb hts inX4 hown hK hP 0 rfl rfl 4 (by decide) (hts _ (List.mem_of_getElem? (i := 3) rfl)) (fun _ h9 => h9) rfl dX4_drawnRows_31 ?_
        refine lv_aload_n hx hb dX4_drawnRows_34 rfl (lv_at hl 1 rfl) ?_
        refine va_get (D := (dC, dI)) (ci := 2) (v := .int sy) (C := RX4) (T := TX4) (N := 6) hx hb hts inX4 hown hK hP 0 rfl rfl 3 (by decide) (hts _ (List.mem_of_getElem? (i := 4) rfl)) (fun _ h9 => h9) rfl dX4_drawnRows_35 ?_
        refine lv_isub hx hb dX4_drawnRows_38 ?_
        refine lv_topi (fun n_5 en_5 => ?_)
        have tn_5 : n_5.toInt = ey.toInt - sy.toInt := pp_sub en_5 rfl rfl (by omega) (by omega)
        clear en_5
        refine lv_iload_n hx hb dX4_drawnRows_39 rfl (lv_at hl 2 rfl) ?_
        have rc_6_x := pp_rng n_5
        have rc_6_y := pp_rng k
        refine lv_icmp_le (tgt := 45) hx hb dX4_drawnRows_40 (by decide) (fun c_6 => ?_) (fun c_6 => ?_)
        · skip
          have tc_6 : n_5.toInt ≤ k.toInt := (fa_le _ _).mp c_6
          refine lv_iconst (v := 0) hx hb dX4_drawnRows_45 (by decide) ?_
          refine lv_istore_n (lv' := [(3, .int 0), (2, .int v2_17), (0, .ref h0), (1, .int k)]) hx hb dX4_drawnRows_46 rfl hl (by decide) rfl (fun ls hl => ?_)
          refine pp_loop (ι := Int32 × Int64) (fun ⟨v3_47, dz⟩ => (ey.toInt - sy.toInt - v3_47.toInt).toNat) (fun ⟨v3_47, dz⟩ H locs ls => (0 ≤ v3_47.toInt) ∧ va_P (dC, dI) vwCl [(h0, .inr (2, [.ref eh, .ref dh, .int ty, .int sy, .int ey, .long dz])), (eh, .inr (5, [.int ts, .ref q0])), (q0, .inl (c0, 120, .inl f0))] H ∧ va_D A [(h0, .inr (2, [.ref eh, .ref dh, .int ty, .int sy, .int ey, .long dz])), (eh, .inr (5, [.int ts, .ref q0])), (q0, .inl (c0, 120, .inl f0))] ∧ va_S A s.heap H locs ∧ lv_has ls 4 [(3, .int v3_47), (2, .int v2_17), (0, .ref h0), (1, .int k)]) ?_ (0, dy) _ _ _ ⟨(by first | omega | decide | (simp only [fa_lt, fa_le, fa_eq, and_true, true_and, and_false, false_and, not_true_eq_false, not_false_eq_true, li_0, li_1, li_2, li_3, li_4, li_5, li_6, li_7, li_8, li_9, li_10, li_12, li_15, li_16, li_20, li_30, li_34, li_38, li_40, li_63, li_64, li_65, li_78, li_120, li_1000, li_4000, li_10000, li_11077, li_255, li_65535, li_m1, li_m2, li_m1000000001, li_m1000000002, li_m1000000003, li_m1000000004, li_m1000000005, li_m1000000006, li_m1000000007, or_true, true_or, or_false, false_or, implies_true, true_implies, false_implies] <;> omega)), hP.sub [0, 1, 2] rfl, hD.sub [0, 1, 2] (by decide) rfl, hS, lv_sub hl [0, 1, 2, 3] rfl⟩
          intro k_7 ihk_7 u H locs ls hm hI
          obtain ⟨v3_47, dz⟩ := u
          obtain ⟨jk_7_0, hP, hD, hS, hl⟩ := hI
          have hmk_7 : (ey.toInt - sy.toInt - v3_47.toInt).toNat < k_7 + 1 := hm
          clear hm
          have jk_7_0 : 0 ≤ v3_47.toInt := jk_7_0
          have hl : lv_has ls 4 [(3, .int v3_47), (2, .int v2_17), (0, .ref h0), (1, .int k)] := hl
          have hP : va_P (dC, dI) vwCl [(h0, .inr (2, [.ref eh, .ref dh, .int ty, .int sy, .int ey, .long dz])), (eh, .inr (5, [.int ts, .ref q0])), (q0, .inl (c0, 120, .inl f0))] H := hP
          have hD : va_D A [(h0, .inr (2, [.ref eh, .ref dh, .int ty, .int sy, .int ey, .long dz])), (eh, .inr (5, [.int ts, .ref q0])), (q0, .inl (c0, 120, .inl f0))] := hD
          refine lv_iload_n hx hb dX4_drawnRows_47 rfl (lv_at hl 0 rfl) ?_
          refine lv_aload_n hx hb dX4_drawnRows_48 rfl (lv_at hl 2 rfl) ?_
          refine va_get (D := (dC, dI)) (ci := 2) (v := .int ey) (C := RX4) (T := TX4) (N := 6) hx hb hts inX4 hown hK hP 0 rfl rfl 4 (by decide) (hts _ (List.mem_of_getElem? (i := 3) rfl)) (fun _ h9 => h9) rfl dX4_drawnRows_49 ?_
          refine lv_aload_n hx hb dX4_drawnRows_52 rfl (lv_at hl 2 rfl) ?_
          refine va_get (D := (dC, dI)) (ci := 2) (v := .int sy) (C := RX4) (T := TX4) (N := 6) hx hb hts inX4 hown hK hP 0 rfl rfl 3 (by decide) (hts _ (List.mem_of_getElem? (i := 4) rfl)) (fun _ h9 => h9) rfl dX4_drawnRows_53 ?_
          refine lv_isub hx hb dX4_drawnRows_56 ?_
          refine lv_topi (fun n_8 en_8 => ?_)
          have tn_8 : n_8.toInt = ey.toInt - sy.toInt := pp_sub en_8 rfl rfl (by omega) (by omega)
          clear en_8
          have rc_9_x := pp_rng v3_47
          have rc_9_y := pp_rng n_8
          refine lv_icmp_ge (tgt := 101) hx hb dX4_drawnRows_57 (by decide) (fun c_9 => ?_) (fun c_9 => ?_)
          · skip
            have tc_9 : n_8.toInt ≤ v3_47.toInt := (fa_le _ _).mp c_9
            refine lv_aload_n hx hb dX4_drawnRows_101 rfl (lv_at hl 2 rfl) ?_
            have hPc := hP.sub (ws' := [(h0, .inr (2, [.ref eh, .ref dh, .int ty, .int sy, .int ey, .long dz])), (eh, .inr (5, [.int ts, .ref q0])), (q0, .inl (c0, 120, .inl f0))]) [0, 1, 2] rfl
            have hKc := hK.sub (tys' := [(c0, .int)]) [0] rfl
            have hDc := hD.sub (ws' := [(h0, .inr (2, [.ref eh, .ref dh, .int ty, .int sy, .int ey, .long dz])), (eh, .inr (5, [.int ts, .ref q0])), (q0, .inl (c0, 120, .inl f0))]) [0, 1, 2] (by decide) rfl
            have hFc := va_free (wc := [(h0, .inr (2, [.ref eh, .ref dh, .int ty, .int sy, .int ey, .long dz])), (eh, .inr (5, [.int ts, .ref q0])), (q0, .inl (c0, 120, .inl f0))]) hD hS hA [0, 1, 2] rfl
            refine va_callv (va_runV (As := []) (rest := []) ⟨hx, hb, hml, hown, hts⟩ (q_advance l dC dI ad h0 eh dh ty sy ey dz ts q0 c0 f0 H.size hts2 (by first | omega | decide | (simp only [fa_lt, fa_le, fa_eq, and_true, true_and, and_false, false_and, not_true_eq_false, not_false_eq_true, li_0, li_1, li_2, li_3, li_4, li_5, li_6, li_7, li_8, li_9, li_10, li_12, li_15, li_16, li_20, li_30, li_34, li_38, li_40, li_63, li_64, li_65, li_78, li_120, li_1000, li_4000, li_10000, li_11077, li_255, li_65535, li_m1, li_m2, li_m1000000001, li_m1000000002, li_m1000000003, li_m1000000004, li_m1000000005, li_m1000000006, li_m1000000007, or_true, true_or, or_false, false_or, implies_true, true_implies, false_implies] <;> omega))) (cwV 0 hts g_q_drawnRows_q_advance_39 rfl rfl rfl (by decide +kernel) ⟨(Nat.le_of_ble_eq_true rfl), (Nat.le_of_ble_eq_true rfl)⟩) ⟨preM_blind, va_recv hKc hPc (ci := 2) (q0 := 0) rfl rfl, fun U hU hW => ⟨rfl, preM_at hU hW hPc hKc hDc hev⟩⟩ rfl rfl hl.1 rfl (lv_room (Nat.le_of_ble_eq_true rfl)) dX4_drawnRows_102 ⟨(Nat.le_of_ble_eq_true rfl), (Nat.le_of_ble_eq_true rfl)⟩) hS (fun q _ h => hFc q h) hFc (fun u t H1 locs ht hvm hw hB hz1 hk1 hS => ?_)
            obtain ⟨tk_11, st_12, en_13, hq_14, hP1, hK1, hD1⟩ := hB
            rw [ht] at hP1
            have hK1 := va_K.moved hvm.symm hK1
            obtain ⟨hP, hD⟩ := va_join (wr := []) (w1 := [(h0, .inr (2, [.ref eh, .ref dh, .int tk_11, .int st_12, .int en_13, .long dz])), (eh, .inr (5, [.int ts, .ref q0])), (q0, .inl (c0, 120, .inl f0))]) hP hD [0, 1, 2] [] rfl rfl (by decide) (by decide) hk1 hFc hP1 hD1
            generalize H1 = H at hP hS ⊢
            have hP : va_P (dC, dI) vwCl [(h0, .inr (2, [.ref eh, .ref dh, .int tk_11, .int st_12, .int en_13, .long dz])), (eh, .inr (5, [.int ts, .ref q0])), (q0, .inl (c0, 120, .inl f0))] H := hP
            have hD : va_D A [(h0, .inr (2, [.ref eh, .ref dh, .int tk_11, .int st_12, .int en_13, .long dz])), (eh, .inr (5, [.int ts, .ref q0])), (q0, .inl (c0, 120, .inl f0))] := hD
            obtain ⟨n_15, en_15⟩ : ∃ y : Int32, y = v2_17 + 1 := ⟨_, rfl⟩
            have tn_15 : n_15.toInt = v2_17.toInt + 1 := pp_add en_15 rfl rfl (by omega) (by omega)
            refine lv_iinc (v := n_15) (lv' := [(2, .int n_15), (3, .int v3_47), (0, .ref h0), (1, .int k)]) hx hb dX4_drawnRows_105 hl (k := 1) rfl (by rw [en_15]; rfl) (by decide) rfl (fun ls hl => ?_)
            clear en_15
            refine lv_goto (tgt := 17) hx hb dX4_drawnRows_108 (by decide) ?_
            exact ihk_2 (n_15, tk_11, st_12, en_13, dz) _ _ _ (by show (k.toInt - n_15.toInt).toNat < k_2; omega) ⟨(by first | omega | decide | (simp only [fa_lt, fa_le, fa_eq, and_true, true_and, and_false, false_and, not_true_eq_false, not_false_eq_true, li_0, li_1, li_2, li_3, li_4, li_5, li_6, li_7, li_8, li_9, li_10, li_12, li_15, li_16, li_20, li_30, li_34, li_38, li_40, li_63, li_64, li_65, li_78, li_120, li_1000, li_4000, li_10000, li_11077, li_255, li_65535, li_m1, li_m2, li_m1000000001, li_m1000000002, li_m1000000003, li_m1000000004, li_m1000000005, li_m1000000006, li_m1000000007, or_true, true_or, or_false, false_or, implies_true, true_implies, false_implies] <;> omega)), (by first | omega | decide | (simp only [fa_lt, fa_le, fa_eq, and_true, true_and, and_false, false_and, not_true_eq_false, not_false_eq_true, li_0, li_1, li_2, li_3, li_4, li_5, li_6, li_7, li_8, li_9, li_10, li_12, li_15, li_16, li_20, li_30, li_34, li_38, li_40, li_63, li_64, li_65, li_78, li_120, li_1000, li_4000, li_10000, li_11077, li_255, li_65535, li_m1, li_m2, li_m1000000001, li_m1000000002, li_m1000000003, li_m1000000004, li_m1000000005, li_m1000000006, li_m1000000007, or_true, true_or, or_false, false_or, implies_true, true_implies, false_implies] <;> omega)), hP.sub [0, 1, 2] rfl, hD.sub [0, 1, 2] (by decide) rfl, hS, lv_sub hl [0, 2, 3] rfl⟩
          · skip
            have tc_9 : ¬ n_8.toInt ≤ v3_47.toInt := fun h => c_9 ((fa_le _ _).mpr h)
            refine lv_aload_n hx hb dX4_drawnRows_60 rfl (lv_at hl 2 rfl) ?_
            refine va_get (D := (dC, dI)) (ci := 2) (v := .ref eh) (C := RX4) (T := TX4) (N := 6) hx hb hts inX4 hown hK hP 0 rfl rfl 0 (by decide) (hts _ (List.mem_of_getElem? (i := 10) rfl)) (fun _ h9 => h9) rfl dX4_drawnRows_61 ?_
            refine va_getN (D := (dC, dI)) (ci := 5) (v := .ref q0) (C := RX7) (T := TX7) (N := 2) hx hb hts inX7 hown hK hP 1 rfl rfl 1 (by decide) (ev_nest hev 18 rfl) (fun _ h9 => h9) rfl dX4_drawnRows_64 ?_
            refine lv_aload_n hx hb dX4_drawnRows_67 rfl (lv_at hl 2 rfl) ?_
            refine va_get (D := (dC, dI)) (ci := 2) (v := .int sy) (C := RX4) (T := TX4) (N := 6) hx hb hts inX4 hown hK hP 0 rfl rfl 3 (by decide) (hts _ (List.mem_of_getElem? (i := 4) rfl)) (fun _ h9 => h9) rfl dX4_drawnRows_68 ?_
            refine lv_iload_n hx hb dX4_drawnRows_71 rfl (lv_at hl 0 rfl) ?_
            refine lv_iadd hx hb dX4_drawnRows_72 ?_
            refine lv_topi (fun n_16 en_16 => ?_)
            have tn_16 : n_16.toInt = sy.toInt + v3_47.toInt := pp_add en_16 rfl rfl (by omega) (by omega)
            clear en_16
            refine va_iald hx hb hK hP 2 0 rfl rfl (vp_in_iff.mpr ⟨by omega, by omega⟩) dX4_drawnRows_73 ?_
            refine lv_topi (fun n_17 en_17 => ?_)
            clear en_17
            refine lv_bipush (v := 35) hx hb dX4_drawnRows_74 (by decide) ?_
            refine lv_icmp_ne (tgt := 95) hx hb dX4_drawnRows_76 (by decide) (fun c_18 => ?_) (fun c_18 => ?_)
            · skip
              have tc_18 : ¬ n_17.toInt = 35 := fun h => c_18 ((fa_eq _ _).mpr h)
              obtain ⟨n_19, en_19⟩ : ∃ y : Int32, y = v3_47 + 1 := ⟨_, rfl⟩
              have tn_19 : n_19.toInt = v3_47.toInt + 1 := pp_add en_19 rfl rfl (by omega) (by omega)
              refine lv_iinc (v := n_19) (lv' := [(3, .int n_19), (2, .int v2_17), (0, .ref h0), (1, .int k)]) hx hb dX4_drawnRows_95 hl (k := 0) rfl (by rw [en_19]; rfl) (by decide) rfl (fun ls hl => ?_)
              clear en_19
              refine lv_goto (tgt := 47) hx hb dX4_drawnRows_98 (by decide) ?_
              exact ihk_7 (n_19, dz) _ _ _ (by show (ey.toInt - sy.toInt - n_19.toInt).toNat < k_7; omega) ⟨(by first | omega | decide | (simp only [fa_lt, fa_le, fa_eq, and_true, true_and, and_false, false_and, not_true_eq_false, not_false_eq_true, li_0, li_1, li_2, li_3, li_4, li_5, li_6, li_7, li_8, li_9, li_10, li_12, li_15, li_16, li_20, li_30, li_34, li_38, li_40, li_63, li_64, li_65, li_78, li_120, li_1000, li_4000, li_10000, li_11077, li_255, li_65535, li_m1, li_m2, li_m1000000001, li_m1000000002, li_m1000000003, li_m1000000004, li_m1000000005, li_m1000000006, li_m1000000007, or_true, true_or, or_false, false_or, implies_true, true_implies, false_implies] <;> omega)), hP.sub [0, 1, 2] rfl, hD.sub [0, 1, 2] (by decide) rfl, hS, lv_sub hl [0, 1, 2, 3] rfl⟩
            · skip
              have tc_18 : n_17.toInt = 35 := (fa_eq _ _).mp c_18
              refine lv_aload_n hx hb dX4_drawnRows_79 rfl (lv_at hl 2 rfl) ?_
              refine lv_dup hx hb dX4_drawnRows_80 rfl ?_
              refine va_get (D := (dC, dI)) (ci := 2) (v := .long dz) (C := RX4) (T := TX4) (N := 6) hx hb hts inX4 hown hK hP 0 rfl rfl 5 (by decide) (hts _ (List.mem_of_getElem? (i := 1) rfl)) (fun _ h9 => h9) rfl dX4_drawnRows_81 ?_
              refine lv_lconst (v := 1) hx hb dX4_drawnRows_84 (by decide) ?_
              refine lv_iload_n hx hb dX4_drawnRows_85 rfl (lv_at hl 3 rfl) ?_
              refine lv_iload_n hx hb dX4_drawnRows_86 rfl (lv_at hl 1 rfl) ?_
              refine lv_imul hx hb dX4_drawnRows_87 ?_
              refine lv_topi (fun n_20 en_20 => ?_)
              clear en_20
              refine lv_iload_n hx hb dX4_drawnRows_88 rfl (lv_at hl 0 rfl) ?_
              refine lv_iadd hx hb dX4_drawnRows_89 ?_
              refine lv_topi (fun n_21 en_21 => ?_)
              clear en_21
              obtain ⟨n_22, en_22⟩ : ∃ z : Int64, z = (1 : Int64) <<< (n_21.toInt64 &&& 63) := ⟨_, rfl⟩
              refine lv_lshl (v := n_22) hx hb dX4_drawnRows_90 en_22.symm ?_
              clear en_22
              refine lv_lor hx hb dX4_drawnRows_91 ?_
              refine lv_topl (fun n_23 en_23 => ?_)
              clear en_23
              refine va_put (D := (dC, dI)) (ci := 2) (v := .long n_23) (ty := .long) (C := RX4) (T := TX4) (N := 6) hx hb hts inX4 tyX4 tyX4_ok nmX4 hown hK hP hD hS 0 rfl rfl 5 (by decide) (hts _ (List.mem_of_getElem? (i := 1) rfl)) (fun _ h9 => h9) rfl (by decide +kernel) rfl rfl (Nat.le_of_ble_eq_true rfl) dX4_drawnRows_92 (fun H locs hP hD hS => ?_)
              have hP : va_P (dC, dI) vwCl [(h0, .inr (2, [.ref eh, .ref dh, .int ty, .int sy, .int ey, .long n_23])), (eh, .inr (5, [.int ts, .ref q0])), (q0, .inl (c0, 120, .inl f0))] H := hP
              have hD : va_D A [(h0, .inr (2, [.ref eh, .ref dh, .int ty, .int sy, .int ey, .long n_23])), (eh, .inr (5, [.int ts, .ref q0])), (q0, .inl (c0, 120, .inl f0))] := hD
              obtain ⟨n_24, en_24⟩ : ∃ y : Int32, y = v3_47 + 1 := ⟨_, rfl⟩
              have tn_24 : n_24.toInt = v3_47.toInt + 1 := pp_add en_24 rfl rfl (by omega) (by omega)
              refine lv_iinc (v := n_24) (lv' := [(3, .int n_24), (2, .int v2_17), (0, .ref h0), (1, .int k)]) hx hb dX4_drawnRows_95 hl (k := 0) rfl (by rw [en_24]; rfl) (by decide) rfl (fun ls hl => ?_)
              clear en_24
              refine lv_goto (tgt := 47) hx hb dX4_drawnRows_98 (by decide) ?_
              exact ihk_7 (n_24, n_23) _ _ _ (by show (ey.toInt - sy.toInt - n_24.toInt).toNat < k_7; omega) ⟨(by first | omega | decide | (simp only [fa_lt, fa_le, fa_eq, and_true, true_and, and_false, false_and, not_true_eq_false, not_false_eq_true, li_0, li_1, li_2, li_3, li_4, li_5, li_6, li_7, li_8, li_9, li_10, li_12, li_15, li_16, li_20, li_30, li_34, li_38, li_40, li_63, li_64, li_65, li_78, li_120, li_1000, li_4000, li_10000, li_11077, li_255, li_65535, li_m1, li_m2, li_m1000000001, li_m1000000002, li_m1000000003, li_m1000000004, li_m1000000005, li_m1000000006, li_m1000000007, or_true, true_or, or_false, false_or, implies_true, true_implies, false_implies] <;> omega)), hP.sub [0, 1, 2] rfl, hD.sub [0, 1, 2] (by decide) rfl, hS, lv_sub hl [0, 1, 2, 3] rfl⟩
        · skip
          have tc_6 : ¬ n_5.toInt ≤ k.toInt := fun h => c_6 ((fa_le _ _).mpr h)
          refine lv_iconst (v := 0) hx hb dX4_drawnRows_43 (by decide) ?_
          have hP9 := hP.sub (ws' := [(h0, .inr (2, [.ref eh, .ref dh, .int ty, .int sy, .int ey, .long dy])), (eh, .inr (5, [.int ts, .ref q0])), (q0, .inl (c0, 120, .inl f0))]) [0, 1, 2] rfl
          have hD9 := hD.sub (ws' := [(h0, .inr (2, [.ref eh, .ref dh, .int ty, .int sy, .int ey, .long dy])), (eh, .inr (5, [.int ts, .ref q0])), (q0, .inl (c0, 120, .inl f0))]) [0, 1, 2] (by decide) rfl
          have hK9 := hK.sub (tys' := [(c0, .int)]) [0] rfl
          exact W.zret (v := (0 : Int32)) hx hb hr (by decide) (fun t ht hW => ⟨⟨(0 : Int32), (), rfl, (by first | omega | decide | (simp only [fa_lt, fa_le, fa_eq, and_true, true_and, and_false, false_and, not_true_eq_false, not_false_eq_true, li_0, li_1, li_2, li_3, li_4, li_5, li_6, li_7, li_8, li_9, li_10, li_12, li_15, li_16, li_20, li_30, li_34, li_38, li_40, li_63, li_64, li_65, li_78, li_120, li_1000, li_4000, li_10000, li_11077, li_255, li_65535, li_m1, li_m2, li_m1000000001, li_m1000000002, li_m1000000003, li_m1000000004, li_m1000000005, li_m1000000006, li_m1000000007, or_true, true_or, or_false, false_or, implies_true, true_implies, false_implies] <;> omega)), ty, sy, ey, dy, (by first | omega | decide | (simp only [fa_lt, fa_le, fa_eq, and_true, true_and, and_false, false_and, not_true_eq_false, not_false_eq_true, li_0, li_1, li_2, li_3, li_4, li_5, li_6, li_7, li_8, li_9, li_10, li_12, li_15, li_16, li_20, li_30, li_34, li_38, li_40, li_63, li_64, li_65, li_78, li_120, li_1000, li_4000, li_10000, li_11077, li_255, li_65535, li_m1, li_m2, li_m1000000001, li_m1000000002, li_m1000000003, li_m1000000004, li_m1000000005, li_m1000000006, li_m1000000007, or_true, true_or, or_false, false_or, implies_true, true_implies, false_implies] <;> omega)), by rw [ht]; exact hP9, va_K.moved hW.alike hK9, hD9⟩, hS.F ht⟩) hS.2.2 dX4_drawnRows_44
  · skip
    have tc_1 : ¬ tk.toInt = 3 := fun h => c_1 ((fa_eq _ _).mpr h)
    refine lv_iconst (v := 0) hx hb dX4_drawnRows_13 (by decide) ?_
    have hP9 := hP.sub (ws' := [(h0, .inr (2, [.ref eh, .ref dh, .int tk, .int stt, .int en, .long 0])), (eh, .inr (5, [.int ts, .ref q0])), (q0, .inl (c0, 120, .inl f0))]) [0, 1, 2] rfl
    have hD9 := hD.sub (ws' := [(h0, .inr (2, [.ref eh, .ref dh, .int tk, .int stt, .int en, .long 0])), (eh, .inr (5, [.int ts, .ref q0])), (q0, .inl (c0, 120, .inl f0))]) [0, 1, 2] (by decide) rfl
    have hK9 := hK.sub (tys' := [(c0, .int)]) [0] rfl
    exact W.zret (v := (0 : Int32)) hx hb hr (by decide) (fun t ht hW => ⟨⟨(0 : Int32), (), rfl, (by first | omega | decide | (simp only [fa_lt, fa_le, fa_eq, and_true, true_and, and_false, false_and, not_true_eq_false, not_false_eq_true, li_0, li_1, li_2, li_3, li_4, li_5, li_6, li_7, li_8, li_9, li_10, li_12, li_15, li_16, li_20, li_30, li_34, li_38, li_40, li_63, li_64, li_65, li_78, li_120, li_1000, li_4000, li_10000, li_11077, li_255, li_65535, li_m1, li_m2, li_m1000000001, li_m1000000002, li_m1000000003, li_m1000000004, li_m1000000005, li_m1000000006, li_m1000000007, or_true, true_or, or_false, false_or, implies_true, true_implies, false_implies] <;> omega)), tk, stt, en, 0, (by first | omega | decide | (simp only [fa_lt, fa_le, fa_eq, and_true, true_and, and_false, false_and, not_true_eq_false, not_false_eq_true, li_0, li_1, li_2, li_3, li_4, li_5, li_6, li_7, li_8, li_9, li_10, li_12, li_15, li_16, li_20, li_30, li_34, li_38, li_40, li_63, li_64, li_65, li_78, li_120, li_1000, li_4000, li_10000, li_11077, li_255, li_65535, li_m1, li_m2, li_m1000000001, li_m1000000002, li_m1000000003, li_m1000000004, li_m1000000005, li_m1000000006, li_m1000000007, or_true, true_or, or_false, false_or, implies_true, true_implies, false_implies] <;> omega)), by rw [ht]; exact hP9, va_K.moved hW.alike hK9, hD9⟩, hS.F ht⟩) hS.2.2 dX4_drawnRows_14

def w_q_shapeItem : List Cond := .code yX4_shapeItem cX4_shapeItem 2 (some .boolean) :: (([.fieldLink RX4 21 "LampShapes$Script" "stage" "LLampShapes$Stage;", .methodLink RX4 115 yX6_hasRoomForShape, .instanceMethod yX6_hasRoomForShape, .selects RX6 yX6_hasRoomForShape yX6_hasRoomForShape, .initialized RX6, .code yX6_hasRoomForShape cX6_hasRoomForShape 1 (some .boolean), .fieldLink RX6 9 "LampShapes$Stage" "shapes" "I", .methodLink RX4 39 yX4_advance, .instanceMethod yX4_advance, .selects RX4 yX4_advance yX4_advance, .initialized RX4, .code yX4_advance cX4_advance 1 none, .fieldLink RX4 32 "LampShapes$Script" "end" "I", .fieldLink RX4 29 "LampShapes$Script" "start" "I", .fieldLink RX4 12 "LampShapes$Script" "tape" "LLampShapes$Tape;", .methodLink RX4 53 yX4_sortOf, .static yX4_sortOf, .code yX4_sortOf cX4_sortOf 1 (some .int), .fieldLink RX4 25 "LampShapes$Script" "token" "I", .methodLink RX4 118 yX4_drawnRows, .instanceMethod yX4_drawnRows, .selects RX4 yX4_drawnRows yX4_drawnRows, .code yX4_drawnRows cX4_drawnRows 4 (some .boolean), .fieldLink RX4 35 "LampShapes$Script" "drawn" "J", .methodLink RX4 121 yX6_addShape, .instanceMethod yX6_addShape, .selects RX6 yX6_addShape yX6_addShape, .code yX6_addShape cX6_addShape 3 (some .int), .fieldLink RX6 15 "LampShapes$Stage" "kinds" "[I", .fieldLink RX6 19 "LampShapes$Stage" "points" "[I"] : List Cond) ++ wsX40 ++ wsX60 ++ wsX70)
set_option maxRecDepth 20000 in
theorem g_q_shapeItem_s_hasRoomForShape_115 : GoodIn w_q_shapeItem (wsV RX4 115 RX6 yX6_hasRoomForShape w_s_hasRoomForShape) := goodIn_r _ [2, 3, 4, 5, 6, 7, 37, 38, 39, 40, 41, 42, 43, 44, 45] rfl (by decide +kernel)
set_option maxRecDepth 20000 in
theorem g_q_shapeItem_q_advance_39 : GoodIn w_q_shapeItem (wsV RX4 39 RX4 yX4_advance w_q_advance) := goodIn_r _ [8, 9, 10, 11, 12, 13, 14, 15, 16, 17, 11, 18, 19, 31, 32, 33, 34, 35, 36, 46, 47] rfl (by decide +kernel)
set_option maxRecDepth 20000 in
theorem g_q_shapeItem_q_drawnRows_118 : GoodIn w_q_shapeItem (wsV RX4 118 RX4 yX4_drawnRows w_q_drawnRows) := goodIn_r _ [20, 21, 22, 11, 23, 24, 19, 13, 14, 8, 9, 10, 11, 12, 15, 16, 17, 18, 31, 32, 33, 34, 35, 36, 46, 47] rfl (by decide +kernel)
set_option maxRecDepth 20000 in
theorem g_q_shapeItem_s_addShape_121 : GoodIn w_q_shapeItem (wsV RX4 121 RX6 yX6_addShape w_s_addShape) := goodIn_r _ [25, 26, 27, 5, 28, 29, 7, 30, 37, 38, 39, 40, 41, 42, 43, 44, 45] rfl (by decide +kernel)
set_option maxHeartbeats 4000000 in
set_option maxRecDepth 100000 in
theorem q_shapeItem (l : Launch) (dC : Nat → ClassId) (dI : Nat → Nat → Nat) (ad : Nat → Nat) (h0 : Nat) (k : Int32) (eh : Nat) (dh : Nat) (tk : Int32) (stt : Int32) (en : Int32) (dr : Int64) (ts : Int32) (q0 : Nat) (c0 : ClassId) (f0 : Nat → Int32) (sh : Int32) (q1 : Nat) (q2 : Nat) (w3 : Value) (w4 : Value) (w5 : Value) (w6 : Value) (w7 : Value) (w8 : Value) (c1 : ClassId) (f1 : Nat → Int32) (c2 : ClassId) (f2 : Nat → Int32) (sz : Nat) (hts2 : 0 ≤ ts.toInt ∧ ts.toInt ≤ 120) (hse : 0 ≤ stt.toInt ∧ en.toInt ≤ ts.toInt ∧ stt.toInt ≤ en.toInt) (hsh : 0 ≤ sh.toInt ∧ sh.toInt ≤ 9) : Met l yX4_shapeItem w_q_shapeItem ({ frames := 3, cells := 0, slots := 0, locals := 63 } : Room) (va_Pc [.ref h0, .int k] (preM dC dI ad [(c0, .int), (c1, .int), (c2, .int)] [(h0, .inr (2, [.ref eh, .ref dh, .int tk, .int stt, .int en, .long dr])), (eh, .inr (5, [.int ts, .ref q0])), (q0, .inl (c0, 120, .inl f0)), (dh, .inr (4, [.int sh, .ref q1, .ref q2, w3, w4, w5, w6, w7, w8])), (q1, .inl (c1, 9, .inl f1)), (q2, .inl (c2, 9, .inl f2))] sz)) (va_Qi (fun (r : Int32) (_ : Unit) => r.toInt = 0 ∨ r.toInt = 1) (fun _ t => ∃ (tk2 : Int32), ∃ (st2 : Int32), ∃ (en2 : Int32), ∃ (dr2 : Int64), ∃ (sh2 : Int32), ∃ (g1 : Nat → Int32), ∃ (g2 : Nat → Int32), (0 ≤ st2.toInt ∧ st2.toInt ≤ en2.toInt ∧ en2.toInt ≤ ts.toInt) ∧ (0 ≤ sh2.toInt ∧ sh2.toInt ≤ 9) ∧ va_P (dC, dI) vwCl [(h0, .inr (2, [.ref eh, .ref dh, .int tk2, .int st2, .int en2, .long dr2])), (eh, .inr (5, [.int ts, .ref q0])), (q0, .inl (c0, 120, .inl f0)), (dh, .inr (4, [.int sh2, .ref q1, .ref q2, w3, w4, w5, w6, w7, w8])), (q1, .inl (c1, 9, .inl g1)), (q2, .inl (c2, 9, .inl g2))] t.heap ∧ va_K (dC, dI) vwCl [(c0, .int), (c1, .int), (c2, .int)] t ∧ va_D (va_A [(h0, .inr (2, [.ref eh, .ref dh, .int tk, .int stt, .int en, .long dr])), (eh, .inr (5, [.int ts, .ref q0])), (q0, .inl (c0, 120, .inl f0)), (dh, .inr (4, [.int sh, .ref q1, .ref q2, w3, w4, w5, w6, w7, w8])), (q1, .inl (c1, 9, .inl f1)), (q2, .inl (c2, 9, .inl f2))] sz) [(h0, .inr (2, [.ref eh, .ref dh, .int tk2, .int st2, .int en2, .long dr2])), (eh, .inr (5, [.int ts, .ref q0])), (q0, .inl (c0, 120, .inl f0)), (dh, .inr (4, [.int sh2, .ref q1, .ref q2, w3, w4, w5, w6, w7, w8])), (q1, .inl (c1, 9, .inl g1)), (q2, .inl (c2, 9, .inl g2))]) (va_A [(h0, .inr (2, [.ref eh, .ref dh, .int tk, .int stt, .int en, .long dr])), (eh, .inr (5, [.int ts, .ref q0])), (q0, .inl (c0, 120, .inl f0)), (dh, .inr (4, [.int sh, .ref q1, .ref q2, w3, w4, w5, w6, w7, w8])), (q1, .inl (c1, 9, .inl f1)), (q2, .inl (c2, 9, .inl f2))] sz)) 0 0 (va_A [(h0, .inr (2, [.ref eh, .ref dh, .int tk, .int stt, .int en, .long dr])), (eh, .inr (5, [.int ts, .ref q0])), (q0, .inl (c0, 120, .inl f0)), (dh, .inr (4, [.int sh, .ref q1, .ref q2, w3, w4, w5, w6, w7, w8])), (q1, .inl (c1, 9, .inl f1)), (q2, .inl (c2, 9, .inl f2))] sz) := by
  refine Met.ofW (cc := cX4_shapeItem) (maxL := 2) (ret := (some .boolean)) (by decide) rfl ?_
  intro p e s m args below meth c s₁ B hml hv
  obtain ⟨rfl, hsz, hP, hK, hD0, hev⟩ := hv
  have hx := B.exec
  have hb := B.bytes
  have hr := B.returns
  have hts := atoms_spec (ws := w_q_shapeItem) B.pre
  have hown : s.vm.findClass RX4 = some m.cls := findClass_of_methodNamed B.named
  have hlocks := B.notSynchronized
  have inX4 : ∀ w ∈ wsX40, w ∈ w_q_shapeItem := fun w h => List.mem_cons_of_mem _ (List.mem_append_left _ (List.mem_append_left _ (List.mem_append_right _ h)))
  have inX6 : ∀ w ∈ wsX60, w ∈ w_q_shapeItem := fun w h => List.mem_cons_of_mem _ (List.mem_append_left _ (List.mem_append_right _ h))
  have inX7 : ∀ w ∈ wsX70, w ∈ w_q_shapeItem := fun w h => List.mem_cons_of_mem _ (List.mem_append_right _ h)
  subst hsz
  have hD := hD0.self (sz := s.heap.size)
  generalize hAe : va_A [(h0, .inr (2, [.ref eh, .ref dh, .int tk, .int stt, .int en, .long dr])), (eh, .inr (5, [.int ts, .ref q0])), (q0, .inl (c0, 120, .inl f0)), (dh, .inr (4, [.int sh, .ref q1, .ref q2, w3, w4, w5, w6, w7, w8])), (q1, .inl (c1, 9, .inl f1)), (q2, .inl (c2, 9, .inl f2))] s.heap.size = A at hD ⊢
  have hA : ∀ q : Nat, s.heap.size ≤ q → A q := fun q h => by rw [← hAe]; exact Or.inr h
  have hS : va_S A s.heap s.heap [] := va_S.rf
  have hP : va_P (dC, dI) vwCl [(h0, .inr (2, [.ref eh, .ref dh, .int tk, .int stt, .int en, .long dr])), (eh, .inr (5, [.int ts, .ref q0])), (q0, .inl (c0, 120, .inl f0)), (dh, .inr (4, [.int sh, .ref q1, .ref q2, w3, w4, w5, w6, w7, w8])), (q1, .inl (c1, 9, .inl f1)), (q2, .inl (c2, 9, .inl f2))] s.heap := hP
  have hl := lv_entry ([.ref h0, .int k]) (n := 2) (Nat.le_of_ble_eq_true rfl)
  rw [lg_entry_eq]
  generalize (lg_sl ([.ref h0, .int k]) ++ List.replicate (2 - (lg_sl ([.ref h0, .int k])).length) Slot.unset).toArray = ls at hl ⊢
  have hl : lv_has ls 2 [(0, .ref h0), (1, .int k)] := hl
  refine lv_aload_n hx hb dX4_shapeItem_0 rfl (lv_at hl 0 rfl) ?_
  refine va_get (D := (dC, dI)) (ci := 2) (v := .ref dh) (C := RX4) (T := TX4) (N := 6) hx hb hts inX4 hown hK hP 0 rfl rfl 1 (by decide) (hts _ (List.mem_of_getElem? (i := 1) rfl)) (fun _ h9 => h9) rfl dX4_shapeItem_1 ?_
  have hPc := hP.sub (ws' := [(dh, .inr (4, [.int sh, .ref q1, .ref q2, w3, w4, w5, w6, w7, w8]))]) [3] rfl
  have hKc := hK.sub (tys' := []) [] rfl
  refine vp_callSi (W.runV (As := []) (rest := []) ⟨hx, hb, hml, hown, hts⟩ (s_hasRoomForShape l dC dI ad dh sh (.ref q1) (.ref q2) w3 w4 w5 w6 w7 w8 ) (cwV 0 hts g_q_shapeItem_s_hasRoomForShape_115 rfl rfl rfl (by decide +kernel) ⟨(Nat.le_of_ble_eq_true rfl), (Nat.le_of_ble_eq_true rfl)⟩) ⟨preS_blind, va_recv hKc hPc (ci := 4) (q0 := 0) rfl rfl, fun U hU hW => ⟨rfl, preS_at hU hW hPc hKc hev⟩⟩ rfl rfl hl.1 rfl (lv_room (Nat.le_of_ble_eq_true rfl)) dX4_shapeItem_4 ⟨(Nat.le_of_ble_eq_true rfl), (Nat.le_of_ble_eq_true rfl)⟩) (fun r_1 hw => ?_)
  have hr_1 : (r_1.toInt = 1 ∧ sh.toInt < 9) ∨ r_1.toInt = 0 := hw
  refine lv_if_ne (tgt := 12) hx hb dX4_shapeItem_7 (by decide) (fun c_2 => ?_) (fun c_2 => ?_)
  · skip
    have tc_2 : ¬ r_1.toInt = 0 := fun h => c_2 ((fa_eq _ _).mpr h)
    refine lv_aload_n hx hb dX4_shapeItem_12 rfl (lv_at hl 0 rfl) ?_
    have hPc := hP.sub (ws' := [(h0, .inr (2, [.ref eh, .ref dh, .int tk, .int stt, .int en, .long dr])), (eh, .inr (5, [.int ts, .ref q0])), (q0, .inl (c0, 120, .inl f0))]) [0, 1, 2] rfl
    have hKc := hK.sub (tys' := [(c0, .int)]) [0] rfl
    have hDc := hD.sub (ws' := [(h0, .inr (2, [.ref eh, .ref dh, .int tk, .int stt, .int en, .long dr])), (eh, .inr (5, [.int ts, .ref q0])), (q0, .inl (c0, 120, .inl f0))]) [0, 1, 2] (by decide) rfl
    have hFc := va_free (wc := [(h0, .inr (2, [.ref eh, .ref dh, .int tk, .int stt, .int en, .long dr])), (eh, .inr (5, [.int ts, .ref q0])), (q0, .inl (c0, 120, .inl f0))]) hD hS hA [0, 1, 2] rfl
    refine va_callv (va_runV (As := []) (rest := []) ⟨hx, hb, hml, hown, hts⟩ (q_advance l dC dI ad h0 eh dh tk stt en dr ts q0 c0 f0 s.heap.size hts2 (by first | omega | decide | (simp only [fa_lt, fa_le, fa_eq, and_true, true_and, and_false, false_and, not_true_eq_false, not_false_eq_true, li_0, li_1, li_2, li_3, li_4, li_5, li_6, li_7, li_8, li_9, li_10, li_12, li_15, li_16, li_20, li_30, li_34, li_38, li_40, li_63, li_64, li_65, li_78, li_120, li_1000, li_4000, li_10000, li_11077, li_255, li_65535, li_m1, li_m2, li_m1000000001, li_m1000000002, li_m1000000003, li_m1000000004, li_m1000000005, li_m1000000006, li_m1000000007, or_true, true_or, or_false, false_or, implies_true, true_implies, false_implies] <;> omega))) (cwV 0 hts g_q_shapeItem_q_advance_39 rfl rfl rfl (by decide +kernel) ⟨(Nat.le_of_ble_eq_true rfl), (Nat.le_of_ble_eq_true rfl)⟩) ⟨preM_blind, va_recv hKc hPc (ci := 2) (q0 := 0) rfl rfl, fun U hU hW => ⟨rfl, preM_at hU hW hPc hKc hDc hev⟩⟩ rfl rfl hl.1 rfl (lv_room (Nat.le_of_ble_eq_true rfl)) dX4_shapeItem_13 ⟨(Nat.le_of_ble_eq_true rfl), (Nat.le_of_ble_eq_true rfl)⟩) hS (fun q _ h => hFc q h) hFc (fun u t H1 locs ht hvm hw hB hz1 hk1 hS => ?_)
    obtain ⟨tk_4, st_5, en_6, hq_7, hP1, hK1, hD1⟩ := hB
    rw [ht] at hP1
    have hK1 := va_K.moved hvm.symm hK1
    obtain ⟨hP, hD⟩ := va_join (wr := [(dh, .inr (4, [.int sh, .ref q1, .ref q2, w3, w4, w5, w6, w7, w8])), (q1, .inl (c1, 9, .inl f1)), (q2, .inl (c2, 9, .inl f2))]) (w1 := [(h0, .inr (2, [.ref eh, .ref dh, .int tk_4, .int st_5, .int en_6, .long dr])), (eh, .inr (5, [.int ts, .ref q0])), (q0, .inl (c0, 120, .inl f0))]) hP hD [0, 1, 2] [3, 4, 5] rfl rfl (by decide) (by decide) hk1 hFc hP1 hD1
    generalize H1 = H at hP hS ⊢
    have hP : va_P (dC, dI) vwCl [(dh, .inr (4, [.int sh, .ref q1, .ref q2, w3, w4, w5, w6, w7, w8])), (q1, .inl (c1, 9, .inl f1)), (q2, .inl (c2, 9, .inl f2)), (h0, .inr (2, [.ref eh, .ref dh, .int tk_4, .int st_5, .int en_6, .long dr])), (eh, .inr (5, [.int ts, .ref q0])), (q0, .inl (c0, 120, .inl f0))] H := hP
    have hD : va_D A [(dh, .inr (4, [.int sh, .ref q1, .ref q2, w3, w4, w5, w6, w7, w8])), (q1, .inl (c1, 9, .inl f1)), (q2, .inl (c2, 9, .inl f2)), (h0, .inr (2, [.ref eh, .ref dh, .int tk_4, .int st_5, .int en_6, .long dr])), (eh, .inr (5, [.int ts, .ref q0])), (q0, .inl (c0, 120, .inl f0))] := hD
    refine lv_aload_n hx hb dX4_shapeItem_16 rfl (lv_at hl 0 rfl) ?_
    refine lv_iconst (v := 4) hx hb dX4_shapeItem_17 (by decide) ?_
    have hPc := hP.sub (ws' := [(h0, .inr (2, [.ref eh, .ref dh, .int tk_4, .int st_5, .int en_6, .long dr])), (eh, .inr (5, [.int ts, .ref q0])), (q0, .inl (c0, 120, .inl f0))]) [3, 4, 5] rfl
    have hKc := hK.sub (tys' := [(c0, .int)]) [0] rfl
    have hDc := hD.sub (ws' := [(h0, .inr (2, [.ref eh, .ref dh, .int tk_4, .int st_5, .int en_6, .long dr])), (eh, .inr (5, [.int ts, .ref q0])), (q0, .inl (c0, 120, .inl f0))]) [3, 4, 5] (by decide) rfl
    have hFc := va_free (wc := [(h0, .inr (2, [.ref eh, .ref dh, .int tk_4, .int st_5, .int en_6, .long dr])), (eh, .inr (5, [.int ts, .ref q0])), (q0, .inl (c0, 120, .inl f0))]) hD hS hA [3, 4, 5] rfl
    refine va_calli (va_runV (As := [.int 4]) (rest := []) ⟨hx, hb, hml, hown, hts⟩ (q_drawnRows l dC dI ad h0 4 eh dh tk_4 st_5 en_6 dr ts q0 c0 f0 H.size hts2 (by first | omega | decide | (simp only [fa_lt, fa_le, fa_eq, and_true, true_and, and_false, false_and, not_true_eq_false, not_false_eq_true, li_0, li_1, li_2, li_3, li_4, li_5, li_6, li_7, li_8, li_9, li_10, li_12, li_15, li_16, li_20, li_30, li_34, li_38, li_40, li_63, li_64, li_65, li_78, li_120, li_1000, li_4000, li_10000, li_11077, li_255, li_65535, li_m1, li_m2, li_m1000000001, li_m1000000002, li_m1000000003, li_m1000000004, li_m1000000005, li_m1000000006, li_m1000000007, or_true, true_or, or_false, false_or, implies_true, true_implies, false_implies] <;> omega)) (by first | omega | decide | (simp only [fa_lt, fa_le, fa_eq, and_true, true_and, and_false, false_and, not_true_eq_false, not_false_eq_true, li_0, li_1, li_2, li_3, li_4, li_5, li_6, li_7, li_8, li_9, li_10, li_12, li_15, li_16, li_20, li_30, li_34, li_38, li_40, li_63, li_64, li_65, li_78, li_120, li_1000, li_4000, li_10000, li_11077, li_255, li_65535, li_m1, li_m2, li_m1000000001, li_m1000000002, li_m1000000003, li_m1000000004, li_m1000000005, li_m1000000006, li_m1000000007, or_true, true_or, or_false, false_or, implies_true, true_implies, false_implies] <;> omega))) (cwV 1 hts g_q_shapeItem_q_drawnRows_118 rfl rfl rfl (by decide +kernel) ⟨(Nat.le_of_ble_eq_true rfl), (Nat.le_of_ble_eq_true rfl)⟩) ⟨preM_blind, va_recv hKc hPc (ci := 2) (q0 := 0) rfl rfl, fun U hU hW => ⟨rfl, preM_at hU hW hPc hKc hDc hev⟩⟩ rfl rfl hl.1 rfl (lv_room (Nat.le_of_ble_eq_true rfl)) dX4_shapeItem_18 ⟨(Nat.le_of_ble_eq_true rfl), (Nat.le_of_ble_eq_true rfl)⟩) hS (fun q _ h => hFc q h) hFc (fun r_8 u t H1 locs ht hvm hw hB hz1 hk1 hS => ?_)
    obtain ⟨tk_9, st_10, en_11, dr_12, hq_13, hP1, hK1, hD1⟩ := hB
    rw [ht] at hP1
    have hK1 := va_K.moved hvm.symm hK1
    obtain ⟨hP, hD⟩ := va_join (wr := [(dh, .inr (4, [.int sh, .ref q1, .ref q2, w3, w4, w5, w6, w7, w8])), (q1, .inl (c1, 9, .inl f1)), (q2, .inl (c2, 9, .inl f2))]) (w1 := [(h0, .inr (2, [.ref eh, .ref dh, .int tk_9, .int st_10, .int en_11, .long dr_12])), (eh, .inr (5, [.int ts, .ref q0])), (q0, .inl (c0, 120, .inl f0))]) hP hD [3, 4, 5] [0, 1, 2] rfl rfl (by decide) (by decide) hk1 hFc hP1 hD1
    generalize H1 = H at hP hS ⊢
    have hP : va_P (dC, dI) vwCl [(dh, .inr (4, [.int sh, .ref q1, .ref q2, w3, w4, w5, w6, w7, w8])), (q1, .inl (c1, 9, .inl f1)), (q2, .inl (c2, 9, .inl f2)), (h0, .inr (2, [.ref eh, .ref dh, .int tk_9, .int st_10, .int en_11, .long dr_12])), (eh, .inr (5, [.int ts, .ref q0])), (q0, .inl (c0, 120, .inl f0))] H := hP
    have hD : va_D A [(dh, .inr (4, [.int sh, .ref q1, .ref q2, w3, w4, w5, w6, w7, w8])), (q1, .inl (c1, 9, .inl f1)), (q2, .inl (c2, 9, .inl f2)), (h0, .inr (2, [.ref eh, .ref dh, .int tk_9, .int st_10, .int en_11, .long dr_12])), (eh, .inr (5, [.int ts, .ref q0])), (q0, .inl (c0, 120, .inl f0))] := hD
    have hr_8 : r_8.toInt = 0 ∨ r_8.toInt = 1 := hw
    refine lv_if_ne (tgt := 26) hx hb dX4_shapeItem_21 (by decide) (fun c_14 => ?_) (fun c_14 => ?_)
    · skip
      have tc_14 : ¬ r_8.toInt = 0 := fun h => c_14 ((fa_eq _ _).mpr h)
      refine lv_aload_n hx hb dX4_shapeItem_26 rfl (lv_at hl 0 rfl) ?_
      refine va_get (D := (dC, dI)) (ci := 2) (v := .ref dh) (C := RX4) (T := TX4) (N := 6) hx hb hts inX4 hown hK hP 3 rfl rfl 1 (by decide) (hts _ (List.mem_of_getElem? (i := 1) rfl)) (fun _ h9 => h9) rfl dX4_shapeItem_27 ?_
      refine lv_iload_n hx hb dX4_shapeItem_30 rfl (lv_at hl 1 rfl) ?_
      refine lv_aload_n hx hb dX4_shapeItem_31 rfl (lv_at hl 0 rfl) ?_
      refine va_get (D := (dC, dI)) (ci := 2) (v := .long dr_12) (C := RX4) (T := TX4) (N := 6) hx hb hts inX4 hown hK hP 3 rfl rfl 5 (by decide) (hts _ (List.mem_of_getElem? (i := 24) rfl)) (fun _ h9 => h9) rfl dX4_shapeItem_32 ?_
      obtain ⟨n_15, en_15⟩ : ∃ z : Int32, z = dr_12.toInt32 := ⟨_, rfl⟩
      refine lv_l2i (v := n_15) hx hb dX4_shapeItem_35 en_15.symm ?_
      clear en_15
      have hPc := hP.sub (ws' := [(dh, .inr (4, [.int sh, .ref q1, .ref q2, w3, w4, w5, w6, w7, w8])), (q1, .inl (c1, 9, .inl f1)), (q2, .inl (c2, 9, .inl f2))]) [0, 1, 2] rfl
      have hKc := hK.sub (tys' := [(c1, .int), (c2, .int)]) [1, 2] rfl
      have hDc := hD.sub (ws' := [(dh, .inr (4, [.int sh, .ref q1, .ref q2, w3, w4, w5, w6, w7, w8])), (q1, .inl (c1, 9, .inl f1)), (q2, .inl (c2, 9, .inl f2))]) [0, 1, 2] (by decide) rfl
      have hFc := va_free (wc := [(dh, .inr (4, [.int sh, .ref q1, .ref q2, w3, w4, w5, w6, w7, w8])), (q1, .inl (c1, 9, .inl f1)), (q2, .inl (c2, 9, .inl f2))]) hD hS hA [0, 1, 2] rfl
      refine va_calli (va_runV (As := [.int k, .int n_15]) (rest := []) ⟨hx, hb, hml, hown, hts⟩ (s_addShape l dC dI ad dh k n_15 sh q1 q2 w3 w4 w5 w6 w7 w8 c1 f1 c2 f2 H.size (by first | omega | decide | (simp only [fa_lt, fa_le, fa_eq, and_true, true_and, and_false, false_and, not_true_eq_false, not_false_eq_true, li_0, li_1, li_2, li_3, li_4, li_5, li_6, li_7, li_8, li_9, li_10, li_12, li_15, li_16, li_20, li_30, li_34, li_38, li_40, li_63, li_64, li_65, li_78, li_120, li_1000, li_4000, li_10000, li_11077, li_255, li_65535, li_m1, li_m2, li_m1000000001, li_m1000000002, li_m1000000003, li_m1000000004, li_m1000000005, li_m1000000006, li_m1000000007, or_true, true_or, or_false, false_or, implies_true, true_implies, false_implies] <;> omega))) (cwV 2 hts g_q_shapeItem_s_addShape_121 rfl rfl rfl (by decide +kernel) ⟨(Nat.le_of_ble_eq_true rfl), (Nat.le_of_ble_eq_true rfl)⟩) ⟨preM_blind, va_recv hKc hPc (ci := 4) (q0 := 0) rfl rfl, fun U hU hW => ⟨rfl, preM_at hU hW hPc hKc hDc hev⟩⟩ rfl rfl hl.1 rfl (lv_room (Nat.le_of_ble_eq_true rfl)) dX4_shapeItem_36 ⟨(Nat.le_of_ble_eq_true rfl), (Nat.le_of_ble_eq_true rfl)⟩) hS (fun q _ h => hFc q h) hFc (fun r_16 u t H1 locs ht hvm hw hB hz1 hk1 hS => ?_)
      obtain ⟨sh_17, g_18, g_19, hq_20, hP1, hK1, hD1⟩ := hB
      rw [ht] at hP1
      have hK1 := va_K.moved hvm.symm hK1
      obtain ⟨hP, hD⟩ := va_join (wr := [(h0, .inr (2, [.ref eh, .ref dh, .int tk_9, .int st_10, .int en_11, .long dr_12])), (eh, .inr (5, [.int ts, .ref q0])), (q0, .inl (c0, 120, .inl f0))]) (w1 := [(dh, .inr (4, [.int sh_17, .ref q1, .ref q2, w3, w4, w5, w6, w7, w8])), (q1, .inl (c1, 9, .inl g_18)), (q2, .inl (c2, 9, .inl g_19))]) hP hD [0, 1, 2] [3, 4, 5] rfl rfl (by decide) (by decide) hk1 hFc hP1 hD1
      generalize H1 = H at hP hS ⊢
      have hP : va_P (dC, dI) vwCl [(h0, .inr (2, [.ref eh, .ref dh, .int tk_9, .int st_10, .int en_11, .long dr_12])), (eh, .inr (5, [.int ts, .ref q0])), (q0, .inl (c0, 120, .inl f0)), (dh, .inr (4, [.int sh_17, .ref q1, .ref q2, w3, w4, w5, w6, w7, w8])), (q1, .inl (c1, 9, .inl g_18)), (q2, .inl (c2, 9, .inl g_19))] H := hP
      have hD : va_D A [(h0, .inr (2, [.ref eh, .ref dh, .int tk_9, .int st_10, .int en_11, .long dr_12])), (eh, .inr (5, [.int ts, .ref q0])), (q0, .inl (c0, 120, .inl f0)), (dh, .inr (4, [.int sh_17, .ref q1, .ref q2, w3, w4, w5, w6, w7, w8])), (q1, .inl (c1, 9, .inl g_18)), (q2, .inl (c2, 9, .inl g_19))] := hD
      refine lv_pop hx hb dX4_shapeItem_39 rfl ?_
      refine lv_iconst (v := 1) hx hb dX4_shapeItem_40 (by decide) ?_
      have hP9 := hP.sub (ws' := [(h0, .inr (2, [.ref eh, .ref dh, .int tk_9, .int st_10, .int en_11, .long dr_12])), (eh, .inr (5, [.int ts, .ref q0])), (q0, .inl (c0, 120, .inl f0)), (dh, .inr (4, [.int sh_17, .ref q1, .ref q2, w3, w4, w5, w6, w7, w8])), (q1, .inl (c1, 9, .inl g_18)), (q2, .inl (c2, 9, .inl g_19))]) [0, 1, 2, 3, 4, 5] rfl
      have hD9 := hD.sub (ws' := [(h0, .inr (2, [.ref eh, .ref dh, .int tk_9, .int st_10, .int en_11, .long dr_12])), (eh, .inr (5, [.int ts, .ref q0])), (q0, .inl (c0, 120, .inl f0)), (dh, .inr (4, [.int sh_17, .ref q1, .ref q2, w3, w4, w5, w6, w7, w8])), (q1, .inl (c1, 9, .inl g_18)), (q2, .inl (c2, 9, .inl g_19))]) [0, 1, 2, 3, 4, 5] (by decide) rfl
      have hK9 := hK.sub (tys' := [(c0, .int), (c1, .int), (c2, .int)]) [0, 1, 2] rfl
      exact W.zret (v := (1 : Int32)) hx hb hr (by decide) (fun t ht hW => ⟨⟨(1 : Int32), (), rfl, (by first | omega | decide | (simp only [fa_lt, fa_le, fa_eq, and_true, true_and, and_false, false_and, not_true_eq_false, not_false_eq_true, li_0, li_1, li_2, li_3, li_4, li_5, li_6, li_7, li_8, li_9, li_10, li_12, li_15, li_16, li_20, li_30, li_34, li_38, li_40, li_63, li_64, li_65, li_78, li_120, li_1000, li_4000, li_10000, li_11077, li_255, li_65535, li_m1, li_m2, li_m1000000001, li_m1000000002, li_m1000000003, li_m1000000004, li_m1000000005, li_m1000000006, li_m1000000007, or_true, true_or, or_false, false_or, implies_true, true_implies, false_implies] <;> omega)), tk_9, st_10, en_11, dr_12, sh_17, g_18, g_19, hq_13, (by first | omega | decide | (simp only [fa_lt, fa_le, fa_eq, and_true, true_and, and_false, false_and, not_true_eq_false, not_false_eq_true, li_0, li_1, li_2, li_3, li_4, li_5, li_6, li_7, li_8, li_9, li_10, li_12, li_15, li_16, li_20, li_30, li_34, li_38, li_40, li_63, li_64, li_65, li_78, li_120, li_1000, li_4000, li_10000, li_11077, li_255, li_65535, li_m1, li_m2, li_m1000000001, li_m1000000002, li_m1000000003, li_m1000000004, li_m1000000005, li_m1000000006, li_m1000000007, or_true, true_or, or_false, false_or, implies_true, true_implies, false_implies] <;> omega)), by rw [ht]; exact hP9, va_K.moved hW.alike hK9, hD9⟩, hS.F ht⟩) hS.2.2 dX4_shapeItem_41
    · skip
      have tc_14 : r_8.toInt = 0 := (fa_eq _ _).mp c_14
      refine lv_iconst (v := 0) hx hb dX4_shapeItem_24 (by decide) ?_
      have hP9 := hP.sub (ws' := [(h0, .inr (2, [.ref eh, .ref dh, .int tk_9, .int st_10, .int en_11, .long dr_12])), (eh, .inr (5, [.int ts, .ref q0])), (q0, .inl (c0, 120, .inl f0)), (dh, .inr (4, [.int sh, .ref q1, .ref q2, w3, w4, w5, w6, w7, w8])), (q1, .inl (c1, 9, .inl f1)), (q2, .inl (c2, 9, .inl f2))]) [3, 4, 5, 0, 1, 2] rfl
      have hD9 := hD.sub (ws' := [(h0, .inr (2, [.ref eh, .ref dh, .int tk_9, .int st_10, .int en_11, .long dr_12])), (eh, .inr (5, [.int ts, .ref q0])), (q0, .inl (c0, 120, .inl f0)), (dh, .inr (4, [.int sh, .ref q1, .ref q2, w3, w4, w5, w6, w7, w8])), (q1, .inl (c1, 9, .inl f1)), (q2, .inl (c2, 9, .inl f2))]) [3, 4, 5, 0, 1, 2] (by decide) rfl
      have hK9 := hK.sub (tys' := [(c0, .int), (c1, .int), (c2, .int)]) [0, 1, 2] rfl
      exact W.zret (v := (0 : Int32)) hx hb hr (by decide) (fun t ht hW => ⟨⟨(0 : Int32), (), rfl, (by first | omega | decide | (simp only [fa_lt, fa_le, fa_eq, and_true, true_and, and_false, false_and, not_true_eq_false, not_false_eq_true, li_0, li_1, li_2, li_3, li_4, li_5, li_6, li_7, li_8, li_9, li_10, li_12, li_15, li_16, li_20, li_30, li_34, li_38, li_40, li_63, li_64, li_65, li_78, li_120, li_1000, li_4000, li_10000, li_11077, li_255, li_65535, li_m1, li_m2, li_m1000000001, li_m1000000002, li_m1000000003, li_m1000000004, li_m1000000005, li_m1000000006, li_m1000000007, or_true, true_or, or_false, false_or, implies_true, true_implies, false_implies] <;> omega)), tk_9, st_10, en_11, dr_12, sh, f1, f2, hq_13, hsh, by rw [ht]; exact hP9, va_K.moved hW.alike hK9, hD9⟩, hS.F ht⟩) hS.2.2 dX4_shapeItem_25
  · skip
    have tc_2 : r_1.toInt = 0 := (fa_eq _ _).mp c_2
    refine lv_iconst (v := 0) hx hb dX4_shapeItem_10 (by decide) ?_
    have hP9 := hP.sub (ws' := [(h0, .inr (2, [.ref eh, .ref dh, .int tk, .int stt, .int en, .long dr])), (eh, .inr (5, [.int ts, .ref q0])), (q0, .inl (c0, 120, .inl f0)), (dh, .inr (4, [.int sh, .ref q1, .ref q2, w3, w4, w5, w6, w7, w8])), (q1, .inl (c1, 9, .inl f1)), (q2, .inl (c2, 9, .inl f2))]) [0, 1, 2, 3, 4, 5] rfl
    have hD9 := hD.sub (ws' := [(h0, .inr (2, [.ref eh, .ref dh, .int tk, .int stt, .int en, .long dr])), (eh, .inr (5, [.int ts, .ref q0])), (q0, .inl (c0, 120, .inl f0)), (dh, .inr (4, [.int sh, .ref q1, .ref q2, w3, w4, w5, w6, w7, w8])), (q1, .inl (c1, 9, .inl f1)), (q2, .inl (c2, 9, .inl f2))]) [0, 1, 2, 3, 4, 5] (by decide) rfl
    have hK9 := hK.sub (tys' := [(c0, .int), (c1, .int), (c2, .int)]) [0, 1, 2] rfl
    exact W.zret (v := (0 : Int32)) hx hb hr (by decide) (fun t ht hW => ⟨⟨(0 : Int32), (), rfl, (by first | omega | decide | (simp only [fa_lt, fa_le, fa_eq, and_true, true_and, and_false, false_and, not_true_eq_false, not_false_eq_true, li_0, li_1, li_2, li_3, li_4, li_5, li_6, li_7, li_8, li_9, li_10, li_12, li_15, li_16, li_20, li_30, li_34, li_38, li_40, li_63, li_64, li_65, li_78, li_120, li_1000, li_4000, li_10000, li_11077, li_255, li_65535, li_m1, li_m2, li_m1000000001, li_m1000000002, li_m1000000003, li_m1000000004, li_m1000000005, li_m1000000006, li_m1000000007, or_true, true_or, or_false, false_or, implies_true, true_implies, false_implies] <;> omega)), tk, stt, en, dr, sh, f1, f2, (by first | omega | decide | (simp only [fa_lt, fa_le, fa_eq, and_true, true_and, and_false, false_and, not_true_eq_false, not_false_eq_true, li_0, li_1, li_2, li_3, li_4, li_5, li_6, li_7, li_8, li_9, li_10, li_12, li_15, li_16, li_20, li_30, li_34, li_38, li_40, li_63, li_64, li_65, li_78, li_120, li_1000, li_4000, li_10000, li_11077, li_255, li_65535, li_m1, li_m2, li_m1000000001, li_m1000000002, li_m1000000003, li_m1000000004, li_m1000000005, li_m1000000006, li_m1000000007, or_true, true_or, or_false, false_or, implies_true, true_implies, false_implies] <;> omega)), hsh, by rw [ht]; exact hP9, va_K.moved hW.alike hK9, hD9⟩, hS.F ht⟩) hS.2.2 dX4_shapeItem_11

def w_q_sceneItem : List Cond := .code yX4_sceneItem cX4_sceneItem 1 (some .boolean) :: (([.fieldLink RX4 21 "LampShapes$Script" "stage" "LLampShapes$Stage;", .methodLink RX4 125 yX6_hasRoomForScene, .instanceMethod yX6_hasRoomForScene, .selects RX6 yX6_hasRoomForScene yX6_hasRoomForScene, .initialized RX6, .code yX6_hasRoomForScene cX6_hasRoomForScene 1 (some .boolean), .fieldLink RX6 31 "LampShapes$Stage" "scenes" "I", .methodLink RX4 39 yX4_advance, .instanceMethod yX4_advance, .selects RX4 yX4_advance yX4_advance, .initialized RX4, .code yX4_advance cX4_advance 1 none, .fieldLink RX4 32 "LampShapes$Script" "end" "I", .fieldLink RX4 29 "LampShapes$Script" "start" "I", .fieldLink RX4 12 "LampShapes$Script" "tape" "LLampShapes$Tape;", .methodLink RX4 53 yX4_sortOf, .static yX4_sortOf, .code yX4_sortOf cX4_sortOf 1 (some .int), .fieldLink RX4 25 "LampShapes$Script" "token" "I", .methodLink RX4 118 yX4_drawnRows, .instanceMethod yX4_drawnRows, .selects RX4 yX4_drawnRows yX4_drawnRows, .code yX4_drawnRows cX4_drawnRows 4 (some .boolean), .fieldLink RX4 35 "LampShapes$Script" "drawn" "J", .methodLink RX4 128 yX6_addScene, .instanceMethod yX6_addScene, .selects RX6 yX6_addScene yX6_addScene, .code yX6_addScene cX6_addScene 3 (some .int), .fieldLink RX6 34 "LampShapes$Stage" "pictures" "[J"] : List Cond) ++ wsX40 ++ wsX60 ++ wsX70)
set_option maxRecDepth 20000 in
theorem g_q_sceneItem_s_hasRoomForScene_125 : GoodIn w_q_sceneItem (wsV RX4 125 RX6 yX6_hasRoomForScene w_s_hasRoomForScene) := goodIn_r _ [2, 3, 4, 5, 6, 7, 36, 37, 38, 39, 40, 41, 42, 43, 44] rfl (by decide +kernel)
set_option maxRecDepth 20000 in
theorem g_q_sceneItem_q_advance_39 : GoodIn w_q_sceneItem (wsV RX4 39 RX4 yX4_advance w_q_advance) := goodIn_r _ [8, 9, 10, 11, 12, 13, 14, 15, 16, 17, 11, 18, 19, 30, 31, 32, 33, 34, 35, 45, 46] rfl (by decide +kernel)
set_option maxRecDepth 20000 in
theorem g_q_sceneItem_q_drawnRows_118 : GoodIn w_q_sceneItem (wsV RX4 118 RX4 yX4_drawnRows w_q_drawnRows) := goodIn_r _ [20, 21, 22, 11, 23, 24, 19, 13, 14, 8, 9, 10, 11, 12, 15, 16, 17, 18, 30, 31, 32, 33, 34, 35, 45, 46] rfl (by decide +kernel)
set_option maxRecDepth 20000 in
theorem g_q_sceneItem_s_addScene_128 : GoodIn w_q_sceneItem (wsV RX4 128 RX6 yX6_addScene w_s_addScene) := goodIn_r _ [25, 26, 27, 5, 28, 29, 7, 36, 37, 38, 39, 40, 41, 42, 43, 44] rfl (by decide +kernel)
set_option maxHeartbeats 4000000 in
set_option maxRecDepth 100000 in
theorem q_sceneItem (l : Launch) (dC : Nat → ClassId) (dI : Nat → Nat → Nat) (ad : Nat → Nat) (h0 : Nat) (eh : Nat) (dh : Nat) (tk : Int32) (stt : Int32) (en : Int32) (dr : Int64) (ts : Int32) (q0 : Nat) (c0 : ClassId) (f0 : Nat → Int32) (w0 : Value) (w1 : Value) (w2 : Value) (w3 : Value) (w4 : Value) (w5 : Value) (sc : Int32) (q5 : Nat) (w8 : Value) (c5 : ClassId) (f5 : Nat → Int64) (sz : Nat) (hts2 : 0 ≤ ts.toInt ∧ ts.toInt ≤ 120) (hse : 0 ≤ stt.toInt ∧ en.toInt ≤ ts.toInt ∧ stt.toInt ≤ en.toInt) (hsc : 0 ≤ sc.toInt ∧ sc.toInt ≤ 7) : Met l yX4_sceneItem w_q_sceneItem ({ frames := 3, cells := 0, slots := 0, locals := 63 } : Room) (va_Pc [.ref h0] (preM dC dI ad [(c0, .int), (c5, .long)] [(h0, .inr (2, [.ref eh, .ref dh, .int tk, .int stt, .int en, .long dr])), (eh, .inr (5, [.int ts, .ref q0])), (q0, .inl (c0, 120, .inl f0)), (dh, .inr (4, [w0, w1, w2, w3, w4, w5, .int sc, .ref q5, w8])), (q5, .inl (c5, 7, .inr (.inl f5)))] sz)) (va_Qi (fun (r : Int32) (_ : Unit) => r.toInt = 0 ∨ r.toInt = 1) (fun _ t => ∃ (tk2 : Int32), ∃ (st2 : Int32), ∃ (en2 : Int32), ∃ (dr2 : Int64), ∃ (sc2 : Int32), ∃ (g5 : Nat → Int64), (0 ≤ st2.toInt ∧ st2.toInt ≤ en2.toInt ∧ en2.toInt ≤ ts.toInt) ∧ (0 ≤ sc2.toInt ∧ sc2.toInt ≤ 7) ∧ va_P (dC, dI) vwCl [(h0, .inr (2, [.ref eh, .ref dh, .int tk2, .int st2, .int en2, .long dr2])), (eh, .inr (5, [.int ts, .ref q0])), (q0, .inl (c0, 120, .inl f0)), (dh, .inr (4, [w0, w1, w2, w3, w4, w5, .int sc2, .ref q5, w8])), (q5, .inl (c5, 7, .inr (.inl g5)))] t.heap ∧ va_K (dC, dI) vwCl [(c0, .int), (c5, .long)] t ∧ va_D (va_A [(h0, .inr (2, [.ref eh, .ref dh, .int tk, .int stt, .int en, .long dr])), (eh, .inr (5, [.int ts, .ref q0])), (q0, .inl (c0, 120, .inl f0)), (dh, .inr (4, [w0, w1, w2, w3, w4, w5, .int sc, .ref q5, w8])), (q5, .inl (c5, 7, .inr (.inl f5)))] sz) [(h0, .inr (2, [.ref eh, .ref dh, .int tk2, .int st2, .int en2, .long dr2])), (eh, .inr (5, [.int ts, .ref q0])), (q0, .inl (c0, 120, .inl f0)), (dh, .inr (4, [w0, w1, w2, w3, w4, w5, .int sc2, .ref q5, w8])), (q5, .inl (c5, 7, .inr (.inl g5)))]) (va_A [(h0, .inr (2, [.ref eh, .ref dh, .int tk, .int stt, .int en, .long dr])), (eh, .inr (5, [.int ts, .ref q0])), (q0, .inl (c0, 120, .inl f0)), (dh, .inr (4, [w0, w1, w2, w3, w4, w5, .int sc, .ref q5, w8])), (q5, .inl (c5, 7, .inr (.inl f5)))] sz)) 0 0 (va_A [(h0, .inr (2, [.ref eh, .ref dh, .int tk, .int stt, .int en, .long dr])), (eh, .inr (5, [.int ts, .ref q0])), (q0, .inl (c0, 120, .inl f0)), (dh, .inr (4, [w0, w1, w2, w3, w4, w5, .int sc, .ref q5, w8])), (q5, .inl (c5, 7, .inr (.inl f5)))] sz) := by
  refine Met.ofW (cc := cX4_sceneItem) (maxL := 1) (ret := (some .boolean)) (by decide) rfl ?_
  intro p e s m args below meth c s₁ B hml hv
  obtain ⟨rfl, hsz, hP, hK, hD0, hev⟩ := hv
  have hx := B.exec
  have hb := B.bytes
  have hr := B.returns
  have hts := atoms_spec (ws := w_q_sceneItem) B.pre
  have hown : s.vm.findClass RX4 = some m.cls := findClass_of_methodNamed B.named
  have hlocks := B.notSynchronized
  have inX4 : ∀ w ∈ wsX40, w ∈ w_q_sceneItem := fun w h => List.mem_cons_of_mem _ (List.mem_append_left _ (List.mem_append_left _ (List.mem_append_right _ h)))
  have inX6 : ∀ w ∈ wsX60, w ∈ w_q_sceneItem := fun w h => List.mem_cons_of_mem _ (List.mem_append_left _ (List.mem_append_right _ h))
  have inX7 : ∀ w ∈ wsX70, w ∈ w_q_sceneItem := fun w h => List.mem_cons_of_mem _ (List.mem_append_right _ h)
  subst hsz
  have hD := hD0.self (sz := s.heap.size)
  generalize hAe : va_A [(h0, .inr (2, [.ref eh, .ref dh, .int tk, .int stt, .int en, .long dr])), (eh, .inr (5, [.int ts, .ref q0])), (q0, .inl (c0, 120, .inl f0)), (dh, .inr (4, [w0, w1, w2, w3, w4, w5, .int sc, .ref q5, w8])), (q5, .inl (c5, 7, .inr (.inl f5)))] s.heap.size = A at hD ⊢
  have hA : ∀ q : Nat, s.heap.size ≤ q → A q := fun q h => by rw [← hAe]; exact Or.inr h
  have hS : va_S A s.heap s.heap [] := va_S.rf
  have hP : va_P (dC, dI) vwCl [(h0, .inr (2, [.ref eh, .ref dh, .int tk, .int stt, .int en, .long dr])), (eh, .inr (5, [.int ts, .ref q0])), (q0, .inl (c0, 120, .inl f0)), (dh, .inr (4, [w0, w1, w2, w3, w4, w5, .int sc, .ref q5, w8])), (q5, .inl (c5, 7, .inr (.inl f5)))] s.heap := hP
  have hl := lv_entry ([.ref h0]) (n := 1) (Nat.le_of_ble_eq_true rfl)
  rw [lg_entry_eq]
  generalize (lg_sl ([.ref h0]) ++ List.replicate (1 - (lg_sl ([.ref h0])).length) Slot.unset).toArray = ls at hl ⊢
  have hl : lv_has ls 1 [(0, .ref h0)] := hl
  refine lv_aload_n hx hb dX4_sceneItem_0 rfl (lv_at hl 0 rfl) ?_
  refine va_get (D := (dC, dI)) (ci := 2) (v := .ref dh) (C := RX4) (T := TX4) (N := 6) hx hb hts inX4 hown hK hP 0 rfl rfl 1 (by decide) (hts _ (List.mem_of_getElem? (i := 1) rfl)) (fun _ h9 => h9) rfl dX4_sceneItem_1 ?_
  have hPc := hP.sub (ws' := [(dh, .inr (4, [w0, w1, w2, w3, w4, w5, .int sc, .ref q5, w8]))]) [3] rfl
  have hKc := hK.sub (tys' := []) [] rfl
  refine vp_callSi (W.runV (As := []) (rest := []) ⟨hx, hb, hml, hown, hts⟩ (s_hasRoomForScene l dC dI ad dh w0 w1 w2 w3 w4 w5 sc (.ref q5) w8 ) (cwV 0 hts g_q_sceneItem_s_hasRoomForScene_125 rfl rfl rfl (by decide +kernel) ⟨(Nat.le_of_ble_eq_true rfl), (Nat.le_of_ble_eq_true rfl)⟩) ⟨preS_blind, va_recv hKc hPc (ci := 4) (q0 := 0) rfl rfl, fun U hU hW => ⟨rfl, preS_at hU hW hPc hKc hev⟩⟩ rfl rfl hl.1 rfl (lv_room (Nat.le_of_ble_eq_true rfl)) dX4_sceneItem_4 ⟨(Nat.le_of_ble_eq_true rfl), (Nat.le_of_ble_eq_true rfl)⟩) (fun r_1 hw => ?_)
  have hr_1 : (r_1.toInt = 1 ∧ sc.toInt < 7) ∨ r_1.toInt = 0 := hw
  refine lv_if_ne (tgt := 12) hx hb dX4_sceneItem_7 (by decide) (fun c_2 => ?_) (fun c_2 => ?_)
  · skip
    have tc_2 : ¬ r_1.toInt = 0 := fun h => c_2 ((fa_eq _ _).mpr h)
    refine lv_aload_n hx hb dX4_sceneItem_12 rfl (lv_at hl 0 rfl) ?_
    have hPc := hP.sub (ws' := [(h0, .inr (2, [.ref eh, .ref dh, .int tk, .int stt, .int en, .long dr])), (eh, .inr (5, [.int ts, .ref q0])), (q0, .inl (c0, 120, .inl f0))]) [0, 1, 2] rfl
    have hKc := hK.sub (tys' := [(c0, .int)]) [0] rfl
    have hDc := hD.sub (ws' := [(h0, .inr (2, [.ref eh, .ref dh, .int tk, .int stt, .int en, .long dr])), (eh, .inr (5, [.int ts, .ref q0])), (q0, .inl (c0, 120, .inl f0))]) [0, 1, 2] (by decide) rfl
    have hFc := va_free (wc := [(h0, .inr (2, [.ref eh, .ref dh, .int tk, .int stt, .int en, .long dr])), (eh, .inr (5, [.int ts, .ref q0])), (q0, .inl (c0, 120, .inl f0))]) hD hS hA [0, 1, 2] rfl
    refine va_callv (va_runV (As := []) (rest := []) ⟨hx, hb, hml, hown, hts⟩ (q_advance l dC dI ad h0 eh dh tk stt en dr ts q0 c0 f0 s.heap.size hts2 (by first | omega | decide | (simp only [fa_lt, fa_le, fa_eq, and_true, true_and, and_false, false_and, not_true_eq_false, not_false_eq_true, li_0, li_1, li_2, li_3, li_4, li_5, li_6, li_7, li_8, li_9, li_10, li_12, li_15, li_16, li_20, li_30, li_34, li_38, li_40, li_63, li_64, li_65, li_78, li_120, li_1000, li_4000, li_10000, li_11077, li_255, li_65535, li_m1, li_m2, li_m1000000001, li_m1000000002, li_m1000000003, li_m1000000004, li_m1000000005, li_m1000000006, li_m1000000007, or_true, true_or, or_false, false_or, implies_true, true_implies, false_implies] <;> omega))) (cwV 0 hts g_q_sceneItem_q_advance_39 rfl rfl rfl (by decide +kernel) ⟨(Nat.le_of_ble_eq_true rfl), (Nat.le_of_ble_eq_true rfl)⟩) ⟨preM_blind, va_recv hKc hPc (ci := 2) (q0 := 0) rfl rfl, fun U hU hW => ⟨rfl, preM_at hU hW hPc hKc hDc hev⟩⟩ rfl rfl hl.1 rfl (lv_room (Nat.le_of_ble_eq_true rfl)) dX4_sceneItem_13 ⟨(Nat.le_of_ble_eq_true rfl), (Nat.le_of_ble_eq_true rfl)⟩) hS (fun q _ h => hFc q h) hFc (fun u t H1 locs ht hvm hw hB hz1 hk1 hS => ?_)
    obtain ⟨tk_4, st_5, en_6, hq_7, hP1, hK1, hD1⟩ := hB
    rw [ht] at hP1
    have hK1 := va_K.moved hvm.symm hK1
    obtain ⟨hP, hD⟩ := va_join (wr := [(dh, .inr (4, [w0, w1, w2, w3, w4, w5, .int sc, .ref q5, w8])), (q5, .inl (c5, 7, .inr (.inl f5)))]) (w1 := [(h0, .inr (2, [.ref eh, .ref dh, .int tk_4, .int st_5, .int en_6, .long dr])), (eh, .inr (5, [.int ts, .ref q0])), (q0, .inl (c0, 120, .inl f0))]) hP hD [0, 1, 2] [3, 4] rfl rfl (by decide) (by decide) hk1 hFc hP1 hD1
    generalize H1 = H at hP hS ⊢
    have hP : va_P (dC, dI) vwCl [(dh, .inr (4, [w0, w1, w2, w3, w4, w5, .int sc, .ref q5, w8])), (q5, .inl (c5, 7, .inr (.inl f5))), (h0, .inr (2, [.ref eh, .ref dh, .int tk_4, .int st_5, .int en_6, .long dr])), (eh, .inr (5, [.int ts, .ref q0])), (q0, .inl (c0, 120, .inl f0))] H := hP
    have hD : va_D A [(dh, .inr (4, [w0, w1, w2, w3, w4, w5, .int sc, .ref q5, w8])), (q5, .inl (c5, 7, .inr (.inl f5))), (h0, .inr (2, [.ref eh, .ref dh, .int tk_4, .int st_5, .int en_6, .long dr])), (eh, .inr (5, [.int ts, .ref q0])), (q0, .inl (c0, 120, .inl f0))] := hD
    refine lv_aload_n hx hb dX4_sceneItem_16 rfl (lv_at hl 0 rfl) ?_
    refine lv_bipush (v := 8) hx hb dX4_sceneItem_17 (by decide) ?_
    have hPc := hP.sub (ws' := [(h0, .inr (2, [.ref eh, .ref dh, .int tk_4, .int st_5, .int en_6, .long dr])), (eh, .inr (5, [.int ts, .ref q0])), (q0, .inl (c0, 120, .inl f0))]) [2, 3, 4] rfl
    have hKc := hK.sub (tys' := [(c0, .int)]) [0] rfl
    have hDc := hD.sub (ws' := [(h0, .inr (2, [.ref eh, .ref dh, .int tk_4, .int st_5, .int en_6, .long dr])), (eh, .inr (5, [.int ts, .ref q0])), (q0, .inl (c0, 120, .inl f0))]) [2, 3, 4] (by decide) rfl
    have hFc := va_free (wc := [(h0, .inr (2, [.ref eh, .ref dh, .int tk_4, .int st_5, .int en_6, .long dr])), (eh, .inr (5, [.int ts, .ref q0])), (q0, .inl (c0, 120, .inl f0))]) hD hS hA [2, 3, 4] rfl
    refine va_calli (va_runV (As := [.int 8]) (rest := []) ⟨hx, hb, hml, hown, hts⟩ (q_drawnRows l dC dI ad h0 8 eh dh tk_4 st_5 en_6 dr ts q0 c0 f0 H.size hts2 (by first | omega | decide | (simp only [fa_lt, fa_le, fa_eq, and_true, true_and, and_false, false_and, not_true_eq_false, not_false_eq_true, li_0, li_1, li_2, li_3, li_4, li_5, li_6, li_7, li_8, li_9, li_10, li_12, li_15, li_16, li_20, li_30, li_34, li_38, li_40, li_63, li_64, li_65, li_78, li_120, li_1000, li_4000, li_10000, li_11077, li_255, li_65535, li_m1, li_m2, li_m1000000001, li_m1000000002, li_m1000000003, li_m1000000004, li_m1000000005, li_m1000000006, li_m1000000007, or_true, true_or, or_false, false_or, implies_true, true_implies, false_implies] <;> omega)) (by first | omega | decide | (simp only [fa_lt, fa_le, fa_eq, and_true, true_and, and_false, false_and, not_true_eq_false, not_false_eq_true, li_0, li_1, li_2, li_3, li_4, li_5, li_6, li_7, li_8, li_9, li_10, li_12, li_15, li_16, li_20, li_30, li_34, li_38, li_40, li_63, li_64, li_65, li_78, li_120, li_1000, li_4000, li_10000, li_11077, li_255, li_65535, li_m1, li_m2, li_m1000000001, li_m1000000002, li_m1000000003, li_m1000000004, li_m1000000005, li_m1000000006, li_m1000000007, or_true, true_or, or_false, false_or, implies_true, true_implies, false_implies] <;> omega))) (cwV 1 hts g_q_sceneItem_q_drawnRows_118 rfl rfl rfl (by decide +kernel) ⟨(Nat.le_of_ble_eq_true rfl), (Nat.le_of_ble_eq_true rfl)⟩) ⟨preM_blind, va_recv hKc hPc (ci := 2) (q0 := 0) rfl rfl, fun U hU hW => ⟨rfl, preM_at hU hW hPc hKc hDc hev⟩⟩ rfl rfl hl.1 rfl (lv_room (Nat.le_of_ble_eq_true rfl)) dX4_sceneItem_19 ⟨(Nat.le_of_ble_eq_true rfl), (Nat.le_of_ble_eq_true rfl)⟩) hS (fun q _ h => hFc q h) hFc (fun r_8 u t H1 locs ht hvm hw hB hz1 hk1 hS => ?_)
    obtain ⟨tk_9, st_10, en_11, dr_12, hq_13, hP1, hK1, hD1⟩ := hB
    rw [ht] at hP1
    have hK1 := va_K.moved hvm.symm hK1
    obtain ⟨hP, hD⟩ := va_join (wr := [(dh, .inr (4, [w0, w1, w2, w3, w4, w5, .int sc, .ref q5, w8])), (q5, .inl (c5, 7, .inr (.inl f5)))]) (w1 := [(h0, .inr (2, [.ref eh, .ref dh, .int tk_9, .int st_10, .int en_11, .long dr_12])), (eh, .inr (5, [.int ts, .ref q0])), (q0, .inl (c0, 120, .inl f0))]) hP hD [2, 3, 4] [0, 1] rfl rfl (by decide) (by decide) hk1 hFc hP1 hD1
    generalize H1 = H at hP hS ⊢
    have hP : va_P (dC, dI) vwCl [(dh, .inr (4, [w0, w1, w2, w3, w4, w5, .int sc, .ref q5, w8])), (q5, .inl (c5, 7, .inr (.inl f5))), (h0, .inr (2, [.ref eh, .ref dh, .int tk_9, .int st_10, .int en_11, .long dr_12])), (eh, .inr (5, [.int ts, .ref q0])), (q0, .inl (c0, 120, .inl f0))] H := hP
    have hD : va_D A [(dh, .inr (4, [w0, w1, w2, w3, w4, w5, .int sc, .ref q5, w8])), (q5, .inl (c5, 7, .inr (.inl f5))), (h0, .inr (2, [.ref eh, .ref dh, .int tk_9, .int st_10, .int en_11, .long dr_12])), (eh, .inr (5, [.int ts, .ref q0])), (q0, .inl (c0, 120, .inl f0))] := hD
    have hr_8 : r_8.toInt = 0 ∨ r_8.toInt = 1 := hw
    refine lv_if_ne (tgt := 27) hx hb dX4_sceneItem_22 (by decide) (fun c_14 => ?_) (fun c_14 => ?_)
    · skip
      have tc_14 : ¬ r_8.toInt = 0 := fun h => c_14 ((fa_eq _ _).mpr h)
      refine lv_aload_n hx hb dX4_sceneItem_27 rfl (lv_at hl 0 rfl) ?_
      refine va_get (D := (dC, dI)) (ci := 2) (v := .ref dh) (C := RX4) (T := TX4) (N := 6) hx hb hts inX4 hown hK hP 2 rfl rfl 1 (by decide) (hts _ (List.mem_of_getElem? (i := 1) rfl)) (fun _ h9 => h9) rfl dX4_sceneItem_28 ?_
      refine lv_aload_n hx hb dX4_sceneItem_31 rfl (lv_at hl 0 rfl) ?_
      refine va_get (D := (dC, dI)) (ci := 2) (v := .long dr_12) (C := RX4) (T := TX4) (N := 6) hx hb hts inX4 hown hK hP 2 rfl rfl 5 (by decide) (hts _ (List.mem_of_getElem? (i := 24) rfl)) (fun _ h9 => h9) rfl dX4_sceneItem_32 ?_
      have hPc := hP.sub (ws' := [(dh, .inr (4, [w0, w1, w2, w3, w4, w5, .int sc, .ref q5, w8])), (q5, .inl (c5, 7, .inr (.inl f5)))]) [0, 1] rfl
      have hKc := hK.sub (tys' := [(c5, .long)]) [1] rfl
      have hDc := hD.sub (ws' := [(dh, .inr (4, [w0, w1, w2, w3, w4, w5, .int sc, .ref q5, w8])), (q5, .inl (c5, 7, .inr (.inl f5)))]) [0, 1] (by decide) rfl
      have hFc := va_free (wc := [(dh, .inr (4, [w0, w1, w2, w3, w4, w5, .int sc, .ref q5, w8])), (q5, .inl (c5, 7, .inr (.inl f5)))]) hD hS hA [0, 1] rfl
      refine va_calli (va_runV (As := [.long dr_12]) (rest := []) ⟨hx, hb, hml, hown, hts⟩ (s_addScene l dC dI ad dh dr_12 w0 w1 w2 w3 w4 w5 sc q5 w8 c5 f5 H.size (by first | omega | decide | (simp only [fa_lt, fa_le, fa_eq, and_true, true_and, and_false, false_and, not_true_eq_false, not_false_eq_true, li_0, li_1, li_2, li_3, li_4, li_5, li_6, li_7, li_8, li_9, li_10, li_12, li_15, li_16, li_20, li_30, li_34, li_38, li_40, li_63, li_64, li_65, li_78, li_120, li_1000, li_4000, li_10000, li_11077, li_255, li_65535, li_m1, li_m2, li_m1000000001, li_m1000000002, li_m1000000003, li_m1000000004, li_m1000000005, li_m1000000006, li_m1000000007, or_true, true_or, or_false, false_or, implies_true, true_implies, false_implies] <;> omega))) (cwV 1 hts g_q_sceneItem_s_addScene_128 rfl rfl rfl (by decide +kernel) ⟨(Nat.le_of_ble_eq_true rfl), (Nat.le_of_ble_eq_true rfl)⟩) ⟨preM_blind, va_recv hKc hPc (ci := 4) (q0 := 0) rfl rfl, fun U hU hW => ⟨rfl, preM_at hU hW hPc hKc hDc hev⟩⟩ rfl rfl hl.1 rfl (lv_room (Nat.le_of_ble_eq_true rfl)) dX4_sceneItem_35 ⟨(Nat.le_of_ble_eq_true rfl), (Nat.le_of_ble_eq_true rfl)⟩) hS (fun q _ h => hFc q h) hFc (fun r_15 u t H1 locs ht hvm hw hB hz1 hk1 hS => ?_)
      obtain ⟨sc_16, g_17, hq_18, hP1, hK1, hD1⟩ := hB
      rw [ht] at hP1
      have hK1 := va_K.moved hvm.symm hK1
      obtain ⟨hP, hD⟩ := va_join (wr := [(h0, .inr (2, [.ref eh, .ref dh, .int tk_9, .int st_10, .int en_11, .long dr_12])), (eh, .inr (5, [.int ts, .ref q0])), (q0, .inl (c0, 120, .inl f0))]) (w1 := [(dh, .inr (4, [w0, w1, w2, w3, w4, w5, .int sc_16, .ref q5, w8])), (q5, .inl (c5, 7, .inr (.inl g_17)))]) hP hD [0, 1] [2, 3, 4] rfl rfl (by decide) (by decide) hk1 hFc hP1 hD1
      generalize H1 = H at hP hS ⊢
      have hP : va_P (dC, dI) vwCl [(h0, .inr (2, [.ref eh, .ref dh, .int tk_9, .int st_10, .int en_11, .long dr_12])), (eh, .inr (5, [.int ts, .ref q0])), (q0, .inl (c0, 120, .inl f0)), (dh, .inr (4, [w0, w1, w2, w3, w4, w5, .int sc_16, .ref q5, w8])), (q5, .inl (c5, 7, .inr (.inl g_17)))] H := hP
      have hD : va_D A [(h0, .inr (2, [.ref eh, .ref dh, .int tk_9, .int st_10, .int en_11, .long dr_12])), (eh, .inr (5, [.int ts, .ref q0])), (q0, .inl (c0, 120, .inl f0)), (dh, .inr (4, [w0, w1, w2, w3, w4, w5, .int sc_16, .ref q5, w8])), (q5, .inl (c5, 7, .inr (.inl g_17)))] := hD
      refine lv_pop hx hb dX4_sceneItem_38 rfl ?_
      refine lv_iconst (v := 1) hx hb dX4_sceneItem_39 (by decide) ?_
      have hP9 := hP.sub (ws' := [(h0, .inr (2, [.ref eh, .ref dh, .int tk_9, .int st_10, .int en_11, .long dr_12])), (eh, .inr (5, [.int ts, .ref q0])), (q0, .inl (c0, 120, .inl f0)), (dh, .inr (4, [w0, w1, w2, w3, w4, w5, .int sc_16, .ref q5, w8])), (q5, .inl (c5, 7, .inr (.inl g_17)))]) [0, 1, 2, 3, 4] rfl
      have hD9 := hD.sub (ws' := [(h0, .inr (2, [.ref eh, .ref dh, .int tk_9, .int st_10, .int en_11, .long dr_12])), (eh, .inr (5, [.int ts, .ref q0])), (q0, .inl (c0, 120, .inl f0)), (dh, .inr (4, [w0, w1, w2, w3, w4, w5, .int sc_16, .ref q5, w8])), (q5, .inl (c5, 7, .inr (.inl g_17)))]) [0, 1, 2, 3, 4] (by decide) rfl
      have hK9 := hK.sub (tys' := [(c0, .int), (c5, .long)]) [0, 1] rfl
      exact W.zret (v := (1 : Int32)) hx hb hr (by decide) (fun t ht hW => ⟨⟨(1 : Int32), (), rfl, (by first | omega | decide | (simp only [fa_lt, fa_le, fa_eq, and_true, true_and, and_false, false_and, not_true_eq_false, not_false_eq_true, li_0, li_1, li_2, li_3, li_4, li_5, li_6, li_7, li_8, li_9, li_10, li_12, li_15, li_16, li_20, li_30, li_34, li_38, li_40, li_63, li_64, li_65, li_78, li_120, li_1000, li_4000, li_10000, li_11077, li_255, li_65535, li_m1, li_m2, li_m1000000001, li_m1000000002, li_m1000000003, li_m1000000004, li_m1000000005, li_m1000000006, li_m1000000007, or_true, true_or, or_false, false_or, implies_true, true_implies, false_implies] <;> omega)), tk_9, st_10, en_11, dr_12, sc_16, g_17, hq_13, (by first | omega | decide | (simp only [fa_lt, fa_le, fa_eq, and_true, true_and, and_false, false_and, not_true_eq_false, not_false_eq_true, li_0, li_1, li_2, li_3, li_4, li_5, li_6, li_7, li_8, li_9, li_10, li_12, li_15, li_16, li_20, li_30, li_34, li_38, li_40, li_63, li_64, li_65, li_78, li_120, li_1000, li_4000, li_10000, li_11077, li_255, li_65535, li_m1, li_m2, li_m1000000001, li_m1000000002, li_m1000000003, li_m1000000004, li_m1000000005, li_m1000000006, li_m1000000007, or_true, true_or, or_false, false_or, implies_true, true_implies, false_implies] <;> omega)), by rw [ht]; exact hP9, va_K.moved hW.alike hK9, hD9⟩, hS.F ht⟩) hS.2.2 dX4_sceneItem_40
    · skip
      have tc_14 : r_8.toInt = 0 := (fa_eq _ _).mp c_14
      refine lv_iconst (v := 0) hx hb dX4_sceneItem_25 (by decide) ?_
      have hP9 := hP.sub (ws' := [(h0, .inr (2, [.ref eh, .ref dh, .int tk_9, .int st_10, .int en_11, .long dr_12])), (eh, .inr (5, [.int ts, .ref q0])), (q0, .inl (c0, 120, .inl f0)), (dh, .inr (4, [w0, w1, w2, w3, w4, w5, .int sc, .ref q5, w8])), (q5, .inl (c5, 7, .inr (.inl f5)))]) [2, 3, 4, 0, 1] rfl
      have hD9 := hD.sub (ws' := [(h0, .inr (2, [.ref eh, .ref dh, .int tk_9, .int st_10, .int en_11, .long dr_12])), (eh, .inr (5, [.int ts, .ref q0])), (q0, .inl (c0, 120, .inl f0)), (dh, .inr (4, [w0, w1, w2, w3, w4, w5, .int sc, .ref q5, w8])), (q5, .inl (c5, 7, .inr (.inl f5)))]) [2, 3, 4, 0, 1] (by decide) rfl
      have hK9 := hK.sub (tys' := [(c0, .int), (c5, .long)]) [0, 1] rfl
      exact W.zret (v := (0 : Int32)) hx hb hr (by decide) (fun t ht hW => ⟨⟨(0 : Int32), (), rfl, (by first | omega | decide | (simp only [fa_lt, fa_le, fa_eq, and_true, true_and, and_false, false_and, not_true_eq_false, not_false_eq_true, li_0, li_1, li_2, li_3, li_4, li_5, li_6, li_7, li_8, li_9, li_10, li_12, li_15, li_16, li_20, li_30, li_34, li_38, li_40, li_63, li_64, li_65, li_78, li_120, li_1000, li_4000, li_10000, li_11077, li_255, li_65535, li_m1, li_m2, li_m1000000001, li_m1000000002, li_m1000000003, li_m1000000004, li_m1000000005, li_m1000000006, li_m1000000007, or_true, true_or, or_false, false_or, implies_true, true_implies, false_implies] <;> omega)), tk_9, st_10, en_11, dr_12, sc, f5, hq_13, hsc, by rw [ht]; exact hP9, va_K.moved hW.alike hK9, hD9⟩, hS.F ht⟩) hS.2.2 dX4_sceneItem_26
  · skip
    have tc_2 : r_1.toInt = 0 := (fa_eq _ _).mp c_2
    refine lv_iconst (v := 0) hx hb dX4_sceneItem_10 (by decide) ?_
    have hP9 := hP.sub (ws' := [(h0, .inr (2, [.ref eh, .ref dh, .int tk, .int stt, .int en, .long dr])), (eh, .inr (5, [.int ts, .ref q0])), (q0, .inl (c0, 120, .inl f0)), (dh, .inr (4, [w0, w1, w2, w3, w4, w5, .int sc, .ref q5, w8])), (q5, .inl (c5, 7, .inr (.inl f5)))]) [0, 1, 2, 3, 4] rfl
    have hD9 := hD.sub (ws' := [(h0, .inr (2, [.ref eh, .ref dh, .int tk, .int stt, .int en, .long dr])), (eh, .inr (5, [.int ts, .ref q0])), (q0, .inl (c0, 120, .inl f0)), (dh, .inr (4, [w0, w1, w2, w3, w4, w5, .int sc, .ref q5, w8])), (q5, .inl (c5, 7, .inr (.inl f5)))]) [0, 1, 2, 3, 4] (by decide) rfl
    have hK9 := hK.sub (tys' := [(c0, .int), (c5, .long)]) [0, 1] rfl
    exact W.zret (v := (0 : Int32)) hx hb hr (by decide) (fun t ht hW => ⟨⟨(0 : Int32), (), rfl, (by first | omega | decide | (simp only [fa_lt, fa_le, fa_eq, and_true, true_and, and_false, false_and, not_true_eq_false, not_false_eq_true, li_0, li_1, li_2, li_3, li_4, li_5, li_6, li_7, li_8, li_9, li_10, li_12, li_15, li_16, li_20, li_30, li_34, li_38, li_40, li_63, li_64, li_65, li_78, li_120, li_1000, li_4000, li_10000, li_11077, li_255, li_65535, li_m1, li_m2, li_m1000000001, li_m1000000002, li_m1000000003, li_m1000000004, li_m1000000005, li_m1000000006, li_m1000000007, or_true, true_or, or_false, false_or, implies_true, true_implies, false_implies] <;> omega)), tk, stt, en, dr, sc, f5, (by first | omega | decide | (simp only [fa_lt, fa_le, fa_eq, and_true, true_and, and_false, false_and, not_true_eq_false, not_false_eq_true, li_0, li_1, li_2, li_3, li_4, li_5, li_6, li_7, li_8, li_9, li_10, li_12, li_15, li_16, li_20, li_30, li_34, li_38, li_40, li_63, li_64, li_65, li_78, li_120, li_1000, li_4000, li_10000, li_11077, li_255, li_65535, li_m1, li_m2, li_m1000000001, li_m1000000002, li_m1000000003, li_m1000000004, li_m1000000005, li_m1000000006, li_m1000000007, or_true, true_or, or_false, false_or, implies_true, true_implies, false_implies] <;> omega)), hsc, by rw [ht]; exact hP9, va_K.moved hW.alike hK9, hD9⟩, hS.F ht⟩) hS.2.2 dX4_sceneItem_11

def w_q_tornItem : List Cond := .code yX4_tornItem cX4_tornItem 2 (some .boolean) :: (([.methodLink RX4 39 yX4_advance, .instanceMethod yX4_advance, .selects RX4 yX4_advance yX4_advance, .initialized RX4, .code yX4_advance cX4_advance 1 none, .fieldLink RX4 32 "LampShapes$Script" "end" "I", .fieldLink RX4 29 "LampShapes$Script" "start" "I", .fieldLink RX4 12 "LampShapes$Script" "tape" "LLampShapes$Tape;", .methodLink RX4 53 yX4_sortOf, .static yX4_sortOf, .code yX4_sortOf cX4_sortOf 1 (some .int), .fieldLink RX4 25 "LampShapes$Script" "token" "I", .methodLink RX4 135 yX4_value, .instanceMethod yX4_value, .selects RX4 yX4_value yX4_value, .code yX4_value cX4_value 3 (some .int), .methodLink RX4 167 Lib.Math.min.name, .static Lib.Math.min.name, .initialized "java/lang/Math", .code Lib.Math.min.name Lib.Math.min.code 2 (some .int), .fieldLink RX4 21 "LampShapes$Script" "stage" "LLampShapes$Stage;", .methodLink RX4 138 yX6_hasShape, .instanceMethod yX6_hasShape, .selects RX6 yX6_hasShape yX6_hasShape, .initialized RX6, .code yX6_hasShape cX6_hasShape 2 (some .boolean), .fieldLink RX6 9 "LampShapes$Stage" "shapes" "I", .methodLink RX4 163 yX6_setTorn, .instanceMethod yX6_setTorn, .selects RX6 yX6_setTorn yX6_setTorn, .code yX6_setTorn cX6_setTorn 3 none, .fieldLink RX6 22 "LampShapes$Stage" "tornShapes" "I"] : List Cond) ++ wsX40 ++ wsX70 ++ wsX60)
set_option maxRecDepth 20000 in
theorem g_q_tornItem_q_advance_39 : GoodIn w_q_tornItem (wsV RX4 39 RX4 yX4_advance w_q_advance) := goodIn_r _ [1, 2, 3, 4, 5, 6, 7, 8, 9, 10, 4, 11, 12, 33, 34, 35, 36, 37, 38, 39, 40] rfl (by decide +kernel)
set_option maxRecDepth 20000 in
theorem g_q_tornItem_q_value_135 : GoodIn w_q_tornItem (wsV RX4 135 RX4 yX4_value w_q_value) := goodIn_r _ [13, 14, 15, 4, 16, 12, 7, 6, 8, 17, 18, 19, 20, 33, 34, 35, 36, 37, 38, 39, 40] rfl (by decide +kernel)
set_option maxRecDepth 20000 in
theorem g_q_tornItem_s_hasShape_138 : GoodIn w_q_tornItem (wsV RX4 138 RX6 yX6_hasShape w_s_hasShape) := goodIn_r _ [22, 23, 24, 25, 26, 27, 41, 42, 43, 44, 45, 46, 47, 48, 49] rfl (by decide +kernel)
set_option maxRecDepth 20000 in
theorem g_q_tornItem_s_setTorn_163 : GoodIn w_q_tornItem (wsV RX4 163 RX6 yX6_setTorn w_s_setTorn) := goodIn_r _ [28, 29, 30, 25, 31, 32, 41, 42, 43, 44, 45, 46, 47, 48, 49] rfl (by decide +kernel)
set_option maxHeartbeats 4000000 in
set_option maxRecDepth 100000 in
theorem q_tornItem (l : Launch) (dC : Nat → ClassId) (dI : Nat → Nat → Nat) (ad : Nat → Nat) (h0 : Nat) (eh : Nat) (dh : Nat) (tk : Int32) (stt : Int32) (en : Int32) (dr : Int64) (ts : Int32) (q0 : Nat) (c0 : ClassId) (f0 : Nat → Int32) (sh : Int32) (w1 : Value) (w2 : Value) (tn : Int32) (w4 : Value) (w5 : Value) (w6 : Value) (w7 : Value) (w8 : Value) (sz : Nat) (hts2 : 0 ≤ ts.toInt ∧ ts.toInt ≤ 120) (hse : 0 ≤ stt.toInt ∧ en.toInt ≤ ts.toInt ∧ stt.toInt ≤ en.toInt) : Met l yX4_tornItem w_q_tornItem ({ frames := 2, cells := 0, slots := 0, locals := 40 } : Room) (va_Pc [.ref h0] (preM dC dI ad [(c0, .int)] [(h0, .inr (2, [.ref eh, .ref dh, .int tk, .int stt, .int en, .long dr])), (eh, .inr (5, [.int ts, .ref q0])), (q0, .inl (c0, 120, .inl f0)), (dh, .inr (4, [.int sh, w1, w2, .int tn, w4, w5, w6, w7, w8]))] sz)) (va_Qi (fun (r : Int32) (_ : Unit) => r.toInt = 0 ∨ r.toInt = 1) (fun _ t => ∃ (tk2 : Int32), ∃ (st2 : Int32), ∃ (en2 : Int32), ∃ (tn2 : Int32), (0 ≤ st2.toInt ∧ st2.toInt ≤ en2.toInt ∧ en2.toInt ≤ ts.toInt) ∧ va_P (dC, dI) vwCl [(h0, .inr (2, [.ref eh, .ref dh, .int tk2, .int st2, .int en2, .long dr])), (eh, .inr (5, [.int ts, .ref q0])), (q0, .inl (c0, 120, .inl f0)), (dh, .inr (4, [.int sh, w1, w2, .int tn2, w4, w5, w6, w7, w8]))] t.heap ∧ va_K (dC, dI) vwCl [(c0, .int)] t ∧ va_D (va_A [(h0, .inr (2, [.ref eh, .ref dh, .int tk, .int stt, .int en, .long dr])), (eh, .inr (5, [.int ts, .ref q0])), (q0, .inl (c0, 120, .inl f0)), (dh, .inr (4, [.int sh, w1, w2, .int tn, w4, w5, w6, w7, w8]))] sz) [(h0, .inr (2, [.ref eh, .ref dh, .int tk2, .int st2, .int en2, .long dr])), (eh, .inr (5, [.int ts, .ref q0])), (q0, .inl (c0, 120, .inl f0)), (dh, .inr (4, [.int sh, w1, w2, .int tn2, w4, w5, w6, w7, w8]))]) (va_A [(h0, .inr (2, [.ref eh, .ref dh, .int tk, .int stt, .int en, .long dr])), (eh, .inr (5, [.int ts, .ref q0])), (q0, .inl (c0, 120, .inl f0)), (dh, .inr (4, [.int sh, w1, w2, .int tn, w4, w5, w6, w7, w8]))] sz)) 0 0 (va_A [(h0, .inr (2, [.ref eh, .ref dh, .int tk, .int stt, .int en, .long dr])), (eh, .inr (5, [.int ts, .ref q0])), (q0, .inl (c0, 120, .inl f0)), (dh, .inr (4, [.int sh, w1, w2, .int tn, w4, w5, w6, w7, w8]))] sz) := by
  refine Met.ofW (cc := cX4_tornItem) (maxL := 2) (ret := (some .boolean)) (by decide) rfl ?_
  intro p e s m args below meth c s₁ B hml hv
  obtain ⟨rfl, hsz, hP, hK, hD0, hev⟩ := hv
  have hx := B.exec
  have hb := B.bytes
  have hr := B.returns
  have hts := atoms_spec (ws := w_q_tornItem) B.pre
  have hown : s.vm.findClass RX4 = some m.cls := findClass_of_methodNamed B.named
  have hlocks := B.notSynchronized
  have inX4 : ∀ w ∈ wsX40, w ∈ w_q_tornItem := fun w h => List.mem_cons_of_mem _ (List.mem_append_left _ (List.mem_append_left _ (List.mem_append_right _ h)))
  have inX7 : ∀ w ∈ wsX70, w ∈ w_q_tornItem := fun w h => List.mem_cons_of_mem _ (List.mem_append_left _ (List.mem_append_right _ h))
  have inX6 : ∀ w ∈ wsX60, w ∈ w_q_tornItem := fun w h => List.mem_cons_of_mem _ (List.mem_append_right _ h)
  subst hsz
  have hD := hD0.self (sz := s.heap.size)
  generalize hAe : va_A [(h0, .inr (2, [.ref eh, .ref dh, .int tk, .int stt, .int en, .long dr])), (eh, .inr (5, [.int ts, .ref q0])), (q0, .inl (c0, 120, .inl f0)), (dh, .inr (4, [.int sh, w1, w2, .int tn, w4, w5, w6, w7, w8]))] s.heap.size = A at hD ⊢
  have hA : ∀ q : Nat, s.heap.size ≤ q → A q := fun q h => by rw [← hAe]; exact Or.inr h
  have hS : va_S A s.heap s.heap [] := va_S.rf
  have hP : va_P (dC, dI) vwCl [(h0, .inr (2, [.ref eh, .ref dh, .int tk, .int stt, .int en, .long dr])), (eh, .inr (5, [.int ts, .ref q0])), (q0, .inl (c0, 120, .inl f0)), (dh, .inr (4, [.int sh, w1, w2, .int tn, w4, w5, w6, w7, w8]))] s.heap := hP
  have hl := lv_entry ([.ref h0]) (n := 2) (Nat.le_of_ble_eq_true rfl)
  rw [lg_entry_eq]
  generalize (lg_sl ([.ref h0]) ++ List.replicate (2 - (lg_sl ([.ref h0])).length) Slot.unset).toArray = ls at hl ⊢
  have hl : lv_has ls 2 [(0, .ref h0)] := hl
  refine lv_aload_n hx hb dX4_tornItem_0 rfl (lv_at hl 0 rfl) ?_
  have hPc := hP.sub (ws' := [(h0, .inr (2, [.ref eh, .ref dh, .int tk, .int stt, .int en, .long dr])), (eh, .inr (5, [.int ts, .ref q0])), (q0, .inl (c0, 120, .inl f0))]) [0, 1, 2] rfl
  have hKc := hK.sub (tys' := [(c0, .int)]) [0] rfl
  have hDc := hD.sub (ws' := [(h0, .inr (2, [.ref eh, .ref dh, .int tk, .int stt, .int en, .long dr])), (eh, .inr (5, [.int ts, .ref q0])), (q0, .inl (c0, 120, .inl f0))]) [0, 1, 2] (by decide) rfl
  have hFc := va_free (wc := [(h0, .inr (2, [.ref eh, .ref dh, .int tk, .int stt, .int en, .long dr])), (eh, .inr (5, [.int ts, .ref q0])), (q0, .inl (c0, 120, .inl f0))]) hD hS hA [0, 1, 2] rfl
  refine va_callv (va_runV (As := []) (rest := []) ⟨hx, hb, hml, hown, hts⟩ (q_advance l dC dI ad h0 eh dh tk stt en dr ts q0 c0 f0 s.heap.size hts2 (by first | omega | decide | (simp only [fa_lt, fa_le, fa_eq, and_true, true_and, and_false, false_and, not_true_eq_false, not_false_eq_true, li_0, li_1, li_2, li_3, li_4, li_5, li_6, li_7, li_8, li_9, li_10, li_12, li_15, li_16, li_20, li_30, li_34, li_38, li_40, li_63, li_64, li_65, li_78, li_120, li_1000, li_4000, li_10000, li_11077, li_255, li_65535, li_m1, li_m2, li_m1000000001, li_m1000000002, li_m1000000003, li_m1000000004, li_m1000000005, li_m1000000006, li_m1000000007, or_true, true_or, or_false, false_or, implies_true, true_implies, false_implies] <;> omega))) (cwV 0 hts g_q_tornItem_q_advance_39 rfl rfl rfl (by decide +kernel) ⟨(Nat.le_of_ble_eq_true rfl), (Nat.le_of_ble_eq_true rfl)⟩) ⟨preM_blind, va_recv hKc hPc (ci := 2) (q0 := 0) rfl rfl, fun U hU hW => ⟨rfl, preM_at hU hW hPc hKc hDc hev⟩⟩ rfl rfl hl.1 rfl (lv_room (Nat.le_of_ble_eq_true rfl)) dX4_tornItem_1 ⟨(Nat.le_of_ble_eq_true rfl), (Nat.le_of_ble_eq_true rfl)⟩) hS (fun q _ h => hFc q h) hFc (fun u t H1 locs ht hvm hw hB hz1 hk1 hS => ?_)
  obtain ⟨tk_2, st_3, en_4, hq_5, hP1, hK1, hD1⟩ := hB
  rw [ht] at hP1
  have hK1 := va_K.moved hvm.symm hK1
  obtain ⟨hP, hD⟩ := va_join (wr := [(dh, .inr (4, [.int sh, w1, w2, .int tn, w4, w5, w6, w7, w8]))]) (w1 := [(h0, .inr (2, [.ref eh, .ref dh, .int tk_2, .int st_3, .int en_4, .long dr])), (eh, .inr (5, [.int ts, .ref q0])), (q0, .inl (c0, 120, .inl f0))]) hP hD [0, 1, 2] [3] rfl rfl (by decide) (by decide) hk1 hFc hP1 hD1
  generalize H1 = H at hP hS ⊢
  have hP : va_P (dC, dI) vwCl [(dh, .inr (4, [.int sh, w1, w2, .int tn, w4, w5, w6, w7, w8])), (h0, .inr (2, [.ref eh, .ref dh, .int tk_2, .int st_3, .int en_4, .long dr])), (eh, .inr (5, [.int ts, .ref q0])), (q0, .inl (c0, 120, .inl f0))] H := hP
  have hD : va_D A [(dh, .inr (4, [.int sh, w1, w2, .int tn, w4, w5, w6, w7, w8])), (h0, .inr (2, [.ref eh, .ref dh, .int tk_2, .int st_3, .int en_4, .long dr])), (eh, .inr (5, [.int ts, .ref q0])), (q0, .inl (c0, 120, .inl f0))] := hD
  refine lv_aload_n hx hb dX4_tornItem_4 rfl (lv_at hl 0 rfl) ?_
  have hPc := hP.sub (ws' := [(h0, .inr (2, [.ref eh, .ref dh, .int tk_2, .int st_3, .int en_4, .long dr])), (eh, .inr (5, [.int ts, .ref q0])), (q0, .inl (c0, 120, .inl f0))]) [1, 2, 3] rfl
  have hKc := hK.sub (tys' := [(c0, .int)]) [0] rfl
  refine vp_callSi (W.runV (As := []) (rest := []) ⟨hx, hb, hml, hown, hts⟩ (q_value l dC dI ad h0 eh dh tk_2 st_3 en_4 dr ts q0 c0 f0 hts2 (by first | omega | decide | (simp only [fa_lt, fa_le, fa_eq, and_true, true_and, and_false, false_and, not_true_eq_false, not_false_eq_true, li_0, li_1, li_2, li_3, li_4, li_5, li_6, li_7, li_8, li_9, li_10, li_12, li_15, li_16, li_20, li_30, li_34, li_38, li_40, li_63, li_64, li_65, li_78, li_120, li_1000, li_4000, li_10000, li_11077, li_255, li_65535, li_m1, li_m2, li_m1000000001, li_m1000000002, li_m1000000003, li_m1000000004, li_m1000000005, li_m1000000006, li_m1000000007, or_true, true_or, or_false, false_or, implies_true, true_implies, false_implies] <;> omega))) (cwV 0 hts g_q_tornItem_q_value_135 rfl rfl rfl (by decide +kernel) ⟨(Nat.le_of_ble_eq_true rfl), (Nat.le_of_ble_eq_true rfl)⟩) ⟨preS_blind, va_recv hKc hPc (ci := 2) (q0 := 0) rfl rfl, fun U hU hW => ⟨rfl, preS_at hU hW hPc hKc hev⟩⟩ rfl rfl hl.1 rfl (lv_room (Nat.le_of_ble_eq_true rfl)) dX4_tornItem_5 ⟨(Nat.le_of_ble_eq_true rfl), (Nat.le_of_ble_eq_true rfl)⟩) (fun r_6 hw => ?_)
  refine lv_istore_n (lv' := [(1, .int r_6), (0, .ref h0)]) hx hb dX4_tornItem_8 rfl hl (by decide) rfl (fun ls hl => ?_)
  refine lv_aload_n hx hb dX4_tornItem_9 rfl (lv_at hl 1 rfl) ?_
  refine va_get (D := (dC, dI)) (ci := 2) (v := .ref dh) (C := RX4) (T := TX4) (N := 6) hx hb hts inX4 hown hK hP 1 rfl rfl 1 (by decide) (hts _ (List.mem_of_getElem? (i := 21) rfl)) (fun _ h9 => h9) rfl dX4_tornItem_10 ?_
  refine lv_iload_n hx hb dX4_tornItem_13 rfl (lv_at hl 0 rfl) ?_
  have hPc := hP.sub (ws' := [(dh, .inr (4, [.int sh, w1, w2, .int tn, w4, w5, w6, w7, w8]))]) [0] rfl
  have hKc := hK.sub (tys' := []) [] rfl
  refine vp_callSi (W.runV (As := [.int r_6]) (rest := []) ⟨hx, hb, hml, hown, hts⟩ (s_hasShape l dC dI ad dh r_6 sh w1 w2 (.int tn) w4 w5 w6 w7 w8 ) (cwV 1 hts g_q_tornItem_s_hasShape_138 rfl rfl rfl (by decide +kernel) ⟨(Nat.le_of_ble_eq_true rfl), (Nat.le_of_ble_eq_true rfl)⟩) ⟨preS_blind, va_recv hKc hPc (ci := 4) (q0 := 0) rfl rfl, fun U hU hW => ⟨rfl, preS_at hU hW hPc hKc hev⟩⟩ rfl rfl hl.1 rfl (lv_room (Nat.le_of_ble_eq_true rfl)) dX4_tornItem_14 ⟨(Nat.le_of_ble_eq_true rfl), (Nat.le_of_ble_eq_true rfl)⟩) (fun r_7 hw => ?_)
  have hr_7 : (r_7.toInt = 1 ∧ 0 ≤ r_6.toInt ∧ r_6.toInt < sh.toInt) ∨ r_7.toInt = 0 := hw
  refine lv_if_ne (tgt := 22) hx hb dX4_tornItem_17 (by decide) (fun c_8 => ?_) (fun c_8 => ?_)
  · skip
    have tc_8 : ¬ r_7.toInt = 0 := fun h => c_8 ((fa_eq _ _).mpr h)
    refine lv_aload_n hx hb dX4_tornItem_22 rfl (lv_at hl 1 rfl) ?_
    refine va_get (D := (dC, dI)) (ci := 2) (v := .ref dh) (C := RX4) (T := TX4) (N := 6) hx hb hts inX4 hown hK hP 1 rfl rfl 1 (by decide) (hts _ (List.mem_of_getElem? (i := 21) rfl)) (fun _ h9 => h9) rfl dX4_tornItem_23 ?_
    refine lv_iload_n hx hb dX4_tornItem_26 rfl (lv_at hl 0 rfl) ?_
    refine lv_iconst (v := 1) hx hb dX4_tornItem_27 (by decide) ?_
    have hPc := hP.sub (ws' := [(dh, .inr (4, [.int sh, w1, w2, .int tn, w4, w5, w6, w7, w8]))]) [0] rfl
    have hKc := hK.sub (tys' := []) [] rfl
    have hDc := hD.sub (ws' := [(dh, .inr (4, [.int sh, w1, w2, .int tn, w4, w5, w6, w7, w8]))]) [0] (by decide) rfl
    have hFc := va_free (wc := [(dh, .inr (4, [.int sh, w1, w2, .int tn, w4, w5, w6, w7, w8]))]) hD hS hA [0] rfl
    refine va_callv (va_runV (As := [.int r_6, .int 1]) (rest := []) ⟨hx, hb, hml, hown, hts⟩ (s_setTorn l dC dI ad dh r_6 1 (.int sh) w1 w2 tn w4 w5 w6 w7 w8 H.size ) (cwV 2 hts g_q_tornItem_s_setTorn_163 rfl rfl rfl (by decide +kernel) ⟨(Nat.le_of_ble_eq_true rfl), (Nat.le_of_ble_eq_true rfl)⟩) ⟨preM_blind, va_recv hKc hPc (ci := 4) (q0 := 0) rfl rfl, fun U hU hW => ⟨rfl, preM_at hU hW hPc hKc hDc hev⟩⟩ rfl rfl hl.1 rfl (lv_room (Nat.le_of_ble_eq_true rfl)) dX4_tornItem_28 ⟨(Nat.le_of_ble_eq_true rfl), (Nat.le_of_ble_eq_true rfl)⟩) hS (fun q _ h => hFc q h) hFc (fun u t H1 locs ht hvm hw hB hz1 hk1 hS => ?_)
    obtain ⟨tn_10, hP1, hK1, hD1⟩ := hB
    rw [ht] at hP1
    have hK1 := va_K.moved hvm.symm hK1
    obtain ⟨hP, hD⟩ := va_join (wr := [(h0, .inr (2, [.ref eh, .ref dh, .int tk_2, .int st_3, .int en_4, .long dr])), (eh, .inr (5, [.int ts, .ref q0])), (q0, .inl (c0, 120, .inl f0))]) (w1 := [(dh, .inr (4, [.int sh, w1, w2, .int tn_10, w4, w5, w6, w7, w8]))]) hP hD [0] [1, 2, 3] rfl rfl (by decide) (by decide) hk1 hFc hP1 hD1
    generalize H1 = H at hP hS ⊢
    have hP : va_P (dC, dI) vwCl [(h0, .inr (2, [.ref eh, .ref dh, .int tk_2, .int st_3, .int en_4, .long dr])), (eh, .inr (5, [.int ts, .ref q0])), (q0, .inl (c0, 120, .inl f0)), (dh, .inr (4, [.int sh, w1, w2, .int tn_10, w4, w5, w6, w7, w8]))] H := hP
    have hD : va_D A [(h0, .inr (2, [.ref eh, .ref dh, .int tk_2, .int st_3, .int en_4, .long dr])), (eh, .inr (5, [.int ts, .ref q0])), (q0, .inl (c0, 120, .inl f0)), (dh, .inr (4, [.int sh, w1, w2, .int tn_10, w4, w5, w6, w7, w8]))] := hD
    refine lv_aload_n hx hb dX4_tornItem_31 rfl (lv_at hl 1 rfl) ?_
    have hPc := hP.sub (ws' := [(h0, .inr (2, [.ref eh, .ref dh, .int tk_2, .int st_3, .int en_4, .long dr])), (eh, .inr (5, [.int ts, .ref q0])), (q0, .inl (c0, 120, .inl f0))]) [0, 1, 2] rfl
    have hKc := hK.sub (tys' := [(c0, .int)]) [0] rfl
    have hDc := hD.sub (ws' := [(h0, .inr (2, [.ref eh, .ref dh, .int tk_2, .int st_3, .int en_4, .long dr])), (eh, .inr (5, [.int ts, .ref q0])), (q0, .inl (c0, 120, .inl f0))]) [0, 1, 2] (by decide) rfl
    have hFc := va_free (wc := [(h0, .inr (2, [.ref eh, .ref dh, .int tk_2, .int st_3, .int en_4, .long dr])), (eh, .inr (5, [.int ts, .ref q0])), (q0, .inl (c0, 120, .inl f0))]) hD hS hA [0, 1, 2] rfl
    refine va_callv (va_runV (As := []) (rest := []) ⟨hx, hb, hml, hown, hts⟩ (q_advance l dC dI ad h0 eh dh tk_2 st_3 en_4 dr ts q0 c0 f0 H.size hts2 (by first | omega | decide | (simp only [fa_lt, fa_le, fa_eq, and_true, true_and, and_false, false_and, not_true_eq_false, not_false_eq_true, li_0, li_1, li_2, li_3, li_4, li_5, li_6, li_7, li_8, li_9, li_10, li_12, li_15, li_16, li_20, li_30, li_34, li_38, li_40, li_63, li_64, li_65, li_78, li_120, li_1000, li_4000, li_10000, li_11077, li_255, li_65535, li_m1, li_m2, li_m1000000001, li_m1000000002, li_m1000000003, li_m1000000004, li_m1000000005, li_m1000000006, li_m1000000007, or_true, true_or, or_false, false_or, implies_true, true_implies, false_implies] <;> omega))) (cwV 0 hts g_q_tornItem_q_advance_39 rfl rfl rfl (by decide +kernel) ⟨(Nat.le_of_ble_eq_true rfl), (Nat.le_of_ble_eq_true rfl)⟩) ⟨preM_blind, va_recv hKc hPc (ci := 2) (q0 := 0) rfl rfl, fun U hU hW => ⟨rfl, preM_at hU hW hPc hKc hDc hev⟩⟩ rfl rfl hl.1 rfl (lv_room (Nat.le_of_ble_eq_true rfl)) dX4_tornItem_32 ⟨(Nat.le_of_ble_eq_true rfl), (Nat.le_of_ble_eq_true rfl)⟩) hS (fun q _ h => hFc q h) hFc (fun u t H1 locs ht hvm hw hB hz1 hk1 hS => ?_)
    obtain ⟨tk_12, st_13, en_14, hq_15, hP1, hK1, hD1⟩ := hB
    rw [ht] at hP1
    have hK1 := va_K.moved hvm.symm hK1
    obtain ⟨hP, hD⟩ := va_join (wr := [(dh, .inr (4, [.int sh, w1, w2, .int tn_10, w4, w5, w6, w7, w8]))]) (w1 := [(h0, .inr (2, [.ref eh, .ref dh, .int tk_12, .int st_13, .int en_14, .long dr])), (eh, .inr (5, [.int ts, .ref q0])), (q0, .inl (c0, 120, .inl f0))]) hP hD [0, 1, 2] [3] rfl rfl (by decide) (by decide) hk1 hFc hP1 hD1
    generalize H1 = H at hP hS ⊢
    have hP : va_P (dC, dI) vwCl [(dh, .inr (4, [.int sh, w1, w2, .int tn_10, w4, w5, w6, w7, w8])), (h0, .inr (2, [.ref eh, .ref dh, .int tk_12, .int st_13, .int en_14, .long dr])), (eh, .inr (5, [.int ts, .ref q0])), (q0, .inl (c0, 120, .inl f0))] H := hP
    have hD : va_D A [(dh, .inr (4, [.int sh, w1, w2, .int tn_10, w4, w5, w6, w7, w8])), (h0, .inr (2, [.ref eh, .ref dh, .int tk_12, .int st_13, .int en_14, .long dr])), (eh, .inr (5, [.int ts, .ref q0])), (q0, .inl (c0, 120, .inl f0))] := hD
    refine lv_iconst (v := 1) hx hb dX4_tornItem_35 (by decide) ?_
    have hP9 := hP.sub (ws' := [(h0, .inr (2, [.ref eh, .ref dh, .int tk_12, .int st_13, .int en_14, .long dr])), (eh, .inr (5, [.int ts, .ref q0])), (q0, .inl (c0, 120, .inl f0)), (dh, .inr (4, [.int sh, w1, w2, .int tn_10, w4, w5, w6, w7, w8]))]) [1, 2, 3, 0] rfl
    have hD9 := hD.sub (ws' := [(h0, .inr (2, [.ref eh, .ref dh, .int tk_12, .int st_13, .int en_14, .long dr])), (eh, .inr (5, [.int ts, .ref q0])), (q0, .inl (c0, 120, .inl f0)), (dh, .inr (4, [.int sh, w1, w2, .int tn_10, w4, w5, w6, w7, w8]))]) [1, 2, 3, 0] (by decide) rfl
    have hK9 := hK.sub (tys' := [(c0, .int)]) [0] rfl
    exact W.zret (v := (1 : Int32)) hx hb hr (by decide) (fun t ht hW => ⟨⟨(1 : Int32), (), rfl, (by first | omega | decide | (simp only [fa_lt, fa_le, fa_eq, and_true, true_and, and_false, false_and, not_true_eq_false, not_false_eq_true, li_0, li_1, li_2, li_3, li_4, li_5, li_6, li_7, li_8, li_9, li_10, li_12, li_15, li_16, li_20, li_30, li_34, li_38, li_40, li_63, li_64, li_65, li_78, li_120, li_1000, li_4000, li_10000, li_11077, li_255, li_65535, li_m1, li_m2, li_m1000000001, li_m1000000002, li_m1000000003, li_m1000000004, li_m1000000005, li_m1000000006, li_m1000000007, or_true, true_or, or_false, false_or, implies_true, true_implies, false_implies] <;> omega)), tk_12, st_13, en_14, tn_10, hq_15, by rw [ht]; exact hP9, va_K.moved hW.alike hK9, hD9⟩, hS.F ht⟩) hS.2.2 dX4_tornItem_36
  · skip
    have tc_8 : r_7.toInt = 0 := (fa_eq _ _).mp c_8
    refine lv_iconst (v := 0) hx hb dX4_tornItem_20 (by decide) ?_
    have hP9 := hP.sub (ws' := [(h0, .inr (2, [.ref eh, .ref dh, .int tk_2, .int st_3, .int en_4, .long dr])), (eh, .inr (5, [.int ts, .ref q0])), (q0, .inl (c0, 120, .inl f0)), (dh, .inr (4, [.int sh, w1, w2, .int tn, w4, w5, w6, w7, w8]))]) [1, 2, 3, 0] rfl
    have hD9 := hD.sub (ws' := [(h0, .inr (2, [.ref eh, .ref dh, .int tk_2, .int st_3, .int en_4, .long dr])), (eh, .inr (5, [.int ts, .ref q0])), (q0, .inl (c0, 120, .inl f0)), (dh, .inr (4, [.int sh, w1, w2, .int tn, w4, w5, w6, w7, w8]))]) [1, 2, 3, 0] (by decide) rfl
    have hK9 := hK.sub (tys' := [(c0, .int)]) [0] rfl
    exact W.zret (v := (0 : Int32)) hx hb hr (by decide) (fun t ht hW => ⟨⟨(0 : Int32), (), rfl, (by first | omega | decide | (simp only [fa_lt, fa_le, fa_eq, and_true, true_and, and_false, false_and, not_true_eq_false, not_false_eq_true, li_0, li_1, li_2, li_3, li_4, li_5, li_6, li_7, li_8, li_9, li_10, li_12, li_15, li_16, li_20, li_30, li_34, li_38, li_40, li_63, li_64, li_65, li_78, li_120, li_1000, li_4000, li_10000, li_11077, li_255, li_65535, li_m1, li_m2, li_m1000000001, li_m1000000002, li_m1000000003, li_m1000000004, li_m1000000005, li_m1000000006, li_m1000000007, or_true, true_or, or_false, false_or, implies_true, true_implies, false_implies] <;> omega)), tk_2, st_3, en_4, tn, hq_5, by rw [ht]; exact hP9, va_K.moved hW.alike hK9, hD9⟩, hS.F ht⟩) hS.2.2 dX4_tornItem_21

def w_q_holdItem : List Cond := .code yX4_holdItem cX4_holdItem 7 (some .boolean) :: (([.fieldLink RX4 21 "LampShapes$Script" "stage" "LLampShapes$Stage;", .methodLink RX4 132 yX6_freeHold, .instanceMethod yX6_freeHold, .selects RX6 yX6_freeHold yX6_freeHold, .initialized RX6, .code yX6_freeHold cX6_freeHold 1 (some .int), .methodLink RX6 66 yX6_holdOf, .instanceMethod yX6_holdOf, .selects RX6 yX6_holdOf yX6_holdOf, .code yX6_holdOf cX6_holdOf 3 (some .int), .fieldLink RX6 25 "LampShapes$Stage" "heldShapes" "[I", .methodLink RX4 39 yX4_advance, .instanceMethod yX4_advance, .selects RX4 yX4_advance yX4_advance, .initialized RX4, .code yX4_advance cX4_advance 1 none, .fieldLink RX4 32 "LampShapes$Script" "end" "I", .fieldLink RX4 29 "LampShapes$Script" "start" "I", .fieldLink RX4 12 "LampShapes$Script" "tape" "LLampShapes$Tape;", .methodLink RX4 53 yX4_sortOf, .static yX4_sortOf, .code yX4_sortOf cX4_sortOf 1 (some .int), .fieldLink RX4 25 "LampShapes$Script" "token" "I", .methodLink RX4 135 yX4_value, .instanceMethod yX4_value, .selects RX4 yX4_value yX4_value, .code yX4_value cX4_value 3 (some .int), .methodLink RX4 167 Lib.Math.min.name, .static Lib.Math.min.name, .initialized "java/lang/Math", .code Lib.Math.min.name Lib.Math.min.code 2 (some .int), .methodLink RX4 138 yX6_hasShape, .instanceMethod yX6_hasShape, .selects RX6 yX6_hasShape yX6_hasShape, .code yX6_hasShape cX6_hasShape 2 (some .boolean), .fieldLink RX6 9 "LampShapes$Stage" "shapes" "I", .methodLink RX4 141 yX6_holdOf, .methodLink RX4 95 yX4_passes, .instanceMethod yX4_passes, .selects RX4 yX4_passes yX4_passes, .code yX4_passes cX4_passes 2 (some .boolean), .methodLink RX4 76 yX4_isWord, .instanceMethod yX4_isWord, .selects RX4 yX4_isWord yX4_isWord, .code yX4_isWord cX4_isWord 3 (some .boolean), .methodLink RX4 57 yJ0_length_8abf5, .instanceMethod yJ0_length_8abf5, .selects RJ0 yJ0_length_8abf5 yJ0_length_8abf5, .initialized RJ0, .code yJ0_length_8abf5 cJ0_length_8abf5 1 (some .int), .fieldLink RJ0 9 "java/lang/String" "value" "[B", .methodLink RJ0 335 yJ0_coder_7d493, .instanceMethod yJ0_coder_7d493, .selects RJ0 yJ0_coder_7d493 yJ0_coder_7d493, .code yJ0_coder_7d493 cJ0_coder_7d493 1 (some .byte), .fieldLink RJ0 38 "java/lang/String" "COMPACT_STRINGS" "Z", .fieldLink RJ0 15 "java/lang/String" "coder" "B", .methodLink RX4 63 yJ0_charAt_5068e, .instanceMethod yJ0_charAt_5068e, .selects RJ0 yJ0_charAt_5068e yJ0_charAt_5068e, .code yJ0_charAt_5068e cJ0_charAt_5068e 2 (some .char), .methodLink RJ0 492 yJ0_isLatin1_aae02, .instanceMethod yJ0_isLatin1_aae02, .selects RJ0 yJ0_isLatin1_aae02 yJ0_isLatin1_aae02, .code yJ0_isLatin1_aae02 cJ0_isLatin1_aae02 1 (some .boolean), .methodLink RJ0 495 yJ1_charAt_3b067, .static yJ1_charAt_3b067, .initialized RJ1, .code yJ1_charAt_3b067 cJ1_charAt_3b067 2 (some .char), .methodLink RJ1 9 yJ0_checkIndex_df160, .static yJ0_checkIndex_df160, .code yJ0_checkIndex_df160 cJ0_checkIndex_df160 2 none, .fieldLink RJ0 1053 "jdk/internal/util/Preconditions" "SIOOBE_FORMATTER" "Ljava/util/function/BiFunction;", .methodLink RJ0 1059 yJ3_checkIndex_8e157, .static yJ3_checkIndex_8e157, .initialized RJ3, .code yJ3_checkIndex_8e157 cJ3_checkIndex_8e157 3 (some .int), .methodLink RJ0 498 yJ2_charAt_3b067, .static yJ2_charAt_3b067, .initialized RJ2, .code yJ2_charAt_3b067 cJ2_charAt_3b067 2 (some .char), .methodLink RJ2 67 yJ2_checkIndex_2214a, .static yJ2_checkIndex_2214a, .code yJ2_checkIndex_2214a cJ2_checkIndex_2214a 2 none, .methodLink RJ2 48 yJ2_length_9d52b, .static yJ2_length_9d52b, .code yJ2_length_9d52b cJ2_length_9d52b 1 (some .int), .methodLink RJ2 414 yJ0_checkIndex_df160, .methodLink RJ2 71 yJ2_getChar_3b067, .static yJ2_getChar_3b067, .code yJ2_getChar_3b067 cJ2_getChar_3b067 2 (some .char), .fieldLink RJ2 44 "java/lang/StringUTF16" "$assertionsDisabled" "Z", .fieldLink RJ2 59 "java/lang/StringUTF16" "HI_BYTE_SHIFT" "I", .fieldLink RJ2 63 "java/lang/StringUTF16" "LO_BYTE_SHIFT" "I", .methodLink RX4 146 yX4_numberWithin, .instanceMethod yX4_numberWithin, .selects RX4 yX4_numberWithin yX4_numberWithin, .code yX4_numberWithin cX4_numberWithin 4 (some .int), .methodLink RX4 153 yX1_placingAt, .static yX1_placingAt, .initialized RX1, .code yX1_placingAt cX1_placingAt 3 (some .int), .methodLink RX4 159 yX6_take, .instanceMethod yX6_take, .selects RX6 yX6_take yX6_take, .code yX6_take cX6_take 4 none, .fieldLink RX6 28 "LampShapes$Stage" "heldPlacings" "[I"] : List Cond) ++ wsX40 ++ wsX60 ++ wsX70)
set_option maxRecDepth 20000 in
theorem g_q_holdItem_s_freeHold_132 : GoodIn w_q_holdItem (wsV RX4 132 RX6 yX6_freeHold w_s_freeHold) := goodIn_r _ [2, 3, 4, 5, 6, 7, 8, 9, 5, 10, 11, 114, 115, 116, 117, 118, 119, 120, 121, 122] rfl (by decide +kernel)
set_option maxRecDepth 20000 in
theorem g_q_holdItem_q_advance_39 : GoodIn w_q_holdItem (wsV RX4 39 RX4 yX4_advance w_q_advance) := goodIn_r _ [12, 13, 14, 15, 16, 17, 18, 19, 20, 21, 15, 22, 23, 108, 109, 110, 111, 112, 113, 123, 124] rfl (by decide +kernel)
set_option maxRecDepth 20000 in
theorem g_q_holdItem_q_value_135 : GoodIn w_q_holdItem (wsV RX4 135 RX4 yX4_value w_q_value) := goodIn_r _ [24, 25, 26, 15, 27, 23, 18, 17, 19, 28, 29, 30, 31, 108, 109, 110, 111, 112, 113, 123, 124] rfl (by decide +kernel)
set_option maxRecDepth 20000 in
theorem g_q_holdItem_s_hasShape_138 : GoodIn w_q_holdItem (wsV RX4 138 RX6 yX6_hasShape w_s_hasShape) := goodIn_r _ [32, 33, 34, 5, 35, 36, 114, 115, 116, 117, 118, 119, 120, 121, 122] rfl (by decide +kernel)
set_option maxRecDepth 20000 in
theorem g_q_holdItem_s_holdOf_141 : GoodIn w_q_holdItem (wsV RX4 141 RX6 yX6_holdOf w_s_holdOf) := goodIn_r _ [37, 8, 9, 5, 10, 11, 114, 115, 116, 117, 118, 119, 120, 121, 122] rfl (by decide +kernel)
set_option maxRecDepth 20000 in
theorem g_q_holdItem_q_passes_95 : GoodIn w_q_holdItem (wsV RX4 95 RX4 yX4_passes w_q_passes) := goodIn_r _ [38, 39, 40, 15, 41, 42, 43, 44, 15, 45, 23, 17, 18, 46, 47, 48, 49, 50, 51, 52, 53, 54, 55, 56, 57, 19, 58, 59, 60, 61, 62, 63, 64, 65, 66, 67, 68, 69, 70, 71, 72, 73, 74, 75, 76, 77, 78, 79, 80, 81, 82, 83, 84, 85, 86, 87, 88, 89, 90, 91, 92, 93, 94, 12, 13, 14, 16, 20, 21, 22, 108, 109, 110, 111, 112, 113, 123, 124] rfl (by decide +kernel)
set_option maxRecDepth 20000 in
theorem g_q_holdItem_q_numberWithin_146 : GoodIn w_q_holdItem (wsV RX4 146 RX4 yX4_numberWithin w_q_numberWithin) := goodIn_r _ [95, 96, 97, 15, 98, 24, 25, 26, 15, 27, 23, 18, 17, 19, 28, 29, 30, 31, 12, 13, 14, 16, 20, 21, 22, 108, 109, 110, 111, 112, 113, 123, 124] rfl (by decide +kernel)
set_option maxRecDepth 20000 in
theorem g_q_holdItem_l_placingAt_153 : GoodIn w_q_holdItem (va_wsS RX4 153 yX1_placingAt w_l_placingAt) := goodIn_r _ [99, 100, 101, 102] rfl (by decide +kernel)
set_option maxRecDepth 20000 in
theorem g_q_holdItem_s_take_159 : GoodIn w_q_holdItem (wsV RX4 159 RX6 yX6_take w_s_take) := goodIn_r _ [103, 104, 105, 5, 106, 11, 107, 114, 115, 116, 117, 118, 119, 120, 121, 122] rfl (by decide +kernel)
set_option maxHeartbeats 4000000 in
set_option maxRecDepth 100000 in
theorem q_holdItem (l : Launch) (dC : Nat → ClassId) (dI : Nat → Nat → Nat) (ad : Nat → Nat) (h0 : Nat) (eh : Nat) (dh : Nat) (tk : Int32) (stt : Int32) (en : Int32) (dr : Int64) (ts : Int32) (q0 : Nat) (c0 : ClassId) (f0 : Nat → Int32) (sh : Int32) (w1 : Value) (w2 : Value) (w3 : Value) (q3 : Nat) (q4 : Nat) (w6 : Value) (w7 : Value) (w8 : Value) (c3 : ClassId) (f3 : Nat → Int32) (c4 : ClassId) (f4 : Nat → Int32) (sz : Nat) (hts2 : 0 ≤ ts.toInt ∧ ts.toInt ≤ 120) (hse : 0 ≤ stt.toInt ∧ en.toInt ≤ ts.toInt ∧ stt.toInt ≤ en.toInt) : Met l yX4_holdItem w_q_holdItem ({ frames := 6, cells := 0, slots := 0, locals := 128 } : Room) (va_Pc [.ref h0] (preT dC dI ad [(c0, .int), (c3, .int), (c4, .int)] [(h0, .inr (2, [.ref eh, .ref dh, .int tk, .int stt, .int en, .long dr])), (eh, .inr (5, [.int ts, .ref q0])), (q0, .inl (c0, 120, .inl f0)), (dh, .inr (4, [.int sh, w1, w2, w3, .ref q3, .ref q4, w6, w7, w8])), (q3, .inl (c3, 4, .inl f3)), (q4, .inl (c4, 4, .inl f4))] sz)) (va_Qi (fun (r : Int32) (_ : Unit) => r.toInt = 0 ∨ r.toInt = 1) (fun _ t => ∃ (tk2 : Int32), ∃ (st2 : Int32), ∃ (en2 : Int32), ∃ (g3 : Nat → Int32), ∃ (g4 : Nat → Int32), (0 ≤ st2.toInt ∧ st2.toInt ≤ en2.toInt ∧ en2.toInt ≤ ts.toInt) ∧ va_P (dC, dI) vwCl [(h0, .inr (2, [.ref eh, .ref dh, .int tk2, .int st2, .int en2, .long dr])), (eh, .inr (5, [.int ts, .ref q0])), (q0, .inl (c0, 120, .inl f0)), (dh, .inr (4, [.int sh, w1, w2, w3, .ref q3, .ref q4, w6, w7, w8])), (q3, .inl (c3, 4, .inl g3)), (q4, .inl (c4, 4, .inl g4))] t.heap ∧ va_K (dC, dI) vwCl [(c0, .int), (c3, .int), (c4, .int)] t ∧ va_D (va_A [(h0, .inr (2, [.ref eh, .ref dh, .int tk, .int stt, .int en, .long dr])), (eh, .inr (5, [.int ts, .ref q0])), (q0, .inl (c0, 120, .inl f0)), (dh, .inr (4, [.int sh, w1, w2, w3, .ref q3, .ref q4, w6, w7, w8])), (q3, .inl (c3, 4, .inl f3)), (q4, .inl (c4, 4, .inl f4))] sz) [(h0, .inr (2, [.ref eh, .ref dh, .int tk2, .int st2, .int en2, .long dr])), (eh, .inr (5, [.int ts, .ref q0])), (q0, .inl (c0, 120, .inl f0)), (dh, .inr (4, [.int sh, w1, w2, w3, .ref q3, .ref q4, w6, w7, w8])), (q3, .inl (c3, 4, .inl g3)), (q4, .inl (c4, 4, .inl g4))]) (va_A [(h0, .inr (2, [.ref eh, .ref dh, .int tk, .int stt, .int en, .long dr])), (eh, .inr (5, [.int ts, .ref q0])), (q0, .inl (c0, 120, .inl f0)), (dh, .inr (4, [.int sh, w1, w2, w3, .ref q3, .ref q4, w6, w7, w8])), (q3, .inl (c3, 4, .inl f3)), (q4, .inl (c4, 4, .inl f4))] sz)) 0 0 (va_A [(h0, .inr (2, [.ref eh, .ref dh, .int tk, .int stt, .int en, .long dr])), (eh, .inr (5, [.int ts, .ref q0])), (q0, .inl (c0, 120, .inl f0)), (dh, .inr (4, [.int sh, w1, w2, w3, .ref q3, .ref q4, w6, w7, w8])), (q3, .inl (c3, 4, .inl f3)), (q4, .inl (c4, 4, .inl f4))] sz) := by
  refine Met.ofW (cc := cX4_holdItem) (maxL := 7) (ret := (some .boolean)) (by decide) rfl ?_
  intro p e s m args below meth c s₁ B hml hv
  obtain ⟨rfl, ⟨hsz, hP, hK, hD0, hev⟩, hsf⟩ := hv
  have hx := B.exec
  have hb := B.bytes
  have hr := B.returns
  have hts := atoms_spec (ws := w_q_holdItem) B.pre
  have hown : s.vm.findClass RX4 = some m.cls := findClass_of_methodNamed B.named
  have hlocks := B.notSynchronized
  have inX4 : ∀ w ∈ wsX40, w ∈ w_q_holdItem := fun w h => List.mem_cons_of_mem _ (List.mem_append_left _ (List.mem_append_left _ (List.mem_append_right _ h)))
  have inX6 : ∀ w ∈ wsX60, w ∈ w_q_holdItem := fun w h => List.mem_cons_of_mem _ (List.mem_append_left _ (List.mem_append_right _ h))
  have inX7 : ∀ w ∈ wsX70, w ∈ w_q_holdItem := fun w h => List.mem_cons_of_mem _ (List.mem_append_right _ h)
  subst hsz
  have hD := hD0.self (sz := s.heap.size)
  generalize hAe : va_A [(h0, .inr (2, [.ref eh, .ref dh, .int tk, .int stt, .int en, .long dr])), (eh, .inr (5, [.int ts, .ref q0])), (q0, .inl (c0, 120, .inl f0)), (dh, .inr (4, [.int sh, w1, w2, w3, .ref q3, .ref q4, w6, w7, w8])), (q3, .inl (c3, 4, .inl f3)), (q4, .inl (c4, 4, .inl f4))] s.heap.size = A at hD hsf ⊢
  have hA : ∀ q : Nat, s.heap.size ≤ q → A q := fun q h => by rw [← hAe]; exact Or.inr h
  have hS : va_S A s.heap s.heap [] := va_S.rf
  have hP : va_P (dC, dI) vwCl [(h0, .inr (2, [.ref eh, .ref dh, .int tk, .int stt, .int en, .long dr])), (eh, .inr (5, [.int ts, .ref q0])), (q0, .inl (c0, 120, .inl f0)), (dh, .inr (4, [.int sh, w1, w2, w3, .ref q3, .ref q4, w6, w7, w8])), (q3, .inl (c3, 4, .inl f3)), (q4, .inl (c4, 4, .inl f4))] s.heap := hP
  have hl := lv_entry ([.ref h0]) (n := 7) (Nat.le_of_ble_eq_true rfl)
  rw [lg_entry_eq]
  generalize (lg_sl ([.ref h0]) ++ List.replicate (7 - (lg_sl ([.ref h0])).length) Slot.unset).toArray = ls at hl ⊢
  have hl : lv_has ls 7 [(0, .ref h0)] := hl
  refine lv_aload_n hx hb dX4_holdItem_0 rfl (lv_at hl 0 rfl) ?_
  refine va_get (D := (dC, dI)) (ci := 2) (v := .ref dh) (C := RX4) (T := TX4) (N := 6) hx hb hts inX4 hown hK hP 0 rfl rfl 1 (by decide) (hts _ (List.mem_of_getElem? (i := 1) rfl)) (fun _ h9 => h9) rfl dX4_holdItem_1 ?_
  have hPc := hP.sub (ws' := [(dh, .inr (4, [.int sh, w1, w2, w3, .ref q3, .ref q4, w6, w7, w8])), (q3, .inl (c3, 4, .inl f3))]) [3, 4] rfl
  have hKc := hK.sub (tys' := [(c3, .int)]) [1] rfl
  refine vp_callSi (W.runV (As := []) (rest := []) ⟨hx, hb, hml, hown, hts⟩ (s_freeHold l dC dI ad dh (.int sh) w1 w2 w3 q3 (.ref q4) w6 w7 w8 c3 f3 ) (cwV 0 hts g_q_holdItem_s_freeHold_132 rfl rfl rfl (by decide +kernel) ⟨(Nat.le_of_ble_eq_true rfl), (Nat.le_of_ble_eq_true rfl)⟩) ⟨preS_blind, va_recv hKc hPc (ci := 4) (q0 := 0) rfl rfl, fun U hU hW => ⟨rfl, preS_at hU hW hPc hKc hev⟩⟩ rfl rfl hl.1 rfl (lv_room (Nat.le_of_ble_eq_true rfl)) dX4_holdItem_4 ⟨(Nat.le_of_ble_eq_true rfl), (Nat.le_of_ble_eq_true rfl)⟩) (fun r_1 hw => ?_)
  have hr_1 : (-1) ≤ r_1.toInt ∧ r_1.toInt ≤ 3 := hw
  refine lv_istore_n (lv' := [(1, .int r_1), (0, .ref h0)]) hx hb dX4_holdItem_7 rfl hl (by decide) rfl (fun ls hl => ?_)
  refine lv_iload_n hx hb dX4_holdItem_8 rfl (lv_at hl 0 rfl) ?_
  refine lv_if_ge (tgt := 14) hx hb dX4_holdItem_9 (by decide) (fun c_2 => ?_) (fun c_2 => ?_)
  · skip
    have tc_2 : 0 ≤ r_1.toInt := (fa_le _ _).mp c_2
    refine lv_aload_n hx hb dX4_holdItem_14 rfl (lv_at hl 1 rfl) ?_
    have hPc := hP.sub (ws' := [(h0, .inr (2, [.ref eh, .ref dh, .int tk, .int stt, .int en, .long dr])), (eh, .inr (5, [.int ts, .ref q0])), (q0, .inl (c0, 120, .inl f0))]) [0, 1, 2] rfl
    have hKc := hK.sub (tys' := [(c0, .int)]) [0] rfl
    have hDc := hD.sub (ws' := [(h0, .inr (2, [.ref eh, .ref dh, .int tk, .int stt, .int en, .long dr])), (eh, .inr (5, [.int ts, .ref q0])), (q0, .inl (c0, 120, .inl f0))]) [0, 1, 2] (by decide) rfl
    have hFc := va_free (wc := [(h0, .inr (2, [.ref eh, .ref dh, .int tk, .int stt, .int en, .long dr])), (eh, .inr (5, [.int ts, .ref q0])), (q0, .inl (c0, 120, .inl f0))]) hD hS hA [0, 1, 2] rfl
    refine va_callv (va_runV (As := []) (rest := []) ⟨hx, hb, hml, hown, hts⟩ (q_advance l dC dI ad h0 eh dh tk stt en dr ts q0 c0 f0 s.heap.size hts2 (by first | omega | decide | (simp only [fa_lt, fa_le, fa_eq, and_true, true_and, and_false, false_and, not_true_eq_false, not_false_eq_true, li_0, li_1, li_2, li_3, li_4, li_5, li_6, li_7, li_8, li_9, li_10, li_12, li_15, li_16, li_20, li_30, li_34, li_38, li_40, li_63, li_64, li_65, li_78, li_120, li_1000, li_4000, li_10000, li_11077, li_255, li_65535, li_m1, li_m2, li_m1000000001, li_m1000000002, li_m1000000003, li_m1000000004, li_m1000000005, li_m1000000006, li_m1000000007, or_true, true_or, or_false, false_or, implies_true, true_implies, false_implies] <;> omega))) (cwV 0 hts g_q_holdItem_q_advance_39 rfl rfl rfl (by decide +kernel) ⟨(Nat.le_of_ble_eq_true rfl), (Nat.le_of_ble_eq_true rfl)⟩) ⟨preM_blind, va_recv hKc hPc (ci := 2) (q0 := 0) rfl rfl, fun U hU hW => ⟨rfl, preM_at hU hW hPc hKc hDc hev⟩⟩ rfl rfl hl.1 rfl (lv_room (Nat.le_of_ble_eq_true rfl)) dX4_holdItem_15 ⟨(Nat.le_of_ble_eq_true rfl), (Nat.le_of_ble_eq_true rfl)⟩) hS (fun q _ h => hFc q h) hFc (fun u t H1 locs ht hvm hw hB hz1 hk1 hS => ?_)
    obtain ⟨tk_4, st_5, en_6, hq_7, hP1, hK1, hD1⟩ := hB
    rw [ht] at hP1
    have hK1 := va_K.moved hvm.symm hK1
    obtain ⟨hP, hD⟩ := va_join (wr := [(dh, .inr (4, [.int sh, w1, w2, w3, .ref q3, .ref q4, w6, w7, w8])), (q3, .inl (c3, 4, .inl f3)), (q4, .inl (c4, 4, .inl f4))]) (w1 := [(h0, .inr (2, [.ref eh, .ref dh, .int tk_4, .int st_5, .int en_6, .long dr])), (eh, .inr (5, [.int ts, .ref q0])), (q0, .inl (c0, 120, .inl f0))]) hP hD [0, 1, 2] [3, 4, 5] rfl rfl (by decide) (by decide) hk1 hFc hP1 hD1
    generalize H1 = H at hP hS ⊢
    have hP : va_P (dC, dI) vwCl [(dh, .inr (4, [.int sh, w1, w2, w3, .ref q3, .ref q4, w6, w7, w8])), (q3, .inl (c3, 4, .inl f3)), (q4, .inl (c4, 4, .inl f4)), (h0, .inr (2, [.ref eh, .ref dh, .int tk_4, .int st_5, .int en_6, .long dr])), (eh, .inr (5, [.int ts, .ref q0])), (q0, .inl (c0, 120, .inl f0))] H := hP
    have hD : va_D A [(dh, .inr (4, [.int sh, w1, w2, w3, .ref q3, .ref q4, w6, w7, w8])), (q3, .inl (c3, 4, .inl f3)), (q4, .inl (c4, 4, .inl f4)), (h0, .inr (2, [.ref eh, .ref dh, .int tk_4, .int st_5, .int en_6, .long dr])), (eh, .inr (5, [.int ts, .ref q0])), (q0, .inl (c0, 120, .inl f0))] := hD
    refine lv_aload_n hx hb dX4_holdItem_18 rfl (lv_at hl 1 rfl) ?_
    have hPc := hP.sub (ws' := [(h0, .inr (2, [.ref eh, .ref dh, .int tk_4, .int st_5, .int en_6, .long dr])), (eh, .inr (5, [.int ts, .ref q0])), (q0, .inl (c0, 120, .inl f0))]) [3, 4, 5] rfl
    have hKc := hK.sub (tys' := [(c0, .int)]) [0] rfl
    refine vp_callSi (W.runV (As := []) (rest := []) ⟨hx, hb, hml, hown, hts⟩ (q_value l dC dI ad h0 eh dh tk_4 st_5 en_6 dr ts q0 c0 f0 hts2 (by first | omega | decide | (simp only [fa_lt, fa_le, fa_eq, and_true, true_and, and_false, false_and, not_true_eq_false, not_false_eq_true, li_0, li_1, li_2, li_3, li_4, li_5, li_6, li_7, li_8, li_9, li_10, li_12, li_15, li_16, li_20, li_30, li_34, li_38, li_40, li_63, li_64, li_65, li_78, li_120, li_1000, li_4000, li_10000, li_11077, li_255, li_65535, li_m1, li_m2, li_m1000000001, li_m1000000002, li_m1000000003, li_m1000000004, li_m1000000005, li_m1000000006, li_m1000000007, or_true, true_or, or_false, false_or, implies_true, true_implies, false_implies] <;> omega))) (cwV 0 hts g_q_holdItem_q_value_135 rfl rfl rfl (by decide +kernel) ⟨(Nat.le_of_ble_eq_true rfl), (Nat.le_of_ble_eq_true rfl)⟩) ⟨preS_blind, va_recv hKc hPc (ci := 2) (q0 := 0) rfl rfl, fun U hU hW => ⟨rfl, preS_at hU hW hPc hKc hev⟩⟩ rfl rfl hl.1 rfl (lv_room (Nat.le_of_ble_eq_true rfl)) dX4_holdItem_19 ⟨(Nat.le_of_ble_eq_true rfl), (Nat.le_of_ble_eq_true rfl)⟩) (fun r_8 hw => ?_)
    refine lv_istore_n (lv' := [(2, .int r_8), (1, .int r_1), (0, .ref h0)]) hx hb dX4_holdItem_22 rfl hl (by decide) rfl (fun ls hl => ?_)
    refine lv_aload_n hx hb dX4_holdItem_23 rfl (lv_at hl 2 rfl) ?_
    refine va_get (D := (dC, dI)) (ci := 2) (v := .ref dh) (C := RX4) (T := TX4) (N := 6) hx hb hts inX4 hown hK hP 3 rfl rfl 1 (by decide) (hts _ (List.mem_of_getElem? (i := 1) rfl)) (fun _ h9 => h9) rfl dX4_holdItem_24 ?_
    refine lv_iload_n hx hb dX4_holdItem_27 rfl (lv_at hl 0 rfl) ?_
    have hPc := hP.sub (ws' := [(dh, .inr (4, [.int sh, w1, w2, w3, .ref q3, .ref q4, w6, w7, w8]))]) [0] rfl
    have hKc := hK.sub (tys' := []) [] rfl
    refine vp_callSi (W.runV (As := [.int r_8]) (rest := []) ⟨hx, hb, hml, hown, hts⟩ (s_hasShape l dC dI ad dh r_8 sh w1 w2 w3 (.ref q3) (.ref q4) w6 w7 w8 ) (cwV 1 hts g_q_holdItem_s_hasShape_138 rfl rfl rfl (by decide +kernel) ⟨(Nat.le_of_ble_eq_true rfl), (Nat.le_of_ble_eq_true rfl)⟩) ⟨preS_blind, va_recv hKc hPc (ci := 4) (q0 := 0) rfl rfl, fun U hU hW => ⟨rfl, preS_at hU hW hPc hKc hev⟩⟩ rfl rfl hl.1 rfl (lv_room (Nat.le_of_ble_eq_true rfl)) dX4_holdItem_28 ⟨(Nat.le_of_ble_eq_true rfl), (Nat.le_of_ble_eq_true rfl)⟩) (fun r_9 hw => ?_)
    have hr_9 : (r_9.toInt = 1 ∧ 0 ≤ r_8.toInt ∧ r_8.toInt < sh.toInt) ∨ r_9.toInt = 0 := hw
    refine lv_if_eq (tgt := 45) hx hb dX4_holdItem_31 (by decide) (fun c_10 => ?_) (fun c_10 => ?_)
    · skip
      have tc_10 : r_9.toInt = 0 := (fa_eq _ _).mp c_10
      refine lv_iconst (v := 0) hx hb dX4_holdItem_45 (by decide) ?_
      have hP9 := hP.sub (ws' := [(h0, .inr (2, [.ref eh, .ref dh, .int tk_4, .int st_5, .int en_6, .long dr])), (eh, .inr (5, [.int ts, .ref q0])), (q0, .inl (c0, 120, .inl f0)), (dh, .inr (4, [.int sh, w1, w2, w3, .ref q3, .ref q4, w6, w7, w8])), (q3, .inl (c3, 4, .inl f3)), (q4, .inl (c4, 4, .inl f4))]) [3, 4, 5, 0, 1, 2] rfl
      have hD9 := hD.sub (ws' := [(h0, .inr (2, [.ref eh, .ref dh, .int tk_4, .int st_5, .int en_6, .long dr])), (eh, .inr (5, [.int ts, .ref q0])), (q0, .inl (c0, 120, .inl f0)), (dh, .inr (4, [.int sh, w1, w2, w3, .ref q3, .ref q4, w6, w7, w8])), (q3, .inl (c3, 4, .inl f3)), (q4, .inl (c4, 4, .inl f4))]) [3, 4, 5, 0, 1, 2] (by decide) rfl
      have hK9 := hK.sub (tys' := [(c0, .int), (c3, .int), (c4, .int)]) [0, 1, 2] rfl
      exact W.zret (v := (0 : Int32)) hx hb hr (by decide) (fun t ht hW => ⟨⟨(0 : Int32), (), rfl, (by first | omega | decide | (simp only [fa_lt, fa_le, fa_eq, and_true, true_and, and_false, false_and, not_true_eq_false, not_false_eq_true, li_0, li_1, li_2, li_3, li_4, li_5, li_6, li_7, li_8, li_9, li_10, li_12, li_15, li_16, li_20, li_30, li_34, li_38, li_40, li_63, li_64, li_65, li_78, li_120, li_1000, li_4000, li_10000, li_11077, li_255, li_65535, li_m1, li_m2, li_m1000000001, li_m1000000002, li_m1000000003, li_m1000000004, li_m1000000005, li_m1000000006, li_m1000000007, or_true, true_or, or_false, false_or, implies_true, true_implies, false_implies] <;> omega)), tk_4, st_5, en_6, f3, f4, hq_7, by rw [ht]; exact hP9, va_K.moved hW.alike hK9, hD9⟩, hS.F ht⟩) hS.2.2 dX4_holdItem_46
    · skip
      have tc_10 : ¬ r_9.toInt = 0 := fun h => c_10 ((fa_eq _ _).mpr h)
      refine lv_aload_n hx hb dX4_holdItem_34 rfl (lv_at hl 2 rfl) ?_
      refine va_get (D := (dC, dI)) (ci := 2) (v := .ref dh) (C := RX4) (T := TX4) (N := 6) hx hb hts inX4 hown hK hP 3 rfl rfl 1 (by decide) (hts _ (List.mem_of_getElem? (i := 1) rfl)) (fun _ h9 => h9) rfl dX4_holdItem_35 ?_
      refine lv_iload_n hx hb dX4_holdItem_38 rfl (lv_at hl 0 rfl) ?_
      have hPc := hP.sub (ws' := [(dh, .inr (4, [.int sh, w1, w2, w3, .ref q3, .ref q4, w6, w7, w8])), (q3, .inl (c3, 4, .inl f3))]) [0, 1] rfl
      have hKc := hK.sub (tys' := [(c3, .int)]) [1] rfl
      refine vp_callSi (W.runV (As := [.int r_8]) (rest := []) ⟨hx, hb, hml, hown, hts⟩ (s_holdOf l dC dI ad dh r_8 (.int sh) w1 w2 w3 q3 (.ref q4) w6 w7 w8 c3 f3 ) (cwV 1 hts g_q_holdItem_s_holdOf_141 rfl rfl rfl (by decide +kernel) ⟨(Nat.le_of_ble_eq_true rfl), (Nat.le_of_ble_eq_true rfl)⟩) ⟨preS_blind, va_recv hKc hPc (ci := 4) (q0 := 0) rfl rfl, fun U hU hW => ⟨rfl, preS_at hU hW hPc hKc hev⟩⟩ rfl rfl hl.1 rfl (lv_room (Nat.le_of_ble_eq_true rfl)) dX4_holdItem_39 ⟨(Nat.le_of_ble_eq_true rfl), (Nat.le_of_ble_eq_true rfl)⟩) (fun r_11 hw => ?_)
      have hr_11 : (-1) ≤ r_11.toInt ∧ r_11.toInt ≤ 3 := hw
      refine lv_if_lt (tgt := 47) hx hb dX4_holdItem_42 (by decide) (fun c_12 => ?_) (fun c_12 => ?_)
      · skip
        have tc_12 : r_11.toInt < 0 := (fa_lt _ _).mp c_12
        refine lv_aload_n hx hb dX4_holdItem_47 rfl (lv_at hl 2 rfl) ?_
        have hPc := hP.sub (ws' := [(h0, .inr (2, [.ref eh, .ref dh, .int tk_4, .int st_5, .int en_6, .long dr])), (eh, .inr (5, [.int ts, .ref q0])), (q0, .inl (c0, 120, .inl f0))]) [3, 4, 5] rfl
        have hKc := hK.sub (tys' := [(c0, .int)]) [0] rfl
        have hDc := hD.sub (ws' := [(h0, .inr (2, [.ref eh, .ref dh, .int tk_4, .int st_5, .int en_6, .long dr])), (eh, .inr (5, [.int ts, .ref q0])), (q0, .inl (c0, 120, .inl f0))]) [3, 4, 5] (by decide) rfl
        have hFc := va_free (wc := [(h0, .inr (2, [.ref eh, .ref dh, .int tk_4, .int st_5, .int en_6, .long dr])), (eh, .inr (5, [.int ts, .ref q0])), (q0, .inl (c0, 120, .inl f0))]) hD hS hA [3, 4, 5] rfl
        refine va_callv (va_runV (As := []) (rest := []) ⟨hx, hb, hml, hown, hts⟩ (q_advance l dC dI ad h0 eh dh tk_4 st_5 en_6 dr ts q0 c0 f0 H.size hts2 (by first | omega | decide | (simp only [fa_lt, fa_le, fa_eq, and_true, true_and, and_false, false_and, not_true_eq_false, not_false_eq_true, li_0, li_1, li_2, li_3, li_4, li_5, li_6, li_7, li_8, li_9, li_10, li_12, li_15, li_16, li_20, li_30, li_34, li_38, li_40, li_63, li_64, li_65, li_78, li_120, li_1000, li_4000, li_10000, li_11077, li_255, li_65535, li_m1, li_m2, li_m1000000001, li_m1000000002, li_m1000000003, li_m1000000004, li_m1000000005, li_m1000000006, li_m1000000007, or_true, true_or, or_false, false_or, implies_true, true_implies, false_implies] <;> omega))) (cwV 0 hts g_q_holdItem_q_advance_39 rfl rfl rfl (by decide +kernel) ⟨(Nat.le_of_ble_eq_true rfl), (Nat.le_of_ble_eq_true rfl)⟩) ⟨preM_blind, va_recv hKc hPc (ci := 2) (q0 := 0) rfl rfl, fun U hU hW => ⟨rfl, preM_at hU hW hPc hKc hDc hev⟩⟩ rfl rfl hl.1 rfl (lv_room (Nat.le_of_ble_eq_true rfl)) dX4_holdItem_48 ⟨(Nat.le_of_ble_eq_true rfl), (Nat.le_of_ble_eq_true rfl)⟩) hS (fun q _ h => hFc q h) hFc (fun u t H1 locs ht hvm hw hB hz1 hk1 hS => ?_)
        obtain ⟨tk_14, st_15, en_16, hq_17, hP1, hK1, hD1⟩ := hB
        rw [ht] at hP1
        have hK1 := va_K.moved hvm.symm hK1
        obtain ⟨hP, hD⟩ := va_join (wr := [(dh, .inr (4, [.int sh, w1, w2, w3, .ref q3, .ref q4, w6, w7, w8])), (q3, .inl (c3, 4, .inl f3)), (q4, .inl (c4, 4, .inl f4))]) (w1 := [(h0, .inr (2, [.ref eh, .ref dh, .int tk_14, .int st_15, .int en_16, .long dr])), (eh, .inr (5, [.int ts, .ref q0])), (q0, .inl (c0, 120, .inl f0))]) hP hD [3, 4, 5] [0, 1, 2] rfl rfl (by decide) (by decide) hk1 hFc hP1 hD1
        generalize H1 = H at hP hS ⊢
        have hP : va_P (dC, dI) vwCl [(dh, .inr (4, [.int sh, w1, w2, w3, .ref q3, .ref q4, w6, w7, w8])), (q3, .inl (c3, 4, .inl f3)), (q4, .inl (c4, 4, .inl f4)), (h0, .inr (2, [.ref eh, .ref dh, .int tk_14, .int st_15, .int en_16, .long dr])), (eh, .inr (5, [.int ts, .ref q0])), (q0, .inl (c0, 120, .inl f0))] H := hP
        have hD : va_D A [(dh, .inr (4, [.int sh, w1, w2, w3, .ref q3, .ref q4, w6, w7, w8])), (q3, .inl (c3, 4, .inl f3)), (q4, .inl (c4, 4, .inl f4)), (h0, .inr (2, [.ref eh, .ref dh, .int tk_14, .int st_15, .int en_16, .long dr])), (eh, .inr (5, [.int ts, .ref q0])), (q0, .inl (c0, 120, .inl f0))] := hD
        refine lv_aload_n hx hb dX4_holdItem_51 rfl (lv_at hl 2 rfl) ?_
        refine va_ldcS (tx := "near") (q := ad 8) hx hb hown (ev_str hev 8 rfl) dX4_holdItem_52 ?_
        have hPc := hP.sub (ws' := [(h0, .inr (2, [.ref eh, .ref dh, .int tk_14, .int st_15, .int en_16, .long dr])), (eh, .inr (5, [.int ts, .ref q0])), (q0, .inl (c0, 120, .inl f0))]) [3, 4, 5] rfl
        have hKc := hK.sub (tys' := [(c0, .int)]) [0] rfl
        have hDc := hD.sub (ws' := [(h0, .inr (2, [.ref eh, .ref dh, .int tk_14, .int st_15, .int en_16, .long dr])), (eh, .inr (5, [.int ts, .ref q0])), (q0, .inl (c0, 120, .inl f0))]) [3, 4, 5] (by decide) rfl
        have hFc := va_free (wc := [(h0, .inr (2, [.ref eh, .ref dh, .int tk_14, .int st_15, .int en_16, .long dr])), (eh, .inr (5, [.int ts, .ref q0])), (q0, .inl (c0, 120, .inl f0))]) hD hS hA [3, 4, 5] rfl
        refine va_calli (va_runV (As := [.ref (ad 8)]) (rest := []) ⟨hx, hb, hml, hown, hts⟩ (q_passes l dC dI ad h0 8 eh dh tk_14 st_15 en_16 dr ts q0 c0 f0 H.size (by decide) hts2 (by first | omega | decide | (simp only [fa_lt, fa_le, fa_eq, and_true, true_and, and_false, false_and, not_true_eq_false, not_false_eq_true, li_0, li_1, li_2, li_3, li_4, li_5, li_6, li_7, li_8, li_9, li_10, li_12, li_15, li_16, li_20, li_30, li_34, li_38, li_40, li_63, li_64, li_65, li_78, li_120, li_1000, li_4000, li_10000, li_11077, li_255, li_65535, li_m1, li_m2, li_m1000000001, li_m1000000002, li_m1000000003, li_m1000000004, li_m1000000005, li_m1000000006, li_m1000000007, or_true, true_or, or_false, false_or, implies_true, true_implies, false_implies] <;> omega))) (cwV 1 hts g_q_holdItem_q_passes_95 rfl rfl rfl (by decide +kernel) ⟨(Nat.le_of_ble_eq_true rfl), (Nat.le_of_ble_eq_true rfl)⟩) ⟨preT_blind, va_recv hKc hPc (ci := 2) (q0 := 0) rfl rfl, fun U hU hW => ⟨rfl, preM_at hU hW hPc hKc hDc hev, sf_at hsf hS hFc hU hW⟩⟩ rfl rfl hl.1 rfl (lv_room (Nat.le_of_ble_eq_true rfl)) dX4_holdItem_54 ⟨(Nat.le_of_ble_eq_true rfl), (Nat.le_of_ble_eq_true rfl)⟩) hS (fun q _ h => hFc q h) hFc (fun r_18 u t H1 locs ht hvm hw hB hz1 hk1 hS => ?_)
        obtain ⟨tk_19, st_20, en_21, hq_22, hP1, hK1, hD1⟩ := hB
        rw [ht] at hP1
        have hK1 := va_K.moved hvm.symm hK1
        obtain ⟨hP, hD⟩ := va_join (wr := [(dh, .inr (4, [.int sh, w1, w2, w3, .ref q3, .ref q4, w6, w7, w8])), (q3, .inl (c3, 4, .inl f3)), (q4, .inl (c4, 4, .inl f4))]) (w1 := [(h0, .inr (2, [.ref eh, .ref dh, .int tk_19, .int st_20, .int en_21, .long dr])), (eh, .inr (5, [.int ts, .ref q0])), (q0, .inl (c0, 120, .inl f0))]) hP hD [3, 4, 5] [0, 1, 2] rfl rfl (by decide) (by decide) hk1 hFc hP1 hD1
        generalize H1 = H at hP hS ⊢
        have hP : va_P (dC, dI) vwCl [(dh, .inr (4, [.int sh, w1, w2, w3, .ref q3, .ref q4, w6, w7, w8])), (q3, .inl (c3, 4, .inl f3)), (q4, .inl (c4, 4, .inl f4)), (h0, .inr (2, [.ref eh, .ref dh, .int tk_19, .int st_20, .int en_21, .long dr])), (eh, .inr (5, [.int ts, .ref q0])), (q0, .inl (c0, 120, .inl f0))] H := hP
        have hD : va_D A [(dh, .inr (4, [.int sh, w1, w2, w3, .ref q3, .ref q4, w6, w7, w8])), (q3, .inl (c3, 4, .inl f3)), (q4, .inl (c4, 4, .inl f4)), (h0, .inr (2, [.ref eh, .ref dh, .int tk_19, .int st_20, .int en_21, .long dr])), (eh, .inr (5, [.int ts, .ref q0])), (q0, .inl (c0, 120, .inl f0))] := hD
        have hr_18 : r_18.toInt = 0 ∨ r_18.toInt = 1 := hw
        refine lv_if_eq (tgt := 69) hx hb dX4_holdItem_57 (by decide) (fun c_23 => ?_) (fun c_23 => ?_)
        · skip
          have tc_23 : r_18.toInt = 0 := (fa_eq _ _).mp c_23
          refine lv_iconst (v := (-1)) hx hb dX4_holdItem_69 (by decide) ?_
          refine lv_istore_n (lv' := [(3, .int (-1)), (2, .int r_8), (1, .int r_1), (0, .ref h0)]) hx hb dX4_holdItem_70 rfl hl (by decide) rfl (fun ls hl => ?_)
          refine lv_iload_n hx hb dX4_holdItem_71 rfl (lv_at hl 0 rfl) ?_
          refine lv_if_ge (tgt := 77) hx hb dX4_holdItem_72 (by decide) (fun c => absurd c (by decide)) (fun _ => ?_)
          refine lv_iconst (v := 0) hx hb dX4_holdItem_75 (by decide) ?_
          have hP9 := hP.sub (ws' := [(h0, .inr (2, [.ref eh, .ref dh, .int tk_19, .int st_20, .int en_21, .long dr])), (eh, .inr (5, [.int ts, .ref q0])), (q0, .inl (c0, 120, .inl f0)), (dh, .inr (4, [.int sh, w1, w2, w3, .ref q3, .ref q4, w6, w7, w8])), (q3, .inl (c3, 4, .inl f3)), (q4, .inl (c4, 4, .inl f4))]) [3, 4, 5, 0, 1, 2] rfl
          have hD9 := hD.sub (ws' := [(h0, .inr (2, [.ref eh, .ref dh, .int tk_19, .int st_20, .int en_21, .long dr])), (eh, .inr (5, [.int ts, .ref q0])), (q0, .inl (c0, 120, .inl f0)), (dh, .inr (4, [.int sh, w1, w2, w3, .ref q3, .ref q4, w6, w7, w8])), (q3, .inl (c3, 4, .inl f3)), (q4, .inl (c4, 4, .inl f4))]) [3, 4, 5, 0, 1, 2] (by decide) rfl
          have hK9 := hK.sub (tys' := [(c0, .int), (c3, .int), (c4, .int)]) [0, 1, 2] rfl
          exact W.zret (v := (0 : Int32)) hx hb hr (by decide) (fun t ht hW => ⟨⟨(0 : Int32), (), rfl, (by first | omega | decide | (simp only [fa_lt, fa_le, fa_eq, and_true, true_and, and_false, false_and, not_true_eq_false, not_false_eq_true, li_0, li_1, li_2, li_3, li_4, li_5, li_6, li_7, li_8, li_9, li_10, li_12, li_15, li_16, li_20, li_30, li_34, li_38, li_40, li_63, li_64, li_65, li_78, li_120, li_1000, li_4000, li_10000, li_11077, li_255, li_65535, li_m1, li_m2, li_m1000000001, li_m1000000002, li_m1000000003, li_m1000000004, li_m1000000005, li_m1000000006, li_m1000000007, or_true, true_or, or_false, false_or, implies_true, true_implies, false_implies] <;> omega)), tk_19, st_20, en_21, f3, f4, hq_22, by rw [ht]; exact hP9, va_K.moved hW.alike hK9, hD9⟩, hS.F ht⟩) hS.2.2 dX4_holdItem_76
        · skip
          have tc_23 : ¬ r_18.toInt = 0 := fun h => c_23 ((fa_eq _ _).mpr h)
          refine lv_aload_n hx hb dX4_holdItem_60 rfl (lv_at hl 2 rfl) ?_
          refine lv_iconst (v := 1) hx hb dX4_holdItem_61 (by decide) ?_
          refine lv_iconst (v := 2) hx hb dX4_holdItem_62 (by decide) ?_
          have hPc := hP.sub (ws' := [(h0, .inr (2, [.ref eh, .ref dh, .int tk_19, .int st_20, .int en_21, .long dr])), (eh, .inr (5, [.int ts, .ref q0])), (q0, .inl (c0, 120, .inl f0))]) [3, 4, 5] rfl
          have hKc := hK.sub (tys' := [(c0, .int)]) [0] rfl
          have hDc := hD.sub (ws' := [(h0, .inr (2, [.ref eh, .ref dh, .int tk_19, .int st_20, .int en_21, .long dr])), (eh, .inr (5, [.int ts, .ref q0])), (q0, .inl (c0, 120, .inl f0))]) [3, 4, 5] (by decide) rfl
          have hFc := va_free (wc := [(h0, .inr (2, [.ref eh, .ref dh, .int tk_19, .int st_20, .int en_21, .long dr])), (eh, .inr (5, [.int ts, .ref q0])), (q0, .inl (c0, 120, .inl f0))]) hD hS hA [3, 4, 5] rfl
          refine va_calli (va_runV (As := [.int 1, .int 2]) (rest := []) ⟨hx, hb, hml, hown, hts⟩ (q_numberWithin l dC dI ad h0 1 2 eh dh tk_19 st_20 en_21 dr ts q0 c0 f0 H.size hts2 (by first | omega | decide | (simp only [fa_lt, fa_le, fa_eq, and_true, true_and, and_false, false_and, not_true_eq_false, not_false_eq_true, li_0, li_1, li_2, li_3, li_4, li_5, li_6, li_7, li_8, li_9, li_10, li_12, li_15, li_16, li_20, li_30, li_34, li_38, li_40, li_63, li_64, li_65, li_78, li_120, li_1000, li_4000, li_10000, li_11077, li_255, li_65535, li_m1, li_m2, li_m1000000001, li_m1000000002, li_m1000000003, li_m1000000004, li_m1000000005, li_m1000000006, li_m1000000007, or_true, true_or, or_false, false_or, implies_true, true_implies, false_implies] <;> omega))) (cwV 2 hts g_q_holdItem_q_numberWithin_146 rfl rfl rfl (by decide +kernel) ⟨(Nat.le_of_ble_eq_true rfl), (Nat.le_of_ble_eq_true rfl)⟩) ⟨preM_blind, va_recv hKc hPc (ci := 2) (q0 := 0) rfl rfl, fun U hU hW => ⟨rfl, preM_at hU hW hPc hKc hDc hev⟩⟩ rfl rfl hl.1 rfl (lv_room (Nat.le_of_ble_eq_true rfl)) dX4_holdItem_63 ⟨(Nat.le_of_ble_eq_true rfl), (Nat.le_of_ble_eq_true rfl)⟩) hS (fun q _ h => hFc q h) hFc (fun r_24 u t H1 locs ht hvm hw hB hz1 hk1 hS => ?_)
          obtain ⟨tk_25, st_26, en_27, hq_28, hP1, hK1, hD1⟩ := hB
          rw [ht] at hP1
          have hK1 := va_K.moved hvm.symm hK1
          obtain ⟨hP, hD⟩ := va_join (wr := [(dh, .inr (4, [.int sh, w1, w2, w3, .ref q3, .ref q4, w6, w7, w8])), (q3, .inl (c3, 4, .inl f3)), (q4, .inl (c4, 4, .inl f4))]) (w1 := [(h0, .inr (2, [.ref eh, .ref dh, .int tk_25, .int st_26, .int en_27, .long dr])), (eh, .inr (5, [.int ts, .ref q0])), (q0, .inl (c0, 120, .inl f0))]) hP hD [3, 4, 5] [0, 1, 2] rfl rfl (by decide) (by decide) hk1 hFc hP1 hD1
          generalize H1 = H at hP hS ⊢
          have hP : va_P (dC, dI) vwCl [(dh, .inr (4, [.int sh, w1, w2, w3, .ref q3, .ref q4, w6, w7, w8])), (q3, .inl (c3, 4, .inl f3)), (q4, .inl (c4, 4, .inl f4)), (h0, .inr (2, [.ref eh, .ref dh, .int tk_25, .int st_26, .int en_27, .long dr])), (eh, .inr (5, [.int ts, .ref q0])), (q0, .inl (c0, 120, .inl f0))] H := hP
          have hD : va_D A [(dh, .inr (4, [.int sh, w1, w2, w3, .ref q3, .ref q4, w6, w7, w8])), (q3, .inl (c3, 4, .inl f3)), (q4, .inl (c4, 4, .inl f4)), (h0, .inr (2, [.ref eh, .ref dh, .int tk_25, .int st_26, .int en_27, .long dr])), (eh, .inr (5, [.int ts, .ref q0])), (q0, .inl (c0, 120, .inl f0))] := hD
          have hr_24 : r_24.toInt = (-1) ∨ (1 ≤ r_24.toInt ∧ r_24.toInt ≤ 2) := hw
          refine lv_goto (tgt := 70) hx hb dX4_holdItem_66 (by decide) ?_
          refine lv_istore_n (lv' := [(3, .int r_24), (2, .int r_8), (1, .int r_1), (0, .ref h0)]) hx hb dX4_holdItem_70 rfl hl (by decide) rfl (fun ls hl => ?_)
          refine lv_iload_n hx hb dX4_holdItem_71 rfl (lv_at hl 0 rfl) ?_
          refine lv_if_ge (tgt := 77) hx hb dX4_holdItem_72 (by decide) (fun c_29 => ?_) (fun c_29 => ?_)
          · skip
            have tc_29 : 0 ≤ r_24.toInt := (fa_le _ _).mp c_29
            refine lv_aload_n hx hb dX4_holdItem_77 rfl (lv_at hl 3 rfl) ?_
            refine va_ldcS (tx := "turn") (q := ad 9) hx hb hown (ev_str hev 9 rfl) dX4_holdItem_78 ?_
            have hPc := hP.sub (ws' := [(h0, .inr (2, [.ref eh, .ref dh, .int tk_25, .int st_26, .int en_27, .long dr])), (eh, .inr (5, [.int ts, .ref q0])), (q0, .inl (c0, 120, .inl f0))]) [3, 4, 5] rfl
            have hKc := hK.sub (tys' := [(c0, .int)]) [0] rfl
            have hDc := hD.sub (ws' := [(h0, .inr (2, [.ref eh, .ref dh, .int tk_25, .int st_26, .int en_27, .long dr])), (eh, .inr (5, [.int ts, .ref q0])), (q0, .inl (c0, 120, .inl f0))]) [3, 4, 5] (by decide) rfl
            have hFc := va_free (wc := [(h0, .inr (2, [.ref eh, .ref dh, .int tk_25, .int st_26, .int en_27, .long dr])), (eh, .inr (5, [.int ts, .ref q0])), (q0, .inl (c0, 120, .inl f0))]) hD hS hA [3, 4, 5] rfl
            refine va_calli (va_runV (As := [.ref (ad 9)]) (rest := []) ⟨hx, hb, hml, hown, hts⟩ (q_passes l dC dI ad h0 9 eh dh tk_25 st_26 en_27 dr ts q0 c0 f0 H.size (by decide) hts2 (by first | omega | decide | (simp only [fa_lt, fa_le, fa_eq, and_true, true_and, and_false, false_and, not_true_eq_false, not_false_eq_true, li_0, li_1, li_2, li_3, li_4, li_5, li_6, li_7, li_8, li_9, li_10, li_12, li_15, li_16, li_20, li_30, li_34, li_38, li_40, li_63, li_64, li_65, li_78, li_120, li_1000, li_4000, li_10000, li_11077, li_255, li_65535, li_m1, li_m2, li_m1000000001, li_m1000000002, li_m1000000003, li_m1000000004, li_m1000000005, li_m1000000006, li_m1000000007, or_true, true_or, or_false, false_or, implies_true, true_implies, false_implies] <;> omega))) (cwV 1 hts g_q_holdItem_q_passes_95 rfl rfl rfl (by decide +kernel) ⟨(Nat.le_of_ble_eq_true rfl), (Nat.le_of_ble_eq_true rfl)⟩) ⟨preT_blind, va_recv hKc hPc (ci := 2) (q0 := 0) rfl rfl, fun U hU hW => ⟨rfl, preM_at hU hW hPc hKc hDc hev, sf_at hsf hS hFc hU hW⟩⟩ rfl rfl hl.1 rfl (lv_room (Nat.le_of_ble_eq_true rfl)) dX4_holdItem_80 ⟨(Nat.le_of_ble_eq_true rfl), (Nat.le_of_ble_eq_true rfl)⟩) hS (fun q _ h => hFc q h) hFc (fun r_30 u t H1 locs ht hvm hw hB hz1 hk1 hS => ?_)
            obtain ⟨tk_31, st_32, en_33, hq_34, hP1, hK1, hD1⟩ := hB
            rw [ht] at hP1
            have hK1 := va_K.moved hvm.symm hK1
            obtain ⟨hP, hD⟩ := va_join (wr := [(dh, .inr (4, [.int sh, w1, w2, w3, .ref q3, .ref q4, w6, w7, w8])), (q3, .inl (c3, 4, .inl f3)), (q4, .inl (c4, 4, .inl f4))]) (w1 := [(h0, .inr (2, [.ref eh, .ref dh, .int tk_31, .int st_32, .int en_33, .long dr])), (eh, .inr (5, [.int ts, .ref q0])), (q0, .inl (c0, 120, .inl f0))]) hP hD [3, 4, 5] [0, 1, 2] rfl rfl (by decide) (by decide) hk1 hFc hP1 hD1
            generalize H1 = H at hP hS ⊢
            have hP : va_P (dC, dI) vwCl [(dh, .inr (4, [.int sh, w1, w2, w3, .ref q3, .ref q4, w6, w7, w8])), (q3, .inl (c3, 4, .inl f3)), (q4, .inl (c4, 4, .inl f4)), (h0, .inr (2, [.ref eh, .ref dh, .int tk_31, .int st_32, .int en_33, .long dr])), (eh, .inr (5, [.int ts, .ref q0])), (q0, .inl (c0, 120, .inl f0))] H := hP
            have hD : va_D A [(dh, .inr (4, [.int sh, w1, w2, w3, .ref q3, .ref q4, w6, w7, w8])), (q3, .inl (c3, 4, .inl f3)), (q4, .inl (c4, 4, .inl f4)), (h0, .inr (2, [.ref eh, .ref dh, .int tk_31, .int st_32, .int en_33, .long dr])), (eh, .inr (5, [.int ts, .ref q0])), (q0, .inl (c0, 120, .inl f0))] := hD
            have hr_30 : r_30.toInt = 0 ∨ r_30.toInt = 1 := hw
            refine lv_if_eq (tgt := 95) hx hb dX4_holdItem_83 (by decide) (fun c_35 => ?_) (fun c_35 => ?_)
            · skip
              have tc_35 : r_30.toInt = 0 := (fa_eq _ _).mp c_35
              refine lv_iconst (v := (-1)) hx hb dX4_holdItem_95 (by decide) ?_
              refine lv_istore (lv' := [(4, .int (-1)), (3, .int r_24), (2, .int r_8), (1, .int r_1), (0, .ref h0)]) hx hb dX4_holdItem_96 hl (by decide) rfl (fun ls hl => ?_)
              refine lv_iload hx hb dX4_holdItem_98 (lv_at hl 0 rfl) ?_
              refine lv_if_ge (tgt := 105) hx hb dX4_holdItem_100 (by decide) (fun c => absurd c (by decide)) (fun _ => ?_)
              refine lv_iconst (v := 0) hx hb dX4_holdItem_103 (by decide) ?_
              have hP9 := hP.sub (ws' := [(h0, .inr (2, [.ref eh, .ref dh, .int tk_31, .int st_32, .int en_33, .long dr])), (eh, .inr (5, [.int ts, .ref q0])), (q0, .inl (c0, 120, .inl f0)), (dh, .inr (4, [.int sh, w1, w2, w3, .ref q3, .ref q4, w6, w7, w8])), (q3, .inl (c3, 4, .inl f3)), (q4, .inl (c4, 4, .inl f4))]) [3, 4, 5, 0, 1, 2] rfl
              have hD9 := hD.sub (ws' := [(h0, .inr (2, [.ref eh, .ref dh, .int tk_31, .int st_32, .int en_33, .long dr])), (eh, .inr (5, [.int ts, .ref q0])), (q0, .inl (c0, 120, .inl f0)), (dh, .inr (4, [.int sh, w1, w2, w3, .ref q3, .ref q4, w6, w7, w8])), (q3, .inl (c3, 4, .inl f3)), (q4, .inl (c4, 4, .inl f4))]) [3, 4, 5, 0, 1, 2] (by decide) rfl
              have hK9 := hK.sub (tys' := [(c0, .int), (c3, .int), (c4, .int)]) [0, 1, 2] rfl
              exact W.zret (v := (0 : Int32)) hx hb hr (by decide) (fun t ht hW => ⟨⟨(0 : Int32), (), rfl, (by first | omega | decide | (simp only [fa_lt, fa_le, fa_eq, and_true, true_and, and_false, false_and, not_true_eq_false, not_false_eq_true, li_0, li_1, li_2, li_3, li_4, li_5, li_6, li_7, li_8, li_9, li_10, li_12, li_15, li_16, li_20, li_30, li_34, li_38, li_40, li_63, li_64, li_65, li_78, li_120, li_1000, li_4000, li_10000, li_11077, li_255, li_65535, li_m1, li_m2, li_m1000000001, li_m1000000002, li_m1000000003, li_m1000000004, li_m1000000005, li_m1000000006, li_m1000000007, or_true, true_or, or_false, false_or, implies_true, true_implies, false_implies] <;> omega)), tk_31, st_32, en_33, f3, f4, hq_34, by rw [ht]; exact hP9, va_K.moved hW.alike hK9, hD9⟩, hS.F ht⟩) hS.2.2 dX4_holdItem_104
            · skip
              have tc_35 : ¬ r_30.toInt = 0 := fun h => c_35 ((fa_eq _ _).mpr h)
              refine lv_aload_n hx hb dX4_holdItem_86 rfl (lv_at hl 3 rfl) ?_
              refine lv_iconst (v := 0) hx hb dX4_holdItem_87 (by decide) ?_
              refine lv_iconst (v := 3) hx hb dX4_holdItem_88 (by decide) ?_
              have hPc := hP.sub (ws' := [(h0, .inr (2, [.ref eh, .ref dh, .int tk_31, .int st_32, .int en_33, .long dr])), (eh, .inr (5, [.int ts, .ref q0])), (q0, .inl (c0, 120, .inl f0))]) [3, 4, 5] rfl
              have hKc := hK.sub (tys' := [(c0, .int)]) [0] rfl
              have hDc := hD.sub (ws' := [(h0, .inr (2, [.ref eh, .ref dh, .int tk_31, .int st_32, .int en_33, .long dr])), (eh, .inr (5, [.int ts, .ref q0])), (q0, .inl (c0, 120, .inl f0))]) [3, 4, 5] (by decide) rfl
              have hFc := va_free (wc := [(h0, .inr (2, [.ref eh, .ref dh, .int tk_31, .int st_32, .int en_33, .long dr])), (eh, .inr (5, [.int ts, .ref q0])), (q0, .inl (c0, 120, .inl f0))]) hD hS hA [3, 4, 5] rfl
              refine va_calli (va_runV (As := [.int 0, .int 3]) (rest := []) ⟨hx, hb, hml, hown, hts⟩ (q_numberWithin l dC dI ad h0 0 3 eh dh tk_31 st_32 en_33 dr ts q0 c0 f0 H.size hts2 (by first | omega | decide | (simp only [fa_lt, fa_le, fa_eq, and_true, true_and, and_false, false_and, not_true_eq_false, not_false_eq_true, li_0, li_1, li_2, li_3, li_4, li_5, li_6, li_7, li_8, li_9, li_10, li_12, li_15, li_16, li_20, li_30, li_34, li_38, li_40, li_63, li_64, li_65, li_78, li_120, li_1000, li_4000, li_10000, li_11077, li_255, li_65535, li_m1, li_m2, li_m1000000001, li_m1000000002, li_m1000000003, li_m1000000004, li_m1000000005, li_m1000000006, li_m1000000007, or_true, true_or, or_false, false_or, implies_true, true_implies, false_implies] <;> omega))) (cwV 2 hts g_q_holdItem_q_numberWithin_146 rfl rfl rfl (by decide +kernel) ⟨(Nat.le_of_ble_eq_true rfl), (Nat.le_of_ble_eq_true rfl)⟩) ⟨preM_blind, va_recv hKc hPc (ci := 2) (q0 := 0) rfl rfl, fun U hU hW => ⟨rfl, preM_at hU hW hPc hKc hDc hev⟩⟩ rfl rfl hl.1 rfl (lv_room (Nat.le_of_ble_eq_true rfl)) dX4_holdItem_89 ⟨(Nat.le_of_ble_eq_true rfl), (Nat.le_of_ble_eq_true rfl)⟩) hS (fun q _ h => hFc q h) hFc (fun r_36 u t H1 locs ht hvm hw hB hz1 hk1 hS => ?_)
              obtain ⟨tk_37, st_38, en_39, hq_40, hP1, hK1, hD1⟩ := hB
              rw [ht] at hP1
              have hK1 := va_K.moved hvm.symm hK1
              obtain ⟨hP, hD⟩ := va_join (wr := [(dh, .inr (4, [.int sh, w1, w2, w3, .ref q3, .ref q4, w6, w7, w8])), (q3, .inl (c3, 4, .inl f3)), (q4, .inl (c4, 4, .inl f4))]) (w1 := [(h0, .inr (2, [.ref eh, .ref dh, .int tk_37, .int st_38, .int en_39, .long dr])), (eh, .inr (5, [.int ts, .ref q0])), (q0, .inl (c0, 120, .inl f0))]) hP hD [3, 4, 5] [0, 1, 2] rfl rfl (by decide) (by decide) hk1 hFc hP1 hD1
              generalize H1 = H at hP hS ⊢
              have hP : va_P (dC, dI) vwCl [(dh, .inr (4, [.int sh, w1, w2, w3, .ref q3, .ref q4, w6, w7, w8])), (q3, .inl (c3, 4, .inl f3)), (q4, .inl (c4, 4, .inl f4)), (h0, .inr (2, [.ref eh, .ref dh, .int tk_37, .int st_38, .int en_39, .long dr])), (eh, .inr (5, [.int ts, .ref q0])), (q0, .inl (c0, 120, .inl f0))] H := hP
              have hD : va_D A [(dh, .inr (4, [.int sh, w1, w2, w3, .ref q3, .ref q4, w6, w7, w8])), (q3, .inl (c3, 4, .inl f3)), (q4, .inl (c4, 4, .inl f4)), (h0, .inr (2, [.ref eh, .ref dh, .int tk_37, .int st_38, .int en_39, .long dr])), (eh, .inr (5, [.int ts, .ref q0])), (q0, .inl (c0, 120, .inl f0))] := hD
              have hr_36 : r_36.toInt = (-1) ∨ (0 ≤ r_36.toInt ∧ r_36.toInt ≤ 3) := hw
              refine lv_goto (tgt := 96) hx hb dX4_holdItem_92 (by decide) ?_
              refine lv_istore (lv' := [(4, .int r_36), (3, .int r_24), (2, .int r_8), (1, .int r_1), (0, .ref h0)]) hx hb dX4_holdItem_96 hl (by decide) rfl (fun ls hl => ?_)
              refine lv_iload hx hb dX4_holdItem_98 (lv_at hl 0 rfl) ?_
              refine lv_if_ge (tgt := 105) hx hb dX4_holdItem_100 (by decide) (fun c_41 => ?_) (fun c_41 => ?_)
              · skip
                have tc_41 : 0 ≤ r_36.toInt := (fa_le _ _).mp c_41
                refine lv_aload_n hx hb dX4_holdItem_105 rfl (lv_at hl 4 rfl) ?_
                refine va_ldcS (tx := "at") (q := ad 10) hx hb hown (ev_str hev 10 rfl) dX4_holdItem_106 ?_
                have hPc := hP.sub (ws' := [(h0, .inr (2, [.ref eh, .ref dh, .int tk_37, .int st_38, .int en_39, .long dr])), (eh, .inr (5, [.int ts, .ref q0])), (q0, .inl (c0, 120, .inl f0))]) [3, 4, 5] rfl
                have hKc := hK.sub (tys' := [(c0, .int)]) [0] rfl
                have hDc := hD.sub (ws' := [(h0, .inr (2, [.ref eh, .ref dh, .int tk_37, .int st_38, .int en_39, .long dr])), (eh, .inr (5, [.int ts, .ref q0])), (q0, .inl (c0, 120, .inl f0))]) [3, 4, 5] (by decide) rfl
                have hFc := va_free (wc := [(h0, .inr (2, [.ref eh, .ref dh, .int tk_37, .int st_38, .int en_39, .long dr])), (eh, .inr (5, [.int ts, .ref q0])), (q0, .inl (c0, 120, .inl f0))]) hD hS hA [3, 4, 5] rfl
                refine va_calli (va_runV (As := [.ref (ad 10)]) (rest := []) ⟨hx, hb, hml, hown, hts⟩ (q_passes l dC dI ad h0 10 eh dh tk_37 st_38 en_39 dr ts q0 c0 f0 H.size (by decide) hts2 (by first | omega | decide | (simp only [fa_lt, fa_le, fa_eq, and_true, true_and, and_false, false_and, not_true_eq_false, not_false_eq_true, li_0, li_1, li_2, li_3, li_4, li_5, li_6, li_7, li_8, li_9, li_10, li_12, li_15, li_16, li_20, li_30, li_34, li_38, li_40, li_63, li_64, li_65, li_78, li_120, li_1000, li_4000, li_10000, li_11077, li_255, li_65535, li_m1, li_m2, li_m1000000001, li_m1000000002, li_m1000000003, li_m1000000004, li_m1000000005, li_m1000000006, li_m1000000007, or_true, true_or, or_false, false_or, implies_true, true_implies, false_implies] <;> omega))) (cwV 1 hts g_q_holdItem_q_passes_95 rfl rfl rfl (by decide +kernel) ⟨(Nat.le_of_ble_eq_true rfl), (Nat.le_of_ble_eq_true rfl)⟩) ⟨preT_blind, va_recv hKc hPc (ci := 2) (q0 := 0) rfl rfl, fun U hU hW => ⟨rfl, preM_at hU hW hPc hKc hDc hev, sf_at hsf hS hFc hU hW⟩⟩ rfl rfl hl.1 rfl (lv_room (Nat.le_of_ble_eq_true rfl)) dX4_holdItem_108 ⟨(Nat.le_of_ble_eq_true rfl), (Nat.le_of_ble_eq_true rfl)⟩) hS (fun q _ h => hFc q h) hFc (fun r_42 u t H1 locs ht hvm hw hB hz1 hk1 hS => ?_)
                obtain ⟨tk_43, st_44, en_45, hq_46, hP1, hK1, hD1⟩ := hB
                rw [ht] at hP1
                have hK1 := va_K.moved hvm.symm hK1
                obtain ⟨hP, hD⟩ := va_join (wr := [(dh, .inr (4, [.int sh, w1, w2, w3, .ref q3, .ref q4, w6, w7, w8])), (q3, .inl (c3, 4, .inl f3)), (q4, .inl (c4, 4, .inl f4))]) (w1 := [(h0, .inr (2, [.ref eh, .ref dh, .int tk_43, .int st_44, .int en_45, .long dr])), (eh, .inr (5, [.int ts, .ref q0])), (q0, .inl (c0, 120, .inl f0))]) hP hD [3, 4, 5] [0, 1, 2] rfl rfl (by decide) (by decide) hk1 hFc hP1 hD1
                generalize H1 = H at hP hS ⊢
                have hP : va_P (dC, dI) vwCl [(dh, .inr (4, [.int sh, w1, w2, w3, .ref q3, .ref q4, w6, w7, w8])), (q3, .inl (c3, 4, .inl f3)), (q4, .inl (c4, 4, .inl f4)), (h0, .inr (2, [.ref eh, .ref dh, .int tk_43, .int st_44, .int en_45, .long dr])), (eh, .inr (5, [.int ts, .ref q0])), (q0, .inl (c0, 120, .inl f0))] H := hP
                have hD : va_D A [(dh, .inr (4, [.int sh, w1, w2, w3, .ref q3, .ref q4, w6, w7, w8])), (q3, .inl (c3, 4, .inl f3)), (q4, .inl (c4, 4, .inl f4)), (h0, .inr (2, [.ref eh, .ref dh, .int tk_43, .int st_44, .int en_45, .long dr])), (eh, .inr (5, [.int ts, .ref q0])), (q0, .inl (c0, 120, .inl f0))] := hD
                have hr_42 : r_42.toInt = 0 ∨ r_42.toInt = 1 := hw
                refine lv_if_eq (tgt := 124) hx hb dX4_holdItem_111 (by decide) (fun c_47 => ?_) (fun c_47 => ?_)
                · skip
                  have tc_47 : r_42.toInt = 0 := (fa_eq _ _).mp c_47
                  refine lv_iconst (v := (-1)) hx hb dX4_holdItem_124 (by decide) ?_
                  refine lv_istore (lv' := [(5, .int (-1)), (4, .int r_36), (3, .int r_24), (2, .int r_8), (1, .int r_1), (0, .ref h0)]) hx hb dX4_holdItem_125 hl (by decide) rfl (fun ls hl => ?_)
                  refine lv_iload hx hb dX4_holdItem_127 (lv_at hl 0 rfl) ?_
                  refine lv_if_ge (tgt := 134) hx hb dX4_holdItem_129 (by decide) (fun c => absurd c (by decide)) (fun _ => ?_)
                  refine lv_iconst (v := 0) hx hb dX4_holdItem_132 (by decide) ?_
                  have hP9 := hP.sub (ws' := [(h0, .inr (2, [.ref eh, .ref dh, .int tk_43, .int st_44, .int en_45, .long dr])), (eh, .inr (5, [.int ts, .ref q0])), (q0, .inl (c0, 120, .inl f0)), (dh, .inr (4, [.int sh, w1, w2, w3, .ref q3, .ref q4, w6, w7, w8])), (q3, .inl (c3, 4, .inl f3)), (q4, .inl (c4, 4, .inl f4))]) [3, 4, 5, 0, 1, 2] rfl
                  have hD9 := hD.sub (ws' := [(h0, .inr (2, [.ref eh, .ref dh, .int tk_43, .int st_44, .int en_45, .long dr])), (eh, .inr (5, [.int ts, .ref q0])), (q0, .inl (c0, 120, .inl f0)), (dh, .inr (4, [.int sh, w1, w2, w3, .ref q3, .ref q4, w6, w7, w8])), (q3, .inl (c3, 4, .inl f3)), (q4, .inl (c4, 4, .inl f4))]) [3, 4, 5, 0, 1, 2] (by decide) rfl
                  have hK9 := hK.sub (tys' := [(c0, .int), (c3, .int), (c4, .int)]) [0, 1, 2] rfl
                  exact W.zret (v := (0 : Int32)) hx hb hr (by decide) (fun t ht hW => ⟨⟨(0 : Int32), (), rfl, (by first | omega | decide | (simp only [fa_lt, fa_le, fa_eq, and_true, true_and, and_false, false_and, not_true_eq_false, not_false_eq_true, li_0, li_1, li_2, li_3, li_4, li_5, li_6, li_7, li_8, li_9, li_10, li_12, li_15, li_16, li_20, li_30, li_34, li_38, li_40, li_63, li_64, li_65, li_78, li_120, li_1000, li_4000, li_10000, li_11077, li_255, li_65535, li_m1, li_m2, li_m1000000001, li_m1000000002, li_m1000000003, li_m1000000004, li_m1000000005, li_m1000000006, li_m1000000007, or_true, true_or, or_false, false_or, implies_true, true_implies, false_implies] <;> omega)), tk_43, st_44, en_45, f3, f4, hq_46, by rw [ht]; exact hP9, va_K.moved hW.alike hK9, hD9⟩, hS.F ht⟩) hS.2.2 dX4_holdItem_133
                · skip
                  have tc_47 : ¬ r_42.toInt = 0 := fun h => c_47 ((fa_eq _ _).mpr h)
                  refine lv_aload_n hx hb dX4_holdItem_114 rfl (lv_at hl 4 rfl) ?_
                  refine lv_iconst (v := 0) hx hb dX4_holdItem_115 (by decide) ?_
                  refine lv_bipush (v := 7) hx hb dX4_holdItem_116 (by decide) ?_
                  have hPc := hP.sub (ws' := [(h0, .inr (2, [.ref eh, .ref dh, .int tk_43, .int st_44, .int en_45, .long dr])), (eh, .inr (5, [.int ts, .ref q0])), (q0, .inl (c0, 120, .inl f0))]) [3, 4, 5] rfl
                  have hKc := hK.sub (tys' := [(c0, .int)]) [0] rfl
                  have hDc := hD.sub (ws' := [(h0, .inr (2, [.ref eh, .ref dh, .int tk_43, .int st_44, .int en_45, .long dr])), (eh, .inr (5, [.int ts, .ref q0])), (q0, .inl (c0, 120, .inl f0))]) [3, 4, 5] (by decide) rfl
                  have hFc := va_free (wc := [(h0, .inr (2, [.ref eh, .ref dh, .int tk_43, .int st_44, .int en_45, .long dr])), (eh, .inr (5, [.int ts, .ref q0])), (q0, .inl (c0, 120, .inl f0))]) hD hS hA [3, 4, 5] rfl
                  refine va_calli (va_runV (As := [.int 0, .int 7]) (rest := []) ⟨hx, hb, hml, hown, hts⟩ (q_numberWithin l dC dI ad h0 0 7 eh dh tk_43 st_44 en_45 dr ts q0 c0 f0 H.size hts2 (by first | omega | decide | (simp only [fa_lt, fa_le, fa_eq, and_true, true_and, and_false, false_and, not_true_eq_false, not_false_eq_true, li_0, li_1, li_2, li_3, li_4, li_5, li_6, li_7, li_8, li_9, li_10, li_12, li_15, li_16, li_20, li_30, li_34, li_38, li_40, li_63, li_64, li_65, li_78, li_120, li_1000, li_4000, li_10000, li_11077, li_255, li_65535, li_m1, li_m2, li_m1000000001, li_m1000000002, li_m1000000003, li_m1000000004, li_m1000000005, li_m1000000006, li_m1000000007, or_true, true_or, or_false, false_or, implies_true, true_implies, false_implies] <;> omega))) (cwV 2 hts g_q_holdItem_q_numberWithin_146 rfl rfl rfl (by decide +kernel) ⟨(Nat.le_of_ble_eq_true rfl), (Nat.le_of_ble_eq_true rfl)⟩) ⟨preM_blind, va_recv hKc hPc (ci := 2) (q0 := 0) rfl rfl, fun U hU hW => ⟨rfl, preM_at hU hW hPc hKc hDc hev⟩⟩ rfl rfl hl.1 rfl (lv_room (Nat.le_of_ble_eq_true rfl)) dX4_holdItem_118 ⟨(Nat.le_of_ble_eq_true rfl), (Nat.le_of_ble_eq_true rfl)⟩) hS (fun q _ h => hFc q h) hFc (fun r_48 u t H1 locs ht hvm hw hB hz1 hk1 hS => ?_)
                  obtain ⟨tk_49, st_50, en_51, hq_52, hP1, hK1, hD1⟩ := hB
                  rw [ht] at hP1
                  have hK1 := va_K.moved hvm.symm hK1
                  obtain ⟨hP, hD⟩ := va_join (wr := [(dh, .inr (4, [.int sh, w1, w2, w3, .ref q3, .ref q4, w6, w7, w8])), (q3, .inl (c3, 4, .inl f3)), (q4, .inl (c4, 4, .inl f4))]) (w1 := [(h0, .inr (2, [.ref eh, .ref dh, .int tk_49, .int st_50, .int en_51, .long dr])), (eh, .inr (5, [.int ts, .ref q0])), (q0, .inl (c0, 120, .inl f0))]) hP hD [3, 4, 5] [0, 1, 2] rfl rfl (by decide) (by decide) hk1 hFc hP1 hD1
                  generalize H1 = H at hP hS ⊢
                  have hP : va_P (dC, dI) vwCl [(dh, .inr (4, [.int sh, w1, w2, w3, .ref q3, .ref q4, w6, w7, w8])), (q3, .inl (c3, 4, .inl f3)), (q4, .inl (c4, 4, .inl f4)), (h0, .inr (2, [.ref eh, .ref dh, .int tk_49, .int st_50, .int en_51, .long dr])), (eh, .inr (5, [.int ts, .ref q0])), (q0, .inl (c0, 120, .inl f0))] H := hP
                  have hD : va_D A [(dh, .inr (4, [.int sh, w1, w2, w3, .ref q3, .ref q4, w6, w7, w8])), (q3, .inl (c3, 4, .inl f3)), (q4, .inl (c4, 4, .inl f4)), (h0, .inr (2, [.ref eh, .ref dh, .int tk_49, .int st_50, .int en_51, .long dr])), (eh, .inr (5, [.int ts, .ref q0])), (q0, .inl (c0, 120, .inl f0))] := hD
                  have hr_48 : r_48.toInt = (-1) ∨ (0 ≤ r_48.toInt ∧ r_48.toInt ≤ 7) := hw
                  refine lv_goto (tgt := 125) hx hb dX4_holdItem_121 (by decide) ?_
                  refine lv_istore (lv' := [(5, .int r_48), (4, .int r_36), (3, .int r_24), (2, .int r_8), (1, .int r_1), (0, .ref h0)]) hx hb dX4_holdItem_125 hl (by decide) rfl (fun ls hl => ?_)
                  refine lv_iload hx hb dX4_holdItem_127 (lv_at hl 0 rfl) ?_
                  refine lv_if_ge (tgt := 134) hx hb dX4_holdItem_129 (by decide) (fun c_53 => ?_) (fun c_53 => ?_)
                  · skip
                    have tc_53 : 0 ≤ r_48.toInt := (fa_le _ _).mp c_53
                    refine lv_aload_n hx hb dX4_holdItem_134 rfl (lv_at hl 5 rfl) ?_
                    refine lv_iconst (v := 0) hx hb dX4_holdItem_135 (by decide) ?_
                    refine lv_bipush (v := 7) hx hb dX4_holdItem_136 (by decide) ?_
                    have hPc := hP.sub (ws' := [(h0, .inr (2, [.ref eh, .ref dh, .int tk_49, .int st_50, .int en_51, .long dr])), (eh, .inr (5, [.int ts, .ref q0])), (q0, .inl (c0, 120, .inl f0))]) [3, 4, 5] rfl
                    have hKc := hK.sub (tys' := [(c0, .int)]) [0] rfl
                    have hDc := hD.sub (ws' := [(h0, .inr (2, [.ref eh, .ref dh, .int tk_49, .int st_50, .int en_51, .long dr])), (eh, .inr (5, [.int ts, .ref q0])), (q0, .inl (c0, 120, .inl f0))]) [3, 4, 5] (by decide) rfl
                    have hFc := va_free (wc := [(h0, .inr (2, [.ref eh, .ref dh, .int tk_49, .int st_50, .int en_51, .long dr])), (eh, .inr (5, [.int ts, .ref q0])), (q0, .inl (c0, 120, .inl f0))]) hD hS hA [3, 4, 5] rfl
                    refine va_calli (va_runV (As := [.int 0, .int 7]) (rest := []) ⟨hx, hb, hml, hown, hts⟩ (q_numberWithin l dC dI ad h0 0 7 eh dh tk_49 st_50 en_51 dr ts q0 c0 f0 H.size hts2 (by first | omega | decide | (simp only [fa_lt, fa_le, fa_eq, and_true, true_and, and_false, false_and, not_true_eq_false, not_false_eq_true, li_0, li_1, li_2, li_3, li_4, li_5, li_6, li_7, li_8, li_9, li_10, li_12, li_15, li_16, li_20, li_30, li_34, li_38, li_40, li_63, li_64, li_65, li_78, li_120, li_1000, li_4000, li_10000, li_11077, li_255, li_65535, li_m1, li_m2, li_m1000000001, li_m1000000002, li_m1000000003, li_m1000000004, li_m1000000005, li_m1000000006, li_m1000000007, or_true, true_or, or_false, false_or, implies_true, true_implies, false_implies] <;> omega))) (cwV 2 hts g_q_holdItem_q_numberWithin_146 rfl rfl rfl (by decide +kernel) ⟨(Nat.le_of_ble_eq_true rfl), (Nat.le_of_ble_eq_true rfl)⟩) ⟨preM_blind, va_recv hKc hPc (ci := 2) (q0 := 0) rfl rfl, fun U hU hW => ⟨rfl, preM_at hU hW hPc hKc hDc hev⟩⟩ rfl rfl hl.1 rfl (lv_room (Nat.le_of_ble_eq_true rfl)) dX4_holdItem_138 ⟨(Nat.le_of_ble_eq_true rfl), (Nat.le_of_ble_eq_true rfl)⟩) hS (fun q _ h => hFc q h) hFc (fun r_54 u t H1 locs ht hvm hw hB hz1 hk1 hS => ?_)
                    obtain ⟨tk_55, st_56, en_57, hq_58, hP1, hK1, hD1⟩ := hB
                    rw [ht] at hP1
                    have hK1 := va_K.moved hvm.symm hK1
                    obtain ⟨hP, hD⟩ := va_join (wr := [(dh, .inr (4, [.int sh, w1, w2, w3, .ref q3, .ref q4, w6, w7, w8])), (q3, .inl (c3, 4, .inl f3)), (q4, .inl (c4, 4, .inl f4))]) (w1 := [(h0, .inr (2, [.ref eh, .ref dh, .int tk_55, .int st_56, .int en_57, .long dr])), (eh, .inr (5, [.int ts, .ref q0])), (q0, .inl (c0, 120, .inl f0))]) hP hD [3, 4, 5] [0, 1, 2] rfl rfl (by decide) (by decide) hk1 hFc hP1 hD1
                    generalize H1 = H at hP hS ⊢
                    have hP : va_P (dC, dI) vwCl [(dh, .inr (4, [.int sh, w1, w2, w3, .ref q3, .ref q4, w6, w7, w8])), (q3, .inl (c3, 4, .inl f3)), (q4, .inl (c4, 4, .inl f4)), (h0, .inr (2, [.ref eh, .ref dh, .int tk_55, .int st_56, .int en_57, .long dr])), (eh, .inr (5, [.int ts, .ref q0])), (q0, .inl (c0, 120, .inl f0))] H := hP
                    have hD : va_D A [(dh, .inr (4, [.int sh, w1, w2, w3, .ref q3, .ref q4, w6, w7, w8])), (q3, .inl (c3, 4, .inl f3)), (q4, .inl (c4, 4, .inl f4)), (h0, .inr (2, [.ref eh, .ref dh, .int tk_55, .int st_56, .int en_57, .long dr])), (eh, .inr (5, [.int ts, .ref q0])), (q0, .inl (c0, 120, .inl f0))] := hD
                    have hr_54 : r_54.toInt = (-1) ∨ (0 ≤ r_54.toInt ∧ r_54.toInt ≤ 7) := hw
                    refine lv_istore (lv' := [(6, .int r_54), (5, .int r_48), (4, .int r_36), (3, .int r_24), (2, .int r_8), (1, .int r_1), (0, .ref h0)]) hx hb dX4_holdItem_141 hl (by decide) rfl (fun ls hl => ?_)
                    refine lv_iload hx hb dX4_holdItem_143 (lv_at hl 0 rfl) ?_
                    refine lv_if_ge (tgt := 150) hx hb dX4_holdItem_145 (by decide) (fun c_59 => ?_) (fun c_59 => ?_)
                    · skip
                      have tc_59 : 0 ≤ r_54.toInt := (fa_le _ _).mp c_59
                      refine lv_aload_n hx hb dX4_holdItem_150 rfl (lv_at hl 6 rfl) ?_
                      refine va_get (D := (dC, dI)) (ci := 2) (v := .ref dh) (C := RX4) (T := TX4) (N := 6) hx hb hts inX4 hown hK hP 3 rfl rfl 1 (by decide) (hts _ (List.mem_of_getElem? (i := 1) rfl)) (fun _ h9 => h9) rfl dX4_holdItem_151 ?_
                      refine lv_iload_n hx hb dX4_holdItem_154 rfl (lv_at hl 5 rfl) ?_
                      refine lv_iload_n hx hb dX4_holdItem_155 rfl (lv_at hl 4 rfl) ?_
                      refine lv_iconst (v := 4) hx hb dX4_holdItem_156 (by decide) ?_
                      refine lv_iload_n hx hb dX4_holdItem_157 rfl (lv_at hl 3 rfl) ?_
                      refine lv_imul hx hb dX4_holdItem_158 ?_
                      refine lv_topi (fun n_60 en_60 => ?_)
                      clear en_60
                      refine lv_iload hx hb dX4_holdItem_159 (lv_at hl 2 rfl) ?_
                      refine lv_iadd hx hb dX4_holdItem_161 ?_
                      refine lv_topi (fun n_61 en_61 => ?_)
                      clear en_61
                      refine lv_iload hx hb dX4_holdItem_162 (lv_at hl 1 rfl) ?_
                      refine lv_iload hx hb dX4_holdItem_164 (lv_at hl 0 rfl) ?_
                      have hPc := hP.sub (ws' := []) [] rfl
                      have hKc := hK.sub (tys' := []) [] rfl
                      refine vp_callSi (W.runS (As := [.int n_61, .int r_48, .int r_54]) (rest := [.int r_8, .int r_1, .ref dh]) ⟨hx, hb, hml, hown, hts⟩ (l_placingAt l dC dI ad n_61 r_48 r_54 ) (va_cwS 3 hts g_q_holdItem_l_placingAt_153 rfl rfl rfl (by decide +kernel) ⟨(Nat.le_of_ble_eq_true rfl), (Nat.le_of_ble_eq_true rfl)⟩) ⟨preS_blind, fun U hU hW => ⟨rfl, preS_at hU hW hPc hKc hev⟩⟩ rfl rfl hl.1 rfl (lv_room (Nat.le_of_ble_eq_true rfl)) dX4_holdItem_166 ⟨(Nat.le_of_ble_eq_true rfl), (Nat.le_of_ble_eq_true rfl)⟩) (fun r_62 hw => ?_)
                      have hPc := hP.sub (ws' := [(dh, .inr (4, [.int sh, w1, w2, w3, .ref q3, .ref q4, w6, w7, w8])), (q3, .inl (c3, 4, .inl f3)), (q4, .inl (c4, 4, .inl f4))]) [0, 1, 2] rfl
                      have hKc := hK.sub (tys' := [(c3, .int), (c4, .int)]) [1, 2] rfl
                      have hDc := hD.sub (ws' := [(dh, .inr (4, [.int sh, w1, w2, w3, .ref q3, .ref q4, w6, w7, w8])), (q3, .inl (c3, 4, .inl f3)), (q4, .inl (c4, 4, .inl f4))]) [0, 1, 2] (by decide) rfl
                      have hFc := va_free (wc := [(dh, .inr (4, [.int sh, w1, w2, w3, .ref q3, .ref q4, w6, w7, w8])), (q3, .inl (c3, 4, .inl f3)), (q4, .inl (c4, 4, .inl f4))]) hD hS hA [0, 1, 2] rfl
                      refine va_callv (va_runV (As := [.int r_1, .int r_8, .int r_62]) (rest := []) ⟨hx, hb, hml, hown, hts⟩ (s_take l dC dI ad dh r_1 r_8 r_62 (.int sh) w1 w2 w3 q3 q4 w6 w7 w8 c3 f3 c4 f4 H.size (by first | omega | decide | (simp only [fa_lt, fa_le, fa_eq, and_true, true_and, and_false, false_and, not_true_eq_false, not_false_eq_true, li_0, li_1, li_2, li_3, li_4, li_5, li_6, li_7, li_8, li_9, li_10, li_12, li_15, li_16, li_20, li_30, li_34, li_38, li_40, li_63, li_64, li_65, li_78, li_120, li_1000, li_4000, li_10000, li_11077, li_255, li_65535, li_m1, li_m2, li_m1000000001, li_m1000000002, li_m1000000003, li_m1000000004, li_m1000000005, li_m1000000006, li_m1000000007, or_true, true_or, or_false, false_or, implies_true, true_implies, false_implies] <;> omega))) (cwV 3 hts g_q_holdItem_s_take_159 rfl rfl rfl (by decide +kernel) ⟨(Nat.le_of_ble_eq_true rfl), (Nat.le_of_ble_eq_true rfl)⟩) ⟨preM_blind, va_recv hKc hPc (ci := 4) (q0 := 0) rfl rfl, fun U hU hW => ⟨rfl, preM_at hU hW hPc hKc hDc hev⟩⟩ rfl rfl hl.1 rfl (lv_room (Nat.le_of_ble_eq_true rfl)) dX4_holdItem_169 ⟨(Nat.le_of_ble_eq_true rfl), (Nat.le_of_ble_eq_true rfl)⟩) hS (fun q _ h => hFc q h) hFc (fun u t H1 locs ht hvm hw hB hz1 hk1 hS => ?_)
                      obtain ⟨g_64, g_65, hP1, hK1, hD1⟩ := hB
                      rw [ht] at hP1
                      have hK1 := va_K.moved hvm.symm hK1
                      obtain ⟨hP, hD⟩ := va_join (wr := [(h0, .inr (2, [.ref eh, .ref dh, .int tk_55, .int st_56, .int en_57, .long dr])), (eh, .inr (5, [.int ts, .ref q0])), (q0, .inl (c0, 120, .inl f0))]) (w1 := [(dh, .inr (4, [.int sh, w1, w2, w3, .ref q3, .ref q4, w6, w7, w8])), (q3, .inl (c3, 4, .inl g_64)), (q4, .inl (c4, 4, .inl g_65))]) hP hD [0, 1, 2] [3, 4, 5] rfl rfl (by decide) (by decide) hk1 hFc hP1 hD1
                      generalize H1 = H at hP hS ⊢
                      have hP : va_P (dC, dI) vwCl [(h0, .inr (2, [.ref eh, .ref dh, .int tk_55, .int st_56, .int en_57, .long dr])), (eh, .inr (5, [.int ts, .ref q0])), (q0, .inl (c0, 120, .inl f0)), (dh, .inr (4, [.int sh, w1, w2, w3, .ref q3, .ref q4, w6, w7, w8])), (q3, .inl (c3, 4, .inl g_64)), (q4, .inl (c4, 4, .inl g_65))] H := hP
                      have hD : va_D A [(h0, .inr (2, [.ref eh, .ref dh, .int tk_55, .int st_56, .int en_57, .long dr])), (eh, .inr (5, [.int ts, .ref q0])), (q0, .inl (c0, 120, .inl f0)), (dh, .inr (4, [.int sh, w1, w2, w3, .ref q3, .ref q4, w6, w7, w8])), (q3, .inl (c3, 4, .inl g_64)), (q4, .inl (c4, 4, .inl g_65))] := hD
                      refine lv_iconst (v := 1) hx hb dX4_holdItem_172 (by decide) ?_
                      have hP9 := hP.sub (ws' := [(h0, .inr (2, [.ref eh, .ref dh, .int tk_55, .int st_56, .int en_57, .long dr])), (eh, .inr (5, [.int ts, .ref q0])), (q0, .inl (c0, 120, .inl f0)), (dh, .inr (4, [.int sh, w1, w2, w3, .ref q3, .ref q4, w6, w7, w8])), (q3, .inl (c3, 4, .inl g_64)), (q4, .inl (c4, 4, .inl g_65))]) [0, 1, 2, 3, 4, 5] rfl
                      have hD9 := hD.sub (ws' := [(h0, .inr (2, [.ref eh, .ref dh, .int tk_55, .int st_56, .int en_57, .long dr])), (eh, .inr (5, [.int ts, .ref q0])), (q0, .inl (c0, 120, .inl f0)), (dh, .inr (4, [.int sh, w1, w2, w3, .ref q3, .ref q4, w6, w7, w8])), (q3, .inl (c3, 4, .inl g_64)), (q4, .inl (c4, 4, .inl g_65))]) [0, 1, 2, 3, 4, 5] (by decide) rfl
                      have hK9 := hK.sub (tys' := [(c0, .int), (c3, .int), (c4, .int)]) [0, 1, 2] rfl
                      exact W.zret (v := (1 : Int32)) hx hb hr (by decide) (fun t ht hW => ⟨⟨(1 : Int32), (), rfl, (by first | omega | decide | (simp only [fa_lt, fa_le, fa_eq, and_true, true_and, and_false, false_and, not_true_eq_false, not_false_eq_true, li_0, li_1, li_2, li_3, li_4, li_5, li_6, li_7, li_8, li_9, li_10, li_12, li_15, li_16, li_20, li_30, li_34, li_38, li_40, li_63, li_64, li_65, li_78, li_120, li_1000, li_4000, li_10000, li_11077, li_255, li_65535, li_m1, li_m2, li_m1000000001, li_m1000000002, li_m1000000003, li_m1000000004, li_m1000000005, li_m1000000006, li_m1000000007, or_true, true_or, or_false, false_or, implies_true, true_implies, false_implies] <;> omega)), tk_55, st_56, en_57, g_64, g_65, hq_58, by rw [ht]; exact hP9, va_K.moved hW.alike hK9, hD9⟩, hS.F ht⟩) hS.2.2 dX4_holdItem_173
                    · skip
                      have tc_59 : ¬ 0 ≤ r_54.toInt := fun h => c_59 ((fa_le _ _).mpr h)
                      refine lv_iconst (v := 0) hx hb dX4_holdItem_148 (by decide) ?_
                      have hP9 := hP.sub (ws' := [(h0, .inr (2, [.ref eh, .ref dh, .int tk_55, .int st_56, .int en_57, .long dr])), (eh, .inr (5, [.int ts, .ref q0])), (q0, .inl (c0, 120, .inl f0)), (dh, .inr (4, [.int sh, w1, w2, w3, .ref q3, .ref q4, w6, w7, w8])), (q3, .inl (c3, 4, .inl f3)), (q4, .inl (c4, 4, .inl f4))]) [3, 4, 5, 0, 1, 2] rfl
                      have hD9 := hD.sub (ws' := [(h0, .inr (2, [.ref eh, .ref dh, .int tk_55, .int st_56, .int en_57, .long dr])), (eh, .inr (5, [.int ts, .ref q0])), (q0, .inl (c0, 120, .inl f0)), (dh, .inr (4, [.int sh, w1, w2, w3, .ref q3, .ref q4, w6, w7, w8])), (q3, .inl (c3, 4, .inl f3)), (q4, .inl (c4, 4, .inl f4))]) [3, 4, 5, 0, 1, 2] (by decide) rfl
                      have hK9 := hK.sub (tys' := [(c0, .int), (c3, .int), (c4, .int)]) [0, 1, 2] rfl
                      exact W.zret (v := (0 : Int32)) hx hb hr (by decide) (fun t ht hW => ⟨⟨(0 : Int32), (), rfl, (by first | omega | decide | (simp only [fa_lt, fa_le, fa_eq, and_true, true_and, and_false, false_and, not_true_eq_false, not_false_eq_true, li_0, li_1, li_2, li_3, li_4, li_5, li_6, li_7, li_8, li_9, li_10, li_12, li_15, li_16, li_20, li_30, li_34, li_38, li_40, li_63, li_64, li_65, li_78, li_120, li_1000, li_4000, li_10000, li_11077, li_255, li_65535, li_m1, li_m2, li_m1000000001, li_m1000000002, li_m1000000003, li_m1000000004, li_m1000000005, li_m1000000006, li_m1000000007, or_true, true_or, or_false, false_or, implies_true, true_implies, false_implies] <;> omega)), tk_55, st_56, en_57, f3, f4, hq_58, by rw [ht]; exact hP9, va_K.moved hW.alike hK9, hD9⟩, hS.F ht⟩) hS.2.2 dX4_holdItem_149
                  · skip
                    have tc_53 : ¬ 0 ≤ r_48.toInt := fun h => c_53 ((fa_le _ _).mpr h)
                    refine lv_iconst (v := 0) hx hb dX4_holdItem_132 (by decide) ?_
                    have hP9 := hP.sub (ws' := [(h0, .inr (2, [.ref eh, .ref dh, .int tk_49, .int st_50, .int en_51, .long dr])), (eh, .inr (5, [.int ts, .ref q0])), (q0, .inl (c0, 120, .inl f0)), (dh, .inr (4, [.int sh, w1, w2, w3, .ref q3, .ref q4, w6, w7, w8])), (q3, .inl (c3, 4, .inl f3)), (q4, .inl (c4, 4, .inl f4))]) [3, 4, 5, 0, 1, 2] rfl
                    have hD9 := hD.sub (ws' := [(h0, .inr (2, [.ref eh, .ref dh, .int tk_49, .int st_50, .int en_51, .long dr])), (eh, .inr (5, [.int ts, .ref q0])), (q0, .inl (c0, 120, .inl f0)), (dh, .inr (4, [.int sh, w1, w2, w3, .ref q3, .ref q4, w6, w7, w8])), (q3, .inl (c3, 4, .inl f3)), (q4, .inl (c4, 4, .inl f4))]) [3, 4, 5, 0, 1, 2] (by decide) rfl
                    have hK9 := hK.sub (tys' := [(c0, .int), (c3, .int), (c4, .int)]) [0, 1, 2] rfl
                    exact W.zret (v := (0 : Int32)) hx hb hr (by decide) (fun t ht hW => ⟨⟨(0 : Int32), (), rfl, (by first | omega | decide | (simp only [fa_lt, fa_le, fa_eq, and_true, true_and, and_false, false_and, not_true_eq_false, not_false_eq_true, li_0, li_1, li_2, li_3, li_4, li_5, li_6, li_7, li_8, li_9, li_10, li_12, li_15, li_16, li_20, li_30, li_34, li_38, li_40, li_63, li_64, li_65, li_78, li_120, li_1000, li_4000, li_10000, li_11077, li_255, li_65535, li_m1, li_m2, li_m1000000001, li_m1000000002, li_m1000000003, li_m1000000004, li_m1000000005, li_m1000000006, li_m1000000007, or_true, true_or, or_false, false_or, implies_true, true_implies, false_implies] <;> omega)), tk_49, st_50, en_51, f3, f4, hq_52, by rw [ht]; exact hP9, va_K.moved hW.alike hK9, hD9⟩, hS.F ht⟩) hS.2.2 dX4_holdItem_133
              · skip
                have tc_41 : ¬ 0 ≤ r_36.toInt := fun h => c_41 ((fa_le _ _).mpr h)
                refine lv_iconst (v := 0) hx hb dX4_holdItem_103 (by decide) ?_
                have hP9 := hP.sub (ws' := [(h0, .inr (2, [.ref eh, .ref dh, .int tk_37, .int st_38, .int en_39, .long dr])), (eh, .inr (5, [.int ts, .ref q0])), (q0, .inl (c0, 120, .inl f0)), (dh, .inr (4, [.int sh, w1, w2, w3, .ref q3, .ref q4, w6, w7, w8])), (q3, .inl (c3, 4, .inl f3)), (q4, .inl (c4, 4, .inl f4))]) [3, 4, 5, 0, 1, 2] rfl
                have hD9 := hD.sub (ws' := [(h0, .inr (2, [.ref eh, .ref dh, .int tk_37, .int st_38, .int en_39, .long dr])), (eh, .inr (5, [.int ts, .ref q0])), (q0, .inl (c0, 120, .inl f0)), (dh, .inr (4, [.int sh, w1, w2, w3, .ref q3, .ref q4, w6, w7, w8])), (q3, .inl (c3, 4, .inl f3)), (q4, .inl (c4, 4, .inl f4))]) [3, 4, 5, 0, 1, 2] (by decide) rfl
                have hK9 := hK.sub (tys' := [(c0, .int), (c3, .int), (c4, .int)]) [0, 1, 2] rfl
                exact W.zret (v := (0 : Int32)) hx hb hr (by decide) (fun t ht hW => ⟨⟨(0 : Int32), (), rfl, (by first | omega | decide | (simp only [fa_lt, fa_le, fa_eq, and_true, true_and, and_false, false_and, not_true_eq_false, not_false_eq_true, li_0, li_1, li_2, li_3, li_4, li_5, li_6, li_7, li_8, li_9, li_10, li_12, li_15, li_16, li_20, li_30, li_34, li_38, li_40, li_63, li_64, li_65, li_78, li_120, li_1000, li_4000, li_10000, li_11077, li_255, li_65535, li_m1, li_m2, li_m1000000001, li_m1000000002, li_m1000000003, li_m1000000004, li_m1000000005, li_m1000000006, li_m1000000007, or_true, true_or, or_false, false_or, implies_true, true_implies, false_implies] <;> omega)), tk_37, st_38, en_39, f3, f4, hq_40, by rw [ht]; exact hP9, va_K.moved hW.alike hK9, hD9⟩, hS.F ht⟩) hS.2.2 dX4_holdItem_104
          · skip
            have tc_29 : ¬ 0 ≤ r_24.toInt := fun h => c_29 ((fa_le _ _).mpr h)
            refine lv_iconst (v := 0) hx hb dX4_holdItem_75 (by decide) ?_
            have hP9 := hP.sub (ws' := [(h0, .inr (2, [.ref eh, .ref dh, .int tk_25, .int st_26, .int en_27, .long dr])), (eh, .inr (5, [.int ts, .ref q0])), (q0, .inl (c0, 120, .inl f0)), (dh, .inr (4, [.int sh, w1, w2, w3, .ref q3, .ref q4, w6, w7, w8])), (q3, .inl (c3, 4, .inl f3)), (q4, .inl (c4, 4, .inl f4))]) [3, 4, 5, 0, 1, 2] rfl
            have hD9 := hD.sub (ws' := [(h0, .inr (2, [.ref eh, .ref dh, .int tk_25, .int st_26, .int en_27, .long dr])), (eh, .inr (5, [.int ts, .ref q0])), (q0, .inl (c0, 120, .inl f0)), (dh, .inr (4, [.int sh, w1, w2, w3, .ref q3, .ref q4, w6, w7, w8])), (q3, .inl (c3, 4, .inl f3)), (q4, .inl (c4, 4, .inl f4))]) [3, 4, 5, 0, 1, 2] (by decide) rfl
            have hK9 := hK.sub (tys' := [(c0, .int), (c3, .int), (c4, .int)]) [0, 1, 2] rfl
            exact W.zret (v := (0 : Int32)) hx hb hr (by decide) (fun t ht hW => ⟨⟨(0 : Int32), (), rfl, (by first | omega | decide | (simp only [fa_lt, fa_le, fa_eq, and_true, true_and, and_false, false_and, not_true_eq_false, not_false_eq_true, li_0, li_1, li_2, li_3, li_4, li_5, li_6, li_7, li_8, li_9, li_10, li_12, li_15, li_16, li_20, li_30, li_34, li_38, li_40, li_63, li_64, li_65, li_78, li_120, li_1000, li_4000, li_10000, li_11077, li_255, li_65535, li_m1, li_m2, li_m1000000001, li_m1000000002, li_m1000000003, li_m1000000004, li_m1000000005, li_m1000000006, li_m1000000007, or_true, true_or, or_false, false_or, implies_true, true_implies, false_implies] <;> omega)), tk_25, st_26, en_27, f3, f4, hq_28, by rw [ht]; exact hP9, va_K.moved hW.alike hK9, hD9⟩, hS.F ht⟩) hS.2.2 dX4_holdItem_76
      · skip
        have tc_12 : ¬ r_11.toInt < 0 := fun h => c_12 ((fa_lt _ _).mpr h)
        refine lv_iconst (v := 0) hx hb dX4_holdItem_45 (by decide) ?_
        have hP9 := hP.sub (ws' := [(h0, .inr (2, [.ref eh, .ref dh, .int tk_4, .int st_5, .int en_6, .long dr])), (eh, .inr (5, [.int ts, .ref q0])), (q0, .inl (c0, 120, .inl f0)), (dh, .inr (4, [.int sh, w1, w2, w3, .ref q3, .ref q4, w6, w7, w8])), (q3, .inl (c3, 4, .inl f3)), (q4, .inl (c4, 4, .inl f4))]) [3, 4, 5, 0, 1, 2] rfl
        have hD9 := hD.sub (ws' := [(h0, .inr (2, [.ref eh, .ref dh, .int tk_4, .int st_5, .int en_6, .long dr])), (eh, .inr (5, [.int ts, .ref q0])), (q0, .inl (c0, 120, .inl f0)), (dh, .inr (4, [.int sh, w1, w2, w3, .ref q3, .ref q4, w6, w7, w8])), (q3, .inl (c3, 4, .inl f3)), (q4, .inl (c4, 4, .inl f4))]) [3, 4, 5, 0, 1, 2] (by decide) rfl
        have hK9 := hK.sub (tys' := [(c0, .int), (c3, .int), (c4, .int)]) [0, 1, 2] rfl
        exact W.zret (v := (0 : Int32)) hx hb hr (by decide) (fun t ht hW => ⟨⟨(0 : Int32), (), rfl, (by first | omega | decide | (simp only [fa_lt, fa_le, fa_eq, and_true, true_and, and_false, false_and, not_true_eq_false, not_false_eq_true, li_0, li_1, li_2, li_3, li_4, li_5, li_6, li_7, li_8, li_9, li_10, li_12, li_15, li_16, li_20, li_30, li_34, li_38, li_40, li_63, li_64, li_65, li_78, li_120, li_1000, li_4000, li_10000, li_11077, li_255, li_65535, li_m1, li_m2, li_m1000000001, li_m1000000002, li_m1000000003, li_m1000000004, li_m1000000005, li_m1000000006, li_m1000000007, or_true, true_or, or_false, false_or, implies_true, true_implies, false_implies] <;> omega)), tk_4, st_5, en_6, f3, f4, hq_7, by rw [ht]; exact hP9, va_K.moved hW.alike hK9, hD9⟩, hS.F ht⟩) hS.2.2 dX4_holdItem_46
  · skip
    have tc_2 : ¬ 0 ≤ r_1.toInt := fun h => c_2 ((fa_le _ _).mpr h)
    refine lv_iconst (v := 0) hx hb dX4_holdItem_12 (by decide) ?_
    have hP9 := hP.sub (ws' := [(h0, .inr (2, [.ref eh, .ref dh, .int tk, .int stt, .int en, .long dr])), (eh, .inr (5, [.int ts, .ref q0])), (q0, .inl (c0, 120, .inl f0)), (dh, .inr (4, [.int sh, w1, w2, w3, .ref q3, .ref q4, w6, w7, w8])), (q3, .inl (c3, 4, .inl f3)), (q4, .inl (c4, 4, .inl f4))]) [0, 1, 2, 3, 4, 5] rfl
    have hD9 := hD.sub (ws' := [(h0, .inr (2, [.ref eh, .ref dh, .int tk, .int stt, .int en, .long dr])), (eh, .inr (5, [.int ts, .ref q0])), (q0, .inl (c0, 120, .inl f0)), (dh, .inr (4, [.int sh, w1, w2, w3, .ref q3, .ref q4, w6, w7, w8])), (q3, .inl (c3, 4, .inl f3)), (q4, .inl (c4, 4, .inl f4))]) [0, 1, 2, 3, 4, 5] (by decide) rfl
    have hK9 := hK.sub (tys' := [(c0, .int), (c3, .int), (c4, .int)]) [0, 1, 2] rfl
    exact W.zret (v := (0 : Int32)) hx hb hr (by decide) (fun t ht hW => ⟨⟨(0 : Int32), (), rfl, (by first | omega | decide | (simp only [fa_lt, fa_le, fa_eq, and_true, true_and, and_false, false_and, not_true_eq_false, not_false_eq_true, li_0, li_1, li_2, li_3, li_4, li_5, li_6, li_7, li_8, li_9, li_10, li_12, li_15, li_16, li_20, li_30, li_34, li_38, li_40, li_63, li_64, li_65, li_78, li_120, li_1000, li_4000, li_10000, li_11077, li_255, li_65535, li_m1, li_m2, li_m1000000001, li_m1000000002, li_m1000000003, li_m1000000004, li_m1000000005, li_m1000000006, li_m1000000007, or_true, true_or, or_false, false_or, implies_true, true_implies, false_implies] <;> omega)), tk, stt, en, f3, f4, (by first | omega | decide | (simp only [fa_lt, fa_le, fa_eq, and_true, true_and, and_false, false_and, not_true_eq_false, not_false_eq_true, li_0, li_1, li_2, li_3, li_4, li_5, li_6, li_7, li_8, li_9, li_10, li_12, li_15, li_16, li_20, li_30, li_34, li_38, li_40, li_63, li_64, li_65, li_78, li_120, li_1000, li_4000, li_10000, li_11077, li_255, li_65535, li_m1, li_m2, li_m1000000001, li_m1000000002, li_m1000000003, li_m1000000004, li_m1000000005, li_m1000000006, li_m1000000007, or_true, true_or, or_false, false_or, implies_true, true_implies, false_implies] <;> omega)), by rw [ht]; exact hP9, va_K.moved hW.alike hK9, hD9⟩, hS.F ht⟩) hS.2.2 dX4_holdItem_13

def w_q_item : List Cond := .code yX4_item cX4_item 2 (some .boolean) :: (([.methodLink RX4 67 yX4_kindNamed, .instanceMethod yX4_kindNamed, .selects RX4 yX4_kindNamed yX4_kindNamed, .initialized RX4, .code yX4_kindNamed cX4_kindNamed 1 (some .int), .methodLink RX4 76 yX4_isWord, .instanceMethod yX4_isWord, .selects RX4 yX4_isWord yX4_isWord, .code yX4_isWord cX4_isWord 3 (some .boolean), .fieldLink RX4 25 "LampShapes$Script" "token" "I", .fieldLink RX4 32 "LampShapes$Script" "end" "I", .fieldLink RX4 29 "LampShapes$Script" "start" "I", .methodLink RX4 57 yJ0_length_8abf5, .instanceMethod yJ0_length_8abf5, .selects RJ0 yJ0_length_8abf5 yJ0_length_8abf5, .initialized RJ0, .code yJ0_length_8abf5 cJ0_length_8abf5 1 (some .int), .fieldLink RJ0 9 "java/lang/String" "value" "[B", .methodLink RJ0 335 yJ0_coder_7d493, .instanceMethod yJ0_coder_7d493, .selects RJ0 yJ0_coder_7d493 yJ0_coder_7d493, .code yJ0_coder_7d493 cJ0_coder_7d493 1 (some .byte), .fieldLink RJ0 38 "java/lang/String" "COMPACT_STRINGS" "Z", .fieldLink RJ0 15 "java/lang/String" "coder" "B", .fieldLink RX4 12 "LampShapes$Script" "tape" "LLampShapes$Tape;", .methodLink RX4 63 yJ0_charAt_5068e, .instanceMethod yJ0_charAt_5068e, .selects RJ0 yJ0_charAt_5068e yJ0_charAt_5068e, .code yJ0_charAt_5068e cJ0_charAt_5068e 2 (some .char), .methodLink RJ0 492 yJ0_isLatin1_aae02, .instanceMethod yJ0_isLatin1_aae02, .selects RJ0 yJ0_isLatin1_aae02 yJ0_isLatin1_aae02, .code yJ0_isLatin1_aae02 cJ0_isLatin1_aae02 1 (some .boolean), .methodLink RJ0 495 yJ1_charAt_3b067, .static yJ1_charAt_3b067, .initialized RJ1, .code yJ1_charAt_3b067 cJ1_charAt_3b067 2 (some .char), .methodLink RJ1 9 yJ0_checkIndex_df160, .static yJ0_checkIndex_df160, .code yJ0_checkIndex_df160 cJ0_checkIndex_df160 2 none, .fieldLink RJ0 1053 "jdk/internal/util/Preconditions" "SIOOBE_FORMATTER" "Ljava/util/function/BiFunction;", .methodLink RJ0 1059 yJ3_checkIndex_8e157, .static yJ3_checkIndex_8e157, .initialized RJ3, .code yJ3_checkIndex_8e157 cJ3_checkIndex_8e157 3 (some .int), .methodLink RJ0 498 yJ2_charAt_3b067, .static yJ2_charAt_3b067, .initialized RJ2, .code yJ2_charAt_3b067 cJ2_charAt_3b067 2 (some .char), .methodLink RJ2 67 yJ2_checkIndex_2214a, .static yJ2_checkIndex_2214a, .code yJ2_checkIndex_2214a cJ2_checkIndex_2214a 2 none, .methodLink RJ2 48 yJ2_length_9d52b, .static yJ2_length_9d52b, .code yJ2_length_9d52b cJ2_length_9d52b 1 (some .int), .methodLink RJ2 414 yJ0_checkIndex_df160, .methodLink RJ2 71 yJ2_getChar_3b067, .static yJ2_getChar_3b067, .code yJ2_getChar_3b067 cJ2_getChar_3b067 2 (some .char), .fieldLink RJ2 44 "java/lang/StringUTF16" "$assertionsDisabled" "Z", .fieldLink RJ2 59 "java/lang/StringUTF16" "HI_BYTE_SHIFT" "I", .fieldLink RJ2 63 "java/lang/StringUTF16" "LO_BYTE_SHIFT" "I", .methodLink RX4 95 yX4_passes, .instanceMethod yX4_passes, .selects RX4 yX4_passes yX4_passes, .code yX4_passes cX4_passes 2 (some .boolean), .methodLink RX4 39 yX4_advance, .instanceMethod yX4_advance, .selects RX4 yX4_advance yX4_advance, .code yX4_advance cX4_advance 1 none, .methodLink RX4 53 yX4_sortOf, .static yX4_sortOf, .code yX4_sortOf cX4_sortOf 1 (some .int), .fieldLink RX4 21 "LampShapes$Script" "stage" "LLampShapes$Stage;", .methodLink RX4 98 yX6_emptyHands, .instanceMethod yX6_emptyHands, .selects RX6 yX6_emptyHands yX6_emptyHands, .initialized RX6, .code yX6_emptyHands cX6_emptyHands 2 none, .methodLink RX6 74 yX6_release, .instanceMethod yX6_release, .selects RX6 yX6_release yX6_release, .code yX6_release cX6_release 2 none, .methodLink RX6 70 yX6_take, .instanceMethod yX6_take, .selects RX6 yX6_take yX6_take, .code yX6_take cX6_take 4 none, .fieldLink RX6 25 "LampShapes$Stage" "heldShapes" "[I", .fieldLink RX6 28 "LampShapes$Stage" "heldPlacings" "[I", .methodLink RX4 90 yX4_tornItem, .instanceMethod yX4_tornItem, .selects RX4 yX4_tornItem yX4_tornItem, .code yX4_tornItem cX4_tornItem 2 (some .boolean), .methodLink RX4 135 yX4_value, .instanceMethod yX4_value, .selects RX4 yX4_value yX4_value, .code yX4_value cX4_value 3 (some .int), .methodLink RX4 167 Lib.Math.min.name, .static Lib.Math.min.name, .initialized "java/lang/Math", .code Lib.Math.min.name Lib.Math.min.code 2 (some .int), .methodLink RX4 138 yX6_hasShape, .instanceMethod yX6_hasShape, .selects RX6 yX6_hasShape yX6_hasShape, .code yX6_hasShape cX6_hasShape 2 (some .boolean), .fieldLink RX6 9 "LampShapes$Stage" "shapes" "I", .methodLink RX4 163 yX6_setTorn, .instanceMethod yX6_setTorn, .selects RX6 yX6_setTorn yX6_setTorn, .code yX6_setTorn cX6_setTorn 3 none, .fieldLink RX6 22 "LampShapes$Stage" "tornShapes" "I", .methodLink RX4 85 yX4_holdItem, .instanceMethod yX4_holdItem, .selects RX4 yX4_holdItem yX4_holdItem, .code yX4_holdItem cX4_holdItem 7 (some .boolean), .methodLink RX4 132 yX6_freeHold, .instanceMethod yX6_freeHold, .selects RX6 yX6_freeHold yX6_freeHold, .code yX6_freeHold cX6_freeHold 1 (some .int), .methodLink RX6 66 yX6_holdOf, .instanceMethod yX6_holdOf, .selects RX6 yX6_holdOf yX6_holdOf, .code yX6_holdOf cX6_holdOf 3 (some .int), .methodLink RX4 141 yX6_holdOf, .methodLink RX4 146 yX4_numberWithin, .instanceMethod yX4_numberWithin, .selects RX4 yX4_numberWithin yX4_numberWithin, .code yX4_numberWithin cX4_numberWithin 4 (some .int), .methodLink RX4 153 yX1_placingAt, .static yX1_placingAt, .initialized RX1, .code yX1_placingAt cX1_placingAt 3 (some .int), .methodLink RX4 159 yX6_take, .methodLink RX4 80 yX4_sceneItem, .instanceMethod yX4_sceneItem, .selects RX4 yX4_sceneItem yX4_sceneItem, .code yX4_sceneItem cX4_sceneItem 1 (some .boolean), .methodLink RX4 125 yX6_hasRoomForScene, .instanceMethod yX6_hasRoomForScene, .selects RX6 yX6_hasRoomForScene yX6_hasRoomForScene, .code yX6_hasRoomForScene cX6_hasRoomForScene 1 (some .boolean), .fieldLink RX6 31 "LampShapes$Stage" "scenes" "I", .methodLink RX4 118 yX4_drawnRows, .instanceMethod yX4_drawnRows, .selects RX4 yX4_drawnRows yX4_drawnRows, .code yX4_drawnRows cX4_drawnRows 4 (some .boolean), .fieldLink RX4 35 "LampShapes$Script" "drawn" "J", .methodLink RX4 128 yX6_addScene, .instanceMethod yX6_addScene, .selects RX6 yX6_addScene yX6_addScene, .code yX6_addScene cX6_addScene 3 (some .int), .fieldLink RX6 34 "LampShapes$Stage" "pictures" "[J", .methodLink RX4 70 yX4_shapeItem, .instanceMethod yX4_shapeItem, .selects RX4 yX4_shapeItem yX4_shapeItem, .code yX4_shapeItem cX4_shapeItem 2 (some .boolean), .methodLink RX4 115 yX6_hasRoomForShape, .instanceMethod yX6_hasRoomForShape, .selects RX6 yX6_hasRoomForShape yX6_hasRoomForShape, .code yX6_hasRoomForShape cX6_hasRoomForShape 1 (some .boolean), .methodLink RX4 121 yX6_addShape, .instanceMethod yX6_addShape, .selects RX6 yX6_addShape yX6_addShape, .code yX6_addShape cX6_addShape 3 (some .int), .fieldLink RX6 15 "LampShapes$Stage" "kinds" "[I", .fieldLink RX6 19 "LampShapes$Stage" "points" "[I"] : List Cond) ++ wsX40 ++ wsX70 ++ wsX60)
set_option maxRecDepth 20000 in
theorem g_q_item_q_kindNamed_67 : GoodIn w_q_item (wsV RX4 67 RX4 yX4_kindNamed w_q_kindNamed) := goodIn_r _ [1, 2, 3, 4, 5, 6, 7, 8, 4, 9, 10, 11, 12, 13, 14, 15, 16, 17, 18, 19, 20, 21, 22, 23, 24, 25, 26, 27, 28, 29, 30, 31, 32, 33, 34, 35, 36, 37, 38, 39, 40, 41, 42, 43, 44, 45, 46, 47, 48, 49, 50, 51, 52, 53, 54, 55, 56, 57, 58, 59, 60, 61, 62, 167, 168, 169, 170, 171, 172, 173, 174] rfl (by decide +kernel)
set_option maxRecDepth 20000 in
theorem g_q_item_q_isWord_76 : GoodIn w_q_item (wsV RX4 76 RX4 yX4_isWord w_q_isWord) := goodIn_r _ [6, 7, 8, 4, 9, 10, 11, 12, 13, 14, 15, 16, 17, 18, 19, 20, 21, 22, 23, 24, 25, 26, 27, 28, 29, 30, 31, 32, 33, 34, 35, 36, 37, 38, 39, 40, 41, 42, 43, 44, 45, 46, 47, 48, 49, 50, 51, 52, 53, 54, 55, 56, 57, 58, 59, 60, 61, 62, 167, 168, 169, 170, 171, 172, 173, 174] rfl (by decide +kernel)
set_option maxRecDepth 20000 in
theorem g_q_item_q_passes_95 : GoodIn w_q_item (wsV RX4 95 RX4 yX4_passes w_q_passes) := goodIn_r _ [63, 64, 65, 4, 66, 6, 7, 8, 4, 9, 10, 11, 12, 13, 14, 15, 16, 17, 18, 19, 20, 21, 22, 23, 24, 25, 26, 27, 28, 29, 30, 31, 32, 33, 34, 35, 36, 37, 38, 39, 40, 41, 42, 43, 44, 45, 46, 47, 48, 49, 50, 51, 52, 53, 54, 55, 56, 57, 58, 59, 60, 61, 62, 67, 68, 69, 70, 71, 72, 73, 167, 168, 169, 170, 171, 172, 173, 174] rfl (by decide +kernel)
set_option maxRecDepth 20000 in
theorem g_q_item_s_emptyHands_98 : GoodIn w_q_item (wsV RX4 98 RX6 yX6_emptyHands w_s_emptyHands) := goodIn_r _ [75, 76, 77, 78, 79, 80, 81, 82, 78, 83, 84, 85, 86, 87, 88, 89, 175, 176, 177, 178, 179, 180, 181, 182, 183] rfl (by decide +kernel)
set_option maxRecDepth 20000 in
theorem g_q_item_q_tornItem_90 : GoodIn w_q_item (wsV RX4 90 RX4 yX4_tornItem w_q_tornItem) := goodIn_r _ [90, 91, 92, 4, 93, 67, 68, 69, 4, 70, 11, 12, 25, 71, 72, 73, 10, 94, 95, 96, 97, 98, 99, 100, 101, 74, 102, 103, 104, 78, 105, 106, 107, 108, 109, 110, 111, 167, 168, 169, 170, 171, 172, 173, 174, 175, 176, 177, 178, 179, 180, 181, 182, 183] rfl (by decide +kernel)
set_option maxRecDepth 20000 in
theorem g_q_item_q_holdItem_85 : GoodIn w_q_item (wsV RX4 85 RX4 yX4_holdItem w_q_holdItem) := goodIn_r _ [112, 113, 114, 4, 115, 74, 116, 117, 118, 78, 119, 120, 121, 122, 123, 88, 67, 68, 69, 4, 70, 11, 12, 25, 71, 72, 73, 10, 94, 95, 96, 97, 98, 99, 100, 101, 102, 103, 104, 105, 106, 124, 63, 64, 65, 66, 6, 7, 8, 9, 13, 14, 15, 16, 17, 18, 19, 20, 21, 22, 23, 24, 26, 27, 28, 29, 30, 31, 32, 33, 34, 35, 36, 37, 38, 39, 40, 41, 42, 43, 44, 45, 46, 47, 48, 49, 50, 51, 52, 53, 54, 55, 56, 57, 58, 59, 60, 61, 62, 125, 126, 127, 128, 129, 130, 131, 132, 133, 85, 86, 87, 89, 167, 168, 169, 170, 171, 172, 175, 176, 177, 178, 179, 180, 181, 182, 183, 173, 174] rfl (by decide +kernel)
set_option maxRecDepth 20000 in
theorem g_q_item_q_sceneItem_80 : GoodIn w_q_item (wsV RX4 80 RX4 yX4_sceneItem w_q_sceneItem) := goodIn_r _ [134, 135, 136, 4, 137, 74, 138, 139, 140, 78, 141, 142, 67, 68, 69, 4, 70, 11, 12, 25, 71, 72, 73, 10, 143, 144, 145, 146, 147, 148, 149, 150, 151, 152, 167, 168, 169, 170, 171, 172, 175, 176, 177, 178, 179, 180, 181, 182, 183, 173, 174] rfl (by decide +kernel)
set_option maxRecDepth 20000 in
theorem g_q_item_q_shapeItem_70 : GoodIn w_q_item (wsV RX4 70 RX4 yX4_shapeItem w_q_shapeItem) := goodIn_r _ [153, 154, 155, 4, 156, 74, 157, 158, 159, 78, 160, 106, 67, 68, 69, 4, 70, 11, 12, 25, 71, 72, 73, 10, 143, 144, 145, 146, 147, 161, 162, 163, 164, 165, 166, 167, 168, 169, 170, 171, 172, 175, 176, 177, 178, 179, 180, 181, 182, 183, 173, 174] rfl (by decide +kernel)
set_option maxHeartbeats 4000000 in
set_option maxRecDepth 100000 in
theorem q_item (l : Launch) (dC : Nat → ClassId) (dI : Nat → Nat → Nat) (ad : Nat → Nat) (h0 : Nat) (eh : Nat) (dh : Nat) (tk : Int32) (stt : Int32) (en : Int32) (dr : Int64) (ts : Int32) (q0 : Nat) (c0 : ClassId) (f0 : Nat → Int32) (sh : Int32) (q1 : Nat) (q2 : Nat) (tn : Int32) (q3 : Nat) (q4 : Nat) (sc : Int32) (q5 : Nat) (al : Int32) (c1 : ClassId) (f1 : Nat → Int32) (c2 : ClassId) (f2 : Nat → Int32) (c3 : ClassId) (f3 : Nat → Int32) (c4 : ClassId) (f4 : Nat → Int32) (c5 : ClassId) (f5 : Nat → Int64) (sz : Nat) (hts2 : 0 ≤ ts.toInt ∧ ts.toInt ≤ 120) (hse : 0 ≤ stt.toInt ∧ en.toInt ≤ ts.toInt ∧ stt.toInt ≤ en.toInt) (hsh : 0 ≤ sh.toInt ∧ sh.toInt ≤ 9) (hsc : 0 ≤ sc.toInt ∧ sc.toInt ≤ 7) : Met l yX4_item w_q_item ({ frames := 7, cells := 0, slots := 0, locals := 154 } : Room) (va_Pc [.ref h0] (preT dC dI ad [(c0, .int), (c1, .int), (c2, .int), (c3, .int), (c4, .int), (c5, .long)] [(h0, .inr (2, [.ref eh, .ref dh, .int tk, .int stt, .int en, .long dr])), (eh, .inr (5, [.int ts, .ref q0])), (q0, .inl (c0, 120, .inl f0)), (dh, .inr (4, [.int sh, .ref q1, .ref q2, .int tn, .ref q3, .ref q4, .int sc, .ref q5, .int al])), (q1, .inl (c1, 9, .inl f1)), (q2, .inl (c2, 9, .inl f2)), (q3, .inl (c3, 4, .inl f3)), (q4, .inl (c4, 4, .inl f4)), (q5, .inl (c5, 7, .inr (.inl f5)))] sz)) (va_Qi (fun (r : Int32) (_ : Unit) => r.toInt = 0 ∨ r.toInt = 1) (fun _ t => ∃ (tk2 : Int32), ∃ (st2 : Int32), ∃ (en2 : Int32), ∃ (dr2 : Int64), ∃ (sh2 : Int32), ∃ (tn2 : Int32), ∃ (sc2 : Int32), ∃ (g1 : Nat → Int32), ∃ (g2 : Nat → Int32), ∃ (g3 : Nat → Int32), ∃ (g4 : Nat → Int32), ∃ (g5 : Nat → Int64), (0 ≤ st2.toInt ∧ st2.toInt ≤ en2.toInt ∧ en2.toInt ≤ ts.toInt) ∧ (0 ≤ sh2.toInt ∧ sh2.toInt ≤ 9) ∧ (0 ≤ sc2.toInt ∧ sc2.toInt ≤ 7) ∧ va_P (dC, dI) vwCl [(h0, .inr (2, [.ref eh, .ref dh, .int tk2, .int st2, .int en2, .long dr2])), (eh, .inr (5, [.int ts, .ref q0])), (q0, .inl (c0, 120, .inl f0)), (dh, .inr (4, [.int sh2, .ref q1, .ref q2, .int tn2, .ref q3, .ref q4, .int sc2, .ref q5, .int al])), (q1, .inl (c1, 9, .inl g1)), (q2, .inl (c2, 9, .inl g2)), (q3, .inl (c3, 4, .inl g3)), (q4, .inl (c4, 4, .inl g4)), (q5, .inl (c5, 7, .inr (.inl g5)))] t.heap ∧ va_K (dC, dI) vwCl [(c0, .int), (c1, .int), (c2, .int), (c3, .int), (c4, .int), (c5, .long)] t ∧ va_D (va_A [(h0, .inr (2, [.ref eh, .ref dh, .int tk, .int stt, .int en, .long dr])), (eh, .inr (5, [.int ts, .ref q0])), (q0, .inl (c0, 120, .inl f0)), (dh, .inr (4, [.int sh, .ref q1, .ref q2, .int tn, .ref q3, .ref q4, .int sc, .ref q5, .int al])), (q1, .inl (c1, 9, .inl f1)), (q2, .inl (c2, 9, .inl f2)), (q3, .inl (c3, 4, .inl f3)), (q4, .inl (c4, 4, .inl f4)), (q5, .inl (c5, 7, .inr (.inl f5)))] sz) [(h0, .inr (2, [.ref eh, .ref dh, .int tk2, .int st2, .int en2, .long dr2])), (eh, .inr (5, [.int ts, .ref q0])), (q0, .inl (c0, 120, .inl f0)), (dh, .inr (4, [.int sh2, .ref q1, .ref q2, .int tn2, .ref q3, .ref q4, .int sc2, .ref q5, .int al])), (q1, .inl (c1, 9, .inl g1)), (q2, .inl (c2, 9, .inl g2)), (q3, .inl (c3, 4, .inl g3)), (q4, .inl (c4, 4, .inl g4)), (q5, .inl (c5, 7, .inr (.inl g5)))]) (va_A [(h0, .inr (2, [.ref eh, .ref dh, .int tk, .int stt, .int en, .long dr])), (eh, .inr (5, [.int ts, .ref q0])), (q0, .inl (c0, 120, .inl f0)), (dh, .inr (4, [.int sh, .ref q1, .ref q2, .int tn, .ref q3, .ref q4, .int sc, .ref q5, .int al])), (q1, .inl (c1, 9, .inl f1)), (q2, .inl (c2, 9, .inl f2)), (q3, .inl (c3, 4, .inl f3)), (q4, .inl (c4, 4, .inl f4)), (q5, .inl (c5, 7, .inr (.inl f5)))] sz)) 0 0 (va_A [(h0, .inr (2, [.ref eh, .ref dh, .int tk, .int stt, .int en, .long dr])), (eh, .inr (5, [.int ts, .ref q0])), (q0, .inl (c0, 120, .inl f0)), (dh, .inr (4, [.int sh, .ref q1, .ref q2, .int tn, .ref q3, .ref q4, .int sc, .ref q5, .int al])), (q1, .inl (c1, 9, .inl f1)), (q2, .inl (c2, 9, .inl f2)), (q3, .inl (c3, 4, .inl f3)), (q4, .inl (c4, 4, .inl f4)), (q5, .inl (c5, 7, .inr (.inl f5)))] sz) := by
  refine Met.ofW (cc := cX4_item) (maxL := 2) (ret := (some .boolean)) (by decide) rfl ?_
  intro p e s m args below meth c s₁ B hml hv
  obtain ⟨rfl, ⟨hsz, hP, hK, hD0, hev⟩, hsf⟩ := hv
  have hx := B.exec
  have hb := B.bytes
  have hr := B.returns
  have hts := atoms_spec (ws := w_q_item) B.pre
  have hown : s.vm.findClass RX4 = some m.cls := findClass_of_methodNamed B.named
  have hlocks := B.notSynchronized
  have inX4 : ∀ w ∈ wsX40, w ∈ w_q_item := fun w h => List.mem_cons_of_mem _ (List.mem_append_left _ (List.mem_append_left _ (List.mem_append_right _ h)))
  have inX7 : ∀ w ∈ wsX70, w ∈ w_q_item := fun w h => List.mem_cons_of_mem _ (List.mem_append_left _ (List.mem_append_right _ h))
  have inX6 : ∀ w ∈ wsX60, w ∈ w_q_item := fun w h => List.mem_cons_of_mem _ (List.mem_append_right _ h)
  subst hsz
  have hD := hD0.self (sz := s.heap.size)
  generalize hAe : va_A [(h0, .inr (2, [.ref eh, .ref dh, .int tk, .int stt, .int en, .long dr])), (eh, .inr (5, [.int ts, .ref q0])), (q0, .inl (c0, 120, .inl f0)), (dh, .inr (4, [.int sh, .ref q1, .ref q2, .int tn, .ref q3, .ref q4, .int sc, .ref q5, .int al])), (q1, .inl (c1, 9, .inl f1)), (q2, .inl (c2, 9, .inl f2)), (q3, .inl (c3, 4, .inl f3)), (q4, .inl (c4, 4, .inl f4)), (q5, .inl (c5, 7, .inr (.inl f5)))] s.heap.size = A at hD hsf ⊢
  have hA : ∀ q : Nat, s.heap.size ≤ q → A q := fun q h => by rw [← hAe]; exact Or.inr h
  have hS : va_S A s.heap s.heap [] := va_S.rf
  have hP : va_P (dC, dI) vwCl [(h0, .inr (2, [.ref eh, .ref dh, .int tk, .int stt, .int en, .long dr])), (eh, .inr (5, [.int ts, .ref q0])), (q0, .inl (c0, 120, .inl f0)), (dh, .inr (4, [.int sh, .ref q1, .ref q2, .int tn, .ref q3, .ref q4, .int sc, .ref q5, .int al])), (q1, .inl (c1, 9, .inl f1)), (q2, .inl (c2, 9, .inl f2)), (q3, .inl (c3, 4, .inl f3)), (q4, .inl (c4, 4, .inl f4)), (q5, .inl (c5, 7, .inr (.inl f5)))] s.heap := hP
  have hl := lv_entry ([.ref h0]) (n := 2) (Nat.le_of_ble_eq_true rfl)
  rw [lg_entry_eq]
  generalize (lg_sl ([.ref h0]) ++ List.replicate (2 - (lg_sl ([.ref h0])).length) Slot.unset).toArray = ls at hl ⊢
  have hl : lv_has ls 2 [(0, .ref h0)] := hl
  refine lv_aload_n hx hb dX4_item_0 rfl (lv_at hl 0 rfl) ?_
  have hPc := hP.sub (ws' := [(h0, .inr (2, [.ref eh, .ref dh, .int tk, .int stt, .int en, .long dr])), (eh, .inr (5, [.int ts, .ref q0])), (q0, .inl (c0, 120, .inl f0))]) [0, 1, 2] rfl
  have hKc := hK.sub (tys' := [(c0, .int)]) [0] rfl
  refine vp_callSi (W.runV (As := []) (rest := []) ⟨hx, hb, hml, hown, hts⟩ (q_kindNamed l dC dI ad h0 eh dh tk stt en dr ts q0 c0 f0 hts2 hse) (cwV 0 hts g_q_item_q_kindNamed_67 rfl rfl rfl (by decide +kernel) ⟨(Nat.le_of_ble_eq_true rfl), (Nat.le_of_ble_eq_true rfl)⟩) ⟨preST_blind, va_recv hKc hPc (ci := 2) (q0 := 0) rfl rfl, fun U hU hW => ⟨rfl, preS_at hU hW hPc hKc hev, sf_at hsf hS (fun _ h => h.elim) hU hW⟩⟩ rfl rfl hl.1 rfl (lv_room (Nat.le_of_ble_eq_true rfl)) dX4_item_1 ⟨(Nat.le_of_ble_eq_true rfl), (Nat.le_of_ble_eq_true rfl)⟩) (fun r_1 hw => ?_)
  have hr_1 : (-1) ≤ r_1.toInt ∧ r_1.toInt ≤ 5 := hw
  refine lv_istore_n (lv' := [(1, .int r_1), (0, .ref h0)]) hx hb dX4_item_4 rfl hl (by decide) rfl (fun ls hl => ?_)
  refine lv_iload_n hx hb dX4_item_5 rfl (lv_at hl 0 rfl) ?_
  refine lv_if_lt (tgt := 15) hx hb dX4_item_6 (by decide) (fun c_2 => ?_) (fun c_2 => ?_)
  · skip
    have tc_2 : r_1.toInt < 0 := (fa_lt _ _).mp c_2
    refine lv_aload_n hx hb dX4_item_15 rfl (lv_at hl 1 rfl) ?_
    refine va_ldcS (tx := "scene") (q := ad 6) hx hb hown (ev_str hev 6 rfl) dX4_item_16 ?_
    have hPc := hP.sub (ws' := [(h0, .inr (2, [.ref eh, .ref dh, .int tk, .int stt, .int en, .long dr])), (eh, .inr (5, [.int ts, .ref q0])), (q0, .inl (c0, 120, .inl f0))]) [0, 1, 2] rfl
    have hKc := hK.sub (tys' := [(c0, .int)]) [0] rfl
    refine vp_callSi (W.runV (As := [.ref (ad 6)]) (rest := []) ⟨hx, hb, hml, hown, hts⟩ (q_isWord l dC dI ad h0 6 eh dh tk stt en dr ts q0 c0 f0 (by decide) hts2 hse) (cwV 1 hts g_q_item_q_isWord_76 rfl rfl rfl (by decide +kernel) ⟨(Nat.le_of_ble_eq_true rfl), (Nat.le_of_ble_eq_true rfl)⟩) ⟨preST_blind, va_recv hKc hPc (ci := 2) (q0 := 0) rfl rfl, fun U hU hW => ⟨rfl, preS_at hU hW hPc hKc hev, sf_at hsf hS (fun _ h => h.elim) hU hW⟩⟩ rfl rfl hl.1 rfl (lv_room (Nat.le_of_ble_eq_true rfl)) dX4_item_18 ⟨(Nat.le_of_ble_eq_true rfl), (Nat.le_of_ble_eq_true rfl)⟩) (fun r_3 hw => ?_)
    have hr_3 : r_3.toInt = 0 ∨ r_3.toInt = 1 := hw
    refine lv_if_eq (tgt := 29) hx hb dX4_item_21 (by decide) (fun c_4 => ?_) (fun c_4 => ?_)
    · skip
      have tc_4 : r_3.toInt = 0 := (fa_eq _ _).mp c_4
      refine lv_aload_n hx hb dX4_item_29 rfl (lv_at hl 1 rfl) ?_
      refine va_ldcS (tx := "hold") (q := ad 7) hx hb hown (ev_str hev 7 rfl) dX4_item_30 ?_
      have hPc := hP.sub (ws' := [(h0, .inr (2, [.ref eh, .ref dh, .int tk, .int stt, .int en, .long dr])), (eh, .inr (5, [.int ts, .ref q0])), (q0, .inl (c0, 120, .inl f0))]) [0, 1, 2] rfl
      have hKc := hK.sub (tys' := [(c0, .int)]) [0] rfl
      refine vp_callSi (W.runV (As := [.ref (ad 7)]) (rest := []) ⟨hx, hb, hml, hown, hts⟩ (q_isWord l dC dI ad h0 7 eh dh tk stt en dr ts q0 c0 f0 (by decide) hts2 hse) (cwV 1 hts g_q_item_q_isWord_76 rfl rfl rfl (by decide +kernel) ⟨(Nat.le_of_ble_eq_true rfl), (Nat.le_of_ble_eq_true rfl)⟩) ⟨preST_blind, va_recv hKc hPc (ci := 2) (q0 := 0) rfl rfl, fun U hU hW => ⟨rfl, preS_at hU hW hPc hKc hev, sf_at hsf hS (fun _ h => h.elim) hU hW⟩⟩ rfl rfl hl.1 rfl (lv_room (Nat.le_of_ble_eq_true rfl)) dX4_item_32 ⟨(Nat.le_of_ble_eq_true rfl), (Nat.le_of_ble_eq_true rfl)⟩) (fun r_5 hw => ?_)
      have hr_5 : r_5.toInt = 0 ∨ r_5.toInt = 1 := hw
      refine lv_if_eq (tgt := 43) hx hb dX4_item_35 (by decide) (fun c_6 => ?_) (fun c_6 => ?_)
      · skip
        have tc_6 : r_5.toInt = 0 := (fa_eq _ _).mp c_6
        refine lv_aload_n hx hb dX4_item_43 rfl (lv_at hl 1 rfl) ?_
        refine va_ldcS (tx := "torn") (q := ad 11) hx hb hown (ev_str hev 11 rfl) dX4_item_44 ?_
        have hPc := hP.sub (ws' := [(h0, .inr (2, [.ref eh, .ref dh, .int tk, .int stt, .int en, .long dr])), (eh, .inr (5, [.int ts, .ref q0])), (q0, .inl (c0, 120, .inl f0))]) [0, 1, 2] rfl
        have hKc := hK.sub (tys' := [(c0, .int)]) [0] rfl
        refine vp_callSi (W.runV (As := [.ref (ad 11)]) (rest := []) ⟨hx, hb, hml, hown, hts⟩ (q_isWord l dC dI ad h0 11 eh dh tk stt en dr ts q0 c0 f0 (by decide) hts2 hse) (cwV 1 hts g_q_item_q_isWord_76 rfl rfl rfl (by decide +kernel) ⟨(Nat.le_of_ble_eq_true rfl), (Nat.le_of_ble_eq_true rfl)⟩) ⟨preST_blind, va_recv hKc hPc (ci := 2) (q0 := 0) rfl rfl, fun U hU hW => ⟨rfl, preS_at hU hW hPc hKc hev, sf_at hsf hS (fun _ h => h.elim) hU hW⟩⟩ rfl rfl hl.1 rfl (lv_room (Nat.le_of_ble_eq_true rfl)) dX4_item_46 ⟨(Nat.le_of_ble_eq_true rfl), (Nat.le_of_ble_eq_true rfl)⟩) (fun r_7 hw => ?_)
        have hr_7 : r_7.toInt = 0 ∨ r_7.toInt = 1 := hw
        refine lv_if_eq (tgt := 57) hx hb dX4_item_49 (by decide) (fun c_8 => ?_) (fun c_8 => ?_)
        · skip
          have tc_8 : r_7.toInt = 0 := (fa_eq _ _).mp c_8
          refine lv_aload_n hx hb dX4_item_57 rfl (lv_at hl 1 rfl) ?_
          refine va_ldcS (tx := "drop") (q := ad 12) hx hb hown (ev_str hev 12 rfl) dX4_item_58 ?_
          have hPc := hP.sub (ws' := [(h0, .inr (2, [.ref eh, .ref dh, .int tk, .int stt, .int en, .long dr])), (eh, .inr (5, [.int ts, .ref q0])), (q0, .inl (c0, 120, .inl f0))]) [0, 1, 2] rfl
          have hKc := hK.sub (tys' := [(c0, .int)]) [0] rfl
          have hDc := hD.sub (ws' := [(h0, .inr (2, [.ref eh, .ref dh, .int tk, .int stt, .int en, .long dr])), (eh, .inr (5, [.int ts, .ref q0])), (q0, .inl (c0, 120, .inl f0))]) [0, 1, 2] (by decide) rfl
          have hFc := va_free (wc := [(h0, .inr (2, [.ref eh, .ref dh, .int tk, .int stt, .int en, .long dr])), (eh, .inr (5, [.int ts, .ref q0])), (q0, .inl (c0, 120, .inl f0))]) hD hS hA [0, 1, 2] rfl
          refine va_calli (va_runV (As := [.ref (ad 12)]) (rest := []) ⟨hx, hb, hml, hown, hts⟩ (q_passes l dC dI ad h0 12 eh dh tk stt en dr ts q0 c0 f0 s.heap.size (by decide) hts2 hse) (cwV 1 hts g_q_item_q_passes_95 rfl rfl rfl (by decide +kernel) ⟨(Nat.le_of_ble_eq_true rfl), (Nat.le_of_ble_eq_true rfl)⟩) ⟨preT_blind, va_recv hKc hPc (ci := 2) (q0 := 0) rfl rfl, fun U hU hW => ⟨rfl, preM_at hU hW hPc hKc hDc hev, sf_at hsf hS hFc hU hW⟩⟩ rfl rfl hl.1 rfl (lv_room (Nat.le_of_ble_eq_true rfl)) dX4_item_60 ⟨(Nat.le_of_ble_eq_true rfl), (Nat.le_of_ble_eq_true rfl)⟩) hS (fun q _ h => hFc q h) hFc (fun r_9 u t H1 locs ht hvm hw hB hz1 hk1 hS => ?_)
          obtain ⟨tk_10, st_11, en_12, hq_13, hP1, hK1, hD1⟩ := hB
          rw [ht] at hP1
          have hK1 := va_K.moved hvm.symm hK1
          obtain ⟨hP, hD⟩ := va_join (wr := [(dh, .inr (4, [.int sh, .ref q1, .ref q2, .int tn, .ref q3, .ref q4, .int sc, .ref q5, .int al])), (q1, .inl (c1, 9, .inl f1)), (q2, .inl (c2, 9, .inl f2)), (q3, .inl (c3, 4, .inl f3)), (q4, .inl (c4, 4, .inl f4)), (q5, .inl (c5, 7, .inr (.inl f5)))]) (w1 := [(h0, .inr (2, [.ref eh, .ref dh, .int tk_10, .int st_11, .int en_12, .long dr])), (eh, .inr (5, [.int ts, .ref q0])), (q0, .inl (c0, 120, .inl f0))]) hP hD [0, 1, 2] [3, 4, 5, 6, 7, 8] rfl rfl (by decide) (by decide) hk1 hFc hP1 hD1
          generalize H1 = H at hP hS ⊢
          have hP : va_P (dC, dI) vwCl [(dh, .inr (4, [.int sh, .ref q1, .ref q2, .int tn, .ref q3, .ref q4, .int sc, .ref q5, .int al])), (q1, .inl (c1, 9, .inl f1)), (q2, .inl (c2, 9, .inl f2)), (q3, .inl (c3, 4, .inl f3)), (q4, .inl (c4, 4, .inl f4)), (q5, .inl (c5, 7, .inr (.inl f5))), (h0, .inr (2, [.ref eh, .ref dh, .int tk_10, .int st_11, .int en_12, .long dr])), (eh, .inr (5, [.int ts, .ref q0])), (q0, .inl (c0, 120, .inl f0))] H := hP
          have hD : va_D A [(dh, .inr (4, [.int sh, .ref q1, .ref q2, .int tn, .ref q3, .ref q4, .int sc, .ref q5, .int al])), (q1, .inl (c1, 9, .inl f1)), (q2, .inl (c2, 9, .inl f2)), (q3, .inl (c3, 4, .inl f3)), (q4, .inl (c4, 4, .inl f4)), (q5, .inl (c5, 7, .inr (.inl f5))), (h0, .inr (2, [.ref eh, .ref dh, .int tk_10, .int st_11, .int en_12, .long dr])), (eh, .inr (5, [.int ts, .ref q0])), (q0, .inl (c0, 120, .inl f0))] := hD
          have hr_9 : r_9.toInt = 0 ∨ r_9.toInt = 1 := hw
          refine lv_if_eq (tgt := 75) hx hb dX4_item_63 (by decide) (fun c_14 => ?_) (fun c_14 => ?_)
          · skip
            have tc_14 : r_9.toInt = 0 := (fa_eq _ _).mp c_14
            refine lv_iconst (v := 0) hx hb dX4_item_75 (by decide) ?_
            have hP9 := hP.sub (ws' := [(h0, .inr (2, [.ref eh, .ref dh, .int tk_10, .int st_11, .int en_12, .long dr])), (eh, .inr (5, [.int ts, .ref q0])), (q0, .inl (c0, 120, .inl f0)), (dh, .inr (4, [.int sh, .ref q1, .ref q2, .int tn, .ref q3, .ref q4, .int sc, .ref q5, .int al])), (q1, .inl (c1, 9, .inl f1)), (q2, .inl (c2, 9, .inl f2)), (q3, .inl (c3, 4, .inl f3)), (q4, .inl (c4, 4, .inl f4)), (q5, .inl (c5, 7, .inr (.inl f5)))]) [6, 7, 8, 0, 1, 2, 3, 4, 5] rfl
            have hD9 := hD.sub (ws' := [(h0, .inr (2, [.ref eh, .ref dh, .int tk_10, .int st_11, .int en_12, .long dr])), (eh, .inr (5, [.int ts, .ref q0])), (q0, .inl (c0, 120, .inl f0)), (dh, .inr (4, [.int sh, .ref q1, .ref q2, .int tn, .ref q3, .ref q4, .int sc, .ref q5, .int al])), (q1, .inl (c1, 9, .inl f1)), (q2, .inl (c2, 9, .inl f2)), (q3, .inl (c3, 4, .inl f3)), (q4, .inl (c4, 4, .inl f4)), (q5, .inl (c5, 7, .inr (.inl f5)))]) [6, 7, 8, 0, 1, 2, 3, 4, 5] (by decide) rfl
            have hK9 := hK.sub (tys' := [(c0, .int), (c1, .int), (c2, .int), (c3, .int), (c4, .int), (c5, .long)]) [0, 1, 2, 3, 4, 5] rfl
            exact W.zret (v := (0 : Int32)) hx hb hr (by decide) (fun t ht hW => ⟨⟨(0 : Int32), (), rfl, (by first | omega | decide | (simp only [fa_lt, fa_le, fa_eq, and_true, true_and, and_false, false_and, not_true_eq_false, not_false_eq_true, li_0, li_1, li_2, li_3, li_4, li_5, li_6, li_7, li_8, li_9, li_10, li_12, li_15, li_16, li_20, li_30, li_34, li_38, li_40, li_63, li_64, li_65, li_78, li_120, li_1000, li_4000, li_10000, li_11077, li_255, li_65535, li_m1, li_m2, li_m1000000001, li_m1000000002, li_m1000000003, li_m1000000004, li_m1000000005, li_m1000000006, li_m1000000007, or_true, true_or, or_false, false_or, implies_true, true_implies, false_implies] <;> omega)), tk_10, st_11, en_12, dr, sh, tn, sc, f1, f2, f3, f4, f5, hq_13, hsh, hsc, by rw [ht]; exact hP9, va_K.moved hW.alike hK9, hD9⟩, hS.F ht⟩) hS.2.2 dX4_item_76
          · skip
            have tc_14 : ¬ r_9.toInt = 0 := fun h => c_14 ((fa_eq _ _).mpr h)
            refine lv_aload_n hx hb dX4_item_66 rfl (lv_at hl 1 rfl) ?_
            refine va_get (D := (dC, dI)) (ci := 2) (v := .ref dh) (C := RX4) (T := TX4) (N := 6) hx hb hts inX4 hown hK hP 6 rfl rfl 1 (by decide) (hts _ (List.mem_of_getElem? (i := 74) rfl)) (fun _ h9 => h9) rfl dX4_item_67 ?_
            have hPc := hP.sub (ws' := [(dh, .inr (4, [.int sh, .ref q1, .ref q2, .int tn, .ref q3, .ref q4, .int sc, .ref q5, .int al])), (q3, .inl (c3, 4, .inl f3)), (q4, .inl (c4, 4, .inl f4))]) [0, 3, 4] rfl
            have hKc := hK.sub (tys' := [(c3, .int), (c4, .int)]) [3, 4] rfl
            have hDc := hD.sub (ws' := [(dh, .inr (4, [.int sh, .ref q1, .ref q2, .int tn, .ref q3, .ref q4, .int sc, .ref q5, .int al])), (q3, .inl (c3, 4, .inl f3)), (q4, .inl (c4, 4, .inl f4))]) [0, 3, 4] (by decide) rfl
            have hFc := va_free (wc := [(dh, .inr (4, [.int sh, .ref q1, .ref q2, .int tn, .ref q3, .ref q4, .int sc, .ref q5, .int al])), (q3, .inl (c3, 4, .inl f3)), (q4, .inl (c4, 4, .inl f4))]) hD hS hA [0, 3, 4] rfl
            refine va_callv (va_runV (As := []) (rest := []) ⟨hx, hb, hml, hown, hts⟩ (s_emptyHands l dC dI ad dh (.int sh) (.ref q1) (.ref q2) (.int tn) q3 q4 (.int sc) (.ref q5) (.int al) c3 f3 c4 f4 H.size ) (cwV 0 hts g_q_item_s_emptyHands_98 rfl rfl rfl (by decide +kernel) ⟨(Nat.le_of_ble_eq_true rfl), (Nat.le_of_ble_eq_true rfl)⟩) ⟨preM_blind, va_recv hKc hPc (ci := 4) (q0 := 0) rfl rfl, fun U hU hW => ⟨rfl, preM_at hU hW hPc hKc hDc hev⟩⟩ rfl rfl hl.1 rfl (lv_room (Nat.le_of_ble_eq_true rfl)) dX4_item_70 ⟨(Nat.le_of_ble_eq_true rfl), (Nat.le_of_ble_eq_true rfl)⟩) hS (fun q _ h => hFc q h) hFc (fun u t H1 locs ht hvm hw hB hz1 hk1 hS => ?_)
            obtain ⟨g_16, g_17, hP1, hK1, hD1⟩ := hB
            rw [ht] at hP1
            have hK1 := va_K.moved hvm.symm hK1
            obtain ⟨hP, hD⟩ := va_join (wr := [(q1, .inl (c1, 9, .inl f1)), (q2, .inl (c2, 9, .inl f2)), (q5, .inl (c5, 7, .inr (.inl f5))), (h0, .inr (2, [.ref eh, .ref dh, .int tk_10, .int st_11, .int en_12, .long dr])), (eh, .inr (5, [.int ts, .ref q0])), (q0, .inl (c0, 120, .inl f0))]) (w1 := [(dh, .inr (4, [.int sh, .ref q1, .ref q2, .int tn, .ref q3, .ref q4, .int sc, .ref q5, .int al])), (q3, .inl (c3, 4, .inl g_16)), (q4, .inl (c4, 4, .inl g_17))]) hP hD [0, 3, 4] [1, 2, 5, 6, 7, 8] rfl rfl (by decide) (by decide) hk1 hFc hP1 hD1
            generalize H1 = H at hP hS ⊢
            have hP : va_P (dC, dI) vwCl [(q1, .inl (c1, 9, .inl f1)), (q2, .inl (c2, 9, .inl f2)), (q5, .inl (c5, 7, .inr (.inl f5))), (h0, .inr (2, [.ref eh, .ref dh, .int tk_10, .int st_11, .int en_12, .long dr])), (eh, .inr (5, [.int ts, .ref q0])), (q0, .inl (c0, 120, .inl f0)), (dh, .inr (4, [.int sh, .ref q1, .ref q2, .int tn, .ref q3, .ref q4, .int sc, .ref q5, .int al])), (q3, .inl (c3, 4, .inl g_16)), (q4, .inl (c4, 4, .inl g_17))] H := hP
            have hD : va_D A [(q1, .inl (c1, 9, .inl f1)), (q2, .inl (c2, 9, .inl f2)), (q5, .inl (c5, 7, .inr (.inl f5))), (h0, .inr (2, [.ref eh, .ref dh, .int tk_10, .int st_11, .int en_12, .long dr])), (eh, .inr (5, [.int ts, .ref q0])), (q0, .inl (c0, 120, .inl f0)), (dh, .inr (4, [.int sh, .ref q1, .ref q2, .int tn, .ref q3, .ref q4, .int sc, .ref q5, .int al])), (q3, .inl (c3, 4, .inl g_16)), (q4, .inl (c4, 4, .inl g_17))] := hD
            refine lv_iconst (v := 1) hx hb dX4_item_73 (by decide) ?_
            have hP9 := hP.sub (ws' := [(h0, .inr (2, [.ref eh, .ref dh, .int tk_10, .int st_11, .int en_12, .long dr])), (eh, .inr (5, [.int ts, .ref q0])), (q0, .inl (c0, 120, .inl f0)), (dh, .inr (4, [.int sh, .ref q1, .ref q2, .int tn, .ref q3, .ref q4, .int sc, .ref q5, .int al])), (q1, .inl (c1, 9, .inl f1)), (q2, .inl (c2, 9, .inl f2)), (q3, .inl (c3, 4, .inl g_16)), (q4, .inl (c4, 4, .inl g_17)), (q5, .inl (c5, 7, .inr (.inl f5)))]) [3, 4, 5, 6, 0, 1, 7, 8, 2] rfl
            have hD9 := hD.sub (ws' := [(h0, .inr (2, [.ref eh, .ref dh, .int tk_10, .int st_11, .int en_12, .long dr])), (eh, .inr (5, [.int ts, .ref q0])), (q0, .inl (c0, 120, .inl f0)), (dh, .inr (4, [.int sh, .ref q1, .ref q2, .int tn, .ref q3, .ref q4, .int sc, .ref q5, .int al])), (q1, .inl (c1, 9, .inl f1)), (q2, .inl (c2, 9, .inl f2)), (q3, .inl (c3, 4, .inl g_16)), (q4, .inl (c4, 4, .inl g_17)), (q5, .inl (c5, 7, .inr (.inl f5)))]) [3, 4, 5, 6, 0, 1, 7, 8, 2] (by decide) rfl
            have hK9 := hK.sub (tys' := [(c0, .int), (c1, .int), (c2, .int), (c3, .int), (c4, .int), (c5, .long)]) [0, 1, 2, 3, 4, 5] rfl
            exact W.zret (v := (1 : Int32)) hx hb hr (by decide) (fun t ht hW => ⟨⟨(1 : Int32), (), rfl, (by first | omega | decide | (simp only [fa_lt, fa_le, fa_eq, and_true, true_and, and_false, false_and, not_true_eq_false, not_false_eq_true, li_0, li_1, li_2, li_3, li_4, li_5, li_6, li_7, li_8, li_9, li_10, li_12, li_15, li_16, li_20, li_30, li_34, li_38, li_40, li_63, li_64, li_65, li_78, li_120, li_1000, li_4000, li_10000, li_11077, li_255, li_65535, li_m1, li_m2, li_m1000000001, li_m1000000002, li_m1000000003, li_m1000000004, li_m1000000005, li_m1000000006, li_m1000000007, or_true, true_or, or_false, false_or, implies_true, true_implies, false_implies] <;> omega)), tk_10, st_11, en_12, dr, sh, tn, sc, f1, f2, g_16, g_17, f5, hq_13, hsh, hsc, by rw [ht]; exact hP9, va_K.moved hW.alike hK9, hD9⟩, hS.F ht⟩) hS.2.2 dX4_item_74
        · skip
          have tc_8 : ¬ r_7.toInt = 0 := fun h => c_8 ((fa_eq _ _).mpr h)
          refine lv_aload_n hx hb dX4_item_52 rfl (lv_at hl 1 rfl) ?_
          have hPc := hP.sub (ws' := [(h0, .inr (2, [.ref eh, .ref dh, .int tk, .int stt, .int en, .long dr])), (eh, .inr (5, [.int ts, .ref q0])), (q0, .inl (c0, 120, .inl f0)), (dh, .inr (4, [.int sh, .ref q1, .ref q2, .int tn, .ref q3, .ref q4, .int sc, .ref q5, .int al]))]) [0, 1, 2, 3] rfl
          have hKc := hK.sub (tys' := [(c0, .int)]) [0] rfl
          have hDc := hD.sub (ws' := [(h0, .inr (2, [.ref eh, .ref dh, .int tk, .int stt, .int en, .long dr])), (eh, .inr (5, [.int ts, .ref q0])), (q0, .inl (c0, 120, .inl f0)), (dh, .inr (4, [.int sh, .ref q1, .ref q2, .int tn, .ref q3, .ref q4, .int sc, .ref q5, .int al]))]) [0, 1, 2, 3] (by decide) rfl
          have hFc := va_free (wc := [(h0, .inr (2, [.ref eh, .ref dh, .int tk, .int stt, .int en, .long dr])), (eh, .inr (5, [.int ts, .ref q0])), (q0, .inl (c0, 120, .inl f0)), (dh, .inr (4, [.int sh, .ref q1, .ref q2, .int tn, .ref q3, .ref q4, .int sc, .ref q5, .int al]))]) hD hS hA [0, 1, 2, 3] rfl
          refine va_calli (va_runV (As := []) (rest := []) ⟨hx, hb, hml, hown, hts⟩ (q_tornItem l dC dI ad h0 eh dh tk stt en dr ts q0 c0 f0 sh (.ref q1) (.ref q2) tn (.ref q3) (.ref q4) (.int sc) (.ref q5) (.int al) s.heap.size hts2 hse) (cwV 0 hts g_q_item_q_tornItem_90 rfl rfl rfl (by decide +kernel) ⟨(Nat.le_of_ble_eq_true rfl), (Nat.le_of_ble_eq_true rfl)⟩) ⟨preM_blind, va_recv hKc hPc (ci := 2) (q0 := 0) rfl rfl, fun U hU hW => ⟨rfl, preM_at hU hW hPc hKc hDc hev⟩⟩ rfl rfl hl.1 rfl (lv_room (Nat.le_of_ble_eq_true rfl)) dX4_item_53 ⟨(Nat.le_of_ble_eq_true rfl), (Nat.le_of_ble_eq_true rfl)⟩) hS (fun q _ h => hFc q h) hFc (fun r_18 u t H1 locs ht hvm hw hB hz1 hk1 hS => ?_)
          obtain ⟨tk_19, st_20, en_21, tn_22, hq_23, hP1, hK1, hD1⟩ := hB
          rw [ht] at hP1
          have hK1 := va_K.moved hvm.symm hK1
          obtain ⟨hP, hD⟩ := va_join (wr := [(q1, .inl (c1, 9, .inl f1)), (q2, .inl (c2, 9, .inl f2)), (q3, .inl (c3, 4, .inl f3)), (q4, .inl (c4, 4, .inl f4)), (q5, .inl (c5, 7, .inr (.inl f5)))]) (w1 := [(h0, .inr (2, [.ref eh, .ref dh, .int tk_19, .int st_20, .int en_21, .long dr])), (eh, .inr (5, [.int ts, .ref q0])), (q0, .inl (c0, 120, .inl f0)), (dh, .inr (4, [.int sh, .ref q1, .ref q2, .int tn_22, .ref q3, .ref q4, .int sc, .ref q5, .int al]))]) hP hD [0, 1, 2, 3] [4, 5, 6, 7, 8] rfl rfl (by decide) (by decide) hk1 hFc hP1 hD1
          generalize H1 = H at hP hS ⊢
          have hP : va_P (dC, dI) vwCl [(q1, .inl (c1, 9, .inl f1)), (q2, .inl (c2, 9, .inl f2)), (q3, .inl (c3, 4, .inl f3)), (q4, .inl (c4, 4, .inl f4)), (q5, .inl (c5, 7, .inr (.inl f5))), (h0, .inr (2, [.ref eh, .ref dh, .int tk_19, .int st_20, .int en_21, .long dr])), (eh, .inr (5, [.int ts, .ref q0])), (q0, .inl (c0, 120, .inl f0)), (dh, .inr (4, [.int sh, .ref q1, .ref q2, .int tn_22, .ref q3, .ref q4, .int sc, .ref q5, .int al]))] H := hP
          have hD : va_D A [(q1, .inl (c1, 9, .inl f1)), (q2, .inl (c2, 9, .inl f2)), (q3, .inl (c3, 4, .inl f3)), (q4, .inl (c4, 4, .inl f4)), (q5, .inl (c5, 7, .inr (.inl f5))), (h0, .inr (2, [.ref eh, .ref dh, .int tk_19, .int st_20, .int en_21, .long dr])), (eh, .inr (5, [.int ts, .ref q0])), (q0, .inl (c0, 120, .inl f0)), (dh, .inr (4, [.int sh, .ref q1, .ref q2, .int tn_22, .ref q3, .ref q4, .int sc, .ref q5, .int al]))] := hD
          have hr_18 : r_18.toInt = 0 ∨ r_18.toInt = 1 := hw
          have hP9 := hP.sub (ws' := [(h0, .inr (2, [.ref eh, .ref dh, .int tk_19, .int st_20, .int en_21, .long dr])), (eh, .inr (5, [.int ts, .ref q0])), (q0, .inl (c0, 120, .inl f0)), (dh, .inr (4, [.int sh, .ref q1, .ref q2, .int tn_22, .ref q3, .ref q4, .int sc, .ref q5, .int al])), (q1, .inl (c1, 9, .inl f1)), (q2, .inl (c2, 9, .inl f2)), (q3, .inl (c3, 4, .inl f3)), (q4, .inl (c4, 4, .inl f4)), (q5, .inl (c5, 7, .inr (.inl f5)))]) [5, 6, 7, 8, 0, 1, 2, 3, 4] rfl
          have hD9 := hD.sub (ws' := [(h0, .inr (2, [.ref eh, .ref dh, .int tk_19, .int st_20, .int en_21, .long dr])), (eh, .inr (5, [.int ts, .ref q0])), (q0, .inl (c0, 120, .inl f0)), (dh, .inr (4, [.int sh, .ref q1, .ref q2, .int tn_22, .ref q3, .ref q4, .int sc, .ref q5, .int al])), (q1, .inl (c1, 9, .inl f1)), (q2, .inl (c2, 9, .inl f2)), (q3, .inl (c3, 4, .inl f3)), (q4, .inl (c4, 4, .inl f4)), (q5, .inl (c5, 7, .inr (.inl f5)))]) [5, 6, 7, 8, 0, 1, 2, 3, 4] (by decide) rfl
          have hK9 := hK.sub (tys' := [(c0, .int), (c1, .int), (c2, .int), (c3, .int), (c4, .int), (c5, .long)]) [0, 1, 2, 3, 4, 5] rfl
          exact W.zret (v := r_18) hx hb hr (pp_nb (by omega)) (fun t ht hW => ⟨⟨r_18, (), rfl, (by first | omega | decide | (simp only [fa_lt, fa_le, fa_eq, and_true, true_and, and_false, false_and, not_true_eq_false, not_false_eq_true, li_0, li_1, li_2, li_3, li_4, li_5, li_6, li_7, li_8, li_9, li_10, li_12, li_15, li_16, li_20, li_30, li_34, li_38, li_40, li_63, li_64, li_65, li_78, li_120, li_1000, li_4000, li_10000, li_11077, li_255, li_65535, li_m1, li_m2, li_m1000000001, li_m1000000002, li_m1000000003, li_m1000000004, li_m1000000005, li_m1000000006, li_m1000000007, or_true, true_or, or_false, false_or, implies_true, true_implies, false_implies] <;> omega)), tk_19, st_20, en_21, dr, sh, tn_22, sc, f1, f2, f3, f4, f5, hq_23, hsh, hsc, by rw [ht]; exact hP9, va_K.moved hW.alike hK9, hD9⟩, hS.F ht⟩) hS.2.2 dX4_item_56
      · skip
        have tc_6 : ¬ r_5.toInt = 0 := fun h => c_6 ((fa_eq _ _).mpr h)
        refine lv_aload_n hx hb dX4_item_38 rfl (lv_at hl 1 rfl) ?_
        have hPc := hP.sub (ws' := [(h0, .inr (2, [.ref eh, .ref dh, .int tk, .int stt, .int en, .long dr])), (eh, .inr (5, [.int ts, .ref q0])), (q0, .inl (c0, 120, .inl f0)), (dh, .inr (4, [.int sh, .ref q1, .ref q2, .int tn, .ref q3, .ref q4, .int sc, .ref q5, .int al])), (q3, .inl (c3, 4, .inl f3)), (q4, .inl (c4, 4, .inl f4))]) [0, 1, 2, 3, 6, 7] rfl
        have hKc := hK.sub (tys' := [(c0, .int), (c3, .int), (c4, .int)]) [0, 3, 4] rfl
        have hDc := hD.sub (ws' := [(h0, .inr (2, [.ref eh, .ref dh, .int tk, .int stt, .int en, .long dr])), (eh, .inr (5, [.int ts, .ref q0])), (q0, .inl (c0, 120, .inl f0)), (dh, .inr (4, [.int sh, .ref q1, .ref q2, .int tn, .ref q3, .ref q4, .int sc, .ref q5, .int al])), (q3, .inl (c3, 4, .inl f3)), (q4, .inl (c4, 4, .inl f4))]) [0, 1, 2, 3, 6, 7] (by decide) rfl
        have hFc := va_free (wc := [(h0, .inr (2, [.ref eh, .ref dh, .int tk, .int stt, .int en, .long dr])), (eh, .inr (5, [.int ts, .ref q0])), (q0, .inl (c0, 120, .inl f0)), (dh, .inr (4, [.int sh, .ref q1, .ref q2, .int tn, .ref q3, .ref q4, .int sc, .ref q5, .int al])), (q3, .inl (c3, 4, .inl f3)), (q4, .inl (c4, 4, .inl f4))]) hD hS hA [0, 1, 2, 3, 6, 7] rfl
        refine va_calli (va_runV (As := []) (rest := []) ⟨hx, hb, hml, hown, hts⟩ (q_holdItem l dC dI ad h0 eh dh tk stt en dr ts q0 c0 f0 sh (.ref q1) (.ref q2) (.int tn) q3 q4 (.int sc) (.ref q5) (.int al) c3 f3 c4 f4 s.heap.size hts2 hse) (cwV 0 hts g_q_item_q_holdItem_85 rfl rfl rfl (by decide +kernel) ⟨(Nat.le_of_ble_eq_true rfl), (Nat.le_of_ble_eq_true rfl)⟩) ⟨preT_blind, va_recv hKc hPc (ci := 2) (q0 := 0) rfl rfl, fun U hU hW => ⟨rfl, preM_at hU hW hPc hKc hDc hev, sf_at hsf hS hFc hU hW⟩⟩ rfl rfl hl.1 rfl (lv_room (Nat.le_of_ble_eq_true rfl)) dX4_item_39 ⟨(Nat.le_of_ble_eq_true rfl), (Nat.le_of_ble_eq_true rfl)⟩) hS (fun q _ h => hFc q h) hFc (fun r_24 u t H1 locs ht hvm hw hB hz1 hk1 hS => ?_)
        obtain ⟨tk_25, st_26, en_27, g_28, g_29, hq_30, hP1, hK1, hD1⟩ := hB
        rw [ht] at hP1
        have hK1 := va_K.moved hvm.symm hK1
        obtain ⟨hP, hD⟩ := va_join (wr := [(q1, .inl (c1, 9, .inl f1)), (q2, .inl (c2, 9, .inl f2)), (q5, .inl (c5, 7, .inr (.inl f5)))]) (w1 := [(h0, .inr (2, [.ref eh, .ref dh, .int tk_25, .int st_26, .int en_27, .long dr])), (eh, .inr (5, [.int ts, .ref q0])), (q0, .inl (c0, 120, .inl f0)), (dh, .inr (4, [.int sh, .ref q1, .ref q2, .int tn, .ref q3, .ref q4, .int sc, .ref q5, .int al])), (q3, .inl (c3, 4, .inl g_28)), (q4, .inl (c4, 4, .inl g_29))]) hP hD [0, 1, 2, 3, 6, 7] [4, 5, 8] rfl rfl (by decide) (by decide) hk1 hFc hP1 hD1
        generalize H1 = H at hP hS ⊢
        have hP : va_P (dC, dI) vwCl [(q1, .inl (c1, 9, .inl f1)), (q2, .inl (c2, 9, .inl f2)), (q5, .inl (c5, 7, .inr (.inl f5))), (h0, .inr (2, [.ref eh, .ref dh, .int tk_25, .int st_26, .int en_27, .long dr])), (eh, .inr (5, [.int ts, .ref q0])), (q0, .inl (c0, 120, .inl f0)), (dh, .inr (4, [.int sh, .ref q1, .ref q2, .int tn, .ref q3, .ref q4, .int sc, .ref q5, .int al])), (q3, .inl (c3, 4, .inl g_28)), (q4, .inl (c4, 4, .inl g_29))] H := hP
        have hD : va_D A [(q1, .inl (c1, 9, .inl f1)), (q2, .inl (c2, 9, .inl f2)), (q5, .inl (c5, 7, .inr (.inl f5))), (h0, .inr (2, [.ref eh, .ref dh, .int tk_25, .int st_26, .int en_27, .long dr])), (eh, .inr (5, [.int ts, .ref q0])), (q0, .inl (c0, 120, .inl f0)), (dh, .inr (4, [.int sh, .ref q1, .ref q2, .int tn, .ref q3, .ref q4, .int sc, .ref q5, .int al])), (q3, .inl (c3, 4, .inl g_28)), (q4, .inl (c4, 4, .inl g_29))] := hD
        have hr_24 : r_24.toInt = 0 ∨ r_24.toInt = 1 := hw
        have hP9 := hP.sub (ws' := [(h0, .inr (2, [.ref eh, .ref dh, .int tk_25, .int st_26, .int en_27, .long dr])), (eh, .inr (5, [.int ts, .ref q0])), (q0, .inl (c0, 120, .inl f0)), (dh, .inr (4, [.int sh, .ref q1, .ref q2, .int tn, .ref q3, .ref q4, .int sc, .ref q5, .int al])), (q1, .inl (c1, 9, .inl f1)), (q2, .inl (c2, 9, .inl f2)), (q3, .inl (c3, 4, .inl g_28)), (q4, .inl (c4, 4, .inl g_29)), (q5, .inl (c5, 7, .inr (.inl f5)))]) [3, 4, 5, 6, 0, 1, 7, 8, 2] rfl
        have hD9 := hD.sub (ws' := [(h0, .inr (2, [.ref eh, .ref dh, .int tk_25, .int st_26, .int en_27, .long dr])), (eh, .inr (5, [.int ts, .ref q0])), (q0, .inl (c0, 120, .inl f0)), (dh, .inr (4, [.int sh, .ref q1, .ref q2, .int tn, .ref q3, .ref q4, .int sc, .ref q5, .int al])), (q1, .inl (c1, 9, .inl f1)), (q2, .inl (c2, 9, .inl f2)), (q3, .inl (c3, 4, .inl g_28)), (q4, .inl (c4, 4, .inl g_29)), (q5, .inl (c5, 7, .inr (.inl f5)))]) [3, 4, 5, 6, 0, 1, 7, 8, 2] (by decide) rfl
        have hK9 := hK.sub (tys' := [(c0, .int), (c1, .int), (c2, .int), (c3, .int), (c4, .int), (c5, .long)]) [0, 1, 2, 3, 4, 5] rfl
        exact W.zret (v := r_24) hx hb hr (pp_nb (by omega)) (fun t ht hW => ⟨⟨r_24, (), rfl, (by first | omega | decide | (simp only [fa_lt, fa_le, fa_eq, and_true, true_and, and_false, false_and, not_true_eq_false, not_false_eq_true, li_0, li_1, li_2, li_3, li_4, li_5, li_6, li_7, li_8, li_9, li_10, li_12, li_15, li_16, li_20, li_30, li_34, li_38, li_40, li_63, li_64, li_65, li_78, li_120, li_1000, li_4000, li_10000, li_11077, li_255, li_65535, li_m1, li_m2, li_m1000000001, li_m1000000002, li_m1000000003, li_m1000000004, li_m1000000005, li_m1000000006, li_m1000000007, or_true, true_or, or_false, false_or, implies_true, true_implies, false_implies] <;> omega)), tk_25, st_26, en_27, dr, sh, tn, sc, f1, f2, g_28, g_29, f5, hq_30, hsh, hsc, by rw [ht]; exact hP9, va_K.moved hW.alike hK9, hD9⟩, hS.F ht⟩) hS.2.2 dX4_item_42
    · skip
      have tc_4 : ¬ r_3.toInt = 0 := fun h => c_4 ((fa_eq _ _).mpr h)
      refine lv_aload_n hx hb dX4_item_24 rfl (lv_at hl 1 rfl) ?_
      have hPc := hP.sub (ws' := [(h0, .inr (2, [.ref eh, .ref dh, .int tk, .int stt, .int en, .long dr])), (eh, .inr (5, [.int ts, .ref q0])), (q0, .inl (c0, 120, .inl f0)), (dh, .inr (4, [.int sh, .ref q1, .ref q2, .int tn, .ref q3, .ref q4, .int sc, .ref q5, .int al])), (q5, .inl (c5, 7, .inr (.inl f5)))]) [0, 1, 2, 3, 8] rfl
      have hKc := hK.sub (tys' := [(c0, .int), (c5, .long)]) [0, 5] rfl
      have hDc := hD.sub (ws' := [(h0, .inr (2, [.ref eh, .ref dh, .int tk, .int stt, .int en, .long dr])), (eh, .inr (5, [.int ts, .ref q0])), (q0, .inl (c0, 120, .inl f0)), (dh, .inr (4, [.int sh, .ref q1, .ref q2, .int tn, .ref q3, .ref q4, .int sc, .ref q5, .int al])), (q5, .inl (c5, 7, .inr (.inl f5)))]) [0, 1, 2, 3, 8] (by decide) rfl
      have hFc := va_free (wc := [(h0, .inr (2, [.ref eh, .ref dh, .int tk, .int stt, .int en, .long dr])), (eh, .inr (5, [.int ts, .ref q0])), (q0, .inl (c0, 120, .inl f0)), (dh, .inr (4, [.int sh, .ref q1, .ref q2, .int tn, .ref q3, .ref q4, .int sc, .ref q5, .int al])), (q5, .inl (c5, 7, .inr (.inl f5)))]) hD hS hA [0, 1, 2, 3, 8] rfl
      refine va_calli (va_runV (As := []) (rest := []) ⟨hx, hb, hml, hown, hts⟩ (q_sceneItem l dC dI ad h0 eh dh tk stt en dr ts q0 c0 f0 (.int sh) (.ref q1) (.ref q2) (.int tn) (.ref q3) (.ref q4) sc q5 (.int al) c5 f5 s.heap.size hts2 hse hsc) (cwV 0 hts g_q_item_q_sceneItem_80 rfl rfl rfl (by decide +kernel) ⟨(Nat.le_of_ble_eq_true rfl), (Nat.le_of_ble_eq_true rfl)⟩) ⟨preM_blind, va_recv hKc hPc (ci := 2) (q0 := 0) rfl rfl, fun U hU hW => ⟨rfl, preM_at hU hW hPc hKc hDc hev⟩⟩ rfl rfl hl.1 rfl (lv_room (Nat.le_of_ble_eq_true rfl)) dX4_item_25 ⟨(Nat.le_of_ble_eq_true rfl), (Nat.le_of_ble_eq_true rfl)⟩) hS (fun q _ h => hFc q h) hFc (fun r_31 u t H1 locs ht hvm hw hB hz1 hk1 hS => ?_)
      obtain ⟨tk_32, st_33, en_34, dr_35, sc_36, g_37, hq_38, hq_39, hP1, hK1, hD1⟩ := hB
      rw [ht] at hP1
      have hK1 := va_K.moved hvm.symm hK1
      obtain ⟨hP, hD⟩ := va_join (wr := [(q1, .inl (c1, 9, .inl f1)), (q2, .inl (c2, 9, .inl f2)), (q3, .inl (c3, 4, .inl f3)), (q4, .inl (c4, 4, .inl f4))]) (w1 := [(h0, .inr (2, [.ref eh, .ref dh, .int tk_32, .int st_33, .int en_34, .long dr_35])), (eh, .inr (5, [.int ts, .ref q0])), (q0, .inl (c0, 120, .inl f0)), (dh, .inr (4, [.int sh, .ref q1, .ref q2, .int tn, .ref q3, .ref q4, .int sc_36, .ref q5, .int al])), (q5, .inl (c5, 7, .inr (.inl g_37)))]) hP hD [0, 1, 2, 3, 8] [4, 5, 6, 7] rfl rfl (by decide) (by decide) hk1 hFc hP1 hD1
      generalize H1 = H at hP hS ⊢
      have hP : va_P (dC, dI) vwCl [(q1, .inl (c1, 9, .inl f1)), (q2, .inl (c2, 9, .inl f2)), (q3, .inl (c3, 4, .inl f3)), (q4, .inl (c4, 4, .inl f4)), (h0, .inr (2, [.ref eh, .ref dh, .int tk_32, .int st_33, .int en_34, .long dr_35])), (eh, .inr (5, [.int ts, .ref q0])), (q0, .inl (c0, 120, .inl f0)), (dh, .inr (4, [.int sh, .ref q1, .ref q2, .int tn, .ref q3, .ref q4, .int sc_36, .ref q5, .int al])), (q5, .inl (c5, 7, .inr (.inl g_37)))] H := hP
      have hD : va_D A [(q1, .inl (c1, 9, .inl f1)), (q2, .inl (c2, 9, .inl f2)), (q3, .inl (c3, 4, .inl f3)), (q4, .inl (c4, 4, .inl f4)), (h0, .inr (2, [.ref eh, .ref dh, .int tk_32, .int st_33, .int en_34, .long dr_35])), (eh, .inr (5, [.int ts, .ref q0])), (q0, .inl (c0, 120, .inl f0)), (dh, .inr (4, [.int sh, .ref q1, .ref q2, .int tn, .ref q3, .ref q4, .int sc_36, .ref q5, .int al])), (q5, .inl (c5, 7, .inr (.inl g_37)))] := hD
      have hr_31 : r_31.toInt = 0 ∨ r_31.toInt = 1 := hw
      have hP9 := hP.sub (ws' := [(h0, .inr (2, [.ref eh, .ref dh, .int tk_32, .int st_33, .int en_34, .long dr_35])), (eh, .inr (5, [.int ts, .ref q0])), (q0, .inl (c0, 120, .inl f0)), (dh, .inr (4, [.int sh, .ref q1, .ref q2, .int tn, .ref q3, .ref q4, .int sc_36, .ref q5, .int al])), (q1, .inl (c1, 9, .inl f1)), (q2, .inl (c2, 9, .inl f2)), (q3, .inl (c3, 4, .inl f3)), (q4, .inl (c4, 4, .inl f4)), (q5, .inl (c5, 7, .inr (.inl g_37)))]) [4, 5, 6, 7, 0, 1, 2, 3, 8] rfl
      have hD9 := hD.sub (ws' := [(h0, .inr (2, [.ref eh, .ref dh, .int tk_32, .int st_33, .int en_34, .long dr_35])), (eh, .inr (5, [.int ts, .ref q0])), (q0, .inl (c0, 120, .inl f0)), (dh, .inr (4, [.int sh, .ref q1, .ref q2, .int tn, .ref q3, .ref q4, .int sc_36, .ref q5, .int al])), (q1, .inl (c1, 9, .inl f1)), (q2, .inl (c2, 9, .inl f2)), (q3, .inl (c3, 4, .inl f3)), (q4, .inl (c4, 4, .inl f4)), (q5, .inl (c5, 7, .inr (.inl g_37)))]) [4, 5, 6, 7, 0, 1, 2, 3, 8] (by decide) rfl
      have hK9 := hK.sub (tys' := [(c0, .int), (c1, .int), (c2, .int), (c3, .int), (c4, .int), (c5, .long)]) [0, 1, 2, 3, 4, 5] rfl
      exact W.zret (v := r_31) hx hb hr (pp_nb (by omega)) (fun t ht hW => ⟨⟨r_31, (), rfl, (by first | omega | decide | (simp only [fa_lt, fa_le, fa_eq, and_true, true_and, and_false, false_and, not_true_eq_false, not_false_eq_true, li_0, li_1, li_2, li_3, li_4, li_5, li_6, li_7, li_8, li_9, li_10, li_12, li_15, li_16, li_20, li_30, li_34, li_38, li_40, li_63, li_64, li_65, li_78, li_120, li_1000, li_4000, li_10000, li_11077, li_255, li_65535, li_m1, li_m2, li_m1000000001, li_m1000000002, li_m1000000003, li_m1000000004, li_m1000000005, li_m1000000006, li_m1000000007, or_true, true_or, or_false, false_or, implies_true, true_implies, false_implies] <;> omega)), tk_32, st_33, en_34, dr_35, sh, tn, sc_36, f1, f2, f3, f4, g_37, hq_38, hsh, hq_39, by rw [ht]; exact hP9, va_K.moved hW.alike hK9, hD9⟩, hS.F ht⟩) hS.2.2 dX4_item_28
  · skip
    have tc_2 : ¬ r_1.toInt < 0 := fun h => c_2 ((fa_lt _ _).mpr h)
    refine lv_aload_n hx hb dX4_item_9 rfl (lv_at hl 1 rfl) ?_
    refine lv_iload_n hx hb dX4_item_10 rfl (lv_at hl 0 rfl) ?_
    have hPc := hP.sub (ws' := [(h0, .inr (2, [.ref eh, .ref dh, .int tk, .int stt, .int en, .long dr])), (eh, .inr (5, [.int ts, .ref q0])), (q0, .inl (c0, 120, .inl f0)), (dh, .inr (4, [.int sh, .ref q1, .ref q2, .int tn, .ref q3, .ref q4, .int sc, .ref q5, .int al])), (q1, .inl (c1, 9, .inl f1)), (q2, .inl (c2, 9, .inl f2))]) [0, 1, 2, 3, 4, 5] rfl
    have hKc := hK.sub (tys' := [(c0, .int), (c1, .int), (c2, .int)]) [0, 1, 2] rfl
    have hDc := hD.sub (ws' := [(h0, .inr (2, [.ref eh, .ref dh, .int tk, .int stt, .int en, .long dr])), (eh, .inr (5, [.int ts, .ref q0])), (q0, .inl (c0, 120, .inl f0)), (dh, .inr (4, [.int sh, .ref q1, .ref q2, .int tn, .ref q3, .ref q4, .int sc, .ref q5, .int al])), (q1, .inl (c1, 9, .inl f1)), (q2, .inl (c2, 9, .inl f2))]) [0, 1, 2, 3, 4, 5] (by decide) rfl
    have hFc := va_free (wc := [(h0, .inr (2, [.ref eh, .ref dh, .int tk, .int stt, .int en, .long dr])), (eh, .inr (5, [.int ts, .ref q0])), (q0, .inl (c0, 120, .inl f0)), (dh, .inr (4, [.int sh, .ref q1, .ref q2, .int tn, .ref q3, .ref q4, .int sc, .ref q5, .int al])), (q1, .inl (c1, 9, .inl f1)), (q2, .inl (c2, 9, .inl f2))]) hD hS hA [0, 1, 2, 3, 4, 5] rfl
    refine va_calli (va_runV (As := [.int r_1]) (rest := []) ⟨hx, hb, hml, hown, hts⟩ (q_shapeItem l dC dI ad h0 r_1 eh dh tk stt en dr ts q0 c0 f0 sh q1 q2 (.int tn) (.ref q3) (.ref q4) (.int sc) (.ref q5) (.int al) c1 f1 c2 f2 s.heap.size hts2 hse hsh) (cwV 1 hts g_q_item_q_shapeItem_70 rfl rfl rfl (by decide +kernel) ⟨(Nat.le_of_ble_eq_true rfl), (Nat.le_of_ble_eq_true rfl)⟩) ⟨preM_blind, va_recv hKc hPc (ci := 2) (q0 := 0) rfl rfl, fun U hU hW => ⟨rfl, preM_at hU hW hPc hKc hDc hev⟩⟩ rfl rfl hl.1 rfl (lv_room (Nat.le_of_ble_eq_true rfl)) dX4_item_11 ⟨(Nat.le_of_ble_eq_true rfl), (Nat.le_of_ble_eq_true rfl)⟩) hS (fun q _ h => hFc q h) hFc (fun r_40 u t H1 locs ht hvm hw hB hz1 hk1 hS => ?_)
    obtain ⟨tk_41, st_42, en_43, dr_44, sh_45, g_46, g_47, hq_48, hq_49, hP1, hK1, hD1⟩ := hB
    rw [ht] at hP1
    have hK1 := va_K.moved hvm.symm hK1
    obtain ⟨hP, hD⟩ := va_join (wr := [(q3, .inl (c3, 4, .inl f3)), (q4, .inl (c4, 4, .inl f4)), (q5, .inl (c5, 7, .inr (.inl f5)))]) (w1 := [(h0, .inr (2, [.ref eh, .ref dh, .int tk_41, .int st_42, .int en_43, .long dr_44])), (eh, .inr (5, [.int ts, .ref q0])), (q0, .inl (c0, 120, .inl f0)), (dh, .inr (4, [.int sh_45, .ref q1, .ref q2, .int tn, .ref q3, .ref q4, .int sc, .ref q5, .int al])), (q1, .inl (c1, 9, .inl g_46)), (q2, .inl (c2, 9, .inl g_47))]) hP hD [0, 1, 2, 3, 4, 5] [6, 7, 8] rfl rfl (by decide) (by decide) hk1 hFc hP1 hD1
    generalize H1 = H at hP hS ⊢
    have hP : va_P (dC, dI) vwCl [(q3, .inl (c3, 4, .inl f3)), (q4, .inl (c4, 4, .inl f4)), (q5, .inl (c5, 7, .inr (.inl f5))), (h0, .inr (2, [.ref eh, .ref dh, .int tk_41, .int st_42, .int en_43, .long dr_44])), (eh, .inr (5, [.int ts, .ref q0])), (q0, .inl (c0, 120, .inl f0)), (dh, .inr (4, [.int sh_45, .ref q1, .ref q2, .int tn, .ref q3, .ref q4, .int sc, .ref q5, .int al])), (q1, .inl (c1, 9, .inl g_46)), (q2, .inl (c2, 9, .inl g_47))] H := hP
    have hD : va_D A [(q3, .inl (c3, 4, .inl f3)), (q4, .inl (c4, 4, .inl f4)), (q5, .inl (c5, 7, .inr (.inl f5))), (h0, .inr (2, [.ref eh, .ref dh, .int tk_41, .int st_42, .int en_43, .long dr_44])), (eh, .inr (5, [.int ts, .ref q0])), (q0, .inl (c0, 120, .inl f0)), (dh, .inr (4, [.int sh_45, .ref q1, .ref q2, .int tn, .ref q3, .ref q4, .int sc, .ref q5, .int al])), (q1, .inl (c1, 9, .inl g_46)), (q2, .inl (c2, 9, .inl g_47))] := hD
    have hr_40 : r_40.toInt = 0 ∨ r_40.toInt = 1 := hw
    have hP9 := hP.sub (ws' := [(h0, .inr (2, [.ref eh, .ref dh, .int tk_41, .int st_42, .int en_43, .long dr_44])), (eh, .inr (5, [.int ts, .ref q0])), (q0, .inl (c0, 120, .inl f0)), (dh, .inr (4, [.int sh_45, .ref q1, .ref q2, .int tn, .ref q3, .ref q4, .int sc, .ref q5, .int al])), (q1, .inl (c1, 9, .inl g_46)), (q2, .inl (c2, 9, .inl g_47)), (q3, .inl (c3, 4, .inl f3)), (q4, .inl (c4, 4, .inl f4)), (q5, .inl (c5, 7, .inr (.inl f5)))]) [3, 4, 5, 6, 7, 8, 0, 1, 2] rfl
    have hD9 := hD.sub (ws' := [(h0, .inr (2, [.ref eh, .ref dh, .int tk_41, .int st_42, .int en_43, .long dr_44])), (eh, .inr (5, [.int ts, .ref q0])), (q0, .inl (c0, 120, .inl f0)), (dh, .inr (4, [.int sh_45, .ref q1, .ref q2, .int tn, .ref q3, .ref q4, .int sc, .ref q5, .int al])), (q1, .inl (c1, 9, .inl g_46)), (q2, .inl (c2, 9, .inl g_47)), (q3, .inl (c3, 4, .inl f3)), (q4, .inl (c4, 4, .inl f4)), (q5, .inl (c5, 7, .inr (.inl f5)))]) [3, 4, 5, 6, 7, 8, 0, 1, 2] (by decide) rfl
    have hK9 := hK.sub (tys' := [(c0, .int), (c1, .int), (c2, .int), (c3, .int), (c4, .int), (c5, .long)]) [0, 1, 2, 3, 4, 5] rfl
    exact W.zret (v := r_40) hx hb hr (pp_nb (by omega)) (fun t ht hW => ⟨⟨r_40, (), rfl, (by first | omega | decide | (simp only [fa_lt, fa_le, fa_eq, and_true, true_and, and_false, false_and, not_true_eq_false, not_false_eq_true, li_0, li_1, li_2, li_3, li_4, li_5, li_6, li_7, li_8, li_9, li_10, li_12, li_15, li_16, li_20, li_30, li_34, li_38, li_40, li_63, li_64, li_65, li_78, li_120, li_1000, li_4000, li_10000, li_11077, li_255, li_65535, li_m1, li_m2, li_m1000000001, li_m1000000002, li_m1000000003, li_m1000000004, li_m1000000005, li_m1000000006, li_m1000000007, or_true, true_or, or_false, false_or, implies_true, true_implies, false_implies] <;> omega)), tk_41, st_42, en_43, dr_44, sh_45, tn, sc, g_46, g_47, f3, f4, f5, hq_48, hq_49, hsc, by rw [ht]; exact hP9, va_K.moved hW.alike hK9, hD9⟩, hS.F ht⟩) hS.2.2 dX4_item_14

def w_q_perform : List Cond := .code yX4_perform cX4_perform 2 (some .int) :: (([.fieldLink RX4 32 "LampShapes$Script" "end" "I", .methodLink RX4 39 yX4_advance, .instanceMethod yX4_advance, .selects RX4 yX4_advance yX4_advance, .initialized RX4, .code yX4_advance cX4_advance 1 none, .fieldLink RX4 29 "LampShapes$Script" "start" "I", .fieldLink RX4 12 "LampShapes$Script" "tape" "LLampShapes$Tape;", .methodLink RX4 53 yX4_sortOf, .static yX4_sortOf, .code yX4_sortOf cX4_sortOf 1 (some .int), .fieldLink RX4 25 "LampShapes$Script" "token" "I", .methodLink RX4 42 yX4_item, .instanceMethod yX4_item, .selects RX4 yX4_item yX4_item, .code yX4_item cX4_item 2 (some .boolean), .methodLink RX4 67 yX4_kindNamed, .instanceMethod yX4_kindNamed, .selects RX4 yX4_kindNamed yX4_kindNamed, .code yX4_kindNamed cX4_kindNamed 1 (some .int), .methodLink RX4 76 yX4_isWord, .instanceMethod yX4_isWord, .selects RX4 yX4_isWord yX4_isWord, .code yX4_isWord cX4_isWord 3 (some .boolean), .methodLink RX4 57 yJ0_length_8abf5, .instanceMethod yJ0_length_8abf5, .selects RJ0 yJ0_length_8abf5 yJ0_length_8abf5, .initialized RJ0, .code yJ0_length_8abf5 cJ0_length_8abf5 1 (some .int), .fieldLink RJ0 9 "java/lang/String" "value" "[B", .methodLink RJ0 335 yJ0_coder_7d493, .instanceMethod yJ0_coder_7d493, .selects RJ0 yJ0_coder_7d493 yJ0_coder_7d493, .code yJ0_coder_7d493 cJ0_coder_7d493 1 (some .byte), .fieldLink RJ0 38 "java/lang/String" "COMPACT_STRINGS" "Z", .fieldLink RJ0 15 "java/lang/String" "coder" "B", .methodLink RX4 63 yJ0_charAt_5068e, .instanceMethod yJ0_charAt_5068e, .selects RJ0 yJ0_charAt_5068e yJ0_charAt_5068e, .code yJ0_charAt_5068e cJ0_charAt_5068e 2 (some .char), .methodLink RJ0 492 yJ0_isLatin1_aae02, .instanceMethod yJ0_isLatin1_aae02, .selects RJ0 yJ0_isLatin1_aae02 yJ0_isLatin1_aae02, .code yJ0_isLatin1_aae02 cJ0_isLatin1_aae02 1 (some .boolean), .methodLink RJ0 495 yJ1_charAt_3b067, .static yJ1_charAt_3b067, .initialized RJ1, .code yJ1_charAt_3b067 cJ1_charAt_3b067 2 (some .char), .methodLink RJ1 9 yJ0_checkIndex_df160, .static yJ0_checkIndex_df160, .code yJ0_checkIndex_df160 cJ0_checkIndex_df160 2 none, .fieldLink RJ0 1053 "jdk/internal/util/Preconditions" "SIOOBE_FORMATTER" "Ljava/util/function/BiFunction;", .methodLink RJ0 1059 yJ3_checkIndex_8e157, .static yJ3_checkIndex_8e157, .initialized RJ3, .code yJ3_checkIndex_8e157 cJ3_checkIndex_8e157 3 (some .int), .methodLink RJ0 498 yJ2_charAt_3b067, .static yJ2_charAt_3b067, .initialized RJ2, .code yJ2_charAt_3b067 cJ2_charAt_3b067 2 (some .char), .methodLink RJ2 67 yJ2_checkIndex_2214a, .static yJ2_checkIndex_2214a, .code yJ2_checkIndex_2214a cJ2_checkIndex_2214a 2 none, .methodLink RJ2 48 yJ2_length_9d52b, .static yJ2_length_9d52b, .code yJ2_length_9d52b cJ2_length_9d52b 1 (some .int), .methodLink RJ2 414 yJ0_checkIndex_df160, .methodLink RJ2 71 yJ2_getChar_3b067, .static yJ2_getChar_3b067, .code yJ2_getChar_3b067 cJ2_getChar_3b067 2 (some .char), .fieldLink RJ2 44 "java/lang/StringUTF16" "$assertionsDisabled" "Z", .fieldLink RJ2 59 "java/lang/StringUTF16" "HI_BYTE_SHIFT" "I", .fieldLink RJ2 63 "java/lang/StringUTF16" "LO_BYTE_SHIFT" "I", .methodLink RX4 95 yX4_passes, .instanceMethod yX4_passes, .selects RX4 yX4_passes yX4_passes, .code yX4_passes cX4_passes 2 (some .boolean), .fieldLink RX4 21 "LampShapes$Script" "stage" "LLampShapes$Stage;", .methodLink RX4 98 yX6_emptyHands, .instanceMethod yX6_emptyHands, .selects RX6 yX6_emptyHands yX6_emptyHands, .initialized RX6, .code yX6_emptyHands cX6_emptyHands 2 none, .methodLink RX6 74 yX6_release, .instanceMethod yX6_release, .selects RX6 yX6_release yX6_release, .code yX6_release cX6_release 2 none, .methodLink RX6 70 yX6_take, .instanceMethod yX6_take, .selects RX6 yX6_take yX6_take, .code yX6_take cX6_take 4 none, .fieldLink RX6 25 "LampShapes$Stage" "heldShapes" "[I", .fieldLink RX6 28 "LampShapes$Stage" "heldPlacings" "[I", .methodLink RX4 90 yX4_tornItem, .instanceMethod yX4_tornItem, .selects RX4 yX4_tornItem yX4_tornItem, .code yX4_tornItem cX4_tornItem 2 (some .boolean), .methodLink RX4 135 yX4_value, .instanceMethod yX4_value, .selects RX4 yX4_value yX4_value, .code yX4_value cX4_value 3 (some .int), .methodLink RX4 167 Lib.Math.min.name, .static Lib.Math.min.name, .initialized "java/lang/Math", .code Lib.Math.min.name Lib.Math.min.code 2 (some .int), .methodLink RX4 138 yX6_hasShape, .instanceMethod yX6_hasShape, .selects RX6 yX6_hasShape yX6_hasShape, .code yX6_hasShape cX6_hasShape 2 (some .boolean), .fieldLink RX6 9 "LampShapes$Stage" "shapes" "I", .methodLink RX4 163 yX6_setTorn, .instanceMethod yX6_setTorn, .selects RX6 yX6_setTorn yX6_setTorn, .code yX6_setTorn cX6_setTorn 3 none, .fieldLink RX6 22 "LampShapes$Stage" "tornShapes" "I", .methodLink RX4 85 yX4_holdItem, .instanceMethod yX4_holdItem, .selects RX4 yX4_holdItem yX4_holdItem, .code yX4_holdItem cX4_holdItem 7 (some .boolean), .methodLink RX4 132 yX6_freeHold, .instanceMethod yX6_freeHold, .selects RX6 yX6_freeHold yX6_freeHold, .code yX6_freeHold cX6_freeHold 1 (some .int), .methodLink RX6 66 yX6_holdOf, .instanceMethod yX6_holdOf, .selects RX6 yX6_holdOf yX6_holdOf, .code yX6_holdOf cX6_holdOf 3 (some .int), .methodLink RX4 141 yX6_holdOf, .methodLink RX4 146 yX4_numberWithin, .instanceMethod yX4_numberWithin, .selects RX4 yX4_numberWithin yX4_numberWithin, .code yX4_numberWithin cX4_numberWithin 4 (some .int), .methodLink RX4 153 yX1_placingAt, .static yX1_placingAt, .initialized RX1, .code yX1_placingAt cX1_placingAt 3 (some .int), .methodLink RX4 159 yX6_take, .methodLink RX4 80 yX4_sceneItem, .instanceMethod yX4_sceneItem, .selects RX4 yX4_sceneItem yX4_sceneItem, .code yX4_sceneItem cX4_sceneItem 1 (some .boolean), .methodLink RX4 125 yX6_hasRoomForScene, .instanceMethod yX6_hasRoomForScene, .selects RX6 yX6_hasRoomForScene yX6_hasRoomForScene, .code yX6_hasRoomForScene cX6_hasRoomForScene 1 (some .boolean), .fieldLink RX6 31 "LampShapes$Stage" "scenes" "I", .methodLink RX4 118 yX4_drawnRows, .instanceMethod yX4_drawnRows, .selects RX4 yX4_drawnRows yX4_drawnRows, .code yX4_drawnRows cX4_drawnRows 4 (some .boolean), .fieldLink RX4 35 "LampShapes$Script" "drawn" "J", .methodLink RX4 128 yX6_addScene, .instanceMethod yX6_addScene, .selects RX6 yX6_addScene yX6_addScene, .code yX6_addScene cX6_addScene 3 (some .int), .fieldLink RX6 34 "LampShapes$Stage" "pictures" "[J", .methodLink RX4 70 yX4_shapeItem, .instanceMethod yX4_shapeItem, .selects RX4 yX4_shapeItem yX4_shapeItem, .code yX4_shapeItem cX4_shapeItem 2 (some .boolean), .methodLink RX4 115 yX6_hasRoomForShape, .instanceMethod yX6_hasRoomForShape, .selects RX6 yX6_hasRoomForShape yX6_hasRoomForShape, .code yX6_hasRoomForShape cX6_hasRoomForShape 1 (some .boolean), .methodLink RX4 121 yX6_addShape, .instanceMethod yX6_addShape, .selects RX6 yX6_addShape yX6_addShape, .code yX6_addShape cX6_addShape 3 (some .int), .fieldLink RX6 15 "LampShapes$Stage" "kinds" "[I", .fieldLink RX6 19 "LampShapes$Stage" "points" "[I"] : List Cond) ++ wsX40 ++ wsX70 ++ wsX60)
set_option maxRecDepth 20000 in
theorem g_q_perform_q_advance_39 : GoodIn w_q_perform (wsV RX4 39 RX4 yX4_advance w_q_advance) := goodIn_r _ [2, 3, 4, 5, 6, 1, 7, 8, 9, 10, 5, 11, 12, 171, 172, 173, 174, 175, 176, 177, 178] rfl (by decide +kernel)
set_option maxRecDepth 20000 in
theorem g_q_perform_q_item_42 : GoodIn w_q_perform (wsV RX4 42 RX4 yX4_item w_q_item) := goodIn_r _ [13, 14, 15, 5, 16, 17, 18, 19, 5, 20, 21, 22, 23, 24, 12, 1, 7, 25, 26, 27, 28, 29, 30, 31, 32, 33, 34, 35, 36, 8, 37, 38, 39, 40, 41, 42, 43, 44, 45, 46, 47, 48, 49, 50, 51, 52, 53, 54, 55, 56, 57, 58, 59, 60, 61, 62, 63, 64, 65, 66, 67, 68, 69, 70, 71, 72, 73, 74, 75, 76, 77, 2, 3, 4, 6, 9, 10, 11, 78, 79, 80, 81, 82, 83, 84, 85, 86, 87, 88, 89, 90, 91, 92, 93, 94, 95, 96, 97, 98, 99, 100, 101, 102, 103, 104, 105, 106, 107, 108, 109, 110, 111, 112, 113, 114, 115, 116, 117, 118, 119, 120, 121, 122, 123, 124, 125, 126, 127, 128, 129, 130, 131, 132, 133, 134, 135, 136, 137, 138, 139, 140, 141, 142, 143, 144, 145, 146, 147, 148, 149, 150, 151, 152, 153, 154, 155, 156, 157, 158, 159, 160, 161, 162, 163, 164, 165, 166, 167, 168, 169, 170, 171, 172, 173, 174, 175, 176, 177, 178, 179, 180, 181, 182, 183, 184, 185, 186, 187] rfl (by decide +kernel)
set_option maxHeartbeats 4000000 in
set_option maxRecDepth 100000 in
theorem q_perform (l : Launch) (dC : Nat → ClassId) (dI : Nat → Nat → Nat) (ad : Nat → Nat) (h0 : Nat) (eh : Nat) (dh : Nat) (tk : Int32) (stt : Int32) (en : Int32) (dr : Int64) (ts : Int32) (q0 : Nat) (c0 : ClassId) (f0 : Nat → Int32) (sh : Int32) (q1 : Nat) (q2 : Nat) (tn : Int32) (q3 : Nat) (q4 : Nat) (sc : Int32) (q5 : Nat) (al : Int32) (c1 : ClassId) (f1 : Nat → Int32) (c2 : ClassId) (f2 : Nat → Int32) (c3 : ClassId) (f3 : Nat → Int32) (c4 : ClassId) (f4 : Nat → Int32) (c5 : ClassId) (f5 : Nat → Int64) (sz : Nat) (hts2 : 0 ≤ ts.toInt ∧ ts.toInt ≤ 120) (hsh : 0 ≤ sh.toInt ∧ sh.toInt ≤ 9) (hsc : 0 ≤ sc.toInt ∧ sc.toInt ≤ 7) : Met l yX4_perform w_q_perform ({ frames := 8, cells := 0, slots := 0, locals := 175 } : Room) (va_Pc [.ref h0] (preT dC dI ad [(c0, .int), (c1, .int), (c2, .int), (c3, .int), (c4, .int), (c5, .long)] [(h0, .inr (2, [.ref eh, .ref dh, .int tk, .int stt, .int en, .long dr])), (eh, .inr (5, [.int ts, .ref q0])), (q0, .inl (c0, 120, .inl f0)), (dh, .inr (4, [.int sh, .ref q1, .ref q2, .int tn, .ref q3, .ref q4, .int sc, .ref q5, .int al])), (q1, .inl (c1, 9, .inl f1)), (q2, .inl (c2, 9, .inl f2)), (q3, .inl (c3, 4, .inl f3)), (q4, .inl (c4, 4, .inl f4)), (q5, .inl (c5, 7, .inr (.inl f5)))] sz)) (va_Qi (fun (r : Int32) (_ : Unit) => True) (fun _ t => ∃ (tk2 : Int32), ∃ (st2 : Int32), ∃ (en2 : Int32), ∃ (dr2 : Int64), ∃ (sh2 : Int32), ∃ (tn2 : Int32), ∃ (sc2 : Int32), ∃ (g1 : Nat → Int32), ∃ (g2 : Nat → Int32), ∃ (g3 : Nat → Int32), ∃ (g4 : Nat → Int32), ∃ (g5 : Nat → Int64), (0 ≤ sh2.toInt ∧ sh2.toInt ≤ 9) ∧ (0 ≤ sc2.toInt ∧ sc2.toInt ≤ 7) ∧ va_P (dC, dI) vwCl [(h0, .inr (2, [.ref eh, .ref dh, .int tk2, .int st2, .int en2, .long dr2])), (eh, .inr (5, [.int ts, .ref q0])), (q0, .inl (c0, 120, .inl f0)), (dh, .inr (4, [.int sh2, .ref q1, .ref q2, .int tn2, .ref q3, .ref q4, .int sc2, .ref q5, .int al])), (q1, .inl (c1, 9, .inl g1)), (q2, .inl (c2, 9, .inl g2)), (q3, .inl (c3, 4, .inl g3)), (q4, .inl (c4, 4, .inl g4)), (q5, .inl (c5, 7, .inr (.inl g5)))] t.heap ∧ va_K (dC, dI) vwCl [(c0, .int), (c1, .int), (c2, .int), (c3, .int), (c4, .int), (c5, .long)] t ∧ va_D (va_A [(h0, .inr (2, [.ref eh, .ref dh, .int tk, .int stt, .int en, .long dr])), (eh, .inr (5, [.int ts, .ref q0])), (q0, .inl (c0, 120, .inl f0)), (dh, .inr (4, [.int sh, .ref q1, .ref q2, .int tn, .ref q3, .ref q4, .int sc, .ref q5, .int al])), (q1, .inl (c1, 9, .inl f1)), (q2, .inl (c2, 9, .inl f2)), (q3, .inl (c3, 4, .inl f3)), (q4, .inl (c4, 4, .inl f4)), (q5, .inl (c5, 7, .inr (.inl f5)))] sz) [(h0, .inr (2, [.ref eh, .ref dh, .int tk2, .int st2, .int en2, .long dr2])), (eh, .inr (5, [.int ts, .ref q0])), (q0, .inl (c0, 120, .inl f0)), (dh, .inr (4, [.int sh2, .ref q1, .ref q2, .int tn2, .ref q3, .ref q4, .int sc2, .ref q5, .int al])), (q1, .inl (c1, 9, .inl g1)), (q2, .inl (c2, 9, .inl g2)), (q3, .inl (c3, 4, .inl g3)), (q4, .inl (c4, 4, .inl g4)), (q5, .inl (c5, 7, .inr (.inl g5)))]) (va_A [(h0, .inr (2, [.ref eh, .ref dh, .int tk, .int stt, .int en, .long dr])), (eh, .inr (5, [.int ts, .ref q0])), (q0, .inl (c0, 120, .inl f0)), (dh, .inr (4, [.int sh, .ref q1, .ref q2, .int tn, .ref q3, .ref q4, .int sc, .ref q5, .int al])), (q1, .inl (c1, 9, .inl f1)), (q2, .inl (c2, 9, .inl f2)), (q3, .inl (c3, 4, .inl f3)), (q4, .inl (c4, 4, .inl f4)), (q5, .inl (c5, 7, .inr (.inl f5)))] sz)) 0 0 (va_A [(h0, .inr (2, [.ref eh, .ref dh, .int tk, .int stt, .int en, .long dr])), (eh, .inr (5, [.int ts, .ref q0])), (q0, .inl (c0, 120, .inl f0)), (dh, .inr (4, [.int sh, .ref q1, .ref q2, .int tn, .ref q3, .ref q4, .int sc, .ref q5, .int al])), (q1, .inl (c1, 9, .inl f1)), (q2, .inl (c2, 9, .inl f2)), (q3, .inl (c3, 4, .inl f3)), (q4, .inl (c4, 4, .inl f4)), (q5, .inl (c5, 7, .inr (.inl f5)))] sz) := by
  refine Met.ofW (cc := cX4_perform) (maxL := 2) (ret := (some .int)) (by decide) rfl ?_
  intro p e s m args below meth c s₁ B hml hv
  obtain ⟨rfl, ⟨hsz, hP, hK, hD0, hev⟩, hsf⟩ := hv
  have hx := B.exec
  have hb := B.bytes
  have hr := B.returns
  have hts := atoms_spec (ws := w_q_perform) B.pre
  have hown : s.vm.findClass RX4 = some m.cls := findClass_of_methodNamed B.named
  have hlocks := B.notSynchronized
  have inX4 : ∀ w ∈ wsX40, w ∈ w_q_perform := fun w h => List.mem_cons_of_mem _ (List.mem_append_left _ (List.mem_append_left _ (List.mem_append_right _ h)))
  have inX7 : ∀ w ∈ wsX70, w ∈ w_q_perform := fun w h => List.mem_cons_of_mem _ (List.mem_append_left _ (List.mem_append_right _ h))
  have inX6 : ∀ w ∈ wsX60, w ∈ w_q_perform := fun w h => List.mem_cons_of_mem _ (List.mem_append_right _ h)
  subst hsz
  have hD := hD0.self (sz := s.heap.size)
  generalize hAe : va_A [(h0, .inr (2, [.ref eh, .ref dh, .int tk, .int stt, .int en, .long dr])), (eh, .inr (5, [.int ts, .ref q0])), (q0, .inl (c0, 120, .inl f0)), (dh, .inr (4, [.int sh, .ref q1, .ref q2, .int tn, .ref q3, .ref q4, .int sc, .ref q5, .int al])), (q1, .inl (c1, 9, .inl f1)), (q2, .inl (c2, 9, .inl f2)), (q3, .inl (c3, 4, .inl f3)), (q4, .inl (c4, 4, .inl f4)), (q5, .inl (c5, 7, .inr (.inl f5)))] s.heap.size = A at hD hsf ⊢
  have hA : ∀ q : Nat, s.heap.size ≤ q → A q := fun q h => by rw [← hAe]; exact Or.inr h
  have hS : va_S A s.heap s.heap [] := va_S.rf
  have hP : va_P (dC, dI) vwCl [(h0, .inr (2, [.ref eh, .ref dh, .int tk, .int stt, .int en, .long dr])), (eh, .inr (5, [.int ts, .ref q0])), (q0, .inl (c0, 120, .inl f0)), (dh, .inr (4, [.int sh, .ref q1, .ref q2, .int tn, .ref q3, .ref q4, .int sc, .ref q5, .int al])), (q1, .inl (c1, 9, .inl f1)), (q2, .inl (c2, 9, .inl f2)), (q3, .inl (c3, 4, .inl f3)), (q4, .inl (c4, 4, .inl f4)), (q5, .inl (c5, 7, .inr (.inl f5)))] s.heap := hP
  have hl := lv_entry ([.ref h0]) (n := 2) (Nat.le_of_ble_eq_true rfl)
  rw [lg_entry_eq]
  generalize (lg_sl ([.ref h0]) ++ List.replicate (2 - (lg_sl ([.ref h0])).length) Slot.unset).toArray = ls at hl ⊢
  have hl : lv_has ls 2 [(0, .ref h0)] := hl
  refine lv_aload_n hx hb dX4_perform_0 rfl (lv_at hl 0 rfl) ?_
  refine lv_iconst (v := 0) hx hb dX4_perform_1 (by decide) ?_
  refine va_put (D := (dC, dI)) (ci := 2) (v := .int 0) (ty := .int) (C := RX4) (T := TX4) (N := 6) hx hb hts inX4 tyX4 tyX4_ok nmX4 hown hK hP hD hS 0 rfl rfl 4 (by decide) (hts _ (List.mem_of_getElem? (i := 1) rfl)) (fun _ h9 => h9) rfl (by decide +kernel) rfl rfl (Nat.le_of_ble_eq_true rfl) dX4_perform_2 (fun H locs hP hD hS => ?_)
  have hP : va_P (dC, dI) vwCl [(h0, .inr (2, [.ref eh, .ref dh, .int tk, .int stt, .int 0, .long dr])), (eh, .inr (5, [.int ts, .ref q0])), (q0, .inl (c0, 120, .inl f0)), (dh, .inr (4, [.int sh, .ref q1, .ref q2, .int tn, .ref q3, .ref q4, .int sc, .ref q5, .int al])), (q1, .inl (c1, 9, .inl f1)), (q2, .inl (c2, 9, .inl f2)), (q3, .inl (c3, 4, .inl f3)), (q4, .inl (c4, 4, .inl f4)), (q5, .inl (c5, 7, .inr (.inl f5)))] H := hP
  have hD : va_D A [(h0, .inr (2, [.ref eh, .ref dh, .int tk, .int stt, .int 0, .long dr])), (eh, .inr (5, [.int ts, .ref q0])), (q0, .inl (c0, 120, .inl f0)), (dh, .inr (4, [.int sh, .ref q1, .ref q2, .int tn, .ref q3, .ref q4, .int sc, .ref q5, .int al])), (q1, .inl (c1, 9, .inl f1)), (q2, .inl (c2, 9, .inl f2)), (q3, .inl (c3, 4, .inl f3)), (q4, .inl (c4, 4, .inl f4)), (q5, .inl (c5, 7, .inr (.inl f5)))] := hD
  refine lv_aload_n hx hb dX4_perform_5 rfl (lv_at hl 0 rfl) ?_
  have hPc := hP.sub (ws' := [(h0, .inr (2, [.ref eh, .ref dh, .int tk, .int stt, .int 0, .long dr])), (eh, .inr (5, [.int ts, .ref q0])), (q0, .inl (c0, 120, .inl f0))]) [0, 1, 2] rfl
  have hKc := hK.sub (tys' := [(c0, .int)]) [0] rfl
  have hDc := hD.sub (ws' := [(h0, .inr (2, [.ref eh, .ref dh, .int tk, .int stt, .int 0, .long dr])), (eh, .inr (5, [.int ts, .ref q0])), (q0, .inl (c0, 120, .inl f0))]) [0, 1, 2] (by decide) rfl
  have hFc := va_free (wc := [(h0, .inr (2, [.ref eh, .ref dh, .int tk, .int stt, .int 0, .long dr])), (eh, .inr (5, [.int ts, .ref q0])), (q0, .inl (c0, 120, .inl f0))]) hD hS hA [0, 1, 2] rfl
  refine va_callv (va_runV (As := []) (rest := []) ⟨hx, hb, hml, hown, hts⟩ (q_advance l dC dI ad h0 eh dh tk stt 0 dr ts q0 c0 f0 H.size hts2 (by first | omega | decide | (simp only [fa_lt, fa_le, fa_eq, and_true, true_and, and_false, false_and, not_true_eq_false, not_false_eq_true, li_0, li_1, li_2, li_3, li_4, li_5, li_6, li_7, li_8, li_9, li_10, li_12, li_15, li_16, li_20, li_30, li_34, li_38, li_40, li_63, li_64, li_65, li_78, li_120, li_1000, li_4000, li_10000, li_11077, li_255, li_65535, li_m1, li_m2, li_m1000000001, li_m1000000002, li_m1000000003, li_m1000000004, li_m1000000005, li_m1000000006, li_m1000000007, or_true, true_or, or_false, false_or, implies_true, true_implies, false_implies] <;> omega))) (cwV 0 hts g_q_perform_q_advance_39 rfl rfl rfl (by decide +kernel) ⟨(Nat.le_of_ble_eq_true rfl), (Nat.le_of_ble_eq_true rfl)⟩) ⟨preM_blind, va_recv hKc hPc (ci := 2) (q0 := 0) rfl rfl, fun U hU hW => ⟨rfl, preM_at hU hW hPc hKc hDc hev⟩⟩ rfl rfl hl.1 rfl (lv_room (Nat.le_of_ble_eq_true rfl)) dX4_perform_6 ⟨(Nat.le_of_ble_eq_true rfl), (Nat.le_of_ble_eq_true rfl)⟩) hS (fun q _ h => hFc q h) hFc (fun u t H1 locs ht hvm hw hB hz1 hk1 hS => ?_)
  obtain ⟨tk_2, st_3, en_4, hq_5, hP1, hK1, hD1⟩ := hB
  rw [ht] at hP1
  have hK1 := va_K.moved hvm.symm hK1
  obtain ⟨hP, hD⟩ := va_join (wr := [(dh, .inr (4, [.int sh, .ref q1, .ref q2, .int tn, .ref q3, .ref q4, .int sc, .ref q5, .int al])), (q1, .inl (c1, 9, .inl f1)), (q2, .inl (c2, 9, .inl f2)), (q3, .inl (c3, 4, .inl f3)), (q4, .inl (c4, 4, .inl f4)), (q5, .inl (c5, 7, .inr (.inl f5)))]) (w1 := [(h0, .inr (2, [.ref eh, .ref dh, .int tk_2, .int st_3, .int en_4, .long dr])), (eh, .inr (5, [.int ts, .ref q0])), (q0, .inl (c0, 120, .inl f0))]) hP hD [0, 1, 2] [3, 4, 5, 6, 7, 8] rfl rfl (by decide) (by decide) hk1 hFc hP1 hD1
  generalize H1 = H at hP hS ⊢
  have hP : va_P (dC, dI) vwCl [(dh, .inr (4, [.int sh, .ref q1, .ref q2, .int tn, .ref q3, .ref q4, .int sc, .ref q5, .int al])), (q1, .inl (c1, 9, .inl f1)), (q2, .inl (c2, 9, .inl f2)), (q3, .inl (c3, 4, .inl f3)), (q4, .inl (c4, 4, .inl f4)), (q5, .inl (c5, 7, .inr (.inl f5))), (h0, .inr (2, [.ref eh, .ref dh, .int tk_2, .int st_3, .int en_4, .long dr])), (eh, .inr (5, [.int ts, .ref q0])), (q0, .inl (c0, 120, .inl f0))] H := hP
  have hD : va_D A [(dh, .inr (4, [.int sh, .ref q1, .ref q2, .int tn, .ref q3, .ref q4, .int sc, .ref q5, .int al])), (q1, .inl (c1, 9, .inl f1)), (q2, .inl (c2, 9, .inl f2)), (q3, .inl (c3, 4, .inl f3)), (q4, .inl (c4, 4, .inl f4)), (q5, .inl (c5, 7, .inr (.inl f5))), (h0, .inr (2, [.ref eh, .ref dh, .int tk_2, .int st_3, .int en_4, .long dr])), (eh, .inr (5, [.int ts, .ref q0])), (q0, .inl (c0, 120, .inl f0))] := hD
  refine lv_iconst (v := 1) hx hb dX4_perform_9 (by decide) ?_
  refine lv_istore_n (lv' := [(1, .int 1), (0, .ref h0)]) hx hb dX4_perform_10 rfl hl (by decide) rfl (fun ls hl => ?_)
  refine pp_loop (ι := Int32 × Int32 × Int32 × Int32 × Int64 × Int32 × Int32 × Int32 × (Nat → Int32) × (Nat → Int32) × (Nat → Int32) × (Nat → Int32) × (Nat → Int64)) (fun ⟨v1_11, ty, sy, ey, dy, ysh, ytn, ysc, z1, z2, z3, z4, z5⟩ => (120 + 1 - v1_11.toInt).toNat) (fun ⟨v1_11, ty, sy, ey, dy, ysh, ytn, ysc, z1, z2, z3, z4, z5⟩ H locs ls => (0 ≤ sy.toInt ∧ ey.toInt ≤ ts.toInt ∧ sy.toInt ≤ ey.toInt) ∧ (0 ≤ ysh.toInt ∧ ysh.toInt ≤ 9) ∧ (0 ≤ ysc.toInt ∧ ysc.toInt ≤ 7) ∧ (1 ≤ v1_11.toInt) ∧ (v1_11.toInt ≤ 121) ∧ va_P (dC, dI) vwCl [(dh, .inr (4, [.int ysh, .ref q1, .ref q2, .int ytn, .ref q3, .ref q4, .int ysc, .ref q5, .int al])), (q1, .inl (c1, 9, .inl z1)), (q2, .inl (c2, 9, .inl z2)), (q3, .inl (c3, 4, .inl z3)), (q4, .inl (c4, 4, .inl z4)), (q5, .inl (c5, 7, .inr (.inl z5))), (h0, .inr (2, [.ref eh, .ref dh, .int ty, .int sy, .int ey, .long dy])), (eh, .inr (5, [.int ts, .ref q0])), (q0, .inl (c0, 120, .inl f0))] H ∧ va_D A [(dh, .inr (4, [.int ysh, .ref q1, .ref q2, .int ytn, .ref q3, .ref q4, .int ysc, .ref q5, .int al])), (q1, .inl (c1, 9, .inl z1)), (q2, .inl (c2, 9, .inl z2)), (q3, .inl (c3, 4, .inl z3)), (q4, .inl (c4, 4, .inl z4)), (q5, .inl (c5, 7, .inr (.inl z5))), (h0, .inr (2, [.ref eh, .ref dh, .int ty, .int sy, .int ey, .long dy])), (eh, .inr (5, [.int ts, .ref q0])), (q0, .inl (c0, 120, .inl f0))] ∧ va_S A s.heap H locs ∧ lv_has ls 2 [(1, .int v1_11), (0, .ref h0)]) ?_ (1, tk_2, st_3, en_4, dr, sh, tn, sc, f1, f2, f3, f4, f5) _ _ _ ⟨(by first | omega | decide | (simp only [fa_lt, fa_le, fa_eq, and_true, true_and, and_false, false_and, not_true_eq_false, not_false_eq_true, li_0, li_1, li_2, li_3, li_4, li_5, li_6, li_7, li_8, li_9, li_10, li_12, li_15, li_16, li_20, li_30, li_34, li_38, li_40, li_63, li_64, li_65, li_78, li_120, li_1000, li_4000, li_10000, li_11077, li_255, li_65535, li_m1, li_m2, li_m1000000001, li_m1000000002, li_m1000000003, li_m1000000004, li_m1000000005, li_m1000000006, li_m1000000007, or_true, true_or, or_false, false_or, implies_true, true_implies, false_implies] <;> omega)), (by first | omega | decide | (simp only [fa_lt, fa_le, fa_eq, and_true, true_and, and_false, false_and, not_true_eq_false, not_false_eq_true, li_0, li_1, li_2, li_3, li_4, li_5, li_6, li_7, li_8, li_9, li_10, li_12, li_15, li_16, li_20, li_30, li_34, li_38, li_40, li_63, li_64, li_65, li_78, li_120, li_1000, li_4000, li_10000, li_11077, li_255, li_65535, li_m1, li_m2, li_m1000000001, li_m1000000002, li_m1000000003, li_m1000000004, li_m1000000005, li_m1000000006, li_m1000000007, or_true, true_or, or_false, false_or, implies_true, true_implies, false_implies] <;> omega)), (by first | omega | decide | (simp only [fa_lt, fa_le, fa_eq, and_true, true_and, and_false, false_and, not_true_eq_false, not_false_eq_true, li_0, li_1, li_2, li_3, li_4, li_5, li_6, li_7, li_8, li_9, li_10, li_12, li_15, li_16, li_20, li_30, li_34, li_38, li_40, li_63, li_64, li_65, li_78, li_120, li_1000, li_4000, li_10000, li_11077, li_255, li_65535, li_m1, li_m2, li_m1000000001, li_m1000000002, li_m1000000003, li_m1000000004, li_m1000000005, li_m1000000006, li_m1000000007, or_true, true_or, or_false, false_or, implies_true, true_implies, false_implies] <;> omega)), (by first | omega | decide | (simp only [fa_lt, fa_le, fa_eq, and_true, true_and, and_false, false_and, not_true_eq_false, not_false_eq_true, li_0, li_1, li_2, li_3, li_4, li_5, li_6, li_7, li_8, li_9, li_10, li_12, li_15, li_16, li_20, li_30, li_34, li_38, li_40, li_63, li_64, li_65, li_78, li_120, li_1000, li_4000, li_10000, li_11077, li_255, li_65535, li_m1, li_m2, li_m1000000001, li_m1000000002, li_m1000000003, li_m1000000004, li_m1000000005, li_m1000000006, li_m1000000007, or_true, true_or, or_false, false_or, implies_true, true_implies, false_implies] <;> omega)), (by first | omega | decide | (simp only [fa_lt, fa_le, fa_eq, and_true, true_and, and_false, false_and, not_true_eq_false, not_false_eq_true, li_0, li_1, li_2, li_3, li_4, li_5, li_6, li_7, li_8, li_9, li_10, li_12, li_15, li_16, li_20, li_30, li_34, li_38, li_40, li_63, li_64, li_65, li_78, li_120, li_1000, li_4000, li_10000, li_11077, li_255, li_65535, li_m1, li_m2, li_m1000000001, li_m1000000002, li_m1000000003, li_m1000000004, li_m1000000005, li_m1000000006, li_m1000000007, or_true, true_or, or_false, false_or, implies_true, true_implies, false_implies] <;> omega)), hP.sub [0, 1, 2, 3, 4, 5, 6, 7, 8] rfl, hD.sub [0, 1, 2, 3, 4, 5, 6, 7, 8] (by decide) rfl, hS, lv_sub hl [0, 1] rfl⟩
  intro k_6 ihk_6 u H locs ls hm hI
  obtain ⟨v1_11, ty, sy, ey, dy, ysh, ytn, ysc, z1, z2, z3, z4, z5⟩ := u
  obtain ⟨jk_6_0, jk_6_1, jk_6_2, jk_6_3, jk_6_4, hP, hD, hS, hl⟩ := hI
  have hmk_6 : (120 + 1 - v1_11.toInt).toNat < k_6 + 1 := hm
  clear hm
  have jk_6_0 : 0 ≤ sy.toInt ∧ ey.toInt ≤ ts.toInt ∧ sy.toInt ≤ ey.toInt := jk_6_0
  have jk_6_1 : 0 ≤ ysh.toInt ∧ ysh.toInt ≤ 9 := jk_6_1
  have jk_6_2 : 0 ≤ ysc.toInt ∧ ysc.toInt ≤ 7 := jk_6_2
  have jk_6_3 : 1 ≤ v1_11.toInt := jk_6_3
  have jk_6_4 : v1_11.toInt ≤ 121 := jk_6_4
  have hl : lv_has ls 2 [(1, .int v1_11), (0, .ref h0)] := hl
  have hP : va_P (dC, dI) vwCl [(dh, .inr (4, [.int ysh, .ref q1, .ref q2, .int ytn, .ref q3, .ref q4, .int ysc, .ref q5, .int al])), (q1, .inl (c1, 9, .inl z1)), (q2, .inl (c2, 9, .inl z2)), (q3, .inl (c3, 4, .inl z3)), (q4, .inl (c4, 4, .inl z4)), (q5, .inl (c5, 7, .inr (.inl z5))), (h0, .inr (2, [.ref eh, .ref dh, .int ty, .int sy, .int ey, .long dy])), (eh, .inr (5, [.int ts, .ref q0])), (q0, .inl (c0, 120, .inl f0))] H := hP
  have hD : va_D A [(dh, .inr (4, [.int ysh, .ref q1, .ref q2, .int ytn, .ref q3, .ref q4, .int ysc, .ref q5, .int al])), (q1, .inl (c1, 9, .inl z1)), (q2, .inl (c2, 9, .inl z2)), (q3, .inl (c3, 4, .inl z3)), (q4, .inl (c4, 4, .inl z4)), (q5, .inl (c5, 7, .inr (.inl z5))), (h0, .inr (2, [.ref eh, .ref dh, .int ty, .int sy, .int ey, .long dy])), (eh, .inr (5, [.int ts, .ref q0])), (q0, .inl (c0, 120, .inl f0))] := hD
  refine lv_iload_n hx hb dX4_perform_11 rfl (lv_at hl 0 rfl) ?_
  refine lv_bipush (v := 120) hx hb dX4_perform_12 (by decide) ?_
  refine lv_icmp_gt (tgt := 65) hx hb dX4_perform_14 (by decide) (fun c_7 => ?_) (fun c_7 => ?_)
  · skip
    have tc_7 : 120 < v1_11.toInt := (fa_lt _ _).mp c_7
    refine lv_iconst (v := (-1)) hx hb dX4_perform_65 (by decide) ?_
    refine lv_aload_n hx hb dX4_perform_66 rfl (lv_at hl 1 rfl) ?_
    refine va_get (D := (dC, dI)) (ci := 2) (v := .int sy) (C := RX4) (T := TX4) (N := 6) hx hb hts inX4 hown hK hP 6 rfl rfl 3 (by decide) (hts _ (List.mem_of_getElem? (i := 7) rfl)) (fun _ h9 => h9) rfl dX4_perform_67 ?_
    refine lv_isub hx hb dX4_perform_70 ?_
    refine lv_topi (fun n_8 en_8 => ?_)
    have tn_8 : n_8.toInt = (-1) - sy.toInt := pp_sub en_8 rfl rfl (by omega) (by omega)
    clear en_8
    have hP9 := hP.sub (ws' := [(h0, .inr (2, [.ref eh, .ref dh, .int ty, .int sy, .int ey, .long dy])), (eh, .inr (5, [.int ts, .ref q0])), (q0, .inl (c0, 120, .inl f0)), (dh, .inr (4, [.int ysh, .ref q1, .ref q2, .int ytn, .ref q3, .ref q4, .int ysc, .ref q5, .int al])), (q1, .inl (c1, 9, .inl z1)), (q2, .inl (c2, 9, .inl z2)), (q3, .inl (c3, 4, .inl z3)), (q4, .inl (c4, 4, .inl z4)), (q5, .inl (c5, 7, .inr (.inl z5)))]) [6, 7, 8, 0, 1, 2, 3, 4, 5] rfl
    have hD9 := hD.sub (ws' := [(h0, .inr (2, [.ref eh, .ref dh, .int ty, .int sy, .int ey, .long dy])), (eh, .inr (5, [.int ts, .ref q0])), (q0, .inl (c0, 120, .inl f0)), (dh, .inr (4, [.int ysh, .ref q1, .ref q2, .int ytn, .ref q3, .ref q4, .int ysc, .ref q5, .int al])), (q1, .inl (c1, 9, .inl z1)), (q2, .inl (c2, 9, .inl z2)), (q3, .inl (c3, 4, .inl z3)), (q4, .inl (c4, 4, .inl z4)), (q5, .inl (c5, 7, .inr (.inl z5)))]) [6, 7, 8, 0, 1, 2, 3, 4, 5] (by decide) rfl
    have hK9 := hK.sub (tys' := [(c0, .int), (c1, .int), (c2, .int), (c3, .int), (c4, .int), (c5, .long)]) [0, 1, 2, 3, 4, 5] rfl
    exact W.iret (v := n_8) hx hb hr (fun t ht hW => ⟨⟨n_8, (), rfl, trivial, ty, sy, ey, dy, ysh, ytn, ysc, z1, z2, z3, z4, z5, (by first | omega | decide | (simp only [fa_lt, fa_le, fa_eq, and_true, true_and, and_false, false_and, not_true_eq_false, not_false_eq_true, li_0, li_1, li_2, li_3, li_4, li_5, li_6, li_7, li_8, li_9, li_10, li_12, li_15, li_16, li_20, li_30, li_34, li_38, li_40, li_63, li_64, li_65, li_78, li_120, li_1000, li_4000, li_10000, li_11077, li_255, li_65535, li_m1, li_m2, li_m1000000001, li_m1000000002, li_m1000000003, li_m1000000004, li_m1000000005, li_m1000000006, li_m1000000007, or_true, true_or, or_false, false_or, implies_true, true_implies, false_implies] <;> omega)), (by first | omega | decide | (simp only [fa_lt, fa_le, fa_eq, and_true, true_and, and_false, false_and, not_true_eq_false, not_false_eq_true, li_0, li_1, li_2, li_3, li_4, li_5, li_6, li_7, li_8, li_9, li_10, li_12, li_15, li_16, li_20, li_30, li_34, li_38, li_40, li_63, li_64, li_65, li_78, li_120, li_1000, li_4000, li_10000, li_11077, li_255, li_65535, li_m1, li_m2, li_m1000000001, li_m1000000002, li_m1000000003, li_m1000000004, li_m1000000005, li_m1000000006, li_m1000000007, or_true, true_or, or_false, false_or, implies_true, true_implies, false_implies] <;> omega)), by rw [ht]; exact hP9, va_K.moved hW.alike hK9, hD9⟩, hS.F ht⟩) hS.2.2 dX4_perform_71
  · skip
    have tc_7 : ¬ 120 < v1_11.toInt := fun h => c_7 ((fa_lt _ _).mpr h)
    refine lv_aload_n hx hb dX4_perform_17 rfl (lv_at hl 1 rfl) ?_
    have hPc := hP.sub (ws' := [(h0, .inr (2, [.ref eh, .ref dh, .int ty, .int sy, .int ey, .long dy])), (eh, .inr (5, [.int ts, .ref q0])), (q0, .inl (c0, 120, .inl f0)), (dh, .inr (4, [.int ysh, .ref q1, .ref q2, .int ytn, .ref q3, .ref q4, .int ysc, .ref q5, .int al])), (q1, .inl (c1, 9, .inl z1)), (q2, .inl (c2, 9, .inl z2)), (q3, .inl (c3, 4, .inl z3)), (q4, .inl (c4, 4, .inl z4)), (q5, .inl (c5, 7, .inr (.inl z5)))]) [6, 7, 8, 0, 1, 2, 3, 4, 5] rfl
    have hKc := hK.sub (tys' := [(c0, .int), (c1, .int), (c2, .int), (c3, .int), (c4, .int), (c5, .long)]) [0, 1, 2, 3, 4, 5] rfl
    have hDc := hD.sub (ws' := [(h0, .inr (2, [.ref eh, .ref dh, .int ty, .int sy, .int ey, .long dy])), (eh, .inr (5, [.int ts, .ref q0])), (q0, .inl (c0, 120, .inl f0)), (dh, .inr (4, [.int ysh, .ref q1, .ref q2, .int ytn, .ref q3, .ref q4, .int ysc, .ref q5, .int al])), (q1, .inl (c1, 9, .inl z1)), (q2, .inl (c2, 9, .inl z2)), (q3, .inl (c3, 4, .inl z3)), (q4, .inl (c4, 4, .inl z4)), (q5, .inl (c5, 7, .inr (.inl z5)))]) [6, 7, 8, 0, 1, 2, 3, 4, 5] (by decide) rfl
    have hFc := va_free (wc := [(h0, .inr (2, [.ref eh, .ref dh, .int ty, .int sy, .int ey, .long dy])), (eh, .inr (5, [.int ts, .ref q0])), (q0, .inl (c0, 120, .inl f0)), (dh, .inr (4, [.int ysh, .ref q1, .ref q2, .int ytn, .ref q3, .ref q4, .int ysc, .ref q5, .int al])), (q1, .inl (c1, 9, .inl z1)), (q2, .inl (c2, 9, .inl z2)), (q3, .inl (c3, 4, .inl z3)), (q4, .inl (c4, 4, .inl z4)), (q5, .inl (c5, 7, .inr (.inl z5)))]) hD hS hA [6, 7, 8, 0, 1, 2, 3, 4, 5] rfl
    refine va_calli (va_runV (As := []) (rest := []) ⟨hx, hb, hml, hown, hts⟩ (q_item l dC dI ad h0 eh dh ty sy ey dy ts q0 c0 f0 ysh q1 q2 ytn q3 q4 ysc q5 al c1 z1 c2 z2 c3 z3 c4 z4 c5 z5 H.size hts2 (by first | omega | decide | (simp only [fa_lt, fa_le, fa_eq, and_true, true_and, and_false, false_and, not_true_eq_false, not_false_eq_true, li_0, li_1, li_2, li_3, li_4, li_5, li_6, li_7, li_8, li_9, li_10, li_12, li_15, li_16, li_20, li_30, li_34, li_38, li_40, li_63, li_64, li_65, li_78, li_120, li_1000, li_4000, li_10000, li_11077, li_255, li_65535, li_m1, li_m2, li_m1000000001, li_m1000000002, li_m1000000003, li_m1000000004, li_m1000000005, li_m1000000006, li_m1000000007, or_true, true_or, or_false, false_or, implies_true, true_implies, false_implies] <;> omega)) (by first | omega | decide | (simp only [fa_lt, fa_le, fa_eq, and_true, true_and, and_false, false_and, not_true_eq_false, not_false_eq_true, li_0, li_1, li_2, li_3, li_4, li_5, li_6, li_7, li_8, li_9, li_10, li_12, li_15, li_16, li_20, li_30, li_34, li_38, li_40, li_63, li_64, li_65, li_78, li_120, li_1000, li_4000, li_10000, li_11077, li_255, li_65535, li_m1, li_m2, li_m1000000001, li_m1000000002, li_m1000000003, li_m1000000004, li_m1000000005, li_m1000000006, li_m1000000007, or_true, true_or, or_false, false_or, implies_true, true_implies, false_implies] <;> omega)) (by first | omega | decide | (simp only [fa_lt, fa_le, fa_eq, and_true, true_and, and_false, false_and, not_true_eq_false, not_false_eq_true, li_0, li_1, li_2, li_3, li_4, li_5, li_6, li_7, li_8, li_9, li_10, li_12, li_15, li_16, li_20, li_30, li_34, li_38, li_40, li_63, li_64, li_65, li_78, li_120, li_1000, li_4000, li_10000, li_11077, li_255, li_65535, li_m1, li_m2, li_m1000000001, li_m1000000002, li_m1000000003, li_m1000000004, li_m1000000005, li_m1000000006, li_m1000000007, or_true, true_or, or_false, false_or, implies_true, true_implies, false_implies] <;> omega))) (cwV 0 hts g_q_perform_q_item_42 rfl rfl rfl (by decide +kernel) ⟨(Nat.le_of_ble_eq_true rfl), (Nat.le_of_ble_eq_true rfl)⟩) ⟨preT_blind, va_recv hKc hPc (ci := 2) (q0 := 0) rfl rfl, fun U hU hW => ⟨rfl, preM_at hU hW hPc hKc hDc hev, sf_at hsf hS hFc hU hW⟩⟩ rfl rfl hl.1 rfl (lv_room (Nat.le_of_ble_eq_true rfl)) dX4_perform_18 ⟨(Nat.le_of_ble_eq_true rfl), (Nat.le_of_ble_eq_true rfl)⟩) hS (fun q _ h => hFc q h) hFc (fun r_9 u t H1 locs ht hvm hw hB hz1 hk1 hS => ?_)
    obtain ⟨tk_10, st_11, en_12, dr_13, sh_14, tn_15, sc_16, g_17, g_18, g_19, g_20, g_21, hq_22, hq_23, hq_24, hP1, hK1, hD1⟩ := hB
    rw [ht] at hP1
    have hK1 := va_K.moved hvm.symm hK1
    obtain ⟨hP, hD⟩ := va_join (wr := []) (w1 := [(h0, .inr (2, [.ref eh, .ref dh, .int tk_10, .int st_11, .int en_12, .long dr_13])), (eh, .inr (5, [.int ts, .ref q0])), (q0, .inl (c0, 120, .inl f0)), (dh, .inr (4, [.int sh_14, .ref q1, .ref q2, .int tn_15, .ref q3, .ref q4, .int sc_16, .ref q5, .int al])), (q1, .inl (c1, 9, .inl g_17)), (q2, .inl (c2, 9, .inl g_18)), (q3, .inl (c3, 4, .inl g_19)), (q4, .inl (c4, 4, .inl g_20)), (q5, .inl (c5, 7, .inr (.inl g_21)))]) hP hD [6, 7, 8, 0, 1, 2, 3, 4, 5] [] rfl rfl (by decide) (by decide) hk1 hFc hP1 hD1
    generalize H1 = H at hP hS ⊢
    have hP : va_P (dC, dI) vwCl [(h0, .inr (2, [.ref eh, .ref dh, .int tk_10, .int st_11, .int en_12, .long dr_13])), (eh, .inr (5, [.int ts, .ref q0])), (q0, .inl (c0, 120, .inl f0)), (dh, .inr (4, [.int sh_14, .ref q1, .ref q2, .int tn_15, .ref q3, .ref q4, .int sc_16, .ref q5, .int al])), (q1, .inl (c1, 9, .inl g_17)), (q2, .inl (c2, 9, .inl g_18)), (q3, .inl (c3, 4, .inl g_19)), (q4, .inl (c4, 4, .inl g_20)), (q5, .inl (c5, 7, .inr (.inl g_21)))] H := hP
    have hD : va_D A [(h0, .inr (2, [.ref eh, .ref dh, .int tk_10, .int st_11, .int en_12, .long dr_13])), (eh, .inr (5, [.int ts, .ref q0])), (q0, .inl (c0, 120, .inl f0)), (dh, .inr (4, [.int sh_14, .ref q1, .ref q2, .int tn_15, .ref q3, .ref q4, .int sc_16, .ref q5, .int al])), (q1, .inl (c1, 9, .inl g_17)), (q2, .inl (c2, 9, .inl g_18)), (q3, .inl (c3, 4, .inl g_19)), (q4, .inl (c4, 4, .inl g_20)), (q5, .inl (c5, 7, .inr (.inl g_21)))] := hD
    have hr_9 : r_9.toInt = 0 ∨ r_9.toInt = 1 := hw
    refine lv_if_ne (tgt := 31) hx hb dX4_perform_21 (by decide) (fun c_25 => ?_) (fun c_25 => ?_)
    · skip
      have tc_25 : ¬ r_9.toInt = 0 := fun h => c_25 ((fa_eq _ _).mpr h)
      refine lv_aload_n hx hb dX4_perform_31 rfl (lv_at hl 1 rfl) ?_
      refine va_get (D := (dC, dI)) (ci := 2) (v := .int tk_10) (C := RX4) (T := TX4) (N := 6) hx hb hts inX4 hown hK hP 0 rfl rfl 2 (by decide) (hts _ (List.mem_of_getElem? (i := 12) rfl)) (fun _ h9 => h9) rfl dX4_perform_32 ?_
      refine lv_if_ne (tgt := 40) hx hb dX4_perform_35 (by decide) (fun c_26 => ?_) (fun c_26 => ?_)
      · skip
        have tc_26 : ¬ tk_10.toInt = 0 := fun h => c_26 ((fa_eq _ _).mpr h)
        refine lv_aload_n hx hb dX4_perform_40 rfl (lv_at hl 1 rfl) ?_
        refine va_get (D := (dC, dI)) (ci := 2) (v := .int tk_10) (C := RX4) (T := TX4) (N := 6) hx hb hts inX4 hown hK hP 0 rfl rfl 2 (by decide) (hts _ (List.mem_of_getElem? (i := 12) rfl)) (fun _ h9 => h9) rfl dX4_perform_41 ?_
        refine lv_iconst (v := 4) hx hb dX4_perform_44 (by decide) ?_
        refine lv_icmp_eq (tgt := 55) hx hb dX4_perform_45 (by decide) (fun c_27 => ?_) (fun c_27 => ?_)
        · skip
          have tc_27 : tk_10.toInt = 4 := (fa_eq _ _).mp c_27
          refine lv_aload_n hx hb dX4_perform_55 rfl (lv_at hl 1 rfl) ?_
          have hPc := hP.sub (ws' := [(h0, .inr (2, [.ref eh, .ref dh, .int tk_10, .int st_11, .int en_12, .long dr_13])), (eh, .inr (5, [.int ts, .ref q0])), (q0, .inl (c0, 120, .inl f0))]) [0, 1, 2] rfl
          have hKc := hK.sub (tys' := [(c0, .int)]) [0] rfl
          have hDc := hD.sub (ws' := [(h0, .inr (2, [.ref eh, .ref dh, .int tk_10, .int st_11, .int en_12, .long dr_13])), (eh, .inr (5, [.int ts, .ref q0])), (q0, .inl (c0, 120, .inl f0))]) [0, 1, 2] (by decide) rfl
          have hFc := va_free (wc := [(h0, .inr (2, [.ref eh, .ref dh, .int tk_10, .int st_11, .int en_12, .long dr_13])), (eh, .inr (5, [.int ts, .ref q0])), (q0, .inl (c0, 120, .inl f0))]) hD hS hA [0, 1, 2] rfl
          refine va_callv (va_runV (As := []) (rest := []) ⟨hx, hb, hml, hown, hts⟩ (q_advance l dC dI ad h0 eh dh tk_10 st_11 en_12 dr_13 ts q0 c0 f0 H.size hts2 (by first | omega | decide | (simp only [fa_lt, fa_le, fa_eq, and_true, true_and, and_false, false_and, not_true_eq_false, not_false_eq_true, li_0, li_1, li_2, li_3, li_4, li_5, li_6, li_7, li_8, li_9, li_10, li_12, li_15, li_16, li_20, li_30, li_34, li_38, li_40, li_63, li_64, li_65, li_78, li_120, li_1000, li_4000, li_10000, li_11077, li_255, li_65535, li_m1, li_m2, li_m1000000001, li_m1000000002, li_m1000000003, li_m1000000004, li_m1000000005, li_m1000000006, li_m1000000007, or_true, true_or, or_false, false_or, implies_true, true_implies, false_implies] <;> omega))) (cwV 0 hts g_q_perform_q_advance_39 rfl rfl rfl (by decide +kernel) ⟨(Nat.le_of_ble_eq_true rfl), (Nat.le_of_ble_eq_true rfl)⟩) ⟨preM_blind, va_recv hKc hPc (ci := 2) (q0 := 0) rfl rfl, fun U hU hW => ⟨rfl, preM_at hU hW hPc hKc hDc hev⟩⟩ rfl rfl hl.1 rfl (lv_room (Nat.le_of_ble_eq_true rfl)) dX4_perform_56 ⟨(Nat.le_of_ble_eq_true rfl), (Nat.le_of_ble_eq_true rfl)⟩) hS (fun q _ h => hFc q h) hFc (fun u t H1 locs ht hvm hw hB hz1 hk1 hS => ?_)
          obtain ⟨tk_29, st_30, en_31, hq_32, hP1, hK1, hD1⟩ := hB
          rw [ht] at hP1
          have hK1 := va_K.moved hvm.symm hK1
          obtain ⟨hP, hD⟩ := va_join (wr := [(dh, .inr (4, [.int sh_14, .ref q1, .ref q2, .int tn_15, .ref q3, .ref q4, .int sc_16, .ref q5, .int al])), (q1, .inl (c1, 9, .inl g_17)), (q2, .inl (c2, 9, .inl g_18)), (q3, .inl (c3, 4, .inl g_19)), (q4, .inl (c4, 4, .inl g_20)), (q5, .inl (c5, 7, .inr (.inl g_21)))]) (w1 := [(h0, .inr (2, [.ref eh, .ref dh, .int tk_29, .int st_30, .int en_31, .long dr_13])), (eh, .inr (5, [.int ts, .ref q0])), (q0, .inl (c0, 120, .inl f0))]) hP hD [0, 1, 2] [3, 4, 5, 6, 7, 8] rfl rfl (by decide) (by decide) hk1 hFc hP1 hD1
          generalize H1 = H at hP hS ⊢
          have hP : va_P (dC, dI) vwCl [(dh, .inr (4, [.int sh_14, .ref q1, .ref q2, .int tn_15, .ref q3, .ref q4, .int sc_16, .ref q5, .int al])), (q1, .inl (c1, 9, .inl g_17)), (q2, .inl (c2, 9, .inl g_18)), (q3, .inl (c3, 4, .inl g_19)), (q4, .inl (c4, 4, .inl g_20)), (q5, .inl (c5, 7, .inr (.inl g_21))), (h0, .inr (2, [.ref eh, .ref dh, .int tk_29, .int st_30, .int en_31, .long dr_13])), (eh, .inr (5, [.int ts, .ref q0])), (q0, .inl (c0, 120, .inl f0))] H := hP
          have hD : va_D A [(dh, .inr (4, [.int sh_14, .ref q1, .ref q2, .int tn_15, .ref q3, .ref q4, .int sc_16, .ref q5, .int al])), (q1, .inl (c1, 9, .inl g_17)), (q2, .inl (c2, 9, .inl g_18)), (q3, .inl (c3, 4, .inl g_19)), (q4, .inl (c4, 4, .inl g_20)), (q5, .inl (c5, 7, .inr (.inl g_21))), (h0, .inr (2, [.ref eh, .ref dh, .int tk_29, .int st_30, .int en_31, .long dr_13])), (eh, .inr (5, [.int ts, .ref q0])), (q0, .inl (c0, 120, .inl f0))] := hD
          obtain ⟨n_33, en_33⟩ : ∃ y : Int32, y = v1_11 + 1 := ⟨_, rfl⟩
          have tn_33 : n_33.toInt = v1_11.toInt + 1 := pp_add en_33 rfl rfl (by omega) (by omega)
          refine lv_iinc (v := n_33) (lv' := [(1, .int n_33), (0, .ref h0)]) hx hb dX4_perform_59 hl (k := 0) rfl (by rw [en_33]; rfl) (by decide) rfl (fun ls hl => ?_)
          clear en_33
          refine lv_goto (tgt := 11) hx hb dX4_perform_62 (by decide) ?_
          exact ihk_6 (n_33, tk_29, st_30, en_31, dr_13, sh_14, tn_15, sc_16, g_17, g_18, g_19, g_20, g_21) _ _ _ (by show (120 + 1 - n_33.toInt).toNat < k_6; omega) ⟨(by first | omega | decide | (simp only [fa_lt, fa_le, fa_eq, and_true, true_and, and_false, false_and, not_true_eq_false, not_false_eq_true, li_0, li_1, li_2, li_3, li_4, li_5, li_6, li_7, li_8, li_9, li_10, li_12, li_15, li_16, li_20, li_30, li_34, li_38, li_40, li_63, li_64, li_65, li_78, li_120, li_1000, li_4000, li_10000, li_11077, li_255, li_65535, li_m1, li_m2, li_m1000000001, li_m1000000002, li_m1000000003, li_m1000000004, li_m1000000005, li_m1000000006, li_m1000000007, or_true, true_or, or_false, false_or, implies_true, true_implies, false_implies] <;> omega)), (by first | omega | decide | (simp only [fa_lt, fa_le, fa_eq, and_true, true_and, and_false, false_and, not_true_eq_false, not_false_eq_true, li_0, li_1, li_2, li_3, li_4, li_5, li_6, li_7, li_8, li_9, li_10, li_12, li_15, li_16, li_20, li_30, li_34, li_38, li_40, li_63, li_64, li_65, li_78, li_120, li_1000, li_4000, li_10000, li_11077, li_255, li_65535, li_m1, li_m2, li_m1000000001, li_m1000000002, li_m1000000003, li_m1000000004, li_m1000000005, li_m1000000006, li_m1000000007, or_true, true_or, or_false, false_or, implies_true, true_implies, false_implies] <;> omega)), (by first | omega | decide | (simp only [fa_lt, fa_le, fa_eq, and_true, true_and, and_false, false_and, not_true_eq_false, not_false_eq_true, li_0, li_1, li_2, li_3, li_4, li_5, li_6, li_7, li_8, li_9, li_10, li_12, li_15, li_16, li_20, li_30, li_34, li_38, li_40, li_63, li_64, li_65, li_78, li_120, li_1000, li_4000, li_10000, li_11077, li_255, li_65535, li_m1, li_m2, li_m1000000001, li_m1000000002, li_m1000000003, li_m1000000004, li_m1000000005, li_m1000000006, li_m1000000007, or_true, true_or, or_false, false_or, implies_true, true_implies, false_implies] <;> omega)), (by first | omega | decide | (simp only [fa_lt, fa_le, fa_eq, and_true, true_and, and_false, false_and, not_true_eq_false, not_false_eq_true, li_0, li_1, li_2, li_3, li_4, li_5, li_6, li_7, li_8, li_9, li_10, li_12, li_15, li_16, li_20, li_30, li_34, li_38, li_40, li_63, li_64, li_65, li_78, li_120, li_1000, li_4000, li_10000, li_11077, li_255, li_65535, li_m1, li_m2, li_m1000000001, li_m1000000002, li_m1000000003, li_m1000000004, li_m1000000005, li_m1000000006, li_m1000000007, or_true, true_or, or_false, false_or, implies_true, true_implies, false_implies] <;> omega)), (by first | omega | decide | (simp only [fa_lt, fa_le, fa_eq, and_true, true_and, and_false, false_and, not_true_eq_false, not_false_eq_true, li_0, li_1, li_2, li_3, li_4, li_5, li_6, li_7, li_8, li_9, li_10, li_12, li_15, li_16, li_20, li_30, li_34, li_38, li_40, li_63, li_64, li_65, li_78, li_120, li_1000, li_4000, li_10000, li_11077, li_255, li_65535, li_m1, li_m2, li_m1000000001, li_m1000000002, li_m1000000003, li_m1000000004, li_m1000000005, li_m1000000006, li_m1000000007, or_true, true_or, or_false, false_or, implies_true, true_implies, false_implies] <;> omega)), hP.sub [0, 1, 2, 3, 4, 5, 6, 7, 8] rfl, hD.sub [0, 1, 2, 3, 4, 5, 6, 7, 8] (by decide) rfl, hS, lv_sub hl [0, 1] rfl⟩
        · skip
          have tc_27 : ¬ tk_10.toInt = 4 := fun h => c_27 ((fa_eq _ _).mpr h)
          refine lv_iconst (v := (-1)) hx hb dX4_perform_48 (by decide) ?_
          refine lv_aload_n hx hb dX4_perform_49 rfl (lv_at hl 1 rfl) ?_
          refine va_get (D := (dC, dI)) (ci := 2) (v := .int st_11) (C := RX4) (T := TX4) (N := 6) hx hb hts inX4 hown hK hP 0 rfl rfl 3 (by decide) (hts _ (List.mem_of_getElem? (i := 7) rfl)) (fun _ h9 => h9) rfl dX4_perform_50 ?_
          refine lv_isub hx hb dX4_perform_53 ?_
          refine lv_topi (fun n_34 en_34 => ?_)
          have tn_34 : n_34.toInt = (-1) - st_11.toInt := pp_sub en_34 rfl rfl (by have := pp_rng st_11; omega) (by have := pp_rng st_11; omega)
          clear en_34
          have hP9 := hP.sub (ws' := [(h0, .inr (2, [.ref eh, .ref dh, .int tk_10, .int st_11, .int en_12, .long dr_13])), (eh, .inr (5, [.int ts, .ref q0])), (q0, .inl (c0, 120, .inl f0)), (dh, .inr (4, [.int sh_14, .ref q1, .ref q2, .int tn_15, .ref q3, .ref q4, .int sc_16, .ref q5, .int al])), (q1, .inl (c1, 9, .inl g_17)), (q2, .inl (c2, 9, .inl g_18)), (q3, .inl (c3, 4, .inl g_19)), (q4, .inl (c4, 4, .inl g_20)), (q5, .inl (c5, 7, .inr (.inl g_21)))]) [0, 1, 2, 3, 4, 5, 6, 7, 8] rfl
          have hD9 := hD.sub (ws' := [(h0, .inr (2, [.ref eh, .ref dh, .int tk_10, .int st_11, .int en_12, .long dr_13])), (eh, .inr (5, [.int ts, .ref q0])), (q0, .inl (c0, 120, .inl f0)), (dh, .inr (4, [.int sh_14, .ref q1, .ref q2, .int tn_15, .ref q3, .ref q4, .int sc_16, .ref q5, .int al])), (q1, .inl (c1, 9, .inl g_17)), (q2, .inl (c2, 9, .inl g_18)), (q3, .inl (c3, 4, .inl g_19)), (q4, .inl (c4, 4, .inl g_20)), (q5, .inl (c5, 7, .inr (.inl g_21)))]) [0, 1, 2, 3, 4, 5, 6, 7, 8] (by decide) rfl
          have hK9 := hK.sub (tys' := [(c0, .int), (c1, .int), (c2, .int), (c3, .int), (c4, .int), (c5, .long)]) [0, 1, 2, 3, 4, 5] rfl
          exact W.iret (v := n_34) hx hb hr (fun t ht hW => ⟨⟨n_34, (), rfl, trivial, tk_10, st_11, en_12, dr_13, sh_14, tn_15, sc_16, g_17, g_18, g_19, g_20, g_21, hq_23, hq_24, by rw [ht]; exact hP9, va_K.moved hW.alike hK9, hD9⟩, hS.F ht⟩) hS.2.2 dX4_perform_54
      · skip
        have tc_26 : tk_10.toInt = 0 := (fa_eq _ _).mp c_26
        refine lv_iload_n hx hb dX4_perform_38 rfl (lv_at hl 0 rfl) ?_
        have hP9 := hP.sub (ws' := [(h0, .inr (2, [.ref eh, .ref dh, .int tk_10, .int st_11, .int en_12, .long dr_13])), (eh, .inr (5, [.int ts, .ref q0])), (q0, .inl (c0, 120, .inl f0)), (dh, .inr (4, [.int sh_14, .ref q1, .ref q2, .int tn_15, .ref q3, .ref q4, .int sc_16, .ref q5, .int al])), (q1, .inl (c1, 9, .inl g_17)), (q2, .inl (c2, 9, .inl g_18)), (q3, .inl (c3, 4, .inl g_19)), (q4, .inl (c4, 4, .inl g_20)), (q5, .inl (c5, 7, .inr (.inl g_21)))]) [0, 1, 2, 3, 4, 5, 6, 7, 8] rfl
        have hD9 := hD.sub (ws' := [(h0, .inr (2, [.ref eh, .ref dh, .int tk_10, .int st_11, .int en_12, .long dr_13])), (eh, .inr (5, [.int ts, .ref q0])), (q0, .inl (c0, 120, .inl f0)), (dh, .inr (4, [.int sh_14, .ref q1, .ref q2, .int tn_15, .ref q3, .ref q4, .int sc_16, .ref q5, .int al])), (q1, .inl (c1, 9, .inl g_17)), (q2, .inl (c2, 9, .inl g_18)), (q3, .inl (c3, 4, .inl g_19)), (q4, .inl (c4, 4, .inl g_20)), (q5, .inl (c5, 7, .inr (.inl g_21)))]) [0, 1, 2, 3, 4, 5, 6, 7, 8] (by decide) rfl
        have hK9 := hK.sub (tys' := [(c0, .int), (c1, .int), (c2, .int), (c3, .int), (c4, .int), (c5, .long)]) [0, 1, 2, 3, 4, 5] rfl
        exact W.iret (v := v1_11) hx hb hr (fun t ht hW => ⟨⟨v1_11, (), rfl, trivial, tk_10, st_11, en_12, dr_13, sh_14, tn_15, sc_16, g_17, g_18, g_19, g_20, g_21, hq_23, hq_24, by rw [ht]; exact hP9, va_K.moved hW.alike hK9, hD9⟩, hS.F ht⟩) hS.2.2 dX4_perform_39
    · skip
      have tc_25 : r_9.toInt = 0 := (fa_eq _ _).mp c_25
      refine lv_iconst (v := (-1)) hx hb dX4_perform_24 (by decide) ?_
      refine lv_aload_n hx hb dX4_perform_25 rfl (lv_at hl 1 rfl) ?_
      refine va_get (D := (dC, dI)) (ci := 2) (v := .int st_11) (C := RX4) (T := TX4) (N := 6) hx hb hts inX4 hown hK hP 0 rfl rfl 3 (by decide) (hts _ (List.mem_of_getElem? (i := 7) rfl)) (fun _ h9 => h9) rfl dX4_perform_26 ?_
      refine lv_isub hx hb dX4_perform_29 ?_
      refine lv_topi (fun n_35 en_35 => ?_)
      have tn_35 : n_35.toInt = (-1) - st_11.toInt := pp_sub en_35 rfl rfl (by have := pp_rng st_11; omega) (by have := pp_rng st_11; omega)
      clear en_35
      have hP9 := hP.sub (ws' := [(h0, .inr (2, [.ref eh, .ref dh, .int tk_10, .int st_11, .int en_12, .long dr_13])), (eh, .inr (5, [.int ts, .ref q0])), (q0, .inl (c0, 120, .inl f0)), (dh, .inr (4, [.int sh_14, .ref q1, .ref q2, .int tn_15, .ref q3, .ref q4, .int sc_16, .ref q5, .int al])), (q1, .inl (c1, 9, .inl g_17)), (q2, .inl (c2, 9, .inl g_18)), (q3, .inl (c3, 4, .inl g_19)), (q4, .inl (c4, 4, .inl g_20)), (q5, .inl (c5, 7, .inr (.inl g_21)))]) [0, 1, 2, 3, 4, 5, 6, 7, 8] rfl
      have hD9 := hD.sub (ws' := [(h0, .inr (2, [.ref eh, .ref dh, .int tk_10, .int st_11, .int en_12, .long dr_13])), (eh, .inr (5, [.int ts, .ref q0])), (q0, .inl (c0, 120, .inl f0)), (dh, .inr (4, [.int sh_14, .ref q1, .ref q2, .int tn_15, .ref q3, .ref q4, .int sc_16, .ref q5, .int al])), (q1, .inl (c1, 9, .inl g_17)), (q2, .inl (c2, 9, .inl g_18)), (q3, .inl (c3, 4, .inl g_19)), (q4, .inl (c4, 4, .inl g_20)), (q5, .inl (c5, 7, .inr (.inl g_21)))]) [0, 1, 2, 3, 4, 5, 6, 7, 8] (by decide) rfl
      have hK9 := hK.sub (tys' := [(c0, .int), (c1, .int), (c2, .int), (c3, .int), (c4, .int), (c5, .long)]) [0, 1, 2, 3, 4, 5] rfl
      exact W.iret (v := n_35) hx hb hr (fun t ht hW => ⟨⟨n_35, (), rfl, trivial, tk_10, st_11, en_12, dr_13, sh_14, tn_15, sc_16, g_17, g_18, g_19, g_20, g_21, hq_23, hq_24, by rw [ht]; exact hP9, va_K.moved hW.alike hK9, hD9⟩, hS.F ht⟩) hS.2.2 dX4_perform_30

