theorem dX9_item_0 : decode cX9_item 0 = .ok (.iconst 3, 1) := by decide +kernel
theorem dX9_item_1 : decode cX9_item 1 = .ok (.aload_n 0, 1) := by decide +kernel
theorem dX9_item_2 : decode cX9_item 2 = .ok (.getfield 228, 3) := by decide +kernel
theorem dX9_item_5 : decode cX9_item 5 = .ok (.imul, 1) := by decide +kernel
theorem dX9_item_6 : decode cX9_item 6 = .ok (.istore 6, 2) := by decide +kernel
theorem dX9_item_8 : decode cX9_item 8 = .ok (.aload_n 0, 1) := by decide +kernel
theorem dX9_item_9 : decode cX9_item 9 = .ok (.getfield 53, 3) := by decide +kernel
theorem dX9_item_12 : decode cX9_item 12 = .ok (.iload 6, 2) := by decide +kernel
theorem dX9_item_14 : decode cX9_item 14 = .ok (.iload_n 1, 1) := by decide +kernel
theorem dX9_item_15 : decode cX9_item 15 = .ok (.iastore, 1) := by decide +kernel
theorem dX9_item_16 : decode cX9_item 16 = .ok (.aload_n 0, 1) := by decide +kernel
theorem dX9_item_17 : decode cX9_item 17 = .ok (.getfield 53, 3) := by decide +kernel
theorem dX9_item_20 : decode cX9_item 20 = .ok (.iload 6, 2) := by decide +kernel
theorem dX9_item_22 : decode cX9_item 22 = .ok (.iconst 1, 1) := by decide +kernel
theorem dX9_item_23 : decode cX9_item 23 = .ok (.iadd, 1) := by decide +kernel
theorem dX9_item_24 : decode cX9_item 24 = .ok (.iload_n 2, 1) := by decide +kernel
theorem dX9_item_25 : decode cX9_item 25 = .ok (.iastore, 1) := by decide +kernel
theorem dX9_item_26 : decode cX9_item 26 = .ok (.aload_n 0, 1) := by decide +kernel
theorem dX9_item_27 : decode cX9_item 27 = .ok (.getfield 53, 3) := by decide +kernel
theorem dX9_item_30 : decode cX9_item 30 = .ok (.iload 6, 2) := by decide +kernel
theorem dX9_item_32 : decode cX9_item 32 = .ok (.iconst 2, 1) := by decide +kernel
theorem dX9_item_33 : decode cX9_item 33 = .ok (.iadd, 1) := by decide +kernel
theorem dX9_item_34 : decode cX9_item 34 = .ok (.iload_n 3, 1) := by decide +kernel
theorem dX9_item_35 : decode cX9_item 35 = .ok (.iastore, 1) := by decide +kernel
theorem dX9_item_36 : decode cX9_item 36 = .ok (.aload_n 0, 1) := by decide +kernel
theorem dX9_item_37 : decode cX9_item 37 = .ok (.getfield 56, 3) := by decide +kernel
theorem dX9_item_40 : decode cX9_item 40 = .ok (.aload_n 0, 1) := by decide +kernel
theorem dX9_item_41 : decode cX9_item 41 = .ok (.getfield 228, 3) := by decide +kernel
theorem dX9_item_44 : decode cX9_item 44 = .ok (.lload 4, 2) := by decide +kernel
theorem dX9_item_46 : decode cX9_item 46 = .ok (.lastore, 1) := by decide +kernel
theorem dX9_item_47 : decode cX9_item 47 = .ok (.aload_n 0, 1) := by decide +kernel
theorem dX9_item_48 : decode cX9_item 48 = .ok (.dup, 1) := by decide +kernel
theorem dX9_item_49 : decode cX9_item 49 = .ok (.getfield 228, 3) := by decide +kernel
theorem dX9_item_52 : decode cX9_item 52 = .ok (.iconst 1, 1) := by decide +kernel
theorem dX9_item_53 : decode cX9_item 53 = .ok (.iadd, 1) := by decide +kernel
theorem dX9_item_54 : decode cX9_item 54 = .ok (.putfield 228, 3) := by decide +kernel
theorem dX9_item_57 : decode cX9_item 57 = .ok (.return_, 1) := by decide +kernel
theorem dX9_readItem_0 : decode cX9_readItem 0 = .ok (.aload_n 0, 1) := by decide +kernel
theorem dX9_readItem_1 : decode cX9_readItem 1 = .ok (.invokevirtual 238, 3) := by decide +kernel
theorem dX9_readItem_4 : decode cX9_readItem 4 = .ok (.istore_n 1, 1) := by decide +kernel
theorem dX9_readItem_5 : decode cX9_readItem 5 = .ok (.iload_n 1, 1) := by decide +kernel
theorem dX9_readItem_6 : decode cX9_readItem 6 = .ok (.ifCond .lt 47, 3) := by decide +kernel
theorem dX9_readItem_9 : decode cX9_readItem 9 = .ok (.aload_n 0, 1) := by decide +kernel
theorem dX9_readItem_10 : decode cX9_readItem 10 = .ok (.aload_n 0, 1) := by decide +kernel
theorem dX9_readItem_11 : decode cX9_readItem 11 = .ok (.getfield 241, 3) := by decide +kernel
theorem dX9_readItem_14 : decode cX9_readItem 14 = .ok (.bipush 9, 2) := by decide +kernel
theorem dX9_readItem_16 : decode cX9_readItem 16 = .ok (.if_icmp .ge 7, 3) := by decide +kernel
theorem dX9_readItem_19 : decode cX9_readItem 19 = .ok (.iconst 1, 1) := by decide +kernel
theorem dX9_readItem_20 : decode cX9_readItem 20 = .ok (.goto 4, 3) := by decide +kernel
theorem dX9_readItem_23 : decode cX9_readItem 23 = .ok (.iconst 0, 1) := by decide +kernel
theorem dX9_readItem_24 : decode cX9_readItem 24 = .ok (.invokevirtual 224, 3) := by decide +kernel
theorem dX9_readItem_27 : decode cX9_readItem 27 = .ok (.aload_n 0, 1) := by decide +kernel
theorem dX9_readItem_28 : decode cX9_readItem 28 = .ok (.dup, 1) := by decide +kernel
theorem dX9_readItem_29 : decode cX9_readItem 29 = .ok (.getfield 241, 3) := by decide +kernel
theorem dX9_readItem_32 : decode cX9_readItem 32 = .ok (.iconst 1, 1) := by decide +kernel
theorem dX9_readItem_33 : decode cX9_readItem 33 = .ok (.iadd, 1) := by decide +kernel
theorem dX9_readItem_34 : decode cX9_readItem 34 = .ok (.putfield 241, 3) := by decide +kernel
theorem dX9_readItem_37 : decode cX9_readItem 37 = .ok (.aload_n 0, 1) := by decide +kernel
theorem dX9_readItem_38 : decode cX9_readItem 38 = .ok (.iload_n 1, 1) := by decide +kernel
theorem dX9_readItem_39 : decode cX9_readItem 39 = .ok (.aload_n 0, 1) := by decide +kernel
theorem dX9_readItem_40 : decode cX9_readItem 40 = .ok (.iconst 4, 1) := by decide +kernel
theorem dX9_readItem_41 : decode cX9_readItem 41 = .ok (.invokevirtual 244, 3) := by decide +kernel
theorem dX9_readItem_44 : decode cX9_readItem 44 = .ok (.l2i, 1) := by decide +kernel
theorem dX9_readItem_45 : decode cX9_readItem 45 = .ok (.iconst 0, 1) := by decide +kernel
theorem dX9_readItem_46 : decode cX9_readItem 46 = .ok (.lconst 0, 1) := by decide +kernel
theorem dX9_readItem_47 : decode cX9_readItem 47 = .ok (.invokevirtual 247, 3) := by decide +kernel
theorem dX9_readItem_50 : decode cX9_readItem 50 = .ok (.goto 136, 3) := by decide +kernel
theorem dX9_readItem_53 : decode cX9_readItem 53 = .ok (.aload_n 0, 1) := by decide +kernel
theorem dX9_readItem_54 : decode cX9_readItem 54 = .ok (.ldc 251, 2) := by decide +kernel
theorem dX9_readItem_56 : decode cX9_readItem 56 = .ok (.invokevirtual 231, 3) := by decide +kernel
theorem dX9_readItem_59 : decode cX9_readItem 59 = .ok (.ifCond .eq 48, 3) := by decide +kernel
theorem dX9_readItem_62 : decode cX9_readItem 62 = .ok (.aload_n 0, 1) := by decide +kernel
theorem dX9_readItem_63 : decode cX9_readItem 63 = .ok (.aload_n 0, 1) := by decide +kernel
theorem dX9_readItem_64 : decode cX9_readItem 64 = .ok (.getfield 253, 3) := by decide +kernel
theorem dX9_readItem_67 : decode cX9_readItem 67 = .ok (.bipush 7, 2) := by decide +kernel
theorem dX9_readItem_69 : decode cX9_readItem 69 = .ok (.if_icmp .ge 7, 3) := by decide +kernel
theorem dX9_readItem_72 : decode cX9_readItem 72 = .ok (.iconst 1, 1) := by decide +kernel
theorem dX9_readItem_73 : decode cX9_readItem 73 = .ok (.goto 4, 3) := by decide +kernel
theorem dX9_readItem_76 : decode cX9_readItem 76 = .ok (.iconst 0, 1) := by decide +kernel
theorem dX9_readItem_77 : decode cX9_readItem 77 = .ok (.invokevirtual 224, 3) := by decide +kernel
theorem dX9_readItem_80 : decode cX9_readItem 80 = .ok (.aload_n 0, 1) := by decide +kernel
theorem dX9_readItem_81 : decode cX9_readItem 81 = .ok (.dup, 1) := by decide +kernel
theorem dX9_readItem_82 : decode cX9_readItem 82 = .ok (.getfield 253, 3) := by decide +kernel
theorem dX9_readItem_85 : decode cX9_readItem 85 = .ok (.iconst 1, 1) := by decide +kernel
theorem dX9_readItem_86 : decode cX9_readItem 86 = .ok (.iadd, 1) := by decide +kernel
theorem dX9_readItem_87 : decode cX9_readItem 87 = .ok (.putfield 253, 3) := by decide +kernel
theorem dX9_readItem_90 : decode cX9_readItem 90 = .ok (.aload_n 0, 1) := by decide +kernel
theorem dX9_readItem_91 : decode cX9_readItem 91 = .ok (.bipush 10, 2) := by decide +kernel
theorem dX9_readItem_93 : decode cX9_readItem 93 = .ok (.iconst 0, 1) := by decide +kernel
theorem dX9_readItem_94 : decode cX9_readItem 94 = .ok (.iconst 0, 1) := by decide +kernel
theorem dX9_readItem_95 : decode cX9_readItem 95 = .ok (.aload_n 0, 1) := by decide +kernel
theorem dX9_readItem_96 : decode cX9_readItem 96 = .ok (.bipush 8, 2) := by decide +kernel
theorem dX9_readItem_98 : decode cX9_readItem 98 = .ok (.invokevirtual 244, 3) := by decide +kernel
theorem dX9_readItem_101 : decode cX9_readItem 101 = .ok (.invokevirtual 247, 3) := by decide +kernel
theorem dX9_readItem_104 : decode cX9_readItem 104 = .ok (.goto 82, 3) := by decide +kernel
theorem dX9_readItem_107 : decode cX9_readItem 107 = .ok (.aload_n 0, 1) := by decide +kernel
theorem dX9_readItem_108 : decode cX9_readItem 108 = .ok (.ldc_w 256, 3) := by decide +kernel
theorem dX9_readItem_111 : decode cX9_readItem 111 = .ok (.invokevirtual 231, 3) := by decide +kernel
theorem dX9_readItem_114 : decode cX9_readItem 114 = .ok (.ifCond .eq 10, 3) := by decide +kernel
theorem dX9_readItem_117 : decode cX9_readItem 117 = .ok (.aload_n 0, 1) := by decide +kernel
theorem dX9_readItem_118 : decode cX9_readItem 118 = .ok (.invokevirtual 258, 3) := by decide +kernel
theorem dX9_readItem_121 : decode cX9_readItem 121 = .ok (.goto 65, 3) := by decide +kernel
theorem dX9_readItem_124 : decode cX9_readItem 124 = .ok (.aload_n 0, 1) := by decide +kernel
theorem dX9_readItem_125 : decode cX9_readItem 125 = .ok (.ldc_w 261, 3) := by decide +kernel
theorem dX9_readItem_128 : decode cX9_readItem 128 = .ok (.invokevirtual 231, 3) := by decide +kernel
theorem dX9_readItem_131 : decode cX9_readItem 131 = .ok (.ifCond .eq 25, 3) := by decide +kernel
theorem dX9_readItem_134 : decode cX9_readItem 134 = .ok (.aload_n 0, 1) := by decide +kernel
theorem dX9_readItem_135 : decode cX9_readItem 135 = .ok (.iconst 1, 1) := by decide +kernel
theorem dX9_readItem_136 : decode cX9_readItem 136 = .ok (.invokevirtual 224, 3) := by decide +kernel
theorem dX9_readItem_139 : decode cX9_readItem 139 = .ok (.aload_n 0, 1) := by decide +kernel
theorem dX9_readItem_140 : decode cX9_readItem 140 = .ok (.iconst 0, 1) := by decide +kernel
theorem dX9_readItem_141 : decode cX9_readItem 141 = .ok (.putfield 263, 3) := by decide +kernel
theorem dX9_readItem_144 : decode cX9_readItem 144 = .ok (.aload_n 0, 1) := by decide +kernel
theorem dX9_readItem_145 : decode cX9_readItem 145 = .ok (.bipush 12, 2) := by decide +kernel
theorem dX9_readItem_147 : decode cX9_readItem 147 = .ok (.iconst 0, 1) := by decide +kernel
theorem dX9_readItem_148 : decode cX9_readItem 148 = .ok (.iconst 0, 1) := by decide +kernel
theorem dX9_readItem_149 : decode cX9_readItem 149 = .ok (.lconst 0, 1) := by decide +kernel
theorem dX9_readItem_150 : decode cX9_readItem 150 = .ok (.invokevirtual 247, 3) := by decide +kernel
theorem dX9_readItem_153 : decode cX9_readItem 153 = .ok (.goto 33, 3) := by decide +kernel
theorem dX9_readItem_156 : decode cX9_readItem 156 = .ok (.aload_n 0, 1) := by decide +kernel
theorem dX9_readItem_157 : decode cX9_readItem 157 = .ok (.aload_n 0, 1) := by decide +kernel
theorem dX9_readItem_158 : decode cX9_readItem 158 = .ok (.ldc_w 266, 3) := by decide +kernel
theorem dX9_readItem_161 : decode cX9_readItem 161 = .ok (.invokevirtual 231, 3) := by decide +kernel
theorem dX9_readItem_164 : decode cX9_readItem 164 = .ok (.invokevirtual 224, 3) := by decide +kernel
theorem dX9_readItem_167 : decode cX9_readItem 167 = .ok (.aload_n 0, 1) := by decide +kernel
theorem dX9_readItem_168 : decode cX9_readItem 168 = .ok (.bipush 13, 2) := by decide +kernel
theorem dX9_readItem_170 : decode cX9_readItem 170 = .ok (.aload_n 0, 1) := by decide +kernel
theorem dX9_readItem_171 : decode cX9_readItem 171 = .ok (.iconst 0, 1) := by decide +kernel
theorem dX9_readItem_172 : decode cX9_readItem 172 = .ok (.aload_n 0, 1) := by decide +kernel
theorem dX9_readItem_173 : decode cX9_readItem 173 = .ok (.getfield 241, 3) := by decide +kernel
theorem dX9_readItem_176 : decode cX9_readItem 176 = .ok (.iconst 1, 1) := by decide +kernel
theorem dX9_readItem_177 : decode cX9_readItem 177 = .ok (.isub, 1) := by decide +kernel
theorem dX9_readItem_178 : decode cX9_readItem 178 = .ok (.invokevirtual 235, 3) := by decide +kernel
theorem dX9_readItem_181 : decode cX9_readItem 181 = .ok (.iconst 0, 1) := by decide +kernel
theorem dX9_readItem_182 : decode cX9_readItem 182 = .ok (.lconst 0, 1) := by decide +kernel
theorem dX9_readItem_183 : decode cX9_readItem 183 = .ok (.invokevirtual 247, 3) := by decide +kernel
theorem dX9_readItem_186 : decode cX9_readItem 186 = .ok (.return_, 1) := by decide +kernel
theorem dX9_readHold_0 : decode cX9_readHold 0 = .ok (.aload_n 0, 1) := by decide +kernel
theorem dX9_readHold_1 : decode cX9_readHold 1 = .ok (.aload_n 0, 1) := by decide +kernel
theorem dX9_readHold_2 : decode cX9_readHold 2 = .ok (.getfield 263, 3) := by decide +kernel
theorem dX9_readHold_5 : decode cX9_readHold 5 = .ok (.i2l, 1) := by decide +kernel
theorem dX9_readHold_6 : decode cX9_readHold 6 = .ok (.invokestatic 158, 3) := by decide +kernel
theorem dX9_readHold_9 : decode cX9_readHold 9 = .ok (.iconst 4, 1) := by decide +kernel
theorem dX9_readHold_10 : decode cX9_readHold 10 = .ok (.if_icmp .ge 7, 3) := by decide +kernel
theorem dX9_readHold_13 : decode cX9_readHold 13 = .ok (.iconst 1, 1) := by decide +kernel
theorem dX9_readHold_14 : decode cX9_readHold 14 = .ok (.goto 4, 3) := by decide +kernel
theorem dX9_readHold_17 : decode cX9_readHold 17 = .ok (.iconst 0, 1) := by decide +kernel
theorem dX9_readHold_18 : decode cX9_readHold 18 = .ok (.invokevirtual 224, 3) := by decide +kernel
theorem dX9_readHold_21 : decode cX9_readHold 21 = .ok (.aload_n 0, 1) := by decide +kernel
theorem dX9_readHold_22 : decode cX9_readHold 22 = .ok (.getfield 200, 3) := by decide +kernel
theorem dX9_readHold_25 : decode cX9_readHold 25 = .ok (.istore_n 1, 1) := by decide +kernel
theorem dX9_readHold_26 : decode cX9_readHold 26 = .ok (.aload_n 0, 1) := by decide +kernel
theorem dX9_readHold_27 : decode cX9_readHold 27 = .ok (.aload_n 0, 1) := by decide +kernel
theorem dX9_readHold_28 : decode cX9_readHold 28 = .ok (.getfield 203, 3) := by decide +kernel
theorem dX9_readHold_31 : decode cX9_readHold 31 = .ok (.iconst 2, 1) := by decide +kernel
theorem dX9_readHold_32 : decode cX9_readHold 32 = .ok (.if_icmp .ne 32, 3) := by decide +kernel
theorem dX9_readHold_35 : decode cX9_readHold 35 = .ok (.iload_n 1, 1) := by decide +kernel
theorem dX9_readHold_36 : decode cX9_readHold 36 = .ok (.iconst 0, 1) := by decide +kernel
theorem dX9_readHold_37 : decode cX9_readHold 37 = .ok (.aload_n 0, 1) := by decide +kernel
theorem dX9_readHold_38 : decode cX9_readHold 38 = .ok (.getfield 241, 3) := by decide +kernel
theorem dX9_readHold_41 : decode cX9_readHold 41 = .ok (.iconst 1, 1) := by decide +kernel
theorem dX9_readHold_42 : decode cX9_readHold 42 = .ok (.isub, 1) := by decide +kernel
theorem dX9_readHold_43 : decode cX9_readHold 43 = .ok (.invokestatic 75, 3) := by decide +kernel
theorem dX9_readHold_46 : decode cX9_readHold 46 = .ok (.ifCond .eq 18, 3) := by decide +kernel
theorem dX9_readHold_49 : decode cX9_readHold 49 = .ok (.aload_n 0, 1) := by decide +kernel
theorem dX9_readHold_50 : decode cX9_readHold 50 = .ok (.getfield 263, 3) := by decide +kernel
theorem dX9_readHold_53 : decode cX9_readHold 53 = .ok (.iload_n 1, 1) := by decide +kernel
theorem dX9_readHold_54 : decode cX9_readHold 54 = .ok (.ishr, 1) := by decide +kernel
theorem dX9_readHold_55 : decode cX9_readHold 55 = .ok (.iconst 1, 1) := by decide +kernel
theorem dX9_readHold_56 : decode cX9_readHold 56 = .ok (.iand, 1) := by decide +kernel
theorem dX9_readHold_57 : decode cX9_readHold 57 = .ok (.ifCond .ne 7, 3) := by decide +kernel
theorem dX9_readHold_60 : decode cX9_readHold 60 = .ok (.iconst 1, 1) := by decide +kernel
theorem dX9_readHold_61 : decode cX9_readHold 61 = .ok (.goto 4, 3) := by decide +kernel
theorem dX9_readHold_64 : decode cX9_readHold 64 = .ok (.iconst 0, 1) := by decide +kernel
theorem dX9_readHold_65 : decode cX9_readHold 65 = .ok (.invokevirtual 224, 3) := by decide +kernel
theorem dX9_readHold_68 : decode cX9_readHold 68 = .ok (.aload_n 0, 1) := by decide +kernel
theorem dX9_readHold_69 : decode cX9_readHold 69 = .ok (.dup, 1) := by decide +kernel
theorem dX9_readHold_70 : decode cX9_readHold 70 = .ok (.getfield 263, 3) := by decide +kernel
theorem dX9_readHold_73 : decode cX9_readHold 73 = .ok (.aload_n 0, 1) := by decide +kernel
theorem dX9_readHold_74 : decode cX9_readHold 74 = .ok (.getfield 217, 3) := by decide +kernel
theorem dX9_readHold_77 : decode cX9_readHold 77 = .ok (.ifCond .eq 7, 3) := by decide +kernel
theorem dX9_readHold_80 : decode cX9_readHold 80 = .ok (.iconst 0, 1) := by decide +kernel
theorem dX9_readHold_81 : decode cX9_readHold 81 = .ok (.goto 6, 3) := by decide +kernel
theorem dX9_readHold_84 : decode cX9_readHold 84 = .ok (.iconst 1, 1) := by decide +kernel
theorem dX9_readHold_85 : decode cX9_readHold 85 = .ok (.iload_n 1, 1) := by decide +kernel
theorem dX9_readHold_86 : decode cX9_readHold 86 = .ok (.ishl, 1) := by decide +kernel
theorem dX9_readHold_87 : decode cX9_readHold 87 = .ok (.ior, 1) := by decide +kernel
theorem dX9_readHold_88 : decode cX9_readHold 88 = .ok (.putfield 263, 3) := by decide +kernel
theorem dX9_readHold_91 : decode cX9_readHold 91 = .ok (.aload_n 0, 1) := by decide +kernel
theorem dX9_readHold_92 : decode cX9_readHold 92 = .ok (.ldc_w 268, 3) := by decide +kernel
theorem dX9_readHold_95 : decode cX9_readHold 95 = .ok (.iconst 1, 1) := by decide +kernel
theorem dX9_readHold_96 : decode cX9_readHold 96 = .ok (.iconst 2, 1) := by decide +kernel
theorem dX9_readHold_97 : decode cX9_readHold 97 = .ok (.invokevirtual 270, 3) := by decide +kernel
theorem dX9_readHold_100 : decode cX9_readHold 100 = .ok (.istore_n 2, 1) := by decide +kernel
theorem dX9_readHold_101 : decode cX9_readHold 101 = .ok (.aload_n 0, 1) := by decide +kernel
theorem dX9_readHold_102 : decode cX9_readHold 102 = .ok (.ldc_w 274, 3) := by decide +kernel
theorem dX9_readHold_105 : decode cX9_readHold 105 = .ok (.iconst 0, 1) := by decide +kernel
theorem dX9_readHold_106 : decode cX9_readHold 106 = .ok (.iconst 3, 1) := by decide +kernel
theorem dX9_readHold_107 : decode cX9_readHold 107 = .ok (.invokevirtual 270, 3) := by decide +kernel
theorem dX9_readHold_110 : decode cX9_readHold 110 = .ok (.istore_n 3, 1) := by decide +kernel
theorem dX9_readHold_111 : decode cX9_readHold 111 = .ok (.aload_n 0, 1) := by decide +kernel
theorem dX9_readHold_112 : decode cX9_readHold 112 = .ok (.ldc_w 276, 3) := by decide +kernel
theorem dX9_readHold_115 : decode cX9_readHold 115 = .ok (.iconst 0, 1) := by decide +kernel
theorem dX9_readHold_116 : decode cX9_readHold 116 = .ok (.bipush 7, 2) := by decide +kernel
theorem dX9_readHold_118 : decode cX9_readHold 118 = .ok (.invokevirtual 270, 3) := by decide +kernel
theorem dX9_readHold_121 : decode cX9_readHold 121 = .ok (.istore 4, 2) := by decide +kernel
theorem dX9_readHold_123 : decode cX9_readHold 123 = .ok (.aload_n 0, 1) := by decide +kernel
theorem dX9_readHold_124 : decode cX9_readHold 124 = .ok (.bipush 11, 2) := by decide +kernel
theorem dX9_readHold_126 : decode cX9_readHold 126 = .ok (.iload_n 1, 1) := by decide +kernel
theorem dX9_readHold_127 : decode cX9_readHold 127 = .ok (.sipush 1000, 3) := by decide +kernel
theorem dX9_readHold_130 : decode cX9_readHold 130 = .ok (.iconst 4, 1) := by decide +kernel
theorem dX9_readHold_131 : decode cX9_readHold 131 = .ok (.iload_n 2, 1) := by decide +kernel
theorem dX9_readHold_132 : decode cX9_readHold 132 = .ok (.imul, 1) := by decide +kernel
theorem dX9_readHold_133 : decode cX9_readHold 133 = .ok (.iload_n 3, 1) := by decide +kernel
theorem dX9_readHold_134 : decode cX9_readHold 134 = .ok (.iadd, 1) := by decide +kernel
theorem dX9_readHold_135 : decode cX9_readHold 135 = .ok (.imul, 1) := by decide +kernel
theorem dX9_readHold_136 : decode cX9_readHold 136 = .ok (.bipush 10, 2) := by decide +kernel
theorem dX9_readHold_138 : decode cX9_readHold 138 = .ok (.iload 4, 2) := by decide +kernel
theorem dX9_readHold_140 : decode cX9_readHold 140 = .ok (.imul, 1) := by decide +kernel
theorem dX9_readHold_141 : decode cX9_readHold 141 = .ok (.iadd, 1) := by decide +kernel
theorem dX9_readHold_142 : decode cX9_readHold 142 = .ok (.aload_n 0, 1) := by decide +kernel
theorem dX9_readHold_143 : decode cX9_readHold 143 = .ok (.iconst 0, 1) := by decide +kernel
theorem dX9_readHold_144 : decode cX9_readHold 144 = .ok (.bipush 7, 2) := by decide +kernel
theorem dX9_readHold_146 : decode cX9_readHold 146 = .ok (.invokevirtual 235, 3) := by decide +kernel
theorem dX9_readHold_149 : decode cX9_readHold 149 = .ok (.iadd, 1) := by decide +kernel
theorem dX9_readHold_150 : decode cX9_readHold 150 = .ok (.lconst 0, 1) := by decide +kernel
theorem dX9_readHold_151 : decode cX9_readHold 151 = .ok (.invokevirtual 247, 3) := by decide +kernel
theorem dX9_readHold_154 : decode cX9_readHold 154 = .ok (.return_, 1) := by decide +kernel
def w_m_item : List Cond := .code yX9_item cX9_item 7 none :: (([.fieldLink RX9 228 "LampShapesModel" "itemMany" "I", .fieldLink RX9 53 "LampShapesModel" "items" "[I", .fieldLink RX9 56 "LampShapesModel" "itemPictures" "[J"] : List Cond) ++ wsX90)
set_option maxHeartbeats 4000000 in
set_option maxRecDepth 100000 in
theorem m_item (l : Launch) (dC : Nat → ClassId) (dI : Nat → Nat → Nat) (ad : Nat → Nat) (h0 : Nat) (wt : Int32) (a : Int32) (b : Int32) (pic : Int64) (v0 : Value) (v1 : Value) (v2 : Value) (v3 : Value) (v4 : Value) (v5 : Value) (v6 : Value) (v7 : Value) (v8 : Value) (v9 : Value) (v10 : Value) (v11 : Value) (v12 : Value) (v13 : Value) (v14 : Value) (v15 : Value) (v16 : Value) (v17 : Value) (y0 : Nat) (z0 : Nat) (im : Int32) (v21 : Value) (v22 : Value) (v23 : Value) (v24 : Value) (v25 : Value) (v26 : Value) (v27 : Value) (yc : ClassId) (yf : Nat → Int32) (zc : ClassId) (gf : Nat → Int64) (sz : Nat) (him : 0 ≤ im.toInt ∧ im.toInt ≤ 119) : Met l yX9_item w_m_item ({ frames := 0, cells := 0, slots := 0, locals := 0 } : Room) (va_Pc [.ref h0, .int wt, .int a, .int b, .long pic] (preM dC dI ad [(yc, .int), (zc, .long)] [(h0, .inr (7, [v0, v1, v2, v3, v4, v5, v6, v7, v8, v9, v10, v11, v12, v13, v14, v15, v16, v17, .ref y0, .ref z0, .int im, v21, v22, v23, v24, v25, v26, v27])), (y0, .inl (yc, 360, .inl yf)), (z0, .inl (zc, 120, .inr (.inl gf)))] sz)) (va_Qv (fun (_ : Unit) => True) (fun _ t => ∃ (im2 : Int32), ∃ (yg : Nat → Int32), ∃ (gg : Nat → Int64), (im2.toInt = im.toInt + 1) ∧ (itP yf yg im.toInt.toNat wt a) ∧ va_P (dC, dI) vwCl [(h0, .inr (7, [v0, v1, v2, v3, v4, v5, v6, v7, v8, v9, v10, v11, v12, v13, v14, v15, v16, v17, .ref y0, .ref z0, .int im2, v21, v22, v23, v24, v25, v26, v27])), (y0, .inl (yc, 360, .inl yg)), (z0, .inl (zc, 120, .inr (.inl gg)))] t.heap ∧ va_K (dC, dI) vwCl [(yc, .int), (zc, .long)] t ∧ va_D (va_A [(h0, .inr (7, [v0, v1, v2, v3, v4, v5, v6, v7, v8, v9, v10, v11, v12, v13, v14, v15, v16, v17, .ref y0, .ref z0, .int im, v21, v22, v23, v24, v25, v26, v27])), (y0, .inl (yc, 360, .inl yf)), (z0, .inl (zc, 120, .inr (.inl gf)))] sz) [(h0, .inr (7, [v0, v1, v2, v3, v4, v5, v6, v7, v8, v9, v10, v11, v12, v13, v14, v15, v16, v17, .ref y0, .ref z0, .int im2, v21, v22, v23, v24, v25, v26, v27])), (y0, .inl (yc, 360, .inl yg)), (z0, .inl (zc, 120, .inr (.inl gg)))]) (va_A [(h0, .inr (7, [v0, v1, v2, v3, v4, v5, v6, v7, v8, v9, v10, v11, v12, v13, v14, v15, v16, v17, .ref y0, .ref z0, .int im, v21, v22, v23, v24, v25, v26, v27])), (y0, .inl (yc, 360, .inl yf)), (z0, .inl (zc, 120, .inr (.inl gf)))] sz)) 0 0 (va_A [(h0, .inr (7, [v0, v1, v2, v3, v4, v5, v6, v7, v8, v9, v10, v11, v12, v13, v14, v15, v16, v17, .ref y0, .ref z0, .int im, v21, v22, v23, v24, v25, v26, v27])), (y0, .inl (yc, 360, .inl yf)), (z0, .inl (zc, 120, .inr (.inl gf)))] sz) := by
  refine Met.ofW (cc := cX9_item) (maxL := 7) (ret := none) (by decide) rfl ?_
  intro p e s m args below meth c s₁ B hml hv
  obtain ⟨rfl, hsz, hP, hK, hD0, hev⟩ := hv
  have hx := B.exec
  have hb := B.bytes
  have hr := B.returns
  have hts := atoms_spec (ws := w_m_item) B.pre
  have hown : s.vm.findClass RX9 = some m.cls := findClass_of_methodNamed B.named
  have hlocks := B.notSynchronized
  have inX9 : ∀ w ∈ wsX90, w ∈ w_m_item := fun w h => List.mem_cons_of_mem _ (List.mem_append_right _ h)
  subst hsz
  have hD := hD0.self (sz := s.heap.size)
  generalize hAe : va_A [(h0, .inr (7, [v0, v1, v2, v3, v4, v5, v6, v7, v8, v9, v10, v11, v12, v13, v14, v15, v16, v17, .ref y0, .ref z0, .int im, v21, v22, v23, v24, v25, v26, v27])), (y0, .inl (yc, 360, .inl yf)), (z0, .inl (zc, 120, .inr (.inl gf)))] s.heap.size = A at hD ⊢
  have hA : ∀ q : Nat, s.heap.size ≤ q → A q := fun q h => by rw [← hAe]; exact Or.inr h
  have hS : va_S A s.heap s.heap [] := va_S.rf
  have hP : va_P (dC, dI) vwCl [(h0, .inr (7, [v0, v1, v2, v3, v4, v5, v6, v7, v8, v9, v10, v11, v12, v13, v14, v15, v16, v17, .ref y0, .ref z0, .int im, v21, v22, v23, v24, v25, v26, v27])), (y0, .inl (yc, 360, .inl yf)), (z0, .inl (zc, 120, .inr (.inl gf)))] s.heap := hP
  have hl := lv_entry ([.ref h0, .int wt, .int a, .int b, .long pic]) (n := 7) (Nat.le_of_ble_eq_true rfl)
  rw [lg_entry_eq]
  generalize (lg_sl ([.ref h0, .int wt, .int a, .int b, .long pic]) ++ List.replicate (7 - (lg_sl ([.ref h0, .int wt, .int a, .int b, .long pic])).length) Slot.unset).toArray = ls at hl ⊢
  have hl : lv_has ls 7 [(0, .ref h0), (1, .int wt), (2, .int a), (3, .int b), (4, .long pic)] := hl
  refine lv_iconst (v := 3) hx hb dX9_item_0 (by decide) ?_
  refine lv_aload_n hx hb dX9_item_1 rfl (lv_at hl 0 rfl) ?_
  refine va_get (D := (dC, dI)) (ci := 7) (v := .int im) (C := RX9) (T := TX9) (N := 28) hx hb hts inX9 hown hK hP 0 rfl rfl 20 (by decide) (hts _ (List.mem_of_getElem? (i := 1) rfl)) (fun _ h9 => h9) rfl dX9_item_2 ?_
  refine lv_imul hx hb dX9_item_5 ?_
  refine lv_topi (fun n_1 en_1 => ?_)
  have tn_1 : n_1.toInt = 3 * im.toInt := pp_mul en_1 rfl rfl (by omega) (by omega)
  clear en_1
  refine lv_istore (lv' := [(6, .int n_1), (0, .ref h0), (1, .int wt), (2, .int a), (3, .int b), (4, .long pic)]) hx hb dX9_item_6 hl (by decide) rfl (fun ls hl => ?_)
  refine lv_aload_n hx hb dX9_item_8 rfl (lv_at hl 1 rfl) ?_
  refine va_get (D := (dC, dI)) (ci := 7) (v := .ref y0) (C := RX9) (T := TX9) (N := 28) hx hb hts inX9 hown hK hP 0 rfl rfl 18 (by decide) (hts _ (List.mem_of_getElem? (i := 2) rfl)) (fun _ h9 => h9) rfl dX9_item_9 ?_
  refine lv_iload hx hb dX9_item_12 (lv_at hl 0 rfl) ?_
  refine lv_iload_n hx hb dX9_item_14 rfl (lv_at hl 2 rfl) ?_
  refine va_iast hx hb hK hP hD hS 1 0 rfl rfl (vp_in_iff.mpr ⟨by omega, by omega⟩) dX9_item_15 (fun H locs hP hD hS => ?_)
  have hP : va_P (dC, dI) vwCl [(h0, .inr (7, [v0, v1, v2, v3, v4, v5, v6, v7, v8, v9, v10, v11, v12, v13, v14, v15, v16, v17, .ref y0, .ref z0, .int im, v21, v22, v23, v24, v25, v26, v27])), (y0, .inl (yc, 360, .inl (upd yf n_1.toNatClampNeg wt))), (z0, .inl (zc, 120, .inr (.inl gf)))] H := hP
  have hD : va_D A [(h0, .inr (7, [v0, v1, v2, v3, v4, v5, v6, v7, v8, v9, v10, v11, v12, v13, v14, v15, v16, v17, .ref y0, .ref z0, .int im, v21, v22, v23, v24, v25, v26, v27])), (y0, .inl (yc, 360, .inl (upd yf n_1.toNatClampNeg wt))), (z0, .inl (zc, 120, .inr (.inl gf)))] := hD
  refine lv_aload_n hx hb dX9_item_16 rfl (lv_at hl 1 rfl) ?_
  refine va_get (D := (dC, dI)) (ci := 7) (v := .ref y0) (C := RX9) (T := TX9) (N := 28) hx hb hts inX9 hown hK hP 0 rfl rfl 18 (by decide) (hts _ (List.mem_of_getElem? (i := 2) rfl)) (fun _ h9 => h9) rfl dX9_item_17 ?_
  refine lv_iload hx hb dX9_item_20 (lv_at hl 0 rfl) ?_
  refine lv_iconst (v := 1) hx hb dX9_item_22 (by decide) ?_
  refine lv_iadd hx hb dX9_item_23 ?_
  refine lv_topi (fun n_2 en_2 => ?_)
  have tn_2 : n_2.toInt = n_1.toInt + 1 := pp_add en_2 rfl rfl (by omega) (by omega)
  clear en_2
  refine lv_iload_n hx hb dX9_item_24 rfl (lv_at hl 3 rfl) ?_
  refine va_iast hx hb hK hP hD hS 1 0 rfl rfl (vp_in_iff.mpr ⟨by omega, by omega⟩) dX9_item_25 (fun H locs hP hD hS => ?_)
  have hP : va_P (dC, dI) vwCl [(h0, .inr (7, [v0, v1, v2, v3, v4, v5, v6, v7, v8, v9, v10, v11, v12, v13, v14, v15, v16, v17, .ref y0, .ref z0, .int im, v21, v22, v23, v24, v25, v26, v27])), (y0, .inl (yc, 360, .inl (upd (upd yf n_1.toNatClampNeg wt) n_2.toNatClampNeg a))), (z0, .inl (zc, 120, .inr (.inl gf)))] H := hP
  have hD : va_D A [(h0, .inr (7, [v0, v1, v2, v3, v4, v5, v6, v7, v8, v9, v10, v11, v12, v13, v14, v15, v16, v17, .ref y0, .ref z0, .int im, v21, v22, v23, v24, v25, v26, v27])), (y0, .inl (yc, 360, .inl (upd (upd yf n_1.toNatClampNeg wt) n_2.toNatClampNeg a))), (z0, .inl (zc, 120, .inr (.inl gf)))] := hD
  refine lv_aload_n hx hb dX9_item_26 rfl (lv_at hl 1 rfl) ?_
  refine va_get (D := (dC, dI)) (ci := 7) (v := .ref y0) (C := RX9) (T := TX9) (N := 28) hx hb hts inX9 hown hK hP 0 rfl rfl 18 (by decide) (hts _ (List.mem_of_getElem? (i := 2) rfl)) (fun _ h9 => h9) rfl dX9_item_27 ?_
  refine lv_iload hx hb dX9_item_30 (lv_at hl 0 rfl) ?_
  refine lv_iconst (v := 2) hx hb dX9_item_32 (by decide) ?_
  refine lv_iadd hx hb dX9_item_33 ?_
  refine lv_topi (fun n_3 en_3 => ?_)
  have tn_3 : n_3.toInt = n_1.toInt + 2 := pp_add en_3 rfl rfl (by omega) (by omega)
  clear en_3
  refine lv_iload_n hx hb dX9_item_34 rfl (lv_at hl 4 rfl) ?_
  refine va_iast hx hb hK hP hD hS 1 0 rfl rfl (vp_in_iff.mpr ⟨by omega, by omega⟩) dX9_item_35 (fun H locs hP hD hS => ?_)
  have hP : va_P (dC, dI) vwCl [(h0, .inr (7, [v0, v1, v2, v3, v4, v5, v6, v7, v8, v9, v10, v11, v12, v13, v14, v15, v16, v17, .ref y0, .ref z0, .int im, v21, v22, v23, v24, v25, v26, v27])), (y0, .inl (yc, 360, .inl (upd (upd (upd yf n_1.toNatClampNeg wt) n_2.toNatClampNeg a) n_3.toNatClampNeg b))), (z0, .inl (zc, 120, .inr (.inl gf)))] H := hP
  have hD : va_D A [(h0, .inr (7, [v0, v1, v2, v3, v4, v5, v6, v7, v8, v9, v10, v11, v12, v13, v14, v15, v16, v17, .ref y0, .ref z0, .int im, v21, v22, v23, v24, v25, v26, v27])), (y0, .inl (yc, 360, .inl (upd (upd (upd yf n_1.toNatClampNeg wt) n_2.toNatClampNeg a) n_3.toNatClampNeg b))), (z0, .inl (zc, 120, .inr (.inl gf)))] := hD
  refine lv_aload_n hx hb dX9_item_36 rfl (lv_at hl 1 rfl) ?_
  refine va_get (D := (dC, dI)) (ci := 7) (v := .ref z0) (C := RX9) (T := TX9) (N := 28) hx hb hts inX9 hown hK hP 0 rfl rfl 19 (by decide) (hts _ (List.mem_of_getElem? (i := 3) rfl)) (fun _ h9 => h9) rfl dX9_item_37 ?_
  refine lv_aload_n hx hb dX9_item_40 rfl (lv_at hl 1 rfl) ?_
  refine va_get (D := (dC, dI)) (ci := 7) (v := .int im) (C := RX9) (T := TX9) (N := 28) hx hb hts inX9 hown hK hP 0 rfl rfl 20 (by decide) (hts _ (List.mem_of_getElem? (i := 1) rfl)) (fun _ h9 => h9) rfl dX9_item_41 ?_
  refine lv_lload hx hb dX9_item_44 (lv_at hl 5 rfl) ?_
  refine va_last hx hb hK hP hD hS 2 1 rfl rfl (vp_in_iff.mpr ⟨by omega, by omega⟩) dX9_item_46 (fun H locs hP hD hS => ?_)
  have hP : va_P (dC, dI) vwCl [(h0, .inr (7, [v0, v1, v2, v3, v4, v5, v6, v7, v8, v9, v10, v11, v12, v13, v14, v15, v16, v17, .ref y0, .ref z0, .int im, v21, v22, v23, v24, v25, v26, v27])), (y0, .inl (yc, 360, .inl (upd (upd (upd yf n_1.toNatClampNeg wt) n_2.toNatClampNeg a) n_3.toNatClampNeg b))), (z0, .inl (zc, 120, .inr (.inl (vp_updL gf im.toNatClampNeg pic))))] H := hP
  have hD : va_D A [(h0, .inr (7, [v0, v1, v2, v3, v4, v5, v6, v7, v8, v9, v10, v11, v12, v13, v14, v15, v16, v17, .ref y0, .ref z0, .int im, v21, v22, v23, v24, v25, v26, v27])), (y0, .inl (yc, 360, .inl (upd (upd (upd yf n_1.toNatClampNeg wt) n_2.toNatClampNeg a) n_3.toNatClampNeg b))), (z0, .inl (zc, 120, .inr (.inl (vp_updL gf im.toNatClampNeg pic))))] := hD
  refine lv_aload_n hx hb dX9_item_47 rfl (lv_at hl 1 rfl) ?_
  refine lv_dup hx hb dX9_item_48 rfl ?_
  refine va_get (D := (dC, dI)) (ci := 7) (v := .int im) (C := RX9) (T := TX9) (N := 28) hx hb hts inX9 hown hK hP 0 rfl rfl 20 (by decide) (hts _ (List.mem_of_getElem? (i := 1) rfl)) (fun _ h9 => h9) rfl dX9_item_49 ?_
  refine lv_iconst (v := 1) hx hb dX9_item_52 (by decide) ?_
  refine lv_iadd hx hb dX9_item_53 ?_
  refine lv_topi (fun n_4 en_4 => ?_)
  have tn_4 : n_4.toInt = im.toInt + 1 := pp_add en_4 rfl rfl (by omega) (by omega)
  clear en_4
  refine va_put (D := (dC, dI)) (ci := 7) (v := .int n_4) (ty := .int) (C := RX9) (T := TX9) (N := 28) hx hb hts inX9 tyX9 tyX9_ok nmX9 hown hK hP hD hS 0 rfl rfl 20 (by decide) (hts _ (List.mem_of_getElem? (i := 1) rfl)) (fun _ h9 => h9) rfl (by decide +kernel) rfl rfl (Nat.le_of_ble_eq_true rfl) dX9_item_54 (fun H locs hP hD hS => ?_)
  have hP : va_P (dC, dI) vwCl [(h0, .inr (7, [v0, v1, v2, v3, v4, v5, v6, v7, v8, v9, v10, v11, v12, v13, v14, v15, v16, v17, .ref y0, .ref z0, .int n_4, v21, v22, v23, v24, v25, v26, v27])), (y0, .inl (yc, 360, .inl (upd (upd (upd yf n_1.toNatClampNeg wt) n_2.toNatClampNeg a) n_3.toNatClampNeg b))), (z0, .inl (zc, 120, .inr (.inl (vp_updL gf im.toNatClampNeg pic))))] H := hP
  have hD : va_D A [(h0, .inr (7, [v0, v1, v2, v3, v4, v5, v6, v7, v8, v9, v10, v11, v12, v13, v14, v15, v16, v17, .ref y0, .ref z0, .int n_4, v21, v22, v23, v24, v25, v26, v27])), (y0, .inl (yc, 360, .inl (upd (upd (upd yf n_1.toNatClampNeg wt) n_2.toNatClampNeg a) n_3.toNatClampNeg b))), (z0, .inl (zc, 120, .inr (.inl (vp_updL gf im.toNatClampNeg pic))))] := hD
  have hP9 := hP.sub (ws' := [(h0, .inr (7, [v0, v1, v2, v3, v4, v5, v6, v7, v8, v9, v10, v11, v12, v13, v14, v15, v16, v17, .ref y0, .ref z0, .int n_4, v21, v22, v23, v24, v25, v26, v27])), (y0, .inl (yc, 360, .inl (upd (upd (upd yf n_1.toNatClampNeg wt) n_2.toNatClampNeg a) n_3.toNatClampNeg b))), (z0, .inl (zc, 120, .inr (.inl (vp_updL gf im.toNatClampNeg pic))))]) [0, 1, 2] rfl
  have hD9 := hD.sub (ws' := [(h0, .inr (7, [v0, v1, v2, v3, v4, v5, v6, v7, v8, v9, v10, v11, v12, v13, v14, v15, v16, v17, .ref y0, .ref z0, .int n_4, v21, v22, v23, v24, v25, v26, v27])), (y0, .inl (yc, 360, .inl (upd (upd (upd yf n_1.toNatClampNeg wt) n_2.toNatClampNeg a) n_3.toNatClampNeg b))), (z0, .inl (zc, 120, .inr (.inl (vp_updL gf im.toNatClampNeg pic))))]) [0, 1, 2] (by decide) rfl
  have hK9 := hK.sub (tys' := [(yc, .int), (zc, .long)]) [0, 1] rfl
  exact W.vret hx hb hr (fun t ht hW => ⟨⟨(), rfl, trivial, n_4, upd (upd (upd yf n_1.toNatClampNeg wt) n_2.toNatClampNeg a) n_3.toNatClampNeg b, vp_updL gf im.toNatClampNeg pic, (by first | omega | decide | (simp only [fa_lt, fa_le, fa_eq, and_true, true_and, and_false, false_and, not_true_eq_false, not_false_eq_true, li_0, li_1, li_2, li_3, li_4, li_5, li_6, li_7, li_8, li_9, li_10, li_12, li_15, li_16, li_20, li_30, li_34, li_38, li_40, li_63, li_64, li_65, li_78, li_120, li_1000, li_4000, li_10000, li_11077, li_255, li_65535, li_m1, li_m2, li_m1000000001, li_m1000000002, li_m1000000003, li_m1000000004, li_m1000000005, li_m1000000006, li_m1000000007, or_true, true_or, or_false, false_or, implies_true, true_implies, false_implies] <;> omega)), (itP_mk (by omega) (by omega) (by omega) (by omega)), by rw [ht]; exact hP9, va_K.moved hW.alike hK9, hD9⟩, hS.F ht⟩) hS.2.2 dX9_item_57

def w_m_readHold : List Cond := .code yX9_readHold cX9_readHold 5 none :: (([.fieldLink RX9 263 "LampShapesModel" "heldThen" "I", .methodLink RX9 158 yX9_bits, .static yX9_bits, .initialized RX9, .code yX9_bits cX9_bits 5 (some .int), .methodLink RX9 224 yX9_must, .instanceMethod yX9_must, .selects RX9 yX9_must yX9_must, .code yX9_must cX9_must 2 none, .fieldLink RX9 217 "LampShapesModel" "isWrong" "Z", .fieldLink RX9 200 "LampShapesModel" "value" "I", .fieldLink RX9 203 "LampShapesModel" "sort" "I", .methodLink RX9 270 yX9_after, .instanceMethod yX9_after, .selects RX9 yX9_after yX9_after, .code yX9_after cX9_after 4 (some .int), .methodLink RX9 231 yX9_isWord, .instanceMethod yX9_isWord, .selects RX9 yX9_isWord yX9_isWord, .code yX9_isWord cX9_isWord 4 (some .boolean), .methodLink RX9 209 yJ0_length_8abf5, .instanceMethod yJ0_length_8abf5, .selects RJ0 yJ0_length_8abf5 yJ0_length_8abf5, .initialized RJ0, .code yJ0_length_8abf5 cJ0_length_8abf5 1 (some .int), .fieldLink RJ0 9 "java/lang/String" "value" "[B", .methodLink RJ0 335 yJ0_coder_7d493, .instanceMethod yJ0_coder_7d493, .selects RJ0 yJ0_coder_7d493 yJ0_coder_7d493, .code yJ0_coder_7d493 cJ0_coder_7d493 1 (some .byte), .fieldLink RJ0 38 "java/lang/String" "COMPACT_STRINGS" "Z", .fieldLink RJ0 15 "java/lang/String" "coder" "B", .fieldLink RX9 32 "LampShapesModel" "tape" "[I", .fieldLink RX9 194 "LampShapesModel" "begins" "I", .methodLink RX9 213 yJ0_charAt_5068e, .instanceMethod yJ0_charAt_5068e, .selects RJ0 yJ0_charAt_5068e yJ0_charAt_5068e, .code yJ0_charAt_5068e cJ0_charAt_5068e 2 (some .char), .methodLink RJ0 492 yJ0_isLatin1_aae02, .instanceMethod yJ0_isLatin1_aae02, .selects RJ0 yJ0_isLatin1_aae02 yJ0_isLatin1_aae02, .code yJ0_isLatin1_aae02 cJ0_isLatin1_aae02 1 (some .boolean), .methodLink RJ0 495 yJ1_charAt_3b067, .static yJ1_charAt_3b067, .initialized RJ1, .code yJ1_charAt_3b067 cJ1_charAt_3b067 2 (some .char), .methodLink RJ1 9 yJ0_checkIndex_df160, .static yJ0_checkIndex_df160, .code yJ0_checkIndex_df160 cJ0_checkIndex_df160 2 none, .fieldLink RJ0 1053 "jdk/internal/util/Preconditions" "SIOOBE_FORMATTER" "Ljava/util/function/BiFunction;", .methodLink RJ0 1059 yJ3_checkIndex_8e157, .static yJ3_checkIndex_8e157, .initialized RJ3, .code yJ3_checkIndex_8e157 cJ3_checkIndex_8e157 3 (some .int), .methodLink RJ0 498 yJ2_charAt_3b067, .static yJ2_charAt_3b067, .initialized RJ2, .code yJ2_charAt_3b067 cJ2_charAt_3b067 2 (some .char), .methodLink RJ2 67 yJ2_checkIndex_2214a, .static yJ2_checkIndex_2214a, .code yJ2_checkIndex_2214a cJ2_checkIndex_2214a 2 none, .methodLink RJ2 48 yJ2_length_9d52b, .static yJ2_length_9d52b, .code yJ2_length_9d52b cJ2_length_9d52b 1 (some .int), .methodLink RJ2 414 yJ0_checkIndex_df160, .methodLink RJ2 71 yJ2_getChar_3b067, .static yJ2_getChar_3b067, .code yJ2_getChar_3b067 cJ2_getChar_3b067 2 (some .char), .fieldLink RJ2 44 "java/lang/StringUTF16" "$assertionsDisabled" "Z", .fieldLink RJ2 59 "java/lang/StringUTF16" "HI_BYTE_SHIFT" "I", .fieldLink RJ2 63 "java/lang/StringUTF16" "LO_BYTE_SHIFT" "I", .fieldLink RX9 191 "LampShapesModel" "ends" "I", .methodLink RX9 221 yX9_next, .instanceMethod yX9_next, .selects RX9 yX9_next yX9_next, .code yX9_next cX9_next 2 none, .methodLink RX9 197 yX9_byteAt, .instanceMethod yX9_byteAt, .selects RX9 yX9_byteAt yX9_byteAt, .code yX9_byteAt cX9_byteAt 2 (some .int), .fieldLink RX9 188 "LampShapesModel" "taped" "I", .methodLink RX9 75 yX9_within, .static yX9_within, .code yX9_within cX9_within 3 (some .boolean), .methodLink RX9 206 yX9_isRowSign, .static yX9_isRowSign, .code yX9_isRowSign cX9_isRowSign 1 (some .boolean), .methodLink RX9 171 Lib.Math.min.name, .static Lib.Math.min.name, .initialized "java/lang/Math", .code Lib.Math.min.name Lib.Math.min.code 2 (some .int), .methodLink RX9 235 yX9_number, .instanceMethod yX9_number, .selects RX9 yX9_number yX9_number, .code yX9_number cX9_number 4 (some .int), .methodLink RX9 247 yX9_item, .instanceMethod yX9_item, .selects RX9 yX9_item yX9_item, .code yX9_item cX9_item 7 none, .fieldLink RX9 228 "LampShapesModel" "itemMany" "I", .fieldLink RX9 53 "LampShapesModel" "items" "[I", .fieldLink RX9 56 "LampShapesModel" "itemPictures" "[J", .fieldLink RX9 241 "LampShapesModel" "shapeThen" "I"] : List Cond) ++ wsX90)
set_option maxRecDepth 20000 in
theorem g_m_readHold_m_bits2_158 : GoodIn w_m_readHold (va_wsS RX9 158 yX9_bits w_m_bits2) := goodIn_r _ [2, 3, 4, 5] rfl (by decide +kernel)
set_option maxRecDepth 20000 in
theorem g_m_readHold_m_must0_224 : GoodIn w_m_readHold (wsV RX9 224 RX9 yX9_must w_m_must0) := goodIn_r _ [6, 7, 8, 4, 9, 10, 104, 105, 106, 107, 108, 109, 110, 111, 112, 113, 114, 115, 116, 117, 118, 119, 120, 121, 122, 123, 124, 125, 126, 127, 128, 129, 130, 131] rfl (by decide +kernel)
set_option maxRecDepth 20000 in
theorem g_m_readHold_m_mustw_224 : GoodIn w_m_readHold (wsV RX9 224 RX9 yX9_must w_m_mustw) := goodIn_r _ [6, 7, 8, 4, 9, 10, 104, 105, 106, 107, 108, 109, 110, 111, 112, 113, 114, 115, 116, 117, 118, 119, 120, 121, 122, 123, 124, 125, 126, 127, 128, 129, 130, 131] rfl (by decide +kernel)
set_option maxRecDepth 20000 in
theorem g_m_readHold_m_after_270 : GoodIn w_m_readHold (wsV RX9 270 RX9 yX9_after w_m_after) := goodIn_r _ [13, 14, 15, 4, 16, 17, 18, 19, 4, 20, 12, 21, 22, 23, 24, 25, 26, 27, 28, 29, 30, 31, 32, 33, 34, 35, 36, 37, 38, 39, 40, 41, 42, 43, 44, 45, 46, 47, 48, 49, 50, 51, 52, 53, 54, 55, 56, 57, 58, 59, 60, 61, 62, 63, 64, 65, 66, 67, 68, 69, 70, 71, 72, 6, 7, 8, 9, 10, 73, 74, 75, 76, 77, 78, 79, 80, 81, 11, 82, 83, 84, 85, 86, 87, 88, 89, 90, 91, 92, 93, 94, 95, 104, 105, 106, 107, 108, 109, 110, 111, 112, 113, 114, 115, 116, 117, 118, 119, 120, 121, 122, 123, 124, 125, 126, 127, 128, 129, 130, 131] rfl (by decide +kernel)
set_option maxRecDepth 20000 in
theorem g_m_readHold_m_number_235 : GoodIn w_m_readHold (wsV RX9 235 RX9 yX9_number w_m_number) := goodIn_r _ [92, 93, 94, 4, 95, 11, 12, 6, 7, 8, 4, 9, 10, 82, 83, 84, 73, 74, 75, 76, 72, 34, 77, 78, 79, 80, 81, 33, 85, 86, 87, 88, 89, 90, 91, 104, 105, 106, 107, 108, 109, 110, 111, 112, 113, 114, 115, 116, 117, 118, 119, 120, 121, 122, 123, 124, 125, 126, 127, 128, 129, 130, 131] rfl (by decide +kernel)
set_option maxRecDepth 20000 in
theorem g_m_readHold_m_item_247 : GoodIn w_m_readHold (wsV RX9 247 RX9 yX9_item w_m_item) := goodIn_r _ [96, 97, 98, 4, 99, 100, 101, 102, 104, 105, 106, 107, 108, 109, 110, 111, 112, 113, 114, 115, 116, 117, 118, 119, 120, 121, 122, 123, 124, 125, 126, 127, 128, 129, 130, 131] rfl (by decide +kernel)
set_option maxRecDepth 20000 in
theorem g_m_readHold_m_within_75 : GoodIn w_m_readHold (va_wsS RX9 75 yX9_within w_m_within) := goodIn_r _ [82, 83, 4, 84] rfl (by decide +kernel)
set_option maxRecDepth 20000 in
theorem g_m_readHold_m_must1_224 : GoodIn w_m_readHold (wsV RX9 224 RX9 yX9_must w_m_must1) := goodIn_r _ [6, 7, 8, 4, 9, 10, 73, 74, 75, 4, 76, 72, 34, 77, 78, 79, 80, 81, 33, 11, 82, 83, 84, 85, 86, 87, 12, 88, 89, 90, 91, 104, 105, 106, 107, 108, 109, 110, 111, 112, 113, 114, 115, 116, 117, 118, 119, 120, 121, 122, 123, 124, 125, 126, 127, 128, 129, 130, 131] rfl (by decide +kernel)
set_option maxHeartbeats 4000000 in
set_option maxRecDepth 100000 in
theorem m_readHold (l : Launch) (dC : Nat → ClassId) (dI : Nat → Nat → Nat) (ad : Nat → Nat) (h0 : Nat) (v0 : Value) (v1 : Value) (v2 : Value) (v3 : Value) (v4 : Value) (v5 : Value) (v6 : Value) (v7 : Value) (v8 : Value) (v9 : Value) (e0 : Nat) (ts : Int32) (bg : Int32) (en : Int32) (so : Int32) (va : Int32) (v17 : Value) (y0 : Nat) (z0 : Nat) (im : Int32) (sT : Int32) (v22 : Value) (hT : Int32) (v24 : Value) (v25 : Value) (v26 : Value) (v27 : Value) (ec : ClassId) (ef : Nat → Int32) (yc : ClassId) (yf : Nat → Int32) (zc : ClassId) (gf : Nat → Int64) (sz : Nat) (htm : 0 ≤ ts.toInt ∧ ts.toInt ≤ 120) (hlx : 0 ≤ bg.toInt ∧ en.toInt ≤ ts.toInt ∧ bg.toInt ≤ en.toInt) (hso : (so.toInt = 1 ∨ so.toInt = 3) → bg.toInt + 1 ≤ en.toInt) (hva : 0 ≤ va.toInt ∧ va.toInt ≤ 10000) (hht : 0 ≤ hT.toInt ∧ hT.toInt ≤ 511) (hst : 0 ≤ sT.toInt ∧ sT.toInt ≤ 9) (him : 0 ≤ im.toInt ∧ im.toInt ≤ 119) : Met l yX9_readHold w_m_readHold ({ frames := 6, cells := 0, slots := 0, locals := 131 } : Room) (va_Pc [.ref h0] (preT dC dI ad [(ec, .int), (yc, .int), (zc, .long)] [(h0, .inr (7, [v0, v1, v2, v3, v4, v5, v6, v7, v8, v9, .ref e0, .int ts, .int bg, .int en, .int so, .int va, .int 0, v17, .ref y0, .ref z0, .int im, .int sT, v22, .int hT, v24, v25, v26, v27])), (e0, .inl (ec, 120, .inl ef)), (y0, .inl (yc, 360, .inl yf)), (z0, .inl (zc, 120, .inr (.inl gf)))] sz)) (va_Qv (fun (_ : Unit) => True) (fun _ t => ∃ (bg2 : Int32), ∃ (en2 : Int32), ∃ (so2 : Int32), ∃ (va2 : Int32), ∃ (iw2 : Int32), ∃ (hT2 : Int32), ∃ (im2 : Int32), ∃ (yg : Nat → Int32), ∃ (gg : Nat → Int64), (0 ≤ bg2.toInt ∧ en2.toInt ≤ ts.toInt ∧ bg2.toInt ≤ en2.toInt) ∧ ((so2.toInt = 1 ∨ so2.toInt = 3) → bg2.toInt + 1 ≤ en2.toInt) ∧ (0 ≤ va2.toInt ∧ va2.toInt ≤ 10000) ∧ (iw2.toInt = 0 ∨ iw2.toInt = 1) ∧ (iw2.toInt = 0 → en.toInt ≤ bg2.toInt) ∧ (im2.toInt = im.toInt + 1) ∧ (iw2.toInt = 0 → ∀ cc : Int, RI yf yg im.toInt.toNat sT.toInt cc hT.toInt.toNat sT.toInt cc hT2.toInt.toNat ∧ (0 ≤ hT2.toInt ∧ hT2.toInt ≤ 511)) ∧ va_P (dC, dI) vwCl [(h0, .inr (7, [v0, v1, v2, v3, v4, v5, v6, v7, v8, v9, .ref e0, .int ts, .int bg2, .int en2, .int so2, .int va2, .int iw2, v17, .ref y0, .ref z0, .int im2, .int sT, v22, .int hT2, v24, v25, v26, v27])), (e0, .inl (ec, 120, .inl ef)), (y0, .inl (yc, 360, .inl yg)), (z0, .inl (zc, 120, .inr (.inl gg)))] t.heap ∧ va_K (dC, dI) vwCl [(ec, .int), (yc, .int), (zc, .long)] t ∧ va_D (va_A [(h0, .inr (7, [v0, v1, v2, v3, v4, v5, v6, v7, v8, v9, .ref e0, .int ts, .int bg, .int en, .int so, .int va, .int 0, v17, .ref y0, .ref z0, .int im, .int sT, v22, .int hT, v24, v25, v26, v27])), (e0, .inl (ec, 120, .inl ef)), (y0, .inl (yc, 360, .inl yf)), (z0, .inl (zc, 120, .inr (.inl gf)))] sz) [(h0, .inr (7, [v0, v1, v2, v3, v4, v5, v6, v7, v8, v9, .ref e0, .int ts, .int bg2, .int en2, .int so2, .int va2, .int iw2, v17, .ref y0, .ref z0, .int im2, .int sT, v22, .int hT2, v24, v25, v26, v27])), (e0, .inl (ec, 120, .inl ef)), (y0, .inl (yc, 360, .inl yg)), (z0, .inl (zc, 120, .inr (.inl gg)))]) (va_A [(h0, .inr (7, [v0, v1, v2, v3, v4, v5, v6, v7, v8, v9, .ref e0, .int ts, .int bg, .int en, .int so, .int va, .int 0, v17, .ref y0, .ref z0, .int im, .int sT, v22, .int hT, v24, v25, v26, v27])), (e0, .inl (ec, 120, .inl ef)), (y0, .inl (yc, 360, .inl yf)), (z0, .inl (zc, 120, .inr (.inl gf)))] sz)) 0 0 (va_A [(h0, .inr (7, [v0, v1, v2, v3, v4, v5, v6, v7, v8, v9, .ref e0, .int ts, .int bg, .int en, .int so, .int va, .int 0, v17, .ref y0, .ref z0, .int im, .int sT, v22, .int hT, v24, v25, v26, v27])), (e0, .inl (ec, 120, .inl ef)), (y0, .inl (yc, 360, .inl yf)), (z0, .inl (zc, 120, .inr (.inl gf)))] sz) := by
  refine Met.ofW (cc := cX9_readHold) (maxL := 5) (ret := none) (by decide) rfl ?_
  intro p e s m args below meth c s₁ B hml hv
  obtain ⟨rfl, ⟨hsz, hP, hK, hD0, hev⟩, hsf⟩ := hv
  have hx := B.exec
  have hb := B.bytes
  have hr := B.returns
  have hts := atoms_spec (ws := w_m_readHold) B.pre
  have hown : s.vm.findClass RX9 = some m.cls := findClass_of_methodNamed B.named
  have hlocks := B.notSynchronized
  have inX9 : ∀ w ∈ wsX90, w ∈ w_m_readHold := fun w h => List.mem_cons_of_mem _ (List.mem_append_right _ h)
  subst hsz
  have hD := hD0.self (sz := s.heap.size)
  generalize hAe : va_A [(h0, .inr (7, [v0, v1, v2, v3, v4, v5, v6, v7, v8, v9, .ref e0, .int ts, .int bg, .int en, .int so, .int va, .int 0, v17, .ref y0, .ref z0, .int im, .int sT, v22, .int hT, v24, v25, v26, v27])), (e0, .inl (ec, 120, .inl ef)), (y0, .inl (yc, 360, .inl yf)), (z0, .inl (zc, 120, .inr (.inl gf)))] s.heap.size = A at hD hsf ⊢
  have hA : ∀ q : Nat, s.heap.size ≤ q → A q := fun q h => by rw [← hAe]; exact Or.inr h
  have hS : va_S A s.heap s.heap [] := va_S.rf
  have hP : va_P (dC, dI) vwCl [(h0, .inr (7, [v0, v1, v2, v3, v4, v5, v6, v7, v8, v9, .ref e0, .int ts, .int bg, .int en, .int so, .int va, .int 0, v17, .ref y0, .ref z0, .int im, .int sT, v22, .int hT, v24, v25, v26, v27])), (e0, .inl (ec, 120, .inl ef)), (y0, .inl (yc, 360, .inl yf)), (z0, .inl (zc, 120, .inr (.inl gf)))] s.heap := hP
  have hl := lv_entry ([.ref h0]) (n := 5) (Nat.le_of_ble_eq_true rfl)
  rw [lg_entry_eq]
  generalize (lg_sl ([.ref h0]) ++ List.replicate (5 - (lg_sl ([.ref h0])).length) Slot.unset).toArray = ls at hl ⊢
  have hl : lv_has ls 5 [(0, .ref h0)] := hl
  refine lv_aload_n hx hb dX9_readHold_0 rfl (lv_at hl 0 rfl) ?_
  refine lv_aload_n hx hb dX9_readHold_1 rfl (lv_at hl 0 rfl) ?_
  refine va_get (D := (dC, dI)) (ci := 7) (v := .int hT) (C := RX9) (T := TX9) (N := 28) hx hb hts inX9 hown hK hP 0 rfl rfl 23 (by decide) (hts _ (List.mem_of_getElem? (i := 1) rfl)) (fun _ h9 => h9) rfl dX9_readHold_2 ?_
  obtain ⟨n_1, en_1⟩ : ∃ z : Int64, z = hT.toInt64 := ⟨_, rfl⟩
  refine lv_i2l (v := n_1) hx hb dX9_readHold_5 en_1.symm ?_
  have hm9 : n_1.toBitVec.toNat = hT.toInt.toNat := mk_64 en_1 (by omega) (by omega)
  have hPc := hP.sub (ws' := []) [] rfl
  have hKc := hK.sub (tys' := []) [] rfl
  refine vp_callSi (W.runS (As := [.long n_1]) (rest := [.ref h0]) ⟨hx, hb, hml, hown, hts⟩ (m_bits2 l dC dI ad n_1 ) (va_cwS 1 hts g_m_readHold_m_bits2_158 rfl rfl rfl (by decide +kernel) ⟨(Nat.le_of_ble_eq_true rfl), (Nat.le_of_ble_eq_true rfl)⟩) ⟨preS_blind, fun U hU hW => ⟨rfl, preS_at hU hW hPc hKc hev⟩⟩ rfl rfl hl.1 rfl (lv_room (Nat.le_of_ble_eq_true rfl)) dX9_readHold_6 ⟨(Nat.le_of_ble_eq_true rfl), (Nat.le_of_ble_eq_true rfl)⟩) (fun r_2 hw => ?_)
  have hr_2 : (0 ≤ r_2.toInt ∧ r_2.toInt ≤ 64) ∧ (n_1.toBitVec.toNat < 512 → r_2.toInt = (pop9 n_1.toBitVec.toNat : Int)) := hw
  have hp9 : r_2.toInt = (pop9 hT.toInt.toNat : Int) := by
    have h8 := hr_2.2 (by rw [hm9]; omega)
    rw [hm9] at h8; exact h8
  refine lv_iconst (v := 4) hx hb dX9_readHold_9 (by decide) ?_
  refine lv_icmp_ge (tgt := 17) hx hb dX9_readHold_10 (by decide) (fun c_3 => ?_) (fun c_3 => ?_)
  · skip
    have tc_3 : 4 ≤ r_2.toInt := (fa_le _ _).mp c_3
    refine lv_iconst (v := 0) hx hb dX9_readHold_17 (by decide) ?_
    have hPc := hP.sub (ws' := [(h0, .inr (7, [v0, v1, v2, v3, v4, v5, v6, v7, v8, v9, .ref e0, .int ts, .int bg, .int en, .int so, .int va, .int 0, v17, .ref y0, .ref z0, .int im, .int sT, v22, .int hT, v24, v25, v26, v27]))]) [0] rfl
    have hKc := hK.sub (tys' := []) [] rfl
    have hDc := hD.sub (ws' := [(h0, .inr (7, [v0, v1, v2, v3, v4, v5, v6, v7, v8, v9, .ref e0, .int ts, .int bg, .int en, .int so, .int va, .int 0, v17, .ref y0, .ref z0, .int im, .int sT, v22, .int hT, v24, v25, v26, v27]))]) [0] (by decide) rfl
    have hFc := va_free (wc := [(h0, .inr (7, [v0, v1, v2, v3, v4, v5, v6, v7, v8, v9, .ref e0, .int ts, .int bg, .int en, .int so, .int va, .int 0, v17, .ref y0, .ref z0, .int im, .int sT, v22, .int hT, v24, v25, v26, v27]))]) hD hS hA [0] rfl
    refine va_callv (va_runV (As := [.int 0]) (rest := []) ⟨hx, hb, hml, hown, hts⟩ (m_must0 l dC dI ad h0 v0 v1 v2 v3 v4 v5 v6 v7 v8 v9 (.ref e0) (.int ts) (.int bg) (.int en) (.int so) (.int va) 0 v17 (.ref y0) (.ref z0) (.int im) (.int sT) v22 (.int hT) v24 v25 v26 v27 s.heap.size ) (cwV 1 hts g_m_readHold_m_must0_224 rfl rfl rfl (by decide +kernel) ⟨(Nat.le_of_ble_eq_true rfl), (Nat.le_of_ble_eq_true rfl)⟩) ⟨preM_blind, va_recv hKc hPc (ci := 7) (q0 := 0) rfl rfl, fun U hU hW => ⟨rfl, preM_at hU hW hPc hKc hDc hev⟩⟩ rfl rfl hl.1 rfl (lv_room (Nat.le_of_ble_eq_true rfl)) dX9_readHold_18 ⟨(Nat.le_of_ble_eq_true rfl), (Nat.le_of_ble_eq_true rfl)⟩) hS (fun q _ h => hFc q h) hFc (fun u t H1 locs ht hvm hw hB hz1 hk1 hS => ?_)
    obtain ⟨hP1, hK1, hD1⟩ := hB
    rw [ht] at hP1
    have hK1 := va_K.moved hvm.symm hK1
    obtain ⟨hP, hD⟩ := va_join (wr := [(e0, .inl (ec, 120, .inl ef)), (y0, .inl (yc, 360, .inl yf)), (z0, .inl (zc, 120, .inr (.inl gf)))]) (w1 := [(h0, .inr (7, [v0, v1, v2, v3, v4, v5, v6, v7, v8, v9, .ref e0, .int ts, .int bg, .int en, .int so, .int va, .int 1, v17, .ref y0, .ref z0, .int im, .int sT, v22, .int hT, v24, v25, v26, v27]))]) hP hD [0] [1, 2, 3] rfl rfl (by decide) (by decide) hk1 hFc hP1 hD1
    generalize H1 = H at hP hS ⊢
    have hP : va_P (dC, dI) vwCl [(e0, .inl (ec, 120, .inl ef)), (y0, .inl (yc, 360, .inl yf)), (z0, .inl (zc, 120, .inr (.inl gf))), (h0, .inr (7, [v0, v1, v2, v3, v4, v5, v6, v7, v8, v9, .ref e0, .int ts, .int bg, .int en, .int so, .int va, .int 1, v17, .ref y0, .ref z0, .int im, .int sT, v22, .int hT, v24, v25, v26, v27]))] H := hP
    have hD : va_D A [(e0, .inl (ec, 120, .inl ef)), (y0, .inl (yc, 360, .inl yf)), (z0, .inl (zc, 120, .inr (.inl gf))), (h0, .inr (7, [v0, v1, v2, v3, v4, v5, v6, v7, v8, v9, .ref e0, .int ts, .int bg, .int en, .int so, .int va, .int 1, v17, .ref y0, .ref z0, .int im, .int sT, v22, .int hT, v24, v25, v26, v27]))] := hD
    refine lv_aload_n hx hb dX9_readHold_21 rfl (lv_at hl 0 rfl) ?_
    refine va_get (D := (dC, dI)) (ci := 7) (v := .int va) (C := RX9) (T := TX9) (N := 28) hx hb hts inX9 hown hK hP 3 rfl rfl 15 (by decide) (hts _ (List.mem_of_getElem? (i := 11) rfl)) (fun _ h9 => h9) rfl dX9_readHold_22 ?_
    refine lv_istore_n (lv' := [(1, .int va), (0, .ref h0)]) hx hb dX9_readHold_25 rfl hl (by decide) rfl (fun ls hl => ?_)
    refine lv_aload_n hx hb dX9_readHold_26 rfl (lv_at hl 1 rfl) ?_
    refine lv_aload_n hx hb dX9_readHold_27 rfl (lv_at hl 1 rfl) ?_
    refine va_get (D := (dC, dI)) (ci := 7) (v := .int so) (C := RX9) (T := TX9) (N := 28) hx hb hts inX9 hown hK hP 3 rfl rfl 14 (by decide) (hts _ (List.mem_of_getElem? (i := 12) rfl)) (fun _ h9 => h9) rfl dX9_readHold_28 ?_
    refine lv_iconst (v := 2) hx hb dX9_readHold_31 (by decide) ?_
    refine lv_icmp_ne (tgt := 64) hx hb dX9_readHold_32 (by decide) (fun c_5 => ?_) (fun c_5 => ?_)
    · skip
      have tc_5 : ¬ so.toInt = 2 := fun h => c_5 ((fa_eq _ _).mpr h)
      refine lv_iconst (v := 0) hx hb dX9_readHold_64 (by decide) ?_
      have hPc := hP.sub (ws' := [(h0, .inr (7, [v0, v1, v2, v3, v4, v5, v6, v7, v8, v9, .ref e0, .int ts, .int bg, .int en, .int so, .int va, .int 1, v17, .ref y0, .ref z0, .int im, .int sT, v22, .int hT, v24, v25, v26, v27]))]) [3] rfl
      have hKc := hK.sub (tys' := []) [] rfl
      have hDc := hD.sub (ws' := [(h0, .inr (7, [v0, v1, v2, v3, v4, v5, v6, v7, v8, v9, .ref e0, .int ts, .int bg, .int en, .int so, .int va, .int 1, v17, .ref y0, .ref z0, .int im, .int sT, v22, .int hT, v24, v25, v26, v27]))]) [3] (by decide) rfl
      have hFc := va_free (wc := [(h0, .inr (7, [v0, v1, v2, v3, v4, v5, v6, v7, v8, v9, .ref e0, .int ts, .int bg, .int en, .int so, .int va, .int 1, v17, .ref y0, .ref z0, .int im, .int sT, v22, .int hT, v24, v25, v26, v27]))]) hD hS hA [3] rfl
      refine va_callv (va_runV (As := [.int 0]) (rest := []) ⟨hx, hb, hml, hown, hts⟩ (m_mustw l dC dI ad h0 0 v0 v1 v2 v3 v4 v5 v6 v7 v8 v9 (.ref e0) (.int ts) (.int bg) (.int en) (.int so) (.int va) v17 (.ref y0) (.ref z0) (.int im) (.int sT) v22 (.int hT) v24 v25 v26 v27 H.size ) (cwV 1 hts g_m_readHold_m_mustw_224 rfl rfl rfl (by decide +kernel) ⟨(Nat.le_of_ble_eq_true rfl), (Nat.le_of_ble_eq_true rfl)⟩) ⟨preM_blind, va_recv hKc hPc (ci := 7) (q0 := 0) rfl rfl, fun U hU hW => ⟨rfl, preM_at hU hW hPc hKc hDc hev⟩⟩ rfl rfl hl.1 rfl (lv_room (Nat.le_of_ble_eq_true rfl)) dX9_readHold_65 ⟨(Nat.le_of_ble_eq_true rfl), (Nat.le_of_ble_eq_true rfl)⟩) hS (fun q _ h => hFc q h) hFc (fun u t H1 locs ht hvm hw hB hz1 hk1 hS => ?_)
      obtain ⟨hP1, hK1, hD1⟩ := hB
      rw [ht] at hP1
      have hK1 := va_K.moved hvm.symm hK1
      obtain ⟨hP, hD⟩ := va_join (wr := [(e0, .inl (ec, 120, .inl ef)), (y0, .inl (yc, 360, .inl yf)), (z0, .inl (zc, 120, .inr (.inl gf)))]) (w1 := [(h0, .inr (7, [v0, v1, v2, v3, v4, v5, v6, v7, v8, v9, .ref e0, .int ts, .int bg, .int en, .int so, .int va, .int 1, v17, .ref y0, .ref z0, .int im, .int sT, v22, .int hT, v24, v25, v26, v27]))]) hP hD [3] [0, 1, 2] rfl rfl (by decide) (by decide) hk1 hFc hP1 hD1
      generalize H1 = H at hP hS ⊢
      have hP : va_P (dC, dI) vwCl [(e0, .inl (ec, 120, .inl ef)), (y0, .inl (yc, 360, .inl yf)), (z0, .inl (zc, 120, .inr (.inl gf))), (h0, .inr (7, [v0, v1, v2, v3, v4, v5, v6, v7, v8, v9, .ref e0, .int ts, .int bg, .int en, .int so, .int va, .int 1, v17, .ref y0, .ref z0, .int im, .int sT, v22, .int hT, v24, v25, v26, v27]))] H := hP
      have hD : va_D A [(e0, .inl (ec, 120, .inl ef)), (y0, .inl (yc, 360, .inl yf)), (z0, .inl (zc, 120, .inr (.inl gf))), (h0, .inr (7, [v0, v1, v2, v3, v4, v5, v6, v7, v8, v9, .ref e0, .int ts, .int bg, .int en, .int so, .int va, .int 1, v17, .ref y0, .ref z0, .int im, .int sT, v22, .int hT, v24, v25, v26, v27]))] := hD
      refine lv_aload_n hx hb dX9_readHold_68 rfl (lv_at hl 1 rfl) ?_
      refine lv_dup hx hb dX9_readHold_69 rfl ?_
      refine va_get (D := (dC, dI)) (ci := 7) (v := .int hT) (C := RX9) (T := TX9) (N := 28) hx hb hts inX9 hown hK hP 3 rfl rfl 23 (by decide) (hts _ (List.mem_of_getElem? (i := 1) rfl)) (fun _ h9 => h9) rfl dX9_readHold_70 ?_
      refine lv_aload_n hx hb dX9_readHold_73 rfl (lv_at hl 1 rfl) ?_
      refine va_get (D := (dC, dI)) (ci := 7) (v := .int 1) (C := RX9) (T := TX9) (N := 28) hx hb hts inX9 hown hK hP 3 rfl rfl 16 (by decide) (hts _ (List.mem_of_getElem? (i := 10) rfl)) (fun _ h9 => h9) rfl dX9_readHold_74 ?_
      refine lv_if_eq (tgt := 84) hx hb dX9_readHold_77 (by decide) (fun c => absurd c (by decide)) (fun _ => ?_)
      refine lv_iconst (v := 0) hx hb dX9_readHold_80 (by decide) ?_
      refine lv_goto (tgt := 87) hx hb dX9_readHold_81 (by decide) ?_
      refine lv_ior hx hb dX9_readHold_87 ?_
      refine lv_topi (fun n_7 en_7 => ?_)
      have tn_7 : n_7.toInt = hT.toInt := by rw [pp_or0 en_7]
      refine va_put (D := (dC, dI)) (ci := 7) (v := .int n_7) (ty := .int) (C := RX9) (T := TX9) (N := 28) hx hb hts inX9 tyX9 tyX9_ok nmX9 hown hK hP hD hS 3 rfl rfl 23 (by decide) (hts _ (List.mem_of_getElem? (i := 1) rfl)) (fun _ h9 => h9) rfl (by decide +kernel) rfl rfl (Nat.le_of_ble_eq_true rfl) dX9_readHold_88 (fun H locs hP hD hS => ?_)
      have hP : va_P (dC, dI) vwCl [(e0, .inl (ec, 120, .inl ef)), (y0, .inl (yc, 360, .inl yf)), (z0, .inl (zc, 120, .inr (.inl gf))), (h0, .inr (7, [v0, v1, v2, v3, v4, v5, v6, v7, v8, v9, .ref e0, .int ts, .int bg, .int en, .int so, .int va, .int 1, v17, .ref y0, .ref z0, .int im, .int sT, v22, .int n_7, v24, v25, v26, v27]))] H := hP
      have hD : va_D A [(e0, .inl (ec, 120, .inl ef)), (y0, .inl (yc, 360, .inl yf)), (z0, .inl (zc, 120, .inr (.inl gf))), (h0, .inr (7, [v0, v1, v2, v3, v4, v5, v6, v7, v8, v9, .ref e0, .int ts, .int bg, .int en, .int so, .int va, .int 1, v17, .ref y0, .ref z0, .int im, .int sT, v22, .int n_7, v24, v25, v26, v27]))] := hD
      refine lv_aload_n hx hb dX9_readHold_91 rfl (lv_at hl 1 rfl) ?_
      refine va_ldcSw (tx := "near") (q := ad 21) hx hb hown (ev_str hev 21 rfl) dX9_readHold_92 ?_
      refine lv_iconst (v := 1) hx hb dX9_readHold_95 (by decide) ?_
      refine lv_iconst (v := 2) hx hb dX9_readHold_96 (by decide) ?_
      have hPc := hP.sub (ws' := [(h0, .inr (7, [v0, v1, v2, v3, v4, v5, v6, v7, v8, v9, .ref e0, .int ts, .int bg, .int en, .int so, .int va, .int 1, v17, .ref y0, .ref z0, .int im, .int sT, v22, .int n_7, v24, v25, v26, v27])), (e0, .inl (ec, 120, .inl ef))]) [3, 0] rfl
      have hKc := hK.sub (tys' := [(ec, .int)]) [0] rfl
      have hDc := hD.sub (ws' := [(h0, .inr (7, [v0, v1, v2, v3, v4, v5, v6, v7, v8, v9, .ref e0, .int ts, .int bg, .int en, .int so, .int va, .int 1, v17, .ref y0, .ref z0, .int im, .int sT, v22, .int n_7, v24, v25, v26, v27])), (e0, .inl (ec, 120, .inl ef))]) [3, 0] (by decide) rfl
      have hFc := va_free (wc := [(h0, .inr (7, [v0, v1, v2, v3, v4, v5, v6, v7, v8, v9, .ref e0, .int ts, .int bg, .int en, .int so, .int va, .int 1, v17, .ref y0, .ref z0, .int im, .int sT, v22, .int n_7, v24, v25, v26, v27])), (e0, .inl (ec, 120, .inl ef))]) hD hS hA [3, 0] rfl
      refine va_calli (va_runV (As := [.ref (ad 21), .int 1, .int 2]) (rest := []) ⟨hx, hb, hml, hown, hts⟩ (m_after l dC dI ad h0 21 1 2 v0 v1 v2 v3 v4 v5 v6 v7 v8 v9 e0 ts bg en so va 1 v17 (.ref y0) (.ref z0) (.int im) (.int sT) v22 (.int n_7) v24 v25 v26 v27 ec ef H.size (by decide) htm hlx hso hva) (cwV 3 hts g_m_readHold_m_after_270 rfl rfl rfl (by decide +kernel) ⟨(Nat.le_of_ble_eq_true rfl), (Nat.le_of_ble_eq_true rfl)⟩) ⟨preT_blind, va_recv hKc hPc (ci := 7) (q0 := 0) rfl rfl, fun U hU hW => ⟨rfl, preM_at hU hW hPc hKc hDc hev, sf_at hsf hS hFc hU hW⟩⟩ rfl rfl hl.1 rfl (lv_room (Nat.le_of_ble_eq_true rfl)) dX9_readHold_97 ⟨(Nat.le_of_ble_eq_true rfl), (Nat.le_of_ble_eq_true rfl)⟩) hS (fun q _ h => hFc q h) hFc (fun r_9 u t H1 locs ht hvm hw hB hz1 hk1 hS => ?_)
      obtain ⟨bg_10, en_11, so_12, va_13, iw_14, hq_15, hq_16, hq_17, hq_18, hq_19, hP1, hK1, hD1⟩ := hB
      rw [ht] at hP1
      have hK1 := va_K.moved hvm.symm hK1
      obtain ⟨hP, hD⟩ := va_join (wr := [(y0, .inl (yc, 360, .inl yf)), (z0, .inl (zc, 120, .inr (.inl gf)))]) (w1 := [(h0, .inr (7, [v0, v1, v2, v3, v4, v5, v6, v7, v8, v9, .ref e0, .int ts, .int bg_10, .int en_11, .int so_12, .int va_13, .int iw_14, v17, .ref y0, .ref z0, .int im, .int sT, v22, .int n_7, v24, v25, v26, v27])), (e0, .inl (ec, 120, .inl ef))]) hP hD [3, 0] [1, 2] rfl rfl (by decide) (by decide) hk1 hFc hP1 hD1
      generalize H1 = H at hP hS ⊢
      have hP : va_P (dC, dI) vwCl [(y0, .inl (yc, 360, .inl yf)), (z0, .inl (zc, 120, .inr (.inl gf))), (h0, .inr (7, [v0, v1, v2, v3, v4, v5, v6, v7, v8, v9, .ref e0, .int ts, .int bg_10, .int en_11, .int so_12, .int va_13, .int iw_14, v17, .ref y0, .ref z0, .int im, .int sT, v22, .int n_7, v24, v25, v26, v27])), (e0, .inl (ec, 120, .inl ef))] H := hP
      have hD : va_D A [(y0, .inl (yc, 360, .inl yf)), (z0, .inl (zc, 120, .inr (.inl gf))), (h0, .inr (7, [v0, v1, v2, v3, v4, v5, v6, v7, v8, v9, .ref e0, .int ts, .int bg_10, .int en_11, .int so_12, .int va_13, .int iw_14, v17, .ref y0, .ref z0, .int im, .int sT, v22, .int n_7, v24, v25, v26, v27])), (e0, .inl (ec, 120, .inl ef))] := hD
      have hq_19 : iw_14.toInt = 0 → (1 : Int) = 0 ∧ bg.toInt ≤ bg_10.toInt := hq_19
      have ch_20 : ¬ iw_14.toInt = 0 := by omega
      refine lv_istore_n (lv' := [(2, .int r_9), (1, .int va), (0, .ref h0)]) hx hb dX9_readHold_100 rfl hl (by decide) rfl (fun ls hl => ?_)
      refine lv_aload_n hx hb dX9_readHold_101 rfl (lv_at hl 2 rfl) ?_
      refine va_ldcSw (tx := "turn") (q := ad 22) hx hb hown (ev_str hev 22 rfl) dX9_readHold_102 ?_
      refine lv_iconst (v := 0) hx hb dX9_readHold_105 (by decide) ?_
      refine lv_iconst (v := 3) hx hb dX9_readHold_106 (by decide) ?_
      have hPc := hP.sub (ws' := [(h0, .inr (7, [v0, v1, v2, v3, v4, v5, v6, v7, v8, v9, .ref e0, .int ts, .int bg_10, .int en_11, .int so_12, .int va_13, .int iw_14, v17, .ref y0, .ref z0, .int im, .int sT, v22, .int n_7, v24, v25, v26, v27])), (e0, .inl (ec, 120, .inl ef))]) [2, 3] rfl
      have hKc := hK.sub (tys' := [(ec, .int)]) [0] rfl
      have hDc := hD.sub (ws' := [(h0, .inr (7, [v0, v1, v2, v3, v4, v5, v6, v7, v8, v9, .ref e0, .int ts, .int bg_10, .int en_11, .int so_12, .int va_13, .int iw_14, v17, .ref y0, .ref z0, .int im, .int sT, v22, .int n_7, v24, v25, v26, v27])), (e0, .inl (ec, 120, .inl ef))]) [2, 3] (by decide) rfl
      have hFc := va_free (wc := [(h0, .inr (7, [v0, v1, v2, v3, v4, v5, v6, v7, v8, v9, .ref e0, .int ts, .int bg_10, .int en_11, .int so_12, .int va_13, .int iw_14, v17, .ref y0, .ref z0, .int im, .int sT, v22, .int n_7, v24, v25, v26, v27])), (e0, .inl (ec, 120, .inl ef))]) hD hS hA [2, 3] rfl
      refine va_calli (va_runV (As := [.ref (ad 22), .int 0, .int 3]) (rest := []) ⟨hx, hb, hml, hown, hts⟩ (m_after l dC dI ad h0 22 0 3 v0 v1 v2 v3 v4 v5 v6 v7 v8 v9 e0 ts bg_10 en_11 so_12 va_13 iw_14 v17 (.ref y0) (.ref z0) (.int im) (.int sT) v22 (.int n_7) v24 v25 v26 v27 ec ef H.size (by decide) htm hq_15 hq_16 hq_17) (cwV 3 hts g_m_readHold_m_after_270 rfl rfl rfl (by decide +kernel) ⟨(Nat.le_of_ble_eq_true rfl), (Nat.le_of_ble_eq_true rfl)⟩) ⟨preT_blind, va_recv hKc hPc (ci := 7) (q0 := 0) rfl rfl, fun U hU hW => ⟨rfl, preM_at hU hW hPc hKc hDc hev, sf_at hsf hS hFc hU hW⟩⟩ rfl rfl hl.1 rfl (lv_room (Nat.le_of_ble_eq_true rfl)) dX9_readHold_107 ⟨(Nat.le_of_ble_eq_true rfl), (Nat.le_of_ble_eq_true rfl)⟩) hS (fun q _ h => hFc q h) hFc (fun r_21 u t H1 locs ht hvm hw hB hz1 hk1 hS => ?_)
      obtain ⟨bg_22, en_23, so_24, va_25, iw_26, hq_27, hq_28, hq_29, hq_30, hq_31, hP1, hK1, hD1⟩ := hB
      rw [ht] at hP1
      have hK1 := va_K.moved hvm.symm hK1
      obtain ⟨hP, hD⟩ := va_join (wr := [(y0, .inl (yc, 360, .inl yf)), (z0, .inl (zc, 120, .inr (.inl gf)))]) (w1 := [(h0, .inr (7, [v0, v1, v2, v3, v4, v5, v6, v7, v8, v9, .ref e0, .int ts, .int bg_22, .int en_23, .int so_24, .int va_25, .int iw_26, v17, .ref y0, .ref z0, .int im, .int sT, v22, .int n_7, v24, v25, v26, v27])), (e0, .inl (ec, 120, .inl ef))]) hP hD [2, 3] [0, 1] rfl rfl (by decide) (by decide) hk1 hFc hP1 hD1
      generalize H1 = H at hP hS ⊢
      have hP : va_P (dC, dI) vwCl [(y0, .inl (yc, 360, .inl yf)), (z0, .inl (zc, 120, .inr (.inl gf))), (h0, .inr (7, [v0, v1, v2, v3, v4, v5, v6, v7, v8, v9, .ref e0, .int ts, .int bg_22, .int en_23, .int so_24, .int va_25, .int iw_26, v17, .ref y0, .ref z0, .int im, .int sT, v22, .int n_7, v24, v25, v26, v27])), (e0, .inl (ec, 120, .inl ef))] H := hP
      have hD : va_D A [(y0, .inl (yc, 360, .inl yf)), (z0, .inl (zc, 120, .inr (.inl gf))), (h0, .inr (7, [v0, v1, v2, v3, v4, v5, v6, v7, v8, v9, .ref e0, .int ts, .int bg_22, .int en_23, .int so_24, .int va_25, .int iw_26, v17, .ref y0, .ref z0, .int im, .int sT, v22, .int n_7, v24, v25, v26, v27])), (e0, .inl (ec, 120, .inl ef))] := hD
      have ch_32 : ¬ iw_26.toInt = 0 := by omega
      clear hq_15 hq_16 hq_17 hq_18 hq_19 ch_20
      refine lv_istore_n (lv' := [(3, .int r_21), (2, .int r_9), (1, .int va), (0, .ref h0)]) hx hb dX9_readHold_110 rfl hl (by decide) rfl (fun ls hl => ?_)
      refine lv_aload_n hx hb dX9_readHold_111 rfl (lv_at hl 3 rfl) ?_
      refine va_ldcSw (tx := "at") (q := ad 23) hx hb hown (ev_str hev 23 rfl) dX9_readHold_112 ?_
      refine lv_iconst (v := 0) hx hb dX9_readHold_115 (by decide) ?_
      refine lv_bipush (v := 7) hx hb dX9_readHold_116 (by decide) ?_
      have hPc := hP.sub (ws' := [(h0, .inr (7, [v0, v1, v2, v3, v4, v5, v6, v7, v8, v9, .ref e0, .int ts, .int bg_22, .int en_23, .int so_24, .int va_25, .int iw_26, v17, .ref y0, .ref z0, .int im, .int sT, v22, .int n_7, v24, v25, v26, v27])), (e0, .inl (ec, 120, .inl ef))]) [2, 3] rfl
      have hKc := hK.sub (tys' := [(ec, .int)]) [0] rfl
      have hDc := hD.sub (ws' := [(h0, .inr (7, [v0, v1, v2, v3, v4, v5, v6, v7, v8, v9, .ref e0, .int ts, .int bg_22, .int en_23, .int so_24, .int va_25, .int iw_26, v17, .ref y0, .ref z0, .int im, .int sT, v22, .int n_7, v24, v25, v26, v27])), (e0, .inl (ec, 120, .inl ef))]) [2, 3] (by decide) rfl
      have hFc := va_free (wc := [(h0, .inr (7, [v0, v1, v2, v3, v4, v5, v6, v7, v8, v9, .ref e0, .int ts, .int bg_22, .int en_23, .int so_24, .int va_25, .int iw_26, v17, .ref y0, .ref z0, .int im, .int sT, v22, .int n_7, v24, v25, v26, v27])), (e0, .inl (ec, 120, .inl ef))]) hD hS hA [2, 3] rfl
      refine va_calli (va_runV (As := [.ref (ad 23), .int 0, .int 7]) (rest := []) ⟨hx, hb, hml, hown, hts⟩ (m_after l dC dI ad h0 23 0 7 v0 v1 v2 v3 v4 v5 v6 v7 v8 v9 e0 ts bg_22 en_23 so_24 va_25 iw_26 v17 (.ref y0) (.ref z0) (.int im) (.int sT) v22 (.int n_7) v24 v25 v26 v27 ec ef H.size (by decide) htm hq_27 hq_28 hq_29) (cwV 3 hts g_m_readHold_m_after_270 rfl rfl rfl (by decide +kernel) ⟨(Nat.le_of_ble_eq_true rfl), (Nat.le_of_ble_eq_true rfl)⟩) ⟨preT_blind, va_recv hKc hPc (ci := 7) (q0 := 0) rfl rfl, fun U hU hW => ⟨rfl, preM_at hU hW hPc hKc hDc hev, sf_at hsf hS hFc hU hW⟩⟩ rfl rfl hl.1 rfl (lv_room (Nat.le_of_ble_eq_true rfl)) dX9_readHold_118 ⟨(Nat.le_of_ble_eq_true rfl), (Nat.le_of_ble_eq_true rfl)⟩) hS (fun q _ h => hFc q h) hFc (fun r_33 u t H1 locs ht hvm hw hB hz1 hk1 hS => ?_)
      obtain ⟨bg_34, en_35, so_36, va_37, iw_38, hq_39, hq_40, hq_41, hq_42, hq_43, hP1, hK1, hD1⟩ := hB
      rw [ht] at hP1
      have hK1 := va_K.moved hvm.symm hK1
      obtain ⟨hP, hD⟩ := va_join (wr := [(y0, .inl (yc, 360, .inl yf)), (z0, .inl (zc, 120, .inr (.inl gf)))]) (w1 := [(h0, .inr (7, [v0, v1, v2, v3, v4, v5, v6, v7, v8, v9, .ref e0, .int ts, .int bg_34, .int en_35, .int so_36, .int va_37, .int iw_38, v17, .ref y0, .ref z0, .int im, .int sT, v22, .int n_7, v24, v25, v26, v27])), (e0, .inl (ec, 120, .inl ef))]) hP hD [2, 3] [0, 1] rfl rfl (by decide) (by decide) hk1 hFc hP1 hD1
      generalize H1 = H at hP hS ⊢
      have hP : va_P (dC, dI) vwCl [(y0, .inl (yc, 360, .inl yf)), (z0, .inl (zc, 120, .inr (.inl gf))), (h0, .inr (7, [v0, v1, v2, v3, v4, v5, v6, v7, v8, v9, .ref e0, .int ts, .int bg_34, .int en_35, .int so_36, .int va_37, .int iw_38, v17, .ref y0, .ref z0, .int im, .int sT, v22, .int n_7, v24, v25, v26, v27])), (e0, .inl (ec, 120, .inl ef))] H := hP
      have hD : va_D A [(y0, .inl (yc, 360, .inl yf)), (z0, .inl (zc, 120, .inr (.inl gf))), (h0, .inr (7, [v0, v1, v2, v3, v4, v5, v6, v7, v8, v9, .ref e0, .int ts, .int bg_34, .int en_35, .int so_36, .int va_37, .int iw_38, v17, .ref y0, .ref z0, .int im, .int sT, v22, .int n_7, v24, v25, v26, v27])), (e0, .inl (ec, 120, .inl ef))] := hD
      have ch_44 : ¬ iw_38.toInt = 0 := by omega
      clear hq_27 hq_28 hq_29 hq_30 hq_31 ch_32
      refine lv_istore (lv' := [(4, .int r_33), (3, .int r_21), (2, .int r_9), (1, .int va), (0, .ref h0)]) hx hb dX9_readHold_121 hl (by decide) rfl (fun ls hl => ?_)
      refine lv_aload_n hx hb dX9_readHold_123 rfl (lv_at hl 4 rfl) ?_
      refine lv_bipush (v := 11) hx hb dX9_readHold_124 (by decide) ?_
      refine lv_iload_n hx hb dX9_readHold_126 rfl (lv_at hl 3 rfl) ?_
      refine lv_sipush (v := 1000) hx hb dX9_readHold_127 (by decide) ?_
      refine lv_iconst (v := 4) hx hb dX9_readHold_130 (by decide) ?_
      refine lv_iload_n hx hb dX9_readHold_131 rfl (lv_at hl 2 rfl) ?_
      refine lv_imul hx hb dX9_readHold_132 ?_
      refine lv_topi (fun n_45 en_45 => ?_)
      refine lv_iload_n hx hb dX9_readHold_133 rfl (lv_at hl 1 rfl) ?_
      refine lv_iadd hx hb dX9_readHold_134 ?_
      refine lv_topi (fun n_46 en_46 => ?_)
      refine lv_imul hx hb dX9_readHold_135 ?_
      refine lv_topi (fun n_47 en_47 => ?_)
      refine lv_bipush (v := 10) hx hb dX9_readHold_136 (by decide) ?_
      refine lv_iload hx hb dX9_readHold_138 (lv_at hl 0 rfl) ?_
      refine lv_imul hx hb dX9_readHold_140 ?_
      refine lv_topi (fun n_48 en_48 => ?_)
      refine lv_iadd hx hb dX9_readHold_141 ?_
      refine lv_topi (fun n_49 en_49 => ?_)
      refine lv_aload_n hx hb dX9_readHold_142 rfl (lv_at hl 4 rfl) ?_
      refine lv_iconst (v := 0) hx hb dX9_readHold_143 (by decide) ?_
      refine lv_bipush (v := 7) hx hb dX9_readHold_144 (by decide) ?_
      have hPc := hP.sub (ws' := [(h0, .inr (7, [v0, v1, v2, v3, v4, v5, v6, v7, v8, v9, .ref e0, .int ts, .int bg_34, .int en_35, .int so_36, .int va_37, .int iw_38, v17, .ref y0, .ref z0, .int im, .int sT, v22, .int n_7, v24, v25, v26, v27])), (e0, .inl (ec, 120, .inl ef))]) [2, 3] rfl
      have hKc := hK.sub (tys' := [(ec, .int)]) [0] rfl
      have hDc := hD.sub (ws' := [(h0, .inr (7, [v0, v1, v2, v3, v4, v5, v6, v7, v8, v9, .ref e0, .int ts, .int bg_34, .int en_35, .int so_36, .int va_37, .int iw_38, v17, .ref y0, .ref z0, .int im, .int sT, v22, .int n_7, v24, v25, v26, v27])), (e0, .inl (ec, 120, .inl ef))]) [2, 3] (by decide) rfl
      have hFc := va_free (wc := [(h0, .inr (7, [v0, v1, v2, v3, v4, v5, v6, v7, v8, v9, .ref e0, .int ts, .int bg_34, .int en_35, .int so_36, .int va_37, .int iw_38, v17, .ref y0, .ref z0, .int im, .int sT, v22, .int n_7, v24, v25, v26, v27])), (e0, .inl (ec, 120, .inl ef))]) hD hS hA [2, 3] rfl
      refine va_calli (va_runV (As := [.int 0, .int 7]) (rest := [.int n_49, .int va, .int 11, .ref h0]) ⟨hx, hb, hml, hown, hts⟩ (m_number l dC dI ad h0 0 7 v0 v1 v2 v3 v4 v5 v6 v7 v8 v9 e0 ts bg_34 en_35 so_36 va_37 iw_38 v17 (.ref y0) (.ref z0) (.int im) (.int sT) v22 (.int n_7) v24 v25 v26 v27 ec ef H.size htm hq_39 hq_40 hq_41) (cwV 2 hts g_m_readHold_m_number_235 rfl rfl rfl (by decide +kernel) ⟨(Nat.le_of_ble_eq_true rfl), (Nat.le_of_ble_eq_true rfl)⟩) ⟨preM_blind, va_recv hKc hPc (ci := 7) (q0 := 0) rfl rfl, fun U hU hW => ⟨rfl, preM_at hU hW hPc hKc hDc hev⟩⟩ rfl rfl hl.1 rfl (lv_room (Nat.le_of_ble_eq_true rfl)) dX9_readHold_146 ⟨(Nat.le_of_ble_eq_true rfl), (Nat.le_of_ble_eq_true rfl)⟩) hS (fun q _ h => hFc q h) hFc (fun r_50 u t H1 locs ht hvm hw hB hz1 hk1 hS => ?_)
      obtain ⟨bg_51, en_52, so_53, va_54, iw_55, hq_56, hq_57, hq_58, hq_59, hq_60, hP1, hK1, hD1⟩ := hB
      rw [ht] at hP1
      have hK1 := va_K.moved hvm.symm hK1
      obtain ⟨hP, hD⟩ := va_join (wr := [(y0, .inl (yc, 360, .inl yf)), (z0, .inl (zc, 120, .inr (.inl gf)))]) (w1 := [(h0, .inr (7, [v0, v1, v2, v3, v4, v5, v6, v7, v8, v9, .ref e0, .int ts, .int bg_51, .int en_52, .int so_53, .int va_54, .int iw_55, v17, .ref y0, .ref z0, .int im, .int sT, v22, .int n_7, v24, v25, v26, v27])), (e0, .inl (ec, 120, .inl ef))]) hP hD [2, 3] [0, 1] rfl rfl (by decide) (by decide) hk1 hFc hP1 hD1
      generalize H1 = H at hP hS ⊢
      have hP : va_P (dC, dI) vwCl [(y0, .inl (yc, 360, .inl yf)), (z0, .inl (zc, 120, .inr (.inl gf))), (h0, .inr (7, [v0, v1, v2, v3, v4, v5, v6, v7, v8, v9, .ref e0, .int ts, .int bg_51, .int en_52, .int so_53, .int va_54, .int iw_55, v17, .ref y0, .ref z0, .int im, .int sT, v22, .int n_7, v24, v25, v26, v27])), (e0, .inl (ec, 120, .inl ef))] H := hP
      have hD : va_D A [(y0, .inl (yc, 360, .inl yf)), (z0, .inl (zc, 120, .inr (.inl gf))), (h0, .inr (7, [v0, v1, v2, v3, v4, v5, v6, v7, v8, v9, .ref e0, .int ts, .int bg_51, .int en_52, .int so_53, .int va_54, .int iw_55, v17, .ref y0, .ref z0, .int im, .int sT, v22, .int n_7, v24, v25, v26, v27])), (e0, .inl (ec, 120, .inl ef))] := hD
      have hr_50 : r_50.toInt = va_37.toInt := hw
      have hq_60 : iw_55.toInt = 0 → iw_38.toInt = 0 ∧ (0 : Int) ≤ va_37.toInt ∧ va_37.toInt ≤ (7 : Int) ∧ en_35.toInt ≤ bg_51.toInt := hq_60
      have ch_61 : ¬ iw_55.toInt = 0 := by omega
      clear hq_39 hq_40 hq_41 hq_42 hq_43 ch_44
      refine lv_iadd hx hb dX9_readHold_149 ?_
      refine lv_topi (fun n_62 en_62 => ?_)
      refine lv_lconst (v := 0) hx hb dX9_readHold_150 (by decide) ?_
      have hPc := hP.sub (ws' := [(h0, .inr (7, [v0, v1, v2, v3, v4, v5, v6, v7, v8, v9, .ref e0, .int ts, .int bg_51, .int en_52, .int so_53, .int va_54, .int iw_55, v17, .ref y0, .ref z0, .int im, .int sT, v22, .int n_7, v24, v25, v26, v27])), (y0, .inl (yc, 360, .inl yf)), (z0, .inl (zc, 120, .inr (.inl gf)))]) [2, 0, 1] rfl
      have hKc := hK.sub (tys' := [(yc, .int), (zc, .long)]) [1, 2] rfl
      have hDc := hD.sub (ws' := [(h0, .inr (7, [v0, v1, v2, v3, v4, v5, v6, v7, v8, v9, .ref e0, .int ts, .int bg_51, .int en_52, .int so_53, .int va_54, .int iw_55, v17, .ref y0, .ref z0, .int im, .int sT, v22, .int n_7, v24, v25, v26, v27])), (y0, .inl (yc, 360, .inl yf)), (z0, .inl (zc, 120, .inr (.inl gf)))]) [2, 0, 1] (by decide) rfl
      have hFc := va_free (wc := [(h0, .inr (7, [v0, v1, v2, v3, v4, v5, v6, v7, v8, v9, .ref e0, .int ts, .int bg_51, .int en_52, .int so_53, .int va_54, .int iw_55, v17, .ref y0, .ref z0, .int im, .int sT, v22, .int n_7, v24, v25, v26, v27])), (y0, .inl (yc, 360, .inl yf)), (z0, .inl (zc, 120, .inr (.inl gf)))]) hD hS hA [2, 0, 1] rfl
      refine va_callv (va_runV (As := [.int 11, .int va, .int n_62, .long 0]) (rest := []) ⟨hx, hb, hml, hown, hts⟩ (m_item l dC dI ad h0 11 va n_62 0 v0 v1 v2 v3 v4 v5 v6 v7 v8 v9 (.ref e0) (.int ts) (.int bg_51) (.int en_52) (.int so_53) (.int va_54) (.int iw_55) v17 y0 z0 im (.int sT) v22 (.int n_7) v24 v25 v26 v27 yc yf zc gf H.size him) (cwV 4 hts g_m_readHold_m_item_247 rfl rfl rfl (by decide +kernel) ⟨(Nat.le_of_ble_eq_true rfl), (Nat.le_of_ble_eq_true rfl)⟩) ⟨preM_blind, va_recv hKc hPc (ci := 7) (q0 := 0) rfl rfl, fun U hU hW => ⟨rfl, preM_at hU hW hPc hKc hDc hev⟩⟩ rfl rfl hl.1 rfl (lv_room (Nat.le_of_ble_eq_true rfl)) dX9_readHold_151 ⟨(Nat.le_of_ble_eq_true rfl), (Nat.le_of_ble_eq_true rfl)⟩) hS (fun q _ h => hFc q h) hFc (fun u t H1 locs ht hvm hw hB hz1 hk1 hS => ?_)
      obtain ⟨im_64, yg_65, gg_66, hq_67, hq_68, hP1, hK1, hD1⟩ := hB
      rw [ht] at hP1
      have hK1 := va_K.moved hvm.symm hK1
      obtain ⟨hP, hD⟩ := va_join (wr := [(e0, .inl (ec, 120, .inl ef))]) (w1 := [(h0, .inr (7, [v0, v1, v2, v3, v4, v5, v6, v7, v8, v9, .ref e0, .int ts, .int bg_51, .int en_52, .int so_53, .int va_54, .int iw_55, v17, .ref y0, .ref z0, .int im_64, .int sT, v22, .int n_7, v24, v25, v26, v27])), (y0, .inl (yc, 360, .inl yg_65)), (z0, .inl (zc, 120, .inr (.inl gg_66)))]) hP hD [2, 0, 1] [3] rfl rfl (by decide) (by decide) hk1 hFc hP1 hD1
      generalize H1 = H at hP hS ⊢
      have hP : va_P (dC, dI) vwCl [(e0, .inl (ec, 120, .inl ef)), (h0, .inr (7, [v0, v1, v2, v3, v4, v5, v6, v7, v8, v9, .ref e0, .int ts, .int bg_51, .int en_52, .int so_53, .int va_54, .int iw_55, v17, .ref y0, .ref z0, .int im_64, .int sT, v22, .int n_7, v24, v25, v26, v27])), (y0, .inl (yc, 360, .inl yg_65)), (z0, .inl (zc, 120, .inr (.inl gg_66)))] H := hP
      have hD : va_D A [(e0, .inl (ec, 120, .inl ef)), (h0, .inr (7, [v0, v1, v2, v3, v4, v5, v6, v7, v8, v9, .ref e0, .int ts, .int bg_51, .int en_52, .int so_53, .int va_54, .int iw_55, v17, .ref y0, .ref z0, .int im_64, .int sT, v22, .int n_7, v24, v25, v26, v27])), (y0, .inl (yc, 360, .inl yg_65)), (z0, .inl (zc, 120, .inr (.inl gg_66)))] := hD
      have hP9 := hP.sub (ws' := [(h0, .inr (7, [v0, v1, v2, v3, v4, v5, v6, v7, v8, v9, .ref e0, .int ts, .int bg_51, .int en_52, .int so_53, .int va_54, .int iw_55, v17, .ref y0, .ref z0, .int im_64, .int sT, v22, .int n_7, v24, v25, v26, v27])), (e0, .inl (ec, 120, .inl ef)), (y0, .inl (yc, 360, .inl yg_65)), (z0, .inl (zc, 120, .inr (.inl gg_66)))]) [1, 0, 2, 3] rfl
      have hD9 := hD.sub (ws' := [(h0, .inr (7, [v0, v1, v2, v3, v4, v5, v6, v7, v8, v9, .ref e0, .int ts, .int bg_51, .int en_52, .int so_53, .int va_54, .int iw_55, v17, .ref y0, .ref z0, .int im_64, .int sT, v22, .int n_7, v24, v25, v26, v27])), (e0, .inl (ec, 120, .inl ef)), (y0, .inl (yc, 360, .inl yg_65)), (z0, .inl (zc, 120, .inr (.inl gg_66)))]) [1, 0, 2, 3] (by decide) rfl
      have hK9 := hK.sub (tys' := [(ec, .int), (yc, .int), (zc, .long)]) [0, 1, 2] rfl
      exact W.vret hx hb hr (fun t ht hW => ⟨⟨(), rfl, trivial, bg_51, en_52, so_53, va_54, iw_55, n_7, im_64, yg_65, gg_66, hq_56, hq_57, hq_58, hq_59, (by first | omega | decide | (simp only [fa_lt, fa_le, fa_eq, and_true, true_and, and_false, false_and, not_true_eq_false, not_false_eq_true, li_0, li_1, li_2, li_3, li_4, li_5, li_6, li_7, li_8, li_9, li_10, li_12, li_15, li_16, li_20, li_30, li_34, li_38, li_40, li_63, li_64, li_65, li_78, li_120, li_1000, li_4000, li_10000, li_11077, li_255, li_65535, li_m1, li_m2, li_m1000000001, li_m1000000002, li_m1000000003, li_m1000000004, li_m1000000005, li_m1000000006, li_m1000000007, or_true, true_or, or_false, false_or, implies_true, true_implies, false_implies] <;> omega)), hq_67, (fun hz cc => absurd hz (by first | omega | decide)), by rw [ht]; exact hP9, va_K.moved hW.alike hK9, hD9⟩, hS.F ht⟩) hS.2.2 dX9_readHold_154
    · skip
      have tc_5 : so.toInt = 2 := (fa_eq _ _).mp c_5
      refine lv_iload_n hx hb dX9_readHold_35 rfl (lv_at hl 0 rfl) ?_
      refine lv_iconst (v := 0) hx hb dX9_readHold_36 (by decide) ?_
      refine lv_aload_n hx hb dX9_readHold_37 rfl (lv_at hl 1 rfl) ?_
      refine va_get (D := (dC, dI)) (ci := 7) (v := .int sT) (C := RX9) (T := TX9) (N := 28) hx hb hts inX9 hown hK hP 3 rfl rfl 21 (by decide) (hts _ (List.mem_of_getElem? (i := 103) rfl)) (fun _ h9 => h9) rfl dX9_readHold_38 ?_
      refine lv_iconst (v := 1) hx hb dX9_readHold_41 (by decide) ?_
      refine lv_isub hx hb dX9_readHold_42 ?_
      refine lv_topi (fun n_69 en_69 => ?_)
      have tn_69 : n_69.toInt = sT.toInt - 1 := pp_sub en_69 rfl rfl (by omega) (by omega)
      have hPc := hP.sub (ws' := []) [] rfl
      have hKc := hK.sub (tys' := []) [] rfl
      refine vp_callSi (W.runS (As := [.int va, .int 0, .int n_69]) (rest := [.ref h0]) ⟨hx, hb, hml, hown, hts⟩ (m_within l dC dI ad va 0 n_69 ) (va_cwS 3 hts g_m_readHold_m_within_75 rfl rfl rfl (by decide +kernel) ⟨(Nat.le_of_ble_eq_true rfl), (Nat.le_of_ble_eq_true rfl)⟩) ⟨preS_blind, fun U hU hW => ⟨rfl, preS_at hU hW hPc hKc hev⟩⟩ rfl rfl hl.1 rfl (lv_room (Nat.le_of_ble_eq_true rfl)) dX9_readHold_43 ⟨(Nat.le_of_ble_eq_true rfl), (Nat.le_of_ble_eq_true rfl)⟩) (fun r_70 hw => ?_)
      have hr_70 : (r_70.toInt = 1 ∧ 0 ≤ va.toInt ∧ va.toInt ≤ n_69.toInt) ∨ (r_70.toInt = 0 ∧ ¬ (0 ≤ va.toInt ∧ va.toInt ≤ n_69.toInt)) := hw
      refine lv_if_eq (tgt := 64) hx hb dX9_readHold_46 (by decide) (fun c_71 => ?_) (fun c_71 => ?_)
      · skip
        have tc_71 : r_70.toInt = 0 := (fa_eq _ _).mp c_71
        refine lv_iconst (v := 0) hx hb dX9_readHold_64 (by decide) ?_
        have hPc := hP.sub (ws' := [(h0, .inr (7, [v0, v1, v2, v3, v4, v5, v6, v7, v8, v9, .ref e0, .int ts, .int bg, .int en, .int so, .int va, .int 1, v17, .ref y0, .ref z0, .int im, .int sT, v22, .int hT, v24, v25, v26, v27]))]) [3] rfl
        have hKc := hK.sub (tys' := []) [] rfl
        have hDc := hD.sub (ws' := [(h0, .inr (7, [v0, v1, v2, v3, v4, v5, v6, v7, v8, v9, .ref e0, .int ts, .int bg, .int en, .int so, .int va, .int 1, v17, .ref y0, .ref z0, .int im, .int sT, v22, .int hT, v24, v25, v26, v27]))]) [3] (by decide) rfl
        have hFc := va_free (wc := [(h0, .inr (7, [v0, v1, v2, v3, v4, v5, v6, v7, v8, v9, .ref e0, .int ts, .int bg, .int en, .int so, .int va, .int 1, v17, .ref y0, .ref z0, .int im, .int sT, v22, .int hT, v24, v25, v26, v27]))]) hD hS hA [3] rfl
        refine va_callv (va_runV (As := [.int 0]) (rest := []) ⟨hx, hb, hml, hown, hts⟩ (m_mustw l dC dI ad h0 0 v0 v1 v2 v3 v4 v5 v6 v7 v8 v9 (.ref e0) (.int ts) (.int bg) (.int en) (.int so) (.int va) v17 (.ref y0) (.ref z0) (.int im) (.int sT) v22 (.int hT) v24 v25 v26 v27 H.size ) (cwV 1 hts g_m_readHold_m_mustw_224 rfl rfl rfl (by decide +kernel) ⟨(Nat.le_of_ble_eq_true rfl), (Nat.le_of_ble_eq_true rfl)⟩) ⟨preM_blind, va_recv hKc hPc (ci := 7) (q0 := 0) rfl rfl, fun U hU hW => ⟨rfl, preM_at hU hW hPc hKc hDc hev⟩⟩ rfl rfl hl.1 rfl (lv_room (Nat.le_of_ble_eq_true rfl)) dX9_readHold_65 ⟨(Nat.le_of_ble_eq_true rfl), (Nat.le_of_ble_eq_true rfl)⟩) hS (fun q _ h => hFc q h) hFc (fun u t H1 locs ht hvm hw hB hz1 hk1 hS => ?_)
        obtain ⟨hP1, hK1, hD1⟩ := hB
        rw [ht] at hP1
        have hK1 := va_K.moved hvm.symm hK1
        obtain ⟨hP, hD⟩ := va_join (wr := [(e0, .inl (ec, 120, .inl ef)), (y0, .inl (yc, 360, .inl yf)), (z0, .inl (zc, 120, .inr (.inl gf)))]) (w1 := [(h0, .inr (7, [v0, v1, v2, v3, v4, v5, v6, v7, v8, v9, .ref e0, .int ts, .int bg, .int en, .int so, .int va, .int 1, v17, .ref y0, .ref z0, .int im, .int sT, v22, .int hT, v24, v25, v26, v27]))]) hP hD [3] [0, 1, 2] rfl rfl (by decide) (by decide) hk1 hFc hP1 hD1
        generalize H1 = H at hP hS ⊢
        have hP : va_P (dC, dI) vwCl [(e0, .inl (ec, 120, .inl ef)), (y0, .inl (yc, 360, .inl yf)), (z0, .inl (zc, 120, .inr (.inl gf))), (h0, .inr (7, [v0, v1, v2, v3, v4, v5, v6, v7, v8, v9, .ref e0, .int ts, .int bg, .int en, .int so, .int va, .int 1, v17, .ref y0, .ref z0, .int im, .int sT, v22, .int hT, v24, v25, v26, v27]))] H := hP
        have hD : va_D A [(e0, .inl (ec, 120, .inl ef)), (y0, .inl (yc, 360, .inl yf)), (z0, .inl (zc, 120, .inr (.inl gf))), (h0, .inr (7, [v0, v1, v2, v3, v4, v5, v6, v7, v8, v9, .ref e0, .int ts, .int bg, .int en, .int so, .int va, .int 1, v17, .ref y0, .ref z0, .int im, .int sT, v22, .int hT, v24, v25, v26, v27]))] := hD
        refine lv_aload_n hx hb dX9_readHold_68 rfl (lv_at hl 1 rfl) ?_
        refine lv_dup hx hb dX9_readHold_69 rfl ?_
        refine va_get (D := (dC, dI)) (ci := 7) (v := .int hT) (C := RX9) (T := TX9) (N := 28) hx hb hts inX9 hown hK hP 3 rfl rfl 23 (by decide) (hts _ (List.mem_of_getElem? (i := 1) rfl)) (fun _ h9 => h9) rfl dX9_readHold_70 ?_
        refine lv_aload_n hx hb dX9_readHold_73 rfl (lv_at hl 1 rfl) ?_
        refine va_get (D := (dC, dI)) (ci := 7) (v := .int 1) (C := RX9) (T := TX9) (N := 28) hx hb hts inX9 hown hK hP 3 rfl rfl 16 (by decide) (hts _ (List.mem_of_getElem? (i := 10) rfl)) (fun _ h9 => h9) rfl dX9_readHold_74 ?_
        refine lv_if_eq (tgt := 84) hx hb dX9_readHold_77 (by decide) (fun c => absurd c (by decide)) (fun _ => ?_)
        refine lv_iconst (v := 0) hx hb dX9_readHold_80 (by decide) ?_
        refine lv_goto (tgt := 87) hx hb dX9_readHold_81 (by decide) ?_
        refine lv_ior hx hb dX9_readHold_87 ?_
        refine lv_topi (fun n_73 en_73 => ?_)
        have tn_73 : n_73.toInt = hT.toInt := by rw [pp_or0 en_73]
        refine va_put (D := (dC, dI)) (ci := 7) (v := .int n_73) (ty := .int) (C := RX9) (T := TX9) (N := 28) hx hb hts inX9 tyX9 tyX9_ok nmX9 hown hK hP hD hS 3 rfl rfl 23 (by decide) (hts _ (List.mem_of_getElem? (i := 1) rfl)) (fun _ h9 => h9) rfl (by decide +kernel) rfl rfl (Nat.le_of_ble_eq_true rfl) dX9_readHold_88 (fun H locs hP hD hS => ?_)
        have hP : va_P (dC, dI) vwCl [(e0, .inl (ec, 120, .inl ef)), (y0, .inl (yc, 360, .inl yf)), (z0, .inl (zc, 120, .inr (.inl gf))), (h0, .inr (7, [v0, v1, v2, v3, v4, v5, v6, v7, v8, v9, .ref e0, .int ts, .int bg, .int en, .int so, .int va, .int 1, v17, .ref y0, .ref z0, .int im, .int sT, v22, .int n_73, v24, v25, v26, v27]))] H := hP
        have hD : va_D A [(e0, .inl (ec, 120, .inl ef)), (y0, .inl (yc, 360, .inl yf)), (z0, .inl (zc, 120, .inr (.inl gf))), (h0, .inr (7, [v0, v1, v2, v3, v4, v5, v6, v7, v8, v9, .ref e0, .int ts, .int bg, .int en, .int so, .int va, .int 1, v17, .ref y0, .ref z0, .int im, .int sT, v22, .int n_73, v24, v25, v26, v27]))] := hD
        refine lv_aload_n hx hb dX9_readHold_91 rfl (lv_at hl 1 rfl) ?_
        refine va_ldcSw (tx := "near") (q := ad 21) hx hb hown (ev_str hev 21 rfl) dX9_readHold_92 ?_
        refine lv_iconst (v := 1) hx hb dX9_readHold_95 (by decide) ?_
        refine lv_iconst (v := 2) hx hb dX9_readHold_96 (by decide) ?_
        have hPc := hP.sub (ws' := [(h0, .inr (7, [v0, v1, v2, v3, v4, v5, v6, v7, v8, v9, .ref e0, .int ts, .int bg, .int en, .int so, .int va, .int 1, v17, .ref y0, .ref z0, .int im, .int sT, v22, .int n_73, v24, v25, v26, v27])), (e0, .inl (ec, 120, .inl ef))]) [3, 0] rfl
        have hKc := hK.sub (tys' := [(ec, .int)]) [0] rfl
        have hDc := hD.sub (ws' := [(h0, .inr (7, [v0, v1, v2, v3, v4, v5, v6, v7, v8, v9, .ref e0, .int ts, .int bg, .int en, .int so, .int va, .int 1, v17, .ref y0, .ref z0, .int im, .int sT, v22, .int n_73, v24, v25, v26, v27])), (e0, .inl (ec, 120, .inl ef))]) [3, 0] (by decide) rfl
        have hFc := va_free (wc := [(h0, .inr (7, [v0, v1, v2, v3, v4, v5, v6, v7, v8, v9, .ref e0, .int ts, .int bg, .int en, .int so, .int va, .int 1, v17, .ref y0, .ref z0, .int im, .int sT, v22, .int n_73, v24, v25, v26, v27])), (e0, .inl (ec, 120, .inl ef))]) hD hS hA [3, 0] rfl
        refine va_calli (va_runV (As := [.ref (ad 21), .int 1, .int 2]) (rest := []) ⟨hx, hb, hml, hown, hts⟩ (m_after l dC dI ad h0 21 1 2 v0 v1 v2 v3 v4 v5 v6 v7 v8 v9 e0 ts bg en so va 1 v17 (.ref y0) (.ref z0) (.int im) (.int sT) v22 (.int n_73) v24 v25 v26 v27 ec ef H.size (by decide) htm hlx hso hva) (cwV 3 hts g_m_readHold_m_after_270 rfl rfl rfl (by decide +kernel) ⟨(Nat.le_of_ble_eq_true rfl), (Nat.le_of_ble_eq_true rfl)⟩) ⟨preT_blind, va_recv hKc hPc (ci := 7) (q0 := 0) rfl rfl, fun U hU hW => ⟨rfl, preM_at hU hW hPc hKc hDc hev, sf_at hsf hS hFc hU hW⟩⟩ rfl rfl hl.1 rfl (lv_room (Nat.le_of_ble_eq_true rfl)) dX9_readHold_97 ⟨(Nat.le_of_ble_eq_true rfl), (Nat.le_of_ble_eq_true rfl)⟩) hS (fun q _ h => hFc q h) hFc (fun r_75 u t H1 locs ht hvm hw hB hz1 hk1 hS => ?_)
        obtain ⟨bg_76, en_77, so_78, va_79, iw_80, hq_81, hq_82, hq_83, hq_84, hq_85, hP1, hK1, hD1⟩ := hB
        rw [ht] at hP1
        have hK1 := va_K.moved hvm.symm hK1
        obtain ⟨hP, hD⟩ := va_join (wr := [(y0, .inl (yc, 360, .inl yf)), (z0, .inl (zc, 120, .inr (.inl gf)))]) (w1 := [(h0, .inr (7, [v0, v1, v2, v3, v4, v5, v6, v7, v8, v9, .ref e0, .int ts, .int bg_76, .int en_77, .int so_78, .int va_79, .int iw_80, v17, .ref y0, .ref z0, .int im, .int sT, v22, .int n_73, v24, v25, v26, v27])), (e0, .inl (ec, 120, .inl ef))]) hP hD [3, 0] [1, 2] rfl rfl (by decide) (by decide) hk1 hFc hP1 hD1
        generalize H1 = H at hP hS ⊢
        have hP : va_P (dC, dI) vwCl [(y0, .inl (yc, 360, .inl yf)), (z0, .inl (zc, 120, .inr (.inl gf))), (h0, .inr (7, [v0, v1, v2, v3, v4, v5, v6, v7, v8, v9, .ref e0, .int ts, .int bg_76, .int en_77, .int so_78, .int va_79, .int iw_80, v17, .ref y0, .ref z0, .int im, .int sT, v22, .int n_73, v24, v25, v26, v27])), (e0, .inl (ec, 120, .inl ef))] H := hP
        have hD : va_D A [(y0, .inl (yc, 360, .inl yf)), (z0, .inl (zc, 120, .inr (.inl gf))), (h0, .inr (7, [v0, v1, v2, v3, v4, v5, v6, v7, v8, v9, .ref e0, .int ts, .int bg_76, .int en_77, .int so_78, .int va_79, .int iw_80, v17, .ref y0, .ref z0, .int im, .int sT, v22, .int n_73, v24, v25, v26, v27])), (e0, .inl (ec, 120, .inl ef))] := hD
        have hq_85 : iw_80.toInt = 0 → (1 : Int) = 0 ∧ bg.toInt ≤ bg_76.toInt := hq_85
        have ch_86 : ¬ iw_80.toInt = 0 := by omega
        refine lv_istore_n (lv' := [(2, .int r_75), (1, .int va), (0, .ref h0)]) hx hb dX9_readHold_100 rfl hl (by decide) rfl (fun ls hl => ?_)
        refine lv_aload_n hx hb dX9_readHold_101 rfl (lv_at hl 2 rfl) ?_
        refine va_ldcSw (tx := "turn") (q := ad 22) hx hb hown (ev_str hev 22 rfl) dX9_readHold_102 ?_
        refine lv_iconst (v := 0) hx hb dX9_readHold_105 (by decide) ?_
        refine lv_iconst (v := 3) hx hb dX9_readHold_106 (by decide) ?_
        have hPc := hP.sub (ws' := [(h0, .inr (7, [v0, v1, v2, v3, v4, v5, v6, v7, v8, v9, .ref e0, .int ts, .int bg_76, .int en_77, .int so_78, .int va_79, .int iw_80, v17, .ref y0, .ref z0, .int im, .int sT, v22, .int n_73, v24, v25, v26, v27])), (e0, .inl (ec, 120, .inl ef))]) [2, 3] rfl
        have hKc := hK.sub (tys' := [(ec, .int)]) [0] rfl
        have hDc := hD.sub (ws' := [(h0, .inr (7, [v0, v1, v2, v3, v4, v5, v6, v7, v8, v9, .ref e0, .int ts, .int bg_76, .int en_77, .int so_78, .int va_79, .int iw_80, v17, .ref y0, .ref z0, .int im, .int sT, v22, .int n_73, v24, v25, v26, v27])), (e0, .inl (ec, 120, .inl ef))]) [2, 3] (by decide) rfl
        have hFc := va_free (wc := [(h0, .inr (7, [v0, v1, v2, v3, v4, v5, v6, v7, v8, v9, .ref e0, .int ts, .int bg_76, .int en_77, .int so_78, .int va_79, .int iw_80, v17, .ref y0, .ref z0, .int im, .int sT, v22, .int n_73, v24, v25, v26, v27])), (e0, .inl (ec, 120, .inl ef))]) hD hS hA [2, 3] rfl
        refine va_calli (va_runV (As := [.ref (ad 22), .int 0, .int 3]) (rest := []) ⟨hx, hb, hml, hown, hts⟩ (m_after l dC dI ad h0 22 0 3 v0 v1 v2 v3 v4 v5 v6 v7 v8 v9 e0 ts bg_76 en_77 so_78 va_79 iw_80 v17 (.ref y0) (.ref z0) (.int im) (.int sT) v22 (.int n_73) v24 v25 v26 v27 ec ef H.size (by decide) htm hq_81 hq_82 hq_83) (cwV 3 hts g_m_readHold_m_after_270 rfl rfl rfl (by decide +kernel) ⟨(Nat.le_of_ble_eq_true rfl), (Nat.le_of_ble_eq_true rfl)⟩) ⟨preT_blind, va_recv hKc hPc (ci := 7) (q0 := 0) rfl rfl, fun U hU hW => ⟨rfl, preM_at hU hW hPc hKc hDc hev, sf_at hsf hS hFc hU hW⟩⟩ rfl rfl hl.1 rfl (lv_room (Nat.le_of_ble_eq_true rfl)) dX9_readHold_107 ⟨(Nat.le_of_ble_eq_true rfl), (Nat.le_of_ble_eq_true rfl)⟩) hS (fun q _ h => hFc q h) hFc (fun r_87 u t H1 locs ht hvm hw hB hz1 hk1 hS => ?_)
        obtain ⟨bg_88, en_89, so_90, va_91, iw_92, hq_93, hq_94, hq_95, hq_96, hq_97, hP1, hK1, hD1⟩ := hB
        rw [ht] at hP1
        have hK1 := va_K.moved hvm.symm hK1
        obtain ⟨hP, hD⟩ := va_join (wr := [(y0, .inl (yc, 360, .inl yf)), (z0, .inl (zc, 120, .inr (.inl gf)))]) (w1 := [(h0, .inr (7, [v0, v1, v2, v3, v4, v5, v6, v7, v8, v9, .ref e0, .int ts, .int bg_88, .int en_89, .int so_90, .int va_91, .int iw_92, v17, .ref y0, .ref z0, .int im, .int sT, v22, .int n_73, v24, v25, v26, v27])), (e0, .inl (ec, 120, .inl ef))]) hP hD [2, 3] [0, 1] rfl rfl (by decide) (by decide) hk1 hFc hP1 hD1
        generalize H1 = H at hP hS ⊢
        have hP : va_P (dC, dI) vwCl [(y0, .inl (yc, 360, .inl yf)), (z0, .inl (zc, 120, .inr (.inl gf))), (h0, .inr (7, [v0, v1, v2, v3, v4, v5, v6, v7, v8, v9, .ref e0, .int ts, .int bg_88, .int en_89, .int so_90, .int va_91, .int iw_92, v17, .ref y0, .ref z0, .int im, .int sT, v22, .int n_73, v24, v25, v26, v27])), (e0, .inl (ec, 120, .inl ef))] H := hP
        have hD : va_D A [(y0, .inl (yc, 360, .inl yf)), (z0, .inl (zc, 120, .inr (.inl gf))), (h0, .inr (7, [v0, v1, v2, v3, v4, v5, v6, v7, v8, v9, .ref e0, .int ts, .int bg_88, .int en_89, .int so_90, .int va_91, .int iw_92, v17, .ref y0, .ref z0, .int im, .int sT, v22, .int n_73, v24, v25, v26, v27])), (e0, .inl (ec, 120, .inl ef))] := hD
        have ch_98 : ¬ iw_92.toInt = 0 := by omega
        clear hq_81 hq_82 hq_83 hq_84 hq_85 ch_86
        refine lv_istore_n (lv' := [(3, .int r_87), (2, .int r_75), (1, .int va), (0, .ref h0)]) hx hb dX9_readHold_110 rfl hl (by decide) rfl (fun ls hl => ?_)
        refine lv_aload_n hx hb dX9_readHold_111 rfl (lv_at hl 3 rfl) ?_
        refine va_ldcSw (tx := "at") (q := ad 23) hx hb hown (ev_str hev 23 rfl) dX9_readHold_112 ?_
        refine lv_iconst (v := 0) hx hb dX9_readHold_115 (by decide) ?_
        refine lv_bipush (v := 7) hx hb dX9_readHold_116 (by decide) ?_
        have hPc := hP.sub (ws' := [(h0, .inr (7, [v0, v1, v2, v3, v4, v5, v6, v7, v8, v9, .ref e0, .int ts, .int bg_88, .int en_89, .int so_90, .int va_91, .int iw_92, v17, .ref y0, .ref z0, .int im, .int sT, v22, .int n_73, v24, v25, v26, v27])), (e0, .inl (ec, 120, .inl ef))]) [2, 3] rfl
        have hKc := hK.sub (tys' := [(ec, .int)]) [0] rfl
        have hDc := hD.sub (ws' := [(h0, .inr (7, [v0, v1, v2, v3, v4, v5, v6, v7, v8, v9, .ref e0, .int ts, .int bg_88, .int en_89, .int so_90, .int va_91, .int iw_92, v17, .ref y0, .ref z0, .int im, .int sT, v22, .int n_73, v24, v25, v26, v27])), (e0, .inl (ec, 120, .inl ef))]) [2, 3] (by decide) rfl
        have hFc := va_free (wc := [(h0, .inr (7, [v0, v1, v2, v3, v4, v5, v6, v7, v8, v9, .ref e0, .int ts, .int bg_88, .int en_89, .int so_90, .int va_91, .int iw_92, v17, .ref y0, .ref z0, .int im, .int sT, v22, .int n_73, v24, v25, v26, v27])), (e0, .inl (ec, 120, .inl ef))]) hD hS hA [2, 3] rfl
        refine va_calli (va_runV (As := [.ref (ad 23), .int 0, .int 7]) (rest := []) ⟨hx, hb, hml, hown, hts⟩ (m_after l dC dI ad h0 23 0 7 v0 v1 v2 v3 v4 v5 v6 v7 v8 v9 e0 ts bg_88 en_89 so_90 va_91 iw_92 v17 (.ref y0) (.ref z0) (.int im) (.int sT) v22 (.int n_73) v24 v25 v26 v27 ec ef H.size (by decide) htm hq_93 hq_94 hq_95) (cwV 3 hts g_m_readHold_m_after_270 rfl rfl rfl (by decide +kernel) ⟨(Nat.le_of_ble_eq_true rfl), (Nat.le_of_ble_eq_true rfl)⟩) ⟨preT_blind, va_recv hKc hPc (ci := 7) (q0 := 0) rfl rfl, fun U hU hW => ⟨rfl, preM_at hU hW hPc hKc hDc hev, sf_at hsf hS hFc hU hW⟩⟩ rfl rfl hl.1 rfl (lv_room (Nat.le_of_ble_eq_true rfl)) dX9_readHold_118 ⟨(Nat.le_of_ble_eq_true rfl), (Nat.le_of_ble_eq_true rfl)⟩) hS (fun q _ h => hFc q h) hFc (fun r_99 u t H1 locs ht hvm hw hB hz1 hk1 hS => ?_)
        obtain ⟨bg_100, en_101, so_102, va_103, iw_104, hq_105, hq_106, hq_107, hq_108, hq_109, hP1, hK1, hD1⟩ := hB
        rw [ht] at hP1
        have hK1 := va_K.moved hvm.symm hK1
        obtain ⟨hP, hD⟩ := va_join (wr := [(y0, .inl (yc, 360, .inl yf)), (z0, .inl (zc, 120, .inr (.inl gf)))]) (w1 := [(h0, .inr (7, [v0, v1, v2, v3, v4, v5, v6, v7, v8, v9, .ref e0, .int ts, .int bg_100, .int en_101, .int so_102, .int va_103, .int iw_104, v17, .ref y0, .ref z0, .int im, .int sT, v22, .int n_73, v24, v25, v26, v27])), (e0, .inl (ec, 120, .inl ef))]) hP hD [2, 3] [0, 1] rfl rfl (by decide) (by decide) hk1 hFc hP1 hD1
        generalize H1 = H at hP hS ⊢
        have hP : va_P (dC, dI) vwCl [(y0, .inl (yc, 360, .inl yf)), (z0, .inl (zc, 120, .inr (.inl gf))), (h0, .inr (7, [v0, v1, v2, v3, v4, v5, v6, v7, v8, v9, .ref e0, .int ts, .int bg_100, .int en_101, .int so_102, .int va_103, .int iw_104, v17, .ref y0, .ref z0, .int im, .int sT, v22, .int n_73, v24, v25, v26, v27])), (e0, .inl (ec, 120, .inl ef))] H := hP
        have hD : va_D A [(y0, .inl (yc, 360, .inl yf)), (z0, .inl (zc, 120, .inr (.inl gf))), (h0, .inr (7, [v0, v1, v2, v3, v4, v5, v6, v7, v8, v9, .ref e0, .int ts, .int bg_100, .int en_101, .int so_102, .int va_103, .int iw_104, v17, .ref y0, .ref z0, .int im, .int sT, v22, .int n_73, v24, v25, v26, v27])), (e0, .inl (ec, 120, .inl ef))] := hD
        have ch_110 : ¬ iw_104.toInt = 0 := by omega
        clear hq_93 hq_94 hq_95 hq_96 hq_97 ch_98
        refine lv_istore (lv' := [(4, .int r_99), (3, .int r_87), (2, .int r_75), (1, .int va), (0, .ref h0)]) hx hb dX9_readHold_121 hl (by decide) rfl (fun ls hl => ?_)
        refine lv_aload_n hx hb dX9_readHold_123 rfl (lv_at hl 4 rfl) ?_
        refine lv_bipush (v := 11) hx hb dX9_readHold_124 (by decide) ?_
        refine lv_iload_n hx hb dX9_readHold_126 rfl (lv_at hl 3 rfl) ?_
        refine lv_sipush (v := 1000) hx hb dX9_readHold_127 (by decide) ?_
        refine lv_iconst (v := 4) hx hb dX9_readHold_130 (by decide) ?_
        refine lv_iload_n hx hb dX9_readHold_131 rfl (lv_at hl 2 rfl) ?_
        refine lv_imul hx hb dX9_readHold_132 ?_
        refine lv_topi (fun n_111 en_111 => ?_)
        refine lv_iload_n hx hb dX9_readHold_133 rfl (lv_at hl 1 rfl) ?_
        refine lv_iadd hx hb dX9_readHold_134 ?_
        refine lv_topi (fun n_112 en_112 => ?_)
        refine lv_imul hx hb dX9_readHold_135 ?_
        refine lv_topi (fun n_113 en_113 => ?_)
        refine lv_bipush (v := 10) hx hb dX9_readHold_136 (by decide) ?_
        refine lv_iload hx hb dX9_readHold_138 (lv_at hl 0 rfl) ?_
        refine lv_imul hx hb dX9_readHold_140 ?_
        refine lv_topi (fun n_114 en_114 => ?_)
        refine lv_iadd hx hb dX9_readHold_141 ?_
        refine lv_topi (fun n_115 en_115 => ?_)
        refine lv_aload_n hx hb dX9_readHold_142 rfl (lv_at hl 4 rfl) ?_
        refine lv_iconst (v := 0) hx hb dX9_readHold_143 (by decide) ?_
        refine lv_bipush (v := 7) hx hb dX9_readHold_144 (by decide) ?_
        have hPc := hP.sub (ws' := [(h0, .inr (7, [v0, v1, v2, v3, v4, v5, v6, v7, v8, v9, .ref e0, .int ts, .int bg_100, .int en_101, .int so_102, .int va_103, .int iw_104, v17, .ref y0, .ref z0, .int im, .int sT, v22, .int n_73, v24, v25, v26, v27])), (e0, .inl (ec, 120, .inl ef))]) [2, 3] rfl
        have hKc := hK.sub (tys' := [(ec, .int)]) [0] rfl
        have hDc := hD.sub (ws' := [(h0, .inr (7, [v0, v1, v2, v3, v4, v5, v6, v7, v8, v9, .ref e0, .int ts, .int bg_100, .int en_101, .int so_102, .int va_103, .int iw_104, v17, .ref y0, .ref z0, .int im, .int sT, v22, .int n_73, v24, v25, v26, v27])), (e0, .inl (ec, 120, .inl ef))]) [2, 3] (by decide) rfl
        have hFc := va_free (wc := [(h0, .inr (7, [v0, v1, v2, v3, v4, v5, v6, v7, v8, v9, .ref e0, .int ts, .int bg_100, .int en_101, .int so_102, .int va_103, .int iw_104, v17, .ref y0, .ref z0, .int im, .int sT, v22, .int n_73, v24, v25, v26, v27])), (e0, .inl (ec, 120, .inl ef))]) hD hS hA [2, 3] rfl
        refine va_calli (va_runV (As := [.int 0, .int 7]) (rest := [.int n_115, .int va, .int 11, .ref h0]) ⟨hx, hb, hml, hown, hts⟩ (m_number l dC dI ad h0 0 7 v0 v1 v2 v3 v4 v5 v6 v7 v8 v9 e0 ts bg_100 en_101 so_102 va_103 iw_104 v17 (.ref y0) (.ref z0) (.int im) (.int sT) v22 (.int n_73) v24 v25 v26 v27 ec ef H.size htm hq_105 hq_106 hq_107) (cwV 2 hts g_m_readHold_m_number_235 rfl rfl rfl (by decide +kernel) ⟨(Nat.le_of_ble_eq_true rfl), (Nat.le_of_ble_eq_true rfl)⟩) ⟨preM_blind, va_recv hKc hPc (ci := 7) (q0 := 0) rfl rfl, fun U hU hW => ⟨rfl, preM_at hU hW hPc hKc hDc hev⟩⟩ rfl rfl hl.1 rfl (lv_room (Nat.le_of_ble_eq_true rfl)) dX9_readHold_146 ⟨(Nat.le_of_ble_eq_true rfl), (Nat.le_of_ble_eq_true rfl)⟩) hS (fun q _ h => hFc q h) hFc (fun r_116 u t H1 locs ht hvm hw hB hz1 hk1 hS => ?_)
        obtain ⟨bg_117, en_118, so_119, va_120, iw_121, hq_122, hq_123, hq_124, hq_125, hq_126, hP1, hK1, hD1⟩ := hB
        rw [ht] at hP1
        have hK1 := va_K.moved hvm.symm hK1
        obtain ⟨hP, hD⟩ := va_join (wr := [(y0, .inl (yc, 360, .inl yf)), (z0, .inl (zc, 120, .inr (.inl gf)))]) (w1 := [(h0, .inr (7, [v0, v1, v2, v3, v4, v5, v6, v7, v8, v9, .ref e0, .int ts, .int bg_117, .int en_118, .int so_119, .int va_120, .int iw_121, v17, .ref y0, .ref z0, .int im, .int sT, v22, .int n_73, v24, v25, v26, v27])), (e0, .inl (ec, 120, .inl ef))]) hP hD [2, 3] [0, 1] rfl rfl (by decide) (by decide) hk1 hFc hP1 hD1
        generalize H1 = H at hP hS ⊢
        have hP : va_P (dC, dI) vwCl [(y0, .inl (yc, 360, .inl yf)), (z0, .inl (zc, 120, .inr (.inl gf))), (h0, .inr (7, [v0, v1, v2, v3, v4, v5, v6, v7, v8, v9, .ref e0, .int ts, .int bg_117, .int en_118, .int so_119, .int va_120, .int iw_121, v17, .ref y0, .ref z0, .int im, .int sT, v22, .int n_73, v24, v25, v26, v27])), (e0, .inl (ec, 120, .inl ef))] H := hP
        have hD : va_D A [(y0, .inl (yc, 360, .inl yf)), (z0, .inl (zc, 120, .inr (.inl gf))), (h0, .inr (7, [v0, v1, v2, v3, v4, v5, v6, v7, v8, v9, .ref e0, .int ts, .int bg_117, .int en_118, .int so_119, .int va_120, .int iw_121, v17, .ref y0, .ref z0, .int im, .int sT, v22, .int n_73, v24, v25, v26, v27])), (e0, .inl (ec, 120, .inl ef))] := hD
        have hr_116 : r_116.toInt = va_103.toInt := hw
        have hq_126 : iw_121.toInt = 0 → iw_104.toInt = 0 ∧ (0 : Int) ≤ va_103.toInt ∧ va_103.toInt ≤ (7 : Int) ∧ en_101.toInt ≤ bg_117.toInt := hq_126
        have ch_127 : ¬ iw_121.toInt = 0 := by omega
        clear hq_105 hq_106 hq_107 hq_108 hq_109 ch_110
        refine lv_iadd hx hb dX9_readHold_149 ?_
        refine lv_topi (fun n_128 en_128 => ?_)
        refine lv_lconst (v := 0) hx hb dX9_readHold_150 (by decide) ?_
        have hPc := hP.sub (ws' := [(h0, .inr (7, [v0, v1, v2, v3, v4, v5, v6, v7, v8, v9, .ref e0, .int ts, .int bg_117, .int en_118, .int so_119, .int va_120, .int iw_121, v17, .ref y0, .ref z0, .int im, .int sT, v22, .int n_73, v24, v25, v26, v27])), (y0, .inl (yc, 360, .inl yf)), (z0, .inl (zc, 120, .inr (.inl gf)))]) [2, 0, 1] rfl
        have hKc := hK.sub (tys' := [(yc, .int), (zc, .long)]) [1, 2] rfl
        have hDc := hD.sub (ws' := [(h0, .inr (7, [v0, v1, v2, v3, v4, v5, v6, v7, v8, v9, .ref e0, .int ts, .int bg_117, .int en_118, .int so_119, .int va_120, .int iw_121, v17, .ref y0, .ref z0, .int im, .int sT, v22, .int n_73, v24, v25, v26, v27])), (y0, .inl (yc, 360, .inl yf)), (z0, .inl (zc, 120, .inr (.inl gf)))]) [2, 0, 1] (by decide) rfl
        have hFc := va_free (wc := [(h0, .inr (7, [v0, v1, v2, v3, v4, v5, v6, v7, v8, v9, .ref e0, .int ts, .int bg_117, .int en_118, .int so_119, .int va_120, .int iw_121, v17, .ref y0, .ref z0, .int im, .int sT, v22, .int n_73, v24, v25, v26, v27])), (y0, .inl (yc, 360, .inl yf)), (z0, .inl (zc, 120, .inr (.inl gf)))]) hD hS hA [2, 0, 1] rfl
        refine va_callv (va_runV (As := [.int 11, .int va, .int n_128, .long 0]) (rest := []) ⟨hx, hb, hml, hown, hts⟩ (m_item l dC dI ad h0 11 va n_128 0 v0 v1 v2 v3 v4 v5 v6 v7 v8 v9 (.ref e0) (.int ts) (.int bg_117) (.int en_118) (.int so_119) (.int va_120) (.int iw_121) v17 y0 z0 im (.int sT) v22 (.int n_73) v24 v25 v26 v27 yc yf zc gf H.size him) (cwV 4 hts g_m_readHold_m_item_247 rfl rfl rfl (by decide +kernel) ⟨(Nat.le_of_ble_eq_true rfl), (Nat.le_of_ble_eq_true rfl)⟩) ⟨preM_blind, va_recv hKc hPc (ci := 7) (q0 := 0) rfl rfl, fun U hU hW => ⟨rfl, preM_at hU hW hPc hKc hDc hev⟩⟩ rfl rfl hl.1 rfl (lv_room (Nat.le_of_ble_eq_true rfl)) dX9_readHold_151 ⟨(Nat.le_of_ble_eq_true rfl), (Nat.le_of_ble_eq_true rfl)⟩) hS (fun q _ h => hFc q h) hFc (fun u t H1 locs ht hvm hw hB hz1 hk1 hS => ?_)
        obtain ⟨im_130, yg_131, gg_132, hq_133, hq_134, hP1, hK1, hD1⟩ := hB
        rw [ht] at hP1
        have hK1 := va_K.moved hvm.symm hK1
        obtain ⟨hP, hD⟩ := va_join (wr := [(e0, .inl (ec, 120, .inl ef))]) (w1 := [(h0, .inr (7, [v0, v1, v2, v3, v4, v5, v6, v7, v8, v9, .ref e0, .int ts, .int bg_117, .int en_118, .int so_119, .int va_120, .int iw_121, v17, .ref y0, .ref z0, .int im_130, .int sT, v22, .int n_73, v24, v25, v26, v27])), (y0, .inl (yc, 360, .inl yg_131)), (z0, .inl (zc, 120, .inr (.inl gg_132)))]) hP hD [2, 0, 1] [3] rfl rfl (by decide) (by decide) hk1 hFc hP1 hD1
        generalize H1 = H at hP hS ⊢
        have hP : va_P (dC, dI) vwCl [(e0, .inl (ec, 120, .inl ef)), (h0, .inr (7, [v0, v1, v2, v3, v4, v5, v6, v7, v8, v9, .ref e0, .int ts, .int bg_117, .int en_118, .int so_119, .int va_120, .int iw_121, v17, .ref y0, .ref z0, .int im_130, .int sT, v22, .int n_73, v24, v25, v26, v27])), (y0, .inl (yc, 360, .inl yg_131)), (z0, .inl (zc, 120, .inr (.inl gg_132)))] H := hP
        have hD : va_D A [(e0, .inl (ec, 120, .inl ef)), (h0, .inr (7, [v0, v1, v2, v3, v4, v5, v6, v7, v8, v9, .ref e0, .int ts, .int bg_117, .int en_118, .int so_119, .int va_120, .int iw_121, v17, .ref y0, .ref z0, .int im_130, .int sT, v22, .int n_73, v24, v25, v26, v27])), (y0, .inl (yc, 360, .inl yg_131)), (z0, .inl (zc, 120, .inr (.inl gg_132)))] := hD
        have hP9 := hP.sub (ws' := [(h0, .inr (7, [v0, v1, v2, v3, v4, v5, v6, v7, v8, v9, .ref e0, .int ts, .int bg_117, .int en_118, .int so_119, .int va_120, .int iw_121, v17, .ref y0, .ref z0, .int im_130, .int sT, v22, .int n_73, v24, v25, v26, v27])), (e0, .inl (ec, 120, .inl ef)), (y0, .inl (yc, 360, .inl yg_131)), (z0, .inl (zc, 120, .inr (.inl gg_132)))]) [1, 0, 2, 3] rfl
        have hD9 := hD.sub (ws' := [(h0, .inr (7, [v0, v1, v2, v3, v4, v5, v6, v7, v8, v9, .ref e0, .int ts, .int bg_117, .int en_118, .int so_119, .int va_120, .int iw_121, v17, .ref y0, .ref z0, .int im_130, .int sT, v22, .int n_73, v24, v25, v26, v27])), (e0, .inl (ec, 120, .inl ef)), (y0, .inl (yc, 360, .inl yg_131)), (z0, .inl (zc, 120, .inr (.inl gg_132)))]) [1, 0, 2, 3] (by decide) rfl
        have hK9 := hK.sub (tys' := [(ec, .int), (yc, .int), (zc, .long)]) [0, 1, 2] rfl
        exact W.vret hx hb hr (fun t ht hW => ⟨⟨(), rfl, trivial, bg_117, en_118, so_119, va_120, iw_121, n_73, im_130, yg_131, gg_132, hq_122, hq_123, hq_124, hq_125, (by first | omega | decide | (simp only [fa_lt, fa_le, fa_eq, and_true, true_and, and_false, false_and, not_true_eq_false, not_false_eq_true, li_0, li_1, li_2, li_3, li_4, li_5, li_6, li_7, li_8, li_9, li_10, li_12, li_15, li_16, li_20, li_30, li_34, li_38, li_40, li_63, li_64, li_65, li_78, li_120, li_1000, li_4000, li_10000, li_11077, li_255, li_65535, li_m1, li_m2, li_m1000000001, li_m1000000002, li_m1000000003, li_m1000000004, li_m1000000005, li_m1000000006, li_m1000000007, or_true, true_or, or_false, false_or, implies_true, true_implies, false_implies] <;> omega)), hq_133, (fun hz cc => absurd hz (by first | omega | decide)), by rw [ht]; exact hP9, va_K.moved hW.alike hK9, hD9⟩, hS.F ht⟩) hS.2.2 dX9_readHold_154
      · skip
        have tc_71 : ¬ r_70.toInt = 0 := fun h => c_71 ((fa_eq _ _).mpr h)
        have i_135 : 0 ≤ va.toInt ∧ va.toInt ≤ n_69.toInt := by omega
        refine lv_aload_n hx hb dX9_readHold_49 rfl (lv_at hl 1 rfl) ?_
        refine va_get (D := (dC, dI)) (ci := 7) (v := .int hT) (C := RX9) (T := TX9) (N := 28) hx hb hts inX9 hown hK hP 3 rfl rfl 23 (by decide) (hts _ (List.mem_of_getElem? (i := 1) rfl)) (fun _ h9 => h9) rfl dX9_readHold_50 ?_
        refine lv_iload_n hx hb dX9_readHold_53 rfl (lv_at hl 0 rfl) ?_
        refine lv_ishr hx hb dX9_readHold_54 ?_
        refine lv_topi (fun n_136 en_136 => ?_)
        refine lv_iconst (v := 1) hx hb dX9_readHold_55 (by decide) ?_
        refine lv_iand hx hb dX9_readHold_56 ?_
        refine lv_topi (fun n_137 en_137 => ?_)
        have tbn_137 := mk_bit en_136 en_137 (by omega) (by omega) (by omega) (by omega)
        refine lv_if_ne (tgt := 64) hx hb dX9_readHold_57 (by decide) (fun c_138 => ?_) (fun c_138 => ?_)
        · skip
          have tc_138 : ¬ n_137.toInt = 0 := fun h => c_138 ((fa_eq _ _).mpr h)
          refine lv_iconst (v := 0) hx hb dX9_readHold_64 (by decide) ?_
          have hPc := hP.sub (ws' := [(h0, .inr (7, [v0, v1, v2, v3, v4, v5, v6, v7, v8, v9, .ref e0, .int ts, .int bg, .int en, .int so, .int va, .int 1, v17, .ref y0, .ref z0, .int im, .int sT, v22, .int hT, v24, v25, v26, v27]))]) [3] rfl
          have hKc := hK.sub (tys' := []) [] rfl
          have hDc := hD.sub (ws' := [(h0, .inr (7, [v0, v1, v2, v3, v4, v5, v6, v7, v8, v9, .ref e0, .int ts, .int bg, .int en, .int so, .int va, .int 1, v17, .ref y0, .ref z0, .int im, .int sT, v22, .int hT, v24, v25, v26, v27]))]) [3] (by decide) rfl
          have hFc := va_free (wc := [(h0, .inr (7, [v0, v1, v2, v3, v4, v5, v6, v7, v8, v9, .ref e0, .int ts, .int bg, .int en, .int so, .int va, .int 1, v17, .ref y0, .ref z0, .int im, .int sT, v22, .int hT, v24, v25, v26, v27]))]) hD hS hA [3] rfl
          refine va_callv (va_runV (As := [.int 0]) (rest := []) ⟨hx, hb, hml, hown, hts⟩ (m_mustw l dC dI ad h0 0 v0 v1 v2 v3 v4 v5 v6 v7 v8 v9 (.ref e0) (.int ts) (.int bg) (.int en) (.int so) (.int va) v17 (.ref y0) (.ref z0) (.int im) (.int sT) v22 (.int hT) v24 v25 v26 v27 H.size ) (cwV 1 hts g_m_readHold_m_mustw_224 rfl rfl rfl (by decide +kernel) ⟨(Nat.le_of_ble_eq_true rfl), (Nat.le_of_ble_eq_true rfl)⟩) ⟨preM_blind, va_recv hKc hPc (ci := 7) (q0 := 0) rfl rfl, fun U hU hW => ⟨rfl, preM_at hU hW hPc hKc hDc hev⟩⟩ rfl rfl hl.1 rfl (lv_room (Nat.le_of_ble_eq_true rfl)) dX9_readHold_65 ⟨(Nat.le_of_ble_eq_true rfl), (Nat.le_of_ble_eq_true rfl)⟩) hS (fun q _ h => hFc q h) hFc (fun u t H1 locs ht hvm hw hB hz1 hk1 hS => ?_)
          obtain ⟨hP1, hK1, hD1⟩ := hB
          rw [ht] at hP1
          have hK1 := va_K.moved hvm.symm hK1
          obtain ⟨hP, hD⟩ := va_join (wr := [(e0, .inl (ec, 120, .inl ef)), (y0, .inl (yc, 360, .inl yf)), (z0, .inl (zc, 120, .inr (.inl gf)))]) (w1 := [(h0, .inr (7, [v0, v1, v2, v3, v4, v5, v6, v7, v8, v9, .ref e0, .int ts, .int bg, .int en, .int so, .int va, .int 1, v17, .ref y0, .ref z0, .int im, .int sT, v22, .int hT, v24, v25, v26, v27]))]) hP hD [3] [0, 1, 2] rfl rfl (by decide) (by decide) hk1 hFc hP1 hD1
          generalize H1 = H at hP hS ⊢
          have hP : va_P (dC, dI) vwCl [(e0, .inl (ec, 120, .inl ef)), (y0, .inl (yc, 360, .inl yf)), (z0, .inl (zc, 120, .inr (.inl gf))), (h0, .inr (7, [v0, v1, v2, v3, v4, v5, v6, v7, v8, v9, .ref e0, .int ts, .int bg, .int en, .int so, .int va, .int 1, v17, .ref y0, .ref z0, .int im, .int sT, v22, .int hT, v24, v25, v26, v27]))] H := hP
          have hD : va_D A [(e0, .inl (ec, 120, .inl ef)), (y0, .inl (yc, 360, .inl yf)), (z0, .inl (zc, 120, .inr (.inl gf))), (h0, .inr (7, [v0, v1, v2, v3, v4, v5, v6, v7, v8, v9, .ref e0, .int ts, .int bg, .int en, .int so, .int va, .int 1, v17, .ref y0, .ref z0, .int im, .int sT, v22, .int hT, v24, v25, v26, v27]))] := hD
          refine lv_aload_n hx hb dX9_readHold_68 rfl (lv_at hl 1 rfl) ?_
          refine lv_dup hx hb dX9_readHold_69 rfl ?_
          refine va_get (D := (dC, dI)) (ci := 7) (v := .int hT) (C := RX9) (T := TX9) (N := 28) hx hb hts inX9 hown hK hP 3 rfl rfl 23 (by decide) (hts _ (List.mem_of_getElem? (i := 1) rfl)) (fun _ h9 => h9) rfl dX9_readHold_70 ?_
          refine lv_aload_n hx hb dX9_readHold_73 rfl (lv_at hl 1 rfl) ?_
          refine va_get (D := (dC, dI)) (ci := 7) (v := .int 1) (C := RX9) (T := TX9) (N := 28) hx hb hts inX9 hown hK hP 3 rfl rfl 16 (by decide) (hts _ (List.mem_of_getElem? (i := 10) rfl)) (fun _ h9 => h9) rfl dX9_readHold_74 ?_
          refine lv_if_eq (tgt := 84) hx hb dX9_readHold_77 (by decide) (fun c => absurd c (by decide)) (fun _ => ?_)
          refine lv_iconst (v := 0) hx hb dX9_readHold_80 (by decide) ?_
          refine lv_goto (tgt := 87) hx hb dX9_readHold_81 (by decide) ?_
          refine lv_ior hx hb dX9_readHold_87 ?_
          refine lv_topi (fun n_140 en_140 => ?_)
          have tn_140 : n_140.toInt = hT.toInt := by rw [pp_or0 en_140]
          refine va_put (D := (dC, dI)) (ci := 7) (v := .int n_140) (ty := .int) (C := RX9) (T := TX9) (N := 28) hx hb hts inX9 tyX9 tyX9_ok nmX9 hown hK hP hD hS 3 rfl rfl 23 (by decide) (hts _ (List.mem_of_getElem? (i := 1) rfl)) (fun _ h9 => h9) rfl (by decide +kernel) rfl rfl (Nat.le_of_ble_eq_true rfl) dX9_readHold_88 (fun H locs hP hD hS => ?_)
          have hP : va_P (dC, dI) vwCl [(e0, .inl (ec, 120, .inl ef)), (y0, .inl (yc, 360, .inl yf)), (z0, .inl (zc, 120, .inr (.inl gf))), (h0, .inr (7, [v0, v1, v2, v3, v4, v5, v6, v7, v8, v9, .ref e0, .int ts, .int bg, .int en, .int so, .int va, .int 1, v17, .ref y0, .ref z0, .int im, .int sT, v22, .int n_140, v24, v25, v26, v27]))] H := hP
          have hD : va_D A [(e0, .inl (ec, 120, .inl ef)), (y0, .inl (yc, 360, .inl yf)), (z0, .inl (zc, 120, .inr (.inl gf))), (h0, .inr (7, [v0, v1, v2, v3, v4, v5, v6, v7, v8, v9, .ref e0, .int ts, .int bg, .int en, .int so, .int va, .int 1, v17, .ref y0, .ref z0, .int im, .int sT, v22, .int n_140, v24, v25, v26, v27]))] := hD
          refine lv_aload_n hx hb dX9_readHold_91 rfl (lv_at hl 1 rfl) ?_
          refine va_ldcSw (tx := "near") (q := ad 21) hx hb hown (ev_str hev 21 rfl) dX9_readHold_92 ?_
          refine lv_iconst (v := 1) hx hb dX9_readHold_95 (by decide) ?_
          refine lv_iconst (v := 2) hx hb dX9_readHold_96 (by decide) ?_
          have hPc := hP.sub (ws' := [(h0, .inr (7, [v0, v1, v2, v3, v4, v5, v6, v7, v8, v9, .ref e0, .int ts, .int bg, .int en, .int so, .int va, .int 1, v17, .ref y0, .ref z0, .int im, .int sT, v22, .int n_140, v24, v25, v26, v27])), (e0, .inl (ec, 120, .inl ef))]) [3, 0] rfl
          have hKc := hK.sub (tys' := [(ec, .int)]) [0] rfl
          have hDc := hD.sub (ws' := [(h0, .inr (7, [v0, v1, v2, v3, v4, v5, v6, v7, v8, v9, .ref e0, .int ts, .int bg, .int en, .int so, .int va, .int 1, v17, .ref y0, .ref z0, .int im, .int sT, v22, .int n_140, v24, v25, v26, v27])), (e0, .inl (ec, 120, .inl ef))]) [3, 0] (by decide) rfl
          have hFc := va_free (wc := [(h0, .inr (7, [v0, v1, v2, v3, v4, v5, v6, v7, v8, v9, .ref e0, .int ts, .int bg, .int en, .int so, .int va, .int 1, v17, .ref y0, .ref z0, .int im, .int sT, v22, .int n_140, v24, v25, v26, v27])), (e0, .inl (ec, 120, .inl ef))]) hD hS hA [3, 0] rfl
          refine va_calli (va_runV (As := [.ref (ad 21), .int 1, .int 2]) (rest := []) ⟨hx, hb, hml, hown, hts⟩ (m_after l dC dI ad h0 21 1 2 v0 v1 v2 v3 v4 v5 v6 v7 v8 v9 e0 ts bg en so va 1 v17 (.ref y0) (.ref z0) (.int im) (.int sT) v22 (.int n_140) v24 v25 v26 v27 ec ef H.size (by decide) htm hlx hso hva) (cwV 3 hts g_m_readHold_m_after_270 rfl rfl rfl (by decide +kernel) ⟨(Nat.le_of_ble_eq_true rfl), (Nat.le_of_ble_eq_true rfl)⟩) ⟨preT_blind, va_recv hKc hPc (ci := 7) (q0 := 0) rfl rfl, fun U hU hW => ⟨rfl, preM_at hU hW hPc hKc hDc hev, sf_at hsf hS hFc hU hW⟩⟩ rfl rfl hl.1 rfl (lv_room (Nat.le_of_ble_eq_true rfl)) dX9_readHold_97 ⟨(Nat.le_of_ble_eq_true rfl), (Nat.le_of_ble_eq_true rfl)⟩) hS (fun q _ h => hFc q h) hFc (fun r_142 u t H1 locs ht hvm hw hB hz1 hk1 hS => ?_)
          obtain ⟨bg_143, en_144, so_145, va_146, iw_147, hq_148, hq_149, hq_150, hq_151, hq_152, hP1, hK1, hD1⟩ := hB
          rw [ht] at hP1
          have hK1 := va_K.moved hvm.symm hK1
          obtain ⟨hP, hD⟩ := va_join (wr := [(y0, .inl (yc, 360, .inl yf)), (z0, .inl (zc, 120, .inr (.inl gf)))]) (w1 := [(h0, .inr (7, [v0, v1, v2, v3, v4, v5, v6, v7, v8, v9, .ref e0, .int ts, .int bg_143, .int en_144, .int so_145, .int va_146, .int iw_147, v17, .ref y0, .ref z0, .int im, .int sT, v22, .int n_140, v24, v25, v26, v27])), (e0, .inl (ec, 120, .inl ef))]) hP hD [3, 0] [1, 2] rfl rfl (by decide) (by decide) hk1 hFc hP1 hD1
          generalize H1 = H at hP hS ⊢
          have hP : va_P (dC, dI) vwCl [(y0, .inl (yc, 360, .inl yf)), (z0, .inl (zc, 120, .inr (.inl gf))), (h0, .inr (7, [v0, v1, v2, v3, v4, v5, v6, v7, v8, v9, .ref e0, .int ts, .int bg_143, .int en_144, .int so_145, .int va_146, .int iw_147, v17, .ref y0, .ref z0, .int im, .int sT, v22, .int n_140, v24, v25, v26, v27])), (e0, .inl (ec, 120, .inl ef))] H := hP
          have hD : va_D A [(y0, .inl (yc, 360, .inl yf)), (z0, .inl (zc, 120, .inr (.inl gf))), (h0, .inr (7, [v0, v1, v2, v3, v4, v5, v6, v7, v8, v9, .ref e0, .int ts, .int bg_143, .int en_144, .int so_145, .int va_146, .int iw_147, v17, .ref y0, .ref z0, .int im, .int sT, v22, .int n_140, v24, v25, v26, v27])), (e0, .inl (ec, 120, .inl ef))] := hD
          have hq_152 : iw_147.toInt = 0 → (1 : Int) = 0 ∧ bg.toInt ≤ bg_143.toInt := hq_152
          have ch_153 : ¬ iw_147.toInt = 0 := by omega
          refine lv_istore_n (lv' := [(2, .int r_142), (1, .int va), (0, .ref h0)]) hx hb dX9_readHold_100 rfl hl (by decide) rfl (fun ls hl => ?_)
          refine lv_aload_n hx hb dX9_readHold_101 rfl (lv_at hl 2 rfl) ?_
          refine va_ldcSw (tx := "turn") (q := ad 22) hx hb hown (ev_str hev 22 rfl) dX9_readHold_102 ?_
          refine lv_iconst (v := 0) hx hb dX9_readHold_105 (by decide) ?_
          refine lv_iconst (v := 3) hx hb dX9_readHold_106 (by decide) ?_
          have hPc := hP.sub (ws' := [(h0, .inr (7, [v0, v1, v2, v3, v4, v5, v6, v7, v8, v9, .ref e0, .int ts, .int bg_143, .int en_144, .int so_145, .int va_146, .int iw_147, v17, .ref y0, .ref z0, .int im, .int sT, v22, .int n_140, v24, v25, v26, v27])), (e0, .inl (ec, 120, .inl ef))]) [2, 3] rfl
          have hKc := hK.sub (tys' := [(ec, .int)]) [0] rfl
          have hDc := hD.sub (ws' := [(h0, .inr (7, [v0, v1, v2, v3, v4, v5, v6, v7, v8, v9, .ref e0, .int ts, .int bg_143, .int en_144, .int so_145, .int va_146, .int iw_147, v17, .ref y0, .ref z0, .int im, .int sT, v22, .int n_140, v24, v25, v26, v27])), (e0, .inl (ec, 120, .inl ef))]) [2, 3] (by decide) rfl
          have hFc := va_free (wc := [(h0, .inr (7, [v0, v1, v2, v3, v4, v5, v6, v7, v8, v9, .ref e0, .int ts, .int bg_143, .int en_144, .int so_145, .int va_146, .int iw_147, v17, .ref y0, .ref z0, .int im, .int sT, v22, .int n_140, v24, v25, v26, v27])), (e0, .inl (ec, 120, .inl ef))]) hD hS hA [2, 3] rfl
          refine va_calli (va_runV (As := [.ref (ad 22), .int 0, .int 3]) (rest := []) ⟨hx, hb, hml, hown, hts⟩ (m_after l dC dI ad h0 22 0 3 v0 v1 v2 v3 v4 v5 v6 v7 v8 v9 e0 ts bg_143 en_144 so_145 va_146 iw_147 v17 (.ref y0) (.ref z0) (.int im) (.int sT) v22 (.int n_140) v24 v25 v26 v27 ec ef H.size (by decide) htm hq_148 hq_149 hq_150) (cwV 3 hts g_m_readHold_m_after_270 rfl rfl rfl (by decide +kernel) ⟨(Nat.le_of_ble_eq_true rfl), (Nat.le_of_ble_eq_true rfl)⟩) ⟨preT_blind, va_recv hKc hPc (ci := 7) (q0 := 0) rfl rfl, fun U hU hW => ⟨rfl, preM_at hU hW hPc hKc hDc hev, sf_at hsf hS hFc hU hW⟩⟩ rfl rfl hl.1 rfl (lv_room (Nat.le_of_ble_eq_true rfl)) dX9_readHold_107 ⟨(Nat.le_of_ble_eq_true rfl), (Nat.le_of_ble_eq_true rfl)⟩) hS (fun q _ h => hFc q h) hFc (fun r_154 u t H1 locs ht hvm hw hB hz1 hk1 hS => ?_)
          obtain ⟨bg_155, en_156, so_157, va_158, iw_159, hq_160, hq_161, hq_162, hq_163, hq_164, hP1, hK1, hD1⟩ := hB
          rw [ht] at hP1
          have hK1 := va_K.moved hvm.symm hK1
          obtain ⟨hP, hD⟩ := va_join (wr := [(y0, .inl (yc, 360, .inl yf)), (z0, .inl (zc, 120, .inr (.inl gf)))]) (w1 := [(h0, .inr (7, [v0, v1, v2, v3, v4, v5, v6, v7, v8, v9, .ref e0, .int ts, .int bg_155, .int en_156, .int so_157, .int va_158, .int iw_159, v17, .ref y0, .ref z0, .int im, .int sT, v22, .int n_140, v24, v25, v26, v27])), (e0, .inl (ec, 120, .inl ef))]) hP hD [2, 3] [0, 1] rfl rfl (by decide) (by decide) hk1 hFc hP1 hD1
          generalize H1 = H at hP hS ⊢
          have hP : va_P (dC, dI) vwCl [(y0, .inl (yc, 360, .inl yf)), (z0, .inl (zc, 120, .inr (.inl gf))), (h0, .inr (7, [v0, v1, v2, v3, v4, v5, v6, v7, v8, v9, .ref e0, .int ts, .int bg_155, .int en_156, .int so_157, .int va_158, .int iw_159, v17, .ref y0, .ref z0, .int im, .int sT, v22, .int n_140, v24, v25, v26, v27])), (e0, .inl (ec, 120, .inl ef))] H := hP
          have hD : va_D A [(y0, .inl (yc, 360, .inl yf)), (z0, .inl (zc, 120, .inr (.inl gf))), (h0, .inr (7, [v0, v1, v2, v3, v4, v5, v6, v7, v8, v9, .ref e0, .int ts, .int bg_155, .int en_156, .int so_157, .int va_158, .int iw_159, v17, .ref y0, .ref z0, .int im, .int sT, v22, .int n_140, v24, v25, v26, v27])), (e0, .inl (ec, 120, .inl ef))] := hD
          have ch_165 : ¬ iw_159.toInt = 0 := by omega
          clear hq_148 hq_149 hq_150 hq_151 hq_152 ch_153
          refine lv_istore_n (lv' := [(3, .int r_154), (2, .int r_142), (1, .int va), (0, .ref h0)]) hx hb dX9_readHold_110 rfl hl (by decide) rfl (fun ls hl => ?_)
          refine lv_aload_n hx hb dX9_readHold_111 rfl (lv_at hl 3 rfl) ?_
          refine va_ldcSw (tx := "at") (q := ad 23) hx hb hown (ev_str hev 23 rfl) dX9_readHold_112 ?_
          refine lv_iconst (v := 0) hx hb dX9_readHold_115 (by decide) ?_
          refine lv_bipush (v := 7) hx hb dX9_readHold_116 (by decide) ?_
          have hPc := hP.sub (ws' := [(h0, .inr (7, [v0, v1, v2, v3, v4, v5, v6, v7, v8, v9, .ref e0, .int ts, .int bg_155, .int en_156, .int so_157, .int va_158, .int iw_159, v17, .ref y0, .ref z0, .int im, .int sT, v22, .int n_140, v24, v25, v26, v27])), (e0, .inl (ec, 120, .inl ef))]) [2, 3] rfl
          have hKc := hK.sub (tys' := [(ec, .int)]) [0] rfl
          have hDc := hD.sub (ws' := [(h0, .inr (7, [v0, v1, v2, v3, v4, v5, v6, v7, v8, v9, .ref e0, .int ts, .int bg_155, .int en_156, .int so_157, .int va_158, .int iw_159, v17, .ref y0, .ref z0, .int im, .int sT, v22, .int n_140, v24, v25, v26, v27])), (e0, .inl (ec, 120, .inl ef))]) [2, 3] (by decide) rfl
          have hFc := va_free (wc := [(h0, .inr (7, [v0, v1, v2, v3, v4, v5, v6, v7, v8, v9, .ref e0, .int ts, .int bg_155, .int en_156, .int so_157, .int va_158, .int iw_159, v17, .ref y0, .ref z0, .int im, .int sT, v22, .int n_140, v24, v25, v26, v27])), (e0, .inl (ec, 120, .inl ef))]) hD hS hA [2, 3] rfl
          refine va_calli (va_runV (As := [.ref (ad 23), .int 0, .int 7]) (rest := []) ⟨hx, hb, hml, hown, hts⟩ (m_after l dC dI ad h0 23 0 7 v0 v1 v2 v3 v4 v5 v6 v7 v8 v9 e0 ts bg_155 en_156 so_157 va_158 iw_159 v17 (.ref y0) (.ref z0) (.int im) (.int sT) v22 (.int n_140) v24 v25 v26 v27 ec ef H.size (by decide) htm hq_160 hq_161 hq_162) (cwV 3 hts g_m_readHold_m_after_270 rfl rfl rfl (by decide +kernel) ⟨(Nat.le_of_ble_eq_true rfl), (Nat.le_of_ble_eq_true rfl)⟩) ⟨preT_blind, va_recv hKc hPc (ci := 7) (q0 := 0) rfl rfl, fun U hU hW => ⟨rfl, preM_at hU hW hPc hKc hDc hev, sf_at hsf hS hFc hU hW⟩⟩ rfl rfl hl.1 rfl (lv_room (Nat.le_of_ble_eq_true rfl)) dX9_readHold_118 ⟨(Nat.le_of_ble_eq_true rfl), (Nat.le_of_ble_eq_true rfl)⟩) hS (fun q _ h => hFc q h) hFc (fun r_166 u t H1 locs ht hvm hw hB hz1 hk1 hS => ?_)
          obtain ⟨bg_167, en_168, so_169, va_170, iw_171, hq_172, hq_173, hq_174, hq_175, hq_176, hP1, hK1, hD1⟩ := hB
          rw [ht] at hP1
          have hK1 := va_K.moved hvm.symm hK1
          obtain ⟨hP, hD⟩ := va_join (wr := [(y0, .inl (yc, 360, .inl yf)), (z0, .inl (zc, 120, .inr (.inl gf)))]) (w1 := [(h0, .inr (7, [v0, v1, v2, v3, v4, v5, v6, v7, v8, v9, .ref e0, .int ts, .int bg_167, .int en_168, .int so_169, .int va_170, .int iw_171, v17, .ref y0, .ref z0, .int im, .int sT, v22, .int n_140, v24, v25, v26, v27])), (e0, .inl (ec, 120, .inl ef))]) hP hD [2, 3] [0, 1] rfl rfl (by decide) (by decide) hk1 hFc hP1 hD1
          generalize H1 = H at hP hS ⊢
          have hP : va_P (dC, dI) vwCl [(y0, .inl (yc, 360, .inl yf)), (z0, .inl (zc, 120, .inr (.inl gf))), (h0, .inr (7, [v0, v1, v2, v3, v4, v5, v6, v7, v8, v9, .ref e0, .int ts, .int bg_167, .int en_168, .int so_169, .int va_170, .int iw_171, v17, .ref y0, .ref z0, .int im, .int sT, v22, .int n_140, v24, v25, v26, v27])), (e0, .inl (ec, 120, .inl ef))] H := hP
          have hD : va_D A [(y0, .inl (yc, 360, .inl yf)), (z0, .inl (zc, 120, .inr (.inl gf))), (h0, .inr (7, [v0, v1, v2, v3, v4, v5, v6, v7, v8, v9, .ref e0, .int ts, .int bg_167, .int en_168, .int so_169, .int va_170, .int iw_171, v17, .ref y0, .ref z0, .int im, .int sT, v22, .int n_140, v24, v25, v26, v27])), (e0, .inl (ec, 120, .inl ef))] := hD
          have ch_177 : ¬ iw_171.toInt = 0 := by omega
          clear hq_160 hq_161 hq_162 hq_163 hq_164 ch_165
          refine lv_istore (lv' := [(4, .int r_166), (3, .int r_154), (2, .int r_142), (1, .int va), (0, .ref h0)]) hx hb dX9_readHold_121 hl (by decide) rfl (fun ls hl => ?_)
          refine lv_aload_n hx hb dX9_readHold_123 rfl (lv_at hl 4 rfl) ?_
          refine lv_bipush (v := 11) hx hb dX9_readHold_124 (by decide) ?_
          refine lv_iload_n hx hb dX9_readHold_126 rfl (lv_at hl 3 rfl) ?_
          refine lv_sipush (v := 1000) hx hb dX9_readHold_127 (by decide) ?_
          refine lv_iconst (v := 4) hx hb dX9_readHold_130 (by decide) ?_
          refine lv_iload_n hx hb dX9_readHold_131 rfl (lv_at hl 2 rfl) ?_
          refine lv_imul hx hb dX9_readHold_132 ?_
          refine lv_topi (fun n_178 en_178 => ?_)
          refine lv_iload_n hx hb dX9_readHold_133 rfl (lv_at hl 1 rfl) ?_
          refine lv_iadd hx hb dX9_readHold_134 ?_
          refine lv_topi (fun n_179 en_179 => ?_)
          refine lv_imul hx hb dX9_readHold_135 ?_
          refine lv_topi (fun n_180 en_180 => ?_)
          refine lv_bipush (v := 10) hx hb dX9_readHold_136 (by decide) ?_
          refine lv_iload hx hb dX9_readHold_138 (lv_at hl 0 rfl) ?_
          refine lv_imul hx hb dX9_readHold_140 ?_
          refine lv_topi (fun n_181 en_181 => ?_)
          refine lv_iadd hx hb dX9_readHold_141 ?_
          refine lv_topi (fun n_182 en_182 => ?_)
          refine lv_aload_n hx hb dX9_readHold_142 rfl (lv_at hl 4 rfl) ?_
          refine lv_iconst (v := 0) hx hb dX9_readHold_143 (by decide) ?_
          refine lv_bipush (v := 7) hx hb dX9_readHold_144 (by decide) ?_
          have hPc := hP.sub (ws' := [(h0, .inr (7, [v0, v1, v2, v3, v4, v5, v6, v7, v8, v9, .ref e0, .int ts, .int bg_167, .int en_168, .int so_169, .int va_170, .int iw_171, v17, .ref y0, .ref z0, .int im, .int sT, v22, .int n_140, v24, v25, v26, v27])), (e0, .inl (ec, 120, .inl ef))]) [2, 3] rfl
          have hKc := hK.sub (tys' := [(ec, .int)]) [0] rfl
          have hDc := hD.sub (ws' := [(h0, .inr (7, [v0, v1, v2, v3, v4, v5, v6, v7, v8, v9, .ref e0, .int ts, .int bg_167, .int en_168, .int so_169, .int va_170, .int iw_171, v17, .ref y0, .ref z0, .int im, .int sT, v22, .int n_140, v24, v25, v26, v27])), (e0, .inl (ec, 120, .inl ef))]) [2, 3] (by decide) rfl
          have hFc := va_free (wc := [(h0, .inr (7, [v0, v1, v2, v3, v4, v5, v6, v7, v8, v9, .ref e0, .int ts, .int bg_167, .int en_168, .int so_169, .int va_170, .int iw_171, v17, .ref y0, .ref z0, .int im, .int sT, v22, .int n_140, v24, v25, v26, v27])), (e0, .inl (ec, 120, .inl ef))]) hD hS hA [2, 3] rfl
          refine va_calli (va_runV (As := [.int 0, .int 7]) (rest := [.int n_182, .int va, .int 11, .ref h0]) ⟨hx, hb, hml, hown, hts⟩ (m_number l dC dI ad h0 0 7 v0 v1 v2 v3 v4 v5 v6 v7 v8 v9 e0 ts bg_167 en_168 so_169 va_170 iw_171 v17 (.ref y0) (.ref z0) (.int im) (.int sT) v22 (.int n_140) v24 v25 v26 v27 ec ef H.size htm hq_172 hq_173 hq_174) (cwV 2 hts g_m_readHold_m_number_235 rfl rfl rfl (by decide +kernel) ⟨(Nat.le_of_ble_eq_true rfl), (Nat.le_of_ble_eq_true rfl)⟩) ⟨preM_blind, va_recv hKc hPc (ci := 7) (q0 := 0) rfl rfl, fun U hU hW => ⟨rfl, preM_at hU hW hPc hKc hDc hev⟩⟩ rfl rfl hl.1 rfl (lv_room (Nat.le_of_ble_eq_true rfl)) dX9_readHold_146 ⟨(Nat.le_of_ble_eq_true rfl), (Nat.le_of_ble_eq_true rfl)⟩) hS (fun q _ h => hFc q h) hFc (fun r_183 u t H1 locs ht hvm hw hB hz1 hk1 hS => ?_)
          obtain ⟨bg_184, en_185, so_186, va_187, iw_188, hq_189, hq_190, hq_191, hq_192, hq_193, hP1, hK1, hD1⟩ := hB
          rw [ht] at hP1
          have hK1 := va_K.moved hvm.symm hK1
          obtain ⟨hP, hD⟩ := va_join (wr := [(y0, .inl (yc, 360, .inl yf)), (z0, .inl (zc, 120, .inr (.inl gf)))]) (w1 := [(h0, .inr (7, [v0, v1, v2, v3, v4, v5, v6, v7, v8, v9, .ref e0, .int ts, .int bg_184, .int en_185, .int so_186, .int va_187, .int iw_188, v17, .ref y0, .ref z0, .int im, .int sT, v22, .int n_140, v24, v25, v26, v27])), (e0, .inl (ec, 120, .inl ef))]) hP hD [2, 3] [0, 1] rfl rfl (by decide) (by decide) hk1 hFc hP1 hD1
          generalize H1 = H at hP hS ⊢
          have hP : va_P (dC, dI) vwCl [(y0, .inl (yc, 360, .inl yf)), (z0, .inl (zc, 120, .inr (.inl gf))), (h0, .inr (7, [v0, v1, v2, v3, v4, v5, v6, v7, v8, v9, .ref e0, .int ts, .int bg_184, .int en_185, .int so_186, .int va_187, .int iw_188, v17, .ref y0, .ref z0, .int im, .int sT, v22, .int n_140, v24, v25, v26, v27])), (e0, .inl (ec, 120, .inl ef))] H := hP
          have hD : va_D A [(y0, .inl (yc, 360, .inl yf)), (z0, .inl (zc, 120, .inr (.inl gf))), (h0, .inr (7, [v0, v1, v2, v3, v4, v5, v6, v7, v8, v9, .ref e0, .int ts, .int bg_184, .int en_185, .int so_186, .int va_187, .int iw_188, v17, .ref y0, .ref z0, .int im, .int sT, v22, .int n_140, v24, v25, v26, v27])), (e0, .inl (ec, 120, .inl ef))] := hD
          have hr_183 : r_183.toInt = va_170.toInt := hw
          have hq_193 : iw_188.toInt = 0 → iw_171.toInt = 0 ∧ (0 : Int) ≤ va_170.toInt ∧ va_170.toInt ≤ (7 : Int) ∧ en_168.toInt ≤ bg_184.toInt := hq_193
          have ch_194 : ¬ iw_188.toInt = 0 := by omega
          clear hq_172 hq_173 hq_174 hq_175 hq_176 ch_177
          refine lv_iadd hx hb dX9_readHold_149 ?_
          refine lv_topi (fun n_195 en_195 => ?_)
          refine lv_lconst (v := 0) hx hb dX9_readHold_150 (by decide) ?_
          have hPc := hP.sub (ws' := [(h0, .inr (7, [v0, v1, v2, v3, v4, v5, v6, v7, v8, v9, .ref e0, .int ts, .int bg_184, .int en_185, .int so_186, .int va_187, .int iw_188, v17, .ref y0, .ref z0, .int im, .int sT, v22, .int n_140, v24, v25, v26, v27])), (y0, .inl (yc, 360, .inl yf)), (z0, .inl (zc, 120, .inr (.inl gf)))]) [2, 0, 1] rfl
          have hKc := hK.sub (tys' := [(yc, .int), (zc, .long)]) [1, 2] rfl
          have hDc := hD.sub (ws' := [(h0, .inr (7, [v0, v1, v2, v3, v4, v5, v6, v7, v8, v9, .ref e0, .int ts, .int bg_184, .int en_185, .int so_186, .int va_187, .int iw_188, v17, .ref y0, .ref z0, .int im, .int sT, v22, .int n_140, v24, v25, v26, v27])), (y0, .inl (yc, 360, .inl yf)), (z0, .inl (zc, 120, .inr (.inl gf)))]) [2, 0, 1] (by decide) rfl
          have hFc := va_free (wc := [(h0, .inr (7, [v0, v1, v2, v3, v4, v5, v6, v7, v8, v9, .ref e0, .int ts, .int bg_184, .int en_185, .int so_186, .int va_187, .int iw_188, v17, .ref y0, .ref z0, .int im, .int sT, v22, .int n_140, v24, v25, v26, v27])), (y0, .inl (yc, 360, .inl yf)), (z0, .inl (zc, 120, .inr (.inl gf)))]) hD hS hA [2, 0, 1] rfl
          refine va_callv (va_runV (As := [.int 11, .int va, .int n_195, .long 0]) (rest := []) ⟨hx, hb, hml, hown, hts⟩ (m_item l dC dI ad h0 11 va n_195 0 v0 v1 v2 v3 v4 v5 v6 v7 v8 v9 (.ref e0) (.int ts) (.int bg_184) (.int en_185) (.int so_186) (.int va_187) (.int iw_188) v17 y0 z0 im (.int sT) v22 (.int n_140) v24 v25 v26 v27 yc yf zc gf H.size him) (cwV 4 hts g_m_readHold_m_item_247 rfl rfl rfl (by decide +kernel) ⟨(Nat.le_of_ble_eq_true rfl), (Nat.le_of_ble_eq_true rfl)⟩) ⟨preM_blind, va_recv hKc hPc (ci := 7) (q0 := 0) rfl rfl, fun U hU hW => ⟨rfl, preM_at hU hW hPc hKc hDc hev⟩⟩ rfl rfl hl.1 rfl (lv_room (Nat.le_of_ble_eq_true rfl)) dX9_readHold_151 ⟨(Nat.le_of_ble_eq_true rfl), (Nat.le_of_ble_eq_true rfl)⟩) hS (fun q _ h => hFc q h) hFc (fun u t H1 locs ht hvm hw hB hz1 hk1 hS => ?_)
          obtain ⟨im_197, yg_198, gg_199, hq_200, hq_201, hP1, hK1, hD1⟩ := hB
          rw [ht] at hP1
          have hK1 := va_K.moved hvm.symm hK1
          obtain ⟨hP, hD⟩ := va_join (wr := [(e0, .inl (ec, 120, .inl ef))]) (w1 := [(h0, .inr (7, [v0, v1, v2, v3, v4, v5, v6, v7, v8, v9, .ref e0, .int ts, .int bg_184, .int en_185, .int so_186, .int va_187, .int iw_188, v17, .ref y0, .ref z0, .int im_197, .int sT, v22, .int n_140, v24, v25, v26, v27])), (y0, .inl (yc, 360, .inl yg_198)), (z0, .inl (zc, 120, .inr (.inl gg_199)))]) hP hD [2, 0, 1] [3] rfl rfl (by decide) (by decide) hk1 hFc hP1 hD1
          generalize H1 = H at hP hS ⊢
          have hP : va_P (dC, dI) vwCl [(e0, .inl (ec, 120, .inl ef)), (h0, .inr (7, [v0, v1, v2, v3, v4, v5, v6, v7, v8, v9, .ref e0, .int ts, .int bg_184, .int en_185, .int so_186, .int va_187, .int iw_188, v17, .ref y0, .ref z0, .int im_197, .int sT, v22, .int n_140, v24, v25, v26, v27])), (y0, .inl (yc, 360, .inl yg_198)), (z0, .inl (zc, 120, .inr (.inl gg_199)))] H := hP
          have hD : va_D A [(e0, .inl (ec, 120, .inl ef)), (h0, .inr (7, [v0, v1, v2, v3, v4, v5, v6, v7, v8, v9, .ref e0, .int ts, .int bg_184, .int en_185, .int so_186, .int va_187, .int iw_188, v17, .ref y0, .ref z0, .int im_197, .int sT, v22, .int n_140, v24, v25, v26, v27])), (y0, .inl (yc, 360, .inl yg_198)), (z0, .inl (zc, 120, .inr (.inl gg_199)))] := hD
          have hP9 := hP.sub (ws' := [(h0, .inr (7, [v0, v1, v2, v3, v4, v5, v6, v7, v8, v9, .ref e0, .int ts, .int bg_184, .int en_185, .int so_186, .int va_187, .int iw_188, v17, .ref y0, .ref z0, .int im_197, .int sT, v22, .int n_140, v24, v25, v26, v27])), (e0, .inl (ec, 120, .inl ef)), (y0, .inl (yc, 360, .inl yg_198)), (z0, .inl (zc, 120, .inr (.inl gg_199)))]) [1, 0, 2, 3] rfl
          have hD9 := hD.sub (ws' := [(h0, .inr (7, [v0, v1, v2, v3, v4, v5, v6, v7, v8, v9, .ref e0, .int ts, .int bg_184, .int en_185, .int so_186, .int va_187, .int iw_188, v17, .ref y0, .ref z0, .int im_197, .int sT, v22, .int n_140, v24, v25, v26, v27])), (e0, .inl (ec, 120, .inl ef)), (y0, .inl (yc, 360, .inl yg_198)), (z0, .inl (zc, 120, .inr (.inl gg_199)))]) [1, 0, 2, 3] (by decide) rfl
          have hK9 := hK.sub (tys' := [(ec, .int), (yc, .int), (zc, .long)]) [0, 1, 2] rfl
          exact W.vret hx hb hr (fun t ht hW => ⟨⟨(), rfl, trivial, bg_184, en_185, so_186, va_187, iw_188, n_140, im_197, yg_198, gg_199, hq_189, hq_190, hq_191, hq_192, (by first | omega | decide | (simp only [fa_lt, fa_le, fa_eq, and_true, true_and, and_false, false_and, not_true_eq_false, not_false_eq_true, li_0, li_1, li_2, li_3, li_4, li_5, li_6, li_7, li_8, li_9, li_10, li_12, li_15, li_16, li_20, li_30, li_34, li_38, li_40, li_63, li_64, li_65, li_78, li_120, li_1000, li_4000, li_10000, li_11077, li_255, li_65535, li_m1, li_m2, li_m1000000001, li_m1000000002, li_m1000000003, li_m1000000004, li_m1000000005, li_m1000000006, li_m1000000007, or_true, true_or, or_false, false_or, implies_true, true_implies, false_implies] <;> omega)), hq_200, (fun hz cc => absurd hz (by first | omega | decide)), by rw [ht]; exact hP9, va_K.moved hW.alike hK9, hD9⟩, hS.F ht⟩) hS.2.2 dX9_readHold_154
        · skip
          have tc_138 : n_137.toInt = 0 := (fa_eq _ _).mp c_138
          refine lv_iconst (v := 1) hx hb dX9_readHold_60 (by decide) ?_
          refine lv_goto (tgt := 65) hx hb dX9_readHold_61 (by decide) ?_
          have hPc := hP.sub (ws' := [(h0, .inr (7, [v0, v1, v2, v3, v4, v5, v6, v7, v8, v9, .ref e0, .int ts, .int bg, .int en, .int so, .int va, .int 1, v17, .ref y0, .ref z0, .int im, .int sT, v22, .int hT, v24, v25, v26, v27]))]) [3] rfl
          have hKc := hK.sub (tys' := []) [] rfl
          have hDc := hD.sub (ws' := [(h0, .inr (7, [v0, v1, v2, v3, v4, v5, v6, v7, v8, v9, .ref e0, .int ts, .int bg, .int en, .int so, .int va, .int 1, v17, .ref y0, .ref z0, .int im, .int sT, v22, .int hT, v24, v25, v26, v27]))]) [3] (by decide) rfl
          have hFc := va_free (wc := [(h0, .inr (7, [v0, v1, v2, v3, v4, v5, v6, v7, v8, v9, .ref e0, .int ts, .int bg, .int en, .int so, .int va, .int 1, v17, .ref y0, .ref z0, .int im, .int sT, v22, .int hT, v24, v25, v26, v27]))]) hD hS hA [3] rfl
          refine va_callv (va_runV (As := [.int 1]) (rest := []) ⟨hx, hb, hml, hown, hts⟩ (m_mustw l dC dI ad h0 1 v0 v1 v2 v3 v4 v5 v6 v7 v8 v9 (.ref e0) (.int ts) (.int bg) (.int en) (.int so) (.int va) v17 (.ref y0) (.ref z0) (.int im) (.int sT) v22 (.int hT) v24 v25 v26 v27 H.size ) (cwV 1 hts g_m_readHold_m_mustw_224 rfl rfl rfl (by decide +kernel) ⟨(Nat.le_of_ble_eq_true rfl), (Nat.le_of_ble_eq_true rfl)⟩) ⟨preM_blind, va_recv hKc hPc (ci := 7) (q0 := 0) rfl rfl, fun U hU hW => ⟨rfl, preM_at hU hW hPc hKc hDc hev⟩⟩ rfl rfl hl.1 rfl (lv_room (Nat.le_of_ble_eq_true rfl)) dX9_readHold_65 ⟨(Nat.le_of_ble_eq_true rfl), (Nat.le_of_ble_eq_true rfl)⟩) hS (fun q _ h => hFc q h) hFc (fun u t H1 locs ht hvm hw hB hz1 hk1 hS => ?_)
          obtain ⟨hP1, hK1, hD1⟩ := hB
          rw [ht] at hP1
          have hK1 := va_K.moved hvm.symm hK1
          obtain ⟨hP, hD⟩ := va_join (wr := [(e0, .inl (ec, 120, .inl ef)), (y0, .inl (yc, 360, .inl yf)), (z0, .inl (zc, 120, .inr (.inl gf)))]) (w1 := [(h0, .inr (7, [v0, v1, v2, v3, v4, v5, v6, v7, v8, v9, .ref e0, .int ts, .int bg, .int en, .int so, .int va, .int 1, v17, .ref y0, .ref z0, .int im, .int sT, v22, .int hT, v24, v25, v26, v27]))]) hP hD [3] [0, 1, 2] rfl rfl (by decide) (by decide) hk1 hFc hP1 hD1
          generalize H1 = H at hP hS ⊢
          have hP : va_P (dC, dI) vwCl [(e0, .inl (ec, 120, .inl ef)), (y0, .inl (yc, 360, .inl yf)), (z0, .inl (zc, 120, .inr (.inl gf))), (h0, .inr (7, [v0, v1, v2, v3, v4, v5, v6, v7, v8, v9, .ref e0, .int ts, .int bg, .int en, .int so, .int va, .int 1, v17, .ref y0, .ref z0, .int im, .int sT, v22, .int hT, v24, v25, v26, v27]))] H := hP
          have hD : va_D A [(e0, .inl (ec, 120, .inl ef)), (y0, .inl (yc, 360, .inl yf)), (z0, .inl (zc, 120, .inr (.inl gf))), (h0, .inr (7, [v0, v1, v2, v3, v4, v5, v6, v7, v8, v9, .ref e0, .int ts, .int bg, .int en, .int so, .int va, .int 1, v17, .ref y0, .ref z0, .int im, .int sT, v22, .int hT, v24, v25, v26, v27]))] := hD
          refine lv_aload_n hx hb dX9_readHold_68 rfl (lv_at hl 1 rfl) ?_
          refine lv_dup hx hb dX9_readHold_69 rfl ?_
          refine va_get (D := (dC, dI)) (ci := 7) (v := .int hT) (C := RX9) (T := TX9) (N := 28) hx hb hts inX9 hown hK hP 3 rfl rfl 23 (by decide) (hts _ (List.mem_of_getElem? (i := 1) rfl)) (fun _ h9 => h9) rfl dX9_readHold_70 ?_
          refine lv_aload_n hx hb dX9_readHold_73 rfl (lv_at hl 1 rfl) ?_
          refine va_get (D := (dC, dI)) (ci := 7) (v := .int 1) (C := RX9) (T := TX9) (N := 28) hx hb hts inX9 hown hK hP 3 rfl rfl 16 (by decide) (hts _ (List.mem_of_getElem? (i := 10) rfl)) (fun _ h9 => h9) rfl dX9_readHold_74 ?_
          refine lv_if_eq (tgt := 84) hx hb dX9_readHold_77 (by decide) (fun c => absurd c (by decide)) (fun _ => ?_)
          refine lv_iconst (v := 0) hx hb dX9_readHold_80 (by decide) ?_
          refine lv_goto (tgt := 87) hx hb dX9_readHold_81 (by decide) ?_
          refine lv_ior hx hb dX9_readHold_87 ?_
          refine lv_topi (fun n_203 en_203 => ?_)
          have tn_203 : n_203.toInt = hT.toInt := by rw [pp_or0 en_203]
          refine va_put (D := (dC, dI)) (ci := 7) (v := .int n_203) (ty := .int) (C := RX9) (T := TX9) (N := 28) hx hb hts inX9 tyX9 tyX9_ok nmX9 hown hK hP hD hS 3 rfl rfl 23 (by decide) (hts _ (List.mem_of_getElem? (i := 1) rfl)) (fun _ h9 => h9) rfl (by decide +kernel) rfl rfl (Nat.le_of_ble_eq_true rfl) dX9_readHold_88 (fun H locs hP hD hS => ?_)
          have hP : va_P (dC, dI) vwCl [(e0, .inl (ec, 120, .inl ef)), (y0, .inl (yc, 360, .inl yf)), (z0, .inl (zc, 120, .inr (.inl gf))), (h0, .inr (7, [v0, v1, v2, v3, v4, v5, v6, v7, v8, v9, .ref e0, .int ts, .int bg, .int en, .int so, .int va, .int 1, v17, .ref y0, .ref z0, .int im, .int sT, v22, .int n_203, v24, v25, v26, v27]))] H := hP
          have hD : va_D A [(e0, .inl (ec, 120, .inl ef)), (y0, .inl (yc, 360, .inl yf)), (z0, .inl (zc, 120, .inr (.inl gf))), (h0, .inr (7, [v0, v1, v2, v3, v4, v5, v6, v7, v8, v9, .ref e0, .int ts, .int bg, .int en, .int so, .int va, .int 1, v17, .ref y0, .ref z0, .int im, .int sT, v22, .int n_203, v24, v25, v26, v27]))] := hD
          refine lv_aload_n hx hb dX9_readHold_91 rfl (lv_at hl 1 rfl) ?_
          refine va_ldcSw (tx := "near") (q := ad 21) hx hb hown (ev_str hev 21 rfl) dX9_readHold_92 ?_
          refine lv_iconst (v := 1) hx hb dX9_readHold_95 (by decide) ?_
          refine lv_iconst (v := 2) hx hb dX9_readHold_96 (by decide) ?_
          have hPc := hP.sub (ws' := [(h0, .inr (7, [v0, v1, v2, v3, v4, v5, v6, v7, v8, v9, .ref e0, .int ts, .int bg, .int en, .int so, .int va, .int 1, v17, .ref y0, .ref z0, .int im, .int sT, v22, .int n_203, v24, v25, v26, v27])), (e0, .inl (ec, 120, .inl ef))]) [3, 0] rfl
          have hKc := hK.sub (tys' := [(ec, .int)]) [0] rfl
          have hDc := hD.sub (ws' := [(h0, .inr (7, [v0, v1, v2, v3, v4, v5, v6, v7, v8, v9, .ref e0, .int ts, .int bg, .int en, .int so, .int va, .int 1, v17, .ref y0, .ref z0, .int im, .int sT, v22, .int n_203, v24, v25, v26, v27])), (e0, .inl (ec, 120, .inl ef))]) [3, 0] (by decide) rfl
          have hFc := va_free (wc := [(h0, .inr (7, [v0, v1, v2, v3, v4, v5, v6, v7, v8, v9, .ref e0, .int ts, .int bg, .int en, .int so, .int va, .int 1, v17, .ref y0, .ref z0, .int im, .int sT, v22, .int n_203, v24, v25, v26, v27])), (e0, .inl (ec, 120, .inl ef))]) hD hS hA [3, 0] rfl
          refine va_calli (va_runV (As := [.ref (ad 21), .int 1, .int 2]) (rest := []) ⟨hx, hb, hml, hown, hts⟩ (m_after l dC dI ad h0 21 1 2 v0 v1 v2 v3 v4 v5 v6 v7 v8 v9 e0 ts bg en so va 1 v17 (.ref y0) (.ref z0) (.int im) (.int sT) v22 (.int n_203) v24 v25 v26 v27 ec ef H.size (by decide) htm hlx hso hva) (cwV 3 hts g_m_readHold_m_after_270 rfl rfl rfl (by decide +kernel) ⟨(Nat.le_of_ble_eq_true rfl), (Nat.le_of_ble_eq_true rfl)⟩) ⟨preT_blind, va_recv hKc hPc (ci := 7) (q0 := 0) rfl rfl, fun U hU hW => ⟨rfl, preM_at hU hW hPc hKc hDc hev, sf_at hsf hS hFc hU hW⟩⟩ rfl rfl hl.1 rfl (lv_room (Nat.le_of_ble_eq_true rfl)) dX9_readHold_97 ⟨(Nat.le_of_ble_eq_true rfl), (Nat.le_of_ble_eq_true rfl)⟩) hS (fun q _ h => hFc q h) hFc (fun r_205 u t H1 locs ht hvm hw hB hz1 hk1 hS => ?_)
          obtain ⟨bg_206, en_207, so_208, va_209, iw_210, hq_211, hq_212, hq_213, hq_214, hq_215, hP1, hK1, hD1⟩ := hB
          rw [ht] at hP1
          have hK1 := va_K.moved hvm.symm hK1
          obtain ⟨hP, hD⟩ := va_join (wr := [(y0, .inl (yc, 360, .inl yf)), (z0, .inl (zc, 120, .inr (.inl gf)))]) (w1 := [(h0, .inr (7, [v0, v1, v2, v3, v4, v5, v6, v7, v8, v9, .ref e0, .int ts, .int bg_206, .int en_207, .int so_208, .int va_209, .int iw_210, v17, .ref y0, .ref z0, .int im, .int sT, v22, .int n_203, v24, v25, v26, v27])), (e0, .inl (ec, 120, .inl ef))]) hP hD [3, 0] [1, 2] rfl rfl (by decide) (by decide) hk1 hFc hP1 hD1
          generalize H1 = H at hP hS ⊢
          have hP : va_P (dC, dI) vwCl [(y0, .inl (yc, 360, .inl yf)), (z0, .inl (zc, 120, .inr (.inl gf))), (h0, .inr (7, [v0, v1, v2, v3, v4, v5, v6, v7, v8, v9, .ref e0, .int ts, .int bg_206, .int en_207, .int so_208, .int va_209, .int iw_210, v17, .ref y0, .ref z0, .int im, .int sT, v22, .int n_203, v24, v25, v26, v27])), (e0, .inl (ec, 120, .inl ef))] H := hP
          have hD : va_D A [(y0, .inl (yc, 360, .inl yf)), (z0, .inl (zc, 120, .inr (.inl gf))), (h0, .inr (7, [v0, v1, v2, v3, v4, v5, v6, v7, v8, v9, .ref e0, .int ts, .int bg_206, .int en_207, .int so_208, .int va_209, .int iw_210, v17, .ref y0, .ref z0, .int im, .int sT, v22, .int n_203, v24, v25, v26, v27])), (e0, .inl (ec, 120, .inl ef))] := hD
          have hq_215 : iw_210.toInt = 0 → (1 : Int) = 0 ∧ bg.toInt ≤ bg_206.toInt := hq_215
          have ch_216 : ¬ iw_210.toInt = 0 := by omega
          refine lv_istore_n (lv' := [(2, .int r_205), (1, .int va), (0, .ref h0)]) hx hb dX9_readHold_100 rfl hl (by decide) rfl (fun ls hl => ?_)
          refine lv_aload_n hx hb dX9_readHold_101 rfl (lv_at hl 2 rfl) ?_
          refine va_ldcSw (tx := "turn") (q := ad 22) hx hb hown (ev_str hev 22 rfl) dX9_readHold_102 ?_
          refine lv_iconst (v := 0) hx hb dX9_readHold_105 (by decide) ?_
          refine lv_iconst (v := 3) hx hb dX9_readHold_106 (by decide) ?_
          have hPc := hP.sub (ws' := [(h0, .inr (7, [v0, v1, v2, v3, v4, v5, v6, v7, v8, v9, .ref e0, .int ts, .int bg_206, .int en_207, .int so_208, .int va_209, .int iw_210, v17, .ref y0, .ref z0, .int im, .int sT, v22, .int n_203, v24, v25, v26, v27])), (e0, .inl (ec, 120, .inl ef))]) [2, 3] rfl
          have hKc := hK.sub (tys' := [(ec, .int)]) [0] rfl
          have hDc := hD.sub (ws' := [(h0, .inr (7, [v0, v1, v2, v3, v4, v5, v6, v7, v8, v9, .ref e0, .int ts, .int bg_206, .int en_207, .int so_208, .int va_209, .int iw_210, v17, .ref y0, .ref z0, .int im, .int sT, v22, .int n_203, v24, v25, v26, v27])), (e0, .inl (ec, 120, .inl ef))]) [2, 3] (by decide) rfl
          have hFc := va_free (wc := [(h0, .inr (7, [v0, v1, v2, v3, v4, v5, v6, v7, v8, v9, .ref e0, .int ts, .int bg_206, .int en_207, .int so_208, .int va_209, .int iw_210, v17, .ref y0, .ref z0, .int im, .int sT, v22, .int n_203, v24, v25, v26, v27])), (e0, .inl (ec, 120, .inl ef))]) hD hS hA [2, 3] rfl
          refine va_calli (va_runV (As := [.ref (ad 22), .int 0, .int 3]) (rest := []) ⟨hx, hb, hml, hown, hts⟩ (m_after l dC dI ad h0 22 0 3 v0 v1 v2 v3 v4 v5 v6 v7 v8 v9 e0 ts bg_206 en_207 so_208 va_209 iw_210 v17 (.ref y0) (.ref z0) (.int im) (.int sT) v22 (.int n_203) v24 v25 v26 v27 ec ef H.size (by decide) htm hq_211 hq_212 hq_213) (cwV 3 hts g_m_readHold_m_after_270 rfl rfl rfl (by decide +kernel) ⟨(Nat.le_of_ble_eq_true rfl), (Nat.le_of_ble_eq_true rfl)⟩) ⟨preT_blind, va_recv hKc hPc (ci := 7) (q0 := 0) rfl rfl, fun U hU hW => ⟨rfl, preM_at hU hW hPc hKc hDc hev, sf_at hsf hS hFc hU hW⟩⟩ rfl rfl hl.1 rfl (lv_room (Nat.le_of_ble_eq_true rfl)) dX9_readHold_107 ⟨(Nat.le_of_ble_eq_true rfl), (Nat.le_of_ble_eq_true rfl)⟩) hS (fun q _ h => hFc q h) hFc (fun r_217 u t H1 locs ht hvm hw hB hz1 hk1 hS => ?_)
          obtain ⟨bg_218, en_219, so_220, va_221, iw_222, hq_223, hq_224, hq_225, hq_226, hq_227, hP1, hK1, hD1⟩ := hB
          rw [ht] at hP1
          have hK1 := va_K.moved hvm.symm hK1
          obtain ⟨hP, hD⟩ := va_join (wr := [(y0, .inl (yc, 360, .inl yf)), (z0, .inl (zc, 120, .inr (.inl gf)))]) (w1 := [(h0, .inr (7, [v0, v1, v2, v3, v4, v5, v6, v7, v8, v9, .ref e0, .int ts, .int bg_218, .int en_219, .int so_220, .int va_221, .int iw_222, v17, .ref y0, .ref z0, .int im, .int sT, v22, .int n_203, v24, v25, v26, v27])), (e0, .inl (ec, 120, .inl ef))]) hP hD [2, 3] [0, 1] rfl rfl (by decide) (by decide) hk1 hFc hP1 hD1
          generalize H1 = H at hP hS ⊢
          have hP : va_P (dC, dI) vwCl [(y0, .inl (yc, 360, .inl yf)), (z0, .inl (zc, 120, .inr (.inl gf))), (h0, .inr (7, [v0, v1, v2, v3, v4, v5, v6, v7, v8, v9, .ref e0, .int ts, .int bg_218, .int en_219, .int so_220, .int va_221, .int iw_222, v17, .ref y0, .ref z0, .int im, .int sT, v22, .int n_203, v24, v25, v26, v27])), (e0, .inl (ec, 120, .inl ef))] H := hP
          have hD : va_D A [(y0, .inl (yc, 360, .inl yf)), (z0, .inl (zc, 120, .inr (.inl gf))), (h0, .inr (7, [v0, v1, v2, v3, v4, v5, v6, v7, v8, v9, .ref e0, .int ts, .int bg_218, .int en_219, .int so_220, .int va_221, .int iw_222, v17, .ref y0, .ref z0, .int im, .int sT, v22, .int n_203, v24, v25, v26, v27])), (e0, .inl (ec, 120, .inl ef))] := hD
          have ch_228 : ¬ iw_222.toInt = 0 := by omega
          clear hq_211 hq_212 hq_213 hq_214 hq_215 ch_216
          refine lv_istore_n (lv' := [(3, .int r_217), (2, .int r_205), (1, .int va), (0, .ref h0)]) hx hb dX9_readHold_110 rfl hl (by decide) rfl (fun ls hl => ?_)
          refine lv_aload_n hx hb dX9_readHold_111 rfl (lv_at hl 3 rfl) ?_
          refine va_ldcSw (tx := "at") (q := ad 23) hx hb hown (ev_str hev 23 rfl) dX9_readHold_112 ?_
          refine lv_iconst (v := 0) hx hb dX9_readHold_115 (by decide) ?_
          refine lv_bipush (v := 7) hx hb dX9_readHold_116 (by decide) ?_
          have hPc := hP.sub (ws' := [(h0, .inr (7, [v0, v1, v2, v3, v4, v5, v6, v7, v8, v9, .ref e0, .int ts, .int bg_218, .int en_219, .int so_220, .int va_221, .int iw_222, v17, .ref y0, .ref z0, .int im, .int sT, v22, .int n_203, v24, v25, v26, v27])), (e0, .inl (ec, 120, .inl ef))]) [2, 3] rfl
          have hKc := hK.sub (tys' := [(ec, .int)]) [0] rfl
          have hDc := hD.sub (ws' := [(h0, .inr (7, [v0, v1, v2, v3, v4, v5, v6, v7, v8, v9, .ref e0, .int ts, .int bg_218, .int en_219, .int so_220, .int va_221, .int iw_222, v17, .ref y0, .ref z0, .int im, .int sT, v22, .int n_203, v24, v25, v26, v27])), (e0, .inl (ec, 120, .inl ef))]) [2, 3] (by decide) rfl
          have hFc := va_free (wc := [(h0, .inr (7, [v0, v1, v2, v3, v4, v5, v6, v7, v8, v9, .ref e0, .int ts, .int bg_218, .int en_219, .int so_220, .int va_221, .int iw_222, v17, .ref y0, .ref z0, .int im, .int sT, v22, .int n_203, v24, v25, v26, v27])), (e0, .inl (ec, 120, .inl ef))]) hD hS hA [2, 3] rfl
          refine va_calli (va_runV (As := [.ref (ad 23), .int 0, .int 7]) (rest := []) ⟨hx, hb, hml, hown, hts⟩ (m_after l dC dI ad h0 23 0 7 v0 v1 v2 v3 v4 v5 v6 v7 v8 v9 e0 ts bg_218 en_219 so_220 va_221 iw_222 v17 (.ref y0) (.ref z0) (.int im) (.int sT) v22 (.int n_203) v24 v25 v26 v27 ec ef H.size (by decide) htm hq_223 hq_224 hq_225) (cwV 3 hts g_m_readHold_m_after_270 rfl rfl rfl (by decide +kernel) ⟨(Nat.le_of_ble_eq_true rfl), (Nat.le_of_ble_eq_true rfl)⟩) ⟨preT_blind, va_recv hKc hPc (ci := 7) (q0 := 0) rfl rfl, fun U hU hW => ⟨rfl, preM_at hU hW hPc hKc hDc hev, sf_at hsf hS hFc hU hW⟩⟩ rfl rfl hl.1 rfl (lv_room (Nat.le_of_ble_eq_true rfl)) dX9_readHold_118 ⟨(Nat.le_of_ble_eq_true rfl), (Nat.le_of_ble_eq_true rfl)⟩) hS (fun q _ h => hFc q h) hFc (fun r_229 u t H1 locs ht hvm hw hB hz1 hk1 hS => ?_)
          obtain ⟨bg_230, en_231, so_232, va_233, iw_234, hq_235, hq_236, hq_237, hq_238, hq_239, hP1, hK1, hD1⟩ := hB
          rw [ht] at hP1
          have hK1 := va_K.moved hvm.symm hK1
          obtain ⟨hP, hD⟩ := va_join (wr := [(y0, .inl (yc, 360, .inl yf)), (z0, .inl (zc, 120, .inr (.inl gf)))]) (w1 := [(h0, .inr (7, [v0, v1, v2, v3, v4, v5, v6, v7, v8, v9, .ref e0, .int ts, .int bg_230, .int en_231, .int so_232, .int va_233, .int iw_234, v17, .ref y0, .ref z0, .int im, .int sT, v22, .int n_203, v24, v25, v26, v27])), (e0, .inl (ec, 120, .inl ef))]) hP hD [2, 3] [0, 1] rfl rfl (by decide) (by decide) hk1 hFc hP1 hD1
          generalize H1 = H at hP hS ⊢
          have hP : va_P (dC, dI) vwCl [(y0, .inl (yc, 360, .inl yf)), (z0, .inl (zc, 120, .inr (.inl gf))), (h0, .inr (7, [v0, v1, v2, v3, v4, v5, v6, v7, v8, v9, .ref e0, .int ts, .int bg_230, .int en_231, .int so_232, .int va_233, .int iw_234, v17, .ref y0, .ref z0, .int im, .int sT, v22, .int n_203, v24, v25, v26, v27])), (e0, .inl (ec, 120, .inl ef))] H := hP
          have hD : va_D A [(y0, .inl (yc, 360, .inl yf)), (z0, .inl (zc, 120, .inr (.inl gf))), (h0, .inr (7, [v0, v1, v2, v3, v4, v5, v6, v7, v8, v9, .ref e0, .int ts, .int bg_230, .int en_231, .int so_232, .int va_233, .int iw_234, v17, .ref y0, .ref z0, .int im, .int sT, v22, .int n_203, v24, v25, v26, v27])), (e0, .inl (ec, 120, .inl ef))] := hD
          have ch_240 : ¬ iw_234.toInt = 0 := by omega
          clear hq_223 hq_224 hq_225 hq_226 hq_227 ch_228
          refine lv_istore (lv' := [(4, .int r_229), (3, .int r_217), (2, .int r_205), (1, .int va), (0, .ref h0)]) hx hb dX9_readHold_121 hl (by decide) rfl (fun ls hl => ?_)
          refine lv_aload_n hx hb dX9_readHold_123 rfl (lv_at hl 4 rfl) ?_
          refine lv_bipush (v := 11) hx hb dX9_readHold_124 (by decide) ?_
          refine lv_iload_n hx hb dX9_readHold_126 rfl (lv_at hl 3 rfl) ?_
          refine lv_sipush (v := 1000) hx hb dX9_readHold_127 (by decide) ?_
          refine lv_iconst (v := 4) hx hb dX9_readHold_130 (by decide) ?_
          refine lv_iload_n hx hb dX9_readHold_131 rfl (lv_at hl 2 rfl) ?_
          refine lv_imul hx hb dX9_readHold_132 ?_
          refine lv_topi (fun n_241 en_241 => ?_)
          refine lv_iload_n hx hb dX9_readHold_133 rfl (lv_at hl 1 rfl) ?_
          refine lv_iadd hx hb dX9_readHold_134 ?_
          refine lv_topi (fun n_242 en_242 => ?_)
          refine lv_imul hx hb dX9_readHold_135 ?_
          refine lv_topi (fun n_243 en_243 => ?_)
          refine lv_bipush (v := 10) hx hb dX9_readHold_136 (by decide) ?_
          refine lv_iload hx hb dX9_readHold_138 (lv_at hl 0 rfl) ?_
          refine lv_imul hx hb dX9_readHold_140 ?_
          refine lv_topi (fun n_244 en_244 => ?_)
          refine lv_iadd hx hb dX9_readHold_141 ?_
          refine lv_topi (fun n_245 en_245 => ?_)
          refine lv_aload_n hx hb dX9_readHold_142 rfl (lv_at hl 4 rfl) ?_
          refine lv_iconst (v := 0) hx hb dX9_readHold_143 (by decide) ?_
          refine lv_bipush (v := 7) hx hb dX9_readHold_144 (by decide) ?_
          have hPc := hP.sub (ws' := [(h0, .inr (7, [v0, v1, v2, v3, v4, v5, v6, v7, v8, v9, .ref e0, .int ts, .int bg_230, .int en_231, .int so_232, .int va_233, .int iw_234, v17, .ref y0, .ref z0, .int im, .int sT, v22, .int n_203, v24, v25, v26, v27])), (e0, .inl (ec, 120, .inl ef))]) [2, 3] rfl
          have hKc := hK.sub (tys' := [(ec, .int)]) [0] rfl
          have hDc := hD.sub (ws' := [(h0, .inr (7, [v0, v1, v2, v3, v4, v5, v6, v7, v8, v9, .ref e0, .int ts, .int bg_230, .int en_231, .int so_232, .int va_233, .int iw_234, v17, .ref y0, .ref z0, .int im, .int sT, v22, .int n_203, v24, v25, v26, v27])), (e0, .inl (ec, 120, .inl ef))]) [2, 3] (by decide) rfl
          have hFc := va_free (wc := [(h0, .inr (7, [v0, v1, v2, v3, v4, v5, v6, v7, v8, v9, .ref e0, .int ts, .int bg_230, .int en_231, .int so_232, .int va_233, .int iw_234, v17, .ref y0, .ref z0, .int im, .int sT, v22, .int n_203, v24, v25, v26, v27])), (e0, .inl (ec, 120, .inl ef))]) hD hS hA [2, 3] rfl
          refine va_calli (va_runV (As := [.int 0, .int 7]) (rest := [.int n_245, .int va, .int 11, .ref h0]) ⟨hx, hb, hml, hown, hts⟩ (m_number l dC dI ad h0 0 7 v0 v1 v2 v3 v4 v5 v6 v7 v8 v9 e0 ts bg_230 en_231 so_232 va_233 iw_234 v17 (.ref y0) (.ref z0) (.int im) (.int sT) v22 (.int n_203) v24 v25 v26 v27 ec ef H.size htm hq_235 hq_236 hq_237) (cwV 2 hts g_m_readHold_m_number_235 rfl rfl rfl (by decide +kernel) ⟨(Nat.le_of_ble_eq_true rfl), (Nat.le_of_ble_eq_true rfl)⟩) ⟨preM_blind, va_recv hKc hPc (ci := 7) (q0 := 0) rfl rfl, fun U hU hW => ⟨rfl, preM_at hU hW hPc hKc hDc hev⟩⟩ rfl rfl hl.1 rfl (lv_room (Nat.le_of_ble_eq_true rfl)) dX9_readHold_146 ⟨(Nat.le_of_ble_eq_true rfl), (Nat.le_of_ble_eq_true rfl)⟩) hS (fun q _ h => hFc q h) hFc (fun r_246 u t H1 locs ht hvm hw hB hz1 hk1 hS => ?_)
          obtain ⟨bg_247, en_248, so_249, va_250, iw_251, hq_252, hq_253, hq_254, hq_255, hq_256, hP1, hK1, hD1⟩ := hB
          rw [ht] at hP1
          have hK1 := va_K.moved hvm.symm hK1
          obtain ⟨hP, hD⟩ := va_join (wr := [(y0, .inl (yc, 360, .inl yf)), (z0, .inl (zc, 120, .inr (.inl gf)))]) (w1 := [(h0, .inr (7, [v0, v1, v2, v3, v4, v5, v6, v7, v8, v9, .ref e0, .int ts, .int bg_247, .int en_248, .int so_249, .int va_250, .int iw_251, v17, .ref y0, .ref z0, .int im, .int sT, v22, .int n_203, v24, v25, v26, v27])), (e0, .inl (ec, 120, .inl ef))]) hP hD [2, 3] [0, 1] rfl rfl (by decide) (by decide) hk1 hFc hP1 hD1
          generalize H1 = H at hP hS ⊢
          have hP : va_P (dC, dI) vwCl [(y0, .inl (yc, 360, .inl yf)), (z0, .inl (zc, 120, .inr (.inl gf))), (h0, .inr (7, [v0, v1, v2, v3, v4, v5, v6, v7, v8, v9, .ref e0, .int ts, .int bg_247, .int en_248, .int so_249, .int va_250, .int iw_251, v17, .ref y0, .ref z0, .int im, .int sT, v22, .int n_203, v24, v25, v26, v27])), (e0, .inl (ec, 120, .inl ef))] H := hP
          have hD : va_D A [(y0, .inl (yc, 360, .inl yf)), (z0, .inl (zc, 120, .inr (.inl gf))), (h0, .inr (7, [v0, v1, v2, v3, v4, v5, v6, v7, v8, v9, .ref e0, .int ts, .int bg_247, .int en_248, .int so_249, .int va_250, .int iw_251, v17, .ref y0, .ref z0, .int im, .int sT, v22, .int n_203, v24, v25, v26, v27])), (e0, .inl (ec, 120, .inl ef))] := hD
          have hr_246 : r_246.toInt = va_233.toInt := hw
          have hq_256 : iw_251.toInt = 0 → iw_234.toInt = 0 ∧ (0 : Int) ≤ va_233.toInt ∧ va_233.toInt ≤ (7 : Int) ∧ en_231.toInt ≤ bg_247.toInt := hq_256
          have ch_257 : ¬ iw_251.toInt = 0 := by omega
          clear hq_235 hq_236 hq_237 hq_238 hq_239 ch_240
          refine lv_iadd hx hb dX9_readHold_149 ?_
          refine lv_topi (fun n_258 en_258 => ?_)
          refine lv_lconst (v := 0) hx hb dX9_readHold_150 (by decide) ?_
          have hPc := hP.sub (ws' := [(h0, .inr (7, [v0, v1, v2, v3, v4, v5, v6, v7, v8, v9, .ref e0, .int ts, .int bg_247, .int en_248, .int so_249, .int va_250, .int iw_251, v17, .ref y0, .ref z0, .int im, .int sT, v22, .int n_203, v24, v25, v26, v27])), (y0, .inl (yc, 360, .inl yf)), (z0, .inl (zc, 120, .inr (.inl gf)))]) [2, 0, 1] rfl
          have hKc := hK.sub (tys' := [(yc, .int), (zc, .long)]) [1, 2] rfl
          have hDc := hD.sub (ws' := [(h0, .inr (7, [v0, v1, v2, v3, v4, v5, v6, v7, v8, v9, .ref e0, .int ts, .int bg_247, .int en_248, .int so_249, .int va_250, .int iw_251, v17, .ref y0, .ref z0, .int im, .int sT, v22, .int n_203, v24, v25, v26, v27])), (y0, .inl (yc, 360, .inl yf)), (z0, .inl (zc, 120, .inr (.inl gf)))]) [2, 0, 1] (by decide) rfl
          have hFc := va_free (wc := [(h0, .inr (7, [v0, v1, v2, v3, v4, v5, v6, v7, v8, v9, .ref e0, .int ts, .int bg_247, .int en_248, .int so_249, .int va_250, .int iw_251, v17, .ref y0, .ref z0, .int im, .int sT, v22, .int n_203, v24, v25, v26, v27])), (y0, .inl (yc, 360, .inl yf)), (z0, .inl (zc, 120, .inr (.inl gf)))]) hD hS hA [2, 0, 1] rfl
          refine va_callv (va_runV (As := [.int 11, .int va, .int n_258, .long 0]) (rest := []) ⟨hx, hb, hml, hown, hts⟩ (m_item l dC dI ad h0 11 va n_258 0 v0 v1 v2 v3 v4 v5 v6 v7 v8 v9 (.ref e0) (.int ts) (.int bg_247) (.int en_248) (.int so_249) (.int va_250) (.int iw_251) v17 y0 z0 im (.int sT) v22 (.int n_203) v24 v25 v26 v27 yc yf zc gf H.size him) (cwV 4 hts g_m_readHold_m_item_247 rfl rfl rfl (by decide +kernel) ⟨(Nat.le_of_ble_eq_true rfl), (Nat.le_of_ble_eq_true rfl)⟩) ⟨preM_blind, va_recv hKc hPc (ci := 7) (q0 := 0) rfl rfl, fun U hU hW => ⟨rfl, preM_at hU hW hPc hKc hDc hev⟩⟩ rfl rfl hl.1 rfl (lv_room (Nat.le_of_ble_eq_true rfl)) dX9_readHold_151 ⟨(Nat.le_of_ble_eq_true rfl), (Nat.le_of_ble_eq_true rfl)⟩) hS (fun q _ h => hFc q h) hFc (fun u t H1 locs ht hvm hw hB hz1 hk1 hS => ?_)
          obtain ⟨im_260, yg_261, gg_262, hq_263, hq_264, hP1, hK1, hD1⟩ := hB
          rw [ht] at hP1
          have hK1 := va_K.moved hvm.symm hK1
          obtain ⟨hP, hD⟩ := va_join (wr := [(e0, .inl (ec, 120, .inl ef))]) (w1 := [(h0, .inr (7, [v0, v1, v2, v3, v4, v5, v6, v7, v8, v9, .ref e0, .int ts, .int bg_247, .int en_248, .int so_249, .int va_250, .int iw_251, v17, .ref y0, .ref z0, .int im_260, .int sT, v22, .int n_203, v24, v25, v26, v27])), (y0, .inl (yc, 360, .inl yg_261)), (z0, .inl (zc, 120, .inr (.inl gg_262)))]) hP hD [2, 0, 1] [3] rfl rfl (by decide) (by decide) hk1 hFc hP1 hD1
          generalize H1 = H at hP hS ⊢
          have hP : va_P (dC, dI) vwCl [(e0, .inl (ec, 120, .inl ef)), (h0, .inr (7, [v0, v1, v2, v3, v4, v5, v6, v7, v8, v9, .ref e0, .int ts, .int bg_247, .int en_248, .int so_249, .int va_250, .int iw_251, v17, .ref y0, .ref z0, .int im_260, .int sT, v22, .int n_203, v24, v25, v26, v27])), (y0, .inl (yc, 360, .inl yg_261)), (z0, .inl (zc, 120, .inr (.inl gg_262)))] H := hP
          have hD : va_D A [(e0, .inl (ec, 120, .inl ef)), (h0, .inr (7, [v0, v1, v2, v3, v4, v5, v6, v7, v8, v9, .ref e0, .int ts, .int bg_247, .int en_248, .int so_249, .int va_250, .int iw_251, v17, .ref y0, .ref z0, .int im_260, .int sT, v22, .int n_203, v24, v25, v26, v27])), (y0, .inl (yc, 360, .inl yg_261)), (z0, .inl (zc, 120, .inr (.inl gg_262)))] := hD
          have hP9 := hP.sub (ws' := [(h0, .inr (7, [v0, v1, v2, v3, v4, v5, v6, v7, v8, v9, .ref e0, .int ts, .int bg_247, .int en_248, .int so_249, .int va_250, .int iw_251, v17, .ref y0, .ref z0, .int im_260, .int sT, v22, .int n_203, v24, v25, v26, v27])), (e0, .inl (ec, 120, .inl ef)), (y0, .inl (yc, 360, .inl yg_261)), (z0, .inl (zc, 120, .inr (.inl gg_262)))]) [1, 0, 2, 3] rfl
          have hD9 := hD.sub (ws' := [(h0, .inr (7, [v0, v1, v2, v3, v4, v5, v6, v7, v8, v9, .ref e0, .int ts, .int bg_247, .int en_248, .int so_249, .int va_250, .int iw_251, v17, .ref y0, .ref z0, .int im_260, .int sT, v22, .int n_203, v24, v25, v26, v27])), (e0, .inl (ec, 120, .inl ef)), (y0, .inl (yc, 360, .inl yg_261)), (z0, .inl (zc, 120, .inr (.inl gg_262)))]) [1, 0, 2, 3] (by decide) rfl
          have hK9 := hK.sub (tys' := [(ec, .int), (yc, .int), (zc, .long)]) [0, 1, 2] rfl
          exact W.vret hx hb hr (fun t ht hW => ⟨⟨(), rfl, trivial, bg_247, en_248, so_249, va_250, iw_251, n_203, im_260, yg_261, gg_262, hq_252, hq_253, hq_254, hq_255, (by first | omega | decide | (simp only [fa_lt, fa_le, fa_eq, and_true, true_and, and_false, false_and, not_true_eq_false, not_false_eq_true, li_0, li_1, li_2, li_3, li_4, li_5, li_6, li_7, li_8, li_9, li_10, li_12, li_15, li_16, li_20, li_30, li_34, li_38, li_40, li_63, li_64, li_65, li_78, li_120, li_1000, li_4000, li_10000, li_11077, li_255, li_65535, li_m1, li_m2, li_m1000000001, li_m1000000002, li_m1000000003, li_m1000000004, li_m1000000005, li_m1000000006, li_m1000000007, or_true, true_or, or_false, false_or, implies_true, true_implies, false_implies] <;> omega)), hq_263, (fun hz cc => absurd hz (by first | omega | decide)), by rw [ht]; exact hP9, va_K.moved hW.alike hK9, hD9⟩, hS.F ht⟩) hS.2.2 dX9_readHold_154
  · skip
    have tc_3 : ¬ 4 ≤ r_2.toInt := fun h => c_3 ((fa_le _ _).mpr h)
    refine lv_iconst (v := 1) hx hb dX9_readHold_13 (by decide) ?_
    refine lv_goto (tgt := 18) hx hb dX9_readHold_14 (by decide) ?_
    have hPc := hP.sub (ws' := [(h0, .inr (7, [v0, v1, v2, v3, v4, v5, v6, v7, v8, v9, .ref e0, .int ts, .int bg, .int en, .int so, .int va, .int 0, v17, .ref y0, .ref z0, .int im, .int sT, v22, .int hT, v24, v25, v26, v27])), (e0, .inl (ec, 120, .inl ef))]) [0, 1] rfl
    have hKc := hK.sub (tys' := [(ec, .int)]) [0] rfl
    have hDc := hD.sub (ws' := [(h0, .inr (7, [v0, v1, v2, v3, v4, v5, v6, v7, v8, v9, .ref e0, .int ts, .int bg, .int en, .int so, .int va, .int 0, v17, .ref y0, .ref z0, .int im, .int sT, v22, .int hT, v24, v25, v26, v27])), (e0, .inl (ec, 120, .inl ef))]) [0, 1] (by decide) rfl
    have hFc := va_free (wc := [(h0, .inr (7, [v0, v1, v2, v3, v4, v5, v6, v7, v8, v9, .ref e0, .int ts, .int bg, .int en, .int so, .int va, .int 0, v17, .ref y0, .ref z0, .int im, .int sT, v22, .int hT, v24, v25, v26, v27])), (e0, .inl (ec, 120, .inl ef))]) hD hS hA [0, 1] rfl
    refine va_callv (va_runV (As := [.int 1]) (rest := []) ⟨hx, hb, hml, hown, hts⟩ (m_must1 l dC dI ad h0 v0 v1 v2 v3 v4 v5 v6 v7 v8 v9 e0 ts bg en so va v17 (.ref y0) (.ref z0) (.int im) (.int sT) v22 (.int hT) v24 v25 v26 v27 ec ef s.heap.size htm hlx hso hva) (cwV 1 hts g_m_readHold_m_must1_224 rfl rfl rfl (by decide +kernel) ⟨(Nat.le_of_ble_eq_true rfl), (Nat.le_of_ble_eq_true rfl)⟩) ⟨preM_blind, va_recv hKc hPc (ci := 7) (q0 := 0) rfl rfl, fun U hU hW => ⟨rfl, preM_at hU hW hPc hKc hDc hev⟩⟩ rfl rfl hl.1 rfl (lv_room (Nat.le_of_ble_eq_true rfl)) dX9_readHold_18 ⟨(Nat.le_of_ble_eq_true rfl), (Nat.le_of_ble_eq_true rfl)⟩) hS (fun q _ h => hFc q h) hFc (fun u t H1 locs ht hvm hw hB hz1 hk1 hS => ?_)
    obtain ⟨bg_266, en_267, so_268, va_269, hq_270, hq_271, hq_272, hq_273, hP1, hK1, hD1⟩ := hB
    rw [ht] at hP1
    have hK1 := va_K.moved hvm.symm hK1
    obtain ⟨hP, hD⟩ := va_join (wr := [(y0, .inl (yc, 360, .inl yf)), (z0, .inl (zc, 120, .inr (.inl gf)))]) (w1 := [(h0, .inr (7, [v0, v1, v2, v3, v4, v5, v6, v7, v8, v9, .ref e0, .int ts, .int bg_266, .int en_267, .int so_268, .int va_269, .int 0, v17, .ref y0, .ref z0, .int im, .int sT, v22, .int hT, v24, v25, v26, v27])), (e0, .inl (ec, 120, .inl ef))]) hP hD [0, 1] [2, 3] rfl rfl (by decide) (by decide) hk1 hFc hP1 hD1
    generalize H1 = H at hP hS ⊢
    have hP : va_P (dC, dI) vwCl [(y0, .inl (yc, 360, .inl yf)), (z0, .inl (zc, 120, .inr (.inl gf))), (h0, .inr (7, [v0, v1, v2, v3, v4, v5, v6, v7, v8, v9, .ref e0, .int ts, .int bg_266, .int en_267, .int so_268, .int va_269, .int 0, v17, .ref y0, .ref z0, .int im, .int sT, v22, .int hT, v24, v25, v26, v27])), (e0, .inl (ec, 120, .inl ef))] H := hP
    have hD : va_D A [(y0, .inl (yc, 360, .inl yf)), (z0, .inl (zc, 120, .inr (.inl gf))), (h0, .inr (7, [v0, v1, v2, v3, v4, v5, v6, v7, v8, v9, .ref e0, .int ts, .int bg_266, .int en_267, .int so_268, .int va_269, .int 0, v17, .ref y0, .ref z0, .int im, .int sT, v22, .int hT, v24, v25, v26, v27])), (e0, .inl (ec, 120, .inl ef))] := hD
    refine lv_aload_n hx hb dX9_readHold_21 rfl (lv_at hl 0 rfl) ?_
    refine va_get (D := (dC, dI)) (ci := 7) (v := .int va_269) (C := RX9) (T := TX9) (N := 28) hx hb hts inX9 hown hK hP 2 rfl rfl 15 (by decide) (hts _ (List.mem_of_getElem? (i := 11) rfl)) (fun _ h9 => h9) rfl dX9_readHold_22 ?_
    refine lv_istore_n (lv' := [(1, .int va_269), (0, .ref h0)]) hx hb dX9_readHold_25 rfl hl (by decide) rfl (fun ls hl => ?_)
    refine lv_aload_n hx hb dX9_readHold_26 rfl (lv_at hl 1 rfl) ?_
    refine lv_aload_n hx hb dX9_readHold_27 rfl (lv_at hl 1 rfl) ?_
    refine va_get (D := (dC, dI)) (ci := 7) (v := .int so_268) (C := RX9) (T := TX9) (N := 28) hx hb hts inX9 hown hK hP 2 rfl rfl 14 (by decide) (hts _ (List.mem_of_getElem? (i := 12) rfl)) (fun _ h9 => h9) rfl dX9_readHold_28 ?_
    refine lv_iconst (v := 2) hx hb dX9_readHold_31 (by decide) ?_
    refine lv_icmp_ne (tgt := 64) hx hb dX9_readHold_32 (by decide) (fun c_274 => ?_) (fun c_274 => ?_)
    · skip
      have tc_274 : ¬ so_268.toInt = 2 := fun h => c_274 ((fa_eq _ _).mpr h)
      refine lv_iconst (v := 0) hx hb dX9_readHold_64 (by decide) ?_
      have hPc := hP.sub (ws' := [(h0, .inr (7, [v0, v1, v2, v3, v4, v5, v6, v7, v8, v9, .ref e0, .int ts, .int bg_266, .int en_267, .int so_268, .int va_269, .int 0, v17, .ref y0, .ref z0, .int im, .int sT, v22, .int hT, v24, v25, v26, v27]))]) [2] rfl
      have hKc := hK.sub (tys' := []) [] rfl
      have hDc := hD.sub (ws' := [(h0, .inr (7, [v0, v1, v2, v3, v4, v5, v6, v7, v8, v9, .ref e0, .int ts, .int bg_266, .int en_267, .int so_268, .int va_269, .int 0, v17, .ref y0, .ref z0, .int im, .int sT, v22, .int hT, v24, v25, v26, v27]))]) [2] (by decide) rfl
      have hFc := va_free (wc := [(h0, .inr (7, [v0, v1, v2, v3, v4, v5, v6, v7, v8, v9, .ref e0, .int ts, .int bg_266, .int en_267, .int so_268, .int va_269, .int 0, v17, .ref y0, .ref z0, .int im, .int sT, v22, .int hT, v24, v25, v26, v27]))]) hD hS hA [2] rfl
      refine va_callv (va_runV (As := [.int 0]) (rest := []) ⟨hx, hb, hml, hown, hts⟩ (m_must0 l dC dI ad h0 v0 v1 v2 v3 v4 v5 v6 v7 v8 v9 (.ref e0) (.int ts) (.int bg_266) (.int en_267) (.int so_268) (.int va_269) 0 v17 (.ref y0) (.ref z0) (.int im) (.int sT) v22 (.int hT) v24 v25 v26 v27 H.size ) (cwV 1 hts g_m_readHold_m_must0_224 rfl rfl rfl (by decide +kernel) ⟨(Nat.le_of_ble_eq_true rfl), (Nat.le_of_ble_eq_true rfl)⟩) ⟨preM_blind, va_recv hKc hPc (ci := 7) (q0 := 0) rfl rfl, fun U hU hW => ⟨rfl, preM_at hU hW hPc hKc hDc hev⟩⟩ rfl rfl hl.1 rfl (lv_room (Nat.le_of_ble_eq_true rfl)) dX9_readHold_65 ⟨(Nat.le_of_ble_eq_true rfl), (Nat.le_of_ble_eq_true rfl)⟩) hS (fun q _ h => hFc q h) hFc (fun u t H1 locs ht hvm hw hB hz1 hk1 hS => ?_)
      obtain ⟨hP1, hK1, hD1⟩ := hB
      rw [ht] at hP1
      have hK1 := va_K.moved hvm.symm hK1
      obtain ⟨hP, hD⟩ := va_join (wr := [(y0, .inl (yc, 360, .inl yf)), (z0, .inl (zc, 120, .inr (.inl gf))), (e0, .inl (ec, 120, .inl ef))]) (w1 := [(h0, .inr (7, [v0, v1, v2, v3, v4, v5, v6, v7, v8, v9, .ref e0, .int ts, .int bg_266, .int en_267, .int so_268, .int va_269, .int 1, v17, .ref y0, .ref z0, .int im, .int sT, v22, .int hT, v24, v25, v26, v27]))]) hP hD [2] [0, 1, 3] rfl rfl (by decide) (by decide) hk1 hFc hP1 hD1
      generalize H1 = H at hP hS ⊢
      have hP : va_P (dC, dI) vwCl [(y0, .inl (yc, 360, .inl yf)), (z0, .inl (zc, 120, .inr (.inl gf))), (e0, .inl (ec, 120, .inl ef)), (h0, .inr (7, [v0, v1, v2, v3, v4, v5, v6, v7, v8, v9, .ref e0, .int ts, .int bg_266, .int en_267, .int so_268, .int va_269, .int 1, v17, .ref y0, .ref z0, .int im, .int sT, v22, .int hT, v24, v25, v26, v27]))] H := hP
      have hD : va_D A [(y0, .inl (yc, 360, .inl yf)), (z0, .inl (zc, 120, .inr (.inl gf))), (e0, .inl (ec, 120, .inl ef)), (h0, .inr (7, [v0, v1, v2, v3, v4, v5, v6, v7, v8, v9, .ref e0, .int ts, .int bg_266, .int en_267, .int so_268, .int va_269, .int 1, v17, .ref y0, .ref z0, .int im, .int sT, v22, .int hT, v24, v25, v26, v27]))] := hD
      refine lv_aload_n hx hb dX9_readHold_68 rfl (lv_at hl 1 rfl) ?_
      refine lv_dup hx hb dX9_readHold_69 rfl ?_
      refine va_get (D := (dC, dI)) (ci := 7) (v := .int hT) (C := RX9) (T := TX9) (N := 28) hx hb hts inX9 hown hK hP 3 rfl rfl 23 (by decide) (hts _ (List.mem_of_getElem? (i := 1) rfl)) (fun _ h9 => h9) rfl dX9_readHold_70 ?_
      refine lv_aload_n hx hb dX9_readHold_73 rfl (lv_at hl 1 rfl) ?_
      refine va_get (D := (dC, dI)) (ci := 7) (v := .int 1) (C := RX9) (T := TX9) (N := 28) hx hb hts inX9 hown hK hP 3 rfl rfl 16 (by decide) (hts _ (List.mem_of_getElem? (i := 10) rfl)) (fun _ h9 => h9) rfl dX9_readHold_74 ?_
      refine lv_if_eq (tgt := 84) hx hb dX9_readHold_77 (by decide) (fun c => absurd c (by decide)) (fun _ => ?_)
      refine lv_iconst (v := 0) hx hb dX9_readHold_80 (by decide) ?_
      refine lv_goto (tgt := 87) hx hb dX9_readHold_81 (by decide) ?_
      refine lv_ior hx hb dX9_readHold_87 ?_
      refine lv_topi (fun n_276 en_276 => ?_)
      have tn_276 : n_276.toInt = hT.toInt := by rw [pp_or0 en_276]
      refine va_put (D := (dC, dI)) (ci := 7) (v := .int n_276) (ty := .int) (C := RX9) (T := TX9) (N := 28) hx hb hts inX9 tyX9 tyX9_ok nmX9 hown hK hP hD hS 3 rfl rfl 23 (by decide) (hts _ (List.mem_of_getElem? (i := 1) rfl)) (fun _ h9 => h9) rfl (by decide +kernel) rfl rfl (Nat.le_of_ble_eq_true rfl) dX9_readHold_88 (fun H locs hP hD hS => ?_)
      have hP : va_P (dC, dI) vwCl [(y0, .inl (yc, 360, .inl yf)), (z0, .inl (zc, 120, .inr (.inl gf))), (e0, .inl (ec, 120, .inl ef)), (h0, .inr (7, [v0, v1, v2, v3, v4, v5, v6, v7, v8, v9, .ref e0, .int ts, .int bg_266, .int en_267, .int so_268, .int va_269, .int 1, v17, .ref y0, .ref z0, .int im, .int sT, v22, .int n_276, v24, v25, v26, v27]))] H := hP
      have hD : va_D A [(y0, .inl (yc, 360, .inl yf)), (z0, .inl (zc, 120, .inr (.inl gf))), (e0, .inl (ec, 120, .inl ef)), (h0, .inr (7, [v0, v1, v2, v3, v4, v5, v6, v7, v8, v9, .ref e0, .int ts, .int bg_266, .int en_267, .int so_268, .int va_269, .int 1, v17, .ref y0, .ref z0, .int im, .int sT, v22, .int n_276, v24, v25, v26, v27]))] := hD
      refine lv_aload_n hx hb dX9_readHold_91 rfl (lv_at hl 1 rfl) ?_
      refine va_ldcSw (tx := "near") (q := ad 21) hx hb hown (ev_str hev 21 rfl) dX9_readHold_92 ?_
      refine lv_iconst (v := 1) hx hb dX9_readHold_95 (by decide) ?_
      refine lv_iconst (v := 2) hx hb dX9_readHold_96 (by decide) ?_
      have hPc := hP.sub (ws' := [(h0, .inr (7, [v0, v1, v2, v3, v4, v5, v6, v7, v8, v9, .ref e0, .int ts, .int bg_266, .int en_267, .int so_268, .int va_269, .int 1, v17, .ref y0, .ref z0, .int im, .int sT, v22, .int n_276, v24, v25, v26, v27])), (e0, .inl (ec, 120, .inl ef))]) [3, 2] rfl
      have hKc := hK.sub (tys' := [(ec, .int)]) [0] rfl
      have hDc := hD.sub (ws' := [(h0, .inr (7, [v0, v1, v2, v3, v4, v5, v6, v7, v8, v9, .ref e0, .int ts, .int bg_266, .int en_267, .int so_268, .int va_269, .int 1, v17, .ref y0, .ref z0, .int im, .int sT, v22, .int n_276, v24, v25, v26, v27])), (e0, .inl (ec, 120, .inl ef))]) [3, 2] (by decide) rfl
      have hFc := va_free (wc := [(h0, .inr (7, [v0, v1, v2, v3, v4, v5, v6, v7, v8, v9, .ref e0, .int ts, .int bg_266, .int en_267, .int so_268, .int va_269, .int 1, v17, .ref y0, .ref z0, .int im, .int sT, v22, .int n_276, v24, v25, v26, v27])), (e0, .inl (ec, 120, .inl ef))]) hD hS hA [3, 2] rfl
      refine va_calli (va_runV (As := [.ref (ad 21), .int 1, .int 2]) (rest := []) ⟨hx, hb, hml, hown, hts⟩ (m_after l dC dI ad h0 21 1 2 v0 v1 v2 v3 v4 v5 v6 v7 v8 v9 e0 ts bg_266 en_267 so_268 va_269 1 v17 (.ref y0) (.ref z0) (.int im) (.int sT) v22 (.int n_276) v24 v25 v26 v27 ec ef H.size (by decide) htm hq_270 hq_271 hq_272) (cwV 3 hts g_m_readHold_m_after_270 rfl rfl rfl (by decide +kernel) ⟨(Nat.le_of_ble_eq_true rfl), (Nat.le_of_ble_eq_true rfl)⟩) ⟨preT_blind, va_recv hKc hPc (ci := 7) (q0 := 0) rfl rfl, fun U hU hW => ⟨rfl, preM_at hU hW hPc hKc hDc hev, sf_at hsf hS hFc hU hW⟩⟩ rfl rfl hl.1 rfl (lv_room (Nat.le_of_ble_eq_true rfl)) dX9_readHold_97 ⟨(Nat.le_of_ble_eq_true rfl), (Nat.le_of_ble_eq_true rfl)⟩) hS (fun q _ h => hFc q h) hFc (fun r_278 u t H1 locs ht hvm hw hB hz1 hk1 hS => ?_)
      obtain ⟨bg_279, en_280, so_281, va_282, iw_283, hq_284, hq_285, hq_286, hq_287, hq_288, hP1, hK1, hD1⟩ := hB
      rw [ht] at hP1
      have hK1 := va_K.moved hvm.symm hK1
      obtain ⟨hP, hD⟩ := va_join (wr := [(y0, .inl (yc, 360, .inl yf)), (z0, .inl (zc, 120, .inr (.inl gf)))]) (w1 := [(h0, .inr (7, [v0, v1, v2, v3, v4, v5, v6, v7, v8, v9, .ref e0, .int ts, .int bg_279, .int en_280, .int so_281, .int va_282, .int iw_283, v17, .ref y0, .ref z0, .int im, .int sT, v22, .int n_276, v24, v25, v26, v27])), (e0, .inl (ec, 120, .inl ef))]) hP hD [3, 2] [0, 1] rfl rfl (by decide) (by decide) hk1 hFc hP1 hD1
      generalize H1 = H at hP hS ⊢
      have hP : va_P (dC, dI) vwCl [(y0, .inl (yc, 360, .inl yf)), (z0, .inl (zc, 120, .inr (.inl gf))), (h0, .inr (7, [v0, v1, v2, v3, v4, v5, v6, v7, v8, v9, .ref e0, .int ts, .int bg_279, .int en_280, .int so_281, .int va_282, .int iw_283, v17, .ref y0, .ref z0, .int im, .int sT, v22, .int n_276, v24, v25, v26, v27])), (e0, .inl (ec, 120, .inl ef))] H := hP
      have hD : va_D A [(y0, .inl (yc, 360, .inl yf)), (z0, .inl (zc, 120, .inr (.inl gf))), (h0, .inr (7, [v0, v1, v2, v3, v4, v5, v6, v7, v8, v9, .ref e0, .int ts, .int bg_279, .int en_280, .int so_281, .int va_282, .int iw_283, v17, .ref y0, .ref z0, .int im, .int sT, v22, .int n_276, v24, v25, v26, v27])), (e0, .inl (ec, 120, .inl ef))] := hD
      have hq_288 : iw_283.toInt = 0 → (1 : Int) = 0 ∧ bg_266.toInt ≤ bg_279.toInt := hq_288
      have ch_289 : ¬ iw_283.toInt = 0 := by omega
      clear hq_270 hq_271 hq_272 hq_273
      refine lv_istore_n (lv' := [(2, .int r_278), (1, .int va_269), (0, .ref h0)]) hx hb dX9_readHold_100 rfl hl (by decide) rfl (fun ls hl => ?_)
      refine lv_aload_n hx hb dX9_readHold_101 rfl (lv_at hl 2 rfl) ?_
      refine va_ldcSw (tx := "turn") (q := ad 22) hx hb hown (ev_str hev 22 rfl) dX9_readHold_102 ?_
      refine lv_iconst (v := 0) hx hb dX9_readHold_105 (by decide) ?_
      refine lv_iconst (v := 3) hx hb dX9_readHold_106 (by decide) ?_
      have hPc := hP.sub (ws' := [(h0, .inr (7, [v0, v1, v2, v3, v4, v5, v6, v7, v8, v9, .ref e0, .int ts, .int bg_279, .int en_280, .int so_281, .int va_282, .int iw_283, v17, .ref y0, .ref z0, .int im, .int sT, v22, .int n_276, v24, v25, v26, v27])), (e0, .inl (ec, 120, .inl ef))]) [2, 3] rfl
      have hKc := hK.sub (tys' := [(ec, .int)]) [0] rfl
      have hDc := hD.sub (ws' := [(h0, .inr (7, [v0, v1, v2, v3, v4, v5, v6, v7, v8, v9, .ref e0, .int ts, .int bg_279, .int en_280, .int so_281, .int va_282, .int iw_283, v17, .ref y0, .ref z0, .int im, .int sT, v22, .int n_276, v24, v25, v26, v27])), (e0, .inl (ec, 120, .inl ef))]) [2, 3] (by decide) rfl
      have hFc := va_free (wc := [(h0, .inr (7, [v0, v1, v2, v3, v4, v5, v6, v7, v8, v9, .ref e0, .int ts, .int bg_279, .int en_280, .int so_281, .int va_282, .int iw_283, v17, .ref y0, .ref z0, .int im, .int sT, v22, .int n_276, v24, v25, v26, v27])), (e0, .inl (ec, 120, .inl ef))]) hD hS hA [2, 3] rfl
      refine va_calli (va_runV (As := [.ref (ad 22), .int 0, .int 3]) (rest := []) ⟨hx, hb, hml, hown, hts⟩ (m_after l dC dI ad h0 22 0 3 v0 v1 v2 v3 v4 v5 v6 v7 v8 v9 e0 ts bg_279 en_280 so_281 va_282 iw_283 v17 (.ref y0) (.ref z0) (.int im) (.int sT) v22 (.int n_276) v24 v25 v26 v27 ec ef H.size (by decide) htm hq_284 hq_285 hq_286) (cwV 3 hts g_m_readHold_m_after_270 rfl rfl rfl (by decide +kernel) ⟨(Nat.le_of_ble_eq_true rfl), (Nat.le_of_ble_eq_true rfl)⟩) ⟨preT_blind, va_recv hKc hPc (ci := 7) (q0 := 0) rfl rfl, fun U hU hW => ⟨rfl, preM_at hU hW hPc hKc hDc hev, sf_at hsf hS hFc hU hW⟩⟩ rfl rfl hl.1 rfl (lv_room (Nat.le_of_ble_eq_true rfl)) dX9_readHold_107 ⟨(Nat.le_of_ble_eq_true rfl), (Nat.le_of_ble_eq_true rfl)⟩) hS (fun q _ h => hFc q h) hFc (fun r_290 u t H1 locs ht hvm hw hB hz1 hk1 hS => ?_)
      obtain ⟨bg_291, en_292, so_293, va_294, iw_295, hq_296, hq_297, hq_298, hq_299, hq_300, hP1, hK1, hD1⟩ := hB
      rw [ht] at hP1
      have hK1 := va_K.moved hvm.symm hK1
      obtain ⟨hP, hD⟩ := va_join (wr := [(y0, .inl (yc, 360, .inl yf)), (z0, .inl (zc, 120, .inr (.inl gf)))]) (w1 := [(h0, .inr (7, [v0, v1, v2, v3, v4, v5, v6, v7, v8, v9, .ref e0, .int ts, .int bg_291, .int en_292, .int so_293, .int va_294, .int iw_295, v17, .ref y0, .ref z0, .int im, .int sT, v22, .int n_276, v24, v25, v26, v27])), (e0, .inl (ec, 120, .inl ef))]) hP hD [2, 3] [0, 1] rfl rfl (by decide) (by decide) hk1 hFc hP1 hD1
      generalize H1 = H at hP hS ⊢
      have hP : va_P (dC, dI) vwCl [(y0, .inl (yc, 360, .inl yf)), (z0, .inl (zc, 120, .inr (.inl gf))), (h0, .inr (7, [v0, v1, v2, v3, v4, v5, v6, v7, v8, v9, .ref e0, .int ts, .int bg_291, .int en_292, .int so_293, .int va_294, .int iw_295, v17, .ref y0, .ref z0, .int im, .int sT, v22, .int n_276, v24, v25, v26, v27])), (e0, .inl (ec, 120, .inl ef))] H := hP
      have hD : va_D A [(y0, .inl (yc, 360, .inl yf)), (z0, .inl (zc, 120, .inr (.inl gf))), (h0, .inr (7, [v0, v1, v2, v3, v4, v5, v6, v7, v8, v9, .ref e0, .int ts, .int bg_291, .int en_292, .int so_293, .int va_294, .int iw_295, v17, .ref y0, .ref z0, .int im, .int sT, v22, .int n_276, v24, v25, v26, v27])), (e0, .inl (ec, 120, .inl ef))] := hD
      have ch_301 : ¬ iw_295.toInt = 0 := by omega
      clear hq_284 hq_285 hq_286 hq_287 hq_288 ch_289
      refine lv_istore_n (lv' := [(3, .int r_290), (2, .int r_278), (1, .int va_269), (0, .ref h0)]) hx hb dX9_readHold_110 rfl hl (by decide) rfl (fun ls hl => ?_)
      refine lv_aload_n hx hb dX9_readHold_111 rfl (lv_at hl 3 rfl) ?_
      refine va_ldcSw (tx := "at") (q := ad 23) hx hb hown (ev_str hev 23 rfl) dX9_readHold_112 ?_
      refine lv_iconst (v := 0) hx hb dX9_readHold_115 (by decide) ?_
      refine lv_bipush (v := 7) hx hb dX9_readHold_116 (by decide) ?_
      have hPc := hP.sub (ws' := [(h0, .inr (7, [v0, v1, v2, v3, v4, v5, v6, v7, v8, v9, .ref e0, .int ts, .int bg_291, .int en_292, .int so_293, .int va_294, .int iw_295, v17, .ref y0, .ref z0, .int im, .int sT, v22, .int n_276, v24, v25, v26, v27])), (e0, .inl (ec, 120, .inl ef))]) [2, 3] rfl
      have hKc := hK.sub (tys' := [(ec, .int)]) [0] rfl
      have hDc := hD.sub (ws' := [(h0, .inr (7, [v0, v1, v2, v3, v4, v5, v6, v7, v8, v9, .ref e0, .int ts, .int bg_291, .int en_292, .int so_293, .int va_294, .int iw_295, v17, .ref y0, .ref z0, .int im, .int sT, v22, .int n_276, v24, v25, v26, v27])), (e0, .inl (ec, 120, .inl ef))]) [2, 3] (by decide) rfl
      have hFc := va_free (wc := [(h0, .inr (7, [v0, v1, v2, v3, v4, v5, v6, v7, v8, v9, .ref e0, .int ts, .int bg_291, .int en_292, .int so_293, .int va_294, .int iw_295, v17, .ref y0, .ref z0, .int im, .int sT, v22, .int n_276, v24, v25, v26, v27])), (e0, .inl (ec, 120, .inl ef))]) hD hS hA [2, 3] rfl
      refine va_calli (va_runV (As := [.ref (ad 23), .int 0, .int 7]) (rest := []) ⟨hx, hb, hml, hown, hts⟩ (m_after l dC dI ad h0 23 0 7 v0 v1 v2 v3 v4 v5 v6 v7 v8 v9 e0 ts bg_291 en_292 so_293 va_294 iw_295 v17 (.ref y0) (.ref z0) (.int im) (.int sT) v22 (.int n_276) v24 v25 v26 v27 ec ef H.size (by decide) htm hq_296 hq_297 hq_298) (cwV 3 hts g_m_readHold_m_after_270 rfl rfl rfl (by decide +kernel) ⟨(Nat.le_of_ble_eq_true rfl), (Nat.le_of_ble_eq_true rfl)⟩) ⟨preT_blind, va_recv hKc hPc (ci := 7) (q0 := 0) rfl rfl, fun U hU hW => ⟨rfl, preM_at hU hW hPc hKc hDc hev, sf_at hsf hS hFc hU hW⟩⟩ rfl rfl hl.1 rfl (lv_room (Nat.le_of_ble_eq_true rfl)) dX9_readHold_118 ⟨(Nat.le_of_ble_eq_true rfl), (Nat.le_of_ble_eq_true rfl)⟩) hS (fun q _ h => hFc q h) hFc (fun r_302 u t H1 locs ht hvm hw hB hz1 hk1 hS => ?_)
      obtain ⟨bg_303, en_304, so_305, va_306, iw_307, hq_308, hq_309, hq_310, hq_311, hq_312, hP1, hK1, hD1⟩ := hB
      rw [ht] at hP1
      have hK1 := va_K.moved hvm.symm hK1
      obtain ⟨hP, hD⟩ := va_join (wr := [(y0, .inl (yc, 360, .inl yf)), (z0, .inl (zc, 120, .inr (.inl gf)))]) (w1 := [(h0, .inr (7, [v0, v1, v2, v3, v4, v5, v6, v7, v8, v9, .ref e0, .int ts, .int bg_303, .int en_304, .int so_305, .int va_306, .int iw_307, v17, .ref y0, .ref z0, .int im, .int sT, v22, .int n_276, v24, v25, v26, v27])), (e0, .inl (ec, 120, .inl ef))]) hP hD [2, 3] [0, 1] rfl rfl (by decide) (by decide) hk1 hFc hP1 hD1
      generalize H1 = H at hP hS ⊢
      have hP : va_P (dC, dI) vwCl [(y0, .inl (yc, 360, .inl yf)), (z0, .inl (zc, 120, .inr (.inl gf))), (h0, .inr (7, [v0, v1, v2, v3, v4, v5, v6, v7, v8, v9, .ref e0, .int ts, .int bg_303, .int en_304, .int so_305, .int va_306, .int iw_307, v17, .ref y0, .ref z0, .int im, .int sT, v22, .int n_276, v24, v25, v26, v27])), (e0, .inl (ec, 120, .inl ef))] H := hP
      have hD : va_D A [(y0, .inl (yc, 360, .inl yf)), (z0, .inl (zc, 120, .inr (.inl gf))), (h0, .inr (7, [v0, v1, v2, v3, v4, v5, v6, v7, v8, v9, .ref e0, .int ts, .int bg_303, .int en_304, .int so_305, .int va_306, .int iw_307, v17, .ref y0, .ref z0, .int im, .int sT, v22, .int n_276, v24, v25, v26, v27])), (e0, .inl (ec, 120, .inl ef))] := hD
      have ch_313 : ¬ iw_307.toInt = 0 := by omega
      clear hq_296 hq_297 hq_298 hq_299 hq_300 ch_301
      refine lv_istore (lv' := [(4, .int r_302), (3, .int r_290), (2, .int r_278), (1, .int va_269), (0, .ref h0)]) hx hb dX9_readHold_121 hl (by decide) rfl (fun ls hl => ?_)
      refine lv_aload_n hx hb dX9_readHold_123 rfl (lv_at hl 4 rfl) ?_
      refine lv_bipush (v := 11) hx hb dX9_readHold_124 (by decide) ?_
      refine lv_iload_n hx hb dX9_readHold_126 rfl (lv_at hl 3 rfl) ?_
      refine lv_sipush (v := 1000) hx hb dX9_readHold_127 (by decide) ?_
      refine lv_iconst (v := 4) hx hb dX9_readHold_130 (by decide) ?_
      refine lv_iload_n hx hb dX9_readHold_131 rfl (lv_at hl 2 rfl) ?_
      refine lv_imul hx hb dX9_readHold_132 ?_
      refine lv_topi (fun n_314 en_314 => ?_)
      refine lv_iload_n hx hb dX9_readHold_133 rfl (lv_at hl 1 rfl) ?_
      refine lv_iadd hx hb dX9_readHold_134 ?_
      refine lv_topi (fun n_315 en_315 => ?_)
      refine lv_imul hx hb dX9_readHold_135 ?_
      refine lv_topi (fun n_316 en_316 => ?_)
      refine lv_bipush (v := 10) hx hb dX9_readHold_136 (by decide) ?_
      refine lv_iload hx hb dX9_readHold_138 (lv_at hl 0 rfl) ?_
      refine lv_imul hx hb dX9_readHold_140 ?_
      refine lv_topi (fun n_317 en_317 => ?_)
      refine lv_iadd hx hb dX9_readHold_141 ?_
      refine lv_topi (fun n_318 en_318 => ?_)
      refine lv_aload_n hx hb dX9_readHold_142 rfl (lv_at hl 4 rfl) ?_
      refine lv_iconst (v := 0) hx hb dX9_readHold_143 (by decide) ?_
      refine lv_bipush (v := 7) hx hb dX9_readHold_144 (by decide) ?_
      have hPc := hP.sub (ws' := [(h0, .inr (7, [v0, v1, v2, v3, v4, v5, v6, v7, v8, v9, .ref e0, .int ts, .int bg_303, .int en_304, .int so_305, .int va_306, .int iw_307, v17, .ref y0, .ref z0, .int im, .int sT, v22, .int n_276, v24, v25, v26, v27])), (e0, .inl (ec, 120, .inl ef))]) [2, 3] rfl
      have hKc := hK.sub (tys' := [(ec, .int)]) [0] rfl
      have hDc := hD.sub (ws' := [(h0, .inr (7, [v0, v1, v2, v3, v4, v5, v6, v7, v8, v9, .ref e0, .int ts, .int bg_303, .int en_304, .int so_305, .int va_306, .int iw_307, v17, .ref y0, .ref z0, .int im, .int sT, v22, .int n_276, v24, v25, v26, v27])), (e0, .inl (ec, 120, .inl ef))]) [2, 3] (by decide) rfl
      have hFc := va_free (wc := [(h0, .inr (7, [v0, v1, v2, v3, v4, v5, v6, v7, v8, v9, .ref e0, .int ts, .int bg_303, .int en_304, .int so_305, .int va_306, .int iw_307, v17, .ref y0, .ref z0, .int im, .int sT, v22, .int n_276, v24, v25, v26, v27])), (e0, .inl (ec, 120, .inl ef))]) hD hS hA [2, 3] rfl
      refine va_calli (va_runV (As := [.int 0, .int 7]) (rest := [.int n_318, .int va_269, .int 11, .ref h0]) ⟨hx, hb, hml, hown, hts⟩ (m_number l dC dI ad h0 0 7 v0 v1 v2 v3 v4 v5 v6 v7 v8 v9 e0 ts bg_303 en_304 so_305 va_306 iw_307 v17 (.ref y0) (.ref z0) (.int im) (.int sT) v22 (.int n_276) v24 v25 v26 v27 ec ef H.size htm hq_308 hq_309 hq_310) (cwV 2 hts g_m_readHold_m_number_235 rfl rfl rfl (by decide +kernel) ⟨(Nat.le_of_ble_eq_true rfl), (Nat.le_of_ble_eq_true rfl)⟩) ⟨preM_blind, va_recv hKc hPc (ci := 7) (q0 := 0) rfl rfl, fun U hU hW => ⟨rfl, preM_at hU hW hPc hKc hDc hev⟩⟩ rfl rfl hl.1 rfl (lv_room (Nat.le_of_ble_eq_true rfl)) dX9_readHold_146 ⟨(Nat.le_of_ble_eq_true rfl), (Nat.le_of_ble_eq_true rfl)⟩) hS (fun q _ h => hFc q h) hFc (fun r_319 u t H1 locs ht hvm hw hB hz1 hk1 hS => ?_)
      obtain ⟨bg_320, en_321, so_322, va_323, iw_324, hq_325, hq_326, hq_327, hq_328, hq_329, hP1, hK1, hD1⟩ := hB
      rw [ht] at hP1
      have hK1 := va_K.moved hvm.symm hK1
      obtain ⟨hP, hD⟩ := va_join (wr := [(y0, .inl (yc, 360, .inl yf)), (z0, .inl (zc, 120, .inr (.inl gf)))]) (w1 := [(h0, .inr (7, [v0, v1, v2, v3, v4, v5, v6, v7, v8, v9, .ref e0, .int ts, .int bg_320, .int en_321, .int so_322, .int va_323, .int iw_324, v17, .ref y0, .ref z0, .int im, .int sT, v22, .int n_276, v24, v25, v26, v27])), (e0, .inl (ec, 120, .inl ef))]) hP hD [2, 3] [0, 1] rfl rfl (by decide) (by decide) hk1 hFc hP1 hD1
      generalize H1 = H at hP hS ⊢
      have hP : va_P (dC, dI) vwCl [(y0, .inl (yc, 360, .inl yf)), (z0, .inl (zc, 120, .inr (.inl gf))), (h0, .inr (7, [v0, v1, v2, v3, v4, v5, v6, v7, v8, v9, .ref e0, .int ts, .int bg_320, .int en_321, .int so_322, .int va_323, .int iw_324, v17, .ref y0, .ref z0, .int im, .int sT, v22, .int n_276, v24, v25, v26, v27])), (e0, .inl (ec, 120, .inl ef))] H := hP
      have hD : va_D A [(y0, .inl (yc, 360, .inl yf)), (z0, .inl (zc, 120, .inr (.inl gf))), (h0, .inr (7, [v0, v1, v2, v3, v4, v5, v6, v7, v8, v9, .ref e0, .int ts, .int bg_320, .int en_321, .int so_322, .int va_323, .int iw_324, v17, .ref y0, .ref z0, .int im, .int sT, v22, .int n_276, v24, v25, v26, v27])), (e0, .inl (ec, 120, .inl ef))] := hD
      have hr_319 : r_319.toInt = va_306.toInt := hw
      have hq_329 : iw_324.toInt = 0 → iw_307.toInt = 0 ∧ (0 : Int) ≤ va_306.toInt ∧ va_306.toInt ≤ (7 : Int) ∧ en_304.toInt ≤ bg_320.toInt := hq_329
      have ch_330 : ¬ iw_324.toInt = 0 := by omega
      clear hq_308 hq_309 hq_310 hq_311 hq_312 ch_313
      refine lv_iadd hx hb dX9_readHold_149 ?_
      refine lv_topi (fun n_331 en_331 => ?_)
      refine lv_lconst (v := 0) hx hb dX9_readHold_150 (by decide) ?_
      have hPc := hP.sub (ws' := [(h0, .inr (7, [v0, v1, v2, v3, v4, v5, v6, v7, v8, v9, .ref e0, .int ts, .int bg_320, .int en_321, .int so_322, .int va_323, .int iw_324, v17, .ref y0, .ref z0, .int im, .int sT, v22, .int n_276, v24, v25, v26, v27])), (y0, .inl (yc, 360, .inl yf)), (z0, .inl (zc, 120, .inr (.inl gf)))]) [2, 0, 1] rfl
      have hKc := hK.sub (tys' := [(yc, .int), (zc, .long)]) [1, 2] rfl
      have hDc := hD.sub (ws' := [(h0, .inr (7, [v0, v1, v2, v3, v4, v5, v6, v7, v8, v9, .ref e0, .int ts, .int bg_320, .int en_321, .int so_322, .int va_323, .int iw_324, v17, .ref y0, .ref z0, .int im, .int sT, v22, .int n_276, v24, v25, v26, v27])), (y0, .inl (yc, 360, .inl yf)), (z0, .inl (zc, 120, .inr (.inl gf)))]) [2, 0, 1] (by decide) rfl
      have hFc := va_free (wc := [(h0, .inr (7, [v0, v1, v2, v3, v4, v5, v6, v7, v8, v9, .ref e0, .int ts, .int bg_320, .int en_321, .int so_322, .int va_323, .int iw_324, v17, .ref y0, .ref z0, .int im, .int sT, v22, .int n_276, v24, v25, v26, v27])), (y0, .inl (yc, 360, .inl yf)), (z0, .inl (zc, 120, .inr (.inl gf)))]) hD hS hA [2, 0, 1] rfl
      refine va_callv (va_runV (As := [.int 11, .int va_269, .int n_331, .long 0]) (rest := []) ⟨hx, hb, hml, hown, hts⟩ (m_item l dC dI ad h0 11 va_269 n_331 0 v0 v1 v2 v3 v4 v5 v6 v7 v8 v9 (.ref e0) (.int ts) (.int bg_320) (.int en_321) (.int so_322) (.int va_323) (.int iw_324) v17 y0 z0 im (.int sT) v22 (.int n_276) v24 v25 v26 v27 yc yf zc gf H.size him) (cwV 4 hts g_m_readHold_m_item_247 rfl rfl rfl (by decide +kernel) ⟨(Nat.le_of_ble_eq_true rfl), (Nat.le_of_ble_eq_true rfl)⟩) ⟨preM_blind, va_recv hKc hPc (ci := 7) (q0 := 0) rfl rfl, fun U hU hW => ⟨rfl, preM_at hU hW hPc hKc hDc hev⟩⟩ rfl rfl hl.1 rfl (lv_room (Nat.le_of_ble_eq_true rfl)) dX9_readHold_151 ⟨(Nat.le_of_ble_eq_true rfl), (Nat.le_of_ble_eq_true rfl)⟩) hS (fun q _ h => hFc q h) hFc (fun u t H1 locs ht hvm hw hB hz1 hk1 hS => ?_)
      obtain ⟨im_333, yg_334, gg_335, hq_336, hq_337, hP1, hK1, hD1⟩ := hB
      rw [ht] at hP1
      have hK1 := va_K.moved hvm.symm hK1
      obtain ⟨hP, hD⟩ := va_join (wr := [(e0, .inl (ec, 120, .inl ef))]) (w1 := [(h0, .inr (7, [v0, v1, v2, v3, v4, v5, v6, v7, v8, v9, .ref e0, .int ts, .int bg_320, .int en_321, .int so_322, .int va_323, .int iw_324, v17, .ref y0, .ref z0, .int im_333, .int sT, v22, .int n_276, v24, v25, v26, v27])), (y0, .inl (yc, 360, .inl yg_334)), (z0, .inl (zc, 120, .inr (.inl gg_335)))]) hP hD [2, 0, 1] [3] rfl rfl (by decide) (by decide) hk1 hFc hP1 hD1
      generalize H1 = H at hP hS ⊢
      have hP : va_P (dC, dI) vwCl [(e0, .inl (ec, 120, .inl ef)), (h0, .inr (7, [v0, v1, v2, v3, v4, v5, v6, v7, v8, v9, .ref e0, .int ts, .int bg_320, .int en_321, .int so_322, .int va_323, .int iw_324, v17, .ref y0, .ref z0, .int im_333, .int sT, v22, .int n_276, v24, v25, v26, v27])), (y0, .inl (yc, 360, .inl yg_334)), (z0, .inl (zc, 120, .inr (.inl gg_335)))] H := hP
      have hD : va_D A [(e0, .inl (ec, 120, .inl ef)), (h0, .inr (7, [v0, v1, v2, v3, v4, v5, v6, v7, v8, v9, .ref e0, .int ts, .int bg_320, .int en_321, .int so_322, .int va_323, .int iw_324, v17, .ref y0, .ref z0, .int im_333, .int sT, v22, .int n_276, v24, v25, v26, v27])), (y0, .inl (yc, 360, .inl yg_334)), (z0, .inl (zc, 120, .inr (.inl gg_335)))] := hD
      have hP9 := hP.sub (ws' := [(h0, .inr (7, [v0, v1, v2, v3, v4, v5, v6, v7, v8, v9, .ref e0, .int ts, .int bg_320, .int en_321, .int so_322, .int va_323, .int iw_324, v17, .ref y0, .ref z0, .int im_333, .int sT, v22, .int n_276, v24, v25, v26, v27])), (e0, .inl (ec, 120, .inl ef)), (y0, .inl (yc, 360, .inl yg_334)), (z0, .inl (zc, 120, .inr (.inl gg_335)))]) [1, 0, 2, 3] rfl
      have hD9 := hD.sub (ws' := [(h0, .inr (7, [v0, v1, v2, v3, v4, v5, v6, v7, v8, v9, .ref e0, .int ts, .int bg_320, .int en_321, .int so_322, .int va_323, .int iw_324, v17, .ref y0, .ref z0, .int im_333, .int sT, v22, .int n_276, v24, v25, v26, v27])), (e0, .inl (ec, 120, .inl ef)), (y0, .inl (yc, 360, .inl yg_334)), (z0, .inl (zc, 120, .inr (.inl gg_335)))]) [1, 0, 2, 3] (by decide) rfl
      have hK9 := hK.sub (tys' := [(ec, .int), (yc, .int), (zc, .long)]) [0, 1, 2] rfl
      exact W.vret hx hb hr (fun t ht hW => ⟨⟨(), rfl, trivial, bg_320, en_321, so_322, va_323, iw_324, n_276, im_333, yg_334, gg_335, hq_325, hq_326, hq_327, hq_328, (by first | omega | decide | (simp only [fa_lt, fa_le, fa_eq, and_true, true_and, and_false, false_and, not_true_eq_false, not_false_eq_true, li_0, li_1, li_2, li_3, li_4, li_5, li_6, li_7, li_8, li_9, li_10, li_12, li_15, li_16, li_20, li_30, li_34, li_38, li_40, li_63, li_64, li_65, li_78, li_120, li_1000, li_4000, li_10000, li_11077, li_255, li_65535, li_m1, li_m2, li_m1000000001, li_m1000000002, li_m1000000003, li_m1000000004, li_m1000000005, li_m1000000006, li_m1000000007, or_true, true_or, or_false, false_or, implies_true, true_implies, false_implies] <;> omega)), hq_336, (fun hz cc => absurd hz (by first | omega | decide)), by rw [ht]; exact hP9, va_K.moved hW.alike hK9, hD9⟩, hS.F ht⟩) hS.2.2 dX9_readHold_154
    · skip
      have tc_274 : so_268.toInt = 2 := (fa_eq _ _).mp c_274
      refine lv_iload_n hx hb dX9_readHold_35 rfl (lv_at hl 0 rfl) ?_
      refine lv_iconst (v := 0) hx hb dX9_readHold_36 (by decide) ?_
      refine lv_aload_n hx hb dX9_readHold_37 rfl (lv_at hl 1 rfl) ?_
      refine va_get (D := (dC, dI)) (ci := 7) (v := .int sT) (C := RX9) (T := TX9) (N := 28) hx hb hts inX9 hown hK hP 2 rfl rfl 21 (by decide) (hts _ (List.mem_of_getElem? (i := 103) rfl)) (fun _ h9 => h9) rfl dX9_readHold_38 ?_
      refine lv_iconst (v := 1) hx hb dX9_readHold_41 (by decide) ?_
      refine lv_isub hx hb dX9_readHold_42 ?_
      refine lv_topi (fun n_338 en_338 => ?_)
      have tn_338 : n_338.toInt = sT.toInt - 1 := pp_sub en_338 rfl rfl (by omega) (by omega)
      have hPc := hP.sub (ws' := []) [] rfl
      have hKc := hK.sub (tys' := []) [] rfl
      refine vp_callSi (W.runS (As := [.int va_269, .int 0, .int n_338]) (rest := [.ref h0]) ⟨hx, hb, hml, hown, hts⟩ (m_within l dC dI ad va_269 0 n_338 ) (va_cwS 3 hts g_m_readHold_m_within_75 rfl rfl rfl (by decide +kernel) ⟨(Nat.le_of_ble_eq_true rfl), (Nat.le_of_ble_eq_true rfl)⟩) ⟨preS_blind, fun U hU hW => ⟨rfl, preS_at hU hW hPc hKc hev⟩⟩ rfl rfl hl.1 rfl (lv_room (Nat.le_of_ble_eq_true rfl)) dX9_readHold_43 ⟨(Nat.le_of_ble_eq_true rfl), (Nat.le_of_ble_eq_true rfl)⟩) (fun r_339 hw => ?_)
      have hr_339 : (r_339.toInt = 1 ∧ 0 ≤ va_269.toInt ∧ va_269.toInt ≤ n_338.toInt) ∨ (r_339.toInt = 0 ∧ ¬ (0 ≤ va_269.toInt ∧ va_269.toInt ≤ n_338.toInt)) := hw
      refine lv_if_eq (tgt := 64) hx hb dX9_readHold_46 (by decide) (fun c_340 => ?_) (fun c_340 => ?_)
      · skip
        have tc_340 : r_339.toInt = 0 := (fa_eq _ _).mp c_340
        refine lv_iconst (v := 0) hx hb dX9_readHold_64 (by decide) ?_
        have hPc := hP.sub (ws' := [(h0, .inr (7, [v0, v1, v2, v3, v4, v5, v6, v7, v8, v9, .ref e0, .int ts, .int bg_266, .int en_267, .int so_268, .int va_269, .int 0, v17, .ref y0, .ref z0, .int im, .int sT, v22, .int hT, v24, v25, v26, v27]))]) [2] rfl
        have hKc := hK.sub (tys' := []) [] rfl
        have hDc := hD.sub (ws' := [(h0, .inr (7, [v0, v1, v2, v3, v4, v5, v6, v7, v8, v9, .ref e0, .int ts, .int bg_266, .int en_267, .int so_268, .int va_269, .int 0, v17, .ref y0, .ref z0, .int im, .int sT, v22, .int hT, v24, v25, v26, v27]))]) [2] (by decide) rfl
        have hFc := va_free (wc := [(h0, .inr (7, [v0, v1, v2, v3, v4, v5, v6, v7, v8, v9, .ref e0, .int ts, .int bg_266, .int en_267, .int so_268, .int va_269, .int 0, v17, .ref y0, .ref z0, .int im, .int sT, v22, .int hT, v24, v25, v26, v27]))]) hD hS hA [2] rfl
        refine va_callv (va_runV (As := [.int 0]) (rest := []) ⟨hx, hb, hml, hown, hts⟩ (m_must0 l dC dI ad h0 v0 v1 v2 v3 v4 v5 v6 v7 v8 v9 (.ref e0) (.int ts) (.int bg_266) (.int en_267) (.int so_268) (.int va_269) 0 v17 (.ref y0) (.ref z0) (.int im) (.int sT) v22 (.int hT) v24 v25 v26 v27 H.size ) (cwV 1 hts g_m_readHold_m_must0_224 rfl rfl rfl (by decide +kernel) ⟨(Nat.le_of_ble_eq_true rfl), (Nat.le_of_ble_eq_true rfl)⟩) ⟨preM_blind, va_recv hKc hPc (ci := 7) (q0 := 0) rfl rfl, fun U hU hW => ⟨rfl, preM_at hU hW hPc hKc hDc hev⟩⟩ rfl rfl hl.1 rfl (lv_room (Nat.le_of_ble_eq_true rfl)) dX9_readHold_65 ⟨(Nat.le_of_ble_eq_true rfl), (Nat.le_of_ble_eq_true rfl)⟩) hS (fun q _ h => hFc q h) hFc (fun u t H1 locs ht hvm hw hB hz1 hk1 hS => ?_)
        obtain ⟨hP1, hK1, hD1⟩ := hB
        rw [ht] at hP1
        have hK1 := va_K.moved hvm.symm hK1
        obtain ⟨hP, hD⟩ := va_join (wr := [(y0, .inl (yc, 360, .inl yf)), (z0, .inl (zc, 120, .inr (.inl gf))), (e0, .inl (ec, 120, .inl ef))]) (w1 := [(h0, .inr (7, [v0, v1, v2, v3, v4, v5, v6, v7, v8, v9, .ref e0, .int ts, .int bg_266, .int en_267, .int so_268, .int va_269, .int 1, v17, .ref y0, .ref z0, .int im, .int sT, v22, .int hT, v24, v25, v26, v27]))]) hP hD [2] [0, 1, 3] rfl rfl (by decide) (by decide) hk1 hFc hP1 hD1
        generalize H1 = H at hP hS ⊢
        have hP : va_P (dC, dI) vwCl [(y0, .inl (yc, 360, .inl yf)), (z0, .inl (zc, 120, .inr (.inl gf))), (e0, .inl (ec, 120, .inl ef)), (h0, .inr (7, [v0, v1, v2, v3, v4, v5, v6, v7, v8, v9, .ref e0, .int ts, .int bg_266, .int en_267, .int so_268, .int va_269, .int 1, v17, .ref y0, .ref z0, .int im, .int sT, v22, .int hT, v24, v25, v26, v27]))] H := hP
        have hD : va_D A [(y0, .inl (yc, 360, .inl yf)), (z0, .inl (zc, 120, .inr (.inl gf))), (e0, .inl (ec, 120, .inl ef)), (h0, .inr (7, [v0, v1, v2, v3, v4, v5, v6, v7, v8, v9, .ref e0, .int ts, .int bg_266, .int en_267, .int so_268, .int va_269, .int 1, v17, .ref y0, .ref z0, .int im, .int sT, v22, .int hT, v24, v25, v26, v27]))] := hD
        refine lv_aload_n hx hb dX9_readHold_68 rfl (lv_at hl 1 rfl) ?_
        refine lv_dup hx hb dX9_readHold_69 rfl ?_
        refine va_get (D := (dC, dI)) (ci := 7) (v := .int hT) (C := RX9) (T := TX9) (N := 28) hx hb hts inX9 hown hK hP 3 rfl rfl 23 (by decide) (hts _ (List.mem_of_getElem? (i := 1) rfl)) (fun _ h9 => h9) rfl dX9_readHold_70 ?_
        refine lv_aload_n hx hb dX9_readHold_73 rfl (lv_at hl 1 rfl) ?_
        refine va_get (D := (dC, dI)) (ci := 7) (v := .int 1) (C := RX9) (T := TX9) (N := 28) hx hb hts inX9 hown hK hP 3 rfl rfl 16 (by decide) (hts _ (List.mem_of_getElem? (i := 10) rfl)) (fun _ h9 => h9) rfl dX9_readHold_74 ?_
        refine lv_if_eq (tgt := 84) hx hb dX9_readHold_77 (by decide) (fun c => absurd c (by decide)) (fun _ => ?_)
        refine lv_iconst (v := 0) hx hb dX9_readHold_80 (by decide) ?_
        refine lv_goto (tgt := 87) hx hb dX9_readHold_81 (by decide) ?_
        refine lv_ior hx hb dX9_readHold_87 ?_
        refine lv_topi (fun n_342 en_342 => ?_)
        have tn_342 : n_342.toInt = hT.toInt := by rw [pp_or0 en_342]
        refine va_put (D := (dC, dI)) (ci := 7) (v := .int n_342) (ty := .int) (C := RX9) (T := TX9) (N := 28) hx hb hts inX9 tyX9 tyX9_ok nmX9 hown hK hP hD hS 3 rfl rfl 23 (by decide) (hts _ (List.mem_of_getElem? (i := 1) rfl)) (fun _ h9 => h9) rfl (by decide +kernel) rfl rfl (Nat.le_of_ble_eq_true rfl) dX9_readHold_88 (fun H locs hP hD hS => ?_)
        have hP : va_P (dC, dI) vwCl [(y0, .inl (yc, 360, .inl yf)), (z0, .inl (zc, 120, .inr (.inl gf))), (e0, .inl (ec, 120, .inl ef)), (h0, .inr (7, [v0, v1, v2, v3, v4, v5, v6, v7, v8, v9, .ref e0, .int ts, .int bg_266, .int en_267, .int so_268, .int va_269, .int 1, v17, .ref y0, .ref z0, .int im, .int sT, v22, .int n_342, v24, v25, v26, v27]))] H := hP
        have hD : va_D A [(y0, .inl (yc, 360, .inl yf)), (z0, .inl (zc, 120, .inr (.inl gf))), (e0, .inl (ec, 120, .inl ef)), (h0, .inr (7, [v0, v1, v2, v3, v4, v5, v6, v7, v8, v9, .ref e0, .int ts, .int bg_266, .int en_267, .int so_268, .int va_269, .int 1, v17, .ref y0, .ref z0, .int im, .int sT, v22, .int n_342, v24, v25, v26, v27]))] := hD
        refine lv_aload_n hx hb dX9_readHold_91 rfl (lv_at hl 1 rfl) ?_
        refine va_ldcSw (tx := "near") (q := ad 21) hx hb hown (ev_str hev 21 rfl) dX9_readHold_92 ?_
        refine lv_iconst (v := 1) hx hb dX9_readHold_95 (by decide) ?_
        refine lv_iconst (v := 2) hx hb dX9_readHold_96 (by decide) ?_
        have hPc := hP.sub (ws' := [(h0, .inr (7, [v0, v1, v2, v3, v4, v5, v6, v7, v8, v9, .ref e0, .int ts, .int bg_266, .int en_267, .int so_268, .int va_269, .int 1, v17, .ref y0, .ref z0, .int im, .int sT, v22, .int n_342, v24, v25, v26, v27])), (e0, .inl (ec, 120, .inl ef))]) [3, 2] rfl
        have hKc := hK.sub (tys' := [(ec, .int)]) [0] rfl
        have hDc := hD.sub (ws' := [(h0, .inr (7, [v0, v1, v2, v3, v4, v5, v6, v7, v8, v9, .ref e0, .int ts, .int bg_266, .int en_267, .int so_268, .int va_269, .int 1, v17, .ref y0, .ref z0, .int im, .int sT, v22, .int n_342, v24, v25, v26, v27])), (e0, .inl (ec, 120, .inl ef))]) [3, 2] (by decide) rfl
        have hFc := va_free (wc := [(h0, .inr (7, [v0, v1, v2, v3, v4, v5, v6, v7, v8, v9, .ref e0, .int ts, .int bg_266, .int en_267, .int so_268, .int va_269, .int 1, v17, .ref y0, .ref z0, .int im, .int sT, v22, .int n_342, v24, v25, v26, v27])), (e0, .inl (ec, 120, .inl ef))]) hD hS hA [3, 2] rfl
        refine va_calli (va_runV (As := [.ref (ad 21), .int 1, .int 2]) (rest := []) ⟨hx, hb, hml, hown, hts⟩ (m_after l dC dI ad h0 21 1 2 v0 v1 v2 v3 v4 v5 v6 v7 v8 v9 e0 ts bg_266 en_267 so_268 va_269 1 v17 (.ref y0) (.ref z0) (.int im) (.int sT) v22 (.int n_342) v24 v25 v26 v27 ec ef H.size (by decide) htm hq_270 hq_271 hq_272) (cwV 3 hts g_m_readHold_m_after_270 rfl rfl rfl (by decide +kernel) ⟨(Nat.le_of_ble_eq_true rfl), (Nat.le_of_ble_eq_true rfl)⟩) ⟨preT_blind, va_recv hKc hPc (ci := 7) (q0 := 0) rfl rfl, fun U hU hW => ⟨rfl, preM_at hU hW hPc hKc hDc hev, sf_at hsf hS hFc hU hW⟩⟩ rfl rfl hl.1 rfl (lv_room (Nat.le_of_ble_eq_true rfl)) dX9_readHold_97 ⟨(Nat.le_of_ble_eq_true rfl), (Nat.le_of_ble_eq_true rfl)⟩) hS (fun q _ h => hFc q h) hFc (fun r_344 u t H1 locs ht hvm hw hB hz1 hk1 hS => ?_)
        obtain ⟨bg_345, en_346, so_347, va_348, iw_349, hq_350, hq_351, hq_352, hq_353, hq_354, hP1, hK1, hD1⟩ := hB
        rw [ht] at hP1
        have hK1 := va_K.moved hvm.symm hK1
        obtain ⟨hP, hD⟩ := va_join (wr := [(y0, .inl (yc, 360, .inl yf)), (z0, .inl (zc, 120, .inr (.inl gf)))]) (w1 := [(h0, .inr (7, [v0, v1, v2, v3, v4, v5, v6, v7, v8, v9, .ref e0, .int ts, .int bg_345, .int en_346, .int so_347, .int va_348, .int iw_349, v17, .ref y0, .ref z0, .int im, .int sT, v22, .int n_342, v24, v25, v26, v27])), (e0, .inl (ec, 120, .inl ef))]) hP hD [3, 2] [0, 1] rfl rfl (by decide) (by decide) hk1 hFc hP1 hD1
        generalize H1 = H at hP hS ⊢
        have hP : va_P (dC, dI) vwCl [(y0, .inl (yc, 360, .inl yf)), (z0, .inl (zc, 120, .inr (.inl gf))), (h0, .inr (7, [v0, v1, v2, v3, v4, v5, v6, v7, v8, v9, .ref e0, .int ts, .int bg_345, .int en_346, .int so_347, .int va_348, .int iw_349, v17, .ref y0, .ref z0, .int im, .int sT, v22, .int n_342, v24, v25, v26, v27])), (e0, .inl (ec, 120, .inl ef))] H := hP
        have hD : va_D A [(y0, .inl (yc, 360, .inl yf)), (z0, .inl (zc, 120, .inr (.inl gf))), (h0, .inr (7, [v0, v1, v2, v3, v4, v5, v6, v7, v8, v9, .ref e0, .int ts, .int bg_345, .int en_346, .int so_347, .int va_348, .int iw_349, v17, .ref y0, .ref z0, .int im, .int sT, v22, .int n_342, v24, v25, v26, v27])), (e0, .inl (ec, 120, .inl ef))] := hD
        have hq_354 : iw_349.toInt = 0 → (1 : Int) = 0 ∧ bg_266.toInt ≤ bg_345.toInt := hq_354
        have ch_355 : ¬ iw_349.toInt = 0 := by omega
        clear hq_270 hq_271 hq_272 hq_273
        refine lv_istore_n (lv' := [(2, .int r_344), (1, .int va_269), (0, .ref h0)]) hx hb dX9_readHold_100 rfl hl (by decide) rfl (fun ls hl => ?_)
        refine lv_aload_n hx hb dX9_readHold_101 rfl (lv_at hl 2 rfl) ?_
        refine va_ldcSw (tx := "turn") (q := ad 22) hx hb hown (ev_str hev 22 rfl) dX9_readHold_102 ?_
        refine lv_iconst (v := 0) hx hb dX9_readHold_105 (by decide) ?_
        refine lv_iconst (v := 3) hx hb dX9_readHold_106 (by decide) ?_
        have hPc := hP.sub (ws' := [(h0, .inr (7, [v0, v1, v2, v3, v4, v5, v6, v7, v8, v9, .ref e0, .int ts, .int bg_345, .int en_346, .int so_347, .int va_348, .int iw_349, v17, .ref y0, .ref z0, .int im, .int sT, v22, .int n_342, v24, v25, v26, v27])), (e0, .inl (ec, 120, .inl ef))]) [2, 3] rfl
        have hKc := hK.sub (tys' := [(ec, .int)]) [0] rfl
        have hDc := hD.sub (ws' := [(h0, .inr (7, [v0, v1, v2, v3, v4, v5, v6, v7, v8, v9, .ref e0, .int ts, .int bg_345, .int en_346, .int so_347, .int va_348, .int iw_349, v17, .ref y0, .ref z0, .int im, .int sT, v22, .int n_342, v24, v25, v26, v27])), (e0, .inl (ec, 120, .inl ef))]) [2, 3] (by decide) rfl
        have hFc := va_free (wc := [(h0, .inr (7, [v0, v1, v2, v3, v4, v5, v6, v7, v8, v9, .ref e0, .int ts, .int bg_345, .int en_346, .int so_347, .int va_348, .int iw_349, v17, .ref y0, .ref z0, .int im, .int sT, v22, .int n_342, v24, v25, v26, v27])), (e0, .inl (ec, 120, .inl ef))]) hD hS hA [2, 3] rfl
        refine va_calli (va_runV (As := [.ref (ad 22), .int 0, .int 3]) (rest := []) ⟨hx, hb, hml, hown, hts⟩ (m_after l dC dI ad h0 22 0 3 v0 v1 v2 v3 v4 v5 v6 v7 v8 v9 e0 ts bg_345 en_346 so_347 va_348 iw_349 v17 (.ref y0) (.ref z0) (.int im) (.int sT) v22 (.int n_342) v24 v25 v26 v27 ec ef H.size (by decide) htm hq_350 hq_351 hq_352) (cwV 3 hts g_m_readHold_m_after_270 rfl rfl rfl (by decide +kernel) ⟨(Nat.le_of_ble_eq_true rfl), (Nat.le_of_ble_eq_true rfl)⟩) ⟨preT_blind, va_recv hKc hPc (ci := 7) (q0 := 0) rfl rfl, fun U hU hW => ⟨rfl, preM_at hU hW hPc hKc hDc hev, sf_at hsf hS hFc hU hW⟩⟩ rfl rfl hl.1 rfl (lv_room (Nat.le_of_ble_eq_true rfl)) dX9_readHold_107 ⟨(Nat.le_of_ble_eq_true rfl), (Nat.le_of_ble_eq_true rfl)⟩) hS (fun q _ h => hFc q h) hFc (fun r_356 u t H1 locs ht hvm hw hB hz1 hk1 hS => ?_)
        obtain ⟨bg_357, en_358, so_359, va_360, iw_361, hq_362, hq_363, hq_364, hq_365, hq_366, hP1, hK1, hD1⟩ := hB
        rw [ht] at hP1
        have hK1 := va_K.moved hvm.symm hK1
        obtain ⟨hP, hD⟩ := va_join (wr := [(y0, .inl (yc, 360, .inl yf)), (z0, .inl (zc, 120, .inr (.inl gf)))]) (w1 := [(h0, .inr (7, [v0, v1, v2, v3, v4, v5, v6, v7, v8, v9, .ref e0, .int ts, .int bg_357, .int en_358, .int so_359, .int va_360, .int iw_361, v17, .ref y0, .ref z0, .int im, .int sT, v22, .int n_342, v24, v25, v26, v27])), (e0, .inl (ec, 120, .inl ef))]) hP hD [2, 3] [0, 1] rfl rfl (by decide) (by decide) hk1 hFc hP1 hD1
        generalize H1 = H at hP hS ⊢
        have hP : va_P (dC, dI) vwCl [(y0, .inl (yc, 360, .inl yf)), (z0, .inl (zc, 120, .inr (.inl gf))), (h0, .inr (7, [v0, v1, v2, v3, v4, v5, v6, v7, v8, v9, .ref e0, .int ts, .int bg_357, .int en_358, .int so_359, .int va_360, .int iw_361, v17, .ref y0, .ref z0, .int im, .int sT, v22, .int n_342, v24, v25, v26, v27])), (e0, .inl (ec, 120, .inl ef))] H := hP
        have hD : va_D A [(y0, .inl (yc, 360, .inl yf)), (z0, .inl (zc, 120, .inr (.inl gf))), (h0, .inr (7, [v0, v1, v2, v3, v4, v5, v6, v7, v8, v9, .ref e0, .int ts, .int bg_357, .int en_358, .int so_359, .int va_360, .int iw_361, v17, .ref y0, .ref z0, .int im, .int sT, v22, .int n_342, v24, v25, v26, v27])), (e0, .inl (ec, 120, .inl ef))] := hD
        have ch_367 : ¬ iw_361.toInt = 0 := by omega
        clear hq_350 hq_351 hq_352 hq_353 hq_354 ch_355
        refine lv_istore_n (lv' := [(3, .int r_356), (2, .int r_344), (1, .int va_269), (0, .ref h0)]) hx hb dX9_readHold_110 rfl hl (by decide) rfl (fun ls hl => ?_)
        refine lv_aload_n hx hb dX9_readHold_111 rfl (lv_at hl 3 rfl) ?_
        refine va_ldcSw (tx := "at") (q := ad 23) hx hb hown (ev_str hev 23 rfl) dX9_readHold_112 ?_
        refine lv_iconst (v := 0) hx hb dX9_readHold_115 (by decide) ?_
        refine lv_bipush (v := 7) hx hb dX9_readHold_116 (by decide) ?_
        have hPc := hP.sub (ws' := [(h0, .inr (7, [v0, v1, v2, v3, v4, v5, v6, v7, v8, v9, .ref e0, .int ts, .int bg_357, .int en_358, .int so_359, .int va_360, .int iw_361, v17, .ref y0, .ref z0, .int im, .int sT, v22, .int n_342, v24, v25, v26, v27])), (e0, .inl (ec, 120, .inl ef))]) [2, 3] rfl
        have hKc := hK.sub (tys' := [(ec, .int)]) [0] rfl
        have hDc := hD.sub (ws' := [(h0, .inr (7, [v0, v1, v2, v3, v4, v5, v6, v7, v8, v9, .ref e0, .int ts, .int bg_357, .int en_358, .int so_359, .int va_360, .int iw_361, v17, .ref y0, .ref z0, .int im, .int sT, v22, .int n_342, v24, v25, v26, v27])), (e0, .inl (ec, 120, .inl ef))]) [2, 3] (by decide) rfl
        have hFc := va_free (wc := [(h0, .inr (7, [v0, v1, v2, v3, v4, v5, v6, v7, v8, v9, .ref e0, .int ts, .int bg_357, .int en_358, .int so_359, .int va_360, .int iw_361, v17, .ref y0, .ref z0, .int im, .int sT, v22, .int n_342, v24, v25, v26, v27])), (e0, .inl (ec, 120, .inl ef))]) hD hS hA [2, 3] rfl
        refine va_calli (va_runV (As := [.ref (ad 23), .int 0, .int 7]) (rest := []) ⟨hx, hb, hml, hown, hts⟩ (m_after l dC dI ad h0 23 0 7 v0 v1 v2 v3 v4 v5 v6 v7 v8 v9 e0 ts bg_357 en_358 so_359 va_360 iw_361 v17 (.ref y0) (.ref z0) (.int im) (.int sT) v22 (.int n_342) v24 v25 v26 v27 ec ef H.size (by decide) htm hq_362 hq_363 hq_364) (cwV 3 hts g_m_readHold_m_after_270 rfl rfl rfl (by decide +kernel) ⟨(Nat.le_of_ble_eq_true rfl), (Nat.le_of_ble_eq_true rfl)⟩) ⟨preT_blind, va_recv hKc hPc (ci := 7) (q0 := 0) rfl rfl, fun U hU hW => ⟨rfl, preM_at hU hW hPc hKc hDc hev, sf_at hsf hS hFc hU hW⟩⟩ rfl rfl hl.1 rfl (lv_room (Nat.le_of_ble_eq_true rfl)) dX9_readHold_118 ⟨(Nat.le_of_ble_eq_true rfl), (Nat.le_of_ble_eq_true rfl)⟩) hS (fun q _ h => hFc q h) hFc (fun r_368 u t H1 locs ht hvm hw hB hz1 hk1 hS => ?_)
        obtain ⟨bg_369, en_370, so_371, va_372, iw_373, hq_374, hq_375, hq_376, hq_377, hq_378, hP1, hK1, hD1⟩ := hB
        rw [ht] at hP1
        have hK1 := va_K.moved hvm.symm hK1
        obtain ⟨hP, hD⟩ := va_join (wr := [(y0, .inl (yc, 360, .inl yf)), (z0, .inl (zc, 120, .inr (.inl gf)))]) (w1 := [(h0, .inr (7, [v0, v1, v2, v3, v4, v5, v6, v7, v8, v9, .ref e0, .int ts, .int bg_369, .int en_370, .int so_371, .int va_372, .int iw_373, v17, .ref y0, .ref z0, .int im, .int sT, v22, .int n_342, v24, v25, v26, v27])), (e0, .inl (ec, 120, .inl ef))]) hP hD [2, 3] [0, 1] rfl rfl (by decide) (by decide) hk1 hFc hP1 hD1
        generalize H1 = H at hP hS ⊢
        have hP : va_P (dC, dI) vwCl [(y0, .inl (yc, 360, .inl yf)), (z0, .inl (zc, 120, .inr (.inl gf))), (h0, .inr (7, [v0, v1, v2, v3, v4, v5, v6, v7, v8, v9, .ref e0, .int ts, .int bg_369, .int en_370, .int so_371, .int va_372, .int iw_373, v17, .ref y0, .ref z0, .int im, .int sT, v22, .int n_342, v24, v25, v26, v27])), (e0, .inl (ec, 120, .inl ef))] H := hP
        have hD : va_D A [(y0, .inl (yc, 360, .inl yf)), (z0, .inl (zc, 120, .inr (.inl gf))), (h0, .inr (7, [v0, v1, v2, v3, v4, v5, v6, v7, v8, v9, .ref e0, .int ts, .int bg_369, .int en_370, .int so_371, .int va_372, .int iw_373, v17, .ref y0, .ref z0, .int im, .int sT, v22, .int n_342, v24, v25, v26, v27])), (e0, .inl (ec, 120, .inl ef))] := hD
        have ch_379 : ¬ iw_373.toInt = 0 := by omega
        clear hq_362 hq_363 hq_364 hq_365 hq_366 ch_367
        refine lv_istore (lv' := [(4, .int r_368), (3, .int r_356), (2, .int r_344), (1, .int va_269), (0, .ref h0)]) hx hb dX9_readHold_121 hl (by decide) rfl (fun ls hl => ?_)
        refine lv_aload_n hx hb dX9_readHold_123 rfl (lv_at hl 4 rfl) ?_
        refine lv_bipush (v := 11) hx hb dX9_readHold_124 (by decide) ?_
        refine lv_iload_n hx hb dX9_readHold_126 rfl (lv_at hl 3 rfl) ?_
        refine lv_sipush (v := 1000) hx hb dX9_readHold_127 (by decide) ?_
        refine lv_iconst (v := 4) hx hb dX9_readHold_130 (by decide) ?_
        refine lv_iload_n hx hb dX9_readHold_131 rfl (lv_at hl 2 rfl) ?_
        refine lv_imul hx hb dX9_readHold_132 ?_
        refine lv_topi (fun n_380 en_380 => ?_)
        refine lv_iload_n hx hb dX9_readHold_133 rfl (lv_at hl 1 rfl) ?_
        refine lv_iadd hx hb dX9_readHold_134 ?_
        refine lv_topi (fun n_381 en_381 => ?_)
        refine lv_imul hx hb dX9_readHold_135 ?_
        refine lv_topi (fun n_382 en_382 => ?_)
        refine lv_bipush (v := 10) hx hb dX9_readHold_136 (by decide) ?_
        refine lv_iload hx hb dX9_readHold_138 (lv_at hl 0 rfl) ?_
        refine lv_imul hx hb dX9_readHold_140 ?_
        refine lv_topi (fun n_383 en_383 => ?_)
        refine lv_iadd hx hb dX9_readHold_141 ?_
        refine lv_topi (fun n_384 en_384 => ?_)
        refine lv_aload_n hx hb dX9_readHold_142 rfl (lv_at hl 4 rfl) ?_
        refine lv_iconst (v := 0) hx hb dX9_readHold_143 (by decide) ?_
        refine lv_bipush (v := 7) hx hb dX9_readHold_144 (by decide) ?_
        have hPc := hP.sub (ws' := [(h0, .inr (7, [v0, v1, v2, v3, v4, v5, v6, v7, v8, v9, .ref e0, .int ts, .int bg_369, .int en_370, .int so_371, .int va_372, .int iw_373, v17, .ref y0, .ref z0, .int im, .int sT, v22, .int n_342, v24, v25, v26, v27])), (e0, .inl (ec, 120, .inl ef))]) [2, 3] rfl
        have hKc := hK.sub (tys' := [(ec, .int)]) [0] rfl
        have hDc := hD.sub (ws' := [(h0, .inr (7, [v0, v1, v2, v3, v4, v5, v6, v7, v8, v9, .ref e0, .int ts, .int bg_369, .int en_370, .int so_371, .int va_372, .int iw_373, v17, .ref y0, .ref z0, .int im, .int sT, v22, .int n_342, v24, v25, v26, v27])), (e0, .inl (ec, 120, .inl ef))]) [2, 3] (by decide) rfl
        have hFc := va_free (wc := [(h0, .inr (7, [v0, v1, v2, v3, v4, v5, v6, v7, v8, v9, .ref e0, .int ts, .int bg_369, .int en_370, .int so_371, .int va_372, .int iw_373, v17, .ref y0, .ref z0, .int im, .int sT, v22, .int n_342, v24, v25, v26, v27])), (e0, .inl (ec, 120, .inl ef))]) hD hS hA [2, 3] rfl
        refine va_calli (va_runV (As := [.int 0, .int 7]) (rest := [.int n_384, .int va_269, .int 11, .ref h0]) ⟨hx, hb, hml, hown, hts⟩ (m_number l dC dI ad h0 0 7 v0 v1 v2 v3 v4 v5 v6 v7 v8 v9 e0 ts bg_369 en_370 so_371 va_372 iw_373 v17 (.ref y0) (.ref z0) (.int im) (.int sT) v22 (.int n_342) v24 v25 v26 v27 ec ef H.size htm hq_374 hq_375 hq_376) (cwV 2 hts g_m_readHold_m_number_235 rfl rfl rfl (by decide +kernel) ⟨(Nat.le_of_ble_eq_true rfl), (Nat.le_of_ble_eq_true rfl)⟩) ⟨preM_blind, va_recv hKc hPc (ci := 7) (q0 := 0) rfl rfl, fun U hU hW => ⟨rfl, preM_at hU hW hPc hKc hDc hev⟩⟩ rfl rfl hl.1 rfl (lv_room (Nat.le_of_ble_eq_true rfl)) dX9_readHold_146 ⟨(Nat.le_of_ble_eq_true rfl), (Nat.le_of_ble_eq_true rfl)⟩) hS (fun q _ h => hFc q h) hFc (fun r_385 u t H1 locs ht hvm hw hB hz1 hk1 hS => ?_)
        obtain ⟨bg_386, en_387, so_388, va_389, iw_390, hq_391, hq_392, hq_393, hq_394, hq_395, hP1, hK1, hD1⟩ := hB
        rw [ht] at hP1
        have hK1 := va_K.moved hvm.symm hK1
        obtain ⟨hP, hD⟩ := va_join (wr := [(y0, .inl (yc, 360, .inl yf)), (z0, .inl (zc, 120, .inr (.inl gf)))]) (w1 := [(h0, .inr (7, [v0, v1, v2, v3, v4, v5, v6, v7, v8, v9, .ref e0, .int ts, .int bg_386, .int en_387, .int so_388, .int va_389, .int iw_390, v17, .ref y0, .ref z0, .int im, .int sT, v22, .int n_342, v24, v25, v26, v27])), (e0, .inl (ec, 120, .inl ef))]) hP hD [2, 3] [0, 1] rfl rfl (by decide) (by decide) hk1 hFc hP1 hD1
        generalize H1 = H at hP hS ⊢
        have hP : va_P (dC, dI) vwCl [(y0, .inl (yc, 360, .inl yf)), (z0, .inl (zc, 120, .inr (.inl gf))), (h0, .inr (7, [v0, v1, v2, v3, v4, v5, v6, v7, v8, v9, .ref e0, .int ts, .int bg_386, .int en_387, .int so_388, .int va_389, .int iw_390, v17, .ref y0, .ref z0, .int im, .int sT, v22, .int n_342, v24, v25, v26, v27])), (e0, .inl (ec, 120, .inl ef))] H := hP
        have hD : va_D A [(y0, .inl (yc, 360, .inl yf)), (z0, .inl (zc, 120, .inr (.inl gf))), (h0, .inr (7, [v0, v1, v2, v3, v4, v5, v6, v7, v8, v9, .ref e0, .int ts, .int bg_386, .int en_387, .int so_388, .int va_389, .int iw_390, v17, .ref y0, .ref z0, .int im, .int sT, v22, .int n_342, v24, v25, v26, v27])), (e0, .inl (ec, 120, .inl ef))] := hD
        have hr_385 : r_385.toInt = va_372.toInt := hw
        have hq_395 : iw_390.toInt = 0 → iw_373.toInt = 0 ∧ (0 : Int) ≤ va_372.toInt ∧ va_372.toInt ≤ (7 : Int) ∧ en_370.toInt ≤ bg_386.toInt := hq_395
        have ch_396 : ¬ iw_390.toInt = 0 := by omega
        clear hq_374 hq_375 hq_376 hq_377 hq_378 ch_379
        refine lv_iadd hx hb dX9_readHold_149 ?_
        refine lv_topi (fun n_397 en_397 => ?_)
        refine lv_lconst (v := 0) hx hb dX9_readHold_150 (by decide) ?_
        have hPc := hP.sub (ws' := [(h0, .inr (7, [v0, v1, v2, v3, v4, v5, v6, v7, v8, v9, .ref e0, .int ts, .int bg_386, .int en_387, .int so_388, .int va_389, .int iw_390, v17, .ref y0, .ref z0, .int im, .int sT, v22, .int n_342, v24, v25, v26, v27])), (y0, .inl (yc, 360, .inl yf)), (z0, .inl (zc, 120, .inr (.inl gf)))]) [2, 0, 1] rfl
        have hKc := hK.sub (tys' := [(yc, .int), (zc, .long)]) [1, 2] rfl
        have hDc := hD.sub (ws' := [(h0, .inr (7, [v0, v1, v2, v3, v4, v5, v6, v7, v8, v9, .ref e0, .int ts, .int bg_386, .int en_387, .int so_388, .int va_389, .int iw_390, v17, .ref y0, .ref z0, .int im, .int sT, v22, .int n_342, v24, v25, v26, v27])), (y0, .inl (yc, 360, .inl yf)), (z0, .inl (zc, 120, .inr (.inl gf)))]) [2, 0, 1] (by decide) rfl
        have hFc := va_free (wc := [(h0, .inr (7, [v0, v1, v2, v3, v4, v5, v6, v7, v8, v9, .ref e0, .int ts, .int bg_386, .int en_387, .int so_388, .int va_389, .int iw_390, v17, .ref y0, .ref z0, .int im, .int sT, v22, .int n_342, v24, v25, v26, v27])), (y0, .inl (yc, 360, .inl yf)), (z0, .inl (zc, 120, .inr (.inl gf)))]) hD hS hA [2, 0, 1] rfl
        refine va_callv (va_runV (As := [.int 11, .int va_269, .int n_397, .long 0]) (rest := []) ⟨hx, hb, hml, hown, hts⟩ (m_item l dC dI ad h0 11 va_269 n_397 0 v0 v1 v2 v3 v4 v5 v6 v7 v8 v9 (.ref e0) (.int ts) (.int bg_386) (.int en_387) (.int so_388) (.int va_389) (.int iw_390) v17 y0 z0 im (.int sT) v22 (.int n_342) v24 v25 v26 v27 yc yf zc gf H.size him) (cwV 4 hts g_m_readHold_m_item_247 rfl rfl rfl (by decide +kernel) ⟨(Nat.le_of_ble_eq_true rfl), (Nat.le_of_ble_eq_true rfl)⟩) ⟨preM_blind, va_recv hKc hPc (ci := 7) (q0 := 0) rfl rfl, fun U hU hW => ⟨rfl, preM_at hU hW hPc hKc hDc hev⟩⟩ rfl rfl hl.1 rfl (lv_room (Nat.le_of_ble_eq_true rfl)) dX9_readHold_151 ⟨(Nat.le_of_ble_eq_true rfl), (Nat.le_of_ble_eq_true rfl)⟩) hS (fun q _ h => hFc q h) hFc (fun u t H1 locs ht hvm hw hB hz1 hk1 hS => ?_)
        obtain ⟨im_399, yg_400, gg_401, hq_402, hq_403, hP1, hK1, hD1⟩ := hB
        rw [ht] at hP1
        have hK1 := va_K.moved hvm.symm hK1
        obtain ⟨hP, hD⟩ := va_join (wr := [(e0, .inl (ec, 120, .inl ef))]) (w1 := [(h0, .inr (7, [v0, v1, v2, v3, v4, v5, v6, v7, v8, v9, .ref e0, .int ts, .int bg_386, .int en_387, .int so_388, .int va_389, .int iw_390, v17, .ref y0, .ref z0, .int im_399, .int sT, v22, .int n_342, v24, v25, v26, v27])), (y0, .inl (yc, 360, .inl yg_400)), (z0, .inl (zc, 120, .inr (.inl gg_401)))]) hP hD [2, 0, 1] [3] rfl rfl (by decide) (by decide) hk1 hFc hP1 hD1
        generalize H1 = H at hP hS ⊢
        have hP : va_P (dC, dI) vwCl [(e0, .inl (ec, 120, .inl ef)), (h0, .inr (7, [v0, v1, v2, v3, v4, v5, v6, v7, v8, v9, .ref e0, .int ts, .int bg_386, .int en_387, .int so_388, .int va_389, .int iw_390, v17, .ref y0, .ref z0, .int im_399, .int sT, v22, .int n_342, v24, v25, v26, v27])), (y0, .inl (yc, 360, .inl yg_400)), (z0, .inl (zc, 120, .inr (.inl gg_401)))] H := hP
        have hD : va_D A [(e0, .inl (ec, 120, .inl ef)), (h0, .inr (7, [v0, v1, v2, v3, v4, v5, v6, v7, v8, v9, .ref e0, .int ts, .int bg_386, .int en_387, .int so_388, .int va_389, .int iw_390, v17, .ref y0, .ref z0, .int im_399, .int sT, v22, .int n_342, v24, v25, v26, v27])), (y0, .inl (yc, 360, .inl yg_400)), (z0, .inl (zc, 120, .inr (.inl gg_401)))] := hD
        have hP9 := hP.sub (ws' := [(h0, .inr (7, [v0, v1, v2, v3, v4, v5, v6, v7, v8, v9, .ref e0, .int ts, .int bg_386, .int en_387, .int so_388, .int va_389, .int iw_390, v17, .ref y0, .ref z0, .int im_399, .int sT, v22, .int n_342, v24, v25, v26, v27])), (e0, .inl (ec, 120, .inl ef)), (y0, .inl (yc, 360, .inl yg_400)), (z0, .inl (zc, 120, .inr (.inl gg_401)))]) [1, 0, 2, 3] rfl
        have hD9 := hD.sub (ws' := [(h0, .inr (7, [v0, v1, v2, v3, v4, v5, v6, v7, v8, v9, .ref e0, .int ts, .int bg_386, .int en_387, .int so_388, .int va_389, .int iw_390, v17, .ref y0, .ref z0, .int im_399, .int sT, v22, .int n_342, v24, v25, v26, v27])), (e0, .inl (ec, 120, .inl ef)), (y0, .inl (yc, 360, .inl yg_400)), (z0, .inl (zc, 120, .inr (.inl gg_401)))]) [1, 0, 2, 3] (by decide) rfl
        have hK9 := hK.sub (tys' := [(ec, .int), (yc, .int), (zc, .long)]) [0, 1, 2] rfl
        exact W.vret hx hb hr (fun t ht hW => ⟨⟨(), rfl, trivial, bg_386, en_387, so_388, va_389, iw_390, n_342, im_399, yg_400, gg_401, hq_391, hq_392, hq_393, hq_394, (by first | omega | decide | (simp only [fa_lt, fa_le, fa_eq, and_true, true_and, and_false, false_and, not_true_eq_false, not_false_eq_true, li_0, li_1, li_2, li_3, li_4, li_5, li_6, li_7, li_8, li_9, li_10, li_12, li_15, li_16, li_20, li_30, li_34, li_38, li_40, li_63, li_64, li_65, li_78, li_120, li_1000, li_4000, li_10000, li_11077, li_255, li_65535, li_m1, li_m2, li_m1000000001, li_m1000000002, li_m1000000003, li_m1000000004, li_m1000000005, li_m1000000006, li_m1000000007, or_true, true_or, or_false, false_or, implies_true, true_implies, false_implies] <;> omega)), hq_402, (fun hz cc => absurd hz (by first | omega | decide)), by rw [ht]; exact hP9, va_K.moved hW.alike hK9, hD9⟩, hS.F ht⟩) hS.2.2 dX9_readHold_154
      · skip
        have tc_340 : ¬ r_339.toInt = 0 := fun h => c_340 ((fa_eq _ _).mpr h)
        have i_404 : 0 ≤ va_269.toInt ∧ va_269.toInt ≤ n_338.toInt := by omega
        refine lv_aload_n hx hb dX9_readHold_49 rfl (lv_at hl 1 rfl) ?_
        refine va_get (D := (dC, dI)) (ci := 7) (v := .int hT) (C := RX9) (T := TX9) (N := 28) hx hb hts inX9 hown hK hP 2 rfl rfl 23 (by decide) (hts _ (List.mem_of_getElem? (i := 1) rfl)) (fun _ h9 => h9) rfl dX9_readHold_50 ?_
        refine lv_iload_n hx hb dX9_readHold_53 rfl (lv_at hl 0 rfl) ?_
        refine lv_ishr hx hb dX9_readHold_54 ?_
        refine lv_topi (fun n_405 en_405 => ?_)
        refine lv_iconst (v := 1) hx hb dX9_readHold_55 (by decide) ?_
        refine lv_iand hx hb dX9_readHold_56 ?_
        refine lv_topi (fun n_406 en_406 => ?_)
        have tbn_406 := mk_bit en_405 en_406 (by omega) (by omega) (by omega) (by omega)
        refine lv_if_ne (tgt := 64) hx hb dX9_readHold_57 (by decide) (fun c_407 => ?_) (fun c_407 => ?_)
        · skip
          have tc_407 : ¬ n_406.toInt = 0 := fun h => c_407 ((fa_eq _ _).mpr h)
          refine lv_iconst (v := 0) hx hb dX9_readHold_64 (by decide) ?_
          have hPc := hP.sub (ws' := [(h0, .inr (7, [v0, v1, v2, v3, v4, v5, v6, v7, v8, v9, .ref e0, .int ts, .int bg_266, .int en_267, .int so_268, .int va_269, .int 0, v17, .ref y0, .ref z0, .int im, .int sT, v22, .int hT, v24, v25, v26, v27]))]) [2] rfl
          have hKc := hK.sub (tys' := []) [] rfl
          have hDc := hD.sub (ws' := [(h0, .inr (7, [v0, v1, v2, v3, v4, v5, v6, v7, v8, v9, .ref e0, .int ts, .int bg_266, .int en_267, .int so_268, .int va_269, .int 0, v17, .ref y0, .ref z0, .int im, .int sT, v22, .int hT, v24, v25, v26, v27]))]) [2] (by decide) rfl
          have hFc := va_free (wc := [(h0, .inr (7, [v0, v1, v2, v3, v4, v5, v6, v7, v8, v9, .ref e0, .int ts, .int bg_266, .int en_267, .int so_268, .int va_269, .int 0, v17, .ref y0, .ref z0, .int im, .int sT, v22, .int hT, v24, v25, v26, v27]))]) hD hS hA [2] rfl
          refine va_callv (va_runV (As := [.int 0]) (rest := []) ⟨hx, hb, hml, hown, hts⟩ (m_must0 l dC dI ad h0 v0 v1 v2 v3 v4 v5 v6 v7 v8 v9 (.ref e0) (.int ts) (.int bg_266) (.int en_267) (.int so_268) (.int va_269) 0 v17 (.ref y0) (.ref z0) (.int im) (.int sT) v22 (.int hT) v24 v25 v26 v27 H.size ) (cwV 1 hts g_m_readHold_m_must0_224 rfl rfl rfl (by decide +kernel) ⟨(Nat.le_of_ble_eq_true rfl), (Nat.le_of_ble_eq_true rfl)⟩) ⟨preM_blind, va_recv hKc hPc (ci := 7) (q0 := 0) rfl rfl, fun U hU hW => ⟨rfl, preM_at hU hW hPc hKc hDc hev⟩⟩ rfl rfl hl.1 rfl (lv_room (Nat.le_of_ble_eq_true rfl)) dX9_readHold_65 ⟨(Nat.le_of_ble_eq_true rfl), (Nat.le_of_ble_eq_true rfl)⟩) hS (fun q _ h => hFc q h) hFc (fun u t H1 locs ht hvm hw hB hz1 hk1 hS => ?_)
          obtain ⟨hP1, hK1, hD1⟩ := hB
          rw [ht] at hP1
          have hK1 := va_K.moved hvm.symm hK1
          obtain ⟨hP, hD⟩ := va_join (wr := [(y0, .inl (yc, 360, .inl yf)), (z0, .inl (zc, 120, .inr (.inl gf))), (e0, .inl (ec, 120, .inl ef))]) (w1 := [(h0, .inr (7, [v0, v1, v2, v3, v4, v5, v6, v7, v8, v9, .ref e0, .int ts, .int bg_266, .int en_267, .int so_268, .int va_269, .int 1, v17, .ref y0, .ref z0, .int im, .int sT, v22, .int hT, v24, v25, v26, v27]))]) hP hD [2] [0, 1, 3] rfl rfl (by decide) (by decide) hk1 hFc hP1 hD1
          generalize H1 = H at hP hS ⊢
          have hP : va_P (dC, dI) vwCl [(y0, .inl (yc, 360, .inl yf)), (z0, .inl (zc, 120, .inr (.inl gf))), (e0, .inl (ec, 120, .inl ef)), (h0, .inr (7, [v0, v1, v2, v3, v4, v5, v6, v7, v8, v9, .ref e0, .int ts, .int bg_266, .int en_267, .int so_268, .int va_269, .int 1, v17, .ref y0, .ref z0, .int im, .int sT, v22, .int hT, v24, v25, v26, v27]))] H := hP
          have hD : va_D A [(y0, .inl (yc, 360, .inl yf)), (z0, .inl (zc, 120, .inr (.inl gf))), (e0, .inl (ec, 120, .inl ef)), (h0, .inr (7, [v0, v1, v2, v3, v4, v5, v6, v7, v8, v9, .ref e0, .int ts, .int bg_266, .int en_267, .int so_268, .int va_269, .int 1, v17, .ref y0, .ref z0, .int im, .int sT, v22, .int hT, v24, v25, v26, v27]))] := hD
          refine lv_aload_n hx hb dX9_readHold_68 rfl (lv_at hl 1 rfl) ?_
          refine lv_dup hx hb dX9_readHold_69 rfl ?_
          refine va_get (D := (dC, dI)) (ci := 7) (v := .int hT) (C := RX9) (T := TX9) (N := 28) hx hb hts inX9 hown hK hP 3 rfl rfl 23 (by decide) (hts _ (List.mem_of_getElem? (i := 1) rfl)) (fun _ h9 => h9) rfl dX9_readHold_70 ?_
          refine lv_aload_n hx hb dX9_readHold_73 rfl (lv_at hl 1 rfl) ?_
          refine va_get (D := (dC, dI)) (ci := 7) (v := .int 1) (C := RX9) (T := TX9) (N := 28) hx hb hts inX9 hown hK hP 3 rfl rfl 16 (by decide) (hts _ (List.mem_of_getElem? (i := 10) rfl)) (fun _ h9 => h9) rfl dX9_readHold_74 ?_
          refine lv_if_eq (tgt := 84) hx hb dX9_readHold_77 (by decide) (fun c => absurd c (by decide)) (fun _ => ?_)
          refine lv_iconst (v := 0) hx hb dX9_readHold_80 (by decide) ?_
          refine lv_goto (tgt := 87) hx hb dX9_readHold_81 (by decide) ?_
          refine lv_ior hx hb dX9_readHold_87 ?_
          refine lv_topi (fun n_409 en_409 => ?_)
          have tn_409 : n_409.toInt = hT.toInt := by rw [pp_or0 en_409]
          refine va_put (D := (dC, dI)) (ci := 7) (v := .int n_409) (ty := .int) (C := RX9) (T := TX9) (N := 28) hx hb hts inX9 tyX9 tyX9_ok nmX9 hown hK hP hD hS 3 rfl rfl 23 (by decide) (hts _ (List.mem_of_getElem? (i := 1) rfl)) (fun _ h9 => h9) rfl (by decide +kernel) rfl rfl (Nat.le_of_ble_eq_true rfl) dX9_readHold_88 (fun H locs hP hD hS => ?_)
          have hP : va_P (dC, dI) vwCl [(y0, .inl (yc, 360, .inl yf)), (z0, .inl (zc, 120, .inr (.inl gf))), (e0, .inl (ec, 120, .inl ef)), (h0, .inr (7, [v0, v1, v2, v3, v4, v5, v6, v7, v8, v9, .ref e0, .int ts, .int bg_266, .int en_267, .int so_268, .int va_269, .int 1, v17, .ref y0, .ref z0, .int im, .int sT, v22, .int n_409, v24, v25, v26, v27]))] H := hP
          have hD : va_D A [(y0, .inl (yc, 360, .inl yf)), (z0, .inl (zc, 120, .inr (.inl gf))), (e0, .inl (ec, 120, .inl ef)), (h0, .inr (7, [v0, v1, v2, v3, v4, v5, v6, v7, v8, v9, .ref e0, .int ts, .int bg_266, .int en_267, .int so_268, .int va_269, .int 1, v17, .ref y0, .ref z0, .int im, .int sT, v22, .int n_409, v24, v25, v26, v27]))] := hD
          refine lv_aload_n hx hb dX9_readHold_91 rfl (lv_at hl 1 rfl) ?_
          refine va_ldcSw (tx := "near") (q := ad 21) hx hb hown (ev_str hev 21 rfl) dX9_readHold_92 ?_
          refine lv_iconst (v := 1) hx hb dX9_readHold_95 (by decide) ?_
          refine lv_iconst (v := 2) hx hb dX9_readHold_96 (by decide) ?_
          have hPc := hP.sub (ws' := [(h0, .inr (7, [v0, v1, v2, v3, v4, v5, v6, v7, v8, v9, .ref e0, .int ts, .int bg_266, .int en_267, .int so_268, .int va_269, .int 1, v17, .ref y0, .ref z0, .int im, .int sT, v22, .int n_409, v24, v25, v26, v27])), (e0, .inl (ec, 120, .inl ef))]) [3, 2] rfl
          have hKc := hK.sub (tys' := [(ec, .int)]) [0] rfl
          have hDc := hD.sub (ws' := [(h0, .inr (7, [v0, v1, v2, v3, v4, v5, v6, v7, v8, v9, .ref e0, .int ts, .int bg_266, .int en_267, .int so_268, .int va_269, .int 1, v17, .ref y0, .ref z0, .int im, .int sT, v22, .int n_409, v24, v25, v26, v27])), (e0, .inl (ec, 120, .inl ef))]) [3, 2] (by decide) rfl
          have hFc := va_free (wc := [(h0, .inr (7, [v0, v1, v2, v3, v4, v5, v6, v7, v8, v9, .ref e0, .int ts, .int bg_266, .int en_267, .int so_268, .int va_269, .int 1, v17, .ref y0, .ref z0, .int im, .int sT, v22, .int n_409, v24, v25, v26, v27])), (e0, .inl (ec, 120, .inl ef))]) hD hS hA [3, 2] rfl
          refine va_calli (va_runV (As := [.ref (ad 21), .int 1, .int 2]) (rest := []) ⟨hx, hb, hml, hown, hts⟩ (m_after l dC dI ad h0 21 1 2 v0 v1 v2 v3 v4 v5 v6 v7 v8 v9 e0 ts bg_266 en_267 so_268 va_269 1 v17 (.ref y0) (.ref z0) (.int im) (.int sT) v22 (.int n_409) v24 v25 v26 v27 ec ef H.size (by decide) htm hq_270 hq_271 hq_272) (cwV 3 hts g_m_readHold_m_after_270 rfl rfl rfl (by decide +kernel) ⟨(Nat.le_of_ble_eq_true rfl), (Nat.le_of_ble_eq_true rfl)⟩) ⟨preT_blind, va_recv hKc hPc (ci := 7) (q0 := 0) rfl rfl, fun U hU hW => ⟨rfl, preM_at hU hW hPc hKc hDc hev, sf_at hsf hS hFc hU hW⟩⟩ rfl rfl hl.1 rfl (lv_room (Nat.le_of_ble_eq_true rfl)) dX9_readHold_97 ⟨(Nat.le_of_ble_eq_true rfl), (Nat.le_of_ble_eq_true rfl)⟩) hS (fun q _ h => hFc q h) hFc (fun r_411 u t H1 locs ht hvm hw hB hz1 hk1 hS => ?_)
          obtain ⟨bg_412, en_413, so_414, va_415, iw_416, hq_417, hq_418, hq_419, hq_420, hq_421, hP1, hK1, hD1⟩ := hB
          rw [ht] at hP1
          have hK1 := va_K.moved hvm.symm hK1
          obtain ⟨hP, hD⟩ := va_join (wr := [(y0, .inl (yc, 360, .inl yf)), (z0, .inl (zc, 120, .inr (.inl gf)))]) (w1 := [(h0, .inr (7, [v0, v1, v2, v3, v4, v5, v6, v7, v8, v9, .ref e0, .int ts, .int bg_412, .int en_413, .int so_414, .int va_415, .int iw_416, v17, .ref y0, .ref z0, .int im, .int sT, v22, .int n_409, v24, v25, v26, v27])), (e0, .inl (ec, 120, .inl ef))]) hP hD [3, 2] [0, 1] rfl rfl (by decide) (by decide) hk1 hFc hP1 hD1
          generalize H1 = H at hP hS ⊢
          have hP : va_P (dC, dI) vwCl [(y0, .inl (yc, 360, .inl yf)), (z0, .inl (zc, 120, .inr (.inl gf))), (h0, .inr (7, [v0, v1, v2, v3, v4, v5, v6, v7, v8, v9, .ref e0, .int ts, .int bg_412, .int en_413, .int so_414, .int va_415, .int iw_416, v17, .ref y0, .ref z0, .int im, .int sT, v22, .int n_409, v24, v25, v26, v27])), (e0, .inl (ec, 120, .inl ef))] H := hP
          have hD : va_D A [(y0, .inl (yc, 360, .inl yf)), (z0, .inl (zc, 120, .inr (.inl gf))), (h0, .inr (7, [v0, v1, v2, v3, v4, v5, v6, v7, v8, v9, .ref e0, .int ts, .int bg_412, .int en_413, .int so_414, .int va_415, .int iw_416, v17, .ref y0, .ref z0, .int im, .int sT, v22, .int n_409, v24, v25, v26, v27])), (e0, .inl (ec, 120, .inl ef))] := hD
          have hq_421 : iw_416.toInt = 0 → (1 : Int) = 0 ∧ bg_266.toInt ≤ bg_412.toInt := hq_421
          have ch_422 : ¬ iw_416.toInt = 0 := by omega
          clear hq_270 hq_271 hq_272 hq_273
          refine lv_istore_n (lv' := [(2, .int r_411), (1, .int va_269), (0, .ref h0)]) hx hb dX9_readHold_100 rfl hl (by decide) rfl (fun ls hl => ?_)
          refine lv_aload_n hx hb dX9_readHold_101 rfl (lv_at hl 2 rfl) ?_
          refine va_ldcSw (tx := "turn") (q := ad 22) hx hb hown (ev_str hev 22 rfl) dX9_readHold_102 ?_
          refine lv_iconst (v := 0) hx hb dX9_readHold_105 (by decide) ?_
          refine lv_iconst (v := 3) hx hb dX9_readHold_106 (by decide) ?_
          have hPc := hP.sub (ws' := [(h0, .inr (7, [v0, v1, v2, v3, v4, v5, v6, v7, v8, v9, .ref e0, .int ts, .int bg_412, .int en_413, .int so_414, .int va_415, .int iw_416, v17, .ref y0, .ref z0, .int im, .int sT, v22, .int n_409, v24, v25, v26, v27])), (e0, .inl (ec, 120, .inl ef))]) [2, 3] rfl
          have hKc := hK.sub (tys' := [(ec, .int)]) [0] rfl
          have hDc := hD.sub (ws' := [(h0, .inr (7, [v0, v1, v2, v3, v4, v5, v6, v7, v8, v9, .ref e0, .int ts, .int bg_412, .int en_413, .int so_414, .int va_415, .int iw_416, v17, .ref y0, .ref z0, .int im, .int sT, v22, .int n_409, v24, v25, v26, v27])), (e0, .inl (ec, 120, .inl ef))]) [2, 3] (by decide) rfl
          have hFc := va_free (wc := [(h0, .inr (7, [v0, v1, v2, v3, v4, v5, v6, v7, v8, v9, .ref e0, .int ts, .int bg_412, .int en_413, .int so_414, .int va_415, .int iw_416, v17, .ref y0, .ref z0, .int im, .int sT, v22, .int n_409, v24, v25, v26, v27])), (e0, .inl (ec, 120, .inl ef))]) hD hS hA [2, 3] rfl
          refine va_calli (va_runV (As := [.ref (ad 22), .int 0, .int 3]) (rest := []) ⟨hx, hb, hml, hown, hts⟩ (m_after l dC dI ad h0 22 0 3 v0 v1 v2 v3 v4 v5 v6 v7 v8 v9 e0 ts bg_412 en_413 so_414 va_415 iw_416 v17 (.ref y0) (.ref z0) (.int im) (.int sT) v22 (.int n_409) v24 v25 v26 v27 ec ef H.size (by decide) htm hq_417 hq_418 hq_419) (cwV 3 hts g_m_readHold_m_after_270 rfl rfl rfl (by decide +kernel) ⟨(Nat.le_of_ble_eq_true rfl), (Nat.le_of_ble_eq_true rfl)⟩) ⟨preT_blind, va_recv hKc hPc (ci := 7) (q0 := 0) rfl rfl, fun U hU hW => ⟨rfl, preM_at hU hW hPc hKc hDc hev, sf_at hsf hS hFc hU hW⟩⟩ rfl rfl hl.1 rfl (lv_room (Nat.le_of_ble_eq_true rfl)) dX9_readHold_107 ⟨(Nat.le_of_ble_eq_true rfl), (Nat.le_of_ble_eq_true rfl)⟩) hS (fun q _ h => hFc q h) hFc (fun r_423 u t H1 locs ht hvm hw hB hz1 hk1 hS => ?_)
          obtain ⟨bg_424, en_425, so_426, va_427, iw_428, hq_429, hq_430, hq_431, hq_432, hq_433, hP1, hK1, hD1⟩ := hB
          rw [ht] at hP1
          have hK1 := va_K.moved hvm.symm hK1
          obtain ⟨hP, hD⟩ := va_join (wr := [(y0, .inl (yc, 360, .inl yf)), (z0, .inl (zc, 120, .inr (.inl gf)))]) (w1 := [(h0, .inr (7, [v0, v1, v2, v3, v4, v5, v6, v7, v8, v9, .ref e0, .int ts, .int bg_424, .int en_425, .int so_426, .int va_427, .int iw_428, v17, .ref y0, .ref z0, .int im, .int sT, v22, .int n_409, v24, v25, v26, v27])), (e0, .inl (ec, 120, .inl ef))]) hP hD [2, 3] [0, 1] rfl rfl (by decide) (by decide) hk1 hFc hP1 hD1
          generalize H1 = H at hP hS ⊢
          have hP : va_P (dC, dI) vwCl [(y0, .inl (yc, 360, .inl yf)), (z0, .inl (zc, 120, .inr (.inl gf))), (h0, .inr (7, [v0, v1, v2, v3, v4, v5, v6, v7, v8, v9, .ref e0, .int ts, .int bg_424, .int en_425, .int so_426, .int va_427, .int iw_428, v17, .ref y0, .ref z0, .int im, .int sT, v22, .int n_409, v24, v25, v26, v27])), (e0, .inl (ec, 120, .inl ef))] H := hP
          have hD : va_D A [(y0, .inl (yc, 360, .inl yf)), (z0, .inl (zc, 120, .inr (.inl gf))), (h0, .inr (7, [v0, v1, v2, v3, v4, v5, v6, v7, v8, v9, .ref e0, .int ts, .int bg_424, .int en_425, .int so_426, .int va_427, .int iw_428, v17, .ref y0, .ref z0, .int im, .int sT, v22, .int n_409, v24, v25, v26, v27])), (e0, .inl (ec, 120, .inl ef))] := hD
          have ch_434 : ¬ iw_428.toInt = 0 := by omega
          clear hq_417 hq_418 hq_419 hq_420 hq_421 ch_422
          refine lv_istore_n (lv' := [(3, .int r_423), (2, .int r_411), (1, .int va_269), (0, .ref h0)]) hx hb dX9_readHold_110 rfl hl (by decide) rfl (fun ls hl => ?_)
          refine lv_aload_n hx hb dX9_readHold_111 rfl (lv_at hl 3 rfl) ?_
          refine va_ldcSw (tx := "at") (q := ad 23) hx hb hown (ev_str hev 23 rfl) dX9_readHold_112 ?_
          refine lv_iconst (v := 0) hx hb dX9_readHold_115 (by decide) ?_
          refine lv_bipush (v := 7) hx hb dX9_readHold_116 (by decide) ?_
          have hPc := hP.sub (ws' := [(h0, .inr (7, [v0, v1, v2, v3, v4, v5, v6, v7, v8, v9, .ref e0, .int ts, .int bg_424, .int en_425, .int so_426, .int va_427, .int iw_428, v17, .ref y0, .ref z0, .int im, .int sT, v22, .int n_409, v24, v25, v26, v27])), (e0, .inl (ec, 120, .inl ef))]) [2, 3] rfl
          have hKc := hK.sub (tys' := [(ec, .int)]) [0] rfl
          have hDc := hD.sub (ws' := [(h0, .inr (7, [v0, v1, v2, v3, v4, v5, v6, v7, v8, v9, .ref e0, .int ts, .int bg_424, .int en_425, .int so_426, .int va_427, .int iw_428, v17, .ref y0, .ref z0, .int im, .int sT, v22, .int n_409, v24, v25, v26, v27])), (e0, .inl (ec, 120, .inl ef))]) [2, 3] (by decide) rfl
          have hFc := va_free (wc := [(h0, .inr (7, [v0, v1, v2, v3, v4, v5, v6, v7, v8, v9, .ref e0, .int ts, .int bg_424, .int en_425, .int so_426, .int va_427, .int iw_428, v17, .ref y0, .ref z0, .int im, .int sT, v22, .int n_409, v24, v25, v26, v27])), (e0, .inl (ec, 120, .inl ef))]) hD hS hA [2, 3] rfl
          refine va_calli (va_runV (As := [.ref (ad 23), .int 0, .int 7]) (rest := []) ⟨hx, hb, hml, hown, hts⟩ (m_after l dC dI ad h0 23 0 7 v0 v1 v2 v3 v4 v5 v6 v7 v8 v9 e0 ts bg_424 en_425 so_426 va_427 iw_428 v17 (.ref y0) (.ref z0) (.int im) (.int sT) v22 (.int n_409) v24 v25 v26 v27 ec ef H.size (by decide) htm hq_429 hq_430 hq_431) (cwV 3 hts g_m_readHold_m_after_270 rfl rfl rfl (by decide +kernel) ⟨(Nat.le_of_ble_eq_true rfl), (Nat.le_of_ble_eq_true rfl)⟩) ⟨preT_blind, va_recv hKc hPc (ci := 7) (q0 := 0) rfl rfl, fun U hU hW => ⟨rfl, preM_at hU hW hPc hKc hDc hev, sf_at hsf hS hFc hU hW⟩⟩ rfl rfl hl.1 rfl (lv_room (Nat.le_of_ble_eq_true rfl)) dX9_readHold_118 ⟨(Nat.le_of_ble_eq_true rfl), (Nat.le_of_ble_eq_true rfl)⟩) hS (fun q _ h => hFc q h) hFc (fun r_435 u t H1 locs ht hvm hw hB hz1 hk1 hS => ?_)
          obtain ⟨bg_436, en_437, so_438, va_439, iw_440, hq_441, hq_442, hq_443, hq_444, hq_445, hP1, hK1, hD1⟩ := hB
          rw [ht] at hP1
          have hK1 := va_K.moved hvm.symm hK1
          obtain ⟨hP, hD⟩ := va_join (wr := [(y0, .inl (yc, 360, .inl yf)), (z0, .inl (zc, 120, .inr (.inl gf)))]) (w1 := [(h0, .inr (7, [v0, v1, v2, v3, v4, v5, v6, v7, v8, v9, .ref e0, .int ts, .int bg_436, .int en_437, .int so_438, .int va_439, .int iw_440, v17, .ref y0, .ref z0, .int im, .int sT, v22, .int n_409, v24, v25, v26, v27])), (e0, .inl (ec, 120, .inl ef))]) hP hD [2, 3] [0, 1] rfl rfl (by decide) (by decide) hk1 hFc hP1 hD1
          generalize H1 = H at hP hS ⊢
          have hP : va_P (dC, dI) vwCl [(y0, .inl (yc, 360, .inl yf)), (z0, .inl (zc, 120, .inr (.inl gf))), (h0, .inr (7, [v0, v1, v2, v3, v4, v5, v6, v7, v8, v9, .ref e0, .int ts, .int bg_436, .int en_437, .int so_438, .int va_439, .int iw_440, v17, .ref y0, .ref z0, .int im, .int sT, v22, .int n_409, v24, v25, v26, v27])), (e0, .inl (ec, 120, .inl ef))] H := hP
          have hD : va_D A [(y0, .inl (yc, 360, .inl yf)), (z0, .inl (zc, 120, .inr (.inl gf))), (h0, .inr (7, [v0, v1, v2, v3, v4, v5, v6, v7, v8, v9, .ref e0, .int ts, .int bg_436, .int en_437, .int so_438, .int va_439, .int iw_440, v17, .ref y0, .ref z0, .int im, .int sT, v22, .int n_409, v24, v25, v26, v27])), (e0, .inl (ec, 120, .inl ef))] := hD
          have ch_446 : ¬ iw_440.toInt = 0 := by omega
          clear hq_429 hq_430 hq_431 hq_432 hq_433 ch_434
          refine lv_istore (lv' := [(4, .int r_435), (3, .int r_423), (2, .int r_411), (1, .int va_269), (0, .ref h0)]) hx hb dX9_readHold_121 hl (by decide) rfl (fun ls hl => ?_)
          refine lv_aload_n hx hb dX9_readHold_123 rfl (lv_at hl 4 rfl) ?_
          refine lv_bipush (v := 11) hx hb dX9_readHold_124 (by decide) ?_
          refine lv_iload_n hx hb dX9_readHold_126 rfl (lv_at hl 3 rfl) ?_
          refine lv_sipush (v := 1000) hx hb dX9_readHold_127 (by decide) ?_
          refine lv_iconst (v := 4) hx hb dX9_readHold_130 (by decide) ?_
          refine lv_iload_n hx hb dX9_readHold_131 rfl (lv_at hl 2 rfl) ?_
          refine lv_imul hx hb dX9_readHold_132 ?_
          refine lv_topi (fun n_447 en_447 => ?_)
          refine lv_iload_n hx hb dX9_readHold_133 rfl (lv_at hl 1 rfl) ?_
          refine lv_iadd hx hb dX9_readHold_134 ?_
          refine lv_topi (fun n_448 en_448 => ?_)
          refine lv_imul hx hb dX9_readHold_135 ?_
          refine lv_topi (fun n_449 en_449 => ?_)
          refine lv_bipush (v := 10) hx hb dX9_readHold_136 (by decide) ?_
          refine lv_iload hx hb dX9_readHold_138 (lv_at hl 0 rfl) ?_
          refine lv_imul hx hb dX9_readHold_140 ?_
          refine lv_topi (fun n_450 en_450 => ?_)
          refine lv_iadd hx hb dX9_readHold_141 ?_
          refine lv_topi (fun n_451 en_451 => ?_)
          refine lv_aload_n hx hb dX9_readHold_142 rfl (lv_at hl 4 rfl) ?_
          refine lv_iconst (v := 0) hx hb dX9_readHold_143 (by decide) ?_
          refine lv_bipush (v := 7) hx hb dX9_readHold_144 (by decide) ?_
          have hPc := hP.sub (ws' := [(h0, .inr (7, [v0, v1, v2, v3, v4, v5, v6, v7, v8, v9, .ref e0, .int ts, .int bg_436, .int en_437, .int so_438, .int va_439, .int iw_440, v17, .ref y0, .ref z0, .int im, .int sT, v22, .int n_409, v24, v25, v26, v27])), (e0, .inl (ec, 120, .inl ef))]) [2, 3] rfl
          have hKc := hK.sub (tys' := [(ec, .int)]) [0] rfl
          have hDc := hD.sub (ws' := [(h0, .inr (7, [v0, v1, v2, v3, v4, v5, v6, v7, v8, v9, .ref e0, .int ts, .int bg_436, .int en_437, .int so_438, .int va_439, .int iw_440, v17, .ref y0, .ref z0, .int im, .int sT, v22, .int n_409, v24, v25, v26, v27])), (e0, .inl (ec, 120, .inl ef))]) [2, 3] (by decide) rfl
          have hFc := va_free (wc := [(h0, .inr (7, [v0, v1, v2, v3, v4, v5, v6, v7, v8, v9, .ref e0, .int ts, .int bg_436, .int en_437, .int so_438, .int va_439, .int iw_440, v17, .ref y0, .ref z0, .int im, .int sT, v22, .int n_409, v24, v25, v26, v27])), (e0, .inl (ec, 120, .inl ef))]) hD hS hA [2, 3] rfl
          refine va_calli (va_runV (As := [.int 0, .int 7]) (rest := [.int n_451, .int va_269, .int 11, .ref h0]) ⟨hx, hb, hml, hown, hts⟩ (m_number l dC dI ad h0 0 7 v0 v1 v2 v3 v4 v5 v6 v7 v8 v9 e0 ts bg_436 en_437 so_438 va_439 iw_440 v17 (.ref y0) (.ref z0) (.int im) (.int sT) v22 (.int n_409) v24 v25 v26 v27 ec ef H.size htm hq_441 hq_442 hq_443) (cwV 2 hts g_m_readHold_m_number_235 rfl rfl rfl (by decide +kernel) ⟨(Nat.le_of_ble_eq_true rfl), (Nat.le_of_ble_eq_true rfl)⟩) ⟨preM_blind, va_recv hKc hPc (ci := 7) (q0 := 0) rfl rfl, fun U hU hW => ⟨rfl, preM_at hU hW hPc hKc hDc hev⟩⟩ rfl rfl hl.1 rfl (lv_room (Nat.le_of_ble_eq_true rfl)) dX9_readHold_146 ⟨(Nat.le_of_ble_eq_true rfl), (Nat.le_of_ble_eq_true rfl)⟩) hS (fun q _ h => hFc q h) hFc (fun r_452 u t H1 locs ht hvm hw hB hz1 hk1 hS => ?_)
          obtain ⟨bg_453, en_454, so_455, va_456, iw_457, hq_458, hq_459, hq_460, hq_461, hq_462, hP1, hK1, hD1⟩ := hB
          rw [ht] at hP1
          have hK1 := va_K.moved hvm.symm hK1
          obtain ⟨hP, hD⟩ := va_join (wr := [(y0, .inl (yc, 360, .inl yf)), (z0, .inl (zc, 120, .inr (.inl gf)))]) (w1 := [(h0, .inr (7, [v0, v1, v2, v3, v4, v5, v6, v7, v8, v9, .ref e0, .int ts, .int bg_453, .int en_454, .int so_455, .int va_456, .int iw_457, v17, .ref y0, .ref z0, .int im, .int sT, v22, .int n_409, v24, v25, v26, v27])), (e0, .inl (ec, 120, .inl ef))]) hP hD [2, 3] [0, 1] rfl rfl (by decide) (by decide) hk1 hFc hP1 hD1
          generalize H1 = H at hP hS ⊢
          have hP : va_P (dC, dI) vwCl [(y0, .inl (yc, 360, .inl yf)), (z0, .inl (zc, 120, .inr (.inl gf))), (h0, .inr (7, [v0, v1, v2, v3, v4, v5, v6, v7, v8, v9, .ref e0, .int ts, .int bg_453, .int en_454, .int so_455, .int va_456, .int iw_457, v17, .ref y0, .ref z0, .int im, .int sT, v22, .int n_409, v24, v25, v26, v27])), (e0, .inl (ec, 120, .inl ef))] H := hP
          have hD : va_D A [(y0, .inl (yc, 360, .inl yf)), (z0, .inl (zc, 120, .inr (.inl gf))), (h0, .inr (7, [v0, v1, v2, v3, v4, v5, v6, v7, v8, v9, .ref e0, .int ts, .int bg_453, .int en_454, .int so_455, .int va_456, .int iw_457, v17, .ref y0, .ref z0, .int im, .int sT, v22, .int n_409, v24, v25, v26, v27])), (e0, .inl (ec, 120, .inl ef))] := hD
          have hr_452 : r_452.toInt = va_439.toInt := hw
          have hq_462 : iw_457.toInt = 0 → iw_440.toInt = 0 ∧ (0 : Int) ≤ va_439.toInt ∧ va_439.toInt ≤ (7 : Int) ∧ en_437.toInt ≤ bg_453.toInt := hq_462
          have ch_463 : ¬ iw_457.toInt = 0 := by omega
          clear hq_441 hq_442 hq_443 hq_444 hq_445 ch_446
          refine lv_iadd hx hb dX9_readHold_149 ?_
          refine lv_topi (fun n_464 en_464 => ?_)
          refine lv_lconst (v := 0) hx hb dX9_readHold_150 (by decide) ?_
          have hPc := hP.sub (ws' := [(h0, .inr (7, [v0, v1, v2, v3, v4, v5, v6, v7, v8, v9, .ref e0, .int ts, .int bg_453, .int en_454, .int so_455, .int va_456, .int iw_457, v17, .ref y0, .ref z0, .int im, .int sT, v22, .int n_409, v24, v25, v26, v27])), (y0, .inl (yc, 360, .inl yf)), (z0, .inl (zc, 120, .inr (.inl gf)))]) [2, 0, 1] rfl
          have hKc := hK.sub (tys' := [(yc, .int), (zc, .long)]) [1, 2] rfl
          have hDc := hD.sub (ws' := [(h0, .inr (7, [v0, v1, v2, v3, v4, v5, v6, v7, v8, v9, .ref e0, .int ts, .int bg_453, .int en_454, .int so_455, .int va_456, .int iw_457, v17, .ref y0, .ref z0, .int im, .int sT, v22, .int n_409, v24, v25, v26, v27])), (y0, .inl (yc, 360, .inl yf)), (z0, .inl (zc, 120, .inr (.inl gf)))]) [2, 0, 1] (by decide) rfl
          have hFc := va_free (wc := [(h0, .inr (7, [v0, v1, v2, v3, v4, v5, v6, v7, v8, v9, .ref e0, .int ts, .int bg_453, .int en_454, .int so_455, .int va_456, .int iw_457, v17, .ref y0, .ref z0, .int im, .int sT, v22, .int n_409, v24, v25, v26, v27])), (y0, .inl (yc, 360, .inl yf)), (z0, .inl (zc, 120, .inr (.inl gf)))]) hD hS hA [2, 0, 1] rfl
          refine va_callv (va_runV (As := [.int 11, .int va_269, .int n_464, .long 0]) (rest := []) ⟨hx, hb, hml, hown, hts⟩ (m_item l dC dI ad h0 11 va_269 n_464 0 v0 v1 v2 v3 v4 v5 v6 v7 v8 v9 (.ref e0) (.int ts) (.int bg_453) (.int en_454) (.int so_455) (.int va_456) (.int iw_457) v17 y0 z0 im (.int sT) v22 (.int n_409) v24 v25 v26 v27 yc yf zc gf H.size him) (cwV 4 hts g_m_readHold_m_item_247 rfl rfl rfl (by decide +kernel) ⟨(Nat.le_of_ble_eq_true rfl), (Nat.le_of_ble_eq_true rfl)⟩) ⟨preM_blind, va_recv hKc hPc (ci := 7) (q0 := 0) rfl rfl, fun U hU hW => ⟨rfl, preM_at hU hW hPc hKc hDc hev⟩⟩ rfl rfl hl.1 rfl (lv_room (Nat.le_of_ble_eq_true rfl)) dX9_readHold_151 ⟨(Nat.le_of_ble_eq_true rfl), (Nat.le_of_ble_eq_true rfl)⟩) hS (fun q _ h => hFc q h) hFc (fun u t H1 locs ht hvm hw hB hz1 hk1 hS => ?_)
          obtain ⟨im_466, yg_467, gg_468, hq_469, hq_470, hP1, hK1, hD1⟩ := hB
          rw [ht] at hP1
          have hK1 := va_K.moved hvm.symm hK1
          obtain ⟨hP, hD⟩ := va_join (wr := [(e0, .inl (ec, 120, .inl ef))]) (w1 := [(h0, .inr (7, [v0, v1, v2, v3, v4, v5, v6, v7, v8, v9, .ref e0, .int ts, .int bg_453, .int en_454, .int so_455, .int va_456, .int iw_457, v17, .ref y0, .ref z0, .int im_466, .int sT, v22, .int n_409, v24, v25, v26, v27])), (y0, .inl (yc, 360, .inl yg_467)), (z0, .inl (zc, 120, .inr (.inl gg_468)))]) hP hD [2, 0, 1] [3] rfl rfl (by decide) (by decide) hk1 hFc hP1 hD1
          generalize H1 = H at hP hS ⊢
          have hP : va_P (dC, dI) vwCl [(e0, .inl (ec, 120, .inl ef)), (h0, .inr (7, [v0, v1, v2, v3, v4, v5, v6, v7, v8, v9, .ref e0, .int ts, .int bg_453, .int en_454, .int so_455, .int va_456, .int iw_457, v17, .ref y0, .ref z0, .int im_466, .int sT, v22, .int n_409, v24, v25, v26, v27])), (y0, .inl (yc, 360, .inl yg_467)), (z0, .inl (zc, 120, .inr (.inl gg_468)))] H := hP
          have hD : va_D A [(e0, .inl (ec, 120, .inl ef)), (h0, .inr (7, [v0, v1, v2, v3, v4, v5, v6, v7, v8, v9, .ref e0, .int ts, .int bg_453, .int en_454, .int so_455, .int va_456, .int iw_457, v17, .ref y0, .ref z0, .int im_466, .int sT, v22, .int n_409, v24, v25, v26, v27])), (y0, .inl (yc, 360, .inl yg_467)), (z0, .inl (zc, 120, .inr (.inl gg_468)))] := hD
          have hP9 := hP.sub (ws' := [(h0, .inr (7, [v0, v1, v2, v3, v4, v5, v6, v7, v8, v9, .ref e0, .int ts, .int bg_453, .int en_454, .int so_455, .int va_456, .int iw_457, v17, .ref y0, .ref z0, .int im_466, .int sT, v22, .int n_409, v24, v25, v26, v27])), (e0, .inl (ec, 120, .inl ef)), (y0, .inl (yc, 360, .inl yg_467)), (z0, .inl (zc, 120, .inr (.inl gg_468)))]) [1, 0, 2, 3] rfl
          have hD9 := hD.sub (ws' := [(h0, .inr (7, [v0, v1, v2, v3, v4, v5, v6, v7, v8, v9, .ref e0, .int ts, .int bg_453, .int en_454, .int so_455, .int va_456, .int iw_457, v17, .ref y0, .ref z0, .int im_466, .int sT, v22, .int n_409, v24, v25, v26, v27])), (e0, .inl (ec, 120, .inl ef)), (y0, .inl (yc, 360, .inl yg_467)), (z0, .inl (zc, 120, .inr (.inl gg_468)))]) [1, 0, 2, 3] (by decide) rfl
          have hK9 := hK.sub (tys' := [(ec, .int), (yc, .int), (zc, .long)]) [0, 1, 2] rfl
          exact W.vret hx hb hr (fun t ht hW => ⟨⟨(), rfl, trivial, bg_453, en_454, so_455, va_456, iw_457, n_409, im_466, yg_467, gg_468, hq_458, hq_459, hq_460, hq_461, (by first | omega | decide | (simp only [fa_lt, fa_le, fa_eq, and_true, true_and, and_false, false_and, not_true_eq_false, not_false_eq_true, li_0, li_1, li_2, li_3, li_4, li_5, li_6, li_7, li_8, li_9, li_10, li_12, li_15, li_16, li_20, li_30, li_34, li_38, li_40, li_63, li_64, li_65, li_78, li_120, li_1000, li_4000, li_10000, li_11077, li_255, li_65535, li_m1, li_m2, li_m1000000001, li_m1000000002, li_m1000000003, li_m1000000004, li_m1000000005, li_m1000000006, li_m1000000007, or_true, true_or, or_false, false_or, implies_true, true_implies, false_implies] <;> omega)), hq_469, (fun hz cc => absurd hz (by first | omega | decide)), by rw [ht]; exact hP9, va_K.moved hW.alike hK9, hD9⟩, hS.F ht⟩) hS.2.2 dX9_readHold_154
        · skip
          have tc_407 : n_406.toInt = 0 := (fa_eq _ _).mp c_407
          refine lv_iconst (v := 1) hx hb dX9_readHold_60 (by decide) ?_
          refine lv_goto (tgt := 65) hx hb dX9_readHold_61 (by decide) ?_
          have hPc := hP.sub (ws' := [(h0, .inr (7, [v0, v1, v2, v3, v4, v5, v6, v7, v8, v9, .ref e0, .int ts, .int bg_266, .int en_267, .int so_268, .int va_269, .int 0, v17, .ref y0, .ref z0, .int im, .int sT, v22, .int hT, v24, v25, v26, v27])), (e0, .inl (ec, 120, .inl ef))]) [2, 3] rfl
          have hKc := hK.sub (tys' := [(ec, .int)]) [0] rfl
          have hDc := hD.sub (ws' := [(h0, .inr (7, [v0, v1, v2, v3, v4, v5, v6, v7, v8, v9, .ref e0, .int ts, .int bg_266, .int en_267, .int so_268, .int va_269, .int 0, v17, .ref y0, .ref z0, .int im, .int sT, v22, .int hT, v24, v25, v26, v27])), (e0, .inl (ec, 120, .inl ef))]) [2, 3] (by decide) rfl
          have hFc := va_free (wc := [(h0, .inr (7, [v0, v1, v2, v3, v4, v5, v6, v7, v8, v9, .ref e0, .int ts, .int bg_266, .int en_267, .int so_268, .int va_269, .int 0, v17, .ref y0, .ref z0, .int im, .int sT, v22, .int hT, v24, v25, v26, v27])), (e0, .inl (ec, 120, .inl ef))]) hD hS hA [2, 3] rfl
          refine va_callv (va_runV (As := [.int 1]) (rest := []) ⟨hx, hb, hml, hown, hts⟩ (m_must1 l dC dI ad h0 v0 v1 v2 v3 v4 v5 v6 v7 v8 v9 e0 ts bg_266 en_267 so_268 va_269 v17 (.ref y0) (.ref z0) (.int im) (.int sT) v22 (.int hT) v24 v25 v26 v27 ec ef H.size htm hq_270 hq_271 hq_272) (cwV 1 hts g_m_readHold_m_must1_224 rfl rfl rfl (by decide +kernel) ⟨(Nat.le_of_ble_eq_true rfl), (Nat.le_of_ble_eq_true rfl)⟩) ⟨preM_blind, va_recv hKc hPc (ci := 7) (q0 := 0) rfl rfl, fun U hU hW => ⟨rfl, preM_at hU hW hPc hKc hDc hev⟩⟩ rfl rfl hl.1 rfl (lv_room (Nat.le_of_ble_eq_true rfl)) dX9_readHold_65 ⟨(Nat.le_of_ble_eq_true rfl), (Nat.le_of_ble_eq_true rfl)⟩) hS (fun q _ h => hFc q h) hFc (fun u t H1 locs ht hvm hw hB hz1 hk1 hS => ?_)
          obtain ⟨bg_472, en_473, so_474, va_475, hq_476, hq_477, hq_478, hq_479, hP1, hK1, hD1⟩ := hB
          rw [ht] at hP1
          have hK1 := va_K.moved hvm.symm hK1
          obtain ⟨hP, hD⟩ := va_join (wr := [(y0, .inl (yc, 360, .inl yf)), (z0, .inl (zc, 120, .inr (.inl gf)))]) (w1 := [(h0, .inr (7, [v0, v1, v2, v3, v4, v5, v6, v7, v8, v9, .ref e0, .int ts, .int bg_472, .int en_473, .int so_474, .int va_475, .int 0, v17, .ref y0, .ref z0, .int im, .int sT, v22, .int hT, v24, v25, v26, v27])), (e0, .inl (ec, 120, .inl ef))]) hP hD [2, 3] [0, 1] rfl rfl (by decide) (by decide) hk1 hFc hP1 hD1
          generalize H1 = H at hP hS ⊢
          have hP : va_P (dC, dI) vwCl [(y0, .inl (yc, 360, .inl yf)), (z0, .inl (zc, 120, .inr (.inl gf))), (h0, .inr (7, [v0, v1, v2, v3, v4, v5, v6, v7, v8, v9, .ref e0, .int ts, .int bg_472, .int en_473, .int so_474, .int va_475, .int 0, v17, .ref y0, .ref z0, .int im, .int sT, v22, .int hT, v24, v25, v26, v27])), (e0, .inl (ec, 120, .inl ef))] H := hP
          have hD : va_D A [(y0, .inl (yc, 360, .inl yf)), (z0, .inl (zc, 120, .inr (.inl gf))), (h0, .inr (7, [v0, v1, v2, v3, v4, v5, v6, v7, v8, v9, .ref e0, .int ts, .int bg_472, .int en_473, .int so_474, .int va_475, .int 0, v17, .ref y0, .ref z0, .int im, .int sT, v22, .int hT, v24, v25, v26, v27])), (e0, .inl (ec, 120, .inl ef))] := hD
          refine lv_aload_n hx hb dX9_readHold_68 rfl (lv_at hl 1 rfl) ?_
          refine lv_dup hx hb dX9_readHold_69 rfl ?_
          refine va_get (D := (dC, dI)) (ci := 7) (v := .int hT) (C := RX9) (T := TX9) (N := 28) hx hb hts inX9 hown hK hP 2 rfl rfl 23 (by decide) (hts _ (List.mem_of_getElem? (i := 1) rfl)) (fun _ h9 => h9) rfl dX9_readHold_70 ?_
          refine lv_aload_n hx hb dX9_readHold_73 rfl (lv_at hl 1 rfl) ?_
          refine va_get (D := (dC, dI)) (ci := 7) (v := .int 0) (C := RX9) (T := TX9) (N := 28) hx hb hts inX9 hown hK hP 2 rfl rfl 16 (by decide) (hts _ (List.mem_of_getElem? (i := 10) rfl)) (fun _ h9 => h9) rfl dX9_readHold_74 ?_
          refine lv_if_eq (tgt := 84) hx hb dX9_readHold_77 (by decide) (fun _ => ?_) (fun c => absurd (by decide) c)
          refine lv_iconst (v := 1) hx hb dX9_readHold_84 (by decide) ?_
          refine lv_iload_n hx hb dX9_readHold_85 rfl (lv_at hl 0 rfl) ?_
          refine lv_ishl hx hb dX9_readHold_86 ?_
          refine lv_topi (fun n_480 en_480 => ?_)
          refine lv_ior hx hb dX9_readHold_87 ?_
          refine lv_topi (fun n_481 en_481 => ?_)
          have tmn_481 := mk_set en_480 en_481 (by omega) (by omega) (by omega) (by omega)
          refine va_put (D := (dC, dI)) (ci := 7) (v := .int n_481) (ty := .int) (C := RX9) (T := TX9) (N := 28) hx hb hts inX9 tyX9 tyX9_ok nmX9 hown hK hP hD hS 2 rfl rfl 23 (by decide) (hts _ (List.mem_of_getElem? (i := 1) rfl)) (fun _ h9 => h9) rfl (by decide +kernel) rfl rfl (Nat.le_of_ble_eq_true rfl) dX9_readHold_88 (fun H locs hP hD hS => ?_)
          have hP : va_P (dC, dI) vwCl [(y0, .inl (yc, 360, .inl yf)), (z0, .inl (zc, 120, .inr (.inl gf))), (h0, .inr (7, [v0, v1, v2, v3, v4, v5, v6, v7, v8, v9, .ref e0, .int ts, .int bg_472, .int en_473, .int so_474, .int va_475, .int 0, v17, .ref y0, .ref z0, .int im, .int sT, v22, .int n_481, v24, v25, v26, v27])), (e0, .inl (ec, 120, .inl ef))] H := hP
          have hD : va_D A [(y0, .inl (yc, 360, .inl yf)), (z0, .inl (zc, 120, .inr (.inl gf))), (h0, .inr (7, [v0, v1, v2, v3, v4, v5, v6, v7, v8, v9, .ref e0, .int ts, .int bg_472, .int en_473, .int so_474, .int va_475, .int 0, v17, .ref y0, .ref z0, .int im, .int sT, v22, .int n_481, v24, v25, v26, v27])), (e0, .inl (ec, 120, .inl ef))] := hD
          have ch_482 : en.toInt ≤ bg_472.toInt := by omega
          clear hso
          refine lv_aload_n hx hb dX9_readHold_91 rfl (lv_at hl 1 rfl) ?_
          refine va_ldcSw (tx := "near") (q := ad 21) hx hb hown (ev_str hev 21 rfl) dX9_readHold_92 ?_
          refine lv_iconst (v := 1) hx hb dX9_readHold_95 (by decide) ?_
          refine lv_iconst (v := 2) hx hb dX9_readHold_96 (by decide) ?_
          have hPc := hP.sub (ws' := [(h0, .inr (7, [v0, v1, v2, v3, v4, v5, v6, v7, v8, v9, .ref e0, .int ts, .int bg_472, .int en_473, .int so_474, .int va_475, .int 0, v17, .ref y0, .ref z0, .int im, .int sT, v22, .int n_481, v24, v25, v26, v27])), (e0, .inl (ec, 120, .inl ef))]) [2, 3] rfl
          have hKc := hK.sub (tys' := [(ec, .int)]) [0] rfl
          have hDc := hD.sub (ws' := [(h0, .inr (7, [v0, v1, v2, v3, v4, v5, v6, v7, v8, v9, .ref e0, .int ts, .int bg_472, .int en_473, .int so_474, .int va_475, .int 0, v17, .ref y0, .ref z0, .int im, .int sT, v22, .int n_481, v24, v25, v26, v27])), (e0, .inl (ec, 120, .inl ef))]) [2, 3] (by decide) rfl
          have hFc := va_free (wc := [(h0, .inr (7, [v0, v1, v2, v3, v4, v5, v6, v7, v8, v9, .ref e0, .int ts, .int bg_472, .int en_473, .int so_474, .int va_475, .int 0, v17, .ref y0, .ref z0, .int im, .int sT, v22, .int n_481, v24, v25, v26, v27])), (e0, .inl (ec, 120, .inl ef))]) hD hS hA [2, 3] rfl
          refine va_calli (va_runV (As := [.ref (ad 21), .int 1, .int 2]) (rest := []) ⟨hx, hb, hml, hown, hts⟩ (m_after l dC dI ad h0 21 1 2 v0 v1 v2 v3 v4 v5 v6 v7 v8 v9 e0 ts bg_472 en_473 so_474 va_475 0 v17 (.ref y0) (.ref z0) (.int im) (.int sT) v22 (.int n_481) v24 v25 v26 v27 ec ef H.size (by decide) htm hq_476 hq_477 hq_478) (cwV 3 hts g_m_readHold_m_after_270 rfl rfl rfl (by decide +kernel) ⟨(Nat.le_of_ble_eq_true rfl), (Nat.le_of_ble_eq_true rfl)⟩) ⟨preT_blind, va_recv hKc hPc (ci := 7) (q0 := 0) rfl rfl, fun U hU hW => ⟨rfl, preM_at hU hW hPc hKc hDc hev, sf_at hsf hS hFc hU hW⟩⟩ rfl rfl hl.1 rfl (lv_room (Nat.le_of_ble_eq_true rfl)) dX9_readHold_97 ⟨(Nat.le_of_ble_eq_true rfl), (Nat.le_of_ble_eq_true rfl)⟩) hS (fun q _ h => hFc q h) hFc (fun r_483 u t H1 locs ht hvm hw hB hz1 hk1 hS => ?_)
          obtain ⟨bg_484, en_485, so_486, va_487, iw_488, hq_489, hq_490, hq_491, hq_492, hq_493, hP1, hK1, hD1⟩ := hB
          rw [ht] at hP1
          have hK1 := va_K.moved hvm.symm hK1
          obtain ⟨hP, hD⟩ := va_join (wr := [(y0, .inl (yc, 360, .inl yf)), (z0, .inl (zc, 120, .inr (.inl gf)))]) (w1 := [(h0, .inr (7, [v0, v1, v2, v3, v4, v5, v6, v7, v8, v9, .ref e0, .int ts, .int bg_484, .int en_485, .int so_486, .int va_487, .int iw_488, v17, .ref y0, .ref z0, .int im, .int sT, v22, .int n_481, v24, v25, v26, v27])), (e0, .inl (ec, 120, .inl ef))]) hP hD [2, 3] [0, 1] rfl rfl (by decide) (by decide) hk1 hFc hP1 hD1
          generalize H1 = H at hP hS ⊢
          have hP : va_P (dC, dI) vwCl [(y0, .inl (yc, 360, .inl yf)), (z0, .inl (zc, 120, .inr (.inl gf))), (h0, .inr (7, [v0, v1, v2, v3, v4, v5, v6, v7, v8, v9, .ref e0, .int ts, .int bg_484, .int en_485, .int so_486, .int va_487, .int iw_488, v17, .ref y0, .ref z0, .int im, .int sT, v22, .int n_481, v24, v25, v26, v27])), (e0, .inl (ec, 120, .inl ef))] H := hP
          have hD : va_D A [(y0, .inl (yc, 360, .inl yf)), (z0, .inl (zc, 120, .inr (.inl gf))), (h0, .inr (7, [v0, v1, v2, v3, v4, v5, v6, v7, v8, v9, .ref e0, .int ts, .int bg_484, .int en_485, .int so_486, .int va_487, .int iw_488, v17, .ref y0, .ref z0, .int im, .int sT, v22, .int n_481, v24, v25, v26, v27])), (e0, .inl (ec, 120, .inl ef))] := hD
          have hq_493 : iw_488.toInt = 0 → (0 : Int) = 0 ∧ bg_472.toInt ≤ bg_484.toInt := hq_493
          have ch_494 : iw_488.toInt = 0 → en.toInt ≤ bg_484.toInt := by omega
          clear hq_270 hq_271 hq_272 hq_273 hq_476 hq_477 hq_478 hq_479 ch_482
          refine lv_istore_n (lv' := [(2, .int r_483), (1, .int va_269), (0, .ref h0)]) hx hb dX9_readHold_100 rfl hl (by decide) rfl (fun ls hl => ?_)
          refine lv_aload_n hx hb dX9_readHold_101 rfl (lv_at hl 2 rfl) ?_
          refine va_ldcSw (tx := "turn") (q := ad 22) hx hb hown (ev_str hev 22 rfl) dX9_readHold_102 ?_
          refine lv_iconst (v := 0) hx hb dX9_readHold_105 (by decide) ?_
          refine lv_iconst (v := 3) hx hb dX9_readHold_106 (by decide) ?_
          have hPc := hP.sub (ws' := [(h0, .inr (7, [v0, v1, v2, v3, v4, v5, v6, v7, v8, v9, .ref e0, .int ts, .int bg_484, .int en_485, .int so_486, .int va_487, .int iw_488, v17, .ref y0, .ref z0, .int im, .int sT, v22, .int n_481, v24, v25, v26, v27])), (e0, .inl (ec, 120, .inl ef))]) [2, 3] rfl
          have hKc := hK.sub (tys' := [(ec, .int)]) [0] rfl
          have hDc := hD.sub (ws' := [(h0, .inr (7, [v0, v1, v2, v3, v4, v5, v6, v7, v8, v9, .ref e0, .int ts, .int bg_484, .int en_485, .int so_486, .int va_487, .int iw_488, v17, .ref y0, .ref z0, .int im, .int sT, v22, .int n_481, v24, v25, v26, v27])), (e0, .inl (ec, 120, .inl ef))]) [2, 3] (by decide) rfl
          have hFc := va_free (wc := [(h0, .inr (7, [v0, v1, v2, v3, v4, v5, v6, v7, v8, v9, .ref e0, .int ts, .int bg_484, .int en_485, .int so_486, .int va_487, .int iw_488, v17, .ref y0, .ref z0, .int im, .int sT, v22, .int n_481, v24, v25, v26, v27])), (e0, .inl (ec, 120, .inl ef))]) hD hS hA [2, 3] rfl
          refine va_calli (va_runV (As := [.ref (ad 22), .int 0, .int 3]) (rest := []) ⟨hx, hb, hml, hown, hts⟩ (m_after l dC dI ad h0 22 0 3 v0 v1 v2 v3 v4 v5 v6 v7 v8 v9 e0 ts bg_484 en_485 so_486 va_487 iw_488 v17 (.ref y0) (.ref z0) (.int im) (.int sT) v22 (.int n_481) v24 v25 v26 v27 ec ef H.size (by decide) htm hq_489 hq_490 hq_491) (cwV 3 hts g_m_readHold_m_after_270 rfl rfl rfl (by decide +kernel) ⟨(Nat.le_of_ble_eq_true rfl), (Nat.le_of_ble_eq_true rfl)⟩) ⟨preT_blind, va_recv hKc hPc (ci := 7) (q0 := 0) rfl rfl, fun U hU hW => ⟨rfl, preM_at hU hW hPc hKc hDc hev, sf_at hsf hS hFc hU hW⟩⟩ rfl rfl hl.1 rfl (lv_room (Nat.le_of_ble_eq_true rfl)) dX9_readHold_107 ⟨(Nat.le_of_ble_eq_true rfl), (Nat.le_of_ble_eq_true rfl)⟩) hS (fun q _ h => hFc q h) hFc (fun r_495 u t H1 locs ht hvm hw hB hz1 hk1 hS => ?_)
          obtain ⟨bg_496, en_497, so_498, va_499, iw_500, hq_501, hq_502, hq_503, hq_504, hq_505, hP1, hK1, hD1⟩ := hB
          rw [ht] at hP1
          have hK1 := va_K.moved hvm.symm hK1
          obtain ⟨hP, hD⟩ := va_join (wr := [(y0, .inl (yc, 360, .inl yf)), (z0, .inl (zc, 120, .inr (.inl gf)))]) (w1 := [(h0, .inr (7, [v0, v1, v2, v3, v4, v5, v6, v7, v8, v9, .ref e0, .int ts, .int bg_496, .int en_497, .int so_498, .int va_499, .int iw_500, v17, .ref y0, .ref z0, .int im, .int sT, v22, .int n_481, v24, v25, v26, v27])), (e0, .inl (ec, 120, .inl ef))]) hP hD [2, 3] [0, 1] rfl rfl (by decide) (by decide) hk1 hFc hP1 hD1
          generalize H1 = H at hP hS ⊢
          have hP : va_P (dC, dI) vwCl [(y0, .inl (yc, 360, .inl yf)), (z0, .inl (zc, 120, .inr (.inl gf))), (h0, .inr (7, [v0, v1, v2, v3, v4, v5, v6, v7, v8, v9, .ref e0, .int ts, .int bg_496, .int en_497, .int so_498, .int va_499, .int iw_500, v17, .ref y0, .ref z0, .int im, .int sT, v22, .int n_481, v24, v25, v26, v27])), (e0, .inl (ec, 120, .inl ef))] H := hP
          have hD : va_D A [(y0, .inl (yc, 360, .inl yf)), (z0, .inl (zc, 120, .inr (.inl gf))), (h0, .inr (7, [v0, v1, v2, v3, v4, v5, v6, v7, v8, v9, .ref e0, .int ts, .int bg_496, .int en_497, .int so_498, .int va_499, .int iw_500, v17, .ref y0, .ref z0, .int im, .int sT, v22, .int n_481, v24, v25, v26, v27])), (e0, .inl (ec, 120, .inl ef))] := hD
          have ch_506 : iw_500.toInt = 0 → en.toInt ≤ bg_496.toInt := by omega
          clear hq_489 hq_490 hq_491 hq_492 hq_493 ch_494
          refine lv_istore_n (lv' := [(3, .int r_495), (2, .int r_483), (1, .int va_269), (0, .ref h0)]) hx hb dX9_readHold_110 rfl hl (by decide) rfl (fun ls hl => ?_)
          refine lv_aload_n hx hb dX9_readHold_111 rfl (lv_at hl 3 rfl) ?_
          refine va_ldcSw (tx := "at") (q := ad 23) hx hb hown (ev_str hev 23 rfl) dX9_readHold_112 ?_
          refine lv_iconst (v := 0) hx hb dX9_readHold_115 (by decide) ?_
          refine lv_bipush (v := 7) hx hb dX9_readHold_116 (by decide) ?_
          have hPc := hP.sub (ws' := [(h0, .inr (7, [v0, v1, v2, v3, v4, v5, v6, v7, v8, v9, .ref e0, .int ts, .int bg_496, .int en_497, .int so_498, .int va_499, .int iw_500, v17, .ref y0, .ref z0, .int im, .int sT, v22, .int n_481, v24, v25, v26, v27])), (e0, .inl (ec, 120, .inl ef))]) [2, 3] rfl
          have hKc := hK.sub (tys' := [(ec, .int)]) [0] rfl
          have hDc := hD.sub (ws' := [(h0, .inr (7, [v0, v1, v2, v3, v4, v5, v6, v7, v8, v9, .ref e0, .int ts, .int bg_496, .int en_497, .int so_498, .int va_499, .int iw_500, v17, .ref y0, .ref z0, .int im, .int sT, v22, .int n_481, v24, v25, v26, v27])), (e0, .inl (ec, 120, .inl ef))]) [2, 3] (by decide) rfl
          have hFc := va_free (wc := [(h0, .inr (7, [v0, v1, v2, v3, v4, v5, v6, v7, v8, v9, .ref e0, .int ts, .int bg_496, .int en_497, .int so_498, .int va_499, .int iw_500, v17, .ref y0, .ref z0, .int im, .int sT, v22, .int n_481, v24, v25, v26, v27])), (e0, .inl (ec, 120, .inl ef))]) hD hS hA [2, 3] rfl
          refine va_calli (va_runV (As := [.ref (ad 23), .int 0, .int 7]) (rest := []) ⟨hx, hb, hml, hown, hts⟩ (m_after l dC dI ad h0 23 0 7 v0 v1 v2 v3 v4 v5 v6 v7 v8 v9 e0 ts bg_496 en_497 so_498 va_499 iw_500 v17 (.ref y0) (.ref z0) (.int im) (.int sT) v22 (.int n_481) v24 v25 v26 v27 ec ef H.size (by decide) htm hq_501 hq_502 hq_503) (cwV 3 hts g_m_readHold_m_after_270 rfl rfl rfl (by decide +kernel) ⟨(Nat.le_of_ble_eq_true rfl), (Nat.le_of_ble_eq_true rfl)⟩) ⟨preT_blind, va_recv hKc hPc (ci := 7) (q0 := 0) rfl rfl, fun U hU hW => ⟨rfl, preM_at hU hW hPc hKc hDc hev, sf_at hsf hS hFc hU hW⟩⟩ rfl rfl hl.1 rfl (lv_room (Nat.le_of_ble_eq_true rfl)) dX9_readHold_118 ⟨(Nat.le_of_ble_eq_true rfl), (Nat.le_of_ble_eq_true rfl)⟩) hS (fun q _ h => hFc q h) hFc (fun r_507 u t H1 locs ht hvm hw hB hz1 hk1 hS => ?_)
          obtain ⟨bg_508, en_509, so_510, va_511, iw_512, hq_513, hq_514, hq_515, hq_516, hq_517, hP1, hK1, hD1⟩ := hB
          rw [ht] at hP1
          have hK1 := va_K.moved hvm.symm hK1
          obtain ⟨hP, hD⟩ := va_join (wr := [(y0, .inl (yc, 360, .inl yf)), (z0, .inl (zc, 120, .inr (.inl gf)))]) (w1 := [(h0, .inr (7, [v0, v1, v2, v3, v4, v5, v6, v7, v8, v9, .ref e0, .int ts, .int bg_508, .int en_509, .int so_510, .int va_511, .int iw_512, v17, .ref y0, .ref z0, .int im, .int sT, v22, .int n_481, v24, v25, v26, v27])), (e0, .inl (ec, 120, .inl ef))]) hP hD [2, 3] [0, 1] rfl rfl (by decide) (by decide) hk1 hFc hP1 hD1
          generalize H1 = H at hP hS ⊢
          have hP : va_P (dC, dI) vwCl [(y0, .inl (yc, 360, .inl yf)), (z0, .inl (zc, 120, .inr (.inl gf))), (h0, .inr (7, [v0, v1, v2, v3, v4, v5, v6, v7, v8, v9, .ref e0, .int ts, .int bg_508, .int en_509, .int so_510, .int va_511, .int iw_512, v17, .ref y0, .ref z0, .int im, .int sT, v22, .int n_481, v24, v25, v26, v27])), (e0, .inl (ec, 120, .inl ef))] H := hP
          have hD : va_D A [(y0, .inl (yc, 360, .inl yf)), (z0, .inl (zc, 120, .inr (.inl gf))), (h0, .inr (7, [v0, v1, v2, v3, v4, v5, v6, v7, v8, v9, .ref e0, .int ts, .int bg_508, .int en_509, .int so_510, .int va_511, .int iw_512, v17, .ref y0, .ref z0, .int im, .int sT, v22, .int n_481, v24, v25, v26, v27])), (e0, .inl (ec, 120, .inl ef))] := hD
          have ch_518 : iw_512.toInt = 0 → en.toInt ≤ bg_508.toInt := by omega
          clear hq_501 hq_502 hq_503 hq_504 hq_505 ch_506
          refine lv_istore (lv' := [(4, .int r_507), (3, .int r_495), (2, .int r_483), (1, .int va_269), (0, .ref h0)]) hx hb dX9_readHold_121 hl (by decide) rfl (fun ls hl => ?_)
          refine lv_aload_n hx hb dX9_readHold_123 rfl (lv_at hl 4 rfl) ?_
          refine lv_bipush (v := 11) hx hb dX9_readHold_124 (by decide) ?_
          refine lv_iload_n hx hb dX9_readHold_126 rfl (lv_at hl 3 rfl) ?_
          refine lv_sipush (v := 1000) hx hb dX9_readHold_127 (by decide) ?_
          refine lv_iconst (v := 4) hx hb dX9_readHold_130 (by decide) ?_
          refine lv_iload_n hx hb dX9_readHold_131 rfl (lv_at hl 2 rfl) ?_
          refine lv_imul hx hb dX9_readHold_132 ?_
          refine lv_topi (fun n_519 en_519 => ?_)
          refine lv_iload_n hx hb dX9_readHold_133 rfl (lv_at hl 1 rfl) ?_
          refine lv_iadd hx hb dX9_readHold_134 ?_
          refine lv_topi (fun n_520 en_520 => ?_)
          refine lv_imul hx hb dX9_readHold_135 ?_
          refine lv_topi (fun n_521 en_521 => ?_)
          refine lv_bipush (v := 10) hx hb dX9_readHold_136 (by decide) ?_
          refine lv_iload hx hb dX9_readHold_138 (lv_at hl 0 rfl) ?_
          refine lv_imul hx hb dX9_readHold_140 ?_
          refine lv_topi (fun n_522 en_522 => ?_)
          refine lv_iadd hx hb dX9_readHold_141 ?_
          refine lv_topi (fun n_523 en_523 => ?_)
          refine lv_aload_n hx hb dX9_readHold_142 rfl (lv_at hl 4 rfl) ?_
          refine lv_iconst (v := 0) hx hb dX9_readHold_143 (by decide) ?_
          refine lv_bipush (v := 7) hx hb dX9_readHold_144 (by decide) ?_
          have hPc := hP.sub (ws' := [(h0, .inr (7, [v0, v1, v2, v3, v4, v5, v6, v7, v8, v9, .ref e0, .int ts, .int bg_508, .int en_509, .int so_510, .int va_511, .int iw_512, v17, .ref y0, .ref z0, .int im, .int sT, v22, .int n_481, v24, v25, v26, v27])), (e0, .inl (ec, 120, .inl ef))]) [2, 3] rfl
          have hKc := hK.sub (tys' := [(ec, .int)]) [0] rfl
          have hDc := hD.sub (ws' := [(h0, .inr (7, [v0, v1, v2, v3, v4, v5, v6, v7, v8, v9, .ref e0, .int ts, .int bg_508, .int en_509, .int so_510, .int va_511, .int iw_512, v17, .ref y0, .ref z0, .int im, .int sT, v22, .int n_481, v24, v25, v26, v27])), (e0, .inl (ec, 120, .inl ef))]) [2, 3] (by decide) rfl
          have hFc := va_free (wc := [(h0, .inr (7, [v0, v1, v2, v3, v4, v5, v6, v7, v8, v9, .ref e0, .int ts, .int bg_508, .int en_509, .int so_510, .int va_511, .int iw_512, v17, .ref y0, .ref z0, .int im, .int sT, v22, .int n_481, v24, v25, v26, v27])), (e0, .inl (ec, 120, .inl ef))]) hD hS hA [2, 3] rfl
          refine va_calli (va_runV (As := [.int 0, .int 7]) (rest := [.int n_523, .int va_269, .int 11, .ref h0]) ⟨hx, hb, hml, hown, hts⟩ (m_number l dC dI ad h0 0 7 v0 v1 v2 v3 v4 v5 v6 v7 v8 v9 e0 ts bg_508 en_509 so_510 va_511 iw_512 v17 (.ref y0) (.ref z0) (.int im) (.int sT) v22 (.int n_481) v24 v25 v26 v27 ec ef H.size htm hq_513 hq_514 hq_515) (cwV 2 hts g_m_readHold_m_number_235 rfl rfl rfl (by decide +kernel) ⟨(Nat.le_of_ble_eq_true rfl), (Nat.le_of_ble_eq_true rfl)⟩) ⟨preM_blind, va_recv hKc hPc (ci := 7) (q0 := 0) rfl rfl, fun U hU hW => ⟨rfl, preM_at hU hW hPc hKc hDc hev⟩⟩ rfl rfl hl.1 rfl (lv_room (Nat.le_of_ble_eq_true rfl)) dX9_readHold_146 ⟨(Nat.le_of_ble_eq_true rfl), (Nat.le_of_ble_eq_true rfl)⟩) hS (fun q _ h => hFc q h) hFc (fun r_524 u t H1 locs ht hvm hw hB hz1 hk1 hS => ?_)
          obtain ⟨bg_525, en_526, so_527, va_528, iw_529, hq_530, hq_531, hq_532, hq_533, hq_534, hP1, hK1, hD1⟩ := hB
          rw [ht] at hP1
          have hK1 := va_K.moved hvm.symm hK1
          obtain ⟨hP, hD⟩ := va_join (wr := [(y0, .inl (yc, 360, .inl yf)), (z0, .inl (zc, 120, .inr (.inl gf)))]) (w1 := [(h0, .inr (7, [v0, v1, v2, v3, v4, v5, v6, v7, v8, v9, .ref e0, .int ts, .int bg_525, .int en_526, .int so_527, .int va_528, .int iw_529, v17, .ref y0, .ref z0, .int im, .int sT, v22, .int n_481, v24, v25, v26, v27])), (e0, .inl (ec, 120, .inl ef))]) hP hD [2, 3] [0, 1] rfl rfl (by decide) (by decide) hk1 hFc hP1 hD1
          generalize H1 = H at hP hS ⊢
          have hP : va_P (dC, dI) vwCl [(y0, .inl (yc, 360, .inl yf)), (z0, .inl (zc, 120, .inr (.inl gf))), (h0, .inr (7, [v0, v1, v2, v3, v4, v5, v6, v7, v8, v9, .ref e0, .int ts, .int bg_525, .int en_526, .int so_527, .int va_528, .int iw_529, v17, .ref y0, .ref z0, .int im, .int sT, v22, .int n_481, v24, v25, v26, v27])), (e0, .inl (ec, 120, .inl ef))] H := hP
          have hD : va_D A [(y0, .inl (yc, 360, .inl yf)), (z0, .inl (zc, 120, .inr (.inl gf))), (h0, .inr (7, [v0, v1, v2, v3, v4, v5, v6, v7, v8, v9, .ref e0, .int ts, .int bg_525, .int en_526, .int so_527, .int va_528, .int iw_529, v17, .ref y0, .ref z0, .int im, .int sT, v22, .int n_481, v24, v25, v26, v27])), (e0, .inl (ec, 120, .inl ef))] := hD
          have hr_524 : r_524.toInt = va_511.toInt := hw
          have hq_534 : iw_529.toInt = 0 → iw_512.toInt = 0 ∧ (0 : Int) ≤ va_511.toInt ∧ va_511.toInt ≤ (7 : Int) ∧ en_509.toInt ≤ bg_525.toInt := hq_534
          have ch_535 : iw_529.toInt = 0 → en.toInt ≤ bg_525.toInt := by omega
          clear hq_513 hq_514 hq_515 hq_516 hq_517 ch_518
          refine lv_iadd hx hb dX9_readHold_149 ?_
          refine lv_topi (fun n_536 en_536 => ?_)
          refine lv_lconst (v := 0) hx hb dX9_readHold_150 (by decide) ?_
          have hPc := hP.sub (ws' := [(h0, .inr (7, [v0, v1, v2, v3, v4, v5, v6, v7, v8, v9, .ref e0, .int ts, .int bg_525, .int en_526, .int so_527, .int va_528, .int iw_529, v17, .ref y0, .ref z0, .int im, .int sT, v22, .int n_481, v24, v25, v26, v27])), (y0, .inl (yc, 360, .inl yf)), (z0, .inl (zc, 120, .inr (.inl gf)))]) [2, 0, 1] rfl
          have hKc := hK.sub (tys' := [(yc, .int), (zc, .long)]) [1, 2] rfl
          have hDc := hD.sub (ws' := [(h0, .inr (7, [v0, v1, v2, v3, v4, v5, v6, v7, v8, v9, .ref e0, .int ts, .int bg_525, .int en_526, .int so_527, .int va_528, .int iw_529, v17, .ref y0, .ref z0, .int im, .int sT, v22, .int n_481, v24, v25, v26, v27])), (y0, .inl (yc, 360, .inl yf)), (z0, .inl (zc, 120, .inr (.inl gf)))]) [2, 0, 1] (by decide) rfl
          have hFc := va_free (wc := [(h0, .inr (7, [v0, v1, v2, v3, v4, v5, v6, v7, v8, v9, .ref e0, .int ts, .int bg_525, .int en_526, .int so_527, .int va_528, .int iw_529, v17, .ref y0, .ref z0, .int im, .int sT, v22, .int n_481, v24, v25, v26, v27])), (y0, .inl (yc, 360, .inl yf)), (z0, .inl (zc, 120, .inr (.inl gf)))]) hD hS hA [2, 0, 1] rfl
          refine va_callv (va_runV (As := [.int 11, .int va_269, .int n_536, .long 0]) (rest := []) ⟨hx, hb, hml, hown, hts⟩ (m_item l dC dI ad h0 11 va_269 n_536 0 v0 v1 v2 v3 v4 v5 v6 v7 v8 v9 (.ref e0) (.int ts) (.int bg_525) (.int en_526) (.int so_527) (.int va_528) (.int iw_529) v17 y0 z0 im (.int sT) v22 (.int n_481) v24 v25 v26 v27 yc yf zc gf H.size him) (cwV 4 hts g_m_readHold_m_item_247 rfl rfl rfl (by decide +kernel) ⟨(Nat.le_of_ble_eq_true rfl), (Nat.le_of_ble_eq_true rfl)⟩) ⟨preM_blind, va_recv hKc hPc (ci := 7) (q0 := 0) rfl rfl, fun U hU hW => ⟨rfl, preM_at hU hW hPc hKc hDc hev⟩⟩ rfl rfl hl.1 rfl (lv_room (Nat.le_of_ble_eq_true rfl)) dX9_readHold_151 ⟨(Nat.le_of_ble_eq_true rfl), (Nat.le_of_ble_eq_true rfl)⟩) hS (fun q _ h => hFc q h) hFc (fun u t H1 locs ht hvm hw hB hz1 hk1 hS => ?_)
          obtain ⟨im_538, yg_539, gg_540, hq_541, hq_542, hP1, hK1, hD1⟩ := hB
          rw [ht] at hP1
          have hK1 := va_K.moved hvm.symm hK1
          obtain ⟨hP, hD⟩ := va_join (wr := [(e0, .inl (ec, 120, .inl ef))]) (w1 := [(h0, .inr (7, [v0, v1, v2, v3, v4, v5, v6, v7, v8, v9, .ref e0, .int ts, .int bg_525, .int en_526, .int so_527, .int va_528, .int iw_529, v17, .ref y0, .ref z0, .int im_538, .int sT, v22, .int n_481, v24, v25, v26, v27])), (y0, .inl (yc, 360, .inl yg_539)), (z0, .inl (zc, 120, .inr (.inl gg_540)))]) hP hD [2, 0, 1] [3] rfl rfl (by decide) (by decide) hk1 hFc hP1 hD1
          generalize H1 = H at hP hS ⊢
          have hP : va_P (dC, dI) vwCl [(e0, .inl (ec, 120, .inl ef)), (h0, .inr (7, [v0, v1, v2, v3, v4, v5, v6, v7, v8, v9, .ref e0, .int ts, .int bg_525, .int en_526, .int so_527, .int va_528, .int iw_529, v17, .ref y0, .ref z0, .int im_538, .int sT, v22, .int n_481, v24, v25, v26, v27])), (y0, .inl (yc, 360, .inl yg_539)), (z0, .inl (zc, 120, .inr (.inl gg_540)))] H := hP
          have hD : va_D A [(e0, .inl (ec, 120, .inl ef)), (h0, .inr (7, [v0, v1, v2, v3, v4, v5, v6, v7, v8, v9, .ref e0, .int ts, .int bg_525, .int en_526, .int so_527, .int va_528, .int iw_529, v17, .ref y0, .ref z0, .int im_538, .int sT, v22, .int n_481, v24, v25, v26, v27])), (y0, .inl (yc, 360, .inl yg_539)), (z0, .inl (zc, 120, .inr (.inl gg_540)))] := hD
          have hP9 := hP.sub (ws' := [(h0, .inr (7, [v0, v1, v2, v3, v4, v5, v6, v7, v8, v9, .ref e0, .int ts, .int bg_525, .int en_526, .int so_527, .int va_528, .int iw_529, v17, .ref y0, .ref z0, .int im_538, .int sT, v22, .int n_481, v24, v25, v26, v27])), (e0, .inl (ec, 120, .inl ef)), (y0, .inl (yc, 360, .inl yg_539)), (z0, .inl (zc, 120, .inr (.inl gg_540)))]) [1, 0, 2, 3] rfl
          have hD9 := hD.sub (ws' := [(h0, .inr (7, [v0, v1, v2, v3, v4, v5, v6, v7, v8, v9, .ref e0, .int ts, .int bg_525, .int en_526, .int so_527, .int va_528, .int iw_529, v17, .ref y0, .ref z0, .int im_538, .int sT, v22, .int n_481, v24, v25, v26, v27])), (e0, .inl (ec, 120, .inl ef)), (y0, .inl (yc, 360, .inl yg_539)), (z0, .inl (zc, 120, .inr (.inl gg_540)))]) [1, 0, 2, 3] (by decide) rfl
          have hK9 := hK.sub (tys' := [(ec, .int), (yc, .int), (zc, .long)]) [0, 1, 2] rfl
          exact W.vret hx hb hr (fun t ht hW => ⟨⟨(), rfl, trivial, bg_525, en_526, so_527, va_528, iw_529, n_481, im_538, yg_539, gg_540, hq_530, hq_531, hq_532, hq_533, (by first | omega | decide | (simp only [fa_lt, fa_le, fa_eq, and_true, true_and, and_false, false_and, not_true_eq_false, not_false_eq_true, li_0, li_1, li_2, li_3, li_4, li_5, li_6, li_7, li_8, li_9, li_10, li_12, li_15, li_16, li_20, li_30, li_34, li_38, li_40, li_63, li_64, li_65, li_78, li_120, li_1000, li_4000, li_10000, li_11077, li_255, li_65535, li_m1, li_m2, li_m1000000001, li_m1000000002, li_m1000000003, li_m1000000004, li_m1000000005, li_m1000000006, li_m1000000007, or_true, true_or, or_false, false_or, implies_true, true_implies, false_implies] <;> omega)), hq_541, (fun hz cc => ⟨RI_mk hq_542 (it_ok11 (by omega) (by omega) (by omega) (by omega) (tbn_406 (by omega)) tmn_481.2), by omega⟩), by rw [ht]; exact hP9, va_K.moved hW.alike hK9, hD9⟩, hS.F ht⟩) hS.2.2 dX9_readHold_154

def w_m_readItem : List Cond := .code yX9_readItem cX9_readItem 2 none :: (([.methodLink RX9 238 yX9_kindTold, .instanceMethod yX9_kindTold, .selects RX9 yX9_kindTold yX9_kindTold, .initialized RX9, .code yX9_kindTold cX9_kindTold 3 (some .int), .fieldLink RX9 49 "LampShapesModel" "kinds" "[Ljava/lang/String;", .methodLink RX9 231 yX9_isWord, .instanceMethod yX9_isWord, .selects RX9 yX9_isWord yX9_isWord, .code yX9_isWord cX9_isWord 4 (some .boolean), .fieldLink RX9 203 "LampShapesModel" "sort" "I", .methodLink RX9 209 yJ0_length_8abf5, .instanceMethod yJ0_length_8abf5, .selects RJ0 yJ0_length_8abf5 yJ0_length_8abf5, .initialized RJ0, .code yJ0_length_8abf5 cJ0_length_8abf5 1 (some .int), .fieldLink RJ0 9 "java/lang/String" "value" "[B", .methodLink RJ0 335 yJ0_coder_7d493, .instanceMethod yJ0_coder_7d493, .selects RJ0 yJ0_coder_7d493 yJ0_coder_7d493, .code yJ0_coder_7d493 cJ0_coder_7d493 1 (some .byte), .fieldLink RJ0 38 "java/lang/String" "COMPACT_STRINGS" "Z", .fieldLink RJ0 15 "java/lang/String" "coder" "B", .fieldLink RX9 32 "LampShapesModel" "tape" "[I", .fieldLink RX9 194 "LampShapesModel" "begins" "I", .methodLink RX9 213 yJ0_charAt_5068e, .instanceMethod yJ0_charAt_5068e, .selects RJ0 yJ0_charAt_5068e yJ0_charAt_5068e, .code yJ0_charAt_5068e cJ0_charAt_5068e 2 (some .char), .methodLink RJ0 492 yJ0_isLatin1_aae02, .instanceMethod yJ0_isLatin1_aae02, .selects RJ0 yJ0_isLatin1_aae02 yJ0_isLatin1_aae02, .code yJ0_isLatin1_aae02 cJ0_isLatin1_aae02 1 (some .boolean), .methodLink RJ0 495 yJ1_charAt_3b067, .static yJ1_charAt_3b067, .initialized RJ1, .code yJ1_charAt_3b067 cJ1_charAt_3b067 2 (some .char), .methodLink RJ1 9 yJ0_checkIndex_df160, .static yJ0_checkIndex_df160, .code yJ0_checkIndex_df160 cJ0_checkIndex_df160 2 none, .fieldLink RJ0 1053 "jdk/internal/util/Preconditions" "SIOOBE_FORMATTER" "Ljava/util/function/BiFunction;", .methodLink RJ0 1059 yJ3_checkIndex_8e157, .static yJ3_checkIndex_8e157, .initialized RJ3, .code yJ3_checkIndex_8e157 cJ3_checkIndex_8e157 3 (some .int), .methodLink RJ0 498 yJ2_charAt_3b067, .static yJ2_charAt_3b067, .initialized RJ2, .code yJ2_charAt_3b067 cJ2_charAt_3b067 2 (some .char), .methodLink RJ2 67 yJ2_checkIndex_2214a, .static yJ2_checkIndex_2214a, .code yJ2_checkIndex_2214a cJ2_checkIndex_2214a 2 none, .methodLink RJ2 48 yJ2_length_9d52b, .static yJ2_length_9d52b, .code yJ2_length_9d52b cJ2_length_9d52b 1 (some .int), .methodLink RJ2 414 yJ0_checkIndex_df160, .methodLink RJ2 71 yJ2_getChar_3b067, .static yJ2_getChar_3b067, .code yJ2_getChar_3b067 cJ2_getChar_3b067 2 (some .char), .fieldLink RJ2 44 "java/lang/StringUTF16" "$assertionsDisabled" "Z", .fieldLink RJ2 59 "java/lang/StringUTF16" "HI_BYTE_SHIFT" "I", .fieldLink RJ2 63 "java/lang/StringUTF16" "LO_BYTE_SHIFT" "I", .fieldLink RX9 191 "LampShapesModel" "ends" "I", .methodLink RX9 224 yX9_must, .instanceMethod yX9_must, .selects RX9 yX9_must yX9_must, .code yX9_must cX9_must 2 none, .fieldLink RX9 217 "LampShapesModel" "isWrong" "Z", .methodLink RX9 221 yX9_next, .instanceMethod yX9_next, .selects RX9 yX9_next yX9_next, .code yX9_next cX9_next 2 none, .methodLink RX9 197 yX9_byteAt, .instanceMethod yX9_byteAt, .selects RX9 yX9_byteAt yX9_byteAt, .code yX9_byteAt cX9_byteAt 2 (some .int), .fieldLink RX9 188 "LampShapesModel" "taped" "I", .fieldLink RX9 200 "LampShapesModel" "value" "I", .methodLink RX9 75 yX9_within, .static yX9_within, .code yX9_within cX9_within 3 (some .boolean), .methodLink RX9 206 yX9_isRowSign, .static yX9_isRowSign, .code yX9_isRowSign cX9_isRowSign 1 (some .boolean), .methodLink RX9 171 Lib.Math.min.name, .static Lib.Math.min.name, .initialized "java/lang/Math", .code Lib.Math.min.name Lib.Math.min.code 2 (some .int), .fieldLink RX9 241 "LampShapesModel" "shapeThen" "I", .methodLink RX9 235 yX9_number, .instanceMethod yX9_number, .selects RX9 yX9_number yX9_number, .code yX9_number cX9_number 4 (some .int), .methodLink RX9 247 yX9_item, .instanceMethod yX9_item, .selects RX9 yX9_item yX9_item, .code yX9_item cX9_item 7 none, .fieldLink RX9 228 "LampShapesModel" "itemMany" "I", .fieldLink RX9 53 "LampShapesModel" "items" "[I", .fieldLink RX9 56 "LampShapesModel" "itemPictures" "[J", .fieldLink RX9 263 "LampShapesModel" "heldThen" "I", .methodLink RX9 258 yX9_readHold, .instanceMethod yX9_readHold, .selects RX9 yX9_readHold yX9_readHold, .code yX9_readHold cX9_readHold 5 none, .methodLink RX9 158 yX9_bits, .static yX9_bits, .code yX9_bits cX9_bits 5 (some .int), .methodLink RX9 270 yX9_after, .instanceMethod yX9_after, .selects RX9 yX9_after yX9_after, .code yX9_after cX9_after 4 (some .int), .fieldLink RX9 253 "LampShapesModel" "sceneThen" "I", .methodLink RX9 244 yX9_readRows, .instanceMethod yX9_readRows, .selects RX9 yX9_readRows yX9_readRows, .code yX9_readRows cX9_readRows 8 (some .long)] : List Cond) ++ wsX90)
set_option maxRecDepth 20000 in
theorem g_m_readItem_m_kindTold_238 : GoodIn w_m_readItem (wsV RX9 238 RX9 yX9_kindTold w_m_kindTold) := goodIn_r _ [1, 2, 3, 4, 5, 6, 7, 8, 9, 4, 10, 11, 12, 13, 14, 15, 16, 17, 18, 19, 20, 21, 22, 23, 24, 25, 26, 27, 28, 29, 30, 31, 32, 33, 34, 35, 36, 37, 38, 39, 40, 41, 42, 43, 44, 45, 46, 47, 48, 49, 50, 51, 52, 53, 54, 55, 56, 57, 58, 59, 60, 61, 62, 63, 118, 119, 120, 121, 122, 123, 124, 125, 126, 127, 128, 129, 130, 131, 132, 133, 134, 135, 136, 137, 138, 139, 140, 141, 142, 143, 144, 145] rfl (by decide +kernel)
set_option maxRecDepth 20000 in
theorem g_m_readItem_m_isWord_231 : GoodIn w_m_readItem (wsV RX9 231 RX9 yX9_isWord w_m_isWord) := goodIn_r _ [7, 8, 9, 4, 10, 11, 12, 13, 14, 15, 16, 17, 18, 19, 20, 21, 22, 23, 24, 25, 26, 27, 28, 29, 30, 31, 32, 33, 34, 35, 36, 37, 38, 39, 40, 41, 42, 43, 44, 45, 46, 47, 48, 49, 50, 51, 52, 53, 54, 55, 56, 57, 58, 59, 60, 61, 62, 63, 118, 119, 120, 121, 122, 123, 124, 125, 126, 127, 128, 129, 130, 131, 132, 133, 134, 135, 136, 137, 138, 139, 140, 141, 142, 143, 144, 145] rfl (by decide +kernel)
set_option maxRecDepth 20000 in
theorem g_m_readItem_m_mustG_224 : GoodIn w_m_readItem (wsV RX9 224 RX9 yX9_must w_m_mustG) := goodIn_r _ [64, 65, 66, 4, 67, 68, 69, 70, 71, 4, 72, 63, 25, 73, 74, 75, 76, 77, 24, 78, 79, 80, 81, 82, 83, 84, 11, 85, 86, 87, 88, 118, 119, 120, 121, 122, 123, 124, 125, 126, 127, 128, 129, 130, 131, 132, 133, 134, 135, 136, 137, 138, 139, 140, 141, 142, 143, 144, 145] rfl (by decide +kernel)
set_option maxRecDepth 20000 in
theorem g_m_readItem_m_number_235 : GoodIn w_m_readItem (wsV RX9 235 RX9 yX9_number w_m_number) := goodIn_r _ [90, 91, 92, 4, 93, 78, 11, 64, 65, 66, 4, 67, 68, 79, 80, 81, 69, 70, 71, 72, 63, 25, 73, 74, 75, 76, 77, 24, 82, 83, 84, 85, 86, 87, 88, 118, 119, 120, 121, 122, 123, 124, 125, 126, 127, 128, 129, 130, 131, 132, 133, 134, 135, 136, 137, 138, 139, 140, 141, 142, 143, 144, 145] rfl (by decide +kernel)
set_option maxRecDepth 20000 in
theorem g_m_readItem_m_item_247 : GoodIn w_m_readItem (wsV RX9 247 RX9 yX9_item w_m_item) := goodIn_r _ [94, 95, 96, 4, 97, 98, 99, 100, 118, 119, 120, 121, 122, 123, 124, 125, 126, 127, 128, 129, 130, 131, 132, 133, 134, 135, 136, 137, 138, 139, 140, 141, 142, 143, 144, 145] rfl (by decide +kernel)
set_option maxRecDepth 20000 in
theorem g_m_readItem_m_must1_224 : GoodIn w_m_readItem (wsV RX9 224 RX9 yX9_must w_m_must1) := goodIn_r _ [64, 65, 66, 4, 67, 68, 69, 70, 71, 4, 72, 63, 25, 73, 74, 75, 76, 77, 24, 78, 79, 80, 81, 82, 83, 84, 11, 85, 86, 87, 88, 118, 119, 120, 121, 122, 123, 124, 125, 126, 127, 128, 129, 130, 131, 132, 133, 134, 135, 136, 137, 138, 139, 140, 141, 142, 143, 144, 145] rfl (by decide +kernel)
set_option maxRecDepth 20000 in
theorem g_m_readItem_m_readHold_258 : GoodIn w_m_readItem (wsV RX9 258 RX9 yX9_readHold w_m_readHold) := goodIn_r _ [102, 103, 104, 4, 105, 101, 106, 107, 4, 108, 64, 65, 66, 67, 68, 78, 11, 109, 110, 111, 112, 7, 8, 9, 10, 12, 13, 14, 15, 16, 17, 18, 19, 20, 21, 22, 23, 24, 25, 26, 27, 28, 29, 30, 31, 32, 33, 34, 35, 36, 37, 38, 39, 40, 41, 42, 43, 44, 45, 46, 47, 48, 49, 50, 51, 52, 53, 54, 55, 56, 57, 58, 59, 60, 61, 62, 63, 69, 70, 71, 72, 73, 74, 75, 76, 77, 79, 80, 81, 82, 83, 84, 85, 86, 87, 88, 90, 91, 92, 93, 94, 95, 96, 97, 98, 99, 100, 89, 118, 119, 120, 121, 122, 123, 124, 125, 126, 127, 128, 129, 130, 131, 132, 133, 134, 135, 136, 137, 138, 139, 140, 141, 142, 143, 144, 145] rfl (by decide +kernel)
set_option maxRecDepth 20000 in
theorem g_m_readItem_m_must0_224 : GoodIn w_m_readItem (wsV RX9 224 RX9 yX9_must w_m_must0) := goodIn_r _ [64, 65, 66, 4, 67, 68, 118, 119, 120, 121, 122, 123, 124, 125, 126, 127, 128, 129, 130, 131, 132, 133, 134, 135, 136, 137, 138, 139, 140, 141, 142, 143, 144, 145] rfl (by decide +kernel)
set_option maxRecDepth 20000 in
theorem g_m_readItem_m_readRows_244 : GoodIn w_m_readItem (wsV RX9 244 RX9 yX9_readRows w_m_readRows) := goodIn_r _ [114, 115, 116, 4, 117, 25, 63, 11, 64, 65, 66, 4, 67, 68, 69, 70, 71, 72, 73, 74, 75, 76, 77, 24, 78, 79, 80, 81, 82, 83, 84, 85, 86, 87, 88, 118, 119, 120, 121, 122, 123, 124, 125, 126, 127, 128, 129, 130, 131, 132, 133, 134, 135, 136, 137, 138, 139, 140, 141, 142, 143, 144, 145] rfl (by decide +kernel)
set_option maxHeartbeats 4000000 in
set_option maxRecDepth 100000 in
theorem m_readItem (l : Launch) (dC : Nat → ClassId) (dI : Nat → Nat → Nat) (ad : Nat → Nat) (h0 : Nat) (v0 : Value) (v1 : Value) (v2 : Value) (v3 : Value) (v4 : Value) (v5 : Value) (v6 : Value) (v7 : Value) (v8 : Value) (v9 : Value) (e0 : Nat) (ts : Int32) (bg : Int32) (en : Int32) (so : Int32) (va : Int32) (i0 : Nat) (y0 : Nat) (z0 : Nat) (im : Int32) (sT : Int32) (cT : Int32) (hT : Int32) (v24 : Value) (v25 : Value) (v26 : Value) (v27 : Value) (ec : ClassId) (ef : Nat → Int32) (ic : ClassId) (jf : Nat → Option Nat) (yc : ClassId) (yf : Nat → Int32) (zc : ClassId) (gf : Nat → Int64) (sz : Nat) (htm : 0 ≤ ts.toInt ∧ ts.toInt ≤ 120) (hlx : 0 ≤ bg.toInt ∧ en.toInt ≤ ts.toInt ∧ bg.toInt ≤ en.toInt) (hso : (so.toInt = 1 ∨ so.toInt = 3) → bg.toInt + 1 ≤ en.toInt) (hva : 0 ≤ va.toInt ∧ va.toInt ≤ 10000) (hht : 0 ≤ hT.toInt ∧ hT.toInt ≤ 511) (hst : 0 ≤ sT.toInt ∧ sT.toInt ≤ 9) (hct : 0 ≤ cT.toInt ∧ cT.toInt ≤ 7) (him : 0 ≤ im.toInt ∧ im.toInt ≤ 119) (hjf : ∀ j, j < 6 → jf j = (some (ad (13 + j)))) : Met l yX9_readItem w_m_readItem ({ frames := 7, cells := 0, slots := 0, locals := 155 } : Room) (va_Pc [.ref h0] (preT dC dI ad [(ec, .int), (ic, .object "java/lang/String"), (yc, .int), (zc, .long)] [(h0, .inr (7, [v0, v1, v2, v3, v4, v5, v6, v7, v8, v9, .ref e0, .int ts, .int bg, .int en, .int so, .int va, .int 0, .ref i0, .ref y0, .ref z0, .int im, .int sT, .int cT, .int hT, v24, v25, v26, v27])), (e0, .inl (ec, 120, .inl ef)), (i0, .inl (ic, 6, .inr (.inr (.inr (.inr jf))))), (y0, .inl (yc, 360, .inl yf)), (z0, .inl (zc, 120, .inr (.inl gf)))] sz)) (va_Qv (fun (_ : Unit) => True) (fun _ t => ∃ (bg2 : Int32), ∃ (en2 : Int32), ∃ (so2 : Int32), ∃ (va2 : Int32), ∃ (iw2 : Int32), ∃ (sT2 : Int32), ∃ (cT2 : Int32), ∃ (hT2 : Int32), ∃ (im2 : Int32), ∃ (yg : Nat → Int32), ∃ (gg : Nat → Int64), (0 ≤ bg2.toInt ∧ en2.toInt ≤ ts.toInt ∧ bg2.toInt ≤ en2.toInt) ∧ ((so2.toInt = 1 ∨ so2.toInt = 3) → bg2.toInt + 1 ≤ en2.toInt) ∧ (0 ≤ va2.toInt ∧ va2.toInt ≤ 10000) ∧ (iw2.toInt = 0 ∨ iw2.toInt = 1) ∧ (iw2.toInt = 0 → bg.toInt + 1 ≤ bg2.toInt) ∧ (im2.toInt = im.toInt + 1) ∧ (iw2.toInt = 0 → RI yf yg im.toInt.toNat sT.toInt cT.toInt hT.toInt.toNat sT2.toInt cT2.toInt hT2.toInt.toNat) ∧ (iw2.toInt = 0 → (0 ≤ sT2.toInt ∧ sT2.toInt ≤ 9) ∧ (0 ≤ cT2.toInt ∧ cT2.toInt ≤ 7) ∧ (0 ≤ hT2.toInt ∧ hT2.toInt ≤ 511)) ∧ va_P (dC, dI) vwCl [(h0, .inr (7, [v0, v1, v2, v3, v4, v5, v6, v7, v8, v9, .ref e0, .int ts, .int bg2, .int en2, .int so2, .int va2, .int iw2, .ref i0, .ref y0, .ref z0, .int im2, .int sT2, .int cT2, .int hT2, v24, v25, v26, v27])), (e0, .inl (ec, 120, .inl ef)), (i0, .inl (ic, 6, .inr (.inr (.inr (.inr jf))))), (y0, .inl (yc, 360, .inl yg)), (z0, .inl (zc, 120, .inr (.inl gg)))] t.heap ∧ va_K (dC, dI) vwCl [(ec, .int), (ic, .object "java/lang/String"), (yc, .int), (zc, .long)] t ∧ va_D (va_A [(h0, .inr (7, [v0, v1, v2, v3, v4, v5, v6, v7, v8, v9, .ref e0, .int ts, .int bg, .int en, .int so, .int va, .int 0, .ref i0, .ref y0, .ref z0, .int im, .int sT, .int cT, .int hT, v24, v25, v26, v27])), (e0, .inl (ec, 120, .inl ef)), (i0, .inl (ic, 6, .inr (.inr (.inr (.inr jf))))), (y0, .inl (yc, 360, .inl yf)), (z0, .inl (zc, 120, .inr (.inl gf)))] sz) [(h0, .inr (7, [v0, v1, v2, v3, v4, v5, v6, v7, v8, v9, .ref e0, .int ts, .int bg2, .int en2, .int so2, .int va2, .int iw2, .ref i0, .ref y0, .ref z0, .int im2, .int sT2, .int cT2, .int hT2, v24, v25, v26, v27])), (e0, .inl (ec, 120, .inl ef)), (i0, .inl (ic, 6, .inr (.inr (.inr (.inr jf))))), (y0, .inl (yc, 360, .inl yg)), (z0, .inl (zc, 120, .inr (.inl gg)))]) (va_A [(h0, .inr (7, [v0, v1, v2, v3, v4, v5, v6, v7, v8, v9, .ref e0, .int ts, .int bg, .int en, .int so, .int va, .int 0, .ref i0, .ref y0, .ref z0, .int im, .int sT, .int cT, .int hT, v24, v25, v26, v27])), (e0, .inl (ec, 120, .inl ef)), (i0, .inl (ic, 6, .inr (.inr (.inr (.inr jf))))), (y0, .inl (yc, 360, .inl yf)), (z0, .inl (zc, 120, .inr (.inl gf)))] sz)) 0 0 (va_A [(h0, .inr (7, [v0, v1, v2, v3, v4, v5, v6, v7, v8, v9, .ref e0, .int ts, .int bg, .int en, .int so, .int va, .int 0, .ref i0, .ref y0, .ref z0, .int im, .int sT, .int cT, .int hT, v24, v25, v26, v27])), (e0, .inl (ec, 120, .inl ef)), (i0, .inl (ic, 6, .inr (.inr (.inr (.inr jf))))), (y0, .inl (yc, 360, .inl yf)), (z0, .inl (zc, 120, .inr (.inl gf)))] sz) := by
  refine Met.ofW (cc := cX9_readItem) (maxL := 2) (ret := none) (by decide) rfl ?_
  intro p e s m args below meth c s₁ B hml hv
  obtain ⟨rfl, ⟨hsz, hP, hK, hD0, hev⟩, hsf⟩ := hv
  have hx := B.exec
  have hb := B.bytes
  have hr := B.returns
  have hts := atoms_spec (ws := w_m_readItem) B.pre
  have hown : s.vm.findClass RX9 = some m.cls := findClass_of_methodNamed B.named
  have hlocks := B.notSynchronized
  have inX9 : ∀ w ∈ wsX90, w ∈ w_m_readItem := fun w h => List.mem_cons_of_mem _ (List.mem_append_right _ h)
  subst hsz
  have hD := hD0.self (sz := s.heap.size)
  generalize hAe : va_A [(h0, .inr (7, [v0, v1, v2, v3, v4, v5, v6, v7, v8, v9, .ref e0, .int ts, .int bg, .int en, .int so, .int va, .int 0, .ref i0, .ref y0, .ref z0, .int im, .int sT, .int cT, .int hT, v24, v25, v26, v27])), (e0, .inl (ec, 120, .inl ef)), (i0, .inl (ic, 6, .inr (.inr (.inr (.inr jf))))), (y0, .inl (yc, 360, .inl yf)), (z0, .inl (zc, 120, .inr (.inl gf)))] s.heap.size = A at hD hsf ⊢
  have hA : ∀ q : Nat, s.heap.size ≤ q → A q := fun q h => by rw [← hAe]; exact Or.inr h
  have hS : va_S A s.heap s.heap [] := va_S.rf
  have hP : va_P (dC, dI) vwCl [(h0, .inr (7, [v0, v1, v2, v3, v4, v5, v6, v7, v8, v9, .ref e0, .int ts, .int bg, .int en, .int so, .int va, .int 0, .ref i0, .ref y0, .ref z0, .int im, .int sT, .int cT, .int hT, v24, v25, v26, v27])), (e0, .inl (ec, 120, .inl ef)), (i0, .inl (ic, 6, .inr (.inr (.inr (.inr jf))))), (y0, .inl (yc, 360, .inl yf)), (z0, .inl (zc, 120, .inr (.inl gf)))] s.heap := hP
  have hl := lv_entry ([.ref h0]) (n := 2) (Nat.le_of_ble_eq_true rfl)
  rw [lg_entry_eq]
  generalize (lg_sl ([.ref h0]) ++ List.replicate (2 - (lg_sl ([.ref h0])).length) Slot.unset).toArray = ls at hl ⊢
  have hl : lv_has ls 2 [(0, .ref h0)] := hl
  refine lv_aload_n hx hb dX9_readItem_0 rfl (lv_at hl 0 rfl) ?_
  have hPc := hP.sub (ws' := [(h0, .inr (7, [v0, v1, v2, v3, v4, v5, v6, v7, v8, v9, .ref e0, .int ts, .int bg, .int en, .int so, .int va, .int 0, .ref i0, .ref y0, .ref z0, .int im, .int sT, .int cT, .int hT, v24, v25, v26, v27])), (e0, .inl (ec, 120, .inl ef)), (i0, .inl (ic, 6, .inr (.inr (.inr (.inr jf)))))]) [0, 1, 2] rfl
  have hKc := hK.sub (tys' := [(ec, .int), (ic, .object "java/lang/String")]) [0, 1] rfl
  refine vp_callSi (W.runV (As := []) (rest := []) ⟨hx, hb, hml, hown, hts⟩ (m_kindTold l dC dI ad h0 v0 v1 v2 v3 v4 v5 v6 v7 v8 v9 e0 ts bg en so va (.int 0) i0 (.ref y0) (.ref z0) (.int im) (.int sT) (.int cT) (.int hT) v24 v25 v26 v27 ec ef ic jf htm hlx hjf) (cwV 0 hts g_m_readItem_m_kindTold_238 rfl rfl rfl (by decide +kernel) ⟨(Nat.le_of_ble_eq_true rfl), (Nat.le_of_ble_eq_true rfl)⟩) ⟨preST_blind, va_recv hKc hPc (ci := 7) (q0 := 0) rfl rfl, fun U hU hW => ⟨rfl, preS_at hU hW hPc hKc hev, sf_at hsf hS (fun _ h => h.elim) hU hW⟩⟩ rfl rfl hl.1 rfl (lv_room (Nat.le_of_ble_eq_true rfl)) dX9_readItem_1 ⟨(Nat.le_of_ble_eq_true rfl), (Nat.le_of_ble_eq_true rfl)⟩) (fun r_1 hw => ?_)
  have hr_1 : (-1) ≤ r_1.toInt ∧ r_1.toInt ≤ 5 ∧ (0 ≤ r_1.toInt → so.toInt = 1) := hw
  refine lv_istore_n (lv' := [(1, .int r_1), (0, .ref h0)]) hx hb dX9_readItem_4 rfl hl (by decide) rfl (fun ls hl => ?_)
  refine lv_iload_n hx hb dX9_readItem_5 rfl (lv_at hl 0 rfl) ?_
  refine lv_if_lt (tgt := 53) hx hb dX9_readItem_6 (by decide) (fun c_2 => ?_) (fun c_2 => ?_)
  · skip
    have tc_2 : r_1.toInt < 0 := (fa_lt _ _).mp c_2
    refine lv_aload_n hx hb dX9_readItem_53 rfl (lv_at hl 1 rfl) ?_
    refine va_ldcS (tx := "scene") (q := ad 19) hx hb hown (ev_str hev 19 rfl) dX9_readItem_54 ?_
    have hPc := hP.sub (ws' := [(h0, .inr (7, [v0, v1, v2, v3, v4, v5, v6, v7, v8, v9, .ref e0, .int ts, .int bg, .int en, .int so, .int va, .int 0, .ref i0, .ref y0, .ref z0, .int im, .int sT, .int cT, .int hT, v24, v25, v26, v27])), (e0, .inl (ec, 120, .inl ef))]) [0, 1] rfl
    have hKc := hK.sub (tys' := [(ec, .int)]) [0] rfl
    refine vp_callSi (W.runV (As := [.ref (ad 19)]) (rest := []) ⟨hx, hb, hml, hown, hts⟩ (m_isWord l dC dI ad h0 19 v0 v1 v2 v3 v4 v5 v6 v7 v8 v9 e0 ts bg en so va (.int 0) (.ref i0) (.ref y0) (.ref z0) (.int im) (.int sT) (.int cT) (.int hT) v24 v25 v26 v27 ec ef (by decide) htm hlx) (cwV 1 hts g_m_readItem_m_isWord_231 rfl rfl rfl (by decide +kernel) ⟨(Nat.le_of_ble_eq_true rfl), (Nat.le_of_ble_eq_true rfl)⟩) ⟨preST_blind, va_recv hKc hPc (ci := 7) (q0 := 0) rfl rfl, fun U hU hW => ⟨rfl, preS_at hU hW hPc hKc hev, sf_at hsf hS (fun _ h => h.elim) hU hW⟩⟩ rfl rfl hl.1 rfl (lv_room (Nat.le_of_ble_eq_true rfl)) dX9_readItem_56 ⟨(Nat.le_of_ble_eq_true rfl), (Nat.le_of_ble_eq_true rfl)⟩) (fun r_3 hw => ?_)
    have hr_3 : r_3.toInt = 0 ∨ (r_3.toInt = 1 ∧ so.toInt = 1) := hw
    refine lv_if_eq (tgt := 107) hx hb dX9_readItem_59 (by decide) (fun c_4 => ?_) (fun c_4 => ?_)
    · skip
      have tc_4 : r_3.toInt = 0 := (fa_eq _ _).mp c_4
      refine lv_aload_n hx hb dX9_readItem_107 rfl (lv_at hl 1 rfl) ?_
      refine va_ldcSw (tx := "hold") (q := ad 20) hx hb hown (ev_str hev 20 rfl) dX9_readItem_108 ?_
      have hPc := hP.sub (ws' := [(h0, .inr (7, [v0, v1, v2, v3, v4, v5, v6, v7, v8, v9, .ref e0, .int ts, .int bg, .int en, .int so, .int va, .int 0, .ref i0, .ref y0, .ref z0, .int im, .int sT, .int cT, .int hT, v24, v25, v26, v27])), (e0, .inl (ec, 120, .inl ef))]) [0, 1] rfl
      have hKc := hK.sub (tys' := [(ec, .int)]) [0] rfl
      refine vp_callSi (W.runV (As := [.ref (ad 20)]) (rest := []) ⟨hx, hb, hml, hown, hts⟩ (m_isWord l dC dI ad h0 20 v0 v1 v2 v3 v4 v5 v6 v7 v8 v9 e0 ts bg en so va (.int 0) (.ref i0) (.ref y0) (.ref z0) (.int im) (.int sT) (.int cT) (.int hT) v24 v25 v26 v27 ec ef (by decide) htm hlx) (cwV 1 hts g_m_readItem_m_isWord_231 rfl rfl rfl (by decide +kernel) ⟨(Nat.le_of_ble_eq_true rfl), (Nat.le_of_ble_eq_true rfl)⟩) ⟨preST_blind, va_recv hKc hPc (ci := 7) (q0 := 0) rfl rfl, fun U hU hW => ⟨rfl, preS_at hU hW hPc hKc hev, sf_at hsf hS (fun _ h => h.elim) hU hW⟩⟩ rfl rfl hl.1 rfl (lv_room (Nat.le_of_ble_eq_true rfl)) dX9_readItem_111 ⟨(Nat.le_of_ble_eq_true rfl), (Nat.le_of_ble_eq_true rfl)⟩) (fun r_5 hw => ?_)
      have hr_5 : r_5.toInt = 0 ∨ (r_5.toInt = 1 ∧ so.toInt = 1) := hw
      refine lv_if_eq (tgt := 124) hx hb dX9_readItem_114 (by decide) (fun c_6 => ?_) (fun c_6 => ?_)
      · skip
        have tc_6 : r_5.toInt = 0 := (fa_eq _ _).mp c_6
        refine lv_aload_n hx hb dX9_readItem_124 rfl (lv_at hl 1 rfl) ?_
        refine va_ldcSw (tx := "drop") (q := ad 24) hx hb hown (ev_str hev 24 rfl) dX9_readItem_125 ?_
        have hPc := hP.sub (ws' := [(h0, .inr (7, [v0, v1, v2, v3, v4, v5, v6, v7, v8, v9, .ref e0, .int ts, .int bg, .int en, .int so, .int va, .int 0, .ref i0, .ref y0, .ref z0, .int im, .int sT, .int cT, .int hT, v24, v25, v26, v27])), (e0, .inl (ec, 120, .inl ef))]) [0, 1] rfl
        have hKc := hK.sub (tys' := [(ec, .int)]) [0] rfl
        refine vp_callSi (W.runV (As := [.ref (ad 24)]) (rest := []) ⟨hx, hb, hml, hown, hts⟩ (m_isWord l dC dI ad h0 24 v0 v1 v2 v3 v4 v5 v6 v7 v8 v9 e0 ts bg en so va (.int 0) (.ref i0) (.ref y0) (.ref z0) (.int im) (.int sT) (.int cT) (.int hT) v24 v25 v26 v27 ec ef (by decide) htm hlx) (cwV 1 hts g_m_readItem_m_isWord_231 rfl rfl rfl (by decide +kernel) ⟨(Nat.le_of_ble_eq_true rfl), (Nat.le_of_ble_eq_true rfl)⟩) ⟨preST_blind, va_recv hKc hPc (ci := 7) (q0 := 0) rfl rfl, fun U hU hW => ⟨rfl, preS_at hU hW hPc hKc hev, sf_at hsf hS (fun _ h => h.elim) hU hW⟩⟩ rfl rfl hl.1 rfl (lv_room (Nat.le_of_ble_eq_true rfl)) dX9_readItem_128 ⟨(Nat.le_of_ble_eq_true rfl), (Nat.le_of_ble_eq_true rfl)⟩) (fun r_7 hw => ?_)
        have hr_7 : r_7.toInt = 0 ∨ (r_7.toInt = 1 ∧ so.toInt = 1) := hw
        refine lv_if_eq (tgt := 156) hx hb dX9_readItem_131 (by decide) (fun c_8 => ?_) (fun c_8 => ?_)
        · skip
          have tc_8 : r_7.toInt = 0 := (fa_eq _ _).mp c_8
          refine lv_aload_n hx hb dX9_readItem_156 rfl (lv_at hl 1 rfl) ?_
          refine lv_aload_n hx hb dX9_readItem_157 rfl (lv_at hl 1 rfl) ?_
          refine va_ldcSw (tx := "torn") (q := ad 25) hx hb hown (ev_str hev 25 rfl) dX9_readItem_158 ?_
          have hPc := hP.sub (ws' := [(h0, .inr (7, [v0, v1, v2, v3, v4, v5, v6, v7, v8, v9, .ref e0, .int ts, .int bg, .int en, .int so, .int va, .int 0, .ref i0, .ref y0, .ref z0, .int im, .int sT, .int cT, .int hT, v24, v25, v26, v27])), (e0, .inl (ec, 120, .inl ef))]) [0, 1] rfl
          have hKc := hK.sub (tys' := [(ec, .int)]) [0] rfl
          refine vp_callSi (W.runV (As := [.ref (ad 25)]) (rest := [.ref h0]) ⟨hx, hb, hml, hown, hts⟩ (m_isWord l dC dI ad h0 25 v0 v1 v2 v3 v4 v5 v6 v7 v8 v9 e0 ts bg en so va (.int 0) (.ref i0) (.ref y0) (.ref z0) (.int im) (.int sT) (.int cT) (.int hT) v24 v25 v26 v27 ec ef (by decide) htm hlx) (cwV 1 hts g_m_readItem_m_isWord_231 rfl rfl rfl (by decide +kernel) ⟨(Nat.le_of_ble_eq_true rfl), (Nat.le_of_ble_eq_true rfl)⟩) ⟨preST_blind, va_recv hKc hPc (ci := 7) (q0 := 0) rfl rfl, fun U hU hW => ⟨rfl, preS_at hU hW hPc hKc hev, sf_at hsf hS (fun _ h => h.elim) hU hW⟩⟩ rfl rfl hl.1 rfl (lv_room (Nat.le_of_ble_eq_true rfl)) dX9_readItem_161 ⟨(Nat.le_of_ble_eq_true rfl), (Nat.le_of_ble_eq_true rfl)⟩) (fun r_9 hw => ?_)
          have hr_9 : r_9.toInt = 0 ∨ (r_9.toInt = 1 ∧ so.toInt = 1) := hw
          have hPc := hP.sub (ws' := [(h0, .inr (7, [v0, v1, v2, v3, v4, v5, v6, v7, v8, v9, .ref e0, .int ts, .int bg, .int en, .int so, .int va, .int 0, .ref i0, .ref y0, .ref z0, .int im, .int sT, .int cT, .int hT, v24, v25, v26, v27])), (e0, .inl (ec, 120, .inl ef))]) [0, 1] rfl
          have hKc := hK.sub (tys' := [(ec, .int)]) [0] rfl
          have hDc := hD.sub (ws' := [(h0, .inr (7, [v0, v1, v2, v3, v4, v5, v6, v7, v8, v9, .ref e0, .int ts, .int bg, .int en, .int so, .int va, .int 0, .ref i0, .ref y0, .ref z0, .int im, .int sT, .int cT, .int hT, v24, v25, v26, v27])), (e0, .inl (ec, 120, .inl ef))]) [0, 1] (by decide) rfl
          have hFc := va_free (wc := [(h0, .inr (7, [v0, v1, v2, v3, v4, v5, v6, v7, v8, v9, .ref e0, .int ts, .int bg, .int en, .int so, .int va, .int 0, .ref i0, .ref y0, .ref z0, .int im, .int sT, .int cT, .int hT, v24, v25, v26, v27])), (e0, .inl (ec, 120, .inl ef))]) hD hS hA [0, 1] rfl
          refine va_callv (va_runV (As := [.int r_9]) (rest := []) ⟨hx, hb, hml, hown, hts⟩ (m_mustG l dC dI ad h0 r_9 v0 v1 v2 v3 v4 v5 v6 v7 v8 v9 e0 ts bg en so va 0 (.ref i0) (.ref y0) (.ref z0) (.int im) (.int sT) (.int cT) (.int hT) v24 v25 v26 v27 ec ef s.heap.size htm hlx hso hva) (cwV 1 hts g_m_readItem_m_mustG_224 rfl rfl rfl (by decide +kernel) ⟨(Nat.le_of_ble_eq_true rfl), (Nat.le_of_ble_eq_true rfl)⟩) ⟨preM_blind, va_recv hKc hPc (ci := 7) (q0 := 0) rfl rfl, fun U hU hW => ⟨rfl, preM_at hU hW hPc hKc hDc hev⟩⟩ rfl rfl hl.1 rfl (lv_room (Nat.le_of_ble_eq_true rfl)) dX9_readItem_164 ⟨(Nat.le_of_ble_eq_true rfl), (Nat.le_of_ble_eq_true rfl)⟩) hS (fun q _ h => hFc q h) hFc (fun u t H1 locs ht hvm hw hB hz1 hk1 hS => ?_)
          obtain ⟨bg_11, en_12, so_13, va_14, iw_15, hq_16, hq_17, hq_18, hq_19, hq_20, hP1, hK1, hD1⟩ := hB
          rw [ht] at hP1
          have hK1 := va_K.moved hvm.symm hK1
          obtain ⟨hP, hD⟩ := va_join (wr := [(i0, .inl (ic, 6, .inr (.inr (.inr (.inr jf))))), (y0, .inl (yc, 360, .inl yf)), (z0, .inl (zc, 120, .inr (.inl gf)))]) (w1 := [(h0, .inr (7, [v0, v1, v2, v3, v4, v5, v6, v7, v8, v9, .ref e0, .int ts, .int bg_11, .int en_12, .int so_13, .int va_14, .int iw_15, .ref i0, .ref y0, .ref z0, .int im, .int sT, .int cT, .int hT, v24, v25, v26, v27])), (e0, .inl (ec, 120, .inl ef))]) hP hD [0, 1] [2, 3, 4] rfl rfl (by decide) (by decide) hk1 hFc hP1 hD1
          generalize H1 = H at hP hS ⊢
          have hP : va_P (dC, dI) vwCl [(i0, .inl (ic, 6, .inr (.inr (.inr (.inr jf))))), (y0, .inl (yc, 360, .inl yf)), (z0, .inl (zc, 120, .inr (.inl gf))), (h0, .inr (7, [v0, v1, v2, v3, v4, v5, v6, v7, v8, v9, .ref e0, .int ts, .int bg_11, .int en_12, .int so_13, .int va_14, .int iw_15, .ref i0, .ref y0, .ref z0, .int im, .int sT, .int cT, .int hT, v24, v25, v26, v27])), (e0, .inl (ec, 120, .inl ef))] H := hP
          have hD : va_D A [(i0, .inl (ic, 6, .inr (.inr (.inr (.inr jf))))), (y0, .inl (yc, 360, .inl yf)), (z0, .inl (zc, 120, .inr (.inl gf))), (h0, .inr (7, [v0, v1, v2, v3, v4, v5, v6, v7, v8, v9, .ref e0, .int ts, .int bg_11, .int en_12, .int so_13, .int va_14, .int iw_15, .ref i0, .ref y0, .ref z0, .int im, .int sT, .int cT, .int hT, v24, v25, v26, v27])), (e0, .inl (ec, 120, .inl ef))] := hD
          have hq_20 : iw_15.toInt = 0 → (0 : Int) = 0 ∧ ¬ r_9.toInt = 0 ∧ en.toInt ≤ bg_11.toInt := hq_20
          refine lv_aload_n hx hb dX9_readItem_167 rfl (lv_at hl 1 rfl) ?_
          refine lv_bipush (v := 13) hx hb dX9_readItem_168 (by decide) ?_
          refine lv_aload_n hx hb dX9_readItem_170 rfl (lv_at hl 1 rfl) ?_
          refine lv_iconst (v := 0) hx hb dX9_readItem_171 (by decide) ?_
          refine lv_aload_n hx hb dX9_readItem_172 rfl (lv_at hl 1 rfl) ?_
          refine va_get (D := (dC, dI)) (ci := 7) (v := .int sT) (C := RX9) (T := TX9) (N := 28) hx hb hts inX9 hown hK hP 3 rfl rfl 21 (by decide) (hts _ (List.mem_of_getElem? (i := 89) rfl)) (fun _ h9 => h9) rfl dX9_readItem_173 ?_
          refine lv_iconst (v := 1) hx hb dX9_readItem_176 (by decide) ?_
          refine lv_isub hx hb dX9_readItem_177 ?_
          refine lv_topi (fun n_21 en_21 => ?_)
          have tn_21 : n_21.toInt = sT.toInt - 1 := pp_sub en_21 rfl rfl (by omega) (by omega)
          clear en_21
          have hPc := hP.sub (ws' := [(h0, .inr (7, [v0, v1, v2, v3, v4, v5, v6, v7, v8, v9, .ref e0, .int ts, .int bg_11, .int en_12, .int so_13, .int va_14, .int iw_15, .ref i0, .ref y0, .ref z0, .int im, .int sT, .int cT, .int hT, v24, v25, v26, v27])), (e0, .inl (ec, 120, .inl ef))]) [3, 4] rfl
          have hKc := hK.sub (tys' := [(ec, .int)]) [0] rfl
          have hDc := hD.sub (ws' := [(h0, .inr (7, [v0, v1, v2, v3, v4, v5, v6, v7, v8, v9, .ref e0, .int ts, .int bg_11, .int en_12, .int so_13, .int va_14, .int iw_15, .ref i0, .ref y0, .ref z0, .int im, .int sT, .int cT, .int hT, v24, v25, v26, v27])), (e0, .inl (ec, 120, .inl ef))]) [3, 4] (by decide) rfl
          have hFc := va_free (wc := [(h0, .inr (7, [v0, v1, v2, v3, v4, v5, v6, v7, v8, v9, .ref e0, .int ts, .int bg_11, .int en_12, .int so_13, .int va_14, .int iw_15, .ref i0, .ref y0, .ref z0, .int im, .int sT, .int cT, .int hT, v24, v25, v26, v27])), (e0, .inl (ec, 120, .inl ef))]) hD hS hA [3, 4] rfl
          refine va_calli (va_runV (As := [.int 0, .int n_21]) (rest := [.int 13, .ref h0]) ⟨hx, hb, hml, hown, hts⟩ (m_number l dC dI ad h0 0 n_21 v0 v1 v2 v3 v4 v5 v6 v7 v8 v9 e0 ts bg_11 en_12 so_13 va_14 iw_15 (.ref i0) (.ref y0) (.ref z0) (.int im) (.int sT) (.int cT) (.int hT) v24 v25 v26 v27 ec ef H.size htm hq_16 hq_17 hq_18) (cwV 2 hts g_m_readItem_m_number_235 rfl rfl rfl (by decide +kernel) ⟨(Nat.le_of_ble_eq_true rfl), (Nat.le_of_ble_eq_true rfl)⟩) ⟨preM_blind, va_recv hKc hPc (ci := 7) (q0 := 0) rfl rfl, fun U hU hW => ⟨rfl, preM_at hU hW hPc hKc hDc hev⟩⟩ rfl rfl hl.1 rfl (lv_room (Nat.le_of_ble_eq_true rfl)) dX9_readItem_178 ⟨(Nat.le_of_ble_eq_true rfl), (Nat.le_of_ble_eq_true rfl)⟩) hS (fun q _ h => hFc q h) hFc (fun r_22 u t H1 locs ht hvm hw hB hz1 hk1 hS => ?_)
          obtain ⟨bg_23, en_24, so_25, va_26, iw_27, hq_28, hq_29, hq_30, hq_31, hq_32, hP1, hK1, hD1⟩ := hB
          rw [ht] at hP1
          have hK1 := va_K.moved hvm.symm hK1
          obtain ⟨hP, hD⟩ := va_join (wr := [(i0, .inl (ic, 6, .inr (.inr (.inr (.inr jf))))), (y0, .inl (yc, 360, .inl yf)), (z0, .inl (zc, 120, .inr (.inl gf)))]) (w1 := [(h0, .inr (7, [v0, v1, v2, v3, v4, v5, v6, v7, v8, v9, .ref e0, .int ts, .int bg_23, .int en_24, .int so_25, .int va_26, .int iw_27, .ref i0, .ref y0, .ref z0, .int im, .int sT, .int cT, .int hT, v24, v25, v26, v27])), (e0, .inl (ec, 120, .inl ef))]) hP hD [3, 4] [0, 1, 2] rfl rfl (by decide) (by decide) hk1 hFc hP1 hD1
          generalize H1 = H at hP hS ⊢
          have hP : va_P (dC, dI) vwCl [(i0, .inl (ic, 6, .inr (.inr (.inr (.inr jf))))), (y0, .inl (yc, 360, .inl yf)), (z0, .inl (zc, 120, .inr (.inl gf))), (h0, .inr (7, [v0, v1, v2, v3, v4, v5, v6, v7, v8, v9, .ref e0, .int ts, .int bg_23, .int en_24, .int so_25, .int va_26, .int iw_27, .ref i0, .ref y0, .ref z0, .int im, .int sT, .int cT, .int hT, v24, v25, v26, v27])), (e0, .inl (ec, 120, .inl ef))] H := hP
          have hD : va_D A [(i0, .inl (ic, 6, .inr (.inr (.inr (.inr jf))))), (y0, .inl (yc, 360, .inl yf)), (z0, .inl (zc, 120, .inr (.inl gf))), (h0, .inr (7, [v0, v1, v2, v3, v4, v5, v6, v7, v8, v9, .ref e0, .int ts, .int bg_23, .int en_24, .int so_25, .int va_26, .int iw_27, .ref i0, .ref y0, .ref z0, .int im, .int sT, .int cT, .int hT, v24, v25, v26, v27])), (e0, .inl (ec, 120, .inl ef))] := hD
          have hr_22 : r_22.toInt = va_14.toInt := hw
          have hq_32 : iw_27.toInt = 0 → iw_15.toInt = 0 ∧ (0 : Int) ≤ va_14.toInt ∧ va_14.toInt ≤ n_21.toInt ∧ en_12.toInt ≤ bg_23.toInt := hq_32
          refine lv_iconst (v := 0) hx hb dX9_readItem_181 (by decide) ?_
          refine lv_lconst (v := 0) hx hb dX9_readItem_182 (by decide) ?_
          have hPc := hP.sub (ws' := [(h0, .inr (7, [v0, v1, v2, v3, v4, v5, v6, v7, v8, v9, .ref e0, .int ts, .int bg_23, .int en_24, .int so_25, .int va_26, .int iw_27, .ref i0, .ref y0, .ref z0, .int im, .int sT, .int cT, .int hT, v24, v25, v26, v27])), (y0, .inl (yc, 360, .inl yf)), (z0, .inl (zc, 120, .inr (.inl gf)))]) [3, 1, 2] rfl
          have hKc := hK.sub (tys' := [(yc, .int), (zc, .long)]) [2, 3] rfl
          have hDc := hD.sub (ws' := [(h0, .inr (7, [v0, v1, v2, v3, v4, v5, v6, v7, v8, v9, .ref e0, .int ts, .int bg_23, .int en_24, .int so_25, .int va_26, .int iw_27, .ref i0, .ref y0, .ref z0, .int im, .int sT, .int cT, .int hT, v24, v25, v26, v27])), (y0, .inl (yc, 360, .inl yf)), (z0, .inl (zc, 120, .inr (.inl gf)))]) [3, 1, 2] (by decide) rfl
          have hFc := va_free (wc := [(h0, .inr (7, [v0, v1, v2, v3, v4, v5, v6, v7, v8, v9, .ref e0, .int ts, .int bg_23, .int en_24, .int so_25, .int va_26, .int iw_27, .ref i0, .ref y0, .ref z0, .int im, .int sT, .int cT, .int hT, v24, v25, v26, v27])), (y0, .inl (yc, 360, .inl yf)), (z0, .inl (zc, 120, .inr (.inl gf)))]) hD hS hA [3, 1, 2] rfl
          refine va_callv (va_runV (As := [.int 13, .int r_22, .int 0, .long 0]) (rest := []) ⟨hx, hb, hml, hown, hts⟩ (m_item l dC dI ad h0 13 r_22 0 0 v0 v1 v2 v3 v4 v5 v6 v7 v8 v9 (.ref e0) (.int ts) (.int bg_23) (.int en_24) (.int so_25) (.int va_26) (.int iw_27) (.ref i0) y0 z0 im (.int sT) (.int cT) (.int hT) v24 v25 v26 v27 yc yf zc gf H.size him) (cwV 4 hts g_m_readItem_m_item_247 rfl rfl rfl (by decide +kernel) ⟨(Nat.le_of_ble_eq_true rfl), (Nat.le_of_ble_eq_true rfl)⟩) ⟨preM_blind, va_recv hKc hPc (ci := 7) (q0 := 0) rfl rfl, fun U hU hW => ⟨rfl, preM_at hU hW hPc hKc hDc hev⟩⟩ rfl rfl hl.1 rfl (lv_room (Nat.le_of_ble_eq_true rfl)) dX9_readItem_183 ⟨(Nat.le_of_ble_eq_true rfl), (Nat.le_of_ble_eq_true rfl)⟩) hS (fun q _ h => hFc q h) hFc (fun u t H1 locs ht hvm hw hB hz1 hk1 hS => ?_)
          obtain ⟨im_34, yg_35, gg_36, hq_37, hq_38, hP1, hK1, hD1⟩ := hB
          rw [ht] at hP1
          have hK1 := va_K.moved hvm.symm hK1
          obtain ⟨hP, hD⟩ := va_join (wr := [(i0, .inl (ic, 6, .inr (.inr (.inr (.inr jf))))), (e0, .inl (ec, 120, .inl ef))]) (w1 := [(h0, .inr (7, [v0, v1, v2, v3, v4, v5, v6, v7, v8, v9, .ref e0, .int ts, .int bg_23, .int en_24, .int so_25, .int va_26, .int iw_27, .ref i0, .ref y0, .ref z0, .int im_34, .int sT, .int cT, .int hT, v24, v25, v26, v27])), (y0, .inl (yc, 360, .inl yg_35)), (z0, .inl (zc, 120, .inr (.inl gg_36)))]) hP hD [3, 1, 2] [0, 4] rfl rfl (by decide) (by decide) hk1 hFc hP1 hD1
          generalize H1 = H at hP hS ⊢
          have hP : va_P (dC, dI) vwCl [(i0, .inl (ic, 6, .inr (.inr (.inr (.inr jf))))), (e0, .inl (ec, 120, .inl ef)), (h0, .inr (7, [v0, v1, v2, v3, v4, v5, v6, v7, v8, v9, .ref e0, .int ts, .int bg_23, .int en_24, .int so_25, .int va_26, .int iw_27, .ref i0, .ref y0, .ref z0, .int im_34, .int sT, .int cT, .int hT, v24, v25, v26, v27])), (y0, .inl (yc, 360, .inl yg_35)), (z0, .inl (zc, 120, .inr (.inl gg_36)))] H := hP
          have hD : va_D A [(i0, .inl (ic, 6, .inr (.inr (.inr (.inr jf))))), (e0, .inl (ec, 120, .inl ef)), (h0, .inr (7, [v0, v1, v2, v3, v4, v5, v6, v7, v8, v9, .ref e0, .int ts, .int bg_23, .int en_24, .int so_25, .int va_26, .int iw_27, .ref i0, .ref y0, .ref z0, .int im_34, .int sT, .int cT, .int hT, v24, v25, v26, v27])), (y0, .inl (yc, 360, .inl yg_35)), (z0, .inl (zc, 120, .inr (.inl gg_36)))] := hD
          have hP9 := hP.sub (ws' := [(h0, .inr (7, [v0, v1, v2, v3, v4, v5, v6, v7, v8, v9, .ref e0, .int ts, .int bg_23, .int en_24, .int so_25, .int va_26, .int iw_27, .ref i0, .ref y0, .ref z0, .int im_34, .int sT, .int cT, .int hT, v24, v25, v26, v27])), (e0, .inl (ec, 120, .inl ef)), (i0, .inl (ic, 6, .inr (.inr (.inr (.inr jf))))), (y0, .inl (yc, 360, .inl yg_35)), (z0, .inl (zc, 120, .inr (.inl gg_36)))]) [2, 1, 0, 3, 4] rfl
          have hD9 := hD.sub (ws' := [(h0, .inr (7, [v0, v1, v2, v3, v4, v5, v6, v7, v8, v9, .ref e0, .int ts, .int bg_23, .int en_24, .int so_25, .int va_26, .int iw_27, .ref i0, .ref y0, .ref z0, .int im_34, .int sT, .int cT, .int hT, v24, v25, v26, v27])), (e0, .inl (ec, 120, .inl ef)), (i0, .inl (ic, 6, .inr (.inr (.inr (.inr jf))))), (y0, .inl (yc, 360, .inl yg_35)), (z0, .inl (zc, 120, .inr (.inl gg_36)))]) [2, 1, 0, 3, 4] (by decide) rfl
          have hK9 := hK.sub (tys' := [(ec, .int), (ic, .object "java/lang/String"), (yc, .int), (zc, .long)]) [0, 1, 2, 3] rfl
          exact W.vret hx hb hr (fun t ht hW => ⟨⟨(), rfl, trivial, bg_23, en_24, so_25, va_26, iw_27, sT, cT, hT, im_34, yg_35, gg_36, hq_28, hq_29, hq_30, hq_31, (by first | omega | decide | (simp only [fa_lt, fa_le, fa_eq, and_true, true_and, and_false, false_and, not_true_eq_false, not_false_eq_true, li_0, li_1, li_2, li_3, li_4, li_5, li_6, li_7, li_8, li_9, li_10, li_12, li_15, li_16, li_20, li_30, li_34, li_38, li_40, li_63, li_64, li_65, li_78, li_120, li_1000, li_4000, li_10000, li_11077, li_255, li_65535, li_m1, li_m2, li_m1000000001, li_m1000000002, li_m1000000003, li_m1000000004, li_m1000000005, li_m1000000006, li_m1000000007, or_true, true_or, or_false, false_or, implies_true, true_implies, false_implies] <;> omega)), hq_37, (fun hz => RI_mk hq_38 (Or.inr (Or.inr (Or.inr (Or.inr ⟨by decide, ⟨by omega, by omega⟩, rfl, rfl, rfl⟩))))), (by first | omega | decide | (simp only [fa_lt, fa_le, fa_eq, and_true, true_and, and_false, false_and, not_true_eq_false, not_false_eq_true, li_0, li_1, li_2, li_3, li_4, li_5, li_6, li_7, li_8, li_9, li_10, li_12, li_15, li_16, li_20, li_30, li_34, li_38, li_40, li_63, li_64, li_65, li_78, li_120, li_1000, li_4000, li_10000, li_11077, li_255, li_65535, li_m1, li_m2, li_m1000000001, li_m1000000002, li_m1000000003, li_m1000000004, li_m1000000005, li_m1000000006, li_m1000000007, or_true, true_or, or_false, false_or, implies_true, true_implies, false_implies] <;> omega)), by rw [ht]; exact hP9, va_K.moved hW.alike hK9, hD9⟩, hS.F ht⟩) hS.2.2 dX9_readItem_186
        · skip
          have tc_8 : ¬ r_7.toInt = 0 := fun h => c_8 ((fa_eq _ _).mpr h)
          refine lv_aload_n hx hb dX9_readItem_134 rfl (lv_at hl 1 rfl) ?_
          refine lv_iconst (v := 1) hx hb dX9_readItem_135 (by decide) ?_
          have hPc := hP.sub (ws' := [(h0, .inr (7, [v0, v1, v2, v3, v4, v5, v6, v7, v8, v9, .ref e0, .int ts, .int bg, .int en, .int so, .int va, .int 0, .ref i0, .ref y0, .ref z0, .int im, .int sT, .int cT, .int hT, v24, v25, v26, v27])), (e0, .inl (ec, 120, .inl ef))]) [0, 1] rfl
          have hKc := hK.sub (tys' := [(ec, .int)]) [0] rfl
          have hDc := hD.sub (ws' := [(h0, .inr (7, [v0, v1, v2, v3, v4, v5, v6, v7, v8, v9, .ref e0, .int ts, .int bg, .int en, .int so, .int va, .int 0, .ref i0, .ref y0, .ref z0, .int im, .int sT, .int cT, .int hT, v24, v25, v26, v27])), (e0, .inl (ec, 120, .inl ef))]) [0, 1] (by decide) rfl
          have hFc := va_free (wc := [(h0, .inr (7, [v0, v1, v2, v3, v4, v5, v6, v7, v8, v9, .ref e0, .int ts, .int bg, .int en, .int so, .int va, .int 0, .ref i0, .ref y0, .ref z0, .int im, .int sT, .int cT, .int hT, v24, v25, v26, v27])), (e0, .inl (ec, 120, .inl ef))]) hD hS hA [0, 1] rfl
          refine va_callv (va_runV (As := [.int 1]) (rest := []) ⟨hx, hb, hml, hown, hts⟩ (m_must1 l dC dI ad h0 v0 v1 v2 v3 v4 v5 v6 v7 v8 v9 e0 ts bg en so va (.ref i0) (.ref y0) (.ref z0) (.int im) (.int sT) (.int cT) (.int hT) v24 v25 v26 v27 ec ef s.heap.size htm hlx hso hva) (cwV 1 hts g_m_readItem_m_must1_224 rfl rfl rfl (by decide +kernel) ⟨(Nat.le_of_ble_eq_true rfl), (Nat.le_of_ble_eq_true rfl)⟩) ⟨preM_blind, va_recv hKc hPc (ci := 7) (q0 := 0) rfl rfl, fun U hU hW => ⟨rfl, preM_at hU hW hPc hKc hDc hev⟩⟩ rfl rfl hl.1 rfl (lv_room (Nat.le_of_ble_eq_true rfl)) dX9_readItem_136 ⟨(Nat.le_of_ble_eq_true rfl), (Nat.le_of_ble_eq_true rfl)⟩) hS (fun q _ h => hFc q h) hFc (fun u t H1 locs ht hvm hw hB hz1 hk1 hS => ?_)
          obtain ⟨bg_40, en_41, so_42, va_43, hq_44, hq_45, hq_46, hq_47, hP1, hK1, hD1⟩ := hB
          rw [ht] at hP1
          have hK1 := va_K.moved hvm.symm hK1
          obtain ⟨hP, hD⟩ := va_join (wr := [(i0, .inl (ic, 6, .inr (.inr (.inr (.inr jf))))), (y0, .inl (yc, 360, .inl yf)), (z0, .inl (zc, 120, .inr (.inl gf)))]) (w1 := [(h0, .inr (7, [v0, v1, v2, v3, v4, v5, v6, v7, v8, v9, .ref e0, .int ts, .int bg_40, .int en_41, .int so_42, .int va_43, .int 0, .ref i0, .ref y0, .ref z0, .int im, .int sT, .int cT, .int hT, v24, v25, v26, v27])), (e0, .inl (ec, 120, .inl ef))]) hP hD [0, 1] [2, 3, 4] rfl rfl (by decide) (by decide) hk1 hFc hP1 hD1
          generalize H1 = H at hP hS ⊢
          have hP : va_P (dC, dI) vwCl [(i0, .inl (ic, 6, .inr (.inr (.inr (.inr jf))))), (y0, .inl (yc, 360, .inl yf)), (z0, .inl (zc, 120, .inr (.inl gf))), (h0, .inr (7, [v0, v1, v2, v3, v4, v5, v6, v7, v8, v9, .ref e0, .int ts, .int bg_40, .int en_41, .int so_42, .int va_43, .int 0, .ref i0, .ref y0, .ref z0, .int im, .int sT, .int cT, .int hT, v24, v25, v26, v27])), (e0, .inl (ec, 120, .inl ef))] H := hP
          have hD : va_D A [(i0, .inl (ic, 6, .inr (.inr (.inr (.inr jf))))), (y0, .inl (yc, 360, .inl yf)), (z0, .inl (zc, 120, .inr (.inl gf))), (h0, .inr (7, [v0, v1, v2, v3, v4, v5, v6, v7, v8, v9, .ref e0, .int ts, .int bg_40, .int en_41, .int so_42, .int va_43, .int 0, .ref i0, .ref y0, .ref z0, .int im, .int sT, .int cT, .int hT, v24, v25, v26, v27])), (e0, .inl (ec, 120, .inl ef))] := hD
          refine lv_aload_n hx hb dX9_readItem_139 rfl (lv_at hl 1 rfl) ?_
          refine lv_iconst (v := 0) hx hb dX9_readItem_140 (by decide) ?_
          refine va_put (D := (dC, dI)) (ci := 7) (v := .int 0) (ty := .int) (C := RX9) (T := TX9) (N := 28) hx hb hts inX9 tyX9 tyX9_ok nmX9 hown hK hP hD hS 3 rfl rfl 23 (by decide) (hts _ (List.mem_of_getElem? (i := 101) rfl)) (fun _ h9 => h9) rfl (by decide +kernel) rfl rfl (Nat.le_of_ble_eq_true rfl) dX9_readItem_141 (fun H locs hP hD hS => ?_)
          have hP : va_P (dC, dI) vwCl [(i0, .inl (ic, 6, .inr (.inr (.inr (.inr jf))))), (y0, .inl (yc, 360, .inl yf)), (z0, .inl (zc, 120, .inr (.inl gf))), (h0, .inr (7, [v0, v1, v2, v3, v4, v5, v6, v7, v8, v9, .ref e0, .int ts, .int bg_40, .int en_41, .int so_42, .int va_43, .int 0, .ref i0, .ref y0, .ref z0, .int im, .int sT, .int cT, .int 0, v24, v25, v26, v27])), (e0, .inl (ec, 120, .inl ef))] H := hP
          have hD : va_D A [(i0, .inl (ic, 6, .inr (.inr (.inr (.inr jf))))), (y0, .inl (yc, 360, .inl yf)), (z0, .inl (zc, 120, .inr (.inl gf))), (h0, .inr (7, [v0, v1, v2, v3, v4, v5, v6, v7, v8, v9, .ref e0, .int ts, .int bg_40, .int en_41, .int so_42, .int va_43, .int 0, .ref i0, .ref y0, .ref z0, .int im, .int sT, .int cT, .int 0, v24, v25, v26, v27])), (e0, .inl (ec, 120, .inl ef))] := hD
          refine lv_aload_n hx hb dX9_readItem_144 rfl (lv_at hl 1 rfl) ?_
          refine lv_bipush (v := 12) hx hb dX9_readItem_145 (by decide) ?_
          refine lv_iconst (v := 0) hx hb dX9_readItem_147 (by decide) ?_
          refine lv_iconst (v := 0) hx hb dX9_readItem_148 (by decide) ?_
          refine lv_lconst (v := 0) hx hb dX9_readItem_149 (by decide) ?_
          have hPc := hP.sub (ws' := [(h0, .inr (7, [v0, v1, v2, v3, v4, v5, v6, v7, v8, v9, .ref e0, .int ts, .int bg_40, .int en_41, .int so_42, .int va_43, .int 0, .ref i0, .ref y0, .ref z0, .int im, .int sT, .int cT, .int 0, v24, v25, v26, v27])), (y0, .inl (yc, 360, .inl yf)), (z0, .inl (zc, 120, .inr (.inl gf)))]) [3, 1, 2] rfl
          have hKc := hK.sub (tys' := [(yc, .int), (zc, .long)]) [2, 3] rfl
          have hDc := hD.sub (ws' := [(h0, .inr (7, [v0, v1, v2, v3, v4, v5, v6, v7, v8, v9, .ref e0, .int ts, .int bg_40, .int en_41, .int so_42, .int va_43, .int 0, .ref i0, .ref y0, .ref z0, .int im, .int sT, .int cT, .int 0, v24, v25, v26, v27])), (y0, .inl (yc, 360, .inl yf)), (z0, .inl (zc, 120, .inr (.inl gf)))]) [3, 1, 2] (by decide) rfl
          have hFc := va_free (wc := [(h0, .inr (7, [v0, v1, v2, v3, v4, v5, v6, v7, v8, v9, .ref e0, .int ts, .int bg_40, .int en_41, .int so_42, .int va_43, .int 0, .ref i0, .ref y0, .ref z0, .int im, .int sT, .int cT, .int 0, v24, v25, v26, v27])), (y0, .inl (yc, 360, .inl yf)), (z0, .inl (zc, 120, .inr (.inl gf)))]) hD hS hA [3, 1, 2] rfl
          refine va_callv (va_runV (As := [.int 12, .int 0, .int 0, .long 0]) (rest := []) ⟨hx, hb, hml, hown, hts⟩ (m_item l dC dI ad h0 12 0 0 0 v0 v1 v2 v3 v4 v5 v6 v7 v8 v9 (.ref e0) (.int ts) (.int bg_40) (.int en_41) (.int so_42) (.int va_43) (.int 0) (.ref i0) y0 z0 im (.int sT) (.int cT) (.int 0) v24 v25 v26 v27 yc yf zc gf H.size him) (cwV 4 hts g_m_readItem_m_item_247 rfl rfl rfl (by decide +kernel) ⟨(Nat.le_of_ble_eq_true rfl), (Nat.le_of_ble_eq_true rfl)⟩) ⟨preM_blind, va_recv hKc hPc (ci := 7) (q0 := 0) rfl rfl, fun U hU hW => ⟨rfl, preM_at hU hW hPc hKc hDc hev⟩⟩ rfl rfl hl.1 rfl (lv_room (Nat.le_of_ble_eq_true rfl)) dX9_readItem_150 ⟨(Nat.le_of_ble_eq_true rfl), (Nat.le_of_ble_eq_true rfl)⟩) hS (fun q _ h => hFc q h) hFc (fun u t H1 locs ht hvm hw hB hz1 hk1 hS => ?_)
          obtain ⟨im_49, yg_50, gg_51, hq_52, hq_53, hP1, hK1, hD1⟩ := hB
          rw [ht] at hP1
          have hK1 := va_K.moved hvm.symm hK1
          obtain ⟨hP, hD⟩ := va_join (wr := [(i0, .inl (ic, 6, .inr (.inr (.inr (.inr jf))))), (e0, .inl (ec, 120, .inl ef))]) (w1 := [(h0, .inr (7, [v0, v1, v2, v3, v4, v5, v6, v7, v8, v9, .ref e0, .int ts, .int bg_40, .int en_41, .int so_42, .int va_43, .int 0, .ref i0, .ref y0, .ref z0, .int im_49, .int sT, .int cT, .int 0, v24, v25, v26, v27])), (y0, .inl (yc, 360, .inl yg_50)), (z0, .inl (zc, 120, .inr (.inl gg_51)))]) hP hD [3, 1, 2] [0, 4] rfl rfl (by decide) (by decide) hk1 hFc hP1 hD1
          generalize H1 = H at hP hS ⊢
          have hP : va_P (dC, dI) vwCl [(i0, .inl (ic, 6, .inr (.inr (.inr (.inr jf))))), (e0, .inl (ec, 120, .inl ef)), (h0, .inr (7, [v0, v1, v2, v3, v4, v5, v6, v7, v8, v9, .ref e0, .int ts, .int bg_40, .int en_41, .int so_42, .int va_43, .int 0, .ref i0, .ref y0, .ref z0, .int im_49, .int sT, .int cT, .int 0, v24, v25, v26, v27])), (y0, .inl (yc, 360, .inl yg_50)), (z0, .inl (zc, 120, .inr (.inl gg_51)))] H := hP
          have hD : va_D A [(i0, .inl (ic, 6, .inr (.inr (.inr (.inr jf))))), (e0, .inl (ec, 120, .inl ef)), (h0, .inr (7, [v0, v1, v2, v3, v4, v5, v6, v7, v8, v9, .ref e0, .int ts, .int bg_40, .int en_41, .int so_42, .int va_43, .int 0, .ref i0, .ref y0, .ref z0, .int im_49, .int sT, .int cT, .int 0, v24, v25, v26, v27])), (y0, .inl (yc, 360, .inl yg_50)), (z0, .inl (zc, 120, .inr (.inl gg_51)))] := hD
          refine lv_goto (tgt := 186) hx hb dX9_readItem_153 (by decide) ?_
          have hP9 := hP.sub (ws' := [(h0, .inr (7, [v0, v1, v2, v3, v4, v5, v6, v7, v8, v9, .ref e0, .int ts, .int bg_40, .int en_41, .int so_42, .int va_43, .int 0, .ref i0, .ref y0, .ref z0, .int im_49, .int sT, .int cT, .int 0, v24, v25, v26, v27])), (e0, .inl (ec, 120, .inl ef)), (i0, .inl (ic, 6, .inr (.inr (.inr (.inr jf))))), (y0, .inl (yc, 360, .inl yg_50)), (z0, .inl (zc, 120, .inr (.inl gg_51)))]) [2, 1, 0, 3, 4] rfl
          have hD9 := hD.sub (ws' := [(h0, .inr (7, [v0, v1, v2, v3, v4, v5, v6, v7, v8, v9, .ref e0, .int ts, .int bg_40, .int en_41, .int so_42, .int va_43, .int 0, .ref i0, .ref y0, .ref z0, .int im_49, .int sT, .int cT, .int 0, v24, v25, v26, v27])), (e0, .inl (ec, 120, .inl ef)), (i0, .inl (ic, 6, .inr (.inr (.inr (.inr jf))))), (y0, .inl (yc, 360, .inl yg_50)), (z0, .inl (zc, 120, .inr (.inl gg_51)))]) [2, 1, 0, 3, 4] (by decide) rfl
          have hK9 := hK.sub (tys' := [(ec, .int), (ic, .object "java/lang/String"), (yc, .int), (zc, .long)]) [0, 1, 2, 3] rfl
          exact W.vret hx hb hr (fun t ht hW => ⟨⟨(), rfl, trivial, bg_40, en_41, so_42, va_43, 0, sT, cT, 0, im_49, yg_50, gg_51, hq_44, hq_45, hq_46, (by first | omega | decide | (simp only [fa_lt, fa_le, fa_eq, and_true, true_and, and_false, false_and, not_true_eq_false, not_false_eq_true, li_0, li_1, li_2, li_3, li_4, li_5, li_6, li_7, li_8, li_9, li_10, li_12, li_15, li_16, li_20, li_30, li_34, li_38, li_40, li_63, li_64, li_65, li_78, li_120, li_1000, li_4000, li_10000, li_11077, li_255, li_65535, li_m1, li_m2, li_m1000000001, li_m1000000002, li_m1000000003, li_m1000000004, li_m1000000005, li_m1000000006, li_m1000000007, or_true, true_or, or_false, false_or, implies_true, true_implies, false_implies] <;> omega)), (by first | omega | decide | (simp only [fa_lt, fa_le, fa_eq, and_true, true_and, and_false, false_and, not_true_eq_false, not_false_eq_true, li_0, li_1, li_2, li_3, li_4, li_5, li_6, li_7, li_8, li_9, li_10, li_12, li_15, li_16, li_20, li_30, li_34, li_38, li_40, li_63, li_64, li_65, li_78, li_120, li_1000, li_4000, li_10000, li_11077, li_255, li_65535, li_m1, li_m2, li_m1000000001, li_m1000000002, li_m1000000003, li_m1000000004, li_m1000000005, li_m1000000006, li_m1000000007, or_true, true_or, or_false, false_or, implies_true, true_implies, false_implies] <;> omega)), hq_52, (fun hz => RI_mk hq_53 (Or.inr (Or.inr (Or.inr (Or.inl ⟨by decide, rfl, rfl, by decide⟩))))), (by first | omega | decide | (simp only [fa_lt, fa_le, fa_eq, and_true, true_and, and_false, false_and, not_true_eq_false, not_false_eq_true, li_0, li_1, li_2, li_3, li_4, li_5, li_6, li_7, li_8, li_9, li_10, li_12, li_15, li_16, li_20, li_30, li_34, li_38, li_40, li_63, li_64, li_65, li_78, li_120, li_1000, li_4000, li_10000, li_11077, li_255, li_65535, li_m1, li_m2, li_m1000000001, li_m1000000002, li_m1000000003, li_m1000000004, li_m1000000005, li_m1000000006, li_m1000000007, or_true, true_or, or_false, false_or, implies_true, true_implies, false_implies] <;> omega)), by rw [ht]; exact hP9, va_K.moved hW.alike hK9, hD9⟩, hS.F ht⟩) hS.2.2 dX9_readItem_186
      · skip
        have tc_6 : ¬ r_5.toInt = 0 := fun h => c_6 ((fa_eq _ _).mpr h)
        refine lv_aload_n hx hb dX9_readItem_117 rfl (lv_at hl 1 rfl) ?_
        have hPc := hP.sub (ws' := [(h0, .inr (7, [v0, v1, v2, v3, v4, v5, v6, v7, v8, v9, .ref e0, .int ts, .int bg, .int en, .int so, .int va, .int 0, .ref i0, .ref y0, .ref z0, .int im, .int sT, .int cT, .int hT, v24, v25, v26, v27])), (e0, .inl (ec, 120, .inl ef)), (y0, .inl (yc, 360, .inl yf)), (z0, .inl (zc, 120, .inr (.inl gf)))]) [0, 1, 3, 4] rfl
        have hKc := hK.sub (tys' := [(ec, .int), (yc, .int), (zc, .long)]) [0, 2, 3] rfl
        have hDc := hD.sub (ws' := [(h0, .inr (7, [v0, v1, v2, v3, v4, v5, v6, v7, v8, v9, .ref e0, .int ts, .int bg, .int en, .int so, .int va, .int 0, .ref i0, .ref y0, .ref z0, .int im, .int sT, .int cT, .int hT, v24, v25, v26, v27])), (e0, .inl (ec, 120, .inl ef)), (y0, .inl (yc, 360, .inl yf)), (z0, .inl (zc, 120, .inr (.inl gf)))]) [0, 1, 3, 4] (by decide) rfl
        have hFc := va_free (wc := [(h0, .inr (7, [v0, v1, v2, v3, v4, v5, v6, v7, v8, v9, .ref e0, .int ts, .int bg, .int en, .int so, .int va, .int 0, .ref i0, .ref y0, .ref z0, .int im, .int sT, .int cT, .int hT, v24, v25, v26, v27])), (e0, .inl (ec, 120, .inl ef)), (y0, .inl (yc, 360, .inl yf)), (z0, .inl (zc, 120, .inr (.inl gf)))]) hD hS hA [0, 1, 3, 4] rfl
        refine va_callv (va_runV (As := []) (rest := []) ⟨hx, hb, hml, hown, hts⟩ (m_readHold l dC dI ad h0 v0 v1 v2 v3 v4 v5 v6 v7 v8 v9 e0 ts bg en so va (.ref i0) y0 z0 im sT (.int cT) hT v24 v25 v26 v27 ec ef yc yf zc gf s.heap.size htm hlx hso hva hht hst him) (cwV 0 hts g_m_readItem_m_readHold_258 rfl rfl rfl (by decide +kernel) ⟨(Nat.le_of_ble_eq_true rfl), (Nat.le_of_ble_eq_true rfl)⟩) ⟨preT_blind, va_recv hKc hPc (ci := 7) (q0 := 0) rfl rfl, fun U hU hW => ⟨rfl, preM_at hU hW hPc hKc hDc hev, sf_at hsf hS hFc hU hW⟩⟩ rfl rfl hl.1 rfl (lv_room (Nat.le_of_ble_eq_true rfl)) dX9_readItem_118 ⟨(Nat.le_of_ble_eq_true rfl), (Nat.le_of_ble_eq_true rfl)⟩) hS (fun q _ h => hFc q h) hFc (fun u t H1 locs ht hvm hw hB hz1 hk1 hS => ?_)
        obtain ⟨bg_55, en_56, so_57, va_58, iw_59, hT_60, im_61, yg_62, gg_63, hq_64, hq_65, hq_66, hq_67, hq_68, hq_69, hq_70, hP1, hK1, hD1⟩ := hB
        rw [ht] at hP1
        have hK1 := va_K.moved hvm.symm hK1
        obtain ⟨hP, hD⟩ := va_join (wr := [(i0, .inl (ic, 6, .inr (.inr (.inr (.inr jf)))))]) (w1 := [(h0, .inr (7, [v0, v1, v2, v3, v4, v5, v6, v7, v8, v9, .ref e0, .int ts, .int bg_55, .int en_56, .int so_57, .int va_58, .int iw_59, .ref i0, .ref y0, .ref z0, .int im_61, .int sT, .int cT, .int hT_60, v24, v25, v26, v27])), (e0, .inl (ec, 120, .inl ef)), (y0, .inl (yc, 360, .inl yg_62)), (z0, .inl (zc, 120, .inr (.inl gg_63)))]) hP hD [0, 1, 3, 4] [2] rfl rfl (by decide) (by decide) hk1 hFc hP1 hD1
        generalize H1 = H at hP hS ⊢
        have hP : va_P (dC, dI) vwCl [(i0, .inl (ic, 6, .inr (.inr (.inr (.inr jf))))), (h0, .inr (7, [v0, v1, v2, v3, v4, v5, v6, v7, v8, v9, .ref e0, .int ts, .int bg_55, .int en_56, .int so_57, .int va_58, .int iw_59, .ref i0, .ref y0, .ref z0, .int im_61, .int sT, .int cT, .int hT_60, v24, v25, v26, v27])), (e0, .inl (ec, 120, .inl ef)), (y0, .inl (yc, 360, .inl yg_62)), (z0, .inl (zc, 120, .inr (.inl gg_63)))] H := hP
        have hD : va_D A [(i0, .inl (ic, 6, .inr (.inr (.inr (.inr jf))))), (h0, .inr (7, [v0, v1, v2, v3, v4, v5, v6, v7, v8, v9, .ref e0, .int ts, .int bg_55, .int en_56, .int so_57, .int va_58, .int iw_59, .ref i0, .ref y0, .ref z0, .int im_61, .int sT, .int cT, .int hT_60, v24, v25, v26, v27])), (e0, .inl (ec, 120, .inl ef)), (y0, .inl (yc, 360, .inl yg_62)), (z0, .inl (zc, 120, .inr (.inl gg_63)))] := hD
        refine lv_goto (tgt := 186) hx hb dX9_readItem_121 (by decide) ?_
        have hP9 := hP.sub (ws' := [(h0, .inr (7, [v0, v1, v2, v3, v4, v5, v6, v7, v8, v9, .ref e0, .int ts, .int bg_55, .int en_56, .int so_57, .int va_58, .int iw_59, .ref i0, .ref y0, .ref z0, .int im_61, .int sT, .int cT, .int hT_60, v24, v25, v26, v27])), (e0, .inl (ec, 120, .inl ef)), (i0, .inl (ic, 6, .inr (.inr (.inr (.inr jf))))), (y0, .inl (yc, 360, .inl yg_62)), (z0, .inl (zc, 120, .inr (.inl gg_63)))]) [1, 2, 0, 3, 4] rfl
        have hD9 := hD.sub (ws' := [(h0, .inr (7, [v0, v1, v2, v3, v4, v5, v6, v7, v8, v9, .ref e0, .int ts, .int bg_55, .int en_56, .int so_57, .int va_58, .int iw_59, .ref i0, .ref y0, .ref z0, .int im_61, .int sT, .int cT, .int hT_60, v24, v25, v26, v27])), (e0, .inl (ec, 120, .inl ef)), (i0, .inl (ic, 6, .inr (.inr (.inr (.inr jf))))), (y0, .inl (yc, 360, .inl yg_62)), (z0, .inl (zc, 120, .inr (.inl gg_63)))]) [1, 2, 0, 3, 4] (by decide) rfl
        have hK9 := hK.sub (tys' := [(ec, .int), (ic, .object "java/lang/String"), (yc, .int), (zc, .long)]) [0, 1, 2, 3] rfl
        exact W.vret hx hb hr (fun t ht hW => ⟨⟨(), rfl, trivial, bg_55, en_56, so_57, va_58, iw_59, sT, cT, hT_60, im_61, yg_62, gg_63, hq_64, hq_65, hq_66, hq_67, (by first | omega | decide | (simp only [fa_lt, fa_le, fa_eq, and_true, true_and, and_false, false_and, not_true_eq_false, not_false_eq_true, li_0, li_1, li_2, li_3, li_4, li_5, li_6, li_7, li_8, li_9, li_10, li_12, li_15, li_16, li_20, li_30, li_34, li_38, li_40, li_63, li_64, li_65, li_78, li_120, li_1000, li_4000, li_10000, li_11077, li_255, li_65535, li_m1, li_m2, li_m1000000001, li_m1000000002, li_m1000000003, li_m1000000004, li_m1000000005, li_m1000000006, li_m1000000007, or_true, true_or, or_false, false_or, implies_true, true_implies, false_implies] <;> omega)), hq_69, (fun hz => (hq_70 hz cT.toInt).1), (by first | omega | decide | (simp only [fa_lt, fa_le, fa_eq, and_true, true_and, and_false, false_and, not_true_eq_false, not_false_eq_true, li_0, li_1, li_2, li_3, li_4, li_5, li_6, li_7, li_8, li_9, li_10, li_12, li_15, li_16, li_20, li_30, li_34, li_38, li_40, li_63, li_64, li_65, li_78, li_120, li_1000, li_4000, li_10000, li_11077, li_255, li_65535, li_m1, li_m2, li_m1000000001, li_m1000000002, li_m1000000003, li_m1000000004, li_m1000000005, li_m1000000006, li_m1000000007, or_true, true_or, or_false, false_or, implies_true, true_implies, false_implies] <;> omega) | (intro hz; have h9 := (hq_70 hz 0).2; omega)), by rw [ht]; exact hP9, va_K.moved hW.alike hK9, hD9⟩, hS.F ht⟩) hS.2.2 dX9_readItem_186
    · skip
      have tc_4 : ¬ r_3.toInt = 0 := fun h => c_4 ((fa_eq _ _).mpr h)
      refine lv_aload_n hx hb dX9_readItem_62 rfl (lv_at hl 1 rfl) ?_
      refine lv_aload_n hx hb dX9_readItem_63 rfl (lv_at hl 1 rfl) ?_
      refine va_get (D := (dC, dI)) (ci := 7) (v := .int cT) (C := RX9) (T := TX9) (N := 28) hx hb hts inX9 hown hK hP 0 rfl rfl 22 (by decide) (hts _ (List.mem_of_getElem? (i := 113) rfl)) (fun _ h9 => h9) rfl dX9_readItem_64 ?_
      refine lv_bipush (v := 7) hx hb dX9_readItem_67 (by decide) ?_
      refine lv_icmp_ge (tgt := 76) hx hb dX9_readItem_69 (by decide) (fun c_71 => ?_) (fun c_71 => ?_)
      · skip
        have tc_71 : 7 ≤ cT.toInt := (fa_le _ _).mp c_71
        refine lv_iconst (v := 0) hx hb dX9_readItem_76 (by decide) ?_
        have hPc := hP.sub (ws' := [(h0, .inr (7, [v0, v1, v2, v3, v4, v5, v6, v7, v8, v9, .ref e0, .int ts, .int bg, .int en, .int so, .int va, .int 0, .ref i0, .ref y0, .ref z0, .int im, .int sT, .int cT, .int hT, v24, v25, v26, v27]))]) [0] rfl
        have hKc := hK.sub (tys' := []) [] rfl
        have hDc := hD.sub (ws' := [(h0, .inr (7, [v0, v1, v2, v3, v4, v5, v6, v7, v8, v9, .ref e0, .int ts, .int bg, .int en, .int so, .int va, .int 0, .ref i0, .ref y0, .ref z0, .int im, .int sT, .int cT, .int hT, v24, v25, v26, v27]))]) [0] (by decide) rfl
        have hFc := va_free (wc := [(h0, .inr (7, [v0, v1, v2, v3, v4, v5, v6, v7, v8, v9, .ref e0, .int ts, .int bg, .int en, .int so, .int va, .int 0, .ref i0, .ref y0, .ref z0, .int im, .int sT, .int cT, .int hT, v24, v25, v26, v27]))]) hD hS hA [0] rfl
        refine va_callv (va_runV (As := [.int 0]) (rest := []) ⟨hx, hb, hml, hown, hts⟩ (m_must0 l dC dI ad h0 v0 v1 v2 v3 v4 v5 v6 v7 v8 v9 (.ref e0) (.int ts) (.int bg) (.int en) (.int so) (.int va) 0 (.ref i0) (.ref y0) (.ref z0) (.int im) (.int sT) (.int cT) (.int hT) v24 v25 v26 v27 s.heap.size ) (cwV 1 hts g_m_readItem_m_must0_224 rfl rfl rfl (by decide +kernel) ⟨(Nat.le_of_ble_eq_true rfl), (Nat.le_of_ble_eq_true rfl)⟩) ⟨preM_blind, va_recv hKc hPc (ci := 7) (q0 := 0) rfl rfl, fun U hU hW => ⟨rfl, preM_at hU hW hPc hKc hDc hev⟩⟩ rfl rfl hl.1 rfl (lv_room (Nat.le_of_ble_eq_true rfl)) dX9_readItem_77 ⟨(Nat.le_of_ble_eq_true rfl), (Nat.le_of_ble_eq_true rfl)⟩) hS (fun q _ h => hFc q h) hFc (fun u t H1 locs ht hvm hw hB hz1 hk1 hS => ?_)
        obtain ⟨hP1, hK1, hD1⟩ := hB
        rw [ht] at hP1
        have hK1 := va_K.moved hvm.symm hK1
        obtain ⟨hP, hD⟩ := va_join (wr := [(e0, .inl (ec, 120, .inl ef)), (i0, .inl (ic, 6, .inr (.inr (.inr (.inr jf))))), (y0, .inl (yc, 360, .inl yf)), (z0, .inl (zc, 120, .inr (.inl gf)))]) (w1 := [(h0, .inr (7, [v0, v1, v2, v3, v4, v5, v6, v7, v8, v9, .ref e0, .int ts, .int bg, .int en, .int so, .int va, .int 1, .ref i0, .ref y0, .ref z0, .int im, .int sT, .int cT, .int hT, v24, v25, v26, v27]))]) hP hD [0] [1, 2, 3, 4] rfl rfl (by decide) (by decide) hk1 hFc hP1 hD1
        generalize H1 = H at hP hS ⊢
        have hP : va_P (dC, dI) vwCl [(e0, .inl (ec, 120, .inl ef)), (i0, .inl (ic, 6, .inr (.inr (.inr (.inr jf))))), (y0, .inl (yc, 360, .inl yf)), (z0, .inl (zc, 120, .inr (.inl gf))), (h0, .inr (7, [v0, v1, v2, v3, v4, v5, v6, v7, v8, v9, .ref e0, .int ts, .int bg, .int en, .int so, .int va, .int 1, .ref i0, .ref y0, .ref z0, .int im, .int sT, .int cT, .int hT, v24, v25, v26, v27]))] H := hP
        have hD : va_D A [(e0, .inl (ec, 120, .inl ef)), (i0, .inl (ic, 6, .inr (.inr (.inr (.inr jf))))), (y0, .inl (yc, 360, .inl yf)), (z0, .inl (zc, 120, .inr (.inl gf))), (h0, .inr (7, [v0, v1, v2, v3, v4, v5, v6, v7, v8, v9, .ref e0, .int ts, .int bg, .int en, .int so, .int va, .int 1, .ref i0, .ref y0, .ref z0, .int im, .int sT, .int cT, .int hT, v24, v25, v26, v27]))] := hD
        refine lv_aload_n hx hb dX9_readItem_80 rfl (lv_at hl 1 rfl) ?_
        refine lv_dup hx hb dX9_readItem_81 rfl ?_
        refine va_get (D := (dC, dI)) (ci := 7) (v := .int cT) (C := RX9) (T := TX9) (N := 28) hx hb hts inX9 hown hK hP 4 rfl rfl 22 (by decide) (hts _ (List.mem_of_getElem? (i := 113) rfl)) (fun _ h9 => h9) rfl dX9_readItem_82 ?_
        refine lv_iconst (v := 1) hx hb dX9_readItem_85 (by decide) ?_
        refine lv_iadd hx hb dX9_readItem_86 ?_
        refine lv_topi (fun n_73 en_73 => ?_)
        have tn_73 : n_73.toInt = cT.toInt + 1 := pp_add en_73 rfl rfl (by omega) (by omega)
        clear en_73
        refine va_put (D := (dC, dI)) (ci := 7) (v := .int n_73) (ty := .int) (C := RX9) (T := TX9) (N := 28) hx hb hts inX9 tyX9 tyX9_ok nmX9 hown hK hP hD hS 4 rfl rfl 22 (by decide) (hts _ (List.mem_of_getElem? (i := 113) rfl)) (fun _ h9 => h9) rfl (by decide +kernel) rfl rfl (Nat.le_of_ble_eq_true rfl) dX9_readItem_87 (fun H locs hP hD hS => ?_)
        have hP : va_P (dC, dI) vwCl [(e0, .inl (ec, 120, .inl ef)), (i0, .inl (ic, 6, .inr (.inr (.inr (.inr jf))))), (y0, .inl (yc, 360, .inl yf)), (z0, .inl (zc, 120, .inr (.inl gf))), (h0, .inr (7, [v0, v1, v2, v3, v4, v5, v6, v7, v8, v9, .ref e0, .int ts, .int bg, .int en, .int so, .int va, .int 1, .ref i0, .ref y0, .ref z0, .int im, .int sT, .int n_73, .int hT, v24, v25, v26, v27]))] H := hP
        have hD : va_D A [(e0, .inl (ec, 120, .inl ef)), (i0, .inl (ic, 6, .inr (.inr (.inr (.inr jf))))), (y0, .inl (yc, 360, .inl yf)), (z0, .inl (zc, 120, .inr (.inl gf))), (h0, .inr (7, [v0, v1, v2, v3, v4, v5, v6, v7, v8, v9, .ref e0, .int ts, .int bg, .int en, .int so, .int va, .int 1, .ref i0, .ref y0, .ref z0, .int im, .int sT, .int n_73, .int hT, v24, v25, v26, v27]))] := hD
        refine lv_aload_n hx hb dX9_readItem_90 rfl (lv_at hl 1 rfl) ?_
        refine lv_bipush (v := 10) hx hb dX9_readItem_91 (by decide) ?_
        refine lv_iconst (v := 0) hx hb dX9_readItem_93 (by decide) ?_
        refine lv_iconst (v := 0) hx hb dX9_readItem_94 (by decide) ?_
        refine lv_aload_n hx hb dX9_readItem_95 rfl (lv_at hl 1 rfl) ?_
        refine lv_bipush (v := 8) hx hb dX9_readItem_96 (by decide) ?_
        have hPc := hP.sub (ws' := [(h0, .inr (7, [v0, v1, v2, v3, v4, v5, v6, v7, v8, v9, .ref e0, .int ts, .int bg, .int en, .int so, .int va, .int 1, .ref i0, .ref y0, .ref z0, .int im, .int sT, .int n_73, .int hT, v24, v25, v26, v27])), (e0, .inl (ec, 120, .inl ef))]) [4, 0] rfl
        have hKc := hK.sub (tys' := [(ec, .int)]) [0] rfl
        have hDc := hD.sub (ws' := [(h0, .inr (7, [v0, v1, v2, v3, v4, v5, v6, v7, v8, v9, .ref e0, .int ts, .int bg, .int en, .int so, .int va, .int 1, .ref i0, .ref y0, .ref z0, .int im, .int sT, .int n_73, .int hT, v24, v25, v26, v27])), (e0, .inl (ec, 120, .inl ef))]) [4, 0] (by decide) rfl
        have hFc := va_free (wc := [(h0, .inr (7, [v0, v1, v2, v3, v4, v5, v6, v7, v8, v9, .ref e0, .int ts, .int bg, .int en, .int so, .int va, .int 1, .ref i0, .ref y0, .ref z0, .int im, .int sT, .int n_73, .int hT, v24, v25, v26, v27])), (e0, .inl (ec, 120, .inl ef))]) hD hS hA [4, 0] rfl
        refine va_calll (va_runV (As := [.int 8]) (rest := [.int 0, .int 0, .int 10, .ref h0]) ⟨hx, hb, hml, hown, hts⟩ (m_readRows l dC dI ad h0 8 v0 v1 v2 v3 v4 v5 v6 v7 v8 v9 e0 ts bg en so va 1 (.ref i0) (.ref y0) (.ref z0) (.int im) (.int sT) (.int n_73) (.int hT) v24 v25 v26 v27 ec ef H.size htm hlx hso hva (by first | omega | decide | (simp only [fa_lt, fa_le, fa_eq, and_true, true_and, and_false, false_and, not_true_eq_false, not_false_eq_true, li_0, li_1, li_2, li_3, li_4, li_5, li_6, li_7, li_8, li_9, li_10, li_12, li_15, li_16, li_20, li_30, li_34, li_38, li_40, li_63, li_64, li_65, li_78, li_120, li_1000, li_4000, li_10000, li_11077, li_255, li_65535, li_m1, li_m2, li_m1000000001, li_m1000000002, li_m1000000003, li_m1000000004, li_m1000000005, li_m1000000006, li_m1000000007, or_true, true_or, or_false, false_or, implies_true, true_implies, false_implies] <;> omega)) (by first | omega | decide | (simp only [fa_lt, fa_le, fa_eq, and_true, true_and, and_false, false_and, not_true_eq_false, not_false_eq_true, li_0, li_1, li_2, li_3, li_4, li_5, li_6, li_7, li_8, li_9, li_10, li_12, li_15, li_16, li_20, li_30, li_34, li_38, li_40, li_63, li_64, li_65, li_78, li_120, li_1000, li_4000, li_10000, li_11077, li_255, li_65535, li_m1, li_m2, li_m1000000001, li_m1000000002, li_m1000000003, li_m1000000004, li_m1000000005, li_m1000000006, li_m1000000007, or_true, true_or, or_false, false_or, implies_true, true_implies, false_implies] <;> omega))) (cwV 1 hts g_m_readItem_m_readRows_244 rfl rfl rfl (by decide +kernel) ⟨(Nat.le_of_ble_eq_true rfl), (Nat.le_of_ble_eq_true rfl)⟩) ⟨preM_blind, va_recv hKc hPc (ci := 7) (q0 := 0) rfl rfl, fun U hU hW => ⟨rfl, preM_at hU hW hPc hKc hDc hev⟩⟩ rfl rfl hl.1 rfl (lv_room (Nat.le_of_ble_eq_true rfl)) dX9_readItem_98 ⟨(Nat.le_of_ble_eq_true rfl), (Nat.le_of_ble_eq_true rfl)⟩) hS (fun q _ h => hFc q h) hFc (fun r_74 u t H1 locs ht hvm hw hB hz1 hk1 hS => ?_)
        obtain ⟨bg_75, en_76, so_77, va_78, iw_79, hq_80, hq_81, hq_82, hq_83, hq_84, hP1, hK1, hD1⟩ := hB
        rw [ht] at hP1
        have hK1 := va_K.moved hvm.symm hK1
        obtain ⟨hP, hD⟩ := va_join (wr := [(i0, .inl (ic, 6, .inr (.inr (.inr (.inr jf))))), (y0, .inl (yc, 360, .inl yf)), (z0, .inl (zc, 120, .inr (.inl gf)))]) (w1 := [(h0, .inr (7, [v0, v1, v2, v3, v4, v5, v6, v7, v8, v9, .ref e0, .int ts, .int bg_75, .int en_76, .int so_77, .int va_78, .int iw_79, .ref i0, .ref y0, .ref z0, .int im, .int sT, .int n_73, .int hT, v24, v25, v26, v27])), (e0, .inl (ec, 120, .inl ef))]) hP hD [4, 0] [1, 2, 3] rfl rfl (by decide) (by decide) hk1 hFc hP1 hD1
        generalize H1 = H at hP hS ⊢
        have hP : va_P (dC, dI) vwCl [(i0, .inl (ic, 6, .inr (.inr (.inr (.inr jf))))), (y0, .inl (yc, 360, .inl yf)), (z0, .inl (zc, 120, .inr (.inl gf))), (h0, .inr (7, [v0, v1, v2, v3, v4, v5, v6, v7, v8, v9, .ref e0, .int ts, .int bg_75, .int en_76, .int so_77, .int va_78, .int iw_79, .ref i0, .ref y0, .ref z0, .int im, .int sT, .int n_73, .int hT, v24, v25, v26, v27])), (e0, .inl (ec, 120, .inl ef))] H := hP
        have hD : va_D A [(i0, .inl (ic, 6, .inr (.inr (.inr (.inr jf))))), (y0, .inl (yc, 360, .inl yf)), (z0, .inl (zc, 120, .inr (.inl gf))), (h0, .inr (7, [v0, v1, v2, v3, v4, v5, v6, v7, v8, v9, .ref e0, .int ts, .int bg_75, .int en_76, .int so_77, .int va_78, .int iw_79, .ref i0, .ref y0, .ref z0, .int im, .int sT, .int n_73, .int hT, v24, v25, v26, v27])), (e0, .inl (ec, 120, .inl ef))] := hD
        have hq_84 : iw_79.toInt = 0 → (1 : Int) = 0 ∧ bg.toInt ≤ bg_75.toInt := hq_84
        have hPc := hP.sub (ws' := [(h0, .inr (7, [v0, v1, v2, v3, v4, v5, v6, v7, v8, v9, .ref e0, .int ts, .int bg_75, .int en_76, .int so_77, .int va_78, .int iw_79, .ref i0, .ref y0, .ref z0, .int im, .int sT, .int n_73, .int hT, v24, v25, v26, v27])), (y0, .inl (yc, 360, .inl yf)), (z0, .inl (zc, 120, .inr (.inl gf)))]) [3, 1, 2] rfl
        have hKc := hK.sub (tys' := [(yc, .int), (zc, .long)]) [2, 3] rfl
        have hDc := hD.sub (ws' := [(h0, .inr (7, [v0, v1, v2, v3, v4, v5, v6, v7, v8, v9, .ref e0, .int ts, .int bg_75, .int en_76, .int so_77, .int va_78, .int iw_79, .ref i0, .ref y0, .ref z0, .int im, .int sT, .int n_73, .int hT, v24, v25, v26, v27])), (y0, .inl (yc, 360, .inl yf)), (z0, .inl (zc, 120, .inr (.inl gf)))]) [3, 1, 2] (by decide) rfl
        have hFc := va_free (wc := [(h0, .inr (7, [v0, v1, v2, v3, v4, v5, v6, v7, v8, v9, .ref e0, .int ts, .int bg_75, .int en_76, .int so_77, .int va_78, .int iw_79, .ref i0, .ref y0, .ref z0, .int im, .int sT, .int n_73, .int hT, v24, v25, v26, v27])), (y0, .inl (yc, 360, .inl yf)), (z0, .inl (zc, 120, .inr (.inl gf)))]) hD hS hA [3, 1, 2] rfl
        refine va_callv (va_runV (As := [.int 10, .int 0, .int 0, .long r_74]) (rest := []) ⟨hx, hb, hml, hown, hts⟩ (m_item l dC dI ad h0 10 0 0 r_74 v0 v1 v2 v3 v4 v5 v6 v7 v8 v9 (.ref e0) (.int ts) (.int bg_75) (.int en_76) (.int so_77) (.int va_78) (.int iw_79) (.ref i0) y0 z0 im (.int sT) (.int n_73) (.int hT) v24 v25 v26 v27 yc yf zc gf H.size him) (cwV 4 hts g_m_readItem_m_item_247 rfl rfl rfl (by decide +kernel) ⟨(Nat.le_of_ble_eq_true rfl), (Nat.le_of_ble_eq_true rfl)⟩) ⟨preM_blind, va_recv hKc hPc (ci := 7) (q0 := 0) rfl rfl, fun U hU hW => ⟨rfl, preM_at hU hW hPc hKc hDc hev⟩⟩ rfl rfl hl.1 rfl (lv_room (Nat.le_of_ble_eq_true rfl)) dX9_readItem_101 ⟨(Nat.le_of_ble_eq_true rfl), (Nat.le_of_ble_eq_true rfl)⟩) hS (fun q _ h => hFc q h) hFc (fun u t H1 locs ht hvm hw hB hz1 hk1 hS => ?_)
        obtain ⟨im_86, yg_87, gg_88, hq_89, hq_90, hP1, hK1, hD1⟩ := hB
        rw [ht] at hP1
        have hK1 := va_K.moved hvm.symm hK1
        obtain ⟨hP, hD⟩ := va_join (wr := [(i0, .inl (ic, 6, .inr (.inr (.inr (.inr jf))))), (e0, .inl (ec, 120, .inl ef))]) (w1 := [(h0, .inr (7, [v0, v1, v2, v3, v4, v5, v6, v7, v8, v9, .ref e0, .int ts, .int bg_75, .int en_76, .int so_77, .int va_78, .int iw_79, .ref i0, .ref y0, .ref z0, .int im_86, .int sT, .int n_73, .int hT, v24, v25, v26, v27])), (y0, .inl (yc, 360, .inl yg_87)), (z0, .inl (zc, 120, .inr (.inl gg_88)))]) hP hD [3, 1, 2] [0, 4] rfl rfl (by decide) (by decide) hk1 hFc hP1 hD1
        generalize H1 = H at hP hS ⊢
        have hP : va_P (dC, dI) vwCl [(i0, .inl (ic, 6, .inr (.inr (.inr (.inr jf))))), (e0, .inl (ec, 120, .inl ef)), (h0, .inr (7, [v0, v1, v2, v3, v4, v5, v6, v7, v8, v9, .ref e0, .int ts, .int bg_75, .int en_76, .int so_77, .int va_78, .int iw_79, .ref i0, .ref y0, .ref z0, .int im_86, .int sT, .int n_73, .int hT, v24, v25, v26, v27])), (y0, .inl (yc, 360, .inl yg_87)), (z0, .inl (zc, 120, .inr (.inl gg_88)))] H := hP
        have hD : va_D A [(i0, .inl (ic, 6, .inr (.inr (.inr (.inr jf))))), (e0, .inl (ec, 120, .inl ef)), (h0, .inr (7, [v0, v1, v2, v3, v4, v5, v6, v7, v8, v9, .ref e0, .int ts, .int bg_75, .int en_76, .int so_77, .int va_78, .int iw_79, .ref i0, .ref y0, .ref z0, .int im_86, .int sT, .int n_73, .int hT, v24, v25, v26, v27])), (y0, .inl (yc, 360, .inl yg_87)), (z0, .inl (zc, 120, .inr (.inl gg_88)))] := hD
        refine lv_goto (tgt := 186) hx hb dX9_readItem_104 (by decide) ?_
        have hP9 := hP.sub (ws' := [(h0, .inr (7, [v0, v1, v2, v3, v4, v5, v6, v7, v8, v9, .ref e0, .int ts, .int bg_75, .int en_76, .int so_77, .int va_78, .int iw_79, .ref i0, .ref y0, .ref z0, .int im_86, .int sT, .int n_73, .int hT, v24, v25, v26, v27])), (e0, .inl (ec, 120, .inl ef)), (i0, .inl (ic, 6, .inr (.inr (.inr (.inr jf))))), (y0, .inl (yc, 360, .inl yg_87)), (z0, .inl (zc, 120, .inr (.inl gg_88)))]) [2, 1, 0, 3, 4] rfl
        have hD9 := hD.sub (ws' := [(h0, .inr (7, [v0, v1, v2, v3, v4, v5, v6, v7, v8, v9, .ref e0, .int ts, .int bg_75, .int en_76, .int so_77, .int va_78, .int iw_79, .ref i0, .ref y0, .ref z0, .int im_86, .int sT, .int n_73, .int hT, v24, v25, v26, v27])), (e0, .inl (ec, 120, .inl ef)), (i0, .inl (ic, 6, .inr (.inr (.inr (.inr jf))))), (y0, .inl (yc, 360, .inl yg_87)), (z0, .inl (zc, 120, .inr (.inl gg_88)))]) [2, 1, 0, 3, 4] (by decide) rfl
        have hK9 := hK.sub (tys' := [(ec, .int), (ic, .object "java/lang/String"), (yc, .int), (zc, .long)]) [0, 1, 2, 3] rfl
        exact W.vret hx hb hr (fun t ht hW => ⟨⟨(), rfl, trivial, bg_75, en_76, so_77, va_78, iw_79, sT, n_73, hT, im_86, yg_87, gg_88, hq_80, hq_81, hq_82, hq_83, (by first | omega | decide | (simp only [fa_lt, fa_le, fa_eq, and_true, true_and, and_false, false_and, not_true_eq_false, not_false_eq_true, li_0, li_1, li_2, li_3, li_4, li_5, li_6, li_7, li_8, li_9, li_10, li_12, li_15, li_16, li_20, li_30, li_34, li_38, li_40, li_63, li_64, li_65, li_78, li_120, li_1000, li_4000, li_10000, li_11077, li_255, li_65535, li_m1, li_m2, li_m1000000001, li_m1000000002, li_m1000000003, li_m1000000004, li_m1000000005, li_m1000000006, li_m1000000007, or_true, true_or, or_false, false_or, implies_true, true_implies, false_implies] <;> omega)), hq_89, (fun hz => RI_mk hq_90 (Or.inr (Or.inl ⟨by decide, by omega, rfl, by omega, rfl⟩))), (by first | omega | decide | (simp only [fa_lt, fa_le, fa_eq, and_true, true_and, and_false, false_and, not_true_eq_false, not_false_eq_true, li_0, li_1, li_2, li_3, li_4, li_5, li_6, li_7, li_8, li_9, li_10, li_12, li_15, li_16, li_20, li_30, li_34, li_38, li_40, li_63, li_64, li_65, li_78, li_120, li_1000, li_4000, li_10000, li_11077, li_255, li_65535, li_m1, li_m2, li_m1000000001, li_m1000000002, li_m1000000003, li_m1000000004, li_m1000000005, li_m1000000006, li_m1000000007, or_true, true_or, or_false, false_or, implies_true, true_implies, false_implies] <;> omega)), by rw [ht]; exact hP9, va_K.moved hW.alike hK9, hD9⟩, hS.F ht⟩) hS.2.2 dX9_readItem_186
      · skip
        have tc_71 : ¬ 7 ≤ cT.toInt := fun h => c_71 ((fa_le _ _).mpr h)
        refine lv_iconst (v := 1) hx hb dX9_readItem_72 (by decide) ?_
        refine lv_goto (tgt := 77) hx hb dX9_readItem_73 (by decide) ?_
        have hPc := hP.sub (ws' := [(h0, .inr (7, [v0, v1, v2, v3, v4, v5, v6, v7, v8, v9, .ref e0, .int ts, .int bg, .int en, .int so, .int va, .int 0, .ref i0, .ref y0, .ref z0, .int im, .int sT, .int cT, .int hT, v24, v25, v26, v27])), (e0, .inl (ec, 120, .inl ef))]) [0, 1] rfl
        have hKc := hK.sub (tys' := [(ec, .int)]) [0] rfl
        have hDc := hD.sub (ws' := [(h0, .inr (7, [v0, v1, v2, v3, v4, v5, v6, v7, v8, v9, .ref e0, .int ts, .int bg, .int en, .int so, .int va, .int 0, .ref i0, .ref y0, .ref z0, .int im, .int sT, .int cT, .int hT, v24, v25, v26, v27])), (e0, .inl (ec, 120, .inl ef))]) [0, 1] (by decide) rfl
        have hFc := va_free (wc := [(h0, .inr (7, [v0, v1, v2, v3, v4, v5, v6, v7, v8, v9, .ref e0, .int ts, .int bg, .int en, .int so, .int va, .int 0, .ref i0, .ref y0, .ref z0, .int im, .int sT, .int cT, .int hT, v24, v25, v26, v27])), (e0, .inl (ec, 120, .inl ef))]) hD hS hA [0, 1] rfl
        refine va_callv (va_runV (As := [.int 1]) (rest := []) ⟨hx, hb, hml, hown, hts⟩ (m_must1 l dC dI ad h0 v0 v1 v2 v3 v4 v5 v6 v7 v8 v9 e0 ts bg en so va (.ref i0) (.ref y0) (.ref z0) (.int im) (.int sT) (.int cT) (.int hT) v24 v25 v26 v27 ec ef s.heap.size htm hlx hso hva) (cwV 1 hts g_m_readItem_m_must1_224 rfl rfl rfl (by decide +kernel) ⟨(Nat.le_of_ble_eq_true rfl), (Nat.le_of_ble_eq_true rfl)⟩) ⟨preM_blind, va_recv hKc hPc (ci := 7) (q0 := 0) rfl rfl, fun U hU hW => ⟨rfl, preM_at hU hW hPc hKc hDc hev⟩⟩ rfl rfl hl.1 rfl (lv_room (Nat.le_of_ble_eq_true rfl)) dX9_readItem_77 ⟨(Nat.le_of_ble_eq_true rfl), (Nat.le_of_ble_eq_true rfl)⟩) hS (fun q _ h => hFc q h) hFc (fun u t H1 locs ht hvm hw hB hz1 hk1 hS => ?_)
        obtain ⟨bg_92, en_93, so_94, va_95, hq_96, hq_97, hq_98, hq_99, hP1, hK1, hD1⟩ := hB
        rw [ht] at hP1
        have hK1 := va_K.moved hvm.symm hK1
        obtain ⟨hP, hD⟩ := va_join (wr := [(i0, .inl (ic, 6, .inr (.inr (.inr (.inr jf))))), (y0, .inl (yc, 360, .inl yf)), (z0, .inl (zc, 120, .inr (.inl gf)))]) (w1 := [(h0, .inr (7, [v0, v1, v2, v3, v4, v5, v6, v7, v8, v9, .ref e0, .int ts, .int bg_92, .int en_93, .int so_94, .int va_95, .int 0, .ref i0, .ref y0, .ref z0, .int im, .int sT, .int cT, .int hT, v24, v25, v26, v27])), (e0, .inl (ec, 120, .inl ef))]) hP hD [0, 1] [2, 3, 4] rfl rfl (by decide) (by decide) hk1 hFc hP1 hD1
        generalize H1 = H at hP hS ⊢
        have hP : va_P (dC, dI) vwCl [(i0, .inl (ic, 6, .inr (.inr (.inr (.inr jf))))), (y0, .inl (yc, 360, .inl yf)), (z0, .inl (zc, 120, .inr (.inl gf))), (h0, .inr (7, [v0, v1, v2, v3, v4, v5, v6, v7, v8, v9, .ref e0, .int ts, .int bg_92, .int en_93, .int so_94, .int va_95, .int 0, .ref i0, .ref y0, .ref z0, .int im, .int sT, .int cT, .int hT, v24, v25, v26, v27])), (e0, .inl (ec, 120, .inl ef))] H := hP
        have hD : va_D A [(i0, .inl (ic, 6, .inr (.inr (.inr (.inr jf))))), (y0, .inl (yc, 360, .inl yf)), (z0, .inl (zc, 120, .inr (.inl gf))), (h0, .inr (7, [v0, v1, v2, v3, v4, v5, v6, v7, v8, v9, .ref e0, .int ts, .int bg_92, .int en_93, .int so_94, .int va_95, .int 0, .ref i0, .ref y0, .ref z0, .int im, .int sT, .int cT, .int hT, v24, v25, v26, v27])), (e0, .inl (ec, 120, .inl ef))] := hD
        refine lv_aload_n hx hb dX9_readItem_80 rfl (lv_at hl 1 rfl) ?_
        refine lv_dup hx hb dX9_readItem_81 rfl ?_
        refine va_get (D := (dC, dI)) (ci := 7) (v := .int cT) (C := RX9) (T := TX9) (N := 28) hx hb hts inX9 hown hK hP 3 rfl rfl 22 (by decide) (hts _ (List.mem_of_getElem? (i := 113) rfl)) (fun _ h9 => h9) rfl dX9_readItem_82 ?_
        refine lv_iconst (v := 1) hx hb dX9_readItem_85 (by decide) ?_
        refine lv_iadd hx hb dX9_readItem_86 ?_
        refine lv_topi (fun n_100 en_100 => ?_)
        have tn_100 : n_100.toInt = cT.toInt + 1 := pp_add en_100 rfl rfl (by omega) (by omega)
        clear en_100
        refine va_put (D := (dC, dI)) (ci := 7) (v := .int n_100) (ty := .int) (C := RX9) (T := TX9) (N := 28) hx hb hts inX9 tyX9 tyX9_ok nmX9 hown hK hP hD hS 3 rfl rfl 22 (by decide) (hts _ (List.mem_of_getElem? (i := 113) rfl)) (fun _ h9 => h9) rfl (by decide +kernel) rfl rfl (Nat.le_of_ble_eq_true rfl) dX9_readItem_87 (fun H locs hP hD hS => ?_)
        have hP : va_P (dC, dI) vwCl [(i0, .inl (ic, 6, .inr (.inr (.inr (.inr jf))))), (y0, .inl (yc, 360, .inl yf)), (z0, .inl (zc, 120, .inr (.inl gf))), (h0, .inr (7, [v0, v1, v2, v3, v4, v5, v6, v7, v8, v9, .ref e0, .int ts, .int bg_92, .int en_93, .int so_94, .int va_95, .int 0, .ref i0, .ref y0, .ref z0, .int im, .int sT, .int n_100, .int hT, v24, v25, v26, v27])), (e0, .inl (ec, 120, .inl ef))] H := hP
        have hD : va_D A [(i0, .inl (ic, 6, .inr (.inr (.inr (.inr jf))))), (y0, .inl (yc, 360, .inl yf)), (z0, .inl (zc, 120, .inr (.inl gf))), (h0, .inr (7, [v0, v1, v2, v3, v4, v5, v6, v7, v8, v9, .ref e0, .int ts, .int bg_92, .int en_93, .int so_94, .int va_95, .int 0, .ref i0, .ref y0, .ref z0, .int im, .int sT, .int n_100, .int hT, v24, v25, v26, v27])), (e0, .inl (ec, 120, .inl ef))] := hD
        refine lv_aload_n hx hb dX9_readItem_90 rfl (lv_at hl 1 rfl) ?_
        refine lv_bipush (v := 10) hx hb dX9_readItem_91 (by decide) ?_
        refine lv_iconst (v := 0) hx hb dX9_readItem_93 (by decide) ?_
        refine lv_iconst (v := 0) hx hb dX9_readItem_94 (by decide) ?_
        refine lv_aload_n hx hb dX9_readItem_95 rfl (lv_at hl 1 rfl) ?_
        refine lv_bipush (v := 8) hx hb dX9_readItem_96 (by decide) ?_
        have hPc := hP.sub (ws' := [(h0, .inr (7, [v0, v1, v2, v3, v4, v5, v6, v7, v8, v9, .ref e0, .int ts, .int bg_92, .int en_93, .int so_94, .int va_95, .int 0, .ref i0, .ref y0, .ref z0, .int im, .int sT, .int n_100, .int hT, v24, v25, v26, v27])), (e0, .inl (ec, 120, .inl ef))]) [3, 4] rfl
        have hKc := hK.sub (tys' := [(ec, .int)]) [0] rfl
        have hDc := hD.sub (ws' := [(h0, .inr (7, [v0, v1, v2, v3, v4, v5, v6, v7, v8, v9, .ref e0, .int ts, .int bg_92, .int en_93, .int so_94, .int va_95, .int 0, .ref i0, .ref y0, .ref z0, .int im, .int sT, .int n_100, .int hT, v24, v25, v26, v27])), (e0, .inl (ec, 120, .inl ef))]) [3, 4] (by decide) rfl
        have hFc := va_free (wc := [(h0, .inr (7, [v0, v1, v2, v3, v4, v5, v6, v7, v8, v9, .ref e0, .int ts, .int bg_92, .int en_93, .int so_94, .int va_95, .int 0, .ref i0, .ref y0, .ref z0, .int im, .int sT, .int n_100, .int hT, v24, v25, v26, v27])), (e0, .inl (ec, 120, .inl ef))]) hD hS hA [3, 4] rfl
        refine va_calll (va_runV (As := [.int 8]) (rest := [.int 0, .int 0, .int 10, .ref h0]) ⟨hx, hb, hml, hown, hts⟩ (m_readRows l dC dI ad h0 8 v0 v1 v2 v3 v4 v5 v6 v7 v8 v9 e0 ts bg_92 en_93 so_94 va_95 0 (.ref i0) (.ref y0) (.ref z0) (.int im) (.int sT) (.int n_100) (.int hT) v24 v25 v26 v27 ec ef H.size htm hq_96 hq_97 hq_98 (by first | omega | decide | (simp only [fa_lt, fa_le, fa_eq, and_true, true_and, and_false, false_and, not_true_eq_false, not_false_eq_true, li_0, li_1, li_2, li_3, li_4, li_5, li_6, li_7, li_8, li_9, li_10, li_12, li_15, li_16, li_20, li_30, li_34, li_38, li_40, li_63, li_64, li_65, li_78, li_120, li_1000, li_4000, li_10000, li_11077, li_255, li_65535, li_m1, li_m2, li_m1000000001, li_m1000000002, li_m1000000003, li_m1000000004, li_m1000000005, li_m1000000006, li_m1000000007, or_true, true_or, or_false, false_or, implies_true, true_implies, false_implies] <;> omega)) (by first | omega | decide | (simp only [fa_lt, fa_le, fa_eq, and_true, true_and, and_false, false_and, not_true_eq_false, not_false_eq_true, li_0, li_1, li_2, li_3, li_4, li_5, li_6, li_7, li_8, li_9, li_10, li_12, li_15, li_16, li_20, li_30, li_34, li_38, li_40, li_63, li_64, li_65, li_78, li_120, li_1000, li_4000, li_10000, li_11077, li_255, li_65535, li_m1, li_m2, li_m1000000001, li_m1000000002, li_m1000000003, li_m1000000004, li_m1000000005, li_m1000000006, li_m1000000007, or_true, true_or, or_false, false_or, implies_true, true_implies, false_implies] <;> omega))) (cwV 1 hts g_m_readItem_m_readRows_244 rfl rfl rfl (by decide +kernel) ⟨(Nat.le_of_ble_eq_true rfl), (Nat.le_of_ble_eq_true rfl)⟩) ⟨preM_blind, va_recv hKc hPc (ci := 7) (q0 := 0) rfl rfl, fun U hU hW => ⟨rfl, preM_at hU hW hPc hKc hDc hev⟩⟩ rfl rfl hl.1 rfl (lv_room (Nat.le_of_ble_eq_true rfl)) dX9_readItem_98 ⟨(Nat.le_of_ble_eq_true rfl), (Nat.le_of_ble_eq_true rfl)⟩) hS (fun q _ h => hFc q h) hFc (fun r_101 u t H1 locs ht hvm hw hB hz1 hk1 hS => ?_)
        obtain ⟨bg_102, en_103, so_104, va_105, iw_106, hq_107, hq_108, hq_109, hq_110, hq_111, hP1, hK1, hD1⟩ := hB
        rw [ht] at hP1
        have hK1 := va_K.moved hvm.symm hK1
        obtain ⟨hP, hD⟩ := va_join (wr := [(i0, .inl (ic, 6, .inr (.inr (.inr (.inr jf))))), (y0, .inl (yc, 360, .inl yf)), (z0, .inl (zc, 120, .inr (.inl gf)))]) (w1 := [(h0, .inr (7, [v0, v1, v2, v3, v4, v5, v6, v7, v8, v9, .ref e0, .int ts, .int bg_102, .int en_103, .int so_104, .int va_105, .int iw_106, .ref i0, .ref y0, .ref z0, .int im, .int sT, .int n_100, .int hT, v24, v25, v26, v27])), (e0, .inl (ec, 120, .inl ef))]) hP hD [3, 4] [0, 1, 2] rfl rfl (by decide) (by decide) hk1 hFc hP1 hD1
        generalize H1 = H at hP hS ⊢
        have hP : va_P (dC, dI) vwCl [(i0, .inl (ic, 6, .inr (.inr (.inr (.inr jf))))), (y0, .inl (yc, 360, .inl yf)), (z0, .inl (zc, 120, .inr (.inl gf))), (h0, .inr (7, [v0, v1, v2, v3, v4, v5, v6, v7, v8, v9, .ref e0, .int ts, .int bg_102, .int en_103, .int so_104, .int va_105, .int iw_106, .ref i0, .ref y0, .ref z0, .int im, .int sT, .int n_100, .int hT, v24, v25, v26, v27])), (e0, .inl (ec, 120, .inl ef))] H := hP
        have hD : va_D A [(i0, .inl (ic, 6, .inr (.inr (.inr (.inr jf))))), (y0, .inl (yc, 360, .inl yf)), (z0, .inl (zc, 120, .inr (.inl gf))), (h0, .inr (7, [v0, v1, v2, v3, v4, v5, v6, v7, v8, v9, .ref e0, .int ts, .int bg_102, .int en_103, .int so_104, .int va_105, .int iw_106, .ref i0, .ref y0, .ref z0, .int im, .int sT, .int n_100, .int hT, v24, v25, v26, v27])), (e0, .inl (ec, 120, .inl ef))] := hD
        have hq_111 : iw_106.toInt = 0 → (0 : Int) = 0 ∧ bg_92.toInt ≤ bg_102.toInt := hq_111
        have hPc := hP.sub (ws' := [(h0, .inr (7, [v0, v1, v2, v3, v4, v5, v6, v7, v8, v9, .ref e0, .int ts, .int bg_102, .int en_103, .int so_104, .int va_105, .int iw_106, .ref i0, .ref y0, .ref z0, .int im, .int sT, .int n_100, .int hT, v24, v25, v26, v27])), (y0, .inl (yc, 360, .inl yf)), (z0, .inl (zc, 120, .inr (.inl gf)))]) [3, 1, 2] rfl
        have hKc := hK.sub (tys' := [(yc, .int), (zc, .long)]) [2, 3] rfl
        have hDc := hD.sub (ws' := [(h0, .inr (7, [v0, v1, v2, v3, v4, v5, v6, v7, v8, v9, .ref e0, .int ts, .int bg_102, .int en_103, .int so_104, .int va_105, .int iw_106, .ref i0, .ref y0, .ref z0, .int im, .int sT, .int n_100, .int hT, v24, v25, v26, v27])), (y0, .inl (yc, 360, .inl yf)), (z0, .inl (zc, 120, .inr (.inl gf)))]) [3, 1, 2] (by decide) rfl
        have hFc := va_free (wc := [(h0, .inr (7, [v0, v1, v2, v3, v4, v5, v6, v7, v8, v9, .ref e0, .int ts, .int bg_102, .int en_103, .int so_104, .int va_105, .int iw_106, .ref i0, .ref y0, .ref z0, .int im, .int sT, .int n_100, .int hT, v24, v25, v26, v27])), (y0, .inl (yc, 360, .inl yf)), (z0, .inl (zc, 120, .inr (.inl gf)))]) hD hS hA [3, 1, 2] rfl
        refine va_callv (va_runV (As := [.int 10, .int 0, .int 0, .long r_101]) (rest := []) ⟨hx, hb, hml, hown, hts⟩ (m_item l dC dI ad h0 10 0 0 r_101 v0 v1 v2 v3 v4 v5 v6 v7 v8 v9 (.ref e0) (.int ts) (.int bg_102) (.int en_103) (.int so_104) (.int va_105) (.int iw_106) (.ref i0) y0 z0 im (.int sT) (.int n_100) (.int hT) v24 v25 v26 v27 yc yf zc gf H.size him) (cwV 4 hts g_m_readItem_m_item_247 rfl rfl rfl (by decide +kernel) ⟨(Nat.le_of_ble_eq_true rfl), (Nat.le_of_ble_eq_true rfl)⟩) ⟨preM_blind, va_recv hKc hPc (ci := 7) (q0 := 0) rfl rfl, fun U hU hW => ⟨rfl, preM_at hU hW hPc hKc hDc hev⟩⟩ rfl rfl hl.1 rfl (lv_room (Nat.le_of_ble_eq_true rfl)) dX9_readItem_101 ⟨(Nat.le_of_ble_eq_true rfl), (Nat.le_of_ble_eq_true rfl)⟩) hS (fun q _ h => hFc q h) hFc (fun u t H1 locs ht hvm hw hB hz1 hk1 hS => ?_)
        obtain ⟨im_113, yg_114, gg_115, hq_116, hq_117, hP1, hK1, hD1⟩ := hB
        rw [ht] at hP1
        have hK1 := va_K.moved hvm.symm hK1
        obtain ⟨hP, hD⟩ := va_join (wr := [(i0, .inl (ic, 6, .inr (.inr (.inr (.inr jf))))), (e0, .inl (ec, 120, .inl ef))]) (w1 := [(h0, .inr (7, [v0, v1, v2, v3, v4, v5, v6, v7, v8, v9, .ref e0, .int ts, .int bg_102, .int en_103, .int so_104, .int va_105, .int iw_106, .ref i0, .ref y0, .ref z0, .int im_113, .int sT, .int n_100, .int hT, v24, v25, v26, v27])), (y0, .inl (yc, 360, .inl yg_114)), (z0, .inl (zc, 120, .inr (.inl gg_115)))]) hP hD [3, 1, 2] [0, 4] rfl rfl (by decide) (by decide) hk1 hFc hP1 hD1
        generalize H1 = H at hP hS ⊢
        have hP : va_P (dC, dI) vwCl [(i0, .inl (ic, 6, .inr (.inr (.inr (.inr jf))))), (e0, .inl (ec, 120, .inl ef)), (h0, .inr (7, [v0, v1, v2, v3, v4, v5, v6, v7, v8, v9, .ref e0, .int ts, .int bg_102, .int en_103, .int so_104, .int va_105, .int iw_106, .ref i0, .ref y0, .ref z0, .int im_113, .int sT, .int n_100, .int hT, v24, v25, v26, v27])), (y0, .inl (yc, 360, .inl yg_114)), (z0, .inl (zc, 120, .inr (.inl gg_115)))] H := hP
        have hD : va_D A [(i0, .inl (ic, 6, .inr (.inr (.inr (.inr jf))))), (e0, .inl (ec, 120, .inl ef)), (h0, .inr (7, [v0, v1, v2, v3, v4, v5, v6, v7, v8, v9, .ref e0, .int ts, .int bg_102, .int en_103, .int so_104, .int va_105, .int iw_106, .ref i0, .ref y0, .ref z0, .int im_113, .int sT, .int n_100, .int hT, v24, v25, v26, v27])), (y0, .inl (yc, 360, .inl yg_114)), (z0, .inl (zc, 120, .inr (.inl gg_115)))] := hD
        refine lv_goto (tgt := 186) hx hb dX9_readItem_104 (by decide) ?_
        have hP9 := hP.sub (ws' := [(h0, .inr (7, [v0, v1, v2, v3, v4, v5, v6, v7, v8, v9, .ref e0, .int ts, .int bg_102, .int en_103, .int so_104, .int va_105, .int iw_106, .ref i0, .ref y0, .ref z0, .int im_113, .int sT, .int n_100, .int hT, v24, v25, v26, v27])), (e0, .inl (ec, 120, .inl ef)), (i0, .inl (ic, 6, .inr (.inr (.inr (.inr jf))))), (y0, .inl (yc, 360, .inl yg_114)), (z0, .inl (zc, 120, .inr (.inl gg_115)))]) [2, 1, 0, 3, 4] rfl
        have hD9 := hD.sub (ws' := [(h0, .inr (7, [v0, v1, v2, v3, v4, v5, v6, v7, v8, v9, .ref e0, .int ts, .int bg_102, .int en_103, .int so_104, .int va_105, .int iw_106, .ref i0, .ref y0, .ref z0, .int im_113, .int sT, .int n_100, .int hT, v24, v25, v26, v27])), (e0, .inl (ec, 120, .inl ef)), (i0, .inl (ic, 6, .inr (.inr (.inr (.inr jf))))), (y0, .inl (yc, 360, .inl yg_114)), (z0, .inl (zc, 120, .inr (.inl gg_115)))]) [2, 1, 0, 3, 4] (by decide) rfl
        have hK9 := hK.sub (tys' := [(ec, .int), (ic, .object "java/lang/String"), (yc, .int), (zc, .long)]) [0, 1, 2, 3] rfl
        exact W.vret hx hb hr (fun t ht hW => ⟨⟨(), rfl, trivial, bg_102, en_103, so_104, va_105, iw_106, sT, n_100, hT, im_113, yg_114, gg_115, hq_107, hq_108, hq_109, hq_110, (by first | omega | decide | (simp only [fa_lt, fa_le, fa_eq, and_true, true_and, and_false, false_and, not_true_eq_false, not_false_eq_true, li_0, li_1, li_2, li_3, li_4, li_5, li_6, li_7, li_8, li_9, li_10, li_12, li_15, li_16, li_20, li_30, li_34, li_38, li_40, li_63, li_64, li_65, li_78, li_120, li_1000, li_4000, li_10000, li_11077, li_255, li_65535, li_m1, li_m2, li_m1000000001, li_m1000000002, li_m1000000003, li_m1000000004, li_m1000000005, li_m1000000006, li_m1000000007, or_true, true_or, or_false, false_or, implies_true, true_implies, false_implies] <;> omega)), hq_116, (fun hz => RI_mk hq_117 (Or.inr (Or.inl ⟨by decide, by omega, rfl, by omega, rfl⟩))), (by first | omega | decide | (simp only [fa_lt, fa_le, fa_eq, and_true, true_and, and_false, false_and, not_true_eq_false, not_false_eq_true, li_0, li_1, li_2, li_3, li_4, li_5, li_6, li_7, li_8, li_9, li_10, li_12, li_15, li_16, li_20, li_30, li_34, li_38, li_40, li_63, li_64, li_65, li_78, li_120, li_1000, li_4000, li_10000, li_11077, li_255, li_65535, li_m1, li_m2, li_m1000000001, li_m1000000002, li_m1000000003, li_m1000000004, li_m1000000005, li_m1000000006, li_m1000000007, or_true, true_or, or_false, false_or, implies_true, true_implies, false_implies] <;> omega)), by rw [ht]; exact hP9, va_K.moved hW.alike hK9, hD9⟩, hS.F ht⟩) hS.2.2 dX9_readItem_186
  · skip
    have tc_2 : ¬ r_1.toInt < 0 := fun h => c_2 ((fa_lt _ _).mpr h)
    refine lv_aload_n hx hb dX9_readItem_9 rfl (lv_at hl 1 rfl) ?_
    refine lv_aload_n hx hb dX9_readItem_10 rfl (lv_at hl 1 rfl) ?_
    refine va_get (D := (dC, dI)) (ci := 7) (v := .int sT) (C := RX9) (T := TX9) (N := 28) hx hb hts inX9 hown hK hP 0 rfl rfl 21 (by decide) (hts _ (List.mem_of_getElem? (i := 89) rfl)) (fun _ h9 => h9) rfl dX9_readItem_11 ?_
    refine lv_bipush (v := 9) hx hb dX9_readItem_14 (by decide) ?_
    refine lv_icmp_ge (tgt := 23) hx hb dX9_readItem_16 (by decide) (fun c_118 => ?_) (fun c_118 => ?_)
    · skip
      have tc_118 : 9 ≤ sT.toInt := (fa_le _ _).mp c_118
      refine lv_iconst (v := 0) hx hb dX9_readItem_23 (by decide) ?_
      have hPc := hP.sub (ws' := [(h0, .inr (7, [v0, v1, v2, v3, v4, v5, v6, v7, v8, v9, .ref e0, .int ts, .int bg, .int en, .int so, .int va, .int 0, .ref i0, .ref y0, .ref z0, .int im, .int sT, .int cT, .int hT, v24, v25, v26, v27]))]) [0] rfl
      have hKc := hK.sub (tys' := []) [] rfl
      have hDc := hD.sub (ws' := [(h0, .inr (7, [v0, v1, v2, v3, v4, v5, v6, v7, v8, v9, .ref e0, .int ts, .int bg, .int en, .int so, .int va, .int 0, .ref i0, .ref y0, .ref z0, .int im, .int sT, .int cT, .int hT, v24, v25, v26, v27]))]) [0] (by decide) rfl
      have hFc := va_free (wc := [(h0, .inr (7, [v0, v1, v2, v3, v4, v5, v6, v7, v8, v9, .ref e0, .int ts, .int bg, .int en, .int so, .int va, .int 0, .ref i0, .ref y0, .ref z0, .int im, .int sT, .int cT, .int hT, v24, v25, v26, v27]))]) hD hS hA [0] rfl
      refine va_callv (va_runV (As := [.int 0]) (rest := []) ⟨hx, hb, hml, hown, hts⟩ (m_must0 l dC dI ad h0 v0 v1 v2 v3 v4 v5 v6 v7 v8 v9 (.ref e0) (.int ts) (.int bg) (.int en) (.int so) (.int va) 0 (.ref i0) (.ref y0) (.ref z0) (.int im) (.int sT) (.int cT) (.int hT) v24 v25 v26 v27 s.heap.size ) (cwV 1 hts g_m_readItem_m_must0_224 rfl rfl rfl (by decide +kernel) ⟨(Nat.le_of_ble_eq_true rfl), (Nat.le_of_ble_eq_true rfl)⟩) ⟨preM_blind, va_recv hKc hPc (ci := 7) (q0 := 0) rfl rfl, fun U hU hW => ⟨rfl, preM_at hU hW hPc hKc hDc hev⟩⟩ rfl rfl hl.1 rfl (lv_room (Nat.le_of_ble_eq_true rfl)) dX9_readItem_24 ⟨(Nat.le_of_ble_eq_true rfl), (Nat.le_of_ble_eq_true rfl)⟩) hS (fun q _ h => hFc q h) hFc (fun u t H1 locs ht hvm hw hB hz1 hk1 hS => ?_)
      obtain ⟨hP1, hK1, hD1⟩ := hB
      rw [ht] at hP1
      have hK1 := va_K.moved hvm.symm hK1
      obtain ⟨hP, hD⟩ := va_join (wr := [(e0, .inl (ec, 120, .inl ef)), (i0, .inl (ic, 6, .inr (.inr (.inr (.inr jf))))), (y0, .inl (yc, 360, .inl yf)), (z0, .inl (zc, 120, .inr (.inl gf)))]) (w1 := [(h0, .inr (7, [v0, v1, v2, v3, v4, v5, v6, v7, v8, v9, .ref e0, .int ts, .int bg, .int en, .int so, .int va, .int 1, .ref i0, .ref y0, .ref z0, .int im, .int sT, .int cT, .int hT, v24, v25, v26, v27]))]) hP hD [0] [1, 2, 3, 4] rfl rfl (by decide) (by decide) hk1 hFc hP1 hD1
      generalize H1 = H at hP hS ⊢
      have hP : va_P (dC, dI) vwCl [(e0, .inl (ec, 120, .inl ef)), (i0, .inl (ic, 6, .inr (.inr (.inr (.inr jf))))), (y0, .inl (yc, 360, .inl yf)), (z0, .inl (zc, 120, .inr (.inl gf))), (h0, .inr (7, [v0, v1, v2, v3, v4, v5, v6, v7, v8, v9, .ref e0, .int ts, .int bg, .int en, .int so, .int va, .int 1, .ref i0, .ref y0, .ref z0, .int im, .int sT, .int cT, .int hT, v24, v25, v26, v27]))] H := hP
      have hD : va_D A [(e0, .inl (ec, 120, .inl ef)), (i0, .inl (ic, 6, .inr (.inr (.inr (.inr jf))))), (y0, .inl (yc, 360, .inl yf)), (z0, .inl (zc, 120, .inr (.inl gf))), (h0, .inr (7, [v0, v1, v2, v3, v4, v5, v6, v7, v8, v9, .ref e0, .int ts, .int bg, .int en, .int so, .int va, .int 1, .ref i0, .ref y0, .ref z0, .int im, .int sT, .int cT, .int hT, v24, v25, v26, v27]))] := hD
      refine lv_aload_n hx hb dX9_readItem_27 rfl (lv_at hl 1 rfl) ?_
      refine lv_dup hx hb dX9_readItem_28 rfl ?_
      refine va_get (D := (dC, dI)) (ci := 7) (v := .int sT) (C := RX9) (T := TX9) (N := 28) hx hb hts inX9 hown hK hP 4 rfl rfl 21 (by decide) (hts _ (List.mem_of_getElem? (i := 89) rfl)) (fun _ h9 => h9) rfl dX9_readItem_29 ?_
      refine lv_iconst (v := 1) hx hb dX9_readItem_32 (by decide) ?_
      refine lv_iadd hx hb dX9_readItem_33 ?_
      refine lv_topi (fun n_120 en_120 => ?_)
      have tn_120 : n_120.toInt = sT.toInt + 1 := pp_add en_120 rfl rfl (by omega) (by omega)
      clear en_120
      refine va_put (D := (dC, dI)) (ci := 7) (v := .int n_120) (ty := .int) (C := RX9) (T := TX9) (N := 28) hx hb hts inX9 tyX9 tyX9_ok nmX9 hown hK hP hD hS 4 rfl rfl 21 (by decide) (hts _ (List.mem_of_getElem? (i := 89) rfl)) (fun _ h9 => h9) rfl (by decide +kernel) rfl rfl (Nat.le_of_ble_eq_true rfl) dX9_readItem_34 (fun H locs hP hD hS => ?_)
      have hP : va_P (dC, dI) vwCl [(e0, .inl (ec, 120, .inl ef)), (i0, .inl (ic, 6, .inr (.inr (.inr (.inr jf))))), (y0, .inl (yc, 360, .inl yf)), (z0, .inl (zc, 120, .inr (.inl gf))), (h0, .inr (7, [v0, v1, v2, v3, v4, v5, v6, v7, v8, v9, .ref e0, .int ts, .int bg, .int en, .int so, .int va, .int 1, .ref i0, .ref y0, .ref z0, .int im, .int n_120, .int cT, .int hT, v24, v25, v26, v27]))] H := hP
      have hD : va_D A [(e0, .inl (ec, 120, .inl ef)), (i0, .inl (ic, 6, .inr (.inr (.inr (.inr jf))))), (y0, .inl (yc, 360, .inl yf)), (z0, .inl (zc, 120, .inr (.inl gf))), (h0, .inr (7, [v0, v1, v2, v3, v4, v5, v6, v7, v8, v9, .ref e0, .int ts, .int bg, .int en, .int so, .int va, .int 1, .ref i0, .ref y0, .ref z0, .int im, .int n_120, .int cT, .int hT, v24, v25, v26, v27]))] := hD
      refine lv_aload_n hx hb dX9_readItem_37 rfl (lv_at hl 1 rfl) ?_
      refine lv_iload_n hx hb dX9_readItem_38 rfl (lv_at hl 0 rfl) ?_
      refine lv_aload_n hx hb dX9_readItem_39 rfl (lv_at hl 1 rfl) ?_
      refine lv_iconst (v := 4) hx hb dX9_readItem_40 (by decide) ?_
      have hPc := hP.sub (ws' := [(h0, .inr (7, [v0, v1, v2, v3, v4, v5, v6, v7, v8, v9, .ref e0, .int ts, .int bg, .int en, .int so, .int va, .int 1, .ref i0, .ref y0, .ref z0, .int im, .int n_120, .int cT, .int hT, v24, v25, v26, v27])), (e0, .inl (ec, 120, .inl ef))]) [4, 0] rfl
      have hKc := hK.sub (tys' := [(ec, .int)]) [0] rfl
      have hDc := hD.sub (ws' := [(h0, .inr (7, [v0, v1, v2, v3, v4, v5, v6, v7, v8, v9, .ref e0, .int ts, .int bg, .int en, .int so, .int va, .int 1, .ref i0, .ref y0, .ref z0, .int im, .int n_120, .int cT, .int hT, v24, v25, v26, v27])), (e0, .inl (ec, 120, .inl ef))]) [4, 0] (by decide) rfl
      have hFc := va_free (wc := [(h0, .inr (7, [v0, v1, v2, v3, v4, v5, v6, v7, v8, v9, .ref e0, .int ts, .int bg, .int en, .int so, .int va, .int 1, .ref i0, .ref y0, .ref z0, .int im, .int n_120, .int cT, .int hT, v24, v25, v26, v27])), (e0, .inl (ec, 120, .inl ef))]) hD hS hA [4, 0] rfl
      refine va_calll (va_runV (As := [.int 4]) (rest := [.int r_1, .ref h0]) ⟨hx, hb, hml, hown, hts⟩ (m_readRows l dC dI ad h0 4 v0 v1 v2 v3 v4 v5 v6 v7 v8 v9 e0 ts bg en so va 1 (.ref i0) (.ref y0) (.ref z0) (.int im) (.int n_120) (.int cT) (.int hT) v24 v25 v26 v27 ec ef H.size htm hlx hso hva (by first | omega | decide | (simp only [fa_lt, fa_le, fa_eq, and_true, true_and, and_false, false_and, not_true_eq_false, not_false_eq_true, li_0, li_1, li_2, li_3, li_4, li_5, li_6, li_7, li_8, li_9, li_10, li_12, li_15, li_16, li_20, li_30, li_34, li_38, li_40, li_63, li_64, li_65, li_78, li_120, li_1000, li_4000, li_10000, li_11077, li_255, li_65535, li_m1, li_m2, li_m1000000001, li_m1000000002, li_m1000000003, li_m1000000004, li_m1000000005, li_m1000000006, li_m1000000007, or_true, true_or, or_false, false_or, implies_true, true_implies, false_implies] <;> omega)) (by first | omega | decide | (simp only [fa_lt, fa_le, fa_eq, and_true, true_and, and_false, false_and, not_true_eq_false, not_false_eq_true, li_0, li_1, li_2, li_3, li_4, li_5, li_6, li_7, li_8, li_9, li_10, li_12, li_15, li_16, li_20, li_30, li_34, li_38, li_40, li_63, li_64, li_65, li_78, li_120, li_1000, li_4000, li_10000, li_11077, li_255, li_65535, li_m1, li_m2, li_m1000000001, li_m1000000002, li_m1000000003, li_m1000000004, li_m1000000005, li_m1000000006, li_m1000000007, or_true, true_or, or_false, false_or, implies_true, true_implies, false_implies] <;> omega))) (cwV 1 hts g_m_readItem_m_readRows_244 rfl rfl rfl (by decide +kernel) ⟨(Nat.le_of_ble_eq_true rfl), (Nat.le_of_ble_eq_true rfl)⟩) ⟨preM_blind, va_recv hKc hPc (ci := 7) (q0 := 0) rfl rfl, fun U hU hW => ⟨rfl, preM_at hU hW hPc hKc hDc hev⟩⟩ rfl rfl hl.1 rfl (lv_room (Nat.le_of_ble_eq_true rfl)) dX9_readItem_41 ⟨(Nat.le_of_ble_eq_true rfl), (Nat.le_of_ble_eq_true rfl)⟩) hS (fun q _ h => hFc q h) hFc (fun r_121 u t H1 locs ht hvm hw hB hz1 hk1 hS => ?_)
      obtain ⟨bg_122, en_123, so_124, va_125, iw_126, hq_127, hq_128, hq_129, hq_130, hq_131, hP1, hK1, hD1⟩ := hB
      rw [ht] at hP1
      have hK1 := va_K.moved hvm.symm hK1
      obtain ⟨hP, hD⟩ := va_join (wr := [(i0, .inl (ic, 6, .inr (.inr (.inr (.inr jf))))), (y0, .inl (yc, 360, .inl yf)), (z0, .inl (zc, 120, .inr (.inl gf)))]) (w1 := [(h0, .inr (7, [v0, v1, v2, v3, v4, v5, v6, v7, v8, v9, .ref e0, .int ts, .int bg_122, .int en_123, .int so_124, .int va_125, .int iw_126, .ref i0, .ref y0, .ref z0, .int im, .int n_120, .int cT, .int hT, v24, v25, v26, v27])), (e0, .inl (ec, 120, .inl ef))]) hP hD [4, 0] [1, 2, 3] rfl rfl (by decide) (by decide) hk1 hFc hP1 hD1
      generalize H1 = H at hP hS ⊢
      have hP : va_P (dC, dI) vwCl [(i0, .inl (ic, 6, .inr (.inr (.inr (.inr jf))))), (y0, .inl (yc, 360, .inl yf)), (z0, .inl (zc, 120, .inr (.inl gf))), (h0, .inr (7, [v0, v1, v2, v3, v4, v5, v6, v7, v8, v9, .ref e0, .int ts, .int bg_122, .int en_123, .int so_124, .int va_125, .int iw_126, .ref i0, .ref y0, .ref z0, .int im, .int n_120, .int cT, .int hT, v24, v25, v26, v27])), (e0, .inl (ec, 120, .inl ef))] H := hP
      have hD : va_D A [(i0, .inl (ic, 6, .inr (.inr (.inr (.inr jf))))), (y0, .inl (yc, 360, .inl yf)), (z0, .inl (zc, 120, .inr (.inl gf))), (h0, .inr (7, [v0, v1, v2, v3, v4, v5, v6, v7, v8, v9, .ref e0, .int ts, .int bg_122, .int en_123, .int so_124, .int va_125, .int iw_126, .ref i0, .ref y0, .ref z0, .int im, .int n_120, .int cT, .int hT, v24, v25, v26, v27])), (e0, .inl (ec, 120, .inl ef))] := hD
      have hq_131 : iw_126.toInt = 0 → (1 : Int) = 0 ∧ bg.toInt ≤ bg_122.toInt := hq_131
      obtain ⟨n_132, en_132⟩ : ∃ z : Int32, z = r_121.toInt32 := ⟨_, rfl⟩
      refine lv_l2i (v := n_132) hx hb dX9_readItem_44 en_132.symm ?_
      clear en_132
      refine lv_iconst (v := 0) hx hb dX9_readItem_45 (by decide) ?_
      refine lv_lconst (v := 0) hx hb dX9_readItem_46 (by decide) ?_
      have hPc := hP.sub (ws' := [(h0, .inr (7, [v0, v1, v2, v3, v4, v5, v6, v7, v8, v9, .ref e0, .int ts, .int bg_122, .int en_123, .int so_124, .int va_125, .int iw_126, .ref i0, .ref y0, .ref z0, .int im, .int n_120, .int cT, .int hT, v24, v25, v26, v27])), (y0, .inl (yc, 360, .inl yf)), (z0, .inl (zc, 120, .inr (.inl gf)))]) [3, 1, 2] rfl
      have hKc := hK.sub (tys' := [(yc, .int), (zc, .long)]) [2, 3] rfl
      have hDc := hD.sub (ws' := [(h0, .inr (7, [v0, v1, v2, v3, v4, v5, v6, v7, v8, v9, .ref e0, .int ts, .int bg_122, .int en_123, .int so_124, .int va_125, .int iw_126, .ref i0, .ref y0, .ref z0, .int im, .int n_120, .int cT, .int hT, v24, v25, v26, v27])), (y0, .inl (yc, 360, .inl yf)), (z0, .inl (zc, 120, .inr (.inl gf)))]) [3, 1, 2] (by decide) rfl
      have hFc := va_free (wc := [(h0, .inr (7, [v0, v1, v2, v3, v4, v5, v6, v7, v8, v9, .ref e0, .int ts, .int bg_122, .int en_123, .int so_124, .int va_125, .int iw_126, .ref i0, .ref y0, .ref z0, .int im, .int n_120, .int cT, .int hT, v24, v25, v26, v27])), (y0, .inl (yc, 360, .inl yf)), (z0, .inl (zc, 120, .inr (.inl gf)))]) hD hS hA [3, 1, 2] rfl
      refine va_callv (va_runV (As := [.int r_1, .int n_132, .int 0, .long 0]) (rest := []) ⟨hx, hb, hml, hown, hts⟩ (m_item l dC dI ad h0 r_1 n_132 0 0 v0 v1 v2 v3 v4 v5 v6 v7 v8 v9 (.ref e0) (.int ts) (.int bg_122) (.int en_123) (.int so_124) (.int va_125) (.int iw_126) (.ref i0) y0 z0 im (.int n_120) (.int cT) (.int hT) v24 v25 v26 v27 yc yf zc gf H.size him) (cwV 4 hts g_m_readItem_m_item_247 rfl rfl rfl (by decide +kernel) ⟨(Nat.le_of_ble_eq_true rfl), (Nat.le_of_ble_eq_true rfl)⟩) ⟨preM_blind, va_recv hKc hPc (ci := 7) (q0 := 0) rfl rfl, fun U hU hW => ⟨rfl, preM_at hU hW hPc hKc hDc hev⟩⟩ rfl rfl hl.1 rfl (lv_room (Nat.le_of_ble_eq_true rfl)) dX9_readItem_47 ⟨(Nat.le_of_ble_eq_true rfl), (Nat.le_of_ble_eq_true rfl)⟩) hS (fun q _ h => hFc q h) hFc (fun u t H1 locs ht hvm hw hB hz1 hk1 hS => ?_)
      obtain ⟨im_134, yg_135, gg_136, hq_137, hq_138, hP1, hK1, hD1⟩ := hB
      rw [ht] at hP1
      have hK1 := va_K.moved hvm.symm hK1
      obtain ⟨hP, hD⟩ := va_join (wr := [(i0, .inl (ic, 6, .inr (.inr (.inr (.inr jf))))), (e0, .inl (ec, 120, .inl ef))]) (w1 := [(h0, .inr (7, [v0, v1, v2, v3, v4, v5, v6, v7, v8, v9, .ref e0, .int ts, .int bg_122, .int en_123, .int so_124, .int va_125, .int iw_126, .ref i0, .ref y0, .ref z0, .int im_134, .int n_120, .int cT, .int hT, v24, v25, v26, v27])), (y0, .inl (yc, 360, .inl yg_135)), (z0, .inl (zc, 120, .inr (.inl gg_136)))]) hP hD [3, 1, 2] [0, 4] rfl rfl (by decide) (by decide) hk1 hFc hP1 hD1
      generalize H1 = H at hP hS ⊢
      have hP : va_P (dC, dI) vwCl [(i0, .inl (ic, 6, .inr (.inr (.inr (.inr jf))))), (e0, .inl (ec, 120, .inl ef)), (h0, .inr (7, [v0, v1, v2, v3, v4, v5, v6, v7, v8, v9, .ref e0, .int ts, .int bg_122, .int en_123, .int so_124, .int va_125, .int iw_126, .ref i0, .ref y0, .ref z0, .int im_134, .int n_120, .int cT, .int hT, v24, v25, v26, v27])), (y0, .inl (yc, 360, .inl yg_135)), (z0, .inl (zc, 120, .inr (.inl gg_136)))] H := hP
      have hD : va_D A [(i0, .inl (ic, 6, .inr (.inr (.inr (.inr jf))))), (e0, .inl (ec, 120, .inl ef)), (h0, .inr (7, [v0, v1, v2, v3, v4, v5, v6, v7, v8, v9, .ref e0, .int ts, .int bg_122, .int en_123, .int so_124, .int va_125, .int iw_126, .ref i0, .ref y0, .ref z0, .int im_134, .int n_120, .int cT, .int hT, v24, v25, v26, v27])), (y0, .inl (yc, 360, .inl yg_135)), (z0, .inl (zc, 120, .inr (.inl gg_136)))] := hD
      refine lv_goto (tgt := 186) hx hb dX9_readItem_50 (by decide) ?_
      have hP9 := hP.sub (ws' := [(h0, .inr (7, [v0, v1, v2, v3, v4, v5, v6, v7, v8, v9, .ref e0, .int ts, .int bg_122, .int en_123, .int so_124, .int va_125, .int iw_126, .ref i0, .ref y0, .ref z0, .int im_134, .int n_120, .int cT, .int hT, v24, v25, v26, v27])), (e0, .inl (ec, 120, .inl ef)), (i0, .inl (ic, 6, .inr (.inr (.inr (.inr jf))))), (y0, .inl (yc, 360, .inl yg_135)), (z0, .inl (zc, 120, .inr (.inl gg_136)))]) [2, 1, 0, 3, 4] rfl
      have hD9 := hD.sub (ws' := [(h0, .inr (7, [v0, v1, v2, v3, v4, v5, v6, v7, v8, v9, .ref e0, .int ts, .int bg_122, .int en_123, .int so_124, .int va_125, .int iw_126, .ref i0, .ref y0, .ref z0, .int im_134, .int n_120, .int cT, .int hT, v24, v25, v26, v27])), (e0, .inl (ec, 120, .inl ef)), (i0, .inl (ic, 6, .inr (.inr (.inr (.inr jf))))), (y0, .inl (yc, 360, .inl yg_135)), (z0, .inl (zc, 120, .inr (.inl gg_136)))]) [2, 1, 0, 3, 4] (by decide) rfl
      have hK9 := hK.sub (tys' := [(ec, .int), (ic, .object "java/lang/String"), (yc, .int), (zc, .long)]) [0, 1, 2, 3] rfl
      exact W.vret hx hb hr (fun t ht hW => ⟨⟨(), rfl, trivial, bg_122, en_123, so_124, va_125, iw_126, n_120, cT, hT, im_134, yg_135, gg_136, hq_127, hq_128, hq_129, hq_130, (by first | omega | decide | (simp only [fa_lt, fa_le, fa_eq, and_true, true_and, and_false, false_and, not_true_eq_false, not_false_eq_true, li_0, li_1, li_2, li_3, li_4, li_5, li_6, li_7, li_8, li_9, li_10, li_12, li_15, li_16, li_20, li_30, li_34, li_38, li_40, li_63, li_64, li_65, li_78, li_120, li_1000, li_4000, li_10000, li_11077, li_255, li_65535, li_m1, li_m2, li_m1000000001, li_m1000000002, li_m1000000003, li_m1000000004, li_m1000000005, li_m1000000006, li_m1000000007, or_true, true_or, or_false, false_or, implies_true, true_implies, false_implies] <;> omega)), hq_137, (fun hz => RI_mk hq_138 (Or.inl ⟨by omega, by omega, by omega, by omega, rfl, rfl⟩)), (by first | omega | decide | (simp only [fa_lt, fa_le, fa_eq, and_true, true_and, and_false, false_and, not_true_eq_false, not_false_eq_true, li_0, li_1, li_2, li_3, li_4, li_5, li_6, li_7, li_8, li_9, li_10, li_12, li_15, li_16, li_20, li_30, li_34, li_38, li_40, li_63, li_64, li_65, li_78, li_120, li_1000, li_4000, li_10000, li_11077, li_255, li_65535, li_m1, li_m2, li_m1000000001, li_m1000000002, li_m1000000003, li_m1000000004, li_m1000000005, li_m1000000006, li_m1000000007, or_true, true_or, or_false, false_or, implies_true, true_implies, false_implies] <;> omega)), by rw [ht]; exact hP9, va_K.moved hW.alike hK9, hD9⟩, hS.F ht⟩) hS.2.2 dX9_readItem_186
    · skip
      have tc_118 : ¬ 9 ≤ sT.toInt := fun h => c_118 ((fa_le _ _).mpr h)
      refine lv_iconst (v := 1) hx hb dX9_readItem_19 (by decide) ?_
      refine lv_goto (tgt := 24) hx hb dX9_readItem_20 (by decide) ?_
      have hPc := hP.sub (ws' := [(h0, .inr (7, [v0, v1, v2, v3, v4, v5, v6, v7, v8, v9, .ref e0, .int ts, .int bg, .int en, .int so, .int va, .int 0, .ref i0, .ref y0, .ref z0, .int im, .int sT, .int cT, .int hT, v24, v25, v26, v27])), (e0, .inl (ec, 120, .inl ef))]) [0, 1] rfl
      have hKc := hK.sub (tys' := [(ec, .int)]) [0] rfl
      have hDc := hD.sub (ws' := [(h0, .inr (7, [v0, v1, v2, v3, v4, v5, v6, v7, v8, v9, .ref e0, .int ts, .int bg, .int en, .int so, .int va, .int 0, .ref i0, .ref y0, .ref z0, .int im, .int sT, .int cT, .int hT, v24, v25, v26, v27])), (e0, .inl (ec, 120, .inl ef))]) [0, 1] (by decide) rfl
      have hFc := va_free (wc := [(h0, .inr (7, [v0, v1, v2, v3, v4, v5, v6, v7, v8, v9, .ref e0, .int ts, .int bg, .int en, .int so, .int va, .int 0, .ref i0, .ref y0, .ref z0, .int im, .int sT, .int cT, .int hT, v24, v25, v26, v27])), (e0, .inl (ec, 120, .inl ef))]) hD hS hA [0, 1] rfl
      refine va_callv (va_runV (As := [.int 1]) (rest := []) ⟨hx, hb, hml, hown, hts⟩ (m_must1 l dC dI ad h0 v0 v1 v2 v3 v4 v5 v6 v7 v8 v9 e0 ts bg en so va (.ref i0) (.ref y0) (.ref z0) (.int im) (.int sT) (.int cT) (.int hT) v24 v25 v26 v27 ec ef s.heap.size htm hlx hso hva) (cwV 1 hts g_m_readItem_m_must1_224 rfl rfl rfl (by decide +kernel) ⟨(Nat.le_of_ble_eq_true rfl), (Nat.le_of_ble_eq_true rfl)⟩) ⟨preM_blind, va_recv hKc hPc (ci := 7) (q0 := 0) rfl rfl, fun U hU hW => ⟨rfl, preM_at hU hW hPc hKc hDc hev⟩⟩ rfl rfl hl.1 rfl (lv_room (Nat.le_of_ble_eq_true rfl)) dX9_readItem_24 ⟨(Nat.le_of_ble_eq_true rfl), (Nat.le_of_ble_eq_true rfl)⟩) hS (fun q _ h => hFc q h) hFc (fun u t H1 locs ht hvm hw hB hz1 hk1 hS => ?_)
      obtain ⟨bg_140, en_141, so_142, va_143, hq_144, hq_145, hq_146, hq_147, hP1, hK1, hD1⟩ := hB
      rw [ht] at hP1
      have hK1 := va_K.moved hvm.symm hK1
      obtain ⟨hP, hD⟩ := va_join (wr := [(i0, .inl (ic, 6, .inr (.inr (.inr (.inr jf))))), (y0, .inl (yc, 360, .inl yf)), (z0, .inl (zc, 120, .inr (.inl gf)))]) (w1 := [(h0, .inr (7, [v0, v1, v2, v3, v4, v5, v6, v7, v8, v9, .ref e0, .int ts, .int bg_140, .int en_141, .int so_142, .int va_143, .int 0, .ref i0, .ref y0, .ref z0, .int im, .int sT, .int cT, .int hT, v24, v25, v26, v27])), (e0, .inl (ec, 120, .inl ef))]) hP hD [0, 1] [2, 3, 4] rfl rfl (by decide) (by decide) hk1 hFc hP1 hD1
      generalize H1 = H at hP hS ⊢
      have hP : va_P (dC, dI) vwCl [(i0, .inl (ic, 6, .inr (.inr (.inr (.inr jf))))), (y0, .inl (yc, 360, .inl yf)), (z0, .inl (zc, 120, .inr (.inl gf))), (h0, .inr (7, [v0, v1, v2, v3, v4, v5, v6, v7, v8, v9, .ref e0, .int ts, .int bg_140, .int en_141, .int so_142, .int va_143, .int 0, .ref i0, .ref y0, .ref z0, .int im, .int sT, .int cT, .int hT, v24, v25, v26, v27])), (e0, .inl (ec, 120, .inl ef))] H := hP
      have hD : va_D A [(i0, .inl (ic, 6, .inr (.inr (.inr (.inr jf))))), (y0, .inl (yc, 360, .inl yf)), (z0, .inl (zc, 120, .inr (.inl gf))), (h0, .inr (7, [v0, v1, v2, v3, v4, v5, v6, v7, v8, v9, .ref e0, .int ts, .int bg_140, .int en_141, .int so_142, .int va_143, .int 0, .ref i0, .ref y0, .ref z0, .int im, .int sT, .int cT, .int hT, v24, v25, v26, v27])), (e0, .inl (ec, 120, .inl ef))] := hD
      refine lv_aload_n hx hb dX9_readItem_27 rfl (lv_at hl 1 rfl) ?_
      refine lv_dup hx hb dX9_readItem_28 rfl ?_
      refine va_get (D := (dC, dI)) (ci := 7) (v := .int sT) (C := RX9) (T := TX9) (N := 28) hx hb hts inX9 hown hK hP 3 rfl rfl 21 (by decide) (hts _ (List.mem_of_getElem? (i := 89) rfl)) (fun _ h9 => h9) rfl dX9_readItem_29 ?_
      refine lv_iconst (v := 1) hx hb dX9_readItem_32 (by decide) ?_
      refine lv_iadd hx hb dX9_readItem_33 ?_
      refine lv_topi (fun n_148 en_148 => ?_)
      have tn_148 : n_148.toInt = sT.toInt + 1 := pp_add en_148 rfl rfl (by omega) (by omega)
      clear en_148
      refine va_put (D := (dC, dI)) (ci := 7) (v := .int n_148) (ty := .int) (C := RX9) (T := TX9) (N := 28) hx hb hts inX9 tyX9 tyX9_ok nmX9 hown hK hP hD hS 3 rfl rfl 21 (by decide) (hts _ (List.mem_of_getElem? (i := 89) rfl)) (fun _ h9 => h9) rfl (by decide +kernel) rfl rfl (Nat.le_of_ble_eq_true rfl) dX9_readItem_34 (fun H locs hP hD hS => ?_)
      have hP : va_P (dC, dI) vwCl [(i0, .inl (ic, 6, .inr (.inr (.inr (.inr jf))))), (y0, .inl (yc, 360, .inl yf)), (z0, .inl (zc, 120, .inr (.inl gf))), (h0, .inr (7, [v0, v1, v2, v3, v4, v5, v6, v7, v8, v9, .ref e0, .int ts, .int bg_140, .int en_141, .int so_142, .int va_143, .int 0, .ref i0, .ref y0, .ref z0, .int im, .int n_148, .int cT, .int hT, v24, v25, v26, v27])), (e0, .inl (ec, 120, .inl ef))] H := hP
      have hD : va_D A [(i0, .inl (ic, 6, .inr (.inr (.inr (.inr jf))))), (y0, .inl (yc, 360, .inl yf)), (z0, .inl (zc, 120, .inr (.inl gf))), (h0, .inr (7, [v0, v1, v2, v3, v4, v5, v6, v7, v8, v9, .ref e0, .int ts, .int bg_140, .int en_141, .int so_142, .int va_143, .int 0, .ref i0, .ref y0, .ref z0, .int im, .int n_148, .int cT, .int hT, v24, v25, v26, v27])), (e0, .inl (ec, 120, .inl ef))] := hD
      refine lv_aload_n hx hb dX9_readItem_37 rfl (lv_at hl 1 rfl) ?_
      refine lv_iload_n hx hb dX9_readItem_38 rfl (lv_at hl 0 rfl) ?_
      refine lv_aload_n hx hb dX9_readItem_39 rfl (lv_at hl 1 rfl) ?_
      refine lv_iconst (v := 4) hx hb dX9_readItem_40 (by decide) ?_
      have hPc := hP.sub (ws' := [(h0, .inr (7, [v0, v1, v2, v3, v4, v5, v6, v7, v8, v9, .ref e0, .int ts, .int bg_140, .int en_141, .int so_142, .int va_143, .int 0, .ref i0, .ref y0, .ref z0, .int im, .int n_148, .int cT, .int hT, v24, v25, v26, v27])), (e0, .inl (ec, 120, .inl ef))]) [3, 4] rfl
      have hKc := hK.sub (tys' := [(ec, .int)]) [0] rfl
      have hDc := hD.sub (ws' := [(h0, .inr (7, [v0, v1, v2, v3, v4, v5, v6, v7, v8, v9, .ref e0, .int ts, .int bg_140, .int en_141, .int so_142, .int va_143, .int 0, .ref i0, .ref y0, .ref z0, .int im, .int n_148, .int cT, .int hT, v24, v25, v26, v27])), (e0, .inl (ec, 120, .inl ef))]) [3, 4] (by decide) rfl
      have hFc := va_free (wc := [(h0, .inr (7, [v0, v1, v2, v3, v4, v5, v6, v7, v8, v9, .ref e0, .int ts, .int bg_140, .int en_141, .int so_142, .int va_143, .int 0, .ref i0, .ref y0, .ref z0, .int im, .int n_148, .int cT, .int hT, v24, v25, v26, v27])), (e0, .inl (ec, 120, .inl ef))]) hD hS hA [3, 4] rfl
      refine va_calll (va_runV (As := [.int 4]) (rest := [.int r_1, .ref h0]) ⟨hx, hb, hml, hown, hts⟩ (m_readRows l dC dI ad h0 4 v0 v1 v2 v3 v4 v5 v6 v7 v8 v9 e0 ts bg_140 en_141 so_142 va_143 0 (.ref i0) (.ref y0) (.ref z0) (.int im) (.int n_148) (.int cT) (.int hT) v24 v25 v26 v27 ec ef H.size htm hq_144 hq_145 hq_146 (by first | omega | decide | (simp only [fa_lt, fa_le, fa_eq, and_true, true_and, and_false, false_and, not_true_eq_false, not_false_eq_true, li_0, li_1, li_2, li_3, li_4, li_5, li_6, li_7, li_8, li_9, li_10, li_12, li_15, li_16, li_20, li_30, li_34, li_38, li_40, li_63, li_64, li_65, li_78, li_120, li_1000, li_4000, li_10000, li_11077, li_255, li_65535, li_m1, li_m2, li_m1000000001, li_m1000000002, li_m1000000003, li_m1000000004, li_m1000000005, li_m1000000006, li_m1000000007, or_true, true_or, or_false, false_or, implies_true, true_implies, false_implies] <;> omega)) (by first | omega | decide | (simp only [fa_lt, fa_le, fa_eq, and_true, true_and, and_false, false_and, not_true_eq_false, not_false_eq_true, li_0, li_1, li_2, li_3, li_4, li_5, li_6, li_7, li_8, li_9, li_10, li_12, li_15, li_16, li_20, li_30, li_34, li_38, li_40, li_63, li_64, li_65, li_78, li_120, li_1000, li_4000, li_10000, li_11077, li_255, li_65535, li_m1, li_m2, li_m1000000001, li_m1000000002, li_m1000000003, li_m1000000004, li_m1000000005, li_m1000000006, li_m1000000007, or_true, true_or, or_false, false_or, implies_true, true_implies, false_implies] <;> omega))) (cwV 1 hts g_m_readItem_m_readRows_244 rfl rfl rfl (by decide +kernel) ⟨(Nat.le_of_ble_eq_true rfl), (Nat.le_of_ble_eq_true rfl)⟩) ⟨preM_blind, va_recv hKc hPc (ci := 7) (q0 := 0) rfl rfl, fun U hU hW => ⟨rfl, preM_at hU hW hPc hKc hDc hev⟩⟩ rfl rfl hl.1 rfl (lv_room (Nat.le_of_ble_eq_true rfl)) dX9_readItem_41 ⟨(Nat.le_of_ble_eq_true rfl), (Nat.le_of_ble_eq_true rfl)⟩) hS (fun q _ h => hFc q h) hFc (fun r_149 u t H1 locs ht hvm hw hB hz1 hk1 hS => ?_)
      obtain ⟨bg_150, en_151, so_152, va_153, iw_154, hq_155, hq_156, hq_157, hq_158, hq_159, hP1, hK1, hD1⟩ := hB
      rw [ht] at hP1
      have hK1 := va_K.moved hvm.symm hK1
      obtain ⟨hP, hD⟩ := va_join (wr := [(i0, .inl (ic, 6, .inr (.inr (.inr (.inr jf))))), (y0, .inl (yc, 360, .inl yf)), (z0, .inl (zc, 120, .inr (.inl gf)))]) (w1 := [(h0, .inr (7, [v0, v1, v2, v3, v4, v5, v6, v7, v8, v9, .ref e0, .int ts, .int bg_150, .int en_151, .int so_152, .int va_153, .int iw_154, .ref i0, .ref y0, .ref z0, .int im, .int n_148, .int cT, .int hT, v24, v25, v26, v27])), (e0, .inl (ec, 120, .inl ef))]) hP hD [3, 4] [0, 1, 2] rfl rfl (by decide) (by decide) hk1 hFc hP1 hD1
      generalize H1 = H at hP hS ⊢
      have hP : va_P (dC, dI) vwCl [(i0, .inl (ic, 6, .inr (.inr (.inr (.inr jf))))), (y0, .inl (yc, 360, .inl yf)), (z0, .inl (zc, 120, .inr (.inl gf))), (h0, .inr (7, [v0, v1, v2, v3, v4, v5, v6, v7, v8, v9, .ref e0, .int ts, .int bg_150, .int en_151, .int so_152, .int va_153, .int iw_154, .ref i0, .ref y0, .ref z0, .int im, .int n_148, .int cT, .int hT, v24, v25, v26, v27])), (e0, .inl (ec, 120, .inl ef))] H := hP
      have hD : va_D A [(i0, .inl (ic, 6, .inr (.inr (.inr (.inr jf))))), (y0, .inl (yc, 360, .inl yf)), (z0, .inl (zc, 120, .inr (.inl gf))), (h0, .inr (7, [v0, v1, v2, v3, v4, v5, v6, v7, v8, v9, .ref e0, .int ts, .int bg_150, .int en_151, .int so_152, .int va_153, .int iw_154, .ref i0, .ref y0, .ref z0, .int im, .int n_148, .int cT, .int hT, v24, v25, v26, v27])), (e0, .inl (ec, 120, .inl ef))] := hD
      have hq_159 : iw_154.toInt = 0 → (0 : Int) = 0 ∧ bg_140.toInt ≤ bg_150.toInt := hq_159
      obtain ⟨n_160, en_160⟩ : ∃ z : Int32, z = r_149.toInt32 := ⟨_, rfl⟩
      refine lv_l2i (v := n_160) hx hb dX9_readItem_44 en_160.symm ?_
      clear en_160
      refine lv_iconst (v := 0) hx hb dX9_readItem_45 (by decide) ?_
      refine lv_lconst (v := 0) hx hb dX9_readItem_46 (by decide) ?_
      have hPc := hP.sub (ws' := [(h0, .inr (7, [v0, v1, v2, v3, v4, v5, v6, v7, v8, v9, .ref e0, .int ts, .int bg_150, .int en_151, .int so_152, .int va_153, .int iw_154, .ref i0, .ref y0, .ref z0, .int im, .int n_148, .int cT, .int hT, v24, v25, v26, v27])), (y0, .inl (yc, 360, .inl yf)), (z0, .inl (zc, 120, .inr (.inl gf)))]) [3, 1, 2] rfl
      have hKc := hK.sub (tys' := [(yc, .int), (zc, .long)]) [2, 3] rfl
      have hDc := hD.sub (ws' := [(h0, .inr (7, [v0, v1, v2, v3, v4, v5, v6, v7, v8, v9, .ref e0, .int ts, .int bg_150, .int en_151, .int so_152, .int va_153, .int iw_154, .ref i0, .ref y0, .ref z0, .int im, .int n_148, .int cT, .int hT, v24, v25, v26, v27])), (y0, .inl (yc, 360, .inl yf)), (z0, .inl (zc, 120, .inr (.inl gf)))]) [3, 1, 2] (by decide) rfl
      have hFc := va_free (wc := [(h0, .inr (7, [v0, v1, v2, v3, v4, v5, v6, v7, v8, v9, .ref e0, .int ts, .int bg_150, .int en_151, .int so_152, .int va_153, .int iw_154, .ref i0, .ref y0, .ref z0, .int im, .int n_148, .int cT, .int hT, v24, v25, v26, v27])), (y0, .inl (yc, 360, .inl yf)), (z0, .inl (zc, 120, .inr (.inl gf)))]) hD hS hA [3, 1, 2] rfl
      refine va_callv (va_runV (As := [.int r_1, .int n_160, .int 0, .long 0]) (rest := []) ⟨hx, hb, hml, hown, hts⟩ (m_item l dC dI ad h0 r_1 n_160 0 0 v0 v1 v2 v3 v4 v5 v6 v7 v8 v9 (.ref e0) (.int ts) (.int bg_150) (.int en_151) (.int so_152) (.int va_153) (.int iw_154) (.ref i0) y0 z0 im (.int n_148) (.int cT) (.int hT) v24 v25 v26 v27 yc yf zc gf H.size him) (cwV 4 hts g_m_readItem_m_item_247 rfl rfl rfl (by decide +kernel) ⟨(Nat.le_of_ble_eq_true rfl), (Nat.le_of_ble_eq_true rfl)⟩) ⟨preM_blind, va_recv hKc hPc (ci := 7) (q0 := 0) rfl rfl, fun U hU hW => ⟨rfl, preM_at hU hW hPc hKc hDc hev⟩⟩ rfl rfl hl.1 rfl (lv_room (Nat.le_of_ble_eq_true rfl)) dX9_readItem_47 ⟨(Nat.le_of_ble_eq_true rfl), (Nat.le_of_ble_eq_true rfl)⟩) hS (fun q _ h => hFc q h) hFc (fun u t H1 locs ht hvm hw hB hz1 hk1 hS => ?_)
      obtain ⟨im_162, yg_163, gg_164, hq_165, hq_166, hP1, hK1, hD1⟩ := hB
      rw [ht] at hP1
      have hK1 := va_K.moved hvm.symm hK1
      obtain ⟨hP, hD⟩ := va_join (wr := [(i0, .inl (ic, 6, .inr (.inr (.inr (.inr jf))))), (e0, .inl (ec, 120, .inl ef))]) (w1 := [(h0, .inr (7, [v0, v1, v2, v3, v4, v5, v6, v7, v8, v9, .ref e0, .int ts, .int bg_150, .int en_151, .int so_152, .int va_153, .int iw_154, .ref i0, .ref y0, .ref z0, .int im_162, .int n_148, .int cT, .int hT, v24, v25, v26, v27])), (y0, .inl (yc, 360, .inl yg_163)), (z0, .inl (zc, 120, .inr (.inl gg_164)))]) hP hD [3, 1, 2] [0, 4] rfl rfl (by decide) (by decide) hk1 hFc hP1 hD1
      generalize H1 = H at hP hS ⊢
      have hP : va_P (dC, dI) vwCl [(i0, .inl (ic, 6, .inr (.inr (.inr (.inr jf))))), (e0, .inl (ec, 120, .inl ef)), (h0, .inr (7, [v0, v1, v2, v3, v4, v5, v6, v7, v8, v9, .ref e0, .int ts, .int bg_150, .int en_151, .int so_152, .int va_153, .int iw_154, .ref i0, .ref y0, .ref z0, .int im_162, .int n_148, .int cT, .int hT, v24, v25, v26, v27])), (y0, .inl (yc, 360, .inl yg_163)), (z0, .inl (zc, 120, .inr (.inl gg_164)))] H := hP
      have hD : va_D A [(i0, .inl (ic, 6, .inr (.inr (.inr (.inr jf))))), (e0, .inl (ec, 120, .inl ef)), (h0, .inr (7, [v0, v1, v2, v3, v4, v5, v6, v7, v8, v9, .ref e0, .int ts, .int bg_150, .int en_151, .int so_152, .int va_153, .int iw_154, .ref i0, .ref y0, .ref z0, .int im_162, .int n_148, .int cT, .int hT, v24, v25, v26, v27])), (y0, .inl (yc, 360, .inl yg_163)), (z0, .inl (zc, 120, .inr (.inl gg_164)))] := hD
      refine lv_goto (tgt := 186) hx hb dX9_readItem_50 (by decide) ?_
      have hP9 := hP.sub (ws' := [(h0, .inr (7, [v0, v1, v2, v3, v4, v5, v6, v7, v8, v9, .ref e0, .int ts, .int bg_150, .int en_151, .int so_152, .int va_153, .int iw_154, .ref i0, .ref y0, .ref z0, .int im_162, .int n_148, .int cT, .int hT, v24, v25, v26, v27])), (e0, .inl (ec, 120, .inl ef)), (i0, .inl (ic, 6, .inr (.inr (.inr (.inr jf))))), (y0, .inl (yc, 360, .inl yg_163)), (z0, .inl (zc, 120, .inr (.inl gg_164)))]) [2, 1, 0, 3, 4] rfl
      have hD9 := hD.sub (ws' := [(h0, .inr (7, [v0, v1, v2, v3, v4, v5, v6, v7, v8, v9, .ref e0, .int ts, .int bg_150, .int en_151, .int so_152, .int va_153, .int iw_154, .ref i0, .ref y0, .ref z0, .int im_162, .int n_148, .int cT, .int hT, v24, v25, v26, v27])), (e0, .inl (ec, 120, .inl ef)), (i0, .inl (ic, 6, .inr (.inr (.inr (.inr jf))))), (y0, .inl (yc, 360, .inl yg_163)), (z0, .inl (zc, 120, .inr (.inl gg_164)))]) [2, 1, 0, 3, 4] (by decide) rfl
      have hK9 := hK.sub (tys' := [(ec, .int), (ic, .object "java/lang/String"), (yc, .int), (zc, .long)]) [0, 1, 2, 3] rfl
      exact W.vret hx hb hr (fun t ht hW => ⟨⟨(), rfl, trivial, bg_150, en_151, so_152, va_153, iw_154, n_148, cT, hT, im_162, yg_163, gg_164, hq_155, hq_156, hq_157, hq_158, (by first | omega | decide | (simp only [fa_lt, fa_le, fa_eq, and_true, true_and, and_false, false_and, not_true_eq_false, not_false_eq_true, li_0, li_1, li_2, li_3, li_4, li_5, li_6, li_7, li_8, li_9, li_10, li_12, li_15, li_16, li_20, li_30, li_34, li_38, li_40, li_63, li_64, li_65, li_78, li_120, li_1000, li_4000, li_10000, li_11077, li_255, li_65535, li_m1, li_m2, li_m1000000001, li_m1000000002, li_m1000000003, li_m1000000004, li_m1000000005, li_m1000000006, li_m1000000007, or_true, true_or, or_false, false_or, implies_true, true_implies, false_implies] <;> omega)), hq_165, (fun hz => RI_mk hq_166 (Or.inl ⟨by omega, by omega, by omega, by omega, rfl, rfl⟩)), (by first | omega | decide | (simp only [fa_lt, fa_le, fa_eq, and_true, true_and, and_false, false_and, not_true_eq_false, not_false_eq_true, li_0, li_1, li_2, li_3, li_4, li_5, li_6, li_7, li_8, li_9, li_10, li_12, li_15, li_16, li_20, li_30, li_34, li_38, li_40, li_63, li_64, li_65, li_78, li_120, li_1000, li_4000, li_10000, li_11077, li_255, li_65535, li_m1, li_m2, li_m1000000001, li_m1000000002, li_m1000000003, li_m1000000004, li_m1000000005, li_m1000000006, li_m1000000007, or_true, true_or, or_false, false_or, implies_true, true_implies, false_implies] <;> omega)), by rw [ht]; exact hP9, va_K.moved hW.alike hK9, hD9⟩, hS.F ht⟩) hS.2.2 dX9_readItem_186

