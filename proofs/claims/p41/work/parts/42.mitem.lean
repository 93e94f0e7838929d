theorem dX9_item_0 : decode cX9_item 0 = .ok (.iconst 3, 1) := by decide +kernel
theorem dX9_item_1 : decode cX9_item 1 = .ok (.aload_n 0, 1) := by decide +kernel
theorem dX9_item_2 : decode cX9_item 2 = .ok (.getfield 228, 3) := by decide +kernel
theorem dX9_item_5 : decode cX9_item 5 = .ok (.imul, 1) := by decide +kernel
theorem dX9_item_6 : decode cX9_item 6 = .ok (.istore 6, 2) := by decide +kernel
theorem dX9_item_8 : decode cX9_item 8 = .ok (.aload_n 0, 1) := by decide +kernel
theorem dX9_item_9 : decode cX9_item 9 = .ok (.getfield 53, 3) := by decide +kernel
theorem dX9_item_12 : decode cX9_item 12 = .ok (.iload 6, 2) := by decide +kernel
theorem dX9_item_14 : decode cX9_item 14 = .ok (.iload_n 1, 1) := by decide +kernel
theorem dX9_item_15 : decode cX9_item 15 = .ok (.iastore, 1) := by decide +kernel
theorem dX9_item_16 : decode cX9_item 16 = .ok (.aload_n 0, 1) := by decide +kernel
theorem dX9_item_17 : decode cX9_item 17 = .ok (.getfield 53, 3) := by decide +kernel
theorem dX9_item_20 : decode cX9_item 20 = .ok (.iload 6, 2) := by decide +kernel
theorem dX9_item_22 : decode cX9_item 22 = .ok (.iconst 1, 1) := by decide +kernel
theorem dX9_item_23 : decode cX9_item 23 = .ok (.iadd, 1) := by decide +kernel
theorem dX9_item_24 : decode cX9_item 24 = .ok (.iload_n 2, 1) := by decide +kernel
theorem dX9_item_25 : decode cX9_item 25 = .ok (.iastore, 1) := by decide +kernel
theorem dX9_item_26 : decode cX9_item 26 = .ok (.aload_n 0, 1) := by decide +kernel
theorem dX9_item_27 : decode cX9_item 27 = .ok (.getfield 53, 3) := by decide +kernel
theorem dX9_item_30 : decode cX9_item 30 = .ok (.iload 6, 2) := by decide +kernel
theorem dX9_item_32 : decode cX9_item 32 = .ok (.iconst 2, 1) := by decide +kernel
theorem dX9_item_33 : decode cX9_item 33 = .ok (.iadd, 1) := by decide +kernel
theorem dX9_item_34 : decode cX9_item 34 = .ok (.iload_n 3, 1) := by decide +kernel
theorem dX9_item_35 : decode cX9_item 35 = .ok (.iastore, 1) := by decide +kernel
theorem dX9_item_36 : decode cX9_item 36 = .ok (.aload_n 0, 1) := by decide +kernel
theorem dX9_item_37 : decode cX9_item 37 = .ok (.getfield 56, 3) := by decide +kernel
theorem dX9_item_40 : decode cX9_item 40 = .ok (.aload_n 0, 1) := by decide +kernel
theorem dX9_item_41 : decode cX9_item 41 = .ok (.getfield 228, 3) := by decide +kernel
theorem dX9_item_44 : decode cX9_item 44 = .ok (.lload 4, 2) := by decide +kernel
theorem dX9_item_46 : decode cX9_item 46 = .ok (.lastore, 1) := by decide +kernel
theorem dX9_item_47 : decode cX9_item 47 = .ok (.aload_n 0, 1) := by decide +kernel
theorem dX9_item_48 : decode cX9_item 48 = .ok (.dup, 1) := by decide +kernel
theorem dX9_item_49 : decode cX9_item 49 = .ok (.getfield 228, 3) := by decide +kernel
theorem dX9_item_52 : decode cX9_item 52 = .ok (.iconst 1, 1) := by decide +kernel
theorem dX9_item_53 : decode cX9_item 53 = .ok (.iadd, 1) := by decide +kernel
theorem dX9_item_54 : decode cX9_item 54 = .ok (.putfield 228, 3) := by decide +kernel
theorem dX9_item_57 : decode cX9_item 57 = .ok (.return_, 1) := by decide +kernel
theorem dX9_readItem_0 : decode cX9_readItem 0 = .ok (.aload_n 0, 1) := by decide +kernel
theorem dX9_readItem_1 : decode cX9_readItem 1 = .ok (.invokevirtual 238, 3) := by decide +kernel
theorem dX9_readItem_4 : decode cX9_readItem 4 = .ok (.istore_n 1, 1) := by decide +kernel
theorem dX9_readItem_5 : decode cX9_readItem 5 = .ok (.iload_n 1, 1) := by decide +kernel
theorem dX9_readItem_6 : decode cX9_readItem 6 = .ok (.ifCond .lt 47, 3) := by decide +kernel
theorem dX9_readItem_9 : decode cX9_readItem 9 = .ok (.aload_n 0, 1) := by decide +kernel
theorem dX9_readItem_10 : decode cX9_readItem 10 = .ok (.aload_n 0, 1) := by decide +kernel
theorem dX9_readItem_11 : decode cX9_readItem 11 = .ok (.getfield 241, 3) := by decide +kernel
theorem dX9_readItem_14 : decode cX9_readItem 14 = .ok (.bipush 9, 2) := by decide +kernel
theorem dX9_readItem_16 : decode cX9_readItem 16 = .ok (.if_icmp .ge 7, 3) := by decide +kernel
theorem dX9_readItem_19 : decode cX9_readItem 19 = .ok (.iconst 1, 1) := by decide +kernel
theorem dX9_readItem_20 : decode cX9_readItem 20 = .ok (.goto 4, 3) := by decide +kernel
theorem dX9_readItem_23 : decode cX9_readItem 23 = .ok (.iconst 0, 1) := by decide +kernel
theorem dX9_readItem_24 : decode cX9_readItem 24 = .ok (.invokevirtual 224, 3) := by decide +kernel
theorem dX9_readItem_27 : decode cX9_readItem 27 = .ok (.aload_n 0, 1) := by decide +kernel
theorem dX9_readItem_28 : decode cX9_readItem 28 = .ok (.dup, 1) := by decide +kernel
theorem dX9_readItem_29 : decode cX9_readItem 29 = .ok (.getfield 241, 3) := by decide +kernel
theorem dX9_readItem_32 : decode cX9_readItem 32 = .ok (.iconst 1, 1) := by decide +kernel
theorem dX9_readItem_33 : decode cX9_readItem 33 = .ok (.iadd, 1) := by decide +kernel
theorem dX9_readItem_34 : decode cX9_readItem 34 = .ok (.putfield 241, 3) := by decide +kernel
theorem dX9_readItem_37 : decode cX9_readItem 37 = .ok (.aload_n 0, 1) := by decide +kernel
theorem dX9_readItem_38 : decode cX9_readItem 38 = .ok (.iload_n 1, 1) := by decide +kernel
theorem dX9_readItem_39 : decode cX9_readItem 39 = .ok (.aload_n 0, 1) := by decide +kernel
theorem dX9_readItem_40 : decode cX9_readItem 40 = .ok (.iconst 4, 1) := by decide +kernel
theorem dX9_readItem_41 : decode cX9_readItem 41 = .ok (.invokevirtual 244, 3) := by decide +kernel
theorem dX9_readItem_44 : decode cX9_readItem 44 = .ok (.l2i, 1) := by decide +kernel
theorem dX9_readItem_45 : decode cX9_readItem 45 = .ok (.iconst 0, 1) := by decide +kernel
theorem dX9_readItem_46 : decode cX9_readItem 46 = .ok (.lconst 0, 1) := by decide +kernel
theorem dX9_readItem_47 : decode cX9_readItem 47 = .ok (.invokevirtual 247, 3) := by decide +kernel
theorem dX9_readItem_50 : decode cX9_readItem 50 = .ok (.goto 136, 3) := by decide +kernel
theorem dX9_readItem_53 : decode cX9_readItem 53 = .ok (.aload_n 0, 1) := by decide +kernel
theorem dX9_readItem_54 : decode cX9_readItem 54 = .ok (.ldc 251, 2) := by decide +kernel
theorem dX9_readItem_56 : decode cX9_readItem 56 = .ok (.invokevirtual 231, 3) := by decide +kernel
theorem dX9_readItem_59 : decode cX9_readItem 59 = .ok (.ifCond .eq 48, 3) := by decide +kernel
theorem dX9_readItem_62 : decode cX9_readItem 62 = .ok (.aload_n 0, 1) := by decide +kernel
theorem dX9_readItem_63 : decode cX9_readItem 63 = .ok (.aload_n 0, 1) := by decide +kernel
theorem dX9_readItem_64 : decode cX9_readItem 64 = .ok (.getfield 253, 3) := by decide +kernel
theorem dX9_readItem_67 : decode cX9_readItem 67 = .ok (.bipush 7, 2) := by decide +kernel
theorem dX9_readItem_69 : decode cX9_readItem 69 = .ok (.if_icmp .ge 7, 3) := by decide +kernel
theorem dX9_readItem_72 : decode cX9_readItem 72 = .ok (.iconst 1, 1) := by decide +kernel
theorem dX9_readItem_73 : decode cX9_readItem 73 = .ok (.goto 4, 3) := by decide +kernel
theorem dX9_readItem_76 : decode cX9_readItem 76 = .ok (.iconst 0, 1) := by decide +kernel
theorem dX9_readItem_77 : decode cX9_readItem 77 = .ok (.invokevirtual 224, 3) := by decide +kernel
theorem dX9_readItem_80 : decode cX9_readItem 80 = .ok (.aload_n 0, 1) := by decide +kernel
theorem dX9_readItem_81 : decode cX9_readItem 81 = .ok (.dup, 1) := by decide +kernel
theorem dX9_readItem_82 : decode cX9_readItem 82 = .ok (.getfield 253, 3) := by decide +kernel
theorem dX9_readItem_85 : decode cX9_readItem 85 = .ok (.iconst 1, 1) := by decide +kernel
theorem dX9_readItem_86 : decode cX9_readItem 86 = .ok (.iadd, 1) := by decide +kernel
theorem dX9_readItem_87 : decode cX9_readItem 87 = .ok (.putfield 253, 3) := by decide +kernel
theorem dX9_readItem_90 : decode cX9_readItem 90 = .ok (.aload_n 0, 1) := by decide +kernel
theorem dX9_readItem_91 : decode cX9_readItem 91 = .ok (.bipush 10, 2) := by decide +kernel
theorem dX9_readItem_93 : decode cX9_readItem 93 = .ok (.iconst 0, 1) := by decide +kernel
theorem dX9_readItem_94 : decode cX9_readItem 94 = .ok (.iconst 0, 1) := by decide +kernel
theorem dX9_readItem_95 : decode cX9_readItem 95 = .ok (.aload_n 0, 1) := by decide +kernel
theorem dX9_readItem_96 : decode cX9_readItem 96 = .ok (.bipush 8, 2) := by decide +kernel
theorem dX9_readItem_98 : decode cX9_readItem 98 = .ok (.invokevirtual 244, 3) := by decide +kernel
theorem dX9_readItem_101 : decode cX9_readItem 101 = .ok (.invokevirtual 247, 3) := by decide +kernel
theorem dX9_readItem_104 : decode cX9_readItem 104 = .ok (.goto 82, 3) := by decide +kernel
theorem dX9_readItem_107 : decode cX9_readItem 107 = .ok (.aload_n 0, 1) := by decide +kernel
theorem dX9_readItem_108 : decode cX9_readItem 108 = .ok (.ldc_w 256, 3) := by decide +kernel
theorem dX9_readItem_111 : decode cX9_readItem 111 = .ok (.invokevirtual 231, 3) := by decide +kernel
theorem dX9_readItem_114 : decode cX9_readItem 114 = .ok (.ifCond .eq 10, 3) := by decide +kernel
theorem dX9_readItem_117 : decode cX9_readItem 117 = .ok (.aload_n 0, 1) := by decide +kernel
theorem dX9_readItem_118 : decode cX9_readItem 118 = .ok (.invokevirtual 258, 3) := by decide +kernel
theorem dX9_readItem_121 : decode cX9_readItem 121 = .ok (.goto 65, 3) := by decide +kernel
theorem dX9_readItem_124 : decode cX9_readItem 124 = .ok (.aload_n 0, 1) := by decide +kernel
theorem dX9_readItem_125 : decode cX9_readItem 125 = .ok (.ldc_w 261, 3) := by decide +kernel
theorem dX9_readItem_128 : decode cX9_readItem 128 = .ok (.invokevirtual 231, 3) := by decide +kernel
theorem dX9_readItem_131 : decode cX9_readItem 131 = .ok (.ifCond .eq 25, 3) := by decide +kernel
theorem dX9_readItem_134 : decode cX9_readItem 134 = .ok (.aload_n 0, 1) := by decide +kernel
theorem dX9_readItem_135 : decode cX9_readItem 135 = .ok (.iconst 1, 1) := by decide +kernel
theorem dX9_readItem_136 : decode cX9_readItem 136 = .ok (.invokevirtual 224, 3) := by decide +kernel
theorem dX9_readItem_139 : decode cX9_readItem 139 = .ok (.aload_n 0, 1) := by decide +kernel
theorem dX9_readItem_140 : decode cX9_readItem 140 = .ok (.iconst 0, 1) := by decide +kernel
theorem dX9_readItem_141 : decode cX9_readItem 141 = .ok (.putfield 263, 3) := by decide +kernel
theorem dX9_readItem_144 : decode cX9_readItem 144 = .ok (.aload_n 0, 1) := by decide +kernel
theorem dX9_readItem_145 : decode cX9_readItem 145 = .ok (.bipush 12, 2) := by decide +kernel
theorem dX9_readItem_147 : decode cX9_readItem 147 = .ok (.iconst 0, 1) := by decide +kernel
theorem dX9_readItem_148 : decode cX9_readItem 148 = .ok (.iconst 0, 1) := by decide +kernel
theorem dX9_readItem_149 : decode cX9_readItem 149 = .ok (.lconst 0, 1) := by decide +kernel
theorem dX9_readItem_150 : decode cX9_readItem 150 = .ok (.invokevirtual 247, 3) := by decide +kernel
theorem dX9_readItem_153 : decode cX9_readItem 153 = .ok (.goto 33, 3) := by decide +kernel
theorem dX9_readItem_156 : decode cX9_readItem 156 = .ok (.aload_n 0, 1) := by decide +kernel
theorem dX9_readItem_157 : decode cX9_readItem 157 = .ok (.aload_n 0, 1) := by decide +kernel
theorem dX9_readItem_158 : decode cX9_readItem 158 = .ok (.ldc_w 266, 3) := by decide +kernel
theorem dX9_readItem_161 : decode cX9_readItem 161 = .ok (.invokevirtual 231, 3) := by decide +kernel
theorem dX9_readItem_164 : decode cX9_readItem 164 = .ok (.invokevirtual 224, 3) := by decide +kernel
theorem dX9_readItem_167 : decode cX9_readItem 167 = .ok (.aload_n 0, 1) := by decide +kernel
theorem dX9_readItem_168 : decode cX9_readItem 168 = .ok (.bipush 13, 2) := by decide +kernel
theorem dX9_readItem_170 : decode cX9_readItem 170 = .ok (.aload_n 0, 1) := by decide +kernel
theorem dX9_readItem_171 : decode cX9_readItem 171 = .ok (.iconst 0, 1) := by decide +kernel
theorem dX9_readItem_172 : decode cX9_readItem 172 = .ok (.aload_n 0, 1) := by decide +kernel
theorem dX9_readItem_173 : decode cX9_readItem 173 = .ok (.getfield 241, 3) := by decide +kernel
theorem dX9_readItem_176 : decode cX9_readItem 176 = .ok (.iconst 1, 1) := by decide +kernel
theorem dX9_readItem_177 : decode cX9_readItem 177 = .ok (.isub, 1) := by decide +kernel
theorem dX9_readItem_178 : decode cX9_readItem 178 = .ok (.invokevirtual 235, 3) := by decide +kernel
theorem dX9_readItem_181 : decode cX9_readItem 181 = .ok (.iconst 0, 1) := by decide +kernel
theorem dX9_readItem_182 : decode cX9_readItem 182 = .ok (.lconst 0, 1) := by decide +kernel
theorem dX9_readItem_183 : decode cX9_readItem 183 = .ok (.invokevirtual 247, 3) := by decide +kernel
theorem dX9_readItem_186 : decode cX9_readItem 186 = .ok (.return_, 1) := by decide +kernel
theorem dX9_readHold_0 : decode cX9_readHold 0 = .ok (.aload_n 0, 1) := by decide +kernel
theorem dX9_readHold_1 : decode cX9_readHold 1 = .ok (.aload_n 0, 1) := by decide +kernel
theorem dX9_readHold_2 : decode cX9_readHold 2 = .ok (.getfield 263, 3) := by decide +kernel
theorem dX9_readHold_5 : decode cX9_readHold 5 = .ok (.i2l, 1) := by decide +kernel
theorem dX9_readHold_6 : decode cX9_readHold 6 = .ok (.invokestatic 158, 3) := by decide +kernel
theorem dX9_readHold_9 : decode cX9_readHold 9 = .ok (.iconst 4, 1) := by decide +kernel
theorem dX9_readHold_10 : decode cX9_readHold 10 = .ok (.if_icmp .ge 7, 3) := by decide +kernel
theorem dX9_readHold_13 : decode cX9_readHold 13 = .ok (.iconst 1, 1) := by decide +kernel
theorem dX9_readHold_14 : decode cX9_readHold 14 = .ok (.goto 4, 3) := by decide +kernel
theorem dX9_readHold_17 : decode cX9_readHold 17 = .ok (.iconst 0, 1) := by decide +kernel
theorem dX9_readHold_18 : decode cX9_readHold 18 = .ok (.invokevirtual 224, 3) := by decide +kernel
theorem dX9_readHold_21 : decode cX9_readHold 21 = .ok (.aload_n 0, 1) := by decide +kernel
theorem dX9_readHold_22 : decode cX9_readHold 22 = .ok (.getfield 200, 3) := by decide +kernel
theorem dX9_readHold_25 : decode cX9_readHold 25 = .ok (.istore_n 1, 1) := by decide +kernel
theorem dX9_readHold_26 : decode cX9_readHold 26 = .ok (.aload_n 0, 1) := by decide +kernel
theorem dX9_readHold_27 : decode cX9_readHold 27 = .ok (.aload_n 0, 1) := by decide +kernel
theorem dX9_readHold_28 : decode cX9_readHold 28 = .ok (.getfield 203, 3) := by decide +kernel
theorem dX9_readHold_31 : decode cX9_readHold 31 = .ok (.iconst 2, 1) := by decide +kernel
theorem dX9_readHold_32 : decode cX9_readHold 32 = .ok (.if_icmp .ne 32, 3) := by decide +kernel
theorem dX9_readHold_35 : decode cX9_readHold 35 = .ok (.iload_n 1, 1) := by decide +kernel
theorem dX9_readHold_36 : decode cX9_readHold 36 = .ok (.iconst 0, 1) := by decide +kernel
theorem dX9_readHold_37 : decode cX9_readHold 37 = .ok (.aload_n 0, 1) := by decide +kernel
theorem dX9_readHold_38 : decode cX9_readHold 38 = .ok (.getfield 241, 3) := by decide +kernel
theorem dX9_readHold_41 : decode cX9_readHold 41 = .ok (.iconst 1, 1) := by decide +kernel
theorem dX9_readHold_42 : decode cX9_readHold 42 = .ok (.isub, 1) := by decide +kernel
theorem dX9_readHold_43 : decode cX9_readHold 43 = .ok (.invokestatic 75, 3) := by decide +kernel
theorem dX9_readHold_46 : decode cX9_readHold 46 = .ok (.ifCond .eq 18, 3) := by decide +kernel
theorem dX9_readHold_49 : decode cX9_readHold 49 = .ok (.aload_n 0, 1) := by decide +kernel
theorem dX9_readHold_50 : decode cX9_readHold 50 = .ok (.getfield 263, 3) := by decide +kernel
theorem dX9_readHold_53 : decode cX9_readHold 53 = .ok (.iload_n 1, 1) := by decide +kernel
theorem dX9_readHold_54 : decode cX9_readHold 54 = .ok (.ishr, 1) := by decide +kernel
theorem dX9_readHold_55 : decode cX9_readHold 55 = .ok (.iconst 1, 1) := by decide +kernel
theorem dX9_readHold_56 : decode cX9_readHold 56 = .ok (.iand, 1) := by decide +kernel
theorem dX9_readHold_57 : decode cX9_readHold 57 = .ok (.ifCond .ne 7, 3) := by decide +kernel
theorem dX9_readHold_60 : decode cX9_readHold 60 = .ok (.iconst 1, 1) := by decide +kernel
theorem dX9_readHold_61 : decode cX9_readHold 61 = .ok (.goto 4, 3) := by decide +kernel
theorem dX9_readHold_64 : decode cX9_readHold 64 = .ok (.iconst 0, 1) := by decide +kernel
theorem dX9_readHold_65 : decode cX9_readHold 65 = .ok (.invokevirtual 224, 3) := by decide +kernel
theorem dX9_readHold_68 : decode cX9_readHold 68 = .ok (.aload_n 0, 1) := by decide +kernel
theorem dX9_readHold_69 : decode cX9_readHold 69 = .ok (.dup, 1) := by decide +kernel
theorem dX9_readHold_70 : decode cX9_readHold 70 = .ok (.getfield 263, 3) := by decide +kernel
theorem dX9_readHold_73 : decode cX9_readHold 73 = .ok (.aload_n 0, 1) := by decide +kernel
theorem dX9_readHold_74 : decode cX9_readHold 74 = .ok (.getfield 217, 3) := by decide +kernel
theorem dX9_readHold_77 : decode cX9_readHold 77 = .ok (.ifCond .eq 7, 3) := by decide +kernel
theorem dX9_readHold_80 : decode cX9_readHold 80 = .ok (.iconst 0, 1) := by decide +kernel
theorem dX9_readHold_81 : decode cX9_readHold 81 = .ok (.goto 6, 3) := by decide +kernel
theorem dX9_readHold_84 : decode cX9_readHold 84 = .ok (.iconst 1, 1) := by decide +kernel
theorem dX9_readHold_85 : decode cX9_readHold 85 = .ok (.iload_n 1, 1) := by decide +kernel
theorem dX9_readHold_86 : decode cX9_readHold 86 = .ok (.ishl, 1) := by decide +kernel
theorem dX9_readHold_87 : decode cX9_readHold 87 = .ok (.ior, 1) := by decide +kernel
theorem dX9_readHold_88 : decode cX9_readHold 88 = .ok (.putfield 263, 3) := by decide +kernel
theorem dX9_readHold_91 : decode cX9_readHold 91 = .ok (.aload_n 0, 1) := by decide +kernel
theorem dX9_readHold_92 : decode cX9_readHold 92 = .ok (.ldc_w 268, 3) := by decide +kernel
theorem dX9_readHold_95 : decode cX9_readHold 95 = .ok (.iconst 1, 1) := by decide +kernel
theorem dX9_readHold_96 : decode cX9_readHold 96 = .ok (.iconst 2, 1) := by decide +kernel
theorem dX9_readHold_97 : decode cX9_readHold 97 = .ok (.invokevirtual 270, 3) := by decide +kernel
theorem dX9_readHold_100 : decode cX9_readHold 100 = .ok (.istore_n 2, 1) := by decide +kernel
theorem dX9_readHold_101 : decode cX9_readHold 101 = .ok (.aload_n 0, 1) := by decide +kernel
theorem dX9_readHold_102 : decode cX9_readHold 102 = .ok (.ldc_w 274, 3) := by decide +kernel
theorem dX9_readHold_105 : decode cX9_readHold 105 = .ok (.iconst 0, 1) := by decide +kernel
theorem dX9_readHold_106 : decode cX9_readHold 106 = .ok (.iconst 3, 1) := by decide +kernel
theorem dX9_readHold_107 : decode cX9_readHold 107 = .ok (.invokevirtual 270, 3) := by decide +kernel
theorem dX9_readHold_110 : decode cX9_readHold 110 = .ok (.istore_n 3, 1) := by decide +kernel
theorem dX9_readHold_111 : decode cX9_readHold 111 = .ok (.aload_n 0, 1) := by decide +kernel
theorem dX9_readHold_112 : decode cX9_readHold 112 = .ok (.ldc_w 276, 3) := by decide +kernel
theorem dX9_readHold_115 : decode cX9_readHold 115 = .ok (.iconst 0, 1) := by decide +kernel
theorem dX9_readHold_116 : decode cX9_readHold 116 = .ok (.bipush 7, 2) := by decide +kernel
theorem dX9_readHold_118 : decode cX9_readHold 118 = .ok (.invokevirtual 270, 3) := by decide +kernel
theorem dX9_readHold_121 : decode cX9_readHold 121 = .ok (.istore 4, 2) := by decide +kernel
theorem dX9_readHold_123 : decode cX9_readHold 123 = .ok (.aload_n 0, 1) := by decide +kernel
theorem dX9_readHold_124 : decode cX9_readHold 124 = .ok (.bipush 11, 2) := by decide +kernel
theorem dX9_readHold_126 : decode cX9_readHold 126 = .ok (.iload_n 1, 1) := by decide +kernel
theorem dX9_readHold_127 : decode cX9_readHold 127 = .ok (.sipush 1000, 3) := by decide +kernel
theorem dX9_readHold_130 : decode cX9_readHold 130 = .ok (.iconst 4, 1) := by decide +kernel
theorem dX9_readHold_131 : decode cX9_readHold 131 = .ok (.iload_n 2, 1) := by decide +kernel
theorem dX9_readHold_132 : decode cX9_readHold 132 = .ok (.imul, 1) := by decide +kernel
theorem dX9_readHold_133 : decode cX9_readHold 133 = .ok (.iload_n 3, 1) := by decide +kernel
theorem dX9_readHold_134 : decode cX9_readHold 134 = .ok (.iadd, 1) := by decide +kernel
theorem dX9_readHold_135 : decode cX9_readHold 135 = .ok (.imul, 1) := by decide +kernel
theorem dX9_readHold_136 : decode cX9_readHold 136 = .ok (.bipush 10, 2) := by decide +kernel
theorem dX9_readHold_138 : decode cX9_readHold 138 = .ok (.iload 4, 2) := by decide +kernel
theorem dX9_readHold_140 : decode cX9_readHold 140 = .ok (.imul, 1) := by decide +kernel
theorem dX9_readHold_141 : decode cX9_readHold 141 = .ok (.iadd, 1) := by decide +kernel
theorem dX9_readHold_142 : decode cX9_readHold 142 = .ok (.aload_n 0, 1) := by decide +kernel
theorem dX9_readHold_143 : decode cX9_readHold 143 = .ok (.iconst 0, 1) := by decide +kernel
theorem dX9_readHold_144 : decode cX9_readHold 144 = .ok (.bipush 7, 2) := by decide +kernel
theorem dX9_readHold_146 : decode cX9_readHold 146 = .ok (.invokevirtual 235, 3) := by decide +kernel
theorem dX9_readHold_149 : decode cX9_readHold 149 = .ok (.iadd, 1) := by decide +kernel
theorem dX9_readHold_150 : decode cX9_readHold 150 = .ok (.lconst 0, 1) := by decide +kernel
theorem dX9_readHold_151 : decode cX9_readHold 151 = .ok (.invokevirtual 247, 3) := by decide +kernel
theorem dX9_readHold_154 : decode cX9_readHold 154 = .ok (.return_, 1) := by decide +kernel
def w_m_item : List Cond := .code yX9_item cX9_item 7 none :: (([.fieldLink RX9 228 "LampShapesModel" "itemMany" "I", .fieldLink RX9 53 "LampShapesModel" "items" "[I", .fieldLink RX9 56 "LampShapesModel" "itemPictures" "[J"] : List Cond) ++ wsX90)
set_option maxHeartbeats 4000000 in
set_option maxRecDepth 100000 in
theorem m_item (l : Launch) (dC : Nat → ClassId) (dI : Nat → Nat → Nat) (ad : Nat → Nat) (h0 : Nat) (wt : Int32) (a : Int32) (b : Int32) (pic : Int64) (v0 : Value) (v1 : Value) (v2 : Value) (v3 : Value) (v4 : Value) (v5 : Value) (v6 : Value) (v7 : Value) (v8 : Value) (v9 : Value) (v10 : Value) (v11 : Value) (v12 : Value) (v13 : Value) (v14 : Value) (v15 : Value) (v16 : Value) (v17 : Value) (y0 : Nat) (z0 : Nat) (im : Int32) (v21 : Value) (v22 : Value) (v23 : Value) (v24 : Value) (v25 : Value) (v26 : Value) (v27 : Value) (yc : ClassId) (yf : Nat → Int32) (zc : ClassId) (gf : Nat → Int64) (sz : Nat) (him : 0 ≤ im.toInt ∧ im.toInt ≤ 119) : Met l yX9_item w_m_item ({ frames := 0, cells := 0, slots := 0, locals := 0 } : Room) (va_Pc [.ref h0, .int wt, .int a, .int b, .long pic] (preM dC dI ad [(yc, .int), (zc, .long)] [(h0, .inr (7, [v0, v1, v2, v3, v4, v5, v6, v7, v8, v9, v10, v11, v12, v13, v14, v15, v16, v17, .ref y0, .ref z0, .int im, v21, v22, v23, v24, v25, v26, v27])), (y0, .inl (yc, 360, .inl yf)), (z0, .inl (zc, 120, .inr (.inl gf)))] sz)) (va_Qv (fun (_ : Unit) => True) (fun _ t => ∃ (im2 : Int32), ∃ (yg : Nat → Int32), ∃ (gg : Nat → Int64), (im2.toInt = im.toInt + 1) ∧ (itP yf yg im.toInt.toNat wt a) ∧ va_P (dC, dI) vwCl [(h0, .inr (7, [v0, v1, v2, v3, v4, v5, v6, v7, v8, v9, v10, v11, v12, v13, v14, v15, v16, v17, .ref y0, .ref z0, .int im2, v21, v22, v23, v24, v25, v26, v27])), (y0, .inl (yc, 360, .inl yg)), (z0, .inl (zc, 120, .inr (.inl gg)))] t.heap ∧ va_K (dC, dI) vwCl [(yc, .int), (zc, .long)] t ∧ va_D (va_A [(h0, .inr (7, [v0, v1, v2, v3, v4, v5, v6, v7, v8, v9, v10, v11, v12, v13, v14, v15, v16, v17, .ref y0, .ref z0, .int im, v21, v22, v23, v24, v25, v26, v27])), (y0, .inl (yc, 360, .inl yf)), (z0, .inl (zc, 120, .inr (.inl gf)))] sz) [(h0, .inr (7, [v0, v1, v2, v3, v4, v5, v6, v7, v8, v9, v10, v11, v12, v13, v14, v15, v16, v17, .ref y0, .ref z0, .int im2, v21, v22, v23, v24, v25, v26, v27])), (y0, .inl (yc, 360, .inl yg)), (z0, .inl (zc, 120, .inr (.inl gg)))]) (va_A [(h0, .inr (7, [v0, v1, v2, v3, v4, v5, v6, v7, v8, v9, v10, v11, v12, v13, v14, v15, v16, v17, .ref y0, .ref z0, .int im, v21, v22, v23, v24, v25, v26, v27])), (y0, .inl (yc, 360, .inl yf)), (z0, .inl (zc, 120, .inr (.inl gf)))] sz)) 0 0 (va_A [(h0, .inr (7, [v0, v1, v2, v3, v4, v5, v6, v7, v8, v9, v10, v11, v12, v13, v14, v15, v16, v17, .ref y0, .ref z0, .int im, v21, v22, v23, v24, v25, v26, v27])), (y0, .inl (yc, 360, .inl yf)), (z0, .inl (zc, 120, .inr (.inl gf)))] sz) := by
  refine Met.ofW (cc := cX9_item) (maxL := 7) (ret := none) (by decide) rfl ?_
  intro p e s m args below meth c s₁ B hml hv
  obtain ⟨rfl, hsz, hP, hK, hD0, hev⟩ := hv
  have hx := B.exec
  have hb := B.bytes
  have hr := B.returns
  have hts := atoms_spec (ws := w_m_item) B.pre
  have hown : s.vm.findClass RX9 = some m.cls := findClass_of_methodNamed B.named
  have hlocks := B.notSynchronized
  have inX9 : ∀ w ∈ wsX90, w ∈ w_m_item := fun w h => List.mem_cons_of_mem _ (List.mem_append_right _ h)
  subst hsz
  have hD := hD0.self (sz := s.heap.size)
  generalize hAe : va_A [(h0, .inr (7, [v0, v1, v2, v3, v4, v5, v6, v7, v8, v9, v10, v11, v12, v13, v14, v15, v16, v17, .ref y0, .ref z0, .int im, v21, v22, v23, v24, v25, v26, v27])), (y0, .inl (yc, 360, .inl yf)), (z0, .inl (zc, 120, .inr (.inl gf)))] s.heap.size = A at hD ⊢
  have hA : ∀ q : Nat, s.heap.size ≤ q → A q := fun q h => by rw [← hAe]; exact Or.inr h
  have hS : va_S A s.heap s.heap [] := va_S.rf
  have hP : va_P (dC, dI) vwCl [(h0, .inr (7, [v0, v1, v2, v3, v4, v5, v6, v7, v8, v9, v10, v11, v12, v13, v14, v15, v16, v17, .ref y0, .ref z0, .int im, v21, v22, v23, v24, v25, v26, v27])), (y0, .inl (yc, 360, .inl yf)), (z0, .inl (zc, 120, .inr (.inl gf)))] s.heap := hP
  have hl := lv_entry ([.ref h0, .int wt, .int a, .int b, .long pic]) (n := 7) (Nat.le_of_ble_eq_true rfl)
  rw [lg_entry_eq]
  generalize (lg_sl ([.ref h0, .int wt, .int a, .int b, .long pic]) ++ List.replicate (7 - (lg_sl ([.ref h0, .int wt, .int a, .int b, .long pic])).length) Slot.unset).toArray = ls at hl ⊢
  have hl : lv_has ls 7 [(0, .ref h0), (1, .int wt), (2, .int a), (3, .int b), (4, .long pic)] := hl
  refine lv_iconst (v := 3) hx hb dX9_item_0 (by decide) ?_
  refine lv_aload_n hx hb dX9_item_1 rfl (lv_at hl 0 rfl) ?_
  refine va_get (D := (dC, dI)) (ci := 7) (v := .int im) (C := RX9) (T := TX9) (N := 28) hx hb hts inX9 hown hK hP 0 rfl rfl 20 (by decide) (hts _ (List.mem_of_getElem? (i := 1) rfl)) (fun _ h9 => h9) rfl dX9_item_2 ?_
  refine lv_imul hx hb dX9_item_5 ?_
  refine lv_topi (fun n_1 en_1 => ?_)
  have tn_1 : n_1.toInt = 3 * im.toInt := pp_mul en_1 rfl rfl (by omega) (by omega)
  clear en_1
  refine lv_istore (lv' := [(6, .int n_1), (0, .ref h0), (1, .int wt), (2, .int a), (3, .int b), (4, .long pic)]) hx hb dX9_item_6 hl (by decide) rfl (fun ls hl => ?_)
  refine lv_aload_n hx hb dX9_item_8 rfl (lv_at hl 1 rfl) ?_
  refine va_get (D := (dC, dI)) (ci := 7) (v := .ref y0) (C := RX9) (T := TX9) (N := 28) hx hb hts inX9 hown hK hP 0 rfl rfl 18 (by decide) (hts _ (List.mem_of_getElem? (i := 2) rfl)) (fun _ h9 => h9) rfl dX9_item_9 ?_
  refine lv_iload hx hb dX9_item_12 (lv_at hl 0 rfl) ?_
  refine lv_iload_n hx hb dX9_item_14 rfl (lv_at hl 2 rfl) ?_
  refine va_iast hx hb hK hP hD hS 1 0 rfl rfl (vp_in_iff.mpr ⟨by omega, by omega⟩) dX9_item_15 (fun H locs hP hD hS => ?_)
  have hP : va_P (dC, dI) vwCl [(h0, .inr (7, [v0, v1, v2, v3, v4, v5, v6, v7, v8, v9, v10, v11, v12, v13, v14, v15, v16, v17, .ref y0, .ref z0, .int im, v21, v22, v23, v24, v25, v26, v27])), (y0, .inl (yc, 360, .inl (upd yf n_1.toNatClampNeg wt))), (z0, .inl (zc, 120, .inr (.inl gf)))] H := hP
  have hD : va_D A [(h0, .inr (7, [v0, v1, v2, v3, v4, v5, v6, v7, v8, v9, v10, v11, v12, v13, v14, v15, v16, v17, .ref y0, .ref z0, .int im, v21, v22, v23, v24, v25, v26, v27])), (y0, .inl (yc, 360, .inl (upd yf n_1.toNatClampNeg wt))), (z0, .inl (zc, 120, .inr (.inl gf)))] := hD
  refine lv_aload_n hx hb dX9_item_16 rfl (lv_at hl 1 rfl) ?_
  refine va_get (D := (dC, dI)) (ci := 7) (v := .ref y0) (C := RX9) (T := TX9) (N := 28) hx hb hts inX9 hown hK hP 0 rfl rfl 18 (by decide) (hts _ (List.mem_of_getElem? (i := 2) rfl)) (fun _ h9 => h9) rfl dX9_item_17 ?_
  refine lv_iload hx hb dX9_item_20 (lv_at hl 0 rfl) ?_
  refine lv_iconst (v := 1) hx hb dX9_item_22 (by decide) ?_
  refine lv_iadd hx hb dX9_item_23 ?_
  refine lv_topi (fun n_2 en_2 => ?_)
  have tn_2 : n_2.toInt = n_1.toInt + 1 := pp_add en_2 rfl rfl (by omega) (by omega)
  clear en_2
  refine lv_iload_n hx hb dX9_item_24 rfl (lv_at hl 3 rfl) ?_
  refine va_iast hx hb hK hP hD hS 1 0 rfl rfl (vp_in_iff.mpr ⟨by omega, by omega⟩) dX9_item_25 (fun H locs hP hD hS => ?_)
  have hP : va_P (dC, dI) vwCl [(h0, .inr (7, [v0, v1, v2, v3, v4, v5, v6, v7, v8, v9, v10, v11, v12, v13, v14, v15, v16, v17, .ref y0, .ref z0, .int im, v21, v22, v23, v24, v25, v26, v27])), (y0, .inl (yc, 360, .inl (upd (upd yf n_1.toNatClampNeg wt) n_2.toNatClampNeg a))), (z0, .inl (zc, 120, .inr (.inl gf)))] H := hP
  have hD : va_D A [(h0, .inr (7, [v0, v1, v2, v3, v4, v5, v6, v7, v8, v9, v10, v11, v12, v13, v14, v15, v16, v17, .ref y0, .ref z0, .int im, v21, v22, v23, v24, v25, v26, v27])), (y0, .inl (yc, 360, .inl (upd (upd yf n_1.toNatClampNeg wt) n_2.toNatClampNeg a))), (z0, .inl (zc, 120, .inr (.inl gf)))] := hD
  refine lv_aload_n hx hb dX9_item_26 rfl (lv_at hl 1 rfl) ?_
  refine va_get (D := (dC, dI)) (ci := 7) (v := .ref y0) (C := RX9) (T := TX9) (N := 28) hx hb hts inX9 hown hK hP 0 rfl rfl 18 (by decide) (hts _ (List.mem_of_getElem? (i := 2) rfl)) (fun _ h9 => h9) rfl dX9_item_27 ?_
  refine lv_iload hx hb dX9_item_30 (lv_at hl 0 rfl) ?_
  refine lv_iconst (v := 2) hx hb dX9_item_32 (by decide) ?_
  refine lv_iadd hx hb dX9_item_33 ?_
  refine lv_topi (fun n_3 en_3 => ?_)
  have tn_3 : n_3.toInt = n_1.toInt + 2 := pp_add en_3 rfl rfl (by omega) (by omega)
  clear en_3
  refine lv_iload_n hx hb dX9_item_34 rfl (lv_at hl 4 rfl) ?_
  refine va_iast hx hb hK hP hD hS 1 0 rfl rfl (vp_in_iff.mpr ⟨by omega, by omega⟩) dX9_item_35 (fun H locs hP hD hS => ?_)
  have hP : va_P (dC, dI) vwCl [(h0, .inr (7, [v0, v1, v2, v3, v4, v5, v6, v7, v8, v9, v10, v11, v12, v13, v14, v15, v16, v17, .ref y0, .ref z0, .int im, v21, v22, v23, v24, v25, v26, v27])), (y0, .inl (yc, 360, .inl (upd (upd (upd yf n_1.toNatClampNeg wt) n_2.toNatClampNeg a) n_3.toNatClampNeg b))), (z0, .inl (zc, 120, .inr (.inl gf)))] H := hP
  have hD : va_D A [(h0, .inr (7, [v0, v1, v2, v3, v4, v5, v6, v7, v8, v9, v10, v11, v12, v13, v14, v15, v16, v17, .ref y0, .ref z0, .int im, v21, v22, v23, v24, v25, v26, v27])), (y0, .inl (yc, 360, .inl (upd (upd (upd yf n_1.toNatClampNeg wt) n_2.toNatClampNeg a) n_3.toNatClampNeg b))), (z0, .inl (zc, 120, .inr (.inl gf)))] := hD
  refine lv_aload_n hx hb dX9_item_36 rfl (lv_at hl 1 rfl) ?_
  refine va_get (D := (dC, dI)) (ci := 7) (v := .ref z0) (C := RX9) (T := TX9) (N := 28) hx hb hts inX9 hown hK hP 0 rfl rfl 19 (by decide) (hts _ (List.mem_of_getElem? (i := 3) rfl)) (fun _ h9 => h9) rfl dX9_item_37 ?_
  refine lv_aload_n hx hb dX9_item_40 rfl (lv_at hl 1 rfl) ?_
  refine va_get (D := (dC, dI)) (ci := 7) (v := .int im) (C := RX9) (T := TX9) (N := 28) hx hb hts inX9 hown hK hP 0 rfl rfl 20 (by decide) (hts _ (List.mem_of_getElem? (i := 1) rfl)) (fun _ h9 => h9) rfl dX9_item_41 ?_
  refine lv_lload hx hb dX9_item_44 (lv_at hl 5 rfl) ?_
  refine va_last hx hb hK hP hD hS 2 1 rfl rfl (vp_in_iff.mpr ⟨by omega, by omega⟩) dX9_item_46 (fun H locs hP hD hS => ?_)
  have hP : va_P (dC, dI) vwCl [(h0, .inr (7, [v0, v1, v2, v3, v4, v5, v6, v7, v8, v9, v10, v11, v12, v13, v14, v15, v16, v17, .ref y0, .ref z0, .int im, v21, v22, v23, v24, v25, v26, v27])), (y0, .inl (yc, 360, .inl (upd (upd (upd yf n_1.toNatClampNeg wt) n_2.toNatClampNeg a) n_3.toNatClampNeg b))), (z0, .inl (zc, 120, .inr (.inl (vp_updL gf im.toNatClampNeg pic))))] H := hP
  have hD : va_D A [(h0, .inr (7, [v0, v1, v2, v3, v4, v5, v6, v7, v8, v9, v10, v11, v12, v13, v14, v15, v16, v17, .ref y0, .ref z0, .int im, v21, v22, v23, v24, v25, v26, v27])), (y0, .inl (yc, 360, .inl (upd (upd (upd yf n_1.toNatClampNeg wt) n_2.toNatClampNeg a) n_3.toNatClampNeg b))), (z0, .inl (zc, 120, .inr (.inl (vp_updL gf im.toNatClampNeg pic))))] := hD
  refine lv_aload_n hx hb dX9_item_47 rfl (lv_at hl 1 rfl) ?_
  refine lv_dup hx hb dX9_item_48 rfl ?_
  refine va_get (D := (dC, dI)) (ci := 7) (v := .int im) (C := RX9) (T := TX9) (N := 28) hx hb hts inX9 hown hK hP 0 rfl rfl 20 (by decide) (hts _ (List.mem_of_getElem? (i := 1) rfl)) (fun _ h9 => h9) rfl dX9_item_49 ?_
  refine lv_iconst (v := 1) hx hb dX9_item_52 (by decide) ?_
  refine lv_iadd hx hb dX9_item_53 ?_
  refine lv_topi (fun n_4 en_4 => ?_)
  have tn_4 : n_4.toInt = im.toInt + 1 := pp_add en_4 rfl rfl (by omega) (by omega)
  clear en_4
  refine va_put (D := (dC, dI)) (ci := 7) (v := .int n_4) (ty := .int) (C := RX9) (T := TX9) (N := 28) hx hb hts inX9 tyX9 tyX9_ok nmX9 hown hK hP hD hS 0 rfl rfl 20 (by decide) (hts _ (List.mem_of_getElem? (i := 1) rfl)) (fun _ h9 => h9) rfl (by decide +kernel) rfl rfl (Nat.le_of_ble_eq_true rfl) dX9_item_54 (fun H locs hP hD hS => ?_)
  have hP : va_P (dC, dI) vwCl [(h0, .inr (7, [v0, v1, v2, v3, v4, v5, v6, v7, v8, v9, v10, v11, v12, v13, v14, v15, v16, v17, .ref y0, .ref z0, .int n_4, v21, v22, v23, v24, v25, v26, v27])), (y0, .inl (yc, 360, .inl (upd (upd (upd yf n_1.toNatClampNeg wt) n_2.toNatClampNeg a) n_3.toNatClampNeg b))), (z0, .inl (zc, 120, .inr (.inl (vp_updL gf im.toNatClampNeg pic))))] H := hP
  have hD : va_D A [(h0, .inr (7, [v0, v1, v2, v3, v4, v5, v6, v7, v8, v9, v10, v11, v12, v13, v14, v15, v16, v17, .ref y0, .ref z0, .int n_4, v21, v22, v23, v24, v25, v26, v27])), (y0, .inl (yc, 360, .inl (upd (upd (upd yf n_1.toNatClampNeg wt) n_2.toNatClampNeg a) n_3.toNatClampNeg b))), (z0, .inl (zc, 120, .inr (.inl (vp_updL gf im.toNatClampNeg pic))))] := hD
  have hP9 := hP.sub (ws' := [(h0, .inr (7, [v0, v1, v2, v3, v4, v5, v6, v7, v8, v9, v10, v11, v12, v13, v14, v15, v16, v17, .ref y0, .ref z0, .int n_4, v21, v22, v23, v24, v25, v26, v27])), (y0, .inl (yc, 360, .inl (upd (upd (upd yf n_1.toNatClampNeg wt) n_2.toNatClampNeg a) n_3.toNatClampNeg b))), (z0, .inl (zc, 120, .inr (.inl (vp_updL gf im.toNatClampNeg pic))))]) [0, 1, 2] rfl
  have hD9 := hD.sub (ws' := [(h0, .inr (7, [v0, v1, v2, v3, v4, v5, v6, v7, v8, v9, v10, v11, v12, v13, v14, v15, v16, v17, .ref y0, .ref z0, .int n_4, v21, v22, v23, v24, v25, v26, v27])), (y0, .inl (yc, 360, .inl (upd (upd (upd yf n_1.toNatClampNeg wt) n_2.toNatClampNeg a) n_3.toNatClampNeg b))), (z0, .inl (zc, 120, .inr (.inl (vp_updL gf im.toNatClampNeg pic))))]) [0, 1, 2] (by decide) rfl
  have hK9 := hK.sub (tys' := [(yc, .int), (zc, .long)]) [0, 1] rfl
  exact W.vret hx hb hr (fun t ht hW => ⟨⟨(), rfl, trivial, n_4, upd (upd (upd yf n_1.toNatClampNeg wt) n_2.toNatClampNeg a) n_3.toNatClampNeg b, vp_updL gf im.toNatClampNeg pic, (by first | omega | decide | (simp only [fa_lt, fa_le, fa_eq, and_true, true_and, and_false, false_and, not_true_eq_false, not_false_eq_true, li_0, li_1, li_2, li_3, li_4, li_5, li_6, li_7, li_8, li_9, li_10, li_12, li_15, li_16, li_20, li_30, li_34, li_38, li_40, li_63, li_64, li_65, li_78, li_120, li_1000, li_4000, li_10000, li_11077, li_255, li_65535, li_m1, li_m2, li_m1000000001, li_m1000000002, li_m1000000003, li_m1000000004, li_m1000000005, li_m1000000006, li_m1000000007, or_true, true_or, or_false, false_or, implies_true, true_implies, false_implies] <;> omega)), (itP_mk (by omega) (by omega) (by omega) (by omega)), by rw [ht]; exact hP9, va_K.moved hW.alike hK9, hD9⟩, hS.F ht⟩) hS.2.2 dX9_item_57

def w_m_readHold : List Cond := .code yX9_readHold cX9_readHold 5 none :: (([.fieldLink RX9 263 "LampShapesModel" "heldThen" "I", .methodLink RX9 158 yX9_bits, .static yX9_bits, .initialized RX9, .code yX9_bits cX9_bits 5 (some .int), .methodLink RX9 224 yX9_must, .instanceMethod yX9_must, .selects RX9 yX9_must yX9_must, .code yX9_must cX9_must 2 none, .fieldLink RX9 217 "LampShapesModel" "isWrong" "Z", .fieldLink RX9 200 "LampShapesModel" "value" "I", .fieldLink RX9 203 "LampShapesModel" "sort" "I", .methodLink RX9 270 yX9_after, .instanceMethod yX9_after, .selects RX9 yX9_after yX9_after, .code yX9_after cX9_after 4 (some .int), .methodLink RX9 231 yX9_isWord, .instanceMethod yX9_isWord, .selects RX9 yX9_isWord yX9_isWord, .code yX9_isWord cX9_isWord 4 (some .boolean), .methodLink RX9 209 yJ0_length_8abf5, .instanceMethod yJ0_length_8abf5, .selects RJ0 yJ0_length_8abf5 yJ0_length_8abf5, .initialized RJ0, .code yJ0_length_8abf5 cJ0_length_8abf5 1 (some .int), .fieldLink RJ0 9 "java/lang/String" "value" "[B", .methodLink RJ0 335 yJ0_coder_7d493, .instanceMethod yJ0_coder_7d493, .selects RJ0 yJ0_coder_7d493 yJ0_coder_7d493, .code yJ0_coder_7d493 cJ0_coder_7d493 1 (some .byte), .fieldLink RJ0 38 "java/lang/String" "COMPACT_STRINGS" "Z", .fieldLink RJ0 15 "java/lang/String" "coder" "B", .fieldLink RX9 32 "LampShapesModel" "tape" "[I", .fieldLink RX9 194 "LampShapesModel" "begins" "I", .methodLink RX9 213 yJ0_charAt_5068e, .instanceMethod yJ0_charAt_5068e, .selects RJ0 yJ0_charAt_5068e yJ0_charAt_5068e, .code yJ0_charAt_5068e cJ0_charAt_5068e 2 (some .char), .methodLink RJ0 492 yJ0_isLatin1_aae02, .instanceMethod yJ0_isLatin1_aae02, .selects RJ0 yJ0_isLatin1_aae02 yJ0_isLatin1_aae02, .code yJ0_isLatin1_aae02 cJ0_isLatin1_aae02 1 (some .boolean), .methodLink RJ0 495 yJ1_charAt_3b067, .static yJ1_charAt_3b067, .initialized RJ1, .code yJ1_charAt_3b067 cJ1_charAt_3b067 2 (some .char), .methodLink RJ1 9 yJ0_checkIndex_df160, .static yJ0_checkIndex_df160, .code yJ0_checkIndex_df160 cJ0_checkIndex_df160 2 none, .fieldLink RJ0 1053 "jdk/internal/util/Preconditions" "SIOOBE_FORMATTER" "Ljava/util/function/BiFunction;", .methodLink RJ0 1059 yJ3_checkIndex_8e157, .static yJ3_checkIndex_8e157, .initialized RJ3, .code yJ3_checkIndex_8e157 cJ3_checkIndex_8e157 3 (some .int), .methodLink RJ0 498 yJ2_charAt_3b067, .static yJ2_charAt_3b067, .initialized RJ2, .code yJ2_charAt_3b067 cJ2_charAt_3b067 2 (some .char), .methodLink RJ2 67 yJ2_checkIndex_2214a, .static yJ2_checkIndex_2214a, .code yJ2_checkIndex_2214a cJ2_checkIndex_2214a 2 none, .methodLink RJ2 48 yJ2_length_9d52b, .static yJ2_length_9d52b, .code yJ2_length_9d52b cJ2_length_9d52b 1 (some .int), .methodLink RJ2 414 yJ0_checkIndex_df160, .methodLink RJ2 71 yJ2_getChar_3b067, .static yJ2_getChar_3b067, .code yJ2_getChar_3b067 cJ2_getChar_3b067 2 (some .char), .fieldLink RJ2 44 "java/lang/StringUTF16" "$assertionsDisabled" "Z", .fieldLink RJ2 59 "java/lang/StringUTF16" "HI_BYTE_SHIFT" "I", .fieldLink RJ2 63 "java/lang/StringUTF16" "LO_BYTE_SHIFT" "I", .fieldLink RX9 191 "LampShapesModel" "ends" "I", .methodLink RX9 221 yX9_next, .instanceMethod yX9_next, .selects RX9 yX9_next yX9_next, .code yX9_next cX9_next 2 none, .methodLink RX9 197 yX9_byteAt, .instanceMethod yX9_byteAt, .selects RX9 yX9_byteAt yX9_byteAt, .code yX9_byteAt cX9_byteAt 2 (some .int), .fieldLink RX9 188 "LampShapesModel" "taped" "I", .methodLink RX9 75 yX9_within, .static yX9_within, .code yX9_within cX9_within 3 (some .boolean), .methodLink RX9 206 yX9_isRowSign, .static yX9_isRowSign, .code yX9_isRowSign cX9_isRowSign 1 (some .boolean), .methodLink RX9 171 Lib.Math.min.name, .static Lib.Math.min.name, .initialized "java/lang/Math", .code Lib.Math.min.name Lib.Math.min.code 2 (some .int), .methodLink RX9 235 yX9_number, .instanceMethod yX9_number, .selects RX9 yX9_number yX9_number, .code yX9_number cX9_number 4 (some .int), .methodLink RX9 247 yX9_item, .instanceMethod yX9_item, .selects RX9 yX9_item yX9_item, .code yX9_item cX9_item 7 none, .fieldLink RX9 228 "LampShapesModel" "itemMany" "I", .fieldLink RX9 53 "LampShapesModel" "items" "[I", .fieldLink RX9 56 "LampShapesModel" "itemPictures" "[J", .fieldLink RX9 241 "LampShapesModel" "shapeThen" "I"] : List Cond) ++ wsX90)
set_option maxRecDepth 20000 in
theorem g_m_readHold_m_bits2_158 : GoodIn w_m_readHold (va_wsS RX9 158 yX9_bits w_m_bits2) := goodIn_r _ [2, 3, 4, 5] rfl (by decide +kernel)
set_option maxRecDepth 20000 in
theorem g_m_readHold_m_must0_224 : GoodIn w_m_readHold (wsV RX9 224 RX9 yX9_must w_m_must0) := goodIn_r _ [6, 7, 8, 4, 9, 10, 104, 105, 106, 107, 108, 109, 110, 111, 112, 113, 114, 115, 116, 117, 118, 119, 120, 121, 122, 123, 124, 125, 126, 127, 128, 129, 130, 131] rfl (by decide +kernel)
set_option maxRecDepth 20000 in
theorem g_m_readHold_m_mustw_224 : GoodIn w_m_readHold (wsV RX9 224 RX9 yX9_must w_m_mustw) := goodIn_r _ [6, 7, 8, 4, 9, 10, 104, 105, 106, 107, 108, 109, 110, 111, 112, 113, 114, 115, 116, 117, 118, 119, 120, 121, 122, 123, 124, 125, 126, 127, 128, 129, 130, 131] rfl (by decide +kernel)
set_option maxRecDepth 20000 in
theorem g_m_readHold_m_after_270 : GoodIn w_m_readHold (wsV RX9 270 RX9 yX9_after w_m_after) := goodIn_r _ [13, 14, 15, 4, 16, 17, 18, 19, 4, 20, 12, 21, 22, 23, 24, 25, 26, 27, 28, 29, 30, 31, 32, 33, 34, 35, 36, 37, 38, 39, 40, 41, 42, 43, 44, 45, 46, 47, 48, 49, 50, 51, 52, 53, 54, 55, 56, 57, 58, 59, 60, 61, 62, 63, 64, 65, 66, 67, 68, 69, 70, 71, 72, 6, 7, 8, 9, 10, 73, 74, 75, 76, 77, 78, 79, 80, 81, 11, 82, 83, 84, 85, 86, 87, 88, 89, 90, 91, 92, 93, 94, 95, 104, 105, 106, 107, 108, 109, 110, 111, 112, 113, 114, 115, 116, 117, 118, 119, 120, 121, 122, 123, 124, 125, 126, 127, 128, 129, 130, 131] rfl (by decide +kernel)
set_option maxRecDepth 20000 in
theorem g_m_readHold_m_number_235 : GoodIn w_m_readHold (wsV RX9 235 RX9 yX9_number w_m_number) := goodIn_r _ [92, 93, 94, 4, 95, 11, 12, 6, 7, 8, 4, 9, 10, 82, 83, 84, 73, 74, 75, 76, 72, 34, 77, 78, 79, 80, 81, 33, 85, 86, 87, 88, 89, 90, 91, 104, 105, 106, 107, 108, 109, 110, 111, 112, 113, 114, 115, 116, 117, 118, 119, 120, 121, 122, 123, 124, 125, 126, 127, 128, 129, 130, 131] rfl (by decide +kernel)
set_option maxRecDepth 20000 in
theorem g_m_readHold_m_item_247 : GoodIn w_m_readHold (wsV RX9 247 RX9 yX9_item w_m_item) := goodIn_r _ [96, 97, 98, 4, 99, 100, 101, 102, 104, 105, 106, 107, 108, 109, 110, 111, 112, 113, 114, 115, 116, 117, 118, 119, 120, 121, 122, 123, 124, 125, 126, 127, 128, 129, 130, 131] rfl (by decide +kernel)
set_option maxRecDepth 20000 in
theorem g_m_readHold_m_within_75 : GoodIn w_m_readHold (va_wsS RX9 75 yX9_within w_m_within) := goodIn_r _ [82, 83, 4, 84] rfl (by decide +kernel)
set_option maxRecDepth 20000 in
theorem g_m_readHold_m_must1_224 : GoodIn w_m_readHold (wsV RX9 224 RX9 yX9_must w_m_must1) := goodIn_r _ [6, 7, 8, 4, 9, 10, 73, 74, 75, 4, 76, 72, 34, 77, 78, 79, 80, 81, 33, 11, 82, 83, 84, 85, 86, 87, 12, 88, 89, 90, 91, 104, 105, 106, 107, 108, 109, 110, 111, 112, 113, 114, 115, 116, 117, 118, 119, 120, 121, 122, 123, 124, 125, 126, 127, 128, 129, 130, 131] rfl (by decide +kernel)
set_option maxHeartbeats 4000000 in
set_option maxRecDepth 100000 in
theorem m_readHold (l : Launch) (dC : Nat → ClassId) (dI : Nat → Nat → Nat) (ad : Nat → Nat) (h0 : Nat) (v0 : Value) (v1 : Value) (v2 : Value) (v3 : Value) (v4 : Value) (v5 : Value) (v6 : Value) (v7 : Value) (v8 : Value) (v9 : Value) (e0 : Nat) (ts : Int32) (bg : Int32) (en : Int32) (so : Int32) (va : Int32) (v17 : Value) (y0 : Nat) (z0 : Nat) (im : Int32) (sT : Int32) (v22 : Value) (hT : Int32) (v24 : Value) (v25 : Value) (v26 : Value) (v27 : Value) (ec : ClassId) (ef : Nat → Int32) (yc : ClassId) (yf : Nat → Int32) (zc : ClassId) (gf : Nat → Int64) (sz : Nat) (htm : 0 ≤ ts.toInt ∧ ts.toInt ≤ 120) (hlx : 0 ≤ bg.toInt ∧ en.toInt ≤ ts.toInt ∧ bg.toInt ≤ en.toInt) (hso : (so.toInt = 1 ∨ so.toInt = 3) → bg.toInt + 1 ≤ en.toInt) (hva : 0 ≤ va.toInt ∧ va.toInt ≤ 10000) (hht : 0 ≤ hT.toInt ∧ hT.toInt ≤ 511) (hst : 0 ≤ sT.toInt ∧ sT.toInt ≤ 9) (him : 0 ≤ im.toInt ∧ im.toInt ≤ 119) : Met l yX9_readHold w_m_readHold ({ frames := 6, cells := 0, slots := 0, locals := 131 } : Room) (va_Pc [.ref h0] (preT dC dI ad [(ec, .int), (yc, .int), (zc, .long)] [(h0, .inr (7, [v0, v1, v2, v3, v4, v5, v6, v7, v8, v9, .ref e0, .int ts, .int bg, .int en, .int so, .int va, .int 0, v17, .ref y0, .ref z0, .int im, .int sT, v22, .int hT, v24, v25, v26, v27])), (e0, .inl (ec, 120, .inl ef)), (y0, .inl (yc, 360, .inl yf)), (z0, .inl (zc, 120, .inr (.inl gf)))] sz)) (va_Qv (fun (_ : Unit) => True) (fun _ t => ∃ (bg2 : Int32), ∃ (en2 : Int32), ∃ (so2 : Int32), ∃ (va2 : Int32), ∃ (iw2 : Int32), ∃ (hT2 : Int32), ∃ (im2 : Int32), ∃ (yg : Nat → Int32), ∃ (gg : Nat → Int64), (0 ≤ bg2.toInt ∧ en2.toInt ≤ ts.toInt ∧ bg2.toInt ≤ en2.toInt) ∧ ((so2.toInt = 1 ∨ so2.toInt = 3) → bg2.toInt + 1 ≤ en2.toInt) ∧ (0 ≤ va2.toInt ∧ va2.toInt ≤ 10000) ∧ (iw2.toInt = 0 ∨ iw2.toInt = 1) ∧ (iw2.toInt = 0 → en.toInt ≤ bg2.toInt) ∧ (im2.toInt = im.toInt + 1) ∧ (iw2.toInt = 0 → ∀ cc : Int, RI yf yg im.toInt.toNat sT.toInt cc hT.toInt.toNat sT.toInt cc hT2.toInt.toNat ∧ (0 ≤ hT2.toInt ∧ hT2.toInt ≤ 511)) ∧ va_P (dC, dI) vwCl [(h0, .inr (7, [v0, v1, v2, v3, v4, v5, v6, v7, v8, v9, .ref e0, .int ts, .int bg2, .int en2, .int so2, .int va2, .int iw2, v17, .ref y0, .ref z0, .int im2, .int sT, v22, .int hT2, v24, v25, v26, v27])), (e0, .inl (ec, 120, .inl ef)), (y0, .inl (yc, 360, .inl yg)), (z0, .inl (zc, 120, .inr (.inl gg)))] t.heap ∧ va_K (dC, dI) vwCl [(ec, .int), (yc, .int), (zc, .long)] t ∧ va_D (va_A [(h0, .inr (7, [v0, v1, v2, v3, v4, v5, v6, v7, v8, v9, .ref e0, .int ts, .int bg, .int en, .int so, .int va, .int 0, v17, .ref y0, .ref z0, .int im, .int sT, v22, .int hT, v24, v25, v26, v27])), (e0, .inl (ec, 120, .inl ef)), (y0, .inl (yc, 360, .inl yf)), (z0, .inl (zc, 120, .inr (.inl gf)))] sz) [(h0, .inr (7, [v0, v1, v2, v3, v4, v5, v6, v7, v8, v9, .ref e0, .int ts, .int bg2, .int en2, .int so2, .int va2, .int iw2, v17, .ref y0, .ref z0, .int im2, .int sT, v22, .int hT2, v24, v25, v26, v27])), (e0, .inl (ec, 120, .inl ef)), (y0, .inl (yc, 360, .inl yg)), (z0, .inl (zc, 120, .inr (.inl gg)))]) (va_A [(h0, .inr (7, [v0, v1, v2, v3, v4, v5, v6, v7, v8, v9, .ref e0, .int ts, .int bg, .int en, .int so, .int va, .int 0, v17, .ref y0, .ref z0, .int im, .int sT, v22, .int hT, v24, v25, v26, v27])), (e0, .inl (ec, 120, .inl ef)), (y0, .inl (yc, 360, .inl yf)), (z0, .inl (zc, 120, .inr (.inl gf)))] sz)) 0 0 (va_A [(h0, .inr (7, [v0, v1, v2, v3, v4, v5, v6, v7, v8, v9, .ref e0, .int ts, .int bg, .int en, .int so, .int va, .int 0, v17, .ref y0, .ref z0, .int im, .int sT, v22, .int hT, v24, v25, v26, v27])), (e0, .inl (ec, 120, .inl ef)), (y0, .inl (yc, 360, .inl yf)), (z0, .inl (zc, 120, .inr (.inl gf)))] sz) := by
  refine Met.ofW (cc := cX9_readHold) (maxL := 5) (ret := none) (by decide) rfl ?_
  intro p e s m args below meth c s₁ B hml hv
  obtain ⟨rfl, ⟨hsz, hP, hK, hD0, hev⟩, hsf⟩ := hv
  have hx := B.exec
  have hb := B.bytes
  have hr := B.returns
  have hts := atoms_spec (ws := w_m_readHold) B.pre
  have hown : s.vm.findClass RX9 = some m.cls := findClass_of_methodNamed B.named
  have hlocks := B.notSynchronized
  have inX9 : ∀ w ∈ wsX90, w ∈ w_m_readHold := fun w h => List.mem_cons_of_mem _ (List.mem_append_right _ h)
  subst hsz
  have hD := hD0.self (sz := s.heap.size)
  generalize hAe : va_A [(h0, .inr (7, [v0, v1, v2, v3, v4, v5, v6, v7, v8, v9, .ref e0, .int ts, .int bg, .int en, .int so, .int va, .int 0, v17, .ref y0, .ref z0, .int im, .int sT, v22, .int hT, v24, v25, v26, v27])), (e0, .inl (ec, 120, .inl ef)), (y0, .inl (yc, 360, .inl yf)), (z0, .inl (zc, 120, .inr (.inl gf)))] s.heap.size = A at hD hsf ⊢
  have hA : ∀ q : Nat, s.heap.size ≤ q → A q := fun q h => by rw [← hAe]; exact Or.inr h
  have hS : va_S A s.heap s.heap [] := va_S.rf
  have hP : va_P (dC, dI) vwCl [(h0, .inr (7, [v0, v1, v2, v3, v4, v5, v6, v7, v8, v9, .ref e0, .int ts, .int bg, .int en, .int so, .int va, .int 0, v17, .ref y0, .ref z0, .int im, .int sT, v22, .int hT, v24, v25, v26, v27])), (e0, .inl (ec, 120, .inl ef)), (y0, .inl (yc, 360, .inl yf)), (z0, .inl (zc, 120, .inr (.inl gf)))] s.heap := hP
  have hl := lv_entry ([.ref h0]) (n := 5) (Nat.le_of_ble_eq_true rfl)
  rw [lg_entry_eq]
  generalize (lg_sl ([.ref h0]) ++ List.replicate (5 - (lg_sl ([.ref h0])).length) Slot.unset).toArray = ls at hl ⊢
  have hl : lv_has ls 5 [(0, .ref h0)] := hl
  refine lv_aload_n hx hb dX9_readHold_0 rfl (lv_at hl 0 rfl) ?_
  refine lv_aload_n hx hb dX9_readHold_1 rfl (lv_at hl 0 rfl) ?_
  refine va_get (D := (dC, dI)) (ci := 7) (v := .int hT) (C := RX9) (T := TX9) (N := 28) hx hb hts inX9 hown hK hP 0 rfl rfl 23 (by decide) (hts _ (List.mem_of_getElem? (i := 1) rfl)) (fun _ h9 => h9) rfl dX9_readHold_2 ?_
  obtain ⟨n_1, en_1⟩ : ∃ z : Int64, z = hT.toInt64 := ⟨_, rfl⟩
  refine lv_i2l (v := n_1) hx hb dX9_readHold_5 en_1.symm ?_
  have hm9 : n_1.toBitVec.toNat = hT.toInt.toNat := mk_64 en_1 (by omega) (by omega)
  have hPc := hP.sub (ws' := []) [] rfl
  have hKc := hK.sub (tys' := []) [] rfl
  refine vp_callSi (W.runS (As := [.long n_1]) (rest := [.ref h0]) ⟨hx, hb, hml, hown, hts⟩ (m_bits2 l dC dI ad n_1 ) (va_cwS 1 hts g_m_readHold_m_bits2_158 rfl rfl rfl (by decide +kernel) ⟨(Nat.le_of_ble_eq_true rfl), (Nat.le_of_ble_eq_true rfl)⟩) ⟨preS_blind, fun U hU hW => ⟨rfl, preS_at hU hW hPc hKc hev⟩⟩ rfl rfl hl.1 rfl (lv_room (Nat.le_of_ble_eq_true rfl)) dX9_readHold_6 ⟨(Nat.le_of_ble_eq_true rfl), (Nat.le_of_ble_eq_true rfl)⟩) (fun r_2 hw => ?_)
  have hr_2 : (0 ≤ r_2.toInt ∧ r_2.toInt ≤ 64) ∧ (n_1.toBitVec.toNat < 512 → r_2.toInt = (pop9 n_1.toBitVec.toNat : Int)) := hw
  have hp9 : r_2.toInt = (pop9 hT.toInt.toNat : Int) := by
    have h8 := hr_2.2 (by rw [hm9]; omega)
    rw [hm9] at h8; exact h8
  refine lv_iconst (v := 4) hx hb dX9_readHold_9 (by decide) ?_
  refine lv_icmp_ge (tgt := 17) hx hb dX9_readHold_10 (by decide) (fun c_3 => ?_) (fun c_3 => ?_)
  · skip
    have tc_3 : 4 ≤ r_2.toInt := (fa_le _ _).mp c_3
    refine lv_iconst (v := 0) hx hb dX9_readHold_17 (by decide) ?_
    have hPc := hP.sub (ws' := [(h0, .inr (7, [v0, v1, v2, v3, v4, v5, v6, v7, v8, v9, .ref e0, .int ts, .int bg, .int en, .int so, .int va, .int 0, v17, .ref y0, .ref z0, .int im, .int sT, v22, .int hT, v24, v25, v26, v27]))]) [0] rfl
    have hKc := hK.sub (tys' := []) [] rfl
    have hDc := hD.sub (ws' := [(h0, .inr (7, [v0, v1, v2, v3, v4, v5, v6, v7, v8, v9, .ref e0, .int ts, .int bg, .int en, .int so, .int va, .int 0, v17, .ref y0, .ref z0, .int im, .int sT, v22, .int hT, v24, v25, v26, v27]))]) [0] (by decide) rfl
    have hFc := va_free (wc := [(h0, .inr (7, [v0, v1, v2, v3, v4, v5, v6, v7, v8, v9, .ref e0, .int ts, .int bg, .int en, .int so, .int va, .int 0, v17, .ref y0, .ref z0, .int im, .int sT, v22, .int hT, v24, v25, v26, v27]))]) hD hS hA [0] rfl
    refine va_callv (va_runV (As := [.int 0]) (rest := []) ⟨hx, hb, hml, hown, hts⟩ (m_must0 l dC dI ad h0 v0 v1 v2 v3 v4 v5 v6 v7 v8 v9 (.ref e0) (.int ts) (.int bg) (.int en) (.int so) (.int va) 0 v17 (.ref y0) (.ref z0) (.int im) (.int sT) v22 (.int hT) v24 v25 v26 v27 s.heap.size ) (cwV 1 hts g_m_readHold_m_must0_224 rfl rfl rfl (by decide +kernel) ⟨(Nat.le_of_ble_eq_true rfl), (Nat.le_of_ble_eq_true rfl)⟩) ⟨preM_blind, va_recv hKc hPc (ci := 7) (q0 := 0) rfl rfl, fun U hU hW => ⟨rfl, preM_at hU hW hPc hKc hDc hev⟩⟩ rfl rfl hl.1 rfl (lv_room (Nat.le_of_ble_eq_true rfl)) dX9_readHold_18 ⟨(Nat.le_of_ble_eq_true rfl), (Nat.le_of_ble_eq_true rfl)⟩) hS (fun q _ h => hFc q h) hFc (fun u t H1 locs ht hvm hw hB hz1 hk1 hS => ?_)
    obtain ⟨hP1, hK1, hD1⟩ := hB
    rw [ht] at hP1
    have hK1 := va_K.moved hvm.symm hK1
    obtain ⟨hP, hD⟩ := va_join (wr := [(e0, .inl (ec, 120, .inl ef)), (y0, .inl (yc, 360, .inl yf)), (z0, .inl (zc, 120, .inr (.inl gf)))]) (w1 := [(h0, .inr (7, [v0, v1, v2, v3, v4, v5, v6, v7, v8, v9, .ref e0, .int ts, .int bg, .int en, .int so, .int va, .int 1, v17, .ref y0, .ref z0, .int im, .int sT, v22, .int hT, v24, v25, v26, v27]))]) hP hD [0] [1, 2, 3] rfl rfl (by decide) (by decide) hk1 hFc hP1 hD1
    generalize H1 = H at hP hS ⊢
    have hP : va_P (dC, dI) vwCl [(e0, .inl (ec, 120, .inl ef)), (y0, .inl (yc, 360, .inl yf)), (z0, .inl (zc, 120, .inr (.inl gf))), (h0, .inr (7, [v0, v1, v2, v3, v4, v5, v6, v7, v8, v9, .ref e0, .int ts, .int bg, .int en, .int so, .int va, .int 1, v17, .ref y0, .ref z0, .int im, .int sT, v22, .int hT, v24, v25, v26, v27]))] H := hP
    have hD : va_D A [(e0, .inl (ec, 120, .inl ef)), (y0, .inl (yc, 360, .inl yf)), (z0, .inl (zc, 120, .inr (.inl gf))), (h0, .inr (7, [v0, v1, v2, v3, v4, v5, v6, v7, v8, v9, .ref e0, .int ts, .int bg, .int en, .int so, .int va, .int 1, v17, .ref y0, .ref z0, .int im, .int sT, v22, .int hT, v24, v25, v26, v27]))] := hD
    refine lv_aload_n hx hb dX9_readHold_21 rfl (lv_at hl 0 rfl) ?_
    refine va_get (D := (dC, dI)) (ci := 7) (v := .int va) (C := RX9) (T := TX9) (N := 28) hx hb hts inX9 hown hK hP 3 rfl rfl 15 (by decide) (hts _ (List.mem_of_getElem? (i := 11) rfl)) (fun _ h9 => h9) rfl dX9_readHold_22 ?_
    refine lv_istore_n (lv' := [(1, .int va), (0, .ref h0)]) hx hb dX9_readHold_25 rfl hl (by decide) rfl (fun ls hl => ?_)
    refine lv_aload_n hx hb dX9_readHold_26 rfl (lv_at hl 1 rfl) ?_
    refine lv_aload_n hx hb dX9_readHold_27 rfl (lv_at hl 1 rfl) ?_
    refine va_get (D := (dC, dI)) (ci := 7) (v := .int so) (C := RX9) (T := TX9) (N := 28) hx hb hts inX9 hown hK hP 3 rfl rfl 14 (by decide) (hts _ (List.mem_of_getElem? (i := 12) rfl)) (fun _ h9 => h9) rfl dX9_readHold_28 ?_
    refine lv_iconst (v := 2) hx hb dX9_readHold_31 (by decide) ?_
    refine lv_icmp_ne (tgt := 64) hx hb dX9_readHold_32 (by decide) (fun c_5 => ?_) (fun c_5 => ?_)
    · skip
      have tc_5 : ¬ so.toInt = 2 := fun h => c_5 ((fa_eq _ _).mpr h)
      refine lv_iconst (v := 0) hx hb dX9_readHold_64 (by decide) ?_
      have hPc := hP.sub (ws' := [(h0, .inr (7, [v0, v1, v2, v3, v4, v5, v6, v7, v8, v9, .ref e0, .int ts, .int bg, .int en, .int so, .int va, .int 1, v17, .ref y0, .ref z0, .int im, .int sT, v22, .int hT, v24, v25, v26, v27]))]) [3] rfl
      have hKc := hK.sub (tys' := []) [] rfl
      have hDc := hD.sub (ws' := [(h0, .inr (7, [v0, v1, v2, v3, v4, v5, v6, v7, v8, v9, .ref e0, .int ts, .int bg, .int en, .int so, .int va, .int 1, v17, .ref y0, .ref z0, .int im, .int sT, v22, .int hT, v24, v25, v26, v27]))]) [3] (by decide) rfl
      have hFc := va_free (wc := [(h0, .inr (7, [v0, v1, v2, v3, v4, v5, v6, v7, v8, v9, .ref e0, .int ts, .int bg, .int en, .int so, .int va, .int 1, v17, .ref y0, .ref z0, .int im, .int sT, v22, .int hT, v24, v25, v26, v27]))]) hD hS hA [3] rfl
      refine va_callv (va_runV (As := [.int 0]) (rest := []) ⟨hx, hb, hml, hown, hts⟩ (m_mustw l dC dI ad h0 0 v0 v1 v2 v3 v4 v5 v6 v7 v8 v9 (.ref e0) (.int ts) (.int bg) (.int en) (.int so) (.int va) v17 (.ref y0) (.ref z0) (.int im) (.int sT) v22 (.int hT) v24 v25 v26 v27 H.size ) (cwV 1 hts g_m_readHold_m_mustw_224 rfl rfl rfl (by decide +kernel) ⟨(Nat.le_of_ble_eq_true rfl), (Nat.le_of_ble_eq_true rfl)⟩) ⟨preM_blind, va_recv hKc hPc (ci := 7) (q0 := 0) rfl rfl, fun U hU hW => ⟨rfl, preM_at hU hW hPc hKc hDc hev⟩⟩ rfl rfl hl.1 rfl (lv_room (Nat.le_of_ble_eq_true rfl)) dX9_readHold_65 ⟨(Nat.le_of_ble_eq_true rfl), (Nat.le_of_ble_eq_true rfl)⟩) hS (fun q _ h => hFc q h) hFc (fun u t H1 locs ht hvm hw hB hz1 hk1 hS => ?_)
      obtain ⟨hP1, hK1, hD1⟩ := hB
      rw [ht] at hP1
      have hK1 := va_K.moved hvm.symm hK1
      obtain ⟨hP, hD⟩ := va_join (wr := [(e0, .inl (ec, 120, .inl ef)), (y0, .inl (yc, 360, .inl yf)), (z0, .inl (zc, 120, .inr (.inl gf)))]) (w1 := [(h0, .inr (7, [v0, v1, v2, v3, v4, v5, v6, v7, v8, v9, .ref e0, .int ts, .int bg, .int en, .int so, .int va, .int 1, v17, .ref y0, .ref z0, .int im, .int sT, v22, .int hT, v24, v25, v26, v27]))]) hP hD [3] [0, 1, 2] rfl rfl (by decide) (by decide) hk1 hFc hP1 hD1
      generalize H1 = H at hP hS ⊢
      have hP : va_P (dC, dI) vwCl [(e0, .inl (ec, 120, .inl ef)), (y0, .inl (yc, 360, .inl yf)), (z0, .inl (zc, 120, .inr (.inl gf))), (h0, .inr (7, [v0, v1, v2, v3, v4, v5, v6, v7, v8, v9, .ref e0, .int ts, .int bg, .int en, .int so, .int va, .int 1, v17, .ref y0, .ref z0, .int im, .int sT, v22, .int hT, v24, v25, v26, v27]))] H := hP
      have hD : va_D A [(e0, .inl (ec, 120, .inl ef)), (y0, .inl (yc, 360, .inl yf)), (z0, .inl (zc, 120, .inr (.inl gf))), (h0, .inr (7, [v0, v1, v2, v3, v4, v5, v6, v7, v8, v9, .ref e0, .int ts, .int bg, .int en, .int so, .int va, .int 1, v17, .ref y0, .ref z0, .int im, .int sT, v22, .int hT, v24, v25, v26, v27]))] := hD
      refine lv_aload_n hx hb dX9_readHold_68 rfl (lv_at hl 1 rfl) ?_
      refine lv_dup hx hb dX9_readHold_69 rfl ?_
      refine va_get (D := (dC, dI)) (ci := 7) (v := .int hT) (C := RX9) (T := TX9) (N := 28) hx hb hts inX9 hown hK hP 3 rfl rfl 23 (by decide) (hts _ (List.mem_of_getElem? (i := 1) rfl)) (fun _ h9 => h9) rfl dX9_readHold_70 ?_
      refine lv_aload_n hx hb dX9_readHold_73 rfl (lv_at hl 1 rfl) ?_
      refine va_get (D := (dC, dI)) (ci := 7) (v := .int 1) (C := RX9) (T := TX9) (N := 28) hx hb hts inX9 hown hK hP 3 rfl rfl 16 (by decide) (hts _ (List.mem_of_getElem? (i := 10) rfl)) (fun _ h9 => h9) rfl dX9_readHold_74 ?_
      refine lv_if_eq (tgt := 84) hx hb dX9_readHold_77 (by decide) (fun c => absurd c (by decide)) (fun _ => ?_)
      refine lv_iconst (v := 0) hx hb dX9_readHold_80 (by decide) ?_
      refine lv_goto (tgt := 87) hx hb dX9_readHold_81 (by decide) ?_
      refine lv_ior hx hb dX9_readHold_87 ?_
      refine lv_topi (fun n_7 en_7 => ?_)
      have tn_7 : n_7.toInt = hT.toInt := by rw [pp_or0 en_7]
      refine va_put (D := (dC, dI)) (ci := 7) (v := .int n_7) (ty := .int) (C := RX9) (T := TX9) (N := 28) hx hb hts inX9 tyX9 tyX9_ok nmX9 hown hK hP hD hS 3 rfl rfl 23 (by decide) (hts _ (List.mem_of_getElem? (i := 1) rfl)) (fun _ h9 => h9) rfl (by decide +kernel) rfl rfl (Nat.le_of_ble_eq_true rfl) dX9_readHold_88 (fun H locs hP hD hS => ?_)
      have hP : va_P (dC, dI) vwCl [(e0, .inl (ec, 120, .inl ef)), (y0, .inl (yc, 360, .inl yf)), (z0, .inl (zc, 120, .inr (.inl gf))), (h0, .inr (7, [v0, v1, v2, v3, v4, v5, v6, v7, v8, v9, .ref e0, .int ts, .int bg, .int en, .int so, .int va, .int 1, v17, .ref y0, .ref z0, .int im, .int sT, v22, .int n_7, v24, v25, v26, v27]))] H := hP
      have hD : va_D A [(e0, .inl (ec, 120, .inl ef)), (y0, .inl (yc, 360, .inl yf)), (z0, .inl (zc, 120, .inr (.inl gf))), (h0, .inr (7, [v0, v1, v2, v3, v4, v5, v6, v7, v8, v9, .ref e0, .int ts, .int bg, .int en, .int so, .int va, .int 1, v17, .ref y0, .ref z0, .int im, .int sT, v22, .int n_7, v24, v25, v26, v27]))] := hD
      refine lv_aload_n hx hb dX9_readHold_91 rfl (lv_at hl 1 rfl) ?_
      refine va_ldcSw (tx := "near") (q := ad 21) hx hb hown (ev_str hev 21 rfl) dX9_readHold_92 ?_
      refine lv_iconst (v := 1) hx hb dX9_readHold_95 (by decide) ?_
      refine lv_iconst (v := 2) hx hb dX9_readHold_96 (by decide) ?_
      have hPc := hP.sub (ws' := [(h0, .inr (7, [v0, v1, v2, v3, v4, v5, v6, v7, v8, v9, .ref e0, .int ts, .int bg, .int en, .int so, .int va, .int 1, v17, .ref y0, .ref z0, .int im, .int sT, v22, .int n_7, v24, v25, v26, v27])), (e0, .inl (ec, 120, .inl ef))]) [3, 0] rfl
      have hKc := hK.sub (tys' := [(ec, .int)]) [0] rfl
      have hDc := hD.sub (ws' := [(h0, .inr (7, [v0, v1, v2, v3, v4, v5, v6, v7, v8, v9, .ref e0, .int ts, .int bg, .int en, .int so, .int va, .int 1, v17, .ref y0, .ref z0, .int im, .int sT, v22, .int n_7, v24, v25, v26, v27])), (e0, .inl (ec, 120, .inl ef))]) [3, 0] (by decide) rfl
      have hFc := va_free (wc := [(h0, .inr (7, [v0, v1, v2, v3, v4, v5, v6, v7, v8, v9, .ref e0, .int ts, .int bg, .int en, .int so, .int va, .int 1, v17, .ref y0, .ref z0, .int im, .int sT, v22, .int n_7, v24, v25, v26, v27])), (e0, .inl (ec, 120, .inl ef))]) hD hS hA [3, 0] rfl
      refine va_calli (va_runV (As := [.ref (ad 21), .int 1, .int 2]) (rest := []) ⟨hx, hb, hml, hown, hts⟩ (m_after l dC dI ad h0 21 1 2 v0 v1 v2 v3 v4 v5 v6 v7 v8 v9 e0 ts bg en so va 1 v17 (.ref y0) (.ref z0) (.int im) (.int sT) v22 (.int n_7) v24 v25 v26 v27 ec ef H.size (by decide) htm hlx hso hva) (cwV 3 hts g_m_readHold_m_after_270 rfl rfl rfl (by decide +kernel) ⟨(Nat.le_of_ble_eq_true rfl), (Nat.le_of_ble_eq_true rfl)⟩) ⟨preT_blind, va_recv hKc hPc (ci := 7) (q0 := 0) rfl rfl, fun U hU hW => ⟨rfl, preM_at hU hW hPc hKc hDc hev, sf_at hsf hS hFc hU hW⟩⟩ rfl rfl hl.1 rfl (lv_room (Nat.le_of_ble_eq_true rfl)) dX9_readHold_97 ⟨(Nat.le_of_ble_eq_true rfl), (Nat.le_of_ble_eq_true rfl)⟩) hS (fun q _ h => hFc q h) hFc (fun r_8 u t H1 locs ht hvm hw hB hz1 hk1 hS => ?_)
      obtain ⟨bg_9, en_10, so_11, va_12, iw_13, hq_14, hq_15, hq_16, hq_17, hq_18, hP1, hK1, hD1⟩ := hB
      rw [ht] at hP1
      have hK1 := va_K.moved hvm.symm hK1
      obtain ⟨hP, hD⟩ := va_join (wr := [(y0, .inl (yc, 360, .inl yf)), (z0, .inl (zc, 120, .inr (.inl gf)))]) (w1 := [(h0, .inr (7, [v0, v1, v2, v3, v4, v5, v6, v7, v8, v9, .ref e0, .int ts, .int bg_9, .int en_10, .int so_11, .int va_12, .int iw_13, v17, .ref y0, .ref z0, .int im, .int sT, v22, .int n_7, v24, v25, v26, v27])), (e0, .inl (ec, 120, .inl ef))]) hP hD [3, 0] [1, 2] rfl rfl (by decide) (by decide) hk1 hFc hP1 hD1
      generalize H1 = H at hP hS ⊢
      have hP : va_P (dC, dI) vwCl [(y0, .inl (yc, 360, .inl yf)), (z0, .inl (zc, 120, .inr (.inl gf))), (h0, .inr (7, [v0, v1, v2, v3, v4, v5, v6, v7, v8, v9, .ref e0, .int ts, .int bg_9, .int en_10, .int so_11, .int va_12, .int iw_13, v17, .ref y0, .ref z0, .int im, .int sT, v22, .int n_7, v24, v25, v26, v27])), (e0, .inl (ec, 120, .inl ef))] H := hP
      have hD : va_D A [(y0, .inl (yc, 360, .inl yf)), (z0, .inl (zc, 120, .inr (.inl gf))), (h0, .inr (7, [v0, v1, v2, v3, v4, v5, v6, v7, v8, v9, .ref e0, .int ts, .int bg_9, .int en_10, .int so_11, .int va_12, .int iw_13, v17, .ref y0, .ref z0, .int im, .int sT, v22, .int n_7, v24, v25, v26, v27])), (e0, .inl (ec, 120, .inl ef))] := hD
      have hq_18 : iw_13.toInt = 0 → (1 : Int) = 0 ∧ bg.toInt ≤ bg_9.toInt := hq_18
      refine lv_istore_n (lv' := [(2, .int r_8), (1, .int va), (0, .ref h0)]) hx hb dX9_readHold_100 rfl hl (by decide) rfl (fun ls hl => ?_)
      refine lv_aload_n hx hb dX9_readHold_101 rfl (lv_at hl 2 rfl) ?_
      refine va_ldcSw (tx := "turn") (q := ad 22) hx hb hown (ev_str hev 22 rfl) dX9_readHold_102 ?_
      refine lv_iconst (v := 0) hx hb dX9_readHold_105 (by decide) ?_
      refine lv_iconst (v := 3) hx hb dX9_readHold_106 (by decide) ?_
      have hPc := hP.sub (ws' := [(h0, .inr (7, [v0, v1, v2, v3, v4, v5, v6, v7, v8, v9, .ref e0, .int ts, .int bg_9, .int en_10, .int so_11, .int va_12, .int iw_13, v17, .ref y0, .ref z0, .int im, .int sT, v22, .int n_7, v24, v25, v26, v27])), (e0, .inl (ec, 120, .inl ef))]) [2, 3] rfl
      have hKc := hK.sub (tys' := [(ec, .int)]) [0] rfl
      have hDc := hD.sub (ws' := [(h0, .inr (7, [v0, v1, v2, v3, v4, v5, v6, v7, v8, v9, .ref e0, .int ts, .int bg_9, .int en_10, .int so_11, .int va_12, .int iw_13, v17, .ref y0, .ref z0, .int im, .int sT, v22, .int n_7, v24, v25, v26, v27])), (e0, .inl (ec, 120, .inl ef))]) [2, 3] (by decide) rfl
      have hFc := va_free (wc := [(h0, .inr (7, [v0, v1, v2, v3, v4, v5, v6, v7, v8, v9, .ref e0, .int ts, .int bg_9, .int en_10, .int so_11, .int va_12, .int iw_13, v17, .ref y0, .ref z0, .int im, .int sT, v22, .int n_7, v24, v25, v26, v27])), (e0, .inl (ec, 120, .inl ef))]) hD hS hA [2, 3] rfl
      refine va_calli (va_runV (As := [.ref (ad 22), .int 0, .int 3]) (rest := []) ⟨hx, hb, hml, hown, hts⟩ (m_after l dC dI ad h0 22 0 3 v0 v1 v2 v3 v4 v5 v6 v7 v8 v9 e0 ts bg_9 en_10 so_11 va_12 iw_13 v17 (.ref y0) (.ref z0) (.int im) (.int sT) v22 (.int n_7) v24 v25 v26 v27 ec ef H.size (by decide) htm hq_14 hq_15 hq_16) (cwV 3 hts g_m_readHold_m_after_270 rfl rfl rfl (by decide +kernel) ⟨(Nat.le_of_ble_eq_true rfl), (Nat.le_of_ble_eq_true rfl)⟩) ⟨preT_blind, va_recv hKc hPc (ci := 7) (q0 := 0) rfl rfl, fun U hU hW => ⟨rfl, preM_at hU hW hPc hKc hDc hev, sf_at hsf hS hFc hU hW⟩⟩ rfl rfl hl.1 rfl (lv_room (Nat.le_of_ble_eq_true rfl)) dX9_readHold_107 ⟨(Nat.le_of_ble_eq_true rfl), (Nat.le_of_ble_eq_true rfl)⟩) hS (fun q _ h => hFc q h) hFc (fun r_19 u t H1 locs ht hvm hw hB hz1 hk1 hS => ?_)
      obtain ⟨bg_20, en_21, so_22, va_23, iw_24, hq_25, hq_26, hq_27, hq_28, hq_29, hP1, hK1, hD1⟩ := hB
      rw [ht] at hP1
      have hK1 := va_K.moved hvm.symm hK1
      obtain ⟨hP, hD⟩ := va_join (wr := [(y0, .inl (yc, 360, .inl yf)), (z0, .inl (zc, 120, .inr (.inl gf)))]) (w1 := [(h0, .inr (7, [v0, v1, v2, v3, v4, v5, v6, v7, v8, v9, .ref e0, .int ts, .int bg_20, .int en_21, .int so_22, .int va_23, .int iw_24, v17, .ref y0, .ref z0, .int im, .int sT, v22, .int n_7, v24, v25, v26, v27])), (e0, .inl (ec, 120, .inl ef))]) hP hD [2, 3] [0, 1] rfl rfl (by decide) (by decide) hk1 hFc hP1 hD1
      generalize H1 = H at hP hS ⊢
      have hP : va_P (dC, dI) vwCl [(y0, .inl (yc, 360, .inl yf)), (z0, .inl (zc, 120, .inr (.inl gf))), (h0, .inr (7, [v0, v1, v2, v3, v4, v5, v6, v7, v8, v9, .ref e0, .int ts, .int bg_20, .int en_21, .int so_22, .int va_23, .int iw_24, v17, .ref y0, .ref z0, .int im, .int sT, v22, .int n_7, v24, v25, v26, v27])), (e0, .inl (ec, 120, .inl ef))] H := hP
      have hD : va_D A [(y0, .inl (yc, 360, .inl yf)), (z0, .inl (zc, 120, .inr (.inl gf))), (h0, .inr (7, [v0, v1, v2, v3, v4, v5, v6, v7, v8, v9, .ref e0, .int ts, .int bg_20, .int en_21, .int so_22, .int va_23, .int iw_24, v17, .ref y0, .ref z0, .int im, .int sT, v22, .int n_7, v24, v25, v26, v27])), (e0, .inl (ec, 120, .inl ef))] := hD
      refine lv_istore_n (lv' := [(3, .int r_19), (2, .int r_8), (1, .int va), (0, .ref h0)]) hx hb dX9_readHold_110 rfl hl (by decide) rfl (fun ls hl => ?_)
      refine lv_aload_n hx hb dX9_readHold_111 rfl (lv_at hl 3 rfl) ?_
      refine va_ldcSw (tx := "at") (q := ad 23) hx hb hown (ev_str hev 23 rfl) dX9_readHold_112 ?_
      refine lv_iconst (v := 0) hx hb dX9_readHold_115 (by decide) ?_
      refine lv_bipush (v := 7) hx hb dX9_readHold_116 (by decide) ?_
      have hPc := hP.sub (ws' := [(h0, .inr (7, [v0, v1, v2, v3, v4, v5, v6, v7, v8, v9, .ref e0, .int ts, .int bg_20, .int en_21, .int so_22, .int va_23, .int iw_24, v17, .ref y0, .ref z0, .int im, .int sT, v22, .int n_7, v24, v25, v26, v27])), (e0, .inl (ec, 120, .inl ef))]) [2, 3] rfl
      have hKc := hK.sub (tys' := [(ec, .int)]) [0] rfl
      have hDc := hD.sub (ws' := [(h0, .inr (7, [v0, v1, v2, v3, v4, v5, v6, v7, v8, v9, .ref e0, .int ts, .int bg_20, .int en_21, .int so_22, .int va_23, .int iw_24, v17, .ref y0, .ref z0, .int im, .int sT, v22, .int n_7, v24, v25, v26, v27])), (e0, .inl (ec, 120, .inl ef))]) [2, 3] (by decide) rfl
      have hFc := va_free (wc := [(h0, .inr (7, [v0, v1, v2, v3, v4, v5, v6, v7, v8, v9, .ref e0, .int ts, .int bg_20, .int en_21, .int so_22, .int va_23, .int iw_24, v17, .ref y0, .ref z0, .int im, .int sT, v22, .int n_7, v24, v25, v26, v27])), (e0, .inl (ec, 120, .inl ef))]) hD hS hA [2, 3] rfl
      refine va_calli (va_runV (As := [.ref (ad 23), .int 0, .int 7]) (rest := []) ⟨hx, hb, hml, hown, hts⟩ (m_after l dC dI ad h0 23 0 7 v0 v1 v2 v3 v4 v5 v6 v7 v8 v9 e0 ts bg_20 en_21 so_22 va_23 iw_24 v17 (.ref y0) (.ref z0) (.int im) (.int sT) v22 (.int n_7) v24 v25 v26 v27 ec ef H.size (by decide) htm hq_25 hq_26 hq_27) (cwV 3 hts g_m_readHold_m_after_270 rfl rfl rfl (by decide +kernel) ⟨(Nat.le_of_ble_eq_true rfl), (Nat.le_of_ble_eq_true rfl)⟩) ⟨preT_blind, va_recv hKc hPc (ci := 7) (q0 := 0) rfl rfl, fun U hU hW => ⟨rfl, preM_at hU hW hPc hKc hDc hev, sf_at hsf hS hFc hU hW⟩⟩ rfl rfl hl.1 rfl (lv_room (Nat.le_of_ble_eq_true rfl)) dX9_readHold_118 ⟨(Nat.le_of_ble_eq_true rfl), (Nat.le_of_ble_eq_true rfl)⟩) hS (fun q _ h => hFc q h) hFc (fun r_30 u t H1 locs ht hvm hw hB hz1 hk1 hS => ?_)
      obtain ⟨bg_31, en_32, so_33, va_34, iw_35, hq_36, hq_37, hq_38, hq_39, hq_40, hP1, hK1, hD1⟩ := hB
      rw [ht] at hP1
      have hK1 := va_K.moved hvm.symm hK1
      obtain ⟨hP, hD⟩ := va_join (wr := [(y0, .inl (yc, 360, .inl yf)), (z0, .inl (zc, 120, .inr (.inl gf)))]) (w1 := [(h0, .inr (7, [v0, v1, v2, v3, v4, v5, v6, v7, v8, v9, .ref e0, .int ts, .int bg_31, .int en_32, .int so_33, .int va_34, .int iw_35, v17, .ref y0, .ref z0, .int im, .int sT, v22, .int n_7, v24, v25, v26, v27])), (e0, .inl (ec, 120, .inl ef))]) hP hD [2, 3] [0, 1] rfl rfl (by decide) (by decide) hk1 hFc hP1 hD1
      generalize H1 = H at hP hS ⊢
      have hP : va_P (dC, dI) vwCl [(y0, .inl (yc, 360, .inl yf)), (z0, .inl (zc, 120, .inr (.inl gf))), (h0, .inr (7, [v0, v1, v2, v3, v4, v5, v6, v7, v8, v9, .ref e0, .int ts, .int bg_31, .int en_32, .int so_33, .int va_34, .int iw_35, v17, .ref y0, .ref z0, .int im, .int sT, v22, .int n_7, v24, v25, v26, v27])), (e0, .inl (ec, 120, .inl ef))] H := hP
      have hD : va_D A [(y0, .inl (yc, 360, .inl yf)), (z0, .inl (zc, 120, .inr (.inl gf))), (h0, .inr (7, [v0, v1, v2, v3, v4, v5, v6, v7, v8, v9, .ref e0, .int ts, .int bg_31, .int en_32, .int so_33, .int va_34, .int iw_35, v17, .ref y0, .ref z0, .int im, .int sT, v22, .int n_7, v24, v25, v26, v27])), (e0, .inl (ec, 120, .inl ef))] := hD
      refine lv_istore (lv' := [(4, .int r_30), (3, .int r_19), (2, .int r_8), (1, .int va), (0, .ref h0)]) hx hb dX9_readHold_121 hl (by decide) rfl (fun ls hl => ?_)
      refine lv_aload_n hx hb dX9_readHold_123 rfl (lv_at hl 4 rfl) ?_
      refine lv_bipush (v := 11) hx hb dX9_readHold_124 (by decide) ?_
      refine lv_iload_n hx hb dX9_readHold_126 rfl (lv_at hl 3 rfl) ?_
      refine lv_sipush (v := 1000) hx hb dX9_readHold_127 (by decide) ?_
      refine lv_iconst (v := 4) hx hb dX9_readHold_130 (by decide) ?_
      refine lv_iload_n hx hb dX9_readHold_131 rfl (lv_at hl 2 rfl) ?_
      refine lv_imul hx hb dX9_readHold_132 ?_
      refine lv_topi (fun n_41 en_41 => ?_)
      refine lv_iload_n hx hb dX9_readHold_133 rfl (lv_at hl 1 rfl) ?_
      refine lv_iadd hx hb dX9_readHold_134 ?_
      refine lv_topi (fun n_42 en_42 => ?_)
      refine lv_imul hx hb dX9_readHold_135 ?_
      refine lv_topi (fun n_43 en_43 => ?_)
      refine lv_bipush (v := 10) hx hb dX9_readHold_136 (by decide) ?_
      refine lv_iload hx hb dX9_readHold_138 (lv_at hl 0 rfl) ?_
      refine lv_imul hx hb dX9_readHold_140 ?_
      refine lv_topi (fun n_44 en_44 => ?_)
      refine lv_iadd hx hb dX9_readHold_141 ?_
      refine lv_topi (fun n_45 en_45 => ?_)
      refine lv_aload_n hx hb dX9_readHold_142 rfl (lv_at hl 4 rfl) ?_
      refine lv_iconst (v := 0) hx hb dX9_readHold_143 (by decide) ?_
      refine lv_bipush (v := 7) hx hb dX9_readHold_144 (by decide) ?_
      have hPc := hP.sub (ws' := [(h0, .inr (7, [v0, v1, v2, v3, v4, v5, v6, v7, v8, v9, .ref e0, .int ts, .int bg_31, .int en_32, .int so_33, .int va_34, .int iw_35, v17, .ref y0, .ref z0, .int im, .int sT, v22, .int n_7, v24, v25, v26, v27])), (e0, .inl (ec, 120, .inl ef))]) [2, 3] rfl
      have hKc := hK.sub (tys' := [(ec, .int)]) [0] rfl
      have hDc := hD.sub (ws' := [(h0, .inr (7, [v0, v1, v2, v3, v4, v5, v6, v7, v8, v9, .ref e0, .int ts, .int bg_31, .int en_32, .int so_33, .int va_34, .int iw_35, v17, .ref y0, .ref z0, .int im, .int sT, v22, .int n_7, v24, v25, v26, v27])), (e0, .inl (ec, 120, .inl ef))]) [2, 3] (by decide) rfl
      have hFc := va_free (wc := [(h0, .inr (7, [v0, v1, v2, v3, v4, v5, v6, v7, v8, v9, .ref e0, .int ts, .int bg_31, .int en_32, .int so_33, .int va_34, .int iw_35, v17, .ref y0, .ref z0, .int im, .int sT, v22, .int n_7, v24, v25, v26, v27])), (e0, .inl (ec, 120, .inl ef))]) hD hS hA [2, 3] rfl
      refine va_calli (va_runV (As := [.int 0, .int 7]) (rest := [.int n_45, .int va, .int 11, .ref h0]) ⟨hx, hb, hml, hown, hts⟩ (m_number l dC dI ad h0 0 7 v0 v1 v2 v3 v4 v5 v6 v7 v8 v9 e0 ts bg_31 en_32 so_33 va_34 iw_35 v17 (.ref y0) (.ref z0) (.int im) (.int sT) v22 (.int n_7) v24 v25 v26 v27 ec ef H.size htm hq_36 hq_37 hq_38) (cwV 2 hts g_m_readHold_m_number_235 rfl rfl rfl (by decide +kernel) ⟨(Nat.le_of_ble_eq_true rfl), (Nat.le_of_ble_eq_true rfl)⟩) ⟨preM_blind, va_recv hKc hPc (ci := 7) (q0 := 0) rfl rfl, fun U hU hW => ⟨rfl, preM_at hU hW hPc hKc hDc hev⟩⟩ rfl rfl hl.1 rfl (lv_room (Nat.le_of_ble_eq_true rfl)) dX9_readHold_146 ⟨(Nat.le_of_ble_eq_true rfl), (Nat.le_of_ble_eq_true rfl)⟩) hS (fun q _ h => hFc q h) hFc (fun r_46 u t H1 locs ht hvm hw hB hz1 hk1 hS => ?_)
      obtain ⟨bg_47, en_48, so_49, va_50, iw_51, hq_52, hq_53, hq_54, hq_55, hq_56, hP1, hK1, hD1⟩ := hB
      rw [ht] at hP1
      have hK1 := va_K.moved hvm.symm hK1
      obtain ⟨hP, hD⟩ := va_join (wr := [(y0, .inl (yc, 360, .inl yf)), (z0, .inl (zc, 120, .inr (.inl gf)))]) (w1 := [(h0, .inr (7, [v0, v1, v2, v3, v4, v5, v6, v7, v8, v9, .ref e0, .int ts, .int bg_47, .int en_48, .int so_49, .int va_50, .int iw_51, v17, .ref y0, .ref z0, .int im, .int sT, v22, .int n_7, v24, v25, v26, v27])), (e0, .inl (ec, 120, .inl ef))]) hP hD [2, 3] [0, 1] rfl rfl (by decide) (by decide) hk1 hFc hP1 hD1
      generalize H1 = H at hP hS ⊢
      have hP : va_P (dC, dI) vwCl [(y0, .inl (yc, 360, .inl yf)), (z0, .inl (zc, 120, .inr (.inl gf))), (h0, .inr (7, [v0, v1, v2, v3, v4, v5, v6, v7, v8, v9, .ref e0, .int ts, .int bg_47, .int en_48, .int so_49, .int va_50, .int iw_51, v17, .ref y0, .ref z0, .int im, .int sT, v22, .int n_7, v24, v25, v26, v27])), (e0, .inl (ec, 120, .inl ef))] H := hP
      have hD : va_D A [(y0, .inl (yc, 360, .inl yf)), (z0, .inl (zc, 120, .inr (.inl gf))), (h0, .inr (7, [v0, v1, v2, v3, v4, v5, v6, v7, v8, v9, .ref e0, .int ts, .int bg_47, .int en_48, .int so_49, .int va_50, .int iw_51, v17, .ref y0, .ref z0, .int im, .int sT, v22, .int n_7, v24, v25, v26, v27])), (e0, .inl (ec, 120, .inl ef))] := hD
      have hr_46 : r_46.toInt = va_34.toInt := hw
      have hq_56 : iw_51.toInt = 0 → iw_35.toInt = 0 ∧ (0 : Int) ≤ va_34.toInt ∧ va_34.toInt ≤ (7 : Int) ∧ en_32.toInt ≤ bg_47.toInt := hq_56
      refine lv_iadd hx hb dX9_readHold_149 ?_
      refine lv_topi (fun n_57 en_57 => ?_)
      refine lv_lconst (v := 0) hx hb dX9_readHold_150 (by decide) ?_
      have hPc := hP.sub (ws' := [(h0, .inr (7, [v0, v1, v2, v3, v4, v5, v6, v7, v8, v9, .ref e0, .int ts, .int bg_47, .int en_48, .int so_49, .int va_50, .int iw_51, v17, .ref y0, .ref z0, .int im, .int sT, v22, .int n_7, v24, v25, v26, v27])), (y0, .inl (yc, 360, .inl yf)), (z0, .inl (zc, 120, .inr (.inl gf)))]) [2, 0, 1] rfl
      have hKc := hK.sub (tys' := [(yc, .int), (zc, .long)]) [1, 2] rfl
      have hDc := hD.sub (ws' := [(h0, .inr (7, [v0, v1, v2, v3, v4, v5, v6, v7, v8, v9, .ref e0, .int ts, .int bg_47, .int en_48, .int so_49, .int va_50, .int iw_51, v17, .ref y0, .ref z0, .int im, .int sT, v22, .int n_7, v24, v25, v26, v27])), (y0, .inl (yc, 360, .inl yf)), (z0, .inl (zc, 120, .inr (.inl gf)))]) [2, 0, 1] (by decide) rfl
      have hFc := va_free (wc := [(h0, .inr (7, [v0, v1, v2, v3, v4, v5, v6, v7, v8, v9, .ref e0, .int ts, .int bg_47, .int en_48, .int so_49, .int va_50, .int iw_51, v17, .ref y0, .ref z0, .int im, .int sT, v22, .int n_7, v24, v25, v26, v27])), (y0, .inl (yc, 360, .inl yf)), (z0, .inl (zc, 120, .inr (.inl gf)))]) hD hS hA [2, 0, 1] rfl
      refine va_callv (va_runV (As := [.int 11, .int va, .int n_57, .long 0]) (rest := []) ⟨hx, hb, hml, hown, hts⟩ (m_item l dC dI ad h0 11 va n_57 0 v0 v1 v2 v3 v4 v5 v6 v7 v8 v9 (.ref e0) (.int ts) (.int bg_47) (.int en_48) (.int so_49) (.int va_50) (.int iw_51) v17 y0 z0 im (.int sT) v22 (.int n_7) v24 v25 v26 v27 yc yf zc gf H.size him) (cwV 4 hts g_m_readHold_m_item_247 rfl rfl rfl (by decide +kernel) ⟨(Nat.le_of_ble_eq_true rfl), (Nat.le_of_ble_eq_true rfl)⟩) ⟨preM_blind, va_recv hKc hPc (ci := 7) (q0 := 0) rfl rfl, fun U hU hW => ⟨rfl, preM_at hU hW hPc hKc hDc hev⟩⟩ rfl rfl hl.1 rfl (lv_room (Nat.le_of_ble_eq_true rfl)) dX9_readHold_151 ⟨(Nat.le_of_ble_eq_true rfl), (Nat.le_of_ble_eq_true rfl)⟩) hS (fun q _ h => hFc q h) hFc (fun u t H1 locs ht hvm hw hB hz1 hk1 hS => ?_)
      obtain ⟨im_59, yg_60, gg_61, hq_62, hq_63, hP1, hK1, hD1⟩ := hB
      rw [ht] at hP1
      have hK1 := va_K.moved hvm.symm hK1
      obtain ⟨hP, hD⟩ := va_join (wr := [(e0, .inl (ec, 120, .inl ef))]) (w1 := [(h0, .inr (7, [v0, v1, v2, v3, v4, v5, v6, v7, v8, v9, .ref e0, .int ts, .int bg_47, .int en_48, .int so_49, .int va_50, .int iw_51, v17, .ref y0, .ref z0, .int im_59, .int sT, v22, .int n_7, v24, v25, v26, v27])), (y0, .inl (yc, 360, .inl yg_60)), (z0, .inl (zc, 120, .inr (.inl gg_61)))]) hP hD [2, 0, 1] [3] rfl rfl (by decide) (by decide) hk1 hFc hP1 hD1
      generalize H1 = H at hP hS ⊢
      have hP : va_P (dC, dI) vwCl [(e0, .inl (ec, 120, .inl ef)), (h0, .inr (7, [v0, v1, v2, v3, v4, v5, v6, v7, v8, v9, .ref e0, .int ts, .int bg_47, .int en_48, .int so_49, .int va_50, .int iw_51, v17, .ref y0, .ref z0, .int im_59, .int sT, v22, .int n_7, v24, v25, v26, v27])), (y0, .inl (yc, 360, .inl yg_60)), (z0, .inl (zc, 120, .inr (.inl gg_61)))] H := hP
      have hD : va_D A [(e0, .inl (ec, 120, .inl ef)), (h0, .inr (7, [v0, v1, v2, v3, v4, v5, v6, v7, v8, v9, .ref e0, .int ts, .int bg_47, .int en_48, .int so_49, .int va_50, .int iw_51, v17, .ref y0, .ref z0, .int im_59, .int sT, v22, .int n_7, v24, v25, v26, v27])), (y0, .inl (yc, 360, .inl yg_60)), (z0, .inl (zc, 120, .inr (.inl gg_61)))] := hD
      have hP9 := hP.sub (ws' := [(h0, .inr (7, [v0, v1, v2, v3, v4, v5, v6, v7, v8, v9, .ref e0, .int ts, .int bg_47, .int en_48, .int so_49, .int va_50, .int iw_51, v17, .ref y0, .ref z0, .int im_59, .int sT, v22, .int n_7, v24, v25, v26, v27])), (e0, .inl (ec, 120, .inl ef)), (y0, .inl (yc, 360, .inl yg_60)), (z0, .inl (zc, 120, .inr (.inl gg_61)))]) [1, 0, 2, 3] rfl
      have hD9 := hD.sub (ws' := [(h0, .inr (7, [v0, v1, v2, v3, v4, v5, v6, v7, v8, v9, .ref e0, .int ts, .int bg_47, .int en_48, .int so_49, .int va_50, .int iw_51, v17, .ref y0, .ref z0, .int im_59, .int sT, v22, .int n_7, v24, v25, v26, v27])), (e0, .inl (ec, 120, .inl ef)), (y0, .inl (yc, 360, .inl yg_60)), (z0, .inl (zc, 120, .inr (.inl gg_61)))]) [1, 0, 2, 3] (by decide) rfl
      have hK9 := hK.sub (tys' := [(ec, .int), (yc, .int), (zc, .long)]) [0, 1, 2] rfl
      exact W.vret hx hb hr (fun t ht hW => ⟨⟨(), rfl, trivial, bg_47, en_48, so_49, va_50, iw_51, n_7, im_59, yg_60, gg_61, hq_52, hq_53, hq_54, hq_55, (by first | omega | decide | (simp only [fa_lt, fa_le, fa_eq, and_true, true_and, and_false, false_and, not_true_eq_false, not_false_eq_true, li_0, li_1, li_2, li_3, li_4, li_5, li_6, li_7, li_8, li_9, li_10, li_12, li_15, li_16, li_20, li_30, li_34, li_38, li_40, li_63, li_64, li_65, li_78, li_120, li_1000, li_4000, li_10000, li_11077, li_255, li_65535, li_m1, li_m2, li_m1000000001, li_m1000000002, li_m1000000003, li_m1000000004, li_m1000000005, li_m1000000006, li_m1000000007, or_true, true_or, or_false, false_or, implies_true, true_implies, false_implies] <;> omega)), hq_62, (fun hz cc => absurd hz (by first | omega | decide)), by rw [ht]; exact hP9, va_K.moved hW.alike hK9, hD9⟩, hS.F ht⟩) hS.2.2 dX9_readHold_154
    · skip
      have tc_5 : so.toInt = 2 := (fa_eq _ _).mp c_5
      refine lv_iload_n hx hb dX9_readHold_35 rfl (lv_at hl 0 rfl) ?_
      refine lv_iconst (v := 0) hx hb dX9_readHold_36 (by decide) ?_
      refine lv_aload_n hx hb dX9_readHold_37 rfl (lv_at hl 1 rfl) ?_
      refine va_get (D := (dC, dI)) (ci := 7) (v := .int sT) (C := RX9) (T := TX9) (N := 28) hx hb hts inX9 hown hK hP 3 rfl rfl 21 (by decide) (hts _ (List.mem_of_getElem? (i := 103) rfl)) (fun _ h9 => h9) rfl dX9_readHold_38 ?_
      refine lv_iconst (v := 1) hx hb dX9_readHold_41 (by decide) ?_
      refine lv_isub hx hb dX9_readHold_42 ?_
      refine lv_topi (fun n_64 en_64 => ?_)
      have tn_64 : n_64.toInt = sT.toInt - 1 := pp_sub en_64 rfl rfl (by omega) (by omega)
      have hPc := hP.sub (ws' := []) [] rfl
      have hKc := hK.sub (tys' := []) [] rfl
      refine vp_callSi (W.runS (As := [.int va, .int 0, .int n_64]) (rest := [.ref h0]) ⟨hx, hb, hml, hown, hts⟩ (m_within l dC dI ad va 0 n_64 ) (va_cwS 3 hts g_m_readHold_m_within_75 rfl rfl rfl (by decide +kernel) ⟨(Nat.le_of_ble_eq_true rfl), (Nat.le_of_ble_eq_true rfl)⟩) ⟨preS_blind, fun U hU hW => ⟨rfl, preS_at hU hW hPc hKc hev⟩⟩ rfl rfl hl.1 rfl (lv_room (Nat.le_of_ble_eq_true rfl)) dX9_readHold_43 ⟨(Nat.le_of_ble_eq_true rfl), (Nat.le_of_ble_eq_true rfl)⟩) (fun r_65 hw => ?_)
      have hr_65 : (r_65.toInt = 1 ∧ 0 ≤ va.toInt ∧ va.toInt ≤ n_64.toInt) ∨ (r_65.toInt = 0 ∧ ¬ (0 ≤ va.toInt ∧ va.toInt ≤ n_64.toInt)) := hw
      refine lv_if_eq (tgt := 64) hx hb dX9_readHold_46 (by decide) (fun c_66 => ?_) (fun c_66 => ?_)
      · skip
        have tc_66 : r_65.toInt = 0 := (fa_eq _ _).mp c_66
        refine lv_iconst (v := 0) hx hb dX9_readHold_64 (by decide) ?_
        have hPc := hP.sub (ws' := [(h0, .inr (7, [v0, v1, v2, v3, v4, v5, v6, v7, v8, v9, .ref e0, .int ts, .int bg, .int en, .int so, .int va, .int 1, v17, .ref y0, .ref z0, .int im, .int sT, v22, .int hT, v24, v25, v26, v27]))]) [3] rfl
        have hKc := hK.sub (tys' := []) [] rfl
        have hDc := hD.sub (ws' := [(h0, .inr (7, [v0, v1, v2, v3, v4, v5, v6, v7, v8, v9, .ref e0, .int ts, .int bg, .int en, .int so, .int va, .int 1, v17, .ref y0, .ref z0, .int im, .int sT, v22, .int hT, v24, v25, v26, v27]))]) [3] (by decide) rfl
        have hFc := va_free (wc := [(h0, .inr (7, [v0, v1, v2, v3, v4, v5, v6, v7, v8, v9, .ref e0, .int ts, .int bg, .int en, .int so, .int va, .int 1, v17, .ref y0, .ref z0, .int im, .int sT, v22, .int hT, v24, v25, v26, v27]))]) hD hS hA [3] rfl
        refine va_callv (va_runV (As := [.int 0]) (rest := []) ⟨hx, hb, hml, hown, hts⟩ (m_mustw l dC dI ad h0 0 v0 v1 v2 v3 v4 v5 v6 v7 v8 v9 (.ref e0) (.int ts) (.int bg) (.int en) (.int so) (.int va) v17 (.ref y0) (.ref z0) (.int im) (.int sT) v22 (.int hT) v24 v25 v26 v27 H.size ) (cwV 1 hts g_m_readHold_m_mustw_224 rfl rfl rfl (by decide +kernel) ⟨(Nat.le_of_ble_eq_true rfl), (Nat.le_of_ble_eq_true rfl)⟩) ⟨preM_blind, va_recv hKc hPc (ci := 7) (q0 := 0) rfl rfl, fun U hU hW => ⟨rfl, preM_at hU hW hPc hKc hDc hev⟩⟩ rfl rfl hl.1 rfl (lv_room (Nat.le_of_ble_eq_true rfl)) dX9_readHold_65 ⟨(Nat.le_of_ble_eq_true rfl), (Nat.le_of_ble_eq_true rfl)⟩) hS (fun q _ h => hFc q h) hFc (fun u t H1 locs ht hvm hw hB hz1 hk1 hS => ?_)
        obtain ⟨hP1, hK1, hD1⟩ := hB
        rw [ht] at hP1
        have hK1 := va_K.moved hvm.symm hK1
        obtain ⟨hP, hD⟩ := va_join (wr := [(e0, .inl (ec, 120, .inl ef)), (y0, .inl (yc, 360, .inl yf)), (z0, .inl (zc, 120, .inr (.inl gf)))]) (w1 := [(h0, .inr (7, [v0, v1, v2, v3, v4, v5, v6, v7, v8, v9, .ref e0, .int ts, .int bg, .int en, .int so, .int va, .int 1, v17, .ref y0, .ref z0, .int im, .int sT, v22, .int hT, v24, v25, v26, v27]))]) hP hD [3] [0, 1, 2] rfl rfl (by decide) (by decide) hk1 hFc hP1 hD1
        generalize H1 = H at hP hS ⊢
        have hP : va_P (dC, dI) vwCl [(e0, .inl (ec, 120, .inl ef)), (y0, .inl (yc, 360, .inl yf)), (z0, .inl (zc, 120, .inr (.inl gf))), (h0, .inr (7, [v0, v1, v2, v3, v4, v5, v6, v7, v8, v9, .ref e0, .int ts, .int bg, .int en, .int so, .int va, .int 1, v17, .ref y0, .ref z0, .int im, .int sT, v22, .int hT, v24, v25, v26, v27]))] H := hP
        have hD : va_D A [(e0, .inl (ec, 120, .inl ef)), (y0, .inl (yc, 360, .inl yf)), (z0, .inl (zc, 120, .inr (.inl gf))), (h0, .inr (7, [v0, v1, v2, v3, v4, v5, v6, v7, v8, v9, .ref e0, .int ts, .int bg, .int en, .int so, .int va, .int 1, v17, .ref y0, .ref z0, .int im, .int sT, v22, .int hT, v24, v25, v26, v27]))] := hD
        refine lv_aload_n hx hb dX9_readHold_68 rfl (lv_at hl 1 rfl) ?_
        refine lv_dup hx hb dX9_readHold_69 rfl ?_
        refine va_get (D := (dC, dI)) (ci := 7) (v := .int hT) (C := RX9) (T := TX9) (N := 28) hx hb hts inX9 hown hK hP 3 rfl rfl 23 (by decide) (hts _ (List.mem_of_getElem? (i := 1) rfl)) (fun _ h9 => h9) rfl dX9_readHold_70 ?_
        refine lv_aload_n hx hb dX9_readHold_73 rfl (lv_at hl 1 rfl) ?_
        refine va_get (D := (dC, dI)) (ci := 7) (v := .int 1) (C := RX9) (T := TX9) (N := 28) hx hb hts inX9 hown hK hP 3 rfl rfl 16 (by decide) (hts _ (List.mem_of_getElem? (i := 10) rfl)) (fun _ h9 => h9) rfl dX9_readHold_74 ?_
        refine lv_if_eq (tgt := 84) hx hb dX9_readHold_77 (by decide) (fun c => absurd c (by decide)) (fun _ => ?_)
        refine lv_iconst (v := 0) hx hb dX9_readHold_80 (by decide) ?_
        refine lv_goto (tgt := 87) hx hb dX9_readHold_81 (by decide) ?_
        refine lv_ior hx hb dX9_readHold_87 ?_
        refine lv_topi (fun n_68 en_68 => ?_)
        have tn_68 : n_68.toInt = hT.toInt := by rw [pp_or0 en_68]
        refine va_put (D := (dC, dI)) (ci := 7) (v := .int n_68) (ty := .int) (C := RX9) (T := TX9) (N := 28) hx hb hts inX9 tyX9 tyX9_ok nmX9 hown hK hP hD hS 3 rfl rfl 23 (by decide) (hts _ (List.mem_of_getElem? (i := 1) rfl)) (fun _ h9 => h9) rfl (by decide +kernel) rfl rfl (Nat.le_of_ble_eq_true rfl) dX9_readHold_88 (fun H locs hP hD hS => ?_)
        have hP : va_P (dC, dI) vwCl [(e0, .inl (ec, 120, .inl ef)), (y0, .inl (yc, 360, .inl yf)), (z0, .inl (zc, 120, .inr (.inl gf))), (h0, .inr (7, [v0, v1, v2, v3, v4, v5, v6, v7, v8, v9, .ref e0, .int ts, .int bg, .int en, .int so, .int va, .int 1, v17, .ref y0, .ref z0, .int im, .int sT, v22, .int n_68, v24, v25, v26, v27]))] H := hP
        have hD : va_D A [(e0, .inl (ec, 120, .inl ef)), (y0, .inl (yc, 360, .inl yf)), (z0, .inl (zc, 120, .inr (.inl gf))), (h0, .inr (7, [v0, v1, v2, v3, v4, v5, v6, v7, v8, v9, .ref e0, .int ts, .int bg, .int en, .int so, .int va, .int 1, v17, .ref y0, .ref z0, .int im, .int sT, v22, .int n_68, v24, v25, v26, v27]))] := hD
        refine lv_aload_n hx hb dX9_readHold_91 rfl (lv_at hl 1 rfl) ?_
        refine va_ldcSw (tx := "near") (q := ad 21) hx hb hown (ev_str hev 21 rfl) dX9_readHold_92 ?_
        refine lv_iconst (v := 1) hx hb dX9_readHold_95 (by decide) ?_
        refine lv_iconst (v := 2) hx hb dX9_readHold_96 (by decide) ?_
        have hPc := hP.sub (ws' := [(h0, .inr (7, [v0, v1, v2, v3, v4, v5, v6, v7, v8, v9, .ref e0, .int ts, .int bg, .int en, .int so, .int va, .int 1, v17, .ref y0, .ref z0, .int im, .int sT, v22, .int n_68, v24, v25, v26, v27])), (e0, .inl (ec, 120, .inl ef))]) [3, 0] rfl
        have hKc := hK.sub (tys' := [(ec, .int)]) [0] rfl
        have hDc := hD.sub (ws' := [(h0, .inr (7, [v0, v1, v2, v3, v4, v5, v6, v7, v8, v9, .ref e0, .int ts, .int bg, .int en, .int so, .int va, .int 1, v17, .ref y0, .ref z0, .int im, .int sT, v22, .int n_68, v24, v25, v26, v27])), (e0, .inl (ec, 120, .inl ef))]) [3, 0] (by decide) rfl
        have hFc := va_free (wc := [(h0, .inr (7, [v0, v1, v2, v3, v4, v5, v6, v7, v8, v9, .ref e0, .int ts, .int bg, .int en, .int so, .int va, .int 1, v17, .ref y0, .ref z0, .int im, .int sT, v22, .int n_68, v24, v25, v26, v27])), (e0, .inl (ec, 120, .inl ef))]) hD hS hA [3, 0] rfl
        refine va_calli (va_runV (As := [.ref (ad 21), .int 1, .int 2]) (rest := []) ⟨hx, hb, hml, hown, hts⟩ (m_after l dC dI ad h0 21 1 2 v0 v1 v2 v3 v4 v5 v6 v7 v8 v9 e0 ts bg en so va 1 v17 (.ref y0) (.ref z0) (.int im) (.int sT) v22 (.int n_68) v24 v25 v26 v27 ec ef H.size (by decide) htm hlx hso hva) (cwV 3 hts g_m_readHold_m_after_270 rfl rfl rfl (by decide +kernel) ⟨(Nat.le_of_ble_eq_true rfl), (Nat.le_of_ble_eq_true rfl)⟩) ⟨preT_blind, va_recv hKc hPc (ci := 7) (q0 := 0) rfl rfl, fun U hU hW => ⟨rfl, preM_at hU hW hPc hKc hDc hev, sf_at hsf hS hFc hU hW⟩⟩ rfl rfl hl.1 rfl (lv_room (Nat.le_of_ble_eq_true rfl)) dX9_readHold_97 ⟨(Nat.le_of_ble_eq_true rfl), (Nat.le_of_ble_eq_true rfl)⟩) hS (fun q _ h => hFc q h) hFc (fun r_69 u t H1 locs ht hvm hw hB hz1 hk1 hS => ?_)
        obtain ⟨bg_70, en_71, so_72, va_73, iw_74, hq_75, hq_76, hq_77, hq_78, hq_79, hP1, hK1, hD1⟩ := hB
        rw [ht] at hP1
        have hK1 := va_K.moved hvm.symm hK1
        obtain ⟨hP, hD⟩ := va_join (wr := [(y0, .inl (yc, 360, .inl yf)), (z0, .inl (zc, 120, .inr (.inl gf)))]) (w1 := [(h0, .inr (7, [v0, v1, v2, v3, v4, v5, v6, v7, v8, v9, .ref e0, .int ts, .int bg_70, .int en_71, .int so_72, .int va_73, .int iw_74, v17, .ref y0, .ref z0, .int im, .int sT, v22, .int n_68, v24, v25, v26, v27])), (e0, .inl (ec, 120, .inl ef))]) hP hD [3, 0] [1, 2] rfl rfl (by decide) (by decide) hk1 hFc hP1 hD1
        generalize H1 = H at hP hS ⊢
        have hP : va_P (dC, dI) vwCl [(y0, .inl (yc, 360, .inl yf)), (z0, .inl (zc, 120, .inr (.inl gf))), (h0, .inr (7, [v0, v1, v2, v3, v4, v5, v6, v7, v8, v9, .ref e0, .int ts, .int bg_70, .int en_71, .int so_72, .int va_73, .int iw_74, v17, .ref y0, .ref z0, .int im, .int sT, v22, .int n_68, v24, v25, v26, v27])), (e0, .inl (ec, 120, .inl ef))] H := hP
        have hD : va_D A [(y0, .inl (yc, 360, .inl yf)), (z0, .inl (zc, 120, .inr (.inl gf))), (h0, .inr (7, [v0, v1, v2, v3, v4, v5, v6, v7, v8, v9, .ref e0, .int ts, .int bg_70, .int en_71, .int so_72, .int va_73, .int iw_74, v17, .ref y0, .ref z0, .int im, .int sT, v22, .int n_68, v24, v25, v26, v27])), (e0, .inl (ec, 120, .inl ef))] := hD
        have hq_79 : iw_74.toInt = 0 → (1 : Int) = 0 ∧ bg.toInt ≤ bg_70.toInt := hq_79
        refine lv_istore_n (lv' := [(2, .int r_69), (1, .int va), (0, .ref h0)]) hx hb dX9_readHold_100 rfl hl (by decide) rfl (fun ls hl => ?_)
        refine lv_aload_n hx hb dX9_readHold_101 rfl (lv_at hl 2 rfl) ?_
        refine va_ldcSw (tx := "turn") (q := ad 22) hx hb hown (ev_str hev 22 rfl) dX9_readHold_102 ?_
        refine lv_iconst (v := 0) hx hb dX9_readHold_105 (by decide) ?_
        refine lv_iconst (v := 3) hx hb dX9_readHold_106 (by decide) ?_
        have hPc := hP.sub (ws' := [(h0, .inr (7, [v0, v1, v2, v3, v4, v5, v6, v7, v8, v9, .ref e0, .int ts, .int bg_70, .int en_71, .int so_72, .int va_73, .int iw_74, v17, .ref y0, .ref z0, .int im, .int sT, v22, .int n_68, v24, v25, v26, v27])), (e0, .inl (ec, 120, .inl ef))]) [2, 3] rfl
        have hKc := hK.sub (tys' := [(ec, .int)]) [0] rfl
        have hDc := hD.sub (ws' := [(h0, .inr (7, [v0, v1, v2, v3, v4, v5, v6, v7, v8, v9, .ref e0, .int ts, .int bg_70, .int en_71, .int so_72, .int va_73, .int iw_74, v17, .ref y0, .ref z0, .int im, .int sT, v22, .int n_68, v24, v25, v26, v27])), (e0, .inl (ec, 120, .inl ef))]) [2, 3] (by decide) rfl
        have hFc := va_free (wc := [(h0, .inr (7, [v0, v1, v2, v3, v4, v5, v6, v7, v8, v9, .ref e0, .int ts, .int bg_70, .int en_71, .int so_72, .int va_73, .int iw_74, v17, .ref y0, .ref z0, .int im, .int sT, v22, .int n_68, v24, v25, v26, v27])), (e0, .inl (ec, 120, .inl ef))]) hD hS hA [2, 3] rfl
        refine va_calli (va_runV (As := [.ref (ad 22), .int 0, .int 3]) (rest := []) ⟨hx, hb, hml, hown, hts⟩ (m_after l dC dI ad h0 22 0 3 v0 v1 v2 v3 v4 v5 v6 v7 v8 v9 e0 ts bg_70 en_71 so_72 va_73 iw_74 v17 (.ref y0) (.ref z0) (.int im) (.int sT) v22 (.int n_68) v24 v25 v26 v27 ec ef H.size (by decide) htm hq_75 hq_76 hq_77) (cwV 3 hts g_m_readHold_m_after_270 rfl rfl rfl (by decide +kernel) ⟨(Nat.le_of_ble_eq_true rfl), (Nat.le_of_ble_eq_true rfl)⟩) ⟨preT_blind, va_recv hKc hPc (ci := 7) (q0 := 0) rfl rfl, fun U hU hW => ⟨rfl, preM_at hU hW hPc hKc hDc hev, sf_at hsf hS hFc hU hW⟩⟩ rfl rfl hl.1 rfl (lv_room (Nat.le_of_ble_eq_true rfl)) dX9_readHold_107 ⟨(Nat.le_of_ble_eq_true rfl), (Nat.le_of_ble_eq_true rfl)⟩) hS (fun q _ h => hFc q h) hFc (fun r_80 u t H1 locs ht hvm hw hB hz1 hk1 hS => ?_)
        obtain ⟨bg_81, en_82, so_83, va_84, iw_85, hq_86, hq_87, hq_88, hq_89, hq_90, hP1, hK1, hD1⟩ := hB
        rw [ht] at hP1
        have hK1 := va_K.moved hvm.symm hK1
        obtain ⟨hP, hD⟩ := va_join (wr := [(y0, .inl (yc, 360, .inl yf)), (z0, .inl (zc, 120, .inr (.inl gf)))]) (w1 := [(h0, .inr (7, [v0, v1, v2, v3, v4, v5, v6, v7, v8, v9, .ref e0, .int ts, .int bg_81, .int en_82, .int so_83, .int va_84, .int iw_85, v17, .ref y0, .ref z0, .int im, .int sT, v22, .int n_68, v24, v25, v26, v27])), (e0, .inl (ec, 120, .inl ef))]) hP hD [2, 3] [0, 1] rfl rfl (by decide) (by decide) hk1 hFc hP1 hD1
        generalize H1 = H at hP hS ⊢
        have hP : va_P (dC, dI) vwCl [(y0, .inl (yc, 360, .inl yf)), (z0, .inl (zc, 120, .inr (.inl gf))), (h0, .inr (7, [v0, v1, v2, v3, v4, v5, v6, v7, v8, v9, .ref e0, .int ts, .int bg_81, .int en_82, .int so_83, .int va_84, .int iw_85, v17, .ref y0, .ref z0, .int im, .int sT, v22, .int n_68, v24, v25, v26, v27])), (e0, .inl (ec, 120, .inl ef))] H := hP
        have hD : va_D A [(y0, .inl (yc, 360, .inl yf)), (z0, .inl (zc, 120, .inr (.inl gf))), (h0, .inr (7, [v0, v1, v2, v3, v4, v5, v6, v7, v8, v9, .ref e0, .int ts, .int bg_81, .int en_82, .int so_83, .int va_84, .int iw_85, v17, .ref y0, .ref z0, .int im, .int sT, v22, .int n_68, v24, v25, v26, v27])), (e0, .inl (ec, 120, .inl ef))] := hD
        refine lv_istore_n (lv' := [(3, .int r_80), (2, .int r_69), (1, .int va), (0, .ref h0)]) hx hb dX9_readHold_110 rfl hl (by decide) rfl (fun ls hl => ?_)
        refine lv_aload_n hx hb dX9_readHold_111 rfl (lv_at hl 3 rfl) ?_
        refine va_ldcSw (tx := "at") (q := ad 23) hx hb hown (ev_str hev 23 rfl) dX9_readHold_112 ?_
        refine lv_iconst (v := 0) hx hb dX9_readHold_115 (by decide) ?_
        refine lv_bipush (v := 7) hx hb dX9_readHold_116 (by decide) ?_
        have hPc := hP.sub (ws' := [(h0, .inr (7, [v0, v1, v2, v3, v4, v5, v6, v7, v8, v9, .ref e0, .int ts, .int bg_81, .int en_82, .int so_83, .int va_84, .int iw_85, v17, .ref y0, .ref z0, .int im, .int sT, v22, .int n_68, v24, v25, v26, v27])), (e0, .inl (ec, 120, .inl ef))]) [2, 3] rfl
        have hKc := hK.sub (tys' := [(ec, .int)]) [0] rfl
        have hDc := hD.sub (ws' := [(h0, .inr (7, [v0, v1, v2, v3, v4, v5, v6, v7, v8, v9, .ref e0, .int ts, .int bg_81, .int en_82, .int so_83, .int va_84, .int iw_85, v17, .ref y0, .ref z0, .int im, .int sT, v22, .int n_68, v24, v25, v26, v27])), (e0, .inl (ec, 120, .inl ef))]) [2, 3] (by decide) rfl
        have hFc := va_free (wc := [(h0, .inr (7, [v0, v1, v2, v3, v4, v5, v6, v7, v8, v9, .ref e0, .int ts, .int bg_81, .int en_82, .int so_83, .int va_84, .int iw_85, v17, .ref y0, .ref z0, .int im, .int sT, v22, .int n_68, v24, v25, v26, v27])), (e0, .inl (ec, 120, .inl ef))]) hD hS hA [2, 3] rfl
        refine va_calli (va_runV (As := [.ref (ad 23), .int 0, .int 7]) (rest := []) ⟨hx, hb, hml, hown, hts⟩ (m_after l dC dI ad h0 23 0 7 v0 v1 v2 v3 v4 v5 v6 v7 v8 v9 e0 ts bg_81 en_82 so_83 va_84 iw_85 v17 (.ref y0) (.ref z0) (.int im) (.int sT) v22 (.int n_68) v24 v25 v26 v27 ec ef H.size (by decide) htm hq_86 hq_87 hq_88) (cwV 3 hts g_m_readHold_m_after_270 rfl rfl rfl (by decide +kernel) ⟨(Nat.le_of_ble_eq_true rfl), (Nat.le_of_ble_eq_true rfl)⟩) ⟨preT_blind, va_recv hKc hPc (ci := 7) (q0 := 0) rfl rfl, fun U hU hW => ⟨rfl, preM_at hU hW hPc hKc hDc hev, sf_at hsf hS hFc hU hW⟩⟩ rfl rfl hl.1 rfl (lv_room (Nat.le_of_ble_eq_true rfl)) dX9_readHold_118 ⟨(Nat.le_of_ble_eq_true rfl), (Nat.le_of_ble_eq_true rfl)⟩) hS (fun q _ h => hFc q h) hFc (fun r_91 u t H1 locs ht hvm hw hB hz1 hk1 hS => ?_)
        obtain ⟨bg_92, en_93, so_94, va_95, iw_96, hq_97, hq_98, hq_99, hq_100, hq_101, hP1, hK1, hD1⟩ := hB
        rw [ht] at hP1
        have hK1 := va_K.moved hvm.symm hK1
        obtain ⟨hP, hD⟩ := va_join (wr := [(y0, .inl (yc, 360, .inl yf)), (z0, .inl (zc, 120, .inr (.inl gf)))]) (w1 := [(h0, .inr (7, [v0, v1, v2, v3, v4, v5, v6, v7, v8, v9, .ref e0, .int ts, .int bg_92, .int en_93, .int so_94, .int va_95, .int iw_96, v17, .ref y0, .ref z0, .int im, .int sT, v22, .int n_68, v24, v25, v26, v27])), (e0, .inl (ec, 120, .inl ef))]) hP hD [2, 3] [0, 1] rfl rfl (by decide) (by decide) hk1 hFc hP1 hD1
        generalize H1 = H at hP hS ⊢
        have hP : va_P (dC, dI) vwCl [(y0, .inl (yc, 360, .inl yf)), (z0, .inl (zc, 120, .inr (.inl gf))), (h0, .inr (7, [v0, v1, v2, v3, v4, v5, v6, v7, v8, v9, .ref e0, .int ts, .int bg_92, .int en_93, .int so_94, .int va_95, .int iw_96, v17, .ref y0, .ref z0, .int im, .int sT, v22, .int n_68, v24, v25, v26, v27])), (e0, .inl (ec, 120, .inl ef))] H := hP
        have hD : va_D A [(y0, .inl (yc, 360, .inl yf)), (z0, .inl (zc, 120, .inr (.inl gf))), (h0, .inr (7, [v0, v1, v2, v3, v4, v5, v6, v7, v8, v9, .ref e0, .int ts, .int bg_92, .int en_93, .int so_94, .int va_95, .int iw_96, v17, .ref y0, .ref z0, .int im, .int sT, v22, .int n_68, v24, v25, v26, v27])), (e0, .inl (ec, 120, .inl ef))] := hD
        refine lv_istore (lv' := [(4, .int r_91), (3, .int r_80), (2, .int r_69), (1, .int va), (0, .ref h0)]) hx hb dX9_readHold_121 hl (by decide) rfl (fun ls hl => ?_)
        refine lv_aload_n hx hb dX9_readHold_123 rfl (lv_at hl 4 rfl) ?_
        refine lv_bipush (v := 11) hx hb dX9_readHold_124 (by decide) ?_
        refine lv_iload_n hx hb dX9_readHold_126 rfl (lv_at hl 3 rfl) ?_
        refine lv_sipush (v := 1000) hx hb dX9_readHold_127 (by decide) ?_
        refine lv_iconst (v := 4) hx hb dX9_readHold_130 (by decide) ?_
        refine lv_iload_n hx hb dX9_readHold_131 rfl (lv_at hl 2 rfl) ?_
        refine lv_imul hx hb dX9_readHold_132 ?_
        refine lv_topi (fun n_102 en_102 => ?_)
        refine lv_iload_n hx hb dX9_readHold_133 rfl (lv_at hl 1 rfl) ?_
        refine lv_iadd hx hb dX9_readHold_134 ?_
        refine lv_topi (fun n_103 en_103 => ?_)
        refine lv_imul hx hb dX9_readHold_135 ?_
        refine lv_topi (fun n_104 en_104 => ?_)
        refine lv_bipush (v := 10) hx hb dX9_readHold_136 (by decide) ?_
        refine lv_iload hx hb dX9_readHold_138 (lv_at hl 0 rfl) ?_
        refine lv_imul hx hb dX9_readHold_140 ?_
        refine lv_topi (fun n_105 en_105 => ?_)
        refine lv_iadd hx hb dX9_readHold_141 ?_
        refine lv_topi (fun n_106 en_106 => ?_)
        refine lv_aload_n hx hb dX9_readHold_142 rfl (lv_at hl 4 rfl) ?_
        refine lv_iconst (v := 0) hx hb dX9_readHold_143 (by decide) ?_
        refine lv_bipush (v := 7) hx hb dX9_readHold_144 (by decide) ?_
        have hPc := hP.sub (ws' := [(h0, .inr (7, [v0, v1, v2, v3, v4, v5, v6, v7, v8, v9, .ref e0, .int ts, .int bg_92, .int en_93, .int so_94, .int va_95, .int iw_96, v17, .ref y0, .ref z0, .int im, .int sT, v22, .int n_68, v24, v25, v26, v27])), (e0, .inl (ec, 120, .inl ef))]) [2, 3] rfl
        have hKc := hK.sub (tys' := [(ec, .int)]) [0] rfl
        have hDc := hD.sub (ws' := [(h0, .inr (7, [v0, v1, v2, v3, v4, v5, v6, v7, v8, v9, .ref e0, .int ts, .int bg_92, .int en_93, .int so_94, .int va_95, .int iw_96, v17, .ref y0, .ref z0, .int im, .int sT, v22, .int n_68, v24, v25, v26, v27])), (e0, .inl (ec, 120, .inl ef))]) [2, 3] (by decide) rfl
        have hFc := va_free (wc := [(h0, .inr (7, [v0, v1, v2, v3, v4, v5, v6, v7, v8, v9, .ref e0, .int ts, .int bg_92, .int en_93, .int so_94, .int va_95, .int iw_96, v17, .ref y0, .ref z0, .int im, .int sT, v22, .int n_68, v24, v25, v26, v27])), (e0, .inl (ec, 120, .inl ef))]) hD hS hA [2, 3] rfl
        refine va_calli (va_runV (As := [.int 0, .int 7]) (rest := [.int n_106, .int va, .int 11, .ref h0]) ⟨hx, hb, hml, hown, hts⟩ (m_number l dC dI ad h0 0 7 v0 v1 v2 v3 v4 v5 v6 v7 v8 v9 e0 ts bg_92 en_93 so_94 va_95 iw_96 v17 (.ref y0) (.ref z0) (.int im) (.int sT) v22 (.int n_68) v24 v25 v26 v27 ec ef H.size htm hq_97 hq_98 hq_99) (cwV 2 hts g_m_readHold_m_number_235 rfl rfl rfl (by decide +kernel) ⟨(Nat.le_of_ble_eq_true rfl), (Nat.le_of_ble_eq_true rfl)⟩) ⟨preM_blind, va_recv hKc hPc (ci := 7) (q0 := 0) rfl rfl, fun U hU hW => ⟨rfl, preM_at hU hW hPc hKc hDc hev⟩⟩ rfl rfl hl.1 rfl (lv_room (Nat.le_of_ble_eq_true rfl)) dX9_readHold_146 ⟨(Nat.le_of_ble_eq_true rfl), (Nat.le_of_ble_eq_true rfl)⟩) hS (fun q _ h => hFc q h) hFc (fun r_107 u t H1 locs ht hvm hw hB hz1 hk1 hS => ?_)
        obtain ⟨bg_108, en_109, so_110, va_111, iw_112, hq_113, hq_114, hq_115, hq_116, hq_117, hP1, hK1, hD1⟩ := hB
        rw [ht] at hP1
        have hK1 := va_K.moved hvm.symm hK1
        obtain ⟨hP, hD⟩ := va_join (wr := [(y0, .inl (yc, 360, .inl yf)), (z0, .inl (zc, 120, .inr (.inl gf)))]) (w1 := [(h0, .inr (7, [v0, v1, v2, v3, v4, v5, v6, v7, v8, v9, .ref e0, .int ts, .int bg_108, .int en_109, .int so_110, .int va_111, .int iw_112, v17, .ref y0, .ref z0, .int im, .int sT, v22, .int n_68, v24, v25, v26, v27])), (e0, .inl (ec, 120, .inl ef))]) hP hD [2, 3] [0, 1] rfl rfl (by decide) (by decide) hk1 hFc hP1 hD1
        generalize H1 = H at hP hS ⊢
        have hP : va_P (dC, dI) vwCl [(y0, .inl (yc, 360, .inl yf)), (z0, .inl (zc, 120, .inr (.inl gf))), (h0, .inr (7, [v0, v1, v2, v3, v4, v5, v6, v7, v8, v9, .ref e0, .int ts, .int bg_108, .int en_109, .int so_110, .int va_111, .int iw_112, v17, .ref y0, .ref z0, .int im, .int sT, v22, .int n_68, v24, v25, v26, v27])), (e0, .inl (ec, 120, .inl ef))] H := hP
        have hD : va_D A [(y0, .inl (yc, 360, .inl yf)), (z0, .inl (zc, 120, .inr (.inl gf))), (h0, .inr (7, [v0, v1, v2, v3, v4, v5, v6, v7, v8, v9, .ref e0, .int ts, .int bg_108, .int en_109, .int so_110, .int va_111, .int iw_112, v17, .ref y0, .ref z0, .int im, .int sT, v22, .int n_68, v24, v25, v26, v27])), (e0, .inl (ec, 120, .inl ef))] := hD
        have hr_107 : r_107.toInt = va_95.toInt := hw
        have hq_117 : iw_112.toInt = 0 → iw_96.toInt = 0 ∧ (0 : Int) ≤ va_95.toInt ∧ va_95.toInt ≤ (7 : Int) ∧ en_93.toInt ≤ bg_108.toInt := hq_117
        refine lv_iadd hx hb dX9_readHold_149 ?_
        refine lv_topi (fun n_118 en_118 => ?_)
        refine lv_lconst (v := 0) hx hb dX9_readHold_150 (by decide) ?_
        have hPc := hP.sub (ws' := [(h0, .inr (7, [v0, v1, v2, v3, v4, v5, v6, v7, v8, v9, .ref e0, .int ts, .int bg_108, .int en_109, .int so_110, .int va_111, .int iw_112, v17, .ref y0, .ref z0, .int im, .int sT, v22, .int n_68, v24, v25, v26, v27])), (y0, .inl (yc, 360, .inl yf)), (z0, .inl (zc, 120, .inr (.inl gf)))]) [2, 0, 1] rfl
        have hKc := hK.sub (tys' := [(yc, .int), (zc, .long)]) [1, 2] rfl
        have hDc := hD.sub (ws' := [(h0, .inr (7, [v0, v1, v2, v3, v4, v5, v6, v7, v8, v9, .ref e0, .int ts, .int bg_108, .int en_109, .int so_110, .int va_111, .int iw_112, v17, .ref y0, .ref z0, .int im, .int sT, v22, .int n_68, v24, v25, v26, v27])), (y0, .inl (yc, 360, .inl yf)), (z0, .inl (zc, 120, .inr (.inl gf)))]) [2, 0, 1] (by decide) rfl
        have hFc := va_free (wc := [(h0, .inr (7, [v0, v1, v2, v3, v4, v5, v6, v7, v8, v9, .ref e0, .int ts, .int bg_108, .int en_109, .int so_110, .int va_111, .int iw_112, v17, .ref y0, .ref z0, .int im, .int sT, v22, .int n_68, v24, v25, v26, v27])), (y0, .inl (yc, 360, .inl yf)), (z0, .inl (zc, 120, .inr (.inl gf)))]) hD hS hA [2, 0, 1] rfl
        refine va_callv (va_runV (As := [.int 11, .int va, .int n_118, .long 0]) (rest := []) ⟨hx, hb, hml, hown, hts⟩ (m_item l dC dI ad h0 11 va n_118 0 v0 v1 v2 v3 v4 v5 v6 v7 v8 v9 (.ref e0) (.int ts) (.int bg_108) (.int en_109) (.int so_110) (.int va_111) (.int iw_112) v17 y0 z0 im (.int sT) v22 (.int n_68) v24 v25 v26 v27 yc yf zc gf H.size him) (cwV 4 hts g_m_readHold_m_item_247 rfl rfl rfl (by decide +kernel) ⟨(Nat.le_of_ble_eq_true rfl), (Nat.le_of_ble_eq_true rfl)⟩) ⟨preM_blind, va_recv hKc hPc (ci := 7) (q0 := 0) rfl rfl, fun U hU hW => ⟨rfl, preM_at hU hW hPc hKc hDc hev⟩⟩ rfl rfl hl.1 rfl (lv_room (Nat.le_of_ble_eq_true rfl)) dX9_readHold_151 ⟨(Nat.le_of_ble_eq_true rfl), (Nat.le_of_ble_eq_true rfl)⟩) hS (fun q _ h => hFc q h) hFc (fun u t H1 locs ht hvm hw hB hz1 hk1 hS => ?_)
        obtain ⟨im_120, yg_121, gg_122, hq_123, hq_124, hP1, hK1, hD1⟩ := hB
        rw [ht] at hP1
        have hK1 := va_K.moved hvm.symm hK1
        obtain ⟨hP, hD⟩ := va_join (wr := [(e0, .inl (ec, 120, .inl ef))]) (w1 := [(h0, .inr (7, [v0, v1, v2, v3, v4, v5, v6, v7, v8, v9, .ref e0, .int ts, .int bg_108, .int en_109, .int so_110, .int va_111, .int iw_112, v17, .ref y0, .ref z0, .int im_120, .int sT, v22, .int n_68, v24, v25, v26, v27])), (y0, .inl (yc, 360, .inl yg_121)), (z0, .inl (zc, 120, .inr (.inl gg_122)))]) hP hD [2, 0, 1] [3] rfl rfl (by decide) (by decide) hk1 hFc hP1 hD1
        generalize H1 = H at hP hS ⊢
        have hP : va_P (dC, dI) vwCl [(e0, .inl (ec, 120, .inl ef)), (h0, .inr (7, [v0, v1, v2, v3, v4, v5, v6, v7, v8, v9, .ref e0, .int ts, .int bg_108, .int en_109, .int so_110, .int va_111, .int iw_112, v17, .ref y0, .ref z0, .int im_120, .int sT, v22, .int n_68, v24, v25, v26, v27])), (y0, .inl (yc, 360, .inl yg_121)), (z0, .inl (zc, 120, .inr (.inl gg_122)))] H := hP
        have hD : va_D A [(e0, .inl (ec, 120, .inl ef)), (h0, .inr (7, [v0, v1, v2, v3, v4, v5, v6, v7, v8, v9, .ref e0, .int ts, .int bg_108, .int en_109, .int so_110, .int va_111, .int iw_112, v17, .ref y0, .ref z0, .int im_120, .int sT, v22, .int n_68, v24, v25, v26, v27])), (y0, .inl (yc, 360, .inl yg_121)), (z0, .inl (zc, 120, .inr (.inl gg_122)))] := hD
        have hP9 := hP.sub (ws' := [(h0, .inr (7, [v0, v1, v2, v3, v4, v5, v6, v7, v8, v9, .ref e0, .int ts, .int bg_108, .int en_109, .int so_110, .int va_111, .int iw_112, v17, .ref y0, .ref z0, .int im_120, .int sT, v22, .int n_68, v24, v25, v26, v27])), (e0, .inl (ec, 120, .inl ef)), (y0, .inl (yc, 360, .inl yg_121)), (z0, .inl (zc, 120, .inr (.inl gg_122)))]) [1, 0, 2, 3] rfl
        have hD9 := hD.sub (ws' := [(h0, .inr (7, [v0, v1, v2, v3, v4, v5, v6, v7, v8, v9, .ref e0, .int ts, .int bg_108, .int en_109, .int so_110, .int va_111, .int iw_112, v17, .ref y0, .ref z0, .int im_120, .int sT, v22, .int n_68, v24, v25, v26, v27])), (e0, .inl (ec, 120, .inl ef)), (y0, .inl (yc, 360, .inl yg_121)), (z0, .inl (zc, 120, .inr (.inl gg_122)))]) [1, 0, 2, 3] (by decide) rfl
        have hK9 := hK.sub (tys' := [(ec, .int), (yc, .int), (zc, .long)]) [0, 1, 2] rfl
        exact W.vret hx hb hr (fun t ht hW => ⟨⟨(), rfl, trivial, bg_108, en_109, so_110, va_111, iw_112, n_68, im_120, yg_121, gg_122, hq_113, hq_114, hq_115, hq_116, (by first | omega | decide | (simp only [fa_lt, fa_le, fa_eq, and_true, true_and, and_false, false_and, not_true_eq_false, not_false_eq_true, li_0, li_1, li_2, li_3, li_4, li_5, li_6, li_7, li_8, li_9, li_10, li_12, li_15, li_16, li_20, li_30, li_34, li_38, li_40, li_63, li_64, li_65, li_78, li_120, li_1000, li_4000, li_10000, li_11077, li_255, li_65535, li_m1, li_m2, li_m1000000001, li_m1000000002, li_m1000000003, li_m1000000004, li_m1000000005, li_m1000000006, li_m1000000007, or_true, true_or, or_false, false_or, implies_true, true_implies, false_implies] <;> omega)), hq_123, (fun hz cc => absurd hz (by first | omega | decide)), by rw [ht]; exact hP9, va_K.moved hW.alike hK9, hD9⟩, hS.F ht⟩) hS.2.2 dX9_readHold_154
      · skip
        have tc_66 : ¬ r_65.toInt = 0 := fun h => c_66 ((fa_eq _ _).mpr h)
        have i_125 : 0 ≤ va.toInt ∧ va.toInt ≤ n_64.toInt := by omega
        refine lv_aload_n hx hb dX9_readHold_49 rfl (lv_at hl 1 rfl) ?_
        refine va_get (D := (dC, dI)) (ci := 7) (v := .int hT) (C := RX9) (T := TX9) (N := 28) hx hb hts inX9 hown hK hP 3 rfl rfl 23 (by decide) (hts _ (List.mem_of_getElem? (i := 1) rfl)) (fun _ h9 => h9) rfl dX9_readHold_50 ?_
        refine lv_iload_n hx hb dX9_readHold_53 rfl (lv_at hl 0 rfl) ?_
        refine lv_ishr hx hb dX9_readHold_54 ?_
        refine lv_topi (fun n_126 en_126 => ?_)
        refine lv_iconst (v := 1) hx hb dX9_readHold_55 (by decide) ?_
        refine lv_iand hx hb dX9_readHold_56 ?_
        refine lv_topi (fun n_127 en_127 => ?_)
        have tbn_127 := mk_bit en_126 en_127 (by omega) (by omega) (by omega) (by omega)
        refine lv_if_ne (tgt := 64) hx hb dX9_readHold_57 (by decide) (fun c_128 => ?_) (fun c_128 => ?_)
        · skip
          have tc_128 : ¬ n_127.toInt = 0 := fun h => c_128 ((fa_eq _ _).mpr h)
          refine lv_iconst (v := 0) hx hb dX9_readHold_64 (by decide) ?_
          have hPc := hP.sub (ws' := [(h0, .inr (7, [v0, v1, v2, v3, v4, v5, v6, v7, v8, v9, .ref e0, .int ts, .int bg, .int en, .int so, .int va, .int 1, v17, .ref y0, .ref z0, .int im, .int sT, v22, .int hT, v24, v25, v26, v27]))]) [3] rfl
          have hKc := hK.sub (tys' := []) [] rfl
          have hDc := hD.sub (ws' := [(h0, .inr (7, [v0, v1, v2, v3, v4, v5, v6, v7, v8, v9, .ref e0, .int ts, .int bg, .int en, .int so, .int va, .int 1, v17, .ref y0, .ref z0, .int im, .int sT, v22, .int hT, v24, v25, v26, v27]))]) [3] (by decide) rfl
          have hFc := va_free (wc := [(h0, .inr (7, [v0, v1, v2, v3, v4, v5, v6, v7, v8, v9, .ref e0, .int ts, .int bg, .int en, .int so, .int va, .int 1, v17, .ref y0, .ref z0, .int im, .int sT, v22, .int hT, v24, v25, v26, v27]))]) hD hS hA [3] rfl
          refine va_callv (va_runV (As := [.int 0]) (rest := []) ⟨hx, hb, hml, hown, hts⟩ (m_mustw l dC dI ad h0 0 v0 v1 v2 v3 v4 v5 v6 v7 v8 v9 (.ref e0) (.int ts) (.int bg) (.int en) (.int so) (.int va) v17 (.ref y0) (.ref z0) (.int im) (.int sT) v22 (.int hT) v24 v25 v26 v27 H.size ) (cwV 1 hts g_m_readHold_m_mustw_224 rfl rfl rfl (by decide +kernel) ⟨(Nat.le_of_ble_eq_true rfl), (Nat.le_of_ble_eq_true rfl)⟩) ⟨preM_blind, va_recv hKc hPc (ci := 7) (q0 := 0) rfl rfl, fun U hU hW => ⟨rfl, preM_at hU hW hPc hKc hDc hev⟩⟩ rfl rfl hl.1 rfl (lv_room (Nat.le_of_ble_eq_true rfl)) dX9_readHold_65 ⟨(Nat.le_of_ble_eq_true rfl), (Nat.le_of_ble_eq_true rfl)⟩) hS (fun q _ h => hFc q h) hFc (fun u t H1 locs ht hvm hw hB hz1 hk1 hS => ?_)
          obtain ⟨hP1, hK1, hD1⟩ := hB
          rw [ht] at hP1
          have hK1 := va_K.moved hvm.symm hK1
          obtain ⟨hP, hD⟩ := va_join (wr := [(e0, .inl (ec, 120, .inl ef)), (y0, .inl (yc, 360, .inl yf)), (z0, .inl (zc, 120, .inr (.inl gf)))]) (w1 := [(h0, .inr (7, [v0, v1, v2, v3, v4, v5, v6, v7, v8, v9, .ref e0, .int ts, .int bg, .int en, .int so, .int va, .int 1, v17, .ref y0, .ref z0, .int im, .int sT, v22, .int hT, v24, v25, v26, v27]))]) hP hD [3] [0, 1, 2] rfl rfl (by decide) (by decide) hk1 hFc hP1 hD1
          generalize H1 = H at hP hS ⊢
          have hP : va_P (dC, dI) vwCl [(e0, .inl (ec, 120, .inl ef)), (y0, .inl (yc, 360, .inl yf)), (z0, .inl (zc, 120, .inr (.inl gf))), (h0, .inr (7, [v0, v1, v2, v3, v4, v5, v6, v7, v8, v9, .ref e0, .int ts, .int bg, .int en, .int so, .int va, .int 1, v17, .ref y0, .ref z0, .int im, .int sT, v22, .int hT, v24, v25, v26, v27]))] H := hP
          have hD : va_D A [(e0, .inl (ec, 120, .inl ef)), (y0, .inl (yc, 360, .inl yf)), (z0, .inl (zc, 120, .inr (.inl gf))), (h0, .inr (7, [v0, v1, v2, v3, v4, v5, v6, v7, v8, v9, .ref e0, .int ts, .int bg, .int en, .int so, .int va, .int 1, v17, .ref y0, .ref z0, .int im, .int sT, v22, .int hT, v24, v25, v26, v27]))] := hD
          refine lv_aload_n hx hb dX9_readHold_68 rfl (lv_at hl 1 rfl) ?_
          refine lv_dup hx hb dX9_readHold_69 rfl ?_
          refine va_get (D := (dC, dI)) (ci := 7) (v := .int hT) (C := RX9) (T := TX9) (N := 28) hx hb hts inX9 hown hK hP 3 rfl rfl 23 (by decide) (hts _ (List.mem_of_getElem? (i := 1) rfl)) (fun _ h9 => h9) rfl dX9_readHold_70 ?_
          refine lv_aload_n hx hb dX9_readHold_73 rfl (lv_at hl 1 rfl) ?_
          refine va_get (D := (dC, dI)) (ci := 7) (v := .int 1) (C := RX9) (T := TX9) (N := 28) hx hb hts inX9 hown hK hP 3 rfl rfl 16 (by decide) (hts _ (List.mem_of_getElem? (i := 10) rfl)) (fun _ h9 => h9) rfl dX9_readHold_74 ?_
          refine lv_if_eq (tgt := 84) hx hb dX9_readHold_77 (by decide) (fun c => absurd c (by decide)) (fun _ => ?_)
          refine lv_iconst (v := 0) hx hb dX9_readHold_80 (by decide) ?_
          refine lv_goto (tgt := 87) hx hb dX9_readHold_81 (by decide) ?_
          refine lv_ior hx hb dX9_readHold_87 ?_
          refine lv_topi (fun n_130 en_130 => ?_)
          have tn_130 : n_130.toInt = hT.toInt := by rw [pp_or0 en_130]
          refine va_put (D := (dC, dI)) (ci := 7) (v := .int n_130) (ty := .int) (C := RX9) (T := TX9) (N := 28) hx hb hts inX9 tyX9 tyX9_ok nmX9 hown hK hP hD hS 3 rfl rfl 23 (by decide) (hts _ (List.mem_of_getElem? (i := 1) rfl)) (fun _ h9 => h9) rfl (by decide +kernel) rfl rfl (Nat.le_of_ble_eq_true rfl) dX9_readHold_88 (fun H locs hP hD hS => ?_)
          have hP : va_P (dC, dI) vwCl [(e0, .inl (ec, 120, .inl ef)), (y0, .inl (yc, 360, .inl yf)), (z0, .inl (zc, 120, .inr (.inl gf))), (h0, .inr (7, [v0, v1, v2, v3, v4, v5, v6, v7, v8, v9, .ref e0, .int ts, .int bg, .int en, .int so, .int va, .int 1, v17, .ref y0, .ref z0, .int im, .int sT, v22, .int n_130, v24, v25, v26, v27]))] H := hP
          have hD : va_D A [(e0, .inl (ec, 120, .inl ef)), (y0, .inl (yc, 360, .inl yf)), (z0, .inl (zc, 120, .inr (.inl gf))), (h0, .inr (7, [v0, v1, v2, v3, v4, v5, v6, v7, v8, v9, .ref e0, .int ts, .int bg, .int en, .int so, .int va, .int 1, v17, .ref y0, .ref z0, .int im, .int sT, v22, .int n_130, v24, v25, v26, v27]))] := hD
          refine lv_aload_n hx hb dX9_readHold_91 rfl (lv_at hl 1 rfl) ?_
          refine va_ldcSw (tx := "near") (q := ad 21) hx hb hown (ev_str hev 21 rfl) dX9_readHold_92 ?_
          refine lv_iconst (v := 1) hx hb dX9_readHold_95 (by decide) ?_
          refine lv_iconst (v := 2) hx hb dX9_readHold_96 (by decide) ?_
          have hPc := hP.sub (ws' := [(h0, .inr (7, [v0, v1, v2, v3, v4, v5, v6, v7, v8, v9, .ref e0, .int ts, .int bg, .int en, .int so, .int va, .int 1, v17, .ref y0, .ref z0, .int im, .int sT, v22, .int n_130, v24, v25, v26, v27])), (e0, .inl (ec, 120, .inl ef))]) [3, 0] rfl
          have hKc := hK.sub (tys' := [(ec, .int)]) [0] rfl
          have hDc := hD.sub (ws' := [(h0, .inr (7, [v0, v1, v2, v3, v4, v5, v6, v7, v8, v9, .ref e0, .int ts, .int bg, .int en, .int so, .int va, .int 1, v17, .ref y0, .ref z0, .int im, .int sT, v22, .int n_130, v24, v25, v26, v27])), (e0, .inl (ec, 120, .inl ef))]) [3, 0] (by decide) rfl
          have hFc := va_free (wc := [(h0, .inr (7, [v0, v1, v2, v3, v4, v5, v6, v7, v8, v9, .ref e0, .int ts, .int bg, .int en, .int so, .int va, .int 1, v17, .ref y0, .ref z0, .int im, .int sT, v22, .int n_130, v24, v25, v26, v27])), (e0, .inl (ec, 120, .inl ef))]) hD hS hA [3, 0] rfl
          refine va_calli (va_runV (As := [.ref (ad 21), .int 1, .int 2]) (rest := []) ⟨hx, hb, hml, hown, hts⟩ (m_after l dC dI ad h0 21 1 2 v0 v1 v2 v3 v4 v5 v6 v7 v8 v9 e0 ts bg en so va 1 v17 (.ref y0) (.ref z0) (.int im) (.int sT) v22 (.int n_130) v24 v25 v26 v27 ec ef H.size (by decide) htm hlx hso hva) (cwV 3 hts g_m_readHold_m_after_270 rfl rfl rfl (by decide +kernel) ⟨(Nat.le_of_ble_eq_true rfl), (Nat.le_of_ble_eq_true rfl)⟩) ⟨preT_blind, va_recv hKc hPc (ci := 7) (q0 := 0) rfl rfl, fun U hU hW => ⟨rfl, preM_at hU hW hPc hKc hDc hev, sf_at hsf hS hFc hU hW⟩⟩ rfl rfl hl.1 rfl (lv_room (Nat.le_of_ble_eq_true rfl)) dX9_readHold_97 ⟨(Nat.le_of_ble_eq_true rfl), (Nat.le_of_ble_eq_true rfl)⟩) hS (fun q _ h => hFc q h) hFc (fun r_131 u t H1 locs ht hvm hw hB hz1 hk1 hS => ?_)
          obtain ⟨bg_132, en_133, so_134, va_135, iw_136, hq_137, hq_138, hq_139, hq_140, hq_141, hP1, hK1, hD1⟩ := hB
          rw [ht] at hP1
          have hK1 := va_K.moved hvm.symm hK1
          obtain ⟨hP, hD⟩ := va_join (wr := [(y0, .inl (yc, 360, .inl yf)), (z0, .inl (zc, 120, .inr (.inl gf)))]) (w1 := [(h0, .inr (7, [v0, v1, v2, v3, v4, v5, v6, v7, v8, v9, .ref e0, .int ts, .int bg_132, .int en_133, .int so_134, .int va_135, .int iw_136, v17, .ref y0, .ref z0, .int im, .int sT, v22, .int n_130, v24, v25, v26, v27])), (e0, .inl (ec, 120, .inl ef))]) hP hD [3, 0] [1, 2] rfl rfl (by decide) (by decide) hk1 hFc hP1 hD1
          generalize H1 = H at hP hS ⊢
          have hP : va_P (dC, dI) vwCl [(y0, .inl (yc, 360, .inl yf)), (z0, .inl (zc, 120, .inr (.inl gf))), (h0, .inr (7, [v0, v1, v2, v3, v4, v5, v6, v7, v8, v9, .ref e0, .int ts, .int bg_132, .int en_133, .int so_134, .int va_135, .int iw_136, v17, .ref y0, .ref z0, .int im, .int sT, v22, .int n_130, v24, v25, v26, v27])), (e0, .inl (ec, 120, .inl ef))] H := hP
          have hD : va_D A [(y0, .inl (yc, 360, .inl yf)), (z0, .inl (zc, 120, .inr (.inl gf))), (h0, .inr (7, [v0, v1, v2, v3, v4, v5, v6, v7, v8, v9, .ref e0, .int ts, .int bg_132, .int en_133, .int so_134, .int va_135, .int iw_136, v17, .ref y0, .ref z0, .int im, .int sT, v22, .int n_130, v24, v25, v26, v27])), (e0, .inl (ec, 120, .inl ef))] := hD
          have hq_141 : iw_136.toInt = 0 → (1 : Int) = 0 ∧ bg.toInt ≤ bg_132.toInt := hq_141
          refine lv_istore_n (lv' := [(2, .int r_131), (1, .int va), (0, .ref h0)]) hx hb dX9_readHold_100 rfl hl (by decide) rfl (fun ls hl => ?_)
          refine lv_aload_n hx hb dX9_readHold_101 rfl (lv_at hl 2 rfl) ?_
          refine va_ldcSw (tx := "turn") (q := ad 22) hx hb hown (ev_str hev 22 rfl) dX9_readHold_102 ?_
          refine lv_iconst (v := 0) hx hb dX9_readHold_105 (by decide) ?_
          refine lv_iconst (v := 3) hx hb dX9_readHold_106 (by decide) ?_
          have hPc := hP.sub (ws' := [(h0, .inr (7, [v0, v1, v2, v3, v4, v5, v6, v7, v8, v9, .ref e0, .int ts, .int bg_132, .int en_133, .int so_134, .int va_135, .int iw_136, v17, .ref y0, .ref z0, .int im, .int sT, v22, .int n_130, v24, v25, v26, v27])), (e0, .inl (ec, 120, .inl ef))]) [2, 3] rfl
          have hKc := hK.sub (tys' := [(ec, .int)]) [0] rfl
          have hDc := hD.sub (ws' := [(h0, .inr (7, [v0, v1, v2, v3, v4, v5, v6, v7, v8, v9, .ref e0, .int ts, .int bg_132, .int en_133, .int so_134, .int va_135, .int iw_136, v17, .ref y0, .ref z0, .int im, .int sT, v22, .int n_130, v24, v25, v26, v27])), (e0, .inl (ec, 120, .inl ef))]) [2, 3] (by decide) rfl
          have hFc := va_free (wc := [(h0, .inr (7, [v0, v1, v2, v3, v4, v5, v6, v7, v8, v9, .ref e0, .int ts, .int bg_132, .int en_133, .int so_134, .int va_135, .int iw_136, v17, .ref y0, .ref z0, .int im, .int sT, v22, .int n_130, v24, v25, v26, v27])), (e0, .inl (ec, 120, .inl ef))]) hD hS hA [2, 3] rfl
          refine va_calli (va_runV (As := [.ref (ad 22), .int 0, .int 3]) (rest := []) ⟨hx, hb, hml, hown, hts⟩ (m_after l dC dI ad h0 22 0 3 v0 v1 v2 v3 v4 v5 v6 v7 v8 v9 e0 ts bg_132 en_133 so_134 va_135 iw_136 v17 (.ref y0) (.ref z0) (.int im) (.int sT) v22 (.int n_130) v24 v25 v26 v27 ec ef H.size (by decide) htm hq_137 hq_138 hq_139) (cwV 3 hts g_m_readHold_m_after_270 rfl rfl rfl (by decide +kernel) ⟨(Nat.le_of_ble_eq_true rfl), (Nat.le_of_ble_eq_true rfl)⟩) ⟨preT_blind, va_recv hKc hPc (ci := 7) (q0 := 0) rfl rfl, fun U hU hW => ⟨rfl, preM_at hU hW hPc hKc hDc hev, sf_at hsf hS hFc hU hW⟩⟩ rfl rfl hl.1 rfl (lv_room (Nat.le_of_ble_eq_true rfl)) dX9_readHold_107 ⟨(Nat.le_of_ble_eq_true rfl), (Nat.le_of_ble_eq_true rfl)⟩) hS (fun q _ h => hFc q h) hFc (fun r_142 u t H1 locs ht hvm hw hB hz1 hk1 hS => ?_)
          obtain ⟨bg_143, en_144, so_145, va_146, iw_147, hq_148, hq_149, hq_150, hq_151, hq_152, hP1, hK1, hD1⟩ := hB
          rw [ht] at hP1
          have hK1 := va_K.moved hvm.symm hK1
          obtain ⟨hP, hD⟩ := va_join (wr := [(y0, .inl (yc, 360, .inl yf)), (z0, .inl (zc, 120, .inr (.inl gf)))]) (w1 := [(h0, .inr (7, [v0, v1, v2, v3, v4, v5, v6, v7, v8, v9, .ref e0, .int ts, .int bg_143, .int en_144, .int so_145, .int va_146, .int iw_147, v17, .ref y0, .ref z0, .int im, .int sT, v22, .int n_130, v24, v25, v26, v27])), (e0, .inl (ec, 120, .inl ef))]) hP hD [2, 3] [0, 1] rfl rfl (by decide) (by decide) hk1 hFc hP1 hD1
          generalize H1 = H at hP hS ⊢
          have hP : va_P (dC, dI) vwCl [(y0, .inl (yc, 360, .inl yf)), (z0, .inl (zc, 120, .inr (.inl gf))), (h0, .inr (7, [v0, v1, v2, v3, v4, v5, v6, v7, v8, v9, .ref e0, .int ts, .int bg_143, .int en_144, .int so_145, .int va_146, .int iw_147, v17, .ref y0, .ref z0, .int im, .int sT, v22, .int n_130, v24, v25, v26, v27])), (e0, .inl (ec, 120, .inl ef))] H := hP
          have hD : va_D A [(y0, .inl (yc, 360, .inl yf)), (z0, .inl (zc, 120, .inr (.inl gf))), (h0, .inr (7, [v0, v1, v2, v3, v4, v5, v6, v7, v8, v9, .ref e0, .int ts, .int bg_143, .int en_144, .int so_145, .int va_146, .int iw_147, v17, .ref y0, .ref z0, .int im, .int sT, v22, .int n_130, v24, v25, v26, v27])), (e0, .inl (ec, 120, .inl ef))] := hD
          refine lv_istore_n (lv' := [(3, .int r_142), (2, .int r_131), (1, .int va), (0, .ref h0)]) hx hb dX9_readHold_110 rfl hl (by decide) rfl (fun ls hl => ?_)
          refine lv_aload_n hx hb dX9_readHold_111 rfl (lv_at hl 3 rfl) ?_
          refine va_ldcSw (tx := "at") (q := ad 23) hx hb hown (ev_str hev 23 rfl) dX9_readHold_112 ?_
          refine lv_iconst (v := 0) hx hb dX9_readHold_115 (by decide) ?_
          refine lv_bipush (v := 7) hx hb dX9_readHold_116 (by decide) ?_
          have hPc := hP.sub (ws' := [(h0, .inr (7, [v0, v1, v2, v3, v4, v5, v6, v7, v8, v9, .ref e0, .int ts, .int bg_143, .int en_144, .int so_145, .int va_146, .int iw_147, v17, .ref y0, .ref z0, .int im, .int sT, v22, .int n_130, v24, v25, v26, v27])), (e0, .inl (ec, 120, .inl ef))]) [2, 3] rfl
          have hKc := hK.sub (tys' := [(ec, .int)]) [0] rfl
          have hDc := hD.sub (ws' := [(h0, .inr (7, [v0, v1, v2, v3, v4, v5, v6, v7, v8, v9, .ref e0, .int ts, .int bg_143, .int en_144, .int so_145, .int va_146, .int iw_147, v17, .ref y0, .ref z0, .int im, .int sT, v22, .int n_130, v24, v25, v26, v27])), (e0, .inl (ec, 120, .inl ef))]) [2, 3] (by decide) rfl
          have hFc := va_free (wc := [(h0, .inr (7, [v0, v1, v2, v3, v4, v5, v6, v7, v8, v9, .ref e0, .int ts, .int bg_143, .int en_144, .int so_145, .int va_146, .int iw_147, v17, .ref y0, .ref z0, .int im, .int sT, v22, .int n_130, v24, v25, v26, v27])), (e0, .inl (ec, 120, .inl ef))]) hD hS hA [2, 3] rfl
          refine va_calli (va_runV (As := [.ref (ad 23), .int 0, .int 7]) (rest := []) ⟨hx, hb, hml, hown, hts⟩ (m_after l dC dI ad h0 23 0 7 v0 v1 v2 v3 v4 v5 v6 v7 v8 v9 e0 ts bg_143 en_144 so_145 va_146 iw_147 v17 (.ref y0) (.ref z0) (.int im) (.int sT) v22 (.int n_130) v24 v25 v26 v27 ec ef H.size (by decide) htm hq_148 hq_149 hq_150) (cwV 3 hts g_m_readHold_m_after_270 rfl rfl rfl (by decide +kernel) ⟨(Nat.le_of_ble_eq_true rfl), (Nat.le_of_ble_eq_true rfl)⟩) ⟨preT_blind, va_recv hKc hPc (ci := 7) (q0 := 0) rfl rfl, fun U hU hW => ⟨rfl, preM_at hU hW hPc hKc hDc hev, sf_at hsf hS hFc hU hW⟩⟩ rfl rfl hl.1 rfl (lv_room (Nat.le_of_ble_eq_true rfl)) dX9_readHold_118 ⟨(Nat.le_of_ble_eq_true rfl), (Nat.le_of_ble_eq_true rfl)⟩) hS (fun q _ h => hFc q h) hFc (fun r_153 u t H1 locs ht hvm hw hB hz1 hk1 hS => ?_)
          obtain ⟨bg_154, en_155, so_156, va_157, iw_158, hq_159, hq_160, hq_161, hq_162, hq_163, hP1, hK1, hD1⟩ := hB
          rw [ht] at hP1
          have hK1 := va_K.moved hvm.symm hK1
          obtain ⟨hP, hD⟩ := va_join (wr := [(y0, .inl (yc, 360, .inl yf)), (z0, .inl (zc, 120, .inr (.inl gf)))]) (w1 := [(h0, .inr (7, [v0, v1, v2, v3, v4, v5, v6, v7, v8, v9, .ref e0, .int ts, .int bg_154, .int en_155, .int so_156, .int va_157, .int iw_158, v17, .ref y0, .ref z0, .int im, .int sT, v22, .int n_130, v24, v25, v26, v27])), (e0, .inl (ec, 120, .inl ef))]) hP hD [2, 3] [0, 1] rfl rfl (by decide) (by decide) hk1 hFc hP1 hD1
          generalize H1 = H at hP hS ⊢
          have hP : va_P (dC, dI) vwCl [(y0, .inl (yc, 360, .inl yf)), (z0, .inl (zc, 120, .inr (.inl gf))), (h0, .inr (7, [v0, v1, v2, v3, v4, v5, v6, v7, v8, v9, .ref e0, .int ts, .int bg_154, .int en_155, .int so_156, .int va_157, .int iw_158, v17, .ref y0, .ref z0, .int im, .int sT, v22, .int n_130, v24, v25, v26, v27])), (e0, .inl (ec, 120, .inl ef))] H := hP
          have hD : va_D A [(y0, .inl (yc, 360, .inl yf)), (z0, .inl (zc, 120, .inr (.inl gf))), (h0, .inr (7, [v0, v1, v2, v3, v4, v5, v6, v7, v8, v9, .ref e0, .int ts, .int bg_154, .int en_155, .int so_156, .int va_157, .int iw_158, v17, .ref y0, .ref z0, .int im, .int sT, v22, .int n_130, v24, v25, v26, v27])), (e0, .inl (ec, 120, .inl ef))] := hD
          refine lv_istore (lv' := [(4, .int r_153), (3, .int r_142), (2, .int r_131), (1, .int va), (0, .ref h0)]) hx hb dX9_readHold_121 hl (by decide) rfl (fun ls hl => ?_)
          refine lv_aload_n hx hb dX9_readHold_123 rfl (lv_at hl 4 rfl) ?_
          refine lv_bipush (v := 11) hx hb dX9_readHold_124 (by decide) ?_
          refine lv_iload_n hx hb dX9_readHold_126 rfl (lv_at hl 3 rfl) ?_
          refine lv_sipush (v := 1000) hx hb dX9_readHold_127 (by decide) ?_
          refine lv_iconst (v := 4) hx hb dX9_readHold_130 (by decide) ?_
          refine lv_iload_n hx hb dX9_readHold_131 rfl (lv_at hl 2 rfl) ?_
          refine lv_imul hx hb dX9_readHold_132 ?_
          refine lv_topi (fun n_164 en_164 => ?_)
          refine lv_iload_n hx hb dX9_readHold_133 rfl (lv_at hl 1 rfl) ?_
          refine lv_iadd hx hb dX9_readHold_134 ?_
          refine lv_topi (fun n_165 en_165 => ?_)
          refine lv_imul hx hb dX9_readHold_135 ?_
          refine lv_topi (fun n_166 en_166 => ?_)
          refine lv_bipush (v := 10) hx hb dX9_readHold_136 (by decide) ?_
          refine lv_iload hx hb dX9_readHold_138 (lv_at hl 0 rfl) ?_
          refine lv_imul hx hb dX9_readHold_140 ?_
          refine lv_topi (fun n_167 en_167 => ?_)
          refine lv_iadd hx hb dX9_readHold_141 ?_
          refine lv_topi (fun n_168 en_168 => ?_)
          refine lv_aload_n hx hb dX9_readHold_142 rfl (lv_at hl 4 rfl) ?_
          refine lv_iconst (v := 0) hx hb dX9_readHold_143 (by decide) ?_
          refine lv_bipush (v := 7) hx hb dX9_readHold_144 (by decide) ?_
          have hPc := hP.sub (ws' := [(h0, .inr (7, [v0, v1, v2, v3, v4, v5, v6, v7, v8, v9, .ref e0, .int ts, .int bg_154, .int en_155, .int so_156, .int va_157, .int iw_158, v17, .ref y0, .ref z0, .int im, .int sT, v22, .int n_130, v24, v25, v26, v27])), (e0, .inl (ec, 120, .inl ef))]) [2, 3] rfl
          have hKc := hK.sub (tys' := [(ec, .int)]) [0] rfl
          have hDc := hD.sub (ws' := [(h0, .inr (7, [v0, v1, v2, v3, v4, v5, v6, v7, v8, v9, .ref e0, .int ts, .int bg_154, .int en_155, .int so_156, .int va_157, .int iw_158, v17, .ref y0, .ref z0, .int im, .int sT, v22, .int n_130, v24, v25, v26, v27])), (e0, .inl (ec, 120, .inl ef))]) [2, 3] (by decide) rfl
          have hFc := va_free (wc := [(h0, .inr (7, [v0, v1, v2, v3, v4, v5, v6, v7, v8, v9, .ref e0, .int ts, .int bg_154, .int en_155, .int so_156, .int va_157, .int iw_158, v17, .ref y0, .ref z0, .int im, .int sT, v22, .int n_130, v24, v25, v26, v27])), (e0, .inl (ec, 120, .inl ef))]) hD hS hA [2, 3] rfl
          refine va_calli (va_runV (As := [.int 0, .int 7]) (rest := [.int n_168, .int va, .int 11, .ref h0]) ⟨hx, hb, hml, hown, hts⟩ (m_number l dC dI ad h0 0 7 v0 v1 v2 v3 v4 v5 v6 v7 v8 v9 e0 ts bg_154 en_155 so_156 va_157 iw_158 v17 (.ref y0) (.ref z0) (.int im) (.int sT) v22 (.int n_130) v24 v25 v26 v27 ec ef H.size htm hq_159 hq_160 hq_161) (cwV 2 hts g_m_readHold_m_number_235 rfl rfl rfl (by decide +kernel) ⟨(Nat.le_of_ble_eq_true rfl), (Nat.le_of_ble_eq_true rfl)⟩) ⟨preM_blind, va_recv hKc hPc (ci := 7) (q0 := 0) rfl rfl, fun U hU hW => ⟨rfl, preM_at hU hW hPc hKc hDc hev⟩⟩ rfl rfl hl.1 rfl (lv_room (Nat.le_of_ble_eq_true rfl)) dX9_readHold_146 ⟨(Nat.le_of_ble_eq_true rfl), (Nat.le_of_ble_eq_true rfl)⟩) hS (fun q _ h => hFc q h) hFc (fun r_169 u t H1 locs ht hvm hw hB hz1 hk1 hS => ?_)
          obtain ⟨bg_170, en_171, so_172, va_173, iw_174, hq_175, hq_176, hq_177, hq_178, hq_179, hP1, hK1, hD1⟩ := hB
          rw [ht] at hP1
          have hK1 := va_K.moved hvm.symm hK1
          obtain ⟨hP, hD⟩ := va_join (wr := [(y0, .inl (yc, 360, .inl yf)), (z0, .inl (zc, 120, .inr (.inl gf)))]) (w1 := [(h0, .inr (7, [v0, v1, v2, v3, v4, v5, v6, v7, v8, v9, .ref e0, .int ts, .int bg_170, .int en_171, .int so_172, .int va_173, .int iw_174, v17, .ref y0, .ref z0, .int im, .int sT, v22, .int n_130, v24, v25, v26, v27])), (e0, .inl (ec, 120, .inl ef))]) hP hD [2, 3] [0, 1] rfl rfl (by decide) (by decide) hk1 hFc hP1 hD1
          generalize H1 = H at hP hS ⊢
          have hP : va_P (dC, dI) vwCl [(y0, .inl (yc, 360, .inl yf)), (z0, .inl (zc, 120, .inr (.inl gf))), (h0, .inr (7, [v0, v1, v2, v3, v4, v5, v6, v7, v8, v9, .ref e0, .int ts, .int bg_170, .int en_171, .int so_172, .int va_173, .int iw_174, v17, .ref y0, .ref z0, .int im, .int sT, v22, .int n_130, v24, v25, v26, v27])), (e0, .inl (ec, 120, .inl ef))] H := hP
          have hD : va_D A [(y0, .inl (yc, 360, .inl yf)), (z0, .inl (zc, 120, .inr (.inl gf))), (h0, .inr (7, [v0, v1, v2, v3, v4, v5, v6, v7, v8, v9, .ref e0, .int ts, .int bg_170, .int en_171, .int so_172, .int va_173, .int iw_174, v17, .ref y0, .ref z0, .int im, .int sT, v22, .int n_130, v24, v25, v26, v27])), (e0, .inl (ec, 120, .inl ef))] := hD
          have hr_169 : r_169.toInt = va_157.toInt := hw
          have hq_179 : iw_174.toInt = 0 → iw_158.toInt = 0 ∧ (0 : Int) ≤ va_157.toInt ∧ va_157.toInt ≤ (7 : Int) ∧ en_155.toInt ≤ bg_170.toInt := hq_179
          refine lv_iadd hx hb dX9_readHold_149 ?_
          refine lv_topi (fun n_180 en_180 => ?_)
          refine lv_lconst (v := 0) hx hb dX9_readHold_150 (by decide) ?_
          have hPc := hP.sub (ws' := [(h0, .inr (7, [v0, v1, v2, v3, v4, v5, v6, v7, v8, v9, .ref e0, .int ts, .int bg_170, .int en_171, .int so_172, .int va_173, .int iw_174, v17, .ref y0, .ref z0, .int im, .int sT, v22, .int n_130, v24, v25, v26, v27])), (y0, .inl (yc, 360, .inl yf)), (z0, .inl (zc, 120, .inr (.inl gf)))]) [2, 0, 1] rfl
          have hKc := hK.sub (tys' := [(yc, .int), (zc, .long)]) [1, 2] rfl
          have hDc := hD.sub (ws' := [(h0, .inr (7, [v0, v1, v2, v3, v4, v5, v6, v7, v8, v9, .ref e0, .int ts, .int bg_170, .int en_171, .int so_172, .int va_173, .int iw_174, v17, .ref y0, .ref z0, .int im, .int sT, v22, .int n_130, v24, v25, v26, v27])), (y0, .inl (yc, 360, .inl yf)), (z0, .inl (zc, 120, .inr (.inl gf)))]) [2, 0, 1] (by decide) rfl
          have hFc := va_free (wc := [(h0, .inr (7, [v0, v1, v2, v3, v4, v5, v6, v7, v8, v9, .ref e0, .int ts, .int bg_170, .int en_171, .int so_172, .int va_173, .int iw_174, v17, .ref y0, .ref z0, .int im, .int sT, v22, .int n_130, v24, v25, v26, v27])), (y0, .inl (yc, 360, .inl yf)), (z0, .inl (zc, 120, .inr (.inl gf)))]) hD hS hA [2, 0, 1] rfl
          refine va_callv (va_runV (As := [.int 11, .int va, .int n_180, .long 0]) (rest := []) ⟨hx, hb, hml, hown, hts⟩ (m_item l dC dI ad h0 11 va n_180 0 v0 v1 v2 v3 v4 v5 v6 v7 v8 v9 (.ref e0) (.int ts) (.int bg_170) (.int en_171) (.int so_172) (.int va_173) (.int iw_174) v17 y0 z0 im (.int sT) v22 (.int n_130) v24 v25 v26 v27 yc yf zc gf H.size him) (cwV 4 hts g_m_readHold_m_item_247 rfl rfl rfl (by decide +kernel) ⟨(Nat.le_of_ble_eq_true rfl), (Nat.le_of_ble_eq_true rfl)⟩) ⟨preM_blind, va_recv hKc hPc (ci := 7) (q0 := 0) rfl rfl, fun U hU hW => ⟨rfl, preM_at hU hW hPc hKc hDc hev⟩⟩ rfl rfl hl.1 rfl (lv_room (Nat.le_of_ble_eq_true rfl)) dX9_readHold_151 ⟨(Nat.le_of_ble_eq_true rfl), (Nat.le_of_ble_eq_true rfl)⟩) hS (fun q _ h => hFc q h) hFc (fun u t H1 locs ht hvm hw hB hz1 hk1 hS => ?_)
          obtain ⟨im_182, yg_183, gg_184, hq_185, hq_186, hP1, hK1, hD1⟩ := hB
          rw [ht] at hP1
          have hK1 := va_K.moved hvm.symm hK1
          obtain ⟨hP, hD⟩ := va_join (wr := [(e0, .inl (ec, 120, .inl ef))]) (w1 := [(h0, .inr (7, [v0, v1, v2, v3, v4, v5, v6, v7, v8, v9, .ref e0, .int ts, .int bg_170, .int en_171, .int so_172, .int va_173, .int iw_174, v17, .ref y0, .ref z0, .int im_182, .int sT, v22, .int n_130, v24, v25, v26, v27])), (y0, .inl (yc, 360, .inl yg_183)), (z0, .inl (zc, 120, .inr (.inl gg_184)))]) hP hD [2, 0, 1] [3] rfl rfl (by decide) (by decide) hk1 hFc hP1 hD1
          generalize H1 = H at hP hS ⊢
          have hP : va_P (dC, dI) vwCl [(e0, .inl (ec, 120, .inl ef)), (h0, .inr (7, [v0, v1, v2, v3, v4, v5, v6, v7, v8, v9, .ref e0, .int ts, .int bg_170, .int en_171, .int so_172, .int va_173, .int iw_174, v17, .ref y0, .ref z0, .int im_182, .int sT, v22, .int n_130, v24, v25, v26, v27])), (y0, .inl (yc, 360, .inl yg_183)), (z0, .inl (zc, 120, .inr (.inl gg_184)))] H := hP
          have hD : va_D A [(e0, .inl (ec, 120, .inl ef)), (h0, .inr (7, [v0, v1, v2, v3, v4, v5, v6, v7, v8, v9, .ref e0, .int ts, .int bg_170, .int en_171, .int so_172, .int va_173, .int iw_174, v17, .ref y0, .ref z0, .int im_182, .int sT, v22, .int n_130, v24, v25, v26, v27])), (y0, .inl (yc, 360, .inl yg_183)), (z0, .inl (zc, 120, .inr (.inl gg_184)))] := hD
          have hP9 := hP.sub (ws' := [(h0, .inr (7, [v0, v1, v2, v3, v4, v5, v6, v7, v8, v9, .ref e0, .int ts, .int bg_170, .int en_171, .int so_172, .int va_173, .int iw_174, v17, .ref y0, .ref z0, .int im_182, .int sT, v22, .int n_130, v24, v25, v26, v27])), (e0, .inl (ec, 120, .inl ef)), (y0, .inl (yc, 360, .inl yg_183)), (z0, .inl (zc, 120, .inr (.inl gg_184)))]) [1, 0, 2, 3] rfl
          have hD9 := hD.sub (ws' := [(h0, .inr (7, [v0, v1, v2, v3, v4, v5, v6, v7, v8, v9, .ref e0, .int ts, .int bg_170, .int en_171, .int so_172, .int va_173, .int iw_174, v17, .ref y0, .ref z0, .int im_182, .int sT, v22, .int n_130, v24, v25, v26, v27])), (e0, .inl (ec, 120, .inl ef)), (y0, .inl (yc, 360, .inl yg_183)), (z0, .inl (zc, 120, .inr (.inl gg_184)))]) [1, 0, 2, 3] (by decide) rfl
          have hK9 := hK.sub (tys' := [(ec, .int), (yc, .int), (zc, .long)]) [0, 1, 2] rfl
          exact W.vret hx hb hr (fun t ht hW => ⟨⟨(), rfl, trivial, bg_170, en_171, so_172, va_173, iw_174, n_130, im_182, yg_183, gg_184, hq_175, hq_176, hq_177, hq_178, (by first | omega | decide | (simp only [fa_lt, fa_le, fa_eq, and_true, true_and, and_false, false_and, not_true_eq_false, not_false_eq_true, li_0, li_1, li_2, li_3, li_4, li_5, li_6, li_7, li_8, li_9, li_10, li_12, li_15, li_16, li_20, li_30, li_34, li_38, li_40, li_63, li_64, li_65, li_78, li_120, li_1000, li_4000, li_10000, li_11077, li_255, li_65535, li_m1, li_m2, li_m1000000001, li_m1000000002, li_m1000000003, li_m1000000004, li_m1000000005, li_m1000000006, li_m1000000007, or_true, true_or, or_false, false_or, implies_true, true_implies, false_implies] <;> omega)), hq_185, (fun hz cc => absurd hz (by first | omega | decide)), by rw [ht]; exact hP9, va_K.moved hW.alike hK9, hD9⟩, hS.F ht⟩) hS.2.2 dX9_readHold_154
        · skip
          have tc_128 : n_127.toInt = 0 := (fa_eq _ _).mp c_128
          refine lv_iconst (v := 1) hx hb dX9_readHold_60 (by decide) ?_
          refine lv_goto (tgt := 65) hx hb dX9_readHold_61 (by decide) ?_
          have hPc := hP.sub (ws' := [(h0, .inr (7, [v0, v1, v2, v3, v4, v5, v6, v7, v8, v9, .ref e0, .int ts, .int bg, .int en, .int so, .int va, .int 1, v17, .ref y0, .ref z0, .int im, .int sT, v22, .int hT, v24, v25, v26, v27]))]) [3] rfl
          have hKc := hK.sub (tys' := []) [] rfl
          have hDc := hD.sub (ws' := [(h0, .inr (7, [v0, v1, v2, v3, v4, v5, v6, v7, v8, v9, .ref e0, .int ts, .int bg, .int en, .int so, .int va, .int 1, v17, .ref y0, .ref z0, .int im, .int sT, v22, .int hT, v24, v25, v26, v27]))]) [3] (by decide) rfl
          have hFc := va_free (wc := [(h0, .inr (7, [v0, v1, v2, v3, v4, v5, v6, v7, v8, v9, .ref e0, .int ts, .int bg, .int en, .int so, .int va, .int 1, v17, .ref y0, .ref z0, .int im, .int sT, v22, .int hT, v24, v25, v26, v27]))]) hD hS hA [3] rfl
          refine va_callv (va_runV (As := [.int 1]) (rest := []) ⟨hx, hb, hml, hown, hts⟩ (m_mustw l dC dI ad h0 1 v0 v1 v2 v3 v4 v5 v6 v7 v8 v9 (.ref e0) (.int ts) (.int bg) (.int en) (.int so) (.int va) v17 (.ref y0) (.ref z0) (.int im) (.int sT) v22 (.int hT) v24 v25 v26 v27 H.size ) (cwV 1 hts g_m_readHold_m_mustw_224 rfl rfl rfl (by decide +kernel) ⟨(Nat.le_of_ble_eq_true rfl), (Nat.le_of_ble_eq_true rfl)⟩) ⟨preM_blind, va_recv hKc hPc (ci := 7) (q0 := 0) rfl rfl, fun U hU hW => ⟨rfl, preM_at hU hW hPc hKc hDc hev⟩⟩ rfl rfl hl.1 rfl (lv_room (Nat.le_of_ble_eq_true rfl)) dX9_readHold_65 ⟨(Nat.le_of_ble_eq_true rfl), (Nat.le_of_ble_eq_true rfl)⟩) hS (fun q _ h => hFc q h) hFc (fun u t H1 locs ht hvm hw hB hz1 hk1 hS => ?_)
          obtain ⟨hP1, hK1, hD1⟩ := hB
          rw [ht] at hP1
          have hK1 := va_K.moved hvm.symm hK1
          obtain ⟨hP, hD⟩ := va_join (wr := [(e0, .inl (ec, 120, .inl ef)), (y0, .inl (yc, 360, .inl yf)), (z0, .inl (zc, 120, .inr (.inl gf)))]) (w1 := [(h0, .inr (7, [v0, v1, v2, v3, v4, v5, v6, v7, v8, v9, .ref e0, .int ts, .int bg, .int en, .int so, .int va, .int 1, v17, .ref y0, .ref z0, .int im, .int sT, v22, .int hT, v24, v25, v26, v27]))]) hP hD [3] [0, 1, 2] rfl rfl (by decide) (by decide) hk1 hFc hP1 hD1
          generalize H1 = H at hP hS ⊢
          have hP : va_P (dC, dI) vwCl [(e0, .inl (ec, 120, .inl ef)), (y0, .inl (yc, 360, .inl yf)), (z0, .inl (zc, 120, .inr (.inl gf))), (h0, .inr (7, [v0, v1, v2, v3, v4, v5, v6, v7, v8, v9, .ref e0, .int ts, .int bg, .int en, .int so, .int va, .int 1, v17, .ref y0, .ref z0, .int im, .int sT, v22, .int hT, v24, v25, v26, v27]))] H := hP
          have hD : va_D A [(e0, .inl (ec, 120, .inl ef)), (y0, .inl (yc, 360, .inl yf)), (z0, .inl (zc, 120, .inr (.inl gf))), (h0, .inr (7, [v0, v1, v2, v3, v4, v5, v6, v7, v8, v9, .ref e0, .int ts, .int bg, .int en, .int so, .int va, .int 1, v17, .ref y0, .ref z0, .int im, .int sT, v22, .int hT, v24, v25, v26, v27]))] := hD
          refine lv_aload_n hx hb dX9_readHold_68 rfl (lv_at hl 1 rfl) ?_
          refine lv_dup hx hb dX9_readHold_69 rfl ?_
          refine va_get (D := (dC, dI)) (ci := 7) (v := .int hT) (C := RX9) (T := TX9) (N := 28) hx hb hts inX9 hown hK hP 3 rfl rfl 23 (by decide) (hts _ (List.mem_of_getElem? (i := 1) rfl)) (fun _ h9 => h9) rfl dX9_readHold_70 ?_
          refine lv_aload_n hx hb dX9_readHold_73 rfl (lv_at hl 1 rfl) ?_
          refine va_get (D := (dC, dI)) (ci := 7) (v := .int 1) (C := RX9) (T := TX9) (N := 28) hx hb hts inX9 hown hK hP 3 rfl rfl 16 (by decide) (hts _ (List.mem_of_getElem? (i := 10) rfl)) (fun _ h9 => h9) rfl dX9_readHold_74 ?_
          refine lv_if_eq (tgt := 84) hx hb dX9_readHold_77 (by decide) (fun c => absurd c (by decide)) (fun _ => ?_)
          refine lv_iconst (v := 0) hx hb dX9_readHold_80 (by decide) ?_
          refine lv_goto (tgt := 87) hx hb dX9_readHold_81 (by decide) ?_
          refine lv_ior hx hb dX9_readHold_87 ?_
          refine lv_topi (fun n_188 en_188 => ?_)
          have tn_188 : n_188.toInt = hT.toInt := by rw [pp_or0 en_188]
          refine va_put (D := (dC, dI)) (ci := 7) (v := .int n_188) (ty := .int) (C := RX9) (T := TX9) (N := 28) hx hb hts inX9 tyX9 tyX9_ok nmX9 hown hK hP hD hS 3 rfl rfl 23 (by decide) (hts _ (List.mem_of_getElem? (i := 1) rfl)) (fun _ h9 => h9) rfl (by decide +kernel) rfl rfl (Nat.le_of_ble_eq_true rfl) dX9_readHold_88 (fun H locs hP hD hS => ?_)
          have hP : va_P (dC, dI) vwCl [(e0, .inl (ec, 120, .inl ef)), (y0, .inl (yc, 360, .inl yf)), (z0, .inl (zc, 120, .inr (.inl gf))), (h0, .inr (7, [v0, v1, v2, v3, v4, v5, v6, v7, v8, v9, .ref e0, .int ts, .int bg, .int en, .int so, .int va, .int 1, v17, .ref y0, .ref z0, .int im, .int sT, v22, .int n_188, v24, v25, v26, v27]))] H := hP
          have hD : va_D A [(e0, .inl (ec, 120, .inl ef)), (y0, .inl (yc, 360, .inl yf)), (z0, .inl (zc, 120, .inr (.inl gf))), (h0, .inr (7, [v0, v1, v2, v3, v4, v5, v6, v7, v8, v9, .ref e0, .int ts, .int bg, .int en, .int so, .int va, .int 1, v17, .ref y0, .ref z0, .int im, .int sT, v22, .int n_188, v24, v25, v26, v27]))] := hD
          refine lv_aload_n hx hb dX9_readHold_91 rfl (lv_at hl 1 rfl) ?_
          refine va_ldcSw (tx := "near") (q := ad 21) hx hb hown (ev_str hev 21 rfl) dX9_readHold_92 ?_
          refine lv_iconst (v := 1) hx hb dX9_readHold_95 (by decide) ?_
          refine lv_iconst (v := 2) hx hb dX9_readHold_96 (by decide) ?_
          have hPc := hP.sub (ws' := [(h0, .inr (7, [v0, v1, v2, v3, v4, v5, v6, v7, v8, v9, .ref e0, .int ts, .int bg, .int en, .int so, .int va, .int 1, v17, .ref y0, .ref z0, .int im, .int sT, v22, .int n_188, v24, v25, v26, v27])), (e0, .inl (ec, 120, .inl ef))]) [3, 0] rfl
          have hKc := hK.sub (tys' := [(ec, .int)]) [0] rfl
          have hDc := hD.sub (ws' := [(h0, .inr (7, [v0, v1, v2, v3, v4, v5, v6, v7, v8, v9, .ref e0, .int ts, .int bg, .int en, .int so, .int va, .int 1, v17, .ref y0, .ref z0, .int im, .int sT, v22, .int n_188, v24, v25, v26, v27])), (e0, .inl (ec, 120, .inl ef))]) [3, 0] (by decide) rfl
          have hFc := va_free (wc := [(h0, .inr (7, [v0, v1, v2, v3, v4, v5, v6, v7, v8, v9, .ref e0, .int ts, .int bg, .int en, .int so, .int va, .int 1, v17, .ref y0, .ref z0, .int im, .int sT, v22, .int n_188, v24, v25, v26, v27])), (e0, .inl (ec, 120, .inl ef))]) hD hS hA [3, 0] rfl
          refine va_calli (va_runV (As := [.ref (ad 21), .int 1, .int 2]) (rest := []) ⟨hx, hb, hml, hown, hts⟩ (m_after l dC dI ad h0 21 1 2 v0 v1 v2 v3 v4 v5 v6 v7 v8 v9 e0 ts bg en so va 1 v17 (.ref y0) (.ref z0) (.int im) (.int sT) v22 (.int n_188) v24 v25 v26 v27 ec ef H.size (by decide) htm hlx hso hva) (cwV 3 hts g_m_readHold_m_after_270 rfl rfl rfl (by decide +kernel) ⟨(Nat.le_of_ble_eq_true rfl), (Nat.le_of_ble_eq_true rfl)⟩) ⟨preT_blind, va_recv hKc hPc (ci := 7) (q0 := 0) rfl rfl, fun U hU hW => ⟨rfl, preM_at hU hW hPc hKc hDc hev, sf_at hsf hS hFc hU hW⟩⟩ rfl rfl hl.1 rfl (lv_room (Nat.le_of_ble_eq_true rfl)) dX9_readHold_97 ⟨(Nat.le_of_ble_eq_true rfl), (Nat.le_of_ble_eq_true rfl)⟩) hS (fun q _ h => hFc q h) hFc (fun r_189 u t H1 locs ht hvm hw hB hz1 hk1 hS => ?_)
          obtain ⟨bg_190, en_191, so_192, va_193, iw_194, hq_195, hq_196, hq_197, hq_198, hq_199, hP1, hK1, hD1⟩ := hB
          rw [ht] at hP1
          have hK1 := va_K.moved hvm.symm hK1
          obtain ⟨hP, hD⟩ := va_join (wr := [(y0, .inl (yc, 360, .inl yf)), (z0, .inl (zc, 120, .inr (.inl gf)))]) (w1 := [(h0, .inr (7, [v0, v1, v2, v3, v4, v5, v6, v7, v8, v9, .ref e0, .int ts, .int bg_190, .int en_191, .int so_192, .int va_193, .int iw_194, v17, .ref y0, .ref z0, .int im, .int sT, v22, .int n_188, v24, v25, v26, v27])), (e0, .inl (ec, 120, .inl ef))]) hP hD [3, 0] [1, 2] rfl rfl (by decide) (by decide) hk1 hFc hP1 hD1
          generalize H1 = H at hP hS ⊢
          have hP : va_P (dC, dI) vwCl [(y0, .inl (yc, 360, .inl yf)), (z0, .inl (zc, 120, .inr (.inl gf))), (h0, .inr (7, [v0, v1, v2, v3, v4, v5, v6, v7, v8, v9, .ref e0, .int ts, .int bg_190, .int en_191, .int so_192, .int va_193, .int iw_194, v17, .ref y0, .ref z0, .int im, .int sT, v22, .int n_188, v24, v25, v26, v27])), (e0, .inl (ec, 120, .inl ef))] H := hP
          have hD : va_D A [(y0, .inl (yc, 360, .inl yf)), (z0, .inl (zc, 120, .inr (.inl gf))), (h0, .inr (7, [v0, v1, v2, v3, v4, v5, v6, v7, v8, v9, .ref e0, .int ts, .int bg_190, .int en_191, .int so_192, .int va_193, .int iw_194, v17, .ref y0, .ref z0, .int im, .int sT, v22, .int n_188, v24, v25, v26, v27])), (e0, .inl (ec, 120, .inl ef))] := hD
          have hq_199 : iw_194.toInt = 0 → (1 : Int) = 0 ∧ bg.toInt ≤ bg_190.toInt := hq_199
          refine lv_istore_n (lv' := [(2, .int r_189), (1, .int va), (0, .ref h0)]) hx hb dX9_readHold_100 rfl hl (by decide) rfl (fun ls hl => ?_)
          refine lv_aload_n hx hb dX9_readHold_101 rfl (lv_at hl 2 rfl) ?_
          refine va_ldcSw (tx := "turn") (q := ad 22) hx hb hown (ev_str hev 22 rfl) dX9_readHold_102 ?_
          refine lv_iconst (v := 0) hx hb dX9_readHold_105 (by decide) ?_
          refine lv_iconst (v := 3) hx hb dX9_readHold_106 (by decide) ?_
          have hPc := hP.sub (ws' := [(h0, .inr (7, [v0, v1, v2, v3, v4, v5, v6, v7, v8, v9, .ref e0, .int ts, .int bg_190, .int en_191, .int so_192, .int va_193, .int iw_194, v17, .ref y0, .ref z0, .int im, .int sT, v22, .int n_188, v24, v25, v26, v27])), (e0, .inl (ec, 120, .inl ef))]) [2, 3] rfl
          have hKc := hK.sub (tys' := [(ec, .int)]) [0] rfl
          have hDc := hD.sub (ws' := [(h0, .inr (7, [v0, v1, v2, v3, v4, v5, v6, v7, v8, v9, .ref e0, .int ts, .int bg_190, .int en_191, .int so_192, .int va_193, .int iw_194, v17, .ref y0, .ref z0, .int im, .int sT, v22, .int n_188, v24, v25, v26, v27])), (e0, .inl (ec, 120, .inl ef))]) [2, 3] (by decide) rfl
          have hFc := va_free (wc := [(h0, .inr (7, [v0, v1, v2, v3, v4, v5, v6, v7, v8, v9, .ref e0, .int ts, .int bg_190, .int en_191, .int so_192, .int va_193, .int iw_194, v17, .ref y0, .ref z0, .int im, .int sT, v22, .int n_188, v24, v25, v26, v27])), (e0, .inl (ec, 120, .inl ef))]) hD hS hA [2, 3] rfl
          refine va_calli (va_runV (As := [.ref (ad 22), .int 0, .int 3]) (rest := []) ⟨hx, hb, hml, hown, hts⟩ (m_after l dC dI ad h0 22 0 3 v0 v1 v2 v3 v4 v5 v6 v7 v8 v9 e0 ts bg_190 en_191 so_192 va_193 iw_194 v17 (.ref y0) (.ref z0) (.int im) (.int sT) v22 (.int n_188) v24 v25 v26 v27 ec ef H.size (by decide) htm hq_195 hq_196 hq_197) (cwV 3 hts g_m_readHold_m_after_270 rfl rfl rfl (by decide +kernel) ⟨(Nat.le_of_ble_eq_true rfl), (Nat.le_of_ble_eq_true rfl)⟩) ⟨preT_blind, va_recv hKc hPc (ci := 7) (q0 := 0) rfl rfl, fun U hU hW => ⟨rfl, preM_at hU hW hPc hKc hDc hev, sf_at hsf hS hFc hU hW⟩⟩ rfl rfl hl.1 rfl (lv_room (Nat.le_of_ble_eq_true rfl)) dX9_readHold_107 ⟨(Nat.le_of_ble_eq_true rfl), (Nat.le_of_ble_eq_true rfl)⟩) hS (fun q _ h => hFc q h) hFc (fun r_200 u t H1 locs ht hvm hw hB hz1 hk1 hS => ?_)
          obtain ⟨bg_201, en_202, so_203, va_204, iw_205, hq_206, hq_207, hq_208, hq_209, hq_210, hP1, hK1, hD1⟩ := hB
          rw [ht] at hP1
          have hK1 := va_K.moved hvm.symm hK1
          obtain ⟨hP, hD⟩ := va_join (wr := [(y0, .inl (yc, 360, .inl yf)), (z0, .inl (zc, 120, .inr (.inl gf)))]) (w1 := [(h0, .inr (7, [v0, v1, v2, v3, v4, v5, v6, v7, v8, v9, .ref e0, .int ts, .int bg_201, .int en_202, .int so_203, .int va_204, .int iw_205, v17, .ref y0, .ref z0, .int im, .int sT, v22, .int n_188, v24, v25, v26, v27])), (e0, .inl (ec, 120, .inl ef))]) hP hD [2, 3] [0, 1] rfl rfl (by decide) (by decide) hk1 hFc hP1 hD1
          generalize H1 = H at hP hS ⊢
          have hP : va_P (dC, dI) vwCl [(y0, .inl (yc, 360, .inl yf)), (z0, .inl (zc, 120, .inr (.inl gf))), (h0, .inr (7, [v0, v1, v2, v3, v4, v5, v6, v7, v8, v9, .ref e0, .int ts, .int bg_201, .int en_202, .int so_203, .int va_204, .int iw_205, v17, .ref y0, .ref z0, .int im, .int sT, v22, .int n_188, v24, v25, v26, v27])), (e0, .inl (ec, 120, .inl ef))] H := hP
          have hD : va_D A [(y0, .inl (yc, 360, .inl yf)), (z0, .inl (zc, 120, .inr (.inl gf))), (h0, .inr (7, [v0, v1, v2, v3, v4, v5, v6, v7, v8, v9, .ref e0, .int ts, .int bg_201, .int en_202, .int so_203, .int va_204, .int iw_205, v17, .ref y0, .ref z0, .int im, .int sT, v22, .int n_188, v24, v25, v26, v27])), (e0, .inl (ec, 120, .inl ef))] := hD
          refine lv_istore_n (lv' := [(3, .int r_200), (2, .int r_189), (1, .int va), (0, .ref h0)]) hx hb dX9_readHold_110 rfl hl (by decide) rfl (fun ls hl => ?_)
          refine lv_aload_n hx hb dX9_readHold_111 rfl (lv_at hl 3 rfl) ?_
          refine va_ldcSw (tx := "at") (q := ad 23) hx hb hown (ev_str hev 23 rfl) dX9_readHold_112 ?_
          refine lv_iconst (v := 0) hx hb dX9_readHold_115 (by decide) ?_
          refine lv_bipush (v := 7) hx hb dX9_readHold_116 (by decide) ?_
          have hPc := hP.sub (ws' := [(h0, .inr (7, [v0, v1, v2, v3, v4, v5, v6, v7, v8, v9, .ref e0, .int ts, .int bg_201, .int en_202, .int so_203, .int va_204, .int iw_205, v17, .ref y0, .ref z0, .int im, .int sT, v22, .int n_188, v24, v25, v26, v27])), (e0, .inl (ec, 120, .inl ef))]) [2, 3] rfl
          have hKc := hK.sub (tys' := [(ec, .int)]) [0] rfl
          have hDc := hD.sub (ws' := [(h0, .inr (7, [v0, v1, v2, v3, v4, v5, v6, v7, v8, v9, .ref e0, .int ts, .int bg_201, .int en_202, .int so_203, .int va_204, .int iw_205, v17, .ref y0, .ref z0, .int im, .int sT, v22, .int n_188, v24, v25, v26, v27])), (e0, .inl (ec, 120, .inl ef))]) [2, 3] (by decide) rfl
          have hFc := va_free (wc := [(h0, .inr (7, [v0, v1, v2, v3, v4, v5, v6, v7, v8, v9, .ref e0, .int ts, .int bg_201, .int en_202, .int so_203, .int va_204, .int iw_205, v17, .ref y0, .ref z0, .int im, .int sT, v22, .int n_188, v24, v25, v26, v27])), (e0, .inl (ec, 120, .inl ef))]) hD hS hA [2, 3] rfl
          refine va_calli (va_runV (As := [.ref (ad 23), .int 0, .int 7]) (rest := []) ⟨hx, hb, hml, hown, hts⟩ (m_after l dC dI ad h0 23 0 7 v0 v1 v2 v3 v4 v5 v6 v7 v8 v9 e0 ts bg_201 en_202 so_203 va_204 iw_205 v17 (.ref y0) (.ref z0) (.int im) (.int sT) v22 (.int n_188) v24 v25 v26 v27 ec ef H.size (by decide) htm hq_206 hq_207 hq_208) (cwV 3 hts g_m_readHold_m_after_270 rfl rfl rfl (by decide +kernel) ⟨(Nat.le_of_ble_eq_true rfl), (Nat.le_of_ble_eq_true rfl)⟩) ⟨preT_blind, va_recv hKc hPc (ci := 7) (q0 := 0) rfl rfl, fun U hU hW => ⟨rfl, preM_at hU hW hPc hKc hDc hev, sf_at hsf hS hFc hU hW⟩⟩ rfl rfl hl.1 rfl (lv_room (Nat.le_of_ble_eq_true rfl)) dX9_readHold_118 ⟨(Nat.le_of_ble_eq_true rfl), (Nat.le_of_ble_eq_true rfl)⟩) hS (fun q _ h => hFc q h) hFc (fun r_211 u t H1 locs ht hvm hw hB hz1 hk1 hS => ?_)
          obtain ⟨bg_212, en_213, so_214, va_215, iw_216, hq_217, hq_218, hq_219, hq_220, hq_221, hP1, hK1, hD1⟩ := hB
          rw [ht] at hP1
          have hK1 := va_K.moved hvm.symm hK1
          obtain ⟨hP, hD⟩ := va_join (wr := [(y0, .inl (yc, 360, .inl yf)), (z0, .inl (zc, 120, .inr (.inl gf)))]) (w1 := [(h0, .inr (7, [v0, v1, v2, v3, v4, v5, v6, v7, v8, v9, .ref e0, .int ts, .int bg_212, .int en_213, .int so_214, .int va_215, .int iw_216, v17, .ref y0, .ref z0, .int im, .int sT, v22, .int n_188, v24, v25, v26, v27])), (e0, .inl (ec, 120, .inl ef))]) hP hD [2, 3] [0, 1] rfl rfl (by decide) (by decide) hk1 hFc hP1 hD1
          generalize H1 = H at hP hS ⊢
          have hP : va_P (dC, dI) vwCl [(y0, .inl (yc, 360, .inl yf)), (z0, .inl (zc, 120, .inr (.inl gf))), (h0, .inr (7, [v0, v1, v2, v3, v4, v5, v6, v7, v8, v9, .ref e0, .int ts, .int bg_212, .int en_213, .int so_214, .int va_215, .int iw_216, v17, .ref y0, .ref z0, .int im, .int sT, v22, .int n_188, v24, v25, v26, v27])), (e0, .inl (ec, 120, .inl ef))] H := hP
          have hD : va_D A [(y0, .inl (yc, 360, .inl yf)), (z0, .inl (zc, 120, .inr (.inl gf))), (h0, .inr (7, [v0, v1, v2, v3, v4, v5, v6, v7, v8, v9, .ref e0, .int ts, .int bg_212, .int en_213, .int so_214, .int va_215, .int iw_216, v17, .ref y0, .ref z0, .int im, .int sT, v22, .int n_188, v24, v25, v26, v27])), (e0, .inl (ec, 120, .inl ef))] := hD
          refine lv_istore (lv' := [(4, .int r_211), (3, .int r_200), (2, .int r_189), (1, .int va), (0, .ref h0)]) hx hb dX9_readHold_121 hl (by decide) rfl (fun ls hl => ?_)
          refine lv_aload_n hx hb dX9_readHold_123 rfl (lv_at hl 4 rfl) ?_
          refine lv_bipush (v := 11) hx hb dX9_readHold_124 (by decide) ?_
          refine lv_iload_n hx hb dX9_readHold_126 rfl (lv_at hl 3 rfl) ?_
          refine lv_sipush (v := 1000) hx hb dX9_readHold_127 (by decide) ?_
          refine lv_iconst (v := 4) hx hb dX9_readHold_130 (by decide) ?_
          refine lv_iload_n hx hb dX9_readHold_131 rfl (lv_at hl 2 rfl) ?_
          refine lv_imul hx hb dX9_readHold_132 ?_
          refine lv_topi (fun n_222 en_222 => ?_)
          refine lv_iload_n hx hb dX9_readHold_133 rfl (lv_at hl 1 rfl) ?_
          refine lv_iadd hx hb dX9_readHold_134 ?_
          refine lv_topi (fun n_223 en_223 => ?_)
          refine lv_imul hx hb dX9_readHold_135 ?_
          refine lv_topi (fun n_224 en_224 => ?_)
          refine lv_bipush (v := 10) hx hb dX9_readHold_136 (by decide) ?_
          refine lv_iload hx hb dX9_readHold_138 (lv_at hl 0 rfl) ?_
          refine lv_imul hx hb dX9_readHold_140 ?_
          refine lv_topi (fun n_225 en_225 => ?_)
          refine lv_iadd hx hb dX9_readHold_141 ?_
          refine lv_topi (fun n_226 en_226 => ?_)
          refine lv_aload_n hx hb dX9_readHold_142 rfl (lv_at hl 4 rfl) ?_
          refine lv_iconst (v := 0) hx hb dX9_readHold_143 (by decide) ?_
          refine lv_bipush (v := 7) hx hb dX9_readHold_144 (by decide) ?_
          have hPc := hP.sub (ws' := [(h0, .inr (7, [v0, v1, v2, v3, v4, v5, v6, v7, v8, v9, .ref e0, .int ts, .int bg_212, .int en_213, .int so_214, .int va_215, .int iw_216, v17, .ref y0, .ref z0, .int im, .int sT, v22, .int n_188, v24, v25, v26, v27])), (e0, .inl (ec, 120, .inl ef))]) [2, 3] rfl
          have hKc := hK.sub (tys' := [(ec, .int)]) [0] rfl
          have hDc := hD.sub (ws' := [(h0, .inr (7, [v0, v1, v2, v3, v4, v5, v6, v7, v8, v9, .ref e0, .int ts, .int bg_212, .int en_213, .int so_214, .int va_215, .int iw_216, v17, .ref y0, .ref z0, .int im, .int sT, v22, .int n_188, v24, v25, v26, v27])), (e0, .inl (ec, 120, .inl ef))]) [2, 3] (by decide) rfl
          have hFc := va_free (wc := [(h0, .inr (7, [v0, v1, v2, v3, v4, v5, v6, v7, v8, v9, .ref e0, .int ts, .int bg_212, .int en_213, .int so_214, .int va_215, .int iw_216, v17, .ref y0, .ref z0, .int im, .int sT, v22, .int n_188, v24, v25, v26, v27])), (e0, .inl (ec, 120, .inl ef))]) hD hS hA [2, 3] rfl
          refine va_calli (va_runV (As := [.int 0, .int 7]) (rest := [.int n_226, .int va, .int 11, .ref h0]) ⟨hx, hb, hml, hown, hts⟩ (m_number l dC dI ad h0 0 7 v0 v1 v2 v3 v4 v5 v6 v7 v8 v9 e0 ts bg_212 en_213 so_214 va_215 iw_216 v17 (.ref y0) (.ref z0) (.int im) (.int sT) v22 (.int n_188) v24 v25 v26 v27 ec ef H.size htm hq_217 hq_218 hq_219) (cwV 2 hts g_m_readHold_m_number_235 rfl rfl rfl (by decide +kernel) ⟨(Nat.le_of_ble_eq_true rfl), (Nat.le_of_ble_eq_true rfl)⟩) ⟨preM_blind, va_recv hKc hPc (ci := 7) (q0 := 0) rfl rfl, fun U hU hW => ⟨rfl, preM_at hU hW hPc hKc hDc hev⟩⟩ rfl rfl hl.1 rfl (lv_room (Nat.le_of_ble_eq_true rfl)) dX9_readHold_146 ⟨(Nat.le_of_ble_eq_true rfl), (Nat.le_of_ble_eq_true rfl)⟩) hS (fun q _ h => hFc q h) hFc (fun r_227 u t H1 locs ht hvm hw hB hz1 hk1 hS => ?_)
          obtain ⟨bg_228, en_229, so_230, va_231, iw_232, hq_233, hq_234, hq_235, hq_236, hq_237, hP1, hK1, hD1⟩ := hB
          rw [ht] at hP1
          have hK1 := va_K.moved hvm.symm hK1
          obtain ⟨hP, hD⟩ := va_join (wr := [(y0, .inl (yc, 360, .inl yf)), (z0, .inl (zc, 120, .inr (.inl gf)))]) (w1 := [(h0, .inr (7, [v0, v1, v2, v3, v4, v5, v6, v7, v8, v9, .ref e0, .int ts, .int bg_228, .int en_229, .int so_230, .int va_231, .int iw_232, v17, .ref y0, .ref z0, .int im, .int sT, v22, .int n_188, v24, v25, v26, v27])), (e0, .inl (ec, 120, .inl ef))]) hP hD [2, 3] [0, 1] rfl rfl (by decide) (by decide) hk1 hFc hP1 hD1
          generalize H1 = H at hP hS ⊢
          have hP : va_P (dC, dI) vwCl [(y0, .inl (yc, 360, .inl yf)), (z0, .inl (zc, 120, .inr (.inl gf))), (h0, .inr (7, [v0, v1, v2, v3, v4, v5, v6, v7, v8, v9, .ref e0, .int ts, .int bg_228, .int en_229, .int so_230, .int va_231, .int iw_232, v17, .ref y0, .ref z0, .int im, .int sT, v22, .int n_188, v24, v25, v26, v27])), (e0, .inl (ec, 120, .inl ef))] H := hP
          have hD : va_D A [(y0, .inl (yc, 360, .inl yf)), (z0, .inl (zc, 120, .inr (.inl gf))), (h0, .inr (7, [v0, v1, v2, v3, v4, v5, v6, v7, v8, v9, .ref e0, .int ts, .int bg_228, .int en_229, .int so_230, .int va_231, .int iw_232, v17, .ref y0, .ref z0, .int im, .int sT, v22, .int n_188, v24, v25, v26, v27])), (e0, .inl (ec, 120, .inl ef))] := hD
          have hr_227 : r_227.toInt = va_215.toInt := hw
          have hq_237 : iw_232.toInt = 0 → iw_216.toInt = 0 ∧ (0 : Int) ≤ va_215.toInt ∧ va_215.toInt ≤ (7 : Int) ∧ en_213.toInt ≤ bg_228.toInt := hq_237
          refine lv_iadd hx hb dX9_readHold_149 ?_
          refine lv_topi (fun n_238 en_238 => ?_)
          refine lv_lconst (v := 0) hx hb dX9_readHold_150 (by decide) ?_
          have hPc := hP.sub (ws' := [(h0, .inr (7, [v0, v1, v2, v3, v4, v5, v6, v7, v8, v9, .ref e0, .int ts, .int bg_228, .int en_229, .int so_230, .int va_231, .int iw_232, v17, .ref y0, .ref z0, .int im, .int sT, v22, .int n_188, v24, v25, v26, v27])), (y0, .inl (yc, 360, .inl yf)), (z0, .inl (zc, 120, .inr (.inl gf)))]) [2, 0, 1] rfl
          have hKc := hK.sub (tys' := [(yc, .int), (zc, .long)]) [1, 2] rfl
          have hDc := hD.sub (ws' := [(h0, .inr (7, [v0, v1, v2, v3, v4, v5, v6, v7, v8, v9, .ref e0, .int ts, .int bg_228, .int en_229, .int so_230, .int va_231, .int iw_232, v17, .ref y0, .ref z0, .int im, .int sT, v22, .int n_188, v24, v25, v26, v27])), (y0, .inl (yc, 360, .inl yf)), (z0, .inl (zc, 120, .inr (.inl gf)))]) [2, 0, 1] (by decide) rfl
          have hFc := va_free (wc := [(h0, .inr (7, [v0, v1, v2, v3, v4, v5, v6, v7, v8, v9, .ref e0, .int ts, .int bg_228, .int en_229, .int so_230, .int va_231, .int iw_232, v17, .ref y0, .ref z0, .int im, .int sT, v22, .int n_188, v24, v25, v26, v27])), (y0, .inl (yc, 360, .inl yf)), (z0, .inl (zc, 120, .inr (.inl gf)))]) hD hS hA [2, 0, 1] rfl
          refine va_callv (va_runV (As := [.int 11, .int va, .int n_238, .long 0]) (rest := []) ⟨hx, hb, hml, hown, hts⟩ (m_item l dC dI ad h0 11 va n_238 0 v0 v1 v2 v3 v4 v5 v6 v7 v8 v9 (.ref e0) (.int ts) (.int bg_228) (.int en_229) (.int so_230) (.int va_231) (.int iw_232) v17 y0 z0 im (.int sT) v22 (.int n_188) v24 v25 v26 v27 yc yf zc gf H.size him) (cwV 4 hts g_m_readHold_m_item_247 rfl rfl rfl (by decide +kernel) ⟨(Nat.le_of_ble_eq_true rfl), (Nat.le_of_ble_eq_true rfl)⟩) ⟨preM_blind, va_recv hKc hPc (ci := 7) (q0 := 0) rfl rfl, fun U hU hW => ⟨rfl, preM_at hU hW hPc hKc hDc hev⟩⟩ rfl rfl hl.1 rfl (lv_room (Nat.le_of_ble_eq_true rfl)) dX9_readHold_151 ⟨(Nat.le_of_ble_eq_true rfl), (Nat.le_of_ble_eq_true rfl)⟩) hS (fun q _ h => hFc q h) hFc (fun u t H1 locs ht hvm hw hB hz1 hk1 hS => ?_)
          obtain ⟨im_240, yg_241, gg_242, hq_243, hq_244, hP1, hK1, hD1⟩ := hB
          rw [ht] at hP1
          have hK1 := va_K.moved hvm.symm hK1
          obtain ⟨hP, hD⟩ := va_join (wr := [(e0, .inl (ec, 120, .inl ef))]) (w1 := [(h0, .inr (7, [v0, v1, v2, v3, v4, v5, v6, v7, v8, v9, .ref e0, .int ts, .int bg_228, .int en_229, .int so_230, .int va_231, .int iw_232, v17, .ref y0, .ref z0, .int im_240, .int sT, v22, .int n_188, v24, v25, v26, v27])), (y0, .inl (yc, 360, .inl yg_241)), (z0, .inl (zc, 120, .inr (.inl gg_242)))]) hP hD [2, 0, 1] [3] rfl rfl (by decide) (by decide) hk1 hFc hP1 hD1
          generalize H1 = H at hP hS ⊢
          have hP : va_P (dC, dI) vwCl [(e0, .inl (ec, 120, .inl ef)), (h0, .inr (7, [v0, v1, v2, v3, v4, v5, v6, v7, v8, v9, .ref e0, .int ts, .int bg_228, .int en_229, .int so_230, .int va_231, .int iw_232, v17, .ref y0, .ref z0, .int im_240, .int sT, v22, .int n_188, v24, v25, v26, v27])), (y0, .inl (yc, 360, .inl yg_241)), (z0, .inl (zc, 120, .inr (.inl gg_242)))] H := hP
          have hD : va_D A [(e0, .inl (ec, 120, .inl ef)), (h0, .inr (7, [v0, v1, v2, v3, v4, v5, v6, v7, v8, v9, .ref e0, .int ts, .int bg_228, .int en_229, .int so_230, .int va_231, .int iw_232, v17, .ref y0, .ref z0, .int im_240, .int sT, v22, .int n_188, v24, v25, v26, v27])), (y0, .inl (yc, 360, .inl yg_241)), (z0, .inl (zc, 120, .inr (.inl gg_242)))] := hD
          have hP9 := hP.sub (ws' := [(h0, .inr (7, [v0, v1, v2, v3, v4, v5, v6, v7, v8, v9, .ref e0, .int ts, .int bg_228, .int en_229, .int so_230, .int va_231, .int iw_232, v17, .ref y0, .ref z0, .int im_240, .int sT, v22, .int n_188, v24, v25, v26, v27])), (e0, .inl (ec, 120, .inl ef)), (y0, .inl (yc, 360, .inl yg_241)), (z0, .inl (zc, 120, .inr (.inl gg_242)))]) [1, 0, 2, 3] rfl
          have hD9 := hD.sub (ws' := [(h0, .inr (7, [v0, v1, v2, v3, v4, v5, v6, v7, v8, v9, .ref e0, .int ts, .int bg_228, .int en_229, .int so_230, .int va_231, .int iw_232, v17, .ref y0, .ref z0, .int im_240, .int sT, v22, .int n_188, v24, v25, v26, v27])), (e0, .inl (ec, 120, .inl ef)), (y0, .inl (yc, 360, .inl yg_241)), (z0, .inl (zc, 120, .inr (.inl gg_242)))]) [1, 0, 2, 3] (by decide) rfl
          have hK9 := hK.sub (tys' := [(ec, .int), (yc, .int), (zc, .long)]) [0, 1, 2] rfl
          exact W.vret hx hb hr (fun t ht hW => ⟨⟨(), rfl, trivial, bg_228, en_229, so_230, va_231, iw_232, n_188, im_240, yg_241, gg_242, hq_233, hq_234, hq_235, hq_236, (by first | omega | decide | (simp only [fa_lt, fa_le, fa_eq, and_true, true_and, and_false, false_and, not_true_eq_false, not_false_eq_true, li_0, li_1, li_2, li_3, li_4, li_5, li_6, li_7, li_8, li_9, li_10, li_12, li_15, li_16, li_20, li_30, li_34, li_38, li_40, li_63, li_64, li_65, li_78, li_120, li_1000, li_4000, li_10000, li_11077, li_255, li_65535, li_m1, li_m2, li_m1000000001, li_m1000000002, li_m1000000003, li_m1000000004, li_m1000000005, li_m1000000006, li_m1000000007, or_true, true_or, or_false, false_or, implies_true, true_implies, false_implies] <;> omega)), hq_243, (fun hz cc => absurd hz (by first | omega | decide)), by rw [ht]; exact hP9, va_K.moved hW.alike hK9, hD9⟩, hS.F ht⟩) hS.2.2 dX9_readHold_154
  · skip
    have tc_3 : ¬ 4 ≤ r_2.toInt := fun h => c_3 ((fa_le _ _).mpr h)
    refine lv_iconst (v := 1) hx hb dX9_readHold_13 (by decide) ?_
    refine lv_goto (tgt := 18) hx hb dX9_readHold_14 (by decide) ?_
    have hPc := hP.sub (ws' := [(h0, .inr (7, [v0, v1, v2, v3, v4, v5, v6, v7, v8, v9, .ref e0, .int ts, .int bg, .int en, .int so, .int va, .int 0, v17, .ref y0, .ref z0, .int im, .int sT, v22, .int hT, v24, v25, v26, v27])), (e0, .inl (ec, 120, .inl ef))]) [0, 1] rfl
    have hKc := hK.sub (tys' := [(ec, .int)]) [0] rfl
    have hDc := hD.sub (ws' := [(h0, .inr (7, [v0, v1, v2, v3, v4, v5, v6, v7, v8, v9, .ref e0, .int ts, .int bg, .int en, .int so, .int va, .int 0, v17, .ref y0, .ref z0, .int im, .int sT, v22, .int hT, v24, v25, v26, v27])), (e0, .inl (ec, 120, .inl ef))]) [0, 1] (by decide) rfl
    have hFc := va_free (wc := [(h0, .inr (7, [v0, v1, v2, v3, v4, v5, v6, v7, v8, v9, .ref e0, .int ts, .int bg, .int en, .int so, .int va, .int 0, v17, .ref y0, .ref z0, .int im, .int sT, v22, .int hT, v24, v25, v26, v27])), (e0, .inl (ec, 120, .inl ef))]) hD hS hA [0, 1] rfl
    refine va_callv (va_runV (As := [.int 1]) (rest := []) ⟨hx, hb, hml, hown, hts⟩ (m_must1 l dC dI ad h0 v0 v1 v2 v3 v4 v5 v6 v7 v8 v9 e0 ts bg en so va v17 (.ref y0) (.ref z0) (.int im) (.int sT) v22 (.int hT) v24 v25 v26 v27 ec ef s.heap.size htm hlx hso hva) (cwV 1 hts g_m_readHold_m_must1_224 rfl rfl rfl (by decide +kernel) ⟨(Nat.le_of_ble_eq_true rfl), (Nat.le_of_ble_eq_true rfl)⟩) ⟨preM_blind, va_recv hKc hPc (ci := 7) (q0 := 0) rfl rfl, fun U hU hW => ⟨rfl, preM_at hU hW hPc hKc hDc hev⟩⟩ rfl rfl hl.1 rfl (lv_room (Nat.le_of_ble_eq_true rfl)) dX9_readHold_18 ⟨(Nat.le_of_ble_eq_true rfl), (Nat.le_of_ble_eq_true rfl)⟩) hS (fun q _ h => hFc q h) hFc (fun u t H1 locs ht hvm hw hB hz1 hk1 hS => ?_)
    obtain ⟨bg_246, en_247, so_248, va_249, hq_250, hq_251, hq_252, hq_253, hP1, hK1, hD1⟩ := hB
    rw [ht] at hP1
    have hK1 := va_K.moved hvm.symm hK1
    obtain ⟨hP, hD⟩ := va_join (wr := [(y0, .inl (yc, 360, .inl yf)), (z0, .inl (zc, 120, .inr (.inl gf)))]) (w1 := [(h0, .inr (7, [v0, v1, v2, v3, v4, v5, v6, v7, v8, v9, .ref e0, .int ts, .int bg_246, .int en_247, .int so_248, .int va_249, .int 0, v17, .ref y0, .ref z0, .int im, .int sT, v22, .int hT, v24, v25, v26, v27])), (e0, .inl (ec, 120, .inl ef))]) hP hD [0, 1] [2, 3] rfl rfl (by decide) (by decide) hk1 hFc hP1 hD1
    generalize H1 = H at hP hS ⊢
    have hP : va_P (dC, dI) vwCl [(y0, .inl (yc, 360, .inl yf)), (z0, .inl (zc, 120, .inr (.inl gf))), (h0, .inr (7, [v0, v1, v2, v3, v4, v5, v6, v7, v8, v9, .ref e0, .int ts, .int bg_246, .int en_247, .int so_248, .int va_249, .int 0, v17, .ref y0, .ref z0, .int im, .int sT, v22, .int hT, v24, v25, v26, v27])), (e0, .inl (ec, 120, .inl ef))] H := hP
    have hD : va_D A [(y0, .inl (yc, 360, .inl yf)), (z0, .inl (zc, 120, .inr (.inl gf))), (h0, .inr (7, [v0, v1, v2, v3, v4, v5, v6, v7, v8, v9, .ref e0, .int ts, .int bg_246, .int en_247, .int so_248, .int va_249, .int 0, v17, .ref y0, .ref z0, .int im, .int sT, v22, .int hT, v24, v25, v26, v27])), (e0, .inl (ec, 120, .inl ef))] := hD
    refine lv_aload_n hx hb dX9_readHold_21 rfl (lv_at hl 0 rfl) ?_
    refine va_get (D := (dC, dI)) (ci := 7) (v := .int va_249) (C := RX9) (T := TX9) (N := 28) hx hb hts inX9 hown hK hP 2 rfl rfl 15 (by decide) (hts _ (List.mem_of_getElem? (i := 11) rfl)) (fun _ h9 => h9) rfl dX9_readHold_22 ?_
    refine lv_istore_n (lv' := [(1, .int va_249), (0, .ref h0)]) hx hb dX9_readHold_25 rfl hl (by decide) rfl (fun ls hl => ?_)
    refine lv_aload_n hx hb dX9_readHold_26 rfl (lv_at hl 1 rfl) ?_
    refine lv_aload_n hx hb dX9_readHold_27 rfl (lv_at hl 1 rfl) ?_
    refine va_get (D := (dC, dI)) (ci := 7) (v := .int so_248) (C := RX9) (T := TX9) (N := 28) hx hb hts inX9 hown hK hP 2 rfl rfl 14 (by decide) (hts _ (List.mem_of_getElem? (i := 12) rfl)) (fun _ h9 => h9) rfl dX9_readHold_28 ?_
    refine lv_iconst (v := 2) hx hb dX9_readHold_31 (by decide) ?_
    refine lv_icmp_ne (tgt := 64) hx hb dX9_readHold_32 (by decide) (fun c_254 => ?_) (fun c_254 => ?_)
    · skip
      have tc_254 : ¬ so_248.toInt = 2 := fun h => c_254 ((fa_eq _ _).mpr h)
      refine lv_iconst (v := 0) hx hb dX9_readHold_64 (by decide) ?_
      have hPc := hP.sub (ws' := [(h0, .inr (7, [v0, v1, v2, v3, v4, v5, v6, v7, v8, v9, .ref e0, .int ts, .int bg_246, .int en_247, .int so_248, .int va_249, .int 0, v17, .ref y0, .ref z0, .int im, .int sT, v22, .int hT, v24, v25, v26, v27]))]) [2] rfl
      have hKc := hK.sub (tys' := []) [] rfl
      have hDc := hD.sub (ws' := [(h0, .inr (7, [v0, v1, v2, v3, v4, v5, v6, v7, v8, v9, .ref e0, .int ts, .int bg_246, .int en_247, .int so_248, .int va_249, .int 0, v17, .ref y0, .ref z0, .int im, .int sT, v22, .int hT, v24, v25, v26, v27]))]) [2] (by decide) rfl
      have hFc := va_free (wc := [(h0, .inr (7, [v0, v1, v2, v3, v4, v5, v6, v7, v8, v9, .ref e0, .int ts, .int bg_246, .int en_247, .int so_248, .int va_249, .int 0, v17, .ref y0, .ref z0, .int im, .int sT, v22, .int hT, v24, v25, v26, v27]))]) hD hS hA [2] rfl
      refine va_callv (va_runV (As := [.int 0]) (rest := []) ⟨hx, hb, hml, hown, hts⟩ (m_must0 l dC dI ad h0 v0 v1 v2 v3 v4 v5 v6 v7 v8 v9 (.ref e0) (.int ts) (.int bg_246) (.int en_247) (.int so_248) (.int va_249) 0 v17 (.ref y0) (.ref z0) (.int im) (.int sT) v22 (.int hT) v24 v25 v26 v27 H.size ) (cwV 1 hts g_m_readHold_m_must0_224 rfl rfl rfl (by decide +kernel) ⟨(Nat.le_of_ble_eq_true rfl), (Nat.le_of_ble_eq_true rfl)⟩) ⟨preM_blind, va_recv hKc hPc (ci := 7) (q0 := 0) rfl rfl, fun U hU hW => ⟨rfl, preM_at hU hW hPc hKc hDc hev⟩⟩ rfl rfl hl.1 rfl (lv_room (Nat.le_of_ble_eq_true rfl)) dX9_readHold_65 ⟨(Nat.le_of_ble_eq_true rfl), (Nat.le_of_ble_eq_true rfl)⟩) hS (fun q _ h => hFc q h) hFc (fun u t H1 locs ht hvm hw hB hz1 hk1 hS => ?_)
      obtain ⟨hP1, hK1, hD1⟩ := hB
      rw [ht] at hP1
      have hK1 := va_K.moved hvm.symm hK1
      obtain ⟨hP, hD⟩ := va_join (wr := [(y0, .inl (yc, 360, .inl yf)), (z0, .inl (zc, 120, .inr (.inl gf))), (e0, .inl (ec, 120, .inl ef))]) (w1 := [(h0, .inr (7, [v0, v1, v2, v3, v4, v5, v6, v7, v8, v9, .ref e0, .int ts, .int bg_246, .int en_247, .int so_248, .int va_249, .int 1, v17, .ref y0, .ref z0, .int im, .int sT, v22, .int hT, v24, v25, v26, v27]))]) hP hD [2] [0, 1, 3] rfl rfl (by decide) (by decide) hk1 hFc hP1 hD1
      generalize H1 = H at hP hS ⊢
      have hP : va_P (dC, dI) vwCl [(y0, .inl (yc, 360, .inl yf)), (z0, .inl (zc, 120, .inr (.inl gf))), (e0, .inl (ec, 120, .inl ef)), (h0, .inr (7, [v0, v1, v2, v3, v4, v5, v6, v7, v8, v9, .ref e0, .int ts, .int bg_246, .int en_247, .int so_248, .int va_249, .int 1, v17, .ref y0, .ref z0, .int im, .int sT, v22, .int hT, v24, v25, v26, v27]))] H := hP
      have hD : va_D A [(y0, .inl (yc, 360, .inl yf)), (z0, .inl (zc, 120, .inr (.inl gf))), (e0, .inl (ec, 120, .inl ef)), (h0, .inr (7, [v0, v1, v2, v3, v4, v5, v6, v7, v8, v9, .ref e0, .int ts, .int bg_246, .int en_247, .int so_248, .int va_249, .int 1, v17, .ref y0, .ref z0, .int im, .int sT, v22, .int hT, v24, v25, v26, v27]))] := hD
      refine lv_aload_n hx hb dX9_readHold_68 rfl (lv_at hl 1 rfl) ?_
      refine lv_dup hx hb dX9_readHold_69 rfl ?_
      refine va_get (D := (dC, dI)) (ci := 7) (v := .int hT) (C := RX9) (T := TX9) (N := 28) hx hb hts inX9 hown hK hP 3 rfl rfl 23 (by decide) (hts _ (List.mem_of_getElem? (i := 1) rfl)) (fun _ h9 => h9) rfl dX9_readHold_70 ?_
      refine lv_aload_n hx hb dX9_readHold_73 rfl (lv_at hl 1 rfl) ?_
      refine va_get (D := (dC, dI)) (ci := 7) (v := .int 1) (C := RX9) (T := TX9) (N := 28) hx hb hts inX9 hown hK hP 3 rfl rfl 16 (by decide) (hts _ (List.mem_of_getElem? (i := 10) rfl)) (fun _ h9 => h9) rfl dX9_readHold_74 ?_
      refine lv_if_eq (tgt := 84) hx hb dX9_readHold_77 (by decide) (fun c => absurd c (by decide)) (fun _ => ?_)
      refine lv_iconst (v := 0) hx hb dX9_readHold_80 (by decide) ?_
      refine lv_goto (tgt := 87) hx hb dX9_readHold_81 (by decide) ?_
      refine lv_ior hx hb dX9_readHold_87 ?_
      refine lv_topi (fun n_256 en_256 => ?_)
      have tn_256 : n_256.toInt = hT.toInt := by rw [pp_or0 en_256]
      refine va_put (D := (dC, dI)) (ci := 7) (v := .int n_256) (ty := .int) (C := RX9) (T := TX9) (N := 28) hx hb hts inX9 tyX9 tyX9_ok nmX9 hown hK hP hD hS 3 rfl rfl 23 (by decide) (hts _ (List.mem_of_getElem? (i := 1) rfl)) (fun _ h9 => h9) rfl (by decide +kernel) rfl rfl (Nat.le_of_ble_eq_true rfl) dX9_readHold_88 (fun H locs hP hD hS => ?_)
      have hP : va_P (dC, dI) vwCl [(y0, .inl (yc, 360, .inl yf)), (z0, .inl (zc, 120, .inr (.inl gf))), (e0, .inl (ec, 120, .inl ef)), (h0, .inr (7, [v0, v1, v2, v3, v4, v5, v6, v7, v8, v9, .ref e0, .int ts, .int bg_246, .int en_247, .int so_248, .int va_249, .int 1, v17, .ref y0, .ref z0, .int im, .int sT, v22, .int n_256, v24, v25, v26, v27]))] H := hP
      have hD : va_D A [(y0, .inl (yc, 360, .inl yf)), (z0, .inl (zc, 120, .inr (.inl gf))), (e0, .inl (ec, 120, .inl ef)), (h0, .inr (7, [v0, v1, v2, v3, v4, v5, v6, v7, v8, v9, .ref e0, .int ts, .int bg_246, .int en_247, .int so_248, .int va_249, .int 1, v17, .ref y0, .ref z0, .int im, .int sT, v22, .int n_256, v24, v25, v26, v27]))] := hD
      refine lv_aload_n hx hb dX9_readHold_91 rfl (lv_at hl 1 rfl) ?_
      refine va_ldcSw (tx := "near") (q := ad 21) hx hb hown (ev_str hev 21 rfl) dX9_readHold_92 ?_
      refine lv_iconst (v := 1) hx hb dX9_readHold_95 (by decide) ?_
      refine lv_iconst (v := 2) hx hb dX9_readHold_96 (by decide) ?_
      have hPc := hP.sub (ws' := [(h0, .inr (7, [v0, v1, v2, v3, v4, v5, v6, v7, v8, v9, .ref e0, .int ts, .int bg_246, .int en_247, .int so_248, .int va_249, .int 1, v17, .ref y0, .ref z0, .int im, .int sT, v22, .int n_256, v24, v25, v26, v27])), (e0, .inl (ec, 120, .inl ef))]) [3, 2] rfl
      have hKc := hK.sub (tys' := [(ec, .int)]) [0] rfl
      have hDc := hD.sub (ws' := [(h0, .inr (7, [v0, v1, v2, v3, v4, v5, v6, v7, v8, v9, .ref e0, .int ts, .int bg_246, .int en_247, .int so_248, .int va_249, .int 1, v17, .ref y0, .ref z0, .int im, .int sT, v22, .int n_256, v24, v25, v26, v27])), (e0, .inl (ec, 120, .inl ef))]) [3, 2] (by decide) rfl
      have hFc := va_free (wc := [(h0, .inr (7, [v0, v1, v2, v3, v4, v5, v6, v7, v8, v9, .ref e0, .int ts, .int bg_246, .int en_247, .int so_248, .int va_249, .int 1, v17, .ref y0, .ref z0, .int im, .int sT, v22, .int n_256, v24, v25, v26, v27])), (e0, .inl (ec, 120, .inl ef))]) hD hS hA [3, 2] rfl
      refine va_calli (va_runV (As := [.ref (ad 21), .int 1, .int 2]) (rest := []) ⟨hx, hb, hml, hown, hts⟩ (m_after l dC dI ad h0 21 1 2 v0 v1 v2 v3 v4 v5 v6 v7 v8 v9 e0 ts bg_246 en_247 so_248 va_249 1 v17 (.ref y0) (.ref z0) (.int im) (.int sT) v22 (.int n_256) v24 v25 v26 v27 ec ef H.size (by decide) htm hq_250 hq_251 hq_252) (cwV 3 hts g_m_readHold_m_after_270 rfl rfl rfl (by decide +kernel) ⟨(Nat.le_of_ble_eq_true rfl), (Nat.le_of_ble_eq_true rfl)⟩) ⟨preT_blind, va_recv hKc hPc (ci := 7) (q0 := 0) rfl rfl, fun U hU hW => ⟨rfl, preM_at hU hW hPc hKc hDc hev, sf_at hsf hS hFc hU hW⟩⟩ rfl rfl hl.1 rfl (lv_room (Nat.le_of_ble_eq_true rfl)) dX9_readHold_97 ⟨(Nat.le_of_ble_eq_true rfl), (Nat.le_of_ble_eq_true rfl)⟩) hS (fun q _ h => hFc q h) hFc (fun r_257 u t H1 locs ht hvm hw hB hz1 hk1 hS => ?_)
      obtain ⟨bg_258, en_259, so_260, va_261, iw_262, hq_263, hq_264, hq_265, hq_266, hq_267, hP1, hK1, hD1⟩ := hB
      rw [ht] at hP1
      have hK1 := va_K.moved hvm.symm hK1
      obtain ⟨hP, hD⟩ := va_join (wr := [(y0, .inl (yc, 360, .inl yf)), (z0, .inl (zc, 120, .inr (.inl gf)))]) (w1 := [(h0, .inr (7, [v0, v1, v2, v3, v4, v5, v6, v7, v8, v9, .ref e0, .int ts, .int bg_258, .int en_259, .int so_260, .int va_261, .int iw_262, v17, .ref y0, .ref z0, .int im, .int sT, v22, .int n_256, v24, v25, v26, v27])), (e0, .inl (ec, 120, .inl ef))]) hP hD [3, 2] [0, 1] rfl rfl (by decide) (by decide) hk1 hFc hP1 hD1
      generalize H1 = H at hP hS ⊢
      have hP : va_P (dC, dI) vwCl [(y0, .inl (yc, 360, .inl yf)), (z0, .inl (zc, 120, .inr (.inl gf))), (h0, .inr (7, [v0, v1, v2, v3, v4, v5, v6, v7, v8, v9, .ref e0, .int ts, .int bg_258, .int en_259, .int so_260, .int va_261, .int iw_262, v17, .ref y0, .ref z0, .int im, .int sT, v22, .int n_256, v24, v25, v26, v27])), (e0, .inl (ec, 120, .inl ef))] H := hP
      have hD : va_D A [(y0, .inl (yc, 360, .inl yf)), (z0, .inl (zc, 120, .inr (.inl gf))), (h0, .inr (7, [v0, v1, v2, v3, v4, v5, v6, v7, v8, v9, .ref e0, .int ts, .int bg_258, .int en_259, .int so_260, .int va_261, .int iw_262, v17, .ref y0, .ref z0, .int im, .int sT, v22, .int n_256, v24, v25, v26, v27])), (e0, .inl (ec, 120, .inl ef))] := hD
      have hq_267 : iw_262.toInt = 0 → (1 : Int) = 0 ∧ bg_246.toInt ≤ bg_258.toInt := hq_267
      refine lv_istore_n (lv' := [(2, .int r_257), (1, .int va_249), (0, .ref h0)]) hx hb dX9_readHold_100 rfl hl (by decide) rfl (fun ls hl => ?_)
      refine lv_aload_n hx hb dX9_readHold_101 rfl (lv_at hl 2 rfl) ?_
      refine va_ldcSw (tx := "turn") (q := ad 22) hx hb hown (ev_str hev 22 rfl) dX9_readHold_102 ?_
      refine lv_iconst (v := 0) hx hb dX9_readHold_105 (by decide) ?_
      refine lv_iconst (v := 3) hx hb dX9_readHold_106 (by decide) ?_
      have hPc := hP.sub (ws' := [(h0, .inr (7, [v0, v1, v2, v3, v4, v5, v6, v7, v8, v9, .ref e0, .int ts, .int bg_258, .int en_259, .int so_260, .int va_261, .int iw_262, v17, .ref y0, .ref z0, .int im, .int sT, v22, .int n_256, v24, v25, v26, v27])), (e0, .inl (ec, 120, .inl ef))]) [2, 3] rfl
      have hKc := hK.sub (tys' := [(ec, .int)]) [0] rfl
      have hDc := hD.sub (ws' := [(h0, .inr (7, [v0, v1, v2, v3, v4, v5, v6, v7, v8, v9, .ref e0, .int ts, .int bg_258, .int en_259, .int so_260, .int va_261, .int iw_262, v17, .ref y0, .ref z0, .int im, .int sT, v22, .int n_256, v24, v25, v26, v27])), (e0, .inl (ec, 120, .inl ef))]) [2, 3] (by decide) rfl
      have hFc := va_free (wc := [(h0, .inr (7, [v0, v1, v2, v3, v4, v5, v6, v7, v8, v9, .ref e0, .int ts, .int bg_258, .int en_259, .int so_260, .int va_261, .int iw_262, v17, .ref y0, .ref z0, .int im, .int sT, v22, .int n_256, v24, v25, v26, v27])), (e0, .inl (ec, 120, .inl ef))]) hD hS hA [2, 3] rfl
      refine va_calli (va_runV (As := [.ref (ad 22), .int 0, .int 3]) (rest := []) ⟨hx, hb, hml, hown, hts⟩ (m_after l dC dI ad h0 22 0 3 v0 v1 v2 v3 v4 v5 v6 v7 v8 v9 e0 ts bg_258 en_259 so_260 va_261 iw_262 v17 (.ref y0) (.ref z0) (.int im) (.int sT) v22 (.int n_256) v24 v25 v26 v27 ec ef H.size (by decide) htm hq_263 hq_264 hq_265) (cwV 3 hts g_m_readHold_m_after_270 rfl rfl rfl (by decide +kernel) ⟨(Nat.le_of_ble_eq_true rfl), (Nat.le_of_ble_eq_true rfl)⟩) ⟨preT_blind, va_recv hKc hPc (ci := 7) (q0 := 0) rfl rfl, fun U hU hW => ⟨rfl, preM_at hU hW hPc hKc hDc hev, sf_at hsf hS hFc hU hW⟩⟩ rfl rfl hl.1 rfl (lv_room (Nat.le_of_ble_eq_true rfl)) dX9_readHold_107 ⟨(Nat.le_of_ble_eq_true rfl), (Nat.le_of_ble_eq_true rfl)⟩) hS (fun q _ h => hFc q h) hFc (fun r_268 u t H1 locs ht hvm hw hB hz1 hk1 hS => ?_)
      obtain ⟨bg_269, en_270, so_271, va_272, iw_273, hq_274, hq_275, hq_276, hq_277, hq_278, hP1, hK1, hD1⟩ := hB
      rw [ht] at hP1
      have hK1 := va_K.moved hvm.symm hK1
      obtain ⟨hP, hD⟩ := va_join (wr := [(y0, .inl (yc, 360, .inl yf)), (z0, .inl (zc, 120, .inr (.inl gf)))]) (w1 := [(h0, .inr (7, [v0, v1, v2, v3, v4, v5, v6, v7, v8, v9, .ref e0, .int ts, .int bg_269, .int en_270, .int so_271, .int va_272, .int iw_273, v17, .ref y0, .ref z0, .int im, .int sT, v22, .int n_256, v24, v25, v26, v27])), (e0, .inl (ec, 120, .inl ef))]) hP hD [2, 3] [0, 1] rfl rfl (by decide) (by decide) hk1 hFc hP1 hD1
      generalize H1 = H at hP hS ⊢
      have hP : va_P (dC, dI) vwCl [(y0, .inl (yc, 360, .inl yf)), (z0, .inl (zc, 120, .inr (.inl gf))), (h0, .inr (7, [v0, v1, v2, v3, v4, v5, v6, v7, v8, v9, .ref e0, .int ts, .int bg_269, .int en_270, .int so_271, .int va_272, .int iw_273, v17, .ref y0, .ref z0, .int im, .int sT, v22, .int n_256, v24, v25, v26, v27])), (e0, .inl (ec, 120, .inl ef))] H := hP
      have hD : va_D A [(y0, .inl (yc, 360, .inl yf)), (z0, .inl (zc, 120, .inr (.inl gf))), (h0, .inr (7, [v0, v1, v2, v3, v4, v5, v6, v7, v8, v9, .ref e0, .int ts, .int bg_269, .int en_270, .int so_271, .int va_272, .int iw_273, v17, .ref y0, .ref z0, .int im, .int sT, v22, .int n_256, v24, v25, v26, v27])), (e0, .inl (ec, 120, .inl ef))] := hD
      refine lv_istore_n (lv' := [(3, .int r_268), (2, .int r_257), (1, .int va_249), (0, .ref h0)]) hx hb dX9_readHold_110 rfl hl (by decide) rfl (fun ls hl => ?_)
      refine lv_aload_n hx hb dX9_readHold_111 rfl (lv_at hl 3 rfl) ?_
      refine va_ldcSw (tx := "at") (q := ad 23) hx hb hown (ev_str hev 23 rfl) dX9_readHold_112 ?_
      refine lv_iconst (v := 0) hx hb dX9_readHold_115 (by decide) ?_
      refine lv_bipush (v := 7) hx hb dX9_readHold_116 (by decide) ?_
      have hPc := hP.sub (ws' := [(h0, .inr (7, [v0, v1, v2, v3, v4, v5, v6, v7, v8, v9, .ref e0, .int ts, .int bg_269, .int en_270, .int so_271, .int va_272, .int iw_273, v17, .ref y0, .ref z0, .int im, .int sT, v22, .int n_256, v24, v25, v26, v27])), (e0, .inl (ec, 120, .inl ef))]) [2, 3] rfl
      have hKc := hK.sub (tys' := [(ec, .int)]) [0] rfl
      have hDc := hD.sub (ws' := [(h0, .inr (7, [v0, v1, v2, v3, v4, v5, v6, v7, v8, v9, .ref e0, .int ts, .int bg_269, .int en_270, .int so_271, .int va_272, .int iw_273, v17, .ref y0, .ref z0, .int im, .int sT, v22, .int n_256, v24, v25, v26, v27])), (e0, .inl (ec, 120, .inl ef))]) [2, 3] (by decide) rfl
      have hFc := va_free (wc := [(h0, .inr (7, [v0, v1, v2, v3, v4, v5, v6, v7, v8, v9, .ref e0, .int ts, .int bg_269, .int en_270, .int so_271, .int va_272, .int iw_273, v17, .ref y0, .ref z0, .int im, .int sT, v22, .int n_256, v24, v25, v26, v27])), (e0, .inl (ec, 120, .inl ef))]) hD hS hA [2, 3] rfl
      refine va_calli (va_runV (As := [.ref (ad 23), .int 0, .int 7]) (rest := []) ⟨hx, hb, hml, hown, hts⟩ (m_after l dC dI ad h0 23 0 7 v0 v1 v2 v3 v4 v5 v6 v7 v8 v9 e0 ts bg_269 en_270 so_271 va_272 iw_273 v17 (.ref y0) (.ref z0) (.int im) (.int sT) v22 (.int n_256) v24 v25 v26 v27 ec ef H.size (by decide) htm hq_274 hq_275 hq_276) (cwV 3 hts g_m_readHold_m_after_270 rfl rfl rfl (by decide +kernel) ⟨(Nat.le_of_ble_eq_true rfl), (Nat.le_of_ble_eq_true rfl)⟩) ⟨preT_blind, va_recv hKc hPc (ci := 7) (q0 := 0) rfl rfl, fun U hU hW => ⟨rfl, preM_at hU hW hPc hKc hDc hev, sf_at hsf hS hFc hU hW⟩⟩ rfl rfl hl.1 rfl (lv_room (Nat.le_of_ble_eq_true rfl)) dX9_readHold_118 ⟨(Nat.le_of_ble_eq_true rfl), (Nat.le_of_ble_eq_true rfl)⟩) hS (fun q _ h => hFc q h) hFc (fun r_279 u t H1 locs ht hvm hw hB hz1 hk1 hS => ?_)
      obtain ⟨bg_280, en_281, so_282, va_283, iw_284, hq_285, hq_286, hq_287, hq_288, hq_289, hP1, hK1, hD1⟩ := hB
      rw [ht] at hP1
      have hK1 := va_K.moved hvm.symm hK1
      obtain ⟨hP, hD⟩ := va_join (wr := [(y0, .inl (yc, 360, .inl yf)), (z0, .inl (zc, 120, .inr (.inl gf)))]) (w1 := [(h0, .inr (7, [v0, v1, v2, v3, v4, v5, v6, v7, v8, v9, .ref e0, .int ts, .int bg_280, .int en_281, .int so_282, .int va_283, .int iw_284, v17, .ref y0, .ref z0, .int im, .int sT, v22, .int n_256, v24, v25, v26, v27])), (e0, .inl (ec, 120, .inl ef))]) hP hD [2, 3] [0, 1] rfl rfl (by decide) (by decide) hk1 hFc hP1 hD1
      generalize H1 = H at hP hS ⊢
      have hP : va_P (dC, dI) vwCl [(y0, .inl (yc, 360, .inl yf)), (z0, .inl (zc, 120, .inr (.inl gf))), (h0, .inr (7, [v0, v1, v2, v3, v4, v5, v6, v7, v8, v9, .ref e0, .int ts, .int bg_280, .int en_281, .int so_282, .int va_283, .int iw_284, v17, .ref y0, .ref z0, .int im, .int sT, v22, .int n_256, v24, v25, v26, v27])), (e0, .inl (ec, 120, .inl ef))] H := hP
      have hD : va_D A [(y0, .inl (yc, 360, .inl yf)), (z0, .inl (zc, 120, .inr (.inl gf))), (h0, .inr (7, [v0, v1, v2, v3, v4, v5, v6, v7, v8, v9, .ref e0, .int ts, .int bg_280, .int en_281, .int so_282, .int va_283, .int iw_284, v17, .ref y0, .ref z0, .int im, .int sT, v22, .int n_256, v24, v25, v26, v27])), (e0, .inl (ec, 120, .inl ef))] := hD
      refine lv_istore (lv' := [(4, .int r_279), (3, .int r_268), (2, .int r_257), (1, .int va_249), (0, .ref h0)]) hx hb dX9_readHold_121 hl (by decide) rfl (fun ls hl => ?_)
      refine lv_aload_n hx hb dX9_readHold_123 rfl (lv_at hl 4 rfl) ?_
      refine lv_bipush (v := 11) hx hb dX9_readHold_124 (by decide) ?_
      refine lv_iload_n hx hb dX9_readHold_126 rfl (lv_at hl 3 rfl) ?_
      refine lv_sipush (v := 1000) hx hb dX9_readHold_127 (by decide) ?_
      refine lv_iconst (v := 4) hx hb dX9_readHold_130 (by decide) ?_
      refine lv_iload_n hx hb dX9_readHold_131 rfl (lv_at hl 2 rfl) ?_
      refine lv_imul hx hb dX9_readHold_132 ?_
      refine lv_topi (fun n_290 en_290 => ?_)
      refine lv_iload_n hx hb dX9_readHold_133 rfl (lv_at hl 1 rfl) ?_
      refine lv_iadd hx hb dX9_readHold_134 ?_
      refine lv_topi (fun n_291 en_291 => ?_)
      refine lv_imul hx hb dX9_readHold_135 ?_
      refine lv_topi (fun n_292 en_292 => ?_)
      refine lv_bipush (v := 10) hx hb dX9_readHold_136 (by decide) ?_
      refine lv_iload hx hb dX9_readHold_138 (lv_at hl 0 rfl) ?_
      refine lv_imul hx hb dX9_readHold_140 ?_
      refine lv_topi (fun n_293 en_293 => ?_)
      refine lv_iadd hx hb dX9_readHold_141 ?_
      refine lv_topi (fun n_294 en_294 => ?_)
      refine lv_aload_n hx hb dX9_readHold_142 rfl (lv_at hl 4 rfl) ?_
      refine lv_iconst (v := 0) hx hb dX9_readHold_143 (by decide) ?_
      refine lv_bipush (v := 7) hx hb dX9_readHold_144 (by decide) ?_
      have hPc := hP.sub (ws' := [(h0, .inr (7, [v0, v1, v2, v3, v4, v5, v6, v7, v8, v9, .ref e0, .int ts, .int bg_280, .int en_281, .int so_282, .int va_283, .int iw_284, v17, .ref y0, .ref z0, .int im, .int sT, v22, .int n_256, v24, v25, v26, v27])), (e0, .inl (ec, 120, .inl ef))]) [2, 3] rfl
      have hKc := hK.sub (tys' := [(ec, .int)]) [0] rfl
      have hDc := hD.sub (ws' := [(h0, .inr (7, [v0, v1, v2, v3, v4, v5, v6, v7, v8, v9, .ref e0, .int ts, .int bg_280, .int en_281, .int so_282, .int va_283, .int iw_284, v17, .ref y0, .ref z0, .int im, .int sT, v22, .int n_256, v24, v25, v26, v27])), (e0, .inl (ec, 120, .inl ef))]) [2, 3] (by decide) rfl
      have hFc := va_free (wc := [(h0, .inr (7, [v0, v1, v2, v3, v4, v5, v6, v7, v8, v9, .ref e0, .int ts, .int bg_280, .int en_281, .int so_282, .int va_283, .int iw_284, v17, .ref y0, .ref z0, .int im, .int sT, v22, .int n_256, v24, v25, v26, v27])), (e0, .inl (ec, 120, .inl ef))]) hD hS hA [2, 3] rfl
      refine va_calli (va_runV (As := [.int 0, .int 7]) (rest := [.int n_294, .int va_249, .int 11, .ref h0]) ⟨hx, hb, hml, hown, hts⟩ (m_number l dC dI ad h0 0 7 v0 v1 v2 v3 v4 v5 v6 v7 v8 v9 e0 ts bg_280 en_281 so_282 va_283 iw_284 v17 (.ref y0) (.ref z0) (.int im) (.int sT) v22 (.int n_256) v24 v25 v26 v27 ec ef H.size htm hq_285 hq_286 hq_287) (cwV 2 hts g_m_readHold_m_number_235 rfl rfl rfl (by decide +kernel) ⟨(Nat.le_of_ble_eq_true rfl), (Nat.le_of_ble_eq_true rfl)⟩) ⟨preM_blind, va_recv hKc hPc (ci := 7) (q0 := 0) rfl rfl, fun U hU hW => ⟨rfl, preM_at hU hW hPc hKc hDc hev⟩⟩ rfl rfl hl.1 rfl (lv_room (Nat.le_of_ble_eq_true rfl)) dX9_readHold_146 ⟨(Nat.le_of_ble_eq_true rfl), (Nat.le_of_ble_eq_true rfl)⟩) hS (fun q _ h => hFc q h) hFc (fun r_295 u t H1 locs ht hvm hw hB hz1 hk1 hS => ?_)
      obtain ⟨bg_296, en_297, so_298, va_299, iw_300, hq_301, hq_302, hq_303, hq_304, hq_305, hP1, hK1, hD1⟩ := hB
      rw [ht] at hP1
      have hK1 := va_K.moved hvm.symm hK1
      obtain ⟨hP, hD⟩ := va_join (wr := [(y0, .inl (yc, 360, .inl yf)), (z0, .inl (zc, 120, .inr (.inl gf)))]) (w1 := [(h0, .inr (7, [v0, v1, v2, v3, v4, v5, v6, v7, v8, v9, .ref e0, .int ts, .int bg_296, .int en_297, .int so_298, .int va_299, .int iw_300, v17, .ref y0, .ref z0, .int im, .int sT, v22, .int n_256, v24, v25, v26, v27])), (e0, .inl (ec, 120, .inl ef))]) hP hD [2, 3] [0, 1] rfl rfl (by decide) (by decide) hk1 hFc hP1 hD1
      generalize H1 = H at hP hS ⊢
      have hP : va_P (dC, dI) vwCl [(y0, .inl (yc, 360, .inl yf)), (z0, .inl (zc, 120, .inr (.inl gf))), (h0, .inr (7, [v0, v1, v2, v3, v4, v5, v6, v7, v8, v9, .ref e0, .int ts, .int bg_296, .int en_297, .int so_298, .int va_299, .int iw_300, v17, .ref y0, .ref z0, .int im, .int sT, v22, .int n_256, v24, v25, v26, v27])), (e0, .inl (ec, 120, .inl ef))] H := hP
      have hD : va_D A [(y0, .inl (yc, 360, .inl yf)), (z0, .inl (zc, 120, .inr (.inl gf))), (h0, .inr (7, [v0, v1, v2, v3, v4, v5, v6, v7, v8, v9, .ref e0, .int ts, .int bg_296, .int en_297, .int so_298, .int va_299, .int iw_300, v17, .ref y0, .ref z0, .int im, .int sT, v22, .int n_256, v24, v25, v26, v27])), (e0, .inl (ec, 120, .inl ef))] := hD
      have hr_295 : r_295.toInt = va_283.toInt := hw
      have hq_305 : iw_300.toInt = 0 → iw_284.toInt = 0 ∧ (0 : Int) ≤ va_283.toInt ∧ va_283.toInt ≤ (7 : Int) ∧ en_281.toInt ≤ bg_296.toInt := hq_305
      refine lv_iadd hx hb dX9_readHold_149 ?_
      refine lv_topi (fun n_306 en_306 => ?_)
      refine lv_lconst (v := 0) hx hb dX9_readHold_150 (by decide) ?_
      have hPc := hP.sub (ws' := [(h0, .inr (7, [v0, v1, v2, v3, v4, v5, v6, v7, v8, v9, .ref e0, .int ts, .int bg_296, .int en_297, .int so_298, .int va_299, .int iw_300, v17, .ref y0, .ref z0, .int im, .int sT, v22, .int n_256, v24, v25, v26, v27])), (y0, .inl (yc, 360, .inl yf)), (z0, .inl (zc, 120, .inr (.inl gf)))]) [2, 0, 1] rfl
      have hKc := hK.sub (tys' := [(yc, .int), (zc, .long)]) [1, 2] rfl
      have hDc := hD.sub (ws' := [(h0, .inr (7, [v0, v1, v2, v3, v4, v5, v6, v7, v8, v9, .ref e0, .int ts, .int bg_296, .int en_297, .int so_298, .int va_299, .int iw_300, v17, .ref y0, .ref z0, .int im, .int sT, v22, .int n_256, v24, v25, v26, v27])), (y0, .inl (yc, 360, .inl yf)), (z0, .inl (zc, 120, .inr (.inl gf)))]) [2, 0, 1] (by decide) rfl
      have hFc := va_free (wc := [(h0, .inr (7, [v0, v1, v2, v3, v4, v5, v6, v7, v8, v9, .ref e0, .int ts, .int bg_296, .int en_297, .int so_298, .int va_299, .int iw_300, v17, .ref y0, .ref z0, .int im, .int sT, v22, .int n_256, v24, v25, v26, v27])), (y0, .inl (yc, 360, .inl yf)), (z0, .inl (zc, 120, .inr (.inl gf)))]) hD hS hA [2, 0, 1] rfl
      refine va_callv (va_runV (As := [.int 11, .int va_249, .int n_306, .long 0]) (rest := []) ⟨hx, hb, hml, hown, hts⟩ (m_item l dC dI ad h0 11 va_249 n_306 0 v0 v1 v2 v3 v4 v5 v6 v7 v8 v9 (.ref e0) (.int ts) (.int bg_296) (.int en_297) (.int so_298) (.int va_299) (.int iw_300) v17 y0 z0 im (.int sT) v22 (.int n_256) v24 v25 v26 v27 yc yf zc gf H.size him) (cwV 4 hts g_m_readHold_m_item_247 rfl rfl rfl (by decide +kernel) ⟨(Nat.le_of_ble_eq_true rfl), (Nat.le_of_ble_eq_true rfl)⟩) ⟨preM_blind, va_recv hKc hPc (ci := 7) (q0 := 0) rfl rfl, fun U hU hW => ⟨rfl, preM_at hU hW hPc hKc hDc hev⟩⟩ rfl rfl hl.1 rfl (lv_room (Nat.le_of_ble_eq_true rfl)) dX9_readHold_151 ⟨(Nat.le_of_ble_eq_true rfl), (Nat.le_of_ble_eq_true rfl)⟩) hS (fun q _ h => hFc q h) hFc (fun u t H1 locs ht hvm hw hB hz1 hk1 hS => ?_)
      obtain ⟨im_308, yg_309, gg_310, hq_311, hq_312, hP1, hK1, hD1⟩ := hB
      rw [ht] at hP1
      have hK1 := va_K.moved hvm.symm hK1
      obtain ⟨hP, hD⟩ := va_join (wr := [(e0, .inl (ec, 120, .inl ef))]) (w1 := [(h0, .inr (7, [v0, v1, v2, v3, v4, v5, v6, v7, v8, v9, .ref e0, .int ts, .int bg_296, .int en_297, .int so_298, .int va_299, .int iw_300, v17, .ref y0, .ref z0, .int im_308, .int sT, v22, .int n_256, v24, v25, v26, v27])), (y0, .inl (yc, 360, .inl yg_309)), (z0, .inl (zc, 120, .inr (.inl gg_310)))]) hP hD [2, 0, 1] [3] rfl rfl (by decide) (by decide) hk1 hFc hP1 hD1
      generalize H1 = H at hP hS ⊢
      have hP : va_P (dC, dI) vwCl [(e0, .inl (ec, 120, .inl ef)), (h0, .inr (7, [v0, v1, v2, v3, v4, v5, v6, v7, v8, v9, .ref e0, .int ts, .int bg_296, .int en_297, .int so_298, .int va_299, .int iw_300, v17, .ref y0, .ref z0, .int im_308, .int sT, v22, .int n_256, v24, v25, v26, v27])), (y0, .inl (yc, 360, .inl yg_309)), (z0, .inl (zc, 120, .inr (.inl gg_310)))] H := hP
      have hD : va_D A [(e0, .inl (ec, 120, .inl ef)), (h0, .inr (7, [v0, v1, v2, v3, v4, v5, v6, v7, v8, v9, .ref e0, .int ts, .int bg_296, .int en_297, .int so_298, .int va_299, .int iw_300, v17, .ref y0, .ref z0, .int im_308, .int sT, v22, .int n_256, v24, v25, v26, v27])), (y0, .inl (yc, 360, .inl yg_309)), (z0, .inl (zc, 120, .inr (.inl gg_310)))] := hD
      have hP9 := hP.sub (ws' := [(h0, .inr (7, [v0, v1, v2, v3, v4, v5, v6, v7, v8, v9, .ref e0, .int ts, .int bg_296, .int en_297, .int so_298, .int va_299, .int iw_300, v17, .ref y0, .ref z0, .int im_308, .int sT, v22, .int n_256, v24, v25, v26, v27])), (e0, .inl (ec, 120, .inl ef)), (y0, .inl (yc, 360, .inl yg_309)), (z0, .inl (zc, 120, .inr (.inl gg_310)))]) [1, 0, 2, 3] rfl
      have hD9 := hD.sub (ws' := [(h0, .inr (7, [v0, v1, v2, v3, v4, v5, v6, v7, v8, v9, .ref e0, .int ts, .int bg_296, .int en_297, .int so_298, .int va_299, .int iw_300, v17, .ref y0, .ref z0, .int im_308, .int sT, v22, .int n_256, v24, v25, v26, v27])), (e0, .inl (ec, 120, .inl ef)), (y0, .inl (yc, 360, .inl yg_309)), (z0, .inl (zc, 120, .inr (.inl gg_310)))]) [1, 0, 2, 3] (by decide) rfl
      have hK9 := hK.sub (tys' := [(ec, .int), (yc, .int), (zc, .long)]) [0, 1, 2] rfl
      exact W.vret hx hb hr (fun t ht hW => ⟨⟨(), rfl, trivial, bg_296, en_297, so_298, va_299, iw_300, n_256, im_308, yg_309, gg_310, hq_301, hq_302, hq_303, hq_304, (by first | omega | decide | (simp only [fa_lt, fa_le, fa_eq, and_true, true_and, and_false, false_and, not_true_eq_false, not_false_eq_true, li_0, li_1, li_2, li_3, li_4, li_5, li_6, li_7, li_8, li_9, li_10, li_12, li_15, li_16, li_20, li_30, li_34, li_38, li_40, li_63, li_64, li_65, li_78, li_120, li_1000, li_4000, li_10000, li_11077, li_255, li_65535, li_m1, li_m2, li_m1000000001, li_m1000000002, li_m1000000003, li_m1000000004, li_m1000000005, li_m1000000006, li_m1000000007, or_true, true_or, or_false, false_or, implies_true, true_implies, false_implies] <;> omega)), hq_311, (fun hz cc => absurd hz (by first | omega | decide)), by rw [ht]; exact hP9, va_K.moved hW.alike hK9, hD9⟩, hS.F ht⟩) hS.2.2 dX9_readHold_154
    · skip
      have tc_254 : so_248.toInt = 2 := (fa_eq _ _).mp c_254
      refine lv_iload_n hx hb dX9_readHold_35 rfl (lv_at hl 0 rfl) ?_
      refine lv_iconst (v := 0) hx hb dX9_readHold_36 (by decide) ?_
      refine lv_aload_n hx hb dX9_readHold_37 rfl (lv_at hl 1 rfl) ?_
      refine va_get (D := (dC, dI)) (ci := 7) (v := .int sT) (C := RX9) (T := TX9) (N := 28) hx hb hts inX9 hown hK hP 2 rfl rfl 21 (by decide) (hts _ (List.mem_of_getElem? (i := 103) rfl)) (fun _ h9 => h9) rfl dX9_readHold_38 ?_
      refine lv_iconst (v := 1) hx hb dX9_readHold_41 (by decide) ?_
      refine lv_isub hx hb dX9_readHold_42 ?_
      refine lv_topi (fun n_313 en_313 => ?_)
      have tn_313 : n_313.toInt = sT.toInt - 1 := pp_sub en_313 rfl rfl (by omega) (by omega)
      have hPc := hP.sub (ws' := []) [] rfl
      have hKc := hK.sub (tys' := []) [] rfl
      refine vp_callSi (W.runS (As := [.int va_249, .int 0, .int n_313]) (rest := [.ref h0]) ⟨hx, hb, hml, hown, hts⟩ (m_within l dC dI ad va_249 0 n_313 ) (va_cwS 3 hts g_m_readHold_m_within_75 rfl rfl rfl (by decide +kernel) ⟨(Nat.le_of_ble_eq_true rfl), (Nat.le_of_ble_eq_true rfl)⟩) ⟨preS_blind, fun U hU hW => ⟨rfl, preS_at hU hW hPc hKc hev⟩⟩ rfl rfl hl.1 rfl (lv_room (Nat.le_of_ble_eq_true rfl)) dX9_readHold_43 ⟨(Nat.le_of_ble_eq_true rfl), (Nat.le_of_ble_eq_true rfl)⟩) (fun r_314 hw => ?_)
      have hr_314 : (r_314.toInt = 1 ∧ 0 ≤ va_249.toInt ∧ va_249.toInt ≤ n_313.toInt) ∨ (r_314.toInt = 0 ∧ ¬ (0 ≤ va_249.toInt ∧ va_249.toInt ≤ n_313.toInt)) := hw
      refine lv_if_eq (tgt := 64) hx hb dX9_readHold_46 (by decide) (fun c_315 => ?_) (fun c_315 => ?_)
      · skip
        have tc_315 : r_314.toInt = 0 := (fa_eq _ _).mp c_315
        refine lv_iconst (v := 0) hx hb dX9_readHold_64 (by decide) ?_
        have hPc := hP.sub (ws' := [(h0, .inr (7, [v0, v1, v2, v3, v4, v5, v6, v7, v8, v9, .ref e0, .int ts, .int bg_246, .int en_247, .int so_248, .int va_249, .int 0, v17, .ref y0, .ref z0, .int im, .int sT, v22, .int hT, v24, v25, v26, v27]))]) [2] rfl
        have hKc := hK.sub (tys' := []) [] rfl
        have hDc := hD.sub (ws' := [(h0, .inr (7, [v0, v1, v2, v3, v4, v5, v6, v7, v8, v9, .ref e0, .int ts, .int bg_246, .int en_247, .int so_248, .int va_249, .int 0, v17, .ref y0, .ref z0, .int im, .int sT, v22, .int hT, v24, v25, v26, v27]))]) [2] (by decide) rfl
        have hFc := va_free (wc := [(h0, .inr (7, [v0, v1, v2, v3, v4, v5, v6, v7, v8, v9, .ref e0, .int ts, .int bg_246, .int en_247, .int so_248, .int va_249, .int 0, v17, .ref y0, .ref z0, .int im, .int sT, v22, .int hT, v24, v25, v26, v27]))]) hD hS hA [2] rfl
        refine va_callv (va_runV (As := [.int 0]) (rest := []) ⟨hx, hb, hml, hown, hts⟩ (m_must0 l dC dI ad h0 v0 v1 v2 v3 v4 v5 v6 v7 v8 v9 (.ref e0) (.int ts) (.int bg_246) (.int en_247) (.int so_248) (.int va_249) 0 v17 (.ref y0) (.ref z0) (.int im) (.int sT) v22 (.int hT) v24 v25 v26 v27 H.size ) (cwV 1 hts g_m_readHold_m_must0_224 rfl rfl rfl (by decide +kernel) ⟨(Nat.le_of_ble_eq_true rfl), (Nat.le_of_ble_eq_true rfl)⟩) ⟨preM_blind, va_recv hKc hPc (ci := 7) (q0 := 0) rfl rfl, fun U hU hW => ⟨rfl, preM_at hU hW hPc hKc hDc hev⟩⟩ rfl rfl hl.1 rfl (lv_room (Nat.le_of_ble_eq_true rfl)) dX9_readHold_65 ⟨(Nat.le_of_ble_eq_true rfl), (Nat.le_of_ble_eq_true rfl)⟩) hS (fun q _ h => hFc q h) hFc (fun u t H1 locs ht hvm hw hB hz1 hk1 hS => ?_)
        obtain ⟨hP1, hK1, hD1⟩ := hB
        rw [ht] at hP1
        have hK1 := va_K.moved hvm.symm hK1
        obtain ⟨hP, hD⟩ := va_join (wr := [(y0, .inl (yc, 360, .inl yf)), (z0, .inl (zc, 120, .inr (.inl gf))), (e0, .inl (ec, 120, .inl ef))]) (w1 := [(h0, .inr (7, [v0, v1, v2, v3, v4, v5, v6, v7, v8, v9, .ref e0, .int ts, .int bg_246, .int en_247, .int so_248, .int va_249, .int 1, v17, .ref y0, .ref z0, .int im, .int sT, v22, .int hT, v24, v25, v26, v27]))]) hP hD [2] [0, 1, 3] rfl rfl (by decide) (by decide) hk1 hFc hP1 hD1
        generalize H1 = H at hP hS ⊢
        have hP : va_P (dC, dI) vwCl [(y0, .inl (yc, 360, .inl yf)), (z0, .inl (zc, 120, .inr (.inl gf))), (e0, .inl (ec, 120, .inl ef)), (h0, .inr (7, [v0, v1, v2, v3, v4, v5, v6, v7, v8, v9, .ref e0, .int ts, .int bg_246, .int en_247, .int so_248, .int va_249, .int 1, v17, .ref y0, .ref z0, .int im, .int sT, v22, .int hT, v24, v25, v26, v27]))] H := hP
        have hD : va_D A [(y0, .inl (yc, 360, .inl yf)), (z0, .inl (zc, 120, .inr (.inl gf))), (e0, .inl (ec, 120, .inl ef)), (h0, .inr (7, [v0, v1, v2, v3, v4, v5, v6, v7, v8, v9, .ref e0, .int ts, .int bg_246, .int en_247, .int so_248, .int va_249, .int 1, v17, .ref y0, .ref z0, .int im, .int sT, v22, .int hT, v24, v25, v26, v27]))] := hD
        refine lv_aload_n hx hb dX9_readHold_68 rfl (lv_at hl 1 rfl) ?_
        refine lv_dup hx hb dX9_readHold_69 rfl ?_
        refine va_get (D := (dC, dI)) (ci := 7) (v := .int hT) (C := RX9) (T := TX9) (N := 28) hx hb hts inX9 hown hK hP 3 rfl rfl 23 (by decide) (hts _ (List.mem_of_getElem? (i := 1) rfl)) (fun _ h9 => h9) rfl dX9_readHold_70 ?_
        refine lv_aload_n hx hb dX9_readHold_73 rfl (lv_at hl 1 rfl) ?_
        refine va_get (D := (dC, dI)) (ci := 7) (v := .int 1) (C := RX9) (T := TX9) (N := 28) hx hb hts inX9 hown hK hP 3 rfl rfl 16 (by decide) (hts _ (List.mem_of_getElem? (i := 10) rfl)) (fun _ h9 => h9) rfl dX9_readHold_74 ?_
        refine lv_if_eq (tgt := 84) hx hb dX9_readHold_77 (by decide) (fun c => absurd c (by decide)) (fun _ => ?_)
        refine lv_iconst (v := 0) hx hb dX9_readHold_80 (by decide) ?_
        refine lv_goto (tgt := 87) hx hb dX9_readHold_81 (by decide) ?_
        refine lv_ior hx hb dX9_readHold_87 ?_
        refine lv_topi (fun n_317 en_317 => ?_)
        have tn_317 : n_317.toInt = hT.toInt := by rw [pp_or0 en_317]
        refine va_put (D := (dC, dI)) (ci := 7) (v := .int n_317) (ty := .int) (C := RX9) (T := TX9) (N := 28) hx hb hts inX9 tyX9 tyX9_ok nmX9 hown hK hP hD hS 3 rfl rfl 23 (by decide) (hts _ (List.mem_of_getElem? (i := 1) rfl)) (fun _ h9 => h9) rfl (by decide +kernel) rfl rfl (Nat.le_of_ble_eq_true rfl) dX9_readHold_88 (fun H locs hP hD hS => ?_)
        have hP : va_P (dC, dI) vwCl [(y0, .inl (yc, 360, .inl yf)), (z0, .inl (zc, 120, .inr (.inl gf))), (e0, .inl (ec, 120, .inl ef)), (h0, .inr (7, [v0, v1, v2, v3, v4, v5, v6, v7, v8, v9, .ref e0, .int ts, .int bg_246, .int en_247, .int so_248, .int va_249, .int 1, v17, .ref y0, .ref z0, .int im, .int sT, v22, .int n_317, v24, v25, v26, v27]))] H := hP
        have hD : va_D A [(y0, .inl (yc, 360, .inl yf)), (z0, .inl (zc, 120, .inr (.inl gf))), (e0, .inl (ec, 120, .inl ef)), (h0, .inr (7, [v0, v1, v2, v3, v4, v5, v6, v7, v8, v9, .ref e0, .int ts, .int bg_246, .int en_247, .int so_248, .int va_249, .int 1, v17, .ref y0, .ref z0, .int im, .int sT, v22, .int n_317, v24, v25, v26, v27]))] := hD
        refine lv_aload_n hx hb dX9_readHold_91 rfl (lv_at hl 1 rfl) ?_
        refine va_ldcSw (tx := "near") (q := ad 21) hx hb hown (ev_str hev 21 rfl) dX9_readHold_92 ?_
        refine lv_iconst (v := 1) hx hb dX9_readHold_95 (by decide) ?_
        refine lv_iconst (v := 2) hx hb dX9_readHold_96 (by decide) ?_
        have hPc := hP.sub (ws' := [(h0, .inr (7, [v0, v1, v2, v3, v4, v5, v6, v7, v8, v9, .ref e0, .int ts, .int bg_246, .int en_247, .int so_248, .int va_249, .int 1, v17, .ref y0, .ref z0, .int im, .int sT, v22, .int n_317, v24, v25, v26, v27])), (e0, .inl (ec, 120, .inl ef))]) [3, 2] rfl
        have hKc := hK.sub (tys' := [(ec, .int)]) [0] rfl
        have hDc := hD.sub (ws' := [(h0, .inr (7, [v0, v1, v2, v3, v4, v5, v6, v7, v8, v9, .ref e0, .int ts, .int bg_246, .int en_247, .int so_248, .int va_249, .int 1, v17, .ref y0, .ref z0, .int im, .int sT, v22, .int n_317, v24, v25, v26, v27])), (e0, .inl (ec, 120, .inl ef))]) [3, 2] (by decide) rfl
        have hFc := va_free (wc := [(h0, .inr (7, [v0, v1, v2, v3, v4, v5, v6, v7, v8, v9, .ref e0, .int ts, .int bg_246, .int en_247, .int so_248, .int va_249, .int 1, v17, .ref y0, .ref z0, .int im, .int sT, v22, .int n_317, v24, v25, v26, v27])), (e0, .inl (ec, 120, .inl ef))]) hD hS hA [3, 2] rfl
        refine va_calli (va_runV (As := [.ref (ad 21), .int 1, .int 2]) (rest := []) ⟨hx, hb, hml, hown, hts⟩ (m_after l dC dI ad h0 21 1 2 v0 v1 v2 v3 v4 v5 v6 v7 v8 v9 e0 ts bg_246 en_247 so_248 va_249 1 v17 (.ref y0) (.ref z0) (.int im) (.int sT) v22 (.int n_317) v24 v25 v26 v27 ec ef H.size (by decide) htm hq_250 hq_251 hq_252) (cwV 3 hts g_m_readHold_m_after_270 rfl rfl rfl (by decide +kernel) ⟨(Nat.le_of_ble_eq_true rfl), (Nat.le_of_ble_eq_true rfl)⟩) ⟨preT_blind, va_recv hKc hPc (ci := 7) (q0 := 0) rfl rfl, fun U hU hW => ⟨rfl, preM_at hU hW hPc hKc hDc hev, sf_at hsf hS hFc hU hW⟩⟩ rfl rfl hl.1 rfl (lv_room (Nat.le_of_ble_eq_true rfl)) dX9_readHold_97 ⟨(Nat.le_of_ble_eq_true rfl), (Nat.le_of_ble_eq_true rfl)⟩) hS (fun q _ h => hFc q h) hFc (fun r_318 u t H1 locs ht hvm hw hB hz1 hk1 hS => ?_)
        obtain ⟨bg_319, en_320, so_321, va_322, iw_323, hq_324, hq_325, hq_326, hq_327, hq_328, hP1, hK1, hD1⟩ := hB
        rw [ht] at hP1
        have hK1 := va_K.moved hvm.symm hK1
        obtain ⟨hP, hD⟩ := va_join (wr := [(y0, .inl (yc, 360, .inl yf)), (z0, .inl (zc, 120, .inr (.inl gf)))]) (w1 := [(h0, .inr (7, [v0, v1, v2, v3, v4, v5, v6, v7, v8, v9, .ref e0, .int ts, .int bg_319, .int en_320, .int so_321, .int va_322, .int iw_323, v17, .ref y0, .ref z0, .int im, .int sT, v22, .int n_317, v24, v25, v26, v27])), (e0, .inl (ec, 120, .inl ef))]) hP hD [3, 2] [0, 1] rfl rfl (by decide) (by decide) hk1 hFc hP1 hD1
        generalize H1 = H at hP hS ⊢
        have hP : va_P (dC, dI) vwCl [(y0, .inl (yc, 360, .inl yf)), (z0, .inl (zc, 120, .inr (.inl gf))), (h0, .inr (7, [v0, v1, v2, v3, v4, v5, v6, v7, v8, v9, .ref e0, .int ts, .int bg_319, .int en_320, .int so_321, .int va_322, .int iw_323, v17, .ref y0, .ref z0, .int im, .int sT, v22, .int n_317, v24, v25, v26, v27])), (e0, .inl (ec, 120, .inl ef))] H := hP
        have hD : va_D A [(y0, .inl (yc, 360, .inl yf)), (z0, .inl (zc, 120, .inr (.inl gf))), (h0, .inr (7, [v0, v1, v2, v3, v4, v5, v6, v7, v8, v9, .ref e0, .int ts, .int bg_319, .int en_320, .int so_321, .int va_322, .int iw_323, v17, .ref y0, .ref z0, .int im, .int sT, v22, .int n_317, v24, v25, v26, v27])), (e0, .inl (ec, 120, .inl ef))] := hD
        have hq_328 : iw_323.toInt = 0 → (1 : Int) = 0 ∧ bg_246.toInt ≤ bg_319.toInt := hq_328
        refine lv_istore_n (lv' := [(2, .int r_318), (1, .int va_249), (0, .ref h0)]) hx hb dX9_readHold_100 rfl hl (by decide) rfl (fun ls hl => ?_)
        refine lv_aload_n hx hb dX9_readHold_101 rfl (lv_at hl 2 rfl) ?_
        refine va_ldcSw (tx := "turn") (q := ad 22) hx hb hown (ev_str hev 22 rfl) dX9_readHold_102 ?_
        refine lv_iconst (v := 0) hx hb dX9_readHold_105 (by decide) ?_
        refine lv_iconst (v := 3) hx hb dX9_readHold_106 (by decide) ?_
        have hPc := hP.sub (ws' := [(h0, .inr (7, [v0, v1, v2, v3, v4, v5, v6, v7, v8, v9, .ref e0, .int ts, .int bg_319, .int en_320, .int so_321, .int va_322, .int iw_323, v17, .ref y0, .ref z0, .int im, .int sT, v22, .int n_317, v24, v25, v26, v27])), (e0, .inl (ec, 120, .inl ef))]) [2, 3] rfl
        have hKc := hK.sub (tys' := [(ec, .int)]) [0] rfl
        have hDc := hD.sub (ws' := [(h0, .inr (7, [v0, v1, v2, v3, v4, v5, v6, v7, v8, v9, .ref e0, .int ts, .int bg_319, .int en_320, .int so_321, .int va_322, .int iw_323, v17, .ref y0, .ref z0, .int im, .int sT, v22, .int n_317, v24, v25, v26, v27])), (e0, .inl (ec, 120, .inl ef))]) [2, 3] (by decide) rfl
        have hFc := va_free (wc := [(h0, .inr (7, [v0, v1, v2, v3, v4, v5, v6, v7, v8, v9, .ref e0, .int ts, .int bg_319, .int en_320, .int so_321, .int va_322, .int iw_323, v17, .ref y0, .ref z0, .int im, .int sT, v22, .int n_317, v24, v25, v26, v27])), (e0, .inl (ec, 120, .inl ef))]) hD hS hA [2, 3] rfl
        refine va_calli (va_runV (As := [.ref (ad 22), .int 0, .int 3]) (rest := []) ⟨hx, hb, hml, hown, hts⟩ (m_after l dC dI ad h0 22 0 3 v0 v1 v2 v3 v4 v5 v6 v7 v8 v9 e0 ts bg_319 en_320 so_321 va_322 iw_323 v17 (.ref y0) (.ref z0) (.int im) (.int sT) v22 (.int n_317) v24 v25 v26 v27 ec ef H.size (by decide) htm hq_324 hq_325 hq_326) (cwV 3 hts g_m_readHold_m_after_270 rfl rfl rfl (by decide +kernel) ⟨(Nat.le_of_ble_eq_true rfl), (Nat.le_of_ble_eq_true rfl)⟩) ⟨preT_blind, va_recv hKc hPc (ci := 7) (q0 := 0) rfl rfl, fun U hU hW => ⟨rfl, preM_at hU hW hPc hKc hDc hev, sf_at hsf hS hFc hU hW⟩⟩ rfl rfl hl.1 rfl (lv_room (Nat.le_of_ble_eq_true rfl)) dX9_readHold_107 ⟨(Nat.le_of_ble_eq_true rfl), (Nat.le_of_ble_eq_true rfl)⟩) hS (fun q _ h => hFc q h) hFc (fun r_329 u t H1 locs ht hvm hw hB hz1 hk1 hS => ?_)
        obtain ⟨bg_330, en_331, so_332, va_333, iw_334, hq_335, hq_336, hq_337, hq_338, hq_339, hP1, hK1, hD1⟩ := hB
        rw [ht] at hP1
        have hK1 := va_K.moved hvm.symm hK1
        obtain ⟨hP, hD⟩ := va_join (wr := [(y0, .inl (yc, 360, .inl yf)), (z0, .inl (zc, 120, .inr (.inl gf)))]) (w1 := [(h0, .inr (7, [v0, v1, v2, v3, v4, v5, v6, v7, v8, v9, .ref e0, .int ts, .int bg_330, .int en_331, .int so_332, .int va_333, .int iw_334, v17, .ref y0, .ref z0, .int im, .int sT, v22, .int n_317, v24, v25, v26, v27])), (e0, .inl (ec, 120, .inl ef))]) hP hD [2, 3] [0, 1] rfl rfl (by decide) (by decide) hk1 hFc hP1 hD1
        generalize H1 = H at hP hS ⊢
        have hP : va_P (dC, dI) vwCl [(y0, .inl (yc, 360, .inl yf)), (z0, .inl (zc, 120, .inr (.inl gf))), (h0, .inr (7, [v0, v1, v2, v3, v4, v5, v6, v7, v8, v9, .ref e0, .int ts, .int bg_330, .int en_331, .int so_332, .int va_333, .int iw_334, v17, .ref y0, .ref z0, .int im, .int sT, v22, .int n_317, v24, v25, v26, v27])), (e0, .inl (ec, 120, .inl ef))] H := hP
        have hD : va_D A [(y0, .inl (yc, 360, .inl yf)), (z0, .inl (zc, 120, .inr (.inl gf))), (h0, .inr (7, [v0, v1, v2, v3, v4, v5, v6, v7, v8, v9, .ref e0, .int ts, .int bg_330, .int en_331, .int so_332, .int va_333, .int iw_334, v17, .ref y0, .ref z0, .int im, .int sT, v22, .int n_317, v24, v25, v26, v27])), (e0, .inl (ec, 120, .inl ef))] := hD
        refine lv_istore_n (lv' := [(3, .int r_329), (2, .int r_318), (1, .int va_249), (0, .ref h0)]) hx hb dX9_readHold_110 rfl hl (by decide) rfl (fun ls hl => ?_)
        refine lv_aload_n hx hb dX9_readHold_111 rfl (lv_at hl 3 rfl) ?_
        refine va_ldcSw (tx := "at") (q := ad 23) hx hb hown (ev_str hev 23 rfl) dX9_readHold_112 ?_
        refine lv_iconst (v := 0) hx hb dX9_readHold_115 (by decide) ?_
        refine lv_bipush (v := 7) hx hb dX9_readHold_116 (by decide) ?_
        have hPc := hP.sub (ws' := [(h0, .inr (7, [v0, v1, v2, v3, v4, v5, v6, v7, v8, v9, .ref e0, .int ts, .int bg_330, .int en_331, .int so_332, .int va_333, .int iw_334, v17, .ref y0, .ref z0, .int im, .int sT, v22, .int n_317, v24, v25, v26, v27])), (e0, .inl (ec, 120, .inl ef))]) [2, 3] rfl
        have hKc := hK.sub (tys' := [(ec, .int)]) [0] rfl
        have hDc := hD.sub (ws' := [(h0, .inr (7, [v0, v1, v2, v3, v4, v5, v6, v7, v8, v9, .ref e0, .int ts, .int bg_330, .int en_331, .int so_332, .int va_333, .int iw_334, v17, .ref y0, .ref z0, .int im, .int sT, v22, .int n_317, v24, v25, v26, v27])), (e0, .inl (ec, 120, .inl ef))]) [2, 3] (by decide) rfl
        have hFc := va_free (wc := [(h0, .inr (7, [v0, v1, v2, v3, v4, v5, v6, v7, v8, v9, .ref e0, .int ts, .int bg_330, .int en_331, .int so_332, .int va_333, .int iw_334, v17, .ref y0, .ref z0, .int im, .int sT, v22, .int n_317, v24, v25, v26, v27])), (e0, .inl (ec, 120, .inl ef))]) hD hS hA [2, 3] rfl
        refine va_calli (va_runV (As := [.ref (ad 23), .int 0, .int 7]) (rest := []) ⟨hx, hb, hml, hown, hts⟩ (m_after l dC dI ad h0 23 0 7 v0 v1 v2 v3 v4 v5 v6 v7 v8 v9 e0 ts bg_330 en_331 so_332 va_333 iw_334 v17 (.ref y0) (.ref z0) (.int im) (.int sT) v22 (.int n_317) v24 v25 v26 v27 ec ef H.size (by decide) htm hq_335 hq_336 hq_337) (cwV 3 hts g_m_readHold_m_after_270 rfl rfl rfl (by decide +kernel) ⟨(Nat.le_of_ble_eq_true rfl), (Nat.le_of_ble_eq_true rfl)⟩) ⟨preT_blind, va_recv hKc hPc (ci := 7) (q0 := 0) rfl rfl, fun U hU hW => ⟨rfl, preM_at hU hW hPc hKc hDc hev, sf_at hsf hS hFc hU hW⟩⟩ rfl rfl hl.1 rfl (lv_room (Nat.le_of_ble_eq_true rfl)) dX9_readHold_118 ⟨(Nat.le_of_ble_eq_true rfl), (Nat.le_of_ble_eq_true rfl)⟩) hS (fun q _ h => hFc q h) hFc (fun r_340 u t H1 locs ht hvm hw hB hz1 hk1 hS => ?_)
        obtain ⟨bg_341, en_342, so_343, va_344, iw_345, hq_346, hq_347, hq_348, hq_349, hq_350, hP1, hK1, hD1⟩ := hB
        rw [ht] at hP1
        have hK1 := va_K.moved hvm.symm hK1
        obtain ⟨hP, hD⟩ := va_join (wr := [(y0, .inl (yc, 360, .inl yf)), (z0, .inl (zc, 120, .inr (.inl gf)))]) (w1 := [(h0, .inr (7, [v0, v1, v2, v3, v4, v5, v6, v7, v8, v9, .ref e0, .int ts, .int bg_341, .int en_342, .int so_343, .int va_344, .int iw_345, v17, .ref y0, .ref z0, .int im, .int sT, v22, .int n_317, v24, v25, v26, v27])), (e0, .inl (ec, 120, .inl ef))]) hP hD [2, 3] [0, 1] rfl rfl (by decide) (by decide) hk1 hFc hP1 hD1
        generalize H1 = H at hP hS ⊢
        have hP : va_P (dC, dI) vwCl [(y0, .inl (yc, 360, .inl yf)), (z0, .inl (zc, 120, .inr (.inl gf))), (h0, .inr (7, [v0, v1, v2, v3, v4, v5, v6, v7, v8, v9, .ref e0, .int ts, .int bg_341, .int en_342, .int so_343, .int va_344, .int iw_345, v17, .ref y0, .ref z0, .int im, .int sT, v22, .int n_317, v24, v25, v26, v27])), (e0, .inl (ec, 120, .inl ef))] H := hP
        have hD : va_D A [(y0, .inl (yc, 360, .inl yf)), (z0, .inl (zc, 120, .inr (.inl gf))), (h0, .inr (7, [v0, v1, v2, v3, v4, v5, v6, v7, v8, v9, .ref e0, .int ts, .int bg_341, .int en_342, .int so_343, .int va_344, .int iw_345, v17, .ref y0, .ref z0, .int im, .int sT, v22, .int n_317, v24, v25, v26, v27])), (e0, .inl (ec, 120, .inl ef))] := hD
        refine lv_istore (lv' := [(4, .int r_340), (3, .int r_329), (2, .int r_318), (1, .int va_249), (0, .ref h0)]) hx hb dX9_readHold_121 hl (by decide) rfl (fun ls hl => ?_)
        refine lv_aload_n hx hb dX9_readHold_123 rfl (lv_at hl 4 rfl) ?_
        refine lv_bipush (v := 11) hx hb dX9_readHold_124 (by decide) ?_
        refine lv_iload_n hx hb dX9_readHold_126 rfl (lv_at hl 3 rfl) ?_
        refine lv_sipush (v := 1000) hx hb dX9_readHold_127 (by decide) ?_
        refine lv_iconst (v := 4) hx hb dX9_readHold_130 (by decide) ?_
        refine lv_iload_n hx hb dX9_readHold_131 rfl (lv_at hl 2 rfl) ?_
        refine lv_imul hx hb dX9_readHold_132 ?_
        refine lv_topi (fun n_351 en_351 => ?_)
        refine lv_iload_n hx hb dX9_readHold_133 rfl (lv_at hl 1 rfl) ?_
        refine lv_iadd hx hb dX9_readHold_134 ?_
        refine lv_topi (fun n_352 en_352 => ?_)
        refine lv_imul hx hb dX9_readHold_135 ?_
        refine lv_topi (fun n_353 en_353 => ?_)
        refine lv_bipush (v := 10) hx hb dX9_readHold_136 (by decide) ?_
        refine lv_iload hx hb dX9_readHold_138 (lv_at hl 0 rfl) ?_
        refine lv_imul hx hb dX9_readHold_140 ?_
        refine lv_topi (fun n_354 en_354 => ?_)
        refine lv_iadd hx hb dX9_readHold_141 ?_
        refine lv_topi (fun n_355 en_355 => ?_)
        refine lv_aload_n hx hb dX9_readHold_142 rfl (lv_at hl 4 rfl) ?_
        refine lv_iconst (v := 0) hx hb dX9_readHold_143 (by decide) ?_
        refine lv_bipush (v := 7) hx hb dX9_readHold_144 (by decide) ?_
        have hPc := hP.sub (ws' := [(h0, .inr (7, [v0, v1, v2, v3, v4, v5, v6, v7, v8, v9, .ref e0, .int ts, .int bg_341, .int en_342, .int so_343, .int va_344, .int iw_345, v17, .ref y0, .ref z0, .int im, .int sT, v22, .int n_317, v24, v25, v26, v27])), (e0, .inl (ec, 120, .inl ef))]) [2, 3] rfl
        have hKc := hK.sub (tys' := [(ec, .int)]) [0] rfl
        have hDc := hD.sub (ws' := [(h0, .inr (7, [v0, v1, v2, v3, v4, v5, v6, v7, v8, v9, .ref e0, .int ts, .int bg_341, .int en_342, .int so_343, .int va_344, .int iw_345, v17, .ref y0, .ref z0, .int im, .int sT, v22, .int n_317, v24, v25, v26, v27])), (e0, .inl (ec, 120, .inl ef))]) [2, 3] (by decide) rfl
        have hFc := va_free (wc := [(h0, .inr (7, [v0, v1, v2, v3, v4, v5, v6, v7, v8, v9, .ref e0, .int ts, .int bg_341, .int en_342, .int so_343, .int va_344, .int iw_345, v17, .ref y0, .ref z0, .int im, .int sT, v22, .int n_317, v24, v25, v26, v27])), (e0, .inl (ec, 120, .inl ef))]) hD hS hA [2, 3] rfl
        refine va_calli (va_runV (As := [.int 0, .int 7]) (rest := [.int n_355, .int va_249, .int 11, .ref h0]) ⟨hx, hb, hml, hown, hts⟩ (m_number l dC dI ad h0 0 7 v0 v1 v2 v3 v4 v5 v6 v7 v8 v9 e0 ts bg_341 en_342 so_343 va_344 iw_345 v17 (.ref y0) (.ref z0) (.int im) (.int sT) v22 (.int n_317) v24 v25 v26 v27 ec ef H.size htm hq_346 hq_347 hq_348) (cwV 2 hts g_m_readHold_m_number_235 rfl rfl rfl (by decide +kernel) ⟨(Nat.le_of_ble_eq_true rfl), (Nat.le_of_ble_eq_true rfl)⟩) ⟨preM_blind, va_recv hKc hPc (ci := 7) (q0 := 0) rfl rfl, fun U hU hW => ⟨rfl, preM_at hU hW hPc hKc hDc hev⟩⟩ rfl rfl hl.1 rfl (lv_room (Nat.le_of_ble_eq_true rfl)) dX9_readHold_146 ⟨(Nat.le_of_ble_eq_true rfl), (Nat.le_of_ble_eq_true rfl)⟩) hS (fun q _ h => hFc q h) hFc (fun r_356 u t H1 locs ht hvm hw hB hz1 hk1 hS => ?_)
        obtain ⟨bg_357, en_358, so_359, va_360, iw_361, hq_362, hq_363, hq_364, hq_365, hq_366, hP1, hK1, hD1⟩ := hB
        rw [ht] at hP1
        have hK1 := va_K.moved hvm.symm hK1
        obtain ⟨hP, hD⟩ := va_join (wr := [(y0, .inl (yc, 360, .inl yf)), (z0, .inl (zc, 120, .inr (.inl gf)))]) (w1 := [(h0, .inr (7, [v0, v1, v2, v3, v4, v5, v6, v7, v8, v9, .ref e0, .int ts, .int bg_357, .int en_358, .int so_359, .int va_360, .int iw_361, v17, .ref y0, .ref z0, .int im, .int sT, v22, .int n_317, v24, v25, v26, v27])), (e0, .inl (ec, 120, .inl ef))]) hP hD [2, 3] [0, 1] rfl rfl (by decide) (by decide) hk1 hFc hP1 hD1
        generalize H1 = H at hP hS ⊢
        have hP : va_P (dC, dI) vwCl [(y0, .inl (yc, 360, .inl yf)), (z0, .inl (zc, 120, .inr (.inl gf))), (h0, .inr (7, [v0, v1, v2, v3, v4, v5, v6, v7, v8, v9, .ref e0, .int ts, .int bg_357, .int en_358, .int so_359, .int va_360, .int iw_361, v17, .ref y0, .ref z0, .int im, .int sT, v22, .int n_317, v24, v25, v26, v27])), (e0, .inl (ec, 120, .inl ef))] H := hP
        have hD : va_D A [(y0, .inl (yc, 360, .inl yf)), (z0, .inl (zc, 120, .inr (.inl gf))), (h0, .inr (7, [v0, v1, v2, v3, v4, v5, v6, v7, v8, v9, .ref e0, .int ts, .int bg_357, .int en_358, .int so_359, .int va_360, .int iw_361, v17, .ref y0, .ref z0, .int im, .int sT, v22, .int n_317, v24, v25, v26, v27])), (e0, .inl (ec, 120, .inl ef))] := hD
        have hr_356 : r_356.toInt = va_344.toInt := hw
        have hq_366 : iw_361.toInt = 0 → iw_345.toInt = 0 ∧ (0 : Int) ≤ va_344.toInt ∧ va_344.toInt ≤ (7 : Int) ∧ en_342.toInt ≤ bg_357.toInt := hq_366
        refine lv_iadd hx hb dX9_readHold_149 ?_
        refine lv_topi (fun n_367 en_367 => ?_)
        refine lv_lconst (v := 0) hx hb dX9_readHold_150 (by decide) ?_
        have hPc := hP.sub (ws' := [(h0, .inr (7, [v0, v1, v2, v3, v4, v5, v6, v7, v8, v9, .ref e0, .int ts, .int bg_357, .int en_358, .int so_359, .int va_360, .int iw_361, v17, .ref y0, .ref z0, .int im, .int sT, v22, .int n_317, v24, v25, v26, v27])), (y0, .inl (yc, 360, .inl yf)), (z0, .inl (zc, 120, .inr (.inl gf)))]) [2, 0, 1] rfl
        have hKc := hK.sub (tys' := [(yc, .int), (zc, .long)]) [1, 2] rfl
        have hDc := hD.sub (ws' := [(h0, .inr (7, [v0, v1, v2, v3, v4, v5, v6, v7, v8, v9, .ref e0, .int ts, .int bg_357, .int en_358, .int so_359, .int va_360, .int iw_361, v17, .ref y0, .ref z0, .int im, .int sT, v22, .int n_317, v24, v25, v26, v27])), (y0, .inl (yc, 360, .inl yf)), (z0, .inl (zc, 120, .inr (.inl gf)))]) [2, 0, 1] (by decide) rfl
        have hFc := va_free (wc := [(h0, .inr (7, [v0, v1, v2, v3, v4, v5, v6, v7, v8, v9, .ref e0, .int ts, .int bg_357, .int en_358, .int so_359, .int va_360, .int iw_361, v17, .ref y0, .ref z0, .int im, .int sT, v22, .int n_317, v24, v25, v26, v27])), (y0, .inl (yc, 360, .inl yf)), (z0, .inl (zc, 120, .inr (.inl gf)))]) hD hS hA [2, 0, 1] rfl
        refine va_callv (va_runV (As := [.int 11, .int va_249, .int n_367, .long 0]) (rest := []) ⟨hx, hb, hml, hown, hts⟩ (m_item l dC dI ad h0 11 va_249 n_367 0 v0 v1 v2 v3 v4 v5 v6 v7 v8 v9 (.ref e0) (.int ts) (.int bg_357) (.int en_358) (.int so_359) (.int va_360) (.int iw_361) v17 y0 z0 im (.int sT) v22 (.int n_317) v24 v25 v26 v27 yc yf zc gf H.size him) (cwV 4 hts g_m_readHold_m_item_247 rfl rfl rfl (by decide +kernel) ⟨(Nat.le_of_ble_eq_true rfl), (Nat.le_of_ble_eq_true rfl)⟩) ⟨preM_blind, va_recv hKc hPc (ci := 7) (q0 := 0) rfl rfl, fun U hU hW => ⟨rfl, preM_at hU hW hPc hKc hDc hev⟩⟩ rfl rfl hl.1 rfl (lv_room (Nat.le_of_ble_eq_true rfl)) dX9_readHold_151 ⟨(Nat.le_of_ble_eq_true rfl), (Nat.le_of_ble_eq_true rfl)⟩) hS (fun q _ h => hFc q h) hFc (fun u t H1 locs ht hvm hw hB hz1 hk1 hS => ?_)
        obtain ⟨im_369, yg_370, gg_371, hq_372, hq_373, hP1, hK1, hD1⟩ := hB
        rw [ht] at hP1
        have hK1 := va_K.moved hvm.symm hK1
        obtain ⟨hP, hD⟩ := va_join (wr := [(e0, .inl (ec, 120, .inl ef))]) (w1 := [(h0, .inr (7, [v0, v1, v2, v3, v4, v5, v6, v7, v8, v9, .ref e0, .int ts, .int bg_357, .int en_358, .int so_359, .int va_360, .int iw_361, v17, .ref y0, .ref z0, .int im_369, .int sT, v22, .int n_317, v24, v25, v26, v27])), (y0, .inl (yc, 360, .inl yg_370)), (z0, .inl (zc, 120, .inr (.inl gg_371)))]) hP hD [2, 0, 1] [3] rfl rfl (by decide) (by decide) hk1 hFc hP1 hD1
        generalize H1 = H at hP hS ⊢
        have hP : va_P (dC, dI) vwCl [(e0, .inl (ec, 120, .inl ef)), (h0, .inr (7, [v0, v1, v2, v3, v4, v5, v6, v7, v8, v9, .ref e0, .int ts, .int bg_357, .int en_358, .int so_359, .int va_360, .int iw_361, v17, .ref y0, .ref z0, .int im_369, .int sT, v22, .int n_317, v24, v25, v26, v27])), (y0, .inl (yc, 360, .inl yg_370)), (z0, .inl (zc, 120, .inr (.inl gg_371)))] H := hP
        have hD : va_D A [(e0, .inl (ec, 120, .inl ef)), (h0, .inr (7, [v0, v1, v2, v3, v4, v5, v6, v7, v8, v9, .ref e0, .int ts, .int bg_357, .int en_358, .int so_359, .int va_360, .int iw_361, v17, .ref y0, .ref z0, .int im_369, .int sT, v22, .int n_317, v24, v25, v26, v27])), (y0, .inl (yc, 360, .inl yg_370)), (z0, .inl (zc, 120, .inr (.inl gg_371)))] := hD
        have hP9 := hP.sub (ws' := [(h0, .inr (7, [v0, v1, v2, v3, v4, v5, v6, v7, v8, v9, .ref e0, .int ts, .int bg_357, .int en_358, .int so_359, .int va_360, .int iw_361, v17, .ref y0, .ref z0, .int im_369, .int sT, v22, .int n_317, v24, v25, v26, v27])), (e0, .inl (ec, 120, .inl ef)), (y0, .inl (yc, 360, .inl yg_370)), (z0, .inl (zc, 120, .inr (.inl gg_371)))]) [1, 0, 2, 3] rfl
        have hD9 := hD.sub (ws' := [(h0, .inr (7, [v0, v1, v2, v3, v4, v5, v6, v7, v8, v9, .ref e0, .int ts, .int bg_357, .int en_358, .int so_359, .int va_360, .int iw_361, v17, .ref y0, .ref z0, .int im_369, .int sT, v22, .int n_317, v24, v25, v26, v27])), (e0, .inl (ec, 120, .inl ef)), (y0, .inl (yc, 360, .inl yg_370)), (z0, .inl (zc, 120, .inr (.inl gg_371)))]) [1, 0, 2, 3] (by decide) rfl
        have hK9 := hK.sub (tys' := [(ec, .int), (yc, .int), (zc, .long)]) [0, 1, 2] rfl
        exact W.vret hx hb hr (fun t ht hW => ⟨⟨(), rfl, trivial, bg_357, en_358, so_359, va_360, iw_361, n_317, im_369, yg_370, gg_371, hq_362, hq_363, hq_364, hq_365, (by first | omega | decide | (simp only [fa_lt, fa_le, fa_eq, and_true, true_and, and_false, false_and, not_true_eq_false, not_false_eq_true, li_0, li_1, li_2, li_3, li_4, li_5, li_6, li_7, li_8, li_9, li_10, li_12, li_15, li_16, li_20, li_30, li_34, li_38, li_40, li_63, li_64, li_65, li_78, li_120, li_1000, li_4000, li_10000, li_11077, li_255, li_65535, li_m1, li_m2, li_m1000000001, li_m1000000002, li_m1000000003, li_m1000000004, li_m1000000005, li_m1000000006, li_m1000000007, or_true, true_or, or_false, false_or, implies_true, true_implies, false_implies] <;> omega)), hq_372, (fun hz cc => absurd hz (by first | omega | decide)), by rw [ht]; exact hP9, va_K.moved hW.alike hK9, hD9⟩, hS.F ht⟩) hS.2.2 dX9_readHold_154
      · skip
        have tc_315 : ¬ r_314.toInt = 0 := fun h => c_315 ((fa_eq _ _).mpr h)
        have i_374 : 0 ≤ va_249.toInt ∧ va_249.toInt ≤ n_313.toInt := by omega
        refine lv_aload_n hx hb dX9_readHold_49 rfl (lv_at hl 1 rfl) ?_
        refine va_get (D := (dC, dI)) (ci := 7) (v := .int hT) (C := RX9) (T := TX9) (N := 28) hx hb hts inX9 hown hK hP 2 rfl rfl 23 (by decide) (hts _ (List.mem_of_getElem? (i := 1) rfl)) (fun _ h9 => h9) rfl dX9_readHold_50 ?_
        refine lv_iload_n hx hb dX9_readHold_53 rfl (lv_at hl 0 rfl) ?_
        refine lv_ishr hx hb dX9_readHold_54 ?_
        refine lv_topi (fun n_375 en_375 => ?_)
        refine lv_iconst (v := 1) hx hb dX9_readHold_55 (by decide) ?_
        refine lv_iand hx hb dX9_readHold_56 ?_
        refine lv_topi (fun n_376 en_376 => ?_)
        have tbn_376 := mk_bit en_375 en_376 (by omega) (by omega) (by omega) (by omega)
        refine lv_if_ne (tgt := 64) hx hb dX9_readHold_57 (by decide) (fun c_377 => ?_) (fun c_377 => ?_)
        · skip
          have tc_377 : ¬ n_376.toInt = 0 := fun h => c_377 ((fa_eq _ _).mpr h)
          refine lv_iconst (v := 0) hx hb dX9_readHold_64 (by decide) ?_
          have hPc := hP.sub (ws' := [(h0, .inr (7, [v0, v1, v2, v3, v4, v5, v6, v7, v8, v9, .ref e0, .int ts, .int bg_246, .int en_247, .int so_248, .int va_249, .int 0, v17, .ref y0, .ref z0, .int im, .int sT, v22, .int hT, v24, v25, v26, v27]))]) [2] rfl
          have hKc := hK.sub (tys' := []) [] rfl
          have hDc := hD.sub (ws' := [(h0, .inr (7, [v0, v1, v2, v3, v4, v5, v6, v7, v8, v9, .ref e0, .int ts, .int bg_246, .int en_247, .int so_248, .int va_249, .int 0, v17, .ref y0, .ref z0, .int im, .int sT, v22, .int hT, v24, v25, v26, v27]))]) [2] (by decide) rfl
          have hFc := va_free (wc := [(h0, .inr (7, [v0, v1, v2, v3, v4, v5, v6, v7, v8, v9, .ref e0, .int ts, .int bg_246, .int en_247, .int so_248, .int va_249, .int 0, v17, .ref y0, .ref z0, .int im, .int sT, v22, .int hT, v24, v25, v26, v27]))]) hD hS hA [2] rfl
          refine va_callv (va_runV (As := [.int 0]) (rest := []) ⟨hx, hb, hml, hown, hts⟩ (m_must0 l dC dI ad h0 v0 v1 v2 v3 v4 v5 v6 v7 v8 v9 (.ref e0) (.int ts) (.int bg_246) (.int en_247) (.int so_248) (.int va_249) 0 v17 (.ref y0) (.ref z0) (.int im) (.int sT) v22 (.int hT) v24 v25 v26 v27 H.size ) (cwV 1 hts g_m_readHold_m_must0_224 rfl rfl rfl (by decide +kernel) ⟨(Nat.le_of_ble_eq_true rfl), (Nat.le_of_ble_eq_true rfl)⟩) ⟨preM_blind, va_recv hKc hPc (ci := 7) (q0 := 0) rfl rfl, fun U hU hW => ⟨rfl, preM_at hU hW hPc hKc hDc hev⟩⟩ rfl rfl hl.1 rfl (lv_room (Nat.le_of_ble_eq_true rfl)) dX9_readHold_65 ⟨(Nat.le_of_ble_eq_true rfl), (Nat.le_of_ble_eq_true rfl)⟩) hS (fun q _ h => hFc q h) hFc (fun u t H1 locs ht hvm hw hB hz1 hk1 hS => ?_)
          obtain ⟨hP1, hK1, hD1⟩ := hB
          rw [ht] at hP1
          have hK1 := va_K.moved hvm.symm hK1
          obtain ⟨hP, hD⟩ := va_join (wr := [(y0, .inl (yc, 360, .inl yf)), (z0, .inl (zc, 120, .inr (.inl gf))), (e0, .inl (ec, 120, .inl ef))]) (w1 := [(h0, .inr (7, [v0, v1, v2, v3, v4, v5, v6, v7, v8, v9, .ref e0, .int ts, .int bg_246, .int en_247, .int so_248, .int va_249, .int 1, v17, .ref y0, .ref z0, .int im, .int sT, v22, .int hT, v24, v25, v26, v27]))]) hP hD [2] [0, 1, 3] rfl rfl (by decide) (by decide) hk1 hFc hP1 hD1
          generalize H1 = H at hP hS ⊢
          have hP : va_P (dC, dI) vwCl [(y0, .inl (yc, 360, .inl yf)), (z0, .inl (zc, 120, .inr (.inl gf))), (e0, .inl (ec, 120, .inl ef)), (h0, .inr (7, [v0, v1, v2, v3, v4, v5, v6, v7, v8, v9, .ref e0, .int ts, .int bg_246, .int en_247, .int so_248, .int va_249, .int 1, v17, .ref y0, .ref z0, .int im, .int sT, v22, .int hT, v24, v25, v26, v27]))] H := hP
          have hD : va_D A [(y0, .inl (yc, 360, .inl yf)), (z0, .inl (zc, 120, .inr (.inl gf))), (e0, .inl (ec, 120, .inl ef)), (h0, .inr (7, [v0, v1, v2, v3, v4, v5, v6, v7, v8, v9, .ref e0, .int ts, .int bg_246, .int en_247, .int so_248, .int va_249, .int 1, v17, .ref y0, .ref z0, .int im, .int sT, v22, .int hT, v24, v25, v26, v27]))] := hD
          refine lv_aload_n hx hb dX9_readHold_68 rfl (lv_at hl 1 rfl) ?_
          refine lv_dup hx hb dX9_readHold_69 rfl ?_
          refine va_get (D := (dC, dI)) (ci := 7) (v := .int hT) (C := RX9) (T := TX9) (N := 28) hx hb hts inX9 hown hK hP 3 rfl rfl 23 (by decide) (hts _ (List.mem_of_getElem? (i := 1) rfl)) (fun _ h9 => h9) rfl dX9_readHold_70 ?_
          refine lv_aload_n hx hb dX9_readHold_73 rfl (lv_at hl 1 rfl) ?_
          refine va_get (D := (dC, dI)) (ci := 7) (v := .int 1) (C := RX9) (T := TX9) (N := 28) hx hb hts inX9 hown hK hP 3 rfl rfl 16 (by decide) (hts _ (List.mem_of_getElem? (i := 10) rfl)) (fun _ h9 => h9) rfl dX9_readHold_74 ?_
          refine lv_if_eq (tgt := 84) hx hb dX9_readHold_77 (by decide) (fun c => absurd c (by decide)) (fun _ => ?_)
          refine lv_iconst (v := 0) hx hb dX9_readHold_80 (by decide) ?_
          refine lv_goto (tgt := 87) hx hb dX9_readHold_81 (by decide) ?_
          refine lv_ior hx hb dX9_readHold_87 ?_
          refine lv_topi (fun n_379 en_379 => ?_)
          have tn_379 : n_379.toInt = hT.toInt := by rw [pp_or0 en_379]
          refine va_put (D := (dC, dI)) (ci := 7) (v := .int n_379) (ty := .int) (C := RX9) (T := TX9) (N := 28) hx hb hts inX9 tyX9 tyX9_ok nmX9 hown hK hP hD hS 3 rfl rfl 23 (by decide) (hts _ (List.mem_of_getElem? (i := 1) rfl)) (fun _ h9 => h9) rfl (by decide +kernel) rfl rfl (Nat.le_of_ble_eq_true rfl) dX9_readHold_88 (fun H locs hP hD hS => ?_)
          have hP : va_P (dC, dI) vwCl [(y0, .inl (yc, 360, .inl yf)), (z0, .inl (zc, 120, .inr (.inl gf))), (e0, .inl (ec, 120, .inl ef)), (h0, .inr (7, [v0, v1, v2, v3, v4, v5, v6, v7, v8, v9, .ref e0, .int ts, .int bg_246, .int en_247, .int so_248, .int va_249, .int 1, v17, .ref y0, .ref z0, .int im, .int sT, v22, .int n_379, v24, v25, v26, v27]))] H := hP
          have hD : va_D A [(y0, .inl (yc, 360, .inl yf)), (z0, .inl (zc, 120, .inr (.inl gf))), (e0, .inl (ec, 120, .inl ef)), (h0, .inr (7, [v0, v1, v2, v3, v4, v5, v6, v7, v8, v9, .ref e0, .int ts, .int bg_246, .int en_247, .int so_248, .int va_249, .int 1, v17, .ref y0, .ref z0, .int im, .int sT, v22, .int n_379, v24, v25, v26, v27]))] := hD
          refine lv_aload_n hx hb dX9_readHold_91 rfl (lv_at hl 1 rfl) ?_
          refine va_ldcSw (tx := "near") (q := ad 21) hx hb hown (ev_str hev 21 rfl) dX9_readHold_92 ?_
          refine lv_iconst (v := 1) hx hb dX9_readHold_95 (by decide) ?_
          refine lv_iconst (v := 2) hx hb dX9_readHold_96 (by decide) ?_
          have hPc := hP.sub (ws' := [(h0, .inr (7, [v0, v1, v2, v3, v4, v5, v6, v7, v8, v9, .ref e0, .int ts, .int bg_246, .int en_247, .int so_248, .int va_249, .int 1, v17, .ref y0, .ref z0, .int im, .int sT, v22, .int n_379, v24, v25, v26, v27])), (e0, .inl (ec, 120, .inl ef))]) [3, 2] rfl
          have hKc := hK.sub (tys' := [(ec, .int)]) [0] rfl
          have hDc := hD.sub (ws' := [(h0, .inr (7, [v0, v1, v2, v3, v4, v5, v6, v7, v8, v9, .ref e0, .int ts, .int bg_246, .int en_247, .int so_248, .int va_249, .int 1, v17, .ref y0, .ref z0, .int im, .int sT, v22, .int n_379, v24, v25, v26, v27])), (e0, .inl (ec, 120, .inl ef))]) [3, 2] (by decide) rfl
          have hFc := va_free (wc := [(h0, .inr (7, [v0, v1, v2, v3, v4, v5, v6, v7, v8, v9, .ref e0, .int ts, .int bg_246, .int en_247, .int so_248, .int va_249, .int 1, v17, .ref y0, .ref z0, .int im, .int sT, v22, .int n_379, v24, v25, v26, v27])), (e0, .inl (ec, 120, .inl ef))]) hD hS hA [3, 2] rfl
          refine va_calli (va_runV (As := [.ref (ad 21), .int 1, .int 2]) (rest := []) ⟨hx, hb, hml, hown, hts⟩ (m_after l dC dI ad h0 21 1 2 v0 v1 v2 v3 v4 v5 v6 v7 v8 v9 e0 ts bg_246 en_247 so_248 va_249 1 v17 (.ref y0) (.ref z0) (.int im) (.int sT) v22 (.int n_379) v24 v25 v26 v27 ec ef H.size (by decide) htm hq_250 hq_251 hq_252) (cwV 3 hts g_m_readHold_m_after_270 rfl rfl rfl (by decide +kernel) ⟨(Nat.le_of_ble_eq_true rfl), (Nat.le_of_ble_eq_true rfl)⟩) ⟨preT_blind, va_recv hKc hPc (ci := 7) (q0 := 0) rfl rfl, fun U hU hW => ⟨rfl, preM_at hU hW hPc hKc hDc hev, sf_at hsf hS hFc hU hW⟩⟩ rfl rfl hl.1 rfl (lv_room (Nat.le_of_ble_eq_true rfl)) dX9_readHold_97 ⟨(Nat.le_of_ble_eq_true rfl), (Nat.le_of_ble_eq_true rfl)⟩) hS (fun q _ h => hFc q h) hFc (fun r_380 u t H1 locs ht hvm hw hB hz1 hk1 hS => ?_)
          obtain ⟨bg_381, en_382, so_383, va_384, iw_385, hq_386, hq_387, hq_388, hq_389, hq_390, hP1, hK1, hD1⟩ := hB
          rw [ht] at hP1
          have hK1 := va_K.moved hvm.symm hK1
          obtain ⟨hP, hD⟩ := va_join (wr := [(y0, .inl (yc, 360, .inl yf)), (z0, .inl (zc, 120, .inr (.inl gf)))]) (w1 := [(h0, .inr (7, [v0, v1, v2, v3, v4, v5, v6, v7, v8, v9, .ref e0, .int ts, .int bg_381, .int en_382, .int so_383, .int va_384, .int iw_385, v17, .ref y0, .ref z0, .int im, .int sT, v22, .int n_379, v24, v25, v26, v27])), (e0, .inl (ec, 120, .inl ef))]) hP hD [3, 2] [0, 1] rfl rfl (by decide) (by decide) hk1 hFc hP1 hD1
          generalize H1 = H at hP hS ⊢
          have hP : va_P (dC, dI) vwCl [(y0, .inl (yc, 360, .inl yf)), (z0, .inl (zc, 120, .inr (.inl gf))), (h0, .inr (7, [v0, v1, v2, v3, v4, v5, v6, v7, v8, v9, .ref e0, .int ts, .int bg_381, .int en_382, .int so_383, .int va_384, .int iw_385, v17, .ref y0, .ref z0, .int im, .int sT, v22, .int n_379, v24, v25, v26, v27])), (e0, .inl (ec, 120, .inl ef))] H := hP
          have hD : va_D A [(y0, .inl (yc, 360, .inl yf)), (z0, .inl (zc, 120, .inr (.inl gf))), (h0, .inr (7, [v0, v1, v2, v3, v4, v5, v6, v7, v8, v9, .ref e0, .int ts, .int bg_381, .int en_382, .int so_383, .int va_384, .int iw_385, v17, .ref y0, .ref z0, .int im, .int sT, v22, .int n_379, v24, v25, v26, v27])), (e0, .inl (ec, 120, .inl ef))] := hD
          have hq_390 : iw_385.toInt = 0 → (1 : Int) = 0 ∧ bg_246.toInt ≤ bg_381.toInt := hq_390
          refine lv_istore_n (lv' := [(2, .int r_380), (1, .int va_249), (0, .ref h0)]) hx hb dX9_readHold_100 rfl hl (by decide) rfl (fun ls hl => ?_)
          refine lv_aload_n hx hb dX9_readHold_101 rfl (lv_at hl 2 rfl) ?_
          refine va_ldcSw (tx := "turn") (q := ad 22) hx hb hown (ev_str hev 22 rfl) dX9_readHold_102 ?_
          refine lv_iconst (v := 0) hx hb dX9_readHold_105 (by decide) ?_
          refine lv_iconst (v := 3) hx hb dX9_readHold_106 (by decide) ?_
          have hPc := hP.sub (ws' := [(h0, .inr (7, [v0, v1, v2, v3, v4, v5, v6, v7, v8, v9, .ref e0, .int ts, .int bg_381, .int en_382, .int so_383, .int va_384, .int iw_385, v17, .ref y0, .ref z0, .int im, .int sT, v22, .int n_379, v24, v25, v26, v27])), (e0, .inl (ec, 120, .inl ef))]) [2, 3] rfl
          have hKc := hK.sub (tys' := [(ec, .int)]) [0] rfl
          have hDc := hD.sub (ws' := [(h0, .inr (7, [v0, v1, v2, v3, v4, v5, v6, v7, v8, v9, .ref e0, .int ts, .int bg_381, .int en_382, .int so_383, .int va_384, .int iw_385, v17, .ref y0, .ref z0, .int im, .int sT, v22, .int n_379, v24, v25, v26, v27])), (e0, .inl (ec, 120, .inl ef))]) [2, 3] (by decide) rfl
          have hFc := va_free (wc := [(h0, .inr (7, [v0, v1, v2, v3, v4, v5, v6, v7, v8, v9, .ref e0, .int ts, .int bg_381, .int en_382, .int so_383, .int va_384, .int iw_385, v17, .ref y0, .ref z0, .int im, .int sT, v22, .int n_379, v24, v25, v26, v27])), (e0, .inl (ec, 120, .inl ef))]) hD hS hA [2, 3] rfl
          refine va_calli (va_runV (As := [.ref (ad 22), .int 0, .int 3]) (rest := []) ⟨hx, hb, hml, hown, hts⟩ (m_after l dC dI ad h0 22 0 3 v0 v1 v2 v3 v4 v5 v6 v7 v8 v9 e0 ts bg_381 en_382 so_383 va_384 iw_385 v17 (.ref y0) (.ref z0) (.int im) (.int sT) v22 (.int n_379) v24 v25 v26 v27 ec ef H.size (by decide) htm hq_386 hq_387 hq_388) (cwV 3 hts g_m_readHold_m_after_270 rfl rfl rfl (by decide +kernel) ⟨(Nat.le_of_ble_eq_true rfl), (Nat.le_of_ble_eq_true rfl)⟩) ⟨preT_blind, va_recv hKc hPc (ci := 7) (q0 := 0) rfl rfl, fun U hU hW => ⟨rfl, preM_at hU hW hPc hKc hDc hev, sf_at hsf hS hFc hU hW⟩⟩ rfl rfl hl.1 rfl (lv_room (Nat.le_of_ble_eq_true rfl)) dX9_readHold_107 ⟨(Nat.le_of_ble_eq_true rfl), (Nat.le_of_ble_eq_true rfl)⟩) hS (fun q _ h => hFc q h) hFc (fun r_391 u t H1 locs ht hvm hw hB hz1 hk1 hS => ?_)
          obtain ⟨bg_392, en_393, so_394, va_395, iw_396, hq_397, hq_398, hq_399, hq_400, hq_401, hP1, hK1, hD1⟩ := hB
          rw [ht] at hP1
          have hK1 := va_K.moved hvm.symm hK1
          obtain ⟨hP, hD⟩ := va_join (wr := [(y0, .inl (yc, 360, .inl yf)), (z0, .inl (zc, 120, .inr (.inl gf)))]) (w1 := [(h0, .inr (7, [v0, v1, v2, v3, v4, v5, v6, v7, v8, v9, .ref e0, .int ts, .int bg_392, .int en_393, .int so_394, .int va_395, .int iw_396, v17, .ref y0, .ref z0, .int im, .int sT, v22, .int n_379, v24, v25, v26, v27])), (e0, .inl (ec, 120, .inl ef))]) hP hD [2, 3] [0, 1] rfl rfl (by decide) (by decide) hk1 hFc hP1 hD1
          generalize H1 = H at hP hS ⊢
          have hP : va_P (dC, dI) vwCl [(y0, .inl (yc, 360, .inl yf)), (z0, .inl (zc, 120, .inr (.inl gf))), (h0, .inr (7, [v0, v1, v2, v3, v4, v5, v6, v7, v8, v9, .ref e0, .int ts, .int bg_392, .int en_393, .int so_394, .int va_395, .int iw_396, v17, .ref y0, .ref z0, .int im, .int sT, v22, .int n_379, v24, v25, v26, v27])), (e0, .inl (ec, 120, .inl ef))] H := hP
          have hD : va_D A [(y0, .inl (yc, 360, .inl yf)), (z0, .inl (zc, 120, .inr (.inl gf))), (h0, .inr (7, [v0, v1, v2, v3, v4, v5, v6, v7, v8, v9, .ref e0, .int ts, .int bg_392, .int en_393, .int so_394, .int va_395, .int iw_396, v17, .ref y0, .ref z0, .int im, .int sT, v22, .int n_379, v24, v25, v26, v27])), (e0, .inl (ec, 120, .inl ef))] := hD
          refine lv_istore_n (lv' := [(3, .int r_391), (2, .int r_380), (1, .int va_249), (0, .ref h0)]) hx hb dX9_readHold_110 rfl hl (by decide) rfl (fun ls hl => ?_)
          refine lv_aload_n hx hb dX9_readHold_111 rfl (lv_at hl 3 rfl) ?_
          refine va_ldcSw (tx := "at") (q := ad 23) hx hb hown (ev_str hev 23 rfl) dX9_readHold_112 ?_
          refine lv_iconst (v := 0) hx hb dX9_readHold_115 (by decide) ?_
          refine lv_bipush (v := 7) hx hb dX9_readHold_116 (by decide) ?_
          have hPc := hP.sub (ws' := [(h0, .inr (7, [v0, v1, v2, v3, v4, v5, v6, v7, v8, v9, .ref e0, .int ts, .int bg_392, .int en_393, .int so_394, .int va_395, .int iw_396, v17, .ref y0, .ref z0, .int im, .int sT, v22, .int n_379, v24, v25, v26, v27])), (e0, .inl (ec, 120, .inl ef))]) [2, 3] rfl
          have hKc := hK.sub (tys' := [(ec, .int)]) [0] rfl
          have hDc := hD.sub (ws' := [(h0, .inr (7, [v0, v1, v2, v3, v4, v5, v6, v7, v8, v9, .ref e0, .int ts, .int bg_392, .int en_393, .int so_394, .int va_395, .int iw_396, v17, .ref y0, .ref z0, .int im, .int sT, v22, .int n_379, v24, v25, v26, v27])), (e0, .inl (ec, 120, .inl ef))]) [2, 3] (by decide) rfl
          have hFc := va_free (wc := [(h0, .inr (7, [v0, v1, v2, v3, v4, v5, v6, v7, v8, v9, .ref e0, .int ts, .int bg_392, .int en_393, .int so_394, .int va_395, .int iw_396, v17, .ref y0, .ref z0, .int im, .int sT, v22, .int n_379, v24, v25, v26, v27])), (e0, .inl (ec, 120, .inl ef))]) hD hS hA [2, 3] rfl
          refine va_calli (va_runV (As := [.ref (ad 23), .int 0, .int 7]) (rest := []) ⟨hx, hb, hml, hown, hts⟩ (m_after l dC dI ad h0 23 0 7 v0 v1 v2 v3 v4 v5 v6 v7 v8 v9 e0 ts bg_392 en_393 so_394 va_395 iw_396 v17 (.ref y0) (.ref z0) (.int im) (.int sT) v22 (.int n_379) v24 v25 v26 v27 ec ef H.size (by decide) htm hq_397 hq_398 hq_399) (cwV 3 hts g_m_readHold_m_after_270 rfl rfl rfl (by decide +kernel) ⟨(Nat.le_of_ble_eq_true rfl), (Nat.le_of_ble_eq_true rfl)⟩) ⟨preT_blind, va_recv hKc hPc (ci := 7) (q0 := 0) rfl rfl, fun U hU hW => ⟨rfl, preM_at hU hW hPc hKc hDc hev, sf_at hsf hS hFc hU hW⟩⟩ rfl rfl hl.1 rfl (lv_room (Nat.le_of_ble_eq_true rfl)) dX9_readHold_118 ⟨(Nat.le_of_ble_eq_true rfl), (Nat.le_of_ble_eq_true rfl)⟩) hS (fun q _ h => hFc q h) hFc (fun r_402 u t H1 locs ht hvm hw hB hz1 hk1 hS => ?_)
          obtain ⟨bg_403, en_404, so_405, va_406, iw_407, hq_408, hq_409, hq_410, hq_411, hq_412, hP1, hK1, hD1⟩ := hB
          rw [ht] at hP1
          have hK1 := va_K.moved hvm.symm hK1
          obtain ⟨hP, hD⟩ := va_join (wr := [(y0, .inl (yc, 360, .inl yf)), (z0, .inl (zc, 120, .inr (.inl gf)))]) (w1 := [(h0, .inr (7, [v0, v1, v2, v3, v4, v5, v6, v7, v8, v9, .ref e0, .int ts, .int bg_403, .int en_404, .int so_405, .int va_406, .int iw_407, v17, .ref y0, .ref z0, .int im, .int sT, v22, .int n_379, v24, v25, v26, v27])), (e0, .inl (ec, 120, .inl ef))]) hP hD [2, 3] [0, 1] rfl rfl (by decide) (by decide) hk1 hFc hP1 hD1
          generalize H1 = H at hP hS ⊢
          have hP : va_P (dC, dI) vwCl [(y0, .inl (yc, 360, .inl yf)), (z0, .inl (zc, 120, .inr (.inl gf))), (h0, .inr (7, [v0, v1, v2, v3, v4, v5, v6, v7, v8, v9, .ref e0, .int ts, .int bg_403, .int en_404, .int so_405, .int va_406, .int iw_407, v17, .ref y0, .ref z0, .int im, .int sT, v22, .int n_379, v24, v25, v26, v27])), (e0, .inl (ec, 120, .inl ef))] H := hP
          have hD : va_D A [(y0, .inl (yc, 360, .inl yf)), (z0, .inl (zc, 120, .inr (.inl gf))), (h0, .inr (7, [v0, v1, v2, v3, v4, v5, v6, v7, v8, v9, .ref e0, .int ts, .int bg_403, .int en_404, .int so_405, .int va_406, .int iw_407, v17, .ref y0, .ref z0, .int im, .int sT, v22, .int n_379, v24, v25, v26, v27])), (e0, .inl (ec, 120, .inl ef))] := hD
          refine lv_istore (lv' := [(4, .int r_402), (3, .int r_391), (2, .int r_380), (1, .int va_249), (0, .ref h0)]) hx hb dX9_readHold_121 hl (by decide) rfl (fun ls hl => ?_)
          refine lv_aload_n hx hb dX9_readHold_123 rfl (lv_at hl 4 rfl) ?_
          refine lv_bipush (v := 11) hx hb dX9_readHold_124 (by decide) ?_
          refine lv_iload_n hx hb dX9_readHold_126 rfl (lv_at hl 3 rfl) ?_
          refine lv_sipush (v := 1000) hx hb dX9_readHold_127 (by decide) ?_
          refine lv_iconst (v := 4) hx hb dX9_readHold_130 (by decide) ?_
          refine lv_iload_n hx hb dX9_readHold_131 rfl (lv_at hl 2 rfl) ?_
          refine lv_imul hx hb dX9_readHold_132 ?_
          refine lv_topi (fun n_413 en_413 => ?_)
          refine lv_iload_n hx hb dX9_readHold_133 rfl (lv_at hl 1 rfl) ?_
          refine lv_iadd hx hb dX9_readHold_134 ?_
          refine lv_topi (fun n_414 en_414 => ?_)
          refine lv_imul hx hb dX9_readHold_135 ?_
          refine lv_topi (fun n_415 en_415 => ?_)
          refine lv_bipush (v := 10) hx hb dX9_readHold_136 (by decide) ?_
          refine lv_iload hx hb dX9_readHold_138 (lv_at hl 0 rfl) ?_
          refine lv_imul hx hb dX9_readHold_140 ?_
          refine lv_topi (fun n_416 en_416 => ?_)
          refine lv_iadd hx hb dX9_readHold_141 ?_
          refine lv_topi (fun n_417 en_417 => ?_)
          refine lv_aload_n hx hb dX9_readHold_142 rfl (lv_at hl 4 rfl) ?_
          refine lv_iconst (v := 0) hx hb dX9_readHold_143 (by decide) ?_
          refine lv_bipush (v := 7) hx hb dX9_readHold_144 (by decide) ?_
          have hPc := hP.sub (ws' := [(h0, .inr (7, [v0, v1, v2, v3, v4, v5, v6, v7, v8, v9, .ref e0, .int ts, .int bg_403, .int en_404, .int so_405, .int va_406, .int iw_407, v17, .ref y0, .ref z0, .int im, .int sT, v22, .int n_379, v24, v25, v26, v27])), (e0, .inl (ec, 120, .inl ef))]) [2, 3] rfl
          have hKc := hK.sub (tys' := [(ec, .int)]) [0] rfl
          have hDc := hD.sub (ws' := [(h0, .inr (7, [v0, v1, v2, v3, v4, v5, v6, v7, v8, v9, .ref e0, .int ts, .int bg_403, .int en_404, .int so_405, .int va_406, .int iw_407, v17, .ref y0, .ref z0, .int im, .int sT, v22, .int n_379, v24, v25, v26, v27])), (e0, .inl (ec, 120, .inl ef))]) [2, 3] (by decide) rfl
          have hFc := va_free (wc := [(h0, .inr (7, [v0, v1, v2, v3, v4, v5, v6, v7, v8, v9, .ref e0, .int ts, .int bg_403, .int en_404, .int so_405, .int va_406, .int iw_407, v17, .ref y0, .ref z0, .int im, .int sT, v22, .int n_379, v24, v25, v26, v27])), (e0, .inl (ec, 120, .inl ef))]) hD hS hA [2, 3] rfl
          refine va_calli (va_runV (As := [.int 0, .int 7]) (rest := [.int n_417, .int va_249, .int 11, .ref h0]) ⟨hx, hb, hml, hown, hts⟩ (m_number l dC dI ad h0 0 7 v0 v1 v2 v3 v4 v5 v6 v7 v8 v9 e0 ts bg_403 en_404 so_405 va_406 iw_407 v17 (.ref y0) (.ref z0) (.int im) (.int sT) v22 (.int n_379) v24 v25 v26 v27 ec ef H.size htm hq_408 hq_409 hq_410) (cwV 2 hts g_m_readHold_m_number_235 rfl rfl rfl (by decide +kernel) ⟨(Nat.le_of_ble_eq_true rfl), (Nat.le_of_ble_eq_true rfl)⟩) ⟨preM_blind, va_recv hKc hPc (ci := 7) (q0 := 0) rfl rfl, fun U hU hW => ⟨rfl, preM_at hU hW hPc hKc hDc hev⟩⟩ rfl rfl hl.1 rfl (lv_room (Nat.le_of_ble_eq_true rfl)) dX9_readHold_146 ⟨(Nat.le_of_ble_eq_true rfl), (Nat.le_of_ble_eq_true rfl)⟩) hS (fun q _ h => hFc q h) hFc (fun r_418 u t H1 locs ht hvm hw hB hz1 hk1 hS => ?_)
          obtain ⟨bg_419, en_420, so_421, va_422, iw_423, hq_424, hq_425, hq_426, hq_427, hq_428, hP1, hK1, hD1⟩ := hB
          rw [ht] at hP1
          have hK1 := va_K.moved hvm.symm hK1
          obtain ⟨hP, hD⟩ := va_join (wr := [(y0, .inl (yc, 360, .inl yf)), (z0, .inl (zc, 120, .inr (.inl gf)))]) (w1 := [(h0, .inr (7, [v0, v1, v2, v3, v4, v5, v6, v7, v8, v9, .ref e0, .int ts, .int bg_419, .int en_420, .int so_421, .int va_422, .int iw_423, v17, .ref y0, .ref z0, .int im, .int sT, v22, .int n_379, v24, v25, v26, v27])), (e0, .inl (ec, 120, .inl ef))]) hP hD [2, 3] [0, 1] rfl rfl (by decide) (by decide) hk1 hFc hP1 hD1
          generalize H1 = H at hP hS ⊢
          have hP : va_P (dC, dI) vwCl [(y0, .inl (yc, 360, .inl yf)), (z0, .inl (zc, 120, .inr (.inl gf))), (h0, .inr (7, [v0, v1, v2, v3, v4, v5, v6, v7, v8, v9, .ref e0, .int ts, .int bg_419, .int en_420, .int so_421, .int va_422, .int iw_423, v17, .ref y0, .ref z0, .int im, .int sT, v22, .int n_379, v24, v25, v26, v27])), (e0, .inl (ec, 120, .inl ef))] H := hP
          have hD : va_D A [(y0, .inl (yc, 360, .inl yf)), (z0, .inl (zc, 120, .inr (.inl gf))), (h0, .inr (7, [v0, v1, v2, v3, v4, v5, v6, v7, v8, v9, .ref e0, .int ts, .int bg_419, .int en_420, .int so_421, .int va_422, .int iw_423, v17, .ref y0, .ref z0, .int im, .int sT, v22, .int n_379, v24, v25, v26, v27])), (e0, .inl (ec, 120, .inl ef))] := hD
          have hr_418 : r_418.toInt = va_406.toInt := hw
          have hq_428 : iw_423.toInt = 0 → iw_407.toInt = 0 ∧ (0 : Int) ≤ va_406.toInt ∧ va_406.toInt ≤ (7 : Int) ∧ en_404.toInt ≤ bg_419.toInt := hq_428
          refine lv_iadd hx hb dX9_readHold_149 ?_
          refine lv_topi (fun n_429 en_429 => ?_)
          refine lv_lconst (v := 0) hx hb dX9_readHold_150 (by decide) ?_
          have hPc := hP.sub (ws' := [(h0, .inr (7, [v0, v1, v2, v3, v4, v5, v6, v7, v8, v9, .ref e0, .int ts, .int bg_419, .int en_420, .int so_421, .int va_422, .int iw_423, v17, .ref y0, .ref z0, .int im, .int sT, v22, .int n_379, v24, v25, v26, v27])), (y0, .inl (yc, 360, .inl yf)), (z0, .inl (zc, 120, .inr (.inl gf)))]) [2, 0, 1] rfl
          have hKc := hK.sub (tys' := [(yc, .int), (zc, .long)]) [1, 2] rfl
          have hDc := hD.sub (ws' := [(h0, .inr (7, [v0, v1, v2, v3, v4, v5, v6, v7, v8, v9, .ref e0, .int ts, .int bg_419, .int en_420, .int so_421, .int va_422, .int iw_423, v17, .ref y0, .ref z0, .int im, .int sT, v22, .int n_379, v24, v25, v26, v27])), (y0, .inl (yc, 360, .inl yf)), (z0, .inl (zc, 120, .inr (.inl gf)))]) [2, 0, 1] (by decide) rfl
          have hFc := va_free (wc := [(h0, .inr (7, [v0, v1, v2, v3, v4, v5, v6, v7, v8, v9, .ref e0, .int ts, .int bg_419, .int en_420, .int so_421, .int va_422, .int iw_423, v17, .ref y0, .ref z0, .int im, .int sT, v22, .int n_379, v24, v25, v26, v27])), (y0, .inl (yc, 360, .inl yf)), (z0, .inl (zc, 120, .inr (.inl gf)))]) hD hS hA [2, 0, 1] rfl
          refine va_callv (va_runV (As := [.int 11, .int va_249, .int n_429, .long 0]) (rest := []) ⟨hx, hb, hml, hown, hts⟩ (m_item l dC dI ad h0 11 va_249 n_429 0 v0 v1 v2 v3 v4 v5 v6 v7 v8 v9 (.ref e0) (.int ts) (.int bg_419) (.int en_420) (.int so_421) (.int va_422) (.int iw_423) v17 y0 z0 im (.int sT) v22 (.int n_379) v24 v25 v26 v27 yc yf zc gf H.size him) (cwV 4 hts g_m_readHold_m_item_247 rfl rfl rfl (by decide +kernel) ⟨(Nat.le_of_ble_eq_true rfl), (Nat.le_of_ble_eq_true rfl)⟩) ⟨preM_blind, va_recv hKc hPc (ci := 7) (q0 := 0) rfl rfl, fun U hU hW => ⟨rfl, preM_at hU hW hPc hKc hDc hev⟩⟩ rfl rfl hl.1 rfl (lv_room (Nat.le_of_ble_eq_true rfl)) dX9_readHold_151 ⟨(Nat.le_of_ble_eq_true rfl), (Nat.le_of_ble_eq_true rfl)⟩) hS (fun q _ h => hFc q h) hFc (fun u t H1 locs ht hvm hw hB hz1 hk1 hS => ?_)
          obtain ⟨im_431, yg_432, gg_433, hq_434, hq_435, hP1, hK1, hD1⟩ := hB
          rw [ht] at hP1
          have hK1 := va_K.moved hvm.symm hK1
          obtain ⟨hP, hD⟩ := va_join (wr := [(e0, .inl (ec, 120, .inl ef))]) (w1 := [(h0, .inr (7, [v0, v1, v2, v3, v4, v5, v6, v7, v8, v9, .ref e0, .int ts, .int bg_419, .int en_420, .int so_421, .int va_422, .int iw_423, v17, .ref y0, .ref z0, .int im_431, .int sT, v22, .int n_379, v24, v25, v26, v27])), (y0, .inl (yc, 360, .inl yg_432)), (z0, .inl (zc, 120, .inr (.inl gg_433)))]) hP hD [2, 0, 1] [3] rfl rfl (by decide) (by decide) hk1 hFc hP1 hD1
          generalize H1 = H at hP hS ⊢
          have hP : va_P (dC, dI) vwCl [(e0, .inl (ec, 120, .inl ef)), (h0, .inr (7, [v0, v1, v2, v3, v4, v5, v6, v7, v8, v9, .ref e0, .int ts, .int bg_419, .int en_420, .int so_421, .int va_422, .int iw_423, v17, .ref y0, .ref z0, .int im_431, .int sT, v22, .int n_379, v24, v25, v26, v27])), (y0, .inl (yc, 360, .inl yg_432)), (z0, .inl (zc, 120, .inr (.inl gg_433)))] H := hP
          have hD : va_D A [(e0, .inl (ec, 120, .inl ef)), (h0, .inr (7, [v0, v1, v2, v3, v4, v5, v6, v7, v8, v9, .ref e0, .int ts, .int bg_419, .int en_420, .int so_421, .int va_422, .int iw_423, v17, .ref y0, .ref z0, .int im_431, .int sT, v22, .int n_379, v24, v25, v26, v27])), (y0, .inl (yc, 360, .inl yg_432)), (z0, .inl (zc, 120, .inr (.inl gg_433)))] := hD
          have hP9 := hP.sub (ws' := [(h0, .inr (7, [v0, v1, v2, v3, v4, v5, v6, v7, v8, v9, .ref e0, .int ts, .int bg_419, .int en_420, .int so_421, .int va_422, .int iw_423, v17, .ref y0, .ref z0, .int im_431, .int sT, v22, .int n_379, v24, v25, v26, v27])), (e0, .inl (ec, 120, .inl ef)), (y0, .inl (yc, 360, .inl yg_432)), (z0, .inl (zc, 120, .inr (.inl gg_433)))]) [1, 0, 2, 3] rfl
          have hD9 := hD.sub (ws' := [(h0, .inr (7, [v0, v1, v2, v3, v4, v5, v6, v7, v8, v9, .ref e0, .int ts, .int bg_419, .int en_420, .int so_421, .int va_422, .int iw_423, v17, .ref y0, .ref z0, .int im_431, .int sT, v22, .int n_379, v24, v25, v26, v27])), (e0, .inl (ec, 120, .inl ef)), (y0, .inl (yc, 360, .inl yg_432)), (z0, .inl (zc, 120, .inr (.inl gg_433)))]) [1, 0, 2, 3] (by decide) rfl
          have hK9 := hK.sub (tys' := [(ec, .int), (yc, .int), (zc, .long)]) [0, 1, 2] rfl
          exact W.vret hx hb hr (fun t ht hW => ⟨⟨(), rfl, trivial, bg_419, en_420, so_421, va_422, iw_423, n_379, im_431, yg_432, gg_433, hq_424, hq_425, hq_426, hq_427, (by first | omega | decide | (simp only [fa_lt, fa_le, fa_eq, and_true, true_and, and_false, false_and, not_true_eq_false, not_false_eq_true, li_0, li_1, li_2, li_3, li_4, li_5, li_6, li_7, li_8, li_9, li_10, li_12, li_15, li_16, li_20, li_30, li_34, li_38, li_40, li_63, li_64, li_65, li_78, li_120, li_1000, li_4000, li_10000, li_11077, li_255, li_65535, li_m1, li_m2, li_m1000000001, li_m1000000002, li_m1000000003, li_m1000000004, li_m1000000005, li_m1000000006, li_m1000000007, or_true, true_or, or_false, false_or, implies_true, true_implies, false_implies] <;> omega)), hq_434, (fun hz cc => absurd hz (by first | omega | decide)), by rw [ht]; exact hP9, va_K.moved hW.alike hK9, hD9⟩, hS.F ht⟩) hS.2.2 dX9_readHold_154
        · skip
          have tc_377 : n_376.toInt = 0 := (fa_eq _ _).mp c_377
          refine lv_iconst (v := 1) hx hb dX9_readHold_60 (by decide) ?_
          refine lv_goto (tgt := 65) hx hb dX9_readHold_61 (by decide) ?_
          have hPc := hP.sub (ws' := [(h0, .inr (7, [v0, v1, v2, v3, v4, v5, v6, v7, v8, v9, .ref e0, .int ts, .int bg_246, .int en_247, .int so_248, .int va_249, .int 0, v17, .ref y0, .ref z0, .int im, .int sT, v22, .int hT, v24, v25, v26, v27])), (e0, .inl (ec, 120, .inl ef))]) [2, 3] rfl
          have hKc := hK.sub (tys' := [(ec, .int)]) [0] rfl
          have hDc := hD.sub (ws' := [(h0, .inr (7, [v0, v1, v2, v3, v4, v5, v6, v7, v8, v9, .ref e0, .int ts, .int bg_246, .int en_247, .int so_248, .int va_249, .int 0, v17, .ref y0, .ref z0, .int im, .int sT, v22, .int hT, v24, v25, v26, v27])), (e0, .inl (ec, 120, .inl ef))]) [2, 3] (by decide) rfl
          have hFc := va_free (wc := [(h0, .inr (7, [v0, v1, v2, v3, v4, v5, v6, v7, v8, v9, .ref e0, .int ts, .int bg_246, .int en_247, .int so_248, .int va_249, .int 0, v17, .ref y0, .ref z0, .int im, .int sT, v22, .int hT, v24, v25, v26, v27])), (e0, .inl (ec, 120, .inl ef))]) hD hS hA [2, 3] rfl
          refine va_callv (va_runV (As := [.int 1]) (rest := []) ⟨hx, hb, hml, hown, hts⟩ (m_must1 l dC dI ad h0 v0 v1 v2 v3 v4 v5 v6 v7 v8 v9 e0 ts bg_246 en_247 so_248 va_249 v17 (.ref y0) (.ref z0) (.int im) (.int sT) v22 (.int hT) v24 v25 v26 v27 ec ef H.size htm hq_250 hq_251 hq_252) (cwV 1 hts g_m_readHold_m_must1_224 rfl rfl rfl (by decide +kernel) ⟨(Nat.le_of_ble_eq_true rfl), (Nat.le_of_ble_eq_true rfl)⟩) ⟨preM_blind, va_recv hKc hPc (ci := 7) (q0 := 0) rfl rfl, fun U hU hW => ⟨rfl, preM_at hU hW hPc hKc hDc hev⟩⟩ rfl rfl hl.1 rfl (lv_room (Nat.le_of_ble_eq_true rfl)) dX9_readHold_65 ⟨(Nat.le_of_ble_eq_true rfl), (Nat.le_of_ble_eq_true rfl)⟩) hS (fun q _ h => hFc q h) hFc (fun u t H1 locs ht hvm hw hB hz1 hk1 hS => ?_)
          obtain ⟨bg_437, en_438, so_439, va_440, hq_441, hq_442, hq_443, hq_444, hP1, hK1, hD1⟩ := hB
          rw [ht] at hP1
          have hK1 := va_K.moved hvm.symm hK1
          obtain ⟨hP, hD⟩ := va_join (wr := [(y0, .inl (yc, 360, .inl yf)), (z0, .inl (zc, 120, .inr (.inl gf)))]) (w1 := [(h0, .inr (7, [v0, v1, v2, v3, v4, v5, v6, v7, v8, v9, .ref e0, .int ts, .int bg_437, .int en_438, .int so_439, .int va_440, .int 0, v17, .ref y0, .ref z0, .int im, .int sT, v22, .int hT, v24, v25, v26, v27])), (e0, .inl (ec, 120, .inl ef))]) hP hD [2, 3] [0, 1] rfl rfl (by decide) (by decide) hk1 hFc hP1 hD1
          generalize H1 = H at hP hS ⊢
          have hP : va_P (dC, dI) vwCl [(y0, .inl (yc, 360, .inl yf)), (z0, .inl (zc, 120, .inr (.inl gf))), (h0, .inr (7, [v0, v1, v2, v3, v4, v5, v6, v7, v8, v9, .ref e0, .int ts, .int bg_437, .int en_438, .int so_439, .int va_440, .int 0, v17, .ref y0, .ref z0, .int im, .int sT, v22, .int hT, v24, v25, v26, v27])), (e0, .inl (ec, 120, .inl ef))] H := hP
          have hD : va_D A [(y0, .inl (yc, 360, .inl yf)), (z0, .inl (zc, 120, .inr (.inl gf))), (h0, .inr (7, [v0, v1, v2, v3, v4, v5, v6, v7, v8, v9, .ref e0, .int ts, .int bg_437, .int en_438, .int so_439, .int va_440, .int 0, v17, .ref y0, .ref z0, .int im, .int sT, v22, .int hT, v24, v25, v26, v27])), (e0, .inl (ec, 120, .inl ef))] := hD
          refine lv_aload_n hx hb dX9_readHold_68 rfl (lv_at hl 1 rfl) ?_
          refine lv_dup hx hb dX9_readHold_69 rfl ?_
          refine va_get (D := (dC, dI)) (ci := 7) (v := .int hT) (C := RX9) (T := TX9) (N := 28) hx hb hts inX9 hown hK hP 2 rfl rfl 23 (by decide) (hts _ (List.mem_of_getElem? (i := 1) rfl)) (fun _ h9 => h9) rfl dX9_readHold_70 ?_
          refine lv_aload_n hx hb dX9_readHold_73 rfl (lv_at hl 1 rfl) ?_
          refine va_get (D := (dC, dI)) (ci := 7) (v := .int 0) (C := RX9) (T := TX9) (N := 28) hx hb hts inX9 hown hK hP 2 rfl rfl 16 (by decide) (hts _ (List.mem_of_getElem? (i := 10) rfl)) (fun _ h9 => h9) rfl dX9_readHold_74 ?_
          refine lv_if_eq (tgt := 84) hx hb dX9_readHold_77 (by decide) (fun _ => ?_) (fun c => absurd (by decide) c)
          refine lv_iconst (v := 1) hx hb dX9_readHold_84 (by decide) ?_
          refine lv_iload_n hx hb dX9_readHold_85 rfl (lv_at hl 0 rfl) ?_
          refine lv_ishl hx hb dX9_readHold_86 ?_
          refine lv_topi (fun n_445 en_445 => ?_)
          refine lv_ior hx hb dX9_readHold_87 ?_
          refine lv_topi (fun n_446 en_446 => ?_)
          have tmn_446 := mk_set en_445 en_446 (by omega) (by omega) (by omega) (by omega)
          refine va_put (D := (dC, dI)) (ci := 7) (v := .int n_446) (ty := .int) (C := RX9) (T := TX9) (N := 28) hx hb hts inX9 tyX9 tyX9_ok nmX9 hown hK hP hD hS 2 rfl rfl 23 (by decide) (hts _ (List.mem_of_getElem? (i := 1) rfl)) (fun _ h9 => h9) rfl (by decide +kernel) rfl rfl (Nat.le_of_ble_eq_true rfl) dX9_readHold_88 (fun H locs hP hD hS => ?_)
          have hP : va_P (dC, dI) vwCl [(y0, .inl (yc, 360, .inl yf)), (z0, .inl (zc, 120, .inr (.inl gf))), (h0, .inr (7, [v0, v1, v2, v3, v4, v5, v6, v7, v8, v9, .ref e0, .int ts, .int bg_437, .int en_438, .int so_439, .int va_440, .int 0, v17, .ref y0, .ref z0, .int im, .int sT, v22, .int n_446, v24, v25, v26, v27])), (e0, .inl (ec, 120, .inl ef))] H := hP
          have hD : va_D A [(y0, .inl (yc, 360, .inl yf)), (z0, .inl (zc, 120, .inr (.inl gf))), (h0, .inr (7, [v0, v1, v2, v3, v4, v5, v6, v7, v8, v9, .ref e0, .int ts, .int bg_437, .int en_438, .int so_439, .int va_440, .int 0, v17, .ref y0, .ref z0, .int im, .int sT, v22, .int n_446, v24, v25, v26, v27])), (e0, .inl (ec, 120, .inl ef))] := hD
          refine lv_aload_n hx hb dX9_readHold_91 rfl (lv_at hl 1 rfl) ?_
          refine va_ldcSw (tx := "near") (q := ad 21) hx hb hown (ev_str hev 21 rfl) dX9_readHold_92 ?_
          refine lv_iconst (v := 1) hx hb dX9_readHold_95 (by decide) ?_
          refine lv_iconst (v := 2) hx hb dX9_readHold_96 (by decide) ?_
          have hPc := hP.sub (ws' := [(h0, .inr (7, [v0, v1, v2, v3, v4, v5, v6, v7, v8, v9, .ref e0, .int ts, .int bg_437, .int en_438, .int so_439, .int va_440, .int 0, v17, .ref y0, .ref z0, .int im, .int sT, v22, .int n_446, v24, v25, v26, v27])), (e0, .inl (ec, 120, .inl ef))]) [2, 3] rfl
          have hKc := hK.sub (tys' := [(ec, .int)]) [0] rfl
          have hDc := hD.sub (ws' := [(h0, .inr (7, [v0, v1, v2, v3, v4, v5, v6, v7, v8, v9, .ref e0, .int ts, .int bg_437, .int en_438, .int so_439, .int va_440, .int 0, v17, .ref y0, .ref z0, .int im, .int sT, v22, .int n_446, v24, v25, v26, v27])), (e0, .inl (ec, 120, .inl ef))]) [2, 3] (by decide) rfl
          have hFc := va_free (wc := [(h0, .inr (7, [v0, v1, v2, v3, v4, v5, v6, v7, v8, v9, .ref e0, .int ts, .int bg_437, .int en_438, .int so_439, .int va_440, .int 0, v17, .ref y0, .ref z0, .int im, .int sT, v22, .int n_446, v24, v25, v26, v27])), (e0, .inl (ec, 120, .inl ef))]) hD hS hA [2, 3] rfl
          refine va_calli (va_runV (As := [.ref (ad 21), .int 1, .int 2]) (rest := []) ⟨hx, hb, hml, hown, hts⟩ (m_after l dC dI ad h0 21 1 2 v0 v1 v2 v3 v4 v5 v6 v7 v8 v9 e0 ts bg_437 en_438 so_439 va_440 0 v17 (.ref y0) (.ref z0) (.int im) (.int sT) v22 (.int n_446) v24 v25 v26 v27 ec ef H.size (by decide) htm hq_441 hq_442 hq_443) (cwV 3 hts g_m_readHold_m_after_270 rfl rfl rfl (by decide +kernel) ⟨(Nat.le_of_ble_eq_true rfl), (Nat.le_of_ble_eq_true rfl)⟩) ⟨preT_blind, va_recv hKc hPc (ci := 7) (q0 := 0) rfl rfl, fun U hU hW => ⟨rfl, preM_at hU hW hPc hKc hDc hev, sf_at hsf hS hFc hU hW⟩⟩ rfl rfl hl.1 rfl (lv_room (Nat.le_of_ble_eq_true rfl)) dX9_readHold_97 ⟨(Nat.le_of_ble_eq_true rfl), (Nat.le_of_ble_eq_true rfl)⟩) hS (fun q _ h => hFc q h) hFc (fun r_447 u t H1 locs ht hvm hw hB hz1 hk1 hS => ?_)
          obtain ⟨bg_448, en_449, so_450, va_451, iw_452, hq_453, hq_454, hq_455, hq_456, hq_457, hP1, hK1, hD1⟩ := hB
          rw [ht] at hP1
          have hK1 := va_K.moved hvm.symm hK1
          obtain ⟨hP, hD⟩ := va_join (wr := [(y0, .inl (yc, 360, .inl yf)), (z0, .inl (zc, 120, .inr (.inl gf)))]) (w1 := [(h0, .inr (7, [v0, v1, v2, v3, v4, v5, v6, v7, v8, v9, .ref e0, .int ts, .int bg_448, .int en_449, .int so_450, .int va_451, .int iw_452, v17, .ref y0, .ref z0, .int im, .int sT, v22, .int n_446, v24, v25, v26, v27])), (e0, .inl (ec, 120, .inl ef))]) hP hD [2, 3] [0, 1] rfl rfl (by decide) (by decide) hk1 hFc hP1 hD1
          generalize H1 = H at hP hS ⊢
          have hP : va_P (dC, dI) vwCl [(y0, .inl (yc, 360, .inl yf)), (z0, .inl (zc, 120, .inr (.inl gf))), (h0, .inr (7, [v0, v1, v2, v3, v4, v5, v6, v7, v8, v9, .ref e0, .int ts, .int bg_448, .int en_449, .int so_450, .int va_451, .int iw_452, v17, .ref y0, .ref z0, .int im, .int sT, v22, .int n_446, v24, v25, v26, v27])), (e0, .inl (ec, 120, .inl ef))] H := hP
          have hD : va_D A [(y0, .inl (yc, 360, .inl yf)), (z0, .inl (zc, 120, .inr (.inl gf))), (h0, .inr (7, [v0, v1, v2, v3, v4, v5, v6, v7, v8, v9, .ref e0, .int ts, .int bg_448, .int en_449, .int so_450, .int va_451, .int iw_452, v17, .ref y0, .ref z0, .int im, .int sT, v22, .int n_446, v24, v25, v26, v27])), (e0, .inl (ec, 120, .inl ef))] := hD
          have hq_457 : iw_452.toInt = 0 → (0 : Int) = 0 ∧ bg_437.toInt ≤ bg_448.toInt := hq_457
          refine lv_istore_n (lv' := [(2, .int r_447), (1, .int va_249), (0, .ref h0)]) hx hb dX9_readHold_100 rfl hl (by decide) rfl (fun ls hl => ?_)
          refine lv_aload_n hx hb dX9_readHold_101 rfl (lv_at hl 2 rfl) ?_
          refine va_ldcSw (tx := "turn") (q := ad 22) hx hb hown (ev_str hev 22 rfl) dX9_readHold_102 ?_
          refine lv_iconst (v := 0) hx hb dX9_readHold_105 (by decide) ?_
          refine lv_iconst (v := 3) hx hb dX9_readHold_106 (by decide) ?_
          have hPc := hP.sub (ws' := [(h0, .inr (7, [v0, v1, v2, v3, v4, v5, v6, v7, v8, v9, .ref e0, .int ts, .int bg_448, .int en_449, .int so_450, .int va_451, .int iw_452, v17, .ref y0, .ref z0, .int im, .int sT, v22, .int n_446, v24, v25, v26, v27])), (e0, .inl (ec, 120, .inl ef))]) [2, 3] rfl
          have hKc := hK.sub (tys' := [(ec, .int)]) [0] rfl
          have hDc := hD.sub (ws' := [(h0, .inr (7, [v0, v1, v2, v3, v4, v5, v6, v7, v8, v9, .ref e0, .int ts, .int bg_448, .int en_449, .int so_450, .int va_451, .int iw_452, v17, .ref y0, .ref z0, .int im, .int sT, v22, .int n_446, v24, v25, v26, v27])), (e0, .inl (ec, 120, .inl ef))]) [2, 3] (by decide) rfl
          have hFc := va_free (wc := [(h0, .inr (7, [v0, v1, v2, v3, v4, v5, v6, v7, v8, v9, .ref e0, .int ts, .int bg_448, .int en_449, .int so_450, .int va_451, .int iw_452, v17, .ref y0, .ref z0, .int im, .int sT, v22, .int n_446, v24, v25, v26, v27])), (e0, .inl (ec, 120, .inl ef))]) hD hS hA [2, 3] rfl
          refine va_calli (va_runV (As := [.ref (ad 22), .int 0, .int 3]) (rest := []) ⟨hx, hb, hml, hown, hts⟩ (m_after l dC dI ad h0 22 0 3 v0 v1 v2 v3 v4 v5 v6 v7 v8 v9 e0 ts bg_448 en_449 so_450 va_451 iw_452 v17 (.ref y0) (.ref z0) (.int im) (.int sT) v22 (.int n_446) v24 v25 v26 v27 ec ef H.size (by decide) htm hq_453 hq_454 hq_455) (cwV 3 hts g_m_readHold_m_after_270 rfl rfl rfl (by decide +kernel) ⟨(Nat.le_of_ble_eq_true rfl), (Nat.le_of_ble_eq_true rfl)⟩) ⟨preT_blind, va_recv hKc hPc (ci := 7) (q0 := 0) rfl rfl, fun U hU hW => ⟨rfl, preM_at hU hW hPc hKc hDc hev, sf_at hsf hS hFc hU hW⟩⟩ rfl rfl hl.1 rfl (lv_room (Nat.le_of_ble_eq_true rfl)) dX9_readHold_107 ⟨(Nat.le_of_ble_eq_true rfl), (Nat.le_of_ble_eq_true rfl)⟩) hS (fun q _ h => hFc q h) hFc (fun r_458 u t H1 locs ht hvm hw hB hz1 hk1 hS => ?_)
          obtain ⟨bg_459, en_460, so_461, va_462, iw_463, hq_464, hq_465, hq_466, hq_467, hq_468, hP1, hK1, hD1⟩ := hB
          rw [ht] at hP1
          have hK1 := va_K.moved hvm.symm hK1
          obtain ⟨hP, hD⟩ := va_join (wr := [(y0, .inl (yc, 360, .inl yf)), (z0, .inl (zc, 120, .inr (.inl gf)))]) (w1 := [(h0, .inr (7, [v0, v1, v2, v3, v4, v5, v6, v7, v8, v9, .ref e0, .int ts, .int bg_459, .int en_460, .int so_461, .int va_462, .int iw_463, v17, .ref y0, .ref z0, .int im, .int sT, v22, .int n_446, v24, v25, v26, v27])), (e0, .inl (ec, 120, .inl ef))]) hP hD [2, 3] [0, 1] rfl rfl (by decide) (by decide) hk1 hFc hP1 hD1
          generalize H1 = H at hP hS ⊢
          have hP : va_P (dC, dI) vwCl [(y0, .inl (yc, 360, .inl yf)), (z0, .inl (zc, 120, .inr (.inl gf))), (h0, .inr (7, [v0, v1, v2, v3, v4, v5, v6, v7, v8, v9, .ref e0, .int ts, .int bg_459, .int en_460, .int so_461, .int va_462, .int iw_463, v17, .ref y0, .ref z0, .int im, .int sT, v22, .int n_446, v24, v25, v26, v27])), (e0, .inl (ec, 120, .inl ef))] H := hP
          have hD : va_D A [(y0, .inl (yc, 360, .inl yf)), (z0, .inl (zc, 120, .inr (.inl gf))), (h0, .inr (7, [v0, v1, v2, v3, v4, v5, v6, v7, v8, v9, .ref e0, .int ts, .int bg_459, .int en_460, .int so_461, .int va_462, .int iw_463, v17, .ref y0, .ref z0, .int im, .int sT, v22, .int n_446, v24, v25, v26, v27])), (e0, .inl (ec, 120, .inl ef))] := hD
          refine lv_istore_n (lv' := [(3, .int r_458), (2, .int r_447), (1, .int va_249), (0, .ref h0)]) hx hb dX9_readHold_110 rfl hl (by decide) rfl (fun ls hl => ?_)
          refine lv_aload_n hx hb dX9_readHold_111 rfl (lv_at hl 3 rfl) ?_
          refine va_ldcSw (tx := "at") (q := ad 23) hx hb hown (ev_str hev 23 rfl) dX9_readHold_112 ?_
          refine lv_iconst (v := 0) hx hb dX9_readHold_115 (by decide) ?_
          refine lv_bipush (v := 7) hx hb dX9_readHold_116 (by decide) ?_
          have hPc := hP.sub (ws' := [(h0, .inr (7, [v0, v1, v2, v3, v4, v5, v6, v7, v8, v9, .ref e0, .int ts, .int bg_459, .int en_460, .int so_461, .int va_462, .int iw_463, v17, .ref y0, .ref z0, .int im, .int sT, v22, .int n_446, v24, v25, v26, v27])), (e0, .inl (ec, 120, .inl ef))]) [2, 3] rfl
          have hKc := hK.sub (tys' := [(ec, .int)]) [0] rfl
          have hDc := hD.sub (ws' := [(h0, .inr (7, [v0, v1, v2, v3, v4, v5, v6, v7, v8, v9, .ref e0, .int ts, .int bg_459, .int en_460, .int so_461, .int va_462, .int iw_463, v17, .ref y0, .ref z0, .int im, .int sT, v22, .int n_446, v24, v25, v26, v27])), (e0, .inl (ec, 120, .inl ef))]) [2, 3] (by decide) rfl
          have hFc := va_free (wc := [(h0, .inr (7, [v0, v1, v2, v3, v4, v5, v6, v7, v8, v9, .ref e0, .int ts, .int bg_459, .int en_460, .int so_461, .int va_462, .int iw_463, v17, .ref y0, .ref z0, .int im, .int sT, v22, .int n_446, v24, v25, v26, v27])), (e0, .inl (ec, 120, .inl ef))]) hD hS hA [2, 3] rfl
          refine va_calli (va_runV (As := [.ref (ad 23), .int 0, .int 7]) (rest := []) ⟨hx, hb, hml, hown, hts⟩ (m_after l dC dI ad h0 23 0 7 v0 v1 v2 v3 v4 v5 v6 v7 v8 v9 e0 ts bg_459 en_460 so_461 va_462 iw_463 v17 (.ref y0) (.ref z0) (.int im) (.int sT) v22 (.int n_446) v24 v25 v26 v27 ec ef H.size (by decide) htm hq_464 hq_465 hq_466) (cwV 3 hts g_m_readHold_m_after_270 rfl rfl rfl (by decide +kernel) ⟨(Nat.le_of_ble_eq_true rfl), (Nat.le_of_ble_eq_true rfl)⟩) ⟨preT_blind, va_recv hKc hPc (ci := 7) (q0 := 0) rfl rfl, fun U hU hW => ⟨rfl, preM_at hU hW hPc hKc hDc hev, sf_at hsf hS hFc hU hW⟩⟩ rfl rfl hl.1 rfl (lv_room (Nat.le_of_ble_eq_true rfl)) dX9_readHold_118 ⟨(Nat.le_of_ble_eq_true rfl), (Nat.le_of_ble_eq_true rfl)⟩) hS (fun q _ h => hFc q h) hFc (fun r_469 u t H1 locs ht hvm hw hB hz1 hk1 hS => ?_)
          obtain ⟨bg_470, en_471, so_472, va_473, iw_474, hq_475, hq_476, hq_477, hq_478, hq_479, hP1, hK1, hD1⟩ := hB
          rw [ht] at hP1
          have hK1 := va_K.moved hvm.symm hK1
          obtain ⟨hP, hD⟩ := va_join (wr := [(y0, .inl (yc, 360, .inl yf)), (z0, .inl (zc, 120, .inr (.inl gf)))]) (w1 := [(h0, .inr (7, [v0, v1, v2, v3, v4, v5, v6, v7, v8, v9, .ref e0, .int ts, .int bg_470, .int en_471, .int so_472, .int va_473, .int iw_474, v17, .ref y0, .ref z0, .int im, .int sT, v22, .int n_446, v24, v25, v26, v27])), (e0, .inl (ec, 120, .inl ef))]) hP hD [2, 3] [0, 1] rfl rfl (by decide) (by decide) hk1 hFc hP1 hD1
          generalize H1 = H at hP hS ⊢
          have hP : va_P (dC, dI) vwCl [(y0, .inl (yc, 360, .inl yf)), (z0, .inl (zc, 120, .inr (.inl gf))), (h0, .inr (7, [v0, v1, v2, v3, v4, v5, v6, v7, v8, v9, .ref e0, .int ts, .int bg_470, .int en_471, .int so_472, .int va_473, .int iw_474, v17, .ref y0, .ref z0, .int im, .int sT, v22, .int n_446, v24, v25, v26, v27])), (e0, .inl (ec, 120, .inl ef))] H := hP
          have hD : va_D A [(y0, .inl (yc, 360, .inl yf)), (z0, .inl (zc, 120, .inr (.inl gf))), (h0, .inr (7, [v0, v1, v2, v3, v4, v5, v6, v7, v8, v9, .ref e0, .int ts, .int bg_470, .int en_471, .int so_472, .int va_473, .int iw_474, v17, .ref y0, .ref z0, .int im, .int sT, v22, .int n_446, v24, v25, v26, v27])), (e0, .inl (ec, 120, .inl ef))] := hD
          refine lv_istore (lv' := [(4, .int r_469), (3, .int r_458), (2, .int r_447), (1, .int va_249), (0, .ref h0)]) hx hb dX9_readHold_121 hl (by decide) rfl (fun ls hl => ?_)
          refine lv_aload_n hx hb dX9_readHold_123 rfl (lv_at hl 4 rfl) ?_
          refine lv_bipush (v := 11) hx hb dX9_readHold_124 (by decide) ?_
          refine lv_iload_n hx hb dX9_readHold_126 rfl (lv_at hl 3 rfl) ?_
          refine lv_sipush (v := 1000) hx hb dX9_readHold_127 (by decide) ?_
          refine lv_iconst (v := 4) hx hb dX9_readHold_130 (by decide) ?_
          refine lv_iload_n hx hb dX9_readHold_131 rfl (lv_at hl 2 rfl) ?_
          refine lv_imul hx hb dX9_readHold_132 ?_
          refine lv_topi (fun n_480 en_480 => ?_)
          refine lv_iload_n hx hb dX9_readHold_133 rfl (lv_at hl 1 rfl) ?_
          refine lv_iadd hx hb dX9_readHold_134 ?_
          refine lv_topi (fun n_481 en_481 => ?_)
          refine lv_imul hx hb dX9_readHold_135 ?_
          refine lv_topi (fun n_482 en_482 => ?_)
          refine lv_bipush (v := 10) hx hb dX9_readHold_136 (by decide) ?_
          refine lv_iload hx hb dX9_readHold_138 (lv_at hl 0 rfl) ?_
          refine lv_imul hx hb dX9_readHold_140 ?_
          refine lv_topi (fun n_483 en_483 => ?_)
          refine lv_iadd hx hb dX9_readHold_141 ?_
          refine lv_topi (fun n_484 en_484 => ?_)
          refine lv_aload_n hx hb dX9_readHold_142 rfl (lv_at hl 4 rfl) ?_
          refine lv_iconst (v := 0) hx hb dX9_readHold_143 (by decide) ?_
          refine lv_bipush (v := 7) hx hb dX9_readHold_144 (by decide) ?_
          have hPc := hP.sub (ws' := [(h0, .inr (7, [v0, v1, v2, v3, v4, v5, v6, v7, v8, v9, .ref e0, .int ts, .int bg_470, .int en_471, .int so_472, .int va_473, .int iw_474, v17, .ref y0, .ref z0, .int im, .int sT, v22, .int n_446, v24, v25, v26, v27])), (e0, .inl (ec, 120, .inl ef))]) [2, 3] rfl
          have hKc := hK.sub (tys' := [(ec, .int)]) [0] rfl
          have hDc := hD.sub (ws' := [(h0, .inr (7, [v0, v1, v2, v3, v4, v5, v6, v7, v8, v9, .ref e0, .int ts, .int bg_470, .int en_471, .int so_472, .int va_473, .int iw_474, v17, .ref y0, .ref z0, .int im, .int sT, v22, .int n_446, v24, v25, v26, v27])), (e0, .inl (ec, 120, .inl ef))]) [2, 3] (by decide) rfl
          have hFc := va_free (wc := [(h0, .inr (7, [v0, v1, v2, v3, v4, v5, v6, v7, v8, v9, .ref e0, .int ts, .int bg_470, .int en_471, .int so_472, .int va_473, .int iw_474, v17, .ref y0, .ref z0, .int im, .int sT, v22, .int n_446, v24, v25, v26, v27])), (e0, .inl (ec, 120, .inl ef))]) hD hS hA [2, 3] rfl
          refine va_calli (va_runV (As := [.int 0, .int 7]) (rest := [.int n_484, .int va_249, .int 11, .ref h0]) ⟨hx, hb, hml, hown, hts⟩ (m_number l dC dI ad h0 0 7 v0 v1 v2 v3 v4 v5 v6 v7 v8 v9 e0 ts bg_470 en_471 so_472 va_473 iw_474 v17 (.ref y0) (.ref z0) (.int im) (.int sT) v22 (.int n_446) v24 v25 v26 v27 ec ef H.size htm hq_475 hq_476 hq_477) (cwV 2 hts g_m_readHold_m_number_235 rfl rfl rfl (by decide +kernel) ⟨(Nat.le_of_ble_eq_true rfl), (Nat.le_of_ble_eq_true rfl)⟩) ⟨preM_blind, va_recv hKc hPc (ci := 7) (q0 := 0) rfl rfl, fun U hU hW => ⟨rfl, preM_at hU hW hPc hKc hDc hev⟩⟩ rfl rfl hl.1 rfl (lv_room (Nat.le_of_ble_eq_true rfl)) dX9_readHold_146 ⟨(Nat.le_of_ble_eq_true rfl), (Nat.le_of_ble_eq_true rfl)⟩) hS (fun q _ h => hFc q h) hFc (fun r_485 u t H1 locs ht hvm hw hB hz1 hk1 hS => ?_)
          obtain ⟨bg_486, en_487, so_488, va_489, iw_490, hq_491, hq_492, hq_493, hq_494, hq_495, hP1, hK1, hD1⟩ := hB
          rw [ht] at hP1
          have hK1 := va_K.moved hvm.symm hK1
          obtain ⟨hP, hD⟩ := va_join (wr := [(y0, .inl (yc, 360, .inl yf)), (z0, .inl (zc, 120, .inr (.inl gf)))]) (w1 := [(h0, .inr (7, [v0, v1, v2, v3, v4, v5, v6, v7, v8, v9, .ref e0, .int ts, .int bg_486, .int en_487, .int so_488, .int va_489, .int iw_490, v17, .ref y0, .ref z0, .int im, .int sT, v22, .int n_446, v24, v25, v26, v27])), (e0, .inl (ec, 120, .inl ef))]) hP hD [2, 3] [0, 1] rfl rfl (by decide) (by decide) hk1 hFc hP1 hD1
          generalize H1 = H at hP hS ⊢
          have hP : va_P (dC, dI) vwCl [(y0, .inl (yc, 360, .inl yf)), (z0, .inl (zc, 120, .inr (.inl gf))), (h0, .inr (7, [v0, v1, v2, v3, v4, v5, v6, v7, v8, v9, .ref e0, .int ts, .int bg_486, .int en_487, .int so_488, .int va_489, .int iw_490, v17, .ref y0, .ref z0, .int im, .int sT, v22, .int n_446, v24, v25, v26, v27])), (e0, .inl (ec, 120, .inl ef))] H := hP
          have hD : va_D A [(y0, .inl (yc, 360, .inl yf)), (z0, .inl (zc, 120, .inr (.inl gf))), (h0, .inr (7, [v0, v1, v2, v3, v4, v5, v6, v7, v8, v9, .ref e0, .int ts, .int bg_486, .int en_487, .int so_488, .int va_489, .int iw_490, v17, .ref y0, .ref z0, .int im, .int sT, v22, .int n_446, v24, v25, v26, v27])), (e0, .inl (ec, 120, .inl ef))] := hD
          have hr_485 : r_485.toInt = va_473.toInt := hw
          have hq_495 : iw_490.toInt = 0 → iw_474.toInt = 0 ∧ (0 : Int) ≤ va_473.toInt ∧ va_473.toInt ≤ (7 : Int) ∧ en_471.toInt ≤ bg_486.toInt := hq_495
          refine lv_iadd hx hb dX9_readHold_149 ?_
          refine lv_topi (fun n_496 en_496 => ?_)
          refine lv_lconst (v := 0) hx hb dX9_readHold_150 (by decide) ?_
          have hPc := hP.sub (ws' := [(h0, .inr (7, [v0, v1, v2, v3, v4, v5, v6, v7, v8, v9, .ref e0, .int ts, .int bg_486, .int en_487, .int so_488, .int va_489, .int iw_490, v17, .ref y0, .ref z0, .int im, .int sT, v22, .int n_446, v24, v25, v26, v27])), (y0, .inl (yc, 360, .inl yf)), (z0, .inl (zc, 120, .inr (.inl gf)))]) [2, 0, 1] rfl
          have hKc := hK.sub (tys' := [(yc, .int), (zc, .long)]) [1, 2] rfl
          have hDc := hD.sub (ws' := [(h0, .inr (7, [v0, v1, v2, v3, v4, v5, v6, v7, v8, v9, .ref e0, .int ts, .int bg_486, .int en_487, .int so_488, .int va_489, .int iw_490, v17, .ref y0, .ref z0, .int im, .int sT, v22, .int n_446, v24, v25, v26, v27])), (y0, .inl (yc, 360, .inl yf)), (z0, .inl (zc, 120, .inr (.inl gf)))]) [2, 0, 1] (by decide) rfl
          have hFc := va_free (wc := [(h0, .inr (7, [v0, v1, v2, v3, v4, v5, v6, v7, v8, v9, .ref e0, .int ts, .int bg_486, .int en_487, .int so_488, .int va_489, .int iw_490, v17, .ref y0, .ref z0, .int im, .int sT, v22, .int n_446, v24, v25, v26, v27])), (y0, .inl (yc, 360, .inl yf)), (z0, .inl (zc, 120, .inr (.inl gf)))]) hD hS hA [2, 0, 1] rfl
          refine va_callv (va_runV (As := [.int 11, .int va_249, .int n_496, .long 0]) (rest := []) ⟨hx, hb, hml, hown, hts⟩ (m_item l dC dI ad h0 11 va_249 n_496 0 v0 v1 v2 v3 v4 v5 v6 v7 v8 v9 (.ref e0) (.int ts) (.int bg_486) (.int en_487) (.int so_488) (.int va_489) (.int iw_490) v17 y0 z0 im (.int sT) v22 (.int n_446) v24 v25 v26 v27 yc yf zc gf H.size him) (cwV 4 hts g_m_readHold_m_item_247 rfl rfl rfl (by decide +kernel) ⟨(Nat.le_of_ble_eq_true rfl), (Nat.le_of_ble_eq_true rfl)⟩) ⟨preM_blind, va_recv hKc hPc (ci := 7) (q0 := 0) rfl rfl, fun U hU hW => ⟨rfl, preM_at hU hW hPc hKc hDc hev⟩⟩ rfl rfl hl.1 rfl (lv_room (Nat.le_of_ble_eq_true rfl)) dX9_readHold_151 ⟨(Nat.le_of_ble_eq_true rfl), (Nat.le_of_ble_eq_true rfl)⟩) hS (fun q _ h => hFc q h) hFc (fun u t H1 locs ht hvm hw hB hz1 hk1 hS => ?_)
          obtain ⟨im_498, yg_499, gg_500, hq_501, hq_502, hP1, hK1, hD1⟩ := hB
          rw [ht] at hP1
          have hK1 := va_K.moved hvm.symm hK1
          obtain ⟨hP, hD⟩ := va_join (wr := [(e0, .inl (ec, 120, .inl ef))]) (w1 := [(h0, .inr (7, [v0, v1, v2, v3, v4, v5, v6, v7, v8, v9, .ref e0, .int ts, .int bg_486, .int en_487, .int so_488, .int va_489, .int iw_490, v17, .ref y0, .ref z0, .int im_498, .int sT, v22, .int n_446, v24, v25, v26, v27])), (y0, .inl (yc, 360, .inl yg_499)), (z0, .inl (zc, 120, .inr (.inl gg_500)))]) hP hD [2, 0, 1] [3] rfl rfl (by decide) (by decide) hk1 hFc hP1 hD1
          generalize H1 = H at hP hS ⊢
          have hP : va_P (dC, dI) vwCl [(e0, .inl (ec, 120, .inl ef)), (h0, .inr (7, [v0, v1, v2, v3, v4, v5, v6, v7, v8, v9, .ref e0, .int ts, .int bg_486, .int en_487, .int so_488, .int va_489, .int iw_490, v17, .ref y0, .ref z0, .int im_498, .int sT, v22, .int n_446, v24, v25, v26, v27])), (y0, .inl (yc, 360, .inl yg_499)), (z0, .inl (zc, 120, .inr (.inl gg_500)))] H := hP
          have hD : va_D A [(e0, .inl (ec, 120, .inl ef)), (h0, .inr (7, [v0, v1, v2, v3, v4, v5, v6, v7, v8, v9, .ref e0, .int ts, .int bg_486, .int en_487, .int so_488, .int va_489, .int iw_490, v17, .ref y0, .ref z0, .int im_498, .int sT, v22, .int n_446, v24, v25, v26, v27])), (y0, .inl (yc, 360, .inl yg_499)), (z0, .inl (zc, 120, .inr (.inl gg_500)))] := hD
          have hP9 := hP.sub (ws' := [(h0, .inr (7, [v0, v1, v2, v3, v4, v5, v6, v7, v8, v9, .ref e0, .int ts, .int bg_486, .int en_487, .int so_488, .int va_489, .int iw_490, v17, .ref y0, .ref z0, .int im_498, .int sT, v22, .int n_446, v24, v25, v26, v27])), (e0, .inl (ec, 120, .inl ef)), (y0, .inl (yc, 360, .inl yg_499)), (z0, .inl (zc, 120, .inr (.inl gg_500)))]) [1, 0, 2, 3] rfl
          have hD9 := hD.sub (ws' := [(h0, .inr (7, [v0, v1, v2, v3, v4, v5, v6, v7, v8, v9, .ref e0, .int ts, .int bg_486, .int en_487, .int so_488, .int va_489, .int iw_490, v17, .ref y0, .ref z0, .int im_498, .int sT, v22, .int n_446, v24, v25, v26, v27])), (e0, .inl (ec, 120, .inl ef)), (y0, .inl (yc, 360, .inl yg_499)), (z0, .inl (zc, 120, .inr (.inl gg_500)))]) [1, 0, 2, 3] (by decide) rfl
          have hK9 := hK.sub (tys' := [(ec, .int), (yc, .int), (zc, .long)]) [0, 1, 2] rfl
          exact W.vret hx hb hr (fun t ht hW => ⟨⟨(), rfl, trivial, bg_486, en_487, so_488, va_489, iw_490, n_446, im_498, yg_499, gg_500, hq_491, hq_492, hq_493, hq_494, (by first | omega | decide | (simp only [fa_lt, fa_le, fa_eq, and_true, true_and, and_false, false_and, not_true_eq_false, not_false_eq_true, li_0, li_1, li_2, li_3, li_4, li_5, li_6, li_7, li_8, li_9, li_10, li_12, li_15, li_16, li_20, li_30, li_34, li_38, li_40, li_63, li_64, li_65, li_78, li_120, li_1000, li_4000, li_10000, li_11077, li_255, li_65535, li_m1, li_m2, li_m1000000001, li_m1000000002, li_m1000000003, li_m1000000004, li_m1000000005, li_m1000000006, li_m1000000007, or_true, true_or, or_false, false_or, implies_true, true_implies, false_implies] <;> omega)), hq_501, (fun hz cc => ⟨RI_mk hq_502 (it_ok11 (by omega) (by omega) (by omega) (by omega) (tbn_376 (by omega)) tmn_446.2), by omega⟩), by rw [ht]; exact hP9, va_K.moved hW.alike hK9, hD9⟩, hS.F ht⟩) hS.2.2 dX9_readHold_154

def w_m_readItem : List Cond := .code yX9_readItem cX9_readItem 2 none :: (([.methodLink RX9 238 yX9_kindTold, .instanceMethod yX9_kindTold, .selects RX9 yX9_kindTold yX9_kindTold, .initialized RX9, .code yX9_kindTold cX9_kindTold 3 (some .int), .fieldLink RX9 49 "LampShapesModel" "kinds" "[Ljava/lang/String;", .methodLink RX9 231 yX9_isWord, .instanceMethod yX9_isWord, .selects RX9 yX9_isWord yX9_isWord, .code yX9_isWord cX9_isWord 4 (some .boolean), .fieldLink RX9 203 "LampShapesModel" "sort" "I", .methodLink RX9 209 yJ0_length_8abf5, .instanceMethod yJ0_length_8abf5, .selects RJ0 yJ0_length_8abf5 yJ0_length_8abf5, .initialized RJ0, .code yJ0_length_8abf5 cJ0_length_8abf5 1 (some .int), .fieldLink RJ0 9 "java/lang/String" "value" "[B", .methodLink RJ0 335 yJ0_coder_7d493, .instanceMethod yJ0_coder_7d493, .selects RJ0 yJ0_coder_7d493 yJ0_coder_7d493, .code yJ0_coder_7d493 cJ0_coder_7d493 1 (some .byte), .fieldLink RJ0 38 "java/lang/String" "COMPACT_STRINGS" "Z", .fieldLink RJ0 15 "java/lang/String" "coder" "B", .fieldLink RX9 32 "LampShapesModel" "tape" "[I", .fieldLink RX9 194 "LampShapesModel" "begins" "I", .methodLink RX9 213 yJ0_charAt_5068e, .instanceMethod yJ0_charAt_5068e, .selects RJ0 yJ0_charAt_5068e yJ0_charAt_5068e, .code yJ0_charAt_5068e cJ0_charAt_5068e 2 (some .char), .methodLink RJ0 492 yJ0_isLatin1_aae02, .instanceMethod yJ0_isLatin1_aae02, .selects RJ0 yJ0_isLatin1_aae02 yJ0_isLatin1_aae02, .code yJ0_isLatin1_aae02 cJ0_isLatin1_aae02 1 (some .boolean), .methodLink RJ0 495 yJ1_charAt_3b067, .static yJ1_charAt_3b067, .initialized RJ1, .code yJ1_charAt_3b067 cJ1_charAt_3b067 2 (some .char), .methodLink RJ1 9 yJ0_checkIndex_df160, .static yJ0_checkIndex_df160, .code yJ0_checkIndex_df160 cJ0_checkIndex_df160 2 none, .fieldLink RJ0 1053 "jdk/internal/util/Preconditions" "SIOOBE_FORMATTER" "Ljava/util/function/BiFunction;", .methodLink RJ0 1059 yJ3_checkIndex_8e157, .static yJ3_checkIndex_8e157, .initialized RJ3, .code yJ3_checkIndex_8e157 cJ3_checkIndex_8e157 3 (some .int), .methodLink RJ0 498 yJ2_charAt_3b067, .static yJ2_charAt_3b067, .initialized RJ2, .code yJ2_charAt_3b067 cJ2_charAt_3b067 2 (some .char), .methodLink RJ2 67 yJ2_checkIndex_2214a, .static yJ2_checkIndex_2214a, .code yJ2_checkIndex_2214a cJ2_checkIndex_2214a 2 none, .methodLink RJ2 48 yJ2_length_9d52b, .static yJ2_length_9d52b, .code yJ2_length_9d52b cJ2_length_9d52b 1 (some .int), .methodLink RJ2 414 yJ0_checkIndex_df160, .methodLink RJ2 71 yJ2_getChar_3b067, .static yJ2_getChar_3b067, .code yJ2_getChar_3b067 cJ2_getChar_3b067 2 (some .char), .fieldLink RJ2 44 "java/lang/StringUTF16" "$assertionsDisabled" "Z", .fieldLink RJ2 59 "java/lang/StringUTF16" "HI_BYTE_SHIFT" "I", .fieldLink RJ2 63 "java/lang/StringUTF16" "LO_BYTE_SHIFT" "I", .fieldLink RX9 191 "LampShapesModel" "ends" "I", .methodLink RX9 224 yX9_must, .instanceMethod yX9_must, .selects RX9 yX9_must yX9_must, .code yX9_must cX9_must 2 none, .fieldLink RX9 217 "LampShapesModel" "isWrong" "Z", .methodLink RX9 221 yX9_next, .instanceMethod yX9_next, .selects RX9 yX9_next yX9_next, .code yX9_next cX9_next 2 none, .methodLink RX9 197 yX9_byteAt, .instanceMethod yX9_byteAt, .selects RX9 yX9_byteAt yX9_byteAt, .code yX9_byteAt cX9_byteAt 2 (some .int), .fieldLink RX9 188 "LampShapesModel" "taped" "I", .fieldLink RX9 200 "LampShapesModel" "value" "I", .methodLink RX9 75 yX9_within, .static yX9_within, .code yX9_within cX9_within 3 (some .boolean), .methodLink RX9 206 yX9_isRowSign, .static yX9_isRowSign, .code yX9_isRowSign cX9_isRowSign 1 (some .boolean), .methodLink RX9 171 Lib.Math.min.name, .static Lib.Math.min.name, .initialized "java/lang/Math", .code Lib.Math.min.name Lib.Math.min.code 2 (some .int), .fieldLink RX9 241 "LampShapesModel" "shapeThen" "I", .methodLink RX9 235 yX9_number, .instanceMethod yX9_number, .selects RX9 yX9_number yX9_number, .code yX9_number cX9_number 4 (some .int), .methodLink RX9 247 yX9_item, .instanceMethod yX9_item, .selects RX9 yX9_item yX9_item, .code yX9_item cX9_item 7 none, .fieldLink RX9 228 "LampShapesModel" "itemMany" "I", .fieldLink RX9 53 "LampShapesModel" "items" "[I", .fieldLink RX9 56 "LampShapesModel" "itemPictures" "[J", .fieldLink RX9 263 "LampShapesModel" "heldThen" "I", .methodLink RX9 258 yX9_readHold, .instanceMethod yX9_readHold, .selects RX9 yX9_readHold yX9_readHold, .code yX9_readHold cX9_readHold 5 none, .methodLink RX9 158 yX9_bits, .static yX9_bits, .code yX9_bits cX9_bits 5 (some .int), .methodLink RX9 270 yX9_after, .instanceMethod yX9_after, .selects RX9 yX9_after yX9_after, .code yX9_after cX9_after 4 (some .int), .fieldLink RX9 253 "LampShapesModel" "sceneThen" "I", .methodLink RX9 244 yX9_readRows, .instanceMethod yX9_readRows, .selects RX9 yX9_readRows yX9_readRows, .code yX9_readRows cX9_readRows 8 (some .long)] : List Cond) ++ wsX90)
set_option maxRecDepth 20000 in
theorem g_m_readItem_m_kindTold_238 : GoodIn w_m_readItem (wsV RX9 238 RX9 yX9_kindTold w_m_kindTold) := goodIn_r _ [1, 2, 3, 4, 5, 6, 7, 8, 9, 4, 10, 11, 12, 13, 14, 15, 16, 17, 18, 19, 20, 21, 22, 23, 24, 25, 26, 27, 28, 29, 30, 31, 32, 33, 34, 35, 36, 37, 38, 39, 40, 41, 42, 43, 44, 45, 46, 47, 48, 49, 50, 51, 52, 53, 54, 55, 56, 57, 58, 59, 60, 61, 62, 63, 118, 119, 120, 121, 122, 123, 124, 125, 126, 127, 128, 129, 130, 131, 132, 133, 134, 135, 136, 137, 138, 139, 140, 141, 142, 143, 144, 145] rfl (by decide +kernel)
set_option maxRecDepth 20000 in
theorem g_m_readItem_m_isWord_231 : GoodIn w_m_readItem (wsV RX9 231 RX9 yX9_isWord w_m_isWord) := goodIn_r _ [7, 8, 9, 4, 10, 11, 12, 13, 14, 15, 16, 17, 18, 19, 20, 21, 22, 23, 24, 25, 26, 27, 28, 29, 30, 31, 32, 33, 34, 35, 36, 37, 38, 39, 40, 41, 42, 43, 44, 45, 46, 47, 48, 49, 50, 51, 52, 53, 54, 55, 56, 57, 58, 59, 60, 61, 62, 63, 118, 119, 120, 121, 122, 123, 124, 125, 126, 127, 128, 129, 130, 131, 132, 133, 134, 135, 136, 137, 138, 139, 140, 141, 142, 143, 144, 145] rfl (by decide +kernel)
set_option maxRecDepth 20000 in
theorem g_m_readItem_m_mustG_224 : GoodIn w_m_readItem (wsV RX9 224 RX9 yX9_must w_m_mustG) := goodIn_r _ [64, 65, 66, 4, 67, 68, 69, 70, 71, 4, 72, 63, 25, 73, 74, 75, 76, 77, 24, 78, 79, 80, 81, 82, 83, 84, 11, 85, 86, 87, 88, 118, 119, 120, 121, 122, 123, 124, 125, 126, 127, 128, 129, 130, 131, 132, 133, 134, 135, 136, 137, 138, 139, 140, 141, 142, 143, 144, 145] rfl (by decide +kernel)
set_option maxRecDepth 20000 in
theorem g_m_readItem_m_number_235 : GoodIn w_m_readItem (wsV RX9 235 RX9 yX9_number w_m_number) := goodIn_r _ [90, 91, 92, 4, 93, 78, 11, 64, 65, 66, 4, 67, 68, 79, 80, 81, 69, 70, 71, 72, 63, 25, 73, 74, 75, 76, 77, 24, 82, 83, 84, 85, 86, 87, 88, 118, 119, 120, 121, 122, 123, 124, 125, 126, 127, 128, 129, 130, 131, 132, 133, 134, 135, 136, 137, 138, 139, 140, 141, 142, 143, 144, 145] rfl (by decide +kernel)
set_option maxRecDepth 20000 in
theorem g_m_readItem_m_item_247 : GoodIn w_m_readItem (wsV RX9 247 RX9 yX9_item w_m_item) := goodIn_r _ [94, 95, 96, 4, 97, 98, 99, 100, 118, 119, 120, 121, 122, 123, 124, 125, 126, 127, 128, 129, 130, 131, 132, 133, 134, 135, 136, 137, 138, 139, 140, 141, 142, 143, 144, 145] rfl (by decide +kernel)
set_option maxRecDepth 20000 in
theorem g_m_readItem_m_must1_224 : GoodIn w_m_readItem (wsV RX9 224 RX9 yX9_must w_m_must1) := goodIn_r _ [64, 65, 66, 4, 67, 68, 69, 70, 71, 4, 72, 63, 25, 73, 74, 75, 76, 77, 24, 78, 79, 80, 81, 82, 83, 84, 11, 85, 86, 87, 88, 118, 119, 120, 121, 122, 123, 124, 125, 126, 127, 128, 129, 130, 131, 132, 133, 134, 135, 136, 137, 138, 139, 140, 141, 142, 143, 144, 145] rfl (by decide +kernel)
set_option maxRecDepth 20000 in
theorem g_m_readItem_m_readHold_258 : GoodIn w_m_readItem (wsV RX9 258 RX9 yX9_readHold w_m_readHold) := goodIn_r _ [102, 103, 104, 4, 105, 101, 106, 107, 4, 108, 64, 65, 66, 67, 68, 78, 11, 109, 110, 111, 112, 7, 8, 9, 10, 12, 13, 14, 15, 16, 17, 18, 19, 20, 21, 22, 23, 24, 25, 26, 27, 28, 29, 30, 31, 32, 33, 34, 35, 36, 37, 38, 39, 40, 41, 42, 43, 44, 45, 46, 47, 48, 49, 50, 51, 52, 53, 54, 55, 56, 57, 58, 59, 60, 61, 62, 63, 69, 70, 71, 72, 73, 74, 75, 76, 77, 79, 80, 81, 82, 83, 84, 85, 86, 87, 88, 90, 91, 92, 93, 94, 95, 96, 97, 98, 99, 100, 89, 118, 119, 120, 121, 122, 123, 124, 125, 126, 127, 128, 129, 130, 131, 132, 133, 134, 135, 136, 137, 138, 139, 140, 141, 142, 143, 144, 145] rfl (by decide +kernel)
set_option maxRecDepth 20000 in
theorem g_m_readItem_m_must0_224 : GoodIn w_m_readItem (wsV RX9 224 RX9 yX9_must w_m_must0) := goodIn_r _ [64, 65, 66, 4, 67, 68, 118, 119, 120, 121, 122, 123, 124, 125, 126, 127, 128, 129, 130, 131, 132, 133, 134, 135, 136, 137, 138, 139, 140, 141, 142, 143, 144, 145] rfl (by decide +kernel)
set_option maxRecDepth 20000 in
theorem g_m_readItem_m_readRows_244 : GoodIn w_m_readItem (wsV RX9 244 RX9 yX9_readRows w_m_readRows) := goodIn_r _ [114, 115, 116, 4, 117, 25, 63, 11, 64, 65, 66, 4, 67, 68, 69, 70, 71, 72, 73, 74, 75, 76, 77, 24, 78, 79, 80, 81, 82, 83, 84, 85, 86, 87, 88, 118, 119, 120, 121, 122, 123, 124, 125, 126, 127, 128, 129, 130, 131, 132, 133, 134, 135, 136, 137, 138, 139, 140, 141, 142, 143, 144, 145] rfl (by decide +kernel)
set_option maxHeartbeats 4000000 in
set_option maxRecDepth 100000 in
theorem m_readItem (l : Launch) (dC : Nat → ClassId) (dI : Nat → Nat → Nat) (ad : Nat → Nat) (h0 : Nat) (v0 : Value) (v1 : Value) (v2 : Value) (v3 : Value) (v4 : Value) (v5 : Value) (v6 : Value) (v7 : Value) (v8 : Value) (v9 : Value) (e0 : Nat) (ts : Int32) (bg : Int32) (en : Int32) (so : Int32) (va : Int32) (i0 : Nat) (y0 : Nat) (z0 : Nat) (im : Int32) (sT : Int32) (cT : Int32) (hT : Int32) (v24 : Value) (v25 : Value) (v26 : Value) (v27 : Value) (ec : ClassId) (ef : Nat → Int32) (ic : ClassId) (jf : Nat → Option Nat) (yc : ClassId) (yf : Nat → Int32) (zc : ClassId) (gf : Nat → Int64) (sz : Nat) (htm : 0 ≤ ts.toInt ∧ ts.toInt ≤ 120) (hlx : 0 ≤ bg.toInt ∧ en.toInt ≤ ts.toInt ∧ bg.toInt ≤ en.toInt) (hso : (so.toInt = 1 ∨ so.toInt = 3) → bg.toInt + 1 ≤ en.toInt) (hva : 0 ≤ va.toInt ∧ va.toInt ≤ 10000) (hht : 0 ≤ hT.toInt ∧ hT.toInt ≤ 511) (hst : 0 ≤ sT.toInt ∧ sT.toInt ≤ 9) (hct : 0 ≤ cT.toInt ∧ cT.toInt ≤ 7) (him : 0 ≤ im.toInt ∧ im.toInt ≤ 119) (hjf : ∀ j, j < 6 → jf j = (some (ad (13 + j)))) : Met l yX9_readItem w_m_readItem ({ frames := 7, cells := 0, slots := 0, locals := 155 } : Room) (va_Pc [.ref h0] (preT dC dI ad [(ec, .int), (ic, .object "java/lang/String"), (yc, .int), (zc, .long)] [(h0, .inr (7, [v0, v1, v2, v3, v4, v5, v6, v7, v8, v9, .ref e0, .int ts, .int bg, .int en, .int so, .int va, .int 0, .ref i0, .ref y0, .ref z0, .int im, .int sT, .int cT, .int hT, v24, v25, v26, v27])), (e0, .inl (ec, 120, .inl ef)), (i0, .inl (ic, 6, .inr (.inr (.inr (.inr jf))))), (y0, .inl (yc, 360, .inl yf)), (z0, .inl (zc, 120, .inr (.inl gf)))] sz)) (va_Qv (fun (_ : Unit) => True) (fun _ t => ∃ (bg2 : Int32), ∃ (en2 : Int32), ∃ (so2 : Int32), ∃ (va2 : Int32), ∃ (iw2 : Int32), ∃ (sT2 : Int32), ∃ (cT2 : Int32), ∃ (hT2 : Int32), ∃ (im2 : Int32), ∃ (yg : Nat → Int32), ∃ (gg : Nat → Int64), (0 ≤ bg2.toInt ∧ en2.toInt ≤ ts.toInt ∧ bg2.toInt ≤ en2.toInt) ∧ ((so2.toInt = 1 ∨ so2.toInt = 3) → bg2.toInt + 1 ≤ en2.toInt) ∧ (0 ≤ va2.toInt ∧ va2.toInt ≤ 10000) ∧ (iw2.toInt = 0 ∨ iw2.toInt = 1) ∧ (iw2.toInt = 0 → bg.toInt + 1 ≤ bg2.toInt) ∧ (im2.toInt = im.toInt + 1) ∧ (iw2.toInt = 0 → RI yf yg im.toInt.toNat sT.toInt cT.toInt hT.toInt.toNat sT2.toInt cT2.toInt hT2.toInt.toNat) ∧ (iw2.toInt = 0 → (0 ≤ sT2.toInt ∧ sT2.toInt ≤ 9) ∧ (0 ≤ cT2.toInt ∧ cT2.toInt ≤ 7) ∧ (0 ≤ hT2.toInt ∧ hT2.toInt ≤ 511)) ∧ va_P (dC, dI) vwCl [(h0, .inr (7, [v0, v1, v2, v3, v4, v5, v6, v7, v8, v9, .ref e0, .int ts, .int bg2, .int en2, .int so2, .int va2, .int iw2, .ref i0, .ref y0, .ref z0, .int im2, .int sT2, .int cT2, .int hT2, v24, v25, v26, v27])), (e0, .inl (ec, 120, .inl ef)), (i0, .inl (ic, 6, .inr (.inr (.inr (.inr jf))))), (y0, .inl (yc, 360, .inl yg)), (z0, .inl (zc, 120, .inr (.inl gg)))] t.heap ∧ va_K (dC, dI) vwCl [(ec, .int), (ic, .object "java/lang/String"), (yc, .int), (zc, .long)] t ∧ va_D (va_A [(h0, .inr (7, [v0, v1, v2, v3, v4, v5, v6, v7, v8, v9, .ref e0, .int ts, .int bg, .int en, .int so, .int va, .int 0, .ref i0, .ref y0, .ref z0, .int im, .int sT, .int cT, .int hT, v24, v25, v26, v27])), (e0, .inl (ec, 120, .inl ef)), (i0, .inl (ic, 6, .inr (.inr (.inr (.inr jf))))), (y0, .inl (yc, 360, .inl yf)), (z0, .inl (zc, 120, .inr (.inl gf)))] sz) [(h0, .inr (7, [v0, v1, v2, v3, v4, v5, v6, v7, v8, v9, .ref e0, .int ts, .int bg2, .int en2, .int so2, .int va2, .int iw2, .ref i0, .ref y0, .ref z0, .int im2, .int sT2, .int cT2, .int hT2, v24, v25, v26, v27])), (e0, .inl (ec, 120, .inl ef)), (i0, .inl (ic, 6, .inr (.inr (.inr (.inr jf))))), (y0, .inl (yc, 360, .inl yg)), (z0, .inl (zc, 120, .inr (.inl gg)))]) (va_A [(h0, .inr (7, [v0, v1, v2, v3, v4, v5, v6, v7, v8, v9, .ref e0, .int ts, .int bg, .int en, .int so, .int va, .int 0, .ref i0, .ref y0, .ref z0, .int im, .int sT, .int cT, .int hT, v24, v25, v26, v27])), (e0, .inl (ec, 120, .inl ef)), (i0, .inl (ic, 6, .inr (.inr (.inr (.inr jf))))), (y0, .inl (yc, 360, .inl yf)), (z0, .inl (zc, 120, .inr (.inl gf)))] sz)) 0 0 (va_A [(h0, .inr (7, [v0, v1, v2, v3, v4, v5, v6, v7, v8, v9, .ref e0, .int ts, .int bg, .int en, .int so, .int va, .int 0, .ref i0, .ref y0, .ref z0, .int im, .int sT, .int cT, .int hT, v24, v25, v26, v27])), (e0, .inl (ec, 120, .inl ef)), (i0, .inl (ic, 6, .inr (.inr (.inr (.inr jf))))), (y0, .inl (yc, 360, .inl yf)), (z0, .inl (zc, 120, .inr (.inl gf)))] sz) := by
  refine Met.ofW (cc := cX9_readItem) (maxL := 2) (ret := none) (by decide) rfl ?_
  intro p e s m args below meth c s₁ B hml hv
  obtain ⟨rfl, ⟨hsz, hP, hK, hD0, hev⟩, hsf⟩ := hv
  have hx := B.exec
  have hb := B.bytes
  have hr := B.returns
  have hts := atoms_spec (ws := w_m_readItem) B.pre
  have hown : s.vm.findClass RX9 = some m.cls := findClass_of_methodNamed B.named
  have hlocks := B.notSynchronized
  have inX9 : ∀ w ∈ wsX90, w ∈ w_m_readItem := fun w h => List.mem_cons_of_mem _ (List.mem_append_right _ h)
  subst hsz
  have hD := hD0.self (sz := s.heap.size)
  generalize hAe : va_A [(h0, .inr (7, [v0, v1, v2, v3, v4, v5, v6, v7, v8, v9, .ref e0, .int ts, .int bg, .int en, .int so, .int va, .int 0, .ref i0, .ref y0, .ref z0, .int im, .int sT, .int cT, .int hT, v24, v25, v26, v27])), (e0, .inl (ec, 120, .inl ef)), (i0, .inl (ic, 6, .inr (.inr (.inr (.inr jf))))), (y0, .inl (yc, 360, .inl yf)), (z0, .inl (zc, 120, .inr (.inl gf)))] s.heap.size = A at hD hsf ⊢
  have hA : ∀ q : Nat, s.heap.size ≤ q → A q := fun q h => by rw [← hAe]; exact Or.inr h
  have hS : va_S A s.heap s.heap [] := va_S.rf
  have hP : va_P (dC, dI) vwCl [(h0, .inr (7, [v0, v1, v2, v3, v4, v5, v6, v7, v8, v9, .ref e0, .int ts, .int bg, .int en, .int so, .int va, .int 0, .ref i0, .ref y0, .ref z0, .int im, .int sT, .int cT, .int hT, v24, v25, v26, v27])), (e0, .inl (ec, 120, .inl ef)), (i0, .inl (ic, 6, .inr (.inr (.inr (.inr jf))))), (y0, .inl (yc, 360, .inl yf)), (z0, .inl (zc, 120, .inr (.inl gf)))] s.heap := hP
  have hl := lv_entry ([.ref h0]) (n := 2) (Nat.le_of_ble_eq_true rfl)
  rw [lg_entry_eq]
  generalize (lg_sl ([.ref h0]) ++ List.replicate (2 - (lg_sl ([.ref h0])).length) Slot.unset).toArray = ls at hl ⊢
  have hl : lv_has ls 2 [(0, .ref h0)] := hl
  refine lv_aload_n hx hb dX9_readItem_0 rfl (lv_at hl 0 rfl) ?_
  have hPc := hP.sub (ws' := [(h0, .inr (7, [v0, v1, v2, v3, v4, v5, v6, v7, v8, v9, .ref e0, .int ts, .int bg, .int en, .int so, .int va, .int 0, .ref i0, .ref y0, .ref z0, .int im, .int sT, .int cT, .int hT, v24, v25, v26, v27])), (e0, .inl (ec, 120, .inl ef)), (i0, .inl (ic, 6, .inr (.inr (.inr (.inr jf)))))]) [0, 1, 2] rfl
  have hKc := hK.sub (tys' := [(ec, .int), (ic, .object "java/lang/String")]) [0, 1] rfl
  refine vp_callSi (W.runV (As := []) (rest := []) ⟨hx, hb, hml, hown, hts⟩ (m_kindTold l dC dI ad h0 v0 v1 v2 v3 v4 v5 v6 v7 v8 v9 e0 ts bg en so va (.int 0) i0 (.ref y0) (.ref z0) (.int im) (.int sT) (.int cT) (.int hT) v24 v25 v26 v27 ec ef ic jf htm hlx hjf) (cwV 0 hts g_m_readItem_m_kindTold_238 rfl rfl rfl (by decide +kernel) ⟨(Nat.le_of_ble_eq_true rfl), (Nat.le_of_ble_eq_true rfl)⟩) ⟨preST_blind, va_recv hKc hPc (ci := 7) (q0 := 0) rfl rfl, fun U hU hW => ⟨rfl, preS_at hU hW hPc hKc hev, sf_at hsf hS (fun _ h => h.elim) hU hW⟩⟩ rfl rfl hl.1 rfl (lv_room (Nat.le_of_ble_eq_true rfl)) dX9_readItem_1 ⟨(Nat.le_of_ble_eq_true rfl), (Nat.le_of_ble_eq_true rfl)⟩) (fun r_1 hw => ?_)
  have hr_1 : (-1) ≤ r_1.toInt ∧ r_1.toInt ≤ 5 ∧ (0 ≤ r_1.toInt → so.toInt = 1) := hw
  refine lv_istore_n (lv' := [(1, .int r_1), (0, .ref h0)]) hx hb dX9_readItem_4 rfl hl (by decide) rfl (fun ls hl => ?_)
  refine lv_iload_n hx hb dX9_readItem_5 rfl (lv_at hl 0 rfl) ?_
  refine lv_if_lt (tgt := 53) hx hb dX9_readItem_6 (by decide) (fun c_2 => ?_) (fun c_2 => ?_)
  · skip
    have tc_2 : r_1.toInt < 0 := (fa_lt _ _).mp c_2
    refine lv_aload_n hx hb dX9_readItem_53 rfl (lv_at hl 1 rfl) ?_
    refine va_ldcS (tx := "scene") (q := ad 19) hx hb hown (ev_str hev 19 rfl) dX9_readItem_54 ?_
    have hPc := hP.sub (ws' := [(h0, .inr (7, [v0, v1, v2, v3, v4, v5, v6, v7, v8, v9, .ref e0, .int ts, .int bg, .int en, .int so, .int va, .int 0, .ref i0, .ref y0, .ref z0, .int im, .int sT, .int cT, .int hT, v24, v25, v26, v27])), (e0, .inl (ec, 120, .inl ef))]) [0, 1] rfl
    have hKc := hK.sub (tys' := [(ec, .int)]) [0] rfl
    refine vp_callSi (W.runV (As := [.ref (ad 19)]) (rest := []) ⟨hx, hb, hml, hown, hts⟩ (m_isWord l dC dI ad h0 19 v0 v1 v2 v3 v4 v5 v6 v7 v8 v9 e0 ts bg en so va (.int 0) (.ref i0) (.ref y0) (.ref z0) (.int im) (.int sT) (.int cT) (.int hT) v24 v25 v26 v27 ec ef (by decide) htm hlx) (cwV 1 hts g_m_readItem_m_isWord_231 rfl rfl rfl (by decide +kernel) ⟨(Nat.le_of_ble_eq_true rfl), (Nat.le_of_ble_eq_true rfl)⟩) ⟨preST_blind, va_recv hKc hPc (ci := 7) (q0 := 0) rfl rfl, fun U hU hW => ⟨rfl, preS_at hU hW hPc hKc hev, sf_at hsf hS (fun _ h => h.elim) hU hW⟩⟩ rfl rfl hl.1 rfl (lv_room (Nat.le_of_ble_eq_true rfl)) dX9_readItem_56 ⟨(Nat.le_of_ble_eq_true rfl), (Nat.le_of_ble_eq_true rfl)⟩) (fun r_3 hw => ?_)
    have hr_3 : r_3.toInt = 0 ∨ (r_3.toInt = 1 ∧ so.toInt = 1) := hw
    refine lv_if_eq (tgt := 107) hx hb dX9_readItem_59 (by decide) (fun c_4 => ?_) (fun c_4 => ?_)
    · skip
      have tc_4 : r_3.toInt = 0 := (fa_eq _ _).mp c_4
      refine lv_aload_n hx hb dX9_readItem_107 rfl (lv_at hl 1 rfl) ?_
      refine va_ldcSw (tx := "hold") (q := ad 20) hx hb hown (ev_str hev 20 rfl) dX9_readItem_108 ?_
      have hPc := hP.sub (ws' := [(h0, .inr (7, [v0, v1, v2, v3, v4, v5, v6, v7, v8, v9, .ref e0, .int ts, .int bg, .int en, .int so, .int va, .int 0, .ref i0, .ref y0, .ref z0, .int im, .int sT, .int cT, .int hT, v24, v25, v26, v27])), (e0, .inl (ec, 120, .inl ef))]) [0, 1] rfl
      have hKc := hK.sub (tys' := [(ec, .int)]) [0] rfl
      refine vp_callSi (W.runV (As := [.ref (ad 20)]) (rest := []) ⟨hx, hb, hml, hown, hts⟩ (m_isWord l dC dI ad h0 20 v0 v1 v2 v3 v4 v5 v6 v7 v8 v9 e0 ts bg en so va (.int 0) (.ref i0) (.ref y0) (.ref z0) (.int im) (.int sT) (.int cT) (.int hT) v24 v25 v26 v27 ec ef (by decide) htm hlx) (cwV 1 hts g_m_readItem_m_isWord_231 rfl rfl rfl (by decide +kernel) ⟨(Nat.le_of_ble_eq_true rfl), (Nat.le_of_ble_eq_true rfl)⟩) ⟨preST_blind, va_recv hKc hPc (ci := 7) (q0 := 0) rfl rfl, fun U hU hW => ⟨rfl, preS_at hU hW hPc hKc hev, sf_at hsf hS (fun _ h => h.elim) hU hW⟩⟩ rfl rfl hl.1 rfl (lv_room (Nat.le_of_ble_eq_true rfl)) dX9_readItem_111 ⟨(Nat.le_of_ble_eq_true rfl), (Nat.le_of_ble_eq_true rfl)⟩) (fun r_5 hw => ?_)
      have hr_5 : r_5.toInt = 0 ∨ (r_5.toInt = 1 ∧ so.toInt = 1) := hw
      refine lv_if_eq (tgt := 124) hx hb dX9_readItem_114 (by decide) (fun c_6 => ?_) (fun c_6 => ?_)
      · skip
        have tc_6 : r_5.toInt = 0 := (fa_eq _ _).mp c_6
        refine lv_aload_n hx hb dX9_readItem_124 rfl (lv_at hl 1 rfl) ?_
        refine va_ldcSw (tx := "drop") (q := ad 24) hx hb hown (ev_str hev 24 rfl) dX9_readItem_125 ?_
        have hPc := hP.sub (ws' := [(h0, .inr (7, [v0, v1, v2, v3, v4, v5, v6, v7, v8, v9, .ref e0, .int ts, .int bg, .int en, .int so, .int va, .int 0, .ref i0, .ref y0, .ref z0, .int im, .int sT, .int cT, .int hT, v24, v25, v26, v27])), (e0, .inl (ec, 120, .inl ef))]) [0, 1] rfl
        have hKc := hK.sub (tys' := [(ec, .int)]) [0] rfl
        refine vp_callSi (W.runV (As := [.ref (ad 24)]) (rest := []) ⟨hx, hb, hml, hown, hts⟩ (m_isWord l dC dI ad h0 24 v0 v1 v2 v3 v4 v5 v6 v7 v8 v9 e0 ts bg en so va (.int 0) (.ref i0) (.ref y0) (.ref z0) (.int im) (.int sT) (.int cT) (.int hT) v24 v25 v26 v27 ec ef (by decide) htm hlx) (cwV 1 hts g_m_readItem_m_isWord_231 rfl rfl rfl (by decide +kernel) ⟨(Nat.le_of_ble_eq_true rfl), (Nat.le_of_ble_eq_true rfl)⟩) ⟨preST_blind, va_recv hKc hPc (ci := 7) (q0 := 0) rfl rfl, fun U hU hW => ⟨rfl, preS_at hU hW hPc hKc hev, sf_at hsf hS (fun _ h => h.elim) hU hW⟩⟩ rfl rfl hl.1 rfl (lv_room (Nat.le_of_ble_eq_true rfl)) dX9_readItem_128 ⟨(Nat.le_of_ble_eq_true rfl), (Nat.le_of_ble_eq_true rfl)⟩) (fun r_7 hw => ?_)
        have hr_7 : r_7.toInt = 0 ∨ (r_7.toInt = 1 ∧ so.toInt = 1) := hw
        refine lv_if_eq (tgt := 156) hx hb dX9_readItem_131 (by decide) (fun c_8 => ?_) (fun c_8 => ?_)
        · skip
          have tc_8 : r_7.toInt = 0 := (fa_eq _ _).mp c_8
          refine lv_aload_n hx hb dX9_readItem_156 rfl (lv_at hl 1 rfl) ?_
          refine lv_aload_n hx hb dX9_readItem_157 rfl (lv_at hl 1 rfl) ?_
          refine va_ldcSw (tx := "torn") (q := ad 25) hx hb hown (ev_str hev 25 rfl) dX9_readItem_158 ?_
          have hPc := hP.sub (ws' := [(h0, .inr (7, [v0, v1, v2, v3, v4, v5, v6, v7, v8, v9, .ref e0, .int ts, .int bg, .int en, .int so, .int va, .int 0, .ref i0, .ref y0, .ref z0, .int im, .int sT, .int cT, .int hT, v24, v25, v26, v27])), (e0, .inl (ec, 120, .inl ef))]) [0, 1] rfl
          have hKc := hK.sub (tys' := [(ec, .int)]) [0] rfl
          refine vp_callSi (W.runV (As := [.ref (ad 25)]) (rest := [.ref h0]) ⟨hx, hb, hml, hown, hts⟩ (m_isWord l dC dI ad h0 25 v0 v1 v2 v3 v4 v5 v6 v7 v8 v9 e0 ts bg en so va (.int 0) (.ref i0) (.ref y0) (.ref z0) (.int im) (.int sT) (.int cT) (.int hT) v24 v25 v26 v27 ec ef (by decide) htm hlx) (cwV 1 hts g_m_readItem_m_isWord_231 rfl rfl rfl (by decide +kernel) ⟨(Nat.le_of_ble_eq_true rfl), (Nat.le_of_ble_eq_true rfl)⟩) ⟨preST_blind, va_recv hKc hPc (ci := 7) (q0 := 0) rfl rfl, fun U hU hW => ⟨rfl, preS_at hU hW hPc hKc hev, sf_at hsf hS (fun _ h => h.elim) hU hW⟩⟩ rfl rfl hl.1 rfl (lv_room (Nat.le_of_ble_eq_true rfl)) dX9_readItem_161 ⟨(Nat.le_of_ble_eq_true rfl), (Nat.le_of_ble_eq_true rfl)⟩) (fun r_9 hw => ?_)
          have hr_9 : r_9.toInt = 0 ∨ (r_9.toInt = 1 ∧ so.toInt = 1) := hw
          have hPc := hP.sub (ws' := [(h0, .inr (7, [v0, v1, v2, v3, v4, v5, v6, v7, v8, v9, .ref e0, .int ts, .int bg, .int en, .int so, .int va, .int 0, .ref i0, .ref y0, .ref z0, .int im, .int sT, .int cT, .int hT, v24, v25, v26, v27])), (e0, .inl (ec, 120, .inl ef))]) [0, 1] rfl
          have hKc := hK.sub (tys' := [(ec, .int)]) [0] rfl
          have hDc := hD.sub (ws' := [(h0, .inr (7, [v0, v1, v2, v3, v4, v5, v6, v7, v8, v9, .ref e0, .int ts, .int bg, .int en, .int so, .int va, .int 0, .ref i0, .ref y0, .ref z0, .int im, .int sT, .int cT, .int hT, v24, v25, v26, v27])), (e0, .inl (ec, 120, .inl ef))]) [0, 1] (by decide) rfl
          have hFc := va_free (wc := [(h0, .inr (7, [v0, v1, v2, v3, v4, v5, v6, v7, v8, v9, .ref e0, .int ts, .int bg, .int en, .int so, .int va, .int 0, .ref i0, .ref y0, .ref z0, .int im, .int sT, .int cT, .int hT, v24, v25, v26, v27])), (e0, .inl (ec, 120, .inl ef))]) hD hS hA [0, 1] rfl
          refine va_callv (va_runV (As := [.int r_9]) (rest := []) ⟨hx, hb, hml, hown, hts⟩ (m_mustG l dC dI ad h0 r_9 v0 v1 v2 v3 v4 v5 v6 v7 v8 v9 e0 ts bg en so va 0 (.ref i0) (.ref y0) (.ref z0) (.int im) (.int sT) (.int cT) (.int hT) v24 v25 v26 v27 ec ef s.heap.size htm hlx hso hva) (cwV 1 hts g_m_readItem_m_mustG_224 rfl rfl rfl (by decide +kernel) ⟨(Nat.le_of_ble_eq_true rfl), (Nat.le_of_ble_eq_true rfl)⟩) ⟨preM_blind, va_recv hKc hPc (ci := 7) (q0 := 0) rfl rfl, fun U hU hW => ⟨rfl, preM_at hU hW hPc hKc hDc hev⟩⟩ rfl rfl hl.1 rfl (lv_room (Nat.le_of_ble_eq_true rfl)) dX9_readItem_164 ⟨(Nat.le_of_ble_eq_true rfl), (Nat.le_of_ble_eq_true rfl)⟩) hS (fun q _ h => hFc q h) hFc (fun u t H1 locs ht hvm hw hB hz1 hk1 hS => ?_)
          obtain ⟨bg_11, en_12, so_13, va_14, iw_15, hq_16, hq_17, hq_18, hq_19, hq_20, hP1, hK1, hD1⟩ := hB
          rw [ht] at hP1
          have hK1 := va_K.moved hvm.symm hK1
          obtain ⟨hP, hD⟩ := va_join (wr := [(i0, .inl (ic, 6, .inr (.inr (.inr (.inr jf))))), (y0, .inl (yc, 360, .inl yf)), (z0, .inl (zc, 120, .inr (.inl gf)))]) (w1 := [(h0, .inr (7, [v0, v1, v2, v3, v4, v5, v6, v7, v8, v9, .ref e0, .int ts, .int bg_11, .int en_12, .int so_13, .int va_14, .int iw_15, .ref i0, .ref y0, .ref z0, .int im, .int sT, .int cT, .int hT, v24, v25, v26, v27])), (e0, .inl (ec, 120, .inl ef))]) hP hD [0, 1] [2, 3, 4] rfl rfl (by decide) (by decide) hk1 hFc hP1 hD1
          generalize H1 = H at hP hS ⊢
          have hP : va_P (dC, dI) vwCl [(i0, .inl (ic, 6, .inr (.inr (.inr (.inr jf))))), (y0, .inl (yc, 360, .inl yf)), (z0, .inl (zc, 120, .inr (.inl gf))), (h0, .inr (7, [v0, v1, v2, v3, v4, v5, v6, v7, v8, v9, .ref e0, .int ts, .int bg_11, .int en_12, .int so_13, .int va_14, .int iw_15, .ref i0, .ref y0, .ref z0, .int im, .int sT, .int cT, .int hT, v24, v25, v26, v27])), (e0, .inl (ec, 120, .inl ef))] H := hP
          have hD : va_D A [(i0, .inl (ic, 6, .inr (.inr (.inr (.inr jf))))), (y0, .inl (yc, 360, .inl yf)), (z0, .inl (zc, 120, .inr (.inl gf))), (h0, .inr (7, [v0, v1, v2, v3, v4, v5, v6, v7, v8, v9, .ref e0, .int ts, .int bg_11, .int en_12, .int so_13, .int va_14, .int iw_15, .ref i0, .ref y0, .ref z0, .int im, .int sT, .int cT, .int hT, v24, v25, v26, v27])), (e0, .inl (ec, 120, .inl ef))] := hD
          have hq_20 : iw_15.toInt = 0 → (0 : Int) = 0 ∧ ¬ r_9.toInt = 0 ∧ en.toInt ≤ bg_11.toInt := hq_20
          refine lv_aload_n hx hb dX9_readItem_167 rfl (lv_at hl 1 rfl) ?_
          refine lv_bipush (v := 13) hx hb dX9_readItem_168 (by decide) ?_
          refine lv_aload_n hx hb dX9_readItem_170 rfl (lv_at hl 1 rfl) ?_
          refine lv_iconst (v := 0) hx hb dX9_readItem_171 (by decide) ?_
          refine lv_aload_n hx hb dX9_readItem_172 rfl (lv_at hl 1 rfl) ?_
          refine va_get (D := (dC, dI)) (ci := 7) (v := .int sT) (C := RX9) (T := TX9) (N := 28) hx hb hts inX9 hown hK hP 3 rfl rfl 21 (by decide) (hts _ (List.mem_of_getElem? (i := 89) rfl)) (fun _ h9 => h9) rfl dX9_readItem_173 ?_
          refine lv_iconst (v := 1) hx hb dX9_readItem_176 (by decide) ?_
          refine lv_isub hx hb dX9_readItem_177 ?_
          refine lv_topi (fun n_21 en_21 => ?_)
          have tn_21 : n_21.toInt = sT.toInt - 1 := pp_sub en_21 rfl rfl (by omega) (by omega)
          clear en_21
          have hPc := hP.sub (ws' := [(h0, .inr (7, [v0, v1, v2, v3, v4, v5, v6, v7, v8, v9, .ref e0, .int ts, .int bg_11, .int en_12, .int so_13, .int va_14, .int iw_15, .ref i0, .ref y0, .ref z0, .int im, .int sT, .int cT, .int hT, v24, v25, v26, v27])), (e0, .inl (ec, 120, .inl ef))]) [3, 4] rfl
          have hKc := hK.sub (tys' := [(ec, .int)]) [0] rfl
          have hDc := hD.sub (ws' := [(h0, .inr (7, [v0, v1, v2, v3, v4, v5, v6, v7, v8, v9, .ref e0, .int ts, .int bg_11, .int en_12, .int so_13, .int va_14, .int iw_15, .ref i0, .ref y0, .ref z0, .int im, .int sT, .int cT, .int hT, v24, v25, v26, v27])), (e0, .inl (ec, 120, .inl ef))]) [3, 4] (by decide) rfl
          have hFc := va_free (wc := [(h0, .inr (7, [v0, v1, v2, v3, v4, v5, v6, v7, v8, v9, .ref e0, .int ts, .int bg_11, .int en_12, .int so_13, .int va_14, .int iw_15, .ref i0, .ref y0, .ref z0, .int im, .int sT, .int cT, .int hT, v24, v25, v26, v27])), (e0, .inl (ec, 120, .inl ef))]) hD hS hA [3, 4] rfl
          refine va_calli (va_runV (As := [.int 0, .int n_21]) (rest := [.int 13, .ref h0]) ⟨hx, hb, hml, hown, hts⟩ (m_number l dC dI ad h0 0 n_21 v0 v1 v2 v3 v4 v5 v6 v7 v8 v9 e0 ts bg_11 en_12 so_13 va_14 iw_15 (.ref i0) (.ref y0) (.ref z0) (.int im) (.int sT) (.int cT) (.int hT) v24 v25 v26 v27 ec ef H.size htm hq_16 hq_17 hq_18) (cwV 2 hts g_m_readItem_m_number_235 rfl rfl rfl (by decide +kernel) ⟨(Nat.le_of_ble_eq_true rfl), (Nat.le_of_ble_eq_true rfl)⟩) ⟨preM_blind, va_recv hKc hPc (ci := 7) (q0 := 0) rfl rfl, fun U hU hW => ⟨rfl, preM_at hU hW hPc hKc hDc hev⟩⟩ rfl rfl hl.1 rfl (lv_room (Nat.le_of_ble_eq_true rfl)) dX9_readItem_178 ⟨(Nat.le_of_ble_eq_true rfl), (Nat.le_of_ble_eq_true rfl)⟩) hS (fun q _ h => hFc q h) hFc (fun r_22 u t H1 locs ht hvm hw hB hz1 hk1 hS => ?_)
          obtain ⟨bg_23, en_24, so_25, va_26, iw_27, hq_28, hq_29, hq_30, hq_31, hq_32, hP1, hK1, hD1⟩ := hB
          rw [ht] at hP1
          have hK1 := va_K.moved hvm.symm hK1
          obtain ⟨hP, hD⟩ := va_join (wr := [(i0, .inl (ic, 6, .inr (.inr (.inr (.inr jf))))), (y0, .inl (yc, 360, .inl yf)), (z0, .inl (zc, 120, .inr (.inl gf)))]) (w1 := [(h0, .inr (7, [v0, v1, v2, v3, v4, v5, v6, v7, v8, v9, .ref e0, .int ts, .int bg_23, .int en_24, .int so_25, .int va_26, .int iw_27, .ref i0, .ref y0, .ref z0, .int im, .int sT, .int cT, .int hT, v24, v25, v26, v27])), (e0, .inl (ec, 120, .inl ef))]) hP hD [3, 4] [0, 1, 2] rfl rfl (by decide) (by decide) hk1 hFc hP1 hD1
          generalize H1 = H at hP hS ⊢
          have hP : va_P (dC, dI) vwCl [(i0, .inl (ic, 6, .inr (.inr (.inr (.inr jf))))), (y0, .inl (yc, 360, .inl yf)), (z0, .inl (zc, 120, .inr (.inl gf))), (h0, .inr (7, [v0, v1, v2, v3, v4, v5, v6, v7, v8, v9, .ref e0, .int ts, .int bg_23, .int en_24, .int so_25, .int va_26, .int iw_27, .ref i0, .ref y0, .ref z0, .int im, .int sT, .int cT, .int hT, v24, v25, v26, v27])), (e0, .inl (ec, 120, .inl ef))] H := hP
          have hD : va_D A [(i0, .inl (ic, 6, .inr (.inr (.inr (.inr jf))))), (y0, .inl (yc, 360, .inl yf)), (z0, .inl (zc, 120, .inr (.inl gf))), (h0, .inr (7, [v0, v1, v2, v3, v4, v5, v6, v7, v8, v9, .ref e0, .int ts, .int bg_23, .int en_24, .int so_25, .int va_26, .int iw_27, .ref i0, .ref y0, .ref z0, .int im, .int sT, .int cT, .int hT, v24, v25, v26, v27])), (e0, .inl (ec, 120, .inl ef))] := hD
          have hr_22 : r_22.toInt = va_14.toInt := hw
          have hq_32 : iw_27.toInt = 0 → iw_15.toInt = 0 ∧ (0 : Int) ≤ va_14.toInt ∧ va_14.toInt ≤ n_21.toInt ∧ en_12.toInt ≤ bg_23.toInt := hq_32
          refine lv_iconst (v := 0) hx hb dX9_readItem_181 (by decide) ?_
          refine lv_lconst (v := 0) hx hb dX9_readItem_182 (by decide) ?_
          have hPc := hP.sub (ws' := [(h0, .inr (7, [v0, v1, v2, v3, v4, v5, v6, v7, v8, v9, .ref e0, .int ts, .int bg_23, .int en_24, .int so_25, .int va_26, .int iw_27, .ref i0, .ref y0, .ref z0, .int im, .int sT, .int cT, .int hT, v24, v25, v26, v27])), (y0, .inl (yc, 360, .inl yf)), (z0, .inl (zc, 120, .inr (.inl gf)))]) [3, 1, 2] rfl
          have hKc := hK.sub (tys' := [(yc, .int), (zc, .long)]) [2, 3] rfl
          have hDc := hD.sub (ws' := [(h0, .inr (7, [v0, v1, v2, v3, v4, v5, v6, v7, v8, v9, .ref e0, .int ts, .int bg_23, .int en_24, .int so_25, .int va_26, .int iw_27, .ref i0, .ref y0, .ref z0, .int im, .int sT, .int cT, .int hT, v24, v25, v26, v27])), (y0, .inl (yc, 360, .inl yf)), (z0, .inl (zc, 120, .inr (.inl gf)))]) [3, 1, 2] (by decide) rfl
          have hFc := va_free (wc := [(h0, .inr (7, [v0, v1, v2, v3, v4, v5, v6, v7, v8, v9, .ref e0, .int ts, .int bg_23, .int en_24, .int so_25, .int va_26, .int iw_27, .ref i0, .ref y0, .ref z0, .int im, .int sT, .int cT, .int hT, v24, v25, v26, v27])), (y0, .inl (yc, 360, .inl yf)), (z0, .inl (zc, 120, .inr (.inl gf)))]) hD hS hA [3, 1, 2] rfl
          refine va_callv (va_runV (As := [.int 13, .int r_22, .int 0, .long 0]) (rest := []) ⟨hx, hb, hml, hown, hts⟩ (m_item l dC dI ad h0 13 r_22 0 0 v0 v1 v2 v3 v4 v5 v6 v7 v8 v9 (.ref e0) (.int ts) (.int bg_23) (.int en_24) (.int so_25) (.int va_26) (.int iw_27) (.ref i0) y0 z0 im (.int sT) (.int cT) (.int hT) v24 v25 v26 v27 yc yf zc gf H.size him) (cwV 4 hts g_m_readItem_m_item_247 rfl rfl rfl (by decide +kernel) ⟨(Nat.le_of_ble_eq_true rfl), (Nat.le_of_ble_eq_true rfl)⟩) ⟨preM_blind, va_recv hKc hPc (ci := 7) (q0 := 0) rfl rfl, fun U hU hW => ⟨rfl, preM_at hU hW hPc hKc hDc hev⟩⟩ rfl rfl hl.1 rfl (lv_room (Nat.le_of_ble_eq_true rfl)) dX9_readItem_183 ⟨(Nat.le_of_ble_eq_true rfl), (Nat.le_of_ble_eq_true rfl)⟩) hS (fun q _ h => hFc q h) hFc (fun u t H1 locs ht hvm hw hB hz1 hk1 hS => ?_)
          obtain ⟨im_34, yg_35, gg_36, hq_37, hq_38, hP1, hK1, hD1⟩ := hB
          rw [ht] at hP1
          have hK1 := va_K.moved hvm.symm hK1
          obtain ⟨hP, hD⟩ := va_join (wr := [(i0, .inl (ic, 6, .inr (.inr (.inr (.inr jf))))), (e0, .inl (ec, 120, .inl ef))]) (w1 := [(h0, .inr (7, [v0, v1, v2, v3, v4, v5, v6, v7, v8, v9, .ref e0, .int ts, .int bg_23, .int en_24, .int so_25, .int va_26, .int iw_27, .ref i0, .ref y0, .ref z0, .int im_34, .int sT, .int cT, .int hT, v24, v25, v26, v27])), (y0, .inl (yc, 360, .inl yg_35)), (z0, .inl (zc, 120, .inr (.inl gg_36)))]) hP hD [3, 1, 2] [0, 4] rfl rfl (by decide) (by decide) hk1 hFc hP1 hD1
          generalize H1 = H at hP hS ⊢
          have hP : va_P (dC, dI) vwCl [(i0, .inl (ic, 6, .inr (.inr (.inr (.inr jf))))), (e0, .inl (ec, 120, .inl ef)), (h0, .inr (7, [v0, v1, v2, v3, v4, v5, v6, v7, v8, v9, .ref e0, .int ts, .int bg_23, .int en_24, .int so_25, .int va_26, .int iw_27, .ref i0, .ref y0, .ref z0, .int im_34, .int sT, .int cT, .int hT, v24, v25, v26, v27])), (y0, .inl (yc, 360, .inl yg_35)), (z0, .inl (zc, 120, .inr (.inl gg_36)))] H := hP
          have hD : va_D A [(i0, .inl (ic, 6, .inr (.inr (.inr (.inr jf))))), (e0, .inl (ec, 120, .inl ef)), (h0, .inr (7, [v0, v1, v2, v3, v4, v5, v6, v7, v8, v9, .ref e0, .int ts, .int bg_23, .int en_24, .int so_25, .int va_26, .int iw_27, .ref i0, .ref y0, .ref z0, .int im_34, .int sT, .int cT, .int hT, v24, v25, v26, v27])), (y0, .inl (yc, 360, .inl yg_35)), (z0, .inl (zc, 120, .inr (.inl gg_36)))] := hD
          have hP9 := hP.sub (ws' := [(h0, .inr (7, [v0, v1, v2, v3, v4, v5, v6, v7, v8, v9, .ref e0, .int ts, .int bg_23, .int en_24, .int so_25, .int va_26, .int iw_27, .ref i0, .ref y0, .ref z0, .int im_34, .int sT, .int cT, .int hT, v24, v25, v26, v27])), (e0, .inl (ec, 120, .inl ef)), (i0, .inl (ic, 6, .inr (.inr (.inr (.inr jf))))), (y0, .inl (yc, 360, .inl yg_35)), (z0, .inl (zc, 120, .inr (.inl gg_36)))]) [2, 1, 0, 3, 4] rfl
          have hD9 := hD.sub (ws' := [(h0, .inr (7, [v0, v1, v2, v3, v4, v5, v6, v7, v8, v9, .ref e0, .int ts, .int bg_23, .int en_24, .int so_25, .int va_26, .int iw_27, .ref i0, .ref y0, .ref z0, .int im_34, .int sT, .int cT, .int hT, v24, v25, v26, v27])), (e0, .inl (ec, 120, .inl ef)), (i0, .inl (ic, 6, .inr (.inr (.inr (.inr jf))))), (y0, .inl (yc, 360, .inl yg_35)), (z0, .inl (zc, 120, .inr (.inl gg_36)))]) [2, 1, 0, 3, 4] (by decide) rfl
          have hK9 := hK.sub (tys' := [(ec, .int), (ic, .object "java/lang/String"), (yc, .int), (zc, .long)]) [0, 1, 2, 3] rfl
          exact W.vret hx hb hr (fun t ht hW => ⟨⟨(), rfl, trivial, bg_23, en_24, so_25, va_26, iw_27, sT, cT, hT, im_34, yg_35, gg_36, hq_28, hq_29, hq_30, hq_31, (by first | omega | decide | (simp only [fa_lt, fa_le, fa_eq, and_true, true_and, and_false, false_and, not_true_eq_false, not_false_eq_true, li_0, li_1, li_2, li_3, li_4, li_5, li_6, li_7, li_8, li_9, li_10, li_12, li_15, li_16, li_20, li_30, li_34, li_38, li_40, li_63, li_64, li_65, li_78, li_120, li_1000, li_4000, li_10000, li_11077, li_255, li_65535, li_m1, li_m2, li_m1000000001, li_m1000000002, li_m1000000003, li_m1000000004, li_m1000000005, li_m1000000006, li_m1000000007, or_true, true_or, or_false, false_or, implies_true, true_implies, false_implies] <;> omega)), hq_37, (fun hz => RI_mk hq_38 (Or.inr (Or.inr (Or.inr (Or.inr ⟨by decide, ⟨by omega, by omega⟩, rfl, rfl, rfl⟩))))), (by first | omega | decide | (simp only [fa_lt, fa_le, fa_eq, and_true, true_and, and_false, false_and, not_true_eq_false, not_false_eq_true, li_0, li_1, li_2, li_3, li_4, li_5, li_6, li_7, li_8, li_9, li_10, li_12, li_15, li_16, li_20, li_30, li_34, li_38, li_40, li_63, li_64, li_65, li_78, li_120, li_1000, li_4000, li_10000, li_11077, li_255, li_65535, li_m1, li_m2, li_m1000000001, li_m1000000002, li_m1000000003, li_m1000000004, li_m1000000005, li_m1000000006, li_m1000000007, or_true, true_or, or_false, false_or, implies_true, true_implies, false_implies] <;> omega)), by rw [ht]; exact hP9, va_K.moved hW.alike hK9, hD9⟩, hS.F ht⟩) hS.2.2 dX9_readItem_186
        · skip
          have tc_8 : ¬ r_7.toInt = 0 := fun h => c_8 ((fa_eq _ _).mpr h)
          refine lv_aload_n hx hb dX9_readItem_134 rfl (lv_at hl 1 rfl) ?_
          refine lv_iconst (v := 1) hx hb dX9_readItem_135 (by decide) ?_
          have hPc := hP.sub (ws' := [(h0, .inr (7, [v0, v1, v2, v3, v4, v5, v6, v7, v8, v9, .ref e0, .int ts, .int bg, .int en, .int so, .int va, .int 0, .ref i0, .ref y0, .ref z0, .int im, .int sT, .int cT, .int hT, v24, v25, v26, v27])), (e0, .inl (ec, 120, .inl ef))]) [0, 1] rfl
          have hKc := hK.sub (tys' := [(ec, .int)]) [0] rfl
          have hDc := hD.sub (ws' := [(h0, .inr (7, [v0, v1, v2, v3, v4, v5, v6, v7, v8, v9, .ref e0, .int ts, .int bg, .int en, .int so, .int va, .int 0, .ref i0, .ref y0, .ref z0, .int im, .int sT, .int cT, .int hT, v24, v25, v26, v27])), (e0, .inl (ec, 120, .inl ef))]) [0, 1] (by decide) rfl
          have hFc := va_free (wc := [(h0, .inr (7, [v0, v1, v2, v3, v4, v5, v6, v7, v8, v9, .ref e0, .int ts, .int bg, .int en, .int so, .int va, .int 0, .ref i0, .ref y0, .ref z0, .int im, .int sT, .int cT, .int hT, v24, v25, v26, v27])), (e0, .inl (ec, 120, .inl ef))]) hD hS hA [0, 1] rfl
          refine va_callv (va_runV (As := [.int 1]) (rest := []) ⟨hx, hb, hml, hown, hts⟩ (m_must1 l dC dI ad h0 v0 v1 v2 v3 v4 v5 v6 v7 v8 v9 e0 ts bg en so va (.ref i0) (.ref y0) (.ref z0) (.int im) (.int sT) (.int cT) (.int hT) v24 v25 v26 v27 ec ef s.heap.size htm hlx hso hva) (cwV 1 hts g_m_readItem_m_must1_224 rfl rfl rfl (by decide +kernel) ⟨(Nat.le_of_ble_eq_true rfl), (Nat.le_of_ble_eq_true rfl)⟩) ⟨preM_blind, va_recv hKc hPc (ci := 7) (q0 := 0) rfl rfl, fun U hU hW => ⟨rfl, preM_at hU hW hPc hKc hDc hev⟩⟩ rfl rfl hl.1 rfl (lv_room (Nat.le_of_ble_eq_true rfl)) dX9_readItem_136 ⟨(Nat.le_of_ble_eq_true rfl), (Nat.le_of_ble_eq_true rfl)⟩) hS (fun q _ h => hFc q h) hFc (fun u t H1 locs ht hvm hw hB hz1 hk1 hS => ?_)
          obtain ⟨bg_40, en_41, so_42, va_43, hq_44, hq_45, hq_46, hq_47, hP1, hK1, hD1⟩ := hB
          rw [ht] at hP1
          have hK1 := va_K.moved hvm.symm hK1
          obtain ⟨hP, hD⟩ := va_join (wr := [(i0, .inl (ic, 6, .inr (.inr (.inr (.inr jf))))), (y0, .inl (yc, 360, .inl yf)), (z0, .inl (zc, 120, .inr (.inl gf)))]) (w1 := [(h0, .inr (7, [v0, v1, v2, v3, v4, v5, v6, v7, v8, v9, .ref e0, .int ts, .int bg_40, .int en_41, .int so_42, .int va_43, .int 0, .ref i0, .ref y0, .ref z0, .int im, .int sT, .int cT, .int hT, v24, v25, v26, v27])), (e0, .inl (ec, 120, .inl ef))]) hP hD [0, 1] [2, 3, 4] rfl rfl (by decide) (by decide) hk1 hFc hP1 hD1
          generalize H1 = H at hP hS ⊢
          have hP : va_P (dC, dI) vwCl [(i0, .inl (ic, 6, .inr (.inr (.inr (.inr jf))))), (y0, .inl (yc, 360, .inl yf)), (z0, .inl (zc, 120, .inr (.inl gf))), (h0, .inr (7, [v0, v1, v2, v3, v4, v5, v6, v7, v8, v9, .ref e0, .int ts, .int bg_40, .int en_41, .int so_42, .int va_43, .int 0, .ref i0, .ref y0, .ref z0, .int im, .int sT, .int cT, .int hT, v24, v25, v26, v27])), (e0, .inl (ec, 120, .inl ef))] H := hP
          have hD : va_D A [(i0, .inl (ic, 6, .inr (.inr (.inr (.inr jf))))), (y0, .inl (yc, 360, .inl yf)), (z0, .inl (zc, 120, .inr (.inl gf))), (h0, .inr (7, [v0, v1, v2, v3, v4, v5, v6, v7, v8, v9, .ref e0, .int ts, .int bg_40, .int en_41, .int so_42, .int va_43, .int 0, .ref i0, .ref y0, .ref z0, .int im, .int sT, .int cT, .int hT, v24, v25, v26, v27])), (e0, .inl (ec, 120, .inl ef))] := hD
          refine lv_aload_n hx hb dX9_readItem_139 rfl (lv_at hl 1 rfl) ?_
          refine lv_iconst (v := 0) hx hb dX9_readItem_140 (by decide) ?_
          refine va_put (D := (dC, dI)) (ci := 7) (v := .int 0) (ty := .int) (C := RX9) (T := TX9) (N := 28) hx hb hts inX9 tyX9 tyX9_ok nmX9 hown hK hP hD hS 3 rfl rfl 23 (by decide) (hts _ (List.mem_of_getElem? (i := 101) rfl)) (fun _ h9 => h9) rfl (by decide +kernel) rfl rfl (Nat.le_of_ble_eq_true rfl) dX9_readItem_141 (fun H locs hP hD hS => ?_)
          have hP : va_P (dC, dI) vwCl [(i0, .inl (ic, 6, .inr (.inr (.inr (.inr jf))))), (y0, .inl (yc, 360, .inl yf)), (z0, .inl (zc, 120, .inr (.inl gf))), (h0, .inr (7, [v0, v1, v2, v3, v4, v5, v6, v7, v8, v9, .ref e0, .int ts, .int bg_40, .int en_41, .int so_42, .int va_43, .int 0, .ref i0, .ref y0, .ref z0, .int im, .int sT, .int cT, .int 0, v24, v25, v26, v27])), (e0, .inl (ec, 120, .inl ef))] H := hP
          have hD : va_D A [(i0, .inl (ic, 6, .inr (.inr (.inr (.inr jf))))), (y0, .inl (yc, 360, .inl yf)), (z0, .inl (zc, 120, .inr (.inl gf))), (h0, .inr (7, [v0, v1, v2, v3, v4, v5, v6, v7, v8, v9, .ref e0, .int ts, .int bg_40, .int en_41, .int so_42, .int va_43, .int 0, .ref i0, .ref y0, .ref z0, .int im, .int sT, .int cT, .int 0, v24, v25, v26, v27])), (e0, .inl (ec, 120, .inl ef))] := hD
          refine lv_aload_n hx hb dX9_readItem_144 rfl (lv_at hl 1 rfl) ?_
          refine lv_bipush (v := 12) hx hb dX9_readItem_145 (by decide) ?_
          refine lv_iconst (v := 0) hx hb dX9_readItem_147 (by decide) ?_
          refine lv_iconst (v := 0) hx hb dX9_readItem_148 (by decide) ?_
          refine lv_lconst (v := 0) hx hb dX9_readItem_149 (by decide) ?_
          have hPc := hP.sub (ws' := [(h0, .inr (7, [v0, v1, v2, v3, v4, v5, v6, v7, v8, v9, .ref e0, .int ts, .int bg_40, .int en_41, .int so_42, .int va_43, .int 0, .ref i0, .ref y0, .ref z0, .int im, .int sT, .int cT, .int 0, v24, v25, v26, v27])), (y0, .inl (yc, 360, .inl yf)), (z0, .inl (zc, 120, .inr (.inl gf)))]) [3, 1, 2] rfl
          have hKc := hK.sub (tys' := [(yc, .int), (zc, .long)]) [2, 3] rfl
          have hDc := hD.sub (ws' := [(h0, .inr (7, [v0, v1, v2, v3, v4, v5, v6, v7, v8, v9, .ref e0, .int ts, .int bg_40, .int en_41, .int so_42, .int va_43, .int 0, .ref i0, .ref y0, .ref z0, .int im, .int sT, .int cT, .int 0, v24, v25, v26, v27])), (y0, .inl (yc, 360, .inl yf)), (z0, .inl (zc, 120, .inr (.inl gf)))]) [3, 1, 2] (by decide) rfl
          have hFc := va_free (wc := [(h0, .inr (7, [v0, v1, v2, v3, v4, v5, v6, v7, v8, v9, .ref e0, .int ts, .int bg_40, .int en_41, .int so_42, .int va_43, .int 0, .ref i0, .ref y0, .ref z0, .int im, .int sT, .int cT, .int 0, v24, v25, v26, v27])), (y0, .inl (yc, 360, .inl yf)), (z0, .inl (zc, 120, .inr (.inl gf)))]) hD hS hA [3, 1, 2] rfl
          refine va_callv (va_runV (As := [.int 12, .int 0, .int 0, .long 0]) (rest := []) ⟨hx, hb, hml, hown, hts⟩ (m_item l dC dI ad h0 12 0 0 0 v0 v1 v2 v3 v4 v5 v6 v7 v8 v9 (.ref e0) (.int ts) (.int bg_40) (.int en_41) (.int so_42) (.int va_43) (.int 0) (.ref i0) y0 z0 im (.int sT) (.int cT) (.int 0) v24 v25 v26 v27 yc yf zc gf H.size him) (cwV 4 hts g_m_readItem_m_item_247 rfl rfl rfl (by decide +kernel) ⟨(Nat.le_of_ble_eq_true rfl), (Nat.le_of_ble_eq_true rfl)⟩) ⟨preM_blind, va_recv hKc hPc (ci := 7) (q0 := 0) rfl rfl, fun U hU hW => ⟨rfl, preM_at hU hW hPc hKc hDc hev⟩⟩ rfl rfl hl.1 rfl (lv_room (Nat.le_of_ble_eq_true rfl)) dX9_readItem_150 ⟨(Nat.le_of_ble_eq_true rfl), (Nat.le_of_ble_eq_true rfl)⟩) hS (fun q _ h => hFc q h) hFc (fun u t H1 locs ht hvm hw hB hz1 hk1 hS => ?_)
          obtain ⟨im_49, yg_50, gg_51, hq_52, hq_53, hP1, hK1, hD1⟩ := hB
          rw [ht] at hP1
          have hK1 := va_K.moved hvm.symm hK1
          obtain ⟨hP, hD⟩ := va_join (wr := [(i0, .inl (ic, 6, .inr (.inr (.inr (.inr jf))))), (e0, .inl (ec, 120, .inl ef))]) (w1 := [(h0, .inr (7, [v0, v1, v2, v3, v4, v5, v6, v7, v8, v9, .ref e0, .int ts, .int bg_40, .int en_41, .int so_42, .int va_43, .int 0, .ref i0, .ref y0, .ref z0, .int im_49, .int sT, .int cT, .int 0, v24, v25, v26, v27])), (y0, .inl (yc, 360, .inl yg_50)), (z0, .inl (zc, 120, .inr (.inl gg_51)))]) hP hD [3, 1, 2] [0, 4] rfl rfl (by decide) (by decide) hk1 hFc hP1 hD1
          generalize H1 = H at hP hS ⊢
          have hP : va_P (dC, dI) vwCl [(i0, .inl (ic, 6, .inr (.inr (.inr (.inr jf))))), (e0, .inl (ec, 120, .inl ef)), (h0, .inr (7, [v0, v1, v2, v3, v4, v5, v6, v7, v8, v9, .ref e0, .int ts, .int bg_40, .int en_41, .int so_42, .int va_43, .int 0, .ref i0, .ref y0, .ref z0, .int im_49, .int sT, .int cT, .int 0, v24, v25, v26, v27])), (y0, .inl (yc, 360, .inl yg_50)), (z0, .inl (zc, 120, .inr (.inl gg_51)))] H := hP
          have hD : va_D A [(i0, .inl (ic, 6, .inr (.inr (.inr (.inr jf))))), (e0, .inl (ec, 120, .inl ef)), (h0, .inr (7, [v0, v1, v2, v3, v4, v5, v6, v7, v8, v9, .ref e0, .int ts, .int bg_40, .int en_41, .int so_42, .int va_43, .int 0, .ref i0, .ref y0, .ref z0, .int im_49, .int sT, .int cT, .int 0, v24, v25, v26, v27])), (y0, .inl (yc, 360, .inl yg_50)), (z0, .inl (zc, 120, .inr (.inl gg_51)))] := hD
          refine lv_goto (tgt := 186) hx hb dX9_readItem_153 (by decide) ?_
          have hP9 := hP.sub (ws' := [(h0, .inr (7, [v0, v1, v2, v3, v4, v5, v6, v7, v8, v9, .ref e0, .int ts, .int bg_40, .int en_41, .int so_42, .int va_43, .int 0, .ref i0, .ref y0, .ref z0, .int im_49, .int sT, .int cT, .int 0, v24, v25, v26, v27])), (e0, .inl (ec, 120, .inl ef)), (i0, .inl (ic, 6, .inr (.inr (.inr (.inr jf))))), (y0, .inl (yc, 360, .inl yg_50)), (z0, .inl (zc, 120, .inr (.inl gg_51)))]) [2, 1, 0, 3, 4] rfl
          have hD9 := hD.sub (ws' := [(h0, .inr (7, [v0, v1, v2, v3, v4, v5, v6, v7, v8, v9, .ref e0, .int ts, .int bg_40, .int en_41, .int so_42, .int va_43, .int 0, .ref i0, .ref y0, .ref z0, .int im_49, .int sT, .int cT, .int 0, v24, v25, v26, v27])), (e0, .inl (ec, 120, .inl ef)), (i0, .inl (ic, 6, .inr (.inr (.inr (.inr jf))))), (y0, .inl (yc, 360, .inl yg_50)), (z0, .inl (zc, 120, .inr (.inl gg_51)))]) [2, 1, 0, 3, 4] (by decide) rfl
          have hK9 := hK.sub (tys' := [(ec, .int), (ic, .object "java/lang/String"), (yc, .int), (zc, .long)]) [0, 1, 2, 3] rfl
          exact W.vret hx hb hr (fun t ht hW => ⟨⟨(), rfl, trivial, bg_40, en_41, so_42, va_43, 0, sT, cT, 0, im_49, yg_50, gg_51, hq_44, hq_45, hq_46, (by first | omega | decide | (simp only [fa_lt, fa_le, fa_eq, and_true, true_and, and_false, false_and, not_true_eq_false, not_false_eq_true, li_0, li_1, li_2, li_3, li_4, li_5, li_6, li_7, li_8, li_9, li_10, li_12, li_15, li_16, li_20, li_30, li_34, li_38, li_40, li_63, li_64, li_65, li_78, li_120, li_1000, li_4000, li_10000, li_11077, li_255, li_65535, li_m1, li_m2, li_m1000000001, li_m1000000002, li_m1000000003, li_m1000000004, li_m1000000005, li_m1000000006, li_m1000000007, or_true, true_or, or_false, false_or, implies_true, true_implies, false_implies] <;> omega)), (by first | omega | decide | (simp only [fa_lt, fa_le, fa_eq, and_true, true_and, and_false, false_and, not_true_eq_false, not_false_eq_true, li_0, li_1, li_2, li_3, li_4, li_5, li_6, li_7, li_8, li_9, li_10, li_12, li_15, li_16, li_20, li_30, li_34, li_38, li_40, li_63, li_64, li_65, li_78, li_120, li_1000, li_4000, li_10000, li_11077, li_255, li_65535, li_m1, li_m2, li_m1000000001, li_m1000000002, li_m1000000003, li_m1000000004, li_m1000000005, li_m1000000006, li_m1000000007, or_true, true_or, or_false, false_or, implies_true, true_implies, false_implies] <;> omega)), hq_52, (fun hz => RI_mk hq_53 (Or.inr (Or.inr (Or.inr (Or.inl ⟨by decide, rfl, rfl, by decide⟩))))), (by first | omega | decide | (simp only [fa_lt, fa_le, fa_eq, and_true, true_and, and_false, false_and, not_true_eq_false, not_false_eq_true, li_0, li_1, li_2, li_3, li_4, li_5, li_6, li_7, li_8, li_9, li_10, li_12, li_15, li_16, li_20, li_30, li_34, li_38, li_40, li_63, li_64, li_65, li_78, li_120, li_1000, li_4000, li_10000, li_11077, li_255, li_65535, li_m1, li_m2, li_m1000000001, li_m1000000002, li_m1000000003, li_m1000000004, li_m1000000005, li_m1000000006, li_m1000000007, or_true, true_or, or_false, false_or, implies_true, true_implies, false_implies] <;> omega)), by rw [ht]; exact hP9, va_K.moved hW.alike hK9, hD9⟩, hS.F ht⟩) hS.2.2 dX9_readItem_186
      · skip
        have tc_6 : ¬ r_5.toInt = 0 := fun h => c_6 ((fa_eq _ _).mpr h)
        refine lv_aload_n hx hb dX9_readItem_117 rfl (lv_at hl 1 rfl) ?_
        have hPc := hP.sub (ws' := [(h0, .inr (7, [v0, v1, v2, v3, v4, v5, v6, v7, v8, v9, .ref e0, .int ts, .int bg, .int en, .int so, .int va, .int 0, .ref i0, .ref y0, .ref z0, .int im, .int sT, .int cT, .int hT, v24, v25, v26, v27])), (e0, .inl (ec, 120, .inl ef)), (y0, .inl (yc, 360, .inl yf)), (z0, .inl (zc, 120, .inr (.inl gf)))]) [0, 1, 3, 4] rfl
        have hKc := hK.sub (tys' := [(ec, .int), (yc, .int), (zc, .long)]) [0, 2, 3] rfl
        have hDc := hD.sub (ws' := [(h0, .inr (7, [v0, v1, v2, v3, v4, v5, v6, v7, v8, v9, .ref e0, .int ts, .int bg, .int en, .int so, .int va, .int 0, .ref i0, .ref y0, .ref z0, .int im, .int sT, .int cT, .int hT, v24, v25, v26, v27])), (e0, .inl (ec, 120, .inl ef)), (y0, .inl (yc, 360, .inl yf)), (z0, .inl (zc, 120, .inr (.inl gf)))]) [0, 1, 3, 4] (by decide) rfl
        have hFc := va_free (wc := [(h0, .inr (7, [v0, v1, v2, v3, v4, v5, v6, v7, v8, v9, .ref e0, .int ts, .int bg, .int en, .int so, .int va, .int 0, .ref i0, .ref y0, .ref z0, .int im, .int sT, .int cT, .int hT, v24, v25, v26, v27])), (e0, .inl (ec, 120, .inl ef)), (y0, .inl (yc, 360, .inl yf)), (z0, .inl (zc, 120, .inr (.inl gf)))]) hD hS hA [0, 1, 3, 4] rfl
        refine va_callv (va_runV (As := []) (rest := []) ⟨hx, hb, hml, hown, hts⟩ (m_readHold l dC dI ad h0 v0 v1 v2 v3 v4 v5 v6 v7 v8 v9 e0 ts bg en so va (.ref i0) y0 z0 im sT (.int cT) hT v24 v25 v26 v27 ec ef yc yf zc gf s.heap.size htm hlx hso hva hht hst him) (cwV 0 hts g_m_readItem_m_readHold_258 rfl rfl rfl (by decide +kernel) ⟨(Nat.le_of_ble_eq_true rfl), (Nat.le_of_ble_eq_true rfl)⟩) ⟨preT_blind, va_recv hKc hPc (ci := 7) (q0 := 0) rfl rfl, fun U hU hW => ⟨rfl, preM_at hU hW hPc hKc hDc hev, sf_at hsf hS hFc hU hW⟩⟩ rfl rfl hl.1 rfl (lv_room (Nat.le_of_ble_eq_true rfl)) dX9_readItem_118 ⟨(Nat.le_of_ble_eq_true rfl), (Nat.le_of_ble_eq_true rfl)⟩) hS (fun q _ h => hFc q h) hFc (fun u t H1 locs ht hvm hw hB hz1 hk1 hS => ?_)
        obtain ⟨bg_55, en_56, so_57, va_58, iw_59, hT_60, im_61, yg_62, gg_63, hq_64, hq_65, hq_66, hq_67, hq_68, hq_69, hq_70, hP1, hK1, hD1⟩ := hB
        rw [ht] at hP1
        have hK1 := va_K.moved hvm.symm hK1
        obtain ⟨hP, hD⟩ := va_join (wr := [(i0, .inl (ic, 6, .inr (.inr (.inr (.inr jf)))))]) (w1 := [(h0, .inr (7, [v0, v1, v2, v3, v4, v5, v6, v7, v8, v9, .ref e0, .int ts, .int bg_55, .int en_56, .int so_57, .int va_58, .int iw_59, .ref i0, .ref y0, .ref z0, .int im_61, .int sT, .int cT, .int hT_60, v24, v25, v26, v27])), (e0, .inl (ec, 120, .inl ef)), (y0, .inl (yc, 360, .inl yg_62)), (z0, .inl (zc, 120, .inr (.inl gg_63)))]) hP hD [0, 1, 3, 4] [2] rfl rfl (by decide) (by decide) hk1 hFc hP1 hD1
        generalize H1 = H at hP hS ⊢
        have hP : va_P (dC, dI) vwCl [(i0, .inl (ic, 6, .inr (.inr (.inr (.inr jf))))), (h0, .inr (7, [v0, v1, v2, v3, v4, v5, v6, v7, v8, v9, .ref e0, .int ts, .int bg_55, .int en_56, .int so_57, .int va_58, .int iw_59, .ref i0, .ref y0, .ref z0, .int im_61, .int sT, .int cT, .int hT_60, v24, v25, v26, v27])), (e0, .inl (ec, 120, .inl ef)), (y0, .inl (yc, 360, .inl yg_62)), (z0, .inl (zc, 120, .inr (.inl gg_63)))] H := hP
        have hD : va_D A [(i0, .inl (ic, 6, .inr (.inr (.inr (.inr jf))))), (h0, .inr (7, [v0, v1, v2, v3, v4, v5, v6, v7, v8, v9, .ref e0, .int ts, .int bg_55, .int en_56, .int so_57, .int va_58, .int iw_59, .ref i0, .ref y0, .ref z0, .int im_61, .int sT, .int cT, .int hT_60, v24, v25, v26, v27])), (e0, .inl (ec, 120, .inl ef)), (y0, .inl (yc, 360, .inl yg_62)), (z0, .inl (zc, 120, .inr (.inl gg_63)))] := hD
        refine lv_goto (tgt := 186) hx hb dX9_readItem_121 (by decide) ?_
        have hP9 := hP.sub (ws' := [(h0, .inr (7, [v0, v1, v2, v3, v4, v5, v6, v7, v8, v9, .ref e0, .int ts, .int bg_55, .int en_56, .int so_57, .int va_58, .int iw_59, .ref i0, .ref y0, .ref z0, .int im_61, .int sT, .int cT, .int hT_60, v24, v25, v26, v27])), (e0, .inl (ec, 120, .inl ef)), (i0, .inl (ic, 6, .inr (.inr (.inr (.inr jf))))), (y0, .inl (yc, 360, .inl yg_62)), (z0, .inl (zc, 120, .inr (.inl gg_63)))]) [1, 2, 0, 3, 4] rfl
        have hD9 := hD.sub (ws' := [(h0, .inr (7, [v0, v1, v2, v3, v4, v5, v6, v7, v8, v9, .ref e0, .int ts, .int bg_55, .int en_56, .int so_57, .int va_58, .int iw_59, .ref i0, .ref y0, .ref z0, .int im_61, .int sT, .int cT, .int hT_60, v24, v25, v26, v27])), (e0, .inl (ec, 120, .inl ef)), (i0, .inl (ic, 6, .inr (.inr (.inr (.inr jf))))), (y0, .inl (yc, 360, .inl yg_62)), (z0, .inl (zc, 120, .inr (.inl gg_63)))]) [1, 2, 0, 3, 4] (by decide) rfl
        have hK9 := hK.sub (tys' := [(ec, .int), (ic, .object "java/lang/String"), (yc, .int), (zc, .long)]) [0, 1, 2, 3] rfl
        exact W.vret hx hb hr (fun t ht hW => ⟨⟨(), rfl, trivial, bg_55, en_56, so_57, va_58, iw_59, sT, cT, hT_60, im_61, yg_62, gg_63, hq_64, hq_65, hq_66, hq_67, (by first | omega | decide | (simp only [fa_lt, fa_le, fa_eq, and_true, true_and, and_false, false_and, not_true_eq_false, not_false_eq_true, li_0, li_1, li_2, li_3, li_4, li_5, li_6, li_7, li_8, li_9, li_10, li_12, li_15, li_16, li_20, li_30, li_34, li_38, li_40, li_63, li_64, li_65, li_78, li_120, li_1000, li_4000, li_10000, li_11077, li_255, li_65535, li_m1, li_m2, li_m1000000001, li_m1000000002, li_m1000000003, li_m1000000004, li_m1000000005, li_m1000000006, li_m1000000007, or_true, true_or, or_false, false_or, implies_true, true_implies, false_implies] <;> omega)), hq_69, (fun hz => (hq_70 hz cT.toInt).1), (by first | omega | decide | (simp only [fa_lt, fa_le, fa_eq, and_true, true_and, and_false, false_and, not_true_eq_false, not_false_eq_true, li_0, li_1, li_2, li_3, li_4, li_5, li_6, li_7, li_8, li_9, li_10, li_12, li_15, li_16, li_20, li_30, li_34, li_38, li_40, li_63, li_64, li_65, li_78, li_120, li_1000, li_4000, li_10000, li_11077, li_255, li_65535, li_m1, li_m2, li_m1000000001, li_m1000000002, li_m1000000003, li_m1000000004, li_m1000000005, li_m1000000006, li_m1000000007, or_true, true_or, or_false, false_or, implies_true, true_implies, false_implies] <;> omega) | (intro hz; have h9 := (hq_70 hz 0).2; omega)), by rw [ht]; exact hP9, va_K.moved hW.alike hK9, hD9⟩, hS.F ht⟩) hS.2.2 dX9_readItem_186
    · skip
      have tc_4 : ¬ r_3.toInt = 0 := fun h => c_4 ((fa_eq _ _).mpr h)
      refine lv_aload_n hx hb dX9_readItem_62 rfl (lv_at hl 1 rfl) ?_
      refine lv_aload_n hx hb dX9_readItem_63 rfl (lv_at hl 1 rfl) ?_
      refine va_get (D := (dC, dI)) (ci := 7) (v := .int cT) (C := RX9) (T := TX9) (N := 28) hx hb hts inX9 hown hK hP 0 rfl rfl 22 (by decide) (hts _ (List.mem_of_getElem? (i := 113) rfl)) (fun _ h9 => h9) rfl dX9_readItem_64 ?_
      refine lv_bipush (v := 7) hx hb dX9_readItem_67 (by decide) ?_
      refine lv_icmp_ge (tgt := 76) hx hb dX9_readItem_69 (by decide) (fun c_71 => ?_) (fun c_71 => ?_)
      · skip
        have tc_71 : 7 ≤ cT.toInt := (fa_le _ _).mp c_71
        refine lv_iconst (v := 0) hx hb dX9_readItem_76 (by decide) ?_
        have hPc := hP.sub (ws' := [(h0, .inr (7, [v0, v1, v2, v3, v4, v5, v6, v7, v8, v9, .ref e0, .int ts, .int bg, .int en, .int so, .int va, .int 0, .ref i0, .ref y0, .ref z0, .int im, .int sT, .int cT, .int hT, v24, v25, v26, v27]))]) [0] rfl
        have hKc := hK.sub (tys' := []) [] rfl
        have hDc := hD.sub (ws' := [(h0, .inr (7, [v0, v1, v2, v3, v4, v5, v6, v7, v8, v9, .ref e0, .int ts, .int bg, .int en, .int so, .int va, .int 0, .ref i0, .ref y0, .ref z0, .int im, .int sT, .int cT, .int hT, v24, v25, v26, v27]))]) [0] (by decide) rfl
        have hFc := va_free (wc := [(h0, .inr (7, [v0, v1, v2, v3, v4, v5, v6, v7, v8, v9, .ref e0, .int ts, .int bg, .int en, .int so, .int va, .int 0, .ref i0, .ref y0, .ref z0, .int im, .int sT, .int cT, .int hT, v24, v25, v26, v27]))]) hD hS hA [0] rfl
        refine va_callv (va_runV (As := [.int 0]) (rest := []) ⟨hx, hb, hml, hown, hts⟩ (m_must0 l dC dI ad h0 v0 v1 v2 v3 v4 v5 v6 v7 v8 v9 (.ref e0) (.int ts) (.int bg) (.int en) (.int so) (.int va) 0 (.ref i0) (.ref y0) (.ref z0) (.int im) (.int sT) (.int cT) (.int hT) v24 v25 v26 v27 s.heap.size ) (cwV 1 hts g_m_readItem_m_must0_224 rfl rfl rfl (by decide +kernel) ⟨(Nat.le_of_ble_eq_true rfl), (Nat.le_of_ble_eq_true rfl)⟩) ⟨preM_blind, va_recv hKc hPc (ci := 7) (q0 := 0) rfl rfl, fun U hU hW => ⟨rfl, preM_at hU hW hPc hKc hDc hev⟩⟩ rfl rfl hl.1 rfl (lv_room (Nat.le_of_ble_eq_true rfl)) dX9_readItem_77 ⟨(Nat.le_of_ble_eq_true rfl), (Nat.le_of_ble_eq_true rfl)⟩) hS (fun q _ h => hFc q h) hFc (fun u t H1 locs ht hvm hw hB hz1 hk1 hS => ?_)
        obtain ⟨hP1, hK1, hD1⟩ := hB
        rw [ht] at hP1
        have hK1 := va_K.moved hvm.symm hK1
        obtain ⟨hP, hD⟩ := va_join (wr := [(e0, .inl (ec, 120, .inl ef)), (i0, .inl (ic, 6, .inr (.inr (.inr (.inr jf))))), (y0, .inl (yc, 360, .inl yf)), (z0, .inl (zc, 120, .inr (.inl gf)))]) (w1 := [(h0, .inr (7, [v0, v1, v2, v3, v4, v5, v6, v7, v8, v9, .ref e0, .int ts, .int bg, .int en, .int so, .int va, .int 1, .ref i0, .ref y0, .ref z0, .int im, .int sT, .int cT, .int hT, v24, v25, v26, v27]))]) hP hD [0] [1, 2, 3, 4] rfl rfl (by decide) (by decide) hk1 hFc hP1 hD1
        generalize H1 = H at hP hS ⊢
        have hP : va_P (dC, dI) vwCl [(e0, .inl (ec, 120, .inl ef)), (i0, .inl (ic, 6, .inr (.inr (.inr (.inr jf))))), (y0, .inl (yc, 360, .inl yf)), (z0, .inl (zc, 120, .inr (.inl gf))), (h0, .inr (7, [v0, v1, v2, v3, v4, v5, v6, v7, v8, v9, .ref e0, .int ts, .int bg, .int en, .int so, .int va, .int 1, .ref i0, .ref y0, .ref z0, .int im, .int sT, .int cT, .int hT, v24, v25, v26, v27]))] H := hP
        have hD : va_D A [(e0, .inl (ec, 120, .inl ef)), (i0, .inl (ic, 6, .inr (.inr (.inr (.inr jf))))), (y0, .inl (yc, 360, .inl yf)), (z0, .inl (zc, 120, .inr (.inl gf))), (h0, .inr (7, [v0, v1, v2, v3, v4, v5, v6, v7, v8, v9, .ref e0, .int ts, .int bg, .int en, .int so, .int va, .int 1, .ref i0, .ref y0, .ref z0, .int im, .int sT, .int cT, .int hT, v24, v25, v26, v27]))] := hD
        refine lv_aload_n hx hb dX9_readItem_80 rfl (lv_at hl 1 rfl) ?_
        refine lv_dup hx hb dX9_readItem_81 rfl ?_
        refine va_get (D := (dC, dI)) (ci := 7) (v := .int cT) (C := RX9) (T := TX9) (N := 28) hx hb hts inX9 hown hK hP 4 rfl rfl 22 (by decide) (hts _ (List.mem_of_getElem? (i := 113) rfl)) (fun _ h9 => h9) rfl dX9_readItem_82 ?_
        refine lv_iconst (v := 1) hx hb dX9_readItem_85 (by decide) ?_
        refine lv_iadd hx hb dX9_readItem_86 ?_
        refine lv_topi (fun n_73 en_73 => ?_)
        have tn_73 : n_73.toInt = cT.toInt + 1 := pp_add en_73 rfl rfl (by omega) (by omega)
        clear en_73
        refine va_put (D := (dC, dI)) (ci := 7) (v := .int n_73) (ty := .int) (C := RX9) (T := TX9) (N := 28) hx hb hts inX9 tyX9 tyX9_ok nmX9 hown hK hP hD hS 4 rfl rfl 22 (by decide) (hts _ (List.mem_of_getElem? (i := 113) rfl)) (fun _ h9 => h9) rfl (by decide +kernel) rfl rfl (Nat.le_of_ble_eq_true rfl) dX9_readItem_87 (fun H locs hP hD hS => ?_)
        have hP : va_P (dC, dI) vwCl [(e0, .inl (ec, 120, .inl ef)), (i0, .inl (ic, 6, .inr (.inr (.inr (.inr jf))))), (y0, .inl (yc, 360, .inl yf)), (z0, .inl (zc, 120, .inr (.inl gf))), (h0, .inr (7, [v0, v1, v2, v3, v4, v5, v6, v7, v8, v9, .ref e0, .int ts, .int bg, .int en, .int so, .int va, .int 1, .ref i0, .ref y0, .ref z0, .int im, .int sT, .int n_73, .int hT, v24, v25, v26, v27]))] H := hP
        have hD : va_D A [(e0, .inl (ec, 120, .inl ef)), (i0, .inl (ic, 6, .inr (.inr (.inr (.inr jf))))), (y0, .inl (yc, 360, .inl yf)), (z0, .inl (zc, 120, .inr (.inl gf))), (h0, .inr (7, [v0, v1, v2, v3, v4, v5, v6, v7, v8, v9, .ref e0, .int ts, .int bg, .int en, .int so, .int va, .int 1, .ref i0, .ref y0, .ref z0, .int im, .int sT, .int n_73, .int hT, v24, v25, v26, v27]))] := hD
        refine lv_aload_n hx hb dX9_readItem_90 rfl (lv_at hl 1 rfl) ?_
        refine lv_bipush (v := 10) hx hb dX9_readItem_91 (by decide) ?_
        refine lv_iconst (v := 0) hx hb dX9_readItem_93 (by decide) ?_
        refine lv_iconst (v := 0) hx hb dX9_readItem_94 (by decide) ?_
        refine lv_aload_n hx hb dX9_readItem_95 rfl (lv_at hl 1 rfl) ?_
        refine lv_bipush (v := 8) hx hb dX9_readItem_96 (by decide) ?_
        have hPc := hP.sub (ws' := [(h0, .inr (7, [v0, v1, v2, v3, v4, v5, v6, v7, v8, v9, .ref e0, .int ts, .int bg, .int en, .int so, .int va, .int 1, .ref i0, .ref y0, .ref z0, .int im, .int sT, .int n_73, .int hT, v24, v25, v26, v27])), (e0, .inl (ec, 120, .inl ef))]) [4, 0] rfl
        have hKc := hK.sub (tys' := [(ec, .int)]) [0] rfl
        have hDc := hD.sub (ws' := [(h0, .inr (7, [v0, v1, v2, v3, v4, v5, v6, v7, v8, v9, .ref e0, .int ts, .int bg, .int en, .int so, .int va, .int 1, .ref i0, .ref y0, .ref z0, .int im, .int sT, .int n_73, .int hT, v24, v25, v26, v27])), (e0, .inl (ec, 120, .inl ef))]) [4, 0] (by decide) rfl
        have hFc := va_free (wc := [(h0, .inr (7, [v0, v1, v2, v3, v4, v5, v6, v7, v8, v9, .ref e0, .int ts, .int bg, .int en, .int so, .int va, .int 1, .ref i0, .ref y0, .ref z0, .int im, .int sT, .int n_73, .int hT, v24, v25, v26, v27])), (e0, .inl (ec, 120, .inl ef))]) hD hS hA [4, 0] rfl
        refine va_calll (va_runV (As := [.int 8]) (rest := [.int 0, .int 0, .int 10, .ref h0]) ⟨hx, hb, hml, hown, hts⟩ (m_readRows l dC dI ad h0 8 v0 v1 v2 v3 v4 v5 v6 v7 v8 v9 e0 ts bg en so va 1 (.ref i0) (.ref y0) (.ref z0) (.int im) (.int sT) (.int n_73) (.int hT) v24 v25 v26 v27 ec ef H.size htm hlx hso hva (by first | omega | decide | (simp only [fa_lt, fa_le, fa_eq, and_true, true_and, and_false, false_and, not_true_eq_false, not_false_eq_true, li_0, li_1, li_2, li_3, li_4, li_5, li_6, li_7, li_8, li_9, li_10, li_12, li_15, li_16, li_20, li_30, li_34, li_38, li_40, li_63, li_64, li_65, li_78, li_120, li_1000, li_4000, li_10000, li_11077, li_255, li_65535, li_m1, li_m2, li_m1000000001, li_m1000000002, li_m1000000003, li_m1000000004, li_m1000000005, li_m1000000006, li_m1000000007, or_true, true_or, or_false, false_or, implies_true, true_implies, false_implies] <;> omega)) (by first | omega | decide | (simp only [fa_lt, fa_le, fa_eq, and_true, true_and, and_false, false_and, not_true_eq_false, not_false_eq_true, li_0, li_1, li_2, li_3, li_4, li_5, li_6, li_7, li_8, li_9, li_10, li_12, li_15, li_16, li_20, li_30, li_34, li_38, li_40, li_63, li_64, li_65, li_78, li_120, li_1000, li_4000, li_10000, li_11077, li_255, li_65535, li_m1, li_m2, li_m1000000001, li_m1000000002, li_m1000000003, li_m1000000004, li_m1000000005, li_m1000000006, li_m1000000007, or_true, true_or, or_false, false_or, implies_true, true_implies, false_implies] <;> omega))) (cwV 1 hts g_m_readItem_m_readRows_244 rfl rfl rfl (by decide +kernel) ⟨(Nat.le_of_ble_eq_true rfl), (Nat.le_of_ble_eq_true rfl)⟩) ⟨preM_blind, va_recv hKc hPc (ci := 7) (q0 := 0) rfl rfl, fun U hU hW => ⟨rfl, preM_at hU hW hPc hKc hDc hev⟩⟩ rfl rfl hl.1 rfl (lv_room (Nat.le_of_ble_eq_true rfl)) dX9_readItem_98 ⟨(Nat.le_of_ble_eq_true rfl), (Nat.le_of_ble_eq_true rfl)⟩) hS (fun q _ h => hFc q h) hFc (fun r_74 u t H1 locs ht hvm hw hB hz1 hk1 hS => ?_)
        obtain ⟨bg_75, en_76, so_77, va_78, iw_79, hq_80, hq_81, hq_82, hq_83, hq_84, hP1, hK1, hD1⟩ := hB
        rw [ht] at hP1
        have hK1 := va_K.moved hvm.symm hK1
        obtain ⟨hP, hD⟩ := va_join (wr := [(i0, .inl (ic, 6, .inr (.inr (.inr (.inr jf))))), (y0, .inl (yc, 360, .inl yf)), (z0, .inl (zc, 120, .inr (.inl gf)))]) (w1 := [(h0, .inr (7, [v0, v1, v2, v3, v4, v5, v6, v7, v8, v9, .ref e0, .int ts, .int bg_75, .int en_76, .int so_77, .int va_78, .int iw_79, .ref i0, .ref y0, .ref z0, .int im, .int sT, .int n_73, .int hT, v24, v25, v26, v27])), (e0, .inl (ec, 120, .inl ef))]) hP hD [4, 0] [1, 2, 3] rfl rfl (by decide) (by decide) hk1 hFc hP1 hD1
        generalize H1 = H at hP hS ⊢
        have hP : va_P (dC, dI) vwCl [(i0, .inl (ic, 6, .inr (.inr (.inr (.inr jf))))), (y0, .inl (yc, 360, .inl yf)), (z0, .inl (zc, 120, .inr (.inl gf))), (h0, .inr (7, [v0, v1, v2, v3, v4, v5, v6, v7, v8, v9, .ref e0, .int ts, .int bg_75, .int en_76, .int so_77, .int va_78, .int iw_79, .ref i0, .ref y0, .ref z0, .int im, .int sT, .int n_73, .int hT, v24, v25, v26, v27])), (e0, .inl (ec, 120, .inl ef))] H := hP
        have hD : va_D A [(i0, .inl (ic, 6, .inr (.inr (.inr (.inr jf))))), (y0, .inl (yc, 360, .inl yf)), (z0, .inl (zc, 120, .inr (.inl gf))), (h0, .inr (7, [v0, v1, v2, v3, v4, v5, v6, v7, v8, v9, .ref e0, .int ts, .int bg_75, .int en_76, .int so_77, .int va_78, .int iw_79, .ref i0, .ref y0, .ref z0, .int im, .int sT, .int n_73, .int hT, v24, v25, v26, v27])), (e0, .inl (ec, 120, .inl ef))] := hD
        have hq_84 : iw_79.toInt = 0 → (1 : Int) = 0 ∧ bg.toInt ≤ bg_75.toInt := hq_84
        have hPc := hP.sub (ws' := [(h0, .inr (7, [v0, v1, v2, v3, v4, v5, v6, v7, v8, v9, .ref e0, .int ts, .int bg_75, .int en_76, .int so_77, .int va_78, .int iw_79, .ref i0, .ref y0, .ref z0, .int im, .int sT, .int n_73, .int hT, v24, v25, v26, v27])), (y0, .inl (yc, 360, .inl yf)), (z0, .inl (zc, 120, .inr (.inl gf)))]) [3, 1, 2] rfl
        have hKc := hK.sub (tys' := [(yc, .int), (zc, .long)]) [2, 3] rfl
        have hDc := hD.sub (ws' := [(h0, .inr (7, [v0, v1, v2, v3, v4, v5, v6, v7, v8, v9, .ref e0, .int ts, .int bg_75, .int en_76, .int so_77, .int va_78, .int iw_79, .ref i0, .ref y0, .ref z0, .int im, .int sT, .int n_73, .int hT, v24, v25, v26, v27])), (y0, .inl (yc, 360, .inl yf)), (z0, .inl (zc, 120, .inr (.inl gf)))]) [3, 1, 2] (by decide) rfl
        have hFc := va_free (wc := [(h0, .inr (7, [v0, v1, v2, v3, v4, v5, v6, v7, v8, v9, .ref e0, .int ts, .int bg_75, .int en_76, .int so_77, .int va_78, .int iw_79, .ref i0, .ref y0, .ref z0, .int im, .int sT, .int n_73, .int hT, v24, v25, v26, v27])), (y0, .inl (yc, 360, .inl yf)), (z0, .inl (zc, 120, .inr (.inl gf)))]) hD hS hA [3, 1, 2] rfl
        refine va_callv (va_runV (As := [.int 10, .int 0, .int 0, .long r_74]) (rest := []) ⟨hx, hb, hml, hown, hts⟩ (m_item l dC dI ad h0 10 0 0 r_74 v0 v1 v2 v3 v4 v5 v6 v7 v8 v9 (.ref e0) (.int ts) (.int bg_75) (.int en_76) (.int so_77) (.int va_78) (.int iw_79) (.ref i0) y0 z0 im (.int sT) (.int n_73) (.int hT) v24 v25 v26 v27 yc yf zc gf H.size him) (cwV 4 hts g_m_readItem_m_item_247 rfl rfl rfl (by decide +kernel) ⟨(Nat.le_of_ble_eq_true rfl), (Nat.le_of_ble_eq_true rfl)⟩) ⟨preM_blind, va_recv hKc hPc (ci := 7) (q0 := 0) rfl rfl, fun U hU hW => ⟨rfl, preM_at hU hW hPc hKc hDc hev⟩⟩ rfl rfl hl.1 rfl (lv_room (Nat.le_of_ble_eq_true rfl)) dX9_readItem_101 ⟨(Nat.le_of_ble_eq_true rfl), (Nat.le_of_ble_eq_true rfl)⟩) hS (fun q _ h => hFc q h) hFc (fun u t H1 locs ht hvm hw hB hz1 hk1 hS => ?_)
        obtain ⟨im_86, yg_87, gg_88, hq_89, hq_90, hP1, hK1, hD1⟩ := hB
        rw [ht] at hP1
        have hK1 := va_K.moved hvm.symm hK1
        obtain ⟨hP, hD⟩ := va_join (wr := [(i0, .inl (ic, 6, .inr (.inr (.inr (.inr jf))))), (e0, .inl (ec, 120, .inl ef))]) (w1 := [(h0, .inr (7, [v0, v1, v2, v3, v4, v5, v6, v7, v8, v9, .ref e0, .int ts, .int bg_75, .int en_76, .int so_77, .int va_78, .int iw_79, .ref i0, .ref y0, .ref z0, .int im_86, .int sT, .int n_73, .int hT, v24, v25, v26, v27])), (y0, .inl (yc, 360, .inl yg_87)), (z0, .inl (zc, 120, .inr (.inl gg_88)))]) hP hD [3, 1, 2] [0, 4] rfl rfl (by decide) (by decide) hk1 hFc hP1 hD1
        generalize H1 = H at hP hS ⊢
        have hP : va_P (dC, dI) vwCl [(i0, .inl (ic, 6, .inr (.inr (.inr (.inr jf))))), (e0, .inl (ec, 120, .inl ef)), (h0, .inr (7, [v0, v1, v2, v3, v4, v5, v6, v7, v8, v9, .ref e0, .int ts, .int bg_75, .int en_76, .int so_77, .int va_78, .int iw_79, .ref i0, .ref y0, .ref z0, .int im_86, .int sT, .int n_73, .int hT, v24, v25, v26, v27])), (y0, .inl (yc, 360, .inl yg_87)), (z0, .inl (zc, 120, .inr (.inl gg_88)))] H := hP
        have hD : va_D A [(i0, .inl (ic, 6, .inr (.inr (.inr (.inr jf))))), (e0, .inl (ec, 120, .inl ef)), (h0, .inr (7, [v0, v1, v2, v3, v4, v5, v6, v7, v8, v9, .ref e0, .int ts, .int bg_75, .int en_76, .int so_77, .int va_78, .int iw_79, .ref i0, .ref y0, .ref z0, .int im_86, .int sT, .int n_73, .int hT, v24, v25, v26, v27])), (y0, .inl (yc, 360, .inl yg_87)), (z0, .inl (zc, 120, .inr (.inl gg_88)))] := hD
        refine lv_goto (tgt := 186) hx hb dX9_readItem_104 (by decide) ?_
        have hP9 := hP.sub (ws' := [(h0, .inr (7, [v0, v1, v2, v3, v4, v5, v6, v7, v8, v9, .ref e0, .int ts, .int bg_75, .int en_76, .int so_77, .int va_78, .int iw_79, .ref i0, .ref y0, .ref z0, .int im_86, .int sT, .int n_73, .int hT, v24, v25, v26, v27])), (e0, .inl (ec, 120, .inl ef)), (i0, .inl (ic, 6, .inr (.inr (.inr (.inr jf))))), (y0, .inl (yc, 360, .inl yg_87)), (z0, .inl (zc, 120, .inr (.inl gg_88)))]) [2, 1, 0, 3, 4] rfl
        have hD9 := hD.sub (ws' := [(h0, .inr (7, [v0, v1, v2, v3, v4, v5, v6, v7, v8, v9, .ref e0, .int ts, .int bg_75, .int en_76, .int so_77, .int va_78, .int iw_79, .ref i0, .ref y0, .ref z0, .int im_86, .int sT, .int n_73, .int hT, v24, v25, v26, v27])), (e0, .inl (ec, 120, .inl ef)), (i0, .inl (ic, 6, .inr (.inr (.inr (.inr jf))))), (y0, .inl (yc, 360, .inl yg_87)), (z0, .inl (zc, 120, .inr (.inl gg_88)))]) [2, 1, 0, 3, 4] (by decide) rfl
        have hK9 := hK.sub (tys' := [(ec, .int), (ic, .object "java/lang/String"), (yc, .int), (zc, .long)]) [0, 1, 2, 3] rfl
        exact W.vret hx hb hr (fun t ht hW => ⟨⟨(), rfl, trivial, bg_75, en_76, so_77, va_78, iw_79, sT, n_73, hT, im_86, yg_87, gg_88, hq_80, hq_81, hq_82, hq_83, (by first | omega | decide | (simp only [fa_lt, fa_le, fa_eq, and_true, true_and, and_false, false_and, not_true_eq_false, not_false_eq_true, li_0, li_1, li_2, li_3, li_4, li_5, li_6, li_7, li_8, li_9, li_10, li_12, li_15, li_16, li_20, li_30, li_34, li_38, li_40, li_63, li_64, li_65, li_78, li_120, li_1000, li_4000, li_10000, li_11077, li_255, li_65535, li_m1, li_m2, li_m1000000001, li_m1000000002, li_m1000000003, li_m1000000004, li_m1000000005, li_m1000000006, li_m1000000007, or_true, true_or, or_false, false_or, implies_true, true_implies, false_implies] <;> omega)), hq_89, (fun hz => RI_mk hq_90 (Or.inr (Or.inl ⟨by decide, by omega, rfl, by omega, rfl⟩))), (by first | omega | decide | (simp only [fa_lt, fa_le, fa_eq, and_true, true_and, and_false, false_and, not_true_eq_false, not_false_eq_true, li_0, li_1, li_2, li_3, li_4, li_5, li_6, li_7, li_8, li_9, li_10, li_12, li_15, li_16, li_20, li_30, li_34, li_38, li_40, li_63, li_64, li_65, li_78, li_120, li_1000, li_4000, li_10000, li_11077, li_255, li_65535, li_m1, li_m2, li_m1000000001, li_m1000000002, li_m1000000003, li_m1000000004, li_m1000000005, li_m1000000006, li_m1000000007, or_true, true_or, or_false, false_or, implies_true, true_implies, false_implies] <;> omega)), by rw [ht]; exact hP9, va_K.moved hW.alike hK9, hD9⟩, hS.F ht⟩) hS.2.2 dX9_readItem_186
      · skip
        have tc_71 : ¬ 7 ≤ cT.toInt := fun h => c_71 ((fa_le _ _).mpr h)
        refine lv_iconst (v := 1) hx hb dX9_readItem_72 (by decide) ?_
        refine lv_goto (tgt := 77) hx hb dX9_readItem_73 (by decide) ?_
        have hPc := hP.sub (ws' := [(h0, .inr (7, [v0, v1, v2, v3, v4, v5, v6, v7, v8, v9, .ref e0, .int ts, .int bg, .int en, .int so, .int va, .int 0, .ref i0, .ref y0, .ref z0, .int im, .int sT, .int cT, .int hT, v24, v25, v26, v27])), (e0, .inl (ec, 120, .inl ef))]) [0, 1] rfl
        have hKc := hK.sub (tys' := [(ec, .int)]) [0] rfl
        have hDc := hD.sub (ws' := [(h0, .inr (7, [v0, v1, v2, v3, v4, v5, v6, v7, v8, v9, .ref e0, .int ts, .int bg, .int en, .int so, .int va, .int 0, .ref i0, .ref y0, .ref z0, .int im, .int sT, .int cT, .int hT, v24, v25, v26, v27])), (e0, .inl (ec, 120, .inl ef))]) [0, 1] (by decide) rfl
        have hFc := va_free (wc := [(h0, .inr (7, [v0, v1, v2, v3, v4, v5, v6, v7, v8, v9, .ref e0, .int ts, .int bg, .int en, .int so, .int va, .int 0, .ref i0, .ref y0, .ref z0, .int im, .int sT, .int cT, .int hT, v24, v25, v26, v27])), (e0, .inl (ec, 120, .inl ef))]) hD hS hA [0, 1] rfl
        refine va_callv (va_runV (As := [.int 1]) (rest := []) ⟨hx, hb, hml, hown, hts⟩ (m_must1 l dC dI ad h0 v0 v1 v2 v3 v4 v5 v6 v7 v8 v9 e0 ts bg en so va (.ref i0) (.ref y0) (.ref z0) (.int im) (.int sT) (.int cT) (.int hT) v24 v25 v26 v27 ec ef s.heap.size htm hlx hso hva) (cwV 1 hts g_m_readItem_m_must1_224 rfl rfl rfl (by decide +kernel) ⟨(Nat.le_of_ble_eq_true rfl), (Nat.le_of_ble_eq_true rfl)⟩) ⟨preM_blind, va_recv hKc hPc (ci := 7) (q0 := 0) rfl rfl, fun U hU hW => ⟨rfl, preM_at hU hW hPc hKc hDc hev⟩⟩ rfl rfl hl.1 rfl (lv_room (Nat.le_of_ble_eq_true rfl)) dX9_readItem_77 ⟨(Nat.le_of_ble_eq_true rfl), (Nat.le_of_ble_eq_true rfl)⟩) hS (fun q _ h => hFc q h) hFc (fun u t H1 locs ht hvm hw hB hz1 hk1 hS => ?_)
        obtain ⟨bg_92, en_93, so_94, va_95, hq_96, hq_97, hq_98, hq_99, hP1, hK1, hD1⟩ := hB
        rw [ht] at hP1
        have hK1 := va_K.moved hvm.symm hK1
        obtain ⟨hP, hD⟩ := va_join (wr := [(i0, .inl (ic, 6, .inr (.inr (.inr (.inr jf))))), (y0, .inl (yc, 360, .inl yf)), (z0, .inl (zc, 120, .inr (.inl gf)))]) (w1 := [(h0, .inr (7, [v0, v1, v2, v3, v4, v5, v6, v7, v8, v9, .ref e0, .int ts, .int bg_92, .int en_93, .int so_94, .int va_95, .int 0, .ref i0, .ref y0, .ref z0, .int im, .int sT, .int cT, .int hT, v24, v25, v26, v27])), (e0, .inl (ec, 120, .inl ef))]) hP hD [0, 1] [2, 3, 4] rfl rfl (by decide) (by decide) hk1 hFc hP1 hD1
        generalize H1 = H at hP hS ⊢
        have hP : va_P (dC, dI) vwCl [(i0, .inl (ic, 6, .inr (.inr (.inr (.inr jf))))), (y0, .inl (yc, 360, .inl yf)), (z0, .inl (zc, 120, .inr (.inl gf))), (h0, .inr (7, [v0, v1, v2, v3, v4, v5, v6, v7, v8, v9, .ref e0, .int ts, .int bg_92, .int en_93, .int so_94, .int va_95, .int 0, .ref i0, .ref y0, .ref z0, .int im, .int sT, .int cT, .int hT, v24, v25, v26, v27])), (e0, .inl (ec, 120, .inl ef))] H := hP
        have hD : va_D A [(i0, .inl (ic, 6, .inr (.inr (.inr (.inr jf))))), (y0, .inl (yc, 360, .inl yf)), (z0, .inl (zc, 120, .inr (.inl gf))), (h0, .inr (7, [v0, v1, v2, v3, v4, v5, v6, v7, v8, v9, .ref e0, .int ts, .int bg_92, .int en_93, .int so_94, .int va_95, .int 0, .ref i0, .ref y0, .ref z0, .int im, .int sT, .int cT, .int hT, v24, v25, v26, v27])), (e0, .inl (ec, 120, .inl ef))] := hD
        refine lv_aload_n hx hb dX9_readItem_80 rfl (lv_at hl 1 rfl) ?_
        refine lv_dup hx hb dX9_readItem_81 rfl ?_
        refine va_get (D := (dC, dI)) (ci := 7) (v := .int cT) (C := RX9) (T := TX9) (N := 28) hx hb hts inX9 hown hK hP 3 rfl rfl 22 (by decide) (hts _ (List.mem_of_getElem? (i := 113) rfl)) (fun _ h9 => h9) rfl dX9_readItem_82 ?_
        refine lv_iconst (v := 1) hx hb dX9_readItem_85 (by decide) ?_
        refine lv_iadd hx hb dX9_readItem_86 ?_
        refine lv_topi (fun n_100 en_100 => ?_)
        have tn_100 : n_100.toInt = cT.toInt + 1 := pp_add en_100 rfl rfl (by omega) (by omega)
        clear en_100
        refine va_put (D := (dC, dI)) (ci := 7) (v := .int n_100) (ty := .int) (C := RX9) (T := TX9) (N := 28) hx hb hts inX9 tyX9 tyX9_ok nmX9 hown hK hP hD hS 3 rfl rfl 22 (by decide) (hts _ (List.mem_of_getElem? (i := 113) rfl)) (fun _ h9 => h9) rfl (by decide +kernel) rfl rfl (Nat.le_of_ble_eq_true rfl) dX9_readItem_87 (fun H locs hP hD hS => ?_)
        have hP : va_P (dC, dI) vwCl [(i0, .inl (ic, 6, .inr (.inr (.inr (.inr jf))))), (y0, .inl (yc, 360, .inl yf)), (z0, .inl (zc, 120, .inr (.inl gf))), (h0, .inr (7, [v0, v1, v2, v3, v4, v5, v6, v7, v8, v9, .ref e0, .int ts, .int bg_92, .int en_93, .int so_94, .int va_95, .int 0, .ref i0, .ref y0, .ref z0, .int im, .int sT, .int n_100, .int hT, v24, v25, v26, v27])), (e0, .inl (ec, 120, .inl ef))] H := hP
        have hD : va_D A [(i0, .inl (ic, 6, .inr (.inr (.inr (.inr jf))))), (y0, .inl (yc, 360, .inl yf)), (z0, .inl (zc, 120, .inr (.inl gf))), (h0, .inr (7, [v0, v1, v2, v3, v4, v5, v6, v7, v8, v9, .ref e0, .int ts, .int bg_92, .int en_93, .int so_94, .int va_95, .int 0, .ref i0, .ref y0, .ref z0, .int im, .int sT, .int n_100, .int hT, v24, v25, v26, v27])), (e0, .inl (ec, 120, .inl ef))] := hD
        refine lv_aload_n hx hb dX9_readItem_90 rfl (lv_at hl 1 rfl) ?_
        refine lv_bipush (v := 10) hx hb dX9_readItem_91 (by decide) ?_
        refine lv_iconst (v := 0) hx hb dX9_readItem_93 (by decide) ?_
        refine lv_iconst (v := 0) hx hb dX9_readItem_94 (by decide) ?_
        refine lv_aload_n hx hb dX9_readItem_95 rfl (lv_at hl 1 rfl) ?_
        refine lv_bipush (v := 8) hx hb dX9_readItem_96 (by decide) ?_
        have hPc := hP.sub (ws' := [(h0, .inr (7, [v0, v1, v2, v3, v4, v5, v6, v7, v8, v9, .ref e0, .int ts, .int bg_92, .int en_93, .int so_94, .int va_95, .int 0, .ref i0, .ref y0, .ref z0, .int im, .int sT, .int n_100, .int hT, v24, v25, v26, v27])), (e0, .inl (ec, 120, .inl ef))]) [3, 4] rfl
        have hKc := hK.sub (tys' := [(ec, .int)]) [0] rfl
        have hDc := hD.sub (ws' := [(h0, .inr (7, [v0, v1, v2, v3, v4, v5, v6, v7, v8, v9, .ref e0, .int ts, .int bg_92, .int en_93, .int so_94, .int va_95, .int 0, .ref i0, .ref y0, .ref z0, .int im, .int sT, .int n_100, .int hT, v24, v25, v26, v27])), (e0, .inl (ec, 120, .inl ef))]) [3, 4] (by decide) rfl
        have hFc := va_free (wc := [(h0, .inr (7, [v0, v1, v2, v3, v4, v5, v6, v7, v8, v9, .ref e0, .int ts, .int bg_92, .int en_93, .int so_94, .int va_95, .int 0, .ref i0, .ref y0, .ref z0, .int im, .int sT, .int n_100, .int hT, v24, v25, v26, v27])), (e0, .inl (ec, 120, .inl ef))]) hD hS hA [3, 4] rfl
        refine va_calll (va_runV (As := [.int 8]) (rest := [.int 0, .int 0, .int 10, .ref h0]) ⟨hx, hb, hml, hown, hts⟩ (m_readRows l dC dI ad h0 8 v0 v1 v2 v3 v4 v5 v6 v7 v8 v9 e0 ts bg_92 en_93 so_94 va_95 0 (.ref i0) (.ref y0) (.ref z0) (.int im) (.int sT) (.int n_100) (.int hT) v24 v25 v26 v27 ec ef H.size htm hq_96 hq_97 hq_98 (by first | omega | decide | (simp only [fa_lt, fa_le, fa_eq, and_true, true_and, and_false, false_and, not_true_eq_false, not_false_eq_true, li_0, li_1, li_2, li_3, li_4, li_5, li_6, li_7, li_8, li_9, li_10, li_12, li_15, li_16, li_20, li_30, li_34, li_38, li_40, li_63, li_64, li_65, li_78, li_120, li_1000, li_4000, li_10000, li_11077, li_255, li_65535, li_m1, li_m2, li_m1000000001, li_m1000000002, li_m1000000003, li_m1000000004, li_m1000000005, li_m1000000006, li_m1000000007, or_true, true_or, or_false, false_or, implies_true, true_implies, false_implies] <;> omega)) (by first | omega | decide | (simp only [fa_lt, fa_le, fa_eq, and_true, true_and, and_false, false_and, not_true_eq_false, not_false_eq_true, li_0, li_1, li_2, li_3, li_4, li_5, li_6, li_7, li_8, li_9, li_10, li_12, li_15, li_16, li_20, li_30, li_34, li_38, li_40, li_63, li_64, li_65, li_78, li_120, li_1000, li_4000, li_10000, li_11077, li_255, li_65535, li_m1, li_m2, li_m1000000001, li_m1000000002, li_m1000000003, li_m1000000004, li_m1000000005, li_m1000000006, li_m1000000007, or_true, true_or, or_false, false_or, implies_true, true_implies, false_implies] <;> omega))) (cwV 1 hts g_m_readItem_m_readRows_244 rfl rfl rfl (by decide +kernel) ⟨(Nat.le_of_ble_eq_true rfl), (Nat.le_of_ble_eq_true rfl)⟩) ⟨preM_blind, va_recv hKc hPc (ci := 7) (q0 := 0) rfl rfl, fun U hU hW => ⟨rfl, preM_at hU hW hPc hKc hDc hev⟩⟩ rfl rfl hl.1 rfl (lv_room (Nat.le_of_ble_eq_true rfl)) dX9_readItem_98 ⟨(Nat.le_of_ble_eq_true rfl), (Nat.le_of_ble_eq_true rfl)⟩) hS (fun q _ h => hFc q h) hFc (fun r_101 u t H1 locs ht hvm hw hB hz1 hk1 hS => ?_)
        obtain ⟨bg_102, en_103, so_104, va_105, iw_106, hq_107, hq_108, hq_109, hq_110, hq_111, hP1, hK1, hD1⟩ := hB
        rw [ht] at hP1
        have hK1 := va_K.moved hvm.symm hK1
        obtain ⟨hP, hD⟩ := va_join (wr := [(i0, .inl (ic, 6, .inr (.inr (.inr (.inr jf))))), (y0, .inl (yc, 360, .inl yf)), (z0, .inl (zc, 120, .inr (.inl gf)))]) (w1 := [(h0, .inr (7, [v0, v1, v2, v3, v4, v5, v6, v7, v8, v9, .ref e0, .int ts, .int bg_102, .int en_103, .int so_104, .int va_105, .int iw_106, .ref i0, .ref y0, .ref z0, .int im, .int sT, .int n_100, .int hT, v24, v25, v26, v27])), (e0, .inl (ec, 120, .inl ef))]) hP hD [3, 4] [0, 1, 2] rfl rfl (by decide) (by decide) hk1 hFc hP1 hD1
        generalize H1 = H at hP hS ⊢
        have hP : va_P (dC, dI) vwCl [(i0, .inl (ic, 6, .inr (.inr (.inr (.inr jf))))), (y0, .inl (yc, 360, .inl yf)), (z0, .inl (zc, 120, .inr (.inl gf))), (h0, .inr (7, [v0, v1, v2, v3, v4, v5, v6, v7, v8, v9, .ref e0, .int ts, .int bg_102, .int en_103, .int so_104, .int va_105, .int iw_106, .ref i0, .ref y0, .ref z0, .int im, .int sT, .int n_100, .int hT, v24, v25, v26, v27])), (e0, .inl (ec, 120, .inl ef))] H := hP
        have hD : va_D A [(i0, .inl (ic, 6, .inr (.inr (.inr (.inr jf))))), (y0, .inl (yc, 360, .inl yf)), (z0, .inl (zc, 120, .inr (.inl gf))), (h0, .inr (7, [v0, v1, v2, v3, v4, v5, v6, v7, v8, v9, .ref e0, .int ts, .int bg_102, .int en_103, .int so_104, .int va_105, .int iw_106, .ref i0, .ref y0, .ref z0, .int im, .int sT, .int n_100, .int hT, v24, v25, v26, v27])), (e0, .inl (ec, 120, .inl ef))] := hD
        have hq_111 : iw_106.toInt = 0 → (0 : Int) = 0 ∧ bg_92.toInt ≤ bg_102.toInt := hq_111
        have hPc := hP.sub (ws' := [(h0, .inr (7, [v0, v1, v2, v3, v4, v5, v6, v7, v8, v9, .ref e0, .int ts, .int bg_102, .int en_103, .int so_104, .int va_105, .int iw_106, .ref i0, .ref y0, .ref z0, .int im, .int sT, .int n_100, .int hT, v24, v25, v26, v27])), (y0, .inl (yc, 360, .inl yf)), (z0, .inl (zc, 120, .inr (.inl gf)))]) [3, 1, 2] rfl
        have hKc := hK.sub (tys' := [(yc, .int), (zc, .long)]) [2, 3] rfl
        have hDc := hD.sub (ws' := [(h0, .inr (7, [v0, v1, v2, v3, v4, v5, v6, v7, v8, v9, .ref e0, .int ts, .int bg_102, .int en_103, .int so_104, .int va_105, .int iw_106, .ref i0, .ref y0, .ref z0, .int im, .int sT, .int n_100, .int hT, v24, v25, v26, v27])), (y0, .inl (yc, 360, .inl yf)), (z0, .inl (zc, 120, .inr (.inl gf)))]) [3, 1, 2] (by decide) rfl
        have hFc := va_free (wc := [(h0, .inr (7, [v0, v1, v2, v3, v4, v5, v6, v7, v8, v9, .ref e0, .int ts, .int bg_102, .int en_103, .int so_104, .int va_105, .int iw_106, .ref i0, .ref y0, .ref z0, .int im, .int sT, .int n_100, .int hT, v24, v25, v26, v27])), (y0, .inl (yc, 360, .inl yf)), (z0, .inl (zc, 120, .inr (.inl gf)))]) hD hS hA [3, 1, 2] rfl
        refine va_callv (va_runV (As := [.int 10, .int 0, .int 0, .long r_101]) (rest := []) ⟨hx, hb, hml, hown, hts⟩ (m_item l dC dI ad h0 10 0 0 r_101 v0 v1 v2 v3 v4 v5 v6 v7 v8 v9 (.ref e0) (.int ts) (.int bg_102) (.int en_103) (.int so_104) (.int va_105) (.int iw_106) (.ref i0) y0 z0 im (.int sT) (.int n_100) (.int hT) v24 v25 v26 v27 yc yf zc gf H.size him) (cwV 4 hts g_m_readItem_m_item_247 rfl rfl rfl (by decide +kernel) ⟨(Nat.le_of_ble_eq_true rfl), (Nat.le_of_ble_eq_true rfl)⟩) ⟨preM_blind, va_recv hKc hPc (ci := 7) (q0 := 0) rfl rfl, fun U hU hW => ⟨rfl, preM_at hU hW hPc hKc hDc hev⟩⟩ rfl rfl hl.1 rfl (lv_room (Nat.le_of_ble_eq_true rfl)) dX9_readItem_101 ⟨(Nat.le_of_ble_eq_true rfl), (Nat.le_of_ble_eq_true rfl)⟩) hS (fun q _ h => hFc q h) hFc (fun u t H1 locs ht hvm hw hB hz1 hk1 hS => ?_)
        obtain ⟨im_113, yg_114, gg_115, hq_116, hq_117, hP1, hK1, hD1⟩ := hB
        rw [ht] at hP1
        have hK1 := va_K.moved hvm.symm hK1
        obtain ⟨hP, hD⟩ := va_join (wr := [(i0, .inl (ic, 6, .inr (.inr (.inr (.inr jf))))), (e0, .inl (ec, 120, .inl ef))]) (w1 := [(h0, .inr (7, [v0, v1, v2, v3, v4, v5, v6, v7, v8, v9, .ref e0, .int ts, .int bg_102, .int en_103, .int so_104, .int va_105, .int iw_106, .ref i0, .ref y0, .ref z0, .int im_113, .int sT, .int n_100, .int hT, v24, v25, v26, v27])), (y0, .inl (yc, 360, .inl yg_114)), (z0, .inl (zc, 120, .inr (.inl gg_115)))]) hP hD [3, 1, 2] [0, 4] rfl rfl (by decide) (by decide) hk1 hFc hP1 hD1
        generalize H1 = H at hP hS ⊢
        have hP : va_P (dC, dI) vwCl [(i0, .inl (ic, 6, .inr (.inr (.inr (.inr jf))))), (e0, .inl (ec, 120, .inl ef)), (h0, .inr (7, [v0, v1, v2, v3, v4, v5, v6, v7, v8, v9, .ref e0, .int ts, .int bg_102, .int en_103, .int so_104, .int va_105, .int iw_106, .ref i0, .ref y0, .ref z0, .int im_113, .int sT, .int n_100, .int hT, v24, v25, v26, v27])), (y0, .inl (yc, 360, .inl yg_114)), (z0, .inl (zc, 120, .inr (.inl gg_115)))] H := hP
        have hD : va_D A [(i0, .inl (ic, 6, .inr (.inr (.inr (.inr jf))))), (e0, .inl (ec, 120, .inl ef)), (h0, .inr (7, [v0, v1, v2, v3, v4, v5, v6, v7, v8, v9, .ref e0, .int ts, .int bg_102, .int en_103, .int so_104, .int va_105, .int iw_106, .ref i0, .ref y0, .ref z0, .int im_113, .int sT, .int n_100, .int hT, v24, v25, v26, v27])), (y0, .inl (yc, 360, .inl yg_114)), (z0, .inl (zc, 120, .inr (.inl gg_115)))] := hD
        refine lv_goto (tgt := 186) hx hb dX9_readItem_104 (by decide) ?_
        have hP9 := hP.sub (ws' := [(h0, .inr (7, [v0, v1, v2, v3, v4, v5, v6, v7, v8, v9, .ref e0, .int ts, .int bg_102, .int en_103, .int so_104, .int va_105, .int iw_106, .ref i0, .ref y0, .ref z0, .int im_113, .int sT, .int n_100, .int hT, v24, v25, v26, v27])), (e0, .inl (ec, 120, .inl ef)), (i0, .inl (ic, 6, .inr (.inr (.inr (.inr jf))))), (y0, .inl (yc, 360, .inl yg_114)), (z0, .inl (zc, 120, .inr (.inl gg_115)))]) [2, 1, 0, 3, 4] rfl
        have hD9 := hD.sub (ws' := [(h0, .inr (7, [v0, v1, v2, v3, v4, v5, v6, v7, v8, v9, .ref e0, .int ts, .int bg_102, .int en_103, .int so_104, .int va_105, .int iw_106, .ref i0, .ref y0, .ref z0, .int im_113, .int sT, .int n_100, .int hT, v24, v25, v26, v27])), (e0, .inl (ec, 120, .inl ef)), (i0, .inl (ic, 6, .inr (.inr (.inr (.inr jf))))), (y0, .inl (yc, 360, .inl yg_114)), (z0, .inl (zc, 120, .inr (.inl gg_115)))]) [2, 1, 0, 3, 4] (by decide) rfl
        have hK9 := hK.sub (tys' := [(ec, .int), (ic, .object "java/lang/String"), (yc, .int), (zc, .long)]) [0, 1, 2, 3] rfl
        exact W.vret hx hb hr (fun t ht hW => ⟨⟨(), rfl, trivial, bg_102, en_103, so_104, va_105, iw_106, sT, n_100, hT, im_113, yg_114, gg_115, hq_107, hq_108, hq_109, hq_110, (by first | omega | decide | (simp only [fa_lt, fa_le, fa_eq, and_true, true_and, and_false, false_and, not_true_eq_false, not_false_eq_true, li_0, li_1, li_2, li_3, li_4, li_5, li_6, li_7, li_8, li_9, li_10, li_12, li_15, li_16, li_20, li_30, li_34, li_38, li_40, li_63, li_64, li_65, li_78, li_120, li_1000, li_4000, li_10000, li_11077, li_255, li_65535, li_m1, li_m2, li_m1000000001, li_m1000000002, li_m1000000003, li_m1000000004, li_m1000000005, li_m1000000006, li_m1000000007, or_true, true_or, or_false, false_or, implies_true, true_implies, false_implies] <;> omega)), hq_116, (fun hz => RI_mk hq_117 (Or.inr (Or.inl ⟨by decide, by omega, rfl, by omega, rfl⟩))), (by first | omega | decide | (simp only [fa_lt, fa_le, fa_eq, and_true, true_and, and_false, false_and, not_true_eq_false, not_false_eq_true, li_0, li_1, li_2, li_3, li_4, li_5, li_6, li_7, li_8, li_9, li_10, li_12, li_15, li_16, li_20, li_30, li_34, li_38, li_40, li_63, li_64, li_65, li_78, li_120, li_1000, li_4000, li_10000, li_11077, li_255, li_65535, li_m1, li_m2, li_m1000000001, li_m1000000002, li_m1000000003, li_m1000000004, li_m1000000005, li_m1000000006, li_m1000000007, or_true, true_or, or_false, false_or, implies_true, true_implies, false_implies] <;> omega)), by rw [ht]; exact hP9, va_K.moved hW.alike hK9, hD9⟩, hS.F ht⟩) hS.2.2 dX9_readItem_186
  · skip
    have tc_2 : ¬ r_1.toInt < 0 := fun h => c_2 ((fa_lt _ _).mpr h)
    refine lv_aload_n hx hb dX9_readItem_9 rfl (lv_at hl 1 rfl) ?_
    refine lv_aload_n hx hb dX9_readItem_10 rfl (lv_at hl 1 rfl) ?_
    refine va_get (D := (dC, dI)) (ci := 7) (v := .int sT) (C := RX9) (T := TX9) (N := 28) hx hb hts inX9 hown hK hP 0 rfl rfl 21 (by decide) (hts _ (List.mem_of_getElem? (i := 89) rfl)) (fun _ h9 => h9) rfl dX9_readItem_11 ?_
    refine lv_bipush (v := 9) hx hb dX9_readItem_14 (by decide) ?_
    refine lv_icmp_ge (tgt := 23) hx hb dX9_readItem_16 (by decide) (fun c_118 => ?_) (fun c_118 => ?_)
    · skip
      have tc_118 : 9 ≤ sT.toInt := (fa_le _ _).mp c_118
      refine lv_iconst (v := 0) hx hb dX9_readItem_23 (by decide) ?_
      have hPc := hP.sub (ws' := [(h0, .inr (7, [v0, v1, v2, v3, v4, v5, v6, v7, v8, v9, .ref e0, .int ts, .int bg, .int en, .int so, .int va, .int 0, .ref i0, .ref y0, .ref z0, .int im, .int sT, .int cT, .int hT, v24, v25, v26, v27]))]) [0] rfl
      have hKc := hK.sub (tys' := []) [] rfl
      have hDc := hD.sub (ws' := [(h0, .inr (7, [v0, v1, v2, v3, v4, v5, v6, v7, v8, v9, .ref e0, .int ts, .int bg, .int en, .int so, .int va, .int 0, .ref i0, .ref y0, .ref z0, .int im, .int sT, .int cT, .int hT, v24, v25, v26, v27]))]) [0] (by decide) rfl
      have hFc := va_free (wc := [(h0, .inr (7, [v0, v1, v2, v3, v4, v5, v6, v7, v8, v9, .ref e0, .int ts, .int bg, .int en, .int so, .int va, .int 0, .ref i0, .ref y0, .ref z0, .int im, .int sT, .int cT, .int hT, v24, v25, v26, v27]))]) hD hS hA [0] rfl
      refine va_callv (va_runV (As := [.int 0]) (rest := []) ⟨hx, hb, hml, hown, hts⟩ (m_must0 l dC dI ad h0 v0 v1 v2 v3 v4 v5 v6 v7 v8 v9 (.ref e0) (.int ts) (.int bg) (.int en) (.int so) (.int va) 0 (.ref i0) (.ref y0) (.ref z0) (.int im) (.int sT) (.int cT) (.int hT) v24 v25 v26 v27 s.heap.size ) (cwV 1 hts g_m_readItem_m_must0_224 rfl rfl rfl (by decide +kernel) ⟨(Nat.le_of_ble_eq_true rfl), (Nat.le_of_ble_eq_true rfl)⟩) ⟨preM_blind, va_recv hKc hPc (ci := 7) (q0 := 0) rfl rfl, fun U hU hW => ⟨rfl, preM_at hU hW hPc hKc hDc hev⟩⟩ rfl rfl hl.1 rfl (lv_room (Nat.le_of_ble_eq_true rfl)) dX9_readItem_24 ⟨(Nat.le_of_ble_eq_true rfl), (Nat.le_of_ble_eq_true rfl)⟩) hS (fun q _ h => hFc q h) hFc (fun u t H1 locs ht hvm hw hB hz1 hk1 hS => ?_)
      obtain ⟨hP1, hK1, hD1⟩ := hB
      rw [ht] at hP1
      have hK1 := va_K.moved hvm.symm hK1
      obtain ⟨hP, hD⟩ := va_join (wr := [(e0, .inl (ec, 120, .inl ef)), (i0, .inl (ic, 6, .inr (.inr (.inr (.inr jf))))), (y0, .inl (yc, 360, .inl yf)), (z0, .inl (zc, 120, .inr (.inl gf)))]) (w1 := [(h0, .inr (7, [v0, v1, v2, v3, v4, v5, v6, v7, v8, v9, .ref e0, .int ts, .int bg, .int en, .int so, .int va, .int 1, .ref i0, .ref y0, .ref z0, .int im, .int sT, .int cT, .int hT, v24, v25, v26, v27]))]) hP hD [0] [1, 2, 3, 4] rfl rfl (by decide) (by decide) hk1 hFc hP1 hD1
      generalize H1 = H at hP hS ⊢
      have hP : va_P (dC, dI) vwCl [(e0, .inl (ec, 120, .inl ef)), (i0, .inl (ic, 6, .inr (.inr (.inr (.inr jf))))), (y0, .inl (yc, 360, .inl yf)), (z0, .inl (zc, 120, .inr (.inl gf))), (h0, .inr (7, [v0, v1, v2, v3, v4, v5, v6, v7, v8, v9, .ref e0, .int ts, .int bg, .int en, .int so, .int va, .int 1, .ref i0, .ref y0, .ref z0, .int im, .int sT, .int cT, .int hT, v24, v25, v26, v27]))] H := hP
      have hD : va_D A [(e0, .inl (ec, 120, .inl ef)), (i0, .inl (ic, 6, .inr (.inr (.inr (.inr jf))))), (y0, .inl (yc, 360, .inl yf)), (z0, .inl (zc, 120, .inr (.inl gf))), (h0, .inr (7, [v0, v1, v2, v3, v4, v5, v6, v7, v8, v9, .ref e0, .int ts, .int bg, .int en, .int so, .int va, .int 1, .ref i0, .ref y0, .ref z0, .int im, .int sT, .int cT, .int hT, v24, v25, v26, v27]))] := hD
      refine lv_aload_n hx hb dX9_readItem_27 rfl (lv_at hl 1 rfl) ?_
      refine lv_dup hx hb dX9_readItem_28 rfl ?_
      refine va_get (D := (dC, dI)) (ci := 7) (v := .int sT) (C := RX9) (T := TX9) (N := 28) hx hb hts inX9 hown hK hP 4 rfl rfl 21 (by decide) (hts _ (List.mem_of_getElem? (i := 89) rfl)) (fun _ h9 => h9) rfl dX9_readItem_29 ?_
      refine lv_iconst (v := 1) hx hb dX9_readItem_32 (by decide) ?_
      refine lv_iadd hx hb dX9_readItem_33 ?_
      refine lv_topi (fun n_120 en_120 => ?_)
      have tn_120 : n_120.toInt = sT.toInt + 1 := pp_add en_120 rfl rfl (by omega) (by omega)
      clear en_120
      refine va_put (D := (dC, dI)) (ci := 7) (v := .int n_120) (ty := .int) (C := RX9) (T := TX9) (N := 28) hx hb hts inX9 tyX9 tyX9_ok nmX9 hown hK hP hD hS 4 rfl rfl 21 (by decide) (hts _ (List.mem_of_getElem? (i := 89) rfl)) (fun _ h9 => h9) rfl (by decide +kernel) rfl rfl (Nat.le_of_ble_eq_true rfl) dX9_readItem_34 (fun H locs hP hD hS => ?_)
      have hP : va_P (dC, dI) vwCl [(e0, .inl (ec, 120, .inl ef)), (i0, .inl (ic, 6, .inr (.inr (.inr (.inr jf))))), (y0, .inl (yc, 360, .inl yf)), (z0, .inl (zc, 120, .inr (.inl gf))), (h0, .inr (7, [v0, v1, v2, v3, v4, v5, v6, v7, v8, v9, .ref e0, .int ts, .int bg, .int en, .int so, .int va, .int 1, .ref i0, .ref y0, .ref z0, .int im, .int n_120, .int cT, .int hT, v24, v25, v26, v27]))] H := hP
      have hD : va_D A [(e0, .inl (ec, 120, .inl ef)), (i0, .inl (ic, 6, .inr (.inr (.inr (.inr jf))))), (y0, .inl (yc, 360, .inl yf)), (z0, .inl (zc, 120, .inr (.inl gf))), (h0, .inr (7, [v0, v1, v2, v3, v4, v5, v6, v7, v8, v9, .ref e0, .int ts, .int bg, .int en, .int so, .int va, .int 1, .ref i0, .ref y0, .ref z0, .int im, .int n_120, .int cT, .int hT, v24, v25, v26, v27]))] := hD
      refine lv_aload_n hx hb dX9_readItem_37 rfl (lv_at hl 1 rfl) ?_
      refine lv_iload_n hx hb dX9_readItem_38 rfl (lv_at hl 0 rfl) ?_
      refine lv_aload_n hx hb dX9_readItem_39 rfl (lv_at hl 1 rfl) ?_
      refine lv_iconst (v := 4) hx hb dX9_readItem_40 (by decide) ?_
      have hPc := hP.sub (ws' := [(h0, .inr (7, [v0, v1, v2, v3, v4, v5, v6, v7, v8, v9, .ref e0, .int ts, .int bg, .int en, .int so, .int va, .int 1, .ref i0, .ref y0, .ref z0, .int im, .int n_120, .int cT, .int hT, v24, v25, v26, v27])), (e0, .inl (ec, 120, .inl ef))]) [4, 0] rfl
      have hKc := hK.sub (tys' := [(ec, .int)]) [0] rfl
      have hDc := hD.sub (ws' := [(h0, .inr (7, [v0, v1, v2, v3, v4, v5, v6, v7, v8, v9, .ref e0, .int ts, .int bg, .int en, .int so, .int va, .int 1, .ref i0, .ref y0, .ref z0, .int im, .int n_120, .int cT, .int hT, v24, v25, v26, v27])), (e0, .inl (ec, 120, .inl ef))]) [4, 0] (by decide) rfl
      have hFc := va_free (wc := [(h0, .inr (7, [v0, v1, v2, v3, v4, v5, v6, v7, v8, v9, .ref e0, .int ts, .int bg, .int en, .int so, .int va, .int 1, .ref i0, .ref y0, .ref z0, .int im, .int n_120, .int cT, .int hT, v24, v25, v26, v27])), (e0, .inl (ec, 120, .inl ef))]) hD hS hA [4, 0] rfl
      refine va_calll (va_runV (As := [.int 4]) (rest := [.int r_1, .ref h0]) ⟨hx, hb, hml, hown, hts⟩ (m_readRows l dC dI ad h0 4 v0 v1 v2 v3 v4 v5 v6 v7 v8 v9 e0 ts bg en so va 1 (.ref i0) (.ref y0) (.ref z0) (.int im) (.int n_120) (.int cT) (.int hT) v24 v25 v26 v27 ec ef H.size htm hlx hso hva (by first | omega | decide | (simp only [fa_lt, fa_le, fa_eq, and_true, true_and, and_false, false_and, not_true_eq_false, not_false_eq_true, li_0, li_1, li_2, li_3, li_4, li_5, li_6, li_7, li_8, li_9, li_10, li_12, li_15, li_16, li_20, li_30, li_34, li_38, li_40, li_63, li_64, li_65, li_78, li_120, li_1000, li_4000, li_10000, li_11077, li_255, li_65535, li_m1, li_m2, li_m1000000001, li_m1000000002, li_m1000000003, li_m1000000004, li_m1000000005, li_m1000000006, li_m1000000007, or_true, true_or, or_false, false_or, implies_true, true_implies, false_implies] <;> omega)) (by first | omega | decide | (simp only [fa_lt, fa_le, fa_eq, and_true, true_and, and_false, false_and, not_true_eq_false, not_false_eq_true, li_0, li_1, li_2, li_3, li_4, li_5, li_6, li_7, li_8, li_9, li_10, li_12, li_15, li_16, li_20, li_30, li_34, li_38, li_40, li_63, li_64, li_65, li_78, li_120, li_1000, li_4000, li_10000, li_11077, li_255, li_65535, li_m1, li_m2, li_m1000000001, li_m1000000002, li_m1000000003, li_m1000000004, li_m1000000005, li_m1000000006, li_m1000000007, or_true, true_or, or_false, false_or, implies_true, true_implies, false_implies] <;> omega))) (cwV 1 hts g_m_readItem_m_readRows_244 rfl rfl rfl (by decide +kernel) ⟨(Nat.le_of_ble_eq_true rfl), (Nat.le_of_ble_eq_true rfl)⟩) ⟨preM_blind, va_recv hKc hPc (ci := 7) (q0 := 0) rfl rfl, fun U hU hW => ⟨rfl, preM_at hU hW hPc hKc hDc hev⟩⟩ rfl rfl hl.1 rfl (lv_room (Nat.le_of_ble_eq_true rfl)) dX9_readItem_41 ⟨(Nat.le_of_ble_eq_true rfl), (Nat.le_of_ble_eq_true rfl)⟩) hS (fun q _ h => hFc q h) hFc (fun r_121 u t H1 locs ht hvm hw hB hz1 hk1 hS => ?_)
      obtain ⟨bg_122, en_123, so_124, va_125, iw_126, hq_127, hq_128, hq_129, hq_130, hq_131, hP1, hK1, hD1⟩ := hB
      rw [ht] at hP1
      have hK1 := va_K.moved hvm.symm hK1
      obtain ⟨hP, hD⟩ := va_join (wr := [(i0, .inl (ic, 6, .inr (.inr (.inr (.inr jf))))), (y0, .inl (yc, 360, .inl yf)), (z0, .inl (zc, 120, .inr (.inl gf)))]) (w1 := [(h0, .inr (7, [v0, v1, v2, v3, v4, v5, v6, v7, v8, v9, .ref e0, .int ts, .int bg_122, .int en_123, .int so_124, .int va_125, .int iw_126, .ref i0, .ref y0, .ref z0, .int im, .int n_120, .int cT, .int hT, v24, v25, v26, v27])), (e0, .inl (ec, 120, .inl ef))]) hP hD [4, 0] [1, 2, 3] rfl rfl (by decide) (by decide) hk1 hFc hP1 hD1
      generalize H1 = H at hP hS ⊢
      have hP : va_P (dC, dI) vwCl [(i0, .inl (ic, 6, .inr (.inr (.inr (.inr jf))))), (y0, .inl (yc, 360, .inl yf)), (z0, .inl (zc, 120, .inr (.inl gf))), (h0, .inr (7, [v0, v1, v2, v3, v4, v5, v6, v7, v8, v9, .ref e0, .int ts, .int bg_122, .int en_123, .int so_124, .int va_125, .int iw_126, .ref i0, .ref y0, .ref z0, .int im, .int n_120, .int cT, .int hT, v24, v25, v26, v27])), (e0, .inl (ec, 120, .inl ef))] H := hP
      have hD : va_D A [(i0, .inl (ic, 6, .inr (.inr (.inr (.inr jf))))), (y0, .inl (yc, 360, .inl yf)), (z0, .inl (zc, 120, .inr (.inl gf))), (h0, .inr (7, [v0, v1, v2, v3, v4, v5, v6, v7, v8, v9, .ref e0, .int ts, .int bg_122, .int en_123, .int so_124, .int va_125, .int iw_126, .ref i0, .ref y0, .ref z0, .int im, .int n_120, .int cT, .int hT, v24, v25, v26, v27])), (e0, .inl (ec, 120, .inl ef))] := hD
      have hq_131 : iw_126.toInt = 0 → (1 : Int) = 0 ∧ bg.toInt ≤ bg_122.toInt := hq_131
      obtain ⟨n_132, en_132⟩ : ∃ z : Int32, z = r_121.toInt32 := ⟨_, rfl⟩
      refine lv_l2i (v := n_132) hx hb dX9_readItem_44 en_132.symm ?_
      clear en_132
      refine lv_iconst (v := 0) hx hb dX9_readItem_45 (by decide) ?_
      refine lv_lconst (v := 0) hx hb dX9_readItem_46 (by decide) ?_
      have hPc := hP.sub (ws' := [(h0, .inr (7, [v0, v1, v2, v3, v4, v5, v6, v7, v8, v9, .ref e0, .int ts, .int bg_122, .int en_123, .int so_124, .int va_125, .int iw_126, .ref i0, .ref y0, .ref z0, .int im, .int n_120, .int cT, .int hT, v24, v25, v26, v27])), (y0, .inl (yc, 360, .inl yf)), (z0, .inl (zc, 120, .inr (.inl gf)))]) [3, 1, 2] rfl
      have hKc := hK.sub (tys' := [(yc, .int), (zc, .long)]) [2, 3] rfl
      have hDc := hD.sub (ws' := [(h0, .inr (7, [v0, v1, v2, v3, v4, v5, v6, v7, v8, v9, .ref e0, .int ts, .int bg_122, .int en_123, .int so_124, .int va_125, .int iw_126, .ref i0, .ref y0, .ref z0, .int im, .int n_120, .int cT, .int hT, v24, v25, v26, v27])), (y0, .inl (yc, 360, .inl yf)), (z0, .inl (zc, 120, .inr (.inl gf)))]) [3, 1, 2] (by decide) rfl
      have hFc := va_free (wc := [(h0, .inr (7, [v0, v1, v2, v3, v4, v5, v6, v7, v8, v9, .ref e0, .int ts, .int bg_122, .int en_123, .int so_124, .int va_125, .int iw_126, .ref i0, .ref y0, .ref z0, .int im, .int n_120, .int cT, .int hT, v24, v25, v26, v27])), (y0, .inl (yc, 360, .inl yf)), (z0, .inl (zc, 120, .inr (.inl gf)))]) hD hS hA [3, 1, 2] rfl
      refine va_callv (va_runV (As := [.int r_1, .int n_132, .int 0, .long 0]) (rest := []) ⟨hx, hb, hml, hown, hts⟩ (m_item l dC dI ad h0 r_1 n_132 0 0 v0 v1 v2 v3 v4 v5 v6 v7 v8 v9 (.ref e0) (.int ts) (.int bg_122) (.int en_123) (.int so_124) (.int va_125) (.int iw_126) (.ref i0) y0 z0 im (.int n_120) (.int cT) (.int hT) v24 v25 v26 v27 yc yf zc gf H.size him) (cwV 4 hts g_m_readItem_m_item_247 rfl rfl rfl (by decide +kernel) ⟨(Nat.le_of_ble_eq_true rfl), (Nat.le_of_ble_eq_true rfl)⟩) ⟨preM_blind, va_recv hKc hPc (ci := 7) (q0 := 0) rfl rfl, fun U hU hW => ⟨rfl, preM_at hU hW hPc hKc hDc hev⟩⟩ rfl rfl hl.1 rfl (lv_room (Nat.le_of_ble_eq_true rfl)) dX9_readItem_47 ⟨(Nat.le_of_ble_eq_true rfl), (Nat.le_of_ble_eq_true rfl)⟩) hS (fun q _ h => hFc q h) hFc (fun u t H1 locs ht hvm hw hB hz1 hk1 hS => ?_)
      obtain ⟨im_134, yg_135, gg_136, hq_137, hq_138, hP1, hK1, hD1⟩ := hB
      rw [ht] at hP1
      have hK1 := va_K.moved hvm.symm hK1
      obtain ⟨hP, hD⟩ := va_join (wr := [(i0, .inl (ic, 6, .inr (.inr (.inr (.inr jf))))), (e0, .inl (ec, 120, .inl ef))]) (w1 := [(h0, .inr (7, [v0, v1, v2, v3, v4, v5, v6, v7, v8, v9, .ref e0, .int ts, .int bg_122, .int en_123, .int so_124, .int va_125, .int iw_126, .ref i0, .ref y0, .ref z0, .int im_134, .int n_120, .int cT, .int hT, v24, v25, v26, v27])), (y0, .inl (yc, 360, .inl yg_135)), (z0, .inl (zc, 120, .inr (.inl gg_136)))]) hP hD [3, 1, 2] [0, 4] rfl rfl (by decide) (by decide) hk1 hFc hP1 hD1
      generalize H1 = H at hP hS ⊢
      have hP : va_P (dC, dI) vwCl [(i0, .inl (ic, 6, .inr (.inr (.inr (.inr jf))))), (e0, .inl (ec, 120, .inl ef)), (h0, .inr (7, [v0, v1, v2, v3, v4, v5, v6, v7, v8, v9, .ref e0, .int ts, .int bg_122, .int en_123, .int so_124, .int va_125, .int iw_126, .ref i0, .ref y0, .ref z0, .int im_134, .int n_120, .int cT, .int hT, v24, v25, v26, v27])), (y0, .inl (yc, 360, .inl yg_135)), (z0, .inl (zc, 120, .inr (.inl gg_136)))] H := hP
      have hD : va_D A [(i0, .inl (ic, 6, .inr (.inr (.inr (.inr jf))))), (e0, .inl (ec, 120, .inl ef)), (h0, .inr (7, [v0, v1, v2, v3, v4, v5, v6, v7, v8, v9, .ref e0, .int ts, .int bg_122, .int en_123, .int so_124, .int va_125, .int iw_126, .ref i0, .ref y0, .ref z0, .int im_134, .int n_120, .int cT, .int hT, v24, v25, v26, v27])), (y0, .inl (yc, 360, .inl yg_135)), (z0, .inl (zc, 120, .inr (.inl gg_136)))] := hD
      refine lv_goto (tgt := 186) hx hb dX9_readItem_50 (by decide) ?_
      have hP9 := hP.sub (ws' := [(h0, .inr (7, [v0, v1, v2, v3, v4, v5, v6, v7, v8, v9, .ref e0, .int ts, .int bg_122, .int en_123, .int so_124, .int va_125, .int iw_126, .ref i0, .ref y0, .ref z0, .int im_134, .int n_120, .int cT, .int hT, v24, v25, v26, v27])), (e0, .inl (ec, 120, .inl ef)), (i0, .inl (ic, 6, .inr (.inr (.inr (.inr jf))))), (y0, .inl (yc, 360, .inl yg_135)), (z0, .inl (zc, 120, .inr (.inl gg_136)))]) [2, 1, 0, 3, 4] rfl
      have hD9 := hD.sub (ws' := [(h0, .inr (7, [v0, v1, v2, v3, v4, v5, v6, v7, v8, v9, .ref e0, .int ts, .int bg_122, .int en_123, .int so_124, .int va_125, .int iw_126, .ref i0, .ref y0, .ref z0, .int im_134, .int n_120, .int cT, .int hT, v24, v25, v26, v27])), (e0, .inl (ec, 120, .inl ef)), (i0, .inl (ic, 6, .inr (.inr (.inr (.inr jf))))), (y0, .inl (yc, 360, .inl yg_135)), (z0, .inl (zc, 120, .inr (.inl gg_136)))]) [2, 1, 0, 3, 4] (by decide) rfl
      have hK9 := hK.sub (tys' := [(ec, .int), (ic, .object "java/lang/String"), (yc, .int), (zc, .long)]) [0, 1, 2, 3] rfl
      exact W.vret hx hb hr (fun t ht hW => ⟨⟨(), rfl, trivial, bg_122, en_123, so_124, va_125, iw_126, n_120, cT, hT, im_134, yg_135, gg_136, hq_127, hq_128, hq_129, hq_130, (by first | omega | decide | (simp only [fa_lt, fa_le, fa_eq, and_true, true_and, and_false, false_and, not_true_eq_false, not_false_eq_true, li_0, li_1, li_2, li_3, li_4, li_5, li_6, li_7, li_8, li_9, li_10, li_12, li_15, li_16, li_20, li_30, li_34, li_38, li_40, li_63, li_64, li_65, li_78, li_120, li_1000, li_4000, li_10000, li_11077, li_255, li_65535, li_m1, li_m2, li_m1000000001, li_m1000000002, li_m1000000003, li_m1000000004, li_m1000000005, li_m1000000006, li_m1000000007, or_true, true_or, or_false, false_or, implies_true, true_implies, false_implies] <;> omega)), hq_137, (fun hz => RI_mk hq_138 (Or.inl ⟨by omega, by omega, by omega, by omega, rfl, rfl⟩)), (by first | omega | decide | (simp only [fa_lt, fa_le, fa_eq, and_true, true_and, and_false, false_and, not_true_eq_false, not_false_eq_true, li_0, li_1, li_2, li_3, li_4, li_5, li_6, li_7, li_8, li_9, li_10, li_12, li_15, li_16, li_20, li_30, li_34, li_38, li_40, li_63, li_64, li_65, li_78, li_120, li_1000, li_4000, li_10000, li_11077, li_255, li_65535, li_m1, li_m2, li_m1000000001, li_m1000000002, li_m1000000003, li_m1000000004, li_m1000000005, li_m1000000006, li_m1000000007, or_true, true_or, or_false, false_or, implies_true, true_implies, false_implies] <;> omega)), by rw [ht]; exact hP9, va_K.moved hW.alike hK9, hD9⟩, hS.F ht⟩) hS.2.2 dX9_readItem_186
    · skip
      have tc_118 : ¬ 9 ≤ sT.toInt := fun h => c_118 ((fa_le _ _).mpr h)
      refine lv_iconst (v := 1) hx hb dX9_readItem_19 (by decide) ?_
      refine lv_goto (tgt := 24) hx hb dX9_readItem_20 (by decide) ?_
      have hPc := hP.sub (ws' := [(h0, .inr (7, [v0, v1, v2, v3, v4, v5, v6, v7, v8, v9, .ref e0, .int ts, .int bg, .int en, .int so, .int va, .int 0, .ref i0, .ref y0, .ref z0, .int im, .int sT, .int cT, .int hT, v24, v25, v26, v27])), (e0, .inl (ec, 120, .inl ef))]) [0, 1] rfl
      have hKc := hK.sub (tys' := [(ec, .int)]) [0] rfl
      have hDc := hD.sub (ws' := [(h0, .inr (7, [v0, v1, v2, v3, v4, v5, v6, v7, v8, v9, .ref e0, .int ts, .int bg, .int en, .int so, .int va, .int 0, .ref i0, .ref y0, .ref z0, .int im, .int sT, .int cT, .int hT, v24, v25, v26, v27])), (e0, .inl (ec, 120, .inl ef))]) [0, 1] (by decide) rfl
      have hFc := va_free (wc := [(h0, .inr (7, [v0, v1, v2, v3, v4, v5, v6, v7, v8, v9, .ref e0, .int ts, .int bg, .int en, .int so, .int va, .int 0, .ref i0, .ref y0, .ref z0, .int im, .int sT, .int cT, .int hT, v24, v25, v26, v27])), (e0, .inl (ec, 120, .inl ef))]) hD hS hA [0, 1] rfl
      refine va_callv (va_runV (As := [.int 1]) (rest := []) ⟨hx, hb, hml, hown, hts⟩ (m_must1 l dC dI ad h0 v0 v1 v2 v3 v4 v5 v6 v7 v8 v9 e0 ts bg en so va (.ref i0) (.ref y0) (.ref z0) (.int im) (.int sT) (.int cT) (.int hT) v24 v25 v26 v27 ec ef s.heap.size htm hlx hso hva) (cwV 1 hts g_m_readItem_m_must1_224 rfl rfl rfl (by decide +kernel) ⟨(Nat.le_of_ble_eq_true rfl), (Nat.le_of_ble_eq_true rfl)⟩) ⟨preM_blind, va_recv hKc hPc (ci := 7) (q0 := 0) rfl rfl, fun U hU hW => ⟨rfl, preM_at hU hW hPc hKc hDc hev⟩⟩ rfl rfl hl.1 rfl (lv_room (Nat.le_of_ble_eq_true rfl)) dX9_readItem_24 ⟨(Nat.le_of_ble_eq_true rfl), (Nat.le_of_ble_eq_true rfl)⟩) hS (fun q _ h => hFc q h) hFc (fun u t H1 locs ht hvm hw hB hz1 hk1 hS => ?_)
      obtain ⟨bg_140, en_141, so_142, va_143, hq_144, hq_145, hq_146, hq_147, hP1, hK1, hD1⟩ := hB
      rw [ht] at hP1
      have hK1 := va_K.moved hvm.symm hK1
      obtain ⟨hP, hD⟩ := va_join (wr := [(i0, .inl (ic, 6, .inr (.inr (.inr (.inr jf))))), (y0, .inl (yc, 360, .inl yf)), (z0, .inl (zc, 120, .inr (.inl gf)))]) (w1 := [(h0, .inr (7, [v0, v1, v2, v3, v4, v5, v6, v7, v8, v9, .ref e0, .int ts, .int bg_140, .int en_141, .int so_142, .int va_143, .int 0, .ref i0, .ref y0, .ref z0, .int im, .int sT, .int cT, .int hT, v24, v25, v26, v27])), (e0, .inl (ec, 120, .inl ef))]) hP hD [0, 1] [2, 3, 4] rfl rfl (by decide) (by decide) hk1 hFc hP1 hD1
      generalize H1 = H at hP hS ⊢
      have hP : va_P (dC, dI) vwCl [(i0, .inl (ic, 6, .inr (.inr (.inr (.inr jf))))), (y0, .inl (yc, 360, .inl yf)), (z0, .inl (zc, 120, .inr (.inl gf))), (h0, .inr (7, [v0, v1, v2, v3, v4, v5, v6, v7, v8, v9, .ref e0, .int ts, .int bg_140, .int en_141, .int so_142, .int va_143, .int 0, .ref i0, .ref y0, .ref z0, .int im, .int sT, .int cT, .int hT, v24, v25, v26, v27])), (e0, .inl (ec, 120, .inl ef))] H := hP
      have hD : va_D A [(i0, .inl (ic, 6, .inr (.inr (.inr (.inr jf))))), (y0, .inl (yc, 360, .inl yf)), (z0, .inl (zc, 120, .inr (.inl gf))), (h0, .inr (7, [v0, v1, v2, v3, v4, v5, v6, v7, v8, v9, .ref e0, .int ts, .int bg_140, .int en_141, .int so_142, .int va_143, .int 0, .ref i0, .ref y0, .ref z0, .int im, .int sT, .int cT, .int hT, v24, v25, v26, v27])), (e0, .inl (ec, 120, .inl ef))] := hD
      refine lv_aload_n hx hb dX9_readItem_27 rfl (lv_at hl 1 rfl) ?_
      refine lv_dup hx hb dX9_readItem_28 rfl ?_
      refine va_get (D := (dC, dI)) (ci := 7) (v := .int sT) (C := RX9) (T := TX9) (N := 28) hx hb hts inX9 hown hK hP 3 rfl rfl 21 (by decide) (hts _ (List.mem_of_getElem? (i := 89) rfl)) (fun _ h9 => h9) rfl dX9_readItem_29 ?_
      refine lv_iconst (v := 1) hx hb dX9_readItem_32 (by decide) ?_
      refine lv_iadd hx hb dX9_readItem_33 ?_
      refine lv_topi (fun n_148 en_148 => ?_)
      have tn_148 : n_148.toInt = sT.toInt + 1 := pp_add en_148 rfl rfl (by omega) (by omega)
      clear en_148
      refine va_put (D := (dC, dI)) (ci := 7) (v := .int n_148) (ty := .int) (C := RX9) (T := TX9) (N := 28) hx hb hts inX9 tyX9 tyX9_ok nmX9 hown hK hP hD hS 3 rfl rfl 21 (by decide) (hts _ (List.mem_of_getElem? (i := 89) rfl)) (fun _ h9 => h9) rfl (by decide +kernel) rfl rfl (Nat.le_of_ble_eq_true rfl) dX9_readItem_34 (fun H locs hP hD hS => ?_)
      have hP : va_P (dC, dI) vwCl [(i0, .inl (ic, 6, .inr (.inr (.inr (.inr jf))))), (y0, .inl (yc, 360, .inl yf)), (z0, .inl (zc, 120, .inr (.inl gf))), (h0, .inr (7, [v0, v1, v2, v3, v4, v5, v6, v7, v8, v9, .ref e0, .int ts, .int bg_140, .int en_141, .int so_142, .int va_143, .int 0, .ref i0, .ref y0, .ref z0, .int im, .int n_148, .int cT, .int hT, v24, v25, v26, v27])), (e0, .inl (ec, 120, .inl ef))] H := hP
      have hD : va_D A [(i0, .inl (ic, 6, .inr (.inr (.inr (.inr jf))))), (y0, .inl (yc, 360, .inl yf)), (z0, .inl (zc, 120, .inr (.inl gf))), (h0, .inr (7, [v0, v1, v2, v3, v4, v5, v6, v7, v8, v9, .ref e0, .int ts, .int bg_140, .int en_141, .int so_142, .int va_143, .int 0, .ref i0, .ref y0, .ref z0, .int im, .int n_148, .int cT, .int hT, v24, v25, v26, v27])), (e0, .inl (ec, 120, .inl ef))] := hD
      refine lv_aload_n hx hb dX9_readItem_37 rfl (lv_at hl 1 rfl) ?_
      refine lv_iload_n hx hb dX9_readItem_38 rfl (lv_at hl 0 rfl) ?_
      refine lv_aload_n hx hb dX9_readItem_39 rfl (lv_at hl 1 rfl) ?_
      refine lv_iconst (v := 4) hx hb dX9_readItem_40 (by decide) ?_
      have hPc := hP.sub (ws' := [(h0, .inr (7, [v0, v1, v2, v3, v4, v5, v6, v7, v8, v9, .ref e0, .int ts, .int bg_140, .int en_141, .int so_142, .int va_143, .int 0, .ref i0, .ref y0, .ref z0, .int im, .int n_148, .int cT, .int hT, v24, v25, v26, v27])), (e0, .inl (ec, 120, .inl ef))]) [3, 4] rfl
      have hKc := hK.sub (tys' := [(ec, .int)]) [0] rfl
      have hDc := hD.sub (ws' := [(h0, .inr (7, [v0, v1, v2, v3, v4, v5, v6, v7, v8, v9, .ref e0, .int ts, .int bg_140, .int en_141, .int so_142, .int va_143, .int 0, .ref i0, .ref y0, .ref z0, .int im, .int n_148, .int cT, .int hT, v24, v25, v26, v27])), (e0, .inl (ec, 120, .inl ef))]) [3, 4] (by decide) rfl
      have hFc := va_free (wc := [(h0, .inr (7, [v0, v1, v2, v3, v4, v5, v6, v7, v8, v9, .ref e0, .int ts, .int bg_140, .int en_141, .int so_142, .int va_143, .int 0, .ref i0, .ref y0, .ref z0, .int im, .int n_148, .int cT, .int hT, v24, v25, v26, v27])), (e0, .inl (ec, 120, .inl ef))]) hD hS hA [3, 4] rfl
      refine va_calll (va_runV (As := [.int 4]) (rest := [.int r_1, .ref h0]) ⟨hx, hb, hml, hown, hts⟩ (m_readRows l dC dI ad h0 4 v0 v1 v2 v3 v4 v5 v6 v7 v8 v9 e0 ts bg_140 en_141 so_142 va_143 0 (.ref i0) (.ref y0) (.ref z0) (.int im) (.int n_148) (.int cT) (.int hT) v24 v25 v26 v27 ec ef H.size htm hq_144 hq_145 hq_146 (by first | omega | decide | (simp only [fa_lt, fa_le, fa_eq, and_true, true_and, and_false, false_and, not_true_eq_false, not_false_eq_true, li_0, li_1, li_2, li_3, li_4, li_5, li_6, li_7, li_8, li_9, li_10, li_12, li_15, li_16, li_20, li_30, li_34, li_38, li_40, li_63, li_64, li_65, li_78, li_120, li_1000, li_4000, li_10000, li_11077, li_255, li_65535, li_m1, li_m2, li_m1000000001, li_m1000000002, li_m1000000003, li_m1000000004, li_m1000000005, li_m1000000006, li_m1000000007, or_true, true_or, or_false, false_or, implies_true, true_implies, false_implies] <;> omega)) (by first | omega | decide | (simp only [fa_lt, fa_le, fa_eq, and_true, true_and, and_false, false_and, not_true_eq_false, not_false_eq_true, li_0, li_1, li_2, li_3, li_4, li_5, li_6, li_7, li_8, li_9, li_10, li_12, li_15, li_16, li_20, li_30, li_34, li_38, li_40, li_63, li_64, li_65, li_78, li_120, li_1000, li_4000, li_10000, li_11077, li_255, li_65535, li_m1, li_m2, li_m1000000001, li_m1000000002, li_m1000000003, li_m1000000004, li_m1000000005, li_m1000000006, li_m1000000007, or_true, true_or, or_false, false_or, implies_true, true_implies, false_implies] <;> omega))) (cwV 1 hts g_m_readItem_m_readRows_244 rfl rfl rfl (by decide +kernel) ⟨(Nat.le_of_ble_eq_true rfl), (Nat.le_of_ble_eq_true rfl)⟩) ⟨preM_blind, va_recv hKc hPc (ci := 7) (q0 := 0) rfl rfl, fun U hU hW => ⟨rfl, preM_at hU hW hPc hKc hDc hev⟩⟩ rfl rfl hl.1 rfl (lv_room (Nat.le_of_ble_eq_true rfl)) dX9_readItem_41 ⟨(Nat.le_of_ble_eq_true rfl), (Nat.le_of_ble_eq_true rfl)⟩) hS (fun q _ h => hFc q h) hFc (fun r_149 u t H1 locs ht hvm hw hB hz1 hk1 hS => ?_)
      obtain ⟨bg_150, en_151, so_152, va_153, iw_154, hq_155, hq_156, hq_157, hq_158, hq_159, hP1, hK1, hD1⟩ := hB
      rw [ht] at hP1
      have hK1 := va_K.moved hvm.symm hK1
      obtain ⟨hP, hD⟩ := va_join (wr := [(i0, .inl (ic, 6, .inr (.inr (.inr (.inr jf))))), (y0, .inl (yc, 360, .inl yf)), (z0, .inl (zc, 120, .inr (.inl gf)))]) (w1 := [(h0, .inr (7, [v0, v1, v2, v3, v4, v5, v6, v7, v8, v9, .ref e0, .int ts, .int bg_150, .int en_151, .int so_152, .int va_153, .int iw_154, .ref i0, .ref y0, .ref z0, .int im, .int n_148, .int cT, .int hT, v24, v25, v26, v27])), (e0, .inl (ec, 120, .inl ef))]) hP hD [3, 4] [0, 1, 2] rfl rfl (by decide) (by decide) hk1 hFc hP1 hD1
      generalize H1 = H at hP hS ⊢
      have hP : va_P (dC, dI) vwCl [(i0, .inl (ic, 6, .inr (.inr (.inr (.inr jf))))), (y0, .inl (yc, 360, .inl yf)), (z0, .inl (zc, 120, .inr (.inl gf))), (h0, .inr (7, [v0, v1, v2, v3, v4, v5, v6, v7, v8, v9, .ref e0, .int ts, .int bg_150, .int en_151, .int so_152, .int va_153, .int iw_154, .ref i0, .ref y0, .ref z0, .int im, .int n_148, .int cT, .int hT, v24, v25, v26, v27])), (e0, .inl (ec, 120, .inl ef))] H := hP
      have hD : va_D A [(i0, .inl (ic, 6, .inr (.inr (.inr (.inr jf))))), (y0, .inl (yc, 360, .inl yf)), (z0, .inl (zc, 120, .inr (.inl gf))), (h0, .inr (7, [v0, v1, v2, v3, v4, v5, v6, v7, v8, v9, .ref e0, .int ts, .int bg_150, .int en_151, .int so_152, .int va_153, .int iw_154, .ref i0, .ref y0, .ref z0, .int im, .int n_148, .int cT, .int hT, v24, v25, v26, v27])), (e0, .inl (ec, 120, .inl ef))] := hD
      have hq_159 : iw_154.toInt = 0 → (0 : Int) = 0 ∧ bg_140.toInt ≤ bg_150.toInt := hq_159
      obtain ⟨n_160, en_160⟩ : ∃ z : Int32, z = r_149.toInt32 := ⟨_, rfl⟩
      refine lv_l2i (v := n_160) hx hb dX9_readItem_44 en_160.symm ?_
      clear en_160
      refine lv_iconst (v := 0) hx hb dX9_readItem_45 (by decide) ?_
      refine lv_lconst (v := 0) hx hb dX9_readItem_46 (by decide) ?_
      have hPc := hP.sub (ws' := [(h0, .inr (7, [v0, v1, v2, v3, v4, v5, v6, v7, v8, v9, .ref e0, .int ts, .int bg_150, .int en_151, .int so_152, .int va_153, .int iw_154, .ref i0, .ref y0, .ref z0, .int im, .int n_148, .int cT, .int hT, v24, v25, v26, v27])), (y0, .inl (yc, 360, .inl yf)), (z0, .inl (zc, 120, .inr (.inl gf)))]) [3, 1, 2] rfl
      have hKc := hK.sub (tys' := [(yc, .int), (zc, .long)]) [2, 3] rfl
      have hDc := hD.sub (ws' := [(h0, .inr (7, [v0, v1, v2, v3, v4, v5, v6, v7, v8, v9, .ref e0, .int ts, .int bg_150, .int en_151, .int so_152, .int va_153, .int iw_154, .ref i0, .ref y0, .ref z0, .int im, .int n_148, .int cT, .int hT, v24, v25, v26, v27])), (y0, .inl (yc, 360, .inl yf)), (z0, .inl (zc, 120, .inr (.inl gf)))]) [3, 1, 2] (by decide) rfl
      have hFc := va_free (wc := [(h0, .inr (7, [v0, v1, v2, v3, v4, v5, v6, v7, v8, v9, .ref e0, .int ts, .int bg_150, .int en_151, .int so_152, .int va_153, .int iw_154, .ref i0, .ref y0, .ref z0, .int im, .int n_148, .int cT, .int hT, v24, v25, v26, v27])), (y0, .inl (yc, 360, .inl yf)), (z0, .inl (zc, 120, .inr (.inl gf)))]) hD hS hA [3, 1, 2] rfl
      refine va_callv (va_runV (As := [.int r_1, .int n_160, .int 0, .long 0]) (rest := []) ⟨hx, hb, hml, hown, hts⟩ (m_item l dC dI ad h0 r_1 n_160 0 0 v0 v1 v2 v3 v4 v5 v6 v7 v8 v9 (.ref e0) (.int ts) (.int bg_150) (.int en_151) (.int so_152) (.int va_153) (.int iw_154) (.ref i0) y0 z0 im (.int n_148) (.int cT) (.int hT) v24 v25 v26 v27 yc yf zc gf H.size him) (cwV 4 hts g_m_readItem_m_item_247 rfl rfl rfl (by decide +kernel) ⟨(Nat.le_of_ble_eq_true rfl), (Nat.le_of_ble_eq_true rfl)⟩) ⟨preM_blind, va_recv hKc hPc (ci := 7) (q0 := 0) rfl rfl, fun U hU hW => ⟨rfl, preM_at hU hW hPc hKc hDc hev⟩⟩ rfl rfl hl.1 rfl (lv_room (Nat.le_of_ble_eq_true rfl)) dX9_readItem_47 ⟨(Nat.le_of_ble_eq_true rfl), (Nat.le_of_ble_eq_true rfl)⟩) hS (fun q _ h => hFc q h) hFc (fun u t H1 locs ht hvm hw hB hz1 hk1 hS => ?_)
      obtain ⟨im_162, yg_163, gg_164, hq_165, hq_166, hP1, hK1, hD1⟩ := hB
      rw [ht] at hP1
      have hK1 := va_K.moved hvm.symm hK1
      obtain ⟨hP, hD⟩ := va_join (wr := [(i0, .inl (ic, 6, .inr (.inr (.inr (.inr jf))))), (e0, .inl (ec, 120, .inl ef))]) (w1 := [(h0, .inr (7, [v0, v1, v2, v3, v4, v5, v6, v7, v8, v9, .ref e0, .int ts, .int bg_150, .int en_151, .int so_152, .int va_153, .int iw_154, .ref i0, .ref y0, .ref z0, .int im_162, .int n_148, .int cT, .int hT, v24, v25, v26, v27])), (y0, .inl (yc, 360, .inl yg_163)), (z0, .inl (zc, 120, .inr (.inl gg_164)))]) hP hD [3, 1, 2] [0, 4] rfl rfl (by decide) (by decide) hk1 hFc hP1 hD1
      generalize H1 = H at hP hS ⊢
      have hP : va_P (dC, dI) vwCl [(i0, .inl (ic, 6, .inr (.inr (.inr (.inr jf))))), (e0, .inl (ec, 120, .inl ef)), (h0, .inr (7, [v0, v1, v2, v3, v4, v5, v6, v7, v8, v9, .ref e0, .int ts, .int bg_150, .int en_151, .int so_152, .int va_153, .int iw_154, .ref i0, .ref y0, .ref z0, .int im_162, .int n_148, .int cT, .int hT, v24, v25, v26, v27])), (y0, .inl (yc, 360, .inl yg_163)), (z0, .inl (zc, 120, .inr (.inl gg_164)))] H := hP
      have hD : va_D A [(i0, .inl (ic, 6, .inr (.inr (.inr (.inr jf))))), (e0, .inl (ec, 120, .inl ef)), (h0, .inr (7, [v0, v1, v2, v3, v4, v5, v6, v7, v8, v9, .ref e0, .int ts, .int bg_150, .int en_151, .int so_152, .int va_153, .int iw_154, .ref i0, .ref y0, .ref z0, .int im_162, .int n_148, .int cT, .int hT, v24, v25, v26, v27])), (y0, .inl (yc, 360, .inl yg_163)), (z0, .inl (zc, 120, .inr (.inl gg_164)))] := hD
      refine lv_goto (tgt := 186) hx hb dX9_readItem_50 (by decide) ?_
      have hP9 := hP.sub (ws' := [(h0, .inr (7, [v0, v1, v2, v3, v4, v5, v6, v7, v8, v9, .ref e0, .int ts, .int bg_150, .int en_151, .int so_152, .int va_153, .int iw_154, .ref i0, .ref y0, .ref z0, .int im_162, .int n_148, .int cT, .int hT, v24, v25, v26, v27])), (e0, .inl (ec, 120, .inl ef)), (i0, .inl (ic, 6, .inr (.inr (.inr (.inr jf))))), (y0, .inl (yc, 360, .inl yg_163)), (z0, .inl (zc, 120, .inr (.inl gg_164)))]) [2, 1, 0, 3, 4] rfl
      have hD9 := hD.sub (ws' := [(h0, .inr (7, [v0, v1, v2, v3, v4, v5, v6, v7, v8, v9, .ref e0, .int ts, .int bg_150, .int en_151, .int so_152, .int va_153, .int iw_154, .ref i0, .ref y0, .ref z0, .int im_162, .int n_148, .int cT, .int hT, v24, v25, v26, v27])), (e0, .inl (ec, 120, .inl ef)), (i0, .inl (ic, 6, .inr (.inr (.inr (.inr jf))))), (y0, .inl (yc, 360, .inl yg_163)), (z0, .inl (zc, 120, .inr (.inl gg_164)))]) [2, 1, 0, 3, 4] (by decide) rfl
      have hK9 := hK.sub (tys' := [(ec, .int), (ic, .object "java/lang/String"), (yc, .int), (zc, .long)]) [0, 1, 2, 3] rfl
      exact W.vret hx hb hr (fun t ht hW => ⟨⟨(), rfl, trivial, bg_150, en_151, so_152, va_153, iw_154, n_148, cT, hT, im_162, yg_163, gg_164, hq_155, hq_156, hq_157, hq_158, (by first | omega | decide | (simp only [fa_lt, fa_le, fa_eq, and_true, true_and, and_false, false_and, not_true_eq_false, not_false_eq_true, li_0, li_1, li_2, li_3, li_4, li_5, li_6, li_7, li_8, li_9, li_10, li_12, li_15, li_16, li_20, li_30, li_34, li_38, li_40, li_63, li_64, li_65, li_78, li_120, li_1000, li_4000, li_10000, li_11077, li_255, li_65535, li_m1, li_m2, li_m1000000001, li_m1000000002, li_m1000000003, li_m1000000004, li_m1000000005, li_m1000000006, li_m1000000007, or_true, true_or, or_false, false_or, implies_true, true_implies, false_implies] <;> omega)), hq_165, (fun hz => RI_mk hq_166 (Or.inl ⟨by omega, by omega, by omega, by omega, rfl, rfl⟩)), (by first | omega | decide | (simp only [fa_lt, fa_le, fa_eq, and_true, true_and, and_false, false_and, not_true_eq_false, not_false_eq_true, li_0, li_1, li_2, li_3, li_4, li_5, li_6, li_7, li_8, li_9, li_10, li_12, li_15, li_16, li_20, li_30, li_34, li_38, li_40, li_63, li_64, li_65, li_78, li_120, li_1000, li_4000, li_10000, li_11077, li_255, li_65535, li_m1, li_m2, li_m1000000001, li_m1000000002, li_m1000000003, li_m1000000004, li_m1000000005, li_m1000000006, li_m1000000007, or_true, true_or, or_false, false_or, implies_true, true_implies, false_implies] <;> omega)), by rw [ht]; exact hP9, va_K.moved hW.alike hK9, hD9⟩, hS.F ht⟩) hS.2.2 dX9_readItem_186

