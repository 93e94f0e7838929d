theorem dX9_thrown_42 : decode cX9_thrown 42 = .ok (.ireturn, 1) := by decide +kernel
set_option maxRecDepth 20000 in
theorem ggX9_isPlacing_X9_within : GoodIn wsX9_isPlacing wsX9_within := goodIn_r _ [4] (by decide +kernel) (by decide +kernel)
set_option maxRecDepth 20000 in
theorem gX9_isPlacing_X9_within : GoodIn wsX9_isPlacing (va_wsS RX9 75 yX9_within wsX9_within) := goodIn_app (goodIn_of _ (by decide +kernel)) ggX9_isPlacing_X9_within
theorem dX9_isPlacing_0 : decode cX9_isPlacing 0 = .ok (.iload_n 0, 1) := by decide +kernel
theorem dX9_isPlacing_1 : decode cX9_isPlacing 1 = .ok (.sipush 4000, 3) := by decide +kernel
theorem dX9_isPlacing_4 : decode cX9_isPlacing 4 = .ok (.sipush 11077, 3) := by decide +kernel
theorem dX9_isPlacing_7 : decode cX9_isPlacing 7 = .ok (.invokestatic 75, 3) := by decide +kernel
theorem dX9_isPlacing_10 : decode cX9_isPlacing 10 = .ok (.ifCond .eq 26, 3) := by decide +kernel
theorem dX9_isPlacing_13 : decode cX9_isPlacing 13 = .ok (.iload_n 0, 1) := by decide +kernel
theorem dX9_isPlacing_14 : decode cX9_isPlacing 14 = .ok (.sipush 1000, 3) := by decide +kernel
theorem dX9_isPlacing_17 : decode cX9_isPlacing 17 = .ok (.irem, 1) := by decide +kernel
theorem dX9_isPlacing_18 : decode cX9_isPlacing 18 = .ok (.bipush 78, 2) := by decide +kernel
theorem dX9_isPlacing_20 : decode cX9_isPlacing 20 = .ok (.if_icmp .ge 16, 3) := by decide +kernel
theorem dX9_isPlacing_23 : decode cX9_isPlacing 23 = .ok (.iload_n 0, 1) := by decide +kernel
theorem dX9_isPlacing_24 : decode cX9_isPlacing 24 = .ok (.bipush 10, 2) := by decide +kernel
theorem dX9_isPlacing_26 : decode cX9_isPlacing 26 = .ok (.irem, 1) := by decide +kernel
theorem dX9_isPlacing_27 : decode cX9_isPlacing 27 = .ok (.bipush 8, 2) := by decide +kernel
theorem dX9_isPlacing_29 : decode cX9_isPlacing 29 = .ok (.if_icmp .ge 7, 3) := by decide +kernel
theorem dX9_isPlacing_32 : decode cX9_isPlacing 32 = .ok (.iconst 1, 1) := by decide +kernel
theorem dX9_isPlacing_33 : decode cX9_isPlacing 33 = .ok (.goto 4, 3) := by decide +kernel
theorem dX9_isPlacing_36 : decode cX9_isPlacing 36 = .ok (.iconst 0, 1) := by decide +kernel
theorem dX9_isPlacing_37 : decode cX9_isPlacing 37 = .ok (.ireturn, 1) := by decide +kernel
set_option maxRecDepth 20000 in
theorem ggX9_shadowOf_X9_shapeIs : GoodIn wsX9_shadowOf wsX9_shapeIs := goodIn_r _ [5, 6, 28, 29, 30, 31, 32, 33, 34, 35, 36, 37, 38, 39, 40, 41, 42, 43, 44, 45, 46, 47, 48, 49, 50, 51, 52, 53, 54, 55] (by decide +kernel) (by decide +kernel)
set_option maxRecDepth 20000 in
theorem gX9_shadowOf_X9_shapeIs : GoodIn wsX9_shadowOf (wsV RX9 99 RX9 yX9_shapeIs wsX9_shapeIs) := goodIn_app (goodIn_of _ (by decide +kernel)) ggX9_shadowOf_X9_shapeIs
set_option maxRecDepth 20000 in
theorem ggX9_shadowOf_X9_throwsOf : GoodIn wsX9_shadowOf wsX9_throwsOf := goodIn_r _ [9, 10, 11, 4, 12, 13, 14, 15, 16, 17, 18, 19, 20, 21, 22, 23, 24, 25, 26, 27] (by decide +kernel) (by decide +kernel)
set_option maxRecDepth 20000 in
theorem gX9_shadowOf_X9_throwsOf : GoodIn wsX9_shadowOf (va_wsS RX9 122 yX9_throwsOf wsX9_throwsOf) := goodIn_app (goodIn_of _ (by decide +kernel)) ggX9_shadowOf_X9_throwsOf
set_option maxRecDepth 20000 in
theorem ggX9_shadowOf_X9_has : GoodIn wsX9_shadowOf wsX9_has := goodIn_r _ [15, 16, 17, 4, 18] (by decide +kernel) (by decide +kernel)
set_option maxRecDepth 20000 in
theorem gX9_shadowOf_X9_has : GoodIn wsX9_shadowOf (va_wsS RX9 109 yX9_has wsX9_has) := goodIn_app (goodIn_of _ (by decide +kernel)) ggX9_shadowOf_X9_has
theorem dX9_shadowOf_0 : decode cX9_shadowOf 0 = .ok (.iload_n 2, 1) := by decide +kernel
theorem dX9_shadowOf_1 : decode cX9_shadowOf 1 = .ok (.sipush 4000, 3) := by decide +kernel
theorem dX9_shadowOf_4 : decode cX9_shadowOf 4 = .ok (.idiv, 1) := by decide +kernel
theorem dX9_shadowOf_5 : decode cX9_shadowOf 5 = .ok (.istore_n 3, 1) := by decide +kernel
theorem dX9_shadowOf_6 : decode cX9_shadowOf 6 = .ok (.aload_n 0, 1) := by decide +kernel
theorem dX9_shadowOf_7 : decode cX9_shadowOf 7 = .ok (.iload_n 1, 1) := by decide +kernel
theorem dX9_shadowOf_8 : decode cX9_shadowOf 8 = .ok (.iconst 0, 1) := by decide +kernel
theorem dX9_shadowOf_9 : decode cX9_shadowOf 9 = .ok (.invokevirtual 99, 3) := by decide +kernel
theorem dX9_shadowOf_12 : decode cX9_shadowOf 12 = .ok (.aload_n 0, 1) := by decide +kernel
theorem dX9_shadowOf_13 : decode cX9_shadowOf 13 = .ok (.iload_n 1, 1) := by decide +kernel
theorem dX9_shadowOf_14 : decode cX9_shadowOf 14 = .ok (.iconst 1, 1) := by decide +kernel
theorem dX9_shadowOf_15 : decode cX9_shadowOf 15 = .ok (.invokevirtual 99, 3) := by decide +kernel
theorem dX9_shadowOf_18 : decode cX9_shadowOf 18 = .ok (.iload_n 2, 1) := by decide +kernel
theorem dX9_shadowOf_19 : decode cX9_shadowOf 19 = .ok (.sipush 1000, 3) := by decide +kernel
theorem dX9_shadowOf_22 : decode cX9_shadowOf 22 = .ok (.idiv, 1) := by decide +kernel
theorem dX9_shadowOf_23 : decode cX9_shadowOf 23 = .ok (.iconst 4, 1) := by decide +kernel
theorem dX9_shadowOf_24 : decode cX9_shadowOf 24 = .ok (.irem, 1) := by decide +kernel
theorem dX9_shadowOf_25 : decode cX9_shadowOf 25 = .ok (.invokestatic 122, 3) := by decide +kernel
theorem dX9_shadowOf_28 : decode cX9_shadowOf 28 = .ok (.istore 4, 2) := by decide +kernel
theorem dX9_shadowOf_30 : decode cX9_shadowOf 30 = .ok (.iload_n 2, 1) := by decide +kernel
theorem dX9_shadowOf_31 : decode cX9_shadowOf 31 = .ok (.sipush 1000, 3) := by decide +kernel
theorem dX9_shadowOf_34 : decode cX9_shadowOf 34 = .ok (.irem, 1) := by decide +kernel
theorem dX9_shadowOf_35 : decode cX9_shadowOf 35 = .ok (.bipush 10, 2) := by decide +kernel
theorem dX9_shadowOf_37 : decode cX9_shadowOf 37 = .ok (.idiv, 1) := by decide +kernel
theorem dX9_shadowOf_38 : decode cX9_shadowOf 38 = .ok (.istore 5, 2) := by decide +kernel
theorem dX9_shadowOf_40 : decode cX9_shadowOf 40 = .ok (.iload_n 2, 1) := by decide +kernel
theorem dX9_shadowOf_41 : decode cX9_shadowOf 41 = .ok (.bipush 10, 2) := by decide +kernel
theorem dX9_shadowOf_43 : decode cX9_shadowOf 43 = .ok (.irem, 1) := by decide +kernel
theorem dX9_shadowOf_44 : decode cX9_shadowOf 44 = .ok (.istore 6, 2) := by decide +kernel
theorem dX9_shadowOf_46 : decode cX9_shadowOf 46 = .ok (.lconst 0, 1) := by decide +kernel
theorem dX9_shadowOf_47 : decode cX9_shadowOf 47 = .ok (.lstore 7, 2) := by decide +kernel
theorem dX9_shadowOf_49 : decode cX9_shadowOf 49 = .ok (.iconst 0, 1) := by decide +kernel
theorem dX9_shadowOf_50 : decode cX9_shadowOf 50 = .ok (.istore 9, 2) := by decide +kernel
theorem dX9_shadowOf_52 : decode cX9_shadowOf 52 = .ok (.iload 9, 2) := by decide +kernel
theorem dX9_shadowOf_54 : decode cX9_shadowOf 54 = .ok (.iconst 4, 1) := by decide +kernel
theorem dX9_shadowOf_55 : decode cX9_shadowOf 55 = .ok (.iload_n 3, 1) := by decide +kernel
theorem dX9_shadowOf_56 : decode cX9_shadowOf 56 = .ok (.imul, 1) := by decide +kernel
theorem dX9_shadowOf_57 : decode cX9_shadowOf 57 = .ok (.if_icmp .ge 87, 3) := by decide +kernel
theorem dX9_shadowOf_60 : decode cX9_shadowOf 60 = .ok (.iload 5, 2) := by decide +kernel
theorem dX9_shadowOf_62 : decode cX9_shadowOf 62 = .ok (.iload 9, 2) := by decide +kernel
theorem dX9_shadowOf_64 : decode cX9_shadowOf 64 = .ok (.iadd, 1) := by decide +kernel
theorem dX9_shadowOf_65 : decode cX9_shadowOf 65 = .ok (.bipush 8, 2) := by decide +kernel
theorem dX9_shadowOf_67 : decode cX9_shadowOf 67 = .ok (.if_icmp .ge 77, 3) := by decide +kernel
theorem dX9_shadowOf_70 : decode cX9_shadowOf 70 = .ok (.iconst 0, 1) := by decide +kernel
theorem dX9_shadowOf_71 : decode cX9_shadowOf 71 = .ok (.istore 10, 2) := by decide +kernel
theorem dX9_shadowOf_73 : decode cX9_shadowOf 73 = .ok (.iload 10, 2) := by decide +kernel
theorem dX9_shadowOf_75 : decode cX9_shadowOf 75 = .ok (.iconst 4, 1) := by decide +kernel
theorem dX9_shadowOf_76 : decode cX9_shadowOf 76 = .ok (.iload_n 3, 1) := by decide +kernel
theorem dX9_shadowOf_77 : decode cX9_shadowOf 77 = .ok (.imul, 1) := by decide +kernel
theorem dX9_shadowOf_78 : decode cX9_shadowOf 78 = .ok (.if_icmp .ge 60, 3) := by decide +kernel
theorem dX9_shadowOf_81 : decode cX9_shadowOf 81 = .ok (.iload 6, 2) := by decide +kernel
theorem dX9_shadowOf_83 : decode cX9_shadowOf 83 = .ok (.iload 10, 2) := by decide +kernel
theorem dX9_shadowOf_85 : decode cX9_shadowOf 85 = .ok (.iadd, 1) := by decide +kernel
theorem dX9_shadowOf_86 : decode cX9_shadowOf 86 = .ok (.bipush 8, 2) := by decide +kernel
theorem dX9_shadowOf_88 : decode cX9_shadowOf 88 = .ok (.if_icmp .ge 50, 3) := by decide +kernel
theorem dX9_shadowOf_91 : decode cX9_shadowOf 91 = .ok (.lload 7, 2) := by decide +kernel
theorem dX9_shadowOf_93 : decode cX9_shadowOf 93 = .ok (.iload 4, 2) := by decide +kernel
theorem dX9_shadowOf_95 : decode cX9_shadowOf 95 = .ok (.iload 9, 2) := by decide +kernel
theorem dX9_shadowOf_97 : decode cX9_shadowOf 97 = .ok (.iload_n 3, 1) := by decide +kernel
theorem dX9_shadowOf_98 : decode cX9_shadowOf 98 = .ok (.idiv, 1) := by decide +kernel
theorem dX9_shadowOf_99 : decode cX9_shadowOf 99 = .ok (.iload 10, 2) := by decide +kernel
theorem dX9_shadowOf_101 : decode cX9_shadowOf 101 = .ok (.iload_n 3, 1) := by decide +kernel
theorem dX9_shadowOf_102 : decode cX9_shadowOf 102 = .ok (.idiv, 1) := by decide +kernel
theorem dX9_shadowOf_103 : decode cX9_shadowOf 103 = .ok (.invokestatic 109, 3) := by decide +kernel
theorem dX9_shadowOf_106 : decode cX9_shadowOf 106 = .ok (.ifCond .eq 22, 3) := by decide +kernel
theorem dX9_shadowOf_109 : decode cX9_shadowOf 109 = .ok (.lconst 1, 1) := by decide +kernel
theorem dX9_shadowOf_110 : decode cX9_shadowOf 110 = .ok (.bipush 8, 2) := by decide +kernel
theorem dX9_shadowOf_112 : decode cX9_shadowOf 112 = .ok (.iload 5, 2) := by decide +kernel
theorem dX9_shadowOf_114 : decode cX9_shadowOf 114 = .ok (.iload 9, 2) := by decide +kernel
theorem dX9_shadowOf_116 : decode cX9_shadowOf 116 = .ok (.iadd, 1) := by decide +kernel
theorem dX9_shadowOf_117 : decode cX9_shadowOf 117 = .ok (.imul, 1) := by decide +kernel
theorem dX9_shadowOf_118 : decode cX9_shadowOf 118 = .ok (.iload 6, 2) := by decide +kernel
theorem dX9_shadowOf_120 : decode cX9_shadowOf 120 = .ok (.iadd, 1) := by decide +kernel
theorem dX9_shadowOf_121 : decode cX9_shadowOf 121 = .ok (.iload 10, 2) := by decide +kernel
theorem dX9_shadowOf_123 : decode cX9_shadowOf 123 = .ok (.iadd, 1) := by decide +kernel
theorem dX9_shadowOf_124 : decode cX9_shadowOf 124 = .ok (.lshl, 1) := by decide +kernel
theorem dX9_shadowOf_125 : decode cX9_shadowOf 125 = .ok (.goto 4, 3) := by decide +kernel
theorem dX9_shadowOf_128 : decode cX9_shadowOf 128 = .ok (.lconst 0, 1) := by decide +kernel
theorem dX9_shadowOf_129 : decode cX9_shadowOf 129 = .ok (.lor, 1) := by decide +kernel
theorem dX9_shadowOf_130 : decode cX9_shadowOf 130 = .ok (.lstore 7, 2) := by decide +kernel
theorem dX9_shadowOf_132 : decode cX9_shadowOf 132 = .ok (.iinc 10 1, 3) := by decide +kernel
theorem dX9_shadowOf_135 : decode cX9_shadowOf 135 = .ok (.goto (-62), 3) := by decide +kernel
theorem dX9_shadowOf_138 : decode cX9_shadowOf 138 = .ok (.iinc 9 1, 3) := by decide +kernel
theorem dX9_shadowOf_141 : decode cX9_shadowOf 141 = .ok (.goto (-89), 3) := by decide +kernel
theorem dX9_shadowOf_144 : decode cX9_shadowOf 144 = .ok (.lload 7, 2) := by decide +kernel
theorem dX9_shadowOf_146 : decode cX9_shadowOf 146 = .ok (.lreturn, 1) := by decide +kernel
set_option maxRecDepth 20000 in
theorem ggX9_shadow_X9_isShape : GoodIn wsX9_shadow wsX9_isShape := goodIn_r _ [6, 7, 8, 9, 5, 10, 45, 46, 47, 48, 49, 50, 51, 52, 53, 54, 55, 56, 57, 58, 59, 60, 61, 62, 63, 64, 65, 66, 67, 68, 69, 70, 71, 72] (by decide +kernel) (by decide +kernel)
set_option maxRecDepth 20000 in
theorem gX9_shadow_X9_isShape : GoodIn wsX9_shadow (wsV RX9 93 RX9 yX9_isShape wsX9_isShape) := goodIn_app (goodIn_of _ (by decide +kernel)) ggX9_shadow_X9_isShape
set_option maxRecDepth 20000 in
theorem ggX9_shadow_X9_isPlacing : GoodIn wsX9_shadow wsX9_isPlacing := goodIn_r _ [13, 8, 9, 5, 10] (by decide +kernel) (by decide +kernel)
set_option maxRecDepth 20000 in
theorem gX9_shadow_X9_isPlacing : GoodIn wsX9_shadow (va_wsS RX9 126 yX9_isPlacing wsX9_isPlacing) := goodIn_app (goodIn_of _ (by decide +kernel)) ggX9_shadow_X9_isPlacing
set_option maxRecDepth 20000 in
theorem ggX9_shadow_X9_shadowOf : GoodIn wsX9_shadow wsX9_shadowOf := goodIn_r _ [17, 18, 19, 20, 5, 21, 7, 22, 23, 24, 25, 26, 27, 28, 29, 30, 8, 9, 10, 31, 32, 33, 34, 35, 36, 37, 38, 39, 45, 46, 47, 48, 49, 50, 51, 52, 53, 54, 55, 56, 57, 58, 59, 60, 61, 62, 63, 64, 65, 66, 67, 68, 69, 70, 71, 72] (by decide +kernel) (by decide +kernel)
set_option maxRecDepth 20000 in
theorem gX9_shadow_X9_shadowOf : GoodIn wsX9_shadow (wsV RX9 129 RX9 yX9_shadowOf wsX9_shadowOf) := goodIn_app (goodIn_of _ (by decide +kernel)) ggX9_shadow_X9_shadowOf
set_option maxRecDepth 20000 in
theorem ggX9_shadow_X9_finding : GoodIn wsX9_shadow wsX9_finding := goodIn_r _ [43, 44, 1, 45, 46, 47, 48, 49, 50, 51, 52, 53, 54, 55, 56, 57, 58, 59, 60, 61, 62, 63, 64, 65, 66, 67, 68, 69, 70, 71, 72] (by decide +kernel) (by decide +kernel)
set_option maxRecDepth 20000 in
theorem gX9_shadow_X9_finding : GoodIn wsX9_shadow (wsV RX9 84 RX9 yX9_finding wsX9_finding) := goodIn_app (goodIn_of _ (by decide +kernel)) ggX9_shadow_X9_finding
theorem dX9_shadow_0 : decode cX9_shadow 0 = .ok (.aload_n 0, 1) := by decide +kernel
theorem dX9_shadow_1 : decode cX9_shadow 1 = .ok (.iload_n 1, 1) := by decide +kernel
theorem dX9_shadow_2 : decode cX9_shadow 2 = .ok (.invokevirtual 93, 3) := by decide +kernel
theorem dX9_shadow_5 : decode cX9_shadow 5 = .ok (.ifCond .eq 19, 3) := by decide +kernel
theorem dX9_shadow_8 : decode cX9_shadow 8 = .ok (.iload_n 2, 1) := by decide +kernel
theorem dX9_shadow_9 : decode cX9_shadow 9 = .ok (.invokestatic 126, 3) := by decide +kernel
theorem dX9_shadow_12 : decode cX9_shadow 12 = .ok (.ifCond .eq 12, 3) := by decide +kernel
theorem dX9_shadow_15 : decode cX9_shadow 15 = .ok (.aload_n 0, 1) := by decide +kernel
theorem dX9_shadow_16 : decode cX9_shadow 16 = .ok (.iload_n 1, 1) := by decide +kernel
theorem dX9_shadow_17 : decode cX9_shadow 17 = .ok (.iload_n 2, 1) := by decide +kernel
theorem dX9_shadow_18 : decode cX9_shadow 18 = .ok (.invokevirtual 129, 3) := by decide +kernel
theorem dX9_shadow_21 : decode cX9_shadow 21 = .ok (.goto 10, 3) := by decide +kernel
theorem dX9_shadow_24 : decode cX9_shadow 24 = .ok (.aload_n 0, 1) := by decide +kernel
theorem dX9_shadow_25 : decode cX9_shadow 25 = .ok (.ldc 74, 2) := by decide +kernel
theorem dX9_shadow_27 : decode cX9_shadow 27 = .ok (.invokevirtual 84, 3) := by decide +kernel
theorem dX9_shadow_30 : decode cX9_shadow 30 = .ok (.i2l, 1) := by decide +kernel
theorem dX9_shadow_31 : decode cX9_shadow 31 = .ok (.lreturn, 1) := by decide +kernel
theorem dX9_dropAll_0 : decode cX9_dropAll 0 = .ok (.iconst 0, 1) := by decide +kernel
theorem dX9_dropAll_1 : decode cX9_dropAll 1 = .ok (.istore_n 1, 1) := by decide +kernel
theorem dX9_dropAll_2 : decode cX9_dropAll 2 = .ok (.iload_n 1, 1) := by decide +kernel
theorem dX9_dropAll_3 : decode cX9_dropAll 3 = .ok (.iconst 4, 1) := by decide +kernel
theorem dX9_dropAll_4 : decode cX9_dropAll 4 = .ok (.if_icmp .ge 29, 3) := by decide +kernel
theorem dX9_dropAll_7 : decode cX9_dropAll 7 = .ok (.aload_n 0, 1) := by decide +kernel
theorem dX9_dropAll_8 : decode cX9_dropAll 8 = .ok (.getfield 9, 3) := by decide +kernel
theorem dX9_dropAll_11 : decode cX9_dropAll 11 = .ok (.bipush 30, 2) := by decide +kernel
theorem dX9_dropAll_13 : decode cX9_dropAll 13 = .ok (.iload_n 1, 1) := by decide +kernel
theorem dX9_dropAll_14 : decode cX9_dropAll 14 = .ok (.iadd, 1) := by decide +kernel
theorem dX9_dropAll_15 : decode cX9_dropAll 15 = .ok (.iconst (-1), 1) := by decide +kernel
theorem dX9_dropAll_16 : decode cX9_dropAll 16 = .ok (.iastore, 1) := by decide +kernel
theorem dX9_dropAll_17 : decode cX9_dropAll 17 = .ok (.aload_n 0, 1) := by decide +kernel
theorem dX9_dropAll_18 : decode cX9_dropAll 18 = .ok (.getfield 9, 3) := by decide +kernel
theorem dX9_dropAll_21 : decode cX9_dropAll 21 = .ok (.bipush 34, 2) := by decide +kernel
theorem dX9_dropAll_23 : decode cX9_dropAll 23 = .ok (.iload_n 1, 1) := by decide +kernel
theorem dX9_dropAll_24 : decode cX9_dropAll 24 = .ok (.iadd, 1) := by decide +kernel
theorem dX9_dropAll_25 : decode cX9_dropAll 25 = .ok (.iconst (-1), 1) := by decide +kernel
theorem dX9_dropAll_26 : decode cX9_dropAll 26 = .ok (.iastore, 1) := by decide +kernel
theorem dX9_dropAll_27 : decode cX9_dropAll 27 = .ok (.iinc 1 1, 3) := by decide +kernel
theorem dX9_dropAll_30 : decode cX9_dropAll 30 = .ok (.goto (-28), 3) := by decide +kernel
theorem dX9_dropAll_33 : decode cX9_dropAll 33 = .ok (.return_, 1) := by decide +kernel
set_option maxRecDepth 20000 in
theorem ggX9_holds_X9_holdOf : GoodIn wsX9_holds wsX9_holdOf := goodIn_r _ [6, 1, 7, 8, 9, 10, 11, 12, 13, 14, 15, 16, 17, 18, 19, 20, 21, 22, 23, 24, 25, 26, 27, 28, 29, 30, 31, 32, 33, 34] (by decide +kernel) (by decide +kernel)
set_option maxRecDepth 20000 in
theorem gX9_holds_X9_holdOf : GoodIn wsX9_holds (wsV RX9 96 RX9 yX9_holdOf wsX9_holdOf) := goodIn_app (goodIn_of _ (by decide +kernel)) ggX9_holds_X9_holdOf
theorem dX9_holds_0 : decode cX9_holds 0 = .ok (.aload_n 0, 1) := by decide +kernel
theorem dX9_holds_1 : decode cX9_holds 1 = .ok (.iconst (-1), 1) := by decide +kernel
theorem dX9_holds_2 : decode cX9_holds 2 = .ok (.invokevirtual 96, 3) := by decide +kernel
theorem dX9_holds_5 : decode cX9_holds 5 = .ok (.istore_n 3, 1) := by decide +kernel
theorem dX9_holds_6 : decode cX9_holds 6 = .ok (.iconst 3, 1) := by decide +kernel
theorem dX9_holds_7 : decode cX9_holds 7 = .ok (.istore 4, 2) := by decide +kernel
theorem dX9_holds_9 : decode cX9_holds 9 = .ok (.iload 4, 2) := by decide +kernel
theorem dX9_holds_11 : decode cX9_holds 11 = .ok (.ifCond .lt 29, 3) := by decide +kernel
theorem dX9_holds_14 : decode cX9_holds 14 = .ok (.aload_n 0, 1) := by decide +kernel
theorem dX9_holds_15 : decode cX9_holds 15 = .ok (.getfield 9, 3) := by decide +kernel
theorem dX9_holds_18 : decode cX9_holds 18 = .ok (.bipush 30, 2) := by decide +kernel
theorem dX9_holds_20 : decode cX9_holds 20 = .ok (.iload 4, 2) := by decide +kernel
theorem dX9_holds_22 : decode cX9_holds 22 = .ok (.iadd, 1) := by decide +kernel
theorem dX9_holds_23 : decode cX9_holds 23 = .ok (.iaload, 1) := by decide +kernel
theorem dX9_holds_24 : decode cX9_holds 24 = .ok (.ifCond .ge 8, 3) := by decide +kernel
theorem dX9_holds_27 : decode cX9_holds 27 = .ok (.iload 4, 2) := by decide +kernel
theorem dX9_holds_29 : decode cX9_holds 29 = .ok (.goto 4, 3) := by decide +kernel
theorem dX9_holds_32 : decode cX9_holds 32 = .ok (.iload_n 3, 1) := by decide +kernel
theorem dX9_holds_33 : decode cX9_holds 33 = .ok (.istore_n 3, 1) := by decide +kernel
theorem dX9_holds_34 : decode cX9_holds 34 = .ok (.iinc 4 (-1), 3) := by decide +kernel
theorem dX9_holds_37 : decode cX9_holds 37 = .ok (.goto (-28), 3) := by decide +kernel
theorem dX9_holds_40 : decode cX9_holds 40 = .ok (.aload_n 0, 1) := by decide +kernel
theorem dX9_holds_41 : decode cX9_holds 41 = .ok (.getfield 9, 3) := by decide +kernel
theorem dX9_holds_44 : decode cX9_holds 44 = .ok (.bipush 30, 2) := by decide +kernel
theorem dX9_holds_46 : decode cX9_holds 46 = .ok (.iload_n 3, 1) := by decide +kernel
theorem dX9_holds_47 : decode cX9_holds 47 = .ok (.iadd, 1) := by decide +kernel
theorem dX9_holds_48 : decode cX9_holds 48 = .ok (.iload_n 1, 1) := by decide +kernel
theorem dX9_holds_49 : decode cX9_holds 49 = .ok (.iastore, 1) := by decide +kernel
theorem dX9_holds_50 : decode cX9_holds 50 = .ok (.aload_n 0, 1) := by decide +kernel
theorem dX9_holds_51 : decode cX9_holds 51 = .ok (.getfield 9, 3) := by decide +kernel
theorem dX9_holds_54 : decode cX9_holds 54 = .ok (.bipush 34, 2) := by decide +kernel
theorem dX9_holds_56 : decode cX9_holds 56 = .ok (.iload_n 3, 1) := by decide +kernel
theorem dX9_holds_57 : decode cX9_holds 57 = .ok (.iadd, 1) := by decide +kernel
theorem dX9_holds_58 : decode cX9_holds 58 = .ok (.iload_n 2, 1) := by decide +kernel
theorem dX9_holds_59 : decode cX9_holds 59 = .ok (.iastore, 1) := by decide +kernel
theorem dX9_holds_60 : decode cX9_holds 60 = .ok (.iload_n 3, 1) := by decide +kernel
theorem dX9_holds_61 : decode cX9_holds 61 = .ok (.ireturn, 1) := by decide +kernel
set_option maxRecDepth 20000 in
theorem ggX9_hold_X9_isShape : GoodIn wsX9_hold wsX9_isShape := goodIn_r _ [8, 9, 10, 11, 7, 12, 29, 30, 31, 32, 33, 34, 35, 36, 37, 38, 39, 40, 41, 42, 43, 44, 45, 46, 47, 48, 49, 50, 51, 52, 53, 54, 55, 56] (by decide +kernel) (by decide +kernel)
set_option maxRecDepth 20000 in
theorem gX9_hold_X9_isShape : GoodIn wsX9_hold (wsV RX9 93 RX9 yX9_isShape wsX9_isShape) := goodIn_app (goodIn_of _ (by decide +kernel)) ggX9_hold_X9_isShape
set_option maxRecDepth 20000 in
theorem ggX9_hold_X9_isPlacing : GoodIn wsX9_hold wsX9_isPlacing := goodIn_r _ [15, 10, 11, 7, 12] (by decide +kernel) (by decide +kernel)
set_option maxRecDepth 20000 in
theorem gX9_hold_X9_isPlacing : GoodIn wsX9_hold (va_wsS RX9 126 yX9_isPlacing wsX9_isPlacing) := goodIn_app (goodIn_of _ (by decide +kernel)) ggX9_hold_X9_isPlacing
set_option maxRecDepth 20000 in
theorem ggX9_hold_X9_finding : GoodIn wsX9_hold wsX9_finding := goodIn_r _ [19, 20, 1, 29, 30, 31, 32, 33, 34, 35, 36, 37, 38, 39, 40, 41, 42, 43, 44, 45, 46, 47, 48, 49, 50, 51, 52, 53, 54, 55, 56] (by decide +kernel) (by decide +kernel)
set_option maxRecDepth 20000 in
theorem gX9_hold_X9_finding : GoodIn wsX9_hold (wsV RX9 84 RX9 yX9_finding wsX9_finding) := goodIn_app (goodIn_of _ (by decide +kernel)) ggX9_hold_X9_finding
set_option maxRecDepth 20000 in
theorem ggX9_hold_X9_holdOf : GoodIn wsX9_hold wsX9_holdOf := goodIn_r _ [24, 9, 29, 30, 31, 32, 33, 34, 35, 36, 37, 38, 39, 40, 41, 42, 43, 44, 45, 46, 47, 48, 49, 50, 51, 52, 53, 54, 55, 56] (by decide +kernel) (by decide +kernel)
set_option maxRecDepth 20000 in
theorem gX9_hold_X9_holdOf : GoodIn wsX9_hold (wsV RX9 96 RX9 yX9_holdOf wsX9_holdOf) := goodIn_app (goodIn_of _ (by decide +kernel)) ggX9_hold_X9_holdOf
set_option maxRecDepth 20000 in
theorem ggX9_hold_X9_holds : GoodIn wsX9_hold wsX9_holds := goodIn_r _ [28, 9, 21, 22, 23, 7, 24, 29, 30, 31, 32, 33, 34, 35, 36, 37, 38, 39, 40, 41, 42, 43, 44, 45, 46, 47, 48, 49, 50, 51, 52, 53, 54, 55, 56] (by decide +kernel) (by decide +kernel)
set_option maxRecDepth 20000 in
theorem gX9_hold_X9_holds : GoodIn wsX9_hold (wsV RX9 134 RX9 yX9_holds wsX9_holds) := goodIn_app (goodIn_of _ (by decide +kernel)) ggX9_hold_X9_holds
theorem dX9_hold_0 : decode cX9_hold 0 = .ok (.aload_n 0, 1) := by decide +kernel
theorem dX9_hold_1 : decode cX9_hold 1 = .ok (.iload_n 1, 1) := by decide +kernel
theorem dX9_hold_2 : decode cX9_hold 2 = .ok (.invokevirtual 93, 3) := by decide +kernel
theorem dX9_hold_5 : decode cX9_hold 5 = .ok (.ifCond .eq 10, 3) := by decide +kernel
theorem dX9_hold_8 : decode cX9_hold 8 = .ok (.iload_n 2, 1) := by decide +kernel
theorem dX9_hold_9 : decode cX9_hold 9 = .ok (.invokestatic 126, 3) := by decide +kernel
theorem dX9_hold_12 : decode cX9_hold 12 = .ok (.ifCond .ne 10, 3) := by decide +kernel
theorem dX9_hold_15 : decode cX9_hold 15 = .ok (.aload_n 0, 1) := by decide +kernel
theorem dX9_hold_16 : decode cX9_hold 16 = .ok (.ldc 74, 2) := by decide +kernel
theorem dX9_hold_18 : decode cX9_hold 18 = .ok (.invokevirtual 84, 3) := by decide +kernel
theorem dX9_hold_21 : decode cX9_hold 21 = .ok (.ireturn, 1) := by decide +kernel
theorem dX9_hold_22 : decode cX9_hold 22 = .ok (.aload_n 0, 1) := by decide +kernel
theorem dX9_hold_23 : decode cX9_hold 23 = .ok (.iload_n 1, 1) := by decide +kernel
theorem dX9_hold_24 : decode cX9_hold 24 = .ok (.invokevirtual 96, 3) := by decide +kernel
theorem dX9_hold_27 : decode cX9_hold 27 = .ok (.ifCond .lt 10, 3) := by decide +kernel
theorem dX9_hold_30 : decode cX9_hold 30 = .ok (.aload_n 0, 1) := by decide +kernel
theorem dX9_hold_31 : decode cX9_hold 31 = .ok (.ldc 133, 2) := by decide +kernel
theorem dX9_hold_33 : decode cX9_hold 33 = .ok (.invokevirtual 84, 3) := by decide +kernel
theorem dX9_hold_36 : decode cX9_hold 36 = .ok (.ireturn, 1) := by decide +kernel
theorem dX9_hold_37 : decode cX9_hold 37 = .ok (.aload_n 0, 1) := by decide +kernel
theorem dX9_hold_38 : decode cX9_hold 38 = .ok (.iconst (-1), 1) := by decide +kernel
theorem dX9_hold_39 : decode cX9_hold 39 = .ok (.invokevirtual 96, 3) := by decide +kernel
theorem dX9_hold_42 : decode cX9_hold 42 = .ok (.ifCond .ge 12, 3) := by decide +kernel
theorem dX9_hold_45 : decode cX9_hold 45 = .ok (.aload_n 0, 1) := by decide +kernel
theorem dX9_hold_46 : decode cX9_hold 46 = .ok (.ldc 88, 2) := by decide +kernel
theorem dX9_hold_48 : decode cX9_hold 48 = .ok (.invokevirtual 84, 3) := by decide +kernel
theorem dX9_hold_51 : decode cX9_hold 51 = .ok (.goto 9, 3) := by decide +kernel
theorem dX9_hold_54 : decode cX9_hold 54 = .ok (.aload_n 0, 1) := by decide +kernel
theorem dX9_hold_55 : decode cX9_hold 55 = .ok (.iload_n 1, 1) := by decide +kernel
theorem dX9_hold_56 : decode cX9_hold 56 = .ok (.iload_n 2, 1) := by decide +kernel
theorem dX9_hold_57 : decode cX9_hold 57 = .ok (.invokevirtual 134, 3) := by decide +kernel
theorem dX9_hold_60 : decode cX9_hold 60 = .ok (.ireturn, 1) := by decide +kernel
set_option maxRecDepth 20000 in
theorem ggX9_move_X9_isShape : GoodIn wsX9_move wsX9_isShape := goodIn_r _ [7, 8, 9, 10, 6, 11, 28, 29, 30, 31, 32, 33, 34, 35, 36, 37, 38, 39, 40, 41, 42, 43, 44, 45, 46, 47, 48, 49, 50, 51, 52, 53, 54, 55] (by decide +kernel) (by decide +kernel)
set_option maxRecDepth 20000 in
theorem gX9_move_X9_isShape : GoodIn wsX9_move (wsV RX9 93 RX9 yX9_isShape wsX9_isShape) := goodIn_app (goodIn_of _ (by decide +kernel)) ggX9_move_X9_isShape
set_option maxRecDepth 20000 in
theorem ggX9_move_X9_isPlacing : GoodIn wsX9_move wsX9_isPlacing := goodIn_r _ [14, 9, 10, 6, 11] (by decide +kernel) (by decide +kernel)
set_option maxRecDepth 20000 in
theorem gX9_move_X9_isPlacing : GoodIn wsX9_move (va_wsS RX9 126 yX9_isPlacing wsX9_isPlacing) := goodIn_app (goodIn_of _ (by decide +kernel)) ggX9_move_X9_isPlacing
set_option maxRecDepth 20000 in
theorem ggX9_move_X9_finding : GoodIn wsX9_move wsX9_finding := goodIn_r _ [18, 19, 1, 28, 29, 30, 31, 32, 33, 34, 35, 36, 37, 38, 39, 40, 41, 42, 43, 44, 45, 46, 47, 48, 49, 50, 51, 52, 53, 54, 55] (by decide +kernel) (by decide +kernel)
set_option maxRecDepth 20000 in
theorem gX9_move_X9_finding : GoodIn wsX9_move (wsV RX9 84 RX9 yX9_finding wsX9_finding) := goodIn_app (goodIn_of _ (by decide +kernel)) ggX9_move_X9_finding
set_option maxRecDepth 20000 in
theorem ggX9_move_X9_holdOf : GoodIn wsX9_move wsX9_holdOf := goodIn_r _ [23, 8, 28, 29, 30, 31, 32, 33, 34, 35, 36, 37, 38, 39, 40, 41, 42, 43, 44, 45, 46, 47, 48, 49, 50, 51, 52, 53, 54, 55] (by decide +kernel) (by decide +kernel)
set_option maxRecDepth 20000 in
theorem gX9_move_X9_holdOf : GoodIn wsX9_move (wsV RX9 96 RX9 yX9_holdOf wsX9_holdOf) := goodIn_app (goodIn_of _ (by decide +kernel)) ggX9_move_X9_holdOf
set_option maxRecDepth 20000 in
theorem ggX9_move_X9_putIn : GoodIn wsX9_move wsX9_putIn := goodIn_r _ [27, 8, 28, 29, 30, 31, 32, 33, 34, 35, 36, 37, 38, 39, 40, 41, 42, 43, 44, 45, 46, 47, 48, 49, 50, 51, 52, 53, 54, 55] (by decide +kernel) (by decide +kernel)
set_option maxRecDepth 20000 in
theorem gX9_move_X9_putIn : GoodIn wsX9_move (wsV RX9 102 RX9 yX9_putIn wsX9_putIn) := goodIn_app (goodIn_of _ (by decide +kernel)) ggX9_move_X9_putIn
theorem dX9_move_0 : decode cX9_move 0 = .ok (.aload_n 0, 1) := by decide +kernel
theorem dX9_move_1 : decode cX9_move 1 = .ok (.iload_n 1, 1) := by decide +kernel
theorem dX9_move_2 : decode cX9_move 2 = .ok (.invokevirtual 93, 3) := by decide +kernel
theorem dX9_move_5 : decode cX9_move 5 = .ok (.ifCond .eq 10, 3) := by decide +kernel
theorem dX9_move_8 : decode cX9_move 8 = .ok (.iload_n 2, 1) := by decide +kernel
theorem dX9_move_9 : decode cX9_move 9 = .ok (.invokestatic 126, 3) := by decide +kernel
theorem dX9_move_12 : decode cX9_move 12 = .ok (.ifCond .ne 10, 3) := by decide +kernel
theorem dX9_move_15 : decode cX9_move 15 = .ok (.aload_n 0, 1) := by decide +kernel
theorem dX9_move_16 : decode cX9_move 16 = .ok (.ldc 74, 2) := by decide +kernel
theorem dX9_move_18 : decode cX9_move 18 = .ok (.invokevirtual 84, 3) := by decide +kernel
theorem dX9_move_21 : decode cX9_move 21 = .ok (.ireturn, 1) := by decide +kernel
theorem dX9_move_22 : decode cX9_move 22 = .ok (.aload_n 0, 1) := by decide +kernel
theorem dX9_move_23 : decode cX9_move 23 = .ok (.iload_n 1, 1) := by decide +kernel
theorem dX9_move_24 : decode cX9_move 24 = .ok (.invokevirtual 96, 3) := by decide +kernel
theorem dX9_move_27 : decode cX9_move 27 = .ok (.istore_n 3, 1) := by decide +kernel
theorem dX9_move_28 : decode cX9_move 28 = .ok (.iload_n 3, 1) := by decide +kernel
theorem dX9_move_29 : decode cX9_move 29 = .ok (.ifCond .ge 12, 3) := by decide +kernel
theorem dX9_move_32 : decode cX9_move 32 = .ok (.aload_n 0, 1) := by decide +kernel
theorem dX9_move_33 : decode cX9_move 33 = .ok (.ldc 133, 2) := by decide +kernel
theorem dX9_move_35 : decode cX9_move 35 = .ok (.invokevirtual 84, 3) := by decide +kernel
theorem dX9_move_38 : decode cX9_move 38 = .ok (.goto 12, 3) := by decide +kernel
theorem dX9_move_41 : decode cX9_move 41 = .ok (.aload_n 0, 1) := by decide +kernel
theorem dX9_move_42 : decode cX9_move 42 = .ok (.bipush 34, 2) := by decide +kernel
theorem dX9_move_44 : decode cX9_move 44 = .ok (.iload_n 3, 1) := by decide +kernel
theorem dX9_move_45 : decode cX9_move 45 = .ok (.iadd, 1) := by decide +kernel
theorem dX9_move_46 : decode cX9_move 46 = .ok (.iload_n 2, 1) := by decide +kernel
theorem dX9_move_47 : decode cX9_move 47 = .ok (.invokevirtual 102, 3) := by decide +kernel
theorem dX9_move_50 : decode cX9_move 50 = .ok (.ireturn, 1) := by decide +kernel
set_option maxRecDepth 20000 in
theorem ggX9_drop_X9_isShape : GoodIn wsX9_drop wsX9_isShape := goodIn_r _ [8, 3, 9, 10, 7, 11, 21, 22, 23, 24, 25, 26, 27, 28, 29, 30, 31, 32, 33, 34, 35, 36, 37, 38, 39, 40, 41, 42, 43, 44, 45, 46, 47, 48] (by decide +kernel) (by decide +kernel)
set_option maxRecDepth 20000 in
theorem gX9_drop_X9_isShape : GoodIn wsX9_drop (wsV RX9 93 RX9 yX9_isShape wsX9_isShape) := goodIn_app (goodIn_of _ (by decide +kernel)) ggX9_drop_X9_isShape
set_option maxRecDepth 20000 in
theorem ggX9_drop_X9_finding : GoodIn wsX9_drop wsX9_finding := goodIn_r _ [15, 16, 1, 21, 22, 23, 24, 25, 26, 27, 28, 29, 30, 31, 32, 33, 34, 35, 36, 37, 38, 39, 40, 41, 42, 43, 44, 45, 46, 47, 48] (by decide +kernel) (by decide +kernel)
set_option maxRecDepth 20000 in
theorem gX9_drop_X9_finding : GoodIn wsX9_drop (wsV RX9 84 RX9 yX9_finding wsX9_finding) := goodIn_app (goodIn_of _ (by decide +kernel)) ggX9_drop_X9_finding
set_option maxRecDepth 20000 in
theorem ggX9_drop_X9_holdOf : GoodIn wsX9_drop wsX9_holdOf := goodIn_r _ [20, 3, 21, 22, 23, 24, 25, 26, 27, 28, 29, 30, 31, 32, 33, 34, 35, 36, 37, 38, 39, 40, 41, 42, 43, 44, 45, 46, 47, 48] (by decide +kernel) (by decide +kernel)
set_option maxRecDepth 20000 in
theorem gX9_drop_X9_holdOf : GoodIn wsX9_drop (wsV RX9 96 RX9 yX9_holdOf wsX9_holdOf) := goodIn_app (goodIn_of _ (by decide +kernel)) ggX9_drop_X9_holdOf
theorem dX9_drop_0 : decode cX9_drop 0 = .ok (.aload_n 0, 1) := by decide +kernel
theorem dX9_drop_1 : decode cX9_drop 1 = .ok (.iload_n 1, 1) := by decide +kernel
theorem dX9_drop_2 : decode cX9_drop 2 = .ok (.invokevirtual 93, 3) := by decide +kernel
theorem dX9_drop_5 : decode cX9_drop 5 = .ok (.ifCond .ne 10, 3) := by decide +kernel
theorem dX9_drop_8 : decode cX9_drop 8 = .ok (.aload_n 0, 1) := by decide +kernel
theorem dX9_drop_9 : decode cX9_drop 9 = .ok (.ldc 74, 2) := by decide +kernel
theorem dX9_drop_11 : decode cX9_drop 11 = .ok (.invokevirtual 84, 3) := by decide +kernel
theorem dX9_drop_14 : decode cX9_drop 14 = .ok (.ireturn, 1) := by decide +kernel
theorem dX9_drop_15 : decode cX9_drop 15 = .ok (.aload_n 0, 1) := by decide +kernel
theorem dX9_drop_16 : decode cX9_drop 16 = .ok (.iload_n 1, 1) := by decide +kernel
theorem dX9_drop_17 : decode cX9_drop 17 = .ok (.invokevirtual 96, 3) := by decide +kernel
theorem dX9_drop_20 : decode cX9_drop 20 = .ok (.istore_n 2, 1) := by decide +kernel
theorem dX9_drop_21 : decode cX9_drop 21 = .ok (.iload_n 2, 1) := by decide +kernel
theorem dX9_drop_22 : decode cX9_drop 22 = .ok (.ifCond .ge 10, 3) := by decide +kernel
theorem dX9_drop_25 : decode cX9_drop 25 = .ok (.aload_n 0, 1) := by decide +kernel
theorem dX9_drop_26 : decode cX9_drop 26 = .ok (.ldc 133, 2) := by decide +kernel
theorem dX9_drop_28 : decode cX9_drop 28 = .ok (.invokevirtual 84, 3) := by decide +kernel
theorem dX9_drop_31 : decode cX9_drop 31 = .ok (.ireturn, 1) := by decide +kernel
theorem dX9_drop_32 : decode cX9_drop 32 = .ok (.aload_n 0, 1) := by decide +kernel
theorem dX9_drop_33 : decode cX9_drop 33 = .ok (.getfield 9, 3) := by decide +kernel
theorem dX9_drop_36 : decode cX9_drop 36 = .ok (.bipush 30, 2) := by decide +kernel
theorem dX9_drop_38 : decode cX9_drop 38 = .ok (.iload_n 2, 1) := by decide +kernel
theorem dX9_drop_39 : decode cX9_drop 39 = .ok (.iadd, 1) := by decide +kernel
theorem dX9_drop_40 : decode cX9_drop 40 = .ok (.iconst (-1), 1) := by decide +kernel
theorem dX9_drop_41 : decode cX9_drop 41 = .ok (.iastore, 1) := by decide +kernel
theorem dX9_drop_42 : decode cX9_drop 42 = .ok (.aload_n 0, 1) := by decide +kernel
theorem dX9_drop_43 : decode cX9_drop 43 = .ok (.getfield 9, 3) := by decide +kernel
theorem dX9_drop_46 : decode cX9_drop 46 = .ok (.bipush 34, 2) := by decide +kernel
theorem dX9_drop_48 : decode cX9_drop 48 = .ok (.iload_n 2, 1) := by decide +kernel
theorem dX9_drop_49 : decode cX9_drop 49 = .ok (.iadd, 1) := by decide +kernel
theorem dX9_drop_50 : decode cX9_drop 50 = .ok (.iconst (-1), 1) := by decide +kernel
theorem dX9_drop_51 : decode cX9_drop 51 = .ok (.iastore, 1) := by decide +kernel
theorem dX9_drop_52 : decode cX9_drop 52 = .ok (.iload_n 2, 1) := by decide +kernel
theorem dX9_drop_53 : decode cX9_drop 53 = .ok (.ireturn, 1) := by decide +kernel
set_option maxRecDepth 20000 in
theorem ggX9_held_X9_within : GoodIn wsX9_held wsX9_within := goodIn_r _ [6] (by decide +kernel) (by decide +kernel)
set_option maxRecDepth 20000 in
theorem gX9_held_X9_within : GoodIn wsX9_held (va_wsS RX9 75 yX9_within wsX9_within) := goodIn_app (goodIn_of _ (by decide +kernel)) ggX9_held_X9_within
set_option maxRecDepth 20000 in
theorem ggX9_held_X9_finding : GoodIn wsX9_held wsX9_finding := goodIn_r _ [10, 11, 2, 12, 13, 14, 15, 16, 17, 18, 19, 20, 21, 22, 23, 24, 25, 26, 27, 28, 29, 30, 31, 32, 33, 34, 35, 36, 37, 38, 39] (by decide +kernel) (by decide +kernel)
set_option maxRecDepth 20000 in
theorem gX9_held_X9_finding : GoodIn wsX9_held (wsV RX9 84 RX9 yX9_finding wsX9_finding) := goodIn_app (goodIn_of _ (by decide +kernel)) ggX9_held_X9_finding
theorem dX9_held_0 : decode cX9_held 0 = .ok (.iload_n 1, 1) := by decide +kernel
theorem dX9_held_1 : decode cX9_held 1 = .ok (.iconst 0, 1) := by decide +kernel
theorem dX9_held_2 : decode cX9_held 2 = .ok (.iconst 3, 1) := by decide +kernel
theorem dX9_held_3 : decode cX9_held 3 = .ok (.invokestatic 75, 3) := by decide +kernel
theorem dX9_held_6 : decode cX9_held 6 = .ok (.ifCond .eq 33, 3) := by decide +kernel
theorem dX9_held_9 : decode cX9_held 9 = .ok (.iload_n 2, 1) := by decide +kernel
theorem dX9_held_10 : decode cX9_held 10 = .ok (.iconst 0, 1) := by decide +kernel
theorem dX9_held_11 : decode cX9_held 11 = .ok (.iconst 1, 1) := by decide +kernel
theorem dX9_held_12 : decode cX9_held 12 = .ok (.invokestatic 75, 3) := by decide +kernel
theorem dX9_held_15 : decode cX9_held 15 = .ok (.ifCond .eq 24, 3) := by decide +kernel
theorem dX9_held_18 : decode cX9_held 18 = .ok (.aload_n 0, 1) := by decide +kernel
theorem dX9_held_19 : decode cX9_held 19 = .ok (.getfield 9, 3) := by decide +kernel
theorem dX9_held_22 : decode cX9_held 22 = .ok (.iload_n 2, 1) := by decide +kernel
theorem dX9_held_23 : decode cX9_held 23 = .ok (.ifCond .ne 8, 3) := by decide +kernel
theorem dX9_held_26 : decode cX9_held 26 = .ok (.bipush 30, 2) := by decide +kernel
theorem dX9_held_28 : decode cX9_held 28 = .ok (.goto 5, 3) := by decide +kernel
theorem dX9_held_31 : decode cX9_held 31 = .ok (.bipush 34, 2) := by decide +kernel
theorem dX9_held_33 : decode cX9_held 33 = .ok (.iload_n 1, 1) := by decide +kernel
theorem dX9_held_34 : decode cX9_held 34 = .ok (.iadd, 1) := by decide +kernel
theorem dX9_held_35 : decode cX9_held 35 = .ok (.iaload, 1) := by decide +kernel
theorem dX9_held_36 : decode cX9_held 36 = .ok (.goto 9, 3) := by decide +kernel
theorem dX9_held_39 : decode cX9_held 39 = .ok (.aload_n 0, 1) := by decide +kernel
theorem dX9_held_40 : decode cX9_held 40 = .ok (.ldc 74, 2) := by decide +kernel
theorem dX9_held_42 : decode cX9_held 42 = .ok (.invokevirtual 84, 3) := by decide +kernel
theorem dX9_held_45 : decode cX9_held 45 = .ok (.ireturn, 1) := by decide +kernel
set_option maxRecDepth 20000 in
theorem ggX9_shadowIn_X9_shapeIs : GoodIn wsX9_shadowIn wsX9_shapeIs := goodIn_r _ [6, 1, 32, 33, 34, 35, 36, 37, 38, 39, 40, 41, 42, 43, 44, 45, 46, 47, 48, 49, 50, 51, 52, 53, 54, 55, 56, 57, 58, 59] (by decide +kernel) (by decide +kernel)
set_option maxRecDepth 20000 in
theorem gX9_shadowIn_X9_shapeIs : GoodIn wsX9_shadowIn (wsV RX9 99 RX9 yX9_shapeIs wsX9_shapeIs) := goodIn_app (goodIn_of _ (by decide +kernel)) ggX9_shadowIn_X9_shapeIs
set_option maxRecDepth 20000 in
theorem ggX9_shadowIn_X9_shadowOf : GoodIn wsX9_shadowIn wsX9_shadowOf := goodIn_r _ [10, 2, 3, 4, 5, 6, 1, 11, 12, 13, 14, 15, 16, 17, 18, 19, 20, 21, 22, 23, 24, 25, 26, 27, 28, 29, 30, 31, 32, 33, 34, 35, 36, 37, 38, 39, 40, 41, 42, 43, 44, 45, 46, 47, 48, 49, 50, 51, 52, 53, 54, 55, 56, 57, 58, 59] (by decide +kernel) (by decide +kernel)
set_option maxRecDepth 20000 in
theorem gX9_shadowIn_X9_shadowOf : GoodIn wsX9_shadowIn (wsV RX9 129 RX9 yX9_shadowOf wsX9_shadowOf) := goodIn_app (goodIn_of _ (by decide +kernel)) ggX9_shadowIn_X9_shadowOf
theorem dX9_shadowIn_0 : decode cX9_shadowIn 0 = .ok (.aload_n 0, 1) := by decide +kernel
theorem dX9_shadowIn_1 : decode cX9_shadowIn 1 = .ok (.getfield 9, 3) := by decide +kernel
theorem dX9_shadowIn_4 : decode cX9_shadowIn 4 = .ok (.bipush 30, 2) := by decide +kernel
theorem dX9_shadowIn_6 : decode cX9_shadowIn 6 = .ok (.iload_n 1, 1) := by decide +kernel
theorem dX9_shadowIn_7 : decode cX9_shadowIn 7 = .ok (.iadd, 1) := by decide +kernel
theorem dX9_shadowIn_8 : decode cX9_shadowIn 8 = .ok (.iaload, 1) := by decide +kernel
theorem dX9_shadowIn_9 : decode cX9_shadowIn 9 = .ok (.istore_n 2, 1) := by decide +kernel
theorem dX9_shadowIn_10 : decode cX9_shadowIn 10 = .ok (.iload_n 2, 1) := by decide +kernel
theorem dX9_shadowIn_11 : decode cX9_shadowIn 11 = .ok (.ifCond .lt 13, 3) := by decide +kernel
theorem dX9_shadowIn_14 : decode cX9_shadowIn 14 = .ok (.aload_n 0, 1) := by decide +kernel
theorem dX9_shadowIn_15 : decode cX9_shadowIn 15 = .ok (.iload_n 2, 1) := by decide +kernel
theorem dX9_shadowIn_16 : decode cX9_shadowIn 16 = .ok (.iconst 2, 1) := by decide +kernel
theorem dX9_shadowIn_17 : decode cX9_shadowIn 17 = .ok (.invokevirtual 99, 3) := by decide +kernel
theorem dX9_shadowIn_20 : decode cX9_shadowIn 20 = .ok (.iconst 1, 1) := by decide +kernel
theorem dX9_shadowIn_21 : decode cX9_shadowIn 21 = .ok (.if_icmp .ne 7, 3) := by decide +kernel
theorem dX9_shadowIn_24 : decode cX9_shadowIn 24 = .ok (.lconst 0, 1) := by decide +kernel
theorem dX9_shadowIn_25 : decode cX9_shadowIn 25 = .ok (.goto 17, 3) := by decide +kernel
theorem dX9_shadowIn_28 : decode cX9_shadowIn 28 = .ok (.aload_n 0, 1) := by decide +kernel
theorem dX9_shadowIn_29 : decode cX9_shadowIn 29 = .ok (.iload_n 2, 1) := by decide +kernel
theorem dX9_shadowIn_30 : decode cX9_shadowIn 30 = .ok (.aload_n 0, 1) := by decide +kernel
theorem dX9_shadowIn_31 : decode cX9_shadowIn 31 = .ok (.getfield 9, 3) := by decide +kernel
theorem dX9_shadowIn_34 : decode cX9_shadowIn 34 = .ok (.bipush 34, 2) := by decide +kernel
theorem dX9_shadowIn_36 : decode cX9_shadowIn 36 = .ok (.iload_n 1, 1) := by decide +kernel
theorem dX9_shadowIn_37 : decode cX9_shadowIn 37 = .ok (.iadd, 1) := by decide +kernel
theorem dX9_shadowIn_38 : decode cX9_shadowIn 38 = .ok (.iaload, 1) := by decide +kernel
theorem dX9_shadowIn_39 : decode cX9_shadowIn 39 = .ok (.invokevirtual 129, 3) := by decide +kernel
theorem dX9_shadowIn_42 : decode cX9_shadowIn 42 = .ok (.lreturn, 1) := by decide +kernel
set_option maxRecDepth 20000 in
theorem ggX9_darkBut_X9_shadowIn : GoodIn wsX9_darkBut wsX9_shadowIn := goodIn_r _ [5, 6, 7, 8, 9, 4, 10, 11, 12, 13, 14, 15, 16, 17, 18, 19, 20, 21, 22, 23, 24, 25, 26, 27, 28, 29, 30, 31, 32, 33, 34, 35, 36, 37, 38, 39, 40, 41, 42, 43, 44, 45, 46, 47, 48, 49, 50, 51, 52, 53, 54, 55, 56, 57, 58, 59, 60, 61, 62, 63] (by decide +kernel) (by decide +kernel)
set_option maxRecDepth 20000 in
theorem gX9_darkBut_X9_shadowIn : GoodIn wsX9_darkBut (wsV RX9 137 RX9 yX9_shadowIn wsX9_shadowIn) := goodIn_app (goodIn_of _ (by decide +kernel)) ggX9_darkBut_X9_shadowIn
theorem dX9_darkBut_0 : decode cX9_darkBut 0 = .ok (.lconst 0, 1) := by decide +kernel
theorem dX9_darkBut_1 : decode cX9_darkBut 1 = .ok (.lstore_n 2, 1) := by decide +kernel
theorem dX9_darkBut_2 : decode cX9_darkBut 2 = .ok (.iconst 0, 1) := by decide +kernel
theorem dX9_darkBut_3 : decode cX9_darkBut 3 = .ok (.istore 4, 2) := by decide +kernel
theorem dX9_darkBut_5 : decode cX9_darkBut 5 = .ok (.iload 4, 2) := by decide +kernel
theorem dX9_darkBut_7 : decode cX9_darkBut 7 = .ok (.iconst 4, 1) := by decide +kernel
theorem dX9_darkBut_8 : decode cX9_darkBut 8 = .ok (.if_icmp .ge 28, 3) := by decide +kernel
theorem dX9_darkBut_11 : decode cX9_darkBut 11 = .ok (.lload_n 2, 1) := by decide +kernel
theorem dX9_darkBut_12 : decode cX9_darkBut 12 = .ok (.iload 4, 2) := by decide +kernel
theorem dX9_darkBut_14 : decode cX9_darkBut 14 = .ok (.iload_n 1, 1) := by decide +kernel
theorem dX9_darkBut_15 : decode cX9_darkBut 15 = .ok (.if_icmp .ne 7, 3) := by decide +kernel
theorem dX9_darkBut_18 : decode cX9_darkBut 18 = .ok (.lconst 0, 1) := by decide +kernel
theorem dX9_darkBut_19 : decode cX9_darkBut 19 = .ok (.goto 9, 3) := by decide +kernel
theorem dX9_darkBut_22 : decode cX9_darkBut 22 = .ok (.aload_n 0, 1) := by decide +kernel
theorem dX9_darkBut_23 : decode cX9_darkBut 23 = .ok (.iload 4, 2) := by decide +kernel
theorem dX9_darkBut_25 : decode cX9_darkBut 25 = .ok (.invokevirtual 137, 3) := by decide +kernel
theorem dX9_darkBut_28 : decode cX9_darkBut 28 = .ok (.lor, 1) := by decide +kernel
theorem dX9_darkBut_29 : decode cX9_darkBut 29 = .ok (.lstore_n 2, 1) := by decide +kernel
theorem dX9_darkBut_30 : decode cX9_darkBut 30 = .ok (.iinc 4 1, 3) := by decide +kernel
theorem dX9_darkBut_33 : decode cX9_darkBut 33 = .ok (.goto (-28), 3) := by decide +kernel
theorem dX9_darkBut_36 : decode cX9_darkBut 36 = .ok (.lload_n 2, 1) := by decide +kernel
theorem dX9_darkBut_37 : decode cX9_darkBut 37 = .ok (.lreturn, 1) := by decide +kernel
set_option maxRecDepth 20000 in
theorem ggX9_dark_X9_darkBut : GoodIn wsX9_dark wsX9_darkBut := goodIn_r _ [5, 6, 7, 8, 4, 9, 10, 11, 12, 13, 14, 15, 16, 17, 18, 19, 20, 21, 22, 23, 24, 25, 26, 27, 28, 29, 30, 31, 32, 33, 34, 35, 36, 37, 38, 39, 40, 41, 42, 43, 44, 45, 46, 47, 48, 49, 50, 51, 52, 53, 54, 55, 56, 57, 58, 59, 60, 61, 62, 63, 64, 65, 66, 67] (by decide +kernel) (by decide +kernel)
set_option maxRecDepth 20000 in
theorem gX9_dark_X9_darkBut : GoodIn wsX9_dark (wsV RX9 141 RX9 yX9_darkBut wsX9_darkBut) := goodIn_app (goodIn_of _ (by decide +kernel)) ggX9_dark_X9_darkBut
theorem dX9_dark_0 : decode cX9_dark 0 = .ok (.aload_n 0, 1) := by decide +kernel
theorem dX9_dark_1 : decode cX9_dark 1 = .ok (.iconst (-1), 1) := by decide +kernel
theorem dX9_dark_2 : decode cX9_dark 2 = .ok (.invokevirtual 141, 3) := by decide +kernel
theorem dX9_dark_5 : decode cX9_dark 5 = .ok (.lreturn, 1) := by decide +kernel
set_option maxRecDepth 20000 in
theorem ggX9_single_X9_shadowIn : GoodIn wsX9_single wsX9_shadowIn := goodIn_r _ [6, 7, 8, 9, 10, 5, 11, 12, 13, 14, 15, 16, 17, 18, 19, 20, 21, 22, 23, 24, 25, 26, 27, 28, 29, 30, 31, 32, 33, 34, 35, 36, 41, 42, 43, 44, 45, 46, 47, 48, 49, 50, 51, 52, 53, 54, 55, 56, 57, 58, 59, 60, 61, 62, 63, 64, 65, 66, 67, 68] (by decide +kernel) (by decide +kernel)
set_option maxRecDepth 20000 in
theorem gX9_single_X9_shadowIn : GoodIn wsX9_single (wsV RX9 137 RX9 yX9_shadowIn wsX9_shadowIn) := goodIn_app (goodIn_of _ (by decide +kernel)) ggX9_single_X9_shadowIn
set_option maxRecDepth 20000 in
theorem ggX9_single_X9_darkBut : GoodIn wsX9_single wsX9_darkBut := goodIn_r _ [40, 2, 3, 4, 5, 6, 7, 8, 9, 10, 11, 12, 13, 14, 15, 16, 17, 18, 19, 20, 21, 22, 23, 24, 25, 26, 27, 28, 29, 30, 31, 32, 33, 34, 35, 36, 41, 42, 43, 44, 45, 46, 47, 48, 49, 50, 51, 52, 53, 54, 55, 56, 57, 58, 59, 60, 61, 62, 63, 64, 65, 66, 67, 68] (by decide +kernel) (by decide +kernel)
set_option maxRecDepth 20000 in
theorem gX9_single_X9_darkBut : GoodIn wsX9_single (wsV RX9 141 RX9 yX9_darkBut wsX9_darkBut) := goodIn_app (goodIn_of _ (by decide +kernel)) ggX9_single_X9_darkBut
theorem dX9_single_0 : decode cX9_single 0 = .ok (.lconst 0, 1) := by decide +kernel
theorem dX9_single_1 : decode cX9_single 1 = .ok (.lstore_n 1, 1) := by decide +kernel
theorem dX9_single_2 : decode cX9_single 2 = .ok (.iconst 0, 1) := by decide +kernel
theorem dX9_single_3 : decode cX9_single 3 = .ok (.istore_n 3, 1) := by decide +kernel
theorem dX9_single_4 : decode cX9_single 4 = .ok (.iload_n 3, 1) := by decide +kernel
theorem dX9_single_5 : decode cX9_single 5 = .ok (.iconst 4, 1) := by decide +kernel
theorem dX9_single_6 : decode cX9_single 6 = .ok (.if_icmp .ge 27, 3) := by decide +kernel
theorem dX9_single_9 : decode cX9_single 9 = .ok (.lload_n 1, 1) := by decide +kernel
theorem dX9_single_10 : decode cX9_single 10 = .ok (.aload_n 0, 1) := by decide +kernel
theorem dX9_single_11 : decode cX9_single 11 = .ok (.iload_n 3, 1) := by decide +kernel
theorem dX9_single_12 : decode cX9_single 12 = .ok (.invokevirtual 137, 3) := by decide +kernel
theorem dX9_single_15 : decode cX9_single 15 = .ok (.aload_n 0, 1) := by decide +kernel
theorem dX9_single_16 : decode cX9_single 16 = .ok (.iload_n 3, 1) := by decide +kernel
theorem dX9_single_17 : decode cX9_single 17 = .ok (.invokevirtual 141, 3) := by decide +kernel
theorem dX9_single_20 : decode cX9_single 20 = .ok (.ldc2_w 144, 3) := by decide +kernel
theorem dX9_single_23 : decode cX9_single 23 = .ok (.lxor, 1) := by decide +kernel
theorem dX9_single_24 : decode cX9_single 24 = .ok (.land, 1) := by decide +kernel
theorem dX9_single_25 : decode cX9_single 25 = .ok (.lor, 1) := by decide +kernel
theorem dX9_single_26 : decode cX9_single 26 = .ok (.lstore_n 1, 1) := by decide +kernel
theorem dX9_single_27 : decode cX9_single 27 = .ok (.iinc 3 1, 3) := by decide +kernel
theorem dX9_single_30 : decode cX9_single 30 = .ok (.goto (-26), 3) := by decide +kernel
theorem dX9_single_33 : decode cX9_single 33 = .ok (.lload_n 1, 1) := by decide +kernel
theorem dX9_single_34 : decode cX9_single 34 = .ok (.lreturn, 1) := by decide +kernel
set_option maxRecDepth 20000 in
theorem ggX9_spare_X9_dark : GoodIn wsX9_spare wsX9_dark := goodIn_r _ [7, 8, 9, 10, 6, 11, 12, 13, 14, 15, 1, 16, 17, 18, 19, 20, 21, 22, 23, 24, 25, 26, 27, 28, 29, 30, 31, 32, 33, 34, 35, 36, 37, 38, 39, 40, 41, 42, 43, 44, 55, 56, 57, 58, 59, 60, 61, 62, 63, 64, 65, 66, 67, 68, 69, 70, 71, 72, 73, 74, 75, 76, 77, 78, 79, 80, 81, 82] (by decide +kernel) (by decide +kernel)
set_option maxRecDepth 20000 in
theorem gX9_spare_X9_dark : GoodIn wsX9_spare (wsV RX9 146 RX9 yX9_dark wsX9_dark) := goodIn_app (goodIn_of _ (by decide +kernel)) ggX9_spare_X9_dark
set_option maxRecDepth 20000 in
theorem ggX9_spare_X9_holdOf : GoodIn wsX9_spare wsX9_holdOf := goodIn_r _ [48, 1, 55, 56, 57, 58, 59, 60, 61, 62, 63, 64, 65, 66, 67, 68, 69, 70, 71, 72, 73, 74, 75, 76, 77, 78, 79, 80, 81, 82] (by decide +kernel) (by decide +kernel)
set_option maxRecDepth 20000 in
theorem gX9_spare_X9_holdOf : GoodIn wsX9_spare (wsV RX9 96 RX9 yX9_holdOf wsX9_holdOf) := goodIn_app (goodIn_of _ (by decide +kernel)) ggX9_spare_X9_holdOf
set_option maxRecDepth 20000 in
theorem ggX9_spare_X9_shapeIs : GoodIn wsX9_spare wsX9_shapeIs := goodIn_r _ [19, 1, 55, 56, 57, 58, 59, 60, 61, 62, 63, 64, 65, 66, 67, 68, 69, 70, 71, 72, 73, 74, 75, 76, 77, 78, 79, 80, 81, 82] (by decide +kernel) (by decide +kernel)
set_option maxRecDepth 20000 in
theorem gX9_spare_X9_shapeIs : GoodIn wsX9_spare (wsV RX9 99 RX9 yX9_shapeIs wsX9_shapeIs) := goodIn_app (goodIn_of _ (by decide +kernel)) ggX9_spare_X9_shapeIs
set_option maxRecDepth 20000 in
theorem ggX9_spare_X9_darkBut : GoodIn wsX9_spare wsX9_darkBut := goodIn_r _ [11, 12, 13, 14, 6, 15, 1, 16, 17, 18, 19, 20, 21, 22, 23, 24, 25, 26, 27, 28, 29, 30, 31, 32, 33, 34, 35, 36, 37, 38, 39, 40, 41, 42, 43, 44, 55, 56, 57, 58, 59, 60, 61, 62, 63, 64, 65, 66, 67, 68, 69, 70, 71, 72, 73, 74, 75, 76, 77, 78, 79, 80, 81, 82] (by decide +kernel) (by decide +kernel)
set_option maxRecDepth 20000 in
theorem gX9_spare_X9_darkBut : GoodIn wsX9_spare (wsV RX9 141 RX9 yX9_darkBut wsX9_darkBut) := goodIn_app (goodIn_of _ (by decide +kernel)) ggX9_spare_X9_darkBut
set_option maxRecDepth 20000 in
theorem ggX9_spare_X9_finding : GoodIn wsX9_spare wsX9_finding := goodIn_r _ [52, 53, 54, 55, 56, 57, 58, 59, 60, 61, 62, 63, 64, 65, 66, 67, 68, 69, 70, 71, 72, 73, 74, 75, 76, 77, 78, 79, 80, 81, 82] (by decide +kernel) (by decide +kernel)
set_option maxRecDepth 20000 in
theorem gX9_spare_X9_finding : GoodIn wsX9_spare (wsV RX9 84 RX9 yX9_finding wsX9_finding) := goodIn_app (goodIn_of _ (by decide +kernel)) ggX9_spare_X9_finding
theorem dX9_spare_0 : decode cX9_spare 0 = .ok (.aload_n 0, 1) := by decide +kernel
theorem dX9_spare_1 : decode cX9_spare 1 = .ok (.invokevirtual 146, 3) := by decide +kernel
theorem dX9_spare_4 : decode cX9_spare 4 = .ok (.lstore_n 1, 1) := by decide +kernel
theorem dX9_spare_5 : decode cX9_spare 5 = .ok (.iconst 0, 1) := by decide +kernel
theorem dX9_spare_6 : decode cX9_spare 6 = .ok (.istore_n 3, 1) := by decide +kernel
theorem dX9_spare_7 : decode cX9_spare 7 = .ok (.iload_n 3, 1) := by decide +kernel
theorem dX9_spare_8 : decode cX9_spare 8 = .ok (.aload_n 0, 1) := by decide +kernel
theorem dX9_spare_9 : decode cX9_spare 9 = .ok (.getfield 9, 3) := by decide +kernel
theorem dX9_spare_12 : decode cX9_spare 12 = .ok (.iconst 0, 1) := by decide +kernel
theorem dX9_spare_13 : decode cX9_spare 13 = .ok (.iaload, 1) := by decide +kernel
theorem dX9_spare_14 : decode cX9_spare 14 = .ok (.if_icmp .ge 43, 3) := by decide +kernel
theorem dX9_spare_17 : decode cX9_spare 17 = .ok (.aload_n 0, 1) := by decide +kernel
theorem dX9_spare_18 : decode cX9_spare 18 = .ok (.iload_n 3, 1) := by decide +kernel
theorem dX9_spare_19 : decode cX9_spare 19 = .ok (.invokevirtual 96, 3) := by decide +kernel
theorem dX9_spare_22 : decode cX9_spare 22 = .ok (.istore 4, 2) := by decide +kernel
theorem dX9_spare_24 : decode cX9_spare 24 = .ok (.iload 4, 2) := by decide +kernel
theorem dX9_spare_26 : decode cX9_spare 26 = .ok (.ifCond .lt 25, 3) := by decide +kernel
theorem dX9_spare_29 : decode cX9_spare 29 = .ok (.aload_n 0, 1) := by decide +kernel
theorem dX9_spare_30 : decode cX9_spare 30 = .ok (.iload_n 3, 1) := by decide +kernel
theorem dX9_spare_31 : decode cX9_spare 31 = .ok (.iconst 2, 1) := by decide +kernel
theorem dX9_spare_32 : decode cX9_spare 32 = .ok (.invokevirtual 99, 3) := by decide +kernel
theorem dX9_spare_35 : decode cX9_spare 35 = .ok (.ifCond .ne 16, 3) := by decide +kernel
theorem dX9_spare_38 : decode cX9_spare 38 = .ok (.aload_n 0, 1) := by decide +kernel
theorem dX9_spare_39 : decode cX9_spare 39 = .ok (.iload 4, 2) := by decide +kernel
theorem dX9_spare_41 : decode cX9_spare 41 = .ok (.invokevirtual 141, 3) := by decide +kernel
theorem dX9_spare_44 : decode cX9_spare 44 = .ok (.lload_n 1, 1) := by decide +kernel
theorem dX9_spare_45 : decode cX9_spare 45 = .ok (.lcmp, 1) := by decide +kernel
theorem dX9_spare_46 : decode cX9_spare 46 = .ok (.ifCond .ne 5, 3) := by decide +kernel
theorem dX9_spare_49 : decode cX9_spare 49 = .ok (.iload_n 3, 1) := by decide +kernel
theorem dX9_spare_50 : decode cX9_spare 50 = .ok (.ireturn, 1) := by decide +kernel
theorem dX9_spare_51 : decode cX9_spare 51 = .ok (.iinc 3 1, 3) := by decide +kernel
theorem dX9_spare_54 : decode cX9_spare 54 = .ok (.goto (-47), 3) := by decide +kernel
theorem dX9_spare_57 : decode cX9_spare 57 = .ok (.aload_n 0, 1) := by decide +kernel
theorem dX9_spare_58 : decode cX9_spare 58 = .ok (.ldc 150, 2) := by decide +kernel
theorem dX9_spare_60 : decode cX9_spare 60 = .ok (.invokevirtual 84, 3) := by decide +kernel
theorem dX9_spare_63 : decode cX9_spare 63 = .ok (.ireturn, 1) := by decide +kernel
set_option maxRecDepth 20000 in
theorem ggX9_isScene_X9_within : GoodIn wsX9_isScene wsX9_within := goodIn_r _ [5] (by decide +kernel) (by decide +kernel)
set_option maxRecDepth 20000 in
theorem gX9_isScene_X9_within : GoodIn wsX9_isScene (va_wsS RX9 75 yX9_within wsX9_within) := goodIn_app (goodIn_of _ (by decide +kernel)) ggX9_isScene_X9_within
theorem dX9_isScene_0 : decode cX9_isScene 0 = .ok (.iload_n 1, 1) := by decide +kernel
theorem dX9_isScene_1 : decode cX9_isScene 1 = .ok (.iconst 0, 1) := by decide +kernel
theorem dX9_isScene_2 : decode cX9_isScene 2 = .ok (.aload_n 0, 1) := by decide +kernel
theorem dX9_isScene_3 : decode cX9_isScene 3 = .ok (.getfield 9, 3) := by decide +kernel
theorem dX9_isScene_6 : decode cX9_isScene 6 = .ok (.iconst 1, 1) := by decide +kernel
theorem dX9_isScene_7 : decode cX9_isScene 7 = .ok (.iaload, 1) := by decide +kernel
theorem dX9_isScene_8 : decode cX9_isScene 8 = .ok (.iconst 1, 1) := by decide +kernel
theorem dX9_isScene_9 : decode cX9_isScene 9 = .ok (.isub, 1) := by decide +kernel
theorem dX9_isScene_10 : decode cX9_isScene 10 = .ok (.invokestatic 75, 3) := by decide +kernel
theorem dX9_isScene_13 : decode cX9_isScene 13 = .ok (.ireturn, 1) := by decide +kernel
theorem dX9_painted_0 : decode cX9_painted 0 = .ok (.aload_n 0, 1) := by decide +kernel
theorem dX9_painted_1 : decode cX9_painted 1 = .ok (.getfield 16, 3) := by decide +kernel
theorem dX9_painted_4 : decode cX9_painted 4 = .ok (.aload_n 0, 1) := by decide +kernel
theorem dX9_painted_5 : decode cX9_painted 5 = .ok (.getfield 9, 3) := by decide +kernel
theorem dX9_painted_8 : decode cX9_painted 8 = .ok (.iconst 1, 1) := by decide +kernel
theorem dX9_painted_9 : decode cX9_painted 9 = .ok (.iaload, 1) := by decide +kernel
theorem dX9_painted_10 : decode cX9_painted 10 = .ok (.lload_n 1, 1) := by decide +kernel
theorem dX9_painted_11 : decode cX9_painted 11 = .ok (.lastore, 1) := by decide +kernel
theorem dX9_painted_12 : decode cX9_painted 12 = .ok (.aload_n 0, 1) := by decide +kernel
theorem dX9_painted_13 : decode cX9_painted 13 = .ok (.getfield 9, 3) := by decide +kernel
theorem dX9_painted_16 : decode cX9_painted 16 = .ok (.iconst 1, 1) := by decide +kernel
theorem dX9_painted_17 : decode cX9_painted 17 = .ok (.dup2, 1) := by decide +kernel
theorem dX9_painted_18 : decode cX9_painted 18 = .ok (.iaload, 1) := by decide +kernel
theorem dX9_painted_19 : decode cX9_painted 19 = .ok (.iconst 1, 1) := by decide +kernel
theorem dX9_painted_20 : decode cX9_painted 20 = .ok (.iadd, 1) := by decide +kernel
theorem dX9_painted_21 : decode cX9_painted 21 = .ok (.iastore, 1) := by decide +kernel
theorem dX9_painted_22 : decode cX9_painted 22 = .ok (.aload_n 0, 1) := by decide +kernel
theorem dX9_painted_23 : decode cX9_painted 23 = .ok (.getfield 9, 3) := by decide +kernel
theorem dX9_painted_26 : decode cX9_painted 26 = .ok (.iconst 1, 1) := by decide +kernel
theorem dX9_painted_27 : decode cX9_painted 27 = .ok (.iaload, 1) := by decide +kernel
theorem dX9_painted_28 : decode cX9_painted 28 = .ok (.iconst 1, 1) := by decide +kernel
theorem dX9_painted_29 : decode cX9_painted 29 = .ok (.isub, 1) := by decide +kernel
theorem dX9_painted_30 : decode cX9_painted 30 = .ok (.ireturn, 1) := by decide +kernel
set_option maxRecDepth 20000 in
theorem ggX9_scene_X9_finding : GoodIn wsX9_scene wsX9_finding := goodIn_r _ [7, 8, 9, 15, 16, 17, 18, 19, 20, 21, 22, 23, 24, 25, 26, 27, 28, 29, 30, 31, 32, 33, 34, 35, 36, 37, 38, 39, 40, 41, 42] (by decide +kernel) (by decide +kernel)
set_option maxRecDepth 20000 in
theorem gX9_scene_X9_finding : GoodIn wsX9_scene (wsV RX9 84 RX9 yX9_finding wsX9_finding) := goodIn_app (goodIn_of _ (by decide +kernel)) ggX9_scene_X9_finding
set_option maxRecDepth 20000 in
theorem ggX9_scene_X9_painted : GoodIn wsX9_scene wsX9_painted := goodIn_r _ [13, 14, 1, 15, 16, 17, 18, 19, 20, 21, 22, 23, 24, 25, 26, 27, 28, 29, 30, 31, 32, 33, 34, 35, 36, 37, 38, 39, 40, 41, 42] (by decide +kernel) (by decide +kernel)
set_option maxRecDepth 20000 in
theorem gX9_scene_X9_painted : GoodIn wsX9_scene (wsV RX9 151 RX9 yX9_painted wsX9_painted) := goodIn_app (goodIn_of _ (by decide +kernel)) ggX9_scene_X9_painted
theorem dX9_scene_0 : decode cX9_scene 0 = .ok (.aload_n 0, 1) := by decide +kernel
theorem dX9_scene_1 : decode cX9_scene 1 = .ok (.getfield 9, 3) := by decide +kernel
theorem dX9_scene_4 : decode cX9_scene 4 = .ok (.iconst 1, 1) := by decide +kernel
theorem dX9_scene_5 : decode cX9_scene 5 = .ok (.iaload, 1) := by decide +kernel
theorem dX9_scene_6 : decode cX9_scene 6 = .ok (.bipush 7, 2) := by decide +kernel
theorem dX9_scene_8 : decode cX9_scene 8 = .ok (.if_icmp .ne 12, 3) := by decide +kernel
theorem dX9_scene_11 : decode cX9_scene 11 = .ok (.aload_n 0, 1) := by decide +kernel
theorem dX9_scene_12 : decode cX9_scene 12 = .ok (.ldc 88, 2) := by decide +kernel
theorem dX9_scene_14 : decode cX9_scene 14 = .ok (.invokevirtual 84, 3) := by decide +kernel
theorem dX9_scene_17 : decode cX9_scene 17 = .ok (.goto 8, 3) := by decide +kernel
theorem dX9_scene_20 : decode cX9_scene 20 = .ok (.aload_n 0, 1) := by decide +kernel
theorem dX9_scene_21 : decode cX9_scene 21 = .ok (.lload_n 1, 1) := by decide +kernel
theorem dX9_scene_22 : decode cX9_scene 22 = .ok (.invokevirtual 151, 3) := by decide +kernel
theorem dX9_scene_25 : decode cX9_scene 25 = .ok (.ireturn, 1) := by decide +kernel
set_option maxRecDepth 20000 in
theorem ggX9_draw_X9_isScene : GoodIn wsX9_draw wsX9_isScene := goodIn_r _ [7, 8, 9, 10, 6, 11, 58, 59, 60, 61, 62, 63, 64, 65, 66, 67, 68, 69, 70, 71, 72, 73, 74, 75, 76, 77, 78, 79, 80, 81, 82, 83, 84, 85] (by decide +kernel) (by decide +kernel)
set_option maxRecDepth 20000 in
theorem gX9_draw_X9_isScene : GoodIn wsX9_draw (wsV RX9 155 RX9 yX9_isScene wsX9_isScene) := goodIn_app (goodIn_of _ (by decide +kernel)) ggX9_draw_X9_isScene
set_option maxRecDepth 20000 in
theorem ggX9_draw_X9_finding : GoodIn wsX9_draw wsX9_finding := goodIn_r _ [15, 16, 1, 58, 59, 60, 61, 62, 63, 64, 65, 66, 67, 68, 69, 70, 71, 72, 73, 74, 75, 76, 77, 78, 79, 80, 81, 82, 83, 84, 85] (by decide +kernel) (by decide +kernel)
set_option maxRecDepth 20000 in
theorem gX9_draw_X9_finding : GoodIn wsX9_draw (wsV RX9 84 RX9 yX9_finding wsX9_finding) := goodIn_app (goodIn_of _ (by decide +kernel)) ggX9_draw_X9_finding
set_option maxRecDepth 20000 in
theorem ggX9_draw_X9_dark : GoodIn wsX9_draw wsX9_dark := goodIn_r _ [20, 21, 22, 23, 6, 24, 25, 26, 27, 28, 8, 29, 30, 31, 32, 33, 34, 35, 36, 37, 38, 39, 40, 41, 42, 43, 44, 45, 9, 10, 11, 46, 47, 48, 49, 50, 51, 52, 53, 54, 58, 59, 60, 61, 62, 63, 64, 65, 66, 67, 68, 69, 70, 71, 72, 73, 74, 75, 76, 77, 78, 79, 80, 81, 82, 83, 84, 85] (by decide +kernel) (by decide +kernel)
set_option maxRecDepth 20000 in
theorem gX9_draw_X9_dark : GoodIn wsX9_draw (wsV RX9 146 RX9 yX9_dark wsX9_dark) := goodIn_app (goodIn_of _ (by decide +kernel)) ggX9_draw_X9_dark
set_option maxRecDepth 20000 in
theorem ggX9_draw_X9_bits : GoodIn wsX9_draw wsX9_bits := goodIn_r _ [57] (by decide +kernel) (by decide +kernel)
set_option maxRecDepth 20000 in
theorem gX9_draw_X9_bits : GoodIn wsX9_draw (va_wsS RX9 158 yX9_bits wsX9_bits) := goodIn_app (goodIn_of _ (by decide +kernel)) ggX9_draw_X9_bits
theorem dX9_draw_0 : decode cX9_draw 0 = .ok (.aload_n 0, 1) := by decide +kernel
theorem dX9_draw_1 : decode cX9_draw 1 = .ok (.iload_n 1, 1) := by decide +kernel
theorem dX9_draw_2 : decode cX9_draw 2 = .ok (.invokevirtual 155, 3) := by decide +kernel
theorem dX9_draw_5 : decode cX9_draw 5 = .ok (.ifCond .ne 10, 3) := by decide +kernel
theorem dX9_draw_8 : decode cX9_draw 8 = .ok (.aload_n 0, 1) := by decide +kernel
theorem dX9_draw_9 : decode cX9_draw 9 = .ok (.ldc 74, 2) := by decide +kernel
theorem dX9_draw_11 : decode cX9_draw 11 = .ok (.invokevirtual 84, 3) := by decide +kernel
theorem dX9_draw_14 : decode cX9_draw 14 = .ok (.ireturn, 1) := by decide +kernel
theorem dX9_draw_15 : decode cX9_draw 15 = .ok (.aload_n 0, 1) := by decide +kernel
theorem dX9_draw_16 : decode cX9_draw 16 = .ok (.getfield 16, 3) := by decide +kernel
theorem dX9_draw_19 : decode cX9_draw 19 = .ok (.iload_n 1, 1) := by decide +kernel
theorem dX9_draw_20 : decode cX9_draw 20 = .ok (.laload, 1) := by decide +kernel
theorem dX9_draw_21 : decode cX9_draw 21 = .ok (.aload_n 0, 1) := by decide +kernel
theorem dX9_draw_22 : decode cX9_draw 22 = .ok (.invokevirtual 146, 3) := by decide +kernel
theorem dX9_draw_25 : decode cX9_draw 25 = .ok (.lxor, 1) := by decide +kernel
theorem dX9_draw_26 : decode cX9_draw 26 = .ok (.invokestatic 158, 3) := by decide +kernel
theorem dX9_draw_29 : decode cX9_draw 29 = .ok (.istore_n 2, 1) := by decide +kernel
theorem dX9_draw_30 : decode cX9_draw 30 = .ok (.aload_n 0, 1) := by decide +kernel
theorem dX9_draw_31 : decode cX9_draw 31 = .ok (.getfield 16, 3) := by decide +kernel
theorem dX9_draw_34 : decode cX9_draw 34 = .ok (.iload_n 1, 1) := by decide +kernel
theorem dX9_draw_35 : decode cX9_draw 35 = .ok (.aload_n 0, 1) := by decide +kernel
theorem dX9_draw_36 : decode cX9_draw 36 = .ok (.invokevirtual 146, 3) := by decide +kernel
theorem dX9_draw_39 : decode cX9_draw 39 = .ok (.lastore, 1) := by decide +kernel
theorem dX9_draw_40 : decode cX9_draw 40 = .ok (.iload_n 2, 1) := by decide +kernel
theorem dX9_draw_41 : decode cX9_draw 41 = .ok (.ireturn, 1) := by decide +kernel
set_option maxRecDepth 20000 in
theorem ggX9_picture_X9_isScene : GoodIn wsX9_picture wsX9_isScene := goodIn_r _ [7, 8, 9, 10, 6, 11, 17, 18, 19, 20, 21, 22, 23, 24, 25, 26, 27, 28, 29, 30, 31, 32, 33, 34, 35, 36, 37, 38, 39, 40, 41, 42, 43, 44] (by decide +kernel) (by decide +kernel)
set_option maxRecDepth 20000 in
theorem gX9_picture_X9_isScene : GoodIn wsX9_picture (wsV RX9 155 RX9 yX9_isScene wsX9_isScene) := goodIn_app (goodIn_of _ (by decide +kernel)) ggX9_picture_X9_isScene
set_option maxRecDepth 20000 in
theorem ggX9_picture_X9_finding : GoodIn wsX9_picture wsX9_finding := goodIn_r _ [15, 16, 2, 17, 18, 19, 20, 21, 22, 23, 24, 25, 26, 27, 28, 29, 30, 31, 32, 33, 34, 35, 36, 37, 38, 39, 40, 41, 42, 43, 44] (by decide +kernel) (by decide +kernel)
set_option maxRecDepth 20000 in
theorem gX9_picture_X9_finding : GoodIn wsX9_picture (wsV RX9 84 RX9 yX9_finding wsX9_finding) := goodIn_app (goodIn_of _ (by decide +kernel)) ggX9_picture_X9_finding
theorem dX9_picture_0 : decode cX9_picture 0 = .ok (.aload_n 0, 1) := by decide +kernel
theorem dX9_picture_1 : decode cX9_picture 1 = .ok (.iload_n 1, 1) := by decide +kernel
theorem dX9_picture_2 : decode cX9_picture 2 = .ok (.invokevirtual 155, 3) := by decide +kernel
theorem dX9_picture_5 : decode cX9_picture 5 = .ok (.ifCond .eq 12, 3) := by decide +kernel
theorem dX9_picture_8 : decode cX9_picture 8 = .ok (.aload_n 0, 1) := by decide +kernel
theorem dX9_picture_9 : decode cX9_picture 9 = .ok (.getfield 16, 3) := by decide +kernel
theorem dX9_picture_12 : decode cX9_picture 12 = .ok (.iload_n 1, 1) := by decide +kernel
theorem dX9_picture_13 : decode cX9_picture 13 = .ok (.laload, 1) := by decide +kernel
theorem dX9_picture_14 : decode cX9_picture 14 = .ok (.goto 10, 3) := by decide +kernel
theorem dX9_picture_17 : decode cX9_picture 17 = .ok (.aload_n 0, 1) := by decide +kernel
theorem dX9_picture_18 : decode cX9_picture 18 = .ok (.ldc 74, 2) := by decide +kernel
theorem dX9_picture_20 : decode cX9_picture 20 = .ok (.invokevirtual 84, 3) := by decide +kernel
theorem dX9_picture_23 : decode cX9_picture 23 = .ok (.i2l, 1) := by decide +kernel
theorem dX9_picture_24 : decode cX9_picture 24 = .ok (.lreturn, 1) := by decide +kernel
set_option maxRecDepth 20000 in
theorem ggX9_off_X9_isScene : GoodIn wsX9_off wsX9_isScene := goodIn_r _ [7, 8, 9, 10, 6, 11, 58, 59, 60, 61, 62, 63, 64, 65, 66, 67, 68, 69, 70, 71, 72, 73, 74, 75, 76, 77, 78, 79, 80, 81, 82, 83, 84, 85] (by decide +kernel) (by decide +kernel)
set_option maxRecDepth 20000 in
theorem gX9_off_X9_isScene : GoodIn wsX9_off (wsV RX9 155 RX9 yX9_isScene wsX9_isScene) := goodIn_app (goodIn_of _ (by decide +kernel)) ggX9_off_X9_isScene
set_option maxRecDepth 20000 in
theorem ggX9_off_X9_dark : GoodIn wsX9_off wsX9_dark := goodIn_r _ [15, 16, 17, 18, 6, 19, 20, 21, 22, 23, 8, 24, 25, 26, 27, 28, 29, 30, 31, 32, 33, 34, 35, 36, 37, 38, 39, 40, 9, 10, 11, 41, 42, 43, 44, 45, 46, 47, 48, 49, 58, 59, 60, 61, 62, 63, 64, 65, 66, 67, 68, 69, 70, 71, 72, 73, 74, 75, 76, 77, 78, 79, 80, 81, 82, 83, 84, 85] (by decide +kernel) (by decide +kernel)
set_option maxRecDepth 20000 in
theorem gX9_off_X9_dark : GoodIn wsX9_off (wsV RX9 146 RX9 yX9_dark wsX9_dark) := goodIn_app (goodIn_of _ (by decide +kernel)) ggX9_off_X9_dark
set_option maxRecDepth 20000 in
theorem ggX9_off_X9_bits : GoodIn wsX9_off wsX9_bits := goodIn_r _ [52] (by decide +kernel) (by decide +kernel)
set_option maxRecDepth 20000 in
theorem gX9_off_X9_bits : GoodIn wsX9_off (va_wsS RX9 158 yX9_bits wsX9_bits) := goodIn_app (goodIn_of _ (by decide +kernel)) ggX9_off_X9_bits
set_option maxRecDepth 20000 in
theorem ggX9_off_X9_finding : GoodIn wsX9_off wsX9_finding := goodIn_r _ [56, 57, 2, 58, 59, 60, 61, 62, 63, 64, 65, 66, 67, 68, 69, 70, 71, 72, 73, 74, 75, 76, 77, 78, 79, 80, 81, 82, 83, 84, 85] (by decide +kernel) (by decide +kernel)
set_option maxRecDepth 20000 in
theorem gX9_off_X9_finding : GoodIn wsX9_off (wsV RX9 84 RX9 yX9_finding wsX9_finding) := goodIn_app (goodIn_of _ (by decide +kernel)) ggX9_off_X9_finding
theorem dX9_off_0 : decode cX9_off 0 = .ok (.aload_n 0, 1) := by decide +kernel
theorem dX9_off_1 : decode cX9_off 1 = .ok (.iload_n 1, 1) := by decide +kernel
theorem dX9_off_2 : decode cX9_off 2 = .ok (.invokevirtual 155, 3) := by decide +kernel
theorem dX9_off_5 : decode cX9_off 5 = .ok (.ifCond .eq 20, 3) := by decide +kernel
theorem dX9_off_8 : decode cX9_off 8 = .ok (.aload_n 0, 1) := by decide +kernel
theorem dX9_off_9 : decode cX9_off 9 = .ok (.getfield 16, 3) := by decide +kernel
theorem dX9_off_12 : decode cX9_off 12 = .ok (.iload_n 1, 1) := by decide +kernel
theorem dX9_off_13 : decode cX9_off 13 = .ok (.laload, 1) := by decide +kernel
theorem dX9_off_14 : decode cX9_off 14 = .ok (.aload_n 0, 1) := by decide +kernel
theorem dX9_off_15 : decode cX9_off 15 = .ok (.invokevirtual 146, 3) := by decide +kernel
theorem dX9_off_18 : decode cX9_off 18 = .ok (.lxor, 1) := by decide +kernel
theorem dX9_off_19 : decode cX9_off 19 = .ok (.invokestatic 158, 3) := by decide +kernel
theorem dX9_off_22 : decode cX9_off 22 = .ok (.goto 9, 3) := by decide +kernel
theorem dX9_off_25 : decode cX9_off 25 = .ok (.aload_n 0, 1) := by decide +kernel
theorem dX9_off_26 : decode cX9_off 26 = .ok (.ldc 74, 2) := by decide +kernel
theorem dX9_off_28 : decode cX9_off 28 = .ok (.invokevirtual 84, 3) := by decide +kernel
theorem dX9_off_31 : decode cX9_off 31 = .ok (.ireturn, 1) := by decide +kernel
set_option maxRecDepth 20000 in
theorem ggX9_changesOf_X9_bits : GoodIn wsX9_changesOf wsX9_bits := goodIn_r _ [5] (by decide +kernel) (by decide +kernel)
set_option maxRecDepth 20000 in
theorem gX9_changesOf_X9_bits : GoodIn wsX9_changesOf (va_wsS RX9 158 yX9_bits wsX9_bits) := goodIn_app (goodIn_of _ (by decide +kernel)) ggX9_changesOf_X9_bits
theorem dX9_changesOf_0 : decode cX9_changesOf 0 = .ok (.aload_n 0, 1) := by decide +kernel
theorem dX9_changesOf_1 : decode cX9_changesOf 1 = .ok (.getfield 16, 3) := by decide +kernel
theorem dX9_changesOf_4 : decode cX9_changesOf 4 = .ok (.iload_n 1, 1) := by decide +kernel
theorem dX9_changesOf_5 : decode cX9_changesOf 5 = .ok (.laload, 1) := by decide +kernel
theorem dX9_changesOf_6 : decode cX9_changesOf 6 = .ok (.aload_n 0, 1) := by decide +kernel
theorem dX9_changesOf_7 : decode cX9_changesOf 7 = .ok (.getfield 16, 3) := by decide +kernel
theorem dX9_changesOf_10 : decode cX9_changesOf 10 = .ok (.iload_n 2, 1) := by decide +kernel
theorem dX9_changesOf_11 : decode cX9_changesOf 11 = .ok (.laload, 1) := by decide +kernel
theorem dX9_changesOf_12 : decode cX9_changesOf 12 = .ok (.lxor, 1) := by decide +kernel
theorem dX9_changesOf_13 : decode cX9_changesOf 13 = .ok (.invokestatic 158, 3) := by decide +kernel
theorem dX9_changesOf_16 : decode cX9_changesOf 16 = .ok (.iconst 3, 1) := by decide +kernel
theorem dX9_changesOf_17 : decode cX9_changesOf 17 = .ok (.iadd, 1) := by decide +kernel
theorem dX9_changesOf_18 : decode cX9_changesOf 18 = .ok (.iconst 4, 1) := by decide +kernel
theorem dX9_changesOf_19 : decode cX9_changesOf 19 = .ok (.idiv, 1) := by decide +kernel
theorem dX9_changesOf_20 : decode cX9_changesOf 20 = .ok (.ireturn, 1) := by decide +kernel
set_option maxRecDepth 20000 in
theorem ggX9_changes_X9_isScene : GoodIn wsX9_changes wsX9_isScene := goodIn_r _ [6, 7, 8, 9, 5, 10, 24, 25, 26, 27, 28, 29, 30, 31, 32, 33, 34, 35, 36, 37, 38, 39, 40, 41, 42, 43, 44, 45, 46, 47, 48, 49, 50, 51] (by decide +kernel) (by decide +kernel)
set_option maxRecDepth 20000 in
theorem gX9_changes_X9_isScene : GoodIn wsX9_changes (wsV RX9 155 RX9 yX9_isScene wsX9_isScene) := goodIn_app (goodIn_of _ (by decide +kernel)) ggX9_changes_X9_isScene
set_option maxRecDepth 20000 in
theorem ggX9_changes_X9_changesOf : GoodIn wsX9_changes wsX9_changesOf := goodIn_r _ [14, 15, 16, 17, 5, 18, 24, 25, 26, 27, 28, 29, 30, 31, 32, 33, 34, 35, 36, 37, 38, 39, 40, 41, 42, 43, 44, 45, 46, 47, 48, 49, 50, 51] (by decide +kernel) (by decide +kernel)
set_option maxRecDepth 20000 in
theorem gX9_changes_X9_changesOf : GoodIn wsX9_changes (wsV RX9 161 RX9 yX9_changesOf wsX9_changesOf) := goodIn_app (goodIn_of _ (by decide +kernel)) ggX9_changes_X9_changesOf
set_option maxRecDepth 20000 in
theorem ggX9_changes_X9_finding : GoodIn wsX9_changes wsX9_finding := goodIn_r _ [22, 23, 1, 24, 25, 26, 27, 28, 29, 30, 31, 32, 33, 34, 35, 36, 37, 38, 39, 40, 41, 42, 43, 44, 45, 46, 47, 48, 49, 50, 51] (by decide +kernel) (by decide +kernel)
set_option maxRecDepth 20000 in
theorem gX9_changes_X9_finding : GoodIn wsX9_changes (wsV RX9 84 RX9 yX9_finding wsX9_finding) := goodIn_app (goodIn_of _ (by decide +kernel)) ggX9_changes_X9_finding
theorem dX9_changes_0 : decode cX9_changes 0 = .ok (.aload_n 0, 1) := by decide +kernel
theorem dX9_changes_1 : decode cX9_changes 1 = .ok (.iload_n 1, 1) := by decide +kernel
theorem dX9_changes_2 : decode cX9_changes 2 = .ok (.invokevirtual 155, 3) := by decide +kernel
theorem dX9_changes_5 : decode cX9_changes 5 = .ok (.ifCond .eq 20, 3) := by decide +kernel
theorem dX9_changes_8 : decode cX9_changes 8 = .ok (.aload_n 0, 1) := by decide +kernel
theorem dX9_changes_9 : decode cX9_changes 9 = .ok (.iload_n 2, 1) := by decide +kernel
theorem dX9_changes_10 : decode cX9_changes 10 = .ok (.invokevirtual 155, 3) := by decide +kernel
theorem dX9_changes_13 : decode cX9_changes 13 = .ok (.ifCond .eq 12, 3) := by decide +kernel
theorem dX9_changes_16 : decode cX9_changes 16 = .ok (.aload_n 0, 1) := by decide +kernel
theorem dX9_changes_17 : decode cX9_changes 17 = .ok (.iload_n 1, 1) := by decide +kernel
theorem dX9_changes_18 : decode cX9_changes 18 = .ok (.iload_n 2, 1) := by decide +kernel
theorem dX9_changes_19 : decode cX9_changes 19 = .ok (.invokevirtual 161, 3) := by decide +kernel
theorem dX9_changes_22 : decode cX9_changes 22 = .ok (.goto 9, 3) := by decide +kernel
theorem dX9_changes_25 : decode cX9_changes 25 = .ok (.aload_n 0, 1) := by decide +kernel
theorem dX9_changes_26 : decode cX9_changes 26 = .ok (.ldc 74, 2) := by decide +kernel
theorem dX9_changes_28 : decode cX9_changes 28 = .ok (.invokevirtual 84, 3) := by decide +kernel
theorem dX9_changes_31 : decode cX9_changes 31 = .ok (.ireturn, 1) := by decide +kernel
set_option maxRecDepth 20000 in
theorem ggX9_allow_X9_within : GoodIn wsX9_allow wsX9_within := goodIn_r _ [5] (by decide +kernel) (by decide +kernel)
set_option maxRecDepth 20000 in
theorem gX9_allow_X9_within : GoodIn wsX9_allow (va_wsS RX9 75 yX9_within wsX9_within) := goodIn_app (goodIn_of _ (by decide +kernel)) ggX9_allow_X9_within
set_option maxRecDepth 20000 in
theorem ggX9_allow_X9_putIn : GoodIn wsX9_allow wsX9_putIn := goodIn_r _ [9, 10, 16, 17, 18, 19, 20, 21, 22, 23, 24, 25, 26, 27, 28, 29, 30, 31, 32, 33, 34, 35, 36, 37, 38, 39, 40, 41, 42, 43] (by decide +kernel) (by decide +kernel)
set_option maxRecDepth 20000 in
theorem gX9_allow_X9_putIn : GoodIn wsX9_allow (wsV RX9 102 RX9 yX9_putIn wsX9_putIn) := goodIn_app (goodIn_of _ (by decide +kernel)) ggX9_allow_X9_putIn
set_option maxRecDepth 20000 in
theorem ggX9_allow_X9_finding : GoodIn wsX9_allow wsX9_finding := goodIn_r _ [14, 15, 1, 16, 17, 18, 19, 20, 21, 22, 23, 24, 25, 26, 27, 28, 29, 30, 31, 32, 33, 34, 35, 36, 37, 38, 39, 40, 41, 42, 43] (by decide +kernel) (by decide +kernel)
set_option maxRecDepth 20000 in
theorem gX9_allow_X9_finding : GoodIn wsX9_allow (wsV RX9 84 RX9 yX9_finding wsX9_finding) := goodIn_app (goodIn_of _ (by decide +kernel)) ggX9_allow_X9_finding
theorem dX9_allow_0 : decode cX9_allow 0 = .ok (.iload_n 1, 1) := by decide +kernel
theorem dX9_allow_1 : decode cX9_allow 1 = .ok (.iconst 0, 1) := by decide +kernel
theorem dX9_allow_2 : decode cX9_allow 2 = .ok (.bipush 63, 2) := by decide +kernel
theorem dX9_allow_4 : decode cX9_allow 4 = .ok (.invokestatic 75, 3) := by decide +kernel
theorem dX9_allow_7 : decode cX9_allow 7 = .ok (.ifCond .eq 25, 3) := by decide +kernel
theorem dX9_allow_10 : decode cX9_allow 10 = .ok (.iload_n 1, 1) := by decide +kernel
theorem dX9_allow_11 : decode cX9_allow 11 = .ok (.bipush 15, 2) := by decide +kernel
theorem dX9_allow_13 : decode cX9_allow 13 = .ok (.iand, 1) := by decide +kernel
theorem dX9_allow_14 : decode cX9_allow 14 = .ok (.ifCond .le 18, 3) := by decide +kernel
theorem dX9_allow_17 : decode cX9_allow 17 = .ok (.iload_n 1, 1) := by decide +kernel
theorem dX9_allow_18 : decode cX9_allow 18 = .ok (.bipush 15, 2) := by decide +kernel
theorem dX9_allow_20 : decode cX9_allow 20 = .ok (.if_icmp .le 12, 3) := by decide +kernel
theorem dX9_allow_23 : decode cX9_allow 23 = .ok (.aload_n 0, 1) := by decide +kernel
theorem dX9_allow_24 : decode cX9_allow 24 = .ok (.iconst 2, 1) := by decide +kernel
theorem dX9_allow_25 : decode cX9_allow 25 = .ok (.iload_n 1, 1) := by decide +kernel
theorem dX9_allow_26 : decode cX9_allow 26 = .ok (.invokevirtual 102, 3) := by decide +kernel
theorem dX9_allow_29 : decode cX9_allow 29 = .ok (.goto 9, 3) := by decide +kernel
theorem dX9_allow_32 : decode cX9_allow 32 = .ok (.aload_n 0, 1) := by decide +kernel
theorem dX9_allow_33 : decode cX9_allow 33 = .ok (.ldc 74, 2) := by decide +kernel
theorem dX9_allow_35 : decode cX9_allow 35 = .ok (.invokevirtual 84, 3) := by decide +kernel
theorem dX9_allow_38 : decode cX9_allow 38 = .ok (.ireturn, 1) := by decide +kernel
set_option maxRecDepth 20000 in
theorem ggX9_isAllowed_X9_isPlacing : GoodIn wsX9_isAllowed wsX9_isPlacing := goodIn_r _ [5, 6, 7, 4, 8] (by decide +kernel) (by decide +kernel)
set_option maxRecDepth 20000 in
theorem gX9_isAllowed_X9_isPlacing : GoodIn wsX9_isAllowed (va_wsS RX9 126 yX9_isPlacing wsX9_isPlacing) := goodIn_app (goodIn_of _ (by decide +kernel)) ggX9_isAllowed_X9_isPlacing
theorem dX9_isAllowed_0 : decode cX9_isAllowed 0 = .ok (.iload_n 1, 1) := by decide +kernel
theorem dX9_isAllowed_1 : decode cX9_isAllowed 1 = .ok (.invokestatic 126, 3) := by decide +kernel
theorem dX9_isAllowed_4 : decode cX9_isAllowed 4 = .ok (.ifCond .eq 47, 3) := by decide +kernel
theorem dX9_isAllowed_7 : decode cX9_isAllowed 7 = .ok (.aload_n 0, 1) := by decide +kernel
theorem dX9_isAllowed_8 : decode cX9_isAllowed 8 = .ok (.getfield 9, 3) := by decide +kernel
theorem dX9_isAllowed_11 : decode cX9_isAllowed 11 = .ok (.iconst 2, 1) := by decide +kernel
theorem dX9_isAllowed_12 : decode cX9_isAllowed 12 = .ok (.iaload, 1) := by decide +kernel
theorem dX9_isAllowed_13 : decode cX9_isAllowed 13 = .ok (.iload_n 1, 1) := by decide +kernel
theorem dX9_isAllowed_14 : decode cX9_isAllowed 14 = .ok (.sipush 1000, 3) := by decide +kernel
theorem dX9_isAllowed_17 : decode cX9_isAllowed 17 = .ok (.idiv, 1) := by decide +kernel
theorem dX9_isAllowed_18 : decode cX9_isAllowed 18 = .ok (.iconst 4, 1) := by decide +kernel
theorem dX9_isAllowed_19 : decode cX9_isAllowed 19 = .ok (.irem, 1) := by decide +kernel
theorem dX9_isAllowed_20 : decode cX9_isAllowed 20 = .ok (.ishr, 1) := by decide +kernel
theorem dX9_isAllowed_21 : decode cX9_isAllowed 21 = .ok (.iconst 1, 1) := by decide +kernel
theorem dX9_isAllowed_22 : decode cX9_isAllowed 22 = .ok (.iand, 1) := by decide +kernel
theorem dX9_isAllowed_23 : decode cX9_isAllowed 23 = .ok (.iconst 1, 1) := by decide +kernel
theorem dX9_isAllowed_24 : decode cX9_isAllowed 24 = .ok (.if_icmp .ne 27, 3) := by decide +kernel
theorem dX9_isAllowed_27 : decode cX9_isAllowed 27 = .ok (.aload_n 0, 1) := by decide +kernel
theorem dX9_isAllowed_28 : decode cX9_isAllowed 28 = .ok (.getfield 9, 3) := by decide +kernel
theorem dX9_isAllowed_31 : decode cX9_isAllowed 31 = .ok (.iconst 2, 1) := by decide +kernel
theorem dX9_isAllowed_32 : decode cX9_isAllowed 32 = .ok (.iaload, 1) := by decide +kernel
theorem dX9_isAllowed_33 : decode cX9_isAllowed 33 = .ok (.iconst 3, 1) := by decide +kernel
theorem dX9_isAllowed_34 : decode cX9_isAllowed 34 = .ok (.iload_n 1, 1) := by decide +kernel
theorem dX9_isAllowed_35 : decode cX9_isAllowed 35 = .ok (.sipush 4000, 3) := by decide +kernel
theorem dX9_isAllowed_38 : decode cX9_isAllowed 38 = .ok (.idiv, 1) := by decide +kernel
theorem dX9_isAllowed_39 : decode cX9_isAllowed 39 = .ok (.iadd, 1) := by decide +kernel
theorem dX9_isAllowed_40 : decode cX9_isAllowed 40 = .ok (.ishr, 1) := by decide +kernel
theorem dX9_isAllowed_41 : decode cX9_isAllowed 41 = .ok (.iconst 1, 1) := by decide +kernel
theorem dX9_isAllowed_42 : decode cX9_isAllowed 42 = .ok (.iand, 1) := by decide +kernel
theorem dX9_isAllowed_43 : decode cX9_isAllowed 43 = .ok (.iconst 1, 1) := by decide +kernel
theorem dX9_isAllowed_44 : decode cX9_isAllowed 44 = .ok (.if_icmp .ne 7, 3) := by decide +kernel
theorem dX9_isAllowed_47 : decode cX9_isAllowed 47 = .ok (.iconst 1, 1) := by decide +kernel
theorem dX9_isAllowed_48 : decode cX9_isAllowed 48 = .ok (.goto 4, 3) := by decide +kernel
theorem dX9_isAllowed_51 : decode cX9_isAllowed 51 = .ok (.iconst 0, 1) := by decide +kernel
theorem dX9_isAllowed_52 : decode cX9_isAllowed 52 = .ok (.ireturn, 1) := by decide +kernel
set_option maxRecDepth 20000 in
theorem ggX9_nearestOff_X9_isAllowed : GoodIn wsX9_nearestOff wsX9_isAllowed := goodIn_r _ [10, 11, 12, 13, 9, 14, 15, 16, 17, 47, 48, 49, 50, 51, 52, 53, 54, 55, 56, 57, 58, 59, 60, 61, 62, 63, 64, 65, 66, 67, 68, 69, 70, 71, 72, 73, 74] (by decide +kernel) (by decide +kernel)
set_option maxRecDepth 20000 in
theorem gX9_nearestOff_X9_isAllowed : GoodIn wsX9_nearestOff (wsV RX9 164 RX9 yX9_isAllowed wsX9_isAllowed) := goodIn_app (goodIn_of _ (by decide +kernel)) ggX9_nearestOff_X9_isAllowed
set_option maxRecDepth 20000 in
theorem ggX9_nearestOff_X9_shadowOf : GoodIn wsX9_nearestOff wsX9_shadowOf := goodIn_r _ [21, 22, 23, 24, 9, 25, 11, 26, 27, 28, 29, 30, 31, 32, 33, 34, 15, 16, 17, 35, 36, 37, 38, 39, 40, 41, 42, 43, 47, 48, 49, 50, 51, 52, 53, 54, 55, 56, 57, 58, 59, 60, 61, 62, 63, 64, 65, 66, 67, 68, 69, 70, 71, 72, 73, 74] (by decide +kernel) (by decide +kernel)
set_option maxRecDepth 20000 in
theorem gX9_nearestOff_X9_shadowOf : GoodIn wsX9_nearestOff (wsV RX9 129 RX9 yX9_shadowOf wsX9_shadowOf) := goodIn_app (goodIn_of _ (by decide +kernel)) ggX9_nearestOff_X9_shadowOf
set_option maxRecDepth 20000 in
theorem ggX9_nearestOff_X9_bits : GoodIn wsX9_nearestOff wsX9_bits := goodIn_r _ [46] (by decide +kernel) (by decide +kernel)
set_option maxRecDepth 20000 in
theorem gX9_nearestOff_X9_bits : GoodIn wsX9_nearestOff (va_wsS RX9 158 yX9_bits wsX9_bits) := goodIn_app (goodIn_of _ (by decide +kernel)) ggX9_nearestOff_X9_bits
theorem dX9_nearestOff_0 : decode cX9_nearestOff 0 = .ok (.bipush 65, 2) := by decide +kernel
theorem dX9_nearestOff_2 : decode cX9_nearestOff 2 = .ok (.istore 6, 2) := by decide +kernel
theorem dX9_nearestOff_4 : decode cX9_nearestOff 4 = .ok (.sipush 4000, 3) := by decide +kernel
theorem dX9_nearestOff_7 : decode cX9_nearestOff 7 = .ok (.istore 7, 2) := by decide +kernel
theorem dX9_nearestOff_9 : decode cX9_nearestOff 9 = .ok (.iload 7, 2) := by decide +kernel
theorem dX9_nearestOff_11 : decode cX9_nearestOff 11 = .ok (.sipush 11077, 3) := by decide +kernel
theorem dX9_nearestOff_14 : decode cX9_nearestOff 14 = .ok (.if_icmp .gt 64, 3) := by decide +kernel
theorem dX9_nearestOff_17 : decode cX9_nearestOff 17 = .ok (.aload_n 0, 1) := by decide +kernel
theorem dX9_nearestOff_18 : decode cX9_nearestOff 18 = .ok (.iload 7, 2) := by decide +kernel
theorem dX9_nearestOff_20 : decode cX9_nearestOff 20 = .ok (.invokevirtual 164, 3) := by decide +kernel
theorem dX9_nearestOff_23 : decode cX9_nearestOff 23 = .ok (.ifCond .eq 49, 3) := by decide +kernel
theorem dX9_nearestOff_26 : decode cX9_nearestOff 26 = .ok (.lload_n 2, 1) := by decide +kernel
theorem dX9_nearestOff_27 : decode cX9_nearestOff 27 = .ok (.aload_n 0, 1) := by decide +kernel
theorem dX9_nearestOff_28 : decode cX9_nearestOff 28 = .ok (.iload_n 1, 1) := by decide +kernel
theorem dX9_nearestOff_29 : decode cX9_nearestOff 29 = .ok (.iload 7, 2) := by decide +kernel
theorem dX9_nearestOff_31 : decode cX9_nearestOff 31 = .ok (.invokevirtual 129, 3) := by decide +kernel
theorem dX9_nearestOff_34 : decode cX9_nearestOff 34 = .ok (.lor, 1) := by decide +kernel
theorem dX9_nearestOff_35 : decode cX9_nearestOff 35 = .ok (.lload 4, 2) := by decide +kernel
theorem dX9_nearestOff_37 : decode cX9_nearestOff 37 = .ok (.lxor, 1) := by decide +kernel
theorem dX9_nearestOff_38 : decode cX9_nearestOff 38 = .ok (.invokestatic 158, 3) := by decide +kernel
theorem dX9_nearestOff_41 : decode cX9_nearestOff 41 = .ok (.istore 8, 2) := by decide +kernel
theorem dX9_nearestOff_43 : decode cX9_nearestOff 43 = .ok (.aload_n 0, 1) := by decide +kernel
theorem dX9_nearestOff_44 : decode cX9_nearestOff 44 = .ok (.iload 8, 2) := by decide +kernel
theorem dX9_nearestOff_46 : decode cX9_nearestOff 46 = .ok (.iload 6, 2) := by decide +kernel
theorem dX9_nearestOff_48 : decode cX9_nearestOff 48 = .ok (.if_icmp .ge 8, 3) := by decide +kernel
theorem dX9_nearestOff_51 : decode cX9_nearestOff 51 = .ok (.iload 7, 2) := by decide +kernel
theorem dX9_nearestOff_53 : decode cX9_nearestOff 53 = .ok (.goto 7, 3) := by decide +kernel
theorem dX9_nearestOff_56 : decode cX9_nearestOff 56 = .ok (.aload_n 0, 1) := by decide +kernel
theorem dX9_nearestOff_57 : decode cX9_nearestOff 57 = .ok (.getfield 167, 3) := by decide +kernel
theorem dX9_nearestOff_60 : decode cX9_nearestOff 60 = .ok (.putfield 167, 3) := by decide +kernel
theorem dX9_nearestOff_63 : decode cX9_nearestOff 63 = .ok (.iload 6, 2) := by decide +kernel
theorem dX9_nearestOff_65 : decode cX9_nearestOff 65 = .ok (.iload 8, 2) := by decide +kernel
theorem dX9_nearestOff_67 : decode cX9_nearestOff 67 = .ok (.invokestatic 171, 3) := by decide +kernel
theorem dX9_nearestOff_70 : decode cX9_nearestOff 70 = .ok (.istore 6, 2) := by decide +kernel
theorem dX9_nearestOff_72 : decode cX9_nearestOff 72 = .ok (.iinc 7 1, 3) := by decide +kernel
theorem dX9_nearestOff_75 : decode cX9_nearestOff 75 = .ok (.goto (-66), 3) := by decide +kernel
theorem dX9_nearestOff_78 : decode cX9_nearestOff 78 = .ok (.iload 6, 2) := by decide +kernel
theorem dX9_nearestOff_80 : decode cX9_nearestOff 80 = .ok (.ireturn, 1) := by decide +kernel
set_option maxRecDepth 20000 in
theorem ggX9_nearest_X9_isShape : GoodIn wsX9_nearest wsX9_isShape := goodIn_r _ [8, 9, 10, 11, 7, 12, 66, 67, 68, 69, 70, 71, 72, 73, 74, 75, 76, 77, 78, 79, 80, 81, 82, 83, 84, 85, 86, 87, 88, 89, 90, 91, 92, 93] (by decide +kernel) (by decide +kernel)
set_option maxRecDepth 20000 in
theorem gX9_nearest_X9_isShape : GoodIn wsX9_nearest (wsV RX9 93 RX9 yX9_isShape wsX9_isShape) := goodIn_app (goodIn_of _ (by decide +kernel)) ggX9_nearest_X9_isShape
set_option maxRecDepth 20000 in
theorem ggX9_nearest_X9_isScene : GoodIn wsX9_nearest wsX9_isScene := goodIn_r _ [16, 9, 10, 11, 7, 12, 66, 67, 68, 69, 70, 71, 72, 73, 74, 75, 76, 77, 78, 79, 80, 81, 82, 83, 84, 85, 86, 87, 88, 89, 90, 91, 92, 93] (by decide +kernel) (by decide +kernel)
set_option maxRecDepth 20000 in
theorem gX9_nearest_X9_isScene : GoodIn wsX9_nearest (wsV RX9 155 RX9 yX9_isScene wsX9_isScene) := goodIn_app (goodIn_of _ (by decide +kernel)) ggX9_nearest_X9_isScene
set_option maxRecDepth 20000 in
theorem ggX9_nearest_X9_within : GoodIn wsX9_nearest wsX9_within := goodIn_r _ [12] (by decide +kernel) (by decide +kernel)
set_option maxRecDepth 20000 in
theorem gX9_nearest_X9_within : GoodIn wsX9_nearest (va_wsS RX9 75 yX9_within wsX9_within) := goodIn_app (goodIn_of _ (by decide +kernel)) ggX9_nearest_X9_within
set_option maxRecDepth 20000 in
theorem ggX9_nearest_X9_finding : GoodIn wsX9_nearest wsX9_finding := goodIn_r _ [20, 21, 1, 66, 67, 68, 69, 70, 71, 72, 73, 74, 75, 76, 77, 78, 79, 80, 81, 82, 83, 84, 85, 86, 87, 88, 89, 90, 91, 92, 93] (by decide +kernel) (by decide +kernel)
set_option maxRecDepth 20000 in
theorem gX9_nearest_X9_finding : GoodIn wsX9_nearest (wsV RX9 84 RX9 yX9_finding wsX9_finding) := goodIn_app (goodIn_of _ (by decide +kernel)) ggX9_nearest_X9_finding
set_option maxRecDepth 20000 in
theorem ggX9_nearest_X9_nearestOff : GoodIn wsX9_nearest wsX9_nearestOff := goodIn_r _ [25, 3, 26, 27, 28, 29, 30, 31, 32, 7, 33, 9, 34, 35, 36, 10, 11, 12, 37, 38, 39, 40, 41, 42, 43, 44, 45, 46, 47, 48, 49, 50, 51, 52, 53, 54, 55, 56, 57, 58, 59, 60, 61, 62, 63, 64, 65, 66, 67, 68, 69, 70, 71, 72, 73, 74, 75, 76, 77, 78, 79, 80, 81, 82, 83, 84, 85, 86, 87, 88, 89, 90, 91, 92, 93] (by decide +kernel) (by decide +kernel)
set_option maxRecDepth 20000 in
theorem gX9_nearest_X9_nearestOff : GoodIn wsX9_nearest (wsV RX9 176 RX9 yX9_nearestOff wsX9_nearestOff) := goodIn_app (goodIn_of _ (by decide +kernel)) ggX9_nearest_X9_nearestOff
theorem dX9_nearest_0 : decode cX9_nearest 0 = .ok (.aload_n 0, 1) := by decide +kernel
theorem dX9_nearest_1 : decode cX9_nearest 1 = .ok (.iload_n 1, 1) := by decide +kernel
theorem dX9_nearest_2 : decode cX9_nearest 2 = .ok (.invokevirtual 93, 3) := by decide +kernel
theorem dX9_nearest_5 : decode cX9_nearest 5 = .ok (.ifCond .eq 20, 3) := by decide +kernel
theorem dX9_nearest_8 : decode cX9_nearest 8 = .ok (.aload_n 0, 1) := by decide +kernel
theorem dX9_nearest_9 : decode cX9_nearest 9 = .ok (.iload_n 2, 1) := by decide +kernel
theorem dX9_nearest_10 : decode cX9_nearest 10 = .ok (.invokevirtual 155, 3) := by decide +kernel
theorem dX9_nearest_13 : decode cX9_nearest 13 = .ok (.ifCond .eq 12, 3) := by decide +kernel
theorem dX9_nearest_16 : decode cX9_nearest 16 = .ok (.iload_n 3, 1) := by decide +kernel
theorem dX9_nearest_17 : decode cX9_nearest 17 = .ok (.iconst 0, 1) := by decide +kernel
theorem dX9_nearest_18 : decode cX9_nearest 18 = .ok (.iconst 1, 1) := by decide +kernel
theorem dX9_nearest_19 : decode cX9_nearest 19 = .ok (.invokestatic 75, 3) := by decide +kernel
theorem dX9_nearest_22 : decode cX9_nearest 22 = .ok (.ifCond .ne 10, 3) := by decide +kernel
theorem dX9_nearest_25 : decode cX9_nearest 25 = .ok (.aload_n 0, 1) := by decide +kernel
theorem dX9_nearest_26 : decode cX9_nearest 26 = .ok (.ldc 74, 2) := by decide +kernel
theorem dX9_nearest_28 : decode cX9_nearest 28 = .ok (.invokevirtual 84, 3) := by decide +kernel
theorem dX9_nearest_31 : decode cX9_nearest 31 = .ok (.ireturn, 1) := by decide +kernel
theorem dX9_nearest_32 : decode cX9_nearest 32 = .ok (.aload_n 0, 1) := by decide +kernel
theorem dX9_nearest_33 : decode cX9_nearest 33 = .ok (.iload_n 1, 1) := by decide +kernel
theorem dX9_nearest_34 : decode cX9_nearest 34 = .ok (.lconst 0, 1) := by decide +kernel
theorem dX9_nearest_35 : decode cX9_nearest 35 = .ok (.aload_n 0, 1) := by decide +kernel
theorem dX9_nearest_36 : decode cX9_nearest 36 = .ok (.getfield 16, 3) := by decide +kernel
theorem dX9_nearest_39 : decode cX9_nearest 39 = .ok (.iload_n 2, 1) := by decide +kernel
theorem dX9_nearest_40 : decode cX9_nearest 40 = .ok (.laload, 1) := by decide +kernel
theorem dX9_nearest_41 : decode cX9_nearest 41 = .ok (.invokevirtual 176, 3) := by decide +kernel
theorem dX9_nearest_44 : decode cX9_nearest 44 = .ok (.istore 4, 2) := by decide +kernel
theorem dX9_nearest_46 : decode cX9_nearest 46 = .ok (.iload_n 3, 1) := by decide +kernel
theorem dX9_nearest_47 : decode cX9_nearest 47 = .ok (.ifCond .ne 10, 3) := by decide +kernel
theorem dX9_nearest_50 : decode cX9_nearest 50 = .ok (.aload_n 0, 1) := by decide +kernel
theorem dX9_nearest_51 : decode cX9_nearest 51 = .ok (.getfield 167, 3) := by decide +kernel
theorem dX9_nearest_54 : decode cX9_nearest 54 = .ok (.goto 5, 3) := by decide +kernel
theorem dX9_nearest_57 : decode cX9_nearest 57 = .ok (.iload 4, 2) := by decide +kernel
theorem dX9_nearest_59 : decode cX9_nearest 59 = .ok (.ireturn, 1) := by decide +kernel
set_option maxRecDepth 20000 in
theorem ggX9_best_X9_isScene : GoodIn wsX9_best wsX9_isScene := goodIn_r _ [13, 2, 14, 15, 12, 16, 63, 64, 65, 66, 67, 68, 69, 70, 71, 72, 73, 74, 75, 76, 77, 78, 79, 80, 81, 82, 83, 84, 85, 86, 87, 88, 89, 90] (by decide +kernel) (by decide +kernel)
set_option maxRecDepth 20000 in
theorem gX9_best_X9_isScene : GoodIn wsX9_best (wsV RX9 155 RX9 yX9_isScene wsX9_isScene) := goodIn_app (goodIn_of _ (by decide +kernel)) ggX9_best_X9_isScene
set_option maxRecDepth 20000 in
theorem ggX9_best_X9_finding : GoodIn wsX9_best wsX9_finding := goodIn_r _ [20, 21, 1, 63, 64, 65, 66, 67, 68, 69, 70, 71, 72, 73, 74, 75, 76, 77, 78, 79, 80, 81, 82, 83, 84, 85, 86, 87, 88, 89, 90] (by decide +kernel) (by decide +kernel)
set_option maxRecDepth 20000 in
theorem gX9_best_X9_finding : GoodIn wsX9_best (wsV RX9 84 RX9 yX9_finding wsX9_finding) := goodIn_app (goodIn_of _ (by decide +kernel)) ggX9_best_X9_finding
set_option maxRecDepth 20000 in
theorem ggX9_best_X9_shapeIs : GoodIn wsX9_best wsX9_shapeIs := goodIn_r _ [25, 2, 63, 64, 65, 66, 67, 68, 69, 70, 71, 72, 73, 74, 75, 76, 77, 78, 79, 80, 81, 82, 83, 84, 85, 86, 87, 88, 89, 90] (by decide +kernel) (by decide +kernel)
set_option maxRecDepth 20000 in
theorem gX9_best_X9_shapeIs : GoodIn wsX9_best (wsV RX9 99 RX9 yX9_shapeIs wsX9_shapeIs) := goodIn_app (goodIn_of _ (by decide +kernel)) ggX9_best_X9_shapeIs
set_option maxRecDepth 20000 in
theorem ggX9_best_X9_nearestOff : GoodIn wsX9_best wsX9_nearestOff := goodIn_r _ [29, 30, 4, 5, 6, 7, 31, 32, 33, 12, 34, 2, 35, 36, 37, 14, 15, 16, 38, 39, 40, 41, 22, 23, 24, 25, 42, 43, 44, 45, 46, 47, 48, 49, 50, 51, 52, 53, 54, 55, 56, 57, 58, 59, 60, 61, 62, 63, 64, 65, 66, 67, 68, 69, 70, 71, 72, 73, 74, 75, 76, 77, 78, 79, 80, 81, 82, 83, 84, 85, 86, 87, 88, 89, 90] (by decide +kernel) (by decide +kernel)
set_option maxRecDepth 20000 in
theorem gX9_best_X9_nearestOff : GoodIn wsX9_best (wsV RX9 176 RX9 yX9_nearestOff wsX9_nearestOff) := goodIn_app (goodIn_of _ (by decide +kernel)) ggX9_best_X9_nearestOff
theorem dX9_best_0 : decode cX9_best 0 = .ok (.aload_n 0, 1) := by decide +kernel
theorem dX9_best_1 : decode cX9_best 1 = .ok (.iload_n 1, 1) := by decide +kernel
theorem dX9_best_2 : decode cX9_best 2 = .ok (.invokevirtual 155, 3) := by decide +kernel
theorem dX9_best_5 : decode cX9_best 5 = .ok (.ifCond .ne 10, 3) := by decide +kernel
theorem dX9_best_8 : decode cX9_best 8 = .ok (.aload_n 0, 1) := by decide +kernel
theorem dX9_best_9 : decode cX9_best 9 = .ok (.ldc 74, 2) := by decide +kernel
theorem dX9_best_11 : decode cX9_best 11 = .ok (.invokevirtual 84, 3) := by decide +kernel
theorem dX9_best_14 : decode cX9_best 14 = .ok (.ireturn, 1) := by decide +kernel
theorem dX9_best_15 : decode cX9_best 15 = .ok (.iconst (-1), 1) := by decide +kernel
theorem dX9_best_16 : decode cX9_best 16 = .ok (.istore_n 2, 1) := by decide +kernel
theorem dX9_best_17 : decode cX9_best 17 = .ok (.bipush 65, 2) := by decide +kernel
theorem dX9_best_19 : decode cX9_best 19 = .ok (.istore_n 3, 1) := by decide +kernel
theorem dX9_best_20 : decode cX9_best 20 = .ok (.iconst 0, 1) := by decide +kernel
theorem dX9_best_21 : decode cX9_best 21 = .ok (.istore 4, 2) := by decide +kernel
theorem dX9_best_23 : decode cX9_best 23 = .ok (.iload 4, 2) := by decide +kernel
theorem dX9_best_25 : decode cX9_best 25 = .ok (.aload_n 0, 1) := by decide +kernel
theorem dX9_best_26 : decode cX9_best 26 = .ok (.getfield 9, 3) := by decide +kernel
theorem dX9_best_29 : decode cX9_best 29 = .ok (.iconst 0, 1) := by decide +kernel
theorem dX9_best_30 : decode cX9_best 30 = .ok (.iaload, 1) := by decide +kernel
theorem dX9_best_31 : decode cX9_best 31 = .ok (.if_icmp .ge 60, 3) := by decide +kernel
theorem dX9_best_34 : decode cX9_best 34 = .ok (.aload_n 0, 1) := by decide +kernel
theorem dX9_best_35 : decode cX9_best 35 = .ok (.iload 4, 2) := by decide +kernel
theorem dX9_best_37 : decode cX9_best 37 = .ok (.iconst 2, 1) := by decide +kernel
theorem dX9_best_38 : decode cX9_best 38 = .ok (.invokevirtual 99, 3) := by decide +kernel
theorem dX9_best_41 : decode cX9_best 41 = .ok (.iconst 1, 1) := by decide +kernel
theorem dX9_best_42 : decode cX9_best 42 = .ok (.if_icmp .ne 8, 3) := by decide +kernel
theorem dX9_best_45 : decode cX9_best 45 = .ok (.bipush 65, 2) := by decide +kernel
theorem dX9_best_47 : decode cX9_best 47 = .ok (.goto 16, 3) := by decide +kernel
theorem dX9_best_50 : decode cX9_best 50 = .ok (.aload_n 0, 1) := by decide +kernel
theorem dX9_best_51 : decode cX9_best 51 = .ok (.iload 4, 2) := by decide +kernel
theorem dX9_best_53 : decode cX9_best 53 = .ok (.lconst 0, 1) := by decide +kernel
theorem dX9_best_54 : decode cX9_best 54 = .ok (.aload_n 0, 1) := by decide +kernel
theorem dX9_best_55 : decode cX9_best 55 = .ok (.getfield 16, 3) := by decide +kernel
theorem dX9_best_58 : decode cX9_best 58 = .ok (.iload_n 1, 1) := by decide +kernel
theorem dX9_best_59 : decode cX9_best 59 = .ok (.laload, 1) := by decide +kernel
theorem dX9_best_60 : decode cX9_best 60 = .ok (.invokevirtual 176, 3) := by decide +kernel
theorem dX9_best_63 : decode cX9_best 63 = .ok (.istore 5, 2) := by decide +kernel
theorem dX9_best_65 : decode cX9_best 65 = .ok (.iload 5, 2) := by decide +kernel
theorem dX9_best_67 : decode cX9_best 67 = .ok (.iload_n 3, 1) := by decide +kernel
theorem dX9_best_68 : decode cX9_best 68 = .ok (.if_icmp .ge 8, 3) := by decide +kernel
theorem dX9_best_71 : decode cX9_best 71 = .ok (.iload 4, 2) := by decide +kernel
theorem dX9_best_73 : decode cX9_best 73 = .ok (.goto 4, 3) := by decide +kernel
theorem dX9_best_76 : decode cX9_best 76 = .ok (.iload_n 2, 1) := by decide +kernel
theorem dX9_best_77 : decode cX9_best 77 = .ok (.istore_n 2, 1) := by decide +kernel
theorem dX9_best_78 : decode cX9_best 78 = .ok (.iload_n 3, 1) := by decide +kernel
theorem dX9_best_79 : decode cX9_best 79 = .ok (.iload 5, 2) := by decide +kernel
theorem dX9_best_81 : decode cX9_best 81 = .ok (.invokestatic 171, 3) := by decide +kernel
theorem dX9_best_84 : decode cX9_best 84 = .ok (.istore_n 3, 1) := by decide +kernel
theorem dX9_best_85 : decode cX9_best 85 = .ok (.iinc 4 1, 3) := by decide +kernel
theorem dX9_best_88 : decode cX9_best 88 = .ok (.goto (-65), 3) := by decide +kernel
theorem dX9_best_91 : decode cX9_best 91 = .ok (.iload_n 2, 1) := by decide +kernel
theorem dX9_best_92 : decode cX9_best 92 = .ok (.ifCond .ge 12, 3) := by decide +kernel
theorem dX9_best_95 : decode cX9_best 95 = .ok (.aload_n 0, 1) := by decide +kernel
theorem dX9_best_96 : decode cX9_best 96 = .ok (.ldc 150, 2) := by decide +kernel
theorem dX9_best_98 : decode cX9_best 98 = .ok (.invokevirtual 84, 3) := by decide +kernel
theorem dX9_best_101 : decode cX9_best 101 = .ok (.goto 4, 3) := by decide +kernel
theorem dX9_best_104 : decode cX9_best 104 = .ok (.iload_n 2, 1) := by decide +kernel
theorem dX9_best_105 : decode cX9_best 105 = .ok (.ireturn, 1) := by decide +kernel
set_option maxRecDepth 20000 in
theorem ggX9_play_X9_isScene : GoodIn wsX9_play wsX9_isScene := goodIn_r _ [9, 3, 10, 11, 8, 12, 86, 87, 88, 89, 90, 91, 92, 93, 94, 95, 96, 97, 98, 99, 100, 101, 102, 103, 104, 105, 106, 107, 108, 109, 110, 111, 112, 113] (by decide +kernel) (by decide +kernel)
set_option maxRecDepth 20000 in
theorem gX9_play_X9_isScene : GoodIn wsX9_play (wsV RX9 155 RX9 yX9_isScene wsX9_isScene) := goodIn_app (goodIn_of _ (by decide +kernel)) ggX9_play_X9_isScene
set_option maxRecDepth 20000 in
theorem ggX9_play_X9_finding : GoodIn wsX9_play wsX9_finding := goodIn_r _ [16, 17, 1, 86, 87, 88, 89, 90, 91, 92, 93, 94, 95, 96, 97, 98, 99, 100, 101, 102, 103, 104, 105, 106, 107, 108, 109, 110, 111, 112, 113] (by decide +kernel) (by decide +kernel)
set_option maxRecDepth 20000 in
theorem gX9_play_X9_finding : GoodIn wsX9_play (wsV RX9 84 RX9 yX9_finding wsX9_finding) := goodIn_app (goodIn_of _ (by decide +kernel)) ggX9_play_X9_finding
set_option maxRecDepth 20000 in
theorem ggX9_play_X9_dropAll : GoodIn wsX9_play wsX9_dropAll := goodIn_r _ [21, 3, 86, 87, 88, 89, 90, 91, 92, 93, 94, 95, 96, 97, 98, 99, 100, 101, 102, 103, 104, 105, 106, 107, 108, 109, 110, 111, 112, 113] (by decide +kernel) (by decide +kernel)
set_option maxRecDepth 20000 in
theorem gX9_play_X9_dropAll : GoodIn wsX9_play (wsV RX9 71 RX9 yX9_dropAll wsX9_dropAll) := goodIn_app (goodIn_of _ (by decide +kernel)) ggX9_play_X9_dropAll
set_option maxRecDepth 20000 in
theorem ggX9_play_X9_bits : GoodIn wsX9_play wsX9_bits := goodIn_r _ [24] (by decide +kernel) (by decide +kernel)
set_option maxRecDepth 20000 in
theorem gX9_play_X9_bits : GoodIn wsX9_play (va_wsS RX9 158 yX9_bits wsX9_bits) := goodIn_app (goodIn_of _ (by decide +kernel)) ggX9_play_X9_bits
set_option maxRecDepth 20000 in
theorem ggX9_play_X9_holdOf : GoodIn wsX9_play wsX9_holdOf := goodIn_r _ [28, 3, 86, 87, 88, 89, 90, 91, 92, 93, 94, 95, 96, 97, 98, 99, 100, 101, 102, 103, 104, 105, 106, 107, 108, 109, 110, 111, 112, 113] (by decide +kernel) (by decide +kernel)
set_option maxRecDepth 20000 in
theorem gX9_play_X9_holdOf : GoodIn wsX9_play (wsV RX9 96 RX9 yX9_holdOf wsX9_holdOf) := goodIn_app (goodIn_of _ (by decide +kernel)) ggX9_play_X9_holdOf
set_option maxRecDepth 20000 in
theorem ggX9_play_X9_dark : GoodIn wsX9_play wsX9_dark := goodIn_r _ [32, 33, 34, 35, 8, 36, 37, 38, 39, 40, 3, 41, 42, 43, 44, 45, 46, 47, 48, 49, 50, 51, 52, 53, 54, 55, 56, 57, 10, 11, 12, 58, 59, 60, 61, 62, 63, 64, 65, 66, 86, 87, 88, 89, 90, 91, 92, 93, 94, 95, 96, 97, 98, 99, 100, 101, 102, 103, 104, 105, 106, 107, 108, 109, 110, 111, 112, 113] (by decide +kernel) (by decide +kernel)
set_option maxRecDepth 20000 in
theorem gX9_play_X9_dark : GoodIn wsX9_play (wsV RX9 146 RX9 yX9_dark wsX9_dark) := goodIn_app (goodIn_of _ (by decide +kernel)) ggX9_play_X9_dark
set_option maxRecDepth 20000 in
theorem ggX9_play_X9_shapeIs : GoodIn wsX9_play wsX9_shapeIs := goodIn_r _ [44, 3, 86, 87, 88, 89, 90, 91, 92, 93, 94, 95, 96, 97, 98, 99, 100, 101, 102, 103, 104, 105, 106, 107, 108, 109, 110, 111, 112, 113] (by decide +kernel) (by decide +kernel)
set_option maxRecDepth 20000 in
theorem gX9_play_X9_shapeIs : GoodIn wsX9_play (wsV RX9 99 RX9 yX9_shapeIs wsX9_shapeIs) := goodIn_app (goodIn_of _ (by decide +kernel)) ggX9_play_X9_shapeIs
set_option maxRecDepth 20000 in
theorem ggX9_play_X9_nearestOff : GoodIn wsX9_play wsX9_nearestOff := goodIn_r _ [70, 4, 71, 72, 73, 74, 75, 76, 77, 8, 78, 3, 79, 80, 81, 10, 11, 12, 45, 46, 47, 48, 41, 42, 43, 44, 49, 50, 51, 52, 53, 54, 55, 56, 57, 58, 59, 60, 61, 62, 63, 64, 65, 66, 22, 23, 24, 86, 87, 88, 89, 90, 91, 92, 93, 94, 95, 96, 97, 98, 99, 100, 101, 102, 103, 104, 105, 106, 107, 108, 109, 110, 111, 112, 113] (by decide +kernel) (by decide +kernel)
set_option maxRecDepth 20000 in
theorem gX9_play_X9_nearestOff : GoodIn wsX9_play (wsV RX9 176 RX9 yX9_nearestOff wsX9_nearestOff) := goodIn_app (goodIn_of _ (by decide +kernel)) ggX9_play_X9_nearestOff
set_option maxRecDepth 20000 in
theorem ggX9_play_X9_holds : GoodIn wsX9_play wsX9_holds := goodIn_r _ [85, 3, 25, 26, 27, 8, 28, 86, 87, 88, 89, 90, 91, 92, 93, 94, 95, 96, 97, 98, 99, 100, 101, 102, 103, 104, 105, 106, 107, 108, 109, 110, 111, 112, 113] (by decide +kernel) (by decide +kernel)
set_option maxRecDepth 20000 in
theorem gX9_play_X9_holds : GoodIn wsX9_play (wsV RX9 134 RX9 yX9_holds wsX9_holds) := goodIn_app (goodIn_of _ (by decide +kernel)) ggX9_play_X9_holds
theorem dX9_play_0 : decode cX9_play 0 = .ok (.aload_n 0, 1) := by decide +kernel
theorem dX9_play_1 : decode cX9_play 1 = .ok (.iload_n 1, 1) := by decide +kernel
theorem dX9_play_2 : decode cX9_play 2 = .ok (.invokevirtual 155, 3) := by decide +kernel
theorem dX9_play_5 : decode cX9_play 5 = .ok (.ifCond .ne 10, 3) := by decide +kernel
theorem dX9_play_8 : decode cX9_play 8 = .ok (.aload_n 0, 1) := by decide +kernel
theorem dX9_play_9 : decode cX9_play 9 = .ok (.ldc 74, 2) := by decide +kernel
theorem dX9_play_11 : decode cX9_play 11 = .ok (.invokevirtual 84, 3) := by decide +kernel
theorem dX9_play_14 : decode cX9_play 14 = .ok (.ireturn, 1) := by decide +kernel
theorem dX9_play_15 : decode cX9_play 15 = .ok (.aload_n 0, 1) := by decide +kernel
theorem dX9_play_16 : decode cX9_play 16 = .ok (.invokevirtual 71, 3) := by decide +kernel
theorem dX9_play_19 : decode cX9_play 19 = .ok (.aload_n 0, 1) := by decide +kernel
theorem dX9_play_20 : decode cX9_play 20 = .ok (.getfield 16, 3) := by decide +kernel
theorem dX9_play_23 : decode cX9_play 23 = .ok (.iload_n 1, 1) := by decide +kernel
theorem dX9_play_24 : decode cX9_play 24 = .ok (.laload, 1) := by decide +kernel
theorem dX9_play_25 : decode cX9_play 25 = .ok (.invokestatic 158, 3) := by decide +kernel
theorem dX9_play_28 : decode cX9_play 28 = .ok (.istore_n 2, 1) := by decide +kernel
theorem dX9_play_29 : decode cX9_play 29 = .ok (.iconst (-1), 1) := by decide +kernel
theorem dX9_play_30 : decode cX9_play 30 = .ok (.istore_n 3, 1) := by decide +kernel
theorem dX9_play_31 : decode cX9_play 31 = .ok (.iconst (-1), 1) := by decide +kernel
theorem dX9_play_32 : decode cX9_play 32 = .ok (.istore 4, 2) := by decide +kernel
theorem dX9_play_34 : decode cX9_play 34 = .ok (.iconst 1, 1) := by decide +kernel
theorem dX9_play_35 : decode cX9_play 35 = .ok (.istore 5, 2) := by decide +kernel
theorem dX9_play_37 : decode cX9_play 37 = .ok (.iload 5, 2) := by decide +kernel
theorem dX9_play_39 : decode cX9_play 39 = .ok (.ifCond .eq 127, 3) := by decide +kernel
theorem dX9_play_42 : decode cX9_play 42 = .ok (.aload_n 0, 1) := by decide +kernel
theorem dX9_play_43 : decode cX9_play 43 = .ok (.iconst (-1), 1) := by decide +kernel
theorem dX9_play_44 : decode cX9_play 44 = .ok (.invokevirtual 96, 3) := by decide +kernel
theorem dX9_play_47 : decode cX9_play 47 = .ok (.ifCond .lt 119, 3) := by decide +kernel
theorem dX9_play_50 : decode cX9_play 50 = .ok (.iconst 0, 1) := by decide +kernel
theorem dX9_play_51 : decode cX9_play 51 = .ok (.istore 5, 2) := by decide +kernel
theorem dX9_play_53 : decode cX9_play 53 = .ok (.aload_n 0, 1) := by decide +kernel
theorem dX9_play_54 : decode cX9_play 54 = .ok (.invokevirtual 146, 3) := by decide +kernel
theorem dX9_play_57 : decode cX9_play 57 = .ok (.lstore 6, 2) := by decide +kernel
theorem dX9_play_59 : decode cX9_play 59 = .ok (.iconst 0, 1) := by decide +kernel
theorem dX9_play_60 : decode cX9_play 60 = .ok (.istore 8, 2) := by decide +kernel
theorem dX9_play_62 : decode cX9_play 62 = .ok (.iload 8, 2) := by decide +kernel
theorem dX9_play_64 : decode cX9_play 64 = .ok (.aload_n 0, 1) := by decide +kernel
theorem dX9_play_65 : decode cX9_play 65 = .ok (.getfield 9, 3) := by decide +kernel
theorem dX9_play_68 : decode cX9_play 68 = .ok (.iconst 0, 1) := by decide +kernel
theorem dX9_play_69 : decode cX9_play 69 = .ok (.iaload, 1) := by decide +kernel
theorem dX9_play_70 : decode cX9_play 70 = .ok (.if_icmp .ge 71, 3) := by decide +kernel
theorem dX9_play_73 : decode cX9_play 73 = .ok (.aload_n 0, 1) := by decide +kernel
theorem dX9_play_74 : decode cX9_play 74 = .ok (.iload 8, 2) := by decide +kernel
theorem dX9_play_76 : decode cX9_play 76 = .ok (.iconst 2, 1) := by decide +kernel
theorem dX9_play_77 : decode cX9_play 77 = .ok (.invokevirtual 99, 3) := by decide +kernel
theorem dX9_play_80 : decode cX9_play 80 = .ok (.iconst 1, 1) := by decide +kernel
theorem dX9_play_81 : decode cX9_play 81 = .ok (.if_icmp .eq 12, 3) := by decide +kernel
theorem dX9_play_84 : decode cX9_play 84 = .ok (.aload_n 0, 1) := by decide +kernel
theorem dX9_play_85 : decode cX9_play 85 = .ok (.iload 8, 2) := by decide +kernel
theorem dX9_play_87 : decode cX9_play 87 = .ok (.invokevirtual 96, 3) := by decide +kernel
theorem dX9_play_90 : decode cX9_play 90 = .ok (.ifCond .lt 8, 3) := by decide +kernel
theorem dX9_play_93 : decode cX9_play 93 = .ok (.bipush 65, 2) := by decide +kernel
theorem dX9_play_95 : decode cX9_play 95 = .ok (.goto 17, 3) := by decide +kernel
theorem dX9_play_98 : decode cX9_play 98 = .ok (.aload_n 0, 1) := by decide +kernel
theorem dX9_play_99 : decode cX9_play 99 = .ok (.iload 8, 2) := by decide +kernel
theorem dX9_play_101 : decode cX9_play 101 = .ok (.lload 6, 2) := by decide +kernel
theorem dX9_play_103 : decode cX9_play 103 = .ok (.aload_n 0, 1) := by decide +kernel
theorem dX9_play_104 : decode cX9_play 104 = .ok (.getfield 16, 3) := by decide +kernel
theorem dX9_play_107 : decode cX9_play 107 = .ok (.iload_n 1, 1) := by decide +kernel
theorem dX9_play_108 : decode cX9_play 108 = .ok (.laload, 1) := by decide +kernel
theorem dX9_play_109 : decode cX9_play 109 = .ok (.invokevirtual 176, 3) := by decide +kernel
theorem dX9_play_112 : decode cX9_play 112 = .ok (.istore 9, 2) := by decide +kernel
theorem dX9_play_114 : decode cX9_play 114 = .ok (.iload 9, 2) := by decide +kernel
theorem dX9_play_116 : decode cX9_play 116 = .ok (.iload_n 2, 1) := by decide +kernel
theorem dX9_play_117 : decode cX9_play 117 = .ok (.if_icmp .ge 18, 3) := by decide +kernel
theorem dX9_play_120 : decode cX9_play 120 = .ok (.iload 9, 2) := by decide +kernel
theorem dX9_play_122 : decode cX9_play 122 = .ok (.istore_n 2, 1) := by decide +kernel
theorem dX9_play_123 : decode cX9_play 123 = .ok (.iload 8, 2) := by decide +kernel
theorem dX9_play_125 : decode cX9_play 125 = .ok (.istore_n 3, 1) := by decide +kernel
theorem dX9_play_126 : decode cX9_play 126 = .ok (.aload_n 0, 1) := by decide +kernel
theorem dX9_play_127 : decode cX9_play 127 = .ok (.getfield 167, 3) := by decide +kernel
theorem dX9_play_130 : decode cX9_play 130 = .ok (.istore 4, 2) := by decide +kernel
theorem dX9_play_132 : decode cX9_play 132 = .ok (.iconst 1, 1) := by decide +kernel
theorem dX9_play_133 : decode cX9_play 133 = .ok (.istore 5, 2) := by decide +kernel
theorem dX9_play_135 : decode cX9_play 135 = .ok (.iinc 8 1, 3) := by decide +kernel
theorem dX9_play_138 : decode cX9_play 138 = .ok (.goto (-76), 3) := by decide +kernel
theorem dX9_play_141 : decode cX9_play 141 = .ok (.iload 5, 2) := by decide +kernel
theorem dX9_play_143 : decode cX9_play 143 = .ok (.ifCond .eq 20, 3) := by decide +kernel
theorem dX9_play_146 : decode cX9_play 146 = .ok (.aload_n 0, 1) := by decide +kernel
theorem dX9_play_147 : decode cX9_play 147 = .ok (.iload_n 3, 1) := by decide +kernel
theorem dX9_play_148 : decode cX9_play 148 = .ok (.iload 4, 2) := by decide +kernel
theorem dX9_play_150 : decode cX9_play 150 = .ok (.invokevirtual 134, 3) := by decide +kernel
theorem dX9_play_153 : decode cX9_play 153 = .ok (.ifCond .lt 7, 3) := by decide +kernel
theorem dX9_play_156 : decode cX9_play 156 = .ok (.iconst 1, 1) := by decide +kernel
theorem dX9_play_157 : decode cX9_play 157 = .ok (.goto 4, 3) := by decide +kernel
theorem dX9_play_160 : decode cX9_play 160 = .ok (.iconst 0, 1) := by decide +kernel
theorem dX9_play_161 : decode cX9_play 161 = .ok (.istore 5, 2) := by decide +kernel
theorem dX9_play_163 : decode cX9_play 163 = .ok (.goto (-126), 3) := by decide +kernel
theorem dX9_play_166 : decode cX9_play 166 = .ok (.iload_n 2, 1) := by decide +kernel
theorem dX9_play_167 : decode cX9_play 167 = .ok (.ireturn, 1) := by decide +kernel
set_option maxRecDepth 20000 in
theorem ggX9_fits_X9_isShape : GoodIn wsX9_fits wsX9_isShape := goodIn_r _ [8, 9, 10, 11, 7, 12, 55, 56, 57, 58, 59, 60, 61, 62, 63, 64, 65, 66, 67, 68, 69, 70, 71, 72, 73, 74, 75, 76, 77, 78, 79, 80, 81, 82] (by decide +kernel) (by decide +kernel)
set_option maxRecDepth 20000 in
theorem gX9_fits_X9_isShape : GoodIn wsX9_fits (wsV RX9 93 RX9 yX9_isShape wsX9_isShape) := goodIn_app (goodIn_of _ (by decide +kernel)) ggX9_fits_X9_isShape
set_option maxRecDepth 20000 in
theorem ggX9_fits_X9_isScene : GoodIn wsX9_fits wsX9_isScene := goodIn_r _ [16, 9, 10, 11, 7, 12, 55, 56, 57, 58, 59, 60, 61, 62, 63, 64, 65, 66, 67, 68, 69, 70, 71, 72, 73, 74, 75, 76, 77, 78, 79, 80, 81, 82] (by decide +kernel) (by decide +kernel)
set_option maxRecDepth 20000 in
theorem gX9_fits_X9_isScene : GoodIn wsX9_fits (wsV RX9 155 RX9 yX9_isScene wsX9_isScene) := goodIn_app (goodIn_of _ (by decide +kernel)) ggX9_fits_X9_isScene
set_option maxRecDepth 20000 in
theorem ggX9_fits_X9_finding : GoodIn wsX9_fits wsX9_finding := goodIn_r _ [20, 21, 1, 55, 56, 57, 58, 59, 60, 61, 62, 63, 64, 65, 66, 67, 68, 69, 70, 71, 72, 73, 74, 75, 76, 77, 78, 79, 80, 81, 82] (by decide +kernel) (by decide +kernel)
set_option maxRecDepth 20000 in
theorem gX9_fits_X9_finding : GoodIn wsX9_fits (wsV RX9 84 RX9 yX9_finding wsX9_finding) := goodIn_app (goodIn_of _ (by decide +kernel)) ggX9_fits_X9_finding
set_option maxRecDepth 20000 in
theorem ggX9_fits_X9_isAllowed : GoodIn wsX9_fits wsX9_isAllowed := goodIn_r _ [25, 9, 26, 27, 7, 28, 10, 11, 12, 55, 56, 57, 58, 59, 60, 61, 62, 63, 64, 65, 66, 67, 68, 69, 70, 71, 72, 73, 74, 75, 76, 77, 78, 79, 80, 81, 82] (by decide +kernel) (by decide +kernel)
set_option maxRecDepth 20000 in
theorem gX9_fits_X9_isAllowed : GoodIn wsX9_fits (wsV RX9 164 RX9 yX9_isAllowed wsX9_isAllowed) := goodIn_app (goodIn_of _ (by decide +kernel)) ggX9_fits_X9_isAllowed
set_option maxRecDepth 20000 in
theorem ggX9_fits_X9_shadowOf : GoodIn wsX9_fits wsX9_shadowOf := goodIn_r _ [32, 33, 34, 35, 7, 36, 9, 37, 38, 39, 40, 41, 42, 43, 44, 45, 10, 11, 12, 46, 47, 48, 49, 50, 51, 52, 53, 54, 55, 56, 57, 58, 59, 60, 61, 62, 63, 64, 65, 66, 67, 68, 69, 70, 71, 72, 73, 74, 75, 76, 77, 78, 79, 80, 81, 82] (by decide +kernel) (by decide +kernel)
set_option maxRecDepth 20000 in
theorem gX9_fits_X9_shadowOf : GoodIn wsX9_fits (wsV RX9 129 RX9 yX9_shadowOf wsX9_shadowOf) := goodIn_app (goodIn_of _ (by decide +kernel)) ggX9_fits_X9_shadowOf
theorem dX9_fits_0 : decode cX9_fits 0 = .ok (.aload_n 0, 1) := by decide +kernel
theorem dX9_fits_1 : decode cX9_fits 1 = .ok (.iload_n 1, 1) := by decide +kernel
theorem dX9_fits_2 : decode cX9_fits 2 = .ok (.invokevirtual 93, 3) := by decide +kernel
theorem dX9_fits_5 : decode cX9_fits 5 = .ok (.ifCond .eq 11, 3) := by decide +kernel
theorem dX9_fits_8 : decode cX9_fits 8 = .ok (.aload_n 0, 1) := by decide +kernel
theorem dX9_fits_9 : decode cX9_fits 9 = .ok (.iload_n 2, 1) := by decide +kernel
theorem dX9_fits_10 : decode cX9_fits 10 = .ok (.invokevirtual 155, 3) := by decide +kernel
theorem dX9_fits_13 : decode cX9_fits 13 = .ok (.ifCond .ne 10, 3) := by decide +kernel
theorem dX9_fits_16 : decode cX9_fits 16 = .ok (.aload_n 0, 1) := by decide +kernel
theorem dX9_fits_17 : decode cX9_fits 17 = .ok (.ldc 74, 2) := by decide +kernel
theorem dX9_fits_19 : decode cX9_fits 19 = .ok (.invokevirtual 84, 3) := by decide +kernel
theorem dX9_fits_22 : decode cX9_fits 22 = .ok (.ireturn, 1) := by decide +kernel
theorem dX9_fits_23 : decode cX9_fits 23 = .ok (.iconst 0, 1) := by decide +kernel
theorem dX9_fits_24 : decode cX9_fits 24 = .ok (.istore_n 3, 1) := by decide +kernel
theorem dX9_fits_25 : decode cX9_fits 25 = .ok (.sipush 4000, 3) := by decide +kernel
theorem dX9_fits_28 : decode cX9_fits 28 = .ok (.istore 4, 2) := by decide +kernel
theorem dX9_fits_30 : decode cX9_fits 30 = .ok (.iload 4, 2) := by decide +kernel
theorem dX9_fits_32 : decode cX9_fits 32 = .ok (.sipush 11077, 3) := by decide +kernel
theorem dX9_fits_35 : decode cX9_fits 35 = .ok (.if_icmp .gt 60, 3) := by decide +kernel
theorem dX9_fits_38 : decode cX9_fits 38 = .ok (.aload_n 0, 1) := by decide +kernel
theorem dX9_fits_39 : decode cX9_fits 39 = .ok (.iload 4, 2) := by decide +kernel
theorem dX9_fits_41 : decode cX9_fits 41 = .ok (.invokevirtual 164, 3) := by decide +kernel
theorem dX9_fits_44 : decode cX9_fits 44 = .ok (.ifCond .eq 45, 3) := by decide +kernel
theorem dX9_fits_47 : decode cX9_fits 47 = .ok (.aload_n 0, 1) := by decide +kernel
theorem dX9_fits_48 : decode cX9_fits 48 = .ok (.iload_n 1, 1) := by decide +kernel
theorem dX9_fits_49 : decode cX9_fits 49 = .ok (.iload 4, 2) := by decide +kernel
theorem dX9_fits_51 : decode cX9_fits 51 = .ok (.invokevirtual 129, 3) := by decide +kernel
theorem dX9_fits_54 : decode cX9_fits 54 = .ok (.lstore 5, 2) := by decide +kernel
theorem dX9_fits_56 : decode cX9_fits 56 = .ok (.iload_n 3, 1) := by decide +kernel
theorem dX9_fits_57 : decode cX9_fits 57 = .ok (.lload 5, 2) := by decide +kernel
theorem dX9_fits_59 : decode cX9_fits 59 = .ok (.lconst 0, 1) := by decide +kernel
theorem dX9_fits_60 : decode cX9_fits 60 = .ok (.lcmp, 1) := by decide +kernel
theorem dX9_fits_61 : decode cX9_fits 61 = .ok (.ifCond .eq 25, 3) := by decide +kernel
theorem dX9_fits_64 : decode cX9_fits 64 = .ok (.lload 5, 2) := by decide +kernel
theorem dX9_fits_66 : decode cX9_fits 66 = .ok (.aload_n 0, 1) := by decide +kernel
theorem dX9_fits_67 : decode cX9_fits 67 = .ok (.getfield 16, 3) := by decide +kernel
theorem dX9_fits_70 : decode cX9_fits 70 = .ok (.iload_n 2, 1) := by decide +kernel
theorem dX9_fits_71 : decode cX9_fits 71 = .ok (.laload, 1) := by decide +kernel
theorem dX9_fits_72 : decode cX9_fits 72 = .ok (.ldc2_w 144, 3) := by decide +kernel
theorem dX9_fits_75 : decode cX9_fits 75 = .ok (.lxor, 1) := by decide +kernel
theorem dX9_fits_76 : decode cX9_fits 76 = .ok (.land, 1) := by decide +kernel
theorem dX9_fits_77 : decode cX9_fits 77 = .ok (.lconst 0, 1) := by decide +kernel
theorem dX9_fits_78 : decode cX9_fits 78 = .ok (.lcmp, 1) := by decide +kernel
theorem dX9_fits_79 : decode cX9_fits 79 = .ok (.ifCond .ne 7, 3) := by decide +kernel
theorem dX9_fits_82 : decode cX9_fits 82 = .ok (.iconst 1, 1) := by decide +kernel
theorem dX9_fits_83 : decode cX9_fits 83 = .ok (.goto 4, 3) := by decide +kernel
theorem dX9_fits_86 : decode cX9_fits 86 = .ok (.iconst 0, 1) := by decide +kernel
theorem dX9_fits_87 : decode cX9_fits 87 = .ok (.iadd, 1) := by decide +kernel
theorem dX9_fits_88 : decode cX9_fits 88 = .ok (.istore_n 3, 1) := by decide +kernel
theorem dX9_fits_89 : decode cX9_fits 89 = .ok (.iinc 4 1, 3) := by decide +kernel
theorem dX9_fits_92 : decode cX9_fits 92 = .ok (.goto (-62), 3) := by decide +kernel
theorem dX9_fits_95 : decode cX9_fits 95 = .ok (.iload_n 3, 1) := by decide +kernel
theorem dX9_fits_96 : decode cX9_fits 96 = .ok (.ireturn, 1) := by decide +kernel
set_option maxRecDepth 20000 in
theorem ggX9_taken_X9_isScene : GoodIn wsX9_taken wsX9_isScene := goodIn_r _ [8, 2, 9, 10, 7, 11, 20, 21, 22, 23, 24, 25, 26, 27, 28, 29, 30, 31, 32, 33, 34, 35, 36, 37, 38, 39, 40, 41, 42, 43, 44, 45, 46, 47] (by decide +kernel) (by decide +kernel)
set_option maxRecDepth 20000 in
theorem gX9_taken_X9_isScene : GoodIn wsX9_taken (wsV RX9 155 RX9 yX9_isScene wsX9_isScene) := goodIn_app (goodIn_of _ (by decide +kernel)) ggX9_taken_X9_isScene
set_option maxRecDepth 20000 in
theorem ggX9_taken_X9_within : GoodIn wsX9_taken wsX9_within := goodIn_r _ [11] (by decide +kernel) (by decide +kernel)
set_option maxRecDepth 20000 in
theorem gX9_taken_X9_within : GoodIn wsX9_taken (va_wsS RX9 75 yX9_within wsX9_within) := goodIn_app (goodIn_of _ (by decide +kernel)) ggX9_taken_X9_within
set_option maxRecDepth 20000 in
theorem ggX9_taken_X9_finding : GoodIn wsX9_taken wsX9_finding := goodIn_r _ [15, 16, 1, 20, 21, 22, 23, 24, 25, 26, 27, 28, 29, 30, 31, 32, 33, 34, 35, 36, 37, 38, 39, 40, 41, 42, 43, 44, 45, 46, 47] (by decide +kernel) (by decide +kernel)
set_option maxRecDepth 20000 in
theorem gX9_taken_X9_finding : GoodIn wsX9_taken (wsV RX9 84 RX9 yX9_finding wsX9_finding) := goodIn_app (goodIn_of _ (by decide +kernel)) ggX9_taken_X9_finding
set_option maxRecDepth 20000 in
theorem ggX9_taken_X9_bits : GoodIn wsX9_taken wsX9_bits := goodIn_r _ [19] (by decide +kernel) (by decide +kernel)
set_option maxRecDepth 20000 in
theorem gX9_taken_X9_bits : GoodIn wsX9_taken (va_wsS RX9 158 yX9_bits wsX9_bits) := goodIn_app (goodIn_of _ (by decide +kernel)) ggX9_taken_X9_bits
theorem dX9_taken_0 : decode cX9_taken 0 = .ok (.aload_n 0, 1) := by decide +kernel
theorem dX9_taken_1 : decode cX9_taken 1 = .ok (.iload_n 1, 1) := by decide +kernel
theorem dX9_taken_2 : decode cX9_taken 2 = .ok (.invokevirtual 155, 3) := by decide +kernel
theorem dX9_taken_5 : decode cX9_taken 5 = .ok (.ifCond .eq 13, 3) := by decide +kernel
theorem dX9_taken_8 : decode cX9_taken 8 = .ok (.iload_n 2, 1) := by decide +kernel
theorem dX9_taken_9 : decode cX9_taken 9 = .ok (.iconst 0, 1) := by decide +kernel
theorem dX9_taken_10 : decode cX9_taken 10 = .ok (.bipush 64, 2) := by decide +kernel
theorem dX9_taken_12 : decode cX9_taken 12 = .ok (.invokestatic 75, 3) := by decide +kernel
theorem dX9_taken_15 : decode cX9_taken 15 = .ok (.ifCond .ne 10, 3) := by decide +kernel
theorem dX9_taken_18 : decode cX9_taken 18 = .ok (.aload_n 0, 1) := by decide +kernel
theorem dX9_taken_19 : decode cX9_taken 19 = .ok (.ldc 74, 2) := by decide +kernel
theorem dX9_taken_21 : decode cX9_taken 21 = .ok (.invokevirtual 84, 3) := by decide +kernel
theorem dX9_taken_24 : decode cX9_taken 24 = .ok (.ireturn, 1) := by decide +kernel
theorem dX9_taken_25 : decode cX9_taken 25 = .ok (.iconst 0, 1) := by decide +kernel
theorem dX9_taken_26 : decode cX9_taken 26 = .ok (.istore_n 3, 1) := by decide +kernel
theorem dX9_taken_27 : decode cX9_taken 27 = .ok (.iconst 0, 1) := by decide +kernel
theorem dX9_taken_28 : decode cX9_taken 28 = .ok (.istore 4, 2) := by decide +kernel
theorem dX9_taken_30 : decode cX9_taken 30 = .ok (.iload 4, 2) := by decide +kernel
theorem dX9_taken_32 : decode cX9_taken 32 = .ok (.aload_n 0, 1) := by decide +kernel
theorem dX9_taken_33 : decode cX9_taken 33 = .ok (.getfield 9, 3) := by decide +kernel
theorem dX9_taken_36 : decode cX9_taken 36 = .ok (.iconst 1, 1) := by decide +kernel
theorem dX9_taken_37 : decode cX9_taken 37 = .ok (.iaload, 1) := by decide +kernel
theorem dX9_taken_38 : decode cX9_taken 38 = .ok (.if_icmp .ge 47, 3) := by decide +kernel
theorem dX9_taken_41 : decode cX9_taken 41 = .ok (.iload_n 3, 1) := by decide +kernel
theorem dX9_taken_42 : decode cX9_taken 42 = .ok (.iload 4, 2) := by decide +kernel
theorem dX9_taken_44 : decode cX9_taken 44 = .ok (.iload_n 1, 1) := by decide +kernel
theorem dX9_taken_45 : decode cX9_taken 45 = .ok (.if_icmp .eq 31, 3) := by decide +kernel
theorem dX9_taken_48 : decode cX9_taken 48 = .ok (.aload_n 0, 1) := by decide +kernel
theorem dX9_taken_49 : decode cX9_taken 49 = .ok (.getfield 16, 3) := by decide +kernel
theorem dX9_taken_52 : decode cX9_taken 52 = .ok (.iload 4, 2) := by decide +kernel
theorem dX9_taken_54 : decode cX9_taken 54 = .ok (.laload, 1) := by decide +kernel
theorem dX9_taken_55 : decode cX9_taken 55 = .ok (.aload_n 0, 1) := by decide +kernel
theorem dX9_taken_56 : decode cX9_taken 56 = .ok (.getfield 16, 3) := by decide +kernel
theorem dX9_taken_59 : decode cX9_taken 59 = .ok (.iload_n 1, 1) := by decide +kernel
theorem dX9_taken_60 : decode cX9_taken 60 = .ok (.laload, 1) := by decide +kernel
theorem dX9_taken_61 : decode cX9_taken 61 = .ok (.lxor, 1) := by decide +kernel
theorem dX9_taken_62 : decode cX9_taken 62 = .ok (.invokestatic 158, 3) := by decide +kernel
theorem dX9_taken_65 : decode cX9_taken 65 = .ok (.iload_n 2, 1) := by decide +kernel
theorem dX9_taken_66 : decode cX9_taken 66 = .ok (.if_icmp .gt 10, 3) := by decide +kernel
theorem dX9_taken_69 : decode cX9_taken 69 = .ok (.iconst 1, 1) := by decide +kernel
theorem dX9_taken_70 : decode cX9_taken 70 = .ok (.iload 4, 2) := by decide +kernel
theorem dX9_taken_72 : decode cX9_taken 72 = .ok (.ishl, 1) := by decide +kernel
theorem dX9_taken_73 : decode cX9_taken 73 = .ok (.goto 4, 3) := by decide +kernel
theorem dX9_taken_76 : decode cX9_taken 76 = .ok (.iconst 0, 1) := by decide +kernel
theorem dX9_taken_77 : decode cX9_taken 77 = .ok (.ior, 1) := by decide +kernel
theorem dX9_taken_78 : decode cX9_taken 78 = .ok (.istore_n 3, 1) := by decide +kernel
theorem dX9_taken_79 : decode cX9_taken 79 = .ok (.iinc 4 1, 3) := by decide +kernel
theorem dX9_taken_82 : decode cX9_taken 82 = .ok (.goto (-52), 3) := by decide +kernel
theorem dX9_taken_85 : decode cX9_taken 85 = .ok (.iload_n 3, 1) := by decide +kernel
theorem dX9_taken_86 : decode cX9_taken 86 = .ok (.ireturn, 1) := by decide +kernel
set_option maxRecDepth 20000 in
theorem ggX9_seen_X9_dark : GoodIn wsX9_seen wsX9_dark := goodIn_r _ [12, 13, 14, 15, 11, 16, 17, 18, 19, 20, 1, 21, 22, 23, 24, 25, 26, 27, 28, 29, 30, 31, 32, 33, 34, 35, 36, 37, 38, 39, 40, 41, 42, 43, 44, 45, 46, 47, 48, 49, 59, 60, 61, 62, 63, 64, 65, 66, 67, 68, 69, 70, 71, 72, 73, 74, 75, 76, 77, 78, 79, 80, 81, 82, 83, 84, 85, 86] (by decide +kernel) (by decide +kernel)
set_option maxRecDepth 20000 in
theorem gX9_seen_X9_dark : GoodIn wsX9_seen (wsV RX9 146 RX9 yX9_dark wsX9_dark) := goodIn_app (goodIn_of _ (by decide +kernel)) ggX9_seen_X9_dark
set_option maxRecDepth 20000 in
theorem ggX9_seen_X9_bits : GoodIn wsX9_seen wsX9_bits := goodIn_r _ [52] (by decide +kernel) (by decide +kernel)
set_option maxRecDepth 20000 in
theorem gX9_seen_X9_bits : GoodIn wsX9_seen (va_wsS RX9 158 yX9_bits wsX9_bits) := goodIn_app (goodIn_of _ (by decide +kernel)) ggX9_seen_X9_bits
set_option maxRecDepth 20000 in
theorem ggX9_seen_X9_finding : GoodIn wsX9_seen wsX9_finding := goodIn_r _ [56, 57, 58, 59, 60, 61, 62, 63, 64, 65, 66, 67, 68, 69, 70, 71, 72, 73, 74, 75, 76, 77, 78, 79, 80, 81, 82, 83, 84, 85, 86] (by decide +kernel) (by decide +kernel)
set_option maxRecDepth 20000 in
theorem gX9_seen_X9_finding : GoodIn wsX9_seen (wsV RX9 84 RX9 yX9_finding wsX9_finding) := goodIn_app (goodIn_of _ (by decide +kernel)) ggX9_seen_X9_finding
theorem dX9_seen_0 : decode cX9_seen 0 = .ok (.iconst (-1), 1) := by decide +kernel
theorem dX9_seen_1 : decode cX9_seen 1 = .ok (.istore_n 1, 1) := by decide +kernel
theorem dX9_seen_2 : decode cX9_seen 2 = .ok (.bipush 65, 2) := by decide +kernel
theorem dX9_seen_4 : decode cX9_seen 4 = .ok (.istore_n 2, 1) := by decide +kernel
theorem dX9_seen_5 : decode cX9_seen 5 = .ok (.iconst 0, 1) := by decide +kernel
theorem dX9_seen_6 : decode cX9_seen 6 = .ok (.istore_n 3, 1) := by decide +kernel
theorem dX9_seen_7 : decode cX9_seen 7 = .ok (.iload_n 3, 1) := by decide +kernel
theorem dX9_seen_8 : decode cX9_seen 8 = .ok (.aload_n 0, 1) := by decide +kernel
theorem dX9_seen_9 : decode cX9_seen 9 = .ok (.getfield 9, 3) := by decide +kernel
theorem dX9_seen_12 : decode cX9_seen 12 = .ok (.iconst 1, 1) := by decide +kernel
theorem dX9_seen_13 : decode cX9_seen 13 = .ok (.iaload, 1) := by decide +kernel
theorem dX9_seen_14 : decode cX9_seen 14 = .ok (.if_icmp .ge 44, 3) := by decide +kernel
theorem dX9_seen_17 : decode cX9_seen 17 = .ok (.aload_n 0, 1) := by decide +kernel
theorem dX9_seen_18 : decode cX9_seen 18 = .ok (.getfield 16, 3) := by decide +kernel
theorem dX9_seen_21 : decode cX9_seen 21 = .ok (.iload_n 3, 1) := by decide +kernel
theorem dX9_seen_22 : decode cX9_seen 22 = .ok (.laload, 1) := by decide +kernel
theorem dX9_seen_23 : decode cX9_seen 23 = .ok (.aload_n 0, 1) := by decide +kernel
theorem dX9_seen_24 : decode cX9_seen 24 = .ok (.invokevirtual 146, 3) := by decide +kernel
theorem dX9_seen_27 : decode cX9_seen 27 = .ok (.lxor, 1) := by decide +kernel
theorem dX9_seen_28 : decode cX9_seen 28 = .ok (.invokestatic 158, 3) := by decide +kernel
theorem dX9_seen_31 : decode cX9_seen 31 = .ok (.istore 4, 2) := by decide +kernel
theorem dX9_seen_33 : decode cX9_seen 33 = .ok (.iload 4, 2) := by decide +kernel
theorem dX9_seen_35 : decode cX9_seen 35 = .ok (.iload_n 2, 1) := by decide +kernel
theorem dX9_seen_36 : decode cX9_seen 36 = .ok (.if_icmp .ge 7, 3) := by decide +kernel
theorem dX9_seen_39 : decode cX9_seen 39 = .ok (.iload_n 3, 1) := by decide +kernel
theorem dX9_seen_40 : decode cX9_seen 40 = .ok (.goto 4, 3) := by decide +kernel
theorem dX9_seen_43 : decode cX9_seen 43 = .ok (.iload_n 1, 1) := by decide +kernel
theorem dX9_seen_44 : decode cX9_seen 44 = .ok (.istore_n 1, 1) := by decide +kernel
theorem dX9_seen_45 : decode cX9_seen 45 = .ok (.iload_n 2, 1) := by decide +kernel
theorem dX9_seen_46 : decode cX9_seen 46 = .ok (.iload 4, 2) := by decide +kernel
theorem dX9_seen_48 : decode cX9_seen 48 = .ok (.invokestatic 171, 3) := by decide +kernel
theorem dX9_seen_51 : decode cX9_seen 51 = .ok (.istore_n 2, 1) := by decide +kernel
theorem dX9_seen_52 : decode cX9_seen 52 = .ok (.iinc 3 1, 3) := by decide +kernel
theorem dX9_seen_55 : decode cX9_seen 55 = .ok (.goto (-48), 3) := by decide +kernel
theorem dX9_seen_58 : decode cX9_seen 58 = .ok (.iload_n 1, 1) := by decide +kernel
theorem dX9_seen_59 : decode cX9_seen 59 = .ok (.ifCond .ge 12, 3) := by decide +kernel
theorem dX9_seen_62 : decode cX9_seen 62 = .ok (.aload_n 0, 1) := by decide +kernel
theorem dX9_seen_63 : decode cX9_seen 63 = .ok (.ldc 150, 2) := by decide +kernel
theorem dX9_seen_65 : decode cX9_seen 65 = .ok (.invokevirtual 84, 3) := by decide +kernel
theorem dX9_seen_68 : decode cX9_seen 68 = .ok (.goto 4, 3) := by decide +kernel
theorem dX9_seen_71 : decode cX9_seen 71 = .ok (.iload_n 1, 1) := by decide +kernel
theorem dX9_seen_72 : decode cX9_seen 72 = .ok (.ireturn, 1) := by decide +kernel
set_option maxRecDepth 20000 in
theorem ggX9_goOn_X9_changesOf : GoodIn wsX9_goOn wsX9_changesOf := goodIn_r _ [9, 10, 11, 12, 8, 13, 17, 18, 19, 20, 21, 22, 23, 24, 25, 26, 27, 28, 29, 30, 31, 32, 33, 34, 35, 36, 37, 38, 39, 40, 41, 42, 43, 44] (by decide +kernel) (by decide +kernel)
set_option maxRecDepth 20000 in
theorem gX9_goOn_X9_changesOf : GoodIn wsX9_goOn (wsV RX9 161 RX9 yX9_changesOf wsX9_changesOf) := goodIn_app (goodIn_of _ (by decide +kernel)) ggX9_goOn_X9_changesOf
set_option maxRecDepth 20000 in
theorem ggX9_goOn_X9_goOn : GoodIn wsX9_goOn wsX9_goOn := goodIn_r _ [0, 1, 2, 3, 4, 5, 6, 7, 8, 9, 10, 11, 12, 13, 14, 15, 16, 17, 18, 19, 20, 21, 22, 23, 24, 25, 26, 27, 28, 29, 30, 31, 32, 33, 34, 35, 36, 37, 38, 39, 40, 41, 42, 43, 44] (by decide +kernel) (by decide +kernel)
set_option maxRecDepth 20000 in
theorem gX9_goOn_X9_goOn : GoodIn wsX9_goOn (wsV RX9 183 RX9 yX9_goOn wsX9_goOn) := goodIn_app (goodIn_of _ (by decide +kernel)) ggX9_goOn_X9_goOn
theorem dX9_goOn_0 : decode cX9_goOn 0 = .ok (.iload_n 1, 1) := by decide +kernel
theorem dX9_goOn_1 : decode cX9_goOn 1 = .ok (.aload_n 0, 1) := by decide +kernel
theorem dX9_goOn_2 : decode cX9_goOn 2 = .ok (.getfield 9, 3) := by decide +kernel
theorem dX9_goOn_5 : decode cX9_goOn 5 = .ok (.iconst 1, 1) := by decide +kernel
theorem dX9_goOn_6 : decode cX9_goOn 6 = .ok (.iaload, 1) := by decide +kernel
theorem dX9_goOn_7 : decode cX9_goOn 7 = .ok (.if_icmp .ne 53, 3) := by decide +kernel
theorem dX9_goOn_10 : decode cX9_goOn 10 = .ok (.aload_n 0, 1) := by decide +kernel
theorem dX9_goOn_11 : decode cX9_goOn 11 = .ok (.getfield 180, 3) := by decide +kernel
theorem dX9_goOn_14 : decode cX9_goOn 14 = .ok (.ifCond .lt 11, 3) := by decide +kernel
theorem dX9_goOn_17 : decode cX9_goOn 17 = .ok (.iload_n 3, 1) := by decide +kernel
theorem dX9_goOn_18 : decode cX9_goOn 18 = .ok (.aload_n 0, 1) := by decide +kernel
theorem dX9_goOn_19 : decode cX9_goOn 19 = .ok (.getfield 180, 3) := by decide +kernel
theorem dX9_goOn_22 : decode cX9_goOn 22 = .ok (.if_icmp .ge 37, 3) := by decide +kernel
theorem dX9_goOn_25 : decode cX9_goOn 25 = .ok (.aload_n 0, 1) := by decide +kernel
theorem dX9_goOn_26 : decode cX9_goOn 26 = .ok (.iload_n 3, 1) := by decide +kernel
theorem dX9_goOn_27 : decode cX9_goOn 27 = .ok (.putfield 180, 3) := by decide +kernel
theorem dX9_goOn_30 : decode cX9_goOn 30 = .ok (.iconst 0, 1) := by decide +kernel
theorem dX9_goOn_31 : decode cX9_goOn 31 = .ok (.istore 4, 2) := by decide +kernel
theorem dX9_goOn_33 : decode cX9_goOn 33 = .ok (.iload 4, 2) := by decide +kernel
theorem dX9_goOn_35 : decode cX9_goOn 35 = .ok (.iload_n 1, 1) := by decide +kernel
theorem dX9_goOn_36 : decode cX9_goOn 36 = .ok (.if_icmp .ge 23, 3) := by decide +kernel
theorem dX9_goOn_39 : decode cX9_goOn 39 = .ok (.aload_n 0, 1) := by decide +kernel
theorem dX9_goOn_40 : decode cX9_goOn 40 = .ok (.getfield 29, 3) := by decide +kernel
theorem dX9_goOn_43 : decode cX9_goOn 43 = .ok (.iload 4, 2) := by decide +kernel
theorem dX9_goOn_45 : decode cX9_goOn 45 = .ok (.aload_n 0, 1) := by decide +kernel
theorem dX9_goOn_46 : decode cX9_goOn 46 = .ok (.getfield 26, 3) := by decide +kernel
theorem dX9_goOn_49 : decode cX9_goOn 49 = .ok (.iload 4, 2) := by decide +kernel
theorem dX9_goOn_51 : decode cX9_goOn 51 = .ok (.iaload, 1) := by decide +kernel
theorem dX9_goOn_52 : decode cX9_goOn 52 = .ok (.iastore, 1) := by decide +kernel
theorem dX9_goOn_53 : decode cX9_goOn 53 = .ok (.iinc 4 1, 3) := by decide +kernel
theorem dX9_goOn_56 : decode cX9_goOn 56 = .ok (.goto (-23), 3) := by decide +kernel
theorem dX9_goOn_59 : decode cX9_goOn 59 = .ok (.return_, 1) := by decide +kernel
theorem dX9_goOn_60 : decode cX9_goOn 60 = .ok (.iconst 0, 1) := by decide +kernel
theorem dX9_goOn_61 : decode cX9_goOn 61 = .ok (.istore 4, 2) := by decide +kernel
theorem dX9_goOn_63 : decode cX9_goOn 63 = .ok (.iload 4, 2) := by decide +kernel
theorem dX9_goOn_65 : decode cX9_goOn 65 = .ok (.aload_n 0, 1) := by decide +kernel
theorem dX9_goOn_66 : decode cX9_goOn 66 = .ok (.getfield 9, 3) := by decide +kernel
theorem dX9_goOn_69 : decode cX9_goOn 69 = .ok (.iconst 1, 1) := by decide +kernel
theorem dX9_goOn_70 : decode cX9_goOn 70 = .ok (.iaload, 1) := by decide +kernel
theorem dX9_goOn_71 : decode cX9_goOn 71 = .ok (.if_icmp .ge 63, 3) := by decide +kernel
theorem dX9_goOn_74 : decode cX9_goOn 74 = .ok (.iload_n 2, 1) := by decide +kernel
theorem dX9_goOn_75 : decode cX9_goOn 75 = .ok (.iload 4, 2) := by decide +kernel
theorem dX9_goOn_77 : decode cX9_goOn 77 = .ok (.ishr, 1) := by decide +kernel
theorem dX9_goOn_78 : decode cX9_goOn 78 = .ok (.iconst 1, 1) := by decide +kernel
theorem dX9_goOn_79 : decode cX9_goOn 79 = .ok (.iand, 1) := by decide +kernel
theorem dX9_goOn_80 : decode cX9_goOn 80 = .ok (.ifCond .ne 48, 3) := by decide +kernel
theorem dX9_goOn_83 : decode cX9_goOn 83 = .ok (.aload_n 0, 1) := by decide +kernel
theorem dX9_goOn_84 : decode cX9_goOn 84 = .ok (.getfield 26, 3) := by decide +kernel
theorem dX9_goOn_87 : decode cX9_goOn 87 = .ok (.iload_n 1, 1) := by decide +kernel
theorem dX9_goOn_88 : decode cX9_goOn 88 = .ok (.iload 4, 2) := by decide +kernel
theorem dX9_goOn_90 : decode cX9_goOn 90 = .ok (.iastore, 1) := by decide +kernel
theorem dX9_goOn_91 : decode cX9_goOn 91 = .ok (.aload_n 0, 1) := by decide +kernel
theorem dX9_goOn_92 : decode cX9_goOn 92 = .ok (.iload_n 1, 1) := by decide +kernel
theorem dX9_goOn_93 : decode cX9_goOn 93 = .ok (.iconst 1, 1) := by decide +kernel
theorem dX9_goOn_94 : decode cX9_goOn 94 = .ok (.iadd, 1) := by decide +kernel
theorem dX9_goOn_95 : decode cX9_goOn 95 = .ok (.iload_n 2, 1) := by decide +kernel
theorem dX9_goOn_96 : decode cX9_goOn 96 = .ok (.iconst 1, 1) := by decide +kernel
theorem dX9_goOn_97 : decode cX9_goOn 97 = .ok (.iload 4, 2) := by decide +kernel
theorem dX9_goOn_99 : decode cX9_goOn 99 = .ok (.ishl, 1) := by decide +kernel
theorem dX9_goOn_100 : decode cX9_goOn 100 = .ok (.ior, 1) := by decide +kernel
theorem dX9_goOn_101 : decode cX9_goOn 101 = .ok (.iload_n 3, 1) := by decide +kernel
theorem dX9_goOn_102 : decode cX9_goOn 102 = .ok (.iload_n 1, 1) := by decide +kernel
theorem dX9_goOn_103 : decode cX9_goOn 103 = .ok (.ifCond .ne 7, 3) := by decide +kernel
theorem dX9_goOn_106 : decode cX9_goOn 106 = .ok (.iconst 0, 1) := by decide +kernel
theorem dX9_goOn_107 : decode cX9_goOn 107 = .ok (.goto 17, 3) := by decide +kernel
theorem dX9_goOn_110 : decode cX9_goOn 110 = .ok (.aload_n 0, 1) := by decide +kernel
theorem dX9_goOn_111 : decode cX9_goOn 111 = .ok (.aload_n 0, 1) := by decide +kernel
theorem dX9_goOn_112 : decode cX9_goOn 112 = .ok (.getfield 26, 3) := by decide +kernel
theorem dX9_goOn_115 : decode cX9_goOn 115 = .ok (.iload_n 1, 1) := by decide +kernel
theorem dX9_goOn_116 : decode cX9_goOn 116 = .ok (.iconst 1, 1) := by decide +kernel
theorem dX9_goOn_117 : decode cX9_goOn 117 = .ok (.isub, 1) := by decide +kernel
theorem dX9_goOn_118 : decode cX9_goOn 118 = .ok (.iaload, 1) := by decide +kernel
theorem dX9_goOn_119 : decode cX9_goOn 119 = .ok (.iload 4, 2) := by decide +kernel
theorem dX9_goOn_121 : decode cX9_goOn 121 = .ok (.invokevirtual 161, 3) := by decide +kernel
theorem dX9_goOn_124 : decode cX9_goOn 124 = .ok (.iadd, 1) := by decide +kernel
theorem dX9_goOn_125 : decode cX9_goOn 125 = .ok (.invokevirtual 183, 3) := by decide +kernel
theorem dX9_goOn_128 : decode cX9_goOn 128 = .ok (.iinc 4 1, 3) := by decide +kernel
theorem dX9_goOn_131 : decode cX9_goOn 131 = .ok (.goto (-68), 3) := by decide +kernel
theorem dX9_goOn_134 : decode cX9_goOn 134 = .ok (.return_, 1) := by decide +kernel
set_option maxRecDepth 20000 in
theorem ggX9_order_X9_finding : GoodIn wsX9_order wsX9_finding := goodIn_r _ [11, 12, 1, 26, 27, 28, 29, 30, 31, 32, 33, 34, 35, 36, 37, 38, 39, 40, 41, 42, 43, 44, 45, 46, 47, 48, 49, 50, 51, 52, 53] (by decide +kernel) (by decide +kernel)
set_option maxRecDepth 20000 in
theorem gX9_order_X9_finding : GoodIn wsX9_order (wsV RX9 84 RX9 yX9_finding wsX9_finding) := goodIn_app (goodIn_of _ (by decide +kernel)) ggX9_order_X9_finding
set_option maxRecDepth 20000 in
theorem ggX9_order_X9_goOn : GoodIn wsX9_order wsX9_goOn := goodIn_r _ [16, 2, 5, 6, 17, 18, 19, 20, 10, 21, 22, 23, 24, 25, 13, 14, 15, 26, 27, 28, 29, 30, 31, 32, 33, 34, 35, 36, 37, 38, 39, 40, 41, 42, 43, 44, 45, 46, 47, 48, 49, 50, 51, 52, 53] (by decide +kernel) (by decide +kernel)
set_option maxRecDepth 20000 in
theorem gX9_order_X9_goOn : GoodIn wsX9_order (wsV RX9 183 RX9 yX9_goOn wsX9_goOn) := goodIn_app (goodIn_of _ (by decide +kernel)) ggX9_order_X9_goOn
theorem dX9_order_0 : decode cX9_order 0 = .ok (.iload_n 1, 1) := by decide +kernel
theorem dX9_order_1 : decode cX9_order 1 = .ok (.iconst (-1), 1) := by decide +kernel
theorem dX9_order_2 : decode cX9_order 2 = .ok (.if_icmp .ge 10, 3) := by decide +kernel
theorem dX9_order_5 : decode cX9_order 5 = .ok (.aload_n 0, 1) := by decide +kernel
theorem dX9_order_6 : decode cX9_order 6 = .ok (.ldc 74, 2) := by decide +kernel
theorem dX9_order_8 : decode cX9_order 8 = .ok (.invokevirtual 84, 3) := by decide +kernel
theorem dX9_order_11 : decode cX9_order 11 = .ok (.ireturn, 1) := by decide +kernel
theorem dX9_order_12 : decode cX9_order 12 = .ok (.aload_n 0, 1) := by decide +kernel
theorem dX9_order_13 : decode cX9_order 13 = .ok (.getfield 9, 3) := by decide +kernel
theorem dX9_order_16 : decode cX9_order 16 = .ok (.iconst 1, 1) := by decide +kernel
theorem dX9_order_17 : decode cX9_order 17 = .ok (.iaload, 1) := by decide +kernel
theorem dX9_order_18 : decode cX9_order 18 = .ok (.bipush 6, 2) := by decide +kernel
theorem dX9_order_20 : decode cX9_order 20 = .ok (.if_icmp .le 10, 3) := by decide +kernel
theorem dX9_order_23 : decode cX9_order 23 = .ok (.aload_n 0, 1) := by decide +kernel
theorem dX9_order_24 : decode cX9_order 24 = .ok (.ldc 187, 2) := by decide +kernel
theorem dX9_order_26 : decode cX9_order 26 = .ok (.invokevirtual 84, 3) := by decide +kernel
theorem dX9_order_29 : decode cX9_order 29 = .ok (.ireturn, 1) := by decide +kernel
theorem dX9_order_30 : decode cX9_order 30 = .ok (.iload_n 1, 1) := by decide +kernel
theorem dX9_order_31 : decode cX9_order 31 = .ok (.aload_n 0, 1) := by decide +kernel
theorem dX9_order_32 : decode cX9_order 32 = .ok (.getfield 9, 3) := by decide +kernel
theorem dX9_order_35 : decode cX9_order 35 = .ok (.iconst 1, 1) := by decide +kernel
theorem dX9_order_36 : decode cX9_order 36 = .ok (.iaload, 1) := by decide +kernel
theorem dX9_order_37 : decode cX9_order 37 = .ok (.if_icmp .lt 10, 3) := by decide +kernel
theorem dX9_order_40 : decode cX9_order 40 = .ok (.aload_n 0, 1) := by decide +kernel
theorem dX9_order_41 : decode cX9_order 41 = .ok (.ldc 150, 2) := by decide +kernel
theorem dX9_order_43 : decode cX9_order 43 = .ok (.invokevirtual 84, 3) := by decide +kernel
theorem dX9_order_46 : decode cX9_order 46 = .ok (.ireturn, 1) := by decide +kernel
theorem dX9_order_47 : decode cX9_order 47 = .ok (.aload_n 0, 1) := by decide +kernel
theorem dX9_order_48 : decode cX9_order 48 = .ok (.iconst (-1), 1) := by decide +kernel
theorem dX9_order_49 : decode cX9_order 49 = .ok (.putfield 180, 3) := by decide +kernel
theorem dX9_order_52 : decode cX9_order 52 = .ok (.aload_n 0, 1) := by decide +kernel
theorem dX9_order_53 : decode cX9_order 53 = .ok (.iconst 0, 1) := by decide +kernel
theorem dX9_order_54 : decode cX9_order 54 = .ok (.iconst 0, 1) := by decide +kernel
theorem dX9_order_55 : decode cX9_order 55 = .ok (.iconst 0, 1) := by decide +kernel
theorem dX9_order_56 : decode cX9_order 56 = .ok (.invokevirtual 183, 3) := by decide +kernel
theorem dX9_order_59 : decode cX9_order 59 = .ok (.iload_n 1, 1) := by decide +kernel
theorem dX9_order_60 : decode cX9_order 60 = .ok (.ifCond .ge 10, 3) := by decide +kernel
theorem dX9_order_63 : decode cX9_order 63 = .ok (.aload_n 0, 1) := by decide +kernel
theorem dX9_order_64 : decode cX9_order 64 = .ok (.getfield 180, 3) := by decide +kernel
theorem dX9_order_67 : decode cX9_order 67 = .ok (.goto 9, 3) := by decide +kernel
theorem dX9_order_70 : decode cX9_order 70 = .ok (.aload_n 0, 1) := by decide +kernel
theorem dX9_order_71 : decode cX9_order 71 = .ok (.getfield 29, 3) := by decide +kernel
theorem dX9_order_74 : decode cX9_order 74 = .ok (.iload_n 1, 1) := by decide +kernel
theorem dX9_order_75 : decode cX9_order 75 = .ok (.iaload, 1) := by decide +kernel
theorem dX9_order_76 : decode cX9_order 76 = .ok (.ireturn, 1) := by decide +kernel
set_option maxRecDepth 20000 in
theorem ggX9_closest_X9_bits : GoodIn wsX9_closest wsX9_bits := goodIn_r _ [11] (by decide +kernel) (by decide +kernel)
set_option maxRecDepth 20000 in
theorem gX9_closest_X9_bits : GoodIn wsX9_closest (va_wsS RX9 158 yX9_bits wsX9_bits) := goodIn_app (goodIn_of _ (by decide +kernel)) ggX9_closest_X9_bits
set_option maxRecDepth 20000 in
theorem ggX9_closest_X9_finding : GoodIn wsX9_closest wsX9_finding := goodIn_r _ [15, 16, 17, 18, 19, 20, 21, 22, 23, 24, 25, 26, 27, 28, 29, 30, 31, 32, 33, 34, 35, 36, 37, 38, 39, 40, 41, 42, 43, 44, 45] (by decide +kernel) (by decide +kernel)
set_option maxRecDepth 20000 in
theorem gX9_closest_X9_finding : GoodIn wsX9_closest (wsV RX9 84 RX9 yX9_finding wsX9_finding) := goodIn_app (goodIn_of _ (by decide +kernel)) ggX9_closest_X9_finding
theorem dX9_closest_0 : decode cX9_closest 0 = .ok (.bipush 65, 2) := by decide +kernel
theorem dX9_closest_2 : decode cX9_closest 2 = .ok (.istore_n 1, 1) := by decide +kernel
theorem dX9_closest_3 : decode cX9_closest 3 = .ok (.iconst 0, 1) := by decide +kernel
theorem dX9_closest_4 : decode cX9_closest 4 = .ok (.istore_n 2, 1) := by decide +kernel
theorem dX9_closest_5 : decode cX9_closest 5 = .ok (.iload_n 2, 1) := by decide +kernel
theorem dX9_closest_6 : decode cX9_closest 6 = .ok (.aload_n 0, 1) := by decide +kernel
theorem dX9_closest_7 : decode cX9_closest 7 = .ok (.getfield 9, 3) := by decide +kernel
theorem dX9_closest_10 : decode cX9_closest 10 = .ok (.iconst 1, 1) := by decide +kernel
theorem dX9_closest_11 : decode cX9_closest 11 = .ok (.iaload, 1) := by decide +kernel
theorem dX9_closest_12 : decode cX9_closest 12 = .ok (.if_icmp .ge 43, 3) := by decide +kernel
theorem dX9_closest_15 : decode cX9_closest 15 = .ok (.iconst 0, 1) := by decide +kernel
theorem dX9_closest_16 : decode cX9_closest 16 = .ok (.istore_n 3, 1) := by decide +kernel
theorem dX9_closest_17 : decode cX9_closest 17 = .ok (.iload_n 3, 1) := by decide +kernel
theorem dX9_closest_18 : decode cX9_closest 18 = .ok (.iload_n 2, 1) := by decide +kernel
theorem dX9_closest_19 : decode cX9_closest 19 = .ok (.if_icmp .ge 30, 3) := by decide +kernel
theorem dX9_closest_22 : decode cX9_closest 22 = .ok (.iload_n 1, 1) := by decide +kernel
theorem dX9_closest_23 : decode cX9_closest 23 = .ok (.aload_n 0, 1) := by decide +kernel
theorem dX9_closest_24 : decode cX9_closest 24 = .ok (.getfield 16, 3) := by decide +kernel
theorem dX9_closest_27 : decode cX9_closest 27 = .ok (.iload_n 2, 1) := by decide +kernel
theorem dX9_closest_28 : decode cX9_closest 28 = .ok (.laload, 1) := by decide +kernel
theorem dX9_closest_29 : decode cX9_closest 29 = .ok (.aload_n 0, 1) := by decide +kernel
theorem dX9_closest_30 : decode cX9_closest 30 = .ok (.getfield 16, 3) := by decide +kernel
theorem dX9_closest_33 : decode cX9_closest 33 = .ok (.iload_n 3, 1) := by decide +kernel
theorem dX9_closest_34 : decode cX9_closest 34 = .ok (.laload, 1) := by decide +kernel
theorem dX9_closest_35 : decode cX9_closest 35 = .ok (.lxor, 1) := by decide +kernel
theorem dX9_closest_36 : decode cX9_closest 36 = .ok (.invokestatic 158, 3) := by decide +kernel
theorem dX9_closest_39 : decode cX9_closest 39 = .ok (.invokestatic 171, 3) := by decide +kernel
theorem dX9_closest_42 : decode cX9_closest 42 = .ok (.istore_n 1, 1) := by decide +kernel
theorem dX9_closest_43 : decode cX9_closest 43 = .ok (.iinc 3 1, 3) := by decide +kernel
theorem dX9_closest_46 : decode cX9_closest 46 = .ok (.goto (-29), 3) := by decide +kernel
theorem dX9_closest_49 : decode cX9_closest 49 = .ok (.iinc 2 1, 3) := by decide +kernel
theorem dX9_closest_52 : decode cX9_closest 52 = .ok (.goto (-47), 3) := by decide +kernel
theorem dX9_closest_55 : decode cX9_closest 55 = .ok (.iload_n 1, 1) := by decide +kernel
theorem dX9_closest_56 : decode cX9_closest 56 = .ok (.bipush 64, 2) := by decide +kernel
theorem dX9_closest_58 : decode cX9_closest 58 = .ok (.if_icmp .le 12, 3) := by decide +kernel
theorem dX9_closest_61 : decode cX9_closest 61 = .ok (.aload_n 0, 1) := by decide +kernel
theorem dX9_closest_62 : decode cX9_closest 62 = .ok (.ldc 150, 2) := by decide +kernel
theorem dX9_closest_64 : decode cX9_closest 64 = .ok (.invokevirtual 84, 3) := by decide +kernel
theorem dX9_closest_67 : decode cX9_closest 67 = .ok (.goto 4, 3) := by decide +kernel
theorem dX9_closest_70 : decode cX9_closest 70 = .ok (.iload_n 1, 1) := by decide +kernel
theorem dX9_closest_71 : decode cX9_closest 71 = .ok (.ireturn, 1) := by decide +kernel
set_option maxRecDepth 20000 in
theorem ggX9_harmless_X9_shapeIs : GoodIn wsX9_harmless wsX9_shapeIs := goodIn_r _ [12, 1, 59, 60, 61, 62, 63, 64, 65, 66, 67, 68, 69, 70, 71, 72, 73, 74, 75, 76, 77, 78, 79, 80, 81, 82, 83, 84, 85, 86] (by decide +kernel) (by decide +kernel)
set_option maxRecDepth 20000 in
theorem gX9_harmless_X9_shapeIs : GoodIn wsX9_harmless (wsV RX9 99 RX9 yX9_shapeIs wsX9_shapeIs) := goodIn_app (goodIn_of _ (by decide +kernel)) ggX9_harmless_X9_shapeIs
set_option maxRecDepth 20000 in
theorem ggX9_harmless_X9_finding : GoodIn wsX9_harmless wsX9_finding := goodIn_r _ [16, 17, 18, 59, 60, 61, 62, 63, 64, 65, 66, 67, 68, 69, 70, 71, 72, 73, 74, 75, 76, 77, 78, 79, 80, 81, 82, 83, 84, 85, 86] (by decide +kernel) (by decide +kernel)
set_option maxRecDepth 20000 in
theorem gX9_harmless_X9_finding : GoodIn wsX9_harmless (wsV RX9 84 RX9 yX9_finding wsX9_finding) := goodIn_app (goodIn_of _ (by decide +kernel)) ggX9_harmless_X9_finding
set_option maxRecDepth 20000 in
theorem ggX9_harmless_X9_nearestOff : GoodIn wsX9_harmless wsX9_nearestOff := goodIn_r _ [22, 23, 4, 5, 6, 7, 24, 25, 26, 11, 27, 1, 28, 29, 30, 31, 32, 33, 34, 35, 36, 37, 8, 9, 10, 12, 38, 39, 40, 41, 42, 43, 44, 45, 46, 47, 48, 49, 50, 51, 52, 53, 54, 55, 56, 57, 58, 59, 60, 61, 62, 63, 64, 65, 66, 67, 68, 69, 70, 71, 72, 73, 74, 75, 76, 77, 78, 79, 80, 81, 82, 83, 84, 85, 86] (by decide +kernel) (by decide +kernel)
set_option maxRecDepth 20000 in
theorem gX9_harmless_X9_nearestOff : GoodIn wsX9_harmless (wsV RX9 176 RX9 yX9_nearestOff wsX9_nearestOff) := goodIn_app (goodIn_of _ (by decide +kernel)) ggX9_harmless_X9_nearestOff
set_option maxRecDepth 20000 in
theorem ggX9_harmless_X9_bits : GoodIn wsX9_harmless wsX9_bits := goodIn_r _ [58] (by decide +kernel) (by decide +kernel)
set_option maxRecDepth 20000 in
theorem gX9_harmless_X9_bits : GoodIn wsX9_harmless (va_wsS RX9 158 yX9_bits wsX9_bits) := goodIn_app (goodIn_of _ (by decide +kernel)) ggX9_harmless_X9_bits
theorem dX9_harmless_0 : decode cX9_harmless 0 = .ok (.iconst 0, 1) := by decide +kernel
theorem dX9_harmless_1 : decode cX9_harmless 1 = .ok (.istore_n 1, 1) := by decide +kernel
theorem dX9_harmless_2 : decode cX9_harmless 2 = .ok (.iconst 0, 1) := by decide +kernel
theorem dX9_harmless_3 : decode cX9_harmless 3 = .ok (.istore_n 2, 1) := by decide +kernel
theorem dX9_harmless_4 : decode cX9_harmless 4 = .ok (.iload_n 2, 1) := by decide +kernel
theorem dX9_harmless_5 : decode cX9_harmless 5 = .ok (.aload_n 0, 1) := by decide +kernel
theorem dX9_harmless_6 : decode cX9_harmless 6 = .ok (.getfield 9, 3) := by decide +kernel
theorem dX9_harmless_9 : decode cX9_harmless 9 = .ok (.iconst 0, 1) := by decide +kernel
theorem dX9_harmless_10 : decode cX9_harmless 10 = .ok (.iaload, 1) := by decide +kernel
theorem dX9_harmless_11 : decode cX9_harmless 11 = .ok (.if_icmp .ge 28, 3) := by decide +kernel
theorem dX9_harmless_14 : decode cX9_harmless 14 = .ok (.iload_n 1, 1) := by decide +kernel
theorem dX9_harmless_15 : decode cX9_harmless 15 = .ok (.aload_n 0, 1) := by decide +kernel
theorem dX9_harmless_16 : decode cX9_harmless 16 = .ok (.iload_n 2, 1) := by decide +kernel
theorem dX9_harmless_17 : decode cX9_harmless 17 = .ok (.iconst 2, 1) := by decide +kernel
theorem dX9_harmless_18 : decode cX9_harmless 18 = .ok (.invokevirtual 99, 3) := by decide +kernel
theorem dX9_harmless_21 : decode cX9_harmless 21 = .ok (.ifCond .ne 9, 3) := by decide +kernel
theorem dX9_harmless_24 : decode cX9_harmless 24 = .ok (.iconst 1, 1) := by decide +kernel
theorem dX9_harmless_25 : decode cX9_harmless 25 = .ok (.iload_n 2, 1) := by decide +kernel
theorem dX9_harmless_26 : decode cX9_harmless 26 = .ok (.ishl, 1) := by decide +kernel
theorem dX9_harmless_27 : decode cX9_harmless 27 = .ok (.goto 4, 3) := by decide +kernel
theorem dX9_harmless_30 : decode cX9_harmless 30 = .ok (.iconst 0, 1) := by decide +kernel
theorem dX9_harmless_31 : decode cX9_harmless 31 = .ok (.ior, 1) := by decide +kernel
theorem dX9_harmless_32 : decode cX9_harmless 32 = .ok (.istore_n 1, 1) := by decide +kernel
theorem dX9_harmless_33 : decode cX9_harmless 33 = .ok (.iinc 2 1, 3) := by decide +kernel
theorem dX9_harmless_36 : decode cX9_harmless 36 = .ok (.goto (-32), 3) := by decide +kernel
theorem dX9_harmless_39 : decode cX9_harmless 39 = .ok (.aload_n 0, 1) := by decide +kernel
theorem dX9_harmless_40 : decode cX9_harmless 40 = .ok (.getfield 9, 3) := by decide +kernel
theorem dX9_harmless_43 : decode cX9_harmless 43 = .ok (.iconst 1, 1) := by decide +kernel
theorem dX9_harmless_44 : decode cX9_harmless 44 = .ok (.iaload, 1) := by decide +kernel
theorem dX9_harmless_45 : decode cX9_harmless 45 = .ok (.ifCond .eq 7, 3) := by decide +kernel
theorem dX9_harmless_48 : decode cX9_harmless 48 = .ok (.iload_n 1, 1) := by decide +kernel
theorem dX9_harmless_49 : decode cX9_harmless 49 = .ok (.ifCond .ne 10, 3) := by decide +kernel
theorem dX9_harmless_52 : decode cX9_harmless 52 = .ok (.aload_n 0, 1) := by decide +kernel
theorem dX9_harmless_53 : decode cX9_harmless 53 = .ok (.ldc 150, 2) := by decide +kernel
theorem dX9_harmless_55 : decode cX9_harmless 55 = .ok (.invokevirtual 84, 3) := by decide +kernel
theorem dX9_harmless_58 : decode cX9_harmless 58 = .ok (.ireturn, 1) := by decide +kernel
theorem dX9_harmless_59 : decode cX9_harmless 59 = .ok (.iconst 0, 1) := by decide +kernel
theorem dX9_harmless_60 : decode cX9_harmless 60 = .ok (.istore_n 2, 1) := by decide +kernel
theorem dX9_harmless_61 : decode cX9_harmless 61 = .ok (.iload_n 2, 1) := by decide +kernel
theorem dX9_harmless_62 : decode cX9_harmless 62 = .ok (.aload_n 0, 1) := by decide +kernel
theorem dX9_harmless_63 : decode cX9_harmless 63 = .ok (.getfield 9, 3) := by decide +kernel
theorem dX9_harmless_66 : decode cX9_harmless 66 = .ok (.iconst 1, 1) := by decide +kernel
theorem dX9_harmless_67 : decode cX9_harmless 67 = .ok (.iaload, 1) := by decide +kernel
theorem dX9_harmless_68 : decode cX9_harmless 68 = .ok (.if_icmp .ge 133, 3) := by decide +kernel
theorem dX9_harmless_71 : decode cX9_harmless 71 = .ok (.iconst 0, 1) := by decide +kernel
theorem dX9_harmless_72 : decode cX9_harmless 72 = .ok (.istore_n 3, 1) := by decide +kernel
theorem dX9_harmless_73 : decode cX9_harmless 73 = .ok (.bipush 65, 2) := by decide +kernel
theorem dX9_harmless_75 : decode cX9_harmless 75 = .ok (.istore 4, 2) := by decide +kernel
theorem dX9_harmless_77 : decode cX9_harmless 77 = .ok (.iconst 0, 1) := by decide +kernel
theorem dX9_harmless_78 : decode cX9_harmless 78 = .ok (.istore 5, 2) := by decide +kernel
theorem dX9_harmless_80 : decode cX9_harmless 80 = .ok (.iload 5, 2) := by decide +kernel
theorem dX9_harmless_82 : decode cX9_harmless 82 = .ok (.aload_n 0, 1) := by decide +kernel
theorem dX9_harmless_83 : decode cX9_harmless 83 = .ok (.getfield 9, 3) := by decide +kernel
theorem dX9_harmless_86 : decode cX9_harmless 86 = .ok (.iconst 0, 1) := by decide +kernel
theorem dX9_harmless_87 : decode cX9_harmless 87 = .ok (.iaload, 1) := by decide +kernel
theorem dX9_harmless_88 : decode cX9_harmless 88 = .ok (.if_icmp .ge 88, 3) := by decide +kernel
theorem dX9_harmless_91 : decode cX9_harmless 91 = .ok (.aload_n 0, 1) := by decide +kernel
theorem dX9_harmless_92 : decode cX9_harmless 92 = .ok (.iload 5, 2) := by decide +kernel
theorem dX9_harmless_94 : decode cX9_harmless 94 = .ok (.iconst 2, 1) := by decide +kernel
theorem dX9_harmless_95 : decode cX9_harmless 95 = .ok (.invokevirtual 99, 3) := by decide +kernel
theorem dX9_harmless_98 : decode cX9_harmless 98 = .ok (.iconst 1, 1) := by decide +kernel
theorem dX9_harmless_99 : decode cX9_harmless 99 = .ok (.if_icmp .ne 8, 3) := by decide +kernel
theorem dX9_harmless_102 : decode cX9_harmless 102 = .ok (.bipush 65, 2) := by decide +kernel
theorem dX9_harmless_104 : decode cX9_harmless 104 = .ok (.goto 16, 3) := by decide +kernel
theorem dX9_harmless_107 : decode cX9_harmless 107 = .ok (.aload_n 0, 1) := by decide +kernel
theorem dX9_harmless_108 : decode cX9_harmless 108 = .ok (.iload 5, 2) := by decide +kernel
theorem dX9_harmless_110 : decode cX9_harmless 110 = .ok (.lconst 0, 1) := by decide +kernel
theorem dX9_harmless_111 : decode cX9_harmless 111 = .ok (.aload_n 0, 1) := by decide +kernel
theorem dX9_harmless_112 : decode cX9_harmless 112 = .ok (.getfield 16, 3) := by decide +kernel
theorem dX9_harmless_115 : decode cX9_harmless 115 = .ok (.iload_n 2, 1) := by decide +kernel
theorem dX9_harmless_116 : decode cX9_harmless 116 = .ok (.laload, 1) := by decide +kernel
theorem dX9_harmless_117 : decode cX9_harmless 117 = .ok (.invokevirtual 176, 3) := by decide +kernel
theorem dX9_harmless_120 : decode cX9_harmless 120 = .ok (.istore 6, 2) := by decide +kernel
theorem dX9_harmless_122 : decode cX9_harmless 122 = .ok (.iload 6, 2) := by decide +kernel
theorem dX9_harmless_124 : decode cX9_harmless 124 = .ok (.iload 4, 2) := by decide +kernel
theorem dX9_harmless_126 : decode cX9_harmless 126 = .ok (.if_icmp .ge 10, 3) := by decide +kernel
theorem dX9_harmless_129 : decode cX9_harmless 129 = .ok (.iconst 1, 1) := by decide +kernel
theorem dX9_harmless_130 : decode cX9_harmless 130 = .ok (.iload 5, 2) := by decide +kernel
theorem dX9_harmless_132 : decode cX9_harmless 132 = .ok (.ishl, 1) := by decide +kernel
theorem dX9_harmless_133 : decode cX9_harmless 133 = .ok (.goto 27, 3) := by decide +kernel
theorem dX9_harmless_136 : decode cX9_harmless 136 = .ok (.iload 6, 2) := by decide +kernel
theorem dX9_harmless_138 : decode cX9_harmless 138 = .ok (.iload 4, 2) := by decide +kernel
theorem dX9_harmless_140 : decode cX9_harmless 140 = .ok (.if_icmp .ne 19, 3) := by decide +kernel
theorem dX9_harmless_143 : decode cX9_harmless 143 = .ok (.iload 6, 2) := by decide +kernel
theorem dX9_harmless_145 : decode cX9_harmless 145 = .ok (.bipush 65, 2) := by decide +kernel
theorem dX9_harmless_147 : decode cX9_harmless 147 = .ok (.if_icmp .ge 12, 3) := by decide +kernel
theorem dX9_harmless_150 : decode cX9_harmless 150 = .ok (.iload_n 3, 1) := by decide +kernel
theorem dX9_harmless_151 : decode cX9_harmless 151 = .ok (.iconst 1, 1) := by decide +kernel
theorem dX9_harmless_152 : decode cX9_harmless 152 = .ok (.iload 5, 2) := by decide +kernel
theorem dX9_harmless_154 : decode cX9_harmless 154 = .ok (.ishl, 1) := by decide +kernel
theorem dX9_harmless_155 : decode cX9_harmless 155 = .ok (.ior, 1) := by decide +kernel
theorem dX9_harmless_156 : decode cX9_harmless 156 = .ok (.goto 4, 3) := by decide +kernel
theorem dX9_harmless_159 : decode cX9_harmless 159 = .ok (.iload_n 3, 1) := by decide +kernel
theorem dX9_harmless_160 : decode cX9_harmless 160 = .ok (.istore_n 3, 1) := by decide +kernel
theorem dX9_harmless_161 : decode cX9_harmless 161 = .ok (.iload 4, 2) := by decide +kernel
theorem dX9_harmless_163 : decode cX9_harmless 163 = .ok (.iload 6, 2) := by decide +kernel
theorem dX9_harmless_165 : decode cX9_harmless 165 = .ok (.invokestatic 171, 3) := by decide +kernel
theorem dX9_harmless_168 : decode cX9_harmless 168 = .ok (.istore 4, 2) := by decide +kernel
theorem dX9_harmless_170 : decode cX9_harmless 170 = .ok (.iinc 5 1, 3) := by decide +kernel
theorem dX9_harmless_173 : decode cX9_harmless 173 = .ok (.goto (-93), 3) := by decide +kernel
theorem dX9_harmless_176 : decode cX9_harmless 176 = .ok (.iload_n 1, 1) := by decide +kernel
theorem dX9_harmless_177 : decode cX9_harmless 177 = .ok (.iload_n 3, 1) := by decide +kernel
theorem dX9_harmless_178 : decode cX9_harmless 178 = .ok (.i2l, 1) := by decide +kernel
theorem dX9_harmless_179 : decode cX9_harmless 179 = .ok (.invokestatic 158, 3) := by decide +kernel
theorem dX9_harmless_182 : decode cX9_harmless 182 = .ok (.iconst 1, 1) := by decide +kernel
theorem dX9_harmless_183 : decode cX9_harmless 183 = .ok (.if_icmp .ne 9, 3) := by decide +kernel
theorem dX9_harmless_186 : decode cX9_harmless 186 = .ok (.iload_n 3, 1) := by decide +kernel
theorem dX9_harmless_187 : decode cX9_harmless 187 = .ok (.iconst (-1), 1) := by decide +kernel
theorem dX9_harmless_188 : decode cX9_harmless 188 = .ok (.ixor, 1) := by decide +kernel
theorem dX9_harmless_189 : decode cX9_harmless 189 = .ok (.goto 4, 3) := by decide +kernel
theorem dX9_harmless_192 : decode cX9_harmless 192 = .ok (.iconst (-1), 1) := by decide +kernel
theorem dX9_harmless_193 : decode cX9_harmless 193 = .ok (.iand, 1) := by decide +kernel
theorem dX9_harmless_194 : decode cX9_harmless 194 = .ok (.istore_n 1, 1) := by decide +kernel
theorem dX9_harmless_195 : decode cX9_harmless 195 = .ok (.iinc 2 1, 3) := by decide +kernel
theorem dX9_harmless_198 : decode cX9_harmless 198 = .ok (.goto (-137), 3) := by decide +kernel
theorem dX9_harmless_201 : decode cX9_harmless 201 = .ok (.iload_n 1, 1) := by decide +kernel
theorem dX9_harmless_202 : decode cX9_harmless 202 = .ok (.ireturn, 1) := by decide +kernel
set_option maxRecDepth 20000 in
theorem ggX9_feed_X9_within : GoodIn wsX9_feed wsX9_within := goodIn_r _ [8] (by decide +kernel) (by decide +kernel)
set_option maxRecDepth 20000 in
theorem gX9_feed_X9_within : GoodIn wsX9_feed (va_wsS RX9 75 yX9_within wsX9_within) := goodIn_app (goodIn_of _ (by decide +kernel)) ggX9_feed_X9_within
set_option maxRecDepth 20000 in
theorem ggX9_feed_X9_finding : GoodIn wsX9_feed wsX9_finding := goodIn_r _ [12, 13, 1, 14, 15, 16, 17, 18, 19, 20, 21, 22, 23, 24, 25, 26, 27, 28, 29, 30, 31, 32, 33, 34, 35, 36, 37, 38, 39, 40, 41] (by decide +kernel) (by decide +kernel)
set_option maxRecDepth 20000 in
theorem gX9_feed_X9_finding : GoodIn wsX9_feed (wsV RX9 84 RX9 yX9_finding wsX9_finding) := goodIn_app (goodIn_of _ (by decide +kernel)) ggX9_feed_X9_finding
theorem dX9_feed_0 : decode cX9_feed 0 = .ok (.iload_n 2, 1) := by decide +kernel
theorem dX9_feed_1 : decode cX9_feed 1 = .ok (.iconst 1, 1) := by decide +kernel
theorem dX9_feed_2 : decode cX9_feed 2 = .ok (.iconst 4, 1) := by decide +kernel
theorem dX9_feed_3 : decode cX9_feed 3 = .ok (.invokestatic 75, 3) := by decide +kernel
theorem dX9_feed_6 : decode cX9_feed 6 = .ok (.ifCond .ne 10, 3) := by decide +kernel
theorem dX9_feed_9 : decode cX9_feed 9 = .ok (.aload_n 0, 1) := by decide +kernel
theorem dX9_feed_10 : decode cX9_feed 10 = .ok (.ldc 74, 2) := by decide +kernel
theorem dX9_feed_12 : decode cX9_feed 12 = .ok (.invokevirtual 84, 3) := by decide +kernel
theorem dX9_feed_15 : decode cX9_feed 15 = .ok (.ireturn, 1) := by decide +kernel
theorem dX9_feed_16 : decode cX9_feed 16 = .ok (.aload_n 0, 1) := by decide +kernel
theorem dX9_feed_17 : decode cX9_feed 17 = .ok (.getfield 188, 3) := by decide +kernel
theorem dX9_feed_20 : decode cX9_feed 20 = .ok (.iload_n 2, 1) := by decide +kernel
theorem dX9_feed_21 : decode cX9_feed 21 = .ok (.iadd, 1) := by decide +kernel
theorem dX9_feed_22 : decode cX9_feed 22 = .ok (.bipush 120, 2) := by decide +kernel
theorem dX9_feed_24 : decode cX9_feed 24 = .ok (.if_icmp .le 10, 3) := by decide +kernel
theorem dX9_feed_27 : decode cX9_feed 27 = .ok (.aload_n 0, 1) := by decide +kernel
theorem dX9_feed_28 : decode cX9_feed 28 = .ok (.ldc 88, 2) := by decide +kernel
theorem dX9_feed_30 : decode cX9_feed 30 = .ok (.invokevirtual 84, 3) := by decide +kernel
theorem dX9_feed_33 : decode cX9_feed 33 = .ok (.ireturn, 1) := by decide +kernel
theorem dX9_feed_34 : decode cX9_feed 34 = .ok (.iload_n 2, 1) := by decide +kernel
theorem dX9_feed_35 : decode cX9_feed 35 = .ok (.iconst 1, 1) := by decide +kernel
theorem dX9_feed_36 : decode cX9_feed 36 = .ok (.isub, 1) := by decide +kernel
theorem dX9_feed_37 : decode cX9_feed 37 = .ok (.istore_n 3, 1) := by decide +kernel
theorem dX9_feed_38 : decode cX9_feed 38 = .ok (.iload_n 3, 1) := by decide +kernel
theorem dX9_feed_39 : decode cX9_feed 39 = .ok (.ifCond .lt 38, 3) := by decide +kernel
theorem dX9_feed_42 : decode cX9_feed 42 = .ok (.aload_n 0, 1) := by decide +kernel
theorem dX9_feed_43 : decode cX9_feed 43 = .ok (.getfield 32, 3) := by decide +kernel
theorem dX9_feed_46 : decode cX9_feed 46 = .ok (.aload_n 0, 1) := by decide +kernel
theorem dX9_feed_47 : decode cX9_feed 47 = .ok (.getfield 188, 3) := by decide +kernel
theorem dX9_feed_50 : decode cX9_feed 50 = .ok (.iload_n 1, 1) := by decide +kernel
theorem dX9_feed_51 : decode cX9_feed 51 = .ok (.bipush 8, 2) := by decide +kernel
theorem dX9_feed_53 : decode cX9_feed 53 = .ok (.iload_n 3, 1) := by decide +kernel
theorem dX9_feed_54 : decode cX9_feed 54 = .ok (.imul, 1) := by decide +kernel
theorem dX9_feed_55 : decode cX9_feed 55 = .ok (.ishr, 1) := by decide +kernel
theorem dX9_feed_56 : decode cX9_feed 56 = .ok (.sipush 255, 3) := by decide +kernel
theorem dX9_feed_59 : decode cX9_feed 59 = .ok (.iand, 1) := by decide +kernel
theorem dX9_feed_60 : decode cX9_feed 60 = .ok (.iastore, 1) := by decide +kernel
theorem dX9_feed_61 : decode cX9_feed 61 = .ok (.aload_n 0, 1) := by decide +kernel
theorem dX9_feed_62 : decode cX9_feed 62 = .ok (.dup, 1) := by decide +kernel
theorem dX9_feed_63 : decode cX9_feed 63 = .ok (.getfield 188, 3) := by decide +kernel
theorem dX9_feed_66 : decode cX9_feed 66 = .ok (.iconst 1, 1) := by decide +kernel
theorem dX9_feed_67 : decode cX9_feed 67 = .ok (.iadd, 1) := by decide +kernel
theorem dX9_feed_68 : decode cX9_feed 68 = .ok (.putfield 188, 3) := by decide +kernel
theorem dX9_feed_71 : decode cX9_feed 71 = .ok (.iinc 3 (-1), 3) := by decide +kernel
theorem dX9_feed_74 : decode cX9_feed 74 = .ok (.goto (-36), 3) := by decide +kernel
theorem dX9_feed_77 : decode cX9_feed 77 = .ok (.aload_n 0, 1) := by decide +kernel
theorem dX9_feed_78 : decode cX9_feed 78 = .ok (.getfield 188, 3) := by decide +kernel
theorem dX9_feed_81 : decode cX9_feed 81 = .ok (.ireturn, 1) := by decide +kernel
theorem dX9_wipe_0 : decode cX9_wipe 0 = .ok (.aload_n 0, 1) := by decide +kernel
theorem dX9_wipe_1 : decode cX9_wipe 1 = .ok (.getfield 188, 3) := by decide +kernel
theorem dX9_wipe_4 : decode cX9_wipe 4 = .ok (.istore_n 1, 1) := by decide +kernel
theorem dX9_wipe_5 : decode cX9_wipe 5 = .ok (.aload_n 0, 1) := by decide +kernel
theorem dX9_wipe_6 : decode cX9_wipe 6 = .ok (.iconst 0, 1) := by decide +kernel
theorem dX9_wipe_7 : decode cX9_wipe 7 = .ok (.putfield 188, 3) := by decide +kernel
theorem dX9_wipe_10 : decode cX9_wipe 10 = .ok (.iload_n 1, 1) := by decide +kernel
theorem dX9_wipe_11 : decode cX9_wipe 11 = .ok (.ireturn, 1) := by decide +kernel
theorem dX9_byteAt_0 : decode cX9_byteAt 0 = .ok (.iload_n 1, 1) := by decide +kernel
theorem dX9_byteAt_1 : decode cX9_byteAt 1 = .ok (.aload_n 0, 1) := by decide +kernel
theorem dX9_byteAt_2 : decode cX9_byteAt 2 = .ok (.getfield 188, 3) := by decide +kernel
theorem dX9_byteAt_5 : decode cX9_byteAt 5 = .ok (.if_icmp .ge 12, 3) := by decide +kernel
theorem dX9_byteAt_8 : decode cX9_byteAt 8 = .ok (.aload_n 0, 1) := by decide +kernel
theorem dX9_byteAt_9 : decode cX9_byteAt 9 = .ok (.getfield 32, 3) := by decide +kernel
theorem dX9_byteAt_12 : decode cX9_byteAt 12 = .ok (.iload_n 1, 1) := by decide +kernel
theorem dX9_byteAt_13 : decode cX9_byteAt 13 = .ok (.iaload, 1) := by decide +kernel
theorem dX9_byteAt_14 : decode cX9_byteAt 14 = .ok (.goto 4, 3) := by decide +kernel
theorem dX9_byteAt_17 : decode cX9_byteAt 17 = .ok (.iconst (-1), 1) := by decide +kernel
theorem dX9_byteAt_18 : decode cX9_byteAt 18 = .ok (.ireturn, 1) := by decide +kernel
theorem dX9_isRowSign_0 : decode cX9_isRowSign 0 = .ok (.iload_n 0, 1) := by decide +kernel
theorem dX9_isRowSign_1 : decode cX9_isRowSign 1 = .ok (.bipush 35, 2) := by decide +kernel
theorem dX9_isRowSign_3 : decode cX9_isRowSign 3 = .ok (.if_icmp .eq 9, 3) := by decide +kernel
theorem dX9_isRowSign_6 : decode cX9_isRowSign 6 = .ok (.iload_n 0, 1) := by decide +kernel
theorem dX9_isRowSign_7 : decode cX9_isRowSign 7 = .ok (.bipush 46, 2) := by decide +kernel
theorem dX9_isRowSign_9 : decode cX9_isRowSign 9 = .ok (.if_icmp .ne 7, 3) := by decide +kernel
theorem dX9_isRowSign_12 : decode cX9_isRowSign 12 = .ok (.iconst 1, 1) := by decide +kernel
theorem dX9_isRowSign_13 : decode cX9_isRowSign 13 = .ok (.goto 4, 3) := by decide +kernel
theorem dX9_isRowSign_16 : decode cX9_isRowSign 16 = .ok (.iconst 0, 1) := by decide +kernel
theorem dX9_isRowSign_17 : decode cX9_isRowSign 17 = .ok (.ireturn, 1) := by decide +kernel
set_option maxRecDepth 20000 in
theorem ggX9_next_X9_byteAt : GoodIn wsX9_next wsX9_byteAt := goodIn_r _ [13, 14, 15, 22, 23, 24, 25, 26, 27, 28, 29, 30, 31, 32, 33, 34, 35, 36, 37, 38, 39, 40, 41, 42, 43, 44, 45, 46, 47, 48, 49] (by decide +kernel) (by decide +kernel)
set_option maxRecDepth 20000 in
theorem gX9_next_X9_byteAt : GoodIn wsX9_next (wsV RX9 197 RX9 yX9_byteAt wsX9_byteAt) := goodIn_app (goodIn_of _ (by decide +kernel)) ggX9_next_X9_byteAt
set_option maxRecDepth 20000 in
theorem ggX9_next_X9_within : GoodIn wsX9_next wsX9_within := goodIn_r _ [18] (by decide +kernel) (by decide +kernel)
set_option maxRecDepth 20000 in
theorem gX9_next_X9_within : GoodIn wsX9_next (va_wsS RX9 75 yX9_within wsX9_within) := goodIn_app (goodIn_of _ (by decide +kernel)) ggX9_next_X9_within
set_option maxRecDepth 20000 in
theorem ggX9_next_X9_isRowSign : GoodIn wsX9_next wsX9_isRowSign := goodIn_r _ [21] (by decide +kernel) (by decide +kernel)
set_option maxRecDepth 20000 in
theorem gX9_next_X9_isRowSign : GoodIn wsX9_next (va_wsS RX9 206 yX9_isRowSign wsX9_isRowSign) := goodIn_app (goodIn_of _ (by decide +kernel)) ggX9_next_X9_isRowSign
theorem dX9_next_0 : decode cX9_next 0 = .ok (.aload_n 0, 1) := by decide +kernel
theorem dX9_next_1 : decode cX9_next 1 = .ok (.aload_n 0, 1) := by decide +kernel
theorem dX9_next_2 : decode cX9_next 2 = .ok (.getfield 191, 3) := by decide +kernel
theorem dX9_next_5 : decode cX9_next 5 = .ok (.putfield 194, 3) := by decide +kernel
theorem dX9_next_8 : decode cX9_next 8 = .ok (.aload_n 0, 1) := by decide +kernel
theorem dX9_next_9 : decode cX9_next 9 = .ok (.aload_n 0, 1) := by decide +kernel
theorem dX9_next_10 : decode cX9_next 10 = .ok (.getfield 194, 3) := by decide +kernel
theorem dX9_next_13 : decode cX9_next 13 = .ok (.invokevirtual 197, 3) := by decide +kernel
theorem dX9_next_16 : decode cX9_next 16 = .ok (.bipush 32, 2) := by decide +kernel
theorem dX9_next_18 : decode cX9_next 18 = .ok (.if_icmp .ne 16, 3) := by decide +kernel
theorem dX9_next_21 : decode cX9_next 21 = .ok (.aload_n 0, 1) := by decide +kernel
theorem dX9_next_22 : decode cX9_next 22 = .ok (.dup, 1) := by decide +kernel
theorem dX9_next_23 : decode cX9_next 23 = .ok (.getfield 194, 3) := by decide +kernel
theorem dX9_next_26 : decode cX9_next 26 = .ok (.iconst 1, 1) := by decide +kernel
theorem dX9_next_27 : decode cX9_next 27 = .ok (.iadd, 1) := by decide +kernel
theorem dX9_next_28 : decode cX9_next 28 = .ok (.putfield 194, 3) := by decide +kernel
theorem dX9_next_31 : decode cX9_next 31 = .ok (.goto (-23), 3) := by decide +kernel
theorem dX9_next_34 : decode cX9_next 34 = .ok (.aload_n 0, 1) := by decide +kernel
theorem dX9_next_35 : decode cX9_next 35 = .ok (.aload_n 0, 1) := by decide +kernel
theorem dX9_next_36 : decode cX9_next 36 = .ok (.getfield 194, 3) := by decide +kernel
theorem dX9_next_39 : decode cX9_next 39 = .ok (.invokevirtual 197, 3) := by decide +kernel
theorem dX9_next_42 : decode cX9_next 42 = .ok (.istore_n 1, 1) := by decide +kernel
theorem dX9_next_43 : decode cX9_next 43 = .ok (.aload_n 0, 1) := by decide +kernel
theorem dX9_next_44 : decode cX9_next 44 = .ok (.aload_n 0, 1) := by decide +kernel
theorem dX9_next_45 : decode cX9_next 45 = .ok (.getfield 194, 3) := by decide +kernel
theorem dX9_next_48 : decode cX9_next 48 = .ok (.putfield 191, 3) := by decide +kernel
theorem dX9_next_51 : decode cX9_next 51 = .ok (.aload_n 0, 1) := by decide +kernel
theorem dX9_next_52 : decode cX9_next 52 = .ok (.iconst 0, 1) := by decide +kernel
theorem dX9_next_53 : decode cX9_next 53 = .ok (.putfield 200, 3) := by decide +kernel
theorem dX9_next_56 : decode cX9_next 56 = .ok (.iload_n 1, 1) := by decide +kernel
theorem dX9_next_57 : decode cX9_next 57 = .ok (.ifCond .ge 11, 3) := by decide +kernel
theorem dX9_next_60 : decode cX9_next 60 = .ok (.aload_n 0, 1) := by decide +kernel
theorem dX9_next_61 : decode cX9_next 61 = .ok (.iconst 0, 1) := by decide +kernel
theorem dX9_next_62 : decode cX9_next 62 = .ok (.putfield 203, 3) := by decide +kernel
theorem dX9_next_65 : decode cX9_next 65 = .ok (.goto 180, 3) := by decide +kernel
theorem dX9_next_68 : decode cX9_next 68 = .ok (.iload_n 1, 1) := by decide +kernel
theorem dX9_next_69 : decode cX9_next 69 = .ok (.bipush 97, 2) := by decide +kernel
theorem dX9_next_71 : decode cX9_next 71 = .ok (.bipush 122, 2) := by decide +kernel
theorem dX9_next_73 : decode cX9_next 73 = .ok (.invokestatic 75, 3) := by decide +kernel
theorem dX9_next_76 : decode cX9_next 76 = .ok (.ifCond .eq 39, 3) := by decide +kernel
theorem dX9_next_79 : decode cX9_next 79 = .ok (.aload_n 0, 1) := by decide +kernel
theorem dX9_next_80 : decode cX9_next 80 = .ok (.iconst 1, 1) := by decide +kernel
theorem dX9_next_81 : decode cX9_next 81 = .ok (.putfield 203, 3) := by decide +kernel
theorem dX9_next_84 : decode cX9_next 84 = .ok (.aload_n 0, 1) := by decide +kernel
theorem dX9_next_85 : decode cX9_next 85 = .ok (.aload_n 0, 1) := by decide +kernel
theorem dX9_next_86 : decode cX9_next 86 = .ok (.getfield 191, 3) := by decide +kernel
theorem dX9_next_89 : decode cX9_next 89 = .ok (.invokevirtual 197, 3) := by decide +kernel
theorem dX9_next_92 : decode cX9_next 92 = .ok (.bipush 97, 2) := by decide +kernel
theorem dX9_next_94 : decode cX9_next 94 = .ok (.bipush 122, 2) := by decide +kernel
theorem dX9_next_96 : decode cX9_next 96 = .ok (.invokestatic 75, 3) := by decide +kernel
theorem dX9_next_99 : decode cX9_next 99 = .ok (.ifCond .eq 146, 3) := by decide +kernel
theorem dX9_next_102 : decode cX9_next 102 = .ok (.aload_n 0, 1) := by decide +kernel
theorem dX9_next_103 : decode cX9_next 103 = .ok (.dup, 1) := by decide +kernel
theorem dX9_next_104 : decode cX9_next 104 = .ok (.getfield 191, 3) := by decide +kernel
theorem dX9_next_107 : decode cX9_next 107 = .ok (.iconst 1, 1) := by decide +kernel
theorem dX9_next_108 : decode cX9_next 108 = .ok (.iadd, 1) := by decide +kernel
theorem dX9_next_109 : decode cX9_next 109 = .ok (.putfield 191, 3) := by decide +kernel
theorem dX9_next_112 : decode cX9_next 112 = .ok (.goto (-28), 3) := by decide +kernel
theorem dX9_next_115 : decode cX9_next 115 = .ok (.iload_n 1, 1) := by decide +kernel
theorem dX9_next_116 : decode cX9_next 116 = .ok (.bipush 48, 2) := by decide +kernel
theorem dX9_next_118 : decode cX9_next 118 = .ok (.bipush 57, 2) := by decide +kernel
theorem dX9_next_120 : decode cX9_next 120 = .ok (.invokestatic 75, 3) := by decide +kernel
theorem dX9_next_123 : decode cX9_next 123 = .ok (.ifCond .eq 68, 3) := by decide +kernel
theorem dX9_next_126 : decode cX9_next 126 = .ok (.aload_n 0, 1) := by decide +kernel
theorem dX9_next_127 : decode cX9_next 127 = .ok (.iconst 2, 1) := by decide +kernel
theorem dX9_next_128 : decode cX9_next 128 = .ok (.putfield 203, 3) := by decide +kernel
theorem dX9_next_131 : decode cX9_next 131 = .ok (.aload_n 0, 1) := by decide +kernel
theorem dX9_next_132 : decode cX9_next 132 = .ok (.aload_n 0, 1) := by decide +kernel
theorem dX9_next_133 : decode cX9_next 133 = .ok (.getfield 191, 3) := by decide +kernel
theorem dX9_next_136 : decode cX9_next 136 = .ok (.invokevirtual 197, 3) := by decide +kernel
theorem dX9_next_139 : decode cX9_next 139 = .ok (.bipush 48, 2) := by decide +kernel
theorem dX9_next_141 : decode cX9_next 141 = .ok (.bipush 57, 2) := by decide +kernel
theorem dX9_next_143 : decode cX9_next 143 = .ok (.invokestatic 75, 3) := by decide +kernel
theorem dX9_next_146 : decode cX9_next 146 = .ok (.ifCond .eq 99, 3) := by decide +kernel
theorem dX9_next_149 : decode cX9_next 149 = .ok (.aload_n 0, 1) := by decide +kernel
theorem dX9_next_150 : decode cX9_next 150 = .ok (.sipush 10000, 3) := by decide +kernel
theorem dX9_next_153 : decode cX9_next 153 = .ok (.bipush 10, 2) := by decide +kernel
theorem dX9_next_155 : decode cX9_next 155 = .ok (.aload_n 0, 1) := by decide +kernel
theorem dX9_next_156 : decode cX9_next 156 = .ok (.getfield 200, 3) := by decide +kernel
theorem dX9_next_159 : decode cX9_next 159 = .ok (.imul, 1) := by decide +kernel
theorem dX9_next_160 : decode cX9_next 160 = .ok (.aload_n 0, 1) := by decide +kernel
theorem dX9_next_161 : decode cX9_next 161 = .ok (.aload_n 0, 1) := by decide +kernel
theorem dX9_next_162 : decode cX9_next 162 = .ok (.getfield 191, 3) := by decide +kernel
theorem dX9_next_165 : decode cX9_next 165 = .ok (.invokevirtual 197, 3) := by decide +kernel
theorem dX9_next_168 : decode cX9_next 168 = .ok (.iadd, 1) := by decide +kernel
theorem dX9_next_169 : decode cX9_next 169 = .ok (.bipush 48, 2) := by decide +kernel
theorem dX9_next_171 : decode cX9_next 171 = .ok (.isub, 1) := by decide +kernel
theorem dX9_next_172 : decode cX9_next 172 = .ok (.invokestatic 171, 3) := by decide +kernel
theorem dX9_next_175 : decode cX9_next 175 = .ok (.putfield 200, 3) := by decide +kernel
theorem dX9_next_178 : decode cX9_next 178 = .ok (.aload_n 0, 1) := by decide +kernel
theorem dX9_next_179 : decode cX9_next 179 = .ok (.dup, 1) := by decide +kernel
theorem dX9_next_180 : decode cX9_next 180 = .ok (.getfield 191, 3) := by decide +kernel
theorem dX9_next_183 : decode cX9_next 183 = .ok (.iconst 1, 1) := by decide +kernel
theorem dX9_next_184 : decode cX9_next 184 = .ok (.iadd, 1) := by decide +kernel
theorem dX9_next_185 : decode cX9_next 185 = .ok (.putfield 191, 3) := by decide +kernel
theorem dX9_next_188 : decode cX9_next 188 = .ok (.goto (-57), 3) := by decide +kernel
theorem dX9_next_191 : decode cX9_next 191 = .ok (.iload_n 1, 1) := by decide +kernel
theorem dX9_next_192 : decode cX9_next 192 = .ok (.invokestatic 206, 3) := by decide +kernel
theorem dX9_next_195 : decode cX9_next 195 = .ok (.ifCond .eq 35, 3) := by decide +kernel
theorem dX9_next_198 : decode cX9_next 198 = .ok (.aload_n 0, 1) := by decide +kernel
theorem dX9_next_199 : decode cX9_next 199 = .ok (.iconst 4, 1) := by decide +kernel
theorem dX9_next_200 : decode cX9_next 200 = .ok (.putfield 203, 3) := by decide +kernel
theorem dX9_next_203 : decode cX9_next 203 = .ok (.aload_n 0, 1) := by decide +kernel
theorem dX9_next_204 : decode cX9_next 204 = .ok (.aload_n 0, 1) := by decide +kernel
theorem dX9_next_205 : decode cX9_next 205 = .ok (.getfield 191, 3) := by decide +kernel
theorem dX9_next_208 : decode cX9_next 208 = .ok (.invokevirtual 197, 3) := by decide +kernel
theorem dX9_next_211 : decode cX9_next 211 = .ok (.invokestatic 206, 3) := by decide +kernel
theorem dX9_next_214 : decode cX9_next 214 = .ok (.ifCond .eq 31, 3) := by decide +kernel
theorem dX9_next_217 : decode cX9_next 217 = .ok (.aload_n 0, 1) := by decide +kernel
theorem dX9_next_218 : decode cX9_next 218 = .ok (.dup, 1) := by decide +kernel
theorem dX9_next_219 : decode cX9_next 219 = .ok (.getfield 191, 3) := by decide +kernel
theorem dX9_next_222 : decode cX9_next 222 = .ok (.iconst 1, 1) := by decide +kernel
theorem dX9_next_223 : decode cX9_next 223 = .ok (.iadd, 1) := by decide +kernel
theorem dX9_next_224 : decode cX9_next 224 = .ok (.putfield 191, 3) := by decide +kernel
theorem dX9_next_227 : decode cX9_next 227 = .ok (.goto (-24), 3) := by decide +kernel
theorem dX9_next_230 : decode cX9_next 230 = .ok (.aload_n 0, 1) := by decide +kernel
theorem dX9_next_231 : decode cX9_next 231 = .ok (.iconst 3, 1) := by decide +kernel
theorem dX9_next_232 : decode cX9_next 232 = .ok (.putfield 203, 3) := by decide +kernel
theorem dX9_next_235 : decode cX9_next 235 = .ok (.aload_n 0, 1) := by decide +kernel
theorem dX9_next_236 : decode cX9_next 236 = .ok (.dup, 1) := by decide +kernel
theorem dX9_next_237 : decode cX9_next 237 = .ok (.getfield 191, 3) := by decide +kernel
theorem dX9_next_240 : decode cX9_next 240 = .ok (.iconst 1, 1) := by decide +kernel
theorem dX9_next_241 : decode cX9_next 241 = .ok (.iadd, 1) := by decide +kernel
theorem dX9_next_242 : decode cX9_next 242 = .ok (.putfield 191, 3) := by decide +kernel
theorem dX9_next_245 : decode cX9_next 245 = .ok (.return_, 1) := by decide +kernel
set_option maxRecDepth 20000 in
theorem ggX9_isWord_J0_length_8abf5 : GoodIn wsX9_isWord wsJ0_length_8abf5 := goodIn_r _ [9, 10, 11, 12, 13, 8, 14, 15, 16] (by decide +kernel) (by decide +kernel)
set_option maxRecDepth 20000 in
theorem gX9_isWord_J0_length_8abf5 : GoodIn wsX9_isWord (wsV RX9 209 RJ0 yJ0_length_8abf5 wsJ0_length_8abf5) := goodIn_app (goodIn_of _ (by decide +kernel)) ggX9_isWord_J0_length_8abf5
set_option maxRecDepth 20000 in
theorem ggX9_isWord_J0_charAt_5068e : GoodIn wsX9_isWord wsJ0_charAt_5068e := goodIn_r _ [20, 10, 21, 22, 23, 8, 24, 15, 16, 25, 26, 27, 28, 29, 30, 31, 32, 33, 34, 35, 36, 37, 38, 39, 40, 41, 42, 43, 44, 45, 46, 47, 48, 49, 50, 51, 52, 53] (by decide +kernel) (by decide +kernel)
set_option maxRecDepth 20000 in
theorem gX9_isWord_J0_charAt_5068e : GoodIn wsX9_isWord (wsV RX9 213 RJ0 yJ0_charAt_5068e wsJ0_charAt_5068e) := goodIn_app (goodIn_of _ (by decide +kernel)) ggX9_isWord_J0_charAt_5068e
theorem dX9_isWord_0 : decode cX9_isWord 0 = .ok (.aload_n 0, 1) := by decide +kernel
theorem dX9_isWord_1 : decode cX9_isWord 1 = .ok (.getfield 203, 3) := by decide +kernel
theorem dX9_isWord_4 : decode cX9_isWord 4 = .ok (.iconst 1, 1) := by decide +kernel
theorem dX9_isWord_5 : decode cX9_isWord 5 = .ok (.if_icmp .ne 23, 3) := by decide +kernel
theorem dX9_isWord_8 : decode cX9_isWord 8 = .ok (.aload_n 0, 1) := by decide +kernel
theorem dX9_isWord_9 : decode cX9_isWord 9 = .ok (.getfield 191, 3) := by decide +kernel
theorem dX9_isWord_12 : decode cX9_isWord 12 = .ok (.aload_n 0, 1) := by decide +kernel
theorem dX9_isWord_13 : decode cX9_isWord 13 = .ok (.getfield 194, 3) := by decide +kernel
theorem dX9_isWord_16 : decode cX9_isWord 16 = .ok (.isub, 1) := by decide +kernel
theorem dX9_isWord_17 : decode cX9_isWord 17 = .ok (.aload_n 1, 1) := by decide +kernel
theorem dX9_isWord_18 : decode cX9_isWord 18 = .ok (.invokevirtual 209, 3) := by decide +kernel
theorem dX9_isWord_21 : decode cX9_isWord 21 = .ok (.if_icmp .ne 7, 3) := by decide +kernel
theorem dX9_isWord_24 : decode cX9_isWord 24 = .ok (.iconst 1, 1) := by decide +kernel
theorem dX9_isWord_25 : decode cX9_isWord 25 = .ok (.goto 4, 3) := by decide +kernel
theorem dX9_isWord_28 : decode cX9_isWord 28 = .ok (.iconst 0, 1) := by decide +kernel
theorem dX9_isWord_29 : decode cX9_isWord 29 = .ok (.istore_n 2, 1) := by decide +kernel
theorem dX9_isWord_30 : decode cX9_isWord 30 = .ok (.iconst 0, 1) := by decide +kernel
theorem dX9_isWord_31 : decode cX9_isWord 31 = .ok (.istore_n 3, 1) := by decide +kernel
theorem dX9_isWord_32 : decode cX9_isWord 32 = .ok (.iload_n 3, 1) := by decide +kernel
theorem dX9_isWord_33 : decode cX9_isWord 33 = .ok (.aload_n 1, 1) := by decide +kernel
theorem dX9_isWord_34 : decode cX9_isWord 34 = .ok (.invokevirtual 209, 3) := by decide +kernel
theorem dX9_isWord_37 : decode cX9_isWord 37 = .ok (.if_icmp .ge 38, 3) := by decide +kernel
theorem dX9_isWord_40 : decode cX9_isWord 40 = .ok (.iload_n 2, 1) := by decide +kernel
theorem dX9_isWord_41 : decode cX9_isWord 41 = .ok (.ifCond .eq 34, 3) := by decide +kernel
theorem dX9_isWord_44 : decode cX9_isWord 44 = .ok (.aload_n 0, 1) := by decide +kernel
theorem dX9_isWord_45 : decode cX9_isWord 45 = .ok (.getfield 32, 3) := by decide +kernel
theorem dX9_isWord_48 : decode cX9_isWord 48 = .ok (.aload_n 0, 1) := by decide +kernel
theorem dX9_isWord_49 : decode cX9_isWord 49 = .ok (.getfield 194, 3) := by decide +kernel
theorem dX9_isWord_52 : decode cX9_isWord 52 = .ok (.iload_n 3, 1) := by decide +kernel
theorem dX9_isWord_53 : decode cX9_isWord 53 = .ok (.iadd, 1) := by decide +kernel
theorem dX9_isWord_54 : decode cX9_isWord 54 = .ok (.iaload, 1) := by decide +kernel
theorem dX9_isWord_55 : decode cX9_isWord 55 = .ok (.aload_n 1, 1) := by decide +kernel
theorem dX9_isWord_56 : decode cX9_isWord 56 = .ok (.iload_n 3, 1) := by decide +kernel
theorem dX9_isWord_57 : decode cX9_isWord 57 = .ok (.invokevirtual 213, 3) := by decide +kernel
theorem dX9_isWord_60 : decode cX9_isWord 60 = .ok (.if_icmp .ne 7, 3) := by decide +kernel
theorem dX9_isWord_63 : decode cX9_isWord 63 = .ok (.iconst 1, 1) := by decide +kernel
theorem dX9_isWord_64 : decode cX9_isWord 64 = .ok (.goto 4, 3) := by decide +kernel
theorem dX9_isWord_67 : decode cX9_isWord 67 = .ok (.iconst 0, 1) := by decide +kernel
theorem dX9_isWord_68 : decode cX9_isWord 68 = .ok (.istore_n 2, 1) := by decide +kernel
theorem dX9_isWord_69 : decode cX9_isWord 69 = .ok (.iinc 3 1, 3) := by decide +kernel
theorem dX9_isWord_72 : decode cX9_isWord 72 = .ok (.goto (-40), 3) := by decide +kernel
theorem dX9_isWord_75 : decode cX9_isWord 75 = .ok (.iload_n 2, 1) := by decide +kernel
theorem dX9_isWord_76 : decode cX9_isWord 76 = .ok (.ireturn, 1) := by decide +kernel
set_option maxRecDepth 20000 in
theorem ggX9_must_X9_next : GoodIn wsX9_must wsX9_next := goodIn_r _ [6, 7, 8, 9, 10, 11, 12, 13, 14, 15, 16, 17, 5, 18, 19, 20, 21, 22, 23, 24, 25, 26, 27, 28, 29, 30, 31, 32, 33, 34, 35, 36, 37, 38, 39, 40, 41, 42, 43, 44, 45, 46, 47, 48, 49, 50, 51, 52, 53, 54] (by decide +kernel) (by decide +kernel)
set_option maxRecDepth 20000 in
theorem gX9_must_X9_next : GoodIn wsX9_must (wsV RX9 221 RX9 yX9_next wsX9_next) := goodIn_app (goodIn_of _ (by decide +kernel)) ggX9_must_X9_next
theorem dX9_must_0 : decode cX9_must 0 = .ok (.aload_n 0, 1) := by decide +kernel
theorem dX9_must_1 : decode cX9_must 1 = .ok (.aload_n 0, 1) := by decide +kernel
theorem dX9_must_2 : decode cX9_must 2 = .ok (.getfield 217, 3) := by decide +kernel
theorem dX9_must_5 : decode cX9_must 5 = .ok (.ifCond .ne 7, 3) := by decide +kernel
theorem dX9_must_8 : decode cX9_must 8 = .ok (.iload_n 1, 1) := by decide +kernel
theorem dX9_must_9 : decode cX9_must 9 = .ok (.ifCond .ne 7, 3) := by decide +kernel
theorem dX9_must_12 : decode cX9_must 12 = .ok (.iconst 1, 1) := by decide +kernel
theorem dX9_must_13 : decode cX9_must 13 = .ok (.goto 4, 3) := by decide +kernel
theorem dX9_must_16 : decode cX9_must 16 = .ok (.iconst 0, 1) := by decide +kernel
theorem dX9_must_17 : decode cX9_must 17 = .ok (.putfield 217, 3) := by decide +kernel
theorem dX9_must_20 : decode cX9_must 20 = .ok (.aload_n 0, 1) := by decide +kernel
theorem dX9_must_21 : decode cX9_must 21 = .ok (.getfield 217, 3) := by decide +kernel
theorem dX9_must_24 : decode cX9_must 24 = .ok (.ifCond .ne 7, 3) := by decide +kernel
theorem dX9_must_27 : decode cX9_must 27 = .ok (.aload_n 0, 1) := by decide +kernel
theorem dX9_must_28 : decode cX9_must 28 = .ok (.invokevirtual 221, 3) := by decide +kernel
theorem dX9_must_31 : decode cX9_must 31 = .ok (.return_, 1) := by decide +kernel
set_option maxRecDepth 20000 in
theorem ggX9_number_X9_within : GoodIn wsX9_number wsX9_within := goodIn_r _ [6] (by decide +kernel) (by decide +kernel)
set_option maxRecDepth 20000 in
theorem gX9_number_X9_within : GoodIn wsX9_number (va_wsS RX9 75 yX9_within wsX9_within) := goodIn_app (goodIn_of _ (by decide +kernel)) ggX9_number_X9_within
set_option maxRecDepth 20000 in
theorem ggX9_number_X9_must : GoodIn wsX9_number wsX9_must := goodIn_r _ [10, 11, 12, 13, 14, 5, 15, 16, 17, 1, 2, 18, 19, 20, 21, 22, 23, 24, 25, 26, 27, 3, 4, 6, 28, 29, 30, 31, 32, 33, 34, 35, 36, 37, 38, 39, 40, 41, 42, 43, 44, 45, 46, 47, 48, 49, 50, 51, 52, 53, 54, 55, 56, 57, 58] (by decide +kernel) (by decide +kernel)
set_option maxRecDepth 20000 in
theorem gX9_number_X9_must : GoodIn wsX9_number (wsV RX9 224 RX9 yX9_must wsX9_must) := goodIn_app (goodIn_of _ (by decide +kernel)) ggX9_number_X9_must
theorem dX9_number_0 : decode cX9_number 0 = .ok (.aload_n 0, 1) := by decide +kernel
theorem dX9_number_1 : decode cX9_number 1 = .ok (.getfield 200, 3) := by decide +kernel
theorem dX9_number_4 : decode cX9_number 4 = .ok (.istore_n 3, 1) := by decide +kernel
theorem dX9_number_5 : decode cX9_number 5 = .ok (.aload_n 0, 1) := by decide +kernel
theorem dX9_number_6 : decode cX9_number 6 = .ok (.aload_n 0, 1) := by decide +kernel
theorem dX9_number_7 : decode cX9_number 7 = .ok (.getfield 203, 3) := by decide +kernel
theorem dX9_number_10 : decode cX9_number 10 = .ok (.iconst 2, 1) := by decide +kernel
theorem dX9_number_11 : decode cX9_number 11 = .ok (.if_icmp .ne 16, 3) := by decide +kernel
theorem dX9_number_14 : decode cX9_number 14 = .ok (.iload_n 3, 1) := by decide +kernel
theorem dX9_number_15 : decode cX9_number 15 = .ok (.iload_n 1, 1) := by decide +kernel
theorem dX9_number_16 : decode cX9_number 16 = .ok (.iload_n 2, 1) := by decide +kernel
theorem dX9_number_17 : decode cX9_number 17 = .ok (.invokestatic 75, 3) := by decide +kernel
theorem dX9_number_20 : decode cX9_number 20 = .ok (.ifCond .eq 7, 3) := by decide +kernel
theorem dX9_number_23 : decode cX9_number 23 = .ok (.iconst 1, 1) := by decide +kernel
theorem dX9_number_24 : decode cX9_number 24 = .ok (.goto 4, 3) := by decide +kernel
theorem dX9_number_27 : decode cX9_number 27 = .ok (.iconst 0, 1) := by decide +kernel
theorem dX9_number_28 : decode cX9_number 28 = .ok (.invokevirtual 224, 3) := by decide +kernel
theorem dX9_number_31 : decode cX9_number 31 = .ok (.iload_n 3, 1) := by decide +kernel
theorem dX9_number_32 : decode cX9_number 32 = .ok (.ireturn, 1) := by decide +kernel
theorem dX9_item_0 : decode cX9_item 0 = .ok (.iconst 3, 1) := by decide +kernel
theorem dX9_item_1 : decode cX9_item 1 = .ok (.aload_n 0, 1) := by decide +kernel
theorem dX9_item_2 : decode cX9_item 2 = .ok (.getfield 228, 3) := by decide +kernel
theorem dX9_item_5 : decode cX9_item 5 = .ok (.imul, 1) := by decide +kernel
theorem dX9_item_6 : decode cX9_item 6 = .ok (.istore 6, 2) := by decide +kernel
theorem dX9_item_8 : decode cX9_item 8 = .ok (.aload_n 0, 1) := by decide +kernel
theorem dX9_item_9 : decode cX9_item 9 = .ok (.getfield 53, 3) := by decide +kernel
theorem dX9_item_12 : decode cX9_item 12 = .ok (.iload 6, 2) := by decide +kernel
theorem dX9_item_14 : decode cX9_item 14 = .ok (.iload_n 1, 1) := by decide +kernel
theorem dX9_item_15 : decode cX9_item 15 = .ok (.iastore, 1) := by decide +kernel
theorem dX9_item_16 : decode cX9_item 16 = .ok (.aload_n 0, 1) := by decide +kernel
theorem dX9_item_17 : decode cX9_item 17 = .ok (.getfield 53, 3) := by decide +kernel
theorem dX9_item_20 : decode cX9_item 20 = .ok (.iload 6, 2) := by decide +kernel
theorem dX9_item_22 : decode cX9_item 22 = .ok (.iconst 1, 1) := by decide +kernel
theorem dX9_item_23 : decode cX9_item 23 = .ok (.iadd, 1) := by decide +kernel
theorem dX9_item_24 : decode cX9_item 24 = .ok (.iload_n 2, 1) := by decide +kernel
theorem dX9_item_25 : decode cX9_item 25 = .ok (.iastore, 1) := by decide +kernel
theorem dX9_item_26 : decode cX9_item 26 = .ok (.aload_n 0, 1) := by decide +kernel
theorem dX9_item_27 : decode cX9_item 27 = .ok (.getfield 53, 3) := by decide +kernel
theorem dX9_item_30 : decode cX9_item 30 = .ok (.iload 6, 2) := by decide +kernel
theorem dX9_item_32 : decode cX9_item 32 = .ok (.iconst 2, 1) := by decide +kernel
theorem dX9_item_33 : decode cX9_item 33 = .ok (.iadd, 1) := by decide +kernel
theorem dX9_item_34 : decode cX9_item 34 = .ok (.iload_n 3, 1) := by decide +kernel
theorem dX9_item_35 : decode cX9_item 35 = .ok (.iastore, 1) := by decide +kernel
theorem dX9_item_36 : decode cX9_item 36 = .ok (.aload_n 0, 1) := by decide +kernel
theorem dX9_item_37 : decode cX9_item 37 = .ok (.getfield 56, 3) := by decide +kernel
theorem dX9_item_40 : decode cX9_item 40 = .ok (.aload_n 0, 1) := by decide +kernel
theorem dX9_item_41 : decode cX9_item 41 = .ok (.getfield 228, 3) := by decide +kernel
theorem dX9_item_44 : decode cX9_item 44 = .ok (.lload 4, 2) := by decide +kernel
theorem dX9_item_46 : decode cX9_item 46 = .ok (.lastore, 1) := by decide +kernel
theorem dX9_item_47 : decode cX9_item 47 = .ok (.aload_n 0, 1) := by decide +kernel
theorem dX9_item_48 : decode cX9_item 48 = .ok (.dup, 1) := by decide +kernel
theorem dX9_item_49 : decode cX9_item 49 = .ok (.getfield 228, 3) := by decide +kernel
theorem dX9_item_52 : decode cX9_item 52 = .ok (.iconst 1, 1) := by decide +kernel
theorem dX9_item_53 : decode cX9_item 53 = .ok (.iadd, 1) := by decide +kernel
theorem dX9_item_54 : decode cX9_item 54 = .ok (.putfield 228, 3) := by decide +kernel
theorem dX9_item_57 : decode cX9_item 57 = .ok (.return_, 1) := by decide +kernel
set_option maxRecDepth 20000 in
theorem ggX9_readRows_X9_must : GoodIn wsX9_readRows wsX9_must := goodIn_r _ [10, 1, 11, 12, 13, 9, 14, 4, 3, 15, 2, 16, 17, 18, 19, 20, 21, 22, 23, 24, 5, 25, 26, 27, 28, 29, 30, 31, 32, 33, 34, 35, 36, 37, 38, 39, 40, 41, 42, 43, 44, 45, 46, 47, 48, 49, 50, 51, 52, 53, 54, 55, 56, 57, 58] (by decide +kernel) (by decide +kernel)
set_option maxRecDepth 20000 in
theorem gX9_readRows_X9_must : GoodIn wsX9_readRows (wsV RX9 224 RX9 yX9_must wsX9_must) := goodIn_app (goodIn_of _ (by decide +kernel)) ggX9_readRows_X9_must
theorem dX9_readRows_0 : decode cX9_readRows 0 = .ok (.lconst 0, 1) := by decide +kernel
theorem dX9_readRows_1 : decode cX9_readRows 1 = .ok (.lstore_n 2, 1) := by decide +kernel
theorem dX9_readRows_2 : decode cX9_readRows 2 = .ok (.iconst 0, 1) := by decide +kernel
theorem dX9_readRows_3 : decode cX9_readRows 3 = .ok (.istore 4, 2) := by decide +kernel
theorem dX9_readRows_5 : decode cX9_readRows 5 = .ok (.iload 4, 2) := by decide +kernel
theorem dX9_readRows_7 : decode cX9_readRows 7 = .ok (.ifCond .eq 24, 3) := by decide +kernel
theorem dX9_readRows_10 : decode cX9_readRows 10 = .ok (.iload 4, 2) := by decide +kernel
theorem dX9_readRows_12 : decode cX9_readRows 12 = .ok (.iload_n 1, 1) := by decide +kernel
theorem dX9_readRows_13 : decode cX9_readRows 13 = .ok (.if_icmp .ge 118, 3) := by decide +kernel
theorem dX9_readRows_16 : decode cX9_readRows 16 = .ok (.aload_n 0, 1) := by decide +kernel
theorem dX9_readRows_17 : decode cX9_readRows 17 = .ok (.getfield 217, 3) := by decide +kernel
theorem dX9_readRows_20 : decode cX9_readRows 20 = .ok (.ifCond .ne 111, 3) := by decide +kernel
theorem dX9_readRows_23 : decode cX9_readRows 23 = .ok (.aload_n 0, 1) := by decide +kernel
theorem dX9_readRows_24 : decode cX9_readRows 24 = .ok (.getfield 203, 3) := by decide +kernel
theorem dX9_readRows_27 : decode cX9_readRows 27 = .ok (.iconst 4, 1) := by decide +kernel
theorem dX9_readRows_28 : decode cX9_readRows 28 = .ok (.if_icmp .ne 103, 3) := by decide +kernel
theorem dX9_readRows_31 : decode cX9_readRows 31 = .ok (.aload_n 0, 1) := by decide +kernel
theorem dX9_readRows_32 : decode cX9_readRows 32 = .ok (.getfield 194, 3) := by decide +kernel
theorem dX9_readRows_35 : decode cX9_readRows 35 = .ok (.istore 5, 2) := by decide +kernel
theorem dX9_readRows_37 : decode cX9_readRows 37 = .ok (.aload_n 0, 1) := by decide +kernel
theorem dX9_readRows_38 : decode cX9_readRows 38 = .ok (.getfield 191, 3) := by decide +kernel
theorem dX9_readRows_41 : decode cX9_readRows 41 = .ok (.aload_n 0, 1) := by decide +kernel
theorem dX9_readRows_42 : decode cX9_readRows 42 = .ok (.getfield 194, 3) := by decide +kernel
theorem dX9_readRows_45 : decode cX9_readRows 45 = .ok (.isub, 1) := by decide +kernel
theorem dX9_readRows_46 : decode cX9_readRows 46 = .ok (.istore 6, 2) := by decide +kernel
theorem dX9_readRows_48 : decode cX9_readRows 48 = .ok (.aload_n 0, 1) := by decide +kernel
theorem dX9_readRows_49 : decode cX9_readRows 49 = .ok (.aload_n 0, 1) := by decide +kernel
theorem dX9_readRows_50 : decode cX9_readRows 50 = .ok (.getfield 203, 3) := by decide +kernel
theorem dX9_readRows_53 : decode cX9_readRows 53 = .ok (.iconst 4, 1) := by decide +kernel
theorem dX9_readRows_54 : decode cX9_readRows 54 = .ok (.if_icmp .ne 13, 3) := by decide +kernel
theorem dX9_readRows_57 : decode cX9_readRows 57 = .ok (.iload 6, 2) := by decide +kernel
theorem dX9_readRows_59 : decode cX9_readRows 59 = .ok (.iload_n 1, 1) := by decide +kernel
theorem dX9_readRows_60 : decode cX9_readRows 60 = .ok (.if_icmp .gt 7, 3) := by decide +kernel
theorem dX9_readRows_63 : decode cX9_readRows 63 = .ok (.iconst 1, 1) := by decide +kernel
theorem dX9_readRows_64 : decode cX9_readRows 64 = .ok (.goto 4, 3) := by decide +kernel
theorem dX9_readRows_67 : decode cX9_readRows 67 = .ok (.iconst 0, 1) := by decide +kernel
theorem dX9_readRows_68 : decode cX9_readRows 68 = .ok (.invokevirtual 224, 3) := by decide +kernel
theorem dX9_readRows_71 : decode cX9_readRows 71 = .ok (.iconst 0, 1) := by decide +kernel
theorem dX9_readRows_72 : decode cX9_readRows 72 = .ok (.istore 7, 2) := by decide +kernel
theorem dX9_readRows_74 : decode cX9_readRows 74 = .ok (.iload 7, 2) := by decide +kernel
theorem dX9_readRows_76 : decode cX9_readRows 76 = .ok (.iload 6, 2) := by decide +kernel
theorem dX9_readRows_78 : decode cX9_readRows 78 = .ok (.if_icmp .ge 47, 3) := by decide +kernel
theorem dX9_readRows_81 : decode cX9_readRows 81 = .ok (.aload_n 0, 1) := by decide +kernel
theorem dX9_readRows_82 : decode cX9_readRows 82 = .ok (.getfield 217, 3) := by decide +kernel
theorem dX9_readRows_85 : decode cX9_readRows 85 = .ok (.ifCond .ne 40, 3) := by decide +kernel
theorem dX9_readRows_88 : decode cX9_readRows 88 = .ok (.lload_n 2, 1) := by decide +kernel
theorem dX9_readRows_89 : decode cX9_readRows 89 = .ok (.aload_n 0, 1) := by decide +kernel
theorem dX9_readRows_90 : decode cX9_readRows 90 = .ok (.getfield 32, 3) := by decide +kernel
theorem dX9_readRows_93 : decode cX9_readRows 93 = .ok (.iload 5, 2) := by decide +kernel
theorem dX9_readRows_95 : decode cX9_readRows 95 = .ok (.iload 7, 2) := by decide +kernel
theorem dX9_readRows_97 : decode cX9_readRows 97 = .ok (.iadd, 1) := by decide +kernel
theorem dX9_readRows_98 : decode cX9_readRows 98 = .ok (.iaload, 1) := by decide +kernel
theorem dX9_readRows_99 : decode cX9_readRows 99 = .ok (.bipush 35, 2) := by decide +kernel
theorem dX9_readRows_101 : decode cX9_readRows 101 = .ok (.if_icmp .ne 15, 3) := by decide +kernel
theorem dX9_readRows_104 : decode cX9_readRows 104 = .ok (.lconst 1, 1) := by decide +kernel
theorem dX9_readRows_105 : decode cX9_readRows 105 = .ok (.iload_n 1, 1) := by decide +kernel
theorem dX9_readRows_106 : decode cX9_readRows 106 = .ok (.iload 4, 2) := by decide +kernel
theorem dX9_readRows_108 : decode cX9_readRows 108 = .ok (.imul, 1) := by decide +kernel
theorem dX9_readRows_109 : decode cX9_readRows 109 = .ok (.iload 7, 2) := by decide +kernel
theorem dX9_readRows_111 : decode cX9_readRows 111 = .ok (.iadd, 1) := by decide +kernel
theorem dX9_readRows_112 : decode cX9_readRows 112 = .ok (.lshl, 1) := by decide +kernel
theorem dX9_readRows_113 : decode cX9_readRows 113 = .ok (.goto 4, 3) := by decide +kernel
theorem dX9_readRows_116 : decode cX9_readRows 116 = .ok (.lconst 0, 1) := by decide +kernel
theorem dX9_readRows_117 : decode cX9_readRows 117 = .ok (.lor, 1) := by decide +kernel
theorem dX9_readRows_118 : decode cX9_readRows 118 = .ok (.lstore_n 2, 1) := by decide +kernel
theorem dX9_readRows_119 : decode cX9_readRows 119 = .ok (.iinc 7 1, 3) := by decide +kernel
theorem dX9_readRows_122 : decode cX9_readRows 122 = .ok (.goto (-48), 3) := by decide +kernel
theorem dX9_readRows_125 : decode cX9_readRows 125 = .ok (.iinc 4 1, 3) := by decide +kernel
theorem dX9_readRows_128 : decode cX9_readRows 128 = .ok (.goto (-123), 3) := by decide +kernel
theorem dX9_readRows_131 : decode cX9_readRows 131 = .ok (.lload_n 2, 1) := by decide +kernel
theorem dX9_readRows_132 : decode cX9_readRows 132 = .ok (.lreturn, 1) := by decide +kernel
set_option maxRecDepth 20000 in
theorem ggX9_after_X9_isWord : GoodIn wsX9_after wsX9_isWord := goodIn_r _ [5, 6, 7, 8, 9, 10, 11, 12, 13, 14, 15, 16, 17, 18, 19, 20, 21, 22, 23, 24, 25, 26, 27, 28, 29, 30, 31, 32, 33, 34, 35, 36, 37, 38, 39, 40, 41, 42, 43, 44, 45, 46, 47, 48, 49, 50, 51, 52, 53, 54, 55, 56, 57, 58, 88, 89, 90, 91, 92, 93, 94, 95, 96, 97, 98, 99, 100, 101, 102, 103, 104, 105, 106, 107, 108, 109, 110, 111, 112, 113, 114, 115] (by decide +kernel) (by decide +kernel)
set_option maxRecDepth 20000 in
theorem gX9_after_X9_isWord : GoodIn wsX9_after (wsV RX9 231 RX9 yX9_isWord wsX9_isWord) := goodIn_app (goodIn_of _ (by decide +kernel)) ggX9_after_X9_isWord
set_option maxRecDepth 20000 in
theorem ggX9_after_X9_must : GoodIn wsX9_after wsX9_must := goodIn_r _ [62, 63, 64, 65, 66, 4, 67, 7, 8, 68, 6, 69, 70, 71, 72, 73, 74, 75, 76, 77, 9, 78, 79, 80, 81, 82, 83, 88, 89, 90, 91, 92, 93, 94, 95, 96, 97, 98, 99, 100, 101, 102, 103, 104, 105, 106, 107, 108, 109, 110, 111, 112, 113, 114, 115] (by decide +kernel) (by decide +kernel)
set_option maxRecDepth 20000 in
theorem gX9_after_X9_must : GoodIn wsX9_after (wsV RX9 224 RX9 yX9_must wsX9_must) := goodIn_app (goodIn_of _ (by decide +kernel)) ggX9_after_X9_must
set_option maxRecDepth 20000 in
theorem ggX9_after_X9_number : GoodIn wsX9_after wsX9_number := goodIn_r _ [87, 68, 6, 78, 79, 4, 80, 59, 60, 61, 62, 63, 64, 65, 66, 67, 7, 8, 69, 70, 71, 72, 73, 74, 75, 76, 77, 9, 81, 82, 83, 88, 89, 90, 91, 92, 93, 94, 95, 96, 97, 98, 99, 100, 101, 102, 103, 104, 105, 106, 107, 108, 109, 110, 111, 112, 113, 114, 115] (by decide +kernel) (by decide +kernel)
set_option maxRecDepth 20000 in
theorem gX9_after_X9_number : GoodIn wsX9_after (wsV RX9 235 RX9 yX9_number wsX9_number) := goodIn_app (goodIn_of _ (by decide +kernel)) ggX9_after_X9_number
theorem dX9_after_0 : decode cX9_after 0 = .ok (.aload_n 0, 1) := by decide +kernel
theorem dX9_after_1 : decode cX9_after 1 = .ok (.aload_n 0, 1) := by decide +kernel
theorem dX9_after_2 : decode cX9_after 2 = .ok (.aload_n 1, 1) := by decide +kernel
theorem dX9_after_3 : decode cX9_after 3 = .ok (.invokevirtual 231, 3) := by decide +kernel
theorem dX9_after_6 : decode cX9_after 6 = .ok (.invokevirtual 224, 3) := by decide +kernel
theorem dX9_after_9 : decode cX9_after 9 = .ok (.aload_n 0, 1) := by decide +kernel
theorem dX9_after_10 : decode cX9_after 10 = .ok (.iload_n 2, 1) := by decide +kernel
theorem dX9_after_11 : decode cX9_after 11 = .ok (.iload_n 3, 1) := by decide +kernel
theorem dX9_after_12 : decode cX9_after 12 = .ok (.invokevirtual 235, 3) := by decide +kernel
theorem dX9_after_15 : decode cX9_after 15 = .ok (.ireturn, 1) := by decide +kernel
set_option maxRecDepth 20000 in
theorem ggX9_kindTold_X9_isWord : GoodIn wsX9_kindTold wsX9_isWord := goodIn_r _ [6, 7, 8, 9, 10, 11, 12, 13, 14, 15, 16, 17, 18, 19, 20, 21, 22, 23, 24, 25, 26, 27, 28, 29, 30, 31, 32, 33, 34, 35, 36, 37, 38, 39, 40, 41, 42, 43, 44, 45, 46, 47, 48, 49, 50, 51, 52, 53, 54, 55, 56, 57, 58, 59, 60, 61, 62, 63, 64, 65, 66, 67, 68, 69, 70, 71, 72, 73, 74, 75, 76, 77, 78, 79, 80, 81, 82, 83, 84, 85, 86, 87] (by decide +kernel) (by decide +kernel)
set_option maxRecDepth 20000 in
theorem gX9_kindTold_X9_isWord : GoodIn wsX9_kindTold (wsV RX9 231 RX9 yX9_isWord wsX9_isWord) := goodIn_app (goodIn_of _ (by decide +kernel)) ggX9_kindTold_X9_isWord
theorem dX9_kindTold_0 : decode cX9_kindTold 0 = .ok (.iconst (-1), 1) := by decide +kernel
theorem dX9_kindTold_1 : decode cX9_kindTold 1 = .ok (.istore_n 1, 1) := by decide +kernel
theorem dX9_kindTold_2 : decode cX9_kindTold 2 = .ok (.iconst 0, 1) := by decide +kernel
theorem dX9_kindTold_3 : decode cX9_kindTold 3 = .ok (.istore_n 2, 1) := by decide +kernel
theorem dX9_kindTold_4 : decode cX9_kindTold 4 = .ok (.iload_n 2, 1) := by decide +kernel
theorem dX9_kindTold_5 : decode cX9_kindTold 5 = .ok (.aload_n 0, 1) := by decide +kernel
theorem dX9_kindTold_6 : decode cX9_kindTold 6 = .ok (.getfield 49, 3) := by decide +kernel
theorem dX9_kindTold_9 : decode cX9_kindTold 9 = .ok (.arraylength, 1) := by decide +kernel
theorem dX9_kindTold_10 : decode cX9_kindTold 10 = .ok (.if_icmp .ge 28, 3) := by decide +kernel
theorem dX9_kindTold_13 : decode cX9_kindTold 13 = .ok (.aload_n 0, 1) := by decide +kernel
theorem dX9_kindTold_14 : decode cX9_kindTold 14 = .ok (.aload_n 0, 1) := by decide +kernel
theorem dX9_kindTold_15 : decode cX9_kindTold 15 = .ok (.getfield 49, 3) := by decide +kernel
theorem dX9_kindTold_18 : decode cX9_kindTold 18 = .ok (.iload_n 2, 1) := by decide +kernel
theorem dX9_kindTold_19 : decode cX9_kindTold 19 = .ok (.aaload, 1) := by decide +kernel
theorem dX9_kindTold_20 : decode cX9_kindTold 20 = .ok (.invokevirtual 231, 3) := by decide +kernel
theorem dX9_kindTold_23 : decode cX9_kindTold 23 = .ok (.ifCond .eq 7, 3) := by decide +kernel
theorem dX9_kindTold_26 : decode cX9_kindTold 26 = .ok (.iload_n 2, 1) := by decide +kernel
theorem dX9_kindTold_27 : decode cX9_kindTold 27 = .ok (.goto 4, 3) := by decide +kernel
theorem dX9_kindTold_30 : decode cX9_kindTold 30 = .ok (.iload_n 1, 1) := by decide +kernel
theorem dX9_kindTold_31 : decode cX9_kindTold 31 = .ok (.istore_n 1, 1) := by decide +kernel
theorem dX9_kindTold_32 : decode cX9_kindTold 32 = .ok (.iinc 2 1, 3) := by decide +kernel
theorem dX9_kindTold_35 : decode cX9_kindTold 35 = .ok (.goto (-31), 3) := by decide +kernel
theorem dX9_kindTold_38 : decode cX9_kindTold 38 = .ok (.iload_n 1, 1) := by decide +kernel
theorem dX9_kindTold_39 : decode cX9_kindTold 39 = .ok (.ireturn, 1) := by decide +kernel
set_option maxRecDepth 20000 in
theorem ggX9_readItem_X9_kindTold : GoodIn wsX9_readItem wsX9_kindTold := goodIn_r _ [8, 9, 10, 11, 12, 7, 13, 14, 15, 16, 17, 18, 19, 20, 21, 22, 23, 24, 25, 26, 27, 28, 29, 30, 31, 32, 33, 34, 35, 36, 37, 38, 39, 40, 41, 42, 43, 44, 45, 46, 47, 48, 49, 50, 51, 52, 53, 54, 55, 56, 57, 58, 59, 60, 61, 62, 63, 64, 65, 66, 118, 119, 120, 121, 122, 123, 124, 125, 126, 127, 128, 129, 130, 131, 132, 133, 134, 135, 136, 137, 138, 139, 140, 141, 142, 143, 144, 145] (by decide +kernel) (by decide +kernel)
set_option maxRecDepth 20000 in
theorem gX9_readItem_X9_kindTold : GoodIn wsX9_readItem (wsV RX9 238 RX9 yX9_kindTold wsX9_kindTold) := goodIn_app (goodIn_of _ (by decide +kernel)) ggX9_readItem_X9_kindTold
set_option maxRecDepth 20000 in
theorem ggX9_readItem_X9_must : GoodIn wsX9_readItem wsX9_must := goodIn_r _ [70, 71, 72, 73, 74, 7, 75, 15, 16, 76, 14, 77, 78, 79, 80, 81, 82, 83, 84, 85, 17, 86, 87, 88, 89, 90, 91, 118, 119, 120, 121, 122, 123, 124, 125, 126, 127, 128, 129, 130, 131, 132, 133, 134, 135, 136, 137, 138, 139, 140, 141, 142, 143, 144, 145] (by decide +kernel) (by decide +kernel)
set_option maxRecDepth 20000 in
theorem gX9_readItem_X9_must : GoodIn wsX9_readItem (wsV RX9 224 RX9 yX9_must wsX9_must) := goodIn_app (goodIn_of _ (by decide +kernel)) ggX9_readItem_X9_must
set_option maxRecDepth 20000 in
theorem ggX9_readItem_X9_readRows : GoodIn wsX9_readItem wsX9_readRows := goodIn_r _ [95, 71, 14, 16, 15, 17, 67, 68, 69, 7, 70, 72, 73, 74, 75, 76, 77, 78, 79, 80, 81, 82, 83, 84, 85, 86, 87, 88, 89, 90, 91, 118, 119, 120, 121, 122, 123, 124, 125, 126, 127, 128, 129, 130, 131, 132, 133, 134, 135, 136, 137, 138, 139, 140, 141, 142, 143, 144, 145] (by decide +kernel) (by decide +kernel)
set_option maxRecDepth 20000 in
theorem gX9_readItem_X9_readRows : GoodIn wsX9_readItem (wsV RX9 244 RX9 yX9_readRows wsX9_readRows) := goodIn_app (goodIn_of _ (by decide +kernel)) ggX9_readItem_X9_readRows
set_option maxRecDepth 20000 in
theorem ggX9_readItem_X9_item : GoodIn wsX9_readItem wsX9_item := goodIn_r _ [99, 100, 101, 102, 118, 119, 120, 121, 122, 123, 124, 125, 126, 127, 128, 129, 130, 131, 132, 133, 134, 135, 136, 137, 138, 139, 140, 141, 142, 143, 144, 145] (by decide +kernel) (by decide +kernel)
set_option maxRecDepth 20000 in
theorem gX9_readItem_X9_item : GoodIn wsX9_readItem (wsV RX9 247 RX9 yX9_item wsX9_item) := goodIn_app (goodIn_of _ (by decide +kernel)) ggX9_readItem_X9_item
set_option maxRecDepth 20000 in
theorem ggX9_readItem_X9_isWord : GoodIn wsX9_readItem wsX9_isWord := goodIn_r _ [13, 14, 15, 16, 17, 18, 19, 20, 21, 22, 23, 24, 25, 26, 27, 28, 29, 30, 31, 32, 33, 34, 35, 36, 37, 38, 39, 40, 41, 42, 43, 44, 45, 46, 47, 48, 49, 50, 51, 52, 53, 54, 55, 56, 57, 58, 59, 60, 61, 62, 63, 64, 65, 66, 118, 119, 120, 121, 122, 123, 124, 125, 126, 127, 128, 129, 130, 131, 132, 133, 134, 135, 136, 137, 138, 139, 140, 141, 142, 143, 144, 145] (by decide +kernel) (by decide +kernel)
set_option maxRecDepth 20000 in
theorem gX9_readItem_X9_isWord : GoodIn wsX9_readItem (wsV RX9 231 RX9 yX9_isWord wsX9_isWord) := goodIn_app (goodIn_of _ (by decide +kernel)) ggX9_readItem_X9_isWord
set_option maxRecDepth 20000 in
theorem ggX9_readItem_X9_readHold : GoodIn wsX9_readItem wsX9_readHold := goodIn_r _ [106, 3, 76, 14, 1, 71, 107, 108, 7, 109, 67, 68, 69, 70, 72, 73, 74, 75, 15, 16, 77, 78, 79, 80, 81, 82, 83, 84, 85, 17, 86, 87, 88, 89, 90, 91, 110, 111, 112, 113, 10, 11, 12, 13, 18, 19, 20, 21, 22, 23, 24, 25, 26, 27, 28, 29, 30, 31, 32, 33, 34, 35, 36, 37, 38, 39, 40, 41, 42, 43, 44, 45, 46, 47, 48, 49, 50, 51, 52, 53, 54, 55, 56, 57, 58, 59, 60, 61, 62, 63, 64, 65, 66, 114, 115, 116, 117, 96, 97, 98, 99, 100, 101, 102, 118, 119, 120, 121, 122, 123, 124, 125, 126, 127, 128, 129, 130, 131, 132, 133, 134, 135, 136, 137, 138, 139, 140, 141, 142, 143, 144, 145] (by decide +kernel) (by decide +kernel)
set_option maxRecDepth 20000 in
theorem gX9_readItem_X9_readHold : GoodIn wsX9_readItem (wsV RX9 258 RX9 yX9_readHold wsX9_readHold) := goodIn_app (goodIn_of _ (by decide +kernel)) ggX9_readItem_X9_readHold
set_option maxRecDepth 20000 in
theorem ggX9_readItem_X9_number : GoodIn wsX9_readItem wsX9_number := goodIn_r _ [117, 76, 14, 86, 87, 7, 88, 67, 68, 69, 70, 71, 72, 73, 74, 75, 15, 16, 77, 78, 79, 80, 81, 82, 83, 84, 85, 17, 89, 90, 91, 118, 119, 120, 121, 122, 123, 124, 125, 126, 127, 128, 129, 130, 131, 132, 133, 134, 135, 136, 137, 138, 139, 140, 141, 142, 143, 144, 145] (by decide +kernel) (by decide +kernel)
set_option maxRecDepth 20000 in
theorem gX9_readItem_X9_number : GoodIn wsX9_readItem (wsV RX9 235 RX9 yX9_number wsX9_number) := goodIn_app (goodIn_of _ (by decide +kernel)) ggX9_readItem_X9_number
theorem dX9_readItem_0 : decode cX9_readItem 0 = .ok (.aload_n 0, 1) := by decide +kernel
theorem dX9_readItem_1 : decode cX9_readItem 1 = .ok (.invokevirtual 238, 3) := by decide +kernel
theorem dX9_readItem_4 : decode cX9_readItem 4 = .ok (.istore_n 1, 1) := by decide +kernel
theorem dX9_readItem_5 : decode cX9_readItem 5 = .ok (.iload_n 1, 1) := by decide +kernel
theorem dX9_readItem_6 : decode cX9_readItem 6 = .ok (.ifCond .lt 47, 3) := by decide +kernel
theorem dX9_readItem_9 : decode cX9_readItem 9 = .ok (.aload_n 0, 1) := by decide +kernel
theorem dX9_readItem_10 : decode cX9_readItem 10 = .ok (.aload_n 0, 1) := by decide +kernel
theorem dX9_readItem_11 : decode cX9_readItem 11 = .ok (.getfield 241, 3) := by decide +kernel
theorem dX9_readItem_14 : decode cX9_readItem 14 = .ok (.bipush 9, 2) := by decide +kernel
theorem dX9_readItem_16 : decode cX9_readItem 16 = .ok (.if_icmp .ge 7, 3) := by decide +kernel
theorem dX9_readItem_19 : decode cX9_readItem 19 = .ok (.iconst 1, 1) := by decide +kernel
theorem dX9_readItem_20 : decode cX9_readItem 20 = .ok (.goto 4, 3) := by decide +kernel
theorem dX9_readItem_23 : decode cX9_readItem 23 = .ok (.iconst 0, 1) := by decide +kernel
theorem dX9_readItem_24 : decode cX9_readItem 24 = .ok (.invokevirtual 224, 3) := by decide +kernel
theorem dX9_readItem_27 : decode cX9_readItem 27 = .ok (.aload_n 0, 1) := by decide +kernel
theorem dX9_readItem_28 : decode cX9_readItem 28 = .ok (.dup, 1) := by decide +kernel
theorem dX9_readItem_29 : decode cX9_readItem 29 = .ok (.getfield 241, 3) := by decide +kernel
theorem dX9_readItem_32 : decode cX9_readItem 32 = .ok (.iconst 1, 1) := by decide +kernel
theorem dX9_readItem_33 : decode cX9_readItem 33 = .ok (.iadd, 1) := by decide +kernel
theorem dX9_readItem_34 : decode cX9_readItem 34 = .ok (.putfield 241, 3) := by decide +kernel
theorem dX9_readItem_37 : decode cX9_readItem 37 = .ok (.aload_n 0, 1) := by decide +kernel
theorem dX9_readItem_38 : decode cX9_readItem 38 = .ok (.iload_n 1, 1) := by decide +kernel
theorem dX9_readItem_39 : decode cX9_readItem 39 = .ok (.aload_n 0, 1) := by decide +kernel
theorem dX9_readItem_40 : decode cX9_readItem 40 = .ok (.iconst 4, 1) := by decide +kernel
theorem dX9_readItem_41 : decode cX9_readItem 41 = .ok (.invokevirtual 244, 3) := by decide +kernel
theorem dX9_readItem_44 : decode cX9_readItem 44 = .ok (.l2i, 1) := by decide +kernel
theorem dX9_readItem_45 : decode cX9_readItem 45 = .ok (.iconst 0, 1) := by decide +kernel
theorem dX9_readItem_46 : decode cX9_readItem 46 = .ok (.lconst 0, 1) := by decide +kernel
theorem dX9_readItem_47 : decode cX9_readItem 47 = .ok (.invokevirtual 247, 3) := by decide +kernel
theorem dX9_readItem_50 : decode cX9_readItem 50 = .ok (.goto 136, 3) := by decide +kernel
theorem dX9_readItem_53 : decode cX9_readItem 53 = .ok (.aload_n 0, 1) := by decide +kernel
theorem dX9_readItem_54 : decode cX9_readItem 54 = .ok (.ldc 251, 2) := by decide +kernel
theorem dX9_readItem_56 : decode cX9_readItem 56 = .ok (.invokevirtual 231, 3) := by decide +kernel
theorem dX9_readItem_59 : decode cX9_readItem 59 = .ok (.ifCond .eq 48, 3) := by decide +kernel
theorem dX9_readItem_62 : decode cX9_readItem 62 = .ok (.aload_n 0, 1) := by decide +kernel
theorem dX9_readItem_63 : decode cX9_readItem 63 = .ok (.aload_n 0, 1) := by decide +kernel
theorem dX9_readItem_64 : decode cX9_readItem 64 = .ok (.getfield 253, 3) := by decide +kernel
theorem dX9_readItem_67 : decode cX9_readItem 67 = .ok (.bipush 7, 2) := by decide +kernel
theorem dX9_readItem_69 : decode cX9_readItem 69 = .ok (.if_icmp .ge 7, 3) := by decide +kernel
theorem dX9_readItem_72 : decode cX9_readItem 72 = .ok (.iconst 1, 1) := by decide +kernel
theorem dX9_readItem_73 : decode cX9_readItem 73 = .ok (.goto 4, 3) := by decide +kernel
theorem dX9_readItem_76 : decode cX9_readItem 76 = .ok (.iconst 0, 1) := by decide +kernel
theorem dX9_readItem_77 : decode cX9_readItem 77 = .ok (.invokevirtual 224, 3) := by decide +kernel
theorem dX9_readItem_80 : decode cX9_readItem 80 = .ok (.aload_n 0, 1) := by decide +kernel
theorem dX9_readItem_81 : decode cX9_readItem 81 = .ok (.dup, 1) := by decide +kernel
theorem dX9_readItem_82 : decode cX9_readItem 82 = .ok (.getfield 253, 3) := by decide +kernel
theorem dX9_readItem_85 : decode cX9_readItem 85 = .ok (.iconst 1, 1) := by decide +kernel
theorem dX9_readItem_86 : decode cX9_readItem 86 = .ok (.iadd, 1) := by decide +kernel
theorem dX9_readItem_87 : decode cX9_readItem 87 = .ok (.putfield 253, 3) := by decide +kernel
theorem dX9_readItem_90 : decode cX9_readItem 90 = .ok (.aload_n 0, 1) := by decide +kernel
theorem dX9_readItem_91 : decode cX9_readItem 91 = .ok (.bipush 10, 2) := by decide +kernel
theorem dX9_readItem_93 : decode cX9_readItem 93 = .ok (.iconst 0, 1) := by decide +kernel
theorem dX9_readItem_94 : decode cX9_readItem 94 = .ok (.iconst 0, 1) := by decide +kernel
theorem dX9_readItem_95 : decode cX9_readItem 95 = .ok (.aload_n 0, 1) := by decide +kernel
theorem dX9_readItem_96 : decode cX9_readItem 96 = .ok (.bipush 8, 2) := by decide +kernel
theorem dX9_readItem_98 : decode cX9_readItem 98 = .ok (.invokevirtual 244, 3) := by decide +kernel
theorem dX9_readItem_101 : decode cX9_readItem 101 = .ok (.invokevirtual 247, 3) := by decide +kernel
theorem dX9_readItem_104 : decode cX9_readItem 104 = .ok (.goto 82, 3) := by decide +kernel
theorem dX9_readItem_107 : decode cX9_readItem 107 = .ok (.aload_n 0, 1) := by decide +kernel
theorem dX9_readItem_108 : decode cX9_readItem 108 = .ok (.ldc_w 256, 3) := by decide +kernel
theorem dX9_readItem_111 : decode cX9_readItem 111 = .ok (.invokevirtual 231, 3) := by decide +kernel
theorem dX9_readItem_114 : decode cX9_readItem 114 = .ok (.ifCond .eq 10, 3) := by decide +kernel
theorem dX9_readItem_117 : decode cX9_readItem 117 = .ok (.aload_n 0, 1) := by decide +kernel
theorem dX9_readItem_118 : decode cX9_readItem 118 = .ok (.invokevirtual 258, 3) := by decide +kernel
theorem dX9_readItem_121 : decode cX9_readItem 121 = .ok (.goto 65, 3) := by decide +kernel
theorem dX9_readItem_124 : decode cX9_readItem 124 = .ok (.aload_n 0, 1) := by decide +kernel
theorem dX9_readItem_125 : decode cX9_readItem 125 = .ok (.ldc_w 261, 3) := by decide +kernel
theorem dX9_readItem_128 : decode cX9_readItem 128 = .ok (.invokevirtual 231, 3) := by decide +kernel
theorem dX9_readItem_131 : decode cX9_readItem 131 = .ok (.ifCond .eq 25, 3) := by decide +kernel
theorem dX9_readItem_134 : decode cX9_readItem 134 = .ok (.aload_n 0, 1) := by decide +kernel
theorem dX9_readItem_135 : decode cX9_readItem 135 = .ok (.iconst 1, 1) := by decide +kernel
theorem dX9_readItem_136 : decode cX9_readItem 136 = .ok (.invokevirtual 224, 3) := by decide +kernel
theorem dX9_readItem_139 : decode cX9_readItem 139 = .ok (.aload_n 0, 1) := by decide +kernel
theorem dX9_readItem_140 : decode cX9_readItem 140 = .ok (.iconst 0, 1) := by decide +kernel
theorem dX9_readItem_141 : decode cX9_readItem 141 = .ok (.putfield 263, 3) := by decide +kernel
theorem dX9_readItem_144 : decode cX9_readItem 144 = .ok (.aload_n 0, 1) := by decide +kernel
theorem dX9_readItem_145 : decode cX9_readItem 145 = .ok (.bipush 12, 2) := by decide +kernel
theorem dX9_readItem_147 : decode cX9_readItem 147 = .ok (.iconst 0, 1) := by decide +kernel
theorem dX9_readItem_148 : decode cX9_readItem 148 = .ok (.iconst 0, 1) := by decide +kernel
theorem dX9_readItem_149 : decode cX9_readItem 149 = .ok (.lconst 0, 1) := by decide +kernel
theorem dX9_readItem_150 : decode cX9_readItem 150 = .ok (.invokevirtual 247, 3) := by decide +kernel
theorem dX9_readItem_153 : decode cX9_readItem 153 = .ok (.goto 33, 3) := by decide +kernel
theorem dX9_readItem_156 : decode cX9_readItem 156 = .ok (.aload_n 0, 1) := by decide +kernel
theorem dX9_readItem_157 : decode cX9_readItem 157 = .ok (.aload_n 0, 1) := by decide +kernel
theorem dX9_readItem_158 : decode cX9_readItem 158 = .ok (.ldc_w 266, 3) := by decide +kernel
theorem dX9_readItem_161 : decode cX9_readItem 161 = .ok (.invokevirtual 231, 3) := by decide +kernel
theorem dX9_readItem_164 : decode cX9_readItem 164 = .ok (.invokevirtual 224, 3) := by decide +kernel
theorem dX9_readItem_167 : decode cX9_readItem 167 = .ok (.aload_n 0, 1) := by decide +kernel
theorem dX9_readItem_168 : decode cX9_readItem 168 = .ok (.bipush 13, 2) := by decide +kernel
theorem dX9_readItem_170 : decode cX9_readItem 170 = .ok (.aload_n 0, 1) := by decide +kernel
theorem dX9_readItem_171 : decode cX9_readItem 171 = .ok (.iconst 0, 1) := by decide +kernel
theorem dX9_readItem_172 : decode cX9_readItem 172 = .ok (.aload_n 0, 1) := by decide +kernel
theorem dX9_readItem_173 : decode cX9_readItem 173 = .ok (.getfield 241, 3) := by decide +kernel
theorem dX9_readItem_176 : decode cX9_readItem 176 = .ok (.iconst 1, 1) := by decide +kernel
theorem dX9_readItem_177 : decode cX9_readItem 177 = .ok (.isub, 1) := by decide +kernel
theorem dX9_readItem_178 : decode cX9_readItem 178 = .ok (.invokevirtual 235, 3) := by decide +kernel
theorem dX9_readItem_181 : decode cX9_readItem 181 = .ok (.iconst 0, 1) := by decide +kernel
theorem dX9_readItem_182 : decode cX9_readItem 182 = .ok (.lconst 0, 1) := by decide +kernel
theorem dX9_readItem_183 : decode cX9_readItem 183 = .ok (.invokevirtual 247, 3) := by decide +kernel
theorem dX9_readItem_186 : decode cX9_readItem 186 = .ok (.return_, 1) := by decide +kernel
set_option maxRecDepth 20000 in
theorem ggX9_readHold_X9_bits : GoodIn wsX9_readHold wsX9_bits := goodIn_r _ [9] (by decide +kernel) (by decide +kernel)
set_option maxRecDepth 20000 in
theorem gX9_readHold_X9_bits : GoodIn wsX9_readHold (va_wsS RX9 158 yX9_bits wsX9_bits) := goodIn_app (goodIn_of _ (by decide +kernel)) ggX9_readHold_X9_bits
set_option maxRecDepth 20000 in
theorem ggX9_readHold_X9_must : GoodIn wsX9_readHold wsX9_must := goodIn_r _ [13, 5, 14, 15, 16, 8, 17, 18, 19, 2, 3, 20, 21, 22, 23, 24, 25, 26, 27, 28, 29, 30, 31, 32, 33, 34, 35, 104, 105, 106, 107, 108, 109, 110, 111, 112, 113, 114, 115, 116, 117, 118, 119, 120, 121, 122, 123, 124, 125, 126, 127, 128, 129, 130, 131] (by decide +kernel) (by decide +kernel)
set_option maxRecDepth 20000 in
theorem gX9_readHold_X9_must : GoodIn wsX9_readHold (wsV RX9 224 RX9 yX9_must wsX9_must) := goodIn_app (goodIn_of _ (by decide +kernel)) ggX9_readHold_X9_must
set_option maxRecDepth 20000 in
theorem ggX9_readHold_X9_within : GoodIn wsX9_readHold wsX9_within := goodIn_r _ [32] (by decide +kernel) (by decide +kernel)
set_option maxRecDepth 20000 in
theorem gX9_readHold_X9_within : GoodIn wsX9_readHold (va_wsS RX9 75 yX9_within wsX9_within) := goodIn_app (goodIn_of _ (by decide +kernel)) ggX9_readHold_X9_within
set_option maxRecDepth 20000 in
theorem ggX9_readHold_X9_after : GoodIn wsX9_readHold wsX9_after := goodIn_r _ [39, 40, 41, 42, 8, 43, 3, 18, 19, 29, 44, 45, 46, 47, 48, 49, 50, 51, 52, 53, 54, 55, 56, 57, 58, 59, 60, 61, 62, 63, 64, 65, 66, 67, 68, 69, 70, 71, 72, 73, 74, 75, 76, 77, 78, 79, 80, 81, 82, 83, 84, 85, 86, 87, 88, 89, 90, 91, 92, 10, 11, 12, 13, 5, 14, 15, 16, 17, 2, 20, 21, 22, 23, 24, 25, 26, 27, 28, 30, 31, 32, 33, 34, 35, 93, 94, 95, 96, 104, 105, 106, 107, 108, 109, 110, 111, 112, 113, 114, 115, 116, 117, 118, 119, 120, 121, 122, 123, 124, 125, 126, 127, 128, 129, 130, 131] (by decide +kernel) (by decide +kernel)
set_option maxRecDepth 20000 in
theorem gX9_readHold_X9_after : GoodIn wsX9_readHold (wsV RX9 270 RX9 yX9_after wsX9_after) := goodIn_app (goodIn_of _ (by decide +kernel)) ggX9_readHold_X9_after
set_option maxRecDepth 20000 in
theorem ggX9_readHold_X9_number : GoodIn wsX9_readHold wsX9_number := goodIn_r _ [96, 2, 3, 30, 31, 8, 32, 10, 11, 12, 13, 5, 14, 15, 16, 17, 18, 19, 20, 21, 22, 23, 24, 25, 26, 27, 28, 29, 33, 34, 35, 104, 105, 106, 107, 108, 109, 110, 111, 112, 113, 114, 115, 116, 117, 118, 119, 120, 121, 122, 123, 124, 125, 126, 127, 128, 129, 130, 131] (by decide +kernel) (by decide +kernel)
set_option maxRecDepth 20000 in
theorem gX9_readHold_X9_number : GoodIn wsX9_readHold (wsV RX9 235 RX9 yX9_number wsX9_number) := goodIn_app (goodIn_of _ (by decide +kernel)) ggX9_readHold_X9_number
set_option maxRecDepth 20000 in
theorem ggX9_readHold_X9_item : GoodIn wsX9_readHold wsX9_item := goodIn_r _ [100, 101, 102, 103, 104, 105, 106, 107, 108, 109, 110, 111, 112, 113, 114, 115, 116, 117, 118, 119, 120, 121, 122, 123, 124, 125, 126, 127, 128, 129, 130, 131] (by decide +kernel) (by decide +kernel)
set_option maxRecDepth 20000 in
theorem gX9_readHold_X9_item : GoodIn wsX9_readHold (wsV RX9 247 RX9 yX9_item wsX9_item) := goodIn_app (goodIn_of _ (by decide +kernel)) ggX9_readHold_X9_item
theorem dX9_readHold_0 : decode cX9_readHold 0 = .ok (.aload_n 0, 1) := by decide +kernel
theorem dX9_readHold_1 : decode cX9_readHold 1 = .ok (.aload_n 0, 1) := by decide +kernel
theorem dX9_readHold_2 : decode cX9_readHold 2 = .ok (.getfield 263, 3) := by decide +kernel
theorem dX9_readHold_5 : decode cX9_readHold 5 = .ok (.i2l, 1) := by decide +kernel
theorem dX9_readHold_6 : decode cX9_readHold 6 = .ok (.invokestatic 158, 3) := by decide +kernel
theorem dX9_readHold_9 : decode cX9_readHold 9 = .ok (.iconst 4, 1) := by decide +kernel
theorem dX9_readHold_10 : decode cX9_readHold 10 = .ok (.if_icmp .ge 7, 3) := by decide +kernel
theorem dX9_readHold_13 : decode cX9_readHold 13 = .ok (.iconst 1, 1) := by decide +kernel
theorem dX9_readHold_14 : decode cX9_readHold 14 = .ok (.goto 4, 3) := by decide +kernel
theorem dX9_readHold_17 : decode cX9_readHold 17 = .ok (.iconst 0, 1) := by decide +kernel
theorem dX9_readHold_18 : decode cX9_readHold 18 = .ok (.invokevirtual 224, 3) := by decide +kernel
theorem dX9_readHold_21 : decode cX9_readHold 21 = .ok (.aload_n 0, 1) := by decide +kernel
theorem dX9_readHold_22 : decode cX9_readHold 22 = .ok (.getfield 200, 3) := by decide +kernel
theorem dX9_readHold_25 : decode cX9_readHold 25 = .ok (.istore_n 1, 1) := by decide +kernel
theorem dX9_readHold_26 : decode cX9_readHold 26 = .ok (.aload_n 0, 1) := by decide +kernel
theorem dX9_readHold_27 : decode cX9_readHold 27 = .ok (.aload_n 0, 1) := by decide +kernel
theorem dX9_readHold_28 : decode cX9_readHold 28 = .ok (.getfield 203, 3) := by decide +kernel
theorem dX9_readHold_31 : decode cX9_readHold 31 = .ok (.iconst 2, 1) := by decide +kernel
theorem dX9_readHold_32 : decode cX9_readHold 32 = .ok (.if_icmp .ne 32, 3) := by decide +kernel
theorem dX9_readHold_35 : decode cX9_readHold 35 = .ok (.iload_n 1, 1) := by decide +kernel
theorem dX9_readHold_36 : decode cX9_readHold 36 = .ok (.iconst 0, 1) := by decide +kernel
theorem dX9_readHold_37 : decode cX9_readHold 37 = .ok (.aload_n 0, 1) := by decide +kernel
theorem dX9_readHold_38 : decode cX9_readHold 38 = .ok (.getfield 241, 3) := by decide +kernel
theorem dX9_readHold_41 : decode cX9_readHold 41 = .ok (.iconst 1, 1) := by decide +kernel
theorem dX9_readHold_42 : decode cX9_readHold 42 = .ok (.isub, 1) := by decide +kernel
theorem dX9_readHold_43 : decode cX9_readHold 43 = .ok (.invokestatic 75, 3) := by decide +kernel
theorem dX9_readHold_46 : decode cX9_readHold 46 = .ok (.ifCond .eq 18, 3) := by decide +kernel
theorem dX9_readHold_49 : decode cX9_readHold 49 = .ok (.aload_n 0, 1) := by decide +kernel
theorem dX9_readHold_50 : decode cX9_readHold 50 = .ok (.getfield 263, 3) := by decide +kernel
theorem dX9_readHold_53 : decode cX9_readHold 53 = .ok (.iload_n 1, 1) := by decide +kernel
theorem dX9_readHold_54 : decode cX9_readHold 54 = .ok (.ishr, 1) := by decide +kernel
theorem dX9_readHold_55 : decode cX9_readHold 55 = .ok (.iconst 1, 1) := by decide +kernel
theorem dX9_readHold_56 : decode cX9_readHold 56 = .ok (.iand, 1) := by decide +kernel
theorem dX9_readHold_57 : decode cX9_readHold 57 = .ok (.ifCond .ne 7, 3) := by decide +kernel
theorem dX9_readHold_60 : decode cX9_readHold 60 = .ok (.iconst 1, 1) := by decide +kernel
theorem dX9_readHold_61 : decode cX9_readHold 61 = .ok (.goto 4, 3) := by decide +kernel
theorem dX9_readHold_64 : decode cX9_readHold 64 = .ok (.iconst 0, 1) := by decide +kernel
theorem dX9_readHold_65 : decode cX9_readHold 65 = .ok (.invokevirtual 224, 3) := by decide +kernel
theorem dX9_readHold_68 : decode cX9_readHold 68 = .ok (.aload_n 0, 1) := by decide +kernel
theorem dX9_readHold_69 : decode cX9_readHold 69 = .ok (.dup, 1) := by decide +kernel
theorem dX9_readHold_70 : decode cX9_readHold 70 = .ok (.getfield 263, 3) := by decide +kernel
theorem dX9_readHold_73 : decode cX9_readHold 73 = .ok (.aload_n 0, 1) := by decide +kernel
theorem dX9_readHold_74 : decode cX9_readHold 74 = .ok (.getfield 217, 3) := by decide +kernel
theorem dX9_readHold_77 : decode cX9_readHold 77 = .ok (.ifCond .eq 7, 3) := by decide +kernel
theorem dX9_readHold_80 : decode cX9_readHold 80 = .ok (.iconst 0, 1) := by decide +kernel
theorem dX9_readHold_81 : decode cX9_readHold 81 = .ok (.goto 6, 3) := by decide +kernel
theorem dX9_readHold_84 : decode cX9_readHold 84 = .ok (.iconst 1, 1) := by decide +kernel
theorem dX9_readHold_85 : decode cX9_readHold 85 = .ok (.iload_n 1, 1) := by decide +kernel
theorem dX9_readHold_86 : decode cX9_readHold 86 = .ok (.ishl, 1) := by decide +kernel
theorem dX9_readHold_87 : decode cX9_readHold 87 = .ok (.ior, 1) := by decide +kernel
theorem dX9_readHold_88 : decode cX9_readHold 88 = .ok (.putfield 263, 3) := by decide +kernel
theorem dX9_readHold_91 : decode cX9_readHold 91 = .ok (.aload_n 0, 1) := by decide +kernel
theorem dX9_readHold_92 : decode cX9_readHold 92 = .ok (.ldc_w 268, 3) := by decide +kernel
theorem dX9_readHold_95 : decode cX9_readHold 95 = .ok (.iconst 1, 1) := by decide +kernel
theorem dX9_readHold_96 : decode cX9_readHold 96 = .ok (.iconst 2, 1) := by decide +kernel
theorem dX9_readHold_97 : decode cX9_readHold 97 = .ok (.invokevirtual 270, 3) := by decide +kernel
theorem dX9_readHold_100 : decode cX9_readHold 100 = .ok (.istore_n 2, 1) := by decide +kernel
theorem dX9_readHold_101 : decode cX9_readHold 101 = .ok (.aload_n 0, 1) := by decide +kernel
theorem dX9_readHold_102 : decode cX9_readHold 102 = .ok (.ldc_w 274, 3) := by decide +kernel
theorem dX9_readHold_105 : decode cX9_readHold 105 = .ok (.iconst 0, 1) := by decide +kernel
theorem dX9_readHold_106 : decode cX9_readHold 106 = .ok (.iconst 3, 1) := by decide +kernel
theorem dX9_readHold_107 : decode cX9_readHold 107 = .ok (.invokevirtual 270, 3) := by decide +kernel
theorem dX9_readHold_110 : decode cX9_readHold 110 = .ok (.istore_n 3, 1) := by decide +kernel
theorem dX9_readHold_111 : decode cX9_readHold 111 = .ok (.aload_n 0, 1) := by decide +kernel
theorem dX9_readHold_112 : decode cX9_readHold 112 = .ok (.ldc_w 276, 3) := by decide +kernel
theorem dX9_readHold_115 : decode cX9_readHold 115 = .ok (.iconst 0, 1) := by decide +kernel
theorem dX9_readHold_116 : decode cX9_readHold 116 = .ok (.bipush 7, 2) := by decide +kernel
theorem dX9_readHold_118 : decode cX9_readHold 118 = .ok (.invokevirtual 270, 3) := by decide +kernel
theorem dX9_readHold_121 : decode cX9_readHold 121 = .ok (.istore 4, 2) := by decide +kernel
theorem dX9_readHold_123 : decode cX9_readHold 123 = .ok (.aload_n 0, 1) := by decide +kernel
theorem dX9_readHold_124 : decode cX9_readHold 124 = .ok (.bipush 11, 2) := by decide +kernel
theorem dX9_readHold_126 : decode cX9_readHold 126 = .ok (.iload_n 1, 1) := by decide +kernel
theorem dX9_readHold_127 : decode cX9_readHold 127 = .ok (.sipush 1000, 3) := by decide +kernel
theorem dX9_readHold_130 : decode cX9_readHold 130 = .ok (.iconst 4, 1) := by decide +kernel
theorem dX9_readHold_131 : decode cX9_readHold 131 = .ok (.iload_n 2, 1) := by decide +kernel
theorem dX9_readHold_132 : decode cX9_readHold 132 = .ok (.imul, 1) := by decide +kernel
theorem dX9_readHold_133 : decode cX9_readHold 133 = .ok (.iload_n 3, 1) := by decide +kernel
theorem dX9_readHold_134 : decode cX9_readHold 134 = .ok (.iadd, 1) := by decide +kernel
theorem dX9_readHold_135 : decode cX9_readHold 135 = .ok (.imul, 1) := by decide +kernel
theorem dX9_readHold_136 : decode cX9_readHold 136 = .ok (.bipush 10, 2) := by decide +kernel
theorem dX9_readHold_138 : decode cX9_readHold 138 = .ok (.iload 4, 2) := by decide +kernel
theorem dX9_readHold_140 : decode cX9_readHold 140 = .ok (.imul, 1) := by decide +kernel
theorem dX9_readHold_141 : decode cX9_readHold 141 = .ok (.iadd, 1) := by decide +kernel
theorem dX9_readHold_142 : decode cX9_readHold 142 = .ok (.aload_n 0, 1) := by decide +kernel
theorem dX9_readHold_143 : decode cX9_readHold 143 = .ok (.iconst 0, 1) := by decide +kernel
theorem dX9_readHold_144 : decode cX9_readHold 144 = .ok (.bipush 7, 2) := by decide +kernel
theorem dX9_readHold_146 : decode cX9_readHold 146 = .ok (.invokevirtual 235, 3) := by decide +kernel
theorem dX9_readHold_149 : decode cX9_readHold 149 = .ok (.iadd, 1) := by decide +kernel
theorem dX9_readHold_150 : decode cX9_readHold 150 = .ok (.lconst 0, 1) := by decide +kernel
theorem dX9_readHold_151 : decode cX9_readHold 151 = .ok (.invokevirtual 247, 3) := by decide +kernel
theorem dX9_readHold_154 : decode cX9_readHold 154 = .ok (.return_, 1) := by decide +kernel
set_option maxRecDepth 20000 in
theorem ggX9_isSo_X9_painted : GoodIn wsX9_isSo wsX9_painted := goodIn_r _ [8, 9, 3, 26, 27, 28, 29, 30, 31, 32, 33, 34, 35, 36, 37, 38, 39, 40, 41, 42, 43, 44, 45, 46, 47, 48, 49, 50, 51, 52, 53] (by decide +kernel) (by decide +kernel)
set_option maxRecDepth 20000 in
theorem gX9_isSo_X9_painted : GoodIn wsX9_isSo (wsV RX9 151 RX9 yX9_painted wsX9_painted) := goodIn_app (goodIn_of _ (by decide +kernel)) ggX9_isSo_X9_painted
set_option maxRecDepth 20000 in
theorem ggX9_isSo_X9_holds : GoodIn wsX9_isSo wsX9_holds := goodIn_r _ [13, 3, 14, 15, 16, 7, 17, 26, 27, 28, 29, 30, 31, 32, 33, 34, 35, 36, 37, 38, 39, 40, 41, 42, 43, 44, 45, 46, 47, 48, 49, 50, 51, 52, 53] (by decide +kernel) (by decide +kernel)
set_option maxRecDepth 20000 in
theorem gX9_isSo_X9_holds : GoodIn wsX9_isSo (wsV RX9 134 RX9 yX9_holds wsX9_holds) := goodIn_app (goodIn_of _ (by decide +kernel)) ggX9_isSo_X9_holds
set_option maxRecDepth 20000 in
theorem ggX9_isSo_X9_dropAll : GoodIn wsX9_isSo wsX9_dropAll := goodIn_r _ [21, 3, 26, 27, 28, 29, 30, 31, 32, 33, 34, 35, 36, 37, 38, 39, 40, 41, 42, 43, 44, 45, 46, 47, 48, 49, 50, 51, 52, 53] (by decide +kernel) (by decide +kernel)
set_option maxRecDepth 20000 in
theorem gX9_isSo_X9_dropAll : GoodIn wsX9_isSo (wsV RX9 71 RX9 yX9_dropAll wsX9_dropAll) := goodIn_app (goodIn_of _ (by decide +kernel)) ggX9_isSo_X9_dropAll
set_option maxRecDepth 20000 in
theorem ggX9_isSo_X9_made : GoodIn wsX9_isSo wsX9_made := goodIn_r _ [25, 3, 26, 27, 28, 29, 30, 31, 32, 33, 34, 35, 36, 37, 38, 39, 40, 41, 42, 43, 44, 45, 46, 47, 48, 49, 50, 51, 52, 53] (by decide +kernel) (by decide +kernel)
set_option maxRecDepth 20000 in
theorem gX9_isSo_X9_made : GoodIn wsX9_isSo (wsV RX9 89 RX9 yX9_made wsX9_made) := goodIn_app (goodIn_of _ (by decide +kernel)) ggX9_isSo_X9_made
theorem dX9_isSo_0 : decode cX9_isSo 0 = .ok (.aload_n 0, 1) := by decide +kernel
theorem dX9_isSo_1 : decode cX9_isSo 1 = .ok (.getfield 53, 3) := by decide +kernel
theorem dX9_isSo_4 : decode cX9_isSo 4 = .ok (.iconst 3, 1) := by decide +kernel
theorem dX9_isSo_5 : decode cX9_isSo 5 = .ok (.iload_n 1, 1) := by decide +kernel
theorem dX9_isSo_6 : decode cX9_isSo 6 = .ok (.imul, 1) := by decide +kernel
theorem dX9_isSo_7 : decode cX9_isSo 7 = .ok (.iconst 1, 1) := by decide +kernel
theorem dX9_isSo_8 : decode cX9_isSo 8 = .ok (.iadd, 1) := by decide +kernel
theorem dX9_isSo_9 : decode cX9_isSo 9 = .ok (.iaload, 1) := by decide +kernel
theorem dX9_isSo_10 : decode cX9_isSo 10 = .ok (.istore_n 2, 1) := by decide +kernel
theorem dX9_isSo_11 : decode cX9_isSo 11 = .ok (.aload_n 0, 1) := by decide +kernel
theorem dX9_isSo_12 : decode cX9_isSo 12 = .ok (.getfield 53, 3) := by decide +kernel
theorem dX9_isSo_15 : decode cX9_isSo 15 = .ok (.iconst 3, 1) := by decide +kernel
theorem dX9_isSo_16 : decode cX9_isSo 16 = .ok (.iload_n 1, 1) := by decide +kernel
theorem dX9_isSo_17 : decode cX9_isSo 17 = .ok (.imul, 1) := by decide +kernel
theorem dX9_isSo_18 : decode cX9_isSo 18 = .ok (.iconst 2, 1) := by decide +kernel
theorem dX9_isSo_19 : decode cX9_isSo 19 = .ok (.iadd, 1) := by decide +kernel
theorem dX9_isSo_20 : decode cX9_isSo 20 = .ok (.iaload, 1) := by decide +kernel
theorem dX9_isSo_21 : decode cX9_isSo 21 = .ok (.istore_n 3, 1) := by decide +kernel
theorem dX9_isSo_22 : decode cX9_isSo 22 = .ok (.aload_n 0, 1) := by decide +kernel
theorem dX9_isSo_23 : decode cX9_isSo 23 = .ok (.getfield 53, 3) := by decide +kernel
theorem dX9_isSo_26 : decode cX9_isSo 26 = .ok (.iconst 3, 1) := by decide +kernel
theorem dX9_isSo_27 : decode cX9_isSo 27 = .ok (.iload_n 1, 1) := by decide +kernel
theorem dX9_isSo_28 : decode cX9_isSo 28 = .ok (.imul, 1) := by decide +kernel
theorem dX9_isSo_29 : decode cX9_isSo 29 = .ok (.iaload, 1) := by decide +kernel
theorem dX9_isSo_30 : decode cX9_isSo 30 = .ok (.tableswitch 79 10 13 #[30, 45, 56, 63], 30) := by decide +kernel
theorem dX9_isSo_60 : decode cX9_isSo 60 = .ok (.aload_n 0, 1) := by decide +kernel
theorem dX9_isSo_61 : decode cX9_isSo 61 = .ok (.aload_n 0, 1) := by decide +kernel
theorem dX9_isSo_62 : decode cX9_isSo 62 = .ok (.getfield 56, 3) := by decide +kernel
theorem dX9_isSo_65 : decode cX9_isSo 65 = .ok (.iload_n 1, 1) := by decide +kernel
theorem dX9_isSo_66 : decode cX9_isSo 66 = .ok (.laload, 1) := by decide +kernel
theorem dX9_isSo_67 : decode cX9_isSo 67 = .ok (.invokevirtual 151, 3) := by decide +kernel
theorem dX9_isSo_70 : decode cX9_isSo 70 = .ok (.istore 4, 2) := by decide +kernel
theorem dX9_isSo_72 : decode cX9_isSo 72 = .ok (.goto 52, 3) := by decide +kernel
theorem dX9_isSo_75 : decode cX9_isSo 75 = .ok (.aload_n 0, 1) := by decide +kernel
theorem dX9_isSo_76 : decode cX9_isSo 76 = .ok (.iload_n 2, 1) := by decide +kernel
theorem dX9_isSo_77 : decode cX9_isSo 77 = .ok (.iload_n 3, 1) := by decide +kernel
theorem dX9_isSo_78 : decode cX9_isSo 78 = .ok (.invokevirtual 134, 3) := by decide +kernel
theorem dX9_isSo_81 : decode cX9_isSo 81 = .ok (.istore 4, 2) := by decide +kernel
theorem dX9_isSo_83 : decode cX9_isSo 83 = .ok (.goto 41, 3) := by decide +kernel
theorem dX9_isSo_86 : decode cX9_isSo 86 = .ok (.aload_n 0, 1) := by decide +kernel
theorem dX9_isSo_87 : decode cX9_isSo 87 = .ok (.invokevirtual 71, 3) := by decide +kernel
theorem dX9_isSo_90 : decode cX9_isSo 90 = .ok (.goto 34, 3) := by decide +kernel
theorem dX9_isSo_93 : decode cX9_isSo 93 = .ok (.aload_n 0, 1) := by decide +kernel
theorem dX9_isSo_94 : decode cX9_isSo 94 = .ok (.getfield 9, 3) := by decide +kernel
theorem dX9_isSo_97 : decode cX9_isSo 97 = .ok (.iconst 3, 1) := by decide +kernel
theorem dX9_isSo_98 : decode cX9_isSo 98 = .ok (.iconst 3, 1) := by decide +kernel
theorem dX9_isSo_99 : decode cX9_isSo 99 = .ok (.iload_n 2, 1) := by decide +kernel
theorem dX9_isSo_100 : decode cX9_isSo 100 = .ok (.imul, 1) := by decide +kernel
theorem dX9_isSo_101 : decode cX9_isSo 101 = .ok (.iadd, 1) := by decide +kernel
theorem dX9_isSo_102 : decode cX9_isSo 102 = .ok (.iconst 2, 1) := by decide +kernel
theorem dX9_isSo_103 : decode cX9_isSo 103 = .ok (.iadd, 1) := by decide +kernel
theorem dX9_isSo_104 : decode cX9_isSo 104 = .ok (.iconst 1, 1) := by decide +kernel
theorem dX9_isSo_105 : decode cX9_isSo 105 = .ok (.iastore, 1) := by decide +kernel
theorem dX9_isSo_106 : decode cX9_isSo 106 = .ok (.goto 18, 3) := by decide +kernel
theorem dX9_isSo_109 : decode cX9_isSo 109 = .ok (.aload_n 0, 1) := by decide +kernel
theorem dX9_isSo_110 : decode cX9_isSo 110 = .ok (.aload_n 0, 1) := by decide +kernel
theorem dX9_isSo_111 : decode cX9_isSo 111 = .ok (.getfield 53, 3) := by decide +kernel
theorem dX9_isSo_114 : decode cX9_isSo 114 = .ok (.iconst 3, 1) := by decide +kernel
theorem dX9_isSo_115 : decode cX9_isSo 115 = .ok (.iload_n 1, 1) := by decide +kernel
theorem dX9_isSo_116 : decode cX9_isSo 116 = .ok (.imul, 1) := by decide +kernel
theorem dX9_isSo_117 : decode cX9_isSo 117 = .ok (.iaload, 1) := by decide +kernel
theorem dX9_isSo_118 : decode cX9_isSo 118 = .ok (.iload_n 2, 1) := by decide +kernel
theorem dX9_isSo_119 : decode cX9_isSo 119 = .ok (.invokevirtual 89, 3) := by decide +kernel
theorem dX9_isSo_122 : decode cX9_isSo 122 = .ok (.istore 4, 2) := by decide +kernel
theorem dX9_isSo_124 : decode cX9_isSo 124 = .ok (.return_, 1) := by decide +kernel
set_option maxRecDepth 20000 in
theorem ggX9_text_X9_next : GoodIn wsX9_text wsX9_next := goodIn_r _ [16, 1, 10, 17, 8, 18, 19, 20, 21, 22, 23, 24, 15, 25, 11, 9, 26, 27, 28, 29, 30, 31, 148, 149, 150, 151, 152, 153, 154, 155, 156, 157, 158, 159, 160, 161, 162, 163, 164, 165, 166, 167, 168, 169, 170, 171, 172, 173, 174, 175] (by decide +kernel) (by decide +kernel)
set_option maxRecDepth 20000 in
theorem gX9_text_X9_next : GoodIn wsX9_text (wsV RX9 221 RX9 yX9_next wsX9_next) := goodIn_app (goodIn_of _ (by decide +kernel)) ggX9_text_X9_next
set_option maxRecDepth 20000 in
theorem ggX9_text_X9_readItem : GoodIn wsX9_text wsX9_readItem := goodIn_r _ [35, 5, 6, 7, 36, 37, 38, 15, 39, 40, 41, 42, 43, 44, 8, 1, 10, 9, 45, 46, 47, 48, 49, 50, 51, 52, 53, 54, 55, 56, 57, 58, 59, 60, 61, 62, 63, 64, 65, 66, 67, 68, 69, 70, 71, 72, 73, 74, 75, 76, 77, 78, 79, 80, 81, 82, 83, 84, 85, 86, 87, 88, 89, 90, 91, 92, 93, 94, 95, 96, 97, 2, 12, 13, 14, 16, 17, 18, 19, 20, 21, 22, 23, 24, 25, 11, 26, 27, 28, 29, 30, 31, 98, 99, 100, 101, 102, 103, 104, 105, 3, 106, 107, 108, 109, 110, 111, 112, 113, 114, 115, 116, 117, 118, 119, 120, 121, 122, 148, 149, 150, 151, 152, 153, 154, 155, 156, 157, 158, 159, 160, 161, 162, 163, 164, 165, 166, 167, 168, 169, 170, 171, 172, 173, 174, 175] (by decide +kernel) (by decide +kernel)
set_option maxRecDepth 20000 in
theorem gX9_text_X9_readItem : GoodIn wsX9_text (wsV RX9 278 RX9 yX9_readItem wsX9_readItem) := goodIn_app (goodIn_of _ (by decide +kernel)) ggX9_text_X9_readItem
set_option maxRecDepth 20000 in
theorem ggX9_text_X9_must : GoodIn wsX9_text wsX9_must := goodIn_r _ [97, 2, 12, 13, 14, 15, 16, 1, 10, 17, 8, 18, 19, 20, 21, 22, 23, 24, 25, 11, 9, 26, 27, 28, 29, 30, 31, 148, 149, 150, 151, 152, 153, 154, 155, 156, 157, 158, 159, 160, 161, 162, 163, 164, 165, 166, 167, 168, 169, 170, 171, 172, 173, 174, 175] (by decide +kernel) (by decide +kernel)
set_option maxRecDepth 20000 in
theorem gX9_text_X9_must : GoodIn wsX9_text (wsV RX9 224 RX9 yX9_must wsX9_must) := goodIn_app (goodIn_of _ (by decide +kernel)) ggX9_text_X9_must
set_option maxRecDepth 20000 in
theorem ggX9_text_X9_isSo : GoodIn wsX9_text wsX9_isSo := goodIn_r _ [126, 106, 107, 4, 127, 128, 129, 15, 130, 131, 132, 133, 134, 135, 136, 137, 138, 139, 140, 141, 142, 143, 144, 145, 146, 147, 148, 149, 150, 151, 152, 153, 154, 155, 156, 157, 158, 159, 160, 161, 162, 163, 164, 165, 166, 167, 168, 169, 170, 171, 172, 173, 174, 175] (by decide +kernel) (by decide +kernel)
set_option maxRecDepth 20000 in
theorem gX9_text_X9_isSo : GoodIn wsX9_text (wsV RX9 281 RX9 yX9_isSo wsX9_isSo) := goodIn_app (goodIn_of _ (by decide +kernel)) ggX9_text_X9_isSo
theorem dX9_text_0 : decode cX9_text 0 = .ok (.aload_n 0, 1) := by decide +kernel
theorem dX9_text_1 : decode cX9_text 1 = .ok (.iconst 0, 1) := by decide +kernel
theorem dX9_text_2 : decode cX9_text 2 = .ok (.putfield 191, 3) := by decide +kernel
theorem dX9_text_5 : decode cX9_text 5 = .ok (.aload_n 0, 1) := by decide +kernel
theorem dX9_text_6 : decode cX9_text 6 = .ok (.iconst 0, 1) := by decide +kernel
theorem dX9_text_7 : decode cX9_text 7 = .ok (.putfield 217, 3) := by decide +kernel
theorem dX9_text_10 : decode cX9_text 10 = .ok (.aload_n 0, 1) := by decide +kernel
theorem dX9_text_11 : decode cX9_text 11 = .ok (.iconst 0, 1) := by decide +kernel
theorem dX9_text_12 : decode cX9_text 12 = .ok (.putfield 228, 3) := by decide +kernel
theorem dX9_text_15 : decode cX9_text 15 = .ok (.aload_n 0, 1) := by decide +kernel
theorem dX9_text_16 : decode cX9_text 16 = .ok (.aload_n 0, 1) := by decide +kernel
theorem dX9_text_17 : decode cX9_text 17 = .ok (.getfield 9, 3) := by decide +kernel
theorem dX9_text_20 : decode cX9_text 20 = .ok (.iconst 0, 1) := by decide +kernel
theorem dX9_text_21 : decode cX9_text 21 = .ok (.iaload, 1) := by decide +kernel
theorem dX9_text_22 : decode cX9_text 22 = .ok (.putfield 241, 3) := by decide +kernel
theorem dX9_text_25 : decode cX9_text 25 = .ok (.aload_n 0, 1) := by decide +kernel
theorem dX9_text_26 : decode cX9_text 26 = .ok (.aload_n 0, 1) := by decide +kernel
theorem dX9_text_27 : decode cX9_text 27 = .ok (.getfield 9, 3) := by decide +kernel
theorem dX9_text_30 : decode cX9_text 30 = .ok (.iconst 1, 1) := by decide +kernel
theorem dX9_text_31 : decode cX9_text 31 = .ok (.iaload, 1) := by decide +kernel
theorem dX9_text_32 : decode cX9_text 32 = .ok (.putfield 253, 3) := by decide +kernel
theorem dX9_text_35 : decode cX9_text 35 = .ok (.aload_n 0, 1) := by decide +kernel
theorem dX9_text_36 : decode cX9_text 36 = .ok (.iconst 0, 1) := by decide +kernel
theorem dX9_text_37 : decode cX9_text 37 = .ok (.putfield 263, 3) := by decide +kernel
theorem dX9_text_40 : decode cX9_text 40 = .ok (.iconst 0, 1) := by decide +kernel
theorem dX9_text_41 : decode cX9_text 41 = .ok (.istore_n 1, 1) := by decide +kernel
theorem dX9_text_42 : decode cX9_text 42 = .ok (.iload_n 1, 1) := by decide +kernel
theorem dX9_text_43 : decode cX9_text 43 = .ok (.iconst 4, 1) := by decide +kernel
theorem dX9_text_44 : decode cX9_text 44 = .ok (.if_icmp .ge 45, 3) := by decide +kernel
theorem dX9_text_47 : decode cX9_text 47 = .ok (.aload_n 0, 1) := by decide +kernel
theorem dX9_text_48 : decode cX9_text 48 = .ok (.dup, 1) := by decide +kernel
theorem dX9_text_49 : decode cX9_text 49 = .ok (.getfield 263, 3) := by decide +kernel
theorem dX9_text_52 : decode cX9_text 52 = .ok (.aload_n 0, 1) := by decide +kernel
theorem dX9_text_53 : decode cX9_text 53 = .ok (.getfield 9, 3) := by decide +kernel
theorem dX9_text_56 : decode cX9_text 56 = .ok (.bipush 30, 2) := by decide +kernel
theorem dX9_text_58 : decode cX9_text 58 = .ok (.iload_n 1, 1) := by decide +kernel
theorem dX9_text_59 : decode cX9_text 59 = .ok (.iadd, 1) := by decide +kernel
theorem dX9_text_60 : decode cX9_text 60 = .ok (.iaload, 1) := by decide +kernel
theorem dX9_text_61 : decode cX9_text 61 = .ok (.ifCond .ge 7, 3) := by decide +kernel
theorem dX9_text_64 : decode cX9_text 64 = .ok (.iconst 0, 1) := by decide +kernel
theorem dX9_text_65 : decode cX9_text 65 = .ok (.goto 14, 3) := by decide +kernel
theorem dX9_text_68 : decode cX9_text 68 = .ok (.iconst 1, 1) := by decide +kernel
theorem dX9_text_69 : decode cX9_text 69 = .ok (.aload_n 0, 1) := by decide +kernel
theorem dX9_text_70 : decode cX9_text 70 = .ok (.getfield 9, 3) := by decide +kernel
theorem dX9_text_73 : decode cX9_text 73 = .ok (.bipush 30, 2) := by decide +kernel
theorem dX9_text_75 : decode cX9_text 75 = .ok (.iload_n 1, 1) := by decide +kernel
theorem dX9_text_76 : decode cX9_text 76 = .ok (.iadd, 1) := by decide +kernel
theorem dX9_text_77 : decode cX9_text 77 = .ok (.iaload, 1) := by decide +kernel
theorem dX9_text_78 : decode cX9_text 78 = .ok (.ishl, 1) := by decide +kernel
theorem dX9_text_79 : decode cX9_text 79 = .ok (.ior, 1) := by decide +kernel
theorem dX9_text_80 : decode cX9_text 80 = .ok (.putfield 263, 3) := by decide +kernel
theorem dX9_text_83 : decode cX9_text 83 = .ok (.iinc 1 1, 3) := by decide +kernel
theorem dX9_text_86 : decode cX9_text 86 = .ok (.goto (-44), 3) := by decide +kernel
theorem dX9_text_89 : decode cX9_text 89 = .ok (.aload_n 0, 1) := by decide +kernel
theorem dX9_text_90 : decode cX9_text 90 = .ok (.invokevirtual 221, 3) := by decide +kernel
theorem dX9_text_93 : decode cX9_text 93 = .ok (.aload_n 0, 1) := by decide +kernel
theorem dX9_text_94 : decode cX9_text 94 = .ok (.invokevirtual 278, 3) := by decide +kernel
theorem dX9_text_97 : decode cX9_text 97 = .ok (.aload_n 0, 1) := by decide +kernel
theorem dX9_text_98 : decode cX9_text 98 = .ok (.getfield 217, 3) := by decide +kernel
theorem dX9_text_101 : decode cX9_text 101 = .ok (.ifCond .ne 37, 3) := by decide +kernel
theorem dX9_text_104 : decode cX9_text 104 = .ok (.aload_n 0, 1) := by decide +kernel
theorem dX9_text_105 : decode cX9_text 105 = .ok (.getfield 203, 3) := by decide +kernel
theorem dX9_text_108 : decode cX9_text 108 = .ok (.iconst 3, 1) := by decide +kernel
theorem dX9_text_109 : decode cX9_text 109 = .ok (.if_icmp .ne 29, 3) := by decide +kernel
theorem dX9_text_112 : decode cX9_text 112 = .ok (.aload_n 0, 1) := by decide +kernel
theorem dX9_text_113 : decode cX9_text 113 = .ok (.getfield 32, 3) := by decide +kernel
theorem dX9_text_116 : decode cX9_text 116 = .ok (.aload_n 0, 1) := by decide +kernel
theorem dX9_text_117 : decode cX9_text 117 = .ok (.getfield 194, 3) := by decide +kernel
theorem dX9_text_120 : decode cX9_text 120 = .ok (.iaload, 1) := by decide +kernel
theorem dX9_text_121 : decode cX9_text 121 = .ok (.bipush 59, 2) := by decide +kernel
theorem dX9_text_123 : decode cX9_text 123 = .ok (.if_icmp .ne 15, 3) := by decide +kernel
theorem dX9_text_126 : decode cX9_text 126 = .ok (.aload_n 0, 1) := by decide +kernel
theorem dX9_text_127 : decode cX9_text 127 = .ok (.iconst 1, 1) := by decide +kernel
theorem dX9_text_128 : decode cX9_text 128 = .ok (.invokevirtual 224, 3) := by decide +kernel
theorem dX9_text_131 : decode cX9_text 131 = .ok (.aload_n 0, 1) := by decide +kernel
theorem dX9_text_132 : decode cX9_text 132 = .ok (.invokevirtual 278, 3) := by decide +kernel
theorem dX9_text_135 : decode cX9_text 135 = .ok (.goto (-38), 3) := by decide +kernel
theorem dX9_text_138 : decode cX9_text 138 = .ok (.aload_n 0, 1) := by decide +kernel
theorem dX9_text_139 : decode cX9_text 139 = .ok (.aload_n 0, 1) := by decide +kernel
theorem dX9_text_140 : decode cX9_text 140 = .ok (.getfield 203, 3) := by decide +kernel
theorem dX9_text_143 : decode cX9_text 143 = .ok (.ifCond .ne 7, 3) := by decide +kernel
theorem dX9_text_146 : decode cX9_text 146 = .ok (.iconst 1, 1) := by decide +kernel
theorem dX9_text_147 : decode cX9_text 147 = .ok (.goto 4, 3) := by decide +kernel
theorem dX9_text_150 : decode cX9_text 150 = .ok (.iconst 0, 1) := by decide +kernel
theorem dX9_text_151 : decode cX9_text 151 = .ok (.invokevirtual 224, 3) := by decide +kernel
theorem dX9_text_154 : decode cX9_text 154 = .ok (.aload_n 0, 1) := by decide +kernel
theorem dX9_text_155 : decode cX9_text 155 = .ok (.iconst 0, 1) := by decide +kernel
theorem dX9_text_156 : decode cX9_text 156 = .ok (.putfield 188, 3) := by decide +kernel
theorem dX9_text_159 : decode cX9_text 159 = .ok (.aload_n 0, 1) := by decide +kernel
theorem dX9_text_160 : decode cX9_text 160 = .ok (.getfield 217, 3) := by decide +kernel
theorem dX9_text_163 : decode cX9_text 163 = .ok (.ifCond .eq 10, 3) := by decide +kernel
theorem dX9_text_166 : decode cX9_text 166 = .ok (.iconst (-1), 1) := by decide +kernel
theorem dX9_text_167 : decode cX9_text 167 = .ok (.aload_n 0, 1) := by decide +kernel
theorem dX9_text_168 : decode cX9_text 168 = .ok (.getfield 194, 3) := by decide +kernel
theorem dX9_text_171 : decode cX9_text 171 = .ok (.isub, 1) := by decide +kernel
theorem dX9_text_172 : decode cX9_text 172 = .ok (.ireturn, 1) := by decide +kernel
theorem dX9_text_173 : decode cX9_text 173 = .ok (.iconst 0, 1) := by decide +kernel
theorem dX9_text_174 : decode cX9_text 174 = .ok (.istore_n 1, 1) := by decide +kernel
theorem dX9_text_175 : decode cX9_text 175 = .ok (.iload_n 1, 1) := by decide +kernel
theorem dX9_text_176 : decode cX9_text 176 = .ok (.aload_n 0, 1) := by decide +kernel
theorem dX9_text_177 : decode cX9_text 177 = .ok (.getfield 228, 3) := by decide +kernel
theorem dX9_text_180 : decode cX9_text 180 = .ok (.if_icmp .ge 14, 3) := by decide +kernel
theorem dX9_text_183 : decode cX9_text 183 = .ok (.aload_n 0, 1) := by decide +kernel
theorem dX9_text_184 : decode cX9_text 184 = .ok (.iload_n 1, 1) := by decide +kernel
theorem dX9_text_185 : decode cX9_text 185 = .ok (.invokevirtual 281, 3) := by decide +kernel
theorem dX9_text_188 : decode cX9_text 188 = .ok (.iinc 1 1, 3) := by decide +kernel
theorem dX9_text_191 : decode cX9_text 191 = .ok (.goto (-16), 3) := by decide +kernel
theorem dX9_text_194 : decode cX9_text 194 = .ok (.aload_n 0, 1) := by decide +kernel
theorem dX9_text_195 : decode cX9_text 195 = .ok (.getfield 228, 3) := by decide +kernel
theorem dX9_text_198 : decode cX9_text 198 = .ok (.ireturn, 1) := by decide +kernel
set_option maxRecDepth 20000 in
theorem ggX9_isSheet_X9_within : GoodIn wsX9_isSheet wsX9_within := goodIn_r _ [4] (by decide +kernel) (by decide +kernel)
set_option maxRecDepth 20000 in
theorem gX9_isSheet_X9_within : GoodIn wsX9_isSheet (va_wsS RX9 75 yX9_within wsX9_within) := goodIn_app (goodIn_of _ (by decide +kernel)) ggX9_isSheet_X9_within
theorem dX9_isSheet_0 : decode cX9_isSheet 0 = .ok (.iload_n 0, 1) := by decide +kernel
theorem dX9_isSheet_1 : decode cX9_isSheet 1 = .ok (.iconst 0, 1) := by decide +kernel
theorem dX9_isSheet_2 : decode cX9_isSheet 2 = .ok (.iconst 3, 1) := by decide +kernel
theorem dX9_isSheet_3 : decode cX9_isSheet 3 = .ok (.invokestatic 75, 3) := by decide +kernel
theorem dX9_isSheet_6 : decode cX9_isSheet 6 = .ok (.ireturn, 1) := by decide +kernel
theorem dX9_cutTo_0 : decode cX9_cutTo 0 = .ok (.iload_n 2, 1) := by decide +kernel
theorem dX9_cutTo_1 : decode cX9_cutTo 1 = .ok (.bipush 8, 2) := by decide +kernel
theorem dX9_cutTo_3 : decode cX9_cutTo 3 = .ok (.if_icmp .ne 10, 3) := by decide +kernel
theorem dX9_cutTo_6 : decode cX9_cutTo 6 = .ok (.lload_n 0, 1) := by decide +kernel
theorem dX9_cutTo_7 : decode cX9_cutTo 7 = .ok (.l2i, 1) := by decide +kernel
theorem dX9_cutTo_8 : decode cX9_cutTo 8 = .ok (.i2b, 1) := by decide +kernel
theorem dX9_cutTo_9 : decode cX9_cutTo 9 = .ok (.i2l, 1) := by decide +kernel
theorem dX9_cutTo_10 : decode cX9_cutTo 10 = .ok (.goto 17, 3) := by decide +kernel
theorem dX9_cutTo_13 : decode cX9_cutTo 13 = .ok (.iload_n 2, 1) := by decide +kernel
theorem dX9_cutTo_14 : decode cX9_cutTo 14 = .ok (.bipush 16, 2) := by decide +kernel
theorem dX9_cutTo_16 : decode cX9_cutTo 16 = .ok (.if_icmp .ne 10, 3) := by decide +kernel
theorem dX9_cutTo_19 : decode cX9_cutTo 19 = .ok (.lload_n 0, 1) := by decide +kernel
theorem dX9_cutTo_20 : decode cX9_cutTo 20 = .ok (.l2i, 1) := by decide +kernel
