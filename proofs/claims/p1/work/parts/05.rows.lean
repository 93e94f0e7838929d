theorem dX8_thrown_8 : decode cX8_thrown 8 = .ok (.ifCond .eq 12, 3) := by decide +kernel
theorem dX8_thrown_11 : decode cX8_thrown 11 = .ok (.iload_n 2, 1) := by decide +kernel
theorem dX8_thrown_12 : decode cX8_thrown 12 = .ok (.ifCond .lt 8, 3) := by decide +kernel
theorem dX8_thrown_15 : decode cX8_thrown 15 = .ok (.iload_n 2, 1) := by decide +kernel
theorem dX8_thrown_16 : decode cX8_thrown 16 = .ok (.iconst 4, 1) := by decide +kernel
theorem dX8_thrown_17 : decode cX8_thrown 17 = .ok (.if_icmp .lt 10, 3) := by decide +kernel
theorem dX8_thrown_20 : decode cX8_thrown 20 = .ok (.aload_n 0, 1) := by decide +kernel
theorem dX8_thrown_21 : decode cX8_thrown 21 = .ok (.ldc 62, 2) := by decide +kernel
theorem dX8_thrown_23 : decode cX8_thrown 23 = .ok (.invokevirtual 63, 3) := by decide +kernel
theorem dX8_thrown_26 : decode cX8_thrown 26 = .ok (.ireturn, 1) := by decide +kernel
theorem dX8_thrown_27 : decode cX8_thrown 27 = .ok (.aload_n 0, 1) := by decide +kernel
theorem dX8_thrown_28 : decode cX8_thrown 28 = .ok (.getfield 10, 3) := by decide +kernel
theorem dX8_thrown_31 : decode cX8_thrown 31 = .ok (.getfield 79, 3) := by decide +kernel
theorem dX8_thrown_34 : decode cX8_thrown 34 = .ok (.iload_n 1, 1) := by decide +kernel
theorem dX8_thrown_35 : decode cX8_thrown 35 = .ok (.iaload, 1) := by decide +kernel
theorem dX8_thrown_36 : decode cX8_thrown 36 = .ok (.aload_n 0, 1) := by decide +kernel
theorem dX8_thrown_37 : decode cX8_thrown 37 = .ok (.getfield 10, 3) := by decide +kernel
theorem dX8_thrown_40 : decode cX8_thrown 40 = .ok (.getfield 82, 3) := by decide +kernel
theorem dX8_thrown_43 : decode cX8_thrown 43 = .ok (.iload_n 1, 1) := by decide +kernel
theorem dX8_thrown_44 : decode cX8_thrown 44 = .ok (.iaload, 1) := by decide +kernel
theorem dX8_thrown_45 : decode cX8_thrown 45 = .ok (.iload_n 2, 1) := by decide +kernel
theorem dX8_thrown_46 : decode cX8_thrown 46 = .ok (.invokestatic 102, 3) := by decide +kernel
theorem dX8_thrown_49 : decode cX8_thrown 49 = .ok (.ireturn, 1) := by decide +kernel
set_option maxRecDepth 20000 in
theorem ggX8_shadow_X6_hasShape : GoodIn wsX8_shadow wsX6_hasShape := goodIn_r _ [7, 8, 67, 68, 69, 70, 71, 72, 73, 74, 75] (by decide +kernel) (by decide +kernel)
set_option maxRecDepth 20000 in
theorem gX8_shadow_X6_hasShape : GoodIn wsX8_shadow (wsV RX8 76 RX6 yX6_hasShape wsX6_hasShape) := goodIn_app (goodIn_of _ (by decide +kernel)) ggX8_shadow_X6_hasShape
set_option maxRecDepth 20000 in
theorem ggX8_shadow_X1_isPlacing : GoodIn wsX8_shadow wsX1_isPlacing := goodIn_r _ [12] (by decide +kernel) (by decide +kernel)
set_option maxRecDepth 20000 in
theorem gX8_shadow_X1_isPlacing : GoodIn wsX8_shadow (va_wsS RX8 106 yX1_isPlacing wsX1_isPlacing) := goodIn_app (goodIn_of _ (by decide +kernel)) ggX8_shadow_X1_isPlacing
set_option maxRecDepth 20000 in
theorem ggX8_shadow_X8_finding : GoodIn wsX8_shadow wsX8_finding := goodIn_r _ [17, 2, 18, 59, 60, 61, 62, 63, 64, 65, 66] (by decide +kernel) (by decide +kernel)
set_option maxRecDepth 20000 in
theorem gX8_shadow_X8_finding : GoodIn wsX8_shadow (wsV RX8 63 RX8 yX8_finding wsX8_finding) := goodIn_app (goodIn_of _ (by decide +kernel)) ggX8_shadow_X8_finding
set_option maxRecDepth 20000 in
theorem ggX8_shadow_X6_cellsBy : GoodIn wsX8_shadow wsX6_cellsBy := goodIn_r _ [22, 23, 24, 25, 6, 26, 27, 28, 29, 30, 31, 32, 33, 34, 35, 36, 37, 38, 39, 40, 41, 42, 43, 44, 45, 46, 47, 48, 49, 50, 51, 52, 11, 53, 54, 55, 56, 57, 58, 67, 68, 69, 70, 71, 72, 73, 74, 75] (by decide +kernel) (by decide +kernel)
set_option maxRecDepth 20000 in
theorem gX8_shadow_X6_cellsBy : GoodIn wsX8_shadow (wsV RX8 111 RX6 yX6_cellsBy wsX6_cellsBy) := goodIn_app (goodIn_of _ (by decide +kernel)) ggX8_shadow_X6_cellsBy
theorem dX8_shadow_0 : decode cX8_shadow 0 = .ok (.aload_n 0, 1) := by decide +kernel
theorem dX8_shadow_1 : decode cX8_shadow 1 = .ok (.getfield 10, 3) := by decide +kernel
theorem dX8_shadow_4 : decode cX8_shadow 4 = .ok (.iload_n 1, 1) := by decide +kernel
theorem dX8_shadow_5 : decode cX8_shadow 5 = .ok (.invokevirtual 76, 3) := by decide +kernel
theorem dX8_shadow_8 : decode cX8_shadow 8 = .ok (.ifCond .eq 10, 3) := by decide +kernel
theorem dX8_shadow_11 : decode cX8_shadow 11 = .ok (.iload_n 2, 1) := by decide +kernel
theorem dX8_shadow_12 : decode cX8_shadow 12 = .ok (.invokestatic 106, 3) := by decide +kernel
theorem dX8_shadow_15 : decode cX8_shadow 15 = .ok (.ifCond .ne 11, 3) := by decide +kernel
theorem dX8_shadow_18 : decode cX8_shadow 18 = .ok (.aload_n 0, 1) := by decide +kernel
theorem dX8_shadow_19 : decode cX8_shadow 19 = .ok (.ldc 62, 2) := by decide +kernel
theorem dX8_shadow_21 : decode cX8_shadow 21 = .ok (.invokevirtual 63, 3) := by decide +kernel
theorem dX8_shadow_24 : decode cX8_shadow 24 = .ok (.i2l, 1) := by decide +kernel
theorem dX8_shadow_25 : decode cX8_shadow 25 = .ok (.lreturn, 1) := by decide +kernel
theorem dX8_shadow_26 : decode cX8_shadow 26 = .ok (.aload_n 0, 1) := by decide +kernel
theorem dX8_shadow_27 : decode cX8_shadow 27 = .ok (.getfield 10, 3) := by decide +kernel
theorem dX8_shadow_30 : decode cX8_shadow 30 = .ok (.iload_n 1, 1) := by decide +kernel
theorem dX8_shadow_31 : decode cX8_shadow 31 = .ok (.iload_n 2, 1) := by decide +kernel
theorem dX8_shadow_32 : decode cX8_shadow 32 = .ok (.invokevirtual 111, 3) := by decide +kernel
theorem dX8_shadow_35 : decode cX8_shadow 35 = .ok (.lreturn, 1) := by decide +kernel
set_option maxRecDepth 20000 in
theorem ggX8_hold_X6_hasShape : GoodIn wsX8_hold wsX6_hasShape := goodIn_r _ [9, 10, 44, 45, 46, 47, 48, 49, 50, 51, 52] (by decide +kernel) (by decide +kernel)
set_option maxRecDepth 20000 in
theorem gX8_hold_X6_hasShape : GoodIn wsX8_hold (wsV RX8 76 RX6 yX6_hasShape wsX6_hasShape) := goodIn_app (goodIn_of _ (by decide +kernel)) ggX8_hold_X6_hasShape
set_option maxRecDepth 20000 in
theorem ggX8_hold_X1_isPlacing : GoodIn wsX8_hold wsX1_isPlacing := goodIn_r _ [14] (by decide +kernel) (by decide +kernel)
set_option maxRecDepth 20000 in
theorem gX8_hold_X1_isPlacing : GoodIn wsX8_hold (va_wsS RX8 106 yX1_isPlacing wsX1_isPlacing) := goodIn_app (goodIn_of _ (by decide +kernel)) ggX8_hold_X1_isPlacing
set_option maxRecDepth 20000 in
theorem ggX8_hold_X8_finding : GoodIn wsX8_hold wsX8_finding := goodIn_r _ [19, 2, 20, 36, 37, 38, 39, 40, 41, 42, 43] (by decide +kernel) (by decide +kernel)
set_option maxRecDepth 20000 in
theorem gX8_hold_X8_finding : GoodIn wsX8_hold (wsV RX8 63 RX8 yX8_finding wsX8_finding) := goodIn_app (goodIn_of _ (by decide +kernel)) ggX8_hold_X8_finding
set_option maxRecDepth 20000 in
theorem ggX8_hold_X6_holdOf : GoodIn wsX8_hold wsX6_holdOf := goodIn_r _ [24, 25, 44, 45, 46, 47, 48, 49, 50, 51, 52] (by decide +kernel) (by decide +kernel)
set_option maxRecDepth 20000 in
theorem gX8_hold_X6_holdOf : GoodIn wsX8_hold (wsV RX8 88 RX6 yX6_holdOf wsX6_holdOf) := goodIn_app (goodIn_of _ (by decide +kernel)) ggX8_hold_X6_holdOf
set_option maxRecDepth 20000 in
theorem ggX8_hold_X6_freeHold : GoodIn wsX8_hold wsX6_freeHold := goodIn_r _ [29, 30, 22, 23, 8, 24, 25, 44, 45, 46, 47, 48, 49, 50, 51, 52] (by decide +kernel) (by decide +kernel)
set_option maxRecDepth 20000 in
theorem gX8_hold_X6_freeHold : GoodIn wsX8_hold (wsV RX8 116 RX6 yX6_freeHold wsX6_freeHold) := goodIn_app (goodIn_of _ (by decide +kernel)) ggX8_hold_X6_freeHold
set_option maxRecDepth 20000 in
theorem ggX8_hold_X6_take : GoodIn wsX8_hold wsX6_take := goodIn_r _ [34, 25, 35, 44, 45, 46, 47, 48, 49, 50, 51, 52] (by decide +kernel) (by decide +kernel)
set_option maxRecDepth 20000 in
theorem gX8_hold_X6_take : GoodIn wsX8_hold (wsV RX8 120 RX6 yX6_take wsX6_take) := goodIn_app (goodIn_of _ (by decide +kernel)) ggX8_hold_X6_take
theorem dX8_hold_0 : decode cX8_hold 0 = .ok (.aload_n 0, 1) := by decide +kernel
theorem dX8_hold_1 : decode cX8_hold 1 = .ok (.getfield 10, 3) := by decide +kernel
theorem dX8_hold_4 : decode cX8_hold 4 = .ok (.iload_n 1, 1) := by decide +kernel
theorem dX8_hold_5 : decode cX8_hold 5 = .ok (.invokevirtual 76, 3) := by decide +kernel
theorem dX8_hold_8 : decode cX8_hold 8 = .ok (.ifCond .eq 10, 3) := by decide +kernel
theorem dX8_hold_11 : decode cX8_hold 11 = .ok (.iload_n 2, 1) := by decide +kernel
theorem dX8_hold_12 : decode cX8_hold 12 = .ok (.invokestatic 106, 3) := by decide +kernel
theorem dX8_hold_15 : decode cX8_hold 15 = .ok (.ifCond .ne 10, 3) := by decide +kernel
theorem dX8_hold_18 : decode cX8_hold 18 = .ok (.aload_n 0, 1) := by decide +kernel
theorem dX8_hold_19 : decode cX8_hold 19 = .ok (.ldc 62, 2) := by decide +kernel
theorem dX8_hold_21 : decode cX8_hold 21 = .ok (.invokevirtual 63, 3) := by decide +kernel
theorem dX8_hold_24 : decode cX8_hold 24 = .ok (.ireturn, 1) := by decide +kernel
theorem dX8_hold_25 : decode cX8_hold 25 = .ok (.aload_n 0, 1) := by decide +kernel
theorem dX8_hold_26 : decode cX8_hold 26 = .ok (.getfield 10, 3) := by decide +kernel
theorem dX8_hold_29 : decode cX8_hold 29 = .ok (.iload_n 1, 1) := by decide +kernel
theorem dX8_hold_30 : decode cX8_hold 30 = .ok (.invokevirtual 88, 3) := by decide +kernel
theorem dX8_hold_33 : decode cX8_hold 33 = .ok (.ifCond .lt 10, 3) := by decide +kernel
theorem dX8_hold_36 : decode cX8_hold 36 = .ok (.aload_n 0, 1) := by decide +kernel
theorem dX8_hold_37 : decode cX8_hold 37 = .ok (.ldc 115, 2) := by decide +kernel
theorem dX8_hold_39 : decode cX8_hold 39 = .ok (.invokevirtual 63, 3) := by decide +kernel
theorem dX8_hold_42 : decode cX8_hold 42 = .ok (.ireturn, 1) := by decide +kernel
theorem dX8_hold_43 : decode cX8_hold 43 = .ok (.aload_n 0, 1) := by decide +kernel
theorem dX8_hold_44 : decode cX8_hold 44 = .ok (.getfield 10, 3) := by decide +kernel
theorem dX8_hold_47 : decode cX8_hold 47 = .ok (.invokevirtual 116, 3) := by decide +kernel
theorem dX8_hold_50 : decode cX8_hold 50 = .ok (.istore_n 3, 1) := by decide +kernel
theorem dX8_hold_51 : decode cX8_hold 51 = .ok (.iload_n 3, 1) := by decide +kernel
theorem dX8_hold_52 : decode cX8_hold 52 = .ok (.ifCond .ge 10, 3) := by decide +kernel
theorem dX8_hold_55 : decode cX8_hold 55 = .ok (.aload_n 0, 1) := by decide +kernel
theorem dX8_hold_56 : decode cX8_hold 56 = .ok (.ldc 71, 2) := by decide +kernel
theorem dX8_hold_58 : decode cX8_hold 58 = .ok (.invokevirtual 63, 3) := by decide +kernel
theorem dX8_hold_61 : decode cX8_hold 61 = .ok (.ireturn, 1) := by decide +kernel
theorem dX8_hold_62 : decode cX8_hold 62 = .ok (.aload_n 0, 1) := by decide +kernel
theorem dX8_hold_63 : decode cX8_hold 63 = .ok (.getfield 10, 3) := by decide +kernel
theorem dX8_hold_66 : decode cX8_hold 66 = .ok (.iload_n 3, 1) := by decide +kernel
theorem dX8_hold_67 : decode cX8_hold 67 = .ok (.iload_n 1, 1) := by decide +kernel
theorem dX8_hold_68 : decode cX8_hold 68 = .ok (.iload_n 2, 1) := by decide +kernel
theorem dX8_hold_69 : decode cX8_hold 69 = .ok (.invokevirtual 120, 3) := by decide +kernel
theorem dX8_hold_72 : decode cX8_hold 72 = .ok (.iload_n 3, 1) := by decide +kernel
theorem dX8_hold_73 : decode cX8_hold 73 = .ok (.ireturn, 1) := by decide +kernel
set_option maxRecDepth 20000 in
theorem ggX8_move_X6_hasShape : GoodIn wsX8_move wsX6_hasShape := goodIn_r _ [8, 9, 33, 34, 35, 36, 37, 38, 39, 40, 41] (by decide +kernel) (by decide +kernel)
set_option maxRecDepth 20000 in
theorem gX8_move_X6_hasShape : GoodIn wsX8_move (wsV RX8 76 RX6 yX6_hasShape wsX6_hasShape) := goodIn_app (goodIn_of _ (by decide +kernel)) ggX8_move_X6_hasShape
set_option maxRecDepth 20000 in
theorem ggX8_move_X1_isPlacing : GoodIn wsX8_move wsX1_isPlacing := goodIn_r _ [13] (by decide +kernel) (by decide +kernel)
set_option maxRecDepth 20000 in
theorem gX8_move_X1_isPlacing : GoodIn wsX8_move (va_wsS RX8 106 yX1_isPlacing wsX1_isPlacing) := goodIn_app (goodIn_of _ (by decide +kernel)) ggX8_move_X1_isPlacing
set_option maxRecDepth 20000 in
theorem ggX8_move_X8_finding : GoodIn wsX8_move wsX8_finding := goodIn_r _ [18, 2, 19, 25, 26, 27, 28, 29, 30, 31, 32] (by decide +kernel) (by decide +kernel)
set_option maxRecDepth 20000 in
theorem gX8_move_X8_finding : GoodIn wsX8_move (wsV RX8 63 RX8 yX8_finding wsX8_finding) := goodIn_app (goodIn_of _ (by decide +kernel)) ggX8_move_X8_finding
set_option maxRecDepth 20000 in
theorem ggX8_move_X6_holdOf : GoodIn wsX8_move wsX6_holdOf := goodIn_r _ [23, 24, 33, 34, 35, 36, 37, 38, 39, 40, 41] (by decide +kernel) (by decide +kernel)
set_option maxRecDepth 20000 in
theorem gX8_move_X6_holdOf : GoodIn wsX8_move (wsV RX8 88 RX6 yX6_holdOf wsX6_holdOf) := goodIn_app (goodIn_of _ (by decide +kernel)) ggX8_move_X6_holdOf
theorem dX8_move_0 : decode cX8_move 0 = .ok (.aload_n 0, 1) := by decide +kernel
theorem dX8_move_1 : decode cX8_move 1 = .ok (.getfield 10, 3) := by decide +kernel
theorem dX8_move_4 : decode cX8_move 4 = .ok (.iload_n 1, 1) := by decide +kernel
theorem dX8_move_5 : decode cX8_move 5 = .ok (.invokevirtual 76, 3) := by decide +kernel
theorem dX8_move_8 : decode cX8_move 8 = .ok (.ifCond .eq 10, 3) := by decide +kernel
theorem dX8_move_11 : decode cX8_move 11 = .ok (.iload_n 2, 1) := by decide +kernel
theorem dX8_move_12 : decode cX8_move 12 = .ok (.invokestatic 106, 3) := by decide +kernel
theorem dX8_move_15 : decode cX8_move 15 = .ok (.ifCond .ne 10, 3) := by decide +kernel
theorem dX8_move_18 : decode cX8_move 18 = .ok (.aload_n 0, 1) := by decide +kernel
theorem dX8_move_19 : decode cX8_move 19 = .ok (.ldc 62, 2) := by decide +kernel
theorem dX8_move_21 : decode cX8_move 21 = .ok (.invokevirtual 63, 3) := by decide +kernel
theorem dX8_move_24 : decode cX8_move 24 = .ok (.ireturn, 1) := by decide +kernel
theorem dX8_move_25 : decode cX8_move 25 = .ok (.aload_n 0, 1) := by decide +kernel
theorem dX8_move_26 : decode cX8_move 26 = .ok (.getfield 10, 3) := by decide +kernel
theorem dX8_move_29 : decode cX8_move 29 = .ok (.iload_n 1, 1) := by decide +kernel
theorem dX8_move_30 : decode cX8_move 30 = .ok (.invokevirtual 88, 3) := by decide +kernel
theorem dX8_move_33 : decode cX8_move 33 = .ok (.istore_n 3, 1) := by decide +kernel
theorem dX8_move_34 : decode cX8_move 34 = .ok (.iload_n 3, 1) := by decide +kernel
theorem dX8_move_35 : decode cX8_move 35 = .ok (.ifCond .ge 10, 3) := by decide +kernel
theorem dX8_move_38 : decode cX8_move 38 = .ok (.aload_n 0, 1) := by decide +kernel
theorem dX8_move_39 : decode cX8_move 39 = .ok (.ldc 115, 2) := by decide +kernel
theorem dX8_move_41 : decode cX8_move 41 = .ok (.invokevirtual 63, 3) := by decide +kernel
theorem dX8_move_44 : decode cX8_move 44 = .ok (.ireturn, 1) := by decide +kernel
theorem dX8_move_45 : decode cX8_move 45 = .ok (.aload_n 0, 1) := by decide +kernel
theorem dX8_move_46 : decode cX8_move 46 = .ok (.getfield 10, 3) := by decide +kernel
theorem dX8_move_49 : decode cX8_move 49 = .ok (.getfield 124, 3) := by decide +kernel
theorem dX8_move_52 : decode cX8_move 52 = .ok (.iload_n 3, 1) := by decide +kernel
theorem dX8_move_53 : decode cX8_move 53 = .ok (.iaload, 1) := by decide +kernel
theorem dX8_move_54 : decode cX8_move 54 = .ok (.istore 4, 2) := by decide +kernel
theorem dX8_move_56 : decode cX8_move 56 = .ok (.aload_n 0, 1) := by decide +kernel
theorem dX8_move_57 : decode cX8_move 57 = .ok (.getfield 10, 3) := by decide +kernel
theorem dX8_move_60 : decode cX8_move 60 = .ok (.getfield 124, 3) := by decide +kernel
theorem dX8_move_63 : decode cX8_move 63 = .ok (.iload_n 3, 1) := by decide +kernel
theorem dX8_move_64 : decode cX8_move 64 = .ok (.iload_n 2, 1) := by decide +kernel
theorem dX8_move_65 : decode cX8_move 65 = .ok (.iastore, 1) := by decide +kernel
theorem dX8_move_66 : decode cX8_move 66 = .ok (.iload 4, 2) := by decide +kernel
theorem dX8_move_68 : decode cX8_move 68 = .ok (.ireturn, 1) := by decide +kernel
set_option maxRecDepth 20000 in
theorem ggX8_drop_X6_hasShape : GoodIn wsX8_drop wsX6_hasShape := goodIn_r _ [8, 9, 38, 39, 40, 41, 42, 43, 44, 45, 46] (by decide +kernel) (by decide +kernel)
set_option maxRecDepth 20000 in
theorem gX8_drop_X6_hasShape : GoodIn wsX8_drop (wsV RX8 76 RX6 yX6_hasShape wsX6_hasShape) := goodIn_app (goodIn_of _ (by decide +kernel)) ggX8_drop_X6_hasShape
set_option maxRecDepth 20000 in
theorem ggX8_drop_X8_finding : GoodIn wsX8_drop wsX8_finding := goodIn_r _ [14, 2, 15, 30, 31, 32, 33, 34, 35, 36, 37] (by decide +kernel) (by decide +kernel)
set_option maxRecDepth 20000 in
theorem gX8_drop_X8_finding : GoodIn wsX8_drop (wsV RX8 63 RX8 yX8_finding wsX8_finding) := goodIn_app (goodIn_of _ (by decide +kernel)) ggX8_drop_X8_finding
set_option maxRecDepth 20000 in
theorem ggX8_drop_X6_holdOf : GoodIn wsX8_drop wsX6_holdOf := goodIn_r _ [19, 20, 38, 39, 40, 41, 42, 43, 44, 45, 46] (by decide +kernel) (by decide +kernel)
set_option maxRecDepth 20000 in
theorem gX8_drop_X6_holdOf : GoodIn wsX8_drop (wsV RX8 88 RX6 yX6_holdOf wsX6_holdOf) := goodIn_app (goodIn_of _ (by decide +kernel)) ggX8_drop_X6_holdOf
set_option maxRecDepth 20000 in
theorem ggX8_drop_X6_release : GoodIn wsX8_drop wsX6_release := goodIn_r _ [24, 25, 26, 27, 7, 28, 20, 29, 38, 39, 40, 41, 42, 43, 44, 45, 46] (by decide +kernel) (by decide +kernel)
set_option maxRecDepth 20000 in
theorem gX8_drop_X6_release : GoodIn wsX8_drop (wsV RX8 127 RX6 yX6_release wsX6_release) := goodIn_app (goodIn_of _ (by decide +kernel)) ggX8_drop_X6_release
theorem dX8_drop_0 : decode cX8_drop 0 = .ok (.aload_n 0, 1) := by decide +kernel
theorem dX8_drop_1 : decode cX8_drop 1 = .ok (.getfield 10, 3) := by decide +kernel
theorem dX8_drop_4 : decode cX8_drop 4 = .ok (.iload_n 1, 1) := by decide +kernel
theorem dX8_drop_5 : decode cX8_drop 5 = .ok (.invokevirtual 76, 3) := by decide +kernel
theorem dX8_drop_8 : decode cX8_drop 8 = .ok (.ifCond .ne 10, 3) := by decide +kernel
theorem dX8_drop_11 : decode cX8_drop 11 = .ok (.aload_n 0, 1) := by decide +kernel
theorem dX8_drop_12 : decode cX8_drop 12 = .ok (.ldc 62, 2) := by decide +kernel
theorem dX8_drop_14 : decode cX8_drop 14 = .ok (.invokevirtual 63, 3) := by decide +kernel
theorem dX8_drop_17 : decode cX8_drop 17 = .ok (.ireturn, 1) := by decide +kernel
theorem dX8_drop_18 : decode cX8_drop 18 = .ok (.aload_n 0, 1) := by decide +kernel
theorem dX8_drop_19 : decode cX8_drop 19 = .ok (.getfield 10, 3) := by decide +kernel
theorem dX8_drop_22 : decode cX8_drop 22 = .ok (.iload_n 1, 1) := by decide +kernel
theorem dX8_drop_23 : decode cX8_drop 23 = .ok (.invokevirtual 88, 3) := by decide +kernel
theorem dX8_drop_26 : decode cX8_drop 26 = .ok (.istore_n 2, 1) := by decide +kernel
theorem dX8_drop_27 : decode cX8_drop 27 = .ok (.iload_n 2, 1) := by decide +kernel
theorem dX8_drop_28 : decode cX8_drop 28 = .ok (.ifCond .ge 10, 3) := by decide +kernel
theorem dX8_drop_31 : decode cX8_drop 31 = .ok (.aload_n 0, 1) := by decide +kernel
theorem dX8_drop_32 : decode cX8_drop 32 = .ok (.ldc 115, 2) := by decide +kernel
theorem dX8_drop_34 : decode cX8_drop 34 = .ok (.invokevirtual 63, 3) := by decide +kernel
theorem dX8_drop_37 : decode cX8_drop 37 = .ok (.ireturn, 1) := by decide +kernel
theorem dX8_drop_38 : decode cX8_drop 38 = .ok (.aload_n 0, 1) := by decide +kernel
theorem dX8_drop_39 : decode cX8_drop 39 = .ok (.getfield 10, 3) := by decide +kernel
theorem dX8_drop_42 : decode cX8_drop 42 = .ok (.iload_n 2, 1) := by decide +kernel
theorem dX8_drop_43 : decode cX8_drop 43 = .ok (.invokevirtual 127, 3) := by decide +kernel
theorem dX8_drop_46 : decode cX8_drop 46 = .ok (.iload_n 2, 1) := by decide +kernel
theorem dX8_drop_47 : decode cX8_drop 47 = .ok (.ireturn, 1) := by decide +kernel
set_option maxRecDepth 20000 in
theorem ggX8_held_X8_finding : GoodIn wsX8_held wsX8_finding := goodIn_r _ [7, 1, 8, 9, 10, 11, 12, 13, 14, 15, 16] (by decide +kernel) (by decide +kernel)
set_option maxRecDepth 20000 in
theorem gX8_held_X8_finding : GoodIn wsX8_held (wsV RX8 63 RX8 yX8_finding wsX8_finding) := goodIn_app (goodIn_of _ (by decide +kernel)) ggX8_held_X8_finding
theorem dX8_held_0 : decode cX8_held 0 = .ok (.iload_n 1, 1) := by decide +kernel
theorem dX8_held_1 : decode cX8_held 1 = .ok (.ifCond .lt 17, 3) := by decide +kernel
theorem dX8_held_4 : decode cX8_held 4 = .ok (.iload_n 1, 1) := by decide +kernel
theorem dX8_held_5 : decode cX8_held 5 = .ok (.iconst 4, 1) := by decide +kernel
theorem dX8_held_6 : decode cX8_held 6 = .ok (.if_icmp .ge 12, 3) := by decide +kernel
theorem dX8_held_9 : decode cX8_held 9 = .ok (.iload_n 2, 1) := by decide +kernel
theorem dX8_held_10 : decode cX8_held 10 = .ok (.ifCond .lt 8, 3) := by decide +kernel
theorem dX8_held_13 : decode cX8_held 13 = .ok (.iload_n 2, 1) := by decide +kernel
theorem dX8_held_14 : decode cX8_held 14 = .ok (.iconst 1, 1) := by decide +kernel
theorem dX8_held_15 : decode cX8_held 15 = .ok (.if_icmp .le 10, 3) := by decide +kernel
theorem dX8_held_18 : decode cX8_held 18 = .ok (.aload_n 0, 1) := by decide +kernel
theorem dX8_held_19 : decode cX8_held 19 = .ok (.ldc 62, 2) := by decide +kernel
theorem dX8_held_21 : decode cX8_held 21 = .ok (.invokevirtual 63, 3) := by decide +kernel
theorem dX8_held_24 : decode cX8_held 24 = .ok (.ireturn, 1) := by decide +kernel
theorem dX8_held_25 : decode cX8_held 25 = .ok (.iload_n 2, 1) := by decide +kernel
theorem dX8_held_26 : decode cX8_held 26 = .ok (.ifCond .ne 15, 3) := by decide +kernel
theorem dX8_held_29 : decode cX8_held 29 = .ok (.aload_n 0, 1) := by decide +kernel
theorem dX8_held_30 : decode cX8_held 30 = .ok (.getfield 10, 3) := by decide +kernel
theorem dX8_held_33 : decode cX8_held 33 = .ok (.getfield 131, 3) := by decide +kernel
theorem dX8_held_36 : decode cX8_held 36 = .ok (.iload_n 1, 1) := by decide +kernel
theorem dX8_held_37 : decode cX8_held 37 = .ok (.iaload, 1) := by decide +kernel
theorem dX8_held_38 : decode cX8_held 38 = .ok (.goto 12, 3) := by decide +kernel
theorem dX8_held_41 : decode cX8_held 41 = .ok (.aload_n 0, 1) := by decide +kernel
theorem dX8_held_42 : decode cX8_held 42 = .ok (.getfield 10, 3) := by decide +kernel
theorem dX8_held_45 : decode cX8_held 45 = .ok (.getfield 124, 3) := by decide +kernel
theorem dX8_held_48 : decode cX8_held 48 = .ok (.iload_n 1, 1) := by decide +kernel
theorem dX8_held_49 : decode cX8_held 49 = .ok (.iaload, 1) := by decide +kernel
theorem dX8_held_50 : decode cX8_held 50 = .ok (.ireturn, 1) := by decide +kernel
set_option maxRecDepth 20000 in
theorem ggX8_dark_X6_darkCells : GoodIn wsX8_dark wsX6_darkCells := goodIn_r _ [6, 7, 8, 9, 5, 10, 11, 12, 13, 14, 15, 16, 17, 18, 19, 20, 21, 22, 23, 24, 25, 26, 27, 28, 29, 30, 31, 32, 33, 34, 35, 36, 37, 38, 39, 40, 41, 42, 43, 44, 45, 46, 47, 48, 49, 50, 51, 52, 53, 54, 55, 56, 57, 58, 59, 60, 61, 62, 63, 72, 73, 74, 75, 76, 77, 78, 79, 80] (by decide +kernel) (by decide +kernel)
set_option maxRecDepth 20000 in
theorem gX8_dark_X6_darkCells : GoodIn wsX8_dark (wsV RX8 134 RX6 yX6_darkCells wsX6_darkCells) := goodIn_app (goodIn_of _ (by decide +kernel)) ggX8_dark_X6_darkCells
theorem dX8_dark_0 : decode cX8_dark 0 = .ok (.aload_n 0, 1) := by decide +kernel
theorem dX8_dark_1 : decode cX8_dark 1 = .ok (.getfield 10, 3) := by decide +kernel
theorem dX8_dark_4 : decode cX8_dark 4 = .ok (.invokevirtual 134, 3) := by decide +kernel
theorem dX8_dark_7 : decode cX8_dark 7 = .ok (.lreturn, 1) := by decide +kernel
set_option maxRecDepth 20000 in
theorem ggX8_single_X6_singleCells : GoodIn wsX8_single wsX6_singleCells := goodIn_r _ [6, 7, 8, 9, 10, 5, 11, 12, 13, 14, 15, 16, 17, 18, 19, 20, 21, 22, 23, 24, 25, 26, 27, 28, 29, 30, 31, 32, 33, 34, 35, 36, 37, 38, 39, 40, 41, 42, 43, 44, 45, 46, 47, 48, 49, 50, 51, 52, 53, 54, 55, 56, 57, 58, 59, 60, 61, 62, 63, 64, 73, 74, 75, 76, 77, 78, 79, 80, 81] (by decide +kernel) (by decide +kernel)
set_option maxRecDepth 20000 in
theorem gX8_single_X6_singleCells : GoodIn wsX8_single (wsV RX8 138 RX6 yX6_singleCells wsX6_singleCells) := goodIn_app (goodIn_of _ (by decide +kernel)) ggX8_single_X6_singleCells
theorem dX8_single_0 : decode cX8_single 0 = .ok (.aload_n 0, 1) := by decide +kernel
theorem dX8_single_1 : decode cX8_single 1 = .ok (.getfield 10, 3) := by decide +kernel
theorem dX8_single_4 : decode cX8_single 4 = .ok (.invokevirtual 138, 3) := by decide +kernel
theorem dX8_single_7 : decode cX8_single 7 = .ok (.lreturn, 1) := by decide +kernel
set_option maxRecDepth 20000 in
theorem ggX8_spare_X6_singleCells : GoodIn wsX8_spare wsX6_singleCells := goodIn_r _ [7, 8, 9, 10, 11, 6, 12, 13, 14, 15, 16, 17, 18, 19, 20, 21, 22, 23, 24, 25, 26, 27, 28, 29, 30, 31, 32, 33, 34, 35, 36, 37, 38, 39, 40, 41, 42, 43, 44, 45, 46, 47, 48, 49, 50, 51, 52, 53, 54, 55, 56, 57, 58, 59, 60, 61, 62, 63, 64, 65, 87, 88, 89, 90, 91, 92, 93, 94, 95] (by decide +kernel) (by decide +kernel)
set_option maxRecDepth 20000 in
theorem gX8_spare_X6_singleCells : GoodIn wsX8_spare (wsV RX8 138 RX6 yX6_singleCells wsX6_singleCells) := goodIn_app (goodIn_of _ (by decide +kernel)) ggX8_spare_X6_singleCells
set_option maxRecDepth 20000 in
theorem ggX8_spare_X6_holdOf : GoodIn wsX8_spare wsX6_holdOf := goodIn_r _ [69, 13, 87, 88, 89, 90, 91, 92, 93, 94, 95] (by decide +kernel) (by decide +kernel)
set_option maxRecDepth 20000 in
theorem gX8_spare_X6_holdOf : GoodIn wsX8_spare (wsV RX8 88 RX6 yX6_holdOf wsX6_holdOf) := goodIn_app (goodIn_of _ (by decide +kernel)) ggX8_spare_X6_holdOf
set_option maxRecDepth 20000 in
theorem ggX8_spare_X6_isTorn : GoodIn wsX8_spare wsX6_isTorn := goodIn_r _ [23, 24, 87, 88, 89, 90, 91, 92, 93, 94, 95] (by decide +kernel) (by decide +kernel)
set_option maxRecDepth 20000 in
theorem gX8_spare_X6_isTorn : GoodIn wsX8_spare (wsV RX8 85 RX6 yX6_isTorn wsX6_isTorn) := goodIn_app (goodIn_of _ (by decide +kernel)) ggX8_spare_X6_isTorn
set_option maxRecDepth 20000 in
theorem ggX8_spare_X6_cellsOfHold : GoodIn wsX8_spare wsX6_cellsOfHold := goodIn_r _ [12, 13, 14, 15, 16, 17, 6, 18, 19, 20, 21, 22, 23, 24, 25, 26, 27, 28, 29, 30, 31, 32, 33, 34, 35, 36, 37, 38, 39, 40, 41, 42, 43, 44, 45, 46, 47, 48, 49, 50, 51, 52, 53, 54, 55, 56, 57, 58, 59, 60, 61, 62, 63, 64, 65, 87, 88, 89, 90, 91, 92, 93, 94, 95] (by decide +kernel) (by decide +kernel)
set_option maxRecDepth 20000 in
theorem gX8_spare_X6_cellsOfHold : GoodIn wsX8_spare (wsV RX8 145 RX6 yX6_cellsOfHold wsX6_cellsOfHold) := goodIn_app (goodIn_of _ (by decide +kernel)) ggX8_spare_X6_cellsOfHold
set_option maxRecDepth 20000 in
theorem ggX8_spare_X8_finding : GoodIn wsX8_spare wsX8_finding := goodIn_r _ [76, 77, 78, 79, 80, 81, 82, 83, 84, 85, 86] (by decide +kernel) (by decide +kernel)
set_option maxRecDepth 20000 in
theorem gX8_spare_X8_finding : GoodIn wsX8_spare (wsV RX8 63 RX8 yX8_finding wsX8_finding) := goodIn_app (goodIn_of _ (by decide +kernel)) ggX8_spare_X8_finding
theorem dX8_spare_0 : decode cX8_spare 0 = .ok (.aload_n 0, 1) := by decide +kernel
theorem dX8_spare_1 : decode cX8_spare 1 = .ok (.getfield 10, 3) := by decide +kernel
theorem dX8_spare_4 : decode cX8_spare 4 = .ok (.invokevirtual 138, 3) := by decide +kernel
theorem dX8_spare_7 : decode cX8_spare 7 = .ok (.lstore_n 1, 1) := by decide +kernel
theorem dX8_spare_8 : decode cX8_spare 8 = .ok (.iconst 0, 1) := by decide +kernel
theorem dX8_spare_9 : decode cX8_spare 9 = .ok (.istore_n 3, 1) := by decide +kernel
theorem dX8_spare_10 : decode cX8_spare 10 = .ok (.iload_n 3, 1) := by decide +kernel
theorem dX8_spare_11 : decode cX8_spare 11 = .ok (.aload_n 0, 1) := by decide +kernel
theorem dX8_spare_12 : decode cX8_spare 12 = .ok (.getfield 10, 3) := by decide +kernel
theorem dX8_spare_15 : decode cX8_spare 15 = .ok (.getfield 141, 3) := by decide +kernel
theorem dX8_spare_18 : decode cX8_spare 18 = .ok (.if_icmp .ge 53, 3) := by decide +kernel
theorem dX8_spare_21 : decode cX8_spare 21 = .ok (.aload_n 0, 1) := by decide +kernel
theorem dX8_spare_22 : decode cX8_spare 22 = .ok (.getfield 10, 3) := by decide +kernel
theorem dX8_spare_25 : decode cX8_spare 25 = .ok (.iload_n 3, 1) := by decide +kernel
theorem dX8_spare_26 : decode cX8_spare 26 = .ok (.invokevirtual 88, 3) := by decide +kernel
theorem dX8_spare_29 : decode cX8_spare 29 = .ok (.istore 4, 2) := by decide +kernel
theorem dX8_spare_31 : decode cX8_spare 31 = .ok (.iload 4, 2) := by decide +kernel
theorem dX8_spare_33 : decode cX8_spare 33 = .ok (.ifCond .lt 32, 3) := by decide +kernel
theorem dX8_spare_36 : decode cX8_spare 36 = .ok (.aload_n 0, 1) := by decide +kernel
theorem dX8_spare_37 : decode cX8_spare 37 = .ok (.getfield 10, 3) := by decide +kernel
theorem dX8_spare_40 : decode cX8_spare 40 = .ok (.iload_n 3, 1) := by decide +kernel
theorem dX8_spare_41 : decode cX8_spare 41 = .ok (.invokevirtual 85, 3) := by decide +kernel
theorem dX8_spare_44 : decode cX8_spare 44 = .ok (.ifCond .ne 21, 3) := by decide +kernel
theorem dX8_spare_47 : decode cX8_spare 47 = .ok (.aload_n 0, 1) := by decide +kernel
theorem dX8_spare_48 : decode cX8_spare 48 = .ok (.getfield 10, 3) := by decide +kernel
theorem dX8_spare_51 : decode cX8_spare 51 = .ok (.iload 4, 2) := by decide +kernel
theorem dX8_spare_53 : decode cX8_spare 53 = .ok (.invokevirtual 145, 3) := by decide +kernel
theorem dX8_spare_56 : decode cX8_spare 56 = .ok (.lload_n 1, 1) := by decide +kernel
theorem dX8_spare_57 : decode cX8_spare 57 = .ok (.land, 1) := by decide +kernel
theorem dX8_spare_58 : decode cX8_spare 58 = .ok (.lconst 0, 1) := by decide +kernel
theorem dX8_spare_59 : decode cX8_spare 59 = .ok (.lcmp, 1) := by decide +kernel
theorem dX8_spare_60 : decode cX8_spare 60 = .ok (.ifCond .ne 5, 3) := by decide +kernel
theorem dX8_spare_63 : decode cX8_spare 63 = .ok (.iload_n 3, 1) := by decide +kernel
theorem dX8_spare_64 : decode cX8_spare 64 = .ok (.ireturn, 1) := by decide +kernel
theorem dX8_spare_65 : decode cX8_spare 65 = .ok (.iinc 3 1, 3) := by decide +kernel
theorem dX8_spare_68 : decode cX8_spare 68 = .ok (.goto (-58), 3) := by decide +kernel
theorem dX8_spare_71 : decode cX8_spare 71 = .ok (.aload_n 0, 1) := by decide +kernel
theorem dX8_spare_72 : decode cX8_spare 72 = .ok (.ldc 149, 2) := by decide +kernel
theorem dX8_spare_74 : decode cX8_spare 74 = .ok (.invokevirtual 63, 3) := by decide +kernel
theorem dX8_spare_77 : decode cX8_spare 77 = .ok (.ireturn, 1) := by decide +kernel
set_option maxRecDepth 20000 in
theorem ggX8_scene_X6_hasRoomForScene : GoodIn wsX8_scene wsX6_hasRoomForScene := goodIn_r _ [7, 8, 29, 30, 31, 32, 33, 34, 35, 36, 37] (by decide +kernel) (by decide +kernel)
set_option maxRecDepth 20000 in
theorem gX8_scene_X6_hasRoomForScene : GoodIn wsX8_scene (wsV RX8 150 RX6 yX6_hasRoomForScene wsX6_hasRoomForScene) := goodIn_app (goodIn_of _ (by decide +kernel)) ggX8_scene_X6_hasRoomForScene
set_option maxRecDepth 20000 in
theorem ggX8_scene_X8_finding : GoodIn wsX8_scene wsX8_finding := goodIn_r _ [13, 14, 15, 21, 22, 23, 24, 25, 26, 27, 28] (by decide +kernel) (by decide +kernel)
set_option maxRecDepth 20000 in
theorem gX8_scene_X8_finding : GoodIn wsX8_scene (wsV RX8 63 RX8 yX8_finding wsX8_finding) := goodIn_app (goodIn_of _ (by decide +kernel)) ggX8_scene_X8_finding
set_option maxRecDepth 20000 in
theorem ggX8_scene_X6_addScene : GoodIn wsX8_scene wsX6_addScene := goodIn_r _ [19, 20, 8, 29, 30, 31, 32, 33, 34, 35, 36, 37] (by decide +kernel) (by decide +kernel)
set_option maxRecDepth 20000 in
theorem gX8_scene_X6_addScene : GoodIn wsX8_scene (wsV RX8 153 RX6 yX6_addScene wsX6_addScene) := goodIn_app (goodIn_of _ (by decide +kernel)) ggX8_scene_X6_addScene
theorem dX8_scene_0 : decode cX8_scene 0 = .ok (.aload_n 0, 1) := by decide +kernel
theorem dX8_scene_1 : decode cX8_scene 1 = .ok (.getfield 10, 3) := by decide +kernel
theorem dX8_scene_4 : decode cX8_scene 4 = .ok (.invokevirtual 150, 3) := by decide +kernel
theorem dX8_scene_7 : decode cX8_scene 7 = .ok (.ifCond .ne 10, 3) := by decide +kernel
theorem dX8_scene_10 : decode cX8_scene 10 = .ok (.aload_n 0, 1) := by decide +kernel
theorem dX8_scene_11 : decode cX8_scene 11 = .ok (.ldc 71, 2) := by decide +kernel
theorem dX8_scene_13 : decode cX8_scene 13 = .ok (.invokevirtual 63, 3) := by decide +kernel
theorem dX8_scene_16 : decode cX8_scene 16 = .ok (.ireturn, 1) := by decide +kernel
theorem dX8_scene_17 : decode cX8_scene 17 = .ok (.aload_n 0, 1) := by decide +kernel
theorem dX8_scene_18 : decode cX8_scene 18 = .ok (.getfield 10, 3) := by decide +kernel
theorem dX8_scene_21 : decode cX8_scene 21 = .ok (.lload_n 1, 1) := by decide +kernel
theorem dX8_scene_22 : decode cX8_scene 22 = .ok (.invokevirtual 153, 3) := by decide +kernel
theorem dX8_scene_25 : decode cX8_scene 25 = .ok (.ireturn, 1) := by decide +kernel
set_option maxRecDepth 20000 in
theorem ggX8_draw_X6_hasScene : GoodIn wsX8_draw wsX6_hasScene := goodIn_r _ [7, 8, 94, 95, 96, 97, 98, 99, 100, 101, 102] (by decide +kernel) (by decide +kernel)
set_option maxRecDepth 20000 in
theorem gX8_draw_X6_hasScene : GoodIn wsX8_draw (wsV RX8 157 RX6 yX6_hasScene wsX6_hasScene) := goodIn_app (goodIn_of _ (by decide +kernel)) ggX8_draw_X6_hasScene
set_option maxRecDepth 20000 in
theorem ggX8_draw_X8_finding : GoodIn wsX8_draw wsX8_finding := goodIn_r _ [13, 2, 14, 86, 87, 88, 89, 90, 91, 92, 93] (by decide +kernel) (by decide +kernel)
set_option maxRecDepth 20000 in
theorem gX8_draw_X8_finding : GoodIn wsX8_draw (wsV RX8 63 RX8 yX8_finding wsX8_finding) := goodIn_app (goodIn_of _ (by decide +kernel)) ggX8_draw_X8_finding
set_option maxRecDepth 20000 in
theorem ggX8_draw_X6_darkCells : GoodIn wsX8_draw wsX6_darkCells := goodIn_r _ [18, 19, 20, 21, 6, 22, 23, 24, 25, 26, 27, 28, 29, 30, 31, 32, 33, 34, 35, 36, 37, 38, 39, 40, 41, 42, 43, 44, 45, 46, 47, 48, 49, 50, 51, 52, 53, 54, 55, 56, 57, 58, 59, 60, 61, 62, 63, 64, 65, 66, 67, 68, 69, 70, 71, 72, 73, 74, 75, 94, 95, 96, 97, 98, 99, 100, 101, 102] (by decide +kernel) (by decide +kernel)
set_option maxRecDepth 20000 in
theorem gX8_draw_X6_darkCells : GoodIn wsX8_draw (wsV RX8 134 RX6 yX6_darkCells wsX6_darkCells) := goodIn_app (goodIn_of _ (by decide +kernel)) ggX8_draw_X6_darkCells
set_option maxRecDepth 20000 in
theorem ggX8_draw_X1_cellsOff : GoodIn wsX8_draw wsX1_cellsOff := goodIn_r _ [78, 79, 80, 81, 82, 83, 84, 85] (by decide +kernel) (by decide +kernel)
set_option maxRecDepth 20000 in
theorem gX8_draw_X1_cellsOff : GoodIn wsX8_draw (va_wsS RX8 164 yX1_cellsOff wsX1_cellsOff) := goodIn_app (goodIn_of _ (by decide +kernel)) ggX8_draw_X1_cellsOff
theorem dX8_draw_0 : decode cX8_draw 0 = .ok (.aload_n 0, 1) := by decide +kernel
theorem dX8_draw_1 : decode cX8_draw 1 = .ok (.getfield 10, 3) := by decide +kernel
theorem dX8_draw_4 : decode cX8_draw 4 = .ok (.iload_n 1, 1) := by decide +kernel
theorem dX8_draw_5 : decode cX8_draw 5 = .ok (.invokevirtual 157, 3) := by decide +kernel
theorem dX8_draw_8 : decode cX8_draw 8 = .ok (.ifCond .ne 10, 3) := by decide +kernel
theorem dX8_draw_11 : decode cX8_draw 11 = .ok (.aload_n 0, 1) := by decide +kernel
theorem dX8_draw_12 : decode cX8_draw 12 = .ok (.ldc 62, 2) := by decide +kernel
theorem dX8_draw_14 : decode cX8_draw 14 = .ok (.invokevirtual 63, 3) := by decide +kernel
theorem dX8_draw_17 : decode cX8_draw 17 = .ok (.ireturn, 1) := by decide +kernel
theorem dX8_draw_18 : decode cX8_draw 18 = .ok (.aload_n 0, 1) := by decide +kernel
theorem dX8_draw_19 : decode cX8_draw 19 = .ok (.getfield 10, 3) := by decide +kernel
theorem dX8_draw_22 : decode cX8_draw 22 = .ok (.getfield 160, 3) := by decide +kernel
theorem dX8_draw_25 : decode cX8_draw 25 = .ok (.iload_n 1, 1) := by decide +kernel
theorem dX8_draw_26 : decode cX8_draw 26 = .ok (.laload, 1) := by decide +kernel
theorem dX8_draw_27 : decode cX8_draw 27 = .ok (.lstore_n 2, 1) := by decide +kernel
theorem dX8_draw_28 : decode cX8_draw 28 = .ok (.aload_n 0, 1) := by decide +kernel
theorem dX8_draw_29 : decode cX8_draw 29 = .ok (.getfield 10, 3) := by decide +kernel
theorem dX8_draw_32 : decode cX8_draw 32 = .ok (.getfield 160, 3) := by decide +kernel
theorem dX8_draw_35 : decode cX8_draw 35 = .ok (.iload_n 1, 1) := by decide +kernel
theorem dX8_draw_36 : decode cX8_draw 36 = .ok (.aload_n 0, 1) := by decide +kernel
theorem dX8_draw_37 : decode cX8_draw 37 = .ok (.getfield 10, 3) := by decide +kernel
theorem dX8_draw_40 : decode cX8_draw 40 = .ok (.invokevirtual 134, 3) := by decide +kernel
theorem dX8_draw_43 : decode cX8_draw 43 = .ok (.lastore, 1) := by decide +kernel
theorem dX8_draw_44 : decode cX8_draw 44 = .ok (.lload_n 2, 1) := by decide +kernel
theorem dX8_draw_45 : decode cX8_draw 45 = .ok (.aload_n 0, 1) := by decide +kernel
theorem dX8_draw_46 : decode cX8_draw 46 = .ok (.getfield 10, 3) := by decide +kernel
theorem dX8_draw_49 : decode cX8_draw 49 = .ok (.getfield 160, 3) := by decide +kernel
theorem dX8_draw_52 : decode cX8_draw 52 = .ok (.iload_n 1, 1) := by decide +kernel
theorem dX8_draw_53 : decode cX8_draw 53 = .ok (.laload, 1) := by decide +kernel
theorem dX8_draw_54 : decode cX8_draw 54 = .ok (.invokestatic 164, 3) := by decide +kernel
theorem dX8_draw_57 : decode cX8_draw 57 = .ok (.ireturn, 1) := by decide +kernel
set_option maxRecDepth 20000 in
theorem ggX8_picture_X6_hasScene : GoodIn wsX8_picture wsX6_hasScene := goodIn_r _ [7, 8, 23, 24, 25, 26, 27, 28, 29, 30, 31] (by decide +kernel) (by decide +kernel)
set_option maxRecDepth 20000 in
theorem gX8_picture_X6_hasScene : GoodIn wsX8_picture (wsV RX8 157 RX6 yX6_hasScene wsX6_hasScene) := goodIn_app (goodIn_of _ (by decide +kernel)) ggX8_picture_X6_hasScene
set_option maxRecDepth 20000 in
theorem ggX8_picture_X8_finding : GoodIn wsX8_picture wsX8_finding := goodIn_r _ [13, 2, 14, 15, 16, 17, 18, 19, 20, 21, 22] (by decide +kernel) (by decide +kernel)
set_option maxRecDepth 20000 in
theorem gX8_picture_X8_finding : GoodIn wsX8_picture (wsV RX8 63 RX8 yX8_finding wsX8_finding) := goodIn_app (goodIn_of _ (by decide +kernel)) ggX8_picture_X8_finding
theorem dX8_picture_0 : decode cX8_picture 0 = .ok (.aload_n 0, 1) := by decide +kernel
theorem dX8_picture_1 : decode cX8_picture 1 = .ok (.getfield 10, 3) := by decide +kernel
theorem dX8_picture_4 : decode cX8_picture 4 = .ok (.iload_n 1, 1) := by decide +kernel
theorem dX8_picture_5 : decode cX8_picture 5 = .ok (.invokevirtual 157, 3) := by decide +kernel
theorem dX8_picture_8 : decode cX8_picture 8 = .ok (.ifCond .ne 11, 3) := by decide +kernel
theorem dX8_picture_11 : decode cX8_picture 11 = .ok (.aload_n 0, 1) := by decide +kernel
theorem dX8_picture_12 : decode cX8_picture 12 = .ok (.ldc 62, 2) := by decide +kernel
theorem dX8_picture_14 : decode cX8_picture 14 = .ok (.invokevirtual 63, 3) := by decide +kernel
theorem dX8_picture_17 : decode cX8_picture 17 = .ok (.i2l, 1) := by decide +kernel
theorem dX8_picture_18 : decode cX8_picture 18 = .ok (.lreturn, 1) := by decide +kernel
theorem dX8_picture_19 : decode cX8_picture 19 = .ok (.aload_n 0, 1) := by decide +kernel
theorem dX8_picture_20 : decode cX8_picture 20 = .ok (.getfield 10, 3) := by decide +kernel
theorem dX8_picture_23 : decode cX8_picture 23 = .ok (.getfield 160, 3) := by decide +kernel
theorem dX8_picture_26 : decode cX8_picture 26 = .ok (.iload_n 1, 1) := by decide +kernel
theorem dX8_picture_27 : decode cX8_picture 27 = .ok (.laload, 1) := by decide +kernel
theorem dX8_picture_28 : decode cX8_picture 28 = .ok (.lreturn, 1) := by decide +kernel
set_option maxRecDepth 20000 in
theorem ggX8_off_X6_hasScene : GoodIn wsX8_off wsX6_hasScene := goodIn_r _ [7, 8, 94, 95, 96, 97, 98, 99, 100, 101, 102] (by decide +kernel) (by decide +kernel)
set_option maxRecDepth 20000 in
theorem gX8_off_X6_hasScene : GoodIn wsX8_off (wsV RX8 157 RX6 yX6_hasScene wsX6_hasScene) := goodIn_app (goodIn_of _ (by decide +kernel)) ggX8_off_X6_hasScene
set_option maxRecDepth 20000 in
theorem ggX8_off_X8_finding : GoodIn wsX8_off wsX8_finding := goodIn_r _ [13, 2, 14, 86, 87, 88, 89, 90, 91, 92, 93] (by decide +kernel) (by decide +kernel)
set_option maxRecDepth 20000 in
theorem gX8_off_X8_finding : GoodIn wsX8_off (wsV RX8 63 RX8 yX8_finding wsX8_finding) := goodIn_app (goodIn_of _ (by decide +kernel)) ggX8_off_X8_finding
set_option maxRecDepth 20000 in
theorem ggX8_off_X6_darkCells : GoodIn wsX8_off wsX6_darkCells := goodIn_r _ [18, 19, 20, 21, 6, 22, 23, 24, 25, 26, 27, 28, 29, 30, 31, 32, 33, 34, 35, 36, 37, 38, 39, 40, 41, 42, 43, 44, 45, 46, 47, 48, 49, 50, 51, 52, 53, 54, 55, 56, 57, 58, 59, 60, 61, 62, 63, 64, 65, 66, 67, 68, 69, 70, 71, 72, 73, 74, 75, 94, 95, 96, 97, 98, 99, 100, 101, 102] (by decide +kernel) (by decide +kernel)
set_option maxRecDepth 20000 in
theorem gX8_off_X6_darkCells : GoodIn wsX8_off (wsV RX8 134 RX6 yX6_darkCells wsX6_darkCells) := goodIn_app (goodIn_of _ (by decide +kernel)) ggX8_off_X6_darkCells
set_option maxRecDepth 20000 in
theorem ggX8_off_X1_cellsOff : GoodIn wsX8_off wsX1_cellsOff := goodIn_r _ [78, 79, 80, 81, 82, 83, 84, 85] (by decide +kernel) (by decide +kernel)
set_option maxRecDepth 20000 in
theorem gX8_off_X1_cellsOff : GoodIn wsX8_off (va_wsS RX8 164 yX1_cellsOff wsX1_cellsOff) := goodIn_app (goodIn_of _ (by decide +kernel)) ggX8_off_X1_cellsOff
theorem dX8_off_0 : decode cX8_off 0 = .ok (.aload_n 0, 1) := by decide +kernel
theorem dX8_off_1 : decode cX8_off 1 = .ok (.getfield 10, 3) := by decide +kernel
theorem dX8_off_4 : decode cX8_off 4 = .ok (.iload_n 1, 1) := by decide +kernel
theorem dX8_off_5 : decode cX8_off 5 = .ok (.invokevirtual 157, 3) := by decide +kernel
theorem dX8_off_8 : decode cX8_off 8 = .ok (.ifCond .ne 10, 3) := by decide +kernel
theorem dX8_off_11 : decode cX8_off 11 = .ok (.aload_n 0, 1) := by decide +kernel
theorem dX8_off_12 : decode cX8_off 12 = .ok (.ldc 62, 2) := by decide +kernel
theorem dX8_off_14 : decode cX8_off 14 = .ok (.invokevirtual 63, 3) := by decide +kernel
theorem dX8_off_17 : decode cX8_off 17 = .ok (.ireturn, 1) := by decide +kernel
theorem dX8_off_18 : decode cX8_off 18 = .ok (.aload_n 0, 1) := by decide +kernel
theorem dX8_off_19 : decode cX8_off 19 = .ok (.getfield 10, 3) := by decide +kernel
theorem dX8_off_22 : decode cX8_off 22 = .ok (.invokevirtual 134, 3) := by decide +kernel
theorem dX8_off_25 : decode cX8_off 25 = .ok (.aload_n 0, 1) := by decide +kernel
theorem dX8_off_26 : decode cX8_off 26 = .ok (.getfield 10, 3) := by decide +kernel
theorem dX8_off_29 : decode cX8_off 29 = .ok (.getfield 160, 3) := by decide +kernel
theorem dX8_off_32 : decode cX8_off 32 = .ok (.iload_n 1, 1) := by decide +kernel
theorem dX8_off_33 : decode cX8_off 33 = .ok (.laload, 1) := by decide +kernel
theorem dX8_off_34 : decode cX8_off 34 = .ok (.invokestatic 164, 3) := by decide +kernel
theorem dX8_off_37 : decode cX8_off 37 = .ok (.ireturn, 1) := by decide +kernel
set_option maxRecDepth 20000 in
theorem ggX8_changes_X6_hasScene : GoodIn wsX8_changes wsX6_hasScene := goodIn_r _ [7, 8, 43, 44, 45, 46, 47, 48, 49, 50, 51] (by decide +kernel) (by decide +kernel)
set_option maxRecDepth 20000 in
theorem gX8_changes_X6_hasScene : GoodIn wsX8_changes (wsV RX8 157 RX6 yX6_hasScene wsX6_hasScene) := goodIn_app (goodIn_of _ (by decide +kernel)) ggX8_changes_X6_hasScene
set_option maxRecDepth 20000 in
theorem ggX8_changes_X8_finding : GoodIn wsX8_changes wsX8_finding := goodIn_r _ [13, 2, 14, 35, 36, 37, 38, 39, 40, 41, 42] (by decide +kernel) (by decide +kernel)
set_option maxRecDepth 20000 in
theorem gX8_changes_X8_finding : GoodIn wsX8_changes (wsV RX8 63 RX8 yX8_finding wsX8_finding) := goodIn_app (goodIn_of _ (by decide +kernel)) ggX8_changes_X8_finding
set_option maxRecDepth 20000 in
theorem ggX8_changes_X6_changesBetween : GoodIn wsX8_changes wsX6_changesBetween := goodIn_r _ [18, 19, 20, 21, 6, 22, 23, 24, 25, 26, 27, 28, 29, 30, 31, 32, 33, 34, 43, 44, 45, 46, 47, 48, 49, 50, 51] (by decide +kernel) (by decide +kernel)
set_option maxRecDepth 20000 in
theorem gX8_changes_X6_changesBetween : GoodIn wsX8_changes (wsV RX8 168 RX6 yX6_changesBetween wsX6_changesBetween) := goodIn_app (goodIn_of _ (by decide +kernel)) ggX8_changes_X6_changesBetween
theorem dX8_changes_0 : decode cX8_changes 0 = .ok (.aload_n 0, 1) := by decide +kernel
theorem dX8_changes_1 : decode cX8_changes 1 = .ok (.getfield 10, 3) := by decide +kernel
theorem dX8_changes_4 : decode cX8_changes 4 = .ok (.iload_n 1, 1) := by decide +kernel
theorem dX8_changes_5 : decode cX8_changes 5 = .ok (.invokevirtual 157, 3) := by decide +kernel
theorem dX8_changes_8 : decode cX8_changes 8 = .ok (.ifCond .eq 14, 3) := by decide +kernel
theorem dX8_changes_11 : decode cX8_changes 11 = .ok (.aload_n 0, 1) := by decide +kernel
theorem dX8_changes_12 : decode cX8_changes 12 = .ok (.getfield 10, 3) := by decide +kernel
theorem dX8_changes_15 : decode cX8_changes 15 = .ok (.iload_n 2, 1) := by decide +kernel
theorem dX8_changes_16 : decode cX8_changes 16 = .ok (.invokevirtual 157, 3) := by decide +kernel
theorem dX8_changes_19 : decode cX8_changes 19 = .ok (.ifCond .ne 10, 3) := by decide +kernel
theorem dX8_changes_22 : decode cX8_changes 22 = .ok (.aload_n 0, 1) := by decide +kernel
theorem dX8_changes_23 : decode cX8_changes 23 = .ok (.ldc 62, 2) := by decide +kernel
theorem dX8_changes_25 : decode cX8_changes 25 = .ok (.invokevirtual 63, 3) := by decide +kernel
theorem dX8_changes_28 : decode cX8_changes 28 = .ok (.ireturn, 1) := by decide +kernel
theorem dX8_changes_29 : decode cX8_changes 29 = .ok (.aload_n 0, 1) := by decide +kernel
theorem dX8_changes_30 : decode cX8_changes 30 = .ok (.getfield 10, 3) := by decide +kernel
theorem dX8_changes_33 : decode cX8_changes 33 = .ok (.iload_n 1, 1) := by decide +kernel
theorem dX8_changes_34 : decode cX8_changes 34 = .ok (.iload_n 2, 1) := by decide +kernel
theorem dX8_changes_35 : decode cX8_changes 35 = .ok (.invokevirtual 168, 3) := by decide +kernel
theorem dX8_changes_38 : decode cX8_changes 38 = .ok (.ireturn, 1) := by decide +kernel
set_option maxRecDepth 20000 in
theorem ggX8_allow_X8_finding : GoodIn wsX8_allow wsX8_finding := goodIn_r _ [7, 1, 8, 9, 10, 11, 12, 13, 14, 15, 16] (by decide +kernel) (by decide +kernel)
set_option maxRecDepth 20000 in
theorem gX8_allow_X8_finding : GoodIn wsX8_allow (wsV RX8 63 RX8 yX8_finding wsX8_finding) := goodIn_app (goodIn_of _ (by decide +kernel)) ggX8_allow_X8_finding
theorem dX8_allow_0 : decode cX8_allow 0 = .ok (.iload_n 1, 1) := by decide +kernel
theorem dX8_allow_1 : decode cX8_allow 1 = .ok (.ifCond .lt 22, 3) := by decide +kernel
theorem dX8_allow_4 : decode cX8_allow 4 = .ok (.iload_n 1, 1) := by decide +kernel
theorem dX8_allow_5 : decode cX8_allow 5 = .ok (.bipush 63, 2) := by decide +kernel
theorem dX8_allow_7 : decode cX8_allow 7 = .ok (.if_icmp .gt 16, 3) := by decide +kernel
theorem dX8_allow_10 : decode cX8_allow 10 = .ok (.iload_n 1, 1) := by decide +kernel
theorem dX8_allow_11 : decode cX8_allow 11 = .ok (.bipush 15, 2) := by decide +kernel
theorem dX8_allow_13 : decode cX8_allow 13 = .ok (.iand, 1) := by decide +kernel
theorem dX8_allow_14 : decode cX8_allow 14 = .ok (.ifCond .eq 9, 3) := by decide +kernel
theorem dX8_allow_17 : decode cX8_allow 17 = .ok (.iload_n 1, 1) := by decide +kernel
theorem dX8_allow_18 : decode cX8_allow 18 = .ok (.iconst 4, 1) := by decide +kernel
theorem dX8_allow_19 : decode cX8_allow 19 = .ok (.ishr, 1) := by decide +kernel
theorem dX8_allow_20 : decode cX8_allow 20 = .ok (.ifCond .ne 10, 3) := by decide +kernel
theorem dX8_allow_23 : decode cX8_allow 23 = .ok (.aload_n 0, 1) := by decide +kernel
theorem dX8_allow_24 : decode cX8_allow 24 = .ok (.ldc 62, 2) := by decide +kernel
theorem dX8_allow_26 : decode cX8_allow 26 = .ok (.invokevirtual 63, 3) := by decide +kernel
theorem dX8_allow_29 : decode cX8_allow 29 = .ok (.ireturn, 1) := by decide +kernel
theorem dX8_allow_30 : decode cX8_allow 30 = .ok (.aload_n 0, 1) := by decide +kernel
theorem dX8_allow_31 : decode cX8_allow 31 = .ok (.getfield 10, 3) := by decide +kernel
theorem dX8_allow_34 : decode cX8_allow 34 = .ok (.getfield 171, 3) := by decide +kernel
theorem dX8_allow_37 : decode cX8_allow 37 = .ok (.istore_n 2, 1) := by decide +kernel
theorem dX8_allow_38 : decode cX8_allow 38 = .ok (.aload_n 0, 1) := by decide +kernel
theorem dX8_allow_39 : decode cX8_allow 39 = .ok (.getfield 10, 3) := by decide +kernel
theorem dX8_allow_42 : decode cX8_allow 42 = .ok (.iload_n 1, 1) := by decide +kernel
theorem dX8_allow_43 : decode cX8_allow 43 = .ok (.putfield 171, 3) := by decide +kernel
theorem dX8_allow_46 : decode cX8_allow 46 = .ok (.iload_n 2, 1) := by decide +kernel
theorem dX8_allow_47 : decode cX8_allow 47 = .ok (.ireturn, 1) := by decide +kernel
set_option maxRecDepth 20000 in
theorem ggX8_nearest_X6_hasShape : GoodIn wsX8_nearest wsX6_hasShape := goodIn_r _ [8, 9, 95, 96, 97, 98, 99, 100, 101, 102, 103] (by decide +kernel) (by decide +kernel)
set_option maxRecDepth 20000 in
theorem gX8_nearest_X6_hasShape : GoodIn wsX8_nearest (wsV RX8 76 RX6 yX6_hasShape wsX6_hasShape) := goodIn_app (goodIn_of _ (by decide +kernel)) ggX8_nearest_X6_hasShape
set_option maxRecDepth 20000 in
theorem ggX8_nearest_X6_hasScene : GoodIn wsX8_nearest wsX6_hasScene := goodIn_r _ [13, 14, 95, 96, 97, 98, 99, 100, 101, 102, 103] (by decide +kernel) (by decide +kernel)
set_option maxRecDepth 20000 in
theorem gX8_nearest_X6_hasScene : GoodIn wsX8_nearest (wsV RX8 157 RX6 yX6_hasScene wsX6_hasScene) := goodIn_app (goodIn_of _ (by decide +kernel)) ggX8_nearest_X6_hasScene
set_option maxRecDepth 20000 in
theorem ggX8_nearest_X8_finding : GoodIn wsX8_nearest wsX8_finding := goodIn_r _ [19, 2, 20, 87, 88, 89, 90, 91, 92, 93, 94] (by decide +kernel) (by decide +kernel)
set_option maxRecDepth 20000 in
theorem gX8_nearest_X8_finding : GoodIn wsX8_nearest (wsV RX8 63 RX8 yX8_finding wsX8_finding) := goodIn_app (goodIn_of _ (by decide +kernel)) ggX8_nearest_X8_finding
set_option maxRecDepth 20000 in
theorem ggX8_nearest_X5_seek : GoodIn wsX8_nearest wsX5_seek := goodIn_r _ [25, 26, 27, 28, 29, 30, 7, 31, 32, 33, 34, 35, 36, 37, 38, 39, 40, 41, 42, 43, 44, 45, 46, 47, 48, 49, 50, 51, 52, 53, 54, 55, 56, 57, 58, 59, 60, 61, 62, 63, 64, 65, 66, 67, 68, 24, 69, 70, 71, 72, 73, 74, 75, 76, 77, 78, 79, 80, 81, 82, 83, 84, 85, 86, 104, 105, 95, 96, 97, 98, 99, 100, 101, 102, 103] (by decide +kernel) (by decide +kernel)
set_option maxRecDepth 20000 in
theorem gX8_nearest_X5_seek : GoodIn wsX8_nearest (wsV RX8 174 RX5 yX5_seek wsX5_seek) := goodIn_app (goodIn_of _ (by decide +kernel)) ggX8_nearest_X5_seek
theorem dX8_nearest_0 : decode cX8_nearest 0 = .ok (.aload_n 0, 1) := by decide +kernel
theorem dX8_nearest_1 : decode cX8_nearest 1 = .ok (.getfield 10, 3) := by decide +kernel
theorem dX8_nearest_4 : decode cX8_nearest 4 = .ok (.iload_n 1, 1) := by decide +kernel
theorem dX8_nearest_5 : decode cX8_nearest 5 = .ok (.invokevirtual 76, 3) := by decide +kernel
theorem dX8_nearest_8 : decode cX8_nearest 8 = .ok (.ifCond .eq 23, 3) := by decide +kernel
theorem dX8_nearest_11 : decode cX8_nearest 11 = .ok (.aload_n 0, 1) := by decide +kernel
theorem dX8_nearest_12 : decode cX8_nearest 12 = .ok (.getfield 10, 3) := by decide +kernel
theorem dX8_nearest_15 : decode cX8_nearest 15 = .ok (.iload_n 2, 1) := by decide +kernel
theorem dX8_nearest_16 : decode cX8_nearest 16 = .ok (.invokevirtual 157, 3) := by decide +kernel
theorem dX8_nearest_19 : decode cX8_nearest 19 = .ok (.ifCond .eq 12, 3) := by decide +kernel
theorem dX8_nearest_22 : decode cX8_nearest 22 = .ok (.iload_n 3, 1) := by decide +kernel
theorem dX8_nearest_23 : decode cX8_nearest 23 = .ok (.ifCond .lt 8, 3) := by decide +kernel
theorem dX8_nearest_26 : decode cX8_nearest 26 = .ok (.iload_n 3, 1) := by decide +kernel
theorem dX8_nearest_27 : decode cX8_nearest 27 = .ok (.iconst 1, 1) := by decide +kernel
theorem dX8_nearest_28 : decode cX8_nearest 28 = .ok (.if_icmp .le 10, 3) := by decide +kernel
theorem dX8_nearest_31 : decode cX8_nearest 31 = .ok (.aload_n 0, 1) := by decide +kernel
theorem dX8_nearest_32 : decode cX8_nearest 32 = .ok (.ldc 62, 2) := by decide +kernel
theorem dX8_nearest_34 : decode cX8_nearest 34 = .ok (.invokevirtual 63, 3) := by decide +kernel
theorem dX8_nearest_37 : decode cX8_nearest 37 = .ok (.ireturn, 1) := by decide +kernel
theorem dX8_nearest_38 : decode cX8_nearest 38 = .ok (.aload_n 0, 1) := by decide +kernel
theorem dX8_nearest_39 : decode cX8_nearest 39 = .ok (.getfield 22, 3) := by decide +kernel
theorem dX8_nearest_42 : decode cX8_nearest 42 = .ok (.aload_n 0, 1) := by decide +kernel
theorem dX8_nearest_43 : decode cX8_nearest 43 = .ok (.getfield 10, 3) := by decide +kernel
theorem dX8_nearest_46 : decode cX8_nearest 46 = .ok (.iload_n 1, 1) := by decide +kernel
theorem dX8_nearest_47 : decode cX8_nearest 47 = .ok (.lconst 0, 1) := by decide +kernel
theorem dX8_nearest_48 : decode cX8_nearest 48 = .ok (.aload_n 0, 1) := by decide +kernel
theorem dX8_nearest_49 : decode cX8_nearest 49 = .ok (.getfield 10, 3) := by decide +kernel
theorem dX8_nearest_52 : decode cX8_nearest 52 = .ok (.getfield 160, 3) := by decide +kernel
theorem dX8_nearest_55 : decode cX8_nearest 55 = .ok (.iload_n 2, 1) := by decide +kernel
theorem dX8_nearest_56 : decode cX8_nearest 56 = .ok (.laload, 1) := by decide +kernel
theorem dX8_nearest_57 : decode cX8_nearest 57 = .ok (.invokevirtual 174, 3) := by decide +kernel
theorem dX8_nearest_60 : decode cX8_nearest 60 = .ok (.iload_n 3, 1) := by decide +kernel
theorem dX8_nearest_61 : decode cX8_nearest 61 = .ok (.ifCond .ne 13, 3) := by decide +kernel
theorem dX8_nearest_64 : decode cX8_nearest 64 = .ok (.aload_n 0, 1) := by decide +kernel
theorem dX8_nearest_65 : decode cX8_nearest 65 = .ok (.getfield 22, 3) := by decide +kernel
theorem dX8_nearest_68 : decode cX8_nearest 68 = .ok (.getfield 178, 3) := by decide +kernel
theorem dX8_nearest_71 : decode cX8_nearest 71 = .ok (.goto 10, 3) := by decide +kernel
theorem dX8_nearest_74 : decode cX8_nearest 74 = .ok (.aload_n 0, 1) := by decide +kernel
theorem dX8_nearest_75 : decode cX8_nearest 75 = .ok (.getfield 22, 3) := by decide +kernel
theorem dX8_nearest_78 : decode cX8_nearest 78 = .ok (.getfield 181, 3) := by decide +kernel
theorem dX8_nearest_81 : decode cX8_nearest 81 = .ok (.ireturn, 1) := by decide +kernel
set_option maxRecDepth 20000 in
theorem ggX8_best_X6_hasScene : GoodIn wsX8_best wsX6_hasScene := goodIn_r _ [9, 10, 105, 106, 107, 108, 109, 110, 111, 112, 113] (by decide +kernel) (by decide +kernel)
set_option maxRecDepth 20000 in
theorem gX8_best_X6_hasScene : GoodIn wsX8_best (wsV RX8 157 RX6 yX6_hasScene wsX6_hasScene) := goodIn_app (goodIn_of _ (by decide +kernel)) ggX8_best_X6_hasScene
set_option maxRecDepth 20000 in
theorem ggX8_best_X8_finding : GoodIn wsX8_best wsX8_finding := goodIn_r _ [15, 2, 16, 97, 98, 99, 100, 101, 102, 103, 104] (by decide +kernel) (by decide +kernel)
set_option maxRecDepth 20000 in
theorem gX8_best_X8_finding : GoodIn wsX8_best (wsV RX8 63 RX8 yX8_finding wsX8_finding) := goodIn_app (goodIn_of _ (by decide +kernel)) ggX8_best_X8_finding
set_option maxRecDepth 20000 in
theorem ggX8_best_X5_nearestOnes : GoodIn wsX8_best wsX5_nearestOnes := goodIn_r _ [21, 22, 23, 24, 25, 8, 26, 27, 28, 29, 30, 20, 31, 32, 33, 34, 35, 36, 37, 38, 39, 40, 41, 42, 43, 44, 45, 46, 47, 48, 49, 50, 51, 52, 53, 54, 55, 56, 57, 58, 59, 60, 61, 62, 63, 64, 65, 66, 67, 68, 69, 70, 71, 72, 73, 74, 75, 76, 77, 78, 79, 80, 81, 82, 83, 84, 85, 86, 87, 88, 89, 90, 91, 105, 106, 107, 108, 109, 110, 111, 112, 113, 114, 115] (by decide +kernel) (by decide +kernel)
set_option maxRecDepth 20000 in
theorem gX8_best_X5_nearestOnes : GoodIn wsX8_best (wsV RX8 184 RX5 yX5_nearestOnes wsX5_nearestOnes) := goodIn_app (goodIn_of _ (by decide +kernel)) ggX8_best_X5_nearestOnes
set_option maxRecDepth 20000 in
theorem ggX8_best_J6_numberOfTrailingZeros_0f7a4 : GoodIn wsX8_best wsJ6_numberOfTrailingZeros_0f7a4 := goodIn_r _ [95, 96] (by decide +kernel) (by decide +kernel)
set_option maxRecDepth 20000 in
theorem gX8_best_J6_numberOfTrailingZeros_0f7a4 : GoodIn wsX8_best (va_wsS RX8 188 yJ6_numberOfTrailingZeros_0f7a4 wsJ6_numberOfTrailingZeros_0f7a4) := goodIn_app (goodIn_of _ (by decide +kernel)) ggX8_best_J6_numberOfTrailingZeros_0f7a4
theorem dX8_best_0 : decode cX8_best 0 = .ok (.aload_n 0, 1) := by decide +kernel
theorem dX8_best_1 : decode cX8_best 1 = .ok (.getfield 10, 3) := by decide +kernel
theorem dX8_best_4 : decode cX8_best 4 = .ok (.iload_n 1, 1) := by decide +kernel
theorem dX8_best_5 : decode cX8_best 5 = .ok (.invokevirtual 157, 3) := by decide +kernel
theorem dX8_best_8 : decode cX8_best 8 = .ok (.ifCond .ne 10, 3) := by decide +kernel
theorem dX8_best_11 : decode cX8_best 11 = .ok (.aload_n 0, 1) := by decide +kernel
theorem dX8_best_12 : decode cX8_best 12 = .ok (.ldc 62, 2) := by decide +kernel
theorem dX8_best_14 : decode cX8_best 14 = .ok (.invokevirtual 63, 3) := by decide +kernel
theorem dX8_best_17 : decode cX8_best 17 = .ok (.ireturn, 1) := by decide +kernel
theorem dX8_best_18 : decode cX8_best 18 = .ok (.aload_n 0, 1) := by decide +kernel
theorem dX8_best_19 : decode cX8_best 19 = .ok (.getfield 22, 3) := by decide +kernel
theorem dX8_best_22 : decode cX8_best 22 = .ok (.aload_n 0, 1) := by decide +kernel
theorem dX8_best_23 : decode cX8_best 23 = .ok (.getfield 10, 3) := by decide +kernel
theorem dX8_best_26 : decode cX8_best 26 = .ok (.iload_n 1, 1) := by decide +kernel
theorem dX8_best_27 : decode cX8_best 27 = .ok (.invokevirtual 184, 3) := by decide +kernel
theorem dX8_best_30 : decode cX8_best 30 = .ok (.istore_n 2, 1) := by decide +kernel
theorem dX8_best_31 : decode cX8_best 31 = .ok (.iload_n 2, 1) := by decide +kernel
theorem dX8_best_32 : decode cX8_best 32 = .ok (.ifCond .ne 10, 3) := by decide +kernel
theorem dX8_best_35 : decode cX8_best 35 = .ok (.aload_n 0, 1) := by decide +kernel
theorem dX8_best_36 : decode cX8_best 36 = .ok (.ldc 149, 2) := by decide +kernel
theorem dX8_best_38 : decode cX8_best 38 = .ok (.invokevirtual 63, 3) := by decide +kernel
theorem dX8_best_41 : decode cX8_best 41 = .ok (.ireturn, 1) := by decide +kernel
theorem dX8_best_42 : decode cX8_best 42 = .ok (.iload_n 2, 1) := by decide +kernel
theorem dX8_best_43 : decode cX8_best 43 = .ok (.invokestatic 188, 3) := by decide +kernel
theorem dX8_best_46 : decode cX8_best 46 = .ok (.ireturn, 1) := by decide +kernel
set_option maxRecDepth 20000 in
theorem ggX8_play_X6_hasScene : GoodIn wsX8_play wsX6_hasScene := goodIn_r _ [8, 9, 139, 140, 141, 142, 143, 144, 145, 146, 147] (by decide +kernel) (by decide +kernel)
set_option maxRecDepth 20000 in
theorem gX8_play_X6_hasScene : GoodIn wsX8_play (wsV RX8 157 RX6 yX6_hasScene wsX6_hasScene) := goodIn_app (goodIn_of _ (by decide +kernel)) ggX8_play_X6_hasScene
set_option maxRecDepth 20000 in
theorem ggX8_play_X8_finding : GoodIn wsX8_play wsX8_finding := goodIn_r _ [14, 2, 15, 131, 132, 133, 134, 135, 136, 137, 138] (by decide +kernel) (by decide +kernel)
set_option maxRecDepth 20000 in
theorem gX8_play_X8_finding : GoodIn wsX8_play (wsV RX8 63 RX8 yX8_finding wsX8_finding) := goodIn_app (goodIn_of _ (by decide +kernel)) ggX8_play_X8_finding
set_option maxRecDepth 20000 in
theorem ggX8_play_X6_emptyHands : GoodIn wsX8_play wsX6_emptyHands := goodIn_r _ [19, 20, 21, 22, 7, 23, 24, 25, 26, 27, 28, 29, 139, 140, 141, 142, 143, 144, 145, 146, 147] (by decide +kernel) (by decide +kernel)
set_option maxRecDepth 20000 in
theorem gX8_play_X6_emptyHands : GoodIn wsX8_play (wsV RX8 193 RX6 yX6_emptyHands wsX6_emptyHands) := goodIn_app (goodIn_of _ (by decide +kernel)) ggX8_play_X6_emptyHands
set_option maxRecDepth 20000 in
theorem ggX8_play_X6_darkCells : GoodIn wsX8_play wsX6_darkCells := goodIn_r _ [33, 34, 35, 36, 7, 37, 28, 29, 38, 39, 40, 41, 42, 43, 44, 45, 46, 47, 48, 49, 50, 51, 52, 53, 54, 55, 56, 57, 58, 59, 60, 61, 62, 63, 64, 65, 66, 67, 68, 69, 70, 71, 72, 73, 74, 75, 76, 77, 78, 79, 80, 81, 82, 83, 84, 85, 86, 87, 88, 139, 140, 141, 142, 143, 144, 145, 146, 147] (by decide +kernel) (by decide +kernel)
set_option maxRecDepth 20000 in
theorem gX8_play_X6_darkCells : GoodIn wsX8_play (wsV RX8 134 RX6 yX6_darkCells wsX6_darkCells) := goodIn_app (goodIn_of _ (by decide +kernel)) ggX8_play_X6_darkCells
set_option maxRecDepth 20000 in
theorem ggX8_play_X5_addOne : GoodIn wsX8_play wsX5_addOne := goodIn_r _ [93, 94, 95, 96, 97, 82, 98, 99, 100, 101, 102, 103, 104, 105, 106, 44, 45, 7, 46, 47, 107, 108, 109, 110, 28, 111, 112, 113, 92, 114, 115, 116, 117, 118, 119, 120, 53, 54, 55, 56, 57, 58, 59, 60, 61, 62, 63, 64, 65, 66, 67, 68, 69, 70, 71, 72, 73, 74, 75, 76, 77, 78, 79, 80, 81, 83, 84, 121, 122, 123, 124, 125, 86, 87, 88, 126, 127, 128, 129, 25, 26, 27, 29, 139, 140, 141, 142, 143, 144, 145, 146, 147, 148, 149] (by decide +kernel) (by decide +kernel)
set_option maxRecDepth 20000 in
theorem gX8_play_X5_addOne : GoodIn wsX8_play (wsV RX8 196 RX5 yX5_addOne wsX5_addOne) := goodIn_app (goodIn_of _ (by decide +kernel)) ggX8_play_X5_addOne
set_option maxRecDepth 20000 in
theorem ggX8_play_X1_cellsOff : GoodIn wsX8_play wsX1_cellsOff := goodIn_r _ [98, 99, 100, 101, 102, 103, 104, 105] (by decide +kernel) (by decide +kernel)
set_option maxRecDepth 20000 in
theorem gX8_play_X1_cellsOff : GoodIn wsX8_play (va_wsS RX8 164 yX1_cellsOff wsX1_cellsOff) := goodIn_app (goodIn_of _ (by decide +kernel)) ggX8_play_X1_cellsOff
theorem dX8_play_0 : decode cX8_play 0 = .ok (.aload_n 0, 1) := by decide +kernel
theorem dX8_play_1 : decode cX8_play 1 = .ok (.getfield 10, 3) := by decide +kernel
theorem dX8_play_4 : decode cX8_play 4 = .ok (.iload_n 1, 1) := by decide +kernel
theorem dX8_play_5 : decode cX8_play 5 = .ok (.invokevirtual 157, 3) := by decide +kernel
theorem dX8_play_8 : decode cX8_play 8 = .ok (.ifCond .ne 10, 3) := by decide +kernel
theorem dX8_play_11 : decode cX8_play 11 = .ok (.aload_n 0, 1) := by decide +kernel
theorem dX8_play_12 : decode cX8_play 12 = .ok (.ldc 62, 2) := by decide +kernel
theorem dX8_play_14 : decode cX8_play 14 = .ok (.invokevirtual 63, 3) := by decide +kernel
theorem dX8_play_17 : decode cX8_play 17 = .ok (.ireturn, 1) := by decide +kernel
theorem dX8_play_18 : decode cX8_play 18 = .ok (.aload_n 0, 1) := by decide +kernel
theorem dX8_play_19 : decode cX8_play 19 = .ok (.getfield 10, 3) := by decide +kernel
theorem dX8_play_22 : decode cX8_play 22 = .ok (.invokevirtual 193, 3) := by decide +kernel
theorem dX8_play_25 : decode cX8_play 25 = .ok (.aload_n 0, 1) := by decide +kernel
theorem dX8_play_26 : decode cX8_play 26 = .ok (.getfield 10, 3) := by decide +kernel
theorem dX8_play_29 : decode cX8_play 29 = .ok (.getfield 160, 3) := by decide +kernel
theorem dX8_play_32 : decode cX8_play 32 = .ok (.iload_n 1, 1) := by decide +kernel
theorem dX8_play_33 : decode cX8_play 33 = .ok (.laload, 1) := by decide +kernel
theorem dX8_play_34 : decode cX8_play 34 = .ok (.lstore_n 2, 1) := by decide +kernel
theorem dX8_play_35 : decode cX8_play 35 = .ok (.iconst 0, 1) := by decide +kernel
theorem dX8_play_36 : decode cX8_play 36 = .ok (.istore 4, 2) := by decide +kernel
theorem dX8_play_38 : decode cX8_play 38 = .ok (.iload 4, 2) := by decide +kernel
theorem dX8_play_40 : decode cX8_play 40 = .ok (.iconst 4, 1) := by decide +kernel
theorem dX8_play_41 : decode cX8_play 41 = .ok (.if_icmp .ge 36, 3) := by decide +kernel
theorem dX8_play_44 : decode cX8_play 44 = .ok (.aload_n 0, 1) := by decide +kernel
theorem dX8_play_45 : decode cX8_play 45 = .ok (.getfield 22, 3) := by decide +kernel
theorem dX8_play_48 : decode cX8_play 48 = .ok (.aload_n 0, 1) := by decide +kernel
theorem dX8_play_49 : decode cX8_play 49 = .ok (.getfield 10, 3) := by decide +kernel
theorem dX8_play_52 : decode cX8_play 52 = .ok (.iload 4, 2) := by decide +kernel
theorem dX8_play_54 : decode cX8_play 54 = .ok (.aload_n 0, 1) := by decide +kernel
theorem dX8_play_55 : decode cX8_play 55 = .ok (.getfield 10, 3) := by decide +kernel
theorem dX8_play_58 : decode cX8_play 58 = .ok (.invokevirtual 134, 3) := by decide +kernel
theorem dX8_play_61 : decode cX8_play 61 = .ok (.lload_n 2, 1) := by decide +kernel
theorem dX8_play_62 : decode cX8_play 62 = .ok (.invokevirtual 196, 3) := by decide +kernel
theorem dX8_play_65 : decode cX8_play 65 = .ok (.ifCond .ne 6, 3) := by decide +kernel
theorem dX8_play_68 : decode cX8_play 68 = .ok (.goto 9, 3) := by decide +kernel
theorem dX8_play_71 : decode cX8_play 71 = .ok (.iinc 4 1, 3) := by decide +kernel
theorem dX8_play_74 : decode cX8_play 74 = .ok (.goto (-36), 3) := by decide +kernel
theorem dX8_play_77 : decode cX8_play 77 = .ok (.aload_n 0, 1) := by decide +kernel
theorem dX8_play_78 : decode cX8_play 78 = .ok (.getfield 10, 3) := by decide +kernel
theorem dX8_play_81 : decode cX8_play 81 = .ok (.invokevirtual 134, 3) := by decide +kernel
theorem dX8_play_84 : decode cX8_play 84 = .ok (.lload_n 2, 1) := by decide +kernel
theorem dX8_play_85 : decode cX8_play 85 = .ok (.invokestatic 164, 3) := by decide +kernel
theorem dX8_play_88 : decode cX8_play 88 = .ok (.ireturn, 1) := by decide +kernel
set_option maxRecDepth 20000 in
theorem ggX8_fits_X6_hasShape : GoodIn wsX8_fits wsX6_hasShape := goodIn_r _ [8, 9, 80, 81, 82, 83, 84, 85, 86, 87, 88] (by decide +kernel) (by decide +kernel)
set_option maxRecDepth 20000 in
theorem gX8_fits_X6_hasShape : GoodIn wsX8_fits (wsV RX8 76 RX6 yX6_hasShape wsX6_hasShape) := goodIn_app (goodIn_of _ (by decide +kernel)) ggX8_fits_X6_hasShape
set_option maxRecDepth 20000 in
theorem ggX8_fits_X6_hasScene : GoodIn wsX8_fits wsX6_hasScene := goodIn_r _ [13, 14, 80, 81, 82, 83, 84, 85, 86, 87, 88] (by decide +kernel) (by decide +kernel)
set_option maxRecDepth 20000 in
theorem gX8_fits_X6_hasScene : GoodIn wsX8_fits (wsV RX8 157 RX6 yX6_hasScene wsX6_hasScene) := goodIn_app (goodIn_of _ (by decide +kernel)) ggX8_fits_X6_hasScene
set_option maxRecDepth 20000 in
theorem ggX8_fits_X8_finding : GoodIn wsX8_fits wsX8_finding := goodIn_r _ [19, 2, 20, 72, 73, 74, 75, 76, 77, 78, 79] (by decide +kernel) (by decide +kernel)
set_option maxRecDepth 20000 in
theorem gX8_fits_X8_finding : GoodIn wsX8_fits (wsV RX8 63 RX8 yX8_finding wsX8_finding) := goodIn_app (goodIn_of _ (by decide +kernel)) ggX8_fits_X8_finding
set_option maxRecDepth 20000 in
theorem ggX8_fits_X5_placingsWithin : GoodIn wsX8_fits wsX5_placingsWithin := goodIn_r _ [25, 26, 27, 28, 7, 29, 30, 31, 32, 33, 34, 35, 36, 37, 38, 39, 40, 41, 42, 43, 44, 45, 46, 47, 48, 49, 50, 51, 52, 53, 54, 55, 56, 57, 58, 59, 60, 61, 62, 63, 64, 65, 24, 66, 67, 68, 69, 70, 71, 80, 81, 82, 83, 84, 85, 86, 87, 88] (by decide +kernel) (by decide +kernel)
set_option maxRecDepth 20000 in
theorem gX8_fits_X5_placingsWithin : GoodIn wsX8_fits (wsV RX8 200 RX5 yX5_placingsWithin wsX5_placingsWithin) := goodIn_app (goodIn_of _ (by decide +kernel)) ggX8_fits_X5_placingsWithin
theorem dX8_fits_0 : decode cX8_fits 0 = .ok (.aload_n 0, 1) := by decide +kernel
theorem dX8_fits_1 : decode cX8_fits 1 = .ok (.getfield 10, 3) := by decide +kernel
theorem dX8_fits_4 : decode cX8_fits 4 = .ok (.iload_n 1, 1) := by decide +kernel
theorem dX8_fits_5 : decode cX8_fits 5 = .ok (.invokevirtual 76, 3) := by decide +kernel
theorem dX8_fits_8 : decode cX8_fits 8 = .ok (.ifCond .eq 14, 3) := by decide +kernel
theorem dX8_fits_11 : decode cX8_fits 11 = .ok (.aload_n 0, 1) := by decide +kernel
theorem dX8_fits_12 : decode cX8_fits 12 = .ok (.getfield 10, 3) := by decide +kernel
theorem dX8_fits_15 : decode cX8_fits 15 = .ok (.iload_n 2, 1) := by decide +kernel
theorem dX8_fits_16 : decode cX8_fits 16 = .ok (.invokevirtual 157, 3) := by decide +kernel
theorem dX8_fits_19 : decode cX8_fits 19 = .ok (.ifCond .ne 10, 3) := by decide +kernel
theorem dX8_fits_22 : decode cX8_fits 22 = .ok (.aload_n 0, 1) := by decide +kernel
theorem dX8_fits_23 : decode cX8_fits 23 = .ok (.ldc 62, 2) := by decide +kernel
theorem dX8_fits_25 : decode cX8_fits 25 = .ok (.invokevirtual 63, 3) := by decide +kernel
theorem dX8_fits_28 : decode cX8_fits 28 = .ok (.ireturn, 1) := by decide +kernel
theorem dX8_fits_29 : decode cX8_fits 29 = .ok (.aload_n 0, 1) := by decide +kernel
theorem dX8_fits_30 : decode cX8_fits 30 = .ok (.getfield 22, 3) := by decide +kernel
theorem dX8_fits_33 : decode cX8_fits 33 = .ok (.aload_n 0, 1) := by decide +kernel
theorem dX8_fits_34 : decode cX8_fits 34 = .ok (.getfield 10, 3) := by decide +kernel
theorem dX8_fits_37 : decode cX8_fits 37 = .ok (.iload_n 1, 1) := by decide +kernel
theorem dX8_fits_38 : decode cX8_fits 38 = .ok (.aload_n 0, 1) := by decide +kernel
theorem dX8_fits_39 : decode cX8_fits 39 = .ok (.getfield 10, 3) := by decide +kernel
theorem dX8_fits_42 : decode cX8_fits 42 = .ok (.getfield 160, 3) := by decide +kernel
theorem dX8_fits_45 : decode cX8_fits 45 = .ok (.iload_n 2, 1) := by decide +kernel
theorem dX8_fits_46 : decode cX8_fits 46 = .ok (.laload, 1) := by decide +kernel
theorem dX8_fits_47 : decode cX8_fits 47 = .ok (.invokevirtual 200, 3) := by decide +kernel
theorem dX8_fits_50 : decode cX8_fits 50 = .ok (.ireturn, 1) := by decide +kernel
set_option maxRecDepth 20000 in
theorem ggX8_taken_X6_hasScene : GoodIn wsX8_taken wsX6_hasScene := goodIn_r _ [7, 8, 39, 40, 41, 42, 43, 44, 45, 46, 47] (by decide +kernel) (by decide +kernel)
set_option maxRecDepth 20000 in
theorem gX8_taken_X6_hasScene : GoodIn wsX8_taken (wsV RX8 157 RX6 yX6_hasScene wsX6_hasScene) := goodIn_app (goodIn_of _ (by decide +kernel)) ggX8_taken_X6_hasScene
set_option maxRecDepth 20000 in
theorem ggX8_taken_X8_finding : GoodIn wsX8_taken wsX8_finding := goodIn_r _ [13, 2, 14, 31, 32, 33, 34, 35, 36, 37, 38] (by decide +kernel) (by decide +kernel)
set_option maxRecDepth 20000 in
theorem gX8_taken_X8_finding : GoodIn wsX8_taken (wsV RX8 63 RX8 yX8_finding wsX8_finding) := goodIn_app (goodIn_of _ (by decide +kernel)) ggX8_taken_X8_finding
set_option maxRecDepth 20000 in
theorem ggX8_taken_X6_offBetween : GoodIn wsX8_taken wsX6_offBetween := goodIn_r _ [18, 19, 20, 21, 22, 23, 24, 25, 26, 27, 28, 29, 30, 39, 40, 41, 42, 43, 44, 45, 46, 47] (by decide +kernel) (by decide +kernel)
set_option maxRecDepth 20000 in
theorem gX8_taken_X6_offBetween : GoodIn wsX8_taken (wsV RX8 207 RX6 yX6_offBetween wsX6_offBetween) := goodIn_app (goodIn_of _ (by decide +kernel)) ggX8_taken_X6_offBetween
theorem dX8_taken_0 : decode cX8_taken 0 = .ok (.aload_n 0, 1) := by decide +kernel
theorem dX8_taken_1 : decode cX8_taken 1 = .ok (.getfield 10, 3) := by decide +kernel
theorem dX8_taken_4 : decode cX8_taken 4 = .ok (.iload_n 1, 1) := by decide +kernel
theorem dX8_taken_5 : decode cX8_taken 5 = .ok (.invokevirtual 157, 3) := by decide +kernel
theorem dX8_taken_8 : decode cX8_taken 8 = .ok (.ifCond .eq 13, 3) := by decide +kernel
theorem dX8_taken_11 : decode cX8_taken 11 = .ok (.iload_n 2, 1) := by decide +kernel
theorem dX8_taken_12 : decode cX8_taken 12 = .ok (.ifCond .lt 9, 3) := by decide +kernel
theorem dX8_taken_15 : decode cX8_taken 15 = .ok (.iload_n 2, 1) := by decide +kernel
theorem dX8_taken_16 : decode cX8_taken 16 = .ok (.bipush 64, 2) := by decide +kernel
theorem dX8_taken_18 : decode cX8_taken 18 = .ok (.if_icmp .le 10, 3) := by decide +kernel
theorem dX8_taken_21 : decode cX8_taken 21 = .ok (.aload_n 0, 1) := by decide +kernel
theorem dX8_taken_22 : decode cX8_taken 22 = .ok (.ldc 62, 2) := by decide +kernel
theorem dX8_taken_24 : decode cX8_taken 24 = .ok (.invokevirtual 63, 3) := by decide +kernel
theorem dX8_taken_27 : decode cX8_taken 27 = .ok (.ireturn, 1) := by decide +kernel
theorem dX8_taken_28 : decode cX8_taken 28 = .ok (.iconst 0, 1) := by decide +kernel
theorem dX8_taken_29 : decode cX8_taken 29 = .ok (.istore_n 3, 1) := by decide +kernel
theorem dX8_taken_30 : decode cX8_taken 30 = .ok (.iconst 0, 1) := by decide +kernel
theorem dX8_taken_31 : decode cX8_taken 31 = .ok (.istore 4, 2) := by decide +kernel
theorem dX8_taken_33 : decode cX8_taken 33 = .ok (.iload 4, 2) := by decide +kernel
theorem dX8_taken_35 : decode cX8_taken 35 = .ok (.aload_n 0, 1) := by decide +kernel
theorem dX8_taken_36 : decode cX8_taken 36 = .ok (.getfield 10, 3) := by decide +kernel
theorem dX8_taken_39 : decode cX8_taken 39 = .ok (.getfield 204, 3) := by decide +kernel
theorem dX8_taken_42 : decode cX8_taken 42 = .ok (.if_icmp .ge 36, 3) := by decide +kernel
theorem dX8_taken_45 : decode cX8_taken 45 = .ok (.iload 4, 2) := by decide +kernel
theorem dX8_taken_47 : decode cX8_taken 47 = .ok (.iload_n 1, 1) := by decide +kernel
theorem dX8_taken_48 : decode cX8_taken 48 = .ok (.if_icmp .eq 24, 3) := by decide +kernel
theorem dX8_taken_51 : decode cX8_taken 51 = .ok (.aload_n 0, 1) := by decide +kernel
theorem dX8_taken_52 : decode cX8_taken 52 = .ok (.getfield 10, 3) := by decide +kernel
theorem dX8_taken_55 : decode cX8_taken 55 = .ok (.iload_n 1, 1) := by decide +kernel
theorem dX8_taken_56 : decode cX8_taken 56 = .ok (.iload 4, 2) := by decide +kernel
theorem dX8_taken_58 : decode cX8_taken 58 = .ok (.invokevirtual 207, 3) := by decide +kernel
theorem dX8_taken_61 : decode cX8_taken 61 = .ok (.iload_n 2, 1) := by decide +kernel
theorem dX8_taken_62 : decode cX8_taken 62 = .ok (.if_icmp .gt 10, 3) := by decide +kernel
theorem dX8_taken_65 : decode cX8_taken 65 = .ok (.iload_n 3, 1) := by decide +kernel
theorem dX8_taken_66 : decode cX8_taken 66 = .ok (.iconst 1, 1) := by decide +kernel
theorem dX8_taken_67 : decode cX8_taken 67 = .ok (.iload 4, 2) := by decide +kernel
theorem dX8_taken_69 : decode cX8_taken 69 = .ok (.ishl, 1) := by decide +kernel
theorem dX8_taken_70 : decode cX8_taken 70 = .ok (.ior, 1) := by decide +kernel
theorem dX8_taken_71 : decode cX8_taken 71 = .ok (.istore_n 3, 1) := by decide +kernel
theorem dX8_taken_72 : decode cX8_taken 72 = .ok (.iinc 4 1, 3) := by decide +kernel
theorem dX8_taken_75 : decode cX8_taken 75 = .ok (.goto (-42), 3) := by decide +kernel
theorem dX8_taken_78 : decode cX8_taken 78 = .ok (.iload_n 3, 1) := by decide +kernel
theorem dX8_taken_79 : decode cX8_taken 79 = .ok (.ireturn, 1) := by decide +kernel
set_option maxRecDepth 20000 in
theorem ggX8_seen_X6_darkCells : GoodIn wsX8_seen wsX6_darkCells := goodIn_r _ [7, 8, 9, 10, 6, 11, 12, 13, 14, 15, 16, 17, 18, 19, 20, 21, 22, 23, 24, 25, 26, 27, 28, 29, 30, 31, 32, 33, 34, 35, 36, 37, 38, 39, 40, 41, 42, 43, 44, 45, 46, 47, 48, 49, 50, 51, 52, 53, 54, 55, 56, 57, 58, 59, 60, 61, 62, 63, 64, 90, 91, 92, 93, 94, 95, 96, 97, 98] (by decide +kernel) (by decide +kernel)
set_option maxRecDepth 20000 in
theorem gX8_seen_X6_darkCells : GoodIn wsX8_seen (wsV RX8 134 RX6 yX6_darkCells wsX6_darkCells) := goodIn_app (goodIn_of _ (by decide +kernel)) ggX8_seen_X6_darkCells
set_option maxRecDepth 20000 in
theorem ggX8_seen_X1_cellsOff : GoodIn wsX8_seen wsX1_cellsOff := goodIn_r _ [67, 68, 69, 70, 71, 72, 73, 74] (by decide +kernel) (by decide +kernel)
set_option maxRecDepth 20000 in
theorem gX8_seen_X1_cellsOff : GoodIn wsX8_seen (va_wsS RX8 164 yX1_cellsOff wsX1_cellsOff) := goodIn_app (goodIn_of _ (by decide +kernel)) ggX8_seen_X1_cellsOff
set_option maxRecDepth 20000 in
theorem ggX8_seen_X8_finding : GoodIn wsX8_seen wsX8_finding := goodIn_r _ [79, 80, 81, 82, 83, 84, 85, 86, 87, 88, 89] (by decide +kernel) (by decide +kernel)
set_option maxRecDepth 20000 in
theorem gX8_seen_X8_finding : GoodIn wsX8_seen (wsV RX8 63 RX8 yX8_finding wsX8_finding) := goodIn_app (goodIn_of _ (by decide +kernel)) ggX8_seen_X8_finding
theorem dX8_seen_0 : decode cX8_seen 0 = .ok (.aload_n 0, 1) := by decide +kernel
theorem dX8_seen_1 : decode cX8_seen 1 = .ok (.getfield 10, 3) := by decide +kernel
theorem dX8_seen_4 : decode cX8_seen 4 = .ok (.invokevirtual 134, 3) := by decide +kernel
theorem dX8_seen_7 : decode cX8_seen 7 = .ok (.lstore_n 1, 1) := by decide +kernel
theorem dX8_seen_8 : decode cX8_seen 8 = .ok (.iconst (-1), 1) := by decide +kernel
theorem dX8_seen_9 : decode cX8_seen 9 = .ok (.istore_n 3, 1) := by decide +kernel
theorem dX8_seen_10 : decode cX8_seen 10 = .ok (.bipush 65, 2) := by decide +kernel
theorem dX8_seen_12 : decode cX8_seen 12 = .ok (.istore 4, 2) := by decide +kernel
theorem dX8_seen_14 : decode cX8_seen 14 = .ok (.iconst 0, 1) := by decide +kernel
theorem dX8_seen_15 : decode cX8_seen 15 = .ok (.istore 5, 2) := by decide +kernel
theorem dX8_seen_17 : decode cX8_seen 17 = .ok (.iload 5, 2) := by decide +kernel
theorem dX8_seen_19 : decode cX8_seen 19 = .ok (.aload_n 0, 1) := by decide +kernel
theorem dX8_seen_20 : decode cX8_seen 20 = .ok (.getfield 10, 3) := by decide +kernel
theorem dX8_seen_23 : decode cX8_seen 23 = .ok (.getfield 204, 3) := by decide +kernel
theorem dX8_seen_26 : decode cX8_seen 26 = .ok (.if_icmp .ge 39, 3) := by decide +kernel
theorem dX8_seen_29 : decode cX8_seen 29 = .ok (.lload_n 1, 1) := by decide +kernel
theorem dX8_seen_30 : decode cX8_seen 30 = .ok (.aload_n 0, 1) := by decide +kernel
theorem dX8_seen_31 : decode cX8_seen 31 = .ok (.getfield 10, 3) := by decide +kernel
theorem dX8_seen_34 : decode cX8_seen 34 = .ok (.getfield 160, 3) := by decide +kernel
theorem dX8_seen_37 : decode cX8_seen 37 = .ok (.iload 5, 2) := by decide +kernel
theorem dX8_seen_39 : decode cX8_seen 39 = .ok (.laload, 1) := by decide +kernel
theorem dX8_seen_40 : decode cX8_seen 40 = .ok (.invokestatic 164, 3) := by decide +kernel
theorem dX8_seen_43 : decode cX8_seen 43 = .ok (.istore 6, 2) := by decide +kernel
theorem dX8_seen_45 : decode cX8_seen 45 = .ok (.iload 6, 2) := by decide +kernel
theorem dX8_seen_47 : decode cX8_seen 47 = .ok (.iload 4, 2) := by decide +kernel
theorem dX8_seen_49 : decode cX8_seen 49 = .ok (.if_icmp .ge 10, 3) := by decide +kernel
theorem dX8_seen_52 : decode cX8_seen 52 = .ok (.iload 6, 2) := by decide +kernel
theorem dX8_seen_54 : decode cX8_seen 54 = .ok (.istore 4, 2) := by decide +kernel
theorem dX8_seen_56 : decode cX8_seen 56 = .ok (.iload 5, 2) := by decide +kernel
theorem dX8_seen_58 : decode cX8_seen 58 = .ok (.istore_n 3, 1) := by decide +kernel
theorem dX8_seen_59 : decode cX8_seen 59 = .ok (.iinc 5 1, 3) := by decide +kernel
theorem dX8_seen_62 : decode cX8_seen 62 = .ok (.goto (-45), 3) := by decide +kernel
theorem dX8_seen_65 : decode cX8_seen 65 = .ok (.iload_n 3, 1) := by decide +kernel
theorem dX8_seen_66 : decode cX8_seen 66 = .ok (.ifCond .ge 12, 3) := by decide +kernel
theorem dX8_seen_69 : decode cX8_seen 69 = .ok (.aload_n 0, 1) := by decide +kernel
theorem dX8_seen_70 : decode cX8_seen 70 = .ok (.ldc 149, 2) := by decide +kernel
theorem dX8_seen_72 : decode cX8_seen 72 = .ok (.invokevirtual 63, 3) := by decide +kernel
theorem dX8_seen_75 : decode cX8_seen 75 = .ok (.goto 4, 3) := by decide +kernel
theorem dX8_seen_78 : decode cX8_seen 78 = .ok (.iload_n 3, 1) := by decide +kernel
theorem dX8_seen_79 : decode cX8_seen 79 = .ok (.ireturn, 1) := by decide +kernel
set_option maxRecDepth 20000 in
theorem ggX8_order_X8_finding : GoodIn wsX8_order wsX8_finding := goodIn_r _ [10, 1, 11, 57, 58, 59, 60, 61, 62, 63, 64] (by decide +kernel) (by decide +kernel)
set_option maxRecDepth 20000 in
theorem gX8_order_X8_finding : GoodIn wsX8_order (wsV RX8 63 RX8 yX8_finding wsX8_finding) := goodIn_app (goodIn_of _ (by decide +kernel)) ggX8_order_X8_finding
set_option maxRecDepth 20000 in
theorem ggX8_order_X3_plan : GoodIn wsX8_order wsX3_plan := goodIn_r _ [16, 17, 18, 19, 20, 21, 22, 23, 24, 15, 25, 26, 27, 28, 29, 30, 31, 32, 33, 34, 35, 36, 37, 38, 39, 40, 41, 42, 43, 44, 45, 46, 47, 48, 49, 50, 51, 52, 53, 54, 55, 56, 65, 66, 67, 68, 69, 70, 71, 72, 73, 74, 75, 76] (by decide +kernel) (by decide +kernel)
set_option maxRecDepth 20000 in
theorem gX8_order_X3_plan : GoodIn wsX8_order (wsV RX8 211 RX3 yX3_plan wsX3_plan) := goodIn_app (goodIn_of _ (by decide +kernel)) ggX8_order_X3_plan
theorem dX8_order_0 : decode cX8_order 0 = .ok (.iload_n 1, 1) := by decide +kernel
theorem dX8_order_1 : decode cX8_order 1 = .ok (.iconst (-1), 1) := by decide +kernel
theorem dX8_order_2 : decode cX8_order 2 = .ok (.if_icmp .ge 10, 3) := by decide +kernel
theorem dX8_order_5 : decode cX8_order 5 = .ok (.aload_n 0, 1) := by decide +kernel
theorem dX8_order_6 : decode cX8_order 6 = .ok (.ldc 62, 2) := by decide +kernel
theorem dX8_order_8 : decode cX8_order 8 = .ok (.invokevirtual 63, 3) := by decide +kernel
theorem dX8_order_11 : decode cX8_order 11 = .ok (.ireturn, 1) := by decide +kernel
theorem dX8_order_12 : decode cX8_order 12 = .ok (.aload_n 0, 1) := by decide +kernel
theorem dX8_order_13 : decode cX8_order 13 = .ok (.getfield 10, 3) := by decide +kernel
theorem dX8_order_16 : decode cX8_order 16 = .ok (.getfield 204, 3) := by decide +kernel
theorem dX8_order_19 : decode cX8_order 19 = .ok (.bipush 6, 2) := by decide +kernel
theorem dX8_order_21 : decode cX8_order 21 = .ok (.if_icmp .le 10, 3) := by decide +kernel
theorem dX8_order_24 : decode cX8_order 24 = .ok (.aload_n 0, 1) := by decide +kernel
theorem dX8_order_25 : decode cX8_order 25 = .ok (.ldc 210, 2) := by decide +kernel
theorem dX8_order_27 : decode cX8_order 27 = .ok (.invokevirtual 63, 3) := by decide +kernel
theorem dX8_order_30 : decode cX8_order 30 = .ok (.ireturn, 1) := by decide +kernel
theorem dX8_order_31 : decode cX8_order 31 = .ok (.iload_n 1, 1) := by decide +kernel
theorem dX8_order_32 : decode cX8_order 32 = .ok (.aload_n 0, 1) := by decide +kernel
theorem dX8_order_33 : decode cX8_order 33 = .ok (.getfield 10, 3) := by decide +kernel
theorem dX8_order_36 : decode cX8_order 36 = .ok (.getfield 204, 3) := by decide +kernel
theorem dX8_order_39 : decode cX8_order 39 = .ok (.if_icmp .lt 10, 3) := by decide +kernel
theorem dX8_order_42 : decode cX8_order 42 = .ok (.aload_n 0, 1) := by decide +kernel
theorem dX8_order_43 : decode cX8_order 43 = .ok (.ldc 149, 2) := by decide +kernel
theorem dX8_order_45 : decode cX8_order 45 = .ok (.invokevirtual 63, 3) := by decide +kernel
theorem dX8_order_48 : decode cX8_order 48 = .ok (.ireturn, 1) := by decide +kernel
theorem dX8_order_49 : decode cX8_order 49 = .ok (.aload_n 0, 1) := by decide +kernel
theorem dX8_order_50 : decode cX8_order 50 = .ok (.getfield 29, 3) := by decide +kernel
theorem dX8_order_53 : decode cX8_order 53 = .ok (.aload_n 0, 1) := by decide +kernel
theorem dX8_order_54 : decode cX8_order 54 = .ok (.getfield 10, 3) := by decide +kernel
theorem dX8_order_57 : decode cX8_order 57 = .ok (.invokevirtual 211, 3) := by decide +kernel
theorem dX8_order_60 : decode cX8_order 60 = .ok (.iload_n 1, 1) := by decide +kernel
theorem dX8_order_61 : decode cX8_order 61 = .ok (.ifCond .ge 13, 3) := by decide +kernel
theorem dX8_order_64 : decode cX8_order 64 = .ok (.aload_n 0, 1) := by decide +kernel
theorem dX8_order_65 : decode cX8_order 65 = .ok (.getfield 29, 3) := by decide +kernel
theorem dX8_order_68 : decode cX8_order 68 = .ok (.getfield 215, 3) := by decide +kernel
theorem dX8_order_71 : decode cX8_order 71 = .ok (.goto 12, 3) := by decide +kernel
theorem dX8_order_74 : decode cX8_order 74 = .ok (.aload_n 0, 1) := by decide +kernel
theorem dX8_order_75 : decode cX8_order 75 = .ok (.getfield 29, 3) := by decide +kernel
theorem dX8_order_78 : decode cX8_order 78 = .ok (.getfield 218, 3) := by decide +kernel
theorem dX8_order_81 : decode cX8_order 81 = .ok (.iload_n 1, 1) := by decide +kernel
theorem dX8_order_82 : decode cX8_order 82 = .ok (.iaload, 1) := by decide +kernel
theorem dX8_order_83 : decode cX8_order 83 = .ok (.ireturn, 1) := by decide +kernel
set_option maxRecDepth 20000 in
theorem ggX8_closest_X6_offBetween : GoodIn wsX8_closest wsX6_offBetween := goodIn_r _ [11, 12, 13, 14, 15, 16, 17, 18, 19, 20, 21, 22, 23, 39, 40, 41, 42, 43, 44, 45, 46, 47] (by decide +kernel) (by decide +kernel)
set_option maxRecDepth 20000 in
theorem gX8_closest_X6_offBetween : GoodIn wsX8_closest (wsV RX8 207 RX6 yX6_offBetween wsX6_offBetween) := goodIn_app (goodIn_of _ (by decide +kernel)) ggX8_closest_X6_offBetween
set_option maxRecDepth 20000 in
theorem ggX8_closest_X8_finding : GoodIn wsX8_closest wsX8_finding := goodIn_r _ [28, 29, 30, 31, 32, 33, 34, 35, 36, 37, 38] (by decide +kernel) (by decide +kernel)
set_option maxRecDepth 20000 in
theorem gX8_closest_X8_finding : GoodIn wsX8_closest (wsV RX8 63 RX8 yX8_finding wsX8_finding) := goodIn_app (goodIn_of _ (by decide +kernel)) ggX8_closest_X8_finding
theorem dX8_closest_0 : decode cX8_closest 0 = .ok (.bipush 65, 2) := by decide +kernel
theorem dX8_closest_2 : decode cX8_closest 2 = .ok (.istore_n 1, 1) := by decide +kernel
theorem dX8_closest_3 : decode cX8_closest 3 = .ok (.iconst 0, 1) := by decide +kernel
theorem dX8_closest_4 : decode cX8_closest 4 = .ok (.istore_n 2, 1) := by decide +kernel
theorem dX8_closest_5 : decode cX8_closest 5 = .ok (.iload_n 2, 1) := by decide +kernel
theorem dX8_closest_6 : decode cX8_closest 6 = .ok (.aload_n 0, 1) := by decide +kernel
theorem dX8_closest_7 : decode cX8_closest 7 = .ok (.getfield 10, 3) := by decide +kernel
theorem dX8_closest_10 : decode cX8_closest 10 = .ok (.getfield 204, 3) := by decide +kernel
theorem dX8_closest_13 : decode cX8_closest 13 = .ok (.if_icmp .ge 44, 3) := by decide +kernel
theorem dX8_closest_16 : decode cX8_closest 16 = .ok (.iload_n 2, 1) := by decide +kernel
theorem dX8_closest_17 : decode cX8_closest 17 = .ok (.iconst 1, 1) := by decide +kernel
theorem dX8_closest_18 : decode cX8_closest 18 = .ok (.iadd, 1) := by decide +kernel
theorem dX8_closest_19 : decode cX8_closest 19 = .ok (.istore_n 3, 1) := by decide +kernel
theorem dX8_closest_20 : decode cX8_closest 20 = .ok (.iload_n 3, 1) := by decide +kernel
theorem dX8_closest_21 : decode cX8_closest 21 = .ok (.aload_n 0, 1) := by decide +kernel
theorem dX8_closest_22 : decode cX8_closest 22 = .ok (.getfield 10, 3) := by decide +kernel
theorem dX8_closest_25 : decode cX8_closest 25 = .ok (.getfield 204, 3) := by decide +kernel
theorem dX8_closest_28 : decode cX8_closest 28 = .ok (.if_icmp .ge 23, 3) := by decide +kernel
theorem dX8_closest_31 : decode cX8_closest 31 = .ok (.iload_n 1, 1) := by decide +kernel
theorem dX8_closest_32 : decode cX8_closest 32 = .ok (.aload_n 0, 1) := by decide +kernel
theorem dX8_closest_33 : decode cX8_closest 33 = .ok (.getfield 10, 3) := by decide +kernel
theorem dX8_closest_36 : decode cX8_closest 36 = .ok (.iload_n 2, 1) := by decide +kernel
theorem dX8_closest_37 : decode cX8_closest 37 = .ok (.iload_n 3, 1) := by decide +kernel
theorem dX8_closest_38 : decode cX8_closest 38 = .ok (.invokevirtual 207, 3) := by decide +kernel
theorem dX8_closest_41 : decode cX8_closest 41 = .ok (.invokestatic 221, 3) := by decide +kernel
theorem dX8_closest_44 : decode cX8_closest 44 = .ok (.istore_n 1, 1) := by decide +kernel
theorem dX8_closest_45 : decode cX8_closest 45 = .ok (.iinc 3 1, 3) := by decide +kernel
theorem dX8_closest_48 : decode cX8_closest 48 = .ok (.goto (-28), 3) := by decide +kernel
theorem dX8_closest_51 : decode cX8_closest 51 = .ok (.iinc 2 1, 3) := by decide +kernel
theorem dX8_closest_54 : decode cX8_closest 54 = .ok (.goto (-49), 3) := by decide +kernel
theorem dX8_closest_57 : decode cX8_closest 57 = .ok (.iload_n 1, 1) := by decide +kernel
theorem dX8_closest_58 : decode cX8_closest 58 = .ok (.bipush 64, 2) := by decide +kernel
theorem dX8_closest_60 : decode cX8_closest 60 = .ok (.if_icmp .le 12, 3) := by decide +kernel
theorem dX8_closest_63 : decode cX8_closest 63 = .ok (.aload_n 0, 1) := by decide +kernel
theorem dX8_closest_64 : decode cX8_closest 64 = .ok (.ldc 149, 2) := by decide +kernel
theorem dX8_closest_66 : decode cX8_closest 66 = .ok (.invokevirtual 63, 3) := by decide +kernel
theorem dX8_closest_69 : decode cX8_closest 69 = .ok (.goto 4, 3) := by decide +kernel
theorem dX8_closest_72 : decode cX8_closest 72 = .ok (.iload_n 1, 1) := by decide +kernel
theorem dX8_closest_73 : decode cX8_closest 73 = .ok (.ireturn, 1) := by decide +kernel
set_option maxRecDepth 20000 in
theorem ggX8_harmless_X6_wholeShapes : GoodIn wsX8_harmless wsX6_wholeShapes := goodIn_r _ [8, 9, 10, 107, 108, 109, 110, 111, 112, 113, 114, 115] (by decide +kernel) (by decide +kernel)
set_option maxRecDepth 20000 in
theorem gX8_harmless_X6_wholeShapes : GoodIn wsX8_harmless (wsV RX8 226 RX6 yX6_wholeShapes wsX6_wholeShapes) := goodIn_app (goodIn_of _ (by decide +kernel)) ggX8_harmless_X6_wholeShapes
set_option maxRecDepth 20000 in
theorem ggX8_harmless_X8_finding : GoodIn wsX8_harmless wsX8_finding := goodIn_r _ [15, 16, 17, 99, 100, 101, 102, 103, 104, 105, 106] (by decide +kernel) (by decide +kernel)
set_option maxRecDepth 20000 in
theorem gX8_harmless_X8_finding : GoodIn wsX8_harmless (wsV RX8 63 RX8 yX8_finding wsX8_finding) := goodIn_app (goodIn_of _ (by decide +kernel)) ggX8_harmless_X8_finding
set_option maxRecDepth 20000 in
theorem ggX8_harmless_X5_nearestOnes : GoodIn wsX8_harmless wsX5_nearestOnes := goodIn_r _ [22, 23, 24, 25, 26, 7, 27, 10, 28, 29, 30, 21, 31, 32, 33, 34, 35, 36, 37, 38, 39, 40, 41, 42, 43, 44, 45, 46, 47, 48, 49, 50, 51, 52, 53, 54, 55, 56, 57, 58, 59, 60, 61, 62, 63, 64, 65, 66, 67, 68, 69, 70, 71, 72, 73, 74, 75, 76, 77, 78, 79, 80, 81, 82, 83, 84, 85, 86, 87, 88, 89, 90, 91, 107, 108, 109, 110, 111, 112, 113, 114, 115, 116, 117] (by decide +kernel) (by decide +kernel)
set_option maxRecDepth 20000 in
theorem gX8_harmless_X5_nearestOnes : GoodIn wsX8_harmless (wsV RX8 184 RX5 yX5_nearestOnes wsX5_nearestOnes) := goodIn_app (goodIn_of _ (by decide +kernel)) ggX8_harmless_X5_nearestOnes
set_option maxRecDepth 20000 in
theorem ggX8_harmless_J6_bitCount_0f7a4 : GoodIn wsX8_harmless wsJ6_bitCount_0f7a4 := goodIn_r _ [95, 96, 97, 98] (by decide +kernel) (by decide +kernel)
set_option maxRecDepth 20000 in
theorem gX8_harmless_J6_bitCount_0f7a4 : GoodIn wsX8_harmless (va_wsS RX8 229 yJ6_bitCount_0f7a4 wsJ6_bitCount_0f7a4) := goodIn_app (goodIn_of _ (by decide +kernel)) ggX8_harmless_J6_bitCount_0f7a4
theorem dX8_harmless_0 : decode cX8_harmless 0 = .ok (.aload_n 0, 1) := by decide +kernel
theorem dX8_harmless_1 : decode cX8_harmless 1 = .ok (.getfield 10, 3) := by decide +kernel
theorem dX8_harmless_4 : decode cX8_harmless 4 = .ok (.invokevirtual 226, 3) := by decide +kernel
theorem dX8_harmless_7 : decode cX8_harmless 7 = .ok (.istore_n 1, 1) := by decide +kernel
theorem dX8_harmless_8 : decode cX8_harmless 8 = .ok (.aload_n 0, 1) := by decide +kernel
theorem dX8_harmless_9 : decode cX8_harmless 9 = .ok (.getfield 10, 3) := by decide +kernel
theorem dX8_harmless_12 : decode cX8_harmless 12 = .ok (.getfield 204, 3) := by decide +kernel
theorem dX8_harmless_15 : decode cX8_harmless 15 = .ok (.ifCond .eq 7, 3) := by decide +kernel
theorem dX8_harmless_18 : decode cX8_harmless 18 = .ok (.iload_n 1, 1) := by decide +kernel
theorem dX8_harmless_19 : decode cX8_harmless 19 = .ok (.ifCond .ne 10, 3) := by decide +kernel
theorem dX8_harmless_22 : decode cX8_harmless 22 = .ok (.aload_n 0, 1) := by decide +kernel
theorem dX8_harmless_23 : decode cX8_harmless 23 = .ok (.ldc 149, 2) := by decide +kernel
theorem dX8_harmless_25 : decode cX8_harmless 25 = .ok (.invokevirtual 63, 3) := by decide +kernel
theorem dX8_harmless_28 : decode cX8_harmless 28 = .ok (.ireturn, 1) := by decide +kernel
theorem dX8_harmless_29 : decode cX8_harmless 29 = .ok (.iconst 0, 1) := by decide +kernel
theorem dX8_harmless_30 : decode cX8_harmless 30 = .ok (.istore_n 2, 1) := by decide +kernel
theorem dX8_harmless_31 : decode cX8_harmless 31 = .ok (.iconst 0, 1) := by decide +kernel
theorem dX8_harmless_32 : decode cX8_harmless 32 = .ok (.istore_n 3, 1) := by decide +kernel
theorem dX8_harmless_33 : decode cX8_harmless 33 = .ok (.iload_n 3, 1) := by decide +kernel
theorem dX8_harmless_34 : decode cX8_harmless 34 = .ok (.aload_n 0, 1) := by decide +kernel
theorem dX8_harmless_35 : decode cX8_harmless 35 = .ok (.getfield 10, 3) := by decide +kernel
theorem dX8_harmless_38 : decode cX8_harmless 38 = .ok (.getfield 204, 3) := by decide +kernel
theorem dX8_harmless_41 : decode cX8_harmless 41 = .ok (.if_icmp .ge 37, 3) := by decide +kernel
theorem dX8_harmless_44 : decode cX8_harmless 44 = .ok (.aload_n 0, 1) := by decide +kernel
theorem dX8_harmless_45 : decode cX8_harmless 45 = .ok (.getfield 22, 3) := by decide +kernel
theorem dX8_harmless_48 : decode cX8_harmless 48 = .ok (.aload_n 0, 1) := by decide +kernel
theorem dX8_harmless_49 : decode cX8_harmless 49 = .ok (.getfield 10, 3) := by decide +kernel
theorem dX8_harmless_52 : decode cX8_harmless 52 = .ok (.iload_n 3, 1) := by decide +kernel
theorem dX8_harmless_53 : decode cX8_harmless 53 = .ok (.invokevirtual 184, 3) := by decide +kernel
theorem dX8_harmless_56 : decode cX8_harmless 56 = .ok (.istore 4, 2) := by decide +kernel
theorem dX8_harmless_58 : decode cX8_harmless 58 = .ok (.iload 4, 2) := by decide +kernel
theorem dX8_harmless_60 : decode cX8_harmless 60 = .ok (.invokestatic 229, 3) := by decide +kernel
theorem dX8_harmless_63 : decode cX8_harmless 63 = .ok (.iconst 1, 1) := by decide +kernel
theorem dX8_harmless_64 : decode cX8_harmless 64 = .ok (.if_icmp .ne 8, 3) := by decide +kernel
theorem dX8_harmless_67 : decode cX8_harmless 67 = .ok (.iload_n 2, 1) := by decide +kernel
theorem dX8_harmless_68 : decode cX8_harmless 68 = .ok (.iload 4, 2) := by decide +kernel
theorem dX8_harmless_70 : decode cX8_harmless 70 = .ok (.ior, 1) := by decide +kernel
theorem dX8_harmless_71 : decode cX8_harmless 71 = .ok (.istore_n 2, 1) := by decide +kernel
theorem dX8_harmless_72 : decode cX8_harmless 72 = .ok (.iinc 3 1, 3) := by decide +kernel
theorem dX8_harmless_75 : decode cX8_harmless 75 = .ok (.goto (-42), 3) := by decide +kernel
theorem dX8_harmless_78 : decode cX8_harmless 78 = .ok (.iload_n 1, 1) := by decide +kernel
theorem dX8_harmless_79 : decode cX8_harmless 79 = .ok (.iload_n 2, 1) := by decide +kernel
theorem dX8_harmless_80 : decode cX8_harmless 80 = .ok (.iconst (-1), 1) := by decide +kernel
theorem dX8_harmless_81 : decode cX8_harmless 81 = .ok (.ixor, 1) := by decide +kernel
theorem dX8_harmless_82 : decode cX8_harmless 82 = .ok (.iand, 1) := by decide +kernel
theorem dX8_harmless_83 : decode cX8_harmless 83 = .ok (.ireturn, 1) := by decide +kernel
set_option maxRecDepth 20000 in
theorem ggX8_feed_X8_finding : GoodIn wsX8_feed wsX8_finding := goodIn_r _ [8, 1, 9, 21, 22, 23, 24, 25, 26, 27, 28] (by decide +kernel) (by decide +kernel)
set_option maxRecDepth 20000 in
theorem gX8_feed_X8_finding : GoodIn wsX8_feed (wsV RX8 63 RX8 yX8_finding wsX8_finding) := goodIn_app (goodIn_of _ (by decide +kernel)) ggX8_feed_X8_finding
set_option maxRecDepth 20000 in
theorem ggX8_feed_X7_hasRoomFor : GoodIn wsX8_feed wsX7_hasRoomFor := goodIn_r _ [14, 15, 35, 36] (by decide +kernel) (by decide +kernel)
set_option maxRecDepth 20000 in
theorem gX8_feed_X7_hasRoomFor : GoodIn wsX8_feed (wsV RX8 236 RX7 yX7_hasRoomFor wsX7_hasRoomFor) := goodIn_app (goodIn_of _ (by decide +kernel)) ggX8_feed_X7_hasRoomFor
set_option maxRecDepth 20000 in
theorem ggX8_feed_X7_add : GoodIn wsX8_feed wsX7_add := goodIn_r _ [19, 20, 15, 35, 36] (by decide +kernel) (by decide +kernel)
set_option maxRecDepth 20000 in
theorem gX8_feed_X7_add : GoodIn wsX8_feed (wsV RX8 241 RX7 yX7_add wsX7_add) := goodIn_app (goodIn_of _ (by decide +kernel)) ggX8_feed_X7_add
theorem dX8_feed_0 : decode cX8_feed 0 = .ok (.iload_n 2, 1) := by decide +kernel
theorem dX8_feed_1 : decode cX8_feed 1 = .ok (.iconst 1, 1) := by decide +kernel
theorem dX8_feed_2 : decode cX8_feed 2 = .ok (.if_icmp .lt 8, 3) := by decide +kernel
theorem dX8_feed_5 : decode cX8_feed 5 = .ok (.iload_n 2, 1) := by decide +kernel
theorem dX8_feed_6 : decode cX8_feed 6 = .ok (.iconst 4, 1) := by decide +kernel
theorem dX8_feed_7 : decode cX8_feed 7 = .ok (.if_icmp .le 10, 3) := by decide +kernel
theorem dX8_feed_10 : decode cX8_feed 10 = .ok (.aload_n 0, 1) := by decide +kernel
theorem dX8_feed_11 : decode cX8_feed 11 = .ok (.ldc 62, 2) := by decide +kernel
theorem dX8_feed_13 : decode cX8_feed 13 = .ok (.invokevirtual 63, 3) := by decide +kernel
theorem dX8_feed_16 : decode cX8_feed 16 = .ok (.ireturn, 1) := by decide +kernel
theorem dX8_feed_17 : decode cX8_feed 17 = .ok (.aload_n 0, 1) := by decide +kernel
theorem dX8_feed_18 : decode cX8_feed 18 = .ok (.getfield 36, 3) := by decide +kernel
theorem dX8_feed_21 : decode cX8_feed 21 = .ok (.getfield 232, 3) := by decide +kernel
theorem dX8_feed_24 : decode cX8_feed 24 = .ok (.iload_n 2, 1) := by decide +kernel
theorem dX8_feed_25 : decode cX8_feed 25 = .ok (.invokevirtual 236, 3) := by decide +kernel
theorem dX8_feed_28 : decode cX8_feed 28 = .ok (.ifCond .ne 10, 3) := by decide +kernel
theorem dX8_feed_31 : decode cX8_feed 31 = .ok (.aload_n 0, 1) := by decide +kernel
theorem dX8_feed_32 : decode cX8_feed 32 = .ok (.ldc 71, 2) := by decide +kernel
theorem dX8_feed_34 : decode cX8_feed 34 = .ok (.invokevirtual 63, 3) := by decide +kernel
theorem dX8_feed_37 : decode cX8_feed 37 = .ok (.ireturn, 1) := by decide +kernel
theorem dX8_feed_38 : decode cX8_feed 38 = .ok (.iload_n 2, 1) := by decide +kernel
theorem dX8_feed_39 : decode cX8_feed 39 = .ok (.iconst 1, 1) := by decide +kernel
theorem dX8_feed_40 : decode cX8_feed 40 = .ok (.isub, 1) := by decide +kernel
theorem dX8_feed_41 : decode cX8_feed 41 = .ok (.istore_n 3, 1) := by decide +kernel
theorem dX8_feed_42 : decode cX8_feed 42 = .ok (.iload_n 3, 1) := by decide +kernel
theorem dX8_feed_43 : decode cX8_feed 43 = .ok (.ifCond .lt 25, 3) := by decide +kernel
theorem dX8_feed_46 : decode cX8_feed 46 = .ok (.aload_n 0, 1) := by decide +kernel
theorem dX8_feed_47 : decode cX8_feed 47 = .ok (.getfield 36, 3) := by decide +kernel
theorem dX8_feed_50 : decode cX8_feed 50 = .ok (.getfield 232, 3) := by decide +kernel
theorem dX8_feed_53 : decode cX8_feed 53 = .ok (.iload_n 1, 1) := by decide +kernel
theorem dX8_feed_54 : decode cX8_feed 54 = .ok (.bipush 8, 2) := by decide +kernel
theorem dX8_feed_56 : decode cX8_feed 56 = .ok (.iload_n 3, 1) := by decide +kernel
theorem dX8_feed_57 : decode cX8_feed 57 = .ok (.imul, 1) := by decide +kernel
theorem dX8_feed_58 : decode cX8_feed 58 = .ok (.ishr, 1) := by decide +kernel
theorem dX8_feed_59 : decode cX8_feed 59 = .ok (.invokevirtual 241, 3) := by decide +kernel
theorem dX8_feed_62 : decode cX8_feed 62 = .ok (.iinc 3 (-1), 3) := by decide +kernel
theorem dX8_feed_65 : decode cX8_feed 65 = .ok (.goto (-23), 3) := by decide +kernel
theorem dX8_feed_68 : decode cX8_feed 68 = .ok (.aload_n 0, 1) := by decide +kernel
theorem dX8_feed_69 : decode cX8_feed 69 = .ok (.getfield 36, 3) := by decide +kernel
theorem dX8_feed_72 : decode cX8_feed 72 = .ok (.getfield 232, 3) := by decide +kernel
theorem dX8_feed_75 : decode cX8_feed 75 = .ok (.getfield 244, 3) := by decide +kernel
theorem dX8_feed_78 : decode cX8_feed 78 = .ok (.ireturn, 1) := by decide +kernel
theorem dX8_wipe_0 : decode cX8_wipe 0 = .ok (.aload_n 0, 1) := by decide +kernel
theorem dX8_wipe_1 : decode cX8_wipe 1 = .ok (.getfield 36, 3) := by decide +kernel
theorem dX8_wipe_4 : decode cX8_wipe 4 = .ok (.getfield 232, 3) := by decide +kernel
theorem dX8_wipe_7 : decode cX8_wipe 7 = .ok (.getfield 244, 3) := by decide +kernel
theorem dX8_wipe_10 : decode cX8_wipe 10 = .ok (.istore_n 1, 1) := by decide +kernel
theorem dX8_wipe_11 : decode cX8_wipe 11 = .ok (.aload_n 0, 1) := by decide +kernel
theorem dX8_wipe_12 : decode cX8_wipe 12 = .ok (.getfield 36, 3) := by decide +kernel
theorem dX8_wipe_15 : decode cX8_wipe 15 = .ok (.getfield 232, 3) := by decide +kernel
theorem dX8_wipe_18 : decode cX8_wipe 18 = .ok (.iconst 0, 1) := by decide +kernel
theorem dX8_wipe_19 : decode cX8_wipe 19 = .ok (.putfield 244, 3) := by decide +kernel
theorem dX8_wipe_22 : decode cX8_wipe 22 = .ok (.iload_n 1, 1) := by decide +kernel
theorem dX8_wipe_23 : decode cX8_wipe 23 = .ok (.ireturn, 1) := by decide +kernel
set_option maxRecDepth 20000 in
theorem ggX8_text_X6_takeAll : GoodIn wsX8_text wsX6_takeAll := goodIn_r _ [7, 8, 9, 10, 11, 12, 13, 14, 15, 16, 17, 18, 19, 20, 202, 203, 204, 205, 206, 207, 208, 209, 210] (by decide +kernel) (by decide +kernel)
set_option maxRecDepth 20000 in
theorem gX8_text_X6_takeAll : GoodIn wsX8_text (wsV RX8 250 RX6 yX6_takeAll wsX6_takeAll) := goodIn_app (goodIn_of _ (by decide +kernel)) ggX8_text_X6_takeAll
set_option maxRecDepth 20000 in
theorem ggX8_text_X4_perform : GoodIn wsX8_text wsX4_perform := goodIn_r _ [25, 26, 27, 28, 29, 30, 31, 24, 32, 33, 34, 35, 36, 37, 38, 39, 40, 41, 42, 43, 44, 45, 46, 47, 48, 49, 50, 51, 52, 53, 54, 55, 56, 57, 58, 59, 60, 61, 62, 63, 64, 65, 66, 67, 68, 69, 70, 71, 72, 73, 74, 75, 76, 77, 78, 79, 80, 81, 82, 83, 84, 85, 86, 87, 88, 89, 90, 91, 92, 93, 94, 95, 96, 97, 98, 99, 100, 101, 102, 103, 104, 105, 106, 6, 107, 8, 108, 109, 110, 111, 112, 113, 114, 115, 9, 14, 116, 117, 118, 119, 120, 121, 122, 123, 18, 124, 125, 126, 127, 19, 128, 129, 130, 131, 132, 133, 134, 135, 136, 137, 138, 139, 16, 140, 141, 142, 143, 144, 145, 146, 147, 148, 149, 150, 151, 152, 153, 154, 155, 156, 157, 158, 159, 160, 161, 162, 163, 164, 165, 166, 167, 168, 17, 169, 170, 171, 172, 173, 174, 175, 176, 15, 177, 178, 179, 180, 181, 182, 183, 184, 185, 194, 195, 196, 197, 198, 199, 200, 201, 202, 203, 204, 205, 206, 207, 208, 209, 210] (by decide +kernel) (by decide +kernel)
set_option maxRecDepth 20000 in
theorem gX8_text_X4_perform : GoodIn wsX8_text (wsV RX8 253 RX4 yX4_perform wsX4_perform) := goodIn_app (goodIn_of _ (by decide +kernel)) ggX8_text_X4_perform
theorem dX8_text_0 : decode cX8_text 0 = .ok (.aload_n 0, 1) := by decide +kernel
theorem dX8_text_1 : decode cX8_text 1 = .ok (.getfield 36, 3) := by decide +kernel
theorem dX8_text_4 : decode cX8_text 4 = .ok (.getfield 247, 3) := by decide +kernel
theorem dX8_text_7 : decode cX8_text 7 = .ok (.aload_n 0, 1) := by decide +kernel
theorem dX8_text_8 : decode cX8_text 8 = .ok (.getfield 10, 3) := by decide +kernel
theorem dX8_text_11 : decode cX8_text 11 = .ok (.invokevirtual 250, 3) := by decide +kernel
theorem dX8_text_14 : decode cX8_text 14 = .ok (.aload_n 0, 1) := by decide +kernel
theorem dX8_text_15 : decode cX8_text 15 = .ok (.getfield 36, 3) := by decide +kernel
theorem dX8_text_18 : decode cX8_text 18 = .ok (.invokevirtual 253, 3) := by decide +kernel
theorem dX8_text_21 : decode cX8_text 21 = .ok (.istore_n 1, 1) := by decide +kernel
theorem dX8_text_22 : decode cX8_text 22 = .ok (.iload_n 1, 1) := by decide +kernel
theorem dX8_text_23 : decode cX8_text 23 = .ok (.ifCond .le 17, 3) := by decide +kernel
theorem dX8_text_26 : decode cX8_text 26 = .ok (.aload_n 0, 1) := by decide +kernel
theorem dX8_text_27 : decode cX8_text 27 = .ok (.getfield 10, 3) := by decide +kernel
theorem dX8_text_30 : decode cX8_text 30 = .ok (.aload_n 0, 1) := by decide +kernel
theorem dX8_text_31 : decode cX8_text 31 = .ok (.getfield 36, 3) := by decide +kernel
theorem dX8_text_34 : decode cX8_text 34 = .ok (.getfield 247, 3) := by decide +kernel
theorem dX8_text_37 : decode cX8_text 37 = .ok (.invokevirtual 250, 3) := by decide +kernel
theorem dX8_text_40 : decode cX8_text 40 = .ok (.aload_n 0, 1) := by decide +kernel
theorem dX8_text_41 : decode cX8_text 41 = .ok (.getfield 36, 3) := by decide +kernel
theorem dX8_text_44 : decode cX8_text 44 = .ok (.getfield 232, 3) := by decide +kernel
theorem dX8_text_47 : decode cX8_text 47 = .ok (.iconst 0, 1) := by decide +kernel
theorem dX8_text_48 : decode cX8_text 48 = .ok (.putfield 244, 3) := by decide +kernel
theorem dX8_text_51 : decode cX8_text 51 = .ok (.iload_n 1, 1) := by decide +kernel
theorem dX8_text_52 : decode cX8_text 52 = .ok (.ireturn, 1) := by decide +kernel
set_option maxRecDepth 20000 in
theorem ggX8_sheet_X8_paperAt : GoodIn wsX8_sheet wsX8_paperAt := goodIn_r _ [7, 8, 28, 29, 30, 31, 32, 33, 34, 35] (by decide +kernel) (by decide +kernel)
set_option maxRecDepth 20000 in
theorem gX8_sheet_X8_paperAt : GoodIn wsX8_sheet (wsV RX8 256 RX8 yX8_paperAt wsX8_paperAt) := goodIn_app (goodIn_of _ (by decide +kernel)) ggX8_sheet_X8_paperAt
set_option maxRecDepth 20000 in
theorem ggX8_sheet_X8_isWidth : GoodIn wsX8_sheet wsX8_isWidth := goodIn_r _ [11] (by decide +kernel) (by decide +kernel)
set_option maxRecDepth 20000 in
theorem gX8_sheet_X8_isWidth : GoodIn wsX8_sheet (va_wsS RX8 260 yX8_isWidth wsX8_isWidth) := goodIn_app (goodIn_of _ (by decide +kernel)) ggX8_sheet_X8_isWidth
set_option maxRecDepth 20000 in
theorem ggX8_sheet_X8_finding : GoodIn wsX8_sheet wsX8_finding := goodIn_r _ [15, 1, 16, 28, 29, 30, 31, 32, 33, 34, 35] (by decide +kernel) (by decide +kernel)
set_option maxRecDepth 20000 in
theorem gX8_sheet_X8_finding : GoodIn wsX8_sheet (wsV RX8 63 RX8 yX8_finding wsX8_finding) := goodIn_app (goodIn_of _ (by decide +kernel)) ggX8_sheet_X8_finding
set_option maxRecDepth 20000 in
theorem ggX8_sheet_X2_renew : GoodIn wsX8_sheet wsX2_renew := goodIn_r _ [21, 22, 23, 24, 25, 26, 27] (by decide +kernel) (by decide +kernel)
set_option maxRecDepth 20000 in
theorem gX8_sheet_X2_renew : GoodIn wsX8_sheet (wsV RX8 263 RX2 yX2_renew wsX2_renew) := goodIn_app (goodIn_of _ (by decide +kernel)) ggX8_sheet_X2_renew
theorem dX8_sheet_0 : decode cX8_sheet 0 = .ok (.aload_n 0, 1) := by decide +kernel
theorem dX8_sheet_1 : decode cX8_sheet 1 = .ok (.iload_n 1, 1) := by decide +kernel
theorem dX8_sheet_2 : decode cX8_sheet 2 = .ok (.invokevirtual 256, 3) := by decide +kernel
theorem dX8_sheet_5 : decode cX8_sheet 5 = .ok (.astore 4, 2) := by decide +kernel
theorem dX8_sheet_7 : decode cX8_sheet 7 = .ok (.aload 4, 2) := by decide +kernel
theorem dX8_sheet_9 : decode cX8_sheet 9 = .ok (.ifnull 10, 3) := by decide +kernel
theorem dX8_sheet_12 : decode cX8_sheet 12 = .ok (.iload_n 2, 1) := by decide +kernel
theorem dX8_sheet_13 : decode cX8_sheet 13 = .ok (.invokestatic 260, 3) := by decide +kernel
theorem dX8_sheet_16 : decode cX8_sheet 16 = .ok (.ifCond .ne 10, 3) := by decide +kernel
theorem dX8_sheet_19 : decode cX8_sheet 19 = .ok (.aload_n 0, 1) := by decide +kernel
theorem dX8_sheet_20 : decode cX8_sheet 20 = .ok (.ldc 62, 2) := by decide +kernel
theorem dX8_sheet_22 : decode cX8_sheet 22 = .ok (.invokevirtual 63, 3) := by decide +kernel
theorem dX8_sheet_25 : decode cX8_sheet 25 = .ok (.ireturn, 1) := by decide +kernel
theorem dX8_sheet_26 : decode cX8_sheet 26 = .ok (.iload_n 3, 1) := by decide +kernel
theorem dX8_sheet_27 : decode cX8_sheet 27 = .ok (.ifCond .ge 10, 3) := by decide +kernel
theorem dX8_sheet_30 : decode cX8_sheet 30 = .ok (.aload_n 0, 1) := by decide +kernel
theorem dX8_sheet_31 : decode cX8_sheet 31 = .ok (.ldc 210, 2) := by decide +kernel
theorem dX8_sheet_33 : decode cX8_sheet 33 = .ok (.invokevirtual 63, 3) := by decide +kernel
theorem dX8_sheet_36 : decode cX8_sheet 36 = .ok (.ireturn, 1) := by decide +kernel
theorem dX8_sheet_37 : decode cX8_sheet 37 = .ok (.iload_n 3, 1) := by decide +kernel
theorem dX8_sheet_38 : decode cX8_sheet 38 = .ok (.bipush 40, 2) := by decide +kernel
theorem dX8_sheet_40 : decode cX8_sheet 40 = .ok (.if_icmp .le 10, 3) := by decide +kernel
theorem dX8_sheet_43 : decode cX8_sheet 43 = .ok (.aload_n 0, 1) := by decide +kernel
theorem dX8_sheet_44 : decode cX8_sheet 44 = .ok (.ldc 62, 2) := by decide +kernel
theorem dX8_sheet_46 : decode cX8_sheet 46 = .ok (.invokevirtual 63, 3) := by decide +kernel
theorem dX8_sheet_49 : decode cX8_sheet 49 = .ok (.ireturn, 1) := by decide +kernel
theorem dX8_sheet_50 : decode cX8_sheet 50 = .ok (.aload 4, 2) := by decide +kernel
theorem dX8_sheet_52 : decode cX8_sheet 52 = .ok (.iload_n 2, 1) := by decide +kernel
theorem dX8_sheet_53 : decode cX8_sheet 53 = .ok (.iload_n 2, 1) := by decide +kernel
theorem dX8_sheet_54 : decode cX8_sheet 54 = .ok (.ifCond .ne 7, 3) := by decide +kernel
theorem dX8_sheet_57 : decode cX8_sheet 57 = .ok (.iconst 0, 1) := by decide +kernel
theorem dX8_sheet_58 : decode cX8_sheet 58 = .ok (.goto 4, 3) := by decide +kernel
theorem dX8_sheet_61 : decode cX8_sheet 61 = .ok (.iload_n 3, 1) := by decide +kernel
theorem dX8_sheet_62 : decode cX8_sheet 62 = .ok (.invokevirtual 263, 3) := by decide +kernel
theorem dX8_sheet_65 : decode cX8_sheet 65 = .ok (.aload 4, 2) := by decide +kernel
theorem dX8_sheet_67 : decode cX8_sheet 67 = .ok (.getfield 267, 3) := by decide +kernel
theorem dX8_sheet_70 : decode cX8_sheet 70 = .ok (.ireturn, 1) := by decide +kernel
set_option maxRecDepth 20000 in
theorem ggX8_write_X8_paperAt : GoodIn wsX8_write wsX8_paperAt := goodIn_r _ [7, 8, 28, 29, 30, 31, 32, 33, 34, 35] (by decide +kernel) (by decide +kernel)
set_option maxRecDepth 20000 in
theorem gX8_write_X8_paperAt : GoodIn wsX8_write (wsV RX8 256 RX8 yX8_paperAt wsX8_paperAt) := goodIn_app (goodIn_of _ (by decide +kernel)) ggX8_write_X8_paperAt
set_option maxRecDepth 20000 in
theorem ggX8_write_X8_finding : GoodIn wsX8_write wsX8_finding := goodIn_r _ [12, 1, 13, 28, 29, 30, 31, 32, 33, 34, 35] (by decide +kernel) (by decide +kernel)
set_option maxRecDepth 20000 in
theorem gX8_write_X8_finding : GoodIn wsX8_write (wsV RX8 63 RX8 yX8_finding wsX8_finding) := goodIn_app (goodIn_of _ (by decide +kernel)) ggX8_write_X8_finding
set_option maxRecDepth 20000 in
theorem ggX8_write_X2_isMissing : GoodIn wsX8_write wsX2_isMissing := goodIn_r _ [18, 19, 25, 26, 27] (by decide +kernel) (by decide +kernel)
set_option maxRecDepth 20000 in
theorem gX8_write_X2_isMissing : GoodIn wsX8_write (wsV RX8 268 RX2 yX2_isMissing wsX2_isMissing) := goodIn_app (goodIn_of _ (by decide +kernel)) ggX8_write_X2_isMissing
set_option maxRecDepth 20000 in
theorem ggX8_write_X2_put : GoodIn wsX8_write wsX2_put := goodIn_r _ [23, 24, 19, 25, 26, 27] (by decide +kernel) (by decide +kernel)
set_option maxRecDepth 20000 in
theorem gX8_write_X2_put : GoodIn wsX8_write (wsV RX8 275 RX2 yX2_put wsX2_put) := goodIn_app (goodIn_of _ (by decide +kernel)) ggX8_write_X2_put
theorem dX8_write_0 : decode cX8_write 0 = .ok (.aload_n 0, 1) := by decide +kernel
theorem dX8_write_1 : decode cX8_write 1 = .ok (.iload_n 1, 1) := by decide +kernel
theorem dX8_write_2 : decode cX8_write 2 = .ok (.invokevirtual 256, 3) := by decide +kernel
theorem dX8_write_5 : decode cX8_write 5 = .ok (.astore 5, 2) := by decide +kernel
theorem dX8_write_7 : decode cX8_write 7 = .ok (.aload 5, 2) := by decide +kernel
theorem dX8_write_9 : decode cX8_write 9 = .ok (.ifnonnull 11, 3) := by decide +kernel
theorem dX8_write_12 : decode cX8_write 12 = .ok (.aload_n 0, 1) := by decide +kernel
theorem dX8_write_13 : decode cX8_write 13 = .ok (.ldc 62, 2) := by decide +kernel
theorem dX8_write_15 : decode cX8_write 15 = .ok (.invokevirtual 63, 3) := by decide +kernel
theorem dX8_write_18 : decode cX8_write 18 = .ok (.i2l, 1) := by decide +kernel
theorem dX8_write_19 : decode cX8_write 19 = .ok (.lreturn, 1) := by decide +kernel
theorem dX8_write_20 : decode cX8_write 20 = .ok (.aload 5, 2) := by decide +kernel
theorem dX8_write_22 : decode cX8_write 22 = .ok (.invokevirtual 268, 3) := by decide +kernel
theorem dX8_write_25 : decode cX8_write 25 = .ok (.ifCond .eq 12, 3) := by decide +kernel
theorem dX8_write_28 : decode cX8_write 28 = .ok (.aload_n 0, 1) := by decide +kernel
theorem dX8_write_29 : decode cX8_write 29 = .ok (.ldc_w 271, 3) := by decide +kernel
theorem dX8_write_32 : decode cX8_write 32 = .ok (.invokevirtual 63, 3) := by decide +kernel
theorem dX8_write_35 : decode cX8_write 35 = .ok (.i2l, 1) := by decide +kernel
theorem dX8_write_36 : decode cX8_write 36 = .ok (.lreturn, 1) := by decide +kernel
theorem dX8_write_37 : decode cX8_write 37 = .ok (.iload_n 2, 1) := by decide +kernel
theorem dX8_write_38 : decode cX8_write 38 = .ok (.ifCond .lt 12, 3) := by decide +kernel
theorem dX8_write_41 : decode cX8_write 41 = .ok (.iload_n 2, 1) := by decide +kernel
theorem dX8_write_42 : decode cX8_write 42 = .ok (.aload 5, 2) := by decide +kernel
theorem dX8_write_44 : decode cX8_write 44 = .ok (.getfield 267, 3) := by decide +kernel
theorem dX8_write_47 : decode cX8_write 47 = .ok (.if_icmp .lt 11, 3) := by decide +kernel
theorem dX8_write_50 : decode cX8_write 50 = .ok (.aload_n 0, 1) := by decide +kernel
theorem dX8_write_51 : decode cX8_write 51 = .ok (.ldc 62, 2) := by decide +kernel
theorem dX8_write_53 : decode cX8_write 53 = .ok (.invokevirtual 63, 3) := by decide +kernel
theorem dX8_write_56 : decode cX8_write 56 = .ok (.i2l, 1) := by decide +kernel
theorem dX8_write_57 : decode cX8_write 57 = .ok (.lreturn, 1) := by decide +kernel
theorem dX8_write_58 : decode cX8_write 58 = .ok (.aload 5, 2) := by decide +kernel
theorem dX8_write_60 : decode cX8_write 60 = .ok (.getfield 272, 3) := by decide +kernel
theorem dX8_write_63 : decode cX8_write 63 = .ok (.iload_n 2, 1) := by decide +kernel
theorem dX8_write_64 : decode cX8_write 64 = .ok (.laload, 1) := by decide +kernel
theorem dX8_write_65 : decode cX8_write 65 = .ok (.lstore 6, 2) := by decide +kernel
theorem dX8_write_67 : decode cX8_write 67 = .ok (.aload 5, 2) := by decide +kernel
theorem dX8_write_69 : decode cX8_write 69 = .ok (.iload_n 2, 1) := by decide +kernel
theorem dX8_write_70 : decode cX8_write 70 = .ok (.lload_n 3, 1) := by decide +kernel
theorem dX8_write_71 : decode cX8_write 71 = .ok (.invokevirtual 275, 3) := by decide +kernel
theorem dX8_write_74 : decode cX8_write 74 = .ok (.lload 6, 2) := by decide +kernel
theorem dX8_write_76 : decode cX8_write 76 = .ok (.lreturn, 1) := by decide +kernel
set_option maxRecDepth 20000 in
theorem ggX8_copy_X8_paperAt : GoodIn wsX8_copy wsX8_paperAt := goodIn_r _ [12, 13, 33, 34, 35, 36, 37, 38, 39, 40] (by decide +kernel) (by decide +kernel)
set_option maxRecDepth 20000 in
theorem gX8_copy_X8_paperAt : GoodIn wsX8_copy (wsV RX8 256 RX8 yX8_paperAt wsX8_paperAt) := goodIn_app (goodIn_of _ (by decide +kernel)) ggX8_copy_X8_paperAt
set_option maxRecDepth 20000 in
theorem ggX8_copy_X8_finding : GoodIn wsX8_copy wsX8_finding := goodIn_r _ [17, 1, 18, 33, 34, 35, 36, 37, 38, 39, 40] (by decide +kernel) (by decide +kernel)
set_option maxRecDepth 20000 in
theorem gX8_copy_X8_finding : GoodIn wsX8_copy (wsV RX8 63 RX8 yX8_finding wsX8_finding) := goodIn_app (goodIn_of _ (by decide +kernel)) ggX8_copy_X8_finding
set_option maxRecDepth 20000 in
theorem ggX8_copy_X2_isMissing : GoodIn wsX8_copy wsX2_isMissing := goodIn_r _ [23, 24, 30, 31, 32] (by decide +kernel) (by decide +kernel)
set_option maxRecDepth 20000 in
theorem gX8_copy_X2_isMissing : GoodIn wsX8_copy (wsV RX8 268 RX2 yX2_isMissing wsX2_isMissing) := goodIn_app (goodIn_of _ (by decide +kernel)) ggX8_copy_X2_isMissing
set_option maxRecDepth 20000 in
theorem ggX8_copy_X2_hasPart : GoodIn wsX8_copy wsX2_hasPart := goodIn_r _ [28, 29, 30, 31, 32] (by decide +kernel) (by decide +kernel)
set_option maxRecDepth 20000 in
theorem gX8_copy_X2_hasPart : GoodIn wsX8_copy (wsV RX8 282 RX2 yX2_hasPart wsX2_hasPart) := goodIn_app (goodIn_of _ (by decide +kernel)) ggX8_copy_X2_hasPart
theorem dX8_copy_0 : decode cX8_copy 0 = .ok (.aload_n 0, 1) := by decide +kernel
theorem dX8_copy_1 : decode cX8_copy 1 = .ok (.iload_n 1, 1) := by decide +kernel
theorem dX8_copy_2 : decode cX8_copy 2 = .ok (.invokevirtual 256, 3) := by decide +kernel
theorem dX8_copy_5 : decode cX8_copy 5 = .ok (.astore 6, 2) := by decide +kernel
theorem dX8_copy_7 : decode cX8_copy 7 = .ok (.aload_n 0, 1) := by decide +kernel
theorem dX8_copy_8 : decode cX8_copy 8 = .ok (.iload_n 3, 1) := by decide +kernel
theorem dX8_copy_9 : decode cX8_copy 9 = .ok (.invokevirtual 256, 3) := by decide +kernel
theorem dX8_copy_12 : decode cX8_copy 12 = .ok (.astore 7, 2) := by decide +kernel
theorem dX8_copy_14 : decode cX8_copy 14 = .ok (.aload 6, 2) := by decide +kernel
theorem dX8_copy_16 : decode cX8_copy 16 = .ok (.ifnull 8, 3) := by decide +kernel
theorem dX8_copy_19 : decode cX8_copy 19 = .ok (.aload 7, 2) := by decide +kernel
theorem dX8_copy_21 : decode cX8_copy 21 = .ok (.ifnonnull 10, 3) := by decide +kernel
theorem dX8_copy_24 : decode cX8_copy 24 = .ok (.aload_n 0, 1) := by decide +kernel
theorem dX8_copy_25 : decode cX8_copy 25 = .ok (.ldc 62, 2) := by decide +kernel
theorem dX8_copy_27 : decode cX8_copy 27 = .ok (.invokevirtual 63, 3) := by decide +kernel
theorem dX8_copy_30 : decode cX8_copy 30 = .ok (.ireturn, 1) := by decide +kernel
theorem dX8_copy_31 : decode cX8_copy 31 = .ok (.aload 6, 2) := by decide +kernel
theorem dX8_copy_33 : decode cX8_copy 33 = .ok (.invokevirtual 268, 3) := by decide +kernel
theorem dX8_copy_36 : decode cX8_copy 36 = .ok (.ifCond .ne 11, 3) := by decide +kernel
theorem dX8_copy_39 : decode cX8_copy 39 = .ok (.aload 7, 2) := by decide +kernel
theorem dX8_copy_41 : decode cX8_copy 41 = .ok (.invokevirtual 268, 3) := by decide +kernel
theorem dX8_copy_44 : decode cX8_copy 44 = .ok (.ifCond .eq 11, 3) := by decide +kernel
theorem dX8_copy_47 : decode cX8_copy 47 = .ok (.aload_n 0, 1) := by decide +kernel
theorem dX8_copy_48 : decode cX8_copy 48 = .ok (.ldc_w 271, 3) := by decide +kernel
theorem dX8_copy_51 : decode cX8_copy 51 = .ok (.invokevirtual 63, 3) := by decide +kernel
theorem dX8_copy_54 : decode cX8_copy 54 = .ok (.ireturn, 1) := by decide +kernel
theorem dX8_copy_55 : decode cX8_copy 55 = .ok (.aload 6, 2) := by decide +kernel
theorem dX8_copy_57 : decode cX8_copy 57 = .ok (.getfield 279, 3) := by decide +kernel
theorem dX8_copy_60 : decode cX8_copy 60 = .ok (.aload 7, 2) := by decide +kernel
theorem dX8_copy_62 : decode cX8_copy 62 = .ok (.getfield 279, 3) := by decide +kernel
theorem dX8_copy_65 : decode cX8_copy 65 = .ok (.if_icmp .eq 10, 3) := by decide +kernel
theorem dX8_copy_68 : decode cX8_copy 68 = .ok (.aload_n 0, 1) := by decide +kernel
theorem dX8_copy_69 : decode cX8_copy 69 = .ok (.ldc 101, 2) := by decide +kernel
theorem dX8_copy_71 : decode cX8_copy 71 = .ok (.invokevirtual 63, 3) := by decide +kernel
theorem dX8_copy_74 : decode cX8_copy 74 = .ok (.ireturn, 1) := by decide +kernel
theorem dX8_copy_75 : decode cX8_copy 75 = .ok (.aload 6, 2) := by decide +kernel
theorem dX8_copy_77 : decode cX8_copy 77 = .ok (.iload_n 2, 1) := by decide +kernel
theorem dX8_copy_78 : decode cX8_copy 78 = .ok (.iload 5, 2) := by decide +kernel
theorem dX8_copy_80 : decode cX8_copy 80 = .ok (.invokevirtual 282, 3) := by decide +kernel
theorem dX8_copy_83 : decode cX8_copy 83 = .ok (.ifCond .eq 15, 3) := by decide +kernel
theorem dX8_copy_86 : decode cX8_copy 86 = .ok (.aload 7, 2) := by decide +kernel
theorem dX8_copy_88 : decode cX8_copy 88 = .ok (.iload 4, 2) := by decide +kernel
theorem dX8_copy_90 : decode cX8_copy 90 = .ok (.iload 5, 2) := by decide +kernel
theorem dX8_copy_92 : decode cX8_copy 92 = .ok (.invokevirtual 282, 3) := by decide +kernel
theorem dX8_copy_95 : decode cX8_copy 95 = .ok (.ifCond .ne 10, 3) := by decide +kernel
theorem dX8_copy_98 : decode cX8_copy 98 = .ok (.aload_n 0, 1) := by decide +kernel
theorem dX8_copy_99 : decode cX8_copy 99 = .ok (.ldc 62, 2) := by decide +kernel
theorem dX8_copy_101 : decode cX8_copy 101 = .ok (.invokevirtual 63, 3) := by decide +kernel
theorem dX8_copy_104 : decode cX8_copy 104 = .ok (.ireturn, 1) := by decide +kernel
theorem dX8_copy_105 : decode cX8_copy 105 = .ok (.aload 6, 2) := by decide +kernel
theorem dX8_copy_107 : decode cX8_copy 107 = .ok (.getfield 272, 3) := by decide +kernel
theorem dX8_copy_110 : decode cX8_copy 110 = .ok (.iload_n 2, 1) := by decide +kernel
theorem dX8_copy_111 : decode cX8_copy 111 = .ok (.aload 7, 2) := by decide +kernel
theorem dX8_copy_113 : decode cX8_copy 113 = .ok (.getfield 272, 3) := by decide +kernel
theorem dX8_copy_116 : decode cX8_copy 116 = .ok (.iload 4, 2) := by decide +kernel
theorem dX8_copy_118 : decode cX8_copy 118 = .ok (.iload 5, 2) := by decide +kernel
theorem dX8_copy_120 : decode cX8_copy 120 = .ok (.invokestatic 285, 3) := by decide +kernel
theorem dX8_copy_123 : decode cX8_copy 123 = .ok (.iload 5, 2) := by decide +kernel
theorem dX8_copy_125 : decode cX8_copy 125 = .ok (.ireturn, 1) := by decide +kernel
set_option maxRecDepth 20000 in
theorem ggX8_lays_X8_paperAt : GoodIn wsX8_lays wsX8_paperAt := goodIn_r _ [12, 13, 28, 29, 30, 31, 32, 33, 34, 35] (by decide +kernel) (by decide +kernel)
set_option maxRecDepth 20000 in
theorem gX8_lays_X8_paperAt : GoodIn wsX8_lays (wsV RX8 256 RX8 yX8_paperAt wsX8_paperAt) := goodIn_app (goodIn_of _ (by decide +kernel)) ggX8_lays_X8_paperAt
set_option maxRecDepth 20000 in
theorem ggX8_lays_X8_finding : GoodIn wsX8_lays wsX8_finding := goodIn_r _ [17, 1, 18, 28, 29, 30, 31, 32, 33, 34, 35] (by decide +kernel) (by decide +kernel)
set_option maxRecDepth 20000 in
theorem gX8_lays_X8_finding : GoodIn wsX8_lays (wsV RX8 63 RX8 yX8_finding wsX8_finding) := goodIn_app (goodIn_of _ (by decide +kernel)) ggX8_lays_X8_finding
set_option maxRecDepth 20000 in
theorem ggX8_lays_X2_isMissing : GoodIn wsX8_lays wsX2_isMissing := goodIn_r _ [23, 24, 25, 26, 27] (by decide +kernel) (by decide +kernel)
set_option maxRecDepth 20000 in
theorem gX8_lays_X2_isMissing : GoodIn wsX8_lays (wsV RX8 268 RX2 yX2_isMissing wsX2_isMissing) := goodIn_app (goodIn_of _ (by decide +kernel)) ggX8_lays_X2_isMissing
theorem dX8_lays_0 : decode cX8_lays 0 = .ok (.aload_n 0, 1) := by decide +kernel
theorem dX8_lays_1 : decode cX8_lays 1 = .ok (.iload_n 1, 1) := by decide +kernel
theorem dX8_lays_2 : decode cX8_lays 2 = .ok (.invokevirtual 256, 3) := by decide +kernel
theorem dX8_lays_5 : decode cX8_lays 5 = .ok (.astore_n 2, 1) := by decide +kernel
theorem dX8_lays_6 : decode cX8_lays 6 = .ok (.aload_n 2, 1) := by decide +kernel
theorem dX8_lays_7 : decode cX8_lays 7 = .ok (.ifnonnull 10, 3) := by decide +kernel
theorem dX8_lays_10 : decode cX8_lays 10 = .ok (.aload_n 0, 1) := by decide +kernel
theorem dX8_lays_11 : decode cX8_lays 11 = .ok (.ldc 62, 2) := by decide +kernel
theorem dX8_lays_13 : decode cX8_lays 13 = .ok (.invokevirtual 63, 3) := by decide +kernel
theorem dX8_lays_16 : decode cX8_lays 16 = .ok (.ireturn, 1) := by decide +kernel
theorem dX8_lays_17 : decode cX8_lays 17 = .ok (.aload_n 2, 1) := by decide +kernel
theorem dX8_lays_18 : decode cX8_lays 18 = .ok (.invokevirtual 268, 3) := by decide +kernel
theorem dX8_lays_21 : decode cX8_lays 21 = .ok (.ifCond .eq 11, 3) := by decide +kernel
theorem dX8_lays_24 : decode cX8_lays 24 = .ok (.aload_n 0, 1) := by decide +kernel
theorem dX8_lays_25 : decode cX8_lays 25 = .ok (.ldc_w 271, 3) := by decide +kernel
theorem dX8_lays_28 : decode cX8_lays 28 = .ok (.invokevirtual 63, 3) := by decide +kernel
theorem dX8_lays_31 : decode cX8_lays 31 = .ok (.ireturn, 1) := by decide +kernel
theorem dX8_lays_32 : decode cX8_lays 32 = .ok (.aload_n 2, 1) := by decide +kernel
theorem dX8_lays_33 : decode cX8_lays 33 = .ok (.getfield 267, 3) := by decide +kernel
theorem dX8_lays_36 : decode cX8_lays 36 = .ok (.aload_n 0, 1) := by decide +kernel
theorem dX8_lays_37 : decode cX8_lays 37 = .ok (.getfield 10, 3) := by decide +kernel
theorem dX8_lays_40 : decode cX8_lays 40 = .ok (.getfield 204, 3) := by decide +kernel
theorem dX8_lays_43 : decode cX8_lays 43 = .ok (.invokestatic 221, 3) := by decide +kernel
theorem dX8_lays_46 : decode cX8_lays 46 = .ok (.istore_n 3, 1) := by decide +kernel
theorem dX8_lays_47 : decode cX8_lays 47 = .ok (.iconst 0, 1) := by decide +kernel
theorem dX8_lays_48 : decode cX8_lays 48 = .ok (.istore 4, 2) := by decide +kernel
theorem dX8_lays_50 : decode cX8_lays 50 = .ok (.iload 4, 2) := by decide +kernel
theorem dX8_lays_52 : decode cX8_lays 52 = .ok (.iload_n 3, 1) := by decide +kernel
theorem dX8_lays_53 : decode cX8_lays 53 = .ok (.if_icmp .ge 26, 3) := by decide +kernel
theorem dX8_lays_56 : decode cX8_lays 56 = .ok (.aload_n 0, 1) := by decide +kernel
theorem dX8_lays_57 : decode cX8_lays 57 = .ok (.getfield 10, 3) := by decide +kernel
theorem dX8_lays_60 : decode cX8_lays 60 = .ok (.getfield 160, 3) := by decide +kernel
theorem dX8_lays_63 : decode cX8_lays 63 = .ok (.iload 4, 2) := by decide +kernel
theorem dX8_lays_65 : decode cX8_lays 65 = .ok (.aload_n 2, 1) := by decide +kernel
theorem dX8_lays_66 : decode cX8_lays 66 = .ok (.getfield 272, 3) := by decide +kernel
theorem dX8_lays_69 : decode cX8_lays 69 = .ok (.iload 4, 2) := by decide +kernel
theorem dX8_lays_71 : decode cX8_lays 71 = .ok (.laload, 1) := by decide +kernel
theorem dX8_lays_72 : decode cX8_lays 72 = .ok (.lastore, 1) := by decide +kernel
theorem dX8_lays_73 : decode cX8_lays 73 = .ok (.iinc 4 1, 3) := by decide +kernel
theorem dX8_lays_76 : decode cX8_lays 76 = .ok (.goto (-26), 3) := by decide +kernel
theorem dX8_lays_79 : decode cX8_lays 79 = .ok (.iload_n 3, 1) := by decide +kernel
theorem dX8_lays_80 : decode cX8_lays 80 = .ok (.ireturn, 1) := by decide +kernel
set_option maxRecDepth 20000 in
theorem ggX8_film_X8_paperAt : GoodIn wsX8_film wsX8_paperAt := goodIn_r _ [12, 13, 96, 97, 98, 99, 100, 101, 102, 103] (by decide +kernel) (by decide +kernel)
set_option maxRecDepth 20000 in
theorem gX8_film_X8_paperAt : GoodIn wsX8_film (wsV RX8 256 RX8 yX8_paperAt wsX8_paperAt) := goodIn_app (goodIn_of _ (by decide +kernel)) ggX8_film_X8_paperAt
set_option maxRecDepth 20000 in
theorem ggX8_film_X8_finding : GoodIn wsX8_film wsX8_finding := goodIn_r _ [17, 1, 18, 96, 97, 98, 99, 100, 101, 102, 103] (by decide +kernel) (by decide +kernel)
set_option maxRecDepth 20000 in
theorem gX8_film_X8_finding : GoodIn wsX8_film (wsV RX8 63 RX8 yX8_finding wsX8_finding) := goodIn_app (goodIn_of _ (by decide +kernel)) ggX8_film_X8_finding
set_option maxRecDepth 20000 in
theorem ggX8_film_X2_isMissing : GoodIn wsX8_film wsX2_isMissing := goodIn_r _ [23, 24, 104, 105, 106] (by decide +kernel) (by decide +kernel)
set_option maxRecDepth 20000 in
theorem gX8_film_X2_isMissing : GoodIn wsX8_film (wsV RX8 268 RX2 yX2_isMissing wsX2_isMissing) := goodIn_app (goodIn_of _ (by decide +kernel)) ggX8_film_X2_isMissing
set_option maxRecDepth 20000 in
theorem ggX8_film_X6_darkCells : GoodIn wsX8_film wsX6_darkCells := goodIn_r _ [29, 30, 31, 32, 28, 33, 34, 35, 36, 37, 38, 39, 40, 41, 42, 43, 44, 45, 46, 47, 48, 49, 50, 51, 52, 53, 54, 55, 56, 57, 58, 59, 60, 61, 62, 63, 64, 65, 66, 67, 68, 69, 70, 71, 72, 73, 74, 75, 76, 77, 78, 79, 80, 81, 82, 83, 84, 85, 86, 107, 108, 109, 110, 111, 112, 113, 114, 115] (by decide +kernel) (by decide +kernel)
set_option maxRecDepth 20000 in
theorem gX8_film_X6_darkCells : GoodIn wsX8_film (wsV RX8 134 RX6 yX6_darkCells wsX6_darkCells) := goodIn_app (goodIn_of _ (by decide +kernel)) ggX8_film_X6_darkCells
set_option maxRecDepth 20000 in
theorem ggX8_film_X1_rowOf : GoodIn wsX8_film wsX1_rowOf := goodIn_r _ [89, 90] (by decide +kernel) (by decide +kernel)
set_option maxRecDepth 20000 in
theorem gX8_film_X1_rowOf : GoodIn wsX8_film (va_wsS RX8 291 yX1_rowOf wsX1_rowOf) := goodIn_app (goodIn_of _ (by decide +kernel)) ggX8_film_X1_rowOf
set_option maxRecDepth 20000 in
theorem ggX8_film_X2_put : GoodIn wsX8_film wsX2_put := goodIn_r _ [94, 95, 24, 104, 105, 106] (by decide +kernel) (by decide +kernel)
set_option maxRecDepth 20000 in
theorem gX8_film_X2_put : GoodIn wsX8_film (wsV RX8 275 RX2 yX2_put wsX2_put) := goodIn_app (goodIn_of _ (by decide +kernel)) ggX8_film_X2_put
theorem dX8_film_0 : decode cX8_film 0 = .ok (.aload_n 0, 1) := by decide +kernel
theorem dX8_film_1 : decode cX8_film 1 = .ok (.iload_n 1, 1) := by decide +kernel
theorem dX8_film_2 : decode cX8_film 2 = .ok (.invokevirtual 256, 3) := by decide +kernel
theorem dX8_film_5 : decode cX8_film 5 = .ok (.astore_n 2, 1) := by decide +kernel
theorem dX8_film_6 : decode cX8_film 6 = .ok (.aload_n 2, 1) := by decide +kernel
theorem dX8_film_7 : decode cX8_film 7 = .ok (.ifnonnull 10, 3) := by decide +kernel
theorem dX8_film_10 : decode cX8_film 10 = .ok (.aload_n 0, 1) := by decide +kernel
theorem dX8_film_11 : decode cX8_film 11 = .ok (.ldc 62, 2) := by decide +kernel
theorem dX8_film_13 : decode cX8_film 13 = .ok (.invokevirtual 63, 3) := by decide +kernel
theorem dX8_film_16 : decode cX8_film 16 = .ok (.ireturn, 1) := by decide +kernel
theorem dX8_film_17 : decode cX8_film 17 = .ok (.aload_n 2, 1) := by decide +kernel
theorem dX8_film_18 : decode cX8_film 18 = .ok (.invokevirtual 268, 3) := by decide +kernel
theorem dX8_film_21 : decode cX8_film 21 = .ok (.ifCond .eq 11, 3) := by decide +kernel
theorem dX8_film_24 : decode cX8_film 24 = .ok (.aload_n 0, 1) := by decide +kernel
theorem dX8_film_25 : decode cX8_film 25 = .ok (.ldc_w 271, 3) := by decide +kernel
theorem dX8_film_28 : decode cX8_film 28 = .ok (.invokevirtual 63, 3) := by decide +kernel
theorem dX8_film_31 : decode cX8_film 31 = .ok (.ireturn, 1) := by decide +kernel
theorem dX8_film_32 : decode cX8_film 32 = .ok (.aload_n 0, 1) := by decide +kernel
theorem dX8_film_33 : decode cX8_film 33 = .ok (.getfield 10, 3) := by decide +kernel
theorem dX8_film_36 : decode cX8_film 36 = .ok (.invokevirtual 134, 3) := by decide +kernel
theorem dX8_film_39 : decode cX8_film 39 = .ok (.lstore_n 3, 1) := by decide +kernel
theorem dX8_film_40 : decode cX8_film 40 = .ok (.aload_n 2, 1) := by decide +kernel
theorem dX8_film_41 : decode cX8_film 41 = .ok (.getfield 267, 3) := by decide +kernel
theorem dX8_film_44 : decode cX8_film 44 = .ok (.bipush 8, 2) := by decide +kernel
theorem dX8_film_46 : decode cX8_film 46 = .ok (.invokestatic 221, 3) := by decide +kernel
theorem dX8_film_49 : decode cX8_film 49 = .ok (.istore 5, 2) := by decide +kernel
theorem dX8_film_51 : decode cX8_film 51 = .ok (.iconst 0, 1) := by decide +kernel
theorem dX8_film_52 : decode cX8_film 52 = .ok (.istore 6, 2) := by decide +kernel
theorem dX8_film_54 : decode cX8_film 54 = .ok (.iload 6, 2) := by decide +kernel
theorem dX8_film_56 : decode cX8_film 56 = .ok (.iload 5, 2) := by decide +kernel
theorem dX8_film_58 : decode cX8_film 58 = .ok (.if_icmp .ge 22, 3) := by decide +kernel
theorem dX8_film_61 : decode cX8_film 61 = .ok (.aload_n 2, 1) := by decide +kernel
theorem dX8_film_62 : decode cX8_film 62 = .ok (.iload 6, 2) := by decide +kernel
theorem dX8_film_64 : decode cX8_film 64 = .ok (.lload_n 3, 1) := by decide +kernel
theorem dX8_film_65 : decode cX8_film 65 = .ok (.iload 6, 2) := by decide +kernel
theorem dX8_film_67 : decode cX8_film 67 = .ok (.invokestatic 291, 3) := by decide +kernel
theorem dX8_film_70 : decode cX8_film 70 = .ok (.i2l, 1) := by decide +kernel
theorem dX8_film_71 : decode cX8_film 71 = .ok (.invokevirtual 275, 3) := by decide +kernel
theorem dX8_film_74 : decode cX8_film 74 = .ok (.iinc 6 1, 3) := by decide +kernel
theorem dX8_film_77 : decode cX8_film 77 = .ok (.goto (-23), 3) := by decide +kernel
theorem dX8_film_80 : decode cX8_film 80 = .ok (.iload 5, 2) := by decide +kernel
theorem dX8_film_82 : decode cX8_film 82 = .ok (.ireturn, 1) := by decide +kernel
set_option maxRecDepth 20000 in
theorem ggX8_read_X8_paperAt : GoodIn wsX8_read wsX8_paperAt := goodIn_r _ [13, 14, 92, 93, 94, 95, 96, 97, 98, 99] (by decide +kernel) (by decide +kernel)
set_option maxRecDepth 20000 in
theorem gX8_read_X8_paperAt : GoodIn wsX8_read (wsV RX8 256 RX8 yX8_paperAt wsX8_paperAt) := goodIn_app (goodIn_of _ (by decide +kernel)) ggX8_read_X8_paperAt
set_option maxRecDepth 20000 in
theorem ggX8_read_X8_finding : GoodIn wsX8_read wsX8_finding := goodIn_r _ [18, 1, 19, 92, 93, 94, 95, 96, 97, 98, 99] (by decide +kernel) (by decide +kernel)
set_option maxRecDepth 20000 in
theorem gX8_read_X8_finding : GoodIn wsX8_read (wsV RX8 63 RX8 yX8_finding wsX8_finding) := goodIn_app (goodIn_of _ (by decide +kernel)) ggX8_read_X8_finding
set_option maxRecDepth 20000 in
theorem ggX8_read_X2_isMissing : GoodIn wsX8_read wsX2_isMissing := goodIn_r _ [24, 25, 100, 101, 102] (by decide +kernel) (by decide +kernel)
set_option maxRecDepth 20000 in
theorem gX8_read_X2_isMissing : GoodIn wsX8_read (wsV RX8 268 RX2 yX2_isMissing wsX2_isMissing) := goodIn_app (goodIn_of _ (by decide +kernel)) ggX8_read_X2_isMissing
set_option maxRecDepth 20000 in
theorem ggX8_read_X6_darkCells : GoodIn wsX8_read wsX6_darkCells := goodIn_r _ [30, 31, 32, 33, 29, 34, 35, 36, 37, 38, 39, 40, 41, 42, 43, 44, 45, 46, 47, 48, 49, 50, 51, 52, 53, 54, 55, 56, 57, 58, 59, 60, 61, 62, 63, 64, 65, 66, 67, 68, 69, 70, 71, 72, 73, 74, 75, 76, 77, 78, 79, 80, 81, 82, 83, 84, 85, 86, 87, 103, 104, 105, 106, 107, 108, 109, 110, 111] (by decide +kernel) (by decide +kernel)
set_option maxRecDepth 20000 in
theorem gX8_read_X6_darkCells : GoodIn wsX8_read (wsV RX8 134 RX6 yX6_darkCells wsX6_darkCells) := goodIn_app (goodIn_of _ (by decide +kernel)) ggX8_read_X6_darkCells
set_option maxRecDepth 20000 in
theorem ggX8_read_X1_rowOf : GoodIn wsX8_read wsX1_rowOf := goodIn_r _ [90, 91] (by decide +kernel) (by decide +kernel)
set_option maxRecDepth 20000 in
theorem gX8_read_X1_rowOf : GoodIn wsX8_read (va_wsS RX8 291 yX1_rowOf wsX1_rowOf) := goodIn_app (goodIn_of _ (by decide +kernel)) ggX8_read_X1_rowOf
theorem dX8_read_0 : decode cX8_read 0 = .ok (.aload_n 0, 1) := by decide +kernel
theorem dX8_read_1 : decode cX8_read 1 = .ok (.iload_n 1, 1) := by decide +kernel
theorem dX8_read_2 : decode cX8_read 2 = .ok (.invokevirtual 256, 3) := by decide +kernel
theorem dX8_read_5 : decode cX8_read 5 = .ok (.astore_n 2, 1) := by decide +kernel
theorem dX8_read_6 : decode cX8_read 6 = .ok (.aload_n 2, 1) := by decide +kernel
theorem dX8_read_7 : decode cX8_read 7 = .ok (.ifnonnull 10, 3) := by decide +kernel
theorem dX8_read_10 : decode cX8_read 10 = .ok (.aload_n 0, 1) := by decide +kernel
theorem dX8_read_11 : decode cX8_read 11 = .ok (.ldc 62, 2) := by decide +kernel
theorem dX8_read_13 : decode cX8_read 13 = .ok (.invokevirtual 63, 3) := by decide +kernel
theorem dX8_read_16 : decode cX8_read 16 = .ok (.ireturn, 1) := by decide +kernel
theorem dX8_read_17 : decode cX8_read 17 = .ok (.aload_n 2, 1) := by decide +kernel
theorem dX8_read_18 : decode cX8_read 18 = .ok (.invokevirtual 268, 3) := by decide +kernel
theorem dX8_read_21 : decode cX8_read 21 = .ok (.ifCond .eq 11, 3) := by decide +kernel
theorem dX8_read_24 : decode cX8_read 24 = .ok (.aload_n 0, 1) := by decide +kernel
theorem dX8_read_25 : decode cX8_read 25 = .ok (.ldc_w 271, 3) := by decide +kernel
theorem dX8_read_28 : decode cX8_read 28 = .ok (.invokevirtual 63, 3) := by decide +kernel
theorem dX8_read_31 : decode cX8_read 31 = .ok (.ireturn, 1) := by decide +kernel
theorem dX8_read_32 : decode cX8_read 32 = .ok (.aload_n 0, 1) := by decide +kernel
theorem dX8_read_33 : decode cX8_read 33 = .ok (.getfield 10, 3) := by decide +kernel
theorem dX8_read_36 : decode cX8_read 36 = .ok (.invokevirtual 134, 3) := by decide +kernel
theorem dX8_read_39 : decode cX8_read 39 = .ok (.lstore_n 3, 1) := by decide +kernel
theorem dX8_read_40 : decode cX8_read 40 = .ok (.aload_n 2, 1) := by decide +kernel
theorem dX8_read_41 : decode cX8_read 41 = .ok (.getfield 267, 3) := by decide +kernel
theorem dX8_read_44 : decode cX8_read 44 = .ok (.bipush 8, 2) := by decide +kernel
theorem dX8_read_46 : decode cX8_read 46 = .ok (.invokestatic 221, 3) := by decide +kernel
theorem dX8_read_49 : decode cX8_read 49 = .ok (.istore 5, 2) := by decide +kernel
theorem dX8_read_51 : decode cX8_read 51 = .ok (.iconst 0, 1) := by decide +kernel
theorem dX8_read_52 : decode cX8_read 52 = .ok (.istore 6, 2) := by decide +kernel
theorem dX8_read_54 : decode cX8_read 54 = .ok (.iload 6, 2) := by decide +kernel
theorem dX8_read_56 : decode cX8_read 56 = .ok (.iload 5, 2) := by decide +kernel
theorem dX8_read_58 : decode cX8_read 58 = .ok (.if_icmp .ge 36, 3) := by decide +kernel
theorem dX8_read_61 : decode cX8_read 61 = .ok (.aload_n 2, 1) := by decide +kernel
theorem dX8_read_62 : decode cX8_read 62 = .ok (.getfield 272, 3) := by decide +kernel
theorem dX8_read_65 : decode cX8_read 65 = .ok (.iload 6, 2) := by decide +kernel
theorem dX8_read_67 : decode cX8_read 67 = .ok (.laload, 1) := by decide +kernel
theorem dX8_read_68 : decode cX8_read 68 = .ok (.ldc2_w 295, 3) := by decide +kernel
theorem dX8_read_71 : decode cX8_read 71 = .ok (.land, 1) := by decide +kernel
theorem dX8_read_72 : decode cX8_read 72 = .ok (.lload_n 3, 1) := by decide +kernel
theorem dX8_read_73 : decode cX8_read 73 = .ok (.iload 6, 2) := by decide +kernel
theorem dX8_read_75 : decode cX8_read 75 = .ok (.invokestatic 291, 3) := by decide +kernel
theorem dX8_read_78 : decode cX8_read 78 = .ok (.i2l, 1) := by decide +kernel
theorem dX8_read_79 : decode cX8_read 79 = .ok (.lcmp, 1) := by decide +kernel
theorem dX8_read_80 : decode cX8_read 80 = .ok (.ifCond .eq 8, 3) := by decide +kernel
theorem dX8_read_83 : decode cX8_read 83 = .ok (.iconst 1, 1) := by decide +kernel
theorem dX8_read_84 : decode cX8_read 84 = .ok (.iload 6, 2) := by decide +kernel
theorem dX8_read_86 : decode cX8_read 86 = .ok (.iadd, 1) := by decide +kernel
theorem dX8_read_87 : decode cX8_read 87 = .ok (.ireturn, 1) := by decide +kernel
theorem dX8_read_88 : decode cX8_read 88 = .ok (.iinc 6 1, 3) := by decide +kernel
theorem dX8_read_91 : decode cX8_read 91 = .ok (.goto (-37), 3) := by decide +kernel
theorem dX8_read_94 : decode cX8_read 94 = .ok (.iconst 0, 1) := by decide +kernel
theorem dX8_read_95 : decode cX8_read 95 = .ok (.ireturn, 1) := by decide +kernel
set_option maxRecDepth 20000 in
theorem ggX8_image_X6_takeAll : GoodIn wsX8_image wsX6_takeAll := goodIn_r _ [8, 9, 10, 11, 12, 13, 14, 15, 16, 17, 18, 19, 20, 21, 30, 31, 32, 33, 34, 35, 36, 37, 38] (by decide +kernel) (by decide +kernel)
set_option maxRecDepth 20000 in
theorem gX8_image_X6_takeAll : GoodIn wsX8_image (wsV RX8 250 RX6 yX6_takeAll wsX6_takeAll) := goodIn_app (goodIn_of _ (by decide +kernel)) ggX8_image_X6_takeAll
theorem dX8_image_0 : decode cX8_image 0 = .ok (.aload_n 0, 1) := by decide +kernel
theorem dX8_image_1 : decode cX8_image 1 = .ok (.getfield 16, 3) := by decide +kernel
theorem dX8_image_4 : decode cX8_image 4 = .ok (.aload_n 0, 1) := by decide +kernel
theorem dX8_image_5 : decode cX8_image 5 = .ok (.getfield 10, 3) := by decide +kernel
theorem dX8_image_8 : decode cX8_image 8 = .ok (.invokevirtual 250, 3) := by decide +kernel
theorem dX8_image_11 : decode cX8_image 11 = .ok (.aload_n 0, 1) := by decide +kernel
theorem dX8_image_12 : decode cX8_image 12 = .ok (.iconst 1, 1) := by decide +kernel
theorem dX8_image_13 : decode cX8_image 13 = .ok (.putfield 50, 3) := by decide +kernel
theorem dX8_image_16 : decode cX8_image 16 = .ok (.iconst 1, 1) := by decide +kernel
theorem dX8_image_17 : decode cX8_image 17 = .ok (.ireturn, 1) := by decide +kernel
set_option maxRecDepth 20000 in
theorem ggX8_undo_X8_finding : GoodIn wsX8_undo wsX8_finding := goodIn_r _ [9, 10, 11, 30, 31, 32, 33, 34, 35, 36, 37] (by decide +kernel) (by decide +kernel)
set_option maxRecDepth 20000 in
theorem gX8_undo_X8_finding : GoodIn wsX8_undo (wsV RX8 63 RX8 yX8_finding wsX8_finding) := goodIn_app (goodIn_of _ (by decide +kernel)) ggX8_undo_X8_finding
set_option maxRecDepth 20000 in
theorem ggX8_undo_X6_takeAll : GoodIn wsX8_undo wsX6_takeAll := goodIn_r _ [16, 17, 18, 19, 20, 21, 22, 23, 24, 25, 26, 27, 28, 29, 38, 39, 40, 41, 42, 43, 44, 45, 46] (by decide +kernel) (by decide +kernel)
set_option maxRecDepth 20000 in
theorem gX8_undo_X6_takeAll : GoodIn wsX8_undo (wsV RX8 250 RX6 yX6_takeAll wsX6_takeAll) := goodIn_app (goodIn_of _ (by decide +kernel)) ggX8_undo_X6_takeAll
theorem dX8_undo_0 : decode cX8_undo 0 = .ok (.aload_n 0, 1) := by decide +kernel
theorem dX8_undo_1 : decode cX8_undo 1 = .ok (.getfield 50, 3) := by decide +kernel
theorem dX8_undo_4 : decode cX8_undo 4 = .ok (.ifCond .ne 10, 3) := by decide +kernel
theorem dX8_undo_7 : decode cX8_undo 7 = .ok (.aload_n 0, 1) := by decide +kernel
theorem dX8_undo_8 : decode cX8_undo 8 = .ok (.ldc 149, 2) := by decide +kernel
theorem dX8_undo_10 : decode cX8_undo 10 = .ok (.invokevirtual 63, 3) := by decide +kernel
theorem dX8_undo_13 : decode cX8_undo 13 = .ok (.ireturn, 1) := by decide +kernel
theorem dX8_undo_14 : decode cX8_undo 14 = .ok (.aload_n 0, 1) := by decide +kernel
theorem dX8_undo_15 : decode cX8_undo 15 = .ok (.getfield 10, 3) := by decide +kernel
theorem dX8_undo_18 : decode cX8_undo 18 = .ok (.aload_n 0, 1) := by decide +kernel
theorem dX8_undo_19 : decode cX8_undo 19 = .ok (.getfield 16, 3) := by decide +kernel
theorem dX8_undo_22 : decode cX8_undo 22 = .ok (.invokevirtual 250, 3) := by decide +kernel
theorem dX8_undo_25 : decode cX8_undo 25 = .ok (.aload_n 0, 1) := by decide +kernel
theorem dX8_undo_26 : decode cX8_undo 26 = .ok (.getfield 10, 3) := by decide +kernel
theorem dX8_undo_29 : decode cX8_undo 29 = .ok (.getfield 141, 3) := by decide +kernel
theorem dX8_undo_32 : decode cX8_undo 32 = .ok (.ireturn, 1) := by decide +kernel
theorem dX8_forget_0 : decode cX8_forget 0 = .ok (.aload_n 0, 1) := by decide +kernel
theorem dX8_forget_1 : decode cX8_forget 1 = .ok (.getfield 50, 3) := by decide +kernel
theorem dX8_forget_4 : decode cX8_forget 4 = .ok (.ifCond .eq 7, 3) := by decide +kernel
theorem dX8_forget_7 : decode cX8_forget 7 = .ok (.iconst 1, 1) := by decide +kernel
theorem dX8_forget_8 : decode cX8_forget 8 = .ok (.goto 4, 3) := by decide +kernel
theorem dX8_forget_11 : decode cX8_forget 11 = .ok (.iconst 0, 1) := by decide +kernel
theorem dX8_forget_12 : decode cX8_forget 12 = .ok (.istore_n 1, 1) := by decide +kernel
theorem dX8_forget_13 : decode cX8_forget 13 = .ok (.aload_n 0, 1) := by decide +kernel
theorem dX8_forget_14 : decode cX8_forget 14 = .ok (.iconst 0, 1) := by decide +kernel
theorem dX8_forget_15 : decode cX8_forget 15 = .ok (.putfield 50, 3) := by decide +kernel
theorem dX8_forget_18 : decode cX8_forget 18 = .ok (.iload_n 1, 1) := by decide +kernel
theorem dX8_forget_19 : decode cX8_forget 19 = .ok (.ireturn, 1) := by decide +kernel
set_option maxRecDepth 20000 in
theorem ggX8_count_J6_bitCount_0f7a4 : GoodIn wsX8_count wsJ6_bitCount_0f7a4 := goodIn_r _ [7, 8, 9, 10] (by decide +kernel) (by decide +kernel)
set_option maxRecDepth 20000 in
theorem gX8_count_J6_bitCount_0f7a4 : GoodIn wsX8_count (va_wsS RX8 229 yJ6_bitCount_0f7a4 wsJ6_bitCount_0f7a4) := goodIn_app (goodIn_of _ (by decide +kernel)) ggX8_count_J6_bitCount_0f7a4
set_option maxRecDepth 20000 in
theorem ggX8_count_X6_holdsInUse : GoodIn wsX8_count wsX6_holdsInUse := goodIn_r _ [15, 16, 98, 99, 100, 101, 102, 103, 104, 105, 106] (by decide +kernel) (by decide +kernel)
set_option maxRecDepth 20000 in
theorem gX8_count_X6_holdsInUse : GoodIn wsX8_count (wsV RX8 300 RX6 yX6_holdsInUse wsX6_holdsInUse) := goodIn_app (goodIn_of _ (by decide +kernel)) ggX8_count_X6_holdsInUse
set_option maxRecDepth 20000 in
theorem ggX8_count_X6_darkCells : GoodIn wsX8_count wsX6_darkCells := goodIn_r _ [20, 21, 22, 23, 14, 24, 16, 25, 26, 27, 28, 29, 30, 31, 32, 33, 34, 35, 36, 37, 38, 39, 40, 41, 42, 43, 44, 45, 46, 47, 48, 49, 50, 51, 52, 53, 54, 55, 56, 57, 58, 59, 60, 61, 62, 63, 64, 65, 66, 67, 68, 69, 70, 71, 72, 73, 74, 75, 76, 98, 99, 100, 101, 102, 103, 104, 105, 106] (by decide +kernel) (by decide +kernel)
set_option maxRecDepth 20000 in
theorem gX8_count_X6_darkCells : GoodIn wsX8_count (wsV RX8 134 RX6 yX6_darkCells wsX6_darkCells) := goodIn_app (goodIn_of _ (by decide +kernel)) ggX8_count_X6_darkCells
set_option maxRecDepth 20000 in
theorem ggX8_count_J13_bitCount_95d88 : GoodIn wsX8_count wsJ13_bitCount_95d88 := goodIn_r _ [80, 81, 82, 83] (by decide +kernel) (by decide +kernel)
set_option maxRecDepth 20000 in
theorem gX8_count_J13_bitCount_95d88 : GoodIn wsX8_count (va_wsS RX8 303 yJ13_bitCount_95d88 wsJ13_bitCount_95d88) := goodIn_app (goodIn_of _ (by decide +kernel)) ggX8_count_J13_bitCount_95d88
set_option maxRecDepth 20000 in
theorem ggX8_count_X8_finding : GoodIn wsX8_count wsX8_finding := goodIn_r _ [88, 3, 89, 90, 91, 92, 93, 94, 95, 96, 97] (by decide +kernel) (by decide +kernel)
set_option maxRecDepth 20000 in
theorem gX8_count_X8_finding : GoodIn wsX8_count (wsV RX8 63 RX8 yX8_finding wsX8_finding) := goodIn_app (goodIn_of _ (by decide +kernel)) ggX8_count_X8_finding
theorem dX8_count_0 : decode cX8_count 0 = .ok (.iload_n 1, 1) := by decide +kernel
theorem dX8_count_1 : decode cX8_count 1 = .ok (.tableswitch 108 0 6 #[43, 51, 62, 70, 78, 89, 100], 43) := by decide +kernel
theorem dX8_count_44 : decode cX8_count 44 = .ok (.aload_n 0, 1) := by decide +kernel
theorem dX8_count_45 : decode cX8_count 45 = .ok (.getfield 10, 3) := by decide +kernel
theorem dX8_count_48 : decode cX8_count 48 = .ok (.getfield 141, 3) := by decide +kernel
theorem dX8_count_51 : decode cX8_count 51 = .ok (.ireturn, 1) := by decide +kernel
theorem dX8_count_52 : decode cX8_count 52 = .ok (.aload_n 0, 1) := by decide +kernel
theorem dX8_count_53 : decode cX8_count 53 = .ok (.getfield 10, 3) := by decide +kernel
theorem dX8_count_56 : decode cX8_count 56 = .ok (.getfield 297, 3) := by decide +kernel
theorem dX8_count_59 : decode cX8_count 59 = .ok (.invokestatic 229, 3) := by decide +kernel
theorem dX8_count_62 : decode cX8_count 62 = .ok (.ireturn, 1) := by decide +kernel
theorem dX8_count_63 : decode cX8_count 63 = .ok (.aload_n 0, 1) := by decide +kernel
theorem dX8_count_64 : decode cX8_count 64 = .ok (.getfield 10, 3) := by decide +kernel
theorem dX8_count_67 : decode cX8_count 67 = .ok (.getfield 204, 3) := by decide +kernel
theorem dX8_count_70 : decode cX8_count 70 = .ok (.ireturn, 1) := by decide +kernel
theorem dX8_count_71 : decode cX8_count 71 = .ok (.aload_n 0, 1) := by decide +kernel
theorem dX8_count_72 : decode cX8_count 72 = .ok (.getfield 10, 3) := by decide +kernel
theorem dX8_count_75 : decode cX8_count 75 = .ok (.invokevirtual 300, 3) := by decide +kernel
theorem dX8_count_78 : decode cX8_count 78 = .ok (.ireturn, 1) := by decide +kernel
theorem dX8_count_79 : decode cX8_count 79 = .ok (.aload_n 0, 1) := by decide +kernel
theorem dX8_count_80 : decode cX8_count 80 = .ok (.getfield 10, 3) := by decide +kernel
theorem dX8_count_83 : decode cX8_count 83 = .ok (.invokevirtual 134, 3) := by decide +kernel
theorem dX8_count_86 : decode cX8_count 86 = .ok (.invokestatic 303, 3) := by decide +kernel
theorem dX8_count_89 : decode cX8_count 89 = .ok (.ireturn, 1) := by decide +kernel
theorem dX8_count_90 : decode cX8_count 90 = .ok (.aload_n 0, 1) := by decide +kernel
theorem dX8_count_91 : decode cX8_count 91 = .ok (.getfield 36, 3) := by decide +kernel
theorem dX8_count_94 : decode cX8_count 94 = .ok (.getfield 232, 3) := by decide +kernel
theorem dX8_count_97 : decode cX8_count 97 = .ok (.getfield 244, 3) := by decide +kernel
theorem dX8_count_100 : decode cX8_count 100 = .ok (.ireturn, 1) := by decide +kernel
theorem dX8_count_101 : decode cX8_count 101 = .ok (.aload_n 0, 1) := by decide +kernel
theorem dX8_count_102 : decode cX8_count 102 = .ok (.getfield 10, 3) := by decide +kernel
theorem dX8_count_105 : decode cX8_count 105 = .ok (.getfield 171, 3) := by decide +kernel
theorem dX8_count_108 : decode cX8_count 108 = .ok (.ireturn, 1) := by decide +kernel
theorem dX8_count_109 : decode cX8_count 109 = .ok (.aload_n 0, 1) := by decide +kernel
theorem dX8_count_110 : decode cX8_count 110 = .ok (.ldc 62, 2) := by decide +kernel
theorem dX8_count_112 : decode cX8_count 112 = .ok (.invokevirtual 63, 3) := by decide +kernel
theorem dX8_count_115 : decode cX8_count 115 = .ok (.ireturn, 1) := by decide +kernel
set_option maxRecDepth 20000 in
theorem ggX8_status_X8_finding : GoodIn wsX8_status wsX8_finding := goodIn_r _ [7, 1, 2, 8, 9, 10, 11, 12, 13, 14, 15] (by decide +kernel) (by decide +kernel)
set_option maxRecDepth 20000 in
theorem gX8_status_X8_finding : GoodIn wsX8_status (wsV RX8 63 RX8 yX8_finding wsX8_finding) := goodIn_app (goodIn_of _ (by decide +kernel)) ggX8_status_X8_finding
theorem dX8_status_0 : decode cX8_status 0 = .ok (.iload_n 1, 1) := by decide +kernel
theorem dX8_status_1 : decode cX8_status 1 = .ok (.iconst (-1), 1) := by decide +kernel
theorem dX8_status_2 : decode cX8_status 2 = .ok (.if_icmp .lt 9, 3) := by decide +kernel
theorem dX8_status_5 : decode cX8_status 5 = .ok (.iload_n 1, 1) := by decide +kernel
theorem dX8_status_6 : decode cX8_status 6 = .ok (.bipush 7, 2) := by decide +kernel
theorem dX8_status_8 : decode cX8_status 8 = .ok (.if_icmp .lt 10, 3) := by decide +kernel
theorem dX8_status_11 : decode cX8_status 11 = .ok (.aload_n 0, 1) := by decide +kernel
theorem dX8_status_12 : decode cX8_status 12 = .ok (.ldc 62, 2) := by decide +kernel
theorem dX8_status_14 : decode cX8_status 14 = .ok (.invokevirtual 63, 3) := by decide +kernel
theorem dX8_status_17 : decode cX8_status 17 = .ok (.ireturn, 1) := by decide +kernel
theorem dX8_status_18 : decode cX8_status 18 = .ok (.iload_n 1, 1) := by decide +kernel
theorem dX8_status_19 : decode cX8_status 19 = .ok (.ifCond .lt 10, 3) := by decide +kernel
theorem dX8_status_22 : decode cX8_status 22 = .ok (.aload_n 0, 1) := by decide +kernel
theorem dX8_status_23 : decode cX8_status 23 = .ok (.getfield 46, 3) := by decide +kernel
theorem dX8_status_26 : decode cX8_status 26 = .ok (.iload_n 1, 1) := by decide +kernel
theorem dX8_status_27 : decode cX8_status 27 = .ok (.iaload, 1) := by decide +kernel
theorem dX8_status_28 : decode cX8_status 28 = .ok (.ireturn, 1) := by decide +kernel
theorem dX8_status_29 : decode cX8_status 29 = .ok (.iconst 0, 1) := by decide +kernel
theorem dX8_status_30 : decode cX8_status 30 = .ok (.istore_n 2, 1) := by decide +kernel
theorem dX8_status_31 : decode cX8_status 31 = .ok (.iconst 0, 1) := by decide +kernel
theorem dX8_status_32 : decode cX8_status 32 = .ok (.istore_n 3, 1) := by decide +kernel
theorem dX8_status_33 : decode cX8_status 33 = .ok (.iload_n 3, 1) := by decide +kernel
theorem dX8_status_34 : decode cX8_status 34 = .ok (.bipush 7, 2) := by decide +kernel
theorem dX8_status_36 : decode cX8_status 36 = .ok (.if_icmp .ge 18, 3) := by decide +kernel
theorem dX8_status_39 : decode cX8_status 39 = .ok (.iload_n 2, 1) := by decide +kernel
theorem dX8_status_40 : decode cX8_status 40 = .ok (.aload_n 0, 1) := by decide +kernel
theorem dX8_status_41 : decode cX8_status 41 = .ok (.getfield 46, 3) := by decide +kernel
theorem dX8_status_44 : decode cX8_status 44 = .ok (.iload_n 3, 1) := by decide +kernel
theorem dX8_status_45 : decode cX8_status 45 = .ok (.iaload, 1) := by decide +kernel
theorem dX8_status_46 : decode cX8_status 46 = .ok (.iadd, 1) := by decide +kernel
theorem dX8_status_47 : decode cX8_status 47 = .ok (.istore_n 2, 1) := by decide +kernel
theorem dX8_status_48 : decode cX8_status 48 = .ok (.iinc 3 1, 3) := by decide +kernel
theorem dX8_status_51 : decode cX8_status 51 = .ok (.goto (-18), 3) := by decide +kernel
theorem dX8_status_54 : decode cX8_status 54 = .ok (.iload_n 2, 1) := by decide +kernel
theorem dX8_status_55 : decode cX8_status 55 = .ok (.ireturn, 1) := by decide +kernel
theorem dX8_finding_0 : decode cX8_finding 0 = .ok (.ldc 62, 2) := by decide +kernel
theorem dX8_finding_2 : decode cX8_finding 2 = .ok (.iload_n 1, 1) := by decide +kernel
theorem dX8_finding_3 : decode cX8_finding 3 = .ok (.isub, 1) := by decide +kernel
theorem dX8_finding_4 : decode cX8_finding 4 = .ok (.istore_n 2, 1) := by decide +kernel
theorem dX8_finding_5 : decode cX8_finding 5 = .ok (.iload_n 2, 1) := by decide +kernel
theorem dX8_finding_6 : decode cX8_finding 6 = .ok (.ifCond .lt 19, 3) := by decide +kernel
theorem dX8_finding_9 : decode cX8_finding 9 = .ok (.iload_n 2, 1) := by decide +kernel
theorem dX8_finding_10 : decode cX8_finding 10 = .ok (.bipush 7, 2) := by decide +kernel
theorem dX8_finding_12 : decode cX8_finding 12 = .ok (.if_icmp .ge 13, 3) := by decide +kernel
theorem dX8_finding_15 : decode cX8_finding 15 = .ok (.aload_n 0, 1) := by decide +kernel
theorem dX8_finding_16 : decode cX8_finding 16 = .ok (.getfield 46, 3) := by decide +kernel
theorem dX8_finding_19 : decode cX8_finding 19 = .ok (.iload_n 2, 1) := by decide +kernel
theorem dX8_finding_20 : decode cX8_finding 20 = .ok (.dup2, 1) := by decide +kernel
theorem dX8_finding_21 : decode cX8_finding 21 = .ok (.iaload, 1) := by decide +kernel
theorem dX8_finding_22 : decode cX8_finding 22 = .ok (.iconst 1, 1) := by decide +kernel
theorem dX8_finding_23 : decode cX8_finding 23 = .ok (.iadd, 1) := by decide +kernel
theorem dX8_finding_24 : decode cX8_finding 24 = .ok (.iastore, 1) := by decide +kernel
theorem dX8_finding_25 : decode cX8_finding 25 = .ok (.iload_n 1, 1) := by decide +kernel
theorem dX8_finding_26 : decode cX8_finding 26 = .ok (.ireturn, 1) := by decide +kernel
theorem dX8_paperAt_0 : decode cX8_paperAt 0 = .ok (.iload_n 1, 1) := by decide +kernel
theorem dX8_paperAt_1 : decode cX8_paperAt 1 = .ok (.ifCond .lt 8, 3) := by decide +kernel
theorem dX8_paperAt_4 : decode cX8_paperAt 4 = .ok (.iload_n 1, 1) := by decide +kernel
theorem dX8_paperAt_5 : decode cX8_paperAt 5 = .ok (.iconst 4, 1) := by decide +kernel
theorem dX8_paperAt_6 : decode cX8_paperAt 6 = .ok (.if_icmp .lt 7, 3) := by decide +kernel
theorem dX8_paperAt_9 : decode cX8_paperAt 9 = .ok (.aconst_null, 1) := by decide +kernel
theorem dX8_paperAt_10 : decode cX8_paperAt 10 = .ok (.goto 9, 3) := by decide +kernel
theorem dX8_paperAt_13 : decode cX8_paperAt 13 = .ok (.aload_n 0, 1) := by decide +kernel
theorem dX8_paperAt_14 : decode cX8_paperAt 14 = .ok (.getfield 42, 3) := by decide +kernel
theorem dX8_paperAt_17 : decode cX8_paperAt 17 = .ok (.iload_n 1, 1) := by decide +kernel
theorem dX8_paperAt_18 : decode cX8_paperAt 18 = .ok (.aaload, 1) := by decide +kernel
theorem dX8_paperAt_19 : decode cX8_paperAt 19 = .ok (.areturn, 1) := by decide +kernel
theorem dX8_isKind_0 : decode cX8_isKind 0 = .ok (.iload_n 0, 1) := by decide +kernel
theorem dX8_isKind_1 : decode cX8_isKind 1 = .ok (.ifCond .lt 13, 3) := by decide +kernel
theorem dX8_isKind_4 : decode cX8_isKind 4 = .ok (.iload_n 0, 1) := by decide +kernel
theorem dX8_isKind_5 : decode cX8_isKind 5 = .ok (.bipush 6, 2) := by decide +kernel
theorem dX8_isKind_7 : decode cX8_isKind 7 = .ok (.if_icmp .ge 7, 3) := by decide +kernel
theorem dX8_isKind_10 : decode cX8_isKind 10 = .ok (.iconst 1, 1) := by decide +kernel
theorem dX8_isKind_11 : decode cX8_isKind 11 = .ok (.goto 4, 3) := by decide +kernel
theorem dX8_isKind_14 : decode cX8_isKind 14 = .ok (.iconst 0, 1) := by decide +kernel
theorem dX8_isKind_15 : decode cX8_isKind 15 = .ok (.ireturn, 1) := by decide +kernel
theorem dX8_isPoints_0 : decode cX8_isPoints 0 = .ok (.iload_n 0, 1) := by decide +kernel
theorem dX8_isPoints_1 : decode cX8_isPoints 1 = .ok (.ifCond .lt 14, 3) := by decide +kernel
theorem dX8_isPoints_4 : decode cX8_isPoints 4 = .ok (.iload_n 0, 1) := by decide +kernel
theorem dX8_isPoints_5 : decode cX8_isPoints 5 = .ok (.ldc_w 307, 3) := by decide +kernel
theorem dX8_isPoints_8 : decode cX8_isPoints 8 = .ok (.if_icmp .gt 7, 3) := by decide +kernel
theorem dX8_isPoints_11 : decode cX8_isPoints 11 = .ok (.iconst 1, 1) := by decide +kernel
theorem dX8_isPoints_12 : decode cX8_isPoints 12 = .ok (.goto 4, 3) := by decide +kernel
theorem dX8_isPoints_15 : decode cX8_isPoints 15 = .ok (.iconst 0, 1) := by decide +kernel
theorem dX8_isPoints_16 : decode cX8_isPoints 16 = .ok (.ireturn, 1) := by decide +kernel
theorem dX8_isWidth_0 : decode cX8_isWidth 0 = .ok (.iload_n 0, 1) := by decide +kernel
theorem dX8_isWidth_1 : decode cX8_isWidth 1 = .ok (.ifCond .eq 21, 3) := by decide +kernel
theorem dX8_isWidth_4 : decode cX8_isWidth 4 = .ok (.iload_n 0, 1) := by decide +kernel
theorem dX8_isWidth_5 : decode cX8_isWidth 5 = .ok (.bipush 8, 2) := by decide +kernel
theorem dX8_isWidth_7 : decode cX8_isWidth 7 = .ok (.if_icmp .eq 15, 3) := by decide +kernel
theorem dX8_isWidth_10 : decode cX8_isWidth 10 = .ok (.iload_n 0, 1) := by decide +kernel
theorem dX8_isWidth_11 : decode cX8_isWidth 11 = .ok (.bipush 16, 2) := by decide +kernel
theorem dX8_isWidth_13 : decode cX8_isWidth 13 = .ok (.if_icmp .eq 9, 3) := by decide +kernel
theorem dX8_isWidth_16 : decode cX8_isWidth 16 = .ok (.iload_n 0, 1) := by decide +kernel
theorem dX8_isWidth_17 : decode cX8_isWidth 17 = .ok (.bipush 64, 2) := by decide +kernel
theorem dX8_isWidth_19 : decode cX8_isWidth 19 = .ok (.if_icmp .ne 7, 3) := by decide +kernel
theorem dX8_isWidth_22 : decode cX8_isWidth 22 = .ok (.iconst 1, 1) := by decide +kernel
theorem dX8_isWidth_23 : decode cX8_isWidth 23 = .ok (.goto 4, 3) := by decide +kernel
theorem dX8_isWidth_26 : decode cX8_isWidth 26 = .ok (.iconst 0, 1) := by decide +kernel
theorem dX8_isWidth_27 : decode cX8_isWidth 27 = .ok (.ireturn, 1) := by decide +kernel
set_option maxRecDepth 20000 in
theorem ggX9_init_X9_dropAll : GoodIn wsX9_init wsX9_dropAll := goodIn_r _ [26, 5, 27, 28, 29, 30, 31, 32, 33, 34, 35, 36, 37, 38, 39, 40, 41, 42, 43, 44, 45, 46, 47, 48, 49, 50, 51, 52, 53, 54] (by decide +kernel) (by decide +kernel)
set_option maxRecDepth 20000 in
theorem gX9_init_X9_dropAll : GoodIn wsX9_init (wsV RX9 71 RX9 yX9_dropAll wsX9_dropAll) := goodIn_app (goodIn_of _ (by decide +kernel)) ggX9_init_X9_dropAll
theorem dX9_init_0 : decode cX9_init 0 = .ok (.aload_n 0, 1) := by decide +kernel
theorem dX9_init_1 : decode cX9_init 1 = .ok (.invokespecial 1, 3) := by decide +kernel
theorem dX9_init_4 : decode cX9_init 4 = .ok (.aload_n 0, 1) := by decide +kernel
theorem dX9_init_5 : decode cX9_init 5 = .ok (.bipush 38, 2) := by decide +kernel
theorem dX9_init_7 : decode cX9_init 7 = .ok (.newarray .int, 2) := by decide +kernel
theorem dX9_init_9 : decode cX9_init 9 = .ok (.putfield 9, 3) := by decide +kernel
theorem dX9_init_12 : decode cX9_init 12 = .ok (.aload_n 0, 1) := by decide +kernel
theorem dX9_init_13 : decode cX9_init 13 = .ok (.bipush 38, 2) := by decide +kernel
theorem dX9_init_15 : decode cX9_init 15 = .ok (.newarray .int, 2) := by decide +kernel
theorem dX9_init_17 : decode cX9_init 17 = .ok (.putfield 13, 3) := by decide +kernel
theorem dX9_init_20 : decode cX9_init 20 = .ok (.aload_n 0, 1) := by decide +kernel
theorem dX9_init_21 : decode cX9_init 21 = .ok (.bipush 7, 2) := by decide +kernel
theorem dX9_init_23 : decode cX9_init 23 = .ok (.newarray .long, 2) := by decide +kernel
theorem dX9_init_25 : decode cX9_init 25 = .ok (.putfield 16, 3) := by decide +kernel
theorem dX9_init_28 : decode cX9_init 28 = .ok (.aload_n 0, 1) := by decide +kernel
theorem dX9_init_29 : decode cX9_init 29 = .ok (.bipush 7, 2) := by decide +kernel
theorem dX9_init_31 : decode cX9_init 31 = .ok (.newarray .long, 2) := by decide +kernel
theorem dX9_init_33 : decode cX9_init 33 = .ok (.putfield 20, 3) := by decide +kernel
theorem dX9_init_36 : decode cX9_init 36 = .ok (.aload_n 0, 1) := by decide +kernel
theorem dX9_init_37 : decode cX9_init 37 = .ok (.bipush 8, 2) := by decide +kernel
theorem dX9_init_39 : decode cX9_init 39 = .ok (.newarray .int, 2) := by decide +kernel
theorem dX9_init_41 : decode cX9_init 41 = .ok (.putfield 23, 3) := by decide +kernel
theorem dX9_init_44 : decode cX9_init 44 = .ok (.aload_n 0, 1) := by decide +kernel
theorem dX9_init_45 : decode cX9_init 45 = .ok (.bipush 7, 2) := by decide +kernel
theorem dX9_init_47 : decode cX9_init 47 = .ok (.newarray .int, 2) := by decide +kernel
theorem dX9_init_49 : decode cX9_init 49 = .ok (.putfield 26, 3) := by decide +kernel
theorem dX9_init_52 : decode cX9_init 52 = .ok (.aload_n 0, 1) := by decide +kernel
theorem dX9_init_53 : decode cX9_init 53 = .ok (.bipush 7, 2) := by decide +kernel
theorem dX9_init_55 : decode cX9_init 55 = .ok (.newarray .int, 2) := by decide +kernel
theorem dX9_init_57 : decode cX9_init 57 = .ok (.putfield 29, 3) := by decide +kernel
theorem dX9_init_60 : decode cX9_init 60 = .ok (.aload_n 0, 1) := by decide +kernel
theorem dX9_init_61 : decode cX9_init 61 = .ok (.bipush 120, 2) := by decide +kernel
theorem dX9_init_63 : decode cX9_init 63 = .ok (.newarray .int, 2) := by decide +kernel
theorem dX9_init_65 : decode cX9_init 65 = .ok (.putfield 32, 3) := by decide +kernel
theorem dX9_init_68 : decode cX9_init 68 = .ok (.aload_n 0, 1) := by decide +kernel
theorem dX9_init_69 : decode cX9_init 69 = .ok (.bipush 6, 2) := by decide +kernel
theorem dX9_init_71 : decode cX9_init 71 = .ok (.anewarray 35, 3) := by decide +kernel
theorem dX9_init_74 : decode cX9_init 74 = .ok (.dup, 1) := by decide +kernel
theorem dX9_init_75 : decode cX9_init 75 = .ok (.iconst 0, 1) := by decide +kernel
theorem dX9_init_76 : decode cX9_init 76 = .ok (.ldc 37, 2) := by decide +kernel
theorem dX9_init_78 : decode cX9_init 78 = .ok (.aastore, 1) := by decide +kernel
theorem dX9_init_79 : decode cX9_init 79 = .ok (.dup, 1) := by decide +kernel
theorem dX9_init_80 : decode cX9_init 80 = .ok (.iconst 1, 1) := by decide +kernel
theorem dX9_init_81 : decode cX9_init 81 = .ok (.ldc 39, 2) := by decide +kernel
theorem dX9_init_83 : decode cX9_init 83 = .ok (.aastore, 1) := by decide +kernel
theorem dX9_init_84 : decode cX9_init 84 = .ok (.dup, 1) := by decide +kernel
theorem dX9_init_85 : decode cX9_init 85 = .ok (.iconst 2, 1) := by decide +kernel
theorem dX9_init_86 : decode cX9_init 86 = .ok (.ldc 41, 2) := by decide +kernel
theorem dX9_init_88 : decode cX9_init 88 = .ok (.aastore, 1) := by decide +kernel
theorem dX9_init_89 : decode cX9_init 89 = .ok (.dup, 1) := by decide +kernel
theorem dX9_init_90 : decode cX9_init 90 = .ok (.iconst 3, 1) := by decide +kernel
theorem dX9_init_91 : decode cX9_init 91 = .ok (.ldc 43, 2) := by decide +kernel
theorem dX9_init_93 : decode cX9_init 93 = .ok (.aastore, 1) := by decide +kernel
theorem dX9_init_94 : decode cX9_init 94 = .ok (.dup, 1) := by decide +kernel
theorem dX9_init_95 : decode cX9_init 95 = .ok (.iconst 4, 1) := by decide +kernel
theorem dX9_init_96 : decode cX9_init 96 = .ok (.ldc 45, 2) := by decide +kernel
theorem dX9_init_98 : decode cX9_init 98 = .ok (.aastore, 1) := by decide +kernel
theorem dX9_init_99 : decode cX9_init 99 = .ok (.dup, 1) := by decide +kernel
theorem dX9_init_100 : decode cX9_init 100 = .ok (.iconst 5, 1) := by decide +kernel
theorem dX9_init_101 : decode cX9_init 101 = .ok (.ldc 47, 2) := by decide +kernel
theorem dX9_init_103 : decode cX9_init 103 = .ok (.aastore, 1) := by decide +kernel
theorem dX9_init_104 : decode cX9_init 104 = .ok (.putfield 49, 3) := by decide +kernel
theorem dX9_init_107 : decode cX9_init 107 = .ok (.aload_n 0, 1) := by decide +kernel
theorem dX9_init_108 : decode cX9_init 108 = .ok (.sipush 360, 3) := by decide +kernel
theorem dX9_init_111 : decode cX9_init 111 = .ok (.newarray .int, 2) := by decide +kernel
theorem dX9_init_113 : decode cX9_init 113 = .ok (.putfield 53, 3) := by decide +kernel
theorem dX9_init_116 : decode cX9_init 116 = .ok (.aload_n 0, 1) := by decide +kernel
theorem dX9_init_117 : decode cX9_init 117 = .ok (.bipush 120, 2) := by decide +kernel
theorem dX9_init_119 : decode cX9_init 119 = .ok (.newarray .long, 2) := by decide +kernel
theorem dX9_init_121 : decode cX9_init 121 = .ok (.putfield 56, 3) := by decide +kernel
theorem dX9_init_124 : decode cX9_init 124 = .ok (.aload_n 0, 1) := by decide +kernel
theorem dX9_init_125 : decode cX9_init 125 = .ok (.iconst 4, 1) := by decide +kernel
theorem dX9_init_126 : decode cX9_init 126 = .ok (.newarray .int, 2) := by decide +kernel
theorem dX9_init_128 : decode cX9_init 128 = .ok (.putfield 59, 3) := by decide +kernel
theorem dX9_init_131 : decode cX9_init 131 = .ok (.aload_n 0, 1) := by decide +kernel
theorem dX9_init_132 : decode cX9_init 132 = .ok (.iconst 4, 1) := by decide +kernel
theorem dX9_init_133 : decode cX9_init 133 = .ok (.newarray .int, 2) := by decide +kernel
theorem dX9_init_135 : decode cX9_init 135 = .ok (.putfield 62, 3) := by decide +kernel
theorem dX9_init_138 : decode cX9_init 138 = .ok (.aload_n 0, 1) := by decide +kernel
theorem dX9_init_139 : decode cX9_init 139 = .ok (.sipush 160, 3) := by decide +kernel
theorem dX9_init_142 : decode cX9_init 142 = .ok (.newarray .long, 2) := by decide +kernel
theorem dX9_init_144 : decode cX9_init 144 = .ok (.putfield 65, 3) := by decide +kernel
theorem dX9_init_147 : decode cX9_init 147 = .ok (.aload_n 0, 1) := by decide +kernel
theorem dX9_init_148 : decode cX9_init 148 = .ok (.bipush 40, 2) := by decide +kernel
theorem dX9_init_150 : decode cX9_init 150 = .ok (.newarray .long, 2) := by decide +kernel
theorem dX9_init_152 : decode cX9_init 152 = .ok (.putfield 68, 3) := by decide +kernel
theorem dX9_init_155 : decode cX9_init 155 = .ok (.aload_n 0, 1) := by decide +kernel
theorem dX9_init_156 : decode cX9_init 156 = .ok (.getfield 9, 3) := by decide +kernel
theorem dX9_init_159 : decode cX9_init 159 = .ok (.iconst 2, 1) := by decide +kernel
theorem dX9_init_160 : decode cX9_init 160 = .ok (.bipush 63, 2) := by decide +kernel
theorem dX9_init_162 : decode cX9_init 162 = .ok (.iastore, 1) := by decide +kernel
theorem dX9_init_163 : decode cX9_init 163 = .ok (.aload_n 0, 1) := by decide +kernel
theorem dX9_init_164 : decode cX9_init 164 = .ok (.invokevirtual 71, 3) := by decide +kernel
theorem dX9_init_167 : decode cX9_init 167 = .ok (.return_, 1) := by decide +kernel
theorem dX9_finding_0 : decode cX9_finding 0 = .ok (.aload_n 0, 1) := by decide +kernel
theorem dX9_finding_1 : decode cX9_finding 1 = .ok (.getfield 23, 3) := by decide +kernel
theorem dX9_finding_4 : decode cX9_finding 4 = .ok (.ldc 74, 2) := by decide +kernel
theorem dX9_finding_6 : decode cX9_finding 6 = .ok (.iload_n 1, 1) := by decide +kernel
theorem dX9_finding_7 : decode cX9_finding 7 = .ok (.isub, 1) := by decide +kernel
theorem dX9_finding_8 : decode cX9_finding 8 = .ok (.iconst 1, 1) := by decide +kernel
theorem dX9_finding_9 : decode cX9_finding 9 = .ok (.iadd, 1) := by decide +kernel
theorem dX9_finding_10 : decode cX9_finding 10 = .ok (.dup2, 1) := by decide +kernel
theorem dX9_finding_11 : decode cX9_finding 11 = .ok (.iaload, 1) := by decide +kernel
theorem dX9_finding_12 : decode cX9_finding 12 = .ok (.iconst 1, 1) := by decide +kernel
theorem dX9_finding_13 : decode cX9_finding 13 = .ok (.iadd, 1) := by decide +kernel
theorem dX9_finding_14 : decode cX9_finding 14 = .ok (.iastore, 1) := by decide +kernel
theorem dX9_finding_15 : decode cX9_finding 15 = .ok (.aload_n 0, 1) := by decide +kernel
theorem dX9_finding_16 : decode cX9_finding 16 = .ok (.getfield 23, 3) := by decide +kernel
theorem dX9_finding_19 : decode cX9_finding 19 = .ok (.iconst 0, 1) := by decide +kernel
theorem dX9_finding_20 : decode cX9_finding 20 = .ok (.dup2, 1) := by decide +kernel
theorem dX9_finding_21 : decode cX9_finding 21 = .ok (.iaload, 1) := by decide +kernel
theorem dX9_finding_22 : decode cX9_finding 22 = .ok (.iconst 1, 1) := by decide +kernel
theorem dX9_finding_23 : decode cX9_finding 23 = .ok (.iadd, 1) := by decide +kernel
theorem dX9_finding_24 : decode cX9_finding 24 = .ok (.iastore, 1) := by decide +kernel
theorem dX9_finding_25 : decode cX9_finding 25 = .ok (.iload_n 1, 1) := by decide +kernel
theorem dX9_finding_26 : decode cX9_finding 26 = .ok (.ireturn, 1) := by decide +kernel
theorem dX9_within_0 : decode cX9_within 0 = .ok (.iload_n 0, 1) := by decide +kernel
theorem dX9_within_1 : decode cX9_within 1 = .ok (.iload_n 1, 1) := by decide +kernel
theorem dX9_within_2 : decode cX9_within 2 = .ok (.if_icmp .lt 12, 3) := by decide +kernel
theorem dX9_within_5 : decode cX9_within 5 = .ok (.iload_n 0, 1) := by decide +kernel
theorem dX9_within_6 : decode cX9_within 6 = .ok (.iload_n 2, 1) := by decide +kernel
theorem dX9_within_7 : decode cX9_within 7 = .ok (.if_icmp .gt 7, 3) := by decide +kernel
theorem dX9_within_10 : decode cX9_within 10 = .ok (.iconst 1, 1) := by decide +kernel
theorem dX9_within_11 : decode cX9_within 11 = .ok (.goto 4, 3) := by decide +kernel
theorem dX9_within_14 : decode cX9_within 14 = .ok (.iconst 0, 1) := by decide +kernel
theorem dX9_within_15 : decode cX9_within 15 = .ok (.ireturn, 1) := by decide +kernel
theorem dX9_putIn_0 : decode cX9_putIn 0 = .ok (.aload_n 0, 1) := by decide +kernel
theorem dX9_putIn_1 : decode cX9_putIn 1 = .ok (.getfield 9, 3) := by decide +kernel
theorem dX9_putIn_4 : decode cX9_putIn 4 = .ok (.iload_n 1, 1) := by decide +kernel
theorem dX9_putIn_5 : decode cX9_putIn 5 = .ok (.iaload, 1) := by decide +kernel
theorem dX9_putIn_6 : decode cX9_putIn 6 = .ok (.istore_n 3, 1) := by decide +kernel
theorem dX9_putIn_7 : decode cX9_putIn 7 = .ok (.aload_n 0, 1) := by decide +kernel
theorem dX9_putIn_8 : decode cX9_putIn 8 = .ok (.getfield 9, 3) := by decide +kernel
theorem dX9_putIn_11 : decode cX9_putIn 11 = .ok (.iload_n 1, 1) := by decide +kernel
theorem dX9_putIn_12 : decode cX9_putIn 12 = .ok (.iload_n 2, 1) := by decide +kernel
theorem dX9_putIn_13 : decode cX9_putIn 13 = .ok (.iastore, 1) := by decide +kernel
theorem dX9_putIn_14 : decode cX9_putIn 14 = .ok (.iload_n 3, 1) := by decide +kernel
theorem dX9_putIn_15 : decode cX9_putIn 15 = .ok (.ireturn, 1) := by decide +kernel
theorem dX9_bits_0 : decode cX9_bits 0 = .ok (.iconst 0, 1) := by decide +kernel
theorem dX9_bits_1 : decode cX9_bits 1 = .ok (.istore_n 2, 1) := by decide +kernel
theorem dX9_bits_2 : decode cX9_bits 2 = .ok (.lload_n 0, 1) := by decide +kernel
theorem dX9_bits_3 : decode cX9_bits 3 = .ok (.lstore_n 3, 1) := by decide +kernel
theorem dX9_bits_4 : decode cX9_bits 4 = .ok (.lload_n 3, 1) := by decide +kernel
theorem dX9_bits_5 : decode cX9_bits 5 = .ok (.lconst 0, 1) := by decide +kernel
theorem dX9_bits_6 : decode cX9_bits 6 = .ok (.lcmp, 1) := by decide +kernel
theorem dX9_bits_7 : decode cX9_bits 7 = .ok (.ifCond .eq 15, 3) := by decide +kernel
theorem dX9_bits_10 : decode cX9_bits 10 = .ok (.iinc 2 1, 3) := by decide +kernel
theorem dX9_bits_13 : decode cX9_bits 13 = .ok (.lload_n 3, 1) := by decide +kernel
theorem dX9_bits_14 : decode cX9_bits 14 = .ok (.lload_n 3, 1) := by decide +kernel
theorem dX9_bits_15 : decode cX9_bits 15 = .ok (.lconst 1, 1) := by decide +kernel
theorem dX9_bits_16 : decode cX9_bits 16 = .ok (.lsub, 1) := by decide +kernel
theorem dX9_bits_17 : decode cX9_bits 17 = .ok (.land, 1) := by decide +kernel
theorem dX9_bits_18 : decode cX9_bits 18 = .ok (.lstore_n 3, 1) := by decide +kernel
theorem dX9_bits_19 : decode cX9_bits 19 = .ok (.goto (-15), 3) := by decide +kernel
theorem dX9_bits_22 : decode cX9_bits 22 = .ok (.iload_n 2, 1) := by decide +kernel
theorem dX9_bits_23 : decode cX9_bits 23 = .ok (.ireturn, 1) := by decide +kernel
set_option maxRecDepth 20000 in
theorem ggX9_isShape_X9_within : GoodIn wsX9_isShape wsX9_within := goodIn_r _ [5] (by decide +kernel) (by decide +kernel)
set_option maxRecDepth 20000 in
theorem gX9_isShape_X9_within : GoodIn wsX9_isShape (va_wsS RX9 75 yX9_within wsX9_within) := goodIn_app (goodIn_of _ (by decide +kernel)) ggX9_isShape_X9_within
theorem dX9_isShape_0 : decode cX9_isShape 0 = .ok (.iload_n 1, 1) := by decide +kernel
theorem dX9_isShape_1 : decode cX9_isShape 1 = .ok (.iconst 0, 1) := by decide +kernel
theorem dX9_isShape_2 : decode cX9_isShape 2 = .ok (.aload_n 0, 1) := by decide +kernel
theorem dX9_isShape_3 : decode cX9_isShape 3 = .ok (.getfield 9, 3) := by decide +kernel
theorem dX9_isShape_6 : decode cX9_isShape 6 = .ok (.iconst 0, 1) := by decide +kernel
theorem dX9_isShape_7 : decode cX9_isShape 7 = .ok (.iaload, 1) := by decide +kernel
theorem dX9_isShape_8 : decode cX9_isShape 8 = .ok (.iconst 1, 1) := by decide +kernel
theorem dX9_isShape_9 : decode cX9_isShape 9 = .ok (.isub, 1) := by decide +kernel
theorem dX9_isShape_10 : decode cX9_isShape 10 = .ok (.invokestatic 75, 3) := by decide +kernel
theorem dX9_isShape_13 : decode cX9_isShape 13 = .ok (.ireturn, 1) := by decide +kernel
theorem dX9_shapeIs_0 : decode cX9_shapeIs 0 = .ok (.aload_n 0, 1) := by decide +kernel
theorem dX9_shapeIs_1 : decode cX9_shapeIs 1 = .ok (.getfield 9, 3) := by decide +kernel
theorem dX9_shapeIs_4 : decode cX9_shapeIs 4 = .ok (.iconst 3, 1) := by decide +kernel
theorem dX9_shapeIs_5 : decode cX9_shapeIs 5 = .ok (.iconst 3, 1) := by decide +kernel
theorem dX9_shapeIs_6 : decode cX9_shapeIs 6 = .ok (.iload_n 1, 1) := by decide +kernel
theorem dX9_shapeIs_7 : decode cX9_shapeIs 7 = .ok (.imul, 1) := by decide +kernel
theorem dX9_shapeIs_8 : decode cX9_shapeIs 8 = .ok (.iadd, 1) := by decide +kernel
theorem dX9_shapeIs_9 : decode cX9_shapeIs 9 = .ok (.iload_n 2, 1) := by decide +kernel
theorem dX9_shapeIs_10 : decode cX9_shapeIs 10 = .ok (.iadd, 1) := by decide +kernel
theorem dX9_shapeIs_11 : decode cX9_shapeIs 11 = .ok (.iaload, 1) := by decide +kernel
theorem dX9_shapeIs_12 : decode cX9_shapeIs 12 = .ok (.ireturn, 1) := by decide +kernel
set_option maxRecDepth 20000 in
theorem ggX9_isKind_X9_within : GoodIn wsX9_isKind wsX9_within := goodIn_r _ [4] (by decide +kernel) (by decide +kernel)
set_option maxRecDepth 20000 in
theorem gX9_isKind_X9_within : GoodIn wsX9_isKind (va_wsS RX9 75 yX9_within wsX9_within) := goodIn_app (goodIn_of _ (by decide +kernel)) ggX9_isKind_X9_within
theorem dX9_isKind_0 : decode cX9_isKind 0 = .ok (.iload_n 0, 1) := by decide +kernel
theorem dX9_isKind_1 : decode cX9_isKind 1 = .ok (.iconst 0, 1) := by decide +kernel
theorem dX9_isKind_2 : decode cX9_isKind 2 = .ok (.iconst 5, 1) := by decide +kernel
theorem dX9_isKind_3 : decode cX9_isKind 3 = .ok (.invokestatic 75, 3) := by decide +kernel
theorem dX9_isKind_6 : decode cX9_isKind 6 = .ok (.ireturn, 1) := by decide +kernel
theorem dX9_made_0 : decode cX9_made 0 = .ok (.aload_n 0, 1) := by decide +kernel
theorem dX9_made_1 : decode cX9_made 1 = .ok (.getfield 9, 3) := by decide +kernel
theorem dX9_made_4 : decode cX9_made 4 = .ok (.iconst 0, 1) := by decide +kernel
theorem dX9_made_5 : decode cX9_made 5 = .ok (.iaload, 1) := by decide +kernel
theorem dX9_made_6 : decode cX9_made 6 = .ok (.istore_n 3, 1) := by decide +kernel
theorem dX9_made_7 : decode cX9_made 7 = .ok (.iconst 3, 1) := by decide +kernel
theorem dX9_made_8 : decode cX9_made 8 = .ok (.iconst 3, 1) := by decide +kernel
theorem dX9_made_9 : decode cX9_made 9 = .ok (.iload_n 3, 1) := by decide +kernel
theorem dX9_made_10 : decode cX9_made 10 = .ok (.imul, 1) := by decide +kernel
theorem dX9_made_11 : decode cX9_made 11 = .ok (.iadd, 1) := by decide +kernel
theorem dX9_made_12 : decode cX9_made 12 = .ok (.istore 4, 2) := by decide +kernel
theorem dX9_made_14 : decode cX9_made 14 = .ok (.aload_n 0, 1) := by decide +kernel
theorem dX9_made_15 : decode cX9_made 15 = .ok (.getfield 9, 3) := by decide +kernel
theorem dX9_made_18 : decode cX9_made 18 = .ok (.iload 4, 2) := by decide +kernel
theorem dX9_made_20 : decode cX9_made 20 = .ok (.iconst 0, 1) := by decide +kernel
theorem dX9_made_21 : decode cX9_made 21 = .ok (.iadd, 1) := by decide +kernel
theorem dX9_made_22 : decode cX9_made 22 = .ok (.iload_n 1, 1) := by decide +kernel
theorem dX9_made_23 : decode cX9_made 23 = .ok (.iastore, 1) := by decide +kernel
theorem dX9_made_24 : decode cX9_made 24 = .ok (.aload_n 0, 1) := by decide +kernel
theorem dX9_made_25 : decode cX9_made 25 = .ok (.getfield 9, 3) := by decide +kernel
theorem dX9_made_28 : decode cX9_made 28 = .ok (.iload 4, 2) := by decide +kernel
theorem dX9_made_30 : decode cX9_made 30 = .ok (.iconst 1, 1) := by decide +kernel
theorem dX9_made_31 : decode cX9_made 31 = .ok (.iadd, 1) := by decide +kernel
theorem dX9_made_32 : decode cX9_made 32 = .ok (.iload_n 2, 1) := by decide +kernel
theorem dX9_made_33 : decode cX9_made 33 = .ok (.iastore, 1) := by decide +kernel
theorem dX9_made_34 : decode cX9_made 34 = .ok (.aload_n 0, 1) := by decide +kernel
theorem dX9_made_35 : decode cX9_made 35 = .ok (.getfield 9, 3) := by decide +kernel
theorem dX9_made_38 : decode cX9_made 38 = .ok (.iload 4, 2) := by decide +kernel
theorem dX9_made_40 : decode cX9_made 40 = .ok (.iconst 2, 1) := by decide +kernel
theorem dX9_made_41 : decode cX9_made 41 = .ok (.iadd, 1) := by decide +kernel
theorem dX9_made_42 : decode cX9_made 42 = .ok (.iconst 0, 1) := by decide +kernel
theorem dX9_made_43 : decode cX9_made 43 = .ok (.iastore, 1) := by decide +kernel
theorem dX9_made_44 : decode cX9_made 44 = .ok (.aload_n 0, 1) := by decide +kernel
theorem dX9_made_45 : decode cX9_made 45 = .ok (.getfield 9, 3) := by decide +kernel
theorem dX9_made_48 : decode cX9_made 48 = .ok (.iconst 0, 1) := by decide +kernel
theorem dX9_made_49 : decode cX9_made 49 = .ok (.dup2, 1) := by decide +kernel
theorem dX9_made_50 : decode cX9_made 50 = .ok (.iaload, 1) := by decide +kernel
theorem dX9_made_51 : decode cX9_made 51 = .ok (.iconst 1, 1) := by decide +kernel
theorem dX9_made_52 : decode cX9_made 52 = .ok (.iadd, 1) := by decide +kernel
theorem dX9_made_53 : decode cX9_made 53 = .ok (.iastore, 1) := by decide +kernel
theorem dX9_made_54 : decode cX9_made 54 = .ok (.iload_n 3, 1) := by decide +kernel
theorem dX9_made_55 : decode cX9_made 55 = .ok (.ireturn, 1) := by decide +kernel
set_option maxRecDepth 20000 in
theorem ggX9_shape_X9_isKind : GoodIn wsX9_shape wsX9_isKind := goodIn_r _ [8, 9, 10, 7, 11] (by decide +kernel) (by decide +kernel)
set_option maxRecDepth 20000 in
theorem gX9_shape_X9_isKind : GoodIn wsX9_shape (va_wsS RX9 79 yX9_isKind wsX9_isKind) := goodIn_app (goodIn_of _ (by decide +kernel)) ggX9_shape_X9_isKind
set_option maxRecDepth 20000 in
theorem ggX9_shape_X9_within : GoodIn wsX9_shape wsX9_within := goodIn_r _ [11] (by decide +kernel) (by decide +kernel)
set_option maxRecDepth 20000 in
theorem gX9_shape_X9_within : GoodIn wsX9_shape (va_wsS RX9 75 yX9_within wsX9_within) := goodIn_app (goodIn_of _ (by decide +kernel)) ggX9_shape_X9_within
set_option maxRecDepth 20000 in
theorem ggX9_shape_X9_finding : GoodIn wsX9_shape wsX9_finding := goodIn_r _ [15, 16, 2, 21, 22, 23, 24, 25, 26, 27, 28, 29, 30, 31, 32, 33, 34, 35, 36, 37, 38, 39, 40, 41, 42, 43, 44, 45, 46, 47, 48] (by decide +kernel) (by decide +kernel)
set_option maxRecDepth 20000 in
theorem gX9_shape_X9_finding : GoodIn wsX9_shape (wsV RX9 84 RX9 yX9_finding wsX9_finding) := goodIn_app (goodIn_of _ (by decide +kernel)) ggX9_shape_X9_finding
set_option maxRecDepth 20000 in
theorem ggX9_shape_X9_made : GoodIn wsX9_shape wsX9_made := goodIn_r _ [20, 3, 21, 22, 23, 24, 25, 26, 27, 28, 29, 30, 31, 32, 33, 34, 35, 36, 37, 38, 39, 40, 41, 42, 43, 44, 45, 46, 47, 48] (by decide +kernel) (by decide +kernel)
set_option maxRecDepth 20000 in
theorem gX9_shape_X9_made : GoodIn wsX9_shape (wsV RX9 89 RX9 yX9_made wsX9_made) := goodIn_app (goodIn_of _ (by decide +kernel)) ggX9_shape_X9_made
theorem dX9_shape_0 : decode cX9_shape 0 = .ok (.iload_n 1, 1) := by decide +kernel
theorem dX9_shape_1 : decode cX9_shape 1 = .ok (.invokestatic 79, 3) := by decide +kernel
theorem dX9_shape_4 : decode cX9_shape 4 = .ok (.ifCond .eq 13, 3) := by decide +kernel
theorem dX9_shape_7 : decode cX9_shape 7 = .ok (.iload_n 2, 1) := by decide +kernel
theorem dX9_shape_8 : decode cX9_shape 8 = .ok (.iconst 0, 1) := by decide +kernel
theorem dX9_shape_9 : decode cX9_shape 9 = .ok (.ldc 83, 2) := by decide +kernel
theorem dX9_shape_11 : decode cX9_shape 11 = .ok (.invokestatic 75, 3) := by decide +kernel
theorem dX9_shape_14 : decode cX9_shape 14 = .ok (.ifCond .ne 10, 3) := by decide +kernel
theorem dX9_shape_17 : decode cX9_shape 17 = .ok (.aload_n 0, 1) := by decide +kernel
theorem dX9_shape_18 : decode cX9_shape 18 = .ok (.ldc 74, 2) := by decide +kernel
theorem dX9_shape_20 : decode cX9_shape 20 = .ok (.invokevirtual 84, 3) := by decide +kernel
theorem dX9_shape_23 : decode cX9_shape 23 = .ok (.ireturn, 1) := by decide +kernel
theorem dX9_shape_24 : decode cX9_shape 24 = .ok (.aload_n 0, 1) := by decide +kernel
theorem dX9_shape_25 : decode cX9_shape 25 = .ok (.getfield 9, 3) := by decide +kernel
theorem dX9_shape_28 : decode cX9_shape 28 = .ok (.iconst 0, 1) := by decide +kernel
theorem dX9_shape_29 : decode cX9_shape 29 = .ok (.iaload, 1) := by decide +kernel
theorem dX9_shape_30 : decode cX9_shape 30 = .ok (.bipush 9, 2) := by decide +kernel
theorem dX9_shape_32 : decode cX9_shape 32 = .ok (.if_icmp .ne 12, 3) := by decide +kernel
theorem dX9_shape_35 : decode cX9_shape 35 = .ok (.aload_n 0, 1) := by decide +kernel
theorem dX9_shape_36 : decode cX9_shape 36 = .ok (.ldc 88, 2) := by decide +kernel
theorem dX9_shape_38 : decode cX9_shape 38 = .ok (.invokevirtual 84, 3) := by decide +kernel
theorem dX9_shape_41 : decode cX9_shape 41 = .ok (.goto 9, 3) := by decide +kernel
theorem dX9_shape_44 : decode cX9_shape 44 = .ok (.aload_n 0, 1) := by decide +kernel
theorem dX9_shape_45 : decode cX9_shape 45 = .ok (.iload_n 1, 1) := by decide +kernel
theorem dX9_shape_46 : decode cX9_shape 46 = .ok (.iload_n 2, 1) := by decide +kernel
theorem dX9_shape_47 : decode cX9_shape 47 = .ok (.invokevirtual 89, 3) := by decide +kernel
theorem dX9_shape_50 : decode cX9_shape 50 = .ok (.ireturn, 1) := by decide +kernel
theorem dX9_holdOf_0 : decode cX9_holdOf 0 = .ok (.iconst (-1), 1) := by decide +kernel
theorem dX9_holdOf_1 : decode cX9_holdOf 1 = .ok (.istore_n 2, 1) := by decide +kernel
theorem dX9_holdOf_2 : decode cX9_holdOf 2 = .ok (.iconst 0, 1) := by decide +kernel
theorem dX9_holdOf_3 : decode cX9_holdOf 3 = .ok (.istore_n 3, 1) := by decide +kernel
theorem dX9_holdOf_4 : decode cX9_holdOf 4 = .ok (.iload_n 3, 1) := by decide +kernel
theorem dX9_holdOf_5 : decode cX9_holdOf 5 = .ok (.iconst 4, 1) := by decide +kernel
theorem dX9_holdOf_6 : decode cX9_holdOf 6 = .ok (.if_icmp .ge 28, 3) := by decide +kernel
theorem dX9_holdOf_9 : decode cX9_holdOf 9 = .ok (.aload_n 0, 1) := by decide +kernel
theorem dX9_holdOf_10 : decode cX9_holdOf 10 = .ok (.getfield 9, 3) := by decide +kernel
theorem dX9_holdOf_13 : decode cX9_holdOf 13 = .ok (.bipush 30, 2) := by decide +kernel
theorem dX9_holdOf_15 : decode cX9_holdOf 15 = .ok (.iload_n 3, 1) := by decide +kernel
theorem dX9_holdOf_16 : decode cX9_holdOf 16 = .ok (.iadd, 1) := by decide +kernel
theorem dX9_holdOf_17 : decode cX9_holdOf 17 = .ok (.iaload, 1) := by decide +kernel
theorem dX9_holdOf_18 : decode cX9_holdOf 18 = .ok (.iload_n 1, 1) := by decide +kernel
theorem dX9_holdOf_19 : decode cX9_holdOf 19 = .ok (.if_icmp .ne 7, 3) := by decide +kernel
theorem dX9_holdOf_22 : decode cX9_holdOf 22 = .ok (.iload_n 3, 1) := by decide +kernel
theorem dX9_holdOf_23 : decode cX9_holdOf 23 = .ok (.goto 4, 3) := by decide +kernel
theorem dX9_holdOf_26 : decode cX9_holdOf 26 = .ok (.iload_n 2, 1) := by decide +kernel
theorem dX9_holdOf_27 : decode cX9_holdOf 27 = .ok (.istore_n 2, 1) := by decide +kernel
theorem dX9_holdOf_28 : decode cX9_holdOf 28 = .ok (.iinc 3 1, 3) := by decide +kernel
theorem dX9_holdOf_31 : decode cX9_holdOf 31 = .ok (.goto (-27), 3) := by decide +kernel
theorem dX9_holdOf_34 : decode cX9_holdOf 34 = .ok (.iload_n 2, 1) := by decide +kernel
theorem dX9_holdOf_35 : decode cX9_holdOf 35 = .ok (.ireturn, 1) := by decide +kernel
set_option maxRecDepth 20000 in
theorem ggX9_of_X9_isShape : GoodIn wsX9_of wsX9_isShape := goodIn_r _ [6, 7, 8, 9, 5, 10, 24, 25, 26, 27, 28, 29, 30, 31, 32, 33, 34, 35, 36, 37, 38, 39, 40, 41, 42, 43, 44, 45, 46, 47, 48, 49, 50, 51] (by decide +kernel) (by decide +kernel)
set_option maxRecDepth 20000 in
theorem gX9_of_X9_isShape : GoodIn wsX9_of (wsV RX9 93 RX9 yX9_isShape wsX9_isShape) := goodIn_app (goodIn_of _ (by decide +kernel)) ggX9_of_X9_isShape
set_option maxRecDepth 20000 in
theorem ggX9_of_X9_within : GoodIn wsX9_of wsX9_within := goodIn_r _ [10] (by decide +kernel) (by decide +kernel)
set_option maxRecDepth 20000 in
theorem gX9_of_X9_within : GoodIn wsX9_of (va_wsS RX9 75 yX9_within wsX9_within) := goodIn_app (goodIn_of _ (by decide +kernel)) ggX9_of_X9_within
set_option maxRecDepth 20000 in
theorem ggX9_of_X9_finding : GoodIn wsX9_of wsX9_finding := goodIn_r _ [14, 15, 1, 24, 25, 26, 27, 28, 29, 30, 31, 32, 33, 34, 35, 36, 37, 38, 39, 40, 41, 42, 43, 44, 45, 46, 47, 48, 49, 50, 51] (by decide +kernel) (by decide +kernel)
set_option maxRecDepth 20000 in
theorem gX9_of_X9_finding : GoodIn wsX9_of (wsV RX9 84 RX9 yX9_finding wsX9_finding) := goodIn_app (goodIn_of _ (by decide +kernel)) ggX9_of_X9_finding
set_option maxRecDepth 20000 in
theorem ggX9_of_X9_holdOf : GoodIn wsX9_of wsX9_holdOf := goodIn_r _ [19, 7, 24, 25, 26, 27, 28, 29, 30, 31, 32, 33, 34, 35, 36, 37, 38, 39, 40, 41, 42, 43, 44, 45, 46, 47, 48, 49, 50, 51] (by decide +kernel) (by decide +kernel)
set_option maxRecDepth 20000 in
theorem gX9_of_X9_holdOf : GoodIn wsX9_of (wsV RX9 96 RX9 yX9_holdOf wsX9_holdOf) := goodIn_app (goodIn_of _ (by decide +kernel)) ggX9_of_X9_holdOf
set_option maxRecDepth 20000 in
theorem ggX9_of_X9_shapeIs : GoodIn wsX9_of wsX9_shapeIs := goodIn_r _ [23, 7, 24, 25, 26, 27, 28, 29, 30, 31, 32, 33, 34, 35, 36, 37, 38, 39, 40, 41, 42, 43, 44, 45, 46, 47, 48, 49, 50, 51] (by decide +kernel) (by decide +kernel)
set_option maxRecDepth 20000 in
theorem gX9_of_X9_shapeIs : GoodIn wsX9_of (wsV RX9 99 RX9 yX9_shapeIs wsX9_shapeIs) := goodIn_app (goodIn_of _ (by decide +kernel)) ggX9_of_X9_shapeIs
theorem dX9_of_0 : decode cX9_of 0 = .ok (.aload_n 0, 1) := by decide +kernel
theorem dX9_of_1 : decode cX9_of 1 = .ok (.iload_n 1, 1) := by decide +kernel
theorem dX9_of_2 : decode cX9_of 2 = .ok (.invokevirtual 93, 3) := by decide +kernel
theorem dX9_of_5 : decode cX9_of 5 = .ok (.ifCond .eq 12, 3) := by decide +kernel
theorem dX9_of_8 : decode cX9_of 8 = .ok (.iload_n 2, 1) := by decide +kernel
theorem dX9_of_9 : decode cX9_of 9 = .ok (.iconst 0, 1) := by decide +kernel
theorem dX9_of_10 : decode cX9_of 10 = .ok (.iconst 3, 1) := by decide +kernel
theorem dX9_of_11 : decode cX9_of 11 = .ok (.invokestatic 75, 3) := by decide +kernel
theorem dX9_of_14 : decode cX9_of 14 = .ok (.ifCond .ne 10, 3) := by decide +kernel
theorem dX9_of_17 : decode cX9_of 17 = .ok (.aload_n 0, 1) := by decide +kernel
theorem dX9_of_18 : decode cX9_of 18 = .ok (.ldc 74, 2) := by decide +kernel
theorem dX9_of_20 : decode cX9_of 20 = .ok (.invokevirtual 84, 3) := by decide +kernel
theorem dX9_of_23 : decode cX9_of 23 = .ok (.ireturn, 1) := by decide +kernel
theorem dX9_of_24 : decode cX9_of 24 = .ok (.iload_n 2, 1) := by decide +kernel
theorem dX9_of_25 : decode cX9_of 25 = .ok (.iconst 3, 1) := by decide +kernel
theorem dX9_of_26 : decode cX9_of 26 = .ok (.if_icmp .ne 11, 3) := by decide +kernel
theorem dX9_of_29 : decode cX9_of 29 = .ok (.aload_n 0, 1) := by decide +kernel
theorem dX9_of_30 : decode cX9_of 30 = .ok (.iload_n 1, 1) := by decide +kernel
theorem dX9_of_31 : decode cX9_of 31 = .ok (.invokevirtual 96, 3) := by decide +kernel
theorem dX9_of_34 : decode cX9_of 34 = .ok (.goto 9, 3) := by decide +kernel
theorem dX9_of_37 : decode cX9_of 37 = .ok (.aload_n 0, 1) := by decide +kernel
theorem dX9_of_38 : decode cX9_of 38 = .ok (.iload_n 1, 1) := by decide +kernel
theorem dX9_of_39 : decode cX9_of 39 = .ok (.iload_n 2, 1) := by decide +kernel
theorem dX9_of_40 : decode cX9_of 40 = .ok (.invokevirtual 99, 3) := by decide +kernel
theorem dX9_of_43 : decode cX9_of 43 = .ok (.ireturn, 1) := by decide +kernel
set_option maxRecDepth 20000 in
theorem ggX9_cut_X9_isShape : GoodIn wsX9_cut wsX9_isShape := goodIn_r _ [7, 8, 9, 10, 6, 11, 21, 22, 23, 24, 25, 26, 27, 28, 29, 30, 31, 32, 33, 34, 35, 36, 37, 38, 39, 40, 41, 42, 43, 44, 45, 46, 47, 48] (by decide +kernel) (by decide +kernel)
set_option maxRecDepth 20000 in
theorem gX9_cut_X9_isShape : GoodIn wsX9_cut (wsV RX9 93 RX9 yX9_isShape wsX9_isShape) := goodIn_app (goodIn_of _ (by decide +kernel)) ggX9_cut_X9_isShape
set_option maxRecDepth 20000 in
theorem ggX9_cut_X9_within : GoodIn wsX9_cut wsX9_within := goodIn_r _ [11] (by decide +kernel) (by decide +kernel)
set_option maxRecDepth 20000 in
theorem gX9_cut_X9_within : GoodIn wsX9_cut (va_wsS RX9 75 yX9_within wsX9_within) := goodIn_app (goodIn_of _ (by decide +kernel)) ggX9_cut_X9_within
set_option maxRecDepth 20000 in
theorem ggX9_cut_X9_putIn : GoodIn wsX9_cut wsX9_putIn := goodIn_r _ [15, 8, 21, 22, 23, 24, 25, 26, 27, 28, 29, 30, 31, 32, 33, 34, 35, 36, 37, 38, 39, 40, 41, 42, 43, 44, 45, 46, 47, 48] (by decide +kernel) (by decide +kernel)
set_option maxRecDepth 20000 in
theorem gX9_cut_X9_putIn : GoodIn wsX9_cut (wsV RX9 102 RX9 yX9_putIn wsX9_putIn) := goodIn_app (goodIn_of _ (by decide +kernel)) ggX9_cut_X9_putIn
set_option maxRecDepth 20000 in
theorem ggX9_cut_X9_finding : GoodIn wsX9_cut wsX9_finding := goodIn_r _ [19, 20, 2, 21, 22, 23, 24, 25, 26, 27, 28, 29, 30, 31, 32, 33, 34, 35, 36, 37, 38, 39, 40, 41, 42, 43, 44, 45, 46, 47, 48] (by decide +kernel) (by decide +kernel)
set_option maxRecDepth 20000 in
theorem gX9_cut_X9_finding : GoodIn wsX9_cut (wsV RX9 84 RX9 yX9_finding wsX9_finding) := goodIn_app (goodIn_of _ (by decide +kernel)) ggX9_cut_X9_finding
theorem dX9_cut_0 : decode cX9_cut 0 = .ok (.aload_n 0, 1) := by decide +kernel
theorem dX9_cut_1 : decode cX9_cut 1 = .ok (.iload_n 1, 1) := by decide +kernel
theorem dX9_cut_2 : decode cX9_cut 2 = .ok (.invokevirtual 93, 3) := by decide +kernel
theorem dX9_cut_5 : decode cX9_cut 5 = .ok (.ifCond .eq 28, 3) := by decide +kernel
theorem dX9_cut_8 : decode cX9_cut 8 = .ok (.iload_n 2, 1) := by decide +kernel
theorem dX9_cut_9 : decode cX9_cut 9 = .ok (.iconst 0, 1) := by decide +kernel
theorem dX9_cut_10 : decode cX9_cut 10 = .ok (.ldc 83, 2) := by decide +kernel
theorem dX9_cut_12 : decode cX9_cut 12 = .ok (.invokestatic 75, 3) := by decide +kernel
theorem dX9_cut_15 : decode cX9_cut 15 = .ok (.ifCond .eq 18, 3) := by decide +kernel
theorem dX9_cut_18 : decode cX9_cut 18 = .ok (.aload_n 0, 1) := by decide +kernel
theorem dX9_cut_19 : decode cX9_cut 19 = .ok (.iconst 3, 1) := by decide +kernel
theorem dX9_cut_20 : decode cX9_cut 20 = .ok (.iconst 3, 1) := by decide +kernel
theorem dX9_cut_21 : decode cX9_cut 21 = .ok (.iload_n 1, 1) := by decide +kernel
theorem dX9_cut_22 : decode cX9_cut 22 = .ok (.imul, 1) := by decide +kernel
theorem dX9_cut_23 : decode cX9_cut 23 = .ok (.iadd, 1) := by decide +kernel
theorem dX9_cut_24 : decode cX9_cut 24 = .ok (.iconst 1, 1) := by decide +kernel
theorem dX9_cut_25 : decode cX9_cut 25 = .ok (.iadd, 1) := by decide +kernel
theorem dX9_cut_26 : decode cX9_cut 26 = .ok (.iload_n 2, 1) := by decide +kernel
theorem dX9_cut_27 : decode cX9_cut 27 = .ok (.invokevirtual 102, 3) := by decide +kernel
theorem dX9_cut_30 : decode cX9_cut 30 = .ok (.goto 9, 3) := by decide +kernel
theorem dX9_cut_33 : decode cX9_cut 33 = .ok (.aload_n 0, 1) := by decide +kernel
theorem dX9_cut_34 : decode cX9_cut 34 = .ok (.ldc 74, 2) := by decide +kernel
theorem dX9_cut_36 : decode cX9_cut 36 = .ok (.invokevirtual 84, 3) := by decide +kernel
theorem dX9_cut_39 : decode cX9_cut 39 = .ok (.ireturn, 1) := by decide +kernel
set_option maxRecDepth 20000 in
theorem ggX9_tear_X9_isShape : GoodIn wsX9_tear wsX9_isShape := goodIn_r _ [6, 7, 8, 9, 5, 10, 20, 21, 22, 23, 24, 25, 26, 27, 28, 29, 30, 31, 32, 33, 34, 35, 36, 37, 38, 39, 40, 41, 42, 43, 44, 45, 46, 47] (by decide +kernel) (by decide +kernel)
set_option maxRecDepth 20000 in
theorem gX9_tear_X9_isShape : GoodIn wsX9_tear (wsV RX9 93 RX9 yX9_isShape wsX9_isShape) := goodIn_app (goodIn_of _ (by decide +kernel)) ggX9_tear_X9_isShape
set_option maxRecDepth 20000 in
theorem ggX9_tear_X9_finding : GoodIn wsX9_tear wsX9_finding := goodIn_r _ [14, 15, 1, 20, 21, 22, 23, 24, 25, 26, 27, 28, 29, 30, 31, 32, 33, 34, 35, 36, 37, 38, 39, 40, 41, 42, 43, 44, 45, 46, 47] (by decide +kernel) (by decide +kernel)
set_option maxRecDepth 20000 in
theorem gX9_tear_X9_finding : GoodIn wsX9_tear (wsV RX9 84 RX9 yX9_finding wsX9_finding) := goodIn_app (goodIn_of _ (by decide +kernel)) ggX9_tear_X9_finding
set_option maxRecDepth 20000 in
theorem ggX9_tear_X9_putIn : GoodIn wsX9_tear wsX9_putIn := goodIn_r _ [19, 7, 20, 21, 22, 23, 24, 25, 26, 27, 28, 29, 30, 31, 32, 33, 34, 35, 36, 37, 38, 39, 40, 41, 42, 43, 44, 45, 46, 47] (by decide +kernel) (by decide +kernel)
set_option maxRecDepth 20000 in
theorem gX9_tear_X9_putIn : GoodIn wsX9_tear (wsV RX9 102 RX9 yX9_putIn wsX9_putIn) := goodIn_app (goodIn_of _ (by decide +kernel)) ggX9_tear_X9_putIn
theorem dX9_tear_0 : decode cX9_tear 0 = .ok (.aload_n 0, 1) := by decide +kernel
theorem dX9_tear_1 : decode cX9_tear 1 = .ok (.iload_n 1, 1) := by decide +kernel
theorem dX9_tear_2 : decode cX9_tear 2 = .ok (.invokevirtual 93, 3) := by decide +kernel
theorem dX9_tear_5 : decode cX9_tear 5 = .ok (.ifCond .ne 10, 3) := by decide +kernel
theorem dX9_tear_8 : decode cX9_tear 8 = .ok (.aload_n 0, 1) := by decide +kernel
theorem dX9_tear_9 : decode cX9_tear 9 = .ok (.ldc 74, 2) := by decide +kernel
theorem dX9_tear_11 : decode cX9_tear 11 = .ok (.invokevirtual 84, 3) := by decide +kernel
theorem dX9_tear_14 : decode cX9_tear 14 = .ok (.ireturn, 1) := by decide +kernel
theorem dX9_tear_15 : decode cX9_tear 15 = .ok (.iload_n 2, 1) := by decide +kernel
theorem dX9_tear_16 : decode cX9_tear 16 = .ok (.ifCond .eq 7, 3) := by decide +kernel
theorem dX9_tear_19 : decode cX9_tear 19 = .ok (.iconst 1, 1) := by decide +kernel
theorem dX9_tear_20 : decode cX9_tear 20 = .ok (.goto 4, 3) := by decide +kernel
theorem dX9_tear_23 : decode cX9_tear 23 = .ok (.iconst 0, 1) := by decide +kernel
theorem dX9_tear_24 : decode cX9_tear 24 = .ok (.istore_n 3, 1) := by decide +kernel
theorem dX9_tear_25 : decode cX9_tear 25 = .ok (.aload_n 0, 1) := by decide +kernel
theorem dX9_tear_26 : decode cX9_tear 26 = .ok (.iconst 3, 1) := by decide +kernel
theorem dX9_tear_27 : decode cX9_tear 27 = .ok (.iconst 3, 1) := by decide +kernel
theorem dX9_tear_28 : decode cX9_tear 28 = .ok (.iload_n 1, 1) := by decide +kernel
theorem dX9_tear_29 : decode cX9_tear 29 = .ok (.imul, 1) := by decide +kernel
theorem dX9_tear_30 : decode cX9_tear 30 = .ok (.iadd, 1) := by decide +kernel
theorem dX9_tear_31 : decode cX9_tear 31 = .ok (.iconst 2, 1) := by decide +kernel
theorem dX9_tear_32 : decode cX9_tear 32 = .ok (.iadd, 1) := by decide +kernel
theorem dX9_tear_33 : decode cX9_tear 33 = .ok (.iload_n 3, 1) := by decide +kernel
theorem dX9_tear_34 : decode cX9_tear 34 = .ok (.invokevirtual 102, 3) := by decide +kernel
theorem dX9_tear_37 : decode cX9_tear 37 = .ok (.iload_n 3, 1) := by decide +kernel
theorem dX9_tear_38 : decode cX9_tear 38 = .ok (.if_icmp .ne 7, 3) := by decide +kernel
theorem dX9_tear_41 : decode cX9_tear 41 = .ok (.iconst 0, 1) := by decide +kernel
theorem dX9_tear_42 : decode cX9_tear 42 = .ok (.goto 4, 3) := by decide +kernel
theorem dX9_tear_45 : decode cX9_tear 45 = .ok (.iconst 1, 1) := by decide +kernel
theorem dX9_tear_46 : decode cX9_tear 46 = .ok (.ireturn, 1) := by decide +kernel
set_option maxRecDepth 20000 in
theorem ggX9_become_X9_isShape : GoodIn wsX9_become wsX9_isShape := goodIn_r _ [6, 7, 8, 9, 5, 10, 23, 24, 25, 26, 27, 28, 29, 30, 31, 32, 33, 34, 35, 36, 37, 38, 39, 40, 41, 42, 43, 44, 45, 46, 47, 48, 49, 50] (by decide +kernel) (by decide +kernel)
set_option maxRecDepth 20000 in
theorem gX9_become_X9_isShape : GoodIn wsX9_become (wsV RX9 93 RX9 yX9_isShape wsX9_isShape) := goodIn_app (goodIn_of _ (by decide +kernel)) ggX9_become_X9_isShape
set_option maxRecDepth 20000 in
theorem ggX9_become_X9_isKind : GoodIn wsX9_become wsX9_isKind := goodIn_r _ [13, 8, 9, 5, 10] (by decide +kernel) (by decide +kernel)
set_option maxRecDepth 20000 in
theorem gX9_become_X9_isKind : GoodIn wsX9_become (va_wsS RX9 79 yX9_isKind wsX9_isKind) := goodIn_app (goodIn_of _ (by decide +kernel)) ggX9_become_X9_isKind
set_option maxRecDepth 20000 in
theorem ggX9_become_X9_putIn : GoodIn wsX9_become wsX9_putIn := goodIn_r _ [17, 7, 23, 24, 25, 26, 27, 28, 29, 30, 31, 32, 33, 34, 35, 36, 37, 38, 39, 40, 41, 42, 43, 44, 45, 46, 47, 48, 49, 50] (by decide +kernel) (by decide +kernel)
set_option maxRecDepth 20000 in
theorem gX9_become_X9_putIn : GoodIn wsX9_become (wsV RX9 102 RX9 yX9_putIn wsX9_putIn) := goodIn_app (goodIn_of _ (by decide +kernel)) ggX9_become_X9_putIn
set_option maxRecDepth 20000 in
theorem ggX9_become_X9_finding : GoodIn wsX9_become wsX9_finding := goodIn_r _ [21, 22, 1, 23, 24, 25, 26, 27, 28, 29, 30, 31, 32, 33, 34, 35, 36, 37, 38, 39, 40, 41, 42, 43, 44, 45, 46, 47, 48, 49, 50] (by decide +kernel) (by decide +kernel)
set_option maxRecDepth 20000 in
theorem gX9_become_X9_finding : GoodIn wsX9_become (wsV RX9 84 RX9 yX9_finding wsX9_finding) := goodIn_app (goodIn_of _ (by decide +kernel)) ggX9_become_X9_finding
theorem dX9_become_0 : decode cX9_become 0 = .ok (.aload_n 0, 1) := by decide +kernel
theorem dX9_become_1 : decode cX9_become 1 = .ok (.iload_n 1, 1) := by decide +kernel
theorem dX9_become_2 : decode cX9_become 2 = .ok (.invokevirtual 93, 3) := by decide +kernel
theorem dX9_become_5 : decode cX9_become 5 = .ok (.ifCond .eq 25, 3) := by decide +kernel
theorem dX9_become_8 : decode cX9_become 8 = .ok (.iload_n 2, 1) := by decide +kernel
theorem dX9_become_9 : decode cX9_become 9 = .ok (.invokestatic 79, 3) := by decide +kernel
theorem dX9_become_12 : decode cX9_become 12 = .ok (.ifCond .eq 18, 3) := by decide +kernel
theorem dX9_become_15 : decode cX9_become 15 = .ok (.aload_n 0, 1) := by decide +kernel
theorem dX9_become_16 : decode cX9_become 16 = .ok (.iconst 3, 1) := by decide +kernel
theorem dX9_become_17 : decode cX9_become 17 = .ok (.iconst 3, 1) := by decide +kernel
theorem dX9_become_18 : decode cX9_become 18 = .ok (.iload_n 1, 1) := by decide +kernel
theorem dX9_become_19 : decode cX9_become 19 = .ok (.imul, 1) := by decide +kernel
theorem dX9_become_20 : decode cX9_become 20 = .ok (.iadd, 1) := by decide +kernel
theorem dX9_become_21 : decode cX9_become 21 = .ok (.iconst 0, 1) := by decide +kernel
theorem dX9_become_22 : decode cX9_become 22 = .ok (.iadd, 1) := by decide +kernel
theorem dX9_become_23 : decode cX9_become 23 = .ok (.iload_n 2, 1) := by decide +kernel
theorem dX9_become_24 : decode cX9_become 24 = .ok (.invokevirtual 102, 3) := by decide +kernel
theorem dX9_become_27 : decode cX9_become 27 = .ok (.goto 9, 3) := by decide +kernel
theorem dX9_become_30 : decode cX9_become 30 = .ok (.aload_n 0, 1) := by decide +kernel
theorem dX9_become_31 : decode cX9_become 31 = .ok (.ldc 74, 2) := by decide +kernel
theorem dX9_become_33 : decode cX9_become 33 = .ok (.invokevirtual 84, 3) := by decide +kernel
theorem dX9_become_36 : decode cX9_become 36 = .ok (.ireturn, 1) := by decide +kernel
theorem dX9_above_0 : decode cX9_above 0 = .ok (.iload_n 0, 1) := by decide +kernel
theorem dX9_above_1 : decode cX9_above 1 = .ok (.ifCond .ne 7, 3) := by decide +kernel
theorem dX9_above_4 : decode cX9_above 4 = .ok (.iconst (-1), 1) := by decide +kernel
theorem dX9_above_5 : decode cX9_above 5 = .ok (.goto 27, 3) := by decide +kernel
theorem dX9_above_8 : decode cX9_above 8 = .ok (.iload_n 0, 1) := by decide +kernel
theorem dX9_above_9 : decode cX9_above 9 = .ok (.iconst 3, 1) := by decide +kernel
theorem dX9_above_10 : decode cX9_above 10 = .ok (.if_icmp .eq 8, 3) := by decide +kernel
theorem dX9_above_13 : decode cX9_above 13 = .ok (.iload_n 0, 1) := by decide +kernel
theorem dX9_above_14 : decode cX9_above 14 = .ok (.iconst 5, 1) := by decide +kernel
theorem dX9_above_15 : decode cX9_above 15 = .ok (.if_icmp .ne 7, 3) := by decide +kernel
theorem dX9_above_18 : decode cX9_above 18 = .ok (.iconst 1, 1) := by decide +kernel
theorem dX9_above_19 : decode cX9_above 19 = .ok (.goto 13, 3) := by decide +kernel
theorem dX9_above_22 : decode cX9_above 22 = .ok (.iload_n 0, 1) := by decide +kernel
theorem dX9_above_23 : decode cX9_above 23 = .ok (.iconst 4, 1) := by decide +kernel
theorem dX9_above_24 : decode cX9_above 24 = .ok (.if_icmp .ne 7, 3) := by decide +kernel
theorem dX9_above_27 : decode cX9_above 27 = .ok (.iconst 2, 1) := by decide +kernel
theorem dX9_above_28 : decode cX9_above 28 = .ok (.goto 4, 3) := by decide +kernel
theorem dX9_above_31 : decode cX9_above 31 = .ok (.iconst 0, 1) := by decide +kernel
theorem dX9_above_32 : decode cX9_above 32 = .ok (.ireturn, 1) := by decide +kernel
set_option maxRecDepth 20000 in
theorem ggX9_as_X9_isShape : GoodIn wsX9_as wsX9_isShape := goodIn_r _ [7, 8, 9, 10, 6, 11, 27, 28, 29, 30, 31, 32, 33, 34, 35, 36, 37, 38, 39, 40, 41, 42, 43, 44, 45, 46, 47, 48, 49, 50, 51, 52, 53, 54] (by decide +kernel) (by decide +kernel)
set_option maxRecDepth 20000 in
theorem gX9_as_X9_isShape : GoodIn wsX9_as (wsV RX9 93 RX9 yX9_isShape wsX9_isShape) := goodIn_app (goodIn_of _ (by decide +kernel)) ggX9_as_X9_isShape
set_option maxRecDepth 20000 in
theorem ggX9_as_X9_isKind : GoodIn wsX9_as wsX9_isKind := goodIn_r _ [14, 9, 10, 6, 11] (by decide +kernel) (by decide +kernel)
set_option maxRecDepth 20000 in
theorem gX9_as_X9_isKind : GoodIn wsX9_as (va_wsS RX9 79 yX9_isKind wsX9_isKind) := goodIn_app (goodIn_of _ (by decide +kernel)) ggX9_as_X9_isKind
set_option maxRecDepth 20000 in
theorem ggX9_as_X9_finding : GoodIn wsX9_as wsX9_finding := goodIn_r _ [18, 19, 1, 27, 28, 29, 30, 31, 32, 33, 34, 35, 36, 37, 38, 39, 40, 41, 42, 43, 44, 45, 46, 47, 48, 49, 50, 51, 52, 53, 54] (by decide +kernel) (by decide +kernel)
set_option maxRecDepth 20000 in
theorem gX9_as_X9_finding : GoodIn wsX9_as (wsV RX9 84 RX9 yX9_finding wsX9_finding) := goodIn_app (goodIn_of _ (by decide +kernel)) ggX9_as_X9_finding
set_option maxRecDepth 20000 in
theorem ggX9_as_X9_shapeIs : GoodIn wsX9_as wsX9_shapeIs := goodIn_r _ [23, 8, 27, 28, 29, 30, 31, 32, 33, 34, 35, 36, 37, 38, 39, 40, 41, 42, 43, 44, 45, 46, 47, 48, 49, 50, 51, 52, 53, 54] (by decide +kernel) (by decide +kernel)
set_option maxRecDepth 20000 in
theorem gX9_as_X9_shapeIs : GoodIn wsX9_as (wsV RX9 99 RX9 yX9_shapeIs wsX9_shapeIs) := goodIn_app (goodIn_of _ (by decide +kernel)) ggX9_as_X9_shapeIs
set_option maxRecDepth 20000 in
theorem ggX9_as_X9_above : GoodIn wsX9_as wsX9_above := goodIn_r _ [26] (by decide +kernel) (by decide +kernel)
set_option maxRecDepth 20000 in
theorem gX9_as_X9_above : GoodIn wsX9_as (va_wsS RX9 105 yX9_above wsX9_above) := goodIn_app (goodIn_of _ (by decide +kernel)) ggX9_as_X9_above
theorem dX9_as_0 : decode cX9_as 0 = .ok (.aload_n 0, 1) := by decide +kernel
theorem dX9_as_1 : decode cX9_as 1 = .ok (.iload_n 1, 1) := by decide +kernel
theorem dX9_as_2 : decode cX9_as 2 = .ok (.invokevirtual 93, 3) := by decide +kernel
theorem dX9_as_5 : decode cX9_as 5 = .ok (.ifCond .eq 10, 3) := by decide +kernel
theorem dX9_as_8 : decode cX9_as 8 = .ok (.iload_n 2, 1) := by decide +kernel
theorem dX9_as_9 : decode cX9_as 9 = .ok (.invokestatic 79, 3) := by decide +kernel
theorem dX9_as_12 : decode cX9_as 12 = .ok (.ifCond .ne 10, 3) := by decide +kernel
theorem dX9_as_15 : decode cX9_as 15 = .ok (.aload_n 0, 1) := by decide +kernel
theorem dX9_as_16 : decode cX9_as 16 = .ok (.ldc 74, 2) := by decide +kernel
theorem dX9_as_18 : decode cX9_as 18 = .ok (.invokevirtual 84, 3) := by decide +kernel
theorem dX9_as_21 : decode cX9_as 21 = .ok (.ireturn, 1) := by decide +kernel
theorem dX9_as_22 : decode cX9_as 22 = .ok (.aload_n 0, 1) := by decide +kernel
theorem dX9_as_23 : decode cX9_as 23 = .ok (.iload_n 1, 1) := by decide +kernel
theorem dX9_as_24 : decode cX9_as 24 = .ok (.iconst 0, 1) := by decide +kernel
theorem dX9_as_25 : decode cX9_as 25 = .ok (.invokevirtual 99, 3) := by decide +kernel
theorem dX9_as_28 : decode cX9_as 28 = .ok (.istore_n 3, 1) := by decide +kernel
theorem dX9_as_29 : decode cX9_as 29 = .ok (.iload_n 3, 1) := by decide +kernel
theorem dX9_as_30 : decode cX9_as 30 = .ok (.ifCond .lt 16, 3) := by decide +kernel
theorem dX9_as_33 : decode cX9_as 33 = .ok (.iload_n 3, 1) := by decide +kernel
theorem dX9_as_34 : decode cX9_as 34 = .ok (.iload_n 2, 1) := by decide +kernel
theorem dX9_as_35 : decode cX9_as 35 = .ok (.if_icmp .eq 11, 3) := by decide +kernel
theorem dX9_as_38 : decode cX9_as 38 = .ok (.iload_n 3, 1) := by decide +kernel
theorem dX9_as_39 : decode cX9_as 39 = .ok (.invokestatic 105, 3) := by decide +kernel
theorem dX9_as_42 : decode cX9_as 42 = .ok (.istore_n 3, 1) := by decide +kernel
theorem dX9_as_43 : decode cX9_as 43 = .ok (.goto (-14), 3) := by decide +kernel
theorem dX9_as_46 : decode cX9_as 46 = .ok (.iload_n 3, 1) := by decide +kernel
theorem dX9_as_47 : decode cX9_as 47 = .ok (.ifCond .ge 12, 3) := by decide +kernel
theorem dX9_as_50 : decode cX9_as 50 = .ok (.aload_n 0, 1) := by decide +kernel
theorem dX9_as_51 : decode cX9_as 51 = .ok (.ldc 108, 2) := by decide +kernel
theorem dX9_as_53 : decode cX9_as 53 = .ok (.invokevirtual 84, 3) := by decide +kernel
theorem dX9_as_56 : decode cX9_as 56 = .ok (.goto 9, 3) := by decide +kernel
theorem dX9_as_59 : decode cX9_as 59 = .ok (.aload_n 0, 1) := by decide +kernel
theorem dX9_as_60 : decode cX9_as 60 = .ok (.iload_n 1, 1) := by decide +kernel
theorem dX9_as_61 : decode cX9_as 61 = .ok (.iconst 1, 1) := by decide +kernel
theorem dX9_as_62 : decode cX9_as 62 = .ok (.invokevirtual 99, 3) := by decide +kernel
theorem dX9_as_65 : decode cX9_as 65 = .ok (.ireturn, 1) := by decide +kernel
set_option maxRecDepth 20000 in
theorem ggX9_has_X9_within : GoodIn wsX9_has wsX9_within := goodIn_r _ [4] (by decide +kernel) (by decide +kernel)
set_option maxRecDepth 20000 in
theorem gX9_has_X9_within : GoodIn wsX9_has (va_wsS RX9 75 yX9_within wsX9_within) := goodIn_app (goodIn_of _ (by decide +kernel)) ggX9_has_X9_within
theorem dX9_has_0 : decode cX9_has 0 = .ok (.iload_n 1, 1) := by decide +kernel
theorem dX9_has_1 : decode cX9_has 1 = .ok (.iconst 0, 1) := by decide +kernel
theorem dX9_has_2 : decode cX9_has 2 = .ok (.iconst 3, 1) := by decide +kernel
theorem dX9_has_3 : decode cX9_has 3 = .ok (.invokestatic 75, 3) := by decide +kernel
theorem dX9_has_6 : decode cX9_has 6 = .ok (.ifCond .eq 29, 3) := by decide +kernel
theorem dX9_has_9 : decode cX9_has 9 = .ok (.iload_n 2, 1) := by decide +kernel
theorem dX9_has_10 : decode cX9_has 10 = .ok (.iconst 0, 1) := by decide +kernel
theorem dX9_has_11 : decode cX9_has 11 = .ok (.iconst 3, 1) := by decide +kernel
theorem dX9_has_12 : decode cX9_has 12 = .ok (.invokestatic 75, 3) := by decide +kernel
theorem dX9_has_15 : decode cX9_has 15 = .ok (.ifCond .eq 20, 3) := by decide +kernel
theorem dX9_has_18 : decode cX9_has 18 = .ok (.iload_n 0, 1) := by decide +kernel
theorem dX9_has_19 : decode cX9_has 19 = .ok (.iconst 4, 1) := by decide +kernel
theorem dX9_has_20 : decode cX9_has 20 = .ok (.iload_n 1, 1) := by decide +kernel
theorem dX9_has_21 : decode cX9_has 21 = .ok (.imul, 1) := by decide +kernel
theorem dX9_has_22 : decode cX9_has 22 = .ok (.iload_n 2, 1) := by decide +kernel
theorem dX9_has_23 : decode cX9_has 23 = .ok (.iadd, 1) := by decide +kernel
theorem dX9_has_24 : decode cX9_has 24 = .ok (.ishr, 1) := by decide +kernel
theorem dX9_has_25 : decode cX9_has 25 = .ok (.iconst 1, 1) := by decide +kernel
theorem dX9_has_26 : decode cX9_has 26 = .ok (.iand, 1) := by decide +kernel
theorem dX9_has_27 : decode cX9_has 27 = .ok (.iconst 1, 1) := by decide +kernel
theorem dX9_has_28 : decode cX9_has 28 = .ok (.if_icmp .ne 7, 3) := by decide +kernel
theorem dX9_has_31 : decode cX9_has 31 = .ok (.iconst 1, 1) := by decide +kernel
theorem dX9_has_32 : decode cX9_has 32 = .ok (.goto 4, 3) := by decide +kernel
theorem dX9_has_35 : decode cX9_has 35 = .ok (.iconst 0, 1) := by decide +kernel
theorem dX9_has_36 : decode cX9_has 36 = .ok (.ireturn, 1) := by decide +kernel
set_option maxRecDepth 20000 in
theorem ggX9_turned_X9_has : GoodIn wsX9_turned wsX9_has := goodIn_r _ [4, 5, 6, 3, 7] (by decide +kernel) (by decide +kernel)
set_option maxRecDepth 20000 in
theorem gX9_turned_X9_has : GoodIn wsX9_turned (va_wsS RX9 109 yX9_has wsX9_has) := goodIn_app (goodIn_of _ (by decide +kernel)) ggX9_turned_X9_has
theorem dX9_turned_0 : decode cX9_turned 0 = .ok (.iload_n 0, 1) := by decide +kernel
theorem dX9_turned_1 : decode cX9_turned 1 = .ok (.istore_n 2, 1) := by decide +kernel
theorem dX9_turned_2 : decode cX9_turned 2 = .ok (.iconst 0, 1) := by decide +kernel
theorem dX9_turned_3 : decode cX9_turned 3 = .ok (.istore_n 3, 1) := by decide +kernel
theorem dX9_turned_4 : decode cX9_turned 4 = .ok (.iload_n 3, 1) := by decide +kernel
theorem dX9_turned_5 : decode cX9_turned 5 = .ok (.iload_n 1, 1) := by decide +kernel
theorem dX9_turned_6 : decode cX9_turned 6 = .ok (.if_icmp .ge 78, 3) := by decide +kernel
theorem dX9_turned_9 : decode cX9_turned 9 = .ok (.iconst 0, 1) := by decide +kernel
theorem dX9_turned_10 : decode cX9_turned 10 = .ok (.istore 4, 2) := by decide +kernel
theorem dX9_turned_12 : decode cX9_turned 12 = .ok (.iconst 0, 1) := by decide +kernel
theorem dX9_turned_13 : decode cX9_turned 13 = .ok (.istore 5, 2) := by decide +kernel
theorem dX9_turned_15 : decode cX9_turned 15 = .ok (.iload 5, 2) := by decide +kernel
theorem dX9_turned_17 : decode cX9_turned 17 = .ok (.iconst 4, 1) := by decide +kernel
theorem dX9_turned_18 : decode cX9_turned 18 = .ok (.if_icmp .ge 57, 3) := by decide +kernel
theorem dX9_turned_21 : decode cX9_turned 21 = .ok (.iconst 0, 1) := by decide +kernel
theorem dX9_turned_22 : decode cX9_turned 22 = .ok (.istore 6, 2) := by decide +kernel
theorem dX9_turned_24 : decode cX9_turned 24 = .ok (.iload 6, 2) := by decide +kernel
theorem dX9_turned_26 : decode cX9_turned 26 = .ok (.iconst 4, 1) := by decide +kernel
theorem dX9_turned_27 : decode cX9_turned 27 = .ok (.if_icmp .ge 42, 3) := by decide +kernel
theorem dX9_turned_30 : decode cX9_turned 30 = .ok (.iload 4, 2) := by decide +kernel
theorem dX9_turned_32 : decode cX9_turned 32 = .ok (.iload_n 2, 1) := by decide +kernel
theorem dX9_turned_33 : decode cX9_turned 33 = .ok (.iload 5, 2) := by decide +kernel
theorem dX9_turned_35 : decode cX9_turned 35 = .ok (.iload 6, 2) := by decide +kernel
theorem dX9_turned_37 : decode cX9_turned 37 = .ok (.invokestatic 109, 3) := by decide +kernel
theorem dX9_turned_40 : decode cX9_turned 40 = .ok (.ifCond .eq 19, 3) := by decide +kernel
theorem dX9_turned_43 : decode cX9_turned 43 = .ok (.iconst 1, 1) := by decide +kernel
theorem dX9_turned_44 : decode cX9_turned 44 = .ok (.iconst 4, 1) := by decide +kernel
theorem dX9_turned_45 : decode cX9_turned 45 = .ok (.iload 6, 2) := by decide +kernel
theorem dX9_turned_47 : decode cX9_turned 47 = .ok (.imul, 1) := by decide +kernel
theorem dX9_turned_48 : decode cX9_turned 48 = .ok (.iconst 4, 1) := by decide +kernel
theorem dX9_turned_49 : decode cX9_turned 49 = .ok (.iadd, 1) := by decide +kernel
theorem dX9_turned_50 : decode cX9_turned 50 = .ok (.iconst 1, 1) := by decide +kernel
theorem dX9_turned_51 : decode cX9_turned 51 = .ok (.isub, 1) := by decide +kernel
theorem dX9_turned_52 : decode cX9_turned 52 = .ok (.iload 5, 2) := by decide +kernel
theorem dX9_turned_54 : decode cX9_turned 54 = .ok (.isub, 1) := by decide +kernel
theorem dX9_turned_55 : decode cX9_turned 55 = .ok (.ishl, 1) := by decide +kernel
theorem dX9_turned_56 : decode cX9_turned 56 = .ok (.goto 4, 3) := by decide +kernel
theorem dX9_turned_59 : decode cX9_turned 59 = .ok (.iconst 0, 1) := by decide +kernel
theorem dX9_turned_60 : decode cX9_turned 60 = .ok (.ior, 1) := by decide +kernel
theorem dX9_turned_61 : decode cX9_turned 61 = .ok (.istore 4, 2) := by decide +kernel
theorem dX9_turned_63 : decode cX9_turned 63 = .ok (.iinc 6 1, 3) := by decide +kernel
theorem dX9_turned_66 : decode cX9_turned 66 = .ok (.goto (-42), 3) := by decide +kernel
theorem dX9_turned_69 : decode cX9_turned 69 = .ok (.iinc 5 1, 3) := by decide +kernel
theorem dX9_turned_72 : decode cX9_turned 72 = .ok (.goto (-57), 3) := by decide +kernel
theorem dX9_turned_75 : decode cX9_turned 75 = .ok (.iload 4, 2) := by decide +kernel
theorem dX9_turned_77 : decode cX9_turned 77 = .ok (.istore_n 2, 1) := by decide +kernel
theorem dX9_turned_78 : decode cX9_turned 78 = .ok (.iinc 3 1, 3) := by decide +kernel
theorem dX9_turned_81 : decode cX9_turned 81 = .ok (.goto (-77), 3) := by decide +kernel
theorem dX9_turned_84 : decode cX9_turned 84 = .ok (.iload_n 2, 1) := by decide +kernel
theorem dX9_turned_85 : decode cX9_turned 85 = .ok (.ireturn, 1) := by decide +kernel
set_option maxRecDepth 20000 in
theorem ggX9_mirrored_X9_has : GoodIn wsX9_mirrored wsX9_has := goodIn_r _ [4, 5, 6, 3, 7] (by decide +kernel) (by decide +kernel)
set_option maxRecDepth 20000 in
theorem gX9_mirrored_X9_has : GoodIn wsX9_mirrored (va_wsS RX9 109 yX9_has wsX9_has) := goodIn_app (goodIn_of _ (by decide +kernel)) ggX9_mirrored_X9_has
theorem dX9_mirrored_0 : decode cX9_mirrored 0 = .ok (.iconst 0, 1) := by decide +kernel
theorem dX9_mirrored_1 : decode cX9_mirrored 1 = .ok (.istore_n 2, 1) := by decide +kernel
theorem dX9_mirrored_2 : decode cX9_mirrored 2 = .ok (.iconst 0, 1) := by decide +kernel
theorem dX9_mirrored_3 : decode cX9_mirrored 3 = .ok (.istore_n 3, 1) := by decide +kernel
theorem dX9_mirrored_4 : decode cX9_mirrored 4 = .ok (.iload_n 3, 1) := by decide +kernel
theorem dX9_mirrored_5 : decode cX9_mirrored 5 = .ok (.iconst 4, 1) := by decide +kernel
theorem dX9_mirrored_6 : decode cX9_mirrored 6 = .ok (.if_icmp .ge 63, 3) := by decide +kernel
theorem dX9_mirrored_9 : decode cX9_mirrored 9 = .ok (.iconst 0, 1) := by decide +kernel
theorem dX9_mirrored_10 : decode cX9_mirrored 10 = .ok (.istore 4, 2) := by decide +kernel
theorem dX9_mirrored_12 : decode cX9_mirrored 12 = .ok (.iload 4, 2) := by decide +kernel
theorem dX9_mirrored_14 : decode cX9_mirrored 14 = .ok (.iconst 4, 1) := by decide +kernel
theorem dX9_mirrored_15 : decode cX9_mirrored 15 = .ok (.if_icmp .ge 48, 3) := by decide +kernel
theorem dX9_mirrored_18 : decode cX9_mirrored 18 = .ok (.iload_n 2, 1) := by decide +kernel
theorem dX9_mirrored_19 : decode cX9_mirrored 19 = .ok (.iload_n 0, 1) := by decide +kernel
theorem dX9_mirrored_20 : decode cX9_mirrored 20 = .ok (.iload_n 3, 1) := by decide +kernel
theorem dX9_mirrored_21 : decode cX9_mirrored 21 = .ok (.iload_n 1, 1) := by decide +kernel
theorem dX9_mirrored_22 : decode cX9_mirrored 22 = .ok (.iconst 2, 1) := by decide +kernel
theorem dX9_mirrored_23 : decode cX9_mirrored 23 = .ok (.irem, 1) := by decide +kernel
theorem dX9_mirrored_24 : decode cX9_mirrored 24 = .ok (.iconst 1, 1) := by decide +kernel
theorem dX9_mirrored_25 : decode cX9_mirrored 25 = .ok (.if_icmp .ne 10, 3) := by decide +kernel
theorem dX9_mirrored_28 : decode cX9_mirrored 28 = .ok (.iconst 3, 1) := by decide +kernel
theorem dX9_mirrored_29 : decode cX9_mirrored 29 = .ok (.iload 4, 2) := by decide +kernel
theorem dX9_mirrored_31 : decode cX9_mirrored 31 = .ok (.isub, 1) := by decide +kernel
theorem dX9_mirrored_32 : decode cX9_mirrored 32 = .ok (.goto 5, 3) := by decide +kernel
theorem dX9_mirrored_35 : decode cX9_mirrored 35 = .ok (.iload 4, 2) := by decide +kernel
theorem dX9_mirrored_37 : decode cX9_mirrored 37 = .ok (.invokestatic 109, 3) := by decide +kernel
theorem dX9_mirrored_40 : decode cX9_mirrored 40 = .ok (.ifCond .eq 14, 3) := by decide +kernel
theorem dX9_mirrored_43 : decode cX9_mirrored 43 = .ok (.iconst 1, 1) := by decide +kernel
theorem dX9_mirrored_44 : decode cX9_mirrored 44 = .ok (.iconst 4, 1) := by decide +kernel
theorem dX9_mirrored_45 : decode cX9_mirrored 45 = .ok (.iload_n 3, 1) := by decide +kernel
theorem dX9_mirrored_46 : decode cX9_mirrored 46 = .ok (.imul, 1) := by decide +kernel
theorem dX9_mirrored_47 : decode cX9_mirrored 47 = .ok (.iload 4, 2) := by decide +kernel
theorem dX9_mirrored_49 : decode cX9_mirrored 49 = .ok (.iadd, 1) := by decide +kernel
theorem dX9_mirrored_50 : decode cX9_mirrored 50 = .ok (.ishl, 1) := by decide +kernel
theorem dX9_mirrored_51 : decode cX9_mirrored 51 = .ok (.goto 4, 3) := by decide +kernel
theorem dX9_mirrored_54 : decode cX9_mirrored 54 = .ok (.iconst 0, 1) := by decide +kernel
theorem dX9_mirrored_55 : decode cX9_mirrored 55 = .ok (.ior, 1) := by decide +kernel
theorem dX9_mirrored_56 : decode cX9_mirrored 56 = .ok (.istore_n 2, 1) := by decide +kernel
theorem dX9_mirrored_57 : decode cX9_mirrored 57 = .ok (.iinc 4 1, 3) := by decide +kernel
theorem dX9_mirrored_60 : decode cX9_mirrored 60 = .ok (.goto (-48), 3) := by decide +kernel
theorem dX9_mirrored_63 : decode cX9_mirrored 63 = .ok (.iinc 3 1, 3) := by decide +kernel
theorem dX9_mirrored_66 : decode cX9_mirrored 66 = .ok (.goto (-62), 3) := by decide +kernel
theorem dX9_mirrored_69 : decode cX9_mirrored 69 = .ok (.iload_n 2, 1) := by decide +kernel
theorem dX9_mirrored_70 : decode cX9_mirrored 70 = .ok (.ireturn, 1) := by decide +kernel
set_option maxRecDepth 20000 in
theorem ggX9_isInner_X9_has : GoodIn wsX9_isInner wsX9_has := goodIn_r _ [4, 5, 6, 3, 7] (by decide +kernel) (by decide +kernel)
set_option maxRecDepth 20000 in
theorem gX9_isInner_X9_has : GoodIn wsX9_isInner (va_wsS RX9 109 yX9_has wsX9_has) := goodIn_app (goodIn_of _ (by decide +kernel)) ggX9_isInner_X9_has
theorem dX9_isInner_0 : decode cX9_isInner 0 = .ok (.iload_n 0, 1) := by decide +kernel
theorem dX9_isInner_1 : decode cX9_isInner 1 = .ok (.iload_n 1, 1) := by decide +kernel
theorem dX9_isInner_2 : decode cX9_isInner 2 = .ok (.iconst 1, 1) := by decide +kernel
theorem dX9_isInner_3 : decode cX9_isInner 3 = .ok (.isub, 1) := by decide +kernel
theorem dX9_isInner_4 : decode cX9_isInner 4 = .ok (.iload_n 2, 1) := by decide +kernel
theorem dX9_isInner_5 : decode cX9_isInner 5 = .ok (.invokestatic 109, 3) := by decide +kernel
theorem dX9_isInner_8 : decode cX9_isInner 8 = .ok (.ifCond .eq 40, 3) := by decide +kernel
theorem dX9_isInner_11 : decode cX9_isInner 11 = .ok (.iload_n 0, 1) := by decide +kernel
theorem dX9_isInner_12 : decode cX9_isInner 12 = .ok (.iload_n 1, 1) := by decide +kernel
theorem dX9_isInner_13 : decode cX9_isInner 13 = .ok (.iconst 1, 1) := by decide +kernel
theorem dX9_isInner_14 : decode cX9_isInner 14 = .ok (.iadd, 1) := by decide +kernel
theorem dX9_isInner_15 : decode cX9_isInner 15 = .ok (.iload_n 2, 1) := by decide +kernel
theorem dX9_isInner_16 : decode cX9_isInner 16 = .ok (.invokestatic 109, 3) := by decide +kernel
theorem dX9_isInner_19 : decode cX9_isInner 19 = .ok (.ifCond .eq 29, 3) := by decide +kernel
theorem dX9_isInner_22 : decode cX9_isInner 22 = .ok (.iload_n 0, 1) := by decide +kernel
theorem dX9_isInner_23 : decode cX9_isInner 23 = .ok (.iload_n 1, 1) := by decide +kernel
theorem dX9_isInner_24 : decode cX9_isInner 24 = .ok (.iload_n 2, 1) := by decide +kernel
theorem dX9_isInner_25 : decode cX9_isInner 25 = .ok (.iconst 1, 1) := by decide +kernel
theorem dX9_isInner_26 : decode cX9_isInner 26 = .ok (.isub, 1) := by decide +kernel
theorem dX9_isInner_27 : decode cX9_isInner 27 = .ok (.invokestatic 109, 3) := by decide +kernel
theorem dX9_isInner_30 : decode cX9_isInner 30 = .ok (.ifCond .eq 18, 3) := by decide +kernel
theorem dX9_isInner_33 : decode cX9_isInner 33 = .ok (.iload_n 0, 1) := by decide +kernel
theorem dX9_isInner_34 : decode cX9_isInner 34 = .ok (.iload_n 1, 1) := by decide +kernel
theorem dX9_isInner_35 : decode cX9_isInner 35 = .ok (.iload_n 2, 1) := by decide +kernel
theorem dX9_isInner_36 : decode cX9_isInner 36 = .ok (.iconst 1, 1) := by decide +kernel
theorem dX9_isInner_37 : decode cX9_isInner 37 = .ok (.iadd, 1) := by decide +kernel
theorem dX9_isInner_38 : decode cX9_isInner 38 = .ok (.invokestatic 109, 3) := by decide +kernel
theorem dX9_isInner_41 : decode cX9_isInner 41 = .ok (.ifCond .eq 7, 3) := by decide +kernel
theorem dX9_isInner_44 : decode cX9_isInner 44 = .ok (.iconst 1, 1) := by decide +kernel
theorem dX9_isInner_45 : decode cX9_isInner 45 = .ok (.goto 4, 3) := by decide +kernel
theorem dX9_isInner_48 : decode cX9_isInner 48 = .ok (.iconst 0, 1) := by decide +kernel
theorem dX9_isInner_49 : decode cX9_isInner 49 = .ok (.ireturn, 1) := by decide +kernel
set_option maxRecDepth 20000 in
theorem ggX9_isBetween_X9_has : GoodIn wsX9_isBetween wsX9_has := goodIn_r _ [4, 5, 6, 3, 7] (by decide +kernel) (by decide +kernel)
set_option maxRecDepth 20000 in
theorem gX9_isBetween_X9_has : GoodIn wsX9_isBetween (va_wsS RX9 109 yX9_has wsX9_has) := goodIn_app (goodIn_of _ (by decide +kernel)) ggX9_isBetween_X9_has
theorem dX9_isBetween_0 : decode cX9_isBetween 0 = .ok (.iconst 0, 1) := by decide +kernel
theorem dX9_isBetween_1 : decode cX9_isBetween 1 = .ok (.istore_n 3, 1) := by decide +kernel
theorem dX9_isBetween_2 : decode cX9_isBetween 2 = .ok (.iconst 0, 1) := by decide +kernel
theorem dX9_isBetween_3 : decode cX9_isBetween 3 = .ok (.istore 4, 2) := by decide +kernel
theorem dX9_isBetween_5 : decode cX9_isBetween 5 = .ok (.iconst 0, 1) := by decide +kernel
theorem dX9_isBetween_6 : decode cX9_isBetween 6 = .ok (.istore 5, 2) := by decide +kernel
theorem dX9_isBetween_8 : decode cX9_isBetween 8 = .ok (.iload 5, 2) := by decide +kernel
theorem dX9_isBetween_10 : decode cX9_isBetween 10 = .ok (.iconst 4, 1) := by decide +kernel
theorem dX9_isBetween_11 : decode cX9_isBetween 11 = .ok (.if_icmp .ge 63, 3) := by decide +kernel
theorem dX9_isBetween_14 : decode cX9_isBetween 14 = .ok (.iload_n 3, 1) := by decide +kernel
theorem dX9_isBetween_15 : decode cX9_isBetween 15 = .ok (.ifCond .ne 19, 3) := by decide +kernel
theorem dX9_isBetween_18 : decode cX9_isBetween 18 = .ok (.iload 5, 2) := by decide +kernel
theorem dX9_isBetween_20 : decode cX9_isBetween 20 = .ok (.iload_n 2, 1) := by decide +kernel
theorem dX9_isBetween_21 : decode cX9_isBetween 21 = .ok (.if_icmp .ge 17, 3) := by decide +kernel
theorem dX9_isBetween_24 : decode cX9_isBetween 24 = .ok (.iload_n 0, 1) := by decide +kernel
theorem dX9_isBetween_25 : decode cX9_isBetween 25 = .ok (.iload_n 1, 1) := by decide +kernel
theorem dX9_isBetween_26 : decode cX9_isBetween 26 = .ok (.iload 5, 2) := by decide +kernel
theorem dX9_isBetween_28 : decode cX9_isBetween 28 = .ok (.invokestatic 109, 3) := by decide +kernel
theorem dX9_isBetween_31 : decode cX9_isBetween 31 = .ok (.ifCond .eq 7, 3) := by decide +kernel
theorem dX9_isBetween_34 : decode cX9_isBetween 34 = .ok (.iconst 1, 1) := by decide +kernel
theorem dX9_isBetween_35 : decode cX9_isBetween 35 = .ok (.goto 4, 3) := by decide +kernel
theorem dX9_isBetween_38 : decode cX9_isBetween 38 = .ok (.iconst 0, 1) := by decide +kernel
theorem dX9_isBetween_39 : decode cX9_isBetween 39 = .ok (.istore_n 3, 1) := by decide +kernel
theorem dX9_isBetween_40 : decode cX9_isBetween 40 = .ok (.iload 4, 2) := by decide +kernel
theorem dX9_isBetween_42 : decode cX9_isBetween 42 = .ok (.ifCond .ne 19, 3) := by decide +kernel
theorem dX9_isBetween_45 : decode cX9_isBetween 45 = .ok (.iload 5, 2) := by decide +kernel
theorem dX9_isBetween_47 : decode cX9_isBetween 47 = .ok (.iload_n 2, 1) := by decide +kernel
theorem dX9_isBetween_48 : decode cX9_isBetween 48 = .ok (.if_icmp .le 17, 3) := by decide +kernel
theorem dX9_isBetween_51 : decode cX9_isBetween 51 = .ok (.iload_n 0, 1) := by decide +kernel
theorem dX9_isBetween_52 : decode cX9_isBetween 52 = .ok (.iload_n 1, 1) := by decide +kernel
theorem dX9_isBetween_53 : decode cX9_isBetween 53 = .ok (.iload 5, 2) := by decide +kernel
theorem dX9_isBetween_55 : decode cX9_isBetween 55 = .ok (.invokestatic 109, 3) := by decide +kernel
theorem dX9_isBetween_58 : decode cX9_isBetween 58 = .ok (.ifCond .eq 7, 3) := by decide +kernel
theorem dX9_isBetween_61 : decode cX9_isBetween 61 = .ok (.iconst 1, 1) := by decide +kernel
theorem dX9_isBetween_62 : decode cX9_isBetween 62 = .ok (.goto 4, 3) := by decide +kernel
theorem dX9_isBetween_65 : decode cX9_isBetween 65 = .ok (.iconst 0, 1) := by decide +kernel
theorem dX9_isBetween_66 : decode cX9_isBetween 66 = .ok (.istore 4, 2) := by decide +kernel
theorem dX9_isBetween_68 : decode cX9_isBetween 68 = .ok (.iinc 5 1, 3) := by decide +kernel
theorem dX9_isBetween_71 : decode cX9_isBetween 71 = .ok (.goto (-63), 3) := by decide +kernel
theorem dX9_isBetween_74 : decode cX9_isBetween 74 = .ok (.iload_n 3, 1) := by decide +kernel
theorem dX9_isBetween_75 : decode cX9_isBetween 75 = .ok (.ifCond .eq 12, 3) := by decide +kernel
theorem dX9_isBetween_78 : decode cX9_isBetween 78 = .ok (.iload 4, 2) := by decide +kernel
theorem dX9_isBetween_80 : decode cX9_isBetween 80 = .ok (.ifCond .eq 7, 3) := by decide +kernel
theorem dX9_isBetween_83 : decode cX9_isBetween 83 = .ok (.iconst 1, 1) := by decide +kernel
theorem dX9_isBetween_84 : decode cX9_isBetween 84 = .ok (.goto 4, 3) := by decide +kernel
theorem dX9_isBetween_87 : decode cX9_isBetween 87 = .ok (.iconst 0, 1) := by decide +kernel
theorem dX9_isBetween_88 : decode cX9_isBetween 88 = .ok (.ireturn, 1) := by decide +kernel
set_option maxRecDepth 20000 in
theorem ggX9_throwsOf_X9_mirrored : GoodIn wsX9_throwsOf wsX9_mirrored := goodIn_r _ [4, 5, 6, 3, 7, 8, 9, 10] (by decide +kernel) (by decide +kernel)
set_option maxRecDepth 20000 in
theorem gX9_throwsOf_X9_mirrored : GoodIn wsX9_throwsOf (va_wsS RX9 112 yX9_mirrored wsX9_mirrored) := goodIn_app (goodIn_of _ (by decide +kernel)) ggX9_throwsOf_X9_mirrored
set_option maxRecDepth 20000 in
theorem ggX9_throwsOf_X9_turned : GoodIn wsX9_throwsOf wsX9_turned := goodIn_r _ [13, 5, 6, 3, 7, 8, 9, 10] (by decide +kernel) (by decide +kernel)
set_option maxRecDepth 20000 in
theorem gX9_throwsOf_X9_turned : GoodIn wsX9_throwsOf (va_wsS RX9 114 yX9_turned wsX9_turned) := goodIn_app (goodIn_of _ (by decide +kernel)) ggX9_throwsOf_X9_turned
set_option maxRecDepth 20000 in
theorem ggX9_throwsOf_X9_has : GoodIn wsX9_throwsOf wsX9_has := goodIn_r _ [7, 8, 9, 3, 10] (by decide +kernel) (by decide +kernel)
set_option maxRecDepth 20000 in
theorem gX9_throwsOf_X9_has : GoodIn wsX9_throwsOf (va_wsS RX9 109 yX9_has wsX9_has) := goodIn_app (goodIn_of _ (by decide +kernel)) ggX9_throwsOf_X9_has
set_option maxRecDepth 20000 in
theorem ggX9_throwsOf_X9_isInner : GoodIn wsX9_throwsOf wsX9_isInner := goodIn_r _ [16, 5, 6, 3, 7, 8, 9, 10] (by decide +kernel) (by decide +kernel)
set_option maxRecDepth 20000 in
theorem gX9_throwsOf_X9_isInner : GoodIn wsX9_throwsOf (va_wsS RX9 116 yX9_isInner wsX9_isInner) := goodIn_app (goodIn_of _ (by decide +kernel)) ggX9_throwsOf_X9_isInner
set_option maxRecDepth 20000 in
theorem ggX9_throwsOf_X9_isBetween : GoodIn wsX9_throwsOf wsX9_isBetween := goodIn_r _ [19, 5, 6, 3, 7, 8, 9, 10] (by decide +kernel) (by decide +kernel)
set_option maxRecDepth 20000 in
theorem gX9_throwsOf_X9_isBetween : GoodIn wsX9_throwsOf (va_wsS RX9 119 yX9_isBetween wsX9_isBetween) := goodIn_app (goodIn_of _ (by decide +kernel)) ggX9_throwsOf_X9_isBetween
theorem dX9_throwsOf_0 : decode cX9_throwsOf 0 = .ok (.iload_n 0, 1) := by decide +kernel
theorem dX9_throwsOf_1 : decode cX9_throwsOf 1 = .ok (.ifCond .ne 7, 3) := by decide +kernel
theorem dX9_throwsOf_4 : decode cX9_throwsOf 4 = .ok (.iload_n 1, 1) := by decide +kernel
theorem dX9_throwsOf_5 : decode cX9_throwsOf 5 = .ok (.goto 26, 3) := by decide +kernel
theorem dX9_throwsOf_8 : decode cX9_throwsOf 8 = .ok (.iload_n 0, 1) := by decide +kernel
theorem dX9_throwsOf_9 : decode cX9_throwsOf 9 = .ok (.iconst 2, 1) := by decide +kernel
theorem dX9_throwsOf_10 : decode cX9_throwsOf 10 = .ok (.if_icmp .eq 8, 3) := by decide +kernel
theorem dX9_throwsOf_13 : decode cX9_throwsOf 13 = .ok (.iload_n 0, 1) := by decide +kernel
theorem dX9_throwsOf_14 : decode cX9_throwsOf 14 = .ok (.iconst 4, 1) := by decide +kernel
theorem dX9_throwsOf_15 : decode cX9_throwsOf 15 = .ok (.if_icmp .ne 11, 3) := by decide +kernel
theorem dX9_throwsOf_18 : decode cX9_throwsOf 18 = .ok (.iload_n 1, 1) := by decide +kernel
theorem dX9_throwsOf_19 : decode cX9_throwsOf 19 = .ok (.iload_n 2, 1) := by decide +kernel
theorem dX9_throwsOf_20 : decode cX9_throwsOf 20 = .ok (.invokestatic 112, 3) := by decide +kernel
theorem dX9_throwsOf_23 : decode cX9_throwsOf 23 = .ok (.goto 8, 3) := by decide +kernel
theorem dX9_throwsOf_26 : decode cX9_throwsOf 26 = .ok (.iload_n 1, 1) := by decide +kernel
theorem dX9_throwsOf_27 : decode cX9_throwsOf 27 = .ok (.iload_n 2, 1) := by decide +kernel
theorem dX9_throwsOf_28 : decode cX9_throwsOf 28 = .ok (.invokestatic 114, 3) := by decide +kernel
theorem dX9_throwsOf_31 : decode cX9_throwsOf 31 = .ok (.istore_n 3, 1) := by decide +kernel
theorem dX9_throwsOf_32 : decode cX9_throwsOf 32 = .ok (.iconst 0, 1) := by decide +kernel
theorem dX9_throwsOf_33 : decode cX9_throwsOf 33 = .ok (.istore 4, 2) := by decide +kernel
theorem dX9_throwsOf_35 : decode cX9_throwsOf 35 = .ok (.iconst 0, 1) := by decide +kernel
theorem dX9_throwsOf_36 : decode cX9_throwsOf 36 = .ok (.istore 5, 2) := by decide +kernel
theorem dX9_throwsOf_38 : decode cX9_throwsOf 38 = .ok (.iload 5, 2) := by decide +kernel
theorem dX9_throwsOf_40 : decode cX9_throwsOf 40 = .ok (.iconst 4, 1) := by decide +kernel
theorem dX9_throwsOf_41 : decode cX9_throwsOf 41 = .ok (.if_icmp .ge 150, 3) := by decide +kernel
theorem dX9_throwsOf_44 : decode cX9_throwsOf 44 = .ok (.iconst 0, 1) := by decide +kernel
theorem dX9_throwsOf_45 : decode cX9_throwsOf 45 = .ok (.istore 6, 2) := by decide +kernel
theorem dX9_throwsOf_47 : decode cX9_throwsOf 47 = .ok (.iload 6, 2) := by decide +kernel
theorem dX9_throwsOf_49 : decode cX9_throwsOf 49 = .ok (.iconst 4, 1) := by decide +kernel
theorem dX9_throwsOf_50 : decode cX9_throwsOf 50 = .ok (.if_icmp .ge 135, 3) := by decide +kernel
theorem dX9_throwsOf_53 : decode cX9_throwsOf 53 = .ok (.iload_n 3, 1) := by decide +kernel
theorem dX9_throwsOf_54 : decode cX9_throwsOf 54 = .ok (.iload 5, 2) := by decide +kernel
theorem dX9_throwsOf_56 : decode cX9_throwsOf 56 = .ok (.iload 6, 2) := by decide +kernel
theorem dX9_throwsOf_58 : decode cX9_throwsOf 58 = .ok (.invokestatic 109, 3) := by decide +kernel
theorem dX9_throwsOf_61 : decode cX9_throwsOf 61 = .ok (.istore 7, 2) := by decide +kernel
theorem dX9_throwsOf_63 : decode cX9_throwsOf 63 = .ok (.iload_n 0, 1) := by decide +kernel
theorem dX9_throwsOf_64 : decode cX9_throwsOf 64 = .ok (.iconst 3, 1) := by decide +kernel
theorem dX9_throwsOf_65 : decode cX9_throwsOf 65 = .ok (.if_icmp .ne 27, 3) := by decide +kernel
theorem dX9_throwsOf_68 : decode cX9_throwsOf 68 = .ok (.iload 7, 2) := by decide +kernel
theorem dX9_throwsOf_70 : decode cX9_throwsOf 70 = .ok (.ifCond .eq 18, 3) := by decide +kernel
theorem dX9_throwsOf_73 : decode cX9_throwsOf 73 = .ok (.iload_n 3, 1) := by decide +kernel
theorem dX9_throwsOf_74 : decode cX9_throwsOf 74 = .ok (.iload 5, 2) := by decide +kernel
theorem dX9_throwsOf_76 : decode cX9_throwsOf 76 = .ok (.iload 6, 2) := by decide +kernel
theorem dX9_throwsOf_78 : decode cX9_throwsOf 78 = .ok (.invokestatic 116, 3) := by decide +kernel
theorem dX9_throwsOf_81 : decode cX9_throwsOf 81 = .ok (.ifCond .ne 7, 3) := by decide +kernel
theorem dX9_throwsOf_84 : decode cX9_throwsOf 84 = .ok (.iconst 1, 1) := by decide +kernel
theorem dX9_throwsOf_85 : decode cX9_throwsOf 85 = .ok (.goto 69, 3) := by decide +kernel
theorem dX9_throwsOf_88 : decode cX9_throwsOf 88 = .ok (.iconst 0, 1) := by decide +kernel
theorem dX9_throwsOf_89 : decode cX9_throwsOf 89 = .ok (.goto 65, 3) := by decide +kernel
theorem dX9_throwsOf_92 : decode cX9_throwsOf 92 = .ok (.iload_n 0, 1) := by decide +kernel
theorem dX9_throwsOf_93 : decode cX9_throwsOf 93 = .ok (.iconst 4, 1) := by decide +kernel
theorem dX9_throwsOf_94 : decode cX9_throwsOf 94 = .ok (.if_icmp .ne 29, 3) := by decide +kernel
theorem dX9_throwsOf_97 : decode cX9_throwsOf 97 = .ok (.iload 7, 2) := by decide +kernel
theorem dX9_throwsOf_99 : decode cX9_throwsOf 99 = .ok (.ifCond .ne 16, 3) := by decide +kernel
theorem dX9_throwsOf_102 : decode cX9_throwsOf 102 = .ok (.iload_n 3, 1) := by decide +kernel
theorem dX9_throwsOf_103 : decode cX9_throwsOf 103 = .ok (.iload 5, 2) := by decide +kernel
theorem dX9_throwsOf_105 : decode cX9_throwsOf 105 = .ok (.iconst 1, 1) := by decide +kernel
theorem dX9_throwsOf_106 : decode cX9_throwsOf 106 = .ok (.isub, 1) := by decide +kernel
theorem dX9_throwsOf_107 : decode cX9_throwsOf 107 = .ok (.iload 6, 2) := by decide +kernel
theorem dX9_throwsOf_109 : decode cX9_throwsOf 109 = .ok (.invokestatic 109, 3) := by decide +kernel
theorem dX9_throwsOf_112 : decode cX9_throwsOf 112 = .ok (.ifCond .eq 7, 3) := by decide +kernel
theorem dX9_throwsOf_115 : decode cX9_throwsOf 115 = .ok (.iconst 1, 1) := by decide +kernel
theorem dX9_throwsOf_116 : decode cX9_throwsOf 116 = .ok (.goto 38, 3) := by decide +kernel
theorem dX9_throwsOf_119 : decode cX9_throwsOf 119 = .ok (.iconst 0, 1) := by decide +kernel
theorem dX9_throwsOf_120 : decode cX9_throwsOf 120 = .ok (.goto 34, 3) := by decide +kernel
theorem dX9_throwsOf_123 : decode cX9_throwsOf 123 = .ok (.iload_n 0, 1) := by decide +kernel
theorem dX9_throwsOf_124 : decode cX9_throwsOf 124 = .ok (.iconst 5, 1) := by decide +kernel
theorem dX9_throwsOf_125 : decode cX9_throwsOf 125 = .ok (.if_icmp .ne 27, 3) := by decide +kernel
theorem dX9_throwsOf_128 : decode cX9_throwsOf 128 = .ok (.iload 7, 2) := by decide +kernel
theorem dX9_throwsOf_130 : decode cX9_throwsOf 130 = .ok (.ifCond .ne 14, 3) := by decide +kernel
theorem dX9_throwsOf_133 : decode cX9_throwsOf 133 = .ok (.iload_n 3, 1) := by decide +kernel
theorem dX9_throwsOf_134 : decode cX9_throwsOf 134 = .ok (.iload 5, 2) := by decide +kernel
theorem dX9_throwsOf_136 : decode cX9_throwsOf 136 = .ok (.iload 6, 2) := by decide +kernel
theorem dX9_throwsOf_138 : decode cX9_throwsOf 138 = .ok (.invokestatic 119, 3) := by decide +kernel
theorem dX9_throwsOf_141 : decode cX9_throwsOf 141 = .ok (.ifCond .eq 7, 3) := by decide +kernel
theorem dX9_throwsOf_144 : decode cX9_throwsOf 144 = .ok (.iconst 1, 1) := by decide +kernel
theorem dX9_throwsOf_145 : decode cX9_throwsOf 145 = .ok (.goto 9, 3) := by decide +kernel
theorem dX9_throwsOf_148 : decode cX9_throwsOf 148 = .ok (.iconst 0, 1) := by decide +kernel
theorem dX9_throwsOf_149 : decode cX9_throwsOf 149 = .ok (.goto 5, 3) := by decide +kernel
theorem dX9_throwsOf_152 : decode cX9_throwsOf 152 = .ok (.iload 7, 2) := by decide +kernel
theorem dX9_throwsOf_154 : decode cX9_throwsOf 154 = .ok (.istore 7, 2) := by decide +kernel
theorem dX9_throwsOf_156 : decode cX9_throwsOf 156 = .ok (.iload 4, 2) := by decide +kernel
theorem dX9_throwsOf_158 : decode cX9_throwsOf 158 = .ok (.iload 7, 2) := by decide +kernel
theorem dX9_throwsOf_160 : decode cX9_throwsOf 160 = .ok (.ifCond .eq 15, 3) := by decide +kernel
theorem dX9_throwsOf_163 : decode cX9_throwsOf 163 = .ok (.iconst 1, 1) := by decide +kernel
theorem dX9_throwsOf_164 : decode cX9_throwsOf 164 = .ok (.iconst 4, 1) := by decide +kernel
theorem dX9_throwsOf_165 : decode cX9_throwsOf 165 = .ok (.iload 5, 2) := by decide +kernel
theorem dX9_throwsOf_167 : decode cX9_throwsOf 167 = .ok (.imul, 1) := by decide +kernel
theorem dX9_throwsOf_168 : decode cX9_throwsOf 168 = .ok (.iload 6, 2) := by decide +kernel
theorem dX9_throwsOf_170 : decode cX9_throwsOf 170 = .ok (.iadd, 1) := by decide +kernel
theorem dX9_throwsOf_171 : decode cX9_throwsOf 171 = .ok (.ishl, 1) := by decide +kernel
theorem dX9_throwsOf_172 : decode cX9_throwsOf 172 = .ok (.goto 4, 3) := by decide +kernel
theorem dX9_throwsOf_175 : decode cX9_throwsOf 175 = .ok (.iconst 0, 1) := by decide +kernel
theorem dX9_throwsOf_176 : decode cX9_throwsOf 176 = .ok (.ior, 1) := by decide +kernel
theorem dX9_throwsOf_177 : decode cX9_throwsOf 177 = .ok (.istore 4, 2) := by decide +kernel
theorem dX9_throwsOf_179 : decode cX9_throwsOf 179 = .ok (.iinc 6 1, 3) := by decide +kernel
theorem dX9_throwsOf_182 : decode cX9_throwsOf 182 = .ok (.goto (-135), 3) := by decide +kernel
theorem dX9_throwsOf_185 : decode cX9_throwsOf 185 = .ok (.iinc 5 1, 3) := by decide +kernel
theorem dX9_throwsOf_188 : decode cX9_throwsOf 188 = .ok (.goto (-150), 3) := by decide +kernel
theorem dX9_throwsOf_191 : decode cX9_throwsOf 191 = .ok (.iload 4, 2) := by decide +kernel
theorem dX9_throwsOf_193 : decode cX9_throwsOf 193 = .ok (.ireturn, 1) := by decide +kernel
set_option maxRecDepth 20000 in
theorem ggX9_thrown_X9_isShape : GoodIn wsX9_thrown wsX9_isShape := goodIn_r _ [6, 7, 8, 9, 5, 10, 38, 39, 40, 41, 42, 43, 44, 45, 46, 47, 48, 49, 50, 51, 52, 53, 54, 55, 56, 57, 58, 59, 60, 61, 62, 63, 64, 65] (by decide +kernel) (by decide +kernel)
set_option maxRecDepth 20000 in
theorem gX9_thrown_X9_isShape : GoodIn wsX9_thrown (wsV RX9 93 RX9 yX9_isShape wsX9_isShape) := goodIn_app (goodIn_of _ (by decide +kernel)) ggX9_thrown_X9_isShape
set_option maxRecDepth 20000 in
theorem ggX9_thrown_X9_within : GoodIn wsX9_thrown wsX9_within := goodIn_r _ [10] (by decide +kernel) (by decide +kernel)
set_option maxRecDepth 20000 in
theorem gX9_thrown_X9_within : GoodIn wsX9_thrown (va_wsS RX9 75 yX9_within wsX9_within) := goodIn_app (goodIn_of _ (by decide +kernel)) ggX9_thrown_X9_within
set_option maxRecDepth 20000 in
theorem ggX9_thrown_X9_shapeIs : GoodIn wsX9_thrown wsX9_shapeIs := goodIn_r _ [14, 7, 38, 39, 40, 41, 42, 43, 44, 45, 46, 47, 48, 49, 50, 51, 52, 53, 54, 55, 56, 57, 58, 59, 60, 61, 62, 63, 64, 65] (by decide +kernel) (by decide +kernel)
set_option maxRecDepth 20000 in
theorem gX9_thrown_X9_shapeIs : GoodIn wsX9_thrown (wsV RX9 99 RX9 yX9_shapeIs wsX9_shapeIs) := goodIn_app (goodIn_of _ (by decide +kernel)) ggX9_thrown_X9_shapeIs
set_option maxRecDepth 20000 in
theorem ggX9_thrown_X9_throwsOf : GoodIn wsX9_thrown wsX9_throwsOf := goodIn_r _ [17, 18, 19, 5, 20, 21, 22, 23, 8, 9, 10, 24, 25, 26, 27, 28, 29, 30, 31, 32] (by decide +kernel) (by decide +kernel)
set_option maxRecDepth 20000 in
theorem gX9_thrown_X9_throwsOf : GoodIn wsX9_thrown (va_wsS RX9 122 yX9_throwsOf wsX9_throwsOf) := goodIn_app (goodIn_of _ (by decide +kernel)) ggX9_thrown_X9_throwsOf
set_option maxRecDepth 20000 in
theorem ggX9_thrown_X9_finding : GoodIn wsX9_thrown wsX9_finding := goodIn_r _ [36, 37, 1, 38, 39, 40, 41, 42, 43, 44, 45, 46, 47, 48, 49, 50, 51, 52, 53, 54, 55, 56, 57, 58, 59, 60, 61, 62, 63, 64, 65] (by decide +kernel) (by decide +kernel)
set_option maxRecDepth 20000 in
theorem gX9_thrown_X9_finding : GoodIn wsX9_thrown (wsV RX9 84 RX9 yX9_finding wsX9_finding) := goodIn_app (goodIn_of _ (by decide +kernel)) ggX9_thrown_X9_finding
theorem dX9_thrown_0 : decode cX9_thrown 0 = .ok (.aload_n 0, 1) := by decide +kernel
theorem dX9_thrown_1 : decode cX9_thrown 1 = .ok (.iload_n 1, 1) := by decide +kernel
theorem dX9_thrown_2 : decode cX9_thrown 2 = .ok (.invokevirtual 93, 3) := by decide +kernel
theorem dX9_thrown_5 : decode cX9_thrown 5 = .ok (.ifCond .eq 31, 3) := by decide +kernel
theorem dX9_thrown_8 : decode cX9_thrown 8 = .ok (.iload_n 2, 1) := by decide +kernel
theorem dX9_thrown_9 : decode cX9_thrown 9 = .ok (.iconst 0, 1) := by decide +kernel
theorem dX9_thrown_10 : decode cX9_thrown 10 = .ok (.iconst 3, 1) := by decide +kernel
theorem dX9_thrown_11 : decode cX9_thrown 11 = .ok (.invokestatic 75, 3) := by decide +kernel
theorem dX9_thrown_14 : decode cX9_thrown 14 = .ok (.ifCond .eq 22, 3) := by decide +kernel
theorem dX9_thrown_17 : decode cX9_thrown 17 = .ok (.aload_n 0, 1) := by decide +kernel
theorem dX9_thrown_18 : decode cX9_thrown 18 = .ok (.iload_n 1, 1) := by decide +kernel
theorem dX9_thrown_19 : decode cX9_thrown 19 = .ok (.iconst 0, 1) := by decide +kernel
theorem dX9_thrown_20 : decode cX9_thrown 20 = .ok (.invokevirtual 99, 3) := by decide +kernel
theorem dX9_thrown_23 : decode cX9_thrown 23 = .ok (.aload_n 0, 1) := by decide +kernel
theorem dX9_thrown_24 : decode cX9_thrown 24 = .ok (.iload_n 1, 1) := by decide +kernel
theorem dX9_thrown_25 : decode cX9_thrown 25 = .ok (.iconst 1, 1) := by decide +kernel
theorem dX9_thrown_26 : decode cX9_thrown 26 = .ok (.invokevirtual 99, 3) := by decide +kernel
theorem dX9_thrown_29 : decode cX9_thrown 29 = .ok (.iload_n 2, 1) := by decide +kernel
theorem dX9_thrown_30 : decode cX9_thrown 30 = .ok (.invokestatic 122, 3) := by decide +kernel
theorem dX9_thrown_33 : decode cX9_thrown 33 = .ok (.goto 9, 3) := by decide +kernel
theorem dX9_thrown_36 : decode cX9_thrown 36 = .ok (.aload_n 0, 1) := by decide +kernel
theorem dX9_thrown_37 : decode cX9_thrown 37 = .ok (.ldc 74, 2) := by decide +kernel
theorem dX9_thrown_39 : decode cX9_thrown 39 = .ok (.invokevirtual 84, 3) := by decide +kernel
