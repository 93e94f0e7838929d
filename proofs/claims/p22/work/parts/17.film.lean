theorem dX8_lays_0 : decode cX8_lays 0 = .ok (.aload_n 0, 1) := by decide +kernel
theorem dX8_lays_1 : decode cX8_lays 1 = .ok (.iload_n 1, 1) := by decide +kernel
theorem dX8_lays_2 : decode cX8_lays 2 = .ok (.invokevirtual 256, 3) := by decide +kernel
theorem dX8_lays_5 : decode cX8_lays 5 = .ok (.astore_n 2, 1) := by decide +kernel
theorem dX8_lays_6 : decode cX8_lays 6 = .ok (.aload_n 2, 1) := by decide +kernel
theorem dX8_lays_7 : decode cX8_lays 7 = .ok (.ifnonnull 10, 3) := by decide +kernel
theorem dX8_lays_10 : decode cX8_lays 10 = .ok (.aload_n 0, 1) := by decide +kernel
theorem dX8_lays_11 : decode cX8_lays 11 = .ok (.ldc 62, 2) := by decide +kernel
theorem dX8_lays_13 : decode cX8_lays 13 = .ok (.invokevirtual 63, 3) := by decide +kernel
theorem dX8_lays_16 : decode cX8_lays 16 = .ok (.ireturn, 1) := by decide +kernel
theorem dX8_lays_17 : decode cX8_lays 17 = .ok (.aload_n 2, 1) := by decide +kernel
theorem dX8_lays_18 : decode cX8_lays 18 = .ok (.invokevirtual 268, 3) := by decide +kernel
theorem dX8_lays_21 : decode cX8_lays 21 = .ok (.ifCond .eq 11, 3) := by decide +kernel
theorem dX8_lays_24 : decode cX8_lays 24 = .ok (.aload_n 0, 1) := by decide +kernel
theorem dX8_lays_25 : decode cX8_lays 25 = .ok (.ldc_w 271, 3) := by decide +kernel
theorem dX8_lays_28 : decode cX8_lays 28 = .ok (.invokevirtual 63, 3) := by decide +kernel
theorem dX8_lays_31 : decode cX8_lays 31 = .ok (.ireturn, 1) := by decide +kernel
theorem dX8_lays_32 : decode cX8_lays 32 = .ok (.aload_n 2, 1) := by decide +kernel
theorem dX8_lays_33 : decode cX8_lays 33 = .ok (.getfield 267, 3) := by decide +kernel
theorem dX8_lays_36 : decode cX8_lays 36 = .ok (.aload_n 0, 1) := by decide +kernel
theorem dX8_lays_37 : decode cX8_lays 37 = .ok (.getfield 10, 3) := by decide +kernel
theorem dX8_lays_40 : decode cX8_lays 40 = .ok (.getfield 204, 3) := by decide +kernel
theorem dX8_lays_43 : decode cX8_lays 43 = .ok (.invokestatic 221, 3) := by decide +kernel
theorem dX8_lays_46 : decode cX8_lays 46 = .ok (.istore_n 3, 1) := by decide +kernel
theorem dX8_lays_47 : decode cX8_lays 47 = .ok (.iconst 0, 1) := by decide +kernel
theorem dX8_lays_48 : decode cX8_lays 48 = .ok (.istore 4, 2) := by decide +kernel
theorem dX8_lays_50 : decode cX8_lays 50 = .ok (.iload 4, 2) := by decide +kernel
theorem dX8_lays_52 : decode cX8_lays 52 = .ok (.iload_n 3, 1) := by decide +kernel
theorem dX8_lays_53 : decode cX8_lays 53 = .ok (.if_icmp .ge 26, 3) := by decide +kernel
theorem dX8_lays_56 : decode cX8_lays 56 = .ok (.aload_n 0, 1) := by decide +kernel
theorem dX8_lays_57 : decode cX8_lays 57 = .ok (.getfield 10, 3) := by decide +kernel
theorem dX8_lays_60 : decode cX8_lays 60 = .ok (.getfield 160, 3) := by decide +kernel
theorem dX8_lays_63 : decode cX8_lays 63 = .ok (.iload 4, 2) := by decide +kernel
theorem dX8_lays_65 : decode cX8_lays 65 = .ok (.aload_n 2, 1) := by decide +kernel
theorem dX8_lays_66 : decode cX8_lays 66 = .ok (.getfield 272, 3) := by decide +kernel
theorem dX8_lays_69 : decode cX8_lays 69 = .ok (.iload 4, 2) := by decide +kernel
theorem dX8_lays_71 : decode cX8_lays 71 = .ok (.laload, 1) := by decide +kernel
theorem dX8_lays_72 : decode cX8_lays 72 = .ok (.lastore, 1) := by decide +kernel
theorem dX8_lays_73 : decode cX8_lays 73 = .ok (.iinc 4 1, 3) := by decide +kernel
theorem dX8_lays_76 : decode cX8_lays 76 = .ok (.goto (-26), 3) := by decide +kernel
theorem dX8_lays_79 : decode cX8_lays 79 = .ok (.iload_n 3, 1) := by decide +kernel
theorem dX8_lays_80 : decode cX8_lays 80 = .ok (.ireturn, 1) := by decide +kernel
theorem dX8_film_0 : decode cX8_film 0 = .ok (.aload_n 0, 1) := by decide +kernel
theorem dX8_film_1 : decode cX8_film 1 = .ok (.iload_n 1, 1) := by decide +kernel
theorem dX8_film_2 : decode cX8_film 2 = .ok (.invokevirtual 256, 3) := by decide +kernel
theorem dX8_film_5 : decode cX8_film 5 = .ok (.astore_n 2, 1) := by decide +kernel
theorem dX8_film_6 : decode cX8_film 6 = .ok (.aload_n 2, 1) := by decide +kernel
theorem dX8_film_7 : decode cX8_film 7 = .ok (.ifnonnull 10, 3) := by decide +kernel
theorem dX8_film_10 : decode cX8_film 10 = .ok (.aload_n 0, 1) := by decide +kernel
theorem dX8_film_11 : decode cX8_film 11 = .ok (.ldc 62, 2) := by decide +kernel
theorem dX8_film_13 : decode cX8_film 13 = .ok (.invokevirtual 63, 3) := by decide +kernel
theorem dX8_film_16 : decode cX8_film 16 = .ok (.ireturn, 1) := by decide +kernel
theorem dX8_film_17 : decode cX8_film 17 = .ok (.aload_n 2, 1) := by decide +kernel
theorem dX8_film_18 : decode cX8_film 18 = .ok (.invokevirtual 268, 3) := by decide +kernel
theorem dX8_film_21 : decode cX8_film 21 = .ok (.ifCond .eq 11, 3) := by decide +kernel
theorem dX8_film_24 : decode cX8_film 24 = .ok (.aload_n 0, 1) := by decide +kernel
theorem dX8_film_25 : decode cX8_film 25 = .ok (.ldc_w 271, 3) := by decide +kernel
theorem dX8_film_28 : decode cX8_film 28 = .ok (.invokevirtual 63, 3) := by decide +kernel
theorem dX8_film_31 : decode cX8_film 31 = .ok (.ireturn, 1) := by decide +kernel
theorem dX8_film_32 : decode cX8_film 32 = .ok (.aload_n 0, 1) := by decide +kernel
theorem dX8_film_33 : decode cX8_film 33 = .ok (.getfield 10, 3) := by decide +kernel
theorem dX8_film_36 : decode cX8_film 36 = .ok (.invokevirtual 134, 3) := by decide +kernel
theorem dX8_film_39 : decode cX8_film 39 = .ok (.lstore_n 3, 1) := by decide +kernel
theorem dX8_film_40 : decode cX8_film 40 = .ok (.aload_n 2, 1) := by decide +kernel
theorem dX8_film_41 : decode cX8_film 41 = .ok (.getfield 267, 3) := by decide +kernel
theorem dX8_film_44 : decode cX8_film 44 = .ok (.bipush 8, 2) := by decide +kernel
theorem dX8_film_46 : decode cX8_film 46 = .ok (.invokestatic 221, 3) := by decide +kernel
theorem dX8_film_49 : decode cX8_film 49 = .ok (.istore 5, 2) := by decide +kernel
theorem dX8_film_51 : decode cX8_film 51 = .ok (.iconst 0, 1) := by decide +kernel
theorem dX8_film_52 : decode cX8_film 52 = .ok (.istore 6, 2) := by decide +kernel
theorem dX8_film_54 : decode cX8_film 54 = .ok (.iload 6, 2) := by decide +kernel
theorem dX8_film_56 : decode cX8_film 56 = .ok (.iload 5, 2) := by decide +kernel
theorem dX8_film_58 : decode cX8_film 58 = .ok (.if_icmp .ge 22, 3) := by decide +kernel
theorem dX8_film_61 : decode cX8_film 61 = .ok (.aload_n 2, 1) := by decide +kernel
theorem dX8_film_62 : decode cX8_film 62 = .ok (.iload 6, 2) := by decide +kernel
theorem dX8_film_64 : decode cX8_film 64 = .ok (.lload_n 3, 1) := by decide +kernel
theorem dX8_film_65 : decode cX8_film 65 = .ok (.iload 6, 2) := by decide +kernel
theorem dX8_film_67 : decode cX8_film 67 = .ok (.invokestatic 291, 3) := by decide +kernel
theorem dX8_film_70 : decode cX8_film 70 = .ok (.i2l, 1) := by decide +kernel
theorem dX8_film_71 : decode cX8_film 71 = .ok (.invokevirtual 275, 3) := by decide +kernel
theorem dX8_film_74 : decode cX8_film 74 = .ok (.iinc 6 1, 3) := by decide +kernel
theorem dX8_film_77 : decode cX8_film 77 = .ok (.goto (-23), 3) := by decide +kernel
theorem dX8_film_80 : decode cX8_film 80 = .ok (.iload 5, 2) := by decide +kernel
theorem dX8_film_82 : decode cX8_film 82 = .ok (.ireturn, 1) := by decide +kernel
theorem dX8_read_0 : decode cX8_read 0 = .ok (.aload_n 0, 1) := by decide +kernel
theorem dX8_read_1 : decode cX8_read 1 = .ok (.iload_n 1, 1) := by decide +kernel
theorem dX8_read_2 : decode cX8_read 2 = .ok (.invokevirtual 256, 3) := by decide +kernel
theorem dX8_read_5 : decode cX8_read 5 = .ok (.astore_n 2, 1) := by decide +kernel
theorem dX8_read_6 : decode cX8_read 6 = .ok (.aload_n 2, 1) := by decide +kernel
theorem dX8_read_7 : decode cX8_read 7 = .ok (.ifnonnull 10, 3) := by decide +kernel
theorem dX8_read_10 : decode cX8_read 10 = .ok (.aload_n 0, 1) := by decide +kernel
theorem dX8_read_11 : decode cX8_read 11 = .ok (.ldc 62, 2) := by decide +kernel
theorem dX8_read_13 : decode cX8_read 13 = .ok (.invokevirtual 63, 3) := by decide +kernel
theorem dX8_read_16 : decode cX8_read 16 = .ok (.ireturn, 1) := by decide +kernel
theorem dX8_read_17 : decode cX8_read 17 = .ok (.aload_n 2, 1) := by decide +kernel
theorem dX8_read_18 : decode cX8_read 18 = .ok (.invokevirtual 268, 3) := by decide +kernel
theorem dX8_read_21 : decode cX8_read 21 = .ok (.ifCond .eq 11, 3) := by decide +kernel
theorem dX8_read_24 : decode cX8_read 24 = .ok (.aload_n 0, 1) := by decide +kernel
theorem dX8_read_25 : decode cX8_read 25 = .ok (.ldc_w 271, 3) := by decide +kernel
theorem dX8_read_28 : decode cX8_read 28 = .ok (.invokevirtual 63, 3) := by decide +kernel
theorem dX8_read_31 : decode cX8_read 31 = .ok (.ireturn, 1) := by decide +kernel
theorem dX8_read_32 : decode cX8_read 32 = .ok (.aload_n 0, 1) := by decide +kernel
theorem dX8_read_33 : decode cX8_read 33 = .ok (.getfield 10, 3) := by decide +kernel
theorem dX8_read_36 : decode cX8_read 36 = .ok (.invokevirtual 134, 3) := by decide +kernel
theorem dX8_read_39 : decode cX8_read 39 = .ok (.lstore_n 3, 1) := by decide +kernel
theorem dX8_read_40 : decode cX8_read 40 = .ok (.aload_n 2, 1) := by decide +kernel
theorem dX8_read_41 : decode cX8_read 41 = .ok (.getfield 267, 3) := by decide +kernel
theorem dX8_read_44 : decode cX8_read 44 = .ok (.bipush 8, 2) := by decide +kernel
theorem dX8_read_46 : decode cX8_read 46 = .ok (.invokestatic 221, 3) := by decide +kernel
theorem dX8_read_49 : decode cX8_read 49 = .ok (.istore 5, 2) := by decide +kernel
theorem dX8_read_51 : decode cX8_read 51 = .ok (.iconst 0, 1) := by decide +kernel
theorem dX8_read_52 : decode cX8_read 52 = .ok (.istore 6, 2) := by decide +kernel
theorem dX8_read_54 : decode cX8_read 54 = .ok (.iload 6, 2) := by decide +kernel
theorem dX8_read_56 : decode cX8_read 56 = .ok (.iload 5, 2) := by decide +kernel
theorem dX8_read_58 : decode cX8_read 58 = .ok (.if_icmp .ge 36, 3) := by decide +kernel
theorem dX8_read_61 : decode cX8_read 61 = .ok (.aload_n 2, 1) := by decide +kernel
theorem dX8_read_62 : decode cX8_read 62 = .ok (.getfield 272, 3) := by decide +kernel
theorem dX8_read_65 : decode cX8_read 65 = .ok (.iload 6, 2) := by decide +kernel
theorem dX8_read_67 : decode cX8_read 67 = .ok (.laload, 1) := by decide +kernel
theorem dX8_read_68 : decode cX8_read 68 = .ok (.ldc2_w 295, 3) := by decide +kernel
theorem dX8_read_71 : decode cX8_read 71 = .ok (.land, 1) := by decide +kernel
theorem dX8_read_72 : decode cX8_read 72 = .ok (.lload_n 3, 1) := by decide +kernel
theorem dX8_read_73 : decode cX8_read 73 = .ok (.iload 6, 2) := by decide +kernel
theorem dX8_read_75 : decode cX8_read 75 = .ok (.invokestatic 291, 3) := by decide +kernel
theorem dX8_read_78 : decode cX8_read 78 = .ok (.i2l, 1) := by decide +kernel
theorem dX8_read_79 : decode cX8_read 79 = .ok (.lcmp, 1) := by decide +kernel
theorem dX8_read_80 : decode cX8_read 80 = .ok (.ifCond .eq 8, 3) := by decide +kernel
theorem dX8_read_83 : decode cX8_read 83 = .ok (.iconst 1, 1) := by decide +kernel
theorem dX8_read_84 : decode cX8_read 84 = .ok (.iload 6, 2) := by decide +kernel
theorem dX8_read_86 : decode cX8_read 86 = .ok (.iadd, 1) := by decide +kernel
theorem dX8_read_87 : decode cX8_read 87 = .ok (.ireturn, 1) := by decide +kernel
theorem dX8_read_88 : decode cX8_read 88 = .ok (.iinc 6 1, 3) := by decide +kernel
theorem dX8_read_91 : decode cX8_read 91 = .ok (.goto (-37), 3) := by decide +kernel
theorem dX8_read_94 : decode cX8_read 94 = .ok (.iconst 0, 1) := by decide +kernel
theorem dX8_read_95 : decode cX8_read 95 = .ok (.ireturn, 1) := by decide +kernel
def w_x_lays : List Cond := .code yX8_lays cX8_lays 5 (some .int) :: (([.methodLink RX8 256 yX8_paperAt, .instanceMethod yX8_paperAt, .selects RX8 yX8_paperAt yX8_paperAt, .initialized RX8, .code yX8_paperAt cX8_paperAt 2 (some (.object "LampShapes$Paper")), .constant RX8 62 (-1000000001), .methodLink RX8 63 yX8_finding, .instanceMethod yX8_finding, .selects RX8 yX8_finding yX8_finding, .code yX8_finding cX8_finding 3 (some .int), .fieldLink RX8 46 "LampShapes" "told" "[I", .fieldLink RX8 42 "LampShapes" "papers" "[LLampShapes$Paper;", .methodLink RX8 268 yX2_isMissing, .instanceMethod yX2_isMissing, .selects RX2 yX2_isMissing yX2_isMissing, .initialized RX2, .code yX2_isMissing cX2_isMissing 1 (some .boolean), .fieldLink RX2 9 "LampShapes$Paper" "bits" "I", .fieldLink RX8 10 "LampShapes" "now" "LLampShapes$Stage;", .methodLink RX8 221 Lib.Math.min.name, .static Lib.Math.min.name, .initialized "java/lang/Math", .code Lib.Math.min.name Lib.Math.min.code 2 (some .int), .constant RX8 271 (-1000000006)] : List Cond) ++ wsX80 ++ wsX20 ++ wsX60)
set_option maxRecDepth 20000 in
theorem g_x_lays_c_paperAt_lt_256 : GoodIn w_x_lays (wsV RX8 256 RX8 yX8_paperAt w_c_paperAt_lt) := goodIn_r _ [1, 2, 3, 4, 5] rfl (by decide +kernel)
set_option maxRecDepth 20000 in
theorem g_x_lays_f_beyond_63 : GoodIn w_x_lays (wsV RX8 63 RX8 yX8_finding w_f_beyond) := goodIn_r _ [7, 8, 9, 4, 10, 6, 11, 25, 26, 27, 28, 29, 30, 31, 32] rfl (by decide +kernel)
set_option maxRecDepth 20000 in
theorem g_x_lays_c_paperAt_gt_256 : GoodIn w_x_lays (wsV RX8 256 RX8 yX8_paperAt w_c_paperAt_gt) := goodIn_r _ [1, 2, 3, 4, 5] rfl (by decide +kernel)
set_option maxRecDepth 20000 in
theorem g_x_lays_c_paperAt_0_256 : GoodIn w_x_lays (wsV RX8 256 RX8 yX8_paperAt w_c_paperAt_0) := goodIn_r _ [1, 2, 3, 4, 5, 12, 25, 26, 27, 28, 29, 30, 31, 32] rfl (by decide +kernel)
set_option maxRecDepth 20000 in
theorem g_x_lays_p_isMissing_268 : GoodIn w_x_lays (wsV RX8 268 RX2 yX2_isMissing w_p_isMissing) := goodIn_r _ [13, 14, 15, 16, 17, 18, 33, 34, 35] rfl (by decide +kernel)
set_option maxRecDepth 20000 in
theorem g_x_lays_f_missing_63 : GoodIn w_x_lays (wsV RX8 63 RX8 yX8_finding w_f_missing) := goodIn_r _ [7, 8, 9, 4, 10, 6, 11, 25, 26, 27, 28, 29, 30, 31, 32] rfl (by decide +kernel)
set_option maxRecDepth 20000 in
theorem g_x_lays_c_paperAt_1_256 : GoodIn w_x_lays (wsV RX8 256 RX8 yX8_paperAt w_c_paperAt_1) := goodIn_r _ [1, 2, 3, 4, 5, 12, 25, 26, 27, 28, 29, 30, 31, 32] rfl (by decide +kernel)
set_option maxRecDepth 20000 in
theorem g_x_lays_c_paperAt_2_256 : GoodIn w_x_lays (wsV RX8 256 RX8 yX8_paperAt w_c_paperAt_2) := goodIn_r _ [1, 2, 3, 4, 5, 12, 25, 26, 27, 28, 29, 30, 31, 32] rfl (by decide +kernel)
set_option maxRecDepth 20000 in
theorem g_x_lays_c_paperAt_3_256 : GoodIn w_x_lays (wsV RX8 256 RX8 yX8_paperAt w_c_paperAt_3) := goodIn_r _ [1, 2, 3, 4, 5, 12, 25, 26, 27, 28, 29, 30, 31, 32] rfl (by decide +kernel)
set_option maxHeartbeats 4000000 in
set_option maxRecDepth 100000 in
theorem x_lays (l : Launch) (dC : Nat → ClassId) (dI : Nat → Nat → Nat) (ad : Nat → Nat) (h0 : Nat) (sn : Int32) (ah : Nat) (v1 : Value) (v2 : Value) (v3 : Value) (v4 : Value) (ph : Nat) (t0 : Nat) (v7 : Value) (tc : ClassId) (tf : Nat → Int32) (pc : ClassId) (pf : Nat → Option Nat) (p0 : Nat) (b0 : Int32) (z0 : Int32) (n0 : Nat) (nc0 : ClassId) (g0 : Nat → Int64) (p1 : Nat) (b1 : Int32) (z1 : Int32) (n1 : Nat) (nc1 : ClassId) (g1 : Nat → Int64) (p2 : Nat) (b2 : Int32) (z2 : Int32) (n2 : Nat) (nc2 : ClassId) (g2 : Nat → Int64) (p3 : Nat) (b3 : Int32) (z3 : Int32) (n3 : Nat) (nc3 : ClassId) (g3 : Nat → Int64) (w0 : Value) (w1 : Value) (w2 : Value) (w3 : Value) (w4 : Value) (w5 : Value) (sc : Int32) (q5 : Nat) (w8 : Value) (c5 : ClassId) (f5 : Nat → Int64) (sz : Nat) (hp0 : pf 0 = (some p0)) (hp1 : pf 1 = (some p1)) (hp2 : pf 2 = (some p2)) (hp3 : pf 3 = (some p3)) (hz0 : 0 ≤ z0.toInt ∧ z0.toInt ≤ 40) (hz1 : 0 ≤ z1.toInt ∧ z1.toInt ≤ 40) (hz2 : 0 ≤ z2.toInt ∧ z2.toInt ≤ 40) (hz3 : 0 ≤ z3.toInt ∧ z3.toInt ≤ 40) (hsc : 0 ≤ sc.toInt ∧ sc.toInt ≤ 7) : Met l yX8_lays w_x_lays ({ frames := 1, cells := 0, slots := 0, locals := 22 } : Room) (va_Pc [.ref h0, .int sn] (preM dC dI ad [(tc, .int), (pc, .object "LampShapes$Paper"), (nc0, .long), (nc1, .long), (nc2, .long), (nc3, .long), (c5, .long)] [(h0, .inr (6, [.ref ah, v1, v2, v3, v4, .ref ph, .ref t0, v7])), (t0, .inl (tc, 7, .inl tf)), (ph, .inl (pc, 4, .inr (.inr (.inr (.inr pf))))), (p0, .inr (0, [.int b0, .int z0, .ref n0])), (n0, .inl (nc0, 40, .inr (.inl g0))), (p1, .inr (0, [.int b1, .int z1, .ref n1])), (n1, .inl (nc1, 40, .inr (.inl g1))), (p2, .inr (0, [.int b2, .int z2, .ref n2])), (n2, .inl (nc2, 40, .inr (.inl g2))), (p3, .inr (0, [.int b3, .int z3, .ref n3])), (n3, .inl (nc3, 40, .inr (.inl g3))), (ah, .inr (4, [w0, w1, w2, w3, w4, w5, .int sc, .ref q5, w8])), (q5, .inl (c5, 7, .inr (.inl f5)))] sz)) (va_Qi (fun (r : Int32) (_ : Unit) => True) (fun _ t => ∃ (tg : Nat → Int32), ∃ (g5 : Nat → Int64), va_P (dC, dI) vwCl [(h0, .inr (6, [.ref ah, v1, v2, v3, v4, .ref ph, .ref t0, v7])), (t0, .inl (tc, 7, .inl tg)), (ph, .inl (pc, 4, .inr (.inr (.inr (.inr pf))))), (p0, .inr (0, [.int b0, .int z0, .ref n0])), (n0, .inl (nc0, 40, .inr (.inl g0))), (p1, .inr (0, [.int b1, .int z1, .ref n1])), (n1, .inl (nc1, 40, .inr (.inl g1))), (p2, .inr (0, [.int b2, .int z2, .ref n2])), (n2, .inl (nc2, 40, .inr (.inl g2))), (p3, .inr (0, [.int b3, .int z3, .ref n3])), (n3, .inl (nc3, 40, .inr (.inl g3))), (ah, .inr (4, [w0, w1, w2, w3, w4, w5, .int sc, .ref q5, w8])), (q5, .inl (c5, 7, .inr (.inl g5)))] t.heap ∧ va_K (dC, dI) vwCl [(tc, .int), (pc, .object "LampShapes$Paper"), (nc0, .long), (nc1, .long), (nc2, .long), (nc3, .long), (c5, .long)] t ∧ va_D (va_A [(h0, .inr (6, [.ref ah, v1, v2, v3, v4, .ref ph, .ref t0, v7])), (t0, .inl (tc, 7, .inl tf)), (ph, .inl (pc, 4, .inr (.inr (.inr (.inr pf))))), (p0, .inr (0, [.int b0, .int z0, .ref n0])), (n0, .inl (nc0, 40, .inr (.inl g0))), (p1, .inr (0, [.int b1, .int z1, .ref n1])), (n1, .inl (nc1, 40, .inr (.inl g1))), (p2, .inr (0, [.int b2, .int z2, .ref n2])), (n2, .inl (nc2, 40, .inr (.inl g2))), (p3, .inr (0, [.int b3, .int z3, .ref n3])), (n3, .inl (nc3, 40, .inr (.inl g3))), (ah, .inr (4, [w0, w1, w2, w3, w4, w5, .int sc, .ref q5, w8])), (q5, .inl (c5, 7, .inr (.inl f5)))] sz) [(h0, .inr (6, [.ref ah, v1, v2, v3, v4, .ref ph, .ref t0, v7])), (t0, .inl (tc, 7, .inl tg)), (ph, .inl (pc, 4, .inr (.inr (.inr (.inr pf))))), (p0, .inr (0, [.int b0, .int z0, .ref n0])), (n0, .inl (nc0, 40, .inr (.inl g0))), (p1, .inr (0, [.int b1, .int z1, .ref n1])), (n1, .inl (nc1, 40, .inr (.inl g1))), (p2, .inr (0, [.int b2, .int z2, .ref n2])), (n2, .inl (nc2, 40, .inr (.inl g2))), (p3, .inr (0, [.int b3, .int z3, .ref n3])), (n3, .inl (nc3, 40, .inr (.inl g3))), (ah, .inr (4, [w0, w1, w2, w3, w4, w5, .int sc, .ref q5, w8])), (q5, .inl (c5, 7, .inr (.inl g5)))]) (va_A [(h0, .inr (6, [.ref ah, v1, v2, v3, v4, .ref ph, .ref t0, v7])), (t0, .inl (tc, 7, .inl tf)), (ph, .inl (pc, 4, .inr (.inr (.inr (.inr pf))))), (p0, .inr (0, [.int b0, .int z0, .ref n0])), (n0, .inl (nc0, 40, .inr (.inl g0))), (p1, .inr (0, [.int b1, .int z1, .ref n1])), (n1, .inl (nc1, 40, .inr (.inl g1))), (p2, .inr (0, [.int b2, .int z2, .ref n2])), (n2, .inl (nc2, 40, .inr (.inl g2))), (p3, .inr (0, [.int b3, .int z3, .ref n3])), (n3, .inl (nc3, 40, .inr (.inl g3))), (ah, .inr (4, [w0, w1, w2, w3, w4, w5, .int sc, .ref q5, w8])), (q5, .inl (c5, 7, .inr (.inl f5)))] sz)) 0 0 (va_A [(h0, .inr (6, [.ref ah, v1, v2, v3, v4, .ref ph, .ref t0, v7])), (t0, .inl (tc, 7, .inl tf)), (ph, .inl (pc, 4, .inr (.inr (.inr (.inr pf))))), (p0, .inr (0, [.int b0, .int z0, .ref n0])), (n0, .inl (nc0, 40, .inr (.inl g0))), (p1, .inr (0, [.int b1, .int z1, .ref n1])), (n1, .inl (nc1, 40, .inr (.inl g1))), (p2, .inr (0, [.int b2, .int z2, .ref n2])), (n2, .inl (nc2, 40, .inr (.inl g2))), (p3, .inr (0, [.int b3, .int z3, .ref n3])), (n3, .inl (nc3, 40, .inr (.inl g3))), (ah, .inr (4, [w0, w1, w2, w3, w4, w5, .int sc, .ref q5, w8])), (q5, .inl (c5, 7, .inr (.inl f5)))] sz) := by
  rcases pp_c_0_3 sn with hlt0 | hgt0 | rfl | rfl | rfl | rfl
  · skip
    refine Met.ofW (cc := cX8_lays) (maxL := 5) (ret := (some .int)) (by decide) rfl ?_
    intro p e s m args below meth c s₁ B hml hv
    obtain ⟨rfl, hsz, hP, hK, hD0, hev⟩ := hv
    have hx := B.exec
    have hb := B.bytes
    have hr := B.returns
    have hts := atoms_spec (ws := w_x_lays) B.pre
    have hown : s.vm.findClass RX8 = some m.cls := findClass_of_methodNamed B.named
    have hlocks := B.notSynchronized
    have inX8 : ∀ w ∈ wsX80, w ∈ w_x_lays := fun w h => List.mem_cons_of_mem _ (List.mem_append_left _ (List.mem_append_left _ (List.mem_append_right _ h)))
    have inX2 : ∀ w ∈ wsX20, w ∈ w_x_lays := fun w h => List.mem_cons_of_mem _ (List.mem_append_left _ (List.mem_append_right _ h))
    have inX6 : ∀ w ∈ wsX60, w ∈ w_x_lays := fun w h => List.mem_cons_of_mem _ (List.mem_append_right _ h)
    subst hsz
    have hD := hD0.self (sz := s.heap.size)
    generalize hAe : va_A [(h0, .inr (6, [.ref ah, v1, v2, v3, v4, .ref ph, .ref t0, v7])), (t0, .inl (tc, 7, .inl tf)), (ph, .inl (pc, 4, .inr (.inr (.inr (.inr pf))))), (p0, .inr (0, [.int b0, .int z0, .ref n0])), (n0, .inl (nc0, 40, .inr (.inl g0))), (p1, .inr (0, [.int b1, .int z1, .ref n1])), (n1, .inl (nc1, 40, .inr (.inl g1))), (p2, .inr (0, [.int b2, .int z2, .ref n2])), (n2, .inl (nc2, 40, .inr (.inl g2))), (p3, .inr (0, [.int b3, .int z3, .ref n3])), (n3, .inl (nc3, 40, .inr (.inl g3))), (ah, .inr (4, [w0, w1, w2, w3, w4, w5, .int sc, .ref q5, w8])), (q5, .inl (c5, 7, .inr (.inl f5)))] s.heap.size = A at hD ⊢
    have hA : ∀ q : Nat, s.heap.size ≤ q → A q := fun q h => by rw [← hAe]; exact Or.inr h
    have hS : va_S A s.heap s.heap [] := va_S.rf
    have hP : va_P (dC, dI) vwCl [(h0, .inr (6, [.ref ah, v1, v2, v3, v4, .ref ph, .ref t0, v7])), (t0, .inl (tc, 7, .inl tf)), (ph, .inl (pc, 4, .inr (.inr (.inr (.inr pf))))), (p0, .inr (0, [.int b0, .int z0, .ref n0])), (n0, .inl (nc0, 40, .inr (.inl g0))), (p1, .inr (0, [.int b1, .int z1, .ref n1])), (n1, .inl (nc1, 40, .inr (.inl g1))), (p2, .inr (0, [.int b2, .int z2, .ref n2])), (n2, .inl (nc2, 40, .inr (.inl g2))), (p3, .inr (0, [.int b3, .int z3, .ref n3])), (n3, .inl (nc3, 40, .inr (.inl g3))), (ah, .inr (4, [w0, w1, w2, w3, w4, w5, .int sc, .ref q5, w8])), (q5, .inl (c5, 7, .inr (.inl f5)))] s.heap := hP
    have hl := lv_entry ([.ref h0, .int sn]) (n := 5) (Nat.le_of_ble_eq_true rfl)
    rw [lg_entry_eq]
    generalize (lg_sl ([.ref h0, .int sn]) ++ List.replicate (5 - (lg_sl ([.ref h0, .int sn])).length) Slot.unset).toArray = ls at hl ⊢
    have hl : lv_has ls 5 [(0, .ref h0), (1, .int sn)] := hl
    have thlt0 : sn.toInt < 0 := (fa_lt _ _).mp hlt0
    refine lv_aload_n hx hb dX8_lays_0 rfl (lv_at hl 0 rfl) ?_
    refine lv_iload_n hx hb dX8_lays_1 rfl (lv_at hl 1 rfl) ?_
    have hPc := hP.sub (ws' := [(h0, .inr (6, [.ref ah, v1, v2, v3, v4, .ref ph, .ref t0, v7]))]) [0] rfl
    have hKc := hK.sub (tys' := []) [] rfl
    refine va_csq (W.runV (As := [.int sn]) (rest := []) ⟨hx, hb, hml, hown, hts⟩ (c_paperAt_lt l dC dI ad h0 sn (.ref ah) v1 v2 v3 v4 (.ref ph) (.ref t0) v7 hlt0) (cwV 1 hts g_x_lays_c_paperAt_lt_256 rfl rfl rfl (by decide +kernel) ⟨(Nat.le_of_ble_eq_true rfl), (Nat.le_of_ble_eq_true rfl)⟩) ⟨preS_blind, va_recv hKc hPc (ci := 6) (q0 := 0) rfl rfl, fun U hU hW => ⟨rfl, preS_at hU hW hPc hKc hev⟩⟩ rfl rfl hl.1 rfl (lv_room (Nat.le_of_ble_eq_true rfl)) dX8_lays_2 ⟨(Nat.le_of_ble_eq_true rfl), (Nat.le_of_ble_eq_true rfl)⟩) (fun r_1 hw => ?_)
    subst hw
    refine pp_tv (y := .null) rfl ?_
    refine lv_astore_nN (lv' := [(2, .null), (0, .ref h0), (1, .int sn)]) hx hb dX8_lays_5 rfl hl (by decide) rfl (fun ls hl => ?_)
    refine lv_aload_nN hx hb dX8_lays_6 rfl (lv_at hl 0 rfl) ?_
    refine lv_ifnonnullN hx hb dX8_lays_7 ?_
    refine lv_aload_n hx hb dX8_lays_10 rfl (lv_at hl 1 rfl) ?_
    refine lv_ldc hx hb hown (hts _ (List.mem_of_getElem? (i := 6) rfl)) dX8_lays_11 ?_
    have hPc := hP.sub (ws' := [(h0, .inr (6, [.ref ah, v1, v2, v3, v4, .ref ph, .ref t0, v7])), (t0, .inl (tc, 7, .inl tf))]) [0, 1] rfl
    have hKc := hK.sub (tys' := [(tc, .int)]) [0] rfl
    have hDc := hD.sub (ws' := [(h0, .inr (6, [.ref ah, v1, v2, v3, v4, .ref ph, .ref t0, v7])), (t0, .inl (tc, 7, .inl tf))]) [0, 1] (by decide) rfl
    have hFc := va_free (wc := [(h0, .inr (6, [.ref ah, v1, v2, v3, v4, .ref ph, .ref t0, v7])), (t0, .inl (tc, 7, .inl tf))]) hD hS hA [0, 1] rfl
    refine va_calli (va_runV (As := [.int (-1000000001)]) (rest := []) ⟨hx, hb, hml, hown, hts⟩ (f_beyond l dC dI ad h0 (.ref ah) v1 v2 v3 v4 (.ref ph) t0 v7 tc tf s.heap.size ) (cwV 1 hts g_x_lays_f_beyond_63 rfl rfl rfl (by decide +kernel) ⟨(Nat.le_of_ble_eq_true rfl), (Nat.le_of_ble_eq_true rfl)⟩) ⟨preM_blind, va_recv hKc hPc (ci := 6) (q0 := 0) rfl rfl, fun U hU hW => ⟨rfl, preM_at hU hW hPc hKc hDc hev⟩⟩ rfl rfl hl.1 rfl (lv_room (Nat.le_of_ble_eq_true rfl)) dX8_lays_13 ⟨(Nat.le_of_ble_eq_true rfl), (Nat.le_of_ble_eq_true rfl)⟩) hS (fun q _ h => hFc q h) hFc (fun r_2 u t H1 locs ht hvm hw hB hz1 hk1 hS => ?_)
    obtain ⟨tg_3, hP1, hK1, hD1⟩ := hB
    rw [ht] at hP1
    have hK1 := va_K.moved hvm.symm hK1
    obtain ⟨hP, hD⟩ := va_join (wr := [(ph, .inl (pc, 4, .inr (.inr (.inr (.inr pf))))), (p0, .inr (0, [.int b0, .int z0, .ref n0])), (n0, .inl (nc0, 40, .inr (.inl g0))), (p1, .inr (0, [.int b1, .int z1, .ref n1])), (n1, .inl (nc1, 40, .inr (.inl g1))), (p2, .inr (0, [.int b2, .int z2, .ref n2])), (n2, .inl (nc2, 40, .inr (.inl g2))), (p3, .inr (0, [.int b3, .int z3, .ref n3])), (n3, .inl (nc3, 40, .inr (.inl g3))), (ah, .inr (4, [w0, w1, w2, w3, w4, w5, .int sc, .ref q5, w8])), (q5, .inl (c5, 7, .inr (.inl f5)))]) (w1 := [(h0, .inr (6, [.ref ah, v1, v2, v3, v4, .ref ph, .ref t0, v7])), (t0, .inl (tc, 7, .inl tg_3))]) hP hD [0, 1] [2, 3, 4, 5, 6, 7, 8, 9, 10, 11, 12] rfl rfl (by decide) (by decide) hk1 hFc hP1 hD1
    generalize H1 = H at hP hS ⊢
    have hP : va_P (dC, dI) vwCl [(ph, .inl (pc, 4, .inr (.inr (.inr (.inr pf))))), (p0, .inr (0, [.int b0, .int z0, .ref n0])), (n0, .inl (nc0, 40, .inr (.inl g0))), (p1, .inr (0, [.int b1, .int z1, .ref n1])), (n1, .inl (nc1, 40, .inr (.inl g1))), (p2, .inr (0, [.int b2, .int z2, .ref n2])), (n2, .inl (nc2, 40, .inr (.inl g2))), (p3, .inr (0, [.int b3, .int z3, .ref n3])), (n3, .inl (nc3, 40, .inr (.inl g3))), (ah, .inr (4, [w0, w1, w2, w3, w4, w5, .int sc, .ref q5, w8])), (q5, .inl (c5, 7, .inr (.inl f5))), (h0, .inr (6, [.ref ah, v1, v2, v3, v4, .ref ph, .ref t0, v7])), (t0, .inl (tc, 7, .inl tg_3))] H := hP
    have hD : va_D A [(ph, .inl (pc, 4, .inr (.inr (.inr (.inr pf))))), (p0, .inr (0, [.int b0, .int z0, .ref n0])), (n0, .inl (nc0, 40, .inr (.inl g0))), (p1, .inr (0, [.int b1, .int z1, .ref n1])), (n1, .inl (nc1, 40, .inr (.inl g1))), (p2, .inr (0, [.int b2, .int z2, .ref n2])), (n2, .inl (nc2, 40, .inr (.inl g2))), (p3, .inr (0, [.int b3, .int z3, .ref n3])), (n3, .inl (nc3, 40, .inr (.inl g3))), (ah, .inr (4, [w0, w1, w2, w3, w4, w5, .int sc, .ref q5, w8])), (q5, .inl (c5, 7, .inr (.inl f5))), (h0, .inr (6, [.ref ah, v1, v2, v3, v4, .ref ph, .ref t0, v7])), (t0, .inl (tc, 7, .inl tg_3))] := hD
    subst hw
    have hP9 := hP.sub (ws' := [(h0, .inr (6, [.ref ah, v1, v2, v3, v4, .ref ph, .ref t0, v7])), (t0, .inl (tc, 7, .inl tg_3)), (ph, .inl (pc, 4, .inr (.inr (.inr (.inr pf))))), (p0, .inr (0, [.int b0, .int z0, .ref n0])), (n0, .inl (nc0, 40, .inr (.inl g0))), (p1, .inr (0, [.int b1, .int z1, .ref n1])), (n1, .inl (nc1, 40, .inr (.inl g1))), (p2, .inr (0, [.int b2, .int z2, .ref n2])), (n2, .inl (nc2, 40, .inr (.inl g2))), (p3, .inr (0, [.int b3, .int z3, .ref n3])), (n3, .inl (nc3, 40, .inr (.inl g3))), (ah, .inr (4, [w0, w1, w2, w3, w4, w5, .int sc, .ref q5, w8])), (q5, .inl (c5, 7, .inr (.inl f5)))]) [11, 12, 0, 1, 2, 3, 4, 5, 6, 7, 8, 9, 10] rfl
    have hD9 := hD.sub (ws' := [(h0, .inr (6, [.ref ah, v1, v2, v3, v4, .ref ph, .ref t0, v7])), (t0, .inl (tc, 7, .inl tg_3)), (ph, .inl (pc, 4, .inr (.inr (.inr (.inr pf))))), (p0, .inr (0, [.int b0, .int z0, .ref n0])), (n0, .inl (nc0, 40, .inr (.inl g0))), (p1, .inr (0, [.int b1, .int z1, .ref n1])), (n1, .inl (nc1, 40, .inr (.inl g1))), (p2, .inr (0, [.int b2, .int z2, .ref n2])), (n2, .inl (nc2, 40, .inr (.inl g2))), (p3, .inr (0, [.int b3, .int z3, .ref n3])), (n3, .inl (nc3, 40, .inr (.inl g3))), (ah, .inr (4, [w0, w1, w2, w3, w4, w5, .int sc, .ref q5, w8])), (q5, .inl (c5, 7, .inr (.inl f5)))]) [11, 12, 0, 1, 2, 3, 4, 5, 6, 7, 8, 9, 10] (by decide) rfl
    have hK9 := hK.sub (tys' := [(tc, .int), (pc, .object "LampShapes$Paper"), (nc0, .long), (nc1, .long), (nc2, .long), (nc3, .long), (c5, .long)]) [0, 1, 2, 3, 4, 5, 6] rfl
    exact W.iret (v := ((-1000000001) : Int32)) hx hb hr (fun t ht hW => ⟨⟨((-1000000001) : Int32), (), rfl, trivial, tg_3, f5, by rw [ht]; exact hP9, va_K.moved hW.alike hK9, hD9⟩, hS.F ht⟩) hS.2.2 dX8_lays_16
  · skip
    refine Met.ofW (cc := cX8_lays) (maxL := 5) (ret := (some .int)) (by decide) rfl ?_
    intro p e s m args below meth c s₁ B hml hv
    obtain ⟨rfl, hsz, hP, hK, hD0, hev⟩ := hv
    have hx := B.exec
    have hb := B.bytes
    have hr := B.returns
    have hts := atoms_spec (ws := w_x_lays) B.pre
    have hown : s.vm.findClass RX8 = some m.cls := findClass_of_methodNamed B.named
    have hlocks := B.notSynchronized
    have inX8 : ∀ w ∈ wsX80, w ∈ w_x_lays := fun w h => List.mem_cons_of_mem _ (List.mem_append_left _ (List.mem_append_left _ (List.mem_append_right _ h)))
    have inX2 : ∀ w ∈ wsX20, w ∈ w_x_lays := fun w h => List.mem_cons_of_mem _ (List.mem_append_left _ (List.mem_append_right _ h))
    have inX6 : ∀ w ∈ wsX60, w ∈ w_x_lays := fun w h => List.mem_cons_of_mem _ (List.mem_append_right _ h)
    subst hsz
    have hD := hD0.self (sz := s.heap.size)
    generalize hAe : va_A [(h0, .inr (6, [.ref ah, v1, v2, v3, v4, .ref ph, .ref t0, v7])), (t0, .inl (tc, 7, .inl tf)), (ph, .inl (pc, 4, .inr (.inr (.inr (.inr pf))))), (p0, .inr (0, [.int b0, .int z0, .ref n0])), (n0, .inl (nc0, 40, .inr (.inl g0))), (p1, .inr (0, [.int b1, .int z1, .ref n1])), (n1, .inl (nc1, 40, .inr (.inl g1))), (p2, .inr (0, [.int b2, .int z2, .ref n2])), (n2, .inl (nc2, 40, .inr (.inl g2))), (p3, .inr (0, [.int b3, .int z3, .ref n3])), (n3, .inl (nc3, 40, .inr (.inl g3))), (ah, .inr (4, [w0, w1, w2, w3, w4, w5, .int sc, .ref q5, w8])), (q5, .inl (c5, 7, .inr (.inl f5)))] s.heap.size = A at hD ⊢
    have hA : ∀ q : Nat, s.heap.size ≤ q → A q := fun q h => by rw [← hAe]; exact Or.inr h
    have hS : va_S A s.heap s.heap [] := va_S.rf
    have hP : va_P (dC, dI) vwCl [(h0, .inr (6, [.ref ah, v1, v2, v3, v4, .ref ph, .ref t0, v7])), (t0, .inl (tc, 7, .inl tf)), (ph, .inl (pc, 4, .inr (.inr (.inr (.inr pf))))), (p0, .inr (0, [.int b0, .int z0, .ref n0])), (n0, .inl (nc0, 40, .inr (.inl g0))), (p1, .inr (0, [.int b1, .int z1, .ref n1])), (n1, .inl (nc1, 40, .inr (.inl g1))), (p2, .inr (0, [.int b2, .int z2, .ref n2])), (n2, .inl (nc2, 40, .inr (.inl g2))), (p3, .inr (0, [.int b3, .int z3, .ref n3])), (n3, .inl (nc3, 40, .inr (.inl g3))), (ah, .inr (4, [w0, w1, w2, w3, w4, w5, .int sc, .ref q5, w8])), (q5, .inl (c5, 7, .inr (.inl f5)))] s.heap := hP
    have hl := lv_entry ([.ref h0, .int sn]) (n := 5) (Nat.le_of_ble_eq_true rfl)
    rw [lg_entry_eq]
    generalize (lg_sl ([.ref h0, .int sn]) ++ List.replicate (5 - (lg_sl ([.ref h0, .int sn])).length) Slot.unset).toArray = ls at hl ⊢
    have hl : lv_has ls 5 [(0, .ref h0), (1, .int sn)] := hl
    have thgt0 : 3 < sn.toInt := (fa_lt _ _).mp hgt0
    refine lv_aload_n hx hb dX8_lays_0 rfl (lv_at hl 0 rfl) ?_
    refine lv_iload_n hx hb dX8_lays_1 rfl (lv_at hl 1 rfl) ?_
    have hPc := hP.sub (ws' := [(h0, .inr (6, [.ref ah, v1, v2, v3, v4, .ref ph, .ref t0, v7]))]) [0] rfl
    have hKc := hK.sub (tys' := []) [] rfl
    refine va_csq (W.runV (As := [.int sn]) (rest := []) ⟨hx, hb, hml, hown, hts⟩ (c_paperAt_gt l dC dI ad h0 sn (.ref ah) v1 v2 v3 v4 (.ref ph) (.ref t0) v7 hgt0) (cwV 1 hts g_x_lays_c_paperAt_gt_256 rfl rfl rfl (by decide +kernel) ⟨(Nat.le_of_ble_eq_true rfl), (Nat.le_of_ble_eq_true rfl)⟩) ⟨preS_blind, va_recv hKc hPc (ci := 6) (q0 := 0) rfl rfl, fun U hU hW => ⟨rfl, preS_at hU hW hPc hKc hev⟩⟩ rfl rfl hl.1 rfl (lv_room (Nat.le_of_ble_eq_true rfl)) dX8_lays_2 ⟨(Nat.le_of_ble_eq_true rfl), (Nat.le_of_ble_eq_true rfl)⟩) (fun r_4 hw => ?_)
    subst hw
    refine pp_tv (y := .null) rfl ?_
    refine lv_astore_nN (lv' := [(2, .null), (0, .ref h0), (1, .int sn)]) hx hb dX8_lays_5 rfl hl (by decide) rfl (fun ls hl => ?_)
    refine lv_aload_nN hx hb dX8_lays_6 rfl (lv_at hl 0 rfl) ?_
    refine lv_ifnonnullN hx hb dX8_lays_7 ?_
    refine lv_aload_n hx hb dX8_lays_10 rfl (lv_at hl 1 rfl) ?_
    refine lv_ldc hx hb hown (hts _ (List.mem_of_getElem? (i := 6) rfl)) dX8_lays_11 ?_
    have hPc := hP.sub (ws' := [(h0, .inr (6, [.ref ah, v1, v2, v3, v4, .ref ph, .ref t0, v7])), (t0, .inl (tc, 7, .inl tf))]) [0, 1] rfl
    have hKc := hK.sub (tys' := [(tc, .int)]) [0] rfl
    have hDc := hD.sub (ws' := [(h0, .inr (6, [.ref ah, v1, v2, v3, v4, .ref ph, .ref t0, v7])), (t0, .inl (tc, 7, .inl tf))]) [0, 1] (by decide) rfl
    have hFc := va_free (wc := [(h0, .inr (6, [.ref ah, v1, v2, v3, v4, .ref ph, .ref t0, v7])), (t0, .inl (tc, 7, .inl tf))]) hD hS hA [0, 1] rfl
    refine va_calli (va_runV (As := [.int (-1000000001)]) (rest := []) ⟨hx, hb, hml, hown, hts⟩ (f_beyond l dC dI ad h0 (.ref ah) v1 v2 v3 v4 (.ref ph) t0 v7 tc tf s.heap.size ) (cwV 1 hts g_x_lays_f_beyond_63 rfl rfl rfl (by decide +kernel) ⟨(Nat.le_of_ble_eq_true rfl), (Nat.le_of_ble_eq_true rfl)⟩) ⟨preM_blind, va_recv hKc hPc (ci := 6) (q0 := 0) rfl rfl, fun U hU hW => ⟨rfl, preM_at hU hW hPc hKc hDc hev⟩⟩ rfl rfl hl.1 rfl (lv_room (Nat.le_of_ble_eq_true rfl)) dX8_lays_13 ⟨(Nat.le_of_ble_eq_true rfl), (Nat.le_of_ble_eq_true rfl)⟩) hS (fun q _ h => hFc q h) hFc (fun r_5 u t H1 locs ht hvm hw hB hz1 hk1 hS => ?_)
    obtain ⟨tg_6, hP1, hK1, hD1⟩ := hB
    rw [ht] at hP1
    have hK1 := va_K.moved hvm.symm hK1
    obtain ⟨hP, hD⟩ := va_join (wr := [(ph, .inl (pc, 4, .inr (.inr (.inr (.inr pf))))), (p0, .inr (0, [.int b0, .int z0, .ref n0])), (n0, .inl (nc0, 40, .inr (.inl g0))), (p1, .inr (0, [.int b1, .int z1, .ref n1])), (n1, .inl (nc1, 40, .inr (.inl g1))), (p2, .inr (0, [.int b2, .int z2, .ref n2])), (n2, .inl (nc2, 40, .inr (.inl g2))), (p3, .inr (0, [.int b3, .int z3, .ref n3])), (n3, .inl (nc3, 40, .inr (.inl g3))), (ah, .inr (4, [w0, w1, w2, w3, w4, w5, .int sc, .ref q5, w8])), (q5, .inl (c5, 7, .inr (.inl f5)))]) (w1 := [(h0, .inr (6, [.ref ah, v1, v2, v3, v4, .ref ph, .ref t0, v7])), (t0, .inl (tc, 7, .inl tg_6))]) hP hD [0, 1] [2, 3, 4, 5, 6, 7, 8, 9, 10, 11, 12] rfl rfl (by decide) (by decide) hk1 hFc hP1 hD1
    generalize H1 = H at hP hS ⊢
    have hP : va_P (dC, dI) vwCl [(ph, .inl (pc, 4, .inr (.inr (.inr (.inr pf))))), (p0, .inr (0, [.int b0, .int z0, .ref n0])), (n0, .inl (nc0, 40, .inr (.inl g0))), (p1, .inr (0, [.int b1, .int z1, .ref n1])), (n1, .inl (nc1, 40, .inr (.inl g1))), (p2, .inr (0, [.int b2, .int z2, .ref n2])), (n2, .inl (nc2, 40, .inr (.inl g2))), (p3, .inr (0, [.int b3, .int z3, .ref n3])), (n3, .inl (nc3, 40, .inr (.inl g3))), (ah, .inr (4, [w0, w1, w2, w3, w4, w5, .int sc, .ref q5, w8])), (q5, .inl (c5, 7, .inr (.inl f5))), (h0, .inr (6, [.ref ah, v1, v2, v3, v4, .ref ph, .ref t0, v7])), (t0, .inl (tc, 7, .inl tg_6))] H := hP
    have hD : va_D A [(ph, .inl (pc, 4, .inr (.inr (.inr (.inr pf))))), (p0, .inr (0, [.int b0, .int z0, .ref n0])), (n0, .inl (nc0, 40, .inr (.inl g0))), (p1, .inr (0, [.int b1, .int z1, .ref n1])), (n1, .inl (nc1, 40, .inr (.inl g1))), (p2, .inr (0, [.int b2, .int z2, .ref n2])), (n2, .inl (nc2, 40, .inr (.inl g2))), (p3, .inr (0, [.int b3, .int z3, .ref n3])), (n3, .inl (nc3, 40, .inr (.inl g3))), (ah, .inr (4, [w0, w1, w2, w3, w4, w5, .int sc, .ref q5, w8])), (q5, .inl (c5, 7, .inr (.inl f5))), (h0, .inr (6, [.ref ah, v1, v2, v3, v4, .ref ph, .ref t0, v7])), (t0, .inl (tc, 7, .inl tg_6))] := hD
    subst hw
    have hP9 := hP.sub (ws' := [(h0, .inr (6, [.ref ah, v1, v2, v3, v4, .ref ph, .ref t0, v7])), (t0, .inl (tc, 7, .inl tg_6)), (ph, .inl (pc, 4, .inr (.inr (.inr (.inr pf))))), (p0, .inr (0, [.int b0, .int z0, .ref n0])), (n0, .inl (nc0, 40, .inr (.inl g0))), (p1, .inr (0, [.int b1, .int z1, .ref n1])), (n1, .inl (nc1, 40, .inr (.inl g1))), (p2, .inr (0, [.int b2, .int z2, .ref n2])), (n2, .inl (nc2, 40, .inr (.inl g2))), (p3, .inr (0, [.int b3, .int z3, .ref n3])), (n3, .inl (nc3, 40, .inr (.inl g3))), (ah, .inr (4, [w0, w1, w2, w3, w4, w5, .int sc, .ref q5, w8])), (q5, .inl (c5, 7, .inr (.inl f5)))]) [11, 12, 0, 1, 2, 3, 4, 5, 6, 7, 8, 9, 10] rfl
    have hD9 := hD.sub (ws' := [(h0, .inr (6, [.ref ah, v1, v2, v3, v4, .ref ph, .ref t0, v7])), (t0, .inl (tc, 7, .inl tg_6)), (ph, .inl (pc, 4, .inr (.inr (.inr (.inr pf))))), (p0, .inr (0, [.int b0, .int z0, .ref n0])), (n0, .inl (nc0, 40, .inr (.inl g0))), (p1, .inr (0, [.int b1, .int z1, .ref n1])), (n1, .inl (nc1, 40, .inr (.inl g1))), (p2, .inr (0, [.int b2, .int z2, .ref n2])), (n2, .inl (nc2, 40, .inr (.inl g2))), (p3, .inr (0, [.int b3, .int z3, .ref n3])), (n3, .inl (nc3, 40, .inr (.inl g3))), (ah, .inr (4, [w0, w1, w2, w3, w4, w5, .int sc, .ref q5, w8])), (q5, .inl (c5, 7, .inr (.inl f5)))]) [11, 12, 0, 1, 2, 3, 4, 5, 6, 7, 8, 9, 10] (by decide) rfl
    have hK9 := hK.sub (tys' := [(tc, .int), (pc, .object "LampShapes$Paper"), (nc0, .long), (nc1, .long), (nc2, .long), (nc3, .long), (c5, .long)]) [0, 1, 2, 3, 4, 5, 6] rfl
    exact W.iret (v := ((-1000000001) : Int32)) hx hb hr (fun t ht hW => ⟨⟨((-1000000001) : Int32), (), rfl, trivial, tg_6, f5, by rw [ht]; exact hP9, va_K.moved hW.alike hK9, hD9⟩, hS.F ht⟩) hS.2.2 dX8_lays_16
  · skip
    refine Met.ofW (cc := cX8_lays) (maxL := 5) (ret := (some .int)) (by decide) rfl ?_
    intro p e s m args below meth c s₁ B hml hv
    obtain ⟨rfl, hsz, hP, hK, hD0, hev⟩ := hv
    have hx := B.exec
    have hb := B.bytes
    have hr := B.returns
    have hts := atoms_spec (ws := w_x_lays) B.pre
    have hown : s.vm.findClass RX8 = some m.cls := findClass_of_methodNamed B.named
    have hlocks := B.notSynchronized
    have inX8 : ∀ w ∈ wsX80, w ∈ w_x_lays := fun w h => List.mem_cons_of_mem _ (List.mem_append_left _ (List.mem_append_left _ (List.mem_append_right _ h)))
    have inX2 : ∀ w ∈ wsX20, w ∈ w_x_lays := fun w h => List.mem_cons_of_mem _ (List.mem_append_left _ (List.mem_append_right _ h))
    have inX6 : ∀ w ∈ wsX60, w ∈ w_x_lays := fun w h => List.mem_cons_of_mem _ (List.mem_append_right _ h)
    subst hsz
    have hD := hD0.self (sz := s.heap.size)
    generalize hAe : va_A [(h0, .inr (6, [.ref ah, v1, v2, v3, v4, .ref ph, .ref t0, v7])), (t0, .inl (tc, 7, .inl tf)), (ph, .inl (pc, 4, .inr (.inr (.inr (.inr pf))))), (p0, .inr (0, [.int b0, .int z0, .ref n0])), (n0, .inl (nc0, 40, .inr (.inl g0))), (p1, .inr (0, [.int b1, .int z1, .ref n1])), (n1, .inl (nc1, 40, .inr (.inl g1))), (p2, .inr (0, [.int b2, .int z2, .ref n2])), (n2, .inl (nc2, 40, .inr (.inl g2))), (p3, .inr (0, [.int b3, .int z3, .ref n3])), (n3, .inl (nc3, 40, .inr (.inl g3))), (ah, .inr (4, [w0, w1, w2, w3, w4, w5, .int sc, .ref q5, w8])), (q5, .inl (c5, 7, .inr (.inl f5)))] s.heap.size = A at hD ⊢
    have hA : ∀ q : Nat, s.heap.size ≤ q → A q := fun q h => by rw [← hAe]; exact Or.inr h
    have hS : va_S A s.heap s.heap [] := va_S.rf
    have hP : va_P (dC, dI) vwCl [(h0, .inr (6, [.ref ah, v1, v2, v3, v4, .ref ph, .ref t0, v7])), (t0, .inl (tc, 7, .inl tf)), (ph, .inl (pc, 4, .inr (.inr (.inr (.inr pf))))), (p0, .inr (0, [.int b0, .int z0, .ref n0])), (n0, .inl (nc0, 40, .inr (.inl g0))), (p1, .inr (0, [.int b1, .int z1, .ref n1])), (n1, .inl (nc1, 40, .inr (.inl g1))), (p2, .inr (0, [.int b2, .int z2, .ref n2])), (n2, .inl (nc2, 40, .inr (.inl g2))), (p3, .inr (0, [.int b3, .int z3, .ref n3])), (n3, .inl (nc3, 40, .inr (.inl g3))), (ah, .inr (4, [w0, w1, w2, w3, w4, w5, .int sc, .ref q5, w8])), (q5, .inl (c5, 7, .inr (.inl f5)))] s.heap := hP
    have hl := lv_entry ([.ref h0, .int 0]) (n := 5) (Nat.le_of_ble_eq_true rfl)
    rw [lg_entry_eq]
    generalize (lg_sl ([.ref h0, .int 0]) ++ List.replicate (5 - (lg_sl ([.ref h0, .int 0])).length) Slot.unset).toArray = ls at hl ⊢
    have hl : lv_has ls 5 [(0, .ref h0), (1, .int 0)] := hl
    refine lv_aload_n hx hb dX8_lays_0 rfl (lv_at hl 0 rfl) ?_
    refine lv_iload_n hx hb dX8_lays_1 rfl (lv_at hl 1 rfl) ?_
    have hPc := hP.sub (ws' := [(h0, .inr (6, [.ref ah, v1, v2, v3, v4, .ref ph, .ref t0, v7])), (ph, .inl (pc, 4, .inr (.inr (.inr (.inr pf)))))]) [0, 2] rfl
    have hKc := hK.sub (tys' := [(pc, .object "LampShapes$Paper")]) [1] rfl
    refine va_csq (W.runV (As := [.int 0]) (rest := []) ⟨hx, hb, hml, hown, hts⟩ (c_paperAt_0 l dC dI ad h0 (.ref ah) v1 v2 v3 v4 ph (.ref t0) v7 pc pf p0 hp0) (cwV 1 hts g_x_lays_c_paperAt_0_256 rfl rfl rfl (by decide +kernel) ⟨(Nat.le_of_ble_eq_true rfl), (Nat.le_of_ble_eq_true rfl)⟩) ⟨preS_blind, va_recv hKc hPc (ci := 6) (q0 := 0) rfl rfl, fun U hU hW => ⟨rfl, preS_at hU hW hPc hKc hev⟩⟩ rfl rfl hl.1 rfl (lv_room (Nat.le_of_ble_eq_true rfl)) dX8_lays_2 ⟨(Nat.le_of_ble_eq_true rfl), (Nat.le_of_ble_eq_true rfl)⟩) (fun r_7 hw => ?_)
    subst hw
    refine pp_tv (y := .ref p0) rfl ?_
    refine lv_astore_n (lv' := [(2, .ref p0), (0, .ref h0), (1, .int 0)]) hx hb dX8_lays_5 rfl hl (by decide) rfl (fun ls hl => ?_)
    refine lv_aload_n hx hb dX8_lays_6 rfl (lv_at hl 0 rfl) ?_
    refine lv_ifnonnull (tgt := 17) hx hb dX8_lays_7 (by decide) ?_
    refine lv_aload_n hx hb dX8_lays_17 rfl (lv_at hl 0 rfl) ?_
    have hPc := hP.sub (ws' := [(p0, .inr (0, [.int b0, .int z0, .ref n0]))]) [3] rfl
    have hKc := hK.sub (tys' := []) [] rfl
    refine vp_callSi (W.runV (As := []) (rest := []) ⟨hx, hb, hml, hown, hts⟩ (p_isMissing l dC dI ad p0 b0 (.int z0) (.ref n0) ) (cwV 0 hts g_x_lays_p_isMissing_268 rfl rfl rfl (by decide +kernel) ⟨(Nat.le_of_ble_eq_true rfl), (Nat.le_of_ble_eq_true rfl)⟩) ⟨preS_blind, va_recv hKc hPc (ci := 0) (q0 := 0) rfl rfl, fun U hU hW => ⟨rfl, preS_at hU hW hPc hKc hev⟩⟩ rfl rfl hl.1 rfl (lv_room (Nat.le_of_ble_eq_true rfl)) dX8_lays_18 ⟨(Nat.le_of_ble_eq_true rfl), (Nat.le_of_ble_eq_true rfl)⟩) (fun r_8 hw => ?_)
    have hr_8 : (r_8.toInt = 1 ∧ b0.toInt = 0) ∨ (r_8.toInt = 0 ∧ ¬ b0.toInt = 0) := hw
    refine lv_if_eq (tgt := 32) hx hb dX8_lays_21 (by decide) (fun c_9 => ?_) (fun c_9 => ?_)
    · skip
      have tc_9 : r_8.toInt = 0 := (fa_eq _ _).mp c_9
      refine lv_aload_n hx hb dX8_lays_32 rfl (lv_at hl 0 rfl) ?_
      refine va_getN (D := (dC, dI)) (ci := 0) (v := .int z0) (C := RX2) (T := TX2) (N := 3) hx hb hts inX2 hown hK hP 3 rfl rfl 1 (by decide) (ev_nest hev 22 rfl) (fun _ h9 => h9) rfl dX8_lays_33 ?_
      refine lv_aload_n hx hb dX8_lays_36 rfl (lv_at hl 1 rfl) ?_
      refine va_get (D := (dC, dI)) (ci := 6) (v := .ref ah) (C := RX8) (T := TX8) (N := 8) hx hb hts inX8 hown hK hP 0 rfl rfl 0 (by decide) (hts _ (List.mem_of_getElem? (i := 19) rfl)) (fun _ h9 => h9) rfl dX8_lays_37 ?_
      refine va_getN (D := (dC, dI)) (ci := 4) (v := .int sc) (C := RX6) (T := TX6) (N := 9) hx hb hts inX6 hown hK hP 11 rfl rfl 6 (by decide) (ev_nest hev 8 rfl) (fun _ h9 => h9) rfl dX8_lays_40 ?_
      refine va_mmin hx hb (by rw [hml]; exact hl.1.symm) hown (hts _ (List.mem_of_getElem? (i := 20) rfl)) (hts _ (List.mem_of_getElem? (i := 21) rfl)) (hts _ (List.mem_of_getElem? (i := 22) rfl)) (hts _ (List.mem_of_getElem? (i := 23) rfl)) (Nat.le_of_ble_eq_true rfl) (Nat.le_of_ble_eq_true rfl) (Nat.le_of_ble_eq_true rfl) (Nat.le_of_ble_eq_true rfl) dX8_lays_43 ?_
      refine lv_topi (fun n_10 en_10 => ?_)
      have tn_10 : n_10.toInt ≤ z0.toInt ∧ n_10.toInt ≤ sc.toInt ∧ (n_10.toInt = z0.toInt ∨ n_10.toInt = sc.toInt) := pp_min en_10
      refine lv_istore_n (lv' := [(3, .int n_10), (2, .ref p0), (0, .ref h0), (1, .int 0)]) hx hb dX8_lays_46 rfl hl (by decide) rfl (fun ls hl => ?_)
      refine lv_iconst (v := 0) hx hb dX8_lays_47 (by decide) ?_
      refine lv_istore (lv' := [(4, .int 0), (3, .int n_10), (2, .ref p0), (0, .ref h0), (1, .int 0)]) hx hb dX8_lays_48 hl (by decide) rfl (fun ls hl => ?_)
      refine pp_loop (ι := Int32 × (Nat → Int64)) (fun ⟨v4_50, y5⟩ => (n_10.toInt - v4_50.toInt).toNat) (fun ⟨v4_50, y5⟩ H locs ls => (0 ≤ v4_50.toInt) ∧ va_P (dC, dI) vwCl [(h0, .inr (6, [.ref ah, v1, v2, v3, v4, .ref ph, .ref t0, v7])), (t0, .inl (tc, 7, .inl tf)), (ph, .inl (pc, 4, .inr (.inr (.inr (.inr pf))))), (p0, .inr (0, [.int b0, .int z0, .ref n0])), (n0, .inl (nc0, 40, .inr (.inl g0))), (p1, .inr (0, [.int b1, .int z1, .ref n1])), (n1, .inl (nc1, 40, .inr (.inl g1))), (p2, .inr (0, [.int b2, .int z2, .ref n2])), (n2, .inl (nc2, 40, .inr (.inl g2))), (p3, .inr (0, [.int b3, .int z3, .ref n3])), (n3, .inl (nc3, 40, .inr (.inl g3))), (ah, .inr (4, [w0, w1, w2, w3, w4, w5, .int sc, .ref q5, w8])), (q5, .inl (c5, 7, .inr (.inl y5)))] H ∧ va_D A [(h0, .inr (6, [.ref ah, v1, v2, v3, v4, .ref ph, .ref t0, v7])), (t0, .inl (tc, 7, .inl tf)), (ph, .inl (pc, 4, .inr (.inr (.inr (.inr pf))))), (p0, .inr (0, [.int b0, .int z0, .ref n0])), (n0, .inl (nc0, 40, .inr (.inl g0))), (p1, .inr (0, [.int b1, .int z1, .ref n1])), (n1, .inl (nc1, 40, .inr (.inl g1))), (p2, .inr (0, [.int b2, .int z2, .ref n2])), (n2, .inl (nc2, 40, .inr (.inl g2))), (p3, .inr (0, [.int b3, .int z3, .ref n3])), (n3, .inl (nc3, 40, .inr (.inl g3))), (ah, .inr (4, [w0, w1, w2, w3, w4, w5, .int sc, .ref q5, w8])), (q5, .inl (c5, 7, .inr (.inl y5)))] ∧ va_S A s.heap H locs ∧ lv_has ls 5 [(4, .int v4_50), (3, .int n_10), (2, .ref p0), (0, .ref h0), (1, .int 0)]) ?_ (0, f5) _ _ _ ⟨(by first | omega | decide | (simp only [fa_lt, fa_le, fa_eq, and_true, true_and, and_false, false_and, not_true_eq_false, not_false_eq_true, li_0, li_1, li_2, li_3, li_4, li_5, li_6, li_7, li_8, li_9, li_10, li_12, li_15, li_16, li_20, li_30, li_34, li_38, li_40, li_63, li_64, li_65, li_78, li_120, li_1000, li_4000, li_10000, li_11077, li_255, li_65535, li_m1, li_m2, li_m1000000001, li_m1000000002, li_m1000000003, li_m1000000004, li_m1000000005, li_m1000000006, li_m1000000007, or_true, true_or, or_false, false_or, implies_true, true_implies, false_implies] <;> omega)), hP.sub [0, 1, 2, 3, 4, 5, 6, 7, 8, 9, 10, 11, 12] rfl, hD.sub [0, 1, 2, 3, 4, 5, 6, 7, 8, 9, 10, 11, 12] (by decide) rfl, hS, lv_sub hl [0, 1, 2, 3, 4] rfl⟩
      intro k_11 ihk_11 u H locs ls hm hI
      obtain ⟨v4_50, y5⟩ := u
      obtain ⟨jk_11_0, hP, hD, hS, hl⟩ := hI
      have hmk_11 : (n_10.toInt - v4_50.toInt).toNat < k_11 + 1 := hm
      clear hm
      have jk_11_0 : 0 ≤ v4_50.toInt := jk_11_0
      have hl : lv_has ls 5 [(4, .int v4_50), (3, .int n_10), (2, .ref p0), (0, .ref h0), (1, .int 0)] := hl
      have hP : va_P (dC, dI) vwCl [(h0, .inr (6, [.ref ah, v1, v2, v3, v4, .ref ph, .ref t0, v7])), (t0, .inl (tc, 7, .inl tf)), (ph, .inl (pc, 4, .inr (.inr (.inr (.inr pf))))), (p0, .inr (0, [.int b0, .int z0, .ref n0])), (n0, .inl (nc0, 40, .inr (.inl g0))), (p1, .inr (0, [.int b1, .int z1, .ref n1])), (n1, .inl (nc1, 40, .inr (.inl g1))), (p2, .inr (0, [.int b2, .int z2, .ref n2])), (n2, .inl (nc2, 40, .inr (.inl g2))), (p3, .inr (0, [.int b3, .int z3, .ref n3])), (n3, .inl (nc3, 40, .inr (.inl g3))), (ah, .inr (4, [w0, w1, w2, w3, w4, w5, .int sc, .ref q5, w8])), (q5, .inl (c5, 7, .inr (.inl y5)))] H := hP
      have hD : va_D A [(h0, .inr (6, [.ref ah, v1, v2, v3, v4, .ref ph, .ref t0, v7])), (t0, .inl (tc, 7, .inl tf)), (ph, .inl (pc, 4, .inr (.inr (.inr (.inr pf))))), (p0, .inr (0, [.int b0, .int z0, .ref n0])), (n0, .inl (nc0, 40, .inr (.inl g0))), (p1, .inr (0, [.int b1, .int z1, .ref n1])), (n1, .inl (nc1, 40, .inr (.inl g1))), (p2, .inr (0, [.int b2, .int z2, .ref n2])), (n2, .inl (nc2, 40, .inr (.inl g2))), (p3, .inr (0, [.int b3, .int z3, .ref n3])), (n3, .inl (nc3, 40, .inr (.inl g3))), (ah, .inr (4, [w0, w1, w2, w3, w4, w5, .int sc, .ref q5, w8])), (q5, .inl (c5, 7, .inr (.inl y5)))] := hD
      refine lv_iload hx hb dX8_lays_50 (lv_at hl 0 rfl) ?_
      refine lv_iload_n hx hb dX8_lays_52 rfl (lv_at hl 1 rfl) ?_
      have rc_12_x := pp_rng v4_50
      have rc_12_y := pp_rng n_10
      refine lv_icmp_ge (tgt := 79) hx hb dX8_lays_53 (by decide) (fun c_12 => ?_) (fun c_12 => ?_)
      · skip
        have tc_12 : n_10.toInt ≤ v4_50.toInt := (fa_le _ _).mp c_12
        refine lv_iload_n hx hb dX8_lays_79 rfl (lv_at hl 1 rfl) ?_
        have hP9 := hP.sub (ws' := [(h0, .inr (6, [.ref ah, v1, v2, v3, v4, .ref ph, .ref t0, v7])), (t0, .inl (tc, 7, .inl tf)), (ph, .inl (pc, 4, .inr (.inr (.inr (.inr pf))))), (p0, .inr (0, [.int b0, .int z0, .ref n0])), (n0, .inl (nc0, 40, .inr (.inl g0))), (p1, .inr (0, [.int b1, .int z1, .ref n1])), (n1, .inl (nc1, 40, .inr (.inl g1))), (p2, .inr (0, [.int b2, .int z2, .ref n2])), (n2, .inl (nc2, 40, .inr (.inl g2))), (p3, .inr (0, [.int b3, .int z3, .ref n3])), (n3, .inl (nc3, 40, .inr (.inl g3))), (ah, .inr (4, [w0, w1, w2, w3, w4, w5, .int sc, .ref q5, w8])), (q5, .inl (c5, 7, .inr (.inl y5)))]) [0, 1, 2, 3, 4, 5, 6, 7, 8, 9, 10, 11, 12] rfl
        have hD9 := hD.sub (ws' := [(h0, .inr (6, [.ref ah, v1, v2, v3, v4, .ref ph, .ref t0, v7])), (t0, .inl (tc, 7, .inl tf)), (ph, .inl (pc, 4, .inr (.inr (.inr (.inr pf))))), (p0, .inr (0, [.int b0, .int z0, .ref n0])), (n0, .inl (nc0, 40, .inr (.inl g0))), (p1, .inr (0, [.int b1, .int z1, .ref n1])), (n1, .inl (nc1, 40, .inr (.inl g1))), (p2, .inr (0, [.int b2, .int z2, .ref n2])), (n2, .inl (nc2, 40, .inr (.inl g2))), (p3, .inr (0, [.int b3, .int z3, .ref n3])), (n3, .inl (nc3, 40, .inr (.inl g3))), (ah, .inr (4, [w0, w1, w2, w3, w4, w5, .int sc, .ref q5, w8])), (q5, .inl (c5, 7, .inr (.inl y5)))]) [0, 1, 2, 3, 4, 5, 6, 7, 8, 9, 10, 11, 12] (by decide) rfl
        have hK9 := hK.sub (tys' := [(tc, .int), (pc, .object "LampShapes$Paper"), (nc0, .long), (nc1, .long), (nc2, .long), (nc3, .long), (c5, .long)]) [0, 1, 2, 3, 4, 5, 6] rfl
        exact W.iret (v := n_10) hx hb hr (fun t ht hW => ⟨⟨n_10, (), rfl, trivial, tf, y5, by rw [ht]; exact hP9, va_K.moved hW.alike hK9, hD9⟩, hS.F ht⟩) hS.2.2 dX8_lays_80
      · skip
        have tc_12 : ¬ n_10.toInt ≤ v4_50.toInt := fun h => c_12 ((fa_le _ _).mpr h)
        refine lv_aload_n hx hb dX8_lays_56 rfl (lv_at hl 3 rfl) ?_
        refine va_get (D := (dC, dI)) (ci := 6) (v := .ref ah) (C := RX8) (T := TX8) (N := 8) hx hb hts inX8 hown hK hP 0 rfl rfl 0 (by decide) (hts _ (List.mem_of_getElem? (i := 19) rfl)) (fun _ h9 => h9) rfl dX8_lays_57 ?_
        refine va_getN (D := (dC, dI)) (ci := 4) (v := .ref q5) (C := RX6) (T := TX6) (N := 9) hx hb hts inX6 hown hK hP 11 rfl rfl 7 (by decide) (ev_nest hev 10 rfl) (fun _ h9 => h9) rfl dX8_lays_60 ?_
        refine lv_iload hx hb dX8_lays_63 (lv_at hl 0 rfl) ?_
        refine lv_aload_n hx hb dX8_lays_65 rfl (lv_at hl 2 rfl) ?_
        refine va_getN (D := (dC, dI)) (ci := 0) (v := .ref n0) (C := RX2) (T := TX2) (N := 3) hx hb hts inX2 hown hK hP 3 rfl rfl 2 (by decide) (ev_nest hev 23 rfl) (fun _ h9 => h9) rfl dX8_lays_66 ?_
        refine lv_iload hx hb dX8_lays_69 (lv_at hl 0 rfl) ?_
        refine va_lald hx hb hK hP 4 2 rfl rfl (vp_in_iff.mpr ⟨by omega, by omega⟩) dX8_lays_71 ?_
        refine lv_topl (fun n_13 en_13 => ?_)
        clear en_13
        refine va_last hx hb hK hP hD hS 12 6 rfl rfl (vp_in_iff.mpr ⟨by omega, by omega⟩) dX8_lays_72 (fun H locs hP hD hS => ?_)
        have hP : va_P (dC, dI) vwCl [(h0, .inr (6, [.ref ah, v1, v2, v3, v4, .ref ph, .ref t0, v7])), (t0, .inl (tc, 7, .inl tf)), (ph, .inl (pc, 4, .inr (.inr (.inr (.inr pf))))), (p0, .inr (0, [.int b0, .int z0, .ref n0])), (n0, .inl (nc0, 40, .inr (.inl g0))), (p1, .inr (0, [.int b1, .int z1, .ref n1])), (n1, .inl (nc1, 40, .inr (.inl g1))), (p2, .inr (0, [.int b2, .int z2, .ref n2])), (n2, .inl (nc2, 40, .inr (.inl g2))), (p3, .inr (0, [.int b3, .int z3, .ref n3])), (n3, .inl (nc3, 40, .inr (.inl g3))), (ah, .inr (4, [w0, w1, w2, w3, w4, w5, .int sc, .ref q5, w8])), (q5, .inl (c5, 7, .inr (.inl (vp_updL y5 v4_50.toNatClampNeg n_13))))] H := hP
        have hD : va_D A [(h0, .inr (6, [.ref ah, v1, v2, v3, v4, .ref ph, .ref t0, v7])), (t0, .inl (tc, 7, .inl tf)), (ph, .inl (pc, 4, .inr (.inr (.inr (.inr pf))))), (p0, .inr (0, [.int b0, .int z0, .ref n0])), (n0, .inl (nc0, 40, .inr (.inl g0))), (p1, .inr (0, [.int b1, .int z1, .ref n1])), (n1, .inl (nc1, 40, .inr (.inl g1))), (p2, .inr (0, [.int b2, .int z2, .ref n2])), (n2, .inl (nc2, 40, .inr (.inl g2))), (p3, .inr (0, [.int b3, .int z3, .ref n3])), (n3, .inl (nc3, 40, .inr (.inl g3))), (ah, .inr (4, [w0, w1, w2, w3, w4, w5, .int sc, .ref q5, w8])), (q5, .inl (c5, 7, .inr (.inl (vp_updL y5 v4_50.toNatClampNeg n_13))))] := hD
        obtain ⟨n_14, en_14⟩ : ∃ y : Int32, y = v4_50 + 1 := ⟨_, rfl⟩
        have tn_14 : n_14.toInt = v4_50.toInt + 1 := pp_add en_14 rfl rfl (by omega) (by omega)
        refine lv_iinc (v := n_14) (lv' := [(4, .int n_14), (3, .int n_10), (2, .ref p0), (0, .ref h0), (1, .int 0)]) hx hb dX8_lays_73 hl (k := 0) rfl (by rw [en_14]; rfl) (by decide) rfl (fun ls hl => ?_)
        clear en_14
        refine lv_goto (tgt := 50) hx hb dX8_lays_76 (by decide) ?_
        exact ihk_11 (n_14, (vp_updL y5 v4_50.toNatClampNeg n_13)) _ _ _ (by show (n_10.toInt - n_14.toInt).toNat < k_11; omega) ⟨(by first | omega | decide | (simp only [fa_lt, fa_le, fa_eq, and_true, true_and, and_false, false_and, not_true_eq_false, not_false_eq_true, li_0, li_1, li_2, li_3, li_4, li_5, li_6, li_7, li_8, li_9, li_10, li_12, li_15, li_16, li_20, li_30, li_34, li_38, li_40, li_63, li_64, li_65, li_78, li_120, li_1000, li_4000, li_10000, li_11077, li_255, li_65535, li_m1, li_m2, li_m1000000001, li_m1000000002, li_m1000000003, li_m1000000004, li_m1000000005, li_m1000000006, li_m1000000007, or_true, true_or, or_false, false_or, implies_true, true_implies, false_implies] <;> omega)), hP.sub [0, 1, 2, 3, 4, 5, 6, 7, 8, 9, 10, 11, 12] rfl, hD.sub [0, 1, 2, 3, 4, 5, 6, 7, 8, 9, 10, 11, 12] (by decide) rfl, hS, lv_sub hl [0, 1, 2, 3, 4] rfl⟩
    · skip
      have tc_9 : ¬ r_8.toInt = 0 := fun h => c_9 ((fa_eq _ _).mpr h)
      refine lv_aload_n hx hb dX8_lays_24 rfl (lv_at hl 1 rfl) ?_
      refine lv_ldcw hx hb hown (hts _ (List.mem_of_getElem? (i := 24) rfl)) dX8_lays_25 ?_
      have hPc := hP.sub (ws' := [(h0, .inr (6, [.ref ah, v1, v2, v3, v4, .ref ph, .ref t0, v7])), (t0, .inl (tc, 7, .inl tf))]) [0, 1] rfl
      have hKc := hK.sub (tys' := [(tc, .int)]) [0] rfl
      have hDc := hD.sub (ws' := [(h0, .inr (6, [.ref ah, v1, v2, v3, v4, .ref ph, .ref t0, v7])), (t0, .inl (tc, 7, .inl tf))]) [0, 1] (by decide) rfl
      have hFc := va_free (wc := [(h0, .inr (6, [.ref ah, v1, v2, v3, v4, .ref ph, .ref t0, v7])), (t0, .inl (tc, 7, .inl tf))]) hD hS hA [0, 1] rfl
      refine va_calli (va_runV (As := [.int (-1000000006)]) (rest := []) ⟨hx, hb, hml, hown, hts⟩ (f_missing l dC dI ad h0 (.ref ah) v1 v2 v3 v4 (.ref ph) t0 v7 tc tf s.heap.size ) (cwV 1 hts g_x_lays_f_missing_63 rfl rfl rfl (by decide +kernel) ⟨(Nat.le_of_ble_eq_true rfl), (Nat.le_of_ble_eq_true rfl)⟩) ⟨preM_blind, va_recv hKc hPc (ci := 6) (q0 := 0) rfl rfl, fun U hU hW => ⟨rfl, preM_at hU hW hPc hKc hDc hev⟩⟩ rfl rfl hl.1 rfl (lv_room (Nat.le_of_ble_eq_true rfl)) dX8_lays_28 ⟨(Nat.le_of_ble_eq_true rfl), (Nat.le_of_ble_eq_true rfl)⟩) hS (fun q _ h => hFc q h) hFc (fun r_15 u t H1 locs ht hvm hw hB hz1 hk1 hS => ?_)
      obtain ⟨tg_16, hP1, hK1, hD1⟩ := hB
      rw [ht] at hP1
      have hK1 := va_K.moved hvm.symm hK1
      obtain ⟨hP, hD⟩ := va_join (wr := [(ph, .inl (pc, 4, .inr (.inr (.inr (.inr pf))))), (p0, .inr (0, [.int b0, .int z0, .ref n0])), (n0, .inl (nc0, 40, .inr (.inl g0))), (p1, .inr (0, [.int b1, .int z1, .ref n1])), (n1, .inl (nc1, 40, .inr (.inl g1))), (p2, .inr (0, [.int b2, .int z2, .ref n2])), (n2, .inl (nc2, 40, .inr (.inl g2))), (p3, .inr (0, [.int b3, .int z3, .ref n3])), (n3, .inl (nc3, 40, .inr (.inl g3))), (ah, .inr (4, [w0, w1, w2, w3, w4, w5, .int sc, .ref q5, w8])), (q5, .inl (c5, 7, .inr (.inl f5)))]) (w1 := [(h0, .inr (6, [.ref ah, v1, v2, v3, v4, .ref ph, .ref t0, v7])), (t0, .inl (tc, 7, .inl tg_16))]) hP hD [0, 1] [2, 3, 4, 5, 6, 7, 8, 9, 10, 11, 12] rfl rfl (by decide) (by decide) hk1 hFc hP1 hD1
      generalize H1 = H at hP hS ⊢
      have hP : va_P (dC, dI) vwCl [(ph, .inl (pc, 4, .inr (.inr (.inr (.inr pf))))), (p0, .inr (0, [.int b0, .int z0, .ref n0])), (n0, .inl (nc0, 40, .inr (.inl g0))), (p1, .inr (0, [.int b1, .int z1, .ref n1])), (n1, .inl (nc1, 40, .inr (.inl g1))), (p2, .inr (0, [.int b2, .int z2, .ref n2])), (n2, .inl (nc2, 40, .inr (.inl g2))), (p3, .inr (0, [.int b3, .int z3, .ref n3])), (n3, .inl (nc3, 40, .inr (.inl g3))), (ah, .inr (4, [w0, w1, w2, w3, w4, w5, .int sc, .ref q5, w8])), (q5, .inl (c5, 7, .inr (.inl f5))), (h0, .inr (6, [.ref ah, v1, v2, v3, v4, .ref ph, .ref t0, v7])), (t0, .inl (tc, 7, .inl tg_16))] H := hP
      have hD : va_D A [(ph, .inl (pc, 4, .inr (.inr (.inr (.inr pf))))), (p0, .inr (0, [.int b0, .int z0, .ref n0])), (n0, .inl (nc0, 40, .inr (.inl g0))), (p1, .inr (0, [.int b1, .int z1, .ref n1])), (n1, .inl (nc1, 40, .inr (.inl g1))), (p2, .inr (0, [.int b2, .int z2, .ref n2])), (n2, .inl (nc2, 40, .inr (.inl g2))), (p3, .inr (0, [.int b3, .int z3, .ref n3])), (n3, .inl (nc3, 40, .inr (.inl g3))), (ah, .inr (4, [w0, w1, w2, w3, w4, w5, .int sc, .ref q5, w8])), (q5, .inl (c5, 7, .inr (.inl f5))), (h0, .inr (6, [.ref ah, v1, v2, v3, v4, .ref ph, .ref t0, v7])), (t0, .inl (tc, 7, .inl tg_16))] := hD
      subst hw
      have hP9 := hP.sub (ws' := [(h0, .inr (6, [.ref ah, v1, v2, v3, v4, .ref ph, .ref t0, v7])), (t0, .inl (tc, 7, .inl tg_16)), (ph, .inl (pc, 4, .inr (.inr (.inr (.inr pf))))), (p0, .inr (0, [.int b0, .int z0, .ref n0])), (n0, .inl (nc0, 40, .inr (.inl g0))), (p1, .inr (0, [.int b1, .int z1, .ref n1])), (n1, .inl (nc1, 40, .inr (.inl g1))), (p2, .inr (0, [.int b2, .int z2, .ref n2])), (n2, .inl (nc2, 40, .inr (.inl g2))), (p3, .inr (0, [.int b3, .int z3, .ref n3])), (n3, .inl (nc3, 40, .inr (.inl g3))), (ah, .inr (4, [w0, w1, w2, w3, w4, w5, .int sc, .ref q5, w8])), (q5, .inl (c5, 7, .inr (.inl f5)))]) [11, 12, 0, 1, 2, 3, 4, 5, 6, 7, 8, 9, 10] rfl
      have hD9 := hD.sub (ws' := [(h0, .inr (6, [.ref ah, v1, v2, v3, v4, .ref ph, .ref t0, v7])), (t0, .inl (tc, 7, .inl tg_16)), (ph, .inl (pc, 4, .inr (.inr (.inr (.inr pf))))), (p0, .inr (0, [.int b0, .int z0, .ref n0])), (n0, .inl (nc0, 40, .inr (.inl g0))), (p1, .inr (0, [.int b1, .int z1, .ref n1])), (n1, .inl (nc1, 40, .inr (.inl g1))), (p2, .inr (0, [.int b2, .int z2, .ref n2])), (n2, .inl (nc2, 40, .inr (.inl g2))), (p3, .inr (0, [.int b3, .int z3, .ref n3])), (n3, .inl (nc3, 40, .inr (.inl g3))), (ah, .inr (4, [w0, w1, w2, w3, w4, w5, .int sc, .ref q5, w8])), (q5, .inl (c5, 7, .inr (.inl f5)))]) [11, 12, 0, 1, 2, 3, 4, 5, 6, 7, 8, 9, 10] (by decide) rfl
      have hK9 := hK.sub (tys' := [(tc, .int), (pc, .object "LampShapes$Paper"), (nc0, .long), (nc1, .long), (nc2, .long), (nc3, .long), (c5, .long)]) [0, 1, 2, 3, 4, 5, 6] rfl
      exact W.iret (v := ((-1000000006) : Int32)) hx hb hr (fun t ht hW => ⟨⟨((-1000000006) : Int32), (), rfl, trivial, tg_16, f5, by rw [ht]; exact hP9, va_K.moved hW.alike hK9, hD9⟩, hS.F ht⟩) hS.2.2 dX8_lays_31
  · skip
    refine Met.ofW (cc := cX8_lays) (maxL := 5) (ret := (some .int)) (by decide) rfl ?_
    intro p e s m args below meth c s₁ B hml hv
    obtain ⟨rfl, hsz, hP, hK, hD0, hev⟩ := hv
    have hx := B.exec
    have hb := B.bytes
    have hr := B.returns
    have hts := atoms_spec (ws := w_x_lays) B.pre
    have hown : s.vm.findClass RX8 = some m.cls := findClass_of_methodNamed B.named
    have hlocks := B.notSynchronized
    have inX8 : ∀ w ∈ wsX80, w ∈ w_x_lays := fun w h => List.mem_cons_of_mem _ (List.mem_append_left _ (List.mem_append_left _ (List.mem_append_right _ h)))
    have inX2 : ∀ w ∈ wsX20, w ∈ w_x_lays := fun w h => List.mem_cons_of_mem _ (List.mem_append_left _ (List.mem_append_right _ h))
    have inX6 : ∀ w ∈ wsX60, w ∈ w_x_lays := fun w h => List.mem_cons_of_mem _ (List.mem_append_right _ h)
    subst hsz
    have hD := hD0.self (sz := s.heap.size)
    generalize hAe : va_A [(h0, .inr (6, [.ref ah, v1, v2, v3, v4, .ref ph, .ref t0, v7])), (t0, .inl (tc, 7, .inl tf)), (ph, .inl (pc, 4, .inr (.inr (.inr (.inr pf))))), (p0, .inr (0, [.int b0, .int z0, .ref n0])), (n0, .inl (nc0, 40, .inr (.inl g0))), (p1, .inr (0, [.int b1, .int z1, .ref n1])), (n1, .inl (nc1, 40, .inr (.inl g1))), (p2, .inr (0, [.int b2, .int z2, .ref n2])), (n2, .inl (nc2, 40, .inr (.inl g2))), (p3, .inr (0, [.int b3, .int z3, .ref n3])), (n3, .inl (nc3, 40, .inr (.inl g3))), (ah, .inr (4, [w0, w1, w2, w3, w4, w5, .int sc, .ref q5, w8])), (q5, .inl (c5, 7, .inr (.inl f5)))] s.heap.size = A at hD ⊢
    have hA : ∀ q : Nat, s.heap.size ≤ q → A q := fun q h => by rw [← hAe]; exact Or.inr h
    have hS : va_S A s.heap s.heap [] := va_S.rf
    have hP : va_P (dC, dI) vwCl [(h0, .inr (6, [.ref ah, v1, v2, v3, v4, .ref ph, .ref t0, v7])), (t0, .inl (tc, 7, .inl tf)), (ph, .inl (pc, 4, .inr (.inr (.inr (.inr pf))))), (p0, .inr (0, [.int b0, .int z0, .ref n0])), (n0, .inl (nc0, 40, .inr (.inl g0))), (p1, .inr (0, [.int b1, .int z1, .ref n1])), (n1, .inl (nc1, 40, .inr (.inl g1))), (p2, .inr (0, [.int b2, .int z2, .ref n2])), (n2, .inl (nc2, 40, .inr (.inl g2))), (p3, .inr (0, [.int b3, .int z3, .ref n3])), (n3, .inl (nc3, 40, .inr (.inl g3))), (ah, .inr (4, [w0, w1, w2, w3, w4, w5, .int sc, .ref q5, w8])), (q5, .inl (c5, 7, .inr (.inl f5)))] s.heap := hP
    have hl := lv_entry ([.ref h0, .int 1]) (n := 5) (Nat.le_of_ble_eq_true rfl)
    rw [lg_entry_eq]
    generalize (lg_sl ([.ref h0, .int 1]) ++ List.replicate (5 - (lg_sl ([.ref h0, .int 1])).length) Slot.unset).toArray = ls at hl ⊢
    have hl : lv_has ls 5 [(0, .ref h0), (1, .int 1)] := hl
    refine lv_aload_n hx hb dX8_lays_0 rfl (lv_at hl 0 rfl) ?_
    refine lv_iload_n hx hb dX8_lays_1 rfl (lv_at hl 1 rfl) ?_
    have hPc := hP.sub (ws' := [(h0, .inr (6, [.ref ah, v1, v2, v3, v4, .ref ph, .ref t0, v7])), (ph, .inl (pc, 4, .inr (.inr (.inr (.inr pf)))))]) [0, 2] rfl
    have hKc := hK.sub (tys' := [(pc, .object "LampShapes$Paper")]) [1] rfl
    refine va_csq (W.runV (As := [.int 1]) (rest := []) ⟨hx, hb, hml, hown, hts⟩ (c_paperAt_1 l dC dI ad h0 (.ref ah) v1 v2 v3 v4 ph (.ref t0) v7 pc pf p1 hp1) (cwV 1 hts g_x_lays_c_paperAt_1_256 rfl rfl rfl (by decide +kernel) ⟨(Nat.le_of_ble_eq_true rfl), (Nat.le_of_ble_eq_true rfl)⟩) ⟨preS_blind, va_recv hKc hPc (ci := 6) (q0 := 0) rfl rfl, fun U hU hW => ⟨rfl, preS_at hU hW hPc hKc hev⟩⟩ rfl rfl hl.1 rfl (lv_room (Nat.le_of_ble_eq_true rfl)) dX8_lays_2 ⟨(Nat.le_of_ble_eq_true rfl), (Nat.le_of_ble_eq_true rfl)⟩) (fun r_17 hw => ?_)
    subst hw
    refine pp_tv (y := .ref p1) rfl ?_
    refine lv_astore_n (lv' := [(2, .ref p1), (0, .ref h0), (1, .int 1)]) hx hb dX8_lays_5 rfl hl (by decide) rfl (fun ls hl => ?_)
    refine lv_aload_n hx hb dX8_lays_6 rfl (lv_at hl 0 rfl) ?_
    refine lv_ifnonnull (tgt := 17) hx hb dX8_lays_7 (by decide) ?_
    refine lv_aload_n hx hb dX8_lays_17 rfl (lv_at hl 0 rfl) ?_
    have hPc := hP.sub (ws' := [(p1, .inr (0, [.int b1, .int z1, .ref n1]))]) [5] rfl
    have hKc := hK.sub (tys' := []) [] rfl
    refine vp_callSi (W.runV (As := []) (rest := []) ⟨hx, hb, hml, hown, hts⟩ (p_isMissing l dC dI ad p1 b1 (.int z1) (.ref n1) ) (cwV 0 hts g_x_lays_p_isMissing_268 rfl rfl rfl (by decide +kernel) ⟨(Nat.le_of_ble_eq_true rfl), (Nat.le_of_ble_eq_true rfl)⟩) ⟨preS_blind, va_recv hKc hPc (ci := 0) (q0 := 0) rfl rfl, fun U hU hW => ⟨rfl, preS_at hU hW hPc hKc hev⟩⟩ rfl rfl hl.1 rfl (lv_room (Nat.le_of_ble_eq_true rfl)) dX8_lays_18 ⟨(Nat.le_of_ble_eq_true rfl), (Nat.le_of_ble_eq_true rfl)⟩) (fun r_18 hw => ?_)
    have hr_18 : (r_18.toInt = 1 ∧ b1.toInt = 0) ∨ (r_18.toInt = 0 ∧ ¬ b1.toInt = 0) := hw
    refine lv_if_eq (tgt := 32) hx hb dX8_lays_21 (by decide) (fun c_19 => ?_) (fun c_19 => ?_)
    · skip
      have tc_19 : r_18.toInt = 0 := (fa_eq _ _).mp c_19
      refine lv_aload_n hx hb dX8_lays_32 rfl (lv_at hl 0 rfl) ?_
      refine va_getN (D := (dC, dI)) (ci := 0) (v := .int z1) (C := RX2) (T := TX2) (N := 3) hx hb hts inX2 hown hK hP 5 rfl rfl 1 (by decide) (ev_nest hev 22 rfl) (fun _ h9 => h9) rfl dX8_lays_33 ?_
      refine lv_aload_n hx hb dX8_lays_36 rfl (lv_at hl 1 rfl) ?_
      refine va_get (D := (dC, dI)) (ci := 6) (v := .ref ah) (C := RX8) (T := TX8) (N := 8) hx hb hts inX8 hown hK hP 0 rfl rfl 0 (by decide) (hts _ (List.mem_of_getElem? (i := 19) rfl)) (fun _ h9 => h9) rfl dX8_lays_37 ?_
      refine va_getN (D := (dC, dI)) (ci := 4) (v := .int sc) (C := RX6) (T := TX6) (N := 9) hx hb hts inX6 hown hK hP 11 rfl rfl 6 (by decide) (ev_nest hev 8 rfl) (fun _ h9 => h9) rfl dX8_lays_40 ?_
      refine va_mmin hx hb (by rw [hml]; exact hl.1.symm) hown (hts _ (List.mem_of_getElem? (i := 20) rfl)) (hts _ (List.mem_of_getElem? (i := 21) rfl)) (hts _ (List.mem_of_getElem? (i := 22) rfl)) (hts _ (List.mem_of_getElem? (i := 23) rfl)) (Nat.le_of_ble_eq_true rfl) (Nat.le_of_ble_eq_true rfl) (Nat.le_of_ble_eq_true rfl) (Nat.le_of_ble_eq_true rfl) dX8_lays_43 ?_
      refine lv_topi (fun n_20 en_20 => ?_)
      have tn_20 : n_20.toInt ≤ z1.toInt ∧ n_20.toInt ≤ sc.toInt ∧ (n_20.toInt = z1.toInt ∨ n_20.toInt = sc.toInt) := pp_min en_20
      refine lv_istore_n (lv' := [(3, .int n_20), (2, .ref p1), (0, .ref h0), (1, .int 1)]) hx hb dX8_lays_46 rfl hl (by decide) rfl (fun ls hl => ?_)
      refine lv_iconst (v := 0) hx hb dX8_lays_47 (by decide) ?_
      refine lv_istore (lv' := [(4, .int 0), (3, .int n_20), (2, .ref p1), (0, .ref h0), (1, .int 1)]) hx hb dX8_lays_48 hl (by decide) rfl (fun ls hl => ?_)
      refine pp_loop (ι := Int32 × (Nat → Int64)) (fun ⟨v4_50, y5⟩ => (n_20.toInt - v4_50.toInt).toNat) (fun ⟨v4_50, y5⟩ H locs ls => (0 ≤ v4_50.toInt) ∧ va_P (dC, dI) vwCl [(h0, .inr (6, [.ref ah, v1, v2, v3, v4, .ref ph, .ref t0, v7])), (t0, .inl (tc, 7, .inl tf)), (ph, .inl (pc, 4, .inr (.inr (.inr (.inr pf))))), (p0, .inr (0, [.int b0, .int z0, .ref n0])), (n0, .inl (nc0, 40, .inr (.inl g0))), (p1, .inr (0, [.int b1, .int z1, .ref n1])), (n1, .inl (nc1, 40, .inr (.inl g1))), (p2, .inr (0, [.int b2, .int z2, .ref n2])), (n2, .inl (nc2, 40, .inr (.inl g2))), (p3, .inr (0, [.int b3, .int z3, .ref n3])), (n3, .inl (nc3, 40, .inr (.inl g3))), (ah, .inr (4, [w0, w1, w2, w3, w4, w5, .int sc, .ref q5, w8])), (q5, .inl (c5, 7, .inr (.inl y5)))] H ∧ va_D A [(h0, .inr (6, [.ref ah, v1, v2, v3, v4, .ref ph, .ref t0, v7])), (t0, .inl (tc, 7, .inl tf)), (ph, .inl (pc, 4, .inr (.inr (.inr (.inr pf))))), (p0, .inr (0, [.int b0, .int z0, .ref n0])), (n0, .inl (nc0, 40, .inr (.inl g0))), (p1, .inr (0, [.int b1, .int z1, .ref n1])), (n1, .inl (nc1, 40, .inr (.inl g1))), (p2, .inr (0, [.int b2, .int z2, .ref n2])), (n2, .inl (nc2, 40, .inr (.inl g2))), (p3, .inr (0, [.int b3, .int z3, .ref n3])), (n3, .inl (nc3, 40, .inr (.inl g3))), (ah, .inr (4, [w0, w1, w2, w3, w4, w5, .int sc, .ref q5, w8])), (q5, .inl (c5, 7, .inr (.inl y5)))] ∧ va_S A s.heap H locs ∧ lv_has ls 5 [(4, .int v4_50), (3, .int n_20), (2, .ref p1), (0, .ref h0), (1, .int 1)]) ?_ (0, f5) _ _ _ ⟨(by first | omega | decide | (simp only [fa_lt, fa_le, fa_eq, and_true, true_and, and_false, false_and, not_true_eq_false, not_false_eq_true, li_0, li_1, li_2, li_3, li_4, li_5, li_6, li_7, li_8, li_9, li_10, li_12, li_15, li_16, li_20, li_30, li_34, li_38, li_40, li_63, li_64, li_65, li_78, li_120, li_1000, li_4000, li_10000, li_11077, li_255, li_65535, li_m1, li_m2, li_m1000000001, li_m1000000002, li_m1000000003, li_m1000000004, li_m1000000005, li_m1000000006, li_m1000000007, or_true, true_or, or_false, false_or, implies_true, true_implies, false_implies] <;> omega)), hP.sub [0, 1, 2, 3, 4, 5, 6, 7, 8, 9, 10, 11, 12] rfl, hD.sub [0, 1, 2, 3, 4, 5, 6, 7, 8, 9, 10, 11, 12] (by decide) rfl, hS, lv_sub hl [0, 1, 2, 3, 4] rfl⟩
      intro k_21 ihk_21 u H locs ls hm hI
      obtain ⟨v4_50, y5⟩ := u
      obtain ⟨jk_21_0, hP, hD, hS, hl⟩ := hI
      have hmk_21 : (n_20.toInt - v4_50.toInt).toNat < k_21 + 1 := hm
      clear hm
      have jk_21_0 : 0 ≤ v4_50.toInt := jk_21_0
      have hl : lv_has ls 5 [(4, .int v4_50), (3, .int n_20), (2, .ref p1), (0, .ref h0), (1, .int 1)] := hl
      have hP : va_P (dC, dI) vwCl [(h0, .inr (6, [.ref ah, v1, v2, v3, v4, .ref ph, .ref t0, v7])), (t0, .inl (tc, 7, .inl tf)), (ph, .inl (pc, 4, .inr (.inr (.inr (.inr pf))))), (p0, .inr (0, [.int b0, .int z0, .ref n0])), (n0, .inl (nc0, 40, .inr (.inl g0))), (p1, .inr (0, [.int b1, .int z1, .ref n1])), (n1, .inl (nc1, 40, .inr (.inl g1))), (p2, .inr (0, [.int b2, .int z2, .ref n2])), (n2, .inl (nc2, 40, .inr (.inl g2))), (p3, .inr (0, [.int b3, .int z3, .ref n3])), (n3, .inl (nc3, 40, .inr (.inl g3))), (ah, .inr (4, [w0, w1, w2, w3, w4, w5, .int sc, .ref q5, w8])), (q5, .inl (c5, 7, .inr (.inl y5)))] H := hP
      have hD : va_D A [(h0, .inr (6, [.ref ah, v1, v2, v3, v4, .ref ph, .ref t0, v7])), (t0, .inl (tc, 7, .inl tf)), (ph, .inl (pc, 4, .inr (.inr (.inr (.inr pf))))), (p0, .inr (0, [.int b0, .int z0, .ref n0])), (n0, .inl (nc0, 40, .inr (.inl g0))), (p1, .inr (0, [.int b1, .int z1, .ref n1])), (n1, .inl (nc1, 40, .inr (.inl g1))), (p2, .inr (0, [.int b2, .int z2, .ref n2])), (n2, .inl (nc2, 40, .inr (.inl g2))), (p3, .inr (0, [.int b3, .int z3, .ref n3])), (n3, .inl (nc3, 40, .inr (.inl g3))), (ah, .inr (4, [w0, w1, w2, w3, w4, w5, .int sc, .ref q5, w8])), (q5, .inl (c5, 7, .inr (.inl y5)))] := hD
      refine lv_iload hx hb dX8_lays_50 (lv_at hl 0 rfl) ?_
      refine lv_iload_n hx hb dX8_lays_52 rfl (lv_at hl 1 rfl) ?_
      have rc_22_x := pp_rng v4_50
      have rc_22_y := pp_rng n_20
      refine lv_icmp_ge (tgt := 79) hx hb dX8_lays_53 (by decide) (fun c_22 => ?_) (fun c_22 => ?_)
      · skip
        have tc_22 : n_20.toInt ≤ v4_50.toInt := (fa_le _ _).mp c_22
        refine lv_iload_n hx hb dX8_lays_79 rfl (lv_at hl 1 rfl) ?_
        have hP9 := hP.sub (ws' := [(h0, .inr (6, [.ref ah, v1, v2, v3, v4, .ref ph, .ref t0, v7])), (t0, .inl (tc, 7, .inl tf)), (ph, .inl (pc, 4, .inr (.inr (.inr (.inr pf))))), (p0, .inr (0, [.int b0, .int z0, .ref n0])), (n0, .inl (nc0, 40, .inr (.inl g0))), (p1, .inr (0, [.int b1, .int z1, .ref n1])), (n1, .inl (nc1, 40, .inr (.inl g1))), (p2, .inr (0, [.int b2, .int z2, .ref n2])), (n2, .inl (nc2, 40, .inr (.inl g2))), (p3, .inr (0, [.int b3, .int z3, .ref n3])), (n3, .inl (nc3, 40, .inr (.inl g3))), (ah, .inr (4, [w0, w1, w2, w3, w4, w5, .int sc, .ref q5, w8])), (q5, .inl (c5, 7, .inr (.inl y5)))]) [0, 1, 2, 3, 4, 5, 6, 7, 8, 9, 10, 11, 12] rfl
        have hD9 := hD.sub (ws' := [(h0, .inr (6, [.ref ah, v1, v2, v3, v4, .ref ph, .ref t0, v7])), (t0, .inl (tc, 7, .inl tf)), (ph, .inl (pc, 4, .inr (.inr (.inr (.inr pf))))), (p0, .inr (0, [.int b0, .int z0, .ref n0])), (n0, .inl (nc0, 40, .inr (.inl g0))), (p1, .inr (0, [.int b1, .int z1, .ref n1])), (n1, .inl (nc1, 40, .inr (.inl g1))), (p2, .inr (0, [.int b2, .int z2, .ref n2])), (n2, .inl (nc2, 40, .inr (.inl g2))), (p3, .inr (0, [.int b3, .int z3, .ref n3])), (n3, .inl (nc3, 40, .inr (.inl g3))), (ah, .inr (4, [w0, w1, w2, w3, w4, w5, .int sc, .ref q5, w8])), (q5, .inl (c5, 7, .inr (.inl y5)))]) [0, 1, 2, 3, 4, 5, 6, 7, 8, 9, 10, 11, 12] (by decide) rfl
        have hK9 := hK.sub (tys' := [(tc, .int), (pc, .object "LampShapes$Paper"), (nc0, .long), (nc1, .long), (nc2, .long), (nc3, .long), (c5, .long)]) [0, 1, 2, 3, 4, 5, 6] rfl
        exact W.iret (v := n_20) hx hb hr (fun t ht hW => ⟨⟨n_20, (), rfl, trivial, tf, y5, by rw [ht]; exact hP9, va_K.moved hW.alike hK9, hD9⟩, hS.F ht⟩) hS.2.2 dX8_lays_80
      · skip
        have tc_22 : ¬ n_20.toInt ≤ v4_50.toInt := fun h => c_22 ((fa_le _ _).mpr h)
        refine lv_aload_n hx hb dX8_lays_56 rfl (lv_at hl 3 rfl) ?_
        refine va_get (D := (dC, dI)) (ci := 6) (v := .ref ah) (C := RX8) (T := TX8) (N := 8) hx hb hts inX8 hown hK hP 0 rfl rfl 0 (by decide) (hts _ (List.mem_of_getElem? (i := 19) rfl)) (fun _ h9 => h9) rfl dX8_lays_57 ?_
        refine va_getN (D := (dC, dI)) (ci := 4) (v := .ref q5) (C := RX6) (T := TX6) (N := 9) hx hb hts inX6 hown hK hP 11 rfl rfl 7 (by decide) (ev_nest hev 10 rfl) (fun _ h9 => h9) rfl dX8_lays_60 ?_
        refine lv_iload hx hb dX8_lays_63 (lv_at hl 0 rfl) ?_
        refine lv_aload_n hx hb dX8_lays_65 rfl (lv_at hl 2 rfl) ?_
        refine va_getN (D := (dC, dI)) (ci := 0) (v := .ref n1) (C := RX2) (T := TX2) (N := 3) hx hb hts inX2 hown hK hP 5 rfl rfl 2 (by decide) (ev_nest hev 23 rfl) (fun _ h9 => h9) rfl dX8_lays_66 ?_
        refine lv_iload hx hb dX8_lays_69 (lv_at hl 0 rfl) ?_
        refine va_lald hx hb hK hP 6 3 rfl rfl (vp_in_iff.mpr ⟨by omega, by omega⟩) dX8_lays_71 ?_
        refine lv_topl (fun n_23 en_23 => ?_)
        clear en_23
        refine va_last hx hb hK hP hD hS 12 6 rfl rfl (vp_in_iff.mpr ⟨by omega, by omega⟩) dX8_lays_72 (fun H locs hP hD hS => ?_)
        have hP : va_P (dC, dI) vwCl [(h0, .inr (6, [.ref ah, v1, v2, v3, v4, .ref ph, .ref t0, v7])), (t0, .inl (tc, 7, .inl tf)), (ph, .inl (pc, 4, .inr (.inr (.inr (.inr pf))))), (p0, .inr (0, [.int b0, .int z0, .ref n0])), (n0, .inl (nc0, 40, .inr (.inl g0))), (p1, .inr (0, [.int b1, .int z1, .ref n1])), (n1, .inl (nc1, 40, .inr (.inl g1))), (p2, .inr (0, [.int b2, .int z2, .ref n2])), (n2, .inl (nc2, 40, .inr (.inl g2))), (p3, .inr (0, [.int b3, .int z3, .ref n3])), (n3, .inl (nc3, 40, .inr (.inl g3))), (ah, .inr (4, [w0, w1, w2, w3, w4, w5, .int sc, .ref q5, w8])), (q5, .inl (c5, 7, .inr (.inl (vp_updL y5 v4_50.toNatClampNeg n_23))))] H := hP
        have hD : va_D A [(h0, .inr (6, [.ref ah, v1, v2, v3, v4, .ref ph, .ref t0, v7])), (t0, .inl (tc, 7, .inl tf)), (ph, .inl (pc, 4, .inr (.inr (.inr (.inr pf))))), (p0, .inr (0, [.int b0, .int z0, .ref n0])), (n0, .inl (nc0, 40, .inr (.inl g0))), (p1, .inr (0, [.int b1, .int z1, .ref n1])), (n1, .inl (nc1, 40, .inr (.inl g1))), (p2, .inr (0, [.int b2, .int z2, .ref n2])), (n2, .inl (nc2, 40, .inr (.inl g2))), (p3, .inr (0, [.int b3, .int z3, .ref n3])), (n3, .inl (nc3, 40, .inr (.inl g3))), (ah, .inr (4, [w0, w1, w2, w3, w4, w5, .int sc, .ref q5, w8])), (q5, .inl (c5, 7, .inr (.inl (vp_updL y5 v4_50.toNatClampNeg n_23))))] := hD
        obtain ⟨n_24, en_24⟩ : ∃ y : Int32, y = v4_50 + 1 := ⟨_, rfl⟩
        have tn_24 : n_24.toInt = v4_50.toInt + 1 := pp_add en_24 rfl rfl (by omega) (by omega)
        refine lv_iinc (v := n_24) (lv' := [(4, .int n_24), (3, .int n_20), (2, .ref p1), (0, .ref h0), (1, .int 1)]) hx hb dX8_lays_73 hl (k := 0) rfl (by rw [en_24]; rfl) (by decide) rfl (fun ls hl => ?_)
        clear en_24
        refine lv_goto (tgt := 50) hx hb dX8_lays_76 (by decide) ?_
        exact ihk_21 (n_24, (vp_updL y5 v4_50.toNatClampNeg n_23)) _ _ _ (by show (n_20.toInt - n_24.toInt).toNat < k_21; omega) ⟨(by first | omega | decide | (simp only [fa_lt, fa_le, fa_eq, and_true, true_and, and_false, false_and, not_true_eq_false, not_false_eq_true, li_0, li_1, li_2, li_3, li_4, li_5, li_6, li_7, li_8, li_9, li_10, li_12, li_15, li_16, li_20, li_30, li_34, li_38, li_40, li_63, li_64, li_65, li_78, li_120, li_1000, li_4000, li_10000, li_11077, li_255, li_65535, li_m1, li_m2, li_m1000000001, li_m1000000002, li_m1000000003, li_m1000000004, li_m1000000005, li_m1000000006, li_m1000000007, or_true, true_or, or_false, false_or, implies_true, true_implies, false_implies] <;> omega)), hP.sub [0, 1, 2, 3, 4, 5, 6, 7, 8, 9, 10, 11, 12] rfl, hD.sub [0, 1, 2, 3, 4, 5, 6, 7, 8, 9, 10, 11, 12] (by decide) rfl, hS, lv_sub hl [0, 1, 2, 3, 4] rfl⟩
    · skip
      have tc_19 : ¬ r_18.toInt = 0 := fun h => c_19 ((fa_eq _ _).mpr h)
      refine lv_aload_n hx hb dX8_lays_24 rfl (lv_at hl 1 rfl) ?_
      refine lv_ldcw hx hb hown (hts _ (List.mem_of_getElem? (i := 24) rfl)) dX8_lays_25 ?_
      have hPc := hP.sub (ws' := [(h0, .inr (6, [.ref ah, v1, v2, v3, v4, .ref ph, .ref t0, v7])), (t0, .inl (tc, 7, .inl tf))]) [0, 1] rfl
      have hKc := hK.sub (tys' := [(tc, .int)]) [0] rfl
      have hDc := hD.sub (ws' := [(h0, .inr (6, [.ref ah, v1, v2, v3, v4, .ref ph, .ref t0, v7])), (t0, .inl (tc, 7, .inl tf))]) [0, 1] (by decide) rfl
      have hFc := va_free (wc := [(h0, .inr (6, [.ref ah, v1, v2, v3, v4, .ref ph, .ref t0, v7])), (t0, .inl (tc, 7, .inl tf))]) hD hS hA [0, 1] rfl
      refine va_calli (va_runV (As := [.int (-1000000006)]) (rest := []) ⟨hx, hb, hml, hown, hts⟩ (f_missing l dC dI ad h0 (.ref ah) v1 v2 v3 v4 (.ref ph) t0 v7 tc tf s.heap.size ) (cwV 1 hts g_x_lays_f_missing_63 rfl rfl rfl (by decide +kernel) ⟨(Nat.le_of_ble_eq_true rfl), (Nat.le_of_ble_eq_true rfl)⟩) ⟨preM_blind, va_recv hKc hPc (ci := 6) (q0 := 0) rfl rfl, fun U hU hW => ⟨rfl, preM_at hU hW hPc hKc hDc hev⟩⟩ rfl rfl hl.1 rfl (lv_room (Nat.le_of_ble_eq_true rfl)) dX8_lays_28 ⟨(Nat.le_of_ble_eq_true rfl), (Nat.le_of_ble_eq_true rfl)⟩) hS (fun q _ h => hFc q h) hFc (fun r_25 u t H1 locs ht hvm hw hB hz1 hk1 hS => ?_)
      obtain ⟨tg_26, hP1, hK1, hD1⟩ := hB
      rw [ht] at hP1
      have hK1 := va_K.moved hvm.symm hK1
      obtain ⟨hP, hD⟩ := va_join (wr := [(ph, .inl (pc, 4, .inr (.inr (.inr (.inr pf))))), (p0, .inr (0, [.int b0, .int z0, .ref n0])), (n0, .inl (nc0, 40, .inr (.inl g0))), (p1, .inr (0, [.int b1, .int z1, .ref n1])), (n1, .inl (nc1, 40, .inr (.inl g1))), (p2, .inr (0, [.int b2, .int z2, .ref n2])), (n2, .inl (nc2, 40, .inr (.inl g2))), (p3, .inr (0, [.int b3, .int z3, .ref n3])), (n3, .inl (nc3, 40, .inr (.inl g3))), (ah, .inr (4, [w0, w1, w2, w3, w4, w5, .int sc, .ref q5, w8])), (q5, .inl (c5, 7, .inr (.inl f5)))]) (w1 := [(h0, .inr (6, [.ref ah, v1, v2, v3, v4, .ref ph, .ref t0, v7])), (t0, .inl (tc, 7, .inl tg_26))]) hP hD [0, 1] [2, 3, 4, 5, 6, 7, 8, 9, 10, 11, 12] rfl rfl (by decide) (by decide) hk1 hFc hP1 hD1
      generalize H1 = H at hP hS ⊢
      have hP : va_P (dC, dI) vwCl [(ph, .inl (pc, 4, .inr (.inr (.inr (.inr pf))))), (p0, .inr (0, [.int b0, .int z0, .ref n0])), (n0, .inl (nc0, 40, .inr (.inl g0))), (p1, .inr (0, [.int b1, .int z1, .ref n1])), (n1, .inl (nc1, 40, .inr (.inl g1))), (p2, .inr (0, [.int b2, .int z2, .ref n2])), (n2, .inl (nc2, 40, .inr (.inl g2))), (p3, .inr (0, [.int b3, .int z3, .ref n3])), (n3, .inl (nc3, 40, .inr (.inl g3))), (ah, .inr (4, [w0, w1, w2, w3, w4, w5, .int sc, .ref q5, w8])), (q5, .inl (c5, 7, .inr (.inl f5))), (h0, .inr (6, [.ref ah, v1, v2, v3, v4, .ref ph, .ref t0, v7])), (t0, .inl (tc, 7, .inl tg_26))] H := hP
      have hD : va_D A [(ph, .inl (pc, 4, .inr (.inr (.inr (.inr pf))))), (p0, .inr (0, [.int b0, .int z0, .ref n0])), (n0, .inl (nc0, 40, .inr (.inl g0))), (p1, .inr (0, [.int b1, .int z1, .ref n1])), (n1, .inl (nc1, 40, .inr (.inl g1))), (p2, .inr (0, [.int b2, .int z2, .ref n2])), (n2, .inl (nc2, 40, .inr (.inl g2))), (p3, .inr (0, [.int b3, .int z3, .ref n3])), (n3, .inl (nc3, 40, .inr (.inl g3))), (ah, .inr (4, [w0, w1, w2, w3, w4, w5, .int sc, .ref q5, w8])), (q5, .inl (c5, 7, .inr (.inl f5))), (h0, .inr (6, [.ref ah, v1, v2, v3, v4, .ref ph, .ref t0, v7])), (t0, .inl (tc, 7, .inl tg_26))] := hD
      subst hw
      have hP9 := hP.sub (ws' := [(h0, .inr (6, [.ref ah, v1, v2, v3, v4, .ref ph, .ref t0, v7])), (t0, .inl (tc, 7, .inl tg_26)), (ph, .inl (pc, 4, .inr (.inr (.inr (.inr pf))))), (p0, .inr (0, [.int b0, .int z0, .ref n0])), (n0, .inl (nc0, 40, .inr (.inl g0))), (p1, .inr (0, [.int b1, .int z1, .ref n1])), (n1, .inl (nc1, 40, .inr (.inl g1))), (p2, .inr (0, [.int b2, .int z2, .ref n2])), (n2, .inl (nc2, 40, .inr (.inl g2))), (p3, .inr (0, [.int b3, .int z3, .ref n3])), (n3, .inl (nc3, 40, .inr (.inl g3))), (ah, .inr (4, [w0, w1, w2, w3, w4, w5, .int sc, .ref q5, w8])), (q5, .inl (c5, 7, .inr (.inl f5)))]) [11, 12, 0, 1, 2, 3, 4, 5, 6, 7, 8, 9, 10] rfl
      have hD9 := hD.sub (ws' := [(h0, .inr (6, [.ref ah, v1, v2, v3, v4, .ref ph, .ref t0, v7])), (t0, .inl (tc, 7, .inl tg_26)), (ph, .inl (pc, 4, .inr (.inr (.inr (.inr pf))))), (p0, .inr (0, [.int b0, .int z0, .ref n0])), (n0, .inl (nc0, 40, .inr (.inl g0))), (p1, .inr (0, [.int b1, .int z1, .ref n1])), (n1, .inl (nc1, 40, .inr (.inl g1))), (p2, .inr (0, [.int b2, .int z2, .ref n2])), (n2, .inl (nc2, 40, .inr (.inl g2))), (p3, .inr (0, [.int b3, .int z3, .ref n3])), (n3, .inl (nc3, 40, .inr (.inl g3))), (ah, .inr (4, [w0, w1, w2, w3, w4, w5, .int sc, .ref q5, w8])), (q5, .inl (c5, 7, .inr (.inl f5)))]) [11, 12, 0, 1, 2, 3, 4, 5, 6, 7, 8, 9, 10] (by decide) rfl
      have hK9 := hK.sub (tys' := [(tc, .int), (pc, .object "LampShapes$Paper"), (nc0, .long), (nc1, .long), (nc2, .long), (nc3, .long), (c5, .long)]) [0, 1, 2, 3, 4, 5, 6] rfl
      exact W.iret (v := ((-1000000006) : Int32)) hx hb hr (fun t ht hW => ⟨⟨((-1000000006) : Int32), (), rfl, trivial, tg_26, f5, by rw [ht]; exact hP9, va_K.moved hW.alike hK9, hD9⟩, hS.F ht⟩) hS.2.2 dX8_lays_31
  · skip
    refine Met.ofW (cc := cX8_lays) (maxL := 5) (ret := (some .int)) (by decide) rfl ?_
    intro p e s m args below meth c s₁ B hml hv
    obtain ⟨rfl, hsz, hP, hK, hD0, hev⟩ := hv
    have hx := B.exec
    have hb := B.bytes
    have hr := B.returns
    have hts := atoms_spec (ws := w_x_lays) B.pre
    have hown : s.vm.findClass RX8 = some m.cls := findClass_of_methodNamed B.named
    have hlocks := B.notSynchronized
    have inX8 : ∀ w ∈ wsX80, w ∈ w_x_lays := fun w h => List.mem_cons_of_mem _ (List.mem_append_left _ (List.mem_append_left _ (List.mem_append_right _ h)))
    have inX2 : ∀ w ∈ wsX20, w ∈ w_x_lays := fun w h => List.mem_cons_of_mem _ (List.mem_append_left _ (List.mem_append_right _ h))
    have inX6 : ∀ w ∈ wsX60, w ∈ w_x_lays := fun w h => List.mem_cons_of_mem _ (List.mem_append_right _ h)
    subst hsz
    have hD := hD0.self (sz := s.heap.size)
    generalize hAe : va_A [(h0, .inr (6, [.ref ah, v1, v2, v3, v4, .ref ph, .ref t0, v7])), (t0, .inl (tc, 7, .inl tf)), (ph, .inl (pc, 4, .inr (.inr (.inr (.inr pf))))), (p0, .inr (0, [.int b0, .int z0, .ref n0])), (n0, .inl (nc0, 40, .inr (.inl g0))), (p1, .inr (0, [.int b1, .int z1, .ref n1])), (n1, .inl (nc1, 40, .inr (.inl g1))), (p2, .inr (0, [.int b2, .int z2, .ref n2])), (n2, .inl (nc2, 40, .inr (.inl g2))), (p3, .inr (0, [.int b3, .int z3, .ref n3])), (n3, .inl (nc3, 40, .inr (.inl g3))), (ah, .inr (4, [w0, w1, w2, w3, w4, w5, .int sc, .ref q5, w8])), (q5, .inl (c5, 7, .inr (.inl f5)))] s.heap.size = A at hD ⊢
    have hA : ∀ q : Nat, s.heap.size ≤ q → A q := fun q h => by rw [← hAe]; exact Or.inr h
    have hS : va_S A s.heap s.heap [] := va_S.rf
    have hP : va_P (dC, dI) vwCl [(h0, .inr (6, [.ref ah, v1, v2, v3, v4, .ref ph, .ref t0, v7])), (t0, .inl (tc, 7, .inl tf)), (ph, .inl (pc, 4, .inr (.inr (.inr (.inr pf))))), (p0, .inr (0, [.int b0, .int z0, .ref n0])), (n0, .inl (nc0, 40, .inr (.inl g0))), (p1, .inr (0, [.int b1, .int z1, .ref n1])), (n1, .inl (nc1, 40, .inr (.inl g1))), (p2, .inr (0, [.int b2, .int z2, .ref n2])), (n2, .inl (nc2, 40, .inr (.inl g2))), (p3, .inr (0, [.int b3, .int z3, .ref n3])), (n3, .inl (nc3, 40, .inr (.inl g3))), (ah, .inr (4, [w0, w1, w2, w3, w4, w5, .int sc, .ref q5, w8])), (q5, .inl (c5, 7, .inr (.inl f5)))] s.heap := hP
    have hl := lv_entry ([.ref h0, .int 2]) (n := 5) (Nat.le_of_ble_eq_true rfl)
    rw [lg_entry_eq]
    generalize (lg_sl ([.ref h0, .int 2]) ++ List.replicate (5 - (lg_sl ([.ref h0, .int 2])).length) Slot.unset).toArray = ls at hl ⊢
    have hl : lv_has ls 5 [(0, .ref h0), (1, .int 2)] := hl
    refine lv_aload_n hx hb dX8_lays_0 rfl (lv_at hl 0 rfl) ?_
    refine lv_iload_n hx hb dX8_lays_1 rfl (lv_at hl 1 rfl) ?_
    have hPc := hP.sub (ws' := [(h0, .inr (6, [.ref ah, v1, v2, v3, v4, .ref ph, .ref t0, v7])), (ph, .inl (pc, 4, .inr (.inr (.inr (.inr pf)))))]) [0, 2] rfl
    have hKc := hK.sub (tys' := [(pc, .object "LampShapes$Paper")]) [1] rfl
    refine va_csq (W.runV (As := [.int 2]) (rest := []) ⟨hx, hb, hml, hown, hts⟩ (c_paperAt_2 l dC dI ad h0 (.ref ah) v1 v2 v3 v4 ph (.ref t0) v7 pc pf p2 hp2) (cwV 1 hts g_x_lays_c_paperAt_2_256 rfl rfl rfl (by decide +kernel) ⟨(Nat.le_of_ble_eq_true rfl), (Nat.le_of_ble_eq_true rfl)⟩) ⟨preS_blind, va_recv hKc hPc (ci := 6) (q0 := 0) rfl rfl, fun U hU hW => ⟨rfl, preS_at hU hW hPc hKc hev⟩⟩ rfl rfl hl.1 rfl (lv_room (Nat.le_of_ble_eq_true rfl)) dX8_lays_2 ⟨(Nat.le_of_ble_eq_true rfl), (Nat.le_of_ble_eq_true rfl)⟩) (fun r_27 hw => ?_)
    subst hw
    refine pp_tv (y := .ref p2) rfl ?_
    refine lv_astore_n (lv' := [(2, .ref p2), (0, .ref h0), (1, .int 2)]) hx hb dX8_lays_5 rfl hl (by decide) rfl (fun ls hl => ?_)
    refine lv_aload_n hx hb dX8_lays_6 rfl (lv_at hl 0 rfl) ?_
    refine lv_ifnonnull (tgt := 17) hx hb dX8_lays_7 (by decide) ?_
    refine lv_aload_n hx hb dX8_lays_17 rfl (lv_at hl 0 rfl) ?_
    have hPc := hP.sub (ws' := [(p2, .inr (0, [.int b2, .int z2, .ref n2]))]) [7] rfl
    have hKc := hK.sub (tys' := []) [] rfl
    refine vp_callSi (W.runV (As := []) (rest := []) ⟨hx, hb, hml, hown, hts⟩ (p_isMissing l dC dI ad p2 b2 (.int z2) (.ref n2) ) (cwV 0 hts g_x_lays_p_isMissing_268 rfl rfl rfl (by decide +kernel) ⟨(Nat.le_of_ble_eq_true rfl), (Nat.le_of_ble_eq_true rfl)⟩) ⟨preS_blind, va_recv hKc hPc (ci := 0) (q0 := 0) rfl rfl, fun U hU hW => ⟨rfl, preS_at hU hW hPc hKc hev⟩⟩ rfl rfl hl.1 rfl (lv_room (Nat.le_of_ble_eq_true rfl)) dX8_lays_18 ⟨(Nat.le_of_ble_eq_true rfl), (Nat.le_of_ble_eq_true rfl)⟩) (fun r_28 hw => ?_)
    have hr_28 : (r_28.toInt = 1 ∧ b2.toInt = 0) ∨ (r_28.toInt = 0 ∧ ¬ b2.toInt = 0) := hw
    refine lv_if_eq (tgt := 32) hx hb dX8_lays_21 (by decide) (fun c_29 => ?_) (fun c_29 => ?_)
    · skip
      have tc_29 : r_28.toInt = 0 := (fa_eq _ _).mp c_29
      refine lv_aload_n hx hb dX8_lays_32 rfl (lv_at hl 0 rfl) ?_
      refine va_getN (D := (dC, dI)) (ci := 0) (v := .int z2) (C := RX2) (T := TX2) (N := 3) hx hb hts inX2 hown hK hP 7 rfl rfl 1 (by decide) (ev_nest hev 22 rfl) (fun _ h9 => h9) rfl dX8_lays_33 ?_
      refine lv_aload_n hx hb dX8_lays_36 rfl (lv_at hl 1 rfl) ?_
      refine va_get (D := (dC, dI)) (ci := 6) (v := .ref ah) (C := RX8) (T := TX8) (N := 8) hx hb hts inX8 hown hK hP 0 rfl rfl 0 (by decide) (hts _ (List.mem_of_getElem? (i := 19) rfl)) (fun _ h9 => h9) rfl dX8_lays_37 ?_
      refine va_getN (D := (dC, dI)) (ci := 4) (v := .int sc) (C := RX6) (T := TX6) (N := 9) hx hb hts inX6 hown hK hP 11 rfl rfl 6 (by decide) (ev_nest hev 8 rfl) (fun _ h9 => h9) rfl dX8_lays_40 ?_
      refine va_mmin hx hb (by rw [hml]; exact hl.1.symm) hown (hts _ (List.mem_of_getElem? (i := 20) rfl)) (hts _ (List.mem_of_getElem? (i := 21) rfl)) (hts _ (List.mem_of_getElem? (i := 22) rfl)) (hts _ (List.mem_of_getElem? (i := 23) rfl)) (Nat.le_of_ble_eq_true rfl) (Nat.le_of_ble_eq_true rfl) (Nat.le_of_ble_eq_true rfl) (Nat.le_of_ble_eq_true rfl) dX8_lays_43 ?_
      refine lv_topi (fun n_30 en_30 => ?_)
      have tn_30 : n_30.toInt ≤ z2.toInt ∧ n_30.toInt ≤ sc.toInt ∧ (n_30.toInt = z2.toInt ∨ n_30.toInt = sc.toInt) := pp_min en_30
      refine lv_istore_n (lv' := [(3, .int n_30), (2, .ref p2), (0, .ref h0), (1, .int 2)]) hx hb dX8_lays_46 rfl hl (by decide) rfl (fun ls hl => ?_)
      refine lv_iconst (v := 0) hx hb dX8_lays_47 (by decide) ?_
      refine lv_istore (lv' := [(4, .int 0), (3, .int n_30), (2, .ref p2), (0, .ref h0), (1, .int 2)]) hx hb dX8_lays_48 hl (by decide) rfl (fun ls hl => ?_)
      refine pp_loop (ι := Int32 × (Nat → Int64)) (fun ⟨v4_50, y5⟩ => (n_30.toInt - v4_50.toInt).toNat) (fun ⟨v4_50, y5⟩ H locs ls => (0 ≤ v4_50.toInt) ∧ va_P (dC, dI) vwCl [(h0, .inr (6, [.ref ah, v1, v2, v3, v4, .ref ph, .ref t0, v7])), (t0, .inl (tc, 7, .inl tf)), (ph, .inl (pc, 4, .inr (.inr (.inr (.inr pf))))), (p0, .inr (0, [.int b0, .int z0, .ref n0])), (n0, .inl (nc0, 40, .inr (.inl g0))), (p1, .inr (0, [.int b1, .int z1, .ref n1])), (n1, .inl (nc1, 40, .inr (.inl g1))), (p2, .inr (0, [.int b2, .int z2, .ref n2])), (n2, .inl (nc2, 40, .inr (.inl g2))), (p3, .inr (0, [.int b3, .int z3, .ref n3])), (n3, .inl (nc3, 40, .inr (.inl g3))), (ah, .inr (4, [w0, w1, w2, w3, w4, w5, .int sc, .ref q5, w8])), (q5, .inl (c5, 7, .inr (.inl y5)))] H ∧ va_D A [(h0, .inr (6, [.ref ah, v1, v2, v3, v4, .ref ph, .ref t0, v7])), (t0, .inl (tc, 7, .inl tf)), (ph, .inl (pc, 4, .inr (.inr (.inr (.inr pf))))), (p0, .inr (0, [.int b0, .int z0, .ref n0])), (n0, .inl (nc0, 40, .inr (.inl g0))), (p1, .inr (0, [.int b1, .int z1, .ref n1])), (n1, .inl (nc1, 40, .inr (.inl g1))), (p2, .inr (0, [.int b2, .int z2, .ref n2])), (n2, .inl (nc2, 40, .inr (.inl g2))), (p3, .inr (0, [.int b3, .int z3, .ref n3])), (n3, .inl (nc3, 40, .inr (.inl g3))), (ah, .inr (4, [w0, w1, w2, w3, w4, w5, .int sc, .ref q5, w8])), (q5, .inl (c5, 7, .inr (.inl y5)))] ∧ va_S A s.heap H locs ∧ lv_has ls 5 [(4, .int v4_50), (3, .int n_30), (2, .ref p2), (0, .ref h0), (1, .int 2)]) ?_ (0, f5) _ _ _ ⟨(by first | omega | decide | (simp only [fa_lt, fa_le, fa_eq, and_true, true_and, and_false, false_and, not_true_eq_false, not_false_eq_true, li_0, li_1, li_2, li_3, li_4, li_5, li_6, li_7, li_8, li_9, li_10, li_12, li_15, li_16, li_20, li_30, li_34, li_38, li_40, li_63, li_64, li_65, li_78, li_120, li_1000, li_4000, li_10000, li_11077, li_255, li_65535, li_m1, li_m2, li_m1000000001, li_m1000000002, li_m1000000003, li_m1000000004, li_m1000000005, li_m1000000006, li_m1000000007, or_true, true_or, or_false, false_or, implies_true, true_implies, false_implies] <;> omega)), hP.sub [0, 1, 2, 3, 4, 5, 6, 7, 8, 9, 10, 11, 12] rfl, hD.sub [0, 1, 2, 3, 4, 5, 6, 7, 8, 9, 10, 11, 12] (by decide) rfl, hS, lv_sub hl [0, 1, 2, 3, 4] rfl⟩
      intro k_31 ihk_31 u H locs ls hm hI
      obtain ⟨v4_50, y5⟩ := u
      obtain ⟨jk_31_0, hP, hD, hS, hl⟩ := hI
      have hmk_31 : (n_30.toInt - v4_50.toInt).toNat < k_31 + 1 := hm
      clear hm
      have jk_31_0 : 0 ≤ v4_50.toInt := jk_31_0
      have hl : lv_has ls 5 [(4, .int v4_50), (3, .int n_30), (2, .ref p2), (0, .ref h0), (1, .int 2)] := hl
      have hP : va_P (dC, dI) vwCl [(h0, .inr (6, [.ref ah, v1, v2, v3, v4, .ref ph, .ref t0, v7])), (t0, .inl (tc, 7, .inl tf)), (ph, .inl (pc, 4, .inr (.inr (.inr (.inr pf))))), (p0, .inr (0, [.int b0, .int z0, .ref n0])), (n0, .inl (nc0, 40, .inr (.inl g0))), (p1, .inr (0, [.int b1, .int z1, .ref n1])), (n1, .inl (nc1, 40, .inr (.inl g1))), (p2, .inr (0, [.int b2, .int z2, .ref n2])), (n2, .inl (nc2, 40, .inr (.inl g2))), (p3, .inr (0, [.int b3, .int z3, .ref n3])), (n3, .inl (nc3, 40, .inr (.inl g3))), (ah, .inr (4, [w0, w1, w2, w3, w4, w5, .int sc, .ref q5, w8])), (q5, .inl (c5, 7, .inr (.inl y5)))] H := hP
      have hD : va_D A [(h0, .inr (6, [.ref ah, v1, v2, v3, v4, .ref ph, .ref t0, v7])), (t0, .inl (tc, 7, .inl tf)), (ph, .inl (pc, 4, .inr (.inr (.inr (.inr pf))))), (p0, .inr (0, [.int b0, .int z0, .ref n0])), (n0, .inl (nc0, 40, .inr (.inl g0))), (p1, .inr (0, [.int b1, .int z1, .ref n1])), (n1, .inl (nc1, 40, .inr (.inl g1))), (p2, .inr (0, [.int b2, .int z2, .ref n2])), (n2, .inl (nc2, 40, .inr (.inl g2))), (p3, .inr (0, [.int b3, .int z3, .ref n3])), (n3, .inl (nc3, 40, .inr (.inl g3))), (ah, .inr (4, [w0, w1, w2, w3, w4, w5, .int sc, .ref q5, w8])), (q5, .inl (c5, 7, .inr (.inl y5)))] := hD
      refine lv_iload hx hb dX8_lays_50 (lv_at hl 0 rfl) ?_
      refine lv_iload_n hx hb dX8_lays_52 rfl (lv_at hl 1 rfl) ?_
      have rc_32_x := pp_rng v4_50
      have rc_32_y := pp_rng n_30
      refine lv_icmp_ge (tgt := 79) hx hb dX8_lays_53 (by decide) (fun c_32 => ?_) (fun c_32 => ?_)
      · skip
        have tc_32 : n_30.toInt ≤ v4_50.toInt := (fa_le _ _).mp c_32
        refine lv_iload_n hx hb dX8_lays_79 rfl (lv_at hl 1 rfl) ?_
        have hP9 := hP.sub (ws' := [(h0, .inr (6, [.ref ah, v1, v2, v3, v4, .ref ph, .ref t0, v7])), (t0, .inl (tc, 7, .inl tf)), (ph, .inl (pc, 4, .inr (.inr (.inr (.inr pf))))), (p0, .inr (0, [.int b0, .int z0, .ref n0])), (n0, .inl (nc0, 40, .inr (.inl g0))), (p1, .inr (0, [.int b1, .int z1, .ref n1])), (n1, .inl (nc1, 40, .inr (.inl g1))), (p2, .inr (0, [.int b2, .int z2, .ref n2])), (n2, .inl (nc2, 40, .inr (.inl g2))), (p3, .inr (0, [.int b3, .int z3, .ref n3])), (n3, .inl (nc3, 40, .inr (.inl g3))), (ah, .inr (4, [w0, w1, w2, w3, w4, w5, .int sc, .ref q5, w8])), (q5, .inl (c5, 7, .inr (.inl y5)))]) [0, 1, 2, 3, 4, 5, 6, 7, 8, 9, 10, 11, 12] rfl
        have hD9 := hD.sub (ws' := [(h0, .inr (6, [.ref ah, v1, v2, v3, v4, .ref ph, .ref t0, v7])), (t0, .inl (tc, 7, .inl tf)), (ph, .inl (pc, 4, .inr (.inr (.inr (.inr pf))))), (p0, .inr (0, [.int b0, .int z0, .ref n0])), (n0, .inl (nc0, 40, .inr (.inl g0))), (p1, .inr (0, [.int b1, .int z1, .ref n1])), (n1, .inl (nc1, 40, .inr (.inl g1))), (p2, .inr (0, [.int b2, .int z2, .ref n2])), (n2, .inl (nc2, 40, .inr (.inl g2))), (p3, .inr (0, [.int b3, .int z3, .ref n3])), (n3, .inl (nc3, 40, .inr (.inl g3))), (ah, .inr (4, [w0, w1, w2, w3, w4, w5, .int sc, .ref q5, w8])), (q5, .inl (c5, 7, .inr (.inl y5)))]) [0, 1, 2, 3, 4, 5, 6, 7, 8, 9, 10, 11, 12] (by decide) rfl
        have hK9 := hK.sub (tys' := [(tc, .int), (pc, .object "LampShapes$Paper"), (nc0, .long), (nc1, .long), (nc2, .long), (nc3, .long), (c5, .long)]) [0, 1, 2, 3, 4, 5, 6] rfl
        exact W.iret (v := n_30) hx hb hr (fun t ht hW => ⟨⟨n_30, (), rfl, trivial, tf, y5, by rw [ht]; exact hP9, va_K.moved hW.alike hK9, hD9⟩, hS.F ht⟩) hS.2.2 dX8_lays_80
      · skip
        have tc_32 : ¬ n_30.toInt ≤ v4_50.toInt := fun h => c_32 ((fa_le _ _).mpr h)
        refine lv_aload_n hx hb dX8_lays_56 rfl (lv_at hl 3 rfl) ?_
        refine va_get (D := (dC, dI)) (ci := 6) (v := .ref ah) (C := RX8) (T := TX8) (N := 8) hx hb hts inX8 hown hK hP 0 rfl rfl 0 (by decide) (hts _ (List.mem_of_getElem? (i := 19) rfl)) (fun _ h9 => h9) rfl dX8_lays_57 ?_
        refine va_getN (D := (dC, dI)) (ci := 4) (v := .ref q5) (C := RX6) (T := TX6) (N := 9) hx hb hts inX6 hown hK hP 11 rfl rfl 7 (by decide) (ev_nest hev 10 rfl) (fun _ h9 => h9) rfl dX8_lays_60 ?_
        refine lv_iload hx hb dX8_lays_63 (lv_at hl 0 rfl) ?_
        refine lv_aload_n hx hb dX8_lays_65 rfl (lv_at hl 2 rfl) ?_
        refine va_getN (D := (dC, dI)) (ci := 0) (v := .ref n2) (C := RX2) (T := TX2) (N := 3) hx hb hts inX2 hown hK hP 7 rfl rfl 2 (by decide) (ev_nest hev 23 rfl) (fun _ h9 => h9) rfl dX8_lays_66 ?_
        refine lv_iload hx hb dX8_lays_69 (lv_at hl 0 rfl) ?_
        refine va_lald hx hb hK hP 8 4 rfl rfl (vp_in_iff.mpr ⟨by omega, by omega⟩) dX8_lays_71 ?_
        refine lv_topl (fun n_33 en_33 => ?_)
        clear en_33
        refine va_last hx hb hK hP hD hS 12 6 rfl rfl (vp_in_iff.mpr ⟨by omega, by omega⟩) dX8_lays_72 (fun H locs hP hD hS => ?_)
        have hP : va_P (dC, dI) vwCl [(h0, .inr (6, [.ref ah, v1, v2, v3, v4, .ref ph, .ref t0, v7])), (t0, .inl (tc, 7, .inl tf)), (ph, .inl (pc, 4, .inr (.inr (.inr (.inr pf))))), (p0, .inr (0, [.int b0, .int z0, .ref n0])), (n0, .inl (nc0, 40, .inr (.inl g0))), (p1, .inr (0, [.int b1, .int z1, .ref n1])), (n1, .inl (nc1, 40, .inr (.inl g1))), (p2, .inr (0, [.int b2, .int z2, .ref n2])), (n2, .inl (nc2, 40, .inr (.inl g2))), (p3, .inr (0, [.int b3, .int z3, .ref n3])), (n3, .inl (nc3, 40, .inr (.inl g3))), (ah, .inr (4, [w0, w1, w2, w3, w4, w5, .int sc, .ref q5, w8])), (q5, .inl (c5, 7, .inr (.inl (vp_updL y5 v4_50.toNatClampNeg n_33))))] H := hP
        have hD : va_D A [(h0, .inr (6, [.ref ah, v1, v2, v3, v4, .ref ph, .ref t0, v7])), (t0, .inl (tc, 7, .inl tf)), (ph, .inl (pc, 4, .inr (.inr (.inr (.inr pf))))), (p0, .inr (0, [.int b0, .int z0, .ref n0])), (n0, .inl (nc0, 40, .inr (.inl g0))), (p1, .inr (0, [.int b1, .int z1, .ref n1])), (n1, .inl (nc1, 40, .inr (.inl g1))), (p2, .inr (0, [.int b2, .int z2, .ref n2])), (n2, .inl (nc2, 40, .inr (.inl g2))), (p3, .inr (0, [.int b3, .int z3, .ref n3])), (n3, .inl (nc3, 40, .inr (.inl g3))), (ah, .inr (4, [w0, w1, w2, w3, w4, w5, .int sc, .ref q5, w8])), (q5, .inl (c5, 7, .inr (.inl (vp_updL y5 v4_50.toNatClampNeg n_33))))] := hD
        obtain ⟨n_34, en_34⟩ : ∃ y : Int32, y = v4_50 + 1 := ⟨_, rfl⟩
        have tn_34 : n_34.toInt = v4_50.toInt + 1 := pp_add en_34 rfl rfl (by omega) (by omega)
        refine lv_iinc (v := n_34) (lv' := [(4, .int n_34), (3, .int n_30), (2, .ref p2), (0, .ref h0), (1, .int 2)]) hx hb dX8_lays_73 hl (k := 0) rfl (by rw [en_34]; rfl) (by decide) rfl (fun ls hl => ?_)
        clear en_34
        refine lv_goto (tgt := 50) hx hb dX8_lays_76 (by decide) ?_
        exact ihk_31 (n_34, (vp_updL y5 v4_50.toNatClampNeg n_33)) _ _ _ (by show (n_30.toInt - n_34.toInt).toNat < k_31; omega) ⟨(by first | omega | decide | (simp only [fa_lt, fa_le, fa_eq, and_true, true_and, and_false, false_and, not_true_eq_false, not_false_eq_true, li_0, li_1, li_2, li_3, li_4, li_5, li_6, li_7, li_8, li_9, li_10, li_12, li_15, li_16, li_20, li_30, li_34, li_38, li_40, li_63, li_64, li_65, li_78, li_120, li_1000, li_4000, li_10000, li_11077, li_255, li_65535, li_m1, li_m2, li_m1000000001, li_m1000000002, li_m1000000003, li_m1000000004, li_m1000000005, li_m1000000006, li_m1000000007, or_true, true_or, or_false, false_or, implies_true, true_implies, false_implies] <;> omega)), hP.sub [0, 1, 2, 3, 4, 5, 6, 7, 8, 9, 10, 11, 12] rfl, hD.sub [0, 1, 2, 3, 4, 5, 6, 7, 8, 9, 10, 11, 12] (by decide) rfl, hS, lv_sub hl [0, 1, 2, 3, 4] rfl⟩
    · skip
      have tc_29 : ¬ r_28.toInt = 0 := fun h => c_29 ((fa_eq _ _).mpr h)
      refine lv_aload_n hx hb dX8_lays_24 rfl (lv_at hl 1 rfl) ?_
      refine lv_ldcw hx hb hown (hts _ (List.mem_of_getElem? (i := 24) rfl)) dX8_lays_25 ?_
      have hPc := hP.sub (ws' := [(h0, .inr (6, [.ref ah, v1, v2, v3, v4, .ref ph, .ref t0, v7])), (t0, .inl (tc, 7, .inl tf))]) [0, 1] rfl
      have hKc := hK.sub (tys' := [(tc, .int)]) [0] rfl
      have hDc := hD.sub (ws' := [(h0, .inr (6, [.ref ah, v1, v2, v3, v4, .ref ph, .ref t0, v7])), (t0, .inl (tc, 7, .inl tf))]) [0, 1] (by decide) rfl
      have hFc := va_free (wc := [(h0, .inr (6, [.ref ah, v1, v2, v3, v4, .ref ph, .ref t0, v7])), (t0, .inl (tc, 7, .inl tf))]) hD hS hA [0, 1] rfl
      refine va_calli (va_runV (As := [.int (-1000000006)]) (rest := []) ⟨hx, hb, hml, hown, hts⟩ (f_missing l dC dI ad h0 (.ref ah) v1 v2 v3 v4 (.ref ph) t0 v7 tc tf s.heap.size ) (cwV 1 hts g_x_lays_f_missing_63 rfl rfl rfl (by decide +kernel) ⟨(Nat.le_of_ble_eq_true rfl), (Nat.le_of_ble_eq_true rfl)⟩) ⟨preM_blind, va_recv hKc hPc (ci := 6) (q0 := 0) rfl rfl, fun U hU hW => ⟨rfl, preM_at hU hW hPc hKc hDc hev⟩⟩ rfl rfl hl.1 rfl (lv_room (Nat.le_of_ble_eq_true rfl)) dX8_lays_28 ⟨(Nat.le_of_ble_eq_true rfl), (Nat.le_of_ble_eq_true rfl)⟩) hS (fun q _ h => hFc q h) hFc (fun r_35 u t H1 locs ht hvm hw hB hz1 hk1 hS => ?_)
      obtain ⟨tg_36, hP1, hK1, hD1⟩ := hB
      rw [ht] at hP1
      have hK1 := va_K.moved hvm.symm hK1
      obtain ⟨hP, hD⟩ := va_join (wr := [(ph, .inl (pc, 4, .inr (.inr (.inr (.inr pf))))), (p0, .inr (0, [.int b0, .int z0, .ref n0])), (n0, .inl (nc0, 40, .inr (.inl g0))), (p1, .inr (0, [.int b1, .int z1, .ref n1])), (n1, .inl (nc1, 40, .inr (.inl g1))), (p2, .inr (0, [.int b2, .int z2, .ref n2])), (n2, .inl (nc2, 40, .inr (.inl g2))), (p3, .inr (0, [.int b3, .int z3, .ref n3])), (n3, .inl (nc3, 40, .inr (.inl g3))), (ah, .inr (4, [w0, w1, w2, w3, w4, w5, .int sc, .ref q5, w8])), (q5, .inl (c5, 7, .inr (.inl f5)))]) (w1 := [(h0, .inr (6, [.ref ah, v1, v2, v3, v4, .ref ph, .ref t0, v7])), (t0, .inl (tc, 7, .inl tg_36))]) hP hD [0, 1] [2, 3, 4, 5, 6, 7, 8, 9, 10, 11, 12] rfl rfl (by decide) (by decide) hk1 hFc hP1 hD1
      generalize H1 = H at hP hS ⊢
      have hP : va_P (dC, dI) vwCl [(ph, .inl (pc, 4, .inr (.inr (.inr (.inr pf))))), (p0, .inr (0, [.int b0, .int z0, .ref n0])), (n0, .inl (nc0, 40, .inr (.inl g0))), (p1, .inr (0, [.int b1, .int z1, .ref n1])), (n1, .inl (nc1, 40, .inr (.inl g1))), (p2, .inr (0, [.int b2, .int z2, .ref n2])), (n2, .inl (nc2, 40, .inr (.inl g2))), (p3, .inr (0, [.int b3, .int z3, .ref n3])), (n3, .inl (nc3, 40, .inr (.inl g3))), (ah, .inr (4, [w0, w1, w2, w3, w4, w5, .int sc, .ref q5, w8])), (q5, .inl (c5, 7, .inr (.inl f5))), (h0, .inr (6, [.ref ah, v1, v2, v3, v4, .ref ph, .ref t0, v7])), (t0, .inl (tc, 7, .inl tg_36))] H := hP
      have hD : va_D A [(ph, .inl (pc, 4, .inr (.inr (.inr (.inr pf))))), (p0, .inr (0, [.int b0, .int z0, .ref n0])), (n0, .inl (nc0, 40, .inr (.inl g0))), (p1, .inr (0, [.int b1, .int z1, .ref n1])), (n1, .inl (nc1, 40, .inr (.inl g1))), (p2, .inr (0, [.int b2, .int z2, .ref n2])), (n2, .inl (nc2, 40, .inr (.inl g2))), (p3, .inr (0, [.int b3, .int z3, .ref n3])), (n3, .inl (nc3, 40, .inr (.inl g3))), (ah, .inr (4, [w0, w1, w2, w3, w4, w5, .int sc, .ref q5, w8])), (q5, .inl (c5, 7, .inr (.inl f5))), (h0, .inr (6, [.ref ah, v1, v2, v3, v4, .ref ph, .ref t0, v7])), (t0, .inl (tc, 7, .inl tg_36))] := hD
      subst hw
      have hP9 := hP.sub (ws' := [(h0, .inr (6, [.ref ah, v1, v2, v3, v4, .ref ph, .ref t0, v7])), (t0, .inl (tc, 7, .inl tg_36)), (ph, .inl (pc, 4, .inr (.inr (.inr (.inr pf))))), (p0, .inr (0, [.int b0, .int z0, .ref n0])), (n0, .inl (nc0, 40, .inr (.inl g0))), (p1, .inr (0, [.int b1, .int z1, .ref n1])), (n1, .inl (nc1, 40, .inr (.inl g1))), (p2, .inr (0, [.int b2, .int z2, .ref n2])), (n2, .inl (nc2, 40, .inr (.inl g2))), (p3, .inr (0, [.int b3, .int z3, .ref n3])), (n3, .inl (nc3, 40, .inr (.inl g3))), (ah, .inr (4, [w0, w1, w2, w3, w4, w5, .int sc, .ref q5, w8])), (q5, .inl (c5, 7, .inr (.inl f5)))]) [11, 12, 0, 1, 2, 3, 4, 5, 6, 7, 8, 9, 10] rfl
      have hD9 := hD.sub (ws' := [(h0, .inr (6, [.ref ah, v1, v2, v3, v4, .ref ph, .ref t0, v7])), (t0, .inl (tc, 7, .inl tg_36)), (ph, .inl (pc, 4, .inr (.inr (.inr (.inr pf))))), (p0, .inr (0, [.int b0, .int z0, .ref n0])), (n0, .inl (nc0, 40, .inr (.inl g0))), (p1, .inr (0, [.int b1, .int z1, .ref n1])), (n1, .inl (nc1, 40, .inr (.inl g1))), (p2, .inr (0, [.int b2, .int z2, .ref n2])), (n2, .inl (nc2, 40, .inr (.inl g2))), (p3, .inr (0, [.int b3, .int z3, .ref n3])), (n3, .inl (nc3, 40, .inr (.inl g3))), (ah, .inr (4, [w0, w1, w2, w3, w4, w5, .int sc, .ref q5, w8])), (q5, .inl (c5, 7, .inr (.inl f5)))]) [11, 12, 0, 1, 2, 3, 4, 5, 6, 7, 8, 9, 10] (by decide) rfl
      have hK9 := hK.sub (tys' := [(tc, .int), (pc, .object "LampShapes$Paper"), (nc0, .long), (nc1, .long), (nc2, .long), (nc3, .long), (c5, .long)]) [0, 1, 2, 3, 4, 5, 6] rfl
      exact W.iret (v := ((-1000000006) : Int32)) hx hb hr (fun t ht hW => ⟨⟨((-1000000006) : Int32), (), rfl, trivial, tg_36, f5, by rw [ht]; exact hP9, va_K.moved hW.alike hK9, hD9⟩, hS.F ht⟩) hS.2.2 dX8_lays_31
  · skip
    refine Met.ofW (cc := cX8_lays) (maxL := 5) (ret := (some .int)) (by decide) rfl ?_
    intro p e s m args below meth c s₁ B hml hv
    obtain ⟨rfl, hsz, hP, hK, hD0, hev⟩ := hv
    have hx := B.exec
    have hb := B.bytes
    have hr := B.returns
    have hts := atoms_spec (ws := w_x_lays) B.pre
    have hown : s.vm.findClass RX8 = some m.cls := findClass_of_methodNamed B.named
    have hlocks := B.notSynchronized
    have inX8 : ∀ w ∈ wsX80, w ∈ w_x_lays := fun w h => List.mem_cons_of_mem _ (List.mem_append_left _ (List.mem_append_left _ (List.mem_append_right _ h)))
    have inX2 : ∀ w ∈ wsX20, w ∈ w_x_lays := fun w h => List.mem_cons_of_mem _ (List.mem_append_left _ (List.mem_append_right _ h))
    have inX6 : ∀ w ∈ wsX60, w ∈ w_x_lays := fun w h => List.mem_cons_of_mem _ (List.mem_append_right _ h)
    subst hsz
    have hD := hD0.self (sz := s.heap.size)
    generalize hAe : va_A [(h0, .inr (6, [.ref ah, v1, v2, v3, v4, .ref ph, .ref t0, v7])), (t0, .inl (tc, 7, .inl tf)), (ph, .inl (pc, 4, .inr (.inr (.inr (.inr pf))))), (p0, .inr (0, [.int b0, .int z0, .ref n0])), (n0, .inl (nc0, 40, .inr (.inl g0))), (p1, .inr (0, [.int b1, .int z1, .ref n1])), (n1, .inl (nc1, 40, .inr (.inl g1))), (p2, .inr (0, [.int b2, .int z2, .ref n2])), (n2, .inl (nc2, 40, .inr (.inl g2))), (p3, .inr (0, [.int b3, .int z3, .ref n3])), (n3, .inl (nc3, 40, .inr (.inl g3))), (ah, .inr (4, [w0, w1, w2, w3, w4, w5, .int sc, .ref q5, w8])), (q5, .inl (c5, 7, .inr (.inl f5)))] s.heap.size = A at hD ⊢
    have hA : ∀ q : Nat, s.heap.size ≤ q → A q := fun q h => by rw [← hAe]; exact Or.inr h
    have hS : va_S A s.heap s.heap [] := va_S.rf
    have hP : va_P (dC, dI) vwCl [(h0, .inr (6, [.ref ah, v1, v2, v3, v4, .ref ph, .ref t0, v7])), (t0, .inl (tc, 7, .inl tf)), (ph, .inl (pc, 4, .inr (.inr (.inr (.inr pf))))), (p0, .inr (0, [.int b0, .int z0, .ref n0])), (n0, .inl (nc0, 40, .inr (.inl g0))), (p1, .inr (0, [.int b1, .int z1, .ref n1])), (n1, .inl (nc1, 40, .inr (.inl g1))), (p2, .inr (0, [.int b2, .int z2, .ref n2])), (n2, .inl (nc2, 40, .inr (.inl g2))), (p3, .inr (0, [.int b3, .int z3, .ref n3])), (n3, .inl (nc3, 40, .inr (.inl g3))), (ah, .inr (4, [w0, w1, w2, w3, w4, w5, .int sc, .ref q5, w8])), (q5, .inl (c5, 7, .inr (.inl f5)))] s.heap := hP
    have hl := lv_entry ([.ref h0, .int 3]) (n := 5) (Nat.le_of_ble_eq_true rfl)
    rw [lg_entry_eq]
    generalize (lg_sl ([.ref h0, .int 3]) ++ List.replicate (5 - (lg_sl ([.ref h0, .int 3])).length) Slot.unset).toArray = ls at hl ⊢
    have hl : lv_has ls 5 [(0, .ref h0), (1, .int 3)] := hl
    refine lv_aload_n hx hb dX8_lays_0 rfl (lv_at hl 0 rfl) ?_
    refine lv_iload_n hx hb dX8_lays_1 rfl (lv_at hl 1 rfl) ?_
    have hPc := hP.sub (ws' := [(h0, .inr (6, [.ref ah, v1, v2, v3, v4, .ref ph, .ref t0, v7])), (ph, .inl (pc, 4, .inr (.inr (.inr (.inr pf)))))]) [0, 2] rfl
    have hKc := hK.sub (tys' := [(pc, .object "LampShapes$Paper")]) [1] rfl
    refine va_csq (W.runV (As := [.int 3]) (rest := []) ⟨hx, hb, hml, hown, hts⟩ (c_paperAt_3 l dC dI ad h0 (.ref ah) v1 v2 v3 v4 ph (.ref t0) v7 pc pf p3 hp3) (cwV 1 hts g_x_lays_c_paperAt_3_256 rfl rfl rfl (by decide +kernel) ⟨(Nat.le_of_ble_eq_true rfl), (Nat.le_of_ble_eq_true rfl)⟩) ⟨preS_blind, va_recv hKc hPc (ci := 6) (q0 := 0) rfl rfl, fun U hU hW => ⟨rfl, preS_at hU hW hPc hKc hev⟩⟩ rfl rfl hl.1 rfl (lv_room (Nat.le_of_ble_eq_true rfl)) dX8_lays_2 ⟨(Nat.le_of_ble_eq_true rfl), (Nat.le_of_ble_eq_true rfl)⟩) (fun r_37 hw => ?_)
    subst hw
    refine pp_tv (y := .ref p3) rfl ?_
    refine lv_astore_n (lv' := [(2, .ref p3), (0, .ref h0), (1, .int 3)]) hx hb dX8_lays_5 rfl hl (by decide) rfl (fun ls hl => ?_)
    refine lv_aload_n hx hb dX8_lays_6 rfl (lv_at hl 0 rfl) ?_
    refine lv_ifnonnull (tgt := 17) hx hb dX8_lays_7 (by decide) ?_
    refine lv_aload_n hx hb dX8_lays_17 rfl (lv_at hl 0 rfl) ?_
    have hPc := hP.sub (ws' := [(p3, .inr (0, [.int b3, .int z3, .ref n3]))]) [9] rfl
    have hKc := hK.sub (tys' := []) [] rfl
    refine vp_callSi (W.runV (As := []) (rest := []) ⟨hx, hb, hml, hown, hts⟩ (p_isMissing l dC dI ad p3 b3 (.int z3) (.ref n3) ) (cwV 0 hts g_x_lays_p_isMissing_268 rfl rfl rfl (by decide +kernel) ⟨(Nat.le_of_ble_eq_true rfl), (Nat.le_of_ble_eq_true rfl)⟩) ⟨preS_blind, va_recv hKc hPc (ci := 0) (q0 := 0) rfl rfl, fun U hU hW => ⟨rfl, preS_at hU hW hPc hKc hev⟩⟩ rfl rfl hl.1 rfl (lv_room (Nat.le_of_ble_eq_true rfl)) dX8_lays_18 ⟨(Nat.le_of_ble_eq_true rfl), (Nat.le_of_ble_eq_true rfl)⟩) (fun r_38 hw => ?_)
    have hr_38 : (r_38.toInt = 1 ∧ b3.toInt = 0) ∨ (r_38.toInt = 0 ∧ ¬ b3.toInt = 0) := hw
    refine lv_if_eq (tgt := 32) hx hb dX8_lays_21 (by decide) (fun c_39 => ?_) (fun c_39 => ?_)
    · skip
      have tc_39 : r_38.toInt = 0 := (fa_eq _ _).mp c_39
      refine lv_aload_n hx hb dX8_lays_32 rfl (lv_at hl 0 rfl) ?_
      refine va_getN (D := (dC, dI)) (ci := 0) (v := .int z3) (C := RX2) (T := TX2) (N := 3) hx hb hts inX2 hown hK hP 9 rfl rfl 1 (by decide) (ev_nest hev 22 rfl) (fun _ h9 => h9) rfl dX8_lays_33 ?_
      refine lv_aload_n hx hb dX8_lays_36 rfl (lv_at hl 1 rfl) ?_
      refine va_get (D := (dC, dI)) (ci := 6) (v := .ref ah) (C := RX8) (T := TX8) (N := 8) hx hb hts inX8 hown hK hP 0 rfl rfl 0 (by decide) (hts _ (List.mem_of_getElem? (i := 19) rfl)) (fun _ h9 => h9) rfl dX8_lays_37 ?_
      refine va_getN (D := (dC, dI)) (ci := 4) (v := .int sc) (C := RX6) (T := TX6) (N := 9) hx hb hts inX6 hown hK hP 11 rfl rfl 6 (by decide) (ev_nest hev 8 rfl) (fun _ h9 => h9) rfl dX8_lays_40 ?_
      refine va_mmin hx hb (by rw [hml]; exact hl.1.symm) hown (hts _ (List.mem_of_getElem? (i := 20) rfl)) (hts _ (List.mem_of_getElem? (i := 21) rfl)) (hts _ (List.mem_of_getElem? (i := 22) rfl)) (hts _ (List.mem_of_getElem? (i := 23) rfl)) (Nat.le_of_ble_eq_true rfl) (Nat.le_of_ble_eq_true rfl) (Nat.le_of_ble_eq_true rfl) (Nat.le_of_ble_eq_true rfl) dX8_lays_43 ?_
      refine lv_topi (fun n_40 en_40 => ?_)
      have tn_40 : n_40.toInt ≤ z3.toInt ∧ n_40.toInt ≤ sc.toInt ∧ (n_40.toInt = z3.toInt ∨ n_40.toInt = sc.toInt) := pp_min en_40
      refine lv_istore_n (lv' := [(3, .int n_40), (2, .ref p3), (0, .ref h0), (1, .int 3)]) hx hb dX8_lays_46 rfl hl (by decide) rfl (fun ls hl => ?_)
      refine lv_iconst (v := 0) hx hb dX8_lays_47 (by decide) ?_
      refine lv_istore (lv' := [(4, .int 0), (3, .int n_40), (2, .ref p3), (0, .ref h0), (1, .int 3)]) hx hb dX8_lays_48 hl (by decide) rfl (fun ls hl => ?_)
      refine pp_loop (ι := Int32 × (Nat → Int64)) (fun ⟨v4_50, y5⟩ => (n_40.toInt - v4_50.toInt).toNat) (fun ⟨v4_50, y5⟩ H locs ls => (0 ≤ v4_50.toInt) ∧ va_P (dC, dI) vwCl [(h0, .inr (6, [.ref ah, v1, v2, v3, v4, .ref ph, .ref t0, v7])), (t0, .inl (tc, 7, .inl tf)), (ph, .inl (pc, 4, .inr (.inr (.inr (.inr pf))))), (p0, .inr (0, [.int b0, .int z0, .ref n0])), (n0, .inl (nc0, 40, .inr (.inl g0))), (p1, .inr (0, [.int b1, .int z1, .ref n1])), (n1, .inl (nc1, 40, .inr (.inl g1))), (p2, .inr (0, [.int b2, .int z2, .ref n2])), (n2, .inl (nc2, 40, .inr (.inl g2))), (p3, .inr (0, [.int b3, .int z3, .ref n3])), (n3, .inl (nc3, 40, .inr (.inl g3))), (ah, .inr (4, [w0, w1, w2, w3, w4, w5, .int sc, .ref q5, w8])), (q5, .inl (c5, 7, .inr (.inl y5)))] H ∧ va_D A [(h0, .inr (6, [.ref ah, v1, v2, v3, v4, .ref ph, .ref t0, v7])), (t0, .inl (tc, 7, .inl tf)), (ph, .inl (pc, 4, .inr (.inr (.inr (.inr pf))))), (p0, .inr (0, [.int b0, .int z0, .ref n0])), (n0, .inl (nc0, 40, .inr (.inl g0))), (p1, .inr (0, [.int b1, .int z1, .ref n1])), (n1, .inl (nc1, 40, .inr (.inl g1))), (p2, .inr (0, [.int b2, .int z2, .ref n2])), (n2, .inl (nc2, 40, .inr (.inl g2))), (p3, .inr (0, [.int b3, .int z3, .ref n3])), (n3, .inl (nc3, 40, .inr (.inl g3))), (ah, .inr (4, [w0, w1, w2, w3, w4, w5, .int sc, .ref q5, w8])), (q5, .inl (c5, 7, .inr (.inl y5)))] ∧ va_S A s.heap H locs ∧ lv_has ls 5 [(4, .int v4_50), (3, .int n_40), (2, .ref p3), (0, .ref h0), (1, .int 3)]) ?_ (0, f5) _ _ _ ⟨(by first | omega | decide | (simp only [fa_lt, fa_le, fa_eq, and_true, true_and, and_false, false_and, not_true_eq_false, not_false_eq_true, li_0, li_1, li_2, li_3, li_4, li_5, li_6, li_7, li_8, li_9, li_10, li_12, li_15, li_16, li_20, li_30, li_34, li_38, li_40, li_63, li_64, li_65, li_78, li_120, li_1000, li_4000, li_10000, li_11077, li_255, li_65535, li_m1, li_m2, li_m1000000001, li_m1000000002, li_m1000000003, li_m1000000004, li_m1000000005, li_m1000000006, li_m1000000007, or_true, true_or, or_false, false_or, implies_true, true_implies, false_implies] <;> omega)), hP.sub [0, 1, 2, 3, 4, 5, 6, 7, 8, 9, 10, 11, 12] rfl, hD.sub [0, 1, 2, 3, 4, 5, 6, 7, 8, 9, 10, 11, 12] (by decide) rfl, hS, lv_sub hl [0, 1, 2, 3, 4] rfl⟩
      intro k_41 ihk_41 u H locs ls hm hI
      obtain ⟨v4_50, y5⟩ := u
      obtain ⟨jk_41_0, hP, hD, hS, hl⟩ := hI
      have hmk_41 : (n_40.toInt - v4_50.toInt).toNat < k_41 + 1 := hm
      clear hm
      have jk_41_0 : 0 ≤ v4_50.toInt := jk_41_0
      have hl : lv_has ls 5 [(4, .int v4_50), (3, .int n_40), (2, .ref p3), (0, .ref h0), (1, .int 3)] := hl
      have hP : va_P (dC, dI) vwCl [(h0, .inr (6, [.ref ah, v1, v2, v3, v4, .ref ph, .ref t0, v7])), (t0, .inl (tc, 7, .inl tf)), (ph, .inl (pc, 4, .inr (.inr (.inr (.inr pf))))), (p0, .inr (0, [.int b0, .int z0, .ref n0])), (n0, .inl (nc0, 40, .inr (.inl g0))), (p1, .inr (0, [.int b1, .int z1, .ref n1])), (n1, .inl (nc1, 40, .inr (.inl g1))), (p2, .inr (0, [.int b2, .int z2, .ref n2])), (n2, .inl (nc2, 40, .inr (.inl g2))), (p3, .inr (0, [.int b3, .int z3, .ref n3])), (n3, .inl (nc3, 40, .inr (.inl g3))), (ah, .inr (4, [w0, w1, w2, w3, w4, w5, .int sc, .ref q5, w8])), (q5, .inl (c5, 7, .inr (.inl y5)))] H := hP
      have hD : va_D A [(h0, .inr (6, [.ref ah, v1, v2, v3, v4, .ref ph, .ref t0, v7])), (t0, .inl (tc, 7, .inl tf)), (ph, .inl (pc, 4, .inr (.inr (.inr (.inr pf))))), (p0, .inr (0, [.int b0, .int z0, .ref n0])), (n0, .inl (nc0, 40, .inr (.inl g0))), (p1, .inr (0, [.int b1, .int z1, .ref n1])), (n1, .inl (nc1, 40, .inr (.inl g1))), (p2, .inr (0, [.int b2, .int z2, .ref n2])), (n2, .inl (nc2, 40, .inr (.inl g2))), (p3, .inr (0, [.int b3, .int z3, .ref n3])), (n3, .inl (nc3, 40, .inr (.inl g3))), (ah, .inr (4, [w0, w1, w2, w3, w4, w5, .int sc, .ref q5, w8])), (q5, .inl (c5, 7, .inr (.inl y5)))] := hD
      refine lv_iload hx hb dX8_lays_50 (lv_at hl 0 rfl) ?_
      refine lv_iload_n hx hb dX8_lays_52 rfl (lv_at hl 1 rfl) ?_
      have rc_42_x := pp_rng v4_50
      have rc_42_y := pp_rng n_40
      refine lv_icmp_ge (tgt := 79) hx hb dX8_lays_53 (by decide) (fun c_42 => ?_) (fun c_42 => ?_)
      · skip
        have tc_42 : n_40.toInt ≤ v4_50.toInt := (fa_le _ _).mp c_42
        refine lv_iload_n hx hb dX8_lays_79 rfl (lv_at hl 1 rfl) ?_
        have hP9 := hP.sub (ws' := [(h0, .inr (6, [.ref ah, v1, v2, v3, v4, .ref ph, .ref t0, v7])), (t0, .inl (tc, 7, .inl tf)), (ph, .inl (pc, 4, .inr (.inr (.inr (.inr pf))))), (p0, .inr (0, [.int b0, .int z0, .ref n0])), (n0, .inl (nc0, 40, .inr (.inl g0))), (p1, .inr (0, [.int b1, .int z1, .ref n1])), (n1, .inl (nc1, 40, .inr (.inl g1))), (p2, .inr (0, [.int b2, .int z2, .ref n2])), (n2, .inl (nc2, 40, .inr (.inl g2))), (p3, .inr (0, [.int b3, .int z3, .ref n3])), (n3, .inl (nc3, 40, .inr (.inl g3))), (ah, .inr (4, [w0, w1, w2, w3, w4, w5, .int sc, .ref q5, w8])), (q5, .inl (c5, 7, .inr (.inl y5)))]) [0, 1, 2, 3, 4, 5, 6, 7, 8, 9, 10, 11, 12] rfl
        have hD9 := hD.sub (ws' := [(h0, .inr (6, [.ref ah, v1, v2, v3, v4, .ref ph, .ref t0, v7])), (t0, .inl (tc, 7, .inl tf)), (ph, .inl (pc, 4, .inr (.inr (.inr (.inr pf))))), (p0, .inr (0, [.int b0, .int z0, .ref n0])), (n0, .inl (nc0, 40, .inr (.inl g0))), (p1, .inr (0, [.int b1, .int z1, .ref n1])), (n1, .inl (nc1, 40, .inr (.inl g1))), (p2, .inr (0, [.int b2, .int z2, .ref n2])), (n2, .inl (nc2, 40, .inr (.inl g2))), (p3, .inr (0, [.int b3, .int z3, .ref n3])), (n3, .inl (nc3, 40, .inr (.inl g3))), (ah, .inr (4, [w0, w1, w2, w3, w4, w5, .int sc, .ref q5, w8])), (q5, .inl (c5, 7, .inr (.inl y5)))]) [0, 1, 2, 3, 4, 5, 6, 7, 8, 9, 10, 11, 12] (by decide) rfl
        have hK9 := hK.sub (tys' := [(tc, .int), (pc, .object "LampShapes$Paper"), (nc0, .long), (nc1, .long), (nc2, .long), (nc3, .long), (c5, .long)]) [0, 1, 2, 3, 4, 5, 6] rfl
        exact W.iret (v := n_40) hx hb hr (fun t ht hW => ⟨⟨n_40, (), rfl, trivial, tf, y5, by rw [ht]; exact hP9, va_K.moved hW.alike hK9, hD9⟩, hS.F ht⟩) hS.2.2 dX8_lays_80
      · skip
        have tc_42 : ¬ n_40.toInt ≤ v4_50.toInt := fun h => c_42 ((fa_le _ _).mpr h)
        refine lv_aload_n hx hb dX8_lays_56 rfl (lv_at hl 3 rfl) ?_
        refine va_get (D := (dC, dI)) (ci := 6) (v := .ref ah) (C := RX8) (T := TX8) (N := 8) hx hb hts inX8 hown hK hP 0 rfl rfl 0 (by decide) (hts _ (List.mem_of_getElem? (i := 19) rfl)) (fun _ h9 => h9) rfl dX8_lays_57 ?_
        refine va_getN (D := (dC, dI)) (ci := 4) (v := .ref q5) (C := RX6) (T := TX6) (N := 9) hx hb hts inX6 hown hK hP 11 rfl rfl 7 (by decide) (ev_nest hev 10 rfl) (fun _ h9 => h9) rfl dX8_lays_60 ?_
        refine lv_iload hx hb dX8_lays_63 (lv_at hl 0 rfl) ?_
        refine lv_aload_n hx hb dX8_lays_65 rfl (lv_at hl 2 rfl) ?_
        refine va_getN (D := (dC, dI)) (ci := 0) (v := .ref n3) (C := RX2) (T := TX2) (N := 3) hx hb hts inX2 hown hK hP 9 rfl rfl 2 (by decide) (ev_nest hev 23 rfl) (fun _ h9 => h9) rfl dX8_lays_66 ?_
        refine lv_iload hx hb dX8_lays_69 (lv_at hl 0 rfl) ?_
        refine va_lald hx hb hK hP 10 5 rfl rfl (vp_in_iff.mpr ⟨by omega, by omega⟩) dX8_lays_71 ?_
        refine lv_topl (fun n_43 en_43 => ?_)
        clear en_43
        refine va_last hx hb hK hP hD hS 12 6 rfl rfl (vp_in_iff.mpr ⟨by omega, by omega⟩) dX8_lays_72 (fun H locs hP hD hS => ?_)
        have hP : va_P (dC, dI) vwCl [(h0, .inr (6, [.ref ah, v1, v2, v3, v4, .ref ph, .ref t0, v7])), (t0, .inl (tc, 7, .inl tf)), (ph, .inl (pc, 4, .inr (.inr (.inr (.inr pf))))), (p0, .inr (0, [.int b0, .int z0, .ref n0])), (n0, .inl (nc0, 40, .inr (.inl g0))), (p1, .inr (0, [.int b1, .int z1, .ref n1])), (n1, .inl (nc1, 40, .inr (.inl g1))), (p2, .inr (0, [.int b2, .int z2, .ref n2])), (n2, .inl (nc2, 40, .inr (.inl g2))), (p3, .inr (0, [.int b3, .int z3, .ref n3])), (n3, .inl (nc3, 40, .inr (.inl g3))), (ah, .inr (4, [w0, w1, w2, w3, w4, w5, .int sc, .ref q5, w8])), (q5, .inl (c5, 7, .inr (.inl (vp_updL y5 v4_50.toNatClampNeg n_43))))] H := hP
        have hD : va_D A [(h0, .inr (6, [.ref ah, v1, v2, v3, v4, .ref ph, .ref t0, v7])), (t0, .inl (tc, 7, .inl tf)), (ph, .inl (pc, 4, .inr (.inr (.inr (.inr pf))))), (p0, .inr (0, [.int b0, .int z0, .ref n0])), (n0, .inl (nc0, 40, .inr (.inl g0))), (p1, .inr (0, [.int b1, .int z1, .ref n1])), (n1, .inl (nc1, 40, .inr (.inl g1))), (p2, .inr (0, [.int b2, .int z2, .ref n2])), (n2, .inl (nc2, 40, .inr (.inl g2))), (p3, .inr (0, [.int b3, .int z3, .ref n3])), (n3, .inl (nc3, 40, .inr (.inl g3))), (ah, .inr (4, [w0, w1, w2, w3, w4, w5, .int sc, .ref q5, w8])), (q5, .inl (c5, 7, .inr (.inl (vp_updL y5 v4_50.toNatClampNeg n_43))))] := hD
        obtain ⟨n_44, en_44⟩ : ∃ y : Int32, y = v4_50 + 1 := ⟨_, rfl⟩
        have tn_44 : n_44.toInt = v4_50.toInt + 1 := pp_add en_44 rfl rfl (by omega) (by omega)
        refine lv_iinc (v := n_44) (lv' := [(4, .int n_44), (3, .int n_40), (2, .ref p3), (0, .ref h0), (1, .int 3)]) hx hb dX8_lays_73 hl (k := 0) rfl (by rw [en_44]; rfl) (by decide) rfl (fun ls hl => ?_)
        clear en_44
        refine lv_goto (tgt := 50) hx hb dX8_lays_76 (by decide) ?_
        exact ihk_41 (n_44, (vp_updL y5 v4_50.toNatClampNeg n_43)) _ _ _ (by show (n_40.toInt - n_44.toInt).toNat < k_41; omega) ⟨(by first | omega | decide | (simp only [fa_lt, fa_le, fa_eq, and_true, true_and, and_false, false_and, not_true_eq_false, not_false_eq_true, li_0, li_1, li_2, li_3, li_4, li_5, li_6, li_7, li_8, li_9, li_10, li_12, li_15, li_16, li_20, li_30, li_34, li_38, li_40, li_63, li_64, li_65, li_78, li_120, li_1000, li_4000, li_10000, li_11077, li_255, li_65535, li_m1, li_m2, li_m1000000001, li_m1000000002, li_m1000000003, li_m1000000004, li_m1000000005, li_m1000000006, li_m1000000007, or_true, true_or, or_false, false_or, implies_true, true_implies, false_implies] <;> omega)), hP.sub [0, 1, 2, 3, 4, 5, 6, 7, 8, 9, 10, 11, 12] rfl, hD.sub [0, 1, 2, 3, 4, 5, 6, 7, 8, 9, 10, 11, 12] (by decide) rfl, hS, lv_sub hl [0, 1, 2, 3, 4] rfl⟩
    · skip
      have tc_39 : ¬ r_38.toInt = 0 := fun h => c_39 ((fa_eq _ _).mpr h)
      refine lv_aload_n hx hb dX8_lays_24 rfl (lv_at hl 1 rfl) ?_
      refine lv_ldcw hx hb hown (hts _ (List.mem_of_getElem? (i := 24) rfl)) dX8_lays_25 ?_
      have hPc := hP.sub (ws' := [(h0, .inr (6, [.ref ah, v1, v2, v3, v4, .ref ph, .ref t0, v7])), (t0, .inl (tc, 7, .inl tf))]) [0, 1] rfl
      have hKc := hK.sub (tys' := [(tc, .int)]) [0] rfl
      have hDc := hD.sub (ws' := [(h0, .inr (6, [.ref ah, v1, v2, v3, v4, .ref ph, .ref t0, v7])), (t0, .inl (tc, 7, .inl tf))]) [0, 1] (by decide) rfl
      have hFc := va_free (wc := [(h0, .inr (6, [.ref ah, v1, v2, v3, v4, .ref ph, .ref t0, v7])), (t0, .inl (tc, 7, .inl tf))]) hD hS hA [0, 1] rfl
      refine va_calli (va_runV (As := [.int (-1000000006)]) (rest := []) ⟨hx, hb, hml, hown, hts⟩ (f_missing l dC dI ad h0 (.ref ah) v1 v2 v3 v4 (.ref ph) t0 v7 tc tf s.heap.size ) (cwV 1 hts g_x_lays_f_missing_63 rfl rfl rfl (by decide +kernel) ⟨(Nat.le_of_ble_eq_true rfl), (Nat.le_of_ble_eq_true rfl)⟩) ⟨preM_blind, va_recv hKc hPc (ci := 6) (q0 := 0) rfl rfl, fun U hU hW => ⟨rfl, preM_at hU hW hPc hKc hDc hev⟩⟩ rfl rfl hl.1 rfl (lv_room (Nat.le_of_ble_eq_true rfl)) dX8_lays_28 ⟨(Nat.le_of_ble_eq_true rfl), (Nat.le_of_ble_eq_true rfl)⟩) hS (fun q _ h => hFc q h) hFc (fun r_45 u t H1 locs ht hvm hw hB hz1 hk1 hS => ?_)
      obtain ⟨tg_46, hP1, hK1, hD1⟩ := hB
      rw [ht] at hP1
      have hK1 := va_K.moved hvm.symm hK1
      obtain ⟨hP, hD⟩ := va_join (wr := [(ph, .inl (pc, 4, .inr (.inr (.inr (.inr pf))))), (p0, .inr (0, [.int b0, .int z0, .ref n0])), (n0, .inl (nc0, 40, .inr (.inl g0))), (p1, .inr (0, [.int b1, .int z1, .ref n1])), (n1, .inl (nc1, 40, .inr (.inl g1))), (p2, .inr (0, [.int b2, .int z2, .ref n2])), (n2, .inl (nc2, 40, .inr (.inl g2))), (p3, .inr (0, [.int b3, .int z3, .ref n3])), (n3, .inl (nc3, 40, .inr (.inl g3))), (ah, .inr (4, [w0, w1, w2, w3, w4, w5, .int sc, .ref q5, w8])), (q5, .inl (c5, 7, .inr (.inl f5)))]) (w1 := [(h0, .inr (6, [.ref ah, v1, v2, v3, v4, .ref ph, .ref t0, v7])), (t0, .inl (tc, 7, .inl tg_46))]) hP hD [0, 1] [2, 3, 4, 5, 6, 7, 8, 9, 10, 11, 12] rfl rfl (by decide) (by decide) hk1 hFc hP1 hD1
      generalize H1 = H at hP hS ⊢
      have hP : va_P (dC, dI) vwCl [(ph, .inl (pc, 4, .inr (.inr (.inr (.inr pf))))), (p0, .inr (0, [.int b0, .int z0, .ref n0])), (n0, .inl (nc0, 40, .inr (.inl g0))), (p1, .inr (0, [.int b1, .int z1, .ref n1])), (n1, .inl (nc1, 40, .inr (.inl g1))), (p2, .inr (0, [.int b2, .int z2, .ref n2])), (n2, .inl (nc2, 40, .inr (.inl g2))), (p3, .inr (0, [.int b3, .int z3, .ref n3])), (n3, .inl (nc3, 40, .inr (.inl g3))), (ah, .inr (4, [w0, w1, w2, w3, w4, w5, .int sc, .ref q5, w8])), (q5, .inl (c5, 7, .inr (.inl f5))), (h0, .inr (6, [.ref ah, v1, v2, v3, v4, .ref ph, .ref t0, v7])), (t0, .inl (tc, 7, .inl tg_46))] H := hP
      have hD : va_D A [(ph, .inl (pc, 4, .inr (.inr (.inr (.inr pf))))), (p0, .inr (0, [.int b0, .int z0, .ref n0])), (n0, .inl (nc0, 40, .inr (.inl g0))), (p1, .inr (0, [.int b1, .int z1, .ref n1])), (n1, .inl (nc1, 40, .inr (.inl g1))), (p2, .inr (0, [.int b2, .int z2, .ref n2])), (n2, .inl (nc2, 40, .inr (.inl g2))), (p3, .inr (0, [.int b3, .int z3, .ref n3])), (n3, .inl (nc3, 40, .inr (.inl g3))), (ah, .inr (4, [w0, w1, w2, w3, w4, w5, .int sc, .ref q5, w8])), (q5, .inl (c5, 7, .inr (.inl f5))), (h0, .inr (6, [.ref ah, v1, v2, v3, v4, .ref ph, .ref t0, v7])), (t0, .inl (tc, 7, .inl tg_46))] := hD
      subst hw
      have hP9 := hP.sub (ws' := [(h0, .inr (6, [.ref ah, v1, v2, v3, v4, .ref ph, .ref t0, v7])), (t0, .inl (tc, 7, .inl tg_46)), (ph, .inl (pc, 4, .inr (.inr (.inr (.inr pf))))), (p0, .inr (0, [.int b0, .int z0, .ref n0])), (n0, .inl (nc0, 40, .inr (.inl g0))), (p1, .inr (0, [.int b1, .int z1, .ref n1])), (n1, .inl (nc1, 40, .inr (.inl g1))), (p2, .inr (0, [.int b2, .int z2, .ref n2])), (n2, .inl (nc2, 40, .inr (.inl g2))), (p3, .inr (0, [.int b3, .int z3, .ref n3])), (n3, .inl (nc3, 40, .inr (.inl g3))), (ah, .inr (4, [w0, w1, w2, w3, w4, w5, .int sc, .ref q5, w8])), (q5, .inl (c5, 7, .inr (.inl f5)))]) [11, 12, 0, 1, 2, 3, 4, 5, 6, 7, 8, 9, 10] rfl
      have hD9 := hD.sub (ws' := [(h0, .inr (6, [.ref ah, v1, v2, v3, v4, .ref ph, .ref t0, v7])), (t0, .inl (tc, 7, .inl tg_46)), (ph, .inl (pc, 4, .inr (.inr (.inr (.inr pf))))), (p0, .inr (0, [.int b0, .int z0, .ref n0])), (n0, .inl (nc0, 40, .inr (.inl g0))), (p1, .inr (0, [.int b1, .int z1, .ref n1])), (n1, .inl (nc1, 40, .inr (.inl g1))), (p2, .inr (0, [.int b2, .int z2, .ref n2])), (n2, .inl (nc2, 40, .inr (.inl g2))), (p3, .inr (0, [.int b3, .int z3, .ref n3])), (n3, .inl (nc3, 40, .inr (.inl g3))), (ah, .inr (4, [w0, w1, w2, w3, w4, w5, .int sc, .ref q5, w8])), (q5, .inl (c5, 7, .inr (.inl f5)))]) [11, 12, 0, 1, 2, 3, 4, 5, 6, 7, 8, 9, 10] (by decide) rfl
      have hK9 := hK.sub (tys' := [(tc, .int), (pc, .object "LampShapes$Paper"), (nc0, .long), (nc1, .long), (nc2, .long), (nc3, .long), (c5, .long)]) [0, 1, 2, 3, 4, 5, 6] rfl
      exact W.iret (v := ((-1000000006) : Int32)) hx hb hr (fun t ht hW => ⟨⟨((-1000000006) : Int32), (), rfl, trivial, tg_46, f5, by rw [ht]; exact hP9, va_K.moved hW.alike hK9, hD9⟩, hS.F ht⟩) hS.2.2 dX8_lays_31

def w_x_film : List Cond := .code yX8_film cX8_film 7 (some .int) :: (([.methodLink RX8 256 yX8_paperAt, .instanceMethod yX8_paperAt, .selects RX8 yX8_paperAt yX8_paperAt, .initialized RX8, .code yX8_paperAt cX8_paperAt 2 (some (.object "LampShapes$Paper")), .constant RX8 62 (-1000000001), .methodLink RX8 63 yX8_finding, .instanceMethod yX8_finding, .selects RX8 yX8_finding yX8_finding, .code yX8_finding cX8_finding 3 (some .int), .fieldLink RX8 46 "LampShapes" "told" "[I", .fieldLink RX8 42 "LampShapes" "papers" "[LLampShapes$Paper;", .methodLink RX8 268 yX2_isMissing, .instanceMethod yX2_isMissing, .selects RX2 yX2_isMissing yX2_isMissing, .initialized RX2, .code yX2_isMissing cX2_isMissing 1 (some .boolean), .fieldLink RX2 9 "LampShapes$Paper" "bits" "I", .fieldLink RX8 10 "LampShapes" "now" "LLampShapes$Stage;", .methodLink RX8 134 yX6_darkCells, .instanceMethod yX6_darkCells, .selects RX6 yX6_darkCells yX6_darkCells, .initialized RX6, .code yX6_darkCells cX6_darkCells 4 (some .long), .methodLink RX6 88 yX6_cellsOfHold, .instanceMethod yX6_cellsOfHold, .selects RX6 yX6_cellsOfHold yX6_cellsOfHold, .code yX6_cellsOfHold cX6_cellsOfHold 3 (some .long), .fieldLink RX6 25 "LampShapes$Stage" "heldShapes" "[I", .methodLink RX6 78 yX6_hasShape, .instanceMethod yX6_hasShape, .selects RX6 yX6_hasShape yX6_hasShape, .code yX6_hasShape cX6_hasShape 2 (some .boolean), .fieldLink RX6 9 "LampShapes$Stage" "shapes" "I", .methodLink RX6 82 yX6_isTorn, .instanceMethod yX6_isTorn, .selects RX6 yX6_isTorn yX6_isTorn, .code yX6_isTorn cX6_isTorn 2 (some .boolean), .fieldLink RX6 22 "LampShapes$Stage" "tornShapes" "I", .fieldLink RX6 28 "LampShapes$Stage" "heldPlacings" "[I", .methodLink RX6 85 yX6_cellsBy, .instanceMethod yX6_cellsBy, .selects RX6 yX6_cellsBy yX6_cellsBy, .code yX6_cellsBy cX6_cellsBy 4 (some .long), .methodLink RX6 59 yX6_cornerBy, .instanceMethod yX6_cornerBy, .selects RX6 yX6_cornerBy yX6_cornerBy, .code yX6_cornerBy cX6_cornerBy 4 (some .long), .fieldLink RX6 15 "LampShapes$Stage" "kinds" "[I", .fieldLink RX6 19 "LampShapes$Stage" "points" "[I", .methodLink RX6 47 yX0_pointsBy, .static yX0_pointsBy, .initialized RX0, .code yX0_pointsBy cX0_pointsBy 3 (some .int), .methodLink RX0 15 yX0_turnedBy, .static yX0_turnedBy, .code yX0_turnedBy cX0_turnedBy 6 (some .int), .methodLink RX0 19 yX0_mirroredBy, .static yX0_mirroredBy, .code yX0_mirroredBy cX0_mirroredBy 2 (some .int), .constant RX0 31 (34952), .methodLink RX0 22 yX0_hollowed, .static yX0_hollowed, .code yX0_hollowed cX0_hollowed 5 (some .int), .constant RX0 32 (61166), .methodLink RX0 25 yX0_doubled, .static yX0_doubled, .code yX0_doubled cX0_doubled 1 (some .int), .constant RX0 33 (65535), .methodLink RX0 28 yX0_filled, .static yX0_filled, .code yX0_filled cX0_filled 6 (some .int), .methodLink RX6 53 yX1_cellsAtCorner, .static yX1_cellsAtCorner, .initialized RX1, .code yX1_cellsAtCorner cX1_cellsAtCorner 8 (some .long), .constantLong RX1 9 (771), .methodLink RX6 62 yX1_moved, .static yX1_moved, .code yX1_moved cX1_moved 6 (some .long), .constantLong RX1 13 (72340172838076673), .methodLink RX8 221 Lib.Math.min.name, .static Lib.Math.min.name, .initialized "java/lang/Math", .code Lib.Math.min.name Lib.Math.min.code 2 (some .int), .methodLink RX8 291 yX1_rowOf, .static yX1_rowOf, .code yX1_rowOf cX1_rowOf 3 (some .int), .constantLong RX1 21 (255), .methodLink RX8 275 yX2_put, .instanceMethod yX2_put, .selects RX2 yX2_put yX2_put, .code yX2_put cX2_put 4 none, .fieldLink RX2 18 "LampShapes$Paper" "numbers" "[J", .constant RX8 271 (-1000000006)] : List Cond) ++ wsX80 ++ wsX20 ++ wsX60)
set_option maxRecDepth 20000 in
theorem g_x_film_c_paperAt_lt_256 : GoodIn w_x_film (wsV RX8 256 RX8 yX8_paperAt w_c_paperAt_lt) := goodIn_r _ [1, 2, 3, 4, 5] rfl (by decide +kernel)
set_option maxRecDepth 20000 in
theorem g_x_film_f_beyond_63 : GoodIn w_x_film (wsV RX8 63 RX8 yX8_finding w_f_beyond) := goodIn_r _ [7, 8, 9, 4, 10, 6, 11, 96, 97, 98, 99, 100, 101, 102, 103] rfl (by decide +kernel)
set_option maxRecDepth 20000 in
theorem g_x_film_c_paperAt_gt_256 : GoodIn w_x_film (wsV RX8 256 RX8 yX8_paperAt w_c_paperAt_gt) := goodIn_r _ [1, 2, 3, 4, 5] rfl (by decide +kernel)
set_option maxRecDepth 20000 in
theorem g_x_film_c_paperAt_0_256 : GoodIn w_x_film (wsV RX8 256 RX8 yX8_paperAt w_c_paperAt_0) := goodIn_r _ [1, 2, 3, 4, 5, 12, 96, 97, 98, 99, 100, 101, 102, 103] rfl (by decide +kernel)
set_option maxRecDepth 20000 in
theorem g_x_film_p_isMissing_268 : GoodIn w_x_film (wsV RX8 268 RX2 yX2_isMissing w_p_isMissing) := goodIn_r _ [13, 14, 15, 16, 17, 18, 104, 105, 106] rfl (by decide +kernel)
set_option maxRecDepth 20000 in
theorem g_x_film_s_darkCells_134 : GoodIn w_x_film (wsV RX8 134 RX6 yX6_darkCells w_s_darkCells) := goodIn_r _ [20, 21, 22, 23, 24, 25, 26, 27, 23, 28, 29, 30, 31, 32, 33, 34, 35, 36, 37, 38, 39, 40, 41, 42, 43, 44, 45, 46, 47, 48, 49, 50, 51, 52, 53, 54, 55, 56, 57, 58, 59, 60, 61, 62, 63, 64, 65, 66, 67, 68, 69, 70, 71, 72, 73, 74, 75, 76, 77, 78, 79, 80, 81, 107, 108, 109, 110, 111, 112, 113, 114, 115] rfl (by decide +kernel)
set_option maxRecDepth 20000 in
theorem g_x_film_l_rowOf_291 : GoodIn w_x_film (va_wsS RX8 291 yX1_rowOf w_l_rowOf) := goodIn_r _ [86, 87, 75, 88, 89] rfl (by decide +kernel)
set_option maxRecDepth 20000 in
theorem g_x_film_p_put_275 : GoodIn w_x_film (wsV RX8 275 RX2 yX2_put w_p_put) := goodIn_r _ [90, 91, 92, 16, 93, 94, 18, 104, 105, 106] rfl (by decide +kernel)
set_option maxRecDepth 20000 in
theorem g_x_film_f_missing_63 : GoodIn w_x_film (wsV RX8 63 RX8 yX8_finding w_f_missing) := goodIn_r _ [7, 8, 9, 4, 10, 6, 11, 96, 97, 98, 99, 100, 101, 102, 103] rfl (by decide +kernel)
set_option maxRecDepth 20000 in
theorem g_x_film_c_paperAt_1_256 : GoodIn w_x_film (wsV RX8 256 RX8 yX8_paperAt w_c_paperAt_1) := goodIn_r _ [1, 2, 3, 4, 5, 12, 96, 97, 98, 99, 100, 101, 102, 103] rfl (by decide +kernel)
set_option maxRecDepth 20000 in
theorem g_x_film_c_paperAt_2_256 : GoodIn w_x_film (wsV RX8 256 RX8 yX8_paperAt w_c_paperAt_2) := goodIn_r _ [1, 2, 3, 4, 5, 12, 96, 97, 98, 99, 100, 101, 102, 103] rfl (by decide +kernel)
set_option maxRecDepth 20000 in
theorem g_x_film_c_paperAt_3_256 : GoodIn w_x_film (wsV RX8 256 RX8 yX8_paperAt w_c_paperAt_3) := goodIn_r _ [1, 2, 3, 4, 5, 12, 96, 97, 98, 99, 100, 101, 102, 103] rfl (by decide +kernel)
set_option maxHeartbeats 4000000 in
set_option maxRecDepth 100000 in
theorem x_film (l : Launch) (dC : Nat → ClassId) (dI : Nat → Nat → Nat) (ad : Nat → Nat) (h0 : Nat) (sn : Int32) (ah : Nat) (v1 : Value) (v2 : Value) (v3 : Value) (v4 : Value) (ph : Nat) (t0 : Nat) (v7 : Value) (tc : ClassId) (tf : Nat → Int32) (pc : ClassId) (pf : Nat → Option Nat) (p0 : Nat) (b0 : Int32) (z0 : Int32) (n0 : Nat) (nc0 : ClassId) (g0 : Nat → Int64) (p1 : Nat) (b1 : Int32) (z1 : Int32) (n1 : Nat) (nc1 : ClassId) (g1 : Nat → Int64) (p2 : Nat) (b2 : Int32) (z2 : Int32) (n2 : Nat) (nc2 : ClassId) (g2 : Nat → Int64) (p3 : Nat) (b3 : Int32) (z3 : Int32) (n3 : Nat) (nc3 : ClassId) (g3 : Nat → Int64) (sh : Int32) (q1 : Nat) (q2 : Nat) (tn : Int32) (q3 : Nat) (q4 : Nat) (w6 : Value) (w7 : Value) (w8 : Value) (c1 : ClassId) (f1 : Nat → Int32) (c2 : ClassId) (f2 : Nat → Int32) (c3 : ClassId) (f3 : Nat → Int32) (c4 : ClassId) (f4 : Nat → Int32) (sz : Nat) (hp0 : pf 0 = (some p0)) (hp1 : pf 1 = (some p1)) (hp2 : pf 2 = (some p2)) (hp3 : pf 3 = (some p3)) (hz0 : 0 ≤ z0.toInt ∧ z0.toInt ≤ 40) (hz1 : 0 ≤ z1.toInt ∧ z1.toInt ≤ 40) (hz2 : 0 ≤ z2.toInt ∧ z2.toInt ≤ 40) (hz3 : 0 ≤ z3.toInt ∧ z3.toInt ≤ 40) (hsh : 0 ≤ sh.toInt ∧ sh.toInt ≤ 9) : Met l yX8_film w_x_film ({ frames := 6, cells := 0, slots := 0, locals := 138 } : Room) (va_Pc [.ref h0, .int sn] (preM dC dI ad [(tc, .int), (pc, .object "LampShapes$Paper"), (nc0, .long), (nc1, .long), (nc2, .long), (nc3, .long), (c1, .int), (c2, .int), (c3, .int), (c4, .int)] [(h0, .inr (6, [.ref ah, v1, v2, v3, v4, .ref ph, .ref t0, v7])), (t0, .inl (tc, 7, .inl tf)), (ph, .inl (pc, 4, .inr (.inr (.inr (.inr pf))))), (p0, .inr (0, [.int b0, .int z0, .ref n0])), (n0, .inl (nc0, 40, .inr (.inl g0))), (p1, .inr (0, [.int b1, .int z1, .ref n1])), (n1, .inl (nc1, 40, .inr (.inl g1))), (p2, .inr (0, [.int b2, .int z2, .ref n2])), (n2, .inl (nc2, 40, .inr (.inl g2))), (p3, .inr (0, [.int b3, .int z3, .ref n3])), (n3, .inl (nc3, 40, .inr (.inl g3))), (ah, .inr (4, [.int sh, .ref q1, .ref q2, .int tn, .ref q3, .ref q4, w6, w7, w8])), (q1, .inl (c1, 9, .inl f1)), (q2, .inl (c2, 9, .inl f2)), (q3, .inl (c3, 4, .inl f3)), (q4, .inl (c4, 4, .inl f4))] sz)) (va_Qi (fun (r : Int32) (_ : Unit) => True) (fun _ t => ∃ (tg : Nat → Int32), ∃ (g0y : Nat → Int64), ∃ (g1y : Nat → Int64), ∃ (g2y : Nat → Int64), ∃ (g3y : Nat → Int64), va_P (dC, dI) vwCl [(h0, .inr (6, [.ref ah, v1, v2, v3, v4, .ref ph, .ref t0, v7])), (t0, .inl (tc, 7, .inl tg)), (ph, .inl (pc, 4, .inr (.inr (.inr (.inr pf))))), (p0, .inr (0, [.int b0, .int z0, .ref n0])), (n0, .inl (nc0, 40, .inr (.inl g0y))), (p1, .inr (0, [.int b1, .int z1, .ref n1])), (n1, .inl (nc1, 40, .inr (.inl g1y))), (p2, .inr (0, [.int b2, .int z2, .ref n2])), (n2, .inl (nc2, 40, .inr (.inl g2y))), (p3, .inr (0, [.int b3, .int z3, .ref n3])), (n3, .inl (nc3, 40, .inr (.inl g3y))), (ah, .inr (4, [.int sh, .ref q1, .ref q2, .int tn, .ref q3, .ref q4, w6, w7, w8])), (q1, .inl (c1, 9, .inl f1)), (q2, .inl (c2, 9, .inl f2)), (q3, .inl (c3, 4, .inl f3)), (q4, .inl (c4, 4, .inl f4))] t.heap ∧ va_K (dC, dI) vwCl [(tc, .int), (pc, .object "LampShapes$Paper"), (nc0, .long), (nc1, .long), (nc2, .long), (nc3, .long), (c1, .int), (c2, .int), (c3, .int), (c4, .int)] t ∧ va_D (va_A [(h0, .inr (6, [.ref ah, v1, v2, v3, v4, .ref ph, .ref t0, v7])), (t0, .inl (tc, 7, .inl tf)), (ph, .inl (pc, 4, .inr (.inr (.inr (.inr pf))))), (p0, .inr (0, [.int b0, .int z0, .ref n0])), (n0, .inl (nc0, 40, .inr (.inl g0))), (p1, .inr (0, [.int b1, .int z1, .ref n1])), (n1, .inl (nc1, 40, .inr (.inl g1))), (p2, .inr (0, [.int b2, .int z2, .ref n2])), (n2, .inl (nc2, 40, .inr (.inl g2))), (p3, .inr (0, [.int b3, .int z3, .ref n3])), (n3, .inl (nc3, 40, .inr (.inl g3))), (ah, .inr (4, [.int sh, .ref q1, .ref q2, .int tn, .ref q3, .ref q4, w6, w7, w8])), (q1, .inl (c1, 9, .inl f1)), (q2, .inl (c2, 9, .inl f2)), (q3, .inl (c3, 4, .inl f3)), (q4, .inl (c4, 4, .inl f4))] sz) [(h0, .inr (6, [.ref ah, v1, v2, v3, v4, .ref ph, .ref t0, v7])), (t0, .inl (tc, 7, .inl tg)), (ph, .inl (pc, 4, .inr (.inr (.inr (.inr pf))))), (p0, .inr (0, [.int b0, .int z0, .ref n0])), (n0, .inl (nc0, 40, .inr (.inl g0y))), (p1, .inr (0, [.int b1, .int z1, .ref n1])), (n1, .inl (nc1, 40, .inr (.inl g1y))), (p2, .inr (0, [.int b2, .int z2, .ref n2])), (n2, .inl (nc2, 40, .inr (.inl g2y))), (p3, .inr (0, [.int b3, .int z3, .ref n3])), (n3, .inl (nc3, 40, .inr (.inl g3y))), (ah, .inr (4, [.int sh, .ref q1, .ref q2, .int tn, .ref q3, .ref q4, w6, w7, w8])), (q1, .inl (c1, 9, .inl f1)), (q2, .inl (c2, 9, .inl f2)), (q3, .inl (c3, 4, .inl f3)), (q4, .inl (c4, 4, .inl f4))]) (va_A [(h0, .inr (6, [.ref ah, v1, v2, v3, v4, .ref ph, .ref t0, v7])), (t0, .inl (tc, 7, .inl tf)), (ph, .inl (pc, 4, .inr (.inr (.inr (.inr pf))))), (p0, .inr (0, [.int b0, .int z0, .ref n0])), (n0, .inl (nc0, 40, .inr (.inl g0))), (p1, .inr (0, [.int b1, .int z1, .ref n1])), (n1, .inl (nc1, 40, .inr (.inl g1))), (p2, .inr (0, [.int b2, .int z2, .ref n2])), (n2, .inl (nc2, 40, .inr (.inl g2))), (p3, .inr (0, [.int b3, .int z3, .ref n3])), (n3, .inl (nc3, 40, .inr (.inl g3))), (ah, .inr (4, [.int sh, .ref q1, .ref q2, .int tn, .ref q3, .ref q4, w6, w7, w8])), (q1, .inl (c1, 9, .inl f1)), (q2, .inl (c2, 9, .inl f2)), (q3, .inl (c3, 4, .inl f3)), (q4, .inl (c4, 4, .inl f4))] sz)) 0 0 (va_A [(h0, .inr (6, [.ref ah, v1, v2, v3, v4, .ref ph, .ref t0, v7])), (t0, .inl (tc, 7, .inl tf)), (ph, .inl (pc, 4, .inr (.inr (.inr (.inr pf))))), (p0, .inr (0, [.int b0, .int z0, .ref n0])), (n0, .inl (nc0, 40, .inr (.inl g0))), (p1, .inr (0, [.int b1, .int z1, .ref n1])), (n1, .inl (nc1, 40, .inr (.inl g1))), (p2, .inr (0, [.int b2, .int z2, .ref n2])), (n2, .inl (nc2, 40, .inr (.inl g2))), (p3, .inr (0, [.int b3, .int z3, .ref n3])), (n3, .inl (nc3, 40, .inr (.inl g3))), (ah, .inr (4, [.int sh, .ref q1, .ref q2, .int tn, .ref q3, .ref q4, w6, w7, w8])), (q1, .inl (c1, 9, .inl f1)), (q2, .inl (c2, 9, .inl f2)), (q3, .inl (c3, 4, .inl f3)), (q4, .inl (c4, 4, .inl f4))] sz) := by
  rcases pp_c_0_3 sn with hlt0 | hgt0 | rfl | rfl | rfl | rfl
  · skip
    refine Met.ofW (cc := cX8_film) (maxL := 7) (ret := (some .int)) (by decide) rfl ?_
    intro p e s m args below meth c s₁ B hml hv
    obtain ⟨rfl, hsz, hP, hK, hD0, hev⟩ := hv
    have hx := B.exec
    have hb := B.bytes
    have hr := B.returns
    have hts := atoms_spec (ws := w_x_film) B.pre
    have hown : s.vm.findClass RX8 = some m.cls := findClass_of_methodNamed B.named
    have hlocks := B.notSynchronized
    have inX8 : ∀ w ∈ wsX80, w ∈ w_x_film := fun w h => List.mem_cons_of_mem _ (List.mem_append_left _ (List.mem_append_left _ (List.mem_append_right _ h)))
    have inX2 : ∀ w ∈ wsX20, w ∈ w_x_film := fun w h => List.mem_cons_of_mem _ (List.mem_append_left _ (List.mem_append_right _ h))
    have inX6 : ∀ w ∈ wsX60, w ∈ w_x_film := fun w h => List.mem_cons_of_mem _ (List.mem_append_right _ h)
    subst hsz
    have hD := hD0.self (sz := s.heap.size)
    generalize hAe : va_A [(h0, .inr (6, [.ref ah, v1, v2, v3, v4, .ref ph, .ref t0, v7])), (t0, .inl (tc, 7, .inl tf)), (ph, .inl (pc, 4, .inr (.inr (.inr (.inr pf))))), (p0, .inr (0, [.int b0, .int z0, .ref n0])), (n0, .inl (nc0, 40, .inr (.inl g0))), (p1, .inr (0, [.int b1, .int z1, .ref n1])), (n1, .inl (nc1, 40, .inr (.inl g1))), (p2, .inr (0, [.int b2, .int z2, .ref n2])), (n2, .inl (nc2, 40, .inr (.inl g2))), (p3, .inr (0, [.int b3, .int z3, .ref n3])), (n3, .inl (nc3, 40, .inr (.inl g3))), (ah, .inr (4, [.int sh, .ref q1, .ref q2, .int tn, .ref q3, .ref q4, w6, w7, w8])), (q1, .inl (c1, 9, .inl f1)), (q2, .inl (c2, 9, .inl f2)), (q3, .inl (c3, 4, .inl f3)), (q4, .inl (c4, 4, .inl f4))] s.heap.size = A at hD ⊢
    have hA : ∀ q : Nat, s.heap.size ≤ q → A q := fun q h => by rw [← hAe]; exact Or.inr h
    have hS : va_S A s.heap s.heap [] := va_S.rf
    have hP : va_P (dC, dI) vwCl [(h0, .inr (6, [.ref ah, v1, v2, v3, v4, .ref ph, .ref t0, v7])), (t0, .inl (tc, 7, .inl tf)), (ph, .inl (pc, 4, .inr (.inr (.inr (.inr pf))))), (p0, .inr (0, [.int b0, .int z0, .ref n0])), (n0, .inl (nc0, 40, .inr (.inl g0))), (p1, .inr (0, [.int b1, .int z1, .ref n1])), (n1, .inl (nc1, 40, .inr (.inl g1))), (p2, .inr (0, [.int b2, .int z2, .ref n2])), (n2, .inl (nc2, 40, .inr (.inl g2))), (p3, .inr (0, [.int b3, .int z3, .ref n3])), (n3, .inl (nc3, 40, .inr (.inl g3))), (ah, .inr (4, [.int sh, .ref q1, .ref q2, .int tn, .ref q3, .ref q4, w6, w7, w8])), (q1, .inl (c1, 9, .inl f1)), (q2, .inl (c2, 9, .inl f2)), (q3, .inl (c3, 4, .inl f3)), (q4, .inl (c4, 4, .inl f4))] s.heap := hP
    have hl := lv_entry ([.ref h0, .int sn]) (n := 7) (Nat.le_of_ble_eq_true rfl)
    rw [lg_entry_eq]
    generalize (lg_sl ([.ref h0, .int sn]) ++ List.replicate (7 - (lg_sl ([.ref h0, .int sn])).length) Slot.unset).toArray = ls at hl ⊢
    have hl : lv_has ls 7 [(0, .ref h0), (1, .int sn)] := hl
    have thlt0 : sn.toInt < 0 := (fa_lt _ _).mp hlt0
    refine lv_aload_n hx hb dX8_film_0 rfl (lv_at hl 0 rfl) ?_
    refine lv_iload_n hx hb dX8_film_1 rfl (lv_at hl 1 rfl) ?_
    have hPc := hP.sub (ws' := [(h0, .inr (6, [.ref ah, v1, v2, v3, v4, .ref ph, .ref t0, v7]))]) [0] rfl
    have hKc := hK.sub (tys' := []) [] rfl
    refine va_csq (W.runV (As := [.int sn]) (rest := []) ⟨hx, hb, hml, hown, hts⟩ (c_paperAt_lt l dC dI ad h0 sn (.ref ah) v1 v2 v3 v4 (.ref ph) (.ref t0) v7 hlt0) (cwV 1 hts g_x_film_c_paperAt_lt_256 rfl rfl rfl (by decide +kernel) ⟨(Nat.le_of_ble_eq_true rfl), (Nat.le_of_ble_eq_true rfl)⟩) ⟨preS_blind, va_recv hKc hPc (ci := 6) (q0 := 0) rfl rfl, fun U hU hW => ⟨rfl, preS_at hU hW hPc hKc hev⟩⟩ rfl rfl hl.1 rfl (lv_room (Nat.le_of_ble_eq_true rfl)) dX8_film_2 ⟨(Nat.le_of_ble_eq_true rfl), (Nat.le_of_ble_eq_true rfl)⟩) (fun r_1 hw => ?_)
    subst hw
    refine pp_tv (y := .null) rfl ?_
    refine lv_astore_nN (lv' := [(2, .null), (0, .ref h0), (1, .int sn)]) hx hb dX8_film_5 rfl hl (by decide) rfl (fun ls hl => ?_)
    refine lv_aload_nN hx hb dX8_film_6 rfl (lv_at hl 0 rfl) ?_
    refine lv_ifnonnullN hx hb dX8_film_7 ?_
    refine lv_aload_n hx hb dX8_film_10 rfl (lv_at hl 1 rfl) ?_
    refine lv_ldc hx hb hown (hts _ (List.mem_of_getElem? (i := 6) rfl)) dX8_film_11 ?_
    have hPc := hP.sub (ws' := [(h0, .inr (6, [.ref ah, v1, v2, v3, v4, .ref ph, .ref t0, v7])), (t0, .inl (tc, 7, .inl tf))]) [0, 1] rfl
    have hKc := hK.sub (tys' := [(tc, .int)]) [0] rfl
    have hDc := hD.sub (ws' := [(h0, .inr (6, [.ref ah, v1, v2, v3, v4, .ref ph, .ref t0, v7])), (t0, .inl (tc, 7, .inl tf))]) [0, 1] (by decide) rfl
    have hFc := va_free (wc := [(h0, .inr (6, [.ref ah, v1, v2, v3, v4, .ref ph, .ref t0, v7])), (t0, .inl (tc, 7, .inl tf))]) hD hS hA [0, 1] rfl
    refine va_calli (va_runV (As := [.int (-1000000001)]) (rest := []) ⟨hx, hb, hml, hown, hts⟩ (f_beyond l dC dI ad h0 (.ref ah) v1 v2 v3 v4 (.ref ph) t0 v7 tc tf s.heap.size ) (cwV 1 hts g_x_film_f_beyond_63 rfl rfl rfl (by decide +kernel) ⟨(Nat.le_of_ble_eq_true rfl), (Nat.le_of_ble_eq_true rfl)⟩) ⟨preM_blind, va_recv hKc hPc (ci := 6) (q0 := 0) rfl rfl, fun U hU hW => ⟨rfl, preM_at hU hW hPc hKc hDc hev⟩⟩ rfl rfl hl.1 rfl (lv_room (Nat.le_of_ble_eq_true rfl)) dX8_film_13 ⟨(Nat.le_of_ble_eq_true rfl), (Nat.le_of_ble_eq_true rfl)⟩) hS (fun q _ h => hFc q h) hFc (fun r_2 u t H1 locs ht hvm hw hB hz1 hk1 hS => ?_)
    obtain ⟨tg_3, hP1, hK1, hD1⟩ := hB
    rw [ht] at hP1
    have hK1 := va_K.moved hvm.symm hK1
    obtain ⟨hP, hD⟩ := va_join (wr := [(ph, .inl (pc, 4, .inr (.inr (.inr (.inr pf))))), (p0, .inr (0, [.int b0, .int z0, .ref n0])), (n0, .inl (nc0, 40, .inr (.inl g0))), (p1, .inr (0, [.int b1, .int z1, .ref n1])), (n1, .inl (nc1, 40, .inr (.inl g1))), (p2, .inr (0, [.int b2, .int z2, .ref n2])), (n2, .inl (nc2, 40, .inr (.inl g2))), (p3, .inr (0, [.int b3, .int z3, .ref n3])), (n3, .inl (nc3, 40, .inr (.inl g3))), (ah, .inr (4, [.int sh, .ref q1, .ref q2, .int tn, .ref q3, .ref q4, w6, w7, w8])), (q1, .inl (c1, 9, .inl f1)), (q2, .inl (c2, 9, .inl f2)), (q3, .inl (c3, 4, .inl f3)), (q4, .inl (c4, 4, .inl f4))]) (w1 := [(h0, .inr (6, [.ref ah, v1, v2, v3, v4, .ref ph, .ref t0, v7])), (t0, .inl (tc, 7, .inl tg_3))]) hP hD [0, 1] [2, 3, 4, 5, 6, 7, 8, 9, 10, 11, 12, 13, 14, 15] rfl rfl (by decide) (by decide) hk1 hFc hP1 hD1
    generalize H1 = H at hP hS ⊢
    have hP : va_P (dC, dI) vwCl [(ph, .inl (pc, 4, .inr (.inr (.inr (.inr pf))))), (p0, .inr (0, [.int b0, .int z0, .ref n0])), (n0, .inl (nc0, 40, .inr (.inl g0))), (p1, .inr (0, [.int b1, .int z1, .ref n1])), (n1, .inl (nc1, 40, .inr (.inl g1))), (p2, .inr (0, [.int b2, .int z2, .ref n2])), (n2, .inl (nc2, 40, .inr (.inl g2))), (p3, .inr (0, [.int b3, .int z3, .ref n3])), (n3, .inl (nc3, 40, .inr (.inl g3))), (ah, .inr (4, [.int sh, .ref q1, .ref q2, .int tn, .ref q3, .ref q4, w6, w7, w8])), (q1, .inl (c1, 9, .inl f1)), (q2, .inl (c2, 9, .inl f2)), (q3, .inl (c3, 4, .inl f3)), (q4, .inl (c4, 4, .inl f4)), (h0, .inr (6, [.ref ah, v1, v2, v3, v4, .ref ph, .ref t0, v7])), (t0, .inl (tc, 7, .inl tg_3))] H := hP
    have hD : va_D A [(ph, .inl (pc, 4, .inr (.inr (.inr (.inr pf))))), (p0, .inr (0, [.int b0, .int z0, .ref n0])), (n0, .inl (nc0, 40, .inr (.inl g0))), (p1, .inr (0, [.int b1, .int z1, .ref n1])), (n1, .inl (nc1, 40, .inr (.inl g1))), (p2, .inr (0, [.int b2, .int z2, .ref n2])), (n2, .inl (nc2, 40, .inr (.inl g2))), (p3, .inr (0, [.int b3, .int z3, .ref n3])), (n3, .inl (nc3, 40, .inr (.inl g3))), (ah, .inr (4, [.int sh, .ref q1, .ref q2, .int tn, .ref q3, .ref q4, w6, w7, w8])), (q1, .inl (c1, 9, .inl f1)), (q2, .inl (c2, 9, .inl f2)), (q3, .inl (c3, 4, .inl f3)), (q4, .inl (c4, 4, .inl f4)), (h0, .inr (6, [.ref ah, v1, v2, v3, v4, .ref ph, .ref t0, v7])), (t0, .inl (tc, 7, .inl tg_3))] := hD
    subst hw
    have hP9 := hP.sub (ws' := [(h0, .inr (6, [.ref ah, v1, v2, v3, v4, .ref ph, .ref t0, v7])), (t0, .inl (tc, 7, .inl tg_3)), (ph, .inl (pc, 4, .inr (.inr (.inr (.inr pf))))), (p0, .inr (0, [.int b0, .int z0, .ref n0])), (n0, .inl (nc0, 40, .inr (.inl g0))), (p1, .inr (0, [.int b1, .int z1, .ref n1])), (n1, .inl (nc1, 40, .inr (.inl g1))), (p2, .inr (0, [.int b2, .int z2, .ref n2])), (n2, .inl (nc2, 40, .inr (.inl g2))), (p3, .inr (0, [.int b3, .int z3, .ref n3])), (n3, .inl (nc3, 40, .inr (.inl g3))), (ah, .inr (4, [.int sh, .ref q1, .ref q2, .int tn, .ref q3, .ref q4, w6, w7, w8])), (q1, .inl (c1, 9, .inl f1)), (q2, .inl (c2, 9, .inl f2)), (q3, .inl (c3, 4, .inl f3)), (q4, .inl (c4, 4, .inl f4))]) [14, 15, 0, 1, 2, 3, 4, 5, 6, 7, 8, 9, 10, 11, 12, 13] rfl
    have hD9 := hD.sub (ws' := [(h0, .inr (6, [.ref ah, v1, v2, v3, v4, .ref ph, .ref t0, v7])), (t0, .inl (tc, 7, .inl tg_3)), (ph, .inl (pc, 4, .inr (.inr (.inr (.inr pf))))), (p0, .inr (0, [.int b0, .int z0, .ref n0])), (n0, .inl (nc0, 40, .inr (.inl g0))), (p1, .inr (0, [.int b1, .int z1, .ref n1])), (n1, .inl (nc1, 40, .inr (.inl g1))), (p2, .inr (0, [.int b2, .int z2, .ref n2])), (n2, .inl (nc2, 40, .inr (.inl g2))), (p3, .inr (0, [.int b3, .int z3, .ref n3])), (n3, .inl (nc3, 40, .inr (.inl g3))), (ah, .inr (4, [.int sh, .ref q1, .ref q2, .int tn, .ref q3, .ref q4, w6, w7, w8])), (q1, .inl (c1, 9, .inl f1)), (q2, .inl (c2, 9, .inl f2)), (q3, .inl (c3, 4, .inl f3)), (q4, .inl (c4, 4, .inl f4))]) [14, 15, 0, 1, 2, 3, 4, 5, 6, 7, 8, 9, 10, 11, 12, 13] (by decide) rfl
    have hK9 := hK.sub (tys' := [(tc, .int), (pc, .object "LampShapes$Paper"), (nc0, .long), (nc1, .long), (nc2, .long), (nc3, .long), (c1, .int), (c2, .int), (c3, .int), (c4, .int)]) [0, 1, 2, 3, 4, 5, 6, 7, 8, 9] rfl
    exact W.iret (v := ((-1000000001) : Int32)) hx hb hr (fun t ht hW => ⟨⟨((-1000000001) : Int32), (), rfl, trivial, tg_3, g0, g1, g2, g3, by rw [ht]; exact hP9, va_K.moved hW.alike hK9, hD9⟩, hS.F ht⟩) hS.2.2 dX8_film_16
  · skip
    refine Met.ofW (cc := cX8_film) (maxL := 7) (ret := (some .int)) (by decide) rfl ?_
    intro p e s m args below meth c s₁ B hml hv
    obtain ⟨rfl, hsz, hP, hK, hD0, hev⟩ := hv
    have hx := B.exec
    have hb := B.bytes
    have hr := B.returns
    have hts := atoms_spec (ws := w_x_film) B.pre
    have hown : s.vm.findClass RX8 = some m.cls := findClass_of_methodNamed B.named
    have hlocks := B.notSynchronized
    have inX8 : ∀ w ∈ wsX80, w ∈ w_x_film := fun w h => List.mem_cons_of_mem _ (List.mem_append_left _ (List.mem_append_left _ (List.mem_append_right _ h)))
    have inX2 : ∀ w ∈ wsX20, w ∈ w_x_film := fun w h => List.mem_cons_of_mem _ (List.mem_append_left _ (List.mem_append_right _ h))
    have inX6 : ∀ w ∈ wsX60, w ∈ w_x_film := fun w h => List.mem_cons_of_mem _ (List.mem_append_right _ h)
    subst hsz
    have hD := hD0.self (sz := s.heap.size)
    generalize hAe : va_A [(h0, .inr (6, [.ref ah, v1, v2, v3, v4, .ref ph, .ref t0, v7])), (t0, .inl (tc, 7, .inl tf)), (ph, .inl (pc, 4, .inr (.inr (.inr (.inr pf))))), (p0, .inr (0, [.int b0, .int z0, .ref n0])), (n0, .inl (nc0, 40, .inr (.inl g0))), (p1, .inr (0, [.int b1, .int z1, .ref n1])), (n1, .inl (nc1, 40, .inr (.inl g1))), (p2, .inr (0, [.int b2, .int z2, .ref n2])), (n2, .inl (nc2, 40, .inr (.inl g2))), (p3, .inr (0, [.int b3, .int z3, .ref n3])), (n3, .inl (nc3, 40, .inr (.inl g3))), (ah, .inr (4, [.int sh, .ref q1, .ref q2, .int tn, .ref q3, .ref q4, w6, w7, w8])), (q1, .inl (c1, 9, .inl f1)), (q2, .inl (c2, 9, .inl f2)), (q3, .inl (c3, 4, .inl f3)), (q4, .inl (c4, 4, .inl f4))] s.heap.size = A at hD ⊢
    have hA : ∀ q : Nat, s.heap.size ≤ q → A q := fun q h => by rw [← hAe]; exact Or.inr h
    have hS : va_S A s.heap s.heap [] := va_S.rf
    have hP : va_P (dC, dI) vwCl [(h0, .inr (6, [.ref ah, v1, v2, v3, v4, .ref ph, .ref t0, v7])), (t0, .inl (tc, 7, .inl tf)), (ph, .inl (pc, 4, .inr (.inr (.inr (.inr pf))))), (p0, .inr (0, [.int b0, .int z0, .ref n0])), (n0, .inl (nc0, 40, .inr (.inl g0))), (p1, .inr (0, [.int b1, .int z1, .ref n1])), (n1, .inl (nc1, 40, .inr (.inl g1))), (p2, .inr (0, [.int b2, .int z2, .ref n2])), (n2, .inl (nc2, 40, .inr (.inl g2))), (p3, .inr (0, [.int b3, .int z3, .ref n3])), (n3, .inl (nc3, 40, .inr (.inl g3))), (ah, .inr (4, [.int sh, .ref q1, .ref q2, .int tn, .ref q3, .ref q4, w6, w7, w8])), (q1, .inl (c1, 9, .inl f1)), (q2, .inl (c2, 9, .inl f2)), (q3, .inl (c3, 4, .inl f3)), (q4, .inl (c4, 4, .inl f4))] s.heap := hP
    have hl := lv_entry ([.ref h0, .int sn]) (n := 7) (Nat.le_of_ble_eq_true rfl)
    rw [lg_entry_eq]
    generalize (lg_sl ([.ref h0, .int sn]) ++ List.replicate (7 - (lg_sl ([.ref h0, .int sn])).length) Slot.unset).toArray = ls at hl ⊢
    have hl : lv_has ls 7 [(0, .ref h0), (1, .int sn)] := hl
    have thgt0 : 3 < sn.toInt := (fa_lt _ _).mp hgt0
    refine lv_aload_n hx hb dX8_film_0 rfl (lv_at hl 0 rfl) ?_
    refine lv_iload_n hx hb dX8_film_1 rfl (lv_at hl 1 rfl) ?_
    have hPc := hP.sub (ws' := [(h0, .inr (6, [.ref ah, v1, v2, v3, v4, .ref ph, .ref t0, v7]))]) [0] rfl
    have hKc := hK.sub (tys' := []) [] rfl
    refine va_csq (W.runV (As := [.int sn]) (rest := []) ⟨hx, hb, hml, hown, hts⟩ (c_paperAt_gt l dC dI ad h0 sn (.ref ah) v1 v2 v3 v4 (.ref ph) (.ref t0) v7 hgt0) (cwV 1 hts g_x_film_c_paperAt_gt_256 rfl rfl rfl (by decide +kernel) ⟨(Nat.le_of_ble_eq_true rfl), (Nat.le_of_ble_eq_true rfl)⟩) ⟨preS_blind, va_recv hKc hPc (ci := 6) (q0 := 0) rfl rfl, fun U hU hW => ⟨rfl, preS_at hU hW hPc hKc hev⟩⟩ rfl rfl hl.1 rfl (lv_room (Nat.le_of_ble_eq_true rfl)) dX8_film_2 ⟨(Nat.le_of_ble_eq_true rfl), (Nat.le_of_ble_eq_true rfl)⟩) (fun r_4 hw => ?_)
    subst hw
    refine pp_tv (y := .null) rfl ?_
    refine lv_astore_nN (lv' := [(2, .null), (0, .ref h0), (1, .int sn)]) hx hb dX8_film_5 rfl hl (by decide) rfl (fun ls hl => ?_)
    refine lv_aload_nN hx hb dX8_film_6 rfl (lv_at hl 0 rfl) ?_
    refine lv_ifnonnullN hx hb dX8_film_7 ?_
    refine lv_aload_n hx hb dX8_film_10 rfl (lv_at hl 1 rfl) ?_
    refine lv_ldc hx hb hown (hts _ (List.mem_of_getElem? (i := 6) rfl)) dX8_film_11 ?_
    have hPc := hP.sub (ws' := [(h0, .inr (6, [.ref ah, v1, v2, v3, v4, .ref ph, .ref t0, v7])), (t0, .inl (tc, 7, .inl tf))]) [0, 1] rfl
    have hKc := hK.sub (tys' := [(tc, .int)]) [0] rfl
    have hDc := hD.sub (ws' := [(h0, .inr (6, [.ref ah, v1, v2, v3, v4, .ref ph, .ref t0, v7])), (t0, .inl (tc, 7, .inl tf))]) [0, 1] (by decide) rfl
    have hFc := va_free (wc := [(h0, .inr (6, [.ref ah, v1, v2, v3, v4, .ref ph, .ref t0, v7])), (t0, .inl (tc, 7, .inl tf))]) hD hS hA [0, 1] rfl
    refine va_calli (va_runV (As := [.int (-1000000001)]) (rest := []) ⟨hx, hb, hml, hown, hts⟩ (f_beyond l dC dI ad h0 (.ref ah) v1 v2 v3 v4 (.ref ph) t0 v7 tc tf s.heap.size ) (cwV 1 hts g_x_film_f_beyond_63 rfl rfl rfl (by decide +kernel) ⟨(Nat.le_of_ble_eq_true rfl), (Nat.le_of_ble_eq_true rfl)⟩) ⟨preM_blind, va_recv hKc hPc (ci := 6) (q0 := 0) rfl rfl, fun U hU hW => ⟨rfl, preM_at hU hW hPc hKc hDc hev⟩⟩ rfl rfl hl.1 rfl (lv_room (Nat.le_of_ble_eq_true rfl)) dX8_film_13 ⟨(Nat.le_of_ble_eq_true rfl), (Nat.le_of_ble_eq_true rfl)⟩) hS (fun q _ h => hFc q h) hFc (fun r_5 u t H1 locs ht hvm hw hB hz1 hk1 hS => ?_)
    obtain ⟨tg_6, hP1, hK1, hD1⟩ := hB
    rw [ht] at hP1
    have hK1 := va_K.moved hvm.symm hK1
    obtain ⟨hP, hD⟩ := va_join (wr := [(ph, .inl (pc, 4, .inr (.inr (.inr (.inr pf))))), (p0, .inr (0, [.int b0, .int z0, .ref n0])), (n0, .inl (nc0, 40, .inr (.inl g0))), (p1, .inr (0, [.int b1, .int z1, .ref n1])), (n1, .inl (nc1, 40, .inr (.inl g1))), (p2, .inr (0, [.int b2, .int z2, .ref n2])), (n2, .inl (nc2, 40, .inr (.inl g2))), (p3, .inr (0, [.int b3, .int z3, .ref n3])), (n3, .inl (nc3, 40, .inr (.inl g3))), (ah, .inr (4, [.int sh, .ref q1, .ref q2, .int tn, .ref q3, .ref q4, w6, w7, w8])), (q1, .inl (c1, 9, .inl f1)), (q2, .inl (c2, 9, .inl f2)), (q3, .inl (c3, 4, .inl f3)), (q4, .inl (c4, 4, .inl f4))]) (w1 := [(h0, .inr (6, [.ref ah, v1, v2, v3, v4, .ref ph, .ref t0, v7])), (t0, .inl (tc, 7, .inl tg_6))]) hP hD [0, 1] [2, 3, 4, 5, 6, 7, 8, 9, 10, 11, 12, 13, 14, 15] rfl rfl (by decide) (by decide) hk1 hFc hP1 hD1
    generalize H1 = H at hP hS ⊢
    have hP : va_P (dC, dI) vwCl [(ph, .inl (pc, 4, .inr (.inr (.inr (.inr pf))))), (p0, .inr (0, [.int b0, .int z0, .ref n0])), (n0, .inl (nc0, 40, .inr (.inl g0))), (p1, .inr (0, [.int b1, .int z1, .ref n1])), (n1, .inl (nc1, 40, .inr (.inl g1))), (p2, .inr (0, [.int b2, .int z2, .ref n2])), (n2, .inl (nc2, 40, .inr (.inl g2))), (p3, .inr (0, [.int b3, .int z3, .ref n3])), (n3, .inl (nc3, 40, .inr (.inl g3))), (ah, .inr (4, [.int sh, .ref q1, .ref q2, .int tn, .ref q3, .ref q4, w6, w7, w8])), (q1, .inl (c1, 9, .inl f1)), (q2, .inl (c2, 9, .inl f2)), (q3, .inl (c3, 4, .inl f3)), (q4, .inl (c4, 4, .inl f4)), (h0, .inr (6, [.ref ah, v1, v2, v3, v4, .ref ph, .ref t0, v7])), (t0, .inl (tc, 7, .inl tg_6))] H := hP
    have hD : va_D A [(ph, .inl (pc, 4, .inr (.inr (.inr (.inr pf))))), (p0, .inr (0, [.int b0, .int z0, .ref n0])), (n0, .inl (nc0, 40, .inr (.inl g0))), (p1, .inr (0, [.int b1, .int z1, .ref n1])), (n1, .inl (nc1, 40, .inr (.inl g1))), (p2, .inr (0, [.int b2, .int z2, .ref n2])), (n2, .inl (nc2, 40, .inr (.inl g2))), (p3, .inr (0, [.int b3, .int z3, .ref n3])), (n3, .inl (nc3, 40, .inr (.inl g3))), (ah, .inr (4, [.int sh, .ref q1, .ref q2, .int tn, .ref q3, .ref q4, w6, w7, w8])), (q1, .inl (c1, 9, .inl f1)), (q2, .inl (c2, 9, .inl f2)), (q3, .inl (c3, 4, .inl f3)), (q4, .inl (c4, 4, .inl f4)), (h0, .inr (6, [.ref ah, v1, v2, v3, v4, .ref ph, .ref t0, v7])), (t0, .inl (tc, 7, .inl tg_6))] := hD
    subst hw
    have hP9 := hP.sub (ws' := [(h0, .inr (6, [.ref ah, v1, v2, v3, v4, .ref ph, .ref t0, v7])), (t0, .inl (tc, 7, .inl tg_6)), (ph, .inl (pc, 4, .inr (.inr (.inr (.inr pf))))), (p0, .inr (0, [.int b0, .int z0, .ref n0])), (n0, .inl (nc0, 40, .inr (.inl g0))), (p1, .inr (0, [.int b1, .int z1, .ref n1])), (n1, .inl (nc1, 40, .inr (.inl g1))), (p2, .inr (0, [.int b2, .int z2, .ref n2])), (n2, .inl (nc2, 40, .inr (.inl g2))), (p3, .inr (0, [.int b3, .int z3, .ref n3])), (n3, .inl (nc3, 40, .inr (.inl g3))), (ah, .inr (4, [.int sh, .ref q1, .ref q2, .int tn, .ref q3, .ref q4, w6, w7, w8])), (q1, .inl (c1, 9, .inl f1)), (q2, .inl (c2, 9, .inl f2)), (q3, .inl (c3, 4, .inl f3)), (q4, .inl (c4, 4, .inl f4))]) [14, 15, 0, 1, 2, 3, 4, 5, 6, 7, 8, 9, 10, 11, 12, 13] rfl
    have hD9 := hD.sub (ws' := [(h0, .inr (6, [.ref ah, v1, v2, v3, v4, .ref ph, .ref t0, v7])), (t0, .inl (tc, 7, .inl tg_6)), (ph, .inl (pc, 4, .inr (.inr (.inr (.inr pf))))), (p0, .inr (0, [.int b0, .int z0, .ref n0])), (n0, .inl (nc0, 40, .inr (.inl g0))), (p1, .inr (0, [.int b1, .int z1, .ref n1])), (n1, .inl (nc1, 40, .inr (.inl g1))), (p2, .inr (0, [.int b2, .int z2, .ref n2])), (n2, .inl (nc2, 40, .inr (.inl g2))), (p3, .inr (0, [.int b3, .int z3, .ref n3])), (n3, .inl (nc3, 40, .inr (.inl g3))), (ah, .inr (4, [.int sh, .ref q1, .ref q2, .int tn, .ref q3, .ref q4, w6, w7, w8])), (q1, .inl (c1, 9, .inl f1)), (q2, .inl (c2, 9, .inl f2)), (q3, .inl (c3, 4, .inl f3)), (q4, .inl (c4, 4, .inl f4))]) [14, 15, 0, 1, 2, 3, 4, 5, 6, 7, 8, 9, 10, 11, 12, 13] (by decide) rfl
    have hK9 := hK.sub (tys' := [(tc, .int), (pc, .object "LampShapes$Paper"), (nc0, .long), (nc1, .long), (nc2, .long), (nc3, .long), (c1, .int), (c2, .int), (c3, .int), (c4, .int)]) [0, 1, 2, 3, 4, 5, 6, 7, 8, 9] rfl
    exact W.iret (v := ((-1000000001) : Int32)) hx hb hr (fun t ht hW => ⟨⟨((-1000000001) : Int32), (), rfl, trivial, tg_6, g0, g1, g2, g3, by rw [ht]; exact hP9, va_K.moved hW.alike hK9, hD9⟩, hS.F ht⟩) hS.2.2 dX8_film_16
  · skip
    refine Met.ofW (cc := cX8_film) (maxL := 7) (ret := (some .int)) (by decide) rfl ?_
    intro p e s m args below meth c s₁ B hml hv
    obtain ⟨rfl, hsz, hP, hK, hD0, hev⟩ := hv
    have hx := B.exec
    have hb := B.bytes
    have hr := B.returns
    have hts := atoms_spec (ws := w_x_film) B.pre
    have hown : s.vm.findClass RX8 = some m.cls := findClass_of_methodNamed B.named
    have hlocks := B.notSynchronized
    have inX8 : ∀ w ∈ wsX80, w ∈ w_x_film := fun w h => List.mem_cons_of_mem _ (List.mem_append_left _ (List.mem_append_left _ (List.mem_append_right _ h)))
    have inX2 : ∀ w ∈ wsX20, w ∈ w_x_film := fun w h => List.mem_cons_of_mem _ (List.mem_append_left _ (List.mem_append_right _ h))
    have inX6 : ∀ w ∈ wsX60, w ∈ w_x_film := fun w h => List.mem_cons_of_mem _ (List.mem_append_right _ h)
    subst hsz
    have hD := hD0.self (sz := s.heap.size)
    generalize hAe : va_A [(h0, .inr (6, [.ref ah, v1, v2, v3, v4, .ref ph, .ref t0, v7])), (t0, .inl (tc, 7, .inl tf)), (ph, .inl (pc, 4, .inr (.inr (.inr (.inr pf))))), (p0, .inr (0, [.int b0, .int z0, .ref n0])), (n0, .inl (nc0, 40, .inr (.inl g0))), (p1, .inr (0, [.int b1, .int z1, .ref n1])), (n1, .inl (nc1, 40, .inr (.inl g1))), (p2, .inr (0, [.int b2, .int z2, .ref n2])), (n2, .inl (nc2, 40, .inr (.inl g2))), (p3, .inr (0, [.int b3, .int z3, .ref n3])), (n3, .inl (nc3, 40, .inr (.inl g3))), (ah, .inr (4, [.int sh, .ref q1, .ref q2, .int tn, .ref q3, .ref q4, w6, w7, w8])), (q1, .inl (c1, 9, .inl f1)), (q2, .inl (c2, 9, .inl f2)), (q3, .inl (c3, 4, .inl f3)), (q4, .inl (c4, 4, .inl f4))] s.heap.size = A at hD ⊢
    have hA : ∀ q : Nat, s.heap.size ≤ q → A q := fun q h => by rw [← hAe]; exact Or.inr h
    have hS : va_S A s.heap s.heap [] := va_S.rf
    have hP : va_P (dC, dI) vwCl [(h0, .inr (6, [.ref ah, v1, v2, v3, v4, .ref ph, .ref t0, v7])), (t0, .inl (tc, 7, .inl tf)), (ph, .inl (pc, 4, .inr (.inr (.inr (.inr pf))))), (p0, .inr (0, [.int b0, .int z0, .ref n0])), (n0, .inl (nc0, 40, .inr (.inl g0))), (p1, .inr (0, [.int b1, .int z1, .ref n1])), (n1, .inl (nc1, 40, .inr (.inl g1))), (p2, .inr (0, [.int b2, .int z2, .ref n2])), (n2, .inl (nc2, 40, .inr (.inl g2))), (p3, .inr (0, [.int b3, .int z3, .ref n3])), (n3, .inl (nc3, 40, .inr (.inl g3))), (ah, .inr (4, [.int sh, .ref q1, .ref q2, .int tn, .ref q3, .ref q4, w6, w7, w8])), (q1, .inl (c1, 9, .inl f1)), (q2, .inl (c2, 9, .inl f2)), (q3, .inl (c3, 4, .inl f3)), (q4, .inl (c4, 4, .inl f4))] s.heap := hP
    have hl := lv_entry ([.ref h0, .int 0]) (n := 7) (Nat.le_of_ble_eq_true rfl)
    rw [lg_entry_eq]
    generalize (lg_sl ([.ref h0, .int 0]) ++ List.replicate (7 - (lg_sl ([.ref h0, .int 0])).length) Slot.unset).toArray = ls at hl ⊢
    have hl : lv_has ls 7 [(0, .ref h0), (1, .int 0)] := hl
    refine lv_aload_n hx hb dX8_film_0 rfl (lv_at hl 0 rfl) ?_
    refine lv_iload_n hx hb dX8_film_1 rfl (lv_at hl 1 rfl) ?_
    have hPc := hP.sub (ws' := [(h0, .inr (6, [.ref ah, v1, v2, v3, v4, .ref ph, .ref t0, v7])), (ph, .inl (pc, 4, .inr (.inr (.inr (.inr pf)))))]) [0, 2] rfl
    have hKc := hK.sub (tys' := [(pc, .object "LampShapes$Paper")]) [1] rfl
    refine va_csq (W.runV (As := [.int 0]) (rest := []) ⟨hx, hb, hml, hown, hts⟩ (c_paperAt_0 l dC dI ad h0 (.ref ah) v1 v2 v3 v4 ph (.ref t0) v7 pc pf p0 hp0) (cwV 1 hts g_x_film_c_paperAt_0_256 rfl rfl rfl (by decide +kernel) ⟨(Nat.le_of_ble_eq_true rfl), (Nat.le_of_ble_eq_true rfl)⟩) ⟨preS_blind, va_recv hKc hPc (ci := 6) (q0 := 0) rfl rfl, fun U hU hW => ⟨rfl, preS_at hU hW hPc hKc hev⟩⟩ rfl rfl hl.1 rfl (lv_room (Nat.le_of_ble_eq_true rfl)) dX8_film_2 ⟨(Nat.le_of_ble_eq_true rfl), (Nat.le_of_ble_eq_true rfl)⟩) (fun r_7 hw => ?_)
    subst hw
    refine pp_tv (y := .ref p0) rfl ?_
    refine lv_astore_n (lv' := [(2, .ref p0), (0, .ref h0), (1, .int 0)]) hx hb dX8_film_5 rfl hl (by decide) rfl (fun ls hl => ?_)
    refine lv_aload_n hx hb dX8_film_6 rfl (lv_at hl 0 rfl) ?_
    refine lv_ifnonnull (tgt := 17) hx hb dX8_film_7 (by decide) ?_
    refine lv_aload_n hx hb dX8_film_17 rfl (lv_at hl 0 rfl) ?_
    have hPc := hP.sub (ws' := [(p0, .inr (0, [.int b0, .int z0, .ref n0]))]) [3] rfl
    have hKc := hK.sub (tys' := []) [] rfl
    refine vp_callSi (W.runV (As := []) (rest := []) ⟨hx, hb, hml, hown, hts⟩ (p_isMissing l dC dI ad p0 b0 (.int z0) (.ref n0) ) (cwV 0 hts g_x_film_p_isMissing_268 rfl rfl rfl (by decide +kernel) ⟨(Nat.le_of_ble_eq_true rfl), (Nat.le_of_ble_eq_true rfl)⟩) ⟨preS_blind, va_recv hKc hPc (ci := 0) (q0 := 0) rfl rfl, fun U hU hW => ⟨rfl, preS_at hU hW hPc hKc hev⟩⟩ rfl rfl hl.1 rfl (lv_room (Nat.le_of_ble_eq_true rfl)) dX8_film_18 ⟨(Nat.le_of_ble_eq_true rfl), (Nat.le_of_ble_eq_true rfl)⟩) (fun r_8 hw => ?_)
    have hr_8 : (r_8.toInt = 1 ∧ b0.toInt = 0) ∨ (r_8.toInt = 0 ∧ ¬ b0.toInt = 0) := hw
    refine lv_if_eq (tgt := 32) hx hb dX8_film_21 (by decide) (fun c_9 => ?_) (fun c_9 => ?_)
    · skip
      have tc_9 : r_8.toInt = 0 := (fa_eq _ _).mp c_9
      refine lv_aload_n hx hb dX8_film_32 rfl (lv_at hl 1 rfl) ?_
      refine va_get (D := (dC, dI)) (ci := 6) (v := .ref ah) (C := RX8) (T := TX8) (N := 8) hx hb hts inX8 hown hK hP 0 rfl rfl 0 (by decide) (hts _ (List.mem_of_getElem? (i := 19) rfl)) (fun _ h9 => h9) rfl dX8_film_33 ?_
      have hPc := hP.sub (ws' := [(ah, .inr (4, [.int sh, .ref q1, .ref q2, .int tn, .ref q3, .ref q4, w6, w7, w8])), (q1, .inl (c1, 9, .inl f1)), (q2, .inl (c2, 9, .inl f2)), (q3, .inl (c3, 4, .inl f3)), (q4, .inl (c4, 4, .inl f4))]) [11, 12, 13, 14, 15] rfl
      have hKc := hK.sub (tys' := [(c1, .int), (c2, .int), (c3, .int), (c4, .int)]) [6, 7, 8, 9] rfl
      refine vp_callSl (W.runV (As := []) (rest := []) ⟨hx, hb, hml, hown, hts⟩ (s_darkCells l dC dI ad ah sh q1 q2 tn q3 q4 w6 w7 w8 c1 f1 c2 f2 c3 f3 c4 f4 hsh) (cwV 0 hts g_x_film_s_darkCells_134 rfl rfl rfl (by decide +kernel) ⟨(Nat.le_of_ble_eq_true rfl), (Nat.le_of_ble_eq_true rfl)⟩) ⟨preS_blind, va_recv hKc hPc (ci := 4) (q0 := 0) rfl rfl, fun U hU hW => ⟨rfl, preS_at hU hW hPc hKc hev⟩⟩ rfl rfl hl.1 rfl (lv_room (Nat.le_of_ble_eq_true rfl)) dX8_film_36 ⟨(Nat.le_of_ble_eq_true rfl), (Nat.le_of_ble_eq_true rfl)⟩) (fun r_10 hw => ?_)
      refine lv_lstore_n (lv' := [(3, .long r_10), (2, .ref p0), (0, .ref h0), (1, .int 0)]) hx hb dX8_film_39 rfl hl (by decide) rfl (fun ls hl => ?_)
      refine lv_aload_n hx hb dX8_film_40 rfl (lv_at hl 1 rfl) ?_
      refine va_getN (D := (dC, dI)) (ci := 0) (v := .int z0) (C := RX2) (T := TX2) (N := 3) hx hb hts inX2 hown hK hP 3 rfl rfl 1 (by decide) (ev_nest hev 22 rfl) (fun _ h9 => h9) rfl dX8_film_41 ?_
      refine lv_bipush (v := 8) hx hb dX8_film_44 (by decide) ?_
      refine va_mmin hx hb (by rw [hml]; exact hl.1.symm) hown (hts _ (List.mem_of_getElem? (i := 82) rfl)) (hts _ (List.mem_of_getElem? (i := 83) rfl)) (hts _ (List.mem_of_getElem? (i := 84) rfl)) (hts _ (List.mem_of_getElem? (i := 85) rfl)) (Nat.le_of_ble_eq_true rfl) (Nat.le_of_ble_eq_true rfl) (Nat.le_of_ble_eq_true rfl) (Nat.le_of_ble_eq_true rfl) dX8_film_46 ?_
      refine lv_topi (fun n_11 en_11 => ?_)
      have tn_11 : n_11.toInt ≤ z0.toInt ∧ n_11.toInt ≤ 8 ∧ (n_11.toInt = z0.toInt ∨ n_11.toInt = 8) := pp_min en_11
      refine lv_istore (lv' := [(5, .int n_11), (3, .long r_10), (2, .ref p0), (0, .ref h0), (1, .int 0)]) hx hb dX8_film_49 hl (by decide) rfl (fun ls hl => ?_)
      refine lv_iconst (v := 0) hx hb dX8_film_51 (by decide) ?_
      refine lv_istore (lv' := [(6, .int 0), (5, .int n_11), (3, .long r_10), (2, .ref p0), (0, .ref h0), (1, .int 0)]) hx hb dX8_film_52 hl (by decide) rfl (fun ls hl => ?_)
      refine pp_loop (ι := Int32 × (Nat → Int64) × (Nat → Int64) × (Nat → Int64) × (Nat → Int64)) (fun ⟨v6_54, y0, y1, y2, y3⟩ => (n_11.toInt - v6_54.toInt).toNat) (fun ⟨v6_54, y0, y1, y2, y3⟩ H locs ls => (0 ≤ v6_54.toInt) ∧ va_P (dC, dI) vwCl [(h0, .inr (6, [.ref ah, v1, v2, v3, v4, .ref ph, .ref t0, v7])), (t0, .inl (tc, 7, .inl tf)), (ph, .inl (pc, 4, .inr (.inr (.inr (.inr pf))))), (p0, .inr (0, [.int b0, .int z0, .ref n0])), (n0, .inl (nc0, 40, .inr (.inl y0))), (p1, .inr (0, [.int b1, .int z1, .ref n1])), (n1, .inl (nc1, 40, .inr (.inl y1))), (p2, .inr (0, [.int b2, .int z2, .ref n2])), (n2, .inl (nc2, 40, .inr (.inl y2))), (p3, .inr (0, [.int b3, .int z3, .ref n3])), (n3, .inl (nc3, 40, .inr (.inl y3))), (ah, .inr (4, [.int sh, .ref q1, .ref q2, .int tn, .ref q3, .ref q4, w6, w7, w8])), (q1, .inl (c1, 9, .inl f1)), (q2, .inl (c2, 9, .inl f2)), (q3, .inl (c3, 4, .inl f3)), (q4, .inl (c4, 4, .inl f4))] H ∧ va_D A [(h0, .inr (6, [.ref ah, v1, v2, v3, v4, .ref ph, .ref t0, v7])), (t0, .inl (tc, 7, .inl tf)), (ph, .inl (pc, 4, .inr (.inr (.inr (.inr pf))))), (p0, .inr (0, [.int b0, .int z0, .ref n0])), (n0, .inl (nc0, 40, .inr (.inl y0))), (p1, .inr (0, [.int b1, .int z1, .ref n1])), (n1, .inl (nc1, 40, .inr (.inl y1))), (p2, .inr (0, [.int b2, .int z2, .ref n2])), (n2, .inl (nc2, 40, .inr (.inl y2))), (p3, .inr (0, [.int b3, .int z3, .ref n3])), (n3, .inl (nc3, 40, .inr (.inl y3))), (ah, .inr (4, [.int sh, .ref q1, .ref q2, .int tn, .ref q3, .ref q4, w6, w7, w8])), (q1, .inl (c1, 9, .inl f1)), (q2, .inl (c2, 9, .inl f2)), (q3, .inl (c3, 4, .inl f3)), (q4, .inl (c4, 4, .inl f4))] ∧ va_S A s.heap H locs ∧ lv_has ls 7 [(6, .int v6_54), (5, .int n_11), (3, .long r_10), (2, .ref p0), (0, .ref h0), (1, .int 0)]) ?_ (0, g0, g1, g2, g3) _ _ _ ⟨(by first | omega | decide | (simp only [fa_lt, fa_le, fa_eq, and_true, true_and, and_false, false_and, not_true_eq_false, not_false_eq_true, li_0, li_1, li_2, li_3, li_4, li_5, li_6, li_7, li_8, li_9, li_10, li_12, li_15, li_16, li_20, li_30, li_34, li_38, li_40, li_63, li_64, li_65, li_78, li_120, li_1000, li_4000, li_10000, li_11077, li_255, li_65535, li_m1, li_m2, li_m1000000001, li_m1000000002, li_m1000000003, li_m1000000004, li_m1000000005, li_m1000000006, li_m1000000007, or_true, true_or, or_false, false_or, implies_true, true_implies, false_implies] <;> omega)), hP.sub [0, 1, 2, 3, 4, 5, 6, 7, 8, 9, 10, 11, 12, 13, 14, 15] rfl, hD.sub [0, 1, 2, 3, 4, 5, 6, 7, 8, 9, 10, 11, 12, 13, 14, 15] (by decide) rfl, hS, lv_sub hl [0, 1, 2, 3, 4, 5] rfl⟩
      intro k_12 ihk_12 u H locs ls hm hI
      obtain ⟨v6_54, y0, y1, y2, y3⟩ := u
      obtain ⟨jk_12_0, hP, hD, hS, hl⟩ := hI
      have hmk_12 : (n_11.toInt - v6_54.toInt).toNat < k_12 + 1 := hm
      clear hm
      have jk_12_0 : 0 ≤ v6_54.toInt := jk_12_0
      have hl : lv_has ls 7 [(6, .int v6_54), (5, .int n_11), (3, .long r_10), (2, .ref p0), (0, .ref h0), (1, .int 0)] := hl
      have hP : va_P (dC, dI) vwCl [(h0, .inr (6, [.ref ah, v1, v2, v3, v4, .ref ph, .ref t0, v7])), (t0, .inl (tc, 7, .inl tf)), (ph, .inl (pc, 4, .inr (.inr (.inr (.inr pf))))), (p0, .inr (0, [.int b0, .int z0, .ref n0])), (n0, .inl (nc0, 40, .inr (.inl y0))), (p1, .inr (0, [.int b1, .int z1, .ref n1])), (n1, .inl (nc1, 40, .inr (.inl y1))), (p2, .inr (0, [.int b2, .int z2, .ref n2])), (n2, .inl (nc2, 40, .inr (.inl y2))), (p3, .inr (0, [.int b3, .int z3, .ref n3])), (n3, .inl (nc3, 40, .inr (.inl y3))), (ah, .inr (4, [.int sh, .ref q1, .ref q2, .int tn, .ref q3, .ref q4, w6, w7, w8])), (q1, .inl (c1, 9, .inl f1)), (q2, .inl (c2, 9, .inl f2)), (q3, .inl (c3, 4, .inl f3)), (q4, .inl (c4, 4, .inl f4))] H := hP
      have hD : va_D A [(h0, .inr (6, [.ref ah, v1, v2, v3, v4, .ref ph, .ref t0, v7])), (t0, .inl (tc, 7, .inl tf)), (ph, .inl (pc, 4, .inr (.inr (.inr (.inr pf))))), (p0, .inr (0, [.int b0, .int z0, .ref n0])), (n0, .inl (nc0, 40, .inr (.inl y0))), (p1, .inr (0, [.int b1, .int z1, .ref n1])), (n1, .inl (nc1, 40, .inr (.inl y1))), (p2, .inr (0, [.int b2, .int z2, .ref n2])), (n2, .inl (nc2, 40, .inr (.inl y2))), (p3, .inr (0, [.int b3, .int z3, .ref n3])), (n3, .inl (nc3, 40, .inr (.inl y3))), (ah, .inr (4, [.int sh, .ref q1, .ref q2, .int tn, .ref q3, .ref q4, w6, w7, w8])), (q1, .inl (c1, 9, .inl f1)), (q2, .inl (c2, 9, .inl f2)), (q3, .inl (c3, 4, .inl f3)), (q4, .inl (c4, 4, .inl f4))] := hD
      refine lv_iload hx hb dX8_film_54 (lv_at hl 0 rfl) ?_
      refine lv_iload hx hb dX8_film_56 (lv_at hl 1 rfl) ?_
      have rc_13_x := pp_rng v6_54
      have rc_13_y := pp_rng n_11
      refine lv_icmp_ge (tgt := 80) hx hb dX8_film_58 (by decide) (fun c_13 => ?_) (fun c_13 => ?_)
      · skip
        have tc_13 : n_11.toInt ≤ v6_54.toInt := (fa_le _ _).mp c_13
        refine lv_iload hx hb dX8_film_80 (lv_at hl 1 rfl) ?_
        have hP9 := hP.sub (ws' := [(h0, .inr (6, [.ref ah, v1, v2, v3, v4, .ref ph, .ref t0, v7])), (t0, .inl (tc, 7, .inl tf)), (ph, .inl (pc, 4, .inr (.inr (.inr (.inr pf))))), (p0, .inr (0, [.int b0, .int z0, .ref n0])), (n0, .inl (nc0, 40, .inr (.inl y0))), (p1, .inr (0, [.int b1, .int z1, .ref n1])), (n1, .inl (nc1, 40, .inr (.inl y1))), (p2, .inr (0, [.int b2, .int z2, .ref n2])), (n2, .inl (nc2, 40, .inr (.inl y2))), (p3, .inr (0, [.int b3, .int z3, .ref n3])), (n3, .inl (nc3, 40, .inr (.inl y3))), (ah, .inr (4, [.int sh, .ref q1, .ref q2, .int tn, .ref q3, .ref q4, w6, w7, w8])), (q1, .inl (c1, 9, .inl f1)), (q2, .inl (c2, 9, .inl f2)), (q3, .inl (c3, 4, .inl f3)), (q4, .inl (c4, 4, .inl f4))]) [0, 1, 2, 3, 4, 5, 6, 7, 8, 9, 10, 11, 12, 13, 14, 15] rfl
        have hD9 := hD.sub (ws' := [(h0, .inr (6, [.ref ah, v1, v2, v3, v4, .ref ph, .ref t0, v7])), (t0, .inl (tc, 7, .inl tf)), (ph, .inl (pc, 4, .inr (.inr (.inr (.inr pf))))), (p0, .inr (0, [.int b0, .int z0, .ref n0])), (n0, .inl (nc0, 40, .inr (.inl y0))), (p1, .inr (0, [.int b1, .int z1, .ref n1])), (n1, .inl (nc1, 40, .inr (.inl y1))), (p2, .inr (0, [.int b2, .int z2, .ref n2])), (n2, .inl (nc2, 40, .inr (.inl y2))), (p3, .inr (0, [.int b3, .int z3, .ref n3])), (n3, .inl (nc3, 40, .inr (.inl y3))), (ah, .inr (4, [.int sh, .ref q1, .ref q2, .int tn, .ref q3, .ref q4, w6, w7, w8])), (q1, .inl (c1, 9, .inl f1)), (q2, .inl (c2, 9, .inl f2)), (q3, .inl (c3, 4, .inl f3)), (q4, .inl (c4, 4, .inl f4))]) [0, 1, 2, 3, 4, 5, 6, 7, 8, 9, 10, 11, 12, 13, 14, 15] (by decide) rfl
        have hK9 := hK.sub (tys' := [(tc, .int), (pc, .object "LampShapes$Paper"), (nc0, .long), (nc1, .long), (nc2, .long), (nc3, .long), (c1, .int), (c2, .int), (c3, .int), (c4, .int)]) [0, 1, 2, 3, 4, 5, 6, 7, 8, 9] rfl
        exact W.iret (v := n_11) hx hb hr (fun t ht hW => ⟨⟨n_11, (), rfl, trivial, tf, y0, y1, y2, y3, by rw [ht]; exact hP9, va_K.moved hW.alike hK9, hD9⟩, hS.F ht⟩) hS.2.2 dX8_film_82
      · skip
        have tc_13 : ¬ n_11.toInt ≤ v6_54.toInt := fun h => c_13 ((fa_le _ _).mpr h)
        refine lv_aload_n hx hb dX8_film_61 rfl (lv_at hl 3 rfl) ?_
        refine lv_iload hx hb dX8_film_62 (lv_at hl 0 rfl) ?_
        refine lv_lload_n hx hb dX8_film_64 rfl (lv_at hl 2 rfl) ?_
        refine lv_iload hx hb dX8_film_65 (lv_at hl 0 rfl) ?_
        have hPc := hP.sub (ws' := []) [] rfl
        have hKc := hK.sub (tys' := []) [] rfl
        refine vp_callSi (W.runS (As := [.long r_10, .int v6_54]) (rest := [.int v6_54, .ref p0]) ⟨hx, hb, hml, hown, hts⟩ (l_rowOf l dC dI ad r_10 v6_54 ) (va_cwS 2 hts g_x_film_l_rowOf_291 rfl rfl rfl (by decide +kernel) ⟨(Nat.le_of_ble_eq_true rfl), (Nat.le_of_ble_eq_true rfl)⟩) ⟨preS_blind, fun U hU hW => ⟨rfl, preS_at hU hW hPc hKc hev⟩⟩ rfl rfl hl.1 rfl (lv_room (Nat.le_of_ble_eq_true rfl)) dX8_film_67 ⟨(Nat.le_of_ble_eq_true rfl), (Nat.le_of_ble_eq_true rfl)⟩) (fun r_14 hw => ?_)
        obtain ⟨n_15, en_15⟩ : ∃ z : Int64, z = r_14.toInt64 := ⟨_, rfl⟩
        refine lv_i2l (v := n_15) hx hb dX8_film_70 en_15.symm ?_
        clear en_15
        have hPc := hP.sub (ws' := [(p0, .inr (0, [.int b0, .int z0, .ref n0])), (n0, .inl (nc0, 40, .inr (.inl y0)))]) [3, 4] rfl
        have hKc := hK.sub (tys' := [(nc0, .long)]) [2] rfl
        have hDc := hD.sub (ws' := [(p0, .inr (0, [.int b0, .int z0, .ref n0])), (n0, .inl (nc0, 40, .inr (.inl y0)))]) [3, 4] (by decide) rfl
        have hFc := va_free (wc := [(p0, .inr (0, [.int b0, .int z0, .ref n0])), (n0, .inl (nc0, 40, .inr (.inl y0)))]) hD hS hA [3, 4] rfl
        refine va_callv (va_runV (As := [.int v6_54, .long n_15]) (rest := []) ⟨hx, hb, hml, hown, hts⟩ (p_put l dC dI ad p0 v6_54 n_15 b0 (.int z0) n0 nc0 y0 H.size (by first | omega | decide | (simp only [fa_lt, fa_le, fa_eq, and_true, true_and, and_false, false_and, not_true_eq_false, not_false_eq_true, li_0, li_1, li_2, li_3, li_4, li_5, li_6, li_7, li_8, li_9, li_10, li_12, li_15, li_16, li_20, li_30, li_34, li_38, li_40, li_63, li_64, li_65, li_78, li_120, li_1000, li_4000, li_10000, li_11077, li_255, li_65535, li_m1, li_m2, li_m1000000001, li_m1000000002, li_m1000000003, li_m1000000004, li_m1000000005, li_m1000000006, li_m1000000007, or_true, true_or, or_false, false_or, implies_true, true_implies, false_implies] <;> omega))) (cwV 2 hts g_x_film_p_put_275 rfl rfl rfl (by decide +kernel) ⟨(Nat.le_of_ble_eq_true rfl), (Nat.le_of_ble_eq_true rfl)⟩) ⟨preM_blind, va_recv hKc hPc (ci := 0) (q0 := 0) rfl rfl, fun U hU hW => ⟨rfl, preM_at hU hW hPc hKc hDc hev⟩⟩ rfl rfl hl.1 rfl (lv_room (Nat.le_of_ble_eq_true rfl)) dX8_film_71 ⟨(Nat.le_of_ble_eq_true rfl), (Nat.le_of_ble_eq_true rfl)⟩) hS (fun q _ h => hFc q h) hFc (fun u t H1 locs ht hvm hw hB hz1 hk1 hS => ?_)
        obtain ⟨g_17, hP1, hK1, hD1⟩ := hB
        rw [ht] at hP1
        have hK1 := va_K.moved hvm.symm hK1
        obtain ⟨hP, hD⟩ := va_join (wr := [(h0, .inr (6, [.ref ah, v1, v2, v3, v4, .ref ph, .ref t0, v7])), (t0, .inl (tc, 7, .inl tf)), (ph, .inl (pc, 4, .inr (.inr (.inr (.inr pf))))), (p1, .inr (0, [.int b1, .int z1, .ref n1])), (n1, .inl (nc1, 40, .inr (.inl y1))), (p2, .inr (0, [.int b2, .int z2, .ref n2])), (n2, .inl (nc2, 40, .inr (.inl y2))), (p3, .inr (0, [.int b3, .int z3, .ref n3])), (n3, .inl (nc3, 40, .inr (.inl y3))), (ah, .inr (4, [.int sh, .ref q1, .ref q2, .int tn, .ref q3, .ref q4, w6, w7, w8])), (q1, .inl (c1, 9, .inl f1)), (q2, .inl (c2, 9, .inl f2)), (q3, .inl (c3, 4, .inl f3)), (q4, .inl (c4, 4, .inl f4))]) (w1 := [(p0, .inr (0, [.int b0, .int z0, .ref n0])), (n0, .inl (nc0, 40, .inr (.inl g_17)))]) hP hD [3, 4] [0, 1, 2, 5, 6, 7, 8, 9, 10, 11, 12, 13, 14, 15] rfl rfl (by decide) (by decide) hk1 hFc hP1 hD1
        generalize H1 = H at hP hS ⊢
        have hP : va_P (dC, dI) vwCl [(h0, .inr (6, [.ref ah, v1, v2, v3, v4, .ref ph, .ref t0, v7])), (t0, .inl (tc, 7, .inl tf)), (ph, .inl (pc, 4, .inr (.inr (.inr (.inr pf))))), (p1, .inr (0, [.int b1, .int z1, .ref n1])), (n1, .inl (nc1, 40, .inr (.inl y1))), (p2, .inr (0, [.int b2, .int z2, .ref n2])), (n2, .inl (nc2, 40, .inr (.inl y2))), (p3, .inr (0, [.int b3, .int z3, .ref n3])), (n3, .inl (nc3, 40, .inr (.inl y3))), (ah, .inr (4, [.int sh, .ref q1, .ref q2, .int tn, .ref q3, .ref q4, w6, w7, w8])), (q1, .inl (c1, 9, .inl f1)), (q2, .inl (c2, 9, .inl f2)), (q3, .inl (c3, 4, .inl f3)), (q4, .inl (c4, 4, .inl f4)), (p0, .inr (0, [.int b0, .int z0, .ref n0])), (n0, .inl (nc0, 40, .inr (.inl g_17)))] H := hP
        have hD : va_D A [(h0, .inr (6, [.ref ah, v1, v2, v3, v4, .ref ph, .ref t0, v7])), (t0, .inl (tc, 7, .inl tf)), (ph, .inl (pc, 4, .inr (.inr (.inr (.inr pf))))), (p1, .inr (0, [.int b1, .int z1, .ref n1])), (n1, .inl (nc1, 40, .inr (.inl y1))), (p2, .inr (0, [.int b2, .int z2, .ref n2])), (n2, .inl (nc2, 40, .inr (.inl y2))), (p3, .inr (0, [.int b3, .int z3, .ref n3])), (n3, .inl (nc3, 40, .inr (.inl y3))), (ah, .inr (4, [.int sh, .ref q1, .ref q2, .int tn, .ref q3, .ref q4, w6, w7, w8])), (q1, .inl (c1, 9, .inl f1)), (q2, .inl (c2, 9, .inl f2)), (q3, .inl (c3, 4, .inl f3)), (q4, .inl (c4, 4, .inl f4)), (p0, .inr (0, [.int b0, .int z0, .ref n0])), (n0, .inl (nc0, 40, .inr (.inl g_17)))] := hD
        obtain ⟨n_18, en_18⟩ : ∃ y : Int32, y = v6_54 + 1 := ⟨_, rfl⟩
        have tn_18 : n_18.toInt = v6_54.toInt + 1 := pp_add en_18 rfl rfl (by omega) (by omega)
        refine lv_iinc (v := n_18) (lv' := [(6, .int n_18), (5, .int n_11), (3, .long r_10), (2, .ref p0), (0, .ref h0), (1, .int 0)]) hx hb dX8_film_74 hl (k := 0) rfl (by rw [en_18]; rfl) (by decide) rfl (fun ls hl => ?_)
        clear en_18
        refine lv_goto (tgt := 54) hx hb dX8_film_77 (by decide) ?_
        exact ihk_12 (n_18, g_17, y1, y2, y3) _ _ _ (by show (n_11.toInt - n_18.toInt).toNat < k_12; omega) ⟨(by first | omega | decide | (simp only [fa_lt, fa_le, fa_eq, and_true, true_and, and_false, false_and, not_true_eq_false, not_false_eq_true, li_0, li_1, li_2, li_3, li_4, li_5, li_6, li_7, li_8, li_9, li_10, li_12, li_15, li_16, li_20, li_30, li_34, li_38, li_40, li_63, li_64, li_65, li_78, li_120, li_1000, li_4000, li_10000, li_11077, li_255, li_65535, li_m1, li_m2, li_m1000000001, li_m1000000002, li_m1000000003, li_m1000000004, li_m1000000005, li_m1000000006, li_m1000000007, or_true, true_or, or_false, false_or, implies_true, true_implies, false_implies] <;> omega)), hP.sub [0, 1, 2, 14, 15, 3, 4, 5, 6, 7, 8, 9, 10, 11, 12, 13] rfl, hD.sub [0, 1, 2, 14, 15, 3, 4, 5, 6, 7, 8, 9, 10, 11, 12, 13] (by decide) rfl, hS, lv_sub hl [0, 1, 2, 3, 4, 5] rfl⟩
    · skip
      have tc_9 : ¬ r_8.toInt = 0 := fun h => c_9 ((fa_eq _ _).mpr h)
      refine lv_aload_n hx hb dX8_film_24 rfl (lv_at hl 1 rfl) ?_
      refine lv_ldcw hx hb hown (hts _ (List.mem_of_getElem? (i := 95) rfl)) dX8_film_25 ?_
      have hPc := hP.sub (ws' := [(h0, .inr (6, [.ref ah, v1, v2, v3, v4, .ref ph, .ref t0, v7])), (t0, .inl (tc, 7, .inl tf))]) [0, 1] rfl
      have hKc := hK.sub (tys' := [(tc, .int)]) [0] rfl
      have hDc := hD.sub (ws' := [(h0, .inr (6, [.ref ah, v1, v2, v3, v4, .ref ph, .ref t0, v7])), (t0, .inl (tc, 7, .inl tf))]) [0, 1] (by decide) rfl
      have hFc := va_free (wc := [(h0, .inr (6, [.ref ah, v1, v2, v3, v4, .ref ph, .ref t0, v7])), (t0, .inl (tc, 7, .inl tf))]) hD hS hA [0, 1] rfl
      refine va_calli (va_runV (As := [.int (-1000000006)]) (rest := []) ⟨hx, hb, hml, hown, hts⟩ (f_missing l dC dI ad h0 (.ref ah) v1 v2 v3 v4 (.ref ph) t0 v7 tc tf s.heap.size ) (cwV 1 hts g_x_film_f_missing_63 rfl rfl rfl (by decide +kernel) ⟨(Nat.le_of_ble_eq_true rfl), (Nat.le_of_ble_eq_true rfl)⟩) ⟨preM_blind, va_recv hKc hPc (ci := 6) (q0 := 0) rfl rfl, fun U hU hW => ⟨rfl, preM_at hU hW hPc hKc hDc hev⟩⟩ rfl rfl hl.1 rfl (lv_room (Nat.le_of_ble_eq_true rfl)) dX8_film_28 ⟨(Nat.le_of_ble_eq_true rfl), (Nat.le_of_ble_eq_true rfl)⟩) hS (fun q _ h => hFc q h) hFc (fun r_19 u t H1 locs ht hvm hw hB hz1 hk1 hS => ?_)
      obtain ⟨tg_20, hP1, hK1, hD1⟩ := hB
      rw [ht] at hP1
      have hK1 := va_K.moved hvm.symm hK1
      obtain ⟨hP, hD⟩ := va_join (wr := [(ph, .inl (pc, 4, .inr (.inr (.inr (.inr pf))))), (p0, .inr (0, [.int b0, .int z0, .ref n0])), (n0, .inl (nc0, 40, .inr (.inl g0))), (p1, .inr (0, [.int b1, .int z1, .ref n1])), (n1, .inl (nc1, 40, .inr (.inl g1))), (p2, .inr (0, [.int b2, .int z2, .ref n2])), (n2, .inl (nc2, 40, .inr (.inl g2))), (p3, .inr (0, [.int b3, .int z3, .ref n3])), (n3, .inl (nc3, 40, .inr (.inl g3))), (ah, .inr (4, [.int sh, .ref q1, .ref q2, .int tn, .ref q3, .ref q4, w6, w7, w8])), (q1, .inl (c1, 9, .inl f1)), (q2, .inl (c2, 9, .inl f2)), (q3, .inl (c3, 4, .inl f3)), (q4, .inl (c4, 4, .inl f4))]) (w1 := [(h0, .inr (6, [.ref ah, v1, v2, v3, v4, .ref ph, .ref t0, v7])), (t0, .inl (tc, 7, .inl tg_20))]) hP hD [0, 1] [2, 3, 4, 5, 6, 7, 8, 9, 10, 11, 12, 13, 14, 15] rfl rfl (by decide) (by decide) hk1 hFc hP1 hD1
      generalize H1 = H at hP hS ⊢
      have hP : va_P (dC, dI) vwCl [(ph, .inl (pc, 4, .inr (.inr (.inr (.inr pf))))), (p0, .inr (0, [.int b0, .int z0, .ref n0])), (n0, .inl (nc0, 40, .inr (.inl g0))), (p1, .inr (0, [.int b1, .int z1, .ref n1])), (n1, .inl (nc1, 40, .inr (.inl g1))), (p2, .inr (0, [.int b2, .int z2, .ref n2])), (n2, .inl (nc2, 40, .inr (.inl g2))), (p3, .inr (0, [.int b3, .int z3, .ref n3])), (n3, .inl (nc3, 40, .inr (.inl g3))), (ah, .inr (4, [.int sh, .ref q1, .ref q2, .int tn, .ref q3, .ref q4, w6, w7, w8])), (q1, .inl (c1, 9, .inl f1)), (q2, .inl (c2, 9, .inl f2)), (q3, .inl (c3, 4, .inl f3)), (q4, .inl (c4, 4, .inl f4)), (h0, .inr (6, [.ref ah, v1, v2, v3, v4, .ref ph, .ref t0, v7])), (t0, .inl (tc, 7, .inl tg_20))] H := hP
      have hD : va_D A [(ph, .inl (pc, 4, .inr (.inr (.inr (.inr pf))))), (p0, .inr (0, [.int b0, .int z0, .ref n0])), (n0, .inl (nc0, 40, .inr (.inl g0))), (p1, .inr (0, [.int b1, .int z1, .ref n1])), (n1, .inl (nc1, 40, .inr (.inl g1))), (p2, .inr (0, [.int b2, .int z2, .ref n2])), (n2, .inl (nc2, 40, .inr (.inl g2))), (p3, .inr (0, [.int b3, .int z3, .ref n3])), (n3, .inl (nc3, 40, .inr (.inl g3))), (ah, .inr (4, [.int sh, .ref q1, .ref q2, .int tn, .ref q3, .ref q4, w6, w7, w8])), (q1, .inl (c1, 9, .inl f1)), (q2, .inl (c2, 9, .inl f2)), (q3, .inl (c3, 4, .inl f3)), (q4, .inl (c4, 4, .inl f4)), (h0, .inr (6, [.ref ah, v1, v2, v3, v4, .ref ph, .ref t0, v7])), (t0, .inl (tc, 7, .inl tg_20))] := hD
      subst hw
      have hP9 := hP.sub (ws' := [(h0, .inr (6, [.ref ah, v1, v2, v3, v4, .ref ph, .ref t0, v7])), (t0, .inl (tc, 7, .inl tg_20)), (ph, .inl (pc, 4, .inr (.inr (.inr (.inr pf))))), (p0, .inr (0, [.int b0, .int z0, .ref n0])), (n0, .inl (nc0, 40, .inr (.inl g0))), (p1, .inr (0, [.int b1, .int z1, .ref n1])), (n1, .inl (nc1, 40, .inr (.inl g1))), (p2, .inr (0, [.int b2, .int z2, .ref n2])), (n2, .inl (nc2, 40, .inr (.inl g2))), (p3, .inr (0, [.int b3, .int z3, .ref n3])), (n3, .inl (nc3, 40, .inr (.inl g3))), (ah, .inr (4, [.int sh, .ref q1, .ref q2, .int tn, .ref q3, .ref q4, w6, w7, w8])), (q1, .inl (c1, 9, .inl f1)), (q2, .inl (c2, 9, .inl f2)), (q3, .inl (c3, 4, .inl f3)), (q4, .inl (c4, 4, .inl f4))]) [14, 15, 0, 1, 2, 3, 4, 5, 6, 7, 8, 9, 10, 11, 12, 13] rfl
      have hD9 := hD.sub (ws' := [(h0, .inr (6, [.ref ah, v1, v2, v3, v4, .ref ph, .ref t0, v7])), (t0, .inl (tc, 7, .inl tg_20)), (ph, .inl (pc, 4, .inr (.inr (.inr (.inr pf))))), (p0, .inr (0, [.int b0, .int z0, .ref n0])), (n0, .inl (nc0, 40, .inr (.inl g0))), (p1, .inr (0, [.int b1, .int z1, .ref n1])), (n1, .inl (nc1, 40, .inr (.inl g1))), (p2, .inr (0, [.int b2, .int z2, .ref n2])), (n2, .inl (nc2, 40, .inr (.inl g2))), (p3, .inr (0, [.int b3, .int z3, .ref n3])), (n3, .inl (nc3, 40, .inr (.inl g3))), (ah, .inr (4, [.int sh, .ref q1, .ref q2, .int tn, .ref q3, .ref q4, w6, w7, w8])), (q1, .inl (c1, 9, .inl f1)), (q2, .inl (c2, 9, .inl f2)), (q3, .inl (c3, 4, .inl f3)), (q4, .inl (c4, 4, .inl f4))]) [14, 15, 0, 1, 2, 3, 4, 5, 6, 7, 8, 9, 10, 11, 12, 13] (by decide) rfl
      have hK9 := hK.sub (tys' := [(tc, .int), (pc, .object "LampShapes$Paper"), (nc0, .long), (nc1, .long), (nc2, .long), (nc3, .long), (c1, .int), (c2, .int), (c3, .int), (c4, .int)]) [0, 1, 2, 3, 4, 5, 6, 7, 8, 9] rfl
      exact W.iret (v := ((-1000000006) : Int32)) hx hb hr (fun t ht hW => ⟨⟨((-1000000006) : Int32), (), rfl, trivial, tg_20, g0, g1, g2, g3, by rw [ht]; exact hP9, va_K.moved hW.alike hK9, hD9⟩, hS.F ht⟩) hS.2.2 dX8_film_31
  · skip
    refine Met.ofW (cc := cX8_film) (maxL := 7) (ret := (some .int)) (by decide) rfl ?_
    intro p e s m args below meth c s₁ B hml hv
    obtain ⟨rfl, hsz, hP, hK, hD0, hev⟩ := hv
    have hx := B.exec
    have hb := B.bytes
    have hr := B.returns
    have hts := atoms_spec (ws := w_x_film) B.pre
    have hown : s.vm.findClass RX8 = some m.cls := findClass_of_methodNamed B.named
    have hlocks := B.notSynchronized
    have inX8 : ∀ w ∈ wsX80, w ∈ w_x_film := fun w h => List.mem_cons_of_mem _ (List.mem_append_left _ (List.mem_append_left _ (List.mem_append_right _ h)))
    have inX2 : ∀ w ∈ wsX20, w ∈ w_x_film := fun w h => List.mem_cons_of_mem _ (List.mem_append_left _ (List.mem_append_right _ h))
    have inX6 : ∀ w ∈ wsX60, w ∈ w_x_film := fun w h => List.mem_cons_of_mem _ (List.mem_append_right _ h)
    subst hsz
    have hD := hD0.self (sz := s.heap.size)
    generalize hAe : va_A [(h0, .inr (6, [.ref ah, v1, v2, v3, v4, .ref ph, .ref t0, v7])), (t0, .inl (tc, 7, .inl tf)), (ph, .inl (pc, 4, .inr (.inr (.inr (.inr pf))))), (p0, .inr (0, [.int b0, .int z0, .ref n0])), (n0, .inl (nc0, 40, .inr (.inl g0))), (p1, .inr (0, [.int b1, .int z1, .ref n1])), (n1, .inl (nc1, 40, .inr (.inl g1))), (p2, .inr (0, [.int b2, .int z2, .ref n2])), (n2, .inl (nc2, 40, .inr (.inl g2))), (p3, .inr (0, [.int b3, .int z3, .ref n3])), (n3, .inl (nc3, 40, .inr (.inl g3))), (ah, .inr (4, [.int sh, .ref q1, .ref q2, .int tn, .ref q3, .ref q4, w6, w7, w8])), (q1, .inl (c1, 9, .inl f1)), (q2, .inl (c2, 9, .inl f2)), (q3, .inl (c3, 4, .inl f3)), (q4, .inl (c4, 4, .inl f4))] s.heap.size = A at hD ⊢
    have hA : ∀ q : Nat, s.heap.size ≤ q → A q := fun q h => by rw [← hAe]; exact Or.inr h
    have hS : va_S A s.heap s.heap [] := va_S.rf
    have hP : va_P (dC, dI) vwCl [(h0, .inr (6, [.ref ah, v1, v2, v3, v4, .ref ph, .ref t0, v7])), (t0, .inl (tc, 7, .inl tf)), (ph, .inl (pc, 4, .inr (.inr (.inr (.inr pf))))), (p0, .inr (0, [.int b0, .int z0, .ref n0])), (n0, .inl (nc0, 40, .inr (.inl g0))), (p1, .inr (0, [.int b1, .int z1, .ref n1])), (n1, .inl (nc1, 40, .inr (.inl g1))), (p2, .inr (0, [.int b2, .int z2, .ref n2])), (n2, .inl (nc2, 40, .inr (.inl g2))), (p3, .inr (0, [.int b3, .int z3, .ref n3])), (n3, .inl (nc3, 40, .inr (.inl g3))), (ah, .inr (4, [.int sh, .ref q1, .ref q2, .int tn, .ref q3, .ref q4, w6, w7, w8])), (q1, .inl (c1, 9, .inl f1)), (q2, .inl (c2, 9, .inl f2)), (q3, .inl (c3, 4, .inl f3)), (q4, .inl (c4, 4, .inl f4))] s.heap := hP
    have hl := lv_entry ([.ref h0, .int 1]) (n := 7) (Nat.le_of_ble_eq_true rfl)
    rw [lg_entry_eq]
    generalize (lg_sl ([.ref h0, .int 1]) ++ List.replicate (7 - (lg_sl ([.ref h0, .int 1])).length) Slot.unset).toArray = ls at hl ⊢
    have hl : lv_has ls 7 [(0, .ref h0), (1, .int 1)] := hl
    refine lv_aload_n hx hb dX8_film_0 rfl (lv_at hl 0 rfl) ?_
    refine lv_iload_n hx hb dX8_film_1 rfl (lv_at hl 1 rfl) ?_
    have hPc := hP.sub (ws' := [(h0, .inr (6, [.ref ah, v1, v2, v3, v4, .ref ph, .ref t0, v7])), (ph, .inl (pc, 4, .inr (.inr (.inr (.inr pf)))))]) [0, 2] rfl
    have hKc := hK.sub (tys' := [(pc, .object "LampShapes$Paper")]) [1] rfl
    refine va_csq (W.runV (As := [.int 1]) (rest := []) ⟨hx, hb, hml, hown, hts⟩ (c_paperAt_1 l dC dI ad h0 (.ref ah) v1 v2 v3 v4 ph (.ref t0) v7 pc pf p1 hp1) (cwV 1 hts g_x_film_c_paperAt_1_256 rfl rfl rfl (by decide +kernel) ⟨(Nat.le_of_ble_eq_true rfl), (Nat.le_of_ble_eq_true rfl)⟩) ⟨preS_blind, va_recv hKc hPc (ci := 6) (q0 := 0) rfl rfl, fun U hU hW => ⟨rfl, preS_at hU hW hPc hKc hev⟩⟩ rfl rfl hl.1 rfl (lv_room (Nat.le_of_ble_eq_true rfl)) dX8_film_2 ⟨(Nat.le_of_ble_eq_true rfl), (Nat.le_of_ble_eq_true rfl)⟩) (fun r_21 hw => ?_)
    subst hw
    refine pp_tv (y := .ref p1) rfl ?_
    refine lv_astore_n (lv' := [(2, .ref p1), (0, .ref h0), (1, .int 1)]) hx hb dX8_film_5 rfl hl (by decide) rfl (fun ls hl => ?_)
    refine lv_aload_n hx hb dX8_film_6 rfl (lv_at hl 0 rfl) ?_
    refine lv_ifnonnull (tgt := 17) hx hb dX8_film_7 (by decide) ?_
    refine lv_aload_n hx hb dX8_film_17 rfl (lv_at hl 0 rfl) ?_
    have hPc := hP.sub (ws' := [(p1, .inr (0, [.int b1, .int z1, .ref n1]))]) [5] rfl
    have hKc := hK.sub (tys' := []) [] rfl
    refine vp_callSi (W.runV (As := []) (rest := []) ⟨hx, hb, hml, hown, hts⟩ (p_isMissing l dC dI ad p1 b1 (.int z1) (.ref n1) ) (cwV 0 hts g_x_film_p_isMissing_268 rfl rfl rfl (by decide +kernel) ⟨(Nat.le_of_ble_eq_true rfl), (Nat.le_of_ble_eq_true rfl)⟩) ⟨preS_blind, va_recv hKc hPc (ci := 0) (q0 := 0) rfl rfl, fun U hU hW => ⟨rfl, preS_at hU hW hPc hKc hev⟩⟩ rfl rfl hl.1 rfl (lv_room (Nat.le_of_ble_eq_true rfl)) dX8_film_18 ⟨(Nat.le_of_ble_eq_true rfl), (Nat.le_of_ble_eq_true rfl)⟩) (fun r_22 hw => ?_)
    have hr_22 : (r_22.toInt = 1 ∧ b1.toInt = 0) ∨ (r_22.toInt = 0 ∧ ¬ b1.toInt = 0) := hw
    refine lv_if_eq (tgt := 32) hx hb dX8_film_21 (by decide) (fun c_23 => ?_) (fun c_23 => ?_)
    · skip
      have tc_23 : r_22.toInt = 0 := (fa_eq _ _).mp c_23
      refine lv_aload_n hx hb dX8_film_32 rfl (lv_at hl 1 rfl) ?_
      refine va_get (D := (dC, dI)) (ci := 6) (v := .ref ah) (C := RX8) (T := TX8) (N := 8) hx hb hts inX8 hown hK hP 0 rfl rfl 0 (by decide) (hts _ (List.mem_of_getElem? (i := 19) rfl)) (fun _ h9 => h9) rfl dX8_film_33 ?_
      have hPc := hP.sub (ws' := [(ah, .inr (4, [.int sh, .ref q1, .ref q2, .int tn, .ref q3, .ref q4, w6, w7, w8])), (q1, .inl (c1, 9, .inl f1)), (q2, .inl (c2, 9, .inl f2)), (q3, .inl (c3, 4, .inl f3)), (q4, .inl (c4, 4, .inl f4))]) [11, 12, 13, 14, 15] rfl
      have hKc := hK.sub (tys' := [(c1, .int), (c2, .int), (c3, .int), (c4, .int)]) [6, 7, 8, 9] rfl
      refine vp_callSl (W.runV (As := []) (rest := []) ⟨hx, hb, hml, hown, hts⟩ (s_darkCells l dC dI ad ah sh q1 q2 tn q3 q4 w6 w7 w8 c1 f1 c2 f2 c3 f3 c4 f4 hsh) (cwV 0 hts g_x_film_s_darkCells_134 rfl rfl rfl (by decide +kernel) ⟨(Nat.le_of_ble_eq_true rfl), (Nat.le_of_ble_eq_true rfl)⟩) ⟨preS_blind, va_recv hKc hPc (ci := 4) (q0 := 0) rfl rfl, fun U hU hW => ⟨rfl, preS_at hU hW hPc hKc hev⟩⟩ rfl rfl hl.1 rfl (lv_room (Nat.le_of_ble_eq_true rfl)) dX8_film_36 ⟨(Nat.le_of_ble_eq_true rfl), (Nat.le_of_ble_eq_true rfl)⟩) (fun r_24 hw => ?_)
      refine lv_lstore_n (lv' := [(3, .long r_24), (2, .ref p1), (0, .ref h0), (1, .int 1)]) hx hb dX8_film_39 rfl hl (by decide) rfl (fun ls hl => ?_)
      refine lv_aload_n hx hb dX8_film_40 rfl (lv_at hl 1 rfl) ?_
      refine va_getN (D := (dC, dI)) (ci := 0) (v := .int z1) (C := RX2) (T := TX2) (N := 3) hx hb hts inX2 hown hK hP 5 rfl rfl 1 (by decide) (ev_nest hev 22 rfl) (fun _ h9 => h9) rfl dX8_film_41 ?_
      refine lv_bipush (v := 8) hx hb dX8_film_44 (by decide) ?_
      refine va_mmin hx hb (by rw [hml]; exact hl.1.symm) hown (hts _ (List.mem_of_getElem? (i := 82) rfl)) (hts _ (List.mem_of_getElem? (i := 83) rfl)) (hts _ (List.mem_of_getElem? (i := 84) rfl)) (hts _ (List.mem_of_getElem? (i := 85) rfl)) (Nat.le_of_ble_eq_true rfl) (Nat.le_of_ble_eq_true rfl) (Nat.le_of_ble_eq_true rfl) (Nat.le_of_ble_eq_true rfl) dX8_film_46 ?_
      refine lv_topi (fun n_25 en_25 => ?_)
      have tn_25 : n_25.toInt ≤ z1.toInt ∧ n_25.toInt ≤ 8 ∧ (n_25.toInt = z1.toInt ∨ n_25.toInt = 8) := pp_min en_25
      refine lv_istore (lv' := [(5, .int n_25), (3, .long r_24), (2, .ref p1), (0, .ref h0), (1, .int 1)]) hx hb dX8_film_49 hl (by decide) rfl (fun ls hl => ?_)
      refine lv_iconst (v := 0) hx hb dX8_film_51 (by decide) ?_
      refine lv_istore (lv' := [(6, .int 0), (5, .int n_25), (3, .long r_24), (2, .ref p1), (0, .ref h0), (1, .int 1)]) hx hb dX8_film_52 hl (by decide) rfl (fun ls hl => ?_)
      refine pp_loop (ι := Int32 × (Nat → Int64) × (Nat → Int64) × (Nat → Int64) × (Nat → Int64)) (fun ⟨v6_54, y0, y1, y2, y3⟩ => (n_25.toInt - v6_54.toInt).toNat) (fun ⟨v6_54, y0, y1, y2, y3⟩ H locs ls => (0 ≤ v6_54.toInt) ∧ va_P (dC, dI) vwCl [(h0, .inr (6, [.ref ah, v1, v2, v3, v4, .ref ph, .ref t0, v7])), (t0, .inl (tc, 7, .inl tf)), (ph, .inl (pc, 4, .inr (.inr (.inr (.inr pf))))), (p0, .inr (0, [.int b0, .int z0, .ref n0])), (n0, .inl (nc0, 40, .inr (.inl y0))), (p1, .inr (0, [.int b1, .int z1, .ref n1])), (n1, .inl (nc1, 40, .inr (.inl y1))), (p2, .inr (0, [.int b2, .int z2, .ref n2])), (n2, .inl (nc2, 40, .inr (.inl y2))), (p3, .inr (0, [.int b3, .int z3, .ref n3])), (n3, .inl (nc3, 40, .inr (.inl y3))), (ah, .inr (4, [.int sh, .ref q1, .ref q2, .int tn, .ref q3, .ref q4, w6, w7, w8])), (q1, .inl (c1, 9, .inl f1)), (q2, .inl (c2, 9, .inl f2)), (q3, .inl (c3, 4, .inl f3)), (q4, .inl (c4, 4, .inl f4))] H ∧ va_D A [(h0, .inr (6, [.ref ah, v1, v2, v3, v4, .ref ph, .ref t0, v7])), (t0, .inl (tc, 7, .inl tf)), (ph, .inl (pc, 4, .inr (.inr (.inr (.inr pf))))), (p0, .inr (0, [.int b0, .int z0, .ref n0])), (n0, .inl (nc0, 40, .inr (.inl y0))), (p1, .inr (0, [.int b1, .int z1, .ref n1])), (n1, .inl (nc1, 40, .inr (.inl y1))), (p2, .inr (0, [.int b2, .int z2, .ref n2])), (n2, .inl (nc2, 40, .inr (.inl y2))), (p3, .inr (0, [.int b3, .int z3, .ref n3])), (n3, .inl (nc3, 40, .inr (.inl y3))), (ah, .inr (4, [.int sh, .ref q1, .ref q2, .int tn, .ref q3, .ref q4, w6, w7, w8])), (q1, .inl (c1, 9, .inl f1)), (q2, .inl (c2, 9, .inl f2)), (q3, .inl (c3, 4, .inl f3)), (q4, .inl (c4, 4, .inl f4))] ∧ va_S A s.heap H locs ∧ lv_has ls 7 [(6, .int v6_54), (5, .int n_25), (3, .long r_24), (2, .ref p1), (0, .ref h0), (1, .int 1)]) ?_ (0, g0, g1, g2, g3) _ _ _ ⟨(by first | omega | decide | (simp only [fa_lt, fa_le, fa_eq, and_true, true_and, and_false, false_and, not_true_eq_false, not_false_eq_true, li_0, li_1, li_2, li_3, li_4, li_5, li_6, li_7, li_8, li_9, li_10, li_12, li_15, li_16, li_20, li_30, li_34, li_38, li_40, li_63, li_64, li_65, li_78, li_120, li_1000, li_4000, li_10000, li_11077, li_255, li_65535, li_m1, li_m2, li_m1000000001, li_m1000000002, li_m1000000003, li_m1000000004, li_m1000000005, li_m1000000006, li_m1000000007, or_true, true_or, or_false, false_or, implies_true, true_implies, false_implies] <;> omega)), hP.sub [0, 1, 2, 3, 4, 5, 6, 7, 8, 9, 10, 11, 12, 13, 14, 15] rfl, hD.sub [0, 1, 2, 3, 4, 5, 6, 7, 8, 9, 10, 11, 12, 13, 14, 15] (by decide) rfl, hS, lv_sub hl [0, 1, 2, 3, 4, 5] rfl⟩
      intro k_26 ihk_26 u H locs ls hm hI
      obtain ⟨v6_54, y0, y1, y2, y3⟩ := u
      obtain ⟨jk_26_0, hP, hD, hS, hl⟩ := hI
      have hmk_26 : (n_25.toInt - v6_54.toInt).toNat < k_26 + 1 := hm
      clear hm
      have jk_26_0 : 0 ≤ v6_54.toInt := jk_26_0
      have hl : lv_has ls 7 [(6, .int v6_54), (5, .int n_25), (3, .long r_24), (2, .ref p1), (0, .ref h0), (1, .int 1)] := hl
      have hP : va_P (dC, dI) vwCl [(h0, .inr (6, [.ref ah, v1, v2, v3, v4, .ref ph, .ref t0, v7])), (t0, .inl (tc, 7, .inl tf)), (ph, .inl (pc, 4, .inr (.inr (.inr (.inr pf))))), (p0, .inr (0, [.int b0, .int z0, .ref n0])), (n0, .inl (nc0, 40, .inr (.inl y0))), (p1, .inr (0, [.int b1, .int z1, .ref n1])), (n1, .inl (nc1, 40, .inr (.inl y1))), (p2, .inr (0, [.int b2, .int z2, .ref n2])), (n2, .inl (nc2, 40, .inr (.inl y2))), (p3, .inr (0, [.int b3, .int z3, .ref n3])), (n3, .inl (nc3, 40, .inr (.inl y3))), (ah, .inr (4, [.int sh, .ref q1, .ref q2, .int tn, .ref q3, .ref q4, w6, w7, w8])), (q1, .inl (c1, 9, .inl f1)), (q2, .inl (c2, 9, .inl f2)), (q3, .inl (c3, 4, .inl f3)), (q4, .inl (c4, 4, .inl f4))] H := hP
      have hD : va_D A [(h0, .inr (6, [.ref ah, v1, v2, v3, v4, .ref ph, .ref t0, v7])), (t0, .inl (tc, 7, .inl tf)), (ph, .inl (pc, 4, .inr (.inr (.inr (.inr pf))))), (p0, .inr (0, [.int b0, .int z0, .ref n0])), (n0, .inl (nc0, 40, .inr (.inl y0))), (p1, .inr (0, [.int b1, .int z1, .ref n1])), (n1, .inl (nc1, 40, .inr (.inl y1))), (p2, .inr (0, [.int b2, .int z2, .ref n2])), (n2, .inl (nc2, 40, .inr (.inl y2))), (p3, .inr (0, [.int b3, .int z3, .ref n3])), (n3, .inl (nc3, 40, .inr (.inl y3))), (ah, .inr (4, [.int sh, .ref q1, .ref q2, .int tn, .ref q3, .ref q4, w6, w7, w8])), (q1, .inl (c1, 9, .inl f1)), (q2, .inl (c2, 9, .inl f2)), (q3, .inl (c3, 4, .inl f3)), (q4, .inl (c4, 4, .inl f4))] := hD
      refine lv_iload hx hb dX8_film_54 (lv_at hl 0 rfl) ?_
      refine lv_iload hx hb dX8_film_56 (lv_at hl 1 rfl) ?_
      have rc_27_x := pp_rng v6_54
      have rc_27_y := pp_rng n_25
      refine lv_icmp_ge (tgt := 80) hx hb dX8_film_58 (by decide) (fun c_27 => ?_) (fun c_27 => ?_)
      · skip
        have tc_27 : n_25.toInt ≤ v6_54.toInt := (fa_le _ _).mp c_27
        refine lv_iload hx hb dX8_film_80 (lv_at hl 1 rfl) ?_
        have hP9 := hP.sub (ws' := [(h0, .inr (6, [.ref ah, v1, v2, v3, v4, .ref ph, .ref t0, v7])), (t0, .inl (tc, 7, .inl tf)), (ph, .inl (pc, 4, .inr (.inr (.inr (.inr pf))))), (p0, .inr (0, [.int b0, .int z0, .ref n0])), (n0, .inl (nc0, 40, .inr (.inl y0))), (p1, .inr (0, [.int b1, .int z1, .ref n1])), (n1, .inl (nc1, 40, .inr (.inl y1))), (p2, .inr (0, [.int b2, .int z2, .ref n2])), (n2, .inl (nc2, 40, .inr (.inl y2))), (p3, .inr (0, [.int b3, .int z3, .ref n3])), (n3, .inl (nc3, 40, .inr (.inl y3))), (ah, .inr (4, [.int sh, .ref q1, .ref q2, .int tn, .ref q3, .ref q4, w6, w7, w8])), (q1, .inl (c1, 9, .inl f1)), (q2, .inl (c2, 9, .inl f2)), (q3, .inl (c3, 4, .inl f3)), (q4, .inl (c4, 4, .inl f4))]) [0, 1, 2, 3, 4, 5, 6, 7, 8, 9, 10, 11, 12, 13, 14, 15] rfl
        have hD9 := hD.sub (ws' := [(h0, .inr (6, [.ref ah, v1, v2, v3, v4, .ref ph, .ref t0, v7])), (t0, .inl (tc, 7, .inl tf)), (ph, .inl (pc, 4, .inr (.inr (.inr (.inr pf))))), (p0, .inr (0, [.int b0, .int z0, .ref n0])), (n0, .inl (nc0, 40, .inr (.inl y0))), (p1, .inr (0, [.int b1, .int z1, .ref n1])), (n1, .inl (nc1, 40, .inr (.inl y1))), (p2, .inr (0, [.int b2, .int z2, .ref n2])), (n2, .inl (nc2, 40, .inr (.inl y2))), (p3, .inr (0, [.int b3, .int z3, .ref n3])), (n3, .inl (nc3, 40, .inr (.inl y3))), (ah, .inr (4, [.int sh, .ref q1, .ref q2, .int tn, .ref q3, .ref q4, w6, w7, w8])), (q1, .inl (c1, 9, .inl f1)), (q2, .inl (c2, 9, .inl f2)), (q3, .inl (c3, 4, .inl f3)), (q4, .inl (c4, 4, .inl f4))]) [0, 1, 2, 3, 4, 5, 6, 7, 8, 9, 10, 11, 12, 13, 14, 15] (by decide) rfl
        have hK9 := hK.sub (tys' := [(tc, .int), (pc, .object "LampShapes$Paper"), (nc0, .long), (nc1, .long), (nc2, .long), (nc3, .long), (c1, .int), (c2, .int), (c3, .int), (c4, .int)]) [0, 1, 2, 3, 4, 5, 6, 7, 8, 9] rfl
        exact W.iret (v := n_25) hx hb hr (fun t ht hW => ⟨⟨n_25, (), rfl, trivial, tf, y0, y1, y2, y3, by rw [ht]; exact hP9, va_K.moved hW.alike hK9, hD9⟩, hS.F ht⟩) hS.2.2 dX8_film_82
      · skip
        have tc_27 : ¬ n_25.toInt ≤ v6_54.toInt := fun h => c_27 ((fa_le _ _).mpr h)
        refine lv_aload_n hx hb dX8_film_61 rfl (lv_at hl 3 rfl) ?_
        refine lv_iload hx hb dX8_film_62 (lv_at hl 0 rfl) ?_
        refine lv_lload_n hx hb dX8_film_64 rfl (lv_at hl 2 rfl) ?_
        refine lv_iload hx hb dX8_film_65 (lv_at hl 0 rfl) ?_
        have hPc := hP.sub (ws' := []) [] rfl
        have hKc := hK.sub (tys' := []) [] rfl
        refine vp_callSi (W.runS (As := [.long r_24, .int v6_54]) (rest := [.int v6_54, .ref p1]) ⟨hx, hb, hml, hown, hts⟩ (l_rowOf l dC dI ad r_24 v6_54 ) (va_cwS 2 hts g_x_film_l_rowOf_291 rfl rfl rfl (by decide +kernel) ⟨(Nat.le_of_ble_eq_true rfl), (Nat.le_of_ble_eq_true rfl)⟩) ⟨preS_blind, fun U hU hW => ⟨rfl, preS_at hU hW hPc hKc hev⟩⟩ rfl rfl hl.1 rfl (lv_room (Nat.le_of_ble_eq_true rfl)) dX8_film_67 ⟨(Nat.le_of_ble_eq_true rfl), (Nat.le_of_ble_eq_true rfl)⟩) (fun r_28 hw => ?_)
        obtain ⟨n_29, en_29⟩ : ∃ z : Int64, z = r_28.toInt64 := ⟨_, rfl⟩
        refine lv_i2l (v := n_29) hx hb dX8_film_70 en_29.symm ?_
        clear en_29
        have hPc := hP.sub (ws' := [(p1, .inr (0, [.int b1, .int z1, .ref n1])), (n1, .inl (nc1, 40, .inr (.inl y1)))]) [5, 6] rfl
        have hKc := hK.sub (tys' := [(nc1, .long)]) [3] rfl
        have hDc := hD.sub (ws' := [(p1, .inr (0, [.int b1, .int z1, .ref n1])), (n1, .inl (nc1, 40, .inr (.inl y1)))]) [5, 6] (by decide) rfl
        have hFc := va_free (wc := [(p1, .inr (0, [.int b1, .int z1, .ref n1])), (n1, .inl (nc1, 40, .inr (.inl y1)))]) hD hS hA [5, 6] rfl
        refine va_callv (va_runV (As := [.int v6_54, .long n_29]) (rest := []) ⟨hx, hb, hml, hown, hts⟩ (p_put l dC dI ad p1 v6_54 n_29 b1 (.int z1) n1 nc1 y1 H.size (by first | omega | decide | (simp only [fa_lt, fa_le, fa_eq, and_true, true_and, and_false, false_and, not_true_eq_false, not_false_eq_true, li_0, li_1, li_2, li_3, li_4, li_5, li_6, li_7, li_8, li_9, li_10, li_12, li_15, li_16, li_20, li_30, li_34, li_38, li_40, li_63, li_64, li_65, li_78, li_120, li_1000, li_4000, li_10000, li_11077, li_255, li_65535, li_m1, li_m2, li_m1000000001, li_m1000000002, li_m1000000003, li_m1000000004, li_m1000000005, li_m1000000006, li_m1000000007, or_true, true_or, or_false, false_or, implies_true, true_implies, false_implies] <;> omega))) (cwV 2 hts g_x_film_p_put_275 rfl rfl rfl (by decide +kernel) ⟨(Nat.le_of_ble_eq_true rfl), (Nat.le_of_ble_eq_true rfl)⟩) ⟨preM_blind, va_recv hKc hPc (ci := 0) (q0 := 0) rfl rfl, fun U hU hW => ⟨rfl, preM_at hU hW hPc hKc hDc hev⟩⟩ rfl rfl hl.1 rfl (lv_room (Nat.le_of_ble_eq_true rfl)) dX8_film_71 ⟨(Nat.le_of_ble_eq_true rfl), (Nat.le_of_ble_eq_true rfl)⟩) hS (fun q _ h => hFc q h) hFc (fun u t H1 locs ht hvm hw hB hz1 hk1 hS => ?_)
        obtain ⟨g_31, hP1, hK1, hD1⟩ := hB
        rw [ht] at hP1
        have hK1 := va_K.moved hvm.symm hK1
        obtain ⟨hP, hD⟩ := va_join (wr := [(h0, .inr (6, [.ref ah, v1, v2, v3, v4, .ref ph, .ref t0, v7])), (t0, .inl (tc, 7, .inl tf)), (ph, .inl (pc, 4, .inr (.inr (.inr (.inr pf))))), (p0, .inr (0, [.int b0, .int z0, .ref n0])), (n0, .inl (nc0, 40, .inr (.inl y0))), (p2, .inr (0, [.int b2, .int z2, .ref n2])), (n2, .inl (nc2, 40, .inr (.inl y2))), (p3, .inr (0, [.int b3, .int z3, .ref n3])), (n3, .inl (nc3, 40, .inr (.inl y3))), (ah, .inr (4, [.int sh, .ref q1, .ref q2, .int tn, .ref q3, .ref q4, w6, w7, w8])), (q1, .inl (c1, 9, .inl f1)), (q2, .inl (c2, 9, .inl f2)), (q3, .inl (c3, 4, .inl f3)), (q4, .inl (c4, 4, .inl f4))]) (w1 := [(p1, .inr (0, [.int b1, .int z1, .ref n1])), (n1, .inl (nc1, 40, .inr (.inl g_31)))]) hP hD [5, 6] [0, 1, 2, 3, 4, 7, 8, 9, 10, 11, 12, 13, 14, 15] rfl rfl (by decide) (by decide) hk1 hFc hP1 hD1
        generalize H1 = H at hP hS ⊢
        have hP : va_P (dC, dI) vwCl [(h0, .inr (6, [.ref ah, v1, v2, v3, v4, .ref ph, .ref t0, v7])), (t0, .inl (tc, 7, .inl tf)), (ph, .inl (pc, 4, .inr (.inr (.inr (.inr pf))))), (p0, .inr (0, [.int b0, .int z0, .ref n0])), (n0, .inl (nc0, 40, .inr (.inl y0))), (p2, .inr (0, [.int b2, .int z2, .ref n2])), (n2, .inl (nc2, 40, .inr (.inl y2))), (p3, .inr (0, [.int b3, .int z3, .ref n3])), (n3, .inl (nc3, 40, .inr (.inl y3))), (ah, .inr (4, [.int sh, .ref q1, .ref q2, .int tn, .ref q3, .ref q4, w6, w7, w8])), (q1, .inl (c1, 9, .inl f1)), (q2, .inl (c2, 9, .inl f2)), (q3, .inl (c3, 4, .inl f3)), (q4, .inl (c4, 4, .inl f4)), (p1, .inr (0, [.int b1, .int z1, .ref n1])), (n1, .inl (nc1, 40, .inr (.inl g_31)))] H := hP
        have hD : va_D A [(h0, .inr (6, [.ref ah, v1, v2, v3, v4, .ref ph, .ref t0, v7])), (t0, .inl (tc, 7, .inl tf)), (ph, .inl (pc, 4, .inr (.inr (.inr (.inr pf))))), (p0, .inr (0, [.int b0, .int z0, .ref n0])), (n0, .inl (nc0, 40, .inr (.inl y0))), (p2, .inr (0, [.int b2, .int z2, .ref n2])), (n2, .inl (nc2, 40, .inr (.inl y2))), (p3, .inr (0, [.int b3, .int z3, .ref n3])), (n3, .inl (nc3, 40, .inr (.inl y3))), (ah, .inr (4, [.int sh, .ref q1, .ref q2, .int tn, .ref q3, .ref q4, w6, w7, w8])), (q1, .inl (c1, 9, .inl f1)), (q2, .inl (c2, 9, .inl f2)), (q3, .inl (c3, 4, .inl f3)), (q4, .inl (c4, 4, .inl f4)), (p1, .inr (0, [.int b1, .int z1, .ref n1])), (n1, .inl (nc1, 40, .inr (.inl g_31)))] := hD
        obtain ⟨n_32, en_32⟩ : ∃ y : Int32, y = v6_54 + 1 := ⟨_, rfl⟩
        have tn_32 : n_32.toInt = v6_54.toInt + 1 := pp_add en_32 rfl rfl (by omega) (by omega)
        refine lv_iinc (v := n_32) (lv' := [(6, .int n_32), (5, .int n_25), (3, .long r_24), (2, .ref p1), (0, .ref h0), (1, .int 1)]) hx hb dX8_film_74 hl (k := 0) rfl (by rw [en_32]; rfl) (by decide) rfl (fun ls hl => ?_)
        clear en_32
        refine lv_goto (tgt := 54) hx hb dX8_film_77 (by decide) ?_
        exact ihk_26 (n_32, y0, g_31, y2, y3) _ _ _ (by show (n_25.toInt - n_32.toInt).toNat < k_26; omega) ⟨(by first | omega | decide | (simp only [fa_lt, fa_le, fa_eq, and_true, true_and, and_false, false_and, not_true_eq_false, not_false_eq_true, li_0, li_1, li_2, li_3, li_4, li_5, li_6, li_7, li_8, li_9, li_10, li_12, li_15, li_16, li_20, li_30, li_34, li_38, li_40, li_63, li_64, li_65, li_78, li_120, li_1000, li_4000, li_10000, li_11077, li_255, li_65535, li_m1, li_m2, li_m1000000001, li_m1000000002, li_m1000000003, li_m1000000004, li_m1000000005, li_m1000000006, li_m1000000007, or_true, true_or, or_false, false_or, implies_true, true_implies, false_implies] <;> omega)), hP.sub [0, 1, 2, 3, 4, 14, 15, 5, 6, 7, 8, 9, 10, 11, 12, 13] rfl, hD.sub [0, 1, 2, 3, 4, 14, 15, 5, 6, 7, 8, 9, 10, 11, 12, 13] (by decide) rfl, hS, lv_sub hl [0, 1, 2, 3, 4, 5] rfl⟩
    · skip
      have tc_23 : ¬ r_22.toInt = 0 := fun h => c_23 ((fa_eq _ _).mpr h)
      refine lv_aload_n hx hb dX8_film_24 rfl (lv_at hl 1 rfl) ?_
      refine lv_ldcw hx hb hown (hts _ (List.mem_of_getElem? (i := 95) rfl)) dX8_film_25 ?_
      have hPc := hP.sub (ws' := [(h0, .inr (6, [.ref ah, v1, v2, v3, v4, .ref ph, .ref t0, v7])), (t0, .inl (tc, 7, .inl tf))]) [0, 1] rfl
      have hKc := hK.sub (tys' := [(tc, .int)]) [0] rfl
      have hDc := hD.sub (ws' := [(h0, .inr (6, [.ref ah, v1, v2, v3, v4, .ref ph, .ref t0, v7])), (t0, .inl (tc, 7, .inl tf))]) [0, 1] (by decide) rfl
      have hFc := va_free (wc := [(h0, .inr (6, [.ref ah, v1, v2, v3, v4, .ref ph, .ref t0, v7])), (t0, .inl (tc, 7, .inl tf))]) hD hS hA [0, 1] rfl
      refine va_calli (va_runV (As := [.int (-1000000006)]) (rest := []) ⟨hx, hb, hml, hown, hts⟩ (f_missing l dC dI ad h0 (.ref ah) v1 v2 v3 v4 (.ref ph) t0 v7 tc tf s.heap.size ) (cwV 1 hts g_x_film_f_missing_63 rfl rfl rfl (by decide +kernel) ⟨(Nat.le_of_ble_eq_true rfl), (Nat.le_of_ble_eq_true rfl)⟩) ⟨preM_blind, va_recv hKc hPc (ci := 6) (q0 := 0) rfl rfl, fun U hU hW => ⟨rfl, preM_at hU hW hPc hKc hDc hev⟩⟩ rfl rfl hl.1 rfl (lv_room (Nat.le_of_ble_eq_true rfl)) dX8_film_28 ⟨(Nat.le_of_ble_eq_true rfl), (Nat.le_of_ble_eq_true rfl)⟩) hS (fun q _ h => hFc q h) hFc (fun r_33 u t H1 locs ht hvm hw hB hz1 hk1 hS => ?_)
      obtain ⟨tg_34, hP1, hK1, hD1⟩ := hB
      rw [ht] at hP1
      have hK1 := va_K.moved hvm.symm hK1
      obtain ⟨hP, hD⟩ := va_join (wr := [(ph, .inl (pc, 4, .inr (.inr (.inr (.inr pf))))), (p0, .inr (0, [.int b0, .int z0, .ref n0])), (n0, .inl (nc0, 40, .inr (.inl g0))), (p1, .inr (0, [.int b1, .int z1, .ref n1])), (n1, .inl (nc1, 40, .inr (.inl g1))), (p2, .inr (0, [.int b2, .int z2, .ref n2])), (n2, .inl (nc2, 40, .inr (.inl g2))), (p3, .inr (0, [.int b3, .int z3, .ref n3])), (n3, .inl (nc3, 40, .inr (.inl g3))), (ah, .inr (4, [.int sh, .ref q1, .ref q2, .int tn, .ref q3, .ref q4, w6, w7, w8])), (q1, .inl (c1, 9, .inl f1)), (q2, .inl (c2, 9, .inl f2)), (q3, .inl (c3, 4, .inl f3)), (q4, .inl (c4, 4, .inl f4))]) (w1 := [(h0, .inr (6, [.ref ah, v1, v2, v3, v4, .ref ph, .ref t0, v7])), (t0, .inl (tc, 7, .inl tg_34))]) hP hD [0, 1] [2, 3, 4, 5, 6, 7, 8, 9, 10, 11, 12, 13, 14, 15] rfl rfl (by decide) (by decide) hk1 hFc hP1 hD1
      generalize H1 = H at hP hS ⊢
      have hP : va_P (dC, dI) vwCl [(ph, .inl (pc, 4, .inr (.inr (.inr (.inr pf))))), (p0, .inr (0, [.int b0, .int z0, .ref n0])), (n0, .inl (nc0, 40, .inr (.inl g0))), (p1, .inr (0, [.int b1, .int z1, .ref n1])), (n1, .inl (nc1, 40, .inr (.inl g1))), (p2, .inr (0, [.int b2, .int z2, .ref n2])), (n2, .inl (nc2, 40, .inr (.inl g2))), (p3, .inr (0, [.int b3, .int z3, .ref n3])), (n3, .inl (nc3, 40, .inr (.inl g3))), (ah, .inr (4, [.int sh, .ref q1, .ref q2, .int tn, .ref q3, .ref q4, w6, w7, w8])), (q1, .inl (c1, 9, .inl f1)), (q2, .inl (c2, 9, .inl f2)), (q3, .inl (c3, 4, .inl f3)), (q4, .inl (c4, 4, .inl f4)), (h0, .inr (6, [.ref ah, v1, v2, v3, v4, .ref ph, .ref t0, v7])), (t0, .inl (tc, 7, .inl tg_34))] H := hP
      have hD : va_D A [(ph, .inl (pc, 4, .inr (.inr (.inr (.inr pf))))), (p0, .inr (0, [.int b0, .int z0, .ref n0])), (n0, .inl (nc0, 40, .inr (.inl g0))), (p1, .inr (0, [.int b1, .int z1, .ref n1])), (n1, .inl (nc1, 40, .inr (.inl g1))), (p2, .inr (0, [.int b2, .int z2, .ref n2])), (n2, .inl (nc2, 40, .inr (.inl g2))), (p3, .inr (0, [.int b3, .int z3, .ref n3])), (n3, .inl (nc3, 40, .inr (.inl g3))), (ah, .inr (4, [.int sh, .ref q1, .ref q2, .int tn, .ref q3, .ref q4, w6, w7, w8])), (q1, .inl (c1, 9, .inl f1)), (q2, .inl (c2, 9, .inl f2)), (q3, .inl (c3, 4, .inl f3)), (q4, .inl (c4, 4, .inl f4)), (h0, .inr (6, [.ref ah, v1, v2, v3, v4, .ref ph, .ref t0, v7])), (t0, .inl (tc, 7, .inl tg_34))] := hD
      subst hw
      have hP9 := hP.sub (ws' := [(h0, .inr (6, [.ref ah, v1, v2, v3, v4, .ref ph, .ref t0, v7])), (t0, .inl (tc, 7, .inl tg_34)), (ph, .inl (pc, 4, .inr (.inr (.inr (.inr pf))))), (p0, .inr (0, [.int b0, .int z0, .ref n0])), (n0, .inl (nc0, 40, .inr (.inl g0))), (p1, .inr (0, [.int b1, .int z1, .ref n1])), (n1, .inl (nc1, 40, .inr (.inl g1))), (p2, .inr (0, [.int b2, .int z2, .ref n2])), (n2, .inl (nc2, 40, .inr (.inl g2))), (p3, .inr (0, [.int b3, .int z3, .ref n3])), (n3, .inl (nc3, 40, .inr (.inl g3))), (ah, .inr (4, [.int sh, .ref q1, .ref q2, .int tn, .ref q3, .ref q4, w6, w7, w8])), (q1, .inl (c1, 9, .inl f1)), (q2, .inl (c2, 9, .inl f2)), (q3, .inl (c3, 4, .inl f3)), (q4, .inl (c4, 4, .inl f4))]) [14, 15, 0, 1, 2, 3, 4, 5, 6, 7, 8, 9, 10, 11, 12, 13] rfl
      have hD9 := hD.sub (ws' := [(h0, .inr (6, [.ref ah, v1, v2, v3, v4, .ref ph, .ref t0, v7])), (t0, .inl (tc, 7, .inl tg_34)), (ph, .inl (pc, 4, .inr (.inr (.inr (.inr pf))))), (p0, .inr (0, [.int b0, .int z0, .ref n0])), (n0, .inl (nc0, 40, .inr (.inl g0))), (p1, .inr (0, [.int b1, .int z1, .ref n1])), (n1, .inl (nc1, 40, .inr (.inl g1))), (p2, .inr (0, [.int b2, .int z2, .ref n2])), (n2, .inl (nc2, 40, .inr (.inl g2))), (p3, .inr (0, [.int b3, .int z3, .ref n3])), (n3, .inl (nc3, 40, .inr (.inl g3))), (ah, .inr (4, [.int sh, .ref q1, .ref q2, .int tn, .ref q3, .ref q4, w6, w7, w8])), (q1, .inl (c1, 9, .inl f1)), (q2, .inl (c2, 9, .inl f2)), (q3, .inl (c3, 4, .inl f3)), (q4, .inl (c4, 4, .inl f4))]) [14, 15, 0, 1, 2, 3, 4, 5, 6, 7, 8, 9, 10, 11, 12, 13] (by decide) rfl
      have hK9 := hK.sub (tys' := [(tc, .int), (pc, .object "LampShapes$Paper"), (nc0, .long), (nc1, .long), (nc2, .long), (nc3, .long), (c1, .int), (c2, .int), (c3, .int), (c4, .int)]) [0, 1, 2, 3, 4, 5, 6, 7, 8, 9] rfl
      exact W.iret (v := ((-1000000006) : Int32)) hx hb hr (fun t ht hW => ⟨⟨((-1000000006) : Int32), (), rfl, trivial, tg_34, g0, g1, g2, g3, by rw [ht]; exact hP9, va_K.moved hW.alike hK9, hD9⟩, hS.F ht⟩) hS.2.2 dX8_film_31
  · skip
    refine Met.ofW (cc := cX8_film) (maxL := 7) (ret := (some .int)) (by decide) rfl ?_
    intro p e s m args below meth c s₁ B hml hv
    obtain ⟨rfl, hsz, hP, hK, hD0, hev⟩ := hv
    have hx := B.exec
    have hb := B.bytes
    have hr := B.returns
    have hts := atoms_spec (ws := w_x_film) B.pre
    have hown : s.vm.findClass RX8 = some m.cls := findClass_of_methodNamed B.named
    have hlocks := B.notSynchronized
    have inX8 : ∀ w ∈ wsX80, w ∈ w_x_film := fun w h => List.mem_cons_of_mem _ (List.mem_append_left _ (List.mem_append_left _ (List.mem_append_right _ h)))
    have inX2 : ∀ w ∈ wsX20, w ∈ w_x_film := fun w h => List.mem_cons_of_mem _ (List.mem_append_left _ (List.mem_append_right _ h))
    have inX6 : ∀ w ∈ wsX60, w ∈ w_x_film := fun w h => List.mem_cons_of_mem _ (List.mem_append_right _ h)
    subst hsz
    have hD := hD0.self (sz := s.heap.size)
    generalize hAe : va_A [(h0, .inr (6, [.ref ah, v1, v2, v3, v4, .ref ph, .ref t0, v7])), (t0, .inl (tc, 7, .inl tf)), (ph, .inl (pc, 4, .inr (.inr (.inr (.inr pf))))), (p0, .inr (0, [.int b0, .int z0, .ref n0])), (n0, .inl (nc0, 40, .inr (.inl g0))), (p1, .inr (0, [.int b1, .int z1, .ref n1])), (n1, .inl (nc1, 40, .inr (.inl g1))), (p2, .inr (0, [.int b2, .int z2, .ref n2])), (n2, .inl (nc2, 40, .inr (.inl g2))), (p3, .inr (0, [.int b3, .int z3, .ref n3])), (n3, .inl (nc3, 40, .inr (.inl g3))), (ah, .inr (4, [.int sh, .ref q1, .ref q2, .int tn, .ref q3, .ref q4, w6, w7, w8])), (q1, .inl (c1, 9, .inl f1)), (q2, .inl (c2, 9, .inl f2)), (q3, .inl (c3, 4, .inl f3)), (q4, .inl (c4, 4, .inl f4))] s.heap.size = A at hD ⊢
    have hA : ∀ q : Nat, s.heap.size ≤ q → A q := fun q h => by rw [← hAe]; exact Or.inr h
    have hS : va_S A s.heap s.heap [] := va_S.rf
    have hP : va_P (dC, dI) vwCl [(h0, .inr (6, [.ref ah, v1, v2, v3, v4, .ref ph, .ref t0, v7])), (t0, .inl (tc, 7, .inl tf)), (ph, .inl (pc, 4, .inr (.inr (.inr (.inr pf))))), (p0, .inr (0, [.int b0, .int z0, .ref n0])), (n0, .inl (nc0, 40, .inr (.inl g0))), (p1, .inr (0, [.int b1, .int z1, .ref n1])), (n1, .inl (nc1, 40, .inr (.inl g1))), (p2, .inr (0, [.int b2, .int z2, .ref n2])), (n2, .inl (nc2, 40, .inr (.inl g2))), (p3, .inr (0, [.int b3, .int z3, .ref n3])), (n3, .inl (nc3, 40, .inr (.inl g3))), (ah, .inr (4, [.int sh, .ref q1, .ref q2, .int tn, .ref q3, .ref q4, w6, w7, w8])), (q1, .inl (c1, 9, .inl f1)), (q2, .inl (c2, 9, .inl f2)), (q3, .inl (c3, 4, .inl f3)), (q4, .inl (c4, 4, .inl f4))] s.heap := hP
    have hl := lv_entry ([.ref h0, .int 2]) (n := 7) (Nat.le_of_ble_eq_true rfl)
    rw [lg_entry_eq]
    generalize (lg_sl ([.ref h0, .int 2]) ++ List.replicate (7 - (lg_sl ([.ref h0, .int 2])).length) Slot.unset).toArray = ls at hl ⊢
    have hl : lv_has ls 7 [(0, .ref h0), (1, .int 2)] := hl
    refine lv_aload_n hx hb dX8_film_0 rfl (lv_at hl 0 rfl) ?_
    refine lv_iload_n hx hb dX8_film_1 rfl (lv_at hl 1 rfl) ?_
    have hPc := hP.sub (ws' := [(h0, .inr (6, [.ref ah, v1, v2, v3, v4, .ref ph, .ref t0, v7])), (ph, .inl (pc, 4, .inr (.inr (.inr (.inr pf)))))]) [0, 2] rfl
    have hKc := hK.sub (tys' := [(pc, .object "LampShapes$Paper")]) [1] rfl
    refine va_csq (W.runV (As := [.int 2]) (rest := []) ⟨hx, hb, hml, hown, hts⟩ (c_paperAt_2 l dC dI ad h0 (.ref ah) v1 v2 v3 v4 ph (.ref t0) v7 pc pf p2 hp2) (cwV 1 hts g_x_film_c_paperAt_2_256 rfl rfl rfl (by decide +kernel) ⟨(Nat.le_of_ble_eq_true rfl), (Nat.le_of_ble_eq_true rfl)⟩) ⟨preS_blind, va_recv hKc hPc (ci := 6) (q0 := 0) rfl rfl, fun U hU hW => ⟨rfl, preS_at hU hW hPc hKc hev⟩⟩ rfl rfl hl.1 rfl (lv_room (Nat.le_of_ble_eq_true rfl)) dX8_film_2 ⟨(Nat.le_of_ble_eq_true rfl), (Nat.le_of_ble_eq_true rfl)⟩) (fun r_35 hw => ?_)
    subst hw
    refine pp_tv (y := .ref p2) rfl ?_
    refine lv_astore_n (lv' := [(2, .ref p2), (0, .ref h0), (1, .int 2)]) hx hb dX8_film_5 rfl hl (by decide) rfl (fun ls hl => ?_)
    refine lv_aload_n hx hb dX8_film_6 rfl (lv_at hl 0 rfl) ?_
    refine lv_ifnonnull (tgt := 17) hx hb dX8_film_7 (by decide) ?_
    refine lv_aload_n hx hb dX8_film_17 rfl (lv_at hl 0 rfl) ?_
    have hPc := hP.sub (ws' := [(p2, .inr (0, [.int b2, .int z2, .ref n2]))]) [7] rfl
    have hKc := hK.sub (tys' := []) [] rfl
    refine vp_callSi (W.runV (As := []) (rest := []) ⟨hx, hb, hml, hown, hts⟩ (p_isMissing l dC dI ad p2 b2 (.int z2) (.ref n2) ) (cwV 0 hts g_x_film_p_isMissing_268 rfl rfl rfl (by decide +kernel) ⟨(Nat.le_of_ble_eq_true rfl), (Nat.le_of_ble_eq_true rfl)⟩) ⟨preS_blind, va_recv hKc hPc (ci := 0) (q0 := 0) rfl rfl, fun U hU hW => ⟨rfl, preS_at hU hW hPc hKc hev⟩⟩ rfl rfl hl.1 rfl (lv_room (Nat.le_of_ble_eq_true rfl)) dX8_film_18 ⟨(Nat.le_of_ble_eq_true rfl), (Nat.le_of_ble_eq_true rfl)⟩) (fun r_36 hw => ?_)
    have hr_36 : (r_36.toInt = 1 ∧ b2.toInt = 0) ∨ (r_36.toInt = 0 ∧ ¬ b2.toInt = 0) := hw
    refine lv_if_eq (tgt := 32) hx hb dX8_film_21 (by decide) (fun c_37 => ?_) (fun c_37 => ?_)
    · skip
      have tc_37 : r_36.toInt = 0 := (fa_eq _ _).mp c_37
      refine lv_aload_n hx hb dX8_film_32 rfl (lv_at hl 1 rfl) ?_
      refine va_get (D := (dC, dI)) (ci := 6) (v := .ref ah) (C := RX8) (T := TX8) (N := 8) hx hb hts inX8 hown hK hP 0 rfl rfl 0 (by decide) (hts _ (List.mem_of_getElem? (i := 19) rfl)) (fun _ h9 => h9) rfl dX8_film_33 ?_
      have hPc := hP.sub (ws' := [(ah, .inr (4, [.int sh, .ref q1, .ref q2, .int tn, .ref q3, .ref q4, w6, w7, w8])), (q1, .inl (c1, 9, .inl f1)), (q2, .inl (c2, 9, .inl f2)), (q3, .inl (c3, 4, .inl f3)), (q4, .inl (c4, 4, .inl f4))]) [11, 12, 13, 14, 15] rfl
      have hKc := hK.sub (tys' := [(c1, .int), (c2, .int), (c3, .int), (c4, .int)]) [6, 7, 8, 9] rfl
      refine vp_callSl (W.runV (As := []) (rest := []) ⟨hx, hb, hml, hown, hts⟩ (s_darkCells l dC dI ad ah sh q1 q2 tn q3 q4 w6 w7 w8 c1 f1 c2 f2 c3 f3 c4 f4 hsh) (cwV 0 hts g_x_film_s_darkCells_134 rfl rfl rfl (by decide +kernel) ⟨(Nat.le_of_ble_eq_true rfl), (Nat.le_of_ble_eq_true rfl)⟩) ⟨preS_blind, va_recv hKc hPc (ci := 4) (q0 := 0) rfl rfl, fun U hU hW => ⟨rfl, preS_at hU hW hPc hKc hev⟩⟩ rfl rfl hl.1 rfl (lv_room (Nat.le_of_ble_eq_true rfl)) dX8_film_36 ⟨(Nat.le_of_ble_eq_true rfl), (Nat.le_of_ble_eq_true rfl)⟩) (fun r_38 hw => ?_)
      refine lv_lstore_n (lv' := [(3, .long r_38), (2, .ref p2), (0, .ref h0), (1, .int 2)]) hx hb dX8_film_39 rfl hl (by decide) rfl (fun ls hl => ?_)
      refine lv_aload_n hx hb dX8_film_40 rfl (lv_at hl 1 rfl) ?_
      refine va_getN (D := (dC, dI)) (ci := 0) (v := .int z2) (C := RX2) (T := TX2) (N := 3) hx hb hts inX2 hown hK hP 7 rfl rfl 1 (by decide) (ev_nest hev 22 rfl) (fun _ h9 => h9) rfl dX8_film_41 ?_
      refine lv_bipush (v := 8) hx hb dX8_film_44 (by decide) ?_
      refine va_mmin hx hb (by rw [hml]; exact hl.1.symm) hown (hts _ (List.mem_of_getElem? (i := 82) rfl)) (hts _ (List.mem_of_getElem? (i := 83) rfl)) (hts _ (List.mem_of_getElem? (i := 84) rfl)) (hts _ (List.mem_of_getElem? (i := 85) rfl)) (Nat.le_of_ble_eq_true rfl) (Nat.le_of_ble_eq_true rfl) (Nat.le_of_ble_eq_true rfl) (Nat.le_of_ble_eq_true rfl) dX8_film_46 ?_
      refine lv_topi (fun n_39 en_39 => ?_)
      have tn_39 : n_39.toInt ≤ z2.toInt ∧ n_39.toInt ≤ 8 ∧ (n_39.toInt = z2.toInt ∨ n_39.toInt = 8) := pp_min en_39
      refine lv_istore (lv' := [(5, .int n_39), (3, .long r_38), (2, .ref p2), (0, .ref h0), (1, .int 2)]) hx hb dX8_film_49 hl (by decide) rfl (fun ls hl => ?_)
      refine lv_iconst (v := 0) hx hb dX8_film_51 (by decide) ?_
      refine lv_istore (lv' := [(6, .int 0), (5, .int n_39), (3, .long r_38), (2, .ref p2), (0, .ref h0), (1, .int 2)]) hx hb dX8_film_52 hl (by decide) rfl (fun ls hl => ?_)
      refine pp_loop (ι := Int32 × (Nat → Int64) × (Nat → Int64) × (Nat → Int64) × (Nat → Int64)) (fun ⟨v6_54, y0, y1, y2, y3⟩ => (n_39.toInt - v6_54.toInt).toNat) (fun ⟨v6_54, y0, y1, y2, y3⟩ H locs ls => (0 ≤ v6_54.toInt) ∧ va_P (dC, dI) vwCl [(h0, .inr (6, [.ref ah, v1, v2, v3, v4, .ref ph, .ref t0, v7])), (t0, .inl (tc, 7, .inl tf)), (ph, .inl (pc, 4, .inr (.inr (.inr (.inr pf))))), (p0, .inr (0, [.int b0, .int z0, .ref n0])), (n0, .inl (nc0, 40, .inr (.inl y0))), (p1, .inr (0, [.int b1, .int z1, .ref n1])), (n1, .inl (nc1, 40, .inr (.inl y1))), (p2, .inr (0, [.int b2, .int z2, .ref n2])), (n2, .inl (nc2, 40, .inr (.inl y2))), (p3, .inr (0, [.int b3, .int z3, .ref n3])), (n3, .inl (nc3, 40, .inr (.inl y3))), (ah, .inr (4, [.int sh, .ref q1, .ref q2, .int tn, .ref q3, .ref q4, w6, w7, w8])), (q1, .inl (c1, 9, .inl f1)), (q2, .inl (c2, 9, .inl f2)), (q3, .inl (c3, 4, .inl f3)), (q4, .inl (c4, 4, .inl f4))] H ∧ va_D A [(h0, .inr (6, [.ref ah, v1, v2, v3, v4, .ref ph, .ref t0, v7])), (t0, .inl (tc, 7, .inl tf)), (ph, .inl (pc, 4, .inr (.inr (.inr (.inr pf))))), (p0, .inr (0, [.int b0, .int z0, .ref n0])), (n0, .inl (nc0, 40, .inr (.inl y0))), (p1, .inr (0, [.int b1, .int z1, .ref n1])), (n1, .inl (nc1, 40, .inr (.inl y1))), (p2, .inr (0, [.int b2, .int z2, .ref n2])), (n2, .inl (nc2, 40, .inr (.inl y2))), (p3, .inr (0, [.int b3, .int z3, .ref n3])), (n3, .inl (nc3, 40, .inr (.inl y3))), (ah, .inr (4, [.int sh, .ref q1, .ref q2, .int tn, .ref q3, .ref q4, w6, w7, w8])), (q1, .inl (c1, 9, .inl f1)), (q2, .inl (c2, 9, .inl f2)), (q3, .inl (c3, 4, .inl f3)), (q4, .inl (c4, 4, .inl f4))] ∧ va_S A s.heap H locs ∧ lv_has ls 7 [(6, .int v6_54), (5, .int n_39), (3, .long r_38), (2, .ref p2), (0, .ref h0), (1, .int 2)]) ?_ (0, g0, g1, g2, g3) _ _ _ ⟨(by first | omega | decide | (simp only [fa_lt, fa_le, fa_eq, and_true, true_and, and_false, false_and, not_true_eq_false, not_false_eq_true, li_0, li_1, li_2, li_3, li_4, li_5, li_6, li_7, li_8, li_9, li_10, li_12, li_15, li_16, li_20, li_30, li_34, li_38, li_40, li_63, li_64, li_65, li_78, li_120, li_1000, li_4000, li_10000, li_11077, li_255, li_65535, li_m1, li_m2, li_m1000000001, li_m1000000002, li_m1000000003, li_m1000000004, li_m1000000005, li_m1000000006, li_m1000000007, or_true, true_or, or_false, false_or, implies_true, true_implies, false_implies] <;> omega)), hP.sub [0, 1, 2, 3, 4, 5, 6, 7, 8, 9, 10, 11, 12, 13, 14, 15] rfl, hD.sub [0, 1, 2, 3, 4, 5, 6, 7, 8, 9, 10, 11, 12, 13, 14, 15] (by decide) rfl, hS, lv_sub hl [0, 1, 2, 3, 4, 5] rfl⟩
      intro k_40 ihk_40 u H locs ls hm hI
      obtain ⟨v6_54, y0, y1, y2, y3⟩ := u
      obtain ⟨jk_40_0, hP, hD, hS, hl⟩ := hI
      have hmk_40 : (n_39.toInt - v6_54.toInt).toNat < k_40 + 1 := hm
      clear hm
      have jk_40_0 : 0 ≤ v6_54.toInt := jk_40_0
      have hl : lv_has ls 7 [(6, .int v6_54), (5, .int n_39), (3, .long r_38), (2, .ref p2), (0, .ref h0), (1, .int 2)] := hl
      have hP : va_P (dC, dI) vwCl [(h0, .inr (6, [.ref ah, v1, v2, v3, v4, .ref ph, .ref t0, v7])), (t0, .inl (tc, 7, .inl tf)), (ph, .inl (pc, 4, .inr (.inr (.inr (.inr pf))))), (p0, .inr (0, [.int b0, .int z0, .ref n0])), (n0, .inl (nc0, 40, .inr (.inl y0))), (p1, .inr (0, [.int b1, .int z1, .ref n1])), (n1, .inl (nc1, 40, .inr (.inl y1))), (p2, .inr (0, [.int b2, .int z2, .ref n2])), (n2, .inl (nc2, 40, .inr (.inl y2))), (p3, .inr (0, [.int b3, .int z3, .ref n3])), (n3, .inl (nc3, 40, .inr (.inl y3))), (ah, .inr (4, [.int sh, .ref q1, .ref q2, .int tn, .ref q3, .ref q4, w6, w7, w8])), (q1, .inl (c1, 9, .inl f1)), (q2, .inl (c2, 9, .inl f2)), (q3, .inl (c3, 4, .inl f3)), (q4, .inl (c4, 4, .inl f4))] H := hP
      have hD : va_D A [(h0, .inr (6, [.ref ah, v1, v2, v3, v4, .ref ph, .ref t0, v7])), (t0, .inl (tc, 7, .inl tf)), (ph, .inl (pc, 4, .inr (.inr (.inr (.inr pf))))), (p0, .inr (0, [.int b0, .int z0, .ref n0])), (n0, .inl (nc0, 40, .inr (.inl y0))), (p1, .inr (0, [.int b1, .int z1, .ref n1])), (n1, .inl (nc1, 40, .inr (.inl y1))), (p2, .inr (0, [.int b2, .int z2, .ref n2])), (n2, .inl (nc2, 40, .inr (.inl y2))), (p3, .inr (0, [.int b3, .int z3, .ref n3])), (n3, .inl (nc3, 40, .inr (.inl y3))), (ah, .inr (4, [.int sh, .ref q1, .ref q2, .int tn, .ref q3, .ref q4, w6, w7, w8])), (q1, .inl (c1, 9, .inl f1)), (q2, .inl (c2, 9, .inl f2)), (q3, .inl (c3, 4, .inl f3)), (q4, .inl (c4, 4, .inl f4))] := hD
      refine lv_iload hx hb dX8_film_54 (lv_at hl 0 rfl) ?_
      refine lv_iload hx hb dX8_film_56 (lv_at hl 1 rfl) ?_
      have rc_41_x := pp_rng v6_54
      have rc_41_y := pp_rng n_39
      refine lv_icmp_ge (tgt := 80) hx hb dX8_film_58 (by decide) (fun c_41 => ?_) (fun c_41 => ?_)
      · skip
        have tc_41 : n_39.toInt ≤ v6_54.toInt := (fa_le _ _).mp c_41
        refine lv_iload hx hb dX8_film_80 (lv_at hl 1 rfl) ?_
        have hP9 := hP.sub (ws' := [(h0, .inr (6, [.ref ah, v1, v2, v3, v4, .ref ph, .ref t0, v7])), (t0, .inl (tc, 7, .inl tf)), (ph, .inl (pc, 4, .inr (.inr (.inr (.inr pf))))), (p0, .inr (0, [.int b0, .int z0, .ref n0])), (n0, .inl (nc0, 40, .inr (.inl y0))), (p1, .inr (0, [.int b1, .int z1, .ref n1])), (n1, .inl (nc1, 40, .inr (.inl y1))), (p2, .inr (0, [.int b2, .int z2, .ref n2])), (n2, .inl (nc2, 40, .inr (.inl y2))), (p3, .inr (0, [.int b3, .int z3, .ref n3])), (n3, .inl (nc3, 40, .inr (.inl y3))), (ah, .inr (4, [.int sh, .ref q1, .ref q2, .int tn, .ref q3, .ref q4, w6, w7, w8])), (q1, .inl (c1, 9, .inl f1)), (q2, .inl (c2, 9, .inl f2)), (q3, .inl (c3, 4, .inl f3)), (q4, .inl (c4, 4, .inl f4))]) [0, 1, 2, 3, 4, 5, 6, 7, 8, 9, 10, 11, 12, 13, 14, 15] rfl
        have hD9 := hD.sub (ws' := [(h0, .inr (6, [.ref ah, v1, v2, v3, v4, .ref ph, .ref t0, v7])), (t0, .inl (tc, 7, .inl tf)), (ph, .inl (pc, 4, .inr (.inr (.inr (.inr pf))))), (p0, .inr (0, [.int b0, .int z0, .ref n0])), (n0, .inl (nc0, 40, .inr (.inl y0))), (p1, .inr (0, [.int b1, .int z1, .ref n1])), (n1, .inl (nc1, 40, .inr (.inl y1))), (p2, .inr (0, [.int b2, .int z2, .ref n2])), (n2, .inl (nc2, 40, .inr (.inl y2))), (p3, .inr (0, [.int b3, .int z3, .ref n3])), (n3, .inl (nc3, 40, .inr (.inl y3))), (ah, .inr (4, [.int sh, .ref q1, .ref q2, .int tn, .ref q3, .ref q4, w6, w7, w8])), (q1, .inl (c1, 9, .inl f1)), (q2, .inl (c2, 9, .inl f2)), (q3, .inl (c3, 4, .inl f3)), (q4, .inl (c4, 4, .inl f4))]) [0, 1, 2, 3, 4, 5, 6, 7, 8, 9, 10, 11, 12, 13, 14, 15] (by decide) rfl
        have hK9 := hK.sub (tys' := [(tc, .int), (pc, .object "LampShapes$Paper"), (nc0, .long), (nc1, .long), (nc2, .long), (nc3, .long), (c1, .int), (c2, .int), (c3, .int), (c4, .int)]) [0, 1, 2, 3, 4, 5, 6, 7, 8, 9] rfl
        exact W.iret (v := n_39) hx hb hr (fun t ht hW => ⟨⟨n_39, (), rfl, trivial, tf, y0, y1, y2, y3, by rw [ht]; exact hP9, va_K.moved hW.alike hK9, hD9⟩, hS.F ht⟩) hS.2.2 dX8_film_82
      · skip
        have tc_41 : ¬ n_39.toInt ≤ v6_54.toInt := fun h => c_41 ((fa_le _ _).mpr h)
        refine lv_aload_n hx hb dX8_film_61 rfl (lv_at hl 3 rfl) ?_
        refine lv_iload hx hb dX8_film_62 (lv_at hl 0 rfl) ?_
        refine lv_lload_n hx hb dX8_film_64 rfl (lv_at hl 2 rfl) ?_
        refine lv_iload hx hb dX8_film_65 (lv_at hl 0 rfl) ?_
        have hPc := hP.sub (ws' := []) [] rfl
        have hKc := hK.sub (tys' := []) [] rfl
        refine vp_callSi (W.runS (As := [.long r_38, .int v6_54]) (rest := [.int v6_54, .ref p2]) ⟨hx, hb, hml, hown, hts⟩ (l_rowOf l dC dI ad r_38 v6_54 ) (va_cwS 2 hts g_x_film_l_rowOf_291 rfl rfl rfl (by decide +kernel) ⟨(Nat.le_of_ble_eq_true rfl), (Nat.le_of_ble_eq_true rfl)⟩) ⟨preS_blind, fun U hU hW => ⟨rfl, preS_at hU hW hPc hKc hev⟩⟩ rfl rfl hl.1 rfl (lv_room (Nat.le_of_ble_eq_true rfl)) dX8_film_67 ⟨(Nat.le_of_ble_eq_true rfl), (Nat.le_of_ble_eq_true rfl)⟩) (fun r_42 hw => ?_)
        obtain ⟨n_43, en_43⟩ : ∃ z : Int64, z = r_42.toInt64 := ⟨_, rfl⟩
        refine lv_i2l (v := n_43) hx hb dX8_film_70 en_43.symm ?_
        clear en_43
        have hPc := hP.sub (ws' := [(p2, .inr (0, [.int b2, .int z2, .ref n2])), (n2, .inl (nc2, 40, .inr (.inl y2)))]) [7, 8] rfl
        have hKc := hK.sub (tys' := [(nc2, .long)]) [4] rfl
        have hDc := hD.sub (ws' := [(p2, .inr (0, [.int b2, .int z2, .ref n2])), (n2, .inl (nc2, 40, .inr (.inl y2)))]) [7, 8] (by decide) rfl
        have hFc := va_free (wc := [(p2, .inr (0, [.int b2, .int z2, .ref n2])), (n2, .inl (nc2, 40, .inr (.inl y2)))]) hD hS hA [7, 8] rfl
        refine va_callv (va_runV (As := [.int v6_54, .long n_43]) (rest := []) ⟨hx, hb, hml, hown, hts⟩ (p_put l dC dI ad p2 v6_54 n_43 b2 (.int z2) n2 nc2 y2 H.size (by first | omega | decide | (simp only [fa_lt, fa_le, fa_eq, and_true, true_and, and_false, false_and, not_true_eq_false, not_false_eq_true, li_0, li_1, li_2, li_3, li_4, li_5, li_6, li_7, li_8, li_9, li_10, li_12, li_15, li_16, li_20, li_30, li_34, li_38, li_40, li_63, li_64, li_65, li_78, li_120, li_1000, li_4000, li_10000, li_11077, li_255, li_65535, li_m1, li_m2, li_m1000000001, li_m1000000002, li_m1000000003, li_m1000000004, li_m1000000005, li_m1000000006, li_m1000000007, or_true, true_or, or_false, false_or, implies_true, true_implies, false_implies] <;> omega))) (cwV 2 hts g_x_film_p_put_275 rfl rfl rfl (by decide +kernel) ⟨(Nat.le_of_ble_eq_true rfl), (Nat.le_of_ble_eq_true rfl)⟩) ⟨preM_blind, va_recv hKc hPc (ci := 0) (q0 := 0) rfl rfl, fun U hU hW => ⟨rfl, preM_at hU hW hPc hKc hDc hev⟩⟩ rfl rfl hl.1 rfl (lv_room (Nat.le_of_ble_eq_true rfl)) dX8_film_71 ⟨(Nat.le_of_ble_eq_true rfl), (Nat.le_of_ble_eq_true rfl)⟩) hS (fun q _ h => hFc q h) hFc (fun u t H1 locs ht hvm hw hB hz1 hk1 hS => ?_)
        obtain ⟨g_45, hP1, hK1, hD1⟩ := hB
        rw [ht] at hP1
        have hK1 := va_K.moved hvm.symm hK1
        obtain ⟨hP, hD⟩ := va_join (wr := [(h0, .inr (6, [.ref ah, v1, v2, v3, v4, .ref ph, .ref t0, v7])), (t0, .inl (tc, 7, .inl tf)), (ph, .inl (pc, 4, .inr (.inr (.inr (.inr pf))))), (p0, .inr (0, [.int b0, .int z0, .ref n0])), (n0, .inl (nc0, 40, .inr (.inl y0))), (p1, .inr (0, [.int b1, .int z1, .ref n1])), (n1, .inl (nc1, 40, .inr (.inl y1))), (p3, .inr (0, [.int b3, .int z3, .ref n3])), (n3, .inl (nc3, 40, .inr (.inl y3))), (ah, .inr (4, [.int sh, .ref q1, .ref q2, .int tn, .ref q3, .ref q4, w6, w7, w8])), (q1, .inl (c1, 9, .inl f1)), (q2, .inl (c2, 9, .inl f2)), (q3, .inl (c3, 4, .inl f3)), (q4, .inl (c4, 4, .inl f4))]) (w1 := [(p2, .inr (0, [.int b2, .int z2, .ref n2])), (n2, .inl (nc2, 40, .inr (.inl g_45)))]) hP hD [7, 8] [0, 1, 2, 3, 4, 5, 6, 9, 10, 11, 12, 13, 14, 15] rfl rfl (by decide) (by decide) hk1 hFc hP1 hD1
        generalize H1 = H at hP hS ⊢
        have hP : va_P (dC, dI) vwCl [(h0, .inr (6, [.ref ah, v1, v2, v3, v4, .ref ph, .ref t0, v7])), (t0, .inl (tc, 7, .inl tf)), (ph, .inl (pc, 4, .inr (.inr (.inr (.inr pf))))), (p0, .inr (0, [.int b0, .int z0, .ref n0])), (n0, .inl (nc0, 40, .inr (.inl y0))), (p1, .inr (0, [.int b1, .int z1, .ref n1])), (n1, .inl (nc1, 40, .inr (.inl y1))), (p3, .inr (0, [.int b3, .int z3, .ref n3])), (n3, .inl (nc3, 40, .inr (.inl y3))), (ah, .inr (4, [.int sh, .ref q1, .ref q2, .int tn, .ref q3, .ref q4, w6, w7, w8])), (q1, .inl (c1, 9, .inl f1)), (q2, .inl (c2, 9, .inl f2)), (q3, .inl (c3, 4, .inl f3)), (q4, .inl (c4, 4, .inl f4)), (p2, .inr (0, [.int b2, .int z2, .ref n2])), (n2, .inl (nc2, 40, .inr (.inl g_45)))] H := hP
        have hD : va_D A [(h0, .inr (6, [.ref ah, v1, v2, v3, v4, .ref ph, .ref t0, v7])), (t0, .inl (tc, 7, .inl tf)), (ph, .inl (pc, 4, .inr (.inr (.inr (.inr pf))))), (p0, .inr (0, [.int b0, .int z0, .ref n0])), (n0, .inl (nc0, 40, .inr (.inl y0))), (p1, .inr (0, [.int b1, .int z1, .ref n1])), (n1, .inl (nc1, 40, .inr (.inl y1))), (p3, .inr (0, [.int b3, .int z3, .ref n3])), (n3, .inl (nc3, 40, .inr (.inl y3))), (ah, .inr (4, [.int sh, .ref q1, .ref q2, .int tn, .ref q3, .ref q4, w6, w7, w8])), (q1, .inl (c1, 9, .inl f1)), (q2, .inl (c2, 9, .inl f2)), (q3, .inl (c3, 4, .inl f3)), (q4, .inl (c4, 4, .inl f4)), (p2, .inr (0, [.int b2, .int z2, .ref n2])), (n2, .inl (nc2, 40, .inr (.inl g_45)))] := hD
        obtain ⟨n_46, en_46⟩ : ∃ y : Int32, y = v6_54 + 1 := ⟨_, rfl⟩
        have tn_46 : n_46.toInt = v6_54.toInt + 1 := pp_add en_46 rfl rfl (by omega) (by omega)
        refine lv_iinc (v := n_46) (lv' := [(6, .int n_46), (5, .int n_39), (3, .long r_38), (2, .ref p2), (0, .ref h0), (1, .int 2)]) hx hb dX8_film_74 hl (k := 0) rfl (by rw [en_46]; rfl) (by decide) rfl (fun ls hl => ?_)
        clear en_46
        refine lv_goto (tgt := 54) hx hb dX8_film_77 (by decide) ?_
        exact ihk_40 (n_46, y0, y1, g_45, y3) _ _ _ (by show (n_39.toInt - n_46.toInt).toNat < k_40; omega) ⟨(by first | omega | decide | (simp only [fa_lt, fa_le, fa_eq, and_true, true_and, and_false, false_and, not_true_eq_false, not_false_eq_true, li_0, li_1, li_2, li_3, li_4, li_5, li_6, li_7, li_8, li_9, li_10, li_12, li_15, li_16, li_20, li_30, li_34, li_38, li_40, li_63, li_64, li_65, li_78, li_120, li_1000, li_4000, li_10000, li_11077, li_255, li_65535, li_m1, li_m2, li_m1000000001, li_m1000000002, li_m1000000003, li_m1000000004, li_m1000000005, li_m1000000006, li_m1000000007, or_true, true_or, or_false, false_or, implies_true, true_implies, false_implies] <;> omega)), hP.sub [0, 1, 2, 3, 4, 5, 6, 14, 15, 7, 8, 9, 10, 11, 12, 13] rfl, hD.sub [0, 1, 2, 3, 4, 5, 6, 14, 15, 7, 8, 9, 10, 11, 12, 13] (by decide) rfl, hS, lv_sub hl [0, 1, 2, 3, 4, 5] rfl⟩
    · skip
      have tc_37 : ¬ r_36.toInt = 0 := fun h => c_37 ((fa_eq _ _).mpr h)
      refine lv_aload_n hx hb dX8_film_24 rfl (lv_at hl 1 rfl) ?_
      refine lv_ldcw hx hb hown (hts _ (List.mem_of_getElem? (i := 95) rfl)) dX8_film_25 ?_
      have hPc := hP.sub (ws' := [(h0, .inr (6, [.ref ah, v1, v2, v3, v4, .ref ph, .ref t0, v7])), (t0, .inl (tc, 7, .inl tf))]) [0, 1] rfl
      have hKc := hK.sub (tys' := [(tc, .int)]) [0] rfl
      have hDc := hD.sub (ws' := [(h0, .inr (6, [.ref ah, v1, v2, v3, v4, .ref ph, .ref t0, v7])), (t0, .inl (tc, 7, .inl tf))]) [0, 1] (by decide) rfl
      have hFc := va_free (wc := [(h0, .inr (6, [.ref ah, v1, v2, v3, v4, .ref ph, .ref t0, v7])), (t0, .inl (tc, 7, .inl tf))]) hD hS hA [0, 1] rfl
      refine va_calli (va_runV (As := [.int (-1000000006)]) (rest := []) ⟨hx, hb, hml, hown, hts⟩ (f_missing l dC dI ad h0 (.ref ah) v1 v2 v3 v4 (.ref ph) t0 v7 tc tf s.heap.size ) (cwV 1 hts g_x_film_f_missing_63 rfl rfl rfl (by decide +kernel) ⟨(Nat.le_of_ble_eq_true rfl), (Nat.le_of_ble_eq_true rfl)⟩) ⟨preM_blind, va_recv hKc hPc (ci := 6) (q0 := 0) rfl rfl, fun U hU hW => ⟨rfl, preM_at hU hW hPc hKc hDc hev⟩⟩ rfl rfl hl.1 rfl (lv_room (Nat.le_of_ble_eq_true rfl)) dX8_film_28 ⟨(Nat.le_of_ble_eq_true rfl), (Nat.le_of_ble_eq_true rfl)⟩) hS (fun q _ h => hFc q h) hFc (fun r_47 u t H1 locs ht hvm hw hB hz1 hk1 hS => ?_)
      obtain ⟨tg_48, hP1, hK1, hD1⟩ := hB
      rw [ht] at hP1
      have hK1 := va_K.moved hvm.symm hK1
      obtain ⟨hP, hD⟩ := va_join (wr := [(ph, .inl (pc, 4, .inr (.inr (.inr (.inr pf))))), (p0, .inr (0, [.int b0, .int z0, .ref n0])), (n0, .inl (nc0, 40, .inr (.inl g0))), (p1, .inr (0, [.int b1, .int z1, .ref n1])), (n1, .inl (nc1, 40, .inr (.inl g1))), (p2, .inr (0, [.int b2, .int z2, .ref n2])), (n2, .inl (nc2, 40, .inr (.inl g2))), (p3, .inr (0, [.int b3, .int z3, .ref n3])), (n3, .inl (nc3, 40, .inr (.inl g3))), (ah, .inr (4, [.int sh, .ref q1, .ref q2, .int tn, .ref q3, .ref q4, w6, w7, w8])), (q1, .inl (c1, 9, .inl f1)), (q2, .inl (c2, 9, .inl f2)), (q3, .inl (c3, 4, .inl f3)), (q4, .inl (c4, 4, .inl f4))]) (w1 := [(h0, .inr (6, [.ref ah, v1, v2, v3, v4, .ref ph, .ref t0, v7])), (t0, .inl (tc, 7, .inl tg_48))]) hP hD [0, 1] [2, 3, 4, 5, 6, 7, 8, 9, 10, 11, 12, 13, 14, 15] rfl rfl (by decide) (by decide) hk1 hFc hP1 hD1
      generalize H1 = H at hP hS ⊢
      have hP : va_P (dC, dI) vwCl [(ph, .inl (pc, 4, .inr (.inr (.inr (.inr pf))))), (p0, .inr (0, [.int b0, .int z0, .ref n0])), (n0, .inl (nc0, 40, .inr (.inl g0))), (p1, .inr (0, [.int b1, .int z1, .ref n1])), (n1, .inl (nc1, 40, .inr (.inl g1))), (p2, .inr (0, [.int b2, .int z2, .ref n2])), (n2, .inl (nc2, 40, .inr (.inl g2))), (p3, .inr (0, [.int b3, .int z3, .ref n3])), (n3, .inl (nc3, 40, .inr (.inl g3))), (ah, .inr (4, [.int sh, .ref q1, .ref q2, .int tn, .ref q3, .ref q4, w6, w7, w8])), (q1, .inl (c1, 9, .inl f1)), (q2, .inl (c2, 9, .inl f2)), (q3, .inl (c3, 4, .inl f3)), (q4, .inl (c4, 4, .inl f4)), (h0, .inr (6, [.ref ah, v1, v2, v3, v4, .ref ph, .ref t0, v7])), (t0, .inl (tc, 7, .inl tg_48))] H := hP
      have hD : va_D A [(ph, .inl (pc, 4, .inr (.inr (.inr (.inr pf))))), (p0, .inr (0, [.int b0, .int z0, .ref n0])), (n0, .inl (nc0, 40, .inr (.inl g0))), (p1, .inr (0, [.int b1, .int z1, .ref n1])), (n1, .inl (nc1, 40, .inr (.inl g1))), (p2, .inr (0, [.int b2, .int z2, .ref n2])), (n2, .inl (nc2, 40, .inr (.inl g2))), (p3, .inr (0, [.int b3, .int z3, .ref n3])), (n3, .inl (nc3, 40, .inr (.inl g3))), (ah, .inr (4, [.int sh, .ref q1, .ref q2, .int tn, .ref q3, .ref q4, w6, w7, w8])), (q1, .inl (c1, 9, .inl f1)), (q2, .inl (c2, 9, .inl f2)), (q3, .inl (c3, 4, .inl f3)), (q4, .inl (c4, 4, .inl f4)), (h0, .inr (6, [.ref ah, v1, v2, v3, v4, .ref ph, .ref t0, v7])), (t0, .inl (tc, 7, .inl tg_48))] := hD
      subst hw
      have hP9 := hP.sub (ws' := [(h0, .inr (6, [.ref ah, v1, v2, v3, v4, .ref ph, .ref t0, v7])), (t0, .inl (tc, 7, .inl tg_48)), (ph, .inl (pc, 4, .inr (.inr (.inr (.inr pf))))), (p0, .inr (0, [.int b0, .int z0, .ref n0])), (n0, .inl (nc0, 40, .inr (.inl g0))), (p1, .inr (0, [.int b1, .int z1, .ref n1])), (n1, .inl (nc1, 40, .inr (.inl g1))), (p2, .inr (0, [.int b2, .int z2, .ref n2])), (n2, .inl (nc2, 40, .inr (.inl g2))), (p3, .inr (0, [.int b3, .int z3, .ref n3])), (n3, .inl (nc3, 40, .inr (.inl g3))), (ah, .inr (4, [.int sh, .ref q1, .ref q2, .int tn, .ref q3, .ref q4, w6, w7, w8])), (q1, .inl (c1, 9, .inl f1)), (q2, .inl (c2, 9, .inl f2)), (q3, .inl (c3, 4, .inl f3)), (q4, .inl (c4, 4, .inl f4))]) [14, 15, 0, 1, 2, 3, 4, 5, 6, 7, 8, 9, 10, 11, 12, 13] rfl
      have hD9 := hD.sub (ws' := [(h0, .inr (6, [.ref ah, v1, v2, v3, v4, .ref ph, .ref t0, v7])), (t0, .inl (tc, 7, .inl tg_48)), (ph, .inl (pc, 4, .inr (.inr (.inr (.inr pf))))), (p0, .inr (0, [.int b0, .int z0, .ref n0])), (n0, .inl (nc0, 40, .inr (.inl g0))), (p1, .inr (0, [.int b1, .int z1, .ref n1])), (n1, .inl (nc1, 40, .inr (.inl g1))), (p2, .inr (0, [.int b2, .int z2, .ref n2])), (n2, .inl (nc2, 40, .inr (.inl g2))), (p3, .inr (0, [.int b3, .int z3, .ref n3])), (n3, .inl (nc3, 40, .inr (.inl g3))), (ah, .inr (4, [.int sh, .ref q1, .ref q2, .int tn, .ref q3, .ref q4, w6, w7, w8])), (q1, .inl (c1, 9, .inl f1)), (q2, .inl (c2, 9, .inl f2)), (q3, .inl (c3, 4, .inl f3)), (q4, .inl (c4, 4, .inl f4))]) [14, 15, 0, 1, 2, 3, 4, 5, 6, 7, 8, 9, 10, 11, 12, 13] (by decide) rfl
      have hK9 := hK.sub (tys' := [(tc, .int), (pc, .object "LampShapes$Paper"), (nc0, .long), (nc1, .long), (nc2, .long), (nc3, .long), (c1, .int), (c2, .int), (c3, .int), (c4, .int)]) [0, 1, 2, 3, 4, 5, 6, 7, 8, 9] rfl
      exact W.iret (v := ((-1000000006) : Int32)) hx hb hr (fun t ht hW => ⟨⟨((-1000000006) : Int32), (), rfl, trivial, tg_48, g0, g1, g2, g3, by rw [ht]; exact hP9, va_K.moved hW.alike hK9, hD9⟩, hS.F ht⟩) hS.2.2 dX8_film_31
  · skip
    refine Met.ofW (cc := cX8_film) (maxL := 7) (ret := (some .int)) (by decide) rfl ?_
    intro p e s m args below meth c s₁ B hml hv
    obtain ⟨rfl, hsz, hP, hK, hD0, hev⟩ := hv
    have hx := B.exec
    have hb := B.bytes
    have hr := B.returns
    have hts := atoms_spec (ws := w_x_film) B.pre
    have hown : s.vm.findClass RX8 = some m.cls := findClass_of_methodNamed B.named
    have hlocks := B.notSynchronized
    have inX8 : ∀ w ∈ wsX80, w ∈ w_x_film := fun w h => List.mem_cons_of_mem _ (List.mem_append_left _ (List.mem_append_left _ (List.mem_append_right _ h)))
    have inX2 : ∀ w ∈ wsX20, w ∈ w_x_film := fun w h => List.mem_cons_of_mem _ (List.mem_append_left _ (List.mem_append_right _ h))
    have inX6 : ∀ w ∈ wsX60, w ∈ w_x_film := fun w h => List.mem_cons_of_mem _ (List.mem_append_right _ h)
    subst hsz
    have hD := hD0.self (sz := s.heap.size)
    generalize hAe : va_A [(h0, .inr (6, [.ref ah, v1, v2, v3, v4, .ref ph, .ref t0, v7])), (t0, .inl (tc, 7, .inl tf)), (ph, .inl (pc, 4, .inr (.inr (.inr (.inr pf))))), (p0, .inr (0, [.int b0, .int z0, .ref n0])), (n0, .inl (nc0, 40, .inr (.inl g0))), (p1, .inr (0, [.int b1, .int z1, .ref n1])), (n1, .inl (nc1, 40, .inr (.inl g1))), (p2, .inr (0, [.int b2, .int z2, .ref n2])), (n2, .inl (nc2, 40, .inr (.inl g2))), (p3, .inr (0, [.int b3, .int z3, .ref n3])), (n3, .inl (nc3, 40, .inr (.inl g3))), (ah, .inr (4, [.int sh, .ref q1, .ref q2, .int tn, .ref q3, .ref q4, w6, w7, w8])), (q1, .inl (c1, 9, .inl f1)), (q2, .inl (c2, 9, .inl f2)), (q3, .inl (c3, 4, .inl f3)), (q4, .inl (c4, 4, .inl f4))] s.heap.size = A at hD ⊢
    have hA : ∀ q : Nat, s.heap.size ≤ q → A q := fun q h => by rw [← hAe]; exact Or.inr h
    have hS : va_S A s.heap s.heap [] := va_S.rf
    have hP : va_P (dC, dI) vwCl [(h0, .inr (6, [.ref ah, v1, v2, v3, v4, .ref ph, .ref t0, v7])), (t0, .inl (tc, 7, .inl tf)), (ph, .inl (pc, 4, .inr (.inr (.inr (.inr pf))))), (p0, .inr (0, [.int b0, .int z0, .ref n0])), (n0, .inl (nc0, 40, .inr (.inl g0))), (p1, .inr (0, [.int b1, .int z1, .ref n1])), (n1, .inl (nc1, 40, .inr (.inl g1))), (p2, .inr (0, [.int b2, .int z2, .ref n2])), (n2, .inl (nc2, 40, .inr (.inl g2))), (p3, .inr (0, [.int b3, .int z3, .ref n3])), (n3, .inl (nc3, 40, .inr (.inl g3))), (ah, .inr (4, [.int sh, .ref q1, .ref q2, .int tn, .ref q3, .ref q4, w6, w7, w8])), (q1, .inl (c1, 9, .inl f1)), (q2, .inl (c2, 9, .inl f2)), (q3, .inl (c3, 4, .inl f3)), (q4, .inl (c4, 4, .inl f4))] s.heap := hP
    have hl := lv_entry ([.ref h0, .int 3]) (n := 7) (Nat.le_of_ble_eq_true rfl)
    rw [lg_entry_eq]
    generalize (lg_sl ([.ref h0, .int 3]) ++ List.replicate (7 - (lg_sl ([.ref h0, .int 3])).length) Slot.unset).toArray = ls at hl ⊢
    have hl : lv_has ls 7 [(0, .ref h0), (1, .int 3)] := hl
    refine lv_aload_n hx hb dX8_film_0 rfl (lv_at hl 0 rfl) ?_
    refine lv_iload_n hx hb dX8_film_1 rfl (lv_at hl 1 rfl) ?_
    have hPc := hP.sub (ws' := [(h0, .inr (6, [.ref ah, v1, v2, v3, v4, .ref ph, .ref t0, v7])), (ph, .inl (pc, 4, .inr (.inr (.inr (.inr pf)))))]) [0, 2] rfl
    have hKc := hK.sub (tys' := [(pc, .object "LampShapes$Paper")]) [1] rfl
    refine va_csq (W.runV (As := [.int 3]) (rest := []) ⟨hx, hb, hml, hown, hts⟩ (c_paperAt_3 l dC dI ad h0 (.ref ah) v1 v2 v3 v4 ph (.ref t0) v7 pc pf p3 hp3) (cwV 1 hts g_x_film_c_paperAt_3_256 rfl rfl rfl (by decide +kernel) ⟨(Nat.le_of_ble_eq_true rfl), (Nat.le_of_ble_eq_true rfl)⟩) ⟨preS_blind, va_recv hKc hPc (ci := 6) (q0 := 0) rfl rfl, fun U hU hW => ⟨rfl, preS_at hU hW hPc hKc hev⟩⟩ rfl rfl hl.1 rfl (lv_room (Nat.le_of_ble_eq_true rfl)) dX8_film_2 ⟨(Nat.le_of_ble_eq_true rfl), (Nat.le_of_ble_eq_true rfl)⟩) (fun r_49 hw => ?_)
    subst hw
    refine pp_tv (y := .ref p3) rfl ?_
    refine lv_astore_n (lv' := [(2, .ref p3), (0, .ref h0), (1, .int 3)]) hx hb dX8_film_5 rfl hl (by decide) rfl (fun ls hl => ?_)
    refine lv_aload_n hx hb dX8_film_6 rfl (lv_at hl 0 rfl) ?_
    refine lv_ifnonnull (tgt := 17) hx hb dX8_film_7 (by decide) ?_
    refine lv_aload_n hx hb dX8_film_17 rfl (lv_at hl 0 rfl) ?_
    have hPc := hP.sub (ws' := [(p3, .inr (0, [.int b3, .int z3, .ref n3]))]) [9] rfl
    have hKc := hK.sub (tys' := []) [] rfl
    refine vp_callSi (W.runV (As := []) (rest := []) ⟨hx, hb, hml, hown, hts⟩ (p_isMissing l dC dI ad p3 b3 (.int z3) (.ref n3) ) (cwV 0 hts g_x_film_p_isMissing_268 rfl rfl rfl (by decide +kernel) ⟨(Nat.le_of_ble_eq_true rfl), (Nat.le_of_ble_eq_true rfl)⟩) ⟨preS_blind, va_recv hKc hPc (ci := 0) (q0 := 0) rfl rfl, fun U hU hW => ⟨rfl, preS_at hU hW hPc hKc hev⟩⟩ rfl rfl hl.1 rfl (lv_room (Nat.le_of_ble_eq_true rfl)) dX8_film_18 ⟨(Nat.le_of_ble_eq_true rfl), (Nat.le_of_ble_eq_true rfl)⟩) (fun r_50 hw => ?_)
    have hr_50 : (r_50.toInt = 1 ∧ b3.toInt = 0) ∨ (r_50.toInt = 0 ∧ ¬ b3.toInt = 0) := hw
    refine lv_if_eq (tgt := 32) hx hb dX8_film_21 (by decide) (fun c_51 => ?_) (fun c_51 => ?_)
    · skip
      have tc_51 : r_50.toInt = 0 := (fa_eq _ _).mp c_51
      refine lv_aload_n hx hb dX8_film_32 rfl (lv_at hl 1 rfl) ?_
      refine va_get (D := (dC, dI)) (ci := 6) (v := .ref ah) (C := RX8) (T := TX8) (N := 8) hx hb hts inX8 hown hK hP 0 rfl rfl 0 (by decide) (hts _ (List.mem_of_getElem? (i := 19) rfl)) (fun _ h9 => h9) rfl dX8_film_33 ?_
      have hPc := hP.sub (ws' := [(ah, .inr (4, [.int sh, .ref q1, .ref q2, .int tn, .ref q3, .ref q4, w6, w7, w8])), (q1, .inl (c1, 9, .inl f1)), (q2, .inl (c2, 9, .inl f2)), (q3, .inl (c3, 4, .inl f3)), (q4, .inl (c4, 4, .inl f4))]) [11, 12, 13, 14, 15] rfl
      have hKc := hK.sub (tys' := [(c1, .int), (c2, .int), (c3, .int), (c4, .int)]) [6, 7, 8, 9] rfl
      refine vp_callSl (W.runV (As := []) (rest := []) ⟨hx, hb, hml, hown, hts⟩ (s_darkCells l dC dI ad ah sh q1 q2 tn q3 q4 w6 w7 w8 c1 f1 c2 f2 c3 f3 c4 f4 hsh) (cwV 0 hts g_x_film_s_darkCells_134 rfl rfl rfl (by decide +kernel) ⟨(Nat.le_of_ble_eq_true rfl), (Nat.le_of_ble_eq_true rfl)⟩) ⟨preS_blind, va_recv hKc hPc (ci := 4) (q0 := 0) rfl rfl, fun U hU hW => ⟨rfl, preS_at hU hW hPc hKc hev⟩⟩ rfl rfl hl.1 rfl (lv_room (Nat.le_of_ble_eq_true rfl)) dX8_film_36 ⟨(Nat.le_of_ble_eq_true rfl), (Nat.le_of_ble_eq_true rfl)⟩) (fun r_52 hw => ?_)
      refine lv_lstore_n (lv' := [(3, .long r_52), (2, .ref p3), (0, .ref h0), (1, .int 3)]) hx hb dX8_film_39 rfl hl (by decide) rfl (fun ls hl => ?_)
      refine lv_aload_n hx hb dX8_film_40 rfl (lv_at hl 1 rfl) ?_
      refine va_getN (D := (dC, dI)) (ci := 0) (v := .int z3) (C := RX2) (T := TX2) (N := 3) hx hb hts inX2 hown hK hP 9 rfl rfl 1 (by decide) (ev_nest hev 22 rfl) (fun _ h9 => h9) rfl dX8_film_41 ?_
      refine lv_bipush (v := 8) hx hb dX8_film_44 (by decide) ?_
      refine va_mmin hx hb (by rw [hml]; exact hl.1.symm) hown (hts _ (List.mem_of_getElem? (i := 82) rfl)) (hts _ (List.mem_of_getElem? (i := 83) rfl)) (hts _ (List.mem_of_getElem? (i := 84) rfl)) (hts _ (List.mem_of_getElem? (i := 85) rfl)) (Nat.le_of_ble_eq_true rfl) (Nat.le_of_ble_eq_true rfl) (Nat.le_of_ble_eq_true rfl) (Nat.le_of_ble_eq_true rfl) dX8_film_46 ?_
      refine lv_topi (fun n_53 en_53 => ?_)
      have tn_53 : n_53.toInt ≤ z3.toInt ∧ n_53.toInt ≤ 8 ∧ (n_53.toInt = z3.toInt ∨ n_53.toInt = 8) := pp_min en_53
      refine lv_istore (lv' := [(5, .int n_53), (3, .long r_52), (2, .ref p3), (0, .ref h0), (1, .int 3)]) hx hb dX8_film_49 hl (by decide) rfl (fun ls hl => ?_)
      refine lv_iconst (v := 0) hx hb dX8_film_51 (by decide) ?_
      refine lv_istore (lv' := [(6, .int 0), (5, .int n_53), (3, .long r_52), (2, .ref p3), (0, .ref h0), (1, .int 3)]) hx hb dX8_film_52 hl (by decide) rfl (fun ls hl => ?_)
      refine pp_loop (ι := Int32 × (Nat → Int64) × (Nat → Int64) × (Nat → Int64) × (Nat → Int64)) (fun ⟨v6_54, y0, y1, y2, y3⟩ => (n_53.toInt - v6_54.toInt).toNat) (fun ⟨v6_54, y0, y1, y2, y3⟩ H locs ls => (0 ≤ v6_54.toInt) ∧ va_P (dC, dI) vwCl [(h0, .inr (6, [.ref ah, v1, v2, v3, v4, .ref ph, .ref t0, v7])), (t0, .inl (tc, 7, .inl tf)), (ph, .inl (pc, 4, .inr (.inr (.inr (.inr pf))))), (p0, .inr (0, [.int b0, .int z0, .ref n0])), (n0, .inl (nc0, 40, .inr (.inl y0))), (p1, .inr (0, [.int b1, .int z1, .ref n1])), (n1, .inl (nc1, 40, .inr (.inl y1))), (p2, .inr (0, [.int b2, .int z2, .ref n2])), (n2, .inl (nc2, 40, .inr (.inl y2))), (p3, .inr (0, [.int b3, .int z3, .ref n3])), (n3, .inl (nc3, 40, .inr (.inl y3))), (ah, .inr (4, [.int sh, .ref q1, .ref q2, .int tn, .ref q3, .ref q4, w6, w7, w8])), (q1, .inl (c1, 9, .inl f1)), (q2, .inl (c2, 9, .inl f2)), (q3, .inl (c3, 4, .inl f3)), (q4, .inl (c4, 4, .inl f4))] H ∧ va_D A [(h0, .inr (6, [.ref ah, v1, v2, v3, v4, .ref ph, .ref t0, v7])), (t0, .inl (tc, 7, .inl tf)), (ph, .inl (pc, 4, .inr (.inr (.inr (.inr pf))))), (p0, .inr (0, [.int b0, .int z0, .ref n0])), (n0, .inl (nc0, 40, .inr (.inl y0))), (p1, .inr (0, [.int b1, .int z1, .ref n1])), (n1, .inl (nc1, 40, .inr (.inl y1))), (p2, .inr (0, [.int b2, .int z2, .ref n2])), (n2, .inl (nc2, 40, .inr (.inl y2))), (p3, .inr (0, [.int b3, .int z3, .ref n3])), (n3, .inl (nc3, 40, .inr (.inl y3))), (ah, .inr (4, [.int sh, .ref q1, .ref q2, .int tn, .ref q3, .ref q4, w6, w7, w8])), (q1, .inl (c1, 9, .inl f1)), (q2, .inl (c2, 9, .inl f2)), (q3, .inl (c3, 4, .inl f3)), (q4, .inl (c4, 4, .inl f4))] ∧ va_S A s.heap H locs ∧ lv_has ls 7 [(6, .int v6_54), (5, .int n_53), (3, .long r_52), (2, .ref p3), (0, .ref h0), (1, .int 3)]) ?_ (0, g0, g1, g2, g3) _ _ _ ⟨(by first | omega | decide | (simp only [fa_lt, fa_le, fa_eq, and_true, true_and, and_false, false_and, not_true_eq_false, not_false_eq_true, li_0, li_1, li_2, li_3, li_4, li_5, li_6, li_7, li_8, li_9, li_10, li_12, li_15, li_16, li_20, li_30, li_34, li_38, li_40, li_63, li_64, li_65, li_78, li_120, li_1000, li_4000, li_10000, li_11077, li_255, li_65535, li_m1, li_m2, li_m1000000001, li_m1000000002, li_m1000000003, li_m1000000004, li_m1000000005, li_m1000000006, li_m1000000007, or_true, true_or, or_false, false_or, implies_true, true_implies, false_implies] <;> omega)), hP.sub [0, 1, 2, 3, 4, 5, 6, 7, 8, 9, 10, 11, 12, 13, 14, 15] rfl, hD.sub [0, 1, 2, 3, 4, 5, 6, 7, 8, 9, 10, 11, 12, 13, 14, 15] (by decide) rfl, hS, lv_sub hl [0, 1, 2, 3, 4, 5] rfl⟩
      intro k_54 ihk_54 u H locs ls hm hI
      obtain ⟨v6_54, y0, y1, y2, y3⟩ := u
      obtain ⟨jk_54_0, hP, hD, hS, hl⟩ := hI
      have hmk_54 : (n_53.toInt - v6_54.toInt).toNat < k_54 + 1 := hm
      clear hm
      have jk_54_0 : 0 ≤ v6_54.toInt := jk_54_0
      have hl : lv_has ls 7 [(6, .int v6_54), (5, .int n_53), (3, .long r_52), (2, .ref p3), (0, .ref h0), (1, .int 3)] := hl
      have hP : va_P (dC, dI) vwCl [(h0, .inr (6, [.ref ah, v1, v2, v3, v4, .ref ph, .ref t0, v7])), (t0, .inl (tc, 7, .inl tf)), (ph, .inl (pc, 4, .inr (.inr (.inr (.inr pf))))), (p0, .inr (0, [.int b0, .int z0, .ref n0])), (n0, .inl (nc0, 40, .inr (.inl y0))), (p1, .inr (0, [.int b1, .int z1, .ref n1])), (n1, .inl (nc1, 40, .inr (.inl y1))), (p2, .inr (0, [.int b2, .int z2, .ref n2])), (n2, .inl (nc2, 40, .inr (.inl y2))), (p3, .inr (0, [.int b3, .int z3, .ref n3])), (n3, .inl (nc3, 40, .inr (.inl y3))), (ah, .inr (4, [.int sh, .ref q1, .ref q2, .int tn, .ref q3, .ref q4, w6, w7, w8])), (q1, .inl (c1, 9, .inl f1)), (q2, .inl (c2, 9, .inl f2)), (q3, .inl (c3, 4, .inl f3)), (q4, .inl (c4, 4, .inl f4))] H := hP
      have hD : va_D A [(h0, .inr (6, [.ref ah, v1, v2, v3, v4, .ref ph, .ref t0, v7])), (t0, .inl (tc, 7, .inl tf)), (ph, .inl (pc, 4, .inr (.inr (.inr (.inr pf))))), (p0, .inr (0, [.int b0, .int z0, .ref n0])), (n0, .inl (nc0, 40, .inr (.inl y0))), (p1, .inr (0, [.int b1, .int z1, .ref n1])), (n1, .inl (nc1, 40, .inr (.inl y1))), (p2, .inr (0, [.int b2, .int z2, .ref n2])), (n2, .inl (nc2, 40, .inr (.inl y2))), (p3, .inr (0, [.int b3, .int z3, .ref n3])), (n3, .inl (nc3, 40, .inr (.inl y3))), (ah, .inr (4, [.int sh, .ref q1, .ref q2, .int tn, .ref q3, .ref q4, w6, w7, w8])), (q1, .inl (c1, 9, .inl f1)), (q2, .inl (c2, 9, .inl f2)), (q3, .inl (c3, 4, .inl f3)), (q4, .inl (c4, 4, .inl f4))] := hD
      refine lv_iload hx hb dX8_film_54 (lv_at hl 0 rfl) ?_
      refine lv_iload hx hb dX8_film_56 (lv_at hl 1 rfl) ?_
      have rc_55_x := pp_rng v6_54
      have rc_55_y := pp_rng n_53
      refine lv_icmp_ge (tgt := 80) hx hb dX8_film_58 (by decide) (fun c_55 => ?_) (fun c_55 => ?_)
      · skip
        have tc_55 : n_53.toInt ≤ v6_54.toInt := (fa_le _ _).mp c_55
        refine lv_iload hx hb dX8_film_80 (lv_at hl 1 rfl) ?_
        have hP9 := hP.sub (ws' := [(h0, .inr (6, [.ref ah, v1, v2, v3, v4, .ref ph, .ref t0, v7])), (t0, .inl (tc, 7, .inl tf)), (ph, .inl (pc, 4, .inr (.inr (.inr (.inr pf))))), (p0, .inr (0, [.int b0, .int z0, .ref n0])), (n0, .inl (nc0, 40, .inr (.inl y0))), (p1, .inr (0, [.int b1, .int z1, .ref n1])), (n1, .inl (nc1, 40, .inr (.inl y1))), (p2, .inr (0, [.int b2, .int z2, .ref n2])), (n2, .inl (nc2, 40, .inr (.inl y2))), (p3, .inr (0, [.int b3, .int z3, .ref n3])), (n3, .inl (nc3, 40, .inr (.inl y3))), (ah, .inr (4, [.int sh, .ref q1, .ref q2, .int tn, .ref q3, .ref q4, w6, w7, w8])), (q1, .inl (c1, 9, .inl f1)), (q2, .inl (c2, 9, .inl f2)), (q3, .inl (c3, 4, .inl f3)), (q4, .inl (c4, 4, .inl f4))]) [0, 1, 2, 3, 4, 5, 6, 7, 8, 9, 10, 11, 12, 13, 14, 15] rfl
        have hD9 := hD.sub (ws' := [(h0, .inr (6, [.ref ah, v1, v2, v3, v4, .ref ph, .ref t0, v7])), (t0, .inl (tc, 7, .inl tf)), (ph, .inl (pc, 4, .inr (.inr (.inr (.inr pf))))), (p0, .inr (0, [.int b0, .int z0, .ref n0])), (n0, .inl (nc0, 40, .inr (.inl y0))), (p1, .inr (0, [.int b1, .int z1, .ref n1])), (n1, .inl (nc1, 40, .inr (.inl y1))), (p2, .inr (0, [.int b2, .int z2, .ref n2])), (n2, .inl (nc2, 40, .inr (.inl y2))), (p3, .inr (0, [.int b3, .int z3, .ref n3])), (n3, .inl (nc3, 40, .inr (.inl y3))), (ah, .inr (4, [.int sh, .ref q1, .ref q2, .int tn, .ref q3, .ref q4, w6, w7, w8])), (q1, .inl (c1, 9, .inl f1)), (q2, .inl (c2, 9, .inl f2)), (q3, .inl (c3, 4, .inl f3)), (q4, .inl (c4, 4, .inl f4))]) [0, 1, 2, 3, 4, 5, 6, 7, 8, 9, 10, 11, 12, 13, 14, 15] (by decide) rfl
        have hK9 := hK.sub (tys' := [(tc, .int), (pc, .object "LampShapes$Paper"), (nc0, .long), (nc1, .long), (nc2, .long), (nc3, .long), (c1, .int), (c2, .int), (c3, .int), (c4, .int)]) [0, 1, 2, 3, 4, 5, 6, 7, 8, 9] rfl
        exact W.iret (v := n_53) hx hb hr (fun t ht hW => ⟨⟨n_53, (), rfl, trivial, tf, y0, y1, y2, y3, by rw [ht]; exact hP9, va_K.moved hW.alike hK9, hD9⟩, hS.F ht⟩) hS.2.2 dX8_film_82
      · skip
        have tc_55 : ¬ n_53.toInt ≤ v6_54.toInt := fun h => c_55 ((fa_le _ _).mpr h)
        refine lv_aload_n hx hb dX8_film_61 rfl (lv_at hl 3 rfl) ?_
        refine lv_iload hx hb dX8_film_62 (lv_at hl 0 rfl) ?_
        refine lv_lload_n hx hb dX8_film_64 rfl (lv_at hl 2 rfl) ?_
        refine lv_iload hx hb dX8_film_65 (lv_at hl 0 rfl) ?_
        have hPc := hP.sub (ws' := []) [] rfl
        have hKc := hK.sub (tys' := []) [] rfl
        refine vp_callSi (W.runS (As := [.long r_52, .int v6_54]) (rest := [.int v6_54, .ref p3]) ⟨hx, hb, hml, hown, hts⟩ (l_rowOf l dC dI ad r_52 v6_54 ) (va_cwS 2 hts g_x_film_l_rowOf_291 rfl rfl rfl (by decide +kernel) ⟨(Nat.le_of_ble_eq_true rfl), (Nat.le_of_ble_eq_true rfl)⟩) ⟨preS_blind, fun U hU hW => ⟨rfl, preS_at hU hW hPc hKc hev⟩⟩ rfl rfl hl.1 rfl (lv_room (Nat.le_of_ble_eq_true rfl)) dX8_film_67 ⟨(Nat.le_of_ble_eq_true rfl), (Nat.le_of_ble_eq_true rfl)⟩) (fun r_56 hw => ?_)
        obtain ⟨n_57, en_57⟩ : ∃ z : Int64, z = r_56.toInt64 := ⟨_, rfl⟩
        refine lv_i2l (v := n_57) hx hb dX8_film_70 en_57.symm ?_
        clear en_57
        have hPc := hP.sub (ws' := [(p3, .inr (0, [.int b3, .int z3, .ref n3])), (n3, .inl (nc3, 40, .inr (.inl y3)))]) [9, 10] rfl
        have hKc := hK.sub (tys' := [(nc3, .long)]) [5] rfl
        have hDc := hD.sub (ws' := [(p3, .inr (0, [.int b3, .int z3, .ref n3])), (n3, .inl (nc3, 40, .inr (.inl y3)))]) [9, 10] (by decide) rfl
        have hFc := va_free (wc := [(p3, .inr (0, [.int b3, .int z3, .ref n3])), (n3, .inl (nc3, 40, .inr (.inl y3)))]) hD hS hA [9, 10] rfl
        refine va_callv (va_runV (As := [.int v6_54, .long n_57]) (rest := []) ⟨hx, hb, hml, hown, hts⟩ (p_put l dC dI ad p3 v6_54 n_57 b3 (.int z3) n3 nc3 y3 H.size (by first | omega | decide | (simp only [fa_lt, fa_le, fa_eq, and_true, true_and, and_false, false_and, not_true_eq_false, not_false_eq_true, li_0, li_1, li_2, li_3, li_4, li_5, li_6, li_7, li_8, li_9, li_10, li_12, li_15, li_16, li_20, li_30, li_34, li_38, li_40, li_63, li_64, li_65, li_78, li_120, li_1000, li_4000, li_10000, li_11077, li_255, li_65535, li_m1, li_m2, li_m1000000001, li_m1000000002, li_m1000000003, li_m1000000004, li_m1000000005, li_m1000000006, li_m1000000007, or_true, true_or, or_false, false_or, implies_true, true_implies, false_implies] <;> omega))) (cwV 2 hts g_x_film_p_put_275 rfl rfl rfl (by decide +kernel) ⟨(Nat.le_of_ble_eq_true rfl), (Nat.le_of_ble_eq_true rfl)⟩) ⟨preM_blind, va_recv hKc hPc (ci := 0) (q0 := 0) rfl rfl, fun U hU hW => ⟨rfl, preM_at hU hW hPc hKc hDc hev⟩⟩ rfl rfl hl.1 rfl (lv_room (Nat.le_of_ble_eq_true rfl)) dX8_film_71 ⟨(Nat.le_of_ble_eq_true rfl), (Nat.le_of_ble_eq_true rfl)⟩) hS (fun q _ h => hFc q h) hFc (fun u t H1 locs ht hvm hw hB hz1 hk1 hS => ?_)
        obtain ⟨g_59, hP1, hK1, hD1⟩ := hB
        rw [ht] at hP1
        have hK1 := va_K.moved hvm.symm hK1
        obtain ⟨hP, hD⟩ := va_join (wr := [(h0, .inr (6, [.ref ah, v1, v2, v3, v4, .ref ph, .ref t0, v7])), (t0, .inl (tc, 7, .inl tf)), (ph, .inl (pc, 4, .inr (.inr (.inr (.inr pf))))), (p0, .inr (0, [.int b0, .int z0, .ref n0])), (n0, .inl (nc0, 40, .inr (.inl y0))), (p1, .inr (0, [.int b1, .int z1, .ref n1])), (n1, .inl (nc1, 40, .inr (.inl y1))), (p2, .inr (0, [.int b2, .int z2, .ref n2])), (n2, .inl (nc2, 40, .inr (.inl y2))), (ah, .inr (4, [.int sh, .ref q1, .ref q2, .int tn, .ref q3, .ref q4, w6, w7, w8])), (q1, .inl (c1, 9, .inl f1)), (q2, .inl (c2, 9, .inl f2)), (q3, .inl (c3, 4, .inl f3)), (q4, .inl (c4, 4, .inl f4))]) (w1 := [(p3, .inr (0, [.int b3, .int z3, .ref n3])), (n3, .inl (nc3, 40, .inr (.inl g_59)))]) hP hD [9, 10] [0, 1, 2, 3, 4, 5, 6, 7, 8, 11, 12, 13, 14, 15] rfl rfl (by decide) (by decide) hk1 hFc hP1 hD1
        generalize H1 = H at hP hS ⊢
        have hP : va_P (dC, dI) vwCl [(h0, .inr (6, [.ref ah, v1, v2, v3, v4, .ref ph, .ref t0, v7])), (t0, .inl (tc, 7, .inl tf)), (ph, .inl (pc, 4, .inr (.inr (.inr (.inr pf))))), (p0, .inr (0, [.int b0, .int z0, .ref n0])), (n0, .inl (nc0, 40, .inr (.inl y0))), (p1, .inr (0, [.int b1, .int z1, .ref n1])), (n1, .inl (nc1, 40, .inr (.inl y1))), (p2, .inr (0, [.int b2, .int z2, .ref n2])), (n2, .inl (nc2, 40, .inr (.inl y2))), (ah, .inr (4, [.int sh, .ref q1, .ref q2, .int tn, .ref q3, .ref q4, w6, w7, w8])), (q1, .inl (c1, 9, .inl f1)), (q2, .inl (c2, 9, .inl f2)), (q3, .inl (c3, 4, .inl f3)), (q4, .inl (c4, 4, .inl f4)), (p3, .inr (0, [.int b3, .int z3, .ref n3])), (n3, .inl (nc3, 40, .inr (.inl g_59)))] H := hP
        have hD : va_D A [(h0, .inr (6, [.ref ah, v1, v2, v3, v4, .ref ph, .ref t0, v7])), (t0, .inl (tc, 7, .inl tf)), (ph, .inl (pc, 4, .inr (.inr (.inr (.inr pf))))), (p0, .inr (0, [.int b0, .int z0, .ref n0])), (n0, .inl (nc0, 40, .inr (.inl y0))), (p1, .inr (0, [.int b1, .int z1, .ref n1])), (n1, .inl (nc1, 40, .inr (.inl y1))), (p2, .inr (0, [.int b2, .int z2, .ref n2])), (n2, .inl (nc2, 40, .inr (.inl y2))), (ah, .inr (4, [.int sh, .ref q1, .ref q2, .int tn, .ref q3, .ref q4, w6, w7, w8])), (q1, .inl (c1, 9, .inl f1)), (q2, .inl (c2, 9, .inl f2)), (q3, .inl (c3, 4, .inl f3)), (q4, .inl (c4, 4, .inl f4)), (p3, .inr (0, [.int b3, .int z3, .ref n3])), (n3, .inl (nc3, 40, .inr (.inl g_59)))] := hD
        obtain ⟨n_60, en_60⟩ : ∃ y : Int32, y = v6_54 + 1 := ⟨_, rfl⟩
        have tn_60 : n_60.toInt = v6_54.toInt + 1 := pp_add en_60 rfl rfl (by omega) (by omega)
        refine lv_iinc (v := n_60) (lv' := [(6, .int n_60), (5, .int n_53), (3, .long r_52), (2, .ref p3), (0, .ref h0), (1, .int 3)]) hx hb dX8_film_74 hl (k := 0) rfl (by rw [en_60]; rfl) (by decide) rfl (fun ls hl => ?_)
        clear en_60
        refine lv_goto (tgt := 54) hx hb dX8_film_77 (by decide) ?_
        exact ihk_54 (n_60, y0, y1, y2, g_59) _ _ _ (by show (n_53.toInt - n_60.toInt).toNat < k_54; omega) ⟨(by first | omega | decide | (simp only [fa_lt, fa_le, fa_eq, and_true, true_and, and_false, false_and, not_true_eq_false, not_false_eq_true, li_0, li_1, li_2, li_3, li_4, li_5, li_6, li_7, li_8, li_9, li_10, li_12, li_15, li_16, li_20, li_30, li_34, li_38, li_40, li_63, li_64, li_65, li_78, li_120, li_1000, li_4000, li_10000, li_11077, li_255, li_65535, li_m1, li_m2, li_m1000000001, li_m1000000002, li_m1000000003, li_m1000000004, li_m1000000005, li_m1000000006, li_m1000000007, or_true, true_or, or_false, false_or, implies_true, true_implies, false_implies] <;> omega)), hP.sub [0, 1, 2, 3, 4, 5, 6, 7, 8, 14, 15, 9, 10, 11, 12, 13] rfl, hD.sub [0, 1, 2, 3, 4, 5, 6, 7, 8, 14, 15, 9, 10, 11, 12, 13] (by decide) rfl, hS, lv_sub hl [0, 1, 2, 3, 4, 5] rfl⟩
    · skip
      have tc_51 : ¬ r_50.toInt = 0 := fun h => c_51 ((fa_eq _ _).mpr h)
      refine lv_aload_n hx hb dX8_film_24 rfl (lv_at hl 1 rfl) ?_
      refine lv_ldcw hx hb hown (hts _ (List.mem_of_getElem? (i := 95) rfl)) dX8_film_25 ?_
      have hPc := hP.sub (ws' := [(h0, .inr (6, [.ref ah, v1, v2, v3, v4, .ref ph, .ref t0, v7])), (t0, .inl (tc, 7, .inl tf))]) [0, 1] rfl
      have hKc := hK.sub (tys' := [(tc, .int)]) [0] rfl
      have hDc := hD.sub (ws' := [(h0, .inr (6, [.ref ah, v1, v2, v3, v4, .ref ph, .ref t0, v7])), (t0, .inl (tc, 7, .inl tf))]) [0, 1] (by decide) rfl
      have hFc := va_free (wc := [(h0, .inr (6, [.ref ah, v1, v2, v3, v4, .ref ph, .ref t0, v7])), (t0, .inl (tc, 7, .inl tf))]) hD hS hA [0, 1] rfl
      refine va_calli (va_runV (As := [.int (-1000000006)]) (rest := []) ⟨hx, hb, hml, hown, hts⟩ (f_missing l dC dI ad h0 (.ref ah) v1 v2 v3 v4 (.ref ph) t0 v7 tc tf s.heap.size ) (cwV 1 hts g_x_film_f_missing_63 rfl rfl rfl (by decide +kernel) ⟨(Nat.le_of_ble_eq_true rfl), (Nat.le_of_ble_eq_true rfl)⟩) ⟨preM_blind, va_recv hKc hPc (ci := 6) (q0 := 0) rfl rfl, fun U hU hW => ⟨rfl, preM_at hU hW hPc hKc hDc hev⟩⟩ rfl rfl hl.1 rfl (lv_room (Nat.le_of_ble_eq_true rfl)) dX8_film_28 ⟨(Nat.le_of_ble_eq_true rfl), (Nat.le_of_ble_eq_true rfl)⟩) hS (fun q _ h => hFc q h) hFc (fun r_61 u t H1 locs ht hvm hw hB hz1 hk1 hS => ?_)
      obtain ⟨tg_62, hP1, hK1, hD1⟩ := hB
      rw [ht] at hP1
      have hK1 := va_K.moved hvm.symm hK1
      obtain ⟨hP, hD⟩ := va_join (wr := [(ph, .inl (pc, 4, .inr (.inr (.inr (.inr pf))))), (p0, .inr (0, [.int b0, .int z0, .ref n0])), (n0, .inl (nc0, 40, .inr (.inl g0))), (p1, .inr (0, [.int b1, .int z1, .ref n1])), (n1, .inl (nc1, 40, .inr (.inl g1))), (p2, .inr (0, [.int b2, .int z2, .ref n2])), (n2, .inl (nc2, 40, .inr (.inl g2))), (p3, .inr (0, [.int b3, .int z3, .ref n3])), (n3, .inl (nc3, 40, .inr (.inl g3))), (ah, .inr (4, [.int sh, .ref q1, .ref q2, .int tn, .ref q3, .ref q4, w6, w7, w8])), (q1, .inl (c1, 9, .inl f1)), (q2, .inl (c2, 9, .inl f2)), (q3, .inl (c3, 4, .inl f3)), (q4, .inl (c4, 4, .inl f4))]) (w1 := [(h0, .inr (6, [.ref ah, v1, v2, v3, v4, .ref ph, .ref t0, v7])), (t0, .inl (tc, 7, .inl tg_62))]) hP hD [0, 1] [2, 3, 4, 5, 6, 7, 8, 9, 10, 11, 12, 13, 14, 15] rfl rfl (by decide) (by decide) hk1 hFc hP1 hD1
      generalize H1 = H at hP hS ⊢
      have hP : va_P (dC, dI) vwCl [(ph, .inl (pc, 4, .inr (.inr (.inr (.inr pf))))), (p0, .inr (0, [.int b0, .int z0, .ref n0])), (n0, .inl (nc0, 40, .inr (.inl g0))), (p1, .inr (0, [.int b1, .int z1, .ref n1])), (n1, .inl (nc1, 40, .inr (.inl g1))), (p2, .inr (0, [.int b2, .int z2, .ref n2])), (n2, .inl (nc2, 40, .inr (.inl g2))), (p3, .inr (0, [.int b3, .int z3, .ref n3])), (n3, .inl (nc3, 40, .inr (.inl g3))), (ah, .inr (4, [.int sh, .ref q1, .ref q2, .int tn, .ref q3, .ref q4, w6, w7, w8])), (q1, .inl (c1, 9, .inl f1)), (q2, .inl (c2, 9, .inl f2)), (q3, .inl (c3, 4, .inl f3)), (q4, .inl (c4, 4, .inl f4)), (h0, .inr (6, [.ref ah, v1, v2, v3, v4, .ref ph, .ref t0, v7])), (t0, .inl (tc, 7, .inl tg_62))] H := hP
      have hD : va_D A [(ph, .inl (pc, 4, .inr (.inr (.inr (.inr pf))))), (p0, .inr (0, [.int b0, .int z0, .ref n0])), (n0, .inl (nc0, 40, .inr (.inl g0))), (p1, .inr (0, [.int b1, .int z1, .ref n1])), (n1, .inl (nc1, 40, .inr (.inl g1))), (p2, .inr (0, [.int b2, .int z2, .ref n2])), (n2, .inl (nc2, 40, .inr (.inl g2))), (p3, .inr (0, [.int b3, .int z3, .ref n3])), (n3, .inl (nc3, 40, .inr (.inl g3))), (ah, .inr (4, [.int sh, .ref q1, .ref q2, .int tn, .ref q3, .ref q4, w6, w7, w8])), (q1, .inl (c1, 9, .inl f1)), (q2, .inl (c2, 9, .inl f2)), (q3, .inl (c3, 4, .inl f3)), (q4, .inl (c4, 4, .inl f4)), (h0, .inr (6, [.ref ah, v1, v2, v3, v4, .ref ph, .ref t0, v7])), (t0, .inl (tc, 7, .inl tg_62))] := hD
      subst hw
      have hP9 := hP.sub (ws' := [(h0, .inr (6, [.ref ah, v1, v2, v3, v4, .ref ph, .ref t0, v7])), (t0, .inl (tc, 7, .inl tg_62)), (ph, .inl (pc, 4, .inr (.inr (.inr (.inr pf))))), (p0, .inr (0, [.int b0, .int z0, .ref n0])), (n0, .inl (nc0, 40, .inr (.inl g0))), (p1, .inr (0, [.int b1, .int z1, .ref n1])), (n1, .inl (nc1, 40, .inr (.inl g1))), (p2, .inr (0, [.int b2, .int z2, .ref n2])), (n2, .inl (nc2, 40, .inr (.inl g2))), (p3, .inr (0, [.int b3, .int z3, .ref n3])), (n3, .inl (nc3, 40, .inr (.inl g3))), (ah, .inr (4, [.int sh, .ref q1, .ref q2, .int tn, .ref q3, .ref q4, w6, w7, w8])), (q1, .inl (c1, 9, .inl f1)), (q2, .inl (c2, 9, .inl f2)), (q3, .inl (c3, 4, .inl f3)), (q4, .inl (c4, 4, .inl f4))]) [14, 15, 0, 1, 2, 3, 4, 5, 6, 7, 8, 9, 10, 11, 12, 13] rfl
      have hD9 := hD.sub (ws' := [(h0, .inr (6, [.ref ah, v1, v2, v3, v4, .ref ph, .ref t0, v7])), (t0, .inl (tc, 7, .inl tg_62)), (ph, .inl (pc, 4, .inr (.inr (.inr (.inr pf))))), (p0, .inr (0, [.int b0, .int z0, .ref n0])), (n0, .inl (nc0, 40, .inr (.inl g0))), (p1, .inr (0, [.int b1, .int z1, .ref n1])), (n1, .inl (nc1, 40, .inr (.inl g1))), (p2, .inr (0, [.int b2, .int z2, .ref n2])), (n2, .inl (nc2, 40, .inr (.inl g2))), (p3, .inr (0, [.int b3, .int z3, .ref n3])), (n3, .inl (nc3, 40, .inr (.inl g3))), (ah, .inr (4, [.int sh, .ref q1, .ref q2, .int tn, .ref q3, .ref q4, w6, w7, w8])), (q1, .inl (c1, 9, .inl f1)), (q2, .inl (c2, 9, .inl f2)), (q3, .inl (c3, 4, .inl f3)), (q4, .inl (c4, 4, .inl f4))]) [14, 15, 0, 1, 2, 3, 4, 5, 6, 7, 8, 9, 10, 11, 12, 13] (by decide) rfl
      have hK9 := hK.sub (tys' := [(tc, .int), (pc, .object "LampShapes$Paper"), (nc0, .long), (nc1, .long), (nc2, .long), (nc3, .long), (c1, .int), (c2, .int), (c3, .int), (c4, .int)]) [0, 1, 2, 3, 4, 5, 6, 7, 8, 9] rfl
      exact W.iret (v := ((-1000000006) : Int32)) hx hb hr (fun t ht hW => ⟨⟨((-1000000006) : Int32), (), rfl, trivial, tg_62, g0, g1, g2, g3, by rw [ht]; exact hP9, va_K.moved hW.alike hK9, hD9⟩, hS.F ht⟩) hS.2.2 dX8_film_31

def w_x_read : List Cond := .code yX8_read cX8_read 7 (some .int) :: (([.methodLink RX8 256 yX8_paperAt, .instanceMethod yX8_paperAt, .selects RX8 yX8_paperAt yX8_paperAt, .initialized RX8, .code yX8_paperAt cX8_paperAt 2 (some (.object "LampShapes$Paper")), .constant RX8 62 (-1000000001), .methodLink RX8 63 yX8_finding, .instanceMethod yX8_finding, .selects RX8 yX8_finding yX8_finding, .code yX8_finding cX8_finding 3 (some .int), .fieldLink RX8 46 "LampShapes" "told" "[I", .fieldLink RX8 42 "LampShapes" "papers" "[LLampShapes$Paper;", .methodLink RX8 268 yX2_isMissing, .instanceMethod yX2_isMissing, .selects RX2 yX2_isMissing yX2_isMissing, .initialized RX2, .code yX2_isMissing cX2_isMissing 1 (some .boolean), .fieldLink RX2 9 "LampShapes$Paper" "bits" "I", .fieldLink RX8 10 "LampShapes" "now" "LLampShapes$Stage;", .methodLink RX8 134 yX6_darkCells, .instanceMethod yX6_darkCells, .selects RX6 yX6_darkCells yX6_darkCells, .initialized RX6, .code yX6_darkCells cX6_darkCells 4 (some .long), .methodLink RX6 88 yX6_cellsOfHold, .instanceMethod yX6_cellsOfHold, .selects RX6 yX6_cellsOfHold yX6_cellsOfHold, .code yX6_cellsOfHold cX6_cellsOfHold 3 (some .long), .fieldLink RX6 25 "LampShapes$Stage" "heldShapes" "[I", .methodLink RX6 78 yX6_hasShape, .instanceMethod yX6_hasShape, .selects RX6 yX6_hasShape yX6_hasShape, .code yX6_hasShape cX6_hasShape 2 (some .boolean), .fieldLink RX6 9 "LampShapes$Stage" "shapes" "I", .methodLink RX6 82 yX6_isTorn, .instanceMethod yX6_isTorn, .selects RX6 yX6_isTorn yX6_isTorn, .code yX6_isTorn cX6_isTorn 2 (some .boolean), .fieldLink RX6 22 "LampShapes$Stage" "tornShapes" "I", .fieldLink RX6 28 "LampShapes$Stage" "heldPlacings" "[I", .methodLink RX6 85 yX6_cellsBy, .instanceMethod yX6_cellsBy, .selects RX6 yX6_cellsBy yX6_cellsBy, .code yX6_cellsBy cX6_cellsBy 4 (some .long), .methodLink RX6 59 yX6_cornerBy, .instanceMethod yX6_cornerBy, .selects RX6 yX6_cornerBy yX6_cornerBy, .code yX6_cornerBy cX6_cornerBy 4 (some .long), .fieldLink RX6 15 "LampShapes$Stage" "kinds" "[I", .fieldLink RX6 19 "LampShapes$Stage" "points" "[I", .methodLink RX6 47 yX0_pointsBy, .static yX0_pointsBy, .initialized RX0, .code yX0_pointsBy cX0_pointsBy 3 (some .int), .methodLink RX0 15 yX0_turnedBy, .static yX0_turnedBy, .code yX0_turnedBy cX0_turnedBy 6 (some .int), .methodLink RX0 19 yX0_mirroredBy, .static yX0_mirroredBy, .code yX0_mirroredBy cX0_mirroredBy 2 (some .int), .constant RX0 31 (34952), .methodLink RX0 22 yX0_hollowed, .static yX0_hollowed, .code yX0_hollowed cX0_hollowed 5 (some .int), .constant RX0 32 (61166), .methodLink RX0 25 yX0_doubled, .static yX0_doubled, .code yX0_doubled cX0_doubled 1 (some .int), .constant RX0 33 (65535), .methodLink RX0 28 yX0_filled, .static yX0_filled, .code yX0_filled cX0_filled 6 (some .int), .methodLink RX6 53 yX1_cellsAtCorner, .static yX1_cellsAtCorner, .initialized RX1, .code yX1_cellsAtCorner cX1_cellsAtCorner 8 (some .long), .constantLong RX1 9 (771), .methodLink RX6 62 yX1_moved, .static yX1_moved, .code yX1_moved cX1_moved 6 (some .long), .constantLong RX1 13 (72340172838076673), .methodLink RX8 221 Lib.Math.min.name, .static Lib.Math.min.name, .initialized "java/lang/Math", .code Lib.Math.min.name Lib.Math.min.code 2 (some .int), .constantLong RX8 295 (255), .methodLink RX8 291 yX1_rowOf, .static yX1_rowOf, .code yX1_rowOf cX1_rowOf 3 (some .int), .constantLong RX1 21 (255), .constant RX8 271 (-1000000006)] : List Cond) ++ wsX80 ++ wsX20 ++ wsX60)
set_option maxRecDepth 20000 in
theorem g_x_read_c_paperAt_lt_256 : GoodIn w_x_read (wsV RX8 256 RX8 yX8_paperAt w_c_paperAt_lt) := goodIn_r _ [1, 2, 3, 4, 5] rfl (by decide +kernel)
set_option maxRecDepth 20000 in
theorem g_x_read_f_beyond_63 : GoodIn w_x_read (wsV RX8 63 RX8 yX8_finding w_f_beyond) := goodIn_r _ [7, 8, 9, 4, 10, 6, 11, 92, 93, 94, 95, 96, 97, 98, 99] rfl (by decide +kernel)
set_option maxRecDepth 20000 in
theorem g_x_read_c_paperAt_gt_256 : GoodIn w_x_read (wsV RX8 256 RX8 yX8_paperAt w_c_paperAt_gt) := goodIn_r _ [1, 2, 3, 4, 5] rfl (by decide +kernel)
set_option maxRecDepth 20000 in
theorem g_x_read_c_paperAt_0_256 : GoodIn w_x_read (wsV RX8 256 RX8 yX8_paperAt w_c_paperAt_0) := goodIn_r _ [1, 2, 3, 4, 5, 12, 92, 93, 94, 95, 96, 97, 98, 99] rfl (by decide +kernel)
set_option maxRecDepth 20000 in
theorem g_x_read_p_isMissing_268 : GoodIn w_x_read (wsV RX8 268 RX2 yX2_isMissing w_p_isMissing) := goodIn_r _ [13, 14, 15, 16, 17, 18, 100, 101, 102] rfl (by decide +kernel)
set_option maxRecDepth 20000 in
theorem g_x_read_s_darkCells_134 : GoodIn w_x_read (wsV RX8 134 RX6 yX6_darkCells w_s_darkCells) := goodIn_r _ [20, 21, 22, 23, 24, 25, 26, 27, 23, 28, 29, 30, 31, 32, 33, 34, 35, 36, 37, 38, 39, 40, 41, 42, 43, 44, 45, 46, 47, 48, 49, 50, 51, 52, 53, 54, 55, 56, 57, 58, 59, 60, 61, 62, 63, 64, 65, 66, 67, 68, 69, 70, 71, 72, 73, 74, 75, 76, 77, 78, 79, 80, 81, 103, 104, 105, 106, 107, 108, 109, 110, 111] rfl (by decide +kernel)
set_option maxRecDepth 20000 in
theorem g_x_read_l_rowOf_291 : GoodIn w_x_read (va_wsS RX8 291 yX1_rowOf w_l_rowOf) := goodIn_r _ [87, 88, 75, 89, 90] rfl (by decide +kernel)
set_option maxRecDepth 20000 in
theorem g_x_read_f_missing_63 : GoodIn w_x_read (wsV RX8 63 RX8 yX8_finding w_f_missing) := goodIn_r _ [7, 8, 9, 4, 10, 6, 11, 92, 93, 94, 95, 96, 97, 98, 99] rfl (by decide +kernel)
set_option maxRecDepth 20000 in
theorem g_x_read_c_paperAt_1_256 : GoodIn w_x_read (wsV RX8 256 RX8 yX8_paperAt w_c_paperAt_1) := goodIn_r _ [1, 2, 3, 4, 5, 12, 92, 93, 94, 95, 96, 97, 98, 99] rfl (by decide +kernel)
set_option maxRecDepth 20000 in
theorem g_x_read_c_paperAt_2_256 : GoodIn w_x_read (wsV RX8 256 RX8 yX8_paperAt w_c_paperAt_2) := goodIn_r _ [1, 2, 3, 4, 5, 12, 92, 93, 94, 95, 96, 97, 98, 99] rfl (by decide +kernel)
set_option maxRecDepth 20000 in
theorem g_x_read_c_paperAt_3_256 : GoodIn w_x_read (wsV RX8 256 RX8 yX8_paperAt w_c_paperAt_3) := goodIn_r _ [1, 2, 3, 4, 5, 12, 92, 93, 94, 95, 96, 97, 98, 99] rfl (by decide +kernel)
set_option maxHeartbeats 4000000 in
set_option maxRecDepth 100000 in
theorem x_read (l : Launch) (dC : Nat → ClassId) (dI : Nat → Nat → Nat) (ad : Nat → Nat) (h0 : Nat) (sn : Int32) (ah : Nat) (v1 : Value) (v2 : Value) (v3 : Value) (v4 : Value) (ph : Nat) (t0 : Nat) (v7 : Value) (tc : ClassId) (tf : Nat → Int32) (pc : ClassId) (pf : Nat → Option Nat) (p0 : Nat) (b0 : Int32) (z0 : Int32) (n0 : Nat) (nc0 : ClassId) (g0 : Nat → Int64) (p1 : Nat) (b1 : Int32) (z1 : Int32) (n1 : Nat) (nc1 : ClassId) (g1 : Nat → Int64) (p2 : Nat) (b2 : Int32) (z2 : Int32) (n2 : Nat) (nc2 : ClassId) (g2 : Nat → Int64) (p3 : Nat) (b3 : Int32) (z3 : Int32) (n3 : Nat) (nc3 : ClassId) (g3 : Nat → Int64) (sh : Int32) (q1 : Nat) (q2 : Nat) (tn : Int32) (q3 : Nat) (q4 : Nat) (w6 : Value) (w7 : Value) (w8 : Value) (c1 : ClassId) (f1 : Nat → Int32) (c2 : ClassId) (f2 : Nat → Int32) (c3 : ClassId) (f3 : Nat → Int32) (c4 : ClassId) (f4 : Nat → Int32) (sz : Nat) (hp0 : pf 0 = (some p0)) (hp1 : pf 1 = (some p1)) (hp2 : pf 2 = (some p2)) (hp3 : pf 3 = (some p3)) (hz0 : 0 ≤ z0.toInt ∧ z0.toInt ≤ 40) (hz1 : 0 ≤ z1.toInt ∧ z1.toInt ≤ 40) (hz2 : 0 ≤ z2.toInt ∧ z2.toInt ≤ 40) (hz3 : 0 ≤ z3.toInt ∧ z3.toInt ≤ 40) (hsh : 0 ≤ sh.toInt ∧ sh.toInt ≤ 9) : Met l yX8_read w_x_read ({ frames := 6, cells := 0, slots := 0, locals := 138 } : Room) (va_Pc [.ref h0, .int sn] (preM dC dI ad [(tc, .int), (pc, .object "LampShapes$Paper"), (nc0, .long), (nc1, .long), (nc2, .long), (nc3, .long), (c1, .int), (c2, .int), (c3, .int), (c4, .int)] [(h0, .inr (6, [.ref ah, v1, v2, v3, v4, .ref ph, .ref t0, v7])), (t0, .inl (tc, 7, .inl tf)), (ph, .inl (pc, 4, .inr (.inr (.inr (.inr pf))))), (p0, .inr (0, [.int b0, .int z0, .ref n0])), (n0, .inl (nc0, 40, .inr (.inl g0))), (p1, .inr (0, [.int b1, .int z1, .ref n1])), (n1, .inl (nc1, 40, .inr (.inl g1))), (p2, .inr (0, [.int b2, .int z2, .ref n2])), (n2, .inl (nc2, 40, .inr (.inl g2))), (p3, .inr (0, [.int b3, .int z3, .ref n3])), (n3, .inl (nc3, 40, .inr (.inl g3))), (ah, .inr (4, [.int sh, .ref q1, .ref q2, .int tn, .ref q3, .ref q4, w6, w7, w8])), (q1, .inl (c1, 9, .inl f1)), (q2, .inl (c2, 9, .inl f2)), (q3, .inl (c3, 4, .inl f3)), (q4, .inl (c4, 4, .inl f4))] sz)) (va_Qi (fun (r : Int32) (_ : Unit) => True) (fun _ t => ∃ (tg : Nat → Int32), va_P (dC, dI) vwCl [(h0, .inr (6, [.ref ah, v1, v2, v3, v4, .ref ph, .ref t0, v7])), (t0, .inl (tc, 7, .inl tg)), (ph, .inl (pc, 4, .inr (.inr (.inr (.inr pf))))), (p0, .inr (0, [.int b0, .int z0, .ref n0])), (n0, .inl (nc0, 40, .inr (.inl g0))), (p1, .inr (0, [.int b1, .int z1, .ref n1])), (n1, .inl (nc1, 40, .inr (.inl g1))), (p2, .inr (0, [.int b2, .int z2, .ref n2])), (n2, .inl (nc2, 40, .inr (.inl g2))), (p3, .inr (0, [.int b3, .int z3, .ref n3])), (n3, .inl (nc3, 40, .inr (.inl g3))), (ah, .inr (4, [.int sh, .ref q1, .ref q2, .int tn, .ref q3, .ref q4, w6, w7, w8])), (q1, .inl (c1, 9, .inl f1)), (q2, .inl (c2, 9, .inl f2)), (q3, .inl (c3, 4, .inl f3)), (q4, .inl (c4, 4, .inl f4))] t.heap ∧ va_K (dC, dI) vwCl [(tc, .int), (pc, .object "LampShapes$Paper"), (nc0, .long), (nc1, .long), (nc2, .long), (nc3, .long), (c1, .int), (c2, .int), (c3, .int), (c4, .int)] t ∧ va_D (va_A [(h0, .inr (6, [.ref ah, v1, v2, v3, v4, .ref ph, .ref t0, v7])), (t0, .inl (tc, 7, .inl tf)), (ph, .inl (pc, 4, .inr (.inr (.inr (.inr pf))))), (p0, .inr (0, [.int b0, .int z0, .ref n0])), (n0, .inl (nc0, 40, .inr (.inl g0))), (p1, .inr (0, [.int b1, .int z1, .ref n1])), (n1, .inl (nc1, 40, .inr (.inl g1))), (p2, .inr (0, [.int b2, .int z2, .ref n2])), (n2, .inl (nc2, 40, .inr (.inl g2))), (p3, .inr (0, [.int b3, .int z3, .ref n3])), (n3, .inl (nc3, 40, .inr (.inl g3))), (ah, .inr (4, [.int sh, .ref q1, .ref q2, .int tn, .ref q3, .ref q4, w6, w7, w8])), (q1, .inl (c1, 9, .inl f1)), (q2, .inl (c2, 9, .inl f2)), (q3, .inl (c3, 4, .inl f3)), (q4, .inl (c4, 4, .inl f4))] sz) [(h0, .inr (6, [.ref ah, v1, v2, v3, v4, .ref ph, .ref t0, v7])), (t0, .inl (tc, 7, .inl tg)), (ph, .inl (pc, 4, .inr (.inr (.inr (.inr pf))))), (p0, .inr (0, [.int b0, .int z0, .ref n0])), (n0, .inl (nc0, 40, .inr (.inl g0))), (p1, .inr (0, [.int b1, .int z1, .ref n1])), (n1, .inl (nc1, 40, .inr (.inl g1))), (p2, .inr (0, [.int b2, .int z2, .ref n2])), (n2, .inl (nc2, 40, .inr (.inl g2))), (p3, .inr (0, [.int b3, .int z3, .ref n3])), (n3, .inl (nc3, 40, .inr (.inl g3))), (ah, .inr (4, [.int sh, .ref q1, .ref q2, .int tn, .ref q3, .ref q4, w6, w7, w8])), (q1, .inl (c1, 9, .inl f1)), (q2, .inl (c2, 9, .inl f2)), (q3, .inl (c3, 4, .inl f3)), (q4, .inl (c4, 4, .inl f4))]) (va_A [(h0, .inr (6, [.ref ah, v1, v2, v3, v4, .ref ph, .ref t0, v7])), (t0, .inl (tc, 7, .inl tf)), (ph, .inl (pc, 4, .inr (.inr (.inr (.inr pf))))), (p0, .inr (0, [.int b0, .int z0, .ref n0])), (n0, .inl (nc0, 40, .inr (.inl g0))), (p1, .inr (0, [.int b1, .int z1, .ref n1])), (n1, .inl (nc1, 40, .inr (.inl g1))), (p2, .inr (0, [.int b2, .int z2, .ref n2])), (n2, .inl (nc2, 40, .inr (.inl g2))), (p3, .inr (0, [.int b3, .int z3, .ref n3])), (n3, .inl (nc3, 40, .inr (.inl g3))), (ah, .inr (4, [.int sh, .ref q1, .ref q2, .int tn, .ref q3, .ref q4, w6, w7, w8])), (q1, .inl (c1, 9, .inl f1)), (q2, .inl (c2, 9, .inl f2)), (q3, .inl (c3, 4, .inl f3)), (q4, .inl (c4, 4, .inl f4))] sz)) 0 0 (va_A [(h0, .inr (6, [.ref ah, v1, v2, v3, v4, .ref ph, .ref t0, v7])), (t0, .inl (tc, 7, .inl tf)), (ph, .inl (pc, 4, .inr (.inr (.inr (.inr pf))))), (p0, .inr (0, [.int b0, .int z0, .ref n0])), (n0, .inl (nc0, 40, .inr (.inl g0))), (p1, .inr (0, [.int b1, .int z1, .ref n1])), (n1, .inl (nc1, 40, .inr (.inl g1))), (p2, .inr (0, [.int b2, .int z2, .ref n2])), (n2, .inl (nc2, 40, .inr (.inl g2))), (p3, .inr (0, [.int b3, .int z3, .ref n3])), (n3, .inl (nc3, 40, .inr (.inl g3))), (ah, .inr (4, [.int sh, .ref q1, .ref q2, .int tn, .ref q3, .ref q4, w6, w7, w8])), (q1, .inl (c1, 9, .inl f1)), (q2, .inl (c2, 9, .inl f2)), (q3, .inl (c3, 4, .inl f3)), (q4, .inl (c4, 4, .inl f4))] sz) := by
  rcases pp_c_0_3 sn with hlt0 | hgt0 | rfl | rfl | rfl | rfl
  · skip
    refine Met.ofW (cc := cX8_read) (maxL := 7) (ret := (some .int)) (by decide) rfl ?_
    intro p e s m args below meth c s₁ B hml hv
    obtain ⟨rfl, hsz, hP, hK, hD0, hev⟩ := hv
    have hx := B.exec
    have hb := B.bytes
    have hr := B.returns
    have hts := atoms_spec (ws := w_x_read) B.pre
    have hown : s.vm.findClass RX8 = some m.cls := findClass_of_methodNamed B.named
    have hlocks := B.notSynchronized
    have inX8 : ∀ w ∈ wsX80, w ∈ w_x_read := fun w h => List.mem_cons_of_mem _ (List.mem_append_left _ (List.mem_append_left _ (List.mem_append_right _ h)))
    have inX2 : ∀ w ∈ wsX20, w ∈ w_x_read := fun w h => List.mem_cons_of_mem _ (List.mem_append_left _ (List.mem_append_right _ h))
    have inX6 : ∀ w ∈ wsX60, w ∈ w_x_read := fun w h => List.mem_cons_of_mem _ (List.mem_append_right _ h)
    subst hsz
    have hD := hD0.self (sz := s.heap.size)
    generalize hAe : va_A [(h0, .inr (6, [.ref ah, v1, v2, v3, v4, .ref ph, .ref t0, v7])), (t0, .inl (tc, 7, .inl tf)), (ph, .inl (pc, 4, .inr (.inr (.inr (.inr pf))))), (p0, .inr (0, [.int b0, .int z0, .ref n0])), (n0, .inl (nc0, 40, .inr (.inl g0))), (p1, .inr (0, [.int b1, .int z1, .ref n1])), (n1, .inl (nc1, 40, .inr (.inl g1))), (p2, .inr (0, [.int b2, .int z2, .ref n2])), (n2, .inl (nc2, 40, .inr (.inl g2))), (p3, .inr (0, [.int b3, .int z3, .ref n3])), (n3, .inl (nc3, 40, .inr (.inl g3))), (ah, .inr (4, [.int sh, .ref q1, .ref q2, .int tn, .ref q3, .ref q4, w6, w7, w8])), (q1, .inl (c1, 9, .inl f1)), (q2, .inl (c2, 9, .inl f2)), (q3, .inl (c3, 4, .inl f3)), (q4, .inl (c4, 4, .inl f4))] s.heap.size = A at hD ⊢
    have hA : ∀ q : Nat, s.heap.size ≤ q → A q := fun q h => by rw [← hAe]; exact Or.inr h
    have hS : va_S A s.heap s.heap [] := va_S.rf
    have hP : va_P (dC, dI) vwCl [(h0, .inr (6, [.ref ah, v1, v2, v3, v4, .ref ph, .ref t0, v7])), (t0, .inl (tc, 7, .inl tf)), (ph, .inl (pc, 4, .inr (.inr (.inr (.inr pf))))), (p0, .inr (0, [.int b0, .int z0, .ref n0])), (n0, .inl (nc0, 40, .inr (.inl g0))), (p1, .inr (0, [.int b1, .int z1, .ref n1])), (n1, .inl (nc1, 40, .inr (.inl g1))), (p2, .inr (0, [.int b2, .int z2, .ref n2])), (n2, .inl (nc2, 40, .inr (.inl g2))), (p3, .inr (0, [.int b3, .int z3, .ref n3])), (n3, .inl (nc3, 40, .inr (.inl g3))), (ah, .inr (4, [.int sh, .ref q1, .ref q2, .int tn, .ref q3, .ref q4, w6, w7, w8])), (q1, .inl (c1, 9, .inl f1)), (q2, .inl (c2, 9, .inl f2)), (q3, .inl (c3, 4, .inl f3)), (q4, .inl (c4, 4, .inl f4))] s.heap := hP
    have hl := lv_entry ([.ref h0, .int sn]) (n := 7) (Nat.le_of_ble_eq_true rfl)
    rw [lg_entry_eq]
    generalize (lg_sl ([.ref h0, .int sn]) ++ List.replicate (7 - (lg_sl ([.ref h0, .int sn])).length) Slot.unset).toArray = ls at hl ⊢
    have hl : lv_has ls 7 [(0, .ref h0), (1, .int sn)] := hl
    have thlt0 : sn.toInt < 0 := (fa_lt _ _).mp hlt0
    refine lv_aload_n hx hb dX8_read_0 rfl (lv_at hl 0 rfl) ?_
    refine lv_iload_n hx hb dX8_read_1 rfl (lv_at hl 1 rfl) ?_
    have hPc := hP.sub (ws' := [(h0, .inr (6, [.ref ah, v1, v2, v3, v4, .ref ph, .ref t0, v7]))]) [0] rfl
    have hKc := hK.sub (tys' := []) [] rfl
    refine va_csq (W.runV (As := [.int sn]) (rest := []) ⟨hx, hb, hml, hown, hts⟩ (c_paperAt_lt l dC dI ad h0 sn (.ref ah) v1 v2 v3 v4 (.ref ph) (.ref t0) v7 hlt0) (cwV 1 hts g_x_read_c_paperAt_lt_256 rfl rfl rfl (by decide +kernel) ⟨(Nat.le_of_ble_eq_true rfl), (Nat.le_of_ble_eq_true rfl)⟩) ⟨preS_blind, va_recv hKc hPc (ci := 6) (q0 := 0) rfl rfl, fun U hU hW => ⟨rfl, preS_at hU hW hPc hKc hev⟩⟩ rfl rfl hl.1 rfl (lv_room (Nat.le_of_ble_eq_true rfl)) dX8_read_2 ⟨(Nat.le_of_ble_eq_true rfl), (Nat.le_of_ble_eq_true rfl)⟩) (fun r_1 hw => ?_)
    subst hw
    refine pp_tv (y := .null) rfl ?_
    refine lv_astore_nN (lv' := [(2, .null), (0, .ref h0), (1, .int sn)]) hx hb dX8_read_5 rfl hl (by decide) rfl (fun ls hl => ?_)
    refine lv_aload_nN hx hb dX8_read_6 rfl (lv_at hl 0 rfl) ?_
    refine lv_ifnonnullN hx hb dX8_read_7 ?_
    refine lv_aload_n hx hb dX8_read_10 rfl (lv_at hl 1 rfl) ?_
    refine lv_ldc hx hb hown (hts _ (List.mem_of_getElem? (i := 6) rfl)) dX8_read_11 ?_
    have hPc := hP.sub (ws' := [(h0, .inr (6, [.ref ah, v1, v2, v3, v4, .ref ph, .ref t0, v7])), (t0, .inl (tc, 7, .inl tf))]) [0, 1] rfl
    have hKc := hK.sub (tys' := [(tc, .int)]) [0] rfl
    have hDc := hD.sub (ws' := [(h0, .inr (6, [.ref ah, v1, v2, v3, v4, .ref ph, .ref t0, v7])), (t0, .inl (tc, 7, .inl tf))]) [0, 1] (by decide) rfl
    have hFc := va_free (wc := [(h0, .inr (6, [.ref ah, v1, v2, v3, v4, .ref ph, .ref t0, v7])), (t0, .inl (tc, 7, .inl tf))]) hD hS hA [0, 1] rfl
    refine va_calli (va_runV (As := [.int (-1000000001)]) (rest := []) ⟨hx, hb, hml, hown, hts⟩ (f_beyond l dC dI ad h0 (.ref ah) v1 v2 v3 v4 (.ref ph) t0 v7 tc tf s.heap.size ) (cwV 1 hts g_x_read_f_beyond_63 rfl rfl rfl (by decide +kernel) ⟨(Nat.le_of_ble_eq_true rfl), (Nat.le_of_ble_eq_true rfl)⟩) ⟨preM_blind, va_recv hKc hPc (ci := 6) (q0 := 0) rfl rfl, fun U hU hW => ⟨rfl, preM_at hU hW hPc hKc hDc hev⟩⟩ rfl rfl hl.1 rfl (lv_room (Nat.le_of_ble_eq_true rfl)) dX8_read_13 ⟨(Nat.le_of_ble_eq_true rfl), (Nat.le_of_ble_eq_true rfl)⟩) hS (fun q _ h => hFc q h) hFc (fun r_2 u t H1 locs ht hvm hw hB hz1 hk1 hS => ?_)
    obtain ⟨tg_3, hP1, hK1, hD1⟩ := hB
    rw [ht] at hP1
    have hK1 := va_K.moved hvm.symm hK1
    obtain ⟨hP, hD⟩ := va_join (wr := [(ph, .inl (pc, 4, .inr (.inr (.inr (.inr pf))))), (p0, .inr (0, [.int b0, .int z0, .ref n0])), (n0, .inl (nc0, 40, .inr (.inl g0))), (p1, .inr (0, [.int b1, .int z1, .ref n1])), (n1, .inl (nc1, 40, .inr (.inl g1))), (p2, .inr (0, [.int b2, .int z2, .ref n2])), (n2, .inl (nc2, 40, .inr (.inl g2))), (p3, .inr (0, [.int b3, .int z3, .ref n3])), (n3, .inl (nc3, 40, .inr (.inl g3))), (ah, .inr (4, [.int sh, .ref q1, .ref q2, .int tn, .ref q3, .ref q4, w6, w7, w8])), (q1, .inl (c1, 9, .inl f1)), (q2, .inl (c2, 9, .inl f2)), (q3, .inl (c3, 4, .inl f3)), (q4, .inl (c4, 4, .inl f4))]) (w1 := [(h0, .inr (6, [.ref ah, v1, v2, v3, v4, .ref ph, .ref t0, v7])), (t0, .inl (tc, 7, .inl tg_3))]) hP hD [0, 1] [2, 3, 4, 5, 6, 7, 8, 9, 10, 11, 12, 13, 14, 15] rfl rfl (by decide) (by decide) hk1 hFc hP1 hD1
    generalize H1 = H at hP hS ⊢
    have hP : va_P (dC, dI) vwCl [(ph, .inl (pc, 4, .inr (.inr (.inr (.inr pf))))), (p0, .inr (0, [.int b0, .int z0, .ref n0])), (n0, .inl (nc0, 40, .inr (.inl g0))), (p1, .inr (0, [.int b1, .int z1, .ref n1])), (n1, .inl (nc1, 40, .inr (.inl g1))), (p2, .inr (0, [.int b2, .int z2, .ref n2])), (n2, .inl (nc2, 40, .inr (.inl g2))), (p3, .inr (0, [.int b3, .int z3, .ref n3])), (n3, .inl (nc3, 40, .inr (.inl g3))), (ah, .inr (4, [.int sh, .ref q1, .ref q2, .int tn, .ref q3, .ref q4, w6, w7, w8])), (q1, .inl (c1, 9, .inl f1)), (q2, .inl (c2, 9, .inl f2)), (q3, .inl (c3, 4, .inl f3)), (q4, .inl (c4, 4, .inl f4)), (h0, .inr (6, [.ref ah, v1, v2, v3, v4, .ref ph, .ref t0, v7])), (t0, .inl (tc, 7, .inl tg_3))] H := hP
    have hD : va_D A [(ph, .inl (pc, 4, .inr (.inr (.inr (.inr pf))))), (p0, .inr (0, [.int b0, .int z0, .ref n0])), (n0, .inl (nc0, 40, .inr (.inl g0))), (p1, .inr (0, [.int b1, .int z1, .ref n1])), (n1, .inl (nc1, 40, .inr (.inl g1))), (p2, .inr (0, [.int b2, .int z2, .ref n2])), (n2, .inl (nc2, 40, .inr (.inl g2))), (p3, .inr (0, [.int b3, .int z3, .ref n3])), (n3, .inl (nc3, 40, .inr (.inl g3))), (ah, .inr (4, [.int sh, .ref q1, .ref q2, .int tn, .ref q3, .ref q4, w6, w7, w8])), (q1, .inl (c1, 9, .inl f1)), (q2, .inl (c2, 9, .inl f2)), (q3, .inl (c3, 4, .inl f3)), (q4, .inl (c4, 4, .inl f4)), (h0, .inr (6, [.ref ah, v1, v2, v3, v4, .ref ph, .ref t0, v7])), (t0, .inl (tc, 7, .inl tg_3))] := hD
    subst hw
    have hP9 := hP.sub (ws' := [(h0, .inr (6, [.ref ah, v1, v2, v3, v4, .ref ph, .ref t0, v7])), (t0, .inl (tc, 7, .inl tg_3)), (ph, .inl (pc, 4, .inr (.inr (.inr (.inr pf))))), (p0, .inr (0, [.int b0, .int z0, .ref n0])), (n0, .inl (nc0, 40, .inr (.inl g0))), (p1, .inr (0, [.int b1, .int z1, .ref n1])), (n1, .inl (nc1, 40, .inr (.inl g1))), (p2, .inr (0, [.int b2, .int z2, .ref n2])), (n2, .inl (nc2, 40, .inr (.inl g2))), (p3, .inr (0, [.int b3, .int z3, .ref n3])), (n3, .inl (nc3, 40, .inr (.inl g3))), (ah, .inr (4, [.int sh, .ref q1, .ref q2, .int tn, .ref q3, .ref q4, w6, w7, w8])), (q1, .inl (c1, 9, .inl f1)), (q2, .inl (c2, 9, .inl f2)), (q3, .inl (c3, 4, .inl f3)), (q4, .inl (c4, 4, .inl f4))]) [14, 15, 0, 1, 2, 3, 4, 5, 6, 7, 8, 9, 10, 11, 12, 13] rfl
    have hD9 := hD.sub (ws' := [(h0, .inr (6, [.ref ah, v1, v2, v3, v4, .ref ph, .ref t0, v7])), (t0, .inl (tc, 7, .inl tg_3)), (ph, .inl (pc, 4, .inr (.inr (.inr (.inr pf))))), (p0, .inr (0, [.int b0, .int z0, .ref n0])), (n0, .inl (nc0, 40, .inr (.inl g0))), (p1, .inr (0, [.int b1, .int z1, .ref n1])), (n1, .inl (nc1, 40, .inr (.inl g1))), (p2, .inr (0, [.int b2, .int z2, .ref n2])), (n2, .inl (nc2, 40, .inr (.inl g2))), (p3, .inr (0, [.int b3, .int z3, .ref n3])), (n3, .inl (nc3, 40, .inr (.inl g3))), (ah, .inr (4, [.int sh, .ref q1, .ref q2, .int tn, .ref q3, .ref q4, w6, w7, w8])), (q1, .inl (c1, 9, .inl f1)), (q2, .inl (c2, 9, .inl f2)), (q3, .inl (c3, 4, .inl f3)), (q4, .inl (c4, 4, .inl f4))]) [14, 15, 0, 1, 2, 3, 4, 5, 6, 7, 8, 9, 10, 11, 12, 13] (by decide) rfl
    have hK9 := hK.sub (tys' := [(tc, .int), (pc, .object "LampShapes$Paper"), (nc0, .long), (nc1, .long), (nc2, .long), (nc3, .long), (c1, .int), (c2, .int), (c3, .int), (c4, .int)]) [0, 1, 2, 3, 4, 5, 6, 7, 8, 9] rfl
    exact W.iret (v := ((-1000000001) : Int32)) hx hb hr (fun t ht hW => ⟨⟨((-1000000001) : Int32), (), rfl, trivial, tg_3, by rw [ht]; exact hP9, va_K.moved hW.alike hK9, hD9⟩, hS.F ht⟩) hS.2.2 dX8_read_16
  · skip
    refine Met.ofW (cc := cX8_read) (maxL := 7) (ret := (some .int)) (by decide) rfl ?_
    intro p e s m args below meth c s₁ B hml hv
    obtain ⟨rfl, hsz, hP, hK, hD0, hev⟩ := hv
    have hx := B.exec
    have hb := B.bytes
    have hr := B.returns
    have hts := atoms_spec (ws := w_x_read) B.pre
    have hown : s.vm.findClass RX8 = some m.cls := findClass_of_methodNamed B.named
    have hlocks := B.notSynchronized
    have inX8 : ∀ w ∈ wsX80, w ∈ w_x_read := fun w h => List.mem_cons_of_mem _ (List.mem_append_left _ (List.mem_append_left _ (List.mem_append_right _ h)))
    have inX2 : ∀ w ∈ wsX20, w ∈ w_x_read := fun w h => List.mem_cons_of_mem _ (List.mem_append_left _ (List.mem_append_right _ h))
    have inX6 : ∀ w ∈ wsX60, w ∈ w_x_read := fun w h => List.mem_cons_of_mem _ (List.mem_append_right _ h)
    subst hsz
    have hD := hD0.self (sz := s.heap.size)
    generalize hAe : va_A [(h0, .inr (6, [.ref ah, v1, v2, v3, v4, .ref ph, .ref t0, v7])), (t0, .inl (tc, 7, .inl tf)), (ph, .inl (pc, 4, .inr (.inr (.inr (.inr pf))))), (p0, .inr (0, [.int b0, .int z0, .ref n0])), (n0, .inl (nc0, 40, .inr (.inl g0))), (p1, .inr (0, [.int b1, .int z1, .ref n1])), (n1, .inl (nc1, 40, .inr (.inl g1))), (p2, .inr (0, [.int b2, .int z2, .ref n2])), (n2, .inl (nc2, 40, .inr (.inl g2))), (p3, .inr (0, [.int b3, .int z3, .ref n3])), (n3, .inl (nc3, 40, .inr (.inl g3))), (ah, .inr (4, [.int sh, .ref q1, .ref q2, .int tn, .ref q3, .ref q4, w6, w7, w8])), (q1, .inl (c1, 9, .inl f1)), (q2, .inl (c2, 9, .inl f2)), (q3, .inl (c3, 4, .inl f3)), (q4, .inl (c4, 4, .inl f4))] s.heap.size = A at hD ⊢
    have hA : ∀ q : Nat, s.heap.size ≤ q → A q := fun q h => by rw [← hAe]; exact Or.inr h
    have hS : va_S A s.heap s.heap [] := va_S.rf
    have hP : va_P (dC, dI) vwCl [(h0, .inr (6, [.ref ah, v1, v2, v3, v4, .ref ph, .ref t0, v7])), (t0, .inl (tc, 7, .inl tf)), (ph, .inl (pc, 4, .inr (.inr (.inr (.inr pf))))), (p0, .inr (0, [.int b0, .int z0, .ref n0])), (n0, .inl (nc0, 40, .inr (.inl g0))), (p1, .inr (0, [.int b1, .int z1, .ref n1])), (n1, .inl (nc1, 40, .inr (.inl g1))), (p2, .inr (0, [.int b2, .int z2, .ref n2])), (n2, .inl (nc2, 40, .inr (.inl g2))), (p3, .inr (0, [.int b3, .int z3, .ref n3])), (n3, .inl (nc3, 40, .inr (.inl g3))), (ah, .inr (4, [.int sh, .ref q1, .ref q2, .int tn, .ref q3, .ref q4, w6, w7, w8])), (q1, .inl (c1, 9, .inl f1)), (q2, .inl (c2, 9, .inl f2)), (q3, .inl (c3, 4, .inl f3)), (q4, .inl (c4, 4, .inl f4))] s.heap := hP
    have hl := lv_entry ([.ref h0, .int sn]) (n := 7) (Nat.le_of_ble_eq_true rfl)
    rw [lg_entry_eq]
    generalize (lg_sl ([.ref h0, .int sn]) ++ List.replicate (7 - (lg_sl ([.ref h0, .int sn])).length) Slot.unset).toArray = ls at hl ⊢
    have hl : lv_has ls 7 [(0, .ref h0), (1, .int sn)] := hl
    have thgt0 : 3 < sn.toInt := (fa_lt _ _).mp hgt0
    refine lv_aload_n hx hb dX8_read_0 rfl (lv_at hl 0 rfl) ?_
    refine lv_iload_n hx hb dX8_read_1 rfl (lv_at hl 1 rfl) ?_
    have hPc := hP.sub (ws' := [(h0, .inr (6, [.ref ah, v1, v2, v3, v4, .ref ph, .ref t0, v7]))]) [0] rfl
    have hKc := hK.sub (tys' := []) [] rfl
    refine va_csq (W.runV (As := [.int sn]) (rest := []) ⟨hx, hb, hml, hown, hts⟩ (c_paperAt_gt l dC dI ad h0 sn (.ref ah) v1 v2 v3 v4 (.ref ph) (.ref t0) v7 hgt0) (cwV 1 hts g_x_read_c_paperAt_gt_256 rfl rfl rfl (by decide +kernel) ⟨(Nat.le_of_ble_eq_true rfl), (Nat.le_of_ble_eq_true rfl)⟩) ⟨preS_blind, va_recv hKc hPc (ci := 6) (q0 := 0) rfl rfl, fun U hU hW => ⟨rfl, preS_at hU hW hPc hKc hev⟩⟩ rfl rfl hl.1 rfl (lv_room (Nat.le_of_ble_eq_true rfl)) dX8_read_2 ⟨(Nat.le_of_ble_eq_true rfl), (Nat.le_of_ble_eq_true rfl)⟩) (fun r_4 hw => ?_)
    subst hw
    refine pp_tv (y := .null) rfl ?_
    refine lv_astore_nN (lv' := [(2, .null), (0, .ref h0), (1, .int sn)]) hx hb dX8_read_5 rfl hl (by decide) rfl (fun ls hl => ?_)
    refine lv_aload_nN hx hb dX8_read_6 rfl (lv_at hl 0 rfl) ?_
    refine lv_ifnonnullN hx hb dX8_read_7 ?_
    refine lv_aload_n hx hb dX8_read_10 rfl (lv_at hl 1 rfl) ?_
    refine lv_ldc hx hb hown (hts _ (List.mem_of_getElem? (i := 6) rfl)) dX8_read_11 ?_
    have hPc := hP.sub (ws' := [(h0, .inr (6, [.ref ah, v1, v2, v3, v4, .ref ph, .ref t0, v7])), (t0, .inl (tc, 7, .inl tf))]) [0, 1] rfl
    have hKc := hK.sub (tys' := [(tc, .int)]) [0] rfl
    have hDc := hD.sub (ws' := [(h0, .inr (6, [.ref ah, v1, v2, v3, v4, .ref ph, .ref t0, v7])), (t0, .inl (tc, 7, .inl tf))]) [0, 1] (by decide) rfl
    have hFc := va_free (wc := [(h0, .inr (6, [.ref ah, v1, v2, v3, v4, .ref ph, .ref t0, v7])), (t0, .inl (tc, 7, .inl tf))]) hD hS hA [0, 1] rfl
    refine va_calli (va_runV (As := [.int (-1000000001)]) (rest := []) ⟨hx, hb, hml, hown, hts⟩ (f_beyond l dC dI ad h0 (.ref ah) v1 v2 v3 v4 (.ref ph) t0 v7 tc tf s.heap.size ) (cwV 1 hts g_x_read_f_beyond_63 rfl rfl rfl (by decide +kernel) ⟨(Nat.le_of_ble_eq_true rfl), (Nat.le_of_ble_eq_true rfl)⟩) ⟨preM_blind, va_recv hKc hPc (ci := 6) (q0 := 0) rfl rfl, fun U hU hW => ⟨rfl, preM_at hU hW hPc hKc hDc hev⟩⟩ rfl rfl hl.1 rfl (lv_room (Nat.le_of_ble_eq_true rfl)) dX8_read_13 ⟨(Nat.le_of_ble_eq_true rfl), (Nat.le_of_ble_eq_true rfl)⟩) hS (fun q _ h => hFc q h) hFc (fun r_5 u t H1 locs ht hvm hw hB hz1 hk1 hS => ?_)
    obtain ⟨tg_6, hP1, hK1, hD1⟩ := hB
    rw [ht] at hP1
    have hK1 := va_K.moved hvm.symm hK1
    obtain ⟨hP, hD⟩ := va_join (wr := [(ph, .inl (pc, 4, .inr (.inr (.inr (.inr pf))))), (p0, .inr (0, [.int b0, .int z0, .ref n0])), (n0, .inl (nc0, 40, .inr (.inl g0))), (p1, .inr (0, [.int b1, .int z1, .ref n1])), (n1, .inl (nc1, 40, .inr (.inl g1))), (p2, .inr (0, [.int b2, .int z2, .ref n2])), (n2, .inl (nc2, 40, .inr (.inl g2))), (p3, .inr (0, [.int b3, .int z3, .ref n3])), (n3, .inl (nc3, 40, .inr (.inl g3))), (ah, .inr (4, [.int sh, .ref q1, .ref q2, .int tn, .ref q3, .ref q4, w6, w7, w8])), (q1, .inl (c1, 9, .inl f1)), (q2, .inl (c2, 9, .inl f2)), (q3, .inl (c3, 4, .inl f3)), (q4, .inl (c4, 4, .inl f4))]) (w1 := [(h0, .inr (6, [.ref ah, v1, v2, v3, v4, .ref ph, .ref t0, v7])), (t0, .inl (tc, 7, .inl tg_6))]) hP hD [0, 1] [2, 3, 4, 5, 6, 7, 8, 9, 10, 11, 12, 13, 14, 15] rfl rfl (by decide) (by decide) hk1 hFc hP1 hD1
    generalize H1 = H at hP hS ⊢
    have hP : va_P (dC, dI) vwCl [(ph, .inl (pc, 4, .inr (.inr (.inr (.inr pf))))), (p0, .inr (0, [.int b0, .int z0, .ref n0])), (n0, .inl (nc0, 40, .inr (.inl g0))), (p1, .inr (0, [.int b1, .int z1, .ref n1])), (n1, .inl (nc1, 40, .inr (.inl g1))), (p2, .inr (0, [.int b2, .int z2, .ref n2])), (n2, .inl (nc2, 40, .inr (.inl g2))), (p3, .inr (0, [.int b3, .int z3, .ref n3])), (n3, .inl (nc3, 40, .inr (.inl g3))), (ah, .inr (4, [.int sh, .ref q1, .ref q2, .int tn, .ref q3, .ref q4, w6, w7, w8])), (q1, .inl (c1, 9, .inl f1)), (q2, .inl (c2, 9, .inl f2)), (q3, .inl (c3, 4, .inl f3)), (q4, .inl (c4, 4, .inl f4)), (h0, .inr (6, [.ref ah, v1, v2, v3, v4, .ref ph, .ref t0, v7])), (t0, .inl (tc, 7, .inl tg_6))] H := hP
    have hD : va_D A [(ph, .inl (pc, 4, .inr (.inr (.inr (.inr pf))))), (p0, .inr (0, [.int b0, .int z0, .ref n0])), (n0, .inl (nc0, 40, .inr (.inl g0))), (p1, .inr (0, [.int b1, .int z1, .ref n1])), (n1, .inl (nc1, 40, .inr (.inl g1))), (p2, .inr (0, [.int b2, .int z2, .ref n2])), (n2, .inl (nc2, 40, .inr (.inl g2))), (p3, .inr (0, [.int b3, .int z3, .ref n3])), (n3, .inl (nc3, 40, .inr (.inl g3))), (ah, .inr (4, [.int sh, .ref q1, .ref q2, .int tn, .ref q3, .ref q4, w6, w7, w8])), (q1, .inl (c1, 9, .inl f1)), (q2, .inl (c2, 9, .inl f2)), (q3, .inl (c3, 4, .inl f3)), (q4, .inl (c4, 4, .inl f4)), (h0, .inr (6, [.ref ah, v1, v2, v3, v4, .ref ph, .ref t0, v7])), (t0, .inl (tc, 7, .inl tg_6))] := hD
    subst hw
    have hP9 := hP.sub (ws' := [(h0, .inr (6, [.ref ah, v1, v2, v3, v4, .ref ph, .ref t0, v7])), (t0, .inl (tc, 7, .inl tg_6)), (ph, .inl (pc, 4, .inr (.inr (.inr (.inr pf))))), (p0, .inr (0, [.int b0, .int z0, .ref n0])), (n0, .inl (nc0, 40, .inr (.inl g0))), (p1, .inr (0, [.int b1, .int z1, .ref n1])), (n1, .inl (nc1, 40, .inr (.inl g1))), (p2, .inr (0, [.int b2, .int z2, .ref n2])), (n2, .inl (nc2, 40, .inr (.inl g2))), (p3, .inr (0, [.int b3, .int z3, .ref n3])), (n3, .inl (nc3, 40, .inr (.inl g3))), (ah, .inr (4, [.int sh, .ref q1, .ref q2, .int tn, .ref q3, .ref q4, w6, w7, w8])), (q1, .inl (c1, 9, .inl f1)), (q2, .inl (c2, 9, .inl f2)), (q3, .inl (c3, 4, .inl f3)), (q4, .inl (c4, 4, .inl f4))]) [14, 15, 0, 1, 2, 3, 4, 5, 6, 7, 8, 9, 10, 11, 12, 13] rfl
    have hD9 := hD.sub (ws' := [(h0, .inr (6, [.ref ah, v1, v2, v3, v4, .ref ph, .ref t0, v7])), (t0, .inl (tc, 7, .inl tg_6)), (ph, .inl (pc, 4, .inr (.inr (.inr (.inr pf))))), (p0, .inr (0, [.int b0, .int z0, .ref n0])), (n0, .inl (nc0, 40, .inr (.inl g0))), (p1, .inr (0, [.int b1, .int z1, .ref n1])), (n1, .inl (nc1, 40, .inr (.inl g1))), (p2, .inr (0, [.int b2, .int z2, .ref n2])), (n2, .inl (nc2, 40, .inr (.inl g2))), (p3, .inr (0, [.int b3, .int z3, .ref n3])), (n3, .inl (nc3, 40, .inr (.inl g3))), (ah, .inr (4, [.int sh, .ref q1, .ref q2, .int tn, .ref q3, .ref q4, w6, w7, w8])), (q1, .inl (c1, 9, .inl f1)), (q2, .inl (c2, 9, .inl f2)), (q3, .inl (c3, 4, .inl f3)), (q4, .inl (c4, 4, .inl f4))]) [14, 15, 0, 1, 2, 3, 4, 5, 6, 7, 8, 9, 10, 11, 12, 13] (by decide) rfl
    have hK9 := hK.sub (tys' := [(tc, .int), (pc, .object "LampShapes$Paper"), (nc0, .long), (nc1, .long), (nc2, .long), (nc3, .long), (c1, .int), (c2, .int), (c3, .int), (c4, .int)]) [0, 1, 2, 3, 4, 5, 6, 7, 8, 9] rfl
    exact W.iret (v := ((-1000000001) : Int32)) hx hb hr (fun t ht hW => ⟨⟨((-1000000001) : Int32), (), rfl, trivial, tg_6, by rw [ht]; exact hP9, va_K.moved hW.alike hK9, hD9⟩, hS.F ht⟩) hS.2.2 dX8_read_16
  · skip
    refine Met.ofW (cc := cX8_read) (maxL := 7) (ret := (some .int)) (by decide) rfl ?_
    intro p e s m args below meth c s₁ B hml hv
    obtain ⟨rfl, hsz, hP, hK, hD0, hev⟩ := hv
    have hx := B.exec
    have hb := B.bytes
    have hr := B.returns
    have hts := atoms_spec (ws := w_x_read) B.pre
    have hown : s.vm.findClass RX8 = some m.cls := findClass_of_methodNamed B.named
    have hlocks := B.notSynchronized
    have inX8 : ∀ w ∈ wsX80, w ∈ w_x_read := fun w h => List.mem_cons_of_mem _ (List.mem_append_left _ (List.mem_append_left _ (List.mem_append_right _ h)))
    have inX2 : ∀ w ∈ wsX20, w ∈ w_x_read := fun w h => List.mem_cons_of_mem _ (List.mem_append_left _ (List.mem_append_right _ h))
    have inX6 : ∀ w ∈ wsX60, w ∈ w_x_read := fun w h => List.mem_cons_of_mem _ (List.mem_append_right _ h)
    subst hsz
    have hD := hD0.self (sz := s.heap.size)
    generalize hAe : va_A [(h0, .inr (6, [.ref ah, v1, v2, v3, v4, .ref ph, .ref t0, v7])), (t0, .inl (tc, 7, .inl tf)), (ph, .inl (pc, 4, .inr (.inr (.inr (.inr pf))))), (p0, .inr (0, [.int b0, .int z0, .ref n0])), (n0, .inl (nc0, 40, .inr (.inl g0))), (p1, .inr (0, [.int b1, .int z1, .ref n1])), (n1, .inl (nc1, 40, .inr (.inl g1))), (p2, .inr (0, [.int b2, .int z2, .ref n2])), (n2, .inl (nc2, 40, .inr (.inl g2))), (p3, .inr (0, [.int b3, .int z3, .ref n3])), (n3, .inl (nc3, 40, .inr (.inl g3))), (ah, .inr (4, [.int sh, .ref q1, .ref q2, .int tn, .ref q3, .ref q4, w6, w7, w8])), (q1, .inl (c1, 9, .inl f1)), (q2, .inl (c2, 9, .inl f2)), (q3, .inl (c3, 4, .inl f3)), (q4, .inl (c4, 4, .inl f4))] s.heap.size = A at hD ⊢
    have hA : ∀ q : Nat, s.heap.size ≤ q → A q := fun q h => by rw [← hAe]; exact Or.inr h
    have hS : va_S A s.heap s.heap [] := va_S.rf
    have hP : va_P (dC, dI) vwCl [(h0, .inr (6, [.ref ah, v1, v2, v3, v4, .ref ph, .ref t0, v7])), (t0, .inl (tc, 7, .inl tf)), (ph, .inl (pc, 4, .inr (.inr (.inr (.inr pf))))), (p0, .inr (0, [.int b0, .int z0, .ref n0])), (n0, .inl (nc0, 40, .inr (.inl g0))), (p1, .inr (0, [.int b1, .int z1, .ref n1])), (n1, .inl (nc1, 40, .inr (.inl g1))), (p2, .inr (0, [.int b2, .int z2, .ref n2])), (n2, .inl (nc2, 40, .inr (.inl g2))), (p3, .inr (0, [.int b3, .int z3, .ref n3])), (n3, .inl (nc3, 40, .inr (.inl g3))), (ah, .inr (4, [.int sh, .ref q1, .ref q2, .int tn, .ref q3, .ref q4, w6, w7, w8])), (q1, .inl (c1, 9, .inl f1)), (q2, .inl (c2, 9, .inl f2)), (q3, .inl (c3, 4, .inl f3)), (q4, .inl (c4, 4, .inl f4))] s.heap := hP
    have hl := lv_entry ([.ref h0, .int 0]) (n := 7) (Nat.le_of_ble_eq_true rfl)
    rw [lg_entry_eq]
    generalize (lg_sl ([.ref h0, .int 0]) ++ List.replicate (7 - (lg_sl ([.ref h0, .int 0])).length) Slot.unset).toArray = ls at hl ⊢
    have hl : lv_has ls 7 [(0, .ref h0), (1, .int 0)] := hl
    refine lv_aload_n hx hb dX8_read_0 rfl (lv_at hl 0 rfl) ?_
    refine lv_iload_n hx hb dX8_read_1 rfl (lv_at hl 1 rfl) ?_
    have hPc := hP.sub (ws' := [(h0, .inr (6, [.ref ah, v1, v2, v3, v4, .ref ph, .ref t0, v7])), (ph, .inl (pc, 4, .inr (.inr (.inr (.inr pf)))))]) [0, 2] rfl
    have hKc := hK.sub (tys' := [(pc, .object "LampShapes$Paper")]) [1] rfl
    refine va_csq (W.runV (As := [.int 0]) (rest := []) ⟨hx, hb, hml, hown, hts⟩ (c_paperAt_0 l dC dI ad h0 (.ref ah) v1 v2 v3 v4 ph (.ref t0) v7 pc pf p0 hp0) (cwV 1 hts g_x_read_c_paperAt_0_256 rfl rfl rfl (by decide +kernel) ⟨(Nat.le_of_ble_eq_true rfl), (Nat.le_of_ble_eq_true rfl)⟩) ⟨preS_blind, va_recv hKc hPc (ci := 6) (q0 := 0) rfl rfl, fun U hU hW => ⟨rfl, preS_at hU hW hPc hKc hev⟩⟩ rfl rfl hl.1 rfl (lv_room (Nat.le_of_ble_eq_true rfl)) dX8_read_2 ⟨(Nat.le_of_ble_eq_true rfl), (Nat.le_of_ble_eq_true rfl)⟩) (fun r_7 hw => ?_)
    subst hw
    refine pp_tv (y := .ref p0) rfl ?_
    refine lv_astore_n (lv' := [(2, .ref p0), (0, .ref h0), (1, .int 0)]) hx hb dX8_read_5 rfl hl (by decide) rfl (fun ls hl => ?_)
    refine lv_aload_n hx hb dX8_read_6 rfl (lv_at hl 0 rfl) ?_
    refine lv_ifnonnull (tgt := 17) hx hb dX8_read_7 (by decide) ?_
    refine lv_aload_n hx hb dX8_read_17 rfl (lv_at hl 0 rfl) ?_
    have hPc := hP.sub (ws' := [(p0, .inr (0, [.int b0, .int z0, .ref n0]))]) [3] rfl
    have hKc := hK.sub (tys' := []) [] rfl
    refine vp_callSi (W.runV (As := []) (rest := []) ⟨hx, hb, hml, hown, hts⟩ (p_isMissing l dC dI ad p0 b0 (.int z0) (.ref n0) ) (cwV 0 hts g_x_read_p_isMissing_268 rfl rfl rfl (by decide +kernel) ⟨(Nat.le_of_ble_eq_true rfl), (Nat.le_of_ble_eq_true rfl)⟩) ⟨preS_blind, va_recv hKc hPc (ci := 0) (q0 := 0) rfl rfl, fun U hU hW => ⟨rfl, preS_at hU hW hPc hKc hev⟩⟩ rfl rfl hl.1 rfl (lv_room (Nat.le_of_ble_eq_true rfl)) dX8_read_18 ⟨(Nat.le_of_ble_eq_true rfl), (Nat.le_of_ble_eq_true rfl)⟩) (fun r_8 hw => ?_)
    have hr_8 : (r_8.toInt = 1 ∧ b0.toInt = 0) ∨ (r_8.toInt = 0 ∧ ¬ b0.toInt = 0) := hw
    refine lv_if_eq (tgt := 32) hx hb dX8_read_21 (by decide) (fun c_9 => ?_) (fun c_9 => ?_)
    · skip
      have tc_9 : r_8.toInt = 0 := (fa_eq _ _).mp c_9
      refine lv_aload_n hx hb dX8_read_32 rfl (lv_at hl 1 rfl) ?_
      refine va_get (D := (dC, dI)) (ci := 6) (v := .ref ah) (C := RX8) (T := TX8) (N := 8) hx hb hts inX8 hown hK hP 0 rfl rfl 0 (by decide) (hts _ (List.mem_of_getElem? (i := 19) rfl)) (fun _ h9 => h9) rfl dX8_read_33 ?_
      have hPc := hP.sub (ws' := [(ah, .inr (4, [.int sh, .ref q1, .ref q2, .int tn, .ref q3, .ref q4, w6, w7, w8])), (q1, .inl (c1, 9, .inl f1)), (q2, .inl (c2, 9, .inl f2)), (q3, .inl (c3, 4, .inl f3)), (q4, .inl (c4, 4, .inl f4))]) [11, 12, 13, 14, 15] rfl
      have hKc := hK.sub (tys' := [(c1, .int), (c2, .int), (c3, .int), (c4, .int)]) [6, 7, 8, 9] rfl
      refine vp_callSl (W.runV (As := []) (rest := []) ⟨hx, hb, hml, hown, hts⟩ (s_darkCells l dC dI ad ah sh q1 q2 tn q3 q4 w6 w7 w8 c1 f1 c2 f2 c3 f3 c4 f4 hsh) (cwV 0 hts g_x_read_s_darkCells_134 rfl rfl rfl (by decide +kernel) ⟨(Nat.le_of_ble_eq_true rfl), (Nat.le_of_ble_eq_true rfl)⟩) ⟨preS_blind, va_recv hKc hPc (ci := 4) (q0 := 0) rfl rfl, fun U hU hW => ⟨rfl, preS_at hU hW hPc hKc hev⟩⟩ rfl rfl hl.1 rfl (lv_room (Nat.le_of_ble_eq_true rfl)) dX8_read_36 ⟨(Nat.le_of_ble_eq_true rfl), (Nat.le_of_ble_eq_true rfl)⟩) (fun r_10 hw => ?_)
      refine lv_lstore_n (lv' := [(3, .long r_10), (2, .ref p0), (0, .ref h0), (1, .int 0)]) hx hb dX8_read_39 rfl hl (by decide) rfl (fun ls hl => ?_)
      refine lv_aload_n hx hb dX8_read_40 rfl (lv_at hl 1 rfl) ?_
      refine va_getN (D := (dC, dI)) (ci := 0) (v := .int z0) (C := RX2) (T := TX2) (N := 3) hx hb hts inX2 hown hK hP 3 rfl rfl 1 (by decide) (ev_nest hev 22 rfl) (fun _ h9 => h9) rfl dX8_read_41 ?_
      refine lv_bipush (v := 8) hx hb dX8_read_44 (by decide) ?_
      refine va_mmin hx hb (by rw [hml]; exact hl.1.symm) hown (hts _ (List.mem_of_getElem? (i := 82) rfl)) (hts _ (List.mem_of_getElem? (i := 83) rfl)) (hts _ (List.mem_of_getElem? (i := 84) rfl)) (hts _ (List.mem_of_getElem? (i := 85) rfl)) (Nat.le_of_ble_eq_true rfl) (Nat.le_of_ble_eq_true rfl) (Nat.le_of_ble_eq_true rfl) (Nat.le_of_ble_eq_true rfl) dX8_read_46 ?_
      refine lv_topi (fun n_11 en_11 => ?_)
      have tn_11 : n_11.toInt ≤ z0.toInt ∧ n_11.toInt ≤ 8 ∧ (n_11.toInt = z0.toInt ∨ n_11.toInt = 8) := pp_min en_11
      refine lv_istore (lv' := [(5, .int n_11), (3, .long r_10), (2, .ref p0), (0, .ref h0), (1, .int 0)]) hx hb dX8_read_49 hl (by decide) rfl (fun ls hl => ?_)
      refine lv_iconst (v := 0) hx hb dX8_read_51 (by decide) ?_
      refine lv_istore (lv' := [(6, .int 0), (5, .int n_11), (3, .long r_10), (2, .ref p0), (0, .ref h0), (1, .int 0)]) hx hb dX8_read_52 hl (by decide) rfl (fun ls hl => ?_)
      refine pp_loop (ι := Int32) (fun v6_54 => (n_11.toInt - v6_54.toInt).toNat) (fun v6_54 H locs ls => (0 ≤ v6_54.toInt) ∧ va_P (dC, dI) vwCl [(h0, .inr (6, [.ref ah, v1, v2, v3, v4, .ref ph, .ref t0, v7])), (t0, .inl (tc, 7, .inl tf)), (ph, .inl (pc, 4, .inr (.inr (.inr (.inr pf))))), (p0, .inr (0, [.int b0, .int z0, .ref n0])), (n0, .inl (nc0, 40, .inr (.inl g0))), (p1, .inr (0, [.int b1, .int z1, .ref n1])), (n1, .inl (nc1, 40, .inr (.inl g1))), (p2, .inr (0, [.int b2, .int z2, .ref n2])), (n2, .inl (nc2, 40, .inr (.inl g2))), (p3, .inr (0, [.int b3, .int z3, .ref n3])), (n3, .inl (nc3, 40, .inr (.inl g3))), (ah, .inr (4, [.int sh, .ref q1, .ref q2, .int tn, .ref q3, .ref q4, w6, w7, w8])), (q1, .inl (c1, 9, .inl f1)), (q2, .inl (c2, 9, .inl f2)), (q3, .inl (c3, 4, .inl f3)), (q4, .inl (c4, 4, .inl f4))] H ∧ va_D A [(h0, .inr (6, [.ref ah, v1, v2, v3, v4, .ref ph, .ref t0, v7])), (t0, .inl (tc, 7, .inl tf)), (ph, .inl (pc, 4, .inr (.inr (.inr (.inr pf))))), (p0, .inr (0, [.int b0, .int z0, .ref n0])), (n0, .inl (nc0, 40, .inr (.inl g0))), (p1, .inr (0, [.int b1, .int z1, .ref n1])), (n1, .inl (nc1, 40, .inr (.inl g1))), (p2, .inr (0, [.int b2, .int z2, .ref n2])), (n2, .inl (nc2, 40, .inr (.inl g2))), (p3, .inr (0, [.int b3, .int z3, .ref n3])), (n3, .inl (nc3, 40, .inr (.inl g3))), (ah, .inr (4, [.int sh, .ref q1, .ref q2, .int tn, .ref q3, .ref q4, w6, w7, w8])), (q1, .inl (c1, 9, .inl f1)), (q2, .inl (c2, 9, .inl f2)), (q3, .inl (c3, 4, .inl f3)), (q4, .inl (c4, 4, .inl f4))] ∧ va_S A s.heap H locs ∧ lv_has ls 7 [(6, .int v6_54), (5, .int n_11), (3, .long r_10), (2, .ref p0), (0, .ref h0), (1, .int 0)]) ?_ 0 _ _ _ ⟨(by first | omega | decide | (simp only [fa_lt, fa_le, fa_eq, and_true, true_and, and_false, false_and, not_true_eq_false, not_false_eq_true, li_0, li_1, li_2, li_3, li_4, li_5, li_6, li_7, li_8, li_9, li_10, li_12, li_15, li_16, li_20, li_30, li_34, li_38, li_40, li_63, li_64, li_65, li_78, li_120, li_1000, li_4000, li_10000, li_11077, li_255, li_65535, li_m1, li_m2, li_m1000000001, li_m1000000002, li_m1000000003, li_m1000000004, li_m1000000005, li_m1000000006, li_m1000000007, or_true, true_or, or_false, false_or, implies_true, true_implies, false_implies] <;> omega)), hP.sub [0, 1, 2, 3, 4, 5, 6, 7, 8, 9, 10, 11, 12, 13, 14, 15] rfl, hD.sub [0, 1, 2, 3, 4, 5, 6, 7, 8, 9, 10, 11, 12, 13, 14, 15] (by decide) rfl, hS, lv_sub hl [0, 1, 2, 3, 4, 5] rfl⟩
      intro k_12 ihk_12 u H locs ls hm hI
      obtain ⟨v6_54, rfl⟩ : ∃ z, z = u := ⟨_, rfl⟩
      obtain ⟨jk_12_0, hP, hD, hS, hl⟩ := hI
      have hmk_12 : (n_11.toInt - v6_54.toInt).toNat < k_12 + 1 := hm
      clear hm
      have jk_12_0 : 0 ≤ v6_54.toInt := jk_12_0
      have hl : lv_has ls 7 [(6, .int v6_54), (5, .int n_11), (3, .long r_10), (2, .ref p0), (0, .ref h0), (1, .int 0)] := hl
      have hP : va_P (dC, dI) vwCl [(h0, .inr (6, [.ref ah, v1, v2, v3, v4, .ref ph, .ref t0, v7])), (t0, .inl (tc, 7, .inl tf)), (ph, .inl (pc, 4, .inr (.inr (.inr (.inr pf))))), (p0, .inr (0, [.int b0, .int z0, .ref n0])), (n0, .inl (nc0, 40, .inr (.inl g0))), (p1, .inr (0, [.int b1, .int z1, .ref n1])), (n1, .inl (nc1, 40, .inr (.inl g1))), (p2, .inr (0, [.int b2, .int z2, .ref n2])), (n2, .inl (nc2, 40, .inr (.inl g2))), (p3, .inr (0, [.int b3, .int z3, .ref n3])), (n3, .inl (nc3, 40, .inr (.inl g3))), (ah, .inr (4, [.int sh, .ref q1, .ref q2, .int tn, .ref q3, .ref q4, w6, w7, w8])), (q1, .inl (c1, 9, .inl f1)), (q2, .inl (c2, 9, .inl f2)), (q3, .inl (c3, 4, .inl f3)), (q4, .inl (c4, 4, .inl f4))] H := hP
      have hD : va_D A [(h0, .inr (6, [.ref ah, v1, v2, v3, v4, .ref ph, .ref t0, v7])), (t0, .inl (tc, 7, .inl tf)), (ph, .inl (pc, 4, .inr (.inr (.inr (.inr pf))))), (p0, .inr (0, [.int b0, .int z0, .ref n0])), (n0, .inl (nc0, 40, .inr (.inl g0))), (p1, .inr (0, [.int b1, .int z1, .ref n1])), (n1, .inl (nc1, 40, .inr (.inl g1))), (p2, .inr (0, [.int b2, .int z2, .ref n2])), (n2, .inl (nc2, 40, .inr (.inl g2))), (p3, .inr (0, [.int b3, .int z3, .ref n3])), (n3, .inl (nc3, 40, .inr (.inl g3))), (ah, .inr (4, [.int sh, .ref q1, .ref q2, .int tn, .ref q3, .ref q4, w6, w7, w8])), (q1, .inl (c1, 9, .inl f1)), (q2, .inl (c2, 9, .inl f2)), (q3, .inl (c3, 4, .inl f3)), (q4, .inl (c4, 4, .inl f4))] := hD
      refine lv_iload hx hb dX8_read_54 (lv_at hl 0 rfl) ?_
      refine lv_iload hx hb dX8_read_56 (lv_at hl 1 rfl) ?_
      have rc_13_x := pp_rng v6_54
      have rc_13_y := pp_rng n_11
      refine lv_icmp_ge (tgt := 94) hx hb dX8_read_58 (by decide) (fun c_13 => ?_) (fun c_13 => ?_)
      · skip
        have tc_13 : n_11.toInt ≤ v6_54.toInt := (fa_le _ _).mp c_13
        refine lv_iconst (v := 0) hx hb dX8_read_94 (by decide) ?_
        have hP9 := hP.sub (ws' := [(h0, .inr (6, [.ref ah, v1, v2, v3, v4, .ref ph, .ref t0, v7])), (t0, .inl (tc, 7, .inl tf)), (ph, .inl (pc, 4, .inr (.inr (.inr (.inr pf))))), (p0, .inr (0, [.int b0, .int z0, .ref n0])), (n0, .inl (nc0, 40, .inr (.inl g0))), (p1, .inr (0, [.int b1, .int z1, .ref n1])), (n1, .inl (nc1, 40, .inr (.inl g1))), (p2, .inr (0, [.int b2, .int z2, .ref n2])), (n2, .inl (nc2, 40, .inr (.inl g2))), (p3, .inr (0, [.int b3, .int z3, .ref n3])), (n3, .inl (nc3, 40, .inr (.inl g3))), (ah, .inr (4, [.int sh, .ref q1, .ref q2, .int tn, .ref q3, .ref q4, w6, w7, w8])), (q1, .inl (c1, 9, .inl f1)), (q2, .inl (c2, 9, .inl f2)), (q3, .inl (c3, 4, .inl f3)), (q4, .inl (c4, 4, .inl f4))]) [0, 1, 2, 3, 4, 5, 6, 7, 8, 9, 10, 11, 12, 13, 14, 15] rfl
        have hD9 := hD.sub (ws' := [(h0, .inr (6, [.ref ah, v1, v2, v3, v4, .ref ph, .ref t0, v7])), (t0, .inl (tc, 7, .inl tf)), (ph, .inl (pc, 4, .inr (.inr (.inr (.inr pf))))), (p0, .inr (0, [.int b0, .int z0, .ref n0])), (n0, .inl (nc0, 40, .inr (.inl g0))), (p1, .inr (0, [.int b1, .int z1, .ref n1])), (n1, .inl (nc1, 40, .inr (.inl g1))), (p2, .inr (0, [.int b2, .int z2, .ref n2])), (n2, .inl (nc2, 40, .inr (.inl g2))), (p3, .inr (0, [.int b3, .int z3, .ref n3])), (n3, .inl (nc3, 40, .inr (.inl g3))), (ah, .inr (4, [.int sh, .ref q1, .ref q2, .int tn, .ref q3, .ref q4, w6, w7, w8])), (q1, .inl (c1, 9, .inl f1)), (q2, .inl (c2, 9, .inl f2)), (q3, .inl (c3, 4, .inl f3)), (q4, .inl (c4, 4, .inl f4))]) [0, 1, 2, 3, 4, 5, 6, 7, 8, 9, 10, 11, 12, 13, 14, 15] (by decide) rfl
        have hK9 := hK.sub (tys' := [(tc, .int), (pc, .object "LampShapes$Paper"), (nc0, .long), (nc1, .long), (nc2, .long), (nc3, .long), (c1, .int), (c2, .int), (c3, .int), (c4, .int)]) [0, 1, 2, 3, 4, 5, 6, 7, 8, 9] rfl
        exact W.iret (v := (0 : Int32)) hx hb hr (fun t ht hW => ⟨⟨(0 : Int32), (), rfl, trivial, tf, by rw [ht]; exact hP9, va_K.moved hW.alike hK9, hD9⟩, hS.F ht⟩) hS.2.2 dX8_read_95
      · skip
        have tc_13 : ¬ n_11.toInt ≤ v6_54.toInt := fun h => c_13 ((fa_le _ _).mpr h)
        refine lv_aload_n hx hb dX8_read_61 rfl (lv_at hl 3 rfl) ?_
        refine va_getN (D := (dC, dI)) (ci := 0) (v := .ref n0) (C := RX2) (T := TX2) (N := 3) hx hb hts inX2 hown hK hP 3 rfl rfl 2 (by decide) (ev_nest hev 23 rfl) (fun _ h9 => h9) rfl dX8_read_62 ?_
        refine lv_iload hx hb dX8_read_65 (lv_at hl 0 rfl) ?_
        refine va_lald hx hb hK hP 4 2 rfl rfl (vp_in_iff.mpr ⟨by omega, by omega⟩) dX8_read_67 ?_
        refine lv_topl (fun n_14 en_14 => ?_)
        clear en_14
        refine lv_ldc2 hx hb hown (hts _ (List.mem_of_getElem? (i := 86) rfl)) dX8_read_68 ?_
        refine lv_land hx hb dX8_read_71 ?_
        refine lv_topl (fun n_15 en_15 => ?_)
        clear en_15
        refine lv_lload_n hx hb dX8_read_72 rfl (lv_at hl 2 rfl) ?_
        refine lv_iload hx hb dX8_read_73 (lv_at hl 0 rfl) ?_
        have hPc := hP.sub (ws' := []) [] rfl
        have hKc := hK.sub (tys' := []) [] rfl
        refine vp_callSi (W.runS (As := [.long r_10, .int v6_54]) (rest := [.long n_15]) ⟨hx, hb, hml, hown, hts⟩ (l_rowOf l dC dI ad r_10 v6_54 ) (va_cwS 2 hts g_x_read_l_rowOf_291 rfl rfl rfl (by decide +kernel) ⟨(Nat.le_of_ble_eq_true rfl), (Nat.le_of_ble_eq_true rfl)⟩) ⟨preS_blind, fun U hU hW => ⟨rfl, preS_at hU hW hPc hKc hev⟩⟩ rfl rfl hl.1 rfl (lv_room (Nat.le_of_ble_eq_true rfl)) dX8_read_75 ⟨(Nat.le_of_ble_eq_true rfl), (Nat.le_of_ble_eq_true rfl)⟩) (fun r_16 hw => ?_)
        obtain ⟨n_17, en_17⟩ : ∃ z : Int64, z = r_16.toInt64 := ⟨_, rfl⟩
        refine lv_i2l (v := n_17) hx hb dX8_read_78 en_17.symm ?_
        clear en_17
        refine W.lcmp hx hb dX8_read_79 ?_
        refine lv_topi (fun n_18 en_18 => ?_)
        refine lv_if_eq (tgt := 88) hx hb dX8_read_80 (by decide) (fun c_19 => ?_) (fun c_19 => ?_)
        · skip
          have tc_19 : n_18.toInt = 0 := (fa_eq _ _).mp c_19
          obtain ⟨n_20, en_20⟩ : ∃ y : Int32, y = v6_54 + 1 := ⟨_, rfl⟩
          have tn_20 : n_20.toInt = v6_54.toInt + 1 := pp_add en_20 rfl rfl (by omega) (by omega)
          refine lv_iinc (v := n_20) (lv' := [(6, .int n_20), (5, .int n_11), (3, .long r_10), (2, .ref p0), (0, .ref h0), (1, .int 0)]) hx hb dX8_read_88 hl (k := 0) rfl (by rw [en_20]; rfl) (by decide) rfl (fun ls hl => ?_)
          clear en_20
          refine lv_goto (tgt := 54) hx hb dX8_read_91 (by decide) ?_
          exact ihk_12 n_20 _ _ _ (by show (n_11.toInt - n_20.toInt).toNat < k_12; omega) ⟨(by first | omega | decide | (simp only [fa_lt, fa_le, fa_eq, and_true, true_and, and_false, false_and, not_true_eq_false, not_false_eq_true, li_0, li_1, li_2, li_3, li_4, li_5, li_6, li_7, li_8, li_9, li_10, li_12, li_15, li_16, li_20, li_30, li_34, li_38, li_40, li_63, li_64, li_65, li_78, li_120, li_1000, li_4000, li_10000, li_11077, li_255, li_65535, li_m1, li_m2, li_m1000000001, li_m1000000002, li_m1000000003, li_m1000000004, li_m1000000005, li_m1000000006, li_m1000000007, or_true, true_or, or_false, false_or, implies_true, true_implies, false_implies] <;> omega)), hP.sub [0, 1, 2, 3, 4, 5, 6, 7, 8, 9, 10, 11, 12, 13, 14, 15] rfl, hD.sub [0, 1, 2, 3, 4, 5, 6, 7, 8, 9, 10, 11, 12, 13, 14, 15] (by decide) rfl, hS, lv_sub hl [0, 1, 2, 3, 4, 5] rfl⟩
        · skip
          have tc_19 : ¬ n_18.toInt = 0 := fun h => c_19 ((fa_eq _ _).mpr h)
          have zc_19 : ¬ n_15 = n_17 := pp_lc_ne en_18 c_19
          refine lv_iconst (v := 1) hx hb dX8_read_83 (by decide) ?_
          refine lv_iload hx hb dX8_read_84 (lv_at hl 0 rfl) ?_
          refine lv_iadd hx hb dX8_read_86 ?_
          refine lv_topi (fun n_21 en_21 => ?_)
          have tn_21 : n_21.toInt = 1 + v6_54.toInt := pp_add en_21 rfl rfl (by omega) (by omega)
          clear en_21
          have hP9 := hP.sub (ws' := [(h0, .inr (6, [.ref ah, v1, v2, v3, v4, .ref ph, .ref t0, v7])), (t0, .inl (tc, 7, .inl tf)), (ph, .inl (pc, 4, .inr (.inr (.inr (.inr pf))))), (p0, .inr (0, [.int b0, .int z0, .ref n0])), (n0, .inl (nc0, 40, .inr (.inl g0))), (p1, .inr (0, [.int b1, .int z1, .ref n1])), (n1, .inl (nc1, 40, .inr (.inl g1))), (p2, .inr (0, [.int b2, .int z2, .ref n2])), (n2, .inl (nc2, 40, .inr (.inl g2))), (p3, .inr (0, [.int b3, .int z3, .ref n3])), (n3, .inl (nc3, 40, .inr (.inl g3))), (ah, .inr (4, [.int sh, .ref q1, .ref q2, .int tn, .ref q3, .ref q4, w6, w7, w8])), (q1, .inl (c1, 9, .inl f1)), (q2, .inl (c2, 9, .inl f2)), (q3, .inl (c3, 4, .inl f3)), (q4, .inl (c4, 4, .inl f4))]) [0, 1, 2, 3, 4, 5, 6, 7, 8, 9, 10, 11, 12, 13, 14, 15] rfl
          have hD9 := hD.sub (ws' := [(h0, .inr (6, [.ref ah, v1, v2, v3, v4, .ref ph, .ref t0, v7])), (t0, .inl (tc, 7, .inl tf)), (ph, .inl (pc, 4, .inr (.inr (.inr (.inr pf))))), (p0, .inr (0, [.int b0, .int z0, .ref n0])), (n0, .inl (nc0, 40, .inr (.inl g0))), (p1, .inr (0, [.int b1, .int z1, .ref n1])), (n1, .inl (nc1, 40, .inr (.inl g1))), (p2, .inr (0, [.int b2, .int z2, .ref n2])), (n2, .inl (nc2, 40, .inr (.inl g2))), (p3, .inr (0, [.int b3, .int z3, .ref n3])), (n3, .inl (nc3, 40, .inr (.inl g3))), (ah, .inr (4, [.int sh, .ref q1, .ref q2, .int tn, .ref q3, .ref q4, w6, w7, w8])), (q1, .inl (c1, 9, .inl f1)), (q2, .inl (c2, 9, .inl f2)), (q3, .inl (c3, 4, .inl f3)), (q4, .inl (c4, 4, .inl f4))]) [0, 1, 2, 3, 4, 5, 6, 7, 8, 9, 10, 11, 12, 13, 14, 15] (by decide) rfl
          have hK9 := hK.sub (tys' := [(tc, .int), (pc, .object "LampShapes$Paper"), (nc0, .long), (nc1, .long), (nc2, .long), (nc3, .long), (c1, .int), (c2, .int), (c3, .int), (c4, .int)]) [0, 1, 2, 3, 4, 5, 6, 7, 8, 9] rfl
          exact W.iret (v := n_21) hx hb hr (fun t ht hW => ⟨⟨n_21, (), rfl, trivial, tf, by rw [ht]; exact hP9, va_K.moved hW.alike hK9, hD9⟩, hS.F ht⟩) hS.2.2 dX8_read_87
    · skip
      have tc_9 : ¬ r_8.toInt = 0 := fun h => c_9 ((fa_eq _ _).mpr h)
      refine lv_aload_n hx hb dX8_read_24 rfl (lv_at hl 1 rfl) ?_
      refine lv_ldcw hx hb hown (hts _ (List.mem_of_getElem? (i := 91) rfl)) dX8_read_25 ?_
      have hPc := hP.sub (ws' := [(h0, .inr (6, [.ref ah, v1, v2, v3, v4, .ref ph, .ref t0, v7])), (t0, .inl (tc, 7, .inl tf))]) [0, 1] rfl
      have hKc := hK.sub (tys' := [(tc, .int)]) [0] rfl
      have hDc := hD.sub (ws' := [(h0, .inr (6, [.ref ah, v1, v2, v3, v4, .ref ph, .ref t0, v7])), (t0, .inl (tc, 7, .inl tf))]) [0, 1] (by decide) rfl
      have hFc := va_free (wc := [(h0, .inr (6, [.ref ah, v1, v2, v3, v4, .ref ph, .ref t0, v7])), (t0, .inl (tc, 7, .inl tf))]) hD hS hA [0, 1] rfl
      refine va_calli (va_runV (As := [.int (-1000000006)]) (rest := []) ⟨hx, hb, hml, hown, hts⟩ (f_missing l dC dI ad h0 (.ref ah) v1 v2 v3 v4 (.ref ph) t0 v7 tc tf s.heap.size ) (cwV 1 hts g_x_read_f_missing_63 rfl rfl rfl (by decide +kernel) ⟨(Nat.le_of_ble_eq_true rfl), (Nat.le_of_ble_eq_true rfl)⟩) ⟨preM_blind, va_recv hKc hPc (ci := 6) (q0 := 0) rfl rfl, fun U hU hW => ⟨rfl, preM_at hU hW hPc hKc hDc hev⟩⟩ rfl rfl hl.1 rfl (lv_room (Nat.le_of_ble_eq_true rfl)) dX8_read_28 ⟨(Nat.le_of_ble_eq_true rfl), (Nat.le_of_ble_eq_true rfl)⟩) hS (fun q _ h => hFc q h) hFc (fun r_22 u t H1 locs ht hvm hw hB hz1 hk1 hS => ?_)
      obtain ⟨tg_23, hP1, hK1, hD1⟩ := hB
      rw [ht] at hP1
      have hK1 := va_K.moved hvm.symm hK1
      obtain ⟨hP, hD⟩ := va_join (wr := [(ph, .inl (pc, 4, .inr (.inr (.inr (.inr pf))))), (p0, .inr (0, [.int b0, .int z0, .ref n0])), (n0, .inl (nc0, 40, .inr (.inl g0))), (p1, .inr (0, [.int b1, .int z1, .ref n1])), (n1, .inl (nc1, 40, .inr (.inl g1))), (p2, .inr (0, [.int b2, .int z2, .ref n2])), (n2, .inl (nc2, 40, .inr (.inl g2))), (p3, .inr (0, [.int b3, .int z3, .ref n3])), (n3, .inl (nc3, 40, .inr (.inl g3))), (ah, .inr (4, [.int sh, .ref q1, .ref q2, .int tn, .ref q3, .ref q4, w6, w7, w8])), (q1, .inl (c1, 9, .inl f1)), (q2, .inl (c2, 9, .inl f2)), (q3, .inl (c3, 4, .inl f3)), (q4, .inl (c4, 4, .inl f4))]) (w1 := [(h0, .inr (6, [.ref ah, v1, v2, v3, v4, .ref ph, .ref t0, v7])), (t0, .inl (tc, 7, .inl tg_23))]) hP hD [0, 1] [2, 3, 4, 5, 6, 7, 8, 9, 10, 11, 12, 13, 14, 15] rfl rfl (by decide) (by decide) hk1 hFc hP1 hD1
      generalize H1 = H at hP hS ⊢
      have hP : va_P (dC, dI) vwCl [(ph, .inl (pc, 4, .inr (.inr (.inr (.inr pf))))), (p0, .inr (0, [.int b0, .int z0, .ref n0])), (n0, .inl (nc0, 40, .inr (.inl g0))), (p1, .inr (0, [.int b1, .int z1, .ref n1])), (n1, .inl (nc1, 40, .inr (.inl g1))), (p2, .inr (0, [.int b2, .int z2, .ref n2])), (n2, .inl (nc2, 40, .inr (.inl g2))), (p3, .inr (0, [.int b3, .int z3, .ref n3])), (n3, .inl (nc3, 40, .inr (.inl g3))), (ah, .inr (4, [.int sh, .ref q1, .ref q2, .int tn, .ref q3, .ref q4, w6, w7, w8])), (q1, .inl (c1, 9, .inl f1)), (q2, .inl (c2, 9, .inl f2)), (q3, .inl (c3, 4, .inl f3)), (q4, .inl (c4, 4, .inl f4)), (h0, .inr (6, [.ref ah, v1, v2, v3, v4, .ref ph, .ref t0, v7])), (t0, .inl (tc, 7, .inl tg_23))] H := hP
      have hD : va_D A [(ph, .inl (pc, 4, .inr (.inr (.inr (.inr pf))))), (p0, .inr (0, [.int b0, .int z0, .ref n0])), (n0, .inl (nc0, 40, .inr (.inl g0))), (p1, .inr (0, [.int b1, .int z1, .ref n1])), (n1, .inl (nc1, 40, .inr (.inl g1))), (p2, .inr (0, [.int b2, .int z2, .ref n2])), (n2, .inl (nc2, 40, .inr (.inl g2))), (p3, .inr (0, [.int b3, .int z3, .ref n3])), (n3, .inl (nc3, 40, .inr (.inl g3))), (ah, .inr (4, [.int sh, .ref q1, .ref q2, .int tn, .ref q3, .ref q4, w6, w7, w8])), (q1, .inl (c1, 9, .inl f1)), (q2, .inl (c2, 9, .inl f2)), (q3, .inl (c3, 4, .inl f3)), (q4, .inl (c4, 4, .inl f4)), (h0, .inr (6, [.ref ah, v1, v2, v3, v4, .ref ph, .ref t0, v7])), (t0, .inl (tc, 7, .inl tg_23))] := hD
      subst hw
      have hP9 := hP.sub (ws' := [(h0, .inr (6, [.ref ah, v1, v2, v3, v4, .ref ph, .ref t0, v7])), (t0, .inl (tc, 7, .inl tg_23)), (ph, .inl (pc, 4, .inr (.inr (.inr (.inr pf))))), (p0, .inr (0, [.int b0, .int z0, .ref n0])), (n0, .inl (nc0, 40, .inr (.inl g0))), (p1, .inr (0, [.int b1, .int z1, .ref n1])), (n1, .inl (nc1, 40, .inr (.inl g1))), (p2, .inr (0, [.int b2, .int z2, .ref n2])), (n2, .inl (nc2, 40, .inr (.inl g2))), (p3, .inr (0, [.int b3, .int z3, .ref n3])), (n3, .inl (nc3, 40, .inr (.inl g3))), (ah, .inr (4, [.int sh, .ref q1, .ref q2, .int tn, .ref q3, .ref q4, w6, w7, w8])), (q1, .inl (c1, 9, .inl f1)), (q2, .inl (c2, 9, .inl f2)), (q3, .inl (c3, 4, .inl f3)), (q4, .inl (c4, 4, .inl f4))]) [14, 15, 0, 1, 2, 3, 4, 5, 6, 7, 8, 9, 10, 11, 12, 13] rfl
      have hD9 := hD.sub (ws' := [(h0, .inr (6, [.ref ah, v1, v2, v3, v4, .ref ph, .ref t0, v7])), (t0, .inl (tc, 7, .inl tg_23)), (ph, .inl (pc, 4, .inr (.inr (.inr (.inr pf))))), (p0, .inr (0, [.int b0, .int z0, .ref n0])), (n0, .inl (nc0, 40, .inr (.inl g0))), (p1, .inr (0, [.int b1, .int z1, .ref n1])), (n1, .inl (nc1, 40, .inr (.inl g1))), (p2, .inr (0, [.int b2, .int z2, .ref n2])), (n2, .inl (nc2, 40, .inr (.inl g2))), (p3, .inr (0, [.int b3, .int z3, .ref n3])), (n3, .inl (nc3, 40, .inr (.inl g3))), (ah, .inr (4, [.int sh, .ref q1, .ref q2, .int tn, .ref q3, .ref q4, w6, w7, w8])), (q1, .inl (c1, 9, .inl f1)), (q2, .inl (c2, 9, .inl f2)), (q3, .inl (c3, 4, .inl f3)), (q4, .inl (c4, 4, .inl f4))]) [14, 15, 0, 1, 2, 3, 4, 5, 6, 7, 8, 9, 10, 11, 12, 13] (by decide) rfl
      have hK9 := hK.sub (tys' := [(tc, .int), (pc, .object "LampShapes$Paper"), (nc0, .long), (nc1, .long), (nc2, .long), (nc3, .long), (c1, .int), (c2, .int), (c3, .int), (c4, .int)]) [0, 1, 2, 3, 4, 5, 6, 7, 8, 9] rfl
      exact W.iret (v := ((-1000000006) : Int32)) hx hb hr (fun t ht hW => ⟨⟨((-1000000006) : Int32), (), rfl, trivial, tg_23, by rw [ht]; exact hP9, va_K.moved hW.alike hK9, hD9⟩, hS.F ht⟩) hS.2.2 dX8_read_31
  · skip
    refine Met.ofW (cc := cX8_read) (maxL := 7) (ret := (some .int)) (by decide) rfl ?_
    intro p e s m args below meth c s₁ B hml hv
    obtain ⟨rfl, hsz, hP, hK, hD0, hev⟩ := hv
    have hx := B.exec
    have hb := B.bytes
    have hr := B.returns
    have hts := atoms_spec (ws := w_x_read) B.pre
    have hown : s.vm.findClass RX8 = some m.cls := findClass_of_methodNamed B.named
    have hlocks := B.notSynchronized
    have inX8 : ∀ w ∈ wsX80, w ∈ w_x_read := fun w h => List.mem_cons_of_mem _ (List.mem_append_left _ (List.mem_append_left _ (List.mem_append_right _ h)))
    have inX2 : ∀ w ∈ wsX20, w ∈ w_x_read := fun w h => List.mem_cons_of_mem _ (List.mem_append_left _ (List.mem_append_right _ h))
    have inX6 : ∀ w ∈ wsX60, w ∈ w_x_read := fun w h => List.mem_cons_of_mem _ (List.mem_append_right _ h)
    subst hsz
    have hD := hD0.self (sz := s.heap.size)
    generalize hAe : va_A [(h0, .inr (6, [.ref ah, v1, v2, v3, v4, .ref ph, .ref t0, v7])), (t0, .inl (tc, 7, .inl tf)), (ph, .inl (pc, 4, .inr (.inr (.inr (.inr pf))))), (p0, .inr (0, [.int b0, .int z0, .ref n0])), (n0, .inl (nc0, 40, .inr (.inl g0))), (p1, .inr (0, [.int b1, .int z1, .ref n1])), (n1, .inl (nc1, 40, .inr (.inl g1))), (p2, .inr (0, [.int b2, .int z2, .ref n2])), (n2, .inl (nc2, 40, .inr (.inl g2))), (p3, .inr (0, [.int b3, .int z3, .ref n3])), (n3, .inl (nc3, 40, .inr (.inl g3))), (ah, .inr (4, [.int sh, .ref q1, .ref q2, .int tn, .ref q3, .ref q4, w6, w7, w8])), (q1, .inl (c1, 9, .inl f1)), (q2, .inl (c2, 9, .inl f2)), (q3, .inl (c3, 4, .inl f3)), (q4, .inl (c4, 4, .inl f4))] s.heap.size = A at hD ⊢
    have hA : ∀ q : Nat, s.heap.size ≤ q → A q := fun q h => by rw [← hAe]; exact Or.inr h
    have hS : va_S A s.heap s.heap [] := va_S.rf
    have hP : va_P (dC, dI) vwCl [(h0, .inr (6, [.ref ah, v1, v2, v3, v4, .ref ph, .ref t0, v7])), (t0, .inl (tc, 7, .inl tf)), (ph, .inl (pc, 4, .inr (.inr (.inr (.inr pf))))), (p0, .inr (0, [.int b0, .int z0, .ref n0])), (n0, .inl (nc0, 40, .inr (.inl g0))), (p1, .inr (0, [.int b1, .int z1, .ref n1])), (n1, .inl (nc1, 40, .inr (.inl g1))), (p2, .inr (0, [.int b2, .int z2, .ref n2])), (n2, .inl (nc2, 40, .inr (.inl g2))), (p3, .inr (0, [.int b3, .int z3, .ref n3])), (n3, .inl (nc3, 40, .inr (.inl g3))), (ah, .inr (4, [.int sh, .ref q1, .ref q2, .int tn, .ref q3, .ref q4, w6, w7, w8])), (q1, .inl (c1, 9, .inl f1)), (q2, .inl (c2, 9, .inl f2)), (q3, .inl (c3, 4, .inl f3)), (q4, .inl (c4, 4, .inl f4))] s.heap := hP
    have hl := lv_entry ([.ref h0, .int 1]) (n := 7) (Nat.le_of_ble_eq_true rfl)
    rw [lg_entry_eq]
    generalize (lg_sl ([.ref h0, .int 1]) ++ List.replicate (7 - (lg_sl ([.ref h0, .int 1])).length) Slot.unset).toArray = ls at hl ⊢
    have hl : lv_has ls 7 [(0, .ref h0), (1, .int 1)] := hl
    refine lv_aload_n hx hb dX8_read_0 rfl (lv_at hl 0 rfl) ?_
    refine lv_iload_n hx hb dX8_read_1 rfl (lv_at hl 1 rfl) ?_
    have hPc := hP.sub (ws' := [(h0, .inr (6, [.ref ah, v1, v2, v3, v4, .ref ph, .ref t0, v7])), (ph, .inl (pc, 4, .inr (.inr (.inr (.inr pf)))))]) [0, 2] rfl
    have hKc := hK.sub (tys' := [(pc, .object "LampShapes$Paper")]) [1] rfl
    refine va_csq (W.runV (As := [.int 1]) (rest := []) ⟨hx, hb, hml, hown, hts⟩ (c_paperAt_1 l dC dI ad h0 (.ref ah) v1 v2 v3 v4 ph (.ref t0) v7 pc pf p1 hp1) (cwV 1 hts g_x_read_c_paperAt_1_256 rfl rfl rfl (by decide +kernel) ⟨(Nat.le_of_ble_eq_true rfl), (Nat.le_of_ble_eq_true rfl)⟩) ⟨preS_blind, va_recv hKc hPc (ci := 6) (q0 := 0) rfl rfl, fun U hU hW => ⟨rfl, preS_at hU hW hPc hKc hev⟩⟩ rfl rfl hl.1 rfl (lv_room (Nat.le_of_ble_eq_true rfl)) dX8_read_2 ⟨(Nat.le_of_ble_eq_true rfl), (Nat.le_of_ble_eq_true rfl)⟩) (fun r_24 hw => ?_)
    subst hw
    refine pp_tv (y := .ref p1) rfl ?_
    refine lv_astore_n (lv' := [(2, .ref p1), (0, .ref h0), (1, .int 1)]) hx hb dX8_read_5 rfl hl (by decide) rfl (fun ls hl => ?_)
    refine lv_aload_n hx hb dX8_read_6 rfl (lv_at hl 0 rfl) ?_
    refine lv_ifnonnull (tgt := 17) hx hb dX8_read_7 (by decide) ?_
    refine lv_aload_n hx hb dX8_read_17 rfl (lv_at hl 0 rfl) ?_
    have hPc := hP.sub (ws' := [(p1, .inr (0, [.int b1, .int z1, .ref n1]))]) [5] rfl
    have hKc := hK.sub (tys' := []) [] rfl
    refine vp_callSi (W.runV (As := []) (rest := []) ⟨hx, hb, hml, hown, hts⟩ (p_isMissing l dC dI ad p1 b1 (.int z1) (.ref n1) ) (cwV 0 hts g_x_read_p_isMissing_268 rfl rfl rfl (by decide +kernel) ⟨(Nat.le_of_ble_eq_true rfl), (Nat.le_of_ble_eq_true rfl)⟩) ⟨preS_blind, va_recv hKc hPc (ci := 0) (q0 := 0) rfl rfl, fun U hU hW => ⟨rfl, preS_at hU hW hPc hKc hev⟩⟩ rfl rfl hl.1 rfl (lv_room (Nat.le_of_ble_eq_true rfl)) dX8_read_18 ⟨(Nat.le_of_ble_eq_true rfl), (Nat.le_of_ble_eq_true rfl)⟩) (fun r_25 hw => ?_)
    have hr_25 : (r_25.toInt = 1 ∧ b1.toInt = 0) ∨ (r_25.toInt = 0 ∧ ¬ b1.toInt = 0) := hw
    refine lv_if_eq (tgt := 32) hx hb dX8_read_21 (by decide) (fun c_26 => ?_) (fun c_26 => ?_)
    · skip
      have tc_26 : r_25.toInt = 0 := (fa_eq _ _).mp c_26
      refine lv_aload_n hx hb dX8_read_32 rfl (lv_at hl 1 rfl) ?_
      refine va_get (D := (dC, dI)) (ci := 6) (v := .ref ah) (C := RX8) (T := TX8) (N := 8) hx hb hts inX8 hown hK hP 0 rfl rfl 0 (by decide) (hts _ (List.mem_of_getElem? (i := 19) rfl)) (fun _ h9 => h9) rfl dX8_read_33 ?_
      have hPc := hP.sub (ws' := [(ah, .inr (4, [.int sh, .ref q1, .ref q2, .int tn, .ref q3, .ref q4, w6, w7, w8])), (q1, .inl (c1, 9, .inl f1)), (q2, .inl (c2, 9, .inl f2)), (q3, .inl (c3, 4, .inl f3)), (q4, .inl (c4, 4, .inl f4))]) [11, 12, 13, 14, 15] rfl
      have hKc := hK.sub (tys' := [(c1, .int), (c2, .int), (c3, .int), (c4, .int)]) [6, 7, 8, 9] rfl
      refine vp_callSl (W.runV (As := []) (rest := []) ⟨hx, hb, hml, hown, hts⟩ (s_darkCells l dC dI ad ah sh q1 q2 tn q3 q4 w6 w7 w8 c1 f1 c2 f2 c3 f3 c4 f4 hsh) (cwV 0 hts g_x_read_s_darkCells_134 rfl rfl rfl (by decide +kernel) ⟨(Nat.le_of_ble_eq_true rfl), (Nat.le_of_ble_eq_true rfl)⟩) ⟨preS_blind, va_recv hKc hPc (ci := 4) (q0 := 0) rfl rfl, fun U hU hW => ⟨rfl, preS_at hU hW hPc hKc hev⟩⟩ rfl rfl hl.1 rfl (lv_room (Nat.le_of_ble_eq_true rfl)) dX8_read_36 ⟨(Nat.le_of_ble_eq_true rfl), (Nat.le_of_ble_eq_true rfl)⟩) (fun r_27 hw => ?_)
      refine lv_lstore_n (lv' := [(3, .long r_27), (2, .ref p1), (0, .ref h0), (1, .int 1)]) hx hb dX8_read_39 rfl hl (by decide) rfl (fun ls hl => ?_)
      refine lv_aload_n hx hb dX8_read_40 rfl (lv_at hl 1 rfl) ?_
      refine va_getN (D := (dC, dI)) (ci := 0) (v := .int z1) (C := RX2) (T := TX2) (N := 3) hx hb hts inX2 hown hK hP 5 rfl rfl 1 (by decide) (ev_nest hev 22 rfl) (fun _ h9 => h9) rfl dX8_read_41 ?_
      refine lv_bipush (v := 8) hx hb dX8_read_44 (by decide) ?_
      refine va_mmin hx hb (by rw [hml]; exact hl.1.symm) hown (hts _ (List.mem_of_getElem? (i := 82) rfl)) (hts _ (List.mem_of_getElem? (i := 83) rfl)) (hts _ (List.mem_of_getElem? (i := 84) rfl)) (hts _ (List.mem_of_getElem? (i := 85) rfl)) (Nat.le_of_ble_eq_true rfl) (Nat.le_of_ble_eq_true rfl) (Nat.le_of_ble_eq_true rfl) (Nat.le_of_ble_eq_true rfl) dX8_read_46 ?_
      refine lv_topi (fun n_28 en_28 => ?_)
      have tn_28 : n_28.toInt ≤ z1.toInt ∧ n_28.toInt ≤ 8 ∧ (n_28.toInt = z1.toInt ∨ n_28.toInt = 8) := pp_min en_28
      refine lv_istore (lv' := [(5, .int n_28), (3, .long r_27), (2, .ref p1), (0, .ref h0), (1, .int 1)]) hx hb dX8_read_49 hl (by decide) rfl (fun ls hl => ?_)
      refine lv_iconst (v := 0) hx hb dX8_read_51 (by decide) ?_
      refine lv_istore (lv' := [(6, .int 0), (5, .int n_28), (3, .long r_27), (2, .ref p1), (0, .ref h0), (1, .int 1)]) hx hb dX8_read_52 hl (by decide) rfl (fun ls hl => ?_)
      refine pp_loop (ι := Int32) (fun v6_54 => (n_28.toInt - v6_54.toInt).toNat) (fun v6_54 H locs ls => (0 ≤ v6_54.toInt) ∧ va_P (dC, dI) vwCl [(h0, .inr (6, [.ref ah, v1, v2, v3, v4, .ref ph, .ref t0, v7])), (t0, .inl (tc, 7, .inl tf)), (ph, .inl (pc, 4, .inr (.inr (.inr (.inr pf))))), (p0, .inr (0, [.int b0, .int z0, .ref n0])), (n0, .inl (nc0, 40, .inr (.inl g0))), (p1, .inr (0, [.int b1, .int z1, .ref n1])), (n1, .inl (nc1, 40, .inr (.inl g1))), (p2, .inr (0, [.int b2, .int z2, .ref n2])), (n2, .inl (nc2, 40, .inr (.inl g2))), (p3, .inr (0, [.int b3, .int z3, .ref n3])), (n3, .inl (nc3, 40, .inr (.inl g3))), (ah, .inr (4, [.int sh, .ref q1, .ref q2, .int tn, .ref q3, .ref q4, w6, w7, w8])), (q1, .inl (c1, 9, .inl f1)), (q2, .inl (c2, 9, .inl f2)), (q3, .inl (c3, 4, .inl f3)), (q4, .inl (c4, 4, .inl f4))] H ∧ va_D A [(h0, .inr (6, [.ref ah, v1, v2, v3, v4, .ref ph, .ref t0, v7])), (t0, .inl (tc, 7, .inl tf)), (ph, .inl (pc, 4, .inr (.inr (.inr (.inr pf))))), (p0, .inr (0, [.int b0, .int z0, .ref n0])), (n0, .inl (nc0, 40, .inr (.inl g0))), (p1, .inr (0, [.int b1, .int z1, .ref n1])), (n1, .inl (nc1, 40, .inr (.inl g1))), (p2, .inr (0, [.int b2, .int z2, .ref n2])), (n2, .inl (nc2, 40, .inr (.inl g2))), (p3, .inr (0, [.int b3, .int z3, .ref n3])), (n3, .inl (nc3, 40, .inr (.inl g3))), (ah, .inr (4, [.int sh, .ref q1, .ref q2, .int tn, .ref q3, .ref q4, w6, w7, w8])), (q1, .inl (c1, 9, .inl f1)), (q2, .inl (c2, 9, .inl f2)), (q3, .inl (c3, 4, .inl f3)), (q4, .inl (c4, 4, .inl f4))] ∧ va_S A s.heap H locs ∧ lv_has ls 7 [(6, .int v6_54), (5, .int n_28), (3, .long r_27), (2, .ref p1), (0, .ref h0), (1, .int 1)]) ?_ 0 _ _ _ ⟨(by first | omega | decide | (simp only [fa_lt, fa_le, fa_eq, and_true, true_and, and_false, false_and, not_true_eq_false, not_false_eq_true, li_0, li_1, li_2, li_3, li_4, li_5, li_6, li_7, li_8, li_9, li_10, li_12, li_15, li_16, li_20, li_30, li_34, li_38, li_40, li_63, li_64, li_65, li_78, li_120, li_1000, li_4000, li_10000, li_11077, li_255, li_65535, li_m1, li_m2, li_m1000000001, li_m1000000002, li_m1000000003, li_m1000000004, li_m1000000005, li_m1000000006, li_m1000000007, or_true, true_or, or_false, false_or, implies_true, true_implies, false_implies] <;> omega)), hP.sub [0, 1, 2, 3, 4, 5, 6, 7, 8, 9, 10, 11, 12, 13, 14, 15] rfl, hD.sub [0, 1, 2, 3, 4, 5, 6, 7, 8, 9, 10, 11, 12, 13, 14, 15] (by decide) rfl, hS, lv_sub hl [0, 1, 2, 3, 4, 5] rfl⟩
      intro k_29 ihk_29 u H locs ls hm hI
      obtain ⟨v6_54, rfl⟩ : ∃ z, z = u := ⟨_, rfl⟩
      obtain ⟨jk_29_0, hP, hD, hS, hl⟩ := hI
      have hmk_29 : (n_28.toInt - v6_54.toInt).toNat < k_29 + 1 := hm
      clear hm
      have jk_29_0 : 0 ≤ v6_54.toInt := jk_29_0
      have hl : lv_has ls 7 [(6, .int v6_54), (5, .int n_28), (3, .long r_27), (2, .ref p1), (0, .ref h0), (1, .int 1)] := hl
      have hP : va_P (dC, dI) vwCl [(h0, .inr (6, [.ref ah, v1, v2, v3, v4, .ref ph, .ref t0, v7])), (t0, .inl (tc, 7, .inl tf)), (ph, .inl (pc, 4, .inr (.inr (.inr (.inr pf))))), (p0, .inr (0, [.int b0, .int z0, .ref n0])), (n0, .inl (nc0, 40, .inr (.inl g0))), (p1, .inr (0, [.int b1, .int z1, .ref n1])), (n1, .inl (nc1, 40, .inr (.inl g1))), (p2, .inr (0, [.int b2, .int z2, .ref n2])), (n2, .inl (nc2, 40, .inr (.inl g2))), (p3, .inr (0, [.int b3, .int z3, .ref n3])), (n3, .inl (nc3, 40, .inr (.inl g3))), (ah, .inr (4, [.int sh, .ref q1, .ref q2, .int tn, .ref q3, .ref q4, w6, w7, w8])), (q1, .inl (c1, 9, .inl f1)), (q2, .inl (c2, 9, .inl f2)), (q3, .inl (c3, 4, .inl f3)), (q4, .inl (c4, 4, .inl f4))] H := hP
      have hD : va_D A [(h0, .inr (6, [.ref ah, v1, v2, v3, v4, .ref ph, .ref t0, v7])), (t0, .inl (tc, 7, .inl tf)), (ph, .inl (pc, 4, .inr (.inr (.inr (.inr pf))))), (p0, .inr (0, [.int b0, .int z0, .ref n0])), (n0, .inl (nc0, 40, .inr (.inl g0))), (p1, .inr (0, [.int b1, .int z1, .ref n1])), (n1, .inl (nc1, 40, .inr (.inl g1))), (p2, .inr (0, [.int b2, .int z2, .ref n2])), (n2, .inl (nc2, 40, .inr (.inl g2))), (p3, .inr (0, [.int b3, .int z3, .ref n3])), (n3, .inl (nc3, 40, .inr (.inl g3))), (ah, .inr (4, [.int sh, .ref q1, .ref q2, .int tn, .ref q3, .ref q4, w6, w7, w8])), (q1, .inl (c1, 9, .inl f1)), (q2, .inl (c2, 9, .inl f2)), (q3, .inl (c3, 4, .inl f3)), (q4, .inl (c4, 4, .inl f4))] := hD
      refine lv_iload hx hb dX8_read_54 (lv_at hl 0 rfl) ?_
      refine lv_iload hx hb dX8_read_56 (lv_at hl 1 rfl) ?_
      have rc_30_x := pp_rng v6_54
      have rc_30_y := pp_rng n_28
      refine lv_icmp_ge (tgt := 94) hx hb dX8_read_58 (by decide) (fun c_30 => ?_) (fun c_30 => ?_)
      · skip
        have tc_30 : n_28.toInt ≤ v6_54.toInt := (fa_le _ _).mp c_30
        refine lv_iconst (v := 0) hx hb dX8_read_94 (by decide) ?_
        have hP9 := hP.sub (ws' := [(h0, .inr (6, [.ref ah, v1, v2, v3, v4, .ref ph, .ref t0, v7])), (t0, .inl (tc, 7, .inl tf)), (ph, .inl (pc, 4, .inr (.inr (.inr (.inr pf))))), (p0, .inr (0, [.int b0, .int z0, .ref n0])), (n0, .inl (nc0, 40, .inr (.inl g0))), (p1, .inr (0, [.int b1, .int z1, .ref n1])), (n1, .inl (nc1, 40, .inr (.inl g1))), (p2, .inr (0, [.int b2, .int z2, .ref n2])), (n2, .inl (nc2, 40, .inr (.inl g2))), (p3, .inr (0, [.int b3, .int z3, .ref n3])), (n3, .inl (nc3, 40, .inr (.inl g3))), (ah, .inr (4, [.int sh, .ref q1, .ref q2, .int tn, .ref q3, .ref q4, w6, w7, w8])), (q1, .inl (c1, 9, .inl f1)), (q2, .inl (c2, 9, .inl f2)), (q3, .inl (c3, 4, .inl f3)), (q4, .inl (c4, 4, .inl f4))]) [0, 1, 2, 3, 4, 5, 6, 7, 8, 9, 10, 11, 12, 13, 14, 15] rfl
        have hD9 := hD.sub (ws' := [(h0, .inr (6, [.ref ah, v1, v2, v3, v4, .ref ph, .ref t0, v7])), (t0, .inl (tc, 7, .inl tf)), (ph, .inl (pc, 4, .inr (.inr (.inr (.inr pf))))), (p0, .inr (0, [.int b0, .int z0, .ref n0])), (n0, .inl (nc0, 40, .inr (.inl g0))), (p1, .inr (0, [.int b1, .int z1, .ref n1])), (n1, .inl (nc1, 40, .inr (.inl g1))), (p2, .inr (0, [.int b2, .int z2, .ref n2])), (n2, .inl (nc2, 40, .inr (.inl g2))), (p3, .inr (0, [.int b3, .int z3, .ref n3])), (n3, .inl (nc3, 40, .inr (.inl g3))), (ah, .inr (4, [.int sh, .ref q1, .ref q2, .int tn, .ref q3, .ref q4, w6, w7, w8])), (q1, .inl (c1, 9, .inl f1)), (q2, .inl (c2, 9, .inl f2)), (q3, .inl (c3, 4, .inl f3)), (q4, .inl (c4, 4, .inl f4))]) [0, 1, 2, 3, 4, 5, 6, 7, 8, 9, 10, 11, 12, 13, 14, 15] (by decide) rfl
        have hK9 := hK.sub (tys' := [(tc, .int), (pc, .object "LampShapes$Paper"), (nc0, .long), (nc1, .long), (nc2, .long), (nc3, .long), (c1, .int), (c2, .int), (c3, .int), (c4, .int)]) [0, 1, 2, 3, 4, 5, 6, 7, 8, 9] rfl
        exact W.iret (v := (0 : Int32)) hx hb hr (fun t ht hW => ⟨⟨(0 : Int32), (), rfl, trivial, tf, by rw [ht]; exact hP9, va_K.moved hW.alike hK9, hD9⟩, hS.F ht⟩) hS.2.2 dX8_read_95
      · skip
        have tc_30 : ¬ n_28.toInt ≤ v6_54.toInt := fun h => c_30 ((fa_le _ _).mpr h)
        refine lv_aload_n hx hb dX8_read_61 rfl (lv_at hl 3 rfl) ?_
        refine va_getN (D := (dC, dI)) (ci := 0) (v := .ref n1) (C := RX2) (T := TX2) (N := 3) hx hb hts inX2 hown hK hP 5 rfl rfl 2 (by decide) (ev_nest hev 23 rfl) (fun _ h9 => h9) rfl dX8_read_62 ?_
        refine lv_iload hx hb dX8_read_65 (lv_at hl 0 rfl) ?_
        refine va_lald hx hb hK hP 6 3 rfl rfl (vp_in_iff.mpr ⟨by omega, by omega⟩) dX8_read_67 ?_
        refine lv_topl (fun n_31 en_31 => ?_)
        clear en_31
        refine lv_ldc2 hx hb hown (hts _ (List.mem_of_getElem? (i := 86) rfl)) dX8_read_68 ?_
        refine lv_land hx hb dX8_read_71 ?_
        refine lv_topl (fun n_32 en_32 => ?_)
        clear en_32
        refine lv_lload_n hx hb dX8_read_72 rfl (lv_at hl 2 rfl) ?_
        refine lv_iload hx hb dX8_read_73 (lv_at hl 0 rfl) ?_
        have hPc := hP.sub (ws' := []) [] rfl
        have hKc := hK.sub (tys' := []) [] rfl
        refine vp_callSi (W.runS (As := [.long r_27, .int v6_54]) (rest := [.long n_32]) ⟨hx, hb, hml, hown, hts⟩ (l_rowOf l dC dI ad r_27 v6_54 ) (va_cwS 2 hts g_x_read_l_rowOf_291 rfl rfl rfl (by decide +kernel) ⟨(Nat.le_of_ble_eq_true rfl), (Nat.le_of_ble_eq_true rfl)⟩) ⟨preS_blind, fun U hU hW => ⟨rfl, preS_at hU hW hPc hKc hev⟩⟩ rfl rfl hl.1 rfl (lv_room (Nat.le_of_ble_eq_true rfl)) dX8_read_75 ⟨(Nat.le_of_ble_eq_true rfl), (Nat.le_of_ble_eq_true rfl)⟩) (fun r_33 hw => ?_)
        obtain ⟨n_34, en_34⟩ : ∃ z : Int64, z = r_33.toInt64 := ⟨_, rfl⟩
        refine lv_i2l (v := n_34) hx hb dX8_read_78 en_34.symm ?_
        clear en_34
        refine W.lcmp hx hb dX8_read_79 ?_
        refine lv_topi (fun n_35 en_35 => ?_)
        refine lv_if_eq (tgt := 88) hx hb dX8_read_80 (by decide) (fun c_36 => ?_) (fun c_36 => ?_)
        · skip
          have tc_36 : n_35.toInt = 0 := (fa_eq _ _).mp c_36
          obtain ⟨n_37, en_37⟩ : ∃ y : Int32, y = v6_54 + 1 := ⟨_, rfl⟩
          have tn_37 : n_37.toInt = v6_54.toInt + 1 := pp_add en_37 rfl rfl (by omega) (by omega)
          refine lv_iinc (v := n_37) (lv' := [(6, .int n_37), (5, .int n_28), (3, .long r_27), (2, .ref p1), (0, .ref h0), (1, .int 1)]) hx hb dX8_read_88 hl (k := 0) rfl (by rw [en_37]; rfl) (by decide) rfl (fun ls hl => ?_)
          clear en_37
          refine lv_goto (tgt := 54) hx hb dX8_read_91 (by decide) ?_
          exact ihk_29 n_37 _ _ _ (by show (n_28.toInt - n_37.toInt).toNat < k_29; omega) ⟨(by first | omega | decide | (simp only [fa_lt, fa_le, fa_eq, and_true, true_and, and_false, false_and, not_true_eq_false, not_false_eq_true, li_0, li_1, li_2, li_3, li_4, li_5, li_6, li_7, li_8, li_9, li_10, li_12, li_15, li_16, li_20, li_30, li_34, li_38, li_40, li_63, li_64, li_65, li_78, li_120, li_1000, li_4000, li_10000, li_11077, li_255, li_65535, li_m1, li_m2, li_m1000000001, li_m1000000002, li_m1000000003, li_m1000000004, li_m1000000005, li_m1000000006, li_m1000000007, or_true, true_or, or_false, false_or, implies_true, true_implies, false_implies] <;> omega)), hP.sub [0, 1, 2, 3, 4, 5, 6, 7, 8, 9, 10, 11, 12, 13, 14, 15] rfl, hD.sub [0, 1, 2, 3, 4, 5, 6, 7, 8, 9, 10, 11, 12, 13, 14, 15] (by decide) rfl, hS, lv_sub hl [0, 1, 2, 3, 4, 5] rfl⟩
        · skip
          have tc_36 : ¬ n_35.toInt = 0 := fun h => c_36 ((fa_eq _ _).mpr h)
          have zc_36 : ¬ n_32 = n_34 := pp_lc_ne en_35 c_36
          refine lv_iconst (v := 1) hx hb dX8_read_83 (by decide) ?_
          refine lv_iload hx hb dX8_read_84 (lv_at hl 0 rfl) ?_
          refine lv_iadd hx hb dX8_read_86 ?_
          refine lv_topi (fun n_38 en_38 => ?_)
          have tn_38 : n_38.toInt = 1 + v6_54.toInt := pp_add en_38 rfl rfl (by omega) (by omega)
          clear en_38
          have hP9 := hP.sub (ws' := [(h0, .inr (6, [.ref ah, v1, v2, v3, v4, .ref ph, .ref t0, v7])), (t0, .inl (tc, 7, .inl tf)), (ph, .inl (pc, 4, .inr (.inr (.inr (.inr pf))))), (p0, .inr (0, [.int b0, .int z0, .ref n0])), (n0, .inl (nc0, 40, .inr (.inl g0))), (p1, .inr (0, [.int b1, .int z1, .ref n1])), (n1, .inl (nc1, 40, .inr (.inl g1))), (p2, .inr (0, [.int b2, .int z2, .ref n2])), (n2, .inl (nc2, 40, .inr (.inl g2))), (p3, .inr (0, [.int b3, .int z3, .ref n3])), (n3, .inl (nc3, 40, .inr (.inl g3))), (ah, .inr (4, [.int sh, .ref q1, .ref q2, .int tn, .ref q3, .ref q4, w6, w7, w8])), (q1, .inl (c1, 9, .inl f1)), (q2, .inl (c2, 9, .inl f2)), (q3, .inl (c3, 4, .inl f3)), (q4, .inl (c4, 4, .inl f4))]) [0, 1, 2, 3, 4, 5, 6, 7, 8, 9, 10, 11, 12, 13, 14, 15] rfl
          have hD9 := hD.sub (ws' := [(h0, .inr (6, [.ref ah, v1, v2, v3, v4, .ref ph, .ref t0, v7])), (t0, .inl (tc, 7, .inl tf)), (ph, .inl (pc, 4, .inr (.inr (.inr (.inr pf))))), (p0, .inr (0, [.int b0, .int z0, .ref n0])), (n0, .inl (nc0, 40, .inr (.inl g0))), (p1, .inr (0, [.int b1, .int z1, .ref n1])), (n1, .inl (nc1, 40, .inr (.inl g1))), (p2, .inr (0, [.int b2, .int z2, .ref n2])), (n2, .inl (nc2, 40, .inr (.inl g2))), (p3, .inr (0, [.int b3, .int z3, .ref n3])), (n3, .inl (nc3, 40, .inr (.inl g3))), (ah, .inr (4, [.int sh, .ref q1, .ref q2, .int tn, .ref q3, .ref q4, w6, w7, w8])), (q1, .inl (c1, 9, .inl f1)), (q2, .inl (c2, 9, .inl f2)), (q3, .inl (c3, 4, .inl f3)), (q4, .inl (c4, 4, .inl f4))]) [0, 1, 2, 3, 4, 5, 6, 7, 8, 9, 10, 11, 12, 13, 14, 15] (by decide) rfl
          have hK9 := hK.sub (tys' := [(tc, .int), (pc, .object "LampShapes$Paper"), (nc0, .long), (nc1, .long), (nc2, .long), (nc3, .long), (c1, .int), (c2, .int), (c3, .int), (c4, .int)]) [0, 1, 2, 3, 4, 5, 6, 7, 8, 9] rfl
          exact W.iret (v := n_38) hx hb hr (fun t ht hW => ⟨⟨n_38, (), rfl, trivial, tf, by rw [ht]; exact hP9, va_K.moved hW.alike hK9, hD9⟩, hS.F ht⟩) hS.2.2 dX8_read_87
    · skip
      have tc_26 : ¬ r_25.toInt = 0 := fun h => c_26 ((fa_eq _ _).mpr h)
      refine lv_aload_n hx hb dX8_read_24 rfl (lv_at hl 1 rfl) ?_
      refine lv_ldcw hx hb hown (hts _ (List.mem_of_getElem? (i := 91) rfl)) dX8_read_25 ?_
      have hPc := hP.sub (ws' := [(h0, .inr (6, [.ref ah, v1, v2, v3, v4, .ref ph, .ref t0, v7])), (t0, .inl (tc, 7, .inl tf))]) [0, 1] rfl
      have hKc := hK.sub (tys' := [(tc, .int)]) [0] rfl
      have hDc := hD.sub (ws' := [(h0, .inr (6, [.ref ah, v1, v2, v3, v4, .ref ph, .ref t0, v7])), (t0, .inl (tc, 7, .inl tf))]) [0, 1] (by decide) rfl
      have hFc := va_free (wc := [(h0, .inr (6, [.ref ah, v1, v2, v3, v4, .ref ph, .ref t0, v7])), (t0, .inl (tc, 7, .inl tf))]) hD hS hA [0, 1] rfl
      refine va_calli (va_runV (As := [.int (-1000000006)]) (rest := []) ⟨hx, hb, hml, hown, hts⟩ (f_missing l dC dI ad h0 (.ref ah) v1 v2 v3 v4 (.ref ph) t0 v7 tc tf s.heap.size ) (cwV 1 hts g_x_read_f_missing_63 rfl rfl rfl (by decide +kernel) ⟨(Nat.le_of_ble_eq_true rfl), (Nat.le_of_ble_eq_true rfl)⟩) ⟨preM_blind, va_recv hKc hPc (ci := 6) (q0 := 0) rfl rfl, fun U hU hW => ⟨rfl, preM_at hU hW hPc hKc hDc hev⟩⟩ rfl rfl hl.1 rfl (lv_room (Nat.le_of_ble_eq_true rfl)) dX8_read_28 ⟨(Nat.le_of_ble_eq_true rfl), (Nat.le_of_ble_eq_true rfl)⟩) hS (fun q _ h => hFc q h) hFc (fun r_39 u t H1 locs ht hvm hw hB hz1 hk1 hS => ?_)
      obtain ⟨tg_40, hP1, hK1, hD1⟩ := hB
      rw [ht] at hP1
      have hK1 := va_K.moved hvm.symm hK1
      obtain ⟨hP, hD⟩ := va_join (wr := [(ph, .inl (pc, 4, .inr (.inr (.inr (.inr pf))))), (p0, .inr (0, [.int b0, .int z0, .ref n0])), (n0, .inl (nc0, 40, .inr (.inl g0))), (p1, .inr (0, [.int b1, .int z1, .ref n1])), (n1, .inl (nc1, 40, .inr (.inl g1))), (p2, .inr (0, [.int b2, .int z2, .ref n2])), (n2, .inl (nc2, 40, .inr (.inl g2))), (p3, .inr (0, [.int b3, .int z3, .ref n3])), (n3, .inl (nc3, 40, .inr (.inl g3))), (ah, .inr (4, [.int sh, .ref q1, .ref q2, .int tn, .ref q3, .ref q4, w6, w7, w8])), (q1, .inl (c1, 9, .inl f1)), (q2, .inl (c2, 9, .inl f2)), (q3, .inl (c3, 4, .inl f3)), (q4, .inl (c4, 4, .inl f4))]) (w1 := [(h0, .inr (6, [.ref ah, v1, v2, v3, v4, .ref ph, .ref t0, v7])), (t0, .inl (tc, 7, .inl tg_40))]) hP hD [0, 1] [2, 3, 4, 5, 6, 7, 8, 9, 10, 11, 12, 13, 14, 15] rfl rfl (by decide) (by decide) hk1 hFc hP1 hD1
      generalize H1 = H at hP hS ⊢
      have hP : va_P (dC, dI) vwCl [(ph, .inl (pc, 4, .inr (.inr (.inr (.inr pf))))), (p0, .inr (0, [.int b0, .int z0, .ref n0])), (n0, .inl (nc0, 40, .inr (.inl g0))), (p1, .inr (0, [.int b1, .int z1, .ref n1])), (n1, .inl (nc1, 40, .inr (.inl g1))), (p2, .inr (0, [.int b2, .int z2, .ref n2])), (n2, .inl (nc2, 40, .inr (.inl g2))), (p3, .inr (0, [.int b3, .int z3, .ref n3])), (n3, .inl (nc3, 40, .inr (.inl g3))), (ah, .inr (4, [.int sh, .ref q1, .ref q2, .int tn, .ref q3, .ref q4, w6, w7, w8])), (q1, .inl (c1, 9, .inl f1)), (q2, .inl (c2, 9, .inl f2)), (q3, .inl (c3, 4, .inl f3)), (q4, .inl (c4, 4, .inl f4)), (h0, .inr (6, [.ref ah, v1, v2, v3, v4, .ref ph, .ref t0, v7])), (t0, .inl (tc, 7, .inl tg_40))] H := hP
      have hD : va_D A [(ph, .inl (pc, 4, .inr (.inr (.inr (.inr pf))))), (p0, .inr (0, [.int b0, .int z0, .ref n0])), (n0, .inl (nc0, 40, .inr (.inl g0))), (p1, .inr (0, [.int b1, .int z1, .ref n1])), (n1, .inl (nc1, 40, .inr (.inl g1))), (p2, .inr (0, [.int b2, .int z2, .ref n2])), (n2, .inl (nc2, 40, .inr (.inl g2))), (p3, .inr (0, [.int b3, .int z3, .ref n3])), (n3, .inl (nc3, 40, .inr (.inl g3))), (ah, .inr (4, [.int sh, .ref q1, .ref q2, .int tn, .ref q3, .ref q4, w6, w7, w8])), (q1, .inl (c1, 9, .inl f1)), (q2, .inl (c2, 9, .inl f2)), (q3, .inl (c3, 4, .inl f3)), (q4, .inl (c4, 4, .inl f4)), (h0, .inr (6, [.ref ah, v1, v2, v3, v4, .ref ph, .ref t0, v7])), (t0, .inl (tc, 7, .inl tg_40))] := hD
      subst hw
      have hP9 := hP.sub (ws' := [(h0, .inr (6, [.ref ah, v1, v2, v3, v4, .ref ph, .ref t0, v7])), (t0, .inl (tc, 7, .inl tg_40)), (ph, .inl (pc, 4, .inr (.inr (.inr (.inr pf))))), (p0, .inr (0, [.int b0, .int z0, .ref n0])), (n0, .inl (nc0, 40, .inr (.inl g0))), (p1, .inr (0, [.int b1, .int z1, .ref n1])), (n1, .inl (nc1, 40, .inr (.inl g1))), (p2, .inr (0, [.int b2, .int z2, .ref n2])), (n2, .inl (nc2, 40, .inr (.inl g2))), (p3, .inr (0, [.int b3, .int z3, .ref n3])), (n3, .inl (nc3, 40, .inr (.inl g3))), (ah, .inr (4, [.int sh, .ref q1, .ref q2, .int tn, .ref q3, .ref q4, w6, w7, w8])), (q1, .inl (c1, 9, .inl f1)), (q2, .inl (c2, 9, .inl f2)), (q3, .inl (c3, 4, .inl f3)), (q4, .inl (c4, 4, .inl f4))]) [14, 15, 0, 1, 2, 3, 4, 5, 6, 7, 8, 9, 10, 11, 12, 13] rfl
      have hD9 := hD.sub (ws' := [(h0, .inr (6, [.ref ah, v1, v2, v3, v4, .ref ph, .ref t0, v7])), (t0, .inl (tc, 7, .inl tg_40)), (ph, .inl (pc, 4, .inr (.inr (.inr (.inr pf))))), (p0, .inr (0, [.int b0, .int z0, .ref n0])), (n0, .inl (nc0, 40, .inr (.inl g0))), (p1, .inr (0, [.int b1, .int z1, .ref n1])), (n1, .inl (nc1, 40, .inr (.inl g1))), (p2, .inr (0, [.int b2, .int z2, .ref n2])), (n2, .inl (nc2, 40, .inr (.inl g2))), (p3, .inr (0, [.int b3, .int z3, .ref n3])), (n3, .inl (nc3, 40, .inr (.inl g3))), (ah, .inr (4, [.int sh, .ref q1, .ref q2, .int tn, .ref q3, .ref q4, w6, w7, w8])), (q1, .inl (c1, 9, .inl f1)), (q2, .inl (c2, 9, .inl f2)), (q3, .inl (c3, 4, .inl f3)), (q4, .inl (c4, 4, .inl f4))]) [14, 15, 0, 1, 2, 3, 4, 5, 6, 7, 8, 9, 10, 11, 12, 13] (by decide) rfl
      have hK9 := hK.sub (tys' := [(tc, .int), (pc, .object "LampShapes$Paper"), (nc0, .long), (nc1, .long), (nc2, .long), (nc3, .long), (c1, .int), (c2, .int), (c3, .int), (c4, .int)]) [0, 1, 2, 3, 4, 5, 6, 7, 8, 9] rfl
      exact W.iret (v := ((-1000000006) : Int32)) hx hb hr (fun t ht hW => ⟨⟨((-1000000006) : Int32), (), rfl, trivial, tg_40, by rw [ht]; exact hP9, va_K.moved hW.alike hK9, hD9⟩, hS.F ht⟩) hS.2.2 dX8_read_31
  · skip
    refine Met.ofW (cc := cX8_read) (maxL := 7) (ret := (some .int)) (by decide) rfl ?_
    intro p e s m args below meth c s₁ B hml hv
    obtain ⟨rfl, hsz, hP, hK, hD0, hev⟩ := hv
    have hx := B.exec
    have hb := B.bytes
    have hr := B.returns
    have hts := atoms_spec (ws := w_x_read) B.pre
    have hown : s.vm.findClass RX8 = some m.cls := findClass_of_methodNamed B.named
    have hlocks := B.notSynchronized
    have inX8 : ∀ w ∈ wsX80, w ∈ w_x_read := fun w h => List.mem_cons_of_mem _ (List.mem_append_left _ (List.mem_append_left _ (List.mem_append_right _ h)))
    have inX2 : ∀ w ∈ wsX20, w ∈ w_x_read := fun w h => List.mem_cons_of_mem _ (List.mem_append_left _ (List.mem_append_right _ h))
    have inX6 : ∀ w ∈ wsX60, w ∈ w_x_read := fun w h => List.mem_cons_of_mem _ (List.mem_append_right _ h)
    subst hsz
    have hD := hD0.self (sz := s.heap.size)
    generalize hAe : va_A [(h0, .inr (6, [.ref ah, v1, v2, v3, v4, .ref ph, .ref t0, v7])), (t0, .inl (tc, 7, .inl tf)), (ph, .inl (pc, 4, .inr (.inr (.inr (.inr pf))))), (p0, .inr (0, [.int b0, .int z0, .ref n0])), (n0, .inl (nc0, 40, .inr (.inl g0))), (p1, .inr (0, [.int b1, .int z1, .ref n1])), (n1, .inl (nc1, 40, .inr (.inl g1))), (p2, .inr (0, [.int b2, .int z2, .ref n2])), (n2, .inl (nc2, 40, .inr (.inl g2))), (p3, .inr (0, [.int b3, .int z3, .ref n3])), (n3, .inl (nc3, 40, .inr (.inl g3))), (ah, .inr (4, [.int sh, .ref q1, .ref q2, .int tn, .ref q3, .ref q4, w6, w7, w8])), (q1, .inl (c1, 9, .inl f1)), (q2, .inl (c2, 9, .inl f2)), (q3, .inl (c3, 4, .inl f3)), (q4, .inl (c4, 4, .inl f4))] s.heap.size = A at hD ⊢
    have hA : ∀ q : Nat, s.heap.size ≤ q → A q := fun q h => by rw [← hAe]; exact Or.inr h
    have hS : va_S A s.heap s.heap [] := va_S.rf
    have hP : va_P (dC, dI) vwCl [(h0, .inr (6, [.ref ah, v1, v2, v3, v4, .ref ph, .ref t0, v7])), (t0, .inl (tc, 7, .inl tf)), (ph, .inl (pc, 4, .inr (.inr (.inr (.inr pf))))), (p0, .inr (0, [.int b0, .int z0, .ref n0])), (n0, .inl (nc0, 40, .inr (.inl g0))), (p1, .inr (0, [.int b1, .int z1, .ref n1])), (n1, .inl (nc1, 40, .inr (.inl g1))), (p2, .inr (0, [.int b2, .int z2, .ref n2])), (n2, .inl (nc2, 40, .inr (.inl g2))), (p3, .inr (0, [.int b3, .int z3, .ref n3])), (n3, .inl (nc3, 40, .inr (.inl g3))), (ah, .inr (4, [.int sh, .ref q1, .ref q2, .int tn, .ref q3, .ref q4, w6, w7, w8])), (q1, .inl (c1, 9, .inl f1)), (q2, .inl (c2, 9, .inl f2)), (q3, .inl (c3, 4, .inl f3)), (q4, .inl (c4, 4, .inl f4))] s.heap := hP
    have hl := lv_entry ([.ref h0, .int 2]) (n := 7) (Nat.le_of_ble_eq_true rfl)
    rw [lg_entry_eq]
    generalize (lg_sl ([.ref h0, .int 2]) ++ List.replicate (7 - (lg_sl ([.ref h0, .int 2])).length) Slot.unset).toArray = ls at hl ⊢
    have hl : lv_has ls 7 [(0, .ref h0), (1, .int 2)] := hl
    refine lv_aload_n hx hb dX8_read_0 rfl (lv_at hl 0 rfl) ?_
    refine lv_iload_n hx hb dX8_read_1 rfl (lv_at hl 1 rfl) ?_
    have hPc := hP.sub (ws' := [(h0, .inr (6, [.ref ah, v1, v2, v3, v4, .ref ph, .ref t0, v7])), (ph, .inl (pc, 4, .inr (.inr (.inr (.inr pf)))))]) [0, 2] rfl
    have hKc := hK.sub (tys' := [(pc, .object "LampShapes$Paper")]) [1] rfl
    refine va_csq (W.runV (As := [.int 2]) (rest := []) ⟨hx, hb, hml, hown, hts⟩ (c_paperAt_2 l dC dI ad h0 (.ref ah) v1 v2 v3 v4 ph (.ref t0) v7 pc pf p2 hp2) (cwV 1 hts g_x_read_c_paperAt_2_256 rfl rfl rfl (by decide +kernel) ⟨(Nat.le_of_ble_eq_true rfl), (Nat.le_of_ble_eq_true rfl)⟩) ⟨preS_blind, va_recv hKc hPc (ci := 6) (q0 := 0) rfl rfl, fun U hU hW => ⟨rfl, preS_at hU hW hPc hKc hev⟩⟩ rfl rfl hl.1 rfl (lv_room (Nat.le_of_ble_eq_true rfl)) dX8_read_2 ⟨(Nat.le_of_ble_eq_true rfl), (Nat.le_of_ble_eq_true rfl)⟩) (fun r_41 hw => ?_)
    subst hw
    refine pp_tv (y := .ref p2) rfl ?_
    refine lv_astore_n (lv' := [(2, .ref p2), (0, .ref h0), (1, .int 2)]) hx hb dX8_read_5 rfl hl (by decide) rfl (fun ls hl => ?_)
    refine lv_aload_n hx hb dX8_read_6 rfl (lv_at hl 0 rfl) ?_
    refine lv_ifnonnull (tgt := 17) hx hb dX8_read_7 (by decide) ?_
    refine lv_aload_n hx hb dX8_read_17 rfl (lv_at hl 0 rfl) ?_
    have hPc := hP.sub (ws' := [(p2, .inr (0, [.int b2, .int z2, .ref n2]))]) [7] rfl
    have hKc := hK.sub (tys' := []) [] rfl
    refine vp_callSi (W.runV (As := []) (rest := []) ⟨hx, hb, hml, hown, hts⟩ (p_isMissing l dC dI ad p2 b2 (.int z2) (.ref n2) ) (cwV 0 hts g_x_read_p_isMissing_268 rfl rfl rfl (by decide +kernel) ⟨(Nat.le_of_ble_eq_true rfl), (Nat.le_of_ble_eq_true rfl)⟩) ⟨preS_blind, va_recv hKc hPc (ci := 0) (q0 := 0) rfl rfl, fun U hU hW => ⟨rfl, preS_at hU hW hPc hKc hev⟩⟩ rfl rfl hl.1 rfl (lv_room (Nat.le_of_ble_eq_true rfl)) dX8_read_18 ⟨(Nat.le_of_ble_eq_true rfl), (Nat.le_of_ble_eq_true rfl)⟩) (fun r_42 hw => ?_)
    have hr_42 : (r_42.toInt = 1 ∧ b2.toInt = 0) ∨ (r_42.toInt = 0 ∧ ¬ b2.toInt = 0) := hw
    refine lv_if_eq (tgt := 32) hx hb dX8_read_21 (by decide) (fun c_43 => ?_) (fun c_43 => ?_)
    · skip
      have tc_43 : r_42.toInt = 0 := (fa_eq _ _).mp c_43
      refine lv_aload_n hx hb dX8_read_32 rfl (lv_at hl 1 rfl) ?_
      refine va_get (D := (dC, dI)) (ci := 6) (v := .ref ah) (C := RX8) (T := TX8) (N := 8) hx hb hts inX8 hown hK hP 0 rfl rfl 0 (by decide) (hts _ (List.mem_of_getElem? (i := 19) rfl)) (fun _ h9 => h9) rfl dX8_read_33 ?_
      have hPc := hP.sub (ws' := [(ah, .inr (4, [.int sh, .ref q1, .ref q2, .int tn, .ref q3, .ref q4, w6, w7, w8])), (q1, .inl (c1, 9, .inl f1)), (q2, .inl (c2, 9, .inl f2)), (q3, .inl (c3, 4, .inl f3)), (q4, .inl (c4, 4, .inl f4))]) [11, 12, 13, 14, 15] rfl
      have hKc := hK.sub (tys' := [(c1, .int), (c2, .int), (c3, .int), (c4, .int)]) [6, 7, 8, 9] rfl
      refine vp_callSl (W.runV (As := []) (rest := []) ⟨hx, hb, hml, hown, hts⟩ (s_darkCells l dC dI ad ah sh q1 q2 tn q3 q4 w6 w7 w8 c1 f1 c2 f2 c3 f3 c4 f4 hsh) (cwV 0 hts g_x_read_s_darkCells_134 rfl rfl rfl (by decide +kernel) ⟨(Nat.le_of_ble_eq_true rfl), (Nat.le_of_ble_eq_true rfl)⟩) ⟨preS_blind, va_recv hKc hPc (ci := 4) (q0 := 0) rfl rfl, fun U hU hW => ⟨rfl, preS_at hU hW hPc hKc hev⟩⟩ rfl rfl hl.1 rfl (lv_room (Nat.le_of_ble_eq_true rfl)) dX8_read_36 ⟨(Nat.le_of_ble_eq_true rfl), (Nat.le_of_ble_eq_true rfl)⟩) (fun r_44 hw => ?_)
      refine lv_lstore_n (lv' := [(3, .long r_44), (2, .ref p2), (0, .ref h0), (1, .int 2)]) hx hb dX8_read_39 rfl hl (by decide) rfl (fun ls hl => ?_)
      refine lv_aload_n hx hb dX8_read_40 rfl (lv_at hl 1 rfl) ?_
      refine va_getN (D := (dC, dI)) (ci := 0) (v := .int z2) (C := RX2) (T := TX2) (N := 3) hx hb hts inX2 hown hK hP 7 rfl rfl 1 (by decide) (ev_nest hev 22 rfl) (fun _ h9 => h9) rfl dX8_read_41 ?_
      refine lv_bipush (v := 8) hx hb dX8_read_44 (by decide) ?_
      refine va_mmin hx hb (by rw [hml]; exact hl.1.symm) hown (hts _ (List.mem_of_getElem? (i := 82) rfl)) (hts _ (List.mem_of_getElem? (i := 83) rfl)) (hts _ (List.mem_of_getElem? (i := 84) rfl)) (hts _ (List.mem_of_getElem? (i := 85) rfl)) (Nat.le_of_ble_eq_true rfl) (Nat.le_of_ble_eq_true rfl) (Nat.le_of_ble_eq_true rfl) (Nat.le_of_ble_eq_true rfl) dX8_read_46 ?_
      refine lv_topi (fun n_45 en_45 => ?_)
      have tn_45 : n_45.toInt ≤ z2.toInt ∧ n_45.toInt ≤ 8 ∧ (n_45.toInt = z2.toInt ∨ n_45.toInt = 8) := pp_min en_45
      refine lv_istore (lv' := [(5, .int n_45), (3, .long r_44), (2, .ref p2), (0, .ref h0), (1, .int 2)]) hx hb dX8_read_49 hl (by decide) rfl (fun ls hl => ?_)
      refine lv_iconst (v := 0) hx hb dX8_read_51 (by decide) ?_
      refine lv_istore (lv' := [(6, .int 0), (5, .int n_45), (3, .long r_44), (2, .ref p2), (0, .ref h0), (1, .int 2)]) hx hb dX8_read_52 hl (by decide) rfl (fun ls hl => ?_)
      refine pp_loop (ι := Int32) (fun v6_54 => (n_45.toInt - v6_54.toInt).toNat) (fun v6_54 H locs ls => (0 ≤ v6_54.toInt) ∧ va_P (dC, dI) vwCl [(h0, .inr (6, [.ref ah, v1, v2, v3, v4, .ref ph, .ref t0, v7])), (t0, .inl (tc, 7, .inl tf)), (ph, .inl (pc, 4, .inr (.inr (.inr (.inr pf))))), (p0, .inr (0, [.int b0, .int z0, .ref n0])), (n0, .inl (nc0, 40, .inr (.inl g0))), (p1, .inr (0, [.int b1, .int z1, .ref n1])), (n1, .inl (nc1, 40, .inr (.inl g1))), (p2, .inr (0, [.int b2, .int z2, .ref n2])), (n2, .inl (nc2, 40, .inr (.inl g2))), (p3, .inr (0, [.int b3, .int z3, .ref n3])), (n3, .inl (nc3, 40, .inr (.inl g3))), (ah, .inr (4, [.int sh, .ref q1, .ref q2, .int tn, .ref q3, .ref q4, w6, w7, w8])), (q1, .inl (c1, 9, .inl f1)), (q2, .inl (c2, 9, .inl f2)), (q3, .inl (c3, 4, .inl f3)), (q4, .inl (c4, 4, .inl f4))] H ∧ va_D A [(h0, .inr (6, [.ref ah, v1, v2, v3, v4, .ref ph, .ref t0, v7])), (t0, .inl (tc, 7, .inl tf)), (ph, .inl (pc, 4, .inr (.inr (.inr (.inr pf))))), (p0, .inr (0, [.int b0, .int z0, .ref n0])), (n0, .inl (nc0, 40, .inr (.inl g0))), (p1, .inr (0, [.int b1, .int z1, .ref n1])), (n1, .inl (nc1, 40, .inr (.inl g1))), (p2, .inr (0, [.int b2, .int z2, .ref n2])), (n2, .inl (nc2, 40, .inr (.inl g2))), (p3, .inr (0, [.int b3, .int z3, .ref n3])), (n3, .inl (nc3, 40, .inr (.inl g3))), (ah, .inr (4, [.int sh, .ref q1, .ref q2, .int tn, .ref q3, .ref q4, w6, w7, w8])), (q1, .inl (c1, 9, .inl f1)), (q2, .inl (c2, 9, .inl f2)), (q3, .inl (c3, 4, .inl f3)), (q4, .inl (c4, 4, .inl f4))] ∧ va_S A s.heap H locs ∧ lv_has ls 7 [(6, .int v6_54), (5, .int n_45), (3, .long r_44), (2, .ref p2), (0, .ref h0), (1, .int 2)]) ?_ 0 _ _ _ ⟨(by first | omega | decide | (simp only [fa_lt, fa_le, fa_eq, and_true, true_and, and_false, false_and, not_true_eq_false, not_false_eq_true, li_0, li_1, li_2, li_3, li_4, li_5, li_6, li_7, li_8, li_9, li_10, li_12, li_15, li_16, li_20, li_30, li_34, li_38, li_40, li_63, li_64, li_65, li_78, li_120, li_1000, li_4000, li_10000, li_11077, li_255, li_65535, li_m1, li_m2, li_m1000000001, li_m1000000002, li_m1000000003, li_m1000000004, li_m1000000005, li_m1000000006, li_m1000000007, or_true, true_or, or_false, false_or, implies_true, true_implies, false_implies] <;> omega)), hP.sub [0, 1, 2, 3, 4, 5, 6, 7, 8, 9, 10, 11, 12, 13, 14, 15] rfl, hD.sub [0, 1, 2, 3, 4, 5, 6, 7, 8, 9, 10, 11, 12, 13, 14, 15] (by decide) rfl, hS, lv_sub hl [0, 1, 2, 3, 4, 5] rfl⟩
      intro k_46 ihk_46 u H locs ls hm hI
      obtain ⟨v6_54, rfl⟩ : ∃ z, z = u := ⟨_, rfl⟩
      obtain ⟨jk_46_0, hP, hD, hS, hl⟩ := hI
      have hmk_46 : (n_45.toInt - v6_54.toInt).toNat < k_46 + 1 := hm
      clear hm
      have jk_46_0 : 0 ≤ v6_54.toInt := jk_46_0
      have hl : lv_has ls 7 [(6, .int v6_54), (5, .int n_45), (3, .long r_44), (2, .ref p2), (0, .ref h0), (1, .int 2)] := hl
      have hP : va_P (dC, dI) vwCl [(h0, .inr (6, [.ref ah, v1, v2, v3, v4, .ref ph, .ref t0, v7])), (t0, .inl (tc, 7, .inl tf)), (ph, .inl (pc, 4, .inr (.inr (.inr (.inr pf))))), (p0, .inr (0, [.int b0, .int z0, .ref n0])), (n0, .inl (nc0, 40, .inr (.inl g0))), (p1, .inr (0, [.int b1, .int z1, .ref n1])), (n1, .inl (nc1, 40, .inr (.inl g1))), (p2, .inr (0, [.int b2, .int z2, .ref n2])), (n2, .inl (nc2, 40, .inr (.inl g2))), (p3, .inr (0, [.int b3, .int z3, .ref n3])), (n3, .inl (nc3, 40, .inr (.inl g3))), (ah, .inr (4, [.int sh, .ref q1, .ref q2, .int tn, .ref q3, .ref q4, w6, w7, w8])), (q1, .inl (c1, 9, .inl f1)), (q2, .inl (c2, 9, .inl f2)), (q3, .inl (c3, 4, .inl f3)), (q4, .inl (c4, 4, .inl f4))] H := hP
      have hD : va_D A [(h0, .inr (6, [.ref ah, v1, v2, v3, v4, .ref ph, .ref t0, v7])), (t0, .inl (tc, 7, .inl tf)), (ph, .inl (pc, 4, .inr (.inr (.inr (.inr pf))))), (p0, .inr (0, [.int b0, .int z0, .ref n0])), (n0, .inl (nc0, 40, .inr (.inl g0))), (p1, .inr (0, [.int b1, .int z1, .ref n1])), (n1, .inl (nc1, 40, .inr (.inl g1))), (p2, .inr (0, [.int b2, .int z2, .ref n2])), (n2, .inl (nc2, 40, .inr (.inl g2))), (p3, .inr (0, [.int b3, .int z3, .ref n3])), (n3, .inl (nc3, 40, .inr (.inl g3))), (ah, .inr (4, [.int sh, .ref q1, .ref q2, .int tn, .ref q3, .ref q4, w6, w7, w8])), (q1, .inl (c1, 9, .inl f1)), (q2, .inl (c2, 9, .inl f2)), (q3, .inl (c3, 4, .inl f3)), (q4, .inl (c4, 4, .inl f4))] := hD
      refine lv_iload hx hb dX8_read_54 (lv_at hl 0 rfl) ?_
      refine lv_iload hx hb dX8_read_56 (lv_at hl 1 rfl) ?_
      have rc_47_x := pp_rng v6_54
      have rc_47_y := pp_rng n_45
      refine lv_icmp_ge (tgt := 94) hx hb dX8_read_58 (by decide) (fun c_47 => ?_) (fun c_47 => ?_)
      · skip
        have tc_47 : n_45.toInt ≤ v6_54.toInt := (fa_le _ _).mp c_47
        refine lv_iconst (v := 0) hx hb dX8_read_94 (by decide) ?_
        have hP9 := hP.sub (ws' := [(h0, .inr (6, [.ref ah, v1, v2, v3, v4, .ref ph, .ref t0, v7])), (t0, .inl (tc, 7, .inl tf)), (ph, .inl (pc, 4, .inr (.inr (.inr (.inr pf))))), (p0, .inr (0, [.int b0, .int z0, .ref n0])), (n0, .inl (nc0, 40, .inr (.inl g0))), (p1, .inr (0, [.int b1, .int z1, .ref n1])), (n1, .inl (nc1, 40, .inr (.inl g1))), (p2, .inr (0, [.int b2, .int z2, .ref n2])), (n2, .inl (nc2, 40, .inr (.inl g2))), (p3, .inr (0, [.int b3, .int z3, .ref n3])), (n3, .inl (nc3, 40, .inr (.inl g3))), (ah, .inr (4, [.int sh, .ref q1, .ref q2, .int tn, .ref q3, .ref q4, w6, w7, w8])), (q1, .inl (c1, 9, .inl f1)), (q2, .inl (c2, 9, .inl f2)), (q3, .inl (c3, 4, .inl f3)), (q4, .inl (c4, 4, .inl f4))]) [0, 1, 2, 3, 4, 5, 6, 7, 8, 9, 10, 11, 12, 13, 14, 15] rfl
        have hD9 := hD.sub (ws' := [(h0, .inr (6, [.ref ah, v1, v2, v3, v4, .ref ph, .ref t0, v7])), (t0, .inl (tc, 7, .inl tf)), (ph, .inl (pc, 4, .inr (.inr (.inr (.inr pf))))), (p0, .inr (0, [.int b0, .int z0, .ref n0])), (n0, .inl (nc0, 40, .inr (.inl g0))), (p1, .inr (0, [.int b1, .int z1, .ref n1])), (n1, .inl (nc1, 40, .inr (.inl g1))), (p2, .inr (0, [.int b2, .int z2, .ref n2])), (n2, .inl (nc2, 40, .inr (.inl g2))), (p3, .inr (0, [.int b3, .int z3, .ref n3])), (n3, .inl (nc3, 40, .inr (.inl g3))), (ah, .inr (4, [.int sh, .ref q1, .ref q2, .int tn, .ref q3, .ref q4, w6, w7, w8])), (q1, .inl (c1, 9, .inl f1)), (q2, .inl (c2, 9, .inl f2)), (q3, .inl (c3, 4, .inl f3)), (q4, .inl (c4, 4, .inl f4))]) [0, 1, 2, 3, 4, 5, 6, 7, 8, 9, 10, 11, 12, 13, 14, 15] (by decide) rfl
        have hK9 := hK.sub (tys' := [(tc, .int), (pc, .object "LampShapes$Paper"), (nc0, .long), (nc1, .long), (nc2, .long), (nc3, .long), (c1, .int), (c2, .int), (c3, .int), (c4, .int)]) [0, 1, 2, 3, 4, 5, 6, 7, 8, 9] rfl
        exact W.iret (v := (0 : Int32)) hx hb hr (fun t ht hW => ⟨⟨(0 : Int32), (), rfl, trivial, tf, by rw [ht]; exact hP9, va_K.moved hW.alike hK9, hD9⟩, hS.F ht⟩) hS.2.2 dX8_read_95
      · skip
        have tc_47 : ¬ n_45.toInt ≤ v6_54.toInt := fun h => c_47 ((fa_le _ _).mpr h)
        refine lv_aload_n hx hb dX8_read_61 rfl (lv_at hl 3 rfl) ?_
        refine va_getN (D := (dC, dI)) (ci := 0) (v := .ref n2) (C := RX2) (T := TX2) (N := 3) hx hb hts inX2 hown hK hP 7 rfl rfl 2 (by decide) (ev_nest hev 23 rfl) (fun _ h9 => h9) rfl dX8_read_62 ?_
        refine lv_iload hx hb dX8_read_65 (lv_at hl 0 rfl) ?_
        refine va_lald hx hb hK hP 8 4 rfl rfl (vp_in_iff.mpr ⟨by omega, by omega⟩) dX8_read_67 ?_
        refine lv_topl (fun n_48 en_48 => ?_)
        clear en_48
        refine lv_ldc2 hx hb hown (hts _ (List.mem_of_getElem? (i := 86) rfl)) dX8_read_68 ?_
        refine lv_land hx hb dX8_read_71 ?_
        refine lv_topl (fun n_49 en_49 => ?_)
        clear en_49
        refine lv_lload_n hx hb dX8_read_72 rfl (lv_at hl 2 rfl) ?_
        refine lv_iload hx hb dX8_read_73 (lv_at hl 0 rfl) ?_
        have hPc := hP.sub (ws' := []) [] rfl
        have hKc := hK.sub (tys' := []) [] rfl
        refine vp_callSi (W.runS (As := [.long r_44, .int v6_54]) (rest := [.long n_49]) ⟨hx, hb, hml, hown, hts⟩ (l_rowOf l dC dI ad r_44 v6_54 ) (va_cwS 2 hts g_x_read_l_rowOf_291 rfl rfl rfl (by decide +kernel) ⟨(Nat.le_of_ble_eq_true rfl), (Nat.le_of_ble_eq_true rfl)⟩) ⟨preS_blind, fun U hU hW => ⟨rfl, preS_at hU hW hPc hKc hev⟩⟩ rfl rfl hl.1 rfl (lv_room (Nat.le_of_ble_eq_true rfl)) dX8_read_75 ⟨(Nat.le_of_ble_eq_true rfl), (Nat.le_of_ble_eq_true rfl)⟩) (fun r_50 hw => ?_)
        obtain ⟨n_51, en_51⟩ : ∃ z : Int64, z = r_50.toInt64 := ⟨_, rfl⟩
        refine lv_i2l (v := n_51) hx hb dX8_read_78 en_51.symm ?_
        clear en_51
        refine W.lcmp hx hb dX8_read_79 ?_
        refine lv_topi (fun n_52 en_52 => ?_)
        refine lv_if_eq (tgt := 88) hx hb dX8_read_80 (by decide) (fun c_53 => ?_) (fun c_53 => ?_)
        · skip
          have tc_53 : n_52.toInt = 0 := (fa_eq _ _).mp c_53
          obtain ⟨n_54, en_54⟩ : ∃ y : Int32, y = v6_54 + 1 := ⟨_, rfl⟩
          have tn_54 : n_54.toInt = v6_54.toInt + 1 := pp_add en_54 rfl rfl (by omega) (by omega)
          refine lv_iinc (v := n_54) (lv' := [(6, .int n_54), (5, .int n_45), (3, .long r_44), (2, .ref p2), (0, .ref h0), (1, .int 2)]) hx hb dX8_read_88 hl (k := 0) rfl (by rw [en_54]; rfl) (by decide) rfl (fun ls hl => ?_)
          clear en_54
          refine lv_goto (tgt := 54) hx hb dX8_read_91 (by decide) ?_
          exact ihk_46 n_54 _ _ _ (by show (n_45.toInt - n_54.toInt).toNat < k_46; omega) ⟨(by first | omega | decide | (simp only [fa_lt, fa_le, fa_eq, and_true, true_and, and_false, false_and, not_true_eq_false, not_false_eq_true, li_0, li_1, li_2, li_3, li_4, li_5, li_6, li_7, li_8, li_9, li_10, li_12, li_15, li_16, li_20, li_30, li_34, li_38, li_40, li_63, li_64, li_65, li_78, li_120, li_1000, li_4000, li_10000, li_11077, li_255, li_65535, li_m1, li_m2, li_m1000000001, li_m1000000002, li_m1000000003, li_m1000000004, li_m1000000005, li_m1000000006, li_m1000000007, or_true, true_or, or_false, false_or, implies_true, true_implies, false_implies] <;> omega)), hP.sub [0, 1, 2, 3, 4, 5, 6, 7, 8, 9, 10, 11, 12, 13, 14, 15] rfl, hD.sub [0, 1, 2, 3, 4, 5, 6, 7, 8, 9, 10, 11, 12, 13, 14, 15] (by decide) rfl, hS, lv_sub hl [0, 1, 2, 3, 4, 5] rfl⟩
        · skip
          have tc_53 : ¬ n_52.toInt = 0 := fun h => c_53 ((fa_eq _ _).mpr h)
          have zc_53 : ¬ n_49 = n_51 := pp_lc_ne en_52 c_53
          refine lv_iconst (v := 1) hx hb dX8_read_83 (by decide) ?_
          refine lv_iload hx hb dX8_read_84 (lv_at hl 0 rfl) ?_
          refine lv_iadd hx hb dX8_read_86 ?_
          refine lv_topi (fun n_55 en_55 => ?_)
          have tn_55 : n_55.toInt = 1 + v6_54.toInt := pp_add en_55 rfl rfl (by omega) (by omega)
          clear en_55
          have hP9 := hP.sub (ws' := [(h0, .inr (6, [.ref ah, v1, v2, v3, v4, .ref ph, .ref t0, v7])), (t0, .inl (tc, 7, .inl tf)), (ph, .inl (pc, 4, .inr (.inr (.inr (.inr pf))))), (p0, .inr (0, [.int b0, .int z0, .ref n0])), (n0, .inl (nc0, 40, .inr (.inl g0))), (p1, .inr (0, [.int b1, .int z1, .ref n1])), (n1, .inl (nc1, 40, .inr (.inl g1))), (p2, .inr (0, [.int b2, .int z2, .ref n2])), (n2, .inl (nc2, 40, .inr (.inl g2))), (p3, .inr (0, [.int b3, .int z3, .ref n3])), (n3, .inl (nc3, 40, .inr (.inl g3))), (ah, .inr (4, [.int sh, .ref q1, .ref q2, .int tn, .ref q3, .ref q4, w6, w7, w8])), (q1, .inl (c1, 9, .inl f1)), (q2, .inl (c2, 9, .inl f2)), (q3, .inl (c3, 4, .inl f3)), (q4, .inl (c4, 4, .inl f4))]) [0, 1, 2, 3, 4, 5, 6, 7, 8, 9, 10, 11, 12, 13, 14, 15] rfl
          have hD9 := hD.sub (ws' := [(h0, .inr (6, [.ref ah, v1, v2, v3, v4, .ref ph, .ref t0, v7])), (t0, .inl (tc, 7, .inl tf)), (ph, .inl (pc, 4, .inr (.inr (.inr (.inr pf))))), (p0, .inr (0, [.int b0, .int z0, .ref n0])), (n0, .inl (nc0, 40, .inr (.inl g0))), (p1, .inr (0, [.int b1, .int z1, .ref n1])), (n1, .inl (nc1, 40, .inr (.inl g1))), (p2, .inr (0, [.int b2, .int z2, .ref n2])), (n2, .inl (nc2, 40, .inr (.inl g2))), (p3, .inr (0, [.int b3, .int z3, .ref n3])), (n3, .inl (nc3, 40, .inr (.inl g3))), (ah, .inr (4, [.int sh, .ref q1, .ref q2, .int tn, .ref q3, .ref q4, w6, w7, w8])), (q1, .inl (c1, 9, .inl f1)), (q2, .inl (c2, 9, .inl f2)), (q3, .inl (c3, 4, .inl f3)), (q4, .inl (c4, 4, .inl f4))]) [0, 1, 2, 3, 4, 5, 6, 7, 8, 9, 10, 11, 12, 13, 14, 15] (by decide) rfl
          have hK9 := hK.sub (tys' := [(tc, .int), (pc, .object "LampShapes$Paper"), (nc0, .long), (nc1, .long), (nc2, .long), (nc3, .long), (c1, .int), (c2, .int), (c3, .int), (c4, .int)]) [0, 1, 2, 3, 4, 5, 6, 7, 8, 9] rfl
          exact W.iret (v := n_55) hx hb hr (fun t ht hW => ⟨⟨n_55, (), rfl, trivial, tf, by rw [ht]; exact hP9, va_K.moved hW.alike hK9, hD9⟩, hS.F ht⟩) hS.2.2 dX8_read_87
    · skip
      have tc_43 : ¬ r_42.toInt = 0 := fun h => c_43 ((fa_eq _ _).mpr h)
      refine lv_aload_n hx hb dX8_read_24 rfl (lv_at hl 1 rfl) ?_
      refine lv_ldcw hx hb hown (hts _ (List.mem_of_getElem? (i := 91) rfl)) dX8_read_25 ?_
      have hPc := hP.sub (ws' := [(h0, .inr (6, [.ref ah, v1, v2, v3, v4, .ref ph, .ref t0, v7])), (t0, .inl (tc, 7, .inl tf))]) [0, 1] rfl
      have hKc := hK.sub (tys' := [(tc, .int)]) [0] rfl
      have hDc := hD.sub (ws' := [(h0, .inr (6, [.ref ah, v1, v2, v3, v4, .ref ph, .ref t0, v7])), (t0, .inl (tc, 7, .inl tf))]) [0, 1] (by decide) rfl
      have hFc := va_free (wc := [(h0, .inr (6, [.ref ah, v1, v2, v3, v4, .ref ph, .ref t0, v7])), (t0, .inl (tc, 7, .inl tf))]) hD hS hA [0, 1] rfl
      refine va_calli (va_runV (As := [.int (-1000000006)]) (rest := []) ⟨hx, hb, hml, hown, hts⟩ (f_missing l dC dI ad h0 (.ref ah) v1 v2 v3 v4 (.ref ph) t0 v7 tc tf s.heap.size ) (cwV 1 hts g_x_read_f_missing_63 rfl rfl rfl (by decide +kernel) ⟨(Nat.le_of_ble_eq_true rfl), (Nat.le_of_ble_eq_true rfl)⟩) ⟨preM_blind, va_recv hKc hPc (ci := 6) (q0 := 0) rfl rfl, fun U hU hW => ⟨rfl, preM_at hU hW hPc hKc hDc hev⟩⟩ rfl rfl hl.1 rfl (lv_room (Nat.le_of_ble_eq_true rfl)) dX8_read_28 ⟨(Nat.le_of_ble_eq_true rfl), (Nat.le_of_ble_eq_true rfl)⟩) hS (fun q _ h => hFc q h) hFc (fun r_56 u t H1 locs ht hvm hw hB hz1 hk1 hS => ?_)
      obtain ⟨tg_57, hP1, hK1, hD1⟩ := hB
      rw [ht] at hP1
      have hK1 := va_K.moved hvm.symm hK1
      obtain ⟨hP, hD⟩ := va_join (wr := [(ph, .inl (pc, 4, .inr (.inr (.inr (.inr pf))))), (p0, .inr (0, [.int b0, .int z0, .ref n0])), (n0, .inl (nc0, 40, .inr (.inl g0))), (p1, .inr (0, [.int b1, .int z1, .ref n1])), (n1, .inl (nc1, 40, .inr (.inl g1))), (p2, .inr (0, [.int b2, .int z2, .ref n2])), (n2, .inl (nc2, 40, .inr (.inl g2))), (p3, .inr (0, [.int b3, .int z3, .ref n3])), (n3, .inl (nc3, 40, .inr (.inl g3))), (ah, .inr (4, [.int sh, .ref q1, .ref q2, .int tn, .ref q3, .ref q4, w6, w7, w8])), (q1, .inl (c1, 9, .inl f1)), (q2, .inl (c2, 9, .inl f2)), (q3, .inl (c3, 4, .inl f3)), (q4, .inl (c4, 4, .inl f4))]) (w1 := [(h0, .inr (6, [.ref ah, v1, v2, v3, v4, .ref ph, .ref t0, v7])), (t0, .inl (tc, 7, .inl tg_57))]) hP hD [0, 1] [2, 3, 4, 5, 6, 7, 8, 9, 10, 11, 12, 13, 14, 15] rfl rfl (by decide) (by decide) hk1 hFc hP1 hD1
      generalize H1 = H at hP hS ⊢
      have hP : va_P (dC, dI) vwCl [(ph, .inl (pc, 4, .inr (.inr (.inr (.inr pf))))), (p0, .inr (0, [.int b0, .int z0, .ref n0])), (n0, .inl (nc0, 40, .inr (.inl g0))), (p1, .inr (0, [.int b1, .int z1, .ref n1])), (n1, .inl (nc1, 40, .inr (.inl g1))), (p2, .inr (0, [.int b2, .int z2, .ref n2])), (n2, .inl (nc2, 40, .inr (.inl g2))), (p3, .inr (0, [.int b3, .int z3, .ref n3])), (n3, .inl (nc3, 40, .inr (.inl g3))), (ah, .inr (4, [.int sh, .ref q1, .ref q2, .int tn, .ref q3, .ref q4, w6, w7, w8])), (q1, .inl (c1, 9, .inl f1)), (q2, .inl (c2, 9, .inl f2)), (q3, .inl (c3, 4, .inl f3)), (q4, .inl (c4, 4, .inl f4)), (h0, .inr (6, [.ref ah, v1, v2, v3, v4, .ref ph, .ref t0, v7])), (t0, .inl (tc, 7, .inl tg_57))] H := hP
      have hD : va_D A [(ph, .inl (pc, 4, .inr (.inr (.inr (.inr pf))))), (p0, .inr (0, [.int b0, .int z0, .ref n0])), (n0, .inl (nc0, 40, .inr (.inl g0))), (p1, .inr (0, [.int b1, .int z1, .ref n1])), (n1, .inl (nc1, 40, .inr (.inl g1))), (p2, .inr (0, [.int b2, .int z2, .ref n2])), (n2, .inl (nc2, 40, .inr (.inl g2))), (p3, .inr (0, [.int b3, .int z3, .ref n3])), (n3, .inl (nc3, 40, .inr (.inl g3))), (ah, .inr (4, [.int sh, .ref q1, .ref q2, .int tn, .ref q3, .ref q4, w6, w7, w8])), (q1, .inl (c1, 9, .inl f1)), (q2, .inl (c2, 9, .inl f2)), (q3, .inl (c3, 4, .inl f3)), (q4, .inl (c4, 4, .inl f4)), (h0, .inr (6, [.ref ah, v1, v2, v3, v4, .ref ph, .ref t0, v7])), (t0, .inl (tc, 7, .inl tg_57))] := hD
      subst hw
      have hP9 := hP.sub (ws' := [(h0, .inr (6, [.ref ah, v1, v2, v3, v4, .ref ph, .ref t0, v7])), (t0, .inl (tc, 7, .inl tg_57)), (ph, .inl (pc, 4, .inr (.inr (.inr (.inr pf))))), (p0, .inr (0, [.int b0, .int z0, .ref n0])), (n0, .inl (nc0, 40, .inr (.inl g0))), (p1, .inr (0, [.int b1, .int z1, .ref n1])), (n1, .inl (nc1, 40, .inr (.inl g1))), (p2, .inr (0, [.int b2, .int z2, .ref n2])), (n2, .inl (nc2, 40, .inr (.inl g2))), (p3, .inr (0, [.int b3, .int z3, .ref n3])), (n3, .inl (nc3, 40, .inr (.inl g3))), (ah, .inr (4, [.int sh, .ref q1, .ref q2, .int tn, .ref q3, .ref q4, w6, w7, w8])), (q1, .inl (c1, 9, .inl f1)), (q2, .inl (c2, 9, .inl f2)), (q3, .inl (c3, 4, .inl f3)), (q4, .inl (c4, 4, .inl f4))]) [14, 15, 0, 1, 2, 3, 4, 5, 6, 7, 8, 9, 10, 11, 12, 13] rfl
      have hD9 := hD.sub (ws' := [(h0, .inr (6, [.ref ah, v1, v2, v3, v4, .ref ph, .ref t0, v7])), (t0, .inl (tc, 7, .inl tg_57)), (ph, .inl (pc, 4, .inr (.inr (.inr (.inr pf))))), (p0, .inr (0, [.int b0, .int z0, .ref n0])), (n0, .inl (nc0, 40, .inr (.inl g0))), (p1, .inr (0, [.int b1, .int z1, .ref n1])), (n1, .inl (nc1, 40, .inr (.inl g1))), (p2, .inr (0, [.int b2, .int z2, .ref n2])), (n2, .inl (nc2, 40, .inr (.inl g2))), (p3, .inr (0, [.int b3, .int z3, .ref n3])), (n3, .inl (nc3, 40, .inr (.inl g3))), (ah, .inr (4, [.int sh, .ref q1, .ref q2, .int tn, .ref q3, .ref q4, w6, w7, w8])), (q1, .inl (c1, 9, .inl f1)), (q2, .inl (c2, 9, .inl f2)), (q3, .inl (c3, 4, .inl f3)), (q4, .inl (c4, 4, .inl f4))]) [14, 15, 0, 1, 2, 3, 4, 5, 6, 7, 8, 9, 10, 11, 12, 13] (by decide) rfl
      have hK9 := hK.sub (tys' := [(tc, .int), (pc, .object "LampShapes$Paper"), (nc0, .long), (nc1, .long), (nc2, .long), (nc3, .long), (c1, .int), (c2, .int), (c3, .int), (c4, .int)]) [0, 1, 2, 3, 4, 5, 6, 7, 8, 9] rfl
      exact W.iret (v := ((-1000000006) : Int32)) hx hb hr (fun t ht hW => ⟨⟨((-1000000006) : Int32), (), rfl, trivial, tg_57, by rw [ht]; exact hP9, va_K.moved hW.alike hK9, hD9⟩, hS.F ht⟩) hS.2.2 dX8_read_31
  · skip
    refine Met.ofW (cc := cX8_read) (maxL := 7) (ret := (some .int)) (by decide) rfl ?_
    intro p e s m args below meth c s₁ B hml hv
    obtain ⟨rfl, hsz, hP, hK, hD0, hev⟩ := hv
    have hx := B.exec
    have hb := B.bytes
    have hr := B.returns
    have hts := atoms_spec (ws := w_x_read) B.pre
    have hown : s.vm.findClass RX8 = some m.cls := findClass_of_methodNamed B.named
    have hlocks := B.notSynchronized
    have inX8 : ∀ w ∈ wsX80, w ∈ w_x_read := fun w h => List.mem_cons_of_mem _ (List.mem_append_left _ (List.mem_append_left _ (List.mem_append_right _ h)))
    have inX2 : ∀ w ∈ wsX20, w ∈ w_x_read := fun w h => List.mem_cons_of_mem _ (List.mem_append_left _ (List.mem_append_right _ h))
    have inX6 : ∀ w ∈ wsX60, w ∈ w_x_read := fun w h => List.mem_cons_of_mem _ (List.mem_append_right _ h)
    subst hsz
    have hD := hD0.self (sz := s.heap.size)
    generalize hAe : va_A [(h0, .inr (6, [.ref ah, v1, v2, v3, v4, .ref ph, .ref t0, v7])), (t0, .inl (tc, 7, .inl tf)), (ph, .inl (pc, 4, .inr (.inr (.inr (.inr pf))))), (p0, .inr (0, [.int b0, .int z0, .ref n0])), (n0, .inl (nc0, 40, .inr (.inl g0))), (p1, .inr (0, [.int b1, .int z1, .ref n1])), (n1, .inl (nc1, 40, .inr (.inl g1))), (p2, .inr (0, [.int b2, .int z2, .ref n2])), (n2, .inl (nc2, 40, .inr (.inl g2))), (p3, .inr (0, [.int b3, .int z3, .ref n3])), (n3, .inl (nc3, 40, .inr (.inl g3))), (ah, .inr (4, [.int sh, .ref q1, .ref q2, .int tn, .ref q3, .ref q4, w6, w7, w8])), (q1, .inl (c1, 9, .inl f1)), (q2, .inl (c2, 9, .inl f2)), (q3, .inl (c3, 4, .inl f3)), (q4, .inl (c4, 4, .inl f4))] s.heap.size = A at hD ⊢
    have hA : ∀ q : Nat, s.heap.size ≤ q → A q := fun q h => by rw [← hAe]; exact Or.inr h
    have hS : va_S A s.heap s.heap [] := va_S.rf
    have hP : va_P (dC, dI) vwCl [(h0, .inr (6, [.ref ah, v1, v2, v3, v4, .ref ph, .ref t0, v7])), (t0, .inl (tc, 7, .inl tf)), (ph, .inl (pc, 4, .inr (.inr (.inr (.inr pf))))), (p0, .inr (0, [.int b0, .int z0, .ref n0])), (n0, .inl (nc0, 40, .inr (.inl g0))), (p1, .inr (0, [.int b1, .int z1, .ref n1])), (n1, .inl (nc1, 40, .inr (.inl g1))), (p2, .inr (0, [.int b2, .int z2, .ref n2])), (n2, .inl (nc2, 40, .inr (.inl g2))), (p3, .inr (0, [.int b3, .int z3, .ref n3])), (n3, .inl (nc3, 40, .inr (.inl g3))), (ah, .inr (4, [.int sh, .ref q1, .ref q2, .int tn, .ref q3, .ref q4, w6, w7, w8])), (q1, .inl (c1, 9, .inl f1)), (q2, .inl (c2, 9, .inl f2)), (q3, .inl (c3, 4, .inl f3)), (q4, .inl (c4, 4, .inl f4))] s.heap := hP
    have hl := lv_entry ([.ref h0, .int 3]) (n := 7) (Nat.le_of_ble_eq_true rfl)
    rw [lg_entry_eq]
    generalize (lg_sl ([.ref h0, .int 3]) ++ List.replicate (7 - (lg_sl ([.ref h0, .int 3])).length) Slot.unset).toArray = ls at hl ⊢
    have hl : lv_has ls 7 [(0, .ref h0), (1, .int 3)] := hl
    refine lv_aload_n hx hb dX8_read_0 rfl (lv_at hl 0 rfl) ?_
    refine lv_iload_n hx hb dX8_read_1 rfl (lv_at hl 1 rfl) ?_
    have hPc := hP.sub (ws' := [(h0, .inr (6, [.ref ah, v1, v2, v3, v4, .ref ph, .ref t0, v7])), (ph, .inl (pc, 4, .inr (.inr (.inr (.inr pf)))))]) [0, 2] rfl
    have hKc := hK.sub (tys' := [(pc, .object "LampShapes$Paper")]) [1] rfl
    refine va_csq (W.runV (As := [.int 3]) (rest := []) ⟨hx, hb, hml, hown, hts⟩ (c_paperAt_3 l dC dI ad h0 (.ref ah) v1 v2 v3 v4 ph (.ref t0) v7 pc pf p3 hp3) (cwV 1 hts g_x_read_c_paperAt_3_256 rfl rfl rfl (by decide +kernel) ⟨(Nat.le_of_ble_eq_true rfl), (Nat.le_of_ble_eq_true rfl)⟩) ⟨preS_blind, va_recv hKc hPc (ci := 6) (q0 := 0) rfl rfl, fun U hU hW => ⟨rfl, preS_at hU hW hPc hKc hev⟩⟩ rfl rfl hl.1 rfl (lv_room (Nat.le_of_ble_eq_true rfl)) dX8_read_2 ⟨(Nat.le_of_ble_eq_true rfl), (Nat.le_of_ble_eq_true rfl)⟩) (fun r_58 hw => ?_)
    subst hw
    refine pp_tv (y := .ref p3) rfl ?_
    refine lv_astore_n (lv' := [(2, .ref p3), (0, .ref h0), (1, .int 3)]) hx hb dX8_read_5 rfl hl (by decide) rfl (fun ls hl => ?_)
    refine lv_aload_n hx hb dX8_read_6 rfl (lv_at hl 0 rfl) ?_
    refine lv_ifnonnull (tgt := 17) hx hb dX8_read_7 (by decide) ?_
    refine lv_aload_n hx hb dX8_read_17 rfl (lv_at hl 0 rfl) ?_
    have hPc := hP.sub (ws' := [(p3, .inr (0, [.int b3, .int z3, .ref n3]))]) [9] rfl
    have hKc := hK.sub (tys' := []) [] rfl
    refine vp_callSi (W.runV (As := []) (rest := []) ⟨hx, hb, hml, hown, hts⟩ (p_isMissing l dC dI ad p3 b3 (.int z3) (.ref n3) ) (cwV 0 hts g_x_read_p_isMissing_268 rfl rfl rfl (by decide +kernel) ⟨(Nat.le_of_ble_eq_true rfl), (Nat.le_of_ble_eq_true rfl)⟩) ⟨preS_blind, va_recv hKc hPc (ci := 0) (q0 := 0) rfl rfl, fun U hU hW => ⟨rfl, preS_at hU hW hPc hKc hev⟩⟩ rfl rfl hl.1 rfl (lv_room (Nat.le_of_ble_eq_true rfl)) dX8_read_18 ⟨(Nat.le_of_ble_eq_true rfl), (Nat.le_of_ble_eq_true rfl)⟩) (fun r_59 hw => ?_)
    have hr_59 : (r_59.toInt = 1 ∧ b3.toInt = 0) ∨ (r_59.toInt = 0 ∧ ¬ b3.toInt = 0) := hw
    refine lv_if_eq (tgt := 32) hx hb dX8_read_21 (by decide) (fun c_60 => ?_) (fun c_60 => ?_)
    · skip
      have tc_60 : r_59.toInt = 0 := (fa_eq _ _).mp c_60
      refine lv_aload_n hx hb dX8_read_32 rfl (lv_at hl 1 rfl) ?_
      refine va_get (D := (dC, dI)) (ci := 6) (v := .ref ah) (C := RX8) (T := TX8) (N := 8) hx hb hts inX8 hown hK hP 0 rfl rfl 0 (by decide) (hts _ (List.mem_of_getElem? (i := 19) rfl)) (fun _ h9 => h9) rfl dX8_read_33 ?_
      have hPc := hP.sub (ws' := [(ah, .inr (4, [.int sh, .ref q1, .ref q2, .int tn, .ref q3, .ref q4, w6, w7, w8])), (q1, .inl (c1, 9, .inl f1)), (q2, .inl (c2, 9, .inl f2)), (q3, .inl (c3, 4, .inl f3)), (q4, .inl (c4, 4, .inl f4))]) [11, 12, 13, 14, 15] rfl
      have hKc := hK.sub (tys' := [(c1, .int), (c2, .int), (c3, .int), (c4, .int)]) [6, 7, 8, 9] rfl
      refine vp_callSl (W.runV (As := []) (rest := []) ⟨hx, hb, hml, hown, hts⟩ (s_darkCells l dC dI ad ah sh q1 q2 tn q3 q4 w6 w7 w8 c1 f1 c2 f2 c3 f3 c4 f4 hsh) (cwV 0 hts g_x_read_s_darkCells_134 rfl rfl rfl (by decide +kernel) ⟨(Nat.le_of_ble_eq_true rfl), (Nat.le_of_ble_eq_true rfl)⟩) ⟨preS_blind, va_recv hKc hPc (ci := 4) (q0 := 0) rfl rfl, fun U hU hW => ⟨rfl, preS_at hU hW hPc hKc hev⟩⟩ rfl rfl hl.1 rfl (lv_room (Nat.le_of_ble_eq_true rfl)) dX8_read_36 ⟨(Nat.le_of_ble_eq_true rfl), (Nat.le_of_ble_eq_true rfl)⟩) (fun r_61 hw => ?_)
      refine lv_lstore_n (lv' := [(3, .long r_61), (2, .ref p3), (0, .ref h0), (1, .int 3)]) hx hb dX8_read_39 rfl hl (by decide) rfl (fun ls hl => ?_)
      refine lv_aload_n hx hb dX8_read_40 rfl (lv_at hl 1 rfl) ?_
      refine va_getN (D := (dC, dI)) (ci := 0) (v := .int z3) (C := RX2) (T := TX2) (N := 3) hx hb hts inX2 hown hK hP 9 rfl rfl 1 (by decide) (ev_nest hev 22 rfl) (fun _ h9 => h9) rfl dX8_read_41 ?_
      refine lv_bipush (v := 8) hx hb dX8_read_44 (by decide) ?_
      refine va_mmin hx hb (by rw [hml]; exact hl.1.symm) hown (hts _ (List.mem_of_getElem? (i := 82) rfl)) (hts _ (List.mem_of_getElem? (i := 83) rfl)) (hts _ (List.mem_of_getElem? (i := 84) rfl)) (hts _ (List.mem_of_getElem? (i := 85) rfl)) (Nat.le_of_ble_eq_true rfl) (Nat.le_of_ble_eq_true rfl) (Nat.le_of_ble_eq_true rfl) (Nat.le_of_ble_eq_true rfl) dX8_read_46 ?_
      refine lv_topi (fun n_62 en_62 => ?_)
      have tn_62 : n_62.toInt ≤ z3.toInt ∧ n_62.toInt ≤ 8 ∧ (n_62.toInt = z3.toInt ∨ n_62.toInt = 8) := pp_min en_62
      refine lv_istore (lv' := [(5, .int n_62), (3, .long r_61), (2, .ref p3), (0, .ref h0), (1, .int 3)]) hx hb dX8_read_49 hl (by decide) rfl (fun ls hl => ?_)
      refine lv_iconst (v := 0) hx hb dX8_read_51 (by decide) ?_
      refine lv_istore (lv' := [(6, .int 0), (5, .int n_62), (3, .long r_61), (2, .ref p3), (0, .ref h0), (1, .int 3)]) hx hb dX8_read_52 hl (by decide) rfl (fun ls hl => ?_)
      refine pp_loop (ι := Int32) (fun v6_54 => (n_62.toInt - v6_54.toInt).toNat) (fun v6_54 H locs ls => (0 ≤ v6_54.toInt) ∧ va_P (dC, dI) vwCl [(h0, .inr (6, [.ref ah, v1, v2, v3, v4, .ref ph, .ref t0, v7])), (t0, .inl (tc, 7, .inl tf)), (ph, .inl (pc, 4, .inr (.inr (.inr (.inr pf))))), (p0, .inr (0, [.int b0, .int z0, .ref n0])), (n0, .inl (nc0, 40, .inr (.inl g0))), (p1, .inr (0, [.int b1, .int z1, .ref n1])), (n1, .inl (nc1, 40, .inr (.inl g1))), (p2, .inr (0, [.int b2, .int z2, .ref n2])), (n2, .inl (nc2, 40, .inr (.inl g2))), (p3, .inr (0, [.int b3, .int z3, .ref n3])), (n3, .inl (nc3, 40, .inr (.inl g3))), (ah, .inr (4, [.int sh, .ref q1, .ref q2, .int tn, .ref q3, .ref q4, w6, w7, w8])), (q1, .inl (c1, 9, .inl f1)), (q2, .inl (c2, 9, .inl f2)), (q3, .inl (c3, 4, .inl f3)), (q4, .inl (c4, 4, .inl f4))] H ∧ va_D A [(h0, .inr (6, [.ref ah, v1, v2, v3, v4, .ref ph, .ref t0, v7])), (t0, .inl (tc, 7, .inl tf)), (ph, .inl (pc, 4, .inr (.inr (.inr (.inr pf))))), (p0, .inr (0, [.int b0, .int z0, .ref n0])), (n0, .inl (nc0, 40, .inr (.inl g0))), (p1, .inr (0, [.int b1, .int z1, .ref n1])), (n1, .inl (nc1, 40, .inr (.inl g1))), (p2, .inr (0, [.int b2, .int z2, .ref n2])), (n2, .inl (nc2, 40, .inr (.inl g2))), (p3, .inr (0, [.int b3, .int z3, .ref n3])), (n3, .inl (nc3, 40, .inr (.inl g3))), (ah, .inr (4, [.int sh, .ref q1, .ref q2, .int tn, .ref q3, .ref q4, w6, w7, w8])), (q1, .inl (c1, 9, .inl f1)), (q2, .inl (c2, 9, .inl f2)), (q3, .inl (c3, 4, .inl f3)), (q4, .inl (c4, 4, .inl f4))] ∧ va_S A s.heap H locs ∧ lv_has ls 7 [(6, .int v6_54), (5, .int n_62), (3, .long r_61), (2, .ref p3), (0, .ref h0), (1, .int 3)]) ?_ 0 _ _ _ ⟨(by first | omega | decide | (simp only [fa_lt, fa_le, fa_eq, and_true, true_and, and_false, false_and, not_true_eq_false, not_false_eq_true, li_0, li_1, li_2, li_3, li_4, li_5, li_6, li_7, li_8, li_9, li_10, li_12, li_15, li_16, li_20, li_30, li_34, li_38, li_40, li_63, li_64, li_65, li_78, li_120, li_1000, li_4000, li_10000, li_11077, li_255, li_65535, li_m1, li_m2, li_m1000000001, li_m1000000002, li_m1000000003, li_m1000000004, li_m1000000005, li_m1000000006, li_m1000000007, or_true, true_or, or_false, false_or, implies_true, true_implies, false_implies] <;> omega)), hP.sub [0, 1, 2, 3, 4, 5, 6, 7, 8, 9, 10, 11, 12, 13, 14, 15] rfl, hD.sub [0, 1, 2, 3, 4, 5, 6, 7, 8, 9, 10, 11, 12, 13, 14, 15] (by decide) rfl, hS, lv_sub hl [0, 1, 2, 3, 4, 5] rfl⟩
      intro k_63 ihk_63 u H locs ls hm hI
      obtain ⟨v6_54, rfl⟩ : ∃ z, z = u := ⟨_, rfl⟩
      obtain ⟨jk_63_0, hP, hD, hS, hl⟩ := hI
      have hmk_63 : (n_62.toInt - v6_54.toInt).toNat < k_63 + 1 := hm
      clear hm
      have jk_63_0 : 0 ≤ v6_54.toInt := jk_63_0
      have hl : lv_has ls 7 [(6, .int v6_54), (5, .int n_62), (3, .long r_61), (2, .ref p3), (0, .ref h0), (1, .int 3)] := hl
      have hP : va_P (dC, dI) vwCl [(h0, .inr (6, [.ref ah, v1, v2, v3, v4, .ref ph, .ref t0, v7])), (t0, .inl (tc, 7, .inl tf)), (ph, .inl (pc, 4, .inr (.inr (.inr (.inr pf))))), (p0, .inr (0, [.int b0, .int z0, .ref n0])), (n0, .inl (nc0, 40, .inr (.inl g0))), (p1, .inr (0, [.int b1, .int z1, .ref n1])), (n1, .inl (nc1, 40, .inr (.inl g1))), (p2, .inr (0, [.int b2, .int z2, .ref n2])), (n2, .inl (nc2, 40, .inr (.inl g2))), (p3, .inr (0, [.int b3, .int z3, .ref n3])), (n3, .inl (nc3, 40, .inr (.inl g3))), (ah, .inr (4, [.int sh, .ref q1, .ref q2, .int tn, .ref q3, .ref q4, w6, w7, w8])), (q1, .inl (c1, 9, .inl f1)), (q2, .inl (c2, 9, .inl f2)), (q3, .inl (c3, 4, .inl f3)), (q4, .inl (c4, 4, .inl f4))] H := hP
      have hD : va_D A [(h0, .inr (6, [.ref ah, v1, v2, v3, v4, .ref ph, .ref t0, v7])), (t0, .inl (tc, 7, .inl tf)), (ph, .inl (pc, 4, .inr (.inr (.inr (.inr pf))))), (p0, .inr (0, [.int b0, .int z0, .ref n0])), (n0, .inl (nc0, 40, .inr (.inl g0))), (p1, .inr (0, [.int b1, .int z1, .ref n1])), (n1, .inl (nc1, 40, .inr (.inl g1))), (p2, .inr (0, [.int b2, .int z2, .ref n2])), (n2, .inl (nc2, 40, .inr (.inl g2))), (p3, .inr (0, [.int b3, .int z3, .ref n3])), (n3, .inl (nc3, 40, .inr (.inl g3))), (ah, .inr (4, [.int sh, .ref q1, .ref q2, .int tn, .ref q3, .ref q4, w6, w7, w8])), (q1, .inl (c1, 9, .inl f1)), (q2, .inl (c2, 9, .inl f2)), (q3, .inl (c3, 4, .inl f3)), (q4, .inl (c4, 4, .inl f4))] := hD
      refine lv_iload hx hb dX8_read_54 (lv_at hl 0 rfl) ?_
      refine lv_iload hx hb dX8_read_56 (lv_at hl 1 rfl) ?_
      have rc_64_x := pp_rng v6_54
      have rc_64_y := pp_rng n_62
      refine lv_icmp_ge (tgt := 94) hx hb dX8_read_58 (by decide) (fun c_64 => ?_) (fun c_64 => ?_)
      · skip
        have tc_64 : n_62.toInt ≤ v6_54.toInt := (fa_le _ _).mp c_64
        refine lv_iconst (v := 0) hx hb dX8_read_94 (by decide) ?_
        have hP9 := hP.sub (ws' := [(h0, .inr (6, [.ref ah, v1, v2, v3, v4, .ref ph, .ref t0, v7])), (t0, .inl (tc, 7, .inl tf)), (ph, .inl (pc, 4, .inr (.inr (.inr (.inr pf))))), (p0, .inr (0, [.int b0, .int z0, .ref n0])), (n0, .inl (nc0, 40, .inr (.inl g0))), (p1, .inr (0, [.int b1, .int z1, .ref n1])), (n1, .inl (nc1, 40, .inr (.inl g1))), (p2, .inr (0, [.int b2, .int z2, .ref n2])), (n2, .inl (nc2, 40, .inr (.inl g2))), (p3, .inr (0, [.int b3, .int z3, .ref n3])), (n3, .inl (nc3, 40, .inr (.inl g3))), (ah, .inr (4, [.int sh, .ref q1, .ref q2, .int tn, .ref q3, .ref q4, w6, w7, w8])), (q1, .inl (c1, 9, .inl f1)), (q2, .inl (c2, 9, .inl f2)), (q3, .inl (c3, 4, .inl f3)), (q4, .inl (c4, 4, .inl f4))]) [0, 1, 2, 3, 4, 5, 6, 7, 8, 9, 10, 11, 12, 13, 14, 15] rfl
        have hD9 := hD.sub (ws' := [(h0, .inr (6, [.ref ah, v1, v2, v3, v4, .ref ph, .ref t0, v7])), (t0, .inl (tc, 7, .inl tf)), (ph, .inl (pc, 4, .inr (.inr (.inr (.inr pf))))), (p0, .inr (0, [.int b0, .int z0, .ref n0])), (n0, .inl (nc0, 40, .inr (.inl g0))), (p1, .inr (0, [.int b1, .int z1, .ref n1])), (n1, .inl (nc1, 40, .inr (.inl g1))), (p2, .inr (0, [.int b2, .int z2, .ref n2])), (n2, .inl (nc2, 40, .inr (.inl g2))), (p3, .inr (0, [.int b3, .int z3, .ref n3])), (n3, .inl (nc3, 40, .inr (.inl g3))), (ah, .inr (4, [.int sh, .ref q1, .ref q2, .int tn, .ref q3, .ref q4, w6, w7, w8])), (q1, .inl (c1, 9, .inl f1)), (q2, .inl (c2, 9, .inl f2)), (q3, .inl (c3, 4, .inl f3)), (q4, .inl (c4, 4, .inl f4))]) [0, 1, 2, 3, 4, 5, 6, 7, 8, 9, 10, 11, 12, 13, 14, 15] (by decide) rfl
        have hK9 := hK.sub (tys' := [(tc, .int), (pc, .object "LampShapes$Paper"), (nc0, .long), (nc1, .long), (nc2, .long), (nc3, .long), (c1, .int), (c2, .int), (c3, .int), (c4, .int)]) [0, 1, 2, 3, 4, 5, 6, 7, 8, 9] rfl
        exact W.iret (v := (0 : Int32)) hx hb hr (fun t ht hW => ⟨⟨(0 : Int32), (), rfl, trivial, tf, by rw [ht]; exact hP9, va_K.moved hW.alike hK9, hD9⟩, hS.F ht⟩) hS.2.2 dX8_read_95
      · skip
        have tc_64 : ¬ n_62.toInt ≤ v6_54.toInt := fun h => c_64 ((fa_le _ _).mpr h)
        refine lv_aload_n hx hb dX8_read_61 rfl (lv_at hl 3 rfl) ?_
        refine va_getN (D := (dC, dI)) (ci := 0) (v := .ref n3) (C := RX2) (T := TX2) (N := 3) hx hb hts inX2 hown hK hP 9 rfl rfl 2 (by decide) (ev_nest hev 23 rfl) (fun _ h9 => h9) rfl dX8_read_62 ?_
        refine lv_iload hx hb dX8_read_65 (lv_at hl 0 rfl) ?_
        refine va_lald hx hb hK hP 10 5 rfl rfl (vp_in_iff.mpr ⟨by omega, by omega⟩) dX8_read_67 ?_
        refine lv_topl (fun n_65 en_65 => ?_)
        clear en_65
        refine lv_ldc2 hx hb hown (hts _ (List.mem_of_getElem? (i := 86) rfl)) dX8_read_68 ?_
        refine lv_land hx hb dX8_read_71 ?_
        refine lv_topl (fun n_66 en_66 => ?_)
        clear en_66
        refine lv_lload_n hx hb dX8_read_72 rfl (lv_at hl 2 rfl) ?_
        refine lv_iload hx hb dX8_read_73 (lv_at hl 0 rfl) ?_
        have hPc := hP.sub (ws' := []) [] rfl
        have hKc := hK.sub (tys' := []) [] rfl
        refine vp_callSi (W.runS (As := [.long r_61, .int v6_54]) (rest := [.long n_66]) ⟨hx, hb, hml, hown, hts⟩ (l_rowOf l dC dI ad r_61 v6_54 ) (va_cwS 2 hts g_x_read_l_rowOf_291 rfl rfl rfl (by decide +kernel) ⟨(Nat.le_of_ble_eq_true rfl), (Nat.le_of_ble_eq_true rfl)⟩) ⟨preS_blind, fun U hU hW => ⟨rfl, preS_at hU hW hPc hKc hev⟩⟩ rfl rfl hl.1 rfl (lv_room (Nat.le_of_ble_eq_true rfl)) dX8_read_75 ⟨(Nat.le_of_ble_eq_true rfl), (Nat.le_of_ble_eq_true rfl)⟩) (fun r_67 hw => ?_)
        obtain ⟨n_68, en_68⟩ : ∃ z : Int64, z = r_67.toInt64 := ⟨_, rfl⟩
        refine lv_i2l (v := n_68) hx hb dX8_read_78 en_68.symm ?_
        clear en_68
        refine W.lcmp hx hb dX8_read_79 ?_
        refine lv_topi (fun n_69 en_69 => ?_)
        refine lv_if_eq (tgt := 88) hx hb dX8_read_80 (by decide) (fun c_70 => ?_) (fun c_70 => ?_)
        · skip
          have tc_70 : n_69.toInt = 0 := (fa_eq _ _).mp c_70
          obtain ⟨n_71, en_71⟩ : ∃ y : Int32, y = v6_54 + 1 := ⟨_, rfl⟩
          have tn_71 : n_71.toInt = v6_54.toInt + 1 := pp_add en_71 rfl rfl (by omega) (by omega)
          refine lv_iinc (v := n_71) (lv' := [(6, .int n_71), (5, .int n_62), (3, .long r_61), (2, .ref p3), (0, .ref h0), (1, .int 3)]) hx hb dX8_read_88 hl (k := 0) rfl (by rw [en_71]; rfl) (by decide) rfl (fun ls hl => ?_)
          clear en_71
          refine lv_goto (tgt := 54) hx hb dX8_read_91 (by decide) ?_
          exact ihk_63 n_71 _ _ _ (by show (n_62.toInt - n_71.toInt).toNat < k_63; omega) ⟨(by first | omega | decide | (simp only [fa_lt, fa_le, fa_eq, and_true, true_and, and_false, false_and, not_true_eq_false, not_false_eq_true, li_0, li_1, li_2, li_3, li_4, li_5, li_6, li_7, li_8, li_9, li_10, li_12, li_15, li_16, li_20, li_30, li_34, li_38, li_40, li_63, li_64, li_65, li_78, li_120, li_1000, li_4000, li_10000, li_11077, li_255, li_65535, li_m1, li_m2, li_m1000000001, li_m1000000002, li_m1000000003, li_m1000000004, li_m1000000005, li_m1000000006, li_m1000000007, or_true, true_or, or_false, false_or, implies_true, true_implies, false_implies] <;> omega)), hP.sub [0, 1, 2, 3, 4, 5, 6, 7, 8, 9, 10, 11, 12, 13, 14, 15] rfl, hD.sub [0, 1, 2, 3, 4, 5, 6, 7, 8, 9, 10, 11, 12, 13, 14, 15] (by decide) rfl, hS, lv_sub hl [0, 1, 2, 3, 4, 5] rfl⟩
        · skip
          have tc_70 : ¬ n_69.toInt = 0 := fun h => c_70 ((fa_eq _ _).mpr h)
          have zc_70 : ¬ n_66 = n_68 := pp_lc_ne en_69 c_70
          refine lv_iconst (v := 1) hx hb dX8_read_83 (by decide) ?_
          refine lv_iload hx hb dX8_read_84 (lv_at hl 0 rfl) ?_
          refine lv_iadd hx hb dX8_read_86 ?_
          refine lv_topi (fun n_72 en_72 => ?_)
          have tn_72 : n_72.toInt = 1 + v6_54.toInt := pp_add en_72 rfl rfl (by omega) (by omega)
          clear en_72
          have hP9 := hP.sub (ws' := [(h0, .inr (6, [.ref ah, v1, v2, v3, v4, .ref ph, .ref t0, v7])), (t0, .inl (tc, 7, .inl tf)), (ph, .inl (pc, 4, .inr (.inr (.inr (.inr pf))))), (p0, .inr (0, [.int b0, .int z0, .ref n0])), (n0, .inl (nc0, 40, .inr (.inl g0))), (p1, .inr (0, [.int b1, .int z1, .ref n1])), (n1, .inl (nc1, 40, .inr (.inl g1))), (p2, .inr (0, [.int b2, .int z2, .ref n2])), (n2, .inl (nc2, 40, .inr (.inl g2))), (p3, .inr (0, [.int b3, .int z3, .ref n3])), (n3, .inl (nc3, 40, .inr (.inl g3))), (ah, .inr (4, [.int sh, .ref q1, .ref q2, .int tn, .ref q3, .ref q4, w6, w7, w8])), (q1, .inl (c1, 9, .inl f1)), (q2, .inl (c2, 9, .inl f2)), (q3, .inl (c3, 4, .inl f3)), (q4, .inl (c4, 4, .inl f4))]) [0, 1, 2, 3, 4, 5, 6, 7, 8, 9, 10, 11, 12, 13, 14, 15] rfl
          have hD9 := hD.sub (ws' := [(h0, .inr (6, [.ref ah, v1, v2, v3, v4, .ref ph, .ref t0, v7])), (t0, .inl (tc, 7, .inl tf)), (ph, .inl (pc, 4, .inr (.inr (.inr (.inr pf))))), (p0, .inr (0, [.int b0, .int z0, .ref n0])), (n0, .inl (nc0, 40, .inr (.inl g0))), (p1, .inr (0, [.int b1, .int z1, .ref n1])), (n1, .inl (nc1, 40, .inr (.inl g1))), (p2, .inr (0, [.int b2, .int z2, .ref n2])), (n2, .inl (nc2, 40, .inr (.inl g2))), (p3, .inr (0, [.int b3, .int z3, .ref n3])), (n3, .inl (nc3, 40, .inr (.inl g3))), (ah, .inr (4, [.int sh, .ref q1, .ref q2, .int tn, .ref q3, .ref q4, w6, w7, w8])), (q1, .inl (c1, 9, .inl f1)), (q2, .inl (c2, 9, .inl f2)), (q3, .inl (c3, 4, .inl f3)), (q4, .inl (c4, 4, .inl f4))]) [0, 1, 2, 3, 4, 5, 6, 7, 8, 9, 10, 11, 12, 13, 14, 15] (by decide) rfl
          have hK9 := hK.sub (tys' := [(tc, .int), (pc, .object "LampShapes$Paper"), (nc0, .long), (nc1, .long), (nc2, .long), (nc3, .long), (c1, .int), (c2, .int), (c3, .int), (c4, .int)]) [0, 1, 2, 3, 4, 5, 6, 7, 8, 9] rfl
          exact W.iret (v := n_72) hx hb hr (fun t ht hW => ⟨⟨n_72, (), rfl, trivial, tf, by rw [ht]; exact hP9, va_K.moved hW.alike hK9, hD9⟩, hS.F ht⟩) hS.2.2 dX8_read_87
    · skip
      have tc_60 : ¬ r_59.toInt = 0 := fun h => c_60 ((fa_eq _ _).mpr h)
      refine lv_aload_n hx hb dX8_read_24 rfl (lv_at hl 1 rfl) ?_
      refine lv_ldcw hx hb hown (hts _ (List.mem_of_getElem? (i := 91) rfl)) dX8_read_25 ?_
      have hPc := hP.sub (ws' := [(h0, .inr (6, [.ref ah, v1, v2, v3, v4, .ref ph, .ref t0, v7])), (t0, .inl (tc, 7, .inl tf))]) [0, 1] rfl
      have hKc := hK.sub (tys' := [(tc, .int)]) [0] rfl
      have hDc := hD.sub (ws' := [(h0, .inr (6, [.ref ah, v1, v2, v3, v4, .ref ph, .ref t0, v7])), (t0, .inl (tc, 7, .inl tf))]) [0, 1] (by decide) rfl
      have hFc := va_free (wc := [(h0, .inr (6, [.ref ah, v1, v2, v3, v4, .ref ph, .ref t0, v7])), (t0, .inl (tc, 7, .inl tf))]) hD hS hA [0, 1] rfl
      refine va_calli (va_runV (As := [.int (-1000000006)]) (rest := []) ⟨hx, hb, hml, hown, hts⟩ (f_missing l dC dI ad h0 (.ref ah) v1 v2 v3 v4 (.ref ph) t0 v7 tc tf s.heap.size ) (cwV 1 hts g_x_read_f_missing_63 rfl rfl rfl (by decide +kernel) ⟨(Nat.le_of_ble_eq_true rfl), (Nat.le_of_ble_eq_true rfl)⟩) ⟨preM_blind, va_recv hKc hPc (ci := 6) (q0 := 0) rfl rfl, fun U hU hW => ⟨rfl, preM_at hU hW hPc hKc hDc hev⟩⟩ rfl rfl hl.1 rfl (lv_room (Nat.le_of_ble_eq_true rfl)) dX8_read_28 ⟨(Nat.le_of_ble_eq_true rfl), (Nat.le_of_ble_eq_true rfl)⟩) hS (fun q _ h => hFc q h) hFc (fun r_73 u t H1 locs ht hvm hw hB hz1 hk1 hS => ?_)
      obtain ⟨tg_74, hP1, hK1, hD1⟩ := hB
      rw [ht] at hP1
      have hK1 := va_K.moved hvm.symm hK1
      obtain ⟨hP, hD⟩ := va_join (wr := [(ph, .inl (pc, 4, .inr (.inr (.inr (.inr pf))))), (p0, .inr (0, [.int b0, .int z0, .ref n0])), (n0, .inl (nc0, 40, .inr (.inl g0))), (p1, .inr (0, [.int b1, .int z1, .ref n1])), (n1, .inl (nc1, 40, .inr (.inl g1))), (p2, .inr (0, [.int b2, .int z2, .ref n2])), (n2, .inl (nc2, 40, .inr (.inl g2))), (p3, .inr (0, [.int b3, .int z3, .ref n3])), (n3, .inl (nc3, 40, .inr (.inl g3))), (ah, .inr (4, [.int sh, .ref q1, .ref q2, .int tn, .ref q3, .ref q4, w6, w7, w8])), (q1, .inl (c1, 9, .inl f1)), (q2, .inl (c2, 9, .inl f2)), (q3, .inl (c3, 4, .inl f3)), (q4, .inl (c4, 4, .inl f4))]) (w1 := [(h0, .inr (6, [.ref ah, v1, v2, v3, v4, .ref ph, .ref t0, v7])), (t0, .inl (tc, 7, .inl tg_74))]) hP hD [0, 1] [2, 3, 4, 5, 6, 7, 8, 9, 10, 11, 12, 13, 14, 15] rfl rfl (by decide) (by decide) hk1 hFc hP1 hD1
      generalize H1 = H at hP hS ⊢
      have hP : va_P (dC, dI) vwCl [(ph, .inl (pc, 4, .inr (.inr (.inr (.inr pf))))), (p0, .inr (0, [.int b0, .int z0, .ref n0])), (n0, .inl (nc0, 40, .inr (.inl g0))), (p1, .inr (0, [.int b1, .int z1, .ref n1])), (n1, .inl (nc1, 40, .inr (.inl g1))), (p2, .inr (0, [.int b2, .int z2, .ref n2])), (n2, .inl (nc2, 40, .inr (.inl g2))), (p3, .inr (0, [.int b3, .int z3, .ref n3])), (n3, .inl (nc3, 40, .inr (.inl g3))), (ah, .inr (4, [.int sh, .ref q1, .ref q2, .int tn, .ref q3, .ref q4, w6, w7, w8])), (q1, .inl (c1, 9, .inl f1)), (q2, .inl (c2, 9, .inl f2)), (q3, .inl (c3, 4, .inl f3)), (q4, .inl (c4, 4, .inl f4)), (h0, .inr (6, [.ref ah, v1, v2, v3, v4, .ref ph, .ref t0, v7])), (t0, .inl (tc, 7, .inl tg_74))] H := hP
      have hD : va_D A [(ph, .inl (pc, 4, .inr (.inr (.inr (.inr pf))))), (p0, .inr (0, [.int b0, .int z0, .ref n0])), (n0, .inl (nc0, 40, .inr (.inl g0))), (p1, .inr (0, [.int b1, .int z1, .ref n1])), (n1, .inl (nc1, 40, .inr (.inl g1))), (p2, .inr (0, [.int b2, .int z2, .ref n2])), (n2, .inl (nc2, 40, .inr (.inl g2))), (p3, .inr (0, [.int b3, .int z3, .ref n3])), (n3, .inl (nc3, 40, .inr (.inl g3))), (ah, .inr (4, [.int sh, .ref q1, .ref q2, .int tn, .ref q3, .ref q4, w6, w7, w8])), (q1, .inl (c1, 9, .inl f1)), (q2, .inl (c2, 9, .inl f2)), (q3, .inl (c3, 4, .inl f3)), (q4, .inl (c4, 4, .inl f4)), (h0, .inr (6, [.ref ah, v1, v2, v3, v4, .ref ph, .ref t0, v7])), (t0, .inl (tc, 7, .inl tg_74))] := hD
      subst hw
      have hP9 := hP.sub (ws' := [(h0, .inr (6, [.ref ah, v1, v2, v3, v4, .ref ph, .ref t0, v7])), (t0, .inl (tc, 7, .inl tg_74)), (ph, .inl (pc, 4, .inr (.inr (.inr (.inr pf))))), (p0, .inr (0, [.int b0, .int z0, .ref n0])), (n0, .inl (nc0, 40, .inr (.inl g0))), (p1, .inr (0, [.int b1, .int z1, .ref n1])), (n1, .inl (nc1, 40, .inr (.inl g1))), (p2, .inr (0, [.int b2, .int z2, .ref n2])), (n2, .inl (nc2, 40, .inr (.inl g2))), (p3, .inr (0, [.int b3, .int z3, .ref n3])), (n3, .inl (nc3, 40, .inr (.inl g3))), (ah, .inr (4, [.int sh, .ref q1, .ref q2, .int tn, .ref q3, .ref q4, w6, w7, w8])), (q1, .inl (c1, 9, .inl f1)), (q2, .inl (c2, 9, .inl f2)), (q3, .inl (c3, 4, .inl f3)), (q4, .inl (c4, 4, .inl f4))]) [14, 15, 0, 1, 2, 3, 4, 5, 6, 7, 8, 9, 10, 11, 12, 13] rfl
      have hD9 := hD.sub (ws' := [(h0, .inr (6, [.ref ah, v1, v2, v3, v4, .ref ph, .ref t0, v7])), (t0, .inl (tc, 7, .inl tg_74)), (ph, .inl (pc, 4, .inr (.inr (.inr (.inr pf))))), (p0, .inr (0, [.int b0, .int z0, .ref n0])), (n0, .inl (nc0, 40, .inr (.inl g0))), (p1, .inr (0, [.int b1, .int z1, .ref n1])), (n1, .inl (nc1, 40, .inr (.inl g1))), (p2, .inr (0, [.int b2, .int z2, .ref n2])), (n2, .inl (nc2, 40, .inr (.inl g2))), (p3, .inr (0, [.int b3, .int z3, .ref n3])), (n3, .inl (nc3, 40, .inr (.inl g3))), (ah, .inr (4, [.int sh, .ref q1, .ref q2, .int tn, .ref q3, .ref q4, w6, w7, w8])), (q1, .inl (c1, 9, .inl f1)), (q2, .inl (c2, 9, .inl f2)), (q3, .inl (c3, 4, .inl f3)), (q4, .inl (c4, 4, .inl f4))]) [14, 15, 0, 1, 2, 3, 4, 5, 6, 7, 8, 9, 10, 11, 12, 13] (by decide) rfl
      have hK9 := hK.sub (tys' := [(tc, .int), (pc, .object "LampShapes$Paper"), (nc0, .long), (nc1, .long), (nc2, .long), (nc3, .long), (c1, .int), (c2, .int), (c3, .int), (c4, .int)]) [0, 1, 2, 3, 4, 5, 6, 7, 8, 9] rfl
      exact W.iret (v := ((-1000000006) : Int32)) hx hb hr (fun t ht hW => ⟨⟨((-1000000006) : Int32), (), rfl, trivial, tg_74, by rw [ht]; exact hP9, va_K.moved hW.alike hK9, hD9⟩, hS.F ht⟩) hS.2.2 dX8_read_31

