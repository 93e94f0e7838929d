theorem dX8_copy_0 : decode cX8_copy 0 = .ok (.aload_n 0, 1) := by decide +kernel
theorem dX8_copy_1 : decode cX8_copy 1 = .ok (.iload_n 1, 1) := by decide +kernel
theorem dX8_copy_2 : decode cX8_copy 2 = .ok (.invokevirtual 256, 3) := by decide +kernel
theorem dX8_copy_5 : decode cX8_copy 5 = .ok (.astore 6, 2) := by decide +kernel
theorem dX8_copy_7 : decode cX8_copy 7 = .ok (.aload_n 0, 1) := by decide +kernel
theorem dX8_copy_8 : decode cX8_copy 8 = .ok (.iload_n 3, 1) := by decide +kernel
theorem dX8_copy_9 : decode cX8_copy 9 = .ok (.invokevirtual 256, 3) := by decide +kernel
theorem dX8_copy_12 : decode cX8_copy 12 = .ok (.astore 7, 2) := by decide +kernel
theorem dX8_copy_14 : decode cX8_copy 14 = .ok (.aload 6, 2) := by decide +kernel
theorem dX8_copy_16 : decode cX8_copy 16 = .ok (.ifnull 8, 3) := by decide +kernel
theorem dX8_copy_19 : decode cX8_copy 19 = .ok (.aload 7, 2) := by decide +kernel
theorem dX8_copy_21 : decode cX8_copy 21 = .ok (.ifnonnull 10, 3) := by decide +kernel
theorem dX8_copy_24 : decode cX8_copy 24 = .ok (.aload_n 0, 1) := by decide +kernel
theorem dX8_copy_25 : decode cX8_copy 25 = .ok (.ldc 62, 2) := by decide +kernel
theorem dX8_copy_27 : decode cX8_copy 27 = .ok (.invokevirtual 63, 3) := by decide +kernel
theorem dX8_copy_30 : decode cX8_copy 30 = .ok (.ireturn, 1) := by decide +kernel
theorem dX8_copy_31 : decode cX8_copy 31 = .ok (.aload 6, 2) := by decide +kernel
theorem dX8_copy_33 : decode cX8_copy 33 = .ok (.invokevirtual 268, 3) := by decide +kernel
theorem dX8_copy_36 : decode cX8_copy 36 = .ok (.ifCond .ne 11, 3) := by decide +kernel
theorem dX8_copy_39 : decode cX8_copy 39 = .ok (.aload 7, 2) := by decide +kernel
theorem dX8_copy_41 : decode cX8_copy 41 = .ok (.invokevirtual 268, 3) := by decide +kernel
theorem dX8_copy_44 : decode cX8_copy 44 = .ok (.ifCond .eq 11, 3) := by decide +kernel
theorem dX8_copy_47 : decode cX8_copy 47 = .ok (.aload_n 0, 1) := by decide +kernel
theorem dX8_copy_48 : decode cX8_copy 48 = .ok (.ldc_w 271, 3) := by decide +kernel
theorem dX8_copy_51 : decode cX8_copy 51 = .ok (.invokevirtual 63, 3) := by decide +kernel
theorem dX8_copy_54 : decode cX8_copy 54 = .ok (.ireturn, 1) := by decide +kernel
theorem dX8_copy_55 : decode cX8_copy 55 = .ok (.aload 6, 2) := by decide +kernel
theorem dX8_copy_57 : decode cX8_copy 57 = .ok (.getfield 279, 3) := by decide +kernel
theorem dX8_copy_60 : decode cX8_copy 60 = .ok (.aload 7, 2) := by decide +kernel
theorem dX8_copy_62 : decode cX8_copy 62 = .ok (.getfield 279, 3) := by decide +kernel
theorem dX8_copy_65 : decode cX8_copy 65 = .ok (.if_icmp .eq 10, 3) := by decide +kernel
theorem dX8_copy_68 : decode cX8_copy 68 = .ok (.aload_n 0, 1) := by decide +kernel
theorem dX8_copy_69 : decode cX8_copy 69 = .ok (.ldc 101, 2) := by decide +kernel
theorem dX8_copy_71 : decode cX8_copy 71 = .ok (.invokevirtual 63, 3) := by decide +kernel
theorem dX8_copy_74 : decode cX8_copy 74 = .ok (.ireturn, 1) := by decide +kernel
theorem dX8_copy_75 : decode cX8_copy 75 = .ok (.aload 6, 2) := by decide +kernel
theorem dX8_copy_77 : decode cX8_copy 77 = .ok (.iload_n 2, 1) := by decide +kernel
theorem dX8_copy_78 : decode cX8_copy 78 = .ok (.iload 5, 2) := by decide +kernel
theorem dX8_copy_80 : decode cX8_copy 80 = .ok (.invokevirtual 282, 3) := by decide +kernel
theorem dX8_copy_83 : decode cX8_copy 83 = .ok (.ifCond .eq 15, 3) := by decide +kernel
theorem dX8_copy_86 : decode cX8_copy 86 = .ok (.aload 7, 2) := by decide +kernel
theorem dX8_copy_88 : decode cX8_copy 88 = .ok (.iload 4, 2) := by decide +kernel
theorem dX8_copy_90 : decode cX8_copy 90 = .ok (.iload 5, 2) := by decide +kernel
theorem dX8_copy_92 : decode cX8_copy 92 = .ok (.invokevirtual 282, 3) := by decide +kernel
theorem dX8_copy_95 : decode cX8_copy 95 = .ok (.ifCond .ne 10, 3) := by decide +kernel
theorem dX8_copy_98 : decode cX8_copy 98 = .ok (.aload_n 0, 1) := by decide +kernel
theorem dX8_copy_99 : decode cX8_copy 99 = .ok (.ldc 62, 2) := by decide +kernel
theorem dX8_copy_101 : decode cX8_copy 101 = .ok (.invokevirtual 63, 3) := by decide +kernel
theorem dX8_copy_104 : decode cX8_copy 104 = .ok (.ireturn, 1) := by decide +kernel
theorem dX8_copy_105 : decode cX8_copy 105 = .ok (.aload 6, 2) := by decide +kernel
theorem dX8_copy_107 : decode cX8_copy 107 = .ok (.getfield 272, 3) := by decide +kernel
theorem dX8_copy_110 : decode cX8_copy 110 = .ok (.iload_n 2, 1) := by decide +kernel
theorem dX8_copy_111 : decode cX8_copy 111 = .ok (.aload 7, 2) := by decide +kernel
theorem dX8_copy_113 : decode cX8_copy 113 = .ok (.getfield 272, 3) := by decide +kernel
theorem dX8_copy_116 : decode cX8_copy 116 = .ok (.iload 4, 2) := by decide +kernel
theorem dX8_copy_118 : decode cX8_copy 118 = .ok (.iload 5, 2) := by decide +kernel
theorem dX8_copy_120 : decode cX8_copy 120 = .ok (.invokestatic 285, 3) := by decide +kernel
theorem dX8_copy_123 : decode cX8_copy 123 = .ok (.iload 5, 2) := by decide +kernel
theorem dX8_copy_125 : decode cX8_copy 125 = .ok (.ireturn, 1) := by decide +kernel
def w_x_copy : List Cond := .code yX8_copy cX8_copy 8 (some .int) :: (([.methodLink RX8 256 yX8_paperAt, .instanceMethod yX8_paperAt, .selects RX8 yX8_paperAt yX8_paperAt, .initialized RX8, .code yX8_paperAt cX8_paperAt 2 (some (.object "LampShapes$Paper")), .constant RX8 62 (-1000000001), .methodLink RX8 63 yX8_finding, .instanceMethod yX8_finding, .selects RX8 yX8_finding yX8_finding, .code yX8_finding cX8_finding 3 (some .int), .fieldLink RX8 46 "LampShapes" "told" "[I", .fieldLink RX8 42 "LampShapes" "papers" "[LLampShapes$Paper;", .methodLink RX8 268 yX2_isMissing, .instanceMethod yX2_isMissing, .selects RX2 yX2_isMissing yX2_isMissing, .initialized RX2, .code yX2_isMissing cX2_isMissing 1 (some .boolean), .fieldLink RX2 9 "LampShapes$Paper" "bits" "I", .constant RX8 271 (-1000000006), .methodLink RX8 282 yX2_hasPart, .instanceMethod yX2_hasPart, .selects RX2 yX2_hasPart yX2_hasPart, .code yX2_hasPart cX2_hasPart 3 (some .boolean), .fieldLink RX2 15 "LampShapes$Paper" "size" "I", .methodLink RX8 285 arraycopyName, .native arraycopyName, .static arraycopyName, .initialized "java/lang/System", .constant RX8 101 (-1000000003)] : List Cond) ++ wsX80 ++ wsX20)
set_option maxRecDepth 20000 in
theorem g_x_copy_c_paperAt_lt_256 : GoodIn w_x_copy (wsV RX8 256 RX8 yX8_paperAt w_c_paperAt_lt) := goodIn_r _ [1, 2, 3, 4, 5] rfl (by decide +kernel)
set_option maxRecDepth 20000 in
theorem g_x_copy_f_beyond_63 : GoodIn w_x_copy (wsV RX8 63 RX8 yX8_finding w_f_beyond) := goodIn_r _ [7, 8, 9, 4, 10, 6, 11, 30, 31, 32, 33, 34, 35, 36, 37] rfl (by decide +kernel)
set_option maxRecDepth 20000 in
theorem g_x_copy_c_paperAt_gt_256 : GoodIn w_x_copy (wsV RX8 256 RX8 yX8_paperAt w_c_paperAt_gt) := goodIn_r _ [1, 2, 3, 4, 5] rfl (by decide +kernel)
set_option maxRecDepth 20000 in
theorem g_x_copy_c_paperAt_0_256 : GoodIn w_x_copy (wsV RX8 256 RX8 yX8_paperAt w_c_paperAt_0) := goodIn_r _ [1, 2, 3, 4, 5, 12, 30, 31, 32, 33, 34, 35, 36, 37] rfl (by decide +kernel)
set_option maxRecDepth 20000 in
theorem g_x_copy_c_paperAt_1_256 : GoodIn w_x_copy (wsV RX8 256 RX8 yX8_paperAt w_c_paperAt_1) := goodIn_r _ [1, 2, 3, 4, 5, 12, 30, 31, 32, 33, 34, 35, 36, 37] rfl (by decide +kernel)
set_option maxRecDepth 20000 in
theorem g_x_copy_c_paperAt_2_256 : GoodIn w_x_copy (wsV RX8 256 RX8 yX8_paperAt w_c_paperAt_2) := goodIn_r _ [1, 2, 3, 4, 5, 12, 30, 31, 32, 33, 34, 35, 36, 37] rfl (by decide +kernel)
set_option maxRecDepth 20000 in
theorem g_x_copy_c_paperAt_3_256 : GoodIn w_x_copy (wsV RX8 256 RX8 yX8_paperAt w_c_paperAt_3) := goodIn_r _ [1, 2, 3, 4, 5, 12, 30, 31, 32, 33, 34, 35, 36, 37] rfl (by decide +kernel)
set_option maxRecDepth 20000 in
theorem g_x_copy_p_isMissing_268 : GoodIn w_x_copy (wsV RX8 268 RX2 yX2_isMissing w_p_isMissing) := goodIn_r _ [13, 14, 15, 16, 17, 18, 38, 39, 40] rfl (by decide +kernel)
set_option maxRecDepth 20000 in
theorem g_x_copy_f_missing_63 : GoodIn w_x_copy (wsV RX8 63 RX8 yX8_finding w_f_missing) := goodIn_r _ [7, 8, 9, 4, 10, 6, 11, 30, 31, 32, 33, 34, 35, 36, 37] rfl (by decide +kernel)
set_option maxRecDepth 20000 in
theorem g_x_copy_p_hasPart_282 : GoodIn w_x_copy (wsV RX8 282 RX2 yX2_hasPart w_p_hasPart) := goodIn_r _ [20, 21, 22, 16, 23, 24, 38, 39, 40] rfl (by decide +kernel)
set_option maxRecDepth 20000 in
theorem g_x_copy_f_kind_63 : GoodIn w_x_copy (wsV RX8 63 RX8 yX8_finding w_f_kind) := goodIn_r _ [7, 8, 9, 4, 10, 6, 11, 30, 31, 32, 33, 34, 35, 36, 37] rfl (by decide +kernel)
set_option maxHeartbeats 4000000 in
set_option maxRecDepth 100000 in
theorem x_copy (l : Launch) (dC : Nat → ClassId) (dI : Nat → Nat → Nat) (ad : Nat → Nat) (h0 : Nat) (sn : Int32) (i : Int32) (d : Int32) (j : Int32) (n : Int32) (v0 : Value) (v1 : Value) (v2 : Value) (v3 : Value) (v4 : Value) (ph : Nat) (t0 : Nat) (v7 : Value) (tc : ClassId) (tf : Nat → Int32) (pc : ClassId) (pf : Nat → Option Nat) (p0 : Nat) (b0 : Int32) (z0 : Int32) (n0 : Nat) (nc0 : ClassId) (g0 : Nat → Int64) (p1 : Nat) (b1 : Int32) (z1 : Int32) (n1 : Nat) (nc1 : ClassId) (g1 : Nat → Int64) (p2 : Nat) (b2 : Int32) (z2 : Int32) (n2 : Nat) (nc2 : ClassId) (g2 : Nat → Int64) (p3 : Nat) (b3 : Int32) (z3 : Int32) (n3 : Nat) (nc3 : ClassId) (g3 : Nat → Int64) (sz : Nat) (hp0 : pf 0 = (some p0)) (hp1 : pf 1 = (some p1)) (hp2 : pf 2 = (some p2)) (hp3 : pf 3 = (some p3)) (hz0 : 0 ≤ z0.toInt ∧ z0.toInt ≤ 40) (hz1 : 0 ≤ z1.toInt ∧ z1.toInt ≤ 40) (hz2 : 0 ≤ z2.toInt ∧ z2.toInt ≤ 40) (hz3 : 0 ≤ z3.toInt ∧ z3.toInt ≤ 40) : Met l yX8_copy w_x_copy ({ frames := 1, cells := 0, slots := 0, locals := 40 } : Room) (va_Pc [.ref h0, .int sn, .int i, .int d, .int j, .int n] (preM dC dI ad [(tc, .int), (pc, .object "LampShapes$Paper"), (nc0, .long), (nc1, .long), (nc2, .long), (nc3, .long)] [(h0, .inr (6, [v0, v1, v2, v3, v4, .ref ph, .ref t0, v7])), (t0, .inl (tc, 7, .inl tf)), (ph, .inl (pc, 4, .inr (.inr (.inr (.inr pf))))), (p0, .inr (0, [.int b0, .int z0, .ref n0])), (n0, .inl (nc0, 40, .inr (.inl g0))), (p1, .inr (0, [.int b1, .int z1, .ref n1])), (n1, .inl (nc1, 40, .inr (.inl g1))), (p2, .inr (0, [.int b2, .int z2, .ref n2])), (n2, .inl (nc2, 40, .inr (.inl g2))), (p3, .inr (0, [.int b3, .int z3, .ref n3])), (n3, .inl (nc3, 40, .inr (.inl g3)))] sz)) (va_Qi (fun (r : Int32) (_ : Unit) => True) (fun _ t => ∃ (tg : Nat → Int32), ∃ (g0y : Nat → Int64), ∃ (g1y : Nat → Int64), ∃ (g2y : Nat → Int64), ∃ (g3y : Nat → Int64), va_P (dC, dI) vwCl [(h0, .inr (6, [v0, v1, v2, v3, v4, .ref ph, .ref t0, v7])), (t0, .inl (tc, 7, .inl tg)), (ph, .inl (pc, 4, .inr (.inr (.inr (.inr pf))))), (p0, .inr (0, [.int b0, .int z0, .ref n0])), (n0, .inl (nc0, 40, .inr (.inl g0y))), (p1, .inr (0, [.int b1, .int z1, .ref n1])), (n1, .inl (nc1, 40, .inr (.inl g1y))), (p2, .inr (0, [.int b2, .int z2, .ref n2])), (n2, .inl (nc2, 40, .inr (.inl g2y))), (p3, .inr (0, [.int b3, .int z3, .ref n3])), (n3, .inl (nc3, 40, .inr (.inl g3y)))] t.heap ∧ va_K (dC, dI) vwCl [(tc, .int), (pc, .object "LampShapes$Paper"), (nc0, .long), (nc1, .long), (nc2, .long), (nc3, .long)] t ∧ va_D (va_A [(h0, .inr (6, [v0, v1, v2, v3, v4, .ref ph, .ref t0, v7])), (t0, .inl (tc, 7, .inl tf)), (ph, .inl (pc, 4, .inr (.inr (.inr (.inr pf))))), (p0, .inr (0, [.int b0, .int z0, .ref n0])), (n0, .inl (nc0, 40, .inr (.inl g0))), (p1, .inr (0, [.int b1, .int z1, .ref n1])), (n1, .inl (nc1, 40, .inr (.inl g1))), (p2, .inr (0, [.int b2, .int z2, .ref n2])), (n2, .inl (nc2, 40, .inr (.inl g2))), (p3, .inr (0, [.int b3, .int z3, .ref n3])), (n3, .inl (nc3, 40, .inr (.inl g3)))] sz) [(h0, .inr (6, [v0, v1, v2, v3, v4, .ref ph, .ref t0, v7])), (t0, .inl (tc, 7, .inl tg)), (ph, .inl (pc, 4, .inr (.inr (.inr (.inr pf))))), (p0, .inr (0, [.int b0, .int z0, .ref n0])), (n0, .inl (nc0, 40, .inr (.inl g0y))), (p1, .inr (0, [.int b1, .int z1, .ref n1])), (n1, .inl (nc1, 40, .inr (.inl g1y))), (p2, .inr (0, [.int b2, .int z2, .ref n2])), (n2, .inl (nc2, 40, .inr (.inl g2y))), (p3, .inr (0, [.int b3, .int z3, .ref n3])), (n3, .inl (nc3, 40, .inr (.inl g3y)))]) (va_A [(h0, .inr (6, [v0, v1, v2, v3, v4, .ref ph, .ref t0, v7])), (t0, .inl (tc, 7, .inl tf)), (ph, .inl (pc, 4, .inr (.inr (.inr (.inr pf))))), (p0, .inr (0, [.int b0, .int z0, .ref n0])), (n0, .inl (nc0, 40, .inr (.inl g0))), (p1, .inr (0, [.int b1, .int z1, .ref n1])), (n1, .inl (nc1, 40, .inr (.inl g1))), (p2, .inr (0, [.int b2, .int z2, .ref n2])), (n2, .inl (nc2, 40, .inr (.inl g2))), (p3, .inr (0, [.int b3, .int z3, .ref n3])), (n3, .inl (nc3, 40, .inr (.inl g3)))] sz)) 0 0 (va_A [(h0, .inr (6, [v0, v1, v2, v3, v4, .ref ph, .ref t0, v7])), (t0, .inl (tc, 7, .inl tf)), (ph, .inl (pc, 4, .inr (.inr (.inr (.inr pf))))), (p0, .inr (0, [.int b0, .int z0, .ref n0])), (n0, .inl (nc0, 40, .inr (.inl g0))), (p1, .inr (0, [.int b1, .int z1, .ref n1])), (n1, .inl (nc1, 40, .inr (.inl g1))), (p2, .inr (0, [.int b2, .int z2, .ref n2])), (n2, .inl (nc2, 40, .inr (.inl g2))), (p3, .inr (0, [.int b3, .int z3, .ref n3])), (n3, .inl (nc3, 40, .inr (.inl g3)))] sz) := by
  rcases pp_c_0_3 sn with hlt0 | hgt0 | rfl | rfl | rfl | rfl
  · skip
    rcases pp_c_0_3 d with hlt1 | hgt1 | rfl | rfl | rfl | rfl
    · skip
      refine Met.ofW (cc := cX8_copy) (maxL := 8) (ret := (some .int)) (by decide) rfl ?_
      intro p e s m args below meth c s₁ B hml hv
      obtain ⟨rfl, hsz, hP, hK, hD0, hev⟩ := hv
      have hx := B.exec
      have hb := B.bytes
      have hr := B.returns
      have hts := atoms_spec (ws := w_x_copy) B.pre
      have hown : s.vm.findClass RX8 = some m.cls := findClass_of_methodNamed B.named
      have hlocks := B.notSynchronized
      have inX8 : ∀ w ∈ wsX80, w ∈ w_x_copy := fun w h => List.mem_cons_of_mem _ (List.mem_append_left _ (List.mem_append_right _ h))
      have inX2 : ∀ w ∈ wsX20, w ∈ w_x_copy := fun w h => List.mem_cons_of_mem _ (List.mem_append_right _ h)
      subst hsz
      have hD := hD0.self (sz := s.heap.size)
      generalize hAe : va_A [(h0, .inr (6, [v0, v1, v2, v3, v4, .ref ph, .ref t0, v7])), (t0, .inl (tc, 7, .inl tf)), (ph, .inl (pc, 4, .inr (.inr (.inr (.inr pf))))), (p0, .inr (0, [.int b0, .int z0, .ref n0])), (n0, .inl (nc0, 40, .inr (.inl g0))), (p1, .inr (0, [.int b1, .int z1, .ref n1])), (n1, .inl (nc1, 40, .inr (.inl g1))), (p2, .inr (0, [.int b2, .int z2, .ref n2])), (n2, .inl (nc2, 40, .inr (.inl g2))), (p3, .inr (0, [.int b3, .int z3, .ref n3])), (n3, .inl (nc3, 40, .inr (.inl g3)))] s.heap.size = A at hD ⊢
      have hA : ∀ q : Nat, s.heap.size ≤ q → A q := fun q h => by rw [← hAe]; exact Or.inr h
      have hS : va_S A s.heap s.heap [] := va_S.rf
      have hP : va_P (dC, dI) vwCl [(h0, .inr (6, [v0, v1, v2, v3, v4, .ref ph, .ref t0, v7])), (t0, .inl (tc, 7, .inl tf)), (ph, .inl (pc, 4, .inr (.inr (.inr (.inr pf))))), (p0, .inr (0, [.int b0, .int z0, .ref n0])), (n0, .inl (nc0, 40, .inr (.inl g0))), (p1, .inr (0, [.int b1, .int z1, .ref n1])), (n1, .inl (nc1, 40, .inr (.inl g1))), (p2, .inr (0, [.int b2, .int z2, .ref n2])), (n2, .inl (nc2, 40, .inr (.inl g2))), (p3, .inr (0, [.int b3, .int z3, .ref n3])), (n3, .inl (nc3, 40, .inr (.inl g3)))] s.heap := hP
      have hl := lv_entry ([.ref h0, .int sn, .int i, .int d, .int j, .int n]) (n := 8) (Nat.le_of_ble_eq_true rfl)
      rw [lg_entry_eq]
      generalize (lg_sl ([.ref h0, .int sn, .int i, .int d, .int j, .int n]) ++ List.replicate (8 - (lg_sl ([.ref h0, .int sn, .int i, .int d, .int j, .int n])).length) Slot.unset).toArray = ls at hl ⊢
      have hl : lv_has ls 8 [(0, .ref h0), (1, .int sn), (2, .int i), (3, .int d), (4, .int j), (5, .int n)] := hl
      have thlt0 : sn.toInt < 0 := (fa_lt _ _).mp hlt0
      have thlt1 : d.toInt < 0 := (fa_lt _ _).mp hlt1
      refine lv_aload_n hx hb dX8_copy_0 rfl (lv_at hl 0 rfl) ?_
      refine lv_iload_n hx hb dX8_copy_1 rfl (lv_at hl 1 rfl) ?_
      have hPc := hP.sub (ws' := [(h0, .inr (6, [v0, v1, v2, v3, v4, .ref ph, .ref t0, v7]))]) [0] rfl
      have hKc := hK.sub (tys' := []) [] rfl
      refine va_csq (W.runV (As := [.int sn]) (rest := []) ⟨hx, hb, hml, hown, hts⟩ (c_paperAt_lt l dC dI ad h0 sn v0 v1 v2 v3 v4 (.ref ph) (.ref t0) v7 hlt0) (cwV 1 hts g_x_copy_c_paperAt_lt_256 rfl rfl rfl (by decide +kernel) ⟨(Nat.le_of_ble_eq_true rfl), (Nat.le_of_ble_eq_true rfl)⟩) ⟨preS_blind, va_recv hKc hPc (ci := 6) (q0 := 0) rfl rfl, fun U hU hW => ⟨rfl, preS_at hU hW hPc hKc hev⟩⟩ rfl rfl hl.1 rfl (lv_room (Nat.le_of_ble_eq_true rfl)) dX8_copy_2 ⟨(Nat.le_of_ble_eq_true rfl), (Nat.le_of_ble_eq_true rfl)⟩) (fun r_1 hw => ?_)
      subst hw
      refine pp_tv (y := .null) rfl ?_
      refine lv_astoreN (lv' := [(6, .null), (0, .ref h0), (1, .int sn), (2, .int i), (3, .int d), (4, .int j), (5, .int n)]) hx hb dX8_copy_5 hl (by decide) rfl (fun ls hl => ?_)
      refine lv_aload_n hx hb dX8_copy_7 rfl (lv_at hl 1 rfl) ?_
      refine lv_iload_n hx hb dX8_copy_8 rfl (lv_at hl 4 rfl) ?_
      have hPc := hP.sub (ws' := [(h0, .inr (6, [v0, v1, v2, v3, v4, .ref ph, .ref t0, v7]))]) [0] rfl
      have hKc := hK.sub (tys' := []) [] rfl
      refine va_csq (W.runV (As := [.int d]) (rest := []) ⟨hx, hb, hml, hown, hts⟩ (c_paperAt_lt l dC dI ad h0 d v0 v1 v2 v3 v4 (.ref ph) (.ref t0) v7 hlt1) (cwV 1 hts g_x_copy_c_paperAt_lt_256 rfl rfl rfl (by decide +kernel) ⟨(Nat.le_of_ble_eq_true rfl), (Nat.le_of_ble_eq_true rfl)⟩) ⟨preS_blind, va_recv hKc hPc (ci := 6) (q0 := 0) rfl rfl, fun U hU hW => ⟨rfl, preS_at hU hW hPc hKc hev⟩⟩ rfl rfl hl.1 rfl (lv_room (Nat.le_of_ble_eq_true rfl)) dX8_copy_9 ⟨(Nat.le_of_ble_eq_true rfl), (Nat.le_of_ble_eq_true rfl)⟩) (fun r_2 hw => ?_)
      subst hw
      refine pp_tv (y := .null) rfl ?_
      refine lv_astoreN (lv' := [(7, .null), (6, .null), (0, .ref h0), (1, .int sn), (2, .int i), (3, .int d), (4, .int j), (5, .int n)]) hx hb dX8_copy_12 hl (by decide) rfl (fun ls hl => ?_)
      refine lv_aloadN hx hb dX8_copy_14 (lv_at hl 1 rfl) ?_
      refine lv_ifnullN (tgt := 24) hx hb dX8_copy_16 (by decide) ?_
      refine lv_aload_n hx hb dX8_copy_24 rfl (lv_at hl 2 rfl) ?_
      refine lv_ldc hx hb hown (hts _ (List.mem_of_getElem? (i := 6) rfl)) dX8_copy_25 ?_
      have hPc := hP.sub (ws' := [(h0, .inr (6, [v0, v1, v2, v3, v4, .ref ph, .ref t0, v7])), (t0, .inl (tc, 7, .inl tf))]) [0, 1] rfl
      have hKc := hK.sub (tys' := [(tc, .int)]) [0] rfl
      have hDc := hD.sub (ws' := [(h0, .inr (6, [v0, v1, v2, v3, v4, .ref ph, .ref t0, v7])), (t0, .inl (tc, 7, .inl tf))]) [0, 1] (by decide) rfl
      have hFc := va_free (wc := [(h0, .inr (6, [v0, v1, v2, v3, v4, .ref ph, .ref t0, v7])), (t0, .inl (tc, 7, .inl tf))]) hD hS hA [0, 1] rfl
      refine va_calli (va_runV (As := [.int (-1000000001)]) (rest := []) ⟨hx, hb, hml, hown, hts⟩ (f_beyond l dC dI ad h0 v0 v1 v2 v3 v4 (.ref ph) t0 v7 tc tf s.heap.size ) (cwV 1 hts g_x_copy_f_beyond_63 rfl rfl rfl (by decide +kernel) ⟨(Nat.le_of_ble_eq_true rfl), (Nat.le_of_ble_eq_true rfl)⟩) ⟨preM_blind, va_recv hKc hPc (ci := 6) (q0 := 0) rfl rfl, fun U hU hW => ⟨rfl, preM_at hU hW hPc hKc hDc hev⟩⟩ rfl rfl hl.1 rfl (lv_room (Nat.le_of_ble_eq_true rfl)) dX8_copy_27 ⟨(Nat.le_of_ble_eq_true rfl), (Nat.le_of_ble_eq_true rfl)⟩) hS (fun q _ h => hFc q h) hFc (fun r_3 u t H1 locs ht hvm hw hB hz1 hk1 hS => ?_)
      obtain ⟨tg_4, hP1, hK1, hD1⟩ := hB
      rw [ht] at hP1
      have hK1 := va_K.moved hvm.symm hK1
      obtain ⟨hP, hD⟩ := va_join (wr := [(ph, .inl (pc, 4, .inr (.inr (.inr (.inr pf))))), (p0, .inr (0, [.int b0, .int z0, .ref n0])), (n0, .inl (nc0, 40, .inr (.inl g0))), (p1, .inr (0, [.int b1, .int z1, .ref n1])), (n1, .inl (nc1, 40, .inr (.inl g1))), (p2, .inr (0, [.int b2, .int z2, .ref n2])), (n2, .inl (nc2, 40, .inr (.inl g2))), (p3, .inr (0, [.int b3, .int z3, .ref n3])), (n3, .inl (nc3, 40, .inr (.inl g3)))]) (w1 := [(h0, .inr (6, [v0, v1, v2, v3, v4, .ref ph, .ref t0, v7])), (t0, .inl (tc, 7, .inl tg_4))]) hP hD [0, 1] [2, 3, 4, 5, 6, 7, 8, 9, 10] rfl rfl (by decide) (by decide) hk1 hFc hP1 hD1
      generalize H1 = H at hP hS ⊢
      have hP : va_P (dC, dI) vwCl [(ph, .inl (pc, 4, .inr (.inr (.inr (.inr pf))))), (p0, .inr (0, [.int b0, .int z0, .ref n0])), (n0, .inl (nc0, 40, .inr (.inl g0))), (p1, .inr (0, [.int b1, .int z1, .ref n1])), (n1, .inl (nc1, 40, .inr (.inl g1))), (p2, .inr (0, [.int b2, .int z2, .ref n2])), (n2, .inl (nc2, 40, .inr (.inl g2))), (p3, .inr (0, [.int b3, .int z3, .ref n3])), (n3, .inl (nc3, 40, .inr (.inl g3))), (h0, .inr (6, [v0, v1, v2, v3, v4, .ref ph, .ref t0, v7])), (t0, .inl (tc, 7, .inl tg_4))] H := hP
      have hD : va_D A [(ph, .inl (pc, 4, .inr (.inr (.inr (.inr pf))))), (p0, .inr (0, [.int b0, .int z0, .ref n0])), (n0, .inl (nc0, 40, .inr (.inl g0))), (p1, .inr (0, [.int b1, .int z1, .ref n1])), (n1, .inl (nc1, 40, .inr (.inl g1))), (p2, .inr (0, [.int b2, .int z2, .ref n2])), (n2, .inl (nc2, 40, .inr (.inl g2))), (p3, .inr (0, [.int b3, .int z3, .ref n3])), (n3, .inl (nc3, 40, .inr (.inl g3))), (h0, .inr (6, [v0, v1, v2, v3, v4, .ref ph, .ref t0, v7])), (t0, .inl (tc, 7, .inl tg_4))] := hD
      subst hw
      have hP9 := hP.sub (ws' := [(h0, .inr (6, [v0, v1, v2, v3, v4, .ref ph, .ref t0, v7])), (t0, .inl (tc, 7, .inl tg_4)), (ph, .inl (pc, 4, .inr (.inr (.inr (.inr pf))))), (p0, .inr (0, [.int b0, .int z0, .ref n0])), (n0, .inl (nc0, 40, .inr (.inl g0))), (p1, .inr (0, [.int b1, .int z1, .ref n1])), (n1, .inl (nc1, 40, .inr (.inl g1))), (p2, .inr (0, [.int b2, .int z2, .ref n2])), (n2, .inl (nc2, 40, .inr (.inl g2))), (p3, .inr (0, [.int b3, .int z3, .ref n3])), (n3, .inl (nc3, 40, .inr (.inl g3)))]) [9, 10, 0, 1, 2, 3, 4, 5, 6, 7, 8] rfl
      have hD9 := hD.sub (ws' := [(h0, .inr (6, [v0, v1, v2, v3, v4, .ref ph, .ref t0, v7])), (t0, .inl (tc, 7, .inl tg_4)), (ph, .inl (pc, 4, .inr (.inr (.inr (.inr pf))))), (p0, .inr (0, [.int b0, .int z0, .ref n0])), (n0, .inl (nc0, 40, .inr (.inl g0))), (p1, .inr (0, [.int b1, .int z1, .ref n1])), (n1, .inl (nc1, 40, .inr (.inl g1))), (p2, .inr (0, [.int b2, .int z2, .ref n2])), (n2, .inl (nc2, 40, .inr (.inl g2))), (p3, .inr (0, [.int b3, .int z3, .ref n3])), (n3, .inl (nc3, 40, .inr (.inl g3)))]) [9, 10, 0, 1, 2, 3, 4, 5, 6, 7, 8] (by decide) rfl
      have hK9 := hK.sub (tys' := [(tc, .int), (pc, .object "LampShapes$Paper"), (nc0, .long), (nc1, .long), (nc2, .long), (nc3, .long)]) [0, 1, 2, 3, 4, 5] rfl
      exact W.iret (v := ((-1000000001) : Int32)) hx hb hr (fun t ht hW => ⟨⟨((-1000000001) : Int32), (), rfl, trivial, tg_4, g0, g1, g2, g3, by rw [ht]; exact hP9, va_K.moved hW.alike hK9, hD9⟩, hS.F ht⟩) hS.2.2 dX8_copy_30
    · skip
      refine Met.ofW (cc := cX8_copy) (maxL := 8) (ret := (some .int)) (by decide) rfl ?_
      intro p e s m args below meth c s₁ B hml hv
      obtain ⟨rfl, hsz, hP, hK, hD0, hev⟩ := hv
      have hx := B.exec
      have hb := B.bytes
      have hr := B.returns
      have hts := atoms_spec (ws := w_x_copy) B.pre
      have hown : s.vm.findClass RX8 = some m.cls := findClass_of_methodNamed B.named
      have hlocks := B.notSynchronized
      have inX8 : ∀ w ∈ wsX80, w ∈ w_x_copy := fun w h => List.mem_cons_of_mem _ (List.mem_append_left _ (List.mem_append_right _ h))
      have inX2 : ∀ w ∈ wsX20, w ∈ w_x_copy := fun w h => List.mem_cons_of_mem _ (List.mem_append_right _ h)
      subst hsz
      have hD := hD0.self (sz := s.heap.size)
      generalize hAe : va_A [(h0, .inr (6, [v0, v1, v2, v3, v4, .ref ph, .ref t0, v7])), (t0, .inl (tc, 7, .inl tf)), (ph, .inl (pc, 4, .inr (.inr (.inr (.inr pf))))), (p0, .inr (0, [.int b0, .int z0, .ref n0])), (n0, .inl (nc0, 40, .inr (.inl g0))), (p1, .inr (0, [.int b1, .int z1, .ref n1])), (n1, .inl (nc1, 40, .inr (.inl g1))), (p2, .inr (0, [.int b2, .int z2, .ref n2])), (n2, .inl (nc2, 40, .inr (.inl g2))), (p3, .inr (0, [.int b3, .int z3, .ref n3])), (n3, .inl (nc3, 40, .inr (.inl g3)))] s.heap.size = A at hD ⊢
      have hA : ∀ q : Nat, s.heap.size ≤ q → A q := fun q h => by rw [← hAe]; exact Or.inr h
      have hS : va_S A s.heap s.heap [] := va_S.rf
      have hP : va_P (dC, dI) vwCl [(h0, .inr (6, [v0, v1, v2, v3, v4, .ref ph, .ref t0, v7])), (t0, .inl (tc, 7, .inl tf)), (ph, .inl (pc, 4, .inr (.inr (.inr (.inr pf))))), (p0, .inr (0, [.int b0, .int z0, .ref n0])), (n0, .inl (nc0, 40, .inr (.inl g0))), (p1, .inr (0, [.int b1, .int z1, .ref n1])), (n1, .inl (nc1, 40, .inr (.inl g1))), (p2, .inr (0, [.int b2, .int z2, .ref n2])), (n2, .inl (nc2, 40, .inr (.inl g2))), (p3, .inr (0, [.int b3, .int z3, .ref n3])), (n3, .inl (nc3, 40, .inr (.inl g3)))] s.heap := hP
      have hl := lv_entry ([.ref h0, .int sn, .int i, .int d, .int j, .int n]) (n := 8) (Nat.le_of_ble_eq_true rfl)
      rw [lg_entry_eq]
      generalize (lg_sl ([.ref h0, .int sn, .int i, .int d, .int j, .int n]) ++ List.replicate (8 - (lg_sl ([.ref h0, .int sn, .int i, .int d, .int j, .int n])).length) Slot.unset).toArray = ls at hl ⊢
      have hl : lv_has ls 8 [(0, .ref h0), (1, .int sn), (2, .int i), (3, .int d), (4, .int j), (5, .int n)] := hl
      have thlt0 : sn.toInt < 0 := (fa_lt _ _).mp hlt0
      have thgt1 : 3 < d.toInt := (fa_lt _ _).mp hgt1
      refine lv_aload_n hx hb dX8_copy_0 rfl (lv_at hl 0 rfl) ?_
      refine lv_iload_n hx hb dX8_copy_1 rfl (lv_at hl 1 rfl) ?_
      have hPc := hP.sub (ws' := [(h0, .inr (6, [v0, v1, v2, v3, v4, .ref ph, .ref t0, v7]))]) [0] rfl
      have hKc := hK.sub (tys' := []) [] rfl
      refine va_csq (W.runV (As := [.int sn]) (rest := []) ⟨hx, hb, hml, hown, hts⟩ (c_paperAt_lt l dC dI ad h0 sn v0 v1 v2 v3 v4 (.ref ph) (.ref t0) v7 hlt0) (cwV 1 hts g_x_copy_c_paperAt_lt_256 rfl rfl rfl (by decide +kernel) ⟨(Nat.le_of_ble_eq_true rfl), (Nat.le_of_ble_eq_true rfl)⟩) ⟨preS_blind, va_recv hKc hPc (ci := 6) (q0 := 0) rfl rfl, fun U hU hW => ⟨rfl, preS_at hU hW hPc hKc hev⟩⟩ rfl rfl hl.1 rfl (lv_room (Nat.le_of_ble_eq_true rfl)) dX8_copy_2 ⟨(Nat.le_of_ble_eq_true rfl), (Nat.le_of_ble_eq_true rfl)⟩) (fun r_5 hw => ?_)
      subst hw
      refine pp_tv (y := .null) rfl ?_
      refine lv_astoreN (lv' := [(6, .null), (0, .ref h0), (1, .int sn), (2, .int i), (3, .int d), (4, .int j), (5, .int n)]) hx hb dX8_copy_5 hl (by decide) rfl (fun ls hl => ?_)
      refine lv_aload_n hx hb dX8_copy_7 rfl (lv_at hl 1 rfl) ?_
      refine lv_iload_n hx hb dX8_copy_8 rfl (lv_at hl 4 rfl) ?_
      have hPc := hP.sub (ws' := [(h0, .inr (6, [v0, v1, v2, v3, v4, .ref ph, .ref t0, v7]))]) [0] rfl
      have hKc := hK.sub (tys' := []) [] rfl
      refine va_csq (W.runV (As := [.int d]) (rest := []) ⟨hx, hb, hml, hown, hts⟩ (c_paperAt_gt l dC dI ad h0 d v0 v1 v2 v3 v4 (.ref ph) (.ref t0) v7 hgt1) (cwV 1 hts g_x_copy_c_paperAt_gt_256 rfl rfl rfl (by decide +kernel) ⟨(Nat.le_of_ble_eq_true rfl), (Nat.le_of_ble_eq_true rfl)⟩) ⟨preS_blind, va_recv hKc hPc (ci := 6) (q0 := 0) rfl rfl, fun U hU hW => ⟨rfl, preS_at hU hW hPc hKc hev⟩⟩ rfl rfl hl.1 rfl (lv_room (Nat.le_of_ble_eq_true rfl)) dX8_copy_9 ⟨(Nat.le_of_ble_eq_true rfl), (Nat.le_of_ble_eq_true rfl)⟩) (fun r_6 hw => ?_)
      subst hw
      refine pp_tv (y := .null) rfl ?_
      refine lv_astoreN (lv' := [(7, .null), (6, .null), (0, .ref h0), (1, .int sn), (2, .int i), (3, .int d), (4, .int j), (5, .int n)]) hx hb dX8_copy_12 hl (by decide) rfl (fun ls hl => ?_)
      refine lv_aloadN hx hb dX8_copy_14 (lv_at hl 1 rfl) ?_
      refine lv_ifnullN (tgt := 24) hx hb dX8_copy_16 (by decide) ?_
      refine lv_aload_n hx hb dX8_copy_24 rfl (lv_at hl 2 rfl) ?_
      refine lv_ldc hx hb hown (hts _ (List.mem_of_getElem? (i := 6) rfl)) dX8_copy_25 ?_
      have hPc := hP.sub (ws' := [(h0, .inr (6, [v0, v1, v2, v3, v4, .ref ph, .ref t0, v7])), (t0, .inl (tc, 7, .inl tf))]) [0, 1] rfl
      have hKc := hK.sub (tys' := [(tc, .int)]) [0] rfl
      have hDc := hD.sub (ws' := [(h0, .inr (6, [v0, v1, v2, v3, v4, .ref ph, .ref t0, v7])), (t0, .inl (tc, 7, .inl tf))]) [0, 1] (by decide) rfl
      have hFc := va_free (wc := [(h0, .inr (6, [v0, v1, v2, v3, v4, .ref ph, .ref t0, v7])), (t0, .inl (tc, 7, .inl tf))]) hD hS hA [0, 1] rfl
      refine va_calli (va_runV (As := [.int (-1000000001)]) (rest := []) ⟨hx, hb, hml, hown, hts⟩ (f_beyond l dC dI ad h0 v0 v1 v2 v3 v4 (.ref ph) t0 v7 tc tf s.heap.size ) (cwV 1 hts g_x_copy_f_beyond_63 rfl rfl rfl (by decide +kernel) ⟨(Nat.le_of_ble_eq_true rfl), (Nat.le_of_ble_eq_true rfl)⟩) ⟨preM_blind, va_recv hKc hPc (ci := 6) (q0 := 0) rfl rfl, fun U hU hW => ⟨rfl, preM_at hU hW hPc hKc hDc hev⟩⟩ rfl rfl hl.1 rfl (lv_room (Nat.le_of_ble_eq_true rfl)) dX8_copy_27 ⟨(Nat.le_of_ble_eq_true rfl), (Nat.le_of_ble_eq_true rfl)⟩) hS (fun q _ h => hFc q h) hFc (fun r_7 u t H1 locs ht hvm hw hB hz1 hk1 hS => ?_)
      obtain ⟨tg_8, hP1, hK1, hD1⟩ := hB
      rw [ht] at hP1
      have hK1 := va_K.moved hvm.symm hK1
      obtain ⟨hP, hD⟩ := va_join (wr := [(ph, .inl (pc, 4, .inr (.inr (.inr (.inr pf))))), (p0, .inr (0, [.int b0, .int z0, .ref n0])), (n0, .inl (nc0, 40, .inr (.inl g0))), (p1, .inr (0, [.int b1, .int z1, .ref n1])), (n1, .inl (nc1, 40, .inr (.inl g1))), (p2, .inr (0, [.int b2, .int z2, .ref n2])), (n2, .inl (nc2, 40, .inr (.inl g2))), (p3, .inr (0, [.int b3, .int z3, .ref n3])), (n3, .inl (nc3, 40, .inr (.inl g3)))]) (w1 := [(h0, .inr (6, [v0, v1, v2, v3, v4, .ref ph, .ref t0, v7])), (t0, .inl (tc, 7, .inl tg_8))]) hP hD [0, 1] [2, 3, 4, 5, 6, 7, 8, 9, 10] rfl rfl (by decide) (by decide) hk1 hFc hP1 hD1
      generalize H1 = H at hP hS ⊢
      have hP : va_P (dC, dI) vwCl [(ph, .inl (pc, 4, .inr (.inr (.inr (.inr pf))))), (p0, .inr (0, [.int b0, .int z0, .ref n0])), (n0, .inl (nc0, 40, .inr (.inl g0))), (p1, .inr (0, [.int b1, .int z1, .ref n1])), (n1, .inl (nc1, 40, .inr (.inl g1))), (p2, .inr (0, [.int b2, .int z2, .ref n2])), (n2, .inl (nc2, 40, .inr (.inl g2))), (p3, .inr (0, [.int b3, .int z3, .ref n3])), (n3, .inl (nc3, 40, .inr (.inl g3))), (h0, .inr (6, [v0, v1, v2, v3, v4, .ref ph, .ref t0, v7])), (t0, .inl (tc, 7, .inl tg_8))] H := hP
      have hD : va_D A [(ph, .inl (pc, 4, .inr (.inr (.inr (.inr pf))))), (p0, .inr (0, [.int b0, .int z0, .ref n0])), (n0, .inl (nc0, 40, .inr (.inl g0))), (p1, .inr (0, [.int b1, .int z1, .ref n1])), (n1, .inl (nc1, 40, .inr (.inl g1))), (p2, .inr (0, [.int b2, .int z2, .ref n2])), (n2, .inl (nc2, 40, .inr (.inl g2))), (p3, .inr (0, [.int b3, .int z3, .ref n3])), (n3, .inl (nc3, 40, .inr (.inl g3))), (h0, .inr (6, [v0, v1, v2, v3, v4, .ref ph, .ref t0, v7])), (t0, .inl (tc, 7, .inl tg_8))] := hD
      subst hw
      have hP9 := hP.sub (ws' := [(h0, .inr (6, [v0, v1, v2, v3, v4, .ref ph, .ref t0, v7])), (t0, .inl (tc, 7, .inl tg_8)), (ph, .inl (pc, 4, .inr (.inr (.inr (.inr pf))))), (p0, .inr (0, [.int b0, .int z0, .ref n0])), (n0, .inl (nc0, 40, .inr (.inl g0))), (p1, .inr (0, [.int b1, .int z1, .ref n1])), (n1, .inl (nc1, 40, .inr (.inl g1))), (p2, .inr (0, [.int b2, .int z2, .ref n2])), (n2, .inl (nc2, 40, .inr (.inl g2))), (p3, .inr (0, [.int b3, .int z3, .ref n3])), (n3, .inl (nc3, 40, .inr (.inl g3)))]) [9, 10, 0, 1, 2, 3, 4, 5, 6, 7, 8] rfl
      have hD9 := hD.sub (ws' := [(h0, .inr (6, [v0, v1, v2, v3, v4, .ref ph, .ref t0, v7])), (t0, .inl (tc, 7, .inl tg_8)), (ph, .inl (pc, 4, .inr (.inr (.inr (.inr pf))))), (p0, .inr (0, [.int b0, .int z0, .ref n0])), (n0, .inl (nc0, 40, .inr (.inl g0))), (p1, .inr (0, [.int b1, .int z1, .ref n1])), (n1, .inl (nc1, 40, .inr (.inl g1))), (p2, .inr (0, [.int b2, .int z2, .ref n2])), (n2, .inl (nc2, 40, .inr (.inl g2))), (p3, .inr (0, [.int b3, .int z3, .ref n3])), (n3, .inl (nc3, 40, .inr (.inl g3)))]) [9, 10, 0, 1, 2, 3, 4, 5, 6, 7, 8] (by decide) rfl
      have hK9 := hK.sub (tys' := [(tc, .int), (pc, .object "LampShapes$Paper"), (nc0, .long), (nc1, .long), (nc2, .long), (nc3, .long)]) [0, 1, 2, 3, 4, 5] rfl
      exact W.iret (v := ((-1000000001) : Int32)) hx hb hr (fun t ht hW => ⟨⟨((-1000000001) : Int32), (), rfl, trivial, tg_8, g0, g1, g2, g3, by rw [ht]; exact hP9, va_K.moved hW.alike hK9, hD9⟩, hS.F ht⟩) hS.2.2 dX8_copy_30
    · skip
      refine Met.ofW (cc := cX8_copy) (maxL := 8) (ret := (some .int)) (by decide) rfl ?_
      intro p e s m args below meth c s₁ B hml hv
      obtain ⟨rfl, hsz, hP, hK, hD0, hev⟩ := hv
      have hx := B.exec
      have hb := B.bytes
      have hr := B.returns
      have hts := atoms_spec (ws := w_x_copy) B.pre
      have hown : s.vm.findClass RX8 = some m.cls := findClass_of_methodNamed B.named
      have hlocks := B.notSynchronized
      have inX8 : ∀ w ∈ wsX80, w ∈ w_x_copy := fun w h => List.mem_cons_of_mem _ (List.mem_append_left _ (List.mem_append_right _ h))
      have inX2 : ∀ w ∈ wsX20, w ∈ w_x_copy := fun w h => List.mem_cons_of_mem _ (List.mem_append_right _ h)
      subst hsz
      have hD := hD0.self (sz := s.heap.size)
      generalize hAe : va_A [(h0, .inr (6, [v0, v1, v2, v3, v4, .ref ph, .ref t0, v7])), (t0, .inl (tc, 7, .inl tf)), (ph, .inl (pc, 4, .inr (.inr (.inr (.inr pf))))), (p0, .inr (0, [.int b0, .int z0, .ref n0])), (n0, .inl (nc0, 40, .inr (.inl g0))), (p1, .inr (0, [.int b1, .int z1, .ref n1])), (n1, .inl (nc1, 40, .inr (.inl g1))), (p2, .inr (0, [.int b2, .int z2, .ref n2])), (n2, .inl (nc2, 40, .inr (.inl g2))), (p3, .inr (0, [.int b3, .int z3, .ref n3])), (n3, .inl (nc3, 40, .inr (.inl g3)))] s.heap.size = A at hD ⊢
      have hA : ∀ q : Nat, s.heap.size ≤ q → A q := fun q h => by rw [← hAe]; exact Or.inr h
      have hS : va_S A s.heap s.heap [] := va_S.rf
      have hP : va_P (dC, dI) vwCl [(h0, .inr (6, [v0, v1, v2, v3, v4, .ref ph, .ref t0, v7])), (t0, .inl (tc, 7, .inl tf)), (ph, .inl (pc, 4, .inr (.inr (.inr (.inr pf))))), (p0, .inr (0, [.int b0, .int z0, .ref n0])), (n0, .inl (nc0, 40, .inr (.inl g0))), (p1, .inr (0, [.int b1, .int z1, .ref n1])), (n1, .inl (nc1, 40, .inr (.inl g1))), (p2, .inr (0, [.int b2, .int z2, .ref n2])), (n2, .inl (nc2, 40, .inr (.inl g2))), (p3, .inr (0, [.int b3, .int z3, .ref n3])), (n3, .inl (nc3, 40, .inr (.inl g3)))] s.heap := hP
      have hl := lv_entry ([.ref h0, .int sn, .int i, .int 0, .int j, .int n]) (n := 8) (Nat.le_of_ble_eq_true rfl)
      rw [lg_entry_eq]
      generalize (lg_sl ([.ref h0, .int sn, .int i, .int 0, .int j, .int n]) ++ List.replicate (8 - (lg_sl ([.ref h0, .int sn, .int i, .int 0, .int j, .int n])).length) Slot.unset).toArray = ls at hl ⊢
      have hl : lv_has ls 8 [(0, .ref h0), (1, .int sn), (2, .int i), (3, .int 0), (4, .int j), (5, .int n)] := hl
      have thlt0 : sn.toInt < 0 := (fa_lt _ _).mp hlt0
      refine lv_aload_n hx hb dX8_copy_0 rfl (lv_at hl 0 rfl) ?_
      refine lv_iload_n hx hb dX8_copy_1 rfl (lv_at hl 1 rfl) ?_
      have hPc := hP.sub (ws' := [(h0, .inr (6, [v0, v1, v2, v3, v4, .ref ph, .ref t0, v7]))]) [0] rfl
      have hKc := hK.sub (tys' := []) [] rfl
      refine va_csq (W.runV (As := [.int sn]) (rest := []) ⟨hx, hb, hml, hown, hts⟩ (c_paperAt_lt l dC dI ad h0 sn v0 v1 v2 v3 v4 (.ref ph) (.ref t0) v7 hlt0) (cwV 1 hts g_x_copy_c_paperAt_lt_256 rfl rfl rfl (by decide +kernel) ⟨(Nat.le_of_ble_eq_true rfl), (Nat.le_of_ble_eq_true rfl)⟩) ⟨preS_blind, va_recv hKc hPc (ci := 6) (q0 := 0) rfl rfl, fun U hU hW => ⟨rfl, preS_at hU hW hPc hKc hev⟩⟩ rfl rfl hl.1 rfl (lv_room (Nat.le_of_ble_eq_true rfl)) dX8_copy_2 ⟨(Nat.le_of_ble_eq_true rfl), (Nat.le_of_ble_eq_true rfl)⟩) (fun r_9 hw => ?_)
      subst hw
      refine pp_tv (y := .null) rfl ?_
      refine lv_astoreN (lv' := [(6, .null), (0, .ref h0), (1, .int sn), (2, .int i), (3, .int 0), (4, .int j), (5, .int n)]) hx hb dX8_copy_5 hl (by decide) rfl (fun ls hl => ?_)
      refine lv_aload_n hx hb dX8_copy_7 rfl (lv_at hl 1 rfl) ?_
      refine lv_iload_n hx hb dX8_copy_8 rfl (lv_at hl 4 rfl) ?_
      have hPc := hP.sub (ws' := [(h0, .inr (6, [v0, v1, v2, v3, v4, .ref ph, .ref t0, v7])), (ph, .inl (pc, 4, .inr (.inr (.inr (.inr pf)))))]) [0, 2] rfl
      have hKc := hK.sub (tys' := [(pc, .object "LampShapes$Paper")]) [1] rfl
      refine va_csq (W.runV (As := [.int 0]) (rest := []) ⟨hx, hb, hml, hown, hts⟩ (c_paperAt_0 l dC dI ad h0 v0 v1 v2 v3 v4 ph (.ref t0) v7 pc pf p0 hp0) (cwV 1 hts g_x_copy_c_paperAt_0_256 rfl rfl rfl (by decide +kernel) ⟨(Nat.le_of_ble_eq_true rfl), (Nat.le_of_ble_eq_true rfl)⟩) ⟨preS_blind, va_recv hKc hPc (ci := 6) (q0 := 0) rfl rfl, fun U hU hW => ⟨rfl, preS_at hU hW hPc hKc hev⟩⟩ rfl rfl hl.1 rfl (lv_room (Nat.le_of_ble_eq_true rfl)) dX8_copy_9 ⟨(Nat.le_of_ble_eq_true rfl), (Nat.le_of_ble_eq_true rfl)⟩) (fun r_10 hw => ?_)
      subst hw
      refine pp_tv (y := .ref p0) rfl ?_
      refine lv_astore (lv' := [(7, .ref p0), (6, .null), (0, .ref h0), (1, .int sn), (2, .int i), (3, .int 0), (4, .int j), (5, .int n)]) hx hb dX8_copy_12 hl (by decide) rfl (fun ls hl => ?_)
      refine lv_aloadN hx hb dX8_copy_14 (lv_at hl 1 rfl) ?_
      refine lv_ifnullN (tgt := 24) hx hb dX8_copy_16 (by decide) ?_
      refine lv_aload_n hx hb dX8_copy_24 rfl (lv_at hl 2 rfl) ?_
      refine lv_ldc hx hb hown (hts _ (List.mem_of_getElem? (i := 6) rfl)) dX8_copy_25 ?_
      have hPc := hP.sub (ws' := [(h0, .inr (6, [v0, v1, v2, v3, v4, .ref ph, .ref t0, v7])), (t0, .inl (tc, 7, .inl tf))]) [0, 1] rfl
      have hKc := hK.sub (tys' := [(tc, .int)]) [0] rfl
      have hDc := hD.sub (ws' := [(h0, .inr (6, [v0, v1, v2, v3, v4, .ref ph, .ref t0, v7])), (t0, .inl (tc, 7, .inl tf))]) [0, 1] (by decide) rfl
      have hFc := va_free (wc := [(h0, .inr (6, [v0, v1, v2, v3, v4, .ref ph, .ref t0, v7])), (t0, .inl (tc, 7, .inl tf))]) hD hS hA [0, 1] rfl
      refine va_calli (va_runV (As := [.int (-1000000001)]) (rest := []) ⟨hx, hb, hml, hown, hts⟩ (f_beyond l dC dI ad h0 v0 v1 v2 v3 v4 (.ref ph) t0 v7 tc tf s.heap.size ) (cwV 1 hts g_x_copy_f_beyond_63 rfl rfl rfl (by decide +kernel) ⟨(Nat.le_of_ble_eq_true rfl), (Nat.le_of_ble_eq_true rfl)⟩) ⟨preM_blind, va_recv hKc hPc (ci := 6) (q0 := 0) rfl rfl, fun U hU hW => ⟨rfl, preM_at hU hW hPc hKc hDc hev⟩⟩ rfl rfl hl.1 rfl (lv_room (Nat.le_of_ble_eq_true rfl)) dX8_copy_27 ⟨(Nat.le_of_ble_eq_true rfl), (Nat.le_of_ble_eq_true rfl)⟩) hS (fun q _ h => hFc q h) hFc (fun r_11 u t H1 locs ht hvm hw hB hz1 hk1 hS => ?_)
      obtain ⟨tg_12, hP1, hK1, hD1⟩ := hB
      rw [ht] at hP1
      have hK1 := va_K.moved hvm.symm hK1
      obtain ⟨hP, hD⟩ := va_join (wr := [(ph, .inl (pc, 4, .inr (.inr (.inr (.inr pf))))), (p0, .inr (0, [.int b0, .int z0, .ref n0])), (n0, .inl (nc0, 40, .inr (.inl g0))), (p1, .inr (0, [.int b1, .int z1, .ref n1])), (n1, .inl (nc1, 40, .inr (.inl g1))), (p2, .inr (0, [.int b2, .int z2, .ref n2])), (n2, .inl (nc2, 40, .inr (.inl g2))), (p3, .inr (0, [.int b3, .int z3, .ref n3])), (n3, .inl (nc3, 40, .inr (.inl g3)))]) (w1 := [(h0, .inr (6, [v0, v1, v2, v3, v4, .ref ph, .ref t0, v7])), (t0, .inl (tc, 7, .inl tg_12))]) hP hD [0, 1] [2, 3, 4, 5, 6, 7, 8, 9, 10] rfl rfl (by decide) (by decide) hk1 hFc hP1 hD1
      generalize H1 = H at hP hS ⊢
      have hP : va_P (dC, dI) vwCl [(ph, .inl (pc, 4, .inr (.inr (.inr (.inr pf))))), (p0, .inr (0, [.int b0, .int z0, .ref n0])), (n0, .inl (nc0, 40, .inr (.inl g0))), (p1, .inr (0, [.int b1, .int z1, .ref n1])), (n1, .inl (nc1, 40, .inr (.inl g1))), (p2, .inr (0, [.int b2, .int z2, .ref n2])), (n2, .inl (nc2, 40, .inr (.inl g2))), (p3, .inr (0, [.int b3, .int z3, .ref n3])), (n3, .inl (nc3, 40, .inr (.inl g3))), (h0, .inr (6, [v0, v1, v2, v3, v4, .ref ph, .ref t0, v7])), (t0, .inl (tc, 7, .inl tg_12))] H := hP
      have hD : va_D A [(ph, .inl (pc, 4, .inr (.inr (.inr (.inr pf))))), (p0, .inr (0, [.int b0, .int z0, .ref n0])), (n0, .inl (nc0, 40, .inr (.inl g0))), (p1, .inr (0, [.int b1, .int z1, .ref n1])), (n1, .inl (nc1, 40, .inr (.inl g1))), (p2, .inr (0, [.int b2, .int z2, .ref n2])), (n2, .inl (nc2, 40, .inr (.inl g2))), (p3, .inr (0, [.int b3, .int z3, .ref n3])), (n3, .inl (nc3, 40, .inr (.inl g3))), (h0, .inr (6, [v0, v1, v2, v3, v4, .ref ph, .ref t0, v7])), (t0, .inl (tc, 7, .inl tg_12))] := hD
      subst hw
      have hP9 := hP.sub (ws' := [(h0, .inr (6, [v0, v1, v2, v3, v4, .ref ph, .ref t0, v7])), (t0, .inl (tc, 7, .inl tg_12)), (ph, .inl (pc, 4, .inr (.inr (.inr (.inr pf))))), (p0, .inr (0, [.int b0, .int z0, .ref n0])), (n0, .inl (nc0, 40, .inr (.inl g0))), (p1, .inr (0, [.int b1, .int z1, .ref n1])), (n1, .inl (nc1, 40, .inr (.inl g1))), (p2, .inr (0, [.int b2, .int z2, .ref n2])), (n2, .inl (nc2, 40, .inr (.inl g2))), (p3, .inr (0, [.int b3, .int z3, .ref n3])), (n3, .inl (nc3, 40, .inr (.inl g3)))]) [9, 10, 0, 1, 2, 3, 4, 5, 6, 7, 8] rfl
      have hD9 := hD.sub (ws' := [(h0, .inr (6, [v0, v1, v2, v3, v4, .ref ph, .ref t0, v7])), (t0, .inl (tc, 7, .inl tg_12)), (ph, .inl (pc, 4, .inr (.inr (.inr (.inr pf))))), (p0, .inr (0, [.int b0, .int z0, .ref n0])), (n0, .inl (nc0, 40, .inr (.inl g0))), (p1, .inr (0, [.int b1, .int z1, .ref n1])), (n1, .inl (nc1, 40, .inr (.inl g1))), (p2, .inr (0, [.int b2, .int z2, .ref n2])), (n2, .inl (nc2, 40, .inr (.inl g2))), (p3, .inr (0, [.int b3, .int z3, .ref n3])), (n3, .inl (nc3, 40, .inr (.inl g3)))]) [9, 10, 0, 1, 2, 3, 4, 5, 6, 7, 8] (by decide) rfl
      have hK9 := hK.sub (tys' := [(tc, .int), (pc, .object "LampShapes$Paper"), (nc0, .long), (nc1, .long), (nc2, .long), (nc3, .long)]) [0, 1, 2, 3, 4, 5] rfl
      exact W.iret (v := ((-1000000001) : Int32)) hx hb hr (fun t ht hW => ⟨⟨((-1000000001) : Int32), (), rfl, trivial, tg_12, g0, g1, g2, g3, by rw [ht]; exact hP9, va_K.moved hW.alike hK9, hD9⟩, hS.F ht⟩) hS.2.2 dX8_copy_30
    · skip
      refine Met.ofW (cc := cX8_copy) (maxL := 8) (ret := (some .int)) (by decide) rfl ?_
      intro p e s m args below meth c s₁ B hml hv
      obtain ⟨rfl, hsz, hP, hK, hD0, hev⟩ := hv
      have hx := B.exec
      have hb := B.bytes
      have hr := B.returns
      have hts := atoms_spec (ws := w_x_copy) B.pre
      have hown : s.vm.findClass RX8 = some m.cls := findClass_of_methodNamed B.named
      have hlocks := B.notSynchronized
      have inX8 : ∀ w ∈ wsX80, w ∈ w_x_copy := fun w h => List.mem_cons_of_mem _ (List.mem_append_left _ (List.mem_append_right _ h))
      have inX2 : ∀ w ∈ wsX20, w ∈ w_x_copy := fun w h => List.mem_cons_of_mem _ (List.mem_append_right _ h)
      subst hsz
      have hD := hD0.self (sz := s.heap.size)
      generalize hAe : va_A [(h0, .inr (6, [v0, v1, v2, v3, v4, .ref ph, .ref t0, v7])), (t0, .inl (tc, 7, .inl tf)), (ph, .inl (pc, 4, .inr (.inr (.inr (.inr pf))))), (p0, .inr (0, [.int b0, .int z0, .ref n0])), (n0, .inl (nc0, 40, .inr (.inl g0))), (p1, .inr (0, [.int b1, .int z1, .ref n1])), (n1, .inl (nc1, 40, .inr (.inl g1))), (p2, .inr (0, [.int b2, .int z2, .ref n2])), (n2, .inl (nc2, 40, .inr (.inl g2))), (p3, .inr (0, [.int b3, .int z3, .ref n3])), (n3, .inl (nc3, 40, .inr (.inl g3)))] s.heap.size = A at hD ⊢
      have hA : ∀ q : Nat, s.heap.size ≤ q → A q := fun q h => by rw [← hAe]; exact Or.inr h
      have hS : va_S A s.heap s.heap [] := va_S.rf
      have hP : va_P (dC, dI) vwCl [(h0, .inr (6, [v0, v1, v2, v3, v4, .ref ph, .ref t0, v7])), (t0, .inl (tc, 7, .inl tf)), (ph, .inl (pc, 4, .inr (.inr (.inr (.inr pf))))), (p0, .inr (0, [.int b0, .int z0, .ref n0])), (n0, .inl (nc0, 40, .inr (.inl g0))), (p1, .inr (0, [.int b1, .int z1, .ref n1])), (n1, .inl (nc1, 40, .inr (.inl g1))), (p2, .inr (0, [.int b2, .int z2, .ref n2])), (n2, .inl (nc2, 40, .inr (.inl g2))), (p3, .inr (0, [.int b3, .int z3, .ref n3])), (n3, .inl (nc3, 40, .inr (.inl g3)))] s.heap := hP
      have hl := lv_entry ([.ref h0, .int sn, .int i, .int 1, .int j, .int n]) (n := 8) (Nat.le_of_ble_eq_true rfl)
      rw [lg_entry_eq]
      generalize (lg_sl ([.ref h0, .int sn, .int i, .int 1, .int j, .int n]) ++ List.replicate (8 - (lg_sl ([.ref h0, .int sn, .int i, .int 1, .int j, .int n])).length) Slot.unset).toArray = ls at hl ⊢
      have hl : lv_has ls 8 [(0, .ref h0), (1, .int sn), (2, .int i), (3, .int 1), (4, .int j), (5, .int n)] := hl
      have thlt0 : sn.toInt < 0 := (fa_lt _ _).mp hlt0
      refine lv_aload_n hx hb dX8_copy_0 rfl (lv_at hl 0 rfl) ?_
      refine lv_iload_n hx hb dX8_copy_1 rfl (lv_at hl 1 rfl) ?_
      have hPc := hP.sub (ws' := [(h0, .inr (6, [v0, v1, v2, v3, v4, .ref ph, .ref t0, v7]))]) [0] rfl
      have hKc := hK.sub (tys' := []) [] rfl
      refine va_csq (W.runV (As := [.int sn]) (rest := []) ⟨hx, hb, hml, hown, hts⟩ (c_paperAt_lt l dC dI ad h0 sn v0 v1 v2 v3 v4 (.ref ph) (.ref t0) v7 hlt0) (cwV 1 hts g_x_copy_c_paperAt_lt_256 rfl rfl rfl (by decide +kernel) ⟨(Nat.le_of_ble_eq_true rfl), (Nat.le_of_ble_eq_true rfl)⟩) ⟨preS_blind, va_recv hKc hPc (ci := 6) (q0 := 0) rfl rfl, fun U hU hW => ⟨rfl, preS_at hU hW hPc hKc hev⟩⟩ rfl rfl hl.1 rfl (lv_room (Nat.le_of_ble_eq_true rfl)) dX8_copy_2 ⟨(Nat.le_of_ble_eq_true rfl), (Nat.le_of_ble_eq_true rfl)⟩) (fun r_13 hw => ?_)
      subst hw
      refine pp_tv (y := .null) rfl ?_
      refine lv_astoreN (lv' := [(6, .null), (0, .ref h0), (1, .int sn), (2, .int i), (3, .int 1), (4, .int j), (5, .int n)]) hx hb dX8_copy_5 hl (by decide) rfl (fun ls hl => ?_)
      refine lv_aload_n hx hb dX8_copy_7 rfl (lv_at hl 1 rfl) ?_
      refine lv_iload_n hx hb dX8_copy_8 rfl (lv_at hl 4 rfl) ?_
      have hPc := hP.sub (ws' := [(h0, .inr (6, [v0, v1, v2, v3, v4, .ref ph, .ref t0, v7])), (ph, .inl (pc, 4, .inr (.inr (.inr (.inr pf)))))]) [0, 2] rfl
      have hKc := hK.sub (tys' := [(pc, .object "LampShapes$Paper")]) [1] rfl
      refine va_csq (W.runV (As := [.int 1]) (rest := []) ⟨hx, hb, hml, hown, hts⟩ (c_paperAt_1 l dC dI ad h0 v0 v1 v2 v3 v4 ph (.ref t0) v7 pc pf p1 hp1) (cwV 1 hts g_x_copy_c_paperAt_1_256 rfl rfl rfl (by decide +kernel) ⟨(Nat.le_of_ble_eq_true rfl), (Nat.le_of_ble_eq_true rfl)⟩) ⟨preS_blind, va_recv hKc hPc (ci := 6) (q0 := 0) rfl rfl, fun U hU hW => ⟨rfl, preS_at hU hW hPc hKc hev⟩⟩ rfl rfl hl.1 rfl (lv_room (Nat.le_of_ble_eq_true rfl)) dX8_copy_9 ⟨(Nat.le_of_ble_eq_true rfl), (Nat.le_of_ble_eq_true rfl)⟩) (fun r_14 hw => ?_)
      subst hw
      refine pp_tv (y := .ref p1) rfl ?_
      refine lv_astore (lv' := [(7, .ref p1), (6, .null), (0, .ref h0), (1, .int sn), (2, .int i), (3, .int 1), (4, .int j), (5, .int n)]) hx hb dX8_copy_12 hl (by decide) rfl (fun ls hl => ?_)
      refine lv_aloadN hx hb dX8_copy_14 (lv_at hl 1 rfl) ?_
      refine lv_ifnullN (tgt := 24) hx hb dX8_copy_16 (by decide) ?_
      refine lv_aload_n hx hb dX8_copy_24 rfl (lv_at hl 2 rfl) ?_
      refine lv_ldc hx hb hown (hts _ (List.mem_of_getElem? (i := 6) rfl)) dX8_copy_25 ?_
      have hPc := hP.sub (ws' := [(h0, .inr (6, [v0, v1, v2, v3, v4, .ref ph, .ref t0, v7])), (t0, .inl (tc, 7, .inl tf))]) [0, 1] rfl
      have hKc := hK.sub (tys' := [(tc, .int)]) [0] rfl
      have hDc := hD.sub (ws' := [(h0, .inr (6, [v0, v1, v2, v3, v4, .ref ph, .ref t0, v7])), (t0, .inl (tc, 7, .inl tf))]) [0, 1] (by decide) rfl
      have hFc := va_free (wc := [(h0, .inr (6, [v0, v1, v2, v3, v4, .ref ph, .ref t0, v7])), (t0, .inl (tc, 7, .inl tf))]) hD hS hA [0, 1] rfl
      refine va_calli (va_runV (As := [.int (-1000000001)]) (rest := []) ⟨hx, hb, hml, hown, hts⟩ (f_beyond l dC dI ad h0 v0 v1 v2 v3 v4 (.ref ph) t0 v7 tc tf s.heap.size ) (cwV 1 hts g_x_copy_f_beyond_63 rfl rfl rfl (by decide +kernel) ⟨(Nat.le_of_ble_eq_true rfl), (Nat.le_of_ble_eq_true rfl)⟩) ⟨preM_blind, va_recv hKc hPc (ci := 6) (q0 := 0) rfl rfl, fun U hU hW => ⟨rfl, preM_at hU hW hPc hKc hDc hev⟩⟩ rfl rfl hl.1 rfl (lv_room (Nat.le_of_ble_eq_true rfl)) dX8_copy_27 ⟨(Nat.le_of_ble_eq_true rfl), (Nat.le_of_ble_eq_true rfl)⟩) hS (fun q _ h => hFc q h) hFc (fun r_15 u t H1 locs ht hvm hw hB hz1 hk1 hS => ?_)
      obtain ⟨tg_16, hP1, hK1, hD1⟩ := hB
      rw [ht] at hP1
      have hK1 := va_K.moved hvm.symm hK1
      obtain ⟨hP, hD⟩ := va_join (wr := [(ph, .inl (pc, 4, .inr (.inr (.inr (.inr pf))))), (p0, .inr (0, [.int b0, .int z0, .ref n0])), (n0, .inl (nc0, 40, .inr (.inl g0))), (p1, .inr (0, [.int b1, .int z1, .ref n1])), (n1, .inl (nc1, 40, .inr (.inl g1))), (p2, .inr (0, [.int b2, .int z2, .ref n2])), (n2, .inl (nc2, 40, .inr (.inl g2))), (p3, .inr (0, [.int b3, .int z3, .ref n3])), (n3, .inl (nc3, 40, .inr (.inl g3)))]) (w1 := [(h0, .inr (6, [v0, v1, v2, v3, v4, .ref ph, .ref t0, v7])), (t0, .inl (tc, 7, .inl tg_16))]) hP hD [0, 1] [2, 3, 4, 5, 6, 7, 8, 9, 10] rfl rfl (by decide) (by decide) hk1 hFc hP1 hD1
      generalize H1 = H at hP hS ⊢
      have hP : va_P (dC, dI) vwCl [(ph, .inl (pc, 4, .inr (.inr (.inr (.inr pf))))), (p0, .inr (0, [.int b0, .int z0, .ref n0])), (n0, .inl (nc0, 40, .inr (.inl g0))), (p1, .inr (0, [.int b1, .int z1, .ref n1])), (n1, .inl (nc1, 40, .inr (.inl g1))), (p2, .inr (0, [.int b2, .int z2, .ref n2])), (n2, .inl (nc2, 40, .inr (.inl g2))), (p3, .inr (0, [.int b3, .int z3, .ref n3])), (n3, .inl (nc3, 40, .inr (.inl g3))), (h0, .inr (6, [v0, v1, v2, v3, v4, .ref ph, .ref t0, v7])), (t0, .inl (tc, 7, .inl tg_16))] H := hP
      have hD : va_D A [(ph, .inl (pc, 4, .inr (.inr (.inr (.inr pf))))), (p0, .inr (0, [.int b0, .int z0, .ref n0])), (n0, .inl (nc0, 40, .inr (.inl g0))), (p1, .inr (0, [.int b1, .int z1, .ref n1])), (n1, .inl (nc1, 40, .inr (.inl g1))), (p2, .inr (0, [.int b2, .int z2, .ref n2])), (n2, .inl (nc2, 40, .inr (.inl g2))), (p3, .inr (0, [.int b3, .int z3, .ref n3])), (n3, .inl (nc3, 40, .inr (.inl g3))), (h0, .inr (6, [v0, v1, v2, v3, v4, .ref ph, .ref t0, v7])), (t0, .inl (tc, 7, .inl tg_16))] := hD
      subst hw
      have hP9 := hP.sub (ws' := [(h0, .inr (6, [v0, v1, v2, v3, v4, .ref ph, .ref t0, v7])), (t0, .inl (tc, 7, .inl tg_16)), (ph, .inl (pc, 4, .inr (.inr (.inr (.inr pf))))), (p0, .inr (0, [.int b0, .int z0, .ref n0])), (n0, .inl (nc0, 40, .inr (.inl g0))), (p1, .inr (0, [.int b1, .int z1, .ref n1])), (n1, .inl (nc1, 40, .inr (.inl g1))), (p2, .inr (0, [.int b2, .int z2, .ref n2])), (n2, .inl (nc2, 40, .inr (.inl g2))), (p3, .inr (0, [.int b3, .int z3, .ref n3])), (n3, .inl (nc3, 40, .inr (.inl g3)))]) [9, 10, 0, 1, 2, 3, 4, 5, 6, 7, 8] rfl
      have hD9 := hD.sub (ws' := [(h0, .inr (6, [v0, v1, v2, v3, v4, .ref ph, .ref t0, v7])), (t0, .inl (tc, 7, .inl tg_16)), (ph, .inl (pc, 4, .inr (.inr (.inr (.inr pf))))), (p0, .inr (0, [.int b0, .int z0, .ref n0])), (n0, .inl (nc0, 40, .inr (.inl g0))), (p1, .inr (0, [.int b1, .int z1, .ref n1])), (n1, .inl (nc1, 40, .inr (.inl g1))), (p2, .inr (0, [.int b2, .int z2, .ref n2])), (n2, .inl (nc2, 40, .inr (.inl g2))), (p3, .inr (0, [.int b3, .int z3, .ref n3])), (n3, .inl (nc3, 40, .inr (.inl g3)))]) [9, 10, 0, 1, 2, 3, 4, 5, 6, 7, 8] (by decide) rfl
      have hK9 := hK.sub (tys' := [(tc, .int), (pc, .object "LampShapes$Paper"), (nc0, .long), (nc1, .long), (nc2, .long), (nc3, .long)]) [0, 1, 2, 3, 4, 5] rfl
      exact W.iret (v := ((-1000000001) : Int32)) hx hb hr (fun t ht hW => ⟨⟨((-1000000001) : Int32), (), rfl, trivial, tg_16, g0, g1, g2, g3, by rw [ht]; exact hP9, va_K.moved hW.alike hK9, hD9⟩, hS.F ht⟩) hS.2.2 dX8_copy_30
    · skip
      refine Met.ofW (cc := cX8_copy) (maxL := 8) (ret := (some .int)) (by decide) rfl ?_
      intro p e s m args below meth c s₁ B hml hv
      obtain ⟨rfl, hsz, hP, hK, hD0, hev⟩ := hv
      have hx := B.exec
      have hb := B.bytes
      have hr := B.returns
      have hts := atoms_spec (ws := w_x_copy) B.pre
      have hown : s.vm.findClass RX8 = some m.cls := findClass_of_methodNamed B.named
      have hlocks := B.notSynchronized
      have inX8 : ∀ w ∈ wsX80, w ∈ w_x_copy := fun w h => List.mem_cons_of_mem _ (List.mem_append_left _ (List.mem_append_right _ h))
      have inX2 : ∀ w ∈ wsX20, w ∈ w_x_copy := fun w h => List.mem_cons_of_mem _ (List.mem_append_right _ h)
      subst hsz
      have hD := hD0.self (sz := s.heap.size)
      generalize hAe : va_A [(h0, .inr (6, [v0, v1, v2, v3, v4, .ref ph, .ref t0, v7])), (t0, .inl (tc, 7, .inl tf)), (ph, .inl (pc, 4, .inr (.inr (.inr (.inr pf))))), (p0, .inr (0, [.int b0, .int z0, .ref n0])), (n0, .inl (nc0, 40, .inr (.inl g0))), (p1, .inr (0, [.int b1, .int z1, .ref n1])), (n1, .inl (nc1, 40, .inr (.inl g1))), (p2, .inr (0, [.int b2, .int z2, .ref n2])), (n2, .inl (nc2, 40, .inr (.inl g2))), (p3, .inr (0, [.int b3, .int z3, .ref n3])), (n3, .inl (nc3, 40, .inr (.inl g3)))] s.heap.size = A at hD ⊢
      have hA : ∀ q : Nat, s.heap.size ≤ q → A q := fun q h => by rw [← hAe]; exact Or.inr h
      have hS : va_S A s.heap s.heap [] := va_S.rf
      have hP : va_P (dC, dI) vwCl [(h0, .inr (6, [v0, v1, v2, v3, v4, .ref ph, .ref t0, v7])), (t0, .inl (tc, 7, .inl tf)), (ph, .inl (pc, 4, .inr (.inr (.inr (.inr pf))))), (p0, .inr (0, [.int b0, .int z0, .ref n0])), (n0, .inl (nc0, 40, .inr (.inl g0))), (p1, .inr (0, [.int b1, .int z1, .ref n1])), (n1, .inl (nc1, 40, .inr (.inl g1))), (p2, .inr (0, [.int b2, .int z2, .ref n2])), (n2, .inl (nc2, 40, .inr (.inl g2))), (p3, .inr (0, [.int b3, .int z3, .ref n3])), (n3, .inl (nc3, 40, .inr (.inl g3)))] s.heap := hP
      have hl := lv_entry ([.ref h0, .int sn, .int i, .int 2, .int j, .int n]) (n := 8) (Nat.le_of_ble_eq_true rfl)
      rw [lg_entry_eq]
      generalize (lg_sl ([.ref h0, .int sn, .int i, .int 2, .int j, .int n]) ++ List.replicate (8 - (lg_sl ([.ref h0, .int sn, .int i, .int 2, .int j, .int n])).length) Slot.unset).toArray = ls at hl ⊢
      have hl : lv_has ls 8 [(0, .ref h0), (1, .int sn), (2, .int i), (3, .int 2), (4, .int j), (5, .int n)] := hl
      have thlt0 : sn.toInt < 0 := (fa_lt _ _).mp hlt0
      refine lv_aload_n hx hb dX8_copy_0 rfl (lv_at hl 0 rfl) ?_
      refine lv_iload_n hx hb dX8_copy_1 rfl (lv_at hl 1 rfl) ?_
      have hPc := hP.sub (ws' := [(h0, .inr (6, [v0, v1, v2, v3, v4, .ref ph, .ref t0, v7]))]) [0] rfl
      have hKc := hK.sub (tys' := []) [] rfl
      refine va_csq (W.runV (As := [.int sn]) (rest := []) ⟨hx, hb, hml, hown, hts⟩ (c_paperAt_lt l dC dI ad h0 sn v0 v1 v2 v3 v4 (.ref ph) (.ref t0) v7 hlt0) (cwV 1 hts g_x_copy_c_paperAt_lt_256 rfl rfl rfl (by decide +kernel) ⟨(Nat.le_of_ble_eq_true rfl), (Nat.le_of_ble_eq_true rfl)⟩) ⟨preS_blind, va_recv hKc hPc (ci := 6) (q0 := 0) rfl rfl, fun U hU hW => ⟨rfl, preS_at hU hW hPc hKc hev⟩⟩ rfl rfl hl.1 rfl (lv_room (Nat.le_of_ble_eq_true rfl)) dX8_copy_2 ⟨(Nat.le_of_ble_eq_true rfl), (Nat.le_of_ble_eq_true rfl)⟩) (fun r_17 hw => ?_)
      subst hw
      refine pp_tv (y := .null) rfl ?_
      refine lv_astoreN (lv' := [(6, .null), (0, .ref h0), (1, .int sn), (2, .int i), (3, .int 2), (4, .int j), (5, .int n)]) hx hb dX8_copy_5 hl (by decide) rfl (fun ls hl => ?_)
      refine lv_aload_n hx hb dX8_copy_7 rfl (lv_at hl 1 rfl) ?_
      refine lv_iload_n hx hb dX8_copy_8 rfl (lv_at hl 4 rfl) ?_
      have hPc := hP.sub (ws' := [(h0, .inr (6, [v0, v1, v2, v3, v4, .ref ph, .ref t0, v7])), (ph, .inl (pc, 4, .inr (.inr (.inr (.inr pf)))))]) [0, 2] rfl
      have hKc := hK.sub (tys' := [(pc, .object "LampShapes$Paper")]) [1] rfl
      refine va_csq (W.runV (As := [.int 2]) (rest := []) ⟨hx, hb, hml, hown, hts⟩ (c_paperAt_2 l dC dI ad h0 v0 v1 v2 v3 v4 ph (.ref t0) v7 pc pf p2 hp2) (cwV 1 hts g_x_copy_c_paperAt_2_256 rfl rfl rfl (by decide +kernel) ⟨(Nat.le_of_ble_eq_true rfl), (Nat.le_of_ble_eq_true rfl)⟩) ⟨preS_blind, va_recv hKc hPc (ci := 6) (q0 := 0) rfl rfl, fun U hU hW => ⟨rfl, preS_at hU hW hPc hKc hev⟩⟩ rfl rfl hl.1 rfl (lv_room (Nat.le_of_ble_eq_true rfl)) dX8_copy_9 ⟨(Nat.le_of_ble_eq_true rfl), (Nat.le_of_ble_eq_true rfl)⟩) (fun r_18 hw => ?_)
      subst hw
      refine pp_tv (y := .ref p2) rfl ?_
      refine lv_astore (lv' := [(7, .ref p2), (6, .null), (0, .ref h0), (1, .int sn), (2, .int i), (3, .int 2), (4, .int j), (5, .int n)]) hx hb dX8_copy_12 hl (by decide) rfl (fun ls hl => ?_)
      refine lv_aloadN hx hb dX8_copy_14 (lv_at hl 1 rfl) ?_
      refine lv_ifnullN (tgt := 24) hx hb dX8_copy_16 (by decide) ?_
      refine lv_aload_n hx hb dX8_copy_24 rfl (lv_at hl 2 rfl) ?_
      refine lv_ldc hx hb hown (hts _ (List.mem_of_getElem? (i := 6) rfl)) dX8_copy_25 ?_
      have hPc := hP.sub (ws' := [(h0, .inr (6, [v0, v1, v2, v3, v4, .ref ph, .ref t0, v7])), (t0, .inl (tc, 7, .inl tf))]) [0, 1] rfl
      have hKc := hK.sub (tys' := [(tc, .int)]) [0] rfl
      have hDc := hD.sub (ws' := [(h0, .inr (6, [v0, v1, v2, v3, v4, .ref ph, .ref t0, v7])), (t0, .inl (tc, 7, .inl tf))]) [0, 1] (by decide) rfl
      have hFc := va_free (wc := [(h0, .inr (6, [v0, v1, v2, v3, v4, .ref ph, .ref t0, v7])), (t0, .inl (tc, 7, .inl tf))]) hD hS hA [0, 1] rfl
      refine va_calli (va_runV (As := [.int (-1000000001)]) (rest := []) ⟨hx, hb, hml, hown, hts⟩ (f_beyond l dC dI ad h0 v0 v1 v2 v3 v4 (.ref ph) t0 v7 tc tf s.heap.size ) (cwV 1 hts g_x_copy_f_beyond_63 rfl rfl rfl (by decide +kernel) ⟨(Nat.le_of_ble_eq_true rfl), (Nat.le_of_ble_eq_true rfl)⟩) ⟨preM_blind, va_recv hKc hPc (ci := 6) (q0 := 0) rfl rfl, fun U hU hW => ⟨rfl, preM_at hU hW hPc hKc hDc hev⟩⟩ rfl rfl hl.1 rfl (lv_room (Nat.le_of_ble_eq_true rfl)) dX8_copy_27 ⟨(Nat.le_of_ble_eq_true rfl), (Nat.le_of_ble_eq_true rfl)⟩) hS (fun q _ h => hFc q h) hFc (fun r_19 u t H1 locs ht hvm hw hB hz1 hk1 hS => ?_)
      obtain ⟨tg_20, hP1, hK1, hD1⟩ := hB
      rw [ht] at hP1
      have hK1 := va_K.moved hvm.symm hK1
      obtain ⟨hP, hD⟩ := va_join (wr := [(ph, .inl (pc, 4, .inr (.inr (.inr (.inr pf))))), (p0, .inr (0, [.int b0, .int z0, .ref n0])), (n0, .inl (nc0, 40, .inr (.inl g0))), (p1, .inr (0, [.int b1, .int z1, .ref n1])), (n1, .inl (nc1, 40, .inr (.inl g1))), (p2, .inr (0, [.int b2, .int z2, .ref n2])), (n2, .inl (nc2, 40, .inr (.inl g2))), (p3, .inr (0, [.int b3, .int z3, .ref n3])), (n3, .inl (nc3, 40, .inr (.inl g3)))]) (w1 := [(h0, .inr (6, [v0, v1, v2, v3, v4, .ref ph, .ref t0, v7])), (t0, .inl (tc, 7, .inl tg_20))]) hP hD [0, 1] [2, 3, 4, 5, 6, 7, 8, 9, 10] rfl rfl (by decide) (by decide) hk1 hFc hP1 hD1
      generalize H1 = H at hP hS ⊢
      have hP : va_P (dC, dI) vwCl [(ph, .inl (pc, 4, .inr (.inr (.inr (.inr pf))))), (p0, .inr (0, [.int b0, .int z0, .ref n0])), (n0, .inl (nc0, 40, .inr (.inl g0))), (p1, .inr (0, [.int b1, .int z1, .ref n1])), (n1, .inl (nc1, 40, .inr (.inl g1))), (p2, .inr (0, [.int b2, .int z2, .ref n2])), (n2, .inl (nc2, 40, .inr (.inl g2))), (p3, .inr (0, [.int b3, .int z3, .ref n3])), (n3, .inl (nc3, 40, .inr (.inl g3))), (h0, .inr (6, [v0, v1, v2, v3, v4, .ref ph, .ref t0, v7])), (t0, .inl (tc, 7, .inl tg_20))] H := hP
      have hD : va_D A [(ph, .inl (pc, 4, .inr (.inr (.inr (.inr pf))))), (p0, .inr (0, [.int b0, .int z0, .ref n0])), (n0, .inl (nc0, 40, .inr (.inl g0))), (p1, .inr (0, [.int b1, .int z1, .ref n1])), (n1, .inl (nc1, 40, .inr (.inl g1))), (p2, .inr (0, [.int b2, .int z2, .ref n2])), (n2, .inl (nc2, 40, .inr (.inl g2))), (p3, .inr (0, [.int b3, .int z3, .ref n3])), (n3, .inl (nc3, 40, .inr (.inl g3))), (h0, .inr (6, [v0, v1, v2, v3, v4, .ref ph, .ref t0, v7])), (t0, .inl (tc, 7, .inl tg_20))] := hD
      subst hw
      have hP9 := hP.sub (ws' := [(h0, .inr (6, [v0, v1, v2, v3, v4, .ref ph, .ref t0, v7])), (t0, .inl (tc, 7, .inl tg_20)), (ph, .inl (pc, 4, .inr (.inr (.inr (.inr pf))))), (p0, .inr (0, [.int b0, .int z0, .ref n0])), (n0, .inl (nc0, 40, .inr (.inl g0))), (p1, .inr (0, [.int b1, .int z1, .ref n1])), (n1, .inl (nc1, 40, .inr (.inl g1))), (p2, .inr (0, [.int b2, .int z2, .ref n2])), (n2, .inl (nc2, 40, .inr (.inl g2))), (p3, .inr (0, [.int b3, .int z3, .ref n3])), (n3, .inl (nc3, 40, .inr (.inl g3)))]) [9, 10, 0, 1, 2, 3, 4, 5, 6, 7, 8] rfl
      have hD9 := hD.sub (ws' := [(h0, .inr (6, [v0, v1, v2, v3, v4, .ref ph, .ref t0, v7])), (t0, .inl (tc, 7, .inl tg_20)), (ph, .inl (pc, 4, .inr (.inr (.inr (.inr pf))))), (p0, .inr (0, [.int b0, .int z0, .ref n0])), (n0, .inl (nc0, 40, .inr (.inl g0))), (p1, .inr (0, [.int b1, .int z1, .ref n1])), (n1, .inl (nc1, 40, .inr (.inl g1))), (p2, .inr (0, [.int b2, .int z2, .ref n2])), (n2, .inl (nc2, 40, .inr (.inl g2))), (p3, .inr (0, [.int b3, .int z3, .ref n3])), (n3, .inl (nc3, 40, .inr (.inl g3)))]) [9, 10, 0, 1, 2, 3, 4, 5, 6, 7, 8] (by decide) rfl
      have hK9 := hK.sub (tys' := [(tc, .int), (pc, .object "LampShapes$Paper"), (nc0, .long), (nc1, .long), (nc2, .long), (nc3, .long)]) [0, 1, 2, 3, 4, 5] rfl
      exact W.iret (v := ((-1000000001) : Int32)) hx hb hr (fun t ht hW => ⟨⟨((-1000000001) : Int32), (), rfl, trivial, tg_20, g0, g1, g2, g3, by rw [ht]; exact hP9, va_K.moved hW.alike hK9, hD9⟩, hS.F ht⟩) hS.2.2 dX8_copy_30
    · skip
      refine Met.ofW (cc := cX8_copy) (maxL := 8) (ret := (some .int)) (by decide) rfl ?_
      intro p e s m args below meth c s₁ B hml hv
      obtain ⟨rfl, hsz, hP, hK, hD0, hev⟩ := hv
      have hx := B.exec
      have hb := B.bytes
      have hr := B.returns
      have hts := atoms_spec (ws := w_x_copy) B.pre
      have hown : s.vm.findClass RX8 = some m.cls := findClass_of_methodNamed B.named
      have hlocks := B.notSynchronized
      have inX8 : ∀ w ∈ wsX80, w ∈ w_x_copy := fun w h => List.mem_cons_of_mem _ (List.mem_append_left _ (List.mem_append_right _ h))
      have inX2 : ∀ w ∈ wsX20, w ∈ w_x_copy := fun w h => List.mem_cons_of_mem _ (List.mem_append_right _ h)
      subst hsz
      have hD := hD0.self (sz := s.heap.size)
      generalize hAe : va_A [(h0, .inr (6, [v0, v1, v2, v3, v4, .ref ph, .ref t0, v7])), (t0, .inl (tc, 7, .inl tf)), (ph, .inl (pc, 4, .inr (.inr (.inr (.inr pf))))), (p0, .inr (0, [.int b0, .int z0, .ref n0])), (n0, .inl (nc0, 40, .inr (.inl g0))), (p1, .inr (0, [.int b1, .int z1, .ref n1])), (n1, .inl (nc1, 40, .inr (.inl g1))), (p2, .inr (0, [.int b2, .int z2, .ref n2])), (n2, .inl (nc2, 40, .inr (.inl g2))), (p3, .inr (0, [.int b3, .int z3, .ref n3])), (n3, .inl (nc3, 40, .inr (.inl g3)))] s.heap.size = A at hD ⊢
      have hA : ∀ q : Nat, s.heap.size ≤ q → A q := fun q h => by rw [← hAe]; exact Or.inr h
      have hS : va_S A s.heap s.heap [] := va_S.rf
      have hP : va_P (dC, dI) vwCl [(h0, .inr (6, [v0, v1, v2, v3, v4, .ref ph, .ref t0, v7])), (t0, .inl (tc, 7, .inl tf)), (ph, .inl (pc, 4, .inr (.inr (.inr (.inr pf))))), (p0, .inr (0, [.int b0, .int z0, .ref n0])), (n0, .inl (nc0, 40, .inr (.inl g0))), (p1, .inr (0, [.int b1, .int z1, .ref n1])), (n1, .inl (nc1, 40, .inr (.inl g1))), (p2, .inr (0, [.int b2, .int z2, .ref n2])), (n2, .inl (nc2, 40, .inr (.inl g2))), (p3, .inr (0, [.int b3, .int z3, .ref n3])), (n3, .inl (nc3, 40, .inr (.inl g3)))] s.heap := hP
      have hl := lv_entry ([.ref h0, .int sn, .int i, .int 3, .int j, .int n]) (n := 8) (Nat.le_of_ble_eq_true rfl)
      rw [lg_entry_eq]
      generalize (lg_sl ([.ref h0, .int sn, .int i, .int 3, .int j, .int n]) ++ List.replicate (8 - (lg_sl ([.ref h0, .int sn, .int i, .int 3, .int j, .int n])).length) Slot.unset).toArray = ls at hl ⊢
      have hl : lv_has ls 8 [(0, .ref h0), (1, .int sn), (2, .int i), (3, .int 3), (4, .int j), (5, .int n)] := hl
      have thlt0 : sn.toInt < 0 := (fa_lt _ _).mp hlt0
      refine lv_aload_n hx hb dX8_copy_0 rfl (lv_at hl 0 rfl) ?_
      refine lv_iload_n hx hb dX8_copy_1 rfl (lv_at hl 1 rfl) ?_
      have hPc := hP.sub (ws' := [(h0, .inr (6, [v0, v1, v2, v3, v4, .ref ph, .ref t0, v7]))]) [0] rfl
      have hKc := hK.sub (tys' := []) [] rfl
      refine va_csq (W.runV (As := [.int sn]) (rest := []) ⟨hx, hb, hml, hown, hts⟩ (c_paperAt_lt l dC dI ad h0 sn v0 v1 v2 v3 v4 (.ref ph) (.ref t0) v7 hlt0) (cwV 1 hts g_x_copy_c_paperAt_lt_256 rfl rfl rfl (by decide +kernel) ⟨(Nat.le_of_ble_eq_true rfl), (Nat.le_of_ble_eq_true rfl)⟩) ⟨preS_blind, va_recv hKc hPc (ci := 6) (q0 := 0) rfl rfl, fun U hU hW => ⟨rfl, preS_at hU hW hPc hKc hev⟩⟩ rfl rfl hl.1 rfl (lv_room (Nat.le_of_ble_eq_true rfl)) dX8_copy_2 ⟨(Nat.le_of_ble_eq_true rfl), (Nat.le_of_ble_eq_true rfl)⟩) (fun r_21 hw => ?_)
      subst hw
      refine pp_tv (y := .null) rfl ?_
      refine lv_astoreN (lv' := [(6, .null), (0, .ref h0), (1, .int sn), (2, .int i), (3, .int 3), (4, .int j), (5, .int n)]) hx hb dX8_copy_5 hl (by decide) rfl (fun ls hl => ?_)
      refine lv_aload_n hx hb dX8_copy_7 rfl (lv_at hl 1 rfl) ?_
      refine lv_iload_n hx hb dX8_copy_8 rfl (lv_at hl 4 rfl) ?_
      have hPc := hP.sub (ws' := [(h0, .inr (6, [v0, v1, v2, v3, v4, .ref ph, .ref t0, v7])), (ph, .inl (pc, 4, .inr (.inr (.inr (.inr pf)))))]) [0, 2] rfl
      have hKc := hK.sub (tys' := [(pc, .object "LampShapes$Paper")]) [1] rfl
      refine va_csq (W.runV (As := [.int 3]) (rest := []) ⟨hx, hb, hml, hown, hts⟩ (c_paperAt_3 l dC dI ad h0 v0 v1 v2 v3 v4 ph (.ref t0) v7 pc pf p3 hp3) (cwV 1 hts g_x_copy_c_paperAt_3_256 rfl rfl rfl (by decide +kernel) ⟨(Nat.le_of_ble_eq_true rfl), (Nat.le_of_ble_eq_true rfl)⟩) ⟨preS_blind, va_recv hKc hPc (ci := 6) (q0 := 0) rfl rfl, fun U hU hW => ⟨rfl, preS_at hU hW hPc hKc hev⟩⟩ rfl rfl hl.1 rfl (lv_room (Nat.le_of_ble_eq_true rfl)) dX8_copy_9 ⟨(Nat.le_of_ble_eq_true rfl), (Nat.le_of_ble_eq_true rfl)⟩) (fun r_22 hw => ?_)
      subst hw
      refine pp_tv (y := .ref p3) rfl ?_
      refine lv_astore (lv' := [(7, .ref p3), (6, .null), (0, .ref h0), (1, .int sn), (2, .int i), (3, .int 3), (4, .int j), (5, .int n)]) hx hb dX8_copy_12 hl (by decide) rfl (fun ls hl => ?_)
      refine lv_aloadN hx hb dX8_copy_14 (lv_at hl 1 rfl) ?_
      refine lv_ifnullN (tgt := 24) hx hb dX8_copy_16 (by decide) ?_
      refine lv_aload_n hx hb dX8_copy_24 rfl (lv_at hl 2 rfl) ?_
      refine lv_ldc hx hb hown (hts _ (List.mem_of_getElem? (i := 6) rfl)) dX8_copy_25 ?_
      have hPc := hP.sub (ws' := [(h0, .inr (6, [v0, v1, v2, v3, v4, .ref ph, .ref t0, v7])), (t0, .inl (tc, 7, .inl tf))]) [0, 1] rfl
      have hKc := hK.sub (tys' := [(tc, .int)]) [0] rfl
      have hDc := hD.sub (ws' := [(h0, .inr (6, [v0, v1, v2, v3, v4, .ref ph, .ref t0, v7])), (t0, .inl (tc, 7, .inl tf))]) [0, 1] (by decide) rfl
      have hFc := va_free (wc := [(h0, .inr (6, [v0, v1, v2, v3, v4, .ref ph, .ref t0, v7])), (t0, .inl (tc, 7, .inl tf))]) hD hS hA [0, 1] rfl
      refine va_calli (va_runV (As := [.int (-1000000001)]) (rest := []) ⟨hx, hb, hml, hown, hts⟩ (f_beyond l dC dI ad h0 v0 v1 v2 v3 v4 (.ref ph) t0 v7 tc tf s.heap.size ) (cwV 1 hts g_x_copy_f_beyond_63 rfl rfl rfl (by decide +kernel) ⟨(Nat.le_of_ble_eq_true rfl), (Nat.le_of_ble_eq_true rfl)⟩) ⟨preM_blind, va_recv hKc hPc (ci := 6) (q0 := 0) rfl rfl, fun U hU hW => ⟨rfl, preM_at hU hW hPc hKc hDc hev⟩⟩ rfl rfl hl.1 rfl (lv_room (Nat.le_of_ble_eq_true rfl)) dX8_copy_27 ⟨(Nat.le_of_ble_eq_true rfl), (Nat.le_of_ble_eq_true rfl)⟩) hS (fun q _ h => hFc q h) hFc (fun r_23 u t H1 locs ht hvm hw hB hz1 hk1 hS => ?_)
      obtain ⟨tg_24, hP1, hK1, hD1⟩ := hB
      rw [ht] at hP1
      have hK1 := va_K.moved hvm.symm hK1
      obtain ⟨hP, hD⟩ := va_join (wr := [(ph, .inl (pc, 4, .inr (.inr (.inr (.inr pf))))), (p0, .inr (0, [.int b0, .int z0, .ref n0])), (n0, .inl (nc0, 40, .inr (.inl g0))), (p1, .inr (0, [.int b1, .int z1, .ref n1])), (n1, .inl (nc1, 40, .inr (.inl g1))), (p2, .inr (0, [.int b2, .int z2, .ref n2])), (n2, .inl (nc2, 40, .inr (.inl g2))), (p3, .inr (0, [.int b3, .int z3, .ref n3])), (n3, .inl (nc3, 40, .inr (.inl g3)))]) (w1 := [(h0, .inr (6, [v0, v1, v2, v3, v4, .ref ph, .ref t0, v7])), (t0, .inl (tc, 7, .inl tg_24))]) hP hD [0, 1] [2, 3, 4, 5, 6, 7, 8, 9, 10] rfl rfl (by decide) (by decide) hk1 hFc hP1 hD1
      generalize H1 = H at hP hS ⊢
      have hP : va_P (dC, dI) vwCl [(ph, .inl (pc, 4, .inr (.inr (.inr (.inr pf))))), (p0, .inr (0, [.int b0, .int z0, .ref n0])), (n0, .inl (nc0, 40, .inr (.inl g0))), (p1, .inr (0, [.int b1, .int z1, .ref n1])), (n1, .inl (nc1, 40, .inr (.inl g1))), (p2, .inr (0, [.int b2, .int z2, .ref n2])), (n2, .inl (nc2, 40, .inr (.inl g2))), (p3, .inr (0, [.int b3, .int z3, .ref n3])), (n3, .inl (nc3, 40, .inr (.inl g3))), (h0, .inr (6, [v0, v1, v2, v3, v4, .ref ph, .ref t0, v7])), (t0, .inl (tc, 7, .inl tg_24))] H := hP
      have hD : va_D A [(ph, .inl (pc, 4, .inr (.inr (.inr (.inr pf))))), (p0, .inr (0, [.int b0, .int z0, .ref n0])), (n0, .inl (nc0, 40, .inr (.inl g0))), (p1, .inr (0, [.int b1, .int z1, .ref n1])), (n1, .inl (nc1, 40, .inr (.inl g1))), (p2, .inr (0, [.int b2, .int z2, .ref n2])), (n2, .inl (nc2, 40, .inr (.inl g2))), (p3, .inr (0, [.int b3, .int z3, .ref n3])), (n3, .inl (nc3, 40, .inr (.inl g3))), (h0, .inr (6, [v0, v1, v2, v3, v4, .ref ph, .ref t0, v7])), (t0, .inl (tc, 7, .inl tg_24))] := hD
      subst hw
      have hP9 := hP.sub (ws' := [(h0, .inr (6, [v0, v1, v2, v3, v4, .ref ph, .ref t0, v7])), (t0, .inl (tc, 7, .inl tg_24)), (ph, .inl (pc, 4, .inr (.inr (.inr (.inr pf))))), (p0, .inr (0, [.int b0, .int z0, .ref n0])), (n0, .inl (nc0, 40, .inr (.inl g0))), (p1, .inr (0, [.int b1, .int z1, .ref n1])), (n1, .inl (nc1, 40, .inr (.inl g1))), (p2, .inr (0, [.int b2, .int z2, .ref n2])), (n2, .inl (nc2, 40, .inr (.inl g2))), (p3, .inr (0, [.int b3, .int z3, .ref n3])), (n3, .inl (nc3, 40, .inr (.inl g3)))]) [9, 10, 0, 1, 2, 3, 4, 5, 6, 7, 8] rfl
      have hD9 := hD.sub (ws' := [(h0, .inr (6, [v0, v1, v2, v3, v4, .ref ph, .ref t0, v7])), (t0, .inl (tc, 7, .inl tg_24)), (ph, .inl (pc, 4, .inr (.inr (.inr (.inr pf))))), (p0, .inr (0, [.int b0, .int z0, .ref n0])), (n0, .inl (nc0, 40, .inr (.inl g0))), (p1, .inr (0, [.int b1, .int z1, .ref n1])), (n1, .inl (nc1, 40, .inr (.inl g1))), (p2, .inr (0, [.int b2, .int z2, .ref n2])), (n2, .inl (nc2, 40, .inr (.inl g2))), (p3, .inr (0, [.int b3, .int z3, .ref n3])), (n3, .inl (nc3, 40, .inr (.inl g3)))]) [9, 10, 0, 1, 2, 3, 4, 5, 6, 7, 8] (by decide) rfl
      have hK9 := hK.sub (tys' := [(tc, .int), (pc, .object "LampShapes$Paper"), (nc0, .long), (nc1, .long), (nc2, .long), (nc3, .long)]) [0, 1, 2, 3, 4, 5] rfl
      exact W.iret (v := ((-1000000001) : Int32)) hx hb hr (fun t ht hW => ⟨⟨((-1000000001) : Int32), (), rfl, trivial, tg_24, g0, g1, g2, g3, by rw [ht]; exact hP9, va_K.moved hW.alike hK9, hD9⟩, hS.F ht⟩) hS.2.2 dX8_copy_30
  · skip
    rcases pp_c_0_3 d with hlt1 | hgt1 | rfl | rfl | rfl | rfl
    · skip
      refine Met.ofW (cc := cX8_copy) (maxL := 8) (ret := (some .int)) (by decide) rfl ?_
      intro p e s m args below meth c s₁ B hml hv
      obtain ⟨rfl, hsz, hP, hK, hD0, hev⟩ := hv
      have hx := B.exec
      have hb := B.bytes
      have hr := B.returns
      have hts := atoms_spec (ws := w_x_copy) B.pre
      have hown : s.vm.findClass RX8 = some m.cls := findClass_of_methodNamed B.named
      have hlocks := B.notSynchronized
      have inX8 : ∀ w ∈ wsX80, w ∈ w_x_copy := fun w h => List.mem_cons_of_mem _ (List.mem_append_left _ (List.mem_append_right _ h))
      have inX2 : ∀ w ∈ wsX20, w ∈ w_x_copy := fun w h => List.mem_cons_of_mem _ (List.mem_append_right _ h)
      subst hsz
      have hD := hD0.self (sz := s.heap.size)
      generalize hAe : va_A [(h0, .inr (6, [v0, v1, v2, v3, v4, .ref ph, .ref t0, v7])), (t0, .inl (tc, 7, .inl tf)), (ph, .inl (pc, 4, .inr (.inr (.inr (.inr pf))))), (p0, .inr (0, [.int b0, .int z0, .ref n0])), (n0, .inl (nc0, 40, .inr (.inl g0))), (p1, .inr (0, [.int b1, .int z1, .ref n1])), (n1, .inl (nc1, 40, .inr (.inl g1))), (p2, .inr (0, [.int b2, .int z2, .ref n2])), (n2, .inl (nc2, 40, .inr (.inl g2))), (p3, .inr (0, [.int b3, .int z3, .ref n3])), (n3, .inl (nc3, 40, .inr (.inl g3)))] s.heap.size = A at hD ⊢
      have hA : ∀ q : Nat, s.heap.size ≤ q → A q := fun q h => by rw [← hAe]; exact Or.inr h
      have hS : va_S A s.heap s.heap [] := va_S.rf
      have hP : va_P (dC, dI) vwCl [(h0, .inr (6, [v0, v1, v2, v3, v4, .ref ph, .ref t0, v7])), (t0, .inl (tc, 7, .inl tf)), (ph, .inl (pc, 4, .inr (.inr (.inr (.inr pf))))), (p0, .inr (0, [.int b0, .int z0, .ref n0])), (n0, .inl (nc0, 40, .inr (.inl g0))), (p1, .inr (0, [.int b1, .int z1, .ref n1])), (n1, .inl (nc1, 40, .inr (.inl g1))), (p2, .inr (0, [.int b2, .int z2, .ref n2])), (n2, .inl (nc2, 40, .inr (.inl g2))), (p3, .inr (0, [.int b3, .int z3, .ref n3])), (n3, .inl (nc3, 40, .inr (.inl g3)))] s.heap := hP
      have hl := lv_entry ([.ref h0, .int sn, .int i, .int d, .int j, .int n]) (n := 8) (Nat.le_of_ble_eq_true rfl)
      rw [lg_entry_eq]
      generalize (lg_sl ([.ref h0, .int sn, .int i, .int d, .int j, .int n]) ++ List.replicate (8 - (lg_sl ([.ref h0, .int sn, .int i, .int d, .int j, .int n])).length) Slot.unset).toArray = ls at hl ⊢
      have hl : lv_has ls 8 [(0, .ref h0), (1, .int sn), (2, .int i), (3, .int d), (4, .int j), (5, .int n)] := hl
      have thgt0 : 3 < sn.toInt := (fa_lt _ _).mp hgt0
      have thlt1 : d.toInt < 0 := (fa_lt _ _).mp hlt1
      refine lv_aload_n hx hb dX8_copy_0 rfl (lv_at hl 0 rfl) ?_
      refine lv_iload_n hx hb dX8_copy_1 rfl (lv_at hl 1 rfl) ?_
      have hPc := hP.sub (ws' := [(h0, .inr (6, [v0, v1, v2, v3, v4, .ref ph, .ref t0, v7]))]) [0] rfl
      have hKc := hK.sub (tys' := []) [] rfl
      refine va_csq (W.runV (As := [.int sn]) (rest := []) ⟨hx, hb, hml, hown, hts⟩ (c_paperAt_gt l dC dI ad h0 sn v0 v1 v2 v3 v4 (.ref ph) (.ref t0) v7 hgt0) (cwV 1 hts g_x_copy_c_paperAt_gt_256 rfl rfl rfl (by decide +kernel) ⟨(Nat.le_of_ble_eq_true rfl), (Nat.le_of_ble_eq_true rfl)⟩) ⟨preS_blind, va_recv hKc hPc (ci := 6) (q0 := 0) rfl rfl, fun U hU hW => ⟨rfl, preS_at hU hW hPc hKc hev⟩⟩ rfl rfl hl.1 rfl (lv_room (Nat.le_of_ble_eq_true rfl)) dX8_copy_2 ⟨(Nat.le_of_ble_eq_true rfl), (Nat.le_of_ble_eq_true rfl)⟩) (fun r_25 hw => ?_)
      subst hw
      refine pp_tv (y := .null) rfl ?_
      refine lv_astoreN (lv' := [(6, .null), (0, .ref h0), (1, .int sn), (2, .int i), (3, .int d), (4, .int j), (5, .int n)]) hx hb dX8_copy_5 hl (by decide) rfl (fun ls hl => ?_)
      refine lv_aload_n hx hb dX8_copy_7 rfl (lv_at hl 1 rfl) ?_
      refine lv_iload_n hx hb dX8_copy_8 rfl (lv_at hl 4 rfl) ?_
      have hPc := hP.sub (ws' := [(h0, .inr (6, [v0, v1, v2, v3, v4, .ref ph, .ref t0, v7]))]) [0] rfl
      have hKc := hK.sub (tys' := []) [] rfl
      refine va_csq (W.runV (As := [.int d]) (rest := []) ⟨hx, hb, hml, hown, hts⟩ (c_paperAt_lt l dC dI ad h0 d v0 v1 v2 v3 v4 (.ref ph) (.ref t0) v7 hlt1) (cwV 1 hts g_x_copy_c_paperAt_lt_256 rfl rfl rfl (by decide +kernel) ⟨(Nat.le_of_ble_eq_true rfl), (Nat.le_of_ble_eq_true rfl)⟩) ⟨preS_blind, va_recv hKc hPc (ci := 6) (q0 := 0) rfl rfl, fun U hU hW => ⟨rfl, preS_at hU hW hPc hKc hev⟩⟩ rfl rfl hl.1 rfl (lv_room (Nat.le_of_ble_eq_true rfl)) dX8_copy_9 ⟨(Nat.le_of_ble_eq_true rfl), (Nat.le_of_ble_eq_true rfl)⟩) (fun r_26 hw => ?_)
      subst hw
      refine pp_tv (y := .null) rfl ?_
      refine lv_astoreN (lv' := [(7, .null), (6, .null), (0, .ref h0), (1, .int sn), (2, .int i), (3, .int d), (4, .int j), (5, .int n)]) hx hb dX8_copy_12 hl (by decide) rfl (fun ls hl => ?_)
      refine lv_aloadN hx hb dX8_copy_14 (lv_at hl 1 rfl) ?_
      refine lv_ifnullN (tgt := 24) hx hb dX8_copy_16 (by decide) ?_
      refine lv_aload_n hx hb dX8_copy_24 rfl (lv_at hl 2 rfl) ?_
      refine lv_ldc hx hb hown (hts _ (List.mem_of_getElem? (i := 6) rfl)) dX8_copy_25 ?_
      have hPc := hP.sub (ws' := [(h0, .inr (6, [v0, v1, v2, v3, v4, .ref ph, .ref t0, v7])), (t0, .inl (tc, 7, .inl tf))]) [0, 1] rfl
      have hKc := hK.sub (tys' := [(tc, .int)]) [0] rfl
      have hDc := hD.sub (ws' := [(h0, .inr (6, [v0, v1, v2, v3, v4, .ref ph, .ref t0, v7])), (t0, .inl (tc, 7, .inl tf))]) [0, 1] (by decide) rfl
      have hFc := va_free (wc := [(h0, .inr (6, [v0, v1, v2, v3, v4, .ref ph, .ref t0, v7])), (t0, .inl (tc, 7, .inl tf))]) hD hS hA [0, 1] rfl
      refine va_calli (va_runV (As := [.int (-1000000001)]) (rest := []) ⟨hx, hb, hml, hown, hts⟩ (f_beyond l dC dI ad h0 v0 v1 v2 v3 v4 (.ref ph) t0 v7 tc tf s.heap.size ) (cwV 1 hts g_x_copy_f_beyond_63 rfl rfl rfl (by decide +kernel) ⟨(Nat.le_of_ble_eq_true rfl), (Nat.le_of_ble_eq_true rfl)⟩) ⟨preM_blind, va_recv hKc hPc (ci := 6) (q0 := 0) rfl rfl, fun U hU hW => ⟨rfl, preM_at hU hW hPc hKc hDc hev⟩⟩ rfl rfl hl.1 rfl (lv_room (Nat.le_of_ble_eq_true rfl)) dX8_copy_27 ⟨(Nat.le_of_ble_eq_true rfl), (Nat.le_of_ble_eq_true rfl)⟩) hS (fun q _ h => hFc q h) hFc (fun r_27 u t H1 locs ht hvm hw hB hz1 hk1 hS => ?_)
      obtain ⟨tg_28, hP1, hK1, hD1⟩ := hB
      rw [ht] at hP1
      have hK1 := va_K.moved hvm.symm hK1
      obtain ⟨hP, hD⟩ := va_join (wr := [(ph, .inl (pc, 4, .inr (.inr (.inr (.inr pf))))), (p0, .inr (0, [.int b0, .int z0, .ref n0])), (n0, .inl (nc0, 40, .inr (.inl g0))), (p1, .inr (0, [.int b1, .int z1, .ref n1])), (n1, .inl (nc1, 40, .inr (.inl g1))), (p2, .inr (0, [.int b2, .int z2, .ref n2])), (n2, .inl (nc2, 40, .inr (.inl g2))), (p3, .inr (0, [.int b3, .int z3, .ref n3])), (n3, .inl (nc3, 40, .inr (.inl g3)))]) (w1 := [(h0, .inr (6, [v0, v1, v2, v3, v4, .ref ph, .ref t0, v7])), (t0, .inl (tc, 7, .inl tg_28))]) hP hD [0, 1] [2, 3, 4, 5, 6, 7, 8, 9, 10] rfl rfl (by decide) (by decide) hk1 hFc hP1 hD1
      generalize H1 = H at hP hS ⊢
      have hP : va_P (dC, dI) vwCl [(ph, .inl (pc, 4, .inr (.inr (.inr (.inr pf))))), (p0, .inr (0, [.int b0, .int z0, .ref n0])), (n0, .inl (nc0, 40, .inr (.inl g0))), (p1, .inr (0, [.int b1, .int z1, .ref n1])), (n1, .inl (nc1, 40, .inr (.inl g1))), (p2, .inr (0, [.int b2, .int z2, .ref n2])), (n2, .inl (nc2, 40, .inr (.inl g2))), (p3, .inr (0, [.int b3, .int z3, .ref n3])), (n3, .inl (nc3, 40, .inr (.inl g3))), (h0, .inr (6, [v0, v1, v2, v3, v4, .ref ph, .ref t0, v7])), (t0, .inl (tc, 7, .inl tg_28))] H := hP
      have hD : va_D A [(ph, .inl (pc, 4, .inr (.inr (.inr (.inr pf))))), (p0, .inr (0, [.int b0, .int z0, .ref n0])), (n0, .inl (nc0, 40, .inr (.inl g0))), (p1, .inr (0, [.int b1, .int z1, .ref n1])), (n1, .inl (nc1, 40, .inr (.inl g1))), (p2, .inr (0, [.int b2, .int z2, .ref n2])), (n2, .inl (nc2, 40, .inr (.inl g2))), (p3, .inr (0, [.int b3, .int z3, .ref n3])), (n3, .inl (nc3, 40, .inr (.inl g3))), (h0, .inr (6, [v0, v1, v2, v3, v4, .ref ph, .ref t0, v7])), (t0, .inl (tc, 7, .inl tg_28))] := hD
      subst hw
      have hP9 := hP.sub (ws' := [(h0, .inr (6, [v0, v1, v2, v3, v4, .ref ph, .ref t0, v7])), (t0, .inl (tc, 7, .inl tg_28)), (ph, .inl (pc, 4, .inr (.inr (.inr (.inr pf))))), (p0, .inr (0, [.int b0, .int z0, .ref n0])), (n0, .inl (nc0, 40, .inr (.inl g0))), (p1, .inr (0, [.int b1, .int z1, .ref n1])), (n1, .inl (nc1, 40, .inr (.inl g1))), (p2, .inr (0, [.int b2, .int z2, .ref n2])), (n2, .inl (nc2, 40, .inr (.inl g2))), (p3, .inr (0, [.int b3, .int z3, .ref n3])), (n3, .inl (nc3, 40, .inr (.inl g3)))]) [9, 10, 0, 1, 2, 3, 4, 5, 6, 7, 8] rfl
      have hD9 := hD.sub (ws' := [(h0, .inr (6, [v0, v1, v2, v3, v4, .ref ph, .ref t0, v7])), (t0, .inl (tc, 7, .inl tg_28)), (ph, .inl (pc, 4, .inr (.inr (.inr (.inr pf))))), (p0, .inr (0, [.int b0, .int z0, .ref n0])), (n0, .inl (nc0, 40, .inr (.inl g0))), (p1, .inr (0, [.int b1, .int z1, .ref n1])), (n1, .inl (nc1, 40, .inr (.inl g1))), (p2, .inr (0, [.int b2, .int z2, .ref n2])), (n2, .inl (nc2, 40, .inr (.inl g2))), (p3, .inr (0, [.int b3, .int z3, .ref n3])), (n3, .inl (nc3, 40, .inr (.inl g3)))]) [9, 10, 0, 1, 2, 3, 4, 5, 6, 7, 8] (by decide) rfl
      have hK9 := hK.sub (tys' := [(tc, .int), (pc, .object "LampShapes$Paper"), (nc0, .long), (nc1, .long), (nc2, .long), (nc3, .long)]) [0, 1, 2, 3, 4, 5] rfl
      exact W.iret (v := ((-1000000001) : Int32)) hx hb hr (fun t ht hW => ⟨⟨((-1000000001) : Int32), (), rfl, trivial, tg_28, g0, g1, g2, g3, by rw [ht]; exact hP9, va_K.moved hW.alike hK9, hD9⟩, hS.F ht⟩) hS.2.2 dX8_copy_30
    · skip
      refine Met.ofW (cc := cX8_copy) (maxL := 8) (ret := (some .int)) (by decide) rfl ?_
      intro p e s m args below meth c s₁ B hml hv
      obtain ⟨rfl, hsz, hP, hK, hD0, hev⟩ := hv
      have hx := B.exec
      have hb := B.bytes
      have hr := B.returns
      have hts := atoms_spec (ws := w_x_copy) B.pre
      have hown : s.vm.findClass RX8 = some m.cls := findClass_of_methodNamed B.named
      have hlocks := B.notSynchronized
      have inX8 : ∀ w ∈ wsX80, w ∈ w_x_copy := fun w h => List.mem_cons_of_mem _ (List.mem_append_left _ (List.mem_append_right _ h))
      have inX2 : ∀ w ∈ wsX20, w ∈ w_x_copy := fun w h => List.mem_cons_of_mem _ (List.mem_append_right _ h)
      subst hsz
      have hD := hD0.self (sz := s.heap.size)
      generalize hAe : va_A [(h0, .inr (6, [v0, v1, v2, v3, v4, .ref ph, .ref t0, v7])), (t0, .inl (tc, 7, .inl tf)), (ph, .inl (pc, 4, .inr (.inr (.inr (.inr pf))))), (p0, .inr (0, [.int b0, .int z0, .ref n0])), (n0, .inl (nc0, 40, .inr (.inl g0))), (p1, .inr (0, [.int b1, .int z1, .ref n1])), (n1, .inl (nc1, 40, .inr (.inl g1))), (p2, .inr (0, [.int b2, .int z2, .ref n2])), (n2, .inl (nc2, 40, .inr (.inl g2))), (p3, .inr (0, [.int b3, .int z3, .ref n3])), (n3, .inl (nc3, 40, .inr (.inl g3)))] s.heap.size = A at hD ⊢
      have hA : ∀ q : Nat, s.heap.size ≤ q → A q := fun q h => by rw [← hAe]; exact Or.inr h
      have hS : va_S A s.heap s.heap [] := va_S.rf
      have hP : va_P (dC, dI) vwCl [(h0, .inr (6, [v0, v1, v2, v3, v4, .ref ph, .ref t0, v7])), (t0, .inl (tc, 7, .inl tf)), (ph, .inl (pc, 4, .inr (.inr (.inr (.inr pf))))), (p0, .inr (0, [.int b0, .int z0, .ref n0])), (n0, .inl (nc0, 40, .inr (.inl g0))), (p1, .inr (0, [.int b1, .int z1, .ref n1])), (n1, .inl (nc1, 40, .inr (.inl g1))), (p2, .inr (0, [.int b2, .int z2, .ref n2])), (n2, .inl (nc2, 40, .inr (.inl g2))), (p3, .inr (0, [.int b3, .int z3, .ref n3])), (n3, .inl (nc3, 40, .inr (.inl g3)))] s.heap := hP
      have hl := lv_entry ([.ref h0, .int sn, .int i, .int d, .int j, .int n]) (n := 8) (Nat.le_of_ble_eq_true rfl)
      rw [lg_entry_eq]
      generalize (lg_sl ([.ref h0, .int sn, .int i, .int d, .int j, .int n]) ++ List.replicate (8 - (lg_sl ([.ref h0, .int sn, .int i, .int d, .int j, .int n])).length) Slot.unset).toArray = ls at hl ⊢
      have hl : lv_has ls 8 [(0, .ref h0), (1, .int sn), (2, .int i), (3, .int d), (4, .int j), (5, .int n)] := hl
      have thgt0 : 3 < sn.toInt := (fa_lt _ _).mp hgt0
      have thgt1 : 3 < d.toInt := (fa_lt _ _).mp hgt1
      refine lv_aload_n hx hb dX8_copy_0 rfl (lv_at hl 0 rfl) ?_
      refine lv_iload_n hx hb dX8_copy_1 rfl (lv_at hl 1 rfl) ?_
      have hPc := hP.sub (ws' := [(h0, .inr (6, [v0, v1, v2, v3, v4, .ref ph, .ref t0, v7]))]) [0] rfl
      have hKc := hK.sub (tys' := []) [] rfl
      refine va_csq (W.runV (As := [.int sn]) (rest := []) ⟨hx, hb, hml, hown, hts⟩ (c_paperAt_gt l dC dI ad h0 sn v0 v1 v2 v3 v4 (.ref ph) (.ref t0) v7 hgt0) (cwV 1 hts g_x_copy_c_paperAt_gt_256 rfl rfl rfl (by decide +kernel) ⟨(Nat.le_of_ble_eq_true rfl), (Nat.le_of_ble_eq_true rfl)⟩) ⟨preS_blind, va_recv hKc hPc (ci := 6) (q0 := 0) rfl rfl, fun U hU hW => ⟨rfl, preS_at hU hW hPc hKc hev⟩⟩ rfl rfl hl.1 rfl (lv_room (Nat.le_of_ble_eq_true rfl)) dX8_copy_2 ⟨(Nat.le_of_ble_eq_true rfl), (Nat.le_of_ble_eq_true rfl)⟩) (fun r_29 hw => ?_)
      subst hw
      refine pp_tv (y := .null) rfl ?_
      refine lv_astoreN (lv' := [(6, .null), (0, .ref h0), (1, .int sn), (2, .int i), (3, .int d), (4, .int j), (5, .int n)]) hx hb dX8_copy_5 hl (by decide) rfl (fun ls hl => ?_)
      refine lv_aload_n hx hb dX8_copy_7 rfl (lv_at hl 1 rfl) ?_
      refine lv_iload_n hx hb dX8_copy_8 rfl (lv_at hl 4 rfl) ?_
      have hPc := hP.sub (ws' := [(h0, .inr (6, [v0, v1, v2, v3, v4, .ref ph, .ref t0, v7]))]) [0] rfl
      have hKc := hK.sub (tys' := []) [] rfl
      refine va_csq (W.runV (As := [.int d]) (rest := []) ⟨hx, hb, hml, hown, hts⟩ (c_paperAt_gt l dC dI ad h0 d v0 v1 v2 v3 v4 (.ref ph) (.ref t0) v7 hgt1) (cwV 1 hts g_x_copy_c_paperAt_gt_256 rfl rfl rfl (by decide +kernel) ⟨(Nat.le_of_ble_eq_true rfl), (Nat.le_of_ble_eq_true rfl)⟩) ⟨preS_blind, va_recv hKc hPc (ci := 6) (q0 := 0) rfl rfl, fun U hU hW => ⟨rfl, preS_at hU hW hPc hKc hev⟩⟩ rfl rfl hl.1 rfl (lv_room (Nat.le_of_ble_eq_true rfl)) dX8_copy_9 ⟨(Nat.le_of_ble_eq_true rfl), (Nat.le_of_ble_eq_true rfl)⟩) (fun r_30 hw => ?_)
      subst hw
      refine pp_tv (y := .null) rfl ?_
      refine lv_astoreN (lv' := [(7, .null), (6, .null), (0, .ref h0), (1, .int sn), (2, .int i), (3, .int d), (4, .int j), (5, .int n)]) hx hb dX8_copy_12 hl (by decide) rfl (fun ls hl => ?_)
      refine lv_aloadN hx hb dX8_copy_14 (lv_at hl 1 rfl) ?_
      refine lv_ifnullN (tgt := 24) hx hb dX8_copy_16 (by decide) ?_
      refine lv_aload_n hx hb dX8_copy_24 rfl (lv_at hl 2 rfl) ?_
      refine lv_ldc hx hb hown (hts _ (List.mem_of_getElem? (i := 6) rfl)) dX8_copy_25 ?_
      have hPc := hP.sub (ws' := [(h0, .inr (6, [v0, v1, v2, v3, v4, .ref ph, .ref t0, v7])), (t0, .inl (tc, 7, .inl tf))]) [0, 1] rfl
      have hKc := hK.sub (tys' := [(tc, .int)]) [0] rfl
      have hDc := hD.sub (ws' := [(h0, .inr (6, [v0, v1, v2, v3, v4, .ref ph, .ref t0, v7])), (t0, .inl (tc, 7, .inl tf))]) [0, 1] (by decide) rfl
      have hFc := va_free (wc := [(h0, .inr (6, [v0, v1, v2, v3, v4, .ref ph, .ref t0, v7])), (t0, .inl (tc, 7, .inl tf))]) hD hS hA [0, 1] rfl
      refine va_calli (va_runV (As := [.int (-1000000001)]) (rest := []) ⟨hx, hb, hml, hown, hts⟩ (f_beyond l dC dI ad h0 v0 v1 v2 v3 v4 (.ref ph) t0 v7 tc tf s.heap.size ) (cwV 1 hts g_x_copy_f_beyond_63 rfl rfl rfl (by decide +kernel) ⟨(Nat.le_of_ble_eq_true rfl), (Nat.le_of_ble_eq_true rfl)⟩) ⟨preM_blind, va_recv hKc hPc (ci := 6) (q0 := 0) rfl rfl, fun U hU hW => ⟨rfl, preM_at hU hW hPc hKc hDc hev⟩⟩ rfl rfl hl.1 rfl (lv_room (Nat.le_of_ble_eq_true rfl)) dX8_copy_27 ⟨(Nat.le_of_ble_eq_true rfl), (Nat.le_of_ble_eq_true rfl)⟩) hS (fun q _ h => hFc q h) hFc (fun r_31 u t H1 locs ht hvm hw hB hz1 hk1 hS => ?_)
      obtain ⟨tg_32, hP1, hK1, hD1⟩ := hB
      rw [ht] at hP1
      have hK1 := va_K.moved hvm.symm hK1
      obtain ⟨hP, hD⟩ := va_join (wr := [(ph, .inl (pc, 4, .inr (.inr (.inr (.inr pf))))), (p0, .inr (0, [.int b0, .int z0, .ref n0])), (n0, .inl (nc0, 40, .inr (.inl g0))), (p1, .inr (0, [.int b1, .int z1, .ref n1])), (n1, .inl (nc1, 40, .inr (.inl g1))), (p2, .inr (0, [.int b2, .int z2, .ref n2])), (n2, .inl (nc2, 40, .inr (.inl g2))), (p3, .inr (0, [.int b3, .int z3, .ref n3])), (n3, .inl (nc3, 40, .inr (.inl g3)))]) (w1 := [(h0, .inr (6, [v0, v1, v2, v3, v4, .ref ph, .ref t0, v7])), (t0, .inl (tc, 7, .inl tg_32))]) hP hD [0, 1] [2, 3, 4, 5, 6, 7, 8, 9, 10] rfl rfl (by decide) (by decide) hk1 hFc hP1 hD1
      generalize H1 = H at hP hS ⊢
      have hP : va_P (dC, dI) vwCl [(ph, .inl (pc, 4, .inr (.inr (.inr (.inr pf))))), (p0, .inr (0, [.int b0, .int z0, .ref n0])), (n0, .inl (nc0, 40, .inr (.inl g0))), (p1, .inr (0, [.int b1, .int z1, .ref n1])), (n1, .inl (nc1, 40, .inr (.inl g1))), (p2, .inr (0, [.int b2, .int z2, .ref n2])), (n2, .inl (nc2, 40, .inr (.inl g2))), (p3, .inr (0, [.int b3, .int z3, .ref n3])), (n3, .inl (nc3, 40, .inr (.inl g3))), (h0, .inr (6, [v0, v1, v2, v3, v4, .ref ph, .ref t0, v7])), (t0, .inl (tc, 7, .inl tg_32))] H := hP
      have hD : va_D A [(ph, .inl (pc, 4, .inr (.inr (.inr (.inr pf))))), (p0, .inr (0, [.int b0, .int z0, .ref n0])), (n0, .inl (nc0, 40, .inr (.inl g0))), (p1, .inr (0, [.int b1, .int z1, .ref n1])), (n1, .inl (nc1, 40, .inr (.inl g1))), (p2, .inr (0, [.int b2, .int z2, .ref n2])), (n2, .inl (nc2, 40, .inr (.inl g2))), (p3, .inr (0, [.int b3, .int z3, .ref n3])), (n3, .inl (nc3, 40, .inr (.inl g3))), (h0, .inr (6, [v0, v1, v2, v3, v4, .ref ph, .ref t0, v7])), (t0, .inl (tc, 7, .inl tg_32))] := hD
      subst hw
      have hP9 := hP.sub (ws' := [(h0, .inr (6, [v0, v1, v2, v3, v4, .ref ph, .ref t0, v7])), (t0, .inl (tc, 7, .inl tg_32)), (ph, .inl (pc, 4, .inr (.inr (.inr (.inr pf))))), (p0, .inr (0, [.int b0, .int z0, .ref n0])), (n0, .inl (nc0, 40, .inr (.inl g0))), (p1, .inr (0, [.int b1, .int z1, .ref n1])), (n1, .inl (nc1, 40, .inr (.inl g1))), (p2, .inr (0, [.int b2, .int z2, .ref n2])), (n2, .inl (nc2, 40, .inr (.inl g2))), (p3, .inr (0, [.int b3, .int z3, .ref n3])), (n3, .inl (nc3, 40, .inr (.inl g3)))]) [9, 10, 0, 1, 2, 3, 4, 5, 6, 7, 8] rfl
      have hD9 := hD.sub (ws' := [(h0, .inr (6, [v0, v1, v2, v3, v4, .ref ph, .ref t0, v7])), (t0, .inl (tc, 7, .inl tg_32)), (ph, .inl (pc, 4, .inr (.inr (.inr (.inr pf))))), (p0, .inr (0, [.int b0, .int z0, .ref n0])), (n0, .inl (nc0, 40, .inr (.inl g0))), (p1, .inr (0, [.int b1, .int z1, .ref n1])), (n1, .inl (nc1, 40, .inr (.inl g1))), (p2, .inr (0, [.int b2, .int z2, .ref n2])), (n2, .inl (nc2, 40, .inr (.inl g2))), (p3, .inr (0, [.int b3, .int z3, .ref n3])), (n3, .inl (nc3, 40, .inr (.inl g3)))]) [9, 10, 0, 1, 2, 3, 4, 5, 6, 7, 8] (by decide) rfl
      have hK9 := hK.sub (tys' := [(tc, .int), (pc, .object "LampShapes$Paper"), (nc0, .long), (nc1, .long), (nc2, .long), (nc3, .long)]) [0, 1, 2, 3, 4, 5] rfl
      exact W.iret (v := ((-1000000001) : Int32)) hx hb hr (fun t ht hW => ⟨⟨((-1000000001) : Int32), (), rfl, trivial, tg_32, g0, g1, g2, g3, by rw [ht]; exact hP9, va_K.moved hW.alike hK9, hD9⟩, hS.F ht⟩) hS.2.2 dX8_copy_30
    · skip
      refine Met.ofW (cc := cX8_copy) (maxL := 8) (ret := (some .int)) (by decide) rfl ?_
      intro p e s m args below meth c s₁ B hml hv
      obtain ⟨rfl, hsz, hP, hK, hD0, hev⟩ := hv
      have hx := B.exec
      have hb := B.bytes
      have hr := B.returns
      have hts := atoms_spec (ws := w_x_copy) B.pre
      have hown : s.vm.findClass RX8 = some m.cls := findClass_of_methodNamed B.named
      have hlocks := B.notSynchronized
      have inX8 : ∀ w ∈ wsX80, w ∈ w_x_copy := fun w h => List.mem_cons_of_mem _ (List.mem_append_left _ (List.mem_append_right _ h))
      have inX2 : ∀ w ∈ wsX20, w ∈ w_x_copy := fun w h => List.mem_cons_of_mem _ (List.mem_append_right _ h)
      subst hsz
      have hD := hD0.self (sz := s.heap.size)
      generalize hAe : va_A [(h0, .inr (6, [v0, v1, v2, v3, v4, .ref ph, .ref t0, v7])), (t0, .inl (tc, 7, .inl tf)), (ph, .inl (pc, 4, .inr (.inr (.inr (.inr pf))))), (p0, .inr (0, [.int b0, .int z0, .ref n0])), (n0, .inl (nc0, 40, .inr (.inl g0))), (p1, .inr (0, [.int b1, .int z1, .ref n1])), (n1, .inl (nc1, 40, .inr (.inl g1))), (p2, .inr (0, [.int b2, .int z2, .ref n2])), (n2, .inl (nc2, 40, .inr (.inl g2))), (p3, .inr (0, [.int b3, .int z3, .ref n3])), (n3, .inl (nc3, 40, .inr (.inl g3)))] s.heap.size = A at hD ⊢
      have hA : ∀ q : Nat, s.heap.size ≤ q → A q := fun q h => by rw [← hAe]; exact Or.inr h
      have hS : va_S A s.heap s.heap [] := va_S.rf
      have hP : va_P (dC, dI) vwCl [(h0, .inr (6, [v0, v1, v2, v3, v4, .ref ph, .ref t0, v7])), (t0, .inl (tc, 7, .inl tf)), (ph, .inl (pc, 4, .inr (.inr (.inr (.inr pf))))), (p0, .inr (0, [.int b0, .int z0, .ref n0])), (n0, .inl (nc0, 40, .inr (.inl g0))), (p1, .inr (0, [.int b1, .int z1, .ref n1])), (n1, .inl (nc1, 40, .inr (.inl g1))), (p2, .inr (0, [.int b2, .int z2, .ref n2])), (n2, .inl (nc2, 40, .inr (.inl g2))), (p3, .inr (0, [.int b3, .int z3, .ref n3])), (n3, .inl (nc3, 40, .inr (.inl g3)))] s.heap := hP
      have hl := lv_entry ([.ref h0, .int sn, .int i, .int 0, .int j, .int n]) (n := 8) (Nat.le_of_ble_eq_true rfl)
      rw [lg_entry_eq]
      generalize (lg_sl ([.ref h0, .int sn, .int i, .int 0, .int j, .int n]) ++ List.replicate (8 - (lg_sl ([.ref h0, .int sn, .int i, .int 0, .int j, .int n])).length) Slot.unset).toArray = ls at hl ⊢
      have hl : lv_has ls 8 [(0, .ref h0), (1, .int sn), (2, .int i), (3, .int 0), (4, .int j), (5, .int n)] := hl
      have thgt0 : 3 < sn.toInt := (fa_lt _ _).mp hgt0
      refine lv_aload_n hx hb dX8_copy_0 rfl (lv_at hl 0 rfl) ?_
      refine lv_iload_n hx hb dX8_copy_1 rfl (lv_at hl 1 rfl) ?_
      have hPc := hP.sub (ws' := [(h0, .inr (6, [v0, v1, v2, v3, v4, .ref ph, .ref t0, v7]))]) [0] rfl
      have hKc := hK.sub (tys' := []) [] rfl
      refine va_csq (W.runV (As := [.int sn]) (rest := []) ⟨hx, hb, hml, hown, hts⟩ (c_paperAt_gt l dC dI ad h0 sn v0 v1 v2 v3 v4 (.ref ph) (.ref t0) v7 hgt0) (cwV 1 hts g_x_copy_c_paperAt_gt_256 rfl rfl rfl (by decide +kernel) ⟨(Nat.le_of_ble_eq_true rfl), (Nat.le_of_ble_eq_true rfl)⟩) ⟨preS_blind, va_recv hKc hPc (ci := 6) (q0 := 0) rfl rfl, fun U hU hW => ⟨rfl, preS_at hU hW hPc hKc hev⟩⟩ rfl rfl hl.1 rfl (lv_room (Nat.le_of_ble_eq_true rfl)) dX8_copy_2 ⟨(Nat.le_of_ble_eq_true rfl), (Nat.le_of_ble_eq_true rfl)⟩) (fun r_33 hw => ?_)
      subst hw
      refine pp_tv (y := .null) rfl ?_
      refine lv_astoreN (lv' := [(6, .null), (0, .ref h0), (1, .int sn), (2, .int i), (3, .int 0), (4, .int j), (5, .int n)]) hx hb dX8_copy_5 hl (by decide) rfl (fun ls hl => ?_)
      refine lv_aload_n hx hb dX8_copy_7 rfl (lv_at hl 1 rfl) ?_
      refine lv_iload_n hx hb dX8_copy_8 rfl (lv_at hl 4 rfl) ?_
      have hPc := hP.sub (ws' := [(h0, .inr (6, [v0, v1, v2, v3, v4, .ref ph, .ref t0, v7])), (ph, .inl (pc, 4, .inr (.inr (.inr (.inr pf)))))]) [0, 2] rfl
      have hKc := hK.sub (tys' := [(pc, .object "LampShapes$Paper")]) [1] rfl
      refine va_csq (W.runV (As := [.int 0]) (rest := []) ⟨hx, hb, hml, hown, hts⟩ (c_paperAt_0 l dC dI ad h0 v0 v1 v2 v3 v4 ph (.ref t0) v7 pc pf p0 hp0) (cwV 1 hts g_x_copy_c_paperAt_0_256 rfl rfl rfl (by decide +kernel) ⟨(Nat.le_of_ble_eq_true rfl), (Nat.le_of_ble_eq_true rfl)⟩) ⟨preS_blind, va_recv hKc hPc (ci := 6) (q0 := 0) rfl rfl, fun U hU hW => ⟨rfl, preS_at hU hW hPc hKc hev⟩⟩ rfl rfl hl.1 rfl (lv_room (Nat.le_of_ble_eq_true rfl)) dX8_copy_9 ⟨(Nat.le_of_ble_eq_true rfl), (Nat.le_of_ble_eq_true rfl)⟩) (fun r_34 hw => ?_)
      subst hw
      refine pp_tv (y := .ref p0) rfl ?_
      refine lv_astore (lv' := [(7, .ref p0), (6, .null), (0, .ref h0), (1, .int sn), (2, .int i), (3, .int 0), (4, .int j), (5, .int n)]) hx hb dX8_copy_12 hl (by decide) rfl (fun ls hl => ?_)
      refine lv_aloadN hx hb dX8_copy_14 (lv_at hl 1 rfl) ?_
      refine lv_ifnullN (tgt := 24) hx hb dX8_copy_16 (by decide) ?_
      refine lv_aload_n hx hb dX8_copy_24 rfl (lv_at hl 2 rfl) ?_
      refine lv_ldc hx hb hown (hts _ (List.mem_of_getElem? (i := 6) rfl)) dX8_copy_25 ?_
      have hPc := hP.sub (ws' := [(h0, .inr (6, [v0, v1, v2, v3, v4, .ref ph, .ref t0, v7])), (t0, .inl (tc, 7, .inl tf))]) [0, 1] rfl
      have hKc := hK.sub (tys' := [(tc, .int)]) [0] rfl
      have hDc := hD.sub (ws' := [(h0, .inr (6, [v0, v1, v2, v3, v4, .ref ph, .ref t0, v7])), (t0, .inl (tc, 7, .inl tf))]) [0, 1] (by decide) rfl
      have hFc := va_free (wc := [(h0, .inr (6, [v0, v1, v2, v3, v4, .ref ph, .ref t0, v7])), (t0, .inl (tc, 7, .inl tf))]) hD hS hA [0, 1] rfl
      refine va_calli (va_runV (As := [.int (-1000000001)]) (rest := []) ⟨hx, hb, hml, hown, hts⟩ (f_beyond l dC dI ad h0 v0 v1 v2 v3 v4 (.ref ph) t0 v7 tc tf s.heap.size ) (cwV 1 hts g_x_copy_f_beyond_63 rfl rfl rfl (by decide +kernel) ⟨(Nat.le_of_ble_eq_true rfl), (Nat.le_of_ble_eq_true rfl)⟩) ⟨preM_blind, va_recv hKc hPc (ci := 6) (q0 := 0) rfl rfl, fun U hU hW => ⟨rfl, preM_at hU hW hPc hKc hDc hev⟩⟩ rfl rfl hl.1 rfl (lv_room (Nat.le_of_ble_eq_true rfl)) dX8_copy_27 ⟨(Nat.le_of_ble_eq_true rfl), (Nat.le_of_ble_eq_true rfl)⟩) hS (fun q _ h => hFc q h) hFc (fun r_35 u t H1 locs ht hvm hw hB hz1 hk1 hS => ?_)
      obtain ⟨tg_36, hP1, hK1, hD1⟩ := hB
      rw [ht] at hP1
      have hK1 := va_K.moved hvm.symm hK1
      obtain ⟨hP, hD⟩ := va_join (wr := [(ph, .inl (pc, 4, .inr (.inr (.inr (.inr pf))))), (p0, .inr (0, [.int b0, .int z0, .ref n0])), (n0, .inl (nc0, 40, .inr (.inl g0))), (p1, .inr (0, [.int b1, .int z1, .ref n1])), (n1, .inl (nc1, 40, .inr (.inl g1))), (p2, .inr (0, [.int b2, .int z2, .ref n2])), (n2, .inl (nc2, 40, .inr (.inl g2))), (p3, .inr (0, [.int b3, .int z3, .ref n3])), (n3, .inl (nc3, 40, .inr (.inl g3)))]) (w1 := [(h0, .inr (6, [v0, v1, v2, v3, v4, .ref ph, .ref t0, v7])), (t0, .inl (tc, 7, .inl tg_36))]) hP hD [0, 1] [2, 3, 4, 5, 6, 7, 8, 9, 10] rfl rfl (by decide) (by decide) hk1 hFc hP1 hD1
      generalize H1 = H at hP hS ⊢
      have hP : va_P (dC, dI) vwCl [(ph, .inl (pc, 4, .inr (.inr (.inr (.inr pf))))), (p0, .inr (0, [.int b0, .int z0, .ref n0])), (n0, .inl (nc0, 40, .inr (.inl g0))), (p1, .inr (0, [.int b1, .int z1, .ref n1])), (n1, .inl (nc1, 40, .inr (.inl g1))), (p2, .inr (0, [.int b2, .int z2, .ref n2])), (n2, .inl (nc2, 40, .inr (.inl g2))), (p3, .inr (0, [.int b3, .int z3, .ref n3])), (n3, .inl (nc3, 40, .inr (.inl g3))), (h0, .inr (6, [v0, v1, v2, v3, v4, .ref ph, .ref t0, v7])), (t0, .inl (tc, 7, .inl tg_36))] H := hP
      have hD : va_D A [(ph, .inl (pc, 4, .inr (.inr (.inr (.inr pf))))), (p0, .inr (0, [.int b0, .int z0, .ref n0])), (n0, .inl (nc0, 40, .inr (.inl g0))), (p1, .inr (0, [.int b1, .int z1, .ref n1])), (n1, .inl (nc1, 40, .inr (.inl g1))), (p2, .inr (0, [.int b2, .int z2, .ref n2])), (n2, .inl (nc2, 40, .inr (.inl g2))), (p3, .inr (0, [.int b3, .int z3, .ref n3])), (n3, .inl (nc3, 40, .inr (.inl g3))), (h0, .inr (6, [v0, v1, v2, v3, v4, .ref ph, .ref t0, v7])), (t0, .inl (tc, 7, .inl tg_36))] := hD
      subst hw
      have hP9 := hP.sub (ws' := [(h0, .inr (6, [v0, v1, v2, v3, v4, .ref ph, .ref t0, v7])), (t0, .inl (tc, 7, .inl tg_36)), (ph, .inl (pc, 4, .inr (.inr (.inr (.inr pf))))), (p0, .inr (0, [.int b0, .int z0, .ref n0])), (n0, .inl (nc0, 40, .inr (.inl g0))), (p1, .inr (0, [.int b1, .int z1, .ref n1])), (n1, .inl (nc1, 40, .inr (.inl g1))), (p2, .inr (0, [.int b2, .int z2, .ref n2])), (n2, .inl (nc2, 40, .inr (.inl g2))), (p3, .inr (0, [.int b3, .int z3, .ref n3])), (n3, .inl (nc3, 40, .inr (.inl g3)))]) [9, 10, 0, 1, 2, 3, 4, 5, 6, 7, 8] rfl
      have hD9 := hD.sub (ws' := [(h0, .inr (6, [v0, v1, v2, v3, v4, .ref ph, .ref t0, v7])), (t0, .inl (tc, 7, .inl tg_36)), (ph, .inl (pc, 4, .inr (.inr (.inr (.inr pf))))), (p0, .inr (0, [.int b0, .int z0, .ref n0])), (n0, .inl (nc0, 40, .inr (.inl g0))), (p1, .inr (0, [.int b1, .int z1, .ref n1])), (n1, .inl (nc1, 40, .inr (.inl g1))), (p2, .inr (0, [.int b2, .int z2, .ref n2])), (n2, .inl (nc2, 40, .inr (.inl g2))), (p3, .inr (0, [.int b3, .int z3, .ref n3])), (n3, .inl (nc3, 40, .inr (.inl g3)))]) [9, 10, 0, 1, 2, 3, 4, 5, 6, 7, 8] (by decide) rfl
      have hK9 := hK.sub (tys' := [(tc, .int), (pc, .object "LampShapes$Paper"), (nc0, .long), (nc1, .long), (nc2, .long), (nc3, .long)]) [0, 1, 2, 3, 4, 5] rfl
      exact W.iret (v := ((-1000000001) : Int32)) hx hb hr (fun t ht hW => ⟨⟨((-1000000001) : Int32), (), rfl, trivial, tg_36, g0, g1, g2, g3, by rw [ht]; exact hP9, va_K.moved hW.alike hK9, hD9⟩, hS.F ht⟩) hS.2.2 dX8_copy_30
    · skip
      refine Met.ofW (cc := cX8_copy) (maxL := 8) (ret := (some .int)) (by decide) rfl ?_
      intro p e s m args below meth c s₁ B hml hv
      obtain ⟨rfl, hsz, hP, hK, hD0, hev⟩ := hv
      have hx := B.exec
      have hb := B.bytes
      have hr := B.returns
      have hts := atoms_spec (ws := w_x_copy) B.pre
      have hown : s.vm.findClass RX8 = some m.cls := findClass_of_methodNamed B.named
      have hlocks := B.notSynchronized
      have inX8 : ∀ w ∈ wsX80, w ∈ w_x_copy := fun w h => List.mem_cons_of_mem _ (List.mem_append_left _ (List.mem_append_right _ h))
      have inX2 : ∀ w ∈ wsX20, w ∈ w_x_copy := fun w h => List.mem_cons_of_mem _ (List.mem_append_right _ h)
      subst hsz
      have hD := hD0.self (sz := s.heap.size)
      generalize hAe : va_A [(h0, .inr (6, [v0, v1, v2, v3, v4, .ref ph, .ref t0, v7])), (t0, .inl (tc, 7, .inl tf)), (ph, .inl (pc, 4, .inr (.inr (.inr (.inr pf))))), (p0, .inr (0, [.int b0, .int z0, .ref n0])), (n0, .inl (nc0, 40, .inr (.inl g0))), (p1, .inr (0, [.int b1, .int z1, .ref n1])), (n1, .inl (nc1, 40, .inr (.inl g1))), (p2, .inr (0, [.int b2, .int z2, .ref n2])), (n2, .inl (nc2, 40, .inr (.inl g2))), (p3, .inr (0, [.int b3, .int z3, .ref n3])), (n3, .inl (nc3, 40, .inr (.inl g3)))] s.heap.size = A at hD ⊢
      have hA : ∀ q : Nat, s.heap.size ≤ q → A q := fun q h => by rw [← hAe]; exact Or.inr h
      have hS : va_S A s.heap s.heap [] := va_S.rf
      have hP : va_P (dC, dI) vwCl [(h0, .inr (6, [v0, v1, v2, v3, v4, .ref ph, .ref t0, v7])), (t0, .inl (tc, 7, .inl tf)), (ph, .inl (pc, 4, .inr (.inr (.inr (.inr pf))))), (p0, .inr (0, [.int b0, .int z0, .ref n0])), (n0, .inl (nc0, 40, .inr (.inl g0))), (p1, .inr (0, [.int b1, .int z1, .ref n1])), (n1, .inl (nc1, 40, .inr (.inl g1))), (p2, .inr (0, [.int b2, .int z2, .ref n2])), (n2, .inl (nc2, 40, .inr (.inl g2))), (p3, .inr (0, [.int b3, .int z3, .ref n3])), (n3, .inl (nc3, 40, .inr (.inl g3)))] s.heap := hP
      have hl := lv_entry ([.ref h0, .int sn, .int i, .int 1, .int j, .int n]) (n := 8) (Nat.le_of_ble_eq_true rfl)
      rw [lg_entry_eq]
      generalize (lg_sl ([.ref h0, .int sn, .int i, .int 1, .int j, .int n]) ++ List.replicate (8 - (lg_sl ([.ref h0, .int sn, .int i, .int 1, .int j, .int n])).length) Slot.unset).toArray = ls at hl ⊢
      have hl : lv_has ls 8 [(0, .ref h0), (1, .int sn), (2, .int i), (3, .int 1), (4, .int j), (5, .int n)] := hl
      have thgt0 : 3 < sn.toInt := (fa_lt _ _).mp hgt0
      refine lv_aload_n hx hb dX8_copy_0 rfl (lv_at hl 0 rfl) ?_
      refine lv_iload_n hx hb dX8_copy_1 rfl (lv_at hl 1 rfl) ?_
      have hPc := hP.sub (ws' := [(h0, .inr (6, [v0, v1, v2, v3, v4, .ref ph, .ref t0, v7]))]) [0] rfl
      have hKc := hK.sub (tys' := []) [] rfl
      refine va_csq (W.runV (As := [.int sn]) (rest := []) ⟨hx, hb, hml, hown, hts⟩ (c_paperAt_gt l dC dI ad h0 sn v0 v1 v2 v3 v4 (.ref ph) (.ref t0) v7 hgt0) (cwV 1 hts g_x_copy_c_paperAt_gt_256 rfl rfl rfl (by decide +kernel) ⟨(Nat.le_of_ble_eq_true rfl), (Nat.le_of_ble_eq_true rfl)⟩) ⟨preS_blind, va_recv hKc hPc (ci := 6) (q0 := 0) rfl rfl, fun U hU hW => ⟨rfl, preS_at hU hW hPc hKc hev⟩⟩ rfl rfl hl.1 rfl (lv_room (Nat.le_of_ble_eq_true rfl)) dX8_copy_2 ⟨(Nat.le_of_ble_eq_true rfl), (Nat.le_of_ble_eq_true rfl)⟩) (fun r_37 hw => ?_)
      subst hw
      refine pp_tv (y := .null) rfl ?_
      refine lv_astoreN (lv' := [(6, .null), (0, .ref h0), (1, .int sn), (2, .int i), (3, .int 1), (4, .int j), (5, .int n)]) hx hb dX8_copy_5 hl (by decide) rfl (fun ls hl => ?_)
      refine lv_aload_n hx hb dX8_copy_7 rfl (lv_at hl 1 rfl) ?_
      refine lv_iload_n hx hb dX8_copy_8 rfl (lv_at hl 4 rfl) ?_
      have hPc := hP.sub (ws' := [(h0, .inr (6, [v0, v1, v2, v3, v4, .ref ph, .ref t0, v7])), (ph, .inl (pc, 4, .inr (.inr (.inr (.inr pf)))))]) [0, 2] rfl
      have hKc := hK.sub (tys' := [(pc, .object "LampShapes$Paper")]) [1] rfl
      refine va_csq (W.runV (As := [.int 1]) (rest := []) ⟨hx, hb, hml, hown, hts⟩ (c_paperAt_1 l dC dI ad h0 v0 v1 v2 v3 v4 ph (.ref t0) v7 pc pf p1 hp1) (cwV 1 hts g_x_copy_c_paperAt_1_256 rfl rfl rfl (by decide +kernel) ⟨(Nat.le_of_ble_eq_true rfl), (Nat.le_of_ble_eq_true rfl)⟩) ⟨preS_blind, va_recv hKc hPc (ci := 6) (q0 := 0) rfl rfl, fun U hU hW => ⟨rfl, preS_at hU hW hPc hKc hev⟩⟩ rfl rfl hl.1 rfl (lv_room (Nat.le_of_ble_eq_true rfl)) dX8_copy_9 ⟨(Nat.le_of_ble_eq_true rfl), (Nat.le_of_ble_eq_true rfl)⟩) (fun r_38 hw => ?_)
      subst hw
      refine pp_tv (y := .ref p1) rfl ?_
      refine lv_astore (lv' := [(7, .ref p1), (6, .null), (0, .ref h0), (1, .int sn), (2, .int i), (3, .int 1), (4, .int j), (5, .int n)]) hx hb dX8_copy_12 hl (by decide) rfl (fun ls hl => ?_)
      refine lv_aloadN hx hb dX8_copy_14 (lv_at hl 1 rfl) ?_
      refine lv_ifnullN (tgt := 24) hx hb dX8_copy_16 (by decide) ?_
      refine lv_aload_n hx hb dX8_copy_24 rfl (lv_at hl 2 rfl) ?_
      refine lv_ldc hx hb hown (hts _ (List.mem_of_getElem? (i := 6) rfl)) dX8_copy_25 ?_
      have hPc := hP.sub (ws' := [(h0, .inr (6, [v0, v1, v2, v3, v4, .ref ph, .ref t0, v7])), (t0, .inl (tc, 7, .inl tf))]) [0, 1] rfl
      have hKc := hK.sub (tys' := [(tc, .int)]) [0] rfl
      have hDc := hD.sub (ws' := [(h0, .inr (6, [v0, v1, v2, v3, v4, .ref ph, .ref t0, v7])), (t0, .inl (tc, 7, .inl tf))]) [0, 1] (by decide) rfl
      have hFc := va_free (wc := [(h0, .inr (6, [v0, v1, v2, v3, v4, .ref ph, .ref t0, v7])), (t0, .inl (tc, 7, .inl tf))]) hD hS hA [0, 1] rfl
      refine va_calli (va_runV (As := [.int (-1000000001)]) (rest := []) ⟨hx, hb, hml, hown, hts⟩ (f_beyond l dC dI ad h0 v0 v1 v2 v3 v4 (.ref ph) t0 v7 tc tf s.heap.size ) (cwV 1 hts g_x_copy_f_beyond_63 rfl rfl rfl (by decide +kernel) ⟨(Nat.le_of_ble_eq_true rfl), (Nat.le_of_ble_eq_true rfl)⟩) ⟨preM_blind, va_recv hKc hPc (ci := 6) (q0 := 0) rfl rfl, fun U hU hW => ⟨rfl, preM_at hU hW hPc hKc hDc hev⟩⟩ rfl rfl hl.1 rfl (lv_room (Nat.le_of_ble_eq_true rfl)) dX8_copy_27 ⟨(Nat.le_of_ble_eq_true rfl), (Nat.le_of_ble_eq_true rfl)⟩) hS (fun q _ h => hFc q h) hFc (fun r_39 u t H1 locs ht hvm hw hB hz1 hk1 hS => ?_)
      obtain ⟨tg_40, hP1, hK1, hD1⟩ := hB
      rw [ht] at hP1
      have hK1 := va_K.moved hvm.symm hK1
      obtain ⟨hP, hD⟩ := va_join (wr := [(ph, .inl (pc, 4, .inr (.inr (.inr (.inr pf))))), (p0, .inr (0, [.int b0, .int z0, .ref n0])), (n0, .inl (nc0, 40, .inr (.inl g0))), (p1, .inr (0, [.int b1, .int z1, .ref n1])), (n1, .inl (nc1, 40, .inr (.inl g1))), (p2, .inr (0, [.int b2, .int z2, .ref n2])), (n2, .inl (nc2, 40, .inr (.inl g2))), (p3, .inr (0, [.int b3, .int z3, .ref n3])), (n3, .inl (nc3, 40, .inr (.inl g3)))]) (w1 := [(h0, .inr (6, [v0, v1, v2, v3, v4, .ref ph, .ref t0, v7])), (t0, .inl (tc, 7, .inl tg_40))]) hP hD [0, 1] [2, 3, 4, 5, 6, 7, 8, 9, 10] rfl rfl (by decide) (by decide) hk1 hFc hP1 hD1
      generalize H1 = H at hP hS ⊢
      have hP : va_P (dC, dI) vwCl [(ph, .inl (pc, 4, .inr (.inr (.inr (.inr pf))))), (p0, .inr (0, [.int b0, .int z0, .ref n0])), (n0, .inl (nc0, 40, .inr (.inl g0))), (p1, .inr (0, [.int b1, .int z1, .ref n1])), (n1, .inl (nc1, 40, .inr (.inl g1))), (p2, .inr (0, [.int b2, .int z2, .ref n2])), (n2, .inl (nc2, 40, .inr (.inl g2))), (p3, .inr (0, [.int b3, .int z3, .ref n3])), (n3, .inl (nc3, 40, .inr (.inl g3))), (h0, .inr (6, [v0, v1, v2, v3, v4, .ref ph, .ref t0, v7])), (t0, .inl (tc, 7, .inl tg_40))] H := hP
      have hD : va_D A [(ph, .inl (pc, 4, .inr (.inr (.inr (.inr pf))))), (p0, .inr (0, [.int b0, .int z0, .ref n0])), (n0, .inl (nc0, 40, .inr (.inl g0))), (p1, .inr (0, [.int b1, .int z1, .ref n1])), (n1, .inl (nc1, 40, .inr (.inl g1))), (p2, .inr (0, [.int b2, .int z2, .ref n2])), (n2, .inl (nc2, 40, .inr (.inl g2))), (p3, .inr (0, [.int b3, .int z3, .ref n3])), (n3, .inl (nc3, 40, .inr (.inl g3))), (h0, .inr (6, [v0, v1, v2, v3, v4, .ref ph, .ref t0, v7])), (t0, .inl (tc, 7, .inl tg_40))] := hD
      subst hw
      have hP9 := hP.sub (ws' := [(h0, .inr (6, [v0, v1, v2, v3, v4, .ref ph, .ref t0, v7])), (t0, .inl (tc, 7, .inl tg_40)), (ph, .inl (pc, 4, .inr (.inr (.inr (.inr pf))))), (p0, .inr (0, [.int b0, .int z0, .ref n0])), (n0, .inl (nc0, 40, .inr (.inl g0))), (p1, .inr (0, [.int b1, .int z1, .ref n1])), (n1, .inl (nc1, 40, .inr (.inl g1))), (p2, .inr (0, [.int b2, .int z2, .ref n2])), (n2, .inl (nc2, 40, .inr (.inl g2))), (p3, .inr (0, [.int b3, .int z3, .ref n3])), (n3, .inl (nc3, 40, .inr (.inl g3)))]) [9, 10, 0, 1, 2, 3, 4, 5, 6, 7, 8] rfl
      have hD9 := hD.sub (ws' := [(h0, .inr (6, [v0, v1, v2, v3, v4, .ref ph, .ref t0, v7])), (t0, .inl (tc, 7, .inl tg_40)), (ph, .inl (pc, 4, .inr (.inr (.inr (.inr pf))))), (p0, .inr (0, [.int b0, .int z0, .ref n0])), (n0, .inl (nc0, 40, .inr (.inl g0))), (p1, .inr (0, [.int b1, .int z1, .ref n1])), (n1, .inl (nc1, 40, .inr (.inl g1))), (p2, .inr (0, [.int b2, .int z2, .ref n2])), (n2, .inl (nc2, 40, .inr (.inl g2))), (p3, .inr (0, [.int b3, .int z3, .ref n3])), (n3, .inl (nc3, 40, .inr (.inl g3)))]) [9, 10, 0, 1, 2, 3, 4, 5, 6, 7, 8] (by decide) rfl
      have hK9 := hK.sub (tys' := [(tc, .int), (pc, .object "LampShapes$Paper"), (nc0, .long), (nc1, .long), (nc2, .long), (nc3, .long)]) [0, 1, 2, 3, 4, 5] rfl
      exact W.iret (v := ((-1000000001) : Int32)) hx hb hr (fun t ht hW => ⟨⟨((-1000000001) : Int32), (), rfl, trivial, tg_40, g0, g1, g2, g3, by rw [ht]; exact hP9, va_K.moved hW.alike hK9, hD9⟩, hS.F ht⟩) hS.2.2 dX8_copy_30
    · skip
      refine Met.ofW (cc := cX8_copy) (maxL := 8) (ret := (some .int)) (by decide) rfl ?_
      intro p e s m args below meth c s₁ B hml hv
      obtain ⟨rfl, hsz, hP, hK, hD0, hev⟩ := hv
      have hx := B.exec
      have hb := B.bytes
      have hr := B.returns
      have hts := atoms_spec (ws := w_x_copy) B.pre
      have hown : s.vm.findClass RX8 = some m.cls := findClass_of_methodNamed B.named
      have hlocks := B.notSynchronized
      have inX8 : ∀ w ∈ wsX80, w ∈ w_x_copy := fun w h => List.mem_cons_of_mem _ (List.mem_append_left _ (List.mem_append_right _ h))
      have inX2 : ∀ w ∈ wsX20, w ∈ w_x_copy := fun w h => List.mem_cons_of_mem _ (List.mem_append_right _ h)
      subst hsz
      have hD := hD0.self (sz := s.heap.size)
      generalize hAe : va_A [(h0, .inr (6, [v0, v1, v2, v3, v4, .ref ph, .ref t0, v7])), (t0, .inl (tc, 7, .inl tf)), (ph, .inl (pc, 4, .inr (.inr (.inr (.inr pf))))), (p0, .inr (0, [.int b0, .int z0, .ref n0])), (n0, .inl (nc0, 40, .inr (.inl g0))), (p1, .inr (0, [.int b1, .int z1, .ref n1])), (n1, .inl (nc1, 40, .inr (.inl g1))), (p2, .inr (0, [.int b2, .int z2, .ref n2])), (n2, .inl (nc2, 40, .inr (.inl g2))), (p3, .inr (0, [.int b3, .int z3, .ref n3])), (n3, .inl (nc3, 40, .inr (.inl g3)))] s.heap.size = A at hD ⊢
      have hA : ∀ q : Nat, s.heap.size ≤ q → A q := fun q h => by rw [← hAe]; exact Or.inr h
      have hS : va_S A s.heap s.heap [] := va_S.rf
      have hP : va_P (dC, dI) vwCl [(h0, .inr (6, [v0, v1, v2, v3, v4, .ref ph, .ref t0, v7])), (t0, .inl (tc, 7, .inl tf)), (ph, .inl (pc, 4, .inr (.inr (.inr (.inr pf))))), (p0, .inr (0, [.int b0, .int z0, .ref n0])), (n0, .inl (nc0, 40, .inr (.inl g0))), (p1, .inr (0, [.int b1, .int z1, .ref n1])), (n1, .inl (nc1, 40, .inr (.inl g1))), (p2, .inr (0, [.int b2, .int z2, .ref n2])), (n2, .inl (nc2, 40, .inr (.inl g2))), (p3, .inr (0, [.int b3, .int z3, .ref n3])), (n3, .inl (nc3, 40, .inr (.inl g3)))] s.heap := hP
      have hl := lv_entry ([.ref h0, .int sn, .int i, .int 2, .int j, .int n]) (n := 8) (Nat.le_of_ble_eq_true rfl)
      rw [lg_entry_eq]
      generalize (lg_sl ([.ref h0, .int sn, .int i, .int 2, .int j, .int n]) ++ List.replicate (8 - (lg_sl ([.ref h0, .int sn, .int i, .int 2, .int j, .int n])).length) Slot.unset).toArray = ls at hl ⊢
      have hl : lv_has ls 8 [(0, .ref h0), (1, .int sn), (2, .int i), (3, .int 2), (4, .int j), (5, .int n)] := hl
      have thgt0 : 3 < sn.toInt := (fa_lt _ _).mp hgt0
      refine lv_aload_n hx hb dX8_copy_0 rfl (lv_at hl 0 rfl) ?_
      refine lv_iload_n hx hb dX8_copy_1 rfl (lv_at hl 1 rfl) ?_
      have hPc := hP.sub (ws' := [(h0, .inr (6, [v0, v1, v2, v3, v4, .ref ph, .ref t0, v7]))]) [0] rfl
      have hKc := hK.sub (tys' := []) [] rfl
      refine va_csq (W.runV (As := [.int sn]) (rest := []) ⟨hx, hb, hml, hown, hts⟩ (c_paperAt_gt l dC dI ad h0 sn v0 v1 v2 v3 v4 (.ref ph) (.ref t0) v7 hgt0) (cwV 1 hts g_x_copy_c_paperAt_gt_256 rfl rfl rfl (by decide +kernel) ⟨(Nat.le_of_ble_eq_true rfl), (Nat.le_of_ble_eq_true rfl)⟩) ⟨preS_blind, va_recv hKc hPc (ci := 6) (q0 := 0) rfl rfl, fun U hU hW => ⟨rfl, preS_at hU hW hPc hKc hev⟩⟩ rfl rfl hl.1 rfl (lv_room (Nat.le_of_ble_eq_true rfl)) dX8_copy_2 ⟨(Nat.le_of_ble_eq_true rfl), (Nat.le_of_ble_eq_true rfl)⟩) (fun r_41 hw => ?_)
      subst hw
      refine pp_tv (y := .null) rfl ?_
      refine lv_astoreN (lv' := [(6, .null), (0, .ref h0), (1, .int sn), (2, .int i), (3, .int 2), (4, .int j), (5, .int n)]) hx hb dX8_copy_5 hl (by decide) rfl (fun ls hl => ?_)
      refine lv_aload_n hx hb dX8_copy_7 rfl (lv_at hl 1 rfl) ?_
      refine lv_iload_n hx hb dX8_copy_8 rfl (lv_at hl 4 rfl) ?_
      have hPc := hP.sub (ws' := [(h0, .inr (6, [v0, v1, v2, v3, v4, .ref ph, .ref t0, v7])), (ph, .inl (pc, 4, .inr (.inr (.inr (.inr pf)))))]) [0, 2] rfl
      have hKc := hK.sub (tys' := [(pc, .object "LampShapes$Paper")]) [1] rfl
      refine va_csq (W.runV (As := [.int 2]) (rest := []) ⟨hx, hb, hml, hown, hts⟩ (c_paperAt_2 l dC dI ad h0 v0 v1 v2 v3 v4 ph (.ref t0) v7 pc pf p2 hp2) (cwV 1 hts g_x_copy_c_paperAt_2_256 rfl rfl rfl (by decide +kernel) ⟨(Nat.le_of_ble_eq_true rfl), (Nat.le_of_ble_eq_true rfl)⟩) ⟨preS_blind, va_recv hKc hPc (ci := 6) (q0 := 0) rfl rfl, fun U hU hW => ⟨rfl, preS_at hU hW hPc hKc hev⟩⟩ rfl rfl hl.1 rfl (lv_room (Nat.le_of_ble_eq_true rfl)) dX8_copy_9 ⟨(Nat.le_of_ble_eq_true rfl), (Nat.le_of_ble_eq_true rfl)⟩) (fun r_42 hw => ?_)
      subst hw
      refine pp_tv (y := .ref p2) rfl ?_
      refine lv_astore (lv' := [(7, .ref p2), (6, .null), (0, .ref h0), (1, .int sn), (2, .int i), (3, .int 2), (4, .int j), (5, .int n)]) hx hb dX8_copy_12 hl (by decide) rfl (fun ls hl => ?_)
      refine lv_aloadN hx hb dX8_copy_14 (lv_at hl 1 rfl) ?_
      refine lv_ifnullN (tgt := 24) hx hb dX8_copy_16 (by decide) ?_
      refine lv_aload_n hx hb dX8_copy_24 rfl (lv_at hl 2 rfl) ?_
      refine lv_ldc hx hb hown (hts _ (List.mem_of_getElem? (i := 6) rfl)) dX8_copy_25 ?_
      have hPc := hP.sub (ws' := [(h0, .inr (6, [v0, v1, v2, v3, v4, .ref ph, .ref t0, v7])), (t0, .inl (tc, 7, .inl tf))]) [0, 1] rfl
      have hKc := hK.sub (tys' := [(tc, .int)]) [0] rfl
      have hDc := hD.sub (ws' := [(h0, .inr (6, [v0, v1, v2, v3, v4, .ref ph, .ref t0, v7])), (t0, .inl (tc, 7, .inl tf))]) [0, 1] (by decide) rfl
      have hFc := va_free (wc := [(h0, .inr (6, [v0, v1, v2, v3, v4, .ref ph, .ref t0, v7])), (t0, .inl (tc, 7, .inl tf))]) hD hS hA [0, 1] rfl
      refine va_calli (va_runV (As := [.int (-1000000001)]) (rest := []) ⟨hx, hb, hml, hown, hts⟩ (f_beyond l dC dI ad h0 v0 v1 v2 v3 v4 (.ref ph) t0 v7 tc tf s.heap.size ) (cwV 1 hts g_x_copy_f_beyond_63 rfl rfl rfl (by decide +kernel) ⟨(Nat.le_of_ble_eq_true rfl), (Nat.le_of_ble_eq_true rfl)⟩) ⟨preM_blind, va_recv hKc hPc (ci := 6) (q0 := 0) rfl rfl, fun U hU hW => ⟨rfl, preM_at hU hW hPc hKc hDc hev⟩⟩ rfl rfl hl.1 rfl (lv_room (Nat.le_of_ble_eq_true rfl)) dX8_copy_27 ⟨(Nat.le_of_ble_eq_true rfl), (Nat.le_of_ble_eq_true rfl)⟩) hS (fun q _ h => hFc q h) hFc (fun r_43 u t H1 locs ht hvm hw hB hz1 hk1 hS => ?_)
      obtain ⟨tg_44, hP1, hK1, hD1⟩ := hB
      rw [ht] at hP1
      have hK1 := va_K.moved hvm.symm hK1
      obtain ⟨hP, hD⟩ := va_join (wr := [(ph, .inl (pc, 4, .inr (.inr (.inr (.inr pf))))), (p0, .inr (0, [.int b0, .int z0, .ref n0])), (n0, .inl (nc0, 40, .inr (.inl g0))), (p1, .inr (0, [.int b1, .int z1, .ref n1])), (n1, .inl (nc1, 40, .inr (.inl g1))), (p2, .inr (0, [.int b2, .int z2, .ref n2])), (n2, .inl (nc2, 40, .inr (.inl g2))), (p3, .inr (0, [.int b3, .int z3, .ref n3])), (n3, .inl (nc3, 40, .inr (.inl g3)))]) (w1 := [(h0, .inr (6, [v0, v1, v2, v3, v4, .ref ph, .ref t0, v7])), (t0, .inl (tc, 7, .inl tg_44))]) hP hD [0, 1] [2, 3, 4, 5, 6, 7, 8, 9, 10] rfl rfl (by decide) (by decide) hk1 hFc hP1 hD1
      generalize H1 = H at hP hS ⊢
      have hP : va_P (dC, dI) vwCl [(ph, .inl (pc, 4, .inr (.inr (.inr (.inr pf))))), (p0, .inr (0, [.int b0, .int z0, .ref n0])), (n0, .inl (nc0, 40, .inr (.inl g0))), (p1, .inr (0, [.int b1, .int z1, .ref n1])), (n1, .inl (nc1, 40, .inr (.inl g1))), (p2, .inr (0, [.int b2, .int z2, .ref n2])), (n2, .inl (nc2, 40, .inr (.inl g2))), (p3, .inr (0, [.int b3, .int z3, .ref n3])), (n3, .inl (nc3, 40, .inr (.inl g3))), (h0, .inr (6, [v0, v1, v2, v3, v4, .ref ph, .ref t0, v7])), (t0, .inl (tc, 7, .inl tg_44))] H := hP
      have hD : va_D A [(ph, .inl (pc, 4, .inr (.inr (.inr (.inr pf))))), (p0, .inr (0, [.int b0, .int z0, .ref n0])), (n0, .inl (nc0, 40, .inr (.inl g0))), (p1, .inr (0, [.int b1, .int z1, .ref n1])), (n1, .inl (nc1, 40, .inr (.inl g1))), (p2, .inr (0, [.int b2, .int z2, .ref n2])), (n2, .inl (nc2, 40, .inr (.inl g2))), (p3, .inr (0, [.int b3, .int z3, .ref n3])), (n3, .inl (nc3, 40, .inr (.inl g3))), (h0, .inr (6, [v0, v1, v2, v3, v4, .ref ph, .ref t0, v7])), (t0, .inl (tc, 7, .inl tg_44))] := hD
      subst hw
      have hP9 := hP.sub (ws' := [(h0, .inr (6, [v0, v1, v2, v3, v4, .ref ph, .ref t0, v7])), (t0, .inl (tc, 7, .inl tg_44)), (ph, .inl (pc, 4, .inr (.inr (.inr (.inr pf))))), (p0, .inr (0, [.int b0, .int z0, .ref n0])), (n0, .inl (nc0, 40, .inr (.inl g0))), (p1, .inr (0, [.int b1, .int z1, .ref n1])), (n1, .inl (nc1, 40, .inr (.inl g1))), (p2, .inr (0, [.int b2, .int z2, .ref n2])), (n2, .inl (nc2, 40, .inr (.inl g2))), (p3, .inr (0, [.int b3, .int z3, .ref n3])), (n3, .inl (nc3, 40, .inr (.inl g3)))]) [9, 10, 0, 1, 2, 3, 4, 5, 6, 7, 8] rfl
      have hD9 := hD.sub (ws' := [(h0, .inr (6, [v0, v1, v2, v3, v4, .ref ph, .ref t0, v7])), (t0, .inl (tc, 7, .inl tg_44)), (ph, .inl (pc, 4, .inr (.inr (.inr (.inr pf))))), (p0, .inr (0, [.int b0, .int z0, .ref n0])), (n0, .inl (nc0, 40, .inr (.inl g0))), (p1, .inr (0, [.int b1, .int z1, .ref n1])), (n1, .inl (nc1, 40, .inr (.inl g1))), (p2, .inr (0, [.int b2, .int z2, .ref n2])), (n2, .inl (nc2, 40, .inr (.inl g2))), (p3, .inr (0, [.int b3, .int z3, .ref n3])), (n3, .inl (nc3, 40, .inr (.inl g3)))]) [9, 10, 0, 1, 2, 3, 4, 5, 6, 7, 8] (by decide) rfl
      have hK9 := hK.sub (tys' := [(tc, .int), (pc, .object "LampShapes$Paper"), (nc0, .long), (nc1, .long), (nc2, .long), (nc3, .long)]) [0, 1, 2, 3, 4, 5] rfl
      exact W.iret (v := ((-1000000001) : Int32)) hx hb hr (fun t ht hW => ⟨⟨((-1000000001) : Int32), (), rfl, trivial, tg_44, g0, g1, g2, g3, by rw [ht]; exact hP9, va_K.moved hW.alike hK9, hD9⟩, hS.F ht⟩) hS.2.2 dX8_copy_30
    · skip
      refine Met.ofW (cc := cX8_copy) (maxL := 8) (ret := (some .int)) (by decide) rfl ?_
      intro p e s m args below meth c s₁ B hml hv
      obtain ⟨rfl, hsz, hP, hK, hD0, hev⟩ := hv
      have hx := B.exec
      have hb := B.bytes
      have hr := B.returns
      have hts := atoms_spec (ws := w_x_copy) B.pre
      have hown : s.vm.findClass RX8 = some m.cls := findClass_of_methodNamed B.named
      have hlocks := B.notSynchronized
      have inX8 : ∀ w ∈ wsX80, w ∈ w_x_copy := fun w h => List.mem_cons_of_mem _ (List.mem_append_left _ (List.mem_append_right _ h))
      have inX2 : ∀ w ∈ wsX20, w ∈ w_x_copy := fun w h => List.mem_cons_of_mem _ (List.mem_append_right _ h)
      subst hsz
      have hD := hD0.self (sz := s.heap.size)
      generalize hAe : va_A [(h0, .inr (6, [v0, v1, v2, v3, v4, .ref ph, .ref t0, v7])), (t0, .inl (tc, 7, .inl tf)), (ph, .inl (pc, 4, .inr (.inr (.inr (.inr pf))))), (p0, .inr (0, [.int b0, .int z0, .ref n0])), (n0, .inl (nc0, 40, .inr (.inl g0))), (p1, .inr (0, [.int b1, .int z1, .ref n1])), (n1, .inl (nc1, 40, .inr (.inl g1))), (p2, .inr (0, [.int b2, .int z2, .ref n2])), (n2, .inl (nc2, 40, .inr (.inl g2))), (p3, .inr (0, [.int b3, .int z3, .ref n3])), (n3, .inl (nc3, 40, .inr (.inl g3)))] s.heap.size = A at hD ⊢
      have hA : ∀ q : Nat, s.heap.size ≤ q → A q := fun q h => by rw [← hAe]; exact Or.inr h
      have hS : va_S A s.heap s.heap [] := va_S.rf
      have hP : va_P (dC, dI) vwCl [(h0, .inr (6, [v0, v1, v2, v3, v4, .ref ph, .ref t0, v7])), (t0, .inl (tc, 7, .inl tf)), (ph, .inl (pc, 4, .inr (.inr (.inr (.inr pf))))), (p0, .inr (0, [.int b0, .int z0, .ref n0])), (n0, .inl (nc0, 40, .inr (.inl g0))), (p1, .inr (0, [.int b1, .int z1, .ref n1])), (n1, .inl (nc1, 40, .inr (.inl g1))), (p2, .inr (0, [.int b2, .int z2, .ref n2])), (n2, .inl (nc2, 40, .inr (.inl g2))), (p3, .inr (0, [.int b3, .int z3, .ref n3])), (n3, .inl (nc3, 40, .inr (.inl g3)))] s.heap := hP
      have hl := lv_entry ([.ref h0, .int sn, .int i, .int 3, .int j, .int n]) (n := 8) (Nat.le_of_ble_eq_true rfl)
      rw [lg_entry_eq]
      generalize (lg_sl ([.ref h0, .int sn, .int i, .int 3, .int j, .int n]) ++ List.replicate (8 - (lg_sl ([.ref h0, .int sn, .int i, .int 3, .int j, .int n])).length) Slot.unset).toArray = ls at hl ⊢
      have hl : lv_has ls 8 [(0, .ref h0), (1, .int sn), (2, .int i), (3, .int 3), (4, .int j), (5, .int n)] := hl
      have thgt0 : 3 < sn.toInt := (fa_lt _ _).mp hgt0
      refine lv_aload_n hx hb dX8_copy_0 rfl (lv_at hl 0 rfl) ?_
      refine lv_iload_n hx hb dX8_copy_1 rfl (lv_at hl 1 rfl) ?_
      have hPc := hP.sub (ws' := [(h0, .inr (6, [v0, v1, v2, v3, v4, .ref ph, .ref t0, v7]))]) [0] rfl
      have hKc := hK.sub (tys' := []) [] rfl
      refine va_csq (W.runV (As := [.int sn]) (rest := []) ⟨hx, hb, hml, hown, hts⟩ (c_paperAt_gt l dC dI ad h0 sn v0 v1 v2 v3 v4 (.ref ph) (.ref t0) v7 hgt0) (cwV 1 hts g_x_copy_c_paperAt_gt_256 rfl rfl rfl (by decide +kernel) ⟨(Nat.le_of_ble_eq_true rfl), (Nat.le_of_ble_eq_true rfl)⟩) ⟨preS_blind, va_recv hKc hPc (ci := 6) (q0 := 0) rfl rfl, fun U hU hW => ⟨rfl, preS_at hU hW hPc hKc hev⟩⟩ rfl rfl hl.1 rfl (lv_room (Nat.le_of_ble_eq_true rfl)) dX8_copy_2 ⟨(Nat.le_of_ble_eq_true rfl), (Nat.le_of_ble_eq_true rfl)⟩) (fun r_45 hw => ?_)
      subst hw
      refine pp_tv (y := .null) rfl ?_
      refine lv_astoreN (lv' := [(6, .null), (0, .ref h0), (1, .int sn), (2, .int i), (3, .int 3), (4, .int j), (5, .int n)]) hx hb dX8_copy_5 hl (by decide) rfl (fun ls hl => ?_)
      refine lv_aload_n hx hb dX8_copy_7 rfl (lv_at hl 1 rfl) ?_
      refine lv_iload_n hx hb dX8_copy_8 rfl (lv_at hl 4 rfl) ?_
      have hPc := hP.sub (ws' := [(h0, .inr (6, [v0, v1, v2, v3, v4, .ref ph, .ref t0, v7])), (ph, .inl (pc, 4, .inr (.inr (.inr (.inr pf)))))]) [0, 2] rfl
      have hKc := hK.sub (tys' := [(pc, .object "LampShapes$Paper")]) [1] rfl
      refine va_csq (W.runV (As := [.int 3]) (rest := []) ⟨hx, hb, hml, hown, hts⟩ (c_paperAt_3 l dC dI ad h0 v0 v1 v2 v3 v4 ph (.ref t0) v7 pc pf p3 hp3) (cwV 1 hts g_x_copy_c_paperAt_3_256 rfl rfl rfl (by decide +kernel) ⟨(Nat.le_of_ble_eq_true rfl), (Nat.le_of_ble_eq_true rfl)⟩) ⟨preS_blind, va_recv hKc hPc (ci := 6) (q0 := 0) rfl rfl, fun U hU hW => ⟨rfl, preS_at hU hW hPc hKc hev⟩⟩ rfl rfl hl.1 rfl (lv_room (Nat.le_of_ble_eq_true rfl)) dX8_copy_9 ⟨(Nat.le_of_ble_eq_true rfl), (Nat.le_of_ble_eq_true rfl)⟩) (fun r_46 hw => ?_)
      subst hw
      refine pp_tv (y := .ref p3) rfl ?_
      refine lv_astore (lv' := [(7, .ref p3), (6, .null), (0, .ref h0), (1, .int sn), (2, .int i), (3, .int 3), (4, .int j), (5, .int n)]) hx hb dX8_copy_12 hl (by decide) rfl (fun ls hl => ?_)
      refine lv_aloadN hx hb dX8_copy_14 (lv_at hl 1 rfl) ?_
      refine lv_ifnullN (tgt := 24) hx hb dX8_copy_16 (by decide) ?_
      refine lv_aload_n hx hb dX8_copy_24 rfl (lv_at hl 2 rfl) ?_
      refine lv_ldc hx hb hown (hts _ (List.mem_of_getElem? (i := 6) rfl)) dX8_copy_25 ?_
      have hPc := hP.sub (ws' := [(h0, .inr (6, [v0, v1, v2, v3, v4, .ref ph, .ref t0, v7])), (t0, .inl (tc, 7, .inl tf))]) [0, 1] rfl
      have hKc := hK.sub (tys' := [(tc, .int)]) [0] rfl
      have hDc := hD.sub (ws' := [(h0, .inr (6, [v0, v1, v2, v3, v4, .ref ph, .ref t0, v7])), (t0, .inl (tc, 7, .inl tf))]) [0, 1] (by decide) rfl
      have hFc := va_free (wc := [(h0, .inr (6, [v0, v1, v2, v3, v4, .ref ph, .ref t0, v7])), (t0, .inl (tc, 7, .inl tf))]) hD hS hA [0, 1] rfl
      refine va_calli (va_runV (As := [.int (-1000000001)]) (rest := []) ⟨hx, hb, hml, hown, hts⟩ (f_beyond l dC dI ad h0 v0 v1 v2 v3 v4 (.ref ph) t0 v7 tc tf s.heap.size ) (cwV 1 hts g_x_copy_f_beyond_63 rfl rfl rfl (by decide +kernel) ⟨(Nat.le_of_ble_eq_true rfl), (Nat.le_of_ble_eq_true rfl)⟩) ⟨preM_blind, va_recv hKc hPc (ci := 6) (q0 := 0) rfl rfl, fun U hU hW => ⟨rfl, preM_at hU hW hPc hKc hDc hev⟩⟩ rfl rfl hl.1 rfl (lv_room (Nat.le_of_ble_eq_true rfl)) dX8_copy_27 ⟨(Nat.le_of_ble_eq_true rfl), (Nat.le_of_ble_eq_true rfl)⟩) hS (fun q _ h => hFc q h) hFc (fun r_47 u t H1 locs ht hvm hw hB hz1 hk1 hS => ?_)
      obtain ⟨tg_48, hP1, hK1, hD1⟩ := hB
      rw [ht] at hP1
      have hK1 := va_K.moved hvm.symm hK1
      obtain ⟨hP, hD⟩ := va_join (wr := [(ph, .inl (pc, 4, .inr (.inr (.inr (.inr pf))))), (p0, .inr (0, [.int b0, .int z0, .ref n0])), (n0, .inl (nc0, 40, .inr (.inl g0))), (p1, .inr (0, [.int b1, .int z1, .ref n1])), (n1, .inl (nc1, 40, .inr (.inl g1))), (p2, .inr (0, [.int b2, .int z2, .ref n2])), (n2, .inl (nc2, 40, .inr (.inl g2))), (p3, .inr (0, [.int b3, .int z3, .ref n3])), (n3, .inl (nc3, 40, .inr (.inl g3)))]) (w1 := [(h0, .inr (6, [v0, v1, v2, v3, v4, .ref ph, .ref t0, v7])), (t0, .inl (tc, 7, .inl tg_48))]) hP hD [0, 1] [2, 3, 4, 5, 6, 7, 8, 9, 10] rfl rfl (by decide) (by decide) hk1 hFc hP1 hD1
      generalize H1 = H at hP hS ⊢
      have hP : va_P (dC, dI) vwCl [(ph, .inl (pc, 4, .inr (.inr (.inr (.inr pf))))), (p0, .inr (0, [.int b0, .int z0, .ref n0])), (n0, .inl (nc0, 40, .inr (.inl g0))), (p1, .inr (0, [.int b1, .int z1, .ref n1])), (n1, .inl (nc1, 40, .inr (.inl g1))), (p2, .inr (0, [.int b2, .int z2, .ref n2])), (n2, .inl (nc2, 40, .inr (.inl g2))), (p3, .inr (0, [.int b3, .int z3, .ref n3])), (n3, .inl (nc3, 40, .inr (.inl g3))), (h0, .inr (6, [v0, v1, v2, v3, v4, .ref ph, .ref t0, v7])), (t0, .inl (tc, 7, .inl tg_48))] H := hP
      have hD : va_D A [(ph, .inl (pc, 4, .inr (.inr (.inr (.inr pf))))), (p0, .inr (0, [.int b0, .int z0, .ref n0])), (n0, .inl (nc0, 40, .inr (.inl g0))), (p1, .inr (0, [.int b1, .int z1, .ref n1])), (n1, .inl (nc1, 40, .inr (.inl g1))), (p2, .inr (0, [.int b2, .int z2, .ref n2])), (n2, .inl (nc2, 40, .inr (.inl g2))), (p3, .inr (0, [.int b3, .int z3, .ref n3])), (n3, .inl (nc3, 40, .inr (.inl g3))), (h0, .inr (6, [v0, v1, v2, v3, v4, .ref ph, .ref t0, v7])), (t0, .inl (tc, 7, .inl tg_48))] := hD
      subst hw
      have hP9 := hP.sub (ws' := [(h0, .inr (6, [v0, v1, v2, v3, v4, .ref ph, .ref t0, v7])), (t0, .inl (tc, 7, .inl tg_48)), (ph, .inl (pc, 4, .inr (.inr (.inr (.inr pf))))), (p0, .inr (0, [.int b0, .int z0, .ref n0])), (n0, .inl (nc0, 40, .inr (.inl g0))), (p1, .inr (0, [.int b1, .int z1, .ref n1])), (n1, .inl (nc1, 40, .inr (.inl g1))), (p2, .inr (0, [.int b2, .int z2, .ref n2])), (n2, .inl (nc2, 40, .inr (.inl g2))), (p3, .inr (0, [.int b3, .int z3, .ref n3])), (n3, .inl (nc3, 40, .inr (.inl g3)))]) [9, 10, 0, 1, 2, 3, 4, 5, 6, 7, 8] rfl
      have hD9 := hD.sub (ws' := [(h0, .inr (6, [v0, v1, v2, v3, v4, .ref ph, .ref t0, v7])), (t0, .inl (tc, 7, .inl tg_48)), (ph, .inl (pc, 4, .inr (.inr (.inr (.inr pf))))), (p0, .inr (0, [.int b0, .int z0, .ref n0])), (n0, .inl (nc0, 40, .inr (.inl g0))), (p1, .inr (0, [.int b1, .int z1, .ref n1])), (n1, .inl (nc1, 40, .inr (.inl g1))), (p2, .inr (0, [.int b2, .int z2, .ref n2])), (n2, .inl (nc2, 40, .inr (.inl g2))), (p3, .inr (0, [.int b3, .int z3, .ref n3])), (n3, .inl (nc3, 40, .inr (.inl g3)))]) [9, 10, 0, 1, 2, 3, 4, 5, 6, 7, 8] (by decide) rfl
      have hK9 := hK.sub (tys' := [(tc, .int), (pc, .object "LampShapes$Paper"), (nc0, .long), (nc1, .long), (nc2, .long), (nc3, .long)]) [0, 1, 2, 3, 4, 5] rfl
      exact W.iret (v := ((-1000000001) : Int32)) hx hb hr (fun t ht hW => ⟨⟨((-1000000001) : Int32), (), rfl, trivial, tg_48, g0, g1, g2, g3, by rw [ht]; exact hP9, va_K.moved hW.alike hK9, hD9⟩, hS.F ht⟩) hS.2.2 dX8_copy_30
  · skip
    rcases pp_c_0_3 d with hlt1 | hgt1 | rfl | rfl | rfl | rfl
    · skip
      refine Met.ofW (cc := cX8_copy) (maxL := 8) (ret := (some .int)) (by decide) rfl ?_
      intro p e s m args below meth c s₁ B hml hv
      obtain ⟨rfl, hsz, hP, hK, hD0, hev⟩ := hv
      have hx := B.exec
      have hb := B.bytes
      have hr := B.returns
      have hts := atoms_spec (ws := w_x_copy) B.pre
      have hown : s.vm.findClass RX8 = some m.cls := findClass_of_methodNamed B.named
      have hlocks := B.notSynchronized
      have inX8 : ∀ w ∈ wsX80, w ∈ w_x_copy := fun w h => List.mem_cons_of_mem _ (List.mem_append_left _ (List.mem_append_right _ h))
      have inX2 : ∀ w ∈ wsX20, w ∈ w_x_copy := fun w h => List.mem_cons_of_mem _ (List.mem_append_right _ h)
      subst hsz
      have hD := hD0.self (sz := s.heap.size)
      generalize hAe : va_A [(h0, .inr (6, [v0, v1, v2, v3, v4, .ref ph, .ref t0, v7])), (t0, .inl (tc, 7, .inl tf)), (ph, .inl (pc, 4, .inr (.inr (.inr (.inr pf))))), (p0, .inr (0, [.int b0, .int z0, .ref n0])), (n0, .inl (nc0, 40, .inr (.inl g0))), (p1, .inr (0, [.int b1, .int z1, .ref n1])), (n1, .inl (nc1, 40, .inr (.inl g1))), (p2, .inr (0, [.int b2, .int z2, .ref n2])), (n2, .inl (nc2, 40, .inr (.inl g2))), (p3, .inr (0, [.int b3, .int z3, .ref n3])), (n3, .inl (nc3, 40, .inr (.inl g3)))] s.heap.size = A at hD ⊢
      have hA : ∀ q : Nat, s.heap.size ≤ q → A q := fun q h => by rw [← hAe]; exact Or.inr h
      have hS : va_S A s.heap s.heap [] := va_S.rf
      have hP : va_P (dC, dI) vwCl [(h0, .inr (6, [v0, v1, v2, v3, v4, .ref ph, .ref t0, v7])), (t0, .inl (tc, 7, .inl tf)), (ph, .inl (pc, 4, .inr (.inr (.inr (.inr pf))))), (p0, .inr (0, [.int b0, .int z0, .ref n0])), (n0, .inl (nc0, 40, .inr (.inl g0))), (p1, .inr (0, [.int b1, .int z1, .ref n1])), (n1, .inl (nc1, 40, .inr (.inl g1))), (p2, .inr (0, [.int b2, .int z2, .ref n2])), (n2, .inl (nc2, 40, .inr (.inl g2))), (p3, .inr (0, [.int b3, .int z3, .ref n3])), (n3, .inl (nc3, 40, .inr (.inl g3)))] s.heap := hP
      have hl := lv_entry ([.ref h0, .int 0, .int i, .int d, .int j, .int n]) (n := 8) (Nat.le_of_ble_eq_true rfl)
      rw [lg_entry_eq]
      generalize (lg_sl ([.ref h0, .int 0, .int i, .int d, .int j, .int n]) ++ List.replicate (8 - (lg_sl ([.ref h0, .int 0, .int i, .int d, .int j, .int n])).length) Slot.unset).toArray = ls at hl ⊢
      have hl : lv_has ls 8 [(0, .ref h0), (1, .int 0), (2, .int i), (3, .int d), (4, .int j), (5, .int n)] := hl
      have thlt1 : d.toInt < 0 := (fa_lt _ _).mp hlt1
      refine lv_aload_n hx hb dX8_copy_0 rfl (lv_at hl 0 rfl) ?_
      refine lv_iload_n hx hb dX8_copy_1 rfl (lv_at hl 1 rfl) ?_
      have hPc := hP.sub (ws' := [(h0, .inr (6, [v0, v1, v2, v3, v4, .ref ph, .ref t0, v7])), (ph, .inl (pc, 4, .inr (.inr (.inr (.inr pf)))))]) [0, 2] rfl
      have hKc := hK.sub (tys' := [(pc, .object "LampShapes$Paper")]) [1] rfl
      refine va_csq (W.runV (As := [.int 0]) (rest := []) ⟨hx, hb, hml, hown, hts⟩ (c_paperAt_0 l dC dI ad h0 v0 v1 v2 v3 v4 ph (.ref t0) v7 pc pf p0 hp0) (cwV 1 hts g_x_copy_c_paperAt_0_256 rfl rfl rfl (by decide +kernel) ⟨(Nat.le_of_ble_eq_true rfl), (Nat.le_of_ble_eq_true rfl)⟩) ⟨preS_blind, va_recv hKc hPc (ci := 6) (q0 := 0) rfl rfl, fun U hU hW => ⟨rfl, preS_at hU hW hPc hKc hev⟩⟩ rfl rfl hl.1 rfl (lv_room (Nat.le_of_ble_eq_true rfl)) dX8_copy_2 ⟨(Nat.le_of_ble_eq_true rfl), (Nat.le_of_ble_eq_true rfl)⟩) (fun r_49 hw => ?_)
      subst hw
      refine pp_tv (y := .ref p0) rfl ?_
      refine lv_astore (lv' := [(6, .ref p0), (0, .ref h0), (1, .int 0), (2, .int i), (3, .int d), (4, .int j), (5, .int n)]) hx hb dX8_copy_5 hl (by decide) rfl (fun ls hl => ?_)
      refine lv_aload_n hx hb dX8_copy_7 rfl (lv_at hl 1 rfl) ?_
      refine lv_iload_n hx hb dX8_copy_8 rfl (lv_at hl 4 rfl) ?_
      have hPc := hP.sub (ws' := [(h0, .inr (6, [v0, v1, v2, v3, v4, .ref ph, .ref t0, v7]))]) [0] rfl
      have hKc := hK.sub (tys' := []) [] rfl
      refine va_csq (W.runV (As := [.int d]) (rest := []) ⟨hx, hb, hml, hown, hts⟩ (c_paperAt_lt l dC dI ad h0 d v0 v1 v2 v3 v4 (.ref ph) (.ref t0) v7 hlt1) (cwV 1 hts g_x_copy_c_paperAt_lt_256 rfl rfl rfl (by decide +kernel) ⟨(Nat.le_of_ble_eq_true rfl), (Nat.le_of_ble_eq_true rfl)⟩) ⟨preS_blind, va_recv hKc hPc (ci := 6) (q0 := 0) rfl rfl, fun U hU hW => ⟨rfl, preS_at hU hW hPc hKc hev⟩⟩ rfl rfl hl.1 rfl (lv_room (Nat.le_of_ble_eq_true rfl)) dX8_copy_9 ⟨(Nat.le_of_ble_eq_true rfl), (Nat.le_of_ble_eq_true rfl)⟩) (fun r_50 hw => ?_)
      subst hw
      refine pp_tv (y := .null) rfl ?_
      refine lv_astoreN (lv' := [(7, .null), (6, .ref p0), (0, .ref h0), (1, .int 0), (2, .int i), (3, .int d), (4, .int j), (5, .int n)]) hx hb dX8_copy_12 hl (by decide) rfl (fun ls hl => ?_)
      refine lv_aload hx hb dX8_copy_14 (lv_at hl 1 rfl) ?_
      refine lv_ifnull hx hb dX8_copy_16 ?_
      refine lv_aloadN hx hb dX8_copy_19 (lv_at hl 0 rfl) ?_
      refine lv_ifnonnullN hx hb dX8_copy_21 ?_
      refine lv_aload_n hx hb dX8_copy_24 rfl (lv_at hl 2 rfl) ?_
      refine lv_ldc hx hb hown (hts _ (List.mem_of_getElem? (i := 6) rfl)) dX8_copy_25 ?_
      have hPc := hP.sub (ws' := [(h0, .inr (6, [v0, v1, v2, v3, v4, .ref ph, .ref t0, v7])), (t0, .inl (tc, 7, .inl tf))]) [0, 1] rfl
      have hKc := hK.sub (tys' := [(tc, .int)]) [0] rfl
      have hDc := hD.sub (ws' := [(h0, .inr (6, [v0, v1, v2, v3, v4, .ref ph, .ref t0, v7])), (t0, .inl (tc, 7, .inl tf))]) [0, 1] (by decide) rfl
      have hFc := va_free (wc := [(h0, .inr (6, [v0, v1, v2, v3, v4, .ref ph, .ref t0, v7])), (t0, .inl (tc, 7, .inl tf))]) hD hS hA [0, 1] rfl
      refine va_calli (va_runV (As := [.int (-1000000001)]) (rest := []) ⟨hx, hb, hml, hown, hts⟩ (f_beyond l dC dI ad h0 v0 v1 v2 v3 v4 (.ref ph) t0 v7 tc tf s.heap.size ) (cwV 1 hts g_x_copy_f_beyond_63 rfl rfl rfl (by decide +kernel) ⟨(Nat.le_of_ble_eq_true rfl), (Nat.le_of_ble_eq_true rfl)⟩) ⟨preM_blind, va_recv hKc hPc (ci := 6) (q0 := 0) rfl rfl, fun U hU hW => ⟨rfl, preM_at hU hW hPc hKc hDc hev⟩⟩ rfl rfl hl.1 rfl (lv_room (Nat.le_of_ble_eq_true rfl)) dX8_copy_27 ⟨(Nat.le_of_ble_eq_true rfl), (Nat.le_of_ble_eq_true rfl)⟩) hS (fun q _ h => hFc q h) hFc (fun r_51 u t H1 locs ht hvm hw hB hz1 hk1 hS => ?_)
      obtain ⟨tg_52, hP1, hK1, hD1⟩ := hB
      rw [ht] at hP1
      have hK1 := va_K.moved hvm.symm hK1
      obtain ⟨hP, hD⟩ := va_join (wr := [(ph, .inl (pc, 4, .inr (.inr (.inr (.inr pf))))), (p0, .inr (0, [.int b0, .int z0, .ref n0])), (n0, .inl (nc0, 40, .inr (.inl g0))), (p1, .inr (0, [.int b1, .int z1, .ref n1])), (n1, .inl (nc1, 40, .inr (.inl g1))), (p2, .inr (0, [.int b2, .int z2, .ref n2])), (n2, .inl (nc2, 40, .inr (.inl g2))), (p3, .inr (0, [.int b3, .int z3, .ref n3])), (n3, .inl (nc3, 40, .inr (.inl g3)))]) (w1 := [(h0, .inr (6, [v0, v1, v2, v3, v4, .ref ph, .ref t0, v7])), (t0, .inl (tc, 7, .inl tg_52))]) hP hD [0, 1] [2, 3, 4, 5, 6, 7, 8, 9, 10] rfl rfl (by decide) (by decide) hk1 hFc hP1 hD1
      generalize H1 = H at hP hS ⊢
      have hP : va_P (dC, dI) vwCl [(ph, .inl (pc, 4, .inr (.inr (.inr (.inr pf))))), (p0, .inr (0, [.int b0, .int z0, .ref n0])), (n0, .inl (nc0, 40, .inr (.inl g0))), (p1, .inr (0, [.int b1, .int z1, .ref n1])), (n1, .inl (nc1, 40, .inr (.inl g1))), (p2, .inr (0, [.int b2, .int z2, .ref n2])), (n2, .inl (nc2, 40, .inr (.inl g2))), (p3, .inr (0, [.int b3, .int z3, .ref n3])), (n3, .inl (nc3, 40, .inr (.inl g3))), (h0, .inr (6, [v0, v1, v2, v3, v4, .ref ph, .ref t0, v7])), (t0, .inl (tc, 7, .inl tg_52))] H := hP
      have hD : va_D A [(ph, .inl (pc, 4, .inr (.inr (.inr (.inr pf))))), (p0, .inr (0, [.int b0, .int z0, .ref n0])), (n0, .inl (nc0, 40, .inr (.inl g0))), (p1, .inr (0, [.int b1, .int z1, .ref n1])), (n1, .inl (nc1, 40, .inr (.inl g1))), (p2, .inr (0, [.int b2, .int z2, .ref n2])), (n2, .inl (nc2, 40, .inr (.inl g2))), (p3, .inr (0, [.int b3, .int z3, .ref n3])), (n3, .inl (nc3, 40, .inr (.inl g3))), (h0, .inr (6, [v0, v1, v2, v3, v4, .ref ph, .ref t0, v7])), (t0, .inl (tc, 7, .inl tg_52))] := hD
      subst hw
      have hP9 := hP.sub (ws' := [(h0, .inr (6, [v0, v1, v2, v3, v4, .ref ph, .ref t0, v7])), (t0, .inl (tc, 7, .inl tg_52)), (ph, .inl (pc, 4, .inr (.inr (.inr (.inr pf))))), (p0, .inr (0, [.int b0, .int z0, .ref n0])), (n0, .inl (nc0, 40, .inr (.inl g0))), (p1, .inr (0, [.int b1, .int z1, .ref n1])), (n1, .inl (nc1, 40, .inr (.inl g1))), (p2, .inr (0, [.int b2, .int z2, .ref n2])), (n2, .inl (nc2, 40, .inr (.inl g2))), (p3, .inr (0, [.int b3, .int z3, .ref n3])), (n3, .inl (nc3, 40, .inr (.inl g3)))]) [9, 10, 0, 1, 2, 3, 4, 5, 6, 7, 8] rfl
      have hD9 := hD.sub (ws' := [(h0, .inr (6, [v0, v1, v2, v3, v4, .ref ph, .ref t0, v7])), (t0, .inl (tc, 7, .inl tg_52)), (ph, .inl (pc, 4, .inr (.inr (.inr (.inr pf))))), (p0, .inr (0, [.int b0, .int z0, .ref n0])), (n0, .inl (nc0, 40, .inr (.inl g0))), (p1, .inr (0, [.int b1, .int z1, .ref n1])), (n1, .inl (nc1, 40, .inr (.inl g1))), (p2, .inr (0, [.int b2, .int z2, .ref n2])), (n2, .inl (nc2, 40, .inr (.inl g2))), (p3, .inr (0, [.int b3, .int z3, .ref n3])), (n3, .inl (nc3, 40, .inr (.inl g3)))]) [9, 10, 0, 1, 2, 3, 4, 5, 6, 7, 8] (by decide) rfl
      have hK9 := hK.sub (tys' := [(tc, .int), (pc, .object "LampShapes$Paper"), (nc0, .long), (nc1, .long), (nc2, .long), (nc3, .long)]) [0, 1, 2, 3, 4, 5] rfl
      exact W.iret (v := ((-1000000001) : Int32)) hx hb hr (fun t ht hW => ⟨⟨((-1000000001) : Int32), (), rfl, trivial, tg_52, g0, g1, g2, g3, by rw [ht]; exact hP9, va_K.moved hW.alike hK9, hD9⟩, hS.F ht⟩) hS.2.2 dX8_copy_30
    · skip
      refine Met.ofW (cc := cX8_copy) (maxL := 8) (ret := (some .int)) (by decide) rfl ?_
      intro p e s m args below meth c s₁ B hml hv
      obtain ⟨rfl, hsz, hP, hK, hD0, hev⟩ := hv
      have hx := B.exec
      have hb := B.bytes
      have hr := B.returns
      have hts := atoms_spec (ws := w_x_copy) B.pre
      have hown : s.vm.findClass RX8 = some m.cls := findClass_of_methodNamed B.named
      have hlocks := B.notSynchronized
      have inX8 : ∀ w ∈ wsX80, w ∈ w_x_copy := fun w h => List.mem_cons_of_mem _ (List.mem_append_left _ (List.mem_append_right _ h))
      have inX2 : ∀ w ∈ wsX20, w ∈ w_x_copy := fun w h => List.mem_cons_of_mem _ (List.mem_append_right _ h)
      subst hsz
      have hD := hD0.self (sz := s.heap.size)
      generalize hAe : va_A [(h0, .inr (6, [v0, v1, v2, v3, v4, .ref ph, .ref t0, v7])), (t0, .inl (tc, 7, .inl tf)), (ph, .inl (pc, 4, .inr (.inr (.inr (.inr pf))))), (p0, .inr (0, [.int b0, .int z0, .ref n0])), (n0, .inl (nc0, 40, .inr (.inl g0))), (p1, .inr (0, [.int b1, .int z1, .ref n1])), (n1, .inl (nc1, 40, .inr (.inl g1))), (p2, .inr (0, [.int b2, .int z2, .ref n2])), (n2, .inl (nc2, 40, .inr (.inl g2))), (p3, .inr (0, [.int b3, .int z3, .ref n3])), (n3, .inl (nc3, 40, .inr (.inl g3)))] s.heap.size = A at hD ⊢
      have hA : ∀ q : Nat, s.heap.size ≤ q → A q := fun q h => by rw [← hAe]; exact Or.inr h
      have hS : va_S A s.heap s.heap [] := va_S.rf
      have hP : va_P (dC, dI) vwCl [(h0, .inr (6, [v0, v1, v2, v3, v4, .ref ph, .ref t0, v7])), (t0, .inl (tc, 7, .inl tf)), (ph, .inl (pc, 4, .inr (.inr (.inr (.inr pf))))), (p0, .inr (0, [.int b0, .int z0, .ref n0])), (n0, .inl (nc0, 40, .inr (.inl g0))), (p1, .inr (0, [.int b1, .int z1, .ref n1])), (n1, .inl (nc1, 40, .inr (.inl g1))), (p2, .inr (0, [.int b2, .int z2, .ref n2])), (n2, .inl (nc2, 40, .inr (.inl g2))), (p3, .inr (0, [.int b3, .int z3, .ref n3])), (n3, .inl (nc3, 40, .inr (.inl g3)))] s.heap := hP
      have hl := lv_entry ([.ref h0, .int 0, .int i, .int d, .int j, .int n]) (n := 8) (Nat.le_of_ble_eq_true rfl)
      rw [lg_entry_eq]
      generalize (lg_sl ([.ref h0, .int 0, .int i, .int d, .int j, .int n]) ++ List.replicate (8 - (lg_sl ([.ref h0, .int 0, .int i, .int d, .int j, .int n])).length) Slot.unset).toArray = ls at hl ⊢
      have hl : lv_has ls 8 [(0, .ref h0), (1, .int 0), (2, .int i), (3, .int d), (4, .int j), (5, .int n)] := hl
      have thgt1 : 3 < d.toInt := (fa_lt _ _).mp hgt1
      refine lv_aload_n hx hb dX8_copy_0 rfl (lv_at hl 0 rfl) ?_
      refine lv_iload_n hx hb dX8_copy_1 rfl (lv_at hl 1 rfl) ?_
      have hPc := hP.sub (ws' := [(h0, .inr (6, [v0, v1, v2, v3, v4, .ref ph, .ref t0, v7])), (ph, .inl (pc, 4, .inr (.inr (.inr (.inr pf)))))]) [0, 2] rfl
      have hKc := hK.sub (tys' := [(pc, .object "LampShapes$Paper")]) [1] rfl
      refine va_csq (W.runV (As := [.int 0]) (rest := []) ⟨hx, hb, hml, hown, hts⟩ (c_paperAt_0 l dC dI ad h0 v0 v1 v2 v3 v4 ph (.ref t0) v7 pc pf p0 hp0) (cwV 1 hts g_x_copy_c_paperAt_0_256 rfl rfl rfl (by decide +kernel) ⟨(Nat.le_of_ble_eq_true rfl), (Nat.le_of_ble_eq_true rfl)⟩) ⟨preS_blind, va_recv hKc hPc (ci := 6) (q0 := 0) rfl rfl, fun U hU hW => ⟨rfl, preS_at hU hW hPc hKc hev⟩⟩ rfl rfl hl.1 rfl (lv_room (Nat.le_of_ble_eq_true rfl)) dX8_copy_2 ⟨(Nat.le_of_ble_eq_true rfl), (Nat.le_of_ble_eq_true rfl)⟩) (fun r_53 hw => ?_)
      subst hw
      refine pp_tv (y := .ref p0) rfl ?_
      refine lv_astore (lv' := [(6, .ref p0), (0, .ref h0), (1, .int 0), (2, .int i), (3, .int d), (4, .int j), (5, .int n)]) hx hb dX8_copy_5 hl (by decide) rfl (fun ls hl => ?_)
      refine lv_aload_n hx hb dX8_copy_7 rfl (lv_at hl 1 rfl) ?_
      refine lv_iload_n hx hb dX8_copy_8 rfl (lv_at hl 4 rfl) ?_
      have hPc := hP.sub (ws' := [(h0, .inr (6, [v0, v1, v2, v3, v4, .ref ph, .ref t0, v7]))]) [0] rfl
      have hKc := hK.sub (tys' := []) [] rfl
      refine va_csq (W.runV (As := [.int d]) (rest := []) ⟨hx, hb, hml, hown, hts⟩ (c_paperAt_gt l dC dI ad h0 d v0 v1 v2 v3 v4 (.ref ph) (.ref t0) v7 hgt1) (cwV 1 hts g_x_copy_c_paperAt_gt_256 rfl rfl rfl (by decide +kernel) ⟨(Nat.le_of_ble_eq_true rfl), (Nat.le_of_ble_eq_true rfl)⟩) ⟨preS_blind, va_recv hKc hPc (ci := 6) (q0 := 0) rfl rfl, fun U hU hW => ⟨rfl, preS_at hU hW hPc hKc hev⟩⟩ rfl rfl hl.1 rfl (lv_room (Nat.le_of_ble_eq_true rfl)) dX8_copy_9 ⟨(Nat.le_of_ble_eq_true rfl), (Nat.le_of_ble_eq_true rfl)⟩) (fun r_54 hw => ?_)
      subst hw
      refine pp_tv (y := .null) rfl ?_
      refine lv_astoreN (lv' := [(7, .null), (6, .ref p0), (0, .ref h0), (1, .int 0), (2, .int i), (3, .int d), (4, .int j), (5, .int n)]) hx hb dX8_copy_12 hl (by decide) rfl (fun ls hl => ?_)
      refine lv_aload hx hb dX8_copy_14 (lv_at hl 1 rfl) ?_
      refine lv_ifnull hx hb dX8_copy_16 ?_
      refine lv_aloadN hx hb dX8_copy_19 (lv_at hl 0 rfl) ?_
      refine lv_ifnonnullN hx hb dX8_copy_21 ?_
      refine lv_aload_n hx hb dX8_copy_24 rfl (lv_at hl 2 rfl) ?_
      refine lv_ldc hx hb hown (hts _ (List.mem_of_getElem? (i := 6) rfl)) dX8_copy_25 ?_
      have hPc := hP.sub (ws' := [(h0, .inr (6, [v0, v1, v2, v3, v4, .ref ph, .ref t0, v7])), (t0, .inl (tc, 7, .inl tf))]) [0, 1] rfl
      have hKc := hK.sub (tys' := [(tc, .int)]) [0] rfl
      have hDc := hD.sub (ws' := [(h0, .inr (6, [v0, v1, v2, v3, v4, .ref ph, .ref t0, v7])), (t0, .inl (tc, 7, .inl tf))]) [0, 1] (by decide) rfl
      have hFc := va_free (wc := [(h0, .inr (6, [v0, v1, v2, v3, v4, .ref ph, .ref t0, v7])), (t0, .inl (tc, 7, .inl tf))]) hD hS hA [0, 1] rfl
      refine va_calli (va_runV (As := [.int (-1000000001)]) (rest := []) ⟨hx, hb, hml, hown, hts⟩ (f_beyond l dC dI ad h0 v0 v1 v2 v3 v4 (.ref ph) t0 v7 tc tf s.heap.size ) (cwV 1 hts g_x_copy_f_beyond_63 rfl rfl rfl (by decide +kernel) ⟨(Nat.le_of_ble_eq_true rfl), (Nat.le_of_ble_eq_true rfl)⟩) ⟨preM_blind, va_recv hKc hPc (ci := 6) (q0 := 0) rfl rfl, fun U hU hW => ⟨rfl, preM_at hU hW hPc hKc hDc hev⟩⟩ rfl rfl hl.1 rfl (lv_room (Nat.le_of_ble_eq_true rfl)) dX8_copy_27 ⟨(Nat.le_of_ble_eq_true rfl), (Nat.le_of_ble_eq_true rfl)⟩) hS (fun q _ h => hFc q h) hFc (fun r_55 u t H1 locs ht hvm hw hB hz1 hk1 hS => ?_)
      obtain ⟨tg_56, hP1, hK1, hD1⟩ := hB
      rw [ht] at hP1
      have hK1 := va_K.moved hvm.symm hK1
      obtain ⟨hP, hD⟩ := va_join (wr := [(ph, .inl (pc, 4, .inr (.inr (.inr (.inr pf))))), (p0, .inr (0, [.int b0, .int z0, .ref n0])), (n0, .inl (nc0, 40, .inr (.inl g0))), (p1, .inr (0, [.int b1, .int z1, .ref n1])), (n1, .inl (nc1, 40, .inr (.inl g1))), (p2, .inr (0, [.int b2, .int z2, .ref n2])), (n2, .inl (nc2, 40, .inr (.inl g2))), (p3, .inr (0, [.int b3, .int z3, .ref n3])), (n3, .inl (nc3, 40, .inr (.inl g3)))]) (w1 := [(h0, .inr (6, [v0, v1, v2, v3, v4, .ref ph, .ref t0, v7])), (t0, .inl (tc, 7, .inl tg_56))]) hP hD [0, 1] [2, 3, 4, 5, 6, 7, 8, 9, 10] rfl rfl (by decide) (by decide) hk1 hFc hP1 hD1
      generalize H1 = H at hP hS ⊢
      have hP : va_P (dC, dI) vwCl [(ph, .inl (pc, 4, .inr (.inr (.inr (.inr pf))))), (p0, .inr (0, [.int b0, .int z0, .ref n0])), (n0, .inl (nc0, 40, .inr (.inl g0))), (p1, .inr (0, [.int b1, .int z1, .ref n1])), (n1, .inl (nc1, 40, .inr (.inl g1))), (p2, .inr (0, [.int b2, .int z2, .ref n2])), (n2, .inl (nc2, 40, .inr (.inl g2))), (p3, .inr (0, [.int b3, .int z3, .ref n3])), (n3, .inl (nc3, 40, .inr (.inl g3))), (h0, .inr (6, [v0, v1, v2, v3, v4, .ref ph, .ref t0, v7])), (t0, .inl (tc, 7, .inl tg_56))] H := hP
      have hD : va_D A [(ph, .inl (pc, 4, .inr (.inr (.inr (.inr pf))))), (p0, .inr (0, [.int b0, .int z0, .ref n0])), (n0, .inl (nc0, 40, .inr (.inl g0))), (p1, .inr (0, [.int b1, .int z1, .ref n1])), (n1, .inl (nc1, 40, .inr (.inl g1))), (p2, .inr (0, [.int b2, .int z2, .ref n2])), (n2, .inl (nc2, 40, .inr (.inl g2))), (p3, .inr (0, [.int b3, .int z3, .ref n3])), (n3, .inl (nc3, 40, .inr (.inl g3))), (h0, .inr (6, [v0, v1, v2, v3, v4, .ref ph, .ref t0, v7])), (t0, .inl (tc, 7, .inl tg_56))] := hD
      subst hw
      have hP9 := hP.sub (ws' := [(h0, .inr (6, [v0, v1, v2, v3, v4, .ref ph, .ref t0, v7])), (t0, .inl (tc, 7, .inl tg_56)), (ph, .inl (pc, 4, .inr (.inr (.inr (.inr pf))))), (p0, .inr (0, [.int b0, .int z0, .ref n0])), (n0, .inl (nc0, 40, .inr (.inl g0))), (p1, .inr (0, [.int b1, .int z1, .ref n1])), (n1, .inl (nc1, 40, .inr (.inl g1))), (p2, .inr (0, [.int b2, .int z2, .ref n2])), (n2, .inl (nc2, 40, .inr (.inl g2))), (p3, .inr (0, [.int b3, .int z3, .ref n3])), (n3, .inl (nc3, 40, .inr (.inl g3)))]) [9, 10, 0, 1, 2, 3, 4, 5, 6, 7, 8] rfl
      have hD9 := hD.sub (ws' := [(h0, .inr (6, [v0, v1, v2, v3, v4, .ref ph, .ref t0, v7])), (t0, .inl (tc, 7, .inl tg_56)), (ph, .inl (pc, 4, .inr (.inr (.inr (.inr pf))))), (p0, .inr (0, [.int b0, .int z0, .ref n0])), (n0, .inl (nc0, 40, .inr (.inl g0))), (p1, .inr (0, [.int b1, .int z1, .ref n1])), (n1, .inl (nc1, 40, .inr (.inl g1))), (p2, .inr (0, [.int b2, .int z2, .ref n2])), (n2, .inl (nc2, 40, .inr (.inl g2))), (p3, .inr (0, [.int b3, .int z3, .ref n3])), (n3, .inl (nc3, 40, .inr (.inl g3)))]) [9, 10, 0, 1, 2, 3, 4, 5, 6, 7, 8] (by decide) rfl
      have hK9 := hK.sub (tys' := [(tc, .int), (pc, .object "LampShapes$Paper"), (nc0, .long), (nc1, .long), (nc2, .long), (nc3, .long)]) [0, 1, 2, 3, 4, 5] rfl
      exact W.iret (v := ((-1000000001) : Int32)) hx hb hr (fun t ht hW => ⟨⟨((-1000000001) : Int32), (), rfl, trivial, tg_56, g0, g1, g2, g3, by rw [ht]; exact hP9, va_K.moved hW.alike hK9, hD9⟩, hS.F ht⟩) hS.2.2 dX8_copy_30
    · skip
      refine Met.ofW (cc := cX8_copy) (maxL := 8) (ret := (some .int)) (by decide) rfl ?_
      intro p e s m args below meth c s₁ B hml hv
      obtain ⟨rfl, hsz, hP, hK, hD0, hev⟩ := hv
      have hx := B.exec
      have hb := B.bytes
      have hr := B.returns
      have hts := atoms_spec (ws := w_x_copy) B.pre
      have hown : s.vm.findClass RX8 = some m.cls := findClass_of_methodNamed B.named
      have hlocks := B.notSynchronized
      have inX8 : ∀ w ∈ wsX80, w ∈ w_x_copy := fun w h => List.mem_cons_of_mem _ (List.mem_append_left _ (List.mem_append_right _ h))
      have inX2 : ∀ w ∈ wsX20, w ∈ w_x_copy := fun w h => List.mem_cons_of_mem _ (List.mem_append_right _ h)
      subst hsz
      have hD := hD0.self (sz := s.heap.size)
      generalize hAe : va_A [(h0, .inr (6, [v0, v1, v2, v3, v4, .ref ph, .ref t0, v7])), (t0, .inl (tc, 7, .inl tf)), (ph, .inl (pc, 4, .inr (.inr (.inr (.inr pf))))), (p0, .inr (0, [.int b0, .int z0, .ref n0])), (n0, .inl (nc0, 40, .inr (.inl g0))), (p1, .inr (0, [.int b1, .int z1, .ref n1])), (n1, .inl (nc1, 40, .inr (.inl g1))), (p2, .inr (0, [.int b2, .int z2, .ref n2])), (n2, .inl (nc2, 40, .inr (.inl g2))), (p3, .inr (0, [.int b3, .int z3, .ref n3])), (n3, .inl (nc3, 40, .inr (.inl g3)))] s.heap.size = A at hD ⊢
      have hA : ∀ q : Nat, s.heap.size ≤ q → A q := fun q h => by rw [← hAe]; exact Or.inr h
      have hS : va_S A s.heap s.heap [] := va_S.rf
      have hP : va_P (dC, dI) vwCl [(h0, .inr (6, [v0, v1, v2, v3, v4, .ref ph, .ref t0, v7])), (t0, .inl (tc, 7, .inl tf)), (ph, .inl (pc, 4, .inr (.inr (.inr (.inr pf))))), (p0, .inr (0, [.int b0, .int z0, .ref n0])), (n0, .inl (nc0, 40, .inr (.inl g0))), (p1, .inr (0, [.int b1, .int z1, .ref n1])), (n1, .inl (nc1, 40, .inr (.inl g1))), (p2, .inr (0, [.int b2, .int z2, .ref n2])), (n2, .inl (nc2, 40, .inr (.inl g2))), (p3, .inr (0, [.int b3, .int z3, .ref n3])), (n3, .inl (nc3, 40, .inr (.inl g3)))] s.heap := hP
      have hl := lv_entry ([.ref h0, .int 0, .int i, .int 0, .int j, .int n]) (n := 8) (Nat.le_of_ble_eq_true rfl)
      rw [lg_entry_eq]
      generalize (lg_sl ([.ref h0, .int 0, .int i, .int 0, .int j, .int n]) ++ List.replicate (8 - (lg_sl ([.ref h0, .int 0, .int i, .int 0, .int j, .int n])).length) Slot.unset).toArray = ls at hl ⊢
      have hl : lv_has ls 8 [(0, .ref h0), (1, .int 0), (2, .int i), (3, .int 0), (4, .int j), (5, .int n)] := hl
      refine lv_aload_n hx hb dX8_copy_0 rfl (lv_at hl 0 rfl) ?_
      refine lv_iload_n hx hb dX8_copy_1 rfl (lv_at hl 1 rfl) ?_
      have hPc := hP.sub (ws' := [(h0, .inr (6, [v0, v1, v2, v3, v4, .ref ph, .ref t0, v7])), (ph, .inl (pc, 4, .inr (.inr (.inr (.inr pf)))))]) [0, 2] rfl
      have hKc := hK.sub (tys' := [(pc, .object "LampShapes$Paper")]) [1] rfl
      refine va_csq (W.runV (As := [.int 0]) (rest := []) ⟨hx, hb, hml, hown, hts⟩ (c_paperAt_0 l dC dI ad h0 v0 v1 v2 v3 v4 ph (.ref t0) v7 pc pf p0 hp0) (cwV 1 hts g_x_copy_c_paperAt_0_256 rfl rfl rfl (by decide +kernel) ⟨(Nat.le_of_ble_eq_true rfl), (Nat.le_of_ble_eq_true rfl)⟩) ⟨preS_blind, va_recv hKc hPc (ci := 6) (q0 := 0) rfl rfl, fun U hU hW => ⟨rfl, preS_at hU hW hPc hKc hev⟩⟩ rfl rfl hl.1 rfl (lv_room (Nat.le_of_ble_eq_true rfl)) dX8_copy_2 ⟨(Nat.le_of_ble_eq_true rfl), (Nat.le_of_ble_eq_true rfl)⟩) (fun r_57 hw => ?_)
      subst hw
      refine pp_tv (y := .ref p0) rfl ?_
      refine lv_astore (lv' := [(6, .ref p0), (0, .ref h0), (1, .int 0), (2, .int i), (3, .int 0), (4, .int j), (5, .int n)]) hx hb dX8_copy_5 hl (by decide) rfl (fun ls hl => ?_)
      refine lv_aload_n hx hb dX8_copy_7 rfl (lv_at hl 1 rfl) ?_
      refine lv_iload_n hx hb dX8_copy_8 rfl (lv_at hl 4 rfl) ?_
      have hPc := hP.sub (ws' := [(h0, .inr (6, [v0, v1, v2, v3, v4, .ref ph, .ref t0, v7])), (ph, .inl (pc, 4, .inr (.inr (.inr (.inr pf)))))]) [0, 2] rfl
      have hKc := hK.sub (tys' := [(pc, .object "LampShapes$Paper")]) [1] rfl
      refine va_csq (W.runV (As := [.int 0]) (rest := []) ⟨hx, hb, hml, hown, hts⟩ (c_paperAt_0 l dC dI ad h0 v0 v1 v2 v3 v4 ph (.ref t0) v7 pc pf p0 hp0) (cwV 1 hts g_x_copy_c_paperAt_0_256 rfl rfl rfl (by decide +kernel) ⟨(Nat.le_of_ble_eq_true rfl), (Nat.le_of_ble_eq_true rfl)⟩) ⟨preS_blind, va_recv hKc hPc (ci := 6) (q0 := 0) rfl rfl, fun U hU hW => ⟨rfl, preS_at hU hW hPc hKc hev⟩⟩ rfl rfl hl.1 rfl (lv_room (Nat.le_of_ble_eq_true rfl)) dX8_copy_9 ⟨(Nat.le_of_ble_eq_true rfl), (Nat.le_of_ble_eq_true rfl)⟩) (fun r_58 hw => ?_)
      subst hw
      refine pp_tv (y := .ref p0) rfl ?_
      refine lv_astore (lv' := [(7, .ref p0), (6, .ref p0), (0, .ref h0), (1, .int 0), (2, .int i), (3, .int 0), (4, .int j), (5, .int n)]) hx hb dX8_copy_12 hl (by decide) rfl (fun ls hl => ?_)
      refine lv_aload hx hb dX8_copy_14 (lv_at hl 1 rfl) ?_
      refine lv_ifnull hx hb dX8_copy_16 ?_
      refine lv_aload hx hb dX8_copy_19 (lv_at hl 0 rfl) ?_
      refine lv_ifnonnull (tgt := 31) hx hb dX8_copy_21 (by decide) ?_
      refine lv_aload hx hb dX8_copy_31 (lv_at hl 1 rfl) ?_
      have hPc := hP.sub (ws' := [(p0, .inr (0, [.int b0, .int z0, .ref n0]))]) [3] rfl
      have hKc := hK.sub (tys' := []) [] rfl
      refine vp_callSi (W.runV (As := []) (rest := []) ⟨hx, hb, hml, hown, hts⟩ (p_isMissing l dC dI ad p0 b0 (.int z0) (.ref n0) ) (cwV 0 hts g_x_copy_p_isMissing_268 rfl rfl rfl (by decide +kernel) ⟨(Nat.le_of_ble_eq_true rfl), (Nat.le_of_ble_eq_true rfl)⟩) ⟨preS_blind, va_recv hKc hPc (ci := 0) (q0 := 0) rfl rfl, fun U hU hW => ⟨rfl, preS_at hU hW hPc hKc hev⟩⟩ rfl rfl hl.1 rfl (lv_room (Nat.le_of_ble_eq_true rfl)) dX8_copy_33 ⟨(Nat.le_of_ble_eq_true rfl), (Nat.le_of_ble_eq_true rfl)⟩) (fun r_59 hw => ?_)
      have hr_59 : (r_59.toInt = 1 ∧ b0.toInt = 0) ∨ (r_59.toInt = 0 ∧ ¬ b0.toInt = 0) := hw
      refine lv_if_ne (tgt := 47) hx hb dX8_copy_36 (by decide) (fun c_60 => ?_) (fun c_60 => ?_)
      · skip
        have tc_60 : ¬ r_59.toInt = 0 := fun h => c_60 ((fa_eq _ _).mpr h)
        refine lv_aload_n hx hb dX8_copy_47 rfl (lv_at hl 2 rfl) ?_
        refine lv_ldcw hx hb hown (hts _ (List.mem_of_getElem? (i := 19) rfl)) dX8_copy_48 ?_
        have hPc := hP.sub (ws' := [(h0, .inr (6, [v0, v1, v2, v3, v4, .ref ph, .ref t0, v7])), (t0, .inl (tc, 7, .inl tf))]) [0, 1] rfl
        have hKc := hK.sub (tys' := [(tc, .int)]) [0] rfl
        have hDc := hD.sub (ws' := [(h0, .inr (6, [v0, v1, v2, v3, v4, .ref ph, .ref t0, v7])), (t0, .inl (tc, 7, .inl tf))]) [0, 1] (by decide) rfl
        have hFc := va_free (wc := [(h0, .inr (6, [v0, v1, v2, v3, v4, .ref ph, .ref t0, v7])), (t0, .inl (tc, 7, .inl tf))]) hD hS hA [0, 1] rfl
        refine va_calli (va_runV (As := [.int (-1000000006)]) (rest := []) ⟨hx, hb, hml, hown, hts⟩ (f_missing l dC dI ad h0 v0 v1 v2 v3 v4 (.ref ph) t0 v7 tc tf s.heap.size ) (cwV 1 hts g_x_copy_f_missing_63 rfl rfl rfl (by decide +kernel) ⟨(Nat.le_of_ble_eq_true rfl), (Nat.le_of_ble_eq_true rfl)⟩) ⟨preM_blind, va_recv hKc hPc (ci := 6) (q0 := 0) rfl rfl, fun U hU hW => ⟨rfl, preM_at hU hW hPc hKc hDc hev⟩⟩ rfl rfl hl.1 rfl (lv_room (Nat.le_of_ble_eq_true rfl)) dX8_copy_51 ⟨(Nat.le_of_ble_eq_true rfl), (Nat.le_of_ble_eq_true rfl)⟩) hS (fun q _ h => hFc q h) hFc (fun r_61 u t H1 locs ht hvm hw hB hz1 hk1 hS => ?_)
        obtain ⟨tg_62, hP1, hK1, hD1⟩ := hB
        rw [ht] at hP1
        have hK1 := va_K.moved hvm.symm hK1
        obtain ⟨hP, hD⟩ := va_join (wr := [(ph, .inl (pc, 4, .inr (.inr (.inr (.inr pf))))), (p0, .inr (0, [.int b0, .int z0, .ref n0])), (n0, .inl (nc0, 40, .inr (.inl g0))), (p1, .inr (0, [.int b1, .int z1, .ref n1])), (n1, .inl (nc1, 40, .inr (.inl g1))), (p2, .inr (0, [.int b2, .int z2, .ref n2])), (n2, .inl (nc2, 40, .inr (.inl g2))), (p3, .inr (0, [.int b3, .int z3, .ref n3])), (n3, .inl (nc3, 40, .inr (.inl g3)))]) (w1 := [(h0, .inr (6, [v0, v1, v2, v3, v4, .ref ph, .ref t0, v7])), (t0, .inl (tc, 7, .inl tg_62))]) hP hD [0, 1] [2, 3, 4, 5, 6, 7, 8, 9, 10] rfl rfl (by decide) (by decide) hk1 hFc hP1 hD1
        generalize H1 = H at hP hS ⊢
        have hP : va_P (dC, dI) vwCl [(ph, .inl (pc, 4, .inr (.inr (.inr (.inr pf))))), (p0, .inr (0, [.int b0, .int z0, .ref n0])), (n0, .inl (nc0, 40, .inr (.inl g0))), (p1, .inr (0, [.int b1, .int z1, .ref n1])), (n1, .inl (nc1, 40, .inr (.inl g1))), (p2, .inr (0, [.int b2, .int z2, .ref n2])), (n2, .inl (nc2, 40, .inr (.inl g2))), (p3, .inr (0, [.int b3, .int z3, .ref n3])), (n3, .inl (nc3, 40, .inr (.inl g3))), (h0, .inr (6, [v0, v1, v2, v3, v4, .ref ph, .ref t0, v7])), (t0, .inl (tc, 7, .inl tg_62))] H := hP
        have hD : va_D A [(ph, .inl (pc, 4, .inr (.inr (.inr (.inr pf))))), (p0, .inr (0, [.int b0, .int z0, .ref n0])), (n0, .inl (nc0, 40, .inr (.inl g0))), (p1, .inr (0, [.int b1, .int z1, .ref n1])), (n1, .inl (nc1, 40, .inr (.inl g1))), (p2, .inr (0, [.int b2, .int z2, .ref n2])), (n2, .inl (nc2, 40, .inr (.inl g2))), (p3, .inr (0, [.int b3, .int z3, .ref n3])), (n3, .inl (nc3, 40, .inr (.inl g3))), (h0, .inr (6, [v0, v1, v2, v3, v4, .ref ph, .ref t0, v7])), (t0, .inl (tc, 7, .inl tg_62))] := hD
        subst hw
        have hP9 := hP.sub (ws' := [(h0, .inr (6, [v0, v1, v2, v3, v4, .ref ph, .ref t0, v7])), (t0, .inl (tc, 7, .inl tg_62)), (ph, .inl (pc, 4, .inr (.inr (.inr (.inr pf))))), (p0, .inr (0, [.int b0, .int z0, .ref n0])), (n0, .inl (nc0, 40, .inr (.inl g0))), (p1, .inr (0, [.int b1, .int z1, .ref n1])), (n1, .inl (nc1, 40, .inr (.inl g1))), (p2, .inr (0, [.int b2, .int z2, .ref n2])), (n2, .inl (nc2, 40, .inr (.inl g2))), (p3, .inr (0, [.int b3, .int z3, .ref n3])), (n3, .inl (nc3, 40, .inr (.inl g3)))]) [9, 10, 0, 1, 2, 3, 4, 5, 6, 7, 8] rfl
        have hD9 := hD.sub (ws' := [(h0, .inr (6, [v0, v1, v2, v3, v4, .ref ph, .ref t0, v7])), (t0, .inl (tc, 7, .inl tg_62)), (ph, .inl (pc, 4, .inr (.inr (.inr (.inr pf))))), (p0, .inr (0, [.int b0, .int z0, .ref n0])), (n0, .inl (nc0, 40, .inr (.inl g0))), (p1, .inr (0, [.int b1, .int z1, .ref n1])), (n1, .inl (nc1, 40, .inr (.inl g1))), (p2, .inr (0, [.int b2, .int z2, .ref n2])), (n2, .inl (nc2, 40, .inr (.inl g2))), (p3, .inr (0, [.int b3, .int z3, .ref n3])), (n3, .inl (nc3, 40, .inr (.inl g3)))]) [9, 10, 0, 1, 2, 3, 4, 5, 6, 7, 8] (by decide) rfl
        have hK9 := hK.sub (tys' := [(tc, .int), (pc, .object "LampShapes$Paper"), (nc0, .long), (nc1, .long), (nc2, .long), (nc3, .long)]) [0, 1, 2, 3, 4, 5] rfl
        exact W.iret (v := ((-1000000006) : Int32)) hx hb hr (fun t ht hW => ⟨⟨((-1000000006) : Int32), (), rfl, trivial, tg_62, g0, g1, g2, g3, by rw [ht]; exact hP9, va_K.moved hW.alike hK9, hD9⟩, hS.F ht⟩) hS.2.2 dX8_copy_54
      · skip
        have tc_60 : r_59.toInt = 0 := (fa_eq _ _).mp c_60
        refine lv_aload hx hb dX8_copy_39 (lv_at hl 0 rfl) ?_
        have hPc := hP.sub (ws' := [(p0, .inr (0, [.int b0, .int z0, .ref n0]))]) [3] rfl
        have hKc := hK.sub (tys' := []) [] rfl
        refine vp_callSi (W.runV (As := []) (rest := []) ⟨hx, hb, hml, hown, hts⟩ (p_isMissing l dC dI ad p0 b0 (.int z0) (.ref n0) ) (cwV 0 hts g_x_copy_p_isMissing_268 rfl rfl rfl (by decide +kernel) ⟨(Nat.le_of_ble_eq_true rfl), (Nat.le_of_ble_eq_true rfl)⟩) ⟨preS_blind, va_recv hKc hPc (ci := 0) (q0 := 0) rfl rfl, fun U hU hW => ⟨rfl, preS_at hU hW hPc hKc hev⟩⟩ rfl rfl hl.1 rfl (lv_room (Nat.le_of_ble_eq_true rfl)) dX8_copy_41 ⟨(Nat.le_of_ble_eq_true rfl), (Nat.le_of_ble_eq_true rfl)⟩) (fun r_63 hw => ?_)
        have hr_63 : (r_63.toInt = 1 ∧ b0.toInt = 0) ∨ (r_63.toInt = 0 ∧ ¬ b0.toInt = 0) := hw
        refine lv_if_eq (tgt := 55) hx hb dX8_copy_44 (by decide) (fun c_64 => ?_) (fun c_64 => ?_)
        · skip
          have tc_64 : r_63.toInt = 0 := (fa_eq _ _).mp c_64
          refine lv_aload hx hb dX8_copy_55 (lv_at hl 1 rfl) ?_
          refine va_getN (D := (dC, dI)) (ci := 0) (v := .int b0) (C := RX2) (T := TX2) (N := 3) hx hb hts inX2 hown hK hP 3 rfl rfl 0 (by decide) (ev_nest hev 21 rfl) (fun _ h9 => h9) rfl dX8_copy_57 ?_
          refine lv_aload hx hb dX8_copy_60 (lv_at hl 0 rfl) ?_
          refine va_getN (D := (dC, dI)) (ci := 0) (v := .int b0) (C := RX2) (T := TX2) (N := 3) hx hb hts inX2 hown hK hP 3 rfl rfl 0 (by decide) (ev_nest hev 21 rfl) (fun _ h9 => h9) rfl dX8_copy_62 ?_
          have rc_65_x := pp_rng b0
          have rc_65_x := pp_rng b0
          refine lv_icmp_eq (tgt := 75) hx hb dX8_copy_65 (by decide) (fun c_65 => ?_) (fun c_65 => ?_)
          · skip
            have tc_65 : b0.toInt = b0.toInt := (fa_eq _ _).mp c_65
            refine lv_aload hx hb dX8_copy_75 (lv_at hl 1 rfl) ?_
            refine lv_iload_n hx hb dX8_copy_77 rfl (lv_at hl 4 rfl) ?_
            refine lv_iload hx hb dX8_copy_78 (lv_at hl 7 rfl) ?_
            have hPc := hP.sub (ws' := [(p0, .inr (0, [.int b0, .int z0, .ref n0]))]) [3] rfl
            have hKc := hK.sub (tys' := []) [] rfl
            refine vp_callSi (W.runV (As := [.int i, .int n]) (rest := []) ⟨hx, hb, hml, hown, hts⟩ (p_hasPart l dC dI ad p0 i n (.int b0) z0 (.ref n0) hz0) (cwV 2 hts g_x_copy_p_hasPart_282 rfl rfl rfl (by decide +kernel) ⟨(Nat.le_of_ble_eq_true rfl), (Nat.le_of_ble_eq_true rfl)⟩) ⟨preS_blind, va_recv hKc hPc (ci := 0) (q0 := 0) rfl rfl, fun U hU hW => ⟨rfl, preS_at hU hW hPc hKc hev⟩⟩ rfl rfl hl.1 rfl (lv_room (Nat.le_of_ble_eq_true rfl)) dX8_copy_80 ⟨(Nat.le_of_ble_eq_true rfl), (Nat.le_of_ble_eq_true rfl)⟩) (fun r_66 hw => ?_)
            have hr_66 : (r_66.toInt = 1 ∧ 0 ≤ i.toInt ∧ 0 ≤ n.toInt ∧ i.toInt + n.toInt ≤ z0.toInt) ∨ (r_66.toInt = 0 ∧ ¬ (0 ≤ i.toInt ∧ 0 ≤ n.toInt ∧ i.toInt + n.toInt ≤ z0.toInt)) := hw
            refine lv_if_eq (tgt := 98) hx hb dX8_copy_83 (by decide) (fun c_67 => ?_) (fun c_67 => ?_)
            · skip
              have tc_67 : r_66.toInt = 0 := (fa_eq _ _).mp c_67
              refine lv_aload_n hx hb dX8_copy_98 rfl (lv_at hl 2 rfl) ?_
              refine lv_ldc hx hb hown (hts _ (List.mem_of_getElem? (i := 6) rfl)) dX8_copy_99 ?_
              have hPc := hP.sub (ws' := [(h0, .inr (6, [v0, v1, v2, v3, v4, .ref ph, .ref t0, v7])), (t0, .inl (tc, 7, .inl tf))]) [0, 1] rfl
              have hKc := hK.sub (tys' := [(tc, .int)]) [0] rfl
              have hDc := hD.sub (ws' := [(h0, .inr (6, [v0, v1, v2, v3, v4, .ref ph, .ref t0, v7])), (t0, .inl (tc, 7, .inl tf))]) [0, 1] (by decide) rfl
              have hFc := va_free (wc := [(h0, .inr (6, [v0, v1, v2, v3, v4, .ref ph, .ref t0, v7])), (t0, .inl (tc, 7, .inl tf))]) hD hS hA [0, 1] rfl
              refine va_calli (va_runV (As := [.int (-1000000001)]) (rest := []) ⟨hx, hb, hml, hown, hts⟩ (f_beyond l dC dI ad h0 v0 v1 v2 v3 v4 (.ref ph) t0 v7 tc tf s.heap.size ) (cwV 1 hts g_x_copy_f_beyond_63 rfl rfl rfl (by decide +kernel) ⟨(Nat.le_of_ble_eq_true rfl), (Nat.le_of_ble_eq_true rfl)⟩) ⟨preM_blind, va_recv hKc hPc (ci := 6) (q0 := 0) rfl rfl, fun U hU hW => ⟨rfl, preM_at hU hW hPc hKc hDc hev⟩⟩ rfl rfl hl.1 rfl (lv_room (Nat.le_of_ble_eq_true rfl)) dX8_copy_101 ⟨(Nat.le_of_ble_eq_true rfl), (Nat.le_of_ble_eq_true rfl)⟩) hS (fun q _ h => hFc q h) hFc (fun r_68 u t H1 locs ht hvm hw hB hz1 hk1 hS => ?_)
              obtain ⟨tg_69, hP1, hK1, hD1⟩ := hB
              rw [ht] at hP1
              have hK1 := va_K.moved hvm.symm hK1
              obtain ⟨hP, hD⟩ := va_join (wr := [(ph, .inl (pc, 4, .inr (.inr (.inr (.inr pf))))), (p0, .inr (0, [.int b0, .int z0, .ref n0])), (n0, .inl (nc0, 40, .inr (.inl g0))), (p1, .inr (0, [.int b1, .int z1, .ref n1])), (n1, .inl (nc1, 40, .inr (.inl g1))), (p2, .inr (0, [.int b2, .int z2, .ref n2])), (n2, .inl (nc2, 40, .inr (.inl g2))), (p3, .inr (0, [.int b3, .int z3, .ref n3])), (n3, .inl (nc3, 40, .inr (.inl g3)))]) (w1 := [(h0, .inr (6, [v0, v1, v2, v3, v4, .ref ph, .ref t0, v7])), (t0, .inl (tc, 7, .inl tg_69))]) hP hD [0, 1] [2, 3, 4, 5, 6, 7, 8, 9, 10] rfl rfl (by decide) (by decide) hk1 hFc hP1 hD1
              generalize H1 = H at hP hS ⊢
              have hP : va_P (dC, dI) vwCl [(ph, .inl (pc, 4, .inr (.inr (.inr (.inr pf))))), (p0, .inr (0, [.int b0, .int z0, .ref n0])), (n0, .inl (nc0, 40, .inr (.inl g0))), (p1, .inr (0, [.int b1, .int z1, .ref n1])), (n1, .inl (nc1, 40, .inr (.inl g1))), (p2, .inr (0, [.int b2, .int z2, .ref n2])), (n2, .inl (nc2, 40, .inr (.inl g2))), (p3, .inr (0, [.int b3, .int z3, .ref n3])), (n3, .inl (nc3, 40, .inr (.inl g3))), (h0, .inr (6, [v0, v1, v2, v3, v4, .ref ph, .ref t0, v7])), (t0, .inl (tc, 7, .inl tg_69))] H := hP
              have hD : va_D A [(ph, .inl (pc, 4, .inr (.inr (.inr (.inr pf))))), (p0, .inr (0, [.int b0, .int z0, .ref n0])), (n0, .inl (nc0, 40, .inr (.inl g0))), (p1, .inr (0, [.int b1, .int z1, .ref n1])), (n1, .inl (nc1, 40, .inr (.inl g1))), (p2, .inr (0, [.int b2, .int z2, .ref n2])), (n2, .inl (nc2, 40, .inr (.inl g2))), (p3, .inr (0, [.int b3, .int z3, .ref n3])), (n3, .inl (nc3, 40, .inr (.inl g3))), (h0, .inr (6, [v0, v1, v2, v3, v4, .ref ph, .ref t0, v7])), (t0, .inl (tc, 7, .inl tg_69))] := hD
              subst hw
              have hP9 := hP.sub (ws' := [(h0, .inr (6, [v0, v1, v2, v3, v4, .ref ph, .ref t0, v7])), (t0, .inl (tc, 7, .inl tg_69)), (ph, .inl (pc, 4, .inr (.inr (.inr (.inr pf))))), (p0, .inr (0, [.int b0, .int z0, .ref n0])), (n0, .inl (nc0, 40, .inr (.inl g0))), (p1, .inr (0, [.int b1, .int z1, .ref n1])), (n1, .inl (nc1, 40, .inr (.inl g1))), (p2, .inr (0, [.int b2, .int z2, .ref n2])), (n2, .inl (nc2, 40, .inr (.inl g2))), (p3, .inr (0, [.int b3, .int z3, .ref n3])), (n3, .inl (nc3, 40, .inr (.inl g3)))]) [9, 10, 0, 1, 2, 3, 4, 5, 6, 7, 8] rfl
              have hD9 := hD.sub (ws' := [(h0, .inr (6, [v0, v1, v2, v3, v4, .ref ph, .ref t0, v7])), (t0, .inl (tc, 7, .inl tg_69)), (ph, .inl (pc, 4, .inr (.inr (.inr (.inr pf))))), (p0, .inr (0, [.int b0, .int z0, .ref n0])), (n0, .inl (nc0, 40, .inr (.inl g0))), (p1, .inr (0, [.int b1, .int z1, .ref n1])), (n1, .inl (nc1, 40, .inr (.inl g1))), (p2, .inr (0, [.int b2, .int z2, .ref n2])), (n2, .inl (nc2, 40, .inr (.inl g2))), (p3, .inr (0, [.int b3, .int z3, .ref n3])), (n3, .inl (nc3, 40, .inr (.inl g3)))]) [9, 10, 0, 1, 2, 3, 4, 5, 6, 7, 8] (by decide) rfl
              have hK9 := hK.sub (tys' := [(tc, .int), (pc, .object "LampShapes$Paper"), (nc0, .long), (nc1, .long), (nc2, .long), (nc3, .long)]) [0, 1, 2, 3, 4, 5] rfl
              exact W.iret (v := ((-1000000001) : Int32)) hx hb hr (fun t ht hW => ⟨⟨((-1000000001) : Int32), (), rfl, trivial, tg_69, g0, g1, g2, g3, by rw [ht]; exact hP9, va_K.moved hW.alike hK9, hD9⟩, hS.F ht⟩) hS.2.2 dX8_copy_104
            · skip
              have tc_67 : ¬ r_66.toInt = 0 := fun h => c_67 ((fa_eq _ _).mpr h)
              refine lv_aload hx hb dX8_copy_86 (lv_at hl 0 rfl) ?_
              refine lv_iload hx hb dX8_copy_88 (lv_at hl 6 rfl) ?_
              refine lv_iload hx hb dX8_copy_90 (lv_at hl 7 rfl) ?_
              have hPc := hP.sub (ws' := [(p0, .inr (0, [.int b0, .int z0, .ref n0]))]) [3] rfl
              have hKc := hK.sub (tys' := []) [] rfl
              refine vp_callSi (W.runV (As := [.int j, .int n]) (rest := []) ⟨hx, hb, hml, hown, hts⟩ (p_hasPart l dC dI ad p0 j n (.int b0) z0 (.ref n0) hz0) (cwV 2 hts g_x_copy_p_hasPart_282 rfl rfl rfl (by decide +kernel) ⟨(Nat.le_of_ble_eq_true rfl), (Nat.le_of_ble_eq_true rfl)⟩) ⟨preS_blind, va_recv hKc hPc (ci := 0) (q0 := 0) rfl rfl, fun U hU hW => ⟨rfl, preS_at hU hW hPc hKc hev⟩⟩ rfl rfl hl.1 rfl (lv_room (Nat.le_of_ble_eq_true rfl)) dX8_copy_92 ⟨(Nat.le_of_ble_eq_true rfl), (Nat.le_of_ble_eq_true rfl)⟩) (fun r_70 hw => ?_)
              have hr_70 : (r_70.toInt = 1 ∧ 0 ≤ j.toInt ∧ 0 ≤ n.toInt ∧ j.toInt + n.toInt ≤ z0.toInt) ∨ (r_70.toInt = 0 ∧ ¬ (0 ≤ j.toInt ∧ 0 ≤ n.toInt ∧ j.toInt + n.toInt ≤ z0.toInt)) := hw
              refine lv_if_ne (tgt := 105) hx hb dX8_copy_95 (by decide) (fun c_71 => ?_) (fun c_71 => ?_)
              · skip
                have tc_71 : ¬ r_70.toInt = 0 := fun h => c_71 ((fa_eq _ _).mpr h)
                refine lv_aload hx hb dX8_copy_105 (lv_at hl 1 rfl) ?_
                refine va_getN (D := (dC, dI)) (ci := 0) (v := .ref n0) (C := RX2) (T := TX2) (N := 3) hx hb hts inX2 hown hK hP 3 rfl rfl 2 (by decide) (ev_nest hev 23 rfl) (fun _ h9 => h9) rfl dX8_copy_107 ?_
                refine lv_iload_n hx hb dX8_copy_110 rfl (lv_at hl 4 rfl) ?_
                refine lv_aload hx hb dX8_copy_111 (lv_at hl 0 rfl) ?_
                refine va_getN (D := (dC, dI)) (ci := 0) (v := .ref n0) (C := RX2) (T := TX2) (N := 3) hx hb hts inX2 hown hK hP 3 rfl rfl 2 (by decide) (ev_nest hev 23 rfl) (fun _ h9 => h9) rfl dX8_copy_113 ?_
                refine lv_iload hx hb dX8_copy_116 (lv_at hl 6 rfl) ?_
                refine lv_iload hx hb dX8_copy_118 (lv_at hl 7 rfl) ?_
                refine va_copyl (ty := .long) hx hb (by rw [hml]; exact hl.1.symm) hown (hts _ (List.mem_of_getElem? (i := 25) rfl)) (hts _ (List.mem_of_getElem? (i := 26) rfl)) (hts _ (List.mem_of_getElem? (i := 27) rfl)) (hts _ (List.mem_of_getElem? (i := 28) rfl)) hK hP hD hS 4 4 2 2 rfl rfl rfl rfl rfl (fun h => absurd ((fa_lt _ _).mp h) (by show ¬ i.toInt < 0; omega)) (fun h => absurd ((fa_lt _ _).mp h) (by show ¬ j.toInt < 0; omega)) (fun h => absurd ((fa_lt _ _).mp h) (by show ¬ n.toInt < 0; omega)) (by show i.toInt.toNat + n.toInt.toNat ≤ 40; omega) (by show j.toInt.toNat + n.toInt.toNat ≤ 40; omega) (fun _ _ => rfl) (Nat.le_of_ble_eq_true rfl) (Nat.le_of_ble_eq_true rfl) dX8_copy_120 (fun H locs hP hD hS => ?_)
                generalize va_cpy g0 g0 i.toNatClampNeg j.toNatClampNeg n.toNatClampNeg = f_72 at hP hD
                have hP : va_P (dC, dI) vwCl [(h0, .inr (6, [v0, v1, v2, v3, v4, .ref ph, .ref t0, v7])), (t0, .inl (tc, 7, .inl tf)), (ph, .inl (pc, 4, .inr (.inr (.inr (.inr pf))))), (p0, .inr (0, [.int b0, .int z0, .ref n0])), (n0, .inl (nc0, 40, .inr (.inl f_72))), (p1, .inr (0, [.int b1, .int z1, .ref n1])), (n1, .inl (nc1, 40, .inr (.inl g1))), (p2, .inr (0, [.int b2, .int z2, .ref n2])), (n2, .inl (nc2, 40, .inr (.inl g2))), (p3, .inr (0, [.int b3, .int z3, .ref n3])), (n3, .inl (nc3, 40, .inr (.inl g3)))] H := hP
                have hD : va_D A [(h0, .inr (6, [v0, v1, v2, v3, v4, .ref ph, .ref t0, v7])), (t0, .inl (tc, 7, .inl tf)), (ph, .inl (pc, 4, .inr (.inr (.inr (.inr pf))))), (p0, .inr (0, [.int b0, .int z0, .ref n0])), (n0, .inl (nc0, 40, .inr (.inl f_72))), (p1, .inr (0, [.int b1, .int z1, .ref n1])), (n1, .inl (nc1, 40, .inr (.inl g1))), (p2, .inr (0, [.int b2, .int z2, .ref n2])), (n2, .inl (nc2, 40, .inr (.inl g2))), (p3, .inr (0, [.int b3, .int z3, .ref n3])), (n3, .inl (nc3, 40, .inr (.inl g3)))] := hD
                refine lv_iload hx hb dX8_copy_123 (lv_at hl 7 rfl) ?_
                have hP9 := hP.sub (ws' := [(h0, .inr (6, [v0, v1, v2, v3, v4, .ref ph, .ref t0, v7])), (t0, .inl (tc, 7, .inl tf)), (ph, .inl (pc, 4, .inr (.inr (.inr (.inr pf))))), (p0, .inr (0, [.int b0, .int z0, .ref n0])), (n0, .inl (nc0, 40, .inr (.inl f_72))), (p1, .inr (0, [.int b1, .int z1, .ref n1])), (n1, .inl (nc1, 40, .inr (.inl g1))), (p2, .inr (0, [.int b2, .int z2, .ref n2])), (n2, .inl (nc2, 40, .inr (.inl g2))), (p3, .inr (0, [.int b3, .int z3, .ref n3])), (n3, .inl (nc3, 40, .inr (.inl g3)))]) [0, 1, 2, 3, 4, 5, 6, 7, 8, 9, 10] rfl
                have hD9 := hD.sub (ws' := [(h0, .inr (6, [v0, v1, v2, v3, v4, .ref ph, .ref t0, v7])), (t0, .inl (tc, 7, .inl tf)), (ph, .inl (pc, 4, .inr (.inr (.inr (.inr pf))))), (p0, .inr (0, [.int b0, .int z0, .ref n0])), (n0, .inl (nc0, 40, .inr (.inl f_72))), (p1, .inr (0, [.int b1, .int z1, .ref n1])), (n1, .inl (nc1, 40, .inr (.inl g1))), (p2, .inr (0, [.int b2, .int z2, .ref n2])), (n2, .inl (nc2, 40, .inr (.inl g2))), (p3, .inr (0, [.int b3, .int z3, .ref n3])), (n3, .inl (nc3, 40, .inr (.inl g3)))]) [0, 1, 2, 3, 4, 5, 6, 7, 8, 9, 10] (by decide) rfl
                have hK9 := hK.sub (tys' := [(tc, .int), (pc, .object "LampShapes$Paper"), (nc0, .long), (nc1, .long), (nc2, .long), (nc3, .long)]) [0, 1, 2, 3, 4, 5] rfl
                exact W.iret (v := n) hx hb hr (fun t ht hW => ⟨⟨n, (), rfl, trivial, tf, f_72, g1, g2, g3, by rw [ht]; exact hP9, va_K.moved hW.alike hK9, hD9⟩, hS.F ht⟩) hS.2.2 dX8_copy_125
              · skip
                have tc_71 : r_70.toInt = 0 := (fa_eq _ _).mp c_71
                refine lv_aload_n hx hb dX8_copy_98 rfl (lv_at hl 2 rfl) ?_
                refine lv_ldc hx hb hown (hts _ (List.mem_of_getElem? (i := 6) rfl)) dX8_copy_99 ?_
                have hPc := hP.sub (ws' := [(h0, .inr (6, [v0, v1, v2, v3, v4, .ref ph, .ref t0, v7])), (t0, .inl (tc, 7, .inl tf))]) [0, 1] rfl
                have hKc := hK.sub (tys' := [(tc, .int)]) [0] rfl
                have hDc := hD.sub (ws' := [(h0, .inr (6, [v0, v1, v2, v3, v4, .ref ph, .ref t0, v7])), (t0, .inl (tc, 7, .inl tf))]) [0, 1] (by decide) rfl
                have hFc := va_free (wc := [(h0, .inr (6, [v0, v1, v2, v3, v4, .ref ph, .ref t0, v7])), (t0, .inl (tc, 7, .inl tf))]) hD hS hA [0, 1] rfl
                refine va_calli (va_runV (As := [.int (-1000000001)]) (rest := []) ⟨hx, hb, hml, hown, hts⟩ (f_beyond l dC dI ad h0 v0 v1 v2 v3 v4 (.ref ph) t0 v7 tc tf s.heap.size ) (cwV 1 hts g_x_copy_f_beyond_63 rfl rfl rfl (by decide +kernel) ⟨(Nat.le_of_ble_eq_true rfl), (Nat.le_of_ble_eq_true rfl)⟩) ⟨preM_blind, va_recv hKc hPc (ci := 6) (q0 := 0) rfl rfl, fun U hU hW => ⟨rfl, preM_at hU hW hPc hKc hDc hev⟩⟩ rfl rfl hl.1 rfl (lv_room (Nat.le_of_ble_eq_true rfl)) dX8_copy_101 ⟨(Nat.le_of_ble_eq_true rfl), (Nat.le_of_ble_eq_true rfl)⟩) hS (fun q _ h => hFc q h) hFc (fun r_73 u t H1 locs ht hvm hw hB hz1 hk1 hS => ?_)
                obtain ⟨tg_74, hP1, hK1, hD1⟩ := hB
                rw [ht] at hP1
                have hK1 := va_K.moved hvm.symm hK1
                obtain ⟨hP, hD⟩ := va_join (wr := [(ph, .inl (pc, 4, .inr (.inr (.inr (.inr pf))))), (p0, .inr (0, [.int b0, .int z0, .ref n0])), (n0, .inl (nc0, 40, .inr (.inl g0))), (p1, .inr (0, [.int b1, .int z1, .ref n1])), (n1, .inl (nc1, 40, .inr (.inl g1))), (p2, .inr (0, [.int b2, .int z2, .ref n2])), (n2, .inl (nc2, 40, .inr (.inl g2))), (p3, .inr (0, [.int b3, .int z3, .ref n3])), (n3, .inl (nc3, 40, .inr (.inl g3)))]) (w1 := [(h0, .inr (6, [v0, v1, v2, v3, v4, .ref ph, .ref t0, v7])), (t0, .inl (tc, 7, .inl tg_74))]) hP hD [0, 1] [2, 3, 4, 5, 6, 7, 8, 9, 10] rfl rfl (by decide) (by decide) hk1 hFc hP1 hD1
                generalize H1 = H at hP hS ⊢
                have hP : va_P (dC, dI) vwCl [(ph, .inl (pc, 4, .inr (.inr (.inr (.inr pf))))), (p0, .inr (0, [.int b0, .int z0, .ref n0])), (n0, .inl (nc0, 40, .inr (.inl g0))), (p1, .inr (0, [.int b1, .int z1, .ref n1])), (n1, .inl (nc1, 40, .inr (.inl g1))), (p2, .inr (0, [.int b2, .int z2, .ref n2])), (n2, .inl (nc2, 40, .inr (.inl g2))), (p3, .inr (0, [.int b3, .int z3, .ref n3])), (n3, .inl (nc3, 40, .inr (.inl g3))), (h0, .inr (6, [v0, v1, v2, v3, v4, .ref ph, .ref t0, v7])), (t0, .inl (tc, 7, .inl tg_74))] H := hP
                have hD : va_D A [(ph, .inl (pc, 4, .inr (.inr (.inr (.inr pf))))), (p0, .inr (0, [.int b0, .int z0, .ref n0])), (n0, .inl (nc0, 40, .inr (.inl g0))), (p1, .inr (0, [.int b1, .int z1, .ref n1])), (n1, .inl (nc1, 40, .inr (.inl g1))), (p2, .inr (0, [.int b2, .int z2, .ref n2])), (n2, .inl (nc2, 40, .inr (.inl g2))), (p3, .inr (0, [.int b3, .int z3, .ref n3])), (n3, .inl (nc3, 40, .inr (.inl g3))), (h0, .inr (6, [v0, v1, v2, v3, v4, .ref ph, .ref t0, v7])), (t0, .inl (tc, 7, .inl tg_74))] := hD
                subst hw
                have hP9 := hP.sub (ws' := [(h0, .inr (6, [v0, v1, v2, v3, v4, .ref ph, .ref t0, v7])), (t0, .inl (tc, 7, .inl tg_74)), (ph, .inl (pc, 4, .inr (.inr (.inr (.inr pf))))), (p0, .inr (0, [.int b0, .int z0, .ref n0])), (n0, .inl (nc0, 40, .inr (.inl g0))), (p1, .inr (0, [.int b1, .int z1, .ref n1])), (n1, .inl (nc1, 40, .inr (.inl g1))), (p2, .inr (0, [.int b2, .int z2, .ref n2])), (n2, .inl (nc2, 40, .inr (.inl g2))), (p3, .inr (0, [.int b3, .int z3, .ref n3])), (n3, .inl (nc3, 40, .inr (.inl g3)))]) [9, 10, 0, 1, 2, 3, 4, 5, 6, 7, 8] rfl
                have hD9 := hD.sub (ws' := [(h0, .inr (6, [v0, v1, v2, v3, v4, .ref ph, .ref t0, v7])), (t0, .inl (tc, 7, .inl tg_74)), (ph, .inl (pc, 4, .inr (.inr (.inr (.inr pf))))), (p0, .inr (0, [.int b0, .int z0, .ref n0])), (n0, .inl (nc0, 40, .inr (.inl g0))), (p1, .inr (0, [.int b1, .int z1, .ref n1])), (n1, .inl (nc1, 40, .inr (.inl g1))), (p2, .inr (0, [.int b2, .int z2, .ref n2])), (n2, .inl (nc2, 40, .inr (.inl g2))), (p3, .inr (0, [.int b3, .int z3, .ref n3])), (n3, .inl (nc3, 40, .inr (.inl g3)))]) [9, 10, 0, 1, 2, 3, 4, 5, 6, 7, 8] (by decide) rfl
                have hK9 := hK.sub (tys' := [(tc, .int), (pc, .object "LampShapes$Paper"), (nc0, .long), (nc1, .long), (nc2, .long), (nc3, .long)]) [0, 1, 2, 3, 4, 5] rfl
                exact W.iret (v := ((-1000000001) : Int32)) hx hb hr (fun t ht hW => ⟨⟨((-1000000001) : Int32), (), rfl, trivial, tg_74, g0, g1, g2, g3, by rw [ht]; exact hP9, va_K.moved hW.alike hK9, hD9⟩, hS.F ht⟩) hS.2.2 dX8_copy_104
          · skip
            have tc_65 : ¬ b0.toInt = b0.toInt := fun h => c_65 ((fa_eq _ _).mpr h)
            refine lv_aload_n hx hb dX8_copy_68 rfl (lv_at hl 2 rfl) ?_
            refine lv_ldc hx hb hown (hts _ (List.mem_of_getElem? (i := 29) rfl)) dX8_copy_69 ?_
            have hPc := hP.sub (ws' := [(h0, .inr (6, [v0, v1, v2, v3, v4, .ref ph, .ref t0, v7])), (t0, .inl (tc, 7, .inl tf))]) [0, 1] rfl
            have hKc := hK.sub (tys' := [(tc, .int)]) [0] rfl
            have hDc := hD.sub (ws' := [(h0, .inr (6, [v0, v1, v2, v3, v4, .ref ph, .ref t0, v7])), (t0, .inl (tc, 7, .inl tf))]) [0, 1] (by decide) rfl
            have hFc := va_free (wc := [(h0, .inr (6, [v0, v1, v2, v3, v4, .ref ph, .ref t0, v7])), (t0, .inl (tc, 7, .inl tf))]) hD hS hA [0, 1] rfl
            refine va_calli (va_runV (As := [.int (-1000000003)]) (rest := []) ⟨hx, hb, hml, hown, hts⟩ (f_kind l dC dI ad h0 v0 v1 v2 v3 v4 (.ref ph) t0 v7 tc tf s.heap.size ) (cwV 1 hts g_x_copy_f_kind_63 rfl rfl rfl (by decide +kernel) ⟨(Nat.le_of_ble_eq_true rfl), (Nat.le_of_ble_eq_true rfl)⟩) ⟨preM_blind, va_recv hKc hPc (ci := 6) (q0 := 0) rfl rfl, fun U hU hW => ⟨rfl, preM_at hU hW hPc hKc hDc hev⟩⟩ rfl rfl hl.1 rfl (lv_room (Nat.le_of_ble_eq_true rfl)) dX8_copy_71 ⟨(Nat.le_of_ble_eq_true rfl), (Nat.le_of_ble_eq_true rfl)⟩) hS (fun q _ h => hFc q h) hFc (fun r_75 u t H1 locs ht hvm hw hB hz1 hk1 hS => ?_)
            obtain ⟨tg_76, hP1, hK1, hD1⟩ := hB
            rw [ht] at hP1
            have hK1 := va_K.moved hvm.symm hK1
            obtain ⟨hP, hD⟩ := va_join (wr := [(ph, .inl (pc, 4, .inr (.inr (.inr (.inr pf))))), (p0, .inr (0, [.int b0, .int z0, .ref n0])), (n0, .inl (nc0, 40, .inr (.inl g0))), (p1, .inr (0, [.int b1, .int z1, .ref n1])), (n1, .inl (nc1, 40, .inr (.inl g1))), (p2, .inr (0, [.int b2, .int z2, .ref n2])), (n2, .inl (nc2, 40, .inr (.inl g2))), (p3, .inr (0, [.int b3, .int z3, .ref n3])), (n3, .inl (nc3, 40, .inr (.inl g3)))]) (w1 := [(h0, .inr (6, [v0, v1, v2, v3, v4, .ref ph, .ref t0, v7])), (t0, .inl (tc, 7, .inl tg_76))]) hP hD [0, 1] [2, 3, 4, 5, 6, 7, 8, 9, 10] rfl rfl (by decide) (by decide) hk1 hFc hP1 hD1
            generalize H1 = H at hP hS ⊢
            have hP : va_P (dC, dI) vwCl [(ph, .inl (pc, 4, .inr (.inr (.inr (.inr pf))))), (p0, .inr (0, [.int b0, .int z0, .ref n0])), (n0, .inl (nc0, 40, .inr (.inl g0))), (p1, .inr (0, [.int b1, .int z1, .ref n1])), (n1, .inl (nc1, 40, .inr (.inl g1))), (p2, .inr (0, [.int b2, .int z2, .ref n2])), (n2, .inl (nc2, 40, .inr (.inl g2))), (p3, .inr (0, [.int b3, .int z3, .ref n3])), (n3, .inl (nc3, 40, .inr (.inl g3))), (h0, .inr (6, [v0, v1, v2, v3, v4, .ref ph, .ref t0, v7])), (t0, .inl (tc, 7, .inl tg_76))] H := hP
            have hD : va_D A [(ph, .inl (pc, 4, .inr (.inr (.inr (.inr pf))))), (p0, .inr (0, [.int b0, .int z0, .ref n0])), (n0, .inl (nc0, 40, .inr (.inl g0))), (p1, .inr (0, [.int b1, .int z1, .ref n1])), (n1, .inl (nc1, 40, .inr (.inl g1))), (p2, .inr (0, [.int b2, .int z2, .ref n2])), (n2, .inl (nc2, 40, .inr (.inl g2))), (p3, .inr (0, [.int b3, .int z3, .ref n3])), (n3, .inl (nc3, 40, .inr (.inl g3))), (h0, .inr (6, [v0, v1, v2, v3, v4, .ref ph, .ref t0, v7])), (t0, .inl (tc, 7, .inl tg_76))] := hD
            subst hw
            have hP9 := hP.sub (ws' := [(h0, .inr (6, [v0, v1, v2, v3, v4, .ref ph, .ref t0, v7])), (t0, .inl (tc, 7, .inl tg_76)), (ph, .inl (pc, 4, .inr (.inr (.inr (.inr pf))))), (p0, .inr (0, [.int b0, .int z0, .ref n0])), (n0, .inl (nc0, 40, .inr (.inl g0))), (p1, .inr (0, [.int b1, .int z1, .ref n1])), (n1, .inl (nc1, 40, .inr (.inl g1))), (p2, .inr (0, [.int b2, .int z2, .ref n2])), (n2, .inl (nc2, 40, .inr (.inl g2))), (p3, .inr (0, [.int b3, .int z3, .ref n3])), (n3, .inl (nc3, 40, .inr (.inl g3)))]) [9, 10, 0, 1, 2, 3, 4, 5, 6, 7, 8] rfl
            have hD9 := hD.sub (ws' := [(h0, .inr (6, [v0, v1, v2, v3, v4, .ref ph, .ref t0, v7])), (t0, .inl (tc, 7, .inl tg_76)), (ph, .inl (pc, 4, .inr (.inr (.inr (.inr pf))))), (p0, .inr (0, [.int b0, .int z0, .ref n0])), (n0, .inl (nc0, 40, .inr (.inl g0))), (p1, .inr (0, [.int b1, .int z1, .ref n1])), (n1, .inl (nc1, 40, .inr (.inl g1))), (p2, .inr (0, [.int b2, .int z2, .ref n2])), (n2, .inl (nc2, 40, .inr (.inl g2))), (p3, .inr (0, [.int b3, .int z3, .ref n3])), (n3, .inl (nc3, 40, .inr (.inl g3)))]) [9, 10, 0, 1, 2, 3, 4, 5, 6, 7, 8] (by decide) rfl
            have hK9 := hK.sub (tys' := [(tc, .int), (pc, .object "LampShapes$Paper"), (nc0, .long), (nc1, .long), (nc2, .long), (nc3, .long)]) [0, 1, 2, 3, 4, 5] rfl
            exact W.iret (v := ((-1000000003) : Int32)) hx hb hr (fun t ht hW => ⟨⟨((-1000000003) : Int32), (), rfl, trivial, tg_76, g0, g1, g2, g3, by rw [ht]; exact hP9, va_K.moved hW.alike hK9, hD9⟩, hS.F ht⟩) hS.2.2 dX8_copy_74
        · skip
          have tc_64 : ¬ r_63.toInt = 0 := fun h => c_64 ((fa_eq _ _).mpr h)
          refine lv_aload_n hx hb dX8_copy_47 rfl (lv_at hl 2 rfl) ?_
          refine lv_ldcw hx hb hown (hts _ (List.mem_of_getElem? (i := 19) rfl)) dX8_copy_48 ?_
          have hPc := hP.sub (ws' := [(h0, .inr (6, [v0, v1, v2, v3, v4, .ref ph, .ref t0, v7])), (t0, .inl (tc, 7, .inl tf))]) [0, 1] rfl
          have hKc := hK.sub (tys' := [(tc, .int)]) [0] rfl
          have hDc := hD.sub (ws' := [(h0, .inr (6, [v0, v1, v2, v3, v4, .ref ph, .ref t0, v7])), (t0, .inl (tc, 7, .inl tf))]) [0, 1] (by decide) rfl
          have hFc := va_free (wc := [(h0, .inr (6, [v0, v1, v2, v3, v4, .ref ph, .ref t0, v7])), (t0, .inl (tc, 7, .inl tf))]) hD hS hA [0, 1] rfl
          refine va_calli (va_runV (As := [.int (-1000000006)]) (rest := []) ⟨hx, hb, hml, hown, hts⟩ (f_missing l dC dI ad h0 v0 v1 v2 v3 v4 (.ref ph) t0 v7 tc tf s.heap.size ) (cwV 1 hts g_x_copy_f_missing_63 rfl rfl rfl (by decide +kernel) ⟨(Nat.le_of_ble_eq_true rfl), (Nat.le_of_ble_eq_true rfl)⟩) ⟨preM_blind, va_recv hKc hPc (ci := 6) (q0 := 0) rfl rfl, fun U hU hW => ⟨rfl, preM_at hU hW hPc hKc hDc hev⟩⟩ rfl rfl hl.1 rfl (lv_room (Nat.le_of_ble_eq_true rfl)) dX8_copy_51 ⟨(Nat.le_of_ble_eq_true rfl), (Nat.le_of_ble_eq_true rfl)⟩) hS (fun q _ h => hFc q h) hFc (fun r_77 u t H1 locs ht hvm hw hB hz1 hk1 hS => ?_)
          obtain ⟨tg_78, hP1, hK1, hD1⟩ := hB
          rw [ht] at hP1
          have hK1 := va_K.moved hvm.symm hK1
          obtain ⟨hP, hD⟩ := va_join (wr := [(ph, .inl (pc, 4, .inr (.inr (.inr (.inr pf))))), (p0, .inr (0, [.int b0, .int z0, .ref n0])), (n0, .inl (nc0, 40, .inr (.inl g0))), (p1, .inr (0, [.int b1, .int z1, .ref n1])), (n1, .inl (nc1, 40, .inr (.inl g1))), (p2, .inr (0, [.int b2, .int z2, .ref n2])), (n2, .inl (nc2, 40, .inr (.inl g2))), (p3, .inr (0, [.int b3, .int z3, .ref n3])), (n3, .inl (nc3, 40, .inr (.inl g3)))]) (w1 := [(h0, .inr (6, [v0, v1, v2, v3, v4, .ref ph, .ref t0, v7])), (t0, .inl (tc, 7, .inl tg_78))]) hP hD [0, 1] [2, 3, 4, 5, 6, 7, 8, 9, 10] rfl rfl (by decide) (by decide) hk1 hFc hP1 hD1
          generalize H1 = H at hP hS ⊢
          have hP : va_P (dC, dI) vwCl [(ph, .inl (pc, 4, .inr (.inr (.inr (.inr pf))))), (p0, .inr (0, [.int b0, .int z0, .ref n0])), (n0, .inl (nc0, 40, .inr (.inl g0))), (p1, .inr (0, [.int b1, .int z1, .ref n1])), (n1, .inl (nc1, 40, .inr (.inl g1))), (p2, .inr (0, [.int b2, .int z2, .ref n2])), (n2, .inl (nc2, 40, .inr (.inl g2))), (p3, .inr (0, [.int b3, .int z3, .ref n3])), (n3, .inl (nc3, 40, .inr (.inl g3))), (h0, .inr (6, [v0, v1, v2, v3, v4, .ref ph, .ref t0, v7])), (t0, .inl (tc, 7, .inl tg_78))] H := hP
          have hD : va_D A [(ph, .inl (pc, 4, .inr (.inr (.inr (.inr pf))))), (p0, .inr (0, [.int b0, .int z0, .ref n0])), (n0, .inl (nc0, 40, .inr (.inl g0))), (p1, .inr (0, [.int b1, .int z1, .ref n1])), (n1, .inl (nc1, 40, .inr (.inl g1))), (p2, .inr (0, [.int b2, .int z2, .ref n2])), (n2, .inl (nc2, 40, .inr (.inl g2))), (p3, .inr (0, [.int b3, .int z3, .ref n3])), (n3, .inl (nc3, 40, .inr (.inl g3))), (h0, .inr (6, [v0, v1, v2, v3, v4, .ref ph, .ref t0, v7])), (t0, .inl (tc, 7, .inl tg_78))] := hD
          subst hw
          have hP9 := hP.sub (ws' := [(h0, .inr (6, [v0, v1, v2, v3, v4, .ref ph, .ref t0, v7])), (t0, .inl (tc, 7, .inl tg_78)), (ph, .inl (pc, 4, .inr (.inr (.inr (.inr pf))))), (p0, .inr (0, [.int b0, .int z0, .ref n0])), (n0, .inl (nc0, 40, .inr (.inl g0))), (p1, .inr (0, [.int b1, .int z1, .ref n1])), (n1, .inl (nc1, 40, .inr (.inl g1))), (p2, .inr (0, [.int b2, .int z2, .ref n2])), (n2, .inl (nc2, 40, .inr (.inl g2))), (p3, .inr (0, [.int b3, .int z3, .ref n3])), (n3, .inl (nc3, 40, .inr (.inl g3)))]) [9, 10, 0, 1, 2, 3, 4, 5, 6, 7, 8] rfl
          have hD9 := hD.sub (ws' := [(h0, .inr (6, [v0, v1, v2, v3, v4, .ref ph, .ref t0, v7])), (t0, .inl (tc, 7, .inl tg_78)), (ph, .inl (pc, 4, .inr (.inr (.inr (.inr pf))))), (p0, .inr (0, [.int b0, .int z0, .ref n0])), (n0, .inl (nc0, 40, .inr (.inl g0))), (p1, .inr (0, [.int b1, .int z1, .ref n1])), (n1, .inl (nc1, 40, .inr (.inl g1))), (p2, .inr (0, [.int b2, .int z2, .ref n2])), (n2, .inl (nc2, 40, .inr (.inl g2))), (p3, .inr (0, [.int b3, .int z3, .ref n3])), (n3, .inl (nc3, 40, .inr (.inl g3)))]) [9, 10, 0, 1, 2, 3, 4, 5, 6, 7, 8] (by decide) rfl
          have hK9 := hK.sub (tys' := [(tc, .int), (pc, .object "LampShapes$Paper"), (nc0, .long), (nc1, .long), (nc2, .long), (nc3, .long)]) [0, 1, 2, 3, 4, 5] rfl
          exact W.iret (v := ((-1000000006) : Int32)) hx hb hr (fun t ht hW => ⟨⟨((-1000000006) : Int32), (), rfl, trivial, tg_78, g0, g1, g2, g3, by rw [ht]; exact hP9, va_K.moved hW.alike hK9, hD9⟩, hS.F ht⟩) hS.2.2 dX8_copy_54
    · skip
      refine Met.ofW (cc := cX8_copy) (maxL := 8) (ret := (some .int)) (by decide) rfl ?_
      intro p e s m args below meth c s₁ B hml hv
      obtain ⟨rfl, hsz, hP, hK, hD0, hev⟩ := hv
      have hx := B.exec
      have hb := B.bytes
      have hr := B.returns
      have hts := atoms_spec (ws := w_x_copy) B.pre
      have hown : s.vm.findClass RX8 = some m.cls := findClass_of_methodNamed B.named
      have hlocks := B.notSynchronized
      have inX8 : ∀ w ∈ wsX80, w ∈ w_x_copy := fun w h => List.mem_cons_of_mem _ (List.mem_append_left _ (List.mem_append_right _ h))
      have inX2 : ∀ w ∈ wsX20, w ∈ w_x_copy := fun w h => List.mem_cons_of_mem _ (List.mem_append_right _ h)
      subst hsz
      have hD := hD0.self (sz := s.heap.size)
      generalize hAe : va_A [(h0, .inr (6, [v0, v1, v2, v3, v4, .ref ph, .ref t0, v7])), (t0, .inl (tc, 7, .inl tf)), (ph, .inl (pc, 4, .inr (.inr (.inr (.inr pf))))), (p0, .inr (0, [.int b0, .int z0, .ref n0])), (n0, .inl (nc0, 40, .inr (.inl g0))), (p1, .inr (0, [.int b1, .int z1, .ref n1])), (n1, .inl (nc1, 40, .inr (.inl g1))), (p2, .inr (0, [.int b2, .int z2, .ref n2])), (n2, .inl (nc2, 40, .inr (.inl g2))), (p3, .inr (0, [.int b3, .int z3, .ref n3])), (n3, .inl (nc3, 40, .inr (.inl g3)))] s.heap.size = A at hD ⊢
      have hA : ∀ q : Nat, s.heap.size ≤ q → A q := fun q h => by rw [← hAe]; exact Or.inr h
      have hS : va_S A s.heap s.heap [] := va_S.rf
      have hP : va_P (dC, dI) vwCl [(h0, .inr (6, [v0, v1, v2, v3, v4, .ref ph, .ref t0, v7])), (t0, .inl (tc, 7, .inl tf)), (ph, .inl (pc, 4, .inr (.inr (.inr (.inr pf))))), (p0, .inr (0, [.int b0, .int z0, .ref n0])), (n0, .inl (nc0, 40, .inr (.inl g0))), (p1, .inr (0, [.int b1, .int z1, .ref n1])), (n1, .inl (nc1, 40, .inr (.inl g1))), (p2, .inr (0, [.int b2, .int z2, .ref n2])), (n2, .inl (nc2, 40, .inr (.inl g2))), (p3, .inr (0, [.int b3, .int z3, .ref n3])), (n3, .inl (nc3, 40, .inr (.inl g3)))] s.heap := hP
      have hl := lv_entry ([.ref h0, .int 0, .int i, .int 1, .int j, .int n]) (n := 8) (Nat.le_of_ble_eq_true rfl)
      rw [lg_entry_eq]
      generalize (lg_sl ([.ref h0, .int 0, .int i, .int 1, .int j, .int n]) ++ List.replicate (8 - (lg_sl ([.ref h0, .int 0, .int i, .int 1, .int j, .int n])).length) Slot.unset).toArray = ls at hl ⊢
      have hl : lv_has ls 8 [(0, .ref h0), (1, .int 0), (2, .int i), (3, .int 1), (4, .int j), (5, .int n)] := hl
      refine lv_aload_n hx hb dX8_copy_0 rfl (lv_at hl 0 rfl) ?_
      refine lv_iload_n hx hb dX8_copy_1 rfl (lv_at hl 1 rfl) ?_
      have hPc := hP.sub (ws' := [(h0, .inr (6, [v0, v1, v2, v3, v4, .ref ph, .ref t0, v7])), (ph, .inl (pc, 4, .inr (.inr (.inr (.inr pf)))))]) [0, 2] rfl
      have hKc := hK.sub (tys' := [(pc, .object "LampShapes$Paper")]) [1] rfl
      refine va_csq (W.runV (As := [.int 0]) (rest := []) ⟨hx, hb, hml, hown, hts⟩ (c_paperAt_0 l dC dI ad h0 v0 v1 v2 v3 v4 ph (.ref t0) v7 pc pf p0 hp0) (cwV 1 hts g_x_copy_c_paperAt_0_256 rfl rfl rfl (by decide +kernel) ⟨(Nat.le_of_ble_eq_true rfl), (Nat.le_of_ble_eq_true rfl)⟩) ⟨preS_blind, va_recv hKc hPc (ci := 6) (q0 := 0) rfl rfl, fun U hU hW => ⟨rfl, preS_at hU hW hPc hKc hev⟩⟩ rfl rfl hl.1 rfl (lv_room (Nat.le_of_ble_eq_true rfl)) dX8_copy_2 ⟨(Nat.le_of_ble_eq_true rfl), (Nat.le_of_ble_eq_true rfl)⟩) (fun r_79 hw => ?_)
      subst hw
      refine pp_tv (y := .ref p0) rfl ?_
      refine lv_astore (lv' := [(6, .ref p0), (0, .ref h0), (1, .int 0), (2, .int i), (3, .int 1), (4, .int j), (5, .int n)]) hx hb dX8_copy_5 hl (by decide) rfl (fun ls hl => ?_)
      refine lv_aload_n hx hb dX8_copy_7 rfl (lv_at hl 1 rfl) ?_
      refine lv_iload_n hx hb dX8_copy_8 rfl (lv_at hl 4 rfl) ?_
      have hPc := hP.sub (ws' := [(h0, .inr (6, [v0, v1, v2, v3, v4, .ref ph, .ref t0, v7])), (ph, .inl (pc, 4, .inr (.inr (.inr (.inr pf)))))]) [0, 2] rfl
      have hKc := hK.sub (tys' := [(pc, .object "LampShapes$Paper")]) [1] rfl
      refine va_csq (W.runV (As := [.int 1]) (rest := []) ⟨hx, hb, hml, hown, hts⟩ (c_paperAt_1 l dC dI ad h0 v0 v1 v2 v3 v4 ph (.ref t0) v7 pc pf p1 hp1) (cwV 1 hts g_x_copy_c_paperAt_1_256 rfl rfl rfl (by decide +kernel) ⟨(Nat.le_of_ble_eq_true rfl), (Nat.le_of_ble_eq_true rfl)⟩) ⟨preS_blind, va_recv hKc hPc (ci := 6) (q0 := 0) rfl rfl, fun U hU hW => ⟨rfl, preS_at hU hW hPc hKc hev⟩⟩ rfl rfl hl.1 rfl (lv_room (Nat.le_of_ble_eq_true rfl)) dX8_copy_9 ⟨(Nat.le_of_ble_eq_true rfl), (Nat.le_of_ble_eq_true rfl)⟩) (fun r_80 hw => ?_)
      subst hw
      refine pp_tv (y := .ref p1) rfl ?_
      refine lv_astore (lv' := [(7, .ref p1), (6, .ref p0), (0, .ref h0), (1, .int 0), (2, .int i), (3, .int 1), (4, .int j), (5, .int n)]) hx hb dX8_copy_12 hl (by decide) rfl (fun ls hl => ?_)
      refine lv_aload hx hb dX8_copy_14 (lv_at hl 1 rfl) ?_
      refine lv_ifnull hx hb dX8_copy_16 ?_
      refine lv_aload hx hb dX8_copy_19 (lv_at hl 0 rfl) ?_
      refine lv_ifnonnull (tgt := 31) hx hb dX8_copy_21 (by decide) ?_
      refine lv_aload hx hb dX8_copy_31 (lv_at hl 1 rfl) ?_
      have hPc := hP.sub (ws' := [(p0, .inr (0, [.int b0, .int z0, .ref n0]))]) [3] rfl
      have hKc := hK.sub (tys' := []) [] rfl
      refine vp_callSi (W.runV (As := []) (rest := []) ⟨hx, hb, hml, hown, hts⟩ (p_isMissing l dC dI ad p0 b0 (.int z0) (.ref n0) ) (cwV 0 hts g_x_copy_p_isMissing_268 rfl rfl rfl (by decide +kernel) ⟨(Nat.le_of_ble_eq_true rfl), (Nat.le_of_ble_eq_true rfl)⟩) ⟨preS_blind, va_recv hKc hPc (ci := 0) (q0 := 0) rfl rfl, fun U hU hW => ⟨rfl, preS_at hU hW hPc hKc hev⟩⟩ rfl rfl hl.1 rfl (lv_room (Nat.le_of_ble_eq_true rfl)) dX8_copy_33 ⟨(Nat.le_of_ble_eq_true rfl), (Nat.le_of_ble_eq_true rfl)⟩) (fun r_81 hw => ?_)
      have hr_81 : (r_81.toInt = 1 ∧ b0.toInt = 0) ∨ (r_81.toInt = 0 ∧ ¬ b0.toInt = 0) := hw
      refine lv_if_ne (tgt := 47) hx hb dX8_copy_36 (by decide) (fun c_82 => ?_) (fun c_82 => ?_)
      · skip
        have tc_82 : ¬ r_81.toInt = 0 := fun h => c_82 ((fa_eq _ _).mpr h)
        refine lv_aload_n hx hb dX8_copy_47 rfl (lv_at hl 2 rfl) ?_
        refine lv_ldcw hx hb hown (hts _ (List.mem_of_getElem? (i := 19) rfl)) dX8_copy_48 ?_
        have hPc := hP.sub (ws' := [(h0, .inr (6, [v0, v1, v2, v3, v4, .ref ph, .ref t0, v7])), (t0, .inl (tc, 7, .inl tf))]) [0, 1] rfl
        have hKc := hK.sub (tys' := [(tc, .int)]) [0] rfl
        have hDc := hD.sub (ws' := [(h0, .inr (6, [v0, v1, v2, v3, v4, .ref ph, .ref t0, v7])), (t0, .inl (tc, 7, .inl tf))]) [0, 1] (by decide) rfl
        have hFc := va_free (wc := [(h0, .inr (6, [v0, v1, v2, v3, v4, .ref ph, .ref t0, v7])), (t0, .inl (tc, 7, .inl tf))]) hD hS hA [0, 1] rfl
        refine va_calli (va_runV (As := [.int (-1000000006)]) (rest := []) ⟨hx, hb, hml, hown, hts⟩ (f_missing l dC dI ad h0 v0 v1 v2 v3 v4 (.ref ph) t0 v7 tc tf s.heap.size ) (cwV 1 hts g_x_copy_f_missing_63 rfl rfl rfl (by decide +kernel) ⟨(Nat.le_of_ble_eq_true rfl), (Nat.le_of_ble_eq_true rfl)⟩) ⟨preM_blind, va_recv hKc hPc (ci := 6) (q0 := 0) rfl rfl, fun U hU hW => ⟨rfl, preM_at hU hW hPc hKc hDc hev⟩⟩ rfl rfl hl.1 rfl (lv_room (Nat.le_of_ble_eq_true rfl)) dX8_copy_51 ⟨(Nat.le_of_ble_eq_true rfl), (Nat.le_of_ble_eq_true rfl)⟩) hS (fun q _ h => hFc q h) hFc (fun r_83 u t H1 locs ht hvm hw hB hz1 hk1 hS => ?_)
        obtain ⟨tg_84, hP1, hK1, hD1⟩ := hB
        rw [ht] at hP1
        have hK1 := va_K.moved hvm.symm hK1
        obtain ⟨hP, hD⟩ := va_join (wr := [(ph, .inl (pc, 4, .inr (.inr (.inr (.inr pf))))), (p0, .inr (0, [.int b0, .int z0, .ref n0])), (n0, .inl (nc0, 40, .inr (.inl g0))), (p1, .inr (0, [.int b1, .int z1, .ref n1])), (n1, .inl (nc1, 40, .inr (.inl g1))), (p2, .inr (0, [.int b2, .int z2, .ref n2])), (n2, .inl (nc2, 40, .inr (.inl g2))), (p3, .inr (0, [.int b3, .int z3, .ref n3])), (n3, .inl (nc3, 40, .inr (.inl g3)))]) (w1 := [(h0, .inr (6, [v0, v1, v2, v3, v4, .ref ph, .ref t0, v7])), (t0, .inl (tc, 7, .inl tg_84))]) hP hD [0, 1] [2, 3, 4, 5, 6, 7, 8, 9, 10] rfl rfl (by decide) (by decide) hk1 hFc hP1 hD1
        generalize H1 = H at hP hS ⊢
        have hP : va_P (dC, dI) vwCl [(ph, .inl (pc, 4, .inr (.inr (.inr (.inr pf))))), (p0, .inr (0, [.int b0, .int z0, .ref n0])), (n0, .inl (nc0, 40, .inr (.inl g0))), (p1, .inr (0, [.int b1, .int z1, .ref n1])), (n1, .inl (nc1, 40, .inr (.inl g1))), (p2, .inr (0, [.int b2, .int z2, .ref n2])), (n2, .inl (nc2, 40, .inr (.inl g2))), (p3, .inr (0, [.int b3, .int z3, .ref n3])), (n3, .inl (nc3, 40, .inr (.inl g3))), (h0, .inr (6, [v0, v1, v2, v3, v4, .ref ph, .ref t0, v7])), (t0, .inl (tc, 7, .inl tg_84))] H := hP
        have hD : va_D A [(ph, .inl (pc, 4, .inr (.inr (.inr (.inr pf))))), (p0, .inr (0, [.int b0, .int z0, .ref n0])), (n0, .inl (nc0, 40, .inr (.inl g0))), (p1, .inr (0, [.int b1, .int z1, .ref n1])), (n1, .inl (nc1, 40, .inr (.inl g1))), (p2, .inr (0, [.int b2, .int z2, .ref n2])), (n2, .inl (nc2, 40, .inr (.inl g2))), (p3, .inr (0, [.int b3, .int z3, .ref n3])), (n3, .inl (nc3, 40, .inr (.inl g3))), (h0, .inr (6, [v0, v1, v2, v3, v4, .ref ph, .ref t0, v7])), (t0, .inl (tc, 7, .inl tg_84))] := hD
        subst hw
        have hP9 := hP.sub (ws' := [(h0, .inr (6, [v0, v1, v2, v3, v4, .ref ph, .ref t0, v7])), (t0, .inl (tc, 7, .inl tg_84)), (ph, .inl (pc, 4, .inr (.inr (.inr (.inr pf))))), (p0, .inr (0, [.int b0, .int z0, .ref n0])), (n0, .inl (nc0, 40, .inr (.inl g0))), (p1, .inr (0, [.int b1, .int z1, .ref n1])), (n1, .inl (nc1, 40, .inr (.inl g1))), (p2, .inr (0, [.int b2, .int z2, .ref n2])), (n2, .inl (nc2, 40, .inr (.inl g2))), (p3, .inr (0, [.int b3, .int z3, .ref n3])), (n3, .inl (nc3, 40, .inr (.inl g3)))]) [9, 10, 0, 1, 2, 3, 4, 5, 6, 7, 8] rfl
        have hD9 := hD.sub (ws' := [(h0, .inr (6, [v0, v1, v2, v3, v4, .ref ph, .ref t0, v7])), (t0, .inl (tc, 7, .inl tg_84)), (ph, .inl (pc, 4, .inr (.inr (.inr (.inr pf))))), (p0, .inr (0, [.int b0, .int z0, .ref n0])), (n0, .inl (nc0, 40, .inr (.inl g0))), (p1, .inr (0, [.int b1, .int z1, .ref n1])), (n1, .inl (nc1, 40, .inr (.inl g1))), (p2, .inr (0, [.int b2, .int z2, .ref n2])), (n2, .inl (nc2, 40, .inr (.inl g2))), (p3, .inr (0, [.int b3, .int z3, .ref n3])), (n3, .inl (nc3, 40, .inr (.inl g3)))]) [9, 10, 0, 1, 2, 3, 4, 5, 6, 7, 8] (by decide) rfl
        have hK9 := hK.sub (tys' := [(tc, .int), (pc, .object "LampShapes$Paper"), (nc0, .long), (nc1, .long), (nc2, .long), (nc3, .long)]) [0, 1, 2, 3, 4, 5] rfl
        exact W.iret (v := ((-1000000006) : Int32)) hx hb hr (fun t ht hW => ⟨⟨((-1000000006) : Int32), (), rfl, trivial, tg_84, g0, g1, g2, g3, by rw [ht]; exact hP9, va_K.moved hW.alike hK9, hD9⟩, hS.F ht⟩) hS.2.2 dX8_copy_54
      · skip
        have tc_82 : r_81.toInt = 0 := (fa_eq _ _).mp c_82
        refine lv_aload hx hb dX8_copy_39 (lv_at hl 0 rfl) ?_
        have hPc := hP.sub (ws' := [(p1, .inr (0, [.int b1, .int z1, .ref n1]))]) [5] rfl
        have hKc := hK.sub (tys' := []) [] rfl
        refine vp_callSi (W.runV (As := []) (rest := []) ⟨hx, hb, hml, hown, hts⟩ (p_isMissing l dC dI ad p1 b1 (.int z1) (.ref n1) ) (cwV 0 hts g_x_copy_p_isMissing_268 rfl rfl rfl (by decide +kernel) ⟨(Nat.le_of_ble_eq_true rfl), (Nat.le_of_ble_eq_true rfl)⟩) ⟨preS_blind, va_recv hKc hPc (ci := 0) (q0 := 0) rfl rfl, fun U hU hW => ⟨rfl, preS_at hU hW hPc hKc hev⟩⟩ rfl rfl hl.1 rfl (lv_room (Nat.le_of_ble_eq_true rfl)) dX8_copy_41 ⟨(Nat.le_of_ble_eq_true rfl), (Nat.le_of_ble_eq_true rfl)⟩) (fun r_85 hw => ?_)
        have hr_85 : (r_85.toInt = 1 ∧ b1.toInt = 0) ∨ (r_85.toInt = 0 ∧ ¬ b1.toInt = 0) := hw
        refine lv_if_eq (tgt := 55) hx hb dX8_copy_44 (by decide) (fun c_86 => ?_) (fun c_86 => ?_)
        · skip
          have tc_86 : r_85.toInt = 0 := (fa_eq _ _).mp c_86
          refine lv_aload hx hb dX8_copy_55 (lv_at hl 1 rfl) ?_
          refine va_getN (D := (dC, dI)) (ci := 0) (v := .int b0) (C := RX2) (T := TX2) (N := 3) hx hb hts inX2 hown hK hP 3 rfl rfl 0 (by decide) (ev_nest hev 21 rfl) (fun _ h9 => h9) rfl dX8_copy_57 ?_
          refine lv_aload hx hb dX8_copy_60 (lv_at hl 0 rfl) ?_
          refine va_getN (D := (dC, dI)) (ci := 0) (v := .int b1) (C := RX2) (T := TX2) (N := 3) hx hb hts inX2 hown hK hP 5 rfl rfl 0 (by decide) (ev_nest hev 21 rfl) (fun _ h9 => h9) rfl dX8_copy_62 ?_
          have rc_87_x := pp_rng b0
          have rc_87_y := pp_rng b1
          refine lv_icmp_eq (tgt := 75) hx hb dX8_copy_65 (by decide) (fun c_87 => ?_) (fun c_87 => ?_)
          · skip
            have tc_87 : b0.toInt = b1.toInt := (fa_eq _ _).mp c_87
            refine lv_aload hx hb dX8_copy_75 (lv_at hl 1 rfl) ?_
            refine lv_iload_n hx hb dX8_copy_77 rfl (lv_at hl 4 rfl) ?_
            refine lv_iload hx hb dX8_copy_78 (lv_at hl 7 rfl) ?_
            have hPc := hP.sub (ws' := [(p0, .inr (0, [.int b0, .int z0, .ref n0]))]) [3] rfl
            have hKc := hK.sub (tys' := []) [] rfl
            refine vp_callSi (W.runV (As := [.int i, .int n]) (rest := []) ⟨hx, hb, hml, hown, hts⟩ (p_hasPart l dC dI ad p0 i n (.int b0) z0 (.ref n0) hz0) (cwV 2 hts g_x_copy_p_hasPart_282 rfl rfl rfl (by decide +kernel) ⟨(Nat.le_of_ble_eq_true rfl), (Nat.le_of_ble_eq_true rfl)⟩) ⟨preS_blind, va_recv hKc hPc (ci := 0) (q0 := 0) rfl rfl, fun U hU hW => ⟨rfl, preS_at hU hW hPc hKc hev⟩⟩ rfl rfl hl.1 rfl (lv_room (Nat.le_of_ble_eq_true rfl)) dX8_copy_80 ⟨(Nat.le_of_ble_eq_true rfl), (Nat.le_of_ble_eq_true rfl)⟩) (fun r_88 hw => ?_)
            have hr_88 : (r_88.toInt = 1 ∧ 0 ≤ i.toInt ∧ 0 ≤ n.toInt ∧ i.toInt + n.toInt ≤ z0.toInt) ∨ (r_88.toInt = 0 ∧ ¬ (0 ≤ i.toInt ∧ 0 ≤ n.toInt ∧ i.toInt + n.toInt ≤ z0.toInt)) := hw
            refine lv_if_eq (tgt := 98) hx hb dX8_copy_83 (by decide) (fun c_89 => ?_) (fun c_89 => ?_)
            · skip
              have tc_89 : r_88.toInt = 0 := (fa_eq _ _).mp c_89
              refine lv_aload_n hx hb dX8_copy_98 rfl (lv_at hl 2 rfl) ?_
              refine lv_ldc hx hb hown (hts _ (List.mem_of_getElem? (i := 6) rfl)) dX8_copy_99 ?_
              have hPc := hP.sub (ws' := [(h0, .inr (6, [v0, v1, v2, v3, v4, .ref ph, .ref t0, v7])), (t0, .inl (tc, 7, .inl tf))]) [0, 1] rfl
              have hKc := hK.sub (tys' := [(tc, .int)]) [0] rfl
              have hDc := hD.sub (ws' := [(h0, .inr (6, [v0, v1, v2, v3, v4, .ref ph, .ref t0, v7])), (t0, .inl (tc, 7, .inl tf))]) [0, 1] (by decide) rfl
              have hFc := va_free (wc := [(h0, .inr (6, [v0, v1, v2, v3, v4, .ref ph, .ref t0, v7])), (t0, .inl (tc, 7, .inl tf))]) hD hS hA [0, 1] rfl
              refine va_calli (va_runV (As := [.int (-1000000001)]) (rest := []) ⟨hx, hb, hml, hown, hts⟩ (f_beyond l dC dI ad h0 v0 v1 v2 v3 v4 (.ref ph) t0 v7 tc tf s.heap.size ) (cwV 1 hts g_x_copy_f_beyond_63 rfl rfl rfl (by decide +kernel) ⟨(Nat.le_of_ble_eq_true rfl), (Nat.le_of_ble_eq_true rfl)⟩) ⟨preM_blind, va_recv hKc hPc (ci := 6) (q0 := 0) rfl rfl, fun U hU hW => ⟨rfl, preM_at hU hW hPc hKc hDc hev⟩⟩ rfl rfl hl.1 rfl (lv_room (Nat.le_of_ble_eq_true rfl)) dX8_copy_101 ⟨(Nat.le_of_ble_eq_true rfl), (Nat.le_of_ble_eq_true rfl)⟩) hS (fun q _ h => hFc q h) hFc (fun r_90 u t H1 locs ht hvm hw hB hz1 hk1 hS => ?_)
              obtain ⟨tg_91, hP1, hK1, hD1⟩ := hB
              rw [ht] at hP1
              have hK1 := va_K.moved hvm.symm hK1
              obtain ⟨hP, hD⟩ := va_join (wr := [(ph, .inl (pc, 4, .inr (.inr (.inr (.inr pf))))), (p0, .inr (0, [.int b0, .int z0, .ref n0])), (n0, .inl (nc0, 40, .inr (.inl g0))), (p1, .inr (0, [.int b1, .int z1, .ref n1])), (n1, .inl (nc1, 40, .inr (.inl g1))), (p2, .inr (0, [.int b2, .int z2, .ref n2])), (n2, .inl (nc2, 40, .inr (.inl g2))), (p3, .inr (0, [.int b3, .int z3, .ref n3])), (n3, .inl (nc3, 40, .inr (.inl g3)))]) (w1 := [(h0, .inr (6, [v0, v1, v2, v3, v4, .ref ph, .ref t0, v7])), (t0, .inl (tc, 7, .inl tg_91))]) hP hD [0, 1] [2, 3, 4, 5, 6, 7, 8, 9, 10] rfl rfl (by decide) (by decide) hk1 hFc hP1 hD1
              generalize H1 = H at hP hS ⊢
              have hP : va_P (dC, dI) vwCl [(ph, .inl (pc, 4, .inr (.inr (.inr (.inr pf))))), (p0, .inr (0, [.int b0, .int z0, .ref n0])), (n0, .inl (nc0, 40, .inr (.inl g0))), (p1, .inr (0, [.int b1, .int z1, .ref n1])), (n1, .inl (nc1, 40, .inr (.inl g1))), (p2, .inr (0, [.int b2, .int z2, .ref n2])), (n2, .inl (nc2, 40, .inr (.inl g2))), (p3, .inr (0, [.int b3, .int z3, .ref n3])), (n3, .inl (nc3, 40, .inr (.inl g3))), (h0, .inr (6, [v0, v1, v2, v3, v4, .ref ph, .ref t0, v7])), (t0, .inl (tc, 7, .inl tg_91))] H := hP
              have hD : va_D A [(ph, .inl (pc, 4, .inr (.inr (.inr (.inr pf))))), (p0, .inr (0, [.int b0, .int z0, .ref n0])), (n0, .inl (nc0, 40, .inr (.inl g0))), (p1, .inr (0, [.int b1, .int z1, .ref n1])), (n1, .inl (nc1, 40, .inr (.inl g1))), (p2, .inr (0, [.int b2, .int z2, .ref n2])), (n2, .inl (nc2, 40, .inr (.inl g2))), (p3, .inr (0, [.int b3, .int z3, .ref n3])), (n3, .inl (nc3, 40, .inr (.inl g3))), (h0, .inr (6, [v0, v1, v2, v3, v4, .ref ph, .ref t0, v7])), (t0, .inl (tc, 7, .inl tg_91))] := hD
              subst hw
              have hP9 := hP.sub (ws' := [(h0, .inr (6, [v0, v1, v2, v3, v4, .ref ph, .ref t0, v7])), (t0, .inl (tc, 7, .inl tg_91)), (ph, .inl (pc, 4, .inr (.inr (.inr (.inr pf))))), (p0, .inr (0, [.int b0, .int z0, .ref n0])), (n0, .inl (nc0, 40, .inr (.inl g0))), (p1, .inr (0, [.int b1, .int z1, .ref n1])), (n1, .inl (nc1, 40, .inr (.inl g1))), (p2, .inr (0, [.int b2, .int z2, .ref n2])), (n2, .inl (nc2, 40, .inr (.inl g2))), (p3, .inr (0, [.int b3, .int z3, .ref n3])), (n3, .inl (nc3, 40, .inr (.inl g3)))]) [9, 10, 0, 1, 2, 3, 4, 5, 6, 7, 8] rfl
              have hD9 := hD.sub (ws' := [(h0, .inr (6, [v0, v1, v2, v3, v4, .ref ph, .ref t0, v7])), (t0, .inl (tc, 7, .inl tg_91)), (ph, .inl (pc, 4, .inr (.inr (.inr (.inr pf))))), (p0, .inr (0, [.int b0, .int z0, .ref n0])), (n0, .inl (nc0, 40, .inr (.inl g0))), (p1, .inr (0, [.int b1, .int z1, .ref n1])), (n1, .inl (nc1, 40, .inr (.inl g1))), (p2, .inr (0, [.int b2, .int z2, .ref n2])), (n2, .inl (nc2, 40, .inr (.inl g2))), (p3, .inr (0, [.int b3, .int z3, .ref n3])), (n3, .inl (nc3, 40, .inr (.inl g3)))]) [9, 10, 0, 1, 2, 3, 4, 5, 6, 7, 8] (by decide) rfl
              have hK9 := hK.sub (tys' := [(tc, .int), (pc, .object "LampShapes$Paper"), (nc0, .long), (nc1, .long), (nc2, .long), (nc3, .long)]) [0, 1, 2, 3, 4, 5] rfl
              exact W.iret (v := ((-1000000001) : Int32)) hx hb hr (fun t ht hW => ⟨⟨((-1000000001) : Int32), (), rfl, trivial, tg_91, g0, g1, g2, g3, by rw [ht]; exact hP9, va_K.moved hW.alike hK9, hD9⟩, hS.F ht⟩) hS.2.2 dX8_copy_104
            · skip
              have tc_89 : ¬ r_88.toInt = 0 := fun h => c_89 ((fa_eq _ _).mpr h)
              refine lv_aload hx hb dX8_copy_86 (lv_at hl 0 rfl) ?_
              refine lv_iload hx hb dX8_copy_88 (lv_at hl 6 rfl) ?_
              refine lv_iload hx hb dX8_copy_90 (lv_at hl 7 rfl) ?_
              have hPc := hP.sub (ws' := [(p1, .inr (0, [.int b1, .int z1, .ref n1]))]) [5] rfl
              have hKc := hK.sub (tys' := []) [] rfl
              refine vp_callSi (W.runV (As := [.int j, .int n]) (rest := []) ⟨hx, hb, hml, hown, hts⟩ (p_hasPart l dC dI ad p1 j n (.int b1) z1 (.ref n1) hz1) (cwV 2 hts g_x_copy_p_hasPart_282 rfl rfl rfl (by decide +kernel) ⟨(Nat.le_of_ble_eq_true rfl), (Nat.le_of_ble_eq_true rfl)⟩) ⟨preS_blind, va_recv hKc hPc (ci := 0) (q0 := 0) rfl rfl, fun U hU hW => ⟨rfl, preS_at hU hW hPc hKc hev⟩⟩ rfl rfl hl.1 rfl (lv_room (Nat.le_of_ble_eq_true rfl)) dX8_copy_92 ⟨(Nat.le_of_ble_eq_true rfl), (Nat.le_of_ble_eq_true rfl)⟩) (fun r_92 hw => ?_)
              have hr_92 : (r_92.toInt = 1 ∧ 0 ≤ j.toInt ∧ 0 ≤ n.toInt ∧ j.toInt + n.toInt ≤ z1.toInt) ∨ (r_92.toInt = 0 ∧ ¬ (0 ≤ j.toInt ∧ 0 ≤ n.toInt ∧ j.toInt + n.toInt ≤ z1.toInt)) := hw
              refine lv_if_ne (tgt := 105) hx hb dX8_copy_95 (by decide) (fun c_93 => ?_) (fun c_93 => ?_)
              · skip
                have tc_93 : ¬ r_92.toInt = 0 := fun h => c_93 ((fa_eq _ _).mpr h)
                refine lv_aload hx hb dX8_copy_105 (lv_at hl 1 rfl) ?_
                refine va_getN (D := (dC, dI)) (ci := 0) (v := .ref n0) (C := RX2) (T := TX2) (N := 3) hx hb hts inX2 hown hK hP 3 rfl rfl 2 (by decide) (ev_nest hev 23 rfl) (fun _ h9 => h9) rfl dX8_copy_107 ?_
                refine lv_iload_n hx hb dX8_copy_110 rfl (lv_at hl 4 rfl) ?_
                refine lv_aload hx hb dX8_copy_111 (lv_at hl 0 rfl) ?_
                refine va_getN (D := (dC, dI)) (ci := 0) (v := .ref n1) (C := RX2) (T := TX2) (N := 3) hx hb hts inX2 hown hK hP 5 rfl rfl 2 (by decide) (ev_nest hev 23 rfl) (fun _ h9 => h9) rfl dX8_copy_113 ?_
                refine lv_iload hx hb dX8_copy_116 (lv_at hl 6 rfl) ?_
                refine lv_iload hx hb dX8_copy_118 (lv_at hl 7 rfl) ?_
                refine va_copyl (ty := .long) hx hb (by rw [hml]; exact hl.1.symm) hown (hts _ (List.mem_of_getElem? (i := 25) rfl)) (hts _ (List.mem_of_getElem? (i := 26) rfl)) (hts _ (List.mem_of_getElem? (i := 27) rfl)) (hts _ (List.mem_of_getElem? (i := 28) rfl)) hK hP hD hS 4 6 2 3 rfl rfl rfl rfl rfl (fun h => absurd ((fa_lt _ _).mp h) (by show ¬ i.toInt < 0; omega)) (fun h => absurd ((fa_lt _ _).mp h) (by show ¬ j.toInt < 0; omega)) (fun h => absurd ((fa_lt _ _).mp h) (by show ¬ n.toInt < 0; omega)) (by show i.toInt.toNat + n.toInt.toNat ≤ 40; omega) (by show j.toInt.toNat + n.toInt.toNat ≤ 40; omega) (fun _ _ => rfl) (Nat.le_of_ble_eq_true rfl) (Nat.le_of_ble_eq_true rfl) dX8_copy_120 (fun H locs hP hD hS => ?_)
                generalize va_cpy g0 g1 i.toNatClampNeg j.toNatClampNeg n.toNatClampNeg = f_94 at hP hD
                have hP : va_P (dC, dI) vwCl [(h0, .inr (6, [v0, v1, v2, v3, v4, .ref ph, .ref t0, v7])), (t0, .inl (tc, 7, .inl tf)), (ph, .inl (pc, 4, .inr (.inr (.inr (.inr pf))))), (p0, .inr (0, [.int b0, .int z0, .ref n0])), (n0, .inl (nc0, 40, .inr (.inl g0))), (p1, .inr (0, [.int b1, .int z1, .ref n1])), (n1, .inl (nc1, 40, .inr (.inl f_94))), (p2, .inr (0, [.int b2, .int z2, .ref n2])), (n2, .inl (nc2, 40, .inr (.inl g2))), (p3, .inr (0, [.int b3, .int z3, .ref n3])), (n3, .inl (nc3, 40, .inr (.inl g3)))] H := hP
                have hD : va_D A [(h0, .inr (6, [v0, v1, v2, v3, v4, .ref ph, .ref t0, v7])), (t0, .inl (tc, 7, .inl tf)), (ph, .inl (pc, 4, .inr (.inr (.inr (.inr pf))))), (p0, .inr (0, [.int b0, .int z0, .ref n0])), (n0, .inl (nc0, 40, .inr (.inl g0))), (p1, .inr (0, [.int b1, .int z1, .ref n1])), (n1, .inl (nc1, 40, .inr (.inl f_94))), (p2, .inr (0, [.int b2, .int z2, .ref n2])), (n2, .inl (nc2, 40, .inr (.inl g2))), (p3, .inr (0, [.int b3, .int z3, .ref n3])), (n3, .inl (nc3, 40, .inr (.inl g3)))] := hD
                refine lv_iload hx hb dX8_copy_123 (lv_at hl 7 rfl) ?_
                have hP9 := hP.sub (ws' := [(h0, .inr (6, [v0, v1, v2, v3, v4, .ref ph, .ref t0, v7])), (t0, .inl (tc, 7, .inl tf)), (ph, .inl (pc, 4, .inr (.inr (.inr (.inr pf))))), (p0, .inr (0, [.int b0, .int z0, .ref n0])), (n0, .inl (nc0, 40, .inr (.inl g0))), (p1, .inr (0, [.int b1, .int z1, .ref n1])), (n1, .inl (nc1, 40, .inr (.inl f_94))), (p2, .inr (0, [.int b2, .int z2, .ref n2])), (n2, .inl (nc2, 40, .inr (.inl g2))), (p3, .inr (0, [.int b3, .int z3, .ref n3])), (n3, .inl (nc3, 40, .inr (.inl g3)))]) [0, 1, 2, 3, 4, 5, 6, 7, 8, 9, 10] rfl
                have hD9 := hD.sub (ws' := [(h0, .inr (6, [v0, v1, v2, v3, v4, .ref ph, .ref t0, v7])), (t0, .inl (tc, 7, .inl tf)), (ph, .inl (pc, 4, .inr (.inr (.inr (.inr pf))))), (p0, .inr (0, [.int b0, .int z0, .ref n0])), (n0, .inl (nc0, 40, .inr (.inl g0))), (p1, .inr (0, [.int b1, .int z1, .ref n1])), (n1, .inl (nc1, 40, .inr (.inl f_94))), (p2, .inr (0, [.int b2, .int z2, .ref n2])), (n2, .inl (nc2, 40, .inr (.inl g2))), (p3, .inr (0, [.int b3, .int z3, .ref n3])), (n3, .inl (nc3, 40, .inr (.inl g3)))]) [0, 1, 2, 3, 4, 5, 6, 7, 8, 9, 10] (by decide) rfl
                have hK9 := hK.sub (tys' := [(tc, .int), (pc, .object "LampShapes$Paper"), (nc0, .long), (nc1, .long), (nc2, .long), (nc3, .long)]) [0, 1, 2, 3, 4, 5] rfl
                exact W.iret (v := n) hx hb hr (fun t ht hW => ⟨⟨n, (), rfl, trivial, tf, g0, f_94, g2, g3, by rw [ht]; exact hP9, va_K.moved hW.alike hK9, hD9⟩, hS.F ht⟩) hS.2.2 dX8_copy_125
              · skip
                have tc_93 : r_92.toInt = 0 := (fa_eq _ _).mp c_93
                refine lv_aload_n hx hb dX8_copy_98 rfl (lv_at hl 2 rfl) ?_
                refine lv_ldc hx hb hown (hts _ (List.mem_of_getElem? (i := 6) rfl)) dX8_copy_99 ?_
                have hPc := hP.sub (ws' := [(h0, .inr (6, [v0, v1, v2, v3, v4, .ref ph, .ref t0, v7])), (t0, .inl (tc, 7, .inl tf))]) [0, 1] rfl
                have hKc := hK.sub (tys' := [(tc, .int)]) [0] rfl
                have hDc := hD.sub (ws' := [(h0, .inr (6, [v0, v1, v2, v3, v4, .ref ph, .ref t0, v7])), (t0, .inl (tc, 7, .inl tf))]) [0, 1] (by decide) rfl
                have hFc := va_free (wc := [(h0, .inr (6, [v0, v1, v2, v3, v4, .ref ph, .ref t0, v7])), (t0, .inl (tc, 7, .inl tf))]) hD hS hA [0, 1] rfl
                refine va_calli (va_runV (As := [.int (-1000000001)]) (rest := []) ⟨hx, hb, hml, hown, hts⟩ (f_beyond l dC dI ad h0 v0 v1 v2 v3 v4 (.ref ph) t0 v7 tc tf s.heap.size ) (cwV 1 hts g_x_copy_f_beyond_63 rfl rfl rfl (by decide +kernel) ⟨(Nat.le_of_ble_eq_true rfl), (Nat.le_of_ble_eq_true rfl)⟩) ⟨preM_blind, va_recv hKc hPc (ci := 6) (q0 := 0) rfl rfl, fun U hU hW => ⟨rfl, preM_at hU hW hPc hKc hDc hev⟩⟩ rfl rfl hl.1 rfl (lv_room (Nat.le_of_ble_eq_true rfl)) dX8_copy_101 ⟨(Nat.le_of_ble_eq_true rfl), (Nat.le_of_ble_eq_true rfl)⟩) hS (fun q _ h => hFc q h) hFc (fun r_95 u t H1 locs ht hvm hw hB hz1 hk1 hS => ?_)
                obtain ⟨tg_96, hP1, hK1, hD1⟩ := hB
                rw [ht] at hP1
                have hK1 := va_K.moved hvm.symm hK1
                obtain ⟨hP, hD⟩ := va_join (wr := [(ph, .inl (pc, 4, .inr (.inr (.inr (.inr pf))))), (p0, .inr (0, [.int b0, .int z0, .ref n0])), (n0, .inl (nc0, 40, .inr (.inl g0))), (p1, .inr (0, [.int b1, .int z1, .ref n1])), (n1, .inl (nc1, 40, .inr (.inl g1))), (p2, .inr (0, [.int b2, .int z2, .ref n2])), (n2, .inl (nc2, 40, .inr (.inl g2))), (p3, .inr (0, [.int b3, .int z3, .ref n3])), (n3, .inl (nc3, 40, .inr (.inl g3)))]) (w1 := [(h0, .inr (6, [v0, v1, v2, v3, v4, .ref ph, .ref t0, v7])), (t0, .inl (tc, 7, .inl tg_96))]) hP hD [0, 1] [2, 3, 4, 5, 6, 7, 8, 9, 10] rfl rfl (by decide) (by decide) hk1 hFc hP1 hD1
                generalize H1 = H at hP hS ⊢
                have hP : va_P (dC, dI) vwCl [(ph, .inl (pc, 4, .inr (.inr (.inr (.inr pf))))), (p0, .inr (0, [.int b0, .int z0, .ref n0])), (n0, .inl (nc0, 40, .inr (.inl g0))), (p1, .inr (0, [.int b1, .int z1, .ref n1])), (n1, .inl (nc1, 40, .inr (.inl g1))), (p2, .inr (0, [.int b2, .int z2, .ref n2])), (n2, .inl (nc2, 40, .inr (.inl g2))), (p3, .inr (0, [.int b3, .int z3, .ref n3])), (n3, .inl (nc3, 40, .inr (.inl g3))), (h0, .inr (6, [v0, v1, v2, v3, v4, .ref ph, .ref t0, v7])), (t0, .inl (tc, 7, .inl tg_96))] H := hP
                have hD : va_D A [(ph, .inl (pc, 4, .inr (.inr (.inr (.inr pf))))), (p0, .inr (0, [.int b0, .int z0, .ref n0])), (n0, .inl (nc0, 40, .inr (.inl g0))), (p1, .inr (0, [.int b1, .int z1, .ref n1])), (n1, .inl (nc1, 40, .inr (.inl g1))), (p2, .inr (0, [.int b2, .int z2, .ref n2])), (n2, .inl (nc2, 40, .inr (.inl g2))), (p3, .inr (0, [.int b3, .int z3, .ref n3])), (n3, .inl (nc3, 40, .inr (.inl g3))), (h0, .inr (6, [v0, v1, v2, v3, v4, .ref ph, .ref t0, v7])), (t0, .inl (tc, 7, .inl tg_96))] := hD
                subst hw
                have hP9 := hP.sub (ws' := [(h0, .inr (6, [v0, v1, v2, v3, v4, .ref ph, .ref t0, v7])), (t0, .inl (tc, 7, .inl tg_96)), (ph, .inl (pc, 4, .inr (.inr (.inr (.inr pf))))), (p0, .inr (0, [.int b0, .int z0, .ref n0])), (n0, .inl (nc0, 40, .inr (.inl g0))), (p1, .inr (0, [.int b1, .int z1, .ref n1])), (n1, .inl (nc1, 40, .inr (.inl g1))), (p2, .inr (0, [.int b2, .int z2, .ref n2])), (n2, .inl (nc2, 40, .inr (.inl g2))), (p3, .inr (0, [.int b3, .int z3, .ref n3])), (n3, .inl (nc3, 40, .inr (.inl g3)))]) [9, 10, 0, 1, 2, 3, 4, 5, 6, 7, 8] rfl
                have hD9 := hD.sub (ws' := [(h0, .inr (6, [v0, v1, v2, v3, v4, .ref ph, .ref t0, v7])), (t0, .inl (tc, 7, .inl tg_96)), (ph, .inl (pc, 4, .inr (.inr (.inr (.inr pf))))), (p0, .inr (0, [.int b0, .int z0, .ref n0])), (n0, .inl (nc0, 40, .inr (.inl g0))), (p1, .inr (0, [.int b1, .int z1, .ref n1])), (n1, .inl (nc1, 40, .inr (.inl g1))), (p2, .inr (0, [.int b2, .int z2, .ref n2])), (n2, .inl (nc2, 40, .inr (.inl g2))), (p3, .inr (0, [.int b3, .int z3, .ref n3])), (n3, .inl (nc3, 40, .inr (.inl g3)))]) [9, 10, 0, 1, 2, 3, 4, 5, 6, 7, 8] (by decide) rfl
                have hK9 := hK.sub (tys' := [(tc, .int), (pc, .object "LampShapes$Paper"), (nc0, .long), (nc1, .long), (nc2, .long), (nc3, .long)]) [0, 1, 2, 3, 4, 5] rfl
                exact W.iret (v := ((-1000000001) : Int32)) hx hb hr (fun t ht hW => ⟨⟨((-1000000001) : Int32), (), rfl, trivial, tg_96, g0, g1, g2, g3, by rw [ht]; exact hP9, va_K.moved hW.alike hK9, hD9⟩, hS.F ht⟩) hS.2.2 dX8_copy_104
          · skip
            have tc_87 : ¬ b0.toInt = b1.toInt := fun h => c_87 ((fa_eq _ _).mpr h)
            refine lv_aload_n hx hb dX8_copy_68 rfl (lv_at hl 2 rfl) ?_
            refine lv_ldc hx hb hown (hts _ (List.mem_of_getElem? (i := 29) rfl)) dX8_copy_69 ?_
            have hPc := hP.sub (ws' := [(h0, .inr (6, [v0, v1, v2, v3, v4, .ref ph, .ref t0, v7])), (t0, .inl (tc, 7, .inl tf))]) [0, 1] rfl
            have hKc := hK.sub (tys' := [(tc, .int)]) [0] rfl
            have hDc := hD.sub (ws' := [(h0, .inr (6, [v0, v1, v2, v3, v4, .ref ph, .ref t0, v7])), (t0, .inl (tc, 7, .inl tf))]) [0, 1] (by decide) rfl
            have hFc := va_free (wc := [(h0, .inr (6, [v0, v1, v2, v3, v4, .ref ph, .ref t0, v7])), (t0, .inl (tc, 7, .inl tf))]) hD hS hA [0, 1] rfl
            refine va_calli (va_runV (As := [.int (-1000000003)]) (rest := []) ⟨hx, hb, hml, hown, hts⟩ (f_kind l dC dI ad h0 v0 v1 v2 v3 v4 (.ref ph) t0 v7 tc tf s.heap.size ) (cwV 1 hts g_x_copy_f_kind_63 rfl rfl rfl (by decide +kernel) ⟨(Nat.le_of_ble_eq_true rfl), (Nat.le_of_ble_eq_true rfl)⟩) ⟨preM_blind, va_recv hKc hPc (ci := 6) (q0 := 0) rfl rfl, fun U hU hW => ⟨rfl, preM_at hU hW hPc hKc hDc hev⟩⟩ rfl rfl hl.1 rfl (lv_room (Nat.le_of_ble_eq_true rfl)) dX8_copy_71 ⟨(Nat.le_of_ble_eq_true rfl), (Nat.le_of_ble_eq_true rfl)⟩) hS (fun q _ h => hFc q h) hFc (fun r_97 u t H1 locs ht hvm hw hB hz1 hk1 hS => ?_)
            obtain ⟨tg_98, hP1, hK1, hD1⟩ := hB
            rw [ht] at hP1
            have hK1 := va_K.moved hvm.symm hK1
            obtain ⟨hP, hD⟩ := va_join (wr := [(ph, .inl (pc, 4, .inr (.inr (.inr (.inr pf))))), (p0, .inr (0, [.int b0, .int z0, .ref n0])), (n0, .inl (nc0, 40, .inr (.inl g0))), (p1, .inr (0, [.int b1, .int z1, .ref n1])), (n1, .inl (nc1, 40, .inr (.inl g1))), (p2, .inr (0, [.int b2, .int z2, .ref n2])), (n2, .inl (nc2, 40, .inr (.inl g2))), (p3, .inr (0, [.int b3, .int z3, .ref n3])), (n3, .inl (nc3, 40, .inr (.inl g3)))]) (w1 := [(h0, .inr (6, [v0, v1, v2, v3, v4, .ref ph, .ref t0, v7])), (t0, .inl (tc, 7, .inl tg_98))]) hP hD [0, 1] [2, 3, 4, 5, 6, 7, 8, 9, 10] rfl rfl (by decide) (by decide) hk1 hFc hP1 hD1
            generalize H1 = H at hP hS ⊢
            have hP : va_P (dC, dI) vwCl [(ph, .inl (pc, 4, .inr (.inr (.inr (.inr pf))))), (p0, .inr (0, [.int b0, .int z0, .ref n0])), (n0, .inl (nc0, 40, .inr (.inl g0))), (p1, .inr (0, [.int b1, .int z1, .ref n1])), (n1, .inl (nc1, 40, .inr (.inl g1))), (p2, .inr (0, [.int b2, .int z2, .ref n2])), (n2, .inl (nc2, 40, .inr (.inl g2))), (p3, .inr (0, [.int b3, .int z3, .ref n3])), (n3, .inl (nc3, 40, .inr (.inl g3))), (h0, .inr (6, [v0, v1, v2, v3, v4, .ref ph, .ref t0, v7])), (t0, .inl (tc, 7, .inl tg_98))] H := hP
            have hD : va_D A [(ph, .inl (pc, 4, .inr (.inr (.inr (.inr pf))))), (p0, .inr (0, [.int b0, .int z0, .ref n0])), (n0, .inl (nc0, 40, .inr (.inl g0))), (p1, .inr (0, [.int b1, .int z1, .ref n1])), (n1, .inl (nc1, 40, .inr (.inl g1))), (p2, .inr (0, [.int b2, .int z2, .ref n2])), (n2, .inl (nc2, 40, .inr (.inl g2))), (p3, .inr (0, [.int b3, .int z3, .ref n3])), (n3, .inl (nc3, 40, .inr (.inl g3))), (h0, .inr (6, [v0, v1, v2, v3, v4, .ref ph, .ref t0, v7])), (t0, .inl (tc, 7, .inl tg_98))] := hD
            subst hw
            have hP9 := hP.sub (ws' := [(h0, .inr (6, [v0, v1, v2, v3, v4, .ref ph, .ref t0, v7])), (t0, .inl (tc, 7, .inl tg_98)), (ph, .inl (pc, 4, .inr (.inr (.inr (.inr pf))))), (p0, .inr (0, [.int b0, .int z0, .ref n0])), (n0, .inl (nc0, 40, .inr (.inl g0))), (p1, .inr (0, [.int b1, .int z1, .ref n1])), (n1, .inl (nc1, 40, .inr (.inl g1))), (p2, .inr (0, [.int b2, .int z2, .ref n2])), (n2, .inl (nc2, 40, .inr (.inl g2))), (p3, .inr (0, [.int b3, .int z3, .ref n3])), (n3, .inl (nc3, 40, .inr (.inl g3)))]) [9, 10, 0, 1, 2, 3, 4, 5, 6, 7, 8] rfl
            have hD9 := hD.sub (ws' := [(h0, .inr (6, [v0, v1, v2, v3, v4, .ref ph, .ref t0, v7])), (t0, .inl (tc, 7, .inl tg_98)), (ph, .inl (pc, 4, .inr (.inr (.inr (.inr pf))))), (p0, .inr (0, [.int b0, .int z0, .ref n0])), (n0, .inl (nc0, 40, .inr (.inl g0))), (p1, .inr (0, [.int b1, .int z1, .ref n1])), (n1, .inl (nc1, 40, .inr (.inl g1))), (p2, .inr (0, [.int b2, .int z2, .ref n2])), (n2, .inl (nc2, 40, .inr (.inl g2))), (p3, .inr (0, [.int b3, .int z3, .ref n3])), (n3, .inl (nc3, 40, .inr (.inl g3)))]) [9, 10, 0, 1, 2, 3, 4, 5, 6, 7, 8] (by decide) rfl
            have hK9 := hK.sub (tys' := [(tc, .int), (pc, .object "LampShapes$Paper"), (nc0, .long), (nc1, .long), (nc2, .long), (nc3, .long)]) [0, 1, 2, 3, 4, 5] rfl
            exact W.iret (v := ((-1000000003) : Int32)) hx hb hr (fun t ht hW => ⟨⟨((-1000000003) : Int32), (), rfl, trivial, tg_98, g0, g1, g2, g3, by rw [ht]; exact hP9, va_K.moved hW.alike hK9, hD9⟩, hS.F ht⟩) hS.2.2 dX8_copy_74
        · skip
          have tc_86 : ¬ r_85.toInt = 0 := fun h => c_86 ((fa_eq _ _).mpr h)
          refine lv_aload_n hx hb dX8_copy_47 rfl (lv_at hl 2 rfl) ?_
          refine lv_ldcw hx hb hown (hts _ (List.mem_of_getElem? (i := 19) rfl)) dX8_copy_48 ?_
          have hPc := hP.sub (ws' := [(h0, .inr (6, [v0, v1, v2, v3, v4, .ref ph, .ref t0, v7])), (t0, .inl (tc, 7, .inl tf))]) [0, 1] rfl
          have hKc := hK.sub (tys' := [(tc, .int)]) [0] rfl
          have hDc := hD.sub (ws' := [(h0, .inr (6, [v0, v1, v2, v3, v4, .ref ph, .ref t0, v7])), (t0, .inl (tc, 7, .inl tf))]) [0, 1] (by decide) rfl
          have hFc := va_free (wc := [(h0, .inr (6, [v0, v1, v2, v3, v4, .ref ph, .ref t0, v7])), (t0, .inl (tc, 7, .inl tf))]) hD hS hA [0, 1] rfl
          refine va_calli (va_runV (As := [.int (-1000000006)]) (rest := []) ⟨hx, hb, hml, hown, hts⟩ (f_missing l dC dI ad h0 v0 v1 v2 v3 v4 (.ref ph) t0 v7 tc tf s.heap.size ) (cwV 1 hts g_x_copy_f_missing_63 rfl rfl rfl (by decide +kernel) ⟨(Nat.le_of_ble_eq_true rfl), (Nat.le_of_ble_eq_true rfl)⟩) ⟨preM_blind, va_recv hKc hPc (ci := 6) (q0 := 0) rfl rfl, fun U hU hW => ⟨rfl, preM_at hU hW hPc hKc hDc hev⟩⟩ rfl rfl hl.1 rfl (lv_room (Nat.le_of_ble_eq_true rfl)) dX8_copy_51 ⟨(Nat.le_of_ble_eq_true rfl), (Nat.le_of_ble_eq_true rfl)⟩) hS (fun q _ h => hFc q h) hFc (fun r_99 u t H1 locs ht hvm hw hB hz1 hk1 hS => ?_)
          obtain ⟨tg_100, hP1, hK1, hD1⟩ := hB
          rw [ht] at hP1
          have hK1 := va_K.moved hvm.symm hK1
          obtain ⟨hP, hD⟩ := va_join (wr := [(ph, .inl (pc, 4, .inr (.inr (.inr (.inr pf))))), (p0, .inr (0, [.int b0, .int z0, .ref n0])), (n0, .inl (nc0, 40, .inr (.inl g0))), (p1, .inr (0, [.int b1, .int z1, .ref n1])), (n1, .inl (nc1, 40, .inr (.inl g1))), (p2, .inr (0, [.int b2, .int z2, .ref n2])), (n2, .inl (nc2, 40, .inr (.inl g2))), (p3, .inr (0, [.int b3, .int z3, .ref n3])), (n3, .inl (nc3, 40, .inr (.inl g3)))]) (w1 := [(h0, .inr (6, [v0, v1, v2, v3, v4, .ref ph, .ref t0, v7])), (t0, .inl (tc, 7, .inl tg_100))]) hP hD [0, 1] [2, 3, 4, 5, 6, 7, 8, 9, 10] rfl rfl (by decide) (by decide) hk1 hFc hP1 hD1
          generalize H1 = H at hP hS ⊢
          have hP : va_P (dC, dI) vwCl [(ph, .inl (pc, 4, .inr (.inr (.inr (.inr pf))))), (p0, .inr (0, [.int b0, .int z0, .ref n0])), (n0, .inl (nc0, 40, .inr (.inl g0))), (p1, .inr (0, [.int b1, .int z1, .ref n1])), (n1, .inl (nc1, 40, .inr (.inl g1))), (p2, .inr (0, [.int b2, .int z2, .ref n2])), (n2, .inl (nc2, 40, .inr (.inl g2))), (p3, .inr (0, [.int b3, .int z3, .ref n3])), (n3, .inl (nc3, 40, .inr (.inl g3))), (h0, .inr (6, [v0, v1, v2, v3, v4, .ref ph, .ref t0, v7])), (t0, .inl (tc, 7, .inl tg_100))] H := hP
          have hD : va_D A [(ph, .inl (pc, 4, .inr (.inr (.inr (.inr pf))))), (p0, .inr (0, [.int b0, .int z0, .ref n0])), (n0, .inl (nc0, 40, .inr (.inl g0))), (p1, .inr (0, [.int b1, .int z1, .ref n1])), (n1, .inl (nc1, 40, .inr (.inl g1))), (p2, .inr (0, [.int b2, .int z2, .ref n2])), (n2, .inl (nc2, 40, .inr (.inl g2))), (p3, .inr (0, [.int b3, .int z3, .ref n3])), (n3, .inl (nc3, 40, .inr (.inl g3))), (h0, .inr (6, [v0, v1, v2, v3, v4, .ref ph, .ref t0, v7])), (t0, .inl (tc, 7, .inl tg_100))] := hD
          subst hw
          have hP9 := hP.sub (ws' := [(h0, .inr (6, [v0, v1, v2, v3, v4, .ref ph, .ref t0, v7])), (t0, .inl (tc, 7, .inl tg_100)), (ph, .inl (pc, 4, .inr (.inr (.inr (.inr pf))))), (p0, .inr (0, [.int b0, .int z0, .ref n0])), (n0, .inl (nc0, 40, .inr (.inl g0))), (p1, .inr (0, [.int b1, .int z1, .ref n1])), (n1, .inl (nc1, 40, .inr (.inl g1))), (p2, .inr (0, [.int b2, .int z2, .ref n2])), (n2, .inl (nc2, 40, .inr (.inl g2))), (p3, .inr (0, [.int b3, .int z3, .ref n3])), (n3, .inl (nc3, 40, .inr (.inl g3)))]) [9, 10, 0, 1, 2, 3, 4, 5, 6, 7, 8] rfl
          have hD9 := hD.sub (ws' := [(h0, .inr (6, [v0, v1, v2, v3, v4, .ref ph, .ref t0, v7])), (t0, .inl (tc, 7, .inl tg_100)), (ph, .inl (pc, 4, .inr (.inr (.inr (.inr pf))))), (p0, .inr (0, [.int b0, .int z0, .ref n0])), (n0, .inl (nc0, 40, .inr (.inl g0))), (p1, .inr (0, [.int b1, .int z1, .ref n1])), (n1, .inl (nc1, 40, .inr (.inl g1))), (p2, .inr (0, [.int b2, .int z2, .ref n2])), (n2, .inl (nc2, 40, .inr (.inl g2))), (p3, .inr (0, [.int b3, .int z3, .ref n3])), (n3, .inl (nc3, 40, .inr (.inl g3)))]) [9, 10, 0, 1, 2, 3, 4, 5, 6, 7, 8] (by decide) rfl
          have hK9 := hK.sub (tys' := [(tc, .int), (pc, .object "LampShapes$Paper"), (nc0, .long), (nc1, .long), (nc2, .long), (nc3, .long)]) [0, 1, 2, 3, 4, 5] rfl
          exact W.iret (v := ((-1000000006) : Int32)) hx hb hr (fun t ht hW => ⟨⟨((-1000000006) : Int32), (), rfl, trivial, tg_100, g0, g1, g2, g3, by rw [ht]; exact hP9, va_K.moved hW.alike hK9, hD9⟩, hS.F ht⟩) hS.2.2 dX8_copy_54
    · skip
      refine Met.ofW (cc := cX8_copy) (maxL := 8) (ret := (some .int)) (by decide) rfl ?_
      intro p e s m args below meth c s₁ B hml hv
      obtain ⟨rfl, hsz, hP, hK, hD0, hev⟩ := hv
      have hx := B.exec
      have hb := B.bytes
      have hr := B.returns
      have hts := atoms_spec (ws := w_x_copy) B.pre
      have hown : s.vm.findClass RX8 = some m.cls := findClass_of_methodNamed B.named
      have hlocks := B.notSynchronized
      have inX8 : ∀ w ∈ wsX80, w ∈ w_x_copy := fun w h => List.mem_cons_of_mem _ (List.mem_append_left _ (List.mem_append_right _ h))
      have inX2 : ∀ w ∈ wsX20, w ∈ w_x_copy := fun w h => List.mem_cons_of_mem _ (List.mem_append_right _ h)
      subst hsz
      have hD := hD0.self (sz := s.heap.size)
      generalize hAe : va_A [(h0, .inr (6, [v0, v1, v2, v3, v4, .ref ph, .ref t0, v7])), (t0, .inl (tc, 7, .inl tf)), (ph, .inl (pc, 4, .inr (.inr (.inr (.inr pf))))), (p0, .inr (0, [.int b0, .int z0, .ref n0])), (n0, .inl (nc0, 40, .inr (.inl g0))), (p1, .inr (0, [.int b1, .int z1, .ref n1])), (n1, .inl (nc1, 40, .inr (.inl g1))), (p2, .inr (0, [.int b2, .int z2, .ref n2])), (n2, .inl (nc2, 40, .inr (.inl g2))), (p3, .inr (0, [.int b3, .int z3, .ref n3])), (n3, .inl (nc3, 40, .inr (.inl g3)))] s.heap.size = A at hD ⊢
      have hA : ∀ q : Nat, s.heap.size ≤ q → A q := fun q h => by rw [← hAe]; exact Or.inr h
      have hS : va_S A s.heap s.heap [] := va_S.rf
      have hP : va_P (dC, dI) vwCl [(h0, .inr (6, [v0, v1, v2, v3, v4, .ref ph, .ref t0, v7])), (t0, .inl (tc, 7, .inl tf)), (ph, .inl (pc, 4, .inr (.inr (.inr (.inr pf))))), (p0, .inr (0, [.int b0, .int z0, .ref n0])), (n0, .inl (nc0, 40, .inr (.inl g0))), (p1, .inr (0, [.int b1, .int z1, .ref n1])), (n1, .inl (nc1, 40, .inr (.inl g1))), (p2, .inr (0, [.int b2, .int z2, .ref n2])), (n2, .inl (nc2, 40, .inr (.inl g2))), (p3, .inr (0, [.int b3, .int z3, .ref n3])), (n3, .inl (nc3, 40, .inr (.inl g3)))] s.heap := hP
      have hl := lv_entry ([.ref h0, .int 0, .int i, .int 2, .int j, .int n]) (n := 8) (Nat.le_of_ble_eq_true rfl)
      rw [lg_entry_eq]
      generalize (lg_sl ([.ref h0, .int 0, .int i, .int 2, .int j, .int n]) ++ List.replicate (8 - (lg_sl ([.ref h0, .int 0, .int i, .int 2, .int j, .int n])).length) Slot.unset).toArray = ls at hl ⊢
      have hl : lv_has ls 8 [(0, .ref h0), (1, .int 0), (2, .int i), (3, .int 2), (4, .int j), (5, .int n)] := hl
      refine lv_aload_n hx hb dX8_copy_0 rfl (lv_at hl 0 rfl) ?_
      refine lv_iload_n hx hb dX8_copy_1 rfl (lv_at hl 1 rfl) ?_
      have hPc := hP.sub (ws' := [(h0, .inr (6, [v0, v1, v2, v3, v4, .ref ph, .ref t0, v7])), (ph, .inl (pc, 4, .inr (.inr (.inr (.inr pf)))))]) [0, 2] rfl
      have hKc := hK.sub (tys' := [(pc, .object "LampShapes$Paper")]) [1] rfl
      refine va_csq (W.runV (As := [.int 0]) (rest := []) ⟨hx, hb, hml, hown, hts⟩ (c_paperAt_0 l dC dI ad h0 v0 v1 v2 v3 v4 ph (.ref t0) v7 pc pf p0 hp0) (cwV 1 hts g_x_copy_c_paperAt_0_256 rfl rfl rfl (by decide +kernel) ⟨(Nat.le_of_ble_eq_true rfl), (Nat.le_of_ble_eq_true rfl)⟩) ⟨preS_blind, va_recv hKc hPc (ci := 6) (q0 := 0) rfl rfl, fun U hU hW => ⟨rfl, preS_at hU hW hPc hKc hev⟩⟩ rfl rfl hl.1 rfl (lv_room (Nat.le_of_ble_eq_true rfl)) dX8_copy_2 ⟨(Nat.le_of_ble_eq_true rfl), (Nat.le_of_ble_eq_true rfl)⟩) (fun r_101 hw => ?_)
      subst hw
      refine pp_tv (y := .ref p0) rfl ?_
      refine lv_astore (lv' := [(6, .ref p0), (0, .ref h0), (1, .int 0), (2, .int i), (3, .int 2), (4, .int j), (5, .int n)]) hx hb dX8_copy_5 hl (by decide) rfl (fun ls hl => ?_)
      refine lv_aload_n hx hb dX8_copy_7 rfl (lv_at hl 1 rfl) ?_
      refine lv_iload_n hx hb dX8_copy_8 rfl (lv_at hl 4 rfl) ?_
      have hPc := hP.sub (ws' := [(h0, .inr (6, [v0, v1, v2, v3, v4, .ref ph, .ref t0, v7])), (ph, .inl (pc, 4, .inr (.inr (.inr (.inr pf)))))]) [0, 2] rfl
      have hKc := hK.sub (tys' := [(pc, .object "LampShapes$Paper")]) [1] rfl
      refine va_csq (W.runV (As := [.int 2]) (rest := []) ⟨hx, hb, hml, hown, hts⟩ (c_paperAt_2 l dC dI ad h0 v0 v1 v2 v3 v4 ph (.ref t0) v7 pc pf p2 hp2) (cwV 1 hts g_x_copy_c_paperAt_2_256 rfl rfl rfl (by decide +kernel) ⟨(Nat.le_of_ble_eq_true rfl), (Nat.le_of_ble_eq_true rfl)⟩) ⟨preS_blind, va_recv hKc hPc (ci := 6) (q0 := 0) rfl rfl, fun U hU hW => ⟨rfl, preS_at hU hW hPc hKc hev⟩⟩ rfl rfl hl.1 rfl (lv_room (Nat.le_of_ble_eq_true rfl)) dX8_copy_9 ⟨(Nat.le_of_ble_eq_true rfl), (Nat.le_of_ble_eq_true rfl)⟩) (fun r_102 hw => ?_)
      subst hw
      refine pp_tv (y := .ref p2) rfl ?_
      refine lv_astore (lv' := [(7, .ref p2), (6, .ref p0), (0, .ref h0), (1, .int 0), (2, .int i), (3, .int 2), (4, .int j), (5, .int n)]) hx hb dX8_copy_12 hl (by decide) rfl (fun ls hl => ?_)
      refine lv_aload hx hb dX8_copy_14 (lv_at hl 1 rfl) ?_
      refine lv_ifnull hx hb dX8_copy_16 ?_
      refine lv_aload hx hb dX8_copy_19 (lv_at hl 0 rfl) ?_
      refine lv_ifnonnull (tgt := 31) hx hb dX8_copy_21 (by decide) ?_
      refine lv_aload hx hb dX8_copy_31 (lv_at hl 1 rfl) ?_
      have hPc := hP.sub (ws' := [(p0, .inr (0, [.int b0, .int z0, .ref n0]))]) [3] rfl
      have hKc := hK.sub (tys' := []) [] rfl
      refine vp_callSi (W.runV (As := []) (rest := []) ⟨hx, hb, hml, hown, hts⟩ (p_isMissing l dC dI ad p0 b0 (.int z0) (.ref n0) ) (cwV 0 hts g_x_copy_p_isMissing_268 rfl rfl rfl (by decide +kernel) ⟨(Nat.le_of_ble_eq_true rfl), (Nat.le_of_ble_eq_true rfl)⟩) ⟨preS_blind, va_recv hKc hPc (ci := 0) (q0 := 0) rfl rfl, fun U hU hW => ⟨rfl, preS_at hU hW hPc hKc hev⟩⟩ rfl rfl hl.1 rfl (lv_room (Nat.le_of_ble_eq_true rfl)) dX8_copy_33 ⟨(Nat.le_of_ble_eq_true rfl), (Nat.le_of_ble_eq_true rfl)⟩) (fun r_103 hw => ?_)
      have hr_103 : (r_103.toInt = 1 ∧ b0.toInt = 0) ∨ (r_103.toInt = 0 ∧ ¬ b0.toInt = 0) := hw
      refine lv_if_ne (tgt := 47) hx hb dX8_copy_36 (by decide) (fun c_104 => ?_) (fun c_104 => ?_)
      · skip
        have tc_104 : ¬ r_103.toInt = 0 := fun h => c_104 ((fa_eq _ _).mpr h)
        refine lv_aload_n hx hb dX8_copy_47 rfl (lv_at hl 2 rfl) ?_
        refine lv_ldcw hx hb hown (hts _ (List.mem_of_getElem? (i := 19) rfl)) dX8_copy_48 ?_
        have hPc := hP.sub (ws' := [(h0, .inr (6, [v0, v1, v2, v3, v4, .ref ph, .ref t0, v7])), (t0, .inl (tc, 7, .inl tf))]) [0, 1] rfl
        have hKc := hK.sub (tys' := [(tc, .int)]) [0] rfl
        have hDc := hD.sub (ws' := [(h0, .inr (6, [v0, v1, v2, v3, v4, .ref ph, .ref t0, v7])), (t0, .inl (tc, 7, .inl tf))]) [0, 1] (by decide) rfl
        have hFc := va_free (wc := [(h0, .inr (6, [v0, v1, v2, v3, v4, .ref ph, .ref t0, v7])), (t0, .inl (tc, 7, .inl tf))]) hD hS hA [0, 1] rfl
        refine va_calli (va_runV (As := [.int (-1000000006)]) (rest := []) ⟨hx, hb, hml, hown, hts⟩ (f_missing l dC dI ad h0 v0 v1 v2 v3 v4 (.ref ph) t0 v7 tc tf s.heap.size ) (cwV 1 hts g_x_copy_f_missing_63 rfl rfl rfl (by decide +kernel) ⟨(Nat.le_of_ble_eq_true rfl), (Nat.le_of_ble_eq_true rfl)⟩) ⟨preM_blind, va_recv hKc hPc (ci := 6) (q0 := 0) rfl rfl, fun U hU hW => ⟨rfl, preM_at hU hW hPc hKc hDc hev⟩⟩ rfl rfl hl.1 rfl (lv_room (Nat.le_of_ble_eq_true rfl)) dX8_copy_51 ⟨(Nat.le_of_ble_eq_true rfl), (Nat.le_of_ble_eq_true rfl)⟩) hS (fun q _ h => hFc q h) hFc (fun r_105 u t H1 locs ht hvm hw hB hz1 hk1 hS => ?_)
        obtain ⟨tg_106, hP1, hK1, hD1⟩ := hB
        rw [ht] at hP1
        have hK1 := va_K.moved hvm.symm hK1
        obtain ⟨hP, hD⟩ := va_join (wr := [(ph, .inl (pc, 4, .inr (.inr (.inr (.inr pf))))), (p0, .inr (0, [.int b0, .int z0, .ref n0])), (n0, .inl (nc0, 40, .inr (.inl g0))), (p1, .inr (0, [.int b1, .int z1, .ref n1])), (n1, .inl (nc1, 40, .inr (.inl g1))), (p2, .inr (0, [.int b2, .int z2, .ref n2])), (n2, .inl (nc2, 40, .inr (.inl g2))), (p3, .inr (0, [.int b3, .int z3, .ref n3])), (n3, .inl (nc3, 40, .inr (.inl g3)))]) (w1 := [(h0, .inr (6, [v0, v1, v2, v3, v4, .ref ph, .ref t0, v7])), (t0, .inl (tc, 7, .inl tg_106))]) hP hD [0, 1] [2, 3, 4, 5, 6, 7, 8, 9, 10] rfl rfl (by decide) (by decide) hk1 hFc hP1 hD1
        generalize H1 = H at hP hS ⊢
        have hP : va_P (dC, dI) vwCl [(ph, .inl (pc, 4, .inr (.inr (.inr (.inr pf))))), (p0, .inr (0, [.int b0, .int z0, .ref n0])), (n0, .inl (nc0, 40, .inr (.inl g0))), (p1, .inr (0, [.int b1, .int z1, .ref n1])), (n1, .inl (nc1, 40, .inr (.inl g1))), (p2, .inr (0, [.int b2, .int z2, .ref n2])), (n2, .inl (nc2, 40, .inr (.inl g2))), (p3, .inr (0, [.int b3, .int z3, .ref n3])), (n3, .inl (nc3, 40, .inr (.inl g3))), (h0, .inr (6, [v0, v1, v2, v3, v4, .ref ph, .ref t0, v7])), (t0, .inl (tc, 7, .inl tg_106))] H := hP
        have hD : va_D A [(ph, .inl (pc, 4, .inr (.inr (.inr (.inr pf))))), (p0, .inr (0, [.int b0, .int z0, .ref n0])), (n0, .inl (nc0, 40, .inr (.inl g0))), (p1, .inr (0, [.int b1, .int z1, .ref n1])), (n1, .inl (nc1, 40, .inr (.inl g1))), (p2, .inr (0, [.int b2, .int z2, .ref n2])), (n2, .inl (nc2, 40, .inr (.inl g2))), (p3, .inr (0, [.int b3, .int z3, .ref n3])), (n3, .inl (nc3, 40, .inr (.inl g3))), (h0, .inr (6, [v0, v1, v2, v3, v4, .ref ph, .ref t0, v7])), (t0, .inl (tc, 7, .inl tg_106))] := hD
        subst hw
        have hP9 := hP.sub (ws' := [(h0, .inr (6, [v0, v1, v2, v3, v4, .ref ph, .ref t0, v7])), (t0, .inl (tc, 7, .inl tg_106)), (ph, .inl (pc, 4, .inr (.inr (.inr (.inr pf))))), (p0, .inr (0, [.int b0, .int z0, .ref n0])), (n0, .inl (nc0, 40, .inr (.inl g0))), (p1, .inr (0, [.int b1, .int z1, .ref n1])), (n1, .inl (nc1, 40, .inr (.inl g1))), (p2, .inr (0, [.int b2, .int z2, .ref n2])), (n2, .inl (nc2, 40, .inr (.inl g2))), (p3, .inr (0, [.int b3, .int z3, .ref n3])), (n3, .inl (nc3, 40, .inr (.inl g3)))]) [9, 10, 0, 1, 2, 3, 4, 5, 6, 7, 8] rfl
        have hD9 := hD.sub (ws' := [(h0, .inr (6, [v0, v1, v2, v3, v4, .ref ph, .ref t0, v7])), (t0, .inl (tc, 7, .inl tg_106)), (ph, .inl (pc, 4, .inr (.inr (.inr (.inr pf))))), (p0, .inr (0, [.int b0, .int z0, .ref n0])), (n0, .inl (nc0, 40, .inr (.inl g0))), (p1, .inr (0, [.int b1, .int z1, .ref n1])), (n1, .inl (nc1, 40, .inr (.inl g1))), (p2, .inr (0, [.int b2, .int z2, .ref n2])), (n2, .inl (nc2, 40, .inr (.inl g2))), (p3, .inr (0, [.int b3, .int z3, .ref n3])), (n3, .inl (nc3, 40, .inr (.inl g3)))]) [9, 10, 0, 1, 2, 3, 4, 5, 6, 7, 8] (by decide) rfl
        have hK9 := hK.sub (tys' := [(tc, .int), (pc, .object "LampShapes$Paper"), (nc0, .long), (nc1, .long), (nc2, .long), (nc3, .long)]) [0, 1, 2, 3, 4, 5] rfl
        exact W.iret (v := ((-1000000006) : Int32)) hx hb hr (fun t ht hW => ⟨⟨((-1000000006) : Int32), (), rfl, trivial, tg_106, g0, g1, g2, g3, by rw [ht]; exact hP9, va_K.moved hW.alike hK9, hD9⟩, hS.F ht⟩) hS.2.2 dX8_copy_54
      · skip
        have tc_104 : r_103.toInt = 0 := (fa_eq _ _).mp c_104
        refine lv_aload hx hb dX8_copy_39 (lv_at hl 0 rfl) ?_
        have hPc := hP.sub (ws' := [(p2, .inr (0, [.int b2, .int z2, .ref n2]))]) [7] rfl
        have hKc := hK.sub (tys' := []) [] rfl
        refine vp_callSi (W.runV (As := []) (rest := []) ⟨hx, hb, hml, hown, hts⟩ (p_isMissing l dC dI ad p2 b2 (.int z2) (.ref n2) ) (cwV 0 hts g_x_copy_p_isMissing_268 rfl rfl rfl (by decide +kernel) ⟨(Nat.le_of_ble_eq_true rfl), (Nat.le_of_ble_eq_true rfl)⟩) ⟨preS_blind, va_recv hKc hPc (ci := 0) (q0 := 0) rfl rfl, fun U hU hW => ⟨rfl, preS_at hU hW hPc hKc hev⟩⟩ rfl rfl hl.1 rfl (lv_room (Nat.le_of_ble_eq_true rfl)) dX8_copy_41 ⟨(Nat.le_of_ble_eq_true rfl), (Nat.le_of_ble_eq_true rfl)⟩) (fun r_107 hw => ?_)
        have hr_107 : (r_107.toInt = 1 ∧ b2.toInt = 0) ∨ (r_107.toInt = 0 ∧ ¬ b2.toInt = 0) := hw
        refine lv_if_eq (tgt := 55) hx hb dX8_copy_44 (by decide) (fun c_108 => ?_) (fun c_108 => ?_)
        · skip
          have tc_108 : r_107.toInt = 0 := (fa_eq _ _).mp c_108
          refine lv_aload hx hb dX8_copy_55 (lv_at hl 1 rfl) ?_
          refine va_getN (D := (dC, dI)) (ci := 0) (v := .int b0) (C := RX2) (T := TX2) (N := 3) hx hb hts inX2 hown hK hP 3 rfl rfl 0 (by decide) (ev_nest hev 21 rfl) (fun _ h9 => h9) rfl dX8_copy_57 ?_
          refine lv_aload hx hb dX8_copy_60 (lv_at hl 0 rfl) ?_
          refine va_getN (D := (dC, dI)) (ci := 0) (v := .int b2) (C := RX2) (T := TX2) (N := 3) hx hb hts inX2 hown hK hP 7 rfl rfl 0 (by decide) (ev_nest hev 21 rfl) (fun _ h9 => h9) rfl dX8_copy_62 ?_
          have rc_109_x := pp_rng b0
          have rc_109_y := pp_rng b2
          refine lv_icmp_eq (tgt := 75) hx hb dX8_copy_65 (by decide) (fun c_109 => ?_) (fun c_109 => ?_)
          · skip
            have tc_109 : b0.toInt = b2.toInt := (fa_eq _ _).mp c_109
            refine lv_aload hx hb dX8_copy_75 (lv_at hl 1 rfl) ?_
            refine lv_iload_n hx hb dX8_copy_77 rfl (lv_at hl 4 rfl) ?_
            refine lv_iload hx hb dX8_copy_78 (lv_at hl 7 rfl) ?_
            have hPc := hP.sub (ws' := [(p0, .inr (0, [.int b0, .int z0, .ref n0]))]) [3] rfl
            have hKc := hK.sub (tys' := []) [] rfl
            refine vp_callSi (W.runV (As := [.int i, .int n]) (rest := []) ⟨hx, hb, hml, hown, hts⟩ (p_hasPart l dC dI ad p0 i n (.int b0) z0 (.ref n0) hz0) (cwV 2 hts g_x_copy_p_hasPart_282 rfl rfl rfl (by decide +kernel) ⟨(Nat.le_of_ble_eq_true rfl), (Nat.le_of_ble_eq_true rfl)⟩) ⟨preS_blind, va_recv hKc hPc (ci := 0) (q0 := 0) rfl rfl, fun U hU hW => ⟨rfl, preS_at hU hW hPc hKc hev⟩⟩ rfl rfl hl.1 rfl (lv_room (Nat.le_of_ble_eq_true rfl)) dX8_copy_80 ⟨(Nat.le_of_ble_eq_true rfl), (Nat.le_of_ble_eq_true rfl)⟩) (fun r_110 hw => ?_)
            have hr_110 : (r_110.toInt = 1 ∧ 0 ≤ i.toInt ∧ 0 ≤ n.toInt ∧ i.toInt + n.toInt ≤ z0.toInt) ∨ (r_110.toInt = 0 ∧ ¬ (0 ≤ i.toInt ∧ 0 ≤ n.toInt ∧ i.toInt + n.toInt ≤ z0.toInt)) := hw
            refine lv_if_eq (tgt := 98) hx hb dX8_copy_83 (by decide) (fun c_111 => ?_) (fun c_111 => ?_)
            · skip
              have tc_111 : r_110.toInt = 0 := (fa_eq _ _).mp c_111
              refine lv_aload_n hx hb dX8_copy_98 rfl (lv_at hl 2 rfl) ?_
              refine lv_ldc hx hb hown (hts _ (List.mem_of_getElem? (i := 6) rfl)) dX8_copy_99 ?_
              have hPc := hP.sub (ws' := [(h0, .inr (6, [v0, v1, v2, v3, v4, .ref ph, .ref t0, v7])), (t0, .inl (tc, 7, .inl tf))]) [0, 1] rfl
              have hKc := hK.sub (tys' := [(tc, .int)]) [0] rfl
              have hDc := hD.sub (ws' := [(h0, .inr (6, [v0, v1, v2, v3, v4, .ref ph, .ref t0, v7])), (t0, .inl (tc, 7, .inl tf))]) [0, 1] (by decide) rfl
              have hFc := va_free (wc := [(h0, .inr (6, [v0, v1, v2, v3, v4, .ref ph, .ref t0, v7])), (t0, .inl (tc, 7, .inl tf))]) hD hS hA [0, 1] rfl
              refine va_calli (va_runV (As := [.int (-1000000001)]) (rest := []) ⟨hx, hb, hml, hown, hts⟩ (f_beyond l dC dI ad h0 v0 v1 v2 v3 v4 (.ref ph) t0 v7 tc tf s.heap.size ) (cwV 1 hts g_x_copy_f_beyond_63 rfl rfl rfl (by decide +kernel) ⟨(Nat.le_of_ble_eq_true rfl), (Nat.le_of_ble_eq_true rfl)⟩) ⟨preM_blind, va_recv hKc hPc (ci := 6) (q0 := 0) rfl rfl, fun U hU hW => ⟨rfl, preM_at hU hW hPc hKc hDc hev⟩⟩ rfl rfl hl.1 rfl (lv_room (Nat.le_of_ble_eq_true rfl)) dX8_copy_101 ⟨(Nat.le_of_ble_eq_true rfl), (Nat.le_of_ble_eq_true rfl)⟩) hS (fun q _ h => hFc q h) hFc (fun r_112 u t H1 locs ht hvm hw hB hz1 hk1 hS => ?_)
              obtain ⟨tg_113, hP1, hK1, hD1⟩ := hB
              rw [ht] at hP1
              have hK1 := va_K.moved hvm.symm hK1
              obtain ⟨hP, hD⟩ := va_join (wr := [(ph, .inl (pc, 4, .inr (.inr (.inr (.inr pf))))), (p0, .inr (0, [.int b0, .int z0, .ref n0])), (n0, .inl (nc0, 40, .inr (.inl g0))), (p1, .inr (0, [.int b1, .int z1, .ref n1])), (n1, .inl (nc1, 40, .inr (.inl g1))), (p2, .inr (0, [.int b2, .int z2, .ref n2])), (n2, .inl (nc2, 40, .inr (.inl g2))), (p3, .inr (0, [.int b3, .int z3, .ref n3])), (n3, .inl (nc3, 40, .inr (.inl g3)))]) (w1 := [(h0, .inr (6, [v0, v1, v2, v3, v4, .ref ph, .ref t0, v7])), (t0, .inl (tc, 7, .inl tg_113))]) hP hD [0, 1] [2, 3, 4, 5, 6, 7, 8, 9, 10] rfl rfl (by decide) (by decide) hk1 hFc hP1 hD1
              generalize H1 = H at hP hS ⊢
              have hP : va_P (dC, dI) vwCl [(ph, .inl (pc, 4, .inr (.inr (.inr (.inr pf))))), (p0, .inr (0, [.int b0, .int z0, .ref n0])), (n0, .inl (nc0, 40, .inr (.inl g0))), (p1, .inr (0, [.int b1, .int z1, .ref n1])), (n1, .inl (nc1, 40, .inr (.inl g1))), (p2, .inr (0, [.int b2, .int z2, .ref n2])), (n2, .inl (nc2, 40, .inr (.inl g2))), (p3, .inr (0, [.int b3, .int z3, .ref n3])), (n3, .inl (nc3, 40, .inr (.inl g3))), (h0, .inr (6, [v0, v1, v2, v3, v4, .ref ph, .ref t0, v7])), (t0, .inl (tc, 7, .inl tg_113))] H := hP
              have hD : va_D A [(ph, .inl (pc, 4, .inr (.inr (.inr (.inr pf))))), (p0, .inr (0, [.int b0, .int z0, .ref n0])), (n0, .inl (nc0, 40, .inr (.inl g0))), (p1, .inr (0, [.int b1, .int z1, .ref n1])), (n1, .inl (nc1, 40, .inr (.inl g1))), (p2, .inr (0, [.int b2, .int z2, .ref n2])), (n2, .inl (nc2, 40, .inr (.inl g2))), (p3, .inr (0, [.int b3, .int z3, .ref n3])), (n3, .inl (nc3, 40, .inr (.inl g3))), (h0, .inr (6, [v0, v1, v2, v3, v4, .ref ph, .ref t0, v7])), (t0, .inl (tc, 7, .inl tg_113))] := hD
              subst hw
              have hP9 := hP.sub (ws' := [(h0, .inr (6, [v0, v1, v2, v3, v4, .ref ph, .ref t0, v7])), (t0, .inl (tc, 7, .inl tg_113)), (ph, .inl (pc, 4, .inr (.inr (.inr (.inr pf))))), (p0, .inr (0, [.int b0, .int z0, .ref n0])), (n0, .inl (nc0, 40, .inr (.inl g0))), (p1, .inr (0, [.int b1, .int z1, .ref n1])), (n1, .inl (nc1, 40, .inr (.inl g1))), (p2, .inr (0, [.int b2, .int z2, .ref n2])), (n2, .inl (nc2, 40, .inr (.inl g2))), (p3, .inr (0, [.int b3, .int z3, .ref n3])), (n3, .inl (nc3, 40, .inr (.inl g3)))]) [9, 10, 0, 1, 2, 3, 4, 5, 6, 7, 8] rfl
              have hD9 := hD.sub (ws' := [(h0, .inr (6, [v0, v1, v2, v3, v4, .ref ph, .ref t0, v7])), (t0, .inl (tc, 7, .inl tg_113)), (ph, .inl (pc, 4, .inr (.inr (.inr (.inr pf))))), (p0, .inr (0, [.int b0, .int z0, .ref n0])), (n0, .inl (nc0, 40, .inr (.inl g0))), (p1, .inr (0, [.int b1, .int z1, .ref n1])), (n1, .inl (nc1, 40, .inr (.inl g1))), (p2, .inr (0, [.int b2, .int z2, .ref n2])), (n2, .inl (nc2, 40, .inr (.inl g2))), (p3, .inr (0, [.int b3, .int z3, .ref n3])), (n3, .inl (nc3, 40, .inr (.inl g3)))]) [9, 10, 0, 1, 2, 3, 4, 5, 6, 7, 8] (by decide) rfl
              have hK9 := hK.sub (tys' := [(tc, .int), (pc, .object "LampShapes$Paper"), (nc0, .long), (nc1, .long), (nc2, .long), (nc3, .long)]) [0, 1, 2, 3, 4, 5] rfl
              exact W.iret (v := ((-1000000001) : Int32)) hx hb hr (fun t ht hW => ⟨⟨((-1000000001) : Int32), (), rfl, trivial, tg_113, g0, g1, g2, g3, by rw [ht]; exact hP9, va_K.moved hW.alike hK9, hD9⟩, hS.F ht⟩) hS.2.2 dX8_copy_104
            · skip
              have tc_111 : ¬ r_110.toInt = 0 := fun h => c_111 ((fa_eq _ _).mpr h)
              refine lv_aload hx hb dX8_copy_86 (lv_at hl 0 rfl) ?_
              refine lv_iload hx hb dX8_copy_88 (lv_at hl 6 rfl) ?_
              refine lv_iload hx hb dX8_copy_90 (lv_at hl 7 rfl) ?_
              have hPc := hP.sub (ws' := [(p2, .inr (0, [.int b2, .int z2, .ref n2]))]) [7] rfl
              have hKc := hK.sub (tys' := []) [] rfl
              refine vp_callSi (W.runV (As := [.int j, .int n]) (rest := []) ⟨hx, hb, hml, hown, hts⟩ (p_hasPart l dC dI ad p2 j n (.int b2) z2 (.ref n2) hz2) (cwV 2 hts g_x_copy_p_hasPart_282 rfl rfl rfl (by decide +kernel) ⟨(Nat.le_of_ble_eq_true rfl), (Nat.le_of_ble_eq_true rfl)⟩) ⟨preS_blind, va_recv hKc hPc (ci := 0) (q0 := 0) rfl rfl, fun U hU hW => ⟨rfl, preS_at hU hW hPc hKc hev⟩⟩ rfl rfl hl.1 rfl (lv_room (Nat.le_of_ble_eq_true rfl)) dX8_copy_92 ⟨(Nat.le_of_ble_eq_true rfl), (Nat.le_of_ble_eq_true rfl)⟩) (fun r_114 hw => ?_)
              have hr_114 : (r_114.toInt = 1 ∧ 0 ≤ j.toInt ∧ 0 ≤ n.toInt ∧ j.toInt + n.toInt ≤ z2.toInt) ∨ (r_114.toInt = 0 ∧ ¬ (0 ≤ j.toInt ∧ 0 ≤ n.toInt ∧ j.toInt + n.toInt ≤ z2.toInt)) := hw
              refine lv_if_ne (tgt := 105) hx hb dX8_copy_95 (by decide) (fun c_115 => ?_) (fun c_115 => ?_)
              · skip
                have tc_115 : ¬ r_114.toInt = 0 := fun h => c_115 ((fa_eq _ _).mpr h)
                refine lv_aload hx hb dX8_copy_105 (lv_at hl 1 rfl) ?_
                refine va_getN (D := (dC, dI)) (ci := 0) (v := .ref n0) (C := RX2) (T := TX2) (N := 3) hx hb hts inX2 hown hK hP 3 rfl rfl 2 (by decide) (ev_nest hev 23 rfl) (fun _ h9 => h9) rfl dX8_copy_107 ?_
                refine lv_iload_n hx hb dX8_copy_110 rfl (lv_at hl 4 rfl) ?_
                refine lv_aload hx hb dX8_copy_111 (lv_at hl 0 rfl) ?_
                refine va_getN (D := (dC, dI)) (ci := 0) (v := .ref n2) (C := RX2) (T := TX2) (N := 3) hx hb hts inX2 hown hK hP 7 rfl rfl 2 (by decide) (ev_nest hev 23 rfl) (fun _ h9 => h9) rfl dX8_copy_113 ?_
                refine lv_iload hx hb dX8_copy_116 (lv_at hl 6 rfl) ?_
                refine lv_iload hx hb dX8_copy_118 (lv_at hl 7 rfl) ?_
                refine va_copyl (ty := .long) hx hb (by rw [hml]; exact hl.1.symm) hown (hts _ (List.mem_of_getElem? (i := 25) rfl)) (hts _ (List.mem_of_getElem? (i := 26) rfl)) (hts _ (List.mem_of_getElem? (i := 27) rfl)) (hts _ (List.mem_of_getElem? (i := 28) rfl)) hK hP hD hS 4 8 2 4 rfl rfl rfl rfl rfl (fun h => absurd ((fa_lt _ _).mp h) (by show ¬ i.toInt < 0; omega)) (fun h => absurd ((fa_lt _ _).mp h) (by show ¬ j.toInt < 0; omega)) (fun h => absurd ((fa_lt _ _).mp h) (by show ¬ n.toInt < 0; omega)) (by show i.toInt.toNat + n.toInt.toNat ≤ 40; omega) (by show j.toInt.toNat + n.toInt.toNat ≤ 40; omega) (fun _ _ => rfl) (Nat.le_of_ble_eq_true rfl) (Nat.le_of_ble_eq_true rfl) dX8_copy_120 (fun H locs hP hD hS => ?_)
                generalize va_cpy g0 g2 i.toNatClampNeg j.toNatClampNeg n.toNatClampNeg = f_116 at hP hD
                have hP : va_P (dC, dI) vwCl [(h0, .inr (6, [v0, v1, v2, v3, v4, .ref ph, .ref t0, v7])), (t0, .inl (tc, 7, .inl tf)), (ph, .inl (pc, 4, .inr (.inr (.inr (.inr pf))))), (p0, .inr (0, [.int b0, .int z0, .ref n0])), (n0, .inl (nc0, 40, .inr (.inl g0))), (p1, .inr (0, [.int b1, .int z1, .ref n1])), (n1, .inl (nc1, 40, .inr (.inl g1))), (p2, .inr (0, [.int b2, .int z2, .ref n2])), (n2, .inl (nc2, 40, .inr (.inl f_116))), (p3, .inr (0, [.int b3, .int z3, .ref n3])), (n3, .inl (nc3, 40, .inr (.inl g3)))] H := hP
                have hD : va_D A [(h0, .inr (6, [v0, v1, v2, v3, v4, .ref ph, .ref t0, v7])), (t0, .inl (tc, 7, .inl tf)), (ph, .inl (pc, 4, .inr (.inr (.inr (.inr pf))))), (p0, .inr (0, [.int b0, .int z0, .ref n0])), (n0, .inl (nc0, 40, .inr (.inl g0))), (p1, .inr (0, [.int b1, .int z1, .ref n1])), (n1, .inl (nc1, 40, .inr (.inl g1))), (p2, .inr (0, [.int b2, .int z2, .ref n2])), (n2, .inl (nc2, 40, .inr (.inl f_116))), (p3, .inr (0, [.int b3, .int z3, .ref n3])), (n3, .inl (nc3, 40, .inr (.inl g3)))] := hD
                refine lv_iload hx hb dX8_copy_123 (lv_at hl 7 rfl) ?_
                have hP9 := hP.sub (ws' := [(h0, .inr (6, [v0, v1, v2, v3, v4, .ref ph, .ref t0, v7])), (t0, .inl (tc, 7, .inl tf)), (ph, .inl (pc, 4, .inr (.inr (.inr (.inr pf))))), (p0, .inr (0, [.int b0, .int z0, .ref n0])), (n0, .inl (nc0, 40, .inr (.inl g0))), (p1, .inr (0, [.int b1, .int z1, .ref n1])), (n1, .inl (nc1, 40, .inr (.inl g1))), (p2, .inr (0, [.int b2, .int z2, .ref n2])), (n2, .inl (nc2, 40, .inr (.inl f_116))), (p3, .inr (0, [.int b3, .int z3, .ref n3])), (n3, .inl (nc3, 40, .inr (.inl g3)))]) [0, 1, 2, 3, 4, 5, 6, 7, 8, 9, 10] rfl
                have hD9 := hD.sub (ws' := [(h0, .inr (6, [v0, v1, v2, v3, v4, .ref ph, .ref t0, v7])), (t0, .inl (tc, 7, .inl tf)), (ph, .inl (pc, 4, .inr (.inr (.inr (.inr pf))))), (p0, .inr (0, [.int b0, .int z0, .ref n0])), (n0, .inl (nc0, 40, .inr (.inl g0))), (p1, .inr (0, [.int b1, .int z1, .ref n1])), (n1, .inl (nc1, 40, .inr (.inl g1))), (p2, .inr (0, [.int b2, .int z2, .ref n2])), (n2, .inl (nc2, 40, .inr (.inl f_116))), (p3, .inr (0, [.int b3, .int z3, .ref n3])), (n3, .inl (nc3, 40, .inr (.inl g3)))]) [0, 1, 2, 3, 4, 5, 6, 7, 8, 9, 10] (by decide) rfl
                have hK9 := hK.sub (tys' := [(tc, .int), (pc, .object "LampShapes$Paper"), (nc0, .long), (nc1, .long), (nc2, .long), (nc3, .long)]) [0, 1, 2, 3, 4, 5] rfl
                exact W.iret (v := n) hx hb hr (fun t ht hW => ⟨⟨n, (), rfl, trivial, tf, g0, g1, f_116, g3, by rw [ht]; exact hP9, va_K.moved hW.alike hK9, hD9⟩, hS.F ht⟩) hS.2.2 dX8_copy_125
              · skip
                have tc_115 : r_114.toInt = 0 := (fa_eq _ _).mp c_115
                refine lv_aload_n hx hb dX8_copy_98 rfl (lv_at hl 2 rfl) ?_
                refine lv_ldc hx hb hown (hts _ (List.mem_of_getElem? (i := 6) rfl)) dX8_copy_99 ?_
                have hPc := hP.sub (ws' := [(h0, .inr (6, [v0, v1, v2, v3, v4, .ref ph, .ref t0, v7])), (t0, .inl (tc, 7, .inl tf))]) [0, 1] rfl
                have hKc := hK.sub (tys' := [(tc, .int)]) [0] rfl
                have hDc := hD.sub (ws' := [(h0, .inr (6, [v0, v1, v2, v3, v4, .ref ph, .ref t0, v7])), (t0, .inl (tc, 7, .inl tf))]) [0, 1] (by decide) rfl
                have hFc := va_free (wc := [(h0, .inr (6, [v0, v1, v2, v3, v4, .ref ph, .ref t0, v7])), (t0, .inl (tc, 7, .inl tf))]) hD hS hA [0, 1] rfl
                refine va_calli (va_runV (As := [.int (-1000000001)]) (rest := []) ⟨hx, hb, hml, hown, hts⟩ (f_beyond l dC dI ad h0 v0 v1 v2 v3 v4 (.ref ph) t0 v7 tc tf s.heap.size ) (cwV 1 hts g_x_copy_f_beyond_63 rfl rfl rfl (by decide +kernel) ⟨(Nat.le_of_ble_eq_true rfl), (Nat.le_of_ble_eq_true rfl)⟩) ⟨preM_blind, va_recv hKc hPc (ci := 6) (q0 := 0) rfl rfl, fun U hU hW => ⟨rfl, preM_at hU hW hPc hKc hDc hev⟩⟩ rfl rfl hl.1 rfl (lv_room (Nat.le_of_ble_eq_true rfl)) dX8_copy_101 ⟨(Nat.le_of_ble_eq_true rfl), (Nat.le_of_ble_eq_true rfl)⟩) hS (fun q _ h => hFc q h) hFc (fun r_117 u t H1 locs ht hvm hw hB hz1 hk1 hS => ?_)
                obtain ⟨tg_118, hP1, hK1, hD1⟩ := hB
                rw [ht] at hP1
                have hK1 := va_K.moved hvm.symm hK1
                obtain ⟨hP, hD⟩ := va_join (wr := [(ph, .inl (pc, 4, .inr (.inr (.inr (.inr pf))))), (p0, .inr (0, [.int b0, .int z0, .ref n0])), (n0, .inl (nc0, 40, .inr (.inl g0))), (p1, .inr (0, [.int b1, .int z1, .ref n1])), (n1, .inl (nc1, 40, .inr (.inl g1))), (p2, .inr (0, [.int b2, .int z2, .ref n2])), (n2, .inl (nc2, 40, .inr (.inl g2))), (p3, .inr (0, [.int b3, .int z3, .ref n3])), (n3, .inl (nc3, 40, .inr (.inl g3)))]) (w1 := [(h0, .inr (6, [v0, v1, v2, v3, v4, .ref ph, .ref t0, v7])), (t0, .inl (tc, 7, .inl tg_118))]) hP hD [0, 1] [2, 3, 4, 5, 6, 7, 8, 9, 10] rfl rfl (by decide) (by decide) hk1 hFc hP1 hD1
                generalize H1 = H at hP hS ⊢
                have hP : va_P (dC, dI) vwCl [(ph, .inl (pc, 4, .inr (.inr (.inr (.inr pf))))), (p0, .inr (0, [.int b0, .int z0, .ref n0])), (n0, .inl (nc0, 40, .inr (.inl g0))), (p1, .inr (0, [.int b1, .int z1, .ref n1])), (n1, .inl (nc1, 40, .inr (.inl g1))), (p2, .inr (0, [.int b2, .int z2, .ref n2])), (n2, .inl (nc2, 40, .inr (.inl g2))), (p3, .inr (0, [.int b3, .int z3, .ref n3])), (n3, .inl (nc3, 40, .inr (.inl g3))), (h0, .inr (6, [v0, v1, v2, v3, v4, .ref ph, .ref t0, v7])), (t0, .inl (tc, 7, .inl tg_118))] H := hP
                have hD : va_D A [(ph, .inl (pc, 4, .inr (.inr (.inr (.inr pf))))), (p0, .inr (0, [.int b0, .int z0, .ref n0])), (n0, .inl (nc0, 40, .inr (.inl g0))), (p1, .inr (0, [.int b1, .int z1, .ref n1])), (n1, .inl (nc1, 40, .inr (.inl g1))), (p2, .inr (0, [.int b2, .int z2, .ref n2])), (n2, .inl (nc2, 40, .inr (.inl g2))), (p3, .inr (0, [.int b3, .int z3, .ref n3])), (n3, .inl (nc3, 40, .inr (.inl g3))), (h0, .inr (6, [v0, v1, v2, v3, v4, .ref ph, .ref t0, v7])), (t0, .inl (tc, 7, .inl tg_118))] := hD
                subst hw
                have hP9 := hP.sub (ws' := [(h0, .inr (6, [v0, v1, v2, v3, v4, .ref ph, .ref t0, v7])), (t0, .inl (tc, 7, .inl tg_118)), (ph, .inl (pc, 4, .inr (.inr (.inr (.inr pf))))), (p0, .inr (0, [.int b0, .int z0, .ref n0])), (n0, .inl (nc0, 40, .inr (.inl g0))), (p1, .inr (0, [.int b1, .int z1, .ref n1])), (n1, .inl (nc1, 40, .inr (.inl g1))), (p2, .inr (0, [.int b2, .int z2, .ref n2])), (n2, .inl (nc2, 40, .inr (.inl g2))), (p3, .inr (0, [.int b3, .int z3, .ref n3])), (n3, .inl (nc3, 40, .inr (.inl g3)))]) [9, 10, 0, 1, 2, 3, 4, 5, 6, 7, 8] rfl
                have hD9 := hD.sub (ws' := [(h0, .inr (6, [v0, v1, v2, v3, v4, .ref ph, .ref t0, v7])), (t0, .inl (tc, 7, .inl tg_118)), (ph, .inl (pc, 4, .inr (.inr (.inr (.inr pf))))), (p0, .inr (0, [.int b0, .int z0, .ref n0])), (n0, .inl (nc0, 40, .inr (.inl g0))), (p1, .inr (0, [.int b1, .int z1, .ref n1])), (n1, .inl (nc1, 40, .inr (.inl g1))), (p2, .inr (0, [.int b2, .int z2, .ref n2])), (n2, .inl (nc2, 40, .inr (.inl g2))), (p3, .inr (0, [.int b3, .int z3, .ref n3])), (n3, .inl (nc3, 40, .inr (.inl g3)))]) [9, 10, 0, 1, 2, 3, 4, 5, 6, 7, 8] (by decide) rfl
                have hK9 := hK.sub (tys' := [(tc, .int), (pc, .object "LampShapes$Paper"), (nc0, .long), (nc1, .long), (nc2, .long), (nc3, .long)]) [0, 1, 2, 3, 4, 5] rfl
                exact W.iret (v := ((-1000000001) : Int32)) hx hb hr (fun t ht hW => ⟨⟨((-1000000001) : Int32), (), rfl, trivial, tg_118, g0, g1, g2, g3, by rw [ht]; exact hP9, va_K.moved hW.alike hK9, hD9⟩, hS.F ht⟩) hS.2.2 dX8_copy_104
          · skip
            have tc_109 : ¬ b0.toInt = b2.toInt := fun h => c_109 ((fa_eq _ _).mpr h)
            refine lv_aload_n hx hb dX8_copy_68 rfl (lv_at hl 2 rfl) ?_
            refine lv_ldc hx hb hown (hts _ (List.mem_of_getElem? (i := 29) rfl)) dX8_copy_69 ?_
            have hPc := hP.sub (ws' := [(h0, .inr (6, [v0, v1, v2, v3, v4, .ref ph, .ref t0, v7])), (t0, .inl (tc, 7, .inl tf))]) [0, 1] rfl
            have hKc := hK.sub (tys' := [(tc, .int)]) [0] rfl
            have hDc := hD.sub (ws' := [(h0, .inr (6, [v0, v1, v2, v3, v4, .ref ph, .ref t0, v7])), (t0, .inl (tc, 7, .inl tf))]) [0, 1] (by decide) rfl
            have hFc := va_free (wc := [(h0, .inr (6, [v0, v1, v2, v3, v4, .ref ph, .ref t0, v7])), (t0, .inl (tc, 7, .inl tf))]) hD hS hA [0, 1] rfl
            refine va_calli (va_runV (As := [.int (-1000000003)]) (rest := []) ⟨hx, hb, hml, hown, hts⟩ (f_kind l dC dI ad h0 v0 v1 v2 v3 v4 (.ref ph) t0 v7 tc tf s.heap.size ) (cwV 1 hts g_x_copy_f_kind_63 rfl rfl rfl (by decide +kernel) ⟨(Nat.le_of_ble_eq_true rfl), (Nat.le_of_ble_eq_true rfl)⟩) ⟨preM_blind, va_recv hKc hPc (ci := 6) (q0 := 0) rfl rfl, fun U hU hW => ⟨rfl, preM_at hU hW hPc hKc hDc hev⟩⟩ rfl rfl hl.1 rfl (lv_room (Nat.le_of_ble_eq_true rfl)) dX8_copy_71 ⟨(Nat.le_of_ble_eq_true rfl), (Nat.le_of_ble_eq_true rfl)⟩) hS (fun q _ h => hFc q h) hFc (fun r_119 u t H1 locs ht hvm hw hB hz1 hk1 hS => ?_)
            obtain ⟨tg_120, hP1, hK1, hD1⟩ := hB
            rw [ht] at hP1
            have hK1 := va_K.moved hvm.symm hK1
            obtain ⟨hP, hD⟩ := va_join (wr := [(ph, .inl (pc, 4, .inr (.inr (.inr (.inr pf))))), (p0, .inr (0, [.int b0, .int z0, .ref n0])), (n0, .inl (nc0, 40, .inr (.inl g0))), (p1, .inr (0, [.int b1, .int z1, .ref n1])), (n1, .inl (nc1, 40, .inr (.inl g1))), (p2, .inr (0, [.int b2, .int z2, .ref n2])), (n2, .inl (nc2, 40, .inr (.inl g2))), (p3, .inr (0, [.int b3, .int z3, .ref n3])), (n3, .inl (nc3, 40, .inr (.inl g3)))]) (w1 := [(h0, .inr (6, [v0, v1, v2, v3, v4, .ref ph, .ref t0, v7])), (t0, .inl (tc, 7, .inl tg_120))]) hP hD [0, 1] [2, 3, 4, 5, 6, 7, 8, 9, 10] rfl rfl (by decide) (by decide) hk1 hFc hP1 hD1
            generalize H1 = H at hP hS ⊢
            have hP : va_P (dC, dI) vwCl [(ph, .inl (pc, 4, .inr (.inr (.inr (.inr pf))))), (p0, .inr (0, [.int b0, .int z0, .ref n0])), (n0, .inl (nc0, 40, .inr (.inl g0))), (p1, .inr (0, [.int b1, .int z1, .ref n1])), (n1, .inl (nc1, 40, .inr (.inl g1))), (p2, .inr (0, [.int b2, .int z2, .ref n2])), (n2, .inl (nc2, 40, .inr (.inl g2))), (p3, .inr (0, [.int b3, .int z3, .ref n3])), (n3, .inl (nc3, 40, .inr (.inl g3))), (h0, .inr (6, [v0, v1, v2, v3, v4, .ref ph, .ref t0, v7])), (t0, .inl (tc, 7, .inl tg_120))] H := hP
            have hD : va_D A [(ph, .inl (pc, 4, .inr (.inr (.inr (.inr pf))))), (p0, .inr (0, [.int b0, .int z0, .ref n0])), (n0, .inl (nc0, 40, .inr (.inl g0))), (p1, .inr (0, [.int b1, .int z1, .ref n1])), (n1, .inl (nc1, 40, .inr (.inl g1))), (p2, .inr (0, [.int b2, .int z2, .ref n2])), (n2, .inl (nc2, 40, .inr (.inl g2))), (p3, .inr (0, [.int b3, .int z3, .ref n3])), (n3, .inl (nc3, 40, .inr (.inl g3))), (h0, .inr (6, [v0, v1, v2, v3, v4, .ref ph, .ref t0, v7])), (t0, .inl (tc, 7, .inl tg_120))] := hD
            subst hw
            have hP9 := hP.sub (ws' := [(h0, .inr (6, [v0, v1, v2, v3, v4, .ref ph, .ref t0, v7])), (t0, .inl (tc, 7, .inl tg_120)), (ph, .inl (pc, 4, .inr (.inr (.inr (.inr pf))))), (p0, .inr (0, [.int b0, .int z0, .ref n0])), (n0, .inl (nc0, 40, .inr (.inl g0))), (p1, .inr (0, [.int b1, .int z1, .ref n1])), (n1, .inl (nc1, 40, .inr (.inl g1))), (p2, .inr (0, [.int b2, .int z2, .ref n2])), (n2, .inl (nc2, 40, .inr (.inl g2))), (p3, .inr (0, [.int b3, .int z3, .ref n3])), (n3, .inl (nc3, 40, .inr (.inl g3)))]) [9, 10, 0, 1, 2, 3, 4, 5, 6, 7, 8] rfl
            have hD9 := hD.sub (ws' := [(h0, .inr (6, [v0, v1, v2, v3, v4, .ref ph, .ref t0, v7])), (t0, .inl (tc, 7, .inl tg_120)), (ph, .inl (pc, 4, .inr (.inr (.inr (.inr pf))))), (p0, .inr (0, [.int b0, .int z0, .ref n0])), (n0, .inl (nc0, 40, .inr (.inl g0))), (p1, .inr (0, [.int b1, .int z1, .ref n1])), (n1, .inl (nc1, 40, .inr (.inl g1))), (p2, .inr (0, [.int b2, .int z2, .ref n2])), (n2, .inl (nc2, 40, .inr (.inl g2))), (p3, .inr (0, [.int b3, .int z3, .ref n3])), (n3, .inl (nc3, 40, .inr (.inl g3)))]) [9, 10, 0, 1, 2, 3, 4, 5, 6, 7, 8] (by decide) rfl
            have hK9 := hK.sub (tys' := [(tc, .int), (pc, .object "LampShapes$Paper"), (nc0, .long), (nc1, .long), (nc2, .long), (nc3, .long)]) [0, 1, 2, 3, 4, 5] rfl
            exact W.iret (v := ((-1000000003) : Int32)) hx hb hr (fun t ht hW => ⟨⟨((-1000000003) : Int32), (), rfl, trivial, tg_120, g0, g1, g2, g3, by rw [ht]; exact hP9, va_K.moved hW.alike hK9, hD9⟩, hS.F ht⟩) hS.2.2 dX8_copy_74
        · skip
          have tc_108 : ¬ r_107.toInt = 0 := fun h => c_108 ((fa_eq _ _).mpr h)
          refine lv_aload_n hx hb dX8_copy_47 rfl (lv_at hl 2 rfl) ?_
          refine lv_ldcw hx hb hown (hts _ (List.mem_of_getElem? (i := 19) rfl)) dX8_copy_48 ?_
          have hPc := hP.sub (ws' := [(h0, .inr (6, [v0, v1, v2, v3, v4, .ref ph, .ref t0, v7])), (t0, .inl (tc, 7, .inl tf))]) [0, 1] rfl
          have hKc := hK.sub (tys' := [(tc, .int)]) [0] rfl
          have hDc := hD.sub (ws' := [(h0, .inr (6, [v0, v1, v2, v3, v4, .ref ph, .ref t0, v7])), (t0, .inl (tc, 7, .inl tf))]) [0, 1] (by decide) rfl
          have hFc := va_free (wc := [(h0, .inr (6, [v0, v1, v2, v3, v4, .ref ph, .ref t0, v7])), (t0, .inl (tc, 7, .inl tf))]) hD hS hA [0, 1] rfl
          refine va_calli (va_runV (As := [.int (-1000000006)]) (rest := []) ⟨hx, hb, hml, hown, hts⟩ (f_missing l dC dI ad h0 v0 v1 v2 v3 v4 (.ref ph) t0 v7 tc tf s.heap.size ) (cwV 1 hts g_x_copy_f_missing_63 rfl rfl rfl (by decide +kernel) ⟨(Nat.le_of_ble_eq_true rfl), (Nat.le_of_ble_eq_true rfl)⟩) ⟨preM_blind, va_recv hKc hPc (ci := 6) (q0 := 0) rfl rfl, fun U hU hW => ⟨rfl, preM_at hU hW hPc hKc hDc hev⟩⟩ rfl rfl hl.1 rfl (lv_room (Nat.le_of_ble_eq_true rfl)) dX8_copy_51 ⟨(Nat.le_of_ble_eq_true rfl), (Nat.le_of_ble_eq_true rfl)⟩) hS (fun q _ h => hFc q h) hFc (fun r_121 u t H1 locs ht hvm hw hB hz1 hk1 hS => ?_)
          obtain ⟨tg_122, hP1, hK1, hD1⟩ := hB
          rw [ht] at hP1
          have hK1 := va_K.moved hvm.symm hK1
          obtain ⟨hP, hD⟩ := va_join (wr := [(ph, .inl (pc, 4, .inr (.inr (.inr (.inr pf))))), (p0, .inr (0, [.int b0, .int z0, .ref n0])), (n0, .inl (nc0, 40, .inr (.inl g0))), (p1, .inr (0, [.int b1, .int z1, .ref n1])), (n1, .inl (nc1, 40, .inr (.inl g1))), (p2, .inr (0, [.int b2, .int z2, .ref n2])), (n2, .inl (nc2, 40, .inr (.inl g2))), (p3, .inr (0, [.int b3, .int z3, .ref n3])), (n3, .inl (nc3, 40, .inr (.inl g3)))]) (w1 := [(h0, .inr (6, [v0, v1, v2, v3, v4, .ref ph, .ref t0, v7])), (t0, .inl (tc, 7, .inl tg_122))]) hP hD [0, 1] [2, 3, 4, 5, 6, 7, 8, 9, 10] rfl rfl (by decide) (by decide) hk1 hFc hP1 hD1
          generalize H1 = H at hP hS ⊢
          have hP : va_P (dC, dI) vwCl [(ph, .inl (pc, 4, .inr (.inr (.inr (.inr pf))))), (p0, .inr (0, [.int b0, .int z0, .ref n0])), (n0, .inl (nc0, 40, .inr (.inl g0))), (p1, .inr (0, [.int b1, .int z1, .ref n1])), (n1, .inl (nc1, 40, .inr (.inl g1))), (p2, .inr (0, [.int b2, .int z2, .ref n2])), (n2, .inl (nc2, 40, .inr (.inl g2))), (p3, .inr (0, [.int b3, .int z3, .ref n3])), (n3, .inl (nc3, 40, .inr (.inl g3))), (h0, .inr (6, [v0, v1, v2, v3, v4, .ref ph, .ref t0, v7])), (t0, .inl (tc, 7, .inl tg_122))] H := hP
          have hD : va_D A [(ph, .inl (pc, 4, .inr (.inr (.inr (.inr pf))))), (p0, .inr (0, [.int b0, .int z0, .ref n0])), (n0, .inl (nc0, 40, .inr (.inl g0))), (p1, .inr (0, [.int b1, .int z1, .ref n1])), (n1, .inl (nc1, 40, .inr (.inl g1))), (p2, .inr (0, [.int b2, .int z2, .ref n2])), (n2, .inl (nc2, 40, .inr (.inl g2))), (p3, .inr (0, [.int b3, .int z3, .ref n3])), (n3, .inl (nc3, 40, .inr (.inl g3))), (h0, .inr (6, [v0, v1, v2, v3, v4, .ref ph, .ref t0, v7])), (t0, .inl (tc, 7, .inl tg_122))] := hD
          subst hw
          have hP9 := hP.sub (ws' := [(h0, .inr (6, [v0, v1, v2, v3, v4, .ref ph, .ref t0, v7])), (t0, .inl (tc, 7, .inl tg_122)), (ph, .inl (pc, 4, .inr (.inr (.inr (.inr pf))))), (p0, .inr (0, [.int b0, .int z0, .ref n0])), (n0, .inl (nc0, 40, .inr (.inl g0))), (p1, .inr (0, [.int b1, .int z1, .ref n1])), (n1, .inl (nc1, 40, .inr (.inl g1))), (p2, .inr (0, [.int b2, .int z2, .ref n2])), (n2, .inl (nc2, 40, .inr (.inl g2))), (p3, .inr (0, [.int b3, .int z3, .ref n3])), (n3, .inl (nc3, 40, .inr (.inl g3)))]) [9, 10, 0, 1, 2, 3, 4, 5, 6, 7, 8] rfl
          have hD9 := hD.sub (ws' := [(h0, .inr (6, [v0, v1, v2, v3, v4, .ref ph, .ref t0, v7])), (t0, .inl (tc, 7, .inl tg_122)), (ph, .inl (pc, 4, .inr (.inr (.inr (.inr pf))))), (p0, .inr (0, [.int b0, .int z0, .ref n0])), (n0, .inl (nc0, 40, .inr (.inl g0))), (p1, .inr (0, [.int b1, .int z1, .ref n1])), (n1, .inl (nc1, 40, .inr (.inl g1))), (p2, .inr (0, [.int b2, .int z2, .ref n2])), (n2, .inl (nc2, 40, .inr (.inl g2))), (p3, .inr (0, [.int b3, .int z3, .ref n3])), (n3, .inl (nc3, 40, .inr (.inl g3)))]) [9, 10, 0, 1, 2, 3, 4, 5, 6, 7, 8] (by decide) rfl
          have hK9 := hK.sub (tys' := [(tc, .int), (pc, .object "LampShapes$Paper"), (nc0, .long), (nc1, .long), (nc2, .long), (nc3, .long)]) [0, 1, 2, 3, 4, 5] rfl
          exact W.iret (v := ((-1000000006) : Int32)) hx hb hr (fun t ht hW => ⟨⟨((-1000000006) : Int32), (), rfl, trivial, tg_122, g0, g1, g2, g3, by rw [ht]; exact hP9, va_K.moved hW.alike hK9, hD9⟩, hS.F ht⟩) hS.2.2 dX8_copy_54
    · skip
      refine Met.ofW (cc := cX8_copy) (maxL := 8) (ret := (some .int)) (by decide) rfl ?_
      intro p e s m args below meth c s₁ B hml hv
      obtain ⟨rfl, hsz, hP, hK, hD0, hev⟩ := hv
      have hx := B.exec
      have hb := B.bytes
      have hr := B.returns
      have hts := atoms_spec (ws := w_x_copy) B.pre
      have hown : s.vm.findClass RX8 = some m.cls := findClass_of_methodNamed B.named
      have hlocks := B.notSynchronized
      have inX8 : ∀ w ∈ wsX80, w ∈ w_x_copy := fun w h => List.mem_cons_of_mem _ (List.mem_append_left _ (List.mem_append_right _ h))
      have inX2 : ∀ w ∈ wsX20, w ∈ w_x_copy := fun w h => List.mem_cons_of_mem _ (List.mem_append_right _ h)
      subst hsz
      have hD := hD0.self (sz := s.heap.size)
      generalize hAe : va_A [(h0, .inr (6, [v0, v1, v2, v3, v4, .ref ph, .ref t0, v7])), (t0, .inl (tc, 7, .inl tf)), (ph, .inl (pc, 4, .inr (.inr (.inr (.inr pf))))), (p0, .inr (0, [.int b0, .int z0, .ref n0])), (n0, .inl (nc0, 40, .inr (.inl g0))), (p1, .inr (0, [.int b1, .int z1, .ref n1])), (n1, .inl (nc1, 40, .inr (.inl g1))), (p2, .inr (0, [.int b2, .int z2, .ref n2])), (n2, .inl (nc2, 40, .inr (.inl g2))), (p3, .inr (0, [.int b3, .int z3, .ref n3])), (n3, .inl (nc3, 40, .inr (.inl g3)))] s.heap.size = A at hD ⊢
      have hA : ∀ q : Nat, s.heap.size ≤ q → A q := fun q h => by rw [← hAe]; exact Or.inr h
      have hS : va_S A s.heap s.heap [] := va_S.rf
      have hP : va_P (dC, dI) vwCl [(h0, .inr (6, [v0, v1, v2, v3, v4, .ref ph, .ref t0, v7])), (t0, .inl (tc, 7, .inl tf)), (ph, .inl (pc, 4, .inr (.inr (.inr (.inr pf))))), (p0, .inr (0, [.int b0, .int z0, .ref n0])), (n0, .inl (nc0, 40, .inr (.inl g0))), (p1, .inr (0, [.int b1, .int z1, .ref n1])), (n1, .inl (nc1, 40, .inr (.inl g1))), (p2, .inr (0, [.int b2, .int z2, .ref n2])), (n2, .inl (nc2, 40, .inr (.inl g2))), (p3, .inr (0, [.int b3, .int z3, .ref n3])), (n3, .inl (nc3, 40, .inr (.inl g3)))] s.heap := hP
      have hl := lv_entry ([.ref h0, .int 0, .int i, .int 3, .int j, .int n]) (n := 8) (Nat.le_of_ble_eq_true rfl)
      rw [lg_entry_eq]
      generalize (lg_sl ([.ref h0, .int 0, .int i, .int 3, .int j, .int n]) ++ List.replicate (8 - (lg_sl ([.ref h0, .int 0, .int i, .int 3, .int j, .int n])).length) Slot.unset).toArray = ls at hl ⊢
      have hl : lv_has ls 8 [(0, .ref h0), (1, .int 0), (2, .int i), (3, .int 3), (4, .int j), (5, .int n)] := hl
      refine lv_aload_n hx hb dX8_copy_0 rfl (lv_at hl 0 rfl) ?_
      refine lv_iload_n hx hb dX8_copy_1 rfl (lv_at hl 1 rfl) ?_
      have hPc := hP.sub (ws' := [(h0, .inr (6, [v0, v1, v2, v3, v4, .ref ph, .ref t0, v7])), (ph, .inl (pc, 4, .inr (.inr (.inr (.inr pf)))))]) [0, 2] rfl
      have hKc := hK.sub (tys' := [(pc, .object "LampShapes$Paper")]) [1] rfl
      refine va_csq (W.runV (As := [.int 0]) (rest := []) ⟨hx, hb, hml, hown, hts⟩ (c_paperAt_0 l dC dI ad h0 v0 v1 v2 v3 v4 ph (.ref t0) v7 pc pf p0 hp0) (cwV 1 hts g_x_copy_c_paperAt_0_256 rfl rfl rfl (by decide +kernel) ⟨(Nat.le_of_ble_eq_true rfl), (Nat.le_of_ble_eq_true rfl)⟩) ⟨preS_blind, va_recv hKc hPc (ci := 6) (q0 := 0) rfl rfl, fun U hU hW => ⟨rfl, preS_at hU hW hPc hKc hev⟩⟩ rfl rfl hl.1 rfl (lv_room (Nat.le_of_ble_eq_true rfl)) dX8_copy_2 ⟨(Nat.le_of_ble_eq_true rfl), (Nat.le_of_ble_eq_true rfl)⟩) (fun r_123 hw => ?_)
      subst hw
      refine pp_tv (y := .ref p0) rfl ?_
      refine lv_astore (lv' := [(6, .ref p0), (0, .ref h0), (1, .int 0), (2, .int i), (3, .int 3), (4, .int j), (5, .int n)]) hx hb dX8_copy_5 hl (by decide) rfl (fun ls hl => ?_)
      refine lv_aload_n hx hb dX8_copy_7 rfl (lv_at hl 1 rfl) ?_
      refine lv_iload_n hx hb dX8_copy_8 rfl (lv_at hl 4 rfl) ?_
      have hPc := hP.sub (ws' := [(h0, .inr (6, [v0, v1, v2, v3, v4, .ref ph, .ref t0, v7])), (ph, .inl (pc, 4, .inr (.inr (.inr (.inr pf)))))]) [0, 2] rfl
      have hKc := hK.sub (tys' := [(pc, .object "LampShapes$Paper")]) [1] rfl
      refine va_csq (W.runV (As := [.int 3]) (rest := []) ⟨hx, hb, hml, hown, hts⟩ (c_paperAt_3 l dC dI ad h0 v0 v1 v2 v3 v4 ph (.ref t0) v7 pc pf p3 hp3) (cwV 1 hts g_x_copy_c_paperAt_3_256 rfl rfl rfl (by decide +kernel) ⟨(Nat.le_of_ble_eq_true rfl), (Nat.le_of_ble_eq_true rfl)⟩) ⟨preS_blind, va_recv hKc hPc (ci := 6) (q0 := 0) rfl rfl, fun U hU hW => ⟨rfl, preS_at hU hW hPc hKc hev⟩⟩ rfl rfl hl.1 rfl (lv_room (Nat.le_of_ble_eq_true rfl)) dX8_copy_9 ⟨(Nat.le_of_ble_eq_true rfl), (Nat.le_of_ble_eq_true rfl)⟩) (fun r_124 hw => ?_)
      subst hw
      refine pp_tv (y := .ref p3) rfl ?_
      refine lv_astore (lv' := [(7, .ref p3), (6, .ref p0), (0, .ref h0), (1, .int 0), (2, .int i), (3, .int 3), (4, .int j), (5, .int n)]) hx hb dX8_copy_12 hl (by decide) rfl (fun ls hl => ?_)
      refine lv_aload hx hb dX8_copy_14 (lv_at hl 1 rfl) ?_
      refine lv_ifnull hx hb dX8_copy_16 ?_
      refine lv_aload hx hb dX8_copy_19 (lv_at hl 0 rfl) ?_
      refine lv_ifnonnull (tgt := 31) hx hb dX8_copy_21 (by decide) ?_
      refine lv_aload hx hb dX8_copy_31 (lv_at hl 1 rfl) ?_
      have hPc := hP.sub (ws' := [(p0, .inr (0, [.int b0, .int z0, .ref n0]))]) [3] rfl
      have hKc := hK.sub (tys' := []) [] rfl
      refine vp_callSi (W.runV (As := []) (rest := []) ⟨hx, hb, hml, hown, hts⟩ (p_isMissing l dC dI ad p0 b0 (.int z0) (.ref n0) ) (cwV 0 hts g_x_copy_p_isMissing_268 rfl rfl rfl (by decide +kernel) ⟨(Nat.le_of_ble_eq_true rfl), (Nat.le_of_ble_eq_true rfl)⟩) ⟨preS_blind, va_recv hKc hPc (ci := 0) (q0 := 0) rfl rfl, fun U hU hW => ⟨rfl, preS_at hU hW hPc hKc hev⟩⟩ rfl rfl hl.1 rfl (lv_room (Nat.le_of_ble_eq_true rfl)) dX8_copy_33 ⟨(Nat.le_of_ble_eq_true rfl), (Nat.le_of_ble_eq_true rfl)⟩) (fun r_125 hw => ?_)
      have hr_125 : (r_125.toInt = 1 ∧ b0.toInt = 0) ∨ (r_125.toInt = 0 ∧ ¬ b0.toInt = 0) := hw
      refine lv_if_ne (tgt := 47) hx hb dX8_copy_36 (by decide) (fun c_126 => ?_) (fun c_126 => ?_)
      · skip
        have tc_126 : ¬ r_125.toInt = 0 := fun h => c_126 ((fa_eq _ _).mpr h)
        refine lv_aload_n hx hb dX8_copy_47 rfl (lv_at hl 2 rfl) ?_
        refine lv_ldcw hx hb hown (hts _ (List.mem_of_getElem? (i := 19) rfl)) dX8_copy_48 ?_
        have hPc := hP.sub (ws' := [(h0, .inr (6, [v0, v1, v2, v3, v4, .ref ph, .ref t0, v7])), (t0, .inl (tc, 7, .inl tf))]) [0, 1] rfl
        have hKc := hK.sub (tys' := [(tc, .int)]) [0] rfl
        have hDc := hD.sub (ws' := [(h0, .inr (6, [v0, v1, v2, v3, v4, .ref ph, .ref t0, v7])), (t0, .inl (tc, 7, .inl tf))]) [0, 1] (by decide) rfl
        have hFc := va_free (wc := [(h0, .inr (6, [v0, v1, v2, v3, v4, .ref ph, .ref t0, v7])), (t0, .inl (tc, 7, .inl tf))]) hD hS hA [0, 1] rfl
        refine va_calli (va_runV (As := [.int (-1000000006)]) (rest := []) ⟨hx, hb, hml, hown, hts⟩ (f_missing l dC dI ad h0 v0 v1 v2 v3 v4 (.ref ph) t0 v7 tc tf s.heap.size ) (cwV 1 hts g_x_copy_f_missing_63 rfl rfl rfl (by decide +kernel) ⟨(Nat.le_of_ble_eq_true rfl), (Nat.le_of_ble_eq_true rfl)⟩) ⟨preM_blind, va_recv hKc hPc (ci := 6) (q0 := 0) rfl rfl, fun U hU hW => ⟨rfl, preM_at hU hW hPc hKc hDc hev⟩⟩ rfl rfl hl.1 rfl (lv_room (Nat.le_of_ble_eq_true rfl)) dX8_copy_51 ⟨(Nat.le_of_ble_eq_true rfl), (Nat.le_of_ble_eq_true rfl)⟩) hS (fun q _ h => hFc q h) hFc (fun r_127 u t H1 locs ht hvm hw hB hz1 hk1 hS => ?_)
        obtain ⟨tg_128, hP1, hK1, hD1⟩ := hB
        rw [ht] at hP1
        have hK1 := va_K.moved hvm.symm hK1
        obtain ⟨hP, hD⟩ := va_join (wr := [(ph, .inl (pc, 4, .inr (.inr (.inr (.inr pf))))), (p0, .inr (0, [.int b0, .int z0, .ref n0])), (n0, .inl (nc0, 40, .inr (.inl g0))), (p1, .inr (0, [.int b1, .int z1, .ref n1])), (n1, .inl (nc1, 40, .inr (.inl g1))), (p2, .inr (0, [.int b2, .int z2, .ref n2])), (n2, .inl (nc2, 40, .inr (.inl g2))), (p3, .inr (0, [.int b3, .int z3, .ref n3])), (n3, .inl (nc3, 40, .inr (.inl g3)))]) (w1 := [(h0, .inr (6, [v0, v1, v2, v3, v4, .ref ph, .ref t0, v7])), (t0, .inl (tc, 7, .inl tg_128))]) hP hD [0, 1] [2, 3, 4, 5, 6, 7, 8, 9, 10] rfl rfl (by decide) (by decide) hk1 hFc hP1 hD1
        generalize H1 = H at hP hS ⊢
        have hP : va_P (dC, dI) vwCl [(ph, .inl (pc, 4, .inr (.inr (.inr (.inr pf))))), (p0, .inr (0, [.int b0, .int z0, .ref n0])), (n0, .inl (nc0, 40, .inr (.inl g0))), (p1, .inr (0, [.int b1, .int z1, .ref n1])), (n1, .inl (nc1, 40, .inr (.inl g1))), (p2, .inr (0, [.int b2, .int z2, .ref n2])), (n2, .inl (nc2, 40, .inr (.inl g2))), (p3, .inr (0, [.int b3, .int z3, .ref n3])), (n3, .inl (nc3, 40, .inr (.inl g3))), (h0, .inr (6, [v0, v1, v2, v3, v4, .ref ph, .ref t0, v7])), (t0, .inl (tc, 7, .inl tg_128))] H := hP
        have hD : va_D A [(ph, .inl (pc, 4, .inr (.inr (.inr (.inr pf))))), (p0, .inr (0, [.int b0, .int z0, .ref n0])), (n0, .inl (nc0, 40, .inr (.inl g0))), (p1, .inr (0, [.int b1, .int z1, .ref n1])), (n1, .inl (nc1, 40, .inr (.inl g1))), (p2, .inr (0, [.int b2, .int z2, .ref n2])), (n2, .inl (nc2, 40, .inr (.inl g2))), (p3, .inr (0, [.int b3, .int z3, .ref n3])), (n3, .inl (nc3, 40, .inr (.inl g3))), (h0, .inr (6, [v0, v1, v2, v3, v4, .ref ph, .ref t0, v7])), (t0, .inl (tc, 7, .inl tg_128))] := hD
        subst hw
        have hP9 := hP.sub (ws' := [(h0, .inr (6, [v0, v1, v2, v3, v4, .ref ph, .ref t0, v7])), (t0, .inl (tc, 7, .inl tg_128)), (ph, .inl (pc, 4, .inr (.inr (.inr (.inr pf))))), (p0, .inr (0, [.int b0, .int z0, .ref n0])), (n0, .inl (nc0, 40, .inr (.inl g0))), (p1, .inr (0, [.int b1, .int z1, .ref n1])), (n1, .inl (nc1, 40, .inr (.inl g1))), (p2, .inr (0, [.int b2, .int z2, .ref n2])), (n2, .inl (nc2, 40, .inr (.inl g2))), (p3, .inr (0, [.int b3, .int z3, .ref n3])), (n3, .inl (nc3, 40, .inr (.inl g3)))]) [9, 10, 0, 1, 2, 3, 4, 5, 6, 7, 8] rfl
        have hD9 := hD.sub (ws' := [(h0, .inr (6, [v0, v1, v2, v3, v4, .ref ph, .ref t0, v7])), (t0, .inl (tc, 7, .inl tg_128)), (ph, .inl (pc, 4, .inr (.inr (.inr (.inr pf))))), (p0, .inr (0, [.int b0, .int z0, .ref n0])), (n0, .inl (nc0, 40, .inr (.inl g0))), (p1, .inr (0, [.int b1, .int z1, .ref n1])), (n1, .inl (nc1, 40, .inr (.inl g1))), (p2, .inr (0, [.int b2, .int z2, .ref n2])), (n2, .inl (nc2, 40, .inr (.inl g2))), (p3, .inr (0, [.int b3, .int z3, .ref n3])), (n3, .inl (nc3, 40, .inr (.inl g3)))]) [9, 10, 0, 1, 2, 3, 4, 5, 6, 7, 8] (by decide) rfl
        have hK9 := hK.sub (tys' := [(tc, .int), (pc, .object "LampShapes$Paper"), (nc0, .long), (nc1, .long), (nc2, .long), (nc3, .long)]) [0, 1, 2, 3, 4, 5] rfl
        exact W.iret (v := ((-1000000006) : Int32)) hx hb hr (fun t ht hW => ⟨⟨((-1000000006) : Int32), (), rfl, trivial, tg_128, g0, g1, g2, g3, by rw [ht]; exact hP9, va_K.moved hW.alike hK9, hD9⟩, hS.F ht⟩) hS.2.2 dX8_copy_54
      · skip
        have tc_126 : r_125.toInt = 0 := (fa_eq _ _).mp c_126
        refine lv_aload hx hb dX8_copy_39 (lv_at hl 0 rfl) ?_
        have hPc := hP.sub (ws' := [(p3, .inr (0, [.int b3, .int z3, .ref n3]))]) [9] rfl
        have hKc := hK.sub (tys' := []) [] rfl
        refine vp_callSi (W.runV (As := []) (rest := []) ⟨hx, hb, hml, hown, hts⟩ (p_isMissing l dC dI ad p3 b3 (.int z3) (.ref n3) ) (cwV 0 hts g_x_copy_p_isMissing_268 rfl rfl rfl (by decide +kernel) ⟨(Nat.le_of_ble_eq_true rfl), (Nat.le_of_ble_eq_true rfl)⟩) ⟨preS_blind, va_recv hKc hPc (ci := 0) (q0 := 0) rfl rfl, fun U hU hW => ⟨rfl, preS_at hU hW hPc hKc hev⟩⟩ rfl rfl hl.1 rfl (lv_room (Nat.le_of_ble_eq_true rfl)) dX8_copy_41 ⟨(Nat.le_of_ble_eq_true rfl), (Nat.le_of_ble_eq_true rfl)⟩) (fun r_129 hw => ?_)
        have hr_129 : (r_129.toInt = 1 ∧ b3.toInt = 0) ∨ (r_129.toInt = 0 ∧ ¬ b3.toInt = 0) := hw
        refine lv_if_eq (tgt := 55) hx hb dX8_copy_44 (by decide) (fun c_130 => ?_) (fun c_130 => ?_)
        · skip
          have tc_130 : r_129.toInt = 0 := (fa_eq _ _).mp c_130
          refine lv_aload hx hb dX8_copy_55 (lv_at hl 1 rfl) ?_
          refine va_getN (D := (dC, dI)) (ci := 0) (v := .int b0) (C := RX2) (T := TX2) (N := 3) hx hb hts inX2 hown hK hP 3 rfl rfl 0 (by decide) (ev_nest hev 21 rfl) (fun _ h9 => h9) rfl dX8_copy_57 ?_
          refine lv_aload hx hb dX8_copy_60 (lv_at hl 0 rfl) ?_
          refine va_getN (D := (dC, dI)) (ci := 0) (v := .int b3) (C := RX2) (T := TX2) (N := 3) hx hb hts inX2 hown hK hP 9 rfl rfl 0 (by decide) (ev_nest hev 21 rfl) (fun _ h9 => h9) rfl dX8_copy_62 ?_
          have rc_131_x := pp_rng b0
          have rc_131_y := pp_rng b3
          refine lv_icmp_eq (tgt := 75) hx hb dX8_copy_65 (by decide) (fun c_131 => ?_) (fun c_131 => ?_)
          · skip
            have tc_131 : b0.toInt = b3.toInt := (fa_eq _ _).mp c_131
            refine lv_aload hx hb dX8_copy_75 (lv_at hl 1 rfl) ?_
            refine lv_iload_n hx hb dX8_copy_77 rfl (lv_at hl 4 rfl) ?_
            refine lv_iload hx hb dX8_copy_78 (lv_at hl 7 rfl) ?_
            have hPc := hP.sub (ws' := [(p0, .inr (0, [.int b0, .int z0, .ref n0]))]) [3] rfl
            have hKc := hK.sub (tys' := []) [] rfl
            refine vp_callSi (W.runV (As := [.int i, .int n]) (rest := []) ⟨hx, hb, hml, hown, hts⟩ (p_hasPart l dC dI ad p0 i n (.int b0) z0 (.ref n0) hz0) (cwV 2 hts g_x_copy_p_hasPart_282 rfl rfl rfl (by decide +kernel) ⟨(Nat.le_of_ble_eq_true rfl), (Nat.le_of_ble_eq_true rfl)⟩) ⟨preS_blind, va_recv hKc hPc (ci := 0) (q0 := 0) rfl rfl, fun U hU hW => ⟨rfl, preS_at hU hW hPc hKc hev⟩⟩ rfl rfl hl.1 rfl (lv_room (Nat.le_of_ble_eq_true rfl)) dX8_copy_80 ⟨(Nat.le_of_ble_eq_true rfl), (Nat.le_of_ble_eq_true rfl)⟩) (fun r_132 hw => ?_)
            have hr_132 : (r_132.toInt = 1 ∧ 0 ≤ i.toInt ∧ 0 ≤ n.toInt ∧ i.toInt + n.toInt ≤ z0.toInt) ∨ (r_132.toInt = 0 ∧ ¬ (0 ≤ i.toInt ∧ 0 ≤ n.toInt ∧ i.toInt + n.toInt ≤ z0.toInt)) := hw
            refine lv_if_eq (tgt := 98) hx hb dX8_copy_83 (by decide) (fun c_133 => ?_) (fun c_133 => ?_)
            · skip
              have tc_133 : r_132.toInt = 0 := (fa_eq _ _).mp c_133
              refine lv_aload_n hx hb dX8_copy_98 rfl (lv_at hl 2 rfl) ?_
              refine lv_ldc hx hb hown (hts _ (List.mem_of_getElem? (i := 6) rfl)) dX8_copy_99 ?_
              have hPc := hP.sub (ws' := [(h0, .inr (6, [v0, v1, v2, v3, v4, .ref ph, .ref t0, v7])), (t0, .inl (tc, 7, .inl tf))]) [0, 1] rfl
              have hKc := hK.sub (tys' := [(tc, .int)]) [0] rfl
              have hDc := hD.sub (ws' := [(h0, .inr (6, [v0, v1, v2, v3, v4, .ref ph, .ref t0, v7])), (t0, .inl (tc, 7, .inl tf))]) [0, 1] (by decide) rfl
              have hFc := va_free (wc := [(h0, .inr (6, [v0, v1, v2, v3, v4, .ref ph, .ref t0, v7])), (t0, .inl (tc, 7, .inl tf))]) hD hS hA [0, 1] rfl
              refine va_calli (va_runV (As := [.int (-1000000001)]) (rest := []) ⟨hx, hb, hml, hown, hts⟩ (f_beyond l dC dI ad h0 v0 v1 v2 v3 v4 (.ref ph) t0 v7 tc tf s.heap.size ) (cwV 1 hts g_x_copy_f_beyond_63 rfl rfl rfl (by decide +kernel) ⟨(Nat.le_of_ble_eq_true rfl), (Nat.le_of_ble_eq_true rfl)⟩) ⟨preM_blind, va_recv hKc hPc (ci := 6) (q0 := 0) rfl rfl, fun U hU hW => ⟨rfl, preM_at hU hW hPc hKc hDc hev⟩⟩ rfl rfl hl.1 rfl (lv_room (Nat.le_of_ble_eq_true rfl)) dX8_copy_101 ⟨(Nat.le_of_ble_eq_true rfl), (Nat.le_of_ble_eq_true rfl)⟩) hS (fun q _ h => hFc q h) hFc (fun r_134 u t H1 locs ht hvm hw hB hz1 hk1 hS => ?_)
              obtain ⟨tg_135, hP1, hK1, hD1⟩ := hB
              rw [ht] at hP1
              have hK1 := va_K.moved hvm.symm hK1
              obtain ⟨hP, hD⟩ := va_join (wr := [(ph, .inl (pc, 4, .inr (.inr (.inr (.inr pf))))), (p0, .inr (0, [.int b0, .int z0, .ref n0])), (n0, .inl (nc0, 40, .inr (.inl g0))), (p1, .inr (0, [.int b1, .int z1, .ref n1])), (n1, .inl (nc1, 40, .inr (.inl g1))), (p2, .inr (0, [.int b2, .int z2, .ref n2])), (n2, .inl (nc2, 40, .inr (.inl g2))), (p3, .inr (0, [.int b3, .int z3, .ref n3])), (n3, .inl (nc3, 40, .inr (.inl g3)))]) (w1 := [(h0, .inr (6, [v0, v1, v2, v3, v4, .ref ph, .ref t0, v7])), (t0, .inl (tc, 7, .inl tg_135))]) hP hD [0, 1] [2, 3, 4, 5, 6, 7, 8, 9, 10] rfl rfl (by decide) (by decide) hk1 hFc hP1 hD1
              generalize H1 = H at hP hS ⊢
              have hP : va_P (dC, dI) vwCl [(ph, .inl (pc, 4, .inr (.inr (.inr (.inr pf))))), (p0, .inr (0, [.int b0, .int z0, .ref n0])), (n0, .inl (nc0, 40, .inr (.inl g0))), (p1, .inr (0, [.int b1, .int z1, .ref n1])), (n1, .inl (nc1, 40, .inr (.inl g1))), (p2, .inr (0, [.int b2, .int z2, .ref n2])), (n2, .inl (nc2, 40, .inr (.inl g2))), (p3, .inr (0, [.int b3, .int z3, .ref n3])), (n3, .inl (nc3, 40, .inr (.inl g3))), (h0, .inr (6, [v0, v1, v2, v3, v4, .ref ph, .ref t0, v7])), (t0, .inl (tc, 7, .inl tg_135))] H := hP
              have hD : va_D A [(ph, .inl (pc, 4, .inr (.inr (.inr (.inr pf))))), (p0, .inr (0, [.int b0, .int z0, .ref n0])), (n0, .inl (nc0, 40, .inr (.inl g0))), (p1, .inr (0, [.int b1, .int z1, .ref n1])), (n1, .inl (nc1, 40, .inr (.inl g1))), (p2, .inr (0, [.int b2, .int z2, .ref n2])), (n2, .inl (nc2, 40, .inr (.inl g2))), (p3, .inr (0, [.int b3, .int z3, .ref n3])), (n3, .inl (nc3, 40, .inr (.inl g3))), (h0, .inr (6, [v0, v1, v2, v3, v4, .ref ph, .ref t0, v7])), (t0, .inl (tc, 7, .inl tg_135))] := hD
              subst hw
              have hP9 := hP.sub (ws' := [(h0, .inr (6, [v0, v1, v2, v3, v4, .ref ph, .ref t0, v7])), (t0, .inl (tc, 7, .inl tg_135)), (ph, .inl (pc, 4, .inr (.inr (.inr (.inr pf))))), (p0, .inr (0, [.int b0, .int z0, .ref n0])), (n0, .inl (nc0, 40, .inr (.inl g0))), (p1, .inr (0, [.int b1, .int z1, .ref n1])), (n1, .inl (nc1, 40, .inr (.inl g1))), (p2, .inr (0, [.int b2, .int z2, .ref n2])), (n2, .inl (nc2, 40, .inr (.inl g2))), (p3, .inr (0, [.int b3, .int z3, .ref n3])), (n3, .inl (nc3, 40, .inr (.inl g3)))]) [9, 10, 0, 1, 2, 3, 4, 5, 6, 7, 8] rfl
              have hD9 := hD.sub (ws' := [(h0, .inr (6, [v0, v1, v2, v3, v4, .ref ph, .ref t0, v7])), (t0, .inl (tc, 7, .inl tg_135)), (ph, .inl (pc, 4, .inr (.inr (.inr (.inr pf))))), (p0, .inr (0, [.int b0, .int z0, .ref n0])), (n0, .inl (nc0, 40, .inr (.inl g0))), (p1, .inr (0, [.int b1, .int z1, .ref n1])), (n1, .inl (nc1, 40, .inr (.inl g1))), (p2, .inr (0, [.int b2, .int z2, .ref n2])), (n2, .inl (nc2, 40, .inr (.inl g2))), (p3, .inr (0, [.int b3, .int z3, .ref n3])), (n3, .inl (nc3, 40, .inr (.inl g3)))]) [9, 10, 0, 1, 2, 3, 4, 5, 6, 7, 8] (by decide) rfl
              have hK9 := hK.sub (tys' := [(tc, .int), (pc, .object "LampShapes$Paper"), (nc0, .long), (nc1, .long), (nc2, .long), (nc3, .long)]) [0, 1, 2, 3, 4, 5] rfl
              exact W.iret (v := ((-1000000001) : Int32)) hx hb hr (fun t ht hW => ⟨⟨((-1000000001) : Int32), (), rfl, trivial, tg_135, g0, g1, g2, g3, by rw [ht]; exact hP9, va_K.moved hW.alike hK9, hD9⟩, hS.F ht⟩) hS.2.2 dX8_copy_104
            · skip
              have tc_133 : ¬ r_132.toInt = 0 := fun h => c_133 ((fa_eq _ _).mpr h)
              refine lv_aload hx hb dX8_copy_86 (lv_at hl 0 rfl) ?_
              refine lv_iload hx hb dX8_copy_88 (lv_at hl 6 rfl) ?_
              refine lv_iload hx hb dX8_copy_90 (lv_at hl 7 rfl) ?_
              have hPc := hP.sub (ws' := [(p3, .inr (0, [.int b3, .int z3, .ref n3]))]) [9] rfl
              have hKc := hK.sub (tys' := []) [] rfl
              refine vp_callSi (W.runV (As := [.int j, .int n]) (rest := []) ⟨hx, hb, hml, hown, hts⟩ (p_hasPart l dC dI ad p3 j n (.int b3) z3 (.ref n3) hz3) (cwV 2 hts g_x_copy_p_hasPart_282 rfl rfl rfl (by decide +kernel) ⟨(Nat.le_of_ble_eq_true rfl), (Nat.le_of_ble_eq_true rfl)⟩) ⟨preS_blind, va_recv hKc hPc (ci := 0) (q0 := 0) rfl rfl, fun U hU hW => ⟨rfl, preS_at hU hW hPc hKc hev⟩⟩ rfl rfl hl.1 rfl (lv_room (Nat.le_of_ble_eq_true rfl)) dX8_copy_92 ⟨(Nat.le_of_ble_eq_true rfl), (Nat.le_of_ble_eq_true rfl)⟩) (fun r_136 hw => ?_)
              have hr_136 : (r_136.toInt = 1 ∧ 0 ≤ j.toInt ∧ 0 ≤ n.toInt ∧ j.toInt + n.toInt ≤ z3.toInt) ∨ (r_136.toInt = 0 ∧ ¬ (0 ≤ j.toInt ∧ 0 ≤ n.toInt ∧ j.toInt + n.toInt ≤ z3.toInt)) := hw
              refine lv_if_ne (tgt := 105) hx hb dX8_copy_95 (by decide) (fun c_137 => ?_) (fun c_137 => ?_)
              · skip
                have tc_137 : ¬ r_136.toInt = 0 := fun h => c_137 ((fa_eq _ _).mpr h)
                refine lv_aload hx hb dX8_copy_105 (lv_at hl 1 rfl) ?_
                refine va_getN (D := (dC, dI)) (ci := 0) (v := .ref n0) (C := RX2) (T := TX2) (N := 3) hx hb hts inX2 hown hK hP 3 rfl rfl 2 (by decide) (ev_nest hev 23 rfl) (fun _ h9 => h9) rfl dX8_copy_107 ?_
                refine lv_iload_n hx hb dX8_copy_110 rfl (lv_at hl 4 rfl) ?_
                refine lv_aload hx hb dX8_copy_111 (lv_at hl 0 rfl) ?_
                refine va_getN (D := (dC, dI)) (ci := 0) (v := .ref n3) (C := RX2) (T := TX2) (N := 3) hx hb hts inX2 hown hK hP 9 rfl rfl 2 (by decide) (ev_nest hev 23 rfl) (fun _ h9 => h9) rfl dX8_copy_113 ?_
                refine lv_iload hx hb dX8_copy_116 (lv_at hl 6 rfl) ?_
                refine lv_iload hx hb dX8_copy_118 (lv_at hl 7 rfl) ?_
                refine va_copyl (ty := .long) hx hb (by rw [hml]; exact hl.1.symm) hown (hts _ (List.mem_of_getElem? (i := 25) rfl)) (hts _ (List.mem_of_getElem? (i := 26) rfl)) (hts _ (List.mem_of_getElem? (i := 27) rfl)) (hts _ (List.mem_of_getElem? (i := 28) rfl)) hK hP hD hS 4 10 2 5 rfl rfl rfl rfl rfl (fun h => absurd ((fa_lt _ _).mp h) (by show ¬ i.toInt < 0; omega)) (fun h => absurd ((fa_lt _ _).mp h) (by show ¬ j.toInt < 0; omega)) (fun h => absurd ((fa_lt _ _).mp h) (by show ¬ n.toInt < 0; omega)) (by show i.toInt.toNat + n.toInt.toNat ≤ 40; omega) (by show j.toInt.toNat + n.toInt.toNat ≤ 40; omega) (fun _ _ => rfl) (Nat.le_of_ble_eq_true rfl) (Nat.le_of_ble_eq_true rfl) dX8_copy_120 (fun H locs hP hD hS => ?_)
                generalize va_cpy g0 g3 i.toNatClampNeg j.toNatClampNeg n.toNatClampNeg = f_138 at hP hD
                have hP : va_P (dC, dI) vwCl [(h0, .inr (6, [v0, v1, v2, v3, v4, .ref ph, .ref t0, v7])), (t0, .inl (tc, 7, .inl tf)), (ph, .inl (pc, 4, .inr (.inr (.inr (.inr pf))))), (p0, .inr (0, [.int b0, .int z0, .ref n0])), (n0, .inl (nc0, 40, .inr (.inl g0))), (p1, .inr (0, [.int b1, .int z1, .ref n1])), (n1, .inl (nc1, 40, .inr (.inl g1))), (p2, .inr (0, [.int b2, .int z2, .ref n2])), (n2, .inl (nc2, 40, .inr (.inl g2))), (p3, .inr (0, [.int b3, .int z3, .ref n3])), (n3, .inl (nc3, 40, .inr (.inl f_138)))] H := hP
                have hD : va_D A [(h0, .inr (6, [v0, v1, v2, v3, v4, .ref ph, .ref t0, v7])), (t0, .inl (tc, 7, .inl tf)), (ph, .inl (pc, 4, .inr (.inr (.inr (.inr pf))))), (p0, .inr (0, [.int b0, .int z0, .ref n0])), (n0, .inl (nc0, 40, .inr (.inl g0))), (p1, .inr (0, [.int b1, .int z1, .ref n1])), (n1, .inl (nc1, 40, .inr (.inl g1))), (p2, .inr (0, [.int b2, .int z2, .ref n2])), (n2, .inl (nc2, 40, .inr (.inl g2))), (p3, .inr (0, [.int b3, .int z3, .ref n3])), (n3, .inl (nc3, 40, .inr (.inl f_138)))] := hD
                refine lv_iload hx hb dX8_copy_123 (lv_at hl 7 rfl) ?_
                have hP9 := hP.sub (ws' := [(h0, .inr (6, [v0, v1, v2, v3, v4, .ref ph, .ref t0, v7])), (t0, .inl (tc, 7, .inl tf)), (ph, .inl (pc, 4, .inr (.inr (.inr (.inr pf))))), (p0, .inr (0, [.int b0, .int z0, .ref n0])), (n0, .inl (nc0, 40, .inr (.inl g0))), (p1, .inr (0, [.int b1, .int z1, .ref n1])), (n1, .inl (nc1, 40, .inr (.inl g1))), (p2, .inr (0, [.int b2, .int z2, .ref n2])), (n2, .inl (nc2, 40, .inr (.inl g2))), (p3, .inr (0, [.int b3, .int z3, .ref n3])), (n3, .inl (nc3, 40, .inr (.inl f_138)))]) [0, 1, 2, 3, 4, 5, 6, 7, 8, 9, 10] rfl
                have hD9 := hD.sub (ws' := [(h0, .inr (6, [v0, v1, v2, v3, v4, .ref ph, .ref t0, v7])), (t0, .inl (tc, 7, .inl tf)), (ph, .inl (pc, 4, .inr (.inr (.inr (.inr pf))))), (p0, .inr (0, [.int b0, .int z0, .ref n0])), (n0, .inl (nc0, 40, .inr (.inl g0))), (p1, .inr (0, [.int b1, .int z1, .ref n1])), (n1, .inl (nc1, 40, .inr (.inl g1))), (p2, .inr (0, [.int b2, .int z2, .ref n2])), (n2, .inl (nc2, 40, .inr (.inl g2))), (p3, .inr (0, [.int b3, .int z3, .ref n3])), (n3, .inl (nc3, 40, .inr (.inl f_138)))]) [0, 1, 2, 3, 4, 5, 6, 7, 8, 9, 10] (by decide) rfl
                have hK9 := hK.sub (tys' := [(tc, .int), (pc, .object "LampShapes$Paper"), (nc0, .long), (nc1, .long), (nc2, .long), (nc3, .long)]) [0, 1, 2, 3, 4, 5] rfl
                exact W.iret (v := n) hx hb hr (fun t ht hW => ⟨⟨n, (), rfl, trivial, tf, g0, g1, g2, f_138, by rw [ht]; exact hP9, va_K.moved hW.alike hK9, hD9⟩, hS.F ht⟩) hS.2.2 dX8_copy_125
              · skip
                have tc_137 : r_136.toInt = 0 := (fa_eq _ _).mp c_137
                refine lv_aload_n hx hb dX8_copy_98 rfl (lv_at hl 2 rfl) ?_
                refine lv_ldc hx hb hown (hts _ (List.mem_of_getElem? (i := 6) rfl)) dX8_copy_99 ?_
                have hPc := hP.sub (ws' := [(h0, .inr (6, [v0, v1, v2, v3, v4, .ref ph, .ref t0, v7])), (t0, .inl (tc, 7, .inl tf))]) [0, 1] rfl
                have hKc := hK.sub (tys' := [(tc, .int)]) [0] rfl
                have hDc := hD.sub (ws' := [(h0, .inr (6, [v0, v1, v2, v3, v4, .ref ph, .ref t0, v7])), (t0, .inl (tc, 7, .inl tf))]) [0, 1] (by decide) rfl
                have hFc := va_free (wc := [(h0, .inr (6, [v0, v1, v2, v3, v4, .ref ph, .ref t0, v7])), (t0, .inl (tc, 7, .inl tf))]) hD hS hA [0, 1] rfl
                refine va_calli (va_runV (As := [.int (-1000000001)]) (rest := []) ⟨hx, hb, hml, hown, hts⟩ (f_beyond l dC dI ad h0 v0 v1 v2 v3 v4 (.ref ph) t0 v7 tc tf s.heap.size ) (cwV 1 hts g_x_copy_f_beyond_63 rfl rfl rfl (by decide +kernel) ⟨(Nat.le_of_ble_eq_true rfl), (Nat.le_of_ble_eq_true rfl)⟩) ⟨preM_blind, va_recv hKc hPc (ci := 6) (q0 := 0) rfl rfl, fun U hU hW => ⟨rfl, preM_at hU hW hPc hKc hDc hev⟩⟩ rfl rfl hl.1 rfl (lv_room (Nat.le_of_ble_eq_true rfl)) dX8_copy_101 ⟨(Nat.le_of_ble_eq_true rfl), (Nat.le_of_ble_eq_true rfl)⟩) hS (fun q _ h => hFc q h) hFc (fun r_139 u t H1 locs ht hvm hw hB hz1 hk1 hS => ?_)
                obtain ⟨tg_140, hP1, hK1, hD1⟩ := hB
                rw [ht] at hP1
                have hK1 := va_K.moved hvm.symm hK1
                obtain ⟨hP, hD⟩ := va_join (wr := [(ph, .inl (pc, 4, .inr (.inr (.inr (.inr pf))))), (p0, .inr (0, [.int b0, .int z0, .ref n0])), (n0, .inl (nc0, 40, .inr (.inl g0))), (p1, .inr (0, [.int b1, .int z1, .ref n1])), (n1, .inl (nc1, 40, .inr (.inl g1))), (p2, .inr (0, [.int b2, .int z2, .ref n2])), (n2, .inl (nc2, 40, .inr (.inl g2))), (p3, .inr (0, [.int b3, .int z3, .ref n3])), (n3, .inl (nc3, 40, .inr (.inl g3)))]) (w1 := [(h0, .inr (6, [v0, v1, v2, v3, v4, .ref ph, .ref t0, v7])), (t0, .inl (tc, 7, .inl tg_140))]) hP hD [0, 1] [2, 3, 4, 5, 6, 7, 8, 9, 10] rfl rfl (by decide) (by decide) hk1 hFc hP1 hD1
                generalize H1 = H at hP hS ⊢
                have hP : va_P (dC, dI) vwCl [(ph, .inl (pc, 4, .inr (.inr (.inr (.inr pf))))), (p0, .inr (0, [.int b0, .int z0, .ref n0])), (n0, .inl (nc0, 40, .inr (.inl g0))), (p1, .inr (0, [.int b1, .int z1, .ref n1])), (n1, .inl (nc1, 40, .inr (.inl g1))), (p2, .inr (0, [.int b2, .int z2, .ref n2])), (n2, .inl (nc2, 40, .inr (.inl g2))), (p3, .inr (0, [.int b3, .int z3, .ref n3])), (n3, .inl (nc3, 40, .inr (.inl g3))), (h0, .inr (6, [v0, v1, v2, v3, v4, .ref ph, .ref t0, v7])), (t0, .inl (tc, 7, .inl tg_140))] H := hP
                have hD : va_D A [(ph, .inl (pc, 4, .inr (.inr (.inr (.inr pf))))), (p0, .inr (0, [.int b0, .int z0, .ref n0])), (n0, .inl (nc0, 40, .inr (.inl g0))), (p1, .inr (0, [.int b1, .int z1, .ref n1])), (n1, .inl (nc1, 40, .inr (.inl g1))), (p2, .inr (0, [.int b2, .int z2, .ref n2])), (n2, .inl (nc2, 40, .inr (.inl g2))), (p3, .inr (0, [.int b3, .int z3, .ref n3])), (n3, .inl (nc3, 40, .inr (.inl g3))), (h0, .inr (6, [v0, v1, v2, v3, v4, .ref ph, .ref t0, v7])), (t0, .inl (tc, 7, .inl tg_140))] := hD
                subst hw
                have hP9 := hP.sub (ws' := [(h0, .inr (6, [v0, v1, v2, v3, v4, .ref ph, .ref t0, v7])), (t0, .inl (tc, 7, .inl tg_140)), (ph, .inl (pc, 4, .inr (.inr (.inr (.inr pf))))), (p0, .inr (0, [.int b0, .int z0, .ref n0])), (n0, .inl (nc0, 40, .inr (.inl g0))), (p1, .inr (0, [.int b1, .int z1, .ref n1])), (n1, .inl (nc1, 40, .inr (.inl g1))), (p2, .inr (0, [.int b2, .int z2, .ref n2])), (n2, .inl (nc2, 40, .inr (.inl g2))), (p3, .inr (0, [.int b3, .int z3, .ref n3])), (n3, .inl (nc3, 40, .inr (.inl g3)))]) [9, 10, 0, 1, 2, 3, 4, 5, 6, 7, 8] rfl
                have hD9 := hD.sub (ws' := [(h0, .inr (6, [v0, v1, v2, v3, v4, .ref ph, .ref t0, v7])), (t0, .inl (tc, 7, .inl tg_140)), (ph, .inl (pc, 4, .inr (.inr (.inr (.inr pf))))), (p0, .inr (0, [.int b0, .int z0, .ref n0])), (n0, .inl (nc0, 40, .inr (.inl g0))), (p1, .inr (0, [.int b1, .int z1, .ref n1])), (n1, .inl (nc1, 40, .inr (.inl g1))), (p2, .inr (0, [.int b2, .int z2, .ref n2])), (n2, .inl (nc2, 40, .inr (.inl g2))), (p3, .inr (0, [.int b3, .int z3, .ref n3])), (n3, .inl (nc3, 40, .inr (.inl g3)))]) [9, 10, 0, 1, 2, 3, 4, 5, 6, 7, 8] (by decide) rfl
                have hK9 := hK.sub (tys' := [(tc, .int), (pc, .object "LampShapes$Paper"), (nc0, .long), (nc1, .long), (nc2, .long), (nc3, .long)]) [0, 1, 2, 3, 4, 5] rfl
                exact W.iret (v := ((-1000000001) : Int32)) hx hb hr (fun t ht hW => ⟨⟨((-1000000001) : Int32), (), rfl, trivial, tg_140, g0, g1, g2, g3, by rw [ht]; exact hP9, va_K.moved hW.alike hK9, hD9⟩, hS.F ht⟩) hS.2.2 dX8_copy_104
          · skip
            have tc_131 : ¬ b0.toInt = b3.toInt := fun h => c_131 ((fa_eq _ _).mpr h)
            refine lv_aload_n hx hb dX8_copy_68 rfl (lv_at hl 2 rfl) ?_
            refine lv_ldc hx hb hown (hts _ (List.mem_of_getElem? (i := 29) rfl)) dX8_copy_69 ?_
            have hPc := hP.sub (ws' := [(h0, .inr (6, [v0, v1, v2, v3, v4, .ref ph, .ref t0, v7])), (t0, .inl (tc, 7, .inl tf))]) [0, 1] rfl
            have hKc := hK.sub (tys' := [(tc, .int)]) [0] rfl
            have hDc := hD.sub (ws' := [(h0, .inr (6, [v0, v1, v2, v3, v4, .ref ph, .ref t0, v7])), (t0, .inl (tc, 7, .inl tf))]) [0, 1] (by decide) rfl
            have hFc := va_free (wc := [(h0, .inr (6, [v0, v1, v2, v3, v4, .ref ph, .ref t0, v7])), (t0, .inl (tc, 7, .inl tf))]) hD hS hA [0, 1] rfl
            refine va_calli (va_runV (As := [.int (-1000000003)]) (rest := []) ⟨hx, hb, hml, hown, hts⟩ (f_kind l dC dI ad h0 v0 v1 v2 v3 v4 (.ref ph) t0 v7 tc tf s.heap.size ) (cwV 1 hts g_x_copy_f_kind_63 rfl rfl rfl (by decide +kernel) ⟨(Nat.le_of_ble_eq_true rfl), (Nat.le_of_ble_eq_true rfl)⟩) ⟨preM_blind, va_recv hKc hPc (ci := 6) (q0 := 0) rfl rfl, fun U hU hW => ⟨rfl, preM_at hU hW hPc hKc hDc hev⟩⟩ rfl rfl hl.1 rfl (lv_room (Nat.le_of_ble_eq_true rfl)) dX8_copy_71 ⟨(Nat.le_of_ble_eq_true rfl), (Nat.le_of_ble_eq_true rfl)⟩) hS (fun q _ h => hFc q h) hFc (fun r_141 u t H1 locs ht hvm hw hB hz1 hk1 hS => ?_)
            obtain ⟨tg_142, hP1, hK1, hD1⟩ := hB
            rw [ht] at hP1
            have hK1 := va_K.moved hvm.symm hK1
            obtain ⟨hP, hD⟩ := va_join (wr := [(ph, .inl (pc, 4, .inr (.inr (.inr (.inr pf))))), (p0, .inr (0, [.int b0, .int z0, .ref n0])), (n0, .inl (nc0, 40, .inr (.inl g0))), (p1, .inr (0, [.int b1, .int z1, .ref n1])), (n1, .inl (nc1, 40, .inr (.inl g1))), (p2, .inr (0, [.int b2, .int z2, .ref n2])), (n2, .inl (nc2, 40, .inr (.inl g2))), (p3, .inr (0, [.int b3, .int z3, .ref n3])), (n3, .inl (nc3, 40, .inr (.inl g3)))]) (w1 := [(h0, .inr (6, [v0, v1, v2, v3, v4, .ref ph, .ref t0, v7])), (t0, .inl (tc, 7, .inl tg_142))]) hP hD [0, 1] [2, 3, 4, 5, 6, 7, 8, 9, 10] rfl rfl (by decide) (by decide) hk1 hFc hP1 hD1
            generalize H1 = H at hP hS ⊢
            have hP : va_P (dC, dI) vwCl [(ph, .inl (pc, 4, .inr (.inr (.inr (.inr pf))))), (p0, .inr (0, [.int b0, .int z0, .ref n0])), (n0, .inl (nc0, 40, .inr (.inl g0))), (p1, .inr (0, [.int b1, .int z1, .ref n1])), (n1, .inl (nc1, 40, .inr (.inl g1))), (p2, .inr (0, [.int b2, .int z2, .ref n2])), (n2, .inl (nc2, 40, .inr (.inl g2))), (p3, .inr (0, [.int b3, .int z3, .ref n3])), (n3, .inl (nc3, 40, .inr (.inl g3))), (h0, .inr (6, [v0, v1, v2, v3, v4, .ref ph, .ref t0, v7])), (t0, .inl (tc, 7, .inl tg_142))] H := hP
            have hD : va_D A [(ph, .inl (pc, 4, .inr (.inr (.inr (.inr pf))))), (p0, .inr (0, [.int b0, .int z0, .ref n0])), (n0, .inl (nc0, 40, .inr (.inl g0))), (p1, .inr (0, [.int b1, .int z1, .ref n1])), (n1, .inl (nc1, 40, .inr (.inl g1))), (p2, .inr (0, [.int b2, .int z2, .ref n2])), (n2, .inl (nc2, 40, .inr (.inl g2))), (p3, .inr (0, [.int b3, .int z3, .ref n3])), (n3, .inl (nc3, 40, .inr (.inl g3))), (h0, .inr (6, [v0, v1, v2, v3, v4, .ref ph, .ref t0, v7])), (t0, .inl (tc, 7, .inl tg_142))] := hD
            subst hw
            have hP9 := hP.sub (ws' := [(h0, .inr (6, [v0, v1, v2, v3, v4, .ref ph, .ref t0, v7])), (t0, .inl (tc, 7, .inl tg_142)), (ph, .inl (pc, 4, .inr (.inr (.inr (.inr pf))))), (p0, .inr (0, [.int b0, .int z0, .ref n0])), (n0, .inl (nc0, 40, .inr (.inl g0))), (p1, .inr (0, [.int b1, .int z1, .ref n1])), (n1, .inl (nc1, 40, .inr (.inl g1))), (p2, .inr (0, [.int b2, .int z2, .ref n2])), (n2, .inl (nc2, 40, .inr (.inl g2))), (p3, .inr (0, [.int b3, .int z3, .ref n3])), (n3, .inl (nc3, 40, .inr (.inl g3)))]) [9, 10, 0, 1, 2, 3, 4, 5, 6, 7, 8] rfl
            have hD9 := hD.sub (ws' := [(h0, .inr (6, [v0, v1, v2, v3, v4, .ref ph, .ref t0, v7])), (t0, .inl (tc, 7, .inl tg_142)), (ph, .inl (pc, 4, .inr (.inr (.inr (.inr pf))))), (p0, .inr (0, [.int b0, .int z0, .ref n0])), (n0, .inl (nc0, 40, .inr (.inl g0))), (p1, .inr (0, [.int b1, .int z1, .ref n1])), (n1, .inl (nc1, 40, .inr (.inl g1))), (p2, .inr (0, [.int b2, .int z2, .ref n2])), (n2, .inl (nc2, 40, .inr (.inl g2))), (p3, .inr (0, [.int b3, .int z3, .ref n3])), (n3, .inl (nc3, 40, .inr (.inl g3)))]) [9, 10, 0, 1, 2, 3, 4, 5, 6, 7, 8] (by decide) rfl
            have hK9 := hK.sub (tys' := [(tc, .int), (pc, .object "LampShapes$Paper"), (nc0, .long), (nc1, .long), (nc2, .long), (nc3, .long)]) [0, 1, 2, 3, 4, 5] rfl
            exact W.iret (v := ((-1000000003) : Int32)) hx hb hr (fun t ht hW => ⟨⟨((-1000000003) : Int32), (), rfl, trivial, tg_142, g0, g1, g2, g3, by rw [ht]; exact hP9, va_K.moved hW.alike hK9, hD9⟩, hS.F ht⟩) hS.2.2 dX8_copy_74
        · skip
          have tc_130 : ¬ r_129.toInt = 0 := fun h => c_130 ((fa_eq _ _).mpr h)
          refine lv_aload_n hx hb dX8_copy_47 rfl (lv_at hl 2 rfl) ?_
          refine lv_ldcw hx hb hown (hts _ (List.mem_of_getElem? (i := 19) rfl)) dX8_copy_48 ?_
          have hPc := hP.sub (ws' := [(h0, .inr (6, [v0, v1, v2, v3, v4, .ref ph, .ref t0, v7])), (t0, .inl (tc, 7, .inl tf))]) [0, 1] rfl
          have hKc := hK.sub (tys' := [(tc, .int)]) [0] rfl
          have hDc := hD.sub (ws' := [(h0, .inr (6, [v0, v1, v2, v3, v4, .ref ph, .ref t0, v7])), (t0, .inl (tc, 7, .inl tf))]) [0, 1] (by decide) rfl
          have hFc := va_free (wc := [(h0, .inr (6, [v0, v1, v2, v3, v4, .ref ph, .ref t0, v7])), (t0, .inl (tc, 7, .inl tf))]) hD hS hA [0, 1] rfl
          refine va_calli (va_runV (As := [.int (-1000000006)]) (rest := []) ⟨hx, hb, hml, hown, hts⟩ (f_missing l dC dI ad h0 v0 v1 v2 v3 v4 (.ref ph) t0 v7 tc tf s.heap.size ) (cwV 1 hts g_x_copy_f_missing_63 rfl rfl rfl (by decide +kernel) ⟨(Nat.le_of_ble_eq_true rfl), (Nat.le_of_ble_eq_true rfl)⟩) ⟨preM_blind, va_recv hKc hPc (ci := 6) (q0 := 0) rfl rfl, fun U hU hW => ⟨rfl, preM_at hU hW hPc hKc hDc hev⟩⟩ rfl rfl hl.1 rfl (lv_room (Nat.le_of_ble_eq_true rfl)) dX8_copy_51 ⟨(Nat.le_of_ble_eq_true rfl), (Nat.le_of_ble_eq_true rfl)⟩) hS (fun q _ h => hFc q h) hFc (fun r_143 u t H1 locs ht hvm hw hB hz1 hk1 hS => ?_)
          obtain ⟨tg_144, hP1, hK1, hD1⟩ := hB
          rw [ht] at hP1
          have hK1 := va_K.moved hvm.symm hK1
          obtain ⟨hP, hD⟩ := va_join (wr := [(ph, .inl (pc, 4, .inr (.inr (.inr (.inr pf))))), (p0, .inr (0, [.int b0, .int z0, .ref n0])), (n0, .inl (nc0, 40, .inr (.inl g0))), (p1, .inr (0, [.int b1, .int z1, .ref n1])), (n1, .inl (nc1, 40, .inr (.inl g1))), (p2, .inr (0, [.int b2, .int z2, .ref n2])), (n2, .inl (nc2, 40, .inr (.inl g2))), (p3, .inr (0, [.int b3, .int z3, .ref n3])), (n3, .inl (nc3, 40, .inr (.inl g3)))]) (w1 := [(h0, .inr (6, [v0, v1, v2, v3, v4, .ref ph, .ref t0, v7])), (t0, .inl (tc, 7, .inl tg_144))]) hP hD [0, 1] [2, 3, 4, 5, 6, 7, 8, 9, 10] rfl rfl (by decide) (by decide) hk1 hFc hP1 hD1
          generalize H1 = H at hP hS ⊢
          have hP : va_P (dC, dI) vwCl [(ph, .inl (pc, 4, .inr (.inr (.inr (.inr pf))))), (p0, .inr (0, [.int b0, .int z0, .ref n0])), (n0, .inl (nc0, 40, .inr (.inl g0))), (p1, .inr (0, [.int b1, .int z1, .ref n1])), (n1, .inl (nc1, 40, .inr (.inl g1))), (p2, .inr (0, [.int b2, .int z2, .ref n2])), (n2, .inl (nc2, 40, .inr (.inl g2))), (p3, .inr (0, [.int b3, .int z3, .ref n3])), (n3, .inl (nc3, 40, .inr (.inl g3))), (h0, .inr (6, [v0, v1, v2, v3, v4, .ref ph, .ref t0, v7])), (t0, .inl (tc, 7, .inl tg_144))] H := hP
          have hD : va_D A [(ph, .inl (pc, 4, .inr (.inr (.inr (.inr pf))))), (p0, .inr (0, [.int b0, .int z0, .ref n0])), (n0, .inl (nc0, 40, .inr (.inl g0))), (p1, .inr (0, [.int b1, .int z1, .ref n1])), (n1, .inl (nc1, 40, .inr (.inl g1))), (p2, .inr (0, [.int b2, .int z2, .ref n2])), (n2, .inl (nc2, 40, .inr (.inl g2))), (p3, .inr (0, [.int b3, .int z3, .ref n3])), (n3, .inl (nc3, 40, .inr (.inl g3))), (h0, .inr (6, [v0, v1, v2, v3, v4, .ref ph, .ref t0, v7])), (t0, .inl (tc, 7, .inl tg_144))] := hD
          subst hw
          have hP9 := hP.sub (ws' := [(h0, .inr (6, [v0, v1, v2, v3, v4, .ref ph, .ref t0, v7])), (t0, .inl (tc, 7, .inl tg_144)), (ph, .inl (pc, 4, .inr (.inr (.inr (.inr pf))))), (p0, .inr (0, [.int b0, .int z0, .ref n0])), (n0, .inl (nc0, 40, .inr (.inl g0))), (p1, .inr (0, [.int b1, .int z1, .ref n1])), (n1, .inl (nc1, 40, .inr (.inl g1))), (p2, .inr (0, [.int b2, .int z2, .ref n2])), (n2, .inl (nc2, 40, .inr (.inl g2))), (p3, .inr (0, [.int b3, .int z3, .ref n3])), (n3, .inl (nc3, 40, .inr (.inl g3)))]) [9, 10, 0, 1, 2, 3, 4, 5, 6, 7, 8] rfl
          have hD9 := hD.sub (ws' := [(h0, .inr (6, [v0, v1, v2, v3, v4, .ref ph, .ref t0, v7])), (t0, .inl (tc, 7, .inl tg_144)), (ph, .inl (pc, 4, .inr (.inr (.inr (.inr pf))))), (p0, .inr (0, [.int b0, .int z0, .ref n0])), (n0, .inl (nc0, 40, .inr (.inl g0))), (p1, .inr (0, [.int b1, .int z1, .ref n1])), (n1, .inl (nc1, 40, .inr (.inl g1))), (p2, .inr (0, [.int b2, .int z2, .ref n2])), (n2, .inl (nc2, 40, .inr (.inl g2))), (p3, .inr (0, [.int b3, .int z3, .ref n3])), (n3, .inl (nc3, 40, .inr (.inl g3)))]) [9, 10, 0, 1, 2, 3, 4, 5, 6, 7, 8] (by decide) rfl
          have hK9 := hK.sub (tys' := [(tc, .int), (pc, .object "LampShapes$Paper"), (nc0, .long), (nc1, .long), (nc2, .long), (nc3, .long)]) [0, 1, 2, 3, 4, 5] rfl
          exact W.iret (v := ((-1000000006) : Int32)) hx hb hr (fun t ht hW => ⟨⟨((-1000000006) : Int32), (), rfl, trivial, tg_144, g0, g1, g2, g3, by rw [ht]; exact hP9, va_K.moved hW.alike hK9, hD9⟩, hS.F ht⟩) hS.2.2 dX8_copy_54
  · skip
    rcases pp_c_0_3 d with hlt1 | hgt1 | rfl | rfl | rfl | rfl
    · skip
      refine Met.ofW (cc := cX8_copy) (maxL := 8) (ret := (some .int)) (by decide) rfl ?_
      intro p e s m args below meth c s₁ B hml hv
      obtain ⟨rfl, hsz, hP, hK, hD0, hev⟩ := hv
      have hx := B.exec
      have hb := B.bytes
      have hr := B.returns
      have hts := atoms_spec (ws := w_x_copy) B.pre
      have hown : s.vm.findClass RX8 = some m.cls := findClass_of_methodNamed B.named
      have hlocks := B.notSynchronized
      have inX8 : ∀ w ∈ wsX80, w ∈ w_x_copy := fun w h => List.mem_cons_of_mem _ (List.mem_append_left _ (List.mem_append_right _ h))
      have inX2 : ∀ w ∈ wsX20, w ∈ w_x_copy := fun w h => List.mem_cons_of_mem _ (List.mem_append_right _ h)
      subst hsz
      have hD := hD0.self (sz := s.heap.size)
      generalize hAe : va_A [(h0, .inr (6, [v0, v1, v2, v3, v4, .ref ph, .ref t0, v7])), (t0, .inl (tc, 7, .inl tf)), (ph, .inl (pc, 4, .inr (.inr (.inr (.inr pf))))), (p0, .inr (0, [.int b0, .int z0, .ref n0])), (n0, .inl (nc0, 40, .inr (.inl g0))), (p1, .inr (0, [.int b1, .int z1, .ref n1])), (n1, .inl (nc1, 40, .inr (.inl g1))), (p2, .inr (0, [.int b2, .int z2, .ref n2])), (n2, .inl (nc2, 40, .inr (.inl g2))), (p3, .inr (0, [.int b3, .int z3, .ref n3])), (n3, .inl (nc3, 40, .inr (.inl g3)))] s.heap.size = A at hD ⊢
      have hA : ∀ q : Nat, s.heap.size ≤ q → A q := fun q h => by rw [← hAe]; exact Or.inr h
      have hS : va_S A s.heap s.heap [] := va_S.rf
      have hP : va_P (dC, dI) vwCl [(h0, .inr (6, [v0, v1, v2, v3, v4, .ref ph, .ref t0, v7])), (t0, .inl (tc, 7, .inl tf)), (ph, .inl (pc, 4, .inr (.inr (.inr (.inr pf))))), (p0, .inr (0, [.int b0, .int z0, .ref n0])), (n0, .inl (nc0, 40, .inr (.inl g0))), (p1, .inr (0, [.int b1, .int z1, .ref n1])), (n1, .inl (nc1, 40, .inr (.inl g1))), (p2, .inr (0, [.int b2, .int z2, .ref n2])), (n2, .inl (nc2, 40, .inr (.inl g2))), (p3, .inr (0, [.int b3, .int z3, .ref n3])), (n3, .inl (nc3, 40, .inr (.inl g3)))] s.heap := hP
      have hl := lv_entry ([.ref h0, .int 1, .int i, .int d, .int j, .int n]) (n := 8) (Nat.le_of_ble_eq_true rfl)
      rw [lg_entry_eq]
      generalize (lg_sl ([.ref h0, .int 1, .int i, .int d, .int j, .int n]) ++ List.replicate (8 - (lg_sl ([.ref h0, .int 1, .int i, .int d, .int j, .int n])).length) Slot.unset).toArray = ls at hl ⊢
      have hl : lv_has ls 8 [(0, .ref h0), (1, .int 1), (2, .int i), (3, .int d), (4, .int j), (5, .int n)] := hl
      have thlt1 : d.toInt < 0 := (fa_lt _ _).mp hlt1
      refine lv_aload_n hx hb dX8_copy_0 rfl (lv_at hl 0 rfl) ?_
      refine lv_iload_n hx hb dX8_copy_1 rfl (lv_at hl 1 rfl) ?_
      have hPc := hP.sub (ws' := [(h0, .inr (6, [v0, v1, v2, v3, v4, .ref ph, .ref t0, v7])), (ph, .inl (pc, 4, .inr (.inr (.inr (.inr pf)))))]) [0, 2] rfl
      have hKc := hK.sub (tys' := [(pc, .object "LampShapes$Paper")]) [1] rfl
      refine va_csq (W.runV (As := [.int 1]) (rest := []) ⟨hx, hb, hml, hown, hts⟩ (c_paperAt_1 l dC dI ad h0 v0 v1 v2 v3 v4 ph (.ref t0) v7 pc pf p1 hp1) (cwV 1 hts g_x_copy_c_paperAt_1_256 rfl rfl rfl (by decide +kernel) ⟨(Nat.le_of_ble_eq_true rfl), (Nat.le_of_ble_eq_true rfl)⟩) ⟨preS_blind, va_recv hKc hPc (ci := 6) (q0 := 0) rfl rfl, fun U hU hW => ⟨rfl, preS_at hU hW hPc hKc hev⟩⟩ rfl rfl hl.1 rfl (lv_room (Nat.le_of_ble_eq_true rfl)) dX8_copy_2 ⟨(Nat.le_of_ble_eq_true rfl), (Nat.le_of_ble_eq_true rfl)⟩) (fun r_145 hw => ?_)
      subst hw
      refine pp_tv (y := .ref p1) rfl ?_
      refine lv_astore (lv' := [(6, .ref p1), (0, .ref h0), (1, .int 1), (2, .int i), (3, .int d), (4, .int j), (5, .int n)]) hx hb dX8_copy_5 hl (by decide) rfl (fun ls hl => ?_)
      refine lv_aload_n hx hb dX8_copy_7 rfl (lv_at hl 1 rfl) ?_
      refine lv_iload_n hx hb dX8_copy_8 rfl (lv_at hl 4 rfl) ?_
      have hPc := hP.sub (ws' := [(h0, .inr (6, [v0, v1, v2, v3, v4, .ref ph, .ref t0, v7]))]) [0] rfl
      have hKc := hK.sub (tys' := []) [] rfl
      refine va_csq (W.runV (As := [.int d]) (rest := []) ⟨hx, hb, hml, hown, hts⟩ (c_paperAt_lt l dC dI ad h0 d v0 v1 v2 v3 v4 (.ref ph) (.ref t0) v7 hlt1) (cwV 1 hts g_x_copy_c_paperAt_lt_256 rfl rfl rfl (by decide +kernel) ⟨(Nat.le_of_ble_eq_true rfl), (Nat.le_of_ble_eq_true rfl)⟩) ⟨preS_blind, va_recv hKc hPc (ci := 6) (q0 := 0) rfl rfl, fun U hU hW => ⟨rfl, preS_at hU hW hPc hKc hev⟩⟩ rfl rfl hl.1 rfl (lv_room (Nat.le_of_ble_eq_true rfl)) dX8_copy_9 ⟨(Nat.le_of_ble_eq_true rfl), (Nat.le_of_ble_eq_true rfl)⟩) (fun r_146 hw => ?_)
      subst hw
      refine pp_tv (y := .null) rfl ?_
      refine lv_astoreN (lv' := [(7, .null), (6, .ref p1), (0, .ref h0), (1, .int 1), (2, .int i), (3, .int d), (4, .int j), (5, .int n)]) hx hb dX8_copy_12 hl (by decide) rfl (fun ls hl => ?_)
      refine lv_aload hx hb dX8_copy_14 (lv_at hl 1 rfl) ?_
      refine lv_ifnull hx hb dX8_copy_16 ?_
      refine lv_aloadN hx hb dX8_copy_19 (lv_at hl 0 rfl) ?_
      refine lv_ifnonnullN hx hb dX8_copy_21 ?_
      refine lv_aload_n hx hb dX8_copy_24 rfl (lv_at hl 2 rfl) ?_
      refine lv_ldc hx hb hown (hts _ (List.mem_of_getElem? (i := 6) rfl)) dX8_copy_25 ?_
      have hPc := hP.sub (ws' := [(h0, .inr (6, [v0, v1, v2, v3, v4, .ref ph, .ref t0, v7])), (t0, .inl (tc, 7, .inl tf))]) [0, 1] rfl
      have hKc := hK.sub (tys' := [(tc, .int)]) [0] rfl
      have hDc := hD.sub (ws' := [(h0, .inr (6, [v0, v1, v2, v3, v4, .ref ph, .ref t0, v7])), (t0, .inl (tc, 7, .inl tf))]) [0, 1] (by decide) rfl
      have hFc := va_free (wc := [(h0, .inr (6, [v0, v1, v2, v3, v4, .ref ph, .ref t0, v7])), (t0, .inl (tc, 7, .inl tf))]) hD hS hA [0, 1] rfl
      refine va_calli (va_runV (As := [.int (-1000000001)]) (rest := []) ⟨hx, hb, hml, hown, hts⟩ (f_beyond l dC dI ad h0 v0 v1 v2 v3 v4 (.ref ph) t0 v7 tc tf s.heap.size ) (cwV 1 hts g_x_copy_f_beyond_63 rfl rfl rfl (by decide +kernel) ⟨(Nat.le_of_ble_eq_true rfl), (Nat.le_of_ble_eq_true rfl)⟩) ⟨preM_blind, va_recv hKc hPc (ci := 6) (q0 := 0) rfl rfl, fun U hU hW => ⟨rfl, preM_at hU hW hPc hKc hDc hev⟩⟩ rfl rfl hl.1 rfl (lv_room (Nat.le_of_ble_eq_true rfl)) dX8_copy_27 ⟨(Nat.le_of_ble_eq_true rfl), (Nat.le_of_ble_eq_true rfl)⟩) hS (fun q _ h => hFc q h) hFc (fun r_147 u t H1 locs ht hvm hw hB hz1 hk1 hS => ?_)
      obtain ⟨tg_148, hP1, hK1, hD1⟩ := hB
      rw [ht] at hP1
      have hK1 := va_K.moved hvm.symm hK1
      obtain ⟨hP, hD⟩ := va_join (wr := [(ph, .inl (pc, 4, .inr (.inr (.inr (.inr pf))))), (p0, .inr (0, [.int b0, .int z0, .ref n0])), (n0, .inl (nc0, 40, .inr (.inl g0))), (p1, .inr (0, [.int b1, .int z1, .ref n1])), (n1, .inl (nc1, 40, .inr (.inl g1))), (p2, .inr (0, [.int b2, .int z2, .ref n2])), (n2, .inl (nc2, 40, .inr (.inl g2))), (p3, .inr (0, [.int b3, .int z3, .ref n3])), (n3, .inl (nc3, 40, .inr (.inl g3)))]) (w1 := [(h0, .inr (6, [v0, v1, v2, v3, v4, .ref ph, .ref t0, v7])), (t0, .inl (tc, 7, .inl tg_148))]) hP hD [0, 1] [2, 3, 4, 5, 6, 7, 8, 9, 10] rfl rfl (by decide) (by decide) hk1 hFc hP1 hD1
      generalize H1 = H at hP hS ⊢
      have hP : va_P (dC, dI) vwCl [(ph, .inl (pc, 4, .inr (.inr (.inr (.inr pf))))), (p0, .inr (0, [.int b0, .int z0, .ref n0])), (n0, .inl (nc0, 40, .inr (.inl g0))), (p1, .inr (0, [.int b1, .int z1, .ref n1])), (n1, .inl (nc1, 40, .inr (.inl g1))), (p2, .inr (0, [.int b2, .int z2, .ref n2])), (n2, .inl (nc2, 40, .inr (.inl g2))), (p3, .inr (0, [.int b3, .int z3, .ref n3])), (n3, .inl (nc3, 40, .inr (.inl g3))), (h0, .inr (6, [v0, v1, v2, v3, v4, .ref ph, .ref t0, v7])), (t0, .inl (tc, 7, .inl tg_148))] H := hP
      have hD : va_D A [(ph, .inl (pc, 4, .inr (.inr (.inr (.inr pf))))), (p0, .inr (0, [.int b0, .int z0, .ref n0])), (n0, .inl (nc0, 40, .inr (.inl g0))), (p1, .inr (0, [.int b1, .int z1, .ref n1])), (n1, .inl (nc1, 40, .inr (.inl g1))), (p2, .inr (0, [.int b2, .int z2, .ref n2])), (n2, .inl (nc2, 40, .inr (.inl g2))), (p3, .inr (0, [.int b3, .int z3, .ref n3])), (n3, .inl (nc3, 40, .inr (.inl g3))), (h0, .inr (6, [v0, v1, v2, v3, v4, .ref ph, .ref t0, v7])), (t0, .inl (tc, 7, .inl tg_148))] := hD
      subst hw
      have hP9 := hP.sub (ws' := [(h0, .inr (6, [v0, v1, v2, v3, v4, .ref ph, .ref t0, v7])), (t0, .inl (tc, 7, .inl tg_148)), (ph, .inl (pc, 4, .inr (.inr (.inr (.inr pf))))), (p0, .inr (0, [.int b0, .int z0, .ref n0])), (n0, .inl (nc0, 40, .inr (.inl g0))), (p1, .inr (0, [.int b1, .int z1, .ref n1])), (n1, .inl (nc1, 40, .inr (.inl g1))), (p2, .inr (0, [.int b2, .int z2, .ref n2])), (n2, .inl (nc2, 40, .inr (.inl g2))), (p3, .inr (0, [.int b3, .int z3, .ref n3])), (n3, .inl (nc3, 40, .inr (.inl g3)))]) [9, 10, 0, 1, 2, 3, 4, 5, 6, 7, 8] rfl
      have hD9 := hD.sub (ws' := [(h0, .inr (6, [v0, v1, v2, v3, v4, .ref ph, .ref t0, v7])), (t0, .inl (tc, 7, .inl tg_148)), (ph, .inl (pc, 4, .inr (.inr (.inr (.inr pf))))), (p0, .inr (0, [.int b0, .int z0, .ref n0])), (n0, .inl (nc0, 40, .inr (.inl g0))), (p1, .inr (0, [.int b1, .int z1, .ref n1])), (n1, .inl (nc1, 40, .inr (.inl g1))), (p2, .inr (0, [.int b2, .int z2, .ref n2])), (n2, .inl (nc2, 40, .inr (.inl g2))), (p3, .inr (0, [.int b3, .int z3, .ref n3])), (n3, .inl (nc3, 40, .inr (.inl g3)))]) [9, 10, 0, 1, 2, 3, 4, 5, 6, 7, 8] (by decide) rfl
      have hK9 := hK.sub (tys' := [(tc, .int), (pc, .object "LampShapes$Paper"), (nc0, .long), (nc1, .long), (nc2, .long), (nc3, .long)]) [0, 1, 2, 3, 4, 5] rfl
      exact W.iret (v := ((-1000000001) : Int32)) hx hb hr (fun t ht hW => ⟨⟨((-1000000001) : Int32), (), rfl, trivial, tg_148, g0, g1, g2, g3, by rw [ht]; exact hP9, va_K.moved hW.alike hK9, hD9⟩, hS.F ht⟩) hS.2.2 dX8_copy_30
    · skip
      refine Met.ofW (cc := cX8_copy) (maxL := 8) (ret := (some .int)) (by decide) rfl ?_
      intro p e s m args below meth c s₁ B hml hv
      obtain ⟨rfl, hsz, hP, hK, hD0, hev⟩ := hv
      have hx := B.exec
      have hb := B.bytes
      have hr := B.returns
      have hts := atoms_spec (ws := w_x_copy) B.pre
      have hown : s.vm.findClass RX8 = some m.cls := findClass_of_methodNamed B.named
      have hlocks := B.notSynchronized
      have inX8 : ∀ w ∈ wsX80, w ∈ w_x_copy := fun w h => List.mem_cons_of_mem _ (List.mem_append_left _ (List.mem_append_right _ h))
      have inX2 : ∀ w ∈ wsX20, w ∈ w_x_copy := fun w h => List.mem_cons_of_mem _ (List.mem_append_right _ h)
      subst hsz
      have hD := hD0.self (sz := s.heap.size)
      generalize hAe : va_A [(h0, .inr (6, [v0, v1, v2, v3, v4, .ref ph, .ref t0, v7])), (t0, .inl (tc, 7, .inl tf)), (ph, .inl (pc, 4, .inr (.inr (.inr (.inr pf))))), (p0, .inr (0, [.int b0, .int z0, .ref n0])), (n0, .inl (nc0, 40, .inr (.inl g0))), (p1, .inr (0, [.int b1, .int z1, .ref n1])), (n1, .inl (nc1, 40, .inr (.inl g1))), (p2, .inr (0, [.int b2, .int z2, .ref n2])), (n2, .inl (nc2, 40, .inr (.inl g2))), (p3, .inr (0, [.int b3, .int z3, .ref n3])), (n3, .inl (nc3, 40, .inr (.inl g3)))] s.heap.size = A at hD ⊢
      have hA : ∀ q : Nat, s.heap.size ≤ q → A q := fun q h => by rw [← hAe]; exact Or.inr h
      have hS : va_S A s.heap s.heap [] := va_S.rf
      have hP : va_P (dC, dI) vwCl [(h0, .inr (6, [v0, v1, v2, v3, v4, .ref ph, .ref t0, v7])), (t0, .inl (tc, 7, .inl tf)), (ph, .inl (pc, 4, .inr (.inr (.inr (.inr pf))))), (p0, .inr (0, [.int b0, .int z0, .ref n0])), (n0, .inl (nc0, 40, .inr (.inl g0))), (p1, .inr (0, [.int b1, .int z1, .ref n1])), (n1, .inl (nc1, 40, .inr (.inl g1))), (p2, .inr (0, [.int b2, .int z2, .ref n2])), (n2, .inl (nc2, 40, .inr (.inl g2))), (p3, .inr (0, [.int b3, .int z3, .ref n3])), (n3, .inl (nc3, 40, .inr (.inl g3)))] s.heap := hP
      have hl := lv_entry ([.ref h0, .int 1, .int i, .int d, .int j, .int n]) (n := 8) (Nat.le_of_ble_eq_true rfl)
      rw [lg_entry_eq]
      generalize (lg_sl ([.ref h0, .int 1, .int i, .int d, .int j, .int n]) ++ List.replicate (8 - (lg_sl ([.ref h0, .int 1, .int i, .int d, .int j, .int n])).length) Slot.unset).toArray = ls at hl ⊢
      have hl : lv_has ls 8 [(0, .ref h0), (1, .int 1), (2, .int i), (3, .int d), (4, .int j), (5, .int n)] := hl
      have thgt1 : 3 < d.toInt := (fa_lt _ _).mp hgt1
      refine lv_aload_n hx hb dX8_copy_0 rfl (lv_at hl 0 rfl) ?_
      refine lv_iload_n hx hb dX8_copy_1 rfl (lv_at hl 1 rfl) ?_
      have hPc := hP.sub (ws' := [(h0, .inr (6, [v0, v1, v2, v3, v4, .ref ph, .ref t0, v7])), (ph, .inl (pc, 4, .inr (.inr (.inr (.inr pf)))))]) [0, 2] rfl
      have hKc := hK.sub (tys' := [(pc, .object "LampShapes$Paper")]) [1] rfl
      refine va_csq (W.runV (As := [.int 1]) (rest := []) ⟨hx, hb, hml, hown, hts⟩ (c_paperAt_1 l dC dI ad h0 v0 v1 v2 v3 v4 ph (.ref t0) v7 pc pf p1 hp1) (cwV 1 hts g_x_copy_c_paperAt_1_256 rfl rfl rfl (by decide +kernel) ⟨(Nat.le_of_ble_eq_true rfl), (Nat.le_of_ble_eq_true rfl)⟩) ⟨preS_blind, va_recv hKc hPc (ci := 6) (q0 := 0) rfl rfl, fun U hU hW => ⟨rfl, preS_at hU hW hPc hKc hev⟩⟩ rfl rfl hl.1 rfl (lv_room (Nat.le_of_ble_eq_true rfl)) dX8_copy_2 ⟨(Nat.le_of_ble_eq_true rfl), (Nat.le_of_ble_eq_true rfl)⟩) (fun r_149 hw => ?_)
      subst hw
      refine pp_tv (y := .ref p1) rfl ?_
      refine lv_astore (lv' := [(6, .ref p1), (0, .ref h0), (1, .int 1), (2, .int i), (3, .int d), (4, .int j), (5, .int n)]) hx hb dX8_copy_5 hl (by decide) rfl (fun ls hl => ?_)
      refine lv_aload_n hx hb dX8_copy_7 rfl (lv_at hl 1 rfl) ?_
      refine lv_iload_n hx hb dX8_copy_8 rfl (lv_at hl 4 rfl) ?_
      have hPc := hP.sub (ws' := [(h0, .inr (6, [v0, v1, v2, v3, v4, .ref ph, .ref t0, v7]))]) [0] rfl
      have hKc := hK.sub (tys' := []) [] rfl
      refine va_csq (W.runV (As := [.int d]) (rest := []) ⟨hx, hb, hml, hown, hts⟩ (c_paperAt_gt l dC dI ad h0 d v0 v1 v2 v3 v4 (.ref ph) (.ref t0) v7 hgt1) (cwV 1 hts g_x_copy_c_paperAt_gt_256 rfl rfl rfl (by decide +kernel) ⟨(Nat.le_of_ble_eq_true rfl), (Nat.le_of_ble_eq_true rfl)⟩) ⟨preS_blind, va_recv hKc hPc (ci := 6) (q0 := 0) rfl rfl, fun U hU hW => ⟨rfl, preS_at hU hW hPc hKc hev⟩⟩ rfl rfl hl.1 rfl (lv_room (Nat.le_of_ble_eq_true rfl)) dX8_copy_9 ⟨(Nat.le_of_ble_eq_true rfl), (Nat.le_of_ble_eq_true rfl)⟩) (fun r_150 hw => ?_)
      subst hw
      refine pp_tv (y := .null) rfl ?_
      refine lv_astoreN (lv' := [(7, .null), (6, .ref p1), (0, .ref h0), (1, .int 1), (2, .int i), (3, .int d), (4, .int j), (5, .int n)]) hx hb dX8_copy_12 hl (by decide) rfl (fun ls hl => ?_)
      refine lv_aload hx hb dX8_copy_14 (lv_at hl 1 rfl) ?_
      refine lv_ifnull hx hb dX8_copy_16 ?_
      refine lv_aloadN hx hb dX8_copy_19 (lv_at hl 0 rfl) ?_
      refine lv_ifnonnullN hx hb dX8_copy_21 ?_
      refine lv_aload_n hx hb dX8_copy_24 rfl (lv_at hl 2 rfl) ?_
      refine lv_ldc hx hb hown (hts _ (List.mem_of_getElem? (i := 6) rfl)) dX8_copy_25 ?_
      have hPc := hP.sub (ws' := [(h0, .inr (6, [v0, v1, v2, v3, v4, .ref ph, .ref t0, v7])), (t0, .inl (tc, 7, .inl tf))]) [0, 1] rfl
      have hKc := hK.sub (tys' := [(tc, .int)]) [0] rfl
      have hDc := hD.sub (ws' := [(h0, .inr (6, [v0, v1, v2, v3, v4, .ref ph, .ref t0, v7])), (t0, .inl (tc, 7, .inl tf))]) [0, 1] (by decide) rfl
      have hFc := va_free (wc := [(h0, .inr (6, [v0, v1, v2, v3, v4, .ref ph, .ref t0, v7])), (t0, .inl (tc, 7, .inl tf))]) hD hS hA [0, 1] rfl
      refine va_calli (va_runV (As := [.int (-1000000001)]) (rest := []) ⟨hx, hb, hml, hown, hts⟩ (f_beyond l dC dI ad h0 v0 v1 v2 v3 v4 (.ref ph) t0 v7 tc tf s.heap.size ) (cwV 1 hts g_x_copy_f_beyond_63 rfl rfl rfl (by decide +kernel) ⟨(Nat.le_of_ble_eq_true rfl), (Nat.le_of_ble_eq_true rfl)⟩) ⟨preM_blind, va_recv hKc hPc (ci := 6) (q0 := 0) rfl rfl, fun U hU hW => ⟨rfl, preM_at hU hW hPc hKc hDc hev⟩⟩ rfl rfl hl.1 rfl (lv_room (Nat.le_of_ble_eq_true rfl)) dX8_copy_27 ⟨(Nat.le_of_ble_eq_true rfl), (Nat.le_of_ble_eq_true rfl)⟩) hS (fun q _ h => hFc q h) hFc (fun r_151 u t H1 locs ht hvm hw hB hz1 hk1 hS => ?_)
      obtain ⟨tg_152, hP1, hK1, hD1⟩ := hB
      rw [ht] at hP1
      have hK1 := va_K.moved hvm.symm hK1
      obtain ⟨hP, hD⟩ := va_join (wr := [(ph, .inl (pc, 4, .inr (.inr (.inr (.inr pf))))), (p0, .inr (0, [.int b0, .int z0, .ref n0])), (n0, .inl (nc0, 40, .inr (.inl g0))), (p1, .inr (0, [.int b1, .int z1, .ref n1])), (n1, .inl (nc1, 40, .inr (.inl g1))), (p2, .inr (0, [.int b2, .int z2, .ref n2])), (n2, .inl (nc2, 40, .inr (.inl g2))), (p3, .inr (0, [.int b3, .int z3, .ref n3])), (n3, .inl (nc3, 40, .inr (.inl g3)))]) (w1 := [(h0, .inr (6, [v0, v1, v2, v3, v4, .ref ph, .ref t0, v7])), (t0, .inl (tc, 7, .inl tg_152))]) hP hD [0, 1] [2, 3, 4, 5, 6, 7, 8, 9, 10] rfl rfl (by decide) (by decide) hk1 hFc hP1 hD1
      generalize H1 = H at hP hS ⊢
      have hP : va_P (dC, dI) vwCl [(ph, .inl (pc, 4, .inr (.inr (.inr (.inr pf))))), (p0, .inr (0, [.int b0, .int z0, .ref n0])), (n0, .inl (nc0, 40, .inr (.inl g0))), (p1, .inr (0, [.int b1, .int z1, .ref n1])), (n1, .inl (nc1, 40, .inr (.inl g1))), (p2, .inr (0, [.int b2, .int z2, .ref n2])), (n2, .inl (nc2, 40, .inr (.inl g2))), (p3, .inr (0, [.int b3, .int z3, .ref n3])), (n3, .inl (nc3, 40, .inr (.inl g3))), (h0, .inr (6, [v0, v1, v2, v3, v4, .ref ph, .ref t0, v7])), (t0, .inl (tc, 7, .inl tg_152))] H := hP
      have hD : va_D A [(ph, .inl (pc, 4, .inr (.inr (.inr (.inr pf))))), (p0, .inr (0, [.int b0, .int z0, .ref n0])), (n0, .inl (nc0, 40, .inr (.inl g0))), (p1, .inr (0, [.int b1, .int z1, .ref n1])), (n1, .inl (nc1, 40, .inr (.inl g1))), (p2, .inr (0, [.int b2, .int z2, .ref n2])), (n2, .inl (nc2, 40, .inr (.inl g2))), (p3, .inr (0, [.int b3, .int z3, .ref n3])), (n3, .inl (nc3, 40, .inr (.inl g3))), (h0, .inr (6, [v0, v1, v2, v3, v4, .ref ph, .ref t0, v7])), (t0, .inl (tc, 7, .inl tg_152))] := hD
      subst hw
      have hP9 := hP.sub (ws' := [(h0, .inr (6, [v0, v1, v2, v3, v4, .ref ph, .ref t0, v7])), (t0, .inl (tc, 7, .inl tg_152)), (ph, .inl (pc, 4, .inr (.inr (.inr (.inr pf))))), (p0, .inr (0, [.int b0, .int z0, .ref n0])), (n0, .inl (nc0, 40, .inr (.inl g0))), (p1, .inr (0, [.int b1, .int z1, .ref n1])), (n1, .inl (nc1, 40, .inr (.inl g1))), (p2, .inr (0, [.int b2, .int z2, .ref n2])), (n2, .inl (nc2, 40, .inr (.inl g2))), (p3, .inr (0, [.int b3, .int z3, .ref n3])), (n3, .inl (nc3, 40, .inr (.inl g3)))]) [9, 10, 0, 1, 2, 3, 4, 5, 6, 7, 8] rfl
      have hD9 := hD.sub (ws' := [(h0, .inr (6, [v0, v1, v2, v3, v4, .ref ph, .ref t0, v7])), (t0, .inl (tc, 7, .inl tg_152)), (ph, .inl (pc, 4, .inr (.inr (.inr (.inr pf))))), (p0, .inr (0, [.int b0, .int z0, .ref n0])), (n0, .inl (nc0, 40, .inr (.inl g0))), (p1, .inr (0, [.int b1, .int z1, .ref n1])), (n1, .inl (nc1, 40, .inr (.inl g1))), (p2, .inr (0, [.int b2, .int z2, .ref n2])), (n2, .inl (nc2, 40, .inr (.inl g2))), (p3, .inr (0, [.int b3, .int z3, .ref n3])), (n3, .inl (nc3, 40, .inr (.inl g3)))]) [9, 10, 0, 1, 2, 3, 4, 5, 6, 7, 8] (by decide) rfl
      have hK9 := hK.sub (tys' := [(tc, .int), (pc, .object "LampShapes$Paper"), (nc0, .long), (nc1, .long), (nc2, .long), (nc3, .long)]) [0, 1, 2, 3, 4, 5] rfl
      exact W.iret (v := ((-1000000001) : Int32)) hx hb hr (fun t ht hW => ⟨⟨((-1000000001) : Int32), (), rfl, trivial, tg_152, g0, g1, g2, g3, by rw [ht]; exact hP9, va_K.moved hW.alike hK9, hD9⟩, hS.F ht⟩) hS.2.2 dX8_copy_30
    · skip
      refine Met.ofW (cc := cX8_copy) (maxL := 8) (ret := (some .int)) (by decide) rfl ?_
      intro p e s m args below meth c s₁ B hml hv
      obtain ⟨rfl, hsz, hP, hK, hD0, hev⟩ := hv
      have hx := B.exec
      have hb := B.bytes
      have hr := B.returns
      have hts := atoms_spec (ws := w_x_copy) B.pre
      have hown : s.vm.findClass RX8 = some m.cls := findClass_of_methodNamed B.named
      have hlocks := B.notSynchronized
      have inX8 : ∀ w ∈ wsX80, w ∈ w_x_copy := fun w h => List.mem_cons_of_mem _ (List.mem_append_left _ (List.mem_append_right _ h))
      have inX2 : ∀ w ∈ wsX20, w ∈ w_x_copy := fun w h => List.mem_cons_of_mem _ (List.mem_append_right _ h)
      subst hsz
      have hD := hD0.self (sz := s.heap.size)
      generalize hAe : va_A [(h0, .inr (6, [v0, v1, v2, v3, v4, .ref ph, .ref t0, v7])), (t0, .inl (tc, 7, .inl tf)), (ph, .inl (pc, 4, .inr (.inr (.inr (.inr pf))))), (p0, .inr (0, [.int b0, .int z0, .ref n0])), (n0, .inl (nc0, 40, .inr (.inl g0))), (p1, .inr (0, [.int b1, .int z1, .ref n1])), (n1, .inl (nc1, 40, .inr (.inl g1))), (p2, .inr (0, [.int b2, .int z2, .ref n2])), (n2, .inl (nc2, 40, .inr (.inl g2))), (p3, .inr (0, [.int b3, .int z3, .ref n3])), (n3, .inl (nc3, 40, .inr (.inl g3)))] s.heap.size = A at hD ⊢
      have hA : ∀ q : Nat, s.heap.size ≤ q → A q := fun q h => by rw [← hAe]; exact Or.inr h
      have hS : va_S A s.heap s.heap [] := va_S.rf
      have hP : va_P (dC, dI) vwCl [(h0, .inr (6, [v0, v1, v2, v3, v4, .ref ph, .ref t0, v7])), (t0, .inl (tc, 7, .inl tf)), (ph, .inl (pc, 4, .inr (.inr (.inr (.inr pf))))), (p0, .inr (0, [.int b0, .int z0, .ref n0])), (n0, .inl (nc0, 40, .inr (.inl g0))), (p1, .inr (0, [.int b1, .int z1, .ref n1])), (n1, .inl (nc1, 40, .inr (.inl g1))), (p2, .inr (0, [.int b2, .int z2, .ref n2])), (n2, .inl (nc2, 40, .inr (.inl g2))), (p3, .inr (0, [.int b3, .int z3, .ref n3])), (n3, .inl (nc3, 40, .inr (.inl g3)))] s.heap := hP
      have hl := lv_entry ([.ref h0, .int 1, .int i, .int 0, .int j, .int n]) (n := 8) (Nat.le_of_ble_eq_true rfl)
      rw [lg_entry_eq]
      generalize (lg_sl ([.ref h0, .int 1, .int i, .int 0, .int j, .int n]) ++ List.replicate (8 - (lg_sl ([.ref h0, .int 1, .int i, .int 0, .int j, .int n])).length) Slot.unset).toArray = ls at hl ⊢
      have hl : lv_has ls 8 [(0, .ref h0), (1, .int 1), (2, .int i), (3, .int 0), (4, .int j), (5, .int n)] := hl
      refine lv_aload_n hx hb dX8_copy_0 rfl (lv_at hl 0 rfl) ?_
      refine lv_iload_n hx hb dX8_copy_1 rfl (lv_at hl 1 rfl) ?_
      have hPc := hP.sub (ws' := [(h0, .inr (6, [v0, v1, v2, v3, v4, .ref ph, .ref t0, v7])), (ph, .inl (pc, 4, .inr (.inr (.inr (.inr pf)))))]) [0, 2] rfl
      have hKc := hK.sub (tys' := [(pc, .object "LampShapes$Paper")]) [1] rfl
      refine va_csq (W.runV (As := [.int 1]) (rest := []) ⟨hx, hb, hml, hown, hts⟩ (c_paperAt_1 l dC dI ad h0 v0 v1 v2 v3 v4 ph (.ref t0) v7 pc pf p1 hp1) (cwV 1 hts g_x_copy_c_paperAt_1_256 rfl rfl rfl (by decide +kernel) ⟨(Nat.le_of_ble_eq_true rfl), (Nat.le_of_ble_eq_true rfl)⟩) ⟨preS_blind, va_recv hKc hPc (ci := 6) (q0 := 0) rfl rfl, fun U hU hW => ⟨rfl, preS_at hU hW hPc hKc hev⟩⟩ rfl rfl hl.1 rfl (lv_room (Nat.le_of_ble_eq_true rfl)) dX8_copy_2 ⟨(Nat.le_of_ble_eq_true rfl), (Nat.le_of_ble_eq_true rfl)⟩) (fun r_153 hw => ?_)
      subst hw
      refine pp_tv (y := .ref p1) rfl ?_
      refine lv_astore (lv' := [(6, .ref p1), (0, .ref h0), (1, .int 1), (2, .int i), (3, .int 0), (4, .int j), (5, .int n)]) hx hb dX8_copy_5 hl (by decide) rfl (fun ls hl => ?_)
      refine lv_aload_n hx hb dX8_copy_7 rfl (lv_at hl 1 rfl) ?_
      refine lv_iload_n hx hb dX8_copy_8 rfl (lv_at hl 4 rfl) ?_
      have hPc := hP.sub (ws' := [(h0, .inr (6, [v0, v1, v2, v3, v4, .ref ph, .ref t0, v7])), (ph, .inl (pc, 4, .inr (.inr (.inr (.inr pf)))))]) [0, 2] rfl
      have hKc := hK.sub (tys' := [(pc, .object "LampShapes$Paper")]) [1] rfl
      refine va_csq (W.runV (As := [.int 0]) (rest := []) ⟨hx, hb, hml, hown, hts⟩ (c_paperAt_0 l dC dI ad h0 v0 v1 v2 v3 v4 ph (.ref t0) v7 pc pf p0 hp0) (cwV 1 hts g_x_copy_c_paperAt_0_256 rfl rfl rfl (by decide +kernel) ⟨(Nat.le_of_ble_eq_true rfl), (Nat.le_of_ble_eq_true rfl)⟩) ⟨preS_blind, va_recv hKc hPc (ci := 6) (q0 := 0) rfl rfl, fun U hU hW => ⟨rfl, preS_at hU hW hPc hKc hev⟩⟩ rfl rfl hl.1 rfl (lv_room (Nat.le_of_ble_eq_true rfl)) dX8_copy_9 ⟨(Nat.le_of_ble_eq_true rfl), (Nat.le_of_ble_eq_true rfl)⟩) (fun r_154 hw => ?_)
      subst hw
      refine pp_tv (y := .ref p0) rfl ?_
      refine lv_astore (lv' := [(7, .ref p0), (6, .ref p1), (0, .ref h0), (1, .int 1), (2, .int i), (3, .int 0), (4, .int j), (5, .int n)]) hx hb dX8_copy_12 hl (by decide) rfl (fun ls hl => ?_)
      refine lv_aload hx hb dX8_copy_14 (lv_at hl 1 rfl) ?_
      refine lv_ifnull hx hb dX8_copy_16 ?_
      refine lv_aload hx hb dX8_copy_19 (lv_at hl 0 rfl) ?_
      refine lv_ifnonnull (tgt := 31) hx hb dX8_copy_21 (by decide) ?_
      refine lv_aload hx hb dX8_copy_31 (lv_at hl 1 rfl) ?_
      have hPc := hP.sub (ws' := [(p1, .inr (0, [.int b1, .int z1, .ref n1]))]) [5] rfl
      have hKc := hK.sub (tys' := []) [] rfl
      refine vp_callSi (W.runV (As := []) (rest := []) ⟨hx, hb, hml, hown, hts⟩ (p_isMissing l dC dI ad p1 b1 (.int z1) (.ref n1) ) (cwV 0 hts g_x_copy_p_isMissing_268 rfl rfl rfl (by decide +kernel) ⟨(Nat.le_of_ble_eq_true rfl), (Nat.le_of_ble_eq_true rfl)⟩) ⟨preS_blind, va_recv hKc hPc (ci := 0) (q0 := 0) rfl rfl, fun U hU hW => ⟨rfl, preS_at hU hW hPc hKc hev⟩⟩ rfl rfl hl.1 rfl (lv_room (Nat.le_of_ble_eq_true rfl)) dX8_copy_33 ⟨(Nat.le_of_ble_eq_true rfl), (Nat.le_of_ble_eq_true rfl)⟩) (fun r_155 hw => ?_)
      have hr_155 : (r_155.toInt = 1 ∧ b1.toInt = 0) ∨ (r_155.toInt = 0 ∧ ¬ b1.toInt = 0) := hw
      refine lv_if_ne (tgt := 47) hx hb dX8_copy_36 (by decide) (fun c_156 => ?_) (fun c_156 => ?_)
      · skip
        have tc_156 : ¬ r_155.toInt = 0 := fun h => c_156 ((fa_eq _ _).mpr h)
        refine lv_aload_n hx hb dX8_copy_47 rfl (lv_at hl 2 rfl) ?_
        refine lv_ldcw hx hb hown (hts _ (List.mem_of_getElem? (i := 19) rfl)) dX8_copy_48 ?_
        have hPc := hP.sub (ws' := [(h0, .inr (6, [v0, v1, v2, v3, v4, .ref ph, .ref t0, v7])), (t0, .inl (tc, 7, .inl tf))]) [0, 1] rfl
        have hKc := hK.sub (tys' := [(tc, .int)]) [0] rfl
        have hDc := hD.sub (ws' := [(h0, .inr (6, [v0, v1, v2, v3, v4, .ref ph, .ref t0, v7])), (t0, .inl (tc, 7, .inl tf))]) [0, 1] (by decide) rfl
        have hFc := va_free (wc := [(h0, .inr (6, [v0, v1, v2, v3, v4, .ref ph, .ref t0, v7])), (t0, .inl (tc, 7, .inl tf))]) hD hS hA [0, 1] rfl
        refine va_calli (va_runV (As := [.int (-1000000006)]) (rest := []) ⟨hx, hb, hml, hown, hts⟩ (f_missing l dC dI ad h0 v0 v1 v2 v3 v4 (.ref ph) t0 v7 tc tf s.heap.size ) (cwV 1 hts g_x_copy_f_missing_63 rfl rfl rfl (by decide +kernel) ⟨(Nat.le_of_ble_eq_true rfl), (Nat.le_of_ble_eq_true rfl)⟩) ⟨preM_blind, va_recv hKc hPc (ci := 6) (q0 := 0) rfl rfl, fun U hU hW => ⟨rfl, preM_at hU hW hPc hKc hDc hev⟩⟩ rfl rfl hl.1 rfl (lv_room (Nat.le_of_ble_eq_true rfl)) dX8_copy_51 ⟨(Nat.le_of_ble_eq_true rfl), (Nat.le_of_ble_eq_true rfl)⟩) hS (fun q _ h => hFc q h) hFc (fun r_157 u t H1 locs ht hvm hw hB hz1 hk1 hS => ?_)
        obtain ⟨tg_158, hP1, hK1, hD1⟩ := hB
        rw [ht] at hP1
        have hK1 := va_K.moved hvm.symm hK1
        obtain ⟨hP, hD⟩ := va_join (wr := [(ph, .inl (pc, 4, .inr (.inr (.inr (.inr pf))))), (p0, .inr (0, [.int b0, .int z0, .ref n0])), (n0, .inl (nc0, 40, .inr (.inl g0))), (p1, .inr (0, [.int b1, .int z1, .ref n1])), (n1, .inl (nc1, 40, .inr (.inl g1))), (p2, .inr (0, [.int b2, .int z2, .ref n2])), (n2, .inl (nc2, 40, .inr (.inl g2))), (p3, .inr (0, [.int b3, .int z3, .ref n3])), (n3, .inl (nc3, 40, .inr (.inl g3)))]) (w1 := [(h0, .inr (6, [v0, v1, v2, v3, v4, .ref ph, .ref t0, v7])), (t0, .inl (tc, 7, .inl tg_158))]) hP hD [0, 1] [2, 3, 4, 5, 6, 7, 8, 9, 10] rfl rfl (by decide) (by decide) hk1 hFc hP1 hD1
        generalize H1 = H at hP hS ⊢
        have hP : va_P (dC, dI) vwCl [(ph, .inl (pc, 4, .inr (.inr (.inr (.inr pf))))), (p0, .inr (0, [.int b0, .int z0, .ref n0])), (n0, .inl (nc0, 40, .inr (.inl g0))), (p1, .inr (0, [.int b1, .int z1, .ref n1])), (n1, .inl (nc1, 40, .inr (.inl g1))), (p2, .inr (0, [.int b2, .int z2, .ref n2])), (n2, .inl (nc2, 40, .inr (.inl g2))), (p3, .inr (0, [.int b3, .int z3, .ref n3])), (n3, .inl (nc3, 40, .inr (.inl g3))), (h0, .inr (6, [v0, v1, v2, v3, v4, .ref ph, .ref t0, v7])), (t0, .inl (tc, 7, .inl tg_158))] H := hP
        have hD : va_D A [(ph, .inl (pc, 4, .inr (.inr (.inr (.inr pf))))), (p0, .inr (0, [.int b0, .int z0, .ref n0])), (n0, .inl (nc0, 40, .inr (.inl g0))), (p1, .inr (0, [.int b1, .int z1, .ref n1])), (n1, .inl (nc1, 40, .inr (.inl g1))), (p2, .inr (0, [.int b2, .int z2, .ref n2])), (n2, .inl (nc2, 40, .inr (.inl g2))), (p3, .inr (0, [.int b3, .int z3, .ref n3])), (n3, .inl (nc3, 40, .inr (.inl g3))), (h0, .inr (6, [v0, v1, v2, v3, v4, .ref ph, .ref t0, v7])), (t0, .inl (tc, 7, .inl tg_158))] := hD
        subst hw
        have hP9 := hP.sub (ws' := [(h0, .inr (6, [v0, v1, v2, v3, v4, .ref ph, .ref t0, v7])), (t0, .inl (tc, 7, .inl tg_158)), (ph, .inl (pc, 4, .inr (.inr (.inr (.inr pf))))), (p0, .inr (0, [.int b0, .int z0, .ref n0])), (n0, .inl (nc0, 40, .inr (.inl g0))), (p1, .inr (0, [.int b1, .int z1, .ref n1])), (n1, .inl (nc1, 40, .inr (.inl g1))), (p2, .inr (0, [.int b2, .int z2, .ref n2])), (n2, .inl (nc2, 40, .inr (.inl g2))), (p3, .inr (0, [.int b3, .int z3, .ref n3])), (n3, .inl (nc3, 40, .inr (.inl g3)))]) [9, 10, 0, 1, 2, 3, 4, 5, 6, 7, 8] rfl
        have hD9 := hD.sub (ws' := [(h0, .inr (6, [v0, v1, v2, v3, v4, .ref ph, .ref t0, v7])), (t0, .inl (tc, 7, .inl tg_158)), (ph, .inl (pc, 4, .inr (.inr (.inr (.inr pf))))), (p0, .inr (0, [.int b0, .int z0, .ref n0])), (n0, .inl (nc0, 40, .inr (.inl g0))), (p1, .inr (0, [.int b1, .int z1, .ref n1])), (n1, .inl (nc1, 40, .inr (.inl g1))), (p2, .inr (0, [.int b2, .int z2, .ref n2])), (n2, .inl (nc2, 40, .inr (.inl g2))), (p3, .inr (0, [.int b3, .int z3, .ref n3])), (n3, .inl (nc3, 40, .inr (.inl g3)))]) [9, 10, 0, 1, 2, 3, 4, 5, 6, 7, 8] (by decide) rfl
        have hK9 := hK.sub (tys' := [(tc, .int), (pc, .object "LampShapes$Paper"), (nc0, .long), (nc1, .long), (nc2, .long), (nc3, .long)]) [0, 1, 2, 3, 4, 5] rfl
        exact W.iret (v := ((-1000000006) : Int32)) hx hb hr (fun t ht hW => ⟨⟨((-1000000006) : Int32), (), rfl, trivial, tg_158, g0, g1, g2, g3, by rw [ht]; exact hP9, va_K.moved hW.alike hK9, hD9⟩, hS.F ht⟩) hS.2.2 dX8_copy_54
      · skip
        have tc_156 : r_155.toInt = 0 := (fa_eq _ _).mp c_156
        refine lv_aload hx hb dX8_copy_39 (lv_at hl 0 rfl) ?_
        have hPc := hP.sub (ws' := [(p0, .inr (0, [.int b0, .int z0, .ref n0]))]) [3] rfl
        have hKc := hK.sub (tys' := []) [] rfl
        refine vp_callSi (W.runV (As := []) (rest := []) ⟨hx, hb, hml, hown, hts⟩ (p_isMissing l dC dI ad p0 b0 (.int z0) (.ref n0) ) (cwV 0 hts g_x_copy_p_isMissing_268 rfl rfl rfl (by decide +kernel) ⟨(Nat.le_of_ble_eq_true rfl), (Nat.le_of_ble_eq_true rfl)⟩) ⟨preS_blind, va_recv hKc hPc (ci := 0) (q0 := 0) rfl rfl, fun U hU hW => ⟨rfl, preS_at hU hW hPc hKc hev⟩⟩ rfl rfl hl.1 rfl (lv_room (Nat.le_of_ble_eq_true rfl)) dX8_copy_41 ⟨(Nat.le_of_ble_eq_true rfl), (Nat.le_of_ble_eq_true rfl)⟩) (fun r_159 hw => ?_)
        have hr_159 : (r_159.toInt = 1 ∧ b0.toInt = 0) ∨ (r_159.toInt = 0 ∧ ¬ b0.toInt = 0) := hw
        refine lv_if_eq (tgt := 55) hx hb dX8_copy_44 (by decide) (fun c_160 => ?_) (fun c_160 => ?_)
        · skip
          have tc_160 : r_159.toInt = 0 := (fa_eq _ _).mp c_160
          refine lv_aload hx hb dX8_copy_55 (lv_at hl 1 rfl) ?_
          refine va_getN (D := (dC, dI)) (ci := 0) (v := .int b1) (C := RX2) (T := TX2) (N := 3) hx hb hts inX2 hown hK hP 5 rfl rfl 0 (by decide) (ev_nest hev 21 rfl) (fun _ h9 => h9) rfl dX8_copy_57 ?_
          refine lv_aload hx hb dX8_copy_60 (lv_at hl 0 rfl) ?_
          refine va_getN (D := (dC, dI)) (ci := 0) (v := .int b0) (C := RX2) (T := TX2) (N := 3) hx hb hts inX2 hown hK hP 3 rfl rfl 0 (by decide) (ev_nest hev 21 rfl) (fun _ h9 => h9) rfl dX8_copy_62 ?_
          have rc_161_x := pp_rng b1
          have rc_161_y := pp_rng b0
          refine lv_icmp_eq (tgt := 75) hx hb dX8_copy_65 (by decide) (fun c_161 => ?_) (fun c_161 => ?_)
          · skip
            have tc_161 : b1.toInt = b0.toInt := (fa_eq _ _).mp c_161
            refine lv_aload hx hb dX8_copy_75 (lv_at hl 1 rfl) ?_
            refine lv_iload_n hx hb dX8_copy_77 rfl (lv_at hl 4 rfl) ?_
            refine lv_iload hx hb dX8_copy_78 (lv_at hl 7 rfl) ?_
            have hPc := hP.sub (ws' := [(p1, .inr (0, [.int b1, .int z1, .ref n1]))]) [5] rfl
            have hKc := hK.sub (tys' := []) [] rfl
            refine vp_callSi (W.runV (As := [.int i, .int n]) (rest := []) ⟨hx, hb, hml, hown, hts⟩ (p_hasPart l dC dI ad p1 i n (.int b1) z1 (.ref n1) hz1) (cwV 2 hts g_x_copy_p_hasPart_282 rfl rfl rfl (by decide +kernel) ⟨(Nat.le_of_ble_eq_true rfl), (Nat.le_of_ble_eq_true rfl)⟩) ⟨preS_blind, va_recv hKc hPc (ci := 0) (q0 := 0) rfl rfl, fun U hU hW => ⟨rfl, preS_at hU hW hPc hKc hev⟩⟩ rfl rfl hl.1 rfl (lv_room (Nat.le_of_ble_eq_true rfl)) dX8_copy_80 ⟨(Nat.le_of_ble_eq_true rfl), (Nat.le_of_ble_eq_true rfl)⟩) (fun r_162 hw => ?_)
            have hr_162 : (r_162.toInt = 1 ∧ 0 ≤ i.toInt ∧ 0 ≤ n.toInt ∧ i.toInt + n.toInt ≤ z1.toInt) ∨ (r_162.toInt = 0 ∧ ¬ (0 ≤ i.toInt ∧ 0 ≤ n.toInt ∧ i.toInt + n.toInt ≤ z1.toInt)) := hw
            refine lv_if_eq (tgt := 98) hx hb dX8_copy_83 (by decide) (fun c_163 => ?_) (fun c_163 => ?_)
            · skip
              have tc_163 : r_162.toInt = 0 := (fa_eq _ _).mp c_163
              refine lv_aload_n hx hb dX8_copy_98 rfl (lv_at hl 2 rfl) ?_
              refine lv_ldc hx hb hown (hts _ (List.mem_of_getElem? (i := 6) rfl)) dX8_copy_99 ?_
              have hPc := hP.sub (ws' := [(h0, .inr (6, [v0, v1, v2, v3, v4, .ref ph, .ref t0, v7])), (t0, .inl (tc, 7, .inl tf))]) [0, 1] rfl
              have hKc := hK.sub (tys' := [(tc, .int)]) [0] rfl
              have hDc := hD.sub (ws' := [(h0, .inr (6, [v0, v1, v2, v3, v4, .ref ph, .ref t0, v7])), (t0, .inl (tc, 7, .inl tf))]) [0, 1] (by decide) rfl
              have hFc := va_free (wc := [(h0, .inr (6, [v0, v1, v2, v3, v4, .ref ph, .ref t0, v7])), (t0, .inl (tc, 7, .inl tf))]) hD hS hA [0, 1] rfl
              refine va_calli (va_runV (As := [.int (-1000000001)]) (rest := []) ⟨hx, hb, hml, hown, hts⟩ (f_beyond l dC dI ad h0 v0 v1 v2 v3 v4 (.ref ph) t0 v7 tc tf s.heap.size ) (cwV 1 hts g_x_copy_f_beyond_63 rfl rfl rfl (by decide +kernel) ⟨(Nat.le_of_ble_eq_true rfl), (Nat.le_of_ble_eq_true rfl)⟩) ⟨preM_blind, va_recv hKc hPc (ci := 6) (q0 := 0) rfl rfl, fun U hU hW => ⟨rfl, preM_at hU hW hPc hKc hDc hev⟩⟩ rfl rfl hl.1 rfl (lv_room (Nat.le_of_ble_eq_true rfl)) dX8_copy_101 ⟨(Nat.le_of_ble_eq_true rfl), (Nat.le_of_ble_eq_true rfl)⟩) hS (fun q _ h => hFc q h) hFc (fun r_164 u t H1 locs ht hvm hw hB hz1 hk1 hS => ?_)
              obtain ⟨tg_165, hP1, hK1, hD1⟩ := hB
              rw [ht] at hP1
              have hK1 := va_K.moved hvm.symm hK1
              obtain ⟨hP, hD⟩ := va_join (wr := [(ph, .inl (pc, 4, .inr (.inr (.inr (.inr pf))))), (p0, .inr (0, [.int b0, .int z0, .ref n0])), (n0, .inl (nc0, 40, .inr (.inl g0))), (p1, .inr (0, [.int b1, .int z1, .ref n1])), (n1, .inl (nc1, 40, .inr (.inl g1))), (p2, .inr (0, [.int b2, .int z2, .ref n2])), (n2, .inl (nc2, 40, .inr (.inl g2))), (p3, .inr (0, [.int b3, .int z3, .ref n3])), (n3, .inl (nc3, 40, .inr (.inl g3)))]) (w1 := [(h0, .inr (6, [v0, v1, v2, v3, v4, .ref ph, .ref t0, v7])), (t0, .inl (tc, 7, .inl tg_165))]) hP hD [0, 1] [2, 3, 4, 5, 6, 7, 8, 9, 10] rfl rfl (by decide) (by decide) hk1 hFc hP1 hD1
              generalize H1 = H at hP hS ⊢
              have hP : va_P (dC, dI) vwCl [(ph, .inl (pc, 4, .inr (.inr (.inr (.inr pf))))), (p0, .inr (0, [.int b0, .int z0, .ref n0])), (n0, .inl (nc0, 40, .inr (.inl g0))), (p1, .inr (0, [.int b1, .int z1, .ref n1])), (n1, .inl (nc1, 40, .inr (.inl g1))), (p2, .inr (0, [.int b2, .int z2, .ref n2])), (n2, .inl (nc2, 40, .inr (.inl g2))), (p3, .inr (0, [.int b3, .int z3, .ref n3])), (n3, .inl (nc3, 40, .inr (.inl g3))), (h0, .inr (6, [v0, v1, v2, v3, v4, .ref ph, .ref t0, v7])), (t0, .inl (tc, 7, .inl tg_165))] H := hP
              have hD : va_D A [(ph, .inl (pc, 4, .inr (.inr (.inr (.inr pf))))), (p0, .inr (0, [.int b0, .int z0, .ref n0])), (n0, .inl (nc0, 40, .inr (.inl g0))), (p1, .inr (0, [.int b1, .int z1, .ref n1])), (n1, .inl (nc1, 40, .inr (.inl g1))), (p2, .inr (0, [.int b2, .int z2, .ref n2])), (n2, .inl (nc2, 40, .inr (.inl g2))), (p3, .inr (0, [.int b3, .int z3, .ref n3])), (n3, .inl (nc3, 40, .inr (.inl g3))), (h0, .inr (6, [v0, v1, v2, v3, v4, .ref ph, .ref t0, v7])), (t0, .inl (tc, 7, .inl tg_165))] := hD
              subst hw
              have hP9 := hP.sub (ws' := [(h0, .inr (6, [v0, v1, v2, v3, v4, .ref ph, .ref t0, v7])), (t0, .inl (tc, 7, .inl tg_165)), (ph, .inl (pc, 4, .inr (.inr (.inr (.inr pf))))), (p0, .inr (0, [.int b0, .int z0, .ref n0])), (n0, .inl (nc0, 40, .inr (.inl g0))), (p1, .inr (0, [.int b1, .int z1, .ref n1])), (n1, .inl (nc1, 40, .inr (.inl g1))), (p2, .inr (0, [.int b2, .int z2, .ref n2])), (n2, .inl (nc2, 40, .inr (.inl g2))), (p3, .inr (0, [.int b3, .int z3, .ref n3])), (n3, .inl (nc3, 40, .inr (.inl g3)))]) [9, 10, 0, 1, 2, 3, 4, 5, 6, 7, 8] rfl
              have hD9 := hD.sub (ws' := [(h0, .inr (6, [v0, v1, v2, v3, v4, .ref ph, .ref t0, v7])), (t0, .inl (tc, 7, .inl tg_165)), (ph, .inl (pc, 4, .inr (.inr (.inr (.inr pf))))), (p0, .inr (0, [.int b0, .int z0, .ref n0])), (n0, .inl (nc0, 40, .inr (.inl g0))), (p1, .inr (0, [.int b1, .int z1, .ref n1])), (n1, .inl (nc1, 40, .inr (.inl g1))), (p2, .inr (0, [.int b2, .int z2, .ref n2])), (n2, .inl (nc2, 40, .inr (.inl g2))), (p3, .inr (0, [.int b3, .int z3, .ref n3])), (n3, .inl (nc3, 40, .inr (.inl g3)))]) [9, 10, 0, 1, 2, 3, 4, 5, 6, 7, 8] (by decide) rfl
              have hK9 := hK.sub (tys' := [(tc, .int), (pc, .object "LampShapes$Paper"), (nc0, .long), (nc1, .long), (nc2, .long), (nc3, .long)]) [0, 1, 2, 3, 4, 5] rfl
              exact W.iret (v := ((-1000000001) : Int32)) hx hb hr (fun t ht hW => ⟨⟨((-1000000001) : Int32), (), rfl, trivial, tg_165, g0, g1, g2, g3, by rw [ht]; exact hP9, va_K.moved hW.alike hK9, hD9⟩, hS.F ht⟩) hS.2.2 dX8_copy_104
            · skip
              have tc_163 : ¬ r_162.toInt = 0 := fun h => c_163 ((fa_eq _ _).mpr h)
              refine lv_aload hx hb dX8_copy_86 (lv_at hl 0 rfl) ?_
              refine lv_iload hx hb dX8_copy_88 (lv_at hl 6 rfl) ?_
              refine lv_iload hx hb dX8_copy_90 (lv_at hl 7 rfl) ?_
              have hPc := hP.sub (ws' := [(p0, .inr (0, [.int b0, .int z0, .ref n0]))]) [3] rfl
              have hKc := hK.sub (tys' := []) [] rfl
              refine vp_callSi (W.runV (As := [.int j, .int n]) (rest := []) ⟨hx, hb, hml, hown, hts⟩ (p_hasPart l dC dI ad p0 j n (.int b0) z0 (.ref n0) hz0) (cwV 2 hts g_x_copy_p_hasPart_282 rfl rfl rfl (by decide +kernel) ⟨(Nat.le_of_ble_eq_true rfl), (Nat.le_of_ble_eq_true rfl)⟩) ⟨preS_blind, va_recv hKc hPc (ci := 0) (q0 := 0) rfl rfl, fun U hU hW => ⟨rfl, preS_at hU hW hPc hKc hev⟩⟩ rfl rfl hl.1 rfl (lv_room (Nat.le_of_ble_eq_true rfl)) dX8_copy_92 ⟨(Nat.le_of_ble_eq_true rfl), (Nat.le_of_ble_eq_true rfl)⟩) (fun r_166 hw => ?_)
              have hr_166 : (r_166.toInt = 1 ∧ 0 ≤ j.toInt ∧ 0 ≤ n.toInt ∧ j.toInt + n.toInt ≤ z0.toInt) ∨ (r_166.toInt = 0 ∧ ¬ (0 ≤ j.toInt ∧ 0 ≤ n.toInt ∧ j.toInt + n.toInt ≤ z0.toInt)) := hw
              refine lv_if_ne (tgt := 105) hx hb dX8_copy_95 (by decide) (fun c_167 => ?_) (fun c_167 => ?_)
              · skip
                have tc_167 : ¬ r_166.toInt = 0 := fun h => c_167 ((fa_eq _ _).mpr h)
                refine lv_aload hx hb dX8_copy_105 (lv_at hl 1 rfl) ?_
                refine va_getN (D := (dC, dI)) (ci := 0) (v := .ref n1) (C := RX2) (T := TX2) (N := 3) hx hb hts inX2 hown hK hP 5 rfl rfl 2 (by decide) (ev_nest hev 23 rfl) (fun _ h9 => h9) rfl dX8_copy_107 ?_
                refine lv_iload_n hx hb dX8_copy_110 rfl (lv_at hl 4 rfl) ?_
                refine lv_aload hx hb dX8_copy_111 (lv_at hl 0 rfl) ?_
                refine va_getN (D := (dC, dI)) (ci := 0) (v := .ref n0) (C := RX2) (T := TX2) (N := 3) hx hb hts inX2 hown hK hP 3 rfl rfl 2 (by decide) (ev_nest hev 23 rfl) (fun _ h9 => h9) rfl dX8_copy_113 ?_
                refine lv_iload hx hb dX8_copy_116 (lv_at hl 6 rfl) ?_
                refine lv_iload hx hb dX8_copy_118 (lv_at hl 7 rfl) ?_
                refine va_copyl (ty := .long) hx hb (by rw [hml]; exact hl.1.symm) hown (hts _ (List.mem_of_getElem? (i := 25) rfl)) (hts _ (List.mem_of_getElem? (i := 26) rfl)) (hts _ (List.mem_of_getElem? (i := 27) rfl)) (hts _ (List.mem_of_getElem? (i := 28) rfl)) hK hP hD hS 6 4 3 2 rfl rfl rfl rfl rfl (fun h => absurd ((fa_lt _ _).mp h) (by show ¬ i.toInt < 0; omega)) (fun h => absurd ((fa_lt _ _).mp h) (by show ¬ j.toInt < 0; omega)) (fun h => absurd ((fa_lt _ _).mp h) (by show ¬ n.toInt < 0; omega)) (by show i.toInt.toNat + n.toInt.toNat ≤ 40; omega) (by show j.toInt.toNat + n.toInt.toNat ≤ 40; omega) (fun _ _ => rfl) (Nat.le_of_ble_eq_true rfl) (Nat.le_of_ble_eq_true rfl) dX8_copy_120 (fun H locs hP hD hS => ?_)
                generalize va_cpy g1 g0 i.toNatClampNeg j.toNatClampNeg n.toNatClampNeg = f_168 at hP hD
                have hP : va_P (dC, dI) vwCl [(h0, .inr (6, [v0, v1, v2, v3, v4, .ref ph, .ref t0, v7])), (t0, .inl (tc, 7, .inl tf)), (ph, .inl (pc, 4, .inr (.inr (.inr (.inr pf))))), (p0, .inr (0, [.int b0, .int z0, .ref n0])), (n0, .inl (nc0, 40, .inr (.inl f_168))), (p1, .inr (0, [.int b1, .int z1, .ref n1])), (n1, .inl (nc1, 40, .inr (.inl g1))), (p2, .inr (0, [.int b2, .int z2, .ref n2])), (n2, .inl (nc2, 40, .inr (.inl g2))), (p3, .inr (0, [.int b3, .int z3, .ref n3])), (n3, .inl (nc3, 40, .inr (.inl g3)))] H := hP
                have hD : va_D A [(h0, .inr (6, [v0, v1, v2, v3, v4, .ref ph, .ref t0, v7])), (t0, .inl (tc, 7, .inl tf)), (ph, .inl (pc, 4, .inr (.inr (.inr (.inr pf))))), (p0, .inr (0, [.int b0, .int z0, .ref n0])), (n0, .inl (nc0, 40, .inr (.inl f_168))), (p1, .inr (0, [.int b1, .int z1, .ref n1])), (n1, .inl (nc1, 40, .inr (.inl g1))), (p2, .inr (0, [.int b2, .int z2, .ref n2])), (n2, .inl (nc2, 40, .inr (.inl g2))), (p3, .inr (0, [.int b3, .int z3, .ref n3])), (n3, .inl (nc3, 40, .inr (.inl g3)))] := hD
                refine lv_iload hx hb dX8_copy_123 (lv_at hl 7 rfl) ?_
                have hP9 := hP.sub (ws' := [(h0, .inr (6, [v0, v1, v2, v3, v4, .ref ph, .ref t0, v7])), (t0, .inl (tc, 7, .inl tf)), (ph, .inl (pc, 4, .inr (.inr (.inr (.inr pf))))), (p0, .inr (0, [.int b0, .int z0, .ref n0])), (n0, .inl (nc0, 40, .inr (.inl f_168))), (p1, .inr (0, [.int b1, .int z1, .ref n1])), (n1, .inl (nc1, 40, .inr (.inl g1))), (p2, .inr (0, [.int b2, .int z2, .ref n2])), (n2, .inl (nc2, 40, .inr (.inl g2))), (p3, .inr (0, [.int b3, .int z3, .ref n3])), (n3, .inl (nc3, 40, .inr (.inl g3)))]) [0, 1, 2, 3, 4, 5, 6, 7, 8, 9, 10] rfl
                have hD9 := hD.sub (ws' := [(h0, .inr (6, [v0, v1, v2, v3, v4, .ref ph, .ref t0, v7])), (t0, .inl (tc, 7, .inl tf)), (ph, .inl (pc, 4, .inr (.inr (.inr (.inr pf))))), (p0, .inr (0, [.int b0, .int z0, .ref n0])), (n0, .inl (nc0, 40, .inr (.inl f_168))), (p1, .inr (0, [.int b1, .int z1, .ref n1])), (n1, .inl (nc1, 40, .inr (.inl g1))), (p2, .inr (0, [.int b2, .int z2, .ref n2])), (n2, .inl (nc2, 40, .inr (.inl g2))), (p3, .inr (0, [.int b3, .int z3, .ref n3])), (n3, .inl (nc3, 40, .inr (.inl g3)))]) [0, 1, 2, 3, 4, 5, 6, 7, 8, 9, 10] (by decide) rfl
                have hK9 := hK.sub (tys' := [(tc, .int), (pc, .object "LampShapes$Paper"), (nc0, .long), (nc1, .long), (nc2, .long), (nc3, .long)]) [0, 1, 2, 3, 4, 5] rfl
                exact W.iret (v := n) hx hb hr (fun t ht hW => ⟨⟨n, (), rfl, trivial, tf, f_168, g1, g2, g3, by rw [ht]; exact hP9, va_K.moved hW.alike hK9, hD9⟩, hS.F ht⟩) hS.2.2 dX8_copy_125
              · skip
                have tc_167 : r_166.toInt = 0 := (fa_eq _ _).mp c_167
                refine lv_aload_n hx hb dX8_copy_98 rfl (lv_at hl 2 rfl) ?_
                refine lv_ldc hx hb hown (hts _ (List.mem_of_getElem? (i := 6) rfl)) dX8_copy_99 ?_
                have hPc := hP.sub (ws' := [(h0, .inr (6, [v0, v1, v2, v3, v4, .ref ph, .ref t0, v7])), (t0, .inl (tc, 7, .inl tf))]) [0, 1] rfl
                have hKc := hK.sub (tys' := [(tc, .int)]) [0] rfl
                have hDc := hD.sub (ws' := [(h0, .inr (6, [v0, v1, v2, v3, v4, .ref ph, .ref t0, v7])), (t0, .inl (tc, 7, .inl tf))]) [0, 1] (by decide) rfl
                have hFc := va_free (wc := [(h0, .inr (6, [v0, v1, v2, v3, v4, .ref ph, .ref t0, v7])), (t0, .inl (tc, 7, .inl tf))]) hD hS hA [0, 1] rfl
                refine va_calli (va_runV (As := [.int (-1000000001)]) (rest := []) ⟨hx, hb, hml, hown, hts⟩ (f_beyond l dC dI ad h0 v0 v1 v2 v3 v4 (.ref ph) t0 v7 tc tf s.heap.size ) (cwV 1 hts g_x_copy_f_beyond_63 rfl rfl rfl (by decide +kernel) ⟨(Nat.le_of_ble_eq_true rfl), (Nat.le_of_ble_eq_true rfl)⟩) ⟨preM_blind, va_recv hKc hPc (ci := 6) (q0 := 0) rfl rfl, fun U hU hW => ⟨rfl, preM_at hU hW hPc hKc hDc hev⟩⟩ rfl rfl hl.1 rfl (lv_room (Nat.le_of_ble_eq_true rfl)) dX8_copy_101 ⟨(Nat.le_of_ble_eq_true rfl), (Nat.le_of_ble_eq_true rfl)⟩) hS (fun q _ h => hFc q h) hFc (fun r_169 u t H1 locs ht hvm hw hB hz1 hk1 hS => ?_)
                obtain ⟨tg_170, hP1, hK1, hD1⟩ := hB
                rw [ht] at hP1
                have hK1 := va_K.moved hvm.symm hK1
                obtain ⟨hP, hD⟩ := va_join (wr := [(ph, .inl (pc, 4, .inr (.inr (.inr (.inr pf))))), (p0, .inr (0, [.int b0, .int z0, .ref n0])), (n0, .inl (nc0, 40, .inr (.inl g0))), (p1, .inr (0, [.int b1, .int z1, .ref n1])), (n1, .inl (nc1, 40, .inr (.inl g1))), (p2, .inr (0, [.int b2, .int z2, .ref n2])), (n2, .inl (nc2, 40, .inr (.inl g2))), (p3, .inr (0, [.int b3, .int z3, .ref n3])), (n3, .inl (nc3, 40, .inr (.inl g3)))]) (w1 := [(h0, .inr (6, [v0, v1, v2, v3, v4, .ref ph, .ref t0, v7])), (t0, .inl (tc, 7, .inl tg_170))]) hP hD [0, 1] [2, 3, 4, 5, 6, 7, 8, 9, 10] rfl rfl (by decide) (by decide) hk1 hFc hP1 hD1
                generalize H1 = H at hP hS ⊢
                have hP : va_P (dC, dI) vwCl [(ph, .inl (pc, 4, .inr (.inr (.inr (.inr pf))))), (p0, .inr (0, [.int b0, .int z0, .ref n0])), (n0, .inl (nc0, 40, .inr (.inl g0))), (p1, .inr (0, [.int b1, .int z1, .ref n1])), (n1, .inl (nc1, 40, .inr (.inl g1))), (p2, .inr (0, [.int b2, .int z2, .ref n2])), (n2, .inl (nc2, 40, .inr (.inl g2))), (p3, .inr (0, [.int b3, .int z3, .ref n3])), (n3, .inl (nc3, 40, .inr (.inl g3))), (h0, .inr (6, [v0, v1, v2, v3, v4, .ref ph, .ref t0, v7])), (t0, .inl (tc, 7, .inl tg_170))] H := hP
                have hD : va_D A [(ph, .inl (pc, 4, .inr (.inr (.inr (.inr pf))))), (p0, .inr (0, [.int b0, .int z0, .ref n0])), (n0, .inl (nc0, 40, .inr (.inl g0))), (p1, .inr (0, [.int b1, .int z1, .ref n1])), (n1, .inl (nc1, 40, .inr (.inl g1))), (p2, .inr (0, [.int b2, .int z2, .ref n2])), (n2, .inl (nc2, 40, .inr (.inl g2))), (p3, .inr (0, [.int b3, .int z3, .ref n3])), (n3, .inl (nc3, 40, .inr (.inl g3))), (h0, .inr (6, [v0, v1, v2, v3, v4, .ref ph, .ref t0, v7])), (t0, .inl (tc, 7, .inl tg_170))] := hD
                subst hw
                have hP9 := hP.sub (ws' := [(h0, .inr (6, [v0, v1, v2, v3, v4, .ref ph, .ref t0, v7])), (t0, .inl (tc, 7, .inl tg_170)), (ph, .inl (pc, 4, .inr (.inr (.inr (.inr pf))))), (p0, .inr (0, [.int b0, .int z0, .ref n0])), (n0, .inl (nc0, 40, .inr (.inl g0))), (p1, .inr (0, [.int b1, .int z1, .ref n1])), (n1, .inl (nc1, 40, .inr (.inl g1))), (p2, .inr (0, [.int b2, .int z2, .ref n2])), (n2, .inl (nc2, 40, .inr (.inl g2))), (p3, .inr (0, [.int b3, .int z3, .ref n3])), (n3, .inl (nc3, 40, .inr (.inl g3)))]) [9, 10, 0, 1, 2, 3, 4, 5, 6, 7, 8] rfl
                have hD9 := hD.sub (ws' := [(h0, .inr (6, [v0, v1, v2, v3, v4, .ref ph, .ref t0, v7])), (t0, .inl (tc, 7, .inl tg_170)), (ph, .inl (pc, 4, .inr (.inr (.inr (.inr pf))))), (p0, .inr (0, [.int b0, .int z0, .ref n0])), (n0, .inl (nc0, 40, .inr (.inl g0))), (p1, .inr (0, [.int b1, .int z1, .ref n1])), (n1, .inl (nc1, 40, .inr (.inl g1))), (p2, .inr (0, [.int b2, .int z2, .ref n2])), (n2, .inl (nc2, 40, .inr (.inl g2))), (p3, .inr (0, [.int b3, .int z3, .ref n3])), (n3, .inl (nc3, 40, .inr (.inl g3)))]) [9, 10, 0, 1, 2, 3, 4, 5, 6, 7, 8] (by decide) rfl
                have hK9 := hK.sub (tys' := [(tc, .int), (pc, .object "LampShapes$Paper"), (nc0, .long), (nc1, .long), (nc2, .long), (nc3, .long)]) [0, 1, 2, 3, 4, 5] rfl
                exact W.iret (v := ((-1000000001) : Int32)) hx hb hr (fun t ht hW => ⟨⟨((-1000000001) : Int32), (), rfl, trivial, tg_170, g0, g1, g2, g3, by rw [ht]; exact hP9, va_K.moved hW.alike hK9, hD9⟩, hS.F ht⟩) hS.2.2 dX8_copy_104
          · skip
            have tc_161 : ¬ b1.toInt = b0.toInt := fun h => c_161 ((fa_eq _ _).mpr h)
            refine lv_aload_n hx hb dX8_copy_68 rfl (lv_at hl 2 rfl) ?_
            refine lv_ldc hx hb hown (hts _ (List.mem_of_getElem? (i := 29) rfl)) dX8_copy_69 ?_
            have hPc := hP.sub (ws' := [(h0, .inr (6, [v0, v1, v2, v3, v4, .ref ph, .ref t0, v7])), (t0, .inl (tc, 7, .inl tf))]) [0, 1] rfl
            have hKc := hK.sub (tys' := [(tc, .int)]) [0] rfl
            have hDc := hD.sub (ws' := [(h0, .inr (6, [v0, v1, v2, v3, v4, .ref ph, .ref t0, v7])), (t0, .inl (tc, 7, .inl tf))]) [0, 1] (by decide) rfl
            have hFc := va_free (wc := [(h0, .inr (6, [v0, v1, v2, v3, v4, .ref ph, .ref t0, v7])), (t0, .inl (tc, 7, .inl tf))]) hD hS hA [0, 1] rfl
            refine va_calli (va_runV (As := [.int (-1000000003)]) (rest := []) ⟨hx, hb, hml, hown, hts⟩ (f_kind l dC dI ad h0 v0 v1 v2 v3 v4 (.ref ph) t0 v7 tc tf s.heap.size ) (cwV 1 hts g_x_copy_f_kind_63 rfl rfl rfl (by decide +kernel) ⟨(Nat.le_of_ble_eq_true rfl), (Nat.le_of_ble_eq_true rfl)⟩) ⟨preM_blind, va_recv hKc hPc (ci := 6) (q0 := 0) rfl rfl, fun U hU hW => ⟨rfl, preM_at hU hW hPc hKc hDc hev⟩⟩ rfl rfl hl.1 rfl (lv_room (Nat.le_of_ble_eq_true rfl)) dX8_copy_71 ⟨(Nat.le_of_ble_eq_true rfl), (Nat.le_of_ble_eq_true rfl)⟩) hS (fun q _ h => hFc q h) hFc (fun r_171 u t H1 locs ht hvm hw hB hz1 hk1 hS => ?_)
            obtain ⟨tg_172, hP1, hK1, hD1⟩ := hB
            rw [ht] at hP1
            have hK1 := va_K.moved hvm.symm hK1
            obtain ⟨hP, hD⟩ := va_join (wr := [(ph, .inl (pc, 4, .inr (.inr (.inr (.inr pf))))), (p0, .inr (0, [.int b0, .int z0, .ref n0])), (n0, .inl (nc0, 40, .inr (.inl g0))), (p1, .inr (0, [.int b1, .int z1, .ref n1])), (n1, .inl (nc1, 40, .inr (.inl g1))), (p2, .inr (0, [.int b2, .int z2, .ref n2])), (n2, .inl (nc2, 40, .inr (.inl g2))), (p3, .inr (0, [.int b3, .int z3, .ref n3])), (n3, .inl (nc3, 40, .inr (.inl g3)))]) (w1 := [(h0, .inr (6, [v0, v1, v2, v3, v4, .ref ph, .ref t0, v7])), (t0, .inl (tc, 7, .inl tg_172))]) hP hD [0, 1] [2, 3, 4, 5, 6, 7, 8, 9, 10] rfl rfl (by decide) (by decide) hk1 hFc hP1 hD1
            generalize H1 = H at hP hS ⊢
            have hP : va_P (dC, dI) vwCl [(ph, .inl (pc, 4, .inr (.inr (.inr (.inr pf))))), (p0, .inr (0, [.int b0, .int z0, .ref n0])), (n0, .inl (nc0, 40, .inr (.inl g0))), (p1, .inr (0, [.int b1, .int z1, .ref n1])), (n1, .inl (nc1, 40, .inr (.inl g1))), (p2, .inr (0, [.int b2, .int z2, .ref n2])), (n2, .inl (nc2, 40, .inr (.inl g2))), (p3, .inr (0, [.int b3, .int z3, .ref n3])), (n3, .inl (nc3, 40, .inr (.inl g3))), (h0, .inr (6, [v0, v1, v2, v3, v4, .ref ph, .ref t0, v7])), (t0, .inl (tc, 7, .inl tg_172))] H := hP
            have hD : va_D A [(ph, .inl (pc, 4, .inr (.inr (.inr (.inr pf))))), (p0, .inr (0, [.int b0, .int z0, .ref n0])), (n0, .inl (nc0, 40, .inr (.inl g0))), (p1, .inr (0, [.int b1, .int z1, .ref n1])), (n1, .inl (nc1, 40, .inr (.inl g1))), (p2, .inr (0, [.int b2, .int z2, .ref n2])), (n2, .inl (nc2, 40, .inr (.inl g2))), (p3, .inr (0, [.int b3, .int z3, .ref n3])), (n3, .inl (nc3, 40, .inr (.inl g3))), (h0, .inr (6, [v0, v1, v2, v3, v4, .ref ph, .ref t0, v7])), (t0, .inl (tc, 7, .inl tg_172))] := hD
            subst hw
            have hP9 := hP.sub (ws' := [(h0, .inr (6, [v0, v1, v2, v3, v4, .ref ph, .ref t0, v7])), (t0, .inl (tc, 7, .inl tg_172)), (ph, .inl (pc, 4, .inr (.inr (.inr (.inr pf))))), (p0, .inr (0, [.int b0, .int z0, .ref n0])), (n0, .inl (nc0, 40, .inr (.inl g0))), (p1, .inr (0, [.int b1, .int z1, .ref n1])), (n1, .inl (nc1, 40, .inr (.inl g1))), (p2, .inr (0, [.int b2, .int z2, .ref n2])), (n2, .inl (nc2, 40, .inr (.inl g2))), (p3, .inr (0, [.int b3, .int z3, .ref n3])), (n3, .inl (nc3, 40, .inr (.inl g3)))]) [9, 10, 0, 1, 2, 3, 4, 5, 6, 7, 8] rfl
            have hD9 := hD.sub (ws' := [(h0, .inr (6, [v0, v1, v2, v3, v4, .ref ph, .ref t0, v7])), (t0, .inl (tc, 7, .inl tg_172)), (ph, .inl (pc, 4, .inr (.inr (.inr (.inr pf))))), (p0, .inr (0, [.int b0, .int z0, .ref n0])), (n0, .inl (nc0, 40, .inr (.inl g0))), (p1, .inr (0, [.int b1, .int z1, .ref n1])), (n1, .inl (nc1, 40, .inr (.inl g1))), (p2, .inr (0, [.int b2, .int z2, .ref n2])), (n2, .inl (nc2, 40, .inr (.inl g2))), (p3, .inr (0, [.int b3, .int z3, .ref n3])), (n3, .inl (nc3, 40, .inr (.inl g3)))]) [9, 10, 0, 1, 2, 3, 4, 5, 6, 7, 8] (by decide) rfl
            have hK9 := hK.sub (tys' := [(tc, .int), (pc, .object "LampShapes$Paper"), (nc0, .long), (nc1, .long), (nc2, .long), (nc3, .long)]) [0, 1, 2, 3, 4, 5] rfl
            exact W.iret (v := ((-1000000003) : Int32)) hx hb hr (fun t ht hW => ⟨⟨((-1000000003) : Int32), (), rfl, trivial, tg_172, g0, g1, g2, g3, by rw [ht]; exact hP9, va_K.moved hW.alike hK9, hD9⟩, hS.F ht⟩) hS.2.2 dX8_copy_74
        · skip
          have tc_160 : ¬ r_159.toInt = 0 := fun h => c_160 ((fa_eq _ _).mpr h)
          refine lv_aload_n hx hb dX8_copy_47 rfl (lv_at hl 2 rfl) ?_
          refine lv_ldcw hx hb hown (hts _ (List.mem_of_getElem? (i := 19) rfl)) dX8_copy_48 ?_
          have hPc := hP.sub (ws' := [(h0, .inr (6, [v0, v1, v2, v3, v4, .ref ph, .ref t0, v7])), (t0, .inl (tc, 7, .inl tf))]) [0, 1] rfl
          have hKc := hK.sub (tys' := [(tc, .int)]) [0] rfl
          have hDc := hD.sub (ws' := [(h0, .inr (6, [v0, v1, v2, v3, v4, .ref ph, .ref t0, v7])), (t0, .inl (tc, 7, .inl tf))]) [0, 1] (by decide) rfl
          have hFc := va_free (wc := [(h0, .inr (6, [v0, v1, v2, v3, v4, .ref ph, .ref t0, v7])), (t0, .inl (tc, 7, .inl tf))]) hD hS hA [0, 1] rfl
          refine va_calli (va_runV (As := [.int (-1000000006)]) (rest := []) ⟨hx, hb, hml, hown, hts⟩ (f_missing l dC dI ad h0 v0 v1 v2 v3 v4 (.ref ph) t0 v7 tc tf s.heap.size ) (cwV 1 hts g_x_copy_f_missing_63 rfl rfl rfl (by decide +kernel) ⟨(Nat.le_of_ble_eq_true rfl), (Nat.le_of_ble_eq_true rfl)⟩) ⟨preM_blind, va_recv hKc hPc (ci := 6) (q0 := 0) rfl rfl, fun U hU hW => ⟨rfl, preM_at hU hW hPc hKc hDc hev⟩⟩ rfl rfl hl.1 rfl (lv_room (Nat.le_of_ble_eq_true rfl)) dX8_copy_51 ⟨(Nat.le_of_ble_eq_true rfl), (Nat.le_of_ble_eq_true rfl)⟩) hS (fun q _ h => hFc q h) hFc (fun r_173 u t H1 locs ht hvm hw hB hz1 hk1 hS => ?_)
          obtain ⟨tg_174, hP1, hK1, hD1⟩ := hB
          rw [ht] at hP1
          have hK1 := va_K.moved hvm.symm hK1
          obtain ⟨hP, hD⟩ := va_join (wr := [(ph, .inl (pc, 4, .inr (.inr (.inr (.inr pf))))), (p0, .inr (0, [.int b0, .int z0, .ref n0])), (n0, .inl (nc0, 40, .inr (.inl g0))), (p1, .inr (0, [.int b1, .int z1, .ref n1])), (n1, .inl (nc1, 40, .inr (.inl g1))), (p2, .inr (0, [.int b2, .int z2, .ref n2])), (n2, .inl (nc2, 40, .inr (.inl g2))), (p3, .inr (0, [.int b3, .int z3, .ref n3])), (n3, .inl (nc3, 40, .inr (.inl g3)))]) (w1 := [(h0, .inr (6, [v0, v1, v2, v3, v4, .ref ph, .ref t0, v7])), (t0, .inl (tc, 7, .inl tg_174))]) hP hD [0, 1] [2, 3, 4, 5, 6, 7, 8, 9, 10] rfl rfl (by decide) (by decide) hk1 hFc hP1 hD1
          generalize H1 = H at hP hS ⊢
          have hP : va_P (dC, dI) vwCl [(ph, .inl (pc, 4, .inr (.inr (.inr (.inr pf))))), (p0, .inr (0, [.int b0, .int z0, .ref n0])), (n0, .inl (nc0, 40, .inr (.inl g0))), (p1, .inr (0, [.int b1, .int z1, .ref n1])), (n1, .inl (nc1, 40, .inr (.inl g1))), (p2, .inr (0, [.int b2, .int z2, .ref n2])), (n2, .inl (nc2, 40, .inr (.inl g2))), (p3, .inr (0, [.int b3, .int z3, .ref n3])), (n3, .inl (nc3, 40, .inr (.inl g3))), (h0, .inr (6, [v0, v1, v2, v3, v4, .ref ph, .ref t0, v7])), (t0, .inl (tc, 7, .inl tg_174))] H := hP
          have hD : va_D A [(ph, .inl (pc, 4, .inr (.inr (.inr (.inr pf))))), (p0, .inr (0, [.int b0, .int z0, .ref n0])), (n0, .inl (nc0, 40, .inr (.inl g0))), (p1, .inr (0, [.int b1, .int z1, .ref n1])), (n1, .inl (nc1, 40, .inr (.inl g1))), (p2, .inr (0, [.int b2, .int z2, .ref n2])), (n2, .inl (nc2, 40, .inr (.inl g2))), (p3, .inr (0, [.int b3, .int z3, .ref n3])), (n3, .inl (nc3, 40, .inr (.inl g3))), (h0, .inr (6, [v0, v1, v2, v3, v4, .ref ph, .ref t0, v7])), (t0, .inl (tc, 7, .inl tg_174))] := hD
          subst hw
          have hP9 := hP.sub (ws' := [(h0, .inr (6, [v0, v1, v2, v3, v4, .ref ph, .ref t0, v7])), (t0, .inl (tc, 7, .inl tg_174)), (ph, .inl (pc, 4, .inr (.inr (.inr (.inr pf))))), (p0, .inr (0, [.int b0, .int z0, .ref n0])), (n0, .inl (nc0, 40, .inr (.inl g0))), (p1, .inr (0, [.int b1, .int z1, .ref n1])), (n1, .inl (nc1, 40, .inr (.inl g1))), (p2, .inr (0, [.int b2, .int z2, .ref n2])), (n2, .inl (nc2, 40, .inr (.inl g2))), (p3, .inr (0, [.int b3, .int z3, .ref n3])), (n3, .inl (nc3, 40, .inr (.inl g3)))]) [9, 10, 0, 1, 2, 3, 4, 5, 6, 7, 8] rfl
          have hD9 := hD.sub (ws' := [(h0, .inr (6, [v0, v1, v2, v3, v4, .ref ph, .ref t0, v7])), (t0, .inl (tc, 7, .inl tg_174)), (ph, .inl (pc, 4, .inr (.inr (.inr (.inr pf))))), (p0, .inr (0, [.int b0, .int z0, .ref n0])), (n0, .inl (nc0, 40, .inr (.inl g0))), (p1, .inr (0, [.int b1, .int z1, .ref n1])), (n1, .inl (nc1, 40, .inr (.inl g1))), (p2, .inr (0, [.int b2, .int z2, .ref n2])), (n2, .inl (nc2, 40, .inr (.inl g2))), (p3, .inr (0, [.int b3, .int z3, .ref n3])), (n3, .inl (nc3, 40, .inr (.inl g3)))]) [9, 10, 0, 1, 2, 3, 4, 5, 6, 7, 8] (by decide) rfl
          have hK9 := hK.sub (tys' := [(tc, .int), (pc, .object "LampShapes$Paper"), (nc0, .long), (nc1, .long), (nc2, .long), (nc3, .long)]) [0, 1, 2, 3, 4, 5] rfl
          exact W.iret (v := ((-1000000006) : Int32)) hx hb hr (fun t ht hW => ⟨⟨((-1000000006) : Int32), (), rfl, trivial, tg_174, g0, g1, g2, g3, by rw [ht]; exact hP9, va_K.moved hW.alike hK9, hD9⟩, hS.F ht⟩) hS.2.2 dX8_copy_54
    · skip
      refine Met.ofW (cc := cX8_copy) (maxL := 8) (ret := (some .int)) (by decide) rfl ?_
      intro p e s m args below meth c s₁ B hml hv
      obtain ⟨rfl, hsz, hP, hK, hD0, hev⟩ := hv
      have hx := B.exec
      have hb := B.bytes
      have hr := B.returns
      have hts := atoms_spec (ws := w_x_copy) B.pre
      have hown : s.vm.findClass RX8 = some m.cls := findClass_of_methodNamed B.named
      have hlocks := B.notSynchronized
      have inX8 : ∀ w ∈ wsX80, w ∈ w_x_copy := fun w h => List.mem_cons_of_mem _ (List.mem_append_left _ (List.mem_append_right _ h))
      have inX2 : ∀ w ∈ wsX20, w ∈ w_x_copy := fun w h => List.mem_cons_of_mem _ (List.mem_append_right _ h)
      subst hsz
      have hD := hD0.self (sz := s.heap.size)
      generalize hAe : va_A [(h0, .inr (6, [v0, v1, v2, v3, v4, .ref ph, .ref t0, v7])), (t0, .inl (tc, 7, .inl tf)), (ph, .inl (pc, 4, .inr (.inr (.inr (.inr pf))))), (p0, .inr (0, [.int b0, .int z0, .ref n0])), (n0, .inl (nc0, 40, .inr (.inl g0))), (p1, .inr (0, [.int b1, .int z1, .ref n1])), (n1, .inl (nc1, 40, .inr (.inl g1))), (p2, .inr (0, [.int b2, .int z2, .ref n2])), (n2, .inl (nc2, 40, .inr (.inl g2))), (p3, .inr (0, [.int b3, .int z3, .ref n3])), (n3, .inl (nc3, 40, .inr (.inl g3)))] s.heap.size = A at hD ⊢
      have hA : ∀ q : Nat, s.heap.size ≤ q → A q := fun q h => by rw [← hAe]; exact Or.inr h
      have hS : va_S A s.heap s.heap [] := va_S.rf
      have hP : va_P (dC, dI) vwCl [(h0, .inr (6, [v0, v1, v2, v3, v4, .ref ph, .ref t0, v7])), (t0, .inl (tc, 7, .inl tf)), (ph, .inl (pc, 4, .inr (.inr (.inr (.inr pf))))), (p0, .inr (0, [.int b0, .int z0, .ref n0])), (n0, .inl (nc0, 40, .inr (.inl g0))), (p1, .inr (0, [.int b1, .int z1, .ref n1])), (n1, .inl (nc1, 40, .inr (.inl g1))), (p2, .inr (0, [.int b2, .int z2, .ref n2])), (n2, .inl (nc2, 40, .inr (.inl g2))), (p3, .inr (0, [.int b3, .int z3, .ref n3])), (n3, .inl (nc3, 40, .inr (.inl g3)))] s.heap := hP
      have hl := lv_entry ([.ref h0, .int 1, .int i, .int 1, .int j, .int n]) (n := 8) (Nat.le_of_ble_eq_true rfl)
      rw [lg_entry_eq]
      generalize (lg_sl ([.ref h0, .int 1, .int i, .int 1, .int j, .int n]) ++ List.replicate (8 - (lg_sl ([.ref h0, .int 1, .int i, .int 1, .int j, .int n])).length) Slot.unset).toArray = ls at hl ⊢
      have hl : lv_has ls 8 [(0, .ref h0), (1, .int 1), (2, .int i), (3, .int 1), (4, .int j), (5, .int n)] := hl
      refine lv_aload_n hx hb dX8_copy_0 rfl (lv_at hl 0 rfl) ?_
      refine lv_iload_n hx hb dX8_copy_1 rfl (lv_at hl 1 rfl) ?_
      have hPc := hP.sub (ws' := [(h0, .inr (6, [v0, v1, v2, v3, v4, .ref ph, .ref t0, v7])), (ph, .inl (pc, 4, .inr (.inr (.inr (.inr pf)))))]) [0, 2] rfl
      have hKc := hK.sub (tys' := [(pc, .object "LampShapes$Paper")]) [1] rfl
      refine va_csq (W.runV (As := [.int 1]) (rest := []) ⟨hx, hb, hml, hown, hts⟩ (c_paperAt_1 l dC dI ad h0 v0 v1 v2 v3 v4 ph (.ref t0) v7 pc pf p1 hp1) (cwV 1 hts g_x_copy_c_paperAt_1_256 rfl rfl rfl (by decide +kernel) ⟨(Nat.le_of_ble_eq_true rfl), (Nat.le_of_ble_eq_true rfl)⟩) ⟨preS_blind, va_recv hKc hPc (ci := 6) (q0 := 0) rfl rfl, fun U hU hW => ⟨rfl, preS_at hU hW hPc hKc hev⟩⟩ rfl rfl hl.1 rfl (lv_room (Nat.le_of_ble_eq_true rfl)) dX8_copy_2 ⟨(Nat.le_of_ble_eq_true rfl), (Nat.le_of_ble_eq_true rfl)⟩) (fun r_175 hw => ?_)
      subst hw
      refine pp_tv (y := .ref p1) rfl ?_
      refine lv_astore (lv' := [(6, .ref p1), (0, .ref h0), (1, .int 1), (2, .int i), (3, .int 1), (4, .int j), (5, .int n)]) hx hb dX8_copy_5 hl (by decide) rfl (fun ls hl => ?_)
      refine lv_aload_n hx hb dX8_copy_7 rfl (lv_at hl 1 rfl) ?_
      refine lv_iload_n hx hb dX8_copy_8 rfl (lv_at hl 4 rfl) ?_
      have hPc := hP.sub (ws' := [(h0, .inr (6, [v0, v1, v2, v3, v4, .ref ph, .ref t0, v7])), (ph, .inl (pc, 4, .inr (.inr (.inr (.inr pf)))))]) [0, 2] rfl
      have hKc := hK.sub (tys' := [(pc, .object "LampShapes$Paper")]) [1] rfl
      refine va_csq (W.runV (As := [.int 1]) (rest := []) ⟨hx, hb, hml, hown, hts⟩ (c_paperAt_1 l dC dI ad h0 v0 v1 v2 v3 v4 ph (.ref t0) v7 pc pf p1 hp1) (cwV 1 hts g_x_copy_c_paperAt_1_256 rfl rfl rfl (by decide +kernel) ⟨(Nat.le_of_ble_eq_true rfl), (Nat.le_of_ble_eq_true rfl)⟩) ⟨preS_blind, va_recv hKc hPc (ci := 6) (q0 := 0) rfl rfl, fun U hU hW => ⟨rfl, preS_at hU hW hPc hKc hev⟩⟩ rfl rfl hl.1 rfl (lv_room (Nat.le_of_ble_eq_true rfl)) dX8_copy_9 ⟨(Nat.le_of_ble_eq_true rfl), (Nat.le_of_ble_eq_true rfl)⟩) (fun r_176 hw => ?_)
      subst hw
      refine pp_tv (y := .ref p1) rfl ?_
      refine lv_astore (lv' := [(7, .ref p1), (6, .ref p1), (0, .ref h0), (1, .int 1), (2, .int i), (3, .int 1), (4, .int j), (5, .int n)]) hx hb dX8_copy_12 hl (by decide) rfl (fun ls hl => ?_)
      refine lv_aload hx hb dX8_copy_14 (lv_at hl 1 rfl) ?_
      refine lv_ifnull hx hb dX8_copy_16 ?_
      refine lv_aload hx hb dX8_copy_19 (lv_at hl 0 rfl) ?_
      refine lv_ifnonnull (tgt := 31) hx hb dX8_copy_21 (by decide) ?_
      refine lv_aload hx hb dX8_copy_31 (lv_at hl 1 rfl) ?_
      have hPc := hP.sub (ws' := [(p1, .inr (0, [.int b1, .int z1, .ref n1]))]) [5] rfl
      have hKc := hK.sub (tys' := []) [] rfl
      refine vp_callSi (W.runV (As := []) (rest := []) ⟨hx, hb, hml, hown, hts⟩ (p_isMissing l dC dI ad p1 b1 (.int z1) (.ref n1) ) (cwV 0 hts g_x_copy_p_isMissing_268 rfl rfl rfl (by decide +kernel) ⟨(Nat.le_of_ble_eq_true rfl), (Nat.le_of_ble_eq_true rfl)⟩) ⟨preS_blind, va_recv hKc hPc (ci := 0) (q0 := 0) rfl rfl, fun U hU hW => ⟨rfl, preS_at hU hW hPc hKc hev⟩⟩ rfl rfl hl.1 rfl (lv_room (Nat.le_of_ble_eq_true rfl)) dX8_copy_33 ⟨(Nat.le_of_ble_eq_true rfl), (Nat.le_of_ble_eq_true rfl)⟩) (fun r_177 hw => ?_)
      have hr_177 : (r_177.toInt = 1 ∧ b1.toInt = 0) ∨ (r_177.toInt = 0 ∧ ¬ b1.toInt = 0) := hw
      refine lv_if_ne (tgt := 47) hx hb dX8_copy_36 (by decide) (fun c_178 => ?_) (fun c_178 => ?_)
      · skip
        have tc_178 : ¬ r_177.toInt = 0 := fun h => c_178 ((fa_eq _ _).mpr h)
        refine lv_aload_n hx hb dX8_copy_47 rfl (lv_at hl 2 rfl) ?_
        refine lv_ldcw hx hb hown (hts _ (List.mem_of_getElem? (i := 19) rfl)) dX8_copy_48 ?_
        have hPc := hP.sub (ws' := [(h0, .inr (6, [v0, v1, v2, v3, v4, .ref ph, .ref t0, v7])), (t0, .inl (tc, 7, .inl tf))]) [0, 1] rfl
        have hKc := hK.sub (tys' := [(tc, .int)]) [0] rfl
        have hDc := hD.sub (ws' := [(h0, .inr (6, [v0, v1, v2, v3, v4, .ref ph, .ref t0, v7])), (t0, .inl (tc, 7, .inl tf))]) [0, 1] (by decide) rfl
        have hFc := va_free (wc := [(h0, .inr (6, [v0, v1, v2, v3, v4, .ref ph, .ref t0, v7])), (t0, .inl (tc, 7, .inl tf))]) hD hS hA [0, 1] rfl
        refine va_calli (va_runV (As := [.int (-1000000006)]) (rest := []) ⟨hx, hb, hml, hown, hts⟩ (f_missing l dC dI ad h0 v0 v1 v2 v3 v4 (.ref ph) t0 v7 tc tf s.heap.size ) (cwV 1 hts g_x_copy_f_missing_63 rfl rfl rfl (by decide +kernel) ⟨(Nat.le_of_ble_eq_true rfl), (Nat.le_of_ble_eq_true rfl)⟩) ⟨preM_blind, va_recv hKc hPc (ci := 6) (q0 := 0) rfl rfl, fun U hU hW => ⟨rfl, preM_at hU hW hPc hKc hDc hev⟩⟩ rfl rfl hl.1 rfl (lv_room (Nat.le_of_ble_eq_true rfl)) dX8_copy_51 ⟨(Nat.le_of_ble_eq_true rfl), (Nat.le_of_ble_eq_true rfl)⟩) hS (fun q _ h => hFc q h) hFc (fun r_179 u t H1 locs ht hvm hw hB hz1 hk1 hS => ?_)
        obtain ⟨tg_180, hP1, hK1, hD1⟩ := hB
        rw [ht] at hP1
        have hK1 := va_K.moved hvm.symm hK1
        obtain ⟨hP, hD⟩ := va_join (wr := [(ph, .inl (pc, 4, .inr (.inr (.inr (.inr pf))))), (p0, .inr (0, [.int b0, .int z0, .ref n0])), (n0, .inl (nc0, 40, .inr (.inl g0))), (p1, .inr (0, [.int b1, .int z1, .ref n1])), (n1, .inl (nc1, 40, .inr (.inl g1))), (p2, .inr (0, [.int b2, .int z2, .ref n2])), (n2, .inl (nc2, 40, .inr (.inl g2))), (p3, .inr (0, [.int b3, .int z3, .ref n3])), (n3, .inl (nc3, 40, .inr (.inl g3)))]) (w1 := [(h0, .inr (6, [v0, v1, v2, v3, v4, .ref ph, .ref t0, v7])), (t0, .inl (tc, 7, .inl tg_180))]) hP hD [0, 1] [2, 3, 4, 5, 6, 7, 8, 9, 10] rfl rfl (by decide) (by decide) hk1 hFc hP1 hD1
        generalize H1 = H at hP hS ⊢
        have hP : va_P (dC, dI) vwCl [(ph, .inl (pc, 4, .inr (.inr (.inr (.inr pf))))), (p0, .inr (0, [.int b0, .int z0, .ref n0])), (n0, .inl (nc0, 40, .inr (.inl g0))), (p1, .inr (0, [.int b1, .int z1, .ref n1])), (n1, .inl (nc1, 40, .inr (.inl g1))), (p2, .inr (0, [.int b2, .int z2, .ref n2])), (n2, .inl (nc2, 40, .inr (.inl g2))), (p3, .inr (0, [.int b3, .int z3, .ref n3])), (n3, .inl (nc3, 40, .inr (.inl g3))), (h0, .inr (6, [v0, v1, v2, v3, v4, .ref ph, .ref t0, v7])), (t0, .inl (tc, 7, .inl tg_180))] H := hP
        have hD : va_D A [(ph, .inl (pc, 4, .inr (.inr (.inr (.inr pf))))), (p0, .inr (0, [.int b0, .int z0, .ref n0])), (n0, .inl (nc0, 40, .inr (.inl g0))), (p1, .inr (0, [.int b1, .int z1, .ref n1])), (n1, .inl (nc1, 40, .inr (.inl g1))), (p2, .inr (0, [.int b2, .int z2, .ref n2])), (n2, .inl (nc2, 40, .inr (.inl g2))), (p3, .inr (0, [.int b3, .int z3, .ref n3])), (n3, .inl (nc3, 40, .inr (.inl g3))), (h0, .inr (6, [v0, v1, v2, v3, v4, .ref ph, .ref t0, v7])), (t0, .inl (tc, 7, .inl tg_180))] := hD
        subst hw
        have hP9 := hP.sub (ws' := [(h0, .inr (6, [v0, v1, v2, v3, v4, .ref ph, .ref t0, v7])), (t0, .inl (tc, 7, .inl tg_180)), (ph, .inl (pc, 4, .inr (.inr (.inr (.inr pf))))), (p0, .inr (0, [.int b0, .int z0, .ref n0])), (n0, .inl (nc0, 40, .inr (.inl g0))), (p1, .inr (0, [.int b1, .int z1, .ref n1])), (n1, .inl (nc1, 40, .inr (.inl g1))), (p2, .inr (0, [.int b2, .int z2, .ref n2])), (n2, .inl (nc2, 40, .inr (.inl g2))), (p3, .inr (0, [.int b3, .int z3, .ref n3])), (n3, .inl (nc3, 40, .inr (.inl g3)))]) [9, 10, 0, 1, 2, 3, 4, 5, 6, 7, 8] rfl
        have hD9 := hD.sub (ws' := [(h0, .inr (6, [v0, v1, v2, v3, v4, .ref ph, .ref t0, v7])), (t0, .inl (tc, 7, .inl tg_180)), (ph, .inl (pc, 4, .inr (.inr (.inr (.inr pf))))), (p0, .inr (0, [.int b0, .int z0, .ref n0])), (n0, .inl (nc0, 40, .inr (.inl g0))), (p1, .inr (0, [.int b1, .int z1, .ref n1])), (n1, .inl (nc1, 40, .inr (.inl g1))), (p2, .inr (0, [.int b2, .int z2, .ref n2])), (n2, .inl (nc2, 40, .inr (.inl g2))), (p3, .inr (0, [.int b3, .int z3, .ref n3])), (n3, .inl (nc3, 40, .inr (.inl g3)))]) [9, 10, 0, 1, 2, 3, 4, 5, 6, 7, 8] (by decide) rfl
        have hK9 := hK.sub (tys' := [(tc, .int), (pc, .object "LampShapes$Paper"), (nc0, .long), (nc1, .long), (nc2, .long), (nc3, .long)]) [0, 1, 2, 3, 4, 5] rfl
        exact W.iret (v := ((-1000000006) : Int32)) hx hb hr (fun t ht hW => ⟨⟨((-1000000006) : Int32), (), rfl, trivial, tg_180, g0, g1, g2, g3, by rw [ht]; exact hP9, va_K.moved hW.alike hK9, hD9⟩, hS.F ht⟩) hS.2.2 dX8_copy_54
      · skip
        have tc_178 : r_177.toInt = 0 := (fa_eq _ _).mp c_178
        refine lv_aload hx hb dX8_copy_39 (lv_at hl 0 rfl) ?_
        have hPc := hP.sub (ws' := [(p1, .inr (0, [.int b1, .int z1, .ref n1]))]) [5] rfl
        have hKc := hK.sub (tys' := []) [] rfl
        refine vp_callSi (W.runV (As := []) (rest := []) ⟨hx, hb, hml, hown, hts⟩ (p_isMissing l dC dI ad p1 b1 (.int z1) (.ref n1) ) (cwV 0 hts g_x_copy_p_isMissing_268 rfl rfl rfl (by decide +kernel) ⟨(Nat.le_of_ble_eq_true rfl), (Nat.le_of_ble_eq_true rfl)⟩) ⟨preS_blind, va_recv hKc hPc (ci := 0) (q0 := 0) rfl rfl, fun U hU hW => ⟨rfl, preS_at hU hW hPc hKc hev⟩⟩ rfl rfl hl.1 rfl (lv_room (Nat.le_of_ble_eq_true rfl)) dX8_copy_41 ⟨(Nat.le_of_ble_eq_true rfl), (Nat.le_of_ble_eq_true rfl)⟩) (fun r_181 hw => ?_)
        have hr_181 : (r_181.toInt = 1 ∧ b1.toInt = 0) ∨ (r_181.toInt = 0 ∧ ¬ b1.toInt = 0) := hw
        refine lv_if_eq (tgt := 55) hx hb dX8_copy_44 (by decide) (fun c_182 => ?_) (fun c_182 => ?_)
        · skip
          have tc_182 : r_181.toInt = 0 := (fa_eq _ _).mp c_182
          refine lv_aload hx hb dX8_copy_55 (lv_at hl 1 rfl) ?_
          refine va_getN (D := (dC, dI)) (ci := 0) (v := .int b1) (C := RX2) (T := TX2) (N := 3) hx hb hts inX2 hown hK hP 5 rfl rfl 0 (by decide) (ev_nest hev 21 rfl) (fun _ h9 => h9) rfl dX8_copy_57 ?_
          refine lv_aload hx hb dX8_copy_60 (lv_at hl 0 rfl) ?_
          refine va_getN (D := (dC, dI)) (ci := 0) (v := .int b1) (C := RX2) (T := TX2) (N := 3) hx hb hts inX2 hown hK hP 5 rfl rfl 0 (by decide) (ev_nest hev 21 rfl) (fun _ h9 => h9) rfl dX8_copy_62 ?_
          have rc_183_x := pp_rng b1
          have rc_183_x := pp_rng b1
          refine lv_icmp_eq (tgt := 75) hx hb dX8_copy_65 (by decide) (fun c_183 => ?_) (fun c_183 => ?_)
          · skip
            have tc_183 : b1.toInt = b1.toInt := (fa_eq _ _).mp c_183
            refine lv_aload hx hb dX8_copy_75 (lv_at hl 1 rfl) ?_
            refine lv_iload_n hx hb dX8_copy_77 rfl (lv_at hl 4 rfl) ?_
            refine lv_iload hx hb dX8_copy_78 (lv_at hl 7 rfl) ?_
            have hPc := hP.sub (ws' := [(p1, .inr (0, [.int b1, .int z1, .ref n1]))]) [5] rfl
            have hKc := hK.sub (tys' := []) [] rfl
            refine vp_callSi (W.runV (As := [.int i, .int n]) (rest := []) ⟨hx, hb, hml, hown, hts⟩ (p_hasPart l dC dI ad p1 i n (.int b1) z1 (.ref n1) hz1) (cwV 2 hts g_x_copy_p_hasPart_282 rfl rfl rfl (by decide +kernel) ⟨(Nat.le_of_ble_eq_true rfl), (Nat.le_of_ble_eq_true rfl)⟩) ⟨preS_blind, va_recv hKc hPc (ci := 0) (q0 := 0) rfl rfl, fun U hU hW => ⟨rfl, preS_at hU hW hPc hKc hev⟩⟩ rfl rfl hl.1 rfl (lv_room (Nat.le_of_ble_eq_true rfl)) dX8_copy_80 ⟨(Nat.le_of_ble_eq_true rfl), (Nat.le_of_ble_eq_true rfl)⟩) (fun r_184 hw => ?_)
            have hr_184 : (r_184.toInt = 1 ∧ 0 ≤ i.toInt ∧ 0 ≤ n.toInt ∧ i.toInt + n.toInt ≤ z1.toInt) ∨ (r_184.toInt = 0 ∧ ¬ (0 ≤ i.toInt ∧ 0 ≤ n.toInt ∧ i.toInt + n.toInt ≤ z1.toInt)) := hw
            refine lv_if_eq (tgt := 98) hx hb dX8_copy_83 (by decide) (fun c_185 => ?_) (fun c_185 => ?_)
            · skip
              have tc_185 : r_184.toInt = 0 := (fa_eq _ _).mp c_185
              refine lv_aload_n hx hb dX8_copy_98 rfl (lv_at hl 2 rfl) ?_
              refine lv_ldc hx hb hown (hts _ (List.mem_of_getElem? (i := 6) rfl)) dX8_copy_99 ?_
              have hPc := hP.sub (ws' := [(h0, .inr (6, [v0, v1, v2, v3, v4, .ref ph, .ref t0, v7])), (t0, .inl (tc, 7, .inl tf))]) [0, 1] rfl
              have hKc := hK.sub (tys' := [(tc, .int)]) [0] rfl
              have hDc := hD.sub (ws' := [(h0, .inr (6, [v0, v1, v2, v3, v4, .ref ph, .ref t0, v7])), (t0, .inl (tc, 7, .inl tf))]) [0, 1] (by decide) rfl
              have hFc := va_free (wc := [(h0, .inr (6, [v0, v1, v2, v3, v4, .ref ph, .ref t0, v7])), (t0, .inl (tc, 7, .inl tf))]) hD hS hA [0, 1] rfl
              refine va_calli (va_runV (As := [.int (-1000000001)]) (rest := []) ⟨hx, hb, hml, hown, hts⟩ (f_beyond l dC dI ad h0 v0 v1 v2 v3 v4 (.ref ph) t0 v7 tc tf s.heap.size ) (cwV 1 hts g_x_copy_f_beyond_63 rfl rfl rfl (by decide +kernel) ⟨(Nat.le_of_ble_eq_true rfl), (Nat.le_of_ble_eq_true rfl)⟩) ⟨preM_blind, va_recv hKc hPc (ci := 6) (q0 := 0) rfl rfl, fun U hU hW => ⟨rfl, preM_at hU hW hPc hKc hDc hev⟩⟩ rfl rfl hl.1 rfl (lv_room (Nat.le_of_ble_eq_true rfl)) dX8_copy_101 ⟨(Nat.le_of_ble_eq_true rfl), (Nat.le_of_ble_eq_true rfl)⟩) hS (fun q _ h => hFc q h) hFc (fun r_186 u t H1 locs ht hvm hw hB hz1 hk1 hS => ?_)
              obtain ⟨tg_187, hP1, hK1, hD1⟩ := hB
              rw [ht] at hP1
              have hK1 := va_K.moved hvm.symm hK1
              obtain ⟨hP, hD⟩ := va_join (wr := [(ph, .inl (pc, 4, .inr (.inr (.inr (.inr pf))))), (p0, .inr (0, [.int b0, .int z0, .ref n0])), (n0, .inl (nc0, 40, .inr (.inl g0))), (p1, .inr (0, [.int b1, .int z1, .ref n1])), (n1, .inl (nc1, 40, .inr (.inl g1))), (p2, .inr (0, [.int b2, .int z2, .ref n2])), (n2, .inl (nc2, 40, .inr (.inl g2))), (p3, .inr (0, [.int b3, .int z3, .ref n3])), (n3, .inl (nc3, 40, .inr (.inl g3)))]) (w1 := [(h0, .inr (6, [v0, v1, v2, v3, v4, .ref ph, .ref t0, v7])), (t0, .inl (tc, 7, .inl tg_187))]) hP hD [0, 1] [2, 3, 4, 5, 6, 7, 8, 9, 10] rfl rfl (by decide) (by decide) hk1 hFc hP1 hD1
              generalize H1 = H at hP hS ⊢
              have hP : va_P (dC, dI) vwCl [(ph, .inl (pc, 4, .inr (.inr (.inr (.inr pf))))), (p0, .inr (0, [.int b0, .int z0, .ref n0])), (n0, .inl (nc0, 40, .inr (.inl g0))), (p1, .inr (0, [.int b1, .int z1, .ref n1])), (n1, .inl (nc1, 40, .inr (.inl g1))), (p2, .inr (0, [.int b2, .int z2, .ref n2])), (n2, .inl (nc2, 40, .inr (.inl g2))), (p3, .inr (0, [.int b3, .int z3, .ref n3])), (n3, .inl (nc3, 40, .inr (.inl g3))), (h0, .inr (6, [v0, v1, v2, v3, v4, .ref ph, .ref t0, v7])), (t0, .inl (tc, 7, .inl tg_187))] H := hP
              have hD : va_D A [(ph, .inl (pc, 4, .inr (.inr (.inr (.inr pf))))), (p0, .inr (0, [.int b0, .int z0, .ref n0])), (n0, .inl (nc0, 40, .inr (.inl g0))), (p1, .inr (0, [.int b1, .int z1, .ref n1])), (n1, .inl (nc1, 40, .inr (.inl g1))), (p2, .inr (0, [.int b2, .int z2, .ref n2])), (n2, .inl (nc2, 40, .inr (.inl g2))), (p3, .inr (0, [.int b3, .int z3, .ref n3])), (n3, .inl (nc3, 40, .inr (.inl g3))), (h0, .inr (6, [v0, v1, v2, v3, v4, .ref ph, .ref t0, v7])), (t0, .inl (tc, 7, .inl tg_187))] := hD
              subst hw
              have hP9 := hP.sub (ws' := [(h0, .inr (6, [v0, v1, v2, v3, v4, .ref ph, .ref t0, v7])), (t0, .inl (tc, 7, .inl tg_187)), (ph, .inl (pc, 4, .inr (.inr (.inr (.inr pf))))), (p0, .inr (0, [.int b0, .int z0, .ref n0])), (n0, .inl (nc0, 40, .inr (.inl g0))), (p1, .inr (0, [.int b1, .int z1, .ref n1])), (n1, .inl (nc1, 40, .inr (.inl g1))), (p2, .inr (0, [.int b2, .int z2, .ref n2])), (n2, .inl (nc2, 40, .inr (.inl g2))), (p3, .inr (0, [.int b3, .int z3, .ref n3])), (n3, .inl (nc3, 40, .inr (.inl g3)))]) [9, 10, 0, 1, 2, 3, 4, 5, 6, 7, 8] rfl
              have hD9 := hD.sub (ws' := [(h0, .inr (6, [v0, v1, v2, v3, v4, .ref ph, .ref t0, v7])), (t0, .inl (tc, 7, .inl tg_187)), (ph, .inl (pc, 4, .inr (.inr (.inr (.inr pf))))), (p0, .inr (0, [.int b0, .int z0, .ref n0])), (n0, .inl (nc0, 40, .inr (.inl g0))), (p1, .inr (0, [.int b1, .int z1, .ref n1])), (n1, .inl (nc1, 40, .inr (.inl g1))), (p2, .inr (0, [.int b2, .int z2, .ref n2])), (n2, .inl (nc2, 40, .inr (.inl g2))), (p3, .inr (0, [.int b3, .int z3, .ref n3])), (n3, .inl (nc3, 40, .inr (.inl g3)))]) [9, 10, 0, 1, 2, 3, 4, 5, 6, 7, 8] (by decide) rfl
              have hK9 := hK.sub (tys' := [(tc, .int), (pc, .object "LampShapes$Paper"), (nc0, .long), (nc1, .long), (nc2, .long), (nc3, .long)]) [0, 1, 2, 3, 4, 5] rfl
              exact W.iret (v := ((-1000000001) : Int32)) hx hb hr (fun t ht hW => ⟨⟨((-1000000001) : Int32), (), rfl, trivial, tg_187, g0, g1, g2, g3, by rw [ht]; exact hP9, va_K.moved hW.alike hK9, hD9⟩, hS.F ht⟩) hS.2.2 dX8_copy_104
            · skip
              have tc_185 : ¬ r_184.toInt = 0 := fun h => c_185 ((fa_eq _ _).mpr h)
              refine lv_aload hx hb dX8_copy_86 (lv_at hl 0 rfl) ?_
              refine lv_iload hx hb dX8_copy_88 (lv_at hl 6 rfl) ?_
              refine lv_iload hx hb dX8_copy_90 (lv_at hl 7 rfl) ?_
              have hPc := hP.sub (ws' := [(p1, .inr (0, [.int b1, .int z1, .ref n1]))]) [5] rfl
              have hKc := hK.sub (tys' := []) [] rfl
              refine vp_callSi (W.runV (As := [.int j, .int n]) (rest := []) ⟨hx, hb, hml, hown, hts⟩ (p_hasPart l dC dI ad p1 j n (.int b1) z1 (.ref n1) hz1) (cwV 2 hts g_x_copy_p_hasPart_282 rfl rfl rfl (by decide +kernel) ⟨(Nat.le_of_ble_eq_true rfl), (Nat.le_of_ble_eq_true rfl)⟩) ⟨preS_blind, va_recv hKc hPc (ci := 0) (q0 := 0) rfl rfl, fun U hU hW => ⟨rfl, preS_at hU hW hPc hKc hev⟩⟩ rfl rfl hl.1 rfl (lv_room (Nat.le_of_ble_eq_true rfl)) dX8_copy_92 ⟨(Nat.le_of_ble_eq_true rfl), (Nat.le_of_ble_eq_true rfl)⟩) (fun r_188 hw => ?_)
              have hr_188 : (r_188.toInt = 1 ∧ 0 ≤ j.toInt ∧ 0 ≤ n.toInt ∧ j.toInt + n.toInt ≤ z1.toInt) ∨ (r_188.toInt = 0 ∧ ¬ (0 ≤ j.toInt ∧ 0 ≤ n.toInt ∧ j.toInt + n.toInt ≤ z1.toInt)) := hw
              refine lv_if_ne (tgt := 105) hx hb dX8_copy_95 (by decide) (fun c_189 => ?_) (fun c_189 => ?_)
              · skip
                have tc_189 : ¬ r_188.toInt = 0 := fun h => c_189 ((fa_eq _ _).mpr h)
                refine lv_aload hx hb dX8_copy_105 (lv_at hl 1 rfl) ?_
                refine va_getN (D := (dC, dI)) (ci := 0) (v := .ref n1) (C := RX2) (T := TX2) (N := 3) hx hb hts inX2 hown hK hP 5 rfl rfl 2 (by decide) (ev_nest hev 23 rfl) (fun _ h9 => h9) rfl dX8_copy_107 ?_
                refine lv_iload_n hx hb dX8_copy_110 rfl (lv_at hl 4 rfl) ?_
                refine lv_aload hx hb dX8_copy_111 (lv_at hl 0 rfl) ?_
                refine va_getN (D := (dC, dI)) (ci := 0) (v := .ref n1) (C := RX2) (T := TX2) (N := 3) hx hb hts inX2 hown hK hP 5 rfl rfl 2 (by decide) (ev_nest hev 23 rfl) (fun _ h9 => h9) rfl dX8_copy_113 ?_
                refine lv_iload hx hb dX8_copy_116 (lv_at hl 6 rfl) ?_
                refine lv_iload hx hb dX8_copy_118 (lv_at hl 7 rfl) ?_
                refine va_copyl (ty := .long) hx hb (by rw [hml]; exact hl.1.symm) hown (hts _ (List.mem_of_getElem? (i := 25) rfl)) (hts _ (List.mem_of_getElem? (i := 26) rfl)) (hts _ (List.mem_of_getElem? (i := 27) rfl)) (hts _ (List.mem_of_getElem? (i := 28) rfl)) hK hP hD hS 6 6 3 3 rfl rfl rfl rfl rfl (fun h => absurd ((fa_lt _ _).mp h) (by show ¬ i.toInt < 0; omega)) (fun h => absurd ((fa_lt _ _).mp h) (by show ¬ j.toInt < 0; omega)) (fun h => absurd ((fa_lt _ _).mp h) (by show ¬ n.toInt < 0; omega)) (by show i.toInt.toNat + n.toInt.toNat ≤ 40; omega) (by show j.toInt.toNat + n.toInt.toNat ≤ 40; omega) (fun _ _ => rfl) (Nat.le_of_ble_eq_true rfl) (Nat.le_of_ble_eq_true rfl) dX8_copy_120 (fun H locs hP hD hS => ?_)
                generalize va_cpy g1 g1 i.toNatClampNeg j.toNatClampNeg n.toNatClampNeg = f_190 at hP hD
                have hP : va_P (dC, dI) vwCl [(h0, .inr (6, [v0, v1, v2, v3, v4, .ref ph, .ref t0, v7])), (t0, .inl (tc, 7, .inl tf)), (ph, .inl (pc, 4, .inr (.inr (.inr (.inr pf))))), (p0, .inr (0, [.int b0, .int z0, .ref n0])), (n0, .inl (nc0, 40, .inr (.inl g0))), (p1, .inr (0, [.int b1, .int z1, .ref n1])), (n1, .inl (nc1, 40, .inr (.inl f_190))), (p2, .inr (0, [.int b2, .int z2, .ref n2])), (n2, .inl (nc2, 40, .inr (.inl g2))), (p3, .inr (0, [.int b3, .int z3, .ref n3])), (n3, .inl (nc3, 40, .inr (.inl g3)))] H := hP
                have hD : va_D A [(h0, .inr (6, [v0, v1, v2, v3, v4, .ref ph, .ref t0, v7])), (t0, .inl (tc, 7, .inl tf)), (ph, .inl (pc, 4, .inr (.inr (.inr (.inr pf))))), (p0, .inr (0, [.int b0, .int z0, .ref n0])), (n0, .inl (nc0, 40, .inr (.inl g0))), (p1, .inr (0, [.int b1, .int z1, .ref n1])), (n1, .inl (nc1, 40, .inr (.inl f_190))), (p2, .inr (0, [.int b2, .int z2, .ref n2])), (n2, .inl (nc2, 40, .inr (.inl g2))), (p3, .inr (0, [.int b3, .int z3, .ref n3])), (n3, .inl (nc3, 40, .inr (.inl g3)))] := hD
                refine lv_iload hx hb dX8_copy_123 (lv_at hl 7 rfl) ?_
                have hP9 := hP.sub (ws' := [(h0, .inr (6, [v0, v1, v2, v3, v4, .ref ph, .ref t0, v7])), (t0, .inl (tc, 7, .inl tf)), (ph, .inl (pc, 4, .inr (.inr (.inr (.inr pf))))), (p0, .inr (0, [.int b0, .int z0, .ref n0])), (n0, .inl (nc0, 40, .inr (.inl g0))), (p1, .inr (0, [.int b1, .int z1, .ref n1])), (n1, .inl (nc1, 40, .inr (.inl f_190))), (p2, .inr (0, [.int b2, .int z2, .ref n2])), (n2, .inl (nc2, 40, .inr (.inl g2))), (p3, .inr (0, [.int b3, .int z3, .ref n3])), (n3, .inl (nc3, 40, .inr (.inl g3)))]) [0, 1, 2, 3, 4, 5, 6, 7, 8, 9, 10] rfl
                have hD9 := hD.sub (ws' := [(h0, .inr (6, [v0, v1, v2, v3, v4, .ref ph, .ref t0, v7])), (t0, .inl (tc, 7, .inl tf)), (ph, .inl (pc, 4, .inr (.inr (.inr (.inr pf))))), (p0, .inr (0, [.int b0, .int z0, .ref n0])), (n0, .inl (nc0, 40, .inr (.inl g0))), (p1, .inr (0, [.int b1, .int z1, .ref n1])), (n1, .inl (nc1, 40, .inr (.inl f_190))), (p2, .inr (0, [.int b2, .int z2, .ref n2])), (n2, .inl (nc2, 40, .inr (.inl g2))), (p3, .inr (0, [.int b3, .int z3, .ref n3])), (n3, .inl (nc3, 40, .inr (.inl g3)))]) [0, 1, 2, 3, 4, 5, 6, 7, 8, 9, 10] (by decide) rfl
                have hK9 := hK.sub (tys' := [(tc, .int), (pc, .object "LampShapes$Paper"), (nc0, .long), (nc1, .long), (nc2, .long), (nc3, .long)]) [0, 1, 2, 3, 4, 5] rfl
                exact W.iret (v := n) hx hb hr (fun t ht hW => ⟨⟨n, (), rfl, trivial, tf, g0, f_190, g2, g3, by rw [ht]; exact hP9, va_K.moved hW.alike hK9, hD9⟩, hS.F ht⟩) hS.2.2 dX8_copy_125
              · skip
                have tc_189 : r_188.toInt = 0 := (fa_eq _ _).mp c_189
                refine lv_aload_n hx hb dX8_copy_98 rfl (lv_at hl 2 rfl) ?_
                refine lv_ldc hx hb hown (hts _ (List.mem_of_getElem? (i := 6) rfl)) dX8_copy_99 ?_
                have hPc := hP.sub (ws' := [(h0, .inr (6, [v0, v1, v2, v3, v4, .ref ph, .ref t0, v7])), (t0, .inl (tc, 7, .inl tf))]) [0, 1] rfl
                have hKc := hK.sub (tys' := [(tc, .int)]) [0] rfl
                have hDc := hD.sub (ws' := [(h0, .inr (6, [v0, v1, v2, v3, v4, .ref ph, .ref t0, v7])), (t0, .inl (tc, 7, .inl tf))]) [0, 1] (by decide) rfl
                have hFc := va_free (wc := [(h0, .inr (6, [v0, v1, v2, v3, v4, .ref ph, .ref t0, v7])), (t0, .inl (tc, 7, .inl tf))]) hD hS hA [0, 1] rfl
                refine va_calli (va_runV (As := [.int (-1000000001)]) (rest := []) ⟨hx, hb, hml, hown, hts⟩ (f_beyond l dC dI ad h0 v0 v1 v2 v3 v4 (.ref ph) t0 v7 tc tf s.heap.size ) (cwV 1 hts g_x_copy_f_beyond_63 rfl rfl rfl (by decide +kernel) ⟨(Nat.le_of_ble_eq_true rfl), (Nat.le_of_ble_eq_true rfl)⟩) ⟨preM_blind, va_recv hKc hPc (ci := 6) (q0 := 0) rfl rfl, fun U hU hW => ⟨rfl, preM_at hU hW hPc hKc hDc hev⟩⟩ rfl rfl hl.1 rfl (lv_room (Nat.le_of_ble_eq_true rfl)) dX8_copy_101 ⟨(Nat.le_of_ble_eq_true rfl), (Nat.le_of_ble_eq_true rfl)⟩) hS (fun q _ h => hFc q h) hFc (fun r_191 u t H1 locs ht hvm hw hB hz1 hk1 hS => ?_)
                obtain ⟨tg_192, hP1, hK1, hD1⟩ := hB
                rw [ht] at hP1
                have hK1 := va_K.moved hvm.symm hK1
                obtain ⟨hP, hD⟩ := va_join (wr := [(ph, .inl (pc, 4, .inr (.inr (.inr (.inr pf))))), (p0, .inr (0, [.int b0, .int z0, .ref n0])), (n0, .inl (nc0, 40, .inr (.inl g0))), (p1, .inr (0, [.int b1, .int z1, .ref n1])), (n1, .inl (nc1, 40, .inr (.inl g1))), (p2, .inr (0, [.int b2, .int z2, .ref n2])), (n2, .inl (nc2, 40, .inr (.inl g2))), (p3, .inr (0, [.int b3, .int z3, .ref n3])), (n3, .inl (nc3, 40, .inr (.inl g3)))]) (w1 := [(h0, .inr (6, [v0, v1, v2, v3, v4, .ref ph, .ref t0, v7])), (t0, .inl (tc, 7, .inl tg_192))]) hP hD [0, 1] [2, 3, 4, 5, 6, 7, 8, 9, 10] rfl rfl (by decide) (by decide) hk1 hFc hP1 hD1
                generalize H1 = H at hP hS ⊢
                have hP : va_P (dC, dI) vwCl [(ph, .inl (pc, 4, .inr (.inr (.inr (.inr pf))))), (p0, .inr (0, [.int b0, .int z0, .ref n0])), (n0, .inl (nc0, 40, .inr (.inl g0))), (p1, .inr (0, [.int b1, .int z1, .ref n1])), (n1, .inl (nc1, 40, .inr (.inl g1))), (p2, .inr (0, [.int b2, .int z2, .ref n2])), (n2, .inl (nc2, 40, .inr (.inl g2))), (p3, .inr (0, [.int b3, .int z3, .ref n3])), (n3, .inl (nc3, 40, .inr (.inl g3))), (h0, .inr (6, [v0, v1, v2, v3, v4, .ref ph, .ref t0, v7])), (t0, .inl (tc, 7, .inl tg_192))] H := hP
                have hD : va_D A [(ph, .inl (pc, 4, .inr (.inr (.inr (.inr pf))))), (p0, .inr (0, [.int b0, .int z0, .ref n0])), (n0, .inl (nc0, 40, .inr (.inl g0))), (p1, .inr (0, [.int b1, .int z1, .ref n1])), (n1, .inl (nc1, 40, .inr (.inl g1))), (p2, .inr (0, [.int b2, .int z2, .ref n2])), (n2, .inl (nc2, 40, .inr (.inl g2))), (p3, .inr (0, [.int b3, .int z3, .ref n3])), (n3, .inl (nc3, 40, .inr (.inl g3))), (h0, .inr (6, [v0, v1, v2, v3, v4, .ref ph, .ref t0, v7])), (t0, .inl (tc, 7, .inl tg_192))] := hD
                subst hw
                have hP9 := hP.sub (ws' := [(h0, .inr (6, [v0, v1, v2, v3, v4, .ref ph, .ref t0, v7])), (t0, .inl (tc, 7, .inl tg_192)), (ph, .inl (pc, 4, .inr (.inr (.inr (.inr pf))))), (p0, .inr (0, [.int b0, .int z0, .ref n0])), (n0, .inl (nc0, 40, .inr (.inl g0))), (p1, .inr (0, [.int b1, .int z1, .ref n1])), (n1, .inl (nc1, 40, .inr (.inl g1))), (p2, .inr (0, [.int b2, .int z2, .ref n2])), (n2, .inl (nc2, 40, .inr (.inl g2))), (p3, .inr (0, [.int b3, .int z3, .ref n3])), (n3, .inl (nc3, 40, .inr (.inl g3)))]) [9, 10, 0, 1, 2, 3, 4, 5, 6, 7, 8] rfl
                have hD9 := hD.sub (ws' := [(h0, .inr (6, [v0, v1, v2, v3, v4, .ref ph, .ref t0, v7])), (t0, .inl (tc, 7, .inl tg_192)), (ph, .inl (pc, 4, .inr (.inr (.inr (.inr pf))))), (p0, .inr (0, [.int b0, .int z0, .ref n0])), (n0, .inl (nc0, 40, .inr (.inl g0))), (p1, .inr (0, [.int b1, .int z1, .ref n1])), (n1, .inl (nc1, 40, .inr (.inl g1))), (p2, .inr (0, [.int b2, .int z2, .ref n2])), (n2, .inl (nc2, 40, .inr (.inl g2))), (p3, .inr (0, [.int b3, .int z3, .ref n3])), (n3, .inl (nc3, 40, .inr (.inl g3)))]) [9, 10, 0, 1, 2, 3, 4, 5, 6, 7, 8] (by decide) rfl
                have hK9 := hK.sub (tys' := [(tc, .int), (pc, .object "LampShapes$Paper"), (nc0, .long), (nc1, .long), (nc2, .long), (nc3, .long)]) [0, 1, 2, 3, 4, 5] rfl
                exact W.iret (v := ((-1000000001) : Int32)) hx hb hr (fun t ht hW => ⟨⟨((-1000000001) : Int32), (), rfl, trivial, tg_192, g0, g1, g2, g3, by rw [ht]; exact hP9, va_K.moved hW.alike hK9, hD9⟩, hS.F ht⟩) hS.2.2 dX8_copy_104
          · skip
            have tc_183 : ¬ b1.toInt = b1.toInt := fun h => c_183 ((fa_eq _ _).mpr h)
            refine lv_aload_n hx hb dX8_copy_68 rfl (lv_at hl 2 rfl) ?_
            refine lv_ldc hx hb hown (hts _ (List.mem_of_getElem? (i := 29) rfl)) dX8_copy_69 ?_
            have hPc := hP.sub (ws' := [(h0, .inr (6, [v0, v1, v2, v3, v4, .ref ph, .ref t0, v7])), (t0, .inl (tc, 7, .inl tf))]) [0, 1] rfl
            have hKc := hK.sub (tys' := [(tc, .int)]) [0] rfl
            have hDc := hD.sub (ws' := [(h0, .inr (6, [v0, v1, v2, v3, v4, .ref ph, .ref t0, v7])), (t0, .inl (tc, 7, .inl tf))]) [0, 1] (by decide) rfl
            have hFc := va_free (wc := [(h0, .inr (6, [v0, v1, v2, v3, v4, .ref ph, .ref t0, v7])), (t0, .inl (tc, 7, .inl tf))]) hD hS hA [0, 1] rfl
            refine va_calli (va_runV (As := [.int (-1000000003)]) (rest := []) ⟨hx, hb, hml, hown, hts⟩ (f_kind l dC dI ad h0 v0 v1 v2 v3 v4 (.ref ph) t0 v7 tc tf s.heap.size ) (cwV 1 hts g_x_copy_f_kind_63 rfl rfl rfl (by decide +kernel) ⟨(Nat.le_of_ble_eq_true rfl), (Nat.le_of_ble_eq_true rfl)⟩) ⟨preM_blind, va_recv hKc hPc (ci := 6) (q0 := 0) rfl rfl, fun U hU hW => ⟨rfl, preM_at hU hW hPc hKc hDc hev⟩⟩ rfl rfl hl.1 rfl (lv_room (Nat.le_of_ble_eq_true rfl)) dX8_copy_71 ⟨(Nat.le_of_ble_eq_true rfl), (Nat.le_of_ble_eq_true rfl)⟩) hS (fun q _ h => hFc q h) hFc (fun r_193 u t H1 locs ht hvm hw hB hz1 hk1 hS => ?_)
            obtain ⟨tg_194, hP1, hK1, hD1⟩ := hB
            rw [ht] at hP1
            have hK1 := va_K.moved hvm.symm hK1
            obtain ⟨hP, hD⟩ := va_join (wr := [(ph, .inl (pc, 4, .inr (.inr (.inr (.inr pf))))), (p0, .inr (0, [.int b0, .int z0, .ref n0])), (n0, .inl (nc0, 40, .inr (.inl g0))), (p1, .inr (0, [.int b1, .int z1, .ref n1])), (n1, .inl (nc1, 40, .inr (.inl g1))), (p2, .inr (0, [.int b2, .int z2, .ref n2])), (n2, .inl (nc2, 40, .inr (.inl g2))), (p3, .inr (0, [.int b3, .int z3, .ref n3])), (n3, .inl (nc3, 40, .inr (.inl g3)))]) (w1 := [(h0, .inr (6, [v0, v1, v2, v3, v4, .ref ph, .ref t0, v7])), (t0, .inl (tc, 7, .inl tg_194))]) hP hD [0, 1] [2, 3, 4, 5, 6, 7, 8, 9, 10] rfl rfl (by decide) (by decide) hk1 hFc hP1 hD1
            generalize H1 = H at hP hS ⊢
            have hP : va_P (dC, dI) vwCl [(ph, .inl (pc, 4, .inr (.inr (.inr (.inr pf))))), (p0, .inr (0, [.int b0, .int z0, .ref n0])), (n0, .inl (nc0, 40, .inr (.inl g0))), (p1, .inr (0, [.int b1, .int z1, .ref n1])), (n1, .inl (nc1, 40, .inr (.inl g1))), (p2, .inr (0, [.int b2, .int z2, .ref n2])), (n2, .inl (nc2, 40, .inr (.inl g2))), (p3, .inr (0, [.int b3, .int z3, .ref n3])), (n3, .inl (nc3, 40, .inr (.inl g3))), (h0, .inr (6, [v0, v1, v2, v3, v4, .ref ph, .ref t0, v7])), (t0, .inl (tc, 7, .inl tg_194))] H := hP
            have hD : va_D A [(ph, .inl (pc, 4, .inr (.inr (.inr (.inr pf))))), (p0, .inr (0, [.int b0, .int z0, .ref n0])), (n0, .inl (nc0, 40, .inr (.inl g0))), (p1, .inr (0, [.int b1, .int z1, .ref n1])), (n1, .inl (nc1, 40, .inr (.inl g1))), (p2, .inr (0, [.int b2, .int z2, .ref n2])), (n2, .inl (nc2, 40, .inr (.inl g2))), (p3, .inr (0, [.int b3, .int z3, .ref n3])), (n3, .inl (nc3, 40, .inr (.inl g3))), (h0, .inr (6, [v0, v1, v2, v3, v4, .ref ph, .ref t0, v7])), (t0, .inl (tc, 7, .inl tg_194))] := hD
            subst hw
            have hP9 := hP.sub (ws' := [(h0, .inr (6, [v0, v1, v2, v3, v4, .ref ph, .ref t0, v7])), (t0, .inl (tc, 7, .inl tg_194)), (ph, .inl (pc, 4, .inr (.inr (.inr (.inr pf))))), (p0, .inr (0, [.int b0, .int z0, .ref n0])), (n0, .inl (nc0, 40, .inr (.inl g0))), (p1, .inr (0, [.int b1, .int z1, .ref n1])), (n1, .inl (nc1, 40, .inr (.inl g1))), (p2, .inr (0, [.int b2, .int z2, .ref n2])), (n2, .inl (nc2, 40, .inr (.inl g2))), (p3, .inr (0, [.int b3, .int z3, .ref n3])), (n3, .inl (nc3, 40, .inr (.inl g3)))]) [9, 10, 0, 1, 2, 3, 4, 5, 6, 7, 8] rfl
            have hD9 := hD.sub (ws' := [(h0, .inr (6, [v0, v1, v2, v3, v4, .ref ph, .ref t0, v7])), (t0, .inl (tc, 7, .inl tg_194)), (ph, .inl (pc, 4, .inr (.inr (.inr (.inr pf))))), (p0, .inr (0, [.int b0, .int z0, .ref n0])), (n0, .inl (nc0, 40, .inr (.inl g0))), (p1, .inr (0, [.int b1, .int z1, .ref n1])), (n1, .inl (nc1, 40, .inr (.inl g1))), (p2, .inr (0, [.int b2, .int z2, .ref n2])), (n2, .inl (nc2, 40, .inr (.inl g2))), (p3, .inr (0, [.int b3, .int z3, .ref n3])), (n3, .inl (nc3, 40, .inr (.inl g3)))]) [9, 10, 0, 1, 2, 3, 4, 5, 6, 7, 8] (by decide) rfl
            have hK9 := hK.sub (tys' := [(tc, .int), (pc, .object "LampShapes$Paper"), (nc0, .long), (nc1, .long), (nc2, .long), (nc3, .long)]) [0, 1, 2, 3, 4, 5] rfl
            exact W.iret (v := ((-1000000003) : Int32)) hx hb hr (fun t ht hW => ⟨⟨((-1000000003) : Int32), (), rfl, trivial, tg_194, g0, g1, g2, g3, by rw [ht]; exact hP9, va_K.moved hW.alike hK9, hD9⟩, hS.F ht⟩) hS.2.2 dX8_copy_74
        · skip
          have tc_182 : ¬ r_181.toInt = 0 := fun h => c_182 ((fa_eq _ _).mpr h)
          refine lv_aload_n hx hb dX8_copy_47 rfl (lv_at hl 2 rfl) ?_
          refine lv_ldcw hx hb hown (hts _ (List.mem_of_getElem? (i := 19) rfl)) dX8_copy_48 ?_
          have hPc := hP.sub (ws' := [(h0, .inr (6, [v0, v1, v2, v3, v4, .ref ph, .ref t0, v7])), (t0, .inl (tc, 7, .inl tf))]) [0, 1] rfl
          have hKc := hK.sub (tys' := [(tc, .int)]) [0] rfl
          have hDc := hD.sub (ws' := [(h0, .inr (6, [v0, v1, v2, v3, v4, .ref ph, .ref t0, v7])), (t0, .inl (tc, 7, .inl tf))]) [0, 1] (by decide) rfl
          have hFc := va_free (wc := [(h0, .inr (6, [v0, v1, v2, v3, v4, .ref ph, .ref t0, v7])), (t0, .inl (tc, 7, .inl tf))]) hD hS hA [0, 1] rfl
          refine va_calli (va_runV (As := [.int (-1000000006)]) (rest := []) ⟨hx, hb, hml, hown, hts⟩ (f_missing l dC dI ad h0 v0 v1 v2 v3 v4 (.ref ph) t0 v7 tc tf s.heap.size ) (cwV 1 hts g_x_copy_f_missing_63 rfl rfl rfl (by decide +kernel) ⟨(Nat.le_of_ble_eq_true rfl), (Nat.le_of_ble_eq_true rfl)⟩) ⟨preM_blind, va_recv hKc hPc (ci := 6) (q0 := 0) rfl rfl, fun U hU hW => ⟨rfl, preM_at hU hW hPc hKc hDc hev⟩⟩ rfl rfl hl.1 rfl (lv_room (Nat.le_of_ble_eq_true rfl)) dX8_copy_51 ⟨(Nat.le_of_ble_eq_true rfl), (Nat.le_of_ble_eq_true rfl)⟩) hS (fun q _ h => hFc q h) hFc (fun r_195 u t H1 locs ht hvm hw hB hz1 hk1 hS => ?_)
          obtain ⟨tg_196, hP1, hK1, hD1⟩ := hB
          rw [ht] at hP1
          have hK1 := va_K.moved hvm.symm hK1
          obtain ⟨hP, hD⟩ := va_join (wr := [(ph, .inl (pc, 4, .inr (.inr (.inr (.inr pf))))), (p0, .inr (0, [.int b0, .int z0, .ref n0])), (n0, .inl (nc0, 40, .inr (.inl g0))), (p1, .inr (0, [.int b1, .int z1, .ref n1])), (n1, .inl (nc1, 40, .inr (.inl g1))), (p2, .inr (0, [.int b2, .int z2, .ref n2])), (n2, .inl (nc2, 40, .inr (.inl g2))), (p3, .inr (0, [.int b3, .int z3, .ref n3])), (n3, .inl (nc3, 40, .inr (.inl g3)))]) (w1 := [(h0, .inr (6, [v0, v1, v2, v3, v4, .ref ph, .ref t0, v7])), (t0, .inl (tc, 7, .inl tg_196))]) hP hD [0, 1] [2, 3, 4, 5, 6, 7, 8, 9, 10] rfl rfl (by decide) (by decide) hk1 hFc hP1 hD1
          generalize H1 = H at hP hS ⊢
          have hP : va_P (dC, dI) vwCl [(ph, .inl (pc, 4, .inr (.inr (.inr (.inr pf))))), (p0, .inr (0, [.int b0, .int z0, .ref n0])), (n0, .inl (nc0, 40, .inr (.inl g0))), (p1, .inr (0, [.int b1, .int z1, .ref n1])), (n1, .inl (nc1, 40, .inr (.inl g1))), (p2, .inr (0, [.int b2, .int z2, .ref n2])), (n2, .inl (nc2, 40, .inr (.inl g2))), (p3, .inr (0, [.int b3, .int z3, .ref n3])), (n3, .inl (nc3, 40, .inr (.inl g3))), (h0, .inr (6, [v0, v1, v2, v3, v4, .ref ph, .ref t0, v7])), (t0, .inl (tc, 7, .inl tg_196))] H := hP
          have hD : va_D A [(ph, .inl (pc, 4, .inr (.inr (.inr (.inr pf))))), (p0, .inr (0, [.int b0, .int z0, .ref n0])), (n0, .inl (nc0, 40, .inr (.inl g0))), (p1, .inr (0, [.int b1, .int z1, .ref n1])), (n1, .inl (nc1, 40, .inr (.inl g1))), (p2, .inr (0, [.int b2, .int z2, .ref n2])), (n2, .inl (nc2, 40, .inr (.inl g2))), (p3, .inr (0, [.int b3, .int z3, .ref n3])), (n3, .inl (nc3, 40, .inr (.inl g3))), (h0, .inr (6, [v0, v1, v2, v3, v4, .ref ph, .ref t0, v7])), (t0, .inl (tc, 7, .inl tg_196))] := hD
          subst hw
          have hP9 := hP.sub (ws' := [(h0, .inr (6, [v0, v1, v2, v3, v4, .ref ph, .ref t0, v7])), (t0, .inl (tc, 7, .inl tg_196)), (ph, .inl (pc, 4, .inr (.inr (.inr (.inr pf))))), (p0, .inr (0, [.int b0, .int z0, .ref n0])), (n0, .inl (nc0, 40, .inr (.inl g0))), (p1, .inr (0, [.int b1, .int z1, .ref n1])), (n1, .inl (nc1, 40, .inr (.inl g1))), (p2, .inr (0, [.int b2, .int z2, .ref n2])), (n2, .inl (nc2, 40, .inr (.inl g2))), (p3, .inr (0, [.int b3, .int z3, .ref n3])), (n3, .inl (nc3, 40, .inr (.inl g3)))]) [9, 10, 0, 1, 2, 3, 4, 5, 6, 7, 8] rfl
          have hD9 := hD.sub (ws' := [(h0, .inr (6, [v0, v1, v2, v3, v4, .ref ph, .ref t0, v7])), (t0, .inl (tc, 7, .inl tg_196)), (ph, .inl (pc, 4, .inr (.inr (.inr (.inr pf))))), (p0, .inr (0, [.int b0, .int z0, .ref n0])), (n0, .inl (nc0, 40, .inr (.inl g0))), (p1, .inr (0, [.int b1, .int z1, .ref n1])), (n1, .inl (nc1, 40, .inr (.inl g1))), (p2, .inr (0, [.int b2, .int z2, .ref n2])), (n2, .inl (nc2, 40, .inr (.inl g2))), (p3, .inr (0, [.int b3, .int z3, .ref n3])), (n3, .inl (nc3, 40, .inr (.inl g3)))]) [9, 10, 0, 1, 2, 3, 4, 5, 6, 7, 8] (by decide) rfl
          have hK9 := hK.sub (tys' := [(tc, .int), (pc, .object "LampShapes$Paper"), (nc0, .long), (nc1, .long), (nc2, .long), (nc3, .long)]) [0, 1, 2, 3, 4, 5] rfl
          exact W.iret (v := ((-1000000006) : Int32)) hx hb hr (fun t ht hW => ⟨⟨((-1000000006) : Int32), (), rfl, trivial, tg_196, g0, g1, g2, g3, by rw [ht]; exact hP9, va_K.moved hW.alike hK9, hD9⟩, hS.F ht⟩) hS.2.2 dX8_copy_54
    · skip
      refine Met.ofW (cc := cX8_copy) (maxL := 8) (ret := (some .int)) (by decide) rfl ?_
      intro p e s m args below meth c s₁ B hml hv
      obtain ⟨rfl, hsz, hP, hK, hD0, hev⟩ := hv
      have hx := B.exec
      have hb := B.bytes
      have hr := B.returns
      have hts := atoms_spec (ws := w_x_copy) B.pre
      have hown : s.vm.findClass RX8 = some m.cls := findClass_of_methodNamed B.named
      have hlocks := B.notSynchronized
      have inX8 : ∀ w ∈ wsX80, w ∈ w_x_copy := fun w h => List.mem_cons_of_mem _ (List.mem_append_left _ (List.mem_append_right _ h))
      have inX2 : ∀ w ∈ wsX20, w ∈ w_x_copy := fun w h => List.mem_cons_of_mem _ (List.mem_append_right _ h)
      subst hsz
      have hD := hD0.self (sz := s.heap.size)
      generalize hAe : va_A [(h0, .inr (6, [v0, v1, v2, v3, v4, .ref ph, .ref t0, v7])), (t0, .inl (tc, 7, .inl tf)), (ph, .inl (pc, 4, .inr (.inr (.inr (.inr pf))))), (p0, .inr (0, [.int b0, .int z0, .ref n0])), (n0, .inl (nc0, 40, .inr (.inl g0))), (p1, .inr (0, [.int b1, .int z1, .ref n1])), (n1, .inl (nc1, 40, .inr (.inl g1))), (p2, .inr (0, [.int b2, .int z2, .ref n2])), (n2, .inl (nc2, 40, .inr (.inl g2))), (p3, .inr (0, [.int b3, .int z3, .ref n3])), (n3, .inl (nc3, 40, .inr (.inl g3)))] s.heap.size = A at hD ⊢
      have hA : ∀ q : Nat, s.heap.size ≤ q → A q := fun q h => by rw [← hAe]; exact Or.inr h
      have hS : va_S A s.heap s.heap [] := va_S.rf
      have hP : va_P (dC, dI) vwCl [(h0, .inr (6, [v0, v1, v2, v3, v4, .ref ph, .ref t0, v7])), (t0, .inl (tc, 7, .inl tf)), (ph, .inl (pc, 4, .inr (.inr (.inr (.inr pf))))), (p0, .inr (0, [.int b0, .int z0, .ref n0])), (n0, .inl (nc0, 40, .inr (.inl g0))), (p1, .inr (0, [.int b1, .int z1, .ref n1])), (n1, .inl (nc1, 40, .inr (.inl g1))), (p2, .inr (0, [.int b2, .int z2, .ref n2])), (n2, .inl (nc2, 40, .inr (.inl g2))), (p3, .inr (0, [.int b3, .int z3, .ref n3])), (n3, .inl (nc3, 40, .inr (.inl g3)))] s.heap := hP
      have hl := lv_entry ([.ref h0, .int 1, .int i, .int 2, .int j, .int n]) (n := 8) (Nat.le_of_ble_eq_true rfl)
      rw [lg_entry_eq]
      generalize (lg_sl ([.ref h0, .int 1, .int i, .int 2, .int j, .int n]) ++ List.replicate (8 - (lg_sl ([.ref h0, .int 1, .int i, .int 2, .int j, .int n])).length) Slot.unset).toArray = ls at hl ⊢
      have hl : lv_has ls 8 [(0, .ref h0), (1, .int 1), (2, .int i), (3, .int 2), (4, .int j), (5, .int n)] := hl
      refine lv_aload_n hx hb dX8_copy_0 rfl (lv_at hl 0 rfl) ?_
      refine lv_iload_n hx hb dX8_copy_1 rfl (lv_at hl 1 rfl) ?_
      have hPc := hP.sub (ws' := [(h0, .inr (6, [v0, v1, v2, v3, v4, .ref ph, .ref t0, v7])), (ph, .inl (pc, 4, .inr (.inr (.inr (.inr pf)))))]) [0, 2] rfl
      have hKc := hK.sub (tys' := [(pc, .object "LampShapes$Paper")]) [1] rfl
      refine va_csq (W.runV (As := [.int 1]) (rest := []) ⟨hx, hb, hml, hown, hts⟩ (c_paperAt_1 l dC dI ad h0 v0 v1 v2 v3 v4 ph (.ref t0) v7 pc pf p1 hp1) (cwV 1 hts g_x_copy_c_paperAt_1_256 rfl rfl rfl (by decide +kernel) ⟨(Nat.le_of_ble_eq_true rfl), (Nat.le_of_ble_eq_true rfl)⟩) ⟨preS_blind, va_recv hKc hPc (ci := 6) (q0 := 0) rfl rfl, fun U hU hW => ⟨rfl, preS_at hU hW hPc hKc hev⟩⟩ rfl rfl hl.1 rfl (lv_room (Nat.le_of_ble_eq_true rfl)) dX8_copy_2 ⟨(Nat.le_of_ble_eq_true rfl), (Nat.le_of_ble_eq_true rfl)⟩) (fun r_197 hw => ?_)
      subst hw
      refine pp_tv (y := .ref p1) rfl ?_
      refine lv_astore (lv' := [(6, .ref p1), (0, .ref h0), (1, .int 1), (2, .int i), (3, .int 2), (4, .int j), (5, .int n)]) hx hb dX8_copy_5 hl (by decide) rfl (fun ls hl => ?_)
      refine lv_aload_n hx hb dX8_copy_7 rfl (lv_at hl 1 rfl) ?_
      refine lv_iload_n hx hb dX8_copy_8 rfl (lv_at hl 4 rfl) ?_
      have hPc := hP.sub (ws' := [(h0, .inr (6, [v0, v1, v2, v3, v4, .ref ph, .ref t0, v7])), (ph, .inl (pc, 4, .inr (.inr (.inr (.inr pf)))))]) [0, 2] rfl
      have hKc := hK.sub (tys' := [(pc, .object "LampShapes$Paper")]) [1] rfl
      refine va_csq (W.runV (As := [.int 2]) (rest := []) ⟨hx, hb, hml, hown, hts⟩ (c_paperAt_2 l dC dI ad h0 v0 v1 v2 v3 v4 ph (.ref t0) v7 pc pf p2 hp2) (cwV 1 hts g_x_copy_c_paperAt_2_256 rfl rfl rfl (by decide +kernel) ⟨(Nat.le_of_ble_eq_true rfl), (Nat.le_of_ble_eq_true rfl)⟩) ⟨preS_blind, va_recv hKc hPc (ci := 6) (q0 := 0) rfl rfl, fun U hU hW => ⟨rfl, preS_at hU hW hPc hKc hev⟩⟩ rfl rfl hl.1 rfl (lv_room (Nat.le_of_ble_eq_true rfl)) dX8_copy_9 ⟨(Nat.le_of_ble_eq_true rfl), (Nat.le_of_ble_eq_true rfl)⟩) (fun r_198 hw => ?_)
      subst hw
      refine pp_tv (y := .ref p2) rfl ?_
      refine lv_astore (lv' := [(7, .ref p2), (6, .ref p1), (0, .ref h0), (1, .int 1), (2, .int i), (3, .int 2), (4, .int j), (5, .int n)]) hx hb dX8_copy_12 hl (by decide) rfl (fun ls hl => ?_)
      refine lv_aload hx hb dX8_copy_14 (lv_at hl 1 rfl) ?_
      refine lv_ifnull hx hb dX8_copy_16 ?_
      refine lv_aload hx hb dX8_copy_19 (lv_at hl 0 rfl) ?_
      refine lv_ifnonnull (tgt := 31) hx hb dX8_copy_21 (by decide) ?_
      refine lv_aload hx hb dX8_copy_31 (lv_at hl 1 rfl) ?_
      have hPc := hP.sub (ws' := [(p1, .inr (0, [.int b1, .int z1, .ref n1]))]) [5] rfl
      have hKc := hK.sub (tys' := []) [] rfl
      refine vp_callSi (W.runV (As := []) (rest := []) ⟨hx, hb, hml, hown, hts⟩ (p_isMissing l dC dI ad p1 b1 (.int z1) (.ref n1) ) (cwV 0 hts g_x_copy_p_isMissing_268 rfl rfl rfl (by decide +kernel) ⟨(Nat.le_of_ble_eq_true rfl), (Nat.le_of_ble_eq_true rfl)⟩) ⟨preS_blind, va_recv hKc hPc (ci := 0) (q0 := 0) rfl rfl, fun U hU hW => ⟨rfl, preS_at hU hW hPc hKc hev⟩⟩ rfl rfl hl.1 rfl (lv_room (Nat.le_of_ble_eq_true rfl)) dX8_copy_33 ⟨(Nat.le_of_ble_eq_true rfl), (Nat.le_of_ble_eq_true rfl)⟩) (fun r_199 hw => ?_)
      have hr_199 : (r_199.toInt = 1 ∧ b1.toInt = 0) ∨ (r_199.toInt = 0 ∧ ¬ b1.toInt = 0) := hw
      refine lv_if_ne (tgt := 47) hx hb dX8_copy_36 (by decide) (fun c_200 => ?_) (fun c_200 => ?_)
      · skip
        have tc_200 : ¬ r_199.toInt = 0 := fun h => c_200 ((fa_eq _ _).mpr h)
        refine lv_aload_n hx hb dX8_copy_47 rfl (lv_at hl 2 rfl) ?_
        refine lv_ldcw hx hb hown (hts _ (List.mem_of_getElem? (i := 19) rfl)) dX8_copy_48 ?_
        have hPc := hP.sub (ws' := [(h0, .inr (6, [v0, v1, v2, v3, v4, .ref ph, .ref t0, v7])), (t0, .inl (tc, 7, .inl tf))]) [0, 1] rfl
        have hKc := hK.sub (tys' := [(tc, .int)]) [0] rfl
        have hDc := hD.sub (ws' := [(h0, .inr (6, [v0, v1, v2, v3, v4, .ref ph, .ref t0, v7])), (t0, .inl (tc, 7, .inl tf))]) [0, 1] (by decide) rfl
        have hFc := va_free (wc := [(h0, .inr (6, [v0, v1, v2, v3, v4, .ref ph, .ref t0, v7])), (t0, .inl (tc, 7, .inl tf))]) hD hS hA [0, 1] rfl
        refine va_calli (va_runV (As := [.int (-1000000006)]) (rest := []) ⟨hx, hb, hml, hown, hts⟩ (f_missing l dC dI ad h0 v0 v1 v2 v3 v4 (.ref ph) t0 v7 tc tf s.heap.size ) (cwV 1 hts g_x_copy_f_missing_63 rfl rfl rfl (by decide +kernel) ⟨(Nat.le_of_ble_eq_true rfl), (Nat.le_of_ble_eq_true rfl)⟩) ⟨preM_blind, va_recv hKc hPc (ci := 6) (q0 := 0) rfl rfl, fun U hU hW => ⟨rfl, preM_at hU hW hPc hKc hDc hev⟩⟩ rfl rfl hl.1 rfl (lv_room (Nat.le_of_ble_eq_true rfl)) dX8_copy_51 ⟨(Nat.le_of_ble_eq_true rfl), (Nat.le_of_ble_eq_true rfl)⟩) hS (fun q _ h => hFc q h) hFc (fun r_201 u t H1 locs ht hvm hw hB hz1 hk1 hS => ?_)
        obtain ⟨tg_202, hP1, hK1, hD1⟩ := hB
        rw [ht] at hP1
        have hK1 := va_K.moved hvm.symm hK1
        obtain ⟨hP, hD⟩ := va_join (wr := [(ph, .inl (pc, 4, .inr (.inr (.inr (.inr pf))))), (p0, .inr (0, [.int b0, .int z0, .ref n0])), (n0, .inl (nc0, 40, .inr (.inl g0))), (p1, .inr (0, [.int b1, .int z1, .ref n1])), (n1, .inl (nc1, 40, .inr (.inl g1))), (p2, .inr (0, [.int b2, .int z2, .ref n2])), (n2, .inl (nc2, 40, .inr (.inl g2))), (p3, .inr (0, [.int b3, .int z3, .ref n3])), (n3, .inl (nc3, 40, .inr (.inl g3)))]) (w1 := [(h0, .inr (6, [v0, v1, v2, v3, v4, .ref ph, .ref t0, v7])), (t0, .inl (tc, 7, .inl tg_202))]) hP hD [0, 1] [2, 3, 4, 5, 6, 7, 8, 9, 10] rfl rfl (by decide) (by decide) hk1 hFc hP1 hD1
        generalize H1 = H at hP hS ⊢
        have hP : va_P (dC, dI) vwCl [(ph, .inl (pc, 4, .inr (.inr (.inr (.inr pf))))), (p0, .inr (0, [.int b0, .int z0, .ref n0])), (n0, .inl (nc0, 40, .inr (.inl g0))), (p1, .inr (0, [.int b1, .int z1, .ref n1])), (n1, .inl (nc1, 40, .inr (.inl g1))), (p2, .inr (0, [.int b2, .int z2, .ref n2])), (n2, .inl (nc2, 40, .inr (.inl g2))), (p3, .inr (0, [.int b3, .int z3, .ref n3])), (n3, .inl (nc3, 40, .inr (.inl g3))), (h0, .inr (6, [v0, v1, v2, v3, v4, .ref ph, .ref t0, v7])), (t0, .inl (tc, 7, .inl tg_202))] H := hP
        have hD : va_D A [(ph, .inl (pc, 4, .inr (.inr (.inr (.inr pf))))), (p0, .inr (0, [.int b0, .int z0, .ref n0])), (n0, .inl (nc0, 40, .inr (.inl g0))), (p1, .inr (0, [.int b1, .int z1, .ref n1])), (n1, .inl (nc1, 40, .inr (.inl g1))), (p2, .inr (0, [.int b2, .int z2, .ref n2])), (n2, .inl (nc2, 40, .inr (.inl g2))), (p3, .inr (0, [.int b3, .int z3, .ref n3])), (n3, .inl (nc3, 40, .inr (.inl g3))), (h0, .inr (6, [v0, v1, v2, v3, v4, .ref ph, .ref t0, v7])), (t0, .inl (tc, 7, .inl tg_202))] := hD
        subst hw
        have hP9 := hP.sub (ws' := [(h0, .inr (6, [v0, v1, v2, v3, v4, .ref ph, .ref t0, v7])), (t0, .inl (tc, 7, .inl tg_202)), (ph, .inl (pc, 4, .inr (.inr (.inr (.inr pf))))), (p0, .inr (0, [.int b0, .int z0, .ref n0])), (n0, .inl (nc0, 40, .inr (.inl g0))), (p1, .inr (0, [.int b1, .int z1, .ref n1])), (n1, .inl (nc1, 40, .inr (.inl g1))), (p2, .inr (0, [.int b2, .int z2, .ref n2])), (n2, .inl (nc2, 40, .inr (.inl g2))), (p3, .inr (0, [.int b3, .int z3, .ref n3])), (n3, .inl (nc3, 40, .inr (.inl g3)))]) [9, 10, 0, 1, 2, 3, 4, 5, 6, 7, 8] rfl
        have hD9 := hD.sub (ws' := [(h0, .inr (6, [v0, v1, v2, v3, v4, .ref ph, .ref t0, v7])), (t0, .inl (tc, 7, .inl tg_202)), (ph, .inl (pc, 4, .inr (.inr (.inr (.inr pf))))), (p0, .inr (0, [.int b0, .int z0, .ref n0])), (n0, .inl (nc0, 40, .inr (.inl g0))), (p1, .inr (0, [.int b1, .int z1, .ref n1])), (n1, .inl (nc1, 40, .inr (.inl g1))), (p2, .inr (0, [.int b2, .int z2, .ref n2])), (n2, .inl (nc2, 40, .inr (.inl g2))), (p3, .inr (0, [.int b3, .int z3, .ref n3])), (n3, .inl (nc3, 40, .inr (.inl g3)))]) [9, 10, 0, 1, 2, 3, 4, 5, 6, 7, 8] (by decide) rfl
        have hK9 := hK.sub (tys' := [(tc, .int), (pc, .object "LampShapes$Paper"), (nc0, .long), (nc1, .long), (nc2, .long), (nc3, .long)]) [0, 1, 2, 3, 4, 5] rfl
        exact W.iret (v := ((-1000000006) : Int32)) hx hb hr (fun t ht hW => ⟨⟨((-1000000006) : Int32), (), rfl, trivial, tg_202, g0, g1, g2, g3, by rw [ht]; exact hP9, va_K.moved hW.alike hK9, hD9⟩, hS.F ht⟩) hS.2.2 dX8_copy_54
      · skip
        have tc_200 : r_199.toInt = 0 := (fa_eq _ _).mp c_200
        refine lv_aload hx hb dX8_copy_39 (lv_at hl 0 rfl) ?_
        have hPc := hP.sub (ws' := [(p2, .inr (0, [.int b2, .int z2, .ref n2]))]) [7] rfl
        have hKc := hK.sub (tys' := []) [] rfl
        refine vp_callSi (W.runV (As := []) (rest := []) ⟨hx, hb, hml, hown, hts⟩ (p_isMissing l dC dI ad p2 b2 (.int z2) (.ref n2) ) (cwV 0 hts g_x_copy_p_isMissing_268 rfl rfl rfl (by decide +kernel) ⟨(Nat.le_of_ble_eq_true rfl), (Nat.le_of_ble_eq_true rfl)⟩) ⟨preS_blind, va_recv hKc hPc (ci := 0) (q0 := 0) rfl rfl, fun U hU hW => ⟨rfl, preS_at hU hW hPc hKc hev⟩⟩ rfl rfl hl.1 rfl (lv_room (Nat.le_of_ble_eq_true rfl)) dX8_copy_41 ⟨(Nat.le_of_ble_eq_true rfl), (Nat.le_of_ble_eq_true rfl)⟩) (fun r_203 hw => ?_)
        have hr_203 : (r_203.toInt = 1 ∧ b2.toInt = 0) ∨ (r_203.toInt = 0 ∧ ¬ b2.toInt = 0) := hw
        refine lv_if_eq (tgt := 55) hx hb dX8_copy_44 (by decide) (fun c_204 => ?_) (fun c_204 => ?_)
        · skip
          have tc_204 : r_203.toInt = 0 := (fa_eq _ _).mp c_204
          refine lv_aload hx hb dX8_copy_55 (lv_at hl 1 rfl) ?_
          refine va_getN (D := (dC, dI)) (ci := 0) (v := .int b1) (C := RX2) (T := TX2) (N := 3) hx hb hts inX2 hown hK hP 5 rfl rfl 0 (by decide) (ev_nest hev 21 rfl) (fun _ h9 => h9) rfl dX8_copy_57 ?_
          refine lv_aload hx hb dX8_copy_60 (lv_at hl 0 rfl) ?_
          refine va_getN (D := (dC, dI)) (ci := 0) (v := .int b2) (C := RX2) (T := TX2) (N := 3) hx hb hts inX2 hown hK hP 7 rfl rfl 0 (by decide) (ev_nest hev 21 rfl) (fun _ h9 => h9) rfl dX8_copy_62 ?_
          have rc_205_x := pp_rng b1
          have rc_205_y := pp_rng b2
          refine lv_icmp_eq (tgt := 75) hx hb dX8_copy_65 (by decide) (fun c_205 => ?_) (fun c_205 => ?_)
          · skip
            have tc_205 : b1.toInt = b2.toInt := (fa_eq _ _).mp c_205
            refine lv_aload hx hb dX8_copy_75 (lv_at hl 1 rfl) ?_
            refine lv_iload_n hx hb dX8_copy_77 rfl (lv_at hl 4 rfl) ?_
            refine lv_iload hx hb dX8_copy_78 (lv_at hl 7 rfl) ?_
            have hPc := hP.sub (ws' := [(p1, .inr (0, [.int b1, .int z1, .ref n1]))]) [5] rfl
            have hKc := hK.sub (tys' := []) [] rfl
            refine vp_callSi (W.runV (As := [.int i, .int n]) (rest := []) ⟨hx, hb, hml, hown, hts⟩ (p_hasPart l dC dI ad p1 i n (.int b1) z1 (.ref n1) hz1) (cwV 2 hts g_x_copy_p_hasPart_282 rfl rfl rfl (by decide +kernel) ⟨(Nat.le_of_ble_eq_true rfl), (Nat.le_of_ble_eq_true rfl)⟩) ⟨preS_blind, va_recv hKc hPc (ci := 0) (q0 := 0) rfl rfl, fun U hU hW => ⟨rfl, preS_at hU hW hPc hKc hev⟩⟩ rfl rfl hl.1 rfl (lv_room (Nat.le_of_ble_eq_true rfl)) dX8_copy_80 ⟨(Nat.le_of_ble_eq_true rfl), (Nat.le_of_ble_eq_true rfl)⟩) (fun r_206 hw => ?_)
            have hr_206 : (r_206.toInt = 1 ∧ 0 ≤ i.toInt ∧ 0 ≤ n.toInt ∧ i.toInt + n.toInt ≤ z1.toInt) ∨ (r_206.toInt = 0 ∧ ¬ (0 ≤ i.toInt ∧ 0 ≤ n.toInt ∧ i.toInt + n.toInt ≤ z1.toInt)) := hw
            refine lv_if_eq (tgt := 98) hx hb dX8_copy_83 (by decide) (fun c_207 => ?_) (fun c_207 => ?_)
            · skip
              have tc_207 : r_206.toInt = 0 := (fa_eq _ _).mp c_207
              refine lv_aload_n hx hb dX8_copy_98 rfl (lv_at hl 2 rfl) ?_
              refine lv_ldc hx hb hown (hts _ (List.mem_of_getElem? (i := 6) rfl)) dX8_copy_99 ?_
              have hPc := hP.sub (ws' := [(h0, .inr (6, [v0, v1, v2, v3, v4, .ref ph, .ref t0, v7])), (t0, .inl (tc, 7, .inl tf))]) [0, 1] rfl
              have hKc := hK.sub (tys' := [(tc, .int)]) [0] rfl
              have hDc := hD.sub (ws' := [(h0, .inr (6, [v0, v1, v2, v3, v4, .ref ph, .ref t0, v7])), (t0, .inl (tc, 7, .inl tf))]) [0, 1] (by decide) rfl
              have hFc := va_free (wc := [(h0, .inr (6, [v0, v1, v2, v3, v4, .ref ph, .ref t0, v7])), (t0, .inl (tc, 7, .inl tf))]) hD hS hA [0, 1] rfl
              refine va_calli (va_runV (As := [.int (-1000000001)]) (rest := []) ⟨hx, hb, hml, hown, hts⟩ (f_beyond l dC dI ad h0 v0 v1 v2 v3 v4 (.ref ph) t0 v7 tc tf s.heap.size ) (cwV 1 hts g_x_copy_f_beyond_63 rfl rfl rfl (by decide +kernel) ⟨(Nat.le_of_ble_eq_true rfl), (Nat.le_of_ble_eq_true rfl)⟩) ⟨preM_blind, va_recv hKc hPc (ci := 6) (q0 := 0) rfl rfl, fun U hU hW => ⟨rfl, preM_at hU hW hPc hKc hDc hev⟩⟩ rfl rfl hl.1 rfl (lv_room (Nat.le_of_ble_eq_true rfl)) dX8_copy_101 ⟨(Nat.le_of_ble_eq_true rfl), (Nat.le_of_ble_eq_true rfl)⟩) hS (fun q _ h => hFc q h) hFc (fun r_208 u t H1 locs ht hvm hw hB hz1 hk1 hS => ?_)
              obtain ⟨tg_209, hP1, hK1, hD1⟩ := hB
              rw [ht] at hP1
              have hK1 := va_K.moved hvm.symm hK1
              obtain ⟨hP, hD⟩ := va_join (wr := [(ph, .inl (pc, 4, .inr (.inr (.inr (.inr pf))))), (p0, .inr (0, [.int b0, .int z0, .ref n0])), (n0, .inl (nc0, 40, .inr (.inl g0))), (p1, .inr (0, [.int b1, .int z1, .ref n1])), (n1, .inl (nc1, 40, .inr (.inl g1))), (p2, .inr (0, [.int b2, .int z2, .ref n2])), (n2, .inl (nc2, 40, .inr (.inl g2))), (p3, .inr (0, [.int b3, .int z3, .ref n3])), (n3, .inl (nc3, 40, .inr (.inl g3)))]) (w1 := [(h0, .inr (6, [v0, v1, v2, v3, v4, .ref ph, .ref t0, v7])), (t0, .inl (tc, 7, .inl tg_209))]) hP hD [0, 1] [2, 3, 4, 5, 6, 7, 8, 9, 10] rfl rfl (by decide) (by decide) hk1 hFc hP1 hD1
              generalize H1 = H at hP hS ⊢
              have hP : va_P (dC, dI) vwCl [(ph, .inl (pc, 4, .inr (.inr (.inr (.inr pf))))), (p0, .inr (0, [.int b0, .int z0, .ref n0])), (n0, .inl (nc0, 40, .inr (.inl g0))), (p1, .inr (0, [.int b1, .int z1, .ref n1])), (n1, .inl (nc1, 40, .inr (.inl g1))), (p2, .inr (0, [.int b2, .int z2, .ref n2])), (n2, .inl (nc2, 40, .inr (.inl g2))), (p3, .inr (0, [.int b3, .int z3, .ref n3])), (n3, .inl (nc3, 40, .inr (.inl g3))), (h0, .inr (6, [v0, v1, v2, v3, v4, .ref ph, .ref t0, v7])), (t0, .inl (tc, 7, .inl tg_209))] H := hP
              have hD : va_D A [(ph, .inl (pc, 4, .inr (.inr (.inr (.inr pf))))), (p0, .inr (0, [.int b0, .int z0, .ref n0])), (n0, .inl (nc0, 40, .inr (.inl g0))), (p1, .inr (0, [.int b1, .int z1, .ref n1])), (n1, .inl (nc1, 40, .inr (.inl g1))), (p2, .inr (0, [.int b2, .int z2, .ref n2])), (n2, .inl (nc2, 40, .inr (.inl g2))), (p3, .inr (0, [.int b3, .int z3, .ref n3])), (n3, .inl (nc3, 40, .inr (.inl g3))), (h0, .inr (6, [v0, v1, v2, v3, v4, .ref ph, .ref t0, v7])), (t0, .inl (tc, 7, .inl tg_209))] := hD
              subst hw
              have hP9 := hP.sub (ws' := [(h0, .inr (6, [v0, v1, v2, v3, v4, .ref ph, .ref t0, v7])), (t0, .inl (tc, 7, .inl tg_209)), (ph, .inl (pc, 4, .inr (.inr (.inr (.inr pf))))), (p0, .inr (0, [.int b0, .int z0, .ref n0])), (n0, .inl (nc0, 40, .inr (.inl g0))), (p1, .inr (0, [.int b1, .int z1, .ref n1])), (n1, .inl (nc1, 40, .inr (.inl g1))), (p2, .inr (0, [.int b2, .int z2, .ref n2])), (n2, .inl (nc2, 40, .inr (.inl g2))), (p3, .inr (0, [.int b3, .int z3, .ref n3])), (n3, .inl (nc3, 40, .inr (.inl g3)))]) [9, 10, 0, 1, 2, 3, 4, 5, 6, 7, 8] rfl
              have hD9 := hD.sub (ws' := [(h0, .inr (6, [v0, v1, v2, v3, v4, .ref ph, .ref t0, v7])), (t0, .inl (tc, 7, .inl tg_209)), (ph, .inl (pc, 4, .inr (.inr (.inr (.inr pf))))), (p0, .inr (0, [.int b0, .int z0, .ref n0])), (n0, .inl (nc0, 40, .inr (.inl g0))), (p1, .inr (0, [.int b1, .int z1, .ref n1])), (n1, .inl (nc1, 40, .inr (.inl g1))), (p2, .inr (0, [.int b2, .int z2, .ref n2])), (n2, .inl (nc2, 40, .inr (.inl g2))), (p3, .inr (0, [.int b3, .int z3, .ref n3])), (n3, .inl (nc3, 40, .inr (.inl g3)))]) [9, 10, 0, 1, 2, 3, 4, 5, 6, 7, 8] (by decide) rfl
              have hK9 := hK.sub (tys' := [(tc, .int), (pc, .object "LampShapes$Paper"), (nc0, .long), (nc1, .long), (nc2, .long), (nc3, .long)]) [0, 1, 2, 3, 4, 5] rfl
              exact W.iret (v := ((-1000000001) : Int32)) hx hb hr (fun t ht hW => ⟨⟨((-1000000001) : Int32), (), rfl, trivial, tg_209, g0, g1, g2, g3, by rw [ht]; exact hP9, va_K.moved hW.alike hK9, hD9⟩, hS.F ht⟩) hS.2.2 dX8_copy_104
            · skip
              have tc_207 : ¬ r_206.toInt = 0 := fun h => c_207 ((fa_eq _ _).mpr h)
              refine lv_aload hx hb dX8_copy_86 (lv_at hl 0 rfl) ?_
              refine lv_iload hx hb dX8_copy_88 (lv_at hl 6 rfl) ?_
              refine lv_iload hx hb dX8_copy_90 (lv_at hl 7 rfl) ?_
              have hPc := hP.sub (ws' := [(p2, .inr (0, [.int b2, .int z2, .ref n2]))]) [7] rfl
              have hKc := hK.sub (tys' := []) [] rfl
              refine vp_callSi (W.runV (As := [.int j, .int n]) (rest := []) ⟨hx, hb, hml, hown, hts⟩ (p_hasPart l dC dI ad p2 j n (.int b2) z2 (.ref n2) hz2) (cwV 2 hts g_x_copy_p_hasPart_282 rfl rfl rfl (by decide +kernel) ⟨(Nat.le_of_ble_eq_true rfl), (Nat.le_of_ble_eq_true rfl)⟩) ⟨preS_blind, va_recv hKc hPc (ci := 0) (q0 := 0) rfl rfl, fun U hU hW => ⟨rfl, preS_at hU hW hPc hKc hev⟩⟩ rfl rfl hl.1 rfl (lv_room (Nat.le_of_ble_eq_true rfl)) dX8_copy_92 ⟨(Nat.le_of_ble_eq_true rfl), (Nat.le_of_ble_eq_true rfl)⟩) (fun r_210 hw => ?_)
              have hr_210 : (r_210.toInt = 1 ∧ 0 ≤ j.toInt ∧ 0 ≤ n.toInt ∧ j.toInt + n.toInt ≤ z2.toInt) ∨ (r_210.toInt = 0 ∧ ¬ (0 ≤ j.toInt ∧ 0 ≤ n.toInt ∧ j.toInt + n.toInt ≤ z2.toInt)) := hw
              refine lv_if_ne (tgt := 105) hx hb dX8_copy_95 (by decide) (fun c_211 => ?_) (fun c_211 => ?_)
              · skip
                have tc_211 : ¬ r_210.toInt = 0 := fun h => c_211 ((fa_eq _ _).mpr h)
                refine lv_aload hx hb dX8_copy_105 (lv_at hl 1 rfl) ?_
                refine va_getN (D := (dC, dI)) (ci := 0) (v := .ref n1) (C := RX2) (T := TX2) (N := 3) hx hb hts inX2 hown hK hP 5 rfl rfl 2 (by decide) (ev_nest hev 23 rfl) (fun _ h9 => h9) rfl dX8_copy_107 ?_
                refine lv_iload_n hx hb dX8_copy_110 rfl (lv_at hl 4 rfl) ?_
                refine lv_aload hx hb dX8_copy_111 (lv_at hl 0 rfl) ?_
                refine va_getN (D := (dC, dI)) (ci := 0) (v := .ref n2) (C := RX2) (T := TX2) (N := 3) hx hb hts inX2 hown hK hP 7 rfl rfl 2 (by decide) (ev_nest hev 23 rfl) (fun _ h9 => h9) rfl dX8_copy_113 ?_
                refine lv_iload hx hb dX8_copy_116 (lv_at hl 6 rfl) ?_
                refine lv_iload hx hb dX8_copy_118 (lv_at hl 7 rfl) ?_
                refine va_copyl (ty := .long) hx hb (by rw [hml]; exact hl.1.symm) hown (hts _ (List.mem_of_getElem? (i := 25) rfl)) (hts _ (List.mem_of_getElem? (i := 26) rfl)) (hts _ (List.mem_of_getElem? (i := 27) rfl)) (hts _ (List.mem_of_getElem? (i := 28) rfl)) hK hP hD hS 6 8 3 4 rfl rfl rfl rfl rfl (fun h => absurd ((fa_lt _ _).mp h) (by show ¬ i.toInt < 0; omega)) (fun h => absurd ((fa_lt _ _).mp h) (by show ¬ j.toInt < 0; omega)) (fun h => absurd ((fa_lt _ _).mp h) (by show ¬ n.toInt < 0; omega)) (by show i.toInt.toNat + n.toInt.toNat ≤ 40; omega) (by show j.toInt.toNat + n.toInt.toNat ≤ 40; omega) (fun _ _ => rfl) (Nat.le_of_ble_eq_true rfl) (Nat.le_of_ble_eq_true rfl) dX8_copy_120 (fun H locs hP hD hS => ?_)
                generalize va_cpy g1 g2 i.toNatClampNeg j.toNatClampNeg n.toNatClampNeg = f_212 at hP hD
                have hP : va_P (dC, dI) vwCl [(h0, .inr (6, [v0, v1, v2, v3, v4, .ref ph, .ref t0, v7])), (t0, .inl (tc, 7, .inl tf)), (ph, .inl (pc, 4, .inr (.inr (.inr (.inr pf))))), (p0, .inr (0, [.int b0, .int z0, .ref n0])), (n0, .inl (nc0, 40, .inr (.inl g0))), (p1, .inr (0, [.int b1, .int z1, .ref n1])), (n1, .inl (nc1, 40, .inr (.inl g1))), (p2, .inr (0, [.int b2, .int z2, .ref n2])), (n2, .inl (nc2, 40, .inr (.inl f_212))), (p3, .inr (0, [.int b3, .int z3, .ref n3])), (n3, .inl (nc3, 40, .inr (.inl g3)))] H := hP
                have hD : va_D A [(h0, .inr (6, [v0, v1, v2, v3, v4, .ref ph, .ref t0, v7])), (t0, .inl (tc, 7, .inl tf)), (ph, .inl (pc, 4, .inr (.inr (.inr (.inr pf))))), (p0, .inr (0, [.int b0, .int z0, .ref n0])), (n0, .inl (nc0, 40, .inr (.inl g0))), (p1, .inr (0, [.int b1, .int z1, .ref n1])), (n1, .inl (nc1, 40, .inr (.inl g1))), (p2, .inr (0, [.int b2, .int z2, .ref n2])), (n2, .inl (nc2, 40, .inr (.inl f_212))), (p3, .inr (0, [.int b3, .int z3, .ref n3])), (n3, .inl (nc3, 40, .inr (.inl g3)))] := hD
                refine lv_iload hx hb dX8_copy_123 (lv_at hl 7 rfl) ?_
                have hP9 := hP.sub (ws' := [(h0, .inr (6, [v0, v1, v2, v3, v4, .ref ph, .ref t0, v7])), (t0, .inl (tc, 7, .inl tf)), (ph, .inl (pc, 4, .inr (.inr (.inr (.inr pf))))), (p0, .inr (0, [.int b0, .int z0, .ref n0])), (n0, .inl (nc0, 40, .inr (.inl g0))), (p1, .inr (0, [.int b1, .int z1, .ref n1])), (n1, .inl (nc1, 40, .inr (.inl g1))), (p2, .inr (0, [.int b2, .int z2, .ref n2])), (n2, .inl (nc2, 40, .inr (.inl f_212))), (p3, .inr (0, [.int b3, .int z3, .ref n3])), (n3, .inl (nc3, 40, .inr (.inl g3)))]) [0, 1, 2, 3, 4, 5, 6, 7, 8, 9, 10] rfl
                have hD9 := hD.sub (ws' := [(h0, .inr (6, [v0, v1, v2, v3, v4, .ref ph, .ref t0, v7])), (t0, .inl (tc, 7, .inl tf)), (ph, .inl (pc, 4, .inr (.inr (.inr (.inr pf))))), (p0, .inr (0, [.int b0, .int z0, .ref n0])), (n0, .inl (nc0, 40, .inr (.inl g0))), (p1, .inr (0, [.int b1, .int z1, .ref n1])), (n1, .inl (nc1, 40, .inr (.inl g1))), (p2, .inr (0, [.int b2, .int z2, .ref n2])), (n2, .inl (nc2, 40, .inr (.inl f_212))), (p3, .inr (0, [.int b3, .int z3, .ref n3])), (n3, .inl (nc3, 40, .inr (.inl g3)))]) [0, 1, 2, 3, 4, 5, 6, 7, 8, 9, 10] (by decide) rfl
                have hK9 := hK.sub (tys' := [(tc, .int), (pc, .object "LampShapes$Paper"), (nc0, .long), (nc1, .long), (nc2, .long), (nc3, .long)]) [0, 1, 2, 3, 4, 5] rfl
                exact W.iret (v := n) hx hb hr (fun t ht hW => ⟨⟨n, (), rfl, trivial, tf, g0, g1, f_212, g3, by rw [ht]; exact hP9, va_K.moved hW.alike hK9, hD9⟩, hS.F ht⟩) hS.2.2 dX8_copy_125
              · skip
                have tc_211 : r_210.toInt = 0 := (fa_eq _ _).mp c_211
                refine lv_aload_n hx hb dX8_copy_98 rfl (lv_at hl 2 rfl) ?_
                refine lv_ldc hx hb hown (hts _ (List.mem_of_getElem? (i := 6) rfl)) dX8_copy_99 ?_
                have hPc := hP.sub (ws' := [(h0, .inr (6, [v0, v1, v2, v3, v4, .ref ph, .ref t0, v7])), (t0, .inl (tc, 7, .inl tf))]) [0, 1] rfl
                have hKc := hK.sub (tys' := [(tc, .int)]) [0] rfl
                have hDc := hD.sub (ws' := [(h0, .inr (6, [v0, v1, v2, v3, v4, .ref ph, .ref t0, v7])), (t0, .inl (tc, 7, .inl tf))]) [0, 1] (by decide) rfl
                have hFc := va_free (wc := [(h0, .inr (6, [v0, v1, v2, v3, v4, .ref ph, .ref t0, v7])), (t0, .inl (tc, 7, .inl tf))]) hD hS hA [0, 1] rfl
                refine va_calli (va_runV (As := [.int (-1000000001)]) (rest := []) ⟨hx, hb, hml, hown, hts⟩ (f_beyond l dC dI ad h0 v0 v1 v2 v3 v4 (.ref ph) t0 v7 tc tf s.heap.size ) (cwV 1 hts g_x_copy_f_beyond_63 rfl rfl rfl (by decide +kernel) ⟨(Nat.le_of_ble_eq_true rfl), (Nat.le_of_ble_eq_true rfl)⟩) ⟨preM_blind, va_recv hKc hPc (ci := 6) (q0 := 0) rfl rfl, fun U hU hW => ⟨rfl, preM_at hU hW hPc hKc hDc hev⟩⟩ rfl rfl hl.1 rfl (lv_room (Nat.le_of_ble_eq_true rfl)) dX8_copy_101 ⟨(Nat.le_of_ble_eq_true rfl), (Nat.le_of_ble_eq_true rfl)⟩) hS (fun q _ h => hFc q h) hFc (fun r_213 u t H1 locs ht hvm hw hB hz1 hk1 hS => ?_)
                obtain ⟨tg_214, hP1, hK1, hD1⟩ := hB
                rw [ht] at hP1
                have hK1 := va_K.moved hvm.symm hK1
                obtain ⟨hP, hD⟩ := va_join (wr := [(ph, .inl (pc, 4, .inr (.inr (.inr (.inr pf))))), (p0, .inr (0, [.int b0, .int z0, .ref n0])), (n0, .inl (nc0, 40, .inr (.inl g0))), (p1, .inr (0, [.int b1, .int z1, .ref n1])), (n1, .inl (nc1, 40, .inr (.inl g1))), (p2, .inr (0, [.int b2, .int z2, .ref n2])), (n2, .inl (nc2, 40, .inr (.inl g2))), (p3, .inr (0, [.int b3, .int z3, .ref n3])), (n3, .inl (nc3, 40, .inr (.inl g3)))]) (w1 := [(h0, .inr (6, [v0, v1, v2, v3, v4, .ref ph, .ref t0, v7])), (t0, .inl (tc, 7, .inl tg_214))]) hP hD [0, 1] [2, 3, 4, 5, 6, 7, 8, 9, 10] rfl rfl (by decide) (by decide) hk1 hFc hP1 hD1
                generalize H1 = H at hP hS ⊢
                have hP : va_P (dC, dI) vwCl [(ph, .inl (pc, 4, .inr (.inr (.inr (.inr pf))))), (p0, .inr (0, [.int b0, .int z0, .ref n0])), (n0, .inl (nc0, 40, .inr (.inl g0))), (p1, .inr (0, [.int b1, .int z1, .ref n1])), (n1, .inl (nc1, 40, .inr (.inl g1))), (p2, .inr (0, [.int b2, .int z2, .ref n2])), (n2, .inl (nc2, 40, .inr (.inl g2))), (p3, .inr (0, [.int b3, .int z3, .ref n3])), (n3, .inl (nc3, 40, .inr (.inl g3))), (h0, .inr (6, [v0, v1, v2, v3, v4, .ref ph, .ref t0, v7])), (t0, .inl (tc, 7, .inl tg_214))] H := hP
                have hD : va_D A [(ph, .inl (pc, 4, .inr (.inr (.inr (.inr pf))))), (p0, .inr (0, [.int b0, .int z0, .ref n0])), (n0, .inl (nc0, 40, .inr (.inl g0))), (p1, .inr (0, [.int b1, .int z1, .ref n1])), (n1, .inl (nc1, 40, .inr (.inl g1))), (p2, .inr (0, [.int b2, .int z2, .ref n2])), (n2, .inl (nc2, 40, .inr (.inl g2))), (p3, .inr (0, [.int b3, .int z3, .ref n3])), (n3, .inl (nc3, 40, .inr (.inl g3))), (h0, .inr (6, [v0, v1, v2, v3, v4, .ref ph, .ref t0, v7])), (t0, .inl (tc, 7, .inl tg_214))] := hD
                subst hw
                have hP9 := hP.sub (ws' := [(h0, .inr (6, [v0, v1, v2, v3, v4, .ref ph, .ref t0, v7])), (t0, .inl (tc, 7, .inl tg_214)), (ph, .inl (pc, 4, .inr (.inr (.inr (.inr pf))))), (p0, .inr (0, [.int b0, .int z0, .ref n0])), (n0, .inl (nc0, 40, .inr (.inl g0))), (p1, .inr (0, [.int b1, .int z1, .ref n1])), (n1, .inl (nc1, 40, .inr (.inl g1))), (p2, .inr (0, [.int b2, .int z2, .ref n2])), (n2, .inl (nc2, 40, .inr (.inl g2))), (p3, .inr (0, [.int b3, .int z3, .ref n3])), (n3, .inl (nc3, 40, .inr (.inl g3)))]) [9, 10, 0, 1, 2, 3, 4, 5, 6, 7, 8] rfl
                have hD9 := hD.sub (ws' := [(h0, .inr (6, [v0, v1, v2, v3, v4, .ref ph, .ref t0, v7])), (t0, .inl (tc, 7, .inl tg_214)), (ph, .inl (pc, 4, .inr (.inr (.inr (.inr pf))))), (p0, .inr (0, [.int b0, .int z0, .ref n0])), (n0, .inl (nc0, 40, .inr (.inl g0))), (p1, .inr (0, [.int b1, .int z1, .ref n1])), (n1, .inl (nc1, 40, .inr (.inl g1))), (p2, .inr (0, [.int b2, .int z2, .ref n2])), (n2, .inl (nc2, 40, .inr (.inl g2))), (p3, .inr (0, [.int b3, .int z3, .ref n3])), (n3, .inl (nc3, 40, .inr (.inl g3)))]) [9, 10, 0, 1, 2, 3, 4, 5, 6, 7, 8] (by decide) rfl
                have hK9 := hK.sub (tys' := [(tc, .int), (pc, .object "LampShapes$Paper"), (nc0, .long), (nc1, .long), (nc2, .long), (nc3, .long)]) [0, 1, 2, 3, 4, 5] rfl
                exact W.iret (v := ((-1000000001) : Int32)) hx hb hr (fun t ht hW => ⟨⟨((-1000000001) : Int32), (), rfl, trivial, tg_214, g0, g1, g2, g3, by rw [ht]; exact hP9, va_K.moved hW.alike hK9, hD9⟩, hS.F ht⟩) hS.2.2 dX8_copy_104
          · skip
            have tc_205 : ¬ b1.toInt = b2.toInt := fun h => c_205 ((fa_eq _ _).mpr h)
            refine lv_aload_n hx hb dX8_copy_68 rfl (lv_at hl 2 rfl) ?_
            refine lv_ldc hx hb hown (hts _ (List.mem_of_getElem? (i := 29) rfl)) dX8_copy_69 ?_
            have hPc := hP.sub (ws' := [(h0, .inr (6, [v0, v1, v2, v3, v4, .ref ph, .ref t0, v7])), (t0, .inl (tc, 7, .inl tf))]) [0, 1] rfl
            have hKc := hK.sub (tys' := [(tc, .int)]) [0] rfl
            have hDc := hD.sub (ws' := [(h0, .inr (6, [v0, v1, v2, v3, v4, .ref ph, .ref t0, v7])), (t0, .inl (tc, 7, .inl tf))]) [0, 1] (by decide) rfl
            have hFc := va_free (wc := [(h0, .inr (6, [v0, v1, v2, v3, v4, .ref ph, .ref t0, v7])), (t0, .inl (tc, 7, .inl tf))]) hD hS hA [0, 1] rfl
            refine va_calli (va_runV (As := [.int (-1000000003)]) (rest := []) ⟨hx, hb, hml, hown, hts⟩ (f_kind l dC dI ad h0 v0 v1 v2 v3 v4 (.ref ph) t0 v7 tc tf s.heap.size ) (cwV 1 hts g_x_copy_f_kind_63 rfl rfl rfl (by decide +kernel) ⟨(Nat.le_of_ble_eq_true rfl), (Nat.le_of_ble_eq_true rfl)⟩) ⟨preM_blind, va_recv hKc hPc (ci := 6) (q0 := 0) rfl rfl, fun U hU hW => ⟨rfl, preM_at hU hW hPc hKc hDc hev⟩⟩ rfl rfl hl.1 rfl (lv_room (Nat.le_of_ble_eq_true rfl)) dX8_copy_71 ⟨(Nat.le_of_ble_eq_true rfl), (Nat.le_of_ble_eq_true rfl)⟩) hS (fun q _ h => hFc q h) hFc (fun r_215 u t H1 locs ht hvm hw hB hz1 hk1 hS => ?_)
            obtain ⟨tg_216, hP1, hK1, hD1⟩ := hB
            rw [ht] at hP1
            have hK1 := va_K.moved hvm.symm hK1
            obtain ⟨hP, hD⟩ := va_join (wr := [(ph, .inl (pc, 4, .inr (.inr (.inr (.inr pf))))), (p0, .inr (0, [.int b0, .int z0, .ref n0])), (n0, .inl (nc0, 40, .inr (.inl g0))), (p1, .inr (0, [.int b1, .int z1, .ref n1])), (n1, .inl (nc1, 40, .inr (.inl g1))), (p2, .inr (0, [.int b2, .int z2, .ref n2])), (n2, .inl (nc2, 40, .inr (.inl g2))), (p3, .inr (0, [.int b3, .int z3, .ref n3])), (n3, .inl (nc3, 40, .inr (.inl g3)))]) (w1 := [(h0, .inr (6, [v0, v1, v2, v3, v4, .ref ph, .ref t0, v7])), (t0, .inl (tc, 7, .inl tg_216))]) hP hD [0, 1] [2, 3, 4, 5, 6, 7, 8, 9, 10] rfl rfl (by decide) (by decide) hk1 hFc hP1 hD1
            generalize H1 = H at hP hS ⊢
            have hP : va_P (dC, dI) vwCl [(ph, .inl (pc, 4, .inr (.inr (.inr (.inr pf))))), (p0, .inr (0, [.int b0, .int z0, .ref n0])), (n0, .inl (nc0, 40, .inr (.inl g0))), (p1, .inr (0, [.int b1, .int z1, .ref n1])), (n1, .inl (nc1, 40, .inr (.inl g1))), (p2, .inr (0, [.int b2, .int z2, .ref n2])), (n2, .inl (nc2, 40, .inr (.inl g2))), (p3, .inr (0, [.int b3, .int z3, .ref n3])), (n3, .inl (nc3, 40, .inr (.inl g3))), (h0, .inr (6, [v0, v1, v2, v3, v4, .ref ph, .ref t0, v7])), (t0, .inl (tc, 7, .inl tg_216))] H := hP
            have hD : va_D A [(ph, .inl (pc, 4, .inr (.inr (.inr (.inr pf))))), (p0, .inr (0, [.int b0, .int z0, .ref n0])), (n0, .inl (nc0, 40, .inr (.inl g0))), (p1, .inr (0, [.int b1, .int z1, .ref n1])), (n1, .inl (nc1, 40, .inr (.inl g1))), (p2, .inr (0, [.int b2, .int z2, .ref n2])), (n2, .inl (nc2, 40, .inr (.inl g2))), (p3, .inr (0, [.int b3, .int z3, .ref n3])), (n3, .inl (nc3, 40, .inr (.inl g3))), (h0, .inr (6, [v0, v1, v2, v3, v4, .ref ph, .ref t0, v7])), (t0, .inl (tc, 7, .inl tg_216))] := hD
            subst hw
            have hP9 := hP.sub (ws' := [(h0, .inr (6, [v0, v1, v2, v3, v4, .ref ph, .ref t0, v7])), (t0, .inl (tc, 7, .inl tg_216)), (ph, .inl (pc, 4, .inr (.inr (.inr (.inr pf))))), (p0, .inr (0, [.int b0, .int z0, .ref n0])), (n0, .inl (nc0, 40, .inr (.inl g0))), (p1, .inr (0, [.int b1, .int z1, .ref n1])), (n1, .inl (nc1, 40, .inr (.inl g1))), (p2, .inr (0, [.int b2, .int z2, .ref n2])), (n2, .inl (nc2, 40, .inr (.inl g2))), (p3, .inr (0, [.int b3, .int z3, .ref n3])), (n3, .inl (nc3, 40, .inr (.inl g3)))]) [9, 10, 0, 1, 2, 3, 4, 5, 6, 7, 8] rfl
            have hD9 := hD.sub (ws' := [(h0, .inr (6, [v0, v1, v2, v3, v4, .ref ph, .ref t0, v7])), (t0, .inl (tc, 7, .inl tg_216)), (ph, .inl (pc, 4, .inr (.inr (.inr (.inr pf))))), (p0, .inr (0, [.int b0, .int z0, .ref n0])), (n0, .inl (nc0, 40, .inr (.inl g0))), (p1, .inr (0, [.int b1, .int z1, .ref n1])), (n1, .inl (nc1, 40, .inr (.inl g1))), (p2, .inr (0, [.int b2, .int z2, .ref n2])), (n2, .inl (nc2, 40, .inr (.inl g2))), (p3, .inr (0, [.int b3, .int z3, .ref n3])), (n3, .inl (nc3, 40, .inr (.inl g3)))]) [9, 10, 0, 1, 2, 3, 4, 5, 6, 7, 8] (by decide) rfl
            have hK9 := hK.sub (tys' := [(tc, .int), (pc, .object "LampShapes$Paper"), (nc0, .long), (nc1, .long), (nc2, .long), (nc3, .long)]) [0, 1, 2, 3, 4, 5] rfl
            exact W.iret (v := ((-1000000003) : Int32)) hx hb hr (fun t ht hW => ⟨⟨((-1000000003) : Int32), (), rfl, trivial, tg_216, g0, g1, g2, g3, by rw [ht]; exact hP9, va_K.moved hW.alike hK9, hD9⟩, hS.F ht⟩) hS.2.2 dX8_copy_74
        · skip
          have tc_204 : ¬ r_203.toInt = 0 := fun h => c_204 ((fa_eq _ _).mpr h)
          refine lv_aload_n hx hb dX8_copy_47 rfl (lv_at hl 2 rfl) ?_
          refine lv_ldcw hx hb hown (hts _ (List.mem_of_getElem? (i := 19) rfl)) dX8_copy_48 ?_
          have hPc := hP.sub (ws' := [(h0, .inr (6, [v0, v1, v2, v3, v4, .ref ph, .ref t0, v7])), (t0, .inl (tc, 7, .inl tf))]) [0, 1] rfl
          have hKc := hK.sub (tys' := [(tc, .int)]) [0] rfl
          have hDc := hD.sub (ws' := [(h0, .inr (6, [v0, v1, v2, v3, v4, .ref ph, .ref t0, v7])), (t0, .inl (tc, 7, .inl tf))]) [0, 1] (by decide) rfl
          have hFc := va_free (wc := [(h0, .inr (6, [v0, v1, v2, v3, v4, .ref ph, .ref t0, v7])), (t0, .inl (tc, 7, .inl tf))]) hD hS hA [0, 1] rfl
          refine va_calli (va_runV (As := [.int (-1000000006)]) (rest := []) ⟨hx, hb, hml, hown, hts⟩ (f_missing l dC dI ad h0 v0 v1 v2 v3 v4 (.ref ph) t0 v7 tc tf s.heap.size ) (cwV 1 hts g_x_copy_f_missing_63 rfl rfl rfl (by decide +kernel) ⟨(Nat.le_of_ble_eq_true rfl), (Nat.le_of_ble_eq_true rfl)⟩) ⟨preM_blind, va_recv hKc hPc (ci := 6) (q0 := 0) rfl rfl, fun U hU hW => ⟨rfl, preM_at hU hW hPc hKc hDc hev⟩⟩ rfl rfl hl.1 rfl (lv_room (Nat.le_of_ble_eq_true rfl)) dX8_copy_51 ⟨(Nat.le_of_ble_eq_true rfl), (Nat.le_of_ble_eq_true rfl)⟩) hS (fun q _ h => hFc q h) hFc (fun r_217 u t H1 locs ht hvm hw hB hz1 hk1 hS => ?_)
          obtain ⟨tg_218, hP1, hK1, hD1⟩ := hB
          rw [ht] at hP1
          have hK1 := va_K.moved hvm.symm hK1
          obtain ⟨hP, hD⟩ := va_join (wr := [(ph, .inl (pc, 4, .inr (.inr (.inr (.inr pf))))), (p0, .inr (0, [.int b0, .int z0, .ref n0])), (n0, .inl (nc0, 40, .inr (.inl g0))), (p1, .inr (0, [.int b1, .int z1, .ref n1])), (n1, .inl (nc1, 40, .inr (.inl g1))), (p2, .inr (0, [.int b2, .int z2, .ref n2])), (n2, .inl (nc2, 40, .inr (.inl g2))), (p3, .inr (0, [.int b3, .int z3, .ref n3])), (n3, .inl (nc3, 40, .inr (.inl g3)))]) (w1 := [(h0, .inr (6, [v0, v1, v2, v3, v4, .ref ph, .ref t0, v7])), (t0, .inl (tc, 7, .inl tg_218))]) hP hD [0, 1] [2, 3, 4, 5, 6, 7, 8, 9, 10] rfl rfl (by decide) (by decide) hk1 hFc hP1 hD1
          generalize H1 = H at hP hS ⊢
          have hP : va_P (dC, dI) vwCl [(ph, .inl (pc, 4, .inr (.inr (.inr (.inr pf))))), (p0, .inr (0, [.int b0, .int z0, .ref n0])), (n0, .inl (nc0, 40, .inr (.inl g0))), (p1, .inr (0, [.int b1, .int z1, .ref n1])), (n1, .inl (nc1, 40, .inr (.inl g1))), (p2, .inr (0, [.int b2, .int z2, .ref n2])), (n2, .inl (nc2, 40, .inr (.inl g2))), (p3, .inr (0, [.int b3, .int z3, .ref n3])), (n3, .inl (nc3, 40, .inr (.inl g3))), (h0, .inr (6, [v0, v1, v2, v3, v4, .ref ph, .ref t0, v7])), (t0, .inl (tc, 7, .inl tg_218))] H := hP
          have hD : va_D A [(ph, .inl (pc, 4, .inr (.inr (.inr (.inr pf))))), (p0, .inr (0, [.int b0, .int z0, .ref n0])), (n0, .inl (nc0, 40, .inr (.inl g0))), (p1, .inr (0, [.int b1, .int z1, .ref n1])), (n1, .inl (nc1, 40, .inr (.inl g1))), (p2, .inr (0, [.int b2, .int z2, .ref n2])), (n2, .inl (nc2, 40, .inr (.inl g2))), (p3, .inr (0, [.int b3, .int z3, .ref n3])), (n3, .inl (nc3, 40, .inr (.inl g3))), (h0, .inr (6, [v0, v1, v2, v3, v4, .ref ph, .ref t0, v7])), (t0, .inl (tc, 7, .inl tg_218))] := hD
          subst hw
          have hP9 := hP.sub (ws' := [(h0, .inr (6, [v0, v1, v2, v3, v4, .ref ph, .ref t0, v7])), (t0, .inl (tc, 7, .inl tg_218)), (ph, .inl (pc, 4, .inr (.inr (.inr (.inr pf))))), (p0, .inr (0, [.int b0, .int z0, .ref n0])), (n0, .inl (nc0, 40, .inr (.inl g0))), (p1, .inr (0, [.int b1, .int z1, .ref n1])), (n1, .inl (nc1, 40, .inr (.inl g1))), (p2, .inr (0, [.int b2, .int z2, .ref n2])), (n2, .inl (nc2, 40, .inr (.inl g2))), (p3, .inr (0, [.int b3, .int z3, .ref n3])), (n3, .inl (nc3, 40, .inr (.inl g3)))]) [9, 10, 0, 1, 2, 3, 4, 5, 6, 7, 8] rfl
          have hD9 := hD.sub (ws' := [(h0, .inr (6, [v0, v1, v2, v3, v4, .ref ph, .ref t0, v7])), (t0, .inl (tc, 7, .inl tg_218)), (ph, .inl (pc, 4, .inr (.inr (.inr (.inr pf))))), (p0, .inr (0, [.int b0, .int z0, .ref n0])), (n0, .inl (nc0, 40, .inr (.inl g0))), (p1, .inr (0, [.int b1, .int z1, .ref n1])), (n1, .inl (nc1, 40, .inr (.inl g1))), (p2, .inr (0, [.int b2, .int z2, .ref n2])), (n2, .inl (nc2, 40, .inr (.inl g2))), (p3, .inr (0, [.int b3, .int z3, .ref n3])), (n3, .inl (nc3, 40, .inr (.inl g3)))]) [9, 10, 0, 1, 2, 3, 4, 5, 6, 7, 8] (by decide) rfl
          have hK9 := hK.sub (tys' := [(tc, .int), (pc, .object "LampShapes$Paper"), (nc0, .long), (nc1, .long), (nc2, .long), (nc3, .long)]) [0, 1, 2, 3, 4, 5] rfl
          exact W.iret (v := ((-1000000006) : Int32)) hx hb hr (fun t ht hW => ⟨⟨((-1000000006) : Int32), (), rfl, trivial, tg_218, g0, g1, g2, g3, by rw [ht]; exact hP9, va_K.moved hW.alike hK9, hD9⟩, hS.F ht⟩) hS.2.2 dX8_copy_54
    · skip
      refine Met.ofW (cc := cX8_copy) (maxL := 8) (ret := (some .int)) (by decide) rfl ?_
      intro p e s m args below meth c s₁ B hml hv
      obtain ⟨rfl, hsz, hP, hK, hD0, hev⟩ := hv
      have hx := B.exec
      have hb := B.bytes
      have hr := B.returns
      have hts := atoms_spec (ws := w_x_copy) B.pre
      have hown : s.vm.findClass RX8 = some m.cls := findClass_of_methodNamed B.named
      have hlocks := B.notSynchronized
      have inX8 : ∀ w ∈ wsX80, w ∈ w_x_copy := fun w h => List.mem_cons_of_mem _ (List.mem_append_left _ (List.mem_append_right _ h))
      have inX2 : ∀ w ∈ wsX20, w ∈ w_x_copy := fun w h => List.mem_cons_of_mem _ (List.mem_append_right _ h)
      subst hsz
      have hD := hD0.self (sz := s.heap.size)
      generalize hAe : va_A [(h0, .inr (6, [v0, v1, v2, v3, v4, .ref ph, .ref t0, v7])), (t0, .inl (tc, 7, .inl tf)), (ph, .inl (pc, 4, .inr (.inr (.inr (.inr pf))))), (p0, .inr (0, [.int b0, .int z0, .ref n0])), (n0, .inl (nc0, 40, .inr (.inl g0))), (p1, .inr (0, [.int b1, .int z1, .ref n1])), (n1, .inl (nc1, 40, .inr (.inl g1))), (p2, .inr (0, [.int b2, .int z2, .ref n2])), (n2, .inl (nc2, 40, .inr (.inl g2))), (p3, .inr (0, [.int b3, .int z3, .ref n3])), (n3, .inl (nc3, 40, .inr (.inl g3)))] s.heap.size = A at hD ⊢
      have hA : ∀ q : Nat, s.heap.size ≤ q → A q := fun q h => by rw [← hAe]; exact Or.inr h
      have hS : va_S A s.heap s.heap [] := va_S.rf
      have hP : va_P (dC, dI) vwCl [(h0, .inr (6, [v0, v1, v2, v3, v4, .ref ph, .ref t0, v7])), (t0, .inl (tc, 7, .inl tf)), (ph, .inl (pc, 4, .inr (.inr (.inr (.inr pf))))), (p0, .inr (0, [.int b0, .int z0, .ref n0])), (n0, .inl (nc0, 40, .inr (.inl g0))), (p1, .inr (0, [.int b1, .int z1, .ref n1])), (n1, .inl (nc1, 40, .inr (.inl g1))), (p2, .inr (0, [.int b2, .int z2, .ref n2])), (n2, .inl (nc2, 40, .inr (.inl g2))), (p3, .inr (0, [.int b3, .int z3, .ref n3])), (n3, .inl (nc3, 40, .inr (.inl g3)))] s.heap := hP
      have hl := lv_entry ([.ref h0, .int 1, .int i, .int 3, .int j, .int n]) (n := 8) (Nat.le_of_ble_eq_true rfl)
      rw [lg_entry_eq]
      generalize (lg_sl ([.ref h0, .int 1, .int i, .int 3, .int j, .int n]) ++ List.replicate (8 - (lg_sl ([.ref h0, .int 1, .int i, .int 3, .int j, .int n])).length) Slot.unset).toArray = ls at hl ⊢
      have hl : lv_has ls 8 [(0, .ref h0), (1, .int 1), (2, .int i), (3, .int 3), (4, .int j), (5, .int n)] := hl
      refine lv_aload_n hx hb dX8_copy_0 rfl (lv_at hl 0 rfl) ?_
      refine lv_iload_n hx hb dX8_copy_1 rfl (lv_at hl 1 rfl) ?_
      have hPc := hP.sub (ws' := [(h0, .inr (6, [v0, v1, v2, v3, v4, .ref ph, .ref t0, v7])), (ph, .inl (pc, 4, .inr (.inr (.inr (.inr pf)))))]) [0, 2] rfl
      have hKc := hK.sub (tys' := [(pc, .object "LampShapes$Paper")]) [1] rfl
      refine va_csq (W.runV (As := [.int 1]) (rest := []) ⟨hx, hb, hml, hown, hts⟩ (c_paperAt_1 l dC dI ad h0 v0 v1 v2 v3 v4 ph (.ref t0) v7 pc pf p1 hp1) (cwV 1 hts g_x_copy_c_paperAt_1_256 rfl rfl rfl (by decide +kernel) ⟨(Nat.le_of_ble_eq_true rfl), (Nat.le_of_ble_eq_true rfl)⟩) ⟨preS_blind, va_recv hKc hPc (ci := 6) (q0 := 0) rfl rfl, fun U hU hW => ⟨rfl, preS_at hU hW hPc hKc hev⟩⟩ rfl rfl hl.1 rfl (lv_room (Nat.le_of_ble_eq_true rfl)) dX8_copy_2 ⟨(Nat.le_of_ble_eq_true rfl), (Nat.le_of_ble_eq_true rfl)⟩) (fun r_219 hw => ?_)
      subst hw
      refine pp_tv (y := .ref p1) rfl ?_
      refine lv_astore (lv' := [(6, .ref p1), (0, .ref h0), (1, .int 1), (2, .int i), (3, .int 3), (4, .int j), (5, .int n)]) hx hb dX8_copy_5 hl (by decide) rfl (fun ls hl => ?_)
      refine lv_aload_n hx hb dX8_copy_7 rfl (lv_at hl 1 rfl) ?_
      refine lv_iload_n hx hb dX8_copy_8 rfl (lv_at hl 4 rfl) ?_
      have hPc := hP.sub (ws' := [(h0, .inr (6, [v0, v1, v2, v3, v4, .ref ph, .ref t0, v7])), (ph, .inl (pc, 4, .inr (.inr (.inr (.inr pf)))))]) [0, 2] rfl
      have hKc := hK.sub (tys' := [(pc, .object "LampShapes$Paper")]) [1] rfl
      refine va_csq (W.runV (As := [.int 3]) (rest := []) ⟨hx, hb, hml, hown, hts⟩ (c_paperAt_3 l dC dI ad h0 v0 v1 v2 v3 v4 ph (.ref t0) v7 pc pf p3 hp3) (cwV 1 hts g_x_copy_c_paperAt_3_256 rfl rfl rfl (by decide +kernel) ⟨(Nat.le_of_ble_eq_true rfl), (Nat.le_of_ble_eq_true rfl)⟩) ⟨preS_blind, va_recv hKc hPc (ci := 6) (q0 := 0) rfl rfl, fun U hU hW => ⟨rfl, preS_at hU hW hPc hKc hev⟩⟩ rfl rfl hl.1 rfl (lv_room (Nat.le_of_ble_eq_true rfl)) dX8_copy_9 ⟨(Nat.le_of_ble_eq_true rfl), (Nat.le_of_ble_eq_true rfl)⟩) (fun r_220 hw => ?_)
      subst hw
      refine pp_tv (y := .ref p3) rfl ?_
      refine lv_astore (lv' := [(7, .ref p3), (6, .ref p1), (0, .ref h0), (1, .int 1), (2, .int i), (3, .int 3), (4, .int j), (5, .int n)]) hx hb dX8_copy_12 hl (by decide) rfl (fun ls hl => ?_)
      refine lv_aload hx hb dX8_copy_14 (lv_at hl 1 rfl) ?_
      refine lv_ifnull hx hb dX8_copy_16 ?_
      refine lv_aload hx hb dX8_copy_19 (lv_at hl 0 rfl) ?_
      refine lv_ifnonnull (tgt := 31) hx hb dX8_copy_21 (by decide) ?_
      refine lv_aload hx hb dX8_copy_31 (lv_at hl 1 rfl) ?_
      have hPc := hP.sub (ws' := [(p1, .inr (0, [.int b1, .int z1, .ref n1]))]) [5] rfl
      have hKc := hK.sub (tys' := []) [] rfl
      refine vp_callSi (W.runV (As := []) (rest := []) ⟨hx, hb, hml, hown, hts⟩ (p_isMissing l dC dI ad p1 b1 (.int z1) (.ref n1) ) (cwV 0 hts g_x_copy_p_isMissing_268 rfl rfl rfl (by decide +kernel) ⟨(Nat.le_of_ble_eq_true rfl), (Nat.le_of_ble_eq_true rfl)⟩) ⟨preS_blind, va_recv hKc hPc (ci := 0) (q0 := 0) rfl rfl, fun U hU hW => ⟨rfl, preS_at hU hW hPc hKc hev⟩⟩ rfl rfl hl.1 rfl (lv_room (Nat.le_of_ble_eq_true rfl)) dX8_copy_33 ⟨(Nat.le_of_ble_eq_true rfl), (Nat.le_of_ble_eq_true rfl)⟩) (fun r_221 hw => ?_)
      have hr_221 : (r_221.toInt = 1 ∧ b1.toInt = 0) ∨ (r_221.toInt = 0 ∧ ¬ b1.toInt = 0) := hw
      refine lv_if_ne (tgt := 47) hx hb dX8_copy_36 (by decide) (fun c_222 => ?_) (fun c_222 => ?_)
      · skip
        have tc_222 : ¬ r_221.toInt = 0 := fun h => c_222 ((fa_eq _ _).mpr h)
        refine lv_aload_n hx hb dX8_copy_47 rfl (lv_at hl 2 rfl) ?_
        refine lv_ldcw hx hb hown (hts _ (List.mem_of_getElem? (i := 19) rfl)) dX8_copy_48 ?_
        have hPc := hP.sub (ws' := [(h0, .inr (6, [v0, v1, v2, v3, v4, .ref ph, .ref t0, v7])), (t0, .inl (tc, 7, .inl tf))]) [0, 1] rfl
        have hKc := hK.sub (tys' := [(tc, .int)]) [0] rfl
        have hDc := hD.sub (ws' := [(h0, .inr (6, [v0, v1, v2, v3, v4, .ref ph, .ref t0, v7])), (t0, .inl (tc, 7, .inl tf))]) [0, 1] (by decide) rfl
        have hFc := va_free (wc := [(h0, .inr (6, [v0, v1, v2, v3, v4, .ref ph, .ref t0, v7])), (t0, .inl (tc, 7, .inl tf))]) hD hS hA [0, 1] rfl
        refine va_calli (va_runV (As := [.int (-1000000006)]) (rest := []) ⟨hx, hb, hml, hown, hts⟩ (f_missing l dC dI ad h0 v0 v1 v2 v3 v4 (.ref ph) t0 v7 tc tf s.heap.size ) (cwV 1 hts g_x_copy_f_missing_63 rfl rfl rfl (by decide +kernel) ⟨(Nat.le_of_ble_eq_true rfl), (Nat.le_of_ble_eq_true rfl)⟩) ⟨preM_blind, va_recv hKc hPc (ci := 6) (q0 := 0) rfl rfl, fun U hU hW => ⟨rfl, preM_at hU hW hPc hKc hDc hev⟩⟩ rfl rfl hl.1 rfl (lv_room (Nat.le_of_ble_eq_true rfl)) dX8_copy_51 ⟨(Nat.le_of_ble_eq_true rfl), (Nat.le_of_ble_eq_true rfl)⟩) hS (fun q _ h => hFc q h) hFc (fun r_223 u t H1 locs ht hvm hw hB hz1 hk1 hS => ?_)
        obtain ⟨tg_224, hP1, hK1, hD1⟩ := hB
        rw [ht] at hP1
        have hK1 := va_K.moved hvm.symm hK1
        obtain ⟨hP, hD⟩ := va_join (wr := [(ph, .inl (pc, 4, .inr (.inr (.inr (.inr pf))))), (p0, .inr (0, [.int b0, .int z0, .ref n0])), (n0, .inl (nc0, 40, .inr (.inl g0))), (p1, .inr (0, [.int b1, .int z1, .ref n1])), (n1, .inl (nc1, 40, .inr (.inl g1))), (p2, .inr (0, [.int b2, .int z2, .ref n2])), (n2, .inl (nc2, 40, .inr (.inl g2))), (p3, .inr (0, [.int b3, .int z3, .ref n3])), (n3, .inl (nc3, 40, .inr (.inl g3)))]) (w1 := [(h0, .inr (6, [v0, v1, v2, v3, v4, .ref ph, .ref t0, v7])), (t0, .inl (tc, 7, .inl tg_224))]) hP hD [0, 1] [2, 3, 4, 5, 6, 7, 8, 9, 10] rfl rfl (by decide) (by decide) hk1 hFc hP1 hD1
        generalize H1 = H at hP hS ⊢
        have hP : va_P (dC, dI) vwCl [(ph, .inl (pc, 4, .inr (.inr (.inr (.inr pf))))), (p0, .inr (0, [.int b0, .int z0, .ref n0])), (n0, .inl (nc0, 40, .inr (.inl g0))), (p1, .inr (0, [.int b1, .int z1, .ref n1])), (n1, .inl (nc1, 40, .inr (.inl g1))), (p2, .inr (0, [.int b2, .int z2, .ref n2])), (n2, .inl (nc2, 40, .inr (.inl g2))), (p3, .inr (0, [.int b3, .int z3, .ref n3])), (n3, .inl (nc3, 40, .inr (.inl g3))), (h0, .inr (6, [v0, v1, v2, v3, v4, .ref ph, .ref t0, v7])), (t0, .inl (tc, 7, .inl tg_224))] H := hP
        have hD : va_D A [(ph, .inl (pc, 4, .inr (.inr (.inr (.inr pf))))), (p0, .inr (0, [.int b0, .int z0, .ref n0])), (n0, .inl (nc0, 40, .inr (.inl g0))), (p1, .inr (0, [.int b1, .int z1, .ref n1])), (n1, .inl (nc1, 40, .inr (.inl g1))), (p2, .inr (0, [.int b2, .int z2, .ref n2])), (n2, .inl (nc2, 40, .inr (.inl g2))), (p3, .inr (0, [.int b3, .int z3, .ref n3])), (n3, .inl (nc3, 40, .inr (.inl g3))), (h0, .inr (6, [v0, v1, v2, v3, v4, .ref ph, .ref t0, v7])), (t0, .inl (tc, 7, .inl tg_224))] := hD
        subst hw
        have hP9 := hP.sub (ws' := [(h0, .inr (6, [v0, v1, v2, v3, v4, .ref ph, .ref t0, v7])), (t0, .inl (tc, 7, .inl tg_224)), (ph, .inl (pc, 4, .inr (.inr (.inr (.inr pf))))), (p0, .inr (0, [.int b0, .int z0, .ref n0])), (n0, .inl (nc0, 40, .inr (.inl g0))), (p1, .inr (0, [.int b1, .int z1, .ref n1])), (n1, .inl (nc1, 40, .inr (.inl g1))), (p2, .inr (0, [.int b2, .int z2, .ref n2])), (n2, .inl (nc2, 40, .inr (.inl g2))), (p3, .inr (0, [.int b3, .int z3, .ref n3])), (n3, .inl (nc3, 40, .inr (.inl g3)))]) [9, 10, 0, 1, 2, 3, 4, 5, 6, 7, 8] rfl
        have hD9 := hD.sub (ws' := [(h0, .inr (6, [v0, v1, v2, v3, v4, .ref ph, .ref t0, v7])), (t0, .inl (tc, 7, .inl tg_224)), (ph, .inl (pc, 4, .inr (.inr (.inr (.inr pf))))), (p0, .inr (0, [.int b0, .int z0, .ref n0])), (n0, .inl (nc0, 40, .inr (.inl g0))), (p1, .inr (0, [.int b1, .int z1, .ref n1])), (n1, .inl (nc1, 40, .inr (.inl g1))), (p2, .inr (0, [.int b2, .int z2, .ref n2])), (n2, .inl (nc2, 40, .inr (.inl g2))), (p3, .inr (0, [.int b3, .int z3, .ref n3])), (n3, .inl (nc3, 40, .inr (.inl g3)))]) [9, 10, 0, 1, 2, 3, 4, 5, 6, 7, 8] (by decide) rfl
        have hK9 := hK.sub (tys' := [(tc, .int), (pc, .object "LampShapes$Paper"), (nc0, .long), (nc1, .long), (nc2, .long), (nc3, .long)]) [0, 1, 2, 3, 4, 5] rfl
        exact W.iret (v := ((-1000000006) : Int32)) hx hb hr (fun t ht hW => ⟨⟨((-1000000006) : Int32), (), rfl, trivial, tg_224, g0, g1, g2, g3, by rw [ht]; exact hP9, va_K.moved hW.alike hK9, hD9⟩, hS.F ht⟩) hS.2.2 dX8_copy_54
      · skip
        have tc_222 : r_221.toInt = 0 := (fa_eq _ _).mp c_222
        refine lv_aload hx hb dX8_copy_39 (lv_at hl 0 rfl) ?_
        have hPc := hP.sub (ws' := [(p3, .inr (0, [.int b3, .int z3, .ref n3]))]) [9] rfl
        have hKc := hK.sub (tys' := []) [] rfl
        refine vp_callSi (W.runV (As := []) (rest := []) ⟨hx, hb, hml, hown, hts⟩ (p_isMissing l dC dI ad p3 b3 (.int z3) (.ref n3) ) (cwV 0 hts g_x_copy_p_isMissing_268 rfl rfl rfl (by decide +kernel) ⟨(Nat.le_of_ble_eq_true rfl), (Nat.le_of_ble_eq_true rfl)⟩) ⟨preS_blind, va_recv hKc hPc (ci := 0) (q0 := 0) rfl rfl, fun U hU hW => ⟨rfl, preS_at hU hW hPc hKc hev⟩⟩ rfl rfl hl.1 rfl (lv_room (Nat.le_of_ble_eq_true rfl)) dX8_copy_41 ⟨(Nat.le_of_ble_eq_true rfl), (Nat.le_of_ble_eq_true rfl)⟩) (fun r_225 hw => ?_)
        have hr_225 : (r_225.toInt = 1 ∧ b3.toInt = 0) ∨ (r_225.toInt = 0 ∧ ¬ b3.toInt = 0) := hw
        refine lv_if_eq (tgt := 55) hx hb dX8_copy_44 (by decide) (fun c_226 => ?_) (fun c_226 => ?_)
        · skip
          have tc_226 : r_225.toInt = 0 := (fa_eq _ _).mp c_226
          refine lv_aload hx hb dX8_copy_55 (lv_at hl 1 rfl) ?_
          refine va_getN (D := (dC, dI)) (ci := 0) (v := .int b1) (C := RX2) (T := TX2) (N := 3) hx hb hts inX2 hown hK hP 5 rfl rfl 0 (by decide) (ev_nest hev 21 rfl) (fun _ h9 => h9) rfl dX8_copy_57 ?_
          refine lv_aload hx hb dX8_copy_60 (lv_at hl 0 rfl) ?_
          refine va_getN (D := (dC, dI)) (ci := 0) (v := .int b3) (C := RX2) (T := TX2) (N := 3) hx hb hts inX2 hown hK hP 9 rfl rfl 0 (by decide) (ev_nest hev 21 rfl) (fun _ h9 => h9) rfl dX8_copy_62 ?_
          have rc_227_x := pp_rng b1
          have rc_227_y := pp_rng b3
          refine lv_icmp_eq (tgt := 75) hx hb dX8_copy_65 (by decide) (fun c_227 => ?_) (fun c_227 => ?_)
          · skip
            have tc_227 : b1.toInt = b3.toInt := (fa_eq _ _).mp c_227
            refine lv_aload hx hb dX8_copy_75 (lv_at hl 1 rfl) ?_
            refine lv_iload_n hx hb dX8_copy_77 rfl (lv_at hl 4 rfl) ?_
            refine lv_iload hx hb dX8_copy_78 (lv_at hl 7 rfl) ?_
            have hPc := hP.sub (ws' := [(p1, .inr (0, [.int b1, .int z1, .ref n1]))]) [5] rfl
            have hKc := hK.sub (tys' := []) [] rfl
            refine vp_callSi (W.runV (As := [.int i, .int n]) (rest := []) ⟨hx, hb, hml, hown, hts⟩ (p_hasPart l dC dI ad p1 i n (.int b1) z1 (.ref n1) hz1) (cwV 2 hts g_x_copy_p_hasPart_282 rfl rfl rfl (by decide +kernel) ⟨(Nat.le_of_ble_eq_true rfl), (Nat.le_of_ble_eq_true rfl)⟩) ⟨preS_blind, va_recv hKc hPc (ci := 0) (q0 := 0) rfl rfl, fun U hU hW => ⟨rfl, preS_at hU hW hPc hKc hev⟩⟩ rfl rfl hl.1 rfl (lv_room (Nat.le_of_ble_eq_true rfl)) dX8_copy_80 ⟨(Nat.le_of_ble_eq_true rfl), (Nat.le_of_ble_eq_true rfl)⟩) (fun r_228 hw => ?_)
            have hr_228 : (r_228.toInt = 1 ∧ 0 ≤ i.toInt ∧ 0 ≤ n.toInt ∧ i.toInt + n.toInt ≤ z1.toInt) ∨ (r_228.toInt = 0 ∧ ¬ (0 ≤ i.toInt ∧ 0 ≤ n.toInt ∧ i.toInt + n.toInt ≤ z1.toInt)) := hw
            refine lv_if_eq (tgt := 98) hx hb dX8_copy_83 (by decide) (fun c_229 => ?_) (fun c_229 => ?_)
            · skip
              have tc_229 : r_228.toInt = 0 := (fa_eq _ _).mp c_229
              refine lv_aload_n hx hb dX8_copy_98 rfl (lv_at hl 2 rfl) ?_
              refine lv_ldc hx hb hown (hts _ (List.mem_of_getElem? (i := 6) rfl)) dX8_copy_99 ?_
              have hPc := hP.sub (ws' := [(h0, .inr (6, [v0, v1, v2, v3, v4, .ref ph, .ref t0, v7])), (t0, .inl (tc, 7, .inl tf))]) [0, 1] rfl
              have hKc := hK.sub (tys' := [(tc, .int)]) [0] rfl
              have hDc := hD.sub (ws' := [(h0, .inr (6, [v0, v1, v2, v3, v4, .ref ph, .ref t0, v7])), (t0, .inl (tc, 7, .inl tf))]) [0, 1] (by decide) rfl
              have hFc := va_free (wc := [(h0, .inr (6, [v0, v1, v2, v3, v4, .ref ph, .ref t0, v7])), (t0, .inl (tc, 7, .inl tf))]) hD hS hA [0, 1] rfl
              refine va_calli (va_runV (As := [.int (-1000000001)]) (rest := []) ⟨hx, hb, hml, hown, hts⟩ (f_beyond l dC dI ad h0 v0 v1 v2 v3 v4 (.ref ph) t0 v7 tc tf s.heap.size ) (cwV 1 hts g_x_copy_f_beyond_63 rfl rfl rfl (by decide +kernel) ⟨(Nat.le_of_ble_eq_true rfl), (Nat.le_of_ble_eq_true rfl)⟩) ⟨preM_blind, va_recv hKc hPc (ci := 6) (q0 := 0) rfl rfl, fun U hU hW => ⟨rfl, preM_at hU hW hPc hKc hDc hev⟩⟩ rfl rfl hl.1 rfl (lv_room (Nat.le_of_ble_eq_true rfl)) dX8_copy_101 ⟨(Nat.le_of_ble_eq_true rfl), (Nat.le_of_ble_eq_true rfl)⟩) hS (fun q _ h => hFc q h) hFc (fun r_230 u t H1 locs ht hvm hw hB hz1 hk1 hS => ?_)
              obtain ⟨tg_231, hP1, hK1, hD1⟩ := hB
              rw [ht] at hP1
              have hK1 := va_K.moved hvm.symm hK1
              obtain ⟨hP, hD⟩ := va_join (wr := [(ph, .inl (pc, 4, .inr (.inr (.inr (.inr pf))))), (p0, .inr (0, [.int b0, .int z0, .ref n0])), (n0, .inl (nc0, 40, .inr (.inl g0))), (p1, .inr (0, [.int b1, .int z1, .ref n1])), (n1, .inl (nc1, 40, .inr (.inl g1))), (p2, .inr (0, [.int b2, .int z2, .ref n2])), (n2, .inl (nc2, 40, .inr (.inl g2))), (p3, .inr (0, [.int b3, .int z3, .ref n3])), (n3, .inl (nc3, 40, .inr (.inl g3)))]) (w1 := [(h0, .inr (6, [v0, v1, v2, v3, v4, .ref ph, .ref t0, v7])), (t0, .inl (tc, 7, .inl tg_231))]) hP hD [0, 1] [2, 3, 4, 5, 6, 7, 8, 9, 10] rfl rfl (by decide) (by decide) hk1 hFc hP1 hD1
              generalize H1 = H at hP hS ⊢
              have hP : va_P (dC, dI) vwCl [(ph, .inl (pc, 4, .inr (.inr (.inr (.inr pf))))), (p0, .inr (0, [.int b0, .int z0, .ref n0])), (n0, .inl (nc0, 40, .inr (.inl g0))), (p1, .inr (0, [.int b1, .int z1, .ref n1])), (n1, .inl (nc1, 40, .inr (.inl g1))), (p2, .inr (0, [.int b2, .int z2, .ref n2])), (n2, .inl (nc2, 40, .inr (.inl g2))), (p3, .inr (0, [.int b3, .int z3, .ref n3])), (n3, .inl (nc3, 40, .inr (.inl g3))), (h0, .inr (6, [v0, v1, v2, v3, v4, .ref ph, .ref t0, v7])), (t0, .inl (tc, 7, .inl tg_231))] H := hP
              have hD : va_D A [(ph, .inl (pc, 4, .inr (.inr (.inr (.inr pf))))), (p0, .inr (0, [.int b0, .int z0, .ref n0])), (n0, .inl (nc0, 40, .inr (.inl g0))), (p1, .inr (0, [.int b1, .int z1, .ref n1])), (n1, .inl (nc1, 40, .inr (.inl g1))), (p2, .inr (0, [.int b2, .int z2, .ref n2])), (n2, .inl (nc2, 40, .inr (.inl g2))), (p3, .inr (0, [.int b3, .int z3, .ref n3])), (n3, .inl (nc3, 40, .inr (.inl g3))), (h0, .inr (6, [v0, v1, v2, v3, v4, .ref ph, .ref t0, v7])), (t0, .inl (tc, 7, .inl tg_231))] := hD
              subst hw
              have hP9 := hP.sub (ws' := [(h0, .inr (6, [v0, v1, v2, v3, v4, .ref ph, .ref t0, v7])), (t0, .inl (tc, 7, .inl tg_231)), (ph, .inl (pc, 4, .inr (.inr (.inr (.inr pf))))), (p0, .inr (0, [.int b0, .int z0, .ref n0])), (n0, .inl (nc0, 40, .inr (.inl g0))), (p1, .inr (0, [.int b1, .int z1, .ref n1])), (n1, .inl (nc1, 40, .inr (.inl g1))), (p2, .inr (0, [.int b2, .int z2, .ref n2])), (n2, .inl (nc2, 40, .inr (.inl g2))), (p3, .inr (0, [.int b3, .int z3, .ref n3])), (n3, .inl (nc3, 40, .inr (.inl g3)))]) [9, 10, 0, 1, 2, 3, 4, 5, 6, 7, 8] rfl
              have hD9 := hD.sub (ws' := [(h0, .inr (6, [v0, v1, v2, v3, v4, .ref ph, .ref t0, v7])), (t0, .inl (tc, 7, .inl tg_231)), (ph, .inl (pc, 4, .inr (.inr (.inr (.inr pf))))), (p0, .inr (0, [.int b0, .int z0, .ref n0])), (n0, .inl (nc0, 40, .inr (.inl g0))), (p1, .inr (0, [.int b1, .int z1, .ref n1])), (n1, .inl (nc1, 40, .inr (.inl g1))), (p2, .inr (0, [.int b2, .int z2, .ref n2])), (n2, .inl (nc2, 40, .inr (.inl g2))), (p3, .inr (0, [.int b3, .int z3, .ref n3])), (n3, .inl (nc3, 40, .inr (.inl g3)))]) [9, 10, 0, 1, 2, 3, 4, 5, 6, 7, 8] (by decide) rfl
              have hK9 := hK.sub (tys' := [(tc, .int), (pc, .object "LampShapes$Paper"), (nc0, .long), (nc1, .long), (nc2, .long), (nc3, .long)]) [0, 1, 2, 3, 4, 5] rfl
              exact W.iret (v := ((-1000000001) : Int32)) hx hb hr (fun t ht hW => ⟨⟨((-1000000001) : Int32), (), rfl, trivial, tg_231, g0, g1, g2, g3, by rw [ht]; exact hP9, va_K.moved hW.alike hK9, hD9⟩, hS.F ht⟩) hS.2.2 dX8_copy_104
            · skip
              have tc_229 : ¬ r_228.toInt = 0 := fun h => c_229 ((fa_eq _ _).mpr h)
              refine lv_aload hx hb dX8_copy_86 (lv_at hl 0 rfl) ?_
              refine lv_iload hx hb dX8_copy_88 (lv_at hl 6 rfl) ?_
              refine lv_iload hx hb dX8_copy_90 (lv_at hl 7 rfl) ?_
              have hPc := hP.sub (ws' := [(p3, .inr (0, [.int b3, .int z3, .ref n3]))]) [9] rfl
              have hKc := hK.sub (tys' := []) [] rfl
              refine vp_callSi (W.runV (As := [.int j, .int n]) (rest := []) ⟨hx, hb, hml, hown, hts⟩ (p_hasPart l dC dI ad p3 j n (.int b3) z3 (.ref n3) hz3) (cwV 2 hts g_x_copy_p_hasPart_282 rfl rfl rfl (by decide +kernel) ⟨(Nat.le_of_ble_eq_true rfl), (Nat.le_of_ble_eq_true rfl)⟩) ⟨preS_blind, va_recv hKc hPc (ci := 0) (q0 := 0) rfl rfl, fun U hU hW => ⟨rfl, preS_at hU hW hPc hKc hev⟩⟩ rfl rfl hl.1 rfl (lv_room (Nat.le_of_ble_eq_true rfl)) dX8_copy_92 ⟨(Nat.le_of_ble_eq_true rfl), (Nat.le_of_ble_eq_true rfl)⟩) (fun r_232 hw => ?_)
              have hr_232 : (r_232.toInt = 1 ∧ 0 ≤ j.toInt ∧ 0 ≤ n.toInt ∧ j.toInt + n.toInt ≤ z3.toInt) ∨ (r_232.toInt = 0 ∧ ¬ (0 ≤ j.toInt ∧ 0 ≤ n.toInt ∧ j.toInt + n.toInt ≤ z3.toInt)) := hw
              refine lv_if_ne (tgt := 105) hx hb dX8_copy_95 (by decide) (fun c_233 => ?_) (fun c_233 => ?_)
              · skip
                have tc_233 : ¬ r_232.toInt = 0 := fun h => c_233 ((fa_eq _ _).mpr h)
                refine lv_aload hx hb dX8_copy_105 (lv_at hl 1 rfl) ?_
                refine va_getN (D := (dC, dI)) (ci := 0) (v := .ref n1) (C := RX2) (T := TX2) (N := 3) hx hb hts inX2 hown hK hP 5 rfl rfl 2 (by decide) (ev_nest hev 23 rfl) (fun _ h9 => h9) rfl dX8_copy_107 ?_
                refine lv_iload_n hx hb dX8_copy_110 rfl (lv_at hl 4 rfl) ?_
                refine lv_aload hx hb dX8_copy_111 (lv_at hl 0 rfl) ?_
                refine va_getN (D := (dC, dI)) (ci := 0) (v := .ref n3) (C := RX2) (T := TX2) (N := 3) hx hb hts inX2 hown hK hP 9 rfl rfl 2 (by decide) (ev_nest hev 23 rfl) (fun _ h9 => h9) rfl dX8_copy_113 ?_
                refine lv_iload hx hb dX8_copy_116 (lv_at hl 6 rfl) ?_
                refine lv_iload hx hb dX8_copy_118 (lv_at hl 7 rfl) ?_
                refine va_copyl (ty := .long) hx hb (by rw [hml]; exact hl.1.symm) hown (hts _ (List.mem_of_getElem? (i := 25) rfl)) (hts _ (List.mem_of_getElem? (i := 26) rfl)) (hts _ (List.mem_of_getElem? (i := 27) rfl)) (hts _ (List.mem_of_getElem? (i := 28) rfl)) hK hP hD hS 6 10 3 5 rfl rfl rfl rfl rfl (fun h => absurd ((fa_lt _ _).mp h) (by show ¬ i.toInt < 0; omega)) (fun h => absurd ((fa_lt _ _).mp h) (by show ¬ j.toInt < 0; omega)) (fun h => absurd ((fa_lt _ _).mp h) (by show ¬ n.toInt < 0; omega)) (by show i.toInt.toNat + n.toInt.toNat ≤ 40; omega) (by show j.toInt.toNat + n.toInt.toNat ≤ 40; omega) (fun _ _ => rfl) (Nat.le_of_ble_eq_true rfl) (Nat.le_of_ble_eq_true rfl) dX8_copy_120 (fun H locs hP hD hS => ?_)
                generalize va_cpy g1 g3 i.toNatClampNeg j.toNatClampNeg n.toNatClampNeg = f_234 at hP hD
                have hP : va_P (dC, dI) vwCl [(h0, .inr (6, [v0, v1, v2, v3, v4, .ref ph, .ref t0, v7])), (t0, .inl (tc, 7, .inl tf)), (ph, .inl (pc, 4, .inr (.inr (.inr (.inr pf))))), (p0, .inr (0, [.int b0, .int z0, .ref n0])), (n0, .inl (nc0, 40, .inr (.inl g0))), (p1, .inr (0, [.int b1, .int z1, .ref n1])), (n1, .inl (nc1, 40, .inr (.inl g1))), (p2, .inr (0, [.int b2, .int z2, .ref n2])), (n2, .inl (nc2, 40, .inr (.inl g2))), (p3, .inr (0, [.int b3, .int z3, .ref n3])), (n3, .inl (nc3, 40, .inr (.inl f_234)))] H := hP
                have hD : va_D A [(h0, .inr (6, [v0, v1, v2, v3, v4, .ref ph, .ref t0, v7])), (t0, .inl (tc, 7, .inl tf)), (ph, .inl (pc, 4, .inr (.inr (.inr (.inr pf))))), (p0, .inr (0, [.int b0, .int z0, .ref n0])), (n0, .inl (nc0, 40, .inr (.inl g0))), (p1, .inr (0, [.int b1, .int z1, .ref n1])), (n1, .inl (nc1, 40, .inr (.inl g1))), (p2, .inr (0, [.int b2, .int z2, .ref n2])), (n2, .inl (nc2, 40, .inr (.inl g2))), (p3, .inr (0, [.int b3, .int z3, .ref n3])), (n3, .inl (nc3, 40, .inr (.inl f_234)))] := hD
                refine lv_iload hx hb dX8_copy_123 (lv_at hl 7 rfl) ?_
                have hP9 := hP.sub (ws' := [(h0, .inr (6, [v0, v1, v2, v3, v4, .ref ph, .ref t0, v7])), (t0, .inl (tc, 7, .inl tf)), (ph, .inl (pc, 4, .inr (.inr (.inr (.inr pf))))), (p0, .inr (0, [.int b0, .int z0, .ref n0])), (n0, .inl (nc0, 40, .inr (.inl g0))), (p1, .inr (0, [.int b1, .int z1, .ref n1])), (n1, .inl (nc1, 40, .inr (.inl g1))), (p2, .inr (0, [.int b2, .int z2, .ref n2])), (n2, .inl (nc2, 40, .inr (.inl g2))), (p3, .inr (0, [.int b3, .int z3, .ref n3])), (n3, .inl (nc3, 40, .inr (.inl f_234)))]) [0, 1, 2, 3, 4, 5, 6, 7, 8, 9, 10] rfl
                have hD9 := hD.sub (ws' := [(h0, .inr (6, [v0, v1, v2, v3, v4, .ref ph, .ref t0, v7])), (t0, .inl (tc, 7, .inl tf)), (ph, .inl (pc, 4, .inr (.inr (.inr (.inr pf))))), (p0, .inr (0, [.int b0, .int z0, .ref n0])), (n0, .inl (nc0, 40, .inr (.inl g0))), (p1, .inr (0, [.int b1, .int z1, .ref n1])), (n1, .inl (nc1, 40, .inr (.inl g1))), (p2, .inr (0, [.int b2, .int z2, .ref n2])), (n2, .inl (nc2, 40, .inr (.inl g2))), (p3, .inr (0, [.int b3, .int z3, .ref n3])), (n3, .inl (nc3, 40, .inr (.inl f_234)))]) [0, 1, 2, 3, 4, 5, 6, 7, 8, 9, 10] (by decide) rfl
                have hK9 := hK.sub (tys' := [(tc, .int), (pc, .object "LampShapes$Paper"), (nc0, .long), (nc1, .long), (nc2, .long), (nc3, .long)]) [0, 1, 2, 3, 4, 5] rfl
                exact W.iret (v := n) hx hb hr (fun t ht hW => ⟨⟨n, (), rfl, trivial, tf, g0, g1, g2, f_234, by rw [ht]; exact hP9, va_K.moved hW.alike hK9, hD9⟩, hS.F ht⟩) hS.2.2 dX8_copy_125
              · skip
                have tc_233 : r_232.toInt = 0 := (fa_eq _ _).mp c_233
                refine lv_aload_n hx hb dX8_copy_98 rfl (lv_at hl 2 rfl) ?_
                refine lv_ldc hx hb hown (hts _ (List.mem_of_getElem? (i := 6) rfl)) dX8_copy_99 ?_
                have hPc := hP.sub (ws' := [(h0, .inr (6, [v0, v1, v2, v3, v4, .ref ph, .ref t0, v7])), (t0, .inl (tc, 7, .inl tf))]) [0, 1] rfl
                have hKc := hK.sub (tys' := [(tc, .int)]) [0] rfl
                have hDc := hD.sub (ws' := [(h0, .inr (6, [v0, v1, v2, v3, v4, .ref ph, .ref t0, v7])), (t0, .inl (tc, 7, .inl tf))]) [0, 1] (by decide) rfl
                have hFc := va_free (wc := [(h0, .inr (6, [v0, v1, v2, v3, v4, .ref ph, .ref t0, v7])), (t0, .inl (tc, 7, .inl tf))]) hD hS hA [0, 1] rfl
                refine va_calli (va_runV (As := [.int (-1000000001)]) (rest := []) ⟨hx, hb, hml, hown, hts⟩ (f_beyond l dC dI ad h0 v0 v1 v2 v3 v4 (.ref ph) t0 v7 tc tf s.heap.size ) (cwV 1 hts g_x_copy_f_beyond_63 rfl rfl rfl (by decide +kernel) ⟨(Nat.le_of_ble_eq_true rfl), (Nat.le_of_ble_eq_true rfl)⟩) ⟨preM_blind, va_recv hKc hPc (ci := 6) (q0 := 0) rfl rfl, fun U hU hW => ⟨rfl, preM_at hU hW hPc hKc hDc hev⟩⟩ rfl rfl hl.1 rfl (lv_room (Nat.le_of_ble_eq_true rfl)) dX8_copy_101 ⟨(Nat.le_of_ble_eq_true rfl), (Nat.le_of_ble_eq_true rfl)⟩) hS (fun q _ h => hFc q h) hFc (fun r_235 u t H1 locs ht hvm hw hB hz1 hk1 hS => ?_)
                obtain ⟨tg_236, hP1, hK1, hD1⟩ := hB
                rw [ht] at hP1
                have hK1 := va_K.moved hvm.symm hK1
                obtain ⟨hP, hD⟩ := va_join (wr := [(ph, .inl (pc, 4, .inr (.inr (.inr (.inr pf))))), (p0, .inr (0, [.int b0, .int z0, .ref n0])), (n0, .inl (nc0, 40, .inr (.inl g0))), (p1, .inr (0, [.int b1, .int z1, .ref n1])), (n1, .inl (nc1, 40, .inr (.inl g1))), (p2, .inr (0, [.int b2, .int z2, .ref n2])), (n2, .inl (nc2, 40, .inr (.inl g2))), (p3, .inr (0, [.int b3, .int z3, .ref n3])), (n3, .inl (nc3, 40, .inr (.inl g3)))]) (w1 := [(h0, .inr (6, [v0, v1, v2, v3, v4, .ref ph, .ref t0, v7])), (t0, .inl (tc, 7, .inl tg_236))]) hP hD [0, 1] [2, 3, 4, 5, 6, 7, 8, 9, 10] rfl rfl (by decide) (by decide) hk1 hFc hP1 hD1
                generalize H1 = H at hP hS ⊢
                have hP : va_P (dC, dI) vwCl [(ph, .inl (pc, 4, .inr (.inr (.inr (.inr pf))))), (p0, .inr (0, [.int b0, .int z0, .ref n0])), (n0, .inl (nc0, 40, .inr (.inl g0))), (p1, .inr (0, [.int b1, .int z1, .ref n1])), (n1, .inl (nc1, 40, .inr (.inl g1))), (p2, .inr (0, [.int b2, .int z2, .ref n2])), (n2, .inl (nc2, 40, .inr (.inl g2))), (p3, .inr (0, [.int b3, .int z3, .ref n3])), (n3, .inl (nc3, 40, .inr (.inl g3))), (h0, .inr (6, [v0, v1, v2, v3, v4, .ref ph, .ref t0, v7])), (t0, .inl (tc, 7, .inl tg_236))] H := hP
                have hD : va_D A [(ph, .inl (pc, 4, .inr (.inr (.inr (.inr pf))))), (p0, .inr (0, [.int b0, .int z0, .ref n0])), (n0, .inl (nc0, 40, .inr (.inl g0))), (p1, .inr (0, [.int b1, .int z1, .ref n1])), (n1, .inl (nc1, 40, .inr (.inl g1))), (p2, .inr (0, [.int b2, .int z2, .ref n2])), (n2, .inl (nc2, 40, .inr (.inl g2))), (p3, .inr (0, [.int b3, .int z3, .ref n3])), (n3, .inl (nc3, 40, .inr (.inl g3))), (h0, .inr (6, [v0, v1, v2, v3, v4, .ref ph, .ref t0, v7])), (t0, .inl (tc, 7, .inl tg_236))] := hD
                subst hw
                have hP9 := hP.sub (ws' := [(h0, .inr (6, [v0, v1, v2, v3, v4, .ref ph, .ref t0, v7])), (t0, .inl (tc, 7, .inl tg_236)), (ph, .inl (pc, 4, .inr (.inr (.inr (.inr pf))))), (p0, .inr (0, [.int b0, .int z0, .ref n0])), (n0, .inl (nc0, 40, .inr (.inl g0))), (p1, .inr (0, [.int b1, .int z1, .ref n1])), (n1, .inl (nc1, 40, .inr (.inl g1))), (p2, .inr (0, [.int b2, .int z2, .ref n2])), (n2, .inl (nc2, 40, .inr (.inl g2))), (p3, .inr (0, [.int b3, .int z3, .ref n3])), (n3, .inl (nc3, 40, .inr (.inl g3)))]) [9, 10, 0, 1, 2, 3, 4, 5, 6, 7, 8] rfl
                have hD9 := hD.sub (ws' := [(h0, .inr (6, [v0, v1, v2, v3, v4, .ref ph, .ref t0, v7])), (t0, .inl (tc, 7, .inl tg_236)), (ph, .inl (pc, 4, .inr (.inr (.inr (.inr pf))))), (p0, .inr (0, [.int b0, .int z0, .ref n0])), (n0, .inl (nc0, 40, .inr (.inl g0))), (p1, .inr (0, [.int b1, .int z1, .ref n1])), (n1, .inl (nc1, 40, .inr (.inl g1))), (p2, .inr (0, [.int b2, .int z2, .ref n2])), (n2, .inl (nc2, 40, .inr (.inl g2))), (p3, .inr (0, [.int b3, .int z3, .ref n3])), (n3, .inl (nc3, 40, .inr (.inl g3)))]) [9, 10, 0, 1, 2, 3, 4, 5, 6, 7, 8] (by decide) rfl
                have hK9 := hK.sub (tys' := [(tc, .int), (pc, .object "LampShapes$Paper"), (nc0, .long), (nc1, .long), (nc2, .long), (nc3, .long)]) [0, 1, 2, 3, 4, 5] rfl
                exact W.iret (v := ((-1000000001) : Int32)) hx hb hr (fun t ht hW => ⟨⟨((-1000000001) : Int32), (), rfl, trivial, tg_236, g0, g1, g2, g3, by rw [ht]; exact hP9, va_K.moved hW.alike hK9, hD9⟩, hS.F ht⟩) hS.2.2 dX8_copy_104
          · skip
            have tc_227 : ¬ b1.toInt = b3.toInt := fun h => c_227 ((fa_eq _ _).mpr h)
            refine lv_aload_n hx hb dX8_copy_68 rfl (lv_at hl 2 rfl) ?_
            refine lv_ldc hx hb hown (hts _ (List.mem_of_getElem? (i := 29) rfl)) dX8_copy_69 ?_
            have hPc := hP.sub (ws' := [(h0, .inr (6, [v0, v1, v2, v3, v4, .ref ph, .ref t0, v7])), (t0, .inl (tc, 7, .inl tf))]) [0, 1] rfl
            have hKc := hK.sub (tys' := [(tc, .int)]) [0] rfl
            have hDc := hD.sub (ws' := [(h0, .inr (6, [v0, v1, v2, v3, v4, .ref ph, .ref t0, v7])), (t0, .inl (tc, 7, .inl tf))]) [0, 1] (by decide) rfl
            have hFc := va_free (wc := [(h0, .inr (6, [v0, v1, v2, v3, v4, .ref ph, .ref t0, v7])), (t0, .inl (tc, 7, .inl tf))]) hD hS hA [0, 1] rfl
            refine va_calli (va_runV (As := [.int (-1000000003)]) (rest := []) ⟨hx, hb, hml, hown, hts⟩ (f_kind l dC dI ad h0 v0 v1 v2 v3 v4 (.ref ph) t0 v7 tc tf s.heap.size ) (cwV 1 hts g_x_copy_f_kind_63 rfl rfl rfl (by decide +kernel) ⟨(Nat.le_of_ble_eq_true rfl), (Nat.le_of_ble_eq_true rfl)⟩) ⟨preM_blind, va_recv hKc hPc (ci := 6) (q0 := 0) rfl rfl, fun U hU hW => ⟨rfl, preM_at hU hW hPc hKc hDc hev⟩⟩ rfl rfl hl.1 rfl (lv_room (Nat.le_of_ble_eq_true rfl)) dX8_copy_71 ⟨(Nat.le_of_ble_eq_true rfl), (Nat.le_of_ble_eq_true rfl)⟩) hS (fun q _ h => hFc q h) hFc (fun r_237 u t H1 locs ht hvm hw hB hz1 hk1 hS => ?_)
            obtain ⟨tg_238, hP1, hK1, hD1⟩ := hB
            rw [ht] at hP1
            have hK1 := va_K.moved hvm.symm hK1
            obtain ⟨hP, hD⟩ := va_join (wr := [(ph, .inl (pc, 4, .inr (.inr (.inr (.inr pf))))), (p0, .inr (0, [.int b0, .int z0, .ref n0])), (n0, .inl (nc0, 40, .inr (.inl g0))), (p1, .inr (0, [.int b1, .int z1, .ref n1])), (n1, .inl (nc1, 40, .inr (.inl g1))), (p2, .inr (0, [.int b2, .int z2, .ref n2])), (n2, .inl (nc2, 40, .inr (.inl g2))), (p3, .inr (0, [.int b3, .int z3, .ref n3])), (n3, .inl (nc3, 40, .inr (.inl g3)))]) (w1 := [(h0, .inr (6, [v0, v1, v2, v3, v4, .ref ph, .ref t0, v7])), (t0, .inl (tc, 7, .inl tg_238))]) hP hD [0, 1] [2, 3, 4, 5, 6, 7, 8, 9, 10] rfl rfl (by decide) (by decide) hk1 hFc hP1 hD1
            generalize H1 = H at hP hS ⊢
            have hP : va_P (dC, dI) vwCl [(ph, .inl (pc, 4, .inr (.inr (.inr (.inr pf))))), (p0, .inr (0, [.int b0, .int z0, .ref n0])), (n0, .inl (nc0, 40, .inr (.inl g0))), (p1, .inr (0, [.int b1, .int z1, .ref n1])), (n1, .inl (nc1, 40, .inr (.inl g1))), (p2, .inr (0, [.int b2, .int z2, .ref n2])), (n2, .inl (nc2, 40, .inr (.inl g2))), (p3, .inr (0, [.int b3, .int z3, .ref n3])), (n3, .inl (nc3, 40, .inr (.inl g3))), (h0, .inr (6, [v0, v1, v2, v3, v4, .ref ph, .ref t0, v7])), (t0, .inl (tc, 7, .inl tg_238))] H := hP
            have hD : va_D A [(ph, .inl (pc, 4, .inr (.inr (.inr (.inr pf))))), (p0, .inr (0, [.int b0, .int z0, .ref n0])), (n0, .inl (nc0, 40, .inr (.inl g0))), (p1, .inr (0, [.int b1, .int z1, .ref n1])), (n1, .inl (nc1, 40, .inr (.inl g1))), (p2, .inr (0, [.int b2, .int z2, .ref n2])), (n2, .inl (nc2, 40, .inr (.inl g2))), (p3, .inr (0, [.int b3, .int z3, .ref n3])), (n3, .inl (nc3, 40, .inr (.inl g3))), (h0, .inr (6, [v0, v1, v2, v3, v4, .ref ph, .ref t0, v7])), (t0, .inl (tc, 7, .inl tg_238))] := hD
            subst hw
            have hP9 := hP.sub (ws' := [(h0, .inr (6, [v0, v1, v2, v3, v4, .ref ph, .ref t0, v7])), (t0, .inl (tc, 7, .inl tg_238)), (ph, .inl (pc, 4, .inr (.inr (.inr (.inr pf))))), (p0, .inr (0, [.int b0, .int z0, .ref n0])), (n0, .inl (nc0, 40, .inr (.inl g0))), (p1, .inr (0, [.int b1, .int z1, .ref n1])), (n1, .inl (nc1, 40, .inr (.inl g1))), (p2, .inr (0, [.int b2, .int z2, .ref n2])), (n2, .inl (nc2, 40, .inr (.inl g2))), (p3, .inr (0, [.int b3, .int z3, .ref n3])), (n3, .inl (nc3, 40, .inr (.inl g3)))]) [9, 10, 0, 1, 2, 3, 4, 5, 6, 7, 8] rfl
            have hD9 := hD.sub (ws' := [(h0, .inr (6, [v0, v1, v2, v3, v4, .ref ph, .ref t0, v7])), (t0, .inl (tc, 7, .inl tg_238)), (ph, .inl (pc, 4, .inr (.inr (.inr (.inr pf))))), (p0, .inr (0, [.int b0, .int z0, .ref n0])), (n0, .inl (nc0, 40, .inr (.inl g0))), (p1, .inr (0, [.int b1, .int z1, .ref n1])), (n1, .inl (nc1, 40, .inr (.inl g1))), (p2, .inr (0, [.int b2, .int z2, .ref n2])), (n2, .inl (nc2, 40, .inr (.inl g2))), (p3, .inr (0, [.int b3, .int z3, .ref n3])), (n3, .inl (nc3, 40, .inr (.inl g3)))]) [9, 10, 0, 1, 2, 3, 4, 5, 6, 7, 8] (by decide) rfl
            have hK9 := hK.sub (tys' := [(tc, .int), (pc, .object "LampShapes$Paper"), (nc0, .long), (nc1, .long), (nc2, .long), (nc3, .long)]) [0, 1, 2, 3, 4, 5] rfl
            exact W.iret (v := ((-1000000003) : Int32)) hx hb hr (fun t ht hW => ⟨⟨((-1000000003) : Int32), (), rfl, trivial, tg_238, g0, g1, g2, g3, by rw [ht]; exact hP9, va_K.moved hW.alike hK9, hD9⟩, hS.F ht⟩) hS.2.2 dX8_copy_74
        · skip
          have tc_226 : ¬ r_225.toInt = 0 := fun h => c_226 ((fa_eq _ _).mpr h)
          refine lv_aload_n hx hb dX8_copy_47 rfl (lv_at hl 2 rfl) ?_
          refine lv_ldcw hx hb hown (hts _ (List.mem_of_getElem? (i := 19) rfl)) dX8_copy_48 ?_
          have hPc := hP.sub (ws' := [(h0, .inr (6, [v0, v1, v2, v3, v4, .ref ph, .ref t0, v7])), (t0, .inl (tc, 7, .inl tf))]) [0, 1] rfl
          have hKc := hK.sub (tys' := [(tc, .int)]) [0] rfl
          have hDc := hD.sub (ws' := [(h0, .inr (6, [v0, v1, v2, v3, v4, .ref ph, .ref t0, v7])), (t0, .inl (tc, 7, .inl tf))]) [0, 1] (by decide) rfl
          have hFc := va_free (wc := [(h0, .inr (6, [v0, v1, v2, v3, v4, .ref ph, .ref t0, v7])), (t0, .inl (tc, 7, .inl tf))]) hD hS hA [0, 1] rfl
          refine va_calli (va_runV (As := [.int (-1000000006)]) (rest := []) ⟨hx, hb, hml, hown, hts⟩ (f_missing l dC dI ad h0 v0 v1 v2 v3 v4 (.ref ph) t0 v7 tc tf s.heap.size ) (cwV 1 hts g_x_copy_f_missing_63 rfl rfl rfl (by decide +kernel) ⟨(Nat.le_of_ble_eq_true rfl), (Nat.le_of_ble_eq_true rfl)⟩) ⟨preM_blind, va_recv hKc hPc (ci := 6) (q0 := 0) rfl rfl, fun U hU hW => ⟨rfl, preM_at hU hW hPc hKc hDc hev⟩⟩ rfl rfl hl.1 rfl (lv_room (Nat.le_of_ble_eq_true rfl)) dX8_copy_51 ⟨(Nat.le_of_ble_eq_true rfl), (Nat.le_of_ble_eq_true rfl)⟩) hS (fun q _ h => hFc q h) hFc (fun r_239 u t H1 locs ht hvm hw hB hz1 hk1 hS => ?_)
          obtain ⟨tg_240, hP1, hK1, hD1⟩ := hB
          rw [ht] at hP1
          have hK1 := va_K.moved hvm.symm hK1
          obtain ⟨hP, hD⟩ := va_join (wr := [(ph, .inl (pc, 4, .inr (.inr (.inr (.inr pf))))), (p0, .inr (0, [.int b0, .int z0, .ref n0])), (n0, .inl (nc0, 40, .inr (.inl g0))), (p1, .inr (0, [.int b1, .int z1, .ref n1])), (n1, .inl (nc1, 40, .inr (.inl g1))), (p2, .inr (0, [.int b2, .int z2, .ref n2])), (n2, .inl (nc2, 40, .inr (.inl g2))), (p3, .inr (0, [.int b3, .int z3, .ref n3])), (n3, .inl (nc3, 40, .inr (.inl g3)))]) (w1 := [(h0, .inr (6, [v0, v1, v2, v3, v4, .ref ph, .ref t0, v7])), (t0, .inl (tc, 7, .inl tg_240))]) hP hD [0, 1] [2, 3, 4, 5, 6, 7, 8, 9, 10] rfl rfl (by decide) (by decide) hk1 hFc hP1 hD1
          generalize H1 = H at hP hS ⊢
          have hP : va_P (dC, dI) vwCl [(ph, .inl (pc, 4, .inr (.inr (.inr (.inr pf))))), (p0, .inr (0, [.int b0, .int z0, .ref n0])), (n0, .inl (nc0, 40, .inr (.inl g0))), (p1, .inr (0, [.int b1, .int z1, .ref n1])), (n1, .inl (nc1, 40, .inr (.inl g1))), (p2, .inr (0, [.int b2, .int z2, .ref n2])), (n2, .inl (nc2, 40, .inr (.inl g2))), (p3, .inr (0, [.int b3, .int z3, .ref n3])), (n3, .inl (nc3, 40, .inr (.inl g3))), (h0, .inr (6, [v0, v1, v2, v3, v4, .ref ph, .ref t0, v7])), (t0, .inl (tc, 7, .inl tg_240))] H := hP
          have hD : va_D A [(ph, .inl (pc, 4, .inr (.inr (.inr (.inr pf))))), (p0, .inr (0, [.int b0, .int z0, .ref n0])), (n0, .inl (nc0, 40, .inr (.inl g0))), (p1, .inr (0, [.int b1, .int z1, .ref n1])), (n1, .inl (nc1, 40, .inr (.inl g1))), (p2, .inr (0, [.int b2, .int z2, .ref n2])), (n2, .inl (nc2, 40, .inr (.inl g2))), (p3, .inr (0, [.int b3, .int z3, .ref n3])), (n3, .inl (nc3, 40, .inr (.inl g3))), (h0, .inr (6, [v0, v1, v2, v3, v4, .ref ph, .ref t0, v7])), (t0, .inl (tc, 7, .inl tg_240))] := hD
          subst hw
          have hP9 := hP.sub (ws' := [(h0, .inr (6, [v0, v1, v2, v3, v4, .ref ph, .ref t0, v7])), (t0, .inl (tc, 7, .inl tg_240)), (ph, .inl (pc, 4, .inr (.inr (.inr (.inr pf))))), (p0, .inr (0, [.int b0, .int z0, .ref n0])), (n0, .inl (nc0, 40, .inr (.inl g0))), (p1, .inr (0, [.int b1, .int z1, .ref n1])), (n1, .inl (nc1, 40, .inr (.inl g1))), (p2, .inr (0, [.int b2, .int z2, .ref n2])), (n2, .inl (nc2, 40, .inr (.inl g2))), (p3, .inr (0, [.int b3, .int z3, .ref n3])), (n3, .inl (nc3, 40, .inr (.inl g3)))]) [9, 10, 0, 1, 2, 3, 4, 5, 6, 7, 8] rfl
          have hD9 := hD.sub (ws' := [(h0, .inr (6, [v0, v1, v2, v3, v4, .ref ph, .ref t0, v7])), (t0, .inl (tc, 7, .inl tg_240)), (ph, .inl (pc, 4, .inr (.inr (.inr (.inr pf))))), (p0, .inr (0, [.int b0, .int z0, .ref n0])), (n0, .inl (nc0, 40, .inr (.inl g0))), (p1, .inr (0, [.int b1, .int z1, .ref n1])), (n1, .inl (nc1, 40, .inr (.inl g1))), (p2, .inr (0, [.int b2, .int z2, .ref n2])), (n2, .inl (nc2, 40, .inr (.inl g2))), (p3, .inr (0, [.int b3, .int z3, .ref n3])), (n3, .inl (nc3, 40, .inr (.inl g3)))]) [9, 10, 0, 1, 2, 3, 4, 5, 6, 7, 8] (by decide) rfl
          have hK9 := hK.sub (tys' := [(tc, .int), (pc, .object "LampShapes$Paper"), (nc0, .long), (nc1, .long), (nc2, .long), (nc3, .long)]) [0, 1, 2, 3, 4, 5] rfl
          exact W.iret (v := ((-1000000006) : Int32)) hx hb hr (fun t ht hW => ⟨⟨((-1000000006) : Int32), (), rfl, trivial, tg_240, g0, g1, g2, g3, by rw [ht]; exact hP9, va_K.moved hW.alike hK9, hD9⟩, hS.F ht⟩) hS.2.2 dX8_copy_54
  · skip
    rcases pp_c_0_3 d with hlt1 | hgt1 | rfl | rfl | rfl | rfl
    · skip
      refine Met.ofW (cc := cX8_copy) (maxL := 8) (ret := (some .int)) (by decide) rfl ?_
      intro p e s m args below meth c s₁ B hml hv
      obtain ⟨rfl, hsz, hP, hK, hD0, hev⟩ := hv
      have hx := B.exec
      have hb := B.bytes
      have hr := B.returns
      have hts := atoms_spec (ws := w_x_copy) B.pre
      have hown : s.vm.findClass RX8 = some m.cls := findClass_of_methodNamed B.named
      have hlocks := B.notSynchronized
      have inX8 : ∀ w ∈ wsX80, w ∈ w_x_copy := fun w h => List.mem_cons_of_mem _ (List.mem_append_left _ (List.mem_append_right _ h))
      have inX2 : ∀ w ∈ wsX20, w ∈ w_x_copy := fun w h => List.mem_cons_of_mem _ (List.mem_append_right _ h)
      subst hsz
      have hD := hD0.self (sz := s.heap.size)
      generalize hAe : va_A [(h0, .inr (6, [v0, v1, v2, v3, v4, .ref ph, .ref t0, v7])), (t0, .inl (tc, 7, .inl tf)), (ph, .inl (pc, 4, .inr (.inr (.inr (.inr pf))))), (p0, .inr (0, [.int b0, .int z0, .ref n0])), (n0, .inl (nc0, 40, .inr (.inl g0))), (p1, .inr (0, [.int b1, .int z1, .ref n1])), (n1, .inl (nc1, 40, .inr (.inl g1))), (p2, .inr (0, [.int b2, .int z2, .ref n2])), (n2, .inl (nc2, 40, .inr (.inl g2))), (p3, .inr (0, [.int b3, .int z3, .ref n3])), (n3, .inl (nc3, 40, .inr (.inl g3)))] s.heap.size = A at hD ⊢
      have hA : ∀ q : Nat, s.heap.size ≤ q → A q := fun q h => by rw [← hAe]; exact Or.inr h
      have hS : va_S A s.heap s.heap [] := va_S.rf
      have hP : va_P (dC, dI) vwCl [(h0, .inr (6, [v0, v1, v2, v3, v4, .ref ph, .ref t0, v7])), (t0, .inl (tc, 7, .inl tf)), (ph, .inl (pc, 4, .inr (.inr (.inr (.inr pf))))), (p0, .inr (0, [.int b0, .int z0, .ref n0])), (n0, .inl (nc0, 40, .inr (.inl g0))), (p1, .inr (0, [.int b1, .int z1, .ref n1])), (n1, .inl (nc1, 40, .inr (.inl g1))), (p2, .inr (0, [.int b2, .int z2, .ref n2])), (n2, .inl (nc2, 40, .inr (.inl g2))), (p3, .inr (0, [.int b3, .int z3, .ref n3])), (n3, .inl (nc3, 40, .inr (.inl g3)))] s.heap := hP
      have hl := lv_entry ([.ref h0, .int 2, .int i, .int d, .int j, .int n]) (n := 8) (Nat.le_of_ble_eq_true rfl)
      rw [lg_entry_eq]
      generalize (lg_sl ([.ref h0, .int 2, .int i, .int d, .int j, .int n]) ++ List.replicate (8 - (lg_sl ([.ref h0, .int 2, .int i, .int d, .int j, .int n])).length) Slot.unset).toArray = ls at hl ⊢
      have hl : lv_has ls 8 [(0, .ref h0), (1, .int 2), (2, .int i), (3, .int d), (4, .int j), (5, .int n)] := hl
      have thlt1 : d.toInt < 0 := (fa_lt _ _).mp hlt1
      refine lv_aload_n hx hb dX8_copy_0 rfl (lv_at hl 0 rfl) ?_
      refine lv_iload_n hx hb dX8_copy_1 rfl (lv_at hl 1 rfl) ?_
      have hPc := hP.sub (ws' := [(h0, .inr (6, [v0, v1, v2, v3, v4, .ref ph, .ref t0, v7])), (ph, .inl (pc, 4, .inr (.inr (.inr (.inr pf)))))]) [0, 2] rfl
      have hKc := hK.sub (tys' := [(pc, .object "LampShapes$Paper")]) [1] rfl
      refine va_csq (W.runV (As := [.int 2]) (rest := []) ⟨hx, hb, hml, hown, hts⟩ (c_paperAt_2 l dC dI ad h0 v0 v1 v2 v3 v4 ph (.ref t0) v7 pc pf p2 hp2) (cwV 1 hts g_x_copy_c_paperAt_2_256 rfl rfl rfl (by decide +kernel) ⟨(Nat.le_of_ble_eq_true rfl), (Nat.le_of_ble_eq_true rfl)⟩) ⟨preS_blind, va_recv hKc hPc (ci := 6) (q0 := 0) rfl rfl, fun U hU hW => ⟨rfl, preS_at hU hW hPc hKc hev⟩⟩ rfl rfl hl.1 rfl (lv_room (Nat.le_of_ble_eq_true rfl)) dX8_copy_2 ⟨(Nat.le_of_ble_eq_true rfl), (Nat.le_of_ble_eq_true rfl)⟩) (fun r_241 hw => ?_)
      subst hw
      refine pp_tv (y := .ref p2) rfl ?_
      refine lv_astore (lv' := [(6, .ref p2), (0, .ref h0), (1, .int 2), (2, .int i), (3, .int d), (4, .int j), (5, .int n)]) hx hb dX8_copy_5 hl (by decide) rfl (fun ls hl => ?_)
      refine lv_aload_n hx hb dX8_copy_7 rfl (lv_at hl 1 rfl) ?_
      refine lv_iload_n hx hb dX8_copy_8 rfl (lv_at hl 4 rfl) ?_
      have hPc := hP.sub (ws' := [(h0, .inr (6, [v0, v1, v2, v3, v4, .ref ph, .ref t0, v7]))]) [0] rfl
      have hKc := hK.sub (tys' := []) [] rfl
      refine va_csq (W.runV (As := [.int d]) (rest := []) ⟨hx, hb, hml, hown, hts⟩ (c_paperAt_lt l dC dI ad h0 d v0 v1 v2 v3 v4 (.ref ph) (.ref t0) v7 hlt1) (cwV 1 hts g_x_copy_c_paperAt_lt_256 rfl rfl rfl (by decide +kernel) ⟨(Nat.le_of_ble_eq_true rfl), (Nat.le_of_ble_eq_true rfl)⟩) ⟨preS_blind, va_recv hKc hPc (ci := 6) (q0 := 0) rfl rfl, fun U hU hW => ⟨rfl, preS_at hU hW hPc hKc hev⟩⟩ rfl rfl hl.1 rfl (lv_room (Nat.le_of_ble_eq_true rfl)) dX8_copy_9 ⟨(Nat.le_of_ble_eq_true rfl), (Nat.le_of_ble_eq_true rfl)⟩) (fun r_242 hw => ?_)
      subst hw
      refine pp_tv (y := .null) rfl ?_
      refine lv_astoreN (lv' := [(7, .null), (6, .ref p2), (0, .ref h0), (1, .int 2), (2, .int i), (3, .int d), (4, .int j), (5, .int n)]) hx hb dX8_copy_12 hl (by decide) rfl (fun ls hl => ?_)
      refine lv_aload hx hb dX8_copy_14 (lv_at hl 1 rfl) ?_
      refine lv_ifnull hx hb dX8_copy_16 ?_
      refine lv_aloadN hx hb dX8_copy_19 (lv_at hl 0 rfl) ?_
      refine lv_ifnonnullN hx hb dX8_copy_21 ?_
      refine lv_aload_n hx hb dX8_copy_24 rfl (lv_at hl 2 rfl) ?_
      refine lv_ldc hx hb hown (hts _ (List.mem_of_getElem? (i := 6) rfl)) dX8_copy_25 ?_
      have hPc := hP.sub (ws' := [(h0, .inr (6, [v0, v1, v2, v3, v4, .ref ph, .ref t0, v7])), (t0, .inl (tc, 7, .inl tf))]) [0, 1] rfl
      have hKc := hK.sub (tys' := [(tc, .int)]) [0] rfl
      have hDc := hD.sub (ws' := [(h0, .inr (6, [v0, v1, v2, v3, v4, .ref ph, .ref t0, v7])), (t0, .inl (tc, 7, .inl tf))]) [0, 1] (by decide) rfl
      have hFc := va_free (wc := [(h0, .inr (6, [v0, v1, v2, v3, v4, .ref ph, .ref t0, v7])), (t0, .inl (tc, 7, .inl tf))]) hD hS hA [0, 1] rfl
      refine va_calli (va_runV (As := [.int (-1000000001)]) (rest := []) ⟨hx, hb, hml, hown, hts⟩ (f_beyond l dC dI ad h0 v0 v1 v2 v3 v4 (.ref ph) t0 v7 tc tf s.heap.size ) (cwV 1 hts g_x_copy_f_beyond_63 rfl rfl rfl (by decide +kernel) ⟨(Nat.le_of_ble_eq_true rfl), (Nat.le_of_ble_eq_true rfl)⟩) ⟨preM_blind, va_recv hKc hPc (ci := 6) (q0 := 0) rfl rfl, fun U hU hW => ⟨rfl, preM_at hU hW hPc hKc hDc hev⟩⟩ rfl rfl hl.1 rfl (lv_room (Nat.le_of_ble_eq_true rfl)) dX8_copy_27 ⟨(Nat.le_of_ble_eq_true rfl), (Nat.le_of_ble_eq_true rfl)⟩) hS (fun q _ h => hFc q h) hFc (fun r_243 u t H1 locs ht hvm hw hB hz1 hk1 hS => ?_)
      obtain ⟨tg_244, hP1, hK1, hD1⟩ := hB
      rw [ht] at hP1
      have hK1 := va_K.moved hvm.symm hK1
      obtain ⟨hP, hD⟩ := va_join (wr := [(ph, .inl (pc, 4, .inr (.inr (.inr (.inr pf))))), (p0, .inr (0, [.int b0, .int z0, .ref n0])), (n0, .inl (nc0, 40, .inr (.inl g0))), (p1, .inr (0, [.int b1, .int z1, .ref n1])), (n1, .inl (nc1, 40, .inr (.inl g1))), (p2, .inr (0, [.int b2, .int z2, .ref n2])), (n2, .inl (nc2, 40, .inr (.inl g2))), (p3, .inr (0, [.int b3, .int z3, .ref n3])), (n3, .inl (nc3, 40, .inr (.inl g3)))]) (w1 := [(h0, .inr (6, [v0, v1, v2, v3, v4, .ref ph, .ref t0, v7])), (t0, .inl (tc, 7, .inl tg_244))]) hP hD [0, 1] [2, 3, 4, 5, 6, 7, 8, 9, 10] rfl rfl (by decide) (by decide) hk1 hFc hP1 hD1
      generalize H1 = H at hP hS ⊢
      have hP : va_P (dC, dI) vwCl [(ph, .inl (pc, 4, .inr (.inr (.inr (.inr pf))))), (p0, .inr (0, [.int b0, .int z0, .ref n0])), (n0, .inl (nc0, 40, .inr (.inl g0))), (p1, .inr (0, [.int b1, .int z1, .ref n1])), (n1, .inl (nc1, 40, .inr (.inl g1))), (p2, .inr (0, [.int b2, .int z2, .ref n2])), (n2, .inl (nc2, 40, .inr (.inl g2))), (p3, .inr (0, [.int b3, .int z3, .ref n3])), (n3, .inl (nc3, 40, .inr (.inl g3))), (h0, .inr (6, [v0, v1, v2, v3, v4, .ref ph, .ref t0, v7])), (t0, .inl (tc, 7, .inl tg_244))] H := hP
      have hD : va_D A [(ph, .inl (pc, 4, .inr (.inr (.inr (.inr pf))))), (p0, .inr (0, [.int b0, .int z0, .ref n0])), (n0, .inl (nc0, 40, .inr (.inl g0))), (p1, .inr (0, [.int b1, .int z1, .ref n1])), (n1, .inl (nc1, 40, .inr (.inl g1))), (p2, .inr (0, [.int b2, .int z2, .ref n2])), (n2, .inl (nc2, 40, .inr (.inl g2))), (p3, .inr (0, [.int b3, .int z3, .ref n3])), (n3, .inl (nc3, 40, .inr (.inl g3))), (h0, .inr (6, [v0, v1, v2, v3, v4, .ref ph, .ref t0, v7])), (t0, .inl (tc, 7, .inl tg_244))] := hD
      subst hw
      have hP9 := hP.sub (ws' := [(h0, .inr (6, [v0, v1, v2, v3, v4, .ref ph, .ref t0, v7])), (t0, .inl (tc, 7, .inl tg_244)), (ph, .inl (pc, 4, .inr (.inr (.inr (.inr pf))))), (p0, .inr (0, [.int b0, .int z0, .ref n0])), (n0, .inl (nc0, 40, .inr (.inl g0))), (p1, .inr (0, [.int b1, .int z1, .ref n1])), (n1, .inl (nc1, 40, .inr (.inl g1))), (p2, .inr (0, [.int b2, .int z2, .ref n2])), (n2, .inl (nc2, 40, .inr (.inl g2))), (p3, .inr (0, [.int b3, .int z3, .ref n3])), (n3, .inl (nc3, 40, .inr (.inl g3)))]) [9, 10, 0, 1, 2, 3, 4, 5, 6, 7, 8] rfl
      have hD9 := hD.sub (ws' := [(h0, .inr (6, [v0, v1, v2, v3, v4, .ref ph, .ref t0, v7])), (t0, .inl (tc, 7, .inl tg_244)), (ph, .inl (pc, 4, .inr (.inr (.inr (.inr pf))))), (p0, .inr (0, [.int b0, .int z0, .ref n0])), (n0, .inl (nc0, 40, .inr (.inl g0))), (p1, .inr (0, [.int b1, .int z1, .ref n1])), (n1, .inl (nc1, 40, .inr (.inl g1))), (p2, .inr (0, [.int b2, .int z2, .ref n2])), (n2, .inl (nc2, 40, .inr (.inl g2))), (p3, .inr (0, [.int b3, .int z3, .ref n3])), (n3, .inl (nc3, 40, .inr (.inl g3)))]) [9, 10, 0, 1, 2, 3, 4, 5, 6, 7, 8] (by decide) rfl
      have hK9 := hK.sub (tys' := [(tc, .int), (pc, .object "LampShapes$Paper"), (nc0, .long), (nc1, .long), (nc2, .long), (nc3, .long)]) [0, 1, 2, 3, 4, 5] rfl
      exact W.iret (v := ((-1000000001) : Int32)) hx hb hr (fun t ht hW => ⟨⟨((-1000000001) : Int32), (), rfl, trivial, tg_244, g0, g1, g2, g3, by rw [ht]; exact hP9, va_K.moved hW.alike hK9, hD9⟩, hS.F ht⟩) hS.2.2 dX8_copy_30
    · skip
      refine Met.ofW (cc := cX8_copy) (maxL := 8) (ret := (some .int)) (by decide) rfl ?_
      intro p e s m args below meth c s₁ B hml hv
      obtain ⟨rfl, hsz, hP, hK, hD0, hev⟩ := hv
      have hx := B.exec
      have hb := B.bytes
      have hr := B.returns
      have hts := atoms_spec (ws := w_x_copy) B.pre
      have hown : s.vm.findClass RX8 = some m.cls := findClass_of_methodNamed B.named
      have hlocks := B.notSynchronized
      have inX8 : ∀ w ∈ wsX80, w ∈ w_x_copy := fun w h => List.mem_cons_of_mem _ (List.mem_append_left _ (List.mem_append_right _ h))
      have inX2 : ∀ w ∈ wsX20, w ∈ w_x_copy := fun w h => List.mem_cons_of_mem _ (List.mem_append_right _ h)
      subst hsz
      have hD := hD0.self (sz := s.heap.size)
      generalize hAe : va_A [(h0, .inr (6, [v0, v1, v2, v3, v4, .ref ph, .ref t0, v7])), (t0, .inl (tc, 7, .inl tf)), (ph, .inl (pc, 4, .inr (.inr (.inr (.inr pf))))), (p0, .inr (0, [.int b0, .int z0, .ref n0])), (n0, .inl (nc0, 40, .inr (.inl g0))), (p1, .inr (0, [.int b1, .int z1, .ref n1])), (n1, .inl (nc1, 40, .inr (.inl g1))), (p2, .inr (0, [.int b2, .int z2, .ref n2])), (n2, .inl (nc2, 40, .inr (.inl g2))), (p3, .inr (0, [.int b3, .int z3, .ref n3])), (n3, .inl (nc3, 40, .inr (.inl g3)))] s.heap.size = A at hD ⊢
      have hA : ∀ q : Nat, s.heap.size ≤ q → A q := fun q h => by rw [← hAe]; exact Or.inr h
      have hS : va_S A s.heap s.heap [] := va_S.rf
      have hP : va_P (dC, dI) vwCl [(h0, .inr (6, [v0, v1, v2, v3, v4, .ref ph, .ref t0, v7])), (t0, .inl (tc, 7, .inl tf)), (ph, .inl (pc, 4, .inr (.inr (.inr (.inr pf))))), (p0, .inr (0, [.int b0, .int z0, .ref n0])), (n0, .inl (nc0, 40, .inr (.inl g0))), (p1, .inr (0, [.int b1, .int z1, .ref n1])), (n1, .inl (nc1, 40, .inr (.inl g1))), (p2, .inr (0, [.int b2, .int z2, .ref n2])), (n2, .inl (nc2, 40, .inr (.inl g2))), (p3, .inr (0, [.int b3, .int z3, .ref n3])), (n3, .inl (nc3, 40, .inr (.inl g3)))] s.heap := hP
      have hl := lv_entry ([.ref h0, .int 2, .int i, .int d, .int j, .int n]) (n := 8) (Nat.le_of_ble_eq_true rfl)
      rw [lg_entry_eq]
      generalize (lg_sl ([.ref h0, .int 2, .int i, .int d, .int j, .int n]) ++ List.replicate (8 - (lg_sl ([.ref h0, .int 2, .int i, .int d, .int j, .int n])).length) Slot.unset).toArray = ls at hl ⊢
      have hl : lv_has ls 8 [(0, .ref h0), (1, .int 2), (2, .int i), (3, .int d), (4, .int j), (5, .int n)] := hl
      have thgt1 : 3 < d.toInt := (fa_lt _ _).mp hgt1
      refine lv_aload_n hx hb dX8_copy_0 rfl (lv_at hl 0 rfl) ?_
      refine lv_iload_n hx hb dX8_copy_1 rfl (lv_at hl 1 rfl) ?_
      have hPc := hP.sub (ws' := [(h0, .inr (6, [v0, v1, v2, v3, v4, .ref ph, .ref t0, v7])), (ph, .inl (pc, 4, .inr (.inr (.inr (.inr pf)))))]) [0, 2] rfl
      have hKc := hK.sub (tys' := [(pc, .object "LampShapes$Paper")]) [1] rfl
      refine va_csq (W.runV (As := [.int 2]) (rest := []) ⟨hx, hb, hml, hown, hts⟩ (c_paperAt_2 l dC dI ad h0 v0 v1 v2 v3 v4 ph (.ref t0) v7 pc pf p2 hp2) (cwV 1 hts g_x_copy_c_paperAt_2_256 rfl rfl rfl (by decide +kernel) ⟨(Nat.le_of_ble_eq_true rfl), (Nat.le_of_ble_eq_true rfl)⟩) ⟨preS_blind, va_recv hKc hPc (ci := 6) (q0 := 0) rfl rfl, fun U hU hW => ⟨rfl, preS_at hU hW hPc hKc hev⟩⟩ rfl rfl hl.1 rfl (lv_room (Nat.le_of_ble_eq_true rfl)) dX8_copy_2 ⟨(Nat.le_of_ble_eq_true rfl), (Nat.le_of_ble_eq_true rfl)⟩) (fun r_245 hw => ?_)
      subst hw
      refine pp_tv (y := .ref p2) rfl ?_
      refine lv_astore (lv' := [(6, .ref p2), (0, .ref h0), (1, .int 2), (2, .int i), (3, .int d), (4, .int j), (5, .int n)]) hx hb dX8_copy_5 hl (by decide) rfl (fun ls hl => ?_)
      refine lv_aload_n hx hb dX8_copy_7 rfl (lv_at hl 1 rfl) ?_
      refine lv_iload_n hx hb dX8_copy_8 rfl (lv_at hl 4 rfl) ?_
      have hPc := hP.sub (ws' := [(h0, .inr (6, [v0, v1, v2, v3, v4, .ref ph, .ref t0, v7]))]) [0] rfl
      have hKc := hK.sub (tys' := []) [] rfl
      refine va_csq (W.runV (As := [.int d]) (rest := []) ⟨hx, hb, hml, hown, hts⟩ (c_paperAt_gt l dC dI ad h0 d v0 v1 v2 v3 v4 (.ref ph) (.ref t0) v7 hgt1) (cwV 1 hts g_x_copy_c_paperAt_gt_256 rfl rfl rfl (by decide +kernel) ⟨(Nat.le_of_ble_eq_true rfl), (Nat.le_of_ble_eq_true rfl)⟩) ⟨preS_blind, va_recv hKc hPc (ci := 6) (q0 := 0) rfl rfl, fun U hU hW => ⟨rfl, preS_at hU hW hPc hKc hev⟩⟩ rfl rfl hl.1 rfl (lv_room (Nat.le_of_ble_eq_true rfl)) dX8_copy_9 ⟨(Nat.le_of_ble_eq_true rfl), (Nat.le_of_ble_eq_true rfl)⟩) (fun r_246 hw => ?_)
      subst hw
      refine pp_tv (y := .null) rfl ?_
      refine lv_astoreN (lv' := [(7, .null), (6, .ref p2), (0, .ref h0), (1, .int 2), (2, .int i), (3, .int d), (4, .int j), (5, .int n)]) hx hb dX8_copy_12 hl (by decide) rfl (fun ls hl => ?_)
      refine lv_aload hx hb dX8_copy_14 (lv_at hl 1 rfl) ?_
      refine lv_ifnull hx hb dX8_copy_16 ?_
      refine lv_aloadN hx hb dX8_copy_19 (lv_at hl 0 rfl) ?_
      refine lv_ifnonnullN hx hb dX8_copy_21 ?_
      refine lv_aload_n hx hb dX8_copy_24 rfl (lv_at hl 2 rfl) ?_
      refine lv_ldc hx hb hown (hts _ (List.mem_of_getElem? (i := 6) rfl)) dX8_copy_25 ?_
      have hPc := hP.sub (ws' := [(h0, .inr (6, [v0, v1, v2, v3, v4, .ref ph, .ref t0, v7])), (t0, .inl (tc, 7, .inl tf))]) [0, 1] rfl
      have hKc := hK.sub (tys' := [(tc, .int)]) [0] rfl
      have hDc := hD.sub (ws' := [(h0, .inr (6, [v0, v1, v2, v3, v4, .ref ph, .ref t0, v7])), (t0, .inl (tc, 7, .inl tf))]) [0, 1] (by decide) rfl
      have hFc := va_free (wc := [(h0, .inr (6, [v0, v1, v2, v3, v4, .ref ph, .ref t0, v7])), (t0, .inl (tc, 7, .inl tf))]) hD hS hA [0, 1] rfl
      refine va_calli (va_runV (As := [.int (-1000000001)]) (rest := []) ⟨hx, hb, hml, hown, hts⟩ (f_beyond l dC dI ad h0 v0 v1 v2 v3 v4 (.ref ph) t0 v7 tc tf s.heap.size ) (cwV 1 hts g_x_copy_f_beyond_63 rfl rfl rfl (by decide +kernel) ⟨(Nat.le_of_ble_eq_true rfl), (Nat.le_of_ble_eq_true rfl)⟩) ⟨preM_blind, va_recv hKc hPc (ci := 6) (q0 := 0) rfl rfl, fun U hU hW => ⟨rfl, preM_at hU hW hPc hKc hDc hev⟩⟩ rfl rfl hl.1 rfl (lv_room (Nat.le_of_ble_eq_true rfl)) dX8_copy_27 ⟨(Nat.le_of_ble_eq_true rfl), (Nat.le_of_ble_eq_true rfl)⟩) hS (fun q _ h => hFc q h) hFc (fun r_247 u t H1 locs ht hvm hw hB hz1 hk1 hS => ?_)
      obtain ⟨tg_248, hP1, hK1, hD1⟩ := hB
      rw [ht] at hP1
      have hK1 := va_K.moved hvm.symm hK1
      obtain ⟨hP, hD⟩ := va_join (wr := [(ph, .inl (pc, 4, .inr (.inr (.inr (.inr pf))))), (p0, .inr (0, [.int b0, .int z0, .ref n0])), (n0, .inl (nc0, 40, .inr (.inl g0))), (p1, .inr (0, [.int b1, .int z1, .ref n1])), (n1, .inl (nc1, 40, .inr (.inl g1))), (p2, .inr (0, [.int b2, .int z2, .ref n2])), (n2, .inl (nc2, 40, .inr (.inl g2))), (p3, .inr (0, [.int b3, .int z3, .ref n3])), (n3, .inl (nc3, 40, .inr (.inl g3)))]) (w1 := [(h0, .inr (6, [v0, v1, v2, v3, v4, .ref ph, .ref t0, v7])), (t0, .inl (tc, 7, .inl tg_248))]) hP hD [0, 1] [2, 3, 4, 5, 6, 7, 8, 9, 10] rfl rfl (by decide) (by decide) hk1 hFc hP1 hD1
      generalize H1 = H at hP hS ⊢
      have hP : va_P (dC, dI) vwCl [(ph, .inl (pc, 4, .inr (.inr (.inr (.inr pf))))), (p0, .inr (0, [.int b0, .int z0, .ref n0])), (n0, .inl (nc0, 40, .inr (.inl g0))), (p1, .inr (0, [.int b1, .int z1, .ref n1])), (n1, .inl (nc1, 40, .inr (.inl g1))), (p2, .inr (0, [.int b2, .int z2, .ref n2])), (n2, .inl (nc2, 40, .inr (.inl g2))), (p3, .inr (0, [.int b3, .int z3, .ref n3])), (n3, .inl (nc3, 40, .inr (.inl g3))), (h0, .inr (6, [v0, v1, v2, v3, v4, .ref ph, .ref t0, v7])), (t0, .inl (tc, 7, .inl tg_248))] H := hP
      have hD : va_D A [(ph, .inl (pc, 4, .inr (.inr (.inr (.inr pf))))), (p0, .inr (0, [.int b0, .int z0, .ref n0])), (n0, .inl (nc0, 40, .inr (.inl g0))), (p1, .inr (0, [.int b1, .int z1, .ref n1])), (n1, .inl (nc1, 40, .inr (.inl g1))), (p2, .inr (0, [.int b2, .int z2, .ref n2])), (n2, .inl (nc2, 40, .inr (.inl g2))), (p3, .inr (0, [.int b3, .int z3, .ref n3])), (n3, .inl (nc3, 40, .inr (.inl g3))), (h0, .inr (6, [v0, v1, v2, v3, v4, .ref ph, .ref t0, v7])), (t0, .inl (tc, 7, .inl tg_248))] := hD
      subst hw
      have hP9 := hP.sub (ws' := [(h0, .inr (6, [v0, v1, v2, v3, v4, .ref ph, .ref t0, v7])), (t0, .inl (tc, 7, .inl tg_248)), (ph, .inl (pc, 4, .inr (.inr (.inr (.inr pf))))), (p0, .inr (0, [.int b0, .int z0, .ref n0])), (n0, .inl (nc0, 40, .inr (.inl g0))), (p1, .inr (0, [.int b1, .int z1, .ref n1])), (n1, .inl (nc1, 40, .inr (.inl g1))), (p2, .inr (0, [.int b2, .int z2, .ref n2])), (n2, .inl (nc2, 40, .inr (.inl g2))), (p3, .inr (0, [.int b3, .int z3, .ref n3])), (n3, .inl (nc3, 40, .inr (.inl g3)))]) [9, 10, 0, 1, 2, 3, 4, 5, 6, 7, 8] rfl
      have hD9 := hD.sub (ws' := [(h0, .inr (6, [v0, v1, v2, v3, v4, .ref ph, .ref t0, v7])), (t0, .inl (tc, 7, .inl tg_248)), (ph, .inl (pc, 4, .inr (.inr (.inr (.inr pf))))), (p0, .inr (0, [.int b0, .int z0, .ref n0])), (n0, .inl (nc0, 40, .inr (.inl g0))), (p1, .inr (0, [.int b1, .int z1, .ref n1])), (n1, .inl (nc1, 40, .inr (.inl g1))), (p2, .inr (0, [.int b2, .int z2, .ref n2])), (n2, .inl (nc2, 40, .inr (.inl g2))), (p3, .inr (0, [.int b3, .int z3, .ref n3])), (n3, .inl (nc3, 40, .inr (.inl g3)))]) [9, 10, 0, 1, 2, 3, 4, 5, 6, 7, 8] (by decide) rfl
      have hK9 := hK.sub (tys' := [(tc, .int), (pc, .object "LampShapes$Paper"), (nc0, .long), (nc1, .long), (nc2, .long), (nc3, .long)]) [0, 1, 2, 3, 4, 5] rfl
      exact W.iret (v := ((-1000000001) : Int32)) hx hb hr (fun t ht hW => ⟨⟨((-1000000001) : Int32), (), rfl, trivial, tg_248, g0, g1, g2, g3, by rw [ht]; exact hP9, va_K.moved hW.alike hK9, hD9⟩, hS.F ht⟩) hS.2.2 dX8_copy_30
    · skip
      refine Met.ofW (cc := cX8_copy) (maxL := 8) (ret := (some .int)) (by decide) rfl ?_
      intro p e s m args below meth c s₁ B hml hv
      obtain ⟨rfl, hsz, hP, hK, hD0, hev⟩ := hv
      have hx := B.exec
      have hb := B.bytes
      have hr := B.returns
      have hts := atoms_spec (ws := w_x_copy) B.pre
      have hown : s.vm.findClass RX8 = some m.cls := findClass_of_methodNamed B.named
      have hlocks := B.notSynchronized
      have inX8 : ∀ w ∈ wsX80, w ∈ w_x_copy := fun w h => List.mem_cons_of_mem _ (List.mem_append_left _ (List.mem_append_right _ h))
      have inX2 : ∀ w ∈ wsX20, w ∈ w_x_copy := fun w h => List.mem_cons_of_mem _ (List.mem_append_right _ h)
      subst hsz
      have hD := hD0.self (sz := s.heap.size)
      generalize hAe : va_A [(h0, .inr (6, [v0, v1, v2, v3, v4, .ref ph, .ref t0, v7])), (t0, .inl (tc, 7, .inl tf)), (ph, .inl (pc, 4, .inr (.inr (.inr (.inr pf))))), (p0, .inr (0, [.int b0, .int z0, .ref n0])), (n0, .inl (nc0, 40, .inr (.inl g0))), (p1, .inr (0, [.int b1, .int z1, .ref n1])), (n1, .inl (nc1, 40, .inr (.inl g1))), (p2, .inr (0, [.int b2, .int z2, .ref n2])), (n2, .inl (nc2, 40, .inr (.inl g2))), (p3, .inr (0, [.int b3, .int z3, .ref n3])), (n3, .inl (nc3, 40, .inr (.inl g3)))] s.heap.size = A at hD ⊢
      have hA : ∀ q : Nat, s.heap.size ≤ q → A q := fun q h => by rw [← hAe]; exact Or.inr h
      have hS : va_S A s.heap s.heap [] := va_S.rf
      have hP : va_P (dC, dI) vwCl [(h0, .inr (6, [v0, v1, v2, v3, v4, .ref ph, .ref t0, v7])), (t0, .inl (tc, 7, .inl tf)), (ph, .inl (pc, 4, .inr (.inr (.inr (.inr pf))))), (p0, .inr (0, [.int b0, .int z0, .ref n0])), (n0, .inl (nc0, 40, .inr (.inl g0))), (p1, .inr (0, [.int b1, .int z1, .ref n1])), (n1, .inl (nc1, 40, .inr (.inl g1))), (p2, .inr (0, [.int b2, .int z2, .ref n2])), (n2, .inl (nc2, 40, .inr (.inl g2))), (p3, .inr (0, [.int b3, .int z3, .ref n3])), (n3, .inl (nc3, 40, .inr (.inl g3)))] s.heap := hP
      have hl := lv_entry ([.ref h0, .int 2, .int i, .int 0, .int j, .int n]) (n := 8) (Nat.le_of_ble_eq_true rfl)
      rw [lg_entry_eq]
      generalize (lg_sl ([.ref h0, .int 2, .int i, .int 0, .int j, .int n]) ++ List.replicate (8 - (lg_sl ([.ref h0, .int 2, .int i, .int 0, .int j, .int n])).length) Slot.unset).toArray = ls at hl ⊢
      have hl : lv_has ls 8 [(0, .ref h0), (1, .int 2), (2, .int i), (3, .int 0), (4, .int j), (5, .int n)] := hl
      refine lv_aload_n hx hb dX8_copy_0 rfl (lv_at hl 0 rfl) ?_
      refine lv_iload_n hx hb dX8_copy_1 rfl (lv_at hl 1 rfl) ?_
      have hPc := hP.sub (ws' := [(h0, .inr (6, [v0, v1, v2, v3, v4, .ref ph, .ref t0, v7])), (ph, .inl (pc, 4, .inr (.inr (.inr (.inr pf)))))]) [0, 2] rfl
      have hKc := hK.sub (tys' := [(pc, .object "LampShapes$Paper")]) [1] rfl
      refine va_csq (W.runV (As := [.int 2]) (rest := []) ⟨hx, hb, hml, hown, hts⟩ (c_paperAt_2 l dC dI ad h0 v0 v1 v2 v3 v4 ph (.ref t0) v7 pc pf p2 hp2) (cwV 1 hts g_x_copy_c_paperAt_2_256 rfl rfl rfl (by decide +kernel) ⟨(Nat.le_of_ble_eq_true rfl), (Nat.le_of_ble_eq_true rfl)⟩) ⟨preS_blind, va_recv hKc hPc (ci := 6) (q0 := 0) rfl rfl, fun U hU hW => ⟨rfl, preS_at hU hW hPc hKc hev⟩⟩ rfl rfl hl.1 rfl (lv_room (Nat.le_of_ble_eq_true rfl)) dX8_copy_2 ⟨(Nat.le_of_ble_eq_true rfl), (Nat.le_of_ble_eq_true rfl)⟩) (fun r_249 hw => ?_)
      subst hw
      refine pp_tv (y := .ref p2) rfl ?_
      refine lv_astore (lv' := [(6, .ref p2), (0, .ref h0), (1, .int 2), (2, .int i), (3, .int 0), (4, .int j), (5, .int n)]) hx hb dX8_copy_5 hl (by decide) rfl (fun ls hl => ?_)
      refine lv_aload_n hx hb dX8_copy_7 rfl (lv_at hl 1 rfl) ?_
      refine lv_iload_n hx hb dX8_copy_8 rfl (lv_at hl 4 rfl) ?_
      have hPc := hP.sub (ws' := [(h0, .inr (6, [v0, v1, v2, v3, v4, .ref ph, .ref t0, v7])), (ph, .inl (pc, 4, .inr (.inr (.inr (.inr pf)))))]) [0, 2] rfl
      have hKc := hK.sub (tys' := [(pc, .object "LampShapes$Paper")]) [1] rfl
      refine va_csq (W.runV (As := [.int 0]) (rest := []) ⟨hx, hb, hml, hown, hts⟩ (c_paperAt_0 l dC dI ad h0 v0 v1 v2 v3 v4 ph (.ref t0) v7 pc pf p0 hp0) (cwV 1 hts g_x_copy_c_paperAt_0_256 rfl rfl rfl (by decide +kernel) ⟨(Nat.le_of_ble_eq_true rfl), (Nat.le_of_ble_eq_true rfl)⟩) ⟨preS_blind, va_recv hKc hPc (ci := 6) (q0 := 0) rfl rfl, fun U hU hW => ⟨rfl, preS_at hU hW hPc hKc hev⟩⟩ rfl rfl hl.1 rfl (lv_room (Nat.le_of_ble_eq_true rfl)) dX8_copy_9 ⟨(Nat.le_of_ble_eq_true rfl), (Nat.le_of_ble_eq_true rfl)⟩) (fun r_250 hw => ?_)
      subst hw
      refine pp_tv (y := .ref p0) rfl ?_
      refine lv_astore (lv' := [(7, .ref p0), (6, .ref p2), (0, .ref h0), (1, .int 2), (2, .int i), (3, .int 0), (4, .int j), (5, .int n)]) hx hb dX8_copy_12 hl (by decide) rfl (fun ls hl => ?_)
      refine lv_aload hx hb dX8_copy_14 (lv_at hl 1 rfl) ?_
      refine lv_ifnull hx hb dX8_copy_16 ?_
      refine lv_aload hx hb dX8_copy_19 (lv_at hl 0 rfl) ?_
      refine lv_ifnonnull (tgt := 31) hx hb dX8_copy_21 (by decide) ?_
      refine lv_aload hx hb dX8_copy_31 (lv_at hl 1 rfl) ?_
      have hPc := hP.sub (ws' := [(p2, .inr (0, [.int b2, .int z2, .ref n2]))]) [7] rfl
      have hKc := hK.sub (tys' := []) [] rfl
      refine vp_callSi (W.runV (As := []) (rest := []) ⟨hx, hb, hml, hown, hts⟩ (p_isMissing l dC dI ad p2 b2 (.int z2) (.ref n2) ) (cwV 0 hts g_x_copy_p_isMissing_268 rfl rfl rfl (by decide +kernel) ⟨(Nat.le_of_ble_eq_true rfl), (Nat.le_of_ble_eq_true rfl)⟩) ⟨preS_blind, va_recv hKc hPc (ci := 0) (q0 := 0) rfl rfl, fun U hU hW => ⟨rfl, preS_at hU hW hPc hKc hev⟩⟩ rfl rfl hl.1 rfl (lv_room (Nat.le_of_ble_eq_true rfl)) dX8_copy_33 ⟨(Nat.le_of_ble_eq_true rfl), (Nat.le_of_ble_eq_true rfl)⟩) (fun r_251 hw => ?_)
      have hr_251 : (r_251.toInt = 1 ∧ b2.toInt = 0) ∨ (r_251.toInt = 0 ∧ ¬ b2.toInt = 0) := hw
      refine lv_if_ne (tgt := 47) hx hb dX8_copy_36 (by decide) (fun c_252 => ?_) (fun c_252 => ?_)
      · skip
        have tc_252 : ¬ r_251.toInt = 0 := fun h => c_252 ((fa_eq _ _).mpr h)
        refine lv_aload_n hx hb dX8_copy_47 rfl (lv_at hl 2 rfl) ?_
        refine lv_ldcw hx hb hown (hts _ (List.mem_of_getElem? (i := 19) rfl)) dX8_copy_48 ?_
        have hPc := hP.sub (ws' := [(h0, .inr (6, [v0, v1, v2, v3, v4, .ref ph, .ref t0, v7])), (t0, .inl (tc, 7, .inl tf))]) [0, 1] rfl
        have hKc := hK.sub (tys' := [(tc, .int)]) [0] rfl
        have hDc := hD.sub (ws' := [(h0, .inr (6, [v0, v1, v2, v3, v4, .ref ph, .ref t0, v7])), (t0, .inl (tc, 7, .inl tf))]) [0, 1] (by decide) rfl
        have hFc := va_free (wc := [(h0, .inr (6, [v0, v1, v2, v3, v4, .ref ph, .ref t0, v7])), (t0, .inl (tc, 7, .inl tf))]) hD hS hA [0, 1] rfl
        refine va_calli (va_runV (As := [.int (-1000000006)]) (rest := []) ⟨hx, hb, hml, hown, hts⟩ (f_missing l dC dI ad h0 v0 v1 v2 v3 v4 (.ref ph) t0 v7 tc tf s.heap.size ) (cwV 1 hts g_x_copy_f_missing_63 rfl rfl rfl (by decide +kernel) ⟨(Nat.le_of_ble_eq_true rfl), (Nat.le_of_ble_eq_true rfl)⟩) ⟨preM_blind, va_recv hKc hPc (ci := 6) (q0 := 0) rfl rfl, fun U hU hW => ⟨rfl, preM_at hU hW hPc hKc hDc hev⟩⟩ rfl rfl hl.1 rfl (lv_room (Nat.le_of_ble_eq_true rfl)) dX8_copy_51 ⟨(Nat.le_of_ble_eq_true rfl), (Nat.le_of_ble_eq_true rfl)⟩) hS (fun q _ h => hFc q h) hFc (fun r_253 u t H1 locs ht hvm hw hB hz1 hk1 hS => ?_)
        obtain ⟨tg_254, hP1, hK1, hD1⟩ := hB
        rw [ht] at hP1
        have hK1 := va_K.moved hvm.symm hK1
        obtain ⟨hP, hD⟩ := va_join (wr := [(ph, .inl (pc, 4, .inr (.inr (.inr (.inr pf))))), (p0, .inr (0, [.int b0, .int z0, .ref n0])), (n0, .inl (nc0, 40, .inr (.inl g0))), (p1, .inr (0, [.int b1, .int z1, .ref n1])), (n1, .inl (nc1, 40, .inr (.inl g1))), (p2, .inr (0, [.int b2, .int z2, .ref n2])), (n2, .inl (nc2, 40, .inr (.inl g2))), (p3, .inr (0, [.int b3, .int z3, .ref n3])), (n3, .inl (nc3, 40, .inr (.inl g3)))]) (w1 := [(h0, .inr (6, [v0, v1, v2, v3, v4, .ref ph, .ref t0, v7])), (t0, .inl (tc, 7, .inl tg_254))]) hP hD [0, 1] [2, 3, 4, 5, 6, 7, 8, 9, 10] rfl rfl (by decide) (by decide) hk1 hFc hP1 hD1
        generalize H1 = H at hP hS ⊢
        have hP : va_P (dC, dI) vwCl [(ph, .inl (pc, 4, .inr (.inr (.inr (.inr pf))))), (p0, .inr (0, [.int b0, .int z0, .ref n0])), (n0, .inl (nc0, 40, .inr (.inl g0))), (p1, .inr (0, [.int b1, .int z1, .ref n1])), (n1, .inl (nc1, 40, .inr (.inl g1))), (p2, .inr (0, [.int b2, .int z2, .ref n2])), (n2, .inl (nc2, 40, .inr (.inl g2))), (p3, .inr (0, [.int b3, .int z3, .ref n3])), (n3, .inl (nc3, 40, .inr (.inl g3))), (h0, .inr (6, [v0, v1, v2, v3, v4, .ref ph, .ref t0, v7])), (t0, .inl (tc, 7, .inl tg_254))] H := hP
        have hD : va_D A [(ph, .inl (pc, 4, .inr (.inr (.inr (.inr pf))))), (p0, .inr (0, [.int b0, .int z0, .ref n0])), (n0, .inl (nc0, 40, .inr (.inl g0))), (p1, .inr (0, [.int b1, .int z1, .ref n1])), (n1, .inl (nc1, 40, .inr (.inl g1))), (p2, .inr (0, [.int b2, .int z2, .ref n2])), (n2, .inl (nc2, 40, .inr (.inl g2))), (p3, .inr (0, [.int b3, .int z3, .ref n3])), (n3, .inl (nc3, 40, .inr (.inl g3))), (h0, .inr (6, [v0, v1, v2, v3, v4, .ref ph, .ref t0, v7])), (t0, .inl (tc, 7, .inl tg_254))] := hD
        subst hw
        have hP9 := hP.sub (ws' := [(h0, .inr (6, [v0, v1, v2, v3, v4, .ref ph, .ref t0, v7])), (t0, .inl (tc, 7, .inl tg_254)), (ph, .inl (pc, 4, .inr (.inr (.inr (.inr pf))))), (p0, .inr (0, [.int b0, .int z0, .ref n0])), (n0, .inl (nc0, 40, .inr (.inl g0))), (p1, .inr (0, [.int b1, .int z1, .ref n1])), (n1, .inl (nc1, 40, .inr (.inl g1))), (p2, .inr (0, [.int b2, .int z2, .ref n2])), (n2, .inl (nc2, 40, .inr (.inl g2))), (p3, .inr (0, [.int b3, .int z3, .ref n3])), (n3, .inl (nc3, 40, .inr (.inl g3)))]) [9, 10, 0, 1, 2, 3, 4, 5, 6, 7, 8] rfl
        have hD9 := hD.sub (ws' := [(h0, .inr (6, [v0, v1, v2, v3, v4, .ref ph, .ref t0, v7])), (t0, .inl (tc, 7, .inl tg_254)), (ph, .inl (pc, 4, .inr (.inr (.inr (.inr pf))))), (p0, .inr (0, [.int b0, .int z0, .ref n0])), (n0, .inl (nc0, 40, .inr (.inl g0))), (p1, .inr (0, [.int b1, .int z1, .ref n1])), (n1, .inl (nc1, 40, .inr (.inl g1))), (p2, .inr (0, [.int b2, .int z2, .ref n2])), (n2, .inl (nc2, 40, .inr (.inl g2))), (p3, .inr (0, [.int b3, .int z3, .ref n3])), (n3, .inl (nc3, 40, .inr (.inl g3)))]) [9, 10, 0, 1, 2, 3, 4, 5, 6, 7, 8] (by decide) rfl
        have hK9 := hK.sub (tys' := [(tc, .int), (pc, .object "LampShapes$Paper"), (nc0, .long), (nc1, .long), (nc2, .long), (nc3, .long)]) [0, 1, 2, 3, 4, 5] rfl
        exact W.iret (v := ((-1000000006) : Int32)) hx hb hr (fun t ht hW => ⟨⟨((-1000000006) : Int32), (), rfl, trivial, tg_254, g0, g1, g2, g3, by rw [ht]; exact hP9, va_K.moved hW.alike hK9, hD9⟩, hS.F ht⟩) hS.2.2 dX8_copy_54
      · skip
        have tc_252 : r_251.toInt = 0 := (fa_eq _ _).mp c_252
        refine lv_aload hx hb dX8_copy_39 (lv_at hl 0 rfl) ?_
        have hPc := hP.sub (ws' := [(p0, .inr (0, [.int b0, .int z0, .ref n0]))]) [3] rfl
        have hKc := hK.sub (tys' := []) [] rfl
        refine vp_callSi (W.runV (As := []) (rest := []) ⟨hx, hb, hml, hown, hts⟩ (p_isMissing l dC dI ad p0 b0 (.int z0) (.ref n0) ) (cwV 0 hts g_x_copy_p_isMissing_268 rfl rfl rfl (by decide +kernel) ⟨(Nat.le_of_ble_eq_true rfl), (Nat.le_of_ble_eq_true rfl)⟩) ⟨preS_blind, va_recv hKc hPc (ci := 0) (q0 := 0) rfl rfl, fun U hU hW => ⟨rfl, preS_at hU hW hPc hKc hev⟩⟩ rfl rfl hl.1 rfl (lv_room (Nat.le_of_ble_eq_true rfl)) dX8_copy_41 ⟨(Nat.le_of_ble_eq_true rfl), (Nat.le_of_ble_eq_true rfl)⟩) (fun r_255 hw => ?_)
        have hr_255 : (r_255.toInt = 1 ∧ b0.toInt = 0) ∨ (r_255.toInt = 0 ∧ ¬ b0.toInt = 0) := hw
        refine lv_if_eq (tgt := 55) hx hb dX8_copy_44 (by decide) (fun c_256 => ?_) (fun c_256 => ?_)
        · skip
          have tc_256 : r_255.toInt = 0 := (fa_eq _ _).mp c_256
          refine lv_aload hx hb dX8_copy_55 (lv_at hl 1 rfl) ?_
          refine va_getN (D := (dC, dI)) (ci := 0) (v := .int b2) (C := RX2) (T := TX2) (N := 3) hx hb hts inX2 hown hK hP 7 rfl rfl 0 (by decide) (ev_nest hev 21 rfl) (fun _ h9 => h9) rfl dX8_copy_57 ?_
          refine lv_aload hx hb dX8_copy_60 (lv_at hl 0 rfl) ?_
          refine va_getN (D := (dC, dI)) (ci := 0) (v := .int b0) (C := RX2) (T := TX2) (N := 3) hx hb hts inX2 hown hK hP 3 rfl rfl 0 (by decide) (ev_nest hev 21 rfl) (fun _ h9 => h9) rfl dX8_copy_62 ?_
          have rc_257_x := pp_rng b2
          have rc_257_y := pp_rng b0
          refine lv_icmp_eq (tgt := 75) hx hb dX8_copy_65 (by decide) (fun c_257 => ?_) (fun c_257 => ?_)
          · skip
            have tc_257 : b2.toInt = b0.toInt := (fa_eq _ _).mp c_257
            refine lv_aload hx hb dX8_copy_75 (lv_at hl 1 rfl) ?_
            refine lv_iload_n hx hb dX8_copy_77 rfl (lv_at hl 4 rfl) ?_
            refine lv_iload hx hb dX8_copy_78 (lv_at hl 7 rfl) ?_
            have hPc := hP.sub (ws' := [(p2, .inr (0, [.int b2, .int z2, .ref n2]))]) [7] rfl
            have hKc := hK.sub (tys' := []) [] rfl
            refine vp_callSi (W.runV (As := [.int i, .int n]) (rest := []) ⟨hx, hb, hml, hown, hts⟩ (p_hasPart l dC dI ad p2 i n (.int b2) z2 (.ref n2) hz2) (cwV 2 hts g_x_copy_p_hasPart_282 rfl rfl rfl (by decide +kernel) ⟨(Nat.le_of_ble_eq_true rfl), (Nat.le_of_ble_eq_true rfl)⟩) ⟨preS_blind, va_recv hKc hPc (ci := 0) (q0 := 0) rfl rfl, fun U hU hW => ⟨rfl, preS_at hU hW hPc hKc hev⟩⟩ rfl rfl hl.1 rfl (lv_room (Nat.le_of_ble_eq_true rfl)) dX8_copy_80 ⟨(Nat.le_of_ble_eq_true rfl), (Nat.le_of_ble_eq_true rfl)⟩) (fun r_258 hw => ?_)
            have hr_258 : (r_258.toInt = 1 ∧ 0 ≤ i.toInt ∧ 0 ≤ n.toInt ∧ i.toInt + n.toInt ≤ z2.toInt) ∨ (r_258.toInt = 0 ∧ ¬ (0 ≤ i.toInt ∧ 0 ≤ n.toInt ∧ i.toInt + n.toInt ≤ z2.toInt)) := hw
            refine lv_if_eq (tgt := 98) hx hb dX8_copy_83 (by decide) (fun c_259 => ?_) (fun c_259 => ?_)
            · skip
              have tc_259 : r_258.toInt = 0 := (fa_eq _ _).mp c_259
              refine lv_aload_n hx hb dX8_copy_98 rfl (lv_at hl 2 rfl) ?_
              refine lv_ldc hx hb hown (hts _ (List.mem_of_getElem? (i := 6) rfl)) dX8_copy_99 ?_
              have hPc := hP.sub (ws' := [(h0, .inr (6, [v0, v1, v2, v3, v4, .ref ph, .ref t0, v7])), (t0, .inl (tc, 7, .inl tf))]) [0, 1] rfl
              have hKc := hK.sub (tys' := [(tc, .int)]) [0] rfl
              have hDc := hD.sub (ws' := [(h0, .inr (6, [v0, v1, v2, v3, v4, .ref ph, .ref t0, v7])), (t0, .inl (tc, 7, .inl tf))]) [0, 1] (by decide) rfl
              have hFc := va_free (wc := [(h0, .inr (6, [v0, v1, v2, v3, v4, .ref ph, .ref t0, v7])), (t0, .inl (tc, 7, .inl tf))]) hD hS hA [0, 1] rfl
              refine va_calli (va_runV (As := [.int (-1000000001)]) (rest := []) ⟨hx, hb, hml, hown, hts⟩ (f_beyond l dC dI ad h0 v0 v1 v2 v3 v4 (.ref ph) t0 v7 tc tf s.heap.size ) (cwV 1 hts g_x_copy_f_beyond_63 rfl rfl rfl (by decide +kernel) ⟨(Nat.le_of_ble_eq_true rfl), (Nat.le_of_ble_eq_true rfl)⟩) ⟨preM_blind, va_recv hKc hPc (ci := 6) (q0 := 0) rfl rfl, fun U hU hW => ⟨rfl, preM_at hU hW hPc hKc hDc hev⟩⟩ rfl rfl hl.1 rfl (lv_room (Nat.le_of_ble_eq_true rfl)) dX8_copy_101 ⟨(Nat.le_of_ble_eq_true rfl), (Nat.le_of_ble_eq_true rfl)⟩) hS (fun q _ h => hFc q h) hFc (fun r_260 u t H1 locs ht hvm hw hB hz1 hk1 hS => ?_)
              obtain ⟨tg_261, hP1, hK1, hD1⟩ := hB
              rw [ht] at hP1
              have hK1 := va_K.moved hvm.symm hK1
              obtain ⟨hP, hD⟩ := va_join (wr := [(ph, .inl (pc, 4, .inr (.inr (.inr (.inr pf))))), (p0, .inr (0, [.int b0, .int z0, .ref n0])), (n0, .inl (nc0, 40, .inr (.inl g0))), (p1, .inr (0, [.int b1, .int z1, .ref n1])), (n1, .inl (nc1, 40, .inr (.inl g1))), (p2, .inr (0, [.int b2, .int z2, .ref n2])), (n2, .inl (nc2, 40, .inr (.inl g2))), (p3, .inr (0, [.int b3, .int z3, .ref n3])), (n3, .inl (nc3, 40, .inr (.inl g3)))]) (w1 := [(h0, .inr (6, [v0, v1, v2, v3, v4, .ref ph, .ref t0, v7])), (t0, .inl (tc, 7, .inl tg_261))]) hP hD [0, 1] [2, 3, 4, 5, 6, 7, 8, 9, 10] rfl rfl (by decide) (by decide) hk1 hFc hP1 hD1
              generalize H1 = H at hP hS ⊢
              have hP : va_P (dC, dI) vwCl [(ph, .inl (pc, 4, .inr (.inr (.inr (.inr pf))))), (p0, .inr (0, [.int b0, .int z0, .ref n0])), (n0, .inl (nc0, 40, .inr (.inl g0))), (p1, .inr (0, [.int b1, .int z1, .ref n1])), (n1, .inl (nc1, 40, .inr (.inl g1))), (p2, .inr (0, [.int b2, .int z2, .ref n2])), (n2, .inl (nc2, 40, .inr (.inl g2))), (p3, .inr (0, [.int b3, .int z3, .ref n3])), (n3, .inl (nc3, 40, .inr (.inl g3))), (h0, .inr (6, [v0, v1, v2, v3, v4, .ref ph, .ref t0, v7])), (t0, .inl (tc, 7, .inl tg_261))] H := hP
              have hD : va_D A [(ph, .inl (pc, 4, .inr (.inr (.inr (.inr pf))))), (p0, .inr (0, [.int b0, .int z0, .ref n0])), (n0, .inl (nc0, 40, .inr (.inl g0))), (p1, .inr (0, [.int b1, .int z1, .ref n1])), (n1, .inl (nc1, 40, .inr (.inl g1))), (p2, .inr (0, [.int b2, .int z2, .ref n2])), (n2, .inl (nc2, 40, .inr (.inl g2))), (p3, .inr (0, [.int b3, .int z3, .ref n3])), (n3, .inl (nc3, 40, .inr (.inl g3))), (h0, .inr (6, [v0, v1, v2, v3, v4, .ref ph, .ref t0, v7])), (t0, .inl (tc, 7, .inl tg_261))] := hD
              subst hw
              have hP9 := hP.sub (ws' := [(h0, .inr (6, [v0, v1, v2, v3, v4, .ref ph, .ref t0, v7])), (t0, .inl (tc, 7, .inl tg_261)), (ph, .inl (pc, 4, .inr (.inr (.inr (.inr pf))))), (p0, .inr (0, [.int b0, .int z0, .ref n0])), (n0, .inl (nc0, 40, .inr (.inl g0))), (p1, .inr (0, [.int b1, .int z1, .ref n1])), (n1, .inl (nc1, 40, .inr (.inl g1))), (p2, .inr (0, [.int b2, .int z2, .ref n2])), (n2, .inl (nc2, 40, .inr (.inl g2))), (p3, .inr (0, [.int b3, .int z3, .ref n3])), (n3, .inl (nc3, 40, .inr (.inl g3)))]) [9, 10, 0, 1, 2, 3, 4, 5, 6, 7, 8] rfl
              have hD9 := hD.sub (ws' := [(h0, .inr (6, [v0, v1, v2, v3, v4, .ref ph, .ref t0, v7])), (t0, .inl (tc, 7, .inl tg_261)), (ph, .inl (pc, 4, .inr (.inr (.inr (.inr pf))))), (p0, .inr (0, [.int b0, .int z0, .ref n0])), (n0, .inl (nc0, 40, .inr (.inl g0))), (p1, .inr (0, [.int b1, .int z1, .ref n1])), (n1, .inl (nc1, 40, .inr (.inl g1))), (p2, .inr (0, [.int b2, .int z2, .ref n2])), (n2, .inl (nc2, 40, .inr (.inl g2))), (p3, .inr (0, [.int b3, .int z3, .ref n3])), (n3, .inl (nc3, 40, .inr (.inl g3)))]) [9, 10, 0, 1, 2, 3, 4, 5, 6, 7, 8] (by decide) rfl
              have hK9 := hK.sub (tys' := [(tc, .int), (pc, .object "LampShapes$Paper"), (nc0, .long), (nc1, .long), (nc2, .long), (nc3, .long)]) [0, 1, 2, 3, 4, 5] rfl
              exact W.iret (v := ((-1000000001) : Int32)) hx hb hr (fun t ht hW => ⟨⟨((-1000000001) : Int32), (), rfl, trivial, tg_261, g0, g1, g2, g3, by rw [ht]; exact hP9, va_K.moved hW.alike hK9, hD9⟩, hS.F ht⟩) hS.2.2 dX8_copy_104
            · skip
              have tc_259 : ¬ r_258.toInt = 0 := fun h => c_259 ((fa_eq _ _).mpr h)
              refine lv_aload hx hb dX8_copy_86 (lv_at hl 0 rfl) ?_
              refine lv_iload hx hb dX8_copy_88 (lv_at hl 6 rfl) ?_
              refine lv_iload hx hb dX8_copy_90 (lv_at hl 7 rfl) ?_
              have hPc := hP.sub (ws' := [(p0, .inr (0, [.int b0, .int z0, .ref n0]))]) [3] rfl
              have hKc := hK.sub (tys' := []) [] rfl
              refine vp_callSi (W.runV (As := [.int j, .int n]) (rest := []) ⟨hx, hb, hml, hown, hts⟩ (p_hasPart l dC dI ad p0 j n (.int b0) z0 (.ref n0) hz0) (cwV 2 hts g_x_copy_p_hasPart_282 rfl rfl rfl (by decide +kernel) ⟨(Nat.le_of_ble_eq_true rfl), (Nat.le_of_ble_eq_true rfl)⟩) ⟨preS_blind, va_recv hKc hPc (ci := 0) (q0 := 0) rfl rfl, fun U hU hW => ⟨rfl, preS_at hU hW hPc hKc hev⟩⟩ rfl rfl hl.1 rfl (lv_room (Nat.le_of_ble_eq_true rfl)) dX8_copy_92 ⟨(Nat.le_of_ble_eq_true rfl), (Nat.le_of_ble_eq_true rfl)⟩) (fun r_262 hw => ?_)
              have hr_262 : (r_262.toInt = 1 ∧ 0 ≤ j.toInt ∧ 0 ≤ n.toInt ∧ j.toInt + n.toInt ≤ z0.toInt) ∨ (r_262.toInt = 0 ∧ ¬ (0 ≤ j.toInt ∧ 0 ≤ n.toInt ∧ j.toInt + n.toInt ≤ z0.toInt)) := hw
              refine lv_if_ne (tgt := 105) hx hb dX8_copy_95 (by decide) (fun c_263 => ?_) (fun c_263 => ?_)
              · skip
                have tc_263 : ¬ r_262.toInt = 0 := fun h => c_263 ((fa_eq _ _).mpr h)
                refine lv_aload hx hb dX8_copy_105 (lv_at hl 1 rfl) ?_
                refine va_getN (D := (dC, dI)) (ci := 0) (v := .ref n2) (C := RX2) (T := TX2) (N := 3) hx hb hts inX2 hown hK hP 7 rfl rfl 2 (by decide) (ev_nest hev 23 rfl) (fun _ h9 => h9) rfl dX8_copy_107 ?_
                refine lv_iload_n hx hb dX8_copy_110 rfl (lv_at hl 4 rfl) ?_
                refine lv_aload hx hb dX8_copy_111 (lv_at hl 0 rfl) ?_
                refine va_getN (D := (dC, dI)) (ci := 0) (v := .ref n0) (C := RX2) (T := TX2) (N := 3) hx hb hts inX2 hown hK hP 3 rfl rfl 2 (by decide) (ev_nest hev 23 rfl) (fun _ h9 => h9) rfl dX8_copy_113 ?_
                refine lv_iload hx hb dX8_copy_116 (lv_at hl 6 rfl) ?_
                refine lv_iload hx hb dX8_copy_118 (lv_at hl 7 rfl) ?_
                refine va_copyl (ty := .long) hx hb (by rw [hml]; exact hl.1.symm) hown (hts _ (List.mem_of_getElem? (i := 25) rfl)) (hts _ (List.mem_of_getElem? (i := 26) rfl)) (hts _ (List.mem_of_getElem? (i := 27) rfl)) (hts _ (List.mem_of_getElem? (i := 28) rfl)) hK hP hD hS 8 4 4 2 rfl rfl rfl rfl rfl (fun h => absurd ((fa_lt _ _).mp h) (by show ¬ i.toInt < 0; omega)) (fun h => absurd ((fa_lt _ _).mp h) (by show ¬ j.toInt < 0; omega)) (fun h => absurd ((fa_lt _ _).mp h) (by show ¬ n.toInt < 0; omega)) (by show i.toInt.toNat + n.toInt.toNat ≤ 40; omega) (by show j.toInt.toNat + n.toInt.toNat ≤ 40; omega) (fun _ _ => rfl) (Nat.le_of_ble_eq_true rfl) (Nat.le_of_ble_eq_true rfl) dX8_copy_120 (fun H locs hP hD hS => ?_)
                generalize va_cpy g2 g0 i.toNatClampNeg j.toNatClampNeg n.toNatClampNeg = f_264 at hP hD
                have hP : va_P (dC, dI) vwCl [(h0, .inr (6, [v0, v1, v2, v3, v4, .ref ph, .ref t0, v7])), (t0, .inl (tc, 7, .inl tf)), (ph, .inl (pc, 4, .inr (.inr (.inr (.inr pf))))), (p0, .inr (0, [.int b0, .int z0, .ref n0])), (n0, .inl (nc0, 40, .inr (.inl f_264))), (p1, .inr (0, [.int b1, .int z1, .ref n1])), (n1, .inl (nc1, 40, .inr (.inl g1))), (p2, .inr (0, [.int b2, .int z2, .ref n2])), (n2, .inl (nc2, 40, .inr (.inl g2))), (p3, .inr (0, [.int b3, .int z3, .ref n3])), (n3, .inl (nc3, 40, .inr (.inl g3)))] H := hP
                have hD : va_D A [(h0, .inr (6, [v0, v1, v2, v3, v4, .ref ph, .ref t0, v7])), (t0, .inl (tc, 7, .inl tf)), (ph, .inl (pc, 4, .inr (.inr (.inr (.inr pf))))), (p0, .inr (0, [.int b0, .int z0, .ref n0])), (n0, .inl (nc0, 40, .inr (.inl f_264))), (p1, .inr (0, [.int b1, .int z1, .ref n1])), (n1, .inl (nc1, 40, .inr (.inl g1))), (p2, .inr (0, [.int b2, .int z2, .ref n2])), (n2, .inl (nc2, 40, .inr (.inl g2))), (p3, .inr (0, [.int b3, .int z3, .ref n3])), (n3, .inl (nc3, 40, .inr (.inl g3)))] := hD
                refine lv_iload hx hb dX8_copy_123 (lv_at hl 7 rfl) ?_
                have hP9 := hP.sub (ws' := [(h0, .inr (6, [v0, v1, v2, v3, v4, .ref ph, .ref t0, v7])), (t0, .inl (tc, 7, .inl tf)), (ph, .inl (pc, 4, .inr (.inr (.inr (.inr pf))))), (p0, .inr (0, [.int b0, .int z0, .ref n0])), (n0, .inl (nc0, 40, .inr (.inl f_264))), (p1, .inr (0, [.int b1, .int z1, .ref n1])), (n1, .inl (nc1, 40, .inr (.inl g1))), (p2, .inr (0, [.int b2, .int z2, .ref n2])), (n2, .inl (nc2, 40, .inr (.inl g2))), (p3, .inr (0, [.int b3, .int z3, .ref n3])), (n3, .inl (nc3, 40, .inr (.inl g3)))]) [0, 1, 2, 3, 4, 5, 6, 7, 8, 9, 10] rfl
                have hD9 := hD.sub (ws' := [(h0, .inr (6, [v0, v1, v2, v3, v4, .ref ph, .ref t0, v7])), (t0, .inl (tc, 7, .inl tf)), (ph, .inl (pc, 4, .inr (.inr (.inr (.inr pf))))), (p0, .inr (0, [.int b0, .int z0, .ref n0])), (n0, .inl (nc0, 40, .inr (.inl f_264))), (p1, .inr (0, [.int b1, .int z1, .ref n1])), (n1, .inl (nc1, 40, .inr (.inl g1))), (p2, .inr (0, [.int b2, .int z2, .ref n2])), (n2, .inl (nc2, 40, .inr (.inl g2))), (p3, .inr (0, [.int b3, .int z3, .ref n3])), (n3, .inl (nc3, 40, .inr (.inl g3)))]) [0, 1, 2, 3, 4, 5, 6, 7, 8, 9, 10] (by decide) rfl
                have hK9 := hK.sub (tys' := [(tc, .int), (pc, .object "LampShapes$Paper"), (nc0, .long), (nc1, .long), (nc2, .long), (nc3, .long)]) [0, 1, 2, 3, 4, 5] rfl
                exact W.iret (v := n) hx hb hr (fun t ht hW => ⟨⟨n, (), rfl, trivial, tf, f_264, g1, g2, g3, by rw [ht]; exact hP9, va_K.moved hW.alike hK9, hD9⟩, hS.F ht⟩) hS.2.2 dX8_copy_125
              · skip
                have tc_263 : r_262.toInt = 0 := (fa_eq _ _).mp c_263
                refine lv_aload_n hx hb dX8_copy_98 rfl (lv_at hl 2 rfl) ?_
                refine lv_ldc hx hb hown (hts _ (List.mem_of_getElem? (i := 6) rfl)) dX8_copy_99 ?_
                have hPc := hP.sub (ws' := [(h0, .inr (6, [v0, v1, v2, v3, v4, .ref ph, .ref t0, v7])), (t0, .inl (tc, 7, .inl tf))]) [0, 1] rfl
                have hKc := hK.sub (tys' := [(tc, .int)]) [0] rfl
                have hDc := hD.sub (ws' := [(h0, .inr (6, [v0, v1, v2, v3, v4, .ref ph, .ref t0, v7])), (t0, .inl (tc, 7, .inl tf))]) [0, 1] (by decide) rfl
                have hFc := va_free (wc := [(h0, .inr (6, [v0, v1, v2, v3, v4, .ref ph, .ref t0, v7])), (t0, .inl (tc, 7, .inl tf))]) hD hS hA [0, 1] rfl
                refine va_calli (va_runV (As := [.int (-1000000001)]) (rest := []) ⟨hx, hb, hml, hown, hts⟩ (f_beyond l dC dI ad h0 v0 v1 v2 v3 v4 (.ref ph) t0 v7 tc tf s.heap.size ) (cwV 1 hts g_x_copy_f_beyond_63 rfl rfl rfl (by decide +kernel) ⟨(Nat.le_of_ble_eq_true rfl), (Nat.le_of_ble_eq_true rfl)⟩) ⟨preM_blind, va_recv hKc hPc (ci := 6) (q0 := 0) rfl rfl, fun U hU hW => ⟨rfl, preM_at hU hW hPc hKc hDc hev⟩⟩ rfl rfl hl.1 rfl (lv_room (Nat.le_of_ble_eq_true rfl)) dX8_copy_101 ⟨(Nat.le_of_ble_eq_true rfl), (Nat.le_of_ble_eq_true rfl)⟩) hS (fun q _ h => hFc q h) hFc (fun r_265 u t H1 locs ht hvm hw hB hz1 hk1 hS => ?_)
                obtain ⟨tg_266, hP1, hK1, hD1⟩ := hB
                rw [ht] at hP1
                have hK1 := va_K.moved hvm.symm hK1
                obtain ⟨hP, hD⟩ := va_join (wr := [(ph, .inl (pc, 4, .inr (.inr (.inr (.inr pf))))), (p0, .inr (0, [.int b0, .int z0, .ref n0])), (n0, .inl (nc0, 40, .inr (.inl g0))), (p1, .inr (0, [.int b1, .int z1, .ref n1])), (n1, .inl (nc1, 40, .inr (.inl g1))), (p2, .inr (0, [.int b2, .int z2, .ref n2])), (n2, .inl (nc2, 40, .inr (.inl g2))), (p3, .inr (0, [.int b3, .int z3, .ref n3])), (n3, .inl (nc3, 40, .inr (.inl g3)))]) (w1 := [(h0, .inr (6, [v0, v1, v2, v3, v4, .ref ph, .ref t0, v7])), (t0, .inl (tc, 7, .inl tg_266))]) hP hD [0, 1] [2, 3, 4, 5, 6, 7, 8, 9, 10] rfl rfl (by decide) (by decide) hk1 hFc hP1 hD1
                generalize H1 = H at hP hS ⊢
                have hP : va_P (dC, dI) vwCl [(ph, .inl (pc, 4, .inr (.inr (.inr (.inr pf))))), (p0, .inr (0, [.int b0, .int z0, .ref n0])), (n0, .inl (nc0, 40, .inr (.inl g0))), (p1, .inr (0, [.int b1, .int z1, .ref n1])), (n1, .inl (nc1, 40, .inr (.inl g1))), (p2, .inr (0, [.int b2, .int z2, .ref n2])), (n2, .inl (nc2, 40, .inr (.inl g2))), (p3, .inr (0, [.int b3, .int z3, .ref n3])), (n3, .inl (nc3, 40, .inr (.inl g3))), (h0, .inr (6, [v0, v1, v2, v3, v4, .ref ph, .ref t0, v7])), (t0, .inl (tc, 7, .inl tg_266))] H := hP
                have hD : va_D A [(ph, .inl (pc, 4, .inr (.inr (.inr (.inr pf))))), (p0, .inr (0, [.int b0, .int z0, .ref n0])), (n0, .inl (nc0, 40, .inr (.inl g0))), (p1, .inr (0, [.int b1, .int z1, .ref n1])), (n1, .inl (nc1, 40, .inr (.inl g1))), (p2, .inr (0, [.int b2, .int z2, .ref n2])), (n2, .inl (nc2, 40, .inr (.inl g2))), (p3, .inr (0, [.int b3, .int z3, .ref n3])), (n3, .inl (nc3, 40, .inr (.inl g3))), (h0, .inr (6, [v0, v1, v2, v3, v4, .ref ph, .ref t0, v7])), (t0, .inl (tc, 7, .inl tg_266))] := hD
                subst hw
                have hP9 := hP.sub (ws' := [(h0, .inr (6, [v0, v1, v2, v3, v4, .ref ph, .ref t0, v7])), (t0, .inl (tc, 7, .inl tg_266)), (ph, .inl (pc, 4, .inr (.inr (.inr (.inr pf))))), (p0, .inr (0, [.int b0, .int z0, .ref n0])), (n0, .inl (nc0, 40, .inr (.inl g0))), (p1, .inr (0, [.int b1, .int z1, .ref n1])), (n1, .inl (nc1, 40, .inr (.inl g1))), (p2, .inr (0, [.int b2, .int z2, .ref n2])), (n2, .inl (nc2, 40, .inr (.inl g2))), (p3, .inr (0, [.int b3, .int z3, .ref n3])), (n3, .inl (nc3, 40, .inr (.inl g3)))]) [9, 10, 0, 1, 2, 3, 4, 5, 6, 7, 8] rfl
                have hD9 := hD.sub (ws' := [(h0, .inr (6, [v0, v1, v2, v3, v4, .ref ph, .ref t0, v7])), (t0, .inl (tc, 7, .inl tg_266)), (ph, .inl (pc, 4, .inr (.inr (.inr (.inr pf))))), (p0, .inr (0, [.int b0, .int z0, .ref n0])), (n0, .inl (nc0, 40, .inr (.inl g0))), (p1, .inr (0, [.int b1, .int z1, .ref n1])), (n1, .inl (nc1, 40, .inr (.inl g1))), (p2, .inr (0, [.int b2, .int z2, .ref n2])), (n2, .inl (nc2, 40, .inr (.inl g2))), (p3, .inr (0, [.int b3, .int z3, .ref n3])), (n3, .inl (nc3, 40, .inr (.inl g3)))]) [9, 10, 0, 1, 2, 3, 4, 5, 6, 7, 8] (by decide) rfl
                have hK9 := hK.sub (tys' := [(tc, .int), (pc, .object "LampShapes$Paper"), (nc0, .long), (nc1, .long), (nc2, .long), (nc3, .long)]) [0, 1, 2, 3, 4, 5] rfl
                exact W.iret (v := ((-1000000001) : Int32)) hx hb hr (fun t ht hW => ⟨⟨((-1000000001) : Int32), (), rfl, trivial, tg_266, g0, g1, g2, g3, by rw [ht]; exact hP9, va_K.moved hW.alike hK9, hD9⟩, hS.F ht⟩) hS.2.2 dX8_copy_104
          · skip
            have tc_257 : ¬ b2.toInt = b0.toInt := fun h => c_257 ((fa_eq _ _).mpr h)
            refine lv_aload_n hx hb dX8_copy_68 rfl (lv_at hl 2 rfl) ?_
            refine lv_ldc hx hb hown (hts _ (List.mem_of_getElem? (i := 29) rfl)) dX8_copy_69 ?_
            have hPc := hP.sub (ws' := [(h0, .inr (6, [v0, v1, v2, v3, v4, .ref ph, .ref t0, v7])), (t0, .inl (tc, 7, .inl tf))]) [0, 1] rfl
            have hKc := hK.sub (tys' := [(tc, .int)]) [0] rfl
            have hDc := hD.sub (ws' := [(h0, .inr (6, [v0, v1, v2, v3, v4, .ref ph, .ref t0, v7])), (t0, .inl (tc, 7, .inl tf))]) [0, 1] (by decide) rfl
            have hFc := va_free (wc := [(h0, .inr (6, [v0, v1, v2, v3, v4, .ref ph, .ref t0, v7])), (t0, .inl (tc, 7, .inl tf))]) hD hS hA [0, 1] rfl
            refine va_calli (va_runV (As := [.int (-1000000003)]) (rest := []) ⟨hx, hb, hml, hown, hts⟩ (f_kind l dC dI ad h0 v0 v1 v2 v3 v4 (.ref ph) t0 v7 tc tf s.heap.size ) (cwV 1 hts g_x_copy_f_kind_63 rfl rfl rfl (by decide +kernel) ⟨(Nat.le_of_ble_eq_true rfl), (Nat.le_of_ble_eq_true rfl)⟩) ⟨preM_blind, va_recv hKc hPc (ci := 6) (q0 := 0) rfl rfl, fun U hU hW => ⟨rfl, preM_at hU hW hPc hKc hDc hev⟩⟩ rfl rfl hl.1 rfl (lv_room (Nat.le_of_ble_eq_true rfl)) dX8_copy_71 ⟨(Nat.le_of_ble_eq_true rfl), (Nat.le_of_ble_eq_true rfl)⟩) hS (fun q _ h => hFc q h) hFc (fun r_267 u t H1 locs ht hvm hw hB hz1 hk1 hS => ?_)
            obtain ⟨tg_268, hP1, hK1, hD1⟩ := hB
            rw [ht] at hP1
            have hK1 := va_K.moved hvm.symm hK1
            obtain ⟨hP, hD⟩ := va_join (wr := [(ph, .inl (pc, 4, .inr (.inr (.inr (.inr pf))))), (p0, .inr (0, [.int b0, .int z0, .ref n0])), (n0, .inl (nc0, 40, .inr (.inl g0))), (p1, .inr (0, [.int b1, .int z1, .ref n1])), (n1, .inl (nc1, 40, .inr (.inl g1))), (p2, .inr (0, [.int b2, .int z2, .ref n2])), (n2, .inl (nc2, 40, .inr (.inl g2))), (p3, .inr (0, [.int b3, .int z3, .ref n3])), (n3, .inl (nc3, 40, .inr (.inl g3)))]) (w1 := [(h0, .inr (6, [v0, v1, v2, v3, v4, .ref ph, .ref t0, v7])), (t0, .inl (tc, 7, .inl tg_268))]) hP hD [0, 1] [2, 3, 4, 5, 6, 7, 8, 9, 10] rfl rfl (by decide) (by decide) hk1 hFc hP1 hD1
            generalize H1 = H at hP hS ⊢
            have hP : va_P (dC, dI) vwCl [(ph, .inl (pc, 4, .inr (.inr (.inr (.inr pf))))), (p0, .inr (0, [.int b0, .int z0, .ref n0])), (n0, .inl (nc0, 40, .inr (.inl g0))), (p1, .inr (0, [.int b1, .int z1, .ref n1])), (n1, .inl (nc1, 40, .inr (.inl g1))), (p2, .inr (0, [.int b2, .int z2, .ref n2])), (n2, .inl (nc2, 40, .inr (.inl g2))), (p3, .inr (0, [.int b3, .int z3, .ref n3])), (n3, .inl (nc3, 40, .inr (.inl g3))), (h0, .inr (6, [v0, v1, v2, v3, v4, .ref ph, .ref t0, v7])), (t0, .inl (tc, 7, .inl tg_268))] H := hP
            have hD : va_D A [(ph, .inl (pc, 4, .inr (.inr (.inr (.inr pf))))), (p0, .inr (0, [.int b0, .int z0, .ref n0])), (n0, .inl (nc0, 40, .inr (.inl g0))), (p1, .inr (0, [.int b1, .int z1, .ref n1])), (n1, .inl (nc1, 40, .inr (.inl g1))), (p2, .inr (0, [.int b2, .int z2, .ref n2])), (n2, .inl (nc2, 40, .inr (.inl g2))), (p3, .inr (0, [.int b3, .int z3, .ref n3])), (n3, .inl (nc3, 40, .inr (.inl g3))), (h0, .inr (6, [v0, v1, v2, v3, v4, .ref ph, .ref t0, v7])), (t0, .inl (tc, 7, .inl tg_268))] := hD
            subst hw
            have hP9 := hP.sub (ws' := [(h0, .inr (6, [v0, v1, v2, v3, v4, .ref ph, .ref t0, v7])), (t0, .inl (tc, 7, .inl tg_268)), (ph, .inl (pc, 4, .inr (.inr (.inr (.inr pf))))), (p0, .inr (0, [.int b0, .int z0, .ref n0])), (n0, .inl (nc0, 40, .inr (.inl g0))), (p1, .inr (0, [.int b1, .int z1, .ref n1])), (n1, .inl (nc1, 40, .inr (.inl g1))), (p2, .inr (0, [.int b2, .int z2, .ref n2])), (n2, .inl (nc2, 40, .inr (.inl g2))), (p3, .inr (0, [.int b3, .int z3, .ref n3])), (n3, .inl (nc3, 40, .inr (.inl g3)))]) [9, 10, 0, 1, 2, 3, 4, 5, 6, 7, 8] rfl
            have hD9 := hD.sub (ws' := [(h0, .inr (6, [v0, v1, v2, v3, v4, .ref ph, .ref t0, v7])), (t0, .inl (tc, 7, .inl tg_268)), (ph, .inl (pc, 4, .inr (.inr (.inr (.inr pf))))), (p0, .inr (0, [.int b0, .int z0, .ref n0])), (n0, .inl (nc0, 40, .inr (.inl g0))), (p1, .inr (0, [.int b1, .int z1, .ref n1])), (n1, .inl (nc1, 40, .inr (.inl g1))), (p2, .inr (0, [.int b2, .int z2, .ref n2])), (n2, .inl (nc2, 40, .inr (.inl g2))), (p3, .inr (0, [.int b3, .int z3, .ref n3])), (n3, .inl (nc3, 40, .inr (.inl g3)))]) [9, 10, 0, 1, 2, 3, 4, 5, 6, 7, 8] (by decide) rfl
            have hK9 := hK.sub (tys' := [(tc, .int), (pc, .object "LampShapes$Paper"), (nc0, .long), (nc1, .long), (nc2, .long), (nc3, .long)]) [0, 1, 2, 3, 4, 5] rfl
            exact W.iret (v := ((-1000000003) : Int32)) hx hb hr (fun t ht hW => ⟨⟨((-1000000003) : Int32), (), rfl, trivial, tg_268, g0, g1, g2, g3, by rw [ht]; exact hP9, va_K.moved hW.alike hK9, hD9⟩, hS.F ht⟩) hS.2.2 dX8_copy_74
        · skip
          have tc_256 : ¬ r_255.toInt = 0 := fun h => c_256 ((fa_eq _ _).mpr h)
          refine lv_aload_n hx hb dX8_copy_47 rfl (lv_at hl 2 rfl) ?_
          refine lv_ldcw hx hb hown (hts _ (List.mem_of_getElem? (i := 19) rfl)) dX8_copy_48 ?_
          have hPc := hP.sub (ws' := [(h0, .inr (6, [v0, v1, v2, v3, v4, .ref ph, .ref t0, v7])), (t0, .inl (tc, 7, .inl tf))]) [0, 1] rfl
          have hKc := hK.sub (tys' := [(tc, .int)]) [0] rfl
          have hDc := hD.sub (ws' := [(h0, .inr (6, [v0, v1, v2, v3, v4, .ref ph, .ref t0, v7])), (t0, .inl (tc, 7, .inl tf))]) [0, 1] (by decide) rfl
          have hFc := va_free (wc := [(h0, .inr (6, [v0, v1, v2, v3, v4, .ref ph, .ref t0, v7])), (t0, .inl (tc, 7, .inl tf))]) hD hS hA [0, 1] rfl
          refine va_calli (va_runV (As := [.int (-1000000006)]) (rest := []) ⟨hx, hb, hml, hown, hts⟩ (f_missing l dC dI ad h0 v0 v1 v2 v3 v4 (.ref ph) t0 v7 tc tf s.heap.size ) (cwV 1 hts g_x_copy_f_missing_63 rfl rfl rfl (by decide +kernel) ⟨(Nat.le_of_ble_eq_true rfl), (Nat.le_of_ble_eq_true rfl)⟩) ⟨preM_blind, va_recv hKc hPc (ci := 6) (q0 := 0) rfl rfl, fun U hU hW => ⟨rfl, preM_at hU hW hPc hKc hDc hev⟩⟩ rfl rfl hl.1 rfl (lv_room (Nat.le_of_ble_eq_true rfl)) dX8_copy_51 ⟨(Nat.le_of_ble_eq_true rfl), (Nat.le_of_ble_eq_true rfl)⟩) hS (fun q _ h => hFc q h) hFc (fun r_269 u t H1 locs ht hvm hw hB hz1 hk1 hS => ?_)
          obtain ⟨tg_270, hP1, hK1, hD1⟩ := hB
          rw [ht] at hP1
          have hK1 := va_K.moved hvm.symm hK1
          obtain ⟨hP, hD⟩ := va_join (wr := [(ph, .inl (pc, 4, .inr (.inr (.inr (.inr pf))))), (p0, .inr (0, [.int b0, .int z0, .ref n0])), (n0, .inl (nc0, 40, .inr (.inl g0))), (p1, .inr (0, [.int b1, .int z1, .ref n1])), (n1, .inl (nc1, 40, .inr (.inl g1))), (p2, .inr (0, [.int b2, .int z2, .ref n2])), (n2, .inl (nc2, 40, .inr (.inl g2))), (p3, .inr (0, [.int b3, .int z3, .ref n3])), (n3, .inl (nc3, 40, .inr (.inl g3)))]) (w1 := [(h0, .inr (6, [v0, v1, v2, v3, v4, .ref ph, .ref t0, v7])), (t0, .inl (tc, 7, .inl tg_270))]) hP hD [0, 1] [2, 3, 4, 5, 6, 7, 8, 9, 10] rfl rfl (by decide) (by decide) hk1 hFc hP1 hD1
          generalize H1 = H at hP hS ⊢
          have hP : va_P (dC, dI) vwCl [(ph, .inl (pc, 4, .inr (.inr (.inr (.inr pf))))), (p0, .inr (0, [.int b0, .int z0, .ref n0])), (n0, .inl (nc0, 40, .inr (.inl g0))), (p1, .inr (0, [.int b1, .int z1, .ref n1])), (n1, .inl (nc1, 40, .inr (.inl g1))), (p2, .inr (0, [.int b2, .int z2, .ref n2])), (n2, .inl (nc2, 40, .inr (.inl g2))), (p3, .inr (0, [.int b3, .int z3, .ref n3])), (n3, .inl (nc3, 40, .inr (.inl g3))), (h0, .inr (6, [v0, v1, v2, v3, v4, .ref ph, .ref t0, v7])), (t0, .inl (tc, 7, .inl tg_270))] H := hP
          have hD : va_D A [(ph, .inl (pc, 4, .inr (.inr (.inr (.inr pf))))), (p0, .inr (0, [.int b0, .int z0, .ref n0])), (n0, .inl (nc0, 40, .inr (.inl g0))), (p1, .inr (0, [.int b1, .int z1, .ref n1])), (n1, .inl (nc1, 40, .inr (.inl g1))), (p2, .inr (0, [.int b2, .int z2, .ref n2])), (n2, .inl (nc2, 40, .inr (.inl g2))), (p3, .inr (0, [.int b3, .int z3, .ref n3])), (n3, .inl (nc3, 40, .inr (.inl g3))), (h0, .inr (6, [v0, v1, v2, v3, v4, .ref ph, .ref t0, v7])), (t0, .inl (tc, 7, .inl tg_270))] := hD
          subst hw
          have hP9 := hP.sub (ws' := [(h0, .inr (6, [v0, v1, v2, v3, v4, .ref ph, .ref t0, v7])), (t0, .inl (tc, 7, .inl tg_270)), (ph, .inl (pc, 4, .inr (.inr (.inr (.inr pf))))), (p0, .inr (0, [.int b0, .int z0, .ref n0])), (n0, .inl (nc0, 40, .inr (.inl g0))), (p1, .inr (0, [.int b1, .int z1, .ref n1])), (n1, .inl (nc1, 40, .inr (.inl g1))), (p2, .inr (0, [.int b2, .int z2, .ref n2])), (n2, .inl (nc2, 40, .inr (.inl g2))), (p3, .inr (0, [.int b3, .int z3, .ref n3])), (n3, .inl (nc3, 40, .inr (.inl g3)))]) [9, 10, 0, 1, 2, 3, 4, 5, 6, 7, 8] rfl
          have hD9 := hD.sub (ws' := [(h0, .inr (6, [v0, v1, v2, v3, v4, .ref ph, .ref t0, v7])), (t0, .inl (tc, 7, .inl tg_270)), (ph, .inl (pc, 4, .inr (.inr (.inr (.inr pf))))), (p0, .inr (0, [.int b0, .int z0, .ref n0])), (n0, .inl (nc0, 40, .inr (.inl g0))), (p1, .inr (0, [.int b1, .int z1, .ref n1])), (n1, .inl (nc1, 40, .inr (.inl g1))), (p2, .inr (0, [.int b2, .int z2, .ref n2])), (n2, .inl (nc2, 40, .inr (.inl g2))), (p3, .inr (0, [.int b3, .int z3, .ref n3])), (n3, .inl (nc3, 40, .inr (.inl g3)))]) [9, 10, 0, 1, 2, 3, 4, 5, 6, 7, 8] (by decide) rfl
          have hK9 := hK.sub (tys' := [(tc, .int), (pc, .object "LampShapes$Paper"), (nc0, .long), (nc1, .long), (nc2, .long), (nc3, .long)]) [0, 1, 2, 3, 4, 5] rfl
          exact W.iret (v := ((-1000000006) : Int32)) hx hb hr (fun t ht hW => ⟨⟨((-1000000006) : Int32), (), rfl, trivial, tg_270, g0, g1, g2, g3, by rw [ht]; exact hP9, va_K.moved hW.alike hK9, hD9⟩, hS.F ht⟩) hS.2.2 dX8_copy_54
    · skip
      refine Met.ofW (cc := cX8_copy) (maxL := 8) (ret := (some .int)) (by decide) rfl ?_
      intro p e s m args below meth c s₁ B hml hv
      obtain ⟨rfl, hsz, hP, hK, hD0, hev⟩ := hv
      have hx := B.exec
      have hb := B.bytes
      have hr := B.returns
      have hts := atoms_spec (ws := w_x_copy) B.pre
      have hown : s.vm.findClass RX8 = some m.cls := findClass_of_methodNamed B.named
      have hlocks := B.notSynchronized
      have inX8 : ∀ w ∈ wsX80, w ∈ w_x_copy := fun w h => List.mem_cons_of_mem _ (List.mem_append_left _ (List.mem_append_right _ h))
      have inX2 : ∀ w ∈ wsX20, w ∈ w_x_copy := fun w h => List.mem_cons_of_mem _ (List.mem_append_right _ h)
      subst hsz
      have hD := hD0.self (sz := s.heap.size)
      generalize hAe : va_A [(h0, .inr (6, [v0, v1, v2, v3, v4, .ref ph, .ref t0, v7])), (t0, .inl (tc, 7, .inl tf)), (ph, .inl (pc, 4, .inr (.inr (.inr (.inr pf))))), (p0, .inr (0, [.int b0, .int z0, .ref n0])), (n0, .inl (nc0, 40, .inr (.inl g0))), (p1, .inr (0, [.int b1, .int z1, .ref n1])), (n1, .inl (nc1, 40, .inr (.inl g1))), (p2, .inr (0, [.int b2, .int z2, .ref n2])), (n2, .inl (nc2, 40, .inr (.inl g2))), (p3, .inr (0, [.int b3, .int z3, .ref n3])), (n3, .inl (nc3, 40, .inr (.inl g3)))] s.heap.size = A at hD ⊢
      have hA : ∀ q : Nat, s.heap.size ≤ q → A q := fun q h => by rw [← hAe]; exact Or.inr h
      have hS : va_S A s.heap s.heap [] := va_S.rf
      have hP : va_P (dC, dI) vwCl [(h0, .inr (6, [v0, v1, v2, v3, v4, .ref ph, .ref t0, v7])), (t0, .inl (tc, 7, .inl tf)), (ph, .inl (pc, 4, .inr (.inr (.inr (.inr pf))))), (p0, .inr (0, [.int b0, .int z0, .ref n0])), (n0, .inl (nc0, 40, .inr (.inl g0))), (p1, .inr (0, [.int b1, .int z1, .ref n1])), (n1, .inl (nc1, 40, .inr (.inl g1))), (p2, .inr (0, [.int b2, .int z2, .ref n2])), (n2, .inl (nc2, 40, .inr (.inl g2))), (p3, .inr (0, [.int b3, .int z3, .ref n3])), (n3, .inl (nc3, 40, .inr (.inl g3)))] s.heap := hP
      have hl := lv_entry ([.ref h0, .int 2, .int i, .int 1, .int j, .int n]) (n := 8) (Nat.le_of_ble_eq_true rfl)
      rw [lg_entry_eq]
      generalize (lg_sl ([.ref h0, .int 2, .int i, .int 1, .int j, .int n]) ++ List.replicate (8 - (lg_sl ([.ref h0, .int 2, .int i, .int 1, .int j, .int n])).length) Slot.unset).toArray = ls at hl ⊢
      have hl : lv_has ls 8 [(0, .ref h0), (1, .int 2), (2, .int i), (3, .int 1), (4, .int j), (5, .int n)] := hl
      refine lv_aload_n hx hb dX8_copy_0 rfl (lv_at hl 0 rfl) ?_
      refine lv_iload_n hx hb dX8_copy_1 rfl (lv_at hl 1 rfl) ?_
      have hPc := hP.sub (ws' := [(h0, .inr (6, [v0, v1, v2, v3, v4, .ref ph, .ref t0, v7])), (ph, .inl (pc, 4, .inr (.inr (.inr (.inr pf)))))]) [0, 2] rfl
      have hKc := hK.sub (tys' := [(pc, .object "LampShapes$Paper")]) [1] rfl
      refine va_csq (W.runV (As := [.int 2]) (rest := []) ⟨hx, hb, hml, hown, hts⟩ (c_paperAt_2 l dC dI ad h0 v0 v1 v2 v3 v4 ph (.ref t0) v7 pc pf p2 hp2) (cwV 1 hts g_x_copy_c_paperAt_2_256 rfl rfl rfl (by decide +kernel) ⟨(Nat.le_of_ble_eq_true rfl), (Nat.le_of_ble_eq_true rfl)⟩) ⟨preS_blind, va_recv hKc hPc (ci := 6) (q0 := 0) rfl rfl, fun U hU hW => ⟨rfl, preS_at hU hW hPc hKc hev⟩⟩ rfl rfl hl.1 rfl (lv_room (Nat.le_of_ble_eq_true rfl)) dX8_copy_2 ⟨(Nat.le_of_ble_eq_true rfl), (Nat.le_of_ble_eq_true rfl)⟩) (fun r_271 hw => ?_)
      subst hw
      refine pp_tv (y := .ref p2) rfl ?_
      refine lv_astore (lv' := [(6, .ref p2), (0, .ref h0), (1, .int 2), (2, .int i), (3, .int 1), (4, .int j), (5, .int n)]) hx hb dX8_copy_5 hl (by decide) rfl (fun ls hl => ?_)
      refine lv_aload_n hx hb dX8_copy_7 rfl (lv_at hl 1 rfl) ?_
      refine lv_iload_n hx hb dX8_copy_8 rfl (lv_at hl 4 rfl) ?_
      have hPc := hP.sub (ws' := [(h0, .inr (6, [v0, v1, v2, v3, v4, .ref ph, .ref t0, v7])), (ph, .inl (pc, 4, .inr (.inr (.inr (.inr pf)))))]) [0, 2] rfl
      have hKc := hK.sub (tys' := [(pc, .object "LampShapes$Paper")]) [1] rfl
      refine va_csq (W.runV (As := [.int 1]) (rest := []) ⟨hx, hb, hml, hown, hts⟩ (c_paperAt_1 l dC dI ad h0 v0 v1 v2 v3 v4 ph (.ref t0) v7 pc pf p1 hp1) (cwV 1 hts g_x_copy_c_paperAt_1_256 rfl rfl rfl (by decide +kernel) ⟨(Nat.le_of_ble_eq_true rfl), (Nat.le_of_ble_eq_true rfl)⟩) ⟨preS_blind, va_recv hKc hPc (ci := 6) (q0 := 0) rfl rfl, fun U hU hW => ⟨rfl, preS_at hU hW hPc hKc hev⟩⟩ rfl rfl hl.1 rfl (lv_room (Nat.le_of_ble_eq_true rfl)) dX8_copy_9 ⟨(Nat.le_of_ble_eq_true rfl), (Nat.le_of_ble_eq_true rfl)⟩) (fun r_272 hw => ?_)
      subst hw
      refine pp_tv (y := .ref p1) rfl ?_
      refine lv_astore (lv' := [(7, .ref p1), (6, .ref p2), (0, .ref h0), (1, .int 2), (2, .int i), (3, .int 1), (4, .int j), (5, .int n)]) hx hb dX8_copy_12 hl (by decide) rfl (fun ls hl => ?_)
      refine lv_aload hx hb dX8_copy_14 (lv_at hl 1 rfl) ?_
      refine lv_ifnull hx hb dX8_copy_16 ?_
      refine lv_aload hx hb dX8_copy_19 (lv_at hl 0 rfl) ?_
      refine lv_ifnonnull (tgt := 31) hx hb dX8_copy_21 (by decide) ?_
      refine lv_aload hx hb dX8_copy_31 (lv_at hl 1 rfl) ?_
      have hPc := hP.sub (ws' := [(p2, .inr (0, [.int b2, .int z2, .ref n2]))]) [7] rfl
      have hKc := hK.sub (tys' := []) [] rfl
      refine vp_callSi (W.runV (As := []) (rest := []) ⟨hx, hb, hml, hown, hts⟩ (p_isMissing l dC dI ad p2 b2 (.int z2) (.ref n2) ) (cwV 0 hts g_x_copy_p_isMissing_268 rfl rfl rfl (by decide +kernel) ⟨(Nat.le_of_ble_eq_true rfl), (Nat.le_of_ble_eq_true rfl)⟩) ⟨preS_blind, va_recv hKc hPc (ci := 0) (q0 := 0) rfl rfl, fun U hU hW => ⟨rfl, preS_at hU hW hPc hKc hev⟩⟩ rfl rfl hl.1 rfl (lv_room (Nat.le_of_ble_eq_true rfl)) dX8_copy_33 ⟨(Nat.le_of_ble_eq_true rfl), (Nat.le_of_ble_eq_true rfl)⟩) (fun r_273 hw => ?_)
      have hr_273 : (r_273.toInt = 1 ∧ b2.toInt = 0) ∨ (r_273.toInt = 0 ∧ ¬ b2.toInt = 0) := hw
      refine lv_if_ne (tgt := 47) hx hb dX8_copy_36 (by decide) (fun c_274 => ?_) (fun c_274 => ?_)
      · skip
        have tc_274 : ¬ r_273.toInt = 0 := fun h => c_274 ((fa_eq _ _).mpr h)
        refine lv_aload_n hx hb dX8_copy_47 rfl (lv_at hl 2 rfl) ?_
        refine lv_ldcw hx hb hown (hts _ (List.mem_of_getElem? (i := 19) rfl)) dX8_copy_48 ?_
        have hPc := hP.sub (ws' := [(h0, .inr (6, [v0, v1, v2, v3, v4, .ref ph, .ref t0, v7])), (t0, .inl (tc, 7, .inl tf))]) [0, 1] rfl
        have hKc := hK.sub (tys' := [(tc, .int)]) [0] rfl
        have hDc := hD.sub (ws' := [(h0, .inr (6, [v0, v1, v2, v3, v4, .ref ph, .ref t0, v7])), (t0, .inl (tc, 7, .inl tf))]) [0, 1] (by decide) rfl
        have hFc := va_free (wc := [(h0, .inr (6, [v0, v1, v2, v3, v4, .ref ph, .ref t0, v7])), (t0, .inl (tc, 7, .inl tf))]) hD hS hA [0, 1] rfl
        refine va_calli (va_runV (As := [.int (-1000000006)]) (rest := []) ⟨hx, hb, hml, hown, hts⟩ (f_missing l dC dI ad h0 v0 v1 v2 v3 v4 (.ref ph) t0 v7 tc tf s.heap.size ) (cwV 1 hts g_x_copy_f_missing_63 rfl rfl rfl (by decide +kernel) ⟨(Nat.le_of_ble_eq_true rfl), (Nat.le_of_ble_eq_true rfl)⟩) ⟨preM_blind, va_recv hKc hPc (ci := 6) (q0 := 0) rfl rfl, fun U hU hW => ⟨rfl, preM_at hU hW hPc hKc hDc hev⟩⟩ rfl rfl hl.1 rfl (lv_room (Nat.le_of_ble_eq_true rfl)) dX8_copy_51 ⟨(Nat.le_of_ble_eq_true rfl), (Nat.le_of_ble_eq_true rfl)⟩) hS (fun q _ h => hFc q h) hFc (fun r_275 u t H1 locs ht hvm hw hB hz1 hk1 hS => ?_)
        obtain ⟨tg_276, hP1, hK1, hD1⟩ := hB
        rw [ht] at hP1
        have hK1 := va_K.moved hvm.symm hK1
        obtain ⟨hP, hD⟩ := va_join (wr := [(ph, .inl (pc, 4, .inr (.inr (.inr (.inr pf))))), (p0, .inr (0, [.int b0, .int z0, .ref n0])), (n0, .inl (nc0, 40, .inr (.inl g0))), (p1, .inr (0, [.int b1, .int z1, .ref n1])), (n1, .inl (nc1, 40, .inr (.inl g1))), (p2, .inr (0, [.int b2, .int z2, .ref n2])), (n2, .inl (nc2, 40, .inr (.inl g2))), (p3, .inr (0, [.int b3, .int z3, .ref n3])), (n3, .inl (nc3, 40, .inr (.inl g3)))]) (w1 := [(h0, .inr (6, [v0, v1, v2, v3, v4, .ref ph, .ref t0, v7])), (t0, .inl (tc, 7, .inl tg_276))]) hP hD [0, 1] [2, 3, 4, 5, 6, 7, 8, 9, 10] rfl rfl (by decide) (by decide) hk1 hFc hP1 hD1
        generalize H1 = H at hP hS ⊢
        have hP : va_P (dC, dI) vwCl [(ph, .inl (pc, 4, .inr (.inr (.inr (.inr pf))))), (p0, .inr (0, [.int b0, .int z0, .ref n0])), (n0, .inl (nc0, 40, .inr (.inl g0))), (p1, .inr (0, [.int b1, .int z1, .ref n1])), (n1, .inl (nc1, 40, .inr (.inl g1))), (p2, .inr (0, [.int b2, .int z2, .ref n2])), (n2, .inl (nc2, 40, .inr (.inl g2))), (p3, .inr (0, [.int b3, .int z3, .ref n3])), (n3, .inl (nc3, 40, .inr (.inl g3))), (h0, .inr (6, [v0, v1, v2, v3, v4, .ref ph, .ref t0, v7])), (t0, .inl (tc, 7, .inl tg_276))] H := hP
        have hD : va_D A [(ph, .inl (pc, 4, .inr (.inr (.inr (.inr pf))))), (p0, .inr (0, [.int b0, .int z0, .ref n0])), (n0, .inl (nc0, 40, .inr (.inl g0))), (p1, .inr (0, [.int b1, .int z1, .ref n1])), (n1, .inl (nc1, 40, .inr (.inl g1))), (p2, .inr (0, [.int b2, .int z2, .ref n2])), (n2, .inl (nc2, 40, .inr (.inl g2))), (p3, .inr (0, [.int b3, .int z3, .ref n3])), (n3, .inl (nc3, 40, .inr (.inl g3))), (h0, .inr (6, [v0, v1, v2, v3, v4, .ref ph, .ref t0, v7])), (t0, .inl (tc, 7, .inl tg_276))] := hD
        subst hw
        have hP9 := hP.sub (ws' := [(h0, .inr (6, [v0, v1, v2, v3, v4, .ref ph, .ref t0, v7])), (t0, .inl (tc, 7, .inl tg_276)), (ph, .inl (pc, 4, .inr (.inr (.inr (.inr pf))))), (p0, .inr (0, [.int b0, .int z0, .ref n0])), (n0, .inl (nc0, 40, .inr (.inl g0))), (p1, .inr (0, [.int b1, .int z1, .ref n1])), (n1, .inl (nc1, 40, .inr (.inl g1))), (p2, .inr (0, [.int b2, .int z2, .ref n2])), (n2, .inl (nc2, 40, .inr (.inl g2))), (p3, .inr (0, [.int b3, .int z3, .ref n3])), (n3, .inl (nc3, 40, .inr (.inl g3)))]) [9, 10, 0, 1, 2, 3, 4, 5, 6, 7, 8] rfl
        have hD9 := hD.sub (ws' := [(h0, .inr (6, [v0, v1, v2, v3, v4, .ref ph, .ref t0, v7])), (t0, .inl (tc, 7, .inl tg_276)), (ph, .inl (pc, 4, .inr (.inr (.inr (.inr pf))))), (p0, .inr (0, [.int b0, .int z0, .ref n0])), (n0, .inl (nc0, 40, .inr (.inl g0))), (p1, .inr (0, [.int b1, .int z1, .ref n1])), (n1, .inl (nc1, 40, .inr (.inl g1))), (p2, .inr (0, [.int b2, .int z2, .ref n2])), (n2, .inl (nc2, 40, .inr (.inl g2))), (p3, .inr (0, [.int b3, .int z3, .ref n3])), (n3, .inl (nc3, 40, .inr (.inl g3)))]) [9, 10, 0, 1, 2, 3, 4, 5, 6, 7, 8] (by decide) rfl
        have hK9 := hK.sub (tys' := [(tc, .int), (pc, .object "LampShapes$Paper"), (nc0, .long), (nc1, .long), (nc2, .long), (nc3, .long)]) [0, 1, 2, 3, 4, 5] rfl
        exact W.iret (v := ((-1000000006) : Int32)) hx hb hr (fun t ht hW => ⟨⟨((-1000000006) : Int32), (), rfl, trivial, tg_276, g0, g1, g2, g3, by rw [ht]; exact hP9, va_K.moved hW.alike hK9, hD9⟩, hS.F ht⟩) hS.2.2 dX8_copy_54
      · skip
        have tc_274 : r_273.toInt = 0 := (fa_eq _ _).mp c_274
        refine lv_aload hx hb dX8_copy_39 (lv_at hl 0 rfl) ?_
        have hPc := hP.sub (ws' := [(p1, .inr (0, [.int b1, .int z1, .ref n1]))]) [5] rfl
        have hKc := hK.sub (tys' := []) [] rfl
        refine vp_callSi (W.runV (As := []) (rest := []) ⟨hx, hb, hml, hown, hts⟩ (p_isMissing l dC dI ad p1 b1 (.int z1) (.ref n1) ) (cwV 0 hts g_x_copy_p_isMissing_268 rfl rfl rfl (by decide +kernel) ⟨(Nat.le_of_ble_eq_true rfl), (Nat.le_of_ble_eq_true rfl)⟩) ⟨preS_blind, va_recv hKc hPc (ci := 0) (q0 := 0) rfl rfl, fun U hU hW => ⟨rfl, preS_at hU hW hPc hKc hev⟩⟩ rfl rfl hl.1 rfl (lv_room (Nat.le_of_ble_eq_true rfl)) dX8_copy_41 ⟨(Nat.le_of_ble_eq_true rfl), (Nat.le_of_ble_eq_true rfl)⟩) (fun r_277 hw => ?_)
        have hr_277 : (r_277.toInt = 1 ∧ b1.toInt = 0) ∨ (r_277.toInt = 0 ∧ ¬ b1.toInt = 0) := hw
        refine lv_if_eq (tgt := 55) hx hb dX8_copy_44 (by decide) (fun c_278 => ?_) (fun c_278 => ?_)
        · skip
          have tc_278 : r_277.toInt = 0 := (fa_eq _ _).mp c_278
          refine lv_aload hx hb dX8_copy_55 (lv_at hl 1 rfl) ?_
          refine va_getN (D := (dC, dI)) (ci := 0) (v := .int b2) (C := RX2) (T := TX2) (N := 3) hx hb hts inX2 hown hK hP 7 rfl rfl 0 (by decide) (ev_nest hev 21 rfl) (fun _ h9 => h9) rfl dX8_copy_57 ?_
          refine lv_aload hx hb dX8_copy_60 (lv_at hl 0 rfl) ?_
          refine va_getN (D := (dC, dI)) (ci := 0) (v := .int b1) (C := RX2) (T := TX2) (N := 3) hx hb hts inX2 hown hK hP 5 rfl rfl 0 (by decide) (ev_nest hev 21 rfl) (fun _ h9 => h9) rfl dX8_copy_62 ?_
          have rc_279_x := pp_rng b2
          have rc_279_y := pp_rng b1
          refine lv_icmp_eq (tgt := 75) hx hb dX8_copy_65 (by decide) (fun c_279 => ?_) (fun c_279 => ?_)
          · skip
            have tc_279 : b2.toInt = b1.toInt := (fa_eq _ _).mp c_279
            refine lv_aload hx hb dX8_copy_75 (lv_at hl 1 rfl) ?_
            refine lv_iload_n hx hb dX8_copy_77 rfl (lv_at hl 4 rfl) ?_
            refine lv_iload hx hb dX8_copy_78 (lv_at hl 7 rfl) ?_
            have hPc := hP.sub (ws' := [(p2, .inr (0, [.int b2, .int z2, .ref n2]))]) [7] rfl
            have hKc := hK.sub (tys' := []) [] rfl
            refine vp_callSi (W.runV (As := [.int i, .int n]) (rest := []) ⟨hx, hb, hml, hown, hts⟩ (p_hasPart l dC dI ad p2 i n (.int b2) z2 (.ref n2) hz2) (cwV 2 hts g_x_copy_p_hasPart_282 rfl rfl rfl (by decide +kernel) ⟨(Nat.le_of_ble_eq_true rfl), (Nat.le_of_ble_eq_true rfl)⟩) ⟨preS_blind, va_recv hKc hPc (ci := 0) (q0 := 0) rfl rfl, fun U hU hW => ⟨rfl, preS_at hU hW hPc hKc hev⟩⟩ rfl rfl hl.1 rfl (lv_room (Nat.le_of_ble_eq_true rfl)) dX8_copy_80 ⟨(Nat.le_of_ble_eq_true rfl), (Nat.le_of_ble_eq_true rfl)⟩) (fun r_280 hw => ?_)
            have hr_280 : (r_280.toInt = 1 ∧ 0 ≤ i.toInt ∧ 0 ≤ n.toInt ∧ i.toInt + n.toInt ≤ z2.toInt) ∨ (r_280.toInt = 0 ∧ ¬ (0 ≤ i.toInt ∧ 0 ≤ n.toInt ∧ i.toInt + n.toInt ≤ z2.toInt)) := hw
            refine lv_if_eq (tgt := 98) hx hb dX8_copy_83 (by decide) (fun c_281 => ?_) (fun c_281 => ?_)
            · skip
              have tc_281 : r_280.toInt = 0 := (fa_eq _ _).mp c_281
              refine lv_aload_n hx hb dX8_copy_98 rfl (lv_at hl 2 rfl) ?_
              refine lv_ldc hx hb hown (hts _ (List.mem_of_getElem? (i := 6) rfl)) dX8_copy_99 ?_
              have hPc := hP.sub (ws' := [(h0, .inr (6, [v0, v1, v2, v3, v4, .ref ph, .ref t0, v7])), (t0, .inl (tc, 7, .inl tf))]) [0, 1] rfl
              have hKc := hK.sub (tys' := [(tc, .int)]) [0] rfl
              have hDc := hD.sub (ws' := [(h0, .inr (6, [v0, v1, v2, v3, v4, .ref ph, .ref t0, v7])), (t0, .inl (tc, 7, .inl tf))]) [0, 1] (by decide) rfl
              have hFc := va_free (wc := [(h0, .inr (6, [v0, v1, v2, v3, v4, .ref ph, .ref t0, v7])), (t0, .inl (tc, 7, .inl tf))]) hD hS hA [0, 1] rfl
              refine va_calli (va_runV (As := [.int (-1000000001)]) (rest := []) ⟨hx, hb, hml, hown, hts⟩ (f_beyond l dC dI ad h0 v0 v1 v2 v3 v4 (.ref ph) t0 v7 tc tf s.heap.size ) (cwV 1 hts g_x_copy_f_beyond_63 rfl rfl rfl (by decide +kernel) ⟨(Nat.le_of_ble_eq_true rfl), (Nat.le_of_ble_eq_true rfl)⟩) ⟨preM_blind, va_recv hKc hPc (ci := 6) (q0 := 0) rfl rfl, fun U hU hW => ⟨rfl, preM_at hU hW hPc hKc hDc hev⟩⟩ rfl rfl hl.1 rfl (lv_room (Nat.le_of_ble_eq_true rfl)) dX8_copy_101 ⟨(Nat.le_of_ble_eq_true rfl), (Nat.le_of_ble_eq_true rfl)⟩) hS (fun q _ h => hFc q h) hFc (fun r_282 u t H1 locs ht hvm hw hB hz1 hk1 hS => ?_)
              obtain ⟨tg_283, hP1, hK1, hD1⟩ := hB
              rw [ht] at hP1
              have hK1 := va_K.moved hvm.symm hK1
              obtain ⟨hP, hD⟩ := va_join (wr := [(ph, .inl (pc, 4, .inr (.inr (.inr (.inr pf))))), (p0, .inr (0, [.int b0, .int z0, .ref n0])), (n0, .inl (nc0, 40, .inr (.inl g0))), (p1, .inr (0, [.int b1, .int z1, .ref n1])), (n1, .inl (nc1, 40, .inr (.inl g1))), (p2, .inr (0, [.int b2, .int z2, .ref n2])), (n2, .inl (nc2, 40, .inr (.inl g2))), (p3, .inr (0, [.int b3, .int z3, .ref n3])), (n3, .inl (nc3, 40, .inr (.inl g3)))]) (w1 := [(h0, .inr (6, [v0, v1, v2, v3, v4, .ref ph, .ref t0, v7])), (t0, .inl (tc, 7, .inl tg_283))]) hP hD [0, 1] [2, 3, 4, 5, 6, 7, 8, 9, 10] rfl rfl (by decide) (by decide) hk1 hFc hP1 hD1
              generalize H1 = H at hP hS ⊢
              have hP : va_P (dC, dI) vwCl [(ph, .inl (pc, 4, .inr (.inr (.inr (.inr pf))))), (p0, .inr (0, [.int b0, .int z0, .ref n0])), (n0, .inl (nc0, 40, .inr (.inl g0))), (p1, .inr (0, [.int b1, .int z1, .ref n1])), (n1, .inl (nc1, 40, .inr (.inl g1))), (p2, .inr (0, [.int b2, .int z2, .ref n2])), (n2, .inl (nc2, 40, .inr (.inl g2))), (p3, .inr (0, [.int b3, .int z3, .ref n3])), (n3, .inl (nc3, 40, .inr (.inl g3))), (h0, .inr (6, [v0, v1, v2, v3, v4, .ref ph, .ref t0, v7])), (t0, .inl (tc, 7, .inl tg_283))] H := hP
              have hD : va_D A [(ph, .inl (pc, 4, .inr (.inr (.inr (.inr pf))))), (p0, .inr (0, [.int b0, .int z0, .ref n0])), (n0, .inl (nc0, 40, .inr (.inl g0))), (p1, .inr (0, [.int b1, .int z1, .ref n1])), (n1, .inl (nc1, 40, .inr (.inl g1))), (p2, .inr (0, [.int b2, .int z2, .ref n2])), (n2, .inl (nc2, 40, .inr (.inl g2))), (p3, .inr (0, [.int b3, .int z3, .ref n3])), (n3, .inl (nc3, 40, .inr (.inl g3))), (h0, .inr (6, [v0, v1, v2, v3, v4, .ref ph, .ref t0, v7])), (t0, .inl (tc, 7, .inl tg_283))] := hD
              subst hw
              have hP9 := hP.sub (ws' := [(h0, .inr (6, [v0, v1, v2, v3, v4, .ref ph, .ref t0, v7])), (t0, .inl (tc, 7, .inl tg_283)), (ph, .inl (pc, 4, .inr (.inr (.inr (.inr pf))))), (p0, .inr (0, [.int b0, .int z0, .ref n0])), (n0, .inl (nc0, 40, .inr (.inl g0))), (p1, .inr (0, [.int b1, .int z1, .ref n1])), (n1, .inl (nc1, 40, .inr (.inl g1))), (p2, .inr (0, [.int b2, .int z2, .ref n2])), (n2, .inl (nc2, 40, .inr (.inl g2))), (p3, .inr (0, [.int b3, .int z3, .ref n3])), (n3, .inl (nc3, 40, .inr (.inl g3)))]) [9, 10, 0, 1, 2, 3, 4, 5, 6, 7, 8] rfl
              have hD9 := hD.sub (ws' := [(h0, .inr (6, [v0, v1, v2, v3, v4, .ref ph, .ref t0, v7])), (t0, .inl (tc, 7, .inl tg_283)), (ph, .inl (pc, 4, .inr (.inr (.inr (.inr pf))))), (p0, .inr (0, [.int b0, .int z0, .ref n0])), (n0, .inl (nc0, 40, .inr (.inl g0))), (p1, .inr (0, [.int b1, .int z1, .ref n1])), (n1, .inl (nc1, 40, .inr (.inl g1))), (p2, .inr (0, [.int b2, .int z2, .ref n2])), (n2, .inl (nc2, 40, .inr (.inl g2))), (p3, .inr (0, [.int b3, .int z3, .ref n3])), (n3, .inl (nc3, 40, .inr (.inl g3)))]) [9, 10, 0, 1, 2, 3, 4, 5, 6, 7, 8] (by decide) rfl
              have hK9 := hK.sub (tys' := [(tc, .int), (pc, .object "LampShapes$Paper"), (nc0, .long), (nc1, .long), (nc2, .long), (nc3, .long)]) [0, 1, 2, 3, 4, 5] rfl
              exact W.iret (v := ((-1000000001) : Int32)) hx hb hr (fun t ht hW => ⟨⟨((-1000000001) : Int32), (), rfl, trivial, tg_283, g0, g1, g2, g3, by rw [ht]; exact hP9, va_K.moved hW.alike hK9, hD9⟩, hS.F ht⟩) hS.2.2 dX8_copy_104
            · skip
              have tc_281 : ¬ r_280.toInt = 0 := fun h => c_281 ((fa_eq _ _).mpr h)
              refine lv_aload hx hb dX8_copy_86 (lv_at hl 0 rfl) ?_
              refine lv_iload hx hb dX8_copy_88 (lv_at hl 6 rfl) ?_
              refine lv_iload hx hb dX8_copy_90 (lv_at hl 7 rfl) ?_
              have hPc := hP.sub (ws' := [(p1, .inr (0, [.int b1, .int z1, .ref n1]))]) [5] rfl
              have hKc := hK.sub (tys' := []) [] rfl
              refine vp_callSi (W.runV (As := [.int j, .int n]) (rest := []) ⟨hx, hb, hml, hown, hts⟩ (p_hasPart l dC dI ad p1 j n (.int b1) z1 (.ref n1) hz1) (cwV 2 hts g_x_copy_p_hasPart_282 rfl rfl rfl (by decide +kernel) ⟨(Nat.le_of_ble_eq_true rfl), (Nat.le_of_ble_eq_true rfl)⟩) ⟨preS_blind, va_recv hKc hPc (ci := 0) (q0 := 0) rfl rfl, fun U hU hW => ⟨rfl, preS_at hU hW hPc hKc hev⟩⟩ rfl rfl hl.1 rfl (lv_room (Nat.le_of_ble_eq_true rfl)) dX8_copy_92 ⟨(Nat.le_of_ble_eq_true rfl), (Nat.le_of_ble_eq_true rfl)⟩) (fun r_284 hw => ?_)
              have hr_284 : (r_284.toInt = 1 ∧ 0 ≤ j.toInt ∧ 0 ≤ n.toInt ∧ j.toInt + n.toInt ≤ z1.toInt) ∨ (r_284.toInt = 0 ∧ ¬ (0 ≤ j.toInt ∧ 0 ≤ n.toInt ∧ j.toInt + n.toInt ≤ z1.toInt)) := hw
              refine lv_if_ne (tgt := 105) hx hb dX8_copy_95 (by decide) (fun c_285 => ?_) (fun c_285 => ?_)
              · skip
                have tc_285 : ¬ r_284.toInt = 0 := fun h => c_285 ((fa_eq _ _).mpr h)
                refine lv_aload hx hb dX8_copy_105 (lv_at hl 1 rfl) ?_
                refine va_getN (D := (dC, dI)) (ci := 0) (v := .ref n2) (C := RX2) (T := TX2) (N := 3) hx hb hts inX2 hown hK hP 7 rfl rfl 2 (by decide) (ev_nest hev 23 rfl) (fun _ h9 => h9) rfl dX8_copy_107 ?_
                refine lv_iload_n hx hb dX8_copy_110 rfl (lv_at hl 4 rfl) ?_
                refine lv_aload hx hb dX8_copy_111 (lv_at hl 0 rfl) ?_
                refine va_getN (D := (dC, dI)) (ci := 0) (v := .ref n1) (C := RX2) (T := TX2) (N := 3) hx hb hts inX2 hown hK hP 5 rfl rfl 2 (by decide) (ev_nest hev 23 rfl) (fun _ h9 => h9) rfl dX8_copy_113 ?_
                refine lv_iload hx hb dX8_copy_116 (lv_at hl 6 rfl) ?_
                refine lv_iload hx hb dX8_copy_118 (lv_at hl 7 rfl) ?_
                refine va_copyl (ty := .long) hx hb (by rw [hml]; exact hl.1.symm) hown (hts _ (List.mem_of_getElem? (i := 25) rfl)) (hts _ (List.mem_of_getElem? (i := 26) rfl)) (hts _ (List.mem_of_getElem? (i := 27) rfl)) (hts _ (List.mem_of_getElem? (i := 28) rfl)) hK hP hD hS 8 6 4 3 rfl rfl rfl rfl rfl (fun h => absurd ((fa_lt _ _).mp h) (by show ¬ i.toInt < 0; omega)) (fun h => absurd ((fa_lt _ _).mp h) (by show ¬ j.toInt < 0; omega)) (fun h => absurd ((fa_lt _ _).mp h) (by show ¬ n.toInt < 0; omega)) (by show i.toInt.toNat + n.toInt.toNat ≤ 40; omega) (by show j.toInt.toNat + n.toInt.toNat ≤ 40; omega) (fun _ _ => rfl) (Nat.le_of_ble_eq_true rfl) (Nat.le_of_ble_eq_true rfl) dX8_copy_120 (fun H locs hP hD hS => ?_)
                generalize va_cpy g2 g1 i.toNatClampNeg j.toNatClampNeg n.toNatClampNeg = f_286 at hP hD
                have hP : va_P (dC, dI) vwCl [(h0, .inr (6, [v0, v1, v2, v3, v4, .ref ph, .ref t0, v7])), (t0, .inl (tc, 7, .inl tf)), (ph, .inl (pc, 4, .inr (.inr (.inr (.inr pf))))), (p0, .inr (0, [.int b0, .int z0, .ref n0])), (n0, .inl (nc0, 40, .inr (.inl g0))), (p1, .inr (0, [.int b1, .int z1, .ref n1])), (n1, .inl (nc1, 40, .inr (.inl f_286))), (p2, .inr (0, [.int b2, .int z2, .ref n2])), (n2, .inl (nc2, 40, .inr (.inl g2))), (p3, .inr (0, [.int b3, .int z3, .ref n3])), (n3, .inl (nc3, 40, .inr (.inl g3)))] H := hP
                have hD : va_D A [(h0, .inr (6, [v0, v1, v2, v3, v4, .ref ph, .ref t0, v7])), (t0, .inl (tc, 7, .inl tf)), (ph, .inl (pc, 4, .inr (.inr (.inr (.inr pf))))), (p0, .inr (0, [.int b0, .int z0, .ref n0])), (n0, .inl (nc0, 40, .inr (.inl g0))), (p1, .inr (0, [.int b1, .int z1, .ref n1])), (n1, .inl (nc1, 40, .inr (.inl f_286))), (p2, .inr (0, [.int b2, .int z2, .ref n2])), (n2, .inl (nc2, 40, .inr (.inl g2))), (p3, .inr (0, [.int b3, .int z3, .ref n3])), (n3, .inl (nc3, 40, .inr (.inl g3)))] := hD
                refine lv_iload hx hb dX8_copy_123 (lv_at hl 7 rfl) ?_
                have hP9 := hP.sub (ws' := [(h0, .inr (6, [v0, v1, v2, v3, v4, .ref ph, .ref t0, v7])), (t0, .inl (tc, 7, .inl tf)), (ph, .inl (pc, 4, .inr (.inr (.inr (.inr pf))))), (p0, .inr (0, [.int b0, .int z0, .ref n0])), (n0, .inl (nc0, 40, .inr (.inl g0))), (p1, .inr (0, [.int b1, .int z1, .ref n1])), (n1, .inl (nc1, 40, .inr (.inl f_286))), (p2, .inr (0, [.int b2, .int z2, .ref n2])), (n2, .inl (nc2, 40, .inr (.inl g2))), (p3, .inr (0, [.int b3, .int z3, .ref n3])), (n3, .inl (nc3, 40, .inr (.inl g3)))]) [0, 1, 2, 3, 4, 5, 6, 7, 8, 9, 10] rfl
                have hD9 := hD.sub (ws' := [(h0, .inr (6, [v0, v1, v2, v3, v4, .ref ph, .ref t0, v7])), (t0, .inl (tc, 7, .inl tf)), (ph, .inl (pc, 4, .inr (.inr (.inr (.inr pf))))), (p0, .inr (0, [.int b0, .int z0, .ref n0])), (n0, .inl (nc0, 40, .inr (.inl g0))), (p1, .inr (0, [.int b1, .int z1, .ref n1])), (n1, .inl (nc1, 40, .inr (.inl f_286))), (p2, .inr (0, [.int b2, .int z2, .ref n2])), (n2, .inl (nc2, 40, .inr (.inl g2))), (p3, .inr (0, [.int b3, .int z3, .ref n3])), (n3, .inl (nc3, 40, .inr (.inl g3)))]) [0, 1, 2, 3, 4, 5, 6, 7, 8, 9, 10] (by decide) rfl
                have hK9 := hK.sub (tys' := [(tc, .int), (pc, .object "LampShapes$Paper"), (nc0, .long), (nc1, .long), (nc2, .long), (nc3, .long)]) [0, 1, 2, 3, 4, 5] rfl
                exact W.iret (v := n) hx hb hr (fun t ht hW => ⟨⟨n, (), rfl, trivial, tf, g0, f_286, g2, g3, by rw [ht]; exact hP9, va_K.moved hW.alike hK9, hD9⟩, hS.F ht⟩) hS.2.2 dX8_copy_125
              · skip
                have tc_285 : r_284.toInt = 0 := (fa_eq _ _).mp c_285
                refine lv_aload_n hx hb dX8_copy_98 rfl (lv_at hl 2 rfl) ?_
                refine lv_ldc hx hb hown (hts _ (List.mem_of_getElem? (i := 6) rfl)) dX8_copy_99 ?_
                have hPc := hP.sub (ws' := [(h0, .inr (6, [v0, v1, v2, v3, v4, .ref ph, .ref t0, v7])), (t0, .inl (tc, 7, .inl tf))]) [0, 1] rfl
                have hKc := hK.sub (tys' := [(tc, .int)]) [0] rfl
                have hDc := hD.sub (ws' := [(h0, .inr (6, [v0, v1, v2, v3, v4, .ref ph, .ref t0, v7])), (t0, .inl (tc, 7, .inl tf))]) [0, 1] (by decide) rfl
                have hFc := va_free (wc := [(h0, .inr (6, [v0, v1, v2, v3, v4, .ref ph, .ref t0, v7])), (t0, .inl (tc, 7, .inl tf))]) hD hS hA [0, 1] rfl
                refine va_calli (va_runV (As := [.int (-1000000001)]) (rest := []) ⟨hx, hb, hml, hown, hts⟩ (f_beyond l dC dI ad h0 v0 v1 v2 v3 v4 (.ref ph) t0 v7 tc tf s.heap.size ) (cwV 1 hts g_x_copy_f_beyond_63 rfl rfl rfl (by decide +kernel) ⟨(Nat.le_of_ble_eq_true rfl), (Nat.le_of_ble_eq_true rfl)⟩) ⟨preM_blind, va_recv hKc hPc (ci := 6) (q0 := 0) rfl rfl, fun U hU hW => ⟨rfl, preM_at hU hW hPc hKc hDc hev⟩⟩ rfl rfl hl.1 rfl (lv_room (Nat.le_of_ble_eq_true rfl)) dX8_copy_101 ⟨(Nat.le_of_ble_eq_true rfl), (Nat.le_of_ble_eq_true rfl)⟩) hS (fun q _ h => hFc q h) hFc (fun r_287 u t H1 locs ht hvm hw hB hz1 hk1 hS => ?_)
                obtain ⟨tg_288, hP1, hK1, hD1⟩ := hB
                rw [ht] at hP1
                have hK1 := va_K.moved hvm.symm hK1
                obtain ⟨hP, hD⟩ := va_join (wr := [(ph, .inl (pc, 4, .inr (.inr (.inr (.inr pf))))), (p0, .inr (0, [.int b0, .int z0, .ref n0])), (n0, .inl (nc0, 40, .inr (.inl g0))), (p1, .inr (0, [.int b1, .int z1, .ref n1])), (n1, .inl (nc1, 40, .inr (.inl g1))), (p2, .inr (0, [.int b2, .int z2, .ref n2])), (n2, .inl (nc2, 40, .inr (.inl g2))), (p3, .inr (0, [.int b3, .int z3, .ref n3])), (n3, .inl (nc3, 40, .inr (.inl g3)))]) (w1 := [(h0, .inr (6, [v0, v1, v2, v3, v4, .ref ph, .ref t0, v7])), (t0, .inl (tc, 7, .inl tg_288))]) hP hD [0, 1] [2, 3, 4, 5, 6, 7, 8, 9, 10] rfl rfl (by decide) (by decide) hk1 hFc hP1 hD1
                generalize H1 = H at hP hS ⊢
                have hP : va_P (dC, dI) vwCl [(ph, .inl (pc, 4, .inr (.inr (.inr (.inr pf))))), (p0, .inr (0, [.int b0, .int z0, .ref n0])), (n0, .inl (nc0, 40, .inr (.inl g0))), (p1, .inr (0, [.int b1, .int z1, .ref n1])), (n1, .inl (nc1, 40, .inr (.inl g1))), (p2, .inr (0, [.int b2, .int z2, .ref n2])), (n2, .inl (nc2, 40, .inr (.inl g2))), (p3, .inr (0, [.int b3, .int z3, .ref n3])), (n3, .inl (nc3, 40, .inr (.inl g3))), (h0, .inr (6, [v0, v1, v2, v3, v4, .ref ph, .ref t0, v7])), (t0, .inl (tc, 7, .inl tg_288))] H := hP
                have hD : va_D A [(ph, .inl (pc, 4, .inr (.inr (.inr (.inr pf))))), (p0, .inr (0, [.int b0, .int z0, .ref n0])), (n0, .inl (nc0, 40, .inr (.inl g0))), (p1, .inr (0, [.int b1, .int z1, .ref n1])), (n1, .inl (nc1, 40, .inr (.inl g1))), (p2, .inr (0, [.int b2, .int z2, .ref n2])), (n2, .inl (nc2, 40, .inr (.inl g2))), (p3, .inr (0, [.int b3, .int z3, .ref n3])), (n3, .inl (nc3, 40, .inr (.inl g3))), (h0, .inr (6, [v0, v1, v2, v3, v4, .ref ph, .ref t0, v7])), (t0, .inl (tc, 7, .inl tg_288))] := hD
                subst hw
                have hP9 := hP.sub (ws' := [(h0, .inr (6, [v0, v1, v2, v3, v4, .ref ph, .ref t0, v7])), (t0, .inl (tc, 7, .inl tg_288)), (ph, .inl (pc, 4, .inr (.inr (.inr (.inr pf))))), (p0, .inr (0, [.int b0, .int z0, .ref n0])), (n0, .inl (nc0, 40, .inr (.inl g0))), (p1, .inr (0, [.int b1, .int z1, .ref n1])), (n1, .inl (nc1, 40, .inr (.inl g1))), (p2, .inr (0, [.int b2, .int z2, .ref n2])), (n2, .inl (nc2, 40, .inr (.inl g2))), (p3, .inr (0, [.int b3, .int z3, .ref n3])), (n3, .inl (nc3, 40, .inr (.inl g3)))]) [9, 10, 0, 1, 2, 3, 4, 5, 6, 7, 8] rfl
                have hD9 := hD.sub (ws' := [(h0, .inr (6, [v0, v1, v2, v3, v4, .ref ph, .ref t0, v7])), (t0, .inl (tc, 7, .inl tg_288)), (ph, .inl (pc, 4, .inr (.inr (.inr (.inr pf))))), (p0, .inr (0, [.int b0, .int z0, .ref n0])), (n0, .inl (nc0, 40, .inr (.inl g0))), (p1, .inr (0, [.int b1, .int z1, .ref n1])), (n1, .inl (nc1, 40, .inr (.inl g1))), (p2, .inr (0, [.int b2, .int z2, .ref n2])), (n2, .inl (nc2, 40, .inr (.inl g2))), (p3, .inr (0, [.int b3, .int z3, .ref n3])), (n3, .inl (nc3, 40, .inr (.inl g3)))]) [9, 10, 0, 1, 2, 3, 4, 5, 6, 7, 8] (by decide) rfl
                have hK9 := hK.sub (tys' := [(tc, .int), (pc, .object "LampShapes$Paper"), (nc0, .long), (nc1, .long), (nc2, .long), (nc3, .long)]) [0, 1, 2, 3, 4, 5] rfl
                exact W.iret (v := ((-1000000001) : Int32)) hx hb hr (fun t ht hW => ⟨⟨((-1000000001) : Int32), (), rfl, trivial, tg_288, g0, g1, g2, g3, by rw [ht]; exact hP9, va_K.moved hW.alike hK9, hD9⟩, hS.F ht⟩) hS.2.2 dX8_copy_104
          · skip
            have tc_279 : ¬ b2.toInt = b1.toInt := fun h => c_279 ((fa_eq _ _).mpr h)
            refine lv_aload_n hx hb dX8_copy_68 rfl (lv_at hl 2 rfl) ?_
            refine lv_ldc hx hb hown (hts _ (List.mem_of_getElem? (i := 29) rfl)) dX8_copy_69 ?_
            have hPc := hP.sub (ws' := [(h0, .inr (6, [v0, v1, v2, v3, v4, .ref ph, .ref t0, v7])), (t0, .inl (tc, 7, .inl tf))]) [0, 1] rfl
            have hKc := hK.sub (tys' := [(tc, .int)]) [0] rfl
            have hDc := hD.sub (ws' := [(h0, .inr (6, [v0, v1, v2, v3, v4, .ref ph, .ref t0, v7])), (t0, .inl (tc, 7, .inl tf))]) [0, 1] (by decide) rfl
            have hFc := va_free (wc := [(h0, .inr (6, [v0, v1, v2, v3, v4, .ref ph, .ref t0, v7])), (t0, .inl (tc, 7, .inl tf))]) hD hS hA [0, 1] rfl
            refine va_calli (va_runV (As := [.int (-1000000003)]) (rest := []) ⟨hx, hb, hml, hown, hts⟩ (f_kind l dC dI ad h0 v0 v1 v2 v3 v4 (.ref ph) t0 v7 tc tf s.heap.size ) (cwV 1 hts g_x_copy_f_kind_63 rfl rfl rfl (by decide +kernel) ⟨(Nat.le_of_ble_eq_true rfl), (Nat.le_of_ble_eq_true rfl)⟩) ⟨preM_blind, va_recv hKc hPc (ci := 6) (q0 := 0) rfl rfl, fun U hU hW => ⟨rfl, preM_at hU hW hPc hKc hDc hev⟩⟩ rfl rfl hl.1 rfl (lv_room (Nat.le_of_ble_eq_true rfl)) dX8_copy_71 ⟨(Nat.le_of_ble_eq_true rfl), (Nat.le_of_ble_eq_true rfl)⟩) hS (fun q _ h => hFc q h) hFc (fun r_289 u t H1 locs ht hvm hw hB hz1 hk1 hS => ?_)
            obtain ⟨tg_290, hP1, hK1, hD1⟩ := hB
            rw [ht] at hP1
            have hK1 := va_K.moved hvm.symm hK1
            obtain ⟨hP, hD⟩ := va_join (wr := [(ph, .inl (pc, 4, .inr (.inr (.inr (.inr pf))))), (p0, .inr (0, [.int b0, .int z0, .ref n0])), (n0, .inl (nc0, 40, .inr (.inl g0))), (p1, .inr (0, [.int b1, .int z1, .ref n1])), (n1, .inl (nc1, 40, .inr (.inl g1))), (p2, .inr (0, [.int b2, .int z2, .ref n2])), (n2, .inl (nc2, 40, .inr (.inl g2))), (p3, .inr (0, [.int b3, .int z3, .ref n3])), (n3, .inl (nc3, 40, .inr (.inl g3)))]) (w1 := [(h0, .inr (6, [v0, v1, v2, v3, v4, .ref ph, .ref t0, v7])), (t0, .inl (tc, 7, .inl tg_290))]) hP hD [0, 1] [2, 3, 4, 5, 6, 7, 8, 9, 10] rfl rfl (by decide) (by decide) hk1 hFc hP1 hD1
            generalize H1 = H at hP hS ⊢
            have hP : va_P (dC, dI) vwCl [(ph, .inl (pc, 4, .inr (.inr (.inr (.inr pf))))), (p0, .inr (0, [.int b0, .int z0, .ref n0])), (n0, .inl (nc0, 40, .inr (.inl g0))), (p1, .inr (0, [.int b1, .int z1, .ref n1])), (n1, .inl (nc1, 40, .inr (.inl g1))), (p2, .inr (0, [.int b2, .int z2, .ref n2])), (n2, .inl (nc2, 40, .inr (.inl g2))), (p3, .inr (0, [.int b3, .int z3, .ref n3])), (n3, .inl (nc3, 40, .inr (.inl g3))), (h0, .inr (6, [v0, v1, v2, v3, v4, .ref ph, .ref t0, v7])), (t0, .inl (tc, 7, .inl tg_290))] H := hP
            have hD : va_D A [(ph, .inl (pc, 4, .inr (.inr (.inr (.inr pf))))), (p0, .inr (0, [.int b0, .int z0, .ref n0])), (n0, .inl (nc0, 40, .inr (.inl g0))), (p1, .inr (0, [.int b1, .int z1, .ref n1])), (n1, .inl (nc1, 40, .inr (.inl g1))), (p2, .inr (0, [.int b2, .int z2, .ref n2])), (n2, .inl (nc2, 40, .inr (.inl g2))), (p3, .inr (0, [.int b3, .int z3, .ref n3])), (n3, .inl (nc3, 40, .inr (.inl g3))), (h0, .inr (6, [v0, v1, v2, v3, v4, .ref ph, .ref t0, v7])), (t0, .inl (tc, 7, .inl tg_290))] := hD
            subst hw
            have hP9 := hP.sub (ws' := [(h0, .inr (6, [v0, v1, v2, v3, v4, .ref ph, .ref t0, v7])), (t0, .inl (tc, 7, .inl tg_290)), (ph, .inl (pc, 4, .inr (.inr (.inr (.inr pf))))), (p0, .inr (0, [.int b0, .int z0, .ref n0])), (n0, .inl (nc0, 40, .inr (.inl g0))), (p1, .inr (0, [.int b1, .int z1, .ref n1])), (n1, .inl (nc1, 40, .inr (.inl g1))), (p2, .inr (0, [.int b2, .int z2, .ref n2])), (n2, .inl (nc2, 40, .inr (.inl g2))), (p3, .inr (0, [.int b3, .int z3, .ref n3])), (n3, .inl (nc3, 40, .inr (.inl g3)))]) [9, 10, 0, 1, 2, 3, 4, 5, 6, 7, 8] rfl
            have hD9 := hD.sub (ws' := [(h0, .inr (6, [v0, v1, v2, v3, v4, .ref ph, .ref t0, v7])), (t0, .inl (tc, 7, .inl tg_290)), (ph, .inl (pc, 4, .inr (.inr (.inr (.inr pf))))), (p0, .inr (0, [.int b0, .int z0, .ref n0])), (n0, .inl (nc0, 40, .inr (.inl g0))), (p1, .inr (0, [.int b1, .int z1, .ref n1])), (n1, .inl (nc1, 40, .inr (.inl g1))), (p2, .inr (0, [.int b2, .int z2, .ref n2])), (n2, .inl (nc2, 40, .inr (.inl g2))), (p3, .inr (0, [.int b3, .int z3, .ref n3])), (n3, .inl (nc3, 40, .inr (.inl g3)))]) [9, 10, 0, 1, 2, 3, 4, 5, 6, 7, 8] (by decide) rfl
            have hK9 := hK.sub (tys' := [(tc, .int), (pc, .object "LampShapes$Paper"), (nc0, .long), (nc1, .long), (nc2, .long), (nc3, .long)]) [0, 1, 2, 3, 4, 5] rfl
            exact W.iret (v := ((-1000000003) : Int32)) hx hb hr (fun t ht hW => ⟨⟨((-1000000003) : Int32), (), rfl, trivial, tg_290, g0, g1, g2, g3, by rw [ht]; exact hP9, va_K.moved hW.alike hK9, hD9⟩, hS.F ht⟩) hS.2.2 dX8_copy_74
        · skip
          have tc_278 : ¬ r_277.toInt = 0 := fun h => c_278 ((fa_eq _ _).mpr h)
          refine lv_aload_n hx hb dX8_copy_47 rfl (lv_at hl 2 rfl) ?_
          refine lv_ldcw hx hb hown (hts _ (List.mem_of_getElem? (i := 19) rfl)) dX8_copy_48 ?_
          have hPc := hP.sub (ws' := [(h0, .inr (6, [v0, v1, v2, v3, v4, .ref ph, .ref t0, v7])), (t0, .inl (tc, 7, .inl tf))]) [0, 1] rfl
          have hKc := hK.sub (tys' := [(tc, .int)]) [0] rfl
          have hDc := hD.sub (ws' := [(h0, .inr (6, [v0, v1, v2, v3, v4, .ref ph, .ref t0, v7])), (t0, .inl (tc, 7, .inl tf))]) [0, 1] (by decide) rfl
          have hFc := va_free (wc := [(h0, .inr (6, [v0, v1, v2, v3, v4, .ref ph, .ref t0, v7])), (t0, .inl (tc, 7, .inl tf))]) hD hS hA [0, 1] rfl
          refine va_calli (va_runV (As := [.int (-1000000006)]) (rest := []) ⟨hx, hb, hml, hown, hts⟩ (f_missing l dC dI ad h0 v0 v1 v2 v3 v4 (.ref ph) t0 v7 tc tf s.heap.size ) (cwV 1 hts g_x_copy_f_missing_63 rfl rfl rfl (by decide +kernel) ⟨(Nat.le_of_ble_eq_true rfl), (Nat.le_of_ble_eq_true rfl)⟩) ⟨preM_blind, va_recv hKc hPc (ci := 6) (q0 := 0) rfl rfl, fun U hU hW => ⟨rfl, preM_at hU hW hPc hKc hDc hev⟩⟩ rfl rfl hl.1 rfl (lv_room (Nat.le_of_ble_eq_true rfl)) dX8_copy_51 ⟨(Nat.le_of_ble_eq_true rfl), (Nat.le_of_ble_eq_true rfl)⟩) hS (fun q _ h => hFc q h) hFc (fun r_291 u t H1 locs ht hvm hw hB hz1 hk1 hS => ?_)
          obtain ⟨tg_292, hP1, hK1, hD1⟩ := hB
          rw [ht] at hP1
          have hK1 := va_K.moved hvm.symm hK1
          obtain ⟨hP, hD⟩ := va_join (wr := [(ph, .inl (pc, 4, .inr (.inr (.inr (.inr pf))))), (p0, .inr (0, [.int b0, .int z0, .ref n0])), (n0, .inl (nc0, 40, .inr (.inl g0))), (p1, .inr (0, [.int b1, .int z1, .ref n1])), (n1, .inl (nc1, 40, .inr (.inl g1))), (p2, .inr (0, [.int b2, .int z2, .ref n2])), (n2, .inl (nc2, 40, .inr (.inl g2))), (p3, .inr (0, [.int b3, .int z3, .ref n3])), (n3, .inl (nc3, 40, .inr (.inl g3)))]) (w1 := [(h0, .inr (6, [v0, v1, v2, v3, v4, .ref ph, .ref t0, v7])), (t0, .inl (tc, 7, .inl tg_292))]) hP hD [0, 1] [2, 3, 4, 5, 6, 7, 8, 9, 10] rfl rfl (by decide) (by decide) hk1 hFc hP1 hD1
          generalize H1 = H at hP hS ⊢
          have hP : va_P (dC, dI) vwCl [(ph, .inl (pc, 4, .inr (.inr (.inr (.inr pf))))), (p0, .inr (0, [.int b0, .int z0, .ref n0])), (n0, .inl (nc0, 40, .inr (.inl g0))), (p1, .inr (0, [.int b1, .int z1, .ref n1])), (n1, .inl (nc1, 40, .inr (.inl g1))), (p2, .inr (0, [.int b2, .int z2, .ref n2])), (n2, .inl (nc2, 40, .inr (.inl g2))), (p3, .inr (0, [.int b3, .int z3, .ref n3])), (n3, .inl (nc3, 40, .inr (.inl g3))), (h0, .inr (6, [v0, v1, v2, v3, v4, .ref ph, .ref t0, v7])), (t0, .inl (tc, 7, .inl tg_292))] H := hP
          have hD : va_D A [(ph, .inl (pc, 4, .inr (.inr (.inr (.inr pf))))), (p0, .inr (0, [.int b0, .int z0, .ref n0])), (n0, .inl (nc0, 40, .inr (.inl g0))), (p1, .inr (0, [.int b1, .int z1, .ref n1])), (n1, .inl (nc1, 40, .inr (.inl g1))), (p2, .inr (0, [.int b2, .int z2, .ref n2])), (n2, .inl (nc2, 40, .inr (.inl g2))), (p3, .inr (0, [.int b3, .int z3, .ref n3])), (n3, .inl (nc3, 40, .inr (.inl g3))), (h0, .inr (6, [v0, v1, v2, v3, v4, .ref ph, .ref t0, v7])), (t0, .inl (tc, 7, .inl tg_292))] := hD
          subst hw
          have hP9 := hP.sub (ws' := [(h0, .inr (6, [v0, v1, v2, v3, v4, .ref ph, .ref t0, v7])), (t0, .inl (tc, 7, .inl tg_292)), (ph, .inl (pc, 4, .inr (.inr (.inr (.inr pf))))), (p0, .inr (0, [.int b0, .int z0, .ref n0])), (n0, .inl (nc0, 40, .inr (.inl g0))), (p1, .inr (0, [.int b1, .int z1, .ref n1])), (n1, .inl (nc1, 40, .inr (.inl g1))), (p2, .inr (0, [.int b2, .int z2, .ref n2])), (n2, .inl (nc2, 40, .inr (.inl g2))), (p3, .inr (0, [.int b3, .int z3, .ref n3])), (n3, .inl (nc3, 40, .inr (.inl g3)))]) [9, 10, 0, 1, 2, 3, 4, 5, 6, 7, 8] rfl
          have hD9 := hD.sub (ws' := [(h0, .inr (6, [v0, v1, v2, v3, v4, .ref ph, .ref t0, v7])), (t0, .inl (tc, 7, .inl tg_292)), (ph, .inl (pc, 4, .inr (.inr (.inr (.inr pf))))), (p0, .inr (0, [.int b0, .int z0, .ref n0])), (n0, .inl (nc0, 40, .inr (.inl g0))), (p1, .inr (0, [.int b1, .int z1, .ref n1])), (n1, .inl (nc1, 40, .inr (.inl g1))), (p2, .inr (0, [.int b2, .int z2, .ref n2])), (n2, .inl (nc2, 40, .inr (.inl g2))), (p3, .inr (0, [.int b3, .int z3, .ref n3])), (n3, .inl (nc3, 40, .inr (.inl g3)))]) [9, 10, 0, 1, 2, 3, 4, 5, 6, 7, 8] (by decide) rfl
          have hK9 := hK.sub (tys' := [(tc, .int), (pc, .object "LampShapes$Paper"), (nc0, .long), (nc1, .long), (nc2, .long), (nc3, .long)]) [0, 1, 2, 3, 4, 5] rfl
          exact W.iret (v := ((-1000000006) : Int32)) hx hb hr (fun t ht hW => ⟨⟨((-1000000006) : Int32), (), rfl, trivial, tg_292, g0, g1, g2, g3, by rw [ht]; exact hP9, va_K.moved hW.alike hK9, hD9⟩, hS.F ht⟩) hS.2.2 dX8_copy_54
    · skip
      refine Met.ofW (cc := cX8_copy) (maxL := 8) (ret := (some .int)) (by decide) rfl ?_
      intro p e s m args below meth c s₁ B hml hv
      obtain ⟨rfl, hsz, hP, hK, hD0, hev⟩ := hv
      have hx := B.exec
      have hb := B.bytes
      have hr := B.returns
      have hts := atoms_spec (ws := w_x_copy) B.pre
      have hown : s.vm.findClass RX8 = some m.cls := findClass_of_methodNamed B.named
      have hlocks := B.notSynchronized
      have inX8 : ∀ w ∈ wsX80, w ∈ w_x_copy := fun w h => List.mem_cons_of_mem _ (List.mem_append_left _ (List.mem_append_right _ h))
      have inX2 : ∀ w ∈ wsX20, w ∈ w_x_copy := fun w h => List.mem_cons_of_mem _ (List.mem_append_right _ h)
      subst hsz
      have hD := hD0.self (sz := s.heap.size)
      generalize hAe : va_A [(h0, .inr (6, [v0, v1, v2, v3, v4, .ref ph, .ref t0, v7])), (t0, .inl (tc, 7, .inl tf)), (ph, .inl (pc, 4, .inr (.inr (.inr (.inr pf))))), (p0, .inr (0, [.int b0, .int z0, .ref n0])), (n0, .inl (nc0, 40, .inr (.inl g0))), (p1, .inr (0, [.int b1, .int z1, .ref n1])), (n1, .inl (nc1, 40, .inr (.inl g1))), (p2, .inr (0, [.int b2, .int z2, .ref n2])), (n2, .inl (nc2, 40, .inr (.inl g2))), (p3, .inr (0, [.int b3, .int z3, .ref n3])), (n3, .inl (nc3, 40, .inr (.inl g3)))] s.heap.size = A at hD ⊢
      have hA : ∀ q : Nat, s.heap.size ≤ q → A q := fun q h => by rw [← hAe]; exact Or.inr h
      have hS : va_S A s.heap s.heap [] := va_S.rf
      have hP : va_P (dC, dI) vwCl [(h0, .inr (6, [v0, v1, v2, v3, v4, .ref ph, .ref t0, v7])), (t0, .inl (tc, 7, .inl tf)), (ph, .inl (pc, 4, .inr (.inr (.inr (.inr pf))))), (p0, .inr (0, [.int b0, .int z0, .ref n0])), (n0, .inl (nc0, 40, .inr (.inl g0))), (p1, .inr (0, [.int b1, .int z1, .ref n1])), (n1, .inl (nc1, 40, .inr (.inl g1))), (p2, .inr (0, [.int b2, .int z2, .ref n2])), (n2, .inl (nc2, 40, .inr (.inl g2))), (p3, .inr (0, [.int b3, .int z3, .ref n3])), (n3, .inl (nc3, 40, .inr (.inl g3)))] s.heap := hP
      have hl := lv_entry ([.ref h0, .int 2, .int i, .int 2, .int j, .int n]) (n := 8) (Nat.le_of_ble_eq_true rfl)
      rw [lg_entry_eq]
      generalize (lg_sl ([.ref h0, .int 2, .int i, .int 2, .int j, .int n]) ++ List.replicate (8 - (lg_sl ([.ref h0, .int 2, .int i, .int 2, .int j, .int n])).length) Slot.unset).toArray = ls at hl ⊢
      have hl : lv_has ls 8 [(0, .ref h0), (1, .int 2), (2, .int i), (3, .int 2), (4, .int j), (5, .int n)] := hl
      refine lv_aload_n hx hb dX8_copy_0 rfl (lv_at hl 0 rfl) ?_
      refine lv_iload_n hx hb dX8_copy_1 rfl (lv_at hl 1 rfl) ?_
      have hPc := hP.sub (ws' := [(h0, .inr (6, [v0, v1, v2, v3, v4, .ref ph, .ref t0, v7])), (ph, .inl (pc, 4, .inr (.inr (.inr (.inr pf)))))]) [0, 2] rfl
      have hKc := hK.sub (tys' := [(pc, .object "LampShapes$Paper")]) [1] rfl
      refine va_csq (W.runV (As := [.int 2]) (rest := []) ⟨hx, hb, hml, hown, hts⟩ (c_paperAt_2 l dC dI ad h0 v0 v1 v2 v3 v4 ph (.ref t0) v7 pc pf p2 hp2) (cwV 1 hts g_x_copy_c_paperAt_2_256 rfl rfl rfl (by decide +kernel) ⟨(Nat.le_of_ble_eq_true rfl), (Nat.le_of_ble_eq_true rfl)⟩) ⟨preS_blind, va_recv hKc hPc (ci := 6) (q0 := 0) rfl rfl, fun U hU hW => ⟨rfl, preS_at hU hW hPc hKc hev⟩⟩ rfl rfl hl.1 rfl (lv_room (Nat.le_of_ble_eq_true rfl)) dX8_copy_2 ⟨(Nat.le_of_ble_eq_true rfl), (Nat.le_of_ble_eq_true rfl)⟩) (fun r_293 hw => ?_)
      subst hw
      refine pp_tv (y := .ref p2) rfl ?_
      refine lv_astore (lv' := [(6, .ref p2), (0, .ref h0), (1, .int 2), (2, .int i), (3, .int 2), (4, .int j), (5, .int n)]) hx hb dX8_copy_5 hl (by decide) rfl (fun ls hl => ?_)
      refine lv_aload_n hx hb dX8_copy_7 rfl (lv_at hl 1 rfl) ?_
      refine lv_iload_n hx hb dX8_copy_8 rfl (lv_at hl 4 rfl) ?_
      have hPc := hP.sub (ws' := [(h0, .inr (6, [v0, v1, v2, v3, v4, .ref ph, .ref t0, v7])), (ph, .inl (pc, 4, .inr (.inr (.inr (.inr pf)))))]) [0, 2] rfl
      have hKc := hK.sub (tys' := [(pc, .object "LampShapes$Paper")]) [1] rfl
      refine va_csq (W.runV (As := [.int 2]) (rest := []) ⟨hx, hb, hml, hown, hts⟩ (c_paperAt_2 l dC dI ad h0 v0 v1 v2 v3 v4 ph (.ref t0) v7 pc pf p2 hp2) (cwV 1 hts g_x_copy_c_paperAt_2_256 rfl rfl rfl (by decide +kernel) ⟨(Nat.le_of_ble_eq_true rfl), (Nat.le_of_ble_eq_true rfl)⟩) ⟨preS_blind, va_recv hKc hPc (ci := 6) (q0 := 0) rfl rfl, fun U hU hW => ⟨rfl, preS_at hU hW hPc hKc hev⟩⟩ rfl rfl hl.1 rfl (lv_room (Nat.le_of_ble_eq_true rfl)) dX8_copy_9 ⟨(Nat.le_of_ble_eq_true rfl), (Nat.le_of_ble_eq_true rfl)⟩) (fun r_294 hw => ?_)
      subst hw
      refine pp_tv (y := .ref p2) rfl ?_
      refine lv_astore (lv' := [(7, .ref p2), (6, .ref p2), (0, .ref h0), (1, .int 2), (2, .int i), (3, .int 2), (4, .int j), (5, .int n)]) hx hb dX8_copy_12 hl (by decide) rfl (fun ls hl => ?_)
      refine lv_aload hx hb dX8_copy_14 (lv_at hl 1 rfl) ?_
      refine lv_ifnull hx hb dX8_copy_16 ?_
      refine lv_aload hx hb dX8_copy_19 (lv_at hl 0 rfl) ?_
      refine lv_ifnonnull (tgt := 31) hx hb dX8_copy_21 (by decide) ?_
      refine lv_aload hx hb dX8_copy_31 (lv_at hl 1 rfl) ?_
      have hPc := hP.sub (ws' := [(p2, .inr (0, [.int b2, .int z2, .ref n2]))]) [7] rfl
      have hKc := hK.sub (tys' := []) [] rfl
      refine vp_callSi (W.runV (As := []) (rest := []) ⟨hx, hb, hml, hown, hts⟩ (p_isMissing l dC dI ad p2 b2 (.int z2) (.ref n2) ) (cwV 0 hts g_x_copy_p_isMissing_268 rfl rfl rfl (by decide +kernel) ⟨(Nat.le_of_ble_eq_true rfl), (Nat.le_of_ble_eq_true rfl)⟩) ⟨preS_blind, va_recv hKc hPc (ci := 0) (q0 := 0) rfl rfl, fun U hU hW => ⟨rfl, preS_at hU hW hPc hKc hev⟩⟩ rfl rfl hl.1 rfl (lv_room (Nat.le_of_ble_eq_true rfl)) dX8_copy_33 ⟨(Nat.le_of_ble_eq_true rfl), (Nat.le_of_ble_eq_true rfl)⟩) (fun r_295 hw => ?_)
      have hr_295 : (r_295.toInt = 1 ∧ b2.toInt = 0) ∨ (r_295.toInt = 0 ∧ ¬ b2.toInt = 0) := hw
      refine lv_if_ne (tgt := 47) hx hb dX8_copy_36 (by decide) (fun c_296 => ?_) (fun c_296 => ?_)
      · skip
        have tc_296 : ¬ r_295.toInt = 0 := fun h => c_296 ((fa_eq _ _).mpr h)
        refine lv_aload_n hx hb dX8_copy_47 rfl (lv_at hl 2 rfl) ?_
        refine lv_ldcw hx hb hown (hts _ (List.mem_of_getElem? (i := 19) rfl)) dX8_copy_48 ?_
        have hPc := hP.sub (ws' := [(h0, .inr (6, [v0, v1, v2, v3, v4, .ref ph, .ref t0, v7])), (t0, .inl (tc, 7, .inl tf))]) [0, 1] rfl
        have hKc := hK.sub (tys' := [(tc, .int)]) [0] rfl
        have hDc := hD.sub (ws' := [(h0, .inr (6, [v0, v1, v2, v3, v4, .ref ph, .ref t0, v7])), (t0, .inl (tc, 7, .inl tf))]) [0, 1] (by decide) rfl
        have hFc := va_free (wc := [(h0, .inr (6, [v0, v1, v2, v3, v4, .ref ph, .ref t0, v7])), (t0, .inl (tc, 7, .inl tf))]) hD hS hA [0, 1] rfl
        refine va_calli (va_runV (As := [.int (-1000000006)]) (rest := []) ⟨hx, hb, hml, hown, hts⟩ (f_missing l dC dI ad h0 v0 v1 v2 v3 v4 (.ref ph) t0 v7 tc tf s.heap.size ) (cwV 1 hts g_x_copy_f_missing_63 rfl rfl rfl (by decide +kernel) ⟨(Nat.le_of_ble_eq_true rfl), (Nat.le_of_ble_eq_true rfl)⟩) ⟨preM_blind, va_recv hKc hPc (ci := 6) (q0 := 0) rfl rfl, fun U hU hW => ⟨rfl, preM_at hU hW hPc hKc hDc hev⟩⟩ rfl rfl hl.1 rfl (lv_room (Nat.le_of_ble_eq_true rfl)) dX8_copy_51 ⟨(Nat.le_of_ble_eq_true rfl), (Nat.le_of_ble_eq_true rfl)⟩) hS (fun q _ h => hFc q h) hFc (fun r_297 u t H1 locs ht hvm hw hB hz1 hk1 hS => ?_)
        obtain ⟨tg_298, hP1, hK1, hD1⟩ := hB
        rw [ht] at hP1
        have hK1 := va_K.moved hvm.symm hK1
        obtain ⟨hP, hD⟩ := va_join (wr := [(ph, .inl (pc, 4, .inr (.inr (.inr (.inr pf))))), (p0, .inr (0, [.int b0, .int z0, .ref n0])), (n0, .inl (nc0, 40, .inr (.inl g0))), (p1, .inr (0, [.int b1, .int z1, .ref n1])), (n1, .inl (nc1, 40, .inr (.inl g1))), (p2, .inr (0, [.int b2, .int z2, .ref n2])), (n2, .inl (nc2, 40, .inr (.inl g2))), (p3, .inr (0, [.int b3, .int z3, .ref n3])), (n3, .inl (nc3, 40, .inr (.inl g3)))]) (w1 := [(h0, .inr (6, [v0, v1, v2, v3, v4, .ref ph, .ref t0, v7])), (t0, .inl (tc, 7, .inl tg_298))]) hP hD [0, 1] [2, 3, 4, 5, 6, 7, 8, 9, 10] rfl rfl (by decide) (by decide) hk1 hFc hP1 hD1
        generalize H1 = H at hP hS ⊢
        have hP : va_P (dC, dI) vwCl [(ph, .inl (pc, 4, .inr (.inr (.inr (.inr pf))))), (p0, .inr (0, [.int b0, .int z0, .ref n0])), (n0, .inl (nc0, 40, .inr (.inl g0))), (p1, .inr (0, [.int b1, .int z1, .ref n1])), (n1, .inl (nc1, 40, .inr (.inl g1))), (p2, .inr (0, [.int b2, .int z2, .ref n2])), (n2, .inl (nc2, 40, .inr (.inl g2))), (p3, .inr (0, [.int b3, .int z3, .ref n3])), (n3, .inl (nc3, 40, .inr (.inl g3))), (h0, .inr (6, [v0, v1, v2, v3, v4, .ref ph, .ref t0, v7])), (t0, .inl (tc, 7, .inl tg_298))] H := hP
        have hD : va_D A [(ph, .inl (pc, 4, .inr (.inr (.inr (.inr pf))))), (p0, .inr (0, [.int b0, .int z0, .ref n0])), (n0, .inl (nc0, 40, .inr (.inl g0))), (p1, .inr (0, [.int b1, .int z1, .ref n1])), (n1, .inl (nc1, 40, .inr (.inl g1))), (p2, .inr (0, [.int b2, .int z2, .ref n2])), (n2, .inl (nc2, 40, .inr (.inl g2))), (p3, .inr (0, [.int b3, .int z3, .ref n3])), (n3, .inl (nc3, 40, .inr (.inl g3))), (h0, .inr (6, [v0, v1, v2, v3, v4, .ref ph, .ref t0, v7])), (t0, .inl (tc, 7, .inl tg_298))] := hD
        subst hw
        have hP9 := hP.sub (ws' := [(h0, .inr (6, [v0, v1, v2, v3, v4, .ref ph, .ref t0, v7])), (t0, .inl (tc, 7, .inl tg_298)), (ph, .inl (pc, 4, .inr (.inr (.inr (.inr pf))))), (p0, .inr (0, [.int b0, .int z0, .ref n0])), (n0, .inl (nc0, 40, .inr (.inl g0))), (p1, .inr (0, [.int b1, .int z1, .ref n1])), (n1, .inl (nc1, 40, .inr (.inl g1))), (p2, .inr (0, [.int b2, .int z2, .ref n2])), (n2, .inl (nc2, 40, .inr (.inl g2))), (p3, .inr (0, [.int b3, .int z3, .ref n3])), (n3, .inl (nc3, 40, .inr (.inl g3)))]) [9, 10, 0, 1, 2, 3, 4, 5, 6, 7, 8] rfl
        have hD9 := hD.sub (ws' := [(h0, .inr (6, [v0, v1, v2, v3, v4, .ref ph, .ref t0, v7])), (t0, .inl (tc, 7, .inl tg_298)), (ph, .inl (pc, 4, .inr (.inr (.inr (.inr pf))))), (p0, .inr (0, [.int b0, .int z0, .ref n0])), (n0, .inl (nc0, 40, .inr (.inl g0))), (p1, .inr (0, [.int b1, .int z1, .ref n1])), (n1, .inl (nc1, 40, .inr (.inl g1))), (p2, .inr (0, [.int b2, .int z2, .ref n2])), (n2, .inl (nc2, 40, .inr (.inl g2))), (p3, .inr (0, [.int b3, .int z3, .ref n3])), (n3, .inl (nc3, 40, .inr (.inl g3)))]) [9, 10, 0, 1, 2, 3, 4, 5, 6, 7, 8] (by decide) rfl
        have hK9 := hK.sub (tys' := [(tc, .int), (pc, .object "LampShapes$Paper"), (nc0, .long), (nc1, .long), (nc2, .long), (nc3, .long)]) [0, 1, 2, 3, 4, 5] rfl
        exact W.iret (v := ((-1000000006) : Int32)) hx hb hr (fun t ht hW => ⟨⟨((-1000000006) : Int32), (), rfl, trivial, tg_298, g0, g1, g2, g3, by rw [ht]; exact hP9, va_K.moved hW.alike hK9, hD9⟩, hS.F ht⟩) hS.2.2 dX8_copy_54
      · skip
        have tc_296 : r_295.toInt = 0 := (fa_eq _ _).mp c_296
        refine lv_aload hx hb dX8_copy_39 (lv_at hl 0 rfl) ?_
        have hPc := hP.sub (ws' := [(p2, .inr (0, [.int b2, .int z2, .ref n2]))]) [7] rfl
        have hKc := hK.sub (tys' := []) [] rfl
        refine vp_callSi (W.runV (As := []) (rest := []) ⟨hx, hb, hml, hown, hts⟩ (p_isMissing l dC dI ad p2 b2 (.int z2) (.ref n2) ) (cwV 0 hts g_x_copy_p_isMissing_268 rfl rfl rfl (by decide +kernel) ⟨(Nat.le_of_ble_eq_true rfl), (Nat.le_of_ble_eq_true rfl)⟩) ⟨preS_blind, va_recv hKc hPc (ci := 0) (q0 := 0) rfl rfl, fun U hU hW => ⟨rfl, preS_at hU hW hPc hKc hev⟩⟩ rfl rfl hl.1 rfl (lv_room (Nat.le_of_ble_eq_true rfl)) dX8_copy_41 ⟨(Nat.le_of_ble_eq_true rfl), (Nat.le_of_ble_eq_true rfl)⟩) (fun r_299 hw => ?_)
        have hr_299 : (r_299.toInt = 1 ∧ b2.toInt = 0) ∨ (r_299.toInt = 0 ∧ ¬ b2.toInt = 0) := hw
        refine lv_if_eq (tgt := 55) hx hb dX8_copy_44 (by decide) (fun c_300 => ?_) (fun c_300 => ?_)
        · skip
          have tc_300 : r_299.toInt = 0 := (fa_eq _ _).mp c_300
          refine lv_aload hx hb dX8_copy_55 (lv_at hl 1 rfl) ?_
          refine va_getN (D := (dC, dI)) (ci := 0) (v := .int b2) (C := RX2) (T := TX2) (N := 3) hx hb hts inX2 hown hK hP 7 rfl rfl 0 (by decide) (ev_nest hev 21 rfl) (fun _ h9 => h9) rfl dX8_copy_57 ?_
          refine lv_aload hx hb dX8_copy_60 (lv_at hl 0 rfl) ?_
          refine va_getN (D := (dC, dI)) (ci := 0) (v := .int b2) (C := RX2) (T := TX2) (N := 3) hx hb hts inX2 hown hK hP 7 rfl rfl 0 (by decide) (ev_nest hev 21 rfl) (fun _ h9 => h9) rfl dX8_copy_62 ?_
          have rc_301_x := pp_rng b2
          have rc_301_x := pp_rng b2
          refine lv_icmp_eq (tgt := 75) hx hb dX8_copy_65 (by decide) (fun c_301 => ?_) (fun c_301 => ?_)
          · skip
            have tc_301 : b2.toInt = b2.toInt := (fa_eq _ _).mp c_301
            refine lv_aload hx hb dX8_copy_75 (lv_at hl 1 rfl) ?_
            refine lv_iload_n hx hb dX8_copy_77 rfl (lv_at hl 4 rfl) ?_
            refine lv_iload hx hb dX8_copy_78 (lv_at hl 7 rfl) ?_
            have hPc := hP.sub (ws' := [(p2, .inr (0, [.int b2, .int z2, .ref n2]))]) [7] rfl
            have hKc := hK.sub (tys' := []) [] rfl
            refine vp_callSi (W.runV (As := [.int i, .int n]) (rest := []) ⟨hx, hb, hml, hown, hts⟩ (p_hasPart l dC dI ad p2 i n (.int b2) z2 (.ref n2) hz2) (cwV 2 hts g_x_copy_p_hasPart_282 rfl rfl rfl (by decide +kernel) ⟨(Nat.le_of_ble_eq_true rfl), (Nat.le_of_ble_eq_true rfl)⟩) ⟨preS_blind, va_recv hKc hPc (ci := 0) (q0 := 0) rfl rfl, fun U hU hW => ⟨rfl, preS_at hU hW hPc hKc hev⟩⟩ rfl rfl hl.1 rfl (lv_room (Nat.le_of_ble_eq_true rfl)) dX8_copy_80 ⟨(Nat.le_of_ble_eq_true rfl), (Nat.le_of_ble_eq_true rfl)⟩) (fun r_302 hw => ?_)
            have hr_302 : (r_302.toInt = 1 ∧ 0 ≤ i.toInt ∧ 0 ≤ n.toInt ∧ i.toInt + n.toInt ≤ z2.toInt) ∨ (r_302.toInt = 0 ∧ ¬ (0 ≤ i.toInt ∧ 0 ≤ n.toInt ∧ i.toInt + n.toInt ≤ z2.toInt)) := hw
            refine lv_if_eq (tgt := 98) hx hb dX8_copy_83 (by decide) (fun c_303 => ?_) (fun c_303 => ?_)
            · skip
              have tc_303 : r_302.toInt = 0 := (fa_eq _ _).mp c_303
              refine lv_aload_n hx hb dX8_copy_98 rfl (lv_at hl 2 rfl) ?_
              refine lv_ldc hx hb hown (hts _ (List.mem_of_getElem? (i := 6) rfl)) dX8_copy_99 ?_
              have hPc := hP.sub (ws' := [(h0, .inr (6, [v0, v1, v2, v3, v4, .ref ph, .ref t0, v7])), (t0, .inl (tc, 7, .inl tf))]) [0, 1] rfl
              have hKc := hK.sub (tys' := [(tc, .int)]) [0] rfl
              have hDc := hD.sub (ws' := [(h0, .inr (6, [v0, v1, v2, v3, v4, .ref ph, .ref t0, v7])), (t0, .inl (tc, 7, .inl tf))]) [0, 1] (by decide) rfl
              have hFc := va_free (wc := [(h0, .inr (6, [v0, v1, v2, v3, v4, .ref ph, .ref t0, v7])), (t0, .inl (tc, 7, .inl tf))]) hD hS hA [0, 1] rfl
              refine va_calli (va_runV (As := [.int (-1000000001)]) (rest := []) ⟨hx, hb, hml, hown, hts⟩ (f_beyond l dC dI ad h0 v0 v1 v2 v3 v4 (.ref ph) t0 v7 tc tf s.heap.size ) (cwV 1 hts g_x_copy_f_beyond_63 rfl rfl rfl (by decide +kernel) ⟨(Nat.le_of_ble_eq_true rfl), (Nat.le_of_ble_eq_true rfl)⟩) ⟨preM_blind, va_recv hKc hPc (ci := 6) (q0 := 0) rfl rfl, fun U hU hW => ⟨rfl, preM_at hU hW hPc hKc hDc hev⟩⟩ rfl rfl hl.1 rfl (lv_room (Nat.le_of_ble_eq_true rfl)) dX8_copy_101 ⟨(Nat.le_of_ble_eq_true rfl), (Nat.le_of_ble_eq_true rfl)⟩) hS (fun q _ h => hFc q h) hFc (fun r_304 u t H1 locs ht hvm hw hB hz1 hk1 hS => ?_)
              obtain ⟨tg_305, hP1, hK1, hD1⟩ := hB
              rw [ht] at hP1
              have hK1 := va_K.moved hvm.symm hK1
              obtain ⟨hP, hD⟩ := va_join (wr := [(ph, .inl (pc, 4, .inr (.inr (.inr (.inr pf))))), (p0, .inr (0, [.int b0, .int z0, .ref n0])), (n0, .inl (nc0, 40, .inr (.inl g0))), (p1, .inr (0, [.int b1, .int z1, .ref n1])), (n1, .inl (nc1, 40, .inr (.inl g1))), (p2, .inr (0, [.int b2, .int z2, .ref n2])), (n2, .inl (nc2, 40, .inr (.inl g2))), (p3, .inr (0, [.int b3, .int z3, .ref n3])), (n3, .inl (nc3, 40, .inr (.inl g3)))]) (w1 := [(h0, .inr (6, [v0, v1, v2, v3, v4, .ref ph, .ref t0, v7])), (t0, .inl (tc, 7, .inl tg_305))]) hP hD [0, 1] [2, 3, 4, 5, 6, 7, 8, 9, 10] rfl rfl (by decide) (by decide) hk1 hFc hP1 hD1
              generalize H1 = H at hP hS ⊢
              have hP : va_P (dC, dI) vwCl [(ph, .inl (pc, 4, .inr (.inr (.inr (.inr pf))))), (p0, .inr (0, [.int b0, .int z0, .ref n0])), (n0, .inl (nc0, 40, .inr (.inl g0))), (p1, .inr (0, [.int b1, .int z1, .ref n1])), (n1, .inl (nc1, 40, .inr (.inl g1))), (p2, .inr (0, [.int b2, .int z2, .ref n2])), (n2, .inl (nc2, 40, .inr (.inl g2))), (p3, .inr (0, [.int b3, .int z3, .ref n3])), (n3, .inl (nc3, 40, .inr (.inl g3))), (h0, .inr (6, [v0, v1, v2, v3, v4, .ref ph, .ref t0, v7])), (t0, .inl (tc, 7, .inl tg_305))] H := hP
              have hD : va_D A [(ph, .inl (pc, 4, .inr (.inr (.inr (.inr pf))))), (p0, .inr (0, [.int b0, .int z0, .ref n0])), (n0, .inl (nc0, 40, .inr (.inl g0))), (p1, .inr (0, [.int b1, .int z1, .ref n1])), (n1, .inl (nc1, 40, .inr (.inl g1))), (p2, .inr (0, [.int b2, .int z2, .ref n2])), (n2, .inl (nc2, 40, .inr (.inl g2))), (p3, .inr (0, [.int b3, .int z3, .ref n3])), (n3, .inl (nc3, 40, .inr (.inl g3))), (h0, .inr (6, [v0, v1, v2, v3, v4, .ref ph, .ref t0, v7])), (t0, .inl (tc, 7, .inl tg_305))] := hD
              subst hw
              have hP9 := hP.sub (ws' := [(h0, .inr (6, [v0, v1, v2, v3, v4, .ref ph, .ref t0, v7])), (t0, .inl (tc, 7, .inl tg_305)), (ph, .inl (pc, 4, .inr (.inr (.inr (.inr pf))))), (p0, .inr (0, [.int b0, .int z0, .ref n0])), (n0, .inl (nc0, 40, .inr (.inl g0))), (p1, .inr (0, [.int b1, .int z1, .ref n1])), (n1, .inl (nc1, 40, .inr (.inl g1))), (p2, .inr (0, [.int b2, .int z2, .ref n2])), (n2, .inl (nc2, 40, .inr (.inl g2))), (p3, .inr (0, [.int b3, .int z3, .ref n3])), (n3, .inl (nc3, 40, .inr (.inl g3)))]) [9, 10, 0, 1, 2, 3, 4, 5, 6, 7, 8] rfl
              have hD9 := hD.sub (ws' := [(h0, .inr (6, [v0, v1, v2, v3, v4, .ref ph, .ref t0, v7])), (t0, .inl (tc, 7, .inl tg_305)), (ph, .inl (pc, 4, .inr (.inr (.inr (.inr pf))))), (p0, .inr (0, [.int b0, .int z0, .ref n0])), (n0, .inl (nc0, 40, .inr (.inl g0))), (p1, .inr (0, [.int b1, .int z1, .ref n1])), (n1, .inl (nc1, 40, .inr (.inl g1))), (p2, .inr (0, [.int b2, .int z2, .ref n2])), (n2, .inl (nc2, 40, .inr (.inl g2))), (p3, .inr (0, [.int b3, .int z3, .ref n3])), (n3, .inl (nc3, 40, .inr (.inl g3)))]) [9, 10, 0, 1, 2, 3, 4, 5, 6, 7, 8] (by decide) rfl
              have hK9 := hK.sub (tys' := [(tc, .int), (pc, .object "LampShapes$Paper"), (nc0, .long), (nc1, .long), (nc2, .long), (nc3, .long)]) [0, 1, 2, 3, 4, 5] rfl
              exact W.iret (v := ((-1000000001) : Int32)) hx hb hr (fun t ht hW => ⟨⟨((-1000000001) : Int32), (), rfl, trivial, tg_305, g0, g1, g2, g3, by rw [ht]; exact hP9, va_K.moved hW.alike hK9, hD9⟩, hS.F ht⟩) hS.2.2 dX8_copy_104
            · skip
              have tc_303 : ¬ r_302.toInt = 0 := fun h => c_303 ((fa_eq _ _).mpr h)
              refine lv_aload hx hb dX8_copy_86 (lv_at hl 0 rfl) ?_
              refine lv_iload hx hb dX8_copy_88 (lv_at hl 6 rfl) ?_
              refine lv_iload hx hb dX8_copy_90 (lv_at hl 7 rfl) ?_
              have hPc := hP.sub (ws' := [(p2, .inr (0, [.int b2, .int z2, .ref n2]))]) [7] rfl
              have hKc := hK.sub (tys' := []) [] rfl
              refine vp_callSi (W.runV (As := [.int j, .int n]) (rest := []) ⟨hx, hb, hml, hown, hts⟩ (p_hasPart l dC dI ad p2 j n (.int b2) z2 (.ref n2) hz2) (cwV 2 hts g_x_copy_p_hasPart_282 rfl rfl rfl (by decide +kernel) ⟨(Nat.le_of_ble_eq_true rfl), (Nat.le_of_ble_eq_true rfl)⟩) ⟨preS_blind, va_recv hKc hPc (ci := 0) (q0 := 0) rfl rfl, fun U hU hW => ⟨rfl, preS_at hU hW hPc hKc hev⟩⟩ rfl rfl hl.1 rfl (lv_room (Nat.le_of_ble_eq_true rfl)) dX8_copy_92 ⟨(Nat.le_of_ble_eq_true rfl), (Nat.le_of_ble_eq_true rfl)⟩) (fun r_306 hw => ?_)
              have hr_306 : (r_306.toInt = 1 ∧ 0 ≤ j.toInt ∧ 0 ≤ n.toInt ∧ j.toInt + n.toInt ≤ z2.toInt) ∨ (r_306.toInt = 0 ∧ ¬ (0 ≤ j.toInt ∧ 0 ≤ n.toInt ∧ j.toInt + n.toInt ≤ z2.toInt)) := hw
              refine lv_if_ne (tgt := 105) hx hb dX8_copy_95 (by decide) (fun c_307 => ?_) (fun c_307 => ?_)
              · skip
                have tc_307 : ¬ r_306.toInt = 0 := fun h => c_307 ((fa_eq _ _).mpr h)
                refine lv_aload hx hb dX8_copy_105 (lv_at hl 1 rfl) ?_
                refine va_getN (D := (dC, dI)) (ci := 0) (v := .ref n2) (C := RX2) (T := TX2) (N := 3) hx hb hts inX2 hown hK hP 7 rfl rfl 2 (by decide) (ev_nest hev 23 rfl) (fun _ h9 => h9) rfl dX8_copy_107 ?_
                refine lv_iload_n hx hb dX8_copy_110 rfl (lv_at hl 4 rfl) ?_
                refine lv_aload hx hb dX8_copy_111 (lv_at hl 0 rfl) ?_
                refine va_getN (D := (dC, dI)) (ci := 0) (v := .ref n2) (C := RX2) (T := TX2) (N := 3) hx hb hts inX2 hown hK hP 7 rfl rfl 2 (by decide) (ev_nest hev 23 rfl) (fun _ h9 => h9) rfl dX8_copy_113 ?_
                refine lv_iload hx hb dX8_copy_116 (lv_at hl 6 rfl) ?_
                refine lv_iload hx hb dX8_copy_118 (lv_at hl 7 rfl) ?_
                refine va_copyl (ty := .long) hx hb (by rw [hml]; exact hl.1.symm) hown (hts _ (List.mem_of_getElem? (i := 25) rfl)) (hts _ (List.mem_of_getElem? (i := 26) rfl)) (hts _ (List.mem_of_getElem? (i := 27) rfl)) (hts _ (List.mem_of_getElem? (i := 28) rfl)) hK hP hD hS 8 8 4 4 rfl rfl rfl rfl rfl (fun h => absurd ((fa_lt _ _).mp h) (by show ¬ i.toInt < 0; omega)) (fun h => absurd ((fa_lt _ _).mp h) (by show ¬ j.toInt < 0; omega)) (fun h => absurd ((fa_lt _ _).mp h) (by show ¬ n.toInt < 0; omega)) (by show i.toInt.toNat + n.toInt.toNat ≤ 40; omega) (by show j.toInt.toNat + n.toInt.toNat ≤ 40; omega) (fun _ _ => rfl) (Nat.le_of_ble_eq_true rfl) (Nat.le_of_ble_eq_true rfl) dX8_copy_120 (fun H locs hP hD hS => ?_)
                generalize va_cpy g2 g2 i.toNatClampNeg j.toNatClampNeg n.toNatClampNeg = f_308 at hP hD
                have hP : va_P (dC, dI) vwCl [(h0, .inr (6, [v0, v1, v2, v3, v4, .ref ph, .ref t0, v7])), (t0, .inl (tc, 7, .inl tf)), (ph, .inl (pc, 4, .inr (.inr (.inr (.inr pf))))), (p0, .inr (0, [.int b0, .int z0, .ref n0])), (n0, .inl (nc0, 40, .inr (.inl g0))), (p1, .inr (0, [.int b1, .int z1, .ref n1])), (n1, .inl (nc1, 40, .inr (.inl g1))), (p2, .inr (0, [.int b2, .int z2, .ref n2])), (n2, .inl (nc2, 40, .inr (.inl f_308))), (p3, .inr (0, [.int b3, .int z3, .ref n3])), (n3, .inl (nc3, 40, .inr (.inl g3)))] H := hP
                have hD : va_D A [(h0, .inr (6, [v0, v1, v2, v3, v4, .ref ph, .ref t0, v7])), (t0, .inl (tc, 7, .inl tf)), (ph, .inl (pc, 4, .inr (.inr (.inr (.inr pf))))), (p0, .inr (0, [.int b0, .int z0, .ref n0])), (n0, .inl (nc0, 40, .inr (.inl g0))), (p1, .inr (0, [.int b1, .int z1, .ref n1])), (n1, .inl (nc1, 40, .inr (.inl g1))), (p2, .inr (0, [.int b2, .int z2, .ref n2])), (n2, .inl (nc2, 40, .inr (.inl f_308))), (p3, .inr (0, [.int b3, .int z3, .ref n3])), (n3, .inl (nc3, 40, .inr (.inl g3)))] := hD
                refine lv_iload hx hb dX8_copy_123 (lv_at hl 7 rfl) ?_
                have hP9 := hP.sub (ws' := [(h0, .inr (6, [v0, v1, v2, v3, v4, .ref ph, .ref t0, v7])), (t0, .inl (tc, 7, .inl tf)), (ph, .inl (pc, 4, .inr (.inr (.inr (.inr pf))))), (p0, .inr (0, [.int b0, .int z0, .ref n0])), (n0, .inl (nc0, 40, .inr (.inl g0))), (p1, .inr (0, [.int b1, .int z1, .ref n1])), (n1, .inl (nc1, 40, .inr (.inl g1))), (p2, .inr (0, [.int b2, .int z2, .ref n2])), (n2, .inl (nc2, 40, .inr (.inl f_308))), (p3, .inr (0, [.int b3, .int z3, .ref n3])), (n3, .inl (nc3, 40, .inr (.inl g3)))]) [0, 1, 2, 3, 4, 5, 6, 7, 8, 9, 10] rfl
                have hD9 := hD.sub (ws' := [(h0, .inr (6, [v0, v1, v2, v3, v4, .ref ph, .ref t0, v7])), (t0, .inl (tc, 7, .inl tf)), (ph, .inl (pc, 4, .inr (.inr (.inr (.inr pf))))), (p0, .inr (0, [.int b0, .int z0, .ref n0])), (n0, .inl (nc0, 40, .inr (.inl g0))), (p1, .inr (0, [.int b1, .int z1, .ref n1])), (n1, .inl (nc1, 40, .inr (.inl g1))), (p2, .inr (0, [.int b2, .int z2, .ref n2])), (n2, .inl (nc2, 40, .inr (.inl f_308))), (p3, .inr (0, [.int b3, .int z3, .ref n3])), (n3, .inl (nc3, 40, .inr (.inl g3)))]) [0, 1, 2, 3, 4, 5, 6, 7, 8, 9, 10] (by decide) rfl
                have hK9 := hK.sub (tys' := [(tc, .int), (pc, .object "LampShapes$Paper"), (nc0, .long), (nc1, .long), (nc2, .long), (nc3, .long)]) [0, 1, 2, 3, 4, 5] rfl
                exact W.iret (v := n) hx hb hr (fun t ht hW => ⟨⟨n, (), rfl, trivial, tf, g0, g1, f_308, g3, by rw [ht]; exact hP9, va_K.moved hW.alike hK9, hD9⟩, hS.F ht⟩) hS.2.2 dX8_copy_125
              · skip
                have tc_307 : r_306.toInt = 0 := (fa_eq _ _).mp c_307
                refine lv_aload_n hx hb dX8_copy_98 rfl (lv_at hl 2 rfl) ?_
                refine lv_ldc hx hb hown (hts _ (List.mem_of_getElem? (i := 6) rfl)) dX8_copy_99 ?_
                have hPc := hP.sub (ws' := [(h0, .inr (6, [v0, v1, v2, v3, v4, .ref ph, .ref t0, v7])), (t0, .inl (tc, 7, .inl tf))]) [0, 1] rfl
                have hKc := hK.sub (tys' := [(tc, .int)]) [0] rfl
                have hDc := hD.sub (ws' := [(h0, .inr (6, [v0, v1, v2, v3, v4, .ref ph, .ref t0, v7])), (t0, .inl (tc, 7, .inl tf))]) [0, 1] (by decide) rfl
                have hFc := va_free (wc := [(h0, .inr (6, [v0, v1, v2, v3, v4, .ref ph, .ref t0, v7])), (t0, .inl (tc, 7, .inl tf))]) hD hS hA [0, 1] rfl
                refine va_calli (va_runV (As := [.int (-1000000001)]) (rest := []) ⟨hx, hb, hml, hown, hts⟩ (f_beyond l dC dI ad h0 v0 v1 v2 v3 v4 (.ref ph) t0 v7 tc tf s.heap.size ) (cwV 1 hts g_x_copy_f_beyond_63 rfl rfl rfl (by decide +kernel) ⟨(Nat.le_of_ble_eq_true rfl), (Nat.le_of_ble_eq_true rfl)⟩) ⟨preM_blind, va_recv hKc hPc (ci := 6) (q0 := 0) rfl rfl, fun U hU hW => ⟨rfl, preM_at hU hW hPc hKc hDc hev⟩⟩ rfl rfl hl.1 rfl (lv_room (Nat.le_of_ble_eq_true rfl)) dX8_copy_101 ⟨(Nat.le_of_ble_eq_true rfl), (Nat.le_of_ble_eq_true rfl)⟩) hS (fun q _ h => hFc q h) hFc (fun r_309 u t H1 locs ht hvm hw hB hz1 hk1 hS => ?_)
                obtain ⟨tg_310, hP1, hK1, hD1⟩ := hB
                rw [ht] at hP1
                have hK1 := va_K.moved hvm.symm hK1
                obtain ⟨hP, hD⟩ := va_join (wr := [(ph, .inl (pc, 4, .inr (.inr (.inr (.inr pf))))), (p0, .inr (0, [.int b0, .int z0, .ref n0])), (n0, .inl (nc0, 40, .inr (.inl g0))), (p1, .inr (0, [.int b1, .int z1, .ref n1])), (n1, .inl (nc1, 40, .inr (.inl g1))), (p2, .inr (0, [.int b2, .int z2, .ref n2])), (n2, .inl (nc2, 40, .inr (.inl g2))), (p3, .inr (0, [.int b3, .int z3, .ref n3])), (n3, .inl (nc3, 40, .inr (.inl g3)))]) (w1 := [(h0, .inr (6, [v0, v1, v2, v3, v4, .ref ph, .ref t0, v7])), (t0, .inl (tc, 7, .inl tg_310))]) hP hD [0, 1] [2, 3, 4, 5, 6, 7, 8, 9, 10] rfl rfl (by decide) (by decide) hk1 hFc hP1 hD1
                generalize H1 = H at hP hS ⊢
                have hP : va_P (dC, dI) vwCl [(ph, .inl (pc, 4, .inr (.inr (.inr (.inr pf))))), (p0, .inr (0, [.int b0, .int z0, .ref n0])), (n0, .inl (nc0, 40, .inr (.inl g0))), (p1, .inr (0, [.int b1, .int z1, .ref n1])), (n1, .inl (nc1, 40, .inr (.inl g1))), (p2, .inr (0, [.int b2, .int z2, .ref n2])), (n2, .inl (nc2, 40, .inr (.inl g2))), (p3, .inr (0, [.int b3, .int z3, .ref n3])), (n3, .inl (nc3, 40, .inr (.inl g3))), (h0, .inr (6, [v0, v1, v2, v3, v4, .ref ph, .ref t0, v7])), (t0, .inl (tc, 7, .inl tg_310))] H := hP
                have hD : va_D A [(ph, .inl (pc, 4, .inr (.inr (.inr (.inr pf))))), (p0, .inr (0, [.int b0, .int z0, .ref n0])), (n0, .inl (nc0, 40, .inr (.inl g0))), (p1, .inr (0, [.int b1, .int z1, .ref n1])), (n1, .inl (nc1, 40, .inr (.inl g1))), (p2, .inr (0, [.int b2, .int z2, .ref n2])), (n2, .inl (nc2, 40, .inr (.inl g2))), (p3, .inr (0, [.int b3, .int z3, .ref n3])), (n3, .inl (nc3, 40, .inr (.inl g3))), (h0, .inr (6, [v0, v1, v2, v3, v4, .ref ph, .ref t0, v7])), (t0, .inl (tc, 7, .inl tg_310))] := hD
                subst hw
                have hP9 := hP.sub (ws' := [(h0, .inr (6, [v0, v1, v2, v3, v4, .ref ph, .ref t0, v7])), (t0, .inl (tc, 7, .inl tg_310)), (ph, .inl (pc, 4, .inr (.inr (.inr (.inr pf))))), (p0, .inr (0, [.int b0, .int z0, .ref n0])), (n0, .inl (nc0, 40, .inr (.inl g0))), (p1, .inr (0, [.int b1, .int z1, .ref n1])), (n1, .inl (nc1, 40, .inr (.inl g1))), (p2, .inr (0, [.int b2, .int z2, .ref n2])), (n2, .inl (nc2, 40, .inr (.inl g2))), (p3, .inr (0, [.int b3, .int z3, .ref n3])), (n3, .inl (nc3, 40, .inr (.inl g3)))]) [9, 10, 0, 1, 2, 3, 4, 5, 6, 7, 8] rfl
                have hD9 := hD.sub (ws' := [(h0, .inr (6, [v0, v1, v2, v3, v4, .ref ph, .ref t0, v7])), (t0, .inl (tc, 7, .inl tg_310)), (ph, .inl (pc, 4, .inr (.inr (.inr (.inr pf))))), (p0, .inr (0, [.int b0, .int z0, .ref n0])), (n0, .inl (nc0, 40, .inr (.inl g0))), (p1, .inr (0, [.int b1, .int z1, .ref n1])), (n1, .inl (nc1, 40, .inr (.inl g1))), (p2, .inr (0, [.int b2, .int z2, .ref n2])), (n2, .inl (nc2, 40, .inr (.inl g2))), (p3, .inr (0, [.int b3, .int z3, .ref n3])), (n3, .inl (nc3, 40, .inr (.inl g3)))]) [9, 10, 0, 1, 2, 3, 4, 5, 6, 7, 8] (by decide) rfl
                have hK9 := hK.sub (tys' := [(tc, .int), (pc, .object "LampShapes$Paper"), (nc0, .long), (nc1, .long), (nc2, .long), (nc3, .long)]) [0, 1, 2, 3, 4, 5] rfl
                exact W.iret (v := ((-1000000001) : Int32)) hx hb hr (fun t ht hW => ⟨⟨((-1000000001) : Int32), (), rfl, trivial, tg_310, g0, g1, g2, g3, by rw [ht]; exact hP9, va_K.moved hW.alike hK9, hD9⟩, hS.F ht⟩) hS.2.2 dX8_copy_104
          · skip
            have tc_301 : ¬ b2.toInt = b2.toInt := fun h => c_301 ((fa_eq _ _).mpr h)
            refine lv_aload_n hx hb dX8_copy_68 rfl (lv_at hl 2 rfl) ?_
            refine lv_ldc hx hb hown (hts _ (List.mem_of_getElem? (i := 29) rfl)) dX8_copy_69 ?_
            have hPc := hP.sub (ws' := [(h0, .inr (6, [v0, v1, v2, v3, v4, .ref ph, .ref t0, v7])), (t0, .inl (tc, 7, .inl tf))]) [0, 1] rfl
            have hKc := hK.sub (tys' := [(tc, .int)]) [0] rfl
            have hDc := hD.sub (ws' := [(h0, .inr (6, [v0, v1, v2, v3, v4, .ref ph, .ref t0, v7])), (t0, .inl (tc, 7, .inl tf))]) [0, 1] (by decide) rfl
            have hFc := va_free (wc := [(h0, .inr (6, [v0, v1, v2, v3, v4, .ref ph, .ref t0, v7])), (t0, .inl (tc, 7, .inl tf))]) hD hS hA [0, 1] rfl
            refine va_calli (va_runV (As := [.int (-1000000003)]) (rest := []) ⟨hx, hb, hml, hown, hts⟩ (f_kind l dC dI ad h0 v0 v1 v2 v3 v4 (.ref ph) t0 v7 tc tf s.heap.size ) (cwV 1 hts g_x_copy_f_kind_63 rfl rfl rfl (by decide +kernel) ⟨(Nat.le_of_ble_eq_true rfl), (Nat.le_of_ble_eq_true rfl)⟩) ⟨preM_blind, va_recv hKc hPc (ci := 6) (q0 := 0) rfl rfl, fun U hU hW => ⟨rfl, preM_at hU hW hPc hKc hDc hev⟩⟩ rfl rfl hl.1 rfl (lv_room (Nat.le_of_ble_eq_true rfl)) dX8_copy_71 ⟨(Nat.le_of_ble_eq_true rfl), (Nat.le_of_ble_eq_true rfl)⟩) hS (fun q _ h => hFc q h) hFc (fun r_311 u t H1 locs ht hvm hw hB hz1 hk1 hS => ?_)
            obtain ⟨tg_312, hP1, hK1, hD1⟩ := hB
            rw [ht] at hP1
            have hK1 := va_K.moved hvm.symm hK1
            obtain ⟨hP, hD⟩ := va_join (wr := [(ph, .inl (pc, 4, .inr (.inr (.inr (.inr pf))))), (p0, .inr (0, [.int b0, .int z0, .ref n0])), (n0, .inl (nc0, 40, .inr (.inl g0))), (p1, .inr (0, [.int b1, .int z1, .ref n1])), (n1, .inl (nc1, 40, .inr (.inl g1))), (p2, .inr (0, [.int b2, .int z2, .ref n2])), (n2, .inl (nc2, 40, .inr (.inl g2))), (p3, .inr (0, [.int b3, .int z3, .ref n3])), (n3, .inl (nc3, 40, .inr (.inl g3)))]) (w1 := [(h0, .inr (6, [v0, v1, v2, v3, v4, .ref ph, .ref t0, v7])), (t0, .inl (tc, 7, .inl tg_312))]) hP hD [0, 1] [2, 3, 4, 5, 6, 7, 8, 9, 10] rfl rfl (by decide) (by decide) hk1 hFc hP1 hD1
            generalize H1 = H at hP hS ⊢
            have hP : va_P (dC, dI) vwCl [(ph, .inl (pc, 4, .inr (.inr (.inr (.inr pf))))), (p0, .inr (0, [.int b0, .int z0, .ref n0])), (n0, .inl (nc0, 40, .inr (.inl g0))), (p1, .inr (0, [.int b1, .int z1, .ref n1])), (n1, .inl (nc1, 40, .inr (.inl g1))), (p2, .inr (0, [.int b2, .int z2, .ref n2])), (n2, .inl (nc2, 40, .inr (.inl g2))), (p3, .inr (0, [.int b3, .int z3, .ref n3])), (n3, .inl (nc3, 40, .inr (.inl g3))), (h0, .inr (6, [v0, v1, v2, v3, v4, .ref ph, .ref t0, v7])), (t0, .inl (tc, 7, .inl tg_312))] H := hP
            have hD : va_D A [(ph, .inl (pc, 4, .inr (.inr (.inr (.inr pf))))), (p0, .inr (0, [.int b0, .int z0, .ref n0])), (n0, .inl (nc0, 40, .inr (.inl g0))), (p1, .inr (0, [.int b1, .int z1, .ref n1])), (n1, .inl (nc1, 40, .inr (.inl g1))), (p2, .inr (0, [.int b2, .int z2, .ref n2])), (n2, .inl (nc2, 40, .inr (.inl g2))), (p3, .inr (0, [.int b3, .int z3, .ref n3])), (n3, .inl (nc3, 40, .inr (.inl g3))), (h0, .inr (6, [v0, v1, v2, v3, v4, .ref ph, .ref t0, v7])), (t0, .inl (tc, 7, .inl tg_312))] := hD
            subst hw
            have hP9 := hP.sub (ws' := [(h0, .inr (6, [v0, v1, v2, v3, v4, .ref ph, .ref t0, v7])), (t0, .inl (tc, 7, .inl tg_312)), (ph, .inl (pc, 4, .inr (.inr (.inr (.inr pf))))), (p0, .inr (0, [.int b0, .int z0, .ref n0])), (n0, .inl (nc0, 40, .inr (.inl g0))), (p1, .inr (0, [.int b1, .int z1, .ref n1])), (n1, .inl (nc1, 40, .inr (.inl g1))), (p2, .inr (0, [.int b2, .int z2, .ref n2])), (n2, .inl (nc2, 40, .inr (.inl g2))), (p3, .inr (0, [.int b3, .int z3, .ref n3])), (n3, .inl (nc3, 40, .inr (.inl g3)))]) [9, 10, 0, 1, 2, 3, 4, 5, 6, 7, 8] rfl
            have hD9 := hD.sub (ws' := [(h0, .inr (6, [v0, v1, v2, v3, v4, .ref ph, .ref t0, v7])), (t0, .inl (tc, 7, .inl tg_312)), (ph, .inl (pc, 4, .inr (.inr (.inr (.inr pf))))), (p0, .inr (0, [.int b0, .int z0, .ref n0])), (n0, .inl (nc0, 40, .inr (.inl g0))), (p1, .inr (0, [.int b1, .int z1, .ref n1])), (n1, .inl (nc1, 40, .inr (.inl g1))), (p2, .inr (0, [.int b2, .int z2, .ref n2])), (n2, .inl (nc2, 40, .inr (.inl g2))), (p3, .inr (0, [.int b3, .int z3, .ref n3])), (n3, .inl (nc3, 40, .inr (.inl g3)))]) [9, 10, 0, 1, 2, 3, 4, 5, 6, 7, 8] (by decide) rfl
            have hK9 := hK.sub (tys' := [(tc, .int), (pc, .object "LampShapes$Paper"), (nc0, .long), (nc1, .long), (nc2, .long), (nc3, .long)]) [0, 1, 2, 3, 4, 5] rfl
            exact W.iret (v := ((-1000000003) : Int32)) hx hb hr (fun t ht hW => ⟨⟨((-1000000003) : Int32), (), rfl, trivial, tg_312, g0, g1, g2, g3, by rw [ht]; exact hP9, va_K.moved hW.alike hK9, hD9⟩, hS.F ht⟩) hS.2.2 dX8_copy_74
        · skip
          have tc_300 : ¬ r_299.toInt = 0 := fun h => c_300 ((fa_eq _ _).mpr h)
          refine lv_aload_n hx hb dX8_copy_47 rfl (lv_at hl 2 rfl) ?_
          refine lv_ldcw hx hb hown (hts _ (List.mem_of_getElem? (i := 19) rfl)) dX8_copy_48 ?_
          have hPc := hP.sub (ws' := [(h0, .inr (6, [v0, v1, v2, v3, v4, .ref ph, .ref t0, v7])), (t0, .inl (tc, 7, .inl tf))]) [0, 1] rfl
          have hKc := hK.sub (tys' := [(tc, .int)]) [0] rfl
          have hDc := hD.sub (ws' := [(h0, .inr (6, [v0, v1, v2, v3, v4, .ref ph, .ref t0, v7])), (t0, .inl (tc, 7, .inl tf))]) [0, 1] (by decide) rfl
          have hFc := va_free (wc := [(h0, .inr (6, [v0, v1, v2, v3, v4, .ref ph, .ref t0, v7])), (t0, .inl (tc, 7, .inl tf))]) hD hS hA [0, 1] rfl
          refine va_calli (va_runV (As := [.int (-1000000006)]) (rest := []) ⟨hx, hb, hml, hown, hts⟩ (f_missing l dC dI ad h0 v0 v1 v2 v3 v4 (.ref ph) t0 v7 tc tf s.heap.size ) (cwV 1 hts g_x_copy_f_missing_63 rfl rfl rfl (by decide +kernel) ⟨(Nat.le_of_ble_eq_true rfl), (Nat.le_of_ble_eq_true rfl)⟩) ⟨preM_blind, va_recv hKc hPc (ci := 6) (q0 := 0) rfl rfl, fun U hU hW => ⟨rfl, preM_at hU hW hPc hKc hDc hev⟩⟩ rfl rfl hl.1 rfl (lv_room (Nat.le_of_ble_eq_true rfl)) dX8_copy_51 ⟨(Nat.le_of_ble_eq_true rfl), (Nat.le_of_ble_eq_true rfl)⟩) hS (fun q _ h => hFc q h) hFc (fun r_313 u t H1 locs ht hvm hw hB hz1 hk1 hS => ?_)
          obtain ⟨tg_314, hP1, hK1, hD1⟩ := hB
          rw [ht] at hP1
          have hK1 := va_K.moved hvm.symm hK1
          obtain ⟨hP, hD⟩ := va_join (wr := [(ph, .inl (pc, 4, .inr (.inr (.inr (.inr pf))))), (p0, .inr (0, [.int b0, .int z0, .ref n0])), (n0, .inl (nc0, 40, .inr (.inl g0))), (p1, .inr (0, [.int b1, .int z1, .ref n1])), (n1, .inl (nc1, 40, .inr (.inl g1))), (p2, .inr (0, [.int b2, .int z2, .ref n2])), (n2, .inl (nc2, 40, .inr (.inl g2))), (p3, .inr (0, [.int b3, .int z3, .ref n3])), (n3, .inl (nc3, 40, .inr (.inl g3)))]) (w1 := [(h0, .inr (6, [v0, v1, v2, v3, v4, .ref ph, .ref t0, v7])), (t0, .inl (tc, 7, .inl tg_314))]) hP hD [0, 1] [2, 3, 4, 5, 6, 7, 8, 9, 10] rfl rfl (by decide) (by decide) hk1 hFc hP1 hD1
          generalize H1 = H at hP hS ⊢
          have hP : va_P (dC, dI) vwCl [(ph, .inl (pc, 4, .inr (.inr (.inr (.inr pf))))), (p0, .inr (0, [.int b0, .int z0, .ref n0])), (n0, .inl (nc0, 40, .inr (.inl g0))), (p1, .inr (0, [.int b1, .int z1, .ref n1])), (n1, .inl (nc1, 40, .inr (.inl g1))), (p2, .inr (0, [.int b2, .int z2, .ref n2])), (n2, .inl (nc2, 40, .inr (.inl g2))), (p3, .inr (0, [.int b3, .int z3, .ref n3])), (n3, .inl (nc3, 40, .inr (.inl g3))), (h0, .inr (6, [v0, v1, v2, v3, v4, .ref ph, .ref t0, v7])), (t0, .inl (tc, 7, .inl tg_314))] H := hP
          have hD : va_D A [(ph, .inl (pc, 4, .inr (.inr (.inr (.inr pf))))), (p0, .inr (0, [.int b0, .int z0, .ref n0])), (n0, .inl (nc0, 40, .inr (.inl g0))), (p1, .inr (0, [.int b1, .int z1, .ref n1])), (n1, .inl (nc1, 40, .inr (.inl g1))), (p2, .inr (0, [.int b2, .int z2, .ref n2])), (n2, .inl (nc2, 40, .inr (.inl g2))), (p3, .inr (0, [.int b3, .int z3, .ref n3])), (n3, .inl (nc3, 40, .inr (.inl g3))), (h0, .inr (6, [v0, v1, v2, v3, v4, .ref ph, .ref t0, v7])), (t0, .inl (tc, 7, .inl tg_314))] := hD
          subst hw
          have hP9 := hP.sub (ws' := [(h0, .inr (6, [v0, v1, v2, v3, v4, .ref ph, .ref t0, v7])), (t0, .inl (tc, 7, .inl tg_314)), (ph, .inl (pc, 4, .inr (.inr (.inr (.inr pf))))), (p0, .inr (0, [.int b0, .int z0, .ref n0])), (n0, .inl (nc0, 40, .inr (.inl g0))), (p1, .inr (0, [.int b1, .int z1, .ref n1])), (n1, .inl (nc1, 40, .inr (.inl g1))), (p2, .inr (0, [.int b2, .int z2, .ref n2])), (n2, .inl (nc2, 40, .inr (.inl g2))), (p3, .inr (0, [.int b3, .int z3, .ref n3])), (n3, .inl (nc3, 40, .inr (.inl g3)))]) [9, 10, 0, 1, 2, 3, 4, 5, 6, 7, 8] rfl
          have hD9 := hD.sub (ws' := [(h0, .inr (6, [v0, v1, v2, v3, v4, .ref ph, .ref t0, v7])), (t0, .inl (tc, 7, .inl tg_314)), (ph, .inl (pc, 4, .inr (.inr (.inr (.inr pf))))), (p0, .inr (0, [.int b0, .int z0, .ref n0])), (n0, .inl (nc0, 40, .inr (.inl g0))), (p1, .inr (0, [.int b1, .int z1, .ref n1])), (n1, .inl (nc1, 40, .inr (.inl g1))), (p2, .inr (0, [.int b2, .int z2, .ref n2])), (n2, .inl (nc2, 40, .inr (.inl g2))), (p3, .inr (0, [.int b3, .int z3, .ref n3])), (n3, .inl (nc3, 40, .inr (.inl g3)))]) [9, 10, 0, 1, 2, 3, 4, 5, 6, 7, 8] (by decide) rfl
          have hK9 := hK.sub (tys' := [(tc, .int), (pc, .object "LampShapes$Paper"), (nc0, .long), (nc1, .long), (nc2, .long), (nc3, .long)]) [0, 1, 2, 3, 4, 5] rfl
          exact W.iret (v := ((-1000000006) : Int32)) hx hb hr (fun t ht hW => ⟨⟨((-1000000006) : Int32), (), rfl, trivial, tg_314, g0, g1, g2, g3, by rw [ht]; exact hP9, va_K.moved hW.alike hK9, hD9⟩, hS.F ht⟩) hS.2.2 dX8_copy_54
    · skip
      refine Met.ofW (cc := cX8_copy) (maxL := 8) (ret := (some .int)) (by decide) rfl ?_
      intro p e s m args below meth c s₁ B hml hv
      obtain ⟨rfl, hsz, hP, hK, hD0, hev⟩ := hv
      have hx := B.exec
      have hb := B.bytes
      have hr := B.returns
      have hts := atoms_spec (ws := w_x_copy) B.pre
      have hown : s.vm.findClass RX8 = some m.cls := findClass_of_methodNamed B.named
      have hlocks := B.notSynchronized
      have inX8 : ∀ w ∈ wsX80, w ∈ w_x_copy := fun w h => List.mem_cons_of_mem _ (List.mem_append_left _ (List.mem_append_right _ h))
      have inX2 : ∀ w ∈ wsX20, w ∈ w_x_copy := fun w h => List.mem_cons_of_mem _ (List.mem_append_right _ h)
      subst hsz
      have hD := hD0.self (sz := s.heap.size)
      generalize hAe : va_A [(h0, .inr (6, [v0, v1, v2, v3, v4, .ref ph, .ref t0, v7])), (t0, .inl (tc, 7, .inl tf)), (ph, .inl (pc, 4, .inr (.inr (.inr (.inr pf))))), (p0, .inr (0, [.int b0, .int z0, .ref n0])), (n0, .inl (nc0, 40, .inr (.inl g0))), (p1, .inr (0, [.int b1, .int z1, .ref n1])), (n1, .inl (nc1, 40, .inr (.inl g1))), (p2, .inr (0, [.int b2, .int z2, .ref n2])), (n2, .inl (nc2, 40, .inr (.inl g2))), (p3, .inr (0, [.int b3, .int z3, .ref n3])), (n3, .inl (nc3, 40, .inr (.inl g3)))] s.heap.size = A at hD ⊢
      have hA : ∀ q : Nat, s.heap.size ≤ q → A q := fun q h => by rw [← hAe]; exact Or.inr h
      have hS : va_S A s.heap s.heap [] := va_S.rf
      have hP : va_P (dC, dI) vwCl [(h0, .inr (6, [v0, v1, v2, v3, v4, .ref ph, .ref t0, v7])), (t0, .inl (tc, 7, .inl tf)), (ph, .inl (pc, 4, .inr (.inr (.inr (.inr pf))))), (p0, .inr (0, [.int b0, .int z0, .ref n0])), (n0, .inl (nc0, 40, .inr (.inl g0))), (p1, .inr (0, [.int b1, .int z1, .ref n1])), (n1, .inl (nc1, 40, .inr (.inl g1))), (p2, .inr (0, [.int b2, .int z2, .ref n2])), (n2, .inl (nc2, 40, .inr (.inl g2))), (p3, .inr (0, [.int b3, .int z3, .ref n3])), (n3, .inl (nc3, 40, .inr (.inl g3)))] s.heap := hP
      have hl := lv_entry ([.ref h0, .int 2, .int i, .int 3, .int j, .int n]) (n := 8) (Nat.le_of_ble_eq_true rfl)
      rw [lg_entry_eq]
      generalize (lg_sl ([.ref h0, .int 2, .int i, .int 3, .int j, .int n]) ++ List.replicate (8 - (lg_sl ([.ref h0, .int 2, .int i, .int 3, .int j, .int n])).length) Slot.unset).toArray = ls at hl ⊢
      have hl : lv_has ls 8 [(0, .ref h0), (1, .int 2), (2, .int i), (3, .int 3), (4, .int j), (5, .int n)] := hl
      refine lv_aload_n hx hb dX8_copy_0 rfl (lv_at hl 0 rfl) ?_
      refine lv_iload_n hx hb dX8_copy_1 rfl (lv_at hl 1 rfl) ?_
      have hPc := hP.sub (ws' := [(h0, .inr (6, [v0, v1, v2, v3, v4, .ref ph, .ref t0, v7])), (ph, .inl (pc, 4, .inr (.inr (.inr (.inr pf)))))]) [0, 2] rfl
      have hKc := hK.sub (tys' := [(pc, .object "LampShapes$Paper")]) [1] rfl
      refine va_csq (W.runV (As := [.int 2]) (rest := []) ⟨hx, hb, hml, hown, hts⟩ (c_paperAt_2 l dC dI ad h0 v0 v1 v2 v3 v4 ph (.ref t0) v7 pc pf p2 hp2) (cwV 1 hts g_x_copy_c_paperAt_2_256 rfl rfl rfl (by decide +kernel) ⟨(Nat.le_of_ble_eq_true rfl), (Nat.le_of_ble_eq_true rfl)⟩) ⟨preS_blind, va_recv hKc hPc (ci := 6) (q0 := 0) rfl rfl, fun U hU hW => ⟨rfl, preS_at hU hW hPc hKc hev⟩⟩ rfl rfl hl.1 rfl (lv_room (Nat.le_of_ble_eq_true rfl)) dX8_copy_2 ⟨(Nat.le_of_ble_eq_true rfl), (Nat.le_of_ble_eq_true rfl)⟩) (fun r_315 hw => ?_)
      subst hw
      refine pp_tv (y := .ref p2) rfl ?_
      refine lv_astore (lv' := [(6, .ref p2), (0, .ref h0), (1, .int 2), (2, .int i), (3, .int 3), (4, .int j), (5, .int n)]) hx hb dX8_copy_5 hl (by decide) rfl (fun ls hl => ?_)
      refine lv_aload_n hx hb dX8_copy_7 rfl (lv_at hl 1 rfl) ?_
      refine lv_iload_n hx hb dX8_copy_8 rfl (lv_at hl 4 rfl) ?_
      have hPc := hP.sub (ws' := [(h0, .inr (6, [v0, v1, v2, v3, v4, .ref ph, .ref t0, v7])), (ph, .inl (pc, 4, .inr (.inr (.inr (.inr pf)))))]) [0, 2] rfl
      have hKc := hK.sub (tys' := [(pc, .object "LampShapes$Paper")]) [1] rfl
      refine va_csq (W.runV (As := [.int 3]) (rest := []) ⟨hx, hb, hml, hown, hts⟩ (c_paperAt_3 l dC dI ad h0 v0 v1 v2 v3 v4 ph (.ref t0) v7 pc pf p3 hp3) (cwV 1 hts g_x_copy_c_paperAt_3_256 rfl rfl rfl (by decide +kernel) ⟨(Nat.le_of_ble_eq_true rfl), (Nat.le_of_ble_eq_true rfl)⟩) ⟨preS_blind, va_recv hKc hPc (ci := 6) (q0 := 0) rfl rfl, fun U hU hW => ⟨rfl, preS_at hU hW hPc hKc hev⟩⟩ rfl rfl hl.1 rfl (lv_room (Nat.le_of_ble_eq_true rfl)) dX8_copy_9 ⟨(Nat.le_of_ble_eq_true rfl), (Nat.le_of_ble_eq_true rfl)⟩) (fun r_316 hw => ?_)
      subst hw
      refine pp_tv (y := .ref p3) rfl ?_
      refine lv_astore (lv' := [(7, .ref p3), (6, .ref p2), (0, .ref h0), (1, .int 2), (2, .int i), (3, .int 3), (4, .int j), (5, .int n)]) hx hb dX8_copy_12 hl (by decide) rfl (fun ls hl => ?_)
      refine lv_aload hx hb dX8_copy_14 (lv_at hl 1 rfl) ?_
      refine lv_ifnull hx hb dX8_copy_16 ?_
      refine lv_aload hx hb dX8_copy_19 (lv_at hl 0 rfl) ?_
      refine lv_ifnonnull (tgt := 31) hx hb dX8_copy_21 (by decide) ?_
      refine lv_aload hx hb dX8_copy_31 (lv_at hl 1 rfl) ?_
      have hPc := hP.sub (ws' := [(p2, .inr (0, [.int b2, .int z2, .ref n2]))]) [7] rfl
      have hKc := hK.sub (tys' := []) [] rfl
      refine vp_callSi (W.runV (As := []) (rest := []) ⟨hx, hb, hml, hown, hts⟩ (p_isMissing l dC dI ad p2 b2 (.int z2) (.ref n2) ) (cwV 0 hts g_x_copy_p_isMissing_268 rfl rfl rfl (by decide +kernel) ⟨(Nat.le_of_ble_eq_true rfl), (Nat.le_of_ble_eq_true rfl)⟩) ⟨preS_blind, va_recv hKc hPc (ci := 0) (q0 := 0) rfl rfl, fun U hU hW => ⟨rfl, preS_at hU hW hPc hKc hev⟩⟩ rfl rfl hl.1 rfl (lv_room (Nat.le_of_ble_eq_true rfl)) dX8_copy_33 ⟨(Nat.le_of_ble_eq_true rfl), (Nat.le_of_ble_eq_true rfl)⟩) (fun r_317 hw => ?_)
      have hr_317 : (r_317.toInt = 1 ∧ b2.toInt = 0) ∨ (r_317.toInt = 0 ∧ ¬ b2.toInt = 0) := hw
      refine lv_if_ne (tgt := 47) hx hb dX8_copy_36 (by decide) (fun c_318 => ?_) (fun c_318 => ?_)
      · skip
        have tc_318 : ¬ r_317.toInt = 0 := fun h => c_318 ((fa_eq _ _).mpr h)
        refine lv_aload_n hx hb dX8_copy_47 rfl (lv_at hl 2 rfl) ?_
        refine lv_ldcw hx hb hown (hts _ (List.mem_of_getElem? (i := 19) rfl)) dX8_copy_48 ?_
        have hPc := hP.sub (ws' := [(h0, .inr (6, [v0, v1, v2, v3, v4, .ref ph, .ref t0, v7])), (t0, .inl (tc, 7, .inl tf))]) [0, 1] rfl
        have hKc := hK.sub (tys' := [(tc, .int)]) [0] rfl
        have hDc := hD.sub (ws' := [(h0, .inr (6, [v0, v1, v2, v3, v4, .ref ph, .ref t0, v7])), (t0, .inl (tc, 7, .inl tf))]) [0, 1] (by decide) rfl
        have hFc := va_free (wc := [(h0, .inr (6, [v0, v1, v2, v3, v4, .ref ph, .ref t0, v7])), (t0, .inl (tc, 7, .inl tf))]) hD hS hA [0, 1] rfl
        refine va_calli (va_runV (As := [.int (-1000000006)]) (rest := []) ⟨hx, hb, hml, hown, hts⟩ (f_missing l dC dI ad h0 v0 v1 v2 v3 v4 (.ref ph) t0 v7 tc tf s.heap.size ) (cwV 1 hts g_x_copy_f_missing_63 rfl rfl rfl (by decide +kernel) ⟨(Nat.le_of_ble_eq_true rfl), (Nat.le_of_ble_eq_true rfl)⟩) ⟨preM_blind, va_recv hKc hPc (ci := 6) (q0 := 0) rfl rfl, fun U hU hW => ⟨rfl, preM_at hU hW hPc hKc hDc hev⟩⟩ rfl rfl hl.1 rfl (lv_room (Nat.le_of_ble_eq_true rfl)) dX8_copy_51 ⟨(Nat.le_of_ble_eq_true rfl), (Nat.le_of_ble_eq_true rfl)⟩) hS (fun q _ h => hFc q h) hFc (fun r_319 u t H1 locs ht hvm hw hB hz1 hk1 hS => ?_)
        obtain ⟨tg_320, hP1, hK1, hD1⟩ := hB
        rw [ht] at hP1
        have hK1 := va_K.moved hvm.symm hK1
        obtain ⟨hP, hD⟩ := va_join (wr := [(ph, .inl (pc, 4, .inr (.inr (.inr (.inr pf))))), (p0, .inr (0, [.int b0, .int z0, .ref n0])), (n0, .inl (nc0, 40, .inr (.inl g0))), (p1, .inr (0, [.int b1, .int z1, .ref n1])), (n1, .inl (nc1, 40, .inr (.inl g1))), (p2, .inr (0, [.int b2, .int z2, .ref n2])), (n2, .inl (nc2, 40, .inr (.inl g2))), (p3, .inr (0, [.int b3, .int z3, .ref n3])), (n3, .inl (nc3, 40, .inr (.inl g3)))]) (w1 := [(h0, .inr (6, [v0, v1, v2, v3, v4, .ref ph, .ref t0, v7])), (t0, .inl (tc, 7, .inl tg_320))]) hP hD [0, 1] [2, 3, 4, 5, 6, 7, 8, 9, 10] rfl rfl (by decide) (by decide) hk1 hFc hP1 hD1
        generalize H1 = H at hP hS ⊢
        have hP : va_P (dC, dI) vwCl [(ph, .inl (pc, 4, .inr (.inr (.inr (.inr pf))))), (p0, .inr (0, [.int b0, .int z0, .ref n0])), (n0, .inl (nc0, 40, .inr (.inl g0))), (p1, .inr (0, [.int b1, .int z1, .ref n1])), (n1, .inl (nc1, 40, .inr (.inl g1))), (p2, .inr (0, [.int b2, .int z2, .ref n2])), (n2, .inl (nc2, 40, .inr (.inl g2))), (p3, .inr (0, [.int b3, .int z3, .ref n3])), (n3, .inl (nc3, 40, .inr (.inl g3))), (h0, .inr (6, [v0, v1, v2, v3, v4, .ref ph, .ref t0, v7])), (t0, .inl (tc, 7, .inl tg_320))] H := hP
        have hD : va_D A [(ph, .inl (pc, 4, .inr (.inr (.inr (.inr pf))))), (p0, .inr (0, [.int b0, .int z0, .ref n0])), (n0, .inl (nc0, 40, .inr (.inl g0))), (p1, .inr (0, [.int b1, .int z1, .ref n1])), (n1, .inl (nc1, 40, .inr (.inl g1))), (p2, .inr (0, [.int b2, .int z2, .ref n2])), (n2, .inl (nc2, 40, .inr (.inl g2))), (p3, .inr (0, [.int b3, .int z3, .ref n3])), (n3, .inl (nc3, 40, .inr (.inl g3))), (h0, .inr (6, [v0, v1, v2, v3, v4, .ref ph, .ref t0, v7])), (t0, .inl (tc, 7, .inl tg_320))] := hD
        subst hw
        have hP9 := hP.sub (ws' := [(h0, .inr (6, [v0, v1, v2, v3, v4, .ref ph, .ref t0, v7])), (t0, .inl (tc, 7, .inl tg_320)), (ph, .inl (pc, 4, .inr (.inr (.inr (.inr pf))))), (p0, .inr (0, [.int b0, .int z0, .ref n0])), (n0, .inl (nc0, 40, .inr (.inl g0))), (p1, .inr (0, [.int b1, .int z1, .ref n1])), (n1, .inl (nc1, 40, .inr (.inl g1))), (p2, .inr (0, [.int b2, .int z2, .ref n2])), (n2, .inl (nc2, 40, .inr (.inl g2))), (p3, .inr (0, [.int b3, .int z3, .ref n3])), (n3, .inl (nc3, 40, .inr (.inl g3)))]) [9, 10, 0, 1, 2, 3, 4, 5, 6, 7, 8] rfl
        have hD9 := hD.sub (ws' := [(h0, .inr (6, [v0, v1, v2, v3, v4, .ref ph, .ref t0, v7])), (t0, .inl (tc, 7, .inl tg_320)), (ph, .inl (pc, 4, .inr (.inr (.inr (.inr pf))))), (p0, .inr (0, [.int b0, .int z0, .ref n0])), (n0, .inl (nc0, 40, .inr (.inl g0))), (p1, .inr (0, [.int b1, .int z1, .ref n1])), (n1, .inl (nc1, 40, .inr (.inl g1))), (p2, .inr (0, [.int b2, .int z2, .ref n2])), (n2, .inl (nc2, 40, .inr (.inl g2))), (p3, .inr (0, [.int b3, .int z3, .ref n3])), (n3, .inl (nc3, 40, .inr (.inl g3)))]) [9, 10, 0, 1, 2, 3, 4, 5, 6, 7, 8] (by decide) rfl
        have hK9 := hK.sub (tys' := [(tc, .int), (pc, .object "LampShapes$Paper"), (nc0, .long), (nc1, .long), (nc2, .long), (nc3, .long)]) [0, 1, 2, 3, 4, 5] rfl
        exact W.iret (v := ((-1000000006) : Int32)) hx hb hr (fun t ht hW => ⟨⟨((-1000000006) : Int32), (), rfl, trivial, tg_320, g0, g1, g2, g3, by rw [ht]; exact hP9, va_K.moved hW.alike hK9, hD9⟩, hS.F ht⟩) hS.2.2 dX8_copy_54
      · skip
        have tc_318 : r_317.toInt = 0 := (fa_eq _ _).mp c_318
        refine lv_aload hx hb dX8_copy_39 (lv_at hl 0 rfl) ?_
        have hPc := hP.sub (ws' := [(p3, .inr (0, [.int b3, .int z3, .ref n3]))]) [9] rfl
        have hKc := hK.sub (tys' := []) [] rfl
        refine vp_callSi (W.runV (As := []) (rest := []) ⟨hx, hb, hml, hown, hts⟩ (p_isMissing l dC dI ad p3 b3 (.int z3) (.ref n3) ) (cwV 0 hts g_x_copy_p_isMissing_268 rfl rfl rfl (by decide +kernel) ⟨(Nat.le_of_ble_eq_true rfl), (Nat.le_of_ble_eq_true rfl)⟩) ⟨preS_blind, va_recv hKc hPc (ci := 0) (q0 := 0) rfl rfl, fun U hU hW => ⟨rfl, preS_at hU hW hPc hKc hev⟩⟩ rfl rfl hl.1 rfl (lv_room (Nat.le_of_ble_eq_true rfl)) dX8_copy_41 ⟨(Nat.le_of_ble_eq_true rfl), (Nat.le_of_ble_eq_true rfl)⟩) (fun r_321 hw => ?_)
        have hr_321 : (r_321.toInt = 1 ∧ b3.toInt = 0) ∨ (r_321.toInt = 0 ∧ ¬ b3.toInt = 0) := hw
        refine lv_if_eq (tgt := 55) hx hb dX8_copy_44 (by decide) (fun c_322 => ?_) (fun c_322 => ?_)
        · skip
          have tc_322 : r_321.toInt = 0 := (fa_eq _ _).mp c_322
          refine lv_aload hx hb dX8_copy_55 (lv_at hl 1 rfl) ?_
          refine va_getN (D := (dC, dI)) (ci := 0) (v := .int b2) (C := RX2) (T := TX2) (N := 3) hx hb hts inX2 hown hK hP 7 rfl rfl 0 (by decide) (ev_nest hev 21 rfl) (fun _ h9 => h9) rfl dX8_copy_57 ?_
          refine lv_aload hx hb dX8_copy_60 (lv_at hl 0 rfl) ?_
          refine va_getN (D := (dC, dI)) (ci := 0) (v := .int b3) (C := RX2) (T := TX2) (N := 3) hx hb hts inX2 hown hK hP 9 rfl rfl 0 (by decide) (ev_nest hev 21 rfl) (fun _ h9 => h9) rfl dX8_copy_62 ?_
          have rc_323_x := pp_rng b2
          have rc_323_y := pp_rng b3
          refine lv_icmp_eq (tgt := 75) hx hb dX8_copy_65 (by decide) (fun c_323 => ?_) (fun c_323 => ?_)
          · skip
            have tc_323 : b2.toInt = b3.toInt := (fa_eq _ _).mp c_323
            refine lv_aload hx hb dX8_copy_75 (lv_at hl 1 rfl) ?_
            refine lv_iload_n hx hb dX8_copy_77 rfl (lv_at hl 4 rfl) ?_
            refine lv_iload hx hb dX8_copy_78 (lv_at hl 7 rfl) ?_
            have hPc := hP.sub (ws' := [(p2, .inr (0, [.int b2, .int z2, .ref n2]))]) [7] rfl
            have hKc := hK.sub (tys' := []) [] rfl
            refine vp_callSi (W.runV (As := [.int i, .int n]) (rest := []) ⟨hx, hb, hml, hown, hts⟩ (p_hasPart l dC dI ad p2 i n (.int b2) z2 (.ref n2) hz2) (cwV 2 hts g_x_copy_p_hasPart_282 rfl rfl rfl (by decide +kernel) ⟨(Nat.le_of_ble_eq_true rfl), (Nat.le_of_ble_eq_true rfl)⟩) ⟨preS_blind, va_recv hKc hPc (ci := 0) (q0 := 0) rfl rfl, fun U hU hW => ⟨rfl, preS_at hU hW hPc hKc hev⟩⟩ rfl rfl hl.1 rfl (lv_room (Nat.le_of_ble_eq_true rfl)) dX8_copy_80 ⟨(Nat.le_of_ble_eq_true rfl), (Nat.le_of_ble_eq_true rfl)⟩) (fun r_324 hw => ?_)
            have hr_324 : (r_324.toInt = 1 ∧ 0 ≤ i.toInt ∧ 0 ≤ n.toInt ∧ i.toInt + n.toInt ≤ z2.toInt) ∨ (r_324.toInt = 0 ∧ ¬ (0 ≤ i.toInt ∧ 0 ≤ n.toInt ∧ i.toInt + n.toInt ≤ z2.toInt)) := hw
            refine lv_if_eq (tgt := 98) hx hb dX8_copy_83 (by decide) (fun c_325 => ?_) (fun c_325 => ?_)
            · skip
              have tc_325 : r_324.toInt = 0 := (fa_eq _ _).mp c_325
              refine lv_aload_n hx hb dX8_copy_98 rfl (lv_at hl 2 rfl) ?_
              refine lv_ldc hx hb hown (hts _ (List.mem_of_getElem? (i := 6) rfl)) dX8_copy_99 ?_
              have hPc := hP.sub (ws' := [(h0, .inr (6, [v0, v1, v2, v3, v4, .ref ph, .ref t0, v7])), (t0, .inl (tc, 7, .inl tf))]) [0, 1] rfl
              have hKc := hK.sub (tys' := [(tc, .int)]) [0] rfl
              have hDc := hD.sub (ws' := [(h0, .inr (6, [v0, v1, v2, v3, v4, .ref ph, .ref t0, v7])), (t0, .inl (tc, 7, .inl tf))]) [0, 1] (by decide) rfl
              have hFc := va_free (wc := [(h0, .inr (6, [v0, v1, v2, v3, v4, .ref ph, .ref t0, v7])), (t0, .inl (tc, 7, .inl tf))]) hD hS hA [0, 1] rfl
              refine va_calli (va_runV (As := [.int (-1000000001)]) (rest := []) ⟨hx, hb, hml, hown, hts⟩ (f_beyond l dC dI ad h0 v0 v1 v2 v3 v4 (.ref ph) t0 v7 tc tf s.heap.size ) (cwV 1 hts g_x_copy_f_beyond_63 rfl rfl rfl (by decide +kernel) ⟨(Nat.le_of_ble_eq_true rfl), (Nat.le_of_ble_eq_true rfl)⟩) ⟨preM_blind, va_recv hKc hPc (ci := 6) (q0 := 0) rfl rfl, fun U hU hW => ⟨rfl, preM_at hU hW hPc hKc hDc hev⟩⟩ rfl rfl hl.1 rfl (lv_room (Nat.le_of_ble_eq_true rfl)) dX8_copy_101 ⟨(Nat.le_of_ble_eq_true rfl), (Nat.le_of_ble_eq_true rfl)⟩) hS (fun q _ h => hFc q h) hFc (fun r_326 u t H1 locs ht hvm hw hB hz1 hk1 hS => ?_)
              obtain ⟨tg_327, hP1, hK1, hD1⟩ := hB
              rw [ht] at hP1
              have hK1 := va_K.moved hvm.symm hK1
              obtain ⟨hP, hD⟩ := va_join (wr := [(ph, .inl (pc, 4, .inr (.inr (.inr (.inr pf))))), (p0, .inr (0, [.int b0, .int z0, .ref n0])), (n0, .inl (nc0, 40, .inr (.inl g0))), (p1, .inr (0, [.int b1, .int z1, .ref n1])), (n1, .inl (nc1, 40, .inr (.inl g1))), (p2, .inr (0, [.int b2, .int z2, .ref n2])), (n2, .inl (nc2, 40, .inr (.inl g2))), (p3, .inr (0, [.int b3, .int z3, .ref n3])), (n3, .inl (nc3, 40, .inr (.inl g3)))]) (w1 := [(h0, .inr (6, [v0, v1, v2, v3, v4, .ref ph, .ref t0, v7])), (t0, .inl (tc, 7, .inl tg_327))]) hP hD [0, 1] [2, 3, 4, 5, 6, 7, 8, 9, 10] rfl rfl (by decide) (by decide) hk1 hFc hP1 hD1
              generalize H1 = H at hP hS ⊢
              have hP : va_P (dC, dI) vwCl [(ph, .inl (pc, 4, .inr (.inr (.inr (.inr pf))))), (p0, .inr (0, [.int b0, .int z0, .ref n0])), (n0, .inl (nc0, 40, .inr (.inl g0))), (p1, .inr (0, [.int b1, .int z1, .ref n1])), (n1, .inl (nc1, 40, .inr (.inl g1))), (p2, .inr (0, [.int b2, .int z2, .ref n2])), (n2, .inl (nc2, 40, .inr (.inl g2))), (p3, .inr (0, [.int b3, .int z3, .ref n3])), (n3, .inl (nc3, 40, .inr (.inl g3))), (h0, .inr (6, [v0, v1, v2, v3, v4, .ref ph, .ref t0, v7])), (t0, .inl (tc, 7, .inl tg_327))] H := hP
              have hD : va_D A [(ph, .inl (pc, 4, .inr (.inr (.inr (.inr pf))))), (p0, .inr (0, [.int b0, .int z0, .ref n0])), (n0, .inl (nc0, 40, .inr (.inl g0))), (p1, .inr (0, [.int b1, .int z1, .ref n1])), (n1, .inl (nc1, 40, .inr (.inl g1))), (p2, .inr (0, [.int b2, .int z2, .ref n2])), (n2, .inl (nc2, 40, .inr (.inl g2))), (p3, .inr (0, [.int b3, .int z3, .ref n3])), (n3, .inl (nc3, 40, .inr (.inl g3))), (h0, .inr (6, [v0, v1, v2, v3, v4, .ref ph, .ref t0, v7])), (t0, .inl (tc, 7, .inl tg_327))] := hD
              subst hw
              have hP9 := hP.sub (ws' := [(h0, .inr (6, [v0, v1, v2, v3, v4, .ref ph, .ref t0, v7])), (t0, .inl (tc, 7, .inl tg_327)), (ph, .inl (pc, 4, .inr (.inr (.inr (.inr pf))))), (p0, .inr (0, [.int b0, .int z0, .ref n0])), (n0, .inl (nc0, 40, .inr (.inl g0))), (p1, .inr (0, [.int b1, .int z1, .ref n1])), (n1, .inl (nc1, 40, .inr (.inl g1))), (p2, .inr (0, [.int b2, .int z2, .ref n2])), (n2, .inl (nc2, 40, .inr (.inl g2))), (p3, .inr (0, [.int b3, .int z3, .ref n3])), (n3, .inl (nc3, 40, .inr (.inl g3)))]) [9, 10, 0, 1, 2, 3, 4, 5, 6, 7, 8] rfl
              have hD9 := hD.sub (ws' := [(h0, .inr (6, [v0, v1, v2, v3, v4, .ref ph, .ref t0, v7])), (t0, .inl (tc, 7, .inl tg_327)), (ph, .inl (pc, 4, .inr (.inr (.inr (.inr pf))))), (p0, .inr (0, [.int b0, .int z0, .ref n0])), (n0, .inl (nc0, 40, .inr (.inl g0))), (p1, .inr (0, [.int b1, .int z1, .ref n1])), (n1, .inl (nc1, 40, .inr (.inl g1))), (p2, .inr (0, [.int b2, .int z2, .ref n2])), (n2, .inl (nc2, 40, .inr (.inl g2))), (p3, .inr (0, [.int b3, .int z3, .ref n3])), (n3, .inl (nc3, 40, .inr (.inl g3)))]) [9, 10, 0, 1, 2, 3, 4, 5, 6, 7, 8] (by decide) rfl
              have hK9 := hK.sub (tys' := [(tc, .int), (pc, .object "LampShapes$Paper"), (nc0, .long), (nc1, .long), (nc2, .long), (nc3, .long)]) [0, 1, 2, 3, 4, 5] rfl
              exact W.iret (v := ((-1000000001) : Int32)) hx hb hr (fun t ht hW => ⟨⟨((-1000000001) : Int32), (), rfl, trivial, tg_327, g0, g1, g2, g3, by rw [ht]; exact hP9, va_K.moved hW.alike hK9, hD9⟩, hS.F ht⟩) hS.2.2 dX8_copy_104
            · skip
              have tc_325 : ¬ r_324.toInt = 0 := fun h => c_325 ((fa_eq _ _).mpr h)
              refine lv_aload hx hb dX8_copy_86 (lv_at hl 0 rfl) ?_
              refine lv_iload hx hb dX8_copy_88 (lv_at hl 6 rfl) ?_
              refine lv_iload hx hb dX8_copy_90 (lv_at hl 7 rfl) ?_
              have hPc := hP.sub (ws' := [(p3, .inr (0, [.int b3, .int z3, .ref n3]))]) [9] rfl
              have hKc := hK.sub (tys' := []) [] rfl
              refine vp_callSi (W.runV (As := [.int j, .int n]) (rest := []) ⟨hx, hb, hml, hown, hts⟩ (p_hasPart l dC dI ad p3 j n (.int b3) z3 (.ref n3) hz3) (cwV 2 hts g_x_copy_p_hasPart_282 rfl rfl rfl (by decide +kernel) ⟨(Nat.le_of_ble_eq_true rfl), (Nat.le_of_ble_eq_true rfl)⟩) ⟨preS_blind, va_recv hKc hPc (ci := 0) (q0 := 0) rfl rfl, fun U hU hW => ⟨rfl, preS_at hU hW hPc hKc hev⟩⟩ rfl rfl hl.1 rfl (lv_room (Nat.le_of_ble_eq_true rfl)) dX8_copy_92 ⟨(Nat.le_of_ble_eq_true rfl), (Nat.le_of_ble_eq_true rfl)⟩) (fun r_328 hw => ?_)
              have hr_328 : (r_328.toInt = 1 ∧ 0 ≤ j.toInt ∧ 0 ≤ n.toInt ∧ j.toInt + n.toInt ≤ z3.toInt) ∨ (r_328.toInt = 0 ∧ ¬ (0 ≤ j.toInt ∧ 0 ≤ n.toInt ∧ j.toInt + n.toInt ≤ z3.toInt)) := hw
              refine lv_if_ne (tgt := 105) hx hb dX8_copy_95 (by decide) (fun c_329 => ?_) (fun c_329 => ?_)
              · skip
                have tc_329 : ¬ r_328.toInt = 0 := fun h => c_329 ((fa_eq _ _).mpr h)
                refine lv_aload hx hb dX8_copy_105 (lv_at hl 1 rfl) ?_
                refine va_getN (D := (dC, dI)) (ci := 0) (v := .ref n2) (C := RX2) (T := TX2) (N := 3) hx hb hts inX2 hown hK hP 7 rfl rfl 2 (by decide) (ev_nest hev 23 rfl) (fun _ h9 => h9) rfl dX8_copy_107 ?_
                refine lv_iload_n hx hb dX8_copy_110 rfl (lv_at hl 4 rfl) ?_
                refine lv_aload hx hb dX8_copy_111 (lv_at hl 0 rfl) ?_
                refine va_getN (D := (dC, dI)) (ci := 0) (v := .ref n3) (C := RX2) (T := TX2) (N := 3) hx hb hts inX2 hown hK hP 9 rfl rfl 2 (by decide) (ev_nest hev 23 rfl) (fun _ h9 => h9) rfl dX8_copy_113 ?_
                refine lv_iload hx hb dX8_copy_116 (lv_at hl 6 rfl) ?_
                refine lv_iload hx hb dX8_copy_118 (lv_at hl 7 rfl) ?_
                refine va_copyl (ty := .long) hx hb (by rw [hml]; exact hl.1.symm) hown (hts _ (List.mem_of_getElem? (i := 25) rfl)) (hts _ (List.mem_of_getElem? (i := 26) rfl)) (hts _ (List.mem_of_getElem? (i := 27) rfl)) (hts _ (List.mem_of_getElem? (i := 28) rfl)) hK hP hD hS 8 10 4 5 rfl rfl rfl rfl rfl (fun h => absurd ((fa_lt _ _).mp h) (by show ¬ i.toInt < 0; omega)) (fun h => absurd ((fa_lt _ _).mp h) (by show ¬ j.toInt < 0; omega)) (fun h => absurd ((fa_lt _ _).mp h) (by show ¬ n.toInt < 0; omega)) (by show i.toInt.toNat + n.toInt.toNat ≤ 40; omega) (by show j.toInt.toNat + n.toInt.toNat ≤ 40; omega) (fun _ _ => rfl) (Nat.le_of_ble_eq_true rfl) (Nat.le_of_ble_eq_true rfl) dX8_copy_120 (fun H locs hP hD hS => ?_)
                generalize va_cpy g2 g3 i.toNatClampNeg j.toNatClampNeg n.toNatClampNeg = f_330 at hP hD
                have hP : va_P (dC, dI) vwCl [(h0, .inr (6, [v0, v1, v2, v3, v4, .ref ph, .ref t0, v7])), (t0, .inl (tc, 7, .inl tf)), (ph, .inl (pc, 4, .inr (.inr (.inr (.inr pf))))), (p0, .inr (0, [.int b0, .int z0, .ref n0])), (n0, .inl (nc0, 40, .inr (.inl g0))), (p1, .inr (0, [.int b1, .int z1, .ref n1])), (n1, .inl (nc1, 40, .inr (.inl g1))), (p2, .inr (0, [.int b2, .int z2, .ref n2])), (n2, .inl (nc2, 40, .inr (.inl g2))), (p3, .inr (0, [.int b3, .int z3, .ref n3])), (n3, .inl (nc3, 40, .inr (.inl f_330)))] H := hP
                have hD : va_D A [(h0, .inr (6, [v0, v1, v2, v3, v4, .ref ph, .ref t0, v7])), (t0, .inl (tc, 7, .inl tf)), (ph, .inl (pc, 4, .inr (.inr (.inr (.inr pf))))), (p0, .inr (0, [.int b0, .int z0, .ref n0])), (n0, .inl (nc0, 40, .inr (.inl g0))), (p1, .inr (0, [.int b1, .int z1, .ref n1])), (n1, .inl (nc1, 40, .inr (.inl g1))), (p2, .inr (0, [.int b2, .int z2, .ref n2])), (n2, .inl (nc2, 40, .inr (.inl g2))), (p3, .inr (0, [.int b3, .int z3, .ref n3])), (n3, .inl (nc3, 40, .inr (.inl f_330)))] := hD
                refine lv_iload hx hb dX8_copy_123 (lv_at hl 7 rfl) ?_
                have hP9 := hP.sub (ws' := [(h0, .inr (6, [v0, v1, v2, v3, v4, .ref ph, .ref t0, v7])), (t0, .inl (tc, 7, .inl tf)), (ph, .inl (pc, 4, .inr (.inr (.inr (.inr pf))))), (p0, .inr (0, [.int b0, .int z0, .ref n0])), (n0, .inl (nc0, 40, .inr (.inl g0))), (p1, .inr (0, [.int b1, .int z1, .ref n1])), (n1, .inl (nc1, 40, .inr (.inl g1))), (p2, .inr (0, [.int b2, .int z2, .ref n2])), (n2, .inl (nc2, 40, .inr (.inl g2))), (p3, .inr (0, [.int b3, .int z3, .ref n3])), (n3, .inl (nc3, 40, .inr (.inl f_330)))]) [0, 1, 2, 3, 4, 5, 6, 7, 8, 9, 10] rfl
                have hD9 := hD.sub (ws' := [(h0, .inr (6, [v0, v1, v2, v3, v4, .ref ph, .ref t0, v7])), (t0, .inl (tc, 7, .inl tf)), (ph, .inl (pc, 4, .inr (.inr (.inr (.inr pf))))), (p0, .inr (0, [.int b0, .int z0, .ref n0])), (n0, .inl (nc0, 40, .inr (.inl g0))), (p1, .inr (0, [.int b1, .int z1, .ref n1])), (n1, .inl (nc1, 40, .inr (.inl g1))), (p2, .inr (0, [.int b2, .int z2, .ref n2])), (n2, .inl (nc2, 40, .inr (.inl g2))), (p3, .inr (0, [.int b3, .int z3, .ref n3])), (n3, .inl (nc3, 40, .inr (.inl f_330)))]) [0, 1, 2, 3, 4, 5, 6, 7, 8, 9, 10] (by decide) rfl
                have hK9 := hK.sub (tys' := [(tc, .int), (pc, .object "LampShapes$Paper"), (nc0, .long), (nc1, .long), (nc2, .long), (nc3, .long)]) [0, 1, 2, 3, 4, 5] rfl
                exact W.iret (v := n) hx hb hr (fun t ht hW => ⟨⟨n, (), rfl, trivial, tf, g0, g1, g2, f_330, by rw [ht]; exact hP9, va_K.moved hW.alike hK9, hD9⟩, hS.F ht⟩) hS.2.2 dX8_copy_125
              · skip
                have tc_329 : r_328.toInt = 0 := (fa_eq _ _).mp c_329
                refine lv_aload_n hx hb dX8_copy_98 rfl (lv_at hl 2 rfl) ?_
                refine lv_ldc hx hb hown (hts _ (List.mem_of_getElem? (i := 6) rfl)) dX8_copy_99 ?_
                have hPc := hP.sub (ws' := [(h0, .inr (6, [v0, v1, v2, v3, v4, .ref ph, .ref t0, v7])), (t0, .inl (tc, 7, .inl tf))]) [0, 1] rfl
                have hKc := hK.sub (tys' := [(tc, .int)]) [0] rfl
                have hDc := hD.sub (ws' := [(h0, .inr (6, [v0, v1, v2, v3, v4, .ref ph, .ref t0, v7])), (t0, .inl (tc, 7, .inl tf))]) [0, 1] (by decide) rfl
                have hFc := va_free (wc := [(h0, .inr (6, [v0, v1, v2, v3, v4, .ref ph, .ref t0, v7])), (t0, .inl (tc, 7, .inl tf))]) hD hS hA [0, 1] rfl
                refine va_calli (va_runV (As := [.int (-1000000001)]) (rest := []) ⟨hx, hb, hml, hown, hts⟩ (f_beyond l dC dI ad h0 v0 v1 v2 v3 v4 (.ref ph) t0 v7 tc tf s.heap.size ) (cwV 1 hts g_x_copy_f_beyond_63 rfl rfl rfl (by decide +kernel) ⟨(Nat.le_of_ble_eq_true rfl), (Nat.le_of_ble_eq_true rfl)⟩) ⟨preM_blind, va_recv hKc hPc (ci := 6) (q0 := 0) rfl rfl, fun U hU hW => ⟨rfl, preM_at hU hW hPc hKc hDc hev⟩⟩ rfl rfl hl.1 rfl (lv_room (Nat.le_of_ble_eq_true rfl)) dX8_copy_101 ⟨(Nat.le_of_ble_eq_true rfl), (Nat.le_of_ble_eq_true rfl)⟩) hS (fun q _ h => hFc q h) hFc (fun r_331 u t H1 locs ht hvm hw hB hz1 hk1 hS => ?_)
                obtain ⟨tg_332, hP1, hK1, hD1⟩ := hB
                rw [ht] at hP1
                have hK1 := va_K.moved hvm.symm hK1
                obtain ⟨hP, hD⟩ := va_join (wr := [(ph, .inl (pc, 4, .inr (.inr (.inr (.inr pf))))), (p0, .inr (0, [.int b0, .int z0, .ref n0])), (n0, .inl (nc0, 40, .inr (.inl g0))), (p1, .inr (0, [.int b1, .int z1, .ref n1])), (n1, .inl (nc1, 40, .inr (.inl g1))), (p2, .inr (0, [.int b2, .int z2, .ref n2])), (n2, .inl (nc2, 40, .inr (.inl g2))), (p3, .inr (0, [.int b3, .int z3, .ref n3])), (n3, .inl (nc3, 40, .inr (.inl g3)))]) (w1 := [(h0, .inr (6, [v0, v1, v2, v3, v4, .ref ph, .ref t0, v7])), (t0, .inl (tc, 7, .inl tg_332))]) hP hD [0, 1] [2, 3, 4, 5, 6, 7, 8, 9, 10] rfl rfl (by decide) (by decide) hk1 hFc hP1 hD1
                generalize H1 = H at hP hS ⊢
                have hP : va_P (dC, dI) vwCl [(ph, .inl (pc, 4, .inr (.inr (.inr (.inr pf))))), (p0, .inr (0, [.int b0, .int z0, .ref n0])), (n0, .inl (nc0, 40, .inr (.inl g0))), (p1, .inr (0, [.int b1, .int z1, .ref n1])), (n1, .inl (nc1, 40, .inr (.inl g1))), (p2, .inr (0, [.int b2, .int z2, .ref n2])), (n2, .inl (nc2, 40, .inr (.inl g2))), (p3, .inr (0, [.int b3, .int z3, .ref n3])), (n3, .inl (nc3, 40, .inr (.inl g3))), (h0, .inr (6, [v0, v1, v2, v3, v4, .ref ph, .ref t0, v7])), (t0, .inl (tc, 7, .inl tg_332))] H := hP
                have hD : va_D A [(ph, .inl (pc, 4, .inr (.inr (.inr (.inr pf))))), (p0, .inr (0, [.int b0, .int z0, .ref n0])), (n0, .inl (nc0, 40, .inr (.inl g0))), (p1, .inr (0, [.int b1, .int z1, .ref n1])), (n1, .inl (nc1, 40, .inr (.inl g1))), (p2, .inr (0, [.int b2, .int z2, .ref n2])), (n2, .inl (nc2, 40, .inr (.inl g2))), (p3, .inr (0, [.int b3, .int z3, .ref n3])), (n3, .inl (nc3, 40, .inr (.inl g3))), (h0, .inr (6, [v0, v1, v2, v3, v4, .ref ph, .ref t0, v7])), (t0, .inl (tc, 7, .inl tg_332))] := hD
                subst hw
                have hP9 := hP.sub (ws' := [(h0, .inr (6, [v0, v1, v2, v3, v4, .ref ph, .ref t0, v7])), (t0, .inl (tc, 7, .inl tg_332)), (ph, .inl (pc, 4, .inr (.inr (.inr (.inr pf))))), (p0, .inr (0, [.int b0, .int z0, .ref n0])), (n0, .inl (nc0, 40, .inr (.inl g0))), (p1, .inr (0, [.int b1, .int z1, .ref n1])), (n1, .inl (nc1, 40, .inr (.inl g1))), (p2, .inr (0, [.int b2, .int z2, .ref n2])), (n2, .inl (nc2, 40, .inr (.inl g2))), (p3, .inr (0, [.int b3, .int z3, .ref n3])), (n3, .inl (nc3, 40, .inr (.inl g3)))]) [9, 10, 0, 1, 2, 3, 4, 5, 6, 7, 8] rfl
                have hD9 := hD.sub (ws' := [(h0, .inr (6, [v0, v1, v2, v3, v4, .ref ph, .ref t0, v7])), (t0, .inl (tc, 7, .inl tg_332)), (ph, .inl (pc, 4, .inr (.inr (.inr (.inr pf))))), (p0, .inr (0, [.int b0, .int z0, .ref n0])), (n0, .inl (nc0, 40, .inr (.inl g0))), (p1, .inr (0, [.int b1, .int z1, .ref n1])), (n1, .inl (nc1, 40, .inr (.inl g1))), (p2, .inr (0, [.int b2, .int z2, .ref n2])), (n2, .inl (nc2, 40, .inr (.inl g2))), (p3, .inr (0, [.int b3, .int z3, .ref n3])), (n3, .inl (nc3, 40, .inr (.inl g3)))]) [9, 10, 0, 1, 2, 3, 4, 5, 6, 7, 8] (by decide) rfl
                have hK9 := hK.sub (tys' := [(tc, .int), (pc, .object "LampShapes$Paper"), (nc0, .long), (nc1, .long), (nc2, .long), (nc3, .long)]) [0, 1, 2, 3, 4, 5] rfl
                exact W.iret (v := ((-1000000001) : Int32)) hx hb hr (fun t ht hW => ⟨⟨((-1000000001) : Int32), (), rfl, trivial, tg_332, g0, g1, g2, g3, by rw [ht]; exact hP9, va_K.moved hW.alike hK9, hD9⟩, hS.F ht⟩) hS.2.2 dX8_copy_104
          · skip
            have tc_323 : ¬ b2.toInt = b3.toInt := fun h => c_323 ((fa_eq _ _).mpr h)
            refine lv_aload_n hx hb dX8_copy_68 rfl (lv_at hl 2 rfl) ?_
            refine lv_ldc hx hb hown (hts _ (List.mem_of_getElem? (i := 29) rfl)) dX8_copy_69 ?_
            have hPc := hP.sub (ws' := [(h0, .inr (6, [v0, v1, v2, v3, v4, .ref ph, .ref t0, v7])), (t0, .inl (tc, 7, .inl tf))]) [0, 1] rfl
            have hKc := hK.sub (tys' := [(tc, .int)]) [0] rfl
            have hDc := hD.sub (ws' := [(h0, .inr (6, [v0, v1, v2, v3, v4, .ref ph, .ref t0, v7])), (t0, .inl (tc, 7, .inl tf))]) [0, 1] (by decide) rfl
            have hFc := va_free (wc := [(h0, .inr (6, [v0, v1, v2, v3, v4, .ref ph, .ref t0, v7])), (t0, .inl (tc, 7, .inl tf))]) hD hS hA [0, 1] rfl
            refine va_calli (va_runV (As := [.int (-1000000003)]) (rest := []) ⟨hx, hb, hml, hown, hts⟩ (f_kind l dC dI ad h0 v0 v1 v2 v3 v4 (.ref ph) t0 v7 tc tf s.heap.size ) (cwV 1 hts g_x_copy_f_kind_63 rfl rfl rfl (by decide +kernel) ⟨(Nat.le_of_ble_eq_true rfl), (Nat.le_of_ble_eq_true rfl)⟩) ⟨preM_blind, va_recv hKc hPc (ci := 6) (q0 := 0) rfl rfl, fun U hU hW => ⟨rfl, preM_at hU hW hPc hKc hDc hev⟩⟩ rfl rfl hl.1 rfl (lv_room (Nat.le_of_ble_eq_true rfl)) dX8_copy_71 ⟨(Nat.le_of_ble_eq_true rfl), (Nat.le_of_ble_eq_true rfl)⟩) hS (fun q _ h => hFc q h) hFc (fun r_333 u t H1 locs ht hvm hw hB hz1 hk1 hS => ?_)
            obtain ⟨tg_334, hP1, hK1, hD1⟩ := hB
            rw [ht] at hP1
            have hK1 := va_K.moved hvm.symm hK1
            obtain ⟨hP, hD⟩ := va_join (wr := [(ph, .inl (pc, 4, .inr (.inr (.inr (.inr pf))))), (p0, .inr (0, [.int b0, .int z0, .ref n0])), (n0, .inl (nc0, 40, .inr (.inl g0))), (p1, .inr (0, [.int b1, .int z1, .ref n1])), (n1, .inl (nc1, 40, .inr (.inl g1))), (p2, .inr (0, [.int b2, .int z2, .ref n2])), (n2, .inl (nc2, 40, .inr (.inl g2))), (p3, .inr (0, [.int b3, .int z3, .ref n3])), (n3, .inl (nc3, 40, .inr (.inl g3)))]) (w1 := [(h0, .inr (6, [v0, v1, v2, v3, v4, .ref ph, .ref t0, v7])), (t0, .inl (tc, 7, .inl tg_334))]) hP hD [0, 1] [2, 3, 4, 5, 6, 7, 8, 9, 10] rfl rfl (by decide) (by decide) hk1 hFc hP1 hD1
            generalize H1 = H at hP hS ⊢
            have hP : va_P (dC, dI) vwCl [(ph, .inl (pc, 4, .inr (.inr (.inr (.inr pf))))), (p0, .inr (0, [.int b0, .int z0, .ref n0])), (n0, .inl (nc0, 40, .inr (.inl g0))), (p1, .inr (0, [.int b1, .int z1, .ref n1])), (n1, .inl (nc1, 40, .inr (.inl g1))), (p2, .inr (0, [.int b2, .int z2, .ref n2])), (n2, .inl (nc2, 40, .inr (.inl g2))), (p3, .inr (0, [.int b3, .int z3, .ref n3])), (n3, .inl (nc3, 40, .inr (.inl g3))), (h0, .inr (6, [v0, v1, v2, v3, v4, .ref ph, .ref t0, v7])), (t0, .inl (tc, 7, .inl tg_334))] H := hP
            have hD : va_D A [(ph, .inl (pc, 4, .inr (.inr (.inr (.inr pf))))), (p0, .inr (0, [.int b0, .int z0, .ref n0])), (n0, .inl (nc0, 40, .inr (.inl g0))), (p1, .inr (0, [.int b1, .int z1, .ref n1])), (n1, .inl (nc1, 40, .inr (.inl g1))), (p2, .inr (0, [.int b2, .int z2, .ref n2])), (n2, .inl (nc2, 40, .inr (.inl g2))), (p3, .inr (0, [.int b3, .int z3, .ref n3])), (n3, .inl (nc3, 40, .inr (.inl g3))), (h0, .inr (6, [v0, v1, v2, v3, v4, .ref ph, .ref t0, v7])), (t0, .inl (tc, 7, .inl tg_334))] := hD
            subst hw
            have hP9 := hP.sub (ws' := [(h0, .inr (6, [v0, v1, v2, v3, v4, .ref ph, .ref t0, v7])), (t0, .inl (tc, 7, .inl tg_334)), (ph, .inl (pc, 4, .inr (.inr (.inr (.inr pf))))), (p0, .inr (0, [.int b0, .int z0, .ref n0])), (n0, .inl (nc0, 40, .inr (.inl g0))), (p1, .inr (0, [.int b1, .int z1, .ref n1])), (n1, .inl (nc1, 40, .inr (.inl g1))), (p2, .inr (0, [.int b2, .int z2, .ref n2])), (n2, .inl (nc2, 40, .inr (.inl g2))), (p3, .inr (0, [.int b3, .int z3, .ref n3])), (n3, .inl (nc3, 40, .inr (.inl g3)))]) [9, 10, 0, 1, 2, 3, 4, 5, 6, 7, 8] rfl
            have hD9 := hD.sub (ws' := [(h0, .inr (6, [v0, v1, v2, v3, v4, .ref ph, .ref t0, v7])), (t0, .inl (tc, 7, .inl tg_334)), (ph, .inl (pc, 4, .inr (.inr (.inr (.inr pf))))), (p0, .inr (0, [.int b0, .int z0, .ref n0])), (n0, .inl (nc0, 40, .inr (.inl g0))), (p1, .inr (0, [.int b1, .int z1, .ref n1])), (n1, .inl (nc1, 40, .inr (.inl g1))), (p2, .inr (0, [.int b2, .int z2, .ref n2])), (n2, .inl (nc2, 40, .inr (.inl g2))), (p3, .inr (0, [.int b3, .int z3, .ref n3])), (n3, .inl (nc3, 40, .inr (.inl g3)))]) [9, 10, 0, 1, 2, 3, 4, 5, 6, 7, 8] (by decide) rfl
            have hK9 := hK.sub (tys' := [(tc, .int), (pc, .object "LampShapes$Paper"), (nc0, .long), (nc1, .long), (nc2, .long), (nc3, .long)]) [0, 1, 2, 3, 4, 5] rfl
            exact W.iret (v := ((-1000000003) : Int32)) hx hb hr (fun t ht hW => ⟨⟨((-1000000003) : Int32), (), rfl, trivial, tg_334, g0, g1, g2, g3, by rw [ht]; exact hP9, va_K.moved hW.alike hK9, hD9⟩, hS.F ht⟩) hS.2.2 dX8_copy_74
        · skip
          have tc_322 : ¬ r_321.toInt = 0 := fun h => c_322 ((fa_eq _ _).mpr h)
          refine lv_aload_n hx hb dX8_copy_47 rfl (lv_at hl 2 rfl) ?_
          refine lv_ldcw hx hb hown (hts _ (List.mem_of_getElem? (i := 19) rfl)) dX8_copy_48 ?_
          have hPc := hP.sub (ws' := [(h0, .inr (6, [v0, v1, v2, v3, v4, .ref ph, .ref t0, v7])), (t0, .inl (tc, 7, .inl tf))]) [0, 1] rfl
          have hKc := hK.sub (tys' := [(tc, .int)]) [0] rfl
          have hDc := hD.sub (ws' := [(h0, .inr (6, [v0, v1, v2, v3, v4, .ref ph, .ref t0, v7])), (t0, .inl (tc, 7, .inl tf))]) [0, 1] (by decide) rfl
          have hFc := va_free (wc := [(h0, .inr (6, [v0, v1, v2, v3, v4, .ref ph, .ref t0, v7])), (t0, .inl (tc, 7, .inl tf))]) hD hS hA [0, 1] rfl
          refine va_calli (va_runV (As := [.int (-1000000006)]) (rest := []) ⟨hx, hb, hml, hown, hts⟩ (f_missing l dC dI ad h0 v0 v1 v2 v3 v4 (.ref ph) t0 v7 tc tf s.heap.size ) (cwV 1 hts g_x_copy_f_missing_63 rfl rfl rfl (by decide +kernel) ⟨(Nat.le_of_ble_eq_true rfl), (Nat.le_of_ble_eq_true rfl)⟩) ⟨preM_blind, va_recv hKc hPc (ci := 6) (q0 := 0) rfl rfl, fun U hU hW => ⟨rfl, preM_at hU hW hPc hKc hDc hev⟩⟩ rfl rfl hl.1 rfl (lv_room (Nat.le_of_ble_eq_true rfl)) dX8_copy_51 ⟨(Nat.le_of_ble_eq_true rfl), (Nat.le_of_ble_eq_true rfl)⟩) hS (fun q _ h => hFc q h) hFc (fun r_335 u t H1 locs ht hvm hw hB hz1 hk1 hS => ?_)
          obtain ⟨tg_336, hP1, hK1, hD1⟩ := hB
          rw [ht] at hP1
          have hK1 := va_K.moved hvm.symm hK1
          obtain ⟨hP, hD⟩ := va_join (wr := [(ph, .inl (pc, 4, .inr (.inr (.inr (.inr pf))))), (p0, .inr (0, [.int b0, .int z0, .ref n0])), (n0, .inl (nc0, 40, .inr (.inl g0))), (p1, .inr (0, [.int b1, .int z1, .ref n1])), (n1, .inl (nc1, 40, .inr (.inl g1))), (p2, .inr (0, [.int b2, .int z2, .ref n2])), (n2, .inl (nc2, 40, .inr (.inl g2))), (p3, .inr (0, [.int b3, .int z3, .ref n3])), (n3, .inl (nc3, 40, .inr (.inl g3)))]) (w1 := [(h0, .inr (6, [v0, v1, v2, v3, v4, .ref ph, .ref t0, v7])), (t0, .inl (tc, 7, .inl tg_336))]) hP hD [0, 1] [2, 3, 4, 5, 6, 7, 8, 9, 10] rfl rfl (by decide) (by decide) hk1 hFc hP1 hD1
          generalize H1 = H at hP hS ⊢
          have hP : va_P (dC, dI) vwCl [(ph, .inl (pc, 4, .inr (.inr (.inr (.inr pf))))), (p0, .inr (0, [.int b0, .int z0, .ref n0])), (n0, .inl (nc0, 40, .inr (.inl g0))), (p1, .inr (0, [.int b1, .int z1, .ref n1])), (n1, .inl (nc1, 40, .inr (.inl g1))), (p2, .inr (0, [.int b2, .int z2, .ref n2])), (n2, .inl (nc2, 40, .inr (.inl g2))), (p3, .inr (0, [.int b3, .int z3, .ref n3])), (n3, .inl (nc3, 40, .inr (.inl g3))), (h0, .inr (6, [v0, v1, v2, v3, v4, .ref ph, .ref t0, v7])), (t0, .inl (tc, 7, .inl tg_336))] H := hP
          have hD : va_D A [(ph, .inl (pc, 4, .inr (.inr (.inr (.inr pf))))), (p0, .inr (0, [.int b0, .int z0, .ref n0])), (n0, .inl (nc0, 40, .inr (.inl g0))), (p1, .inr (0, [.int b1, .int z1, .ref n1])), (n1, .inl (nc1, 40, .inr (.inl g1))), (p2, .inr (0, [.int b2, .int z2, .ref n2])), (n2, .inl (nc2, 40, .inr (.inl g2))), (p3, .inr (0, [.int b3, .int z3, .ref n3])), (n3, .inl (nc3, 40, .inr (.inl g3))), (h0, .inr (6, [v0, v1, v2, v3, v4, .ref ph, .ref t0, v7])), (t0, .inl (tc, 7, .inl tg_336))] := hD
          subst hw
          have hP9 := hP.sub (ws' := [(h0, .inr (6, [v0, v1, v2, v3, v4, .ref ph, .ref t0, v7])), (t0, .inl (tc, 7, .inl tg_336)), (ph, .inl (pc, 4, .inr (.inr (.inr (.inr pf))))), (p0, .inr (0, [.int b0, .int z0, .ref n0])), (n0, .inl (nc0, 40, .inr (.inl g0))), (p1, .inr (0, [.int b1, .int z1, .ref n1])), (n1, .inl (nc1, 40, .inr (.inl g1))), (p2, .inr (0, [.int b2, .int z2, .ref n2])), (n2, .inl (nc2, 40, .inr (.inl g2))), (p3, .inr (0, [.int b3, .int z3, .ref n3])), (n3, .inl (nc3, 40, .inr (.inl g3)))]) [9, 10, 0, 1, 2, 3, 4, 5, 6, 7, 8] rfl
          have hD9 := hD.sub (ws' := [(h0, .inr (6, [v0, v1, v2, v3, v4, .ref ph, .ref t0, v7])), (t0, .inl (tc, 7, .inl tg_336)), (ph, .inl (pc, 4, .inr (.inr (.inr (.inr pf))))), (p0, .inr (0, [.int b0, .int z0, .ref n0])), (n0, .inl (nc0, 40, .inr (.inl g0))), (p1, .inr (0, [.int b1, .int z1, .ref n1])), (n1, .inl (nc1, 40, .inr (.inl g1))), (p2, .inr (0, [.int b2, .int z2, .ref n2])), (n2, .inl (nc2, 40, .inr (.inl g2))), (p3, .inr (0, [.int b3, .int z3, .ref n3])), (n3, .inl (nc3, 40, .inr (.inl g3)))]) [9, 10, 0, 1, 2, 3, 4, 5, 6, 7, 8] (by decide) rfl
          have hK9 := hK.sub (tys' := [(tc, .int), (pc, .object "LampShapes$Paper"), (nc0, .long), (nc1, .long), (nc2, .long), (nc3, .long)]) [0, 1, 2, 3, 4, 5] rfl
          exact W.iret (v := ((-1000000006) : Int32)) hx hb hr (fun t ht hW => ⟨⟨((-1000000006) : Int32), (), rfl, trivial, tg_336, g0, g1, g2, g3, by rw [ht]; exact hP9, va_K.moved hW.alike hK9, hD9⟩, hS.F ht⟩) hS.2.2 dX8_copy_54
  · skip
    rcases pp_c_0_3 d with hlt1 | hgt1 | rfl | rfl | rfl | rfl
    · skip
      refine Met.ofW (cc := cX8_copy) (maxL := 8) (ret := (some .int)) (by decide) rfl ?_
      intro p e s m args below meth c s₁ B hml hv
      obtain ⟨rfl, hsz, hP, hK, hD0, hev⟩ := hv
      have hx := B.exec
      have hb := B.bytes
      have hr := B.returns
      have hts := atoms_spec (ws := w_x_copy) B.pre
      have hown : s.vm.findClass RX8 = some m.cls := findClass_of_methodNamed B.named
      have hlocks := B.notSynchronized
      have inX8 : ∀ w ∈ wsX80, w ∈ w_x_copy := fun w h => List.mem_cons_of_mem _ (List.mem_append_left _ (List.mem_append_right _ h))
      have inX2 : ∀ w ∈ wsX20, w ∈ w_x_copy := fun w h => List.mem_cons_of_mem _ (List.mem_append_right _ h)
      subst hsz
      have hD := hD0.self (sz := s.heap.size)
      generalize hAe : va_A [(h0, .inr (6, [v0, v1, v2, v3, v4, .ref ph, .ref t0, v7])), (t0, .inl (tc, 7, .inl tf)), (ph, .inl (pc, 4, .inr (.inr (.inr (.inr pf))))), (p0, .inr (0, [.int b0, .int z0, .ref n0])), (n0, .inl (nc0, 40, .inr (.inl g0))), (p1, .inr (0, [.int b1, .int z1, .ref n1])), (n1, .inl (nc1, 40, .inr (.inl g1))), (p2, .inr (0, [.int b2, .int z2, .ref n2])), (n2, .inl (nc2, 40, .inr (.inl g2))), (p3, .inr (0, [.int b3, .int z3, .ref n3])), (n3, .inl (nc3, 40, .inr (.inl g3)))] s.heap.size = A at hD ⊢
      have hA : ∀ q : Nat, s.heap.size ≤ q → A q := fun q h => by rw [← hAe]; exact Or.inr h
      have hS : va_S A s.heap s.heap [] := va_S.rf
      have hP : va_P (dC, dI) vwCl [(h0, .inr (6, [v0, v1, v2, v3, v4, .ref ph, .ref t0, v7])), (t0, .inl (tc, 7, .inl tf)), (ph, .inl (pc, 4, .inr (.inr (.inr (.inr pf))))), (p0, .inr (0, [.int b0, .int z0, .ref n0])), (n0, .inl (nc0, 40, .inr (.inl g0))), (p1, .inr (0, [.int b1, .int z1, .ref n1])), (n1, .inl (nc1, 40, .inr (.inl g1))), (p2, .inr (0, [.int b2, .int z2, .ref n2])), (n2, .inl (nc2, 40, .inr (.inl g2))), (p3, .inr (0, [.int b3, .int z3, .ref n3])), (n3, .inl (nc3, 40, .inr (.inl g3)))] s.heap := hP
      have hl := lv_entry ([.ref h0, .int 3, .int i, .int d, .int j, .int n]) (n := 8) (Nat.le_of_ble_eq_true rfl)
      rw [lg_entry_eq]
      generalize (lg_sl ([.ref h0, .int 3, .int i, .int d, .int j, .int n]) ++ List.replicate (8 - (lg_sl ([.ref h0, .int 3, .int i, .int d, .int j, .int n])).length) Slot.unset).toArray = ls at hl ⊢
      have hl : lv_has ls 8 [(0, .ref h0), (1, .int 3), (2, .int i), (3, .int d), (4, .int j), (5, .int n)] := hl
      have thlt1 : d.toInt < 0 := (fa_lt _ _).mp hlt1
      refine lv_aload_n hx hb dX8_copy_0 rfl (lv_at hl 0 rfl) ?_
      refine lv_iload_n hx hb dX8_copy_1 rfl (lv_at hl 1 rfl) ?_
      have hPc := hP.sub (ws' := [(h0, .inr (6, [v0, v1, v2, v3, v4, .ref ph, .ref t0, v7])), (ph, .inl (pc, 4, .inr (.inr (.inr (.inr pf)))))]) [0, 2] rfl
      have hKc := hK.sub (tys' := [(pc, .object "LampShapes$Paper")]) [1] rfl
      refine va_csq (W.runV (As := [.int 3]) (rest := []) ⟨hx, hb, hml, hown, hts⟩ (c_paperAt_3 l dC dI ad h0 v0 v1 v2 v3 v4 ph (.ref t0) v7 pc pf p3 hp3) (cwV 1 hts g_x_copy_c_paperAt_3_256 rfl rfl rfl (by decide +kernel) ⟨(Nat.le_of_ble_eq_true rfl), (Nat.le_of_ble_eq_true rfl)⟩) ⟨preS_blind, va_recv hKc hPc (ci := 6) (q0 := 0) rfl rfl, fun U hU hW => ⟨rfl, preS_at hU hW hPc hKc hev⟩⟩ rfl rfl hl.1 rfl (lv_room (Nat.le_of_ble_eq_true rfl)) dX8_copy_2 ⟨(Nat.le_of_ble_eq_true rfl), (Nat.le_of_ble_eq_true rfl)⟩) (fun r_337 hw => ?_)
      subst hw
      refine pp_tv (y := .ref p3) rfl ?_
      refine lv_astore (lv' := [(6, .ref p3), (0, .ref h0), (1, .int 3), (2, .int i), (3, .int d), (4, .int j), (5, .int n)]) hx hb dX8_copy_5 hl (by decide) rfl (fun ls hl => ?_)
      refine lv_aload_n hx hb dX8_copy_7 rfl (lv_at hl 1 rfl) ?_
      refine lv_iload_n hx hb dX8_copy_8 rfl (lv_at hl 4 rfl) ?_
      have hPc := hP.sub (ws' := [(h0, .inr (6, [v0, v1, v2, v3, v4, .ref ph, .ref t0, v7]))]) [0] rfl
      have hKc := hK.sub (tys' := []) [] rfl
      refine va_csq (W.runV (As := [.int d]) (rest := []) ⟨hx, hb, hml, hown, hts⟩ (c_paperAt_lt l dC dI ad h0 d v0 v1 v2 v3 v4 (.ref ph) (.ref t0) v7 hlt1) (cwV 1 hts g_x_copy_c_paperAt_lt_256 rfl rfl rfl (by decide +kernel) ⟨(Nat.le_of_ble_eq_true rfl), (Nat.le_of_ble_eq_true rfl)⟩) ⟨preS_blind, va_recv hKc hPc (ci := 6) (q0 := 0) rfl rfl, fun U hU hW => ⟨rfl, preS_at hU hW hPc hKc hev⟩⟩ rfl rfl hl.1 rfl (lv_room (Nat.le_of_ble_eq_true rfl)) dX8_copy_9 ⟨(Nat.le_of_ble_eq_true rfl), (Nat.le_of_ble_eq_true rfl)⟩) (fun r_338 hw => ?_)
      subst hw
      refine pp_tv (y := .null) rfl ?_
      refine lv_astoreN (lv' := [(7, .null), (6, .ref p3), (0, .ref h0), (1, .int 3), (2, .int i), (3, .int d), (4, .int j), (5, .int n)]) hx hb dX8_copy_12 hl (by decide) rfl (fun ls hl => ?_)
      refine lv_aload hx hb dX8_copy_14 (lv_at hl 1 rfl) ?_
      refine lv_ifnull hx hb dX8_copy_16 ?_
      refine lv_aloadN hx hb dX8_copy_19 (lv_at hl 0 rfl) ?_
      refine lv_ifnonnullN hx hb dX8_copy_21 ?_
      refine lv_aload_n hx hb dX8_copy_24 rfl (lv_at hl 2 rfl) ?_
      refine lv_ldc hx hb hown (hts _ (List.mem_of_getElem? (i := 6) rfl)) dX8_copy_25 ?_
      have hPc := hP.sub (ws' := [(h0, .inr (6, [v0, v1, v2, v3, v4, .ref ph, .ref t0, v7])), (t0, .inl (tc, 7, .inl tf))]) [0, 1] rfl
      have hKc := hK.sub (tys' := [(tc, .int)]) [0] rfl
      have hDc := hD.sub (ws' := [(h0, .inr (6, [v0, v1, v2, v3, v4, .ref ph, .ref t0, v7])), (t0, .inl (tc, 7, .inl tf))]) [0, 1] (by decide) rfl
      have hFc := va_free (wc := [(h0, .inr (6, [v0, v1, v2, v3, v4, .ref ph, .ref t0, v7])), (t0, .inl (tc, 7, .inl tf))]) hD hS hA [0, 1] rfl
      refine va_calli (va_runV (As := [.int (-1000000001)]) (rest := []) ⟨hx, hb, hml, hown, hts⟩ (f_beyond l dC dI ad h0 v0 v1 v2 v3 v4 (.ref ph) t0 v7 tc tf s.heap.size ) (cwV 1 hts g_x_copy_f_beyond_63 rfl rfl rfl (by decide +kernel) ⟨(Nat.le_of_ble_eq_true rfl), (Nat.le_of_ble_eq_true rfl)⟩) ⟨preM_blind, va_recv hKc hPc (ci := 6) (q0 := 0) rfl rfl, fun U hU hW => ⟨rfl, preM_at hU hW hPc hKc hDc hev⟩⟩ rfl rfl hl.1 rfl (lv_room (Nat.le_of_ble_eq_true rfl)) dX8_copy_27 ⟨(Nat.le_of_ble_eq_true rfl), (Nat.le_of_ble_eq_true rfl)⟩) hS (fun q _ h => hFc q h) hFc (fun r_339 u t H1 locs ht hvm hw hB hz1 hk1 hS => ?_)
      obtain ⟨tg_340, hP1, hK1, hD1⟩ := hB
      rw [ht] at hP1
      have hK1 := va_K.moved hvm.symm hK1
      obtain ⟨hP, hD⟩ := va_join (wr := [(ph, .inl (pc, 4, .inr (.inr (.inr (.inr pf))))), (p0, .inr (0, [.int b0, .int z0, .ref n0])), (n0, .inl (nc0, 40, .inr (.inl g0))), (p1, .inr (0, [.int b1, .int z1, .ref n1])), (n1, .inl (nc1, 40, .inr (.inl g1))), (p2, .inr (0, [.int b2, .int z2, .ref n2])), (n2, .inl (nc2, 40, .inr (.inl g2))), (p3, .inr (0, [.int b3, .int z3, .ref n3])), (n3, .inl (nc3, 40, .inr (.inl g3)))]) (w1 := [(h0, .inr (6, [v0, v1, v2, v3, v4, .ref ph, .ref t0, v7])), (t0, .inl (tc, 7, .inl tg_340))]) hP hD [0, 1] [2, 3, 4, 5, 6, 7, 8, 9, 10] rfl rfl (by decide) (by decide) hk1 hFc hP1 hD1
      generalize H1 = H at hP hS ⊢
      have hP : va_P (dC, dI) vwCl [(ph, .inl (pc, 4, .inr (.inr (.inr (.inr pf))))), (p0, .inr (0, [.int b0, .int z0, .ref n0])), (n0, .inl (nc0, 40, .inr (.inl g0))), (p1, .inr (0, [.int b1, .int z1, .ref n1])), (n1, .inl (nc1, 40, .inr (.inl g1))), (p2, .inr (0, [.int b2, .int z2, .ref n2])), (n2, .inl (nc2, 40, .inr (.inl g2))), (p3, .inr (0, [.int b3, .int z3, .ref n3])), (n3, .inl (nc3, 40, .inr (.inl g3))), (h0, .inr (6, [v0, v1, v2, v3, v4, .ref ph, .ref t0, v7])), (t0, .inl (tc, 7, .inl tg_340))] H := hP
      have hD : va_D A [(ph, .inl (pc, 4, .inr (.inr (.inr (.inr pf))))), (p0, .inr (0, [.int b0, .int z0, .ref n0])), (n0, .inl (nc0, 40, .inr (.inl g0))), (p1, .inr (0, [.int b1, .int z1, .ref n1])), (n1, .inl (nc1, 40, .inr (.inl g1))), (p2, .inr (0, [.int b2, .int z2, .ref n2])), (n2, .inl (nc2, 40, .inr (.inl g2))), (p3, .inr (0, [.int b3, .int z3, .ref n3])), (n3, .inl (nc3, 40, .inr (.inl g3))), (h0, .inr (6, [v0, v1, v2, v3, v4, .ref ph, .ref t0, v7])), (t0, .inl (tc, 7, .inl tg_340))] := hD
      subst hw
      have hP9 := hP.sub (ws' := [(h0, .inr (6, [v0, v1, v2, v3, v4, .ref ph, .ref t0, v7])), (t0, .inl (tc, 7, .inl tg_340)), (ph, .inl (pc, 4, .inr (.inr (.inr (.inr pf))))), (p0, .inr (0, [.int b0, .int z0, .ref n0])), (n0, .inl (nc0, 40, .inr (.inl g0))), (p1, .inr (0, [.int b1, .int z1, .ref n1])), (n1, .inl (nc1, 40, .inr (.inl g1))), (p2, .inr (0, [.int b2, .int z2, .ref n2])), (n2, .inl (nc2, 40, .inr (.inl g2))), (p3, .inr (0, [.int b3, .int z3, .ref n3])), (n3, .inl (nc3, 40, .inr (.inl g3)))]) [9, 10, 0, 1, 2, 3, 4, 5, 6, 7, 8] rfl
      have hD9 := hD.sub (ws' := [(h0, .inr (6, [v0, v1, v2, v3, v4, .ref ph, .ref t0, v7])), (t0, .inl (tc, 7, .inl tg_340)), (ph, .inl (pc, 4, .inr (.inr (.inr (.inr pf))))), (p0, .inr (0, [.int b0, .int z0, .ref n0])), (n0, .inl (nc0, 40, .inr (.inl g0))), (p1, .inr (0, [.int b1, .int z1, .ref n1])), (n1, .inl (nc1, 40, .inr (.inl g1))), (p2, .inr (0, [.int b2, .int z2, .ref n2])), (n2, .inl (nc2, 40, .inr (.inl g2))), (p3, .inr (0, [.int b3, .int z3, .ref n3])), (n3, .inl (nc3, 40, .inr (.inl g3)))]) [9, 10, 0, 1, 2, 3, 4, 5, 6, 7, 8] (by decide) rfl
      have hK9 := hK.sub (tys' := [(tc, .int), (pc, .object "LampShapes$Paper"), (nc0, .long), (nc1, .long), (nc2, .long), (nc3, .long)]) [0, 1, 2, 3, 4, 5] rfl
      exact W.iret (v := ((-1000000001) : Int32)) hx hb hr (fun t ht hW => ⟨⟨((-1000000001) : Int32), (), rfl, trivial, tg_340, g0, g1, g2, g3, by rw [ht]; exact hP9, va_K.moved hW.alike hK9, hD9⟩, hS.F ht⟩) hS.2.2 dX8_copy_30
    · skip
      refine Met.ofW (cc := cX8_copy) (maxL := 8) (ret := (some .int)) (by decide) rfl ?_
      intro p e s m args below meth c s₁ B hml hv
      obtain ⟨rfl, hsz, hP, hK, hD0, hev⟩ := hv
      have hx := B.exec
      have hb := B.bytes
      have hr := B.returns
      have hts := atoms_spec (ws := w_x_copy) B.pre
      have hown : s.vm.findClass RX8 = some m.cls := findClass_of_methodNamed B.named
      have hlocks := B.notSynchronized
      have inX8 : ∀ w ∈ wsX80, w ∈ w_x_copy := fun w h => List.mem_cons_of_mem _ (List.mem_append_left _ (List.mem_append_right _ h))
      have inX2 : ∀ w ∈ wsX20, w ∈ w_x_copy := fun w h => List.mem_cons_of_mem _ (List.mem_append_right _ h)
      subst hsz
      have hD := hD0.self (sz := s.heap.size)
      generalize hAe : va_A [(h0, .inr (6, [v0, v1, v2, v3, v4, .ref ph, .ref t0, v7])), (t0, .inl (tc, 7, .inl tf)), (ph, .inl (pc, 4, .inr (.inr (.inr (.inr pf))))), (p0, .inr (0, [.int b0, .int z0, .ref n0])), (n0, .inl (nc0, 40, .inr (.inl g0))), (p1, .inr (0, [.int b1, .int z1, .ref n1])), (n1, .inl (nc1, 40, .inr (.inl g1))), (p2, .inr (0, [.int b2, .int z2, .ref n2])), (n2, .inl (nc2, 40, .inr (.inl g2))), (p3, .inr (0, [.int b3, .int z3, .ref n3])), (n3, .inl (nc3, 40, .inr (.inl g3)))] s.heap.size = A at hD ⊢
      have hA : ∀ q : Nat, s.heap.size ≤ q → A q := fun q h => by rw [← hAe]; exact Or.inr h
      have hS : va_S A s.heap s.heap [] := va_S.rf
      have hP : va_P (dC, dI) vwCl [(h0, .inr (6, [v0, v1, v2, v3, v4, .ref ph, .ref t0, v7])), (t0, .inl (tc, 7, .inl tf)), (ph, .inl (pc, 4, .inr (.inr (.inr (.inr pf))))), (p0, .inr (0, [.int b0, .int z0, .ref n0])), (n0, .inl (nc0, 40, .inr (.inl g0))), (p1, .inr (0, [.int b1, .int z1, .ref n1])), (n1, .inl (nc1, 40, .inr (.inl g1))), (p2, .inr (0, [.int b2, .int z2, .ref n2])), (n2, .inl (nc2, 40, .inr (.inl g2))), (p3, .inr (0, [.int b3, .int z3, .ref n3])), (n3, .inl (nc3, 40, .inr (.inl g3)))] s.heap := hP
      have hl := lv_entry ([.ref h0, .int 3, .int i, .int d, .int j, .int n]) (n := 8) (Nat.le_of_ble_eq_true rfl)
      rw [lg_entry_eq]
      generalize (lg_sl ([.ref h0, .int 3, .int i, .int d, .int j, .int n]) ++ List.replicate (8 - (lg_sl ([.ref h0, .int 3, .int i, .int d, .int j, .int n])).length) Slot.unset).toArray = ls at hl ⊢
      have hl : lv_has ls 8 [(0, .ref h0), (1, .int 3), (2, .int i), (3, .int d), (4, .int j), (5, .int n)] := hl
      have thgt1 : 3 < d.toInt := (fa_lt _ _).mp hgt1
      refine lv_aload_n hx hb dX8_copy_0 rfl (lv_at hl 0 rfl) ?_
      refine lv_iload_n hx hb dX8_copy_1 rfl (lv_at hl 1 rfl) ?_
      have hPc := hP.sub (ws' := [(h0, .inr (6, [v0, v1, v2, v3, v4, .ref ph, .ref t0, v7])), (ph, .inl (pc, 4, .inr (.inr (.inr (.inr pf)))))]) [0, 2] rfl
      have hKc := hK.sub (tys' := [(pc, .object "LampShapes$Paper")]) [1] rfl
      refine va_csq (W.runV (As := [.int 3]) (rest := []) ⟨hx, hb, hml, hown, hts⟩ (c_paperAt_3 l dC dI ad h0 v0 v1 v2 v3 v4 ph (.ref t0) v7 pc pf p3 hp3) (cwV 1 hts g_x_copy_c_paperAt_3_256 rfl rfl rfl (by decide +kernel) ⟨(Nat.le_of_ble_eq_true rfl), (Nat.le_of_ble_eq_true rfl)⟩) ⟨preS_blind, va_recv hKc hPc (ci := 6) (q0 := 0) rfl rfl, fun U hU hW => ⟨rfl, preS_at hU hW hPc hKc hev⟩⟩ rfl rfl hl.1 rfl (lv_room (Nat.le_of_ble_eq_true rfl)) dX8_copy_2 ⟨(Nat.le_of_ble_eq_true rfl), (Nat.le_of_ble_eq_true rfl)⟩) (fun r_341 hw => ?_)
      subst hw
      refine pp_tv (y := .ref p3) rfl ?_
      refine lv_astore (lv' := [(6, .ref p3), (0, .ref h0), (1, .int 3), (2, .int i), (3, .int d), (4, .int j), (5, .int n)]) hx hb dX8_copy_5 hl (by decide) rfl (fun ls hl => ?_)
      refine lv_aload_n hx hb dX8_copy_7 rfl (lv_at hl 1 rfl) ?_
      refine lv_iload_n hx hb dX8_copy_8 rfl (lv_at hl 4 rfl) ?_
      have hPc := hP.sub (ws' := [(h0, .inr (6, [v0, v1, v2, v3, v4, .ref ph, .ref t0, v7]))]) [0] rfl
      have hKc := hK.sub (tys' := []) [] rfl
      refine va_csq (W.runV (As := [.int d]) (rest := []) ⟨hx, hb, hml, hown, hts⟩ (c_paperAt_gt l dC dI ad h0 d v0 v1 v2 v3 v4 (.ref ph) (.ref t0) v7 hgt1) (cwV 1 hts g_x_copy_c_paperAt_gt_256 rfl rfl rfl (by decide +kernel) ⟨(Nat.le_of_ble_eq_true rfl), (Nat.le_of_ble_eq_true rfl)⟩) ⟨preS_blind, va_recv hKc hPc (ci := 6) (q0 := 0) rfl rfl, fun U hU hW => ⟨rfl, preS_at hU hW hPc hKc hev⟩⟩ rfl rfl hl.1 rfl (lv_room (Nat.le_of_ble_eq_true rfl)) dX8_copy_9 ⟨(Nat.le_of_ble_eq_true rfl), (Nat.le_of_ble_eq_true rfl)⟩) (fun r_342 hw => ?_)
      subst hw
      refine pp_tv (y := .null) rfl ?_
      refine lv_astoreN (lv' := [(7, .null), (6, .ref p3), (0, .ref h0), (1, .int 3), (2, .int i), (3, .int d), (4, .int j), (5, .int n)]) hx hb dX8_copy_12 hl (by decide) rfl (fun ls hl => ?_)
      refine lv_aload hx hb dX8_copy_14 (lv_at hl 1 rfl) ?_
      refine lv_ifnull hx hb dX8_copy_16 ?_
      refine lv_aloadN hx hb dX8_copy_19 (lv_at hl 0 rfl) ?_
      refine lv_ifnonnullN hx hb dX8_copy_21 ?_
      refine lv_aload_n hx hb dX8_copy_24 rfl (lv_at hl 2 rfl) ?_
      refine lv_ldc hx hb hown (hts _ (List.mem_of_getElem? (i := 6) rfl)) dX8_copy_25 ?_
      have hPc := hP.sub (ws' := [(h0, .inr (6, [v0, v1, v2, v3, v4, .ref ph, .ref t0, v7])), (t0, .inl (tc, 7, .inl tf))]) [0, 1] rfl
      have hKc := hK.sub (tys' := [(tc, .int)]) [0] rfl
      have hDc := hD.sub (ws' := [(h0, .inr (6, [v0, v1, v2, v3, v4, .ref ph, .ref t0, v7])), (t0, .inl (tc, 7, .inl tf))]) [0, 1] (by decide) rfl
      have hFc := va_free (wc := [(h0, .inr (6, [v0, v1, v2, v3, v4, .ref ph, .ref t0, v7])), (t0, .inl (tc, 7, .inl tf))]) hD hS hA [0, 1] rfl
      refine va_calli (va_runV (As := [.int (-1000000001)]) (rest := []) ⟨hx, hb, hml, hown, hts⟩ (f_beyond l dC dI ad h0 v0 v1 v2 v3 v4 (.ref ph) t0 v7 tc tf s.heap.size ) (cwV 1 hts g_x_copy_f_beyond_63 rfl rfl rfl (by decide +kernel) ⟨(Nat.le_of_ble_eq_true rfl), (Nat.le_of_ble_eq_true rfl)⟩) ⟨preM_blind, va_recv hKc hPc (ci := 6) (q0 := 0) rfl rfl, fun U hU hW => ⟨rfl, preM_at hU hW hPc hKc hDc hev⟩⟩ rfl rfl hl.1 rfl (lv_room (Nat.le_of_ble_eq_true rfl)) dX8_copy_27 ⟨(Nat.le_of_ble_eq_true rfl), (Nat.le_of_ble_eq_true rfl)⟩) hS (fun q _ h => hFc q h) hFc (fun r_343 u t H1 locs ht hvm hw hB hz1 hk1 hS => ?_)
      obtain ⟨tg_344, hP1, hK1, hD1⟩ := hB
      rw [ht] at hP1
      have hK1 := va_K.moved hvm.symm hK1
      obtain ⟨hP, hD⟩ := va_join (wr := [(ph, .inl (pc, 4, .inr (.inr (.inr (.inr pf))))), (p0, .inr (0, [.int b0, .int z0, .ref n0])), (n0, .inl (nc0, 40, .inr (.inl g0))), (p1, .inr (0, [.int b1, .int z1, .ref n1])), (n1, .inl (nc1, 40, .inr (.inl g1))), (p2, .inr (0, [.int b2, .int z2, .ref n2])), (n2, .inl (nc2, 40, .inr (.inl g2))), (p3, .inr (0, [.int b3, .int z3, .ref n3])), (n3, .inl (nc3, 40, .inr (.inl g3)))]) (w1 := [(h0, .inr (6, [v0, v1, v2, v3, v4, .ref ph, .ref t0, v7])), (t0, .inl (tc, 7, .inl tg_344))]) hP hD [0, 1] [2, 3, 4, 5, 6, 7, 8, 9, 10] rfl rfl (by decide) (by decide) hk1 hFc hP1 hD1
      generalize H1 = H at hP hS ⊢
      have hP : va_P (dC, dI) vwCl [(ph, .inl (pc, 4, .inr (.inr (.inr (.inr pf))))), (p0, .inr (0, [.int b0, .int z0, .ref n0])), (n0, .inl (nc0, 40, .inr (.inl g0))), (p1, .inr (0, [.int b1, .int z1, .ref n1])), (n1, .inl (nc1, 40, .inr (.inl g1))), (p2, .inr (0, [.int b2, .int z2, .ref n2])), (n2, .inl (nc2, 40, .inr (.inl g2))), (p3, .inr (0, [.int b3, .int z3, .ref n3])), (n3, .inl (nc3, 40, .inr (.inl g3))), (h0, .inr (6, [v0, v1, v2, v3, v4, .ref ph, .ref t0, v7])), (t0, .inl (tc, 7, .inl tg_344))] H := hP
      have hD : va_D A [(ph, .inl (pc, 4, .inr (.inr (.inr (.inr pf))))), (p0, .inr (0, [.int b0, .int z0, .ref n0])), (n0, .inl (nc0, 40, .inr (.inl g0))), (p1, .inr (0, [.int b1, .int z1, .ref n1])), (n1, .inl (nc1, 40, .inr (.inl g1))), (p2, .inr (0, [.int b2, .int z2, .ref n2])), (n2, .inl (nc2, 40, .inr (.inl g2))), (p3, .inr (0, [.int b3, .int z3, .ref n3])), (n3, .inl (nc3, 40, .inr (.inl g3))), (h0, .inr (6, [v0, v1, v2, v3, v4, .ref ph, .ref t0, v7])), (t0, .inl (tc, 7, .inl tg_344))] := hD
      subst hw
      have hP9 := hP.sub (ws' := [(h0, .inr (6, [v0, v1, v2, v3, v4, .ref ph, .ref t0, v7])), (t0, .inl (tc, 7, .inl tg_344)), (ph, .inl (pc, 4, .inr (.inr (.inr (.inr pf))))), (p0, .inr (0, [.int b0, .int z0, .ref n0])), (n0, .inl (nc0, 40, .inr (.inl g0))), (p1, .inr (0, [.int b1, .int z1, .ref n1])), (n1, .inl (nc1, 40, .inr (.inl g1))), (p2, .inr (0, [.int b2, .int z2, .ref n2])), (n2, .inl (nc2, 40, .inr (.inl g2))), (p3, .inr (0, [.int b3, .int z3, .ref n3])), (n3, .inl (nc3, 40, .inr (.inl g3)))]) [9, 10, 0, 1, 2, 3, 4, 5, 6, 7, 8] rfl
      have hD9 := hD.sub (ws' := [(h0, .inr (6, [v0, v1, v2, v3, v4, .ref ph, .ref t0, v7])), (t0, .inl (tc, 7, .inl tg_344)), (ph, .inl (pc, 4, .inr (.inr (.inr (.inr pf))))), (p0, .inr (0, [.int b0, .int z0, .ref n0])), (n0, .inl (nc0, 40, .inr (.inl g0))), (p1, .inr (0, [.int b1, .int z1, .ref n1])), (n1, .inl (nc1, 40, .inr (.inl g1))), (p2, .inr (0, [.int b2, .int z2, .ref n2])), (n2, .inl (nc2, 40, .inr (.inl g2))), (p3, .inr (0, [.int b3, .int z3, .ref n3])), (n3, .inl (nc3, 40, .inr (.inl g3)))]) [9, 10, 0, 1, 2, 3, 4, 5, 6, 7, 8] (by decide) rfl
      have hK9 := hK.sub (tys' := [(tc, .int), (pc, .object "LampShapes$Paper"), (nc0, .long), (nc1, .long), (nc2, .long), (nc3, .long)]) [0, 1, 2, 3, 4, 5] rfl
      exact W.iret (v := ((-1000000001) : Int32)) hx hb hr (fun t ht hW => ⟨⟨((-1000000001) : Int32), (), rfl, trivial, tg_344, g0, g1, g2, g3, by rw [ht]; exact hP9, va_K.moved hW.alike hK9, hD9⟩, hS.F ht⟩) hS.2.2 dX8_copy_30
    · skip
      refine Met.ofW (cc := cX8_copy) (maxL := 8) (ret := (some .int)) (by decide) rfl ?_
      intro p e s m args below meth c s₁ B hml hv
      obtain ⟨rfl, hsz, hP, hK, hD0, hev⟩ := hv
      have hx := B.exec
      have hb := B.bytes
      have hr := B.returns
      have hts := atoms_spec (ws := w_x_copy) B.pre
      have hown : s.vm.findClass RX8 = some m.cls := findClass_of_methodNamed B.named
      have hlocks := B.notSynchronized
      have inX8 : ∀ w ∈ wsX80, w ∈ w_x_copy := fun w h => List.mem_cons_of_mem _ (List.mem_append_left _ (List.mem_append_right _ h))
      have inX2 : ∀ w ∈ wsX20, w ∈ w_x_copy := fun w h => List.mem_cons_of_mem _ (List.mem_append_right _ h)
      subst hsz
      have hD := hD0.self (sz := s.heap.size)
      generalize hAe : va_A [(h0, .inr (6, [v0, v1, v2, v3, v4, .ref ph, .ref t0, v7])), (t0, .inl (tc, 7, .inl tf)), (ph, .inl (pc, 4, .inr (.inr (.inr (.inr pf))))), (p0, .inr (0, [.int b0, .int z0, .ref n0])), (n0, .inl (nc0, 40, .inr (.inl g0))), (p1, .inr (0, [.int b1, .int z1, .ref n1])), (n1, .inl (nc1, 40, .inr (.inl g1))), (p2, .inr (0, [.int b2, .int z2, .ref n2])), (n2, .inl (nc2, 40, .inr (.inl g2))), (p3, .inr (0, [.int b3, .int z3, .ref n3])), (n3, .inl (nc3, 40, .inr (.inl g3)))] s.heap.size = A at hD ⊢
      have hA : ∀ q : Nat, s.heap.size ≤ q → A q := fun q h => by rw [← hAe]; exact Or.inr h
      have hS : va_S A s.heap s.heap [] := va_S.rf
      have hP : va_P (dC, dI) vwCl [(h0, .inr (6, [v0, v1, v2, v3, v4, .ref ph, .ref t0, v7])), (t0, .inl (tc, 7, .inl tf)), (ph, .inl (pc, 4, .inr (.inr (.inr (.inr pf))))), (p0, .inr (0, [.int b0, .int z0, .ref n0])), (n0, .inl (nc0, 40, .inr (.inl g0))), (p1, .inr (0, [.int b1, .int z1, .ref n1])), (n1, .inl (nc1, 40, .inr (.inl g1))), (p2, .inr (0, [.int b2, .int z2, .ref n2])), (n2, .inl (nc2, 40, .inr (.inl g2))), (p3, .inr (0, [.int b3, .int z3, .ref n3])), (n3, .inl (nc3, 40, .inr (.inl g3)))] s.heap := hP
      have hl := lv_entry ([.ref h0, .int 3, .int i, .int 0, .int j, .int n]) (n := 8) (Nat.le_of_ble_eq_true rfl)
      rw [lg_entry_eq]
      generalize (lg_sl ([.ref h0, .int 3, .int i, .int 0, .int j, .int n]) ++ List.replicate (8 - (lg_sl ([.ref h0, .int 3, .int i, .int 0, .int j, .int n])).length) Slot.unset).toArray = ls at hl ⊢
      have hl : lv_has ls 8 [(0, .ref h0), (1, .int 3), (2, .int i), (3, .int 0), (4, .int j), (5, .int n)] := hl
      refine lv_aload_n hx hb dX8_copy_0 rfl (lv_at hl 0 rfl) ?_
      refine lv_iload_n hx hb dX8_copy_1 rfl (lv_at hl 1 rfl) ?_
      have hPc := hP.sub (ws' := [(h0, .inr (6, [v0, v1, v2, v3, v4, .ref ph, .ref t0, v7])), (ph, .inl (pc, 4, .inr (.inr (.inr (.inr pf)))))]) [0, 2] rfl
      have hKc := hK.sub (tys' := [(pc, .object "LampShapes$Paper")]) [1] rfl
      refine va_csq (W.runV (As := [.int 3]) (rest := []) ⟨hx, hb, hml, hown, hts⟩ (c_paperAt_3 l dC dI ad h0 v0 v1 v2 v3 v4 ph (.ref t0) v7 pc pf p3 hp3) (cwV 1 hts g_x_copy_c_paperAt_3_256 rfl rfl rfl (by decide +kernel) ⟨(Nat.le_of_ble_eq_true rfl), (Nat.le_of_ble_eq_true rfl)⟩) ⟨preS_blind, va_recv hKc hPc (ci := 6) (q0 := 0) rfl rfl, fun U hU hW => ⟨rfl, preS_at hU hW hPc hKc hev⟩⟩ rfl rfl hl.1 rfl (lv_room (Nat.le_of_ble_eq_true rfl)) dX8_copy_2 ⟨(Nat.le_of_ble_eq_true rfl), (Nat.le_of_ble_eq_true rfl)⟩) (fun r_345 hw => ?_)
      subst hw
      refine pp_tv (y := .ref p3) rfl ?_
      refine lv_astore (lv' := [(6, .ref p3), (0, .ref h0), (1, .int 3), (2, .int i), (3, .int 0), (4, .int j), (5, .int n)]) hx hb dX8_copy_5 hl (by decide) rfl (fun ls hl => ?_)
      refine lv_aload_n hx hb dX8_copy_7 rfl (lv_at hl 1 rfl) ?_
      refine lv_iload_n hx hb dX8_copy_8 rfl (lv_at hl 4 rfl) ?_
      have hPc := hP.sub (ws' := [(h0, .inr (6, [v0, v1, v2, v3, v4, .ref ph, .ref t0, v7])), (ph, .inl (pc, 4, .inr (.inr (.inr (.inr pf)))))]) [0, 2] rfl
      have hKc := hK.sub (tys' := [(pc, .object "LampShapes$Paper")]) [1] rfl
      refine va_csq (W.runV (As := [.int 0]) (rest := []) ⟨hx, hb, hml, hown, hts⟩ (c_paperAt_0 l dC dI ad h0 v0 v1 v2 v3 v4 ph (.ref t0) v7 pc pf p0 hp0) (cwV 1 hts g_x_copy_c_paperAt_0_256 rfl rfl rfl (by decide +kernel) ⟨(Nat.le_of_ble_eq_true rfl), (Nat.le_of_ble_eq_true rfl)⟩) ⟨preS_blind, va_recv hKc hPc (ci := 6) (q0 := 0) rfl rfl, fun U hU hW => ⟨rfl, preS_at hU hW hPc hKc hev⟩⟩ rfl rfl hl.1 rfl (lv_room (Nat.le_of_ble_eq_true rfl)) dX8_copy_9 ⟨(Nat.le_of_ble_eq_true rfl), (Nat.le_of_ble_eq_true rfl)⟩) (fun r_346 hw => ?_)
      subst hw
      refine pp_tv (y := .ref p0) rfl ?_
      refine lv_astore (lv' := [(7, .ref p0), (6, .ref p3), (0, .ref h0), (1, .int 3), (2, .int i), (3, .int 0), (4, .int j), (5, .int n)]) hx hb dX8_copy_12 hl (by decide) rfl (fun ls hl => ?_)
      refine lv_aload hx hb dX8_copy_14 (lv_at hl 1 rfl) ?_
      refine lv_ifnull hx hb dX8_copy_16 ?_
      refine lv_aload hx hb dX8_copy_19 (lv_at hl 0 rfl) ?_
      refine lv_ifnonnull (tgt := 31) hx hb dX8_copy_21 (by decide) ?_
      refine lv_aload hx hb dX8_copy_31 (lv_at hl 1 rfl) ?_
      have hPc := hP.sub (ws' := [(p3, .inr (0, [.int b3, .int z3, .ref n3]))]) [9] rfl
      have hKc := hK.sub (tys' := []) [] rfl
      refine vp_callSi (W.runV (As := []) (rest := []) ⟨hx, hb, hml, hown, hts⟩ (p_isMissing l dC dI ad p3 b3 (.int z3) (.ref n3) ) (cwV 0 hts g_x_copy_p_isMissing_268 rfl rfl rfl (by decide +kernel) ⟨(Nat.le_of_ble_eq_true rfl), (Nat.le_of_ble_eq_true rfl)⟩) ⟨preS_blind, va_recv hKc hPc (ci := 0) (q0 := 0) rfl rfl, fun U hU hW => ⟨rfl, preS_at hU hW hPc hKc hev⟩⟩ rfl rfl hl.1 rfl (lv_room (Nat.le_of_ble_eq_true rfl)) dX8_copy_33 ⟨(Nat.le_of_ble_eq_true rfl), (Nat.le_of_ble_eq_true rfl)⟩) (fun r_347 hw => ?_)
      have hr_347 : (r_347.toInt = 1 ∧ b3.toInt = 0) ∨ (r_347.toInt = 0 ∧ ¬ b3.toInt = 0) := hw
      refine lv_if_ne (tgt := 47) hx hb dX8_copy_36 (by decide) (fun c_348 => ?_) (fun c_348 => ?_)
      · skip
        have tc_348 : ¬ r_347.toInt = 0 := fun h => c_348 ((fa_eq _ _).mpr h)
        refine lv_aload_n hx hb dX8_copy_47 rfl (lv_at hl 2 rfl) ?_
        refine lv_ldcw hx hb hown (hts _ (List.mem_of_getElem? (i := 19) rfl)) dX8_copy_48 ?_
        have hPc := hP.sub (ws' := [(h0, .inr (6, [v0, v1, v2, v3, v4, .ref ph, .ref t0, v7])), (t0, .inl (tc, 7, .inl tf))]) [0, 1] rfl
        have hKc := hK.sub (tys' := [(tc, .int)]) [0] rfl
        have hDc := hD.sub (ws' := [(h0, .inr (6, [v0, v1, v2, v3, v4, .ref ph, .ref t0, v7])), (t0, .inl (tc, 7, .inl tf))]) [0, 1] (by decide) rfl
        have hFc := va_free (wc := [(h0, .inr (6, [v0, v1, v2, v3, v4, .ref ph, .ref t0, v7])), (t0, .inl (tc, 7, .inl tf))]) hD hS hA [0, 1] rfl
        refine va_calli (va_runV (As := [.int (-1000000006)]) (rest := []) ⟨hx, hb, hml, hown, hts⟩ (f_missing l dC dI ad h0 v0 v1 v2 v3 v4 (.ref ph) t0 v7 tc tf s.heap.size ) (cwV 1 hts g_x_copy_f_missing_63 rfl rfl rfl (by decide +kernel) ⟨(Nat.le_of_ble_eq_true rfl), (Nat.le_of_ble_eq_true rfl)⟩) ⟨preM_blind, va_recv hKc hPc (ci := 6) (q0 := 0) rfl rfl, fun U hU hW => ⟨rfl, preM_at hU hW hPc hKc hDc hev⟩⟩ rfl rfl hl.1 rfl (lv_room (Nat.le_of_ble_eq_true rfl)) dX8_copy_51 ⟨(Nat.le_of_ble_eq_true rfl), (Nat.le_of_ble_eq_true rfl)⟩) hS (fun q _ h => hFc q h) hFc (fun r_349 u t H1 locs ht hvm hw hB hz1 hk1 hS => ?_)
        obtain ⟨tg_350, hP1, hK1, hD1⟩ := hB
        rw [ht] at hP1
        have hK1 := va_K.moved hvm.symm hK1
        obtain ⟨hP, hD⟩ := va_join (wr := [(ph, .inl (pc, 4, .inr (.inr (.inr (.inr pf))))), (p0, .inr (0, [.int b0, .int z0, .ref n0])), (n0, .inl (nc0, 40, .inr (.inl g0))), (p1, .inr (0, [.int b1, .int z1, .ref n1])), (n1, .inl (nc1, 40, .inr (.inl g1))), (p2, .inr (0, [.int b2, .int z2, .ref n2])), (n2, .inl (nc2, 40, .inr (.inl g2))), (p3, .inr (0, [.int b3, .int z3, .ref n3])), (n3, .inl (nc3, 40, .inr (.inl g3)))]) (w1 := [(h0, .inr (6, [v0, v1, v2, v3, v4, .ref ph, .ref t0, v7])), (t0, .inl (tc, 7, .inl tg_350))]) hP hD [0, 1] [2, 3, 4, 5, 6, 7, 8, 9, 10] rfl rfl (by decide) (by decide) hk1 hFc hP1 hD1
        generalize H1 = H at hP hS ⊢
        have hP : va_P (dC, dI) vwCl [(ph, .inl (pc, 4, .inr (.inr (.inr (.inr pf))))), (p0, .inr (0, [.int b0, .int z0, .ref n0])), (n0, .inl (nc0, 40, .inr (.inl g0))), (p1, .inr (0, [.int b1, .int z1, .ref n1])), (n1, .inl (nc1, 40, .inr (.inl g1))), (p2, .inr (0, [.int b2, .int z2, .ref n2])), (n2, .inl (nc2, 40, .inr (.inl g2))), (p3, .inr (0, [.int b3, .int z3, .ref n3])), (n3, .inl (nc3, 40, .inr (.inl g3))), (h0, .inr (6, [v0, v1, v2, v3, v4, .ref ph, .ref t0, v7])), (t0, .inl (tc, 7, .inl tg_350))] H := hP
        have hD : va_D A [(ph, .inl (pc, 4, .inr (.inr (.inr (.inr pf))))), (p0, .inr (0, [.int b0, .int z0, .ref n0])), (n0, .inl (nc0, 40, .inr (.inl g0))), (p1, .inr (0, [.int b1, .int z1, .ref n1])), (n1, .inl (nc1, 40, .inr (.inl g1))), (p2, .inr (0, [.int b2, .int z2, .ref n2])), (n2, .inl (nc2, 40, .inr (.inl g2))), (p3, .inr (0, [.int b3, .int z3, .ref n3])), (n3, .inl (nc3, 40, .inr (.inl g3))), (h0, .inr (6, [v0, v1, v2, v3, v4, .ref ph, .ref t0, v7])), (t0, .inl (tc, 7, .inl tg_350))] := hD
        subst hw
        have hP9 := hP.sub (ws' := [(h0, .inr (6, [v0, v1, v2, v3, v4, .ref ph, .ref t0, v7])), (t0, .inl (tc, 7, .inl tg_350)), (ph, .inl (pc, 4, .inr (.inr (.inr (.inr pf))))), (p0, .inr (0, [.int b0, .int z0, .ref n0])), (n0, .inl (nc0, 40, .inr (.inl g0))), (p1, .inr (0, [.int b1, .int z1, .ref n1])), (n1, .inl (nc1, 40, .inr (.inl g1))), (p2, .inr (0, [.int b2, .int z2, .ref n2])), (n2, .inl (nc2, 40, .inr (.inl g2))), (p3, .inr (0, [.int b3, .int z3, .ref n3])), (n3, .inl (nc3, 40, .inr (.inl g3)))]) [9, 10, 0, 1, 2, 3, 4, 5, 6, 7, 8] rfl
        have hD9 := hD.sub (ws' := [(h0, .inr (6, [v0, v1, v2, v3, v4, .ref ph, .ref t0, v7])), (t0, .inl (tc, 7, .inl tg_350)), (ph, .inl (pc, 4, .inr (.inr (.inr (.inr pf))))), (p0, .inr (0, [.int b0, .int z0, .ref n0])), (n0, .inl (nc0, 40, .inr (.inl g0))), (p1, .inr (0, [.int b1, .int z1, .ref n1])), (n1, .inl (nc1, 40, .inr (.inl g1))), (p2, .inr (0, [.int b2, .int z2, .ref n2])), (n2, .inl (nc2, 40, .inr (.inl g2))), (p3, .inr (0, [.int b3, .int z3, .ref n3])), (n3, .inl (nc3, 40, .inr (.inl g3)))]) [9, 10, 0, 1, 2, 3, 4, 5, 6, 7, 8] (by decide) rfl
        have hK9 := hK.sub (tys' := [(tc, .int), (pc, .object "LampShapes$Paper"), (nc0, .long), (nc1, .long), (nc2, .long), (nc3, .long)]) [0, 1, 2, 3, 4, 5] rfl
        exact W.iret (v := ((-1000000006) : Int32)) hx hb hr (fun t ht hW => ⟨⟨((-1000000006) : Int32), (), rfl, trivial, tg_350, g0, g1, g2, g3, by rw [ht]; exact hP9, va_K.moved hW.alike hK9, hD9⟩, hS.F ht⟩) hS.2.2 dX8_copy_54
      · skip
        have tc_348 : r_347.toInt = 0 := (fa_eq _ _).mp c_348
        refine lv_aload hx hb dX8_copy_39 (lv_at hl 0 rfl) ?_
        have hPc := hP.sub (ws' := [(p0, .inr (0, [.int b0, .int z0, .ref n0]))]) [3] rfl
        have hKc := hK.sub (tys' := []) [] rfl
        refine vp_callSi (W.runV (As := []) (rest := []) ⟨hx, hb, hml, hown, hts⟩ (p_isMissing l dC dI ad p0 b0 (.int z0) (.ref n0) ) (cwV 0 hts g_x_copy_p_isMissing_268 rfl rfl rfl (by decide +kernel) ⟨(Nat.le_of_ble_eq_true rfl), (Nat.le_of_ble_eq_true rfl)⟩) ⟨preS_blind, va_recv hKc hPc (ci := 0) (q0 := 0) rfl rfl, fun U hU hW => ⟨rfl, preS_at hU hW hPc hKc hev⟩⟩ rfl rfl hl.1 rfl (lv_room (Nat.le_of_ble_eq_true rfl)) dX8_copy_41 ⟨(Nat.le_of_ble_eq_true rfl), (Nat.le_of_ble_eq_true rfl)⟩) (fun r_351 hw => ?_)
        have hr_351 : (r_351.toInt = 1 ∧ b0.toInt = 0) ∨ (r_351.toInt = 0 ∧ ¬ b0.toInt = 0) := hw
        refine lv_if_eq (tgt := 55) hx hb dX8_copy_44 (by decide) (fun c_352 => ?_) (fun c_352 => ?_)
        · skip
          have tc_352 : r_351.toInt = 0 := (fa_eq _ _).mp c_352
          refine lv_aload hx hb dX8_copy_55 (lv_at hl 1 rfl) ?_
          refine va_getN (D := (dC, dI)) (ci := 0) (v := .int b3) (C := RX2) (T := TX2) (N := 3) hx hb hts inX2 hown hK hP 9 rfl rfl 0 (by decide) (ev_nest hev 21 rfl) (fun _ h9 => h9) rfl dX8_copy_57 ?_
          refine lv_aload hx hb dX8_copy_60 (lv_at hl 0 rfl) ?_
          refine va_getN (D := (dC, dI)) (ci := 0) (v := .int b0) (C := RX2) (T := TX2) (N := 3) hx hb hts inX2 hown hK hP 3 rfl rfl 0 (by decide) (ev_nest hev 21 rfl) (fun _ h9 => h9) rfl dX8_copy_62 ?_
          have rc_353_x := pp_rng b3
          have rc_353_y := pp_rng b0
          refine lv_icmp_eq (tgt := 75) hx hb dX8_copy_65 (by decide) (fun c_353 => ?_) (fun c_353 => ?_)
          · skip
            have tc_353 : b3.toInt = b0.toInt := (fa_eq _ _).mp c_353
            refine lv_aload hx hb dX8_copy_75 (lv_at hl 1 rfl) ?_
            refine lv_iload_n hx hb dX8_copy_77 rfl (lv_at hl 4 rfl) ?_
            refine lv_iload hx hb dX8_copy_78 (lv_at hl 7 rfl) ?_
            have hPc := hP.sub (ws' := [(p3, .inr (0, [.int b3, .int z3, .ref n3]))]) [9] rfl
            have hKc := hK.sub (tys' := []) [] rfl
            refine vp_callSi (W.runV (As := [.int i, .int n]) (rest := []) ⟨hx, hb, hml, hown, hts⟩ (p_hasPart l dC dI ad p3 i n (.int b3) z3 (.ref n3) hz3) (cwV 2 hts g_x_copy_p_hasPart_282 rfl rfl rfl (by decide +kernel) ⟨(Nat.le_of_ble_eq_true rfl), (Nat.le_of_ble_eq_true rfl)⟩) ⟨preS_blind, va_recv hKc hPc (ci := 0) (q0 := 0) rfl rfl, fun U hU hW => ⟨rfl, preS_at hU hW hPc hKc hev⟩⟩ rfl rfl hl.1 rfl (lv_room (Nat.le_of_ble_eq_true rfl)) dX8_copy_80 ⟨(Nat.le_of_ble_eq_true rfl), (Nat.le_of_ble_eq_true rfl)⟩) (fun r_354 hw => ?_)
            have hr_354 : (r_354.toInt = 1 ∧ 0 ≤ i.toInt ∧ 0 ≤ n.toInt ∧ i.toInt + n.toInt ≤ z3.toInt) ∨ (r_354.toInt = 0 ∧ ¬ (0 ≤ i.toInt ∧ 0 ≤ n.toInt ∧ i.toInt + n.toInt ≤ z3.toInt)) := hw
            refine lv_if_eq (tgt := 98) hx hb dX8_copy_83 (by decide) (fun c_355 => ?_) (fun c_355 => ?_)
            · skip
              have tc_355 : r_354.toInt = 0 := (fa_eq _ _).mp c_355
              refine lv_aload_n hx hb dX8_copy_98 rfl (lv_at hl 2 rfl) ?_
              refine lv_ldc hx hb hown (hts _ (List.mem_of_getElem? (i := 6) rfl)) dX8_copy_99 ?_
              have hPc := hP.sub (ws' := [(h0, .inr (6, [v0, v1, v2, v3, v4, .ref ph, .ref t0, v7])), (t0, .inl (tc, 7, .inl tf))]) [0, 1] rfl
              have hKc := hK.sub (tys' := [(tc, .int)]) [0] rfl
              have hDc := hD.sub (ws' := [(h0, .inr (6, [v0, v1, v2, v3, v4, .ref ph, .ref t0, v7])), (t0, .inl (tc, 7, .inl tf))]) [0, 1] (by decide) rfl
              have hFc := va_free (wc := [(h0, .inr (6, [v0, v1, v2, v3, v4, .ref ph, .ref t0, v7])), (t0, .inl (tc, 7, .inl tf))]) hD hS hA [0, 1] rfl
              refine va_calli (va_runV (As := [.int (-1000000001)]) (rest := []) ⟨hx, hb, hml, hown, hts⟩ (f_beyond l dC dI ad h0 v0 v1 v2 v3 v4 (.ref ph) t0 v7 tc tf s.heap.size ) (cwV 1 hts g_x_copy_f_beyond_63 rfl rfl rfl (by decide +kernel) ⟨(Nat.le_of_ble_eq_true rfl), (Nat.le_of_ble_eq_true rfl)⟩) ⟨preM_blind, va_recv hKc hPc (ci := 6) (q0 := 0) rfl rfl, fun U hU hW => ⟨rfl, preM_at hU hW hPc hKc hDc hev⟩⟩ rfl rfl hl.1 rfl (lv_room (Nat.le_of_ble_eq_true rfl)) dX8_copy_101 ⟨(Nat.le_of_ble_eq_true rfl), (Nat.le_of_ble_eq_true rfl)⟩) hS (fun q _ h => hFc q h) hFc (fun r_356 u t H1 locs ht hvm hw hB hz1 hk1 hS => ?_)
              obtain ⟨tg_357, hP1, hK1, hD1⟩ := hB
              rw [ht] at hP1
              have hK1 := va_K.moved hvm.symm hK1
              obtain ⟨hP, hD⟩ := va_join (wr := [(ph, .inl (pc, 4, .inr (.inr (.inr (.inr pf))))), (p0, .inr (0, [.int b0, .int z0, .ref n0])), (n0, .inl (nc0, 40, .inr (.inl g0))), (p1, .inr (0, [.int b1, .int z1, .ref n1])), (n1, .inl (nc1, 40, .inr (.inl g1))), (p2, .inr (0, [.int b2, .int z2, .ref n2])), (n2, .inl (nc2, 40, .inr (.inl g2))), (p3, .inr (0, [.int b3, .int z3, .ref n3])), (n3, .inl (nc3, 40, .inr (.inl g3)))]) (w1 := [(h0, .inr (6, [v0, v1, v2, v3, v4, .ref ph, .ref t0, v7])), (t0, .inl (tc, 7, .inl tg_357))]) hP hD [0, 1] [2, 3, 4, 5, 6, 7, 8, 9, 10] rfl rfl (by decide) (by decide) hk1 hFc hP1 hD1
              generalize H1 = H at hP hS ⊢
              have hP : va_P (dC, dI) vwCl [(ph, .inl (pc, 4, .inr (.inr (.inr (.inr pf))))), (p0, .inr (0, [.int b0, .int z0, .ref n0])), (n0, .inl (nc0, 40, .inr (.inl g0))), (p1, .inr (0, [.int b1, .int z1, .ref n1])), (n1, .inl (nc1, 40, .inr (.inl g1))), (p2, .inr (0, [.int b2, .int z2, .ref n2])), (n2, .inl (nc2, 40, .inr (.inl g2))), (p3, .inr (0, [.int b3, .int z3, .ref n3])), (n3, .inl (nc3, 40, .inr (.inl g3))), (h0, .inr (6, [v0, v1, v2, v3, v4, .ref ph, .ref t0, v7])), (t0, .inl (tc, 7, .inl tg_357))] H := hP
              have hD : va_D A [(ph, .inl (pc, 4, .inr (.inr (.inr (.inr pf))))), (p0, .inr (0, [.int b0, .int z0, .ref n0])), (n0, .inl (nc0, 40, .inr (.inl g0))), (p1, .inr (0, [.int b1, .int z1, .ref n1])), (n1, .inl (nc1, 40, .inr (.inl g1))), (p2, .inr (0, [.int b2, .int z2, .ref n2])), (n2, .inl (nc2, 40, .inr (.inl g2))), (p3, .inr (0, [.int b3, .int z3, .ref n3])), (n3, .inl (nc3, 40, .inr (.inl g3))), (h0, .inr (6, [v0, v1, v2, v3, v4, .ref ph, .ref t0, v7])), (t0, .inl (tc, 7, .inl tg_357))] := hD
              subst hw
              have hP9 := hP.sub (ws' := [(h0, .inr (6, [v0, v1, v2, v3, v4, .ref ph, .ref t0, v7])), (t0, .inl (tc, 7, .inl tg_357)), (ph, .inl (pc, 4, .inr (.inr (.inr (.inr pf))))), (p0, .inr (0, [.int b0, .int z0, .ref n0])), (n0, .inl (nc0, 40, .inr (.inl g0))), (p1, .inr (0, [.int b1, .int z1, .ref n1])), (n1, .inl (nc1, 40, .inr (.inl g1))), (p2, .inr (0, [.int b2, .int z2, .ref n2])), (n2, .inl (nc2, 40, .inr (.inl g2))), (p3, .inr (0, [.int b3, .int z3, .ref n3])), (n3, .inl (nc3, 40, .inr (.inl g3)))]) [9, 10, 0, 1, 2, 3, 4, 5, 6, 7, 8] rfl
              have hD9 := hD.sub (ws' := [(h0, .inr (6, [v0, v1, v2, v3, v4, .ref ph, .ref t0, v7])), (t0, .inl (tc, 7, .inl tg_357)), (ph, .inl (pc, 4, .inr (.inr (.inr (.inr pf))))), (p0, .inr (0, [.int b0, .int z0, .ref n0])), (n0, .inl (nc0, 40, .inr (.inl g0))), (p1, .inr (0, [.int b1, .int z1, .ref n1])), (n1, .inl (nc1, 40, .inr (.inl g1))), (p2, .inr (0, [.int b2, .int z2, .ref n2])), (n2, .inl (nc2, 40, .inr (.inl g2))), (p3, .inr (0, [.int b3, .int z3, .ref n3])), (n3, .inl (nc3, 40, .inr (.inl g3)))]) [9, 10, 0, 1, 2, 3, 4, 5, 6, 7, 8] (by decide) rfl
              have hK9 := hK.sub (tys' := [(tc, .int), (pc, .object "LampShapes$Paper"), (nc0, .long), (nc1, .long), (nc2, .long), (nc3, .long)]) [0, 1, 2, 3, 4, 5] rfl
              exact W.iret (v := ((-1000000001) : Int32)) hx hb hr (fun t ht hW => ⟨⟨((-1000000001) : Int32), (), rfl, trivial, tg_357, g0, g1, g2, g3, by rw [ht]; exact hP9, va_K.moved hW.alike hK9, hD9⟩, hS.F ht⟩) hS.2.2 dX8_copy_104
            · skip
              have tc_355 : ¬ r_354.toInt = 0 := fun h => c_355 ((fa_eq _ _).mpr h)
              refine lv_aload hx hb dX8_copy_86 (lv_at hl 0 rfl) ?_
              refine lv_iload hx hb dX8_copy_88 (lv_at hl 6 rfl) ?_
              refine lv_iload hx hb dX8_copy_90 (lv_at hl 7 rfl) ?_
              have hPc := hP.sub (ws' := [(p0, .inr (0, [.int b0, .int z0, .ref n0]))]) [3] rfl
              have hKc := hK.sub (tys' := []) [] rfl
              refine vp_callSi (W.runV (As := [.int j, .int n]) (rest := []) ⟨hx, hb, hml, hown, hts⟩ (p_hasPart l dC dI ad p0 j n (.int b0) z0 (.ref n0) hz0) (cwV 2 hts g_x_copy_p_hasPart_282 rfl rfl rfl (by decide +kernel) ⟨(Nat.le_of_ble_eq_true rfl), (Nat.le_of_ble_eq_true rfl)⟩) ⟨preS_blind, va_recv hKc hPc (ci := 0) (q0 := 0) rfl rfl, fun U hU hW => ⟨rfl, preS_at hU hW hPc hKc hev⟩⟩ rfl rfl hl.1 rfl (lv_room (Nat.le_of_ble_eq_true rfl)) dX8_copy_92 ⟨(Nat.le_of_ble_eq_true rfl), (Nat.le_of_ble_eq_true rfl)⟩) (fun r_358 hw => ?_)
              have hr_358 : (r_358.toInt = 1 ∧ 0 ≤ j.toInt ∧ 0 ≤ n.toInt ∧ j.toInt + n.toInt ≤ z0.toInt) ∨ (r_358.toInt = 0 ∧ ¬ (0 ≤ j.toInt ∧ 0 ≤ n.toInt ∧ j.toInt + n.toInt ≤ z0.toInt)) := hw
              refine lv_if_ne (tgt := 105) hx hb dX8_copy_95 (by decide) (fun c_359 => ?_) (fun c_359 => ?_)
              · skip
                have tc_359 : ¬ r_358.toInt = 0 := fun h => c_359 ((fa_eq _ _).mpr h)
                refine lv_aload hx hb dX8_copy_105 (lv_at hl 1 rfl) ?_
                refine va_getN (D := (dC, dI)) (ci := 0) (v := .ref n3) (C := RX2) (T := TX2) (N := 3) hx hb hts inX2 hown hK hP 9 rfl rfl 2 (by decide) (ev_nest hev 23 rfl) (fun _ h9 => h9) rfl dX8_copy_107 ?_
                refine lv_iload_n hx hb dX8_copy_110 rfl (lv_at hl 4 rfl) ?_
                refine lv_aload hx hb dX8_copy_111 (lv_at hl 0 rfl) ?_
                refine va_getN (D := (dC, dI)) (ci := 0) (v := .ref n0) (C := RX2) (T := TX2) (N := 3) hx hb hts inX2 hown hK hP 3 rfl rfl 2 (by decide) (ev_nest hev 23 rfl) (fun _ h9 => h9) rfl dX8_copy_113 ?_
                refine lv_iload hx hb dX8_copy_116 (lv_at hl 6 rfl) ?_
                refine lv_iload hx hb dX8_copy_118 (lv_at hl 7 rfl) ?_
                refine va_copyl (ty := .long) hx hb (by rw [hml]; exact hl.1.symm) hown (hts _ (List.mem_of_getElem? (i := 25) rfl)) (hts _ (List.mem_of_getElem? (i := 26) rfl)) (hts _ (List.mem_of_getElem? (i := 27) rfl)) (hts _ (List.mem_of_getElem? (i := 28) rfl)) hK hP hD hS 10 4 5 2 rfl rfl rfl rfl rfl (fun h => absurd ((fa_lt _ _).mp h) (by show ¬ i.toInt < 0; omega)) (fun h => absurd ((fa_lt _ _).mp h) (by show ¬ j.toInt < 0; omega)) (fun h => absurd ((fa_lt _ _).mp h) (by show ¬ n.toInt < 0; omega)) (by show i.toInt.toNat + n.toInt.toNat ≤ 40; omega) (by show j.toInt.toNat + n.toInt.toNat ≤ 40; omega) (fun _ _ => rfl) (Nat.le_of_ble_eq_true rfl) (Nat.le_of_ble_eq_true rfl) dX8_copy_120 (fun H locs hP hD hS => ?_)
                generalize va_cpy g3 g0 i.toNatClampNeg j.toNatClampNeg n.toNatClampNeg = f_360 at hP hD
                have hP : va_P (dC, dI) vwCl [(h0, .inr (6, [v0, v1, v2, v3, v4, .ref ph, .ref t0, v7])), (t0, .inl (tc, 7, .inl tf)), (ph, .inl (pc, 4, .inr (.inr (.inr (.inr pf))))), (p0, .inr (0, [.int b0, .int z0, .ref n0])), (n0, .inl (nc0, 40, .inr (.inl f_360))), (p1, .inr (0, [.int b1, .int z1, .ref n1])), (n1, .inl (nc1, 40, .inr (.inl g1))), (p2, .inr (0, [.int b2, .int z2, .ref n2])), (n2, .inl (nc2, 40, .inr (.inl g2))), (p3, .inr (0, [.int b3, .int z3, .ref n3])), (n3, .inl (nc3, 40, .inr (.inl g3)))] H := hP
                have hD : va_D A [(h0, .inr (6, [v0, v1, v2, v3, v4, .ref ph, .ref t0, v7])), (t0, .inl (tc, 7, .inl tf)), (ph, .inl (pc, 4, .inr (.inr (.inr (.inr pf))))), (p0, .inr (0, [.int b0, .int z0, .ref n0])), (n0, .inl (nc0, 40, .inr (.inl f_360))), (p1, .inr (0, [.int b1, .int z1, .ref n1])), (n1, .inl (nc1, 40, .inr (.inl g1))), (p2, .inr (0, [.int b2, .int z2, .ref n2])), (n2, .inl (nc2, 40, .inr (.inl g2))), (p3, .inr (0, [.int b3, .int z3, .ref n3])), (n3, .inl (nc3, 40, .inr (.inl g3)))] := hD
                refine lv_iload hx hb dX8_copy_123 (lv_at hl 7 rfl) ?_
                have hP9 := hP.sub (ws' := [(h0, .inr (6, [v0, v1, v2, v3, v4, .ref ph, .ref t0, v7])), (t0, .inl (tc, 7, .inl tf)), (ph, .inl (pc, 4, .inr (.inr (.inr (.inr pf))))), (p0, .inr (0, [.int b0, .int z0, .ref n0])), (n0, .inl (nc0, 40, .inr (.inl f_360))), (p1, .inr (0, [.int b1, .int z1, .ref n1])), (n1, .inl (nc1, 40, .inr (.inl g1))), (p2, .inr (0, [.int b2, .int z2, .ref n2])), (n2, .inl (nc2, 40, .inr (.inl g2))), (p3, .inr (0, [.int b3, .int z3, .ref n3])), (n3, .inl (nc3, 40, .inr (.inl g3)))]) [0, 1, 2, 3, 4, 5, 6, 7, 8, 9, 10] rfl
                have hD9 := hD.sub (ws' := [(h0, .inr (6, [v0, v1, v2, v3, v4, .ref ph, .ref t0, v7])), (t0, .inl (tc, 7, .inl tf)), (ph, .inl (pc, 4, .inr (.inr (.inr (.inr pf))))), (p0, .inr (0, [.int b0, .int z0, .ref n0])), (n0, .inl (nc0, 40, .inr (.inl f_360))), (p1, .inr (0, [.int b1, .int z1, .ref n1])), (n1, .inl (nc1, 40, .inr (.inl g1))), (p2, .inr (0, [.int b2, .int z2, .ref n2])), (n2, .inl (nc2, 40, .inr (.inl g2))), (p3, .inr (0, [.int b3, .int z3, .ref n3])), (n3, .inl (nc3, 40, .inr (.inl g3)))]) [0, 1, 2, 3, 4, 5, 6, 7, 8, 9, 10] (by decide) rfl
                have hK9 := hK.sub (tys' := [(tc, .int), (pc, .object "LampShapes$Paper"), (nc0, .long), (nc1, .long), (nc2, .long), (nc3, .long)]) [0, 1, 2, 3, 4, 5] rfl
                exact W.iret (v := n) hx hb hr (fun t ht hW => ⟨⟨n, (), rfl, trivial, tf, f_360, g1, g2, g3, by rw [ht]; exact hP9, va_K.moved hW.alike hK9, hD9⟩, hS.F ht⟩) hS.2.2 dX8_copy_125
              · skip
                have tc_359 : r_358.toInt = 0 := (fa_eq _ _).mp c_359
                refine lv_aload_n hx hb dX8_copy_98 rfl (lv_at hl 2 rfl) ?_
                refine lv_ldc hx hb hown (hts _ (List.mem_of_getElem? (i := 6) rfl)) dX8_copy_99 ?_
                have hPc := hP.sub (ws' := [(h0, .inr (6, [v0, v1, v2, v3, v4, .ref ph, .ref t0, v7])), (t0, .inl (tc, 7, .inl tf))]) [0, 1] rfl
                have hKc := hK.sub (tys' := [(tc, .int)]) [0] rfl
                have hDc := hD.sub (ws' := [(h0, .inr (6, [v0, v1, v2, v3, v4, .ref ph, .ref t0, v7])), (t0, .inl (tc, 7, .inl tf))]) [0, 1] (by decide) rfl
                have hFc := va_free (wc := [(h0, .inr (6, [v0, v1, v2, v3, v4, .ref ph, .ref t0, v7])), (t0, .inl (tc, 7, .inl tf))]) hD hS hA [0, 1] rfl
                refine va_calli (va_runV (As := [.int (-1000000001)]) (rest := []) ⟨hx, hb, hml, hown, hts⟩ (f_beyond l dC dI ad h0 v0 v1 v2 v3 v4 (.ref ph) t0 v7 tc tf s.heap.size ) (cwV 1 hts g_x_copy_f_beyond_63 rfl rfl rfl (by decide +kernel) ⟨(Nat.le_of_ble_eq_true rfl), (Nat.le_of_ble_eq_true rfl)⟩) ⟨preM_blind, va_recv hKc hPc (ci := 6) (q0 := 0) rfl rfl, fun U hU hW => ⟨rfl, preM_at hU hW hPc hKc hDc hev⟩⟩ rfl rfl hl.1 rfl (lv_room (Nat.le_of_ble_eq_true rfl)) dX8_copy_101 ⟨(Nat.le_of_ble_eq_true rfl), (Nat.le_of_ble_eq_true rfl)⟩) hS (fun q _ h => hFc q h) hFc (fun r_361 u t H1 locs ht hvm hw hB hz1 hk1 hS => ?_)
                obtain ⟨tg_362, hP1, hK1, hD1⟩ := hB
                rw [ht] at hP1
                have hK1 := va_K.moved hvm.symm hK1
                obtain ⟨hP, hD⟩ := va_join (wr := [(ph, .inl (pc, 4, .inr (.inr (.inr (.inr pf))))), (p0, .inr (0, [.int b0, .int z0, .ref n0])), (n0, .inl (nc0, 40, .inr (.inl g0))), (p1, .inr (0, [.int b1, .int z1, .ref n1])), (n1, .inl (nc1, 40, .inr (.inl g1))), (p2, .inr (0, [.int b2, .int z2, .ref n2])), (n2, .inl (nc2, 40, .inr (.inl g2))), (p3, .inr (0, [.int b3, .int z3, .ref n3])), (n3, .inl (nc3, 40, .inr (.inl g3)))]) (w1 := [(h0, .inr (6, [v0, v1, v2, v3, v4, .ref ph, .ref t0, v7])), (t0, .inl (tc, 7, .inl tg_362))]) hP hD [0, 1] [2, 3, 4, 5, 6, 7, 8, 9, 10] rfl rfl (by decide) (by decide) hk1 hFc hP1 hD1
                generalize H1 = H at hP hS ⊢
                have hP : va_P (dC, dI) vwCl [(ph, .inl (pc, 4, .inr (.inr (.inr (.inr pf))))), (p0, .inr (0, [.int b0, .int z0, .ref n0])), (n0, .inl (nc0, 40, .inr (.inl g0))), (p1, .inr (0, [.int b1, .int z1, .ref n1])), (n1, .inl (nc1, 40, .inr (.inl g1))), (p2, .inr (0, [.int b2, .int z2, .ref n2])), (n2, .inl (nc2, 40, .inr (.inl g2))), (p3, .inr (0, [.int b3, .int z3, .ref n3])), (n3, .inl (nc3, 40, .inr (.inl g3))), (h0, .inr (6, [v0, v1, v2, v3, v4, .ref ph, .ref t0, v7])), (t0, .inl (tc, 7, .inl tg_362))] H := hP
                have hD : va_D A [(ph, .inl (pc, 4, .inr (.inr (.inr (.inr pf))))), (p0, .inr (0, [.int b0, .int z0, .ref n0])), (n0, .inl (nc0, 40, .inr (.inl g0))), (p1, .inr (0, [.int b1, .int z1, .ref n1])), (n1, .inl (nc1, 40, .inr (.inl g1))), (p2, .inr (0, [.int b2, .int z2, .ref n2])), (n2, .inl (nc2, 40, .inr (.inl g2))), (p3, .inr (0, [.int b3, .int z3, .ref n3])), (n3, .inl (nc3, 40, .inr (.inl g3))), (h0, .inr (6, [v0, v1, v2, v3, v4, .ref ph, .ref t0, v7])), (t0, .inl (tc, 7, .inl tg_362))] := hD
                subst hw
                have hP9 := hP.sub (ws' := [(h0, .inr (6, [v0, v1, v2, v3, v4, .ref ph, .ref t0, v7])), (t0, .inl (tc, 7, .inl tg_362)), (ph, .inl (pc, 4, .inr (.inr (.inr (.inr pf))))), (p0, .inr (0, [.int b0, .int z0, .ref n0])), (n0, .inl (nc0, 40, .inr (.inl g0))), (p1, .inr (0, [.int b1, .int z1, .ref n1])), (n1, .inl (nc1, 40, .inr (.inl g1))), (p2, .inr (0, [.int b2, .int z2, .ref n2])), (n2, .inl (nc2, 40, .inr (.inl g2))), (p3, .inr (0, [.int b3, .int z3, .ref n3])), (n3, .inl (nc3, 40, .inr (.inl g3)))]) [9, 10, 0, 1, 2, 3, 4, 5, 6, 7, 8] rfl
                have hD9 := hD.sub (ws' := [(h0, .inr (6, [v0, v1, v2, v3, v4, .ref ph, .ref t0, v7])), (t0, .inl (tc, 7, .inl tg_362)), (ph, .inl (pc, 4, .inr (.inr (.inr (.inr pf))))), (p0, .inr (0, [.int b0, .int z0, .ref n0])), (n0, .inl (nc0, 40, .inr (.inl g0))), (p1, .inr (0, [.int b1, .int z1, .ref n1])), (n1, .inl (nc1, 40, .inr (.inl g1))), (p2, .inr (0, [.int b2, .int z2, .ref n2])), (n2, .inl (nc2, 40, .inr (.inl g2))), (p3, .inr (0, [.int b3, .int z3, .ref n3])), (n3, .inl (nc3, 40, .inr (.inl g3)))]) [9, 10, 0, 1, 2, 3, 4, 5, 6, 7, 8] (by decide) rfl
                have hK9 := hK.sub (tys' := [(tc, .int), (pc, .object "LampShapes$Paper"), (nc0, .long), (nc1, .long), (nc2, .long), (nc3, .long)]) [0, 1, 2, 3, 4, 5] rfl
                exact W.iret (v := ((-1000000001) : Int32)) hx hb hr (fun t ht hW => ⟨⟨((-1000000001) : Int32), (), rfl, trivial, tg_362, g0, g1, g2, g3, by rw [ht]; exact hP9, va_K.moved hW.alike hK9, hD9⟩, hS.F ht⟩) hS.2.2 dX8_copy_104
          · skip
            have tc_353 : ¬ b3.toInt = b0.toInt := fun h => c_353 ((fa_eq _ _).mpr h)
            refine lv_aload_n hx hb dX8_copy_68 rfl (lv_at hl 2 rfl) ?_
            refine lv_ldc hx hb hown (hts _ (List.mem_of_getElem? (i := 29) rfl)) dX8_copy_69 ?_
            have hPc := hP.sub (ws' := [(h0, .inr (6, [v0, v1, v2, v3, v4, .ref ph, .ref t0, v7])), (t0, .inl (tc, 7, .inl tf))]) [0, 1] rfl
            have hKc := hK.sub (tys' := [(tc, .int)]) [0] rfl
            have hDc := hD.sub (ws' := [(h0, .inr (6, [v0, v1, v2, v3, v4, .ref ph, .ref t0, v7])), (t0, .inl (tc, 7, .inl tf))]) [0, 1] (by decide) rfl
            have hFc := va_free (wc := [(h0, .inr (6, [v0, v1, v2, v3, v4, .ref ph, .ref t0, v7])), (t0, .inl (tc, 7, .inl tf))]) hD hS hA [0, 1] rfl
            refine va_calli (va_runV (As := [.int (-1000000003)]) (rest := []) ⟨hx, hb, hml, hown, hts⟩ (f_kind l dC dI ad h0 v0 v1 v2 v3 v4 (.ref ph) t0 v7 tc tf s.heap.size ) (cwV 1 hts g_x_copy_f_kind_63 rfl rfl rfl (by decide +kernel) ⟨(Nat.le_of_ble_eq_true rfl), (Nat.le_of_ble_eq_true rfl)⟩) ⟨preM_blind, va_recv hKc hPc (ci := 6) (q0 := 0) rfl rfl, fun U hU hW => ⟨rfl, preM_at hU hW hPc hKc hDc hev⟩⟩ rfl rfl hl.1 rfl (lv_room (Nat.le_of_ble_eq_true rfl)) dX8_copy_71 ⟨(Nat.le_of_ble_eq_true rfl), (Nat.le_of_ble_eq_true rfl)⟩) hS (fun q _ h => hFc q h) hFc (fun r_363 u t H1 locs ht hvm hw hB hz1 hk1 hS => ?_)
            obtain ⟨tg_364, hP1, hK1, hD1⟩ := hB
            rw [ht] at hP1
            have hK1 := va_K.moved hvm.symm hK1
            obtain ⟨hP, hD⟩ := va_join (wr := [(ph, .inl (pc, 4, .inr (.inr (.inr (.inr pf))))), (p0, .inr (0, [.int b0, .int z0, .ref n0])), (n0, .inl (nc0, 40, .inr (.inl g0))), (p1, .inr (0, [.int b1, .int z1, .ref n1])), (n1, .inl (nc1, 40, .inr (.inl g1))), (p2, .inr (0, [.int b2, .int z2, .ref n2])), (n2, .inl (nc2, 40, .inr (.inl g2))), (p3, .inr (0, [.int b3, .int z3, .ref n3])), (n3, .inl (nc3, 40, .inr (.inl g3)))]) (w1 := [(h0, .inr (6, [v0, v1, v2, v3, v4, .ref ph, .ref t0, v7])), (t0, .inl (tc, 7, .inl tg_364))]) hP hD [0, 1] [2, 3, 4, 5, 6, 7, 8, 9, 10] rfl rfl (by decide) (by decide) hk1 hFc hP1 hD1
            generalize H1 = H at hP hS ⊢
            have hP : va_P (dC, dI) vwCl [(ph, .inl (pc, 4, .inr (.inr (.inr (.inr pf))))), (p0, .inr (0, [.int b0, .int z0, .ref n0])), (n0, .inl (nc0, 40, .inr (.inl g0))), (p1, .inr (0, [.int b1, .int z1, .ref n1])), (n1, .inl (nc1, 40, .inr (.inl g1))), (p2, .inr (0, [.int b2, .int z2, .ref n2])), (n2, .inl (nc2, 40, .inr (.inl g2))), (p3, .inr (0, [.int b3, .int z3, .ref n3])), (n3, .inl (nc3, 40, .inr (.inl g3))), (h0, .inr (6, [v0, v1, v2, v3, v4, .ref ph, .ref t0, v7])), (t0, .inl (tc, 7, .inl tg_364))] H := hP
            have hD : va_D A [(ph, .inl (pc, 4, .inr (.inr (.inr (.inr pf))))), (p0, .inr (0, [.int b0, .int z0, .ref n0])), (n0, .inl (nc0, 40, .inr (.inl g0))), (p1, .inr (0, [.int b1, .int z1, .ref n1])), (n1, .inl (nc1, 40, .inr (.inl g1))), (p2, .inr (0, [.int b2, .int z2, .ref n2])), (n2, .inl (nc2, 40, .inr (.inl g2))), (p3, .inr (0, [.int b3, .int z3, .ref n3])), (n3, .inl (nc3, 40, .inr (.inl g3))), (h0, .inr (6, [v0, v1, v2, v3, v4, .ref ph, .ref t0, v7])), (t0, .inl (tc, 7, .inl tg_364))] := hD
            subst hw
            have hP9 := hP.sub (ws' := [(h0, .inr (6, [v0, v1, v2, v3, v4, .ref ph, .ref t0, v7])), (t0, .inl (tc, 7, .inl tg_364)), (ph, .inl (pc, 4, .inr (.inr (.inr (.inr pf))))), (p0, .inr (0, [.int b0, .int z0, .ref n0])), (n0, .inl (nc0, 40, .inr (.inl g0))), (p1, .inr (0, [.int b1, .int z1, .ref n1])), (n1, .inl (nc1, 40, .inr (.inl g1))), (p2, .inr (0, [.int b2, .int z2, .ref n2])), (n2, .inl (nc2, 40, .inr (.inl g2))), (p3, .inr (0, [.int b3, .int z3, .ref n3])), (n3, .inl (nc3, 40, .inr (.inl g3)))]) [9, 10, 0, 1, 2, 3, 4, 5, 6, 7, 8] rfl
            have hD9 := hD.sub (ws' := [(h0, .inr (6, [v0, v1, v2, v3, v4, .ref ph, .ref t0, v7])), (t0, .inl (tc, 7, .inl tg_364)), (ph, .inl (pc, 4, .inr (.inr (.inr (.inr pf))))), (p0, .inr (0, [.int b0, .int z0, .ref n0])), (n0, .inl (nc0, 40, .inr (.inl g0))), (p1, .inr (0, [.int b1, .int z1, .ref n1])), (n1, .inl (nc1, 40, .inr (.inl g1))), (p2, .inr (0, [.int b2, .int z2, .ref n2])), (n2, .inl (nc2, 40, .inr (.inl g2))), (p3, .inr (0, [.int b3, .int z3, .ref n3])), (n3, .inl (nc3, 40, .inr (.inl g3)))]) [9, 10, 0, 1, 2, 3, 4, 5, 6, 7, 8] (by decide) rfl
            have hK9 := hK.sub (tys' := [(tc, .int), (pc, .object "LampShapes$Paper"), (nc0, .long), (nc1, .long), (nc2, .long), (nc3, .long)]) [0, 1, 2, 3, 4, 5] rfl
            exact W.iret (v := ((-1000000003) : Int32)) hx hb hr (fun t ht hW => ⟨⟨((-1000000003) : Int32), (), rfl, trivial, tg_364, g0, g1, g2, g3, by rw [ht]; exact hP9, va_K.moved hW.alike hK9, hD9⟩, hS.F ht⟩) hS.2.2 dX8_copy_74
        · skip
          have tc_352 : ¬ r_351.toInt = 0 := fun h => c_352 ((fa_eq _ _).mpr h)
          refine lv_aload_n hx hb dX8_copy_47 rfl (lv_at hl 2 rfl) ?_
          refine lv_ldcw hx hb hown (hts _ (List.mem_of_getElem? (i := 19) rfl)) dX8_copy_48 ?_
          have hPc := hP.sub (ws' := [(h0, .inr (6, [v0, v1, v2, v3, v4, .ref ph, .ref t0, v7])), (t0, .inl (tc, 7, .inl tf))]) [0, 1] rfl
          have hKc := hK.sub (tys' := [(tc, .int)]) [0] rfl
          have hDc := hD.sub (ws' := [(h0, .inr (6, [v0, v1, v2, v3, v4, .ref ph, .ref t0, v7])), (t0, .inl (tc, 7, .inl tf))]) [0, 1] (by decide) rfl
          have hFc := va_free (wc := [(h0, .inr (6, [v0, v1, v2, v3, v4, .ref ph, .ref t0, v7])), (t0, .inl (tc, 7, .inl tf))]) hD hS hA [0, 1] rfl
          refine va_calli (va_runV (As := [.int (-1000000006)]) (rest := []) ⟨hx, hb, hml, hown, hts⟩ (f_missing l dC dI ad h0 v0 v1 v2 v3 v4 (.ref ph) t0 v7 tc tf s.heap.size ) (cwV 1 hts g_x_copy_f_missing_63 rfl rfl rfl (by decide +kernel) ⟨(Nat.le_of_ble_eq_true rfl), (Nat.le_of_ble_eq_true rfl)⟩) ⟨preM_blind, va_recv hKc hPc (ci := 6) (q0 := 0) rfl rfl, fun U hU hW => ⟨rfl, preM_at hU hW hPc hKc hDc hev⟩⟩ rfl rfl hl.1 rfl (lv_room (Nat.le_of_ble_eq_true rfl)) dX8_copy_51 ⟨(Nat.le_of_ble_eq_true rfl), (Nat.le_of_ble_eq_true rfl)⟩) hS (fun q _ h => hFc q h) hFc (fun r_365 u t H1 locs ht hvm hw hB hz1 hk1 hS => ?_)
          obtain ⟨tg_366, hP1, hK1, hD1⟩ := hB
          rw [ht] at hP1
          have hK1 := va_K.moved hvm.symm hK1
          obtain ⟨hP, hD⟩ := va_join (wr := [(ph, .inl (pc, 4, .inr (.inr (.inr (.inr pf))))), (p0, .inr (0, [.int b0, .int z0, .ref n0])), (n0, .inl (nc0, 40, .inr (.inl g0))), (p1, .inr (0, [.int b1, .int z1, .ref n1])), (n1, .inl (nc1, 40, .inr (.inl g1))), (p2, .inr (0, [.int b2, .int z2, .ref n2])), (n2, .inl (nc2, 40, .inr (.inl g2))), (p3, .inr (0, [.int b3, .int z3, .ref n3])), (n3, .inl (nc3, 40, .inr (.inl g3)))]) (w1 := [(h0, .inr (6, [v0, v1, v2, v3, v4, .ref ph, .ref t0, v7])), (t0, .inl (tc, 7, .inl tg_366))]) hP hD [0, 1] [2, 3, 4, 5, 6, 7, 8, 9, 10] rfl rfl (by decide) (by decide) hk1 hFc hP1 hD1
          generalize H1 = H at hP hS ⊢
          have hP : va_P (dC, dI) vwCl [(ph, .inl (pc, 4, .inr (.inr (.inr (.inr pf))))), (p0, .inr (0, [.int b0, .int z0, .ref n0])), (n0, .inl (nc0, 40, .inr (.inl g0))), (p1, .inr (0, [.int b1, .int z1, .ref n1])), (n1, .inl (nc1, 40, .inr (.inl g1))), (p2, .inr (0, [.int b2, .int z2, .ref n2])), (n2, .inl (nc2, 40, .inr (.inl g2))), (p3, .inr (0, [.int b3, .int z3, .ref n3])), (n3, .inl (nc3, 40, .inr (.inl g3))), (h0, .inr (6, [v0, v1, v2, v3, v4, .ref ph, .ref t0, v7])), (t0, .inl (tc, 7, .inl tg_366))] H := hP
          have hD : va_D A [(ph, .inl (pc, 4, .inr (.inr (.inr (.inr pf))))), (p0, .inr (0, [.int b0, .int z0, .ref n0])), (n0, .inl (nc0, 40, .inr (.inl g0))), (p1, .inr (0, [.int b1, .int z1, .ref n1])), (n1, .inl (nc1, 40, .inr (.inl g1))), (p2, .inr (0, [.int b2, .int z2, .ref n2])), (n2, .inl (nc2, 40, .inr (.inl g2))), (p3, .inr (0, [.int b3, .int z3, .ref n3])), (n3, .inl (nc3, 40, .inr (.inl g3))), (h0, .inr (6, [v0, v1, v2, v3, v4, .ref ph, .ref t0, v7])), (t0, .inl (tc, 7, .inl tg_366))] := hD
          subst hw
          have hP9 := hP.sub (ws' := [(h0, .inr (6, [v0, v1, v2, v3, v4, .ref ph, .ref t0, v7])), (t0, .inl (tc, 7, .inl tg_366)), (ph, .inl (pc, 4, .inr (.inr (.inr (.inr pf))))), (p0, .inr (0, [.int b0, .int z0, .ref n0])), (n0, .inl (nc0, 40, .inr (.inl g0))), (p1, .inr (0, [.int b1, .int z1, .ref n1])), (n1, .inl (nc1, 40, .inr (.inl g1))), (p2, .inr (0, [.int b2, .int z2, .ref n2])), (n2, .inl (nc2, 40, .inr (.inl g2))), (p3, .inr (0, [.int b3, .int z3, .ref n3])), (n3, .inl (nc3, 40, .inr (.inl g3)))]) [9, 10, 0, 1, 2, 3, 4, 5, 6, 7, 8] rfl
          have hD9 := hD.sub (ws' := [(h0, .inr (6, [v0, v1, v2, v3, v4, .ref ph, .ref t0, v7])), (t0, .inl (tc, 7, .inl tg_366)), (ph, .inl (pc, 4, .inr (.inr (.inr (.inr pf))))), (p0, .inr (0, [.int b0, .int z0, .ref n0])), (n0, .inl (nc0, 40, .inr (.inl g0))), (p1, .inr (0, [.int b1, .int z1, .ref n1])), (n1, .inl (nc1, 40, .inr (.inl g1))), (p2, .inr (0, [.int b2, .int z2, .ref n2])), (n2, .inl (nc2, 40, .inr (.inl g2))), (p3, .inr (0, [.int b3, .int z3, .ref n3])), (n3, .inl (nc3, 40, .inr (.inl g3)))]) [9, 10, 0, 1, 2, 3, 4, 5, 6, 7, 8] (by decide) rfl
          have hK9 := hK.sub (tys' := [(tc, .int), (pc, .object "LampShapes$Paper"), (nc0, .long), (nc1, .long), (nc2, .long), (nc3, .long)]) [0, 1, 2, 3, 4, 5] rfl
          exact W.iret (v := ((-1000000006) : Int32)) hx hb hr (fun t ht hW => ⟨⟨((-1000000006) : Int32), (), rfl, trivial, tg_366, g0, g1, g2, g3, by rw [ht]; exact hP9, va_K.moved hW.alike hK9, hD9⟩, hS.F ht⟩) hS.2.2 dX8_copy_54
    · skip
      refine Met.ofW (cc := cX8_copy) (maxL := 8) (ret := (some .int)) (by decide) rfl ?_
      intro p e s m args below meth c s₁ B hml hv
      obtain ⟨rfl, hsz, hP, hK, hD0, hev⟩ := hv
      have hx := B.exec
      have hb := B.bytes
      have hr := B.returns
      have hts := atoms_spec (ws := w_x_copy) B.pre
      have hown : s.vm.findClass RX8 = some m.cls := findClass_of_methodNamed B.named
      have hlocks := B.notSynchronized
      have inX8 : ∀ w ∈ wsX80, w ∈ w_x_copy := fun w h => List.mem_cons_of_mem _ (List.mem_append_left _ (List.mem_append_right _ h))
      have inX2 : ∀ w ∈ wsX20, w ∈ w_x_copy := fun w h => List.mem_cons_of_mem _ (List.mem_append_right _ h)
      subst hsz
      have hD := hD0.self (sz := s.heap.size)
      generalize hAe : va_A [(h0, .inr (6, [v0, v1, v2, v3, v4, .ref ph, .ref t0, v7])), (t0, .inl (tc, 7, .inl tf)), (ph, .inl (pc, 4, .inr (.inr (.inr (.inr pf))))), (p0, .inr (0, [.int b0, .int z0, .ref n0])), (n0, .inl (nc0, 40, .inr (.inl g0))), (p1, .inr (0, [.int b1, .int z1, .ref n1])), (n1, .inl (nc1, 40, .inr (.inl g1))), (p2, .inr (0, [.int b2, .int z2, .ref n2])), (n2, .inl (nc2, 40, .inr (.inl g2))), (p3, .inr (0, [.int b3, .int z3, .ref n3])), (n3, .inl (nc3, 40, .inr (.inl g3)))] s.heap.size = A at hD ⊢
      have hA : ∀ q : Nat, s.heap.size ≤ q → A q := fun q h => by rw [← hAe]; exact Or.inr h
      have hS : va_S A s.heap s.heap [] := va_S.rf
      have hP : va_P (dC, dI) vwCl [(h0, .inr (6, [v0, v1, v2, v3, v4, .ref ph, .ref t0, v7])), (t0, .inl (tc, 7, .inl tf)), (ph, .inl (pc, 4, .inr (.inr (.inr (.inr pf))))), (p0, .inr (0, [.int b0, .int z0, .ref n0])), (n0, .inl (nc0, 40, .inr (.inl g0))), (p1, .inr (0, [.int b1, .int z1, .ref n1])), (n1, .inl (nc1, 40, .inr (.inl g1))), (p2, .inr (0, [.int b2, .int z2, .ref n2])), (n2, .inl (nc2, 40, .inr (.inl g2))), (p3, .inr (0, [.int b3, .int z3, .ref n3])), (n3, .inl (nc3, 40, .inr (.inl g3)))] s.heap := hP
      have hl := lv_entry ([.ref h0, .int 3, .int i, .int 1, .int j, .int n]) (n := 8) (Nat.le_of_ble_eq_true rfl)
      rw [lg_entry_eq]
      generalize (lg_sl ([.ref h0, .int 3, .int i, .int 1, .int j, .int n]) ++ List.replicate (8 - (lg_sl ([.ref h0, .int 3, .int i, .int 1, .int j, .int n])).length) Slot.unset).toArray = ls at hl ⊢
      have hl : lv_has ls 8 [(0, .ref h0), (1, .int 3), (2, .int i), (3, .int 1), (4, .int j), (5, .int n)] := hl
      refine lv_aload_n hx hb dX8_copy_0 rfl (lv_at hl 0 rfl) ?_
      refine lv_iload_n hx hb dX8_copy_1 rfl (lv_at hl 1 rfl) ?_
      have hPc := hP.sub (ws' := [(h0, .inr (6, [v0, v1, v2, v3, v4, .ref ph, .ref t0, v7])), (ph, .inl (pc, 4, .inr (.inr (.inr (.inr pf)))))]) [0, 2] rfl
      have hKc := hK.sub (tys' := [(pc, .object "LampShapes$Paper")]) [1] rfl
      refine va_csq (W.runV (As := [.int 3]) (rest := []) ⟨hx, hb, hml, hown, hts⟩ (c_paperAt_3 l dC dI ad h0 v0 v1 v2 v3 v4 ph (.ref t0) v7 pc pf p3 hp3) (cwV 1 hts g_x_copy_c_paperAt_3_256 rfl rfl rfl (by decide +kernel) ⟨(Nat.le_of_ble_eq_true rfl), (Nat.le_of_ble_eq_true rfl)⟩) ⟨preS_blind, va_recv hKc hPc (ci := 6) (q0 := 0) rfl rfl, fun U hU hW => ⟨rfl, preS_at hU hW hPc hKc hev⟩⟩ rfl rfl hl.1 rfl (lv_room (Nat.le_of_ble_eq_true rfl)) dX8_copy_2 ⟨(Nat.le_of_ble_eq_true rfl), (Nat.le_of_ble_eq_true rfl)⟩) (fun r_367 hw => ?_)
      subst hw
      refine pp_tv (y := .ref p3) rfl ?_
      refine lv_astore (lv' := [(6, .ref p3), (0, .ref h0), (1, .int 3), (2, .int i), (3, .int 1), (4, .int j), (5, .int n)]) hx hb dX8_copy_5 hl (by decide) rfl (fun ls hl => ?_)
      refine lv_aload_n hx hb dX8_copy_7 rfl (lv_at hl 1 rfl) ?_
      refine lv_iload_n hx hb dX8_copy_8 rfl (lv_at hl 4 rfl) ?_
      have hPc := hP.sub (ws' := [(h0, .inr (6, [v0, v1, v2, v3, v4, .ref ph, .ref t0, v7])), (ph, .inl (pc, 4, .inr (.inr (.inr (.inr pf)))))]) [0, 2] rfl
      have hKc := hK.sub (tys' := [(pc, .object "LampShapes$Paper")]) [1] rfl
      refine va_csq (W.runV (As := [.int 1]) (rest := []) ⟨hx, hb, hml, hown, hts⟩ (c_paperAt_1 l dC dI ad h0 v0 v1 v2 v3 v4 ph (.ref t0) v7 pc pf p1 hp1) (cwV 1 hts g_x_copy_c_paperAt_1_256 rfl rfl rfl (by decide +kernel) ⟨(Nat.le_of_ble_eq_true rfl), (Nat.le_of_ble_eq_true rfl)⟩) ⟨preS_blind, va_recv hKc hPc (ci := 6) (q0 := 0) rfl rfl, fun U hU hW => ⟨rfl, preS_at hU hW hPc hKc hev⟩⟩ rfl rfl hl.1 rfl (lv_room (Nat.le_of_ble_eq_true rfl)) dX8_copy_9 ⟨(Nat.le_of_ble_eq_true rfl), (Nat.le_of_ble_eq_true rfl)⟩) (fun r_368 hw => ?_)
      subst hw
      refine pp_tv (y := .ref p1) rfl ?_
      refine lv_astore (lv' := [(7, .ref p1), (6, .ref p3), (0, .ref h0), (1, .int 3), (2, .int i), (3, .int 1), (4, .int j), (5, .int n)]) hx hb dX8_copy_12 hl (by decide) rfl (fun ls hl => ?_)
      refine lv_aload hx hb dX8_copy_14 (lv_at hl 1 rfl) ?_
      refine lv_ifnull hx hb dX8_copy_16 ?_
      refine lv_aload hx hb dX8_copy_19 (lv_at hl 0 rfl) ?_
      refine lv_ifnonnull (tgt := 31) hx hb dX8_copy_21 (by decide) ?_
      refine lv_aload hx hb dX8_copy_31 (lv_at hl 1 rfl) ?_
      have hPc := hP.sub (ws' := [(p3, .inr (0, [.int b3, .int z3, .ref n3]))]) [9] rfl
      have hKc := hK.sub (tys' := []) [] rfl
      refine vp_callSi (W.runV (As := []) (rest := []) ⟨hx, hb, hml, hown, hts⟩ (p_isMissing l dC dI ad p3 b3 (.int z3) (.ref n3) ) (cwV 0 hts g_x_copy_p_isMissing_268 rfl rfl rfl (by decide +kernel) ⟨(Nat.le_of_ble_eq_true rfl), (Nat.le_of_ble_eq_true rfl)⟩) ⟨preS_blind, va_recv hKc hPc (ci := 0) (q0 := 0) rfl rfl, fun U hU hW => ⟨rfl, preS_at hU hW hPc hKc hev⟩⟩ rfl rfl hl.1 rfl (lv_room (Nat.le_of_ble_eq_true rfl)) dX8_copy_33 ⟨(Nat.le_of_ble_eq_true rfl), (Nat.le_of_ble_eq_true rfl)⟩) (fun r_369 hw => ?_)
      have hr_369 : (r_369.toInt = 1 ∧ b3.toInt = 0) ∨ (r_369.toInt = 0 ∧ ¬ b3.toInt = 0) := hw
      refine lv_if_ne (tgt := 47) hx hb dX8_copy_36 (by decide) (fun c_370 => ?_) (fun c_370 => ?_)
      · skip
        have tc_370 : ¬ r_369.toInt = 0 := fun h => c_370 ((fa_eq _ _).mpr h)
        refine lv_aload_n hx hb dX8_copy_47 rfl (lv_at hl 2 rfl) ?_
        refine lv_ldcw hx hb hown (hts _ (List.mem_of_getElem? (i := 19) rfl)) dX8_copy_48 ?_
        have hPc := hP.sub (ws' := [(h0, .inr (6, [v0, v1, v2, v3, v4, .ref ph, .ref t0, v7])), (t0, .inl (tc, 7, .inl tf))]) [0, 1] rfl
        have hKc := hK.sub (tys' := [(tc, .int)]) [0] rfl
        have hDc := hD.sub (ws' := [(h0, .inr (6, [v0, v1, v2, v3, v4, .ref ph, .ref t0, v7])), (t0, .inl (tc, 7, .inl tf))]) [0, 1] (by decide) rfl
        have hFc := va_free (wc := [(h0, .inr (6, [v0, v1, v2, v3, v4, .ref ph, .ref t0, v7])), (t0, .inl (tc, 7, .inl tf))]) hD hS hA [0, 1] rfl
        refine va_calli (va_runV (As := [.int (-1000000006)]) (rest := []) ⟨hx, hb, hml, hown, hts⟩ (f_missing l dC dI ad h0 v0 v1 v2 v3 v4 (.ref ph) t0 v7 tc tf s.heap.size ) (cwV 1 hts g_x_copy_f_missing_63 rfl rfl rfl (by decide +kernel) ⟨(Nat.le_of_ble_eq_true rfl), (Nat.le_of_ble_eq_true rfl)⟩) ⟨preM_blind, va_recv hKc hPc (ci := 6) (q0 := 0) rfl rfl, fun U hU hW => ⟨rfl, preM_at hU hW hPc hKc hDc hev⟩⟩ rfl rfl hl.1 rfl (lv_room (Nat.le_of_ble_eq_true rfl)) dX8_copy_51 ⟨(Nat.le_of_ble_eq_true rfl), (Nat.le_of_ble_eq_true rfl)⟩) hS (fun q _ h => hFc q h) hFc (fun r_371 u t H1 locs ht hvm hw hB hz1 hk1 hS => ?_)
        obtain ⟨tg_372, hP1, hK1, hD1⟩ := hB
        rw [ht] at hP1
        have hK1 := va_K.moved hvm.symm hK1
        obtain ⟨hP, hD⟩ := va_join (wr := [(ph, .inl (pc, 4, .inr (.inr (.inr (.inr pf))))), (p0, .inr (0, [.int b0, .int z0, .ref n0])), (n0, .inl (nc0, 40, .inr (.inl g0))), (p1, .inr (0, [.int b1, .int z1, .ref n1])), (n1, .inl (nc1, 40, .inr (.inl g1))), (p2, .inr (0, [.int b2, .int z2, .ref n2])), (n2, .inl (nc2, 40, .inr (.inl g2))), (p3, .inr (0, [.int b3, .int z3, .ref n3])), (n3, .inl (nc3, 40, .inr (.inl g3)))]) (w1 := [(h0, .inr (6, [v0, v1, v2, v3, v4, .ref ph, .ref t0, v7])), (t0, .inl (tc, 7, .inl tg_372))]) hP hD [0, 1] [2, 3, 4, 5, 6, 7, 8, 9, 10] rfl rfl (by decide) (by decide) hk1 hFc hP1 hD1
        generalize H1 = H at hP hS ⊢
        have hP : va_P (dC, dI) vwCl [(ph, .inl (pc, 4, .inr (.inr (.inr (.inr pf))))), (p0, .inr (0, [.int b0, .int z0, .ref n0])), (n0, .inl (nc0, 40, .inr (.inl g0))), (p1, .inr (0, [.int b1, .int z1, .ref n1])), (n1, .inl (nc1, 40, .inr (.inl g1))), (p2, .inr (0, [.int b2, .int z2, .ref n2])), (n2, .inl (nc2, 40, .inr (.inl g2))), (p3, .inr (0, [.int b3, .int z3, .ref n3])), (n3, .inl (nc3, 40, .inr (.inl g3))), (h0, .inr (6, [v0, v1, v2, v3, v4, .ref ph, .ref t0, v7])), (t0, .inl (tc, 7, .inl tg_372))] H := hP
        have hD : va_D A [(ph, .inl (pc, 4, .inr (.inr (.inr (.inr pf))))), (p0, .inr (0, [.int b0, .int z0, .ref n0])), (n0, .inl (nc0, 40, .inr (.inl g0))), (p1, .inr (0, [.int b1, .int z1, .ref n1])), (n1, .inl (nc1, 40, .inr (.inl g1))), (p2, .inr (0, [.int b2, .int z2, .ref n2])), (n2, .inl (nc2, 40, .inr (.inl g2))), (p3, .inr (0, [.int b3, .int z3, .ref n3])), (n3, .inl (nc3, 40, .inr (.inl g3))), (h0, .inr (6, [v0, v1, v2, v3, v4, .ref ph, .ref t0, v7])), (t0, .inl (tc, 7, .inl tg_372))] := hD
        subst hw
        have hP9 := hP.sub (ws' := [(h0, .inr (6, [v0, v1, v2, v3, v4, .ref ph, .ref t0, v7])), (t0, .inl (tc, 7, .inl tg_372)), (ph, .inl (pc, 4, .inr (.inr (.inr (.inr pf))))), (p0, .inr (0, [.int b0, .int z0, .ref n0])), (n0, .inl (nc0, 40, .inr (.inl g0))), (p1, .inr (0, [.int b1, .int z1, .ref n1])), (n1, .inl (nc1, 40, .inr (.inl g1))), (p2, .inr (0, [.int b2, .int z2, .ref n2])), (n2, .inl (nc2, 40, .inr (.inl g2))), (p3, .inr (0, [.int b3, .int z3, .ref n3])), (n3, .inl (nc3, 40, .inr (.inl g3)))]) [9, 10, 0, 1, 2, 3, 4, 5, 6, 7, 8] rfl
        have hD9 := hD.sub (ws' := [(h0, .inr (6, [v0, v1, v2, v3, v4, .ref ph, .ref t0, v7])), (t0, .inl (tc, 7, .inl tg_372)), (ph, .inl (pc, 4, .inr (.inr (.inr (.inr pf))))), (p0, .inr (0, [.int b0, .int z0, .ref n0])), (n0, .inl (nc0, 40, .inr (.inl g0))), (p1, .inr (0, [.int b1, .int z1, .ref n1])), (n1, .inl (nc1, 40, .inr (.inl g1))), (p2, .inr (0, [.int b2, .int z2, .ref n2])), (n2, .inl (nc2, 40, .inr (.inl g2))), (p3, .inr (0, [.int b3, .int z3, .ref n3])), (n3, .inl (nc3, 40, .inr (.inl g3)))]) [9, 10, 0, 1, 2, 3, 4, 5, 6, 7, 8] (by decide) rfl
        have hK9 := hK.sub (tys' := [(tc, .int), (pc, .object "LampShapes$Paper"), (nc0, .long), (nc1, .long), (nc2, .long), (nc3, .long)]) [0, 1, 2, 3, 4, 5] rfl
        exact W.iret (v := ((-1000000006) : Int32)) hx hb hr (fun t ht hW => ⟨⟨((-1000000006) : Int32), (), rfl, trivial, tg_372, g0, g1, g2, g3, by rw [ht]; exact hP9, va_K.moved hW.alike hK9, hD9⟩, hS.F ht⟩) hS.2.2 dX8_copy_54
      · skip
        have tc_370 : r_369.toInt = 0 := (fa_eq _ _).mp c_370
        refine lv_aload hx hb dX8_copy_39 (lv_at hl 0 rfl) ?_
        have hPc := hP.sub (ws' := [(p1, .inr (0, [.int b1, .int z1, .ref n1]))]) [5] rfl
        have hKc := hK.sub (tys' := []) [] rfl
        refine vp_callSi (W.runV (As := []) (rest := []) ⟨hx, hb, hml, hown, hts⟩ (p_isMissing l dC dI ad p1 b1 (.int z1) (.ref n1) ) (cwV 0 hts g_x_copy_p_isMissing_268 rfl rfl rfl (by decide +kernel) ⟨(Nat.le_of_ble_eq_true rfl), (Nat.le_of_ble_eq_true rfl)⟩) ⟨preS_blind, va_recv hKc hPc (ci := 0) (q0 := 0) rfl rfl, fun U hU hW => ⟨rfl, preS_at hU hW hPc hKc hev⟩⟩ rfl rfl hl.1 rfl (lv_room (Nat.le_of_ble_eq_true rfl)) dX8_copy_41 ⟨(Nat.le_of_ble_eq_true rfl), (Nat.le_of_ble_eq_true rfl)⟩) (fun r_373 hw => ?_)
        have hr_373 : (r_373.toInt = 1 ∧ b1.toInt = 0) ∨ (r_373.toInt = 0 ∧ ¬ b1.toInt = 0) := hw
        refine lv_if_eq (tgt := 55) hx hb dX8_copy_44 (by decide) (fun c_374 => ?_) (fun c_374 => ?_)
        · skip
          have tc_374 : r_373.toInt = 0 := (fa_eq _ _).mp c_374
          refine lv_aload hx hb dX8_copy_55 (lv_at hl 1 rfl) ?_
          refine va_getN (D := (dC, dI)) (ci := 0) (v := .int b3) (C := RX2) (T := TX2) (N := 3) hx hb hts inX2 hown hK hP 9 rfl rfl 0 (by decide) (ev_nest hev 21 rfl) (fun _ h9 => h9) rfl dX8_copy_57 ?_
          refine lv_aload hx hb dX8_copy_60 (lv_at hl 0 rfl) ?_
          refine va_getN (D := (dC, dI)) (ci := 0) (v := .int b1) (C := RX2) (T := TX2) (N := 3) hx hb hts inX2 hown hK hP 5 rfl rfl 0 (by decide) (ev_nest hev 21 rfl) (fun _ h9 => h9) rfl dX8_copy_62 ?_
          have rc_375_x := pp_rng b3
          have rc_375_y := pp_rng b1
          refine lv_icmp_eq (tgt := 75) hx hb dX8_copy_65 (by decide) (fun c_375 => ?_) (fun c_375 => ?_)
          · skip
            have tc_375 : b3.toInt = b1.toInt := (fa_eq _ _).mp c_375
            refine lv_aload hx hb dX8_copy_75 (lv_at hl 1 rfl) ?_
            refine lv_iload_n hx hb dX8_copy_77 rfl (lv_at hl 4 rfl) ?_
            refine lv_iload hx hb dX8_copy_78 (lv_at hl 7 rfl) ?_
            have hPc := hP.sub (ws' := [(p3, .inr (0, [.int b3, .int z3, .ref n3]))]) [9] rfl
            have hKc := hK.sub (tys' := []) [] rfl
            refine vp_callSi (W.runV (As := [.int i, .int n]) (rest := []) ⟨hx, hb, hml, hown, hts⟩ (p_hasPart l dC dI ad p3 i n (.int b3) z3 (.ref n3) hz3) (cwV 2 hts g_x_copy_p_hasPart_282 rfl rfl rfl (by decide +kernel) ⟨(Nat.le_of_ble_eq_true rfl), (Nat.le_of_ble_eq_true rfl)⟩) ⟨preS_blind, va_recv hKc hPc (ci := 0) (q0 := 0) rfl rfl, fun U hU hW => ⟨rfl, preS_at hU hW hPc hKc hev⟩⟩ rfl rfl hl.1 rfl (lv_room (Nat.le_of_ble_eq_true rfl)) dX8_copy_80 ⟨(Nat.le_of_ble_eq_true rfl), (Nat.le_of_ble_eq_true rfl)⟩) (fun r_376 hw => ?_)
            have hr_376 : (r_376.toInt = 1 ∧ 0 ≤ i.toInt ∧ 0 ≤ n.toInt ∧ i.toInt + n.toInt ≤ z3.toInt) ∨ (r_376.toInt = 0 ∧ ¬ (0 ≤ i.toInt ∧ 0 ≤ n.toInt ∧ i.toInt + n.toInt ≤ z3.toInt)) := hw
            refine lv_if_eq (tgt := 98) hx hb dX8_copy_83 (by decide) (fun c_377 => ?_) (fun c_377 => ?_)
            · skip
              have tc_377 : r_376.toInt = 0 := (fa_eq _ _).mp c_377
              refine lv_aload_n hx hb dX8_copy_98 rfl (lv_at hl 2 rfl) ?_
              refine lv_ldc hx hb hown (hts _ (List.mem_of_getElem? (i := 6) rfl)) dX8_copy_99 ?_
              have hPc := hP.sub (ws' := [(h0, .inr (6, [v0, v1, v2, v3, v4, .ref ph, .ref t0, v7])), (t0, .inl (tc, 7, .inl tf))]) [0, 1] rfl
              have hKc := hK.sub (tys' := [(tc, .int)]) [0] rfl
              have hDc := hD.sub (ws' := [(h0, .inr (6, [v0, v1, v2, v3, v4, .ref ph, .ref t0, v7])), (t0, .inl (tc, 7, .inl tf))]) [0, 1] (by decide) rfl
              have hFc := va_free (wc := [(h0, .inr (6, [v0, v1, v2, v3, v4, .ref ph, .ref t0, v7])), (t0, .inl (tc, 7, .inl tf))]) hD hS hA [0, 1] rfl
              refine va_calli (va_runV (As := [.int (-1000000001)]) (rest := []) ⟨hx, hb, hml, hown, hts⟩ (f_beyond l dC dI ad h0 v0 v1 v2 v3 v4 (.ref ph) t0 v7 tc tf s.heap.size ) (cwV 1 hts g_x_copy_f_beyond_63 rfl rfl rfl (by decide +kernel) ⟨(Nat.le_of_ble_eq_true rfl), (Nat.le_of_ble_eq_true rfl)⟩) ⟨preM_blind, va_recv hKc hPc (ci := 6) (q0 := 0) rfl rfl, fun U hU hW => ⟨rfl, preM_at hU hW hPc hKc hDc hev⟩⟩ rfl rfl hl.1 rfl (lv_room (Nat.le_of_ble_eq_true rfl)) dX8_copy_101 ⟨(Nat.le_of_ble_eq_true rfl), (Nat.le_of_ble_eq_true rfl)⟩) hS (fun q _ h => hFc q h) hFc (fun r_378 u t H1 locs ht hvm hw hB hz1 hk1 hS => ?_)
              obtain ⟨tg_379, hP1, hK1, hD1⟩ := hB
              rw [ht] at hP1
              have hK1 := va_K.moved hvm.symm hK1
              obtain ⟨hP, hD⟩ := va_join (wr := [(ph, .inl (pc, 4, .inr (.inr (.inr (.inr pf))))), (p0, .inr (0, [.int b0, .int z0, .ref n0])), (n0, .inl (nc0, 40, .inr (.inl g0))), (p1, .inr (0, [.int b1, .int z1, .ref n1])), (n1, .inl (nc1, 40, .inr (.inl g1))), (p2, .inr (0, [.int b2, .int z2, .ref n2])), (n2, .inl (nc2, 40, .inr (.inl g2))), (p3, .inr (0, [.int b3, .int z3, .ref n3])), (n3, .inl (nc3, 40, .inr (.inl g3)))]) (w1 := [(h0, .inr (6, [v0, v1, v2, v3, v4, .ref ph, .ref t0, v7])), (t0, .inl (tc, 7, .inl tg_379))]) hP hD [0, 1] [2, 3, 4, 5, 6, 7, 8, 9, 10] rfl rfl (by decide) (by decide) hk1 hFc hP1 hD1
              generalize H1 = H at hP hS ⊢
              have hP : va_P (dC, dI) vwCl [(ph, .inl (pc, 4, .inr (.inr (.inr (.inr pf))))), (p0, .inr (0, [.int b0, .int z0, .ref n0])), (n0, .inl (nc0, 40, .inr (.inl g0))), (p1, .inr (0, [.int b1, .int z1, .ref n1])), (n1, .inl (nc1, 40, .inr (.inl g1))), (p2, .inr (0, [.int b2, .int z2, .ref n2])), (n2, .inl (nc2, 40, .inr (.inl g2))), (p3, .inr (0, [.int b3, .int z3, .ref n3])), (n3, .inl (nc3, 40, .inr (.inl g3))), (h0, .inr (6, [v0, v1, v2, v3, v4, .ref ph, .ref t0, v7])), (t0, .inl (tc, 7, .inl tg_379))] H := hP
              have hD : va_D A [(ph, .inl (pc, 4, .inr (.inr (.inr (.inr pf))))), (p0, .inr (0, [.int b0, .int z0, .ref n0])), (n0, .inl (nc0, 40, .inr (.inl g0))), (p1, .inr (0, [.int b1, .int z1, .ref n1])), (n1, .inl (nc1, 40, .inr (.inl g1))), (p2, .inr (0, [.int b2, .int z2, .ref n2])), (n2, .inl (nc2, 40, .inr (.inl g2))), (p3, .inr (0, [.int b3, .int z3, .ref n3])), (n3, .inl (nc3, 40, .inr (.inl g3))), (h0, .inr (6, [v0, v1, v2, v3, v4, .ref ph, .ref t0, v7])), (t0, .inl (tc, 7, .inl tg_379))] := hD
              subst hw
              have hP9 := hP.sub (ws' := [(h0, .inr (6, [v0, v1, v2, v3, v4, .ref ph, .ref t0, v7])), (t0, .inl (tc, 7, .inl tg_379)), (ph, .inl (pc, 4, .inr (.inr (.inr (.inr pf))))), (p0, .inr (0, [.int b0, .int z0, .ref n0])), (n0, .inl (nc0, 40, .inr (.inl g0))), (p1, .inr (0, [.int b1, .int z1, .ref n1])), (n1, .inl (nc1, 40, .inr (.inl g1))), (p2, .inr (0, [.int b2, .int z2, .ref n2])), (n2, .inl (nc2, 40, .inr (.inl g2))), (p3, .inr (0, [.int b3, .int z3, .ref n3])), (n3, .inl (nc3, 40, .inr (.inl g3)))]) [9, 10, 0, 1, 2, 3, 4, 5, 6, 7, 8] rfl
              have hD9 := hD.sub (ws' := [(h0, .inr (6, [v0, v1, v2, v3, v4, .ref ph, .ref t0, v7])), (t0, .inl (tc, 7, .inl tg_379)), (ph, .inl (pc, 4, .inr (.inr (.inr (.inr pf))))), (p0, .inr (0, [.int b0, .int z0, .ref n0])), (n0, .inl (nc0, 40, .inr (.inl g0))), (p1, .inr (0, [.int b1, .int z1, .ref n1])), (n1, .inl (nc1, 40, .inr (.inl g1))), (p2, .inr (0, [.int b2, .int z2, .ref n2])), (n2, .inl (nc2, 40, .inr (.inl g2))), (p3, .inr (0, [.int b3, .int z3, .ref n3])), (n3, .inl (nc3, 40, .inr (.inl g3)))]) [9, 10, 0, 1, 2, 3, 4, 5, 6, 7, 8] (by decide) rfl
              have hK9 := hK.sub (tys' := [(tc, .int), (pc, .object "LampShapes$Paper"), (nc0, .long), (nc1, .long), (nc2, .long), (nc3, .long)]) [0, 1, 2, 3, 4, 5] rfl
              exact W.iret (v := ((-1000000001) : Int32)) hx hb hr (fun t ht hW => ⟨⟨((-1000000001) : Int32), (), rfl, trivial, tg_379, g0, g1, g2, g3, by rw [ht]; exact hP9, va_K.moved hW.alike hK9, hD9⟩, hS.F ht⟩) hS.2.2 dX8_copy_104
            · skip
              have tc_377 : ¬ r_376.toInt = 0 := fun h => c_377 ((fa_eq _ _).mpr h)
              refine lv_aload hx hb dX8_copy_86 (lv_at hl 0 rfl) ?_
              refine lv_iload hx hb dX8_copy_88 (lv_at hl 6 rfl) ?_
              refine lv_iload hx hb dX8_copy_90 (lv_at hl 7 rfl) ?_
              have hPc := hP.sub (ws' := [(p1, .inr (0, [.int b1, .int z1, .ref n1]))]) [5] rfl
              have hKc := hK.sub (tys' := []) [] rfl
              refine vp_callSi (W.runV (As := [.int j, .int n]) (rest := []) ⟨hx, hb, hml, hown, hts⟩ (p_hasPart l dC dI ad p1 j n (.int b1) z1 (.ref n1) hz1) (cwV 2 hts g_x_copy_p_hasPart_282 rfl rfl rfl (by decide +kernel) ⟨(Nat.le_of_ble_eq_true rfl), (Nat.le_of_ble_eq_true rfl)⟩) ⟨preS_blind, va_recv hKc hPc (ci := 0) (q0 := 0) rfl rfl, fun U hU hW => ⟨rfl, preS_at hU hW hPc hKc hev⟩⟩ rfl rfl hl.1 rfl (lv_room (Nat.le_of_ble_eq_true rfl)) dX8_copy_92 ⟨(Nat.le_of_ble_eq_true rfl), (Nat.le_of_ble_eq_true rfl)⟩) (fun r_380 hw => ?_)
              have hr_380 : (r_380.toInt = 1 ∧ 0 ≤ j.toInt ∧ 0 ≤ n.toInt ∧ j.toInt + n.toInt ≤ z1.toInt) ∨ (r_380.toInt = 0 ∧ ¬ (0 ≤ j.toInt ∧ 0 ≤ n.toInt ∧ j.toInt + n.toInt ≤ z1.toInt)) := hw
              refine lv_if_ne (tgt := 105) hx hb dX8_copy_95 (by decide) (fun c_381 => ?_) (fun c_381 => ?_)
              · skip
                have tc_381 : ¬ r_380.toInt = 0 := fun h => c_381 ((fa_eq _ _).mpr h)
                refine lv_aload hx hb dX8_copy_105 (lv_at hl 1 rfl) ?_
                refine va_getN (D := (dC, dI)) (ci := 0) (v := .ref n3) (C := RX2) (T := TX2) (N := 3) hx hb hts inX2 hown hK hP 9 rfl rfl 2 (by decide) (ev_nest hev 23 rfl) (fun _ h9 => h9) rfl dX8_copy_107 ?_
                refine lv_iload_n hx hb dX8_copy_110 rfl (lv_at hl 4 rfl) ?_
                refine lv_aload hx hb dX8_copy_111 (lv_at hl 0 rfl) ?_
                refine va_getN (D := (dC, dI)) (ci := 0) (v := .ref n1) (C := RX2) (T := TX2) (N := 3) hx hb hts inX2 hown hK hP 5 rfl rfl 2 (by decide) (ev_nest hev 23 rfl) (fun _ h9 => h9) rfl dX8_copy_113 ?_
                refine lv_iload hx hb dX8_copy_116 (lv_at hl 6 rfl) ?_
                refine lv_iload hx hb dX8_copy_118 (lv_at hl 7 rfl) ?_
                refine va_copyl (ty := .long) hx hb (by rw [hml]; exact hl.1.symm) hown (hts _ (List.mem_of_getElem? (i := 25) rfl)) (hts _ (List.mem_of_getElem? (i := 26) rfl)) (hts _ (List.mem_of_getElem? (i := 27) rfl)) (hts _ (List.mem_of_getElem? (i := 28) rfl)) hK hP hD hS 10 6 5 3 rfl rfl rfl rfl rfl (fun h => absurd ((fa_lt _ _).mp h) (by show ¬ i.toInt < 0; omega)) (fun h => absurd ((fa_lt _ _).mp h) (by show ¬ j.toInt < 0; omega)) (fun h => absurd ((fa_lt _ _).mp h) (by show ¬ n.toInt < 0; omega)) (by show i.toInt.toNat + n.toInt.toNat ≤ 40; omega) (by show j.toInt.toNat + n.toInt.toNat ≤ 40; omega) (fun _ _ => rfl) (Nat.le_of_ble_eq_true rfl) (Nat.le_of_ble_eq_true rfl) dX8_copy_120 (fun H locs hP hD hS => ?_)
                generalize va_cpy g3 g1 i.toNatClampNeg j.toNatClampNeg n.toNatClampNeg = f_382 at hP hD
                have hP : va_P (dC, dI) vwCl [(h0, .inr (6, [v0, v1, v2, v3, v4, .ref ph, .ref t0, v7])), (t0, .inl (tc, 7, .inl tf)), (ph, .inl (pc, 4, .inr (.inr (.inr (.inr pf))))), (p0, .inr (0, [.int b0, .int z0, .ref n0])), (n0, .inl (nc0, 40, .inr (.inl g0))), (p1, .inr (0, [.int b1, .int z1, .ref n1])), (n1, .inl (nc1, 40, .inr (.inl f_382))), (p2, .inr (0, [.int b2, .int z2, .ref n2])), (n2, .inl (nc2, 40, .inr (.inl g2))), (p3, .inr (0, [.int b3, .int z3, .ref n3])), (n3, .inl (nc3, 40, .inr (.inl g3)))] H := hP
                have hD : va_D A [(h0, .inr (6, [v0, v1, v2, v3, v4, .ref ph, .ref t0, v7])), (t0, .inl (tc, 7, .inl tf)), (ph, .inl (pc, 4, .inr (.inr (.inr (.inr pf))))), (p0, .inr (0, [.int b0, .int z0, .ref n0])), (n0, .inl (nc0, 40, .inr (.inl g0))), (p1, .inr (0, [.int b1, .int z1, .ref n1])), (n1, .inl (nc1, 40, .inr (.inl f_382))), (p2, .inr (0, [.int b2, .int z2, .ref n2])), (n2, .inl (nc2, 40, .inr (.inl g2))), (p3, .inr (0, [.int b3, .int z3, .ref n3])), (n3, .inl (nc3, 40, .inr (.inl g3)))] := hD
                refine lv_iload hx hb dX8_copy_123 (lv_at hl 7 rfl) ?_
                have hP9 := hP.sub (ws' := [(h0, .inr (6, [v0, v1, v2, v3, v4, .ref ph, .ref t0, v7])), (t0, .inl (tc, 7, .inl tf)), (ph, .inl (pc, 4, .inr (.inr (.inr (.inr pf))))), (p0, .inr (0, [.int b0, .int z0, .ref n0])), (n0, .inl (nc0, 40, .inr (.inl g0))), (p1, .inr (0, [.int b1, .int z1, .ref n1])), (n1, .inl (nc1, 40, .inr (.inl f_382))), (p2, .inr (0, [.int b2, .int z2, .ref n2])), (n2, .inl (nc2, 40, .inr (.inl g2))), (p3, .inr (0, [.int b3, .int z3, .ref n3])), (n3, .inl (nc3, 40, .inr (.inl g3)))]) [0, 1, 2, 3, 4, 5, 6, 7, 8, 9, 10] rfl
                have hD9 := hD.sub (ws' := [(h0, .inr (6, [v0, v1, v2, v3, v4, .ref ph, .ref t0, v7])), (t0, .inl (tc, 7, .inl tf)), (ph, .inl (pc, 4, .inr (.inr (.inr (.inr pf))))), (p0, .inr (0, [.int b0, .int z0, .ref n0])), (n0, .inl (nc0, 40, .inr (.inl g0))), (p1, .inr (0, [.int b1, .int z1, .ref n1])), (n1, .inl (nc1, 40, .inr (.inl f_382))), (p2, .inr (0, [.int b2, .int z2, .ref n2])), (n2, .inl (nc2, 40, .inr (.inl g2))), (p3, .inr (0, [.int b3, .int z3, .ref n3])), (n3, .inl (nc3, 40, .inr (.inl g3)))]) [0, 1, 2, 3, 4, 5, 6, 7, 8, 9, 10] (by decide) rfl
                have hK9 := hK.sub (tys' := [(tc, .int), (pc, .object "LampShapes$Paper"), (nc0, .long), (nc1, .long), (nc2, .long), (nc3, .long)]) [0, 1, 2, 3, 4, 5] rfl
                exact W.iret (v := n) hx hb hr (fun t ht hW => ⟨⟨n, (), rfl, trivial, tf, g0, f_382, g2, g3, by rw [ht]; exact hP9, va_K.moved hW.alike hK9, hD9⟩, hS.F ht⟩) hS.2.2 dX8_copy_125
              · skip
                have tc_381 : r_380.toInt = 0 := (fa_eq _ _).mp c_381
                refine lv_aload_n hx hb dX8_copy_98 rfl (lv_at hl 2 rfl) ?_
                refine lv_ldc hx hb hown (hts _ (List.mem_of_getElem? (i := 6) rfl)) dX8_copy_99 ?_
                have hPc := hP.sub (ws' := [(h0, .inr (6, [v0, v1, v2, v3, v4, .ref ph, .ref t0, v7])), (t0, .inl (tc, 7, .inl tf))]) [0, 1] rfl
                have hKc := hK.sub (tys' := [(tc, .int)]) [0] rfl
                have hDc := hD.sub (ws' := [(h0, .inr (6, [v0, v1, v2, v3, v4, .ref ph, .ref t0, v7])), (t0, .inl (tc, 7, .inl tf))]) [0, 1] (by decide) rfl
                have hFc := va_free (wc := [(h0, .inr (6, [v0, v1, v2, v3, v4, .ref ph, .ref t0, v7])), (t0, .inl (tc, 7, .inl tf))]) hD hS hA [0, 1] rfl
                refine va_calli (va_runV (As := [.int (-1000000001)]) (rest := []) ⟨hx, hb, hml, hown, hts⟩ (f_beyond l dC dI ad h0 v0 v1 v2 v3 v4 (.ref ph) t0 v7 tc tf s.heap.size ) (cwV 1 hts g_x_copy_f_beyond_63 rfl rfl rfl (by decide +kernel) ⟨(Nat.le_of_ble_eq_true rfl), (Nat.le_of_ble_eq_true rfl)⟩) ⟨preM_blind, va_recv hKc hPc (ci := 6) (q0 := 0) rfl rfl, fun U hU hW => ⟨rfl, preM_at hU hW hPc hKc hDc hev⟩⟩ rfl rfl hl.1 rfl (lv_room (Nat.le_of_ble_eq_true rfl)) dX8_copy_101 ⟨(Nat.le_of_ble_eq_true rfl), (Nat.le_of_ble_eq_true rfl)⟩) hS (fun q _ h => hFc q h) hFc (fun r_383 u t H1 locs ht hvm hw hB hz1 hk1 hS => ?_)
                obtain ⟨tg_384, hP1, hK1, hD1⟩ := hB
                rw [ht] at hP1
                have hK1 := va_K.moved hvm.symm hK1
                obtain ⟨hP, hD⟩ := va_join (wr := [(ph, .inl (pc, 4, .inr (.inr (.inr (.inr pf))))), (p0, .inr (0, [.int b0, .int z0, .ref n0])), (n0, .inl (nc0, 40, .inr (.inl g0))), (p1, .inr (0, [.int b1, .int z1, .ref n1])), (n1, .inl (nc1, 40, .inr (.inl g1))), (p2, .inr (0, [.int b2, .int z2, .ref n2])), (n2, .inl (nc2, 40, .inr (.inl g2))), (p3, .inr (0, [.int b3, .int z3, .ref n3])), (n3, .inl (nc3, 40, .inr (.inl g3)))]) (w1 := [(h0, .inr (6, [v0, v1, v2, v3, v4, .ref ph, .ref t0, v7])), (t0, .inl (tc, 7, .inl tg_384))]) hP hD [0, 1] [2, 3, 4, 5, 6, 7, 8, 9, 10] rfl rfl (by decide) (by decide) hk1 hFc hP1 hD1
                generalize H1 = H at hP hS ⊢
                have hP : va_P (dC, dI) vwCl [(ph, .inl (pc, 4, .inr (.inr (.inr (.inr pf))))), (p0, .inr (0, [.int b0, .int z0, .ref n0])), (n0, .inl (nc0, 40, .inr (.inl g0))), (p1, .inr (0, [.int b1, .int z1, .ref n1])), (n1, .inl (nc1, 40, .inr (.inl g1))), (p2, .inr (0, [.int b2, .int z2, .ref n2])), (n2, .inl (nc2, 40, .inr (.inl g2))), (p3, .inr (0, [.int b3, .int z3, .ref n3])), (n3, .inl (nc3, 40, .inr (.inl g3))), (h0, .inr (6, [v0, v1, v2, v3, v4, .ref ph, .ref t0, v7])), (t0, .inl (tc, 7, .inl tg_384))] H := hP
                have hD : va_D A [(ph, .inl (pc, 4, .inr (.inr (.inr (.inr pf))))), (p0, .inr (0, [.int b0, .int z0, .ref n0])), (n0, .inl (nc0, 40, .inr (.inl g0))), (p1, .inr (0, [.int b1, .int z1, .ref n1])), (n1, .inl (nc1, 40, .inr (.inl g1))), (p2, .inr (0, [.int b2, .int z2, .ref n2])), (n2, .inl (nc2, 40, .inr (.inl g2))), (p3, .inr (0, [.int b3, .int z3, .ref n3])), (n3, .inl (nc3, 40, .inr (.inl g3))), (h0, .inr (6, [v0, v1, v2, v3, v4, .ref ph, .ref t0, v7])), (t0, .inl (tc, 7, .inl tg_384))] := hD
                subst hw
                have hP9 := hP.sub (ws' := [(h0, .inr (6, [v0, v1, v2, v3, v4, .ref ph, .ref t0, v7])), (t0, .inl (tc, 7, .inl tg_384)), (ph, .inl (pc, 4, .inr (.inr (.inr (.inr pf))))), (p0, .inr (0, [.int b0, .int z0, .ref n0])), (n0, .inl (nc0, 40, .inr (.inl g0))), (p1, .inr (0, [.int b1, .int z1, .ref n1])), (n1, .inl (nc1, 40, .inr (.inl g1))), (p2, .inr (0, [.int b2, .int z2, .ref n2])), (n2, .inl (nc2, 40, .inr (.inl g2))), (p3, .inr (0, [.int b3, .int z3, .ref n3])), (n3, .inl (nc3, 40, .inr (.inl g3)))]) [9, 10, 0, 1, 2, 3, 4, 5, 6, 7, 8] rfl
                have hD9 := hD.sub (ws' := [(h0, .inr (6, [v0, v1, v2, v3, v4, .ref ph, .ref t0, v7])), (t0, .inl (tc, 7, .inl tg_384)), (ph, .inl (pc, 4, .inr (.inr (.inr (.inr pf))))), (p0, .inr (0, [.int b0, .int z0, .ref n0])), (n0, .inl (nc0, 40, .inr (.inl g0))), (p1, .inr (0, [.int b1, .int z1, .ref n1])), (n1, .inl (nc1, 40, .inr (.inl g1))), (p2, .inr (0, [.int b2, .int z2, .ref n2])), (n2, .inl (nc2, 40, .inr (.inl g2))), (p3, .inr (0, [.int b3, .int z3, .ref n3])), (n3, .inl (nc3, 40, .inr (.inl g3)))]) [9, 10, 0, 1, 2, 3, 4, 5, 6, 7, 8] (by decide) rfl
                have hK9 := hK.sub (tys' := [(tc, .int), (pc, .object "LampShapes$Paper"), (nc0, .long), (nc1, .long), (nc2, .long), (nc3, .long)]) [0, 1, 2, 3, 4, 5] rfl
                exact W.iret (v := ((-1000000001) : Int32)) hx hb hr (fun t ht hW => ⟨⟨((-1000000001) : Int32), (), rfl, trivial, tg_384, g0, g1, g2, g3, by rw [ht]; exact hP9, va_K.moved hW.alike hK9, hD9⟩, hS.F ht⟩) hS.2.2 dX8_copy_104
          · skip
            have tc_375 : ¬ b3.toInt = b1.toInt := fun h => c_375 ((fa_eq _ _).mpr h)
            refine lv_aload_n hx hb dX8_copy_68 rfl (lv_at hl 2 rfl) ?_
            refine lv_ldc hx hb hown (hts _ (List.mem_of_getElem? (i := 29) rfl)) dX8_copy_69 ?_
            have hPc := hP.sub (ws' := [(h0, .inr (6, [v0, v1, v2, v3, v4, .ref ph, .ref t0, v7])), (t0, .inl (tc, 7, .inl tf))]) [0, 1] rfl
            have hKc := hK.sub (tys' := [(tc, .int)]) [0] rfl
            have hDc := hD.sub (ws' := [(h0, .inr (6, [v0, v1, v2, v3, v4, .ref ph, .ref t0, v7])), (t0, .inl (tc, 7, .inl tf))]) [0, 1] (by decide) rfl
            have hFc := va_free (wc := [(h0, .inr (6, [v0, v1, v2, v3, v4, .ref ph, .ref t0, v7])), (t0, .inl (tc, 7, .inl tf))]) hD hS hA [0, 1] rfl
            refine va_calli (va_runV (As := [.int (-1000000003)]) (rest := []) ⟨hx, hb, hml, hown, hts⟩ (f_kind l dC dI ad h0 v0 v1 v2 v3 v4 (.ref ph) t0 v7 tc tf s.heap.size ) (cwV 1 hts g_x_copy_f_kind_63 rfl rfl rfl (by decide +kernel) ⟨(Nat.le_of_ble_eq_true rfl), (Nat.le_of_ble_eq_true rfl)⟩) ⟨preM_blind, va_recv hKc hPc (ci := 6) (q0 := 0) rfl rfl, fun U hU hW => ⟨rfl, preM_at hU hW hPc hKc hDc hev⟩⟩ rfl rfl hl.1 rfl (lv_room (Nat.le_of_ble_eq_true rfl)) dX8_copy_71 ⟨(Nat.le_of_ble_eq_true rfl), (Nat.le_of_ble_eq_true rfl)⟩) hS (fun q _ h => hFc q h) hFc (fun r_385 u t H1 locs ht hvm hw hB hz1 hk1 hS => ?_)
            obtain ⟨tg_386, hP1, hK1, hD1⟩ := hB
            rw [ht] at hP1
            have hK1 := va_K.moved hvm.symm hK1
            obtain ⟨hP, hD⟩ := va_join (wr := [(ph, .inl (pc, 4, .inr (.inr (.inr (.inr pf))))), (p0, .inr (0, [.int b0, .int z0, .ref n0])), (n0, .inl (nc0, 40, .inr (.inl g0))), (p1, .inr (0, [.int b1, .int z1, .ref n1])), (n1, .inl (nc1, 40, .inr (.inl g1))), (p2, .inr (0, [.int b2, .int z2, .ref n2])), (n2, .inl (nc2, 40, .inr (.inl g2))), (p3, .inr (0, [.int b3, .int z3, .ref n3])), (n3, .inl (nc3, 40, .inr (.inl g3)))]) (w1 := [(h0, .inr (6, [v0, v1, v2, v3, v4, .ref ph, .ref t0, v7])), (t0, .inl (tc, 7, .inl tg_386))]) hP hD [0, 1] [2, 3, 4, 5, 6, 7, 8, 9, 10] rfl rfl (by decide) (by decide) hk1 hFc hP1 hD1
            generalize H1 = H at hP hS ⊢
            have hP : va_P (dC, dI) vwCl [(ph, .inl (pc, 4, .inr (.inr (.inr (.inr pf))))), (p0, .inr (0, [.int b0, .int z0, .ref n0])), (n0, .inl (nc0, 40, .inr (.inl g0))), (p1, .inr (0, [.int b1, .int z1, .ref n1])), (n1, .inl (nc1, 40, .inr (.inl g1))), (p2, .inr (0, [.int b2, .int z2, .ref n2])), (n2, .inl (nc2, 40, .inr (.inl g2))), (p3, .inr (0, [.int b3, .int z3, .ref n3])), (n3, .inl (nc3, 40, .inr (.inl g3))), (h0, .inr (6, [v0, v1, v2, v3, v4, .ref ph, .ref t0, v7])), (t0, .inl (tc, 7, .inl tg_386))] H := hP
            have hD : va_D A [(ph, .inl (pc, 4, .inr (.inr (.inr (.inr pf))))), (p0, .inr (0, [.int b0, .int z0, .ref n0])), (n0, .inl (nc0, 40, .inr (.inl g0))), (p1, .inr (0, [.int b1, .int z1, .ref n1])), (n1, .inl (nc1, 40, .inr (.inl g1))), (p2, .inr (0, [.int b2, .int z2, .ref n2])), (n2, .inl (nc2, 40, .inr (.inl g2))), (p3, .inr (0, [.int b3, .int z3, .ref n3])), (n3, .inl (nc3, 40, .inr (.inl g3))), (h0, .inr (6, [v0, v1, v2, v3, v4, .ref ph, .ref t0, v7])), (t0, .inl (tc, 7, .inl tg_386))] := hD
            subst hw
            have hP9 := hP.sub (ws' := [(h0, .inr (6, [v0, v1, v2, v3, v4, .ref ph, .ref t0, v7])), (t0, .inl (tc, 7, .inl tg_386)), (ph, .inl (pc, 4, .inr (.inr (.inr (.inr pf))))), (p0, .inr (0, [.int b0, .int z0, .ref n0])), (n0, .inl (nc0, 40, .inr (.inl g0))), (p1, .inr (0, [.int b1, .int z1, .ref n1])), (n1, .inl (nc1, 40, .inr (.inl g1))), (p2, .inr (0, [.int b2, .int z2, .ref n2])), (n2, .inl (nc2, 40, .inr (.inl g2))), (p3, .inr (0, [.int b3, .int z3, .ref n3])), (n3, .inl (nc3, 40, .inr (.inl g3)))]) [9, 10, 0, 1, 2, 3, 4, 5, 6, 7, 8] rfl
            have hD9 := hD.sub (ws' := [(h0, .inr (6, [v0, v1, v2, v3, v4, .ref ph, .ref t0, v7])), (t0, .inl (tc, 7, .inl tg_386)), (ph, .inl (pc, 4, .inr (.inr (.inr (.inr pf))))), (p0, .inr (0, [.int b0, .int z0, .ref n0])), (n0, .inl (nc0, 40, .inr (.inl g0))), (p1, .inr (0, [.int b1, .int z1, .ref n1])), (n1, .inl (nc1, 40, .inr (.inl g1))), (p2, .inr (0, [.int b2, .int z2, .ref n2])), (n2, .inl (nc2, 40, .inr (.inl g2))), (p3, .inr (0, [.int b3, .int z3, .ref n3])), (n3, .inl (nc3, 40, .inr (.inl g3)))]) [9, 10, 0, 1, 2, 3, 4, 5, 6, 7, 8] (by decide) rfl
            have hK9 := hK.sub (tys' := [(tc, .int), (pc, .object "LampShapes$Paper"), (nc0, .long), (nc1, .long), (nc2, .long), (nc3, .long)]) [0, 1, 2, 3, 4, 5] rfl
            exact W.iret (v := ((-1000000003) : Int32)) hx hb hr (fun t ht hW => ⟨⟨((-1000000003) : Int32), (), rfl, trivial, tg_386, g0, g1, g2, g3, by rw [ht]; exact hP9, va_K.moved hW.alike hK9, hD9⟩, hS.F ht⟩) hS.2.2 dX8_copy_74
        · skip
          have tc_374 : ¬ r_373.toInt = 0 := fun h => c_374 ((fa_eq _ _).mpr h)
          refine lv_aload_n hx hb dX8_copy_47 rfl (lv_at hl 2 rfl) ?_
          refine lv_ldcw hx hb hown (hts _ (List.mem_of_getElem? (i := 19) rfl)) dX8_copy_48 ?_
          have hPc := hP.sub (ws' := [(h0, .inr (6, [v0, v1, v2, v3, v4, .ref ph, .ref t0, v7])), (t0, .inl (tc, 7, .inl tf))]) [0, 1] rfl
          have hKc := hK.sub (tys' := [(tc, .int)]) [0] rfl
          have hDc := hD.sub (ws' := [(h0, .inr (6, [v0, v1, v2, v3, v4, .ref ph, .ref t0, v7])), (t0, .inl (tc, 7, .inl tf))]) [0, 1] (by decide) rfl
          have hFc := va_free (wc := [(h0, .inr (6, [v0, v1, v2, v3, v4, .ref ph, .ref t0, v7])), (t0, .inl (tc, 7, .inl tf))]) hD hS hA [0, 1] rfl
          refine va_calli (va_runV (As := [.int (-1000000006)]) (rest := []) ⟨hx, hb, hml, hown, hts⟩ (f_missing l dC dI ad h0 v0 v1 v2 v3 v4 (.ref ph) t0 v7 tc tf s.heap.size ) (cwV 1 hts g_x_copy_f_missing_63 rfl rfl rfl (by decide +kernel) ⟨(Nat.le_of_ble_eq_true rfl), (Nat.le_of_ble_eq_true rfl)⟩) ⟨preM_blind, va_recv hKc hPc (ci := 6) (q0 := 0) rfl rfl, fun U hU hW => ⟨rfl, preM_at hU hW hPc hKc hDc hev⟩⟩ rfl rfl hl.1 rfl (lv_room (Nat.le_of_ble_eq_true rfl)) dX8_copy_51 ⟨(Nat.le_of_ble_eq_true rfl), (Nat.le_of_ble_eq_true rfl)⟩) hS (fun q _ h => hFc q h) hFc (fun r_387 u t H1 locs ht hvm hw hB hz1 hk1 hS => ?_)
          obtain ⟨tg_388, hP1, hK1, hD1⟩ := hB
          rw [ht] at hP1
          have hK1 := va_K.moved hvm.symm hK1
          obtain ⟨hP, hD⟩ := va_join (wr := [(ph, .inl (pc, 4, .inr (.inr (.inr (.inr pf))))), (p0, .inr (0, [.int b0, .int z0, .ref n0])), (n0, .inl (nc0, 40, .inr (.inl g0))), (p1, .inr (0, [.int b1, .int z1, .ref n1])), (n1, .inl (nc1, 40, .inr (.inl g1))), (p2, .inr (0, [.int b2, .int z2, .ref n2])), (n2, .inl (nc2, 40, .inr (.inl g2))), (p3, .inr (0, [.int b3, .int z3, .ref n3])), (n3, .inl (nc3, 40, .inr (.inl g3)))]) (w1 := [(h0, .inr (6, [v0, v1, v2, v3, v4, .ref ph, .ref t0, v7])), (t0, .inl (tc, 7, .inl tg_388))]) hP hD [0, 1] [2, 3, 4, 5, 6, 7, 8, 9, 10] rfl rfl (by decide) (by decide) hk1 hFc hP1 hD1
          generalize H1 = H at hP hS ⊢
          have hP : va_P (dC, dI) vwCl [(ph, .inl (pc, 4, .inr (.inr (.inr (.inr pf))))), (p0, .inr (0, [.int b0, .int z0, .ref n0])), (n0, .inl (nc0, 40, .inr (.inl g0))), (p1, .inr (0, [.int b1, .int z1, .ref n1])), (n1, .inl (nc1, 40, .inr (.inl g1))), (p2, .inr (0, [.int b2, .int z2, .ref n2])), (n2, .inl (nc2, 40, .inr (.inl g2))), (p3, .inr (0, [.int b3, .int z3, .ref n3])), (n3, .inl (nc3, 40, .inr (.inl g3))), (h0, .inr (6, [v0, v1, v2, v3, v4, .ref ph, .ref t0, v7])), (t0, .inl (tc, 7, .inl tg_388))] H := hP
          have hD : va_D A [(ph, .inl (pc, 4, .inr (.inr (.inr (.inr pf))))), (p0, .inr (0, [.int b0, .int z0, .ref n0])), (n0, .inl (nc0, 40, .inr (.inl g0))), (p1, .inr (0, [.int b1, .int z1, .ref n1])), (n1, .inl (nc1, 40, .inr (.inl g1))), (p2, .inr (0, [.int b2, .int z2, .ref n2])), (n2, .inl (nc2, 40, .inr (.inl g2))), (p3, .inr (0, [.int b3, .int z3, .ref n3])), (n3, .inl (nc3, 40, .inr (.inl g3))), (h0, .inr (6, [v0, v1, v2, v3, v4, .ref ph, .ref t0, v7])), (t0, .inl (tc, 7, .inl tg_388))] := hD
          subst hw
          have hP9 := hP.sub (ws' := [(h0, .inr (6, [v0, v1, v2, v3, v4, .ref ph, .ref t0, v7])), (t0, .inl (tc, 7, .inl tg_388)), (ph, .inl (pc, 4, .inr (.inr (.inr (.inr pf))))), (p0, .inr (0, [.int b0, .int z0, .ref n0])), (n0, .inl (nc0, 40, .inr (.inl g0))), (p1, .inr (0, [.int b1, .int z1, .ref n1])), (n1, .inl (nc1, 40, .inr (.inl g1))), (p2, .inr (0, [.int b2, .int z2, .ref n2])), (n2, .inl (nc2, 40, .inr (.inl g2))), (p3, .inr (0, [.int b3, .int z3, .ref n3])), (n3, .inl (nc3, 40, .inr (.inl g3)))]) [9, 10, 0, 1, 2, 3, 4, 5, 6, 7, 8] rfl
          have hD9 := hD.sub (ws' := [(h0, .inr (6, [v0, v1, v2, v3, v4, .ref ph, .ref t0, v7])), (t0, .inl (tc, 7, .inl tg_388)), (ph, .inl (pc, 4, .inr (.inr (.inr (.inr pf))))), (p0, .inr (0, [.int b0, .int z0, .ref n0])), (n0, .inl (nc0, 40, .inr (.inl g0))), (p1, .inr (0, [.int b1, .int z1, .ref n1])), (n1, .inl (nc1, 40, .inr (.inl g1))), (p2, .inr (0, [.int b2, .int z2, .ref n2])), (n2, .inl (nc2, 40, .inr (.inl g2))), (p3, .inr (0, [.int b3, .int z3, .ref n3])), (n3, .inl (nc3, 40, .inr (.inl g3)))]) [9, 10, 0, 1, 2, 3, 4, 5, 6, 7, 8] (by decide) rfl
          have hK9 := hK.sub (tys' := [(tc, .int), (pc, .object "LampShapes$Paper"), (nc0, .long), (nc1, .long), (nc2, .long), (nc3, .long)]) [0, 1, 2, 3, 4, 5] rfl
          exact W.iret (v := ((-1000000006) : Int32)) hx hb hr (fun t ht hW => ⟨⟨((-1000000006) : Int32), (), rfl, trivial, tg_388, g0, g1, g2, g3, by rw [ht]; exact hP9, va_K.moved hW.alike hK9, hD9⟩, hS.F ht⟩) hS.2.2 dX8_copy_54
    · skip
      refine Met.ofW (cc := cX8_copy) (maxL := 8) (ret := (some .int)) (by decide) rfl ?_
      intro p e s m args below meth c s₁ B hml hv
      obtain ⟨rfl, hsz, hP, hK, hD0, hev⟩ := hv
      have hx := B.exec
      have hb := B.bytes
      have hr := B.returns
      have hts := atoms_spec (ws := w_x_copy) B.pre
      have hown : s.vm.findClass RX8 = some m.cls := findClass_of_methodNamed B.named
      have hlocks := B.notSynchronized
      have inX8 : ∀ w ∈ wsX80, w ∈ w_x_copy := fun w h => List.mem_cons_of_mem _ (List.mem_append_left _ (List.mem_append_right _ h))
      have inX2 : ∀ w ∈ wsX20, w ∈ w_x_copy := fun w h => List.mem_cons_of_mem _ (List.mem_append_right _ h)
      subst hsz
      have hD := hD0.self (sz := s.heap.size)
      generalize hAe : va_A [(h0, .inr (6, [v0, v1, v2, v3, v4, .ref ph, .ref t0, v7])), (t0, .inl (tc, 7, .inl tf)), (ph, .inl (pc, 4, .inr (.inr (.inr (.inr pf))))), (p0, .inr (0, [.int b0, .int z0, .ref n0])), (n0, .inl (nc0, 40, .inr (.inl g0))), (p1, .inr (0, [.int b1, .int z1, .ref n1])), (n1, .inl (nc1, 40, .inr (.inl g1))), (p2, .inr (0, [.int b2, .int z2, .ref n2])), (n2, .inl (nc2, 40, .inr (.inl g2))), (p3, .inr (0, [.int b3, .int z3, .ref n3])), (n3, .inl (nc3, 40, .inr (.inl g3)))] s.heap.size = A at hD ⊢
      have hA : ∀ q : Nat, s.heap.size ≤ q → A q := fun q h => by rw [← hAe]; exact Or.inr h
      have hS : va_S A s.heap s.heap [] := va_S.rf
      have hP : va_P (dC, dI) vwCl [(h0, .inr (6, [v0, v1, v2, v3, v4, .ref ph, .ref t0, v7])), (t0, .inl (tc, 7, .inl tf)), (ph, .inl (pc, 4, .inr (.inr (.inr (.inr pf))))), (p0, .inr (0, [.int b0, .int z0, .ref n0])), (n0, .inl (nc0, 40, .inr (.inl g0))), (p1, .inr (0, [.int b1, .int z1, .ref n1])), (n1, .inl (nc1, 40, .inr (.inl g1))), (p2, .inr (0, [.int b2, .int z2, .ref n2])), (n2, .inl (nc2, 40, .inr (.inl g2))), (p3, .inr (0, [.int b3, .int z3, .ref n3])), (n3, .inl (nc3, 40, .inr (.inl g3)))] s.heap := hP
      have hl := lv_entry ([.ref h0, .int 3, .int i, .int 2, .int j, .int n]) (n := 8) (Nat.le_of_ble_eq_true rfl)
      rw [lg_entry_eq]
      generalize (lg_sl ([.ref h0, .int 3, .int i, .int 2, .int j, .int n]) ++ List.replicate (8 - (lg_sl ([.ref h0, .int 3, .int i, .int 2, .int j, .int n])).length) Slot.unset).toArray = ls at hl ⊢
      have hl : lv_has ls 8 [(0, .ref h0), (1, .int 3), (2, .int i), (3, .int 2), (4, .int j), (5, .int n)] := hl
      refine lv_aload_n hx hb dX8_copy_0 rfl (lv_at hl 0 rfl) ?_
      refine lv_iload_n hx hb dX8_copy_1 rfl (lv_at hl 1 rfl) ?_
      have hPc := hP.sub (ws' := [(h0, .inr (6, [v0, v1, v2, v3, v4, .ref ph, .ref t0, v7])), (ph, .inl (pc, 4, .inr (.inr (.inr (.inr pf)))))]) [0, 2] rfl
      have hKc := hK.sub (tys' := [(pc, .object "LampShapes$Paper")]) [1] rfl
      refine va_csq (W.runV (As := [.int 3]) (rest := []) ⟨hx, hb, hml, hown, hts⟩ (c_paperAt_3 l dC dI ad h0 v0 v1 v2 v3 v4 ph (.ref t0) v7 pc pf p3 hp3) (cwV 1 hts g_x_copy_c_paperAt_3_256 rfl rfl rfl (by decide +kernel) ⟨(Nat.le_of_ble_eq_true rfl), (Nat.le_of_ble_eq_true rfl)⟩) ⟨preS_blind, va_recv hKc hPc (ci := 6) (q0 := 0) rfl rfl, fun U hU hW => ⟨rfl, preS_at hU hW hPc hKc hev⟩⟩ rfl rfl hl.1 rfl (lv_room (Nat.le_of_ble_eq_true rfl)) dX8_copy_2 ⟨(Nat.le_of_ble_eq_true rfl), (Nat.le_of_ble_eq_true rfl)⟩) (fun r_389 hw => ?_)
      subst hw
      refine pp_tv (y := .ref p3) rfl ?_
      refine lv_astore (lv' := [(6, .ref p3), (0, .ref h0), (1, .int 3), (2, .int i), (3, .int 2), (4, .int j), (5, .int n)]) hx hb dX8_copy_5 hl (by decide) rfl (fun ls hl => ?_)
      refine lv_aload_n hx hb dX8_copy_7 rfl (lv_at hl 1 rfl) ?_
      refine lv_iload_n hx hb dX8_copy_8 rfl (lv_at hl 4 rfl) ?_
      have hPc := hP.sub (ws' := [(h0, .inr (6, [v0, v1, v2, v3, v4, .ref ph, .ref t0, v7])), (ph, .inl (pc, 4, .inr (.inr (.inr (.inr pf)))))]) [0, 2] rfl
      have hKc := hK.sub (tys' := [(pc, .object "LampShapes$Paper")]) [1] rfl
      refine va_csq (W.runV (As := [.int 2]) (rest := []) ⟨hx, hb, hml, hown, hts⟩ (c_paperAt_2 l dC dI ad h0 v0 v1 v2 v3 v4 ph (.ref t0) v7 pc pf p2 hp2) (cwV 1 hts g_x_copy_c_paperAt_2_256 rfl rfl rfl (by decide +kernel) ⟨(Nat.le_of_ble_eq_true rfl), (Nat.le_of_ble_eq_true rfl)⟩) ⟨preS_blind, va_recv hKc hPc (ci := 6) (q0 := 0) rfl rfl, fun U hU hW => ⟨rfl, preS_at hU hW hPc hKc hev⟩⟩ rfl rfl hl.1 rfl (lv_room (Nat.le_of_ble_eq_true rfl)) dX8_copy_9 ⟨(Nat.le_of_ble_eq_true rfl), (Nat.le_of_ble_eq_true rfl)⟩) (fun r_390 hw => ?_)
      subst hw
      refine pp_tv (y := .ref p2) rfl ?_
      refine lv_astore (lv' := [(7, .ref p2), (6, .ref p3), (0, .ref h0), (1, .int 3), (2, .int i), (3, .int 2), (4, .int j), (5, .int n)]) hx hb dX8_copy_12 hl (by decide) rfl (fun ls hl => ?_)
      refine lv_aload hx hb dX8_copy_14 (lv_at hl 1 rfl) ?_
      refine lv_ifnull hx hb dX8_copy_16 ?_
      refine lv_aload hx hb dX8_copy_19 (lv_at hl 0 rfl) ?_
      refine lv_ifnonnull (tgt := 31) hx hb dX8_copy_21 (by decide) ?_
      refine lv_aload hx hb dX8_copy_31 (lv_at hl 1 rfl) ?_
      have hPc := hP.sub (ws' := [(p3, .inr (0, [.int b3, .int z3, .ref n3]))]) [9] rfl
      have hKc := hK.sub (tys' := []) [] rfl
      refine vp_callSi (W.runV (As := []) (rest := []) ⟨hx, hb, hml, hown, hts⟩ (p_isMissing l dC dI ad p3 b3 (.int z3) (.ref n3) ) (cwV 0 hts g_x_copy_p_isMissing_268 rfl rfl rfl (by decide +kernel) ⟨(Nat.le_of_ble_eq_true rfl), (Nat.le_of_ble_eq_true rfl)⟩) ⟨preS_blind, va_recv hKc hPc (ci := 0) (q0 := 0) rfl rfl, fun U hU hW => ⟨rfl, preS_at hU hW hPc hKc hev⟩⟩ rfl rfl hl.1 rfl (lv_room (Nat.le_of_ble_eq_true rfl)) dX8_copy_33 ⟨(Nat.le_of_ble_eq_true rfl), (Nat.le_of_ble_eq_true rfl)⟩) (fun r_391 hw => ?_)
      have hr_391 : (r_391.toInt = 1 ∧ b3.toInt = 0) ∨ (r_391.toInt = 0 ∧ ¬ b3.toInt = 0) := hw
      refine lv_if_ne (tgt := 47) hx hb dX8_copy_36 (by decide) (fun c_392 => ?_) (fun c_392 => ?_)
      · skip
        have tc_392 : ¬ r_391.toInt = 0 := fun h => c_392 ((fa_eq _ _).mpr h)
        refine lv_aload_n hx hb dX8_copy_47 rfl (lv_at hl 2 rfl) ?_
        refine lv_ldcw hx hb hown (hts _ (List.mem_of_getElem? (i := 19) rfl)) dX8_copy_48 ?_
        have hPc := hP.sub (ws' := [(h0, .inr (6, [v0, v1, v2, v3, v4, .ref ph, .ref t0, v7])), (t0, .inl (tc, 7, .inl tf))]) [0, 1] rfl
        have hKc := hK.sub (tys' := [(tc, .int)]) [0] rfl
        have hDc := hD.sub (ws' := [(h0, .inr (6, [v0, v1, v2, v3, v4, .ref ph, .ref t0, v7])), (t0, .inl (tc, 7, .inl tf))]) [0, 1] (by decide) rfl
        have hFc := va_free (wc := [(h0, .inr (6, [v0, v1, v2, v3, v4, .ref ph, .ref t0, v7])), (t0, .inl (tc, 7, .inl tf))]) hD hS hA [0, 1] rfl
        refine va_calli (va_runV (As := [.int (-1000000006)]) (rest := []) ⟨hx, hb, hml, hown, hts⟩ (f_missing l dC dI ad h0 v0 v1 v2 v3 v4 (.ref ph) t0 v7 tc tf s.heap.size ) (cwV 1 hts g_x_copy_f_missing_63 rfl rfl rfl (by decide +kernel) ⟨(Nat.le_of_ble_eq_true rfl), (Nat.le_of_ble_eq_true rfl)⟩) ⟨preM_blind, va_recv hKc hPc (ci := 6) (q0 := 0) rfl rfl, fun U hU hW => ⟨rfl, preM_at hU hW hPc hKc hDc hev⟩⟩ rfl rfl hl.1 rfl (lv_room (Nat.le_of_ble_eq_true rfl)) dX8_copy_51 ⟨(Nat.le_of_ble_eq_true rfl), (Nat.le_of_ble_eq_true rfl)⟩) hS (fun q _ h => hFc q h) hFc (fun r_393 u t H1 locs ht hvm hw hB hz1 hk1 hS => ?_)
        obtain ⟨tg_394, hP1, hK1, hD1⟩ := hB
        rw [ht] at hP1
        have hK1 := va_K.moved hvm.symm hK1
        obtain ⟨hP, hD⟩ := va_join (wr := [(ph, .inl (pc, 4, .inr (.inr (.inr (.inr pf))))), (p0, .inr (0, [.int b0, .int z0, .ref n0])), (n0, .inl (nc0, 40, .inr (.inl g0))), (p1, .inr (0, [.int b1, .int z1, .ref n1])), (n1, .inl (nc1, 40, .inr (.inl g1))), (p2, .inr (0, [.int b2, .int z2, .ref n2])), (n2, .inl (nc2, 40, .inr (.inl g2))), (p3, .inr (0, [.int b3, .int z3, .ref n3])), (n3, .inl (nc3, 40, .inr (.inl g3)))]) (w1 := [(h0, .inr (6, [v0, v1, v2, v3, v4, .ref ph, .ref t0, v7])), (t0, .inl (tc, 7, .inl tg_394))]) hP hD [0, 1] [2, 3, 4, 5, 6, 7, 8, 9, 10] rfl rfl (by decide) (by decide) hk1 hFc hP1 hD1
        generalize H1 = H at hP hS ⊢
        have hP : va_P (dC, dI) vwCl [(ph, .inl (pc, 4, .inr (.inr (.inr (.inr pf))))), (p0, .inr (0, [.int b0, .int z0, .ref n0])), (n0, .inl (nc0, 40, .inr (.inl g0))), (p1, .inr (0, [.int b1, .int z1, .ref n1])), (n1, .inl (nc1, 40, .inr (.inl g1))), (p2, .inr (0, [.int b2, .int z2, .ref n2])), (n2, .inl (nc2, 40, .inr (.inl g2))), (p3, .inr (0, [.int b3, .int z3, .ref n3])), (n3, .inl (nc3, 40, .inr (.inl g3))), (h0, .inr (6, [v0, v1, v2, v3, v4, .ref ph, .ref t0, v7])), (t0, .inl (tc, 7, .inl tg_394))] H := hP
        have hD : va_D A [(ph, .inl (pc, 4, .inr (.inr (.inr (.inr pf))))), (p0, .inr (0, [.int b0, .int z0, .ref n0])), (n0, .inl (nc0, 40, .inr (.inl g0))), (p1, .inr (0, [.int b1, .int z1, .ref n1])), (n1, .inl (nc1, 40, .inr (.inl g1))), (p2, .inr (0, [.int b2, .int z2, .ref n2])), (n2, .inl (nc2, 40, .inr (.inl g2))), (p3, .inr (0, [.int b3, .int z3, .ref n3])), (n3, .inl (nc3, 40, .inr (.inl g3))), (h0, .inr (6, [v0, v1, v2, v3, v4, .ref ph, .ref t0, v7])), (t0, .inl (tc, 7, .inl tg_394))] := hD
        subst hw
        have hP9 := hP.sub (ws' := [(h0, .inr (6, [v0, v1, v2, v3, v4, .ref ph, .ref t0, v7])), (t0, .inl (tc, 7, .inl tg_394)), (ph, .inl (pc, 4, .inr (.inr (.inr (.inr pf))))), (p0, .inr (0, [.int b0, .int z0, .ref n0])), (n0, .inl (nc0, 40, .inr (.inl g0))), (p1, .inr (0, [.int b1, .int z1, .ref n1])), (n1, .inl (nc1, 40, .inr (.inl g1))), (p2, .inr (0, [.int b2, .int z2, .ref n2])), (n2, .inl (nc2, 40, .inr (.inl g2))), (p3, .inr (0, [.int b3, .int z3, .ref n3])), (n3, .inl (nc3, 40, .inr (.inl g3)))]) [9, 10, 0, 1, 2, 3, 4, 5, 6, 7, 8] rfl
        have hD9 := hD.sub (ws' := [(h0, .inr (6, [v0, v1, v2, v3, v4, .ref ph, .ref t0, v7])), (t0, .inl (tc, 7, .inl tg_394)), (ph, .inl (pc, 4, .inr (.inr (.inr (.inr pf))))), (p0, .inr (0, [.int b0, .int z0, .ref n0])), (n0, .inl (nc0, 40, .inr (.inl g0))), (p1, .inr (0, [.int b1, .int z1, .ref n1])), (n1, .inl (nc1, 40, .inr (.inl g1))), (p2, .inr (0, [.int b2, .int z2, .ref n2])), (n2, .inl (nc2, 40, .inr (.inl g2))), (p3, .inr (0, [.int b3, .int z3, .ref n3])), (n3, .inl (nc3, 40, .inr (.inl g3)))]) [9, 10, 0, 1, 2, 3, 4, 5, 6, 7, 8] (by decide) rfl
        have hK9 := hK.sub (tys' := [(tc, .int), (pc, .object "LampShapes$Paper"), (nc0, .long), (nc1, .long), (nc2, .long), (nc3, .long)]) [0, 1, 2, 3, 4, 5] rfl
        exact W.iret (v := ((-1000000006) : Int32)) hx hb hr (fun t ht hW => ⟨⟨((-1000000006) : Int32), (), rfl, trivial, tg_394, g0, g1, g2, g3, by rw [ht]; exact hP9, va_K.moved hW.alike hK9, hD9⟩, hS.F ht⟩) hS.2.2 dX8_copy_54
      · skip
        have tc_392 : r_391.toInt = 0 := (fa_eq _ _).mp c_392
        refine lv_aload hx hb dX8_copy_39 (lv_at hl 0 rfl) ?_
        have hPc := hP.sub (ws' := [(p2, .inr (0, [.int b2, .int z2, .ref n2]))]) [7] rfl
        have hKc := hK.sub (tys' := []) [] rfl
        refine vp_callSi (W.runV (As := []) (rest := []) ⟨hx, hb, hml, hown, hts⟩ (p_isMissing l dC dI ad p2 b2 (.int z2) (.ref n2) ) (cwV 0 hts g_x_copy_p_isMissing_268 rfl rfl rfl (by decide +kernel) ⟨(Nat.le_of_ble_eq_true rfl), (Nat.le_of_ble_eq_true rfl)⟩) ⟨preS_blind, va_recv hKc hPc (ci := 0) (q0 := 0) rfl rfl, fun U hU hW => ⟨rfl, preS_at hU hW hPc hKc hev⟩⟩ rfl rfl hl.1 rfl (lv_room (Nat.le_of_ble_eq_true rfl)) dX8_copy_41 ⟨(Nat.le_of_ble_eq_true rfl), (Nat.le_of_ble_eq_true rfl)⟩) (fun r_395 hw => ?_)
        have hr_395 : (r_395.toInt = 1 ∧ b2.toInt = 0) ∨ (r_395.toInt = 0 ∧ ¬ b2.toInt = 0) := hw
        refine lv_if_eq (tgt := 55) hx hb dX8_copy_44 (by decide) (fun c_396 => ?_) (fun c_396 => ?_)
        · skip
          have tc_396 : r_395.toInt = 0 := (fa_eq _ _).mp c_396
          refine lv_aload hx hb dX8_copy_55 (lv_at hl 1 rfl) ?_
          refine va_getN (D := (dC, dI)) (ci := 0) (v := .int b3) (C := RX2) (T := TX2) (N := 3) hx hb hts inX2 hown hK hP 9 rfl rfl 0 (by decide) (ev_nest hev 21 rfl) (fun _ h9 => h9) rfl dX8_copy_57 ?_
          refine lv_aload hx hb dX8_copy_60 (lv_at hl 0 rfl) ?_
          refine va_getN (D := (dC, dI)) (ci := 0) (v := .int b2) (C := RX2) (T := TX2) (N := 3) hx hb hts inX2 hown hK hP 7 rfl rfl 0 (by decide) (ev_nest hev 21 rfl) (fun _ h9 => h9) rfl dX8_copy_62 ?_
          have rc_397_x := pp_rng b3
          have rc_397_y := pp_rng b2
          refine lv_icmp_eq (tgt := 75) hx hb dX8_copy_65 (by decide) (fun c_397 => ?_) (fun c_397 => ?_)
          · skip
            have tc_397 : b3.toInt = b2.toInt := (fa_eq _ _).mp c_397
            refine lv_aload hx hb dX8_copy_75 (lv_at hl 1 rfl) ?_
            refine lv_iload_n hx hb dX8_copy_77 rfl (lv_at hl 4 rfl) ?_
            refine lv_iload hx hb dX8_copy_78 (lv_at hl 7 rfl) ?_
            have hPc := hP.sub (ws' := [(p3, .inr (0, [.int b3, .int z3, .ref n3]))]) [9] rfl
            have hKc := hK.sub (tys' := []) [] rfl
            refine vp_callSi (W.runV (As := [.int i, .int n]) (rest := []) ⟨hx, hb, hml, hown, hts⟩ (p_hasPart l dC dI ad p3 i n (.int b3) z3 (.ref n3) hz3) (cwV 2 hts g_x_copy_p_hasPart_282 rfl rfl rfl (by decide +kernel) ⟨(Nat.le_of_ble_eq_true rfl), (Nat.le_of_ble_eq_true rfl)⟩) ⟨preS_blind, va_recv hKc hPc (ci := 0) (q0 := 0) rfl rfl, fun U hU hW => ⟨rfl, preS_at hU hW hPc hKc hev⟩⟩ rfl rfl hl.1 rfl (lv_room (Nat.le_of_ble_eq_true rfl)) dX8_copy_80 ⟨(Nat.le_of_ble_eq_true rfl), (Nat.le_of_ble_eq_true rfl)⟩) (fun r_398 hw => ?_)
            have hr_398 : (r_398.toInt = 1 ∧ 0 ≤ i.toInt ∧ 0 ≤ n.toInt ∧ i.toInt + n.toInt ≤ z3.toInt) ∨ (r_398.toInt = 0 ∧ ¬ (0 ≤ i.toInt ∧ 0 ≤ n.toInt ∧ i.toInt + n.toInt ≤ z3.toInt)) := hw
            refine lv_if_eq (tgt := 98) hx hb dX8_copy_83 (by decide) (fun c_399 => ?_) (fun c_399 => ?_)
            · skip
              have tc_399 : r_398.toInt = 0 := (fa_eq _ _).mp c_399
              refine lv_aload_n hx hb dX8_copy_98 rfl (lv_at hl 2 rfl) ?_
              refine lv_ldc hx hb hown (hts _ (List.mem_of_getElem? (i := 6) rfl)) dX8_copy_99 ?_
              have hPc := hP.sub (ws' := [(h0, .inr (6, [v0, v1, v2, v3, v4, .ref ph, .ref t0, v7])), (t0, .inl (tc, 7, .inl tf))]) [0, 1] rfl
              have hKc := hK.sub (tys' := [(tc, .int)]) [0] rfl
              have hDc := hD.sub (ws' := [(h0, .inr (6, [v0, v1, v2, v3, v4, .ref ph, .ref t0, v7])), (t0, .inl (tc, 7, .inl tf))]) [0, 1] (by decide) rfl
              have hFc := va_free (wc := [(h0, .inr (6, [v0, v1, v2, v3, v4, .ref ph, .ref t0, v7])), (t0, .inl (tc, 7, .inl tf))]) hD hS hA [0, 1] rfl
              refine va_calli (va_runV (As := [.int (-1000000001)]) (rest := []) ⟨hx, hb, hml, hown, hts⟩ (f_beyond l dC dI ad h0 v0 v1 v2 v3 v4 (.ref ph) t0 v7 tc tf s.heap.size ) (cwV 1 hts g_x_copy_f_beyond_63 rfl rfl rfl (by decide +kernel) ⟨(Nat.le_of_ble_eq_true rfl), (Nat.le_of_ble_eq_true rfl)⟩) ⟨preM_blind, va_recv hKc hPc (ci := 6) (q0 := 0) rfl rfl, fun U hU hW => ⟨rfl, preM_at hU hW hPc hKc hDc hev⟩⟩ rfl rfl hl.1 rfl (lv_room (Nat.le_of_ble_eq_true rfl)) dX8_copy_101 ⟨(Nat.le_of_ble_eq_true rfl), (Nat.le_of_ble_eq_true rfl)⟩) hS (fun q _ h => hFc q h) hFc (fun r_400 u t H1 locs ht hvm hw hB hz1 hk1 hS => ?_)
              obtain ⟨tg_401, hP1, hK1, hD1⟩ := hB
              rw [ht] at hP1
              have hK1 := va_K.moved hvm.symm hK1
              obtain ⟨hP, hD⟩ := va_join (wr := [(ph, .inl (pc, 4, .inr (.inr (.inr (.inr pf))))), (p0, .inr (0, [.int b0, .int z0, .ref n0])), (n0, .inl (nc0, 40, .inr (.inl g0))), (p1, .inr (0, [.int b1, .int z1, .ref n1])), (n1, .inl (nc1, 40, .inr (.inl g1))), (p2, .inr (0, [.int b2, .int z2, .ref n2])), (n2, .inl (nc2, 40, .inr (.inl g2))), (p3, .inr (0, [.int b3, .int z3, .ref n3])), (n3, .inl (nc3, 40, .inr (.inl g3)))]) (w1 := [(h0, .inr (6, [v0, v1, v2, v3, v4, .ref ph, .ref t0, v7])), (t0, .inl (tc, 7, .inl tg_401))]) hP hD [0, 1] [2, 3, 4, 5, 6, 7, 8, 9, 10] rfl rfl (by decide) (by decide) hk1 hFc hP1 hD1
              generalize H1 = H at hP hS ⊢
              have hP : va_P (dC, dI) vwCl [(ph, .inl (pc, 4, .inr (.inr (.inr (.inr pf))))), (p0, .inr (0, [.int b0, .int z0, .ref n0])), (n0, .inl (nc0, 40, .inr (.inl g0))), (p1, .inr (0, [.int b1, .int z1, .ref n1])), (n1, .inl (nc1, 40, .inr (.inl g1))), (p2, .inr (0, [.int b2, .int z2, .ref n2])), (n2, .inl (nc2, 40, .inr (.inl g2))), (p3, .inr (0, [.int b3, .int z3, .ref n3])), (n3, .inl (nc3, 40, .inr (.inl g3))), (h0, .inr (6, [v0, v1, v2, v3, v4, .ref ph, .ref t0, v7])), (t0, .inl (tc, 7, .inl tg_401))] H := hP
              have hD : va_D A [(ph, .inl (pc, 4, .inr (.inr (.inr (.inr pf))))), (p0, .inr (0, [.int b0, .int z0, .ref n0])), (n0, .inl (nc0, 40, .inr (.inl g0))), (p1, .inr (0, [.int b1, .int z1, .ref n1])), (n1, .inl (nc1, 40, .inr (.inl g1))), (p2, .inr (0, [.int b2, .int z2, .ref n2])), (n2, .inl (nc2, 40, .inr (.inl g2))), (p3, .inr (0, [.int b3, .int z3, .ref n3])), (n3, .inl (nc3, 40, .inr (.inl g3))), (h0, .inr (6, [v0, v1, v2, v3, v4, .ref ph, .ref t0, v7])), (t0, .inl (tc, 7, .inl tg_401))] := hD
              subst hw
              have hP9 := hP.sub (ws' := [(h0, .inr (6, [v0, v1, v2, v3, v4, .ref ph, .ref t0, v7])), (t0, .inl (tc, 7, .inl tg_401)), (ph, .inl (pc, 4, .inr (.inr (.inr (.inr pf))))), (p0, .inr (0, [.int b0, .int z0, .ref n0])), (n0, .inl (nc0, 40, .inr (.inl g0))), (p1, .inr (0, [.int b1, .int z1, .ref n1])), (n1, .inl (nc1, 40, .inr (.inl g1))), (p2, .inr (0, [.int b2, .int z2, .ref n2])), (n2, .inl (nc2, 40, .inr (.inl g2))), (p3, .inr (0, [.int b3, .int z3, .ref n3])), (n3, .inl (nc3, 40, .inr (.inl g3)))]) [9, 10, 0, 1, 2, 3, 4, 5, 6, 7, 8] rfl
              have hD9 := hD.sub (ws' := [(h0, .inr (6, [v0, v1, v2, v3, v4, .ref ph, .ref t0, v7])), (t0, .inl (tc, 7, .inl tg_401)), (ph, .inl (pc, 4, .inr (.inr (.inr (.inr pf))))), (p0, .inr (0, [.int b0, .int z0, .ref n0])), (n0, .inl (nc0, 40, .inr (.inl g0))), (p1, .inr (0, [.int b1, .int z1, .ref n1])), (n1, .inl (nc1, 40, .inr (.inl g1))), (p2, .inr (0, [.int b2, .int z2, .ref n2])), (n2, .inl (nc2, 40, .inr (.inl g2))), (p3, .inr (0, [.int b3, .int z3, .ref n3])), (n3, .inl (nc3, 40, .inr (.inl g3)))]) [9, 10, 0, 1, 2, 3, 4, 5, 6, 7, 8] (by decide) rfl
              have hK9 := hK.sub (tys' := [(tc, .int), (pc, .object "LampShapes$Paper"), (nc0, .long), (nc1, .long), (nc2, .long), (nc3, .long)]) [0, 1, 2, 3, 4, 5] rfl
              exact W.iret (v := ((-1000000001) : Int32)) hx hb hr (fun t ht hW => ⟨⟨((-1000000001) : Int32), (), rfl, trivial, tg_401, g0, g1, g2, g3, by rw [ht]; exact hP9, va_K.moved hW.alike hK9, hD9⟩, hS.F ht⟩) hS.2.2 dX8_copy_104
            · skip
              have tc_399 : ¬ r_398.toInt = 0 := fun h => c_399 ((fa_eq _ _).mpr h)
              refine lv_aload hx hb dX8_copy_86 (lv_at hl 0 rfl) ?_
              refine lv_iload hx hb dX8_copy_88 (lv_at hl 6 rfl) ?_
              refine lv_iload hx hb dX8_copy_90 (lv_at hl 7 rfl) ?_
              have hPc := hP.sub (ws' := [(p2, .inr (0, [.int b2, .int z2, .ref n2]))]) [7] rfl
              have hKc := hK.sub (tys' := []) [] rfl
              refine vp_callSi (W.runV (As := [.int j, .int n]) (rest := []) ⟨hx, hb, hml, hown, hts⟩ (p_hasPart l dC dI ad p2 j n (.int b2) z2 (.ref n2) hz2) (cwV 2 hts g_x_copy_p_hasPart_282 rfl rfl rfl (by decide +kernel) ⟨(Nat.le_of_ble_eq_true rfl), (Nat.le_of_ble_eq_true rfl)⟩) ⟨preS_blind, va_recv hKc hPc (ci := 0) (q0 := 0) rfl rfl, fun U hU hW => ⟨rfl, preS_at hU hW hPc hKc hev⟩⟩ rfl rfl hl.1 rfl (lv_room (Nat.le_of_ble_eq_true rfl)) dX8_copy_92 ⟨(Nat.le_of_ble_eq_true rfl), (Nat.le_of_ble_eq_true rfl)⟩) (fun r_402 hw => ?_)
              have hr_402 : (r_402.toInt = 1 ∧ 0 ≤ j.toInt ∧ 0 ≤ n.toInt ∧ j.toInt + n.toInt ≤ z2.toInt) ∨ (r_402.toInt = 0 ∧ ¬ (0 ≤ j.toInt ∧ 0 ≤ n.toInt ∧ j.toInt + n.toInt ≤ z2.toInt)) := hw
              refine lv_if_ne (tgt := 105) hx hb dX8_copy_95 (by decide) (fun c_403 => ?_) (fun c_403 => ?_)
              · skip
                have tc_403 : ¬ r_402.toInt = 0 := fun h => c_403 ((fa_eq _ _).mpr h)
                refine lv_aload hx hb dX8_copy_105 (lv_at hl 1 rfl) ?_
                refine va_getN (D := (dC, dI)) (ci := 0) (v := .ref n3) (C := RX2) (T := TX2) (N := 3) hx hb hts inX2 hown hK hP 9 rfl rfl 2 (by decide) (ev_nest hev 23 rfl) (fun _ h9 => h9) rfl dX8_copy_107 ?_
                refine lv_iload_n hx hb dX8_copy_110 rfl (lv_at hl 4 rfl) ?_
                refine lv_aload hx hb dX8_copy_111 (lv_at hl 0 rfl) ?_
                refine va_getN (D := (dC, dI)) (ci := 0) (v := .ref n2) (C := RX2) (T := TX2) (N := 3) hx hb hts inX2 hown hK hP 7 rfl rfl 2 (by decide) (ev_nest hev 23 rfl) (fun _ h9 => h9) rfl dX8_copy_113 ?_
                refine lv_iload hx hb dX8_copy_116 (lv_at hl 6 rfl) ?_
                refine lv_iload hx hb dX8_copy_118 (lv_at hl 7 rfl) ?_
                refine va_copyl (ty := .long) hx hb (by rw [hml]; exact hl.1.symm) hown (hts _ (List.mem_of_getElem? (i := 25) rfl)) (hts _ (List.mem_of_getElem? (i := 26) rfl)) (hts _ (List.mem_of_getElem? (i := 27) rfl)) (hts _ (List.mem_of_getElem? (i := 28) rfl)) hK hP hD hS 10 8 5 4 rfl rfl rfl rfl rfl (fun h => absurd ((fa_lt _ _).mp h) (by show ¬ i.toInt < 0; omega)) (fun h => absurd ((fa_lt _ _).mp h) (by show ¬ j.toInt < 0; omega)) (fun h => absurd ((fa_lt _ _).mp h) (by show ¬ n.toInt < 0; omega)) (by show i.toInt.toNat + n.toInt.toNat ≤ 40; omega) (by show j.toInt.toNat + n.toInt.toNat ≤ 40; omega) (fun _ _ => rfl) (Nat.le_of_ble_eq_true rfl) (Nat.le_of_ble_eq_true rfl) dX8_copy_120 (fun H locs hP hD hS => ?_)
                generalize va_cpy g3 g2 i.toNatClampNeg j.toNatClampNeg n.toNatClampNeg = f_404 at hP hD
                have hP : va_P (dC, dI) vwCl [(h0, .inr (6, [v0, v1, v2, v3, v4, .ref ph, .ref t0, v7])), (t0, .inl (tc, 7, .inl tf)), (ph, .inl (pc, 4, .inr (.inr (.inr (.inr pf))))), (p0, .inr (0, [.int b0, .int z0, .ref n0])), (n0, .inl (nc0, 40, .inr (.inl g0))), (p1, .inr (0, [.int b1, .int z1, .ref n1])), (n1, .inl (nc1, 40, .inr (.inl g1))), (p2, .inr (0, [.int b2, .int z2, .ref n2])), (n2, .inl (nc2, 40, .inr (.inl f_404))), (p3, .inr (0, [.int b3, .int z3, .ref n3])), (n3, .inl (nc3, 40, .inr (.inl g3)))] H := hP
                have hD : va_D A [(h0, .inr (6, [v0, v1, v2, v3, v4, .ref ph, .ref t0, v7])), (t0, .inl (tc, 7, .inl tf)), (ph, .inl (pc, 4, .inr (.inr (.inr (.inr pf))))), (p0, .inr (0, [.int b0, .int z0, .ref n0])), (n0, .inl (nc0, 40, .inr (.inl g0))), (p1, .inr (0, [.int b1, .int z1, .ref n1])), (n1, .inl (nc1, 40, .inr (.inl g1))), (p2, .inr (0, [.int b2, .int z2, .ref n2])), (n2, .inl (nc2, 40, .inr (.inl f_404))), (p3, .inr (0, [.int b3, .int z3, .ref n3])), (n3, .inl (nc3, 40, .inr (.inl g3)))] := hD
                refine lv_iload hx hb dX8_copy_123 (lv_at hl 7 rfl) ?_
                have hP9 := hP.sub (ws' := [(h0, .inr (6, [v0, v1, v2, v3, v4, .ref ph, .ref t0, v7])), (t0, .inl (tc, 7, .inl tf)), (ph, .inl (pc, 4, .inr (.inr (.inr (.inr pf))))), (p0, .inr (0, [.int b0, .int z0, .ref n0])), (n0, .inl (nc0, 40, .inr (.inl g0))), (p1, .inr (0, [.int b1, .int z1, .ref n1])), (n1, .inl (nc1, 40, .inr (.inl g1))), (p2, .inr (0, [.int b2, .int z2, .ref n2])), (n2, .inl (nc2, 40, .inr (.inl f_404))), (p3, .inr (0, [.int b3, .int z3, .ref n3])), (n3, .inl (nc3, 40, .inr (.inl g3)))]) [0, 1, 2, 3, 4, 5, 6, 7, 8, 9, 10] rfl
                have hD9 := hD.sub (ws' := [(h0, .inr (6, [v0, v1, v2, v3, v4, .ref ph, .ref t0, v7])), (t0, .inl (tc, 7, .inl tf)), (ph, .inl (pc, 4, .inr (.inr (.inr (.inr pf))))), (p0, .inr (0, [.int b0, .int z0, .ref n0])), (n0, .inl (nc0, 40, .inr (.inl g0))), (p1, .inr (0, [.int b1, .int z1, .ref n1])), (n1, .inl (nc1, 40, .inr (.inl g1))), (p2, .inr (0, [.int b2, .int z2, .ref n2])), (n2, .inl (nc2, 40, .inr (.inl f_404))), (p3, .inr (0, [.int b3, .int z3, .ref n3])), (n3, .inl (nc3, 40, .inr (.inl g3)))]) [0, 1, 2, 3, 4, 5, 6, 7, 8, 9, 10] (by decide) rfl
                have hK9 := hK.sub (tys' := [(tc, .int), (pc, .object "LampShapes$Paper"), (nc0, .long), (nc1, .long), (nc2, .long), (nc3, .long)]) [0, 1, 2, 3, 4, 5] rfl
                exact W.iret (v := n) hx hb hr (fun t ht hW => ⟨⟨n, (), rfl, trivial, tf, g0, g1, f_404, g3, by rw [ht]; exact hP9, va_K.moved hW.alike hK9, hD9⟩, hS.F ht⟩) hS.2.2 dX8_copy_125
              · skip
                have tc_403 : r_402.toInt = 0 := (fa_eq _ _).mp c_403
                refine lv_aload_n hx hb dX8_copy_98 rfl (lv_at hl 2 rfl) ?_
                refine lv_ldc hx hb hown (hts _ (List.mem_of_getElem? (i := 6) rfl)) dX8_copy_99 ?_
                have hPc := hP.sub (ws' := [(h0, .inr (6, [v0, v1, v2, v3, v4, .ref ph, .ref t0, v7])), (t0, .inl (tc, 7, .inl tf))]) [0, 1] rfl
                have hKc := hK.sub (tys' := [(tc, .int)]) [0] rfl
                have hDc := hD.sub (ws' := [(h0, .inr (6, [v0, v1, v2, v3, v4, .ref ph, .ref t0, v7])), (t0, .inl (tc, 7, .inl tf))]) [0, 1] (by decide) rfl
                have hFc := va_free (wc := [(h0, .inr (6, [v0, v1, v2, v3, v4, .ref ph, .ref t0, v7])), (t0, .inl (tc, 7, .inl tf))]) hD hS hA [0, 1] rfl
                refine va_calli (va_runV (As := [.int (-1000000001)]) (rest := []) ⟨hx, hb, hml, hown, hts⟩ (f_beyond l dC dI ad h0 v0 v1 v2 v3 v4 (.ref ph) t0 v7 tc tf s.heap.size ) (cwV 1 hts g_x_copy_f_beyond_63 rfl rfl rfl (by decide +kernel) ⟨(Nat.le_of_ble_eq_true rfl), (Nat.le_of_ble_eq_true rfl)⟩) ⟨preM_blind, va_recv hKc hPc (ci := 6) (q0 := 0) rfl rfl, fun U hU hW => ⟨rfl, preM_at hU hW hPc hKc hDc hev⟩⟩ rfl rfl hl.1 rfl (lv_room (Nat.le_of_ble_eq_true rfl)) dX8_copy_101 ⟨(Nat.le_of_ble_eq_true rfl), (Nat.le_of_ble_eq_true rfl)⟩) hS (fun q _ h => hFc q h) hFc (fun r_405 u t H1 locs ht hvm hw hB hz1 hk1 hS => ?_)
                obtain ⟨tg_406, hP1, hK1, hD1⟩ := hB
                rw [ht] at hP1
                have hK1 := va_K.moved hvm.symm hK1
                obtain ⟨hP, hD⟩ := va_join (wr := [(ph, .inl (pc, 4, .inr (.inr (.inr (.inr pf))))), (p0, .inr (0, [.int b0, .int z0, .ref n0])), (n0, .inl (nc0, 40, .inr (.inl g0))), (p1, .inr (0, [.int b1, .int z1, .ref n1])), (n1, .inl (nc1, 40, .inr (.inl g1))), (p2, .inr (0, [.int b2, .int z2, .ref n2])), (n2, .inl (nc2, 40, .inr (.inl g2))), (p3, .inr (0, [.int b3, .int z3, .ref n3])), (n3, .inl (nc3, 40, .inr (.inl g3)))]) (w1 := [(h0, .inr (6, [v0, v1, v2, v3, v4, .ref ph, .ref t0, v7])), (t0, .inl (tc, 7, .inl tg_406))]) hP hD [0, 1] [2, 3, 4, 5, 6, 7, 8, 9, 10] rfl rfl (by decide) (by decide) hk1 hFc hP1 hD1
                generalize H1 = H at hP hS ⊢
                have hP : va_P (dC, dI) vwCl [(ph, .inl (pc, 4, .inr (.inr (.inr (.inr pf))))), (p0, .inr (0, [.int b0, .int z0, .ref n0])), (n0, .inl (nc0, 40, .inr (.inl g0))), (p1, .inr (0, [.int b1, .int z1, .ref n1])), (n1, .inl (nc1, 40, .inr (.inl g1))), (p2, .inr (0, [.int b2, .int z2, .ref n2])), (n2, .inl (nc2, 40, .inr (.inl g2))), (p3, .inr (0, [.int b3, .int z3, .ref n3])), (n3, .inl (nc3, 40, .inr (.inl g3))), (h0, .inr (6, [v0, v1, v2, v3, v4, .ref ph, .ref t0, v7])), (t0, .inl (tc, 7, .inl tg_406))] H := hP
                have hD : va_D A [(ph, .inl (pc, 4, .inr (.inr (.inr (.inr pf))))), (p0, .inr (0, [.int b0, .int z0, .ref n0])), (n0, .inl (nc0, 40, .inr (.inl g0))), (p1, .inr (0, [.int b1, .int z1, .ref n1])), (n1, .inl (nc1, 40, .inr (.inl g1))), (p2, .inr (0, [.int b2, .int z2, .ref n2])), (n2, .inl (nc2, 40, .inr (.inl g2))), (p3, .inr (0, [.int b3, .int z3, .ref n3])), (n3, .inl (nc3, 40, .inr (.inl g3))), (h0, .inr (6, [v0, v1, v2, v3, v4, .ref ph, .ref t0, v7])), (t0, .inl (tc, 7, .inl tg_406))] := hD
                subst hw
                have hP9 := hP.sub (ws' := [(h0, .inr (6, [v0, v1, v2, v3, v4, .ref ph, .ref t0, v7])), (t0, .inl (tc, 7, .inl tg_406)), (ph, .inl (pc, 4, .inr (.inr (.inr (.inr pf))))), (p0, .inr (0, [.int b0, .int z0, .ref n0])), (n0, .inl (nc0, 40, .inr (.inl g0))), (p1, .inr (0, [.int b1, .int z1, .ref n1])), (n1, .inl (nc1, 40, .inr (.inl g1))), (p2, .inr (0, [.int b2, .int z2, .ref n2])), (n2, .inl (nc2, 40, .inr (.inl g2))), (p3, .inr (0, [.int b3, .int z3, .ref n3])), (n3, .inl (nc3, 40, .inr (.inl g3)))]) [9, 10, 0, 1, 2, 3, 4, 5, 6, 7, 8] rfl
                have hD9 := hD.sub (ws' := [(h0, .inr (6, [v0, v1, v2, v3, v4, .ref ph, .ref t0, v7])), (t0, .inl (tc, 7, .inl tg_406)), (ph, .inl (pc, 4, .inr (.inr (.inr (.inr pf))))), (p0, .inr (0, [.int b0, .int z0, .ref n0])), (n0, .inl (nc0, 40, .inr (.inl g0))), (p1, .inr (0, [.int b1, .int z1, .ref n1])), (n1, .inl (nc1, 40, .inr (.inl g1))), (p2, .inr (0, [.int b2, .int z2, .ref n2])), (n2, .inl (nc2, 40, .inr (.inl g2))), (p3, .inr (0, [.int b3, .int z3, .ref n3])), (n3, .inl (nc3, 40, .inr (.inl g3)))]) [9, 10, 0, 1, 2, 3, 4, 5, 6, 7, 8] (by decide) rfl
                have hK9 := hK.sub (tys' := [(tc, .int), (pc, .object "LampShapes$Paper"), (nc0, .long), (nc1, .long), (nc2, .long), (nc3, .long)]) [0, 1, 2, 3, 4, 5] rfl
                exact W.iret (v := ((-1000000001) : Int32)) hx hb hr (fun t ht hW => ⟨⟨((-1000000001) : Int32), (), rfl, trivial, tg_406, g0, g1, g2, g3, by rw [ht]; exact hP9, va_K.moved hW.alike hK9, hD9⟩, hS.F ht⟩) hS.2.2 dX8_copy_104
          · skip
            have tc_397 : ¬ b3.toInt = b2.toInt := fun h => c_397 ((fa_eq _ _).mpr h)
            refine lv_aload_n hx hb dX8_copy_68 rfl (lv_at hl 2 rfl) ?_
            refine lv_ldc hx hb hown (hts _ (List.mem_of_getElem? (i := 29) rfl)) dX8_copy_69 ?_
            have hPc := hP.sub (ws' := [(h0, .inr (6, [v0, v1, v2, v3, v4, .ref ph, .ref t0, v7])), (t0, .inl (tc, 7, .inl tf))]) [0, 1] rfl
            have hKc := hK.sub (tys' := [(tc, .int)]) [0] rfl
            have hDc := hD.sub (ws' := [(h0, .inr (6, [v0, v1, v2, v3, v4, .ref ph, .ref t0, v7])), (t0, .inl (tc, 7, .inl tf))]) [0, 1] (by decide) rfl
            have hFc := va_free (wc := [(h0, .inr (6, [v0, v1, v2, v3, v4, .ref ph, .ref t0, v7])), (t0, .inl (tc, 7, .inl tf))]) hD hS hA [0, 1] rfl
            refine va_calli (va_runV (As := [.int (-1000000003)]) (rest := []) ⟨hx, hb, hml, hown, hts⟩ (f_kind l dC dI ad h0 v0 v1 v2 v3 v4 (.ref ph) t0 v7 tc tf s.heap.size ) (cwV 1 hts g_x_copy_f_kind_63 rfl rfl rfl (by decide +kernel) ⟨(Nat.le_of_ble_eq_true rfl), (Nat.le_of_ble_eq_true rfl)⟩) ⟨preM_blind, va_recv hKc hPc (ci := 6) (q0 := 0) rfl rfl, fun U hU hW => ⟨rfl, preM_at hU hW hPc hKc hDc hev⟩⟩ rfl rfl hl.1 rfl (lv_room (Nat.le_of_ble_eq_true rfl)) dX8_copy_71 ⟨(Nat.le_of_ble_eq_true rfl), (Nat.le_of_ble_eq_true rfl)⟩) hS (fun q _ h => hFc q h) hFc (fun r_407 u t H1 locs ht hvm hw hB hz1 hk1 hS => ?_)
            obtain ⟨tg_408, hP1, hK1, hD1⟩ := hB
            rw [ht] at hP1
            have hK1 := va_K.moved hvm.symm hK1
            obtain ⟨hP, hD⟩ := va_join (wr := [(ph, .inl (pc, 4, .inr (.inr (.inr (.inr pf))))), (p0, .inr (0, [.int b0, .int z0, .ref n0])), (n0, .inl (nc0, 40, .inr (.inl g0))), (p1, .inr (0, [.int b1, .int z1, .ref n1])), (n1, .inl (nc1, 40, .inr (.inl g1))), (p2, .inr (0, [.int b2, .int z2, .ref n2])), (n2, .inl (nc2, 40, .inr (.inl g2))), (p3, .inr (0, [.int b3, .int z3, .ref n3])), (n3, .inl (nc3, 40, .inr (.inl g3)))]) (w1 := [(h0, .inr (6, [v0, v1, v2, v3, v4, .ref ph, .ref t0, v7])), (t0, .inl (tc, 7, .inl tg_408))]) hP hD [0, 1] [2, 3, 4, 5, 6, 7, 8, 9, 10] rfl rfl (by decide) (by decide) hk1 hFc hP1 hD1
            generalize H1 = H at hP hS ⊢
            have hP : va_P (dC, dI) vwCl [(ph, .inl (pc, 4, .inr (.inr (.inr (.inr pf))))), (p0, .inr (0, [.int b0, .int z0, .ref n0])), (n0, .inl (nc0, 40, .inr (.inl g0))), (p1, .inr (0, [.int b1, .int z1, .ref n1])), (n1, .inl (nc1, 40, .inr (.inl g1))), (p2, .inr (0, [.int b2, .int z2, .ref n2])), (n2, .inl (nc2, 40, .inr (.inl g2))), (p3, .inr (0, [.int b3, .int z3, .ref n3])), (n3, .inl (nc3, 40, .inr (.inl g3))), (h0, .inr (6, [v0, v1, v2, v3, v4, .ref ph, .ref t0, v7])), (t0, .inl (tc, 7, .inl tg_408))] H := hP
            have hD : va_D A [(ph, .inl (pc, 4, .inr (.inr (.inr (.inr pf))))), (p0, .inr (0, [.int b0, .int z0, .ref n0])), (n0, .inl (nc0, 40, .inr (.inl g0))), (p1, .inr (0, [.int b1, .int z1, .ref n1])), (n1, .inl (nc1, 40, .inr (.inl g1))), (p2, .inr (0, [.int b2, .int z2, .ref n2])), (n2, .inl (nc2, 40, .inr (.inl g2))), (p3, .inr (0, [.int b3, .int z3, .ref n3])), (n3, .inl (nc3, 40, .inr (.inl g3))), (h0, .inr (6, [v0, v1, v2, v3, v4, .ref ph, .ref t0, v7])), (t0, .inl (tc, 7, .inl tg_408))] := hD
            subst hw
            have hP9 := hP.sub (ws' := [(h0, .inr (6, [v0, v1, v2, v3, v4, .ref ph, .ref t0, v7])), (t0, .inl (tc, 7, .inl tg_408)), (ph, .inl (pc, 4, .inr (.inr (.inr (.inr pf))))), (p0, .inr (0, [.int b0, .int z0, .ref n0])), (n0, .inl (nc0, 40, .inr (.inl g0))), (p1, .inr (0, [.int b1, .int z1, .ref n1])), (n1, .inl (nc1, 40, .inr (.inl g1))), (p2, .inr (0, [.int b2, .int z2, .ref n2])), (n2, .inl (nc2, 40, .inr (.inl g2))), (p3, .inr (0, [.int b3, .int z3, .ref n3])), (n3, .inl (nc3, 40, .inr (.inl g3)))]) [9, 10, 0, 1, 2, 3, 4, 5, 6, 7, 8] rfl
            have hD9 := hD.sub (ws' := [(h0, .inr (6, [v0, v1, v2, v3, v4, .ref ph, .ref t0, v7])), (t0, .inl (tc, 7, .inl tg_408)), (ph, .inl (pc, 4, .inr (.inr (.inr (.inr pf))))), (p0, .inr (0, [.int b0, .int z0, .ref n0])), (n0, .inl (nc0, 40, .inr (.inl g0))), (p1, .inr (0, [.int b1, .int z1, .ref n1])), (n1, .inl (nc1, 40, .inr (.inl g1))), (p2, .inr (0, [.int b2, .int z2, .ref n2])), (n2, .inl (nc2, 40, .inr (.inl g2))), (p3, .inr (0, [.int b3, .int z3, .ref n3])), (n3, .inl (nc3, 40, .inr (.inl g3)))]) [9, 10, 0, 1, 2, 3, 4, 5, 6, 7, 8] (by decide) rfl
            have hK9 := hK.sub (tys' := [(tc, .int), (pc, .object "LampShapes$Paper"), (nc0, .long), (nc1, .long), (nc2, .long), (nc3, .long)]) [0, 1, 2, 3, 4, 5] rfl
            exact W.iret (v := ((-1000000003) : Int32)) hx hb hr (fun t ht hW => ⟨⟨((-1000000003) : Int32), (), rfl, trivial, tg_408, g0, g1, g2, g3, by rw [ht]; exact hP9, va_K.moved hW.alike hK9, hD9⟩, hS.F ht⟩) hS.2.2 dX8_copy_74
        · skip
          have tc_396 : ¬ r_395.toInt = 0 := fun h => c_396 ((fa_eq _ _).mpr h)
          refine lv_aload_n hx hb dX8_copy_47 rfl (lv_at hl 2 rfl) ?_
          refine lv_ldcw hx hb hown (hts _ (List.mem_of_getElem? (i := 19) rfl)) dX8_copy_48 ?_
          have hPc := hP.sub (ws' := [(h0, .inr (6, [v0, v1, v2, v3, v4, .ref ph, .ref t0, v7])), (t0, .inl (tc, 7, .inl tf))]) [0, 1] rfl
          have hKc := hK.sub (tys' := [(tc, .int)]) [0] rfl
          have hDc := hD.sub (ws' := [(h0, .inr (6, [v0, v1, v2, v3, v4, .ref ph, .ref t0, v7])), (t0, .inl (tc, 7, .inl tf))]) [0, 1] (by decide) rfl
          have hFc := va_free (wc := [(h0, .inr (6, [v0, v1, v2, v3, v4, .ref ph, .ref t0, v7])), (t0, .inl (tc, 7, .inl tf))]) hD hS hA [0, 1] rfl
          refine va_calli (va_runV (As := [.int (-1000000006)]) (rest := []) ⟨hx, hb, hml, hown, hts⟩ (f_missing l dC dI ad h0 v0 v1 v2 v3 v4 (.ref ph) t0 v7 tc tf s.heap.size ) (cwV 1 hts g_x_copy_f_missing_63 rfl rfl rfl (by decide +kernel) ⟨(Nat.le_of_ble_eq_true rfl), (Nat.le_of_ble_eq_true rfl)⟩) ⟨preM_blind, va_recv hKc hPc (ci := 6) (q0 := 0) rfl rfl, fun U hU hW => ⟨rfl, preM_at hU hW hPc hKc hDc hev⟩⟩ rfl rfl hl.1 rfl (lv_room (Nat.le_of_ble_eq_true rfl)) dX8_copy_51 ⟨(Nat.le_of_ble_eq_true rfl), (Nat.le_of_ble_eq_true rfl)⟩) hS (fun q _ h => hFc q h) hFc (fun r_409 u t H1 locs ht hvm hw hB hz1 hk1 hS => ?_)
          obtain ⟨tg_410, hP1, hK1, hD1⟩ := hB
          rw [ht] at hP1
          have hK1 := va_K.moved hvm.symm hK1
          obtain ⟨hP, hD⟩ := va_join (wr := [(ph, .inl (pc, 4, .inr (.inr (.inr (.inr pf))))), (p0, .inr (0, [.int b0, .int z0, .ref n0])), (n0, .inl (nc0, 40, .inr (.inl g0))), (p1, .inr (0, [.int b1, .int z1, .ref n1])), (n1, .inl (nc1, 40, .inr (.inl g1))), (p2, .inr (0, [.int b2, .int z2, .ref n2])), (n2, .inl (nc2, 40, .inr (.inl g2))), (p3, .inr (0, [.int b3, .int z3, .ref n3])), (n3, .inl (nc3, 40, .inr (.inl g3)))]) (w1 := [(h0, .inr (6, [v0, v1, v2, v3, v4, .ref ph, .ref t0, v7])), (t0, .inl (tc, 7, .inl tg_410))]) hP hD [0, 1] [2, 3, 4, 5, 6, 7, 8, 9, 10] rfl rfl (by decide) (by decide) hk1 hFc hP1 hD1
          generalize H1 = H at hP hS ⊢
          have hP : va_P (dC, dI) vwCl [(ph, .inl (pc, 4, .inr (.inr (.inr (.inr pf))))), (p0, .inr (0, [.int b0, .int z0, .ref n0])), (n0, .inl (nc0, 40, .inr (.inl g0))), (p1, .inr (0, [.int b1, .int z1, .ref n1])), (n1, .inl (nc1, 40, .inr (.inl g1))), (p2, .inr (0, [.int b2, .int z2, .ref n2])), (n2, .inl (nc2, 40, .inr (.inl g2))), (p3, .inr (0, [.int b3, .int z3, .ref n3])), (n3, .inl (nc3, 40, .inr (.inl g3))), (h0, .inr (6, [v0, v1, v2, v3, v4, .ref ph, .ref t0, v7])), (t0, .inl (tc, 7, .inl tg_410))] H := hP
          have hD : va_D A [(ph, .inl (pc, 4, .inr (.inr (.inr (.inr pf))))), (p0, .inr (0, [.int b0, .int z0, .ref n0])), (n0, .inl (nc0, 40, .inr (.inl g0))), (p1, .inr (0, [.int b1, .int z1, .ref n1])), (n1, .inl (nc1, 40, .inr (.inl g1))), (p2, .inr (0, [.int b2, .int z2, .ref n2])), (n2, .inl (nc2, 40, .inr (.inl g2))), (p3, .inr (0, [.int b3, .int z3, .ref n3])), (n3, .inl (nc3, 40, .inr (.inl g3))), (h0, .inr (6, [v0, v1, v2, v3, v4, .ref ph, .ref t0, v7])), (t0, .inl (tc, 7, .inl tg_410))] := hD
          subst hw
          have hP9 := hP.sub (ws' := [(h0, .inr (6, [v0, v1, v2, v3, v4, .ref ph, .ref t0, v7])), (t0, .inl (tc, 7, .inl tg_410)), (ph, .inl (pc, 4, .inr (.inr (.inr (.inr pf))))), (p0, .inr (0, [.int b0, .int z0, .ref n0])), (n0, .inl (nc0, 40, .inr (.inl g0))), (p1, .inr (0, [.int b1, .int z1, .ref n1])), (n1, .inl (nc1, 40, .inr (.inl g1))), (p2, .inr (0, [.int b2, .int z2, .ref n2])), (n2, .inl (nc2, 40, .inr (.inl g2))), (p3, .inr (0, [.int b3, .int z3, .ref n3])), (n3, .inl (nc3, 40, .inr (.inl g3)))]) [9, 10, 0, 1, 2, 3, 4, 5, 6, 7, 8] rfl
          have hD9 := hD.sub (ws' := [(h0, .inr (6, [v0, v1, v2, v3, v4, .ref ph, .ref t0, v7])), (t0, .inl (tc, 7, .inl tg_410)), (ph, .inl (pc, 4, .inr (.inr (.inr (.inr pf))))), (p0, .inr (0, [.int b0, .int z0, .ref n0])), (n0, .inl (nc0, 40, .inr (.inl g0))), (p1, .inr (0, [.int b1, .int z1, .ref n1])), (n1, .inl (nc1, 40, .inr (.inl g1))), (p2, .inr (0, [.int b2, .int z2, .ref n2])), (n2, .inl (nc2, 40, .inr (.inl g2))), (p3, .inr (0, [.int b3, .int z3, .ref n3])), (n3, .inl (nc3, 40, .inr (.inl g3)))]) [9, 10, 0, 1, 2, 3, 4, 5, 6, 7, 8] (by decide) rfl
          have hK9 := hK.sub (tys' := [(tc, .int), (pc, .object "LampShapes$Paper"), (nc0, .long), (nc1, .long), (nc2, .long), (nc3, .long)]) [0, 1, 2, 3, 4, 5] rfl
          exact W.iret (v := ((-1000000006) : Int32)) hx hb hr (fun t ht hW => ⟨⟨((-1000000006) : Int32), (), rfl, trivial, tg_410, g0, g1, g2, g3, by rw [ht]; exact hP9, va_K.moved hW.alike hK9, hD9⟩, hS.F ht⟩) hS.2.2 dX8_copy_54
    · skip
      refine Met.ofW (cc := cX8_copy) (maxL := 8) (ret := (some .int)) (by decide) rfl ?_
      intro p e s m args below meth c s₁ B hml hv
      obtain ⟨rfl, hsz, hP, hK, hD0, hev⟩ := hv
      have hx := B.exec
      have hb := B.bytes
      have hr := B.returns
      have hts := atoms_spec (ws := w_x_copy) B.pre
      have hown : s.vm.findClass RX8 = some m.cls := findClass_of_methodNamed B.named
      have hlocks := B.notSynchronized
      have inX8 : ∀ w ∈ wsX80, w ∈ w_x_copy := fun w h => List.mem_cons_of_mem _ (List.mem_append_left _ (List.mem_append_right _ h))
      have inX2 : ∀ w ∈ wsX20, w ∈ w_x_copy := fun w h => List.mem_cons_of_mem _ (List.mem_append_right _ h)
      subst hsz
      have hD := hD0.self (sz := s.heap.size)
      generalize hAe : va_A [(h0, .inr (6, [v0, v1, v2, v3, v4, .ref ph, .ref t0, v7])), (t0, .inl (tc, 7, .inl tf)), (ph, .inl (pc, 4, .inr (.inr (.inr (.inr pf))))), (p0, .inr (0, [.int b0, .int z0, .ref n0])), (n0, .inl (nc0, 40, .inr (.inl g0))), (p1, .inr (0, [.int b1, .int z1, .ref n1])), (n1, .inl (nc1, 40, .inr (.inl g1))), (p2, .inr (0, [.int b2, .int z2, .ref n2])), (n2, .inl (nc2, 40, .inr (.inl g2))), (p3, .inr (0, [.int b3, .int z3, .ref n3])), (n3, .inl (nc3, 40, .inr (.inl g3)))] s.heap.size = A at hD ⊢
      have hA : ∀ q : Nat, s.heap.size ≤ q → A q := fun q h => by rw [← hAe]; exact Or.inr h
      have hS : va_S A s.heap s.heap [] := va_S.rf
      have hP : va_P (dC, dI) vwCl [(h0, .inr (6, [v0, v1, v2, v3, v4, .ref ph, .ref t0, v7])), (t0, .inl (tc, 7, .inl tf)), (ph, .inl (pc, 4, .inr (.inr (.inr (.inr pf))))), (p0, .inr (0, [.int b0, .int z0, .ref n0])), (n0, .inl (nc0, 40, .inr (.inl g0))), (p1, .inr (0, [.int b1, .int z1, .ref n1])), (n1, .inl (nc1, 40, .inr (.inl g1))), (p2, .inr (0, [.int b2, .int z2, .ref n2])), (n2, .inl (nc2, 40, .inr (.inl g2))), (p3, .inr (0, [.int b3, .int z3, .ref n3])), (n3, .inl (nc3, 40, .inr (.inl g3)))] s.heap := hP
      have hl := lv_entry ([.ref h0, .int 3, .int i, .int 3, .int j, .int n]) (n := 8) (Nat.le_of_ble_eq_true rfl)
      rw [lg_entry_eq]
      generalize (lg_sl ([.ref h0, .int 3, .int i, .int 3, .int j, .int n]) ++ List.replicate (8 - (lg_sl ([.ref h0, .int 3, .int i, .int 3, .int j, .int n])).length) Slot.unset).toArray = ls at hl ⊢
      have hl : lv_has ls 8 [(0, .ref h0), (1, .int 3), (2, .int i), (3, .int 3), (4, .int j), (5, .int n)] := hl
      refine lv_aload_n hx hb dX8_copy_0 rfl (lv_at hl 0 rfl) ?_
      refine lv_iload_n hx hb dX8_copy_1 rfl (lv_at hl 1 rfl) ?_
      have hPc := hP.sub (ws' := [(h0, .inr (6, [v0, v1, v2, v3, v4, .ref ph, .ref t0, v7])), (ph, .inl (pc, 4, .inr (.inr (.inr (.inr pf)))))]) [0, 2] rfl
      have hKc := hK.sub (tys' := [(pc, .object "LampShapes$Paper")]) [1] rfl
      refine va_csq (W.runV (As := [.int 3]) (rest := []) ⟨hx, hb, hml, hown, hts⟩ (c_paperAt_3 l dC dI ad h0 v0 v1 v2 v3 v4 ph (.ref t0) v7 pc pf p3 hp3) (cwV 1 hts g_x_copy_c_paperAt_3_256 rfl rfl rfl (by decide +kernel) ⟨(Nat.le_of_ble_eq_true rfl), (Nat.le_of_ble_eq_true rfl)⟩) ⟨preS_blind, va_recv hKc hPc (ci := 6) (q0 := 0) rfl rfl, fun U hU hW => ⟨rfl, preS_at hU hW hPc hKc hev⟩⟩ rfl rfl hl.1 rfl (lv_room (Nat.le_of_ble_eq_true rfl)) dX8_copy_2 ⟨(Nat.le_of_ble_eq_true rfl), (Nat.le_of_ble_eq_true rfl)⟩) (fun r_411 hw => ?_)
      subst hw
      refine pp_tv (y := .ref p3) rfl ?_
      refine lv_astore (lv' := [(6, .ref p3), (0, .ref h0), (1, .int 3), (2, .int i), (3, .int 3), (4, .int j), (5, .int n)]) hx hb dX8_copy_5 hl (by decide) rfl (fun ls hl => ?_)
      refine lv_aload_n hx hb dX8_copy_7 rfl (lv_at hl 1 rfl) ?_
      refine lv_iload_n hx hb dX8_copy_8 rfl (lv_at hl 4 rfl) ?_
      have hPc := hP.sub (ws' := [(h0, .inr (6, [v0, v1, v2, v3, v4, .ref ph, .ref t0, v7])), (ph, .inl (pc, 4, .inr (.inr (.inr (.inr pf)))))]) [0, 2] rfl
      have hKc := hK.sub (tys' := [(pc, .object "LampShapes$Paper")]) [1] rfl
      refine va_csq (W.runV (As := [.int 3]) (rest := []) ⟨hx, hb, hml, hown, hts⟩ (c_paperAt_3 l dC dI ad h0 v0 v1 v2 v3 v4 ph (.ref t0) v7 pc pf p3 hp3) (cwV 1 hts g_x_copy_c_paperAt_3_256 rfl rfl rfl (by decide +kernel) ⟨(Nat.le_of_ble_eq_true rfl), (Nat.le_of_ble_eq_true rfl)⟩) ⟨preS_blind, va_recv hKc hPc (ci := 6) (q0 := 0) rfl rfl, fun U hU hW => ⟨rfl, preS_at hU hW hPc hKc hev⟩⟩ rfl rfl hl.1 rfl (lv_room (Nat.le_of_ble_eq_true rfl)) dX8_copy_9 ⟨(Nat.le_of_ble_eq_true rfl), (Nat.le_of_ble_eq_true rfl)⟩) (fun r_412 hw => ?_)
      subst hw
      refine pp_tv (y := .ref p3) rfl ?_
      refine lv_astore (lv' := [(7, .ref p3), (6, .ref p3), (0, .ref h0), (1, .int 3), (2, .int i), (3, .int 3), (4, .int j), (5, .int n)]) hx hb dX8_copy_12 hl (by decide) rfl (fun ls hl => ?_)
      refine lv_aload hx hb dX8_copy_14 (lv_at hl 1 rfl) ?_
      refine lv_ifnull hx hb dX8_copy_16 ?_
      refine lv_aload hx hb dX8_copy_19 (lv_at hl 0 rfl) ?_
      refine lv_ifnonnull (tgt := 31) hx hb dX8_copy_21 (by decide) ?_
      refine lv_aload hx hb dX8_copy_31 (lv_at hl 1 rfl) ?_
      have hPc := hP.sub (ws' := [(p3, .inr (0, [.int b3, .int z3, .ref n3]))]) [9] rfl
      have hKc := hK.sub (tys' := []) [] rfl
      refine vp_callSi (W.runV (As := []) (rest := []) ⟨hx, hb, hml, hown, hts⟩ (p_isMissing l dC dI ad p3 b3 (.int z3) (.ref n3) ) (cwV 0 hts g_x_copy_p_isMissing_268 rfl rfl rfl (by decide +kernel) ⟨(Nat.le_of_ble_eq_true rfl), (Nat.le_of_ble_eq_true rfl)⟩) ⟨preS_blind, va_recv hKc hPc (ci := 0) (q0 := 0) rfl rfl, fun U hU hW => ⟨rfl, preS_at hU hW hPc hKc hev⟩⟩ rfl rfl hl.1 rfl (lv_room (Nat.le_of_ble_eq_true rfl)) dX8_copy_33 ⟨(Nat.le_of_ble_eq_true rfl), (Nat.le_of_ble_eq_true rfl)⟩) (fun r_413 hw => ?_)
      have hr_413 : (r_413.toInt = 1 ∧ b3.toInt = 0) ∨ (r_413.toInt = 0 ∧ ¬ b3.toInt = 0) := hw
      refine lv_if_ne (tgt := 47) hx hb dX8_copy_36 (by decide) (fun c_414 => ?_) (fun c_414 => ?_)
      · skip
        have tc_414 : ¬ r_413.toInt = 0 := fun h => c_414 ((fa_eq _ _).mpr h)
        refine lv_aload_n hx hb dX8_copy_47 rfl (lv_at hl 2 rfl) ?_
        refine lv_ldcw hx hb hown (hts _ (List.mem_of_getElem? (i := 19) rfl)) dX8_copy_48 ?_
        have hPc := hP.sub (ws' := [(h0, .inr (6, [v0, v1, v2, v3, v4, .ref ph, .ref t0, v7])), (t0, .inl (tc, 7, .inl tf))]) [0, 1] rfl
        have hKc := hK.sub (tys' := [(tc, .int)]) [0] rfl
        have hDc := hD.sub (ws' := [(h0, .inr (6, [v0, v1, v2, v3, v4, .ref ph, .ref t0, v7])), (t0, .inl (tc, 7, .inl tf))]) [0, 1] (by decide) rfl
        have hFc := va_free (wc := [(h0, .inr (6, [v0, v1, v2, v3, v4, .ref ph, .ref t0, v7])), (t0, .inl (tc, 7, .inl tf))]) hD hS hA [0, 1] rfl
        refine va_calli (va_runV (As := [.int (-1000000006)]) (rest := []) ⟨hx, hb, hml, hown, hts⟩ (f_missing l dC dI ad h0 v0 v1 v2 v3 v4 (.ref ph) t0 v7 tc tf s.heap.size ) (cwV 1 hts g_x_copy_f_missing_63 rfl rfl rfl (by decide +kernel) ⟨(Nat.le_of_ble_eq_true rfl), (Nat.le_of_ble_eq_true rfl)⟩) ⟨preM_blind, va_recv hKc hPc (ci := 6) (q0 := 0) rfl rfl, fun U hU hW => ⟨rfl, preM_at hU hW hPc hKc hDc hev⟩⟩ rfl rfl hl.1 rfl (lv_room (Nat.le_of_ble_eq_true rfl)) dX8_copy_51 ⟨(Nat.le_of_ble_eq_true rfl), (Nat.le_of_ble_eq_true rfl)⟩) hS (fun q _ h => hFc q h) hFc (fun r_415 u t H1 locs ht hvm hw hB hz1 hk1 hS => ?_)
        obtain ⟨tg_416, hP1, hK1, hD1⟩ := hB
        rw [ht] at hP1
        have hK1 := va_K.moved hvm.symm hK1
        obtain ⟨hP, hD⟩ := va_join (wr := [(ph, .inl (pc, 4, .inr (.inr (.inr (.inr pf))))), (p0, .inr (0, [.int b0, .int z0, .ref n0])), (n0, .inl (nc0, 40, .inr (.inl g0))), (p1, .inr (0, [.int b1, .int z1, .ref n1])), (n1, .inl (nc1, 40, .inr (.inl g1))), (p2, .inr (0, [.int b2, .int z2, .ref n2])), (n2, .inl (nc2, 40, .inr (.inl g2))), (p3, .inr (0, [.int b3, .int z3, .ref n3])), (n3, .inl (nc3, 40, .inr (.inl g3)))]) (w1 := [(h0, .inr (6, [v0, v1, v2, v3, v4, .ref ph, .ref t0, v7])), (t0, .inl (tc, 7, .inl tg_416))]) hP hD [0, 1] [2, 3, 4, 5, 6, 7, 8, 9, 10] rfl rfl (by decide) (by decide) hk1 hFc hP1 hD1
        generalize H1 = H at hP hS ⊢
        have hP : va_P (dC, dI) vwCl [(ph, .inl (pc, 4, .inr (.inr (.inr (.inr pf))))), (p0, .inr (0, [.int b0, .int z0, .ref n0])), (n0, .inl (nc0, 40, .inr (.inl g0))), (p1, .inr (0, [.int b1, .int z1, .ref n1])), (n1, .inl (nc1, 40, .inr (.inl g1))), (p2, .inr (0, [.int b2, .int z2, .ref n2])), (n2, .inl (nc2, 40, .inr (.inl g2))), (p3, .inr (0, [.int b3, .int z3, .ref n3])), (n3, .inl (nc3, 40, .inr (.inl g3))), (h0, .inr (6, [v0, v1, v2, v3, v4, .ref ph, .ref t0, v7])), (t0, .inl (tc, 7, .inl tg_416))] H := hP
        have hD : va_D A [(ph, .inl (pc, 4, .inr (.inr (.inr (.inr pf))))), (p0, .inr (0, [.int b0, .int z0, .ref n0])), (n0, .inl (nc0, 40, .inr (.inl g0))), (p1, .inr (0, [.int b1, .int z1, .ref n1])), (n1, .inl (nc1, 40, .inr (.inl g1))), (p2, .inr (0, [.int b2, .int z2, .ref n2])), (n2, .inl (nc2, 40, .inr (.inl g2))), (p3, .inr (0, [.int b3, .int z3, .ref n3])), (n3, .inl (nc3, 40, .inr (.inl g3))), (h0, .inr (6, [v0, v1, v2, v3, v4, .ref ph, .ref t0, v7])), (t0, .inl (tc, 7, .inl tg_416))] := hD
        subst hw
        have hP9 := hP.sub (ws' := [(h0, .inr (6, [v0, v1, v2, v3, v4, .ref ph, .ref t0, v7])), (t0, .inl (tc, 7, .inl tg_416)), (ph, .inl (pc, 4, .inr (.inr (.inr (.inr pf))))), (p0, .inr (0, [.int b0, .int z0, .ref n0])), (n0, .inl (nc0, 40, .inr (.inl g0))), (p1, .inr (0, [.int b1, .int z1, .ref n1])), (n1, .inl (nc1, 40, .inr (.inl g1))), (p2, .inr (0, [.int b2, .int z2, .ref n2])), (n2, .inl (nc2, 40, .inr (.inl g2))), (p3, .inr (0, [.int b3, .int z3, .ref n3])), (n3, .inl (nc3, 40, .inr (.inl g3)))]) [9, 10, 0, 1, 2, 3, 4, 5, 6, 7, 8] rfl
        have hD9 := hD.sub (ws' := [(h0, .inr (6, [v0, v1, v2, v3, v4, .ref ph, .ref t0, v7])), (t0, .inl (tc, 7, .inl tg_416)), (ph, .inl (pc, 4, .inr (.inr (.inr (.inr pf))))), (p0, .inr (0, [.int b0, .int z0, .ref n0])), (n0, .inl (nc0, 40, .inr (.inl g0))), (p1, .inr (0, [.int b1, .int z1, .ref n1])), (n1, .inl (nc1, 40, .inr (.inl g1))), (p2, .inr (0, [.int b2, .int z2, .ref n2])), (n2, .inl (nc2, 40, .inr (.inl g2))), (p3, .inr (0, [.int b3, .int z3, .ref n3])), (n3, .inl (nc3, 40, .inr (.inl g3)))]) [9, 10, 0, 1, 2, 3, 4, 5, 6, 7, 8] (by decide) rfl
        have hK9 := hK.sub (tys' := [(tc, .int), (pc, .object "LampShapes$Paper"), (nc0, .long), (nc1, .long), (nc2, .long), (nc3, .long)]) [0, 1, 2, 3, 4, 5] rfl
        exact W.iret (v := ((-1000000006) : Int32)) hx hb hr (fun t ht hW => ⟨⟨((-1000000006) : Int32), (), rfl, trivial, tg_416, g0, g1, g2, g3, by rw [ht]; exact hP9, va_K.moved hW.alike hK9, hD9⟩, hS.F ht⟩) hS.2.2 dX8_copy_54
      · skip
        have tc_414 : r_413.toInt = 0 := (fa_eq _ _).mp c_414
        refine lv_aload hx hb dX8_copy_39 (lv_at hl 0 rfl) ?_
        have hPc := hP.sub (ws' := [(p3, .inr (0, [.int b3, .int z3, .ref n3]))]) [9] rfl
        have hKc := hK.sub (tys' := []) [] rfl
        refine vp_callSi (W.runV (As := []) (rest := []) ⟨hx, hb, hml, hown, hts⟩ (p_isMissing l dC dI ad p3 b3 (.int z3) (.ref n3) ) (cwV 0 hts g_x_copy_p_isMissing_268 rfl rfl rfl (by decide +kernel) ⟨(Nat.le_of_ble_eq_true rfl), (Nat.le_of_ble_eq_true rfl)⟩) ⟨preS_blind, va_recv hKc hPc (ci := 0) (q0 := 0) rfl rfl, fun U hU hW => ⟨rfl, preS_at hU hW hPc hKc hev⟩⟩ rfl rfl hl.1 rfl (lv_room (Nat.le_of_ble_eq_true rfl)) dX8_copy_41 ⟨(Nat.le_of_ble_eq_true rfl), (Nat.le_of_ble_eq_true rfl)⟩) (fun r_417 hw => ?_)
        have hr_417 : (r_417.toInt = 1 ∧ b3.toInt = 0) ∨ (r_417.toInt = 0 ∧ ¬ b3.toInt = 0) := hw
        refine lv_if_eq (tgt := 55) hx hb dX8_copy_44 (by decide) (fun c_418 => ?_) (fun c_418 => ?_)
        · skip
          have tc_418 : r_417.toInt = 0 := (fa_eq _ _).mp c_418
          refine lv_aload hx hb dX8_copy_55 (lv_at hl 1 rfl) ?_
          refine va_getN (D := (dC, dI)) (ci := 0) (v := .int b3) (C := RX2) (T := TX2) (N := 3) hx hb hts inX2 hown hK hP 9 rfl rfl 0 (by decide) (ev_nest hev 21 rfl) (fun _ h9 => h9) rfl dX8_copy_57 ?_
          refine lv_aload hx hb dX8_copy_60 (lv_at hl 0 rfl) ?_
          refine va_getN (D := (dC, dI)) (ci := 0) (v := .int b3) (C := RX2) (T := TX2) (N := 3) hx hb hts inX2 hown hK hP 9 rfl rfl 0 (by decide) (ev_nest hev 21 rfl) (fun _ h9 => h9) rfl dX8_copy_62 ?_
          have rc_419_x := pp_rng b3
          have rc_419_x := pp_rng b3
          refine lv_icmp_eq (tgt := 75) hx hb dX8_copy_65 (by decide) (fun c_419 => ?_) (fun c_419 => ?_)
          · skip
            have tc_419 : b3.toInt = b3.toInt := (fa_eq _ _).mp c_419
            refine lv_aload hx hb dX8_copy_75 (lv_at hl 1 rfl) ?_
            refine lv_iload_n hx hb dX8_copy_77 rfl (lv_at hl 4 rfl) ?_
            refine lv_iload hx hb dX8_copy_78 (lv_at hl 7 rfl) ?_
            have hPc := hP.sub (ws' := [(p3, .inr (0, [.int b3, .int z3, .ref n3]))]) [9] rfl
            have hKc := hK.sub (tys' := []) [] rfl
            refine vp_callSi (W.runV (As := [.int i, .int n]) (rest := []) ⟨hx, hb, hml, hown, hts⟩ (p_hasPart l dC dI ad p3 i n (.int b3) z3 (.ref n3) hz3) (cwV 2 hts g_x_copy_p_hasPart_282 rfl rfl rfl (by decide +kernel) ⟨(Nat.le_of_ble_eq_true rfl), (Nat.le_of_ble_eq_true rfl)⟩) ⟨preS_blind, va_recv hKc hPc (ci := 0) (q0 := 0) rfl rfl, fun U hU hW => ⟨rfl, preS_at hU hW hPc hKc hev⟩⟩ rfl rfl hl.1 rfl (lv_room (Nat.le_of_ble_eq_true rfl)) dX8_copy_80 ⟨(Nat.le_of_ble_eq_true rfl), (Nat.le_of_ble_eq_true rfl)⟩) (fun r_420 hw => ?_)
            have hr_420 : (r_420.toInt = 1 ∧ 0 ≤ i.toInt ∧ 0 ≤ n.toInt ∧ i.toInt + n.toInt ≤ z3.toInt) ∨ (r_420.toInt = 0 ∧ ¬ (0 ≤ i.toInt ∧ 0 ≤ n.toInt ∧ i.toInt + n.toInt ≤ z3.toInt)) := hw
            refine lv_if_eq (tgt := 98) hx hb dX8_copy_83 (by decide) (fun c_421 => ?_) (fun c_421 => ?_)
            · skip
              have tc_421 : r_420.toInt = 0 := (fa_eq _ _).mp c_421
              refine lv_aload_n hx hb dX8_copy_98 rfl (lv_at hl 2 rfl) ?_
              refine lv_ldc hx hb hown (hts _ (List.mem_of_getElem? (i := 6) rfl)) dX8_copy_99 ?_
              have hPc := hP.sub (ws' := [(h0, .inr (6, [v0, v1, v2, v3, v4, .ref ph, .ref t0, v7])), (t0, .inl (tc, 7, .inl tf))]) [0, 1] rfl
              have hKc := hK.sub (tys' := [(tc, .int)]) [0] rfl
              have hDc := hD.sub (ws' := [(h0, .inr (6, [v0, v1, v2, v3, v4, .ref ph, .ref t0, v7])), (t0, .inl (tc, 7, .inl tf))]) [0, 1] (by decide) rfl
              have hFc := va_free (wc := [(h0, .inr (6, [v0, v1, v2, v3, v4, .ref ph, .ref t0, v7])), (t0, .inl (tc, 7, .inl tf))]) hD hS hA [0, 1] rfl
              refine va_calli (va_runV (As := [.int (-1000000001)]) (rest := []) ⟨hx, hb, hml, hown, hts⟩ (f_beyond l dC dI ad h0 v0 v1 v2 v3 v4 (.ref ph) t0 v7 tc tf s.heap.size ) (cwV 1 hts g_x_copy_f_beyond_63 rfl rfl rfl (by decide +kernel) ⟨(Nat.le_of_ble_eq_true rfl), (Nat.le_of_ble_eq_true rfl)⟩) ⟨preM_blind, va_recv hKc hPc (ci := 6) (q0 := 0) rfl rfl, fun U hU hW => ⟨rfl, preM_at hU hW hPc hKc hDc hev⟩⟩ rfl rfl hl.1 rfl (lv_room (Nat.le_of_ble_eq_true rfl)) dX8_copy_101 ⟨(Nat.le_of_ble_eq_true rfl), (Nat.le_of_ble_eq_true rfl)⟩) hS (fun q _ h => hFc q h) hFc (fun r_422 u t H1 locs ht hvm hw hB hz1 hk1 hS => ?_)
              obtain ⟨tg_423, hP1, hK1, hD1⟩ := hB
              rw [ht] at hP1
              have hK1 := va_K.moved hvm.symm hK1
              obtain ⟨hP, hD⟩ := va_join (wr := [(ph, .inl (pc, 4, .inr (.inr (.inr (.inr pf))))), (p0, .inr (0, [.int b0, .int z0, .ref n0])), (n0, .inl (nc0, 40, .inr (.inl g0))), (p1, .inr (0, [.int b1, .int z1, .ref n1])), (n1, .inl (nc1, 40, .inr (.inl g1))), (p2, .inr (0, [.int b2, .int z2, .ref n2])), (n2, .inl (nc2, 40, .inr (.inl g2))), (p3, .inr (0, [.int b3, .int z3, .ref n3])), (n3, .inl (nc3, 40, .inr (.inl g3)))]) (w1 := [(h0, .inr (6, [v0, v1, v2, v3, v4, .ref ph, .ref t0, v7])), (t0, .inl (tc, 7, .inl tg_423))]) hP hD [0, 1] [2, 3, 4, 5, 6, 7, 8, 9, 10] rfl rfl (by decide) (by decide) hk1 hFc hP1 hD1
              generalize H1 = H at hP hS ⊢
              have hP : va_P (dC, dI) vwCl [(ph, .inl (pc, 4, .inr (.inr (.inr (.inr pf))))), (p0, .inr (0, [.int b0, .int z0, .ref n0])), (n0, .inl (nc0, 40, .inr (.inl g0))), (p1, .inr (0, [.int b1, .int z1, .ref n1])), (n1, .inl (nc1, 40, .inr (.inl g1))), (p2, .inr (0, [.int b2, .int z2, .ref n2])), (n2, .inl (nc2, 40, .inr (.inl g2))), (p3, .inr (0, [.int b3, .int z3, .ref n3])), (n3, .inl (nc3, 40, .inr (.inl g3))), (h0, .inr (6, [v0, v1, v2, v3, v4, .ref ph, .ref t0, v7])), (t0, .inl (tc, 7, .inl tg_423))] H := hP
              have hD : va_D A [(ph, .inl (pc, 4, .inr (.inr (.inr (.inr pf))))), (p0, .inr (0, [.int b0, .int z0, .ref n0])), (n0, .inl (nc0, 40, .inr (.inl g0))), (p1, .inr (0, [.int b1, .int z1, .ref n1])), (n1, .inl (nc1, 40, .inr (.inl g1))), (p2, .inr (0, [.int b2, .int z2, .ref n2])), (n2, .inl (nc2, 40, .inr (.inl g2))), (p3, .inr (0, [.int b3, .int z3, .ref n3])), (n3, .inl (nc3, 40, .inr (.inl g3))), (h0, .inr (6, [v0, v1, v2, v3, v4, .ref ph, .ref t0, v7])), (t0, .inl (tc, 7, .inl tg_423))] := hD
              subst hw
              have hP9 := hP.sub (ws' := [(h0, .inr (6, [v0, v1, v2, v3, v4, .ref ph, .ref t0, v7])), (t0, .inl (tc, 7, .inl tg_423)), (ph, .inl (pc, 4, .inr (.inr (.inr (.inr pf))))), (p0, .inr (0, [.int b0, .int z0, .ref n0])), (n0, .inl (nc0, 40, .inr (.inl g0))), (p1, .inr (0, [.int b1, .int z1, .ref n1])), (n1, .inl (nc1, 40, .inr (.inl g1))), (p2, .inr (0, [.int b2, .int z2, .ref n2])), (n2, .inl (nc2, 40, .inr (.inl g2))), (p3, .inr (0, [.int b3, .int z3, .ref n3])), (n3, .inl (nc3, 40, .inr (.inl g3)))]) [9, 10, 0, 1, 2, 3, 4, 5, 6, 7, 8] rfl
              have hD9 := hD.sub (ws' := [(h0, .inr (6, [v0, v1, v2, v3, v4, .ref ph, .ref t0, v7])), (t0, .inl (tc, 7, .inl tg_423)), (ph, .inl (pc, 4, .inr (.inr (.inr (.inr pf))))), (p0, .inr (0, [.int b0, .int z0, .ref n0])), (n0, .inl (nc0, 40, .inr (.inl g0))), (p1, .inr (0, [.int b1, .int z1, .ref n1])), (n1, .inl (nc1, 40, .inr (.inl g1))), (p2, .inr (0, [.int b2, .int z2, .ref n2])), (n2, .inl (nc2, 40, .inr (.inl g2))), (p3, .inr (0, [.int b3, .int z3, .ref n3])), (n3, .inl (nc3, 40, .inr (.inl g3)))]) [9, 10, 0, 1, 2, 3, 4, 5, 6, 7, 8] (by decide) rfl
              have hK9 := hK.sub (tys' := [(tc, .int), (pc, .object "LampShapes$Paper"), (nc0, .long), (nc1, .long), (nc2, .long), (nc3, .long)]) [0, 1, 2, 3, 4, 5] rfl
              exact W.iret (v := ((-1000000001) : Int32)) hx hb hr (fun t ht hW => ⟨⟨((-1000000001) : Int32), (), rfl, trivial, tg_423, g0, g1, g2, g3, by rw [ht]; exact hP9, va_K.moved hW.alike hK9, hD9⟩, hS.F ht⟩) hS.2.2 dX8_copy_104
            · skip
              have tc_421 : ¬ r_420.toInt = 0 := fun h => c_421 ((fa_eq _ _).mpr h)
              refine lv_aload hx hb dX8_copy_86 (lv_at hl 0 rfl) ?_
              refine lv_iload hx hb dX8_copy_88 (lv_at hl 6 rfl) ?_
              refine lv_iload hx hb dX8_copy_90 (lv_at hl 7 rfl) ?_
              have hPc := hP.sub (ws' := [(p3, .inr (0, [.int b3, .int z3, .ref n3]))]) [9] rfl
              have hKc := hK.sub (tys' := []) [] rfl
              refine vp_callSi (W.runV (As := [.int j, .int n]) (rest := []) ⟨hx, hb, hml, hown, hts⟩ (p_hasPart l dC dI ad p3 j n (.int b3) z3 (.ref n3) hz3) (cwV 2 hts g_x_copy_p_hasPart_282 rfl rfl rfl (by decide +kernel) ⟨(Nat.le_of_ble_eq_true rfl), (Nat.le_of_ble_eq_true rfl)⟩) ⟨preS_blind, va_recv hKc hPc (ci := 0) (q0 := 0) rfl rfl, fun U hU hW => ⟨rfl, preS_at hU hW hPc hKc hev⟩⟩ rfl rfl hl.1 rfl (lv_room (Nat.le_of_ble_eq_true rfl)) dX8_copy_92 ⟨(Nat.le_of_ble_eq_true rfl), (Nat.le_of_ble_eq_true rfl)⟩) (fun r_424 hw => ?_)
              have hr_424 : (r_424.toInt = 1 ∧ 0 ≤ j.toInt ∧ 0 ≤ n.toInt ∧ j.toInt + n.toInt ≤ z3.toInt) ∨ (r_424.toInt = 0 ∧ ¬ (0 ≤ j.toInt ∧ 0 ≤ n.toInt ∧ j.toInt + n.toInt ≤ z3.toInt)) := hw
              refine lv_if_ne (tgt := 105) hx hb dX8_copy_95 (by decide) (fun c_425 => ?_) (fun c_425 => ?_)
              · skip
                have tc_425 : ¬ r_424.toInt = 0 := fun h => c_425 ((fa_eq _ _).mpr h)
                refine lv_aload hx hb dX8_copy_105 (lv_at hl 1 rfl) ?_
                refine va_getN (D := (dC, dI)) (ci := 0) (v := .ref n3) (C := RX2) (T := TX2) (N := 3) hx hb hts inX2 hown hK hP 9 rfl rfl 2 (by decide) (ev_nest hev 23 rfl) (fun _ h9 => h9) rfl dX8_copy_107 ?_
                refine lv_iload_n hx hb dX8_copy_110 rfl (lv_at hl 4 rfl) ?_
                refine lv_aload hx hb dX8_copy_111 (lv_at hl 0 rfl) ?_
                refine va_getN (D := (dC, dI)) (ci := 0) (v := .ref n3) (C := RX2) (T := TX2) (N := 3) hx hb hts inX2 hown hK hP 9 rfl rfl 2 (by decide) (ev_nest hev 23 rfl) (fun _ h9 => h9) rfl dX8_copy_113 ?_
                refine lv_iload hx hb dX8_copy_116 (lv_at hl 6 rfl) ?_
                refine lv_iload hx hb dX8_copy_118 (lv_at hl 7 rfl) ?_
                refine va_copyl (ty := .long) hx hb (by rw [hml]; exact hl.1.symm) hown (hts _ (List.mem_of_getElem? (i := 25) rfl)) (hts _ (List.mem_of_getElem? (i := 26) rfl)) (hts _ (List.mem_of_getElem? (i := 27) rfl)) (hts _ (List.mem_of_getElem? (i := 28) rfl)) hK hP hD hS 10 10 5 5 rfl rfl rfl rfl rfl (fun h => absurd ((fa_lt _ _).mp h) (by show ¬ i.toInt < 0; omega)) (fun h => absurd ((fa_lt _ _).mp h) (by show ¬ j.toInt < 0; omega)) (fun h => absurd ((fa_lt _ _).mp h) (by show ¬ n.toInt < 0; omega)) (by show i.toInt.toNat + n.toInt.toNat ≤ 40; omega) (by show j.toInt.toNat + n.toInt.toNat ≤ 40; omega) (fun _ _ => rfl) (Nat.le_of_ble_eq_true rfl) (Nat.le_of_ble_eq_true rfl) dX8_copy_120 (fun H locs hP hD hS => ?_)
                generalize va_cpy g3 g3 i.toNatClampNeg j.toNatClampNeg n.toNatClampNeg = f_426 at hP hD
                have hP : va_P (dC, dI) vwCl [(h0, .inr (6, [v0, v1, v2, v3, v4, .ref ph, .ref t0, v7])), (t0, .inl (tc, 7, .inl tf)), (ph, .inl (pc, 4, .inr (.inr (.inr (.inr pf))))), (p0, .inr (0, [.int b0, .int z0, .ref n0])), (n0, .inl (nc0, 40, .inr (.inl g0))), (p1, .inr (0, [.int b1, .int z1, .ref n1])), (n1, .inl (nc1, 40, .inr (.inl g1))), (p2, .inr (0, [.int b2, .int z2, .ref n2])), (n2, .inl (nc2, 40, .inr (.inl g2))), (p3, .inr (0, [.int b3, .int z3, .ref n3])), (n3, .inl (nc3, 40, .inr (.inl f_426)))] H := hP
                have hD : va_D A [(h0, .inr (6, [v0, v1, v2, v3, v4, .ref ph, .ref t0, v7])), (t0, .inl (tc, 7, .inl tf)), (ph, .inl (pc, 4, .inr (.inr (.inr (.inr pf))))), (p0, .inr (0, [.int b0, .int z0, .ref n0])), (n0, .inl (nc0, 40, .inr (.inl g0))), (p1, .inr (0, [.int b1, .int z1, .ref n1])), (n1, .inl (nc1, 40, .inr (.inl g1))), (p2, .inr (0, [.int b2, .int z2, .ref n2])), (n2, .inl (nc2, 40, .inr (.inl g2))), (p3, .inr (0, [.int b3, .int z3, .ref n3])), (n3, .inl (nc3, 40, .inr (.inl f_426)))] := hD
                refine lv_iload hx hb dX8_copy_123 (lv_at hl 7 rfl) ?_
                have hP9 := hP.sub (ws' := [(h0, .inr (6, [v0, v1, v2, v3, v4, .ref ph, .ref t0, v7])), (t0, .inl (tc, 7, .inl tf)), (ph, .inl (pc, 4, .inr (.inr (.inr (.inr pf))))), (p0, .inr (0, [.int b0, .int z0, .ref n0])), (n0, .inl (nc0, 40, .inr (.inl g0))), (p1, .inr (0, [.int b1, .int z1, .ref n1])), (n1, .inl (nc1, 40, .inr (.inl g1))), (p2, .inr (0, [.int b2, .int z2, .ref n2])), (n2, .inl (nc2, 40, .inr (.inl g2))), (p3, .inr (0, [.int b3, .int z3, .ref n3])), (n3, .inl (nc3, 40, .inr (.inl f_426)))]) [0, 1, 2, 3, 4, 5, 6, 7, 8, 9, 10] rfl
                have hD9 := hD.sub (ws' := [(h0, .inr (6, [v0, v1, v2, v3, v4, .ref ph, .ref t0, v7])), (t0, .inl (tc, 7, .inl tf)), (ph, .inl (pc, 4, .inr (.inr (.inr (.inr pf))))), (p0, .inr (0, [.int b0, .int z0, .ref n0])), (n0, .inl (nc0, 40, .inr (.inl g0))), (p1, .inr (0, [.int b1, .int z1, .ref n1])), (n1, .inl (nc1, 40, .inr (.inl g1))), (p2, .inr (0, [.int b2, .int z2, .ref n2])), (n2, .inl (nc2, 40, .inr (.inl g2))), (p3, .inr (0, [.int b3, .int z3, .ref n3])), (n3, .inl (nc3, 40, .inr (.inl f_426)))]) [0, 1, 2, 3, 4, 5, 6, 7, 8, 9, 10] (by decide) rfl
                have hK9 := hK.sub (tys' := [(tc, .int), (pc, .object "LampShapes$Paper"), (nc0, .long), (nc1, .long), (nc2, .long), (nc3, .long)]) [0, 1, 2, 3, 4, 5] rfl
                exact W.iret (v := n) hx hb hr (fun t ht hW => ⟨⟨n, (), rfl, trivial, tf, g0, g1, g2, f_426, by rw [ht]; exact hP9, va_K.moved hW.alike hK9, hD9⟩, hS.F ht⟩) hS.2.2 dX8_copy_125
              · skip
                have tc_425 : r_424.toInt = 0 := (fa_eq _ _).mp c_425
                refine lv_aload_n hx hb dX8_copy_98 rfl (lv_at hl 2 rfl) ?_
                refine lv_ldc hx hb hown (hts _ (List.mem_of_getElem? (i := 6) rfl)) dX8_copy_99 ?_
                have hPc := hP.sub (ws' := [(h0, .inr (6, [v0, v1, v2, v3, v4, .ref ph, .ref t0, v7])), (t0, .inl (tc, 7, .inl tf))]) [0, 1] rfl
                have hKc := hK.sub (tys' := [(tc, .int)]) [0] rfl
                have hDc := hD.sub (ws' := [(h0, .inr (6, [v0, v1, v2, v3, v4, .ref ph, .ref t0, v7])), (t0, .inl (tc, 7, .inl tf))]) [0, 1] (by decide) rfl
                have hFc := va_free (wc := [(h0, .inr (6, [v0, v1, v2, v3, v4, .ref ph, .ref t0, v7])), (t0, .inl (tc, 7, .inl tf))]) hD hS hA [0, 1] rfl
                refine va_calli (va_runV (As := [.int (-1000000001)]) (rest := []) ⟨hx, hb, hml, hown, hts⟩ (f_beyond l dC dI ad h0 v0 v1 v2 v3 v4 (.ref ph) t0 v7 tc tf s.heap.size ) (cwV 1 hts g_x_copy_f_beyond_63 rfl rfl rfl (by decide +kernel) ⟨(Nat.le_of_ble_eq_true rfl), (Nat.le_of_ble_eq_true rfl)⟩) ⟨preM_blind, va_recv hKc hPc (ci := 6) (q0 := 0) rfl rfl, fun U hU hW => ⟨rfl, preM_at hU hW hPc hKc hDc hev⟩⟩ rfl rfl hl.1 rfl (lv_room (Nat.le_of_ble_eq_true rfl)) dX8_copy_101 ⟨(Nat.le_of_ble_eq_true rfl), (Nat.le_of_ble_eq_true rfl)⟩) hS (fun q _ h => hFc q h) hFc (fun r_427 u t H1 locs ht hvm hw hB hz1 hk1 hS => ?_)
                obtain ⟨tg_428, hP1, hK1, hD1⟩ := hB
                rw [ht] at hP1
                have hK1 := va_K.moved hvm.symm hK1
                obtain ⟨hP, hD⟩ := va_join (wr := [(ph, .inl (pc, 4, .inr (.inr (.inr (.inr pf))))), (p0, .inr (0, [.int b0, .int z0, .ref n0])), (n0, .inl (nc0, 40, .inr (.inl g0))), (p1, .inr (0, [.int b1, .int z1, .ref n1])), (n1, .inl (nc1, 40, .inr (.inl g1))), (p2, .inr (0, [.int b2, .int z2, .ref n2])), (n2, .inl (nc2, 40, .inr (.inl g2))), (p3, .inr (0, [.int b3, .int z3, .ref n3])), (n3, .inl (nc3, 40, .inr (.inl g3)))]) (w1 := [(h0, .inr (6, [v0, v1, v2, v3, v4, .ref ph, .ref t0, v7])), (t0, .inl (tc, 7, .inl tg_428))]) hP hD [0, 1] [2, 3, 4, 5, 6, 7, 8, 9, 10] rfl rfl (by decide) (by decide) hk1 hFc hP1 hD1
                generalize H1 = H at hP hS ⊢
                have hP : va_P (dC, dI) vwCl [(ph, .inl (pc, 4, .inr (.inr (.inr (.inr pf))))), (p0, .inr (0, [.int b0, .int z0, .ref n0])), (n0, .inl (nc0, 40, .inr (.inl g0))), (p1, .inr (0, [.int b1, .int z1, .ref n1])), (n1, .inl (nc1, 40, .inr (.inl g1))), (p2, .inr (0, [.int b2, .int z2, .ref n2])), (n2, .inl (nc2, 40, .inr (.inl g2))), (p3, .inr (0, [.int b3, .int z3, .ref n3])), (n3, .inl (nc3, 40, .inr (.inl g3))), (h0, .inr (6, [v0, v1, v2, v3, v4, .ref ph, .ref t0, v7])), (t0, .inl (tc, 7, .inl tg_428))] H := hP
                have hD : va_D A [(ph, .inl (pc, 4, .inr (.inr (.inr (.inr pf))))), (p0, .inr (0, [.int b0, .int z0, .ref n0])), (n0, .inl (nc0, 40, .inr (.inl g0))), (p1, .inr (0, [.int b1, .int z1, .ref n1])), (n1, .inl (nc1, 40, .inr (.inl g1))), (p2, .inr (0, [.int b2, .int z2, .ref n2])), (n2, .inl (nc2, 40, .inr (.inl g2))), (p3, .inr (0, [.int b3, .int z3, .ref n3])), (n3, .inl (nc3, 40, .inr (.inl g3))), (h0, .inr (6, [v0, v1, v2, v3, v4, .ref ph, .ref t0, v7])), (t0, .inl (tc, 7, .inl tg_428))] := hD
                subst hw
                have hP9 := hP.sub (ws' := [(h0, .inr (6, [v0, v1, v2, v3, v4, .ref ph, .ref t0, v7])), (t0, .inl (tc, 7, .inl tg_428)), (ph, .inl (pc, 4, .inr (.inr (.inr (.inr pf))))), (p0, .inr (0, [.int b0, .int z0, .ref n0])), (n0, .inl (nc0, 40, .inr (.inl g0))), (p1, .inr (0, [.int b1, .int z1, .ref n1])), (n1, .inl (nc1, 40, .inr (.inl g1))), (p2, .inr (0, [.int b2, .int z2, .ref n2])), (n2, .inl (nc2, 40, .inr (.inl g2))), (p3, .inr (0, [.int b3, .int z3, .ref n3])), (n3, .inl (nc3, 40, .inr (.inl g3)))]) [9, 10, 0, 1, 2, 3, 4, 5, 6, 7, 8] rfl
                have hD9 := hD.sub (ws' := [(h0, .inr (6, [v0, v1, v2, v3, v4, .ref ph, .ref t0, v7])), (t0, .inl (tc, 7, .inl tg_428)), (ph, .inl (pc, 4, .inr (.inr (.inr (.inr pf))))), (p0, .inr (0, [.int b0, .int z0, .ref n0])), (n0, .inl (nc0, 40, .inr (.inl g0))), (p1, .inr (0, [.int b1, .int z1, .ref n1])), (n1, .inl (nc1, 40, .inr (.inl g1))), (p2, .inr (0, [.int b2, .int z2, .ref n2])), (n2, .inl (nc2, 40, .inr (.inl g2))), (p3, .inr (0, [.int b3, .int z3, .ref n3])), (n3, .inl (nc3, 40, .inr (.inl g3)))]) [9, 10, 0, 1, 2, 3, 4, 5, 6, 7, 8] (by decide) rfl
                have hK9 := hK.sub (tys' := [(tc, .int), (pc, .object "LampShapes$Paper"), (nc0, .long), (nc1, .long), (nc2, .long), (nc3, .long)]) [0, 1, 2, 3, 4, 5] rfl
                exact W.iret (v := ((-1000000001) : Int32)) hx hb hr (fun t ht hW => ⟨⟨((-1000000001) : Int32), (), rfl, trivial, tg_428, g0, g1, g2, g3, by rw [ht]; exact hP9, va_K.moved hW.alike hK9, hD9⟩, hS.F ht⟩) hS.2.2 dX8_copy_104
          · skip
            have tc_419 : ¬ b3.toInt = b3.toInt := fun h => c_419 ((fa_eq _ _).mpr h)
            refine lv_aload_n hx hb dX8_copy_68 rfl (lv_at hl 2 rfl) ?_
            refine lv_ldc hx hb hown (hts _ (List.mem_of_getElem? (i := 29) rfl)) dX8_copy_69 ?_
            have hPc := hP.sub (ws' := [(h0, .inr (6, [v0, v1, v2, v3, v4, .ref ph, .ref t0, v7])), (t0, .inl (tc, 7, .inl tf))]) [0, 1] rfl
            have hKc := hK.sub (tys' := [(tc, .int)]) [0] rfl
            have hDc := hD.sub (ws' := [(h0, .inr (6, [v0, v1, v2, v3, v4, .ref ph, .ref t0, v7])), (t0, .inl (tc, 7, .inl tf))]) [0, 1] (by decide) rfl
            have hFc := va_free (wc := [(h0, .inr (6, [v0, v1, v2, v3, v4, .ref ph, .ref t0, v7])), (t0, .inl (tc, 7, .inl tf))]) hD hS hA [0, 1] rfl
            refine va_calli (va_runV (As := [.int (-1000000003)]) (rest := []) ⟨hx, hb, hml, hown, hts⟩ (f_kind l dC dI ad h0 v0 v1 v2 v3 v4 (.ref ph) t0 v7 tc tf s.heap.size ) (cwV 1 hts g_x_copy_f_kind_63 rfl rfl rfl (by decide +kernel) ⟨(Nat.le_of_ble_eq_true rfl), (Nat.le_of_ble_eq_true rfl)⟩) ⟨preM_blind, va_recv hKc hPc (ci := 6) (q0 := 0) rfl rfl, fun U hU hW => ⟨rfl, preM_at hU hW hPc hKc hDc hev⟩⟩ rfl rfl hl.1 rfl (lv_room (Nat.le_of_ble_eq_true rfl)) dX8_copy_71 ⟨(Nat.le_of_ble_eq_true rfl), (Nat.le_of_ble_eq_true rfl)⟩) hS (fun q _ h => hFc q h) hFc (fun r_429 u t H1 locs ht hvm hw hB hz1 hk1 hS => ?_)
            obtain ⟨tg_430, hP1, hK1, hD1⟩ := hB
            rw [ht] at hP1
            have hK1 := va_K.moved hvm.symm hK1
            obtain ⟨hP, hD⟩ := va_join (wr := [(ph, .inl (pc, 4, .inr (.inr (.inr (.inr pf))))), (p0, .inr (0, [.int b0, .int z0, .ref n0])), (n0, .inl (nc0, 40, .inr (.inl g0))), (p1, .inr (0, [.int b1, .int z1, .ref n1])), (n1, .inl (nc1, 40, .inr (.inl g1))), (p2, .inr (0, [.int b2, .int z2, .ref n2])), (n2, .inl (nc2, 40, .inr (.inl g2))), (p3, .inr (0, [.int b3, .int z3, .ref n3])), (n3, .inl (nc3, 40, .inr (.inl g3)))]) (w1 := [(h0, .inr (6, [v0, v1, v2, v3, v4, .ref ph, .ref t0, v7])), (t0, .inl (tc, 7, .inl tg_430))]) hP hD [0, 1] [2, 3, 4, 5, 6, 7, 8, 9, 10] rfl rfl (by decide) (by decide) hk1 hFc hP1 hD1
            generalize H1 = H at hP hS ⊢
            have hP : va_P (dC, dI) vwCl [(ph, .inl (pc, 4, .inr (.inr (.inr (.inr pf))))), (p0, .inr (0, [.int b0, .int z0, .ref n0])), (n0, .inl (nc0, 40, .inr (.inl g0))), (p1, .inr (0, [.int b1, .int z1, .ref n1])), (n1, .inl (nc1, 40, .inr (.inl g1))), (p2, .inr (0, [.int b2, .int z2, .ref n2])), (n2, .inl (nc2, 40, .inr (.inl g2))), (p3, .inr (0, [.int b3, .int z3, .ref n3])), (n3, .inl (nc3, 40, .inr (.inl g3))), (h0, .inr (6, [v0, v1, v2, v3, v4, .ref ph, .ref t0, v7])), (t0, .inl (tc, 7, .inl tg_430))] H := hP
            have hD : va_D A [(ph, .inl (pc, 4, .inr (.inr (.inr (.inr pf))))), (p0, .inr (0, [.int b0, .int z0, .ref n0])), (n0, .inl (nc0, 40, .inr (.inl g0))), (p1, .inr (0, [.int b1, .int z1, .ref n1])), (n1, .inl (nc1, 40, .inr (.inl g1))), (p2, .inr (0, [.int b2, .int z2, .ref n2])), (n2, .inl (nc2, 40, .inr (.inl g2))), (p3, .inr (0, [.int b3, .int z3, .ref n3])), (n3, .inl (nc3, 40, .inr (.inl g3))), (h0, .inr (6, [v0, v1, v2, v3, v4, .ref ph, .ref t0, v7])), (t0, .inl (tc, 7, .inl tg_430))] := hD
            subst hw
            have hP9 := hP.sub (ws' := [(h0, .inr (6, [v0, v1, v2, v3, v4, .ref ph, .ref t0, v7])), (t0, .inl (tc, 7, .inl tg_430)), (ph, .inl (pc, 4, .inr (.inr (.inr (.inr pf))))), (p0, .inr (0, [.int b0, .int z0, .ref n0])), (n0, .inl (nc0, 40, .inr (.inl g0))), (p1, .inr (0, [.int b1, .int z1, .ref n1])), (n1, .inl (nc1, 40, .inr (.inl g1))), (p2, .inr (0, [.int b2, .int z2, .ref n2])), (n2, .inl (nc2, 40, .inr (.inl g2))), (p3, .inr (0, [.int b3, .int z3, .ref n3])), (n3, .inl (nc3, 40, .inr (.inl g3)))]) [9, 10, 0, 1, 2, 3, 4, 5, 6, 7, 8] rfl
            have hD9 := hD.sub (ws' := [(h0, .inr (6, [v0, v1, v2, v3, v4, .ref ph, .ref t0, v7])), (t0, .inl (tc, 7, .inl tg_430)), (ph, .inl (pc, 4, .inr (.inr (.inr (.inr pf))))), (p0, .inr (0, [.int b0, .int z0, .ref n0])), (n0, .inl (nc0, 40, .inr (.inl g0))), (p1, .inr (0, [.int b1, .int z1, .ref n1])), (n1, .inl (nc1, 40, .inr (.inl g1))), (p2, .inr (0, [.int b2, .int z2, .ref n2])), (n2, .inl (nc2, 40, .inr (.inl g2))), (p3, .inr (0, [.int b3, .int z3, .ref n3])), (n3, .inl (nc3, 40, .inr (.inl g3)))]) [9, 10, 0, 1, 2, 3, 4, 5, 6, 7, 8] (by decide) rfl
            have hK9 := hK.sub (tys' := [(tc, .int), (pc, .object "LampShapes$Paper"), (nc0, .long), (nc1, .long), (nc2, .long), (nc3, .long)]) [0, 1, 2, 3, 4, 5] rfl
            exact W.iret (v := ((-1000000003) : Int32)) hx hb hr (fun t ht hW => ⟨⟨((-1000000003) : Int32), (), rfl, trivial, tg_430, g0, g1, g2, g3, by rw [ht]; exact hP9, va_K.moved hW.alike hK9, hD9⟩, hS.F ht⟩) hS.2.2 dX8_copy_74
        · skip
          have tc_418 : ¬ r_417.toInt = 0 := fun h => c_418 ((fa_eq _ _).mpr h)
          refine lv_aload_n hx hb dX8_copy_47 rfl (lv_at hl 2 rfl) ?_
          refine lv_ldcw hx hb hown (hts _ (List.mem_of_getElem? (i := 19) rfl)) dX8_copy_48 ?_
          have hPc := hP.sub (ws' := [(h0, .inr (6, [v0, v1, v2, v3, v4, .ref ph, .ref t0, v7])), (t0, .inl (tc, 7, .inl tf))]) [0, 1] rfl
          have hKc := hK.sub (tys' := [(tc, .int)]) [0] rfl
          have hDc := hD.sub (ws' := [(h0, .inr (6, [v0, v1, v2, v3, v4, .ref ph, .ref t0, v7])), (t0, .inl (tc, 7, .inl tf))]) [0, 1] (by decide) rfl
          have hFc := va_free (wc := [(h0, .inr (6, [v0, v1, v2, v3, v4, .ref ph, .ref t0, v7])), (t0, .inl (tc, 7, .inl tf))]) hD hS hA [0, 1] rfl
          refine va_calli (va_runV (As := [.int (-1000000006)]) (rest := []) ⟨hx, hb, hml, hown, hts⟩ (f_missing l dC dI ad h0 v0 v1 v2 v3 v4 (.ref ph) t0 v7 tc tf s.heap.size ) (cwV 1 hts g_x_copy_f_missing_63 rfl rfl rfl (by decide +kernel) ⟨(Nat.le_of_ble_eq_true rfl), (Nat.le_of_ble_eq_true rfl)⟩) ⟨preM_blind, va_recv hKc hPc (ci := 6) (q0 := 0) rfl rfl, fun U hU hW => ⟨rfl, preM_at hU hW hPc hKc hDc hev⟩⟩ rfl rfl hl.1 rfl (lv_room (Nat.le_of_ble_eq_true rfl)) dX8_copy_51 ⟨(Nat.le_of_ble_eq_true rfl), (Nat.le_of_ble_eq_true rfl)⟩) hS (fun q _ h => hFc q h) hFc (fun r_431 u t H1 locs ht hvm hw hB hz1 hk1 hS => ?_)
          obtain ⟨tg_432, hP1, hK1, hD1⟩ := hB
          rw [ht] at hP1
          have hK1 := va_K.moved hvm.symm hK1
          obtain ⟨hP, hD⟩ := va_join (wr := [(ph, .inl (pc, 4, .inr (.inr (.inr (.inr pf))))), (p0, .inr (0, [.int b0, .int z0, .ref n0])), (n0, .inl (nc0, 40, .inr (.inl g0))), (p1, .inr (0, [.int b1, .int z1, .ref n1])), (n1, .inl (nc1, 40, .inr (.inl g1))), (p2, .inr (0, [.int b2, .int z2, .ref n2])), (n2, .inl (nc2, 40, .inr (.inl g2))), (p3, .inr (0, [.int b3, .int z3, .ref n3])), (n3, .inl (nc3, 40, .inr (.inl g3)))]) (w1 := [(h0, .inr (6, [v0, v1, v2, v3, v4, .ref ph, .ref t0, v7])), (t0, .inl (tc, 7, .inl tg_432))]) hP hD [0, 1] [2, 3, 4, 5, 6, 7, 8, 9, 10] rfl rfl (by decide) (by decide) hk1 hFc hP1 hD1
          generalize H1 = H at hP hS ⊢
          have hP : va_P (dC, dI) vwCl [(ph, .inl (pc, 4, .inr (.inr (.inr (.inr pf))))), (p0, .inr (0, [.int b0, .int z0, .ref n0])), (n0, .inl (nc0, 40, .inr (.inl g0))), (p1, .inr (0, [.int b1, .int z1, .ref n1])), (n1, .inl (nc1, 40, .inr (.inl g1))), (p2, .inr (0, [.int b2, .int z2, .ref n2])), (n2, .inl (nc2, 40, .inr (.inl g2))), (p3, .inr (0, [.int b3, .int z3, .ref n3])), (n3, .inl (nc3, 40, .inr (.inl g3))), (h0, .inr (6, [v0, v1, v2, v3, v4, .ref ph, .ref t0, v7])), (t0, .inl (tc, 7, .inl tg_432))] H := hP
          have hD : va_D A [(ph, .inl (pc, 4, .inr (.inr (.inr (.inr pf))))), (p0, .inr (0, [.int b0, .int z0, .ref n0])), (n0, .inl (nc0, 40, .inr (.inl g0))), (p1, .inr (0, [.int b1, .int z1, .ref n1])), (n1, .inl (nc1, 40, .inr (.inl g1))), (p2, .inr (0, [.int b2, .int z2, .ref n2])), (n2, .inl (nc2, 40, .inr (.inl g2))), (p3, .inr (0, [.int b3, .int z3, .ref n3])), (n3, .inl (nc3, 40, .inr (.inl g3))), (h0, .inr (6, [v0, v1, v2, v3, v4, .ref ph, .ref t0, v7])), (t0, .inl (tc, 7, .inl tg_432))] := hD
          subst hw
          have hP9 := hP.sub (ws' := [(h0, .inr (6, [v0, v1, v2, v3, v4, .ref ph, .ref t0, v7])), (t0, .inl (tc, 7, .inl tg_432)), (ph, .inl (pc, 4, .inr (.inr (.inr (.inr pf))))), (p0, .inr (0, [.int b0, .int z0, .ref n0])), (n0, .inl (nc0, 40, .inr (.inl g0))), (p1, .inr (0, [.int b1, .int z1, .ref n1])), (n1, .inl (nc1, 40, .inr (.inl g1))), (p2, .inr (0, [.int b2, .int z2, .ref n2])), (n2, .inl (nc2, 40, .inr (.inl g2))), (p3, .inr (0, [.int b3, .int z3, .ref n3])), (n3, .inl (nc3, 40, .inr (.inl g3)))]) [9, 10, 0, 1, 2, 3, 4, 5, 6, 7, 8] rfl
          have hD9 := hD.sub (ws' := [(h0, .inr (6, [v0, v1, v2, v3, v4, .ref ph, .ref t0, v7])), (t0, .inl (tc, 7, .inl tg_432)), (ph, .inl (pc, 4, .inr (.inr (.inr (.inr pf))))), (p0, .inr (0, [.int b0, .int z0, .ref n0])), (n0, .inl (nc0, 40, .inr (.inl g0))), (p1, .inr (0, [.int b1, .int z1, .ref n1])), (n1, .inl (nc1, 40, .inr (.inl g1))), (p2, .inr (0, [.int b2, .int z2, .ref n2])), (n2, .inl (nc2, 40, .inr (.inl g2))), (p3, .inr (0, [.int b3, .int z3, .ref n3])), (n3, .inl (nc3, 40, .inr (.inl g3)))]) [9, 10, 0, 1, 2, 3, 4, 5, 6, 7, 8] (by decide) rfl
          have hK9 := hK.sub (tys' := [(tc, .int), (pc, .object "LampShapes$Paper"), (nc0, .long), (nc1, .long), (nc2, .long), (nc3, .long)]) [0, 1, 2, 3, 4, 5] rfl
          exact W.iret (v := ((-1000000006) : Int32)) hx hb hr (fun t ht hW => ⟨⟨((-1000000006) : Int32), (), rfl, trivial, tg_432, g0, g1, g2, g3, by rw [ht]; exact hP9, va_K.moved hW.alike hK9, hD9⟩, hS.F ht⟩) hS.2.2 dX8_copy_54

