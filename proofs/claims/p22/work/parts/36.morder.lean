theorem dX9_goOn_0 : decode cX9_goOn 0 = .ok (.iload_n 1, 1) := by decide +kernel
theorem dX9_goOn_1 : decode cX9_goOn 1 = .ok (.aload_n 0, 1) := by decide +kernel
theorem dX9_goOn_2 : decode cX9_goOn 2 = .ok (.getfield 9, 3) := by decide +kernel
theorem dX9_goOn_5 : decode cX9_goOn 5 = .ok (.iconst 1, 1) := by decide +kernel
theorem dX9_goOn_6 : decode cX9_goOn 6 = .ok (.iaload, 1) := by decide +kernel
theorem dX9_goOn_7 : decode cX9_goOn 7 = .ok (.if_icmp .ne 53, 3) := by decide +kernel
theorem dX9_goOn_10 : decode cX9_goOn 10 = .ok (.aload_n 0, 1) := by decide +kernel
theorem dX9_goOn_11 : decode cX9_goOn 11 = .ok (.getfield 180, 3) := by decide +kernel
theorem dX9_goOn_14 : decode cX9_goOn 14 = .ok (.ifCond .lt 11, 3) := by decide +kernel
theorem dX9_goOn_17 : decode cX9_goOn 17 = .ok (.iload_n 3, 1) := by decide +kernel
theorem dX9_goOn_18 : decode cX9_goOn 18 = .ok (.aload_n 0, 1) := by decide +kernel
theorem dX9_goOn_19 : decode cX9_goOn 19 = .ok (.getfield 180, 3) := by decide +kernel
theorem dX9_goOn_22 : decode cX9_goOn 22 = .ok (.if_icmp .ge 37, 3) := by decide +kernel
theorem dX9_goOn_25 : decode cX9_goOn 25 = .ok (.aload_n 0, 1) := by decide +kernel
theorem dX9_goOn_26 : decode cX9_goOn 26 = .ok (.iload_n 3, 1) := by decide +kernel
theorem dX9_goOn_27 : decode cX9_goOn 27 = .ok (.putfield 180, 3) := by decide +kernel
theorem dX9_goOn_30 : decode cX9_goOn 30 = .ok (.iconst 0, 1) := by decide +kernel
theorem dX9_goOn_31 : decode cX9_goOn 31 = .ok (.istore 4, 2) := by decide +kernel
theorem dX9_goOn_33 : decode cX9_goOn 33 = .ok (.iload 4, 2) := by decide +kernel
theorem dX9_goOn_35 : decode cX9_goOn 35 = .ok (.iload_n 1, 1) := by decide +kernel
theorem dX9_goOn_36 : decode cX9_goOn 36 = .ok (.if_icmp .ge 23, 3) := by decide +kernel
theorem dX9_goOn_39 : decode cX9_goOn 39 = .ok (.aload_n 0, 1) := by decide +kernel
theorem dX9_goOn_40 : decode cX9_goOn 40 = .ok (.getfield 29, 3) := by decide +kernel
theorem dX9_goOn_43 : decode cX9_goOn 43 = .ok (.iload 4, 2) := by decide +kernel
theorem dX9_goOn_45 : decode cX9_goOn 45 = .ok (.aload_n 0, 1) := by decide +kernel
theorem dX9_goOn_46 : decode cX9_goOn 46 = .ok (.getfield 26, 3) := by decide +kernel
theorem dX9_goOn_49 : decode cX9_goOn 49 = .ok (.iload 4, 2) := by decide +kernel
theorem dX9_goOn_51 : decode cX9_goOn 51 = .ok (.iaload, 1) := by decide +kernel
theorem dX9_goOn_52 : decode cX9_goOn 52 = .ok (.iastore, 1) := by decide +kernel
theorem dX9_goOn_53 : decode cX9_goOn 53 = .ok (.iinc 4 1, 3) := by decide +kernel
theorem dX9_goOn_56 : decode cX9_goOn 56 = .ok (.goto (-23), 3) := by decide +kernel
theorem dX9_goOn_59 : decode cX9_goOn 59 = .ok (.return_, 1) := by decide +kernel
theorem dX9_goOn_60 : decode cX9_goOn 60 = .ok (.iconst 0, 1) := by decide +kernel
theorem dX9_goOn_61 : decode cX9_goOn 61 = .ok (.istore 4, 2) := by decide +kernel
theorem dX9_goOn_63 : decode cX9_goOn 63 = .ok (.iload 4, 2) := by decide +kernel
theorem dX9_goOn_65 : decode cX9_goOn 65 = .ok (.aload_n 0, 1) := by decide +kernel
theorem dX9_goOn_66 : decode cX9_goOn 66 = .ok (.getfield 9, 3) := by decide +kernel
theorem dX9_goOn_69 : decode cX9_goOn 69 = .ok (.iconst 1, 1) := by decide +kernel
theorem dX9_goOn_70 : decode cX9_goOn 70 = .ok (.iaload, 1) := by decide +kernel
theorem dX9_goOn_71 : decode cX9_goOn 71 = .ok (.if_icmp .ge 63, 3) := by decide +kernel
theorem dX9_goOn_74 : decode cX9_goOn 74 = .ok (.iload_n 2, 1) := by decide +kernel
theorem dX9_goOn_75 : decode cX9_goOn 75 = .ok (.iload 4, 2) := by decide +kernel
theorem dX9_goOn_77 : decode cX9_goOn 77 = .ok (.ishr, 1) := by decide +kernel
theorem dX9_goOn_78 : decode cX9_goOn 78 = .ok (.iconst 1, 1) := by decide +kernel
theorem dX9_goOn_79 : decode cX9_goOn 79 = .ok (.iand, 1) := by decide +kernel
theorem dX9_goOn_80 : decode cX9_goOn 80 = .ok (.ifCond .ne 48, 3) := by decide +kernel
theorem dX9_goOn_83 : decode cX9_goOn 83 = .ok (.aload_n 0, 1) := by decide +kernel
theorem dX9_goOn_84 : decode cX9_goOn 84 = .ok (.getfield 26, 3) := by decide +kernel
theorem dX9_goOn_87 : decode cX9_goOn 87 = .ok (.iload_n 1, 1) := by decide +kernel
theorem dX9_goOn_88 : decode cX9_goOn 88 = .ok (.iload 4, 2) := by decide +kernel
theorem dX9_goOn_90 : decode cX9_goOn 90 = .ok (.iastore, 1) := by decide +kernel
theorem dX9_goOn_91 : decode cX9_goOn 91 = .ok (.aload_n 0, 1) := by decide +kernel
theorem dX9_goOn_92 : decode cX9_goOn 92 = .ok (.iload_n 1, 1) := by decide +kernel
theorem dX9_goOn_93 : decode cX9_goOn 93 = .ok (.iconst 1, 1) := by decide +kernel
theorem dX9_goOn_94 : decode cX9_goOn 94 = .ok (.iadd, 1) := by decide +kernel
theorem dX9_goOn_95 : decode cX9_goOn 95 = .ok (.iload_n 2, 1) := by decide +kernel
theorem dX9_goOn_96 : decode cX9_goOn 96 = .ok (.iconst 1, 1) := by decide +kernel
theorem dX9_goOn_97 : decode cX9_goOn 97 = .ok (.iload 4, 2) := by decide +kernel
theorem dX9_goOn_99 : decode cX9_goOn 99 = .ok (.ishl, 1) := by decide +kernel
theorem dX9_goOn_100 : decode cX9_goOn 100 = .ok (.ior, 1) := by decide +kernel
theorem dX9_goOn_101 : decode cX9_goOn 101 = .ok (.iload_n 3, 1) := by decide +kernel
theorem dX9_goOn_102 : decode cX9_goOn 102 = .ok (.iload_n 1, 1) := by decide +kernel
theorem dX9_goOn_103 : decode cX9_goOn 103 = .ok (.ifCond .ne 7, 3) := by decide +kernel
theorem dX9_goOn_106 : decode cX9_goOn 106 = .ok (.iconst 0, 1) := by decide +kernel
theorem dX9_goOn_107 : decode cX9_goOn 107 = .ok (.goto 17, 3) := by decide +kernel
theorem dX9_goOn_110 : decode cX9_goOn 110 = .ok (.aload_n 0, 1) := by decide +kernel
theorem dX9_goOn_111 : decode cX9_goOn 111 = .ok (.aload_n 0, 1) := by decide +kernel
theorem dX9_goOn_112 : decode cX9_goOn 112 = .ok (.getfield 26, 3) := by decide +kernel
theorem dX9_goOn_115 : decode cX9_goOn 115 = .ok (.iload_n 1, 1) := by decide +kernel
theorem dX9_goOn_116 : decode cX9_goOn 116 = .ok (.iconst 1, 1) := by decide +kernel
theorem dX9_goOn_117 : decode cX9_goOn 117 = .ok (.isub, 1) := by decide +kernel
theorem dX9_goOn_118 : decode cX9_goOn 118 = .ok (.iaload, 1) := by decide +kernel
theorem dX9_goOn_119 : decode cX9_goOn 119 = .ok (.iload 4, 2) := by decide +kernel
theorem dX9_goOn_121 : decode cX9_goOn 121 = .ok (.invokevirtual 161, 3) := by decide +kernel
theorem dX9_goOn_124 : decode cX9_goOn 124 = .ok (.iadd, 1) := by decide +kernel
theorem dX9_goOn_125 : decode cX9_goOn 125 = .ok (.invokevirtual 183, 3) := by decide +kernel
theorem dX9_goOn_128 : decode cX9_goOn 128 = .ok (.iinc 4 1, 3) := by decide +kernel
theorem dX9_goOn_131 : decode cX9_goOn 131 = .ok (.goto (-68), 3) := by decide +kernel
theorem dX9_goOn_134 : decode cX9_goOn 134 = .ok (.return_, 1) := by decide +kernel
theorem dX9_order_0 : decode cX9_order 0 = .ok (.iload_n 1, 1) := by decide +kernel
theorem dX9_order_1 : decode cX9_order 1 = .ok (.iconst (-1), 1) := by decide +kernel
theorem dX9_order_2 : decode cX9_order 2 = .ok (.if_icmp .ge 10, 3) := by decide +kernel
theorem dX9_order_5 : decode cX9_order 5 = .ok (.aload_n 0, 1) := by decide +kernel
theorem dX9_order_6 : decode cX9_order 6 = .ok (.ldc 74, 2) := by decide +kernel
theorem dX9_order_8 : decode cX9_order 8 = .ok (.invokevirtual 84, 3) := by decide +kernel
theorem dX9_order_11 : decode cX9_order 11 = .ok (.ireturn, 1) := by decide +kernel
theorem dX9_order_12 : decode cX9_order 12 = .ok (.aload_n 0, 1) := by decide +kernel
theorem dX9_order_13 : decode cX9_order 13 = .ok (.getfield 9, 3) := by decide +kernel
theorem dX9_order_16 : decode cX9_order 16 = .ok (.iconst 1, 1) := by decide +kernel
theorem dX9_order_17 : decode cX9_order 17 = .ok (.iaload, 1) := by decide +kernel
theorem dX9_order_18 : decode cX9_order 18 = .ok (.bipush 6, 2) := by decide +kernel
theorem dX9_order_20 : decode cX9_order 20 = .ok (.if_icmp .le 10, 3) := by decide +kernel
theorem dX9_order_23 : decode cX9_order 23 = .ok (.aload_n 0, 1) := by decide +kernel
theorem dX9_order_24 : decode cX9_order 24 = .ok (.ldc 187, 2) := by decide +kernel
theorem dX9_order_26 : decode cX9_order 26 = .ok (.invokevirtual 84, 3) := by decide +kernel
theorem dX9_order_29 : decode cX9_order 29 = .ok (.ireturn, 1) := by decide +kernel
theorem dX9_order_30 : decode cX9_order 30 = .ok (.iload_n 1, 1) := by decide +kernel
theorem dX9_order_31 : decode cX9_order 31 = .ok (.aload_n 0, 1) := by decide +kernel
theorem dX9_order_32 : decode cX9_order 32 = .ok (.getfield 9, 3) := by decide +kernel
theorem dX9_order_35 : decode cX9_order 35 = .ok (.iconst 1, 1) := by decide +kernel
theorem dX9_order_36 : decode cX9_order 36 = .ok (.iaload, 1) := by decide +kernel
theorem dX9_order_37 : decode cX9_order 37 = .ok (.if_icmp .lt 10, 3) := by decide +kernel
theorem dX9_order_40 : decode cX9_order 40 = .ok (.aload_n 0, 1) := by decide +kernel
theorem dX9_order_41 : decode cX9_order 41 = .ok (.ldc 150, 2) := by decide +kernel
theorem dX9_order_43 : decode cX9_order 43 = .ok (.invokevirtual 84, 3) := by decide +kernel
theorem dX9_order_46 : decode cX9_order 46 = .ok (.ireturn, 1) := by decide +kernel
theorem dX9_order_47 : decode cX9_order 47 = .ok (.aload_n 0, 1) := by decide +kernel
theorem dX9_order_48 : decode cX9_order 48 = .ok (.iconst (-1), 1) := by decide +kernel
theorem dX9_order_49 : decode cX9_order 49 = .ok (.putfield 180, 3) := by decide +kernel
theorem dX9_order_52 : decode cX9_order 52 = .ok (.aload_n 0, 1) := by decide +kernel
theorem dX9_order_53 : decode cX9_order 53 = .ok (.iconst 0, 1) := by decide +kernel
theorem dX9_order_54 : decode cX9_order 54 = .ok (.iconst 0, 1) := by decide +kernel
theorem dX9_order_55 : decode cX9_order 55 = .ok (.iconst 0, 1) := by decide +kernel
theorem dX9_order_56 : decode cX9_order 56 = .ok (.invokevirtual 183, 3) := by decide +kernel
theorem dX9_order_59 : decode cX9_order 59 = .ok (.iload_n 1, 1) := by decide +kernel
theorem dX9_order_60 : decode cX9_order 60 = .ok (.ifCond .ge 10, 3) := by decide +kernel
theorem dX9_order_63 : decode cX9_order 63 = .ok (.aload_n 0, 1) := by decide +kernel
theorem dX9_order_64 : decode cX9_order 64 = .ok (.getfield 180, 3) := by decide +kernel
theorem dX9_order_67 : decode cX9_order 67 = .ok (.goto 9, 3) := by decide +kernel
theorem dX9_order_70 : decode cX9_order 70 = .ok (.aload_n 0, 1) := by decide +kernel
theorem dX9_order_71 : decode cX9_order 71 = .ok (.getfield 29, 3) := by decide +kernel
theorem dX9_order_74 : decode cX9_order 74 = .ok (.iload_n 1, 1) := by decide +kernel
theorem dX9_order_75 : decode cX9_order 75 = .ok (.iaload, 1) := by decide +kernel
theorem dX9_order_76 : decode cX9_order 76 = .ok (.ireturn, 1) := by decide +kernel
def w_m_goOn_6 : List Cond := .code yX9_goOn cX9_goOn 5 none :: (([.fieldLink RX9 9 "LampShapesModel" "now" "[I", .fieldLink RX9 180 "LampShapesModel" "leastCost" "I", .fieldLink RX9 29 "LampShapesModel" "bestRow" "[I", .fieldLink RX9 26 "LampShapesModel" "row" "[I"] : List Cond) ++ wsX90)
set_option maxHeartbeats 4000000 in
set_option maxRecDepth 100000 in
theorem m_goOn_6 (l : Launch) (dC : Nat → ClassId) (dI : Nat → Nat → Nat) (ad : Nat → Nat) (h0 : Nat) (us : Int32) (cs : Int32) (a0 : Nat) (v1 : Value) (p0 : Nat) (v3 : Value) (v4 : Value) (v5 : Value) (v6 : Value) (w0 : Nat) (x0 : Nat) (lc : Int32) (v10 : Value) (v11 : Value) (v12 : Value) (v13 : Value) (v14 : Value) (v15 : Value) (v16 : Value) (v17 : Value) (v18 : Value) (v19 : Value) (v20 : Value) (v21 : Value) (v22 : Value) (v23 : Value) (v24 : Value) (v25 : Value) (v26 : Value) (v27 : Value) (ac : ClassId) (nf : Nat → Int32) (pc : ClassId) (pf : Nat → Int64) (wc : ClassId) (wf : Nat → Int32) (xc : ClassId) (xf : Nat → Int32) (sz : Nat) (hI : mI nf) (hm : 6 ≤ (nf 1).toInt ∧ (nf 1).toInt ≤ 6) (hw0 : 0 ≤ (wf 0).toInt ∧ (wf 0).toInt ≤ 6) (hw1 : 0 ≤ (wf 1).toInt ∧ (wf 1).toInt ≤ 6) (hw2 : 0 ≤ (wf 2).toInt ∧ (wf 2).toInt ≤ 6) (hw3 : 0 ≤ (wf 3).toInt ∧ (wf 3).toInt ≤ 6) (hw4 : 0 ≤ (wf 4).toInt ∧ (wf 4).toInt ≤ 6) (hw5 : 0 ≤ (wf 5).toInt ∧ (wf 5).toInt ≤ 6) : Met l yX9_goOn w_m_goOn_6 ({ frames := 0, cells := 0, slots := 0, locals := 0 } : Room) (va_Pc [.ref h0, .int 6, .int us, .int cs] (preM dC dI ad [(ac, .int), (pc, .long), (wc, .int), (xc, .int)] [(h0, .inr (7, [.ref a0, v1, .ref p0, v3, v4, v5, v6, .ref w0, .ref x0, .int lc, v10, v11, v12, v13, v14, v15, v16, v17, v18, v19, v20, v21, v22, v23, v24, v25, v26, v27])), (a0, .inl (ac, 38, .inl nf)), (p0, .inl (pc, 7, .inr (.inl pf))), (w0, .inl (wc, 7, .inl wf)), (x0, .inl (xc, 7, .inl xf))] sz)) (va_Qv (fun (_ : Unit) => True) (fun _ t => ∃ (lc2 : Int32), ∃ (wg : Nat → Int32), ∃ (xg : Nat → Int32), ((wg 0).toInt = (wf 0).toInt ∧ (wg 1).toInt = (wf 1).toInt ∧ (wg 2).toInt = (wf 2).toInt ∧ (wg 3).toInt = (wf 3).toInt ∧ (wg 4).toInt = (wf 4).toInt ∧ (wg 5).toInt = (wf 5).toInt) ∧ va_P (dC, dI) vwCl [(h0, .inr (7, [.ref a0, v1, .ref p0, v3, v4, v5, v6, .ref w0, .ref x0, .int lc2, v10, v11, v12, v13, v14, v15, v16, v17, v18, v19, v20, v21, v22, v23, v24, v25, v26, v27])), (a0, .inl (ac, 38, .inl nf)), (p0, .inl (pc, 7, .inr (.inl pf))), (w0, .inl (wc, 7, .inl wg)), (x0, .inl (xc, 7, .inl xg))] t.heap ∧ va_K (dC, dI) vwCl [(ac, .int), (pc, .long), (wc, .int), (xc, .int)] t ∧ va_D (va_A [(h0, .inr (7, [.ref a0, v1, .ref p0, v3, v4, v5, v6, .ref w0, .ref x0, .int lc, v10, v11, v12, v13, v14, v15, v16, v17, v18, v19, v20, v21, v22, v23, v24, v25, v26, v27])), (a0, .inl (ac, 38, .inl nf)), (p0, .inl (pc, 7, .inr (.inl pf))), (w0, .inl (wc, 7, .inl wf)), (x0, .inl (xc, 7, .inl xf))] sz) [(h0, .inr (7, [.ref a0, v1, .ref p0, v3, v4, v5, v6, .ref w0, .ref x0, .int lc2, v10, v11, v12, v13, v14, v15, v16, v17, v18, v19, v20, v21, v22, v23, v24, v25, v26, v27])), (a0, .inl (ac, 38, .inl nf)), (p0, .inl (pc, 7, .inr (.inl pf))), (w0, .inl (wc, 7, .inl wg)), (x0, .inl (xc, 7, .inl xg))]) (va_A [(h0, .inr (7, [.ref a0, v1, .ref p0, v3, v4, v5, v6, .ref w0, .ref x0, .int lc, v10, v11, v12, v13, v14, v15, v16, v17, v18, v19, v20, v21, v22, v23, v24, v25, v26, v27])), (a0, .inl (ac, 38, .inl nf)), (p0, .inl (pc, 7, .inr (.inl pf))), (w0, .inl (wc, 7, .inl wf)), (x0, .inl (xc, 7, .inl xf))] sz)) 0 0 (va_A [(h0, .inr (7, [.ref a0, v1, .ref p0, v3, v4, v5, v6, .ref w0, .ref x0, .int lc, v10, v11, v12, v13, v14, v15, v16, v17, v18, v19, v20, v21, v22, v23, v24, v25, v26, v27])), (a0, .inl (ac, 38, .inl nf)), (p0, .inl (pc, 7, .inr (.inl pf))), (w0, .inl (wc, 7, .inl wf)), (x0, .inl (xc, 7, .inl xf))] sz) := by
  refine Met.ofW (cc := cX9_goOn) (maxL := 5) (ret := none) (by decide) rfl ?_
  intro p e s m args below meth c s₁ B hml hv
  obtain ⟨rfl, hsz, hP, hK, hD0, hev⟩ := hv
  have hx := B.exec
  have hb := B.bytes
  have hr := B.returns
  have hts := atoms_spec (ws := w_m_goOn_6) B.pre
  have hown : s.vm.findClass RX9 = some m.cls := findClass_of_methodNamed B.named
  have hlocks := B.notSynchronized
  have inX9 : ∀ w ∈ wsX90, w ∈ w_m_goOn_6 := fun w h => List.mem_cons_of_mem _ (List.mem_append_right _ h)
  subst hsz
  have hD := hD0.self (sz := s.heap.size)
  generalize hAe : va_A [(h0, .inr (7, [.ref a0, v1, .ref p0, v3, v4, v5, v6, .ref w0, .ref x0, .int lc, v10, v11, v12, v13, v14, v15, v16, v17, v18, v19, v20, v21, v22, v23, v24, v25, v26, v27])), (a0, .inl (ac, 38, .inl nf)), (p0, .inl (pc, 7, .inr (.inl pf))), (w0, .inl (wc, 7, .inl wf)), (x0, .inl (xc, 7, .inl xf))] s.heap.size = A at hD ⊢
  have hA : ∀ q : Nat, s.heap.size ≤ q → A q := fun q h => by rw [← hAe]; exact Or.inr h
  have hS : va_S A s.heap s.heap [] := va_S.rf
  have hP : va_P (dC, dI) vwCl [(h0, .inr (7, [.ref a0, v1, .ref p0, v3, v4, v5, v6, .ref w0, .ref x0, .int lc, v10, v11, v12, v13, v14, v15, v16, v17, v18, v19, v20, v21, v22, v23, v24, v25, v26, v27])), (a0, .inl (ac, 38, .inl nf)), (p0, .inl (pc, 7, .inr (.inl pf))), (w0, .inl (wc, 7, .inl wf)), (x0, .inl (xc, 7, .inl xf))] s.heap := hP
  have hl := lv_entry ([.ref h0, .int 6, .int us, .int cs]) (n := 5) (Nat.le_of_ble_eq_true rfl)
  rw [lg_entry_eq]
  generalize (lg_sl ([.ref h0, .int 6, .int us, .int cs]) ++ List.replicate (5 - (lg_sl ([.ref h0, .int 6, .int us, .int cs])).length) Slot.unset).toArray = ls at hl ⊢
  have hl : lv_has ls 5 [(0, .ref h0), (1, .int 6), (2, .int us), (3, .int cs)] := hl
  refine lv_iload_n hx hb dX9_goOn_0 rfl (lv_at hl 1 rfl) ?_
  refine lv_aload_n hx hb dX9_goOn_1 rfl (lv_at hl 0 rfl) ?_
  refine va_get (D := (dC, dI)) (ci := 7) (v := .ref a0) (C := RX9) (T := TX9) (N := 28) hx hb hts inX9 hown hK hP 0 rfl rfl 0 (by decide) (hts _ (List.mem_of_getElem? (i := 1) rfl)) (fun _ h9 => h9) rfl dX9_goOn_2 ?_
  refine lv_iconst (v := 1) hx hb dX9_goOn_5 (by decide) ?_
  refine va_iald hx hb hK hP 1 0 rfl rfl (vp_in_nI (n := 1) (by decide) (by decide)) dX9_goOn_6 ?_
  refine pp_ti (y := nf 1) rfl ?_
  refine lv_topi (fun n_1 en_1 => ?_)
  have tn_1 : n_1.toInt = (nf 1).toInt ∧ 0 ≤ n_1.toInt ∧ n_1.toInt ≤ 7 := mI_r1 hI en_1
  clear en_1
  refine lv_icmp_ne (tgt := 60) hx hb dX9_goOn_7 (by decide) (fun c_2 => ?_) (fun c_2 => ?_)
  · skip
    have tc_2 : ¬ 6 = n_1.toInt := fun h => c_2 ((fa_eq _ _).mpr h)
    exfalso; omega
  · skip
    have tc_2 : 6 = n_1.toInt := (fa_eq _ _).mp c_2
    refine lv_aload_n hx hb dX9_goOn_10 rfl (lv_at hl 0 rfl) ?_
    refine va_get (D := (dC, dI)) (ci := 7) (v := .int lc) (C := RX9) (T := TX9) (N := 28) hx hb hts inX9 hown hK hP 0 rfl rfl 9 (by decide) (hts _ (List.mem_of_getElem? (i := 2) rfl)) (fun _ h9 => h9) rfl dX9_goOn_11 ?_
    refine lv_if_lt (tgt := 25) hx hb dX9_goOn_14 (by decide) (fun c_3 => ?_) (fun c_3 => ?_)
    · skip
      have tc_3 : lc.toInt < 0 := (fa_lt _ _).mp c_3
      refine lv_aload_n hx hb dX9_goOn_25 rfl (lv_at hl 0 rfl) ?_
      refine lv_iload_n hx hb dX9_goOn_26 rfl (lv_at hl 3 rfl) ?_
      refine va_put (D := (dC, dI)) (ci := 7) (v := .int cs) (ty := .int) (C := RX9) (T := TX9) (N := 28) hx hb hts inX9 tyX9 tyX9_ok nmX9 hown hK hP hD hS 0 rfl rfl 9 (by decide) (hts _ (List.mem_of_getElem? (i := 2) rfl)) (fun _ h9 => h9) rfl (by decide +kernel) rfl rfl (Nat.le_of_ble_eq_true rfl) dX9_goOn_27 (fun H locs hP hD hS => ?_)
      have hP : va_P (dC, dI) vwCl [(h0, .inr (7, [.ref a0, v1, .ref p0, v3, v4, v5, v6, .ref w0, .ref x0, .int cs, v10, v11, v12, v13, v14, v15, v16, v17, v18, v19, v20, v21, v22, v23, v24, v25, v26, v27])), (a0, .inl (ac, 38, .inl nf)), (p0, .inl (pc, 7, .inr (.inl pf))), (w0, .inl (wc, 7, .inl wf)), (x0, .inl (xc, 7, .inl xf))] H := hP
      have hD : va_D A [(h0, .inr (7, [.ref a0, v1, .ref p0, v3, v4, v5, v6, .ref w0, .ref x0, .int cs, v10, v11, v12, v13, v14, v15, v16, v17, v18, v19, v20, v21, v22, v23, v24, v25, v26, v27])), (a0, .inl (ac, 38, .inl nf)), (p0, .inl (pc, 7, .inr (.inl pf))), (w0, .inl (wc, 7, .inl wf)), (x0, .inl (xc, 7, .inl xf))] := hD
      refine lv_iconst (v := 0) hx hb dX9_goOn_30 (by decide) ?_
      refine lv_istore (lv' := [(4, .int 0), (0, .ref h0), (1, .int 6), (2, .int us), (3, .int cs)]) hx hb dX9_goOn_31 hl (by decide) rfl (fun ls hl => ?_)
      refine pp_loop (ι := Int32 × (Nat → Int32)) (fun ⟨v4_33, z8⟩ => (6 - v4_33.toInt).toNat) (fun ⟨v4_33, z8⟩ H locs ls => (0 ≤ v4_33.toInt) ∧ (v4_33.toInt ≤ 6) ∧ va_P (dC, dI) vwCl [(h0, .inr (7, [.ref a0, v1, .ref p0, v3, v4, v5, v6, .ref w0, .ref x0, .int cs, v10, v11, v12, v13, v14, v15, v16, v17, v18, v19, v20, v21, v22, v23, v24, v25, v26, v27])), (a0, .inl (ac, 38, .inl nf)), (p0, .inl (pc, 7, .inr (.inl pf))), (w0, .inl (wc, 7, .inl wf)), (x0, .inl (xc, 7, .inl z8))] H ∧ va_D A [(h0, .inr (7, [.ref a0, v1, .ref p0, v3, v4, v5, v6, .ref w0, .ref x0, .int cs, v10, v11, v12, v13, v14, v15, v16, v17, v18, v19, v20, v21, v22, v23, v24, v25, v26, v27])), (a0, .inl (ac, 38, .inl nf)), (p0, .inl (pc, 7, .inr (.inl pf))), (w0, .inl (wc, 7, .inl wf)), (x0, .inl (xc, 7, .inl z8))] ∧ va_S A s.heap H locs ∧ lv_has ls 5 [(4, .int v4_33), (0, .ref h0), (1, .int 6), (2, .int us), (3, .int cs)]) ?_ (0, xf) _ _ _ ⟨(by first | omega | decide | (simp only [fa_lt, fa_le, fa_eq, and_true, true_and, and_false, false_and, not_true_eq_false, not_false_eq_true, li_0, li_1, li_2, li_3, li_4, li_5, li_6, li_7, li_8, li_9, li_10, li_12, li_15, li_16, li_20, li_30, li_34, li_38, li_40, li_63, li_64, li_65, li_78, li_120, li_1000, li_4000, li_10000, li_11077, li_255, li_65535, li_m1, li_m2, li_m1000000001, li_m1000000002, li_m1000000003, li_m1000000004, li_m1000000005, li_m1000000006, li_m1000000007, or_true, true_or, or_false, false_or, implies_true, true_implies, false_implies] <;> omega)), (by first | omega | decide | (simp only [fa_lt, fa_le, fa_eq, and_true, true_and, and_false, false_and, not_true_eq_false, not_false_eq_true, li_0, li_1, li_2, li_3, li_4, li_5, li_6, li_7, li_8, li_9, li_10, li_12, li_15, li_16, li_20, li_30, li_34, li_38, li_40, li_63, li_64, li_65, li_78, li_120, li_1000, li_4000, li_10000, li_11077, li_255, li_65535, li_m1, li_m2, li_m1000000001, li_m1000000002, li_m1000000003, li_m1000000004, li_m1000000005, li_m1000000006, li_m1000000007, or_true, true_or, or_false, false_or, implies_true, true_implies, false_implies] <;> omega)), hP.sub [0, 1, 2, 3, 4] rfl, hD.sub [0, 1, 2, 3, 4] (by decide) rfl, hS, lv_sub hl [0, 1, 2, 3, 4] rfl⟩
      intro k_4 ihk_4 u H locs ls hm hI
      obtain ⟨v4_33, z8⟩ := u
      obtain ⟨jk_4_0, jk_4_1, hP, hD, hS, hl⟩ := hI
      have hmk_4 : (6 - v4_33.toInt).toNat < k_4 + 1 := hm
      clear hm
      have jk_4_0 : 0 ≤ v4_33.toInt := jk_4_0
      have jk_4_1 : v4_33.toInt ≤ 6 := jk_4_1
      have hl : lv_has ls 5 [(4, .int v4_33), (0, .ref h0), (1, .int 6), (2, .int us), (3, .int cs)] := hl
      have hP : va_P (dC, dI) vwCl [(h0, .inr (7, [.ref a0, v1, .ref p0, v3, v4, v5, v6, .ref w0, .ref x0, .int cs, v10, v11, v12, v13, v14, v15, v16, v17, v18, v19, v20, v21, v22, v23, v24, v25, v26, v27])), (a0, .inl (ac, 38, .inl nf)), (p0, .inl (pc, 7, .inr (.inl pf))), (w0, .inl (wc, 7, .inl wf)), (x0, .inl (xc, 7, .inl z8))] H := hP
      have hD : va_D A [(h0, .inr (7, [.ref a0, v1, .ref p0, v3, v4, v5, v6, .ref w0, .ref x0, .int cs, v10, v11, v12, v13, v14, v15, v16, v17, v18, v19, v20, v21, v22, v23, v24, v25, v26, v27])), (a0, .inl (ac, 38, .inl nf)), (p0, .inl (pc, 7, .inr (.inl pf))), (w0, .inl (wc, 7, .inl wf)), (x0, .inl (xc, 7, .inl z8))] := hD
      refine lv_iload hx hb dX9_goOn_33 (lv_at hl 0 rfl) ?_
      refine lv_iload_n hx hb dX9_goOn_35 rfl (lv_at hl 2 rfl) ?_
      refine lv_icmp_ge (tgt := 59) hx hb dX9_goOn_36 (by decide) (fun c_5 => ?_) (fun c_5 => ?_)
      · skip
        have tc_5 : 6 ≤ v4_33.toInt := (fa_le _ _).mp c_5
        have hP9 := hP.sub (ws' := [(h0, .inr (7, [.ref a0, v1, .ref p0, v3, v4, v5, v6, .ref w0, .ref x0, .int cs, v10, v11, v12, v13, v14, v15, v16, v17, v18, v19, v20, v21, v22, v23, v24, v25, v26, v27])), (a0, .inl (ac, 38, .inl nf)), (p0, .inl (pc, 7, .inr (.inl pf))), (w0, .inl (wc, 7, .inl wf)), (x0, .inl (xc, 7, .inl z8))]) [0, 1, 2, 3, 4] rfl
        have hD9 := hD.sub (ws' := [(h0, .inr (7, [.ref a0, v1, .ref p0, v3, v4, v5, v6, .ref w0, .ref x0, .int cs, v10, v11, v12, v13, v14, v15, v16, v17, v18, v19, v20, v21, v22, v23, v24, v25, v26, v27])), (a0, .inl (ac, 38, .inl nf)), (p0, .inl (pc, 7, .inr (.inl pf))), (w0, .inl (wc, 7, .inl wf)), (x0, .inl (xc, 7, .inl z8))]) [0, 1, 2, 3, 4] (by decide) rfl
        have hK9 := hK.sub (tys' := [(ac, .int), (pc, .long), (wc, .int), (xc, .int)]) [0, 1, 2, 3] rfl
        exact W.vret hx hb hr (fun t ht hW => ⟨⟨(), rfl, trivial, cs, wf, z8, (by first | omega | decide | (simp only [fa_lt, fa_le, fa_eq, and_true, true_and, and_false, false_and, not_true_eq_false, not_false_eq_true, li_0, li_1, li_2, li_3, li_4, li_5, li_6, li_7, li_8, li_9, li_10, li_12, li_15, li_16, li_20, li_30, li_34, li_38, li_40, li_63, li_64, li_65, li_78, li_120, li_1000, li_4000, li_10000, li_11077, li_255, li_65535, li_m1, li_m2, li_m1000000001, li_m1000000002, li_m1000000003, li_m1000000004, li_m1000000005, li_m1000000006, li_m1000000007, or_true, true_or, or_false, false_or, implies_true, true_implies, false_implies] <;> omega)), by rw [ht]; exact hP9, va_K.moved hW.alike hK9, hD9⟩, hS.F ht⟩) hS.2.2 dX9_goOn_59
      · skip
        have tc_5 : ¬ 6 ≤ v4_33.toInt := fun h => c_5 ((fa_le _ _).mpr h)
        refine lv_aload_n hx hb dX9_goOn_39 rfl (lv_at hl 1 rfl) ?_
        refine va_get (D := (dC, dI)) (ci := 7) (v := .ref x0) (C := RX9) (T := TX9) (N := 28) hx hb hts inX9 hown hK hP 0 rfl rfl 8 (by decide) (hts _ (List.mem_of_getElem? (i := 3) rfl)) (fun _ h9 => h9) rfl dX9_goOn_40 ?_
        refine lv_iload hx hb dX9_goOn_43 (lv_at hl 0 rfl) ?_
        refine lv_aload_n hx hb dX9_goOn_45 rfl (lv_at hl 1 rfl) ?_
        refine va_get (D := (dC, dI)) (ci := 7) (v := .ref w0) (C := RX9) (T := TX9) (N := 28) hx hb hts inX9 hown hK hP 0 rfl rfl 7 (by decide) (hts _ (List.mem_of_getElem? (i := 4) rfl)) (fun _ h9 => h9) rfl dX9_goOn_46 ?_
        refine lv_iload hx hb dX9_goOn_49 (lv_at hl 0 rfl) ?_
        refine va_iald hx hb hK hP 3 2 rfl rfl (vp_in_iff.mpr ⟨by omega, by omega⟩) dX9_goOn_51 ?_
        refine lv_topi (fun n_6 en_6 => ?_)
        clear en_6
        refine va_iast hx hb hK hP hD hS 4 3 rfl rfl (vp_in_iff.mpr ⟨by omega, by omega⟩) dX9_goOn_52 (fun H locs hP hD hS => ?_)
        have hP : va_P (dC, dI) vwCl [(h0, .inr (7, [.ref a0, v1, .ref p0, v3, v4, v5, v6, .ref w0, .ref x0, .int cs, v10, v11, v12, v13, v14, v15, v16, v17, v18, v19, v20, v21, v22, v23, v24, v25, v26, v27])), (a0, .inl (ac, 38, .inl nf)), (p0, .inl (pc, 7, .inr (.inl pf))), (w0, .inl (wc, 7, .inl wf)), (x0, .inl (xc, 7, .inl (upd z8 v4_33.toNatClampNeg n_6)))] H := hP
        have hD : va_D A [(h0, .inr (7, [.ref a0, v1, .ref p0, v3, v4, v5, v6, .ref w0, .ref x0, .int cs, v10, v11, v12, v13, v14, v15, v16, v17, v18, v19, v20, v21, v22, v23, v24, v25, v26, v27])), (a0, .inl (ac, 38, .inl nf)), (p0, .inl (pc, 7, .inr (.inl pf))), (w0, .inl (wc, 7, .inl wf)), (x0, .inl (xc, 7, .inl (upd z8 v4_33.toNatClampNeg n_6)))] := hD
        obtain ⟨n_7, en_7⟩ : ∃ y : Int32, y = v4_33 + 1 := ⟨_, rfl⟩
        have tn_7 : n_7.toInt = v4_33.toInt + 1 := pp_add en_7 rfl rfl (by omega) (by omega)
        refine lv_iinc (v := n_7) (lv' := [(4, .int n_7), (0, .ref h0), (1, .int 6), (2, .int us), (3, .int cs)]) hx hb dX9_goOn_53 hl (k := 0) rfl (by rw [en_7]; rfl) (by decide) rfl (fun ls hl => ?_)
        clear en_7
        refine lv_goto (tgt := 33) hx hb dX9_goOn_56 (by decide) ?_
        exact ihk_4 (n_7, (upd z8 v4_33.toNatClampNeg n_6)) _ _ _ (by show (6 - n_7.toInt).toNat < k_4; omega) ⟨(by first | omega | decide | (simp only [fa_lt, fa_le, fa_eq, and_true, true_and, and_false, false_and, not_true_eq_false, not_false_eq_true, li_0, li_1, li_2, li_3, li_4, li_5, li_6, li_7, li_8, li_9, li_10, li_12, li_15, li_16, li_20, li_30, li_34, li_38, li_40, li_63, li_64, li_65, li_78, li_120, li_1000, li_4000, li_10000, li_11077, li_255, li_65535, li_m1, li_m2, li_m1000000001, li_m1000000002, li_m1000000003, li_m1000000004, li_m1000000005, li_m1000000006, li_m1000000007, or_true, true_or, or_false, false_or, implies_true, true_implies, false_implies] <;> omega)), (by first | omega | decide | (simp only [fa_lt, fa_le, fa_eq, and_true, true_and, and_false, false_and, not_true_eq_false, not_false_eq_true, li_0, li_1, li_2, li_3, li_4, li_5, li_6, li_7, li_8, li_9, li_10, li_12, li_15, li_16, li_20, li_30, li_34, li_38, li_40, li_63, li_64, li_65, li_78, li_120, li_1000, li_4000, li_10000, li_11077, li_255, li_65535, li_m1, li_m2, li_m1000000001, li_m1000000002, li_m1000000003, li_m1000000004, li_m1000000005, li_m1000000006, li_m1000000007, or_true, true_or, or_false, false_or, implies_true, true_implies, false_implies] <;> omega)), hP.sub [0, 1, 2, 3, 4] rfl, hD.sub [0, 1, 2, 3, 4] (by decide) rfl, hS, lv_sub hl [0, 1, 2, 3, 4] rfl⟩
    · skip
      have tc_3 : ¬ lc.toInt < 0 := fun h => c_3 ((fa_lt _ _).mpr h)
      refine lv_iload_n hx hb dX9_goOn_17 rfl (lv_at hl 3 rfl) ?_
      refine lv_aload_n hx hb dX9_goOn_18 rfl (lv_at hl 0 rfl) ?_
      refine va_get (D := (dC, dI)) (ci := 7) (v := .int lc) (C := RX9) (T := TX9) (N := 28) hx hb hts inX9 hown hK hP 0 rfl rfl 9 (by decide) (hts _ (List.mem_of_getElem? (i := 2) rfl)) (fun _ h9 => h9) rfl dX9_goOn_19 ?_
      have rc_8_x := pp_rng cs
      have rc_8_y := pp_rng lc
      refine lv_icmp_ge (tgt := 59) hx hb dX9_goOn_22 (by decide) (fun c_8 => ?_) (fun c_8 => ?_)
      · skip
        have tc_8 : lc.toInt ≤ cs.toInt := (fa_le _ _).mp c_8
        have hP9 := hP.sub (ws' := [(h0, .inr (7, [.ref a0, v1, .ref p0, v3, v4, v5, v6, .ref w0, .ref x0, .int lc, v10, v11, v12, v13, v14, v15, v16, v17, v18, v19, v20, v21, v22, v23, v24, v25, v26, v27])), (a0, .inl (ac, 38, .inl nf)), (p0, .inl (pc, 7, .inr (.inl pf))), (w0, .inl (wc, 7, .inl wf)), (x0, .inl (xc, 7, .inl xf))]) [0, 1, 2, 3, 4] rfl
        have hD9 := hD.sub (ws' := [(h0, .inr (7, [.ref a0, v1, .ref p0, v3, v4, v5, v6, .ref w0, .ref x0, .int lc, v10, v11, v12, v13, v14, v15, v16, v17, v18, v19, v20, v21, v22, v23, v24, v25, v26, v27])), (a0, .inl (ac, 38, .inl nf)), (p0, .inl (pc, 7, .inr (.inl pf))), (w0, .inl (wc, 7, .inl wf)), (x0, .inl (xc, 7, .inl xf))]) [0, 1, 2, 3, 4] (by decide) rfl
        have hK9 := hK.sub (tys' := [(ac, .int), (pc, .long), (wc, .int), (xc, .int)]) [0, 1, 2, 3] rfl
        exact W.vret hx hb hr (fun t ht hW => ⟨⟨(), rfl, trivial, lc, wf, xf, (by first | omega | decide | (simp only [fa_lt, fa_le, fa_eq, and_true, true_and, and_false, false_and, not_true_eq_false, not_false_eq_true, li_0, li_1, li_2, li_3, li_4, li_5, li_6, li_7, li_8, li_9, li_10, li_12, li_15, li_16, li_20, li_30, li_34, li_38, li_40, li_63, li_64, li_65, li_78, li_120, li_1000, li_4000, li_10000, li_11077, li_255, li_65535, li_m1, li_m2, li_m1000000001, li_m1000000002, li_m1000000003, li_m1000000004, li_m1000000005, li_m1000000006, li_m1000000007, or_true, true_or, or_false, false_or, implies_true, true_implies, false_implies] <;> omega)), by rw [ht]; exact hP9, va_K.moved hW.alike hK9, hD9⟩, hS.F ht⟩) hS.2.2 dX9_goOn_59
      · skip
        have tc_8 : ¬ lc.toInt ≤ cs.toInt := fun h => c_8 ((fa_le _ _).mpr h)
        refine lv_aload_n hx hb dX9_goOn_25 rfl (lv_at hl 0 rfl) ?_
        refine lv_iload_n hx hb dX9_goOn_26 rfl (lv_at hl 3 rfl) ?_
        refine va_put (D := (dC, dI)) (ci := 7) (v := .int cs) (ty := .int) (C := RX9) (T := TX9) (N := 28) hx hb hts inX9 tyX9 tyX9_ok nmX9 hown hK hP hD hS 0 rfl rfl 9 (by decide) (hts _ (List.mem_of_getElem? (i := 2) rfl)) (fun _ h9 => h9) rfl (by decide +kernel) rfl rfl (Nat.le_of_ble_eq_true rfl) dX9_goOn_27 (fun H locs hP hD hS => ?_)
        have hP : va_P (dC, dI) vwCl [(h0, .inr (7, [.ref a0, v1, .ref p0, v3, v4, v5, v6, .ref w0, .ref x0, .int cs, v10, v11, v12, v13, v14, v15, v16, v17, v18, v19, v20, v21, v22, v23, v24, v25, v26, v27])), (a0, .inl (ac, 38, .inl nf)), (p0, .inl (pc, 7, .inr (.inl pf))), (w0, .inl (wc, 7, .inl wf)), (x0, .inl (xc, 7, .inl xf))] H := hP
        have hD : va_D A [(h0, .inr (7, [.ref a0, v1, .ref p0, v3, v4, v5, v6, .ref w0, .ref x0, .int cs, v10, v11, v12, v13, v14, v15, v16, v17, v18, v19, v20, v21, v22, v23, v24, v25, v26, v27])), (a0, .inl (ac, 38, .inl nf)), (p0, .inl (pc, 7, .inr (.inl pf))), (w0, .inl (wc, 7, .inl wf)), (x0, .inl (xc, 7, .inl xf))] := hD
        refine lv_iconst (v := 0) hx hb dX9_goOn_30 (by decide) ?_
        refine lv_istore (lv' := [(4, .int 0), (0, .ref h0), (1, .int 6), (2, .int us), (3, .int cs)]) hx hb dX9_goOn_31 hl (by decide) rfl (fun ls hl => ?_)
        refine pp_loop (ι := Int32 × (Nat → Int32)) (fun ⟨v4_33, z8⟩ => (6 - v4_33.toInt).toNat) (fun ⟨v4_33, z8⟩ H locs ls => (0 ≤ v4_33.toInt) ∧ (v4_33.toInt ≤ 6) ∧ va_P (dC, dI) vwCl [(h0, .inr (7, [.ref a0, v1, .ref p0, v3, v4, v5, v6, .ref w0, .ref x0, .int cs, v10, v11, v12, v13, v14, v15, v16, v17, v18, v19, v20, v21, v22, v23, v24, v25, v26, v27])), (a0, .inl (ac, 38, .inl nf)), (p0, .inl (pc, 7, .inr (.inl pf))), (w0, .inl (wc, 7, .inl wf)), (x0, .inl (xc, 7, .inl z8))] H ∧ va_D A [(h0, .inr (7, [.ref a0, v1, .ref p0, v3, v4, v5, v6, .ref w0, .ref x0, .int cs, v10, v11, v12, v13, v14, v15, v16, v17, v18, v19, v20, v21, v22, v23, v24, v25, v26, v27])), (a0, .inl (ac, 38, .inl nf)), (p0, .inl (pc, 7, .inr (.inl pf))), (w0, .inl (wc, 7, .inl wf)), (x0, .inl (xc, 7, .inl z8))] ∧ va_S A s.heap H locs ∧ lv_has ls 5 [(4, .int v4_33), (0, .ref h0), (1, .int 6), (2, .int us), (3, .int cs)]) ?_ (0, xf) _ _ _ ⟨(by first | omega | decide | (simp only [fa_lt, fa_le, fa_eq, and_true, true_and, and_false, false_and, not_true_eq_false, not_false_eq_true, li_0, li_1, li_2, li_3, li_4, li_5, li_6, li_7, li_8, li_9, li_10, li_12, li_15, li_16, li_20, li_30, li_34, li_38, li_40, li_63, li_64, li_65, li_78, li_120, li_1000, li_4000, li_10000, li_11077, li_255, li_65535, li_m1, li_m2, li_m1000000001, li_m1000000002, li_m1000000003, li_m1000000004, li_m1000000005, li_m1000000006, li_m1000000007, or_true, true_or, or_false, false_or, implies_true, true_implies, false_implies] <;> omega)), (by first | omega | decide | (simp only [fa_lt, fa_le, fa_eq, and_true, true_and, and_false, false_and, not_true_eq_false, not_false_eq_true, li_0, li_1, li_2, li_3, li_4, li_5, li_6, li_7, li_8, li_9, li_10, li_12, li_15, li_16, li_20, li_30, li_34, li_38, li_40, li_63, li_64, li_65, li_78, li_120, li_1000, li_4000, li_10000, li_11077, li_255, li_65535, li_m1, li_m2, li_m1000000001, li_m1000000002, li_m1000000003, li_m1000000004, li_m1000000005, li_m1000000006, li_m1000000007, or_true, true_or, or_false, false_or, implies_true, true_implies, false_implies] <;> omega)), hP.sub [0, 1, 2, 3, 4] rfl, hD.sub [0, 1, 2, 3, 4] (by decide) rfl, hS, lv_sub hl [0, 1, 2, 3, 4] rfl⟩
        intro k_9 ihk_9 u H locs ls hm hI
        obtain ⟨v4_33, z8⟩ := u
        obtain ⟨jk_9_0, jk_9_1, hP, hD, hS, hl⟩ := hI
        have hmk_9 : (6 - v4_33.toInt).toNat < k_9 + 1 := hm
        clear hm
        have jk_9_0 : 0 ≤ v4_33.toInt := jk_9_0
        have jk_9_1 : v4_33.toInt ≤ 6 := jk_9_1
        have hl : lv_has ls 5 [(4, .int v4_33), (0, .ref h0), (1, .int 6), (2, .int us), (3, .int cs)] := hl
        have hP : va_P (dC, dI) vwCl [(h0, .inr (7, [.ref a0, v1, .ref p0, v3, v4, v5, v6, .ref w0, .ref x0, .int cs, v10, v11, v12, v13, v14, v15, v16, v17, v18, v19, v20, v21, v22, v23, v24, v25, v26, v27])), (a0, .inl (ac, 38, .inl nf)), (p0, .inl (pc, 7, .inr (.inl pf))), (w0, .inl (wc, 7, .inl wf)), (x0, .inl (xc, 7, .inl z8))] H := hP
        have hD : va_D A [(h0, .inr (7, [.ref a0, v1, .ref p0, v3, v4, v5, v6, .ref w0, .ref x0, .int cs, v10, v11, v12, v13, v14, v15, v16, v17, v18, v19, v20, v21, v22, v23, v24, v25, v26, v27])), (a0, .inl (ac, 38, .inl nf)), (p0, .inl (pc, 7, .inr (.inl pf))), (w0, .inl (wc, 7, .inl wf)), (x0, .inl (xc, 7, .inl z8))] := hD
        refine lv_iload hx hb dX9_goOn_33 (lv_at hl 0 rfl) ?_
        refine lv_iload_n hx hb dX9_goOn_35 rfl (lv_at hl 2 rfl) ?_
        refine lv_icmp_ge (tgt := 59) hx hb dX9_goOn_36 (by decide) (fun c_10 => ?_) (fun c_10 => ?_)
        · skip
          have tc_10 : 6 ≤ v4_33.toInt := (fa_le _ _).mp c_10
          have hP9 := hP.sub (ws' := [(h0, .inr (7, [.ref a0, v1, .ref p0, v3, v4, v5, v6, .ref w0, .ref x0, .int cs, v10, v11, v12, v13, v14, v15, v16, v17, v18, v19, v20, v21, v22, v23, v24, v25, v26, v27])), (a0, .inl (ac, 38, .inl nf)), (p0, .inl (pc, 7, .inr (.inl pf))), (w0, .inl (wc, 7, .inl wf)), (x0, .inl (xc, 7, .inl z8))]) [0, 1, 2, 3, 4] rfl
          have hD9 := hD.sub (ws' := [(h0, .inr (7, [.ref a0, v1, .ref p0, v3, v4, v5, v6, .ref w0, .ref x0, .int cs, v10, v11, v12, v13, v14, v15, v16, v17, v18, v19, v20, v21, v22, v23, v24, v25, v26, v27])), (a0, .inl (ac, 38, .inl nf)), (p0, .inl (pc, 7, .inr (.inl pf))), (w0, .inl (wc, 7, .inl wf)), (x0, .inl (xc, 7, .inl z8))]) [0, 1, 2, 3, 4] (by decide) rfl
          have hK9 := hK.sub (tys' := [(ac, .int), (pc, .long), (wc, .int), (xc, .int)]) [0, 1, 2, 3] rfl
          exact W.vret hx hb hr (fun t ht hW => ⟨⟨(), rfl, trivial, cs, wf, z8, (by first | omega | decide | (simp only [fa_lt, fa_le, fa_eq, and_true, true_and, and_false, false_and, not_true_eq_false, not_false_eq_true, li_0, li_1, li_2, li_3, li_4, li_5, li_6, li_7, li_8, li_9, li_10, li_12, li_15, li_16, li_20, li_30, li_34, li_38, li_40, li_63, li_64, li_65, li_78, li_120, li_1000, li_4000, li_10000, li_11077, li_255, li_65535, li_m1, li_m2, li_m1000000001, li_m1000000002, li_m1000000003, li_m1000000004, li_m1000000005, li_m1000000006, li_m1000000007, or_true, true_or, or_false, false_or, implies_true, true_implies, false_implies] <;> omega)), by rw [ht]; exact hP9, va_K.moved hW.alike hK9, hD9⟩, hS.F ht⟩) hS.2.2 dX9_goOn_59
        · skip
          have tc_10 : ¬ 6 ≤ v4_33.toInt := fun h => c_10 ((fa_le _ _).mpr h)
          refine lv_aload_n hx hb dX9_goOn_39 rfl (lv_at hl 1 rfl) ?_
          refine va_get (D := (dC, dI)) (ci := 7) (v := .ref x0) (C := RX9) (T := TX9) (N := 28) hx hb hts inX9 hown hK hP 0 rfl rfl 8 (by decide) (hts _ (List.mem_of_getElem? (i := 3) rfl)) (fun _ h9 => h9) rfl dX9_goOn_40 ?_
          refine lv_iload hx hb dX9_goOn_43 (lv_at hl 0 rfl) ?_
          refine lv_aload_n hx hb dX9_goOn_45 rfl (lv_at hl 1 rfl) ?_
          refine va_get (D := (dC, dI)) (ci := 7) (v := .ref w0) (C := RX9) (T := TX9) (N := 28) hx hb hts inX9 hown hK hP 0 rfl rfl 7 (by decide) (hts _ (List.mem_of_getElem? (i := 4) rfl)) (fun _ h9 => h9) rfl dX9_goOn_46 ?_
          refine lv_iload hx hb dX9_goOn_49 (lv_at hl 0 rfl) ?_
          refine va_iald hx hb hK hP 3 2 rfl rfl (vp_in_iff.mpr ⟨by omega, by omega⟩) dX9_goOn_51 ?_
          refine lv_topi (fun n_11 en_11 => ?_)
          clear en_11
          refine va_iast hx hb hK hP hD hS 4 3 rfl rfl (vp_in_iff.mpr ⟨by omega, by omega⟩) dX9_goOn_52 (fun H locs hP hD hS => ?_)
          have hP : va_P (dC, dI) vwCl [(h0, .inr (7, [.ref a0, v1, .ref p0, v3, v4, v5, v6, .ref w0, .ref x0, .int cs, v10, v11, v12, v13, v14, v15, v16, v17, v18, v19, v20, v21, v22, v23, v24, v25, v26, v27])), (a0, .inl (ac, 38, .inl nf)), (p0, .inl (pc, 7, .inr (.inl pf))), (w0, .inl (wc, 7, .inl wf)), (x0, .inl (xc, 7, .inl (upd z8 v4_33.toNatClampNeg n_11)))] H := hP
          have hD : va_D A [(h0, .inr (7, [.ref a0, v1, .ref p0, v3, v4, v5, v6, .ref w0, .ref x0, .int cs, v10, v11, v12, v13, v14, v15, v16, v17, v18, v19, v20, v21, v22, v23, v24, v25, v26, v27])), (a0, .inl (ac, 38, .inl nf)), (p0, .inl (pc, 7, .inr (.inl pf))), (w0, .inl (wc, 7, .inl wf)), (x0, .inl (xc, 7, .inl (upd z8 v4_33.toNatClampNeg n_11)))] := hD
          obtain ⟨n_12, en_12⟩ : ∃ y : Int32, y = v4_33 + 1 := ⟨_, rfl⟩
          have tn_12 : n_12.toInt = v4_33.toInt + 1 := pp_add en_12 rfl rfl (by omega) (by omega)
          refine lv_iinc (v := n_12) (lv' := [(4, .int n_12), (0, .ref h0), (1, .int 6), (2, .int us), (3, .int cs)]) hx hb dX9_goOn_53 hl (k := 0) rfl (by rw [en_12]; rfl) (by decide) rfl (fun ls hl => ?_)
          clear en_12
          refine lv_goto (tgt := 33) hx hb dX9_goOn_56 (by decide) ?_
          exact ihk_9 (n_12, (upd z8 v4_33.toNatClampNeg n_11)) _ _ _ (by show (6 - n_12.toInt).toNat < k_9; omega) ⟨(by first | omega | decide | (simp only [fa_lt, fa_le, fa_eq, and_true, true_and, and_false, false_and, not_true_eq_false, not_false_eq_true, li_0, li_1, li_2, li_3, li_4, li_5, li_6, li_7, li_8, li_9, li_10, li_12, li_15, li_16, li_20, li_30, li_34, li_38, li_40, li_63, li_64, li_65, li_78, li_120, li_1000, li_4000, li_10000, li_11077, li_255, li_65535, li_m1, li_m2, li_m1000000001, li_m1000000002, li_m1000000003, li_m1000000004, li_m1000000005, li_m1000000006, li_m1000000007, or_true, true_or, or_false, false_or, implies_true, true_implies, false_implies] <;> omega)), (by first | omega | decide | (simp only [fa_lt, fa_le, fa_eq, and_true, true_and, and_false, false_and, not_true_eq_false, not_false_eq_true, li_0, li_1, li_2, li_3, li_4, li_5, li_6, li_7, li_8, li_9, li_10, li_12, li_15, li_16, li_20, li_30, li_34, li_38, li_40, li_63, li_64, li_65, li_78, li_120, li_1000, li_4000, li_10000, li_11077, li_255, li_65535, li_m1, li_m2, li_m1000000001, li_m1000000002, li_m1000000003, li_m1000000004, li_m1000000005, li_m1000000006, li_m1000000007, or_true, true_or, or_false, false_or, implies_true, true_implies, false_implies] <;> omega)), hP.sub [0, 1, 2, 3, 4] rfl, hD.sub [0, 1, 2, 3, 4] (by decide) rfl, hS, lv_sub hl [0, 1, 2, 3, 4] rfl⟩

def w_m_goOn_5 : List Cond := .code yX9_goOn cX9_goOn 5 none :: (([.fieldLink RX9 9 "LampShapesModel" "now" "[I", .fieldLink RX9 26 "LampShapesModel" "row" "[I", .methodLink RX9 161 yX9_changesOf, .instanceMethod yX9_changesOf, .selects RX9 yX9_changesOf yX9_changesOf, .initialized RX9, .code yX9_changesOf cX9_changesOf 3 (some .int), .fieldLink RX9 16 "LampShapesModel" "pictures" "[J", .methodLink RX9 158 yX9_bits, .static yX9_bits, .code yX9_bits cX9_bits 5 (some .int), .methodLink RX9 183 yX9_goOn, .instanceMethod yX9_goOn, .selects RX9 yX9_goOn yX9_goOn, .code yX9_goOn cX9_goOn 5 none, .fieldLink RX9 180 "LampShapesModel" "leastCost" "I", .fieldLink RX9 29 "LampShapesModel" "bestRow" "[I"] : List Cond) ++ wsX90)
set_option maxRecDepth 20000 in
theorem g_m_goOn_5_m_changesOf_161 : GoodIn w_m_goOn_5 (wsV RX9 161 RX9 yX9_changesOf w_m_changesOf) := goodIn_r _ [3, 4, 5, 6, 7, 8, 9, 10, 6, 11, 18, 19, 20, 21, 22, 23, 24, 25, 26, 27, 28, 29, 30, 31, 32, 33, 34, 35, 36, 37, 38, 39, 40, 41, 42, 43, 44, 45] rfl (by decide +kernel)
set_option maxRecDepth 20000 in
theorem g_m_goOn_5_m_goOn_6_183 : GoodIn w_m_goOn_5 (wsV RX9 183 RX9 yX9_goOn w_m_goOn_6) := goodIn_r _ [12, 13, 14, 6, 0, 1, 16, 17, 2, 18, 19, 20, 21, 22, 23, 24, 25, 26, 27, 28, 29, 30, 31, 32, 33, 34, 35, 36, 37, 38, 39, 40, 41, 42, 43, 44, 45] rfl (by decide +kernel)
set_option maxHeartbeats 4000000 in
set_option maxRecDepth 100000 in
theorem m_goOn_5 (l : Launch) (dC : Nat → ClassId) (dI : Nat → Nat → Nat) (ad : Nat → Nat) (h0 : Nat) (us : Int32) (cs : Int32) (a0 : Nat) (v1 : Value) (p0 : Nat) (v3 : Value) (v4 : Value) (v5 : Value) (v6 : Value) (w0 : Nat) (x0 : Nat) (lc : Int32) (v10 : Value) (v11 : Value) (v12 : Value) (v13 : Value) (v14 : Value) (v15 : Value) (v16 : Value) (v17 : Value) (v18 : Value) (v19 : Value) (v20 : Value) (v21 : Value) (v22 : Value) (v23 : Value) (v24 : Value) (v25 : Value) (v26 : Value) (v27 : Value) (ac : ClassId) (nf : Nat → Int32) (pc : ClassId) (pf : Nat → Int64) (wc : ClassId) (wf : Nat → Int32) (xc : ClassId) (xf : Nat → Int32) (sz : Nat) (hI : mI nf) (hm : 5 ≤ (nf 1).toInt ∧ (nf 1).toInt ≤ 6) (hw0 : 0 ≤ (wf 0).toInt ∧ (wf 0).toInt ≤ 6) (hw1 : 0 ≤ (wf 1).toInt ∧ (wf 1).toInt ≤ 6) (hw2 : 0 ≤ (wf 2).toInt ∧ (wf 2).toInt ≤ 6) (hw3 : 0 ≤ (wf 3).toInt ∧ (wf 3).toInt ≤ 6) (hw4 : 0 ≤ (wf 4).toInt ∧ (wf 4).toInt ≤ 6) : Met l yX9_goOn w_m_goOn_5 ({ frames := 2, cells := 0, slots := 0, locals := 46 } : Room) (va_Pc [.ref h0, .int 5, .int us, .int cs] (preM dC dI ad [(ac, .int), (pc, .long), (wc, .int), (xc, .int)] [(h0, .inr (7, [.ref a0, v1, .ref p0, v3, v4, v5, v6, .ref w0, .ref x0, .int lc, v10, v11, v12, v13, v14, v15, v16, v17, v18, v19, v20, v21, v22, v23, v24, v25, v26, v27])), (a0, .inl (ac, 38, .inl nf)), (p0, .inl (pc, 7, .inr (.inl pf))), (w0, .inl (wc, 7, .inl wf)), (x0, .inl (xc, 7, .inl xf))] sz)) (va_Qv (fun (_ : Unit) => True) (fun _ t => ∃ (lc2 : Int32), ∃ (wg : Nat → Int32), ∃ (xg : Nat → Int32), ((wg 0).toInt = (wf 0).toInt ∧ (wg 1).toInt = (wf 1).toInt ∧ (wg 2).toInt = (wf 2).toInt ∧ (wg 3).toInt = (wf 3).toInt ∧ (wg 4).toInt = (wf 4).toInt) ∧ va_P (dC, dI) vwCl [(h0, .inr (7, [.ref a0, v1, .ref p0, v3, v4, v5, v6, .ref w0, .ref x0, .int lc2, v10, v11, v12, v13, v14, v15, v16, v17, v18, v19, v20, v21, v22, v23, v24, v25, v26, v27])), (a0, .inl (ac, 38, .inl nf)), (p0, .inl (pc, 7, .inr (.inl pf))), (w0, .inl (wc, 7, .inl wg)), (x0, .inl (xc, 7, .inl xg))] t.heap ∧ va_K (dC, dI) vwCl [(ac, .int), (pc, .long), (wc, .int), (xc, .int)] t ∧ va_D (va_A [(h0, .inr (7, [.ref a0, v1, .ref p0, v3, v4, v5, v6, .ref w0, .ref x0, .int lc, v10, v11, v12, v13, v14, v15, v16, v17, v18, v19, v20, v21, v22, v23, v24, v25, v26, v27])), (a0, .inl (ac, 38, .inl nf)), (p0, .inl (pc, 7, .inr (.inl pf))), (w0, .inl (wc, 7, .inl wf)), (x0, .inl (xc, 7, .inl xf))] sz) [(h0, .inr (7, [.ref a0, v1, .ref p0, v3, v4, v5, v6, .ref w0, .ref x0, .int lc2, v10, v11, v12, v13, v14, v15, v16, v17, v18, v19, v20, v21, v22, v23, v24, v25, v26, v27])), (a0, .inl (ac, 38, .inl nf)), (p0, .inl (pc, 7, .inr (.inl pf))), (w0, .inl (wc, 7, .inl wg)), (x0, .inl (xc, 7, .inl xg))]) (va_A [(h0, .inr (7, [.ref a0, v1, .ref p0, v3, v4, v5, v6, .ref w0, .ref x0, .int lc, v10, v11, v12, v13, v14, v15, v16, v17, v18, v19, v20, v21, v22, v23, v24, v25, v26, v27])), (a0, .inl (ac, 38, .inl nf)), (p0, .inl (pc, 7, .inr (.inl pf))), (w0, .inl (wc, 7, .inl wf)), (x0, .inl (xc, 7, .inl xf))] sz)) 0 0 (va_A [(h0, .inr (7, [.ref a0, v1, .ref p0, v3, v4, v5, v6, .ref w0, .ref x0, .int lc, v10, v11, v12, v13, v14, v15, v16, v17, v18, v19, v20, v21, v22, v23, v24, v25, v26, v27])), (a0, .inl (ac, 38, .inl nf)), (p0, .inl (pc, 7, .inr (.inl pf))), (w0, .inl (wc, 7, .inl wf)), (x0, .inl (xc, 7, .inl xf))] sz) := by
  refine Met.ofW (cc := cX9_goOn) (maxL := 5) (ret := none) (by decide) rfl ?_
  intro p e s m args below meth c s₁ B hml hv
  obtain ⟨rfl, hsz, hP, hK, hD0, hev⟩ := hv
  have hx := B.exec
  have hb := B.bytes
  have hr := B.returns
  have hts := atoms_spec (ws := w_m_goOn_5) B.pre
  have hown : s.vm.findClass RX9 = some m.cls := findClass_of_methodNamed B.named
  have hlocks := B.notSynchronized
  have inX9 : ∀ w ∈ wsX90, w ∈ w_m_goOn_5 := fun w h => List.mem_cons_of_mem _ (List.mem_append_right _ h)
  subst hsz
  have hD := hD0.self (sz := s.heap.size)
  generalize hAe : va_A [(h0, .inr (7, [.ref a0, v1, .ref p0, v3, v4, v5, v6, .ref w0, .ref x0, .int lc, v10, v11, v12, v13, v14, v15, v16, v17, v18, v19, v20, v21, v22, v23, v24, v25, v26, v27])), (a0, .inl (ac, 38, .inl nf)), (p0, .inl (pc, 7, .inr (.inl pf))), (w0, .inl (wc, 7, .inl wf)), (x0, .inl (xc, 7, .inl xf))] s.heap.size = A at hD ⊢
  have hA : ∀ q : Nat, s.heap.size ≤ q → A q := fun q h => by rw [← hAe]; exact Or.inr h
  have hS : va_S A s.heap s.heap [] := va_S.rf
  have hP : va_P (dC, dI) vwCl [(h0, .inr (7, [.ref a0, v1, .ref p0, v3, v4, v5, v6, .ref w0, .ref x0, .int lc, v10, v11, v12, v13, v14, v15, v16, v17, v18, v19, v20, v21, v22, v23, v24, v25, v26, v27])), (a0, .inl (ac, 38, .inl nf)), (p0, .inl (pc, 7, .inr (.inl pf))), (w0, .inl (wc, 7, .inl wf)), (x0, .inl (xc, 7, .inl xf))] s.heap := hP
  have hl := lv_entry ([.ref h0, .int 5, .int us, .int cs]) (n := 5) (Nat.le_of_ble_eq_true rfl)
  rw [lg_entry_eq]
  generalize (lg_sl ([.ref h0, .int 5, .int us, .int cs]) ++ List.replicate (5 - (lg_sl ([.ref h0, .int 5, .int us, .int cs])).length) Slot.unset).toArray = ls at hl ⊢
  have hl : lv_has ls 5 [(0, .ref h0), (1, .int 5), (2, .int us), (3, .int cs)] := hl
  refine lv_iload_n hx hb dX9_goOn_0 rfl (lv_at hl 1 rfl) ?_
  refine lv_aload_n hx hb dX9_goOn_1 rfl (lv_at hl 0 rfl) ?_
  refine va_get (D := (dC, dI)) (ci := 7) (v := .ref a0) (C := RX9) (T := TX9) (N := 28) hx hb hts inX9 hown hK hP 0 rfl rfl 0 (by decide) (hts _ (List.mem_of_getElem? (i := 1) rfl)) (fun _ h9 => h9) rfl dX9_goOn_2 ?_
  refine lv_iconst (v := 1) hx hb dX9_goOn_5 (by decide) ?_
  refine va_iald hx hb hK hP 1 0 rfl rfl (vp_in_nI (n := 1) (by decide) (by decide)) dX9_goOn_6 ?_
  refine pp_ti (y := nf 1) rfl ?_
  refine lv_topi (fun n_1 en_1 => ?_)
  have tn_1 : n_1.toInt = (nf 1).toInt ∧ 0 ≤ n_1.toInt ∧ n_1.toInt ≤ 7 := mI_r1 hI en_1
  clear en_1
  refine lv_icmp_ne (tgt := 60) hx hb dX9_goOn_7 (by decide) (fun c_2 => ?_) (fun c_2 => ?_)
  · skip
    have tc_2 : ¬ 5 = n_1.toInt := fun h => c_2 ((fa_eq _ _).mpr h)
    refine lv_iconst (v := 0) hx hb dX9_goOn_60 (by decide) ?_
    refine lv_istore (lv' := [(4, .int 0), (0, .ref h0), (1, .int 5), (2, .int us), (3, .int cs)]) hx hb dX9_goOn_61 hl (by decide) rfl (fun ls hl => ?_)
    refine pp_loop (ι := Int32 × Int32 × (Nat → Int32) × (Nat → Int32)) (fun ⟨v4_63, y9, y7, y8⟩ => ((nf 1).toInt - v4_63.toInt).toNat) (fun ⟨v4_63, y9, y7, y8⟩ H locs ls => ((y7 0).toInt = (wf 0).toInt) ∧ ((y7 1).toInt = (wf 1).toInt) ∧ ((y7 2).toInt = (wf 2).toInt) ∧ ((y7 3).toInt = (wf 3).toInt) ∧ ((y7 4).toInt = (wf 4).toInt) ∧ (0 ≤ v4_63.toInt) ∧ va_P (dC, dI) vwCl [(h0, .inr (7, [.ref a0, v1, .ref p0, v3, v4, v5, v6, .ref w0, .ref x0, .int y9, v10, v11, v12, v13, v14, v15, v16, v17, v18, v19, v20, v21, v22, v23, v24, v25, v26, v27])), (a0, .inl (ac, 38, .inl nf)), (p0, .inl (pc, 7, .inr (.inl pf))), (w0, .inl (wc, 7, .inl y7)), (x0, .inl (xc, 7, .inl y8))] H ∧ va_D A [(h0, .inr (7, [.ref a0, v1, .ref p0, v3, v4, v5, v6, .ref w0, .ref x0, .int y9, v10, v11, v12, v13, v14, v15, v16, v17, v18, v19, v20, v21, v22, v23, v24, v25, v26, v27])), (a0, .inl (ac, 38, .inl nf)), (p0, .inl (pc, 7, .inr (.inl pf))), (w0, .inl (wc, 7, .inl y7)), (x0, .inl (xc, 7, .inl y8))] ∧ va_S A s.heap H locs ∧ lv_has ls 5 [(4, .int v4_63), (0, .ref h0), (1, .int 5), (2, .int us), (3, .int cs)]) ?_ (0, lc, wf, xf) _ _ _ ⟨(by first | omega | decide | (simp only [fa_lt, fa_le, fa_eq, and_true, true_and, and_false, false_and, not_true_eq_false, not_false_eq_true, li_0, li_1, li_2, li_3, li_4, li_5, li_6, li_7, li_8, li_9, li_10, li_12, li_15, li_16, li_20, li_30, li_34, li_38, li_40, li_63, li_64, li_65, li_78, li_120, li_1000, li_4000, li_10000, li_11077, li_255, li_65535, li_m1, li_m2, li_m1000000001, li_m1000000002, li_m1000000003, li_m1000000004, li_m1000000005, li_m1000000006, li_m1000000007, or_true, true_or, or_false, false_or, implies_true, true_implies, false_implies] <;> omega)), (by first | omega | decide | (simp only [fa_lt, fa_le, fa_eq, and_true, true_and, and_false, false_and, not_true_eq_false, not_false_eq_true, li_0, li_1, li_2, li_3, li_4, li_5, li_6, li_7, li_8, li_9, li_10, li_12, li_15, li_16, li_20, li_30, li_34, li_38, li_40, li_63, li_64, li_65, li_78, li_120, li_1000, li_4000, li_10000, li_11077, li_255, li_65535, li_m1, li_m2, li_m1000000001, li_m1000000002, li_m1000000003, li_m1000000004, li_m1000000005, li_m1000000006, li_m1000000007, or_true, true_or, or_false, false_or, implies_true, true_implies, false_implies] <;> omega)), (by first | omega | decide | (simp only [fa_lt, fa_le, fa_eq, and_true, true_and, and_false, false_and, not_true_eq_false, not_false_eq_true, li_0, li_1, li_2, li_3, li_4, li_5, li_6, li_7, li_8, li_9, li_10, li_12, li_15, li_16, li_20, li_30, li_34, li_38, li_40, li_63, li_64, li_65, li_78, li_120, li_1000, li_4000, li_10000, li_11077, li_255, li_65535, li_m1, li_m2, li_m1000000001, li_m1000000002, li_m1000000003, li_m1000000004, li_m1000000005, li_m1000000006, li_m1000000007, or_true, true_or, or_false, false_or, implies_true, true_implies, false_implies] <;> omega)), (by first | omega | decide | (simp only [fa_lt, fa_le, fa_eq, and_true, true_and, and_false, false_and, not_true_eq_false, not_false_eq_true, li_0, li_1, li_2, li_3, li_4, li_5, li_6, li_7, li_8, li_9, li_10, li_12, li_15, li_16, li_20, li_30, li_34, li_38, li_40, li_63, li_64, li_65, li_78, li_120, li_1000, li_4000, li_10000, li_11077, li_255, li_65535, li_m1, li_m2, li_m1000000001, li_m1000000002, li_m1000000003, li_m1000000004, li_m1000000005, li_m1000000006, li_m1000000007, or_true, true_or, or_false, false_or, implies_true, true_implies, false_implies] <;> omega)), (by first | omega | decide | (simp only [fa_lt, fa_le, fa_eq, and_true, true_and, and_false, false_and, not_true_eq_false, not_false_eq_true, li_0, li_1, li_2, li_3, li_4, li_5, li_6, li_7, li_8, li_9, li_10, li_12, li_15, li_16, li_20, li_30, li_34, li_38, li_40, li_63, li_64, li_65, li_78, li_120, li_1000, li_4000, li_10000, li_11077, li_255, li_65535, li_m1, li_m2, li_m1000000001, li_m1000000002, li_m1000000003, li_m1000000004, li_m1000000005, li_m1000000006, li_m1000000007, or_true, true_or, or_false, false_or, implies_true, true_implies, false_implies] <;> omega)), (by first | omega | decide | (simp only [fa_lt, fa_le, fa_eq, and_true, true_and, and_false, false_and, not_true_eq_false, not_false_eq_true, li_0, li_1, li_2, li_3, li_4, li_5, li_6, li_7, li_8, li_9, li_10, li_12, li_15, li_16, li_20, li_30, li_34, li_38, li_40, li_63, li_64, li_65, li_78, li_120, li_1000, li_4000, li_10000, li_11077, li_255, li_65535, li_m1, li_m2, li_m1000000001, li_m1000000002, li_m1000000003, li_m1000000004, li_m1000000005, li_m1000000006, li_m1000000007, or_true, true_or, or_false, false_or, implies_true, true_implies, false_implies] <;> omega)), hP.sub [0, 1, 2, 3, 4] rfl, hD.sub [0, 1, 2, 3, 4] (by decide) rfl, hS, lv_sub hl [0, 1, 2, 3, 4] rfl⟩
    intro k_3 ihk_3 u H locs ls hm hI
    obtain ⟨v4_63, y9, y7, y8⟩ := u
    obtain ⟨jk_3_0, jk_3_1, jk_3_2, jk_3_3, jk_3_4, jk_3_5, hP, hD, hS, hl⟩ := hI
    have hmk_3 : ((nf 1).toInt - v4_63.toInt).toNat < k_3 + 1 := hm
    clear hm
    have jk_3_0 : (y7 0).toInt = (wf 0).toInt := jk_3_0
    have jk_3_1 : (y7 1).toInt = (wf 1).toInt := jk_3_1
    have jk_3_2 : (y7 2).toInt = (wf 2).toInt := jk_3_2
    have jk_3_3 : (y7 3).toInt = (wf 3).toInt := jk_3_3
    have jk_3_4 : (y7 4).toInt = (wf 4).toInt := jk_3_4
    have jk_3_5 : 0 ≤ v4_63.toInt := jk_3_5
    have hl : lv_has ls 5 [(4, .int v4_63), (0, .ref h0), (1, .int 5), (2, .int us), (3, .int cs)] := hl
    have hP : va_P (dC, dI) vwCl [(h0, .inr (7, [.ref a0, v1, .ref p0, v3, v4, v5, v6, .ref w0, .ref x0, .int y9, v10, v11, v12, v13, v14, v15, v16, v17, v18, v19, v20, v21, v22, v23, v24, v25, v26, v27])), (a0, .inl (ac, 38, .inl nf)), (p0, .inl (pc, 7, .inr (.inl pf))), (w0, .inl (wc, 7, .inl y7)), (x0, .inl (xc, 7, .inl y8))] H := hP
    have hD : va_D A [(h0, .inr (7, [.ref a0, v1, .ref p0, v3, v4, v5, v6, .ref w0, .ref x0, .int y9, v10, v11, v12, v13, v14, v15, v16, v17, v18, v19, v20, v21, v22, v23, v24, v25, v26, v27])), (a0, .inl (ac, 38, .inl nf)), (p0, .inl (pc, 7, .inr (.inl pf))), (w0, .inl (wc, 7, .inl y7)), (x0, .inl (xc, 7, .inl y8))] := hD
    refine lv_iload hx hb dX9_goOn_63 (lv_at hl 0 rfl) ?_
    refine lv_aload_n hx hb dX9_goOn_65 rfl (lv_at hl 1 rfl) ?_
    refine va_get (D := (dC, dI)) (ci := 7) (v := .ref a0) (C := RX9) (T := TX9) (N := 28) hx hb hts inX9 hown hK hP 0 rfl rfl 0 (by decide) (hts _ (List.mem_of_getElem? (i := 1) rfl)) (fun _ h9 => h9) rfl dX9_goOn_66 ?_
    refine lv_iconst (v := 1) hx hb dX9_goOn_69 (by decide) ?_
    refine va_iald hx hb hK hP 1 0 rfl rfl (vp_in_nI (n := 1) (by decide) (by decide)) dX9_goOn_70 ?_
    refine pp_ti (y := nf 1) rfl ?_
    refine lv_topi (fun n_4 en_4 => ?_)
    have tn_4 : n_4.toInt = (nf 1).toInt ∧ 0 ≤ n_4.toInt ∧ n_4.toInt ≤ 7 := mI_r1 hI en_4
    clear en_4
    have rc_5_x := pp_rng v4_63
    have rc_5_y := pp_rng n_4
    refine lv_icmp_ge (tgt := 134) hx hb dX9_goOn_71 (by decide) (fun c_5 => ?_) (fun c_5 => ?_)
    · skip
      have tc_5 : n_4.toInt ≤ v4_63.toInt := (fa_le _ _).mp c_5
      have hP9 := hP.sub (ws' := [(h0, .inr (7, [.ref a0, v1, .ref p0, v3, v4, v5, v6, .ref w0, .ref x0, .int y9, v10, v11, v12, v13, v14, v15, v16, v17, v18, v19, v20, v21, v22, v23, v24, v25, v26, v27])), (a0, .inl (ac, 38, .inl nf)), (p0, .inl (pc, 7, .inr (.inl pf))), (w0, .inl (wc, 7, .inl y7)), (x0, .inl (xc, 7, .inl y8))]) [0, 1, 2, 3, 4] rfl
      have hD9 := hD.sub (ws' := [(h0, .inr (7, [.ref a0, v1, .ref p0, v3, v4, v5, v6, .ref w0, .ref x0, .int y9, v10, v11, v12, v13, v14, v15, v16, v17, v18, v19, v20, v21, v22, v23, v24, v25, v26, v27])), (a0, .inl (ac, 38, .inl nf)), (p0, .inl (pc, 7, .inr (.inl pf))), (w0, .inl (wc, 7, .inl y7)), (x0, .inl (xc, 7, .inl y8))]) [0, 1, 2, 3, 4] (by decide) rfl
      have hK9 := hK.sub (tys' := [(ac, .int), (pc, .long), (wc, .int), (xc, .int)]) [0, 1, 2, 3] rfl
      exact W.vret hx hb hr (fun t ht hW => ⟨⟨(), rfl, trivial, y9, y7, y8, (by first | omega | decide | (simp only [fa_lt, fa_le, fa_eq, and_true, true_and, and_false, false_and, not_true_eq_false, not_false_eq_true, li_0, li_1, li_2, li_3, li_4, li_5, li_6, li_7, li_8, li_9, li_10, li_12, li_15, li_16, li_20, li_30, li_34, li_38, li_40, li_63, li_64, li_65, li_78, li_120, li_1000, li_4000, li_10000, li_11077, li_255, li_65535, li_m1, li_m2, li_m1000000001, li_m1000000002, li_m1000000003, li_m1000000004, li_m1000000005, li_m1000000006, li_m1000000007, or_true, true_or, or_false, false_or, implies_true, true_implies, false_implies] <;> omega)), by rw [ht]; exact hP9, va_K.moved hW.alike hK9, hD9⟩, hS.F ht⟩) hS.2.2 dX9_goOn_134
    · skip
      have tc_5 : ¬ n_4.toInt ≤ v4_63.toInt := fun h => c_5 ((fa_le _ _).mpr h)
      refine lv_iload_n hx hb dX9_goOn_74 rfl (lv_at hl 3 rfl) ?_
      refine lv_iload hx hb dX9_goOn_75 (lv_at hl 0 rfl) ?_
      refine lv_ishr hx hb dX9_goOn_77 ?_
      refine lv_topi (fun n_6 en_6 => ?_)
      clear en_6
      refine lv_iconst (v := 1) hx hb dX9_goOn_78 (by decide) ?_
      refine lv_iand hx hb dX9_goOn_79 ?_
      refine lv_topi (fun n_7 en_7 => ?_)
      clear en_7
      refine lv_if_ne (tgt := 128) hx hb dX9_goOn_80 (by decide) (fun c_8 => ?_) (fun c_8 => ?_)
      · skip
        have tc_8 : ¬ n_7.toInt = 0 := fun h => c_8 ((fa_eq _ _).mpr h)
        obtain ⟨n_9, en_9⟩ : ∃ y : Int32, y = v4_63 + 1 := ⟨_, rfl⟩
        have tn_9 : n_9.toInt = v4_63.toInt + 1 := pp_add en_9 rfl rfl (by omega) (by omega)
        refine lv_iinc (v := n_9) (lv' := [(4, .int n_9), (0, .ref h0), (1, .int 5), (2, .int us), (3, .int cs)]) hx hb dX9_goOn_128 hl (k := 0) rfl (by rw [en_9]; rfl) (by decide) rfl (fun ls hl => ?_)
        clear en_9
        refine lv_goto (tgt := 63) hx hb dX9_goOn_131 (by decide) ?_
        exact ihk_3 (n_9, y9, y7, y8) _ _ _ (by show ((nf 1).toInt - n_9.toInt).toNat < k_3; omega) ⟨(by first | omega | decide | (simp only [fa_lt, fa_le, fa_eq, and_true, true_and, and_false, false_and, not_true_eq_false, not_false_eq_true, li_0, li_1, li_2, li_3, li_4, li_5, li_6, li_7, li_8, li_9, li_10, li_12, li_15, li_16, li_20, li_30, li_34, li_38, li_40, li_63, li_64, li_65, li_78, li_120, li_1000, li_4000, li_10000, li_11077, li_255, li_65535, li_m1, li_m2, li_m1000000001, li_m1000000002, li_m1000000003, li_m1000000004, li_m1000000005, li_m1000000006, li_m1000000007, or_true, true_or, or_false, false_or, implies_true, true_implies, false_implies] <;> omega)), (by first | omega | decide | (simp only [fa_lt, fa_le, fa_eq, and_true, true_and, and_false, false_and, not_true_eq_false, not_false_eq_true, li_0, li_1, li_2, li_3, li_4, li_5, li_6, li_7, li_8, li_9, li_10, li_12, li_15, li_16, li_20, li_30, li_34, li_38, li_40, li_63, li_64, li_65, li_78, li_120, li_1000, li_4000, li_10000, li_11077, li_255, li_65535, li_m1, li_m2, li_m1000000001, li_m1000000002, li_m1000000003, li_m1000000004, li_m1000000005, li_m1000000006, li_m1000000007, or_true, true_or, or_false, false_or, implies_true, true_implies, false_implies] <;> omega)), (by first | omega | decide | (simp only [fa_lt, fa_le, fa_eq, and_true, true_and, and_false, false_and, not_true_eq_false, not_false_eq_true, li_0, li_1, li_2, li_3, li_4, li_5, li_6, li_7, li_8, li_9, li_10, li_12, li_15, li_16, li_20, li_30, li_34, li_38, li_40, li_63, li_64, li_65, li_78, li_120, li_1000, li_4000, li_10000, li_11077, li_255, li_65535, li_m1, li_m2, li_m1000000001, li_m1000000002, li_m1000000003, li_m1000000004, li_m1000000005, li_m1000000006, li_m1000000007, or_true, true_or, or_false, false_or, implies_true, true_implies, false_implies] <;> omega)), (by first | omega | decide | (simp only [fa_lt, fa_le, fa_eq, and_true, true_and, and_false, false_and, not_true_eq_false, not_false_eq_true, li_0, li_1, li_2, li_3, li_4, li_5, li_6, li_7, li_8, li_9, li_10, li_12, li_15, li_16, li_20, li_30, li_34, li_38, li_40, li_63, li_64, li_65, li_78, li_120, li_1000, li_4000, li_10000, li_11077, li_255, li_65535, li_m1, li_m2, li_m1000000001, li_m1000000002, li_m1000000003, li_m1000000004, li_m1000000005, li_m1000000006, li_m1000000007, or_true, true_or, or_false, false_or, implies_true, true_implies, false_implies] <;> omega)), (by first | omega | decide | (simp only [fa_lt, fa_le, fa_eq, and_true, true_and, and_false, false_and, not_true_eq_false, not_false_eq_true, li_0, li_1, li_2, li_3, li_4, li_5, li_6, li_7, li_8, li_9, li_10, li_12, li_15, li_16, li_20, li_30, li_34, li_38, li_40, li_63, li_64, li_65, li_78, li_120, li_1000, li_4000, li_10000, li_11077, li_255, li_65535, li_m1, li_m2, li_m1000000001, li_m1000000002, li_m1000000003, li_m1000000004, li_m1000000005, li_m1000000006, li_m1000000007, or_true, true_or, or_false, false_or, implies_true, true_implies, false_implies] <;> omega)), (by first | omega | decide | (simp only [fa_lt, fa_le, fa_eq, and_true, true_and, and_false, false_and, not_true_eq_false, not_false_eq_true, li_0, li_1, li_2, li_3, li_4, li_5, li_6, li_7, li_8, li_9, li_10, li_12, li_15, li_16, li_20, li_30, li_34, li_38, li_40, li_63, li_64, li_65, li_78, li_120, li_1000, li_4000, li_10000, li_11077, li_255, li_65535, li_m1, li_m2, li_m1000000001, li_m1000000002, li_m1000000003, li_m1000000004, li_m1000000005, li_m1000000006, li_m1000000007, or_true, true_or, or_false, false_or, implies_true, true_implies, false_implies] <;> omega)), hP.sub [0, 1, 2, 3, 4] rfl, hD.sub [0, 1, 2, 3, 4] (by decide) rfl, hS, lv_sub hl [0, 1, 2, 3, 4] rfl⟩
      · skip
        have tc_8 : n_7.toInt = 0 := (fa_eq _ _).mp c_8
        refine lv_aload_n hx hb dX9_goOn_83 rfl (lv_at hl 1 rfl) ?_
        refine va_get (D := (dC, dI)) (ci := 7) (v := .ref w0) (C := RX9) (T := TX9) (N := 28) hx hb hts inX9 hown hK hP 0 rfl rfl 7 (by decide) (hts _ (List.mem_of_getElem? (i := 2) rfl)) (fun _ h9 => h9) rfl dX9_goOn_84 ?_
        refine lv_iload_n hx hb dX9_goOn_87 rfl (lv_at hl 2 rfl) ?_
        refine lv_iload hx hb dX9_goOn_88 (lv_at hl 0 rfl) ?_
        refine va_iast hx hb hK hP hD hS 3 2 rfl rfl (vp_in_nI (n := 5) (by decide) (by decide)) dX9_goOn_90 (fun H locs hP hD hS => ?_)
        have hP : va_P (dC, dI) vwCl [(h0, .inr (7, [.ref a0, v1, .ref p0, v3, v4, v5, v6, .ref w0, .ref x0, .int y9, v10, v11, v12, v13, v14, v15, v16, v17, v18, v19, v20, v21, v22, v23, v24, v25, v26, v27])), (a0, .inl (ac, 38, .inl nf)), (p0, .inl (pc, 7, .inr (.inl pf))), (w0, .inl (wc, 7, .inl (upd y7 5 v4_63))), (x0, .inl (xc, 7, .inl y8))] H := hP
        have hD : va_D A [(h0, .inr (7, [.ref a0, v1, .ref p0, v3, v4, v5, v6, .ref w0, .ref x0, .int y9, v10, v11, v12, v13, v14, v15, v16, v17, v18, v19, v20, v21, v22, v23, v24, v25, v26, v27])), (a0, .inl (ac, 38, .inl nf)), (p0, .inl (pc, 7, .inr (.inl pf))), (w0, .inl (wc, 7, .inl (upd y7 5 v4_63))), (x0, .inl (xc, 7, .inl y8))] := hD
        have q_11 : ((upd y7 5 v4_63) 0).toInt = (y7 0).toInt := pp_uN_ne (by decide)
        have q_12 : ((upd y7 5 v4_63) 1).toInt = (y7 1).toInt := pp_uN_ne (by decide)
        have q_13 : ((upd y7 5 v4_63) 2).toInt = (y7 2).toInt := pp_uN_ne (by decide)
        have q_14 : ((upd y7 5 v4_63) 3).toInt = (y7 3).toInt := pp_uN_ne (by decide)
        have q_15 : ((upd y7 5 v4_63) 4).toInt = (y7 4).toInt := pp_uN_ne (by decide)
        have q_16 : ((upd y7 5 v4_63) 5).toInt = v4_63.toInt := pp_uN_eq rfl
        generalize upd y7 5 v4_63 = f_10 at hP hD q_11 q_12 q_13 q_14 q_15 q_16
        have hP : va_P (dC, dI) vwCl [(h0, .inr (7, [.ref a0, v1, .ref p0, v3, v4, v5, v6, .ref w0, .ref x0, .int y9, v10, v11, v12, v13, v14, v15, v16, v17, v18, v19, v20, v21, v22, v23, v24, v25, v26, v27])), (a0, .inl (ac, 38, .inl nf)), (p0, .inl (pc, 7, .inr (.inl pf))), (w0, .inl (wc, 7, .inl f_10)), (x0, .inl (xc, 7, .inl y8))] H := hP
        have hD : va_D A [(h0, .inr (7, [.ref a0, v1, .ref p0, v3, v4, v5, v6, .ref w0, .ref x0, .int y9, v10, v11, v12, v13, v14, v15, v16, v17, v18, v19, v20, v21, v22, v23, v24, v25, v26, v27])), (a0, .inl (ac, 38, .inl nf)), (p0, .inl (pc, 7, .inr (.inl pf))), (w0, .inl (wc, 7, .inl f_10)), (x0, .inl (xc, 7, .inl y8))] := hD
        refine lv_aload_n hx hb dX9_goOn_91 rfl (lv_at hl 1 rfl) ?_
        refine lv_iload_n hx hb dX9_goOn_92 rfl (lv_at hl 2 rfl) ?_
        refine lv_iconst (v := 1) hx hb dX9_goOn_93 (by decide) ?_
        refine lv_iadd hx hb dX9_goOn_94 ?_
        refine pp_ti (y := 6) (by decide) ?_
        refine lv_iload_n hx hb dX9_goOn_95 rfl (lv_at hl 3 rfl) ?_
        refine lv_iconst (v := 1) hx hb dX9_goOn_96 (by decide) ?_
        refine lv_iload hx hb dX9_goOn_97 (lv_at hl 0 rfl) ?_
        refine lv_ishl hx hb dX9_goOn_99 ?_
        refine lv_topi (fun n_17 en_17 => ?_)
        clear en_17
        refine lv_ior hx hb dX9_goOn_100 ?_
        refine lv_topi (fun n_18 en_18 => ?_)
        clear en_18
        refine lv_iload_n hx hb dX9_goOn_101 rfl (lv_at hl 4 rfl) ?_
        refine lv_iload_n hx hb dX9_goOn_102 rfl (lv_at hl 2 rfl) ?_
        refine lv_if_ne (tgt := 110) hx hb dX9_goOn_103 (by decide) (fun _ => ?_) (fun c => absurd c (by decide))
        refine lv_aload_n hx hb dX9_goOn_110 rfl (lv_at hl 1 rfl) ?_
        refine lv_aload_n hx hb dX9_goOn_111 rfl (lv_at hl 1 rfl) ?_
        refine va_get (D := (dC, dI)) (ci := 7) (v := .ref w0) (C := RX9) (T := TX9) (N := 28) hx hb hts inX9 hown hK hP 0 rfl rfl 7 (by decide) (hts _ (List.mem_of_getElem? (i := 2) rfl)) (fun _ h9 => h9) rfl dX9_goOn_112 ?_
        refine lv_iload_n hx hb dX9_goOn_115 rfl (lv_at hl 2 rfl) ?_
        refine lv_iconst (v := 1) hx hb dX9_goOn_116 (by decide) ?_
        refine lv_isub hx hb dX9_goOn_117 ?_
        refine pp_ti (y := 4) (by decide) ?_
        refine va_iald hx hb hK hP 3 2 rfl rfl (vp_in_nI (n := 4) (by decide) (by decide)) dX9_goOn_118 ?_
        refine pp_ti (y := f_10 4) rfl ?_
        refine lv_topi (fun n_19 en_19 => ?_)
        have tn_19 : n_19.toInt = (f_10 4).toInt := congrArg Int32.toInt en_19
        clear en_19
        refine lv_iload hx hb dX9_goOn_119 (lv_at hl 0 rfl) ?_
        have hPc := hP.sub (ws' := [(h0, .inr (7, [.ref a0, v1, .ref p0, v3, v4, v5, v6, .ref w0, .ref x0, .int y9, v10, v11, v12, v13, v14, v15, v16, v17, v18, v19, v20, v21, v22, v23, v24, v25, v26, v27])), (p0, .inl (pc, 7, .inr (.inl pf)))]) [0, 2] rfl
        have hKc := hK.sub (tys' := [(pc, .long)]) [1] rfl
        refine vp_callSi (W.runV (As := [.int n_19, .int v4_63]) (rest := [.int cs, .int n_18, .int 6, .ref h0]) ⟨hx, hb, hml, hown, hts⟩ (m_changesOf l dC dI ad h0 n_19 v4_63 (.ref a0) v1 p0 v3 v4 v5 v6 (.ref w0) (.ref x0) (.int y9) v10 v11 v12 v13 v14 v15 v16 v17 v18 v19 v20 v21 v22 v23 v24 v25 v26 v27 pc pf (by first | omega | decide | (simp only [fa_lt, fa_le, fa_eq, and_true, true_and, and_false, false_and, not_true_eq_false, not_false_eq_true, li_0, li_1, li_2, li_3, li_4, li_5, li_6, li_7, li_8, li_9, li_10, li_12, li_15, li_16, li_20, li_30, li_34, li_38, li_40, li_63, li_64, li_65, li_78, li_120, li_1000, li_4000, li_10000, li_11077, li_255, li_65535, li_m1, li_m2, li_m1000000001, li_m1000000002, li_m1000000003, li_m1000000004, li_m1000000005, li_m1000000006, li_m1000000007, or_true, true_or, or_false, false_or, implies_true, true_implies, false_implies] <;> omega)) (by first | omega | decide | (simp only [fa_lt, fa_le, fa_eq, and_true, true_and, and_false, false_and, not_true_eq_false, not_false_eq_true, li_0, li_1, li_2, li_3, li_4, li_5, li_6, li_7, li_8, li_9, li_10, li_12, li_15, li_16, li_20, li_30, li_34, li_38, li_40, li_63, li_64, li_65, li_78, li_120, li_1000, li_4000, li_10000, li_11077, li_255, li_65535, li_m1, li_m2, li_m1000000001, li_m1000000002, li_m1000000003, li_m1000000004, li_m1000000005, li_m1000000006, li_m1000000007, or_true, true_or, or_false, false_or, implies_true, true_implies, false_implies] <;> omega))) (cwV 2 hts g_m_goOn_5_m_changesOf_161 rfl rfl rfl (by decide +kernel) ⟨(Nat.le_of_ble_eq_true rfl), (Nat.le_of_ble_eq_true rfl)⟩) ⟨preS_blind, va_recv hKc hPc (ci := 7) (q0 := 0) rfl rfl, fun U hU hW => ⟨rfl, preS_at hU hW hPc hKc hev⟩⟩ rfl rfl hl.1 rfl (lv_room (Nat.le_of_ble_eq_true rfl)) dX9_goOn_121 ⟨(Nat.le_of_ble_eq_true rfl), (Nat.le_of_ble_eq_true rfl)⟩) (fun r_20 hw => ?_)
        refine lv_iadd hx hb dX9_goOn_124 ?_
        refine lv_topi (fun n_21 en_21 => ?_)
        clear en_21
        have hPc := hP.sub (ws' := [(h0, .inr (7, [.ref a0, v1, .ref p0, v3, v4, v5, v6, .ref w0, .ref x0, .int y9, v10, v11, v12, v13, v14, v15, v16, v17, v18, v19, v20, v21, v22, v23, v24, v25, v26, v27])), (a0, .inl (ac, 38, .inl nf)), (p0, .inl (pc, 7, .inr (.inl pf))), (w0, .inl (wc, 7, .inl f_10)), (x0, .inl (xc, 7, .inl y8))]) [0, 1, 2, 3, 4] rfl
        have hKc := hK.sub (tys' := [(ac, .int), (pc, .long), (wc, .int), (xc, .int)]) [0, 1, 2, 3] rfl
        have hDc := hD.sub (ws' := [(h0, .inr (7, [.ref a0, v1, .ref p0, v3, v4, v5, v6, .ref w0, .ref x0, .int y9, v10, v11, v12, v13, v14, v15, v16, v17, v18, v19, v20, v21, v22, v23, v24, v25, v26, v27])), (a0, .inl (ac, 38, .inl nf)), (p0, .inl (pc, 7, .inr (.inl pf))), (w0, .inl (wc, 7, .inl f_10)), (x0, .inl (xc, 7, .inl y8))]) [0, 1, 2, 3, 4] (by decide) rfl
        have hFc := va_free (wc := [(h0, .inr (7, [.ref a0, v1, .ref p0, v3, v4, v5, v6, .ref w0, .ref x0, .int y9, v10, v11, v12, v13, v14, v15, v16, v17, v18, v19, v20, v21, v22, v23, v24, v25, v26, v27])), (a0, .inl (ac, 38, .inl nf)), (p0, .inl (pc, 7, .inr (.inl pf))), (w0, .inl (wc, 7, .inl f_10)), (x0, .inl (xc, 7, .inl y8))]) hD hS hA [0, 1, 2, 3, 4] rfl
        refine va_callv (va_runV (As := [.int 6, .int n_18, .int n_21]) (rest := []) ⟨hx, hb, hml, hown, hts⟩ (m_goOn_6 l dC dI ad h0 n_18 n_21 a0 v1 p0 v3 v4 v5 v6 w0 x0 y9 v10 v11 v12 v13 v14 v15 v16 v17 v18 v19 v20 v21 v22 v23 v24 v25 v26 v27 ac nf pc pf wc f_10 xc y8 H.size hI (by first | omega | decide | (simp only [fa_lt, fa_le, fa_eq, and_true, true_and, and_false, false_and, not_true_eq_false, not_false_eq_true, li_0, li_1, li_2, li_3, li_4, li_5, li_6, li_7, li_8, li_9, li_10, li_12, li_15, li_16, li_20, li_30, li_34, li_38, li_40, li_63, li_64, li_65, li_78, li_120, li_1000, li_4000, li_10000, li_11077, li_255, li_65535, li_m1, li_m2, li_m1000000001, li_m1000000002, li_m1000000003, li_m1000000004, li_m1000000005, li_m1000000006, li_m1000000007, or_true, true_or, or_false, false_or, implies_true, true_implies, false_implies] <;> omega)) (by first | omega | decide | (simp only [fa_lt, fa_le, fa_eq, and_true, true_and, and_false, false_and, not_true_eq_false, not_false_eq_true, li_0, li_1, li_2, li_3, li_4, li_5, li_6, li_7, li_8, li_9, li_10, li_12, li_15, li_16, li_20, li_30, li_34, li_38, li_40, li_63, li_64, li_65, li_78, li_120, li_1000, li_4000, li_10000, li_11077, li_255, li_65535, li_m1, li_m2, li_m1000000001, li_m1000000002, li_m1000000003, li_m1000000004, li_m1000000005, li_m1000000006, li_m1000000007, or_true, true_or, or_false, false_or, implies_true, true_implies, false_implies] <;> omega)) (by first | omega | decide | (simp only [fa_lt, fa_le, fa_eq, and_true, true_and, and_false, false_and, not_true_eq_false, not_false_eq_true, li_0, li_1, li_2, li_3, li_4, li_5, li_6, li_7, li_8, li_9, li_10, li_12, li_15, li_16, li_20, li_30, li_34, li_38, li_40, li_63, li_64, li_65, li_78, li_120, li_1000, li_4000, li_10000, li_11077, li_255, li_65535, li_m1, li_m2, li_m1000000001, li_m1000000002, li_m1000000003, li_m1000000004, li_m1000000005, li_m1000000006, li_m1000000007, or_true, true_or, or_false, false_or, implies_true, true_implies, false_implies] <;> omega)) (by first | omega | decide | (simp only [fa_lt, fa_le, fa_eq, and_true, true_and, and_false, false_and, not_true_eq_false, not_false_eq_true, li_0, li_1, li_2, li_3, li_4, li_5, li_6, li_7, li_8, li_9, li_10, li_12, li_15, li_16, li_20, li_30, li_34, li_38, li_40, li_63, li_64, li_65, li_78, li_120, li_1000, li_4000, li_10000, li_11077, li_255, li_65535, li_m1, li_m2, li_m1000000001, li_m1000000002, li_m1000000003, li_m1000000004, li_m1000000005, li_m1000000006, li_m1000000007, or_true, true_or, or_false, false_or, implies_true, true_implies, false_implies] <;> omega)) (by first | omega | decide | (simp only [fa_lt, fa_le, fa_eq, and_true, true_and, and_false, false_and, not_true_eq_false, not_false_eq_true, li_0, li_1, li_2, li_3, li_4, li_5, li_6, li_7, li_8, li_9, li_10, li_12, li_15, li_16, li_20, li_30, li_34, li_38, li_40, li_63, li_64, li_65, li_78, li_120, li_1000, li_4000, li_10000, li_11077, li_255, li_65535, li_m1, li_m2, li_m1000000001, li_m1000000002, li_m1000000003, li_m1000000004, li_m1000000005, li_m1000000006, li_m1000000007, or_true, true_or, or_false, false_or, implies_true, true_implies, false_implies] <;> omega)) (by first | omega | decide | (simp only [fa_lt, fa_le, fa_eq, and_true, true_and, and_false, false_and, not_true_eq_false, not_false_eq_true, li_0, li_1, li_2, li_3, li_4, li_5, li_6, li_7, li_8, li_9, li_10, li_12, li_15, li_16, li_20, li_30, li_34, li_38, li_40, li_63, li_64, li_65, li_78, li_120, li_1000, li_4000, li_10000, li_11077, li_255, li_65535, li_m1, li_m2, li_m1000000001, li_m1000000002, li_m1000000003, li_m1000000004, li_m1000000005, li_m1000000006, li_m1000000007, or_true, true_or, or_false, false_or, implies_true, true_implies, false_implies] <;> omega)) (by first | omega | decide | (simp only [fa_lt, fa_le, fa_eq, and_true, true_and, and_false, false_and, not_true_eq_false, not_false_eq_true, li_0, li_1, li_2, li_3, li_4, li_5, li_6, li_7, li_8, li_9, li_10, li_12, li_15, li_16, li_20, li_30, li_34, li_38, li_40, li_63, li_64, li_65, li_78, li_120, li_1000, li_4000, li_10000, li_11077, li_255, li_65535, li_m1, li_m2, li_m1000000001, li_m1000000002, li_m1000000003, li_m1000000004, li_m1000000005, li_m1000000006, li_m1000000007, or_true, true_or, or_false, false_or, implies_true, true_implies, false_implies] <;> omega))) (cwV 3 hts g_m_goOn_5_m_goOn_6_183 rfl rfl rfl (by decide +kernel) ⟨(Nat.le_of_ble_eq_true rfl), (Nat.le_of_ble_eq_true rfl)⟩) ⟨preM_blind, va_recv hKc hPc (ci := 7) (q0 := 0) rfl rfl, fun U hU hW => ⟨rfl, preM_at hU hW hPc hKc hDc hev⟩⟩ rfl rfl hl.1 rfl (lv_room (Nat.le_of_ble_eq_true rfl)) dX9_goOn_125 ⟨(Nat.le_of_ble_eq_true rfl), (Nat.le_of_ble_eq_true rfl)⟩) hS (fun q _ h => hFc q h) hFc (fun u t H1 locs ht hvm hw hB hz1 hk1 hS => ?_)
        obtain ⟨lc_23, wg_24, xg_25, hq_26, hP1, hK1, hD1⟩ := hB
        rw [ht] at hP1
        have hK1 := va_K.moved hvm.symm hK1
        obtain ⟨hP, hD⟩ := va_join (wr := []) (w1 := [(h0, .inr (7, [.ref a0, v1, .ref p0, v3, v4, v5, v6, .ref w0, .ref x0, .int lc_23, v10, v11, v12, v13, v14, v15, v16, v17, v18, v19, v20, v21, v22, v23, v24, v25, v26, v27])), (a0, .inl (ac, 38, .inl nf)), (p0, .inl (pc, 7, .inr (.inl pf))), (w0, .inl (wc, 7, .inl wg_24)), (x0, .inl (xc, 7, .inl xg_25))]) hP hD [0, 1, 2, 3, 4] [] rfl rfl (by decide) (by decide) hk1 hFc hP1 hD1
        generalize H1 = H at hP hS ⊢
        have hP : va_P (dC, dI) vwCl [(h0, .inr (7, [.ref a0, v1, .ref p0, v3, v4, v5, v6, .ref w0, .ref x0, .int lc_23, v10, v11, v12, v13, v14, v15, v16, v17, v18, v19, v20, v21, v22, v23, v24, v25, v26, v27])), (a0, .inl (ac, 38, .inl nf)), (p0, .inl (pc, 7, .inr (.inl pf))), (w0, .inl (wc, 7, .inl wg_24)), (x0, .inl (xc, 7, .inl xg_25))] H := hP
        have hD : va_D A [(h0, .inr (7, [.ref a0, v1, .ref p0, v3, v4, v5, v6, .ref w0, .ref x0, .int lc_23, v10, v11, v12, v13, v14, v15, v16, v17, v18, v19, v20, v21, v22, v23, v24, v25, v26, v27])), (a0, .inl (ac, 38, .inl nf)), (p0, .inl (pc, 7, .inr (.inl pf))), (w0, .inl (wc, 7, .inl wg_24)), (x0, .inl (xc, 7, .inl xg_25))] := hD
        obtain ⟨n_27, en_27⟩ : ∃ y : Int32, y = v4_63 + 1 := ⟨_, rfl⟩
        have tn_27 : n_27.toInt = v4_63.toInt + 1 := pp_add en_27 rfl rfl (by omega) (by omega)
        refine lv_iinc (v := n_27) (lv' := [(4, .int n_27), (0, .ref h0), (1, .int 5), (2, .int us), (3, .int cs)]) hx hb dX9_goOn_128 hl (k := 0) rfl (by rw [en_27]; rfl) (by decide) rfl (fun ls hl => ?_)
        clear en_27
        refine lv_goto (tgt := 63) hx hb dX9_goOn_131 (by decide) ?_
        exact ihk_3 (n_27, lc_23, wg_24, xg_25) _ _ _ (by show ((nf 1).toInt - n_27.toInt).toNat < k_3; omega) ⟨(by first | omega | decide | (simp only [fa_lt, fa_le, fa_eq, and_true, true_and, and_false, false_and, not_true_eq_false, not_false_eq_true, li_0, li_1, li_2, li_3, li_4, li_5, li_6, li_7, li_8, li_9, li_10, li_12, li_15, li_16, li_20, li_30, li_34, li_38, li_40, li_63, li_64, li_65, li_78, li_120, li_1000, li_4000, li_10000, li_11077, li_255, li_65535, li_m1, li_m2, li_m1000000001, li_m1000000002, li_m1000000003, li_m1000000004, li_m1000000005, li_m1000000006, li_m1000000007, or_true, true_or, or_false, false_or, implies_true, true_implies, false_implies] <;> omega)), (by first | omega | decide | (simp only [fa_lt, fa_le, fa_eq, and_true, true_and, and_false, false_and, not_true_eq_false, not_false_eq_true, li_0, li_1, li_2, li_3, li_4, li_5, li_6, li_7, li_8, li_9, li_10, li_12, li_15, li_16, li_20, li_30, li_34, li_38, li_40, li_63, li_64, li_65, li_78, li_120, li_1000, li_4000, li_10000, li_11077, li_255, li_65535, li_m1, li_m2, li_m1000000001, li_m1000000002, li_m1000000003, li_m1000000004, li_m1000000005, li_m1000000006, li_m1000000007, or_true, true_or, or_false, false_or, implies_true, true_implies, false_implies] <;> omega)), (by first | omega | decide | (simp only [fa_lt, fa_le, fa_eq, and_true, true_and, and_false, false_and, not_true_eq_false, not_false_eq_true, li_0, li_1, li_2, li_3, li_4, li_5, li_6, li_7, li_8, li_9, li_10, li_12, li_15, li_16, li_20, li_30, li_34, li_38, li_40, li_63, li_64, li_65, li_78, li_120, li_1000, li_4000, li_10000, li_11077, li_255, li_65535, li_m1, li_m2, li_m1000000001, li_m1000000002, li_m1000000003, li_m1000000004, li_m1000000005, li_m1000000006, li_m1000000007, or_true, true_or, or_false, false_or, implies_true, true_implies, false_implies] <;> omega)), (by first | omega | decide | (simp only [fa_lt, fa_le, fa_eq, and_true, true_and, and_false, false_and, not_true_eq_false, not_false_eq_true, li_0, li_1, li_2, li_3, li_4, li_5, li_6, li_7, li_8, li_9, li_10, li_12, li_15, li_16, li_20, li_30, li_34, li_38, li_40, li_63, li_64, li_65, li_78, li_120, li_1000, li_4000, li_10000, li_11077, li_255, li_65535, li_m1, li_m2, li_m1000000001, li_m1000000002, li_m1000000003, li_m1000000004, li_m1000000005, li_m1000000006, li_m1000000007, or_true, true_or, or_false, false_or, implies_true, true_implies, false_implies] <;> omega)), (by first | omega | decide | (simp only [fa_lt, fa_le, fa_eq, and_true, true_and, and_false, false_and, not_true_eq_false, not_false_eq_true, li_0, li_1, li_2, li_3, li_4, li_5, li_6, li_7, li_8, li_9, li_10, li_12, li_15, li_16, li_20, li_30, li_34, li_38, li_40, li_63, li_64, li_65, li_78, li_120, li_1000, li_4000, li_10000, li_11077, li_255, li_65535, li_m1, li_m2, li_m1000000001, li_m1000000002, li_m1000000003, li_m1000000004, li_m1000000005, li_m1000000006, li_m1000000007, or_true, true_or, or_false, false_or, implies_true, true_implies, false_implies] <;> omega)), (by first | omega | decide | (simp only [fa_lt, fa_le, fa_eq, and_true, true_and, and_false, false_and, not_true_eq_false, not_false_eq_true, li_0, li_1, li_2, li_3, li_4, li_5, li_6, li_7, li_8, li_9, li_10, li_12, li_15, li_16, li_20, li_30, li_34, li_38, li_40, li_63, li_64, li_65, li_78, li_120, li_1000, li_4000, li_10000, li_11077, li_255, li_65535, li_m1, li_m2, li_m1000000001, li_m1000000002, li_m1000000003, li_m1000000004, li_m1000000005, li_m1000000006, li_m1000000007, or_true, true_or, or_false, false_or, implies_true, true_implies, false_implies] <;> omega)), hP.sub [0, 1, 2, 3, 4] rfl, hD.sub [0, 1, 2, 3, 4] (by decide) rfl, hS, lv_sub hl [0, 1, 2, 3, 4] rfl⟩
  · skip
    have tc_2 : 5 = n_1.toInt := (fa_eq _ _).mp c_2
    refine lv_aload_n hx hb dX9_goOn_10 rfl (lv_at hl 0 rfl) ?_
    refine va_get (D := (dC, dI)) (ci := 7) (v := .int lc) (C := RX9) (T := TX9) (N := 28) hx hb hts inX9 hown hK hP 0 rfl rfl 9 (by decide) (hts _ (List.mem_of_getElem? (i := 16) rfl)) (fun _ h9 => h9) rfl dX9_goOn_11 ?_
    refine lv_if_lt (tgt := 25) hx hb dX9_goOn_14 (by decide) (fun c_28 => ?_) (fun c_28 => ?_)
    · skip
      have tc_28 : lc.toInt < 0 := (fa_lt _ _).mp c_28
      refine lv_aload_n hx hb dX9_goOn_25 rfl (lv_at hl 0 rfl) ?_
      refine lv_iload_n hx hb dX9_goOn_26 rfl (lv_at hl 3 rfl) ?_
      refine va_put (D := (dC, dI)) (ci := 7) (v := .int cs) (ty := .int) (C := RX9) (T := TX9) (N := 28) hx hb hts inX9 tyX9 tyX9_ok nmX9 hown hK hP hD hS 0 rfl rfl 9 (by decide) (hts _ (List.mem_of_getElem? (i := 16) rfl)) (fun _ h9 => h9) rfl (by decide +kernel) rfl rfl (Nat.le_of_ble_eq_true rfl) dX9_goOn_27 (fun H locs hP hD hS => ?_)
      have hP : va_P (dC, dI) vwCl [(h0, .inr (7, [.ref a0, v1, .ref p0, v3, v4, v5, v6, .ref w0, .ref x0, .int cs, v10, v11, v12, v13, v14, v15, v16, v17, v18, v19, v20, v21, v22, v23, v24, v25, v26, v27])), (a0, .inl (ac, 38, .inl nf)), (p0, .inl (pc, 7, .inr (.inl pf))), (w0, .inl (wc, 7, .inl wf)), (x0, .inl (xc, 7, .inl xf))] H := hP
      have hD : va_D A [(h0, .inr (7, [.ref a0, v1, .ref p0, v3, v4, v5, v6, .ref w0, .ref x0, .int cs, v10, v11, v12, v13, v14, v15, v16, v17, v18, v19, v20, v21, v22, v23, v24, v25, v26, v27])), (a0, .inl (ac, 38, .inl nf)), (p0, .inl (pc, 7, .inr (.inl pf))), (w0, .inl (wc, 7, .inl wf)), (x0, .inl (xc, 7, .inl xf))] := hD
      refine lv_iconst (v := 0) hx hb dX9_goOn_30 (by decide) ?_
      refine lv_istore (lv' := [(4, .int 0), (0, .ref h0), (1, .int 5), (2, .int us), (3, .int cs)]) hx hb dX9_goOn_31 hl (by decide) rfl (fun ls hl => ?_)
      refine pp_loop (ι := Int32 × (Nat → Int32)) (fun ⟨v4_33, z8⟩ => (5 - v4_33.toInt).toNat) (fun ⟨v4_33, z8⟩ H locs ls => (0 ≤ v4_33.toInt) ∧ (v4_33.toInt ≤ 5) ∧ va_P (dC, dI) vwCl [(h0, .inr (7, [.ref a0, v1, .ref p0, v3, v4, v5, v6, .ref w0, .ref x0, .int cs, v10, v11, v12, v13, v14, v15, v16, v17, v18, v19, v20, v21, v22, v23, v24, v25, v26, v27])), (a0, .inl (ac, 38, .inl nf)), (p0, .inl (pc, 7, .inr (.inl pf))), (w0, .inl (wc, 7, .inl wf)), (x0, .inl (xc, 7, .inl z8))] H ∧ va_D A [(h0, .inr (7, [.ref a0, v1, .ref p0, v3, v4, v5, v6, .ref w0, .ref x0, .int cs, v10, v11, v12, v13, v14, v15, v16, v17, v18, v19, v20, v21, v22, v23, v24, v25, v26, v27])), (a0, .inl (ac, 38, .inl nf)), (p0, .inl (pc, 7, .inr (.inl pf))), (w0, .inl (wc, 7, .inl wf)), (x0, .inl (xc, 7, .inl z8))] ∧ va_S A s.heap H locs ∧ lv_has ls 5 [(4, .int v4_33), (0, .ref h0), (1, .int 5), (2, .int us), (3, .int cs)]) ?_ (0, xf) _ _ _ ⟨(by first | omega | decide | (simp only [fa_lt, fa_le, fa_eq, and_true, true_and, and_false, false_and, not_true_eq_false, not_false_eq_true, li_0, li_1, li_2, li_3, li_4, li_5, li_6, li_7, li_8, li_9, li_10, li_12, li_15, li_16, li_20, li_30, li_34, li_38, li_40, li_63, li_64, li_65, li_78, li_120, li_1000, li_4000, li_10000, li_11077, li_255, li_65535, li_m1, li_m2, li_m1000000001, li_m1000000002, li_m1000000003, li_m1000000004, li_m1000000005, li_m1000000006, li_m1000000007, or_true, true_or, or_false, false_or, implies_true, true_implies, false_implies] <;> omega)), (by first | omega | decide | (simp only [fa_lt, fa_le, fa_eq, and_true, true_and, and_false, false_and, not_true_eq_false, not_false_eq_true, li_0, li_1, li_2, li_3, li_4, li_5, li_6, li_7, li_8, li_9, li_10, li_12, li_15, li_16, li_20, li_30, li_34, li_38, li_40, li_63, li_64, li_65, li_78, li_120, li_1000, li_4000, li_10000, li_11077, li_255, li_65535, li_m1, li_m2, li_m1000000001, li_m1000000002, li_m1000000003, li_m1000000004, li_m1000000005, li_m1000000006, li_m1000000007, or_true, true_or, or_false, false_or, implies_true, true_implies, false_implies] <;> omega)), hP.sub [0, 1, 2, 3, 4] rfl, hD.sub [0, 1, 2, 3, 4] (by decide) rfl, hS, lv_sub hl [0, 1, 2, 3, 4] rfl⟩
      intro k_29 ihk_29 u H locs ls hm hI
      obtain ⟨v4_33, z8⟩ := u
      obtain ⟨jk_29_0, jk_29_1, hP, hD, hS, hl⟩ := hI
      have hmk_29 : (5 - v4_33.toInt).toNat < k_29 + 1 := hm
      clear hm
      have jk_29_0 : 0 ≤ v4_33.toInt := jk_29_0
      have jk_29_1 : v4_33.toInt ≤ 5 := jk_29_1
      have hl : lv_has ls 5 [(4, .int v4_33), (0, .ref h0), (1, .int 5), (2, .int us), (3, .int cs)] := hl
      have hP : va_P (dC, dI) vwCl [(h0, .inr (7, [.ref a0, v1, .ref p0, v3, v4, v5, v6, .ref w0, .ref x0, .int cs, v10, v11, v12, v13, v14, v15, v16, v17, v18, v19, v20, v21, v22, v23, v24, v25, v26, v27])), (a0, .inl (ac, 38, .inl nf)), (p0, .inl (pc, 7, .inr (.inl pf))), (w0, .inl (wc, 7, .inl wf)), (x0, .inl (xc, 7, .inl z8))] H := hP
      have hD : va_D A [(h0, .inr (7, [.ref a0, v1, .ref p0, v3, v4, v5, v6, .ref w0, .ref x0, .int cs, v10, v11, v12, v13, v14, v15, v16, v17, v18, v19, v20, v21, v22, v23, v24, v25, v26, v27])), (a0, .inl (ac, 38, .inl nf)), (p0, .inl (pc, 7, .inr (.inl pf))), (w0, .inl (wc, 7, .inl wf)), (x0, .inl (xc, 7, .inl z8))] := hD
      refine lv_iload hx hb dX9_goOn_33 (lv_at hl 0 rfl) ?_
      refine lv_iload_n hx hb dX9_goOn_35 rfl (lv_at hl 2 rfl) ?_
      refine lv_icmp_ge (tgt := 59) hx hb dX9_goOn_36 (by decide) (fun c_30 => ?_) (fun c_30 => ?_)
      · skip
        have tc_30 : 5 ≤ v4_33.toInt := (fa_le _ _).mp c_30
        have hP9 := hP.sub (ws' := [(h0, .inr (7, [.ref a0, v1, .ref p0, v3, v4, v5, v6, .ref w0, .ref x0, .int cs, v10, v11, v12, v13, v14, v15, v16, v17, v18, v19, v20, v21, v22, v23, v24, v25, v26, v27])), (a0, .inl (ac, 38, .inl nf)), (p0, .inl (pc, 7, .inr (.inl pf))), (w0, .inl (wc, 7, .inl wf)), (x0, .inl (xc, 7, .inl z8))]) [0, 1, 2, 3, 4] rfl
        have hD9 := hD.sub (ws' := [(h0, .inr (7, [.ref a0, v1, .ref p0, v3, v4, v5, v6, .ref w0, .ref x0, .int cs, v10, v11, v12, v13, v14, v15, v16, v17, v18, v19, v20, v21, v22, v23, v24, v25, v26, v27])), (a0, .inl (ac, 38, .inl nf)), (p0, .inl (pc, 7, .inr (.inl pf))), (w0, .inl (wc, 7, .inl wf)), (x0, .inl (xc, 7, .inl z8))]) [0, 1, 2, 3, 4] (by decide) rfl
        have hK9 := hK.sub (tys' := [(ac, .int), (pc, .long), (wc, .int), (xc, .int)]) [0, 1, 2, 3] rfl
        exact W.vret hx hb hr (fun t ht hW => ⟨⟨(), rfl, trivial, cs, wf, z8, (by first | omega | decide | (simp only [fa_lt, fa_le, fa_eq, and_true, true_and, and_false, false_and, not_true_eq_false, not_false_eq_true, li_0, li_1, li_2, li_3, li_4, li_5, li_6, li_7, li_8, li_9, li_10, li_12, li_15, li_16, li_20, li_30, li_34, li_38, li_40, li_63, li_64, li_65, li_78, li_120, li_1000, li_4000, li_10000, li_11077, li_255, li_65535, li_m1, li_m2, li_m1000000001, li_m1000000002, li_m1000000003, li_m1000000004, li_m1000000005, li_m1000000006, li_m1000000007, or_true, true_or, or_false, false_or, implies_true, true_implies, false_implies] <;> omega)), by rw [ht]; exact hP9, va_K.moved hW.alike hK9, hD9⟩, hS.F ht⟩) hS.2.2 dX9_goOn_59
      · skip
        have tc_30 : ¬ 5 ≤ v4_33.toInt := fun h => c_30 ((fa_le _ _).mpr h)
        refine lv_aload_n hx hb dX9_goOn_39 rfl (lv_at hl 1 rfl) ?_
        refine va_get (D := (dC, dI)) (ci := 7) (v := .ref x0) (C := RX9) (T := TX9) (N := 28) hx hb hts inX9 hown hK hP 0 rfl rfl 8 (by decide) (hts _ (List.mem_of_getElem? (i := 17) rfl)) (fun _ h9 => h9) rfl dX9_goOn_40 ?_
        refine lv_iload hx hb dX9_goOn_43 (lv_at hl 0 rfl) ?_
        refine lv_aload_n hx hb dX9_goOn_45 rfl (lv_at hl 1 rfl) ?_
        refine va_get (D := (dC, dI)) (ci := 7) (v := .ref w0) (C := RX9) (T := TX9) (N := 28) hx hb hts inX9 hown hK hP 0 rfl rfl 7 (by decide) (hts _ (List.mem_of_getElem? (i := 2) rfl)) (fun _ h9 => h9) rfl dX9_goOn_46 ?_
        refine lv_iload hx hb dX9_goOn_49 (lv_at hl 0 rfl) ?_
        refine va_iald hx hb hK hP 3 2 rfl rfl (vp_in_iff.mpr ⟨by omega, by omega⟩) dX9_goOn_51 ?_
        refine lv_topi (fun n_31 en_31 => ?_)
        clear en_31
        refine va_iast hx hb hK hP hD hS 4 3 rfl rfl (vp_in_iff.mpr ⟨by omega, by omega⟩) dX9_goOn_52 (fun H locs hP hD hS => ?_)
        have hP : va_P (dC, dI) vwCl [(h0, .inr (7, [.ref a0, v1, .ref p0, v3, v4, v5, v6, .ref w0, .ref x0, .int cs, v10, v11, v12, v13, v14, v15, v16, v17, v18, v19, v20, v21, v22, v23, v24, v25, v26, v27])), (a0, .inl (ac, 38, .inl nf)), (p0, .inl (pc, 7, .inr (.inl pf))), (w0, .inl (wc, 7, .inl wf)), (x0, .inl (xc, 7, .inl (upd z8 v4_33.toNatClampNeg n_31)))] H := hP
        have hD : va_D A [(h0, .inr (7, [.ref a0, v1, .ref p0, v3, v4, v5, v6, .ref w0, .ref x0, .int cs, v10, v11, v12, v13, v14, v15, v16, v17, v18, v19, v20, v21, v22, v23, v24, v25, v26, v27])), (a0, .inl (ac, 38, .inl nf)), (p0, .inl (pc, 7, .inr (.inl pf))), (w0, .inl (wc, 7, .inl wf)), (x0, .inl (xc, 7, .inl (upd z8 v4_33.toNatClampNeg n_31)))] := hD
        obtain ⟨n_32, en_32⟩ : ∃ y : Int32, y = v4_33 + 1 := ⟨_, rfl⟩
        have tn_32 : n_32.toInt = v4_33.toInt + 1 := pp_add en_32 rfl rfl (by omega) (by omega)
        refine lv_iinc (v := n_32) (lv' := [(4, .int n_32), (0, .ref h0), (1, .int 5), (2, .int us), (3, .int cs)]) hx hb dX9_goOn_53 hl (k := 0) rfl (by rw [en_32]; rfl) (by decide) rfl (fun ls hl => ?_)
        clear en_32
        refine lv_goto (tgt := 33) hx hb dX9_goOn_56 (by decide) ?_
        exact ihk_29 (n_32, (upd z8 v4_33.toNatClampNeg n_31)) _ _ _ (by show (5 - n_32.toInt).toNat < k_29; omega) ⟨(by first | omega | decide | (simp only [fa_lt, fa_le, fa_eq, and_true, true_and, and_false, false_and, not_true_eq_false, not_false_eq_true, li_0, li_1, li_2, li_3, li_4, li_5, li_6, li_7, li_8, li_9, li_10, li_12, li_15, li_16, li_20, li_30, li_34, li_38, li_40, li_63, li_64, li_65, li_78, li_120, li_1000, li_4000, li_10000, li_11077, li_255, li_65535, li_m1, li_m2, li_m1000000001, li_m1000000002, li_m1000000003, li_m1000000004, li_m1000000005, li_m1000000006, li_m1000000007, or_true, true_or, or_false, false_or, implies_true, true_implies, false_implies] <;> omega)), (by first | omega | decide | (simp only [fa_lt, fa_le, fa_eq, and_true, true_and, and_false, false_and, not_true_eq_false, not_false_eq_true, li_0, li_1, li_2, li_3, li_4, li_5, li_6, li_7, li_8, li_9, li_10, li_12, li_15, li_16, li_20, li_30, li_34, li_38, li_40, li_63, li_64, li_65, li_78, li_120, li_1000, li_4000, li_10000, li_11077, li_255, li_65535, li_m1, li_m2, li_m1000000001, li_m1000000002, li_m1000000003, li_m1000000004, li_m1000000005, li_m1000000006, li_m1000000007, or_true, true_or, or_false, false_or, implies_true, true_implies, false_implies] <;> omega)), hP.sub [0, 1, 2, 3, 4] rfl, hD.sub [0, 1, 2, 3, 4] (by decide) rfl, hS, lv_sub hl [0, 1, 2, 3, 4] rfl⟩
    · skip
      have tc_28 : ¬ lc.toInt < 0 := fun h => c_28 ((fa_lt _ _).mpr h)
      refine lv_iload_n hx hb dX9_goOn_17 rfl (lv_at hl 3 rfl) ?_
      refine lv_aload_n hx hb dX9_goOn_18 rfl (lv_at hl 0 rfl) ?_
      refine va_get (D := (dC, dI)) (ci := 7) (v := .int lc) (C := RX9) (T := TX9) (N := 28) hx hb hts inX9 hown hK hP 0 rfl rfl 9 (by decide) (hts _ (List.mem_of_getElem? (i := 16) rfl)) (fun _ h9 => h9) rfl dX9_goOn_19 ?_
      have rc_33_x := pp_rng cs
      have rc_33_y := pp_rng lc
      refine lv_icmp_ge (tgt := 59) hx hb dX9_goOn_22 (by decide) (fun c_33 => ?_) (fun c_33 => ?_)
      · skip
        have tc_33 : lc.toInt ≤ cs.toInt := (fa_le _ _).mp c_33
        have hP9 := hP.sub (ws' := [(h0, .inr (7, [.ref a0, v1, .ref p0, v3, v4, v5, v6, .ref w0, .ref x0, .int lc, v10, v11, v12, v13, v14, v15, v16, v17, v18, v19, v20, v21, v22, v23, v24, v25, v26, v27])), (a0, .inl (ac, 38, .inl nf)), (p0, .inl (pc, 7, .inr (.inl pf))), (w0, .inl (wc, 7, .inl wf)), (x0, .inl (xc, 7, .inl xf))]) [0, 1, 2, 3, 4] rfl
        have hD9 := hD.sub (ws' := [(h0, .inr (7, [.ref a0, v1, .ref p0, v3, v4, v5, v6, .ref w0, .ref x0, .int lc, v10, v11, v12, v13, v14, v15, v16, v17, v18, v19, v20, v21, v22, v23, v24, v25, v26, v27])), (a0, .inl (ac, 38, .inl nf)), (p0, .inl (pc, 7, .inr (.inl pf))), (w0, .inl (wc, 7, .inl wf)), (x0, .inl (xc, 7, .inl xf))]) [0, 1, 2, 3, 4] (by decide) rfl
        have hK9 := hK.sub (tys' := [(ac, .int), (pc, .long), (wc, .int), (xc, .int)]) [0, 1, 2, 3] rfl
        exact W.vret hx hb hr (fun t ht hW => ⟨⟨(), rfl, trivial, lc, wf, xf, (by first | omega | decide | (simp only [fa_lt, fa_le, fa_eq, and_true, true_and, and_false, false_and, not_true_eq_false, not_false_eq_true, li_0, li_1, li_2, li_3, li_4, li_5, li_6, li_7, li_8, li_9, li_10, li_12, li_15, li_16, li_20, li_30, li_34, li_38, li_40, li_63, li_64, li_65, li_78, li_120, li_1000, li_4000, li_10000, li_11077, li_255, li_65535, li_m1, li_m2, li_m1000000001, li_m1000000002, li_m1000000003, li_m1000000004, li_m1000000005, li_m1000000006, li_m1000000007, or_true, true_or, or_false, false_or, implies_true, true_implies, false_implies] <;> omega)), by rw [ht]; exact hP9, va_K.moved hW.alike hK9, hD9⟩, hS.F ht⟩) hS.2.2 dX9_goOn_59
      · skip
        have tc_33 : ¬ lc.toInt ≤ cs.toInt := fun h => c_33 ((fa_le _ _).mpr h)
        refine lv_aload_n hx hb dX9_goOn_25 rfl (lv_at hl 0 rfl) ?_
        refine lv_iload_n hx hb dX9_goOn_26 rfl (lv_at hl 3 rfl) ?_
        refine va_put (D := (dC, dI)) (ci := 7) (v := .int cs) (ty := .int) (C := RX9) (T := TX9) (N := 28) hx hb hts inX9 tyX9 tyX9_ok nmX9 hown hK hP hD hS 0 rfl rfl 9 (by decide) (hts _ (List.mem_of_getElem? (i := 16) rfl)) (fun _ h9 => h9) rfl (by decide +kernel) rfl rfl (Nat.le_of_ble_eq_true rfl) dX9_goOn_27 (fun H locs hP hD hS => ?_)
        have hP : va_P (dC, dI) vwCl [(h0, .inr (7, [.ref a0, v1, .ref p0, v3, v4, v5, v6, .ref w0, .ref x0, .int cs, v10, v11, v12, v13, v14, v15, v16, v17, v18, v19, v20, v21, v22, v23, v24, v25, v26, v27])), (a0, .inl (ac, 38, .inl nf)), (p0, .inl (pc, 7, .inr (.inl pf))), (w0, .inl (wc, 7, .inl wf)), (x0, .inl (xc, 7, .inl xf))] H := hP
        have hD : va_D A [(h0, .inr (7, [.ref a0, v1, .ref p0, v3, v4, v5, v6, .ref w0, .ref x0, .int cs, v10, v11, v12, v13, v14, v15, v16, v17, v18, v19, v20, v21, v22, v23, v24, v25, v26, v27])), (a0, .inl (ac, 38, .inl nf)), (p0, .inl (pc, 7, .inr (.inl pf))), (w0, .inl (wc, 7, .inl wf)), (x0, .inl (xc, 7, .inl xf))] := hD
        refine lv_iconst (v := 0) hx hb dX9_goOn_30 (by decide) ?_
        refine lv_istore (lv' := [(4, .int 0), (0, .ref h0), (1, .int 5), (2, .int us), (3, .int cs)]) hx hb dX9_goOn_31 hl (by decide) rfl (fun ls hl => ?_)
        refine pp_loop (ι := Int32 × (Nat → Int32)) (fun ⟨v4_33, z8⟩ => (5 - v4_33.toInt).toNat) (fun ⟨v4_33, z8⟩ H locs ls => (0 ≤ v4_33.toInt) ∧ (v4_33.toInt ≤ 5) ∧ va_P (dC, dI) vwCl [(h0, .inr (7, [.ref a0, v1, .ref p0, v3, v4, v5, v6, .ref w0, .ref x0, .int cs, v10, v11, v12, v13, v14, v15, v16, v17, v18, v19, v20, v21, v22, v23, v24, v25, v26, v27])), (a0, .inl (ac, 38, .inl nf)), (p0, .inl (pc, 7, .inr (.inl pf))), (w0, .inl (wc, 7, .inl wf)), (x0, .inl (xc, 7, .inl z8))] H ∧ va_D A [(h0, .inr (7, [.ref a0, v1, .ref p0, v3, v4, v5, v6, .ref w0, .ref x0, .int cs, v10, v11, v12, v13, v14, v15, v16, v17, v18, v19, v20, v21, v22, v23, v24, v25, v26, v27])), (a0, .inl (ac, 38, .inl nf)), (p0, .inl (pc, 7, .inr (.inl pf))), (w0, .inl (wc, 7, .inl wf)), (x0, .inl (xc, 7, .inl z8))] ∧ va_S A s.heap H locs ∧ lv_has ls 5 [(4, .int v4_33), (0, .ref h0), (1, .int 5), (2, .int us), (3, .int cs)]) ?_ (0, xf) _ _ _ ⟨(by first | omega | decide | (simp only [fa_lt, fa_le, fa_eq, and_true, true_and, and_false, false_and, not_true_eq_false, not_false_eq_true, li_0, li_1, li_2, li_3, li_4, li_5, li_6, li_7, li_8, li_9, li_10, li_12, li_15, li_16, li_20, li_30, li_34, li_38, li_40, li_63, li_64, li_65, li_78, li_120, li_1000, li_4000, li_10000, li_11077, li_255, li_65535, li_m1, li_m2, li_m1000000001, li_m1000000002, li_m1000000003, li_m1000000004, li_m1000000005, li_m1000000006, li_m1000000007, or_true, true_or, or_false, false_or, implies_true, true_implies, false_implies] <;> omega)), (by first | omega | decide | (simp only [fa_lt, fa_le, fa_eq, and_true, true_and, and_false, false_and, not_true_eq_false, not_false_eq_true, li_0, li_1, li_2, li_3, li_4, li_5, li_6, li_7, li_8, li_9, li_10, li_12, li_15, li_16, li_20, li_30, li_34, li_38, li_40, li_63, li_64, li_65, li_78, li_120, li_1000, li_4000, li_10000, li_11077, li_255, li_65535, li_m1, li_m2, li_m1000000001, li_m1000000002, li_m1000000003, li_m1000000004, li_m1000000005, li_m1000000006, li_m1000000007, or_true, true_or, or_false, false_or, implies_true, true_implies, false_implies] <;> omega)), hP.sub [0, 1, 2, 3, 4] rfl, hD.sub [0, 1, 2, 3, 4] (by decide) rfl, hS, lv_sub hl [0, 1, 2, 3, 4] rfl⟩
        intro k_34 ihk_34 u H locs ls hm hI
        obtain ⟨v4_33, z8⟩ := u
        obtain ⟨jk_34_0, jk_34_1, hP, hD, hS, hl⟩ := hI
        have hmk_34 : (5 - v4_33.toInt).toNat < k_34 + 1 := hm
        clear hm
        have jk_34_0 : 0 ≤ v4_33.toInt := jk_34_0
        have jk_34_1 : v4_33.toInt ≤ 5 := jk_34_1
        have hl : lv_has ls 5 [(4, .int v4_33), (0, .ref h0), (1, .int 5), (2, .int us), (3, .int cs)] := hl
        have hP : va_P (dC, dI) vwCl [(h0, .inr (7, [.ref a0, v1, .ref p0, v3, v4, v5, v6, .ref w0, .ref x0, .int cs, v10, v11, v12, v13, v14, v15, v16, v17, v18, v19, v20, v21, v22, v23, v24, v25, v26, v27])), (a0, .inl (ac, 38, .inl nf)), (p0, .inl (pc, 7, .inr (.inl pf))), (w0, .inl (wc, 7, .inl wf)), (x0, .inl (xc, 7, .inl z8))] H := hP
        have hD : va_D A [(h0, .inr (7, [.ref a0, v1, .ref p0, v3, v4, v5, v6, .ref w0, .ref x0, .int cs, v10, v11, v12, v13, v14, v15, v16, v17, v18, v19, v20, v21, v22, v23, v24, v25, v26, v27])), (a0, .inl (ac, 38, .inl nf)), (p0, .inl (pc, 7, .inr (.inl pf))), (w0, .inl (wc, 7, .inl wf)), (x0, .inl (xc, 7, .inl z8))] := hD
        refine lv_iload hx hb dX9_goOn_33 (lv_at hl 0 rfl) ?_
        refine lv_iload_n hx hb dX9_goOn_35 rfl (lv_at hl 2 rfl) ?_
        refine lv_icmp_ge (tgt := 59) hx hb dX9_goOn_36 (by decide) (fun c_35 => ?_) (fun c_35 => ?_)
        · skip
          have tc_35 : 5 ≤ v4_33.toInt := (fa_le _ _).mp c_35
          have hP9 := hP.sub (ws' := [(h0, .inr (7, [.ref a0, v1, .ref p0, v3, v4, v5, v6, .ref w0, .ref x0, .int cs, v10, v11, v12, v13, v14, v15, v16, v17, v18, v19, v20, v21, v22, v23, v24, v25, v26, v27])), (a0, .inl (ac, 38, .inl nf)), (p0, .inl (pc, 7, .inr (.inl pf))), (w0, .inl (wc, 7, .inl wf)), (x0, .inl (xc, 7, .inl z8))]) [0, 1, 2, 3, 4] rfl
          have hD9 := hD.sub (ws' := [(h0, .inr (7, [.ref a0, v1, .ref p0, v3, v4, v5, v6, .ref w0, .ref x0, .int cs, v10, v11, v12, v13, v14, v15, v16, v17, v18, v19, v20, v21, v22, v23, v24, v25, v26, v27])), (a0, .inl (ac, 38, .inl nf)), (p0, .inl (pc, 7, .inr (.inl pf))), (w0, .inl (wc, 7, .inl wf)), (x0, .inl (xc, 7, .inl z8))]) [0, 1, 2, 3, 4] (by decide) rfl
          have hK9 := hK.sub (tys' := [(ac, .int), (pc, .long), (wc, .int), (xc, .int)]) [0, 1, 2, 3] rfl
          exact W.vret hx hb hr (fun t ht hW => ⟨⟨(), rfl, trivial, cs, wf, z8, (by first | omega | decide | (simp only [fa_lt, fa_le, fa_eq, and_true, true_and, and_false, false_and, not_true_eq_false, not_false_eq_true, li_0, li_1, li_2, li_3, li_4, li_5, li_6, li_7, li_8, li_9, li_10, li_12, li_15, li_16, li_20, li_30, li_34, li_38, li_40, li_63, li_64, li_65, li_78, li_120, li_1000, li_4000, li_10000, li_11077, li_255, li_65535, li_m1, li_m2, li_m1000000001, li_m1000000002, li_m1000000003, li_m1000000004, li_m1000000005, li_m1000000006, li_m1000000007, or_true, true_or, or_false, false_or, implies_true, true_implies, false_implies] <;> omega)), by rw [ht]; exact hP9, va_K.moved hW.alike hK9, hD9⟩, hS.F ht⟩) hS.2.2 dX9_goOn_59
        · skip
          have tc_35 : ¬ 5 ≤ v4_33.toInt := fun h => c_35 ((fa_le _ _).mpr h)
          refine lv_aload_n hx hb dX9_goOn_39 rfl (lv_at hl 1 rfl) ?_
          refine va_get (D := (dC, dI)) (ci := 7) (v := .ref x0) (C := RX9) (T := TX9) (N := 28) hx hb hts inX9 hown hK hP 0 rfl rfl 8 (by decide) (hts _ (List.mem_of_getElem? (i := 17) rfl)) (fun _ h9 => h9) rfl dX9_goOn_40 ?_
          refine lv_iload hx hb dX9_goOn_43 (lv_at hl 0 rfl) ?_
          refine lv_aload_n hx hb dX9_goOn_45 rfl (lv_at hl 1 rfl) ?_
          refine va_get (D := (dC, dI)) (ci := 7) (v := .ref w0) (C := RX9) (T := TX9) (N := 28) hx hb hts inX9 hown hK hP 0 rfl rfl 7 (by decide) (hts _ (List.mem_of_getElem? (i := 2) rfl)) (fun _ h9 => h9) rfl dX9_goOn_46 ?_
          refine lv_iload hx hb dX9_goOn_49 (lv_at hl 0 rfl) ?_
          refine va_iald hx hb hK hP 3 2 rfl rfl (vp_in_iff.mpr ⟨by omega, by omega⟩) dX9_goOn_51 ?_
          refine lv_topi (fun n_36 en_36 => ?_)
          clear en_36
          refine va_iast hx hb hK hP hD hS 4 3 rfl rfl (vp_in_iff.mpr ⟨by omega, by omega⟩) dX9_goOn_52 (fun H locs hP hD hS => ?_)
          have hP : va_P (dC, dI) vwCl [(h0, .inr (7, [.ref a0, v1, .ref p0, v3, v4, v5, v6, .ref w0, .ref x0, .int cs, v10, v11, v12, v13, v14, v15, v16, v17, v18, v19, v20, v21, v22, v23, v24, v25, v26, v27])), (a0, .inl (ac, 38, .inl nf)), (p0, .inl (pc, 7, .inr (.inl pf))), (w0, .inl (wc, 7, .inl wf)), (x0, .inl (xc, 7, .inl (upd z8 v4_33.toNatClampNeg n_36)))] H := hP
          have hD : va_D A [(h0, .inr (7, [.ref a0, v1, .ref p0, v3, v4, v5, v6, .ref w0, .ref x0, .int cs, v10, v11, v12, v13, v14, v15, v16, v17, v18, v19, v20, v21, v22, v23, v24, v25, v26, v27])), (a0, .inl (ac, 38, .inl nf)), (p0, .inl (pc, 7, .inr (.inl pf))), (w0, .inl (wc, 7, .inl wf)), (x0, .inl (xc, 7, .inl (upd z8 v4_33.toNatClampNeg n_36)))] := hD
          obtain ⟨n_37, en_37⟩ : ∃ y : Int32, y = v4_33 + 1 := ⟨_, rfl⟩
          have tn_37 : n_37.toInt = v4_33.toInt + 1 := pp_add en_37 rfl rfl (by omega) (by omega)
          refine lv_iinc (v := n_37) (lv' := [(4, .int n_37), (0, .ref h0), (1, .int 5), (2, .int us), (3, .int cs)]) hx hb dX9_goOn_53 hl (k := 0) rfl (by rw [en_37]; rfl) (by decide) rfl (fun ls hl => ?_)
          clear en_37
          refine lv_goto (tgt := 33) hx hb dX9_goOn_56 (by decide) ?_
          exact ihk_34 (n_37, (upd z8 v4_33.toNatClampNeg n_36)) _ _ _ (by show (5 - n_37.toInt).toNat < k_34; omega) ⟨(by first | omega | decide | (simp only [fa_lt, fa_le, fa_eq, and_true, true_and, and_false, false_and, not_true_eq_false, not_false_eq_true, li_0, li_1, li_2, li_3, li_4, li_5, li_6, li_7, li_8, li_9, li_10, li_12, li_15, li_16, li_20, li_30, li_34, li_38, li_40, li_63, li_64, li_65, li_78, li_120, li_1000, li_4000, li_10000, li_11077, li_255, li_65535, li_m1, li_m2, li_m1000000001, li_m1000000002, li_m1000000003, li_m1000000004, li_m1000000005, li_m1000000006, li_m1000000007, or_true, true_or, or_false, false_or, implies_true, true_implies, false_implies] <;> omega)), (by first | omega | decide | (simp only [fa_lt, fa_le, fa_eq, and_true, true_and, and_false, false_and, not_true_eq_false, not_false_eq_true, li_0, li_1, li_2, li_3, li_4, li_5, li_6, li_7, li_8, li_9, li_10, li_12, li_15, li_16, li_20, li_30, li_34, li_38, li_40, li_63, li_64, li_65, li_78, li_120, li_1000, li_4000, li_10000, li_11077, li_255, li_65535, li_m1, li_m2, li_m1000000001, li_m1000000002, li_m1000000003, li_m1000000004, li_m1000000005, li_m1000000006, li_m1000000007, or_true, true_or, or_false, false_or, implies_true, true_implies, false_implies] <;> omega)), hP.sub [0, 1, 2, 3, 4] rfl, hD.sub [0, 1, 2, 3, 4] (by decide) rfl, hS, lv_sub hl [0, 1, 2, 3, 4] rfl⟩

def w_m_goOn_4 : List Cond := .code yX9_goOn cX9_goOn 5 none :: (([.fieldLink RX9 9 "LampShapesModel" "now" "[I", .fieldLink RX9 26 "LampShapesModel" "row" "[I", .methodLink RX9 161 yX9_changesOf, .instanceMethod yX9_changesOf, .selects RX9 yX9_changesOf yX9_changesOf, .initialized RX9, .code yX9_changesOf cX9_changesOf 3 (some .int), .fieldLink RX9 16 "LampShapesModel" "pictures" "[J", .methodLink RX9 158 yX9_bits, .static yX9_bits, .code yX9_bits cX9_bits 5 (some .int), .methodLink RX9 183 yX9_goOn, .instanceMethod yX9_goOn, .selects RX9 yX9_goOn yX9_goOn, .code yX9_goOn cX9_goOn 5 none, .fieldLink RX9 180 "LampShapesModel" "leastCost" "I", .fieldLink RX9 29 "LampShapesModel" "bestRow" "[I"] : List Cond) ++ wsX90)
set_option maxRecDepth 20000 in
theorem g_m_goOn_4_m_changesOf_161 : GoodIn w_m_goOn_4 (wsV RX9 161 RX9 yX9_changesOf w_m_changesOf) := goodIn_r _ [3, 4, 5, 6, 7, 8, 9, 10, 6, 11, 18, 19, 20, 21, 22, 23, 24, 25, 26, 27, 28, 29, 30, 31, 32, 33, 34, 35, 36, 37, 38, 39, 40, 41, 42, 43, 44, 45] rfl (by decide +kernel)
set_option maxRecDepth 20000 in
theorem g_m_goOn_4_m_goOn_5_183 : GoodIn w_m_goOn_4 (wsV RX9 183 RX9 yX9_goOn w_m_goOn_5) := goodIn_r _ [12, 13, 14, 6, 0, 1, 2, 3, 4, 5, 6, 7, 8, 9, 10, 11, 12, 13, 14, 0, 16, 17, 18, 19, 20, 21, 22, 23, 24, 25, 26, 27, 28, 29, 30, 31, 32, 33, 34, 35, 36, 37, 38, 39, 40, 41, 42, 43, 44, 45] rfl (by decide +kernel)
set_option maxHeartbeats 4000000 in
set_option maxRecDepth 100000 in
theorem m_goOn_4 (l : Launch) (dC : Nat → ClassId) (dI : Nat → Nat → Nat) (ad : Nat → Nat) (h0 : Nat) (us : Int32) (cs : Int32) (a0 : Nat) (v1 : Value) (p0 : Nat) (v3 : Value) (v4 : Value) (v5 : Value) (v6 : Value) (w0 : Nat) (x0 : Nat) (lc : Int32) (v10 : Value) (v11 : Value) (v12 : Value) (v13 : Value) (v14 : Value) (v15 : Value) (v16 : Value) (v17 : Value) (v18 : Value) (v19 : Value) (v20 : Value) (v21 : Value) (v22 : Value) (v23 : Value) (v24 : Value) (v25 : Value) (v26 : Value) (v27 : Value) (ac : ClassId) (nf : Nat → Int32) (pc : ClassId) (pf : Nat → Int64) (wc : ClassId) (wf : Nat → Int32) (xc : ClassId) (xf : Nat → Int32) (sz : Nat) (hI : mI nf) (hm : 4 ≤ (nf 1).toInt ∧ (nf 1).toInt ≤ 6) (hw0 : 0 ≤ (wf 0).toInt ∧ (wf 0).toInt ≤ 6) (hw1 : 0 ≤ (wf 1).toInt ∧ (wf 1).toInt ≤ 6) (hw2 : 0 ≤ (wf 2).toInt ∧ (wf 2).toInt ≤ 6) (hw3 : 0 ≤ (wf 3).toInt ∧ (wf 3).toInt ≤ 6) : Met l yX9_goOn w_m_goOn_4 ({ frames := 3, cells := 0, slots := 0, locals := 70 } : Room) (va_Pc [.ref h0, .int 4, .int us, .int cs] (preM dC dI ad [(ac, .int), (pc, .long), (wc, .int), (xc, .int)] [(h0, .inr (7, [.ref a0, v1, .ref p0, v3, v4, v5, v6, .ref w0, .ref x0, .int lc, v10, v11, v12, v13, v14, v15, v16, v17, v18, v19, v20, v21, v22, v23, v24, v25, v26, v27])), (a0, .inl (ac, 38, .inl nf)), (p0, .inl (pc, 7, .inr (.inl pf))), (w0, .inl (wc, 7, .inl wf)), (x0, .inl (xc, 7, .inl xf))] sz)) (va_Qv (fun (_ : Unit) => True) (fun _ t => ∃ (lc2 : Int32), ∃ (wg : Nat → Int32), ∃ (xg : Nat → Int32), ((wg 0).toInt = (wf 0).toInt ∧ (wg 1).toInt = (wf 1).toInt ∧ (wg 2).toInt = (wf 2).toInt ∧ (wg 3).toInt = (wf 3).toInt) ∧ va_P (dC, dI) vwCl [(h0, .inr (7, [.ref a0, v1, .ref p0, v3, v4, v5, v6, .ref w0, .ref x0, .int lc2, v10, v11, v12, v13, v14, v15, v16, v17, v18, v19, v20, v21, v22, v23, v24, v25, v26, v27])), (a0, .inl (ac, 38, .inl nf)), (p0, .inl (pc, 7, .inr (.inl pf))), (w0, .inl (wc, 7, .inl wg)), (x0, .inl (xc, 7, .inl xg))] t.heap ∧ va_K (dC, dI) vwCl [(ac, .int), (pc, .long), (wc, .int), (xc, .int)] t ∧ va_D (va_A [(h0, .inr (7, [.ref a0, v1, .ref p0, v3, v4, v5, v6, .ref w0, .ref x0, .int lc, v10, v11, v12, v13, v14, v15, v16, v17, v18, v19, v20, v21, v22, v23, v24, v25, v26, v27])), (a0, .inl (ac, 38, .inl nf)), (p0, .inl (pc, 7, .inr (.inl pf))), (w0, .inl (wc, 7, .inl wf)), (x0, .inl (xc, 7, .inl xf))] sz) [(h0, .inr (7, [.ref a0, v1, .ref p0, v3, v4, v5, v6, .ref w0, .ref x0, .int lc2, v10, v11, v12, v13, v14, v15, v16, v17, v18, v19, v20, v21, v22, v23, v24, v25, v26, v27])), (a0, .inl (ac, 38, .inl nf)), (p0, .inl (pc, 7, .inr (.inl pf))), (w0, .inl (wc, 7, .inl wg)), (x0, .inl (xc, 7, .inl xg))]) (va_A [(h0, .inr (7, [.ref a0, v1, .ref p0, v3, v4, v5, v6, .ref w0, .ref x0, .int lc, v10, v11, v12, v13, v14, v15, v16, v17, v18, v19, v20, v21, v22, v23, v24, v25, v26, v27])), (a0, .inl (ac, 38, .inl nf)), (p0, .inl (pc, 7, .inr (.inl pf))), (w0, .inl (wc, 7, .inl wf)), (x0, .inl (xc, 7, .inl xf))] sz)) 0 0 (va_A [(h0, .inr (7, [.ref a0, v1, .ref p0, v3, v4, v5, v6, .ref w0, .ref x0, .int lc, v10, v11, v12, v13, v14, v15, v16, v17, v18, v19, v20, v21, v22, v23, v24, v25, v26, v27])), (a0, .inl (ac, 38, .inl nf)), (p0, .inl (pc, 7, .inr (.inl pf))), (w0, .inl (wc, 7, .inl wf)), (x0, .inl (xc, 7, .inl xf))] sz) := by
  refine Met.ofW (cc := cX9_goOn) (maxL := 5) (ret := none) (by decide) rfl ?_
  intro p e s m args below meth c s₁ B hml hv
  obtain ⟨rfl, hsz, hP, hK, hD0, hev⟩ := hv
  have hx := B.exec
  have hb := B.bytes
  have hr := B.returns
  have hts := atoms_spec (ws := w_m_goOn_4) B.pre
  have hown : s.vm.findClass RX9 = some m.cls := findClass_of_methodNamed B.named
  have hlocks := B.notSynchronized
  have inX9 : ∀ w ∈ wsX90, w ∈ w_m_goOn_4 := fun w h => List.mem_cons_of_mem _ (List.mem_append_right _ h)
  subst hsz
  have hD := hD0.self (sz := s.heap.size)
  generalize hAe : va_A [(h0, .inr (7, [.ref a0, v1, .ref p0, v3, v4, v5, v6, .ref w0, .ref x0, .int lc, v10, v11, v12, v13, v14, v15, v16, v17, v18, v19, v20, v21, v22, v23, v24, v25, v26, v27])), (a0, .inl (ac, 38, .inl nf)), (p0, .inl (pc, 7, .inr (.inl pf))), (w0, .inl (wc, 7, .inl wf)), (x0, .inl (xc, 7, .inl xf))] s.heap.size = A at hD ⊢
  have hA : ∀ q : Nat, s.heap.size ≤ q → A q := fun q h => by rw [← hAe]; exact Or.inr h
  have hS : va_S A s.heap s.heap [] := va_S.rf
  have hP : va_P (dC, dI) vwCl [(h0, .inr (7, [.ref a0, v1, .ref p0, v3, v4, v5, v6, .ref w0, .ref x0, .int lc, v10, v11, v12, v13, v14, v15, v16, v17, v18, v19, v20, v21, v22, v23, v24, v25, v26, v27])), (a0, .inl (ac, 38, .inl nf)), (p0, .inl (pc, 7, .inr (.inl pf))), (w0, .inl (wc, 7, .inl wf)), (x0, .inl (xc, 7, .inl xf))] s.heap := hP
  have hl := lv_entry ([.ref h0, .int 4, .int us, .int cs]) (n := 5) (Nat.le_of_ble_eq_true rfl)
  rw [lg_entry_eq]
  generalize (lg_sl ([.ref h0, .int 4, .int us, .int cs]) ++ List.replicate (5 - (lg_sl ([.ref h0, .int 4, .int us, .int cs])).length) Slot.unset).toArray = ls at hl ⊢
  have hl : lv_has ls 5 [(0, .ref h0), (1, .int 4), (2, .int us), (3, .int cs)] := hl
  refine lv_iload_n hx hb dX9_goOn_0 rfl (lv_at hl 1 rfl) ?_
  refine lv_aload_n hx hb dX9_goOn_1 rfl (lv_at hl 0 rfl) ?_
  refine va_get (D := (dC, dI)) (ci := 7) (v := .ref a0) (C := RX9) (T := TX9) (N := 28) hx hb hts inX9 hown hK hP 0 rfl rfl 0 (by decide) (hts _ (List.mem_of_getElem? (i := 1) rfl)) (fun _ h9 => h9) rfl dX9_goOn_2 ?_
  refine lv_iconst (v := 1) hx hb dX9_goOn_5 (by decide) ?_
  refine va_iald hx hb hK hP 1 0 rfl rfl (vp_in_nI (n := 1) (by decide) (by decide)) dX9_goOn_6 ?_
  refine pp_ti (y := nf 1) rfl ?_
  refine lv_topi (fun n_1 en_1 => ?_)
  have tn_1 : n_1.toInt = (nf 1).toInt ∧ 0 ≤ n_1.toInt ∧ n_1.toInt ≤ 7 := mI_r1 hI en_1
  clear en_1
  refine lv_icmp_ne (tgt := 60) hx hb dX9_goOn_7 (by decide) (fun c_2 => ?_) (fun c_2 => ?_)
  · skip
    have tc_2 : ¬ 4 = n_1.toInt := fun h => c_2 ((fa_eq _ _).mpr h)
    refine lv_iconst (v := 0) hx hb dX9_goOn_60 (by decide) ?_
    refine lv_istore (lv' := [(4, .int 0), (0, .ref h0), (1, .int 4), (2, .int us), (3, .int cs)]) hx hb dX9_goOn_61 hl (by decide) rfl (fun ls hl => ?_)
    refine pp_loop (ι := Int32 × Int32 × (Nat → Int32) × (Nat → Int32)) (fun ⟨v4_63, y9, y7, y8⟩ => ((nf 1).toInt - v4_63.toInt).toNat) (fun ⟨v4_63, y9, y7, y8⟩ H locs ls => ((y7 0).toInt = (wf 0).toInt) ∧ ((y7 1).toInt = (wf 1).toInt) ∧ ((y7 2).toInt = (wf 2).toInt) ∧ ((y7 3).toInt = (wf 3).toInt) ∧ (0 ≤ v4_63.toInt) ∧ va_P (dC, dI) vwCl [(h0, .inr (7, [.ref a0, v1, .ref p0, v3, v4, v5, v6, .ref w0, .ref x0, .int y9, v10, v11, v12, v13, v14, v15, v16, v17, v18, v19, v20, v21, v22, v23, v24, v25, v26, v27])), (a0, .inl (ac, 38, .inl nf)), (p0, .inl (pc, 7, .inr (.inl pf))), (w0, .inl (wc, 7, .inl y7)), (x0, .inl (xc, 7, .inl y8))] H ∧ va_D A [(h0, .inr (7, [.ref a0, v1, .ref p0, v3, v4, v5, v6, .ref w0, .ref x0, .int y9, v10, v11, v12, v13, v14, v15, v16, v17, v18, v19, v20, v21, v22, v23, v24, v25, v26, v27])), (a0, .inl (ac, 38, .inl nf)), (p0, .inl (pc, 7, .inr (.inl pf))), (w0, .inl (wc, 7, .inl y7)), (x0, .inl (xc, 7, .inl y8))] ∧ va_S A s.heap H locs ∧ lv_has ls 5 [(4, .int v4_63), (0, .ref h0), (1, .int 4), (2, .int us), (3, .int cs)]) ?_ (0, lc, wf, xf) _ _ _ ⟨(by first | omega | decide | (simp only [fa_lt, fa_le, fa_eq, and_true, true_and, and_false, false_and, not_true_eq_false, not_false_eq_true, li_0, li_1, li_2, li_3, li_4, li_5, li_6, li_7, li_8, li_9, li_10, li_12, li_15, li_16, li_20, li_30, li_34, li_38, li_40, li_63, li_64, li_65, li_78, li_120, li_1000, li_4000, li_10000, li_11077, li_255, li_65535, li_m1, li_m2, li_m1000000001, li_m1000000002, li_m1000000003, li_m1000000004, li_m1000000005, li_m1000000006, li_m1000000007, or_true, true_or, or_false, false_or, implies_true, true_implies, false_implies] <;> omega)), (by first | omega | decide | (simp only [fa_lt, fa_le, fa_eq, and_true, true_and, and_false, false_and, not_true_eq_false, not_false_eq_true, li_0, li_1, li_2, li_3, li_4, li_5, li_6, li_7, li_8, li_9, li_10, li_12, li_15, li_16, li_20, li_30, li_34, li_38, li_40, li_63, li_64, li_65, li_78, li_120, li_1000, li_4000, li_10000, li_11077, li_255, li_65535, li_m1, li_m2, li_m1000000001, li_m1000000002, li_m1000000003, li_m1000000004, li_m1000000005, li_m1000000006, li_m1000000007, or_true, true_or, or_false, false_or, implies_true, true_implies, false_implies] <;> omega)), (by first | omega | decide | (simp only [fa_lt, fa_le, fa_eq, and_true, true_and, and_false, false_and, not_true_eq_false, not_false_eq_true, li_0, li_1, li_2, li_3, li_4, li_5, li_6, li_7, li_8, li_9, li_10, li_12, li_15, li_16, li_20, li_30, li_34, li_38, li_40, li_63, li_64, li_65, li_78, li_120, li_1000, li_4000, li_10000, li_11077, li_255, li_65535, li_m1, li_m2, li_m1000000001, li_m1000000002, li_m1000000003, li_m1000000004, li_m1000000005, li_m1000000006, li_m1000000007, or_true, true_or, or_false, false_or, implies_true, true_implies, false_implies] <;> omega)), (by first | omega | decide | (simp only [fa_lt, fa_le, fa_eq, and_true, true_and, and_false, false_and, not_true_eq_false, not_false_eq_true, li_0, li_1, li_2, li_3, li_4, li_5, li_6, li_7, li_8, li_9, li_10, li_12, li_15, li_16, li_20, li_30, li_34, li_38, li_40, li_63, li_64, li_65, li_78, li_120, li_1000, li_4000, li_10000, li_11077, li_255, li_65535, li_m1, li_m2, li_m1000000001, li_m1000000002, li_m1000000003, li_m1000000004, li_m1000000005, li_m1000000006, li_m1000000007, or_true, true_or, or_false, false_or, implies_true, true_implies, false_implies] <;> omega)), (by first | omega | decide | (simp only [fa_lt, fa_le, fa_eq, and_true, true_and, and_false, false_and, not_true_eq_false, not_false_eq_true, li_0, li_1, li_2, li_3, li_4, li_5, li_6, li_7, li_8, li_9, li_10, li_12, li_15, li_16, li_20, li_30, li_34, li_38, li_40, li_63, li_64, li_65, li_78, li_120, li_1000, li_4000, li_10000, li_11077, li_255, li_65535, li_m1, li_m2, li_m1000000001, li_m1000000002, li_m1000000003, li_m1000000004, li_m1000000005, li_m1000000006, li_m1000000007, or_true, true_or, or_false, false_or, implies_true, true_implies, false_implies] <;> omega)), hP.sub [0, 1, 2, 3, 4] rfl, hD.sub [0, 1, 2, 3, 4] (by decide) rfl, hS, lv_sub hl [0, 1, 2, 3, 4] rfl⟩
    intro k_3 ihk_3 u H locs ls hm hI
    obtain ⟨v4_63, y9, y7, y8⟩ := u
    obtain ⟨jk_3_0, jk_3_1, jk_3_2, jk_3_3, jk_3_4, hP, hD, hS, hl⟩ := hI
    have hmk_3 : ((nf 1).toInt - v4_63.toInt).toNat < k_3 + 1 := hm
    clear hm
    have jk_3_0 : (y7 0).toInt = (wf 0).toInt := jk_3_0
    have jk_3_1 : (y7 1).toInt = (wf 1).toInt := jk_3_1
    have jk_3_2 : (y7 2).toInt = (wf 2).toInt := jk_3_2
    have jk_3_3 : (y7 3).toInt = (wf 3).toInt := jk_3_3
    have jk_3_4 : 0 ≤ v4_63.toInt := jk_3_4
    have hl : lv_has ls 5 [(4, .int v4_63), (0, .ref h0), (1, .int 4), (2, .int us), (3, .int cs)] := hl
    have hP : va_P (dC, dI) vwCl [(h0, .inr (7, [.ref a0, v1, .ref p0, v3, v4, v5, v6, .ref w0, .ref x0, .int y9, v10, v11, v12, v13, v14, v15, v16, v17, v18, v19, v20, v21, v22, v23, v24, v25, v26, v27])), (a0, .inl (ac, 38, .inl nf)), (p0, .inl (pc, 7, .inr (.inl pf))), (w0, .inl (wc, 7, .inl y7)), (x0, .inl (xc, 7, .inl y8))] H := hP
    have hD : va_D A [(h0, .inr (7, [.ref a0, v1, .ref p0, v3, v4, v5, v6, .ref w0, .ref x0, .int y9, v10, v11, v12, v13, v14, v15, v16, v17, v18, v19, v20, v21, v22, v23, v24, v25, v26, v27])), (a0, .inl (ac, 38, .inl nf)), (p0, .inl (pc, 7, .inr (.inl pf))), (w0, .inl (wc, 7, .inl y7)), (x0, .inl (xc, 7, .inl y8))] := hD
    refine lv_iload hx hb dX9_goOn_63 (lv_at hl 0 rfl) ?_
    refine lv_aload_n hx hb dX9_goOn_65 rfl (lv_at hl 1 rfl) ?_
    refine va_get (D := (dC, dI)) (ci := 7) (v := .ref a0) (C := RX9) (T := TX9) (N := 28) hx hb hts inX9 hown hK hP 0 rfl rfl 0 (by decide) (hts _ (List.mem_of_getElem? (i := 1) rfl)) (fun _ h9 => h9) rfl dX9_goOn_66 ?_
    refine lv_iconst (v := 1) hx hb dX9_goOn_69 (by decide) ?_
    refine va_iald hx hb hK hP 1 0 rfl rfl (vp_in_nI (n := 1) (by decide) (by decide)) dX9_goOn_70 ?_
    refine pp_ti (y := nf 1) rfl ?_
    refine lv_topi (fun n_4 en_4 => ?_)
    have tn_4 : n_4.toInt = (nf 1).toInt ∧ 0 ≤ n_4.toInt ∧ n_4.toInt ≤ 7 := mI_r1 hI en_4
    clear en_4
    have rc_5_x := pp_rng v4_63
    have rc_5_y := pp_rng n_4
    refine lv_icmp_ge (tgt := 134) hx hb dX9_goOn_71 (by decide) (fun c_5 => ?_) (fun c_5 => ?_)
    · skip
      have tc_5 : n_4.toInt ≤ v4_63.toInt := (fa_le _ _).mp c_5
      have hP9 := hP.sub (ws' := [(h0, .inr (7, [.ref a0, v1, .ref p0, v3, v4, v5, v6, .ref w0, .ref x0, .int y9, v10, v11, v12, v13, v14, v15, v16, v17, v18, v19, v20, v21, v22, v23, v24, v25, v26, v27])), (a0, .inl (ac, 38, .inl nf)), (p0, .inl (pc, 7, .inr (.inl pf))), (w0, .inl (wc, 7, .inl y7)), (x0, .inl (xc, 7, .inl y8))]) [0, 1, 2, 3, 4] rfl
      have hD9 := hD.sub (ws' := [(h0, .inr (7, [.ref a0, v1, .ref p0, v3, v4, v5, v6, .ref w0, .ref x0, .int y9, v10, v11, v12, v13, v14, v15, v16, v17, v18, v19, v20, v21, v22, v23, v24, v25, v26, v27])), (a0, .inl (ac, 38, .inl nf)), (p0, .inl (pc, 7, .inr (.inl pf))), (w0, .inl (wc, 7, .inl y7)), (x0, .inl (xc, 7, .inl y8))]) [0, 1, 2, 3, 4] (by decide) rfl
      have hK9 := hK.sub (tys' := [(ac, .int), (pc, .long), (wc, .int), (xc, .int)]) [0, 1, 2, 3] rfl
      exact W.vret hx hb hr (fun t ht hW => ⟨⟨(), rfl, trivial, y9, y7, y8, (by first | omega | decide | (simp only [fa_lt, fa_le, fa_eq, and_true, true_and, and_false, false_and, not_true_eq_false, not_false_eq_true, li_0, li_1, li_2, li_3, li_4, li_5, li_6, li_7, li_8, li_9, li_10, li_12, li_15, li_16, li_20, li_30, li_34, li_38, li_40, li_63, li_64, li_65, li_78, li_120, li_1000, li_4000, li_10000, li_11077, li_255, li_65535, li_m1, li_m2, li_m1000000001, li_m1000000002, li_m1000000003, li_m1000000004, li_m1000000005, li_m1000000006, li_m1000000007, or_true, true_or, or_false, false_or, implies_true, true_implies, false_implies] <;> omega)), by rw [ht]; exact hP9, va_K.moved hW.alike hK9, hD9⟩, hS.F ht⟩) hS.2.2 dX9_goOn_134
    · skip
      have tc_5 : ¬ n_4.toInt ≤ v4_63.toInt := fun h => c_5 ((fa_le _ _).mpr h)
      refine lv_iload_n hx hb dX9_goOn_74 rfl (lv_at hl 3 rfl) ?_
      refine lv_iload hx hb dX9_goOn_75 (lv_at hl 0 rfl) ?_
      refine lv_ishr hx hb dX9_goOn_77 ?_
      refine lv_topi (fun n_6 en_6 => ?_)
      clear en_6
      refine lv_iconst (v := 1) hx hb dX9_goOn_78 (by decide) ?_
      refine lv_iand hx hb dX9_goOn_79 ?_
      refine lv_topi (fun n_7 en_7 => ?_)
      clear en_7
      refine lv_if_ne (tgt := 128) hx hb dX9_goOn_80 (by decide) (fun c_8 => ?_) (fun c_8 => ?_)
      · skip
        have tc_8 : ¬ n_7.toInt = 0 := fun h => c_8 ((fa_eq _ _).mpr h)
        obtain ⟨n_9, en_9⟩ : ∃ y : Int32, y = v4_63 + 1 := ⟨_, rfl⟩
        have tn_9 : n_9.toInt = v4_63.toInt + 1 := pp_add en_9 rfl rfl (by omega) (by omega)
        refine lv_iinc (v := n_9) (lv' := [(4, .int n_9), (0, .ref h0), (1, .int 4), (2, .int us), (3, .int cs)]) hx hb dX9_goOn_128 hl (k := 0) rfl (by rw [en_9]; rfl) (by decide) rfl (fun ls hl => ?_)
        clear en_9
        refine lv_goto (tgt := 63) hx hb dX9_goOn_131 (by decide) ?_
        exact ihk_3 (n_9, y9, y7, y8) _ _ _ (by show ((nf 1).toInt - n_9.toInt).toNat < k_3; omega) ⟨(by first | omega | decide | (simp only [fa_lt, fa_le, fa_eq, and_true, true_and, and_false, false_and, not_true_eq_false, not_false_eq_true, li_0, li_1, li_2, li_3, li_4, li_5, li_6, li_7, li_8, li_9, li_10, li_12, li_15, li_16, li_20, li_30, li_34, li_38, li_40, li_63, li_64, li_65, li_78, li_120, li_1000, li_4000, li_10000, li_11077, li_255, li_65535, li_m1, li_m2, li_m1000000001, li_m1000000002, li_m1000000003, li_m1000000004, li_m1000000005, li_m1000000006, li_m1000000007, or_true, true_or, or_false, false_or, implies_true, true_implies, false_implies] <;> omega)), (by first | omega | decide | (simp only [fa_lt, fa_le, fa_eq, and_true, true_and, and_false, false_and, not_true_eq_false, not_false_eq_true, li_0, li_1, li_2, li_3, li_4, li_5, li_6, li_7, li_8, li_9, li_10, li_12, li_15, li_16, li_20, li_30, li_34, li_38, li_40, li_63, li_64, li_65, li_78, li_120, li_1000, li_4000, li_10000, li_11077, li_255, li_65535, li_m1, li_m2, li_m1000000001, li_m1000000002, li_m1000000003, li_m1000000004, li_m1000000005, li_m1000000006, li_m1000000007, or_true, true_or, or_false, false_or, implies_true, true_implies, false_implies] <;> omega)), (by first | omega | decide | (simp only [fa_lt, fa_le, fa_eq, and_true, true_and, and_false, false_and, not_true_eq_false, not_false_eq_true, li_0, li_1, li_2, li_3, li_4, li_5, li_6, li_7, li_8, li_9, li_10, li_12, li_15, li_16, li_20, li_30, li_34, li_38, li_40, li_63, li_64, li_65, li_78, li_120, li_1000, li_4000, li_10000, li_11077, li_255, li_65535, li_m1, li_m2, li_m1000000001, li_m1000000002, li_m1000000003, li_m1000000004, li_m1000000005, li_m1000000006, li_m1000000007, or_true, true_or, or_false, false_or, implies_true, true_implies, false_implies] <;> omega)), (by first | omega | decide | (simp only [fa_lt, fa_le, fa_eq, and_true, true_and, and_false, false_and, not_true_eq_false, not_false_eq_true, li_0, li_1, li_2, li_3, li_4, li_5, li_6, li_7, li_8, li_9, li_10, li_12, li_15, li_16, li_20, li_30, li_34, li_38, li_40, li_63, li_64, li_65, li_78, li_120, li_1000, li_4000, li_10000, li_11077, li_255, li_65535, li_m1, li_m2, li_m1000000001, li_m1000000002, li_m1000000003, li_m1000000004, li_m1000000005, li_m1000000006, li_m1000000007, or_true, true_or, or_false, false_or, implies_true, true_implies, false_implies] <;> omega)), (by first | omega | decide | (simp only [fa_lt, fa_le, fa_eq, and_true, true_and, and_false, false_and, not_true_eq_false, not_false_eq_true, li_0, li_1, li_2, li_3, li_4, li_5, li_6, li_7, li_8, li_9, li_10, li_12, li_15, li_16, li_20, li_30, li_34, li_38, li_40, li_63, li_64, li_65, li_78, li_120, li_1000, li_4000, li_10000, li_11077, li_255, li_65535, li_m1, li_m2, li_m1000000001, li_m1000000002, li_m1000000003, li_m1000000004, li_m1000000005, li_m1000000006, li_m1000000007, or_true, true_or, or_false, false_or, implies_true, true_implies, false_implies] <;> omega)), hP.sub [0, 1, 2, 3, 4] rfl, hD.sub [0, 1, 2, 3, 4] (by decide) rfl, hS, lv_sub hl [0, 1, 2, 3, 4] rfl⟩
      · skip
        have tc_8 : n_7.toInt = 0 := (fa_eq _ _).mp c_8
        refine lv_aload_n hx hb dX9_goOn_83 rfl (lv_at hl 1 rfl) ?_
        refine va_get (D := (dC, dI)) (ci := 7) (v := .ref w0) (C := RX9) (T := TX9) (N := 28) hx hb hts inX9 hown hK hP 0 rfl rfl 7 (by decide) (hts _ (List.mem_of_getElem? (i := 2) rfl)) (fun _ h9 => h9) rfl dX9_goOn_84 ?_
        refine lv_iload_n hx hb dX9_goOn_87 rfl (lv_at hl 2 rfl) ?_
        refine lv_iload hx hb dX9_goOn_88 (lv_at hl 0 rfl) ?_
        refine va_iast hx hb hK hP hD hS 3 2 rfl rfl (vp_in_nI (n := 4) (by decide) (by decide)) dX9_goOn_90 (fun H locs hP hD hS => ?_)
        have hP : va_P (dC, dI) vwCl [(h0, .inr (7, [.ref a0, v1, .ref p0, v3, v4, v5, v6, .ref w0, .ref x0, .int y9, v10, v11, v12, v13, v14, v15, v16, v17, v18, v19, v20, v21, v22, v23, v24, v25, v26, v27])), (a0, .inl (ac, 38, .inl nf)), (p0, .inl (pc, 7, .inr (.inl pf))), (w0, .inl (wc, 7, .inl (upd y7 4 v4_63))), (x0, .inl (xc, 7, .inl y8))] H := hP
        have hD : va_D A [(h0, .inr (7, [.ref a0, v1, .ref p0, v3, v4, v5, v6, .ref w0, .ref x0, .int y9, v10, v11, v12, v13, v14, v15, v16, v17, v18, v19, v20, v21, v22, v23, v24, v25, v26, v27])), (a0, .inl (ac, 38, .inl nf)), (p0, .inl (pc, 7, .inr (.inl pf))), (w0, .inl (wc, 7, .inl (upd y7 4 v4_63))), (x0, .inl (xc, 7, .inl y8))] := hD
        have q_11 : ((upd y7 4 v4_63) 0).toInt = (y7 0).toInt := pp_uN_ne (by decide)
        have q_12 : ((upd y7 4 v4_63) 1).toInt = (y7 1).toInt := pp_uN_ne (by decide)
        have q_13 : ((upd y7 4 v4_63) 2).toInt = (y7 2).toInt := pp_uN_ne (by decide)
        have q_14 : ((upd y7 4 v4_63) 3).toInt = (y7 3).toInt := pp_uN_ne (by decide)
        have q_15 : ((upd y7 4 v4_63) 4).toInt = v4_63.toInt := pp_uN_eq rfl
        have q_16 : ((upd y7 4 v4_63) 5).toInt = (y7 5).toInt := pp_uN_ne (by decide)
        generalize upd y7 4 v4_63 = f_10 at hP hD q_11 q_12 q_13 q_14 q_15 q_16
        have hP : va_P (dC, dI) vwCl [(h0, .inr (7, [.ref a0, v1, .ref p0, v3, v4, v5, v6, .ref w0, .ref x0, .int y9, v10, v11, v12, v13, v14, v15, v16, v17, v18, v19, v20, v21, v22, v23, v24, v25, v26, v27])), (a0, .inl (ac, 38, .inl nf)), (p0, .inl (pc, 7, .inr (.inl pf))), (w0, .inl (wc, 7, .inl f_10)), (x0, .inl (xc, 7, .inl y8))] H := hP
        have hD : va_D A [(h0, .inr (7, [.ref a0, v1, .ref p0, v3, v4, v5, v6, .ref w0, .ref x0, .int y9, v10, v11, v12, v13, v14, v15, v16, v17, v18, v19, v20, v21, v22, v23, v24, v25, v26, v27])), (a0, .inl (ac, 38, .inl nf)), (p0, .inl (pc, 7, .inr (.inl pf))), (w0, .inl (wc, 7, .inl f_10)), (x0, .inl (xc, 7, .inl y8))] := hD
        refine lv_aload_n hx hb dX9_goOn_91 rfl (lv_at hl 1 rfl) ?_
        refine lv_iload_n hx hb dX9_goOn_92 rfl (lv_at hl 2 rfl) ?_
        refine lv_iconst (v := 1) hx hb dX9_goOn_93 (by decide) ?_
        refine lv_iadd hx hb dX9_goOn_94 ?_
        refine pp_ti (y := 5) (by decide) ?_
        refine lv_iload_n hx hb dX9_goOn_95 rfl (lv_at hl 3 rfl) ?_
        refine lv_iconst (v := 1) hx hb dX9_goOn_96 (by decide) ?_
        refine lv_iload hx hb dX9_goOn_97 (lv_at hl 0 rfl) ?_
        refine lv_ishl hx hb dX9_goOn_99 ?_
        refine lv_topi (fun n_17 en_17 => ?_)
        clear en_17
        refine lv_ior hx hb dX9_goOn_100 ?_
        refine lv_topi (fun n_18 en_18 => ?_)
        clear en_18
        refine lv_iload_n hx hb dX9_goOn_101 rfl (lv_at hl 4 rfl) ?_
        refine lv_iload_n hx hb dX9_goOn_102 rfl (lv_at hl 2 rfl) ?_
        refine lv_if_ne (tgt := 110) hx hb dX9_goOn_103 (by decide) (fun _ => ?_) (fun c => absurd c (by decide))
        refine lv_aload_n hx hb dX9_goOn_110 rfl (lv_at hl 1 rfl) ?_
        refine lv_aload_n hx hb dX9_goOn_111 rfl (lv_at hl 1 rfl) ?_
        refine va_get (D := (dC, dI)) (ci := 7) (v := .ref w0) (C := RX9) (T := TX9) (N := 28) hx hb hts inX9 hown hK hP 0 rfl rfl 7 (by decide) (hts _ (List.mem_of_getElem? (i := 2) rfl)) (fun _ h9 => h9) rfl dX9_goOn_112 ?_
        refine lv_iload_n hx hb dX9_goOn_115 rfl (lv_at hl 2 rfl) ?_
        refine lv_iconst (v := 1) hx hb dX9_goOn_116 (by decide) ?_
        refine lv_isub hx hb dX9_goOn_117 ?_
        refine pp_ti (y := 3) (by decide) ?_
        refine va_iald hx hb hK hP 3 2 rfl rfl (vp_in_nI (n := 3) (by decide) (by decide)) dX9_goOn_118 ?_
        refine pp_ti (y := f_10 3) rfl ?_
        refine lv_topi (fun n_19 en_19 => ?_)
        have tn_19 : n_19.toInt = (f_10 3).toInt := congrArg Int32.toInt en_19
        clear en_19
        refine lv_iload hx hb dX9_goOn_119 (lv_at hl 0 rfl) ?_
        have hPc := hP.sub (ws' := [(h0, .inr (7, [.ref a0, v1, .ref p0, v3, v4, v5, v6, .ref w0, .ref x0, .int y9, v10, v11, v12, v13, v14, v15, v16, v17, v18, v19, v20, v21, v22, v23, v24, v25, v26, v27])), (p0, .inl (pc, 7, .inr (.inl pf)))]) [0, 2] rfl
        have hKc := hK.sub (tys' := [(pc, .long)]) [1] rfl
        refine vp_callSi (W.runV (As := [.int n_19, .int v4_63]) (rest := [.int cs, .int n_18, .int 5, .ref h0]) ⟨hx, hb, hml, hown, hts⟩ (m_changesOf l dC dI ad h0 n_19 v4_63 (.ref a0) v1 p0 v3 v4 v5 v6 (.ref w0) (.ref x0) (.int y9) v10 v11 v12 v13 v14 v15 v16 v17 v18 v19 v20 v21 v22 v23 v24 v25 v26 v27 pc pf (by first | omega | decide | (simp only [fa_lt, fa_le, fa_eq, and_true, true_and, and_false, false_and, not_true_eq_false, not_false_eq_true, li_0, li_1, li_2, li_3, li_4, li_5, li_6, li_7, li_8, li_9, li_10, li_12, li_15, li_16, li_20, li_30, li_34, li_38, li_40, li_63, li_64, li_65, li_78, li_120, li_1000, li_4000, li_10000, li_11077, li_255, li_65535, li_m1, li_m2, li_m1000000001, li_m1000000002, li_m1000000003, li_m1000000004, li_m1000000005, li_m1000000006, li_m1000000007, or_true, true_or, or_false, false_or, implies_true, true_implies, false_implies] <;> omega)) (by first | omega | decide | (simp only [fa_lt, fa_le, fa_eq, and_true, true_and, and_false, false_and, not_true_eq_false, not_false_eq_true, li_0, li_1, li_2, li_3, li_4, li_5, li_6, li_7, li_8, li_9, li_10, li_12, li_15, li_16, li_20, li_30, li_34, li_38, li_40, li_63, li_64, li_65, li_78, li_120, li_1000, li_4000, li_10000, li_11077, li_255, li_65535, li_m1, li_m2, li_m1000000001, li_m1000000002, li_m1000000003, li_m1000000004, li_m1000000005, li_m1000000006, li_m1000000007, or_true, true_or, or_false, false_or, implies_true, true_implies, false_implies] <;> omega))) (cwV 2 hts g_m_goOn_4_m_changesOf_161 rfl rfl rfl (by decide +kernel) ⟨(Nat.le_of_ble_eq_true rfl), (Nat.le_of_ble_eq_true rfl)⟩) ⟨preS_blind, va_recv hKc hPc (ci := 7) (q0 := 0) rfl rfl, fun U hU hW => ⟨rfl, preS_at hU hW hPc hKc hev⟩⟩ rfl rfl hl.1 rfl (lv_room (Nat.le_of_ble_eq_true rfl)) dX9_goOn_121 ⟨(Nat.le_of_ble_eq_true rfl), (Nat.le_of_ble_eq_true rfl)⟩) (fun r_20 hw => ?_)
        refine lv_iadd hx hb dX9_goOn_124 ?_
        refine lv_topi (fun n_21 en_21 => ?_)
        clear en_21
        have hPc := hP.sub (ws' := [(h0, .inr (7, [.ref a0, v1, .ref p0, v3, v4, v5, v6, .ref w0, .ref x0, .int y9, v10, v11, v12, v13, v14, v15, v16, v17, v18, v19, v20, v21, v22, v23, v24, v25, v26, v27])), (a0, .inl (ac, 38, .inl nf)), (p0, .inl (pc, 7, .inr (.inl pf))), (w0, .inl (wc, 7, .inl f_10)), (x0, .inl (xc, 7, .inl y8))]) [0, 1, 2, 3, 4] rfl
        have hKc := hK.sub (tys' := [(ac, .int), (pc, .long), (wc, .int), (xc, .int)]) [0, 1, 2, 3] rfl
        have hDc := hD.sub (ws' := [(h0, .inr (7, [.ref a0, v1, .ref p0, v3, v4, v5, v6, .ref w0, .ref x0, .int y9, v10, v11, v12, v13, v14, v15, v16, v17, v18, v19, v20, v21, v22, v23, v24, v25, v26, v27])), (a0, .inl (ac, 38, .inl nf)), (p0, .inl (pc, 7, .inr (.inl pf))), (w0, .inl (wc, 7, .inl f_10)), (x0, .inl (xc, 7, .inl y8))]) [0, 1, 2, 3, 4] (by decide) rfl
        have hFc := va_free (wc := [(h0, .inr (7, [.ref a0, v1, .ref p0, v3, v4, v5, v6, .ref w0, .ref x0, .int y9, v10, v11, v12, v13, v14, v15, v16, v17, v18, v19, v20, v21, v22, v23, v24, v25, v26, v27])), (a0, .inl (ac, 38, .inl nf)), (p0, .inl (pc, 7, .inr (.inl pf))), (w0, .inl (wc, 7, .inl f_10)), (x0, .inl (xc, 7, .inl y8))]) hD hS hA [0, 1, 2, 3, 4] rfl
        refine va_callv (va_runV (As := [.int 5, .int n_18, .int n_21]) (rest := []) ⟨hx, hb, hml, hown, hts⟩ (m_goOn_5 l dC dI ad h0 n_18 n_21 a0 v1 p0 v3 v4 v5 v6 w0 x0 y9 v10 v11 v12 v13 v14 v15 v16 v17 v18 v19 v20 v21 v22 v23 v24 v25 v26 v27 ac nf pc pf wc f_10 xc y8 H.size hI (by first | omega | decide | (simp only [fa_lt, fa_le, fa_eq, and_true, true_and, and_false, false_and, not_true_eq_false, not_false_eq_true, li_0, li_1, li_2, li_3, li_4, li_5, li_6, li_7, li_8, li_9, li_10, li_12, li_15, li_16, li_20, li_30, li_34, li_38, li_40, li_63, li_64, li_65, li_78, li_120, li_1000, li_4000, li_10000, li_11077, li_255, li_65535, li_m1, li_m2, li_m1000000001, li_m1000000002, li_m1000000003, li_m1000000004, li_m1000000005, li_m1000000006, li_m1000000007, or_true, true_or, or_false, false_or, implies_true, true_implies, false_implies] <;> omega)) (by first | omega | decide | (simp only [fa_lt, fa_le, fa_eq, and_true, true_and, and_false, false_and, not_true_eq_false, not_false_eq_true, li_0, li_1, li_2, li_3, li_4, li_5, li_6, li_7, li_8, li_9, li_10, li_12, li_15, li_16, li_20, li_30, li_34, li_38, li_40, li_63, li_64, li_65, li_78, li_120, li_1000, li_4000, li_10000, li_11077, li_255, li_65535, li_m1, li_m2, li_m1000000001, li_m1000000002, li_m1000000003, li_m1000000004, li_m1000000005, li_m1000000006, li_m1000000007, or_true, true_or, or_false, false_or, implies_true, true_implies, false_implies] <;> omega)) (by first | omega | decide | (simp only [fa_lt, fa_le, fa_eq, and_true, true_and, and_false, false_and, not_true_eq_false, not_false_eq_true, li_0, li_1, li_2, li_3, li_4, li_5, li_6, li_7, li_8, li_9, li_10, li_12, li_15, li_16, li_20, li_30, li_34, li_38, li_40, li_63, li_64, li_65, li_78, li_120, li_1000, li_4000, li_10000, li_11077, li_255, li_65535, li_m1, li_m2, li_m1000000001, li_m1000000002, li_m1000000003, li_m1000000004, li_m1000000005, li_m1000000006, li_m1000000007, or_true, true_or, or_false, false_or, implies_true, true_implies, false_implies] <;> omega)) (by first | omega | decide | (simp only [fa_lt, fa_le, fa_eq, and_true, true_and, and_false, false_and, not_true_eq_false, not_false_eq_true, li_0, li_1, li_2, li_3, li_4, li_5, li_6, li_7, li_8, li_9, li_10, li_12, li_15, li_16, li_20, li_30, li_34, li_38, li_40, li_63, li_64, li_65, li_78, li_120, li_1000, li_4000, li_10000, li_11077, li_255, li_65535, li_m1, li_m2, li_m1000000001, li_m1000000002, li_m1000000003, li_m1000000004, li_m1000000005, li_m1000000006, li_m1000000007, or_true, true_or, or_false, false_or, implies_true, true_implies, false_implies] <;> omega)) (by first | omega | decide | (simp only [fa_lt, fa_le, fa_eq, and_true, true_and, and_false, false_and, not_true_eq_false, not_false_eq_true, li_0, li_1, li_2, li_3, li_4, li_5, li_6, li_7, li_8, li_9, li_10, li_12, li_15, li_16, li_20, li_30, li_34, li_38, li_40, li_63, li_64, li_65, li_78, li_120, li_1000, li_4000, li_10000, li_11077, li_255, li_65535, li_m1, li_m2, li_m1000000001, li_m1000000002, li_m1000000003, li_m1000000004, li_m1000000005, li_m1000000006, li_m1000000007, or_true, true_or, or_false, false_or, implies_true, true_implies, false_implies] <;> omega)) (by first | omega | decide | (simp only [fa_lt, fa_le, fa_eq, and_true, true_and, and_false, false_and, not_true_eq_false, not_false_eq_true, li_0, li_1, li_2, li_3, li_4, li_5, li_6, li_7, li_8, li_9, li_10, li_12, li_15, li_16, li_20, li_30, li_34, li_38, li_40, li_63, li_64, li_65, li_78, li_120, li_1000, li_4000, li_10000, li_11077, li_255, li_65535, li_m1, li_m2, li_m1000000001, li_m1000000002, li_m1000000003, li_m1000000004, li_m1000000005, li_m1000000006, li_m1000000007, or_true, true_or, or_false, false_or, implies_true, true_implies, false_implies] <;> omega))) (cwV 3 hts g_m_goOn_4_m_goOn_5_183 rfl rfl rfl (by decide +kernel) ⟨(Nat.le_of_ble_eq_true rfl), (Nat.le_of_ble_eq_true rfl)⟩) ⟨preM_blind, va_recv hKc hPc (ci := 7) (q0 := 0) rfl rfl, fun U hU hW => ⟨rfl, preM_at hU hW hPc hKc hDc hev⟩⟩ rfl rfl hl.1 rfl (lv_room (Nat.le_of_ble_eq_true rfl)) dX9_goOn_125 ⟨(Nat.le_of_ble_eq_true rfl), (Nat.le_of_ble_eq_true rfl)⟩) hS (fun q _ h => hFc q h) hFc (fun u t H1 locs ht hvm hw hB hz1 hk1 hS => ?_)
        obtain ⟨lc_23, wg_24, xg_25, hq_26, hP1, hK1, hD1⟩ := hB
        rw [ht] at hP1
        have hK1 := va_K.moved hvm.symm hK1
        obtain ⟨hP, hD⟩ := va_join (wr := []) (w1 := [(h0, .inr (7, [.ref a0, v1, .ref p0, v3, v4, v5, v6, .ref w0, .ref x0, .int lc_23, v10, v11, v12, v13, v14, v15, v16, v17, v18, v19, v20, v21, v22, v23, v24, v25, v26, v27])), (a0, .inl (ac, 38, .inl nf)), (p0, .inl (pc, 7, .inr (.inl pf))), (w0, .inl (wc, 7, .inl wg_24)), (x0, .inl (xc, 7, .inl xg_25))]) hP hD [0, 1, 2, 3, 4] [] rfl rfl (by decide) (by decide) hk1 hFc hP1 hD1
        generalize H1 = H at hP hS ⊢
        have hP : va_P (dC, dI) vwCl [(h0, .inr (7, [.ref a0, v1, .ref p0, v3, v4, v5, v6, .ref w0, .ref x0, .int lc_23, v10, v11, v12, v13, v14, v15, v16, v17, v18, v19, v20, v21, v22, v23, v24, v25, v26, v27])), (a0, .inl (ac, 38, .inl nf)), (p0, .inl (pc, 7, .inr (.inl pf))), (w0, .inl (wc, 7, .inl wg_24)), (x0, .inl (xc, 7, .inl xg_25))] H := hP
        have hD : va_D A [(h0, .inr (7, [.ref a0, v1, .ref p0, v3, v4, v5, v6, .ref w0, .ref x0, .int lc_23, v10, v11, v12, v13, v14, v15, v16, v17, v18, v19, v20, v21, v22, v23, v24, v25, v26, v27])), (a0, .inl (ac, 38, .inl nf)), (p0, .inl (pc, 7, .inr (.inl pf))), (w0, .inl (wc, 7, .inl wg_24)), (x0, .inl (xc, 7, .inl xg_25))] := hD
        obtain ⟨n_27, en_27⟩ : ∃ y : Int32, y = v4_63 + 1 := ⟨_, rfl⟩
        have tn_27 : n_27.toInt = v4_63.toInt + 1 := pp_add en_27 rfl rfl (by omega) (by omega)
        refine lv_iinc (v := n_27) (lv' := [(4, .int n_27), (0, .ref h0), (1, .int 4), (2, .int us), (3, .int cs)]) hx hb dX9_goOn_128 hl (k := 0) rfl (by rw [en_27]; rfl) (by decide) rfl (fun ls hl => ?_)
        clear en_27
        refine lv_goto (tgt := 63) hx hb dX9_goOn_131 (by decide) ?_
        exact ihk_3 (n_27, lc_23, wg_24, xg_25) _ _ _ (by show ((nf 1).toInt - n_27.toInt).toNat < k_3; omega) ⟨(by first | omega | decide | (simp only [fa_lt, fa_le, fa_eq, and_true, true_and, and_false, false_and, not_true_eq_false, not_false_eq_true, li_0, li_1, li_2, li_3, li_4, li_5, li_6, li_7, li_8, li_9, li_10, li_12, li_15, li_16, li_20, li_30, li_34, li_38, li_40, li_63, li_64, li_65, li_78, li_120, li_1000, li_4000, li_10000, li_11077, li_255, li_65535, li_m1, li_m2, li_m1000000001, li_m1000000002, li_m1000000003, li_m1000000004, li_m1000000005, li_m1000000006, li_m1000000007, or_true, true_or, or_false, false_or, implies_true, true_implies, false_implies] <;> omega)), (by first | omega | decide | (simp only [fa_lt, fa_le, fa_eq, and_true, true_and, and_false, false_and, not_true_eq_false, not_false_eq_true, li_0, li_1, li_2, li_3, li_4, li_5, li_6, li_7, li_8, li_9, li_10, li_12, li_15, li_16, li_20, li_30, li_34, li_38, li_40, li_63, li_64, li_65, li_78, li_120, li_1000, li_4000, li_10000, li_11077, li_255, li_65535, li_m1, li_m2, li_m1000000001, li_m1000000002, li_m1000000003, li_m1000000004, li_m1000000005, li_m1000000006, li_m1000000007, or_true, true_or, or_false, false_or, implies_true, true_implies, false_implies] <;> omega)), (by first | omega | decide | (simp only [fa_lt, fa_le, fa_eq, and_true, true_and, and_false, false_and, not_true_eq_false, not_false_eq_true, li_0, li_1, li_2, li_3, li_4, li_5, li_6, li_7, li_8, li_9, li_10, li_12, li_15, li_16, li_20, li_30, li_34, li_38, li_40, li_63, li_64, li_65, li_78, li_120, li_1000, li_4000, li_10000, li_11077, li_255, li_65535, li_m1, li_m2, li_m1000000001, li_m1000000002, li_m1000000003, li_m1000000004, li_m1000000005, li_m1000000006, li_m1000000007, or_true, true_or, or_false, false_or, implies_true, true_implies, false_implies] <;> omega)), (by first | omega | decide | (simp only [fa_lt, fa_le, fa_eq, and_true, true_and, and_false, false_and, not_true_eq_false, not_false_eq_true, li_0, li_1, li_2, li_3, li_4, li_5, li_6, li_7, li_8, li_9, li_10, li_12, li_15, li_16, li_20, li_30, li_34, li_38, li_40, li_63, li_64, li_65, li_78, li_120, li_1000, li_4000, li_10000, li_11077, li_255, li_65535, li_m1, li_m2, li_m1000000001, li_m1000000002, li_m1000000003, li_m1000000004, li_m1000000005, li_m1000000006, li_m1000000007, or_true, true_or, or_false, false_or, implies_true, true_implies, false_implies] <;> omega)), (by first | omega | decide | (simp only [fa_lt, fa_le, fa_eq, and_true, true_and, and_false, false_and, not_true_eq_false, not_false_eq_true, li_0, li_1, li_2, li_3, li_4, li_5, li_6, li_7, li_8, li_9, li_10, li_12, li_15, li_16, li_20, li_30, li_34, li_38, li_40, li_63, li_64, li_65, li_78, li_120, li_1000, li_4000, li_10000, li_11077, li_255, li_65535, li_m1, li_m2, li_m1000000001, li_m1000000002, li_m1000000003, li_m1000000004, li_m1000000005, li_m1000000006, li_m1000000007, or_true, true_or, or_false, false_or, implies_true, true_implies, false_implies] <;> omega)), hP.sub [0, 1, 2, 3, 4] rfl, hD.sub [0, 1, 2, 3, 4] (by decide) rfl, hS, lv_sub hl [0, 1, 2, 3, 4] rfl⟩
  · skip
    have tc_2 : 4 = n_1.toInt := (fa_eq _ _).mp c_2
    refine lv_aload_n hx hb dX9_goOn_10 rfl (lv_at hl 0 rfl) ?_
    refine va_get (D := (dC, dI)) (ci := 7) (v := .int lc) (C := RX9) (T := TX9) (N := 28) hx hb hts inX9 hown hK hP 0 rfl rfl 9 (by decide) (hts _ (List.mem_of_getElem? (i := 16) rfl)) (fun _ h9 => h9) rfl dX9_goOn_11 ?_
    refine lv_if_lt (tgt := 25) hx hb dX9_goOn_14 (by decide) (fun c_28 => ?_) (fun c_28 => ?_)
    · skip
      have tc_28 : lc.toInt < 0 := (fa_lt _ _).mp c_28
      refine lv_aload_n hx hb dX9_goOn_25 rfl (lv_at hl 0 rfl) ?_
      refine lv_iload_n hx hb dX9_goOn_26 rfl (lv_at hl 3 rfl) ?_
      refine va_put (D := (dC, dI)) (ci := 7) (v := .int cs) (ty := .int) (C := RX9) (T := TX9) (N := 28) hx hb hts inX9 tyX9 tyX9_ok nmX9 hown hK hP hD hS 0 rfl rfl 9 (by decide) (hts _ (List.mem_of_getElem? (i := 16) rfl)) (fun _ h9 => h9) rfl (by decide +kernel) rfl rfl (Nat.le_of_ble_eq_true rfl) dX9_goOn_27 (fun H locs hP hD hS => ?_)
      have hP : va_P (dC, dI) vwCl [(h0, .inr (7, [.ref a0, v1, .ref p0, v3, v4, v5, v6, .ref w0, .ref x0, .int cs, v10, v11, v12, v13, v14, v15, v16, v17, v18, v19, v20, v21, v22, v23, v24, v25, v26, v27])), (a0, .inl (ac, 38, .inl nf)), (p0, .inl (pc, 7, .inr (.inl pf))), (w0, .inl (wc, 7, .inl wf)), (x0, .inl (xc, 7, .inl xf))] H := hP
      have hD : va_D A [(h0, .inr (7, [.ref a0, v1, .ref p0, v3, v4, v5, v6, .ref w0, .ref x0, .int cs, v10, v11, v12, v13, v14, v15, v16, v17, v18, v19, v20, v21, v22, v23, v24, v25, v26, v27])), (a0, .inl (ac, 38, .inl nf)), (p0, .inl (pc, 7, .inr (.inl pf))), (w0, .inl (wc, 7, .inl wf)), (x0, .inl (xc, 7, .inl xf))] := hD
      refine lv_iconst (v := 0) hx hb dX9_goOn_30 (by decide) ?_
      refine lv_istore (lv' := [(4, .int 0), (0, .ref h0), (1, .int 4), (2, .int us), (3, .int cs)]) hx hb dX9_goOn_31 hl (by decide) rfl (fun ls hl => ?_)
      refine pp_loop (ι := Int32 × (Nat → Int32)) (fun ⟨v4_33, z8⟩ => (4 - v4_33.toInt).toNat) (fun ⟨v4_33, z8⟩ H locs ls => (0 ≤ v4_33.toInt) ∧ (v4_33.toInt ≤ 4) ∧ va_P (dC, dI) vwCl [(h0, .inr (7, [.ref a0, v1, .ref p0, v3, v4, v5, v6, .ref w0, .ref x0, .int cs, v10, v11, v12, v13, v14, v15, v16, v17, v18, v19, v20, v21, v22, v23, v24, v25, v26, v27])), (a0, .inl (ac, 38, .inl nf)), (p0, .inl (pc, 7, .inr (.inl pf))), (w0, .inl (wc, 7, .inl wf)), (x0, .inl (xc, 7, .inl z8))] H ∧ va_D A [(h0, .inr (7, [.ref a0, v1, .ref p0, v3, v4, v5, v6, .ref w0, .ref x0, .int cs, v10, v11, v12, v13, v14, v15, v16, v17, v18, v19, v20, v21, v22, v23, v24, v25, v26, v27])), (a0, .inl (ac, 38, .inl nf)), (p0, .inl (pc, 7, .inr (.inl pf))), (w0, .inl (wc, 7, .inl wf)), (x0, .inl (xc, 7, .inl z8))] ∧ va_S A s.heap H locs ∧ lv_has ls 5 [(4, .int v4_33), (0, .ref h0), (1, .int 4), (2, .int us), (3, .int cs)]) ?_ (0, xf) _ _ _ ⟨(by first | omega | decide | (simp only [fa_lt, fa_le, fa_eq, and_true, true_and, and_false, false_and, not_true_eq_false, not_false_eq_true, li_0, li_1, li_2, li_3, li_4, li_5, li_6, li_7, li_8, li_9, li_10, li_12, li_15, li_16, li_20, li_30, li_34, li_38, li_40, li_63, li_64, li_65, li_78, li_120, li_1000, li_4000, li_10000, li_11077, li_255, li_65535, li_m1, li_m2, li_m1000000001, li_m1000000002, li_m1000000003, li_m1000000004, li_m1000000005, li_m1000000006, li_m1000000007, or_true, true_or, or_false, false_or, implies_true, true_implies, false_implies] <;> omega)), (by first | omega | decide | (simp only [fa_lt, fa_le, fa_eq, and_true, true_and, and_false, false_and, not_true_eq_false, not_false_eq_true, li_0, li_1, li_2, li_3, li_4, li_5, li_6, li_7, li_8, li_9, li_10, li_12, li_15, li_16, li_20, li_30, li_34, li_38, li_40, li_63, li_64, li_65, li_78, li_120, li_1000, li_4000, li_10000, li_11077, li_255, li_65535, li_m1, li_m2, li_m1000000001, li_m1000000002, li_m1000000003, li_m1000000004, li_m1000000005, li_m1000000006, li_m1000000007, or_true, true_or, or_false, false_or, implies_true, true_implies, false_implies] <;> omega)), hP.sub [0, 1, 2, 3, 4] rfl, hD.sub [0, 1, 2, 3, 4] (by decide) rfl, hS, lv_sub hl [0, 1, 2, 3, 4] rfl⟩
      intro k_29 ihk_29 u H locs ls hm hI
      obtain ⟨v4_33, z8⟩ := u
      obtain ⟨jk_29_0, jk_29_1, hP, hD, hS, hl⟩ := hI
      have hmk_29 : (4 - v4_33.toInt).toNat < k_29 + 1 := hm
      clear hm
      have jk_29_0 : 0 ≤ v4_33.toInt := jk_29_0
      have jk_29_1 : v4_33.toInt ≤ 4 := jk_29_1
      have hl : lv_has ls 5 [(4, .int v4_33), (0, .ref h0), (1, .int 4), (2, .int us), (3, .int cs)] := hl
      have hP : va_P (dC, dI) vwCl [(h0, .inr (7, [.ref a0, v1, .ref p0, v3, v4, v5, v6, .ref w0, .ref x0, .int cs, v10, v11, v12, v13, v14, v15, v16, v17, v18, v19, v20, v21, v22, v23, v24, v25, v26, v27])), (a0, .inl (ac, 38, .inl nf)), (p0, .inl (pc, 7, .inr (.inl pf))), (w0, .inl (wc, 7, .inl wf)), (x0, .inl (xc, 7, .inl z8))] H := hP
      have hD : va_D A [(h0, .inr (7, [.ref a0, v1, .ref p0, v3, v4, v5, v6, .ref w0, .ref x0, .int cs, v10, v11, v12, v13, v14, v15, v16, v17, v18, v19, v20, v21, v22, v23, v24, v25, v26, v27])), (a0, .inl (ac, 38, .inl nf)), (p0, .inl (pc, 7, .inr (.inl pf))), (w0, .inl (wc, 7, .inl wf)), (x0, .inl (xc, 7, .inl z8))] := hD
      refine lv_iload hx hb dX9_goOn_33 (lv_at hl 0 rfl) ?_
      refine lv_iload_n hx hb dX9_goOn_35 rfl (lv_at hl 2 rfl) ?_
      refine lv_icmp_ge (tgt := 59) hx hb dX9_goOn_36 (by decide) (fun c_30 => ?_) (fun c_30 => ?_)
      · skip
        have tc_30 : 4 ≤ v4_33.toInt := (fa_le _ _).mp c_30
        have hP9 := hP.sub (ws' := [(h0, .inr (7, [.ref a0, v1, .ref p0, v3, v4, v5, v6, .ref w0, .ref x0, .int cs, v10, v11, v12, v13, v14, v15, v16, v17, v18, v19, v20, v21, v22, v23, v24, v25, v26, v27])), (a0, .inl (ac, 38, .inl nf)), (p0, .inl (pc, 7, .inr (.inl pf))), (w0, .inl (wc, 7, .inl wf)), (x0, .inl (xc, 7, .inl z8))]) [0, 1, 2, 3, 4] rfl
        have hD9 := hD.sub (ws' := [(h0, .inr (7, [.ref a0, v1, .ref p0, v3, v4, v5, v6, .ref w0, .ref x0, .int cs, v10, v11, v12, v13, v14, v15, v16, v17, v18, v19, v20, v21, v22, v23, v24, v25, v26, v27])), (a0, .inl (ac, 38, .inl nf)), (p0, .inl (pc, 7, .inr (.inl pf))), (w0, .inl (wc, 7, .inl wf)), (x0, .inl (xc, 7, .inl z8))]) [0, 1, 2, 3, 4] (by decide) rfl
        have hK9 := hK.sub (tys' := [(ac, .int), (pc, .long), (wc, .int), (xc, .int)]) [0, 1, 2, 3] rfl
        exact W.vret hx hb hr (fun t ht hW => ⟨⟨(), rfl, trivial, cs, wf, z8, (by first | omega | decide | (simp only [fa_lt, fa_le, fa_eq, and_true, true_and, and_false, false_and, not_true_eq_false, not_false_eq_true, li_0, li_1, li_2, li_3, li_4, li_5, li_6, li_7, li_8, li_9, li_10, li_12, li_15, li_16, li_20, li_30, li_34, li_38, li_40, li_63, li_64, li_65, li_78, li_120, li_1000, li_4000, li_10000, li_11077, li_255, li_65535, li_m1, li_m2, li_m1000000001, li_m1000000002, li_m1000000003, li_m1000000004, li_m1000000005, li_m1000000006, li_m1000000007, or_true, true_or, or_false, false_or, implies_true, true_implies, false_implies] <;> omega)), by rw [ht]; exact hP9, va_K.moved hW.alike hK9, hD9⟩, hS.F ht⟩) hS.2.2 dX9_goOn_59
      · skip
        have tc_30 : ¬ 4 ≤ v4_33.toInt := fun h => c_30 ((fa_le _ _).mpr h)
        refine lv_aload_n hx hb dX9_goOn_39 rfl (lv_at hl 1 rfl) ?_
        refine va_get (D := (dC, dI)) (ci := 7) (v := .ref x0) (C := RX9) (T := TX9) (N := 28) hx hb hts inX9 hown hK hP 0 rfl rfl 8 (by decide) (hts _ (List.mem_of_getElem? (i := 17) rfl)) (fun _ h9 => h9) rfl dX9_goOn_40 ?_
        refine lv_iload hx hb dX9_goOn_43 (lv_at hl 0 rfl) ?_
        refine lv_aload_n hx hb dX9_goOn_45 rfl (lv_at hl 1 rfl) ?_
        refine va_get (D := (dC, dI)) (ci := 7) (v := .ref w0) (C := RX9) (T := TX9) (N := 28) hx hb hts inX9 hown hK hP 0 rfl rfl 7 (by decide) (hts _ (List.mem_of_getElem? (i := 2) rfl)) (fun _ h9 => h9) rfl dX9_goOn_46 ?_
        refine lv_iload hx hb dX9_goOn_49 (lv_at hl 0 rfl) ?_
        refine va_iald hx hb hK hP 3 2 rfl rfl (vp_in_iff.mpr ⟨by omega, by omega⟩) dX9_goOn_51 ?_
        refine lv_topi (fun n_31 en_31 => ?_)
        clear en_31
        refine va_iast hx hb hK hP hD hS 4 3 rfl rfl (vp_in_iff.mpr ⟨by omega, by omega⟩) dX9_goOn_52 (fun H locs hP hD hS => ?_)
        have hP : va_P (dC, dI) vwCl [(h0, .inr (7, [.ref a0, v1, .ref p0, v3, v4, v5, v6, .ref w0, .ref x0, .int cs, v10, v11, v12, v13, v14, v15, v16, v17, v18, v19, v20, v21, v22, v23, v24, v25, v26, v27])), (a0, .inl (ac, 38, .inl nf)), (p0, .inl (pc, 7, .inr (.inl pf))), (w0, .inl (wc, 7, .inl wf)), (x0, .inl (xc, 7, .inl (upd z8 v4_33.toNatClampNeg n_31)))] H := hP
        have hD : va_D A [(h0, .inr (7, [.ref a0, v1, .ref p0, v3, v4, v5, v6, .ref w0, .ref x0, .int cs, v10, v11, v12, v13, v14, v15, v16, v17, v18, v19, v20, v21, v22, v23, v24, v25, v26, v27])), (a0, .inl (ac, 38, .inl nf)), (p0, .inl (pc, 7, .inr (.inl pf))), (w0, .inl (wc, 7, .inl wf)), (x0, .inl (xc, 7, .inl (upd z8 v4_33.toNatClampNeg n_31)))] := hD
        obtain ⟨n_32, en_32⟩ : ∃ y : Int32, y = v4_33 + 1 := ⟨_, rfl⟩
        have tn_32 : n_32.toInt = v4_33.toInt + 1 := pp_add en_32 rfl rfl (by omega) (by omega)
        refine lv_iinc (v := n_32) (lv' := [(4, .int n_32), (0, .ref h0), (1, .int 4), (2, .int us), (3, .int cs)]) hx hb dX9_goOn_53 hl (k := 0) rfl (by rw [en_32]; rfl) (by decide) rfl (fun ls hl => ?_)
        clear en_32
        refine lv_goto (tgt := 33) hx hb dX9_goOn_56 (by decide) ?_
        exact ihk_29 (n_32, (upd z8 v4_33.toNatClampNeg n_31)) _ _ _ (by show (4 - n_32.toInt).toNat < k_29; omega) ⟨(by first | omega | decide | (simp only [fa_lt, fa_le, fa_eq, and_true, true_and, and_false, false_and, not_true_eq_false, not_false_eq_true, li_0, li_1, li_2, li_3, li_4, li_5, li_6, li_7, li_8, li_9, li_10, li_12, li_15, li_16, li_20, li_30, li_34, li_38, li_40, li_63, li_64, li_65, li_78, li_120, li_1000, li_4000, li_10000, li_11077, li_255, li_65535, li_m1, li_m2, li_m1000000001, li_m1000000002, li_m1000000003, li_m1000000004, li_m1000000005, li_m1000000006, li_m1000000007, or_true, true_or, or_false, false_or, implies_true, true_implies, false_implies] <;> omega)), (by first | omega | decide | (simp only [fa_lt, fa_le, fa_eq, and_true, true_and, and_false, false_and, not_true_eq_false, not_false_eq_true, li_0, li_1, li_2, li_3, li_4, li_5, li_6, li_7, li_8, li_9, li_10, li_12, li_15, li_16, li_20, li_30, li_34, li_38, li_40, li_63, li_64, li_65, li_78, li_120, li_1000, li_4000, li_10000, li_11077, li_255, li_65535, li_m1, li_m2, li_m1000000001, li_m1000000002, li_m1000000003, li_m1000000004, li_m1000000005, li_m1000000006, li_m1000000007, or_true, true_or, or_false, false_or, implies_true, true_implies, false_implies] <;> omega)), hP.sub [0, 1, 2, 3, 4] rfl, hD.sub [0, 1, 2, 3, 4] (by decide) rfl, hS, lv_sub hl [0, 1, 2, 3, 4] rfl⟩
    · skip
      have tc_28 : ¬ lc.toInt < 0 := fun h => c_28 ((fa_lt _ _).mpr h)
      refine lv_iload_n hx hb dX9_goOn_17 rfl (lv_at hl 3 rfl) ?_
      refine lv_aload_n hx hb dX9_goOn_18 rfl (lv_at hl 0 rfl) ?_
      refine va_get (D := (dC, dI)) (ci := 7) (v := .int lc) (C := RX9) (T := TX9) (N := 28) hx hb hts inX9 hown hK hP 0 rfl rfl 9 (by decide) (hts _ (List.mem_of_getElem? (i := 16) rfl)) (fun _ h9 => h9) rfl dX9_goOn_19 ?_
      have rc_33_x := pp_rng cs
      have rc_33_y := pp_rng lc
      refine lv_icmp_ge (tgt := 59) hx hb dX9_goOn_22 (by decide) (fun c_33 => ?_) (fun c_33 => ?_)
      · skip
        have tc_33 : lc.toInt ≤ cs.toInt := (fa_le _ _).mp c_33
        have hP9 := hP.sub (ws' := [(h0, .inr (7, [.ref a0, v1, .ref p0, v3, v4, v5, v6, .ref w0, .ref x0, .int lc, v10, v11, v12, v13, v14, v15, v16, v17, v18, v19, v20, v21, v22, v23, v24, v25, v26, v27])), (a0, .inl (ac, 38, .inl nf)), (p0, .inl (pc, 7, .inr (.inl pf))), (w0, .inl (wc, 7, .inl wf)), (x0, .inl (xc, 7, .inl xf))]) [0, 1, 2, 3, 4] rfl
        have hD9 := hD.sub (ws' := [(h0, .inr (7, [.ref a0, v1, .ref p0, v3, v4, v5, v6, .ref w0, .ref x0, .int lc, v10, v11, v12, v13, v14, v15, v16, v17, v18, v19, v20, v21, v22, v23, v24, v25, v26, v27])), (a0, .inl (ac, 38, .inl nf)), (p0, .inl (pc, 7, .inr (.inl pf))), (w0, .inl (wc, 7, .inl wf)), (x0, .inl (xc, 7, .inl xf))]) [0, 1, 2, 3, 4] (by decide) rfl
        have hK9 := hK.sub (tys' := [(ac, .int), (pc, .long), (wc, .int), (xc, .int)]) [0, 1, 2, 3] rfl
        exact W.vret hx hb hr (fun t ht hW => ⟨⟨(), rfl, trivial, lc, wf, xf, (by first | omega | decide | (simp only [fa_lt, fa_le, fa_eq, and_true, true_and, and_false, false_and, not_true_eq_false, not_false_eq_true, li_0, li_1, li_2, li_3, li_4, li_5, li_6, li_7, li_8, li_9, li_10, li_12, li_15, li_16, li_20, li_30, li_34, li_38, li_40, li_63, li_64, li_65, li_78, li_120, li_1000, li_4000, li_10000, li_11077, li_255, li_65535, li_m1, li_m2, li_m1000000001, li_m1000000002, li_m1000000003, li_m1000000004, li_m1000000005, li_m1000000006, li_m1000000007, or_true, true_or, or_false, false_or, implies_true, true_implies, false_implies] <;> omega)), by rw [ht]; exact hP9, va_K.moved hW.alike hK9, hD9⟩, hS.F ht⟩) hS.2.2 dX9_goOn_59
      · skip
        have tc_33 : ¬ lc.toInt ≤ cs.toInt := fun h => c_33 ((fa_le _ _).mpr h)
        refine lv_aload_n hx hb dX9_goOn_25 rfl (lv_at hl 0 rfl) ?_
        refine lv_iload_n hx hb dX9_goOn_26 rfl (lv_at hl 3 rfl) ?_
        refine va_put (D := (dC, dI)) (ci := 7) (v := .int cs) (ty := .int) (C := RX9) (T := TX9) (N := 28) hx hb hts inX9 tyX9 tyX9_ok nmX9 hown hK hP hD hS 0 rfl rfl 9 (by decide) (hts _ (List.mem_of_getElem? (i := 16) rfl)) (fun _ h9 => h9) rfl (by decide +kernel) rfl rfl (Nat.le_of_ble_eq_true rfl) dX9_goOn_27 (fun H locs hP hD hS => ?_)
        have hP : va_P (dC, dI) vwCl [(h0, .inr (7, [.ref a0, v1, .ref p0, v3, v4, v5, v6, .ref w0, .ref x0, .int cs, v10, v11, v12, v13, v14, v15, v16, v17, v18, v19, v20, v21, v22, v23, v24, v25, v26, v27])), (a0, .inl (ac, 38, .inl nf)), (p0, .inl (pc, 7, .inr (.inl pf))), (w0, .inl (wc, 7, .inl wf)), (x0, .inl (xc, 7, .inl xf))] H := hP
        have hD : va_D A [(h0, .inr (7, [.ref a0, v1, .ref p0, v3, v4, v5, v6, .ref w0, .ref x0, .int cs, v10, v11, v12, v13, v14, v15, v16, v17, v18, v19, v20, v21, v22, v23, v24, v25, v26, v27])), (a0, .inl (ac, 38, .inl nf)), (p0, .inl (pc, 7, .inr (.inl pf))), (w0, .inl (wc, 7, .inl wf)), (x0, .inl (xc, 7, .inl xf))] := hD
        refine lv_iconst (v := 0) hx hb dX9_goOn_30 (by decide) ?_
        refine lv_istore (lv' := [(4, .int 0), (0, .ref h0), (1, .int 4), (2, .int us), (3, .int cs)]) hx hb dX9_goOn_31 hl (by decide) rfl (fun ls hl => ?_)
        refine pp_loop (ι := Int32 × (Nat → Int32)) (fun ⟨v4_33, z8⟩ => (4 - v4_33.toInt).toNat) (fun ⟨v4_33, z8⟩ H locs ls => (0 ≤ v4_33.toInt) ∧ (v4_33.toInt ≤ 4) ∧ va_P (dC, dI) vwCl [(h0, .inr (7, [.ref a0, v1, .ref p0, v3, v4, v5, v6, .ref w0, .ref x0, .int cs, v10, v11, v12, v13, v14, v15, v16, v17, v18, v19, v20, v21, v22, v23, v24, v25, v26, v27])), (a0, .inl (ac, 38, .inl nf)), (p0, .inl (pc, 7, .inr (.inl pf))), (w0, .inl (wc, 7, .inl wf)), (x0, .inl (xc, 7, .inl z8))] H ∧ va_D A [(h0, .inr (7, [.ref a0, v1, .ref p0, v3, v4, v5, v6, .ref w0, .ref x0, .int cs, v10, v11, v12, v13, v14, v15, v16, v17, v18, v19, v20, v21, v22, v23, v24, v25, v26, v27])), (a0, .inl (ac, 38, .inl nf)), (p0, .inl (pc, 7, .inr (.inl pf))), (w0, .inl (wc, 7, .inl wf)), (x0, .inl (xc, 7, .inl z8))] ∧ va_S A s.heap H locs ∧ lv_has ls 5 [(4, .int v4_33), (0, .ref h0), (1, .int 4), (2, .int us), (3, .int cs)]) ?_ (0, xf) _ _ _ ⟨(by first | omega | decide | (simp only [fa_lt, fa_le, fa_eq, and_true, true_and, and_false, false_and, not_true_eq_false, not_false_eq_true, li_0, li_1, li_2, li_3, li_4, li_5, li_6, li_7, li_8, li_9, li_10, li_12, li_15, li_16, li_20, li_30, li_34, li_38, li_40, li_63, li_64, li_65, li_78, li_120, li_1000, li_4000, li_10000, li_11077, li_255, li_65535, li_m1, li_m2, li_m1000000001, li_m1000000002, li_m1000000003, li_m1000000004, li_m1000000005, li_m1000000006, li_m1000000007, or_true, true_or, or_false, false_or, implies_true, true_implies, false_implies] <;> omega)), (by first | omega | decide | (simp only [fa_lt, fa_le, fa_eq, and_true, true_and, and_false, false_and, not_true_eq_false, not_false_eq_true, li_0, li_1, li_2, li_3, li_4, li_5, li_6, li_7, li_8, li_9, li_10, li_12, li_15, li_16, li_20, li_30, li_34, li_38, li_40, li_63, li_64, li_65, li_78, li_120, li_1000, li_4000, li_10000, li_11077, li_255, li_65535, li_m1, li_m2, li_m1000000001, li_m1000000002, li_m1000000003, li_m1000000004, li_m1000000005, li_m1000000006, li_m1000000007, or_true, true_or, or_false, false_or, implies_true, true_implies, false_implies] <;> omega)), hP.sub [0, 1, 2, 3, 4] rfl, hD.sub [0, 1, 2, 3, 4] (by decide) rfl, hS, lv_sub hl [0, 1, 2, 3, 4] rfl⟩
        intro k_34 ihk_34 u H locs ls hm hI
        obtain ⟨v4_33, z8⟩ := u
        obtain ⟨jk_34_0, jk_34_1, hP, hD, hS, hl⟩ := hI
        have hmk_34 : (4 - v4_33.toInt).toNat < k_34 + 1 := hm
        clear hm
        have jk_34_0 : 0 ≤ v4_33.toInt := jk_34_0
        have jk_34_1 : v4_33.toInt ≤ 4 := jk_34_1
        have hl : lv_has ls 5 [(4, .int v4_33), (0, .ref h0), (1, .int 4), (2, .int us), (3, .int cs)] := hl
        have hP : va_P (dC, dI) vwCl [(h0, .inr (7, [.ref a0, v1, .ref p0, v3, v4, v5, v6, .ref w0, .ref x0, .int cs, v10, v11, v12, v13, v14, v15, v16, v17, v18, v19, v20, v21, v22, v23, v24, v25, v26, v27])), (a0, .inl (ac, 38, .inl nf)), (p0, .inl (pc, 7, .inr (.inl pf))), (w0, .inl (wc, 7, .inl wf)), (x0, .inl (xc, 7, .inl z8))] H := hP
        have hD : va_D A [(h0, .inr (7, [.ref a0, v1, .ref p0, v3, v4, v5, v6, .ref w0, .ref x0, .int cs, v10, v11, v12, v13, v14, v15, v16, v17, v18, v19, v20, v21, v22, v23, v24, v25, v26, v27])), (a0, .inl (ac, 38, .inl nf)), (p0, .inl (pc, 7, .inr (.inl pf))), (w0, .inl (wc, 7, .inl wf)), (x0, .inl (xc, 7, .inl z8))] := hD
        refine lv_iload hx hb dX9_goOn_33 (lv_at hl 0 rfl) ?_
        refine lv_iload_n hx hb dX9_goOn_35 rfl (lv_at hl 2 rfl) ?_
        refine lv_icmp_ge (tgt := 59) hx hb dX9_goOn_36 (by decide) (fun c_35 => ?_) (fun c_35 => ?_)
        · skip
          have tc_35 : 4 ≤ v4_33.toInt := (fa_le _ _).mp c_35
          have hP9 := hP.sub (ws' := [(h0, .inr (7, [.ref a0, v1, .ref p0, v3, v4, v5, v6, .ref w0, .ref x0, .int cs, v10, v11, v12, v13, v14, v15, v16, v17, v18, v19, v20, v21, v22, v23, v24, v25, v26, v27])), (a0, .inl (ac, 38, .inl nf)), (p0, .inl (pc, 7, .inr (.inl pf))), (w0, .inl (wc, 7, .inl wf)), (x0, .inl (xc, 7, .inl z8))]) [0, 1, 2, 3, 4] rfl
          have hD9 := hD.sub (ws' := [(h0, .inr (7, [.ref a0, v1, .ref p0, v3, v4, v5, v6, .ref w0, .ref x0, .int cs, v10, v11, v12, v13, v14, v15, v16, v17, v18, v19, v20, v21, v22, v23, v24, v25, v26, v27])), (a0, .inl (ac, 38, .inl nf)), (p0, .inl (pc, 7, .inr (.inl pf))), (w0, .inl (wc, 7, .inl wf)), (x0, .inl (xc, 7, .inl z8))]) [0, 1, 2, 3, 4] (by decide) rfl
          have hK9 := hK.sub (tys' := [(ac, .int), (pc, .long), (wc, .int), (xc, .int)]) [0, 1, 2, 3] rfl
          exact W.vret hx hb hr (fun t ht hW => ⟨⟨(), rfl, trivial, cs, wf, z8, (by first | omega | decide | (simp only [fa_lt, fa_le, fa_eq, and_true, true_and, and_false, false_and, not_true_eq_false, not_false_eq_true, li_0, li_1, li_2, li_3, li_4, li_5, li_6, li_7, li_8, li_9, li_10, li_12, li_15, li_16, li_20, li_30, li_34, li_38, li_40, li_63, li_64, li_65, li_78, li_120, li_1000, li_4000, li_10000, li_11077, li_255, li_65535, li_m1, li_m2, li_m1000000001, li_m1000000002, li_m1000000003, li_m1000000004, li_m1000000005, li_m1000000006, li_m1000000007, or_true, true_or, or_false, false_or, implies_true, true_implies, false_implies] <;> omega)), by rw [ht]; exact hP9, va_K.moved hW.alike hK9, hD9⟩, hS.F ht⟩) hS.2.2 dX9_goOn_59
        · skip
          have tc_35 : ¬ 4 ≤ v4_33.toInt := fun h => c_35 ((fa_le _ _).mpr h)
          refine lv_aload_n hx hb dX9_goOn_39 rfl (lv_at hl 1 rfl) ?_
          refine va_get (D := (dC, dI)) (ci := 7) (v := .ref x0) (C := RX9) (T := TX9) (N := 28) hx hb hts inX9 hown hK hP 0 rfl rfl 8 (by decide) (hts _ (List.mem_of_getElem? (i := 17) rfl)) (fun _ h9 => h9) rfl dX9_goOn_40 ?_
          refine lv_iload hx hb dX9_goOn_43 (lv_at hl 0 rfl) ?_
          refine lv_aload_n hx hb dX9_goOn_45 rfl (lv_at hl 1 rfl) ?_
          refine va_get (D := (dC, dI)) (ci := 7) (v := .ref w0) (C := RX9) (T := TX9) (N := 28) hx hb hts inX9 hown hK hP 0 rfl rfl 7 (by decide) (hts _ (List.mem_of_getElem? (i := 2) rfl)) (fun _ h9 => h9) rfl dX9_goOn_46 ?_
          refine lv_iload hx hb dX9_goOn_49 (lv_at hl 0 rfl) ?_
          refine va_iald hx hb hK hP 3 2 rfl rfl (vp_in_iff.mpr ⟨by omega, by omega⟩) dX9_goOn_51 ?_
          refine lv_topi (fun n_36 en_36 => ?_)
          clear en_36
          refine va_iast hx hb hK hP hD hS 4 3 rfl rfl (vp_in_iff.mpr ⟨by omega, by omega⟩) dX9_goOn_52 (fun H locs hP hD hS => ?_)
          have hP : va_P (dC, dI) vwCl [(h0, .inr (7, [.ref a0, v1, .ref p0, v3, v4, v5, v6, .ref w0, .ref x0, .int cs, v10, v11, v12, v13, v14, v15, v16, v17, v18, v19, v20, v21, v22, v23, v24, v25, v26, v27])), (a0, .inl (ac, 38, .inl nf)), (p0, .inl (pc, 7, .inr (.inl pf))), (w0, .inl (wc, 7, .inl wf)), (x0, .inl (xc, 7, .inl (upd z8 v4_33.toNatClampNeg n_36)))] H := hP
          have hD : va_D A [(h0, .inr (7, [.ref a0, v1, .ref p0, v3, v4, v5, v6, .ref w0, .ref x0, .int cs, v10, v11, v12, v13, v14, v15, v16, v17, v18, v19, v20, v21, v22, v23, v24, v25, v26, v27])), (a0, .inl (ac, 38, .inl nf)), (p0, .inl (pc, 7, .inr (.inl pf))), (w0, .inl (wc, 7, .inl wf)), (x0, .inl (xc, 7, .inl (upd z8 v4_33.toNatClampNeg n_36)))] := hD
          obtain ⟨n_37, en_37⟩ : ∃ y : Int32, y = v4_33 + 1 := ⟨_, rfl⟩
          have tn_37 : n_37.toInt = v4_33.toInt + 1 := pp_add en_37 rfl rfl (by omega) (by omega)
          refine lv_iinc (v := n_37) (lv' := [(4, .int n_37), (0, .ref h0), (1, .int 4), (2, .int us), (3, .int cs)]) hx hb dX9_goOn_53 hl (k := 0) rfl (by rw [en_37]; rfl) (by decide) rfl (fun ls hl => ?_)
          clear en_37
          refine lv_goto (tgt := 33) hx hb dX9_goOn_56 (by decide) ?_
          exact ihk_34 (n_37, (upd z8 v4_33.toNatClampNeg n_36)) _ _ _ (by show (4 - n_37.toInt).toNat < k_34; omega) ⟨(by first | omega | decide | (simp only [fa_lt, fa_le, fa_eq, and_true, true_and, and_false, false_and, not_true_eq_false, not_false_eq_true, li_0, li_1, li_2, li_3, li_4, li_5, li_6, li_7, li_8, li_9, li_10, li_12, li_15, li_16, li_20, li_30, li_34, li_38, li_40, li_63, li_64, li_65, li_78, li_120, li_1000, li_4000, li_10000, li_11077, li_255, li_65535, li_m1, li_m2, li_m1000000001, li_m1000000002, li_m1000000003, li_m1000000004, li_m1000000005, li_m1000000006, li_m1000000007, or_true, true_or, or_false, false_or, implies_true, true_implies, false_implies] <;> omega)), (by first | omega | decide | (simp only [fa_lt, fa_le, fa_eq, and_true, true_and, and_false, false_and, not_true_eq_false, not_false_eq_true, li_0, li_1, li_2, li_3, li_4, li_5, li_6, li_7, li_8, li_9, li_10, li_12, li_15, li_16, li_20, li_30, li_34, li_38, li_40, li_63, li_64, li_65, li_78, li_120, li_1000, li_4000, li_10000, li_11077, li_255, li_65535, li_m1, li_m2, li_m1000000001, li_m1000000002, li_m1000000003, li_m1000000004, li_m1000000005, li_m1000000006, li_m1000000007, or_true, true_or, or_false, false_or, implies_true, true_implies, false_implies] <;> omega)), hP.sub [0, 1, 2, 3, 4] rfl, hD.sub [0, 1, 2, 3, 4] (by decide) rfl, hS, lv_sub hl [0, 1, 2, 3, 4] rfl⟩

def w_m_goOn_3 : List Cond := .code yX9_goOn cX9_goOn 5 none :: (([.fieldLink RX9 9 "LampShapesModel" "now" "[I", .fieldLink RX9 26 "LampShapesModel" "row" "[I", .methodLink RX9 161 yX9_changesOf, .instanceMethod yX9_changesOf, .selects RX9 yX9_changesOf yX9_changesOf, .initialized RX9, .code yX9_changesOf cX9_changesOf 3 (some .int), .fieldLink RX9 16 "LampShapesModel" "pictures" "[J", .methodLink RX9 158 yX9_bits, .static yX9_bits, .code yX9_bits cX9_bits 5 (some .int), .methodLink RX9 183 yX9_goOn, .instanceMethod yX9_goOn, .selects RX9 yX9_goOn yX9_goOn, .code yX9_goOn cX9_goOn 5 none, .fieldLink RX9 180 "LampShapesModel" "leastCost" "I", .fieldLink RX9 29 "LampShapesModel" "bestRow" "[I"] : List Cond) ++ wsX90)
set_option maxRecDepth 20000 in
theorem g_m_goOn_3_m_changesOf_161 : GoodIn w_m_goOn_3 (wsV RX9 161 RX9 yX9_changesOf w_m_changesOf) := goodIn_r _ [3, 4, 5, 6, 7, 8, 9, 10, 6, 11, 18, 19, 20, 21, 22, 23, 24, 25, 26, 27, 28, 29, 30, 31, 32, 33, 34, 35, 36, 37, 38, 39, 40, 41, 42, 43, 44, 45] rfl (by decide +kernel)
set_option maxRecDepth 20000 in
theorem g_m_goOn_3_m_goOn_4_183 : GoodIn w_m_goOn_3 (wsV RX9 183 RX9 yX9_goOn w_m_goOn_4) := goodIn_r _ [12, 13, 14, 6, 0, 1, 2, 3, 4, 5, 6, 7, 8, 9, 10, 11, 12, 13, 14, 0, 16, 17, 18, 19, 20, 21, 22, 23, 24, 25, 26, 27, 28, 29, 30, 31, 32, 33, 34, 35, 36, 37, 38, 39, 40, 41, 42, 43, 44, 45] rfl (by decide +kernel)
set_option maxHeartbeats 4000000 in
set_option maxRecDepth 100000 in
theorem m_goOn_3 (l : Launch) (dC : Nat → ClassId) (dI : Nat → Nat → Nat) (ad : Nat → Nat) (h0 : Nat) (us : Int32) (cs : Int32) (a0 : Nat) (v1 : Value) (p0 : Nat) (v3 : Value) (v4 : Value) (v5 : Value) (v6 : Value) (w0 : Nat) (x0 : Nat) (lc : Int32) (v10 : Value) (v11 : Value) (v12 : Value) (v13 : Value) (v14 : Value) (v15 : Value) (v16 : Value) (v17 : Value) (v18 : Value) (v19 : Value) (v20 : Value) (v21 : Value) (v22 : Value) (v23 : Value) (v24 : Value) (v25 : Value) (v26 : Value) (v27 : Value) (ac : ClassId) (nf : Nat → Int32) (pc : ClassId) (pf : Nat → Int64) (wc : ClassId) (wf : Nat → Int32) (xc : ClassId) (xf : Nat → Int32) (sz : Nat) (hI : mI nf) (hm : 3 ≤ (nf 1).toInt ∧ (nf 1).toInt ≤ 6) (hw0 : 0 ≤ (wf 0).toInt ∧ (wf 0).toInt ≤ 6) (hw1 : 0 ≤ (wf 1).toInt ∧ (wf 1).toInt ≤ 6) (hw2 : 0 ≤ (wf 2).toInt ∧ (wf 2).toInt ≤ 6) : Met l yX9_goOn w_m_goOn_3 ({ frames := 4, cells := 0, slots := 0, locals := 94 } : Room) (va_Pc [.ref h0, .int 3, .int us, .int cs] (preM dC dI ad [(ac, .int), (pc, .long), (wc, .int), (xc, .int)] [(h0, .inr (7, [.ref a0, v1, .ref p0, v3, v4, v5, v6, .ref w0, .ref x0, .int lc, v10, v11, v12, v13, v14, v15, v16, v17, v18, v19, v20, v21, v22, v23, v24, v25, v26, v27])), (a0, .inl (ac, 38, .inl nf)), (p0, .inl (pc, 7, .inr (.inl pf))), (w0, .inl (wc, 7, .inl wf)), (x0, .inl (xc, 7, .inl xf))] sz)) (va_Qv (fun (_ : Unit) => True) (fun _ t => ∃ (lc2 : Int32), ∃ (wg : Nat → Int32), ∃ (xg : Nat → Int32), ((wg 0).toInt = (wf 0).toInt ∧ (wg 1).toInt = (wf 1).toInt ∧ (wg 2).toInt = (wf 2).toInt) ∧ va_P (dC, dI) vwCl [(h0, .inr (7, [.ref a0, v1, .ref p0, v3, v4, v5, v6, .ref w0, .ref x0, .int lc2, v10, v11, v12, v13, v14, v15, v16, v17, v18, v19, v20, v21, v22, v23, v24, v25, v26, v27])), (a0, .inl (ac, 38, .inl nf)), (p0, .inl (pc, 7, .inr (.inl pf))), (w0, .inl (wc, 7, .inl wg)), (x0, .inl (xc, 7, .inl xg))] t.heap ∧ va_K (dC, dI) vwCl [(ac, .int), (pc, .long), (wc, .int), (xc, .int)] t ∧ va_D (va_A [(h0, .inr (7, [.ref a0, v1, .ref p0, v3, v4, v5, v6, .ref w0, .ref x0, .int lc, v10, v11, v12, v13, v14, v15, v16, v17, v18, v19, v20, v21, v22, v23, v24, v25, v26, v27])), (a0, .inl (ac, 38, .inl nf)), (p0, .inl (pc, 7, .inr (.inl pf))), (w0, .inl (wc, 7, .inl wf)), (x0, .inl (xc, 7, .inl xf))] sz) [(h0, .inr (7, [.ref a0, v1, .ref p0, v3, v4, v5, v6, .ref w0, .ref x0, .int lc2, v10, v11, v12, v13, v14, v15, v16, v17, v18, v19, v20, v21, v22, v23, v24, v25, v26, v27])), (a0, .inl (ac, 38, .inl nf)), (p0, .inl (pc, 7, .inr (.inl pf))), (w0, .inl (wc, 7, .inl wg)), (x0, .inl (xc, 7, .inl xg))]) (va_A [(h0, .inr (7, [.ref a0, v1, .ref p0, v3, v4, v5, v6, .ref w0, .ref x0, .int lc, v10, v11, v12, v13, v14, v15, v16, v17, v18, v19, v20, v21, v22, v23, v24, v25, v26, v27])), (a0, .inl (ac, 38, .inl nf)), (p0, .inl (pc, 7, .inr (.inl pf))), (w0, .inl (wc, 7, .inl wf)), (x0, .inl (xc, 7, .inl xf))] sz)) 0 0 (va_A [(h0, .inr (7, [.ref a0, v1, .ref p0, v3, v4, v5, v6, .ref w0, .ref x0, .int lc, v10, v11, v12, v13, v14, v15, v16, v17, v18, v19, v20, v21, v22, v23, v24, v25, v26, v27])), (a0, .inl (ac, 38, .inl nf)), (p0, .inl (pc, 7, .inr (.inl pf))), (w0, .inl (wc, 7, .inl wf)), (x0, .inl (xc, 7, .inl xf))] sz) := by
  refine Met.ofW (cc := cX9_goOn) (maxL := 5) (ret := none) (by decide) rfl ?_
  intro p e s m args below meth c s₁ B hml hv
  obtain ⟨rfl, hsz, hP, hK, hD0, hev⟩ := hv
  have hx := B.exec
  have hb := B.bytes
  have hr := B.returns
  have hts := atoms_spec (ws := w_m_goOn_3) B.pre
  have hown : s.vm.findClass RX9 = some m.cls := findClass_of_methodNamed B.named
  have hlocks := B.notSynchronized
  have inX9 : ∀ w ∈ wsX90, w ∈ w_m_goOn_3 := fun w h => List.mem_cons_of_mem _ (List.mem_append_right _ h)
  subst hsz
  have hD := hD0.self (sz := s.heap.size)
  generalize hAe : va_A [(h0, .inr (7, [.ref a0, v1, .ref p0, v3, v4, v5, v6, .ref w0, .ref x0, .int lc, v10, v11, v12, v13, v14, v15, v16, v17, v18, v19, v20, v21, v22, v23, v24, v25, v26, v27])), (a0, .inl (ac, 38, .inl nf)), (p0, .inl (pc, 7, .inr (.inl pf))), (w0, .inl (wc, 7, .inl wf)), (x0, .inl (xc, 7, .inl xf))] s.heap.size = A at hD ⊢
  have hA : ∀ q : Nat, s.heap.size ≤ q → A q := fun q h => by rw [← hAe]; exact Or.inr h
  have hS : va_S A s.heap s.heap [] := va_S.rf
  have hP : va_P (dC, dI) vwCl [(h0, .inr (7, [.ref a0, v1, .ref p0, v3, v4, v5, v6, .ref w0, .ref x0, .int lc, v10, v11, v12, v13, v14, v15, v16, v17, v18, v19, v20, v21, v22, v23, v24, v25, v26, v27])), (a0, .inl (ac, 38, .inl nf)), (p0, .inl (pc, 7, .inr (.inl pf))), (w0, .inl (wc, 7, .inl wf)), (x0, .inl (xc, 7, .inl xf))] s.heap := hP
  have hl := lv_entry ([.ref h0, .int 3, .int us, .int cs]) (n := 5) (Nat.le_of_ble_eq_true rfl)
  rw [lg_entry_eq]
  generalize (lg_sl ([.ref h0, .int 3, .int us, .int cs]) ++ List.replicate (5 - (lg_sl ([.ref h0, .int 3, .int us, .int cs])).length) Slot.unset).toArray = ls at hl ⊢
  have hl : lv_has ls 5 [(0, .ref h0), (1, .int 3), (2, .int us), (3, .int cs)] := hl
  refine lv_iload_n hx hb dX9_goOn_0 rfl (lv_at hl 1 rfl) ?_
  refine lv_aload_n hx hb dX9_goOn_1 rfl (lv_at hl 0 rfl) ?_
  refine va_get (D := (dC, dI)) (ci := 7) (v := .ref a0) (C := RX9) (T := TX9) (N := 28) hx hb hts inX9 hown hK hP 0 rfl rfl 0 (by decide) (hts _ (List.mem_of_getElem? (i := 1) rfl)) (fun _ h9 => h9) rfl dX9_goOn_2 ?_
  refine lv_iconst (v := 1) hx hb dX9_goOn_5 (by decide) ?_
  refine va_iald hx hb hK hP 1 0 rfl rfl (vp_in_nI (n := 1) (by decide) (by decide)) dX9_goOn_6 ?_
  refine pp_ti (y := nf 1) rfl ?_
  refine lv_topi (fun n_1 en_1 => ?_)
  have tn_1 : n_1.toInt = (nf 1).toInt ∧ 0 ≤ n_1.toInt ∧ n_1.toInt ≤ 7 := mI_r1 hI en_1
  clear en_1
  refine lv_icmp_ne (tgt := 60) hx hb dX9_goOn_7 (by decide) (fun c_2 => ?_) (fun c_2 => ?_)
  · skip
    have tc_2 : ¬ 3 = n_1.toInt := fun h => c_2 ((fa_eq _ _).mpr h)
    refine lv_iconst (v := 0) hx hb dX9_goOn_60 (by decide) ?_
    refine lv_istore (lv' := [(4, .int 0), (0, .ref h0), (1, .int 3), (2, .int us), (3, .int cs)]) hx hb dX9_goOn_61 hl (by decide) rfl (fun ls hl => ?_)
    refine pp_loop (ι := Int32 × Int32 × (Nat → Int32) × (Nat → Int32)) (fun ⟨v4_63, y9, y7, y8⟩ => ((nf 1).toInt - v4_63.toInt).toNat) (fun ⟨v4_63, y9, y7, y8⟩ H locs ls => ((y7 0).toInt = (wf 0).toInt) ∧ ((y7 1).toInt = (wf 1).toInt) ∧ ((y7 2).toInt = (wf 2).toInt) ∧ (0 ≤ v4_63.toInt) ∧ va_P (dC, dI) vwCl [(h0, .inr (7, [.ref a0, v1, .ref p0, v3, v4, v5, v6, .ref w0, .ref x0, .int y9, v10, v11, v12, v13, v14, v15, v16, v17, v18, v19, v20, v21, v22, v23, v24, v25, v26, v27])), (a0, .inl (ac, 38, .inl nf)), (p0, .inl (pc, 7, .inr (.inl pf))), (w0, .inl (wc, 7, .inl y7)), (x0, .inl (xc, 7, .inl y8))] H ∧ va_D A [(h0, .inr (7, [.ref a0, v1, .ref p0, v3, v4, v5, v6, .ref w0, .ref x0, .int y9, v10, v11, v12, v13, v14, v15, v16, v17, v18, v19, v20, v21, v22, v23, v24, v25, v26, v27])), (a0, .inl (ac, 38, .inl nf)), (p0, .inl (pc, 7, .inr (.inl pf))), (w0, .inl (wc, 7, .inl y7)), (x0, .inl (xc, 7, .inl y8))] ∧ va_S A s.heap H locs ∧ lv_has ls 5 [(4, .int v4_63), (0, .ref h0), (1, .int 3), (2, .int us), (3, .int cs)]) ?_ (0, lc, wf, xf) _ _ _ ⟨(by first | omega | decide | (simp only [fa_lt, fa_le, fa_eq, and_true, true_and, and_false, false_and, not_true_eq_false, not_false_eq_true, li_0, li_1, li_2, li_3, li_4, li_5, li_6, li_7, li_8, li_9, li_10, li_12, li_15, li_16, li_20, li_30, li_34, li_38, li_40, li_63, li_64, li_65, li_78, li_120, li_1000, li_4000, li_10000, li_11077, li_255, li_65535, li_m1, li_m2, li_m1000000001, li_m1000000002, li_m1000000003, li_m1000000004, li_m1000000005, li_m1000000006, li_m1000000007, or_true, true_or, or_false, false_or, implies_true, true_implies, false_implies] <;> omega)), (by first | omega | decide | (simp only [fa_lt, fa_le, fa_eq, and_true, true_and, and_false, false_and, not_true_eq_false, not_false_eq_true, li_0, li_1, li_2, li_3, li_4, li_5, li_6, li_7, li_8, li_9, li_10, li_12, li_15, li_16, li_20, li_30, li_34, li_38, li_40, li_63, li_64, li_65, li_78, li_120, li_1000, li_4000, li_10000, li_11077, li_255, li_65535, li_m1, li_m2, li_m1000000001, li_m1000000002, li_m1000000003, li_m1000000004, li_m1000000005, li_m1000000006, li_m1000000007, or_true, true_or, or_false, false_or, implies_true, true_implies, false_implies] <;> omega)), (by first | omega | decide | (simp only [fa_lt, fa_le, fa_eq, and_true, true_and, and_false, false_and, not_true_eq_false, not_false_eq_true, li_0, li_1, li_2, li_3, li_4, li_5, li_6, li_7, li_8, li_9, li_10, li_12, li_15, li_16, li_20, li_30, li_34, li_38, li_40, li_63, li_64, li_65, li_78, li_120, li_1000, li_4000, li_10000, li_11077, li_255, li_65535, li_m1, li_m2, li_m1000000001, li_m1000000002, li_m1000000003, li_m1000000004, li_m1000000005, li_m1000000006, li_m1000000007, or_true, true_or, or_false, false_or, implies_true, true_implies, false_implies] <;> omega)), (by first | omega | decide | (simp only [fa_lt, fa_le, fa_eq, and_true, true_and, and_false, false_and, not_true_eq_false, not_false_eq_true, li_0, li_1, li_2, li_3, li_4, li_5, li_6, li_7, li_8, li_9, li_10, li_12, li_15, li_16, li_20, li_30, li_34, li_38, li_40, li_63, li_64, li_65, li_78, li_120, li_1000, li_4000, li_10000, li_11077, li_255, li_65535, li_m1, li_m2, li_m1000000001, li_m1000000002, li_m1000000003, li_m1000000004, li_m1000000005, li_m1000000006, li_m1000000007, or_true, true_or, or_false, false_or, implies_true, true_implies, false_implies] <;> omega)), hP.sub [0, 1, 2, 3, 4] rfl, hD.sub [0, 1, 2, 3, 4] (by decide) rfl, hS, lv_sub hl [0, 1, 2, 3, 4] rfl⟩
    intro k_3 ihk_3 u H locs ls hm hI
    obtain ⟨v4_63, y9, y7, y8⟩ := u
    obtain ⟨jk_3_0, jk_3_1, jk_3_2, jk_3_3, hP, hD, hS, hl⟩ := hI
    have hmk_3 : ((nf 1).toInt - v4_63.toInt).toNat < k_3 + 1 := hm
    clear hm
    have jk_3_0 : (y7 0).toInt = (wf 0).toInt := jk_3_0
    have jk_3_1 : (y7 1).toInt = (wf 1).toInt := jk_3_1
    have jk_3_2 : (y7 2).toInt = (wf 2).toInt := jk_3_2
    have jk_3_3 : 0 ≤ v4_63.toInt := jk_3_3
    have hl : lv_has ls 5 [(4, .int v4_63), (0, .ref h0), (1, .int 3), (2, .int us), (3, .int cs)] := hl
    have hP : va_P (dC, dI) vwCl [(h0, .inr (7, [.ref a0, v1, .ref p0, v3, v4, v5, v6, .ref w0, .ref x0, .int y9, v10, v11, v12, v13, v14, v15, v16, v17, v18, v19, v20, v21, v22, v23, v24, v25, v26, v27])), (a0, .inl (ac, 38, .inl nf)), (p0, .inl (pc, 7, .inr (.inl pf))), (w0, .inl (wc, 7, .inl y7)), (x0, .inl (xc, 7, .inl y8))] H := hP
    have hD : va_D A [(h0, .inr (7, [.ref a0, v1, .ref p0, v3, v4, v5, v6, .ref w0, .ref x0, .int y9, v10, v11, v12, v13, v14, v15, v16, v17, v18, v19, v20, v21, v22, v23, v24, v25, v26, v27])), (a0, .inl (ac, 38, .inl nf)), (p0, .inl (pc, 7, .inr (.inl pf))), (w0, .inl (wc, 7, .inl y7)), (x0, .inl (xc, 7, .inl y8))] := hD
    refine lv_iload hx hb dX9_goOn_63 (lv_at hl 0 rfl) ?_
    refine lv_aload_n hx hb dX9_goOn_65 rfl (lv_at hl 1 rfl) ?_
    refine va_get (D := (dC, dI)) (ci := 7) (v := .ref a0) (C := RX9) (T := TX9) (N := 28) hx hb hts inX9 hown hK hP 0 rfl rfl 0 (by decide) (hts _ (List.mem_of_getElem? (i := 1) rfl)) (fun _ h9 => h9) rfl dX9_goOn_66 ?_
    refine lv_iconst (v := 1) hx hb dX9_goOn_69 (by decide) ?_
    refine va_iald hx hb hK hP 1 0 rfl rfl (vp_in_nI (n := 1) (by decide) (by decide)) dX9_goOn_70 ?_
    refine pp_ti (y := nf 1) rfl ?_
    refine lv_topi (fun n_4 en_4 => ?_)
    have tn_4 : n_4.toInt = (nf 1).toInt ∧ 0 ≤ n_4.toInt ∧ n_4.toInt ≤ 7 := mI_r1 hI en_4
    clear en_4
    have rc_5_x := pp_rng v4_63
    have rc_5_y := pp_rng n_4
    refine lv_icmp_ge (tgt := 134) hx hb dX9_goOn_71 (by decide) (fun c_5 => ?_) (fun c_5 => ?_)
    · skip
      have tc_5 : n_4.toInt ≤ v4_63.toInt := (fa_le _ _).mp c_5
      have hP9 := hP.sub (ws' := [(h0, .inr (7, [.ref a0, v1, .ref p0, v3, v4, v5, v6, .ref w0, .ref x0, .int y9, v10, v11, v12, v13, v14, v15, v16, v17, v18, v19, v20, v21, v22, v23, v24, v25, v26, v27])), (a0, .inl (ac, 38, .inl nf)), (p0, .inl (pc, 7, .inr (.inl pf))), (w0, .inl (wc, 7, .inl y7)), (x0, .inl (xc, 7, .inl y8))]) [0, 1, 2, 3, 4] rfl
      have hD9 := hD.sub (ws' := [(h0, .inr (7, [.ref a0, v1, .ref p0, v3, v4, v5, v6, .ref w0, .ref x0, .int y9, v10, v11, v12, v13, v14, v15, v16, v17, v18, v19, v20, v21, v22, v23, v24, v25, v26, v27])), (a0, .inl (ac, 38, .inl nf)), (p0, .inl (pc, 7, .inr (.inl pf))), (w0, .inl (wc, 7, .inl y7)), (x0, .inl (xc, 7, .inl y8))]) [0, 1, 2, 3, 4] (by decide) rfl
      have hK9 := hK.sub (tys' := [(ac, .int), (pc, .long), (wc, .int), (xc, .int)]) [0, 1, 2, 3] rfl
      exact W.vret hx hb hr (fun t ht hW => ⟨⟨(), rfl, trivial, y9, y7, y8, (by first | omega | decide | (simp only [fa_lt, fa_le, fa_eq, and_true, true_and, and_false, false_and, not_true_eq_false, not_false_eq_true, li_0, li_1, li_2, li_3, li_4, li_5, li_6, li_7, li_8, li_9, li_10, li_12, li_15, li_16, li_20, li_30, li_34, li_38, li_40, li_63, li_64, li_65, li_78, li_120, li_1000, li_4000, li_10000, li_11077, li_255, li_65535, li_m1, li_m2, li_m1000000001, li_m1000000002, li_m1000000003, li_m1000000004, li_m1000000005, li_m1000000006, li_m1000000007, or_true, true_or, or_false, false_or, implies_true, true_implies, false_implies] <;> omega)), by rw [ht]; exact hP9, va_K.moved hW.alike hK9, hD9⟩, hS.F ht⟩) hS.2.2 dX9_goOn_134
    · skip
      have tc_5 : ¬ n_4.toInt ≤ v4_63.toInt := fun h => c_5 ((fa_le _ _).mpr h)
      refine lv_iload_n hx hb dX9_goOn_74 rfl (lv_at hl 3 rfl) ?_
      refine lv_iload hx hb dX9_goOn_75 (lv_at hl 0 rfl) ?_
      refine lv_ishr hx hb dX9_goOn_77 ?_
      refine lv_topi (fun n_6 en_6 => ?_)
      clear en_6
      refine lv_iconst (v := 1) hx hb dX9_goOn_78 (by decide) ?_
      refine lv_iand hx hb dX9_goOn_79 ?_
      refine lv_topi (fun n_7 en_7 => ?_)
      clear en_7
      refine lv_if_ne (tgt := 128) hx hb dX9_goOn_80 (by decide) (fun c_8 => ?_) (fun c_8 => ?_)
      · skip
        have tc_8 : ¬ n_7.toInt = 0 := fun h => c_8 ((fa_eq _ _).mpr h)
        obtain ⟨n_9, en_9⟩ : ∃ y : Int32, y = v4_63 + 1 := ⟨_, rfl⟩
        have tn_9 : n_9.toInt = v4_63.toInt + 1 := pp_add en_9 rfl rfl (by omega) (by omega)
        refine lv_iinc (v := n_9) (lv' := [(4, .int n_9), (0, .ref h0), (1, .int 3), (2, .int us), (3, .int cs)]) hx hb dX9_goOn_128 hl (k := 0) rfl (by rw [en_9]; rfl) (by decide) rfl (fun ls hl => ?_)
        clear en_9
        refine lv_goto (tgt := 63) hx hb dX9_goOn_131 (by decide) ?_
        exact ihk_3 (n_9, y9, y7, y8) _ _ _ (by show ((nf 1).toInt - n_9.toInt).toNat < k_3; omega) ⟨(by first | omega | decide | (simp only [fa_lt, fa_le, fa_eq, and_true, true_and, and_false, false_and, not_true_eq_false, not_false_eq_true, li_0, li_1, li_2, li_3, li_4, li_5, li_6, li_7, li_8, li_9, li_10, li_12, li_15, li_16, li_20, li_30, li_34, li_38, li_40, li_63, li_64, li_65, li_78, li_120, li_1000, li_4000, li_10000, li_11077, li_255, li_65535, li_m1, li_m2, li_m1000000001, li_m1000000002, li_m1000000003, li_m1000000004, li_m1000000005, li_m1000000006, li_m1000000007, or_true, true_or, or_false, false_or, implies_true, true_implies, false_implies] <;> omega)), (by first | omega | decide | (simp only [fa_lt, fa_le, fa_eq, and_true, true_and, and_false, false_and, not_true_eq_false, not_false_eq_true, li_0, li_1, li_2, li_3, li_4, li_5, li_6, li_7, li_8, li_9, li_10, li_12, li_15, li_16, li_20, li_30, li_34, li_38, li_40, li_63, li_64, li_65, li_78, li_120, li_1000, li_4000, li_10000, li_11077, li_255, li_65535, li_m1, li_m2, li_m1000000001, li_m1000000002, li_m1000000003, li_m1000000004, li_m1000000005, li_m1000000006, li_m1000000007, or_true, true_or, or_false, false_or, implies_true, true_implies, false_implies] <;> omega)), (by first | omega | decide | (simp only [fa_lt, fa_le, fa_eq, and_true, true_and, and_false, false_and, not_true_eq_false, not_false_eq_true, li_0, li_1, li_2, li_3, li_4, li_5, li_6, li_7, li_8, li_9, li_10, li_12, li_15, li_16, li_20, li_30, li_34, li_38, li_40, li_63, li_64, li_65, li_78, li_120, li_1000, li_4000, li_10000, li_11077, li_255, li_65535, li_m1, li_m2, li_m1000000001, li_m1000000002, li_m1000000003, li_m1000000004, li_m1000000005, li_m1000000006, li_m1000000007, or_true, true_or, or_false, false_or, implies_true, true_implies, false_implies] <;> omega)), (by first | omega | decide | (simp only [fa_lt, fa_le, fa_eq, and_true, true_and, and_false, false_and, not_true_eq_false, not_false_eq_true, li_0, li_1, li_2, li_3, li_4, li_5, li_6, li_7, li_8, li_9, li_10, li_12, li_15, li_16, li_20, li_30, li_34, li_38, li_40, li_63, li_64, li_65, li_78, li_120, li_1000, li_4000, li_10000, li_11077, li_255, li_65535, li_m1, li_m2, li_m1000000001, li_m1000000002, li_m1000000003, li_m1000000004, li_m1000000005, li_m1000000006, li_m1000000007, or_true, true_or, or_false, false_or, implies_true, true_implies, false_implies] <;> omega)), hP.sub [0, 1, 2, 3, 4] rfl, hD.sub [0, 1, 2, 3, 4] (by decide) rfl, hS, lv_sub hl [0, 1, 2, 3, 4] rfl⟩
      · skip
        have tc_8 : n_7.toInt = 0 := (fa_eq _ _).mp c_8
        refine lv_aload_n hx hb dX9_goOn_83 rfl (lv_at hl 1 rfl) ?_
        refine va_get (D := (dC, dI)) (ci := 7) (v := .ref w0) (C := RX9) (T := TX9) (N := 28) hx hb hts inX9 hown hK hP 0 rfl rfl 7 (by decide) (hts _ (List.mem_of_getElem? (i := 2) rfl)) (fun _ h9 => h9) rfl dX9_goOn_84 ?_
        refine lv_iload_n hx hb dX9_goOn_87 rfl (lv_at hl 2 rfl) ?_
        refine lv_iload hx hb dX9_goOn_88 (lv_at hl 0 rfl) ?_
        refine va_iast hx hb hK hP hD hS 3 2 rfl rfl (vp_in_nI (n := 3) (by decide) (by decide)) dX9_goOn_90 (fun H locs hP hD hS => ?_)
        have hP : va_P (dC, dI) vwCl [(h0, .inr (7, [.ref a0, v1, .ref p0, v3, v4, v5, v6, .ref w0, .ref x0, .int y9, v10, v11, v12, v13, v14, v15, v16, v17, v18, v19, v20, v21, v22, v23, v24, v25, v26, v27])), (a0, .inl (ac, 38, .inl nf)), (p0, .inl (pc, 7, .inr (.inl pf))), (w0, .inl (wc, 7, .inl (upd y7 3 v4_63))), (x0, .inl (xc, 7, .inl y8))] H := hP
        have hD : va_D A [(h0, .inr (7, [.ref a0, v1, .ref p0, v3, v4, v5, v6, .ref w0, .ref x0, .int y9, v10, v11, v12, v13, v14, v15, v16, v17, v18, v19, v20, v21, v22, v23, v24, v25, v26, v27])), (a0, .inl (ac, 38, .inl nf)), (p0, .inl (pc, 7, .inr (.inl pf))), (w0, .inl (wc, 7, .inl (upd y7 3 v4_63))), (x0, .inl (xc, 7, .inl y8))] := hD
        have q_11 : ((upd y7 3 v4_63) 0).toInt = (y7 0).toInt := pp_uN_ne (by decide)
        have q_12 : ((upd y7 3 v4_63) 1).toInt = (y7 1).toInt := pp_uN_ne (by decide)
        have q_13 : ((upd y7 3 v4_63) 2).toInt = (y7 2).toInt := pp_uN_ne (by decide)
        have q_14 : ((upd y7 3 v4_63) 3).toInt = v4_63.toInt := pp_uN_eq rfl
        have q_15 : ((upd y7 3 v4_63) 4).toInt = (y7 4).toInt := pp_uN_ne (by decide)
        have q_16 : ((upd y7 3 v4_63) 5).toInt = (y7 5).toInt := pp_uN_ne (by decide)
        generalize upd y7 3 v4_63 = f_10 at hP hD q_11 q_12 q_13 q_14 q_15 q_16
        have hP : va_P (dC, dI) vwCl [(h0, .inr (7, [.ref a0, v1, .ref p0, v3, v4, v5, v6, .ref w0, .ref x0, .int y9, v10, v11, v12, v13, v14, v15, v16, v17, v18, v19, v20, v21, v22, v23, v24, v25, v26, v27])), (a0, .inl (ac, 38, .inl nf)), (p0, .inl (pc, 7, .inr (.inl pf))), (w0, .inl (wc, 7, .inl f_10)), (x0, .inl (xc, 7, .inl y8))] H := hP
        have hD : va_D A [(h0, .inr (7, [.ref a0, v1, .ref p0, v3, v4, v5, v6, .ref w0, .ref x0, .int y9, v10, v11, v12, v13, v14, v15, v16, v17, v18, v19, v20, v21, v22, v23, v24, v25, v26, v27])), (a0, .inl (ac, 38, .inl nf)), (p0, .inl (pc, 7, .inr (.inl pf))), (w0, .inl (wc, 7, .inl f_10)), (x0, .inl (xc, 7, .inl y8))] := hD
        refine lv_aload_n hx hb dX9_goOn_91 rfl (lv_at hl 1 rfl) ?_
        refine lv_iload_n hx hb dX9_goOn_92 rfl (lv_at hl 2 rfl) ?_
        refine lv_iconst (v := 1) hx hb dX9_goOn_93 (by decide) ?_
        refine lv_iadd hx hb dX9_goOn_94 ?_
        refine pp_ti (y := 4) (by decide) ?_
        refine lv_iload_n hx hb dX9_goOn_95 rfl (lv_at hl 3 rfl) ?_
        refine lv_iconst (v := 1) hx hb dX9_goOn_96 (by decide) ?_
        refine lv_iload hx hb dX9_goOn_97 (lv_at hl 0 rfl) ?_
        refine lv_ishl hx hb dX9_goOn_99 ?_
        refine lv_topi (fun n_17 en_17 => ?_)
        clear en_17
        refine lv_ior hx hb dX9_goOn_100 ?_
        refine lv_topi (fun n_18 en_18 => ?_)
        clear en_18
        refine lv_iload_n hx hb dX9_goOn_101 rfl (lv_at hl 4 rfl) ?_
        refine lv_iload_n hx hb dX9_goOn_102 rfl (lv_at hl 2 rfl) ?_
        refine lv_if_ne (tgt := 110) hx hb dX9_goOn_103 (by decide) (fun _ => ?_) (fun c => absurd c (by decide))
        refine lv_aload_n hx hb dX9_goOn_110 rfl (lv_at hl 1 rfl) ?_
        refine lv_aload_n hx hb dX9_goOn_111 rfl (lv_at hl 1 rfl) ?_
        refine va_get (D := (dC, dI)) (ci := 7) (v := .ref w0) (C := RX9) (T := TX9) (N := 28) hx hb hts inX9 hown hK hP 0 rfl rfl 7 (by decide) (hts _ (List.mem_of_getElem? (i := 2) rfl)) (fun _ h9 => h9) rfl dX9_goOn_112 ?_
        refine lv_iload_n hx hb dX9_goOn_115 rfl (lv_at hl 2 rfl) ?_
        refine lv_iconst (v := 1) hx hb dX9_goOn_116 (by decide) ?_
        refine lv_isub hx hb dX9_goOn_117 ?_
        refine pp_ti (y := 2) (by decide) ?_
        refine va_iald hx hb hK hP 3 2 rfl rfl (vp_in_nI (n := 2) (by decide) (by decide)) dX9_goOn_118 ?_
        refine pp_ti (y := f_10 2) rfl ?_
        refine lv_topi (fun n_19 en_19 => ?_)
        have tn_19 : n_19.toInt = (f_10 2).toInt := congrArg Int32.toInt en_19
        clear en_19
        refine lv_iload hx hb dX9_goOn_119 (lv_at hl 0 rfl) ?_
        have hPc := hP.sub (ws' := [(h0, .inr (7, [.ref a0, v1, .ref p0, v3, v4, v5, v6, .ref w0, .ref x0, .int y9, v10, v11, v12, v13, v14, v15, v16, v17, v18, v19, v20, v21, v22, v23, v24, v25, v26, v27])), (p0, .inl (pc, 7, .inr (.inl pf)))]) [0, 2] rfl
        have hKc := hK.sub (tys' := [(pc, .long)]) [1] rfl
        refine vp_callSi (W.runV (As := [.int n_19, .int v4_63]) (rest := [.int cs, .int n_18, .int 4, .ref h0]) ⟨hx, hb, hml, hown, hts⟩ (m_changesOf l dC dI ad h0 n_19 v4_63 (.ref a0) v1 p0 v3 v4 v5 v6 (.ref w0) (.ref x0) (.int y9) v10 v11 v12 v13 v14 v15 v16 v17 v18 v19 v20 v21 v22 v23 v24 v25 v26 v27 pc pf (by first | omega | decide | (simp only [fa_lt, fa_le, fa_eq, and_true, true_and, and_false, false_and, not_true_eq_false, not_false_eq_true, li_0, li_1, li_2, li_3, li_4, li_5, li_6, li_7, li_8, li_9, li_10, li_12, li_15, li_16, li_20, li_30, li_34, li_38, li_40, li_63, li_64, li_65, li_78, li_120, li_1000, li_4000, li_10000, li_11077, li_255, li_65535, li_m1, li_m2, li_m1000000001, li_m1000000002, li_m1000000003, li_m1000000004, li_m1000000005, li_m1000000006, li_m1000000007, or_true, true_or, or_false, false_or, implies_true, true_implies, false_implies] <;> omega)) (by first | omega | decide | (simp only [fa_lt, fa_le, fa_eq, and_true, true_and, and_false, false_and, not_true_eq_false, not_false_eq_true, li_0, li_1, li_2, li_3, li_4, li_5, li_6, li_7, li_8, li_9, li_10, li_12, li_15, li_16, li_20, li_30, li_34, li_38, li_40, li_63, li_64, li_65, li_78, li_120, li_1000, li_4000, li_10000, li_11077, li_255, li_65535, li_m1, li_m2, li_m1000000001, li_m1000000002, li_m1000000003, li_m1000000004, li_m1000000005, li_m1000000006, li_m1000000007, or_true, true_or, or_false, false_or, implies_true, true_implies, false_implies] <;> omega))) (cwV 2 hts g_m_goOn_3_m_changesOf_161 rfl rfl rfl (by decide +kernel) ⟨(Nat.le_of_ble_eq_true rfl), (Nat.le_of_ble_eq_true rfl)⟩) ⟨preS_blind, va_recv hKc hPc (ci := 7) (q0 := 0) rfl rfl, fun U hU hW => ⟨rfl, preS_at hU hW hPc hKc hev⟩⟩ rfl rfl hl.1 rfl (lv_room (Nat.le_of_ble_eq_true rfl)) dX9_goOn_121 ⟨(Nat.le_of_ble_eq_true rfl), (Nat.le_of_ble_eq_true rfl)⟩) (fun r_20 hw => ?_)
        refine lv_iadd hx hb dX9_goOn_124 ?_
        refine lv_topi (fun n_21 en_21 => ?_)
        clear en_21
        have hPc := hP.sub (ws' := [(h0, .inr (7, [.ref a0, v1, .ref p0, v3, v4, v5, v6, .ref w0, .ref x0, .int y9, v10, v11, v12, v13, v14, v15, v16, v17, v18, v19, v20, v21, v22, v23, v24, v25, v26, v27])), (a0, .inl (ac, 38, .inl nf)), (p0, .inl (pc, 7, .inr (.inl pf))), (w0, .inl (wc, 7, .inl f_10)), (x0, .inl (xc, 7, .inl y8))]) [0, 1, 2, 3, 4] rfl
        have hKc := hK.sub (tys' := [(ac, .int), (pc, .long), (wc, .int), (xc, .int)]) [0, 1, 2, 3] rfl
        have hDc := hD.sub (ws' := [(h0, .inr (7, [.ref a0, v1, .ref p0, v3, v4, v5, v6, .ref w0, .ref x0, .int y9, v10, v11, v12, v13, v14, v15, v16, v17, v18, v19, v20, v21, v22, v23, v24, v25, v26, v27])), (a0, .inl (ac, 38, .inl nf)), (p0, .inl (pc, 7, .inr (.inl pf))), (w0, .inl (wc, 7, .inl f_10)), (x0, .inl (xc, 7, .inl y8))]) [0, 1, 2, 3, 4] (by decide) rfl
        have hFc := va_free (wc := [(h0, .inr (7, [.ref a0, v1, .ref p0, v3, v4, v5, v6, .ref w0, .ref x0, .int y9, v10, v11, v12, v13, v14, v15, v16, v17, v18, v19, v20, v21, v22, v23, v24, v25, v26, v27])), (a0, .inl (ac, 38, .inl nf)), (p0, .inl (pc, 7, .inr (.inl pf))), (w0, .inl (wc, 7, .inl f_10)), (x0, .inl (xc, 7, .inl y8))]) hD hS hA [0, 1, 2, 3, 4] rfl
        refine va_callv (va_runV (As := [.int 4, .int n_18, .int n_21]) (rest := []) ⟨hx, hb, hml, hown, hts⟩ (m_goOn_4 l dC dI ad h0 n_18 n_21 a0 v1 p0 v3 v4 v5 v6 w0 x0 y9 v10 v11 v12 v13 v14 v15 v16 v17 v18 v19 v20 v21 v22 v23 v24 v25 v26 v27 ac nf pc pf wc f_10 xc y8 H.size hI (by first | omega | decide | (simp only [fa_lt, fa_le, fa_eq, and_true, true_and, and_false, false_and, not_true_eq_false, not_false_eq_true, li_0, li_1, li_2, li_3, li_4, li_5, li_6, li_7, li_8, li_9, li_10, li_12, li_15, li_16, li_20, li_30, li_34, li_38, li_40, li_63, li_64, li_65, li_78, li_120, li_1000, li_4000, li_10000, li_11077, li_255, li_65535, li_m1, li_m2, li_m1000000001, li_m1000000002, li_m1000000003, li_m1000000004, li_m1000000005, li_m1000000006, li_m1000000007, or_true, true_or, or_false, false_or, implies_true, true_implies, false_implies] <;> omega)) (by first | omega | decide | (simp only [fa_lt, fa_le, fa_eq, and_true, true_and, and_false, false_and, not_true_eq_false, not_false_eq_true, li_0, li_1, li_2, li_3, li_4, li_5, li_6, li_7, li_8, li_9, li_10, li_12, li_15, li_16, li_20, li_30, li_34, li_38, li_40, li_63, li_64, li_65, li_78, li_120, li_1000, li_4000, li_10000, li_11077, li_255, li_65535, li_m1, li_m2, li_m1000000001, li_m1000000002, li_m1000000003, li_m1000000004, li_m1000000005, li_m1000000006, li_m1000000007, or_true, true_or, or_false, false_or, implies_true, true_implies, false_implies] <;> omega)) (by first | omega | decide | (simp only [fa_lt, fa_le, fa_eq, and_true, true_and, and_false, false_and, not_true_eq_false, not_false_eq_true, li_0, li_1, li_2, li_3, li_4, li_5, li_6, li_7, li_8, li_9, li_10, li_12, li_15, li_16, li_20, li_30, li_34, li_38, li_40, li_63, li_64, li_65, li_78, li_120, li_1000, li_4000, li_10000, li_11077, li_255, li_65535, li_m1, li_m2, li_m1000000001, li_m1000000002, li_m1000000003, li_m1000000004, li_m1000000005, li_m1000000006, li_m1000000007, or_true, true_or, or_false, false_or, implies_true, true_implies, false_implies] <;> omega)) (by first | omega | decide | (simp only [fa_lt, fa_le, fa_eq, and_true, true_and, and_false, false_and, not_true_eq_false, not_false_eq_true, li_0, li_1, li_2, li_3, li_4, li_5, li_6, li_7, li_8, li_9, li_10, li_12, li_15, li_16, li_20, li_30, li_34, li_38, li_40, li_63, li_64, li_65, li_78, li_120, li_1000, li_4000, li_10000, li_11077, li_255, li_65535, li_m1, li_m2, li_m1000000001, li_m1000000002, li_m1000000003, li_m1000000004, li_m1000000005, li_m1000000006, li_m1000000007, or_true, true_or, or_false, false_or, implies_true, true_implies, false_implies] <;> omega)) (by first | omega | decide | (simp only [fa_lt, fa_le, fa_eq, and_true, true_and, and_false, false_and, not_true_eq_false, not_false_eq_true, li_0, li_1, li_2, li_3, li_4, li_5, li_6, li_7, li_8, li_9, li_10, li_12, li_15, li_16, li_20, li_30, li_34, li_38, li_40, li_63, li_64, li_65, li_78, li_120, li_1000, li_4000, li_10000, li_11077, li_255, li_65535, li_m1, li_m2, li_m1000000001, li_m1000000002, li_m1000000003, li_m1000000004, li_m1000000005, li_m1000000006, li_m1000000007, or_true, true_or, or_false, false_or, implies_true, true_implies, false_implies] <;> omega))) (cwV 3 hts g_m_goOn_3_m_goOn_4_183 rfl rfl rfl (by decide +kernel) ⟨(Nat.le_of_ble_eq_true rfl), (Nat.le_of_ble_eq_true rfl)⟩) ⟨preM_blind, va_recv hKc hPc (ci := 7) (q0 := 0) rfl rfl, fun U hU hW => ⟨rfl, preM_at hU hW hPc hKc hDc hev⟩⟩ rfl rfl hl.1 rfl (lv_room (Nat.le_of_ble_eq_true rfl)) dX9_goOn_125 ⟨(Nat.le_of_ble_eq_true rfl), (Nat.le_of_ble_eq_true rfl)⟩) hS (fun q _ h => hFc q h) hFc (fun u t H1 locs ht hvm hw hB hz1 hk1 hS => ?_)
        obtain ⟨lc_23, wg_24, xg_25, hq_26, hP1, hK1, hD1⟩ := hB
        rw [ht] at hP1
        have hK1 := va_K.moved hvm.symm hK1
        obtain ⟨hP, hD⟩ := va_join (wr := []) (w1 := [(h0, .inr (7, [.ref a0, v1, .ref p0, v3, v4, v5, v6, .ref w0, .ref x0, .int lc_23, v10, v11, v12, v13, v14, v15, v16, v17, v18, v19, v20, v21, v22, v23, v24, v25, v26, v27])), (a0, .inl (ac, 38, .inl nf)), (p0, .inl (pc, 7, .inr (.inl pf))), (w0, .inl (wc, 7, .inl wg_24)), (x0, .inl (xc, 7, .inl xg_25))]) hP hD [0, 1, 2, 3, 4] [] rfl rfl (by decide) (by decide) hk1 hFc hP1 hD1
        generalize H1 = H at hP hS ⊢
        have hP : va_P (dC, dI) vwCl [(h0, .inr (7, [.ref a0, v1, .ref p0, v3, v4, v5, v6, .ref w0, .ref x0, .int lc_23, v10, v11, v12, v13, v14, v15, v16, v17, v18, v19, v20, v21, v22, v23, v24, v25, v26, v27])), (a0, .inl (ac, 38, .inl nf)), (p0, .inl (pc, 7, .inr (.inl pf))), (w0, .inl (wc, 7, .inl wg_24)), (x0, .inl (xc, 7, .inl xg_25))] H := hP
        have hD : va_D A [(h0, .inr (7, [.ref a0, v1, .ref p0, v3, v4, v5, v6, .ref w0, .ref x0, .int lc_23, v10, v11, v12, v13, v14, v15, v16, v17, v18, v19, v20, v21, v22, v23, v24, v25, v26, v27])), (a0, .inl (ac, 38, .inl nf)), (p0, .inl (pc, 7, .inr (.inl pf))), (w0, .inl (wc, 7, .inl wg_24)), (x0, .inl (xc, 7, .inl xg_25))] := hD
        obtain ⟨n_27, en_27⟩ : ∃ y : Int32, y = v4_63 + 1 := ⟨_, rfl⟩
        have tn_27 : n_27.toInt = v4_63.toInt + 1 := pp_add en_27 rfl rfl (by omega) (by omega)
        refine lv_iinc (v := n_27) (lv' := [(4, .int n_27), (0, .ref h0), (1, .int 3), (2, .int us), (3, .int cs)]) hx hb dX9_goOn_128 hl (k := 0) rfl (by rw [en_27]; rfl) (by decide) rfl (fun ls hl => ?_)
        clear en_27
        refine lv_goto (tgt := 63) hx hb dX9_goOn_131 (by decide) ?_
        exact ihk_3 (n_27, lc_23, wg_24, xg_25) _ _ _ (by show ((nf 1).toInt - n_27.toInt).toNat < k_3; omega) ⟨(by first | omega | decide | (simp only [fa_lt, fa_le, fa_eq, and_true, true_and, and_false, false_and, not_true_eq_false, not_false_eq_true, li_0, li_1, li_2, li_3, li_4, li_5, li_6, li_7, li_8, li_9, li_10, li_12, li_15, li_16, li_20, li_30, li_34, li_38, li_40, li_63, li_64, li_65, li_78, li_120, li_1000, li_4000, li_10000, li_11077, li_255, li_65535, li_m1, li_m2, li_m1000000001, li_m1000000002, li_m1000000003, li_m1000000004, li_m1000000005, li_m1000000006, li_m1000000007, or_true, true_or, or_false, false_or, implies_true, true_implies, false_implies] <;> omega)), (by first | omega | decide | (simp only [fa_lt, fa_le, fa_eq, and_true, true_and, and_false, false_and, not_true_eq_false, not_false_eq_true, li_0, li_1, li_2, li_3, li_4, li_5, li_6, li_7, li_8, li_9, li_10, li_12, li_15, li_16, li_20, li_30, li_34, li_38, li_40, li_63, li_64, li_65, li_78, li_120, li_1000, li_4000, li_10000, li_11077, li_255, li_65535, li_m1, li_m2, li_m1000000001, li_m1000000002, li_m1000000003, li_m1000000004, li_m1000000005, li_m1000000006, li_m1000000007, or_true, true_or, or_false, false_or, implies_true, true_implies, false_implies] <;> omega)), (by first | omega | decide | (simp only [fa_lt, fa_le, fa_eq, and_true, true_and, and_false, false_and, not_true_eq_false, not_false_eq_true, li_0, li_1, li_2, li_3, li_4, li_5, li_6, li_7, li_8, li_9, li_10, li_12, li_15, li_16, li_20, li_30, li_34, li_38, li_40, li_63, li_64, li_65, li_78, li_120, li_1000, li_4000, li_10000, li_11077, li_255, li_65535, li_m1, li_m2, li_m1000000001, li_m1000000002, li_m1000000003, li_m1000000004, li_m1000000005, li_m1000000006, li_m1000000007, or_true, true_or, or_false, false_or, implies_true, true_implies, false_implies] <;> omega)), (by first | omega | decide | (simp only [fa_lt, fa_le, fa_eq, and_true, true_and, and_false, false_and, not_true_eq_false, not_false_eq_true, li_0, li_1, li_2, li_3, li_4, li_5, li_6, li_7, li_8, li_9, li_10, li_12, li_15, li_16, li_20, li_30, li_34, li_38, li_40, li_63, li_64, li_65, li_78, li_120, li_1000, li_4000, li_10000, li_11077, li_255, li_65535, li_m1, li_m2, li_m1000000001, li_m1000000002, li_m1000000003, li_m1000000004, li_m1000000005, li_m1000000006, li_m1000000007, or_true, true_or, or_false, false_or, implies_true, true_implies, false_implies] <;> omega)), hP.sub [0, 1, 2, 3, 4] rfl, hD.sub [0, 1, 2, 3, 4] (by decide) rfl, hS, lv_sub hl [0, 1, 2, 3, 4] rfl⟩
  · skip
    have tc_2 : 3 = n_1.toInt := (fa_eq _ _).mp c_2
    refine lv_aload_n hx hb dX9_goOn_10 rfl (lv_at hl 0 rfl) ?_
    refine va_get (D := (dC, dI)) (ci := 7) (v := .int lc) (C := RX9) (T := TX9) (N := 28) hx hb hts inX9 hown hK hP 0 rfl rfl 9 (by decide) (hts _ (List.mem_of_getElem? (i := 16) rfl)) (fun _ h9 => h9) rfl dX9_goOn_11 ?_
    refine lv_if_lt (tgt := 25) hx hb dX9_goOn_14 (by decide) (fun c_28 => ?_) (fun c_28 => ?_)
    · skip
      have tc_28 : lc.toInt < 0 := (fa_lt _ _).mp c_28
      refine lv_aload_n hx hb dX9_goOn_25 rfl (lv_at hl 0 rfl) ?_
      refine lv_iload_n hx hb dX9_goOn_26 rfl (lv_at hl 3 rfl) ?_
      refine va_put (D := (dC, dI)) (ci := 7) (v := .int cs) (ty := .int) (C := RX9) (T := TX9) (N := 28) hx hb hts inX9 tyX9 tyX9_ok nmX9 hown hK hP hD hS 0 rfl rfl 9 (by decide) (hts _ (List.mem_of_getElem? (i := 16) rfl)) (fun _ h9 => h9) rfl (by decide +kernel) rfl rfl (Nat.le_of_ble_eq_true rfl) dX9_goOn_27 (fun H locs hP hD hS => ?_)
      have hP : va_P (dC, dI) vwCl [(h0, .inr (7, [.ref a0, v1, .ref p0, v3, v4, v5, v6, .ref w0, .ref x0, .int cs, v10, v11, v12, v13, v14, v15, v16, v17, v18, v19, v20, v21, v22, v23, v24, v25, v26, v27])), (a0, .inl (ac, 38, .inl nf)), (p0, .inl (pc, 7, .inr (.inl pf))), (w0, .inl (wc, 7, .inl wf)), (x0, .inl (xc, 7, .inl xf))] H := hP
      have hD : va_D A [(h0, .inr (7, [.ref a0, v1, .ref p0, v3, v4, v5, v6, .ref w0, .ref x0, .int cs, v10, v11, v12, v13, v14, v15, v16, v17, v18, v19, v20, v21, v22, v23, v24, v25, v26, v27])), (a0, .inl (ac, 38, .inl nf)), (p0, .inl (pc, 7, .inr (.inl pf))), (w0, .inl (wc, 7, .inl wf)), (x0, .inl (xc, 7, .inl xf))] := hD
      refine lv_iconst (v := 0) hx hb dX9_goOn_30 (by decide) ?_
      refine lv_istore (lv' := [(4, .int 0), (0, .ref h0), (1, .int 3), (2, .int us), (3, .int cs)]) hx hb dX9_goOn_31 hl (by decide) rfl (fun ls hl => ?_)
      refine pp_loop (ι := Int32 × (Nat → Int32)) (fun ⟨v4_33, z8⟩ => (3 - v4_33.toInt).toNat) (fun ⟨v4_33, z8⟩ H locs ls => (0 ≤ v4_33.toInt) ∧ (v4_33.toInt ≤ 3) ∧ va_P (dC, dI) vwCl [(h0, .inr (7, [.ref a0, v1, .ref p0, v3, v4, v5, v6, .ref w0, .ref x0, .int cs, v10, v11, v12, v13, v14, v15, v16, v17, v18, v19, v20, v21, v22, v23, v24, v25, v26, v27])), (a0, .inl (ac, 38, .inl nf)), (p0, .inl (pc, 7, .inr (.inl pf))), (w0, .inl (wc, 7, .inl wf)), (x0, .inl (xc, 7, .inl z8))] H ∧ va_D A [(h0, .inr (7, [.ref a0, v1, .ref p0, v3, v4, v5, v6, .ref w0, .ref x0, .int cs, v10, v11, v12, v13, v14, v15, v16, v17, v18, v19, v20, v21, v22, v23, v24, v25, v26, v27])), (a0, .inl (ac, 38, .inl nf)), (p0, .inl (pc, 7, .inr (.inl pf))), (w0, .inl (wc, 7, .inl wf)), (x0, .inl (xc, 7, .inl z8))] ∧ va_S A s.heap H locs ∧ lv_has ls 5 [(4, .int v4_33), (0, .ref h0), (1, .int 3), (2, .int us), (3, .int cs)]) ?_ (0, xf) _ _ _ ⟨(by first | omega | decide | (simp only [fa_lt, fa_le, fa_eq, and_true, true_and, and_false, false_and, not_true_eq_false, not_false_eq_true, li_0, li_1, li_2, li_3, li_4, li_5, li_6, li_7, li_8, li_9, li_10, li_12, li_15, li_16, li_20, li_30, li_34, li_38, li_40, li_63, li_64, li_65, li_78, li_120, li_1000, li_4000, li_10000, li_11077, li_255, li_65535, li_m1, li_m2, li_m1000000001, li_m1000000002, li_m1000000003, li_m1000000004, li_m1000000005, li_m1000000006, li_m1000000007, or_true, true_or, or_false, false_or, implies_true, true_implies, false_implies] <;> omega)), (by first | omega | decide | (simp only [fa_lt, fa_le, fa_eq, and_true, true_and, and_false, false_and, not_true_eq_false, not_false_eq_true, li_0, li_1, li_2, li_3, li_4, li_5, li_6, li_7, li_8, li_9, li_10, li_12, li_15, li_16, li_20, li_30, li_34, li_38, li_40, li_63, li_64, li_65, li_78, li_120, li_1000, li_4000, li_10000, li_11077, li_255, li_65535, li_m1, li_m2, li_m1000000001, li_m1000000002, li_m1000000003, li_m1000000004, li_m1000000005, li_m1000000006, li_m1000000007, or_true, true_or, or_false, false_or, implies_true, true_implies, false_implies] <;> omega)), hP.sub [0, 1, 2, 3, 4] rfl, hD.sub [0, 1, 2, 3, 4] (by decide) rfl, hS, lv_sub hl [0, 1, 2, 3, 4] rfl⟩
      intro k_29 ihk_29 u H locs ls hm hI
      obtain ⟨v4_33, z8⟩ := u
      obtain ⟨jk_29_0, jk_29_1, hP, hD, hS, hl⟩ := hI
      have hmk_29 : (3 - v4_33.toInt).toNat < k_29 + 1 := hm
      clear hm
      have jk_29_0 : 0 ≤ v4_33.toInt := jk_29_0
      have jk_29_1 : v4_33.toInt ≤ 3 := jk_29_1
      have hl : lv_has ls 5 [(4, .int v4_33), (0, .ref h0), (1, .int 3), (2, .int us), (3, .int cs)] := hl
      have hP : va_P (dC, dI) vwCl [(h0, .inr (7, [.ref a0, v1, .ref p0, v3, v4, v5, v6, .ref w0, .ref x0, .int cs, v10, v11, v12, v13, v14, v15, v16, v17, v18, v19, v20, v21, v22, v23, v24, v25, v26, v27])), (a0, .inl (ac, 38, .inl nf)), (p0, .inl (pc, 7, .inr (.inl pf))), (w0, .inl (wc, 7, .inl wf)), (x0, .inl (xc, 7, .inl z8))] H := hP
      have hD : va_D A [(h0, .inr (7, [.ref a0, v1, .ref p0, v3, v4, v5, v6, .ref w0, .ref x0, .int cs, v10, v11, v12, v13, v14, v15, v16, v17, v18, v19, v20, v21, v22, v23, v24, v25, v26, v27])), (a0, .inl (ac, 38, .inl nf)), (p0, .inl (pc, 7, .inr (.inl pf))), (w0, .inl (wc, 7, .inl wf)), (x0, .inl (xc, 7, .inl z8))] := hD
      refine lv_iload hx hb dX9_goOn_33 (lv_at hl 0 rfl) ?_
      refine lv_iload_n hx hb dX9_goOn_35 rfl (lv_at hl 2 rfl) ?_
      refine lv_icmp_ge (tgt := 59) hx hb dX9_goOn_36 (by decide) (fun c_30 => ?_) (fun c_30 => ?_)
      · skip
        have tc_30 : 3 ≤ v4_33.toInt := (fa_le _ _).mp c_30
        have hP9 := hP.sub (ws' := [(h0, .inr (7, [.ref a0, v1, .ref p0, v3, v4, v5, v6, .ref w0, .ref x0, .int cs, v10, v11, v12, v13, v14, v15, v16, v17, v18, v19, v20, v21, v22, v23, v24, v25, v26, v27])), (a0, .inl (ac, 38, .inl nf)), (p0, .inl (pc, 7, .inr (.inl pf))), (w0, .inl (wc, 7, .inl wf)), (x0, .inl (xc, 7, .inl z8))]) [0, 1, 2, 3, 4] rfl
        have hD9 := hD.sub (ws' := [(h0, .inr (7, [.ref a0, v1, .ref p0, v3, v4, v5, v6, .ref w0, .ref x0, .int cs, v10, v11, v12, v13, v14, v15, v16, v17, v18, v19, v20, v21, v22, v23, v24, v25, v26, v27])), (a0, .inl (ac, 38, .inl nf)), (p0, .inl (pc, 7, .inr (.inl pf))), (w0, .inl (wc, 7, .inl wf)), (x0, .inl (xc, 7, .inl z8))]) [0, 1, 2, 3, 4] (by decide) rfl
        have hK9 := hK.sub (tys' := [(ac, .int), (pc, .long), (wc, .int), (xc, .int)]) [0, 1, 2, 3] rfl
        exact W.vret hx hb hr (fun t ht hW => ⟨⟨(), rfl, trivial, cs, wf, z8, (by first | omega | decide | (simp only [fa_lt, fa_le, fa_eq, and_true, true_and, and_false, false_and, not_true_eq_false, not_false_eq_true, li_0, li_1, li_2, li_3, li_4, li_5, li_6, li_7, li_8, li_9, li_10, li_12, li_15, li_16, li_20, li_30, li_34, li_38, li_40, li_63, li_64, li_65, li_78, li_120, li_1000, li_4000, li_10000, li_11077, li_255, li_65535, li_m1, li_m2, li_m1000000001, li_m1000000002, li_m1000000003, li_m1000000004, li_m1000000005, li_m1000000006, li_m1000000007, or_true, true_or, or_false, false_or, implies_true, true_implies, false_implies] <;> omega)), by rw [ht]; exact hP9, va_K.moved hW.alike hK9, hD9⟩, hS.F ht⟩) hS.2.2 dX9_goOn_59
      · skip
        have tc_30 : ¬ 3 ≤ v4_33.toInt := fun h => c_30 ((fa_le _ _).mpr h)
        refine lv_aload_n hx hb dX9_goOn_39 rfl (lv_at hl 1 rfl) ?_
        refine va_get (D := (dC, dI)) (ci := 7) (v := .ref x0) (C := RX9) (T := TX9) (N := 28) hx hb hts inX9 hown hK hP 0 rfl rfl 8 (by decide) (hts _ (List.mem_of_getElem? (i := 17) rfl)) (fun _ h9 => h9) rfl dX9_goOn_40 ?_
        refine lv_iload hx hb dX9_goOn_43 (lv_at hl 0 rfl) ?_
        refine lv_aload_n hx hb dX9_goOn_45 rfl (lv_at hl 1 rfl) ?_
        refine va_get (D := (dC, dI)) (ci := 7) (v := .ref w0) (C := RX9) (T := TX9) (N := 28) hx hb hts inX9 hown hK hP 0 rfl rfl 7 (by decide) (hts _ (List.mem_of_getElem? (i := 2) rfl)) (fun _ h9 => h9) rfl dX9_goOn_46 ?_
        refine lv_iload hx hb dX9_goOn_49 (lv_at hl 0 rfl) ?_
        refine va_iald hx hb hK hP 3 2 rfl rfl (vp_in_iff.mpr ⟨by omega, by omega⟩) dX9_goOn_51 ?_
        refine lv_topi (fun n_31 en_31 => ?_)
        clear en_31
        refine va_iast hx hb hK hP hD hS 4 3 rfl rfl (vp_in_iff.mpr ⟨by omega, by omega⟩) dX9_goOn_52 (fun H locs hP hD hS => ?_)
        have hP : va_P (dC, dI) vwCl [(h0, .inr (7, [.ref a0, v1, .ref p0, v3, v4, v5, v6, .ref w0, .ref x0, .int cs, v10, v11, v12, v13, v14, v15, v16, v17, v18, v19, v20, v21, v22, v23, v24, v25, v26, v27])), (a0, .inl (ac, 38, .inl nf)), (p0, .inl (pc, 7, .inr (.inl pf))), (w0, .inl (wc, 7, .inl wf)), (x0, .inl (xc, 7, .inl (upd z8 v4_33.toNatClampNeg n_31)))] H := hP
        have hD : va_D A [(h0, .inr (7, [.ref a0, v1, .ref p0, v3, v4, v5, v6, .ref w0, .ref x0, .int cs, v10, v11, v12, v13, v14, v15, v16, v17, v18, v19, v20, v21, v22, v23, v24, v25, v26, v27])), (a0, .inl (ac, 38, .inl nf)), (p0, .inl (pc, 7, .inr (.inl pf))), (w0, .inl (wc, 7, .inl wf)), (x0, .inl (xc, 7, .inl (upd z8 v4_33.toNatClampNeg n_31)))] := hD
        obtain ⟨n_32, en_32⟩ : ∃ y : Int32, y = v4_33 + 1 := ⟨_, rfl⟩
        have tn_32 : n_32.toInt = v4_33.toInt + 1 := pp_add en_32 rfl rfl (by omega) (by omega)
        refine lv_iinc (v := n_32) (lv' := [(4, .int n_32), (0, .ref h0), (1, .int 3), (2, .int us), (3, .int cs)]) hx hb dX9_goOn_53 hl (k := 0) rfl (by rw [en_32]; rfl) (by decide) rfl (fun ls hl => ?_)
        clear en_32
        refine lv_goto (tgt := 33) hx hb dX9_goOn_56 (by decide) ?_
        exact ihk_29 (n_32, (upd z8 v4_33.toNatClampNeg n_31)) _ _ _ (by show (3 - n_32.toInt).toNat < k_29; omega) ⟨(by first | omega | decide | (simp only [fa_lt, fa_le, fa_eq, and_true, true_and, and_false, false_and, not_true_eq_false, not_false_eq_true, li_0, li_1, li_2, li_3, li_4, li_5, li_6, li_7, li_8, li_9, li_10, li_12, li_15, li_16, li_20, li_30, li_34, li_38, li_40, li_63, li_64, li_65, li_78, li_120, li_1000, li_4000, li_10000, li_11077, li_255, li_65535, li_m1, li_m2, li_m1000000001, li_m1000000002, li_m1000000003, li_m1000000004, li_m1000000005, li_m1000000006, li_m1000000007, or_true, true_or, or_false, false_or, implies_true, true_implies, false_implies] <;> omega)), (by first | omega | decide | (simp only [fa_lt, fa_le, fa_eq, and_true, true_and, and_false, false_and, not_true_eq_false, not_false_eq_true, li_0, li_1, li_2, li_3, li_4, li_5, li_6, li_7, li_8, li_9, li_10, li_12, li_15, li_16, li_20, li_30, li_34, li_38, li_40, li_63, li_64, li_65, li_78, li_120, li_1000, li_4000, li_10000, li_11077, li_255, li_65535, li_m1, li_m2, li_m1000000001, li_m1000000002, li_m1000000003, li_m1000000004, li_m1000000005, li_m1000000006, li_m1000000007, or_true, true_or, or_false, false_or, implies_true, true_implies, false_implies] <;> omega)), hP.sub [0, 1, 2, 3, 4] rfl, hD.sub [0, 1, 2, 3, 4] (by decide) rfl, hS, lv_sub hl [0, 1, 2, 3, 4] rfl⟩
    · skip
      have tc_28 : ¬ lc.toInt < 0 := fun h => c_28 ((fa_lt _ _).mpr h)
      refine lv_iload_n hx hb dX9_goOn_17 rfl (lv_at hl 3 rfl) ?_
      refine lv_aload_n hx hb dX9_goOn_18 rfl (lv_at hl 0 rfl) ?_
      refine va_get (D := (dC, dI)) (ci := 7) (v := .int lc) (C := RX9) (T := TX9) (N := 28) hx hb hts inX9 hown hK hP 0 rfl rfl 9 (by decide) (hts _ (List.mem_of_getElem? (i := 16) rfl)) (fun _ h9 => h9) rfl dX9_goOn_19 ?_
      have rc_33_x := pp_rng cs
      have rc_33_y := pp_rng lc
      refine lv_icmp_ge (tgt := 59) hx hb dX9_goOn_22 (by decide) (fun c_33 => ?_) (fun c_33 => ?_)
      · skip
        have tc_33 : lc.toInt ≤ cs.toInt := (fa_le _ _).mp c_33
        have hP9 := hP.sub (ws' := [(h0, .inr (7, [.ref a0, v1, .ref p0, v3, v4, v5, v6, .ref w0, .ref x0, .int lc, v10, v11, v12, v13, v14, v15, v16, v17, v18, v19, v20, v21, v22, v23, v24, v25, v26, v27])), (a0, .inl (ac, 38, .inl nf)), (p0, .inl (pc, 7, .inr (.inl pf))), (w0, .inl (wc, 7, .inl wf)), (x0, .inl (xc, 7, .inl xf))]) [0, 1, 2, 3, 4] rfl
        have hD9 := hD.sub (ws' := [(h0, .inr (7, [.ref a0, v1, .ref p0, v3, v4, v5, v6, .ref w0, .ref x0, .int lc, v10, v11, v12, v13, v14, v15, v16, v17, v18, v19, v20, v21, v22, v23, v24, v25, v26, v27])), (a0, .inl (ac, 38, .inl nf)), (p0, .inl (pc, 7, .inr (.inl pf))), (w0, .inl (wc, 7, .inl wf)), (x0, .inl (xc, 7, .inl xf))]) [0, 1, 2, 3, 4] (by decide) rfl
        have hK9 := hK.sub (tys' := [(ac, .int), (pc, .long), (wc, .int), (xc, .int)]) [0, 1, 2, 3] rfl
        exact W.vret hx hb hr (fun t ht hW => ⟨⟨(), rfl, trivial, lc, wf, xf, (by first | omega | decide | (simp only [fa_lt, fa_le, fa_eq, and_true, true_and, and_false, false_and, not_true_eq_false, not_false_eq_true, li_0, li_1, li_2, li_3, li_4, li_5, li_6, li_7, li_8, li_9, li_10, li_12, li_15, li_16, li_20, li_30, li_34, li_38, li_40, li_63, li_64, li_65, li_78, li_120, li_1000, li_4000, li_10000, li_11077, li_255, li_65535, li_m1, li_m2, li_m1000000001, li_m1000000002, li_m1000000003, li_m1000000004, li_m1000000005, li_m1000000006, li_m1000000007, or_true, true_or, or_false, false_or, implies_true, true_implies, false_implies] <;> omega)), by rw [ht]; exact hP9, va_K.moved hW.alike hK9, hD9⟩, hS.F ht⟩) hS.2.2 dX9_goOn_59
      · skip
        have tc_33 : ¬ lc.toInt ≤ cs.toInt := fun h => c_33 ((fa_le _ _).mpr h)
        refine lv_aload_n hx hb dX9_goOn_25 rfl (lv_at hl 0 rfl) ?_
        refine lv_iload_n hx hb dX9_goOn_26 rfl (lv_at hl 3 rfl) ?_
        refine va_put (D := (dC, dI)) (ci := 7) (v := .int cs) (ty := .int) (C := RX9) (T := TX9) (N := 28) hx hb hts inX9 tyX9 tyX9_ok nmX9 hown hK hP hD hS 0 rfl rfl 9 (by decide) (hts _ (List.mem_of_getElem? (i := 16) rfl)) (fun _ h9 => h9) rfl (by decide +kernel) rfl rfl (Nat.le_of_ble_eq_true rfl) dX9_goOn_27 (fun H locs hP hD hS => ?_)
        have hP : va_P (dC, dI) vwCl [(h0, .inr (7, [.ref a0, v1, .ref p0, v3, v4, v5, v6, .ref w0, .ref x0, .int cs, v10, v11, v12, v13, v14, v15, v16, v17, v18, v19, v20, v21, v22, v23, v24, v25, v26, v27])), (a0, .inl (ac, 38, .inl nf)), (p0, .inl (pc, 7, .inr (.inl pf))), (w0, .inl (wc, 7, .inl wf)), (x0, .inl (xc, 7, .inl xf))] H := hP
        have hD : va_D A [(h0, .inr (7, [.ref a0, v1, .ref p0, v3, v4, v5, v6, .ref w0, .ref x0, .int cs, v10, v11, v12, v13, v14, v15, v16, v17, v18, v19, v20, v21, v22, v23, v24, v25, v26, v27])), (a0, .inl (ac, 38, .inl nf)), (p0, .inl (pc, 7, .inr (.inl pf))), (w0, .inl (wc, 7, .inl wf)), (x0, .inl (xc, 7, .inl xf))] := hD
        refine lv_iconst (v := 0) hx hb dX9_goOn_30 (by decide) ?_
        refine lv_istore (lv' := [(4, .int 0), (0, .ref h0), (1, .int 3), (2, .int us), (3, .int cs)]) hx hb dX9_goOn_31 hl (by decide) rfl (fun ls hl => ?_)
        refine pp_loop (ι := Int32 × (Nat → Int32)) (fun ⟨v4_33, z8⟩ => (3 - v4_33.toInt).toNat) (fun ⟨v4_33, z8⟩ H locs ls => (0 ≤ v4_33.toInt) ∧ (v4_33.toInt ≤ 3) ∧ va_P (dC, dI) vwCl [(h0, .inr (7, [.ref a0, v1, .ref p0, v3, v4, v5, v6, .ref w0, .ref x0, .int cs, v10, v11, v12, v13, v14, v15, v16, v17, v18, v19, v20, v21, v22, v23, v24, v25, v26, v27])), (a0, .inl (ac, 38, .inl nf)), (p0, .inl (pc, 7, .inr (.inl pf))), (w0, .inl (wc, 7, .inl wf)), (x0, .inl (xc, 7, .inl z8))] H ∧ va_D A [(h0, .inr (7, [.ref a0, v1, .ref p0, v3, v4, v5, v6, .ref w0, .ref x0, .int cs, v10, v11, v12, v13, v14, v15, v16, v17, v18, v19, v20, v21, v22, v23, v24, v25, v26, v27])), (a0, .inl (ac, 38, .inl nf)), (p0, .inl (pc, 7, .inr (.inl pf))), (w0, .inl (wc, 7, .inl wf)), (x0, .inl (xc, 7, .inl z8))] ∧ va_S A s.heap H locs ∧ lv_has ls 5 [(4, .int v4_33), (0, .ref h0), (1, .int 3), (2, .int us), (3, .int cs)]) ?_ (0, xf) _ _ _ ⟨(by first | omega | decide | (simp only [fa_lt, fa_le, fa_eq, and_true, true_and, and_false, false_and, not_true_eq_false, not_false_eq_true, li_0, li_1, li_2, li_3, li_4, li_5, li_6, li_7, li_8, li_9, li_10, li_12, li_15, li_16, li_20, li_30, li_34, li_38, li_40, li_63, li_64, li_65, li_78, li_120, li_1000, li_4000, li_10000, li_11077, li_255, li_65535, li_m1, li_m2, li_m1000000001, li_m1000000002, li_m1000000003, li_m1000000004, li_m1000000005, li_m1000000006, li_m1000000007, or_true, true_or, or_false, false_or, implies_true, true_implies, false_implies] <;> omega)), (by first | omega | decide | (simp only [fa_lt, fa_le, fa_eq, and_true, true_and, and_false, false_and, not_true_eq_false, not_false_eq_true, li_0, li_1, li_2, li_3, li_4, li_5, li_6, li_7, li_8, li_9, li_10, li_12, li_15, li_16, li_20, li_30, li_34, li_38, li_40, li_63, li_64, li_65, li_78, li_120, li_1000, li_4000, li_10000, li_11077, li_255, li_65535, li_m1, li_m2, li_m1000000001, li_m1000000002, li_m1000000003, li_m1000000004, li_m1000000005, li_m1000000006, li_m1000000007, or_true, true_or, or_false, false_or, implies_true, true_implies, false_implies] <;> omega)), hP.sub [0, 1, 2, 3, 4] rfl, hD.sub [0, 1, 2, 3, 4] (by decide) rfl, hS, lv_sub hl [0, 1, 2, 3, 4] rfl⟩
        intro k_34 ihk_34 u H locs ls hm hI
        obtain ⟨v4_33, z8⟩ := u
        obtain ⟨jk_34_0, jk_34_1, hP, hD, hS, hl⟩ := hI
        have hmk_34 : (3 - v4_33.toInt).toNat < k_34 + 1 := hm
        clear hm
        have jk_34_0 : 0 ≤ v4_33.toInt := jk_34_0
        have jk_34_1 : v4_33.toInt ≤ 3 := jk_34_1
        have hl : lv_has ls 5 [(4, .int v4_33), (0, .ref h0), (1, .int 3), (2, .int us), (3, .int cs)] := hl
        have hP : va_P (dC, dI) vwCl [(h0, .inr (7, [.ref a0, v1, .ref p0, v3, v4, v5, v6, .ref w0, .ref x0, .int cs, v10, v11, v12, v13, v14, v15, v16, v17, v18, v19, v20, v21, v22, v23, v24, v25, v26, v27])), (a0, .inl (ac, 38, .inl nf)), (p0, .inl (pc, 7, .inr (.inl pf))), (w0, .inl (wc, 7, .inl wf)), (x0, .inl (xc, 7, .inl z8))] H := hP
        have hD : va_D A [(h0, .inr (7, [.ref a0, v1, .ref p0, v3, v4, v5, v6, .ref w0, .ref x0, .int cs, v10, v11, v12, v13, v14, v15, v16, v17, v18, v19, v20, v21, v22, v23, v24, v25, v26, v27])), (a0, .inl (ac, 38, .inl nf)), (p0, .inl (pc, 7, .inr (.inl pf))), (w0, .inl (wc, 7, .inl wf)), (x0, .inl (xc, 7, .inl z8))] := hD
        refine lv_iload hx hb dX9_goOn_33 (lv_at hl 0 rfl) ?_
        refine lv_iload_n hx hb dX9_goOn_35 rfl (lv_at hl 2 rfl) ?_
        refine lv_icmp_ge (tgt := 59) hx hb dX9_goOn_36 (by decide) (fun c_35 => ?_) (fun c_35 => ?_)
        · skip
          have tc_35 : 3 ≤ v4_33.toInt := (fa_le _ _).mp c_35
          have hP9 := hP.sub (ws' := [(h0, .inr (7, [.ref a0, v1, .ref p0, v3, v4, v5, v6, .ref w0, .ref x0, .int cs, v10, v11, v12, v13, v14, v15, v16, v17, v18, v19, v20, v21, v22, v23, v24, v25, v26, v27])), (a0, .inl (ac, 38, .inl nf)), (p0, .inl (pc, 7, .inr (.inl pf))), (w0, .inl (wc, 7, .inl wf)), (x0, .inl (xc, 7, .inl z8))]) [0, 1, 2, 3, 4] rfl
          have hD9 := hD.sub (ws' := [(h0, .inr (7, [.ref a0, v1, .ref p0, v3, v4, v5, v6, .ref w0, .ref x0, .int cs, v10, v11, v12, v13, v14, v15, v16, v17, v18, v19, v20, v21, v22, v23, v24, v25, v26, v27])), (a0, .inl (ac, 38, .inl nf)), (p0, .inl (pc, 7, .inr (.inl pf))), (w0, .inl (wc, 7, .inl wf)), (x0, .inl (xc, 7, .inl z8))]) [0, 1, 2, 3, 4] (by decide) rfl
          have hK9 := hK.sub (tys' := [(ac, .int), (pc, .long), (wc, .int), (xc, .int)]) [0, 1, 2, 3] rfl
          exact W.vret hx hb hr (fun t ht hW => ⟨⟨(), rfl, trivial, cs, wf, z8, (by first | omega | decide | (simp only [fa_lt, fa_le, fa_eq, and_true, true_and, and_false, false_and, not_true_eq_false, not_false_eq_true, li_0, li_1, li_2, li_3, li_4, li_5, li_6, li_7, li_8, li_9, li_10, li_12, li_15, li_16, li_20, li_30, li_34, li_38, li_40, li_63, li_64, li_65, li_78, li_120, li_1000, li_4000, li_10000, li_11077, li_255, li_65535, li_m1, li_m2, li_m1000000001, li_m1000000002, li_m1000000003, li_m1000000004, li_m1000000005, li_m1000000006, li_m1000000007, or_true, true_or, or_false, false_or, implies_true, true_implies, false_implies] <;> omega)), by rw [ht]; exact hP9, va_K.moved hW.alike hK9, hD9⟩, hS.F ht⟩) hS.2.2 dX9_goOn_59
        · skip
          have tc_35 : ¬ 3 ≤ v4_33.toInt := fun h => c_35 ((fa_le _ _).mpr h)
          refine lv_aload_n hx hb dX9_goOn_39 rfl (lv_at hl 1 rfl) ?_
          refine va_get (D := (dC, dI)) (ci := 7) (v := .ref x0) (C := RX9) (T := TX9) (N := 28) hx hb hts inX9 hown hK hP 0 rfl rfl 8 (by decide) (hts _ (List.mem_of_getElem? (i := 17) rfl)) (fun _ h9 => h9) rfl dX9_goOn_40 ?_
          refine lv_iload hx hb dX9_goOn_43 (lv_at hl 0 rfl) ?_
          refine lv_aload_n hx hb dX9_goOn_45 rfl (lv_at hl 1 rfl) ?_
          refine va_get (D := (dC, dI)) (ci := 7) (v := .ref w0) (C := RX9) (T := TX9) (N := 28) hx hb hts inX9 hown hK hP 0 rfl rfl 7 (by decide) (hts _ (List.mem_of_getElem? (i := 2) rfl)) (fun _ h9 => h9) rfl dX9_goOn_46 ?_
          refine lv_iload hx hb dX9_goOn_49 (lv_at hl 0 rfl) ?_
          refine va_iald hx hb hK hP 3 2 rfl rfl (vp_in_iff.mpr ⟨by omega, by omega⟩) dX9_goOn_51 ?_
          refine lv_topi (fun n_36 en_36 => ?_)
          clear en_36
          refine va_iast hx hb hK hP hD hS 4 3 rfl rfl (vp_in_iff.mpr ⟨by omega, by omega⟩) dX9_goOn_52 (fun H locs hP hD hS => ?_)
          have hP : va_P (dC, dI) vwCl [(h0, .inr (7, [.ref a0, v1, .ref p0, v3, v4, v5, v6, .ref w0, .ref x0, .int cs, v10, v11, v12, v13, v14, v15, v16, v17, v18, v19, v20, v21, v22, v23, v24, v25, v26, v27])), (a0, .inl (ac, 38, .inl nf)), (p0, .inl (pc, 7, .inr (.inl pf))), (w0, .inl (wc, 7, .inl wf)), (x0, .inl (xc, 7, .inl (upd z8 v4_33.toNatClampNeg n_36)))] H := hP
          have hD : va_D A [(h0, .inr (7, [.ref a0, v1, .ref p0, v3, v4, v5, v6, .ref w0, .ref x0, .int cs, v10, v11, v12, v13, v14, v15, v16, v17, v18, v19, v20, v21, v22, v23, v24, v25, v26, v27])), (a0, .inl (ac, 38, .inl nf)), (p0, .inl (pc, 7, .inr (.inl pf))), (w0, .inl (wc, 7, .inl wf)), (x0, .inl (xc, 7, .inl (upd z8 v4_33.toNatClampNeg n_36)))] := hD
          obtain ⟨n_37, en_37⟩ : ∃ y : Int32, y = v4_33 + 1 := ⟨_, rfl⟩
          have tn_37 : n_37.toInt = v4_33.toInt + 1 := pp_add en_37 rfl rfl (by omega) (by omega)
          refine lv_iinc (v := n_37) (lv' := [(4, .int n_37), (0, .ref h0), (1, .int 3), (2, .int us), (3, .int cs)]) hx hb dX9_goOn_53 hl (k := 0) rfl (by rw [en_37]; rfl) (by decide) rfl (fun ls hl => ?_)
          clear en_37
          refine lv_goto (tgt := 33) hx hb dX9_goOn_56 (by decide) ?_
          exact ihk_34 (n_37, (upd z8 v4_33.toNatClampNeg n_36)) _ _ _ (by show (3 - n_37.toInt).toNat < k_34; omega) ⟨(by first | omega | decide | (simp only [fa_lt, fa_le, fa_eq, and_true, true_and, and_false, false_and, not_true_eq_false, not_false_eq_true, li_0, li_1, li_2, li_3, li_4, li_5, li_6, li_7, li_8, li_9, li_10, li_12, li_15, li_16, li_20, li_30, li_34, li_38, li_40, li_63, li_64, li_65, li_78, li_120, li_1000, li_4000, li_10000, li_11077, li_255, li_65535, li_m1, li_m2, li_m1000000001, li_m1000000002, li_m1000000003, li_m1000000004, li_m1000000005, li_m1000000006, li_m1000000007, or_true, true_or, or_false, false_or, implies_true, true_implies, false_implies] <;> omega)), (by first | omega | decide | (simp only [fa_lt, fa_le, fa_eq, and_true, true_and, and_false, false_and, not_true_eq_false, not_false_eq_true, li_0, li_1, li_2, li_3, li_4, li_5, li_6, li_7, li_8, li_9, li_10, li_12, li_15, li_16, li_20, li_30, li_34, li_38, li_40, li_63, li_64, li_65, li_78, li_120, li_1000, li_4000, li_10000, li_11077, li_255, li_65535, li_m1, li_m2, li_m1000000001, li_m1000000002, li_m1000000003, li_m1000000004, li_m1000000005, li_m1000000006, li_m1000000007, or_true, true_or, or_false, false_or, implies_true, true_implies, false_implies] <;> omega)), hP.sub [0, 1, 2, 3, 4] rfl, hD.sub [0, 1, 2, 3, 4] (by decide) rfl, hS, lv_sub hl [0, 1, 2, 3, 4] rfl⟩

def w_m_goOn_2 : List Cond := .code yX9_goOn cX9_goOn 5 none :: (([.fieldLink RX9 9 "LampShapesModel" "now" "[I", .fieldLink RX9 26 "LampShapesModel" "row" "[I", .methodLink RX9 161 yX9_changesOf, .instanceMethod yX9_changesOf, .selects RX9 yX9_changesOf yX9_changesOf, .initialized RX9, .code yX9_changesOf cX9_changesOf 3 (some .int), .fieldLink RX9 16 "LampShapesModel" "pictures" "[J", .methodLink RX9 158 yX9_bits, .static yX9_bits, .code yX9_bits cX9_bits 5 (some .int), .methodLink RX9 183 yX9_goOn, .instanceMethod yX9_goOn, .selects RX9 yX9_goOn yX9_goOn, .code yX9_goOn cX9_goOn 5 none, .fieldLink RX9 180 "LampShapesModel" "leastCost" "I", .fieldLink RX9 29 "LampShapesModel" "bestRow" "[I"] : List Cond) ++ wsX90)
set_option maxRecDepth 20000 in
theorem g_m_goOn_2_m_changesOf_161 : GoodIn w_m_goOn_2 (wsV RX9 161 RX9 yX9_changesOf w_m_changesOf) := goodIn_r _ [3, 4, 5, 6, 7, 8, 9, 10, 6, 11, 18, 19, 20, 21, 22, 23, 24, 25, 26, 27, 28, 29, 30, 31, 32, 33, 34, 35, 36, 37, 38, 39, 40, 41, 42, 43, 44, 45] rfl (by decide +kernel)
set_option maxRecDepth 20000 in
theorem g_m_goOn_2_m_goOn_3_183 : GoodIn w_m_goOn_2 (wsV RX9 183 RX9 yX9_goOn w_m_goOn_3) := goodIn_r _ [12, 13, 14, 6, 0, 1, 2, 3, 4, 5, 6, 7, 8, 9, 10, 11, 12, 13, 14, 0, 16, 17, 18, 19, 20, 21, 22, 23, 24, 25, 26, 27, 28, 29, 30, 31, 32, 33, 34, 35, 36, 37, 38, 39, 40, 41, 42, 43, 44, 45] rfl (by decide +kernel)
set_option maxHeartbeats 4000000 in
set_option maxRecDepth 100000 in
theorem m_goOn_2 (l : Launch) (dC : Nat → ClassId) (dI : Nat → Nat → Nat) (ad : Nat → Nat) (h0 : Nat) (us : Int32) (cs : Int32) (a0 : Nat) (v1 : Value) (p0 : Nat) (v3 : Value) (v4 : Value) (v5 : Value) (v6 : Value) (w0 : Nat) (x0 : Nat) (lc : Int32) (v10 : Value) (v11 : Value) (v12 : Value) (v13 : Value) (v14 : Value) (v15 : Value) (v16 : Value) (v17 : Value) (v18 : Value) (v19 : Value) (v20 : Value) (v21 : Value) (v22 : Value) (v23 : Value) (v24 : Value) (v25 : Value) (v26 : Value) (v27 : Value) (ac : ClassId) (nf : Nat → Int32) (pc : ClassId) (pf : Nat → Int64) (wc : ClassId) (wf : Nat → Int32) (xc : ClassId) (xf : Nat → Int32) (sz : Nat) (hI : mI nf) (hm : 2 ≤ (nf 1).toInt ∧ (nf 1).toInt ≤ 6) (hw0 : 0 ≤ (wf 0).toInt ∧ (wf 0).toInt ≤ 6) (hw1 : 0 ≤ (wf 1).toInt ∧ (wf 1).toInt ≤ 6) : Met l yX9_goOn w_m_goOn_2 ({ frames := 5, cells := 0, slots := 0, locals := 118 } : Room) (va_Pc [.ref h0, .int 2, .int us, .int cs] (preM dC dI ad [(ac, .int), (pc, .long), (wc, .int), (xc, .int)] [(h0, .inr (7, [.ref a0, v1, .ref p0, v3, v4, v5, v6, .ref w0, .ref x0, .int lc, v10, v11, v12, v13, v14, v15, v16, v17, v18, v19, v20, v21, v22, v23, v24, v25, v26, v27])), (a0, .inl (ac, 38, .inl nf)), (p0, .inl (pc, 7, .inr (.inl pf))), (w0, .inl (wc, 7, .inl wf)), (x0, .inl (xc, 7, .inl xf))] sz)) (va_Qv (fun (_ : Unit) => True) (fun _ t => ∃ (lc2 : Int32), ∃ (wg : Nat → Int32), ∃ (xg : Nat → Int32), ((wg 0).toInt = (wf 0).toInt ∧ (wg 1).toInt = (wf 1).toInt) ∧ va_P (dC, dI) vwCl [(h0, .inr (7, [.ref a0, v1, .ref p0, v3, v4, v5, v6, .ref w0, .ref x0, .int lc2, v10, v11, v12, v13, v14, v15, v16, v17, v18, v19, v20, v21, v22, v23, v24, v25, v26, v27])), (a0, .inl (ac, 38, .inl nf)), (p0, .inl (pc, 7, .inr (.inl pf))), (w0, .inl (wc, 7, .inl wg)), (x0, .inl (xc, 7, .inl xg))] t.heap ∧ va_K (dC, dI) vwCl [(ac, .int), (pc, .long), (wc, .int), (xc, .int)] t ∧ va_D (va_A [(h0, .inr (7, [.ref a0, v1, .ref p0, v3, v4, v5, v6, .ref w0, .ref x0, .int lc, v10, v11, v12, v13, v14, v15, v16, v17, v18, v19, v20, v21, v22, v23, v24, v25, v26, v27])), (a0, .inl (ac, 38, .inl nf)), (p0, .inl (pc, 7, .inr (.inl pf))), (w0, .inl (wc, 7, .inl wf)), (x0, .inl (xc, 7, .inl xf))] sz) [(h0, .inr (7, [.ref a0, v1, .ref p0, v3, v4, v5, v6, .ref w0, .ref x0, .int lc2, v10, v11, v12, v13, v14, v15, v16, v17, v18, v19, v20, v21, v22, v23, v24, v25, v26, v27])), (a0, .inl (ac, 38, .inl nf)), (p0, .inl (pc, 7, .inr (.inl pf))), (w0, .inl (wc, 7, .inl wg)), (x0, .inl (xc, 7, .inl xg))]) (va_A [(h0, .inr (7, [.ref a0, v1, .ref p0, v3, v4, v5, v6, .ref w0, .ref x0, .int lc, v10, v11, v12, v13, v14, v15, v16, v17, v18, v19, v20, v21, v22, v23, v24, v25, v26, v27])), (a0, .inl (ac, 38, .inl nf)), (p0, .inl (pc, 7, .inr (.inl pf))), (w0, .inl (wc, 7, .inl wf)), (x0, .inl (xc, 7, .inl xf))] sz)) 0 0 (va_A [(h0, .inr (7, [.ref a0, v1, .ref p0, v3, v4, v5, v6, .ref w0, .ref x0, .int lc, v10, v11, v12, v13, v14, v15, v16, v17, v18, v19, v20, v21, v22, v23, v24, v25, v26, v27])), (a0, .inl (ac, 38, .inl nf)), (p0, .inl (pc, 7, .inr (.inl pf))), (w0, .inl (wc, 7, .inl wf)), (x0, .inl (xc, 7, .inl xf))] sz) := by
  refine Met.ofW (cc := cX9_goOn) (maxL := 5) (ret := none) (by decide) rfl ?_
  intro p e s m args below meth c s₁ B hml hv
  obtain ⟨rfl, hsz, hP, hK, hD0, hev⟩ := hv
  have hx := B.exec
  have hb := B.bytes
  have hr := B.returns
  have hts := atoms_spec (ws := w_m_goOn_2) B.pre
  have hown : s.vm.findClass RX9 = some m.cls := findClass_of_methodNamed B.named
  have hlocks := B.notSynchronized
  have inX9 : ∀ w ∈ wsX90, w ∈ w_m_goOn_2 := fun w h => List.mem_cons_of_mem _ (List.mem_append_right _ h)
  subst hsz
  have hD := hD0.self (sz := s.heap.size)
  generalize hAe : va_A [(h0, .inr (7, [.ref a0, v1, .ref p0, v3, v4, v5, v6, .ref w0, .ref x0, .int lc, v10, v11, v12, v13, v14, v15, v16, v17, v18, v19, v20, v21, v22, v23, v24, v25, v26, v27])), (a0, .inl (ac, 38, .inl nf)), (p0, .inl (pc, 7, .inr (.inl pf))), (w0, .inl (wc, 7, .inl wf)), (x0, .inl (xc, 7, .inl xf))] s.heap.size = A at hD ⊢
  have hA : ∀ q : Nat, s.heap.size ≤ q → A q := fun q h => by rw [← hAe]; exact Or.inr h
  have hS : va_S A s.heap s.heap [] := va_S.rf
  have hP : va_P (dC, dI) vwCl [(h0, .inr (7, [.ref a0, v1, .ref p0, v3, v4, v5, v6, .ref w0, .ref x0, .int lc, v10, v11, v12, v13, v14, v15, v16, v17, v18, v19, v20, v21, v22, v23, v24, v25, v26, v27])), (a0, .inl (ac, 38, .inl nf)), (p0, .inl (pc, 7, .inr (.inl pf))), (w0, .inl (wc, 7, .inl wf)), (x0, .inl (xc, 7, .inl xf))] s.heap := hP
  have hl := lv_entry ([.ref h0, .int 2, .int us, .int cs]) (n := 5) (Nat.le_of_ble_eq_true rfl)
  rw [lg_entry_eq]
  generalize (lg_sl ([.ref h0, .int 2, .int us, .int cs]) ++ List.replicate (5 - (lg_sl ([.ref h0, .int 2, .int us, .int cs])).length) Slot.unset).toArray = ls at hl ⊢
  have hl : lv_has ls 5 [(0, .ref h0), (1, .int 2), (2, .int us), (3, .int cs)] := hl
  refine lv_iload_n hx hb dX9_goOn_0 rfl (lv_at hl 1 rfl) ?_
  refine lv_aload_n hx hb dX9_goOn_1 rfl (lv_at hl 0 rfl) ?_
  refine va_get (D := (dC, dI)) (ci := 7) (v := .ref a0) (C := RX9) (T := TX9) (N := 28) hx hb hts inX9 hown hK hP 0 rfl rfl 0 (by decide) (hts _ (List.mem_of_getElem? (i := 1) rfl)) (fun _ h9 => h9) rfl dX9_goOn_2 ?_
  refine lv_iconst (v := 1) hx hb dX9_goOn_5 (by decide) ?_
  refine va_iald hx hb hK hP 1 0 rfl rfl (vp_in_nI (n := 1) (by decide) (by decide)) dX9_goOn_6 ?_
  refine pp_ti (y := nf 1) rfl ?_
  refine lv_topi (fun n_1 en_1 => ?_)
  have tn_1 : n_1.toInt = (nf 1).toInt ∧ 0 ≤ n_1.toInt ∧ n_1.toInt ≤ 7 := mI_r1 hI en_1
  clear en_1
  refine lv_icmp_ne (tgt := 60) hx hb dX9_goOn_7 (by decide) (fun c_2 => ?_) (fun c_2 => ?_)
  · skip
    have tc_2 : ¬ 2 = n_1.toInt := fun h => c_2 ((fa_eq _ _).mpr h)
    refine lv_iconst (v := 0) hx hb dX9_goOn_60 (by decide) ?_
    refine lv_istore (lv' := [(4, .int 0), (0, .ref h0), (1, .int 2), (2, .int us), (3, .int cs)]) hx hb dX9_goOn_61 hl (by decide) rfl (fun ls hl => ?_)
    refine pp_loop (ι := Int32 × Int32 × (Nat → Int32) × (Nat → Int32)) (fun ⟨v4_63, y9, y7, y8⟩ => ((nf 1).toInt - v4_63.toInt).toNat) (fun ⟨v4_63, y9, y7, y8⟩ H locs ls => ((y7 0).toInt = (wf 0).toInt) ∧ ((y7 1).toInt = (wf 1).toInt) ∧ (0 ≤ v4_63.toInt) ∧ va_P (dC, dI) vwCl [(h0, .inr (7, [.ref a0, v1, .ref p0, v3, v4, v5, v6, .ref w0, .ref x0, .int y9, v10, v11, v12, v13, v14, v15, v16, v17, v18, v19, v20, v21, v22, v23, v24, v25, v26, v27])), (a0, .inl (ac, 38, .inl nf)), (p0, .inl (pc, 7, .inr (.inl pf))), (w0, .inl (wc, 7, .inl y7)), (x0, .inl (xc, 7, .inl y8))] H ∧ va_D A [(h0, .inr (7, [.ref a0, v1, .ref p0, v3, v4, v5, v6, .ref w0, .ref x0, .int y9, v10, v11, v12, v13, v14, v15, v16, v17, v18, v19, v20, v21, v22, v23, v24, v25, v26, v27])), (a0, .inl (ac, 38, .inl nf)), (p0, .inl (pc, 7, .inr (.inl pf))), (w0, .inl (wc, 7, .inl y7)), (x0, .inl (xc, 7, .inl y8))] ∧ va_S A s.heap H locs ∧ lv_has ls 5 [(4, .int v4_63), (0, .ref h0), (1, .int 2), (2, .int us), (3, .int cs)]) ?_ (0, lc, wf, xf) _ _ _ ⟨(by first | omega | decide | (simp only [fa_lt, fa_le, fa_eq, and_true, true_and, and_false, false_and, not_true_eq_false, not_false_eq_true, li_0, li_1, li_2, li_3, li_4, li_5, li_6, li_7, li_8, li_9, li_10, li_12, li_15, li_16, li_20, li_30, li_34, li_38, li_40, li_63, li_64, li_65, li_78, li_120, li_1000, li_4000, li_10000, li_11077, li_255, li_65535, li_m1, li_m2, li_m1000000001, li_m1000000002, li_m1000000003, li_m1000000004, li_m1000000005, li_m1000000006, li_m1000000007, or_true, true_or, or_false, false_or, implies_true, true_implies, false_implies] <;> omega)), (by first | omega | decide | (simp only [fa_lt, fa_le, fa_eq, and_true, true_and, and_false, false_and, not_true_eq_false, not_false_eq_true, li_0, li_1, li_2, li_3, li_4, li_5, li_6, li_7, li_8, li_9, li_10, li_12, li_15, li_16, li_20, li_30, li_34, li_38, li_40, li_63, li_64, li_65, li_78, li_120, li_1000, li_4000, li_10000, li_11077, li_255, li_65535, li_m1, li_m2, li_m1000000001, li_m1000000002, li_m1000000003, li_m1000000004, li_m1000000005, li_m1000000006, li_m1000000007, or_true, true_or, or_false, false_or, implies_true, true_implies, false_implies] <;> omega)), (by first | omega | decide | (simp only [fa_lt, fa_le, fa_eq, and_true, true_and, and_false, false_and, not_true_eq_false, not_false_eq_true, li_0, li_1, li_2, li_3, li_4, li_5, li_6, li_7, li_8, li_9, li_10, li_12, li_15, li_16, li_20, li_30, li_34, li_38, li_40, li_63, li_64, li_65, li_78, li_120, li_1000, li_4000, li_10000, li_11077, li_255, li_65535, li_m1, li_m2, li_m1000000001, li_m1000000002, li_m1000000003, li_m1000000004, li_m1000000005, li_m1000000006, li_m1000000007, or_true, true_or, or_false, false_or, implies_true, true_implies, false_implies] <;> omega)), hP.sub [0, 1, 2, 3, 4] rfl, hD.sub [0, 1, 2, 3, 4] (by decide) rfl, hS, lv_sub hl [0, 1, 2, 3, 4] rfl⟩
    intro k_3 ihk_3 u H locs ls hm hI
    obtain ⟨v4_63, y9, y7, y8⟩ := u
    obtain ⟨jk_3_0, jk_3_1, jk_3_2, hP, hD, hS, hl⟩ := hI
    have hmk_3 : ((nf 1).toInt - v4_63.toInt).toNat < k_3 + 1 := hm
    clear hm
    have jk_3_0 : (y7 0).toInt = (wf 0).toInt := jk_3_0
    have jk_3_1 : (y7 1).toInt = (wf 1).toInt := jk_3_1
    have jk_3_2 : 0 ≤ v4_63.toInt := jk_3_2
    have hl : lv_has ls 5 [(4, .int v4_63), (0, .ref h0), (1, .int 2), (2, .int us), (3, .int cs)] := hl
    have hP : va_P (dC, dI) vwCl [(h0, .inr (7, [.ref a0, v1, .ref p0, v3, v4, v5, v6, .ref w0, .ref x0, .int y9, v10, v11, v12, v13, v14, v15, v16, v17, v18, v19, v20, v21, v22, v23, v24, v25, v26, v27])), (a0, .inl (ac, 38, .inl nf)), (p0, .inl (pc, 7, .inr (.inl pf))), (w0, .inl (wc, 7, .inl y7)), (x0, .inl (xc, 7, .inl y8))] H := hP
    have hD : va_D A [(h0, .inr (7, [.ref a0, v1, .ref p0, v3, v4, v5, v6, .ref w0, .ref x0, .int y9, v10, v11, v12, v13, v14, v15, v16, v17, v18, v19, v20, v21, v22, v23, v24, v25, v26, v27])), (a0, .inl (ac, 38, .inl nf)), (p0, .inl (pc, 7, .inr (.inl pf))), (w0, .inl (wc, 7, .inl y7)), (x0, .inl (xc, 7, .inl y8))] := hD
    refine lv_iload hx hb dX9_goOn_63 (lv_at hl 0 rfl) ?_
    refine lv_aload_n hx hb dX9_goOn_65 rfl (lv_at hl 1 rfl) ?_
    refine va_get (D := (dC, dI)) (ci := 7) (v := .ref a0) (C := RX9) (T := TX9) (N := 28) hx hb hts inX9 hown hK hP 0 rfl rfl 0 (by decide) (hts _ (List.mem_of_getElem? (i := 1) rfl)) (fun _ h9 => h9) rfl dX9_goOn_66 ?_
    refine lv_iconst (v := 1) hx hb dX9_goOn_69 (by decide) ?_
    refine va_iald hx hb hK hP 1 0 rfl rfl (vp_in_nI (n := 1) (by decide) (by decide)) dX9_goOn_70 ?_
    refine pp_ti (y := nf 1) rfl ?_
    refine lv_topi (fun n_4 en_4 => ?_)
    have tn_4 : n_4.toInt = (nf 1).toInt ∧ 0 ≤ n_4.toInt ∧ n_4.toInt ≤ 7 := mI_r1 hI en_4
    clear en_4
    have rc_5_x := pp_rng v4_63
    have rc_5_y := pp_rng n_4
    refine lv_icmp_ge (tgt := 134) hx hb dX9_goOn_71 (by decide) (fun c_5 => ?_) (fun c_5 => ?_)
    · skip
      have tc_5 : n_4.toInt ≤ v4_63.toInt := (fa_le _ _).mp c_5
      have hP9 := hP.sub (ws' := [(h0, .inr (7, [.ref a0, v1, .ref p0, v3, v4, v5, v6, .ref w0, .ref x0, .int y9, v10, v11, v12, v13, v14, v15, v16, v17, v18, v19, v20, v21, v22, v23, v24, v25, v26, v27])), (a0, .inl (ac, 38, .inl nf)), (p0, .inl (pc, 7, .inr (.inl pf))), (w0, .inl (wc, 7, .inl y7)), (x0, .inl (xc, 7, .inl y8))]) [0, 1, 2, 3, 4] rfl
      have hD9 := hD.sub (ws' := [(h0, .inr (7, [.ref a0, v1, .ref p0, v3, v4, v5, v6, .ref w0, .ref x0, .int y9, v10, v11, v12, v13, v14, v15, v16, v17, v18, v19, v20, v21, v22, v23, v24, v25, v26, v27])), (a0, .inl (ac, 38, .inl nf)), (p0, .inl (pc, 7, .inr (.inl pf))), (w0, .inl (wc, 7, .inl y7)), (x0, .inl (xc, 7, .inl y8))]) [0, 1, 2, 3, 4] (by decide) rfl
      have hK9 := hK.sub (tys' := [(ac, .int), (pc, .long), (wc, .int), (xc, .int)]) [0, 1, 2, 3] rfl
      exact W.vret hx hb hr (fun t ht hW => ⟨⟨(), rfl, trivial, y9, y7, y8, (by first | omega | decide | (simp only [fa_lt, fa_le, fa_eq, and_true, true_and, and_false, false_and, not_true_eq_false, not_false_eq_true, li_0, li_1, li_2, li_3, li_4, li_5, li_6, li_7, li_8, li_9, li_10, li_12, li_15, li_16, li_20, li_30, li_34, li_38, li_40, li_63, li_64, li_65, li_78, li_120, li_1000, li_4000, li_10000, li_11077, li_255, li_65535, li_m1, li_m2, li_m1000000001, li_m1000000002, li_m1000000003, li_m1000000004, li_m1000000005, li_m1000000006, li_m1000000007, or_true, true_or, or_false, false_or, implies_true, true_implies, false_implies] <;> omega)), by rw [ht]; exact hP9, va_K.moved hW.alike hK9, hD9⟩, hS.F ht⟩) hS.2.2 dX9_goOn_134
    · skip
      have tc_5 : ¬ n_4.toInt ≤ v4_63.toInt := fun h => c_5 ((fa_le _ _).mpr h)
      refine lv_iload_n hx hb dX9_goOn_74 rfl (lv_at hl 3 rfl) ?_
      refine lv_iload hx hb dX9_goOn_75 (lv_at hl 0 rfl) ?_
      refine lv_ishr hx hb dX9_goOn_77 ?_
      refine lv_topi (fun n_6 en_6 => ?_)
      clear en_6
      refine lv_iconst (v := 1) hx hb dX9_goOn_78 (by decide) ?_
      refine lv_iand hx hb dX9_goOn_79 ?_
      refine lv_topi (fun n_7 en_7 => ?_)
      clear en_7
      refine lv_if_ne (tgt := 128) hx hb dX9_goOn_80 (by decide) (fun c_8 => ?_) (fun c_8 => ?_)
      · skip
        have tc_8 : ¬ n_7.toInt = 0 := fun h => c_8 ((fa_eq _ _).mpr h)
        obtain ⟨n_9, en_9⟩ : ∃ y : Int32, y = v4_63 + 1 := ⟨_, rfl⟩
        have tn_9 : n_9.toInt = v4_63.toInt + 1 := pp_add en_9 rfl rfl (by omega) (by omega)
        refine lv_iinc (v := n_9) (lv' := [(4, .int n_9), (0, .ref h0), (1, .int 2), (2, .int us), (3, .int cs)]) hx hb dX9_goOn_128 hl (k := 0) rfl (by rw [en_9]; rfl) (by decide) rfl (fun ls hl => ?_)
        clear en_9
        refine lv_goto (tgt := 63) hx hb dX9_goOn_131 (by decide) ?_
        exact ihk_3 (n_9, y9, y7, y8) _ _ _ (by show ((nf 1).toInt - n_9.toInt).toNat < k_3; omega) ⟨(by first | omega | decide | (simp only [fa_lt, fa_le, fa_eq, and_true, true_and, and_false, false_and, not_true_eq_false, not_false_eq_true, li_0, li_1, li_2, li_3, li_4, li_5, li_6, li_7, li_8, li_9, li_10, li_12, li_15, li_16, li_20, li_30, li_34, li_38, li_40, li_63, li_64, li_65, li_78, li_120, li_1000, li_4000, li_10000, li_11077, li_255, li_65535, li_m1, li_m2, li_m1000000001, li_m1000000002, li_m1000000003, li_m1000000004, li_m1000000005, li_m1000000006, li_m1000000007, or_true, true_or, or_false, false_or, implies_true, true_implies, false_implies] <;> omega)), (by first | omega | decide | (simp only [fa_lt, fa_le, fa_eq, and_true, true_and, and_false, false_and, not_true_eq_false, not_false_eq_true, li_0, li_1, li_2, li_3, li_4, li_5, li_6, li_7, li_8, li_9, li_10, li_12, li_15, li_16, li_20, li_30, li_34, li_38, li_40, li_63, li_64, li_65, li_78, li_120, li_1000, li_4000, li_10000, li_11077, li_255, li_65535, li_m1, li_m2, li_m1000000001, li_m1000000002, li_m1000000003, li_m1000000004, li_m1000000005, li_m1000000006, li_m1000000007, or_true, true_or, or_false, false_or, implies_true, true_implies, false_implies] <;> omega)), (by first | omega | decide | (simp only [fa_lt, fa_le, fa_eq, and_true, true_and, and_false, false_and, not_true_eq_false, not_false_eq_true, li_0, li_1, li_2, li_3, li_4, li_5, li_6, li_7, li_8, li_9, li_10, li_12, li_15, li_16, li_20, li_30, li_34, li_38, li_40, li_63, li_64, li_65, li_78, li_120, li_1000, li_4000, li_10000, li_11077, li_255, li_65535, li_m1, li_m2, li_m1000000001, li_m1000000002, li_m1000000003, li_m1000000004, li_m1000000005, li_m1000000006, li_m1000000007, or_true, true_or, or_false, false_or, implies_true, true_implies, false_implies] <;> omega)), hP.sub [0, 1, 2, 3, 4] rfl, hD.sub [0, 1, 2, 3, 4] (by decide) rfl, hS, lv_sub hl [0, 1, 2, 3, 4] rfl⟩
      · skip
        have tc_8 : n_7.toInt = 0 := (fa_eq _ _).mp c_8
        refine lv_aload_n hx hb dX9_goOn_83 rfl (lv_at hl 1 rfl) ?_
        refine va_get (D := (dC, dI)) (ci := 7) (v := .ref w0) (C := RX9) (T := TX9) (N := 28) hx hb hts inX9 hown hK hP 0 rfl rfl 7 (by decide) (hts _ (List.mem_of_getElem? (i := 2) rfl)) (fun _ h9 => h9) rfl dX9_goOn_84 ?_
        refine lv_iload_n hx hb dX9_goOn_87 rfl (lv_at hl 2 rfl) ?_
        refine lv_iload hx hb dX9_goOn_88 (lv_at hl 0 rfl) ?_
        refine va_iast hx hb hK hP hD hS 3 2 rfl rfl (vp_in_nI (n := 2) (by decide) (by decide)) dX9_goOn_90 (fun H locs hP hD hS => ?_)
        have hP : va_P (dC, dI) vwCl [(h0, .inr (7, [.ref a0, v1, .ref p0, v3, v4, v5, v6, .ref w0, .ref x0, .int y9, v10, v11, v12, v13, v14, v15, v16, v17, v18, v19, v20, v21, v22, v23, v24, v25, v26, v27])), (a0, .inl (ac, 38, .inl nf)), (p0, .inl (pc, 7, .inr (.inl pf))), (w0, .inl (wc, 7, .inl (upd y7 2 v4_63))), (x0, .inl (xc, 7, .inl y8))] H := hP
        have hD : va_D A [(h0, .inr (7, [.ref a0, v1, .ref p0, v3, v4, v5, v6, .ref w0, .ref x0, .int y9, v10, v11, v12, v13, v14, v15, v16, v17, v18, v19, v20, v21, v22, v23, v24, v25, v26, v27])), (a0, .inl (ac, 38, .inl nf)), (p0, .inl (pc, 7, .inr (.inl pf))), (w0, .inl (wc, 7, .inl (upd y7 2 v4_63))), (x0, .inl (xc, 7, .inl y8))] := hD
        have q_11 : ((upd y7 2 v4_63) 0).toInt = (y7 0).toInt := pp_uN_ne (by decide)
        have q_12 : ((upd y7 2 v4_63) 1).toInt = (y7 1).toInt := pp_uN_ne (by decide)
        have q_13 : ((upd y7 2 v4_63) 2).toInt = v4_63.toInt := pp_uN_eq rfl
        have q_14 : ((upd y7 2 v4_63) 3).toInt = (y7 3).toInt := pp_uN_ne (by decide)
        have q_15 : ((upd y7 2 v4_63) 4).toInt = (y7 4).toInt := pp_uN_ne (by decide)
        have q_16 : ((upd y7 2 v4_63) 5).toInt = (y7 5).toInt := pp_uN_ne (by decide)
        generalize upd y7 2 v4_63 = f_10 at hP hD q_11 q_12 q_13 q_14 q_15 q_16
        have hP : va_P (dC, dI) vwCl [(h0, .inr (7, [.ref a0, v1, .ref p0, v3, v4, v5, v6, .ref w0, .ref x0, .int y9, v10, v11, v12, v13, v14, v15, v16, v17, v18, v19, v20, v21, v22, v23, v24, v25, v26, v27])), (a0, .inl (ac, 38, .inl nf)), (p0, .inl (pc, 7, .inr (.inl pf))), (w0, .inl (wc, 7, .inl f_10)), (x0, .inl (xc, 7, .inl y8))] H := hP
        have hD : va_D A [(h0, .inr (7, [.ref a0, v1, .ref p0, v3, v4, v5, v6, .ref w0, .ref x0, .int y9, v10, v11, v12, v13, v14, v15, v16, v17, v18, v19, v20, v21, v22, v23, v24, v25, v26, v27])), (a0, .inl (ac, 38, .inl nf)), (p0, .inl (pc, 7, .inr (.inl pf))), (w0, .inl (wc, 7, .inl f_10)), (x0, .inl (xc, 7, .inl y8))] := hD
        refine lv_aload_n hx hb dX9_goOn_91 rfl (lv_at hl 1 rfl) ?_
        refine lv_iload_n hx hb dX9_goOn_92 rfl (lv_at hl 2 rfl) ?_
        refine lv_iconst (v := 1) hx hb dX9_goOn_93 (by decide) ?_
        refine lv_iadd hx hb dX9_goOn_94 ?_
        refine pp_ti (y := 3) (by decide) ?_
        refine lv_iload_n hx hb dX9_goOn_95 rfl (lv_at hl 3 rfl) ?_
        refine lv_iconst (v := 1) hx hb dX9_goOn_96 (by decide) ?_
        refine lv_iload hx hb dX9_goOn_97 (lv_at hl 0 rfl) ?_
        refine lv_ishl hx hb dX9_goOn_99 ?_
        refine lv_topi (fun n_17 en_17 => ?_)
        clear en_17
        refine lv_ior hx hb dX9_goOn_100 ?_
        refine lv_topi (fun n_18 en_18 => ?_)
        clear en_18
        refine lv_iload_n hx hb dX9_goOn_101 rfl (lv_at hl 4 rfl) ?_
        refine lv_iload_n hx hb dX9_goOn_102 rfl (lv_at hl 2 rfl) ?_
        refine lv_if_ne (tgt := 110) hx hb dX9_goOn_103 (by decide) (fun _ => ?_) (fun c => absurd c (by decide))
        refine lv_aload_n hx hb dX9_goOn_110 rfl (lv_at hl 1 rfl) ?_
        refine lv_aload_n hx hb dX9_goOn_111 rfl (lv_at hl 1 rfl) ?_
        refine va_get (D := (dC, dI)) (ci := 7) (v := .ref w0) (C := RX9) (T := TX9) (N := 28) hx hb hts inX9 hown hK hP 0 rfl rfl 7 (by decide) (hts _ (List.mem_of_getElem? (i := 2) rfl)) (fun _ h9 => h9) rfl dX9_goOn_112 ?_
        refine lv_iload_n hx hb dX9_goOn_115 rfl (lv_at hl 2 rfl) ?_
        refine lv_iconst (v := 1) hx hb dX9_goOn_116 (by decide) ?_
        refine lv_isub hx hb dX9_goOn_117 ?_
        refine pp_ti (y := 1) (by decide) ?_
        refine va_iald hx hb hK hP 3 2 rfl rfl (vp_in_nI (n := 1) (by decide) (by decide)) dX9_goOn_118 ?_
        refine pp_ti (y := f_10 1) rfl ?_
        refine lv_topi (fun n_19 en_19 => ?_)
        have tn_19 : n_19.toInt = (f_10 1).toInt := congrArg Int32.toInt en_19
        clear en_19
        refine lv_iload hx hb dX9_goOn_119 (lv_at hl 0 rfl) ?_
        have hPc := hP.sub (ws' := [(h0, .inr (7, [.ref a0, v1, .ref p0, v3, v4, v5, v6, .ref w0, .ref x0, .int y9, v10, v11, v12, v13, v14, v15, v16, v17, v18, v19, v20, v21, v22, v23, v24, v25, v26, v27])), (p0, .inl (pc, 7, .inr (.inl pf)))]) [0, 2] rfl
        have hKc := hK.sub (tys' := [(pc, .long)]) [1] rfl
        refine vp_callSi (W.runV (As := [.int n_19, .int v4_63]) (rest := [.int cs, .int n_18, .int 3, .ref h0]) ⟨hx, hb, hml, hown, hts⟩ (m_changesOf l dC dI ad h0 n_19 v4_63 (.ref a0) v1 p0 v3 v4 v5 v6 (.ref w0) (.ref x0) (.int y9) v10 v11 v12 v13 v14 v15 v16 v17 v18 v19 v20 v21 v22 v23 v24 v25 v26 v27 pc pf (by first | omega | decide | (simp only [fa_lt, fa_le, fa_eq, and_true, true_and, and_false, false_and, not_true_eq_false, not_false_eq_true, li_0, li_1, li_2, li_3, li_4, li_5, li_6, li_7, li_8, li_9, li_10, li_12, li_15, li_16, li_20, li_30, li_34, li_38, li_40, li_63, li_64, li_65, li_78, li_120, li_1000, li_4000, li_10000, li_11077, li_255, li_65535, li_m1, li_m2, li_m1000000001, li_m1000000002, li_m1000000003, li_m1000000004, li_m1000000005, li_m1000000006, li_m1000000007, or_true, true_or, or_false, false_or, implies_true, true_implies, false_implies] <;> omega)) (by first | omega | decide | (simp only [fa_lt, fa_le, fa_eq, and_true, true_and, and_false, false_and, not_true_eq_false, not_false_eq_true, li_0, li_1, li_2, li_3, li_4, li_5, li_6, li_7, li_8, li_9, li_10, li_12, li_15, li_16, li_20, li_30, li_34, li_38, li_40, li_63, li_64, li_65, li_78, li_120, li_1000, li_4000, li_10000, li_11077, li_255, li_65535, li_m1, li_m2, li_m1000000001, li_m1000000002, li_m1000000003, li_m1000000004, li_m1000000005, li_m1000000006, li_m1000000007, or_true, true_or, or_false, false_or, implies_true, true_implies, false_implies] <;> omega))) (cwV 2 hts g_m_goOn_2_m_changesOf_161 rfl rfl rfl (by decide +kernel) ⟨(Nat.le_of_ble_eq_true rfl), (Nat.le_of_ble_eq_true rfl)⟩) ⟨preS_blind, va_recv hKc hPc (ci := 7) (q0 := 0) rfl rfl, fun U hU hW => ⟨rfl, preS_at hU hW hPc hKc hev⟩⟩ rfl rfl hl.1 rfl (lv_room (Nat.le_of_ble_eq_true rfl)) dX9_goOn_121 ⟨(Nat.le_of_ble_eq_true rfl), (Nat.le_of_ble_eq_true rfl)⟩) (fun r_20 hw => ?_)
        refine lv_iadd hx hb dX9_goOn_124 ?_
        refine lv_topi (fun n_21 en_21 => ?_)
        clear en_21
        have hPc := hP.sub (ws' := [(h0, .inr (7, [.ref a0, v1, .ref p0, v3, v4, v5, v6, .ref w0, .ref x0, .int y9, v10, v11, v12, v13, v14, v15, v16, v17, v18, v19, v20, v21, v22, v23, v24, v25, v26, v27])), (a0, .inl (ac, 38, .inl nf)), (p0, .inl (pc, 7, .inr (.inl pf))), (w0, .inl (wc, 7, .inl f_10)), (x0, .inl (xc, 7, .inl y8))]) [0, 1, 2, 3, 4] rfl
        have hKc := hK.sub (tys' := [(ac, .int), (pc, .long), (wc, .int), (xc, .int)]) [0, 1, 2, 3] rfl
        have hDc := hD.sub (ws' := [(h0, .inr (7, [.ref a0, v1, .ref p0, v3, v4, v5, v6, .ref w0, .ref x0, .int y9, v10, v11, v12, v13, v14, v15, v16, v17, v18, v19, v20, v21, v22, v23, v24, v25, v26, v27])), (a0, .inl (ac, 38, .inl nf)), (p0, .inl (pc, 7, .inr (.inl pf))), (w0, .inl (wc, 7, .inl f_10)), (x0, .inl (xc, 7, .inl y8))]) [0, 1, 2, 3, 4] (by decide) rfl
        have hFc := va_free (wc := [(h0, .inr (7, [.ref a0, v1, .ref p0, v3, v4, v5, v6, .ref w0, .ref x0, .int y9, v10, v11, v12, v13, v14, v15, v16, v17, v18, v19, v20, v21, v22, v23, v24, v25, v26, v27])), (a0, .inl (ac, 38, .inl nf)), (p0, .inl (pc, 7, .inr (.inl pf))), (w0, .inl (wc, 7, .inl f_10)), (x0, .inl (xc, 7, .inl y8))]) hD hS hA [0, 1, 2, 3, 4] rfl
        refine va_callv (va_runV (As := [.int 3, .int n_18, .int n_21]) (rest := []) ⟨hx, hb, hml, hown, hts⟩ (m_goOn_3 l dC dI ad h0 n_18 n_21 a0 v1 p0 v3 v4 v5 v6 w0 x0 y9 v10 v11 v12 v13 v14 v15 v16 v17 v18 v19 v20 v21 v22 v23 v24 v25 v26 v27 ac nf pc pf wc f_10 xc y8 H.size hI (by first | omega | decide | (simp only [fa_lt, fa_le, fa_eq, and_true, true_and, and_false, false_and, not_true_eq_false, not_false_eq_true, li_0, li_1, li_2, li_3, li_4, li_5, li_6, li_7, li_8, li_9, li_10, li_12, li_15, li_16, li_20, li_30, li_34, li_38, li_40, li_63, li_64, li_65, li_78, li_120, li_1000, li_4000, li_10000, li_11077, li_255, li_65535, li_m1, li_m2, li_m1000000001, li_m1000000002, li_m1000000003, li_m1000000004, li_m1000000005, li_m1000000006, li_m1000000007, or_true, true_or, or_false, false_or, implies_true, true_implies, false_implies] <;> omega)) (by first | omega | decide | (simp only [fa_lt, fa_le, fa_eq, and_true, true_and, and_false, false_and, not_true_eq_false, not_false_eq_true, li_0, li_1, li_2, li_3, li_4, li_5, li_6, li_7, li_8, li_9, li_10, li_12, li_15, li_16, li_20, li_30, li_34, li_38, li_40, li_63, li_64, li_65, li_78, li_120, li_1000, li_4000, li_10000, li_11077, li_255, li_65535, li_m1, li_m2, li_m1000000001, li_m1000000002, li_m1000000003, li_m1000000004, li_m1000000005, li_m1000000006, li_m1000000007, or_true, true_or, or_false, false_or, implies_true, true_implies, false_implies] <;> omega)) (by first | omega | decide | (simp only [fa_lt, fa_le, fa_eq, and_true, true_and, and_false, false_and, not_true_eq_false, not_false_eq_true, li_0, li_1, li_2, li_3, li_4, li_5, li_6, li_7, li_8, li_9, li_10, li_12, li_15, li_16, li_20, li_30, li_34, li_38, li_40, li_63, li_64, li_65, li_78, li_120, li_1000, li_4000, li_10000, li_11077, li_255, li_65535, li_m1, li_m2, li_m1000000001, li_m1000000002, li_m1000000003, li_m1000000004, li_m1000000005, li_m1000000006, li_m1000000007, or_true, true_or, or_false, false_or, implies_true, true_implies, false_implies] <;> omega)) (by first | omega | decide | (simp only [fa_lt, fa_le, fa_eq, and_true, true_and, and_false, false_and, not_true_eq_false, not_false_eq_true, li_0, li_1, li_2, li_3, li_4, li_5, li_6, li_7, li_8, li_9, li_10, li_12, li_15, li_16, li_20, li_30, li_34, li_38, li_40, li_63, li_64, li_65, li_78, li_120, li_1000, li_4000, li_10000, li_11077, li_255, li_65535, li_m1, li_m2, li_m1000000001, li_m1000000002, li_m1000000003, li_m1000000004, li_m1000000005, li_m1000000006, li_m1000000007, or_true, true_or, or_false, false_or, implies_true, true_implies, false_implies] <;> omega))) (cwV 3 hts g_m_goOn_2_m_goOn_3_183 rfl rfl rfl (by decide +kernel) ⟨(Nat.le_of_ble_eq_true rfl), (Nat.le_of_ble_eq_true rfl)⟩) ⟨preM_blind, va_recv hKc hPc (ci := 7) (q0 := 0) rfl rfl, fun U hU hW => ⟨rfl, preM_at hU hW hPc hKc hDc hev⟩⟩ rfl rfl hl.1 rfl (lv_room (Nat.le_of_ble_eq_true rfl)) dX9_goOn_125 ⟨(Nat.le_of_ble_eq_true rfl), (Nat.le_of_ble_eq_true rfl)⟩) hS (fun q _ h => hFc q h) hFc (fun u t H1 locs ht hvm hw hB hz1 hk1 hS => ?_)
        obtain ⟨lc_23, wg_24, xg_25, hq_26, hP1, hK1, hD1⟩ := hB
        rw [ht] at hP1
        have hK1 := va_K.moved hvm.symm hK1
        obtain ⟨hP, hD⟩ := va_join (wr := []) (w1 := [(h0, .inr (7, [.ref a0, v1, .ref p0, v3, v4, v5, v6, .ref w0, .ref x0, .int lc_23, v10, v11, v12, v13, v14, v15, v16, v17, v18, v19, v20, v21, v22, v23, v24, v25, v26, v27])), (a0, .inl (ac, 38, .inl nf)), (p0, .inl (pc, 7, .inr (.inl pf))), (w0, .inl (wc, 7, .inl wg_24)), (x0, .inl (xc, 7, .inl xg_25))]) hP hD [0, 1, 2, 3, 4] [] rfl rfl (by decide) (by decide) hk1 hFc hP1 hD1
        generalize H1 = H at hP hS ⊢
        have hP : va_P (dC, dI) vwCl [(h0, .inr (7, [.ref a0, v1, .ref p0, v3, v4, v5, v6, .ref w0, .ref x0, .int lc_23, v10, v11, v12, v13, v14, v15, v16, v17, v18, v19, v20, v21, v22, v23, v24, v25, v26, v27])), (a0, .inl (ac, 38, .inl nf)), (p0, .inl (pc, 7, .inr (.inl pf))), (w0, .inl (wc, 7, .inl wg_24)), (x0, .inl (xc, 7, .inl xg_25))] H := hP
        have hD : va_D A [(h0, .inr (7, [.ref a0, v1, .ref p0, v3, v4, v5, v6, .ref w0, .ref x0, .int lc_23, v10, v11, v12, v13, v14, v15, v16, v17, v18, v19, v20, v21, v22, v23, v24, v25, v26, v27])), (a0, .inl (ac, 38, .inl nf)), (p0, .inl (pc, 7, .inr (.inl pf))), (w0, .inl (wc, 7, .inl wg_24)), (x0, .inl (xc, 7, .inl xg_25))] := hD
        obtain ⟨n_27, en_27⟩ : ∃ y : Int32, y = v4_63 + 1 := ⟨_, rfl⟩
        have tn_27 : n_27.toInt = v4_63.toInt + 1 := pp_add en_27 rfl rfl (by omega) (by omega)
        refine lv_iinc (v := n_27) (lv' := [(4, .int n_27), (0, .ref h0), (1, .int 2), (2, .int us), (3, .int cs)]) hx hb dX9_goOn_128 hl (k := 0) rfl (by rw [en_27]; rfl) (by decide) rfl (fun ls hl => ?_)
        clear en_27
        refine lv_goto (tgt := 63) hx hb dX9_goOn_131 (by decide) ?_
        exact ihk_3 (n_27, lc_23, wg_24, xg_25) _ _ _ (by show ((nf 1).toInt - n_27.toInt).toNat < k_3; omega) ⟨(by first | omega | decide | (simp only [fa_lt, fa_le, fa_eq, and_true, true_and, and_false, false_and, not_true_eq_false, not_false_eq_true, li_0, li_1, li_2, li_3, li_4, li_5, li_6, li_7, li_8, li_9, li_10, li_12, li_15, li_16, li_20, li_30, li_34, li_38, li_40, li_63, li_64, li_65, li_78, li_120, li_1000, li_4000, li_10000, li_11077, li_255, li_65535, li_m1, li_m2, li_m1000000001, li_m1000000002, li_m1000000003, li_m1000000004, li_m1000000005, li_m1000000006, li_m1000000007, or_true, true_or, or_false, false_or, implies_true, true_implies, false_implies] <;> omega)), (by first | omega | decide | (simp only [fa_lt, fa_le, fa_eq, and_true, true_and, and_false, false_and, not_true_eq_false, not_false_eq_true, li_0, li_1, li_2, li_3, li_4, li_5, li_6, li_7, li_8, li_9, li_10, li_12, li_15, li_16, li_20, li_30, li_34, li_38, li_40, li_63, li_64, li_65, li_78, li_120, li_1000, li_4000, li_10000, li_11077, li_255, li_65535, li_m1, li_m2, li_m1000000001, li_m1000000002, li_m1000000003, li_m1000000004, li_m1000000005, li_m1000000006, li_m1000000007, or_true, true_or, or_false, false_or, implies_true, true_implies, false_implies] <;> omega)), (by first | omega | decide | (simp only [fa_lt, fa_le, fa_eq, and_true, true_and, and_false, false_and, not_true_eq_false, not_false_eq_true, li_0, li_1, li_2, li_3, li_4, li_5, li_6, li_7, li_8, li_9, li_10, li_12, li_15, li_16, li_20, li_30, li_34, li_38, li_40, li_63, li_64, li_65, li_78, li_120, li_1000, li_4000, li_10000, li_11077, li_255, li_65535, li_m1, li_m2, li_m1000000001, li_m1000000002, li_m1000000003, li_m1000000004, li_m1000000005, li_m1000000006, li_m1000000007, or_true, true_or, or_false, false_or, implies_true, true_implies, false_implies] <;> omega)), hP.sub [0, 1, 2, 3, 4] rfl, hD.sub [0, 1, 2, 3, 4] (by decide) rfl, hS, lv_sub hl [0, 1, 2, 3, 4] rfl⟩
  · skip
    have tc_2 : 2 = n_1.toInt := (fa_eq _ _).mp c_2
    refine lv_aload_n hx hb dX9_goOn_10 rfl (lv_at hl 0 rfl) ?_
    refine va_get (D := (dC, dI)) (ci := 7) (v := .int lc) (C := RX9) (T := TX9) (N := 28) hx hb hts inX9 hown hK hP 0 rfl rfl 9 (by decide) (hts _ (List.mem_of_getElem? (i := 16) rfl)) (fun _ h9 => h9) rfl dX9_goOn_11 ?_
    refine lv_if_lt (tgt := 25) hx hb dX9_goOn_14 (by decide) (fun c_28 => ?_) (fun c_28 => ?_)
    · skip
      have tc_28 : lc.toInt < 0 := (fa_lt _ _).mp c_28
      refine lv_aload_n hx hb dX9_goOn_25 rfl (lv_at hl 0 rfl) ?_
      refine lv_iload_n hx hb dX9_goOn_26 rfl (lv_at hl 3 rfl) ?_
      refine va_put (D := (dC, dI)) (ci := 7) (v := .int cs) (ty := .int) (C := RX9) (T := TX9) (N := 28) hx hb hts inX9 tyX9 tyX9_ok nmX9 hown hK hP hD hS 0 rfl rfl 9 (by decide) (hts _ (List.mem_of_getElem? (i := 16) rfl)) (fun _ h9 => h9) rfl (by decide +kernel) rfl rfl (Nat.le_of_ble_eq_true rfl) dX9_goOn_27 (fun H locs hP hD hS => ?_)
      have hP : va_P (dC, dI) vwCl [(h0, .inr (7, [.ref a0, v1, .ref p0, v3, v4, v5, v6, .ref w0, .ref x0, .int cs, v10, v11, v12, v13, v14, v15, v16, v17, v18, v19, v20, v21, v22, v23, v24, v25, v26, v27])), (a0, .inl (ac, 38, .inl nf)), (p0, .inl (pc, 7, .inr (.inl pf))), (w0, .inl (wc, 7, .inl wf)), (x0, .inl (xc, 7, .inl xf))] H := hP
      have hD : va_D A [(h0, .inr (7, [.ref a0, v1, .ref p0, v3, v4, v5, v6, .ref w0, .ref x0, .int cs, v10, v11, v12, v13, v14, v15, v16, v17, v18, v19, v20, v21, v22, v23, v24, v25, v26, v27])), (a0, .inl (ac, 38, .inl nf)), (p0, .inl (pc, 7, .inr (.inl pf))), (w0, .inl (wc, 7, .inl wf)), (x0, .inl (xc, 7, .inl xf))] := hD
      refine lv_iconst (v := 0) hx hb dX9_goOn_30 (by decide) ?_
      refine lv_istore (lv' := [(4, .int 0), (0, .ref h0), (1, .int 2), (2, .int us), (3, .int cs)]) hx hb dX9_goOn_31 hl (by decide) rfl (fun ls hl => ?_)
      refine pp_loop (ι := Int32 × (Nat → Int32)) (fun ⟨v4_33, z8⟩ => (2 - v4_33.toInt).toNat) (fun ⟨v4_33, z8⟩ H locs ls => (0 ≤ v4_33.toInt) ∧ (v4_33.toInt ≤ 2) ∧ va_P (dC, dI) vwCl [(h0, .inr (7, [.ref a0, v1, .ref p0, v3, v4, v5, v6, .ref w0, .ref x0, .int cs, v10, v11, v12, v13, v14, v15, v16, v17, v18, v19, v20, v21, v22, v23, v24, v25, v26, v27])), (a0, .inl (ac, 38, .inl nf)), (p0, .inl (pc, 7, .inr (.inl pf))), (w0, .inl (wc, 7, .inl wf)), (x0, .inl (xc, 7, .inl z8))] H ∧ va_D A [(h0, .inr (7, [.ref a0, v1, .ref p0, v3, v4, v5, v6, .ref w0, .ref x0, .int cs, v10, v11, v12, v13, v14, v15, v16, v17, v18, v19, v20, v21, v22, v23, v24, v25, v26, v27])), (a0, .inl (ac, 38, .inl nf)), (p0, .inl (pc, 7, .inr (.inl pf))), (w0, .inl (wc, 7, .inl wf)), (x0, .inl (xc, 7, .inl z8))] ∧ va_S A s.heap H locs ∧ lv_has ls 5 [(4, .int v4_33), (0, .ref h0), (1, .int 2), (2, .int us), (3, .int cs)]) ?_ (0, xf) _ _ _ ⟨(by first | omega | decide | (simp only [fa_lt, fa_le, fa_eq, and_true, true_and, and_false, false_and, not_true_eq_false, not_false_eq_true, li_0, li_1, li_2, li_3, li_4, li_5, li_6, li_7, li_8, li_9, li_10, li_12, li_15, li_16, li_20, li_30, li_34, li_38, li_40, li_63, li_64, li_65, li_78, li_120, li_1000, li_4000, li_10000, li_11077, li_255, li_65535, li_m1, li_m2, li_m1000000001, li_m1000000002, li_m1000000003, li_m1000000004, li_m1000000005, li_m1000000006, li_m1000000007, or_true, true_or, or_false, false_or, implies_true, true_implies, false_implies] <;> omega)), (by first | omega | decide | (simp only [fa_lt, fa_le, fa_eq, and_true, true_and, and_false, false_and, not_true_eq_false, not_false_eq_true, li_0, li_1, li_2, li_3, li_4, li_5, li_6, li_7, li_8, li_9, li_10, li_12, li_15, li_16, li_20, li_30, li_34, li_38, li_40, li_63, li_64, li_65, li_78, li_120, li_1000, li_4000, li_10000, li_11077, li_255, li_65535, li_m1, li_m2, li_m1000000001, li_m1000000002, li_m1000000003, li_m1000000004, li_m1000000005, li_m1000000006, li_m1000000007, or_true, true_or, or_false, false_or, implies_true, true_implies, false_implies] <;> omega)), hP.sub [0, 1, 2, 3, 4] rfl, hD.sub [0, 1, 2, 3, 4] (by decide) rfl, hS, lv_sub hl [0, 1, 2, 3, 4] rfl⟩
      intro k_29 ihk_29 u H locs ls hm hI
      obtain ⟨v4_33, z8⟩ := u
      obtain ⟨jk_29_0, jk_29_1, hP, hD, hS, hl⟩ := hI
      have hmk_29 : (2 - v4_33.toInt).toNat < k_29 + 1 := hm
      clear hm
      have jk_29_0 : 0 ≤ v4_33.toInt := jk_29_0
      have jk_29_1 : v4_33.toInt ≤ 2 := jk_29_1
      have hl : lv_has ls 5 [(4, .int v4_33), (0, .ref h0), (1, .int 2), (2, .int us), (3, .int cs)] := hl
      have hP : va_P (dC, dI) vwCl [(h0, .inr (7, [.ref a0, v1, .ref p0, v3, v4, v5, v6, .ref w0, .ref x0, .int cs, v10, v11, v12, v13, v14, v15, v16, v17, v18, v19, v20, v21, v22, v23, v24, v25, v26, v27])), (a0, .inl (ac, 38, .inl nf)), (p0, .inl (pc, 7, .inr (.inl pf))), (w0, .inl (wc, 7, .inl wf)), (x0, .inl (xc, 7, .inl z8))] H := hP
      have hD : va_D A [(h0, .inr (7, [.ref a0, v1, .ref p0, v3, v4, v5, v6, .ref w0, .ref x0, .int cs, v10, v11, v12, v13, v14, v15, v16, v17, v18, v19, v20, v21, v22, v23, v24, v25, v26, v27])), (a0, .inl (ac, 38, .inl nf)), (p0, .inl (pc, 7, .inr (.inl pf))), (w0, .inl (wc, 7, .inl wf)), (x0, .inl (xc, 7, .inl z8))] := hD
      refine lv_iload hx hb dX9_goOn_33 (lv_at hl 0 rfl) ?_
      refine lv_iload_n hx hb dX9_goOn_35 rfl (lv_at hl 2 rfl) ?_
      refine lv_icmp_ge (tgt := 59) hx hb dX9_goOn_36 (by decide) (fun c_30 => ?_) (fun c_30 => ?_)
      · skip
        have tc_30 : 2 ≤ v4_33.toInt := (fa_le _ _).mp c_30
        have hP9 := hP.sub (ws' := [(h0, .inr (7, [.ref a0, v1, .ref p0, v3, v4, v5, v6, .ref w0, .ref x0, .int cs, v10, v11, v12, v13, v14, v15, v16, v17, v18, v19, v20, v21, v22, v23, v24, v25, v26, v27])), (a0, .inl (ac, 38, .inl nf)), (p0, .inl (pc, 7, .inr (.inl pf))), (w0, .inl (wc, 7, .inl wf)), (x0, .inl (xc, 7, .inl z8))]) [0, 1, 2, 3, 4] rfl
        have hD9 := hD.sub (ws' := [(h0, .inr (7, [.ref a0, v1, .ref p0, v3, v4, v5, v6, .ref w0, .ref x0, .int cs, v10, v11, v12, v13, v14, v15, v16, v17, v18, v19, v20, v21, v22, v23, v24, v25, v26, v27])), (a0, .inl (ac, 38, .inl nf)), (p0, .inl (pc, 7, .inr (.inl pf))), (w0, .inl (wc, 7, .inl wf)), (x0, .inl (xc, 7, .inl z8))]) [0, 1, 2, 3, 4] (by decide) rfl
        have hK9 := hK.sub (tys' := [(ac, .int), (pc, .long), (wc, .int), (xc, .int)]) [0, 1, 2, 3] rfl
        exact W.vret hx hb hr (fun t ht hW => ⟨⟨(), rfl, trivial, cs, wf, z8, (by first | omega | decide | (simp only [fa_lt, fa_le, fa_eq, and_true, true_and, and_false, false_and, not_true_eq_false, not_false_eq_true, li_0, li_1, li_2, li_3, li_4, li_5, li_6, li_7, li_8, li_9, li_10, li_12, li_15, li_16, li_20, li_30, li_34, li_38, li_40, li_63, li_64, li_65, li_78, li_120, li_1000, li_4000, li_10000, li_11077, li_255, li_65535, li_m1, li_m2, li_m1000000001, li_m1000000002, li_m1000000003, li_m1000000004, li_m1000000005, li_m1000000006, li_m1000000007, or_true, true_or, or_false, false_or, implies_true, true_implies, false_implies] <;> omega)), by rw [ht]; exact hP9, va_K.moved hW.alike hK9, hD9⟩, hS.F ht⟩) hS.2.2 dX9_goOn_59
      · skip
        have tc_30 : ¬ 2 ≤ v4_33.toInt := fun h => c_30 ((fa_le _ _).mpr h)
        refine lv_aload_n hx hb dX9_goOn_39 rfl (lv_at hl 1 rfl) ?_
        refine va_get (D := (dC, dI)) (ci := 7) (v := .ref x0) (C := RX9) (T := TX9) (N := 28) hx hb hts inX9 hown hK hP 0 rfl rfl 8 (by decide) (hts _ (List.mem_of_getElem? (i := 17) rfl)) (fun _ h9 => h9) rfl dX9_goOn_40 ?_
        refine lv_iload hx hb dX9_goOn_43 (lv_at hl 0 rfl) ?_
        refine lv_aload_n hx hb dX9_goOn_45 rfl (lv_at hl 1 rfl) ?_
        refine va_get (D := (dC, dI)) (ci := 7) (v := .ref w0) (C := RX9) (T := TX9) (N := 28) hx hb hts inX9 hown hK hP 0 rfl rfl 7 (by decide) (hts _ (List.mem_of_getElem? (i := 2) rfl)) (fun _ h9 => h9) rfl dX9_goOn_46 ?_
        refine lv_iload hx hb dX9_goOn_49 (lv_at hl 0 rfl) ?_
        refine va_iald hx hb hK hP 3 2 rfl rfl (vp_in_iff.mpr ⟨by omega, by omega⟩) dX9_goOn_51 ?_
        refine lv_topi (fun n_31 en_31 => ?_)
        clear en_31
        refine va_iast hx hb hK hP hD hS 4 3 rfl rfl (vp_in_iff.mpr ⟨by omega, by omega⟩) dX9_goOn_52 (fun H locs hP hD hS => ?_)
        have hP : va_P (dC, dI) vwCl [(h0, .inr (7, [.ref a0, v1, .ref p0, v3, v4, v5, v6, .ref w0, .ref x0, .int cs, v10, v11, v12, v13, v14, v15, v16, v17, v18, v19, v20, v21, v22, v23, v24, v25, v26, v27])), (a0, .inl (ac, 38, .inl nf)), (p0, .inl (pc, 7, .inr (.inl pf))), (w0, .inl (wc, 7, .inl wf)), (x0, .inl (xc, 7, .inl (upd z8 v4_33.toNatClampNeg n_31)))] H := hP
        have hD : va_D A [(h0, .inr (7, [.ref a0, v1, .ref p0, v3, v4, v5, v6, .ref w0, .ref x0, .int cs, v10, v11, v12, v13, v14, v15, v16, v17, v18, v19, v20, v21, v22, v23, v24, v25, v26, v27])), (a0, .inl (ac, 38, .inl nf)), (p0, .inl (pc, 7, .inr (.inl pf))), (w0, .inl (wc, 7, .inl wf)), (x0, .inl (xc, 7, .inl (upd z8 v4_33.toNatClampNeg n_31)))] := hD
        obtain ⟨n_32, en_32⟩ : ∃ y : Int32, y = v4_33 + 1 := ⟨_, rfl⟩
        have tn_32 : n_32.toInt = v4_33.toInt + 1 := pp_add en_32 rfl rfl (by omega) (by omega)
        refine lv_iinc (v := n_32) (lv' := [(4, .int n_32), (0, .ref h0), (1, .int 2), (2, .int us), (3, .int cs)]) hx hb dX9_goOn_53 hl (k := 0) rfl (by rw [en_32]; rfl) (by decide) rfl (fun ls hl => ?_)
        clear en_32
        refine lv_goto (tgt := 33) hx hb dX9_goOn_56 (by decide) ?_
        exact ihk_29 (n_32, (upd z8 v4_33.toNatClampNeg n_31)) _ _ _ (by show (2 - n_32.toInt).toNat < k_29; omega) ⟨(by first | omega | decide | (simp only [fa_lt, fa_le, fa_eq, and_true, true_and, and_false, false_and, not_true_eq_false, not_false_eq_true, li_0, li_1, li_2, li_3, li_4, li_5, li_6, li_7, li_8, li_9, li_10, li_12, li_15, li_16, li_20, li_30, li_34, li_38, li_40, li_63, li_64, li_65, li_78, li_120, li_1000, li_4000, li_10000, li_11077, li_255, li_65535, li_m1, li_m2, li_m1000000001, li_m1000000002, li_m1000000003, li_m1000000004, li_m1000000005, li_m1000000006, li_m1000000007, or_true, true_or, or_false, false_or, implies_true, true_implies, false_implies] <;> omega)), (by first | omega | decide | (simp only [fa_lt, fa_le, fa_eq, and_true, true_and, and_false, false_and, not_true_eq_false, not_false_eq_true, li_0, li_1, li_2, li_3, li_4, li_5, li_6, li_7, li_8, li_9, li_10, li_12, li_15, li_16, li_20, li_30, li_34, li_38, li_40, li_63, li_64, li_65, li_78, li_120, li_1000, li_4000, li_10000, li_11077, li_255, li_65535, li_m1, li_m2, li_m1000000001, li_m1000000002, li_m1000000003, li_m1000000004, li_m1000000005, li_m1000000006, li_m1000000007, or_true, true_or, or_false, false_or, implies_true, true_implies, false_implies] <;> omega)), hP.sub [0, 1, 2, 3, 4] rfl, hD.sub [0, 1, 2, 3, 4] (by decide) rfl, hS, lv_sub hl [0, 1, 2, 3, 4] rfl⟩
    · skip
      have tc_28 : ¬ lc.toInt < 0 := fun h => c_28 ((fa_lt _ _).mpr h)
      refine lv_iload_n hx hb dX9_goOn_17 rfl (lv_at hl 3 rfl) ?_
      refine lv_aload_n hx hb dX9_goOn_18 rfl (lv_at hl 0 rfl) ?_
      refine va_get (D := (dC, dI)) (ci := 7) (v := .int lc) (C := RX9) (T := TX9) (N := 28) hx hb hts inX9 hown hK hP 0 rfl rfl 9 (by decide) (hts _ (List.mem_of_getElem? (i := 16) rfl)) (fun _ h9 => h9) rfl dX9_goOn_19 ?_
      have rc_33_x := pp_rng cs
      have rc_33_y := pp_rng lc
      refine lv_icmp_ge (tgt := 59) hx hb dX9_goOn_22 (by decide) (fun c_33 => ?_) (fun c_33 => ?_)
      · skip
        have tc_33 : lc.toInt ≤ cs.toInt := (fa_le _ _).mp c_33
        have hP9 := hP.sub (ws' := [(h0, .inr (7, [.ref a0, v1, .ref p0, v3, v4, v5, v6, .ref w0, .ref x0, .int lc, v10, v11, v12, v13, v14, v15, v16, v17, v18, v19, v20, v21, v22, v23, v24, v25, v26, v27])), (a0, .inl (ac, 38, .inl nf)), (p0, .inl (pc, 7, .inr (.inl pf))), (w0, .inl (wc, 7, .inl wf)), (x0, .inl (xc, 7, .inl xf))]) [0, 1, 2, 3, 4] rfl
        have hD9 := hD.sub (ws' := [(h0, .inr (7, [.ref a0, v1, .ref p0, v3, v4, v5, v6, .ref w0, .ref x0, .int lc, v10, v11, v12, v13, v14, v15, v16, v17, v18, v19, v20, v21, v22, v23, v24, v25, v26, v27])), (a0, .inl (ac, 38, .inl nf)), (p0, .inl (pc, 7, .inr (.inl pf))), (w0, .inl (wc, 7, .inl wf)), (x0, .inl (xc, 7, .inl xf))]) [0, 1, 2, 3, 4] (by decide) rfl
        have hK9 := hK.sub (tys' := [(ac, .int), (pc, .long), (wc, .int), (xc, .int)]) [0, 1, 2, 3] rfl
        exact W.vret hx hb hr (fun t ht hW => ⟨⟨(), rfl, trivial, lc, wf, xf, (by first | omega | decide | (simp only [fa_lt, fa_le, fa_eq, and_true, true_and, and_false, false_and, not_true_eq_false, not_false_eq_true, li_0, li_1, li_2, li_3, li_4, li_5, li_6, li_7, li_8, li_9, li_10, li_12, li_15, li_16, li_20, li_30, li_34, li_38, li_40, li_63, li_64, li_65, li_78, li_120, li_1000, li_4000, li_10000, li_11077, li_255, li_65535, li_m1, li_m2, li_m1000000001, li_m1000000002, li_m1000000003, li_m1000000004, li_m1000000005, li_m1000000006, li_m1000000007, or_true, true_or, or_false, false_or, implies_true, true_implies, false_implies] <;> omega)), by rw [ht]; exact hP9, va_K.moved hW.alike hK9, hD9⟩, hS.F ht⟩) hS.2.2 dX9_goOn_59
      · skip
        have tc_33 : ¬ lc.toInt ≤ cs.toInt := fun h => c_33 ((fa_le _ _).mpr h)
        refine lv_aload_n hx hb dX9_goOn_25 rfl (lv_at hl 0 rfl) ?_
        refine lv_iload_n hx hb dX9_goOn_26 rfl (lv_at hl 3 rfl) ?_
        refine va_put (D := (dC, dI)) (ci := 7) (v := .int cs) (ty := .int) (C := RX9) (T := TX9) (N := 28) hx hb hts inX9 tyX9 tyX9_ok nmX9 hown hK hP hD hS 0 rfl rfl 9 (by decide) (hts _ (List.mem_of_getElem? (i := 16) rfl)) (fun _ h9 => h9) rfl (by decide +kernel) rfl rfl (Nat.le_of_ble_eq_true rfl) dX9_goOn_27 (fun H locs hP hD hS => ?_)
        have hP : va_P (dC, dI) vwCl [(h0, .inr (7, [.ref a0, v1, .ref p0, v3, v4, v5, v6, .ref w0, .ref x0, .int cs, v10, v11, v12, v13, v14, v15, v16, v17, v18, v19, v20, v21, v22, v23, v24, v25, v26, v27])), (a0, .inl (ac, 38, .inl nf)), (p0, .inl (pc, 7, .inr (.inl pf))), (w0, .inl (wc, 7, .inl wf)), (x0, .inl (xc, 7, .inl xf))] H := hP
        have hD : va_D A [(h0, .inr (7, [.ref a0, v1, .ref p0, v3, v4, v5, v6, .ref w0, .ref x0, .int cs, v10, v11, v12, v13, v14, v15, v16, v17, v18, v19, v20, v21, v22, v23, v24, v25, v26, v27])), (a0, .inl (ac, 38, .inl nf)), (p0, .inl (pc, 7, .inr (.inl pf))), (w0, .inl (wc, 7, .inl wf)), (x0, .inl (xc, 7, .inl xf))] := hD
        refine lv_iconst (v := 0) hx hb dX9_goOn_30 (by decide) ?_
        refine lv_istore (lv' := [(4, .int 0), (0, .ref h0), (1, .int 2), (2, .int us), (3, .int cs)]) hx hb dX9_goOn_31 hl (by decide) rfl (fun ls hl => ?_)
        refine pp_loop (ι := Int32 × (Nat → Int32)) (fun ⟨v4_33, z8⟩ => (2 - v4_33.toInt).toNat) (fun ⟨v4_33, z8⟩ H locs ls => (0 ≤ v4_33.toInt) ∧ (v4_33.toInt ≤ 2) ∧ va_P (dC, dI) vwCl [(h0, .inr (7, [.ref a0, v1, .ref p0, v3, v4, v5, v6, .ref w0, .ref x0, .int cs, v10, v11, v12, v13, v14, v15, v16, v17, v18, v19, v20, v21, v22, v23, v24, v25, v26, v27])), (a0, .inl (ac, 38, .inl nf)), (p0, .inl (pc, 7, .inr (.inl pf))), (w0, .inl (wc, 7, .inl wf)), (x0, .inl (xc, 7, .inl z8))] H ∧ va_D A [(h0, .inr (7, [.ref a0, v1, .ref p0, v3, v4, v5, v6, .ref w0, .ref x0, .int cs, v10, v11, v12, v13, v14, v15, v16, v17, v18, v19, v20, v21, v22, v23, v24, v25, v26, v27])), (a0, .inl (ac, 38, .inl nf)), (p0, .inl (pc, 7, .inr (.inl pf))), (w0, .inl (wc, 7, .inl wf)), (x0, .inl (xc, 7, .inl z8))] ∧ va_S A s.heap H locs ∧ lv_has ls 5 [(4, .int v4_33), (0, .ref h0), (1, .int 2), (2, .int us), (3, .int cs)]) ?_ (0, xf) _ _ _ ⟨(by first | omega | decide | (simp only [fa_lt, fa_le, fa_eq, and_true, true_and, and_false, false_and, not_true_eq_false, not_false_eq_true, li_0, li_1, li_2, li_3, li_4, li_5, li_6, li_7, li_8, li_9, li_10, li_12, li_15, li_16, li_20, li_30, li_34, li_38, li_40, li_63, li_64, li_65, li_78, li_120, li_1000, li_4000, li_10000, li_11077, li_255, li_65535, li_m1, li_m2, li_m1000000001, li_m1000000002, li_m1000000003, li_m1000000004, li_m1000000005, li_m1000000006, li_m1000000007, or_true, true_or, or_false, false_or, implies_true, true_implies, false_implies] <;> omega)), (by first | omega | decide | (simp only [fa_lt, fa_le, fa_eq, and_true, true_and, and_false, false_and, not_true_eq_false, not_false_eq_true, li_0, li_1, li_2, li_3, li_4, li_5, li_6, li_7, li_8, li_9, li_10, li_12, li_15, li_16, li_20, li_30, li_34, li_38, li_40, li_63, li_64, li_65, li_78, li_120, li_1000, li_4000, li_10000, li_11077, li_255, li_65535, li_m1, li_m2, li_m1000000001, li_m1000000002, li_m1000000003, li_m1000000004, li_m1000000005, li_m1000000006, li_m1000000007, or_true, true_or, or_false, false_or, implies_true, true_implies, false_implies] <;> omega)), hP.sub [0, 1, 2, 3, 4] rfl, hD.sub [0, 1, 2, 3, 4] (by decide) rfl, hS, lv_sub hl [0, 1, 2, 3, 4] rfl⟩
        intro k_34 ihk_34 u H locs ls hm hI
        obtain ⟨v4_33, z8⟩ := u
        obtain ⟨jk_34_0, jk_34_1, hP, hD, hS, hl⟩ := hI
        have hmk_34 : (2 - v4_33.toInt).toNat < k_34 + 1 := hm
        clear hm
        have jk_34_0 : 0 ≤ v4_33.toInt := jk_34_0
        have jk_34_1 : v4_33.toInt ≤ 2 := jk_34_1
        have hl : lv_has ls 5 [(4, .int v4_33), (0, .ref h0), (1, .int 2), (2, .int us), (3, .int cs)] := hl
        have hP : va_P (dC, dI) vwCl [(h0, .inr (7, [.ref a0, v1, .ref p0, v3, v4, v5, v6, .ref w0, .ref x0, .int cs, v10, v11, v12, v13, v14, v15, v16, v17, v18, v19, v20, v21, v22, v23, v24, v25, v26, v27])), (a0, .inl (ac, 38, .inl nf)), (p0, .inl (pc, 7, .inr (.inl pf))), (w0, .inl (wc, 7, .inl wf)), (x0, .inl (xc, 7, .inl z8))] H := hP
        have hD : va_D A [(h0, .inr (7, [.ref a0, v1, .ref p0, v3, v4, v5, v6, .ref w0, .ref x0, .int cs, v10, v11, v12, v13, v14, v15, v16, v17, v18, v19, v20, v21, v22, v23, v24, v25, v26, v27])), (a0, .inl (ac, 38, .inl nf)), (p0, .inl (pc, 7, .inr (.inl pf))), (w0, .inl (wc, 7, .inl wf)), (x0, .inl (xc, 7, .inl z8))] := hD
        refine lv_iload hx hb dX9_goOn_33 (lv_at hl 0 rfl) ?_
        refine lv_iload_n hx hb dX9_goOn_35 rfl (lv_at hl 2 rfl) ?_
        refine lv_icmp_ge (tgt := 59) hx hb dX9_goOn_36 (by decide) (fun c_35 => ?_) (fun c_35 => ?_)
        · skip
          have tc_35 : 2 ≤ v4_33.toInt := (fa_le _ _).mp c_35
          have hP9 := hP.sub (ws' := [(h0, .inr (7, [.ref a0, v1, .ref p0, v3, v4, v5, v6, .ref w0, .ref x0, .int cs, v10, v11, v12, v13, v14, v15, v16, v17, v18, v19, v20, v21, v22, v23, v24, v25, v26, v27])), (a0, .inl (ac, 38, .inl nf)), (p0, .inl (pc, 7, .inr (.inl pf))), (w0, .inl (wc, 7, .inl wf)), (x0, .inl (xc, 7, .inl z8))]) [0, 1, 2, 3, 4] rfl
          have hD9 := hD.sub (ws' := [(h0, .inr (7, [.ref a0, v1, .ref p0, v3, v4, v5, v6, .ref w0, .ref x0, .int cs, v10, v11, v12, v13, v14, v15, v16, v17, v18, v19, v20, v21, v22, v23, v24, v25, v26, v27])), (a0, .inl (ac, 38, .inl nf)), (p0, .inl (pc, 7, .inr (.inl pf))), (w0, .inl (wc, 7, .inl wf)), (x0, .inl (xc, 7, .inl z8))]) [0, 1, 2, 3, 4] (by decide) rfl
          have hK9 := hK.sub (tys' := [(ac, .int), (pc, .long), (wc, .int), (xc, .int)]) [0, 1, 2, 3] rfl
          exact W.vret hx hb hr (fun t ht hW => ⟨⟨(), rfl, trivial, cs, wf, z8, (by first | omega | decide | (simp only [fa_lt, fa_le, fa_eq, and_true, true_and, and_false, false_and, not_true_eq_false, not_false_eq_true, li_0, li_1, li_2, li_3, li_4, li_5, li_6, li_7, li_8, li_9, li_10, li_12, li_15, li_16, li_20, li_30, li_34, li_38, li_40, li_63, li_64, li_65, li_78, li_120, li_1000, li_4000, li_10000, li_11077, li_255, li_65535, li_m1, li_m2, li_m1000000001, li_m1000000002, li_m1000000003, li_m1000000004, li_m1000000005, li_m1000000006, li_m1000000007, or_true, true_or, or_false, false_or, implies_true, true_implies, false_implies] <;> omega)), by rw [ht]; exact hP9, va_K.moved hW.alike hK9, hD9⟩, hS.F ht⟩) hS.2.2 dX9_goOn_59
        · skip
          have tc_35 : ¬ 2 ≤ v4_33.toInt := fun h => c_35 ((fa_le _ _).mpr h)
          refine lv_aload_n hx hb dX9_goOn_39 rfl (lv_at hl 1 rfl) ?_
          refine va_get (D := (dC, dI)) (ci := 7) (v := .ref x0) (C := RX9) (T := TX9) (N := 28) hx hb hts inX9 hown hK hP 0 rfl rfl 8 (by decide) (hts _ (List.mem_of_getElem? (i := 17) rfl)) (fun _ h9 => h9) rfl dX9_goOn_40 ?_
          refine lv_iload hx hb dX9_goOn_43 (lv_at hl 0 rfl) ?_
          refine lv_aload_n hx hb dX9_goOn_45 rfl (lv_at hl 1 rfl) ?_
          refine va_get (D := (dC, dI)) (ci := 7) (v := .ref w0) (C := RX9) (T := TX9) (N := 28) hx hb hts inX9 hown hK hP 0 rfl rfl 7 (by decide) (hts _ (List.mem_of_getElem? (i := 2) rfl)) (fun _ h9 => h9) rfl dX9_goOn_46 ?_
          refine lv_iload hx hb dX9_goOn_49 (lv_at hl 0 rfl) ?_
          refine va_iald hx hb hK hP 3 2 rfl rfl (vp_in_iff.mpr ⟨by omega, by omega⟩) dX9_goOn_51 ?_
          refine lv_topi (fun n_36 en_36 => ?_)
          clear en_36
          refine va_iast hx hb hK hP hD hS 4 3 rfl rfl (vp_in_iff.mpr ⟨by omega, by omega⟩) dX9_goOn_52 (fun H locs hP hD hS => ?_)
          have hP : va_P (dC, dI) vwCl [(h0, .inr (7, [.ref a0, v1, .ref p0, v3, v4, v5, v6, .ref w0, .ref x0, .int cs, v10, v11, v12, v13, v14, v15, v16, v17, v18, v19, v20, v21, v22, v23, v24, v25, v26, v27])), (a0, .inl (ac, 38, .inl nf)), (p0, .inl (pc, 7, .inr (.inl pf))), (w0, .inl (wc, 7, .inl wf)), (x0, .inl (xc, 7, .inl (upd z8 v4_33.toNatClampNeg n_36)))] H := hP
          have hD : va_D A [(h0, .inr (7, [.ref a0, v1, .ref p0, v3, v4, v5, v6, .ref w0, .ref x0, .int cs, v10, v11, v12, v13, v14, v15, v16, v17, v18, v19, v20, v21, v22, v23, v24, v25, v26, v27])), (a0, .inl (ac, 38, .inl nf)), (p0, .inl (pc, 7, .inr (.inl pf))), (w0, .inl (wc, 7, .inl wf)), (x0, .inl (xc, 7, .inl (upd z8 v4_33.toNatClampNeg n_36)))] := hD
          obtain ⟨n_37, en_37⟩ : ∃ y : Int32, y = v4_33 + 1 := ⟨_, rfl⟩
          have tn_37 : n_37.toInt = v4_33.toInt + 1 := pp_add en_37 rfl rfl (by omega) (by omega)
          refine lv_iinc (v := n_37) (lv' := [(4, .int n_37), (0, .ref h0), (1, .int 2), (2, .int us), (3, .int cs)]) hx hb dX9_goOn_53 hl (k := 0) rfl (by rw [en_37]; rfl) (by decide) rfl (fun ls hl => ?_)
          clear en_37
          refine lv_goto (tgt := 33) hx hb dX9_goOn_56 (by decide) ?_
          exact ihk_34 (n_37, (upd z8 v4_33.toNatClampNeg n_36)) _ _ _ (by show (2 - n_37.toInt).toNat < k_34; omega) ⟨(by first | omega | decide | (simp only [fa_lt, fa_le, fa_eq, and_true, true_and, and_false, false_and, not_true_eq_false, not_false_eq_true, li_0, li_1, li_2, li_3, li_4, li_5, li_6, li_7, li_8, li_9, li_10, li_12, li_15, li_16, li_20, li_30, li_34, li_38, li_40, li_63, li_64, li_65, li_78, li_120, li_1000, li_4000, li_10000, li_11077, li_255, li_65535, li_m1, li_m2, li_m1000000001, li_m1000000002, li_m1000000003, li_m1000000004, li_m1000000005, li_m1000000006, li_m1000000007, or_true, true_or, or_false, false_or, implies_true, true_implies, false_implies] <;> omega)), (by first | omega | decide | (simp only [fa_lt, fa_le, fa_eq, and_true, true_and, and_false, false_and, not_true_eq_false, not_false_eq_true, li_0, li_1, li_2, li_3, li_4, li_5, li_6, li_7, li_8, li_9, li_10, li_12, li_15, li_16, li_20, li_30, li_34, li_38, li_40, li_63, li_64, li_65, li_78, li_120, li_1000, li_4000, li_10000, li_11077, li_255, li_65535, li_m1, li_m2, li_m1000000001, li_m1000000002, li_m1000000003, li_m1000000004, li_m1000000005, li_m1000000006, li_m1000000007, or_true, true_or, or_false, false_or, implies_true, true_implies, false_implies] <;> omega)), hP.sub [0, 1, 2, 3, 4] rfl, hD.sub [0, 1, 2, 3, 4] (by decide) rfl, hS, lv_sub hl [0, 1, 2, 3, 4] rfl⟩

def w_m_goOn_1 : List Cond := .code yX9_goOn cX9_goOn 5 none :: (([.fieldLink RX9 9 "LampShapesModel" "now" "[I", .fieldLink RX9 26 "LampShapesModel" "row" "[I", .methodLink RX9 161 yX9_changesOf, .instanceMethod yX9_changesOf, .selects RX9 yX9_changesOf yX9_changesOf, .initialized RX9, .code yX9_changesOf cX9_changesOf 3 (some .int), .fieldLink RX9 16 "LampShapesModel" "pictures" "[J", .methodLink RX9 158 yX9_bits, .static yX9_bits, .code yX9_bits cX9_bits 5 (some .int), .methodLink RX9 183 yX9_goOn, .instanceMethod yX9_goOn, .selects RX9 yX9_goOn yX9_goOn, .code yX9_goOn cX9_goOn 5 none, .fieldLink RX9 180 "LampShapesModel" "leastCost" "I", .fieldLink RX9 29 "LampShapesModel" "bestRow" "[I"] : List Cond) ++ wsX90)
set_option maxRecDepth 20000 in
theorem g_m_goOn_1_m_changesOf_161 : GoodIn w_m_goOn_1 (wsV RX9 161 RX9 yX9_changesOf w_m_changesOf) := goodIn_r _ [3, 4, 5, 6, 7, 8, 9, 10, 6, 11, 18, 19, 20, 21, 22, 23, 24, 25, 26, 27, 28, 29, 30, 31, 32, 33, 34, 35, 36, 37, 38, 39, 40, 41, 42, 43, 44, 45] rfl (by decide +kernel)
set_option maxRecDepth 20000 in
theorem g_m_goOn_1_m_goOn_2_183 : GoodIn w_m_goOn_1 (wsV RX9 183 RX9 yX9_goOn w_m_goOn_2) := goodIn_r _ [12, 13, 14, 6, 0, 1, 2, 3, 4, 5, 6, 7, 8, 9, 10, 11, 12, 13, 14, 0, 16, 17, 18, 19, 20, 21, 22, 23, 24, 25, 26, 27, 28, 29, 30, 31, 32, 33, 34, 35, 36, 37, 38, 39, 40, 41, 42, 43, 44, 45] rfl (by decide +kernel)
set_option maxHeartbeats 4000000 in
set_option maxRecDepth 100000 in
theorem m_goOn_1 (l : Launch) (dC : Nat → ClassId) (dI : Nat → Nat → Nat) (ad : Nat → Nat) (h0 : Nat) (us : Int32) (cs : Int32) (a0 : Nat) (v1 : Value) (p0 : Nat) (v3 : Value) (v4 : Value) (v5 : Value) (v6 : Value) (w0 : Nat) (x0 : Nat) (lc : Int32) (v10 : Value) (v11 : Value) (v12 : Value) (v13 : Value) (v14 : Value) (v15 : Value) (v16 : Value) (v17 : Value) (v18 : Value) (v19 : Value) (v20 : Value) (v21 : Value) (v22 : Value) (v23 : Value) (v24 : Value) (v25 : Value) (v26 : Value) (v27 : Value) (ac : ClassId) (nf : Nat → Int32) (pc : ClassId) (pf : Nat → Int64) (wc : ClassId) (wf : Nat → Int32) (xc : ClassId) (xf : Nat → Int32) (sz : Nat) (hI : mI nf) (hm : 1 ≤ (nf 1).toInt ∧ (nf 1).toInt ≤ 6) (hw0 : 0 ≤ (wf 0).toInt ∧ (wf 0).toInt ≤ 6) : Met l yX9_goOn w_m_goOn_1 ({ frames := 6, cells := 0, slots := 0, locals := 142 } : Room) (va_Pc [.ref h0, .int 1, .int us, .int cs] (preM dC dI ad [(ac, .int), (pc, .long), (wc, .int), (xc, .int)] [(h0, .inr (7, [.ref a0, v1, .ref p0, v3, v4, v5, v6, .ref w0, .ref x0, .int lc, v10, v11, v12, v13, v14, v15, v16, v17, v18, v19, v20, v21, v22, v23, v24, v25, v26, v27])), (a0, .inl (ac, 38, .inl nf)), (p0, .inl (pc, 7, .inr (.inl pf))), (w0, .inl (wc, 7, .inl wf)), (x0, .inl (xc, 7, .inl xf))] sz)) (va_Qv (fun (_ : Unit) => True) (fun _ t => ∃ (lc2 : Int32), ∃ (wg : Nat → Int32), ∃ (xg : Nat → Int32), ((wg 0).toInt = (wf 0).toInt) ∧ va_P (dC, dI) vwCl [(h0, .inr (7, [.ref a0, v1, .ref p0, v3, v4, v5, v6, .ref w0, .ref x0, .int lc2, v10, v11, v12, v13, v14, v15, v16, v17, v18, v19, v20, v21, v22, v23, v24, v25, v26, v27])), (a0, .inl (ac, 38, .inl nf)), (p0, .inl (pc, 7, .inr (.inl pf))), (w0, .inl (wc, 7, .inl wg)), (x0, .inl (xc, 7, .inl xg))] t.heap ∧ va_K (dC, dI) vwCl [(ac, .int), (pc, .long), (wc, .int), (xc, .int)] t ∧ va_D (va_A [(h0, .inr (7, [.ref a0, v1, .ref p0, v3, v4, v5, v6, .ref w0, .ref x0, .int lc, v10, v11, v12, v13, v14, v15, v16, v17, v18, v19, v20, v21, v22, v23, v24, v25, v26, v27])), (a0, .inl (ac, 38, .inl nf)), (p0, .inl (pc, 7, .inr (.inl pf))), (w0, .inl (wc, 7, .inl wf)), (x0, .inl (xc, 7, .inl xf))] sz) [(h0, .inr (7, [.ref a0, v1, .ref p0, v3, v4, v5, v6, .ref w0, .ref x0, .int lc2, v10, v11, v12, v13, v14, v15, v16, v17, v18, v19, v20, v21, v22, v23, v24, v25, v26, v27])), (a0, .inl (ac, 38, .inl nf)), (p0, .inl (pc, 7, .inr (.inl pf))), (w0, .inl (wc, 7, .inl wg)), (x0, .inl (xc, 7, .inl xg))]) (va_A [(h0, .inr (7, [.ref a0, v1, .ref p0, v3, v4, v5, v6, .ref w0, .ref x0, .int lc, v10, v11, v12, v13, v14, v15, v16, v17, v18, v19, v20, v21, v22, v23, v24, v25, v26, v27])), (a0, .inl (ac, 38, .inl nf)), (p0, .inl (pc, 7, .inr (.inl pf))), (w0, .inl (wc, 7, .inl wf)), (x0, .inl (xc, 7, .inl xf))] sz)) 0 0 (va_A [(h0, .inr (7, [.ref a0, v1, .ref p0, v3, v4, v5, v6, .ref w0, .ref x0, .int lc, v10, v11, v12, v13, v14, v15, v16, v17, v18, v19, v20, v21, v22, v23, v24, v25, v26, v27])), (a0, .inl (ac, 38, .inl nf)), (p0, .inl (pc, 7, .inr (.inl pf))), (w0, .inl (wc, 7, .inl wf)), (x0, .inl (xc, 7, .inl xf))] sz) := by
  refine Met.ofW (cc := cX9_goOn) (maxL := 5) (ret := none) (by decide) rfl ?_
  intro p e s m args below meth c s₁ B hml hv
  obtain ⟨rfl, hsz, hP, hK, hD0, hev⟩ := hv
  have hx := B.exec
  have hb := B.bytes
  have hr := B.returns
  have hts := atoms_spec (ws := w_m_goOn_1) B.pre
  have hown : s.vm.findClass RX9 = some m.cls := findClass_of_methodNamed B.named
  have hlocks := B.notSynchronized
  have inX9 : ∀ w ∈ wsX90, w ∈ w_m_goOn_1 := fun w h => List.mem_cons_of_mem _ (List.mem_append_right _ h)
  subst hsz
  have hD := hD0.self (sz := s.heap.size)
  generalize hAe : va_A [(h0, .inr (7, [.ref a0, v1, .ref p0, v3, v4, v5, v6, .ref w0, .ref x0, .int lc, v10, v11, v12, v13, v14, v15, v16, v17, v18, v19, v20, v21, v22, v23, v24, v25, v26, v27])), (a0, .inl (ac, 38, .inl nf)), (p0, .inl (pc, 7, .inr (.inl pf))), (w0, .inl (wc, 7, .inl wf)), (x0, .inl (xc, 7, .inl xf))] s.heap.size = A at hD ⊢
  have hA : ∀ q : Nat, s.heap.size ≤ q → A q := fun q h => by rw [← hAe]; exact Or.inr h
  have hS : va_S A s.heap s.heap [] := va_S.rf
  have hP : va_P (dC, dI) vwCl [(h0, .inr (7, [.ref a0, v1, .ref p0, v3, v4, v5, v6, .ref w0, .ref x0, .int lc, v10, v11, v12, v13, v14, v15, v16, v17, v18, v19, v20, v21, v22, v23, v24, v25, v26, v27])), (a0, .inl (ac, 38, .inl nf)), (p0, .inl (pc, 7, .inr (.inl pf))), (w0, .inl (wc, 7, .inl wf)), (x0, .inl (xc, 7, .inl xf))] s.heap := hP
  have hl := lv_entry ([.ref h0, .int 1, .int us, .int cs]) (n := 5) (Nat.le_of_ble_eq_true rfl)
  rw [lg_entry_eq]
  generalize (lg_sl ([.ref h0, .int 1, .int us, .int cs]) ++ List.replicate (5 - (lg_sl ([.ref h0, .int 1, .int us, .int cs])).length) Slot.unset).toArray = ls at hl ⊢
  have hl : lv_has ls 5 [(0, .ref h0), (1, .int 1), (2, .int us), (3, .int cs)] := hl
  refine lv_iload_n hx hb dX9_goOn_0 rfl (lv_at hl 1 rfl) ?_
  refine lv_aload_n hx hb dX9_goOn_1 rfl (lv_at hl 0 rfl) ?_
  refine va_get (D := (dC, dI)) (ci := 7) (v := .ref a0) (C := RX9) (T := TX9) (N := 28) hx hb hts inX9 hown hK hP 0 rfl rfl 0 (by decide) (hts _ (List.mem_of_getElem? (i := 1) rfl)) (fun _ h9 => h9) rfl dX9_goOn_2 ?_
  refine lv_iconst (v := 1) hx hb dX9_goOn_5 (by decide) ?_
  refine va_iald hx hb hK hP 1 0 rfl rfl (vp_in_nI (n := 1) (by decide) (by decide)) dX9_goOn_6 ?_
  refine pp_ti (y := nf 1) rfl ?_
  refine lv_topi (fun n_1 en_1 => ?_)
  have tn_1 : n_1.toInt = (nf 1).toInt ∧ 0 ≤ n_1.toInt ∧ n_1.toInt ≤ 7 := mI_r1 hI en_1
  clear en_1
  refine lv_icmp_ne (tgt := 60) hx hb dX9_goOn_7 (by decide) (fun c_2 => ?_) (fun c_2 => ?_)
  · skip
    have tc_2 : ¬ 1 = n_1.toInt := fun h => c_2 ((fa_eq _ _).mpr h)
    refine lv_iconst (v := 0) hx hb dX9_goOn_60 (by decide) ?_
    refine lv_istore (lv' := [(4, .int 0), (0, .ref h0), (1, .int 1), (2, .int us), (3, .int cs)]) hx hb dX9_goOn_61 hl (by decide) rfl (fun ls hl => ?_)
    refine pp_loop (ι := Int32 × Int32 × (Nat → Int32) × (Nat → Int32)) (fun ⟨v4_63, y9, y7, y8⟩ => ((nf 1).toInt - v4_63.toInt).toNat) (fun ⟨v4_63, y9, y7, y8⟩ H locs ls => ((y7 0).toInt = (wf 0).toInt) ∧ (0 ≤ v4_63.toInt) ∧ va_P (dC, dI) vwCl [(h0, .inr (7, [.ref a0, v1, .ref p0, v3, v4, v5, v6, .ref w0, .ref x0, .int y9, v10, v11, v12, v13, v14, v15, v16, v17, v18, v19, v20, v21, v22, v23, v24, v25, v26, v27])), (a0, .inl (ac, 38, .inl nf)), (p0, .inl (pc, 7, .inr (.inl pf))), (w0, .inl (wc, 7, .inl y7)), (x0, .inl (xc, 7, .inl y8))] H ∧ va_D A [(h0, .inr (7, [.ref a0, v1, .ref p0, v3, v4, v5, v6, .ref w0, .ref x0, .int y9, v10, v11, v12, v13, v14, v15, v16, v17, v18, v19, v20, v21, v22, v23, v24, v25, v26, v27])), (a0, .inl (ac, 38, .inl nf)), (p0, .inl (pc, 7, .inr (.inl pf))), (w0, .inl (wc, 7, .inl y7)), (x0, .inl (xc, 7, .inl y8))] ∧ va_S A s.heap H locs ∧ lv_has ls 5 [(4, .int v4_63), (0, .ref h0), (1, .int 1), (2, .int us), (3, .int cs)]) ?_ (0, lc, wf, xf) _ _ _ ⟨(by first | omega | decide | (simp only [fa_lt, fa_le, fa_eq, and_true, true_and, and_false, false_and, not_true_eq_false, not_false_eq_true, li_0, li_1, li_2, li_3, li_4, li_5, li_6, li_7, li_8, li_9, li_10, li_12, li_15, li_16, li_20, li_30, li_34, li_38, li_40, li_63, li_64, li_65, li_78, li_120, li_1000, li_4000, li_10000, li_11077, li_255, li_65535, li_m1, li_m2, li_m1000000001, li_m1000000002, li_m1000000003, li_m1000000004, li_m1000000005, li_m1000000006, li_m1000000007, or_true, true_or, or_false, false_or, implies_true, true_implies, false_implies] <;> omega)), (by first | omega | decide | (simp only [fa_lt, fa_le, fa_eq, and_true, true_and, and_false, false_and, not_true_eq_false, not_false_eq_true, li_0, li_1, li_2, li_3, li_4, li_5, li_6, li_7, li_8, li_9, li_10, li_12, li_15, li_16, li_20, li_30, li_34, li_38, li_40, li_63, li_64, li_65, li_78, li_120, li_1000, li_4000, li_10000, li_11077, li_255, li_65535, li_m1, li_m2, li_m1000000001, li_m1000000002, li_m1000000003, li_m1000000004, li_m1000000005, li_m1000000006, li_m1000000007, or_true, true_or, or_false, false_or, implies_true, true_implies, false_implies] <;> omega)), hP.sub [0, 1, 2, 3, 4] rfl, hD.sub [0, 1, 2, 3, 4] (by decide) rfl, hS, lv_sub hl [0, 1, 2, 3, 4] rfl⟩
    intro k_3 ihk_3 u H locs ls hm hI
    obtain ⟨v4_63, y9, y7, y8⟩ := u
    obtain ⟨jk_3_0, jk_3_1, hP, hD, hS, hl⟩ := hI
    have hmk_3 : ((nf 1).toInt - v4_63.toInt).toNat < k_3 + 1 := hm
    clear hm
    have jk_3_0 : (y7 0).toInt = (wf 0).toInt := jk_3_0
    have jk_3_1 : 0 ≤ v4_63.toInt := jk_3_1
    have hl : lv_has ls 5 [(4, .int v4_63), (0, .ref h0), (1, .int 1), (2, .int us), (3, .int cs)] := hl
    have hP : va_P (dC, dI) vwCl [(h0, .inr (7, [.ref a0, v1, .ref p0, v3, v4, v5, v6, .ref w0, .ref x0, .int y9, v10, v11, v12, v13, v14, v15, v16, v17, v18, v19, v20, v21, v22, v23, v24, v25, v26, v27])), (a0, .inl (ac, 38, .inl nf)), (p0, .inl (pc, 7, .inr (.inl pf))), (w0, .inl (wc, 7, .inl y7)), (x0, .inl (xc, 7, .inl y8))] H := hP
    have hD : va_D A [(h0, .inr (7, [.ref a0, v1, .ref p0, v3, v4, v5, v6, .ref w0, .ref x0, .int y9, v10, v11, v12, v13, v14, v15, v16, v17, v18, v19, v20, v21, v22, v23, v24, v25, v26, v27])), (a0, .inl (ac, 38, .inl nf)), (p0, .inl (pc, 7, .inr (.inl pf))), (w0, .inl (wc, 7, .inl y7)), (x0, .inl (xc, 7, .inl y8))] := hD
    refine lv_iload hx hb dX9_goOn_63 (lv_at hl 0 rfl) ?_
    refine lv_aload_n hx hb dX9_goOn_65 rfl (lv_at hl 1 rfl) ?_
    refine va_get (D := (dC, dI)) (ci := 7) (v := .ref a0) (C := RX9) (T := TX9) (N := 28) hx hb hts inX9 hown hK hP 0 rfl rfl 0 (by decide) (hts _ (List.mem_of_getElem? (i := 1) rfl)) (fun _ h9 => h9) rfl dX9_goOn_66 ?_
    refine lv_iconst (v := 1) hx hb dX9_goOn_69 (by decide) ?_
    refine va_iald hx hb hK hP 1 0 rfl rfl (vp_in_nI (n := 1) (by decide) (by decide)) dX9_goOn_70 ?_
    refine pp_ti (y := nf 1) rfl ?_
    refine lv_topi (fun n_4 en_4 => ?_)
    have tn_4 : n_4.toInt = (nf 1).toInt ∧ 0 ≤ n_4.toInt ∧ n_4.toInt ≤ 7 := mI_r1 hI en_4
    clear en_4
    have rc_5_x := pp_rng v4_63
    have rc_5_y := pp_rng n_4
    refine lv_icmp_ge (tgt := 134) hx hb dX9_goOn_71 (by decide) (fun c_5 => ?_) (fun c_5 => ?_)
    · skip
      have tc_5 : n_4.toInt ≤ v4_63.toInt := (fa_le _ _).mp c_5
      have hP9 := hP.sub (ws' := [(h0, .inr (7, [.ref a0, v1, .ref p0, v3, v4, v5, v6, .ref w0, .ref x0, .int y9, v10, v11, v12, v13, v14, v15, v16, v17, v18, v19, v20, v21, v22, v23, v24, v25, v26, v27])), (a0, .inl (ac, 38, .inl nf)), (p0, .inl (pc, 7, .inr (.inl pf))), (w0, .inl (wc, 7, .inl y7)), (x0, .inl (xc, 7, .inl y8))]) [0, 1, 2, 3, 4] rfl
      have hD9 := hD.sub (ws' := [(h0, .inr (7, [.ref a0, v1, .ref p0, v3, v4, v5, v6, .ref w0, .ref x0, .int y9, v10, v11, v12, v13, v14, v15, v16, v17, v18, v19, v20, v21, v22, v23, v24, v25, v26, v27])), (a0, .inl (ac, 38, .inl nf)), (p0, .inl (pc, 7, .inr (.inl pf))), (w0, .inl (wc, 7, .inl y7)), (x0, .inl (xc, 7, .inl y8))]) [0, 1, 2, 3, 4] (by decide) rfl
      have hK9 := hK.sub (tys' := [(ac, .int), (pc, .long), (wc, .int), (xc, .int)]) [0, 1, 2, 3] rfl
      exact W.vret hx hb hr (fun t ht hW => ⟨⟨(), rfl, trivial, y9, y7, y8, (by first | omega | decide | (simp only [fa_lt, fa_le, fa_eq, and_true, true_and, and_false, false_and, not_true_eq_false, not_false_eq_true, li_0, li_1, li_2, li_3, li_4, li_5, li_6, li_7, li_8, li_9, li_10, li_12, li_15, li_16, li_20, li_30, li_34, li_38, li_40, li_63, li_64, li_65, li_78, li_120, li_1000, li_4000, li_10000, li_11077, li_255, li_65535, li_m1, li_m2, li_m1000000001, li_m1000000002, li_m1000000003, li_m1000000004, li_m1000000005, li_m1000000006, li_m1000000007, or_true, true_or, or_false, false_or, implies_true, true_implies, false_implies] <;> omega)), by rw [ht]; exact hP9, va_K.moved hW.alike hK9, hD9⟩, hS.F ht⟩) hS.2.2 dX9_goOn_134
    · skip
      have tc_5 : ¬ n_4.toInt ≤ v4_63.toInt := fun h => c_5 ((fa_le _ _).mpr h)
      refine lv_iload_n hx hb dX9_goOn_74 rfl (lv_at hl 3 rfl) ?_
      refine lv_iload hx hb dX9_goOn_75 (lv_at hl 0 rfl) ?_
      refine lv_ishr hx hb dX9_goOn_77 ?_
      refine lv_topi (fun n_6 en_6 => ?_)
      clear en_6
      refine lv_iconst (v := 1) hx hb dX9_goOn_78 (by decide) ?_
      refine lv_iand hx hb dX9_goOn_79 ?_
      refine lv_topi (fun n_7 en_7 => ?_)
      clear en_7
      refine lv_if_ne (tgt := 128) hx hb dX9_goOn_80 (by decide) (fun c_8 => ?_) (fun c_8 => ?_)
      · skip
        have tc_8 : ¬ n_7.toInt = 0 := fun h => c_8 ((fa_eq _ _).mpr h)
        obtain ⟨n_9, en_9⟩ : ∃ y : Int32, y = v4_63 + 1 := ⟨_, rfl⟩
        have tn_9 : n_9.toInt = v4_63.toInt + 1 := pp_add en_9 rfl rfl (by omega) (by omega)
        refine lv_iinc (v := n_9) (lv' := [(4, .int n_9), (0, .ref h0), (1, .int 1), (2, .int us), (3, .int cs)]) hx hb dX9_goOn_128 hl (k := 0) rfl (by rw [en_9]; rfl) (by decide) rfl (fun ls hl => ?_)
        clear en_9
        refine lv_goto (tgt := 63) hx hb dX9_goOn_131 (by decide) ?_
        exact ihk_3 (n_9, y9, y7, y8) _ _ _ (by show ((nf 1).toInt - n_9.toInt).toNat < k_3; omega) ⟨(by first | omega | decide | (simp only [fa_lt, fa_le, fa_eq, and_true, true_and, and_false, false_and, not_true_eq_false, not_false_eq_true, li_0, li_1, li_2, li_3, li_4, li_5, li_6, li_7, li_8, li_9, li_10, li_12, li_15, li_16, li_20, li_30, li_34, li_38, li_40, li_63, li_64, li_65, li_78, li_120, li_1000, li_4000, li_10000, li_11077, li_255, li_65535, li_m1, li_m2, li_m1000000001, li_m1000000002, li_m1000000003, li_m1000000004, li_m1000000005, li_m1000000006, li_m1000000007, or_true, true_or, or_false, false_or, implies_true, true_implies, false_implies] <;> omega)), (by first | omega | decide | (simp only [fa_lt, fa_le, fa_eq, and_true, true_and, and_false, false_and, not_true_eq_false, not_false_eq_true, li_0, li_1, li_2, li_3, li_4, li_5, li_6, li_7, li_8, li_9, li_10, li_12, li_15, li_16, li_20, li_30, li_34, li_38, li_40, li_63, li_64, li_65, li_78, li_120, li_1000, li_4000, li_10000, li_11077, li_255, li_65535, li_m1, li_m2, li_m1000000001, li_m1000000002, li_m1000000003, li_m1000000004, li_m1000000005, li_m1000000006, li_m1000000007, or_true, true_or, or_false, false_or, implies_true, true_implies, false_implies] <;> omega)), hP.sub [0, 1, 2, 3, 4] rfl, hD.sub [0, 1, 2, 3, 4] (by decide) rfl, hS, lv_sub hl [0, 1, 2, 3, 4] rfl⟩
      · skip
        have tc_8 : n_7.toInt = 0 := (fa_eq _ _).mp c_8
        refine lv_aload_n hx hb dX9_goOn_83 rfl (lv_at hl 1 rfl) ?_
        refine va_get (D := (dC, dI)) (ci := 7) (v := .ref w0) (C := RX9) (T := TX9) (N := 28) hx hb hts inX9 hown hK hP 0 rfl rfl 7 (by decide) (hts _ (List.mem_of_getElem? (i := 2) rfl)) (fun _ h9 => h9) rfl dX9_goOn_84 ?_
        refine lv_iload_n hx hb dX9_goOn_87 rfl (lv_at hl 2 rfl) ?_
        refine lv_iload hx hb dX9_goOn_88 (lv_at hl 0 rfl) ?_
        refine va_iast hx hb hK hP hD hS 3 2 rfl rfl (vp_in_nI (n := 1) (by decide) (by decide)) dX9_goOn_90 (fun H locs hP hD hS => ?_)
        have hP : va_P (dC, dI) vwCl [(h0, .inr (7, [.ref a0, v1, .ref p0, v3, v4, v5, v6, .ref w0, .ref x0, .int y9, v10, v11, v12, v13, v14, v15, v16, v17, v18, v19, v20, v21, v22, v23, v24, v25, v26, v27])), (a0, .inl (ac, 38, .inl nf)), (p0, .inl (pc, 7, .inr (.inl pf))), (w0, .inl (wc, 7, .inl (upd y7 1 v4_63))), (x0, .inl (xc, 7, .inl y8))] H := hP
        have hD : va_D A [(h0, .inr (7, [.ref a0, v1, .ref p0, v3, v4, v5, v6, .ref w0, .ref x0, .int y9, v10, v11, v12, v13, v14, v15, v16, v17, v18, v19, v20, v21, v22, v23, v24, v25, v26, v27])), (a0, .inl (ac, 38, .inl nf)), (p0, .inl (pc, 7, .inr (.inl pf))), (w0, .inl (wc, 7, .inl (upd y7 1 v4_63))), (x0, .inl (xc, 7, .inl y8))] := hD
        have q_11 : ((upd y7 1 v4_63) 0).toInt = (y7 0).toInt := pp_uN_ne (by decide)
        have q_12 : ((upd y7 1 v4_63) 1).toInt = v4_63.toInt := pp_uN_eq rfl
        have q_13 : ((upd y7 1 v4_63) 2).toInt = (y7 2).toInt := pp_uN_ne (by decide)
        have q_14 : ((upd y7 1 v4_63) 3).toInt = (y7 3).toInt := pp_uN_ne (by decide)
        have q_15 : ((upd y7 1 v4_63) 4).toInt = (y7 4).toInt := pp_uN_ne (by decide)
        have q_16 : ((upd y7 1 v4_63) 5).toInt = (y7 5).toInt := pp_uN_ne (by decide)
        generalize upd y7 1 v4_63 = f_10 at hP hD q_11 q_12 q_13 q_14 q_15 q_16
        have hP : va_P (dC, dI) vwCl [(h0, .inr (7, [.ref a0, v1, .ref p0, v3, v4, v5, v6, .ref w0, .ref x0, .int y9, v10, v11, v12, v13, v14, v15, v16, v17, v18, v19, v20, v21, v22, v23, v24, v25, v26, v27])), (a0, .inl (ac, 38, .inl nf)), (p0, .inl (pc, 7, .inr (.inl pf))), (w0, .inl (wc, 7, .inl f_10)), (x0, .inl (xc, 7, .inl y8))] H := hP
        have hD : va_D A [(h0, .inr (7, [.ref a0, v1, .ref p0, v3, v4, v5, v6, .ref w0, .ref x0, .int y9, v10, v11, v12, v13, v14, v15, v16, v17, v18, v19, v20, v21, v22, v23, v24, v25, v26, v27])), (a0, .inl (ac, 38, .inl nf)), (p0, .inl (pc, 7, .inr (.inl pf))), (w0, .inl (wc, 7, .inl f_10)), (x0, .inl (xc, 7, .inl y8))] := hD
        refine lv_aload_n hx hb dX9_goOn_91 rfl (lv_at hl 1 rfl) ?_
        refine lv_iload_n hx hb dX9_goOn_92 rfl (lv_at hl 2 rfl) ?_
        refine lv_iconst (v := 1) hx hb dX9_goOn_93 (by decide) ?_
        refine lv_iadd hx hb dX9_goOn_94 ?_
        refine pp_ti (y := 2) (by decide) ?_
        refine lv_iload_n hx hb dX9_goOn_95 rfl (lv_at hl 3 rfl) ?_
        refine lv_iconst (v := 1) hx hb dX9_goOn_96 (by decide) ?_
        refine lv_iload hx hb dX9_goOn_97 (lv_at hl 0 rfl) ?_
        refine lv_ishl hx hb dX9_goOn_99 ?_
        refine lv_topi (fun n_17 en_17 => ?_)
        clear en_17
        refine lv_ior hx hb dX9_goOn_100 ?_
        refine lv_topi (fun n_18 en_18 => ?_)
        clear en_18
        refine lv_iload_n hx hb dX9_goOn_101 rfl (lv_at hl 4 rfl) ?_
        refine lv_iload_n hx hb dX9_goOn_102 rfl (lv_at hl 2 rfl) ?_
        refine lv_if_ne (tgt := 110) hx hb dX9_goOn_103 (by decide) (fun _ => ?_) (fun c => absurd c (by decide))
        refine lv_aload_n hx hb dX9_goOn_110 rfl (lv_at hl 1 rfl) ?_
        refine lv_aload_n hx hb dX9_goOn_111 rfl (lv_at hl 1 rfl) ?_
        refine va_get (D := (dC, dI)) (ci := 7) (v := .ref w0) (C := RX9) (T := TX9) (N := 28) hx hb hts inX9 hown hK hP 0 rfl rfl 7 (by decide) (hts _ (List.mem_of_getElem? (i := 2) rfl)) (fun _ h9 => h9) rfl dX9_goOn_112 ?_
        refine lv_iload_n hx hb dX9_goOn_115 rfl (lv_at hl 2 rfl) ?_
        refine lv_iconst (v := 1) hx hb dX9_goOn_116 (by decide) ?_
        refine lv_isub hx hb dX9_goOn_117 ?_
        refine pp_ti (y := 0) (by decide) ?_
        refine va_iald hx hb hK hP 3 2 rfl rfl (vp_in_nI (n := 0) (by decide) (by decide)) dX9_goOn_118 ?_
        refine pp_ti (y := f_10 0) rfl ?_
        refine lv_topi (fun n_19 en_19 => ?_)
        have tn_19 : n_19.toInt = (f_10 0).toInt := congrArg Int32.toInt en_19
        clear en_19
        refine lv_iload hx hb dX9_goOn_119 (lv_at hl 0 rfl) ?_
        have hPc := hP.sub (ws' := [(h0, .inr (7, [.ref a0, v1, .ref p0, v3, v4, v5, v6, .ref w0, .ref x0, .int y9, v10, v11, v12, v13, v14, v15, v16, v17, v18, v19, v20, v21, v22, v23, v24, v25, v26, v27])), (p0, .inl (pc, 7, .inr (.inl pf)))]) [0, 2] rfl
        have hKc := hK.sub (tys' := [(pc, .long)]) [1] rfl
        refine vp_callSi (W.runV (As := [.int n_19, .int v4_63]) (rest := [.int cs, .int n_18, .int 2, .ref h0]) ⟨hx, hb, hml, hown, hts⟩ (m_changesOf l dC dI ad h0 n_19 v4_63 (.ref a0) v1 p0 v3 v4 v5 v6 (.ref w0) (.ref x0) (.int y9) v10 v11 v12 v13 v14 v15 v16 v17 v18 v19 v20 v21 v22 v23 v24 v25 v26 v27 pc pf (by first | omega | decide | (simp only [fa_lt, fa_le, fa_eq, and_true, true_and, and_false, false_and, not_true_eq_false, not_false_eq_true, li_0, li_1, li_2, li_3, li_4, li_5, li_6, li_7, li_8, li_9, li_10, li_12, li_15, li_16, li_20, li_30, li_34, li_38, li_40, li_63, li_64, li_65, li_78, li_120, li_1000, li_4000, li_10000, li_11077, li_255, li_65535, li_m1, li_m2, li_m1000000001, li_m1000000002, li_m1000000003, li_m1000000004, li_m1000000005, li_m1000000006, li_m1000000007, or_true, true_or, or_false, false_or, implies_true, true_implies, false_implies] <;> omega)) (by first | omega | decide | (simp only [fa_lt, fa_le, fa_eq, and_true, true_and, and_false, false_and, not_true_eq_false, not_false_eq_true, li_0, li_1, li_2, li_3, li_4, li_5, li_6, li_7, li_8, li_9, li_10, li_12, li_15, li_16, li_20, li_30, li_34, li_38, li_40, li_63, li_64, li_65, li_78, li_120, li_1000, li_4000, li_10000, li_11077, li_255, li_65535, li_m1, li_m2, li_m1000000001, li_m1000000002, li_m1000000003, li_m1000000004, li_m1000000005, li_m1000000006, li_m1000000007, or_true, true_or, or_false, false_or, implies_true, true_implies, false_implies] <;> omega))) (cwV 2 hts g_m_goOn_1_m_changesOf_161 rfl rfl rfl (by decide +kernel) ⟨(Nat.le_of_ble_eq_true rfl), (Nat.le_of_ble_eq_true rfl)⟩) ⟨preS_blind, va_recv hKc hPc (ci := 7) (q0 := 0) rfl rfl, fun U hU hW => ⟨rfl, preS_at hU hW hPc hKc hev⟩⟩ rfl rfl hl.1 rfl (lv_room (Nat.le_of_ble_eq_true rfl)) dX9_goOn_121 ⟨(Nat.le_of_ble_eq_true rfl), (Nat.le_of_ble_eq_true rfl)⟩) (fun r_20 hw => ?_)
        refine lv_iadd hx hb dX9_goOn_124 ?_
        refine lv_topi (fun n_21 en_21 => ?_)
        clear en_21
        have hPc := hP.sub (ws' := [(h0, .inr (7, [.ref a0, v1, .ref p0, v3, v4, v5, v6, .ref w0, .ref x0, .int y9, v10, v11, v12, v13, v14, v15, v16, v17, v18, v19, v20, v21, v22, v23, v24, v25, v26, v27])), (a0, .inl (ac, 38, .inl nf)), (p0, .inl (pc, 7, .inr (.inl pf))), (w0, .inl (wc, 7, .inl f_10)), (x0, .inl (xc, 7, .inl y8))]) [0, 1, 2, 3, 4] rfl
        have hKc := hK.sub (tys' := [(ac, .int), (pc, .long), (wc, .int), (xc, .int)]) [0, 1, 2, 3] rfl
        have hDc := hD.sub (ws' := [(h0, .inr (7, [.ref a0, v1, .ref p0, v3, v4, v5, v6, .ref w0, .ref x0, .int y9, v10, v11, v12, v13, v14, v15, v16, v17, v18, v19, v20, v21, v22, v23, v24, v25, v26, v27])), (a0, .inl (ac, 38, .inl nf)), (p0, .inl (pc, 7, .inr (.inl pf))), (w0, .inl (wc, 7, .inl f_10)), (x0, .inl (xc, 7, .inl y8))]) [0, 1, 2, 3, 4] (by decide) rfl
        have hFc := va_free (wc := [(h0, .inr (7, [.ref a0, v1, .ref p0, v3, v4, v5, v6, .ref w0, .ref x0, .int y9, v10, v11, v12, v13, v14, v15, v16, v17, v18, v19, v20, v21, v22, v23, v24, v25, v26, v27])), (a0, .inl (ac, 38, .inl nf)), (p0, .inl (pc, 7, .inr (.inl pf))), (w0, .inl (wc, 7, .inl f_10)), (x0, .inl (xc, 7, .inl y8))]) hD hS hA [0, 1, 2, 3, 4] rfl
        refine va_callv (va_runV (As := [.int 2, .int n_18, .int n_21]) (rest := []) ⟨hx, hb, hml, hown, hts⟩ (m_goOn_2 l dC dI ad h0 n_18 n_21 a0 v1 p0 v3 v4 v5 v6 w0 x0 y9 v10 v11 v12 v13 v14 v15 v16 v17 v18 v19 v20 v21 v22 v23 v24 v25 v26 v27 ac nf pc pf wc f_10 xc y8 H.size hI (by first | omega | decide | (simp only [fa_lt, fa_le, fa_eq, and_true, true_and, and_false, false_and, not_true_eq_false, not_false_eq_true, li_0, li_1, li_2, li_3, li_4, li_5, li_6, li_7, li_8, li_9, li_10, li_12, li_15, li_16, li_20, li_30, li_34, li_38, li_40, li_63, li_64, li_65, li_78, li_120, li_1000, li_4000, li_10000, li_11077, li_255, li_65535, li_m1, li_m2, li_m1000000001, li_m1000000002, li_m1000000003, li_m1000000004, li_m1000000005, li_m1000000006, li_m1000000007, or_true, true_or, or_false, false_or, implies_true, true_implies, false_implies] <;> omega)) (by first | omega | decide | (simp only [fa_lt, fa_le, fa_eq, and_true, true_and, and_false, false_and, not_true_eq_false, not_false_eq_true, li_0, li_1, li_2, li_3, li_4, li_5, li_6, li_7, li_8, li_9, li_10, li_12, li_15, li_16, li_20, li_30, li_34, li_38, li_40, li_63, li_64, li_65, li_78, li_120, li_1000, li_4000, li_10000, li_11077, li_255, li_65535, li_m1, li_m2, li_m1000000001, li_m1000000002, li_m1000000003, li_m1000000004, li_m1000000005, li_m1000000006, li_m1000000007, or_true, true_or, or_false, false_or, implies_true, true_implies, false_implies] <;> omega)) (by first | omega | decide | (simp only [fa_lt, fa_le, fa_eq, and_true, true_and, and_false, false_and, not_true_eq_false, not_false_eq_true, li_0, li_1, li_2, li_3, li_4, li_5, li_6, li_7, li_8, li_9, li_10, li_12, li_15, li_16, li_20, li_30, li_34, li_38, li_40, li_63, li_64, li_65, li_78, li_120, li_1000, li_4000, li_10000, li_11077, li_255, li_65535, li_m1, li_m2, li_m1000000001, li_m1000000002, li_m1000000003, li_m1000000004, li_m1000000005, li_m1000000006, li_m1000000007, or_true, true_or, or_false, false_or, implies_true, true_implies, false_implies] <;> omega))) (cwV 3 hts g_m_goOn_1_m_goOn_2_183 rfl rfl rfl (by decide +kernel) ⟨(Nat.le_of_ble_eq_true rfl), (Nat.le_of_ble_eq_true rfl)⟩) ⟨preM_blind, va_recv hKc hPc (ci := 7) (q0 := 0) rfl rfl, fun U hU hW => ⟨rfl, preM_at hU hW hPc hKc hDc hev⟩⟩ rfl rfl hl.1 rfl (lv_room (Nat.le_of_ble_eq_true rfl)) dX9_goOn_125 ⟨(Nat.le_of_ble_eq_true rfl), (Nat.le_of_ble_eq_true rfl)⟩) hS (fun q _ h => hFc q h) hFc (fun u t H1 locs ht hvm hw hB hz1 hk1 hS => ?_)
        obtain ⟨lc_23, wg_24, xg_25, hq_26, hP1, hK1, hD1⟩ := hB
        rw [ht] at hP1
        have hK1 := va_K.moved hvm.symm hK1
        obtain ⟨hP, hD⟩ := va_join (wr := []) (w1 := [(h0, .inr (7, [.ref a0, v1, .ref p0, v3, v4, v5, v6, .ref w0, .ref x0, .int lc_23, v10, v11, v12, v13, v14, v15, v16, v17, v18, v19, v20, v21, v22, v23, v24, v25, v26, v27])), (a0, .inl (ac, 38, .inl nf)), (p0, .inl (pc, 7, .inr (.inl pf))), (w0, .inl (wc, 7, .inl wg_24)), (x0, .inl (xc, 7, .inl xg_25))]) hP hD [0, 1, 2, 3, 4] [] rfl rfl (by decide) (by decide) hk1 hFc hP1 hD1
        generalize H1 = H at hP hS ⊢
        have hP : va_P (dC, dI) vwCl [(h0, .inr (7, [.ref a0, v1, .ref p0, v3, v4, v5, v6, .ref w0, .ref x0, .int lc_23, v10, v11, v12, v13, v14, v15, v16, v17, v18, v19, v20, v21, v22, v23, v24, v25, v26, v27])), (a0, .inl (ac, 38, .inl nf)), (p0, .inl (pc, 7, .inr (.inl pf))), (w0, .inl (wc, 7, .inl wg_24)), (x0, .inl (xc, 7, .inl xg_25))] H := hP
        have hD : va_D A [(h0, .inr (7, [.ref a0, v1, .ref p0, v3, v4, v5, v6, .ref w0, .ref x0, .int lc_23, v10, v11, v12, v13, v14, v15, v16, v17, v18, v19, v20, v21, v22, v23, v24, v25, v26, v27])), (a0, .inl (ac, 38, .inl nf)), (p0, .inl (pc, 7, .inr (.inl pf))), (w0, .inl (wc, 7, .inl wg_24)), (x0, .inl (xc, 7, .inl xg_25))] := hD
        obtain ⟨n_27, en_27⟩ : ∃ y : Int32, y = v4_63 + 1 := ⟨_, rfl⟩
        have tn_27 : n_27.toInt = v4_63.toInt + 1 := pp_add en_27 rfl rfl (by omega) (by omega)
        refine lv_iinc (v := n_27) (lv' := [(4, .int n_27), (0, .ref h0), (1, .int 1), (2, .int us), (3, .int cs)]) hx hb dX9_goOn_128 hl (k := 0) rfl (by rw [en_27]; rfl) (by decide) rfl (fun ls hl => ?_)
        clear en_27
        refine lv_goto (tgt := 63) hx hb dX9_goOn_131 (by decide) ?_
        exact ihk_3 (n_27, lc_23, wg_24, xg_25) _ _ _ (by show ((nf 1).toInt - n_27.toInt).toNat < k_3; omega) ⟨(by first | omega | decide | (simp only [fa_lt, fa_le, fa_eq, and_true, true_and, and_false, false_and, not_true_eq_false, not_false_eq_true, li_0, li_1, li_2, li_3, li_4, li_5, li_6, li_7, li_8, li_9, li_10, li_12, li_15, li_16, li_20, li_30, li_34, li_38, li_40, li_63, li_64, li_65, li_78, li_120, li_1000, li_4000, li_10000, li_11077, li_255, li_65535, li_m1, li_m2, li_m1000000001, li_m1000000002, li_m1000000003, li_m1000000004, li_m1000000005, li_m1000000006, li_m1000000007, or_true, true_or, or_false, false_or, implies_true, true_implies, false_implies] <;> omega)), (by first | omega | decide | (simp only [fa_lt, fa_le, fa_eq, and_true, true_and, and_false, false_and, not_true_eq_false, not_false_eq_true, li_0, li_1, li_2, li_3, li_4, li_5, li_6, li_7, li_8, li_9, li_10, li_12, li_15, li_16, li_20, li_30, li_34, li_38, li_40, li_63, li_64, li_65, li_78, li_120, li_1000, li_4000, li_10000, li_11077, li_255, li_65535, li_m1, li_m2, li_m1000000001, li_m1000000002, li_m1000000003, li_m1000000004, li_m1000000005, li_m1000000006, li_m1000000007, or_true, true_or, or_false, false_or, implies_true, true_implies, false_implies] <;> omega)), hP.sub [0, 1, 2, 3, 4] rfl, hD.sub [0, 1, 2, 3, 4] (by decide) rfl, hS, lv_sub hl [0, 1, 2, 3, 4] rfl⟩
  · skip
    have tc_2 : 1 = n_1.toInt := (fa_eq _ _).mp c_2
    refine lv_aload_n hx hb dX9_goOn_10 rfl (lv_at hl 0 rfl) ?_
    refine va_get (D := (dC, dI)) (ci := 7) (v := .int lc) (C := RX9) (T := TX9) (N := 28) hx hb hts inX9 hown hK hP 0 rfl rfl 9 (by decide) (hts _ (List.mem_of_getElem? (i := 16) rfl)) (fun _ h9 => h9) rfl dX9_goOn_11 ?_
    refine lv_if_lt (tgt := 25) hx hb dX9_goOn_14 (by decide) (fun c_28 => ?_) (fun c_28 => ?_)
    · skip
      have tc_28 : lc.toInt < 0 := (fa_lt _ _).mp c_28
      refine lv_aload_n hx hb dX9_goOn_25 rfl (lv_at hl 0 rfl) ?_
      refine lv_iload_n hx hb dX9_goOn_26 rfl (lv_at hl 3 rfl) ?_
      refine va_put (D := (dC, dI)) (ci := 7) (v := .int cs) (ty := .int) (C := RX9) (T := TX9) (N := 28) hx hb hts inX9 tyX9 tyX9_ok nmX9 hown hK hP hD hS 0 rfl rfl 9 (by decide) (hts _ (List.mem_of_getElem? (i := 16) rfl)) (fun _ h9 => h9) rfl (by decide +kernel) rfl rfl (Nat.le_of_ble_eq_true rfl) dX9_goOn_27 (fun H locs hP hD hS => ?_)
      have hP : va_P (dC, dI) vwCl [(h0, .inr (7, [.ref a0, v1, .ref p0, v3, v4, v5, v6, .ref w0, .ref x0, .int cs, v10, v11, v12, v13, v14, v15, v16, v17, v18, v19, v20, v21, v22, v23, v24, v25, v26, v27])), (a0, .inl (ac, 38, .inl nf)), (p0, .inl (pc, 7, .inr (.inl pf))), (w0, .inl (wc, 7, .inl wf)), (x0, .inl (xc, 7, .inl xf))] H := hP
      have hD : va_D A [(h0, .inr (7, [.ref a0, v1, .ref p0, v3, v4, v5, v6, .ref w0, .ref x0, .int cs, v10, v11, v12, v13, v14, v15, v16, v17, v18, v19, v20, v21, v22, v23, v24, v25, v26, v27])), (a0, .inl (ac, 38, .inl nf)), (p0, .inl (pc, 7, .inr (.inl pf))), (w0, .inl (wc, 7, .inl wf)), (x0, .inl (xc, 7, .inl xf))] := hD
      refine lv_iconst (v := 0) hx hb dX9_goOn_30 (by decide) ?_
      refine lv_istore (lv' := [(4, .int 0), (0, .ref h0), (1, .int 1), (2, .int us), (3, .int cs)]) hx hb dX9_goOn_31 hl (by decide) rfl (fun ls hl => ?_)
      refine pp_loop (ι := Int32 × (Nat → Int32)) (fun ⟨v4_33, z8⟩ => (1 - v4_33.toInt).toNat) (fun ⟨v4_33, z8⟩ H locs ls => (0 ≤ v4_33.toInt) ∧ (v4_33.toInt ≤ 1) ∧ va_P (dC, dI) vwCl [(h0, .inr (7, [.ref a0, v1, .ref p0, v3, v4, v5, v6, .ref w0, .ref x0, .int cs, v10, v11, v12, v13, v14, v15, v16, v17, v18, v19, v20, v21, v22, v23, v24, v25, v26, v27])), (a0, .inl (ac, 38, .inl nf)), (p0, .inl (pc, 7, .inr (.inl pf))), (w0, .inl (wc, 7, .inl wf)), (x0, .inl (xc, 7, .inl z8))] H ∧ va_D A [(h0, .inr (7, [.ref a0, v1, .ref p0, v3, v4, v5, v6, .ref w0, .ref x0, .int cs, v10, v11, v12, v13, v14, v15, v16, v17, v18, v19, v20, v21, v22, v23, v24, v25, v26, v27])), (a0, .inl (ac, 38, .inl nf)), (p0, .inl (pc, 7, .inr (.inl pf))), (w0, .inl (wc, 7, .inl wf)), (x0, .inl (xc, 7, .inl z8))] ∧ va_S A s.heap H locs ∧ lv_has ls 5 [(4, .int v4_33), (0, .ref h0), (1, .int 1), (2, .int us), (3, .int cs)]) ?_ (0, xf) _ _ _ ⟨(by first | omega | decide | (simp only [fa_lt, fa_le, fa_eq, and_true, true_and, and_false, false_and, not_true_eq_false, not_false_eq_true, li_0, li_1, li_2, li_3, li_4, li_5, li_6, li_7, li_8, li_9, li_10, li_12, li_15, li_16, li_20, li_30, li_34, li_38, li_40, li_63, li_64, li_65, li_78, li_120, li_1000, li_4000, li_10000, li_11077, li_255, li_65535, li_m1, li_m2, li_m1000000001, li_m1000000002, li_m1000000003, li_m1000000004, li_m1000000005, li_m1000000006, li_m1000000007, or_true, true_or, or_false, false_or, implies_true, true_implies, false_implies] <;> omega)), (by first | omega | decide | (simp only [fa_lt, fa_le, fa_eq, and_true, true_and, and_false, false_and, not_true_eq_false, not_false_eq_true, li_0, li_1, li_2, li_3, li_4, li_5, li_6, li_7, li_8, li_9, li_10, li_12, li_15, li_16, li_20, li_30, li_34, li_38, li_40, li_63, li_64, li_65, li_78, li_120, li_1000, li_4000, li_10000, li_11077, li_255, li_65535, li_m1, li_m2, li_m1000000001, li_m1000000002, li_m1000000003, li_m1000000004, li_m1000000005, li_m1000000006, li_m1000000007, or_true, true_or, or_false, false_or, implies_true, true_implies, false_implies] <;> omega)), hP.sub [0, 1, 2, 3, 4] rfl, hD.sub [0, 1, 2, 3, 4] (by decide) rfl, hS, lv_sub hl [0, 1, 2, 3, 4] rfl⟩
      intro k_29 ihk_29 u H locs ls hm hI
      obtain ⟨v4_33, z8⟩ := u
      obtain ⟨jk_29_0, jk_29_1, hP, hD, hS, hl⟩ := hI
      have hmk_29 : (1 - v4_33.toInt).toNat < k_29 + 1 := hm
      clear hm
      have jk_29_0 : 0 ≤ v4_33.toInt := jk_29_0
      have jk_29_1 : v4_33.toInt ≤ 1 := jk_29_1
      have hl : lv_has ls 5 [(4, .int v4_33), (0, .ref h0), (1, .int 1), (2, .int us), (3, .int cs)] := hl
      have hP : va_P (dC, dI) vwCl [(h0, .inr (7, [.ref a0, v1, .ref p0, v3, v4, v5, v6, .ref w0, .ref x0, .int cs, v10, v11, v12, v13, v14, v15, v16, v17, v18, v19, v20, v21, v22, v23, v24, v25, v26, v27])), (a0, .inl (ac, 38, .inl nf)), (p0, .inl (pc, 7, .inr (.inl pf))), (w0, .inl (wc, 7, .inl wf)), (x0, .inl (xc, 7, .inl z8))] H := hP
      have hD : va_D A [(h0, .inr (7, [.ref a0, v1, .ref p0, v3, v4, v5, v6, .ref w0, .ref x0, .int cs, v10, v11, v12, v13, v14, v15, v16, v17, v18, v19, v20, v21, v22, v23, v24, v25, v26, v27])), (a0, .inl (ac, 38, .inl nf)), (p0, .inl (pc, 7, .inr (.inl pf))), (w0, .inl (wc, 7, .inl wf)), (x0, .inl (xc, 7, .inl z8))] := hD
      refine lv_iload hx hb dX9_goOn_33 (lv_at hl 0 rfl) ?_
      refine lv_iload_n hx hb dX9_goOn_35 rfl (lv_at hl 2 rfl) ?_
      refine lv_icmp_ge (tgt := 59) hx hb dX9_goOn_36 (by decide) (fun c_30 => ?_) (fun c_30 => ?_)
      · skip
        have tc_30 : 1 ≤ v4_33.toInt := (fa_le _ _).mp c_30
        have hP9 := hP.sub (ws' := [(h0, .inr (7, [.ref a0, v1, .ref p0, v3, v4, v5, v6, .ref w0, .ref x0, .int cs, v10, v11, v12, v13, v14, v15, v16, v17, v18, v19, v20, v21, v22, v23, v24, v25, v26, v27])), (a0, .inl (ac, 38, .inl nf)), (p0, .inl (pc, 7, .inr (.inl pf))), (w0, .inl (wc, 7, .inl wf)), (x0, .inl (xc, 7, .inl z8))]) [0, 1, 2, 3, 4] rfl
        have hD9 := hD.sub (ws' := [(h0, .inr (7, [.ref a0, v1, .ref p0, v3, v4, v5, v6, .ref w0, .ref x0, .int cs, v10, v11, v12, v13, v14, v15, v16, v17, v18, v19, v20, v21, v22, v23, v24, v25, v26, v27])), (a0, .inl (ac, 38, .inl nf)), (p0, .inl (pc, 7, .inr (.inl pf))), (w0, .inl (wc, 7, .inl wf)), (x0, .inl (xc, 7, .inl z8))]) [0, 1, 2, 3, 4] (by decide) rfl
        have hK9 := hK.sub (tys' := [(ac, .int), (pc, .long), (wc, .int), (xc, .int)]) [0, 1, 2, 3] rfl
        exact W.vret hx hb hr (fun t ht hW => ⟨⟨(), rfl, trivial, cs, wf, z8, (by first | omega | decide | (simp only [fa_lt, fa_le, fa_eq, and_true, true_and, and_false, false_and, not_true_eq_false, not_false_eq_true, li_0, li_1, li_2, li_3, li_4, li_5, li_6, li_7, li_8, li_9, li_10, li_12, li_15, li_16, li_20, li_30, li_34, li_38, li_40, li_63, li_64, li_65, li_78, li_120, li_1000, li_4000, li_10000, li_11077, li_255, li_65535, li_m1, li_m2, li_m1000000001, li_m1000000002, li_m1000000003, li_m1000000004, li_m1000000005, li_m1000000006, li_m1000000007, or_true, true_or, or_false, false_or, implies_true, true_implies, false_implies] <;> omega)), by rw [ht]; exact hP9, va_K.moved hW.alike hK9, hD9⟩, hS.F ht⟩) hS.2.2 dX9_goOn_59
      · skip
        have tc_30 : ¬ 1 ≤ v4_33.toInt := fun h => c_30 ((fa_le _ _).mpr h)
        refine lv_aload_n hx hb dX9_goOn_39 rfl (lv_at hl 1 rfl) ?_
        refine va_get (D := (dC, dI)) (ci := 7) (v := .ref x0) (C := RX9) (T := TX9) (N := 28) hx hb hts inX9 hown hK hP 0 rfl rfl 8 (by decide) (hts _ (List.mem_of_getElem? (i := 17) rfl)) (fun _ h9 => h9) rfl dX9_goOn_40 ?_
        refine lv_iload hx hb dX9_goOn_43 (lv_at hl 0 rfl) ?_
        refine lv_aload_n hx hb dX9_goOn_45 rfl (lv_at hl 1 rfl) ?_
        refine va_get (D := (dC, dI)) (ci := 7) (v := .ref w0) (C := RX9) (T := TX9) (N := 28) hx hb hts inX9 hown hK hP 0 rfl rfl 7 (by decide) (hts _ (List.mem_of_getElem? (i := 2) rfl)) (fun _ h9 => h9) rfl dX9_goOn_46 ?_
        refine lv_iload hx hb dX9_goOn_49 (lv_at hl 0 rfl) ?_
        refine va_iald hx hb hK hP 3 2 rfl rfl (vp_in_iff.mpr ⟨by omega, by omega⟩) dX9_goOn_51 ?_
        refine lv_topi (fun n_31 en_31 => ?_)
        clear en_31
        refine va_iast hx hb hK hP hD hS 4 3 rfl rfl (vp_in_iff.mpr ⟨by omega, by omega⟩) dX9_goOn_52 (fun H locs hP hD hS => ?_)
        have hP : va_P (dC, dI) vwCl [(h0, .inr (7, [.ref a0, v1, .ref p0, v3, v4, v5, v6, .ref w0, .ref x0, .int cs, v10, v11, v12, v13, v14, v15, v16, v17, v18, v19, v20, v21, v22, v23, v24, v25, v26, v27])), (a0, .inl (ac, 38, .inl nf)), (p0, .inl (pc, 7, .inr (.inl pf))), (w0, .inl (wc, 7, .inl wf)), (x0, .inl (xc, 7, .inl (upd z8 v4_33.toNatClampNeg n_31)))] H := hP
        have hD : va_D A [(h0, .inr (7, [.ref a0, v1, .ref p0, v3, v4, v5, v6, .ref w0, .ref x0, .int cs, v10, v11, v12, v13, v14, v15, v16, v17, v18, v19, v20, v21, v22, v23, v24, v25, v26, v27])), (a0, .inl (ac, 38, .inl nf)), (p0, .inl (pc, 7, .inr (.inl pf))), (w0, .inl (wc, 7, .inl wf)), (x0, .inl (xc, 7, .inl (upd z8 v4_33.toNatClampNeg n_31)))] := hD
        obtain ⟨n_32, en_32⟩ : ∃ y : Int32, y = v4_33 + 1 := ⟨_, rfl⟩
        have tn_32 : n_32.toInt = v4_33.toInt + 1 := pp_add en_32 rfl rfl (by omega) (by omega)
        refine lv_iinc (v := n_32) (lv' := [(4, .int n_32), (0, .ref h0), (1, .int 1), (2, .int us), (3, .int cs)]) hx hb dX9_goOn_53 hl (k := 0) rfl (by rw [en_32]; rfl) (by decide) rfl (fun ls hl => ?_)
        clear en_32
        refine lv_goto (tgt := 33) hx hb dX9_goOn_56 (by decide) ?_
        exact ihk_29 (n_32, (upd z8 v4_33.toNatClampNeg n_31)) _ _ _ (by show (1 - n_32.toInt).toNat < k_29; omega) ⟨(by first | omega | decide | (simp only [fa_lt, fa_le, fa_eq, and_true, true_and, and_false, false_and, not_true_eq_false, not_false_eq_true, li_0, li_1, li_2, li_3, li_4, li_5, li_6, li_7, li_8, li_9, li_10, li_12, li_15, li_16, li_20, li_30, li_34, li_38, li_40, li_63, li_64, li_65, li_78, li_120, li_1000, li_4000, li_10000, li_11077, li_255, li_65535, li_m1, li_m2, li_m1000000001, li_m1000000002, li_m1000000003, li_m1000000004, li_m1000000005, li_m1000000006, li_m1000000007, or_true, true_or, or_false, false_or, implies_true, true_implies, false_implies] <;> omega)), (by first | omega | decide | (simp only [fa_lt, fa_le, fa_eq, and_true, true_and, and_false, false_and, not_true_eq_false, not_false_eq_true, li_0, li_1, li_2, li_3, li_4, li_5, li_6, li_7, li_8, li_9, li_10, li_12, li_15, li_16, li_20, li_30, li_34, li_38, li_40, li_63, li_64, li_65, li_78, li_120, li_1000, li_4000, li_10000, li_11077, li_255, li_65535, li_m1, li_m2, li_m1000000001, li_m1000000002, li_m1000000003, li_m1000000004, li_m1000000005, li_m1000000006, li_m1000000007, or_true, true_or, or_false, false_or, implies_true, true_implies, false_implies] <;> omega)), hP.sub [0, 1, 2, 3, 4] rfl, hD.sub [0, 1, 2, 3, 4] (by decide) rfl, hS, lv_sub hl [0, 1, 2, 3, 4] rfl⟩
    · skip
      have tc_28 : ¬ lc.toInt < 0 := fun h => c_28 ((fa_lt _ _).mpr h)
      refine lv_iload_n hx hb dX9_goOn_17 rfl (lv_at hl 3 rfl) ?_
      refine lv_aload_n hx hb dX9_goOn_18 rfl (lv_at hl 0 rfl) ?_
      refine va_get (D := (dC, dI)) (ci := 7) (v := .int lc) (C := RX9) (T := TX9) (N := 28) hx hb hts inX9 hown hK hP 0 rfl rfl 9 (by decide) (hts _ (List.mem_of_getElem? (i := 16) rfl)) (fun _ h9 => h9) rfl dX9_goOn_19 ?_
      have rc_33_x := pp_rng cs
      have rc_33_y := pp_rng lc
      refine lv_icmp_ge (tgt := 59) hx hb dX9_goOn_22 (by decide) (fun c_33 => ?_) (fun c_33 => ?_)
      · skip
        have tc_33 : lc.toInt ≤ cs.toInt := (fa_le _ _).mp c_33
        have hP9 := hP.sub (ws' := [(h0, .inr (7, [.ref a0, v1, .ref p0, v3, v4, v5, v6, .ref w0, .ref x0, .int lc, v10, v11, v12, v13, v14, v15, v16, v17, v18, v19, v20, v21, v22, v23, v24, v25, v26, v27])), (a0, .inl (ac, 38, .inl nf)), (p0, .inl (pc, 7, .inr (.inl pf))), (w0, .inl (wc, 7, .inl wf)), (x0, .inl (xc, 7, .inl xf))]) [0, 1, 2, 3, 4] rfl
        have hD9 := hD.sub (ws' := [(h0, .inr (7, [.ref a0, v1, .ref p0, v3, v4, v5, v6, .ref w0, .ref x0, .int lc, v10, v11, v12, v13, v14, v15, v16, v17, v18, v19, v20, v21, v22, v23, v24, v25, v26, v27])), (a0, .inl (ac, 38, .inl nf)), (p0, .inl (pc, 7, .inr (.inl pf))), (w0, .inl (wc, 7, .inl wf)), (x0, .inl (xc, 7, .inl xf))]) [0, 1, 2, 3, 4] (by decide) rfl
        have hK9 := hK.sub (tys' := [(ac, .int), (pc, .long), (wc, .int), (xc, .int)]) [0, 1, 2, 3] rfl
        exact W.vret hx hb hr (fun t ht hW => ⟨⟨(), rfl, trivial, lc, wf, xf, (by first | omega | decide | (simp only [fa_lt, fa_le, fa_eq, and_true, true_and, and_false, false_and, not_true_eq_false, not_false_eq_true, li_0, li_1, li_2, li_3, li_4, li_5, li_6, li_7, li_8, li_9, li_10, li_12, li_15, li_16, li_20, li_30, li_34, li_38, li_40, li_63, li_64, li_65, li_78, li_120, li_1000, li_4000, li_10000, li_11077, li_255, li_65535, li_m1, li_m2, li_m1000000001, li_m1000000002, li_m1000000003, li_m1000000004, li_m1000000005, li_m1000000006, li_m1000000007, or_true, true_or, or_false, false_or, implies_true, true_implies, false_implies] <;> omega)), by rw [ht]; exact hP9, va_K.moved hW.alike hK9, hD9⟩, hS.F ht⟩) hS.2.2 dX9_goOn_59
      · skip
        have tc_33 : ¬ lc.toInt ≤ cs.toInt := fun h => c_33 ((fa_le _ _).mpr h)
        refine lv_aload_n hx hb dX9_goOn_25 rfl (lv_at hl 0 rfl) ?_
        refine lv_iload_n hx hb dX9_goOn_26 rfl (lv_at hl 3 rfl) ?_
        refine va_put (D := (dC, dI)) (ci := 7) (v := .int cs) (ty := .int) (C := RX9) (T := TX9) (N := 28) hx hb hts inX9 tyX9 tyX9_ok nmX9 hown hK hP hD hS 0 rfl rfl 9 (by decide) (hts _ (List.mem_of_getElem? (i := 16) rfl)) (fun _ h9 => h9) rfl (by decide +kernel) rfl rfl (Nat.le_of_ble_eq_true rfl) dX9_goOn_27 (fun H locs hP hD hS => ?_)
        have hP : va_P (dC, dI) vwCl [(h0, .inr (7, [.ref a0, v1, .ref p0, v3, v4, v5, v6, .ref w0, .ref x0, .int cs, v10, v11, v12, v13, v14, v15, v16, v17, v18, v19, v20, v21, v22, v23, v24, v25, v26, v27])), (a0, .inl (ac, 38, .inl nf)), (p0, .inl (pc, 7, .inr (.inl pf))), (w0, .inl (wc, 7, .inl wf)), (x0, .inl (xc, 7, .inl xf))] H := hP
        have hD : va_D A [(h0, .inr (7, [.ref a0, v1, .ref p0, v3, v4, v5, v6, .ref w0, .ref x0, .int cs, v10, v11, v12, v13, v14, v15, v16, v17, v18, v19, v20, v21, v22, v23, v24, v25, v26, v27])), (a0, .inl (ac, 38, .inl nf)), (p0, .inl (pc, 7, .inr (.inl pf))), (w0, .inl (wc, 7, .inl wf)), (x0, .inl (xc, 7, .inl xf))] := hD
        refine lv_iconst (v := 0) hx hb dX9_goOn_30 (by decide) ?_
        refine lv_istore (lv' := [(4, .int 0), (0, .ref h0), (1, .int 1), (2, .int us), (3, .int cs)]) hx hb dX9_goOn_31 hl (by decide) rfl (fun ls hl => ?_)
        refine pp_loop (ι := Int32 × (Nat → Int32)) (fun ⟨v4_33, z8⟩ => (1 - v4_33.toInt).toNat) (fun ⟨v4_33, z8⟩ H locs ls => (0 ≤ v4_33.toInt) ∧ (v4_33.toInt ≤ 1) ∧ va_P (dC, dI) vwCl [(h0, .inr (7, [.ref a0, v1, .ref p0, v3, v4, v5, v6, .ref w0, .ref x0, .int cs, v10, v11, v12, v13, v14, v15, v16, v17, v18, v19, v20, v21, v22, v23, v24, v25, v26, v27])), (a0, .inl (ac, 38, .inl nf)), (p0, .inl (pc, 7, .inr (.inl pf))), (w0, .inl (wc, 7, .inl wf)), (x0, .inl (xc, 7, .inl z8))] H ∧ va_D A [(h0, .inr (7, [.ref a0, v1, .ref p0, v3, v4, v5, v6, .ref w0, .ref x0, .int cs, v10, v11, v12, v13, v14, v15, v16, v17, v18, v19, v20, v21, v22, v23, v24, v25, v26, v27])), (a0, .inl (ac, 38, .inl nf)), (p0, .inl (pc, 7, .inr (.inl pf))), (w0, .inl (wc, 7, .inl wf)), (x0, .inl (xc, 7, .inl z8))] ∧ va_S A s.heap H locs ∧ lv_has ls 5 [(4, .int v4_33), (0, .ref h0), (1, .int 1), (2, .int us), (3, .int cs)]) ?_ (0, xf) _ _ _ ⟨(by first | omega | decide | (simp only [fa_lt, fa_le, fa_eq, and_true, true_and, and_false, false_and, not_true_eq_false, not_false_eq_true, li_0, li_1, li_2, li_3, li_4, li_5, li_6, li_7, li_8, li_9, li_10, li_12, li_15, li_16, li_20, li_30, li_34, li_38, li_40, li_63, li_64, li_65, li_78, li_120, li_1000, li_4000, li_10000, li_11077, li_255, li_65535, li_m1, li_m2, li_m1000000001, li_m1000000002, li_m1000000003, li_m1000000004, li_m1000000005, li_m1000000006, li_m1000000007, or_true, true_or, or_false, false_or, implies_true, true_implies, false_implies] <;> omega)), (by first | omega | decide | (simp only [fa_lt, fa_le, fa_eq, and_true, true_and, and_false, false_and, not_true_eq_false, not_false_eq_true, li_0, li_1, li_2, li_3, li_4, li_5, li_6, li_7, li_8, li_9, li_10, li_12, li_15, li_16, li_20, li_30, li_34, li_38, li_40, li_63, li_64, li_65, li_78, li_120, li_1000, li_4000, li_10000, li_11077, li_255, li_65535, li_m1, li_m2, li_m1000000001, li_m1000000002, li_m1000000003, li_m1000000004, li_m1000000005, li_m1000000006, li_m1000000007, or_true, true_or, or_false, false_or, implies_true, true_implies, false_implies] <;> omega)), hP.sub [0, 1, 2, 3, 4] rfl, hD.sub [0, 1, 2, 3, 4] (by decide) rfl, hS, lv_sub hl [0, 1, 2, 3, 4] rfl⟩
        intro k_34 ihk_34 u H locs ls hm hI
        obtain ⟨v4_33, z8⟩ := u
        obtain ⟨jk_34_0, jk_34_1, hP, hD, hS, hl⟩ := hI
        have hmk_34 : (1 - v4_33.toInt).toNat < k_34 + 1 := hm
        clear hm
        have jk_34_0 : 0 ≤ v4_33.toInt := jk_34_0
        have jk_34_1 : v4_33.toInt ≤ 1 := jk_34_1
        have hl : lv_has ls 5 [(4, .int v4_33), (0, .ref h0), (1, .int 1), (2, .int us), (3, .int cs)] := hl
        have hP : va_P (dC, dI) vwCl [(h0, .inr (7, [.ref a0, v1, .ref p0, v3, v4, v5, v6, .ref w0, .ref x0, .int cs, v10, v11, v12, v13, v14, v15, v16, v17, v18, v19, v20, v21, v22, v23, v24, v25, v26, v27])), (a0, .inl (ac, 38, .inl nf)), (p0, .inl (pc, 7, .inr (.inl pf))), (w0, .inl (wc, 7, .inl wf)), (x0, .inl (xc, 7, .inl z8))] H := hP
        have hD : va_D A [(h0, .inr (7, [.ref a0, v1, .ref p0, v3, v4, v5, v6, .ref w0, .ref x0, .int cs, v10, v11, v12, v13, v14, v15, v16, v17, v18, v19, v20, v21, v22, v23, v24, v25, v26, v27])), (a0, .inl (ac, 38, .inl nf)), (p0, .inl (pc, 7, .inr (.inl pf))), (w0, .inl (wc, 7, .inl wf)), (x0, .inl (xc, 7, .inl z8))] := hD
        refine lv_iload hx hb dX9_goOn_33 (lv_at hl 0 rfl) ?_
        refine lv_iload_n hx hb dX9_goOn_35 rfl (lv_at hl 2 rfl) ?_
        refine lv_icmp_ge (tgt := 59) hx hb dX9_goOn_36 (by decide) (fun c_35 => ?_) (fun c_35 => ?_)
        · skip
          have tc_35 : 1 ≤ v4_33.toInt := (fa_le _ _).mp c_35
          have hP9 := hP.sub (ws' := [(h0, .inr (7, [.ref a0, v1, .ref p0, v3, v4, v5, v6, .ref w0, .ref x0, .int cs, v10, v11, v12, v13, v14, v15, v16, v17, v18, v19, v20, v21, v22, v23, v24, v25, v26, v27])), (a0, .inl (ac, 38, .inl nf)), (p0, .inl (pc, 7, .inr (.inl pf))), (w0, .inl (wc, 7, .inl wf)), (x0, .inl (xc, 7, .inl z8))]) [0, 1, 2, 3, 4] rfl
          have hD9 := hD.sub (ws' := [(h0, .inr (7, [.ref a0, v1, .ref p0, v3, v4, v5, v6, .ref w0, .ref x0, .int cs, v10, v11, v12, v13, v14, v15, v16, v17, v18, v19, v20, v21, v22, v23, v24, v25, v26, v27])), (a0, .inl (ac, 38, .inl nf)), (p0, .inl (pc, 7, .inr (.inl pf))), (w0, .inl (wc, 7, .inl wf)), (x0, .inl (xc, 7, .inl z8))]) [0, 1, 2, 3, 4] (by decide) rfl
          have hK9 := hK.sub (tys' := [(ac, .int), (pc, .long), (wc, .int), (xc, .int)]) [0, 1, 2, 3] rfl
          exact W.vret hx hb hr (fun t ht hW => ⟨⟨(), rfl, trivial, cs, wf, z8, (by first | omega | decide | (simp only [fa_lt, fa_le, fa_eq, and_true, true_and, and_false, false_and, not_true_eq_false, not_false_eq_true, li_0, li_1, li_2, li_3, li_4, li_5, li_6, li_7, li_8, li_9, li_10, li_12, li_15, li_16, li_20, li_30, li_34, li_38, li_40, li_63, li_64, li_65, li_78, li_120, li_1000, li_4000, li_10000, li_11077, li_255, li_65535, li_m1, li_m2, li_m1000000001, li_m1000000002, li_m1000000003, li_m1000000004, li_m1000000005, li_m1000000006, li_m1000000007, or_true, true_or, or_false, false_or, implies_true, true_implies, false_implies] <;> omega)), by rw [ht]; exact hP9, va_K.moved hW.alike hK9, hD9⟩, hS.F ht⟩) hS.2.2 dX9_goOn_59
        · skip
          have tc_35 : ¬ 1 ≤ v4_33.toInt := fun h => c_35 ((fa_le _ _).mpr h)
          refine lv_aload_n hx hb dX9_goOn_39 rfl (lv_at hl 1 rfl) ?_
          refine va_get (D := (dC, dI)) (ci := 7) (v := .ref x0) (C := RX9) (T := TX9) (N := 28) hx hb hts inX9 hown hK hP 0 rfl rfl 8 (by decide) (hts _ (List.mem_of_getElem? (i := 17) rfl)) (fun _ h9 => h9) rfl dX9_goOn_40 ?_
          refine lv_iload hx hb dX9_goOn_43 (lv_at hl 0 rfl) ?_
          refine lv_aload_n hx hb dX9_goOn_45 rfl (lv_at hl 1 rfl) ?_
          refine va_get (D := (dC, dI)) (ci := 7) (v := .ref w0) (C := RX9) (T := TX9) (N := 28) hx hb hts inX9 hown hK hP 0 rfl rfl 7 (by decide) (hts _ (List.mem_of_getElem? (i := 2) rfl)) (fun _ h9 => h9) rfl dX9_goOn_46 ?_
          refine lv_iload hx hb dX9_goOn_49 (lv_at hl 0 rfl) ?_
          refine va_iald hx hb hK hP 3 2 rfl rfl (vp_in_iff.mpr ⟨by omega, by omega⟩) dX9_goOn_51 ?_
          refine lv_topi (fun n_36 en_36 => ?_)
          clear en_36
          refine va_iast hx hb hK hP hD hS 4 3 rfl rfl (vp_in_iff.mpr ⟨by omega, by omega⟩) dX9_goOn_52 (fun H locs hP hD hS => ?_)
          have hP : va_P (dC, dI) vwCl [(h0, .inr (7, [.ref a0, v1, .ref p0, v3, v4, v5, v6, .ref w0, .ref x0, .int cs, v10, v11, v12, v13, v14, v15, v16, v17, v18, v19, v20, v21, v22, v23, v24, v25, v26, v27])), (a0, .inl (ac, 38, .inl nf)), (p0, .inl (pc, 7, .inr (.inl pf))), (w0, .inl (wc, 7, .inl wf)), (x0, .inl (xc, 7, .inl (upd z8 v4_33.toNatClampNeg n_36)))] H := hP
          have hD : va_D A [(h0, .inr (7, [.ref a0, v1, .ref p0, v3, v4, v5, v6, .ref w0, .ref x0, .int cs, v10, v11, v12, v13, v14, v15, v16, v17, v18, v19, v20, v21, v22, v23, v24, v25, v26, v27])), (a0, .inl (ac, 38, .inl nf)), (p0, .inl (pc, 7, .inr (.inl pf))), (w0, .inl (wc, 7, .inl wf)), (x0, .inl (xc, 7, .inl (upd z8 v4_33.toNatClampNeg n_36)))] := hD
          obtain ⟨n_37, en_37⟩ : ∃ y : Int32, y = v4_33 + 1 := ⟨_, rfl⟩
          have tn_37 : n_37.toInt = v4_33.toInt + 1 := pp_add en_37 rfl rfl (by omega) (by omega)
          refine lv_iinc (v := n_37) (lv' := [(4, .int n_37), (0, .ref h0), (1, .int 1), (2, .int us), (3, .int cs)]) hx hb dX9_goOn_53 hl (k := 0) rfl (by rw [en_37]; rfl) (by decide) rfl (fun ls hl => ?_)
          clear en_37
          refine lv_goto (tgt := 33) hx hb dX9_goOn_56 (by decide) ?_
          exact ihk_34 (n_37, (upd z8 v4_33.toNatClampNeg n_36)) _ _ _ (by show (1 - n_37.toInt).toNat < k_34; omega) ⟨(by first | omega | decide | (simp only [fa_lt, fa_le, fa_eq, and_true, true_and, and_false, false_and, not_true_eq_false, not_false_eq_true, li_0, li_1, li_2, li_3, li_4, li_5, li_6, li_7, li_8, li_9, li_10, li_12, li_15, li_16, li_20, li_30, li_34, li_38, li_40, li_63, li_64, li_65, li_78, li_120, li_1000, li_4000, li_10000, li_11077, li_255, li_65535, li_m1, li_m2, li_m1000000001, li_m1000000002, li_m1000000003, li_m1000000004, li_m1000000005, li_m1000000006, li_m1000000007, or_true, true_or, or_false, false_or, implies_true, true_implies, false_implies] <;> omega)), (by first | omega | decide | (simp only [fa_lt, fa_le, fa_eq, and_true, true_and, and_false, false_and, not_true_eq_false, not_false_eq_true, li_0, li_1, li_2, li_3, li_4, li_5, li_6, li_7, li_8, li_9, li_10, li_12, li_15, li_16, li_20, li_30, li_34, li_38, li_40, li_63, li_64, li_65, li_78, li_120, li_1000, li_4000, li_10000, li_11077, li_255, li_65535, li_m1, li_m2, li_m1000000001, li_m1000000002, li_m1000000003, li_m1000000004, li_m1000000005, li_m1000000006, li_m1000000007, or_true, true_or, or_false, false_or, implies_true, true_implies, false_implies] <;> omega)), hP.sub [0, 1, 2, 3, 4] rfl, hD.sub [0, 1, 2, 3, 4] (by decide) rfl, hS, lv_sub hl [0, 1, 2, 3, 4] rfl⟩

def w_m_goOn_0 : List Cond := .code yX9_goOn cX9_goOn 5 none :: (([.fieldLink RX9 9 "LampShapesModel" "now" "[I", .fieldLink RX9 26 "LampShapesModel" "row" "[I", .methodLink RX9 183 yX9_goOn, .instanceMethod yX9_goOn, .selects RX9 yX9_goOn yX9_goOn, .initialized RX9, .code yX9_goOn cX9_goOn 5 none, .methodLink RX9 161 yX9_changesOf, .instanceMethod yX9_changesOf, .selects RX9 yX9_changesOf yX9_changesOf, .code yX9_changesOf cX9_changesOf 3 (some .int), .fieldLink RX9 16 "LampShapesModel" "pictures" "[J", .methodLink RX9 158 yX9_bits, .static yX9_bits, .code yX9_bits cX9_bits 5 (some .int), .fieldLink RX9 180 "LampShapesModel" "leastCost" "I", .fieldLink RX9 29 "LampShapesModel" "bestRow" "[I"] : List Cond) ++ wsX90)
set_option maxRecDepth 20000 in
theorem g_m_goOn_0_m_goOn_1_183 : GoodIn w_m_goOn_0 (wsV RX9 183 RX9 yX9_goOn w_m_goOn_1) := goodIn_r _ [3, 4, 5, 6, 0, 1, 2, 8, 9, 10, 6, 11, 12, 13, 14, 15, 3, 4, 5, 0, 16, 17, 18, 19, 20, 21, 22, 23, 24, 25, 26, 27, 28, 29, 30, 31, 32, 33, 34, 35, 36, 37, 38, 39, 40, 41, 42, 43, 44, 45] rfl (by decide +kernel)
set_option maxHeartbeats 4000000 in
set_option maxRecDepth 100000 in
theorem m_goOn_0 (l : Launch) (dC : Nat → ClassId) (dI : Nat → Nat → Nat) (ad : Nat → Nat) (h0 : Nat) (us : Int32) (cs : Int32) (a0 : Nat) (v1 : Value) (p0 : Nat) (v3 : Value) (v4 : Value) (v5 : Value) (v6 : Value) (w0 : Nat) (x0 : Nat) (lc : Int32) (v10 : Value) (v11 : Value) (v12 : Value) (v13 : Value) (v14 : Value) (v15 : Value) (v16 : Value) (v17 : Value) (v18 : Value) (v19 : Value) (v20 : Value) (v21 : Value) (v22 : Value) (v23 : Value) (v24 : Value) (v25 : Value) (v26 : Value) (v27 : Value) (ac : ClassId) (nf : Nat → Int32) (pc : ClassId) (pf : Nat → Int64) (wc : ClassId) (wf : Nat → Int32) (xc : ClassId) (xf : Nat → Int32) (sz : Nat) (hI : mI nf) (hm : 0 ≤ (nf 1).toInt ∧ (nf 1).toInt ≤ 6) : Met l yX9_goOn w_m_goOn_0 ({ frames := 7, cells := 0, slots := 0, locals := 166 } : Room) (va_Pc [.ref h0, .int 0, .int us, .int cs] (preM dC dI ad [(ac, .int), (pc, .long), (wc, .int), (xc, .int)] [(h0, .inr (7, [.ref a0, v1, .ref p0, v3, v4, v5, v6, .ref w0, .ref x0, .int lc, v10, v11, v12, v13, v14, v15, v16, v17, v18, v19, v20, v21, v22, v23, v24, v25, v26, v27])), (a0, .inl (ac, 38, .inl nf)), (p0, .inl (pc, 7, .inr (.inl pf))), (w0, .inl (wc, 7, .inl wf)), (x0, .inl (xc, 7, .inl xf))] sz)) (va_Qv (fun (_ : Unit) => True) (fun _ t => ∃ (lc2 : Int32), ∃ (wg : Nat → Int32), ∃ (xg : Nat → Int32), va_P (dC, dI) vwCl [(h0, .inr (7, [.ref a0, v1, .ref p0, v3, v4, v5, v6, .ref w0, .ref x0, .int lc2, v10, v11, v12, v13, v14, v15, v16, v17, v18, v19, v20, v21, v22, v23, v24, v25, v26, v27])), (a0, .inl (ac, 38, .inl nf)), (p0, .inl (pc, 7, .inr (.inl pf))), (w0, .inl (wc, 7, .inl wg)), (x0, .inl (xc, 7, .inl xg))] t.heap ∧ va_K (dC, dI) vwCl [(ac, .int), (pc, .long), (wc, .int), (xc, .int)] t ∧ va_D (va_A [(h0, .inr (7, [.ref a0, v1, .ref p0, v3, v4, v5, v6, .ref w0, .ref x0, .int lc, v10, v11, v12, v13, v14, v15, v16, v17, v18, v19, v20, v21, v22, v23, v24, v25, v26, v27])), (a0, .inl (ac, 38, .inl nf)), (p0, .inl (pc, 7, .inr (.inl pf))), (w0, .inl (wc, 7, .inl wf)), (x0, .inl (xc, 7, .inl xf))] sz) [(h0, .inr (7, [.ref a0, v1, .ref p0, v3, v4, v5, v6, .ref w0, .ref x0, .int lc2, v10, v11, v12, v13, v14, v15, v16, v17, v18, v19, v20, v21, v22, v23, v24, v25, v26, v27])), (a0, .inl (ac, 38, .inl nf)), (p0, .inl (pc, 7, .inr (.inl pf))), (w0, .inl (wc, 7, .inl wg)), (x0, .inl (xc, 7, .inl xg))]) (va_A [(h0, .inr (7, [.ref a0, v1, .ref p0, v3, v4, v5, v6, .ref w0, .ref x0, .int lc, v10, v11, v12, v13, v14, v15, v16, v17, v18, v19, v20, v21, v22, v23, v24, v25, v26, v27])), (a0, .inl (ac, 38, .inl nf)), (p0, .inl (pc, 7, .inr (.inl pf))), (w0, .inl (wc, 7, .inl wf)), (x0, .inl (xc, 7, .inl xf))] sz)) 0 0 (va_A [(h0, .inr (7, [.ref a0, v1, .ref p0, v3, v4, v5, v6, .ref w0, .ref x0, .int lc, v10, v11, v12, v13, v14, v15, v16, v17, v18, v19, v20, v21, v22, v23, v24, v25, v26, v27])), (a0, .inl (ac, 38, .inl nf)), (p0, .inl (pc, 7, .inr (.inl pf))), (w0, .inl (wc, 7, .inl wf)), (x0, .inl (xc, 7, .inl xf))] sz) := by
  refine Met.ofW (cc := cX9_goOn) (maxL := 5) (ret := none) (by decide) rfl ?_
  intro p e s m args below meth c s₁ B hml hv
  obtain ⟨rfl, hsz, hP, hK, hD0, hev⟩ := hv
  have hx := B.exec
  have hb := B.bytes
  have hr := B.returns
  have hts := atoms_spec (ws := w_m_goOn_0) B.pre
  have hown : s.vm.findClass RX9 = some m.cls := findClass_of_methodNamed B.named
  have hlocks := B.notSynchronized
  have inX9 : ∀ w ∈ wsX90, w ∈ w_m_goOn_0 := fun w h => List.mem_cons_of_mem _ (List.mem_append_right _ h)
  subst hsz
  have hD := hD0.self (sz := s.heap.size)
  generalize hAe : va_A [(h0, .inr (7, [.ref a0, v1, .ref p0, v3, v4, v5, v6, .ref w0, .ref x0, .int lc, v10, v11, v12, v13, v14, v15, v16, v17, v18, v19, v20, v21, v22, v23, v24, v25, v26, v27])), (a0, .inl (ac, 38, .inl nf)), (p0, .inl (pc, 7, .inr (.inl pf))), (w0, .inl (wc, 7, .inl wf)), (x0, .inl (xc, 7, .inl xf))] s.heap.size = A at hD ⊢
  have hA : ∀ q : Nat, s.heap.size ≤ q → A q := fun q h => by rw [← hAe]; exact Or.inr h
  have hS : va_S A s.heap s.heap [] := va_S.rf
  have hP : va_P (dC, dI) vwCl [(h0, .inr (7, [.ref a0, v1, .ref p0, v3, v4, v5, v6, .ref w0, .ref x0, .int lc, v10, v11, v12, v13, v14, v15, v16, v17, v18, v19, v20, v21, v22, v23, v24, v25, v26, v27])), (a0, .inl (ac, 38, .inl nf)), (p0, .inl (pc, 7, .inr (.inl pf))), (w0, .inl (wc, 7, .inl wf)), (x0, .inl (xc, 7, .inl xf))] s.heap := hP
  have hl := lv_entry ([.ref h0, .int 0, .int us, .int cs]) (n := 5) (Nat.le_of_ble_eq_true rfl)
  rw [lg_entry_eq]
  generalize (lg_sl ([.ref h0, .int 0, .int us, .int cs]) ++ List.replicate (5 - (lg_sl ([.ref h0, .int 0, .int us, .int cs])).length) Slot.unset).toArray = ls at hl ⊢
  have hl : lv_has ls 5 [(0, .ref h0), (1, .int 0), (2, .int us), (3, .int cs)] := hl
  refine lv_iload_n hx hb dX9_goOn_0 rfl (lv_at hl 1 rfl) ?_
  refine lv_aload_n hx hb dX9_goOn_1 rfl (lv_at hl 0 rfl) ?_
  refine va_get (D := (dC, dI)) (ci := 7) (v := .ref a0) (C := RX9) (T := TX9) (N := 28) hx hb hts inX9 hown hK hP 0 rfl rfl 0 (by decide) (hts _ (List.mem_of_getElem? (i := 1) rfl)) (fun _ h9 => h9) rfl dX9_goOn_2 ?_
  refine lv_iconst (v := 1) hx hb dX9_goOn_5 (by decide) ?_
  refine va_iald hx hb hK hP 1 0 rfl rfl (vp_in_nI (n := 1) (by decide) (by decide)) dX9_goOn_6 ?_
  refine pp_ti (y := nf 1) rfl ?_
  refine lv_topi (fun n_1 en_1 => ?_)
  have tn_1 : n_1.toInt = (nf 1).toInt ∧ 0 ≤ n_1.toInt ∧ n_1.toInt ≤ 7 := mI_r1 hI en_1
  clear en_1
  refine lv_icmp_ne (tgt := 60) hx hb dX9_goOn_7 (by decide) (fun c_2 => ?_) (fun c_2 => ?_)
  · skip
    have tc_2 : ¬ 0 = n_1.toInt := fun h => c_2 ((fa_eq _ _).mpr h)
    refine lv_iconst (v := 0) hx hb dX9_goOn_60 (by decide) ?_
    refine lv_istore (lv' := [(4, .int 0), (0, .ref h0), (1, .int 0), (2, .int us), (3, .int cs)]) hx hb dX9_goOn_61 hl (by decide) rfl (fun ls hl => ?_)
    refine pp_loop (ι := Int32 × Int32 × (Nat → Int32) × (Nat → Int32)) (fun ⟨v4_63, y9, y7, y8⟩ => ((nf 1).toInt - v4_63.toInt).toNat) (fun ⟨v4_63, y9, y7, y8⟩ H locs ls => (0 ≤ v4_63.toInt) ∧ va_P (dC, dI) vwCl [(h0, .inr (7, [.ref a0, v1, .ref p0, v3, v4, v5, v6, .ref w0, .ref x0, .int y9, v10, v11, v12, v13, v14, v15, v16, v17, v18, v19, v20, v21, v22, v23, v24, v25, v26, v27])), (a0, .inl (ac, 38, .inl nf)), (p0, .inl (pc, 7, .inr (.inl pf))), (w0, .inl (wc, 7, .inl y7)), (x0, .inl (xc, 7, .inl y8))] H ∧ va_D A [(h0, .inr (7, [.ref a0, v1, .ref p0, v3, v4, v5, v6, .ref w0, .ref x0, .int y9, v10, v11, v12, v13, v14, v15, v16, v17, v18, v19, v20, v21, v22, v23, v24, v25, v26, v27])), (a0, .inl (ac, 38, .inl nf)), (p0, .inl (pc, 7, .inr (.inl pf))), (w0, .inl (wc, 7, .inl y7)), (x0, .inl (xc, 7, .inl y8))] ∧ va_S A s.heap H locs ∧ lv_has ls 5 [(4, .int v4_63), (0, .ref h0), (1, .int 0), (2, .int us), (3, .int cs)]) ?_ (0, lc, wf, xf) _ _ _ ⟨(by first | omega | decide | (simp only [fa_lt, fa_le, fa_eq, and_true, true_and, and_false, false_and, not_true_eq_false, not_false_eq_true, li_0, li_1, li_2, li_3, li_4, li_5, li_6, li_7, li_8, li_9, li_10, li_12, li_15, li_16, li_20, li_30, li_34, li_38, li_40, li_63, li_64, li_65, li_78, li_120, li_1000, li_4000, li_10000, li_11077, li_255, li_65535, li_m1, li_m2, li_m1000000001, li_m1000000002, li_m1000000003, li_m1000000004, li_m1000000005, li_m1000000006, li_m1000000007, or_true, true_or, or_false, false_or, implies_true, true_implies, false_implies] <;> omega)), hP.sub [0, 1, 2, 3, 4] rfl, hD.sub [0, 1, 2, 3, 4] (by decide) rfl, hS, lv_sub hl [0, 1, 2, 3, 4] rfl⟩
    intro k_3 ihk_3 u H locs ls hm hI
    obtain ⟨v4_63, y9, y7, y8⟩ := u
    obtain ⟨jk_3_0, hP, hD, hS, hl⟩ := hI
    have hmk_3 : ((nf 1).toInt - v4_63.toInt).toNat < k_3 + 1 := hm
    clear hm
    have jk_3_0 : 0 ≤ v4_63.toInt := jk_3_0
    have hl : lv_has ls 5 [(4, .int v4_63), (0, .ref h0), (1, .int 0), (2, .int us), (3, .int cs)] := hl
    have hP : va_P (dC, dI) vwCl [(h0, .inr (7, [.ref a0, v1, .ref p0, v3, v4, v5, v6, .ref w0, .ref x0, .int y9, v10, v11, v12, v13, v14, v15, v16, v17, v18, v19, v20, v21, v22, v23, v24, v25, v26, v27])), (a0, .inl (ac, 38, .inl nf)), (p0, .inl (pc, 7, .inr (.inl pf))), (w0, .inl (wc, 7, .inl y7)), (x0, .inl (xc, 7, .inl y8))] H := hP
    have hD : va_D A [(h0, .inr (7, [.ref a0, v1, .ref p0, v3, v4, v5, v6, .ref w0, .ref x0, .int y9, v10, v11, v12, v13, v14, v15, v16, v17, v18, v19, v20, v21, v22, v23, v24, v25, v26, v27])), (a0, .inl (ac, 38, .inl nf)), (p0, .inl (pc, 7, .inr (.inl pf))), (w0, .inl (wc, 7, .inl y7)), (x0, .inl (xc, 7, .inl y8))] := hD
    refine lv_iload hx hb dX9_goOn_63 (lv_at hl 0 rfl) ?_
    refine lv_aload_n hx hb dX9_goOn_65 rfl (lv_at hl 1 rfl) ?_
    refine va_get (D := (dC, dI)) (ci := 7) (v := .ref a0) (C := RX9) (T := TX9) (N := 28) hx hb hts inX9 hown hK hP 0 rfl rfl 0 (by decide) (hts _ (List.mem_of_getElem? (i := 1) rfl)) (fun _ h9 => h9) rfl dX9_goOn_66 ?_
    refine lv_iconst (v := 1) hx hb dX9_goOn_69 (by decide) ?_
    refine va_iald hx hb hK hP 1 0 rfl rfl (vp_in_nI (n := 1) (by decide) (by decide)) dX9_goOn_70 ?_
    refine pp_ti (y := nf 1) rfl ?_
    refine lv_topi (fun n_4 en_4 => ?_)
    have tn_4 : n_4.toInt = (nf 1).toInt ∧ 0 ≤ n_4.toInt ∧ n_4.toInt ≤ 7 := mI_r1 hI en_4
    clear en_4
    have rc_5_x := pp_rng v4_63
    have rc_5_y := pp_rng n_4
    refine lv_icmp_ge (tgt := 134) hx hb dX9_goOn_71 (by decide) (fun c_5 => ?_) (fun c_5 => ?_)
    · skip
      have tc_5 : n_4.toInt ≤ v4_63.toInt := (fa_le _ _).mp c_5
      have hP9 := hP.sub (ws' := [(h0, .inr (7, [.ref a0, v1, .ref p0, v3, v4, v5, v6, .ref w0, .ref x0, .int y9, v10, v11, v12, v13, v14, v15, v16, v17, v18, v19, v20, v21, v22, v23, v24, v25, v26, v27])), (a0, .inl (ac, 38, .inl nf)), (p0, .inl (pc, 7, .inr (.inl pf))), (w0, .inl (wc, 7, .inl y7)), (x0, .inl (xc, 7, .inl y8))]) [0, 1, 2, 3, 4] rfl
      have hD9 := hD.sub (ws' := [(h0, .inr (7, [.ref a0, v1, .ref p0, v3, v4, v5, v6, .ref w0, .ref x0, .int y9, v10, v11, v12, v13, v14, v15, v16, v17, v18, v19, v20, v21, v22, v23, v24, v25, v26, v27])), (a0, .inl (ac, 38, .inl nf)), (p0, .inl (pc, 7, .inr (.inl pf))), (w0, .inl (wc, 7, .inl y7)), (x0, .inl (xc, 7, .inl y8))]) [0, 1, 2, 3, 4] (by decide) rfl
      have hK9 := hK.sub (tys' := [(ac, .int), (pc, .long), (wc, .int), (xc, .int)]) [0, 1, 2, 3] rfl
      exact W.vret hx hb hr (fun t ht hW => ⟨⟨(), rfl, trivial, y9, y7, y8, by rw [ht]; exact hP9, va_K.moved hW.alike hK9, hD9⟩, hS.F ht⟩) hS.2.2 dX9_goOn_134
    · skip
      have tc_5 : ¬ n_4.toInt ≤ v4_63.toInt := fun h => c_5 ((fa_le _ _).mpr h)
      refine lv_iload_n hx hb dX9_goOn_74 rfl (lv_at hl 3 rfl) ?_
      refine lv_iload hx hb dX9_goOn_75 (lv_at hl 0 rfl) ?_
      refine lv_ishr hx hb dX9_goOn_77 ?_
      refine lv_topi (fun n_6 en_6 => ?_)
      clear en_6
      refine lv_iconst (v := 1) hx hb dX9_goOn_78 (by decide) ?_
      refine lv_iand hx hb dX9_goOn_79 ?_
      refine lv_topi (fun n_7 en_7 => ?_)
      clear en_7
      refine lv_if_ne (tgt := 128) hx hb dX9_goOn_80 (by decide) (fun c_8 => ?_) (fun c_8 => ?_)
      · skip
        have tc_8 : ¬ n_7.toInt = 0 := fun h => c_8 ((fa_eq _ _).mpr h)
        obtain ⟨n_9, en_9⟩ : ∃ y : Int32, y = v4_63 + 1 := ⟨_, rfl⟩
        have tn_9 : n_9.toInt = v4_63.toInt + 1 := pp_add en_9 rfl rfl (by omega) (by omega)
        refine lv_iinc (v := n_9) (lv' := [(4, .int n_9), (0, .ref h0), (1, .int 0), (2, .int us), (3, .int cs)]) hx hb dX9_goOn_128 hl (k := 0) rfl (by rw [en_9]; rfl) (by decide) rfl (fun ls hl => ?_)
        clear en_9
        refine lv_goto (tgt := 63) hx hb dX9_goOn_131 (by decide) ?_
        exact ihk_3 (n_9, y9, y7, y8) _ _ _ (by show ((nf 1).toInt - n_9.toInt).toNat < k_3; omega) ⟨(by first | omega | decide | (simp only [fa_lt, fa_le, fa_eq, and_true, true_and, and_false, false_and, not_true_eq_false, not_false_eq_true, li_0, li_1, li_2, li_3, li_4, li_5, li_6, li_7, li_8, li_9, li_10, li_12, li_15, li_16, li_20, li_30, li_34, li_38, li_40, li_63, li_64, li_65, li_78, li_120, li_1000, li_4000, li_10000, li_11077, li_255, li_65535, li_m1, li_m2, li_m1000000001, li_m1000000002, li_m1000000003, li_m1000000004, li_m1000000005, li_m1000000006, li_m1000000007, or_true, true_or, or_false, false_or, implies_true, true_implies, false_implies] <;> omega)), hP.sub [0, 1, 2, 3, 4] rfl, hD.sub [0, 1, 2, 3, 4] (by decide) rfl, hS, lv_sub hl [0, 1, 2, 3, 4] rfl⟩
      · skip
        have tc_8 : n_7.toInt = 0 := (fa_eq _ _).mp c_8
        refine lv_aload_n hx hb dX9_goOn_83 rfl (lv_at hl 1 rfl) ?_
        refine va_get (D := (dC, dI)) (ci := 7) (v := .ref w0) (C := RX9) (T := TX9) (N := 28) hx hb hts inX9 hown hK hP 0 rfl rfl 7 (by decide) (hts _ (List.mem_of_getElem? (i := 2) rfl)) (fun _ h9 => h9) rfl dX9_goOn_84 ?_
        refine lv_iload_n hx hb dX9_goOn_87 rfl (lv_at hl 2 rfl) ?_
        refine lv_iload hx hb dX9_goOn_88 (lv_at hl 0 rfl) ?_
        refine va_iast hx hb hK hP hD hS 3 2 rfl rfl (vp_in_nI (n := 0) (by decide) (by decide)) dX9_goOn_90 (fun H locs hP hD hS => ?_)
        have hP : va_P (dC, dI) vwCl [(h0, .inr (7, [.ref a0, v1, .ref p0, v3, v4, v5, v6, .ref w0, .ref x0, .int y9, v10, v11, v12, v13, v14, v15, v16, v17, v18, v19, v20, v21, v22, v23, v24, v25, v26, v27])), (a0, .inl (ac, 38, .inl nf)), (p0, .inl (pc, 7, .inr (.inl pf))), (w0, .inl (wc, 7, .inl (upd y7 0 v4_63))), (x0, .inl (xc, 7, .inl y8))] H := hP
        have hD : va_D A [(h0, .inr (7, [.ref a0, v1, .ref p0, v3, v4, v5, v6, .ref w0, .ref x0, .int y9, v10, v11, v12, v13, v14, v15, v16, v17, v18, v19, v20, v21, v22, v23, v24, v25, v26, v27])), (a0, .inl (ac, 38, .inl nf)), (p0, .inl (pc, 7, .inr (.inl pf))), (w0, .inl (wc, 7, .inl (upd y7 0 v4_63))), (x0, .inl (xc, 7, .inl y8))] := hD
        have q_11 : ((upd y7 0 v4_63) 0).toInt = v4_63.toInt := pp_uN_eq rfl
        have q_12 : ((upd y7 0 v4_63) 1).toInt = (y7 1).toInt := pp_uN_ne (by decide)
        have q_13 : ((upd y7 0 v4_63) 2).toInt = (y7 2).toInt := pp_uN_ne (by decide)
        have q_14 : ((upd y7 0 v4_63) 3).toInt = (y7 3).toInt := pp_uN_ne (by decide)
        have q_15 : ((upd y7 0 v4_63) 4).toInt = (y7 4).toInt := pp_uN_ne (by decide)
        have q_16 : ((upd y7 0 v4_63) 5).toInt = (y7 5).toInt := pp_uN_ne (by decide)
        generalize upd y7 0 v4_63 = f_10 at hP hD q_11 q_12 q_13 q_14 q_15 q_16
        have hP : va_P (dC, dI) vwCl [(h0, .inr (7, [.ref a0, v1, .ref p0, v3, v4, v5, v6, .ref w0, .ref x0, .int y9, v10, v11, v12, v13, v14, v15, v16, v17, v18, v19, v20, v21, v22, v23, v24, v25, v26, v27])), (a0, .inl (ac, 38, .inl nf)), (p0, .inl (pc, 7, .inr (.inl pf))), (w0, .inl (wc, 7, .inl f_10)), (x0, .inl (xc, 7, .inl y8))] H := hP
        have hD : va_D A [(h0, .inr (7, [.ref a0, v1, .ref p0, v3, v4, v5, v6, .ref w0, .ref x0, .int y9, v10, v11, v12, v13, v14, v15, v16, v17, v18, v19, v20, v21, v22, v23, v24, v25, v26, v27])), (a0, .inl (ac, 38, .inl nf)), (p0, .inl (pc, 7, .inr (.inl pf))), (w0, .inl (wc, 7, .inl f_10)), (x0, .inl (xc, 7, .inl y8))] := hD
        refine lv_aload_n hx hb dX9_goOn_91 rfl (lv_at hl 1 rfl) ?_
        refine lv_iload_n hx hb dX9_goOn_92 rfl (lv_at hl 2 rfl) ?_
        refine lv_iconst (v := 1) hx hb dX9_goOn_93 (by decide) ?_
        refine lv_iadd hx hb dX9_goOn_94 ?_
        refine pp_ti (y := 1) (by decide) ?_
        refine lv_iload_n hx hb dX9_goOn_95 rfl (lv_at hl 3 rfl) ?_
        refine lv_iconst (v := 1) hx hb dX9_goOn_96 (by decide) ?_
        refine lv_iload hx hb dX9_goOn_97 (lv_at hl 0 rfl) ?_
        refine lv_ishl hx hb dX9_goOn_99 ?_
        refine lv_topi (fun n_17 en_17 => ?_)
        clear en_17
        refine lv_ior hx hb dX9_goOn_100 ?_
        refine lv_topi (fun n_18 en_18 => ?_)
        clear en_18
        refine lv_iload_n hx hb dX9_goOn_101 rfl (lv_at hl 4 rfl) ?_
        refine lv_iload_n hx hb dX9_goOn_102 rfl (lv_at hl 2 rfl) ?_
        refine lv_if_ne (tgt := 110) hx hb dX9_goOn_103 (by decide) (fun c => absurd (by decide) c) (fun _ => ?_)
        refine lv_iconst (v := 0) hx hb dX9_goOn_106 (by decide) ?_
        refine lv_goto (tgt := 124) hx hb dX9_goOn_107 (by decide) ?_
        refine lv_iadd hx hb dX9_goOn_124 ?_
        refine lv_topi (fun n_19 en_19 => ?_)
        have tn_19 : n_19.toInt = cs.toInt + 0 := pp_add en_19 rfl rfl (by have := pp_rng cs; omega) (by have := pp_rng cs; omega)
        clear en_19
        have hPc := hP.sub (ws' := [(h0, .inr (7, [.ref a0, v1, .ref p0, v3, v4, v5, v6, .ref w0, .ref x0, .int y9, v10, v11, v12, v13, v14, v15, v16, v17, v18, v19, v20, v21, v22, v23, v24, v25, v26, v27])), (a0, .inl (ac, 38, .inl nf)), (p0, .inl (pc, 7, .inr (.inl pf))), (w0, .inl (wc, 7, .inl f_10)), (x0, .inl (xc, 7, .inl y8))]) [0, 1, 2, 3, 4] rfl
        have hKc := hK.sub (tys' := [(ac, .int), (pc, .long), (wc, .int), (xc, .int)]) [0, 1, 2, 3] rfl
        have hDc := hD.sub (ws' := [(h0, .inr (7, [.ref a0, v1, .ref p0, v3, v4, v5, v6, .ref w0, .ref x0, .int y9, v10, v11, v12, v13, v14, v15, v16, v17, v18, v19, v20, v21, v22, v23, v24, v25, v26, v27])), (a0, .inl (ac, 38, .inl nf)), (p0, .inl (pc, 7, .inr (.inl pf))), (w0, .inl (wc, 7, .inl f_10)), (x0, .inl (xc, 7, .inl y8))]) [0, 1, 2, 3, 4] (by decide) rfl
        have hFc := va_free (wc := [(h0, .inr (7, [.ref a0, v1, .ref p0, v3, v4, v5, v6, .ref w0, .ref x0, .int y9, v10, v11, v12, v13, v14, v15, v16, v17, v18, v19, v20, v21, v22, v23, v24, v25, v26, v27])), (a0, .inl (ac, 38, .inl nf)), (p0, .inl (pc, 7, .inr (.inl pf))), (w0, .inl (wc, 7, .inl f_10)), (x0, .inl (xc, 7, .inl y8))]) hD hS hA [0, 1, 2, 3, 4] rfl
        refine va_callv (va_runV (As := [.int 1, .int n_18, .int n_19]) (rest := []) ⟨hx, hb, hml, hown, hts⟩ (m_goOn_1 l dC dI ad h0 n_18 n_19 a0 v1 p0 v3 v4 v5 v6 w0 x0 y9 v10 v11 v12 v13 v14 v15 v16 v17 v18 v19 v20 v21 v22 v23 v24 v25 v26 v27 ac nf pc pf wc f_10 xc y8 H.size hI (by first | omega | decide | (simp only [fa_lt, fa_le, fa_eq, and_true, true_and, and_false, false_and, not_true_eq_false, not_false_eq_true, li_0, li_1, li_2, li_3, li_4, li_5, li_6, li_7, li_8, li_9, li_10, li_12, li_15, li_16, li_20, li_30, li_34, li_38, li_40, li_63, li_64, li_65, li_78, li_120, li_1000, li_4000, li_10000, li_11077, li_255, li_65535, li_m1, li_m2, li_m1000000001, li_m1000000002, li_m1000000003, li_m1000000004, li_m1000000005, li_m1000000006, li_m1000000007, or_true, true_or, or_false, false_or, implies_true, true_implies, false_implies] <;> omega)) (by first | omega | decide | (simp only [fa_lt, fa_le, fa_eq, and_true, true_and, and_false, false_and, not_true_eq_false, not_false_eq_true, li_0, li_1, li_2, li_3, li_4, li_5, li_6, li_7, li_8, li_9, li_10, li_12, li_15, li_16, li_20, li_30, li_34, li_38, li_40, li_63, li_64, li_65, li_78, li_120, li_1000, li_4000, li_10000, li_11077, li_255, li_65535, li_m1, li_m2, li_m1000000001, li_m1000000002, li_m1000000003, li_m1000000004, li_m1000000005, li_m1000000006, li_m1000000007, or_true, true_or, or_false, false_or, implies_true, true_implies, false_implies] <;> omega))) (cwV 3 hts g_m_goOn_0_m_goOn_1_183 rfl rfl rfl (by decide +kernel) ⟨(Nat.le_of_ble_eq_true rfl), (Nat.le_of_ble_eq_true rfl)⟩) ⟨preM_blind, va_recv hKc hPc (ci := 7) (q0 := 0) rfl rfl, fun U hU hW => ⟨rfl, preM_at hU hW hPc hKc hDc hev⟩⟩ rfl rfl hl.1 rfl (lv_room (Nat.le_of_ble_eq_true rfl)) dX9_goOn_125 ⟨(Nat.le_of_ble_eq_true rfl), (Nat.le_of_ble_eq_true rfl)⟩) hS (fun q _ h => hFc q h) hFc (fun u t H1 locs ht hvm hw hB hz1 hk1 hS => ?_)
        obtain ⟨lc_21, wg_22, xg_23, hq_24, hP1, hK1, hD1⟩ := hB
        rw [ht] at hP1
        have hK1 := va_K.moved hvm.symm hK1
        obtain ⟨hP, hD⟩ := va_join (wr := []) (w1 := [(h0, .inr (7, [.ref a0, v1, .ref p0, v3, v4, v5, v6, .ref w0, .ref x0, .int lc_21, v10, v11, v12, v13, v14, v15, v16, v17, v18, v19, v20, v21, v22, v23, v24, v25, v26, v27])), (a0, .inl (ac, 38, .inl nf)), (p0, .inl (pc, 7, .inr (.inl pf))), (w0, .inl (wc, 7, .inl wg_22)), (x0, .inl (xc, 7, .inl xg_23))]) hP hD [0, 1, 2, 3, 4] [] rfl rfl (by decide) (by decide) hk1 hFc hP1 hD1
        generalize H1 = H at hP hS ⊢
        have hP : va_P (dC, dI) vwCl [(h0, .inr (7, [.ref a0, v1, .ref p0, v3, v4, v5, v6, .ref w0, .ref x0, .int lc_21, v10, v11, v12, v13, v14, v15, v16, v17, v18, v19, v20, v21, v22, v23, v24, v25, v26, v27])), (a0, .inl (ac, 38, .inl nf)), (p0, .inl (pc, 7, .inr (.inl pf))), (w0, .inl (wc, 7, .inl wg_22)), (x0, .inl (xc, 7, .inl xg_23))] H := hP
        have hD : va_D A [(h0, .inr (7, [.ref a0, v1, .ref p0, v3, v4, v5, v6, .ref w0, .ref x0, .int lc_21, v10, v11, v12, v13, v14, v15, v16, v17, v18, v19, v20, v21, v22, v23, v24, v25, v26, v27])), (a0, .inl (ac, 38, .inl nf)), (p0, .inl (pc, 7, .inr (.inl pf))), (w0, .inl (wc, 7, .inl wg_22)), (x0, .inl (xc, 7, .inl xg_23))] := hD
        obtain ⟨n_25, en_25⟩ : ∃ y : Int32, y = v4_63 + 1 := ⟨_, rfl⟩
        have tn_25 : n_25.toInt = v4_63.toInt + 1 := pp_add en_25 rfl rfl (by omega) (by omega)
        refine lv_iinc (v := n_25) (lv' := [(4, .int n_25), (0, .ref h0), (1, .int 0), (2, .int us), (3, .int cs)]) hx hb dX9_goOn_128 hl (k := 0) rfl (by rw [en_25]; rfl) (by decide) rfl (fun ls hl => ?_)
        clear en_25
        refine lv_goto (tgt := 63) hx hb dX9_goOn_131 (by decide) ?_
        exact ihk_3 (n_25, lc_21, wg_22, xg_23) _ _ _ (by show ((nf 1).toInt - n_25.toInt).toNat < k_3; omega) ⟨(by first | omega | decide | (simp only [fa_lt, fa_le, fa_eq, and_true, true_and, and_false, false_and, not_true_eq_false, not_false_eq_true, li_0, li_1, li_2, li_3, li_4, li_5, li_6, li_7, li_8, li_9, li_10, li_12, li_15, li_16, li_20, li_30, li_34, li_38, li_40, li_63, li_64, li_65, li_78, li_120, li_1000, li_4000, li_10000, li_11077, li_255, li_65535, li_m1, li_m2, li_m1000000001, li_m1000000002, li_m1000000003, li_m1000000004, li_m1000000005, li_m1000000006, li_m1000000007, or_true, true_or, or_false, false_or, implies_true, true_implies, false_implies] <;> omega)), hP.sub [0, 1, 2, 3, 4] rfl, hD.sub [0, 1, 2, 3, 4] (by decide) rfl, hS, lv_sub hl [0, 1, 2, 3, 4] rfl⟩
  · skip
    have tc_2 : 0 = n_1.toInt := (fa_eq _ _).mp c_2
    refine lv_aload_n hx hb dX9_goOn_10 rfl (lv_at hl 0 rfl) ?_
    refine va_get (D := (dC, dI)) (ci := 7) (v := .int lc) (C := RX9) (T := TX9) (N := 28) hx hb hts inX9 hown hK hP 0 rfl rfl 9 (by decide) (hts _ (List.mem_of_getElem? (i := 16) rfl)) (fun _ h9 => h9) rfl dX9_goOn_11 ?_
    refine lv_if_lt (tgt := 25) hx hb dX9_goOn_14 (by decide) (fun c_26 => ?_) (fun c_26 => ?_)
    · skip
      have tc_26 : lc.toInt < 0 := (fa_lt _ _).mp c_26
      refine lv_aload_n hx hb dX9_goOn_25 rfl (lv_at hl 0 rfl) ?_
      refine lv_iload_n hx hb dX9_goOn_26 rfl (lv_at hl 3 rfl) ?_
      refine va_put (D := (dC, dI)) (ci := 7) (v := .int cs) (ty := .int) (C := RX9) (T := TX9) (N := 28) hx hb hts inX9 tyX9 tyX9_ok nmX9 hown hK hP hD hS 0 rfl rfl 9 (by decide) (hts _ (List.mem_of_getElem? (i := 16) rfl)) (fun _ h9 => h9) rfl (by decide +kernel) rfl rfl (Nat.le_of_ble_eq_true rfl) dX9_goOn_27 (fun H locs hP hD hS => ?_)
      have hP : va_P (dC, dI) vwCl [(h0, .inr (7, [.ref a0, v1, .ref p0, v3, v4, v5, v6, .ref w0, .ref x0, .int cs, v10, v11, v12, v13, v14, v15, v16, v17, v18, v19, v20, v21, v22, v23, v24, v25, v26, v27])), (a0, .inl (ac, 38, .inl nf)), (p0, .inl (pc, 7, .inr (.inl pf))), (w0, .inl (wc, 7, .inl wf)), (x0, .inl (xc, 7, .inl xf))] H := hP
      have hD : va_D A [(h0, .inr (7, [.ref a0, v1, .ref p0, v3, v4, v5, v6, .ref w0, .ref x0, .int cs, v10, v11, v12, v13, v14, v15, v16, v17, v18, v19, v20, v21, v22, v23, v24, v25, v26, v27])), (a0, .inl (ac, 38, .inl nf)), (p0, .inl (pc, 7, .inr (.inl pf))), (w0, .inl (wc, 7, .inl wf)), (x0, .inl (xc, 7, .inl xf))] := hD
      refine lv_iconst (v := 0) hx hb dX9_goOn_30 (by decide) ?_
      refine lv_istore (lv' := [(4, .int 0), (0, .ref h0), (1, .int 0), (2, .int us), (3, .int cs)]) hx hb dX9_goOn_31 hl (by decide) rfl (fun ls hl => ?_)
      refine pp_loop (ι := Int32 × (Nat → Int32)) (fun ⟨v4_33, z8⟩ => (0 - v4_33.toInt).toNat) (fun ⟨v4_33, z8⟩ H locs ls => (0 ≤ v4_33.toInt) ∧ (v4_33.toInt ≤ 0) ∧ va_P (dC, dI) vwCl [(h0, .inr (7, [.ref a0, v1, .ref p0, v3, v4, v5, v6, .ref w0, .ref x0, .int cs, v10, v11, v12, v13, v14, v15, v16, v17, v18, v19, v20, v21, v22, v23, v24, v25, v26, v27])), (a0, .inl (ac, 38, .inl nf)), (p0, .inl (pc, 7, .inr (.inl pf))), (w0, .inl (wc, 7, .inl wf)), (x0, .inl (xc, 7, .inl z8))] H ∧ va_D A [(h0, .inr (7, [.ref a0, v1, .ref p0, v3, v4, v5, v6, .ref w0, .ref x0, .int cs, v10, v11, v12, v13, v14, v15, v16, v17, v18, v19, v20, v21, v22, v23, v24, v25, v26, v27])), (a0, .inl (ac, 38, .inl nf)), (p0, .inl (pc, 7, .inr (.inl pf))), (w0, .inl (wc, 7, .inl wf)), (x0, .inl (xc, 7, .inl z8))] ∧ va_S A s.heap H locs ∧ lv_has ls 5 [(4, .int v4_33), (0, .ref h0), (1, .int 0), (2, .int us), (3, .int cs)]) ?_ (0, xf) _ _ _ ⟨(by first | omega | decide | (simp only [fa_lt, fa_le, fa_eq, and_true, true_and, and_false, false_and, not_true_eq_false, not_false_eq_true, li_0, li_1, li_2, li_3, li_4, li_5, li_6, li_7, li_8, li_9, li_10, li_12, li_15, li_16, li_20, li_30, li_34, li_38, li_40, li_63, li_64, li_65, li_78, li_120, li_1000, li_4000, li_10000, li_11077, li_255, li_65535, li_m1, li_m2, li_m1000000001, li_m1000000002, li_m1000000003, li_m1000000004, li_m1000000005, li_m1000000006, li_m1000000007, or_true, true_or, or_false, false_or, implies_true, true_implies, false_implies] <;> omega)), (by first | omega | decide | (simp only [fa_lt, fa_le, fa_eq, and_true, true_and, and_false, false_and, not_true_eq_false, not_false_eq_true, li_0, li_1, li_2, li_3, li_4, li_5, li_6, li_7, li_8, li_9, li_10, li_12, li_15, li_16, li_20, li_30, li_34, li_38, li_40, li_63, li_64, li_65, li_78, li_120, li_1000, li_4000, li_10000, li_11077, li_255, li_65535, li_m1, li_m2, li_m1000000001, li_m1000000002, li_m1000000003, li_m1000000004, li_m1000000005, li_m1000000006, li_m1000000007, or_true, true_or, or_false, false_or, implies_true, true_implies, false_implies] <;> omega)), hP.sub [0, 1, 2, 3, 4] rfl, hD.sub [0, 1, 2, 3, 4] (by decide) rfl, hS, lv_sub hl [0, 1, 2, 3, 4] rfl⟩
      intro k_27 ihk_27 u H locs ls hm hI
      obtain ⟨v4_33, z8⟩ := u
      obtain ⟨jk_27_0, jk_27_1, hP, hD, hS, hl⟩ := hI
      have hmk_27 : (0 - v4_33.toInt).toNat < k_27 + 1 := hm
      clear hm
      have jk_27_0 : 0 ≤ v4_33.toInt := jk_27_0
      have jk_27_1 : v4_33.toInt ≤ 0 := jk_27_1
      have hl : lv_has ls 5 [(4, .int v4_33), (0, .ref h0), (1, .int 0), (2, .int us), (3, .int cs)] := hl
      have hP : va_P (dC, dI) vwCl [(h0, .inr (7, [.ref a0, v1, .ref p0, v3, v4, v5, v6, .ref w0, .ref x0, .int cs, v10, v11, v12, v13, v14, v15, v16, v17, v18, v19, v20, v21, v22, v23, v24, v25, v26, v27])), (a0, .inl (ac, 38, .inl nf)), (p0, .inl (pc, 7, .inr (.inl pf))), (w0, .inl (wc, 7, .inl wf)), (x0, .inl (xc, 7, .inl z8))] H := hP
      have hD : va_D A [(h0, .inr (7, [.ref a0, v1, .ref p0, v3, v4, v5, v6, .ref w0, .ref x0, .int cs, v10, v11, v12, v13, v14, v15, v16, v17, v18, v19, v20, v21, v22, v23, v24, v25, v26, v27])), (a0, .inl (ac, 38, .inl nf)), (p0, .inl (pc, 7, .inr (.inl pf))), (w0, .inl (wc, 7, .inl wf)), (x0, .inl (xc, 7, .inl z8))] := hD
      refine lv_iload hx hb dX9_goOn_33 (lv_at hl 0 rfl) ?_
      refine lv_iload_n hx hb dX9_goOn_35 rfl (lv_at hl 2 rfl) ?_
      refine lv_icmp_ge (tgt := 59) hx hb dX9_goOn_36 (by decide) (fun c_28 => ?_) (fun c_28 => ?_)
      · skip
        have tc_28 : 0 ≤ v4_33.toInt := (fa_le _ _).mp c_28
        have hP9 := hP.sub (ws' := [(h0, .inr (7, [.ref a0, v1, .ref p0, v3, v4, v5, v6, .ref w0, .ref x0, .int cs, v10, v11, v12, v13, v14, v15, v16, v17, v18, v19, v20, v21, v22, v23, v24, v25, v26, v27])), (a0, .inl (ac, 38, .inl nf)), (p0, .inl (pc, 7, .inr (.inl pf))), (w0, .inl (wc, 7, .inl wf)), (x0, .inl (xc, 7, .inl z8))]) [0, 1, 2, 3, 4] rfl
        have hD9 := hD.sub (ws' := [(h0, .inr (7, [.ref a0, v1, .ref p0, v3, v4, v5, v6, .ref w0, .ref x0, .int cs, v10, v11, v12, v13, v14, v15, v16, v17, v18, v19, v20, v21, v22, v23, v24, v25, v26, v27])), (a0, .inl (ac, 38, .inl nf)), (p0, .inl (pc, 7, .inr (.inl pf))), (w0, .inl (wc, 7, .inl wf)), (x0, .inl (xc, 7, .inl z8))]) [0, 1, 2, 3, 4] (by decide) rfl
        have hK9 := hK.sub (tys' := [(ac, .int), (pc, .long), (wc, .int), (xc, .int)]) [0, 1, 2, 3] rfl
        exact W.vret hx hb hr (fun t ht hW => ⟨⟨(), rfl, trivial, cs, wf, z8, by rw [ht]; exact hP9, va_K.moved hW.alike hK9, hD9⟩, hS.F ht⟩) hS.2.2 dX9_goOn_59
      · skip
        have tc_28 : ¬ 0 ≤ v4_33.toInt := fun h => c_28 ((fa_le _ _).mpr h)
        exfalso; omega
    · skip
      have tc_26 : ¬ lc.toInt < 0 := fun h => c_26 ((fa_lt _ _).mpr h)
      refine lv_iload_n hx hb dX9_goOn_17 rfl (lv_at hl 3 rfl) ?_
      refine lv_aload_n hx hb dX9_goOn_18 rfl (lv_at hl 0 rfl) ?_
      refine va_get (D := (dC, dI)) (ci := 7) (v := .int lc) (C := RX9) (T := TX9) (N := 28) hx hb hts inX9 hown hK hP 0 rfl rfl 9 (by decide) (hts _ (List.mem_of_getElem? (i := 16) rfl)) (fun _ h9 => h9) rfl dX9_goOn_19 ?_
      have rc_29_x := pp_rng cs
      have rc_29_y := pp_rng lc
      refine lv_icmp_ge (tgt := 59) hx hb dX9_goOn_22 (by decide) (fun c_29 => ?_) (fun c_29 => ?_)
      · skip
        have tc_29 : lc.toInt ≤ cs.toInt := (fa_le _ _).mp c_29
        have hP9 := hP.sub (ws' := [(h0, .inr (7, [.ref a0, v1, .ref p0, v3, v4, v5, v6, .ref w0, .ref x0, .int lc, v10, v11, v12, v13, v14, v15, v16, v17, v18, v19, v20, v21, v22, v23, v24, v25, v26, v27])), (a0, .inl (ac, 38, .inl nf)), (p0, .inl (pc, 7, .inr (.inl pf))), (w0, .inl (wc, 7, .inl wf)), (x0, .inl (xc, 7, .inl xf))]) [0, 1, 2, 3, 4] rfl
        have hD9 := hD.sub (ws' := [(h0, .inr (7, [.ref a0, v1, .ref p0, v3, v4, v5, v6, .ref w0, .ref x0, .int lc, v10, v11, v12, v13, v14, v15, v16, v17, v18, v19, v20, v21, v22, v23, v24, v25, v26, v27])), (a0, .inl (ac, 38, .inl nf)), (p0, .inl (pc, 7, .inr (.inl pf))), (w0, .inl (wc, 7, .inl wf)), (x0, .inl (xc, 7, .inl xf))]) [0, 1, 2, 3, 4] (by decide) rfl
        have hK9 := hK.sub (tys' := [(ac, .int), (pc, .long), (wc, .int), (xc, .int)]) [0, 1, 2, 3] rfl
        exact W.vret hx hb hr (fun t ht hW => ⟨⟨(), rfl, trivial, lc, wf, xf, by rw [ht]; exact hP9, va_K.moved hW.alike hK9, hD9⟩, hS.F ht⟩) hS.2.2 dX9_goOn_59
      · skip
        have tc_29 : ¬ lc.toInt ≤ cs.toInt := fun h => c_29 ((fa_le _ _).mpr h)
        refine lv_aload_n hx hb dX9_goOn_25 rfl (lv_at hl 0 rfl) ?_
        refine lv_iload_n hx hb dX9_goOn_26 rfl (lv_at hl 3 rfl) ?_
        refine va_put (D := (dC, dI)) (ci := 7) (v := .int cs) (ty := .int) (C := RX9) (T := TX9) (N := 28) hx hb hts inX9 tyX9 tyX9_ok nmX9 hown hK hP hD hS 0 rfl rfl 9 (by decide) (hts _ (List.mem_of_getElem? (i := 16) rfl)) (fun _ h9 => h9) rfl (by decide +kernel) rfl rfl (Nat.le_of_ble_eq_true rfl) dX9_goOn_27 (fun H locs hP hD hS => ?_)
        have hP : va_P (dC, dI) vwCl [(h0, .inr (7, [.ref a0, v1, .ref p0, v3, v4, v5, v6, .ref w0, .ref x0, .int cs, v10, v11, v12, v13, v14, v15, v16, v17, v18, v19, v20, v21, v22, v23, v24, v25, v26, v27])), (a0, .inl (ac, 38, .inl nf)), (p0, .inl (pc, 7, .inr (.inl pf))), (w0, .inl (wc, 7, .inl wf)), (x0, .inl (xc, 7, .inl xf))] H := hP
        have hD : va_D A [(h0, .inr (7, [.ref a0, v1, .ref p0, v3, v4, v5, v6, .ref w0, .ref x0, .int cs, v10, v11, v12, v13, v14, v15, v16, v17, v18, v19, v20, v21, v22, v23, v24, v25, v26, v27])), (a0, .inl (ac, 38, .inl nf)), (p0, .inl (pc, 7, .inr (.inl pf))), (w0, .inl (wc, 7, .inl wf)), (x0, .inl (xc, 7, .inl xf))] := hD
        refine lv_iconst (v := 0) hx hb dX9_goOn_30 (by decide) ?_
        refine lv_istore (lv' := [(4, .int 0), (0, .ref h0), (1, .int 0), (2, .int us), (3, .int cs)]) hx hb dX9_goOn_31 hl (by decide) rfl (fun ls hl => ?_)
        refine pp_loop (ι := Int32 × (Nat → Int32)) (fun ⟨v4_33, z8⟩ => (0 - v4_33.toInt).toNat) (fun ⟨v4_33, z8⟩ H locs ls => (0 ≤ v4_33.toInt) ∧ (v4_33.toInt ≤ 0) ∧ va_P (dC, dI) vwCl [(h0, .inr (7, [.ref a0, v1, .ref p0, v3, v4, v5, v6, .ref w0, .ref x0, .int cs, v10, v11, v12, v13, v14, v15, v16, v17, v18, v19, v20, v21, v22, v23, v24, v25, v26, v27])), (a0, .inl (ac, 38, .inl nf)), (p0, .inl (pc, 7, .inr (.inl pf))), (w0, .inl (wc, 7, .inl wf)), (x0, .inl (xc, 7, .inl z8))] H ∧ va_D A [(h0, .inr (7, [.ref a0, v1, .ref p0, v3, v4, v5, v6, .ref w0, .ref x0, .int cs, v10, v11, v12, v13, v14, v15, v16, v17, v18, v19, v20, v21, v22, v23, v24, v25, v26, v27])), (a0, .inl (ac, 38, .inl nf)), (p0, .inl (pc, 7, .inr (.inl pf))), (w0, .inl (wc, 7, .inl wf)), (x0, .inl (xc, 7, .inl z8))] ∧ va_S A s.heap H locs ∧ lv_has ls 5 [(4, .int v4_33), (0, .ref h0), (1, .int 0), (2, .int us), (3, .int cs)]) ?_ (0, xf) _ _ _ ⟨(by first | omega | decide | (simp only [fa_lt, fa_le, fa_eq, and_true, true_and, and_false, false_and, not_true_eq_false, not_false_eq_true, li_0, li_1, li_2, li_3, li_4, li_5, li_6, li_7, li_8, li_9, li_10, li_12, li_15, li_16, li_20, li_30, li_34, li_38, li_40, li_63, li_64, li_65, li_78, li_120, li_1000, li_4000, li_10000, li_11077, li_255, li_65535, li_m1, li_m2, li_m1000000001, li_m1000000002, li_m1000000003, li_m1000000004, li_m1000000005, li_m1000000006, li_m1000000007, or_true, true_or, or_false, false_or, implies_true, true_implies, false_implies] <;> omega)), (by first | omega | decide | (simp only [fa_lt, fa_le, fa_eq, and_true, true_and, and_false, false_and, not_true_eq_false, not_false_eq_true, li_0, li_1, li_2, li_3, li_4, li_5, li_6, li_7, li_8, li_9, li_10, li_12, li_15, li_16, li_20, li_30, li_34, li_38, li_40, li_63, li_64, li_65, li_78, li_120, li_1000, li_4000, li_10000, li_11077, li_255, li_65535, li_m1, li_m2, li_m1000000001, li_m1000000002, li_m1000000003, li_m1000000004, li_m1000000005, li_m1000000006, li_m1000000007, or_true, true_or, or_false, false_or, implies_true, true_implies, false_implies] <;> omega)), hP.sub [0, 1, 2, 3, 4] rfl, hD.sub [0, 1, 2, 3, 4] (by decide) rfl, hS, lv_sub hl [0, 1, 2, 3, 4] rfl⟩
        intro k_30 ihk_30 u H locs ls hm hI
        obtain ⟨v4_33, z8⟩ := u
        obtain ⟨jk_30_0, jk_30_1, hP, hD, hS, hl⟩ := hI
        have hmk_30 : (0 - v4_33.toInt).toNat < k_30 + 1 := hm
        clear hm
        have jk_30_0 : 0 ≤ v4_33.toInt := jk_30_0
        have jk_30_1 : v4_33.toInt ≤ 0 := jk_30_1
        have hl : lv_has ls 5 [(4, .int v4_33), (0, .ref h0), (1, .int 0), (2, .int us), (3, .int cs)] := hl
        have hP : va_P (dC, dI) vwCl [(h0, .inr (7, [.ref a0, v1, .ref p0, v3, v4, v5, v6, .ref w0, .ref x0, .int cs, v10, v11, v12, v13, v14, v15, v16, v17, v18, v19, v20, v21, v22, v23, v24, v25, v26, v27])), (a0, .inl (ac, 38, .inl nf)), (p0, .inl (pc, 7, .inr (.inl pf))), (w0, .inl (wc, 7, .inl wf)), (x0, .inl (xc, 7, .inl z8))] H := hP
        have hD : va_D A [(h0, .inr (7, [.ref a0, v1, .ref p0, v3, v4, v5, v6, .ref w0, .ref x0, .int cs, v10, v11, v12, v13, v14, v15, v16, v17, v18, v19, v20, v21, v22, v23, v24, v25, v26, v27])), (a0, .inl (ac, 38, .inl nf)), (p0, .inl (pc, 7, .inr (.inl pf))), (w0, .inl (wc, 7, .inl wf)), (x0, .inl (xc, 7, .inl z8))] := hD
        refine lv_iload hx hb dX9_goOn_33 (lv_at hl 0 rfl) ?_
        refine lv_iload_n hx hb dX9_goOn_35 rfl (lv_at hl 2 rfl) ?_
        refine lv_icmp_ge (tgt := 59) hx hb dX9_goOn_36 (by decide) (fun c_31 => ?_) (fun c_31 => ?_)
        · skip
          have tc_31 : 0 ≤ v4_33.toInt := (fa_le _ _).mp c_31
          have hP9 := hP.sub (ws' := [(h0, .inr (7, [.ref a0, v1, .ref p0, v3, v4, v5, v6, .ref w0, .ref x0, .int cs, v10, v11, v12, v13, v14, v15, v16, v17, v18, v19, v20, v21, v22, v23, v24, v25, v26, v27])), (a0, .inl (ac, 38, .inl nf)), (p0, .inl (pc, 7, .inr (.inl pf))), (w0, .inl (wc, 7, .inl wf)), (x0, .inl (xc, 7, .inl z8))]) [0, 1, 2, 3, 4] rfl
          have hD9 := hD.sub (ws' := [(h0, .inr (7, [.ref a0, v1, .ref p0, v3, v4, v5, v6, .ref w0, .ref x0, .int cs, v10, v11, v12, v13, v14, v15, v16, v17, v18, v19, v20, v21, v22, v23, v24, v25, v26, v27])), (a0, .inl (ac, 38, .inl nf)), (p0, .inl (pc, 7, .inr (.inl pf))), (w0, .inl (wc, 7, .inl wf)), (x0, .inl (xc, 7, .inl z8))]) [0, 1, 2, 3, 4] (by decide) rfl
          have hK9 := hK.sub (tys' := [(ac, .int), (pc, .long), (wc, .int), (xc, .int)]) [0, 1, 2, 3] rfl
          exact W.vret hx hb hr (fun t ht hW => ⟨⟨(), rfl, trivial, cs, wf, z8, by rw [ht]; exact hP9, va_K.moved hW.alike hK9, hD9⟩, hS.F ht⟩) hS.2.2 dX9_goOn_59
        · skip
          have tc_31 : ¬ 0 ≤ v4_33.toInt := fun h => c_31 ((fa_le _ _).mpr h)
          exfalso; omega

def w_m_order : List Cond := .code yX9_order cX9_order 2 (some .int) :: (([.fieldLink RX9 9 "LampShapesModel" "now" "[I", .fieldLink RX9 180 "LampShapesModel" "leastCost" "I", .methodLink RX9 183 yX9_goOn, .instanceMethod yX9_goOn, .selects RX9 yX9_goOn yX9_goOn, .initialized RX9, .code yX9_goOn cX9_goOn 5 none, .fieldLink RX9 26 "LampShapesModel" "row" "[I", .methodLink RX9 161 yX9_changesOf, .instanceMethod yX9_changesOf, .selects RX9 yX9_changesOf yX9_changesOf, .code yX9_changesOf cX9_changesOf 3 (some .int), .fieldLink RX9 16 "LampShapesModel" "pictures" "[J", .methodLink RX9 158 yX9_bits, .static yX9_bits, .code yX9_bits cX9_bits 5 (some .int), .fieldLink RX9 29 "LampShapesModel" "bestRow" "[I", .constant RX9 150 (-1000000004), .methodLink RX9 84 yX9_finding, .instanceMethod yX9_finding, .selects RX9 yX9_finding yX9_finding, .code yX9_finding cX9_finding 2 (some .int), .fieldLink RX9 23 "LampShapesModel" "found" "[I", .constant RX9 74 (-1000000001), .constant RX9 187 (-1000000007)] : List Cond) ++ wsX90)
set_option maxRecDepth 20000 in
theorem g_m_order_m_goOn_0_183 : GoodIn w_m_order (wsV RX9 183 RX9 yX9_goOn w_m_goOn_0) := goodIn_r _ [3, 4, 5, 6, 7, 1, 8, 3, 4, 5, 6, 7, 9, 10, 11, 12, 13, 14, 15, 16, 2, 17, 26, 27, 28, 29, 30, 31, 32, 33, 34, 35, 36, 37, 38, 39, 40, 41, 42, 43, 44, 45, 46, 47, 48, 49, 50, 51, 52, 53] rfl (by decide +kernel)
set_option maxRecDepth 20000 in
theorem g_m_order_mf_none_84 : GoodIn w_m_order (wsV RX9 84 RX9 yX9_finding w_mf_none) := goodIn_r _ [19, 20, 21, 6, 22, 23, 24, 26, 27, 28, 29, 30, 31, 32, 33, 34, 35, 36, 37, 38, 39, 40, 41, 42, 43, 44, 45, 46, 47, 48, 49, 50, 51, 52, 53] rfl (by decide +kernel)
set_option maxRecDepth 20000 in
theorem g_m_order_mf_size_84 : GoodIn w_m_order (wsV RX9 84 RX9 yX9_finding w_mf_size) := goodIn_r _ [19, 20, 21, 6, 22, 23, 24, 26, 27, 28, 29, 30, 31, 32, 33, 34, 35, 36, 37, 38, 39, 40, 41, 42, 43, 44, 45, 46, 47, 48, 49, 50, 51, 52, 53] rfl (by decide +kernel)
set_option maxRecDepth 20000 in
theorem g_m_order_mf_beyond_84 : GoodIn w_m_order (wsV RX9 84 RX9 yX9_finding w_mf_beyond) := goodIn_r _ [19, 20, 21, 6, 22, 23, 24, 26, 27, 28, 29, 30, 31, 32, 33, 34, 35, 36, 37, 38, 39, 40, 41, 42, 43, 44, 45, 46, 47, 48, 49, 50, 51, 52, 53] rfl (by decide +kernel)
set_option maxHeartbeats 4000000 in
set_option maxRecDepth 100000 in
theorem m_order (l : Launch) (dC : Nat → ClassId) (dI : Nat → Nat → Nat) (ad : Nat → Nat) (h0 : Nat) (a : Int32) (a0 : Nat) (v1 : Value) (p0 : Nat) (v3 : Value) (v4 : Value) (t0 : Nat) (v6 : Value) (w0 : Nat) (x0 : Nat) (lc : Int32) (v10 : Value) (v11 : Value) (v12 : Value) (v13 : Value) (v14 : Value) (v15 : Value) (v16 : Value) (v17 : Value) (v18 : Value) (v19 : Value) (v20 : Value) (v21 : Value) (v22 : Value) (v23 : Value) (v24 : Value) (v25 : Value) (v26 : Value) (v27 : Value) (tc : ClassId) (tf : Nat → Int32) (ac : ClassId) (nf : Nat → Int32) (pc : ClassId) (pf : Nat → Int64) (wc : ClassId) (wf : Nat → Int32) (xc : ClassId) (xf : Nat → Int32) (sz : Nat) (hI : mI nf) : Met l yX9_order w_m_order ({ frames := 8, cells := 0, slots := 0, locals := 190 } : Room) (va_Pc [.ref h0, .int a] (preM dC dI ad [(tc, .int), (ac, .int), (pc, .long), (wc, .int), (xc, .int)] [(h0, .inr (7, [.ref a0, v1, .ref p0, v3, v4, .ref t0, v6, .ref w0, .ref x0, .int lc, v10, v11, v12, v13, v14, v15, v16, v17, v18, v19, v20, v21, v22, v23, v24, v25, v26, v27])), (t0, .inl (tc, 8, .inl tf)), (a0, .inl (ac, 38, .inl nf)), (p0, .inl (pc, 7, .inr (.inl pf))), (w0, .inl (wc, 7, .inl wf)), (x0, .inl (xc, 7, .inl xf))] sz)) (va_Qi (fun (r : Int32) (_ : Unit) => True) (fun _ t => ∃ (tg : Nat → Int32), ∃ (lc2 : Int32), ∃ (wg : Nat → Int32), ∃ (xg : Nat → Int32), va_P (dC, dI) vwCl [(h0, .inr (7, [.ref a0, v1, .ref p0, v3, v4, .ref t0, v6, .ref w0, .ref x0, .int lc2, v10, v11, v12, v13, v14, v15, v16, v17, v18, v19, v20, v21, v22, v23, v24, v25, v26, v27])), (t0, .inl (tc, 8, .inl tg)), (a0, .inl (ac, 38, .inl nf)), (p0, .inl (pc, 7, .inr (.inl pf))), (w0, .inl (wc, 7, .inl wg)), (x0, .inl (xc, 7, .inl xg))] t.heap ∧ va_K (dC, dI) vwCl [(tc, .int), (ac, .int), (pc, .long), (wc, .int), (xc, .int)] t ∧ va_D (va_A [(h0, .inr (7, [.ref a0, v1, .ref p0, v3, v4, .ref t0, v6, .ref w0, .ref x0, .int lc, v10, v11, v12, v13, v14, v15, v16, v17, v18, v19, v20, v21, v22, v23, v24, v25, v26, v27])), (t0, .inl (tc, 8, .inl tf)), (a0, .inl (ac, 38, .inl nf)), (p0, .inl (pc, 7, .inr (.inl pf))), (w0, .inl (wc, 7, .inl wf)), (x0, .inl (xc, 7, .inl xf))] sz) [(h0, .inr (7, [.ref a0, v1, .ref p0, v3, v4, .ref t0, v6, .ref w0, .ref x0, .int lc2, v10, v11, v12, v13, v14, v15, v16, v17, v18, v19, v20, v21, v22, v23, v24, v25, v26, v27])), (t0, .inl (tc, 8, .inl tg)), (a0, .inl (ac, 38, .inl nf)), (p0, .inl (pc, 7, .inr (.inl pf))), (w0, .inl (wc, 7, .inl wg)), (x0, .inl (xc, 7, .inl xg))]) (va_A [(h0, .inr (7, [.ref a0, v1, .ref p0, v3, v4, .ref t0, v6, .ref w0, .ref x0, .int lc, v10, v11, v12, v13, v14, v15, v16, v17, v18, v19, v20, v21, v22, v23, v24, v25, v26, v27])), (t0, .inl (tc, 8, .inl tf)), (a0, .inl (ac, 38, .inl nf)), (p0, .inl (pc, 7, .inr (.inl pf))), (w0, .inl (wc, 7, .inl wf)), (x0, .inl (xc, 7, .inl xf))] sz)) 0 0 (va_A [(h0, .inr (7, [.ref a0, v1, .ref p0, v3, v4, .ref t0, v6, .ref w0, .ref x0, .int lc, v10, v11, v12, v13, v14, v15, v16, v17, v18, v19, v20, v21, v22, v23, v24, v25, v26, v27])), (t0, .inl (tc, 8, .inl tf)), (a0, .inl (ac, 38, .inl nf)), (p0, .inl (pc, 7, .inr (.inl pf))), (w0, .inl (wc, 7, .inl wf)), (x0, .inl (xc, 7, .inl xf))] sz) := by
  refine Met.ofW (cc := cX9_order) (maxL := 2) (ret := (some .int)) (by decide) rfl ?_
  intro p e s m args below meth c s₁ B hml hv
  obtain ⟨rfl, hsz, hP, hK, hD0, hev⟩ := hv
  have hx := B.exec
  have hb := B.bytes
  have hr := B.returns
  have hts := atoms_spec (ws := w_m_order) B.pre
  have hown : s.vm.findClass RX9 = some m.cls := findClass_of_methodNamed B.named
  have hlocks := B.notSynchronized
  have inX9 : ∀ w ∈ wsX90, w ∈ w_m_order := fun w h => List.mem_cons_of_mem _ (List.mem_append_right _ h)
  subst hsz
  have hD := hD0.self (sz := s.heap.size)
  generalize hAe : va_A [(h0, .inr (7, [.ref a0, v1, .ref p0, v3, v4, .ref t0, v6, .ref w0, .ref x0, .int lc, v10, v11, v12, v13, v14, v15, v16, v17, v18, v19, v20, v21, v22, v23, v24, v25, v26, v27])), (t0, .inl (tc, 8, .inl tf)), (a0, .inl (ac, 38, .inl nf)), (p0, .inl (pc, 7, .inr (.inl pf))), (w0, .inl (wc, 7, .inl wf)), (x0, .inl (xc, 7, .inl xf))] s.heap.size = A at hD ⊢
  have hA : ∀ q : Nat, s.heap.size ≤ q → A q := fun q h => by rw [← hAe]; exact Or.inr h
  have hS : va_S A s.heap s.heap [] := va_S.rf
  have hP : va_P (dC, dI) vwCl [(h0, .inr (7, [.ref a0, v1, .ref p0, v3, v4, .ref t0, v6, .ref w0, .ref x0, .int lc, v10, v11, v12, v13, v14, v15, v16, v17, v18, v19, v20, v21, v22, v23, v24, v25, v26, v27])), (t0, .inl (tc, 8, .inl tf)), (a0, .inl (ac, 38, .inl nf)), (p0, .inl (pc, 7, .inr (.inl pf))), (w0, .inl (wc, 7, .inl wf)), (x0, .inl (xc, 7, .inl xf))] s.heap := hP
  have hl := lv_entry ([.ref h0, .int a]) (n := 2) (Nat.le_of_ble_eq_true rfl)
  rw [lg_entry_eq]
  generalize (lg_sl ([.ref h0, .int a]) ++ List.replicate (2 - (lg_sl ([.ref h0, .int a])).length) Slot.unset).toArray = ls at hl ⊢
  have hl : lv_has ls 2 [(0, .ref h0), (1, .int a)] := hl
  refine lv_iload_n hx hb dX9_order_0 rfl (lv_at hl 1 rfl) ?_
  refine lv_iconst (v := (-1)) hx hb dX9_order_1 (by decide) ?_
  refine lv_icmp_ge (tgt := 12) hx hb dX9_order_2 (by decide) (fun c_1 => ?_) (fun c_1 => ?_)
  · skip
    have tc_1 : (-1) ≤ a.toInt := (fa_le _ _).mp c_1
    refine lv_aload_n hx hb dX9_order_12 rfl (lv_at hl 0 rfl) ?_
    refine va_get (D := (dC, dI)) (ci := 7) (v := .ref a0) (C := RX9) (T := TX9) (N := 28) hx hb hts inX9 hown hK hP 0 rfl rfl 0 (by decide) (hts _ (List.mem_of_getElem? (i := 1) rfl)) (fun _ h9 => h9) rfl dX9_order_13 ?_
    refine lv_iconst (v := 1) hx hb dX9_order_16 (by decide) ?_
    refine va_iald hx hb hK hP 2 1 rfl rfl (vp_in_nI (n := 1) (by decide) (by decide)) dX9_order_17 ?_
    refine pp_ti (y := nf 1) rfl ?_
    refine lv_topi (fun n_2 en_2 => ?_)
    have tn_2 : n_2.toInt = (nf 1).toInt ∧ 0 ≤ n_2.toInt ∧ n_2.toInt ≤ 7 := mI_r1 hI en_2
    clear en_2
    refine lv_bipush (v := 6) hx hb dX9_order_18 (by decide) ?_
    refine lv_icmp_le (tgt := 30) hx hb dX9_order_20 (by decide) (fun c_3 => ?_) (fun c_3 => ?_)
    · skip
      have tc_3 : n_2.toInt ≤ 6 := (fa_le _ _).mp c_3
      refine lv_iload_n hx hb dX9_order_30 rfl (lv_at hl 1 rfl) ?_
      refine lv_aload_n hx hb dX9_order_31 rfl (lv_at hl 0 rfl) ?_
      refine va_get (D := (dC, dI)) (ci := 7) (v := .ref a0) (C := RX9) (T := TX9) (N := 28) hx hb hts inX9 hown hK hP 0 rfl rfl 0 (by decide) (hts _ (List.mem_of_getElem? (i := 1) rfl)) (fun _ h9 => h9) rfl dX9_order_32 ?_
      refine lv_iconst (v := 1) hx hb dX9_order_35 (by decide) ?_
      refine va_iald hx hb hK hP 2 1 rfl rfl (vp_in_nI (n := 1) (by decide) (by decide)) dX9_order_36 ?_
      refine pp_ti (y := nf 1) rfl ?_
      refine lv_topi (fun n_4 en_4 => ?_)
      have tn_4 : n_4.toInt = (nf 1).toInt ∧ 0 ≤ n_4.toInt ∧ n_4.toInt ≤ 7 := mI_r1 hI en_4
      clear en_4
      have rc_5_x := pp_rng a
      have rc_5_y := pp_rng n_4
      refine lv_icmp_lt (tgt := 47) hx hb dX9_order_37 (by decide) (fun c_5 => ?_) (fun c_5 => ?_)
      · skip
        have tc_5 : a.toInt < n_4.toInt := (fa_lt _ _).mp c_5
        refine lv_aload_n hx hb dX9_order_47 rfl (lv_at hl 0 rfl) ?_
        refine lv_iconst (v := (-1)) hx hb dX9_order_48 (by decide) ?_
        refine va_put (D := (dC, dI)) (ci := 7) (v := .int (-1)) (ty := .int) (C := RX9) (T := TX9) (N := 28) hx hb hts inX9 tyX9 tyX9_ok nmX9 hown hK hP hD hS 0 rfl rfl 9 (by decide) (hts _ (List.mem_of_getElem? (i := 2) rfl)) (fun _ h9 => h9) rfl (by decide +kernel) rfl rfl (Nat.le_of_ble_eq_true rfl) dX9_order_49 (fun H locs hP hD hS => ?_)
        have hP : va_P (dC, dI) vwCl [(h0, .inr (7, [.ref a0, v1, .ref p0, v3, v4, .ref t0, v6, .ref w0, .ref x0, .int (-1), v10, v11, v12, v13, v14, v15, v16, v17, v18, v19, v20, v21, v22, v23, v24, v25, v26, v27])), (t0, .inl (tc, 8, .inl tf)), (a0, .inl (ac, 38, .inl nf)), (p0, .inl (pc, 7, .inr (.inl pf))), (w0, .inl (wc, 7, .inl wf)), (x0, .inl (xc, 7, .inl xf))] H := hP
        have hD : va_D A [(h0, .inr (7, [.ref a0, v1, .ref p0, v3, v4, .ref t0, v6, .ref w0, .ref x0, .int (-1), v10, v11, v12, v13, v14, v15, v16, v17, v18, v19, v20, v21, v22, v23, v24, v25, v26, v27])), (t0, .inl (tc, 8, .inl tf)), (a0, .inl (ac, 38, .inl nf)), (p0, .inl (pc, 7, .inr (.inl pf))), (w0, .inl (wc, 7, .inl wf)), (x0, .inl (xc, 7, .inl xf))] := hD
        refine lv_aload_n hx hb dX9_order_52 rfl (lv_at hl 0 rfl) ?_
        refine lv_iconst (v := 0) hx hb dX9_order_53 (by decide) ?_
        refine lv_iconst (v := 0) hx hb dX9_order_54 (by decide) ?_
        refine lv_iconst (v := 0) hx hb dX9_order_55 (by decide) ?_
        have hPc := hP.sub (ws' := [(h0, .inr (7, [.ref a0, v1, .ref p0, v3, v4, .ref t0, v6, .ref w0, .ref x0, .int (-1), v10, v11, v12, v13, v14, v15, v16, v17, v18, v19, v20, v21, v22, v23, v24, v25, v26, v27])), (a0, .inl (ac, 38, .inl nf)), (p0, .inl (pc, 7, .inr (.inl pf))), (w0, .inl (wc, 7, .inl wf)), (x0, .inl (xc, 7, .inl xf))]) [0, 2, 3, 4, 5] rfl
        have hKc := hK.sub (tys' := [(ac, .int), (pc, .long), (wc, .int), (xc, .int)]) [1, 2, 3, 4] rfl
        have hDc := hD.sub (ws' := [(h0, .inr (7, [.ref a0, v1, .ref p0, v3, v4, .ref t0, v6, .ref w0, .ref x0, .int (-1), v10, v11, v12, v13, v14, v15, v16, v17, v18, v19, v20, v21, v22, v23, v24, v25, v26, v27])), (a0, .inl (ac, 38, .inl nf)), (p0, .inl (pc, 7, .inr (.inl pf))), (w0, .inl (wc, 7, .inl wf)), (x0, .inl (xc, 7, .inl xf))]) [0, 2, 3, 4, 5] (by decide) rfl
        have hFc := va_free (wc := [(h0, .inr (7, [.ref a0, v1, .ref p0, v3, v4, .ref t0, v6, .ref w0, .ref x0, .int (-1), v10, v11, v12, v13, v14, v15, v16, v17, v18, v19, v20, v21, v22, v23, v24, v25, v26, v27])), (a0, .inl (ac, 38, .inl nf)), (p0, .inl (pc, 7, .inr (.inl pf))), (w0, .inl (wc, 7, .inl wf)), (x0, .inl (xc, 7, .inl xf))]) hD hS hA [0, 2, 3, 4, 5] rfl
        refine va_callv (va_runV (As := [.int 0, .int 0, .int 0]) (rest := []) ⟨hx, hb, hml, hown, hts⟩ (m_goOn_0 l dC dI ad h0 0 0 a0 v1 p0 v3 v4 (.ref t0) v6 w0 x0 (-1) v10 v11 v12 v13 v14 v15 v16 v17 v18 v19 v20 v21 v22 v23 v24 v25 v26 v27 ac nf pc pf wc wf xc xf H.size hI (by first | omega | decide | (simp only [fa_lt, fa_le, fa_eq, and_true, true_and, and_false, false_and, not_true_eq_false, not_false_eq_true, li_0, li_1, li_2, li_3, li_4, li_5, li_6, li_7, li_8, li_9, li_10, li_12, li_15, li_16, li_20, li_30, li_34, li_38, li_40, li_63, li_64, li_65, li_78, li_120, li_1000, li_4000, li_10000, li_11077, li_255, li_65535, li_m1, li_m2, li_m1000000001, li_m1000000002, li_m1000000003, li_m1000000004, li_m1000000005, li_m1000000006, li_m1000000007, or_true, true_or, or_false, false_or, implies_true, true_implies, false_implies] <;> omega))) (cwV 3 hts g_m_order_m_goOn_0_183 rfl rfl rfl (by decide +kernel) ⟨(Nat.le_of_ble_eq_true rfl), (Nat.le_of_ble_eq_true rfl)⟩) ⟨preM_blind, va_recv hKc hPc (ci := 7) (q0 := 0) rfl rfl, fun U hU hW => ⟨rfl, preM_at hU hW hPc hKc hDc hev⟩⟩ rfl rfl hl.1 rfl (lv_room (Nat.le_of_ble_eq_true rfl)) dX9_order_56 ⟨(Nat.le_of_ble_eq_true rfl), (Nat.le_of_ble_eq_true rfl)⟩) hS (fun q _ h => hFc q h) hFc (fun u t H1 locs ht hvm hw hB hz1 hk1 hS => ?_)
        obtain ⟨lc_7, wg_8, xg_9, hP1, hK1, hD1⟩ := hB
        rw [ht] at hP1
        have hK1 := va_K.moved hvm.symm hK1
        obtain ⟨hP, hD⟩ := va_join (wr := [(t0, .inl (tc, 8, .inl tf))]) (w1 := [(h0, .inr (7, [.ref a0, v1, .ref p0, v3, v4, .ref t0, v6, .ref w0, .ref x0, .int lc_7, v10, v11, v12, v13, v14, v15, v16, v17, v18, v19, v20, v21, v22, v23, v24, v25, v26, v27])), (a0, .inl (ac, 38, .inl nf)), (p0, .inl (pc, 7, .inr (.inl pf))), (w0, .inl (wc, 7, .inl wg_8)), (x0, .inl (xc, 7, .inl xg_9))]) hP hD [0, 2, 3, 4, 5] [1] rfl rfl (by decide) (by decide) hk1 hFc hP1 hD1
        generalize H1 = H at hP hS ⊢
        have hP : va_P (dC, dI) vwCl [(t0, .inl (tc, 8, .inl tf)), (h0, .inr (7, [.ref a0, v1, .ref p0, v3, v4, .ref t0, v6, .ref w0, .ref x0, .int lc_7, v10, v11, v12, v13, v14, v15, v16, v17, v18, v19, v20, v21, v22, v23, v24, v25, v26, v27])), (a0, .inl (ac, 38, .inl nf)), (p0, .inl (pc, 7, .inr (.inl pf))), (w0, .inl (wc, 7, .inl wg_8)), (x0, .inl (xc, 7, .inl xg_9))] H := hP
        have hD : va_D A [(t0, .inl (tc, 8, .inl tf)), (h0, .inr (7, [.ref a0, v1, .ref p0, v3, v4, .ref t0, v6, .ref w0, .ref x0, .int lc_7, v10, v11, v12, v13, v14, v15, v16, v17, v18, v19, v20, v21, v22, v23, v24, v25, v26, v27])), (a0, .inl (ac, 38, .inl nf)), (p0, .inl (pc, 7, .inr (.inl pf))), (w0, .inl (wc, 7, .inl wg_8)), (x0, .inl (xc, 7, .inl xg_9))] := hD
        refine lv_iload_n hx hb dX9_order_59 rfl (lv_at hl 1 rfl) ?_
        refine lv_if_ge (tgt := 70) hx hb dX9_order_60 (by decide) (fun c_10 => ?_) (fun c_10 => ?_)
        · skip
          have tc_10 : 0 ≤ a.toInt := (fa_le _ _).mp c_10
          refine lv_aload_n hx hb dX9_order_70 rfl (lv_at hl 0 rfl) ?_
          refine va_get (D := (dC, dI)) (ci := 7) (v := .ref x0) (C := RX9) (T := TX9) (N := 28) hx hb hts inX9 hown hK hP 1 rfl rfl 8 (by decide) (hts _ (List.mem_of_getElem? (i := 17) rfl)) (fun _ h9 => h9) rfl dX9_order_71 ?_
          refine lv_iload_n hx hb dX9_order_74 rfl (lv_at hl 1 rfl) ?_
          refine va_iald hx hb hK hP 5 4 rfl rfl (vp_in_iff.mpr ⟨by omega, by omega⟩) dX9_order_75 ?_
          refine lv_topi (fun n_11 en_11 => ?_)
          clear en_11
          have hP9 := hP.sub (ws' := [(h0, .inr (7, [.ref a0, v1, .ref p0, v3, v4, .ref t0, v6, .ref w0, .ref x0, .int lc_7, v10, v11, v12, v13, v14, v15, v16, v17, v18, v19, v20, v21, v22, v23, v24, v25, v26, v27])), (t0, .inl (tc, 8, .inl tf)), (a0, .inl (ac, 38, .inl nf)), (p0, .inl (pc, 7, .inr (.inl pf))), (w0, .inl (wc, 7, .inl wg_8)), (x0, .inl (xc, 7, .inl xg_9))]) [1, 0, 2, 3, 4, 5] rfl
          have hD9 := hD.sub (ws' := [(h0, .inr (7, [.ref a0, v1, .ref p0, v3, v4, .ref t0, v6, .ref w0, .ref x0, .int lc_7, v10, v11, v12, v13, v14, v15, v16, v17, v18, v19, v20, v21, v22, v23, v24, v25, v26, v27])), (t0, .inl (tc, 8, .inl tf)), (a0, .inl (ac, 38, .inl nf)), (p0, .inl (pc, 7, .inr (.inl pf))), (w0, .inl (wc, 7, .inl wg_8)), (x0, .inl (xc, 7, .inl xg_9))]) [1, 0, 2, 3, 4, 5] (by decide) rfl
          have hK9 := hK.sub (tys' := [(tc, .int), (ac, .int), (pc, .long), (wc, .int), (xc, .int)]) [0, 1, 2, 3, 4] rfl
          exact W.iret (v := n_11) hx hb hr (fun t ht hW => ⟨⟨n_11, (), rfl, trivial, tf, lc_7, wg_8, xg_9, by rw [ht]; exact hP9, va_K.moved hW.alike hK9, hD9⟩, hS.F ht⟩) hS.2.2 dX9_order_76
        · skip
          have tc_10 : ¬ 0 ≤ a.toInt := fun h => c_10 ((fa_le _ _).mpr h)
          refine lv_aload_n hx hb dX9_order_63 rfl (lv_at hl 0 rfl) ?_
          refine va_get (D := (dC, dI)) (ci := 7) (v := .int lc_7) (C := RX9) (T := TX9) (N := 28) hx hb hts inX9 hown hK hP 1 rfl rfl 9 (by decide) (hts _ (List.mem_of_getElem? (i := 2) rfl)) (fun _ h9 => h9) rfl dX9_order_64 ?_
          refine lv_goto (tgt := 76) hx hb dX9_order_67 (by decide) ?_
          have hP9 := hP.sub (ws' := [(h0, .inr (7, [.ref a0, v1, .ref p0, v3, v4, .ref t0, v6, .ref w0, .ref x0, .int lc_7, v10, v11, v12, v13, v14, v15, v16, v17, v18, v19, v20, v21, v22, v23, v24, v25, v26, v27])), (t0, .inl (tc, 8, .inl tf)), (a0, .inl (ac, 38, .inl nf)), (p0, .inl (pc, 7, .inr (.inl pf))), (w0, .inl (wc, 7, .inl wg_8)), (x0, .inl (xc, 7, .inl xg_9))]) [1, 0, 2, 3, 4, 5] rfl
          have hD9 := hD.sub (ws' := [(h0, .inr (7, [.ref a0, v1, .ref p0, v3, v4, .ref t0, v6, .ref w0, .ref x0, .int lc_7, v10, v11, v12, v13, v14, v15, v16, v17, v18, v19, v20, v21, v22, v23, v24, v25, v26, v27])), (t0, .inl (tc, 8, .inl tf)), (a0, .inl (ac, 38, .inl nf)), (p0, .inl (pc, 7, .inr (.inl pf))), (w0, .inl (wc, 7, .inl wg_8)), (x0, .inl (xc, 7, .inl xg_9))]) [1, 0, 2, 3, 4, 5] (by decide) rfl
          have hK9 := hK.sub (tys' := [(tc, .int), (ac, .int), (pc, .long), (wc, .int), (xc, .int)]) [0, 1, 2, 3, 4] rfl
          exact W.iret (v := lc_7) hx hb hr (fun t ht hW => ⟨⟨lc_7, (), rfl, trivial, tf, lc_7, wg_8, xg_9, by rw [ht]; exact hP9, va_K.moved hW.alike hK9, hD9⟩, hS.F ht⟩) hS.2.2 dX9_order_76
      · skip
        have tc_5 : ¬ a.toInt < n_4.toInt := fun h => c_5 ((fa_lt _ _).mpr h)
        refine lv_aload_n hx hb dX9_order_40 rfl (lv_at hl 0 rfl) ?_
        refine lv_ldc hx hb hown (hts _ (List.mem_of_getElem? (i := 18) rfl)) dX9_order_41 ?_
        have hPc := hP.sub (ws' := [(h0, .inr (7, [.ref a0, v1, .ref p0, v3, v4, .ref t0, v6, .ref w0, .ref x0, .int lc, v10, v11, v12, v13, v14, v15, v16, v17, v18, v19, v20, v21, v22, v23, v24, v25, v26, v27])), (t0, .inl (tc, 8, .inl tf))]) [0, 1] rfl
        have hKc := hK.sub (tys' := [(tc, .int)]) [0] rfl
        have hDc := hD.sub (ws' := [(h0, .inr (7, [.ref a0, v1, .ref p0, v3, v4, .ref t0, v6, .ref w0, .ref x0, .int lc, v10, v11, v12, v13, v14, v15, v16, v17, v18, v19, v20, v21, v22, v23, v24, v25, v26, v27])), (t0, .inl (tc, 8, .inl tf))]) [0, 1] (by decide) rfl
        have hFc := va_free (wc := [(h0, .inr (7, [.ref a0, v1, .ref p0, v3, v4, .ref t0, v6, .ref w0, .ref x0, .int lc, v10, v11, v12, v13, v14, v15, v16, v17, v18, v19, v20, v21, v22, v23, v24, v25, v26, v27])), (t0, .inl (tc, 8, .inl tf))]) hD hS hA [0, 1] rfl
        refine va_calli (va_runV (As := [.int (-1000000004)]) (rest := []) ⟨hx, hb, hml, hown, hts⟩ (mf_none l dC dI ad h0 (.ref a0) v1 (.ref p0) v3 v4 t0 v6 (.ref w0) (.ref x0) (.int lc) v10 v11 v12 v13 v14 v15 v16 v17 v18 v19 v20 v21 v22 v23 v24 v25 v26 v27 tc tf s.heap.size ) (cwV 1 hts g_m_order_mf_none_84 rfl rfl rfl (by decide +kernel) ⟨(Nat.le_of_ble_eq_true rfl), (Nat.le_of_ble_eq_true rfl)⟩) ⟨preM_blind, va_recv hKc hPc (ci := 7) (q0 := 0) rfl rfl, fun U hU hW => ⟨rfl, preM_at hU hW hPc hKc hDc hev⟩⟩ rfl rfl hl.1 rfl (lv_room (Nat.le_of_ble_eq_true rfl)) dX9_order_43 ⟨(Nat.le_of_ble_eq_true rfl), (Nat.le_of_ble_eq_true rfl)⟩) hS (fun q _ h => hFc q h) hFc (fun r_12 u t H1 locs ht hvm hw hB hz1 hk1 hS => ?_)
        obtain ⟨tg_13, hP1, hK1, hD1⟩ := hB
        rw [ht] at hP1
        have hK1 := va_K.moved hvm.symm hK1
        obtain ⟨hP, hD⟩ := va_join (wr := [(a0, .inl (ac, 38, .inl nf)), (p0, .inl (pc, 7, .inr (.inl pf))), (w0, .inl (wc, 7, .inl wf)), (x0, .inl (xc, 7, .inl xf))]) (w1 := [(h0, .inr (7, [.ref a0, v1, .ref p0, v3, v4, .ref t0, v6, .ref w0, .ref x0, .int lc, v10, v11, v12, v13, v14, v15, v16, v17, v18, v19, v20, v21, v22, v23, v24, v25, v26, v27])), (t0, .inl (tc, 8, .inl tg_13))]) hP hD [0, 1] [2, 3, 4, 5] rfl rfl (by decide) (by decide) hk1 hFc hP1 hD1
        generalize H1 = H at hP hS ⊢
        have hP : va_P (dC, dI) vwCl [(a0, .inl (ac, 38, .inl nf)), (p0, .inl (pc, 7, .inr (.inl pf))), (w0, .inl (wc, 7, .inl wf)), (x0, .inl (xc, 7, .inl xf)), (h0, .inr (7, [.ref a0, v1, .ref p0, v3, v4, .ref t0, v6, .ref w0, .ref x0, .int lc, v10, v11, v12, v13, v14, v15, v16, v17, v18, v19, v20, v21, v22, v23, v24, v25, v26, v27])), (t0, .inl (tc, 8, .inl tg_13))] H := hP
        have hD : va_D A [(a0, .inl (ac, 38, .inl nf)), (p0, .inl (pc, 7, .inr (.inl pf))), (w0, .inl (wc, 7, .inl wf)), (x0, .inl (xc, 7, .inl xf)), (h0, .inr (7, [.ref a0, v1, .ref p0, v3, v4, .ref t0, v6, .ref w0, .ref x0, .int lc, v10, v11, v12, v13, v14, v15, v16, v17, v18, v19, v20, v21, v22, v23, v24, v25, v26, v27])), (t0, .inl (tc, 8, .inl tg_13))] := hD
        subst hw
        have hP9 := hP.sub (ws' := [(h0, .inr (7, [.ref a0, v1, .ref p0, v3, v4, .ref t0, v6, .ref w0, .ref x0, .int lc, v10, v11, v12, v13, v14, v15, v16, v17, v18, v19, v20, v21, v22, v23, v24, v25, v26, v27])), (t0, .inl (tc, 8, .inl tg_13)), (a0, .inl (ac, 38, .inl nf)), (p0, .inl (pc, 7, .inr (.inl pf))), (w0, .inl (wc, 7, .inl wf)), (x0, .inl (xc, 7, .inl xf))]) [4, 5, 0, 1, 2, 3] rfl
        have hD9 := hD.sub (ws' := [(h0, .inr (7, [.ref a0, v1, .ref p0, v3, v4, .ref t0, v6, .ref w0, .ref x0, .int lc, v10, v11, v12, v13, v14, v15, v16, v17, v18, v19, v20, v21, v22, v23, v24, v25, v26, v27])), (t0, .inl (tc, 8, .inl tg_13)), (a0, .inl (ac, 38, .inl nf)), (p0, .inl (pc, 7, .inr (.inl pf))), (w0, .inl (wc, 7, .inl wf)), (x0, .inl (xc, 7, .inl xf))]) [4, 5, 0, 1, 2, 3] (by decide) rfl
        have hK9 := hK.sub (tys' := [(tc, .int), (ac, .int), (pc, .long), (wc, .int), (xc, .int)]) [0, 1, 2, 3, 4] rfl
        exact W.iret (v := ((-1000000004) : Int32)) hx hb hr (fun t ht hW => ⟨⟨((-1000000004) : Int32), (), rfl, trivial, tg_13, lc, wf, xf, by rw [ht]; exact hP9, va_K.moved hW.alike hK9, hD9⟩, hS.F ht⟩) hS.2.2 dX9_order_46
    · skip
      have tc_3 : ¬ n_2.toInt ≤ 6 := fun h => c_3 ((fa_le _ _).mpr h)
      refine lv_aload_n hx hb dX9_order_23 rfl (lv_at hl 0 rfl) ?_
      refine lv_ldc hx hb hown (hts _ (List.mem_of_getElem? (i := 25) rfl)) dX9_order_24 ?_
      have hPc := hP.sub (ws' := [(h0, .inr (7, [.ref a0, v1, .ref p0, v3, v4, .ref t0, v6, .ref w0, .ref x0, .int lc, v10, v11, v12, v13, v14, v15, v16, v17, v18, v19, v20, v21, v22, v23, v24, v25, v26, v27])), (t0, .inl (tc, 8, .inl tf))]) [0, 1] rfl
      have hKc := hK.sub (tys' := [(tc, .int)]) [0] rfl
      have hDc := hD.sub (ws' := [(h0, .inr (7, [.ref a0, v1, .ref p0, v3, v4, .ref t0, v6, .ref w0, .ref x0, .int lc, v10, v11, v12, v13, v14, v15, v16, v17, v18, v19, v20, v21, v22, v23, v24, v25, v26, v27])), (t0, .inl (tc, 8, .inl tf))]) [0, 1] (by decide) rfl
      have hFc := va_free (wc := [(h0, .inr (7, [.ref a0, v1, .ref p0, v3, v4, .ref t0, v6, .ref w0, .ref x0, .int lc, v10, v11, v12, v13, v14, v15, v16, v17, v18, v19, v20, v21, v22, v23, v24, v25, v26, v27])), (t0, .inl (tc, 8, .inl tf))]) hD hS hA [0, 1] rfl
      refine va_calli (va_runV (As := [.int (-1000000007)]) (rest := []) ⟨hx, hb, hml, hown, hts⟩ (mf_size l dC dI ad h0 (.ref a0) v1 (.ref p0) v3 v4 t0 v6 (.ref w0) (.ref x0) (.int lc) v10 v11 v12 v13 v14 v15 v16 v17 v18 v19 v20 v21 v22 v23 v24 v25 v26 v27 tc tf s.heap.size ) (cwV 1 hts g_m_order_mf_size_84 rfl rfl rfl (by decide +kernel) ⟨(Nat.le_of_ble_eq_true rfl), (Nat.le_of_ble_eq_true rfl)⟩) ⟨preM_blind, va_recv hKc hPc (ci := 7) (q0 := 0) rfl rfl, fun U hU hW => ⟨rfl, preM_at hU hW hPc hKc hDc hev⟩⟩ rfl rfl hl.1 rfl (lv_room (Nat.le_of_ble_eq_true rfl)) dX9_order_26 ⟨(Nat.le_of_ble_eq_true rfl), (Nat.le_of_ble_eq_true rfl)⟩) hS (fun q _ h => hFc q h) hFc (fun r_14 u t H1 locs ht hvm hw hB hz1 hk1 hS => ?_)
      obtain ⟨tg_15, hP1, hK1, hD1⟩ := hB
      rw [ht] at hP1
      have hK1 := va_K.moved hvm.symm hK1
      obtain ⟨hP, hD⟩ := va_join (wr := [(a0, .inl (ac, 38, .inl nf)), (p0, .inl (pc, 7, .inr (.inl pf))), (w0, .inl (wc, 7, .inl wf)), (x0, .inl (xc, 7, .inl xf))]) (w1 := [(h0, .inr (7, [.ref a0, v1, .ref p0, v3, v4, .ref t0, v6, .ref w0, .ref x0, .int lc, v10, v11, v12, v13, v14, v15, v16, v17, v18, v19, v20, v21, v22, v23, v24, v25, v26, v27])), (t0, .inl (tc, 8, .inl tg_15))]) hP hD [0, 1] [2, 3, 4, 5] rfl rfl (by decide) (by decide) hk1 hFc hP1 hD1
      generalize H1 = H at hP hS ⊢
      have hP : va_P (dC, dI) vwCl [(a0, .inl (ac, 38, .inl nf)), (p0, .inl (pc, 7, .inr (.inl pf))), (w0, .inl (wc, 7, .inl wf)), (x0, .inl (xc, 7, .inl xf)), (h0, .inr (7, [.ref a0, v1, .ref p0, v3, v4, .ref t0, v6, .ref w0, .ref x0, .int lc, v10, v11, v12, v13, v14, v15, v16, v17, v18, v19, v20, v21, v22, v23, v24, v25, v26, v27])), (t0, .inl (tc, 8, .inl tg_15))] H := hP
      have hD : va_D A [(a0, .inl (ac, 38, .inl nf)), (p0, .inl (pc, 7, .inr (.inl pf))), (w0, .inl (wc, 7, .inl wf)), (x0, .inl (xc, 7, .inl xf)), (h0, .inr (7, [.ref a0, v1, .ref p0, v3, v4, .ref t0, v6, .ref w0, .ref x0, .int lc, v10, v11, v12, v13, v14, v15, v16, v17, v18, v19, v20, v21, v22, v23, v24, v25, v26, v27])), (t0, .inl (tc, 8, .inl tg_15))] := hD
      subst hw
      have hP9 := hP.sub (ws' := [(h0, .inr (7, [.ref a0, v1, .ref p0, v3, v4, .ref t0, v6, .ref w0, .ref x0, .int lc, v10, v11, v12, v13, v14, v15, v16, v17, v18, v19, v20, v21, v22, v23, v24, v25, v26, v27])), (t0, .inl (tc, 8, .inl tg_15)), (a0, .inl (ac, 38, .inl nf)), (p0, .inl (pc, 7, .inr (.inl pf))), (w0, .inl (wc, 7, .inl wf)), (x0, .inl (xc, 7, .inl xf))]) [4, 5, 0, 1, 2, 3] rfl
      have hD9 := hD.sub (ws' := [(h0, .inr (7, [.ref a0, v1, .ref p0, v3, v4, .ref t0, v6, .ref w0, .ref x0, .int lc, v10, v11, v12, v13, v14, v15, v16, v17, v18, v19, v20, v21, v22, v23, v24, v25, v26, v27])), (t0, .inl (tc, 8, .inl tg_15)), (a0, .inl (ac, 38, .inl nf)), (p0, .inl (pc, 7, .inr (.inl pf))), (w0, .inl (wc, 7, .inl wf)), (x0, .inl (xc, 7, .inl xf))]) [4, 5, 0, 1, 2, 3] (by decide) rfl
      have hK9 := hK.sub (tys' := [(tc, .int), (ac, .int), (pc, .long), (wc, .int), (xc, .int)]) [0, 1, 2, 3, 4] rfl
      exact W.iret (v := ((-1000000007) : Int32)) hx hb hr (fun t ht hW => ⟨⟨((-1000000007) : Int32), (), rfl, trivial, tg_15, lc, wf, xf, by rw [ht]; exact hP9, va_K.moved hW.alike hK9, hD9⟩, hS.F ht⟩) hS.2.2 dX9_order_29
  · skip
    have tc_1 : ¬ (-1) ≤ a.toInt := fun h => c_1 ((fa_le _ _).mpr h)
    refine lv_aload_n hx hb dX9_order_5 rfl (lv_at hl 0 rfl) ?_
    refine lv_ldc hx hb hown (hts _ (List.mem_of_getElem? (i := 24) rfl)) dX9_order_6 ?_
    have hPc := hP.sub (ws' := [(h0, .inr (7, [.ref a0, v1, .ref p0, v3, v4, .ref t0, v6, .ref w0, .ref x0, .int lc, v10, v11, v12, v13, v14, v15, v16, v17, v18, v19, v20, v21, v22, v23, v24, v25, v26, v27])), (t0, .inl (tc, 8, .inl tf))]) [0, 1] rfl
    have hKc := hK.sub (tys' := [(tc, .int)]) [0] rfl
    have hDc := hD.sub (ws' := [(h0, .inr (7, [.ref a0, v1, .ref p0, v3, v4, .ref t0, v6, .ref w0, .ref x0, .int lc, v10, v11, v12, v13, v14, v15, v16, v17, v18, v19, v20, v21, v22, v23, v24, v25, v26, v27])), (t0, .inl (tc, 8, .inl tf))]) [0, 1] (by decide) rfl
    have hFc := va_free (wc := [(h0, .inr (7, [.ref a0, v1, .ref p0, v3, v4, .ref t0, v6, .ref w0, .ref x0, .int lc, v10, v11, v12, v13, v14, v15, v16, v17, v18, v19, v20, v21, v22, v23, v24, v25, v26, v27])), (t0, .inl (tc, 8, .inl tf))]) hD hS hA [0, 1] rfl
    refine va_calli (va_runV (As := [.int (-1000000001)]) (rest := []) ⟨hx, hb, hml, hown, hts⟩ (mf_beyond l dC dI ad h0 (.ref a0) v1 (.ref p0) v3 v4 t0 v6 (.ref w0) (.ref x0) (.int lc) v10 v11 v12 v13 v14 v15 v16 v17 v18 v19 v20 v21 v22 v23 v24 v25 v26 v27 tc tf s.heap.size ) (cwV 1 hts g_m_order_mf_beyond_84 rfl rfl rfl (by decide +kernel) ⟨(Nat.le_of_ble_eq_true rfl), (Nat.le_of_ble_eq_true rfl)⟩) ⟨preM_blind, va_recv hKc hPc (ci := 7) (q0 := 0) rfl rfl, fun U hU hW => ⟨rfl, preM_at hU hW hPc hKc hDc hev⟩⟩ rfl rfl hl.1 rfl (lv_room (Nat.le_of_ble_eq_true rfl)) dX9_order_8 ⟨(Nat.le_of_ble_eq_true rfl), (Nat.le_of_ble_eq_true rfl)⟩) hS (fun q _ h => hFc q h) hFc (fun r_16 u t H1 locs ht hvm hw hB hz1 hk1 hS => ?_)
    obtain ⟨tg_17, hP1, hK1, hD1⟩ := hB
    rw [ht] at hP1
    have hK1 := va_K.moved hvm.symm hK1
    obtain ⟨hP, hD⟩ := va_join (wr := [(a0, .inl (ac, 38, .inl nf)), (p0, .inl (pc, 7, .inr (.inl pf))), (w0, .inl (wc, 7, .inl wf)), (x0, .inl (xc, 7, .inl xf))]) (w1 := [(h0, .inr (7, [.ref a0, v1, .ref p0, v3, v4, .ref t0, v6, .ref w0, .ref x0, .int lc, v10, v11, v12, v13, v14, v15, v16, v17, v18, v19, v20, v21, v22, v23, v24, v25, v26, v27])), (t0, .inl (tc, 8, .inl tg_17))]) hP hD [0, 1] [2, 3, 4, 5] rfl rfl (by decide) (by decide) hk1 hFc hP1 hD1
    generalize H1 = H at hP hS ⊢
    have hP : va_P (dC, dI) vwCl [(a0, .inl (ac, 38, .inl nf)), (p0, .inl (pc, 7, .inr (.inl pf))), (w0, .inl (wc, 7, .inl wf)), (x0, .inl (xc, 7, .inl xf)), (h0, .inr (7, [.ref a0, v1, .ref p0, v3, v4, .ref t0, v6, .ref w0, .ref x0, .int lc, v10, v11, v12, v13, v14, v15, v16, v17, v18, v19, v20, v21, v22, v23, v24, v25, v26, v27])), (t0, .inl (tc, 8, .inl tg_17))] H := hP
    have hD : va_D A [(a0, .inl (ac, 38, .inl nf)), (p0, .inl (pc, 7, .inr (.inl pf))), (w0, .inl (wc, 7, .inl wf)), (x0, .inl (xc, 7, .inl xf)), (h0, .inr (7, [.ref a0, v1, .ref p0, v3, v4, .ref t0, v6, .ref w0, .ref x0, .int lc, v10, v11, v12, v13, v14, v15, v16, v17, v18, v19, v20, v21, v22, v23, v24, v25, v26, v27])), (t0, .inl (tc, 8, .inl tg_17))] := hD
    subst hw
    have hP9 := hP.sub (ws' := [(h0, .inr (7, [.ref a0, v1, .ref p0, v3, v4, .ref t0, v6, .ref w0, .ref x0, .int lc, v10, v11, v12, v13, v14, v15, v16, v17, v18, v19, v20, v21, v22, v23, v24, v25, v26, v27])), (t0, .inl (tc, 8, .inl tg_17)), (a0, .inl (ac, 38, .inl nf)), (p0, .inl (pc, 7, .inr (.inl pf))), (w0, .inl (wc, 7, .inl wf)), (x0, .inl (xc, 7, .inl xf))]) [4, 5, 0, 1, 2, 3] rfl
    have hD9 := hD.sub (ws' := [(h0, .inr (7, [.ref a0, v1, .ref p0, v3, v4, .ref t0, v6, .ref w0, .ref x0, .int lc, v10, v11, v12, v13, v14, v15, v16, v17, v18, v19, v20, v21, v22, v23, v24, v25, v26, v27])), (t0, .inl (tc, 8, .inl tg_17)), (a0, .inl (ac, 38, .inl nf)), (p0, .inl (pc, 7, .inr (.inl pf))), (w0, .inl (wc, 7, .inl wf)), (x0, .inl (xc, 7, .inl xf))]) [4, 5, 0, 1, 2, 3] (by decide) rfl
    have hK9 := hK.sub (tys' := [(tc, .int), (ac, .int), (pc, .long), (wc, .int), (xc, .int)]) [0, 1, 2, 3, 4] rfl
    exact W.iret (v := ((-1000000001) : Int32)) hx hb hr (fun t ht hW => ⟨⟨((-1000000001) : Int32), (), rfl, trivial, tg_17, lc, wf, xf, by rw [ht]; exact hP9, va_K.moved hW.alike hK9, hD9⟩, hS.F ht⟩) hS.2.2 dX9_order_11

