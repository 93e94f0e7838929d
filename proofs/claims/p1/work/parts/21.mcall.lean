def w_y_of : List Cond := .code yX9_of cX9_of 3 (some .int) :: (([.methodLink RX9 93 yX9_isShape, .instanceMethod yX9_isShape, .selects RX9 yX9_isShape yX9_isShape, .initialized RX9, .code yX9_isShape cX9_isShape 2 (some .boolean), .fieldLink RX9 9 "LampShapesModel" "now" "[I", .methodLink RX9 75 yX9_within, .static yX9_within, .code yX9_within cX9_within 3 (some .boolean), .constant RX9 74 (-1000000001), .methodLink RX9 84 yX9_finding, .instanceMethod yX9_finding, .selects RX9 yX9_finding yX9_finding, .code yX9_finding cX9_finding 2 (some .int), .fieldLink RX9 23 "LampShapesModel" "found" "[I"] : List Cond) ++ wsX90)
set_option maxRecDepth 20000 in
theorem g_y_of_m_isShape_93 : GoodIn w_y_of (wsV RX9 93 RX9 yX9_isShape w_m_isShape) := goodIn_r _ [1, 2, 3, 4, 5, 6, 7, 8, 4, 9, 16, 17, 18, 19, 20, 21, 22, 23, 24, 25, 26, 27, 28, 29, 30, 31, 32, 33, 34, 35, 36, 37, 38, 39, 40, 41, 42, 43] rfl (by decide +kernel)
set_option maxRecDepth 20000 in
theorem g_y_of_m_find_beyond_84 : GoodIn w_y_of (wsV RX9 84 RX9 yX9_finding w_m_find_beyond) := goodIn_r _ [11, 12, 13, 4, 14, 15, 10, 16, 17, 18, 19, 20, 21, 22, 23, 24, 25, 26, 27, 28, 29, 30, 31, 32, 33, 34, 35, 36, 37, 38, 39, 40, 41, 42, 43] rfl (by decide +kernel)
set_option maxHeartbeats 4000000 in
set_option maxRecDepth 100000 in
theorem y_of (l : Launch) (dC : Nat → ClassId) (dI : Nat → Nat → Nat) (ad : Nat → Nat) (h0 : Nat) (a : Int32) (b : Int32) (m0 : Nat) (v1 : Value) (v2 : Value) (v3 : Value) (v4 : Value) (m1 : Nat) (v6 : Value) (v7 : Value) (v8 : Value) (v9 : Value) (v10 : Value) (v11 : Value) (v12 : Value) (v13 : Value) (v14 : Value) (v15 : Value) (v16 : Value) (v17 : Value) (v18 : Value) (v19 : Value) (v20 : Value) (v21 : Value) (v22 : Value) (v23 : Value) (v24 : Value) (v25 : Value) (v26 : Value) (v27 : Value) (mc0 : ClassId) (nf : Nat → Int32) (mc1 : ClassId) (ff : Nat → Int32) (sz : Nat) (hnf : ∀ j, j < 38 → nf j = fr_n j) : Met l yX9_of w_y_of ({ frames := 2, cells := 0, slots := 0, locals := 43 } : Room) (va_Pc [.ref h0, .int a, .int b] (preM dC dI ad [(mc0, .int), (mc1, .int)] [(h0, .inr (7, [.ref m0, v1, v2, v3, v4, .ref m1, v6, v7, v8, v9, v10, v11, v12, v13, v14, v15, v16, v17, v18, v19, v20, v21, v22, v23, v24, v25, v26, v27])), (m0, .inl (mc0, 38, .inl nf)), (m1, .inl (mc1, 8, .inl ff))] sz)) (va_Qi (fun (r : Int32) (_ : Unit) => (r = (-1000000001))) (fun _ _ => True) (va_A [(h0, .inr (7, [.ref m0, v1, v2, v3, v4, .ref m1, v6, v7, v8, v9, v10, v11, v12, v13, v14, v15, v16, v17, v18, v19, v20, v21, v22, v23, v24, v25, v26, v27])), (m0, .inl (mc0, 38, .inl nf)), (m1, .inl (mc1, 8, .inl ff))] sz)) 0 0 (va_A [(h0, .inr (7, [.ref m0, v1, v2, v3, v4, .ref m1, v6, v7, v8, v9, v10, v11, v12, v13, v14, v15, v16, v17, v18, v19, v20, v21, v22, v23, v24, v25, v26, v27])), (m0, .inl (mc0, 38, .inl nf)), (m1, .inl (mc1, 8, .inl ff))] sz) := by
  refine Met.ofW (cc := cX9_of) (maxL := 3) (ret := (some .int)) (by decide) rfl ?_
  intro p e s m args below meth c s₁ B hml hv
  obtain ⟨rfl, hsz, hP, hK, hD0, hev⟩ := hv
  have hx := B.exec
  have hb := B.bytes
  have hr := B.returns
  have hts := atoms_spec (ws := w_y_of) B.pre
  have hown : s.vm.findClass RX9 = some m.cls := findClass_of_methodNamed B.named
  have hlocks := B.notSynchronized
  have inX9 : ∀ w ∈ wsX90, w ∈ w_y_of := fun w h => List.mem_cons_of_mem _ (List.mem_append_right _ h)
  subst hsz
  have hD := hD0.self (sz := s.heap.size)
  generalize hAe : va_A [(h0, .inr (7, [.ref m0, v1, v2, v3, v4, .ref m1, v6, v7, v8, v9, v10, v11, v12, v13, v14, v15, v16, v17, v18, v19, v20, v21, v22, v23, v24, v25, v26, v27])), (m0, .inl (mc0, 38, .inl nf)), (m1, .inl (mc1, 8, .inl ff))] s.heap.size = A at hD ⊢
  have hA : ∀ q : Nat, s.heap.size ≤ q → A q := fun q h => by rw [← hAe]; exact Or.inr h
  have hS : va_S A s.heap s.heap [] := va_S.rf
  have hP : va_P (dC, dI) vwCl [(h0, .inr (7, [.ref m0, v1, v2, v3, v4, .ref m1, v6, v7, v8, v9, v10, v11, v12, v13, v14, v15, v16, v17, v18, v19, v20, v21, v22, v23, v24, v25, v26, v27])), (m0, .inl (mc0, 38, .inl nf)), (m1, .inl (mc1, 8, .inl ff))] s.heap := hP
  have hl := lv_entry ([.ref h0, .int a, .int b]) (n := 3) (Nat.le_of_ble_eq_true rfl)
  rw [lg_entry_eq]
  generalize (lg_sl ([.ref h0, .int a, .int b]) ++ List.replicate (3 - (lg_sl ([.ref h0, .int a, .int b])).length) Slot.unset).toArray = ls at hl ⊢
  have hl : lv_has ls 3 [(0, .ref h0), (1, .int a), (2, .int b)] := hl
  refine lv_aload_n hx hb dX9_of_0 rfl (lv_at hl 0 rfl) ?_
  refine lv_iload_n hx hb dX9_of_1 rfl (lv_at hl 1 rfl) ?_
  have hPc := hP.sub (ws' := [(h0, .inr (7, [.ref m0, v1, v2, v3, v4, .ref m1, v6, v7, v8, v9, v10, v11, v12, v13, v14, v15, v16, v17, v18, v19, v20, v21, v22, v23, v24, v25, v26, v27])), (m0, .inl (mc0, 38, .inl nf))]) [0, 1] rfl
  have hKc := hK.sub (tys' := [(mc0, .int)]) [0] rfl
  refine vp_callSi (W.runV (As := [.int a]) (rest := []) ⟨hx, hb, hml, hown, hts⟩ (m_isShape l dC dI ad h0 a m0 v1 v2 v3 v4 (.ref m1) v6 v7 v8 v9 v10 v11 v12 v13 v14 v15 v16 v17 v18 v19 v20 v21 v22 v23 v24 v25 v26 v27 mc0 nf hnf) (cwV 1 hts g_y_of_m_isShape_93 rfl rfl rfl (by decide +kernel) ⟨(Nat.le_of_ble_eq_true rfl), (Nat.le_of_ble_eq_true rfl)⟩) ⟨preS_blind, va_recv hKc hPc (ci := 7) (q0 := 0) rfl rfl, fun U hU hW => ⟨rfl, preS_at hU hW hPc hKc hev⟩⟩ rfl rfl hl.1 rfl (lv_room (Nat.le_of_ble_eq_true rfl)) dX9_of_2 ⟨(Nat.le_of_ble_eq_true rfl), (Nat.le_of_ble_eq_true rfl)⟩) (fun r_1 hw => ?_)
  subst hw
  refine lv_if_eq (tgt := 17) hx hb dX9_of_5 (by decide) (fun _ => ?_) (fun c => absurd (by decide) c)
  refine lv_aload_n hx hb dX9_of_17 rfl (lv_at hl 0 rfl) ?_
  refine lv_ldc hx hb hown (hts _ (List.mem_of_getElem? (i := 10) rfl)) dX9_of_18 ?_
  have hPc := hP.sub (ws' := [(h0, .inr (7, [.ref m0, v1, v2, v3, v4, .ref m1, v6, v7, v8, v9, v10, v11, v12, v13, v14, v15, v16, v17, v18, v19, v20, v21, v22, v23, v24, v25, v26, v27])), (m1, .inl (mc1, 8, .inl ff))]) [0, 2] rfl
  have hKc := hK.sub (tys' := [(mc1, .int)]) [1] rfl
  have hDc := hD.sub (ws' := [(h0, .inr (7, [.ref m0, v1, v2, v3, v4, .ref m1, v6, v7, v8, v9, v10, v11, v12, v13, v14, v15, v16, v17, v18, v19, v20, v21, v22, v23, v24, v25, v26, v27])), (m1, .inl (mc1, 8, .inl ff))]) [0, 2] (by decide) rfl
  have hFc := va_free (wc := [(h0, .inr (7, [.ref m0, v1, v2, v3, v4, .ref m1, v6, v7, v8, v9, v10, v11, v12, v13, v14, v15, v16, v17, v18, v19, v20, v21, v22, v23, v24, v25, v26, v27])), (m1, .inl (mc1, 8, .inl ff))]) hD hS hA [0, 2] rfl
  refine va_calli (va_runV (As := [.int (-1000000001)]) (rest := []) ⟨hx, hb, hml, hown, hts⟩ (m_find_beyond l dC dI ad h0 (.ref m0) v1 v2 v3 v4 m1 v6 v7 v8 v9 v10 v11 v12 v13 v14 v15 v16 v17 v18 v19 v20 v21 v22 v23 v24 v25 v26 v27 mc1 ff s.heap.size ) (cwV 1 hts g_y_of_m_find_beyond_84 rfl rfl rfl (by decide +kernel) ⟨(Nat.le_of_ble_eq_true rfl), (Nat.le_of_ble_eq_true rfl)⟩) ⟨preM_blind, va_recv hKc hPc (ci := 7) (q0 := 0) rfl rfl, fun U hU hW => ⟨rfl, preM_at hU hW hPc hKc hDc hev⟩⟩ rfl rfl hl.1 rfl (lv_room (Nat.le_of_ble_eq_true rfl)) dX9_of_20 ⟨(Nat.le_of_ble_eq_true rfl), (Nat.le_of_ble_eq_true rfl)⟩) hS (fun q _ h => hFc q h) hFc (fun r_2 u t H1 locs ht hvm hw hB hz1 hk1 hS => ?_)
  obtain ⟨hP, hD⟩ := va_join (wr := [(m0, .inl (mc0, 38, .inl nf))]) (w1 := []) hP hD [0, 2] [1] rfl rfl (by decide) (by decide) hk1 hFc nil_P nil_D
  generalize H1 = H at hP hS ⊢
  have hP : va_P (dC, dI) vwCl [(m0, .inl (mc0, 38, .inl nf))] H := hP
  have hD : va_D A [(m0, .inl (mc0, 38, .inl nf))] := hD
  subst hw
  exact W.iret (v := (-1000000001)) hx hb hr (fun t ht hW => ⟨⟨(-1000000001), (), rfl, rfl, trivial⟩, hS.F ht⟩) hS.2.2 dX9_of_23

def w_y_cut : List Cond := .code yX9_cut cX9_cut 3 (some .int) :: (([.methodLink RX9 93 yX9_isShape, .instanceMethod yX9_isShape, .selects RX9 yX9_isShape yX9_isShape, .initialized RX9, .code yX9_isShape cX9_isShape 2 (some .boolean), .fieldLink RX9 9 "LampShapesModel" "now" "[I", .methodLink RX9 75 yX9_within, .static yX9_within, .code yX9_within cX9_within 3 (some .boolean), .constant RX9 74 (-1000000001), .methodLink RX9 84 yX9_finding, .instanceMethod yX9_finding, .selects RX9 yX9_finding yX9_finding, .code yX9_finding cX9_finding 2 (some .int), .fieldLink RX9 23 "LampShapesModel" "found" "[I"] : List Cond) ++ wsX90)
set_option maxRecDepth 20000 in
theorem g_y_cut_m_isShape_93 : GoodIn w_y_cut (wsV RX9 93 RX9 yX9_isShape w_m_isShape) := goodIn_r _ [1, 2, 3, 4, 5, 6, 7, 8, 4, 9, 16, 17, 18, 19, 20, 21, 22, 23, 24, 25, 26, 27, 28, 29, 30, 31, 32, 33, 34, 35, 36, 37, 38, 39, 40, 41, 42, 43] rfl (by decide +kernel)
set_option maxRecDepth 20000 in
theorem g_y_cut_m_find_beyond_84 : GoodIn w_y_cut (wsV RX9 84 RX9 yX9_finding w_m_find_beyond) := goodIn_r _ [11, 12, 13, 4, 14, 15, 10, 16, 17, 18, 19, 20, 21, 22, 23, 24, 25, 26, 27, 28, 29, 30, 31, 32, 33, 34, 35, 36, 37, 38, 39, 40, 41, 42, 43] rfl (by decide +kernel)
set_option maxHeartbeats 4000000 in
set_option maxRecDepth 100000 in
theorem y_cut (l : Launch) (dC : Nat → ClassId) (dI : Nat → Nat → Nat) (ad : Nat → Nat) (h0 : Nat) (a : Int32) (b : Int32) (m0 : Nat) (v1 : Value) (v2 : Value) (v3 : Value) (v4 : Value) (m1 : Nat) (v6 : Value) (v7 : Value) (v8 : Value) (v9 : Value) (v10 : Value) (v11 : Value) (v12 : Value) (v13 : Value) (v14 : Value) (v15 : Value) (v16 : Value) (v17 : Value) (v18 : Value) (v19 : Value) (v20 : Value) (v21 : Value) (v22 : Value) (v23 : Value) (v24 : Value) (v25 : Value) (v26 : Value) (v27 : Value) (mc0 : ClassId) (nf : Nat → Int32) (mc1 : ClassId) (ff : Nat → Int32) (sz : Nat) (hnf : ∀ j, j < 38 → nf j = fr_n j) : Met l yX9_cut w_y_cut ({ frames := 2, cells := 0, slots := 0, locals := 43 } : Room) (va_Pc [.ref h0, .int a, .int b] (preM dC dI ad [(mc0, .int), (mc1, .int)] [(h0, .inr (7, [.ref m0, v1, v2, v3, v4, .ref m1, v6, v7, v8, v9, v10, v11, v12, v13, v14, v15, v16, v17, v18, v19, v20, v21, v22, v23, v24, v25, v26, v27])), (m0, .inl (mc0, 38, .inl nf)), (m1, .inl (mc1, 8, .inl ff))] sz)) (va_Qi (fun (r : Int32) (_ : Unit) => (r = (-1000000001))) (fun _ _ => True) (va_A [(h0, .inr (7, [.ref m0, v1, v2, v3, v4, .ref m1, v6, v7, v8, v9, v10, v11, v12, v13, v14, v15, v16, v17, v18, v19, v20, v21, v22, v23, v24, v25, v26, v27])), (m0, .inl (mc0, 38, .inl nf)), (m1, .inl (mc1, 8, .inl ff))] sz)) 0 0 (va_A [(h0, .inr (7, [.ref m0, v1, v2, v3, v4, .ref m1, v6, v7, v8, v9, v10, v11, v12, v13, v14, v15, v16, v17, v18, v19, v20, v21, v22, v23, v24, v25, v26, v27])), (m0, .inl (mc0, 38, .inl nf)), (m1, .inl (mc1, 8, .inl ff))] sz) := by
  refine Met.ofW (cc := cX9_cut) (maxL := 3) (ret := (some .int)) (by decide) rfl ?_
  intro p e s m args below meth c s₁ B hml hv
  obtain ⟨rfl, hsz, hP, hK, hD0, hev⟩ := hv
  have hx := B.exec
  have hb := B.bytes
  have hr := B.returns
  have hts := atoms_spec (ws := w_y_cut) B.pre
  have hown : s.vm.findClass RX9 = some m.cls := findClass_of_methodNamed B.named
  have hlocks := B.notSynchronized
  have inX9 : ∀ w ∈ wsX90, w ∈ w_y_cut := fun w h => List.mem_cons_of_mem _ (List.mem_append_right _ h)
  subst hsz
  have hD := hD0.self (sz := s.heap.size)
  generalize hAe : va_A [(h0, .inr (7, [.ref m0, v1, v2, v3, v4, .ref m1, v6, v7, v8, v9, v10, v11, v12, v13, v14, v15, v16, v17, v18, v19, v20, v21, v22, v23, v24, v25, v26, v27])), (m0, .inl (mc0, 38, .inl nf)), (m1, .inl (mc1, 8, .inl ff))] s.heap.size = A at hD ⊢
  have hA : ∀ q : Nat, s.heap.size ≤ q → A q := fun q h => by rw [← hAe]; exact Or.inr h
  have hS : va_S A s.heap s.heap [] := va_S.rf
  have hP : va_P (dC, dI) vwCl [(h0, .inr (7, [.ref m0, v1, v2, v3, v4, .ref m1, v6, v7, v8, v9, v10, v11, v12, v13, v14, v15, v16, v17, v18, v19, v20, v21, v22, v23, v24, v25, v26, v27])), (m0, .inl (mc0, 38, .inl nf)), (m1, .inl (mc1, 8, .inl ff))] s.heap := hP
  have hl := lv_entry ([.ref h0, .int a, .int b]) (n := 3) (Nat.le_of_ble_eq_true rfl)
  rw [lg_entry_eq]
  generalize (lg_sl ([.ref h0, .int a, .int b]) ++ List.replicate (3 - (lg_sl ([.ref h0, .int a, .int b])).length) Slot.unset).toArray = ls at hl ⊢
  have hl : lv_has ls 3 [(0, .ref h0), (1, .int a), (2, .int b)] := hl
  refine lv_aload_n hx hb dX9_cut_0 rfl (lv_at hl 0 rfl) ?_
  refine lv_iload_n hx hb dX9_cut_1 rfl (lv_at hl 1 rfl) ?_
  have hPc := hP.sub (ws' := [(h0, .inr (7, [.ref m0, v1, v2, v3, v4, .ref m1, v6, v7, v8, v9, v10, v11, v12, v13, v14, v15, v16, v17, v18, v19, v20, v21, v22, v23, v24, v25, v26, v27])), (m0, .inl (mc0, 38, .inl nf))]) [0, 1] rfl
  have hKc := hK.sub (tys' := [(mc0, .int)]) [0] rfl
  refine vp_callSi (W.runV (As := [.int a]) (rest := []) ⟨hx, hb, hml, hown, hts⟩ (m_isShape l dC dI ad h0 a m0 v1 v2 v3 v4 (.ref m1) v6 v7 v8 v9 v10 v11 v12 v13 v14 v15 v16 v17 v18 v19 v20 v21 v22 v23 v24 v25 v26 v27 mc0 nf hnf) (cwV 1 hts g_y_cut_m_isShape_93 rfl rfl rfl (by decide +kernel) ⟨(Nat.le_of_ble_eq_true rfl), (Nat.le_of_ble_eq_true rfl)⟩) ⟨preS_blind, va_recv hKc hPc (ci := 7) (q0 := 0) rfl rfl, fun U hU hW => ⟨rfl, preS_at hU hW hPc hKc hev⟩⟩ rfl rfl hl.1 rfl (lv_room (Nat.le_of_ble_eq_true rfl)) dX9_cut_2 ⟨(Nat.le_of_ble_eq_true rfl), (Nat.le_of_ble_eq_true rfl)⟩) (fun r_1 hw => ?_)
  subst hw
  refine lv_if_eq (tgt := 33) hx hb dX9_cut_5 (by decide) (fun _ => ?_) (fun c => absurd (by decide) c)
  refine lv_aload_n hx hb dX9_cut_33 rfl (lv_at hl 0 rfl) ?_
  refine lv_ldc hx hb hown (hts _ (List.mem_of_getElem? (i := 10) rfl)) dX9_cut_34 ?_
  have hPc := hP.sub (ws' := [(h0, .inr (7, [.ref m0, v1, v2, v3, v4, .ref m1, v6, v7, v8, v9, v10, v11, v12, v13, v14, v15, v16, v17, v18, v19, v20, v21, v22, v23, v24, v25, v26, v27])), (m1, .inl (mc1, 8, .inl ff))]) [0, 2] rfl
  have hKc := hK.sub (tys' := [(mc1, .int)]) [1] rfl
  have hDc := hD.sub (ws' := [(h0, .inr (7, [.ref m0, v1, v2, v3, v4, .ref m1, v6, v7, v8, v9, v10, v11, v12, v13, v14, v15, v16, v17, v18, v19, v20, v21, v22, v23, v24, v25, v26, v27])), (m1, .inl (mc1, 8, .inl ff))]) [0, 2] (by decide) rfl
  have hFc := va_free (wc := [(h0, .inr (7, [.ref m0, v1, v2, v3, v4, .ref m1, v6, v7, v8, v9, v10, v11, v12, v13, v14, v15, v16, v17, v18, v19, v20, v21, v22, v23, v24, v25, v26, v27])), (m1, .inl (mc1, 8, .inl ff))]) hD hS hA [0, 2] rfl
  refine va_calli (va_runV (As := [.int (-1000000001)]) (rest := []) ⟨hx, hb, hml, hown, hts⟩ (m_find_beyond l dC dI ad h0 (.ref m0) v1 v2 v3 v4 m1 v6 v7 v8 v9 v10 v11 v12 v13 v14 v15 v16 v17 v18 v19 v20 v21 v22 v23 v24 v25 v26 v27 mc1 ff s.heap.size ) (cwV 1 hts g_y_cut_m_find_beyond_84 rfl rfl rfl (by decide +kernel) ⟨(Nat.le_of_ble_eq_true rfl), (Nat.le_of_ble_eq_true rfl)⟩) ⟨preM_blind, va_recv hKc hPc (ci := 7) (q0 := 0) rfl rfl, fun U hU hW => ⟨rfl, preM_at hU hW hPc hKc hDc hev⟩⟩ rfl rfl hl.1 rfl (lv_room (Nat.le_of_ble_eq_true rfl)) dX9_cut_36 ⟨(Nat.le_of_ble_eq_true rfl), (Nat.le_of_ble_eq_true rfl)⟩) hS (fun q _ h => hFc q h) hFc (fun r_2 u t H1 locs ht hvm hw hB hz1 hk1 hS => ?_)
  obtain ⟨hP, hD⟩ := va_join (wr := [(m0, .inl (mc0, 38, .inl nf))]) (w1 := []) hP hD [0, 2] [1] rfl rfl (by decide) (by decide) hk1 hFc nil_P nil_D
  generalize H1 = H at hP hS ⊢
  have hP : va_P (dC, dI) vwCl [(m0, .inl (mc0, 38, .inl nf))] H := hP
  have hD : va_D A [(m0, .inl (mc0, 38, .inl nf))] := hD
  subst hw
  exact W.iret (v := (-1000000001)) hx hb hr (fun t ht hW => ⟨⟨(-1000000001), (), rfl, rfl, trivial⟩, hS.F ht⟩) hS.2.2 dX9_cut_39

def w_y_tear : List Cond := .code yX9_tear cX9_tear 4 (some .int) :: (([.methodLink RX9 93 yX9_isShape, .instanceMethod yX9_isShape, .selects RX9 yX9_isShape yX9_isShape, .initialized RX9, .code yX9_isShape cX9_isShape 2 (some .boolean), .fieldLink RX9 9 "LampShapesModel" "now" "[I", .methodLink RX9 75 yX9_within, .static yX9_within, .code yX9_within cX9_within 3 (some .boolean), .constant RX9 74 (-1000000001), .methodLink RX9 84 yX9_finding, .instanceMethod yX9_finding, .selects RX9 yX9_finding yX9_finding, .code yX9_finding cX9_finding 2 (some .int), .fieldLink RX9 23 "LampShapesModel" "found" "[I"] : List Cond) ++ wsX90)
set_option maxRecDepth 20000 in
theorem g_y_tear_m_isShape_93 : GoodIn w_y_tear (wsV RX9 93 RX9 yX9_isShape w_m_isShape) := goodIn_r _ [1, 2, 3, 4, 5, 6, 7, 8, 4, 9, 16, 17, 18, 19, 20, 21, 22, 23, 24, 25, 26, 27, 28, 29, 30, 31, 32, 33, 34, 35, 36, 37, 38, 39, 40, 41, 42, 43] rfl (by decide +kernel)
set_option maxRecDepth 20000 in
theorem g_y_tear_m_find_beyond_84 : GoodIn w_y_tear (wsV RX9 84 RX9 yX9_finding w_m_find_beyond) := goodIn_r _ [11, 12, 13, 4, 14, 15, 10, 16, 17, 18, 19, 20, 21, 22, 23, 24, 25, 26, 27, 28, 29, 30, 31, 32, 33, 34, 35, 36, 37, 38, 39, 40, 41, 42, 43] rfl (by decide +kernel)
set_option maxHeartbeats 4000000 in
set_option maxRecDepth 100000 in
theorem y_tear (l : Launch) (dC : Nat → ClassId) (dI : Nat → Nat → Nat) (ad : Nat → Nat) (h0 : Nat) (a : Int32) (b : Int32) (m0 : Nat) (v1 : Value) (v2 : Value) (v3 : Value) (v4 : Value) (m1 : Nat) (v6 : Value) (v7 : Value) (v8 : Value) (v9 : Value) (v10 : Value) (v11 : Value) (v12 : Value) (v13 : Value) (v14 : Value) (v15 : Value) (v16 : Value) (v17 : Value) (v18 : Value) (v19 : Value) (v20 : Value) (v21 : Value) (v22 : Value) (v23 : Value) (v24 : Value) (v25 : Value) (v26 : Value) (v27 : Value) (mc0 : ClassId) (nf : Nat → Int32) (mc1 : ClassId) (ff : Nat → Int32) (sz : Nat) (hnf : ∀ j, j < 38 → nf j = fr_n j) : Met l yX9_tear w_y_tear ({ frames := 2, cells := 0, slots := 0, locals := 43 } : Room) (va_Pc [.ref h0, .int a, .int b] (preM dC dI ad [(mc0, .int), (mc1, .int)] [(h0, .inr (7, [.ref m0, v1, v2, v3, v4, .ref m1, v6, v7, v8, v9, v10, v11, v12, v13, v14, v15, v16, v17, v18, v19, v20, v21, v22, v23, v24, v25, v26, v27])), (m0, .inl (mc0, 38, .inl nf)), (m1, .inl (mc1, 8, .inl ff))] sz)) (va_Qi (fun (r : Int32) (_ : Unit) => (r = (-1000000001))) (fun _ _ => True) (va_A [(h0, .inr (7, [.ref m0, v1, v2, v3, v4, .ref m1, v6, v7, v8, v9, v10, v11, v12, v13, v14, v15, v16, v17, v18, v19, v20, v21, v22, v23, v24, v25, v26, v27])), (m0, .inl (mc0, 38, .inl nf)), (m1, .inl (mc1, 8, .inl ff))] sz)) 0 0 (va_A [(h0, .inr (7, [.ref m0, v1, v2, v3, v4, .ref m1, v6, v7, v8, v9, v10, v11, v12, v13, v14, v15, v16, v17, v18, v19, v20, v21, v22, v23, v24, v25, v26, v27])), (m0, .inl (mc0, 38, .inl nf)), (m1, .inl (mc1, 8, .inl ff))] sz) := by
  refine Met.ofW (cc := cX9_tear) (maxL := 4) (ret := (some .int)) (by decide) rfl ?_
  intro p e s m args below meth c s₁ B hml hv
  obtain ⟨rfl, hsz, hP, hK, hD0, hev⟩ := hv
  have hx := B.exec
  have hb := B.bytes
  have hr := B.returns
  have hts := atoms_spec (ws := w_y_tear) B.pre
  have hown : s.vm.findClass RX9 = some m.cls := findClass_of_methodNamed B.named
  have hlocks := B.notSynchronized
  have inX9 : ∀ w ∈ wsX90, w ∈ w_y_tear := fun w h => List.mem_cons_of_mem _ (List.mem_append_right _ h)
  subst hsz
  have hD := hD0.self (sz := s.heap.size)
  generalize hAe : va_A [(h0, .inr (7, [.ref m0, v1, v2, v3, v4, .ref m1, v6, v7, v8, v9, v10, v11, v12, v13, v14, v15, v16, v17, v18, v19, v20, v21, v22, v23, v24, v25, v26, v27])), (m0, .inl (mc0, 38, .inl nf)), (m1, .inl (mc1, 8, .inl ff))] s.heap.size = A at hD ⊢
  have hA : ∀ q : Nat, s.heap.size ≤ q → A q := fun q h => by rw [← hAe]; exact Or.inr h
  have hS : va_S A s.heap s.heap [] := va_S.rf
  have hP : va_P (dC, dI) vwCl [(h0, .inr (7, [.ref m0, v1, v2, v3, v4, .ref m1, v6, v7, v8, v9, v10, v11, v12, v13, v14, v15, v16, v17, v18, v19, v20, v21, v22, v23, v24, v25, v26, v27])), (m0, .inl (mc0, 38, .inl nf)), (m1, .inl (mc1, 8, .inl ff))] s.heap := hP
  have hl := lv_entry ([.ref h0, .int a, .int b]) (n := 4) (Nat.le_of_ble_eq_true rfl)
  rw [lg_entry_eq]
  generalize (lg_sl ([.ref h0, .int a, .int b]) ++ List.replicate (4 - (lg_sl ([.ref h0, .int a, .int b])).length) Slot.unset).toArray = ls at hl ⊢
  have hl : lv_has ls 4 [(0, .ref h0), (1, .int a), (2, .int b)] := hl
  refine lv_aload_n hx hb dX9_tear_0 rfl (lv_at hl 0 rfl) ?_
  refine lv_iload_n hx hb dX9_tear_1 rfl (lv_at hl 1 rfl) ?_
  have hPc := hP.sub (ws' := [(h0, .inr (7, [.ref m0, v1, v2, v3, v4, .ref m1, v6, v7, v8, v9, v10, v11, v12, v13, v14, v15, v16, v17, v18, v19, v20, v21, v22, v23, v24, v25, v26, v27])), (m0, .inl (mc0, 38, .inl nf))]) [0, 1] rfl
  have hKc := hK.sub (tys' := [(mc0, .int)]) [0] rfl
  refine vp_callSi (W.runV (As := [.int a]) (rest := []) ⟨hx, hb, hml, hown, hts⟩ (m_isShape l dC dI ad h0 a m0 v1 v2 v3 v4 (.ref m1) v6 v7 v8 v9 v10 v11 v12 v13 v14 v15 v16 v17 v18 v19 v20 v21 v22 v23 v24 v25 v26 v27 mc0 nf hnf) (cwV 1 hts g_y_tear_m_isShape_93 rfl rfl rfl (by decide +kernel) ⟨(Nat.le_of_ble_eq_true rfl), (Nat.le_of_ble_eq_true rfl)⟩) ⟨preS_blind, va_recv hKc hPc (ci := 7) (q0 := 0) rfl rfl, fun U hU hW => ⟨rfl, preS_at hU hW hPc hKc hev⟩⟩ rfl rfl hl.1 rfl (lv_room (Nat.le_of_ble_eq_true rfl)) dX9_tear_2 ⟨(Nat.le_of_ble_eq_true rfl), (Nat.le_of_ble_eq_true rfl)⟩) (fun r_1 hw => ?_)
  subst hw
  refine lv_if_ne (tgt := 15) hx hb dX9_tear_5 (by decide) (fun c => absurd (by decide) c) (fun _ => ?_)
  refine lv_aload_n hx hb dX9_tear_8 rfl (lv_at hl 0 rfl) ?_
  refine lv_ldc hx hb hown (hts _ (List.mem_of_getElem? (i := 10) rfl)) dX9_tear_9 ?_
  have hPc := hP.sub (ws' := [(h0, .inr (7, [.ref m0, v1, v2, v3, v4, .ref m1, v6, v7, v8, v9, v10, v11, v12, v13, v14, v15, v16, v17, v18, v19, v20, v21, v22, v23, v24, v25, v26, v27])), (m1, .inl (mc1, 8, .inl ff))]) [0, 2] rfl
  have hKc := hK.sub (tys' := [(mc1, .int)]) [1] rfl
  have hDc := hD.sub (ws' := [(h0, .inr (7, [.ref m0, v1, v2, v3, v4, .ref m1, v6, v7, v8, v9, v10, v11, v12, v13, v14, v15, v16, v17, v18, v19, v20, v21, v22, v23, v24, v25, v26, v27])), (m1, .inl (mc1, 8, .inl ff))]) [0, 2] (by decide) rfl
  have hFc := va_free (wc := [(h0, .inr (7, [.ref m0, v1, v2, v3, v4, .ref m1, v6, v7, v8, v9, v10, v11, v12, v13, v14, v15, v16, v17, v18, v19, v20, v21, v22, v23, v24, v25, v26, v27])), (m1, .inl (mc1, 8, .inl ff))]) hD hS hA [0, 2] rfl
  refine va_calli (va_runV (As := [.int (-1000000001)]) (rest := []) ⟨hx, hb, hml, hown, hts⟩ (m_find_beyond l dC dI ad h0 (.ref m0) v1 v2 v3 v4 m1 v6 v7 v8 v9 v10 v11 v12 v13 v14 v15 v16 v17 v18 v19 v20 v21 v22 v23 v24 v25 v26 v27 mc1 ff s.heap.size ) (cwV 1 hts g_y_tear_m_find_beyond_84 rfl rfl rfl (by decide +kernel) ⟨(Nat.le_of_ble_eq_true rfl), (Nat.le_of_ble_eq_true rfl)⟩) ⟨preM_blind, va_recv hKc hPc (ci := 7) (q0 := 0) rfl rfl, fun U hU hW => ⟨rfl, preM_at hU hW hPc hKc hDc hev⟩⟩ rfl rfl hl.1 rfl (lv_room (Nat.le_of_ble_eq_true rfl)) dX9_tear_11 ⟨(Nat.le_of_ble_eq_true rfl), (Nat.le_of_ble_eq_true rfl)⟩) hS (fun q _ h => hFc q h) hFc (fun r_2 u t H1 locs ht hvm hw hB hz1 hk1 hS => ?_)
  obtain ⟨hP, hD⟩ := va_join (wr := [(m0, .inl (mc0, 38, .inl nf))]) (w1 := []) hP hD [0, 2] [1] rfl rfl (by decide) (by decide) hk1 hFc nil_P nil_D
  generalize H1 = H at hP hS ⊢
  have hP : va_P (dC, dI) vwCl [(m0, .inl (mc0, 38, .inl nf))] H := hP
  have hD : va_D A [(m0, .inl (mc0, 38, .inl nf))] := hD
  subst hw
  exact W.iret (v := (-1000000001)) hx hb hr (fun t ht hW => ⟨⟨(-1000000001), (), rfl, rfl, trivial⟩, hS.F ht⟩) hS.2.2 dX9_tear_14

def w_y_become : List Cond := .code yX9_become cX9_become 3 (some .int) :: (([.methodLink RX9 93 yX9_isShape, .instanceMethod yX9_isShape, .selects RX9 yX9_isShape yX9_isShape, .initialized RX9, .code yX9_isShape cX9_isShape 2 (some .boolean), .fieldLink RX9 9 "LampShapesModel" "now" "[I", .methodLink RX9 75 yX9_within, .static yX9_within, .code yX9_within cX9_within 3 (some .boolean), .constant RX9 74 (-1000000001), .methodLink RX9 84 yX9_finding, .instanceMethod yX9_finding, .selects RX9 yX9_finding yX9_finding, .code yX9_finding cX9_finding 2 (some .int), .fieldLink RX9 23 "LampShapesModel" "found" "[I"] : List Cond) ++ wsX90)
set_option maxRecDepth 20000 in
theorem g_y_become_m_isShape_93 : GoodIn w_y_become (wsV RX9 93 RX9 yX9_isShape w_m_isShape) := goodIn_r _ [1, 2, 3, 4, 5, 6, 7, 8, 4, 9, 16, 17, 18, 19, 20, 21, 22, 23, 24, 25, 26, 27, 28, 29, 30, 31, 32, 33, 34, 35, 36, 37, 38, 39, 40, 41, 42, 43] rfl (by decide +kernel)
set_option maxRecDepth 20000 in
theorem g_y_become_m_find_beyond_84 : GoodIn w_y_become (wsV RX9 84 RX9 yX9_finding w_m_find_beyond) := goodIn_r _ [11, 12, 13, 4, 14, 15, 10, 16, 17, 18, 19, 20, 21, 22, 23, 24, 25, 26, 27, 28, 29, 30, 31, 32, 33, 34, 35, 36, 37, 38, 39, 40, 41, 42, 43] rfl (by decide +kernel)
set_option maxHeartbeats 4000000 in
set_option maxRecDepth 100000 in
theorem y_become (l : Launch) (dC : Nat → ClassId) (dI : Nat → Nat → Nat) (ad : Nat → Nat) (h0 : Nat) (a : Int32) (b : Int32) (m0 : Nat) (v1 : Value) (v2 : Value) (v3 : Value) (v4 : Value) (m1 : Nat) (v6 : Value) (v7 : Value) (v8 : Value) (v9 : Value) (v10 : Value) (v11 : Value) (v12 : Value) (v13 : Value) (v14 : Value) (v15 : Value) (v16 : Value) (v17 : Value) (v18 : Value) (v19 : Value) (v20 : Value) (v21 : Value) (v22 : Value) (v23 : Value) (v24 : Value) (v25 : Value) (v26 : Value) (v27 : Value) (mc0 : ClassId) (nf : Nat → Int32) (mc1 : ClassId) (ff : Nat → Int32) (sz : Nat) (hnf : ∀ j, j < 38 → nf j = fr_n j) : Met l yX9_become w_y_become ({ frames := 2, cells := 0, slots := 0, locals := 43 } : Room) (va_Pc [.ref h0, .int a, .int b] (preM dC dI ad [(mc0, .int), (mc1, .int)] [(h0, .inr (7, [.ref m0, v1, v2, v3, v4, .ref m1, v6, v7, v8, v9, v10, v11, v12, v13, v14, v15, v16, v17, v18, v19, v20, v21, v22, v23, v24, v25, v26, v27])), (m0, .inl (mc0, 38, .inl nf)), (m1, .inl (mc1, 8, .inl ff))] sz)) (va_Qi (fun (r : Int32) (_ : Unit) => (r = (-1000000001))) (fun _ _ => True) (va_A [(h0, .inr (7, [.ref m0, v1, v2, v3, v4, .ref m1, v6, v7, v8, v9, v10, v11, v12, v13, v14, v15, v16, v17, v18, v19, v20, v21, v22, v23, v24, v25, v26, v27])), (m0, .inl (mc0, 38, .inl nf)), (m1, .inl (mc1, 8, .inl ff))] sz)) 0 0 (va_A [(h0, .inr (7, [.ref m0, v1, v2, v3, v4, .ref m1, v6, v7, v8, v9, v10, v11, v12, v13, v14, v15, v16, v17, v18, v19, v20, v21, v22, v23, v24, v25, v26, v27])), (m0, .inl (mc0, 38, .inl nf)), (m1, .inl (mc1, 8, .inl ff))] sz) := by
  refine Met.ofW (cc := cX9_become) (maxL := 3) (ret := (some .int)) (by decide) rfl ?_
  intro p e s m args below meth c s₁ B hml hv
  obtain ⟨rfl, hsz, hP, hK, hD0, hev⟩ := hv
  have hx := B.exec
  have hb := B.bytes
  have hr := B.returns
  have hts := atoms_spec (ws := w_y_become) B.pre
  have hown : s.vm.findClass RX9 = some m.cls := findClass_of_methodNamed B.named
  have hlocks := B.notSynchronized
  have inX9 : ∀ w ∈ wsX90, w ∈ w_y_become := fun w h => List.mem_cons_of_mem _ (List.mem_append_right _ h)
  subst hsz
  have hD := hD0.self (sz := s.heap.size)
  generalize hAe : va_A [(h0, .inr (7, [.ref m0, v1, v2, v3, v4, .ref m1, v6, v7, v8, v9, v10, v11, v12, v13, v14, v15, v16, v17, v18, v19, v20, v21, v22, v23, v24, v25, v26, v27])), (m0, .inl (mc0, 38, .inl nf)), (m1, .inl (mc1, 8, .inl ff))] s.heap.size = A at hD ⊢
  have hA : ∀ q : Nat, s.heap.size ≤ q → A q := fun q h => by rw [← hAe]; exact Or.inr h
  have hS : va_S A s.heap s.heap [] := va_S.rf
  have hP : va_P (dC, dI) vwCl [(h0, .inr (7, [.ref m0, v1, v2, v3, v4, .ref m1, v6, v7, v8, v9, v10, v11, v12, v13, v14, v15, v16, v17, v18, v19, v20, v21, v22, v23, v24, v25, v26, v27])), (m0, .inl (mc0, 38, .inl nf)), (m1, .inl (mc1, 8, .inl ff))] s.heap := hP
  have hl := lv_entry ([.ref h0, .int a, .int b]) (n := 3) (Nat.le_of_ble_eq_true rfl)
  rw [lg_entry_eq]
  generalize (lg_sl ([.ref h0, .int a, .int b]) ++ List.replicate (3 - (lg_sl ([.ref h0, .int a, .int b])).length) Slot.unset).toArray = ls at hl ⊢
  have hl : lv_has ls 3 [(0, .ref h0), (1, .int a), (2, .int b)] := hl
  refine lv_aload_n hx hb dX9_become_0 rfl (lv_at hl 0 rfl) ?_
  refine lv_iload_n hx hb dX9_become_1 rfl (lv_at hl 1 rfl) ?_
  have hPc := hP.sub (ws' := [(h0, .inr (7, [.ref m0, v1, v2, v3, v4, .ref m1, v6, v7, v8, v9, v10, v11, v12, v13, v14, v15, v16, v17, v18, v19, v20, v21, v22, v23, v24, v25, v26, v27])), (m0, .inl (mc0, 38, .inl nf))]) [0, 1] rfl
  have hKc := hK.sub (tys' := [(mc0, .int)]) [0] rfl
  refine vp_callSi (W.runV (As := [.int a]) (rest := []) ⟨hx, hb, hml, hown, hts⟩ (m_isShape l dC dI ad h0 a m0 v1 v2 v3 v4 (.ref m1) v6 v7 v8 v9 v10 v11 v12 v13 v14 v15 v16 v17 v18 v19 v20 v21 v22 v23 v24 v25 v26 v27 mc0 nf hnf) (cwV 1 hts g_y_become_m_isShape_93 rfl rfl rfl (by decide +kernel) ⟨(Nat.le_of_ble_eq_true rfl), (Nat.le_of_ble_eq_true rfl)⟩) ⟨preS_blind, va_recv hKc hPc (ci := 7) (q0 := 0) rfl rfl, fun U hU hW => ⟨rfl, preS_at hU hW hPc hKc hev⟩⟩ rfl rfl hl.1 rfl (lv_room (Nat.le_of_ble_eq_true rfl)) dX9_become_2 ⟨(Nat.le_of_ble_eq_true rfl), (Nat.le_of_ble_eq_true rfl)⟩) (fun r_1 hw => ?_)
  subst hw
  refine lv_if_eq (tgt := 30) hx hb dX9_become_5 (by decide) (fun _ => ?_) (fun c => absurd (by decide) c)
  refine lv_aload_n hx hb dX9_become_30 rfl (lv_at hl 0 rfl) ?_
  refine lv_ldc hx hb hown (hts _ (List.mem_of_getElem? (i := 10) rfl)) dX9_become_31 ?_
  have hPc := hP.sub (ws' := [(h0, .inr (7, [.ref m0, v1, v2, v3, v4, .ref m1, v6, v7, v8, v9, v10, v11, v12, v13, v14, v15, v16, v17, v18, v19, v20, v21, v22, v23, v24, v25, v26, v27])), (m1, .inl (mc1, 8, .inl ff))]) [0, 2] rfl
  have hKc := hK.sub (tys' := [(mc1, .int)]) [1] rfl
  have hDc := hD.sub (ws' := [(h0, .inr (7, [.ref m0, v1, v2, v3, v4, .ref m1, v6, v7, v8, v9, v10, v11, v12, v13, v14, v15, v16, v17, v18, v19, v20, v21, v22, v23, v24, v25, v26, v27])), (m1, .inl (mc1, 8, .inl ff))]) [0, 2] (by decide) rfl
  have hFc := va_free (wc := [(h0, .inr (7, [.ref m0, v1, v2, v3, v4, .ref m1, v6, v7, v8, v9, v10, v11, v12, v13, v14, v15, v16, v17, v18, v19, v20, v21, v22, v23, v24, v25, v26, v27])), (m1, .inl (mc1, 8, .inl ff))]) hD hS hA [0, 2] rfl
  refine va_calli (va_runV (As := [.int (-1000000001)]) (rest := []) ⟨hx, hb, hml, hown, hts⟩ (m_find_beyond l dC dI ad h0 (.ref m0) v1 v2 v3 v4 m1 v6 v7 v8 v9 v10 v11 v12 v13 v14 v15 v16 v17 v18 v19 v20 v21 v22 v23 v24 v25 v26 v27 mc1 ff s.heap.size ) (cwV 1 hts g_y_become_m_find_beyond_84 rfl rfl rfl (by decide +kernel) ⟨(Nat.le_of_ble_eq_true rfl), (Nat.le_of_ble_eq_true rfl)⟩) ⟨preM_blind, va_recv hKc hPc (ci := 7) (q0 := 0) rfl rfl, fun U hU hW => ⟨rfl, preM_at hU hW hPc hKc hDc hev⟩⟩ rfl rfl hl.1 rfl (lv_room (Nat.le_of_ble_eq_true rfl)) dX9_become_33 ⟨(Nat.le_of_ble_eq_true rfl), (Nat.le_of_ble_eq_true rfl)⟩) hS (fun q _ h => hFc q h) hFc (fun r_2 u t H1 locs ht hvm hw hB hz1 hk1 hS => ?_)
  obtain ⟨hP, hD⟩ := va_join (wr := [(m0, .inl (mc0, 38, .inl nf))]) (w1 := []) hP hD [0, 2] [1] rfl rfl (by decide) (by decide) hk1 hFc nil_P nil_D
  generalize H1 = H at hP hS ⊢
  have hP : va_P (dC, dI) vwCl [(m0, .inl (mc0, 38, .inl nf))] H := hP
  have hD : va_D A [(m0, .inl (mc0, 38, .inl nf))] := hD
  subst hw
  exact W.iret (v := (-1000000001)) hx hb hr (fun t ht hW => ⟨⟨(-1000000001), (), rfl, rfl, trivial⟩, hS.F ht⟩) hS.2.2 dX9_become_36

def w_y_as : List Cond := .code yX9_as cX9_as 4 (some .int) :: (([.methodLink RX9 93 yX9_isShape, .instanceMethod yX9_isShape, .selects RX9 yX9_isShape yX9_isShape, .initialized RX9, .code yX9_isShape cX9_isShape 2 (some .boolean), .fieldLink RX9 9 "LampShapesModel" "now" "[I", .methodLink RX9 75 yX9_within, .static yX9_within, .code yX9_within cX9_within 3 (some .boolean), .constant RX9 74 (-1000000001), .methodLink RX9 84 yX9_finding, .instanceMethod yX9_finding, .selects RX9 yX9_finding yX9_finding, .code yX9_finding cX9_finding 2 (some .int), .fieldLink RX9 23 "LampShapesModel" "found" "[I"] : List Cond) ++ wsX90)
set_option maxRecDepth 20000 in
theorem g_y_as_m_isShape_93 : GoodIn w_y_as (wsV RX9 93 RX9 yX9_isShape w_m_isShape) := goodIn_r _ [1, 2, 3, 4, 5, 6, 7, 8, 4, 9, 16, 17, 18, 19, 20, 21, 22, 23, 24, 25, 26, 27, 28, 29, 30, 31, 32, 33, 34, 35, 36, 37, 38, 39, 40, 41, 42, 43] rfl (by decide +kernel)
set_option maxRecDepth 20000 in
theorem g_y_as_m_find_beyond_84 : GoodIn w_y_as (wsV RX9 84 RX9 yX9_finding w_m_find_beyond) := goodIn_r _ [11, 12, 13, 4, 14, 15, 10, 16, 17, 18, 19, 20, 21, 22, 23, 24, 25, 26, 27, 28, 29, 30, 31, 32, 33, 34, 35, 36, 37, 38, 39, 40, 41, 42, 43] rfl (by decide +kernel)
set_option maxHeartbeats 4000000 in
set_option maxRecDepth 100000 in
theorem y_as (l : Launch) (dC : Nat → ClassId) (dI : Nat → Nat → Nat) (ad : Nat → Nat) (h0 : Nat) (a : Int32) (b : Int32) (m0 : Nat) (v1 : Value) (v2 : Value) (v3 : Value) (v4 : Value) (m1 : Nat) (v6 : Value) (v7 : Value) (v8 : Value) (v9 : Value) (v10 : Value) (v11 : Value) (v12 : Value) (v13 : Value) (v14 : Value) (v15 : Value) (v16 : Value) (v17 : Value) (v18 : Value) (v19 : Value) (v20 : Value) (v21 : Value) (v22 : Value) (v23 : Value) (v24 : Value) (v25 : Value) (v26 : Value) (v27 : Value) (mc0 : ClassId) (nf : Nat → Int32) (mc1 : ClassId) (ff : Nat → Int32) (sz : Nat) (hnf : ∀ j, j < 38 → nf j = fr_n j) : Met l yX9_as w_y_as ({ frames := 2, cells := 0, slots := 0, locals := 43 } : Room) (va_Pc [.ref h0, .int a, .int b] (preM dC dI ad [(mc0, .int), (mc1, .int)] [(h0, .inr (7, [.ref m0, v1, v2, v3, v4, .ref m1, v6, v7, v8, v9, v10, v11, v12, v13, v14, v15, v16, v17, v18, v19, v20, v21, v22, v23, v24, v25, v26, v27])), (m0, .inl (mc0, 38, .inl nf)), (m1, .inl (mc1, 8, .inl ff))] sz)) (va_Qi (fun (r : Int32) (_ : Unit) => (r = (-1000000001))) (fun _ _ => True) (va_A [(h0, .inr (7, [.ref m0, v1, v2, v3, v4, .ref m1, v6, v7, v8, v9, v10, v11, v12, v13, v14, v15, v16, v17, v18, v19, v20, v21, v22, v23, v24, v25, v26, v27])), (m0, .inl (mc0, 38, .inl nf)), (m1, .inl (mc1, 8, .inl ff))] sz)) 0 0 (va_A [(h0, .inr (7, [.ref m0, v1, v2, v3, v4, .ref m1, v6, v7, v8, v9, v10, v11, v12, v13, v14, v15, v16, v17, v18, v19, v20, v21, v22, v23, v24, v25, v26, v27])), (m0, .inl (mc0, 38, .inl nf)), (m1, .inl (mc1, 8, .inl ff))] sz) := by
  refine Met.ofW (cc := cX9_as) (maxL := 4) (ret := (some .int)) (by decide) rfl ?_
  intro p e s m args below meth c s₁ B hml hv
  obtain ⟨rfl, hsz, hP, hK, hD0, hev⟩ := hv
  have hx := B.exec
  have hb := B.bytes
  have hr := B.returns
  have hts := atoms_spec (ws := w_y_as) B.pre
  have hown : s.vm.findClass RX9 = some m.cls := findClass_of_methodNamed B.named
  have hlocks := B.notSynchronized
  have inX9 : ∀ w ∈ wsX90, w ∈ w_y_as := fun w h => List.mem_cons_of_mem _ (List.mem_append_right _ h)
  subst hsz
  have hD := hD0.self (sz := s.heap.size)
  generalize hAe : va_A [(h0, .inr (7, [.ref m0, v1, v2, v3, v4, .ref m1, v6, v7, v8, v9, v10, v11, v12, v13, v14, v15, v16, v17, v18, v19, v20, v21, v22, v23, v24, v25, v26, v27])), (m0, .inl (mc0, 38, .inl nf)), (m1, .inl (mc1, 8, .inl ff))] s.heap.size = A at hD ⊢
  have hA : ∀ q : Nat, s.heap.size ≤ q → A q := fun q h => by rw [← hAe]; exact Or.inr h
  have hS : va_S A s.heap s.heap [] := va_S.rf
  have hP : va_P (dC, dI) vwCl [(h0, .inr (7, [.ref m0, v1, v2, v3, v4, .ref m1, v6, v7, v8, v9, v10, v11, v12, v13, v14, v15, v16, v17, v18, v19, v20, v21, v22, v23, v24, v25, v26, v27])), (m0, .inl (mc0, 38, .inl nf)), (m1, .inl (mc1, 8, .inl ff))] s.heap := hP
  have hl := lv_entry ([.ref h0, .int a, .int b]) (n := 4) (Nat.le_of_ble_eq_true rfl)
  rw [lg_entry_eq]
  generalize (lg_sl ([.ref h0, .int a, .int b]) ++ List.replicate (4 - (lg_sl ([.ref h0, .int a, .int b])).length) Slot.unset).toArray = ls at hl ⊢
  have hl : lv_has ls 4 [(0, .ref h0), (1, .int a), (2, .int b)] := hl
  refine lv_aload_n hx hb dX9_as_0 rfl (lv_at hl 0 rfl) ?_
  refine lv_iload_n hx hb dX9_as_1 rfl (lv_at hl 1 rfl) ?_
  have hPc := hP.sub (ws' := [(h0, .inr (7, [.ref m0, v1, v2, v3, v4, .ref m1, v6, v7, v8, v9, v10, v11, v12, v13, v14, v15, v16, v17, v18, v19, v20, v21, v22, v23, v24, v25, v26, v27])), (m0, .inl (mc0, 38, .inl nf))]) [0, 1] rfl
  have hKc := hK.sub (tys' := [(mc0, .int)]) [0] rfl
  refine vp_callSi (W.runV (As := [.int a]) (rest := []) ⟨hx, hb, hml, hown, hts⟩ (m_isShape l dC dI ad h0 a m0 v1 v2 v3 v4 (.ref m1) v6 v7 v8 v9 v10 v11 v12 v13 v14 v15 v16 v17 v18 v19 v20 v21 v22 v23 v24 v25 v26 v27 mc0 nf hnf) (cwV 1 hts g_y_as_m_isShape_93 rfl rfl rfl (by decide +kernel) ⟨(Nat.le_of_ble_eq_true rfl), (Nat.le_of_ble_eq_true rfl)⟩) ⟨preS_blind, va_recv hKc hPc (ci := 7) (q0 := 0) rfl rfl, fun U hU hW => ⟨rfl, preS_at hU hW hPc hKc hev⟩⟩ rfl rfl hl.1 rfl (lv_room (Nat.le_of_ble_eq_true rfl)) dX9_as_2 ⟨(Nat.le_of_ble_eq_true rfl), (Nat.le_of_ble_eq_true rfl)⟩) (fun r_1 hw => ?_)
  subst hw
  refine lv_if_eq (tgt := 15) hx hb dX9_as_5 (by decide) (fun _ => ?_) (fun c => absurd (by decide) c)
  refine lv_aload_n hx hb dX9_as_15 rfl (lv_at hl 0 rfl) ?_
  refine lv_ldc hx hb hown (hts _ (List.mem_of_getElem? (i := 10) rfl)) dX9_as_16 ?_
  have hPc := hP.sub (ws' := [(h0, .inr (7, [.ref m0, v1, v2, v3, v4, .ref m1, v6, v7, v8, v9, v10, v11, v12, v13, v14, v15, v16, v17, v18, v19, v20, v21, v22, v23, v24, v25, v26, v27])), (m1, .inl (mc1, 8, .inl ff))]) [0, 2] rfl
  have hKc := hK.sub (tys' := [(mc1, .int)]) [1] rfl
  have hDc := hD.sub (ws' := [(h0, .inr (7, [.ref m0, v1, v2, v3, v4, .ref m1, v6, v7, v8, v9, v10, v11, v12, v13, v14, v15, v16, v17, v18, v19, v20, v21, v22, v23, v24, v25, v26, v27])), (m1, .inl (mc1, 8, .inl ff))]) [0, 2] (by decide) rfl
  have hFc := va_free (wc := [(h0, .inr (7, [.ref m0, v1, v2, v3, v4, .ref m1, v6, v7, v8, v9, v10, v11, v12, v13, v14, v15, v16, v17, v18, v19, v20, v21, v22, v23, v24, v25, v26, v27])), (m1, .inl (mc1, 8, .inl ff))]) hD hS hA [0, 2] rfl
  refine va_calli (va_runV (As := [.int (-1000000001)]) (rest := []) ⟨hx, hb, hml, hown, hts⟩ (m_find_beyond l dC dI ad h0 (.ref m0) v1 v2 v3 v4 m1 v6 v7 v8 v9 v10 v11 v12 v13 v14 v15 v16 v17 v18 v19 v20 v21 v22 v23 v24 v25 v26 v27 mc1 ff s.heap.size ) (cwV 1 hts g_y_as_m_find_beyond_84 rfl rfl rfl (by decide +kernel) ⟨(Nat.le_of_ble_eq_true rfl), (Nat.le_of_ble_eq_true rfl)⟩) ⟨preM_blind, va_recv hKc hPc (ci := 7) (q0 := 0) rfl rfl, fun U hU hW => ⟨rfl, preM_at hU hW hPc hKc hDc hev⟩⟩ rfl rfl hl.1 rfl (lv_room (Nat.le_of_ble_eq_true rfl)) dX9_as_18 ⟨(Nat.le_of_ble_eq_true rfl), (Nat.le_of_ble_eq_true rfl)⟩) hS (fun q _ h => hFc q h) hFc (fun r_2 u t H1 locs ht hvm hw hB hz1 hk1 hS => ?_)
  obtain ⟨hP, hD⟩ := va_join (wr := [(m0, .inl (mc0, 38, .inl nf))]) (w1 := []) hP hD [0, 2] [1] rfl rfl (by decide) (by decide) hk1 hFc nil_P nil_D
  generalize H1 = H at hP hS ⊢
  have hP : va_P (dC, dI) vwCl [(m0, .inl (mc0, 38, .inl nf))] H := hP
  have hD : va_D A [(m0, .inl (mc0, 38, .inl nf))] := hD
  subst hw
  exact W.iret (v := (-1000000001)) hx hb hr (fun t ht hW => ⟨⟨(-1000000001), (), rfl, rfl, trivial⟩, hS.F ht⟩) hS.2.2 dX9_as_21

def w_y_thrown : List Cond := .code yX9_thrown cX9_thrown 3 (some .int) :: (([.methodLink RX9 93 yX9_isShape, .instanceMethod yX9_isShape, .selects RX9 yX9_isShape yX9_isShape, .initialized RX9, .code yX9_isShape cX9_isShape 2 (some .boolean), .fieldLink RX9 9 "LampShapesModel" "now" "[I", .methodLink RX9 75 yX9_within, .static yX9_within, .code yX9_within cX9_within 3 (some .boolean), .constant RX9 74 (-1000000001), .methodLink RX9 84 yX9_finding, .instanceMethod yX9_finding, .selects RX9 yX9_finding yX9_finding, .code yX9_finding cX9_finding 2 (some .int), .fieldLink RX9 23 "LampShapesModel" "found" "[I"] : List Cond) ++ wsX90)
set_option maxRecDepth 20000 in
theorem g_y_thrown_m_isShape_93 : GoodIn w_y_thrown (wsV RX9 93 RX9 yX9_isShape w_m_isShape) := goodIn_r _ [1, 2, 3, 4, 5, 6, 7, 8, 4, 9, 16, 17, 18, 19, 20, 21, 22, 23, 24, 25, 26, 27, 28, 29, 30, 31, 32, 33, 34, 35, 36, 37, 38, 39, 40, 41, 42, 43] rfl (by decide +kernel)
set_option maxRecDepth 20000 in
theorem g_y_thrown_m_find_beyond_84 : GoodIn w_y_thrown (wsV RX9 84 RX9 yX9_finding w_m_find_beyond) := goodIn_r _ [11, 12, 13, 4, 14, 15, 10, 16, 17, 18, 19, 20, 21, 22, 23, 24, 25, 26, 27, 28, 29, 30, 31, 32, 33, 34, 35, 36, 37, 38, 39, 40, 41, 42, 43] rfl (by decide +kernel)
set_option maxHeartbeats 4000000 in
set_option maxRecDepth 100000 in
theorem y_thrown (l : Launch) (dC : Nat → ClassId) (dI : Nat → Nat → Nat) (ad : Nat → Nat) (h0 : Nat) (a : Int32) (b : Int32) (m0 : Nat) (v1 : Value) (v2 : Value) (v3 : Value) (v4 : Value) (m1 : Nat) (v6 : Value) (v7 : Value) (v8 : Value) (v9 : Value) (v10 : Value) (v11 : Value) (v12 : Value) (v13 : Value) (v14 : Value) (v15 : Value) (v16 : Value) (v17 : Value) (v18 : Value) (v19 : Value) (v20 : Value) (v21 : Value) (v22 : Value) (v23 : Value) (v24 : Value) (v25 : Value) (v26 : Value) (v27 : Value) (mc0 : ClassId) (nf : Nat → Int32) (mc1 : ClassId) (ff : Nat → Int32) (sz : Nat) (hnf : ∀ j, j < 38 → nf j = fr_n j) : Met l yX9_thrown w_y_thrown ({ frames := 2, cells := 0, slots := 0, locals := 43 } : Room) (va_Pc [.ref h0, .int a, .int b] (preM dC dI ad [(mc0, .int), (mc1, .int)] [(h0, .inr (7, [.ref m0, v1, v2, v3, v4, .ref m1, v6, v7, v8, v9, v10, v11, v12, v13, v14, v15, v16, v17, v18, v19, v20, v21, v22, v23, v24, v25, v26, v27])), (m0, .inl (mc0, 38, .inl nf)), (m1, .inl (mc1, 8, .inl ff))] sz)) (va_Qi (fun (r : Int32) (_ : Unit) => (r = (-1000000001))) (fun _ _ => True) (va_A [(h0, .inr (7, [.ref m0, v1, v2, v3, v4, .ref m1, v6, v7, v8, v9, v10, v11, v12, v13, v14, v15, v16, v17, v18, v19, v20, v21, v22, v23, v24, v25, v26, v27])), (m0, .inl (mc0, 38, .inl nf)), (m1, .inl (mc1, 8, .inl ff))] sz)) 0 0 (va_A [(h0, .inr (7, [.ref m0, v1, v2, v3, v4, .ref m1, v6, v7, v8, v9, v10, v11, v12, v13, v14, v15, v16, v17, v18, v19, v20, v21, v22, v23, v24, v25, v26, v27])), (m0, .inl (mc0, 38, .inl nf)), (m1, .inl (mc1, 8, .inl ff))] sz) := by
  refine Met.ofW (cc := cX9_thrown) (maxL := 3) (ret := (some .int)) (by decide) rfl ?_
  intro p e s m args below meth c s₁ B hml hv
  obtain ⟨rfl, hsz, hP, hK, hD0, hev⟩ := hv
  have hx := B.exec
  have hb := B.bytes
  have hr := B.returns
  have hts := atoms_spec (ws := w_y_thrown) B.pre
  have hown : s.vm.findClass RX9 = some m.cls := findClass_of_methodNamed B.named
  have hlocks := B.notSynchronized
  have inX9 : ∀ w ∈ wsX90, w ∈ w_y_thrown := fun w h => List.mem_cons_of_mem _ (List.mem_append_right _ h)
  subst hsz
  have hD := hD0.self (sz := s.heap.size)
  generalize hAe : va_A [(h0, .inr (7, [.ref m0, v1, v2, v3, v4, .ref m1, v6, v7, v8, v9, v10, v11, v12, v13, v14, v15, v16, v17, v18, v19, v20, v21, v22, v23, v24, v25, v26, v27])), (m0, .inl (mc0, 38, .inl nf)), (m1, .inl (mc1, 8, .inl ff))] s.heap.size = A at hD ⊢
  have hA : ∀ q : Nat, s.heap.size ≤ q → A q := fun q h => by rw [← hAe]; exact Or.inr h
  have hS : va_S A s.heap s.heap [] := va_S.rf
  have hP : va_P (dC, dI) vwCl [(h0, .inr (7, [.ref m0, v1, v2, v3, v4, .ref m1, v6, v7, v8, v9, v10, v11, v12, v13, v14, v15, v16, v17, v18, v19, v20, v21, v22, v23, v24, v25, v26, v27])), (m0, .inl (mc0, 38, .inl nf)), (m1, .inl (mc1, 8, .inl ff))] s.heap := hP
  have hl := lv_entry ([.ref h0, .int a, .int b]) (n := 3) (Nat.le_of_ble_eq_true rfl)
  rw [lg_entry_eq]
  generalize (lg_sl ([.ref h0, .int a, .int b]) ++ List.replicate (3 - (lg_sl ([.ref h0, .int a, .int b])).length) Slot.unset).toArray = ls at hl ⊢
  have hl : lv_has ls 3 [(0, .ref h0), (1, .int a), (2, .int b)] := hl
  refine lv_aload_n hx hb dX9_thrown_0 rfl (lv_at hl 0 rfl) ?_
  refine lv_iload_n hx hb dX9_thrown_1 rfl (lv_at hl 1 rfl) ?_
  have hPc := hP.sub (ws' := [(h0, .inr (7, [.ref m0, v1, v2, v3, v4, .ref m1, v6, v7, v8, v9, v10, v11, v12, v13, v14, v15, v16, v17, v18, v19, v20, v21, v22, v23, v24, v25, v26, v27])), (m0, .inl (mc0, 38, .inl nf))]) [0, 1] rfl
  have hKc := hK.sub (tys' := [(mc0, .int)]) [0] rfl
  refine vp_callSi (W.runV (As := [.int a]) (rest := []) ⟨hx, hb, hml, hown, hts⟩ (m_isShape l dC dI ad h0 a m0 v1 v2 v3 v4 (.ref m1) v6 v7 v8 v9 v10 v11 v12 v13 v14 v15 v16 v17 v18 v19 v20 v21 v22 v23 v24 v25 v26 v27 mc0 nf hnf) (cwV 1 hts g_y_thrown_m_isShape_93 rfl rfl rfl (by decide +kernel) ⟨(Nat.le_of_ble_eq_true rfl), (Nat.le_of_ble_eq_true rfl)⟩) ⟨preS_blind, va_recv hKc hPc (ci := 7) (q0 := 0) rfl rfl, fun U hU hW => ⟨rfl, preS_at hU hW hPc hKc hev⟩⟩ rfl rfl hl.1 rfl (lv_room (Nat.le_of_ble_eq_true rfl)) dX9_thrown_2 ⟨(Nat.le_of_ble_eq_true rfl), (Nat.le_of_ble_eq_true rfl)⟩) (fun r_1 hw => ?_)
  subst hw
  refine lv_if_eq (tgt := 36) hx hb dX9_thrown_5 (by decide) (fun _ => ?_) (fun c => absurd (by decide) c)
  refine lv_aload_n hx hb dX9_thrown_36 rfl (lv_at hl 0 rfl) ?_
  refine lv_ldc hx hb hown (hts _ (List.mem_of_getElem? (i := 10) rfl)) dX9_thrown_37 ?_
  have hPc := hP.sub (ws' := [(h0, .inr (7, [.ref m0, v1, v2, v3, v4, .ref m1, v6, v7, v8, v9, v10, v11, v12, v13, v14, v15, v16, v17, v18, v19, v20, v21, v22, v23, v24, v25, v26, v27])), (m1, .inl (mc1, 8, .inl ff))]) [0, 2] rfl
  have hKc := hK.sub (tys' := [(mc1, .int)]) [1] rfl
  have hDc := hD.sub (ws' := [(h0, .inr (7, [.ref m0, v1, v2, v3, v4, .ref m1, v6, v7, v8, v9, v10, v11, v12, v13, v14, v15, v16, v17, v18, v19, v20, v21, v22, v23, v24, v25, v26, v27])), (m1, .inl (mc1, 8, .inl ff))]) [0, 2] (by decide) rfl
  have hFc := va_free (wc := [(h0, .inr (7, [.ref m0, v1, v2, v3, v4, .ref m1, v6, v7, v8, v9, v10, v11, v12, v13, v14, v15, v16, v17, v18, v19, v20, v21, v22, v23, v24, v25, v26, v27])), (m1, .inl (mc1, 8, .inl ff))]) hD hS hA [0, 2] rfl
  refine va_calli (va_runV (As := [.int (-1000000001)]) (rest := []) ⟨hx, hb, hml, hown, hts⟩ (m_find_beyond l dC dI ad h0 (.ref m0) v1 v2 v3 v4 m1 v6 v7 v8 v9 v10 v11 v12 v13 v14 v15 v16 v17 v18 v19 v20 v21 v22 v23 v24 v25 v26 v27 mc1 ff s.heap.size ) (cwV 1 hts g_y_thrown_m_find_beyond_84 rfl rfl rfl (by decide +kernel) ⟨(Nat.le_of_ble_eq_true rfl), (Nat.le_of_ble_eq_true rfl)⟩) ⟨preM_blind, va_recv hKc hPc (ci := 7) (q0 := 0) rfl rfl, fun U hU hW => ⟨rfl, preM_at hU hW hPc hKc hDc hev⟩⟩ rfl rfl hl.1 rfl (lv_room (Nat.le_of_ble_eq_true rfl)) dX9_thrown_39 ⟨(Nat.le_of_ble_eq_true rfl), (Nat.le_of_ble_eq_true rfl)⟩) hS (fun q _ h => hFc q h) hFc (fun r_2 u t H1 locs ht hvm hw hB hz1 hk1 hS => ?_)
  obtain ⟨hP, hD⟩ := va_join (wr := [(m0, .inl (mc0, 38, .inl nf))]) (w1 := []) hP hD [0, 2] [1] rfl rfl (by decide) (by decide) hk1 hFc nil_P nil_D
  generalize H1 = H at hP hS ⊢
  have hP : va_P (dC, dI) vwCl [(m0, .inl (mc0, 38, .inl nf))] H := hP
  have hD : va_D A [(m0, .inl (mc0, 38, .inl nf))] := hD
  subst hw
  exact W.iret (v := (-1000000001)) hx hb hr (fun t ht hW => ⟨⟨(-1000000001), (), rfl, rfl, trivial⟩, hS.F ht⟩) hS.2.2 dX9_thrown_42

def w_y_shadow : List Cond := .code yX9_shadow cX9_shadow 3 (some .long) :: (([.methodLink RX9 93 yX9_isShape, .instanceMethod yX9_isShape, .selects RX9 yX9_isShape yX9_isShape, .initialized RX9, .code yX9_isShape cX9_isShape 2 (some .boolean), .fieldLink RX9 9 "LampShapesModel" "now" "[I", .methodLink RX9 75 yX9_within, .static yX9_within, .code yX9_within cX9_within 3 (some .boolean), .constant RX9 74 (-1000000001), .methodLink RX9 84 yX9_finding, .instanceMethod yX9_finding, .selects RX9 yX9_finding yX9_finding, .code yX9_finding cX9_finding 2 (some .int), .fieldLink RX9 23 "LampShapesModel" "found" "[I"] : List Cond) ++ wsX90)
set_option maxRecDepth 20000 in
theorem g_y_shadow_m_isShape_93 : GoodIn w_y_shadow (wsV RX9 93 RX9 yX9_isShape w_m_isShape) := goodIn_r _ [1, 2, 3, 4, 5, 6, 7, 8, 4, 9, 16, 17, 18, 19, 20, 21, 22, 23, 24, 25, 26, 27, 28, 29, 30, 31, 32, 33, 34, 35, 36, 37, 38, 39, 40, 41, 42, 43] rfl (by decide +kernel)
set_option maxRecDepth 20000 in
theorem g_y_shadow_m_find_beyond_84 : GoodIn w_y_shadow (wsV RX9 84 RX9 yX9_finding w_m_find_beyond) := goodIn_r _ [11, 12, 13, 4, 14, 15, 10, 16, 17, 18, 19, 20, 21, 22, 23, 24, 25, 26, 27, 28, 29, 30, 31, 32, 33, 34, 35, 36, 37, 38, 39, 40, 41, 42, 43] rfl (by decide +kernel)
set_option maxHeartbeats 4000000 in
set_option maxRecDepth 100000 in
theorem y_shadow (l : Launch) (dC : Nat → ClassId) (dI : Nat → Nat → Nat) (ad : Nat → Nat) (h0 : Nat) (a : Int32) (b : Int32) (m0 : Nat) (v1 : Value) (v2 : Value) (v3 : Value) (v4 : Value) (m1 : Nat) (v6 : Value) (v7 : Value) (v8 : Value) (v9 : Value) (v10 : Value) (v11 : Value) (v12 : Value) (v13 : Value) (v14 : Value) (v15 : Value) (v16 : Value) (v17 : Value) (v18 : Value) (v19 : Value) (v20 : Value) (v21 : Value) (v22 : Value) (v23 : Value) (v24 : Value) (v25 : Value) (v26 : Value) (v27 : Value) (mc0 : ClassId) (nf : Nat → Int32) (mc1 : ClassId) (ff : Nat → Int32) (sz : Nat) (hnf : ∀ j, j < 38 → nf j = fr_n j) : Met l yX9_shadow w_y_shadow ({ frames := 2, cells := 0, slots := 0, locals := 43 } : Room) (va_Pc [.ref h0, .int a, .int b] (preM dC dI ad [(mc0, .int), (mc1, .int)] [(h0, .inr (7, [.ref m0, v1, v2, v3, v4, .ref m1, v6, v7, v8, v9, v10, v11, v12, v13, v14, v15, v16, v17, v18, v19, v20, v21, v22, v23, v24, v25, v26, v27])), (m0, .inl (mc0, 38, .inl nf)), (m1, .inl (mc1, 8, .inl ff))] sz)) (va_Ql (fun (r : Int64) (_ : Unit) => (r = (-1000000001))) (fun _ _ => True) (va_A [(h0, .inr (7, [.ref m0, v1, v2, v3, v4, .ref m1, v6, v7, v8, v9, v10, v11, v12, v13, v14, v15, v16, v17, v18, v19, v20, v21, v22, v23, v24, v25, v26, v27])), (m0, .inl (mc0, 38, .inl nf)), (m1, .inl (mc1, 8, .inl ff))] sz)) 0 0 (va_A [(h0, .inr (7, [.ref m0, v1, v2, v3, v4, .ref m1, v6, v7, v8, v9, v10, v11, v12, v13, v14, v15, v16, v17, v18, v19, v20, v21, v22, v23, v24, v25, v26, v27])), (m0, .inl (mc0, 38, .inl nf)), (m1, .inl (mc1, 8, .inl ff))] sz) := by
  refine Met.ofW (cc := cX9_shadow) (maxL := 3) (ret := (some .long)) (by decide) rfl ?_
  intro p e s m args below meth c s₁ B hml hv
  obtain ⟨rfl, hsz, hP, hK, hD0, hev⟩ := hv
  have hx := B.exec
  have hb := B.bytes
  have hr := B.returns
  have hts := atoms_spec (ws := w_y_shadow) B.pre
  have hown : s.vm.findClass RX9 = some m.cls := findClass_of_methodNamed B.named
  have hlocks := B.notSynchronized
  have inX9 : ∀ w ∈ wsX90, w ∈ w_y_shadow := fun w h => List.mem_cons_of_mem _ (List.mem_append_right _ h)
  subst hsz
  have hD := hD0.self (sz := s.heap.size)
  generalize hAe : va_A [(h0, .inr (7, [.ref m0, v1, v2, v3, v4, .ref m1, v6, v7, v8, v9, v10, v11, v12, v13, v14, v15, v16, v17, v18, v19, v20, v21, v22, v23, v24, v25, v26, v27])), (m0, .inl (mc0, 38, .inl nf)), (m1, .inl (mc1, 8, .inl ff))] s.heap.size = A at hD ⊢
  have hA : ∀ q : Nat, s.heap.size ≤ q → A q := fun q h => by rw [← hAe]; exact Or.inr h
  have hS : va_S A s.heap s.heap [] := va_S.rf
  have hP : va_P (dC, dI) vwCl [(h0, .inr (7, [.ref m0, v1, v2, v3, v4, .ref m1, v6, v7, v8, v9, v10, v11, v12, v13, v14, v15, v16, v17, v18, v19, v20, v21, v22, v23, v24, v25, v26, v27])), (m0, .inl (mc0, 38, .inl nf)), (m1, .inl (mc1, 8, .inl ff))] s.heap := hP
  have hl := lv_entry ([.ref h0, .int a, .int b]) (n := 3) (Nat.le_of_ble_eq_true rfl)
  rw [lg_entry_eq]
  generalize (lg_sl ([.ref h0, .int a, .int b]) ++ List.replicate (3 - (lg_sl ([.ref h0, .int a, .int b])).length) Slot.unset).toArray = ls at hl ⊢
  have hl : lv_has ls 3 [(0, .ref h0), (1, .int a), (2, .int b)] := hl
  refine lv_aload_n hx hb dX9_shadow_0 rfl (lv_at hl 0 rfl) ?_
  refine lv_iload_n hx hb dX9_shadow_1 rfl (lv_at hl 1 rfl) ?_
  have hPc := hP.sub (ws' := [(h0, .inr (7, [.ref m0, v1, v2, v3, v4, .ref m1, v6, v7, v8, v9, v10, v11, v12, v13, v14, v15, v16, v17, v18, v19, v20, v21, v22, v23, v24, v25, v26, v27])), (m0, .inl (mc0, 38, .inl nf))]) [0, 1] rfl
  have hKc := hK.sub (tys' := [(mc0, .int)]) [0] rfl
  refine vp_callSi (W.runV (As := [.int a]) (rest := []) ⟨hx, hb, hml, hown, hts⟩ (m_isShape l dC dI ad h0 a m0 v1 v2 v3 v4 (.ref m1) v6 v7 v8 v9 v10 v11 v12 v13 v14 v15 v16 v17 v18 v19 v20 v21 v22 v23 v24 v25 v26 v27 mc0 nf hnf) (cwV 1 hts g_y_shadow_m_isShape_93 rfl rfl rfl (by decide +kernel) ⟨(Nat.le_of_ble_eq_true rfl), (Nat.le_of_ble_eq_true rfl)⟩) ⟨preS_blind, va_recv hKc hPc (ci := 7) (q0 := 0) rfl rfl, fun U hU hW => ⟨rfl, preS_at hU hW hPc hKc hev⟩⟩ rfl rfl hl.1 rfl (lv_room (Nat.le_of_ble_eq_true rfl)) dX9_shadow_2 ⟨(Nat.le_of_ble_eq_true rfl), (Nat.le_of_ble_eq_true rfl)⟩) (fun r_1 hw => ?_)
  subst hw
  refine lv_if_eq (tgt := 24) hx hb dX9_shadow_5 (by decide) (fun _ => ?_) (fun c => absurd (by decide) c)
  refine lv_aload_n hx hb dX9_shadow_24 rfl (lv_at hl 0 rfl) ?_
  refine lv_ldc hx hb hown (hts _ (List.mem_of_getElem? (i := 10) rfl)) dX9_shadow_25 ?_
  have hPc := hP.sub (ws' := [(h0, .inr (7, [.ref m0, v1, v2, v3, v4, .ref m1, v6, v7, v8, v9, v10, v11, v12, v13, v14, v15, v16, v17, v18, v19, v20, v21, v22, v23, v24, v25, v26, v27])), (m1, .inl (mc1, 8, .inl ff))]) [0, 2] rfl
  have hKc := hK.sub (tys' := [(mc1, .int)]) [1] rfl
  have hDc := hD.sub (ws' := [(h0, .inr (7, [.ref m0, v1, v2, v3, v4, .ref m1, v6, v7, v8, v9, v10, v11, v12, v13, v14, v15, v16, v17, v18, v19, v20, v21, v22, v23, v24, v25, v26, v27])), (m1, .inl (mc1, 8, .inl ff))]) [0, 2] (by decide) rfl
  have hFc := va_free (wc := [(h0, .inr (7, [.ref m0, v1, v2, v3, v4, .ref m1, v6, v7, v8, v9, v10, v11, v12, v13, v14, v15, v16, v17, v18, v19, v20, v21, v22, v23, v24, v25, v26, v27])), (m1, .inl (mc1, 8, .inl ff))]) hD hS hA [0, 2] rfl
  refine va_calli (va_runV (As := [.int (-1000000001)]) (rest := []) ⟨hx, hb, hml, hown, hts⟩ (m_find_beyond l dC dI ad h0 (.ref m0) v1 v2 v3 v4 m1 v6 v7 v8 v9 v10 v11 v12 v13 v14 v15 v16 v17 v18 v19 v20 v21 v22 v23 v24 v25 v26 v27 mc1 ff s.heap.size ) (cwV 1 hts g_y_shadow_m_find_beyond_84 rfl rfl rfl (by decide +kernel) ⟨(Nat.le_of_ble_eq_true rfl), (Nat.le_of_ble_eq_true rfl)⟩) ⟨preM_blind, va_recv hKc hPc (ci := 7) (q0 := 0) rfl rfl, fun U hU hW => ⟨rfl, preM_at hU hW hPc hKc hDc hev⟩⟩ rfl rfl hl.1 rfl (lv_room (Nat.le_of_ble_eq_true rfl)) dX9_shadow_27 ⟨(Nat.le_of_ble_eq_true rfl), (Nat.le_of_ble_eq_true rfl)⟩) hS (fun q _ h => hFc q h) hFc (fun r_2 u t H1 locs ht hvm hw hB hz1 hk1 hS => ?_)
  obtain ⟨hP, hD⟩ := va_join (wr := [(m0, .inl (mc0, 38, .inl nf))]) (w1 := []) hP hD [0, 2] [1] rfl rfl (by decide) (by decide) hk1 hFc nil_P nil_D
  generalize H1 = H at hP hS ⊢
  have hP : va_P (dC, dI) vwCl [(m0, .inl (mc0, 38, .inl nf))] H := hP
  have hD : va_D A [(m0, .inl (mc0, 38, .inl nf))] := hD
  subst hw
  refine lv_i2l (v := (-1000000001)) hx hb dX9_shadow_30 (by decide) ?_
  exact W.lret (v := (-1000000001)) hx hb hr (fun t ht hW => ⟨⟨(-1000000001), (), rfl, rfl, trivial⟩, hS.F ht⟩) hS.2.2 dX9_shadow_31

def w_y_hold : List Cond := .code yX9_hold cX9_hold 3 (some .int) :: (([.methodLink RX9 93 yX9_isShape, .instanceMethod yX9_isShape, .selects RX9 yX9_isShape yX9_isShape, .initialized RX9, .code yX9_isShape cX9_isShape 2 (some .boolean), .fieldLink RX9 9 "LampShapesModel" "now" "[I", .methodLink RX9 75 yX9_within, .static yX9_within, .code yX9_within cX9_within 3 (some .boolean), .constant RX9 74 (-1000000001), .methodLink RX9 84 yX9_finding, .instanceMethod yX9_finding, .selects RX9 yX9_finding yX9_finding, .code yX9_finding cX9_finding 2 (some .int), .fieldLink RX9 23 "LampShapesModel" "found" "[I"] : List Cond) ++ wsX90)
set_option maxRecDepth 20000 in
theorem g_y_hold_m_isShape_93 : GoodIn w_y_hold (wsV RX9 93 RX9 yX9_isShape w_m_isShape) := goodIn_r _ [1, 2, 3, 4, 5, 6, 7, 8, 4, 9, 16, 17, 18, 19, 20, 21, 22, 23, 24, 25, 26, 27, 28, 29, 30, 31, 32, 33, 34, 35, 36, 37, 38, 39, 40, 41, 42, 43] rfl (by decide +kernel)
set_option maxRecDepth 20000 in
theorem g_y_hold_m_find_beyond_84 : GoodIn w_y_hold (wsV RX9 84 RX9 yX9_finding w_m_find_beyond) := goodIn_r _ [11, 12, 13, 4, 14, 15, 10, 16, 17, 18, 19, 20, 21, 22, 23, 24, 25, 26, 27, 28, 29, 30, 31, 32, 33, 34, 35, 36, 37, 38, 39, 40, 41, 42, 43] rfl (by decide +kernel)
set_option maxHeartbeats 4000000 in
set_option maxRecDepth 100000 in
theorem y_hold (l : Launch) (dC : Nat → ClassId) (dI : Nat → Nat → Nat) (ad : Nat → Nat) (h0 : Nat) (a : Int32) (b : Int32) (m0 : Nat) (v1 : Value) (v2 : Value) (v3 : Value) (v4 : Value) (m1 : Nat) (v6 : Value) (v7 : Value) (v8 : Value) (v9 : Value) (v10 : Value) (v11 : Value) (v12 : Value) (v13 : Value) (v14 : Value) (v15 : Value) (v16 : Value) (v17 : Value) (v18 : Value) (v19 : Value) (v20 : Value) (v21 : Value) (v22 : Value) (v23 : Value) (v24 : Value) (v25 : Value) (v26 : Value) (v27 : Value) (mc0 : ClassId) (nf : Nat → Int32) (mc1 : ClassId) (ff : Nat → Int32) (sz : Nat) (hnf : ∀ j, j < 38 → nf j = fr_n j) : Met l yX9_hold w_y_hold ({ frames := 2, cells := 0, slots := 0, locals := 43 } : Room) (va_Pc [.ref h0, .int a, .int b] (preM dC dI ad [(mc0, .int), (mc1, .int)] [(h0, .inr (7, [.ref m0, v1, v2, v3, v4, .ref m1, v6, v7, v8, v9, v10, v11, v12, v13, v14, v15, v16, v17, v18, v19, v20, v21, v22, v23, v24, v25, v26, v27])), (m0, .inl (mc0, 38, .inl nf)), (m1, .inl (mc1, 8, .inl ff))] sz)) (va_Qi (fun (r : Int32) (_ : Unit) => (r = (-1000000001))) (fun _ _ => True) (va_A [(h0, .inr (7, [.ref m0, v1, v2, v3, v4, .ref m1, v6, v7, v8, v9, v10, v11, v12, v13, v14, v15, v16, v17, v18, v19, v20, v21, v22, v23, v24, v25, v26, v27])), (m0, .inl (mc0, 38, .inl nf)), (m1, .inl (mc1, 8, .inl ff))] sz)) 0 0 (va_A [(h0, .inr (7, [.ref m0, v1, v2, v3, v4, .ref m1, v6, v7, v8, v9, v10, v11, v12, v13, v14, v15, v16, v17, v18, v19, v20, v21, v22, v23, v24, v25, v26, v27])), (m0, .inl (mc0, 38, .inl nf)), (m1, .inl (mc1, 8, .inl ff))] sz) := by
  refine Met.ofW (cc := cX9_hold) (maxL := 3) (ret := (some .int)) (by decide) rfl ?_
  intro p e s m args below meth c s₁ B hml hv
  obtain ⟨rfl, hsz, hP, hK, hD0, hev⟩ := hv
  have hx := B.exec
  have hb := B.bytes
  have hr := B.returns
  have hts := atoms_spec (ws := w_y_hold) B.pre
  have hown : s.vm.findClass RX9 = some m.cls := findClass_of_methodNamed B.named
  have hlocks := B.notSynchronized
  have inX9 : ∀ w ∈ wsX90, w ∈ w_y_hold := fun w h => List.mem_cons_of_mem _ (List.mem_append_right _ h)
  subst hsz
  have hD := hD0.self (sz := s.heap.size)
  generalize hAe : va_A [(h0, .inr (7, [.ref m0, v1, v2, v3, v4, .ref m1, v6, v7, v8, v9, v10, v11, v12, v13, v14, v15, v16, v17, v18, v19, v20, v21, v22, v23, v24, v25, v26, v27])), (m0, .inl (mc0, 38, .inl nf)), (m1, .inl (mc1, 8, .inl ff))] s.heap.size = A at hD ⊢
  have hA : ∀ q : Nat, s.heap.size ≤ q → A q := fun q h => by rw [← hAe]; exact Or.inr h
  have hS : va_S A s.heap s.heap [] := va_S.rf
  have hP : va_P (dC, dI) vwCl [(h0, .inr (7, [.ref m0, v1, v2, v3, v4, .ref m1, v6, v7, v8, v9, v10, v11, v12, v13, v14, v15, v16, v17, v18, v19, v20, v21, v22, v23, v24, v25, v26, v27])), (m0, .inl (mc0, 38, .inl nf)), (m1, .inl (mc1, 8, .inl ff))] s.heap := hP
  have hl := lv_entry ([.ref h0, .int a, .int b]) (n := 3) (Nat.le_of_ble_eq_true rfl)
  rw [lg_entry_eq]
  generalize (lg_sl ([.ref h0, .int a, .int b]) ++ List.replicate (3 - (lg_sl ([.ref h0, .int a, .int b])).length) Slot.unset).toArray = ls at hl ⊢
  have hl : lv_has ls 3 [(0, .ref h0), (1, .int a), (2, .int b)] := hl
  refine lv_aload_n hx hb dX9_hold_0 rfl (lv_at hl 0 rfl) ?_
  refine lv_iload_n hx hb dX9_hold_1 rfl (lv_at hl 1 rfl) ?_
  have hPc := hP.sub (ws' := [(h0, .inr (7, [.ref m0, v1, v2, v3, v4, .ref m1, v6, v7, v8, v9, v10, v11, v12, v13, v14, v15, v16, v17, v18, v19, v20, v21, v22, v23, v24, v25, v26, v27])), (m0, .inl (mc0, 38, .inl nf))]) [0, 1] rfl
  have hKc := hK.sub (tys' := [(mc0, .int)]) [0] rfl
  refine vp_callSi (W.runV (As := [.int a]) (rest := []) ⟨hx, hb, hml, hown, hts⟩ (m_isShape l dC dI ad h0 a m0 v1 v2 v3 v4 (.ref m1) v6 v7 v8 v9 v10 v11 v12 v13 v14 v15 v16 v17 v18 v19 v20 v21 v22 v23 v24 v25 v26 v27 mc0 nf hnf) (cwV 1 hts g_y_hold_m_isShape_93 rfl rfl rfl (by decide +kernel) ⟨(Nat.le_of_ble_eq_true rfl), (Nat.le_of_ble_eq_true rfl)⟩) ⟨preS_blind, va_recv hKc hPc (ci := 7) (q0 := 0) rfl rfl, fun U hU hW => ⟨rfl, preS_at hU hW hPc hKc hev⟩⟩ rfl rfl hl.1 rfl (lv_room (Nat.le_of_ble_eq_true rfl)) dX9_hold_2 ⟨(Nat.le_of_ble_eq_true rfl), (Nat.le_of_ble_eq_true rfl)⟩) (fun r_1 hw => ?_)
  subst hw
  refine lv_if_eq (tgt := 15) hx hb dX9_hold_5 (by decide) (fun _ => ?_) (fun c => absurd (by decide) c)
  refine lv_aload_n hx hb dX9_hold_15 rfl (lv_at hl 0 rfl) ?_
  refine lv_ldc hx hb hown (hts _ (List.mem_of_getElem? (i := 10) rfl)) dX9_hold_16 ?_
  have hPc := hP.sub (ws' := [(h0, .inr (7, [.ref m0, v1, v2, v3, v4, .ref m1, v6, v7, v8, v9, v10, v11, v12, v13, v14, v15, v16, v17, v18, v19, v20, v21, v22, v23, v24, v25, v26, v27])), (m1, .inl (mc1, 8, .inl ff))]) [0, 2] rfl
  have hKc := hK.sub (tys' := [(mc1, .int)]) [1] rfl
  have hDc := hD.sub (ws' := [(h0, .inr (7, [.ref m0, v1, v2, v3, v4, .ref m1, v6, v7, v8, v9, v10, v11, v12, v13, v14, v15, v16, v17, v18, v19, v20, v21, v22, v23, v24, v25, v26, v27])), (m1, .inl (mc1, 8, .inl ff))]) [0, 2] (by decide) rfl
  have hFc := va_free (wc := [(h0, .inr (7, [.ref m0, v1, v2, v3, v4, .ref m1, v6, v7, v8, v9, v10, v11, v12, v13, v14, v15, v16, v17, v18, v19, v20, v21, v22, v23, v24, v25, v26, v27])), (m1, .inl (mc1, 8, .inl ff))]) hD hS hA [0, 2] rfl
  refine va_calli (va_runV (As := [.int (-1000000001)]) (rest := []) ⟨hx, hb, hml, hown, hts⟩ (m_find_beyond l dC dI ad h0 (.ref m0) v1 v2 v3 v4 m1 v6 v7 v8 v9 v10 v11 v12 v13 v14 v15 v16 v17 v18 v19 v20 v21 v22 v23 v24 v25 v26 v27 mc1 ff s.heap.size ) (cwV 1 hts g_y_hold_m_find_beyond_84 rfl rfl rfl (by decide +kernel) ⟨(Nat.le_of_ble_eq_true rfl), (Nat.le_of_ble_eq_true rfl)⟩) ⟨preM_blind, va_recv hKc hPc (ci := 7) (q0 := 0) rfl rfl, fun U hU hW => ⟨rfl, preM_at hU hW hPc hKc hDc hev⟩⟩ rfl rfl hl.1 rfl (lv_room (Nat.le_of_ble_eq_true rfl)) dX9_hold_18 ⟨(Nat.le_of_ble_eq_true rfl), (Nat.le_of_ble_eq_true rfl)⟩) hS (fun q _ h => hFc q h) hFc (fun r_2 u t H1 locs ht hvm hw hB hz1 hk1 hS => ?_)
  obtain ⟨hP, hD⟩ := va_join (wr := [(m0, .inl (mc0, 38, .inl nf))]) (w1 := []) hP hD [0, 2] [1] rfl rfl (by decide) (by decide) hk1 hFc nil_P nil_D
  generalize H1 = H at hP hS ⊢
  have hP : va_P (dC, dI) vwCl [(m0, .inl (mc0, 38, .inl nf))] H := hP
  have hD : va_D A [(m0, .inl (mc0, 38, .inl nf))] := hD
  subst hw
  exact W.iret (v := (-1000000001)) hx hb hr (fun t ht hW => ⟨⟨(-1000000001), (), rfl, rfl, trivial⟩, hS.F ht⟩) hS.2.2 dX9_hold_21

def w_y_move : List Cond := .code yX9_move cX9_move 4 (some .int) :: (([.methodLink RX9 93 yX9_isShape, .instanceMethod yX9_isShape, .selects RX9 yX9_isShape yX9_isShape, .initialized RX9, .code yX9_isShape cX9_isShape 2 (some .boolean), .fieldLink RX9 9 "LampShapesModel" "now" "[I", .methodLink RX9 75 yX9_within, .static yX9_within, .code yX9_within cX9_within 3 (some .boolean), .constant RX9 74 (-1000000001), .methodLink RX9 84 yX9_finding, .instanceMethod yX9_finding, .selects RX9 yX9_finding yX9_finding, .code yX9_finding cX9_finding 2 (some .int), .fieldLink RX9 23 "LampShapesModel" "found" "[I"] : List Cond) ++ wsX90)
set_option maxRecDepth 20000 in
theorem g_y_move_m_isShape_93 : GoodIn w_y_move (wsV RX9 93 RX9 yX9_isShape w_m_isShape) := goodIn_r _ [1, 2, 3, 4, 5, 6, 7, 8, 4, 9, 16, 17, 18, 19, 20, 21, 22, 23, 24, 25, 26, 27, 28, 29, 30, 31, 32, 33, 34, 35, 36, 37, 38, 39, 40, 41, 42, 43] rfl (by decide +kernel)
set_option maxRecDepth 20000 in
theorem g_y_move_m_find_beyond_84 : GoodIn w_y_move (wsV RX9 84 RX9 yX9_finding w_m_find_beyond) := goodIn_r _ [11, 12, 13, 4, 14, 15, 10, 16, 17, 18, 19, 20, 21, 22, 23, 24, 25, 26, 27, 28, 29, 30, 31, 32, 33, 34, 35, 36, 37, 38, 39, 40, 41, 42, 43] rfl (by decide +kernel)
set_option maxHeartbeats 4000000 in
set_option maxRecDepth 100000 in
theorem y_move (l : Launch) (dC : Nat → ClassId) (dI : Nat → Nat → Nat) (ad : Nat → Nat) (h0 : Nat) (a : Int32) (b : Int32) (m0 : Nat) (v1 : Value) (v2 : Value) (v3 : Value) (v4 : Value) (m1 : Nat) (v6 : Value) (v7 : Value) (v8 : Value) (v9 : Value) (v10 : Value) (v11 : Value) (v12 : Value) (v13 : Value) (v14 : Value) (v15 : Value) (v16 : Value) (v17 : Value) (v18 : Value) (v19 : Value) (v20 : Value) (v21 : Value) (v22 : Value) (v23 : Value) (v24 : Value) (v25 : Value) (v26 : Value) (v27 : Value) (mc0 : ClassId) (nf : Nat → Int32) (mc1 : ClassId) (ff : Nat → Int32) (sz : Nat) (hnf : ∀ j, j < 38 → nf j = fr_n j) : Met l yX9_move w_y_move ({ frames := 2, cells := 0, slots := 0, locals := 43 } : Room) (va_Pc [.ref h0, .int a, .int b] (preM dC dI ad [(mc0, .int), (mc1, .int)] [(h0, .inr (7, [.ref m0, v1, v2, v3, v4, .ref m1, v6, v7, v8, v9, v10, v11, v12, v13, v14, v15, v16, v17, v18, v19, v20, v21, v22, v23, v24, v25, v26, v27])), (m0, .inl (mc0, 38, .inl nf)), (m1, .inl (mc1, 8, .inl ff))] sz)) (va_Qi (fun (r : Int32) (_ : Unit) => (r = (-1000000001))) (fun _ _ => True) (va_A [(h0, .inr (7, [.ref m0, v1, v2, v3, v4, .ref m1, v6, v7, v8, v9, v10, v11, v12, v13, v14, v15, v16, v17, v18, v19, v20, v21, v22, v23, v24, v25, v26, v27])), (m0, .inl (mc0, 38, .inl nf)), (m1, .inl (mc1, 8, .inl ff))] sz)) 0 0 (va_A [(h0, .inr (7, [.ref m0, v1, v2, v3, v4, .ref m1, v6, v7, v8, v9, v10, v11, v12, v13, v14, v15, v16, v17, v18, v19, v20, v21, v22, v23, v24, v25, v26, v27])), (m0, .inl (mc0, 38, .inl nf)), (m1, .inl (mc1, 8, .inl ff))] sz) := by
  refine Met.ofW (cc := cX9_move) (maxL := 4) (ret := (some .int)) (by decide) rfl ?_
  intro p e s m args below meth c s₁ B hml hv
  obtain ⟨rfl, hsz, hP, hK, hD0, hev⟩ := hv
  have hx := B.exec
  have hb := B.bytes
  have hr := B.returns
  have hts := atoms_spec (ws := w_y_move) B.pre
  have hown : s.vm.findClass RX9 = some m.cls := findClass_of_methodNamed B.named
  have hlocks := B.notSynchronized
  have inX9 : ∀ w ∈ wsX90, w ∈ w_y_move := fun w h => List.mem_cons_of_mem _ (List.mem_append_right _ h)
  subst hsz
  have hD := hD0.self (sz := s.heap.size)
  generalize hAe : va_A [(h0, .inr (7, [.ref m0, v1, v2, v3, v4, .ref m1, v6, v7, v8, v9, v10, v11, v12, v13, v14, v15, v16, v17, v18, v19, v20, v21, v22, v23, v24, v25, v26, v27])), (m0, .inl (mc0, 38, .inl nf)), (m1, .inl (mc1, 8, .inl ff))] s.heap.size = A at hD ⊢
  have hA : ∀ q : Nat, s.heap.size ≤ q → A q := fun q h => by rw [← hAe]; exact Or.inr h
  have hS : va_S A s.heap s.heap [] := va_S.rf
  have hP : va_P (dC, dI) vwCl [(h0, .inr (7, [.ref m0, v1, v2, v3, v4, .ref m1, v6, v7, v8, v9, v10, v11, v12, v13, v14, v15, v16, v17, v18, v19, v20, v21, v22, v23, v24, v25, v26, v27])), (m0, .inl (mc0, 38, .inl nf)), (m1, .inl (mc1, 8, .inl ff))] s.heap := hP
  have hl := lv_entry ([.ref h0, .int a, .int b]) (n := 4) (Nat.le_of_ble_eq_true rfl)
  rw [lg_entry_eq]
  generalize (lg_sl ([.ref h0, .int a, .int b]) ++ List.replicate (4 - (lg_sl ([.ref h0, .int a, .int b])).length) Slot.unset).toArray = ls at hl ⊢
  have hl : lv_has ls 4 [(0, .ref h0), (1, .int a), (2, .int b)] := hl
  refine lv_aload_n hx hb dX9_move_0 rfl (lv_at hl 0 rfl) ?_
  refine lv_iload_n hx hb dX9_move_1 rfl (lv_at hl 1 rfl) ?_
  have hPc := hP.sub (ws' := [(h0, .inr (7, [.ref m0, v1, v2, v3, v4, .ref m1, v6, v7, v8, v9, v10, v11, v12, v13, v14, v15, v16, v17, v18, v19, v20, v21, v22, v23, v24, v25, v26, v27])), (m0, .inl (mc0, 38, .inl nf))]) [0, 1] rfl
  have hKc := hK.sub (tys' := [(mc0, .int)]) [0] rfl
  refine vp_callSi (W.runV (As := [.int a]) (rest := []) ⟨hx, hb, hml, hown, hts⟩ (m_isShape l dC dI ad h0 a m0 v1 v2 v3 v4 (.ref m1) v6 v7 v8 v9 v10 v11 v12 v13 v14 v15 v16 v17 v18 v19 v20 v21 v22 v23 v24 v25 v26 v27 mc0 nf hnf) (cwV 1 hts g_y_move_m_isShape_93 rfl rfl rfl (by decide +kernel) ⟨(Nat.le_of_ble_eq_true rfl), (Nat.le_of_ble_eq_true rfl)⟩) ⟨preS_blind, va_recv hKc hPc (ci := 7) (q0 := 0) rfl rfl, fun U hU hW => ⟨rfl, preS_at hU hW hPc hKc hev⟩⟩ rfl rfl hl.1 rfl (lv_room (Nat.le_of_ble_eq_true rfl)) dX9_move_2 ⟨(Nat.le_of_ble_eq_true rfl), (Nat.le_of_ble_eq_true rfl)⟩) (fun r_1 hw => ?_)
  subst hw
  refine lv_if_eq (tgt := 15) hx hb dX9_move_5 (by decide) (fun _ => ?_) (fun c => absurd (by decide) c)
  refine lv_aload_n hx hb dX9_move_15 rfl (lv_at hl 0 rfl) ?_
  refine lv_ldc hx hb hown (hts _ (List.mem_of_getElem? (i := 10) rfl)) dX9_move_16 ?_
  have hPc := hP.sub (ws' := [(h0, .inr (7, [.ref m0, v1, v2, v3, v4, .ref m1, v6, v7, v8, v9, v10, v11, v12, v13, v14, v15, v16, v17, v18, v19, v20, v21, v22, v23, v24, v25, v26, v27])), (m1, .inl (mc1, 8, .inl ff))]) [0, 2] rfl
  have hKc := hK.sub (tys' := [(mc1, .int)]) [1] rfl
  have hDc := hD.sub (ws' := [(h0, .inr (7, [.ref m0, v1, v2, v3, v4, .ref m1, v6, v7, v8, v9, v10, v11, v12, v13, v14, v15, v16, v17, v18, v19, v20, v21, v22, v23, v24, v25, v26, v27])), (m1, .inl (mc1, 8, .inl ff))]) [0, 2] (by decide) rfl
  have hFc := va_free (wc := [(h0, .inr (7, [.ref m0, v1, v2, v3, v4, .ref m1, v6, v7, v8, v9, v10, v11, v12, v13, v14, v15, v16, v17, v18, v19, v20, v21, v22, v23, v24, v25, v26, v27])), (m1, .inl (mc1, 8, .inl ff))]) hD hS hA [0, 2] rfl
  refine va_calli (va_runV (As := [.int (-1000000001)]) (rest := []) ⟨hx, hb, hml, hown, hts⟩ (m_find_beyond l dC dI ad h0 (.ref m0) v1 v2 v3 v4 m1 v6 v7 v8 v9 v10 v11 v12 v13 v14 v15 v16 v17 v18 v19 v20 v21 v22 v23 v24 v25 v26 v27 mc1 ff s.heap.size ) (cwV 1 hts g_y_move_m_find_beyond_84 rfl rfl rfl (by decide +kernel) ⟨(Nat.le_of_ble_eq_true rfl), (Nat.le_of_ble_eq_true rfl)⟩) ⟨preM_blind, va_recv hKc hPc (ci := 7) (q0 := 0) rfl rfl, fun U hU hW => ⟨rfl, preM_at hU hW hPc hKc hDc hev⟩⟩ rfl rfl hl.1 rfl (lv_room (Nat.le_of_ble_eq_true rfl)) dX9_move_18 ⟨(Nat.le_of_ble_eq_true rfl), (Nat.le_of_ble_eq_true rfl)⟩) hS (fun q _ h => hFc q h) hFc (fun r_2 u t H1 locs ht hvm hw hB hz1 hk1 hS => ?_)
  obtain ⟨hP, hD⟩ := va_join (wr := [(m0, .inl (mc0, 38, .inl nf))]) (w1 := []) hP hD [0, 2] [1] rfl rfl (by decide) (by decide) hk1 hFc nil_P nil_D
  generalize H1 = H at hP hS ⊢
  have hP : va_P (dC, dI) vwCl [(m0, .inl (mc0, 38, .inl nf))] H := hP
  have hD : va_D A [(m0, .inl (mc0, 38, .inl nf))] := hD
  subst hw
  exact W.iret (v := (-1000000001)) hx hb hr (fun t ht hW => ⟨⟨(-1000000001), (), rfl, rfl, trivial⟩, hS.F ht⟩) hS.2.2 dX9_move_21

def w_y_drop : List Cond := .code yX9_drop cX9_drop 3 (some .int) :: (([.methodLink RX9 93 yX9_isShape, .instanceMethod yX9_isShape, .selects RX9 yX9_isShape yX9_isShape, .initialized RX9, .code yX9_isShape cX9_isShape 2 (some .boolean), .fieldLink RX9 9 "LampShapesModel" "now" "[I", .methodLink RX9 75 yX9_within, .static yX9_within, .code yX9_within cX9_within 3 (some .boolean), .constant RX9 74 (-1000000001), .methodLink RX9 84 yX9_finding, .instanceMethod yX9_finding, .selects RX9 yX9_finding yX9_finding, .code yX9_finding cX9_finding 2 (some .int), .fieldLink RX9 23 "LampShapesModel" "found" "[I"] : List Cond) ++ wsX90)
set_option maxRecDepth 20000 in
theorem g_y_drop_m_isShape_93 : GoodIn w_y_drop (wsV RX9 93 RX9 yX9_isShape w_m_isShape) := goodIn_r _ [1, 2, 3, 4, 5, 6, 7, 8, 4, 9, 16, 17, 18, 19, 20, 21, 22, 23, 24, 25, 26, 27, 28, 29, 30, 31, 32, 33, 34, 35, 36, 37, 38, 39, 40, 41, 42, 43] rfl (by decide +kernel)
set_option maxRecDepth 20000 in
theorem g_y_drop_m_find_beyond_84 : GoodIn w_y_drop (wsV RX9 84 RX9 yX9_finding w_m_find_beyond) := goodIn_r _ [11, 12, 13, 4, 14, 15, 10, 16, 17, 18, 19, 20, 21, 22, 23, 24, 25, 26, 27, 28, 29, 30, 31, 32, 33, 34, 35, 36, 37, 38, 39, 40, 41, 42, 43] rfl (by decide +kernel)
set_option maxHeartbeats 4000000 in
set_option maxRecDepth 100000 in
theorem y_drop (l : Launch) (dC : Nat → ClassId) (dI : Nat → Nat → Nat) (ad : Nat → Nat) (h0 : Nat) (a : Int32) (m0 : Nat) (v1 : Value) (v2 : Value) (v3 : Value) (v4 : Value) (m1 : Nat) (v6 : Value) (v7 : Value) (v8 : Value) (v9 : Value) (v10 : Value) (v11 : Value) (v12 : Value) (v13 : Value) (v14 : Value) (v15 : Value) (v16 : Value) (v17 : Value) (v18 : Value) (v19 : Value) (v20 : Value) (v21 : Value) (v22 : Value) (v23 : Value) (v24 : Value) (v25 : Value) (v26 : Value) (v27 : Value) (mc0 : ClassId) (nf : Nat → Int32) (mc1 : ClassId) (ff : Nat → Int32) (sz : Nat) (hnf : ∀ j, j < 38 → nf j = fr_n j) : Met l yX9_drop w_y_drop ({ frames := 2, cells := 0, slots := 0, locals := 43 } : Room) (va_Pc [.ref h0, .int a] (preM dC dI ad [(mc0, .int), (mc1, .int)] [(h0, .inr (7, [.ref m0, v1, v2, v3, v4, .ref m1, v6, v7, v8, v9, v10, v11, v12, v13, v14, v15, v16, v17, v18, v19, v20, v21, v22, v23, v24, v25, v26, v27])), (m0, .inl (mc0, 38, .inl nf)), (m1, .inl (mc1, 8, .inl ff))] sz)) (va_Qi (fun (r : Int32) (_ : Unit) => (r = (-1000000001))) (fun _ _ => True) (va_A [(h0, .inr (7, [.ref m0, v1, v2, v3, v4, .ref m1, v6, v7, v8, v9, v10, v11, v12, v13, v14, v15, v16, v17, v18, v19, v20, v21, v22, v23, v24, v25, v26, v27])), (m0, .inl (mc0, 38, .inl nf)), (m1, .inl (mc1, 8, .inl ff))] sz)) 0 0 (va_A [(h0, .inr (7, [.ref m0, v1, v2, v3, v4, .ref m1, v6, v7, v8, v9, v10, v11, v12, v13, v14, v15, v16, v17, v18, v19, v20, v21, v22, v23, v24, v25, v26, v27])), (m0, .inl (mc0, 38, .inl nf)), (m1, .inl (mc1, 8, .inl ff))] sz) := by
  refine Met.ofW (cc := cX9_drop) (maxL := 3) (ret := (some .int)) (by decide) rfl ?_
  intro p e s m args below meth c s₁ B hml hv
  obtain ⟨rfl, hsz, hP, hK, hD0, hev⟩ := hv
  have hx := B.exec
  have hb := B.bytes
  have hr := B.returns
  have hts := atoms_spec (ws := w_y_drop) B.pre
  have hown : s.vm.findClass RX9 = some m.cls := findClass_of_methodNamed B.named
  have hlocks := B.notSynchronized
  have inX9 : ∀ w ∈ wsX90, w ∈ w_y_drop := fun w h => List.mem_cons_of_mem _ (List.mem_append_right _ h)
  subst hsz
  have hD := hD0.self (sz := s.heap.size)
  generalize hAe : va_A [(h0, .inr (7, [.ref m0, v1, v2, v3, v4, .ref m1, v6, v7, v8, v9, v10, v11, v12, v13, v14, v15, v16, v17, v18, v19, v20, v21, v22, v23, v24, v25, v26, v27])), (m0, .inl (mc0, 38, .inl nf)), (m1, .inl (mc1, 8, .inl ff))] s.heap.size = A at hD ⊢
  have hA : ∀ q : Nat, s.heap.size ≤ q → A q := fun q h => by rw [← hAe]; exact Or.inr h
  have hS : va_S A s.heap s.heap [] := va_S.rf
  have hP : va_P (dC, dI) vwCl [(h0, .inr (7, [.ref m0, v1, v2, v3, v4, .ref m1, v6, v7, v8, v9, v10, v11, v12, v13, v14, v15, v16, v17, v18, v19, v20, v21, v22, v23, v24, v25, v26, v27])), (m0, .inl (mc0, 38, .inl nf)), (m1, .inl (mc1, 8, .inl ff))] s.heap := hP
  have hl := lv_entry ([.ref h0, .int a]) (n := 3) (Nat.le_of_ble_eq_true rfl)
  rw [lg_entry_eq]
  generalize (lg_sl ([.ref h0, .int a]) ++ List.replicate (3 - (lg_sl ([.ref h0, .int a])).length) Slot.unset).toArray = ls at hl ⊢
  have hl : lv_has ls 3 [(0, .ref h0), (1, .int a)] := hl
  refine lv_aload_n hx hb dX9_drop_0 rfl (lv_at hl 0 rfl) ?_
  refine lv_iload_n hx hb dX9_drop_1 rfl (lv_at hl 1 rfl) ?_
  have hPc := hP.sub (ws' := [(h0, .inr (7, [.ref m0, v1, v2, v3, v4, .ref m1, v6, v7, v8, v9, v10, v11, v12, v13, v14, v15, v16, v17, v18, v19, v20, v21, v22, v23, v24, v25, v26, v27])), (m0, .inl (mc0, 38, .inl nf))]) [0, 1] rfl
  have hKc := hK.sub (tys' := [(mc0, .int)]) [0] rfl
  refine vp_callSi (W.runV (As := [.int a]) (rest := []) ⟨hx, hb, hml, hown, hts⟩ (m_isShape l dC dI ad h0 a m0 v1 v2 v3 v4 (.ref m1) v6 v7 v8 v9 v10 v11 v12 v13 v14 v15 v16 v17 v18 v19 v20 v21 v22 v23 v24 v25 v26 v27 mc0 nf hnf) (cwV 1 hts g_y_drop_m_isShape_93 rfl rfl rfl (by decide +kernel) ⟨(Nat.le_of_ble_eq_true rfl), (Nat.le_of_ble_eq_true rfl)⟩) ⟨preS_blind, va_recv hKc hPc (ci := 7) (q0 := 0) rfl rfl, fun U hU hW => ⟨rfl, preS_at hU hW hPc hKc hev⟩⟩ rfl rfl hl.1 rfl (lv_room (Nat.le_of_ble_eq_true rfl)) dX9_drop_2 ⟨(Nat.le_of_ble_eq_true rfl), (Nat.le_of_ble_eq_true rfl)⟩) (fun r_1 hw => ?_)
  subst hw
  refine lv_if_ne (tgt := 15) hx hb dX9_drop_5 (by decide) (fun c => absurd (by decide) c) (fun _ => ?_)
  refine lv_aload_n hx hb dX9_drop_8 rfl (lv_at hl 0 rfl) ?_
  refine lv_ldc hx hb hown (hts _ (List.mem_of_getElem? (i := 10) rfl)) dX9_drop_9 ?_
  have hPc := hP.sub (ws' := [(h0, .inr (7, [.ref m0, v1, v2, v3, v4, .ref m1, v6, v7, v8, v9, v10, v11, v12, v13, v14, v15, v16, v17, v18, v19, v20, v21, v22, v23, v24, v25, v26, v27])), (m1, .inl (mc1, 8, .inl ff))]) [0, 2] rfl
  have hKc := hK.sub (tys' := [(mc1, .int)]) [1] rfl
  have hDc := hD.sub (ws' := [(h0, .inr (7, [.ref m0, v1, v2, v3, v4, .ref m1, v6, v7, v8, v9, v10, v11, v12, v13, v14, v15, v16, v17, v18, v19, v20, v21, v22, v23, v24, v25, v26, v27])), (m1, .inl (mc1, 8, .inl ff))]) [0, 2] (by decide) rfl
  have hFc := va_free (wc := [(h0, .inr (7, [.ref m0, v1, v2, v3, v4, .ref m1, v6, v7, v8, v9, v10, v11, v12, v13, v14, v15, v16, v17, v18, v19, v20, v21, v22, v23, v24, v25, v26, v27])), (m1, .inl (mc1, 8, .inl ff))]) hD hS hA [0, 2] rfl
  refine va_calli (va_runV (As := [.int (-1000000001)]) (rest := []) ⟨hx, hb, hml, hown, hts⟩ (m_find_beyond l dC dI ad h0 (.ref m0) v1 v2 v3 v4 m1 v6 v7 v8 v9 v10 v11 v12 v13 v14 v15 v16 v17 v18 v19 v20 v21 v22 v23 v24 v25 v26 v27 mc1 ff s.heap.size ) (cwV 1 hts g_y_drop_m_find_beyond_84 rfl rfl rfl (by decide +kernel) ⟨(Nat.le_of_ble_eq_true rfl), (Nat.le_of_ble_eq_true rfl)⟩) ⟨preM_blind, va_recv hKc hPc (ci := 7) (q0 := 0) rfl rfl, fun U hU hW => ⟨rfl, preM_at hU hW hPc hKc hDc hev⟩⟩ rfl rfl hl.1 rfl (lv_room (Nat.le_of_ble_eq_true rfl)) dX9_drop_11 ⟨(Nat.le_of_ble_eq_true rfl), (Nat.le_of_ble_eq_true rfl)⟩) hS (fun q _ h => hFc q h) hFc (fun r_2 u t H1 locs ht hvm hw hB hz1 hk1 hS => ?_)
  obtain ⟨hP, hD⟩ := va_join (wr := [(m0, .inl (mc0, 38, .inl nf))]) (w1 := []) hP hD [0, 2] [1] rfl rfl (by decide) (by decide) hk1 hFc nil_P nil_D
  generalize H1 = H at hP hS ⊢
  have hP : va_P (dC, dI) vwCl [(m0, .inl (mc0, 38, .inl nf))] H := hP
  have hD : va_D A [(m0, .inl (mc0, 38, .inl nf))] := hD
  subst hw
  exact W.iret (v := (-1000000001)) hx hb hr (fun t ht hW => ⟨⟨(-1000000001), (), rfl, rfl, trivial⟩, hS.F ht⟩) hS.2.2 dX9_drop_14

def w_y_nearest : List Cond := .code yX9_nearest cX9_nearest 5 (some .int) :: (([.methodLink RX9 93 yX9_isShape, .instanceMethod yX9_isShape, .selects RX9 yX9_isShape yX9_isShape, .initialized RX9, .code yX9_isShape cX9_isShape 2 (some .boolean), .fieldLink RX9 9 "LampShapesModel" "now" "[I", .methodLink RX9 75 yX9_within, .static yX9_within, .code yX9_within cX9_within 3 (some .boolean), .constant RX9 74 (-1000000001), .methodLink RX9 84 yX9_finding, .instanceMethod yX9_finding, .selects RX9 yX9_finding yX9_finding, .code yX9_finding cX9_finding 2 (some .int), .fieldLink RX9 23 "LampShapesModel" "found" "[I"] : List Cond) ++ wsX90)
set_option maxRecDepth 20000 in
theorem g_y_nearest_m_isShape_93 : GoodIn w_y_nearest (wsV RX9 93 RX9 yX9_isShape w_m_isShape) := goodIn_r _ [1, 2, 3, 4, 5, 6, 7, 8, 4, 9, 16, 17, 18, 19, 20, 21, 22, 23, 24, 25, 26, 27, 28, 29, 30, 31, 32, 33, 34, 35, 36, 37, 38, 39, 40, 41, 42, 43] rfl (by decide +kernel)
set_option maxRecDepth 20000 in
theorem g_y_nearest_m_find_beyond_84 : GoodIn w_y_nearest (wsV RX9 84 RX9 yX9_finding w_m_find_beyond) := goodIn_r _ [11, 12, 13, 4, 14, 15, 10, 16, 17, 18, 19, 20, 21, 22, 23, 24, 25, 26, 27, 28, 29, 30, 31, 32, 33, 34, 35, 36, 37, 38, 39, 40, 41, 42, 43] rfl (by decide +kernel)
set_option maxHeartbeats 4000000 in
set_option maxRecDepth 100000 in
theorem y_nearest (l : Launch) (dC : Nat → ClassId) (dI : Nat → Nat → Nat) (ad : Nat → Nat) (h0 : Nat) (a : Int32) (b : Int32) (a3 : Int32) (m0 : Nat) (v1 : Value) (v2 : Value) (v3 : Value) (v4 : Value) (m1 : Nat) (v6 : Value) (v7 : Value) (v8 : Value) (v9 : Value) (v10 : Value) (v11 : Value) (v12 : Value) (v13 : Value) (v14 : Value) (v15 : Value) (v16 : Value) (v17 : Value) (v18 : Value) (v19 : Value) (v20 : Value) (v21 : Value) (v22 : Value) (v23 : Value) (v24 : Value) (v25 : Value) (v26 : Value) (v27 : Value) (mc0 : ClassId) (nf : Nat → Int32) (mc1 : ClassId) (ff : Nat → Int32) (sz : Nat) (hnf : ∀ j, j < 38 → nf j = fr_n j) : Met l yX9_nearest w_y_nearest ({ frames := 2, cells := 0, slots := 0, locals := 43 } : Room) (va_Pc [.ref h0, .int a, .int b, .int a3] (preM dC dI ad [(mc0, .int), (mc1, .int)] [(h0, .inr (7, [.ref m0, v1, v2, v3, v4, .ref m1, v6, v7, v8, v9, v10, v11, v12, v13, v14, v15, v16, v17, v18, v19, v20, v21, v22, v23, v24, v25, v26, v27])), (m0, .inl (mc0, 38, .inl nf)), (m1, .inl (mc1, 8, .inl ff))] sz)) (va_Qi (fun (r : Int32) (_ : Unit) => (r = (-1000000001))) (fun _ _ => True) (va_A [(h0, .inr (7, [.ref m0, v1, v2, v3, v4, .ref m1, v6, v7, v8, v9, v10, v11, v12, v13, v14, v15, v16, v17, v18, v19, v20, v21, v22, v23, v24, v25, v26, v27])), (m0, .inl (mc0, 38, .inl nf)), (m1, .inl (mc1, 8, .inl ff))] sz)) 0 0 (va_A [(h0, .inr (7, [.ref m0, v1, v2, v3, v4, .ref m1, v6, v7, v8, v9, v10, v11, v12, v13, v14, v15, v16, v17, v18, v19, v20, v21, v22, v23, v24, v25, v26, v27])), (m0, .inl (mc0, 38, .inl nf)), (m1, .inl (mc1, 8, .inl ff))] sz) := by
  refine Met.ofW (cc := cX9_nearest) (maxL := 5) (ret := (some .int)) (by decide) rfl ?_
  intro p e s m args below meth c s₁ B hml hv
  obtain ⟨rfl, hsz, hP, hK, hD0, hev⟩ := hv
  have hx := B.exec
  have hb := B.bytes
  have hr := B.returns
  have hts := atoms_spec (ws := w_y_nearest) B.pre
  have hown : s.vm.findClass RX9 = some m.cls := findClass_of_methodNamed B.named
  have hlocks := B.notSynchronized
  have inX9 : ∀ w ∈ wsX90, w ∈ w_y_nearest := fun w h => List.mem_cons_of_mem _ (List.mem_append_right _ h)
  subst hsz
  have hD := hD0.self (sz := s.heap.size)
  generalize hAe : va_A [(h0, .inr (7, [.ref m0, v1, v2, v3, v4, .ref m1, v6, v7, v8, v9, v10, v11, v12, v13, v14, v15, v16, v17, v18, v19, v20, v21, v22, v23, v24, v25, v26, v27])), (m0, .inl (mc0, 38, .inl nf)), (m1, .inl (mc1, 8, .inl ff))] s.heap.size = A at hD ⊢
  have hA : ∀ q : Nat, s.heap.size ≤ q → A q := fun q h => by rw [← hAe]; exact Or.inr h
  have hS : va_S A s.heap s.heap [] := va_S.rf
  have hP : va_P (dC, dI) vwCl [(h0, .inr (7, [.ref m0, v1, v2, v3, v4, .ref m1, v6, v7, v8, v9, v10, v11, v12, v13, v14, v15, v16, v17, v18, v19, v20, v21, v22, v23, v24, v25, v26, v27])), (m0, .inl (mc0, 38, .inl nf)), (m1, .inl (mc1, 8, .inl ff))] s.heap := hP
  have hl := lv_entry ([.ref h0, .int a, .int b, .int a3]) (n := 5) (Nat.le_of_ble_eq_true rfl)
  rw [lg_entry_eq]
  generalize (lg_sl ([.ref h0, .int a, .int b, .int a3]) ++ List.replicate (5 - (lg_sl ([.ref h0, .int a, .int b, .int a3])).length) Slot.unset).toArray = ls at hl ⊢
  have hl : lv_has ls 5 [(0, .ref h0), (1, .int a), (2, .int b), (3, .int a3)] := hl
  refine lv_aload_n hx hb dX9_nearest_0 rfl (lv_at hl 0 rfl) ?_
  refine lv_iload_n hx hb dX9_nearest_1 rfl (lv_at hl 1 rfl) ?_
  have hPc := hP.sub (ws' := [(h0, .inr (7, [.ref m0, v1, v2, v3, v4, .ref m1, v6, v7, v8, v9, v10, v11, v12, v13, v14, v15, v16, v17, v18, v19, v20, v21, v22, v23, v24, v25, v26, v27])), (m0, .inl (mc0, 38, .inl nf))]) [0, 1] rfl
  have hKc := hK.sub (tys' := [(mc0, .int)]) [0] rfl
  refine vp_callSi (W.runV (As := [.int a]) (rest := []) ⟨hx, hb, hml, hown, hts⟩ (m_isShape l dC dI ad h0 a m0 v1 v2 v3 v4 (.ref m1) v6 v7 v8 v9 v10 v11 v12 v13 v14 v15 v16 v17 v18 v19 v20 v21 v22 v23 v24 v25 v26 v27 mc0 nf hnf) (cwV 1 hts g_y_nearest_m_isShape_93 rfl rfl rfl (by decide +kernel) ⟨(Nat.le_of_ble_eq_true rfl), (Nat.le_of_ble_eq_true rfl)⟩) ⟨preS_blind, va_recv hKc hPc (ci := 7) (q0 := 0) rfl rfl, fun U hU hW => ⟨rfl, preS_at hU hW hPc hKc hev⟩⟩ rfl rfl hl.1 rfl (lv_room (Nat.le_of_ble_eq_true rfl)) dX9_nearest_2 ⟨(Nat.le_of_ble_eq_true rfl), (Nat.le_of_ble_eq_true rfl)⟩) (fun r_1 hw => ?_)
  subst hw
  refine lv_if_eq (tgt := 25) hx hb dX9_nearest_5 (by decide) (fun _ => ?_) (fun c => absurd (by decide) c)
  refine lv_aload_n hx hb dX9_nearest_25 rfl (lv_at hl 0 rfl) ?_
  refine lv_ldc hx hb hown (hts _ (List.mem_of_getElem? (i := 10) rfl)) dX9_nearest_26 ?_
  have hPc := hP.sub (ws' := [(h0, .inr (7, [.ref m0, v1, v2, v3, v4, .ref m1, v6, v7, v8, v9, v10, v11, v12, v13, v14, v15, v16, v17, v18, v19, v20, v21, v22, v23, v24, v25, v26, v27])), (m1, .inl (mc1, 8, .inl ff))]) [0, 2] rfl
  have hKc := hK.sub (tys' := [(mc1, .int)]) [1] rfl
  have hDc := hD.sub (ws' := [(h0, .inr (7, [.ref m0, v1, v2, v3, v4, .ref m1, v6, v7, v8, v9, v10, v11, v12, v13, v14, v15, v16, v17, v18, v19, v20, v21, v22, v23, v24, v25, v26, v27])), (m1, .inl (mc1, 8, .inl ff))]) [0, 2] (by decide) rfl
  have hFc := va_free (wc := [(h0, .inr (7, [.ref m0, v1, v2, v3, v4, .ref m1, v6, v7, v8, v9, v10, v11, v12, v13, v14, v15, v16, v17, v18, v19, v20, v21, v22, v23, v24, v25, v26, v27])), (m1, .inl (mc1, 8, .inl ff))]) hD hS hA [0, 2] rfl
  refine va_calli (va_runV (As := [.int (-1000000001)]) (rest := []) ⟨hx, hb, hml, hown, hts⟩ (m_find_beyond l dC dI ad h0 (.ref m0) v1 v2 v3 v4 m1 v6 v7 v8 v9 v10 v11 v12 v13 v14 v15 v16 v17 v18 v19 v20 v21 v22 v23 v24 v25 v26 v27 mc1 ff s.heap.size ) (cwV 1 hts g_y_nearest_m_find_beyond_84 rfl rfl rfl (by decide +kernel) ⟨(Nat.le_of_ble_eq_true rfl), (Nat.le_of_ble_eq_true rfl)⟩) ⟨preM_blind, va_recv hKc hPc (ci := 7) (q0 := 0) rfl rfl, fun U hU hW => ⟨rfl, preM_at hU hW hPc hKc hDc hev⟩⟩ rfl rfl hl.1 rfl (lv_room (Nat.le_of_ble_eq_true rfl)) dX9_nearest_28 ⟨(Nat.le_of_ble_eq_true rfl), (Nat.le_of_ble_eq_true rfl)⟩) hS (fun q _ h => hFc q h) hFc (fun r_2 u t H1 locs ht hvm hw hB hz1 hk1 hS => ?_)
  obtain ⟨hP, hD⟩ := va_join (wr := [(m0, .inl (mc0, 38, .inl nf))]) (w1 := []) hP hD [0, 2] [1] rfl rfl (by decide) (by decide) hk1 hFc nil_P nil_D
  generalize H1 = H at hP hS ⊢
  have hP : va_P (dC, dI) vwCl [(m0, .inl (mc0, 38, .inl nf))] H := hP
  have hD : va_D A [(m0, .inl (mc0, 38, .inl nf))] := hD
  subst hw
  exact W.iret (v := (-1000000001)) hx hb hr (fun t ht hW => ⟨⟨(-1000000001), (), rfl, rfl, trivial⟩, hS.F ht⟩) hS.2.2 dX9_nearest_31

def w_y_fits : List Cond := .code yX9_fits cX9_fits 7 (some .int) :: (([.methodLink RX9 93 yX9_isShape, .instanceMethod yX9_isShape, .selects RX9 yX9_isShape yX9_isShape, .initialized RX9, .code yX9_isShape cX9_isShape 2 (some .boolean), .fieldLink RX9 9 "LampShapesModel" "now" "[I", .methodLink RX9 75 yX9_within, .static yX9_within, .code yX9_within cX9_within 3 (some .boolean), .constant RX9 74 (-1000000001), .methodLink RX9 84 yX9_finding, .instanceMethod yX9_finding, .selects RX9 yX9_finding yX9_finding, .code yX9_finding cX9_finding 2 (some .int), .fieldLink RX9 23 "LampShapesModel" "found" "[I"] : List Cond) ++ wsX90)
set_option maxRecDepth 20000 in
theorem g_y_fits_m_isShape_93 : GoodIn w_y_fits (wsV RX9 93 RX9 yX9_isShape w_m_isShape) := goodIn_r _ [1, 2, 3, 4, 5, 6, 7, 8, 4, 9, 16, 17, 18, 19, 20, 21, 22, 23, 24, 25, 26, 27, 28, 29, 30, 31, 32, 33, 34, 35, 36, 37, 38, 39, 40, 41, 42, 43] rfl (by decide +kernel)
set_option maxRecDepth 20000 in
theorem g_y_fits_m_find_beyond_84 : GoodIn w_y_fits (wsV RX9 84 RX9 yX9_finding w_m_find_beyond) := goodIn_r _ [11, 12, 13, 4, 14, 15, 10, 16, 17, 18, 19, 20, 21, 22, 23, 24, 25, 26, 27, 28, 29, 30, 31, 32, 33, 34, 35, 36, 37, 38, 39, 40, 41, 42, 43] rfl (by decide +kernel)
set_option maxHeartbeats 4000000 in
set_option maxRecDepth 100000 in
theorem y_fits (l : Launch) (dC : Nat → ClassId) (dI : Nat → Nat → Nat) (ad : Nat → Nat) (h0 : Nat) (a : Int32) (b : Int32) (m0 : Nat) (v1 : Value) (v2 : Value) (v3 : Value) (v4 : Value) (m1 : Nat) (v6 : Value) (v7 : Value) (v8 : Value) (v9 : Value) (v10 : Value) (v11 : Value) (v12 : Value) (v13 : Value) (v14 : Value) (v15 : Value) (v16 : Value) (v17 : Value) (v18 : Value) (v19 : Value) (v20 : Value) (v21 : Value) (v22 : Value) (v23 : Value) (v24 : Value) (v25 : Value) (v26 : Value) (v27 : Value) (mc0 : ClassId) (nf : Nat → Int32) (mc1 : ClassId) (ff : Nat → Int32) (sz : Nat) (hnf : ∀ j, j < 38 → nf j = fr_n j) : Met l yX9_fits w_y_fits ({ frames := 2, cells := 0, slots := 0, locals := 43 } : Room) (va_Pc [.ref h0, .int a, .int b] (preM dC dI ad [(mc0, .int), (mc1, .int)] [(h0, .inr (7, [.ref m0, v1, v2, v3, v4, .ref m1, v6, v7, v8, v9, v10, v11, v12, v13, v14, v15, v16, v17, v18, v19, v20, v21, v22, v23, v24, v25, v26, v27])), (m0, .inl (mc0, 38, .inl nf)), (m1, .inl (mc1, 8, .inl ff))] sz)) (va_Qi (fun (r : Int32) (_ : Unit) => (r = (-1000000001))) (fun _ _ => True) (va_A [(h0, .inr (7, [.ref m0, v1, v2, v3, v4, .ref m1, v6, v7, v8, v9, v10, v11, v12, v13, v14, v15, v16, v17, v18, v19, v20, v21, v22, v23, v24, v25, v26, v27])), (m0, .inl (mc0, 38, .inl nf)), (m1, .inl (mc1, 8, .inl ff))] sz)) 0 0 (va_A [(h0, .inr (7, [.ref m0, v1, v2, v3, v4, .ref m1, v6, v7, v8, v9, v10, v11, v12, v13, v14, v15, v16, v17, v18, v19, v20, v21, v22, v23, v24, v25, v26, v27])), (m0, .inl (mc0, 38, .inl nf)), (m1, .inl (mc1, 8, .inl ff))] sz) := by
  refine Met.ofW (cc := cX9_fits) (maxL := 7) (ret := (some .int)) (by decide) rfl ?_
  intro p e s m args below meth c s₁ B hml hv
  obtain ⟨rfl, hsz, hP, hK, hD0, hev⟩ := hv
  have hx := B.exec
  have hb := B.bytes
  have hr := B.returns
  have hts := atoms_spec (ws := w_y_fits) B.pre
  have hown : s.vm.findClass RX9 = some m.cls := findClass_of_methodNamed B.named
  have hlocks := B.notSynchronized
  have inX9 : ∀ w ∈ wsX90, w ∈ w_y_fits := fun w h => List.mem_cons_of_mem _ (List.mem_append_right _ h)
  subst hsz
  have hD := hD0.self (sz := s.heap.size)
  generalize hAe : va_A [(h0, .inr (7, [.ref m0, v1, v2, v3, v4, .ref m1, v6, v7, v8, v9, v10, v11, v12, v13, v14, v15, v16, v17, v18, v19, v20, v21, v22, v23, v24, v25, v26, v27])), (m0, .inl (mc0, 38, .inl nf)), (m1, .inl (mc1, 8, .inl ff))] s.heap.size = A at hD ⊢
  have hA : ∀ q : Nat, s.heap.size ≤ q → A q := fun q h => by rw [← hAe]; exact Or.inr h
  have hS : va_S A s.heap s.heap [] := va_S.rf
  have hP : va_P (dC, dI) vwCl [(h0, .inr (7, [.ref m0, v1, v2, v3, v4, .ref m1, v6, v7, v8, v9, v10, v11, v12, v13, v14, v15, v16, v17, v18, v19, v20, v21, v22, v23, v24, v25, v26, v27])), (m0, .inl (mc0, 38, .inl nf)), (m1, .inl (mc1, 8, .inl ff))] s.heap := hP
  have hl := lv_entry ([.ref h0, .int a, .int b]) (n := 7) (Nat.le_of_ble_eq_true rfl)
  rw [lg_entry_eq]
  generalize (lg_sl ([.ref h0, .int a, .int b]) ++ List.replicate (7 - (lg_sl ([.ref h0, .int a, .int b])).length) Slot.unset).toArray = ls at hl ⊢
  have hl : lv_has ls 7 [(0, .ref h0), (1, .int a), (2, .int b)] := hl
  refine lv_aload_n hx hb dX9_fits_0 rfl (lv_at hl 0 rfl) ?_
  refine lv_iload_n hx hb dX9_fits_1 rfl (lv_at hl 1 rfl) ?_
  have hPc := hP.sub (ws' := [(h0, .inr (7, [.ref m0, v1, v2, v3, v4, .ref m1, v6, v7, v8, v9, v10, v11, v12, v13, v14, v15, v16, v17, v18, v19, v20, v21, v22, v23, v24, v25, v26, v27])), (m0, .inl (mc0, 38, .inl nf))]) [0, 1] rfl
  have hKc := hK.sub (tys' := [(mc0, .int)]) [0] rfl
  refine vp_callSi (W.runV (As := [.int a]) (rest := []) ⟨hx, hb, hml, hown, hts⟩ (m_isShape l dC dI ad h0 a m0 v1 v2 v3 v4 (.ref m1) v6 v7 v8 v9 v10 v11 v12 v13 v14 v15 v16 v17 v18 v19 v20 v21 v22 v23 v24 v25 v26 v27 mc0 nf hnf) (cwV 1 hts g_y_fits_m_isShape_93 rfl rfl rfl (by decide +kernel) ⟨(Nat.le_of_ble_eq_true rfl), (Nat.le_of_ble_eq_true rfl)⟩) ⟨preS_blind, va_recv hKc hPc (ci := 7) (q0 := 0) rfl rfl, fun U hU hW => ⟨rfl, preS_at hU hW hPc hKc hev⟩⟩ rfl rfl hl.1 rfl (lv_room (Nat.le_of_ble_eq_true rfl)) dX9_fits_2 ⟨(Nat.le_of_ble_eq_true rfl), (Nat.le_of_ble_eq_true rfl)⟩) (fun r_1 hw => ?_)
  subst hw
  refine lv_if_eq (tgt := 16) hx hb dX9_fits_5 (by decide) (fun _ => ?_) (fun c => absurd (by decide) c)
  refine lv_aload_n hx hb dX9_fits_16 rfl (lv_at hl 0 rfl) ?_
  refine lv_ldc hx hb hown (hts _ (List.mem_of_getElem? (i := 10) rfl)) dX9_fits_17 ?_
  have hPc := hP.sub (ws' := [(h0, .inr (7, [.ref m0, v1, v2, v3, v4, .ref m1, v6, v7, v8, v9, v10, v11, v12, v13, v14, v15, v16, v17, v18, v19, v20, v21, v22, v23, v24, v25, v26, v27])), (m1, .inl (mc1, 8, .inl ff))]) [0, 2] rfl
  have hKc := hK.sub (tys' := [(mc1, .int)]) [1] rfl
  have hDc := hD.sub (ws' := [(h0, .inr (7, [.ref m0, v1, v2, v3, v4, .ref m1, v6, v7, v8, v9, v10, v11, v12, v13, v14, v15, v16, v17, v18, v19, v20, v21, v22, v23, v24, v25, v26, v27])), (m1, .inl (mc1, 8, .inl ff))]) [0, 2] (by decide) rfl
  have hFc := va_free (wc := [(h0, .inr (7, [.ref m0, v1, v2, v3, v4, .ref m1, v6, v7, v8, v9, v10, v11, v12, v13, v14, v15, v16, v17, v18, v19, v20, v21, v22, v23, v24, v25, v26, v27])), (m1, .inl (mc1, 8, .inl ff))]) hD hS hA [0, 2] rfl
  refine va_calli (va_runV (As := [.int (-1000000001)]) (rest := []) ⟨hx, hb, hml, hown, hts⟩ (m_find_beyond l dC dI ad h0 (.ref m0) v1 v2 v3 v4 m1 v6 v7 v8 v9 v10 v11 v12 v13 v14 v15 v16 v17 v18 v19 v20 v21 v22 v23 v24 v25 v26 v27 mc1 ff s.heap.size ) (cwV 1 hts g_y_fits_m_find_beyond_84 rfl rfl rfl (by decide +kernel) ⟨(Nat.le_of_ble_eq_true rfl), (Nat.le_of_ble_eq_true rfl)⟩) ⟨preM_blind, va_recv hKc hPc (ci := 7) (q0 := 0) rfl rfl, fun U hU hW => ⟨rfl, preM_at hU hW hPc hKc hDc hev⟩⟩ rfl rfl hl.1 rfl (lv_room (Nat.le_of_ble_eq_true rfl)) dX9_fits_19 ⟨(Nat.le_of_ble_eq_true rfl), (Nat.le_of_ble_eq_true rfl)⟩) hS (fun q _ h => hFc q h) hFc (fun r_2 u t H1 locs ht hvm hw hB hz1 hk1 hS => ?_)
  obtain ⟨hP, hD⟩ := va_join (wr := [(m0, .inl (mc0, 38, .inl nf))]) (w1 := []) hP hD [0, 2] [1] rfl rfl (by decide) (by decide) hk1 hFc nil_P nil_D
  generalize H1 = H at hP hS ⊢
  have hP : va_P (dC, dI) vwCl [(m0, .inl (mc0, 38, .inl nf))] H := hP
  have hD : va_D A [(m0, .inl (mc0, 38, .inl nf))] := hD
  subst hw
  exact W.iret (v := (-1000000001)) hx hb hr (fun t ht hW => ⟨⟨(-1000000001), (), rfl, rfl, trivial⟩, hS.F ht⟩) hS.2.2 dX9_fits_22

def w_y_draw : List Cond := .code yX9_draw cX9_draw 3 (some .int) :: (([.methodLink RX9 155 yX9_isScene, .instanceMethod yX9_isScene, .selects RX9 yX9_isScene yX9_isScene, .initialized RX9, .code yX9_isScene cX9_isScene 2 (some .boolean), .fieldLink RX9 9 "LampShapesModel" "now" "[I", .methodLink RX9 75 yX9_within, .static yX9_within, .code yX9_within cX9_within 3 (some .boolean), .constant RX9 74 (-1000000001), .methodLink RX9 84 yX9_finding, .instanceMethod yX9_finding, .selects RX9 yX9_finding yX9_finding, .code yX9_finding cX9_finding 2 (some .int), .fieldLink RX9 23 "LampShapesModel" "found" "[I"] : List Cond) ++ wsX90)
set_option maxRecDepth 20000 in
theorem g_y_draw_m_isScene_155 : GoodIn w_y_draw (wsV RX9 155 RX9 yX9_isScene w_m_isScene) := goodIn_r _ [1, 2, 3, 4, 5, 6, 7, 8, 4, 9, 16, 17, 18, 19, 20, 21, 22, 23, 24, 25, 26, 27, 28, 29, 30, 31, 32, 33, 34, 35, 36, 37, 38, 39, 40, 41, 42, 43] rfl (by decide +kernel)
set_option maxRecDepth 20000 in
theorem g_y_draw_m_find_beyond_84 : GoodIn w_y_draw (wsV RX9 84 RX9 yX9_finding w_m_find_beyond) := goodIn_r _ [11, 12, 13, 4, 14, 15, 10, 16, 17, 18, 19, 20, 21, 22, 23, 24, 25, 26, 27, 28, 29, 30, 31, 32, 33, 34, 35, 36, 37, 38, 39, 40, 41, 42, 43] rfl (by decide +kernel)
set_option maxHeartbeats 4000000 in
set_option maxRecDepth 100000 in
theorem y_draw (l : Launch) (dC : Nat → ClassId) (dI : Nat → Nat → Nat) (ad : Nat → Nat) (h0 : Nat) (a : Int32) (m0 : Nat) (v1 : Value) (v2 : Value) (v3 : Value) (v4 : Value) (m1 : Nat) (v6 : Value) (v7 : Value) (v8 : Value) (v9 : Value) (v10 : Value) (v11 : Value) (v12 : Value) (v13 : Value) (v14 : Value) (v15 : Value) (v16 : Value) (v17 : Value) (v18 : Value) (v19 : Value) (v20 : Value) (v21 : Value) (v22 : Value) (v23 : Value) (v24 : Value) (v25 : Value) (v26 : Value) (v27 : Value) (mc0 : ClassId) (nf : Nat → Int32) (mc1 : ClassId) (ff : Nat → Int32) (sz : Nat) (hnf : ∀ j, j < 38 → nf j = fr_n j) : Met l yX9_draw w_y_draw ({ frames := 2, cells := 0, slots := 0, locals := 43 } : Room) (va_Pc [.ref h0, .int a] (preM dC dI ad [(mc0, .int), (mc1, .int)] [(h0, .inr (7, [.ref m0, v1, v2, v3, v4, .ref m1, v6, v7, v8, v9, v10, v11, v12, v13, v14, v15, v16, v17, v18, v19, v20, v21, v22, v23, v24, v25, v26, v27])), (m0, .inl (mc0, 38, .inl nf)), (m1, .inl (mc1, 8, .inl ff))] sz)) (va_Qi (fun (r : Int32) (_ : Unit) => (r = (-1000000001))) (fun _ _ => True) (va_A [(h0, .inr (7, [.ref m0, v1, v2, v3, v4, .ref m1, v6, v7, v8, v9, v10, v11, v12, v13, v14, v15, v16, v17, v18, v19, v20, v21, v22, v23, v24, v25, v26, v27])), (m0, .inl (mc0, 38, .inl nf)), (m1, .inl (mc1, 8, .inl ff))] sz)) 0 0 (va_A [(h0, .inr (7, [.ref m0, v1, v2, v3, v4, .ref m1, v6, v7, v8, v9, v10, v11, v12, v13, v14, v15, v16, v17, v18, v19, v20, v21, v22, v23, v24, v25, v26, v27])), (m0, .inl (mc0, 38, .inl nf)), (m1, .inl (mc1, 8, .inl ff))] sz) := by
  refine Met.ofW (cc := cX9_draw) (maxL := 3) (ret := (some .int)) (by decide) rfl ?_
  intro p e s m args below meth c s₁ B hml hv
  obtain ⟨rfl, hsz, hP, hK, hD0, hev⟩ := hv
  have hx := B.exec
  have hb := B.bytes
  have hr := B.returns
  have hts := atoms_spec (ws := w_y_draw) B.pre
  have hown : s.vm.findClass RX9 = some m.cls := findClass_of_methodNamed B.named
  have hlocks := B.notSynchronized
  have inX9 : ∀ w ∈ wsX90, w ∈ w_y_draw := fun w h => List.mem_cons_of_mem _ (List.mem_append_right _ h)
  subst hsz
  have hD := hD0.self (sz := s.heap.size)
  generalize hAe : va_A [(h0, .inr (7, [.ref m0, v1, v2, v3, v4, .ref m1, v6, v7, v8, v9, v10, v11, v12, v13, v14, v15, v16, v17, v18, v19, v20, v21, v22, v23, v24, v25, v26, v27])), (m0, .inl (mc0, 38, .inl nf)), (m1, .inl (mc1, 8, .inl ff))] s.heap.size = A at hD ⊢
  have hA : ∀ q : Nat, s.heap.size ≤ q → A q := fun q h => by rw [← hAe]; exact Or.inr h
  have hS : va_S A s.heap s.heap [] := va_S.rf
  have hP : va_P (dC, dI) vwCl [(h0, .inr (7, [.ref m0, v1, v2, v3, v4, .ref m1, v6, v7, v8, v9, v10, v11, v12, v13, v14, v15, v16, v17, v18, v19, v20, v21, v22, v23, v24, v25, v26, v27])), (m0, .inl (mc0, 38, .inl nf)), (m1, .inl (mc1, 8, .inl ff))] s.heap := hP
  have hl := lv_entry ([.ref h0, .int a]) (n := 3) (Nat.le_of_ble_eq_true rfl)
  rw [lg_entry_eq]
  generalize (lg_sl ([.ref h0, .int a]) ++ List.replicate (3 - (lg_sl ([.ref h0, .int a])).length) Slot.unset).toArray = ls at hl ⊢
  have hl : lv_has ls 3 [(0, .ref h0), (1, .int a)] := hl
  refine lv_aload_n hx hb dX9_draw_0 rfl (lv_at hl 0 rfl) ?_
  refine lv_iload_n hx hb dX9_draw_1 rfl (lv_at hl 1 rfl) ?_
  have hPc := hP.sub (ws' := [(h0, .inr (7, [.ref m0, v1, v2, v3, v4, .ref m1, v6, v7, v8, v9, v10, v11, v12, v13, v14, v15, v16, v17, v18, v19, v20, v21, v22, v23, v24, v25, v26, v27])), (m0, .inl (mc0, 38, .inl nf))]) [0, 1] rfl
  have hKc := hK.sub (tys' := [(mc0, .int)]) [0] rfl
  refine vp_callSi (W.runV (As := [.int a]) (rest := []) ⟨hx, hb, hml, hown, hts⟩ (m_isScene l dC dI ad h0 a m0 v1 v2 v3 v4 (.ref m1) v6 v7 v8 v9 v10 v11 v12 v13 v14 v15 v16 v17 v18 v19 v20 v21 v22 v23 v24 v25 v26 v27 mc0 nf hnf) (cwV 1 hts g_y_draw_m_isScene_155 rfl rfl rfl (by decide +kernel) ⟨(Nat.le_of_ble_eq_true rfl), (Nat.le_of_ble_eq_true rfl)⟩) ⟨preS_blind, va_recv hKc hPc (ci := 7) (q0 := 0) rfl rfl, fun U hU hW => ⟨rfl, preS_at hU hW hPc hKc hev⟩⟩ rfl rfl hl.1 rfl (lv_room (Nat.le_of_ble_eq_true rfl)) dX9_draw_2 ⟨(Nat.le_of_ble_eq_true rfl), (Nat.le_of_ble_eq_true rfl)⟩) (fun r_1 hw => ?_)
  subst hw
  refine lv_if_ne (tgt := 15) hx hb dX9_draw_5 (by decide) (fun c => absurd (by decide) c) (fun _ => ?_)
  refine lv_aload_n hx hb dX9_draw_8 rfl (lv_at hl 0 rfl) ?_
  refine lv_ldc hx hb hown (hts _ (List.mem_of_getElem? (i := 10) rfl)) dX9_draw_9 ?_
  have hPc := hP.sub (ws' := [(h0, .inr (7, [.ref m0, v1, v2, v3, v4, .ref m1, v6, v7, v8, v9, v10, v11, v12, v13, v14, v15, v16, v17, v18, v19, v20, v21, v22, v23, v24, v25, v26, v27])), (m1, .inl (mc1, 8, .inl ff))]) [0, 2] rfl
  have hKc := hK.sub (tys' := [(mc1, .int)]) [1] rfl
  have hDc := hD.sub (ws' := [(h0, .inr (7, [.ref m0, v1, v2, v3, v4, .ref m1, v6, v7, v8, v9, v10, v11, v12, v13, v14, v15, v16, v17, v18, v19, v20, v21, v22, v23, v24, v25, v26, v27])), (m1, .inl (mc1, 8, .inl ff))]) [0, 2] (by decide) rfl
  have hFc := va_free (wc := [(h0, .inr (7, [.ref m0, v1, v2, v3, v4, .ref m1, v6, v7, v8, v9, v10, v11, v12, v13, v14, v15, v16, v17, v18, v19, v20, v21, v22, v23, v24, v25, v26, v27])), (m1, .inl (mc1, 8, .inl ff))]) hD hS hA [0, 2] rfl
  refine va_calli (va_runV (As := [.int (-1000000001)]) (rest := []) ⟨hx, hb, hml, hown, hts⟩ (m_find_beyond l dC dI ad h0 (.ref m0) v1 v2 v3 v4 m1 v6 v7 v8 v9 v10 v11 v12 v13 v14 v15 v16 v17 v18 v19 v20 v21 v22 v23 v24 v25 v26 v27 mc1 ff s.heap.size ) (cwV 1 hts g_y_draw_m_find_beyond_84 rfl rfl rfl (by decide +kernel) ⟨(Nat.le_of_ble_eq_true rfl), (Nat.le_of_ble_eq_true rfl)⟩) ⟨preM_blind, va_recv hKc hPc (ci := 7) (q0 := 0) rfl rfl, fun U hU hW => ⟨rfl, preM_at hU hW hPc hKc hDc hev⟩⟩ rfl rfl hl.1 rfl (lv_room (Nat.le_of_ble_eq_true rfl)) dX9_draw_11 ⟨(Nat.le_of_ble_eq_true rfl), (Nat.le_of_ble_eq_true rfl)⟩) hS (fun q _ h => hFc q h) hFc (fun r_2 u t H1 locs ht hvm hw hB hz1 hk1 hS => ?_)
  obtain ⟨hP, hD⟩ := va_join (wr := [(m0, .inl (mc0, 38, .inl nf))]) (w1 := []) hP hD [0, 2] [1] rfl rfl (by decide) (by decide) hk1 hFc nil_P nil_D
  generalize H1 = H at hP hS ⊢
  have hP : va_P (dC, dI) vwCl [(m0, .inl (mc0, 38, .inl nf))] H := hP
  have hD : va_D A [(m0, .inl (mc0, 38, .inl nf))] := hD
  subst hw
  exact W.iret (v := (-1000000001)) hx hb hr (fun t ht hW => ⟨⟨(-1000000001), (), rfl, rfl, trivial⟩, hS.F ht⟩) hS.2.2 dX9_draw_14

def w_y_picture : List Cond := .code yX9_picture cX9_picture 2 (some .long) :: (([.methodLink RX9 155 yX9_isScene, .instanceMethod yX9_isScene, .selects RX9 yX9_isScene yX9_isScene, .initialized RX9, .code yX9_isScene cX9_isScene 2 (some .boolean), .fieldLink RX9 9 "LampShapesModel" "now" "[I", .methodLink RX9 75 yX9_within, .static yX9_within, .code yX9_within cX9_within 3 (some .boolean), .constant RX9 74 (-1000000001), .methodLink RX9 84 yX9_finding, .instanceMethod yX9_finding, .selects RX9 yX9_finding yX9_finding, .code yX9_finding cX9_finding 2 (some .int), .fieldLink RX9 23 "LampShapesModel" "found" "[I"] : List Cond) ++ wsX90)
set_option maxRecDepth 20000 in
theorem g_y_picture_m_isScene_155 : GoodIn w_y_picture (wsV RX9 155 RX9 yX9_isScene w_m_isScene) := goodIn_r _ [1, 2, 3, 4, 5, 6, 7, 8, 4, 9, 16, 17, 18, 19, 20, 21, 22, 23, 24, 25, 26, 27, 28, 29, 30, 31, 32, 33, 34, 35, 36, 37, 38, 39, 40, 41, 42, 43] rfl (by decide +kernel)
set_option maxRecDepth 20000 in
theorem g_y_picture_m_find_beyond_84 : GoodIn w_y_picture (wsV RX9 84 RX9 yX9_finding w_m_find_beyond) := goodIn_r _ [11, 12, 13, 4, 14, 15, 10, 16, 17, 18, 19, 20, 21, 22, 23, 24, 25, 26, 27, 28, 29, 30, 31, 32, 33, 34, 35, 36, 37, 38, 39, 40, 41, 42, 43] rfl (by decide +kernel)
set_option maxHeartbeats 4000000 in
set_option maxRecDepth 100000 in
theorem y_picture (l : Launch) (dC : Nat → ClassId) (dI : Nat → Nat → Nat) (ad : Nat → Nat) (h0 : Nat) (a : Int32) (m0 : Nat) (v1 : Value) (v2 : Value) (v3 : Value) (v4 : Value) (m1 : Nat) (v6 : Value) (v7 : Value) (v8 : Value) (v9 : Value) (v10 : Value) (v11 : Value) (v12 : Value) (v13 : Value) (v14 : Value) (v15 : Value) (v16 : Value) (v17 : Value) (v18 : Value) (v19 : Value) (v20 : Value) (v21 : Value) (v22 : Value) (v23 : Value) (v24 : Value) (v25 : Value) (v26 : Value) (v27 : Value) (mc0 : ClassId) (nf : Nat → Int32) (mc1 : ClassId) (ff : Nat → Int32) (sz : Nat) (hnf : ∀ j, j < 38 → nf j = fr_n j) : Met l yX9_picture w_y_picture ({ frames := 2, cells := 0, slots := 0, locals := 43 } : Room) (va_Pc [.ref h0, .int a] (preM dC dI ad [(mc0, .int), (mc1, .int)] [(h0, .inr (7, [.ref m0, v1, v2, v3, v4, .ref m1, v6, v7, v8, v9, v10, v11, v12, v13, v14, v15, v16, v17, v18, v19, v20, v21, v22, v23, v24, v25, v26, v27])), (m0, .inl (mc0, 38, .inl nf)), (m1, .inl (mc1, 8, .inl ff))] sz)) (va_Ql (fun (r : Int64) (_ : Unit) => (r = (-1000000001))) (fun _ _ => True) (va_A [(h0, .inr (7, [.ref m0, v1, v2, v3, v4, .ref m1, v6, v7, v8, v9, v10, v11, v12, v13, v14, v15, v16, v17, v18, v19, v20, v21, v22, v23, v24, v25, v26, v27])), (m0, .inl (mc0, 38, .inl nf)), (m1, .inl (mc1, 8, .inl ff))] sz)) 0 0 (va_A [(h0, .inr (7, [.ref m0, v1, v2, v3, v4, .ref m1, v6, v7, v8, v9, v10, v11, v12, v13, v14, v15, v16, v17, v18, v19, v20, v21, v22, v23, v24, v25, v26, v27])), (m0, .inl (mc0, 38, .inl nf)), (m1, .inl (mc1, 8, .inl ff))] sz) := by
  refine Met.ofW (cc := cX9_picture) (maxL := 2) (ret := (some .long)) (by decide) rfl ?_
  intro p e s m args below meth c s₁ B hml hv
  obtain ⟨rfl, hsz, hP, hK, hD0, hev⟩ := hv
  have hx := B.exec
  have hb := B.bytes
  have hr := B.returns
  have hts := atoms_spec (ws := w_y_picture) B.pre
  have hown : s.vm.findClass RX9 = some m.cls := findClass_of_methodNamed B.named
  have hlocks := B.notSynchronized
  have inX9 : ∀ w ∈ wsX90, w ∈ w_y_picture := fun w h => List.mem_cons_of_mem _ (List.mem_append_right _ h)
  subst hsz
  have hD := hD0.self (sz := s.heap.size)
  generalize hAe : va_A [(h0, .inr (7, [.ref m0, v1, v2, v3, v4, .ref m1, v6, v7, v8, v9, v10, v11, v12, v13, v14, v15, v16, v17, v18, v19, v20, v21, v22, v23, v24, v25, v26, v27])), (m0, .inl (mc0, 38, .inl nf)), (m1, .inl (mc1, 8, .inl ff))] s.heap.size = A at hD ⊢
  have hA : ∀ q : Nat, s.heap.size ≤ q → A q := fun q h => by rw [← hAe]; exact Or.inr h
  have hS : va_S A s.heap s.heap [] := va_S.rf
  have hP : va_P (dC, dI) vwCl [(h0, .inr (7, [.ref m0, v1, v2, v3, v4, .ref m1, v6, v7, v8, v9, v10, v11, v12, v13, v14, v15, v16, v17, v18, v19, v20, v21, v22, v23, v24, v25, v26, v27])), (m0, .inl (mc0, 38, .inl nf)), (m1, .inl (mc1, 8, .inl ff))] s.heap := hP
  have hl := lv_entry ([.ref h0, .int a]) (n := 2) (Nat.le_of_ble_eq_true rfl)
  rw [lg_entry_eq]
  generalize (lg_sl ([.ref h0, .int a]) ++ List.replicate (2 - (lg_sl ([.ref h0, .int a])).length) Slot.unset).toArray = ls at hl ⊢
  have hl : lv_has ls 2 [(0, .ref h0), (1, .int a)] := hl
  refine lv_aload_n hx hb dX9_picture_0 rfl (lv_at hl 0 rfl) ?_
  refine lv_iload_n hx hb dX9_picture_1 rfl (lv_at hl 1 rfl) ?_
  have hPc := hP.sub (ws' := [(h0, .inr (7, [.ref m0, v1, v2, v3, v4, .ref m1, v6, v7, v8, v9, v10, v11, v12, v13, v14, v15, v16, v17, v18, v19, v20, v21, v22, v23, v24, v25, v26, v27])), (m0, .inl (mc0, 38, .inl nf))]) [0, 1] rfl
  have hKc := hK.sub (tys' := [(mc0, .int)]) [0] rfl
  refine vp_callSi (W.runV (As := [.int a]) (rest := []) ⟨hx, hb, hml, hown, hts⟩ (m_isScene l dC dI ad h0 a m0 v1 v2 v3 v4 (.ref m1) v6 v7 v8 v9 v10 v11 v12 v13 v14 v15 v16 v17 v18 v19 v20 v21 v22 v23 v24 v25 v26 v27 mc0 nf hnf) (cwV 1 hts g_y_picture_m_isScene_155 rfl rfl rfl (by decide +kernel) ⟨(Nat.le_of_ble_eq_true rfl), (Nat.le_of_ble_eq_true rfl)⟩) ⟨preS_blind, va_recv hKc hPc (ci := 7) (q0 := 0) rfl rfl, fun U hU hW => ⟨rfl, preS_at hU hW hPc hKc hev⟩⟩ rfl rfl hl.1 rfl (lv_room (Nat.le_of_ble_eq_true rfl)) dX9_picture_2 ⟨(Nat.le_of_ble_eq_true rfl), (Nat.le_of_ble_eq_true rfl)⟩) (fun r_1 hw => ?_)
  subst hw
  refine lv_if_eq (tgt := 17) hx hb dX9_picture_5 (by decide) (fun _ => ?_) (fun c => absurd (by decide) c)
  refine lv_aload_n hx hb dX9_picture_17 rfl (lv_at hl 0 rfl) ?_
  refine lv_ldc hx hb hown (hts _ (List.mem_of_getElem? (i := 10) rfl)) dX9_picture_18 ?_
  have hPc := hP.sub (ws' := [(h0, .inr (7, [.ref m0, v1, v2, v3, v4, .ref m1, v6, v7, v8, v9, v10, v11, v12, v13, v14, v15, v16, v17, v18, v19, v20, v21, v22, v23, v24, v25, v26, v27])), (m1, .inl (mc1, 8, .inl ff))]) [0, 2] rfl
  have hKc := hK.sub (tys' := [(mc1, .int)]) [1] rfl
  have hDc := hD.sub (ws' := [(h0, .inr (7, [.ref m0, v1, v2, v3, v4, .ref m1, v6, v7, v8, v9, v10, v11, v12, v13, v14, v15, v16, v17, v18, v19, v20, v21, v22, v23, v24, v25, v26, v27])), (m1, .inl (mc1, 8, .inl ff))]) [0, 2] (by decide) rfl
  have hFc := va_free (wc := [(h0, .inr (7, [.ref m0, v1, v2, v3, v4, .ref m1, v6, v7, v8, v9, v10, v11, v12, v13, v14, v15, v16, v17, v18, v19, v20, v21, v22, v23, v24, v25, v26, v27])), (m1, .inl (mc1, 8, .inl ff))]) hD hS hA [0, 2] rfl
  refine va_calli (va_runV (As := [.int (-1000000001)]) (rest := []) ⟨hx, hb, hml, hown, hts⟩ (m_find_beyond l dC dI ad h0 (.ref m0) v1 v2 v3 v4 m1 v6 v7 v8 v9 v10 v11 v12 v13 v14 v15 v16 v17 v18 v19 v20 v21 v22 v23 v24 v25 v26 v27 mc1 ff s.heap.size ) (cwV 1 hts g_y_picture_m_find_beyond_84 rfl rfl rfl (by decide +kernel) ⟨(Nat.le_of_ble_eq_true rfl), (Nat.le_of_ble_eq_true rfl)⟩) ⟨preM_blind, va_recv hKc hPc (ci := 7) (q0 := 0) rfl rfl, fun U hU hW => ⟨rfl, preM_at hU hW hPc hKc hDc hev⟩⟩ rfl rfl hl.1 rfl (lv_room (Nat.le_of_ble_eq_true rfl)) dX9_picture_20 ⟨(Nat.le_of_ble_eq_true rfl), (Nat.le_of_ble_eq_true rfl)⟩) hS (fun q _ h => hFc q h) hFc (fun r_2 u t H1 locs ht hvm hw hB hz1 hk1 hS => ?_)
  obtain ⟨hP, hD⟩ := va_join (wr := [(m0, .inl (mc0, 38, .inl nf))]) (w1 := []) hP hD [0, 2] [1] rfl rfl (by decide) (by decide) hk1 hFc nil_P nil_D
  generalize H1 = H at hP hS ⊢
  have hP : va_P (dC, dI) vwCl [(m0, .inl (mc0, 38, .inl nf))] H := hP
  have hD : va_D A [(m0, .inl (mc0, 38, .inl nf))] := hD
  subst hw
  refine lv_i2l (v := (-1000000001)) hx hb dX9_picture_23 (by decide) ?_
  exact W.lret (v := (-1000000001)) hx hb hr (fun t ht hW => ⟨⟨(-1000000001), (), rfl, rfl, trivial⟩, hS.F ht⟩) hS.2.2 dX9_picture_24

def w_y_off : List Cond := .code yX9_off cX9_off 2 (some .int) :: (([.methodLink RX9 155 yX9_isScene, .instanceMethod yX9_isScene, .selects RX9 yX9_isScene yX9_isScene, .initialized RX9, .code yX9_isScene cX9_isScene 2 (some .boolean), .fieldLink RX9 9 "LampShapesModel" "now" "[I", .methodLink RX9 75 yX9_within, .static yX9_within, .code yX9_within cX9_within 3 (some .boolean), .constant RX9 74 (-1000000001), .methodLink RX9 84 yX9_finding, .instanceMethod yX9_finding, .selects RX9 yX9_finding yX9_finding, .code yX9_finding cX9_finding 2 (some .int), .fieldLink RX9 23 "LampShapesModel" "found" "[I"] : List Cond) ++ wsX90)
set_option maxRecDepth 20000 in
theorem g_y_off_m_isScene_155 : GoodIn w_y_off (wsV RX9 155 RX9 yX9_isScene w_m_isScene) := goodIn_r _ [1, 2, 3, 4, 5, 6, 7, 8, 4, 9, 16, 17, 18, 19, 20, 21, 22, 23, 24, 25, 26, 27, 28, 29, 30, 31, 32, 33, 34, 35, 36, 37, 38, 39, 40, 41, 42, 43] rfl (by decide +kernel)
set_option maxRecDepth 20000 in
theorem g_y_off_m_find_beyond_84 : GoodIn w_y_off (wsV RX9 84 RX9 yX9_finding w_m_find_beyond) := goodIn_r _ [11, 12, 13, 4, 14, 15, 10, 16, 17, 18, 19, 20, 21, 22, 23, 24, 25, 26, 27, 28, 29, 30, 31, 32, 33, 34, 35, 36, 37, 38, 39, 40, 41, 42, 43] rfl (by decide +kernel)
set_option maxHeartbeats 4000000 in
set_option maxRecDepth 100000 in
theorem y_off (l : Launch) (dC : Nat → ClassId) (dI : Nat → Nat → Nat) (ad : Nat → Nat) (h0 : Nat) (a : Int32) (m0 : Nat) (v1 : Value) (v2 : Value) (v3 : Value) (v4 : Value) (m1 : Nat) (v6 : Value) (v7 : Value) (v8 : Value) (v9 : Value) (v10 : Value) (v11 : Value) (v12 : Value) (v13 : Value) (v14 : Value) (v15 : Value) (v16 : Value) (v17 : Value) (v18 : Value) (v19 : Value) (v20 : Value) (v21 : Value) (v22 : Value) (v23 : Value) (v24 : Value) (v25 : Value) (v26 : Value) (v27 : Value) (mc0 : ClassId) (nf : Nat → Int32) (mc1 : ClassId) (ff : Nat → Int32) (sz : Nat) (hnf : ∀ j, j < 38 → nf j = fr_n j) : Met l yX9_off w_y_off ({ frames := 2, cells := 0, slots := 0, locals := 43 } : Room) (va_Pc [.ref h0, .int a] (preM dC dI ad [(mc0, .int), (mc1, .int)] [(h0, .inr (7, [.ref m0, v1, v2, v3, v4, .ref m1, v6, v7, v8, v9, v10, v11, v12, v13, v14, v15, v16, v17, v18, v19, v20, v21, v22, v23, v24, v25, v26, v27])), (m0, .inl (mc0, 38, .inl nf)), (m1, .inl (mc1, 8, .inl ff))] sz)) (va_Qi (fun (r : Int32) (_ : Unit) => (r = (-1000000001))) (fun _ _ => True) (va_A [(h0, .inr (7, [.ref m0, v1, v2, v3, v4, .ref m1, v6, v7, v8, v9, v10, v11, v12, v13, v14, v15, v16, v17, v18, v19, v20, v21, v22, v23, v24, v25, v26, v27])), (m0, .inl (mc0, 38, .inl nf)), (m1, .inl (mc1, 8, .inl ff))] sz)) 0 0 (va_A [(h0, .inr (7, [.ref m0, v1, v2, v3, v4, .ref m1, v6, v7, v8, v9, v10, v11, v12, v13, v14, v15, v16, v17, v18, v19, v20, v21, v22, v23, v24, v25, v26, v27])), (m0, .inl (mc0, 38, .inl nf)), (m1, .inl (mc1, 8, .inl ff))] sz) := by
  refine Met.ofW (cc := cX9_off) (maxL := 2) (ret := (some .int)) (by decide) rfl ?_
  intro p e s m args below meth c s₁ B hml hv
  obtain ⟨rfl, hsz, hP, hK, hD0, hev⟩ := hv
  have hx := B.exec
  have hb := B.bytes
  have hr := B.returns
  have hts := atoms_spec (ws := w_y_off) B.pre
  have hown : s.vm.findClass RX9 = some m.cls := findClass_of_methodNamed B.named
  have hlocks := B.notSynchronized
  have inX9 : ∀ w ∈ wsX90, w ∈ w_y_off := fun w h => List.mem_cons_of_mem _ (List.mem_append_right _ h)
  subst hsz
  have hD := hD0.self (sz := s.heap.size)
  generalize hAe : va_A [(h0, .inr (7, [.ref m0, v1, v2, v3, v4, .ref m1, v6, v7, v8, v9, v10, v11, v12, v13, v14, v15, v16, v17, v18, v19, v20, v21, v22, v23, v24, v25, v26, v27])), (m0, .inl (mc0, 38, .inl nf)), (m1, .inl (mc1, 8, .inl ff))] s.heap.size = A at hD ⊢
  have hA : ∀ q : Nat, s.heap.size ≤ q → A q := fun q h => by rw [← hAe]; exact Or.inr h
  have hS : va_S A s.heap s.heap [] := va_S.rf
  have hP : va_P (dC, dI) vwCl [(h0, .inr (7, [.ref m0, v1, v2, v3, v4, .ref m1, v6, v7, v8, v9, v10, v11, v12, v13, v14, v15, v16, v17, v18, v19, v20, v21, v22, v23, v24, v25, v26, v27])), (m0, .inl (mc0, 38, .inl nf)), (m1, .inl (mc1, 8, .inl ff))] s.heap := hP
  have hl := lv_entry ([.ref h0, .int a]) (n := 2) (Nat.le_of_ble_eq_true rfl)
  rw [lg_entry_eq]
  generalize (lg_sl ([.ref h0, .int a]) ++ List.replicate (2 - (lg_sl ([.ref h0, .int a])).length) Slot.unset).toArray = ls at hl ⊢
  have hl : lv_has ls 2 [(0, .ref h0), (1, .int a)] := hl
  refine lv_aload_n hx hb dX9_off_0 rfl (lv_at hl 0 rfl) ?_
  refine lv_iload_n hx hb dX9_off_1 rfl (lv_at hl 1 rfl) ?_
  have hPc := hP.sub (ws' := [(h0, .inr (7, [.ref m0, v1, v2, v3, v4, .ref m1, v6, v7, v8, v9, v10, v11, v12, v13, v14, v15, v16, v17, v18, v19, v20, v21, v22, v23, v24, v25, v26, v27])), (m0, .inl (mc0, 38, .inl nf))]) [0, 1] rfl
  have hKc := hK.sub (tys' := [(mc0, .int)]) [0] rfl
  refine vp_callSi (W.runV (As := [.int a]) (rest := []) ⟨hx, hb, hml, hown, hts⟩ (m_isScene l dC dI ad h0 a m0 v1 v2 v3 v4 (.ref m1) v6 v7 v8 v9 v10 v11 v12 v13 v14 v15 v16 v17 v18 v19 v20 v21 v22 v23 v24 v25 v26 v27 mc0 nf hnf) (cwV 1 hts g_y_off_m_isScene_155 rfl rfl rfl (by decide +kernel) ⟨(Nat.le_of_ble_eq_true rfl), (Nat.le_of_ble_eq_true rfl)⟩) ⟨preS_blind, va_recv hKc hPc (ci := 7) (q0 := 0) rfl rfl, fun U hU hW => ⟨rfl, preS_at hU hW hPc hKc hev⟩⟩ rfl rfl hl.1 rfl (lv_room (Nat.le_of_ble_eq_true rfl)) dX9_off_2 ⟨(Nat.le_of_ble_eq_true rfl), (Nat.le_of_ble_eq_true rfl)⟩) (fun r_1 hw => ?_)
  subst hw
  refine lv_if_eq (tgt := 25) hx hb dX9_off_5 (by decide) (fun _ => ?_) (fun c => absurd (by decide) c)
  refine lv_aload_n hx hb dX9_off_25 rfl (lv_at hl 0 rfl) ?_
  refine lv_ldc hx hb hown (hts _ (List.mem_of_getElem? (i := 10) rfl)) dX9_off_26 ?_
  have hPc := hP.sub (ws' := [(h0, .inr (7, [.ref m0, v1, v2, v3, v4, .ref m1, v6, v7, v8, v9, v10, v11, v12, v13, v14, v15, v16, v17, v18, v19, v20, v21, v22, v23, v24, v25, v26, v27])), (m1, .inl (mc1, 8, .inl ff))]) [0, 2] rfl
  have hKc := hK.sub (tys' := [(mc1, .int)]) [1] rfl
  have hDc := hD.sub (ws' := [(h0, .inr (7, [.ref m0, v1, v2, v3, v4, .ref m1, v6, v7, v8, v9, v10, v11, v12, v13, v14, v15, v16, v17, v18, v19, v20, v21, v22, v23, v24, v25, v26, v27])), (m1, .inl (mc1, 8, .inl ff))]) [0, 2] (by decide) rfl
  have hFc := va_free (wc := [(h0, .inr (7, [.ref m0, v1, v2, v3, v4, .ref m1, v6, v7, v8, v9, v10, v11, v12, v13, v14, v15, v16, v17, v18, v19, v20, v21, v22, v23, v24, v25, v26, v27])), (m1, .inl (mc1, 8, .inl ff))]) hD hS hA [0, 2] rfl
  refine va_calli (va_runV (As := [.int (-1000000001)]) (rest := []) ⟨hx, hb, hml, hown, hts⟩ (m_find_beyond l dC dI ad h0 (.ref m0) v1 v2 v3 v4 m1 v6 v7 v8 v9 v10 v11 v12 v13 v14 v15 v16 v17 v18 v19 v20 v21 v22 v23 v24 v25 v26 v27 mc1 ff s.heap.size ) (cwV 1 hts g_y_off_m_find_beyond_84 rfl rfl rfl (by decide +kernel) ⟨(Nat.le_of_ble_eq_true rfl), (Nat.le_of_ble_eq_true rfl)⟩) ⟨preM_blind, va_recv hKc hPc (ci := 7) (q0 := 0) rfl rfl, fun U hU hW => ⟨rfl, preM_at hU hW hPc hKc hDc hev⟩⟩ rfl rfl hl.1 rfl (lv_room (Nat.le_of_ble_eq_true rfl)) dX9_off_28 ⟨(Nat.le_of_ble_eq_true rfl), (Nat.le_of_ble_eq_true rfl)⟩) hS (fun q _ h => hFc q h) hFc (fun r_2 u t H1 locs ht hvm hw hB hz1 hk1 hS => ?_)
  obtain ⟨hP, hD⟩ := va_join (wr := [(m0, .inl (mc0, 38, .inl nf))]) (w1 := []) hP hD [0, 2] [1] rfl rfl (by decide) (by decide) hk1 hFc nil_P nil_D
  generalize H1 = H at hP hS ⊢
  have hP : va_P (dC, dI) vwCl [(m0, .inl (mc0, 38, .inl nf))] H := hP
  have hD : va_D A [(m0, .inl (mc0, 38, .inl nf))] := hD
  subst hw
  exact W.iret (v := (-1000000001)) hx hb hr (fun t ht hW => ⟨⟨(-1000000001), (), rfl, rfl, trivial⟩, hS.F ht⟩) hS.2.2 dX9_off_31

def w_y_changes : List Cond := .code yX9_changes cX9_changes 3 (some .int) :: (([.methodLink RX9 155 yX9_isScene, .instanceMethod yX9_isScene, .selects RX9 yX9_isScene yX9_isScene, .initialized RX9, .code yX9_isScene cX9_isScene 2 (some .boolean), .fieldLink RX9 9 "LampShapesModel" "now" "[I", .methodLink RX9 75 yX9_within, .static yX9_within, .code yX9_within cX9_within 3 (some .boolean), .constant RX9 74 (-1000000001), .methodLink RX9 84 yX9_finding, .instanceMethod yX9_finding, .selects RX9 yX9_finding yX9_finding, .code yX9_finding cX9_finding 2 (some .int), .fieldLink RX9 23 "LampShapesModel" "found" "[I"] : List Cond) ++ wsX90)
set_option maxRecDepth 20000 in
theorem g_y_changes_m_isScene_155 : GoodIn w_y_changes (wsV RX9 155 RX9 yX9_isScene w_m_isScene) := goodIn_r _ [1, 2, 3, 4, 5, 6, 7, 8, 4, 9, 16, 17, 18, 19, 20, 21, 22, 23, 24, 25, 26, 27, 28, 29, 30, 31, 32, 33, 34, 35, 36, 37, 38, 39, 40, 41, 42, 43] rfl (by decide +kernel)
set_option maxRecDepth 20000 in
theorem g_y_changes_m_find_beyond_84 : GoodIn w_y_changes (wsV RX9 84 RX9 yX9_finding w_m_find_beyond) := goodIn_r _ [11, 12, 13, 4, 14, 15, 10, 16, 17, 18, 19, 20, 21, 22, 23, 24, 25, 26, 27, 28, 29, 30, 31, 32, 33, 34, 35, 36, 37, 38, 39, 40, 41, 42, 43] rfl (by decide +kernel)
set_option maxHeartbeats 4000000 in
set_option maxRecDepth 100000 in
theorem y_changes (l : Launch) (dC : Nat → ClassId) (dI : Nat → Nat → Nat) (ad : Nat → Nat) (h0 : Nat) (a : Int32) (b : Int32) (m0 : Nat) (v1 : Value) (v2 : Value) (v3 : Value) (v4 : Value) (m1 : Nat) (v6 : Value) (v7 : Value) (v8 : Value) (v9 : Value) (v10 : Value) (v11 : Value) (v12 : Value) (v13 : Value) (v14 : Value) (v15 : Value) (v16 : Value) (v17 : Value) (v18 : Value) (v19 : Value) (v20 : Value) (v21 : Value) (v22 : Value) (v23 : Value) (v24 : Value) (v25 : Value) (v26 : Value) (v27 : Value) (mc0 : ClassId) (nf : Nat → Int32) (mc1 : ClassId) (ff : Nat → Int32) (sz : Nat) (hnf : ∀ j, j < 38 → nf j = fr_n j) : Met l yX9_changes w_y_changes ({ frames := 2, cells := 0, slots := 0, locals := 43 } : Room) (va_Pc [.ref h0, .int a, .int b] (preM dC dI ad [(mc0, .int), (mc1, .int)] [(h0, .inr (7, [.ref m0, v1, v2, v3, v4, .ref m1, v6, v7, v8, v9, v10, v11, v12, v13, v14, v15, v16, v17, v18, v19, v20, v21, v22, v23, v24, v25, v26, v27])), (m0, .inl (mc0, 38, .inl nf)), (m1, .inl (mc1, 8, .inl ff))] sz)) (va_Qi (fun (r : Int32) (_ : Unit) => (r = (-1000000001))) (fun _ _ => True) (va_A [(h0, .inr (7, [.ref m0, v1, v2, v3, v4, .ref m1, v6, v7, v8, v9, v10, v11, v12, v13, v14, v15, v16, v17, v18, v19, v20, v21, v22, v23, v24, v25, v26, v27])), (m0, .inl (mc0, 38, .inl nf)), (m1, .inl (mc1, 8, .inl ff))] sz)) 0 0 (va_A [(h0, .inr (7, [.ref m0, v1, v2, v3, v4, .ref m1, v6, v7, v8, v9, v10, v11, v12, v13, v14, v15, v16, v17, v18, v19, v20, v21, v22, v23, v24, v25, v26, v27])), (m0, .inl (mc0, 38, .inl nf)), (m1, .inl (mc1, 8, .inl ff))] sz) := by
  refine Met.ofW (cc := cX9_changes) (maxL := 3) (ret := (some .int)) (by decide) rfl ?_
  intro p e s m args below meth c s₁ B hml hv
  obtain ⟨rfl, hsz, hP, hK, hD0, hev⟩ := hv
  have hx := B.exec
  have hb := B.bytes
  have hr := B.returns
  have hts := atoms_spec (ws := w_y_changes) B.pre
  have hown : s.vm.findClass RX9 = some m.cls := findClass_of_methodNamed B.named
  have hlocks := B.notSynchronized
  have inX9 : ∀ w ∈ wsX90, w ∈ w_y_changes := fun w h => List.mem_cons_of_mem _ (List.mem_append_right _ h)
  subst hsz
  have hD := hD0.self (sz := s.heap.size)
  generalize hAe : va_A [(h0, .inr (7, [.ref m0, v1, v2, v3, v4, .ref m1, v6, v7, v8, v9, v10, v11, v12, v13, v14, v15, v16, v17, v18, v19, v20, v21, v22, v23, v24, v25, v26, v27])), (m0, .inl (mc0, 38, .inl nf)), (m1, .inl (mc1, 8, .inl ff))] s.heap.size = A at hD ⊢
  have hA : ∀ q : Nat, s.heap.size ≤ q → A q := fun q h => by rw [← hAe]; exact Or.inr h
  have hS : va_S A s.heap s.heap [] := va_S.rf
  have hP : va_P (dC, dI) vwCl [(h0, .inr (7, [.ref m0, v1, v2, v3, v4, .ref m1, v6, v7, v8, v9, v10, v11, v12, v13, v14, v15, v16, v17, v18, v19, v20, v21, v22, v23, v24, v25, v26, v27])), (m0, .inl (mc0, 38, .inl nf)), (m1, .inl (mc1, 8, .inl ff))] s.heap := hP
  have hl := lv_entry ([.ref h0, .int a, .int b]) (n := 3) (Nat.le_of_ble_eq_true rfl)
  rw [lg_entry_eq]
  generalize (lg_sl ([.ref h0, .int a, .int b]) ++ List.replicate (3 - (lg_sl ([.ref h0, .int a, .int b])).length) Slot.unset).toArray = ls at hl ⊢
  have hl : lv_has ls 3 [(0, .ref h0), (1, .int a), (2, .int b)] := hl
  refine lv_aload_n hx hb dX9_changes_0 rfl (lv_at hl 0 rfl) ?_
  refine lv_iload_n hx hb dX9_changes_1 rfl (lv_at hl 1 rfl) ?_
  have hPc := hP.sub (ws' := [(h0, .inr (7, [.ref m0, v1, v2, v3, v4, .ref m1, v6, v7, v8, v9, v10, v11, v12, v13, v14, v15, v16, v17, v18, v19, v20, v21, v22, v23, v24, v25, v26, v27])), (m0, .inl (mc0, 38, .inl nf))]) [0, 1] rfl
  have hKc := hK.sub (tys' := [(mc0, .int)]) [0] rfl
  refine vp_callSi (W.runV (As := [.int a]) (rest := []) ⟨hx, hb, hml, hown, hts⟩ (m_isScene l dC dI ad h0 a m0 v1 v2 v3 v4 (.ref m1) v6 v7 v8 v9 v10 v11 v12 v13 v14 v15 v16 v17 v18 v19 v20 v21 v22 v23 v24 v25 v26 v27 mc0 nf hnf) (cwV 1 hts g_y_changes_m_isScene_155 rfl rfl rfl (by decide +kernel) ⟨(Nat.le_of_ble_eq_true rfl), (Nat.le_of_ble_eq_true rfl)⟩) ⟨preS_blind, va_recv hKc hPc (ci := 7) (q0 := 0) rfl rfl, fun U hU hW => ⟨rfl, preS_at hU hW hPc hKc hev⟩⟩ rfl rfl hl.1 rfl (lv_room (Nat.le_of_ble_eq_true rfl)) dX9_changes_2 ⟨(Nat.le_of_ble_eq_true rfl), (Nat.le_of_ble_eq_true rfl)⟩) (fun r_1 hw => ?_)
  subst hw
  refine lv_if_eq (tgt := 25) hx hb dX9_changes_5 (by decide) (fun _ => ?_) (fun c => absurd (by decide) c)
  refine lv_aload_n hx hb dX9_changes_25 rfl (lv_at hl 0 rfl) ?_
  refine lv_ldc hx hb hown (hts _ (List.mem_of_getElem? (i := 10) rfl)) dX9_changes_26 ?_
  have hPc := hP.sub (ws' := [(h0, .inr (7, [.ref m0, v1, v2, v3, v4, .ref m1, v6, v7, v8, v9, v10, v11, v12, v13, v14, v15, v16, v17, v18, v19, v20, v21, v22, v23, v24, v25, v26, v27])), (m1, .inl (mc1, 8, .inl ff))]) [0, 2] rfl
  have hKc := hK.sub (tys' := [(mc1, .int)]) [1] rfl
  have hDc := hD.sub (ws' := [(h0, .inr (7, [.ref m0, v1, v2, v3, v4, .ref m1, v6, v7, v8, v9, v10, v11, v12, v13, v14, v15, v16, v17, v18, v19, v20, v21, v22, v23, v24, v25, v26, v27])), (m1, .inl (mc1, 8, .inl ff))]) [0, 2] (by decide) rfl
  have hFc := va_free (wc := [(h0, .inr (7, [.ref m0, v1, v2, v3, v4, .ref m1, v6, v7, v8, v9, v10, v11, v12, v13, v14, v15, v16, v17, v18, v19, v20, v21, v22, v23, v24, v25, v26, v27])), (m1, .inl (mc1, 8, .inl ff))]) hD hS hA [0, 2] rfl
  refine va_calli (va_runV (As := [.int (-1000000001)]) (rest := []) ⟨hx, hb, hml, hown, hts⟩ (m_find_beyond l dC dI ad h0 (.ref m0) v1 v2 v3 v4 m1 v6 v7 v8 v9 v10 v11 v12 v13 v14 v15 v16 v17 v18 v19 v20 v21 v22 v23 v24 v25 v26 v27 mc1 ff s.heap.size ) (cwV 1 hts g_y_changes_m_find_beyond_84 rfl rfl rfl (by decide +kernel) ⟨(Nat.le_of_ble_eq_true rfl), (Nat.le_of_ble_eq_true rfl)⟩) ⟨preM_blind, va_recv hKc hPc (ci := 7) (q0 := 0) rfl rfl, fun U hU hW => ⟨rfl, preM_at hU hW hPc hKc hDc hev⟩⟩ rfl rfl hl.1 rfl (lv_room (Nat.le_of_ble_eq_true rfl)) dX9_changes_28 ⟨(Nat.le_of_ble_eq_true rfl), (Nat.le_of_ble_eq_true rfl)⟩) hS (fun q _ h => hFc q h) hFc (fun r_2 u t H1 locs ht hvm hw hB hz1 hk1 hS => ?_)
  obtain ⟨hP, hD⟩ := va_join (wr := [(m0, .inl (mc0, 38, .inl nf))]) (w1 := []) hP hD [0, 2] [1] rfl rfl (by decide) (by decide) hk1 hFc nil_P nil_D
  generalize H1 = H at hP hS ⊢
  have hP : va_P (dC, dI) vwCl [(m0, .inl (mc0, 38, .inl nf))] H := hP
  have hD : va_D A [(m0, .inl (mc0, 38, .inl nf))] := hD
  subst hw
  exact W.iret (v := (-1000000001)) hx hb hr (fun t ht hW => ⟨⟨(-1000000001), (), rfl, rfl, trivial⟩, hS.F ht⟩) hS.2.2 dX9_changes_31

def w_y_best : List Cond := .code yX9_best cX9_best 6 (some .int) :: (([.methodLink RX9 155 yX9_isScene, .instanceMethod yX9_isScene, .selects RX9 yX9_isScene yX9_isScene, .initialized RX9, .code yX9_isScene cX9_isScene 2 (some .boolean), .fieldLink RX9 9 "LampShapesModel" "now" "[I", .methodLink RX9 75 yX9_within, .static yX9_within, .code yX9_within cX9_within 3 (some .boolean), .constant RX9 74 (-1000000001), .methodLink RX9 84 yX9_finding, .instanceMethod yX9_finding, .selects RX9 yX9_finding yX9_finding, .code yX9_finding cX9_finding 2 (some .int), .fieldLink RX9 23 "LampShapesModel" "found" "[I"] : List Cond) ++ wsX90)
set_option maxRecDepth 20000 in
theorem g_y_best_m_isScene_155 : GoodIn w_y_best (wsV RX9 155 RX9 yX9_isScene w_m_isScene) := goodIn_r _ [1, 2, 3, 4, 5, 6, 7, 8, 4, 9, 16, 17, 18, 19, 20, 21, 22, 23, 24, 25, 26, 27, 28, 29, 30, 31, 32, 33, 34, 35, 36, 37, 38, 39, 40, 41, 42, 43] rfl (by decide +kernel)
set_option maxRecDepth 20000 in
theorem g_y_best_m_find_beyond_84 : GoodIn w_y_best (wsV RX9 84 RX9 yX9_finding w_m_find_beyond) := goodIn_r _ [11, 12, 13, 4, 14, 15, 10, 16, 17, 18, 19, 20, 21, 22, 23, 24, 25, 26, 27, 28, 29, 30, 31, 32, 33, 34, 35, 36, 37, 38, 39, 40, 41, 42, 43] rfl (by decide +kernel)
set_option maxHeartbeats 4000000 in
set_option maxRecDepth 100000 in
theorem y_best (l : Launch) (dC : Nat → ClassId) (dI : Nat → Nat → Nat) (ad : Nat → Nat) (h0 : Nat) (a : Int32) (m0 : Nat) (v1 : Value) (v2 : Value) (v3 : Value) (v4 : Value) (m1 : Nat) (v6 : Value) (v7 : Value) (v8 : Value) (v9 : Value) (v10 : Value) (v11 : Value) (v12 : Value) (v13 : Value) (v14 : Value) (v15 : Value) (v16 : Value) (v17 : Value) (v18 : Value) (v19 : Value) (v20 : Value) (v21 : Value) (v22 : Value) (v23 : Value) (v24 : Value) (v25 : Value) (v26 : Value) (v27 : Value) (mc0 : ClassId) (nf : Nat → Int32) (mc1 : ClassId) (ff : Nat → Int32) (sz : Nat) (hnf : ∀ j, j < 38 → nf j = fr_n j) : Met l yX9_best w_y_best ({ frames := 2, cells := 0, slots := 0, locals := 43 } : Room) (va_Pc [.ref h0, .int a] (preM dC dI ad [(mc0, .int), (mc1, .int)] [(h0, .inr (7, [.ref m0, v1, v2, v3, v4, .ref m1, v6, v7, v8, v9, v10, v11, v12, v13, v14, v15, v16, v17, v18, v19, v20, v21, v22, v23, v24, v25, v26, v27])), (m0, .inl (mc0, 38, .inl nf)), (m1, .inl (mc1, 8, .inl ff))] sz)) (va_Qi (fun (r : Int32) (_ : Unit) => (r = (-1000000001))) (fun _ _ => True) (va_A [(h0, .inr (7, [.ref m0, v1, v2, v3, v4, .ref m1, v6, v7, v8, v9, v10, v11, v12, v13, v14, v15, v16, v17, v18, v19, v20, v21, v22, v23, v24, v25, v26, v27])), (m0, .inl (mc0, 38, .inl nf)), (m1, .inl (mc1, 8, .inl ff))] sz)) 0 0 (va_A [(h0, .inr (7, [.ref m0, v1, v2, v3, v4, .ref m1, v6, v7, v8, v9, v10, v11, v12, v13, v14, v15, v16, v17, v18, v19, v20, v21, v22, v23, v24, v25, v26, v27])), (m0, .inl (mc0, 38, .inl nf)), (m1, .inl (mc1, 8, .inl ff))] sz) := by
  refine Met.ofW (cc := cX9_best) (maxL := 6) (ret := (some .int)) (by decide) rfl ?_
  intro p e s m args below meth c s₁ B hml hv
  obtain ⟨rfl, hsz, hP, hK, hD0, hev⟩ := hv
  have hx := B.exec
  have hb := B.bytes
  have hr := B.returns
  have hts := atoms_spec (ws := w_y_best) B.pre
  have hown : s.vm.findClass RX9 = some m.cls := findClass_of_methodNamed B.named
  have hlocks := B.notSynchronized
  have inX9 : ∀ w ∈ wsX90, w ∈ w_y_best := fun w h => List.mem_cons_of_mem _ (List.mem_append_right _ h)
  subst hsz
  have hD := hD0.self (sz := s.heap.size)
  generalize hAe : va_A [(h0, .inr (7, [.ref m0, v1, v2, v3, v4, .ref m1, v6, v7, v8, v9, v10, v11, v12, v13, v14, v15, v16, v17, v18, v19, v20, v21, v22, v23, v24, v25, v26, v27])), (m0, .inl (mc0, 38, .inl nf)), (m1, .inl (mc1, 8, .inl ff))] s.heap.size = A at hD ⊢
  have hA : ∀ q : Nat, s.heap.size ≤ q → A q := fun q h => by rw [← hAe]; exact Or.inr h
  have hS : va_S A s.heap s.heap [] := va_S.rf
  have hP : va_P (dC, dI) vwCl [(h0, .inr (7, [.ref m0, v1, v2, v3, v4, .ref m1, v6, v7, v8, v9, v10, v11, v12, v13, v14, v15, v16, v17, v18, v19, v20, v21, v22, v23, v24, v25, v26, v27])), (m0, .inl (mc0, 38, .inl nf)), (m1, .inl (mc1, 8, .inl ff))] s.heap := hP
  have hl := lv_entry ([.ref h0, .int a]) (n := 6) (Nat.le_of_ble_eq_true rfl)
  rw [lg_entry_eq]
  generalize (lg_sl ([.ref h0, .int a]) ++ List.replicate (6 - (lg_sl ([.ref h0, .int a])).length) Slot.unset).toArray = ls at hl ⊢
  have hl : lv_has ls 6 [(0, .ref h0), (1, .int a)] := hl
  refine lv_aload_n hx hb dX9_best_0 rfl (lv_at hl 0 rfl) ?_
  refine lv_iload_n hx hb dX9_best_1 rfl (lv_at hl 1 rfl) ?_
  have hPc := hP.sub (ws' := [(h0, .inr (7, [.ref m0, v1, v2, v3, v4, .ref m1, v6, v7, v8, v9, v10, v11, v12, v13, v14, v15, v16, v17, v18, v19, v20, v21, v22, v23, v24, v25, v26, v27])), (m0, .inl (mc0, 38, .inl nf))]) [0, 1] rfl
  have hKc := hK.sub (tys' := [(mc0, .int)]) [0] rfl
  refine vp_callSi (W.runV (As := [.int a]) (rest := []) ⟨hx, hb, hml, hown, hts⟩ (m_isScene l dC dI ad h0 a m0 v1 v2 v3 v4 (.ref m1) v6 v7 v8 v9 v10 v11 v12 v13 v14 v15 v16 v17 v18 v19 v20 v21 v22 v23 v24 v25 v26 v27 mc0 nf hnf) (cwV 1 hts g_y_best_m_isScene_155 rfl rfl rfl (by decide +kernel) ⟨(Nat.le_of_ble_eq_true rfl), (Nat.le_of_ble_eq_true rfl)⟩) ⟨preS_blind, va_recv hKc hPc (ci := 7) (q0 := 0) rfl rfl, fun U hU hW => ⟨rfl, preS_at hU hW hPc hKc hev⟩⟩ rfl rfl hl.1 rfl (lv_room (Nat.le_of_ble_eq_true rfl)) dX9_best_2 ⟨(Nat.le_of_ble_eq_true rfl), (Nat.le_of_ble_eq_true rfl)⟩) (fun r_1 hw => ?_)
  subst hw
  refine lv_if_ne (tgt := 15) hx hb dX9_best_5 (by decide) (fun c => absurd (by decide) c) (fun _ => ?_)
  refine lv_aload_n hx hb dX9_best_8 rfl (lv_at hl 0 rfl) ?_
  refine lv_ldc hx hb hown (hts _ (List.mem_of_getElem? (i := 10) rfl)) dX9_best_9 ?_
  have hPc := hP.sub (ws' := [(h0, .inr (7, [.ref m0, v1, v2, v3, v4, .ref m1, v6, v7, v8, v9, v10, v11, v12, v13, v14, v15, v16, v17, v18, v19, v20, v21, v22, v23, v24, v25, v26, v27])), (m1, .inl (mc1, 8, .inl ff))]) [0, 2] rfl
  have hKc := hK.sub (tys' := [(mc1, .int)]) [1] rfl
  have hDc := hD.sub (ws' := [(h0, .inr (7, [.ref m0, v1, v2, v3, v4, .ref m1, v6, v7, v8, v9, v10, v11, v12, v13, v14, v15, v16, v17, v18, v19, v20, v21, v22, v23, v24, v25, v26, v27])), (m1, .inl (mc1, 8, .inl ff))]) [0, 2] (by decide) rfl
  have hFc := va_free (wc := [(h0, .inr (7, [.ref m0, v1, v2, v3, v4, .ref m1, v6, v7, v8, v9, v10, v11, v12, v13, v14, v15, v16, v17, v18, v19, v20, v21, v22, v23, v24, v25, v26, v27])), (m1, .inl (mc1, 8, .inl ff))]) hD hS hA [0, 2] rfl
  refine va_calli (va_runV (As := [.int (-1000000001)]) (rest := []) ⟨hx, hb, hml, hown, hts⟩ (m_find_beyond l dC dI ad h0 (.ref m0) v1 v2 v3 v4 m1 v6 v7 v8 v9 v10 v11 v12 v13 v14 v15 v16 v17 v18 v19 v20 v21 v22 v23 v24 v25 v26 v27 mc1 ff s.heap.size ) (cwV 1 hts g_y_best_m_find_beyond_84 rfl rfl rfl (by decide +kernel) ⟨(Nat.le_of_ble_eq_true rfl), (Nat.le_of_ble_eq_true rfl)⟩) ⟨preM_blind, va_recv hKc hPc (ci := 7) (q0 := 0) rfl rfl, fun U hU hW => ⟨rfl, preM_at hU hW hPc hKc hDc hev⟩⟩ rfl rfl hl.1 rfl (lv_room (Nat.le_of_ble_eq_true rfl)) dX9_best_11 ⟨(Nat.le_of_ble_eq_true rfl), (Nat.le_of_ble_eq_true rfl)⟩) hS (fun q _ h => hFc q h) hFc (fun r_2 u t H1 locs ht hvm hw hB hz1 hk1 hS => ?_)
  obtain ⟨hP, hD⟩ := va_join (wr := [(m0, .inl (mc0, 38, .inl nf))]) (w1 := []) hP hD [0, 2] [1] rfl rfl (by decide) (by decide) hk1 hFc nil_P nil_D
  generalize H1 = H at hP hS ⊢
  have hP : va_P (dC, dI) vwCl [(m0, .inl (mc0, 38, .inl nf))] H := hP
  have hD : va_D A [(m0, .inl (mc0, 38, .inl nf))] := hD
  subst hw
  exact W.iret (v := (-1000000001)) hx hb hr (fun t ht hW => ⟨⟨(-1000000001), (), rfl, rfl, trivial⟩, hS.F ht⟩) hS.2.2 dX9_best_14

def w_y_play : List Cond := .code yX9_play cX9_play 10 (some .int) :: (([.methodLink RX9 155 yX9_isScene, .instanceMethod yX9_isScene, .selects RX9 yX9_isScene yX9_isScene, .initialized RX9, .code yX9_isScene cX9_isScene 2 (some .boolean), .fieldLink RX9 9 "LampShapesModel" "now" "[I", .methodLink RX9 75 yX9_within, .static yX9_within, .code yX9_within cX9_within 3 (some .boolean), .constant RX9 74 (-1000000001), .methodLink RX9 84 yX9_finding, .instanceMethod yX9_finding, .selects RX9 yX9_finding yX9_finding, .code yX9_finding cX9_finding 2 (some .int), .fieldLink RX9 23 "LampShapesModel" "found" "[I"] : List Cond) ++ wsX90)
set_option maxRecDepth 20000 in
theorem g_y_play_m_isScene_155 : GoodIn w_y_play (wsV RX9 155 RX9 yX9_isScene w_m_isScene) := goodIn_r _ [1, 2, 3, 4, 5, 6, 7, 8, 4, 9, 16, 17, 18, 19, 20, 21, 22, 23, 24, 25, 26, 27, 28, 29, 30, 31, 32, 33, 34, 35, 36, 37, 38, 39, 40, 41, 42, 43] rfl (by decide +kernel)
set_option maxRecDepth 20000 in
theorem g_y_play_m_find_beyond_84 : GoodIn w_y_play (wsV RX9 84 RX9 yX9_finding w_m_find_beyond) := goodIn_r _ [11, 12, 13, 4, 14, 15, 10, 16, 17, 18, 19, 20, 21, 22, 23, 24, 25, 26, 27, 28, 29, 30, 31, 32, 33, 34, 35, 36, 37, 38, 39, 40, 41, 42, 43] rfl (by decide +kernel)
set_option maxHeartbeats 4000000 in
set_option maxRecDepth 100000 in
theorem y_play (l : Launch) (dC : Nat → ClassId) (dI : Nat → Nat → Nat) (ad : Nat → Nat) (h0 : Nat) (a : Int32) (m0 : Nat) (v1 : Value) (v2 : Value) (v3 : Value) (v4 : Value) (m1 : Nat) (v6 : Value) (v7 : Value) (v8 : Value) (v9 : Value) (v10 : Value) (v11 : Value) (v12 : Value) (v13 : Value) (v14 : Value) (v15 : Value) (v16 : Value) (v17 : Value) (v18 : Value) (v19 : Value) (v20 : Value) (v21 : Value) (v22 : Value) (v23 : Value) (v24 : Value) (v25 : Value) (v26 : Value) (v27 : Value) (mc0 : ClassId) (nf : Nat → Int32) (mc1 : ClassId) (ff : Nat → Int32) (sz : Nat) (hnf : ∀ j, j < 38 → nf j = fr_n j) : Met l yX9_play w_y_play ({ frames := 2, cells := 0, slots := 0, locals := 43 } : Room) (va_Pc [.ref h0, .int a] (preM dC dI ad [(mc0, .int), (mc1, .int)] [(h0, .inr (7, [.ref m0, v1, v2, v3, v4, .ref m1, v6, v7, v8, v9, v10, v11, v12, v13, v14, v15, v16, v17, v18, v19, v20, v21, v22, v23, v24, v25, v26, v27])), (m0, .inl (mc0, 38, .inl nf)), (m1, .inl (mc1, 8, .inl ff))] sz)) (va_Qi (fun (r : Int32) (_ : Unit) => (r = (-1000000001))) (fun _ _ => True) (va_A [(h0, .inr (7, [.ref m0, v1, v2, v3, v4, .ref m1, v6, v7, v8, v9, v10, v11, v12, v13, v14, v15, v16, v17, v18, v19, v20, v21, v22, v23, v24, v25, v26, v27])), (m0, .inl (mc0, 38, .inl nf)), (m1, .inl (mc1, 8, .inl ff))] sz)) 0 0 (va_A [(h0, .inr (7, [.ref m0, v1, v2, v3, v4, .ref m1, v6, v7, v8, v9, v10, v11, v12, v13, v14, v15, v16, v17, v18, v19, v20, v21, v22, v23, v24, v25, v26, v27])), (m0, .inl (mc0, 38, .inl nf)), (m1, .inl (mc1, 8, .inl ff))] sz) := by
  refine Met.ofW (cc := cX9_play) (maxL := 10) (ret := (some .int)) (by decide) rfl ?_
  intro p e s m args below meth c s₁ B hml hv
  obtain ⟨rfl, hsz, hP, hK, hD0, hev⟩ := hv
  have hx := B.exec
  have hb := B.bytes
  have hr := B.returns
  have hts := atoms_spec (ws := w_y_play) B.pre
  have hown : s.vm.findClass RX9 = some m.cls := findClass_of_methodNamed B.named
  have hlocks := B.notSynchronized
  have inX9 : ∀ w ∈ wsX90, w ∈ w_y_play := fun w h => List.mem_cons_of_mem _ (List.mem_append_right _ h)
  subst hsz
  have hD := hD0.self (sz := s.heap.size)
  generalize hAe : va_A [(h0, .inr (7, [.ref m0, v1, v2, v3, v4, .ref m1, v6, v7, v8, v9, v10, v11, v12, v13, v14, v15, v16, v17, v18, v19, v20, v21, v22, v23, v24, v25, v26, v27])), (m0, .inl (mc0, 38, .inl nf)), (m1, .inl (mc1, 8, .inl ff))] s.heap.size = A at hD ⊢
  have hA : ∀ q : Nat, s.heap.size ≤ q → A q := fun q h => by rw [← hAe]; exact Or.inr h
  have hS : va_S A s.heap s.heap [] := va_S.rf
  have hP : va_P (dC, dI) vwCl [(h0, .inr (7, [.ref m0, v1, v2, v3, v4, .ref m1, v6, v7, v8, v9, v10, v11, v12, v13, v14, v15, v16, v17, v18, v19, v20, v21, v22, v23, v24, v25, v26, v27])), (m0, .inl (mc0, 38, .inl nf)), (m1, .inl (mc1, 8, .inl ff))] s.heap := hP
  have hl := lv_entry ([.ref h0, .int a]) (n := 10) (Nat.le_of_ble_eq_true rfl)
  rw [lg_entry_eq]
  generalize (lg_sl ([.ref h0, .int a]) ++ List.replicate (10 - (lg_sl ([.ref h0, .int a])).length) Slot.unset).toArray = ls at hl ⊢
  have hl : lv_has ls 10 [(0, .ref h0), (1, .int a)] := hl
  refine lv_aload_n hx hb dX9_play_0 rfl (lv_at hl 0 rfl) ?_
  refine lv_iload_n hx hb dX9_play_1 rfl (lv_at hl 1 rfl) ?_
  have hPc := hP.sub (ws' := [(h0, .inr (7, [.ref m0, v1, v2, v3, v4, .ref m1, v6, v7, v8, v9, v10, v11, v12, v13, v14, v15, v16, v17, v18, v19, v20, v21, v22, v23, v24, v25, v26, v27])), (m0, .inl (mc0, 38, .inl nf))]) [0, 1] rfl
  have hKc := hK.sub (tys' := [(mc0, .int)]) [0] rfl
  refine vp_callSi (W.runV (As := [.int a]) (rest := []) ⟨hx, hb, hml, hown, hts⟩ (m_isScene l dC dI ad h0 a m0 v1 v2 v3 v4 (.ref m1) v6 v7 v8 v9 v10 v11 v12 v13 v14 v15 v16 v17 v18 v19 v20 v21 v22 v23 v24 v25 v26 v27 mc0 nf hnf) (cwV 1 hts g_y_play_m_isScene_155 rfl rfl rfl (by decide +kernel) ⟨(Nat.le_of_ble_eq_true rfl), (Nat.le_of_ble_eq_true rfl)⟩) ⟨preS_blind, va_recv hKc hPc (ci := 7) (q0 := 0) rfl rfl, fun U hU hW => ⟨rfl, preS_at hU hW hPc hKc hev⟩⟩ rfl rfl hl.1 rfl (lv_room (Nat.le_of_ble_eq_true rfl)) dX9_play_2 ⟨(Nat.le_of_ble_eq_true rfl), (Nat.le_of_ble_eq_true rfl)⟩) (fun r_1 hw => ?_)
  subst hw
  refine lv_if_ne (tgt := 15) hx hb dX9_play_5 (by decide) (fun c => absurd (by decide) c) (fun _ => ?_)
  refine lv_aload_n hx hb dX9_play_8 rfl (lv_at hl 0 rfl) ?_
  refine lv_ldc hx hb hown (hts _ (List.mem_of_getElem? (i := 10) rfl)) dX9_play_9 ?_
  have hPc := hP.sub (ws' := [(h0, .inr (7, [.ref m0, v1, v2, v3, v4, .ref m1, v6, v7, v8, v9, v10, v11, v12, v13, v14, v15, v16, v17, v18, v19, v20, v21, v22, v23, v24, v25, v26, v27])), (m1, .inl (mc1, 8, .inl ff))]) [0, 2] rfl
  have hKc := hK.sub (tys' := [(mc1, .int)]) [1] rfl
  have hDc := hD.sub (ws' := [(h0, .inr (7, [.ref m0, v1, v2, v3, v4, .ref m1, v6, v7, v8, v9, v10, v11, v12, v13, v14, v15, v16, v17, v18, v19, v20, v21, v22, v23, v24, v25, v26, v27])), (m1, .inl (mc1, 8, .inl ff))]) [0, 2] (by decide) rfl
  have hFc := va_free (wc := [(h0, .inr (7, [.ref m0, v1, v2, v3, v4, .ref m1, v6, v7, v8, v9, v10, v11, v12, v13, v14, v15, v16, v17, v18, v19, v20, v21, v22, v23, v24, v25, v26, v27])), (m1, .inl (mc1, 8, .inl ff))]) hD hS hA [0, 2] rfl
  refine va_calli (va_runV (As := [.int (-1000000001)]) (rest := []) ⟨hx, hb, hml, hown, hts⟩ (m_find_beyond l dC dI ad h0 (.ref m0) v1 v2 v3 v4 m1 v6 v7 v8 v9 v10 v11 v12 v13 v14 v15 v16 v17 v18 v19 v20 v21 v22 v23 v24 v25 v26 v27 mc1 ff s.heap.size ) (cwV 1 hts g_y_play_m_find_beyond_84 rfl rfl rfl (by decide +kernel) ⟨(Nat.le_of_ble_eq_true rfl), (Nat.le_of_ble_eq_true rfl)⟩) ⟨preM_blind, va_recv hKc hPc (ci := 7) (q0 := 0) rfl rfl, fun U hU hW => ⟨rfl, preM_at hU hW hPc hKc hDc hev⟩⟩ rfl rfl hl.1 rfl (lv_room (Nat.le_of_ble_eq_true rfl)) dX9_play_11 ⟨(Nat.le_of_ble_eq_true rfl), (Nat.le_of_ble_eq_true rfl)⟩) hS (fun q _ h => hFc q h) hFc (fun r_2 u t H1 locs ht hvm hw hB hz1 hk1 hS => ?_)
  obtain ⟨hP, hD⟩ := va_join (wr := [(m0, .inl (mc0, 38, .inl nf))]) (w1 := []) hP hD [0, 2] [1] rfl rfl (by decide) (by decide) hk1 hFc nil_P nil_D
  generalize H1 = H at hP hS ⊢
  have hP : va_P (dC, dI) vwCl [(m0, .inl (mc0, 38, .inl nf))] H := hP
  have hD : va_D A [(m0, .inl (mc0, 38, .inl nf))] := hD
  subst hw
  exact W.iret (v := (-1000000001)) hx hb hr (fun t ht hW => ⟨⟨(-1000000001), (), rfl, rfl, trivial⟩, hS.F ht⟩) hS.2.2 dX9_play_14

def w_y_taken : List Cond := .code yX9_taken cX9_taken 5 (some .int) :: (([.methodLink RX9 155 yX9_isScene, .instanceMethod yX9_isScene, .selects RX9 yX9_isScene yX9_isScene, .initialized RX9, .code yX9_isScene cX9_isScene 2 (some .boolean), .fieldLink RX9 9 "LampShapesModel" "now" "[I", .methodLink RX9 75 yX9_within, .static yX9_within, .code yX9_within cX9_within 3 (some .boolean), .constant RX9 74 (-1000000001), .methodLink RX9 84 yX9_finding, .instanceMethod yX9_finding, .selects RX9 yX9_finding yX9_finding, .code yX9_finding cX9_finding 2 (some .int), .fieldLink RX9 23 "LampShapesModel" "found" "[I"] : List Cond) ++ wsX90)
set_option maxRecDepth 20000 in
theorem g_y_taken_m_isScene_155 : GoodIn w_y_taken (wsV RX9 155 RX9 yX9_isScene w_m_isScene) := goodIn_r _ [1, 2, 3, 4, 5, 6, 7, 8, 4, 9, 16, 17, 18, 19, 20, 21, 22, 23, 24, 25, 26, 27, 28, 29, 30, 31, 32, 33, 34, 35, 36, 37, 38, 39, 40, 41, 42, 43] rfl (by decide +kernel)
set_option maxRecDepth 20000 in
theorem g_y_taken_m_find_beyond_84 : GoodIn w_y_taken (wsV RX9 84 RX9 yX9_finding w_m_find_beyond) := goodIn_r _ [11, 12, 13, 4, 14, 15, 10, 16, 17, 18, 19, 20, 21, 22, 23, 24, 25, 26, 27, 28, 29, 30, 31, 32, 33, 34, 35, 36, 37, 38, 39, 40, 41, 42, 43] rfl (by decide +kernel)
set_option maxHeartbeats 4000000 in
set_option maxRecDepth 100000 in
theorem y_taken (l : Launch) (dC : Nat → ClassId) (dI : Nat → Nat → Nat) (ad : Nat → Nat) (h0 : Nat) (a : Int32) (b : Int32) (m0 : Nat) (v1 : Value) (v2 : Value) (v3 : Value) (v4 : Value) (m1 : Nat) (v6 : Value) (v7 : Value) (v8 : Value) (v9 : Value) (v10 : Value) (v11 : Value) (v12 : Value) (v13 : Value) (v14 : Value) (v15 : Value) (v16 : Value) (v17 : Value) (v18 : Value) (v19 : Value) (v20 : Value) (v21 : Value) (v22 : Value) (v23 : Value) (v24 : Value) (v25 : Value) (v26 : Value) (v27 : Value) (mc0 : ClassId) (nf : Nat → Int32) (mc1 : ClassId) (ff : Nat → Int32) (sz : Nat) (hnf : ∀ j, j < 38 → nf j = fr_n j) : Met l yX9_taken w_y_taken ({ frames := 2, cells := 0, slots := 0, locals := 43 } : Room) (va_Pc [.ref h0, .int a, .int b] (preM dC dI ad [(mc0, .int), (mc1, .int)] [(h0, .inr (7, [.ref m0, v1, v2, v3, v4, .ref m1, v6, v7, v8, v9, v10, v11, v12, v13, v14, v15, v16, v17, v18, v19, v20, v21, v22, v23, v24, v25, v26, v27])), (m0, .inl (mc0, 38, .inl nf)), (m1, .inl (mc1, 8, .inl ff))] sz)) (va_Qi (fun (r : Int32) (_ : Unit) => (r = (-1000000001))) (fun _ _ => True) (va_A [(h0, .inr (7, [.ref m0, v1, v2, v3, v4, .ref m1, v6, v7, v8, v9, v10, v11, v12, v13, v14, v15, v16, v17, v18, v19, v20, v21, v22, v23, v24, v25, v26, v27])), (m0, .inl (mc0, 38, .inl nf)), (m1, .inl (mc1, 8, .inl ff))] sz)) 0 0 (va_A [(h0, .inr (7, [.ref m0, v1, v2, v3, v4, .ref m1, v6, v7, v8, v9, v10, v11, v12, v13, v14, v15, v16, v17, v18, v19, v20, v21, v22, v23, v24, v25, v26, v27])), (m0, .inl (mc0, 38, .inl nf)), (m1, .inl (mc1, 8, .inl ff))] sz) := by
  refine Met.ofW (cc := cX9_taken) (maxL := 5) (ret := (some .int)) (by decide) rfl ?_
  intro p e s m args below meth c s₁ B hml hv
  obtain ⟨rfl, hsz, hP, hK, hD0, hev⟩ := hv
  have hx := B.exec
  have hb := B.bytes
  have hr := B.returns
  have hts := atoms_spec (ws := w_y_taken) B.pre
  have hown : s.vm.findClass RX9 = some m.cls := findClass_of_methodNamed B.named
  have hlocks := B.notSynchronized
  have inX9 : ∀ w ∈ wsX90, w ∈ w_y_taken := fun w h => List.mem_cons_of_mem _ (List.mem_append_right _ h)
  subst hsz
  have hD := hD0.self (sz := s.heap.size)
  generalize hAe : va_A [(h0, .inr (7, [.ref m0, v1, v2, v3, v4, .ref m1, v6, v7, v8, v9, v10, v11, v12, v13, v14, v15, v16, v17, v18, v19, v20, v21, v22, v23, v24, v25, v26, v27])), (m0, .inl (mc0, 38, .inl nf)), (m1, .inl (mc1, 8, .inl ff))] s.heap.size = A at hD ⊢
  have hA : ∀ q : Nat, s.heap.size ≤ q → A q := fun q h => by rw [← hAe]; exact Or.inr h
  have hS : va_S A s.heap s.heap [] := va_S.rf
  have hP : va_P (dC, dI) vwCl [(h0, .inr (7, [.ref m0, v1, v2, v3, v4, .ref m1, v6, v7, v8, v9, v10, v11, v12, v13, v14, v15, v16, v17, v18, v19, v20, v21, v22, v23, v24, v25, v26, v27])), (m0, .inl (mc0, 38, .inl nf)), (m1, .inl (mc1, 8, .inl ff))] s.heap := hP
  have hl := lv_entry ([.ref h0, .int a, .int b]) (n := 5) (Nat.le_of_ble_eq_true rfl)
  rw [lg_entry_eq]
  generalize (lg_sl ([.ref h0, .int a, .int b]) ++ List.replicate (5 - (lg_sl ([.ref h0, .int a, .int b])).length) Slot.unset).toArray = ls at hl ⊢
  have hl : lv_has ls 5 [(0, .ref h0), (1, .int a), (2, .int b)] := hl
  refine lv_aload_n hx hb dX9_taken_0 rfl (lv_at hl 0 rfl) ?_
  refine lv_iload_n hx hb dX9_taken_1 rfl (lv_at hl 1 rfl) ?_
  have hPc := hP.sub (ws' := [(h0, .inr (7, [.ref m0, v1, v2, v3, v4, .ref m1, v6, v7, v8, v9, v10, v11, v12, v13, v14, v15, v16, v17, v18, v19, v20, v21, v22, v23, v24, v25, v26, v27])), (m0, .inl (mc0, 38, .inl nf))]) [0, 1] rfl
  have hKc := hK.sub (tys' := [(mc0, .int)]) [0] rfl
  refine vp_callSi (W.runV (As := [.int a]) (rest := []) ⟨hx, hb, hml, hown, hts⟩ (m_isScene l dC dI ad h0 a m0 v1 v2 v3 v4 (.ref m1) v6 v7 v8 v9 v10 v11 v12 v13 v14 v15 v16 v17 v18 v19 v20 v21 v22 v23 v24 v25 v26 v27 mc0 nf hnf) (cwV 1 hts g_y_taken_m_isScene_155 rfl rfl rfl (by decide +kernel) ⟨(Nat.le_of_ble_eq_true rfl), (Nat.le_of_ble_eq_true rfl)⟩) ⟨preS_blind, va_recv hKc hPc (ci := 7) (q0 := 0) rfl rfl, fun U hU hW => ⟨rfl, preS_at hU hW hPc hKc hev⟩⟩ rfl rfl hl.1 rfl (lv_room (Nat.le_of_ble_eq_true rfl)) dX9_taken_2 ⟨(Nat.le_of_ble_eq_true rfl), (Nat.le_of_ble_eq_true rfl)⟩) (fun r_1 hw => ?_)
  subst hw
  refine lv_if_eq (tgt := 18) hx hb dX9_taken_5 (by decide) (fun _ => ?_) (fun c => absurd (by decide) c)
  refine lv_aload_n hx hb dX9_taken_18 rfl (lv_at hl 0 rfl) ?_
  refine lv_ldc hx hb hown (hts _ (List.mem_of_getElem? (i := 10) rfl)) dX9_taken_19 ?_
  have hPc := hP.sub (ws' := [(h0, .inr (7, [.ref m0, v1, v2, v3, v4, .ref m1, v6, v7, v8, v9, v10, v11, v12, v13, v14, v15, v16, v17, v18, v19, v20, v21, v22, v23, v24, v25, v26, v27])), (m1, .inl (mc1, 8, .inl ff))]) [0, 2] rfl
  have hKc := hK.sub (tys' := [(mc1, .int)]) [1] rfl
  have hDc := hD.sub (ws' := [(h0, .inr (7, [.ref m0, v1, v2, v3, v4, .ref m1, v6, v7, v8, v9, v10, v11, v12, v13, v14, v15, v16, v17, v18, v19, v20, v21, v22, v23, v24, v25, v26, v27])), (m1, .inl (mc1, 8, .inl ff))]) [0, 2] (by decide) rfl
  have hFc := va_free (wc := [(h0, .inr (7, [.ref m0, v1, v2, v3, v4, .ref m1, v6, v7, v8, v9, v10, v11, v12, v13, v14, v15, v16, v17, v18, v19, v20, v21, v22, v23, v24, v25, v26, v27])), (m1, .inl (mc1, 8, .inl ff))]) hD hS hA [0, 2] rfl
  refine va_calli (va_runV (As := [.int (-1000000001)]) (rest := []) ⟨hx, hb, hml, hown, hts⟩ (m_find_beyond l dC dI ad h0 (.ref m0) v1 v2 v3 v4 m1 v6 v7 v8 v9 v10 v11 v12 v13 v14 v15 v16 v17 v18 v19 v20 v21 v22 v23 v24 v25 v26 v27 mc1 ff s.heap.size ) (cwV 1 hts g_y_taken_m_find_beyond_84 rfl rfl rfl (by decide +kernel) ⟨(Nat.le_of_ble_eq_true rfl), (Nat.le_of_ble_eq_true rfl)⟩) ⟨preM_blind, va_recv hKc hPc (ci := 7) (q0 := 0) rfl rfl, fun U hU hW => ⟨rfl, preM_at hU hW hPc hKc hDc hev⟩⟩ rfl rfl hl.1 rfl (lv_room (Nat.le_of_ble_eq_true rfl)) dX9_taken_21 ⟨(Nat.le_of_ble_eq_true rfl), (Nat.le_of_ble_eq_true rfl)⟩) hS (fun q _ h => hFc q h) hFc (fun r_2 u t H1 locs ht hvm hw hB hz1 hk1 hS => ?_)
  obtain ⟨hP, hD⟩ := va_join (wr := [(m0, .inl (mc0, 38, .inl nf))]) (w1 := []) hP hD [0, 2] [1] rfl rfl (by decide) (by decide) hk1 hFc nil_P nil_D
  generalize H1 = H at hP hS ⊢
  have hP : va_P (dC, dI) vwCl [(m0, .inl (mc0, 38, .inl nf))] H := hP
  have hD : va_D A [(m0, .inl (mc0, 38, .inl nf))] := hD
  subst hw
  exact W.iret (v := (-1000000001)) hx hb hr (fun t ht hW => ⟨⟨(-1000000001), (), rfl, rfl, trivial⟩, hS.F ht⟩) hS.2.2 dX9_taken_24

def w_y_shape : List Cond := .code yX9_shape cX9_shape 3 (some .int) :: (([.methodLink RX9 79 yX9_isKind, .static yX9_isKind, .initialized RX9, .code yX9_isKind cX9_isKind 1 (some .boolean), .methodLink RX9 75 yX9_within, .static yX9_within, .code yX9_within cX9_within 3 (some .boolean), .constant RX9 83 (65535), .fieldLink RX9 9 "LampShapesModel" "now" "[I", .methodLink RX9 89 yX9_made, .instanceMethod yX9_made, .selects RX9 yX9_made yX9_made, .code yX9_made cX9_made 5 (some .int), .constant RX9 74 (-1000000001), .methodLink RX9 84 yX9_finding, .instanceMethod yX9_finding, .selects RX9 yX9_finding yX9_finding, .code yX9_finding cX9_finding 2 (some .int), .fieldLink RX9 23 "LampShapesModel" "found" "[I"] : List Cond) ++ wsX90)
set_option maxRecDepth 20000 in
theorem g_y_shape_m_isKind_79 : GoodIn w_y_shape (va_wsS RX9 79 yX9_isKind w_m_isKind) := goodIn_r _ [1, 2, 3, 4, 5, 6, 3, 7] rfl (by decide +kernel)
set_option maxRecDepth 20000 in
theorem g_y_shape_m_within_75 : GoodIn w_y_shape (va_wsS RX9 75 yX9_within w_m_within) := goodIn_r _ [5, 6, 3, 7] rfl (by decide +kernel)
set_option maxRecDepth 20000 in
theorem g_y_shape_m_made_89 : GoodIn w_y_shape (wsV RX9 89 RX9 yX9_made w_m_made) := goodIn_r _ [10, 11, 12, 3, 13, 9, 20, 21, 22, 23, 24, 25, 26, 27, 28, 29, 30, 31, 32, 33, 34, 35, 36, 37, 38, 39, 40, 41, 42, 43, 44, 45, 46, 47] rfl (by decide +kernel)
set_option maxRecDepth 20000 in
theorem g_y_shape_m_find_beyond_84 : GoodIn w_y_shape (wsV RX9 84 RX9 yX9_finding w_m_find_beyond) := goodIn_r _ [15, 16, 17, 3, 18, 19, 14, 20, 21, 22, 23, 24, 25, 26, 27, 28, 29, 30, 31, 32, 33, 34, 35, 36, 37, 38, 39, 40, 41, 42, 43, 44, 45, 46, 47] rfl (by decide +kernel)
set_option maxHeartbeats 4000000 in
set_option maxRecDepth 100000 in
theorem y_shape (l : Launch) (dC : Nat → ClassId) (dI : Nat → Nat → Nat) (ad : Nat → Nat) (h0 : Nat) (a : Int32) (b : Int32) (m0 : Nat) (v1 : Value) (v2 : Value) (v3 : Value) (v4 : Value) (m1 : Nat) (v6 : Value) (v7 : Value) (v8 : Value) (v9 : Value) (v10 : Value) (v11 : Value) (v12 : Value) (v13 : Value) (v14 : Value) (v15 : Value) (v16 : Value) (v17 : Value) (v18 : Value) (v19 : Value) (v20 : Value) (v21 : Value) (v22 : Value) (v23 : Value) (v24 : Value) (v25 : Value) (v26 : Value) (v27 : Value) (mc0 : ClassId) (nf : Nat → Int32) (mc1 : ClassId) (ff : Nat → Int32) (sz : Nat) (hnf : ∀ j, j < 38 → nf j = fr_n j) : Met l yX9_shape w_y_shape ({ frames := 2, cells := 0, slots := 0, locals := 42 } : Room) (va_Pc [.ref h0, .int a, .int b] (preM dC dI ad [(mc0, .int), (mc1, .int)] [(h0, .inr (7, [.ref m0, v1, v2, v3, v4, .ref m1, v6, v7, v8, v9, v10, v11, v12, v13, v14, v15, v16, v17, v18, v19, v20, v21, v22, v23, v24, v25, v26, v27])), (m0, .inl (mc0, 38, .inl nf)), (m1, .inl (mc1, 8, .inl ff))] sz)) (va_Qi (fun (r : Int32) (_ : Unit) => ((0 ≤ a ∧ a ≤ 5 ∧ 0 ≤ b ∧ b ≤ 65535) → r = 0) ∧ (¬ (0 ≤ a ∧ a ≤ 5 ∧ 0 ≤ b ∧ b ≤ 65535) → r = (-1000000001))) (fun _ _ => True) (va_A [(h0, .inr (7, [.ref m0, v1, v2, v3, v4, .ref m1, v6, v7, v8, v9, v10, v11, v12, v13, v14, v15, v16, v17, v18, v19, v20, v21, v22, v23, v24, v25, v26, v27])), (m0, .inl (mc0, 38, .inl nf)), (m1, .inl (mc1, 8, .inl ff))] sz)) 0 0 (va_A [(h0, .inr (7, [.ref m0, v1, v2, v3, v4, .ref m1, v6, v7, v8, v9, v10, v11, v12, v13, v14, v15, v16, v17, v18, v19, v20, v21, v22, v23, v24, v25, v26, v27])), (m0, .inl (mc0, 38, .inl nf)), (m1, .inl (mc1, 8, .inl ff))] sz) := by
  refine Met.ofW (cc := cX9_shape) (maxL := 3) (ret := (some .int)) (by decide) rfl ?_
  intro p e s m args below meth c s₁ B hml hv
  obtain ⟨rfl, hsz, hP, hK, hD0, hev⟩ := hv
  have hx := B.exec
  have hb := B.bytes
  have hr := B.returns
  have hts := atoms_spec (ws := w_y_shape) B.pre
  have hown : s.vm.findClass RX9 = some m.cls := findClass_of_methodNamed B.named
  have hlocks := B.notSynchronized
  have inX9 : ∀ w ∈ wsX90, w ∈ w_y_shape := fun w h => List.mem_cons_of_mem _ (List.mem_append_right _ h)
  subst hsz
  have hD := hD0.self (sz := s.heap.size)
  generalize hAe : va_A [(h0, .inr (7, [.ref m0, v1, v2, v3, v4, .ref m1, v6, v7, v8, v9, v10, v11, v12, v13, v14, v15, v16, v17, v18, v19, v20, v21, v22, v23, v24, v25, v26, v27])), (m0, .inl (mc0, 38, .inl nf)), (m1, .inl (mc1, 8, .inl ff))] s.heap.size = A at hD ⊢
  have hA : ∀ q : Nat, s.heap.size ≤ q → A q := fun q h => by rw [← hAe]; exact Or.inr h
  have hS : va_S A s.heap s.heap [] := va_S.rf
  have hP : va_P (dC, dI) vwCl [(h0, .inr (7, [.ref m0, v1, v2, v3, v4, .ref m1, v6, v7, v8, v9, v10, v11, v12, v13, v14, v15, v16, v17, v18, v19, v20, v21, v22, v23, v24, v25, v26, v27])), (m0, .inl (mc0, 38, .inl nf)), (m1, .inl (mc1, 8, .inl ff))] s.heap := hP
  have hl := lv_entry ([.ref h0, .int a, .int b]) (n := 3) (Nat.le_of_ble_eq_true rfl)
  rw [lg_entry_eq]
  generalize (lg_sl ([.ref h0, .int a, .int b]) ++ List.replicate (3 - (lg_sl ([.ref h0, .int a, .int b])).length) Slot.unset).toArray = ls at hl ⊢
  have hl : lv_has ls 3 [(0, .ref h0), (1, .int a), (2, .int b)] := hl
  refine lv_iload_n hx hb dX9_shape_0 rfl (lv_at hl 1 rfl) ?_
  have hPc := hP.sub (ws' := []) [] rfl
  have hKc := hK.sub (tys' := []) [] rfl
  refine vp_callSi (W.runS (As := [.int a]) (rest := []) ⟨hx, hb, hml, hown, hts⟩ (m_isKind l dC dI ad a ) (va_cwS 1 hts g_y_shape_m_isKind_79 rfl rfl rfl (by decide +kernel) ⟨(Nat.le_of_ble_eq_true rfl), (Nat.le_of_ble_eq_true rfl)⟩) ⟨preS_blind, fun U hU hW => ⟨rfl, preS_at hU hW hPc hKc hev⟩⟩ rfl rfl hl.1 rfl (lv_room (Nat.le_of_ble_eq_true rfl)) dX9_shape_1 ⟨(Nat.le_of_ble_eq_true rfl), (Nat.le_of_ble_eq_true rfl)⟩) (fun r_1 hw => ?_)
  by_cases c_2 : 0 ≤ a ∧ a ≤ 5
  · skip
    have hw := hw.1 c_2
    subst hw
    refine lv_if_eq (tgt := 17) hx hb dX9_shape_4 (by decide) (fun c => absurd c (by decide)) (fun _ => ?_)
    refine lv_iload_n hx hb dX9_shape_7 rfl (lv_at hl 2 rfl) ?_
    refine lv_iconst (v := 0) hx hb dX9_shape_8 (by decide) ?_
    refine lv_ldc hx hb hown (hts _ (List.mem_of_getElem? (i := 8) rfl)) dX9_shape_9 ?_
    have hPc := hP.sub (ws' := []) [] rfl
    have hKc := hK.sub (tys' := []) [] rfl
    refine vp_callSi (W.runS (As := [.int b, .int 0, .int 65535]) (rest := []) ⟨hx, hb, hml, hown, hts⟩ (m_within l dC dI ad b 0 65535 ) (va_cwS 3 hts g_y_shape_m_within_75 rfl rfl rfl (by decide +kernel) ⟨(Nat.le_of_ble_eq_true rfl), (Nat.le_of_ble_eq_true rfl)⟩) ⟨preS_blind, fun U hU hW => ⟨rfl, preS_at hU hW hPc hKc hev⟩⟩ rfl rfl hl.1 rfl (lv_room (Nat.le_of_ble_eq_true rfl)) dX9_shape_11 ⟨(Nat.le_of_ble_eq_true rfl), (Nat.le_of_ble_eq_true rfl)⟩) (fun r_3 hw => ?_)
    by_cases c_4 : 0 ≤ b ∧ b ≤ 65535
    · skip
      have hw := hw.1 c_4
      subst hw
      refine lv_if_ne (tgt := 24) hx hb dX9_shape_14 (by decide) (fun _ => ?_) (fun c => absurd c (by decide))
      refine lv_aload_n hx hb dX9_shape_24 rfl (lv_at hl 0 rfl) ?_
      refine va_get (D := (dC, dI)) (ci := 7) (v := .ref m0) (C := RX9) (T := TX9) (N := 28) hx hb hts inX9 hown hK hP 0 rfl rfl 0 (by decide) (hts _ (List.mem_of_getElem? (i := 9) rfl)) (fun _ h9 => h9) rfl dX9_shape_25 ?_
      refine lv_iconst (v := 0) hx hb dX9_shape_28 (by decide) ?_
      refine va_iald hx hb hK hP 1 0 rfl rfl (vp_in_nI (n := 0) (by decide) (by decide)) dX9_shape_29 ?_
      refine pp_ti (y := 0) ((hnf 0 (by decide)).trans (by decide)) ?_
      refine lv_bipush (v := 9) hx hb dX9_shape_30 (by decide) ?_
      refine lv_icmp_ne (tgt := 44) hx hb dX9_shape_32 (by decide) (fun _ => ?_) (fun c => absurd c (by decide))
      refine lv_aload_n hx hb dX9_shape_44 rfl (lv_at hl 0 rfl) ?_
      refine lv_iload_n hx hb dX9_shape_45 rfl (lv_at hl 1 rfl) ?_
      refine lv_iload_n hx hb dX9_shape_46 rfl (lv_at hl 2 rfl) ?_
      have hPc := hP.sub (ws' := [(h0, .inr (7, [.ref m0, v1, v2, v3, v4, .ref m1, v6, v7, v8, v9, v10, v11, v12, v13, v14, v15, v16, v17, v18, v19, v20, v21, v22, v23, v24, v25, v26, v27])), (m0, .inl (mc0, 38, .inl nf))]) [0, 1] rfl
      have hKc := hK.sub (tys' := [(mc0, .int)]) [0] rfl
      have hDc := hD.sub (ws' := [(h0, .inr (7, [.ref m0, v1, v2, v3, v4, .ref m1, v6, v7, v8, v9, v10, v11, v12, v13, v14, v15, v16, v17, v18, v19, v20, v21, v22, v23, v24, v25, v26, v27])), (m0, .inl (mc0, 38, .inl nf))]) [0, 1] (by decide) rfl
      have hFc := va_free (wc := [(h0, .inr (7, [.ref m0, v1, v2, v3, v4, .ref m1, v6, v7, v8, v9, v10, v11, v12, v13, v14, v15, v16, v17, v18, v19, v20, v21, v22, v23, v24, v25, v26, v27])), (m0, .inl (mc0, 38, .inl nf))]) hD hS hA [0, 1] rfl
      refine va_calli (va_runV (As := [.int a, .int b]) (rest := []) ⟨hx, hb, hml, hown, hts⟩ (m_made l dC dI ad h0 a b m0 v1 v2 v3 v4 (.ref m1) v6 v7 v8 v9 v10 v11 v12 v13 v14 v15 v16 v17 v18 v19 v20 v21 v22 v23 v24 v25 v26 v27 mc0 nf s.heap.size hnf) (cwV 2 hts g_y_shape_m_made_89 rfl rfl rfl (by decide +kernel) ⟨(Nat.le_of_ble_eq_true rfl), (Nat.le_of_ble_eq_true rfl)⟩) ⟨preM_blind, va_recv hKc hPc (ci := 7) (q0 := 0) rfl rfl, fun U hU hW => ⟨rfl, preM_at hU hW hPc hKc hDc hev⟩⟩ rfl rfl hl.1 rfl (lv_room (Nat.le_of_ble_eq_true rfl)) dX9_shape_47 ⟨(Nat.le_of_ble_eq_true rfl), (Nat.le_of_ble_eq_true rfl)⟩) hS (fun q _ h => hFc q h) hFc (fun r_5 u t H1 locs ht hvm hw hB hz1 hk1 hS => ?_)
      obtain ⟨hP, hD⟩ := va_join (wr := [(m1, .inl (mc1, 8, .inl ff))]) (w1 := []) hP hD [0, 1] [2] rfl rfl (by decide) (by decide) hk1 hFc nil_P nil_D
      generalize H1 = H at hP hS ⊢
      have hP : va_P (dC, dI) vwCl [(m1, .inl (mc1, 8, .inl ff))] H := hP
      have hD : va_D A [(m1, .inl (mc1, 8, .inl ff))] := hD
      subst hw
      exact W.iret (v := 0) hx hb hr (fun t ht hW => ⟨⟨0, (), rfl, ⟨(fun h => rfl), (fun g0 => (by first | rfl | (exfalso; simp only [fa_lt, fa_le, fa_eq, and_true, true_and, and_false, false_and, not_true_eq_false, not_false_eq_true, li_0, li_1, li_2, li_3, li_4, li_5, li_6, li_7, li_8, li_9, li_10, li_12, li_15, li_16, li_20, li_30, li_34, li_38, li_40, li_63, li_64, li_65, li_78, li_120, li_1000, li_4000, li_10000, li_11077, li_255, li_65535, li_m1, li_m2, li_m1000000001, li_m1000000002, li_m1000000003, li_m1000000004, li_m1000000005, li_m1000000006, li_m1000000007] at c_2 c_4 g0 <;> omega) | (simp only [fa_lt, fa_le, fa_eq, and_true, true_and, and_false, false_and, not_true_eq_false, not_false_eq_true, li_0, li_1, li_2, li_3, li_4, li_5, li_6, li_7, li_8, li_9, li_10, li_12, li_15, li_16, li_20, li_30, li_34, li_38, li_40, li_63, li_64, li_65, li_78, li_120, li_1000, li_4000, li_10000, li_11077, li_255, li_65535, li_m1, li_m2, li_m1000000001, li_m1000000002, li_m1000000003, li_m1000000004, li_m1000000005, li_m1000000006, li_m1000000007] at c_2 c_4 g0 ⊢ <;> omega)))⟩, trivial⟩, hS.F ht⟩) hS.2.2 dX9_shape_50
    · skip
      have hw := hw.2 c_4
      subst hw
      refine lv_if_ne (tgt := 24) hx hb dX9_shape_14 (by decide) (fun c => absurd (by decide) c) (fun _ => ?_)
      refine lv_aload_n hx hb dX9_shape_17 rfl (lv_at hl 0 rfl) ?_
      refine lv_ldc hx hb hown (hts _ (List.mem_of_getElem? (i := 14) rfl)) dX9_shape_18 ?_
      have hPc := hP.sub (ws' := [(h0, .inr (7, [.ref m0, v1, v2, v3, v4, .ref m1, v6, v7, v8, v9, v10, v11, v12, v13, v14, v15, v16, v17, v18, v19, v20, v21, v22, v23, v24, v25, v26, v27])), (m1, .inl (mc1, 8, .inl ff))]) [0, 2] rfl
      have hKc := hK.sub (tys' := [(mc1, .int)]) [1] rfl
      have hDc := hD.sub (ws' := [(h0, .inr (7, [.ref m0, v1, v2, v3, v4, .ref m1, v6, v7, v8, v9, v10, v11, v12, v13, v14, v15, v16, v17, v18, v19, v20, v21, v22, v23, v24, v25, v26, v27])), (m1, .inl (mc1, 8, .inl ff))]) [0, 2] (by decide) rfl
      have hFc := va_free (wc := [(h0, .inr (7, [.ref m0, v1, v2, v3, v4, .ref m1, v6, v7, v8, v9, v10, v11, v12, v13, v14, v15, v16, v17, v18, v19, v20, v21, v22, v23, v24, v25, v26, v27])), (m1, .inl (mc1, 8, .inl ff))]) hD hS hA [0, 2] rfl
      refine va_calli (va_runV (As := [.int (-1000000001)]) (rest := []) ⟨hx, hb, hml, hown, hts⟩ (m_find_beyond l dC dI ad h0 (.ref m0) v1 v2 v3 v4 m1 v6 v7 v8 v9 v10 v11 v12 v13 v14 v15 v16 v17 v18 v19 v20 v21 v22 v23 v24 v25 v26 v27 mc1 ff s.heap.size ) (cwV 1 hts g_y_shape_m_find_beyond_84 rfl rfl rfl (by decide +kernel) ⟨(Nat.le_of_ble_eq_true rfl), (Nat.le_of_ble_eq_true rfl)⟩) ⟨preM_blind, va_recv hKc hPc (ci := 7) (q0 := 0) rfl rfl, fun U hU hW => ⟨rfl, preM_at hU hW hPc hKc hDc hev⟩⟩ rfl rfl hl.1 rfl (lv_room (Nat.le_of_ble_eq_true rfl)) dX9_shape_20 ⟨(Nat.le_of_ble_eq_true rfl), (Nat.le_of_ble_eq_true rfl)⟩) hS (fun q _ h => hFc q h) hFc (fun r_6 u t H1 locs ht hvm hw hB hz1 hk1 hS => ?_)
      obtain ⟨hP, hD⟩ := va_join (wr := [(m0, .inl (mc0, 38, .inl nf))]) (w1 := []) hP hD [0, 2] [1] rfl rfl (by decide) (by decide) hk1 hFc nil_P nil_D
      generalize H1 = H at hP hS ⊢
      have hP : va_P (dC, dI) vwCl [(m0, .inl (mc0, 38, .inl nf))] H := hP
      have hD : va_D A [(m0, .inl (mc0, 38, .inl nf))] := hD
      subst hw
      exact W.iret (v := (-1000000001)) hx hb hr (fun t ht hW => ⟨⟨(-1000000001), (), rfl, ⟨(fun h => (by first | rfl | (exfalso; simp only [fa_lt, fa_le, fa_eq, and_true, true_and, and_false, false_and, not_true_eq_false, not_false_eq_true, li_0, li_1, li_2, li_3, li_4, li_5, li_6, li_7, li_8, li_9, li_10, li_12, li_15, li_16, li_20, li_30, li_34, li_38, li_40, li_63, li_64, li_65, li_78, li_120, li_1000, li_4000, li_10000, li_11077, li_255, li_65535, li_m1, li_m2, li_m1000000001, li_m1000000002, li_m1000000003, li_m1000000004, li_m1000000005, li_m1000000006, li_m1000000007] at c_2 c_4 h <;> omega) | (simp only [fa_lt, fa_le, fa_eq, and_true, true_and, and_false, false_and, not_true_eq_false, not_false_eq_true, li_0, li_1, li_2, li_3, li_4, li_5, li_6, li_7, li_8, li_9, li_10, li_12, li_15, li_16, li_20, li_30, li_34, li_38, li_40, li_63, li_64, li_65, li_78, li_120, li_1000, li_4000, li_10000, li_11077, li_255, li_65535, li_m1, li_m2, li_m1000000001, li_m1000000002, li_m1000000003, li_m1000000004, li_m1000000005, li_m1000000006, li_m1000000007] at c_2 c_4 h ⊢ <;> omega))), (fun g0 => rfl)⟩, trivial⟩, hS.F ht⟩) hS.2.2 dX9_shape_23
  · skip
    have hw := hw.2 c_2
    subst hw
    refine lv_if_eq (tgt := 17) hx hb dX9_shape_4 (by decide) (fun _ => ?_) (fun c => absurd (by decide) c)
    refine lv_aload_n hx hb dX9_shape_17 rfl (lv_at hl 0 rfl) ?_
    refine lv_ldc hx hb hown (hts _ (List.mem_of_getElem? (i := 14) rfl)) dX9_shape_18 ?_
    have hPc := hP.sub (ws' := [(h0, .inr (7, [.ref m0, v1, v2, v3, v4, .ref m1, v6, v7, v8, v9, v10, v11, v12, v13, v14, v15, v16, v17, v18, v19, v20, v21, v22, v23, v24, v25, v26, v27])), (m1, .inl (mc1, 8, .inl ff))]) [0, 2] rfl
    have hKc := hK.sub (tys' := [(mc1, .int)]) [1] rfl
    have hDc := hD.sub (ws' := [(h0, .inr (7, [.ref m0, v1, v2, v3, v4, .ref m1, v6, v7, v8, v9, v10, v11, v12, v13, v14, v15, v16, v17, v18, v19, v20, v21, v22, v23, v24, v25, v26, v27])), (m1, .inl (mc1, 8, .inl ff))]) [0, 2] (by decide) rfl
    have hFc := va_free (wc := [(h0, .inr (7, [.ref m0, v1, v2, v3, v4, .ref m1, v6, v7, v8, v9, v10, v11, v12, v13, v14, v15, v16, v17, v18, v19, v20, v21, v22, v23, v24, v25, v26, v27])), (m1, .inl (mc1, 8, .inl ff))]) hD hS hA [0, 2] rfl
    refine va_calli (va_runV (As := [.int (-1000000001)]) (rest := []) ⟨hx, hb, hml, hown, hts⟩ (m_find_beyond l dC dI ad h0 (.ref m0) v1 v2 v3 v4 m1 v6 v7 v8 v9 v10 v11 v12 v13 v14 v15 v16 v17 v18 v19 v20 v21 v22 v23 v24 v25 v26 v27 mc1 ff s.heap.size ) (cwV 1 hts g_y_shape_m_find_beyond_84 rfl rfl rfl (by decide +kernel) ⟨(Nat.le_of_ble_eq_true rfl), (Nat.le_of_ble_eq_true rfl)⟩) ⟨preM_blind, va_recv hKc hPc (ci := 7) (q0 := 0) rfl rfl, fun U hU hW => ⟨rfl, preM_at hU hW hPc hKc hDc hev⟩⟩ rfl rfl hl.1 rfl (lv_room (Nat.le_of_ble_eq_true rfl)) dX9_shape_20 ⟨(Nat.le_of_ble_eq_true rfl), (Nat.le_of_ble_eq_true rfl)⟩) hS (fun q _ h => hFc q h) hFc (fun r_7 u t H1 locs ht hvm hw hB hz1 hk1 hS => ?_)
    obtain ⟨hP, hD⟩ := va_join (wr := [(m0, .inl (mc0, 38, .inl nf))]) (w1 := []) hP hD [0, 2] [1] rfl rfl (by decide) (by decide) hk1 hFc nil_P nil_D
    generalize H1 = H at hP hS ⊢
    have hP : va_P (dC, dI) vwCl [(m0, .inl (mc0, 38, .inl nf))] H := hP
    have hD : va_D A [(m0, .inl (mc0, 38, .inl nf))] := hD
    subst hw
    exact W.iret (v := (-1000000001)) hx hb hr (fun t ht hW => ⟨⟨(-1000000001), (), rfl, ⟨(fun h => (by first | rfl | (exfalso; simp only [fa_lt, fa_le, fa_eq, and_true, true_and, and_false, false_and, not_true_eq_false, not_false_eq_true, li_0, li_1, li_2, li_3, li_4, li_5, li_6, li_7, li_8, li_9, li_10, li_12, li_15, li_16, li_20, li_30, li_34, li_38, li_40, li_63, li_64, li_65, li_78, li_120, li_1000, li_4000, li_10000, li_11077, li_255, li_65535, li_m1, li_m2, li_m1000000001, li_m1000000002, li_m1000000003, li_m1000000004, li_m1000000005, li_m1000000006, li_m1000000007] at c_2 h <;> omega) | (simp only [fa_lt, fa_le, fa_eq, and_true, true_and, and_false, false_and, not_true_eq_false, not_false_eq_true, li_0, li_1, li_2, li_3, li_4, li_5, li_6, li_7, li_8, li_9, li_10, li_12, li_15, li_16, li_20, li_30, li_34, li_38, li_40, li_63, li_64, li_65, li_78, li_120, li_1000, li_4000, li_10000, li_11077, li_255, li_65535, li_m1, li_m2, li_m1000000001, li_m1000000002, li_m1000000003, li_m1000000004, li_m1000000005, li_m1000000006, li_m1000000007] at c_2 h ⊢ <;> omega))), (fun g0 => rfl)⟩, trivial⟩, hS.F ht⟩) hS.2.2 dX9_shape_23

def w_y_held : List Cond := .code yX9_held cX9_held 3 (some .int) :: (([.methodLink RX9 75 yX9_within, .static yX9_within, .initialized RX9, .code yX9_within cX9_within 3 (some .boolean), .constant RX9 74 (-1000000001), .methodLink RX9 84 yX9_finding, .instanceMethod yX9_finding, .selects RX9 yX9_finding yX9_finding, .code yX9_finding cX9_finding 2 (some .int), .fieldLink RX9 23 "LampShapesModel" "found" "[I", .fieldLink RX9 9 "LampShapesModel" "now" "[I"] : List Cond) ++ wsX90)
set_option maxRecDepth 20000 in
theorem g_y_held_m_within_75 : GoodIn w_y_held (va_wsS RX9 75 yX9_within w_m_within) := goodIn_r _ [1, 2, 3, 4] rfl (by decide +kernel)
set_option maxRecDepth 20000 in
theorem g_y_held_m_find_beyond_84 : GoodIn w_y_held (wsV RX9 84 RX9 yX9_finding w_m_find_beyond) := goodIn_r _ [6, 7, 8, 3, 9, 10, 5, 12, 13, 14, 15, 16, 17, 18, 19, 20, 21, 22, 23, 24, 25, 26, 27, 28, 29, 30, 31, 32, 33, 34, 35, 36, 37, 38, 39] rfl (by decide +kernel)
set_option maxHeartbeats 4000000 in
set_option maxRecDepth 100000 in
theorem y_held (l : Launch) (dC : Nat → ClassId) (dI : Nat → Nat → Nat) (ad : Nat → Nat) (h0 : Nat) (a : Int32) (b : Int32) (m0 : Nat) (v1 : Value) (v2 : Value) (v3 : Value) (v4 : Value) (m1 : Nat) (v6 : Value) (v7 : Value) (v8 : Value) (v9 : Value) (v10 : Value) (v11 : Value) (v12 : Value) (v13 : Value) (v14 : Value) (v15 : Value) (v16 : Value) (v17 : Value) (v18 : Value) (v19 : Value) (v20 : Value) (v21 : Value) (v22 : Value) (v23 : Value) (v24 : Value) (v25 : Value) (v26 : Value) (v27 : Value) (mc0 : ClassId) (nf : Nat → Int32) (mc1 : ClassId) (ff : Nat → Int32) (sz : Nat) (hnf : ∀ j, j < 38 → nf j = fr_n j) : Met l yX9_held w_y_held ({ frames := 1, cells := 0, slots := 0, locals := 22 } : Room) (va_Pc [.ref h0, .int a, .int b] (preM dC dI ad [(mc0, .int), (mc1, .int)] [(h0, .inr (7, [.ref m0, v1, v2, v3, v4, .ref m1, v6, v7, v8, v9, v10, v11, v12, v13, v14, v15, v16, v17, v18, v19, v20, v21, v22, v23, v24, v25, v26, v27])), (m0, .inl (mc0, 38, .inl nf)), (m1, .inl (mc1, 8, .inl ff))] sz)) (va_Qi (fun (r : Int32) (_ : Unit) => ((0 ≤ a ∧ a ≤ 3 ∧ 0 ≤ b ∧ b ≤ 1) → r = (-1)) ∧ (¬ (0 ≤ a ∧ a ≤ 3 ∧ 0 ≤ b ∧ b ≤ 1) → r = (-1000000001))) (fun _ _ => True) (va_A [(h0, .inr (7, [.ref m0, v1, v2, v3, v4, .ref m1, v6, v7, v8, v9, v10, v11, v12, v13, v14, v15, v16, v17, v18, v19, v20, v21, v22, v23, v24, v25, v26, v27])), (m0, .inl (mc0, 38, .inl nf)), (m1, .inl (mc1, 8, .inl ff))] sz)) 0 0 (va_A [(h0, .inr (7, [.ref m0, v1, v2, v3, v4, .ref m1, v6, v7, v8, v9, v10, v11, v12, v13, v14, v15, v16, v17, v18, v19, v20, v21, v22, v23, v24, v25, v26, v27])), (m0, .inl (mc0, 38, .inl nf)), (m1, .inl (mc1, 8, .inl ff))] sz) := by
  rcases pp_c_0_3 a with hlt0 | hgt0 | rfl | rfl | rfl | rfl
  · skip
    refine Met.ofW (cc := cX9_held) (maxL := 3) (ret := (some .int)) (by decide) rfl ?_
    intro p e s m args below meth c s₁ B hml hv
    obtain ⟨rfl, hsz, hP, hK, hD0, hev⟩ := hv
    have hx := B.exec
    have hb := B.bytes
    have hr := B.returns
    have hts := atoms_spec (ws := w_y_held) B.pre
    have hown : s.vm.findClass RX9 = some m.cls := findClass_of_methodNamed B.named
    have hlocks := B.notSynchronized
    have inX9 : ∀ w ∈ wsX90, w ∈ w_y_held := fun w h => List.mem_cons_of_mem _ (List.mem_append_right _ h)
    subst hsz
    have hD := hD0.self (sz := s.heap.size)
    generalize hAe : va_A [(h0, .inr (7, [.ref m0, v1, v2, v3, v4, .ref m1, v6, v7, v8, v9, v10, v11, v12, v13, v14, v15, v16, v17, v18, v19, v20, v21, v22, v23, v24, v25, v26, v27])), (m0, .inl (mc0, 38, .inl nf)), (m1, .inl (mc1, 8, .inl ff))] s.heap.size = A at hD ⊢
    have hA : ∀ q : Nat, s.heap.size ≤ q → A q := fun q h => by rw [← hAe]; exact Or.inr h
    have hS : va_S A s.heap s.heap [] := va_S.rf
    have hP : va_P (dC, dI) vwCl [(h0, .inr (7, [.ref m0, v1, v2, v3, v4, .ref m1, v6, v7, v8, v9, v10, v11, v12, v13, v14, v15, v16, v17, v18, v19, v20, v21, v22, v23, v24, v25, v26, v27])), (m0, .inl (mc0, 38, .inl nf)), (m1, .inl (mc1, 8, .inl ff))] s.heap := hP
    have hl := lv_entry ([.ref h0, .int a, .int b]) (n := 3) (Nat.le_of_ble_eq_true rfl)
    rw [lg_entry_eq]
    generalize (lg_sl ([.ref h0, .int a, .int b]) ++ List.replicate (3 - (lg_sl ([.ref h0, .int a, .int b])).length) Slot.unset).toArray = ls at hl ⊢
    have hl : lv_has ls 3 [(0, .ref h0), (1, .int a), (2, .int b)] := hl
    refine lv_iload_n hx hb dX9_held_0 rfl (lv_at hl 1 rfl) ?_
    refine lv_iconst (v := 0) hx hb dX9_held_1 (by decide) ?_
    refine lv_iconst (v := 3) hx hb dX9_held_2 (by decide) ?_
    have hPc := hP.sub (ws' := []) [] rfl
    have hKc := hK.sub (tys' := []) [] rfl
    refine vp_callSi (W.runS (As := [.int a, .int 0, .int 3]) (rest := []) ⟨hx, hb, hml, hown, hts⟩ (m_within l dC dI ad a 0 3 ) (va_cwS 3 hts g_y_held_m_within_75 rfl rfl rfl (by decide +kernel) ⟨(Nat.le_of_ble_eq_true rfl), (Nat.le_of_ble_eq_true rfl)⟩) ⟨preS_blind, fun U hU hW => ⟨rfl, preS_at hU hW hPc hKc hev⟩⟩ rfl rfl hl.1 rfl (lv_room (Nat.le_of_ble_eq_true rfl)) dX9_held_3 ⟨(Nat.le_of_ble_eq_true rfl), (Nat.le_of_ble_eq_true rfl)⟩) (fun r_1 hw => ?_)
    by_cases c_2 : 0 ≤ a ∧ a ≤ 3
    · skip
      exfalso; simp only [fa_lt, fa_le, fa_eq, and_true, true_and, and_false, false_and, not_true_eq_false, not_false_eq_true, li_0, li_1, li_2, li_3, li_4, li_5, li_6, li_7, li_8, li_9, li_10, li_12, li_15, li_16, li_20, li_30, li_34, li_38, li_40, li_63, li_64, li_65, li_78, li_120, li_1000, li_4000, li_10000, li_11077, li_255, li_65535, li_m1, li_m2, li_m1000000001, li_m1000000002, li_m1000000003, li_m1000000004, li_m1000000005, li_m1000000006, li_m1000000007] at hlt0 c_2 <;> omega
    · skip
      have hw := hw.2 c_2
      subst hw
      refine lv_if_eq (tgt := 39) hx hb dX9_held_6 (by decide) (fun _ => ?_) (fun c => absurd (by decide) c)
      refine lv_aload_n hx hb dX9_held_39 rfl (lv_at hl 0 rfl) ?_
      refine lv_ldc hx hb hown (hts _ (List.mem_of_getElem? (i := 5) rfl)) dX9_held_40 ?_
      have hPc := hP.sub (ws' := [(h0, .inr (7, [.ref m0, v1, v2, v3, v4, .ref m1, v6, v7, v8, v9, v10, v11, v12, v13, v14, v15, v16, v17, v18, v19, v20, v21, v22, v23, v24, v25, v26, v27])), (m1, .inl (mc1, 8, .inl ff))]) [0, 2] rfl
      have hKc := hK.sub (tys' := [(mc1, .int)]) [1] rfl
      have hDc := hD.sub (ws' := [(h0, .inr (7, [.ref m0, v1, v2, v3, v4, .ref m1, v6, v7, v8, v9, v10, v11, v12, v13, v14, v15, v16, v17, v18, v19, v20, v21, v22, v23, v24, v25, v26, v27])), (m1, .inl (mc1, 8, .inl ff))]) [0, 2] (by decide) rfl
      have hFc := va_free (wc := [(h0, .inr (7, [.ref m0, v1, v2, v3, v4, .ref m1, v6, v7, v8, v9, v10, v11, v12, v13, v14, v15, v16, v17, v18, v19, v20, v21, v22, v23, v24, v25, v26, v27])), (m1, .inl (mc1, 8, .inl ff))]) hD hS hA [0, 2] rfl
      refine va_calli (va_runV (As := [.int (-1000000001)]) (rest := []) ⟨hx, hb, hml, hown, hts⟩ (m_find_beyond l dC dI ad h0 (.ref m0) v1 v2 v3 v4 m1 v6 v7 v8 v9 v10 v11 v12 v13 v14 v15 v16 v17 v18 v19 v20 v21 v22 v23 v24 v25 v26 v27 mc1 ff s.heap.size ) (cwV 1 hts g_y_held_m_find_beyond_84 rfl rfl rfl (by decide +kernel) ⟨(Nat.le_of_ble_eq_true rfl), (Nat.le_of_ble_eq_true rfl)⟩) ⟨preM_blind, va_recv hKc hPc (ci := 7) (q0 := 0) rfl rfl, fun U hU hW => ⟨rfl, preM_at hU hW hPc hKc hDc hev⟩⟩ rfl rfl hl.1 rfl (lv_room (Nat.le_of_ble_eq_true rfl)) dX9_held_42 ⟨(Nat.le_of_ble_eq_true rfl), (Nat.le_of_ble_eq_true rfl)⟩) hS (fun q _ h => hFc q h) hFc (fun r_3 u t H1 locs ht hvm hw hB hz1 hk1 hS => ?_)
      obtain ⟨hP, hD⟩ := va_join (wr := [(m0, .inl (mc0, 38, .inl nf))]) (w1 := []) hP hD [0, 2] [1] rfl rfl (by decide) (by decide) hk1 hFc nil_P nil_D
      generalize H1 = H at hP hS ⊢
      have hP : va_P (dC, dI) vwCl [(m0, .inl (mc0, 38, .inl nf))] H := hP
      have hD : va_D A [(m0, .inl (mc0, 38, .inl nf))] := hD
      subst hw
      exact W.iret (v := (-1000000001)) hx hb hr (fun t ht hW => ⟨⟨(-1000000001), (), rfl, ⟨(fun h => (by first | rfl | (exfalso; simp only [fa_lt, fa_le, fa_eq, and_true, true_and, and_false, false_and, not_true_eq_false, not_false_eq_true, li_0, li_1, li_2, li_3, li_4, li_5, li_6, li_7, li_8, li_9, li_10, li_12, li_15, li_16, li_20, li_30, li_34, li_38, li_40, li_63, li_64, li_65, li_78, li_120, li_1000, li_4000, li_10000, li_11077, li_255, li_65535, li_m1, li_m2, li_m1000000001, li_m1000000002, li_m1000000003, li_m1000000004, li_m1000000005, li_m1000000006, li_m1000000007] at hlt0 c_2 h <;> omega) | (simp only [fa_lt, fa_le, fa_eq, and_true, true_and, and_false, false_and, not_true_eq_false, not_false_eq_true, li_0, li_1, li_2, li_3, li_4, li_5, li_6, li_7, li_8, li_9, li_10, li_12, li_15, li_16, li_20, li_30, li_34, li_38, li_40, li_63, li_64, li_65, li_78, li_120, li_1000, li_4000, li_10000, li_11077, li_255, li_65535, li_m1, li_m2, li_m1000000001, li_m1000000002, li_m1000000003, li_m1000000004, li_m1000000005, li_m1000000006, li_m1000000007] at hlt0 c_2 h ⊢ <;> omega))), (fun g0 => rfl)⟩, trivial⟩, hS.F ht⟩) hS.2.2 dX9_held_45
  · skip
    refine Met.ofW (cc := cX9_held) (maxL := 3) (ret := (some .int)) (by decide) rfl ?_
    intro p e s m args below meth c s₁ B hml hv
    obtain ⟨rfl, hsz, hP, hK, hD0, hev⟩ := hv
    have hx := B.exec
    have hb := B.bytes
    have hr := B.returns
    have hts := atoms_spec (ws := w_y_held) B.pre
    have hown : s.vm.findClass RX9 = some m.cls := findClass_of_methodNamed B.named
    have hlocks := B.notSynchronized
    have inX9 : ∀ w ∈ wsX90, w ∈ w_y_held := fun w h => List.mem_cons_of_mem _ (List.mem_append_right _ h)
    subst hsz
    have hD := hD0.self (sz := s.heap.size)
    generalize hAe : va_A [(h0, .inr (7, [.ref m0, v1, v2, v3, v4, .ref m1, v6, v7, v8, v9, v10, v11, v12, v13, v14, v15, v16, v17, v18, v19, v20, v21, v22, v23, v24, v25, v26, v27])), (m0, .inl (mc0, 38, .inl nf)), (m1, .inl (mc1, 8, .inl ff))] s.heap.size = A at hD ⊢
    have hA : ∀ q : Nat, s.heap.size ≤ q → A q := fun q h => by rw [← hAe]; exact Or.inr h
    have hS : va_S A s.heap s.heap [] := va_S.rf
    have hP : va_P (dC, dI) vwCl [(h0, .inr (7, [.ref m0, v1, v2, v3, v4, .ref m1, v6, v7, v8, v9, v10, v11, v12, v13, v14, v15, v16, v17, v18, v19, v20, v21, v22, v23, v24, v25, v26, v27])), (m0, .inl (mc0, 38, .inl nf)), (m1, .inl (mc1, 8, .inl ff))] s.heap := hP
    have hl := lv_entry ([.ref h0, .int a, .int b]) (n := 3) (Nat.le_of_ble_eq_true rfl)
    rw [lg_entry_eq]
    generalize (lg_sl ([.ref h0, .int a, .int b]) ++ List.replicate (3 - (lg_sl ([.ref h0, .int a, .int b])).length) Slot.unset).toArray = ls at hl ⊢
    have hl : lv_has ls 3 [(0, .ref h0), (1, .int a), (2, .int b)] := hl
    refine lv_iload_n hx hb dX9_held_0 rfl (lv_at hl 1 rfl) ?_
    refine lv_iconst (v := 0) hx hb dX9_held_1 (by decide) ?_
    refine lv_iconst (v := 3) hx hb dX9_held_2 (by decide) ?_
    have hPc := hP.sub (ws' := []) [] rfl
    have hKc := hK.sub (tys' := []) [] rfl
    refine vp_callSi (W.runS (As := [.int a, .int 0, .int 3]) (rest := []) ⟨hx, hb, hml, hown, hts⟩ (m_within l dC dI ad a 0 3 ) (va_cwS 3 hts g_y_held_m_within_75 rfl rfl rfl (by decide +kernel) ⟨(Nat.le_of_ble_eq_true rfl), (Nat.le_of_ble_eq_true rfl)⟩) ⟨preS_blind, fun U hU hW => ⟨rfl, preS_at hU hW hPc hKc hev⟩⟩ rfl rfl hl.1 rfl (lv_room (Nat.le_of_ble_eq_true rfl)) dX9_held_3 ⟨(Nat.le_of_ble_eq_true rfl), (Nat.le_of_ble_eq_true rfl)⟩) (fun r_4 hw => ?_)
    by_cases c_5 : 0 ≤ a ∧ a ≤ 3
    · skip
      exfalso; simp only [fa_lt, fa_le, fa_eq, and_true, true_and, and_false, false_and, not_true_eq_false, not_false_eq_true, li_0, li_1, li_2, li_3, li_4, li_5, li_6, li_7, li_8, li_9, li_10, li_12, li_15, li_16, li_20, li_30, li_34, li_38, li_40, li_63, li_64, li_65, li_78, li_120, li_1000, li_4000, li_10000, li_11077, li_255, li_65535, li_m1, li_m2, li_m1000000001, li_m1000000002, li_m1000000003, li_m1000000004, li_m1000000005, li_m1000000006, li_m1000000007] at hgt0 c_5 <;> omega
    · skip
      have hw := hw.2 c_5
      subst hw
      refine lv_if_eq (tgt := 39) hx hb dX9_held_6 (by decide) (fun _ => ?_) (fun c => absurd (by decide) c)
      refine lv_aload_n hx hb dX9_held_39 rfl (lv_at hl 0 rfl) ?_
      refine lv_ldc hx hb hown (hts _ (List.mem_of_getElem? (i := 5) rfl)) dX9_held_40 ?_
      have hPc := hP.sub (ws' := [(h0, .inr (7, [.ref m0, v1, v2, v3, v4, .ref m1, v6, v7, v8, v9, v10, v11, v12, v13, v14, v15, v16, v17, v18, v19, v20, v21, v22, v23, v24, v25, v26, v27])), (m1, .inl (mc1, 8, .inl ff))]) [0, 2] rfl
      have hKc := hK.sub (tys' := [(mc1, .int)]) [1] rfl
      have hDc := hD.sub (ws' := [(h0, .inr (7, [.ref m0, v1, v2, v3, v4, .ref m1, v6, v7, v8, v9, v10, v11, v12, v13, v14, v15, v16, v17, v18, v19, v20, v21, v22, v23, v24, v25, v26, v27])), (m1, .inl (mc1, 8, .inl ff))]) [0, 2] (by decide) rfl
      have hFc := va_free (wc := [(h0, .inr (7, [.ref m0, v1, v2, v3, v4, .ref m1, v6, v7, v8, v9, v10, v11, v12, v13, v14, v15, v16, v17, v18, v19, v20, v21, v22, v23, v24, v25, v26, v27])), (m1, .inl (mc1, 8, .inl ff))]) hD hS hA [0, 2] rfl
      refine va_calli (va_runV (As := [.int (-1000000001)]) (rest := []) ⟨hx, hb, hml, hown, hts⟩ (m_find_beyond l dC dI ad h0 (.ref m0) v1 v2 v3 v4 m1 v6 v7 v8 v9 v10 v11 v12 v13 v14 v15 v16 v17 v18 v19 v20 v21 v22 v23 v24 v25 v26 v27 mc1 ff s.heap.size ) (cwV 1 hts g_y_held_m_find_beyond_84 rfl rfl rfl (by decide +kernel) ⟨(Nat.le_of_ble_eq_true rfl), (Nat.le_of_ble_eq_true rfl)⟩) ⟨preM_blind, va_recv hKc hPc (ci := 7) (q0 := 0) rfl rfl, fun U hU hW => ⟨rfl, preM_at hU hW hPc hKc hDc hev⟩⟩ rfl rfl hl.1 rfl (lv_room (Nat.le_of_ble_eq_true rfl)) dX9_held_42 ⟨(Nat.le_of_ble_eq_true rfl), (Nat.le_of_ble_eq_true rfl)⟩) hS (fun q _ h => hFc q h) hFc (fun r_6 u t H1 locs ht hvm hw hB hz1 hk1 hS => ?_)
      obtain ⟨hP, hD⟩ := va_join (wr := [(m0, .inl (mc0, 38, .inl nf))]) (w1 := []) hP hD [0, 2] [1] rfl rfl (by decide) (by decide) hk1 hFc nil_P nil_D
      generalize H1 = H at hP hS ⊢
      have hP : va_P (dC, dI) vwCl [(m0, .inl (mc0, 38, .inl nf))] H := hP
      have hD : va_D A [(m0, .inl (mc0, 38, .inl nf))] := hD
      subst hw
      exact W.iret (v := (-1000000001)) hx hb hr (fun t ht hW => ⟨⟨(-1000000001), (), rfl, ⟨(fun h => (by first | rfl | (exfalso; simp only [fa_lt, fa_le, fa_eq, and_true, true_and, and_false, false_and, not_true_eq_false, not_false_eq_true, li_0, li_1, li_2, li_3, li_4, li_5, li_6, li_7, li_8, li_9, li_10, li_12, li_15, li_16, li_20, li_30, li_34, li_38, li_40, li_63, li_64, li_65, li_78, li_120, li_1000, li_4000, li_10000, li_11077, li_255, li_65535, li_m1, li_m2, li_m1000000001, li_m1000000002, li_m1000000003, li_m1000000004, li_m1000000005, li_m1000000006, li_m1000000007] at hgt0 c_5 h <;> omega) | (simp only [fa_lt, fa_le, fa_eq, and_true, true_and, and_false, false_and, not_true_eq_false, not_false_eq_true, li_0, li_1, li_2, li_3, li_4, li_5, li_6, li_7, li_8, li_9, li_10, li_12, li_15, li_16, li_20, li_30, li_34, li_38, li_40, li_63, li_64, li_65, li_78, li_120, li_1000, li_4000, li_10000, li_11077, li_255, li_65535, li_m1, li_m2, li_m1000000001, li_m1000000002, li_m1000000003, li_m1000000004, li_m1000000005, li_m1000000006, li_m1000000007] at hgt0 c_5 h ⊢ <;> omega))), (fun g0 => rfl)⟩, trivial⟩, hS.F ht⟩) hS.2.2 dX9_held_45
  · skip
    refine Met.ofW (cc := cX9_held) (maxL := 3) (ret := (some .int)) (by decide) rfl ?_
    intro p e s m args below meth c s₁ B hml hv
    obtain ⟨rfl, hsz, hP, hK, hD0, hev⟩ := hv
    have hx := B.exec
    have hb := B.bytes
    have hr := B.returns
    have hts := atoms_spec (ws := w_y_held) B.pre
    have hown : s.vm.findClass RX9 = some m.cls := findClass_of_methodNamed B.named
    have hlocks := B.notSynchronized
    have inX9 : ∀ w ∈ wsX90, w ∈ w_y_held := fun w h => List.mem_cons_of_mem _ (List.mem_append_right _ h)
    subst hsz
    have hD := hD0.self (sz := s.heap.size)
    generalize hAe : va_A [(h0, .inr (7, [.ref m0, v1, v2, v3, v4, .ref m1, v6, v7, v8, v9, v10, v11, v12, v13, v14, v15, v16, v17, v18, v19, v20, v21, v22, v23, v24, v25, v26, v27])), (m0, .inl (mc0, 38, .inl nf)), (m1, .inl (mc1, 8, .inl ff))] s.heap.size = A at hD ⊢
    have hA : ∀ q : Nat, s.heap.size ≤ q → A q := fun q h => by rw [← hAe]; exact Or.inr h
    have hS : va_S A s.heap s.heap [] := va_S.rf
    have hP : va_P (dC, dI) vwCl [(h0, .inr (7, [.ref m0, v1, v2, v3, v4, .ref m1, v6, v7, v8, v9, v10, v11, v12, v13, v14, v15, v16, v17, v18, v19, v20, v21, v22, v23, v24, v25, v26, v27])), (m0, .inl (mc0, 38, .inl nf)), (m1, .inl (mc1, 8, .inl ff))] s.heap := hP
    have hl := lv_entry ([.ref h0, .int 0, .int b]) (n := 3) (Nat.le_of_ble_eq_true rfl)
    rw [lg_entry_eq]
    generalize (lg_sl ([.ref h0, .int 0, .int b]) ++ List.replicate (3 - (lg_sl ([.ref h0, .int 0, .int b])).length) Slot.unset).toArray = ls at hl ⊢
    have hl : lv_has ls 3 [(0, .ref h0), (1, .int 0), (2, .int b)] := hl
    refine lv_iload_n hx hb dX9_held_0 rfl (lv_at hl 1 rfl) ?_
    refine lv_iconst (v := 0) hx hb dX9_held_1 (by decide) ?_
    refine lv_iconst (v := 3) hx hb dX9_held_2 (by decide) ?_
    have hPc := hP.sub (ws' := []) [] rfl
    have hKc := hK.sub (tys' := []) [] rfl
    refine vp_callSi (W.runS (As := [.int 0, .int 0, .int 3]) (rest := []) ⟨hx, hb, hml, hown, hts⟩ (m_within l dC dI ad 0 0 3 ) (va_cwS 3 hts g_y_held_m_within_75 rfl rfl rfl (by decide +kernel) ⟨(Nat.le_of_ble_eq_true rfl), (Nat.le_of_ble_eq_true rfl)⟩) ⟨preS_blind, fun U hU hW => ⟨rfl, preS_at hU hW hPc hKc hev⟩⟩ rfl rfl hl.1 rfl (lv_room (Nat.le_of_ble_eq_true rfl)) dX9_held_3 ⟨(Nat.le_of_ble_eq_true rfl), (Nat.le_of_ble_eq_true rfl)⟩) (fun r_7 hw => ?_)
    have hw := hw.1 (by decide)
    subst hw
    refine lv_if_eq (tgt := 39) hx hb dX9_held_6 (by decide) (fun c => absurd c (by decide)) (fun _ => ?_)
    refine lv_iload_n hx hb dX9_held_9 rfl (lv_at hl 2 rfl) ?_
    refine lv_iconst (v := 0) hx hb dX9_held_10 (by decide) ?_
    refine lv_iconst (v := 1) hx hb dX9_held_11 (by decide) ?_
    have hPc := hP.sub (ws' := []) [] rfl
    have hKc := hK.sub (tys' := []) [] rfl
    refine vp_callSi (W.runS (As := [.int b, .int 0, .int 1]) (rest := []) ⟨hx, hb, hml, hown, hts⟩ (m_within l dC dI ad b 0 1 ) (va_cwS 3 hts g_y_held_m_within_75 rfl rfl rfl (by decide +kernel) ⟨(Nat.le_of_ble_eq_true rfl), (Nat.le_of_ble_eq_true rfl)⟩) ⟨preS_blind, fun U hU hW => ⟨rfl, preS_at hU hW hPc hKc hev⟩⟩ rfl rfl hl.1 rfl (lv_room (Nat.le_of_ble_eq_true rfl)) dX9_held_12 ⟨(Nat.le_of_ble_eq_true rfl), (Nat.le_of_ble_eq_true rfl)⟩) (fun r_8 hw => ?_)
    by_cases c_9 : 0 ≤ b ∧ b ≤ 1
    · skip
      have hw := hw.1 c_9
      subst hw
      refine lv_if_eq (tgt := 39) hx hb dX9_held_15 (by decide) (fun c => absurd c (by decide)) (fun _ => ?_)
      refine lv_aload_n hx hb dX9_held_18 rfl (lv_at hl 0 rfl) ?_
      refine va_get (D := (dC, dI)) (ci := 7) (v := .ref m0) (C := RX9) (T := TX9) (N := 28) hx hb hts inX9 hown hK hP 0 rfl rfl 0 (by decide) (hts _ (List.mem_of_getElem? (i := 11) rfl)) (fun _ h9 => h9) rfl dX9_held_19 ?_
      refine lv_iload_n hx hb dX9_held_22 rfl (lv_at hl 2 rfl) ?_
      refine lv_if_ne (tgt := 31) hx hb dX9_held_23 (by decide) (fun c_10 => ?_) (fun c_10 => ?_)
      · skip
        refine lv_bipush (v := 34) hx hb dX9_held_31 (by decide) ?_
        refine lv_iload_n hx hb dX9_held_33 rfl (lv_at hl 1 rfl) ?_
        refine lv_iadd hx hb dX9_held_34 ?_
        refine pp_ti (y := 34) (by decide) ?_
        refine va_iald hx hb hK hP 1 0 rfl rfl (vp_in_nI (n := 34) (by decide) (by decide)) dX9_held_35 ?_
        refine pp_ti (y := (-1)) ((hnf 34 (by decide)).trans (by decide)) ?_
        refine lv_goto (tgt := 45) hx hb dX9_held_36 (by decide) ?_
        exact W.iret (v := (-1)) hx hb hr (fun t ht hW => ⟨⟨(-1), (), rfl, ⟨(fun h => rfl), (fun g0 => (by first | rfl | (exfalso; simp only [fa_lt, fa_le, fa_eq, and_true, true_and, and_false, false_and, not_true_eq_false, not_false_eq_true, li_0, li_1, li_2, li_3, li_4, li_5, li_6, li_7, li_8, li_9, li_10, li_12, li_15, li_16, li_20, li_30, li_34, li_38, li_40, li_63, li_64, li_65, li_78, li_120, li_1000, li_4000, li_10000, li_11077, li_255, li_65535, li_m1, li_m2, li_m1000000001, li_m1000000002, li_m1000000003, li_m1000000004, li_m1000000005, li_m1000000006, li_m1000000007] at c_9 c_10 g0 <;> omega) | (simp only [fa_lt, fa_le, fa_eq, and_true, true_and, and_false, false_and, not_true_eq_false, not_false_eq_true, li_0, li_1, li_2, li_3, li_4, li_5, li_6, li_7, li_8, li_9, li_10, li_12, li_15, li_16, li_20, li_30, li_34, li_38, li_40, li_63, li_64, li_65, li_78, li_120, li_1000, li_4000, li_10000, li_11077, li_255, li_65535, li_m1, li_m2, li_m1000000001, li_m1000000002, li_m1000000003, li_m1000000004, li_m1000000005, li_m1000000006, li_m1000000007] at c_9 c_10 g0 ⊢ <;> omega)))⟩, trivial⟩, hS.F ht⟩) hS.2.2 dX9_held_45
      · skip
        refine lv_bipush (v := 30) hx hb dX9_held_26 (by decide) ?_
        refine lv_goto (tgt := 33) hx hb dX9_held_28 (by decide) ?_
        refine lv_iload_n hx hb dX9_held_33 rfl (lv_at hl 1 rfl) ?_
        refine lv_iadd hx hb dX9_held_34 ?_
        refine pp_ti (y := 30) (by decide) ?_
        refine va_iald hx hb hK hP 1 0 rfl rfl (vp_in_nI (n := 30) (by decide) (by decide)) dX9_held_35 ?_
        refine pp_ti (y := (-1)) ((hnf 30 (by decide)).trans (by decide)) ?_
        refine lv_goto (tgt := 45) hx hb dX9_held_36 (by decide) ?_
        exact W.iret (v := (-1)) hx hb hr (fun t ht hW => ⟨⟨(-1), (), rfl, ⟨(fun h => rfl), (fun g0 => (by first | rfl | (exfalso; simp only [fa_lt, fa_le, fa_eq, and_true, true_and, and_false, false_and, not_true_eq_false, not_false_eq_true, li_0, li_1, li_2, li_3, li_4, li_5, li_6, li_7, li_8, li_9, li_10, li_12, li_15, li_16, li_20, li_30, li_34, li_38, li_40, li_63, li_64, li_65, li_78, li_120, li_1000, li_4000, li_10000, li_11077, li_255, li_65535, li_m1, li_m2, li_m1000000001, li_m1000000002, li_m1000000003, li_m1000000004, li_m1000000005, li_m1000000006, li_m1000000007] at c_9 c_10 g0 <;> omega) | (simp only [fa_lt, fa_le, fa_eq, and_true, true_and, and_false, false_and, not_true_eq_false, not_false_eq_true, li_0, li_1, li_2, li_3, li_4, li_5, li_6, li_7, li_8, li_9, li_10, li_12, li_15, li_16, li_20, li_30, li_34, li_38, li_40, li_63, li_64, li_65, li_78, li_120, li_1000, li_4000, li_10000, li_11077, li_255, li_65535, li_m1, li_m2, li_m1000000001, li_m1000000002, li_m1000000003, li_m1000000004, li_m1000000005, li_m1000000006, li_m1000000007] at c_9 c_10 g0 ⊢ <;> omega)))⟩, trivial⟩, hS.F ht⟩) hS.2.2 dX9_held_45
    · skip
      have hw := hw.2 c_9
      subst hw
      refine lv_if_eq (tgt := 39) hx hb dX9_held_15 (by decide) (fun _ => ?_) (fun c => absurd (by decide) c)
      refine lv_aload_n hx hb dX9_held_39 rfl (lv_at hl 0 rfl) ?_
      refine lv_ldc hx hb hown (hts _ (List.mem_of_getElem? (i := 5) rfl)) dX9_held_40 ?_
      have hPc := hP.sub (ws' := [(h0, .inr (7, [.ref m0, v1, v2, v3, v4, .ref m1, v6, v7, v8, v9, v10, v11, v12, v13, v14, v15, v16, v17, v18, v19, v20, v21, v22, v23, v24, v25, v26, v27])), (m1, .inl (mc1, 8, .inl ff))]) [0, 2] rfl
      have hKc := hK.sub (tys' := [(mc1, .int)]) [1] rfl
      have hDc := hD.sub (ws' := [(h0, .inr (7, [.ref m0, v1, v2, v3, v4, .ref m1, v6, v7, v8, v9, v10, v11, v12, v13, v14, v15, v16, v17, v18, v19, v20, v21, v22, v23, v24, v25, v26, v27])), (m1, .inl (mc1, 8, .inl ff))]) [0, 2] (by decide) rfl
      have hFc := va_free (wc := [(h0, .inr (7, [.ref m0, v1, v2, v3, v4, .ref m1, v6, v7, v8, v9, v10, v11, v12, v13, v14, v15, v16, v17, v18, v19, v20, v21, v22, v23, v24, v25, v26, v27])), (m1, .inl (mc1, 8, .inl ff))]) hD hS hA [0, 2] rfl
      refine va_calli (va_runV (As := [.int (-1000000001)]) (rest := []) ⟨hx, hb, hml, hown, hts⟩ (m_find_beyond l dC dI ad h0 (.ref m0) v1 v2 v3 v4 m1 v6 v7 v8 v9 v10 v11 v12 v13 v14 v15 v16 v17 v18 v19 v20 v21 v22 v23 v24 v25 v26 v27 mc1 ff s.heap.size ) (cwV 1 hts g_y_held_m_find_beyond_84 rfl rfl rfl (by decide +kernel) ⟨(Nat.le_of_ble_eq_true rfl), (Nat.le_of_ble_eq_true rfl)⟩) ⟨preM_blind, va_recv hKc hPc (ci := 7) (q0 := 0) rfl rfl, fun U hU hW => ⟨rfl, preM_at hU hW hPc hKc hDc hev⟩⟩ rfl rfl hl.1 rfl (lv_room (Nat.le_of_ble_eq_true rfl)) dX9_held_42 ⟨(Nat.le_of_ble_eq_true rfl), (Nat.le_of_ble_eq_true rfl)⟩) hS (fun q _ h => hFc q h) hFc (fun r_11 u t H1 locs ht hvm hw hB hz1 hk1 hS => ?_)
      obtain ⟨hP, hD⟩ := va_join (wr := [(m0, .inl (mc0, 38, .inl nf))]) (w1 := []) hP hD [0, 2] [1] rfl rfl (by decide) (by decide) hk1 hFc nil_P nil_D
      generalize H1 = H at hP hS ⊢
      have hP : va_P (dC, dI) vwCl [(m0, .inl (mc0, 38, .inl nf))] H := hP
      have hD : va_D A [(m0, .inl (mc0, 38, .inl nf))] := hD
      subst hw
      exact W.iret (v := (-1000000001)) hx hb hr (fun t ht hW => ⟨⟨(-1000000001), (), rfl, ⟨(fun h => (by first | rfl | (exfalso; simp only [fa_lt, fa_le, fa_eq, and_true, true_and, and_false, false_and, not_true_eq_false, not_false_eq_true, li_0, li_1, li_2, li_3, li_4, li_5, li_6, li_7, li_8, li_9, li_10, li_12, li_15, li_16, li_20, li_30, li_34, li_38, li_40, li_63, li_64, li_65, li_78, li_120, li_1000, li_4000, li_10000, li_11077, li_255, li_65535, li_m1, li_m2, li_m1000000001, li_m1000000002, li_m1000000003, li_m1000000004, li_m1000000005, li_m1000000006, li_m1000000007] at c_9 h <;> omega) | (simp only [fa_lt, fa_le, fa_eq, and_true, true_and, and_false, false_and, not_true_eq_false, not_false_eq_true, li_0, li_1, li_2, li_3, li_4, li_5, li_6, li_7, li_8, li_9, li_10, li_12, li_15, li_16, li_20, li_30, li_34, li_38, li_40, li_63, li_64, li_65, li_78, li_120, li_1000, li_4000, li_10000, li_11077, li_255, li_65535, li_m1, li_m2, li_m1000000001, li_m1000000002, li_m1000000003, li_m1000000004, li_m1000000005, li_m1000000006, li_m1000000007] at c_9 h ⊢ <;> omega))), (fun g0 => rfl)⟩, trivial⟩, hS.F ht⟩) hS.2.2 dX9_held_45
  · skip
    refine Met.ofW (cc := cX9_held) (maxL := 3) (ret := (some .int)) (by decide) rfl ?_
    intro p e s m args below meth c s₁ B hml hv
    obtain ⟨rfl, hsz, hP, hK, hD0, hev⟩ := hv
    have hx := B.exec
    have hb := B.bytes
    have hr := B.returns
    have hts := atoms_spec (ws := w_y_held) B.pre
    have hown : s.vm.findClass RX9 = some m.cls := findClass_of_methodNamed B.named
    have hlocks := B.notSynchronized
    have inX9 : ∀ w ∈ wsX90, w ∈ w_y_held := fun w h => List.mem_cons_of_mem _ (List.mem_append_right _ h)
    subst hsz
    have hD := hD0.self (sz := s.heap.size)
    generalize hAe : va_A [(h0, .inr (7, [.ref m0, v1, v2, v3, v4, .ref m1, v6, v7, v8, v9, v10, v11, v12, v13, v14, v15, v16, v17, v18, v19, v20, v21, v22, v23, v24, v25, v26, v27])), (m0, .inl (mc0, 38, .inl nf)), (m1, .inl (mc1, 8, .inl ff))] s.heap.size = A at hD ⊢
    have hA : ∀ q : Nat, s.heap.size ≤ q → A q := fun q h => by rw [← hAe]; exact Or.inr h
    have hS : va_S A s.heap s.heap [] := va_S.rf
    have hP : va_P (dC, dI) vwCl [(h0, .inr (7, [.ref m0, v1, v2, v3, v4, .ref m1, v6, v7, v8, v9, v10, v11, v12, v13, v14, v15, v16, v17, v18, v19, v20, v21, v22, v23, v24, v25, v26, v27])), (m0, .inl (mc0, 38, .inl nf)), (m1, .inl (mc1, 8, .inl ff))] s.heap := hP
    have hl := lv_entry ([.ref h0, .int 1, .int b]) (n := 3) (Nat.le_of_ble_eq_true rfl)
    rw [lg_entry_eq]
    generalize (lg_sl ([.ref h0, .int 1, .int b]) ++ List.replicate (3 - (lg_sl ([.ref h0, .int 1, .int b])).length) Slot.unset).toArray = ls at hl ⊢
    have hl : lv_has ls 3 [(0, .ref h0), (1, .int 1), (2, .int b)] := hl
    refine lv_iload_n hx hb dX9_held_0 rfl (lv_at hl 1 rfl) ?_
    refine lv_iconst (v := 0) hx hb dX9_held_1 (by decide) ?_
    refine lv_iconst (v := 3) hx hb dX9_held_2 (by decide) ?_
    have hPc := hP.sub (ws' := []) [] rfl
    have hKc := hK.sub (tys' := []) [] rfl
    refine vp_callSi (W.runS (As := [.int 1, .int 0, .int 3]) (rest := []) ⟨hx, hb, hml, hown, hts⟩ (m_within l dC dI ad 1 0 3 ) (va_cwS 3 hts g_y_held_m_within_75 rfl rfl rfl (by decide +kernel) ⟨(Nat.le_of_ble_eq_true rfl), (Nat.le_of_ble_eq_true rfl)⟩) ⟨preS_blind, fun U hU hW => ⟨rfl, preS_at hU hW hPc hKc hev⟩⟩ rfl rfl hl.1 rfl (lv_room (Nat.le_of_ble_eq_true rfl)) dX9_held_3 ⟨(Nat.le_of_ble_eq_true rfl), (Nat.le_of_ble_eq_true rfl)⟩) (fun r_12 hw => ?_)
    have hw := hw.1 (by decide)
    subst hw
    refine lv_if_eq (tgt := 39) hx hb dX9_held_6 (by decide) (fun c => absurd c (by decide)) (fun _ => ?_)
    refine lv_iload_n hx hb dX9_held_9 rfl (lv_at hl 2 rfl) ?_
    refine lv_iconst (v := 0) hx hb dX9_held_10 (by decide) ?_
    refine lv_iconst (v := 1) hx hb dX9_held_11 (by decide) ?_
    have hPc := hP.sub (ws' := []) [] rfl
    have hKc := hK.sub (tys' := []) [] rfl
    refine vp_callSi (W.runS (As := [.int b, .int 0, .int 1]) (rest := []) ⟨hx, hb, hml, hown, hts⟩ (m_within l dC dI ad b 0 1 ) (va_cwS 3 hts g_y_held_m_within_75 rfl rfl rfl (by decide +kernel) ⟨(Nat.le_of_ble_eq_true rfl), (Nat.le_of_ble_eq_true rfl)⟩) ⟨preS_blind, fun U hU hW => ⟨rfl, preS_at hU hW hPc hKc hev⟩⟩ rfl rfl hl.1 rfl (lv_room (Nat.le_of_ble_eq_true rfl)) dX9_held_12 ⟨(Nat.le_of_ble_eq_true rfl), (Nat.le_of_ble_eq_true rfl)⟩) (fun r_13 hw => ?_)
    by_cases c_14 : 0 ≤ b ∧ b ≤ 1
    · skip
      have hw := hw.1 c_14
      subst hw
      refine lv_if_eq (tgt := 39) hx hb dX9_held_15 (by decide) (fun c => absurd c (by decide)) (fun _ => ?_)
      refine lv_aload_n hx hb dX9_held_18 rfl (lv_at hl 0 rfl) ?_
      refine va_get (D := (dC, dI)) (ci := 7) (v := .ref m0) (C := RX9) (T := TX9) (N := 28) hx hb hts inX9 hown hK hP 0 rfl rfl 0 (by decide) (hts _ (List.mem_of_getElem? (i := 11) rfl)) (fun _ h9 => h9) rfl dX9_held_19 ?_
      refine lv_iload_n hx hb dX9_held_22 rfl (lv_at hl 2 rfl) ?_
      refine lv_if_ne (tgt := 31) hx hb dX9_held_23 (by decide) (fun c_15 => ?_) (fun c_15 => ?_)
      · skip
        refine lv_bipush (v := 34) hx hb dX9_held_31 (by decide) ?_
        refine lv_iload_n hx hb dX9_held_33 rfl (lv_at hl 1 rfl) ?_
        refine lv_iadd hx hb dX9_held_34 ?_
        refine pp_ti (y := 35) (by decide) ?_
        refine va_iald hx hb hK hP 1 0 rfl rfl (vp_in_nI (n := 35) (by decide) (by decide)) dX9_held_35 ?_
        refine pp_ti (y := (-1)) ((hnf 35 (by decide)).trans (by decide)) ?_
        refine lv_goto (tgt := 45) hx hb dX9_held_36 (by decide) ?_
        exact W.iret (v := (-1)) hx hb hr (fun t ht hW => ⟨⟨(-1), (), rfl, ⟨(fun h => rfl), (fun g0 => (by first | rfl | (exfalso; simp only [fa_lt, fa_le, fa_eq, and_true, true_and, and_false, false_and, not_true_eq_false, not_false_eq_true, li_0, li_1, li_2, li_3, li_4, li_5, li_6, li_7, li_8, li_9, li_10, li_12, li_15, li_16, li_20, li_30, li_34, li_38, li_40, li_63, li_64, li_65, li_78, li_120, li_1000, li_4000, li_10000, li_11077, li_255, li_65535, li_m1, li_m2, li_m1000000001, li_m1000000002, li_m1000000003, li_m1000000004, li_m1000000005, li_m1000000006, li_m1000000007] at c_14 c_15 g0 <;> omega) | (simp only [fa_lt, fa_le, fa_eq, and_true, true_and, and_false, false_and, not_true_eq_false, not_false_eq_true, li_0, li_1, li_2, li_3, li_4, li_5, li_6, li_7, li_8, li_9, li_10, li_12, li_15, li_16, li_20, li_30, li_34, li_38, li_40, li_63, li_64, li_65, li_78, li_120, li_1000, li_4000, li_10000, li_11077, li_255, li_65535, li_m1, li_m2, li_m1000000001, li_m1000000002, li_m1000000003, li_m1000000004, li_m1000000005, li_m1000000006, li_m1000000007] at c_14 c_15 g0 ⊢ <;> omega)))⟩, trivial⟩, hS.F ht⟩) hS.2.2 dX9_held_45
      · skip
        refine lv_bipush (v := 30) hx hb dX9_held_26 (by decide) ?_
        refine lv_goto (tgt := 33) hx hb dX9_held_28 (by decide) ?_
        refine lv_iload_n hx hb dX9_held_33 rfl (lv_at hl 1 rfl) ?_
        refine lv_iadd hx hb dX9_held_34 ?_
        refine pp_ti (y := 31) (by decide) ?_
        refine va_iald hx hb hK hP 1 0 rfl rfl (vp_in_nI (n := 31) (by decide) (by decide)) dX9_held_35 ?_
        refine pp_ti (y := (-1)) ((hnf 31 (by decide)).trans (by decide)) ?_
        refine lv_goto (tgt := 45) hx hb dX9_held_36 (by decide) ?_
        exact W.iret (v := (-1)) hx hb hr (fun t ht hW => ⟨⟨(-1), (), rfl, ⟨(fun h => rfl), (fun g0 => (by first | rfl | (exfalso; simp only [fa_lt, fa_le, fa_eq, and_true, true_and, and_false, false_and, not_true_eq_false, not_false_eq_true, li_0, li_1, li_2, li_3, li_4, li_5, li_6, li_7, li_8, li_9, li_10, li_12, li_15, li_16, li_20, li_30, li_34, li_38, li_40, li_63, li_64, li_65, li_78, li_120, li_1000, li_4000, li_10000, li_11077, li_255, li_65535, li_m1, li_m2, li_m1000000001, li_m1000000002, li_m1000000003, li_m1000000004, li_m1000000005, li_m1000000006, li_m1000000007] at c_14 c_15 g0 <;> omega) | (simp only [fa_lt, fa_le, fa_eq, and_true, true_and, and_false, false_and, not_true_eq_false, not_false_eq_true, li_0, li_1, li_2, li_3, li_4, li_5, li_6, li_7, li_8, li_9, li_10, li_12, li_15, li_16, li_20, li_30, li_34, li_38, li_40, li_63, li_64, li_65, li_78, li_120, li_1000, li_4000, li_10000, li_11077, li_255, li_65535, li_m1, li_m2, li_m1000000001, li_m1000000002, li_m1000000003, li_m1000000004, li_m1000000005, li_m1000000006, li_m1000000007] at c_14 c_15 g0 ⊢ <;> omega)))⟩, trivial⟩, hS.F ht⟩) hS.2.2 dX9_held_45
    · skip
      have hw := hw.2 c_14
      subst hw
      refine lv_if_eq (tgt := 39) hx hb dX9_held_15 (by decide) (fun _ => ?_) (fun c => absurd (by decide) c)
      refine lv_aload_n hx hb dX9_held_39 rfl (lv_at hl 0 rfl) ?_
      refine lv_ldc hx hb hown (hts _ (List.mem_of_getElem? (i := 5) rfl)) dX9_held_40 ?_
      have hPc := hP.sub (ws' := [(h0, .inr (7, [.ref m0, v1, v2, v3, v4, .ref m1, v6, v7, v8, v9, v10, v11, v12, v13, v14, v15, v16, v17, v18, v19, v20, v21, v22, v23, v24, v25, v26, v27])), (m1, .inl (mc1, 8, .inl ff))]) [0, 2] rfl
      have hKc := hK.sub (tys' := [(mc1, .int)]) [1] rfl
      have hDc := hD.sub (ws' := [(h0, .inr (7, [.ref m0, v1, v2, v3, v4, .ref m1, v6, v7, v8, v9, v10, v11, v12, v13, v14, v15, v16, v17, v18, v19, v20, v21, v22, v23, v24, v25, v26, v27])), (m1, .inl (mc1, 8, .inl ff))]) [0, 2] (by decide) rfl
      have hFc := va_free (wc := [(h0, .inr (7, [.ref m0, v1, v2, v3, v4, .ref m1, v6, v7, v8, v9, v10, v11, v12, v13, v14, v15, v16, v17, v18, v19, v20, v21, v22, v23, v24, v25, v26, v27])), (m1, .inl (mc1, 8, .inl ff))]) hD hS hA [0, 2] rfl
      refine va_calli (va_runV (As := [.int (-1000000001)]) (rest := []) ⟨hx, hb, hml, hown, hts⟩ (m_find_beyond l dC dI ad h0 (.ref m0) v1 v2 v3 v4 m1 v6 v7 v8 v9 v10 v11 v12 v13 v14 v15 v16 v17 v18 v19 v20 v21 v22 v23 v24 v25 v26 v27 mc1 ff s.heap.size ) (cwV 1 hts g_y_held_m_find_beyond_84 rfl rfl rfl (by decide +kernel) ⟨(Nat.le_of_ble_eq_true rfl), (Nat.le_of_ble_eq_true rfl)⟩) ⟨preM_blind, va_recv hKc hPc (ci := 7) (q0 := 0) rfl rfl, fun U hU hW => ⟨rfl, preM_at hU hW hPc hKc hDc hev⟩⟩ rfl rfl hl.1 rfl (lv_room (Nat.le_of_ble_eq_true rfl)) dX9_held_42 ⟨(Nat.le_of_ble_eq_true rfl), (Nat.le_of_ble_eq_true rfl)⟩) hS (fun q _ h => hFc q h) hFc (fun r_16 u t H1 locs ht hvm hw hB hz1 hk1 hS => ?_)
      obtain ⟨hP, hD⟩ := va_join (wr := [(m0, .inl (mc0, 38, .inl nf))]) (w1 := []) hP hD [0, 2] [1] rfl rfl (by decide) (by decide) hk1 hFc nil_P nil_D
      generalize H1 = H at hP hS ⊢
      have hP : va_P (dC, dI) vwCl [(m0, .inl (mc0, 38, .inl nf))] H := hP
      have hD : va_D A [(m0, .inl (mc0, 38, .inl nf))] := hD
      subst hw
      exact W.iret (v := (-1000000001)) hx hb hr (fun t ht hW => ⟨⟨(-1000000001), (), rfl, ⟨(fun h => (by first | rfl | (exfalso; simp only [fa_lt, fa_le, fa_eq, and_true, true_and, and_false, false_and, not_true_eq_false, not_false_eq_true, li_0, li_1, li_2, li_3, li_4, li_5, li_6, li_7, li_8, li_9, li_10, li_12, li_15, li_16, li_20, li_30, li_34, li_38, li_40, li_63, li_64, li_65, li_78, li_120, li_1000, li_4000, li_10000, li_11077, li_255, li_65535, li_m1, li_m2, li_m1000000001, li_m1000000002, li_m1000000003, li_m1000000004, li_m1000000005, li_m1000000006, li_m1000000007] at c_14 h <;> omega) | (simp only [fa_lt, fa_le, fa_eq, and_true, true_and, and_false, false_and, not_true_eq_false, not_false_eq_true, li_0, li_1, li_2, li_3, li_4, li_5, li_6, li_7, li_8, li_9, li_10, li_12, li_15, li_16, li_20, li_30, li_34, li_38, li_40, li_63, li_64, li_65, li_78, li_120, li_1000, li_4000, li_10000, li_11077, li_255, li_65535, li_m1, li_m2, li_m1000000001, li_m1000000002, li_m1000000003, li_m1000000004, li_m1000000005, li_m1000000006, li_m1000000007] at c_14 h ⊢ <;> omega))), (fun g0 => rfl)⟩, trivial⟩, hS.F ht⟩) hS.2.2 dX9_held_45
  · skip
    refine Met.ofW (cc := cX9_held) (maxL := 3) (ret := (some .int)) (by decide) rfl ?_
    intro p e s m args below meth c s₁ B hml hv
    obtain ⟨rfl, hsz, hP, hK, hD0, hev⟩ := hv
    have hx := B.exec
    have hb := B.bytes
    have hr := B.returns
    have hts := atoms_spec (ws := w_y_held) B.pre
    have hown : s.vm.findClass RX9 = some m.cls := findClass_of_methodNamed B.named
    have hlocks := B.notSynchronized
    have inX9 : ∀ w ∈ wsX90, w ∈ w_y_held := fun w h => List.mem_cons_of_mem _ (List.mem_append_right _ h)
    subst hsz
    have hD := hD0.self (sz := s.heap.size)
    generalize hAe : va_A [(h0, .inr (7, [.ref m0, v1, v2, v3, v4, .ref m1, v6, v7, v8, v9, v10, v11, v12, v13, v14, v15, v16, v17, v18, v19, v20, v21, v22, v23, v24, v25, v26, v27])), (m0, .inl (mc0, 38, .inl nf)), (m1, .inl (mc1, 8, .inl ff))] s.heap.size = A at hD ⊢
    have hA : ∀ q : Nat, s.heap.size ≤ q → A q := fun q h => by rw [← hAe]; exact Or.inr h
    have hS : va_S A s.heap s.heap [] := va_S.rf
    have hP : va_P (dC, dI) vwCl [(h0, .inr (7, [.ref m0, v1, v2, v3, v4, .ref m1, v6, v7, v8, v9, v10, v11, v12, v13, v14, v15, v16, v17, v18, v19, v20, v21, v22, v23, v24, v25, v26, v27])), (m0, .inl (mc0, 38, .inl nf)), (m1, .inl (mc1, 8, .inl ff))] s.heap := hP
    have hl := lv_entry ([.ref h0, .int 2, .int b]) (n := 3) (Nat.le_of_ble_eq_true rfl)
    rw [lg_entry_eq]
    generalize (lg_sl ([.ref h0, .int 2, .int b]) ++ List.replicate (3 - (lg_sl ([.ref h0, .int 2, .int b])).length) Slot.unset).toArray = ls at hl ⊢
    have hl : lv_has ls 3 [(0, .ref h0), (1, .int 2), (2, .int b)] := hl
    refine lv_iload_n hx hb dX9_held_0 rfl (lv_at hl 1 rfl) ?_
    refine lv_iconst (v := 0) hx hb dX9_held_1 (by decide) ?_
    refine lv_iconst (v := 3) hx hb dX9_held_2 (by decide) ?_
    have hPc := hP.sub (ws' := []) [] rfl
    have hKc := hK.sub (tys' := []) [] rfl
    refine vp_callSi (W.runS (As := [.int 2, .int 0, .int 3]) (rest := []) ⟨hx, hb, hml, hown, hts⟩ (m_within l dC dI ad 2 0 3 ) (va_cwS 3 hts g_y_held_m_within_75 rfl rfl rfl (by decide +kernel) ⟨(Nat.le_of_ble_eq_true rfl), (Nat.le_of_ble_eq_true rfl)⟩) ⟨preS_blind, fun U hU hW => ⟨rfl, preS_at hU hW hPc hKc hev⟩⟩ rfl rfl hl.1 rfl (lv_room (Nat.le_of_ble_eq_true rfl)) dX9_held_3 ⟨(Nat.le_of_ble_eq_true rfl), (Nat.le_of_ble_eq_true rfl)⟩) (fun r_17 hw => ?_)
    have hw := hw.1 (by decide)
    subst hw
    refine lv_if_eq (tgt := 39) hx hb dX9_held_6 (by decide) (fun c => absurd c (by decide)) (fun _ => ?_)
    refine lv_iload_n hx hb dX9_held_9 rfl (lv_at hl 2 rfl) ?_
    refine lv_iconst (v := 0) hx hb dX9_held_10 (by decide) ?_
    refine lv_iconst (v := 1) hx hb dX9_held_11 (by decide) ?_
    have hPc := hP.sub (ws' := []) [] rfl
    have hKc := hK.sub (tys' := []) [] rfl
    refine vp_callSi (W.runS (As := [.int b, .int 0, .int 1]) (rest := []) ⟨hx, hb, hml, hown, hts⟩ (m_within l dC dI ad b 0 1 ) (va_cwS 3 hts g_y_held_m_within_75 rfl rfl rfl (by decide +kernel) ⟨(Nat.le_of_ble_eq_true rfl), (Nat.le_of_ble_eq_true rfl)⟩) ⟨preS_blind, fun U hU hW => ⟨rfl, preS_at hU hW hPc hKc hev⟩⟩ rfl rfl hl.1 rfl (lv_room (Nat.le_of_ble_eq_true rfl)) dX9_held_12 ⟨(Nat.le_of_ble_eq_true rfl), (Nat.le_of_ble_eq_true rfl)⟩) (fun r_18 hw => ?_)
    by_cases c_19 : 0 ≤ b ∧ b ≤ 1
    · skip
      have hw := hw.1 c_19
      subst hw
      refine lv_if_eq (tgt := 39) hx hb dX9_held_15 (by decide) (fun c => absurd c (by decide)) (fun _ => ?_)
      refine lv_aload_n hx hb dX9_held_18 rfl (lv_at hl 0 rfl) ?_
      refine va_get (D := (dC, dI)) (ci := 7) (v := .ref m0) (C := RX9) (T := TX9) (N := 28) hx hb hts inX9 hown hK hP 0 rfl rfl 0 (by decide) (hts _ (List.mem_of_getElem? (i := 11) rfl)) (fun _ h9 => h9) rfl dX9_held_19 ?_
      refine lv_iload_n hx hb dX9_held_22 rfl (lv_at hl 2 rfl) ?_
      refine lv_if_ne (tgt := 31) hx hb dX9_held_23 (by decide) (fun c_20 => ?_) (fun c_20 => ?_)
      · skip
        refine lv_bipush (v := 34) hx hb dX9_held_31 (by decide) ?_
        refine lv_iload_n hx hb dX9_held_33 rfl (lv_at hl 1 rfl) ?_
        refine lv_iadd hx hb dX9_held_34 ?_
        refine pp_ti (y := 36) (by decide) ?_
        refine va_iald hx hb hK hP 1 0 rfl rfl (vp_in_nI (n := 36) (by decide) (by decide)) dX9_held_35 ?_
        refine pp_ti (y := (-1)) ((hnf 36 (by decide)).trans (by decide)) ?_
        refine lv_goto (tgt := 45) hx hb dX9_held_36 (by decide) ?_
        exact W.iret (v := (-1)) hx hb hr (fun t ht hW => ⟨⟨(-1), (), rfl, ⟨(fun h => rfl), (fun g0 => (by first | rfl | (exfalso; simp only [fa_lt, fa_le, fa_eq, and_true, true_and, and_false, false_and, not_true_eq_false, not_false_eq_true, li_0, li_1, li_2, li_3, li_4, li_5, li_6, li_7, li_8, li_9, li_10, li_12, li_15, li_16, li_20, li_30, li_34, li_38, li_40, li_63, li_64, li_65, li_78, li_120, li_1000, li_4000, li_10000, li_11077, li_255, li_65535, li_m1, li_m2, li_m1000000001, li_m1000000002, li_m1000000003, li_m1000000004, li_m1000000005, li_m1000000006, li_m1000000007] at c_19 c_20 g0 <;> omega) | (simp only [fa_lt, fa_le, fa_eq, and_true, true_and, and_false, false_and, not_true_eq_false, not_false_eq_true, li_0, li_1, li_2, li_3, li_4, li_5, li_6, li_7, li_8, li_9, li_10, li_12, li_15, li_16, li_20, li_30, li_34, li_38, li_40, li_63, li_64, li_65, li_78, li_120, li_1000, li_4000, li_10000, li_11077, li_255, li_65535, li_m1, li_m2, li_m1000000001, li_m1000000002, li_m1000000003, li_m1000000004, li_m1000000005, li_m1000000006, li_m1000000007] at c_19 c_20 g0 ⊢ <;> omega)))⟩, trivial⟩, hS.F ht⟩) hS.2.2 dX9_held_45
      · skip
        refine lv_bipush (v := 30) hx hb dX9_held_26 (by decide) ?_
        refine lv_goto (tgt := 33) hx hb dX9_held_28 (by decide) ?_
        refine lv_iload_n hx hb dX9_held_33 rfl (lv_at hl 1 rfl) ?_
        refine lv_iadd hx hb dX9_held_34 ?_
        refine pp_ti (y := 32) (by decide) ?_
        refine va_iald hx hb hK hP 1 0 rfl rfl (vp_in_nI (n := 32) (by decide) (by decide)) dX9_held_35 ?_
        refine pp_ti (y := (-1)) ((hnf 32 (by decide)).trans (by decide)) ?_
        refine lv_goto (tgt := 45) hx hb dX9_held_36 (by decide) ?_
        exact W.iret (v := (-1)) hx hb hr (fun t ht hW => ⟨⟨(-1), (), rfl, ⟨(fun h => rfl), (fun g0 => (by first | rfl | (exfalso; simp only [fa_lt, fa_le, fa_eq, and_true, true_and, and_false, false_and, not_true_eq_false, not_false_eq_true, li_0, li_1, li_2, li_3, li_4, li_5, li_6, li_7, li_8, li_9, li_10, li_12, li_15, li_16, li_20, li_30, li_34, li_38, li_40, li_63, li_64, li_65, li_78, li_120, li_1000, li_4000, li_10000, li_11077, li_255, li_65535, li_m1, li_m2, li_m1000000001, li_m1000000002, li_m1000000003, li_m1000000004, li_m1000000005, li_m1000000006, li_m1000000007] at c_19 c_20 g0 <;> omega) | (simp only [fa_lt, fa_le, fa_eq, and_true, true_and, and_false, false_and, not_true_eq_false, not_false_eq_true, li_0, li_1, li_2, li_3, li_4, li_5, li_6, li_7, li_8, li_9, li_10, li_12, li_15, li_16, li_20, li_30, li_34, li_38, li_40, li_63, li_64, li_65, li_78, li_120, li_1000, li_4000, li_10000, li_11077, li_255, li_65535, li_m1, li_m2, li_m1000000001, li_m1000000002, li_m1000000003, li_m1000000004, li_m1000000005, li_m1000000006, li_m1000000007] at c_19 c_20 g0 ⊢ <;> omega)))⟩, trivial⟩, hS.F ht⟩) hS.2.2 dX9_held_45
    · skip
      have hw := hw.2 c_19
      subst hw
      refine lv_if_eq (tgt := 39) hx hb dX9_held_15 (by decide) (fun _ => ?_) (fun c => absurd (by decide) c)
      refine lv_aload_n hx hb dX9_held_39 rfl (lv_at hl 0 rfl) ?_
      refine lv_ldc hx hb hown (hts _ (List.mem_of_getElem? (i := 5) rfl)) dX9_held_40 ?_
      have hPc := hP.sub (ws' := [(h0, .inr (7, [.ref m0, v1, v2, v3, v4, .ref m1, v6, v7, v8, v9, v10, v11, v12, v13, v14, v15, v16, v17, v18, v19, v20, v21, v22, v23, v24, v25, v26, v27])), (m1, .inl (mc1, 8, .inl ff))]) [0, 2] rfl
      have hKc := hK.sub (tys' := [(mc1, .int)]) [1] rfl
      have hDc := hD.sub (ws' := [(h0, .inr (7, [.ref m0, v1, v2, v3, v4, .ref m1, v6, v7, v8, v9, v10, v11, v12, v13, v14, v15, v16, v17, v18, v19, v20, v21, v22, v23, v24, v25, v26, v27])), (m1, .inl (mc1, 8, .inl ff))]) [0, 2] (by decide) rfl
      have hFc := va_free (wc := [(h0, .inr (7, [.ref m0, v1, v2, v3, v4, .ref m1, v6, v7, v8, v9, v10, v11, v12, v13, v14, v15, v16, v17, v18, v19, v20, v21, v22, v23, v24, v25, v26, v27])), (m1, .inl (mc1, 8, .inl ff))]) hD hS hA [0, 2] rfl
      refine va_calli (va_runV (As := [.int (-1000000001)]) (rest := []) ⟨hx, hb, hml, hown, hts⟩ (m_find_beyond l dC dI ad h0 (.ref m0) v1 v2 v3 v4 m1 v6 v7 v8 v9 v10 v11 v12 v13 v14 v15 v16 v17 v18 v19 v20 v21 v22 v23 v24 v25 v26 v27 mc1 ff s.heap.size ) (cwV 1 hts g_y_held_m_find_beyond_84 rfl rfl rfl (by decide +kernel) ⟨(Nat.le_of_ble_eq_true rfl), (Nat.le_of_ble_eq_true rfl)⟩) ⟨preM_blind, va_recv hKc hPc (ci := 7) (q0 := 0) rfl rfl, fun U hU hW => ⟨rfl, preM_at hU hW hPc hKc hDc hev⟩⟩ rfl rfl hl.1 rfl (lv_room (Nat.le_of_ble_eq_true rfl)) dX9_held_42 ⟨(Nat.le_of_ble_eq_true rfl), (Nat.le_of_ble_eq_true rfl)⟩) hS (fun q _ h => hFc q h) hFc (fun r_21 u t H1 locs ht hvm hw hB hz1 hk1 hS => ?_)
      obtain ⟨hP, hD⟩ := va_join (wr := [(m0, .inl (mc0, 38, .inl nf))]) (w1 := []) hP hD [0, 2] [1] rfl rfl (by decide) (by decide) hk1 hFc nil_P nil_D
      generalize H1 = H at hP hS ⊢
      have hP : va_P (dC, dI) vwCl [(m0, .inl (mc0, 38, .inl nf))] H := hP
      have hD : va_D A [(m0, .inl (mc0, 38, .inl nf))] := hD
      subst hw
      exact W.iret (v := (-1000000001)) hx hb hr (fun t ht hW => ⟨⟨(-1000000001), (), rfl, ⟨(fun h => (by first | rfl | (exfalso; simp only [fa_lt, fa_le, fa_eq, and_true, true_and, and_false, false_and, not_true_eq_false, not_false_eq_true, li_0, li_1, li_2, li_3, li_4, li_5, li_6, li_7, li_8, li_9, li_10, li_12, li_15, li_16, li_20, li_30, li_34, li_38, li_40, li_63, li_64, li_65, li_78, li_120, li_1000, li_4000, li_10000, li_11077, li_255, li_65535, li_m1, li_m2, li_m1000000001, li_m1000000002, li_m1000000003, li_m1000000004, li_m1000000005, li_m1000000006, li_m1000000007] at c_19 h <;> omega) | (simp only [fa_lt, fa_le, fa_eq, and_true, true_and, and_false, false_and, not_true_eq_false, not_false_eq_true, li_0, li_1, li_2, li_3, li_4, li_5, li_6, li_7, li_8, li_9, li_10, li_12, li_15, li_16, li_20, li_30, li_34, li_38, li_40, li_63, li_64, li_65, li_78, li_120, li_1000, li_4000, li_10000, li_11077, li_255, li_65535, li_m1, li_m2, li_m1000000001, li_m1000000002, li_m1000000003, li_m1000000004, li_m1000000005, li_m1000000006, li_m1000000007] at c_19 h ⊢ <;> omega))), (fun g0 => rfl)⟩, trivial⟩, hS.F ht⟩) hS.2.2 dX9_held_45
  · skip
    refine Met.ofW (cc := cX9_held) (maxL := 3) (ret := (some .int)) (by decide) rfl ?_
    intro p e s m args below meth c s₁ B hml hv
    obtain ⟨rfl, hsz, hP, hK, hD0, hev⟩ := hv
    have hx := B.exec
    have hb := B.bytes
    have hr := B.returns
    have hts := atoms_spec (ws := w_y_held) B.pre
    have hown : s.vm.findClass RX9 = some m.cls := findClass_of_methodNamed B.named
    have hlocks := B.notSynchronized
    have inX9 : ∀ w ∈ wsX90, w ∈ w_y_held := fun w h => List.mem_cons_of_mem _ (List.mem_append_right _ h)
    subst hsz
    have hD := hD0.self (sz := s.heap.size)
    generalize hAe : va_A [(h0, .inr (7, [.ref m0, v1, v2, v3, v4, .ref m1, v6, v7, v8, v9, v10, v11, v12, v13, v14, v15, v16, v17, v18, v19, v20, v21, v22, v23, v24, v25, v26, v27])), (m0, .inl (mc0, 38, .inl nf)), (m1, .inl (mc1, 8, .inl ff))] s.heap.size = A at hD ⊢
    have hA : ∀ q : Nat, s.heap.size ≤ q → A q := fun q h => by rw [← hAe]; exact Or.inr h
    have hS : va_S A s.heap s.heap [] := va_S.rf
    have hP : va_P (dC, dI) vwCl [(h0, .inr (7, [.ref m0, v1, v2, v3, v4, .ref m1, v6, v7, v8, v9, v10, v11, v12, v13, v14, v15, v16, v17, v18, v19, v20, v21, v22, v23, v24, v25, v26, v27])), (m0, .inl (mc0, 38, .inl nf)), (m1, .inl (mc1, 8, .inl ff))] s.heap := hP
    have hl := lv_entry ([.ref h0, .int 3, .int b]) (n := 3) (Nat.le_of_ble_eq_true rfl)
    rw [lg_entry_eq]
    generalize (lg_sl ([.ref h0, .int 3, .int b]) ++ List.replicate (3 - (lg_sl ([.ref h0, .int 3, .int b])).length) Slot.unset).toArray = ls at hl ⊢
    have hl : lv_has ls 3 [(0, .ref h0), (1, .int 3), (2, .int b)] := hl
    refine lv_iload_n hx hb dX9_held_0 rfl (lv_at hl 1 rfl) ?_
    refine lv_iconst (v := 0) hx hb dX9_held_1 (by decide) ?_
    refine lv_iconst (v := 3) hx hb dX9_held_2 (by decide) ?_
    have hPc := hP.sub (ws' := []) [] rfl
    have hKc := hK.sub (tys' := []) [] rfl
    refine vp_callSi (W.runS (As := [.int 3, .int 0, .int 3]) (rest := []) ⟨hx, hb, hml, hown, hts⟩ (m_within l dC dI ad 3 0 3 ) (va_cwS 3 hts g_y_held_m_within_75 rfl rfl rfl (by decide +kernel) ⟨(Nat.le_of_ble_eq_true rfl), (Nat.le_of_ble_eq_true rfl)⟩) ⟨preS_blind, fun U hU hW => ⟨rfl, preS_at hU hW hPc hKc hev⟩⟩ rfl rfl hl.1 rfl (lv_room (Nat.le_of_ble_eq_true rfl)) dX9_held_3 ⟨(Nat.le_of_ble_eq_true rfl), (Nat.le_of_ble_eq_true rfl)⟩) (fun r_22 hw => ?_)
    have hw := hw.1 (by decide)
    subst hw
    refine lv_if_eq (tgt := 39) hx hb dX9_held_6 (by decide) (fun c => absurd c (by decide)) (fun _ => ?_)
    refine lv_iload_n hx hb dX9_held_9 rfl (lv_at hl 2 rfl) ?_
    refine lv_iconst (v := 0) hx hb dX9_held_10 (by decide) ?_
    refine lv_iconst (v := 1) hx hb dX9_held_11 (by decide) ?_
    have hPc := hP.sub (ws' := []) [] rfl
    have hKc := hK.sub (tys' := []) [] rfl
    refine vp_callSi (W.runS (As := [.int b, .int 0, .int 1]) (rest := []) ⟨hx, hb, hml, hown, hts⟩ (m_within l dC dI ad b 0 1 ) (va_cwS 3 hts g_y_held_m_within_75 rfl rfl rfl (by decide +kernel) ⟨(Nat.le_of_ble_eq_true rfl), (Nat.le_of_ble_eq_true rfl)⟩) ⟨preS_blind, fun U hU hW => ⟨rfl, preS_at hU hW hPc hKc hev⟩⟩ rfl rfl hl.1 rfl (lv_room (Nat.le_of_ble_eq_true rfl)) dX9_held_12 ⟨(Nat.le_of_ble_eq_true rfl), (Nat.le_of_ble_eq_true rfl)⟩) (fun r_23 hw => ?_)
    by_cases c_24 : 0 ≤ b ∧ b ≤ 1
    · skip
      have hw := hw.1 c_24
      subst hw
      refine lv_if_eq (tgt := 39) hx hb dX9_held_15 (by decide) (fun c => absurd c (by decide)) (fun _ => ?_)
      refine lv_aload_n hx hb dX9_held_18 rfl (lv_at hl 0 rfl) ?_
      refine va_get (D := (dC, dI)) (ci := 7) (v := .ref m0) (C := RX9) (T := TX9) (N := 28) hx hb hts inX9 hown hK hP 0 rfl rfl 0 (by decide) (hts _ (List.mem_of_getElem? (i := 11) rfl)) (fun _ h9 => h9) rfl dX9_held_19 ?_
      refine lv_iload_n hx hb dX9_held_22 rfl (lv_at hl 2 rfl) ?_
      refine lv_if_ne (tgt := 31) hx hb dX9_held_23 (by decide) (fun c_25 => ?_) (fun c_25 => ?_)
      · skip
        refine lv_bipush (v := 34) hx hb dX9_held_31 (by decide) ?_
        refine lv_iload_n hx hb dX9_held_33 rfl (lv_at hl 1 rfl) ?_
        refine lv_iadd hx hb dX9_held_34 ?_
        refine pp_ti (y := 37) (by decide) ?_
        refine va_iald hx hb hK hP 1 0 rfl rfl (vp_in_nI (n := 37) (by decide) (by decide)) dX9_held_35 ?_
        refine pp_ti (y := (-1)) ((hnf 37 (by decide)).trans (by decide)) ?_
        refine lv_goto (tgt := 45) hx hb dX9_held_36 (by decide) ?_
        exact W.iret (v := (-1)) hx hb hr (fun t ht hW => ⟨⟨(-1), (), rfl, ⟨(fun h => rfl), (fun g0 => (by first | rfl | (exfalso; simp only [fa_lt, fa_le, fa_eq, and_true, true_and, and_false, false_and, not_true_eq_false, not_false_eq_true, li_0, li_1, li_2, li_3, li_4, li_5, li_6, li_7, li_8, li_9, li_10, li_12, li_15, li_16, li_20, li_30, li_34, li_38, li_40, li_63, li_64, li_65, li_78, li_120, li_1000, li_4000, li_10000, li_11077, li_255, li_65535, li_m1, li_m2, li_m1000000001, li_m1000000002, li_m1000000003, li_m1000000004, li_m1000000005, li_m1000000006, li_m1000000007] at c_24 c_25 g0 <;> omega) | (simp only [fa_lt, fa_le, fa_eq, and_true, true_and, and_false, false_and, not_true_eq_false, not_false_eq_true, li_0, li_1, li_2, li_3, li_4, li_5, li_6, li_7, li_8, li_9, li_10, li_12, li_15, li_16, li_20, li_30, li_34, li_38, li_40, li_63, li_64, li_65, li_78, li_120, li_1000, li_4000, li_10000, li_11077, li_255, li_65535, li_m1, li_m2, li_m1000000001, li_m1000000002, li_m1000000003, li_m1000000004, li_m1000000005, li_m1000000006, li_m1000000007] at c_24 c_25 g0 ⊢ <;> omega)))⟩, trivial⟩, hS.F ht⟩) hS.2.2 dX9_held_45
      · skip
        refine lv_bipush (v := 30) hx hb dX9_held_26 (by decide) ?_
        refine lv_goto (tgt := 33) hx hb dX9_held_28 (by decide) ?_
        refine lv_iload_n hx hb dX9_held_33 rfl (lv_at hl 1 rfl) ?_
        refine lv_iadd hx hb dX9_held_34 ?_
        refine pp_ti (y := 33) (by decide) ?_
        refine va_iald hx hb hK hP 1 0 rfl rfl (vp_in_nI (n := 33) (by decide) (by decide)) dX9_held_35 ?_
        refine pp_ti (y := (-1)) ((hnf 33 (by decide)).trans (by decide)) ?_
        refine lv_goto (tgt := 45) hx hb dX9_held_36 (by decide) ?_
        exact W.iret (v := (-1)) hx hb hr (fun t ht hW => ⟨⟨(-1), (), rfl, ⟨(fun h => rfl), (fun g0 => (by first | rfl | (exfalso; simp only [fa_lt, fa_le, fa_eq, and_true, true_and, and_false, false_and, not_true_eq_false, not_false_eq_true, li_0, li_1, li_2, li_3, li_4, li_5, li_6, li_7, li_8, li_9, li_10, li_12, li_15, li_16, li_20, li_30, li_34, li_38, li_40, li_63, li_64, li_65, li_78, li_120, li_1000, li_4000, li_10000, li_11077, li_255, li_65535, li_m1, li_m2, li_m1000000001, li_m1000000002, li_m1000000003, li_m1000000004, li_m1000000005, li_m1000000006, li_m1000000007] at c_24 c_25 g0 <;> omega) | (simp only [fa_lt, fa_le, fa_eq, and_true, true_and, and_false, false_and, not_true_eq_false, not_false_eq_true, li_0, li_1, li_2, li_3, li_4, li_5, li_6, li_7, li_8, li_9, li_10, li_12, li_15, li_16, li_20, li_30, li_34, li_38, li_40, li_63, li_64, li_65, li_78, li_120, li_1000, li_4000, li_10000, li_11077, li_255, li_65535, li_m1, li_m2, li_m1000000001, li_m1000000002, li_m1000000003, li_m1000000004, li_m1000000005, li_m1000000006, li_m1000000007] at c_24 c_25 g0 ⊢ <;> omega)))⟩, trivial⟩, hS.F ht⟩) hS.2.2 dX9_held_45
    · skip
      have hw := hw.2 c_24
      subst hw
      refine lv_if_eq (tgt := 39) hx hb dX9_held_15 (by decide) (fun _ => ?_) (fun c => absurd (by decide) c)
      refine lv_aload_n hx hb dX9_held_39 rfl (lv_at hl 0 rfl) ?_
      refine lv_ldc hx hb hown (hts _ (List.mem_of_getElem? (i := 5) rfl)) dX9_held_40 ?_
      have hPc := hP.sub (ws' := [(h0, .inr (7, [.ref m0, v1, v2, v3, v4, .ref m1, v6, v7, v8, v9, v10, v11, v12, v13, v14, v15, v16, v17, v18, v19, v20, v21, v22, v23, v24, v25, v26, v27])), (m1, .inl (mc1, 8, .inl ff))]) [0, 2] rfl
      have hKc := hK.sub (tys' := [(mc1, .int)]) [1] rfl
      have hDc := hD.sub (ws' := [(h0, .inr (7, [.ref m0, v1, v2, v3, v4, .ref m1, v6, v7, v8, v9, v10, v11, v12, v13, v14, v15, v16, v17, v18, v19, v20, v21, v22, v23, v24, v25, v26, v27])), (m1, .inl (mc1, 8, .inl ff))]) [0, 2] (by decide) rfl
      have hFc := va_free (wc := [(h0, .inr (7, [.ref m0, v1, v2, v3, v4, .ref m1, v6, v7, v8, v9, v10, v11, v12, v13, v14, v15, v16, v17, v18, v19, v20, v21, v22, v23, v24, v25, v26, v27])), (m1, .inl (mc1, 8, .inl ff))]) hD hS hA [0, 2] rfl
      refine va_calli (va_runV (As := [.int (-1000000001)]) (rest := []) ⟨hx, hb, hml, hown, hts⟩ (m_find_beyond l dC dI ad h0 (.ref m0) v1 v2 v3 v4 m1 v6 v7 v8 v9 v10 v11 v12 v13 v14 v15 v16 v17 v18 v19 v20 v21 v22 v23 v24 v25 v26 v27 mc1 ff s.heap.size ) (cwV 1 hts g_y_held_m_find_beyond_84 rfl rfl rfl (by decide +kernel) ⟨(Nat.le_of_ble_eq_true rfl), (Nat.le_of_ble_eq_true rfl)⟩) ⟨preM_blind, va_recv hKc hPc (ci := 7) (q0 := 0) rfl rfl, fun U hU hW => ⟨rfl, preM_at hU hW hPc hKc hDc hev⟩⟩ rfl rfl hl.1 rfl (lv_room (Nat.le_of_ble_eq_true rfl)) dX9_held_42 ⟨(Nat.le_of_ble_eq_true rfl), (Nat.le_of_ble_eq_true rfl)⟩) hS (fun q _ h => hFc q h) hFc (fun r_26 u t H1 locs ht hvm hw hB hz1 hk1 hS => ?_)
      obtain ⟨hP, hD⟩ := va_join (wr := [(m0, .inl (mc0, 38, .inl nf))]) (w1 := []) hP hD [0, 2] [1] rfl rfl (by decide) (by decide) hk1 hFc nil_P nil_D
      generalize H1 = H at hP hS ⊢
      have hP : va_P (dC, dI) vwCl [(m0, .inl (mc0, 38, .inl nf))] H := hP
      have hD : va_D A [(m0, .inl (mc0, 38, .inl nf))] := hD
      subst hw
      exact W.iret (v := (-1000000001)) hx hb hr (fun t ht hW => ⟨⟨(-1000000001), (), rfl, ⟨(fun h => (by first | rfl | (exfalso; simp only [fa_lt, fa_le, fa_eq, and_true, true_and, and_false, false_and, not_true_eq_false, not_false_eq_true, li_0, li_1, li_2, li_3, li_4, li_5, li_6, li_7, li_8, li_9, li_10, li_12, li_15, li_16, li_20, li_30, li_34, li_38, li_40, li_63, li_64, li_65, li_78, li_120, li_1000, li_4000, li_10000, li_11077, li_255, li_65535, li_m1, li_m2, li_m1000000001, li_m1000000002, li_m1000000003, li_m1000000004, li_m1000000005, li_m1000000006, li_m1000000007] at c_24 h <;> omega) | (simp only [fa_lt, fa_le, fa_eq, and_true, true_and, and_false, false_and, not_true_eq_false, not_false_eq_true, li_0, li_1, li_2, li_3, li_4, li_5, li_6, li_7, li_8, li_9, li_10, li_12, li_15, li_16, li_20, li_30, li_34, li_38, li_40, li_63, li_64, li_65, li_78, li_120, li_1000, li_4000, li_10000, li_11077, li_255, li_65535, li_m1, li_m2, li_m1000000001, li_m1000000002, li_m1000000003, li_m1000000004, li_m1000000005, li_m1000000006, li_m1000000007] at c_24 h ⊢ <;> omega))), (fun g0 => rfl)⟩, trivial⟩, hS.F ht⟩) hS.2.2 dX9_held_45

def w_y_dark : List Cond := .code yX9_dark cX9_dark 1 (some .long) :: (([.methodLink RX9 141 yX9_darkBut, .instanceMethod yX9_darkBut, .selects RX9 yX9_darkBut yX9_darkBut, .initialized RX9, .code yX9_darkBut cX9_darkBut 5 (some .long), .methodLink RX9 137 yX9_shadowIn, .instanceMethod yX9_shadowIn, .selects RX9 yX9_shadowIn yX9_shadowIn, .code yX9_shadowIn cX9_shadowIn 3 (some .long), .fieldLink RX9 9 "LampShapesModel" "now" "[I"] : List Cond) ++ wsX90)
set_option maxRecDepth 20000 in
theorem g_y_dark_m_darkBut_m1_141 : GoodIn w_y_dark (wsV RX9 141 RX9 yX9_darkBut w_m_darkBut_m1) := goodIn_r _ [1, 2, 3, 4, 5, 6, 7, 8, 4, 9, 10, 11, 12, 13, 14, 15, 16, 17, 18, 19, 20, 21, 22, 23, 24, 25, 26, 27, 28, 29, 30, 31, 32, 33, 34, 35, 36, 37, 38] rfl (by decide +kernel)
set_option maxHeartbeats 4000000 in
set_option maxRecDepth 100000 in
theorem y_dark (l : Launch) (dC : Nat → ClassId) (dI : Nat → Nat → Nat) (ad : Nat → Nat) (h0 : Nat) (m0 : Nat) (v1 : Value) (v2 : Value) (v3 : Value) (v4 : Value) (v5 : Value) (v6 : Value) (v7 : Value) (v8 : Value) (v9 : Value) (v10 : Value) (v11 : Value) (v12 : Value) (v13 : Value) (v14 : Value) (v15 : Value) (v16 : Value) (v17 : Value) (v18 : Value) (v19 : Value) (v20 : Value) (v21 : Value) (v22 : Value) (v23 : Value) (v24 : Value) (v25 : Value) (v26 : Value) (v27 : Value) (mc0 : ClassId) (nf : Nat → Int32) (hnf : ∀ j, j < 38 → nf j = fr_n j) : Met l yX9_dark w_y_dark ({ frames := 2, cells := 0, slots := 0, locals := 46 } : Room) (va_Pc [.ref h0] (preS dC dI ad [(mc0, .int)] [(h0, .inr (7, [.ref m0, v1, v2, v3, v4, v5, v6, v7, v8, v9, v10, v11, v12, v13, v14, v15, v16, v17, v18, v19, v20, v21, v22, v23, v24, v25, v26, v27])), (m0, .inl (mc0, 38, .inl nf))])) (vp_Sl (fun r => (r = 0))) 0 0 (fun _ => False) := by
  refine Met.ofW (cc := cX9_dark) (maxL := 1) (ret := (some .long)) (by decide) rfl ?_
  intro p e s m args below meth c s₁ B hml hv
  obtain ⟨rfl, hP, hK, hev⟩ := hv
  have hx := B.exec
  have hb := B.bytes
  have hr := B.returns
  have hts := atoms_spec (ws := w_y_dark) B.pre
  have hown : s.vm.findClass RX9 = some m.cls := findClass_of_methodNamed B.named
  have hlocks := B.notSynchronized
  have inX9 : ∀ w ∈ wsX90, w ∈ w_y_dark := fun w h => List.mem_cons_of_mem _ (List.mem_append_right _ h)
  have hP : va_P (dC, dI) vwCl [(h0, .inr (7, [.ref m0, v1, v2, v3, v4, v5, v6, v7, v8, v9, v10, v11, v12, v13, v14, v15, v16, v17, v18, v19, v20, v21, v22, v23, v24, v25, v26, v27])), (m0, .inl (mc0, 38, .inl nf))] s.heap := hP
  have hl := lv_entry ([.ref h0]) (n := 1) (Nat.le_of_ble_eq_true rfl)
  rw [lg_entry_eq]
  generalize (lg_sl ([.ref h0]) ++ List.replicate (1 - (lg_sl ([.ref h0])).length) Slot.unset).toArray = ls at hl ⊢
  have hl : lv_has ls 1 [(0, .ref h0)] := hl
  refine lv_aload_n hx hb dX9_dark_0 rfl (lv_at hl 0 rfl) ?_
  refine lv_iconst (v := (-1)) hx hb dX9_dark_1 (by decide) ?_
  have hPc := hP.sub (ws' := [(h0, .inr (7, [.ref m0, v1, v2, v3, v4, v5, v6, v7, v8, v9, v10, v11, v12, v13, v14, v15, v16, v17, v18, v19, v20, v21, v22, v23, v24, v25, v26, v27])), (m0, .inl (mc0, 38, .inl nf))]) [0, 1] rfl
  have hKc := hK.sub (tys' := [(mc0, .int)]) [0] rfl
  refine vp_callSl (W.runV (As := [.int (-1)]) (rest := []) ⟨hx, hb, hml, hown, hts⟩ (m_darkBut_m1 l dC dI ad h0 m0 v1 v2 v3 v4 v5 v6 v7 v8 v9 v10 v11 v12 v13 v14 v15 v16 v17 v18 v19 v20 v21 v22 v23 v24 v25 v26 v27 mc0 nf hnf) (cwV 1 hts g_y_dark_m_darkBut_m1_141 rfl rfl rfl (by decide +kernel) ⟨(Nat.le_of_ble_eq_true rfl), (Nat.le_of_ble_eq_true rfl)⟩) ⟨preS_blind, va_recv hKc hPc (ci := 7) (q0 := 0) rfl rfl, fun U hU hW => ⟨rfl, preS_at hU hW hPc hKc hev⟩⟩ rfl rfl hl.1 rfl (lv_room (Nat.le_of_ble_eq_true rfl)) dX9_dark_2 ⟨(Nat.le_of_ble_eq_true rfl), (Nat.le_of_ble_eq_true rfl)⟩) (fun r_1 hw => ?_)
  subst hw
  exact W.lret (v := 0) hx hb hr (fun t ht hW => ⟨0, rfl, rfl, ht⟩) (fun _ h => absurd h List.not_mem_nil) dX9_dark_5

def w_y_single : List Cond := .code yX9_single cX9_single 4 (some .long) :: (([.methodLink RX9 137 yX9_shadowIn, .instanceMethod yX9_shadowIn, .selects RX9 yX9_shadowIn yX9_shadowIn, .initialized RX9, .code yX9_shadowIn cX9_shadowIn 3 (some .long), .fieldLink RX9 9 "LampShapesModel" "now" "[I", .methodLink RX9 141 yX9_darkBut, .instanceMethod yX9_darkBut, .selects RX9 yX9_darkBut yX9_darkBut, .code yX9_darkBut cX9_darkBut 5 (some .long), .constantLong RX9 144 (-1)] : List Cond) ++ wsX90)
set_option maxRecDepth 20000 in
theorem g_y_single_m_shadowIn_0_137 : GoodIn w_y_single (wsV RX9 137 RX9 yX9_shadowIn w_m_shadowIn_0) := goodIn_r _ [1, 2, 3, 4, 5, 6, 12, 13, 14, 15, 16, 17, 18, 19, 20, 21, 22, 23, 24, 25, 26, 27, 28, 29, 30, 31, 32, 33, 34, 35, 36, 37, 38, 39] rfl (by decide +kernel)
set_option maxRecDepth 20000 in
theorem g_y_single_m_darkBut_0_141 : GoodIn w_y_single (wsV RX9 141 RX9 yX9_darkBut w_m_darkBut_0) := goodIn_r _ [7, 8, 9, 4, 10, 1, 2, 3, 4, 5, 6, 12, 13, 14, 15, 16, 17, 18, 19, 20, 21, 22, 23, 24, 25, 26, 27, 28, 29, 30, 31, 32, 33, 34, 35, 36, 37, 38, 39] rfl (by decide +kernel)
set_option maxRecDepth 20000 in
theorem g_y_single_m_shadowIn_1_137 : GoodIn w_y_single (wsV RX9 137 RX9 yX9_shadowIn w_m_shadowIn_1) := goodIn_r _ [1, 2, 3, 4, 5, 6, 12, 13, 14, 15, 16, 17, 18, 19, 20, 21, 22, 23, 24, 25, 26, 27, 28, 29, 30, 31, 32, 33, 34, 35, 36, 37, 38, 39] rfl (by decide +kernel)
set_option maxRecDepth 20000 in
theorem g_y_single_m_darkBut_1_141 : GoodIn w_y_single (wsV RX9 141 RX9 yX9_darkBut w_m_darkBut_1) := goodIn_r _ [7, 8, 9, 4, 10, 1, 2, 3, 4, 5, 6, 12, 13, 14, 15, 16, 17, 18, 19, 20, 21, 22, 23, 24, 25, 26, 27, 28, 29, 30, 31, 32, 33, 34, 35, 36, 37, 38, 39] rfl (by decide +kernel)
set_option maxRecDepth 20000 in
theorem g_y_single_m_shadowIn_2_137 : GoodIn w_y_single (wsV RX9 137 RX9 yX9_shadowIn w_m_shadowIn_2) := goodIn_r _ [1, 2, 3, 4, 5, 6, 12, 13, 14, 15, 16, 17, 18, 19, 20, 21, 22, 23, 24, 25, 26, 27, 28, 29, 30, 31, 32, 33, 34, 35, 36, 37, 38, 39] rfl (by decide +kernel)
set_option maxRecDepth 20000 in
theorem g_y_single_m_darkBut_2_141 : GoodIn w_y_single (wsV RX9 141 RX9 yX9_darkBut w_m_darkBut_2) := goodIn_r _ [7, 8, 9, 4, 10, 1, 2, 3, 4, 5, 6, 12, 13, 14, 15, 16, 17, 18, 19, 20, 21, 22, 23, 24, 25, 26, 27, 28, 29, 30, 31, 32, 33, 34, 35, 36, 37, 38, 39] rfl (by decide +kernel)
set_option maxRecDepth 20000 in
theorem g_y_single_m_shadowIn_3_137 : GoodIn w_y_single (wsV RX9 137 RX9 yX9_shadowIn w_m_shadowIn_3) := goodIn_r _ [1, 2, 3, 4, 5, 6, 12, 13, 14, 15, 16, 17, 18, 19, 20, 21, 22, 23, 24, 25, 26, 27, 28, 29, 30, 31, 32, 33, 34, 35, 36, 37, 38, 39] rfl (by decide +kernel)
set_option maxRecDepth 20000 in
theorem g_y_single_m_darkBut_3_141 : GoodIn w_y_single (wsV RX9 141 RX9 yX9_darkBut w_m_darkBut_3) := goodIn_r _ [7, 8, 9, 4, 10, 1, 2, 3, 4, 5, 6, 12, 13, 14, 15, 16, 17, 18, 19, 20, 21, 22, 23, 24, 25, 26, 27, 28, 29, 30, 31, 32, 33, 34, 35, 36, 37, 38, 39] rfl (by decide +kernel)
set_option maxHeartbeats 4000000 in
set_option maxRecDepth 100000 in
theorem y_single (l : Launch) (dC : Nat → ClassId) (dI : Nat → Nat → Nat) (ad : Nat → Nat) (h0 : Nat) (m0 : Nat) (v1 : Value) (v2 : Value) (v3 : Value) (v4 : Value) (v5 : Value) (v6 : Value) (v7 : Value) (v8 : Value) (v9 : Value) (v10 : Value) (v11 : Value) (v12 : Value) (v13 : Value) (v14 : Value) (v15 : Value) (v16 : Value) (v17 : Value) (v18 : Value) (v19 : Value) (v20 : Value) (v21 : Value) (v22 : Value) (v23 : Value) (v24 : Value) (v25 : Value) (v26 : Value) (v27 : Value) (mc0 : ClassId) (nf : Nat → Int32) (hnf : ∀ j, j < 38 → nf j = fr_n j) : Met l yX9_single w_y_single ({ frames := 2, cells := 0, slots := 0, locals := 46 } : Room) (va_Pc [.ref h0] (preS dC dI ad [(mc0, .int)] [(h0, .inr (7, [.ref m0, v1, v2, v3, v4, v5, v6, v7, v8, v9, v10, v11, v12, v13, v14, v15, v16, v17, v18, v19, v20, v21, v22, v23, v24, v25, v26, v27])), (m0, .inl (mc0, 38, .inl nf))])) (vp_Sl (fun r => (r = 0))) 0 0 (fun _ => False) := by
  refine Met.ofW (cc := cX9_single) (maxL := 4) (ret := (some .long)) (by decide) rfl ?_
  intro p e s m args below meth c s₁ B hml hv
  obtain ⟨rfl, hP, hK, hev⟩ := hv
  have hx := B.exec
  have hb := B.bytes
  have hr := B.returns
  have hts := atoms_spec (ws := w_y_single) B.pre
  have hown : s.vm.findClass RX9 = some m.cls := findClass_of_methodNamed B.named
  have hlocks := B.notSynchronized
  have inX9 : ∀ w ∈ wsX90, w ∈ w_y_single := fun w h => List.mem_cons_of_mem _ (List.mem_append_right _ h)
  have hP : va_P (dC, dI) vwCl [(h0, .inr (7, [.ref m0, v1, v2, v3, v4, v5, v6, v7, v8, v9, v10, v11, v12, v13, v14, v15, v16, v17, v18, v19, v20, v21, v22, v23, v24, v25, v26, v27])), (m0, .inl (mc0, 38, .inl nf))] s.heap := hP
  have hl := lv_entry ([.ref h0]) (n := 4) (Nat.le_of_ble_eq_true rfl)
  rw [lg_entry_eq]
  generalize (lg_sl ([.ref h0]) ++ List.replicate (4 - (lg_sl ([.ref h0])).length) Slot.unset).toArray = ls at hl ⊢
  have hl : lv_has ls 4 [(0, .ref h0)] := hl
  refine lv_lconst (v := 0) hx hb dX9_single_0 (by decide) ?_
  refine lv_lstore_n (lv' := [(1, .long 0), (0, .ref h0)]) hx hb dX9_single_1 rfl hl (by decide) rfl (fun ls hl => ?_)
  refine lv_iconst (v := 0) hx hb dX9_single_2 (by decide) ?_
  refine lv_istore_n (lv' := [(3, .int 0), (1, .long 0), (0, .ref h0)]) hx hb dX9_single_3 rfl hl (by decide) rfl (fun ls hl => ?_)
  refine lv_iload_n hx hb dX9_single_4 rfl (lv_at hl 0 rfl) ?_
  refine lv_iconst (v := 4) hx hb dX9_single_5 (by decide) ?_
  refine lv_icmp_ge (tgt := 33) hx hb dX9_single_6 (by decide) (fun c => absurd c (by decide)) (fun _ => ?_)
  refine lv_lload_n hx hb dX9_single_9 rfl (lv_at hl 1 rfl) ?_
  refine lv_aload_n hx hb dX9_single_10 rfl (lv_at hl 2 rfl) ?_
  refine lv_iload_n hx hb dX9_single_11 rfl (lv_at hl 0 rfl) ?_
  have hPc := hP.sub (ws' := [(h0, .inr (7, [.ref m0, v1, v2, v3, v4, v5, v6, v7, v8, v9, v10, v11, v12, v13, v14, v15, v16, v17, v18, v19, v20, v21, v22, v23, v24, v25, v26, v27])), (m0, .inl (mc0, 38, .inl nf))]) [0, 1] rfl
  have hKc := hK.sub (tys' := [(mc0, .int)]) [0] rfl
  refine vp_callSl (W.runV (As := [.int 0]) (rest := [.long 0]) ⟨hx, hb, hml, hown, hts⟩ (m_shadowIn_0 l dC dI ad h0 m0 v1 v2 v3 v4 v5 v6 v7 v8 v9 v10 v11 v12 v13 v14 v15 v16 v17 v18 v19 v20 v21 v22 v23 v24 v25 v26 v27 mc0 nf hnf) (cwV 1 hts g_y_single_m_shadowIn_0_137 rfl rfl rfl (by decide +kernel) ⟨(Nat.le_of_ble_eq_true rfl), (Nat.le_of_ble_eq_true rfl)⟩) ⟨preS_blind, va_recv hKc hPc (ci := 7) (q0 := 0) rfl rfl, fun U hU hW => ⟨rfl, preS_at hU hW hPc hKc hev⟩⟩ rfl rfl hl.1 rfl (lv_room (Nat.le_of_ble_eq_true rfl)) dX9_single_12 ⟨(Nat.le_of_ble_eq_true rfl), (Nat.le_of_ble_eq_true rfl)⟩) (fun r_1 hw => ?_)
  subst hw
  refine lv_aload_n hx hb dX9_single_15 rfl (lv_at hl 2 rfl) ?_
  refine lv_iload_n hx hb dX9_single_16 rfl (lv_at hl 0 rfl) ?_
  have hPc := hP.sub (ws' := [(h0, .inr (7, [.ref m0, v1, v2, v3, v4, v5, v6, v7, v8, v9, v10, v11, v12, v13, v14, v15, v16, v17, v18, v19, v20, v21, v22, v23, v24, v25, v26, v27])), (m0, .inl (mc0, 38, .inl nf))]) [0, 1] rfl
  have hKc := hK.sub (tys' := [(mc0, .int)]) [0] rfl
  refine vp_callSl (W.runV (As := [.int 0]) (rest := [.long 0, .long 0]) ⟨hx, hb, hml, hown, hts⟩ (m_darkBut_0 l dC dI ad h0 m0 v1 v2 v3 v4 v5 v6 v7 v8 v9 v10 v11 v12 v13 v14 v15 v16 v17 v18 v19 v20 v21 v22 v23 v24 v25 v26 v27 mc0 nf hnf) (cwV 1 hts g_y_single_m_darkBut_0_141 rfl rfl rfl (by decide +kernel) ⟨(Nat.le_of_ble_eq_true rfl), (Nat.le_of_ble_eq_true rfl)⟩) ⟨preS_blind, va_recv hKc hPc (ci := 7) (q0 := 0) rfl rfl, fun U hU hW => ⟨rfl, preS_at hU hW hPc hKc hev⟩⟩ rfl rfl hl.1 rfl (lv_room (Nat.le_of_ble_eq_true rfl)) dX9_single_17 ⟨(Nat.le_of_ble_eq_true rfl), (Nat.le_of_ble_eq_true rfl)⟩) (fun r_2 hw => ?_)
  subst hw
  refine lv_ldc2 hx hb hown (hts _ (List.mem_of_getElem? (i := 11) rfl)) dX9_single_20 ?_
  refine lv_lxor hx hb dX9_single_23 ?_
  refine pp_tl (y := (-1)) (by decide) ?_
  refine lv_land hx hb dX9_single_24 ?_
  refine pp_tl (y := 0) (by decide) ?_
  refine lv_lor hx hb dX9_single_25 ?_
  refine pp_tl (y := 0) (by decide) ?_
  refine lv_lstore_n (lv' := [(1, .long 0), (3, .int 0), (0, .ref h0)]) hx hb dX9_single_26 rfl hl (by decide) rfl (fun ls hl => ?_)
  refine lv_iinc (v := 1) (lv' := [(3, .int 1), (1, .long 0), (0, .ref h0)]) hx hb dX9_single_27 hl (k := 1) rfl (by decide) (by decide) rfl (fun ls hl => ?_)
  refine lv_goto (tgt := 4) hx hb dX9_single_30 (by decide) ?_
  refine lv_iload_n hx hb dX9_single_4 rfl (lv_at hl 0 rfl) ?_
  refine lv_iconst (v := 4) hx hb dX9_single_5 (by decide) ?_
  refine lv_icmp_ge (tgt := 33) hx hb dX9_single_6 (by decide) (fun c => absurd c (by decide)) (fun _ => ?_)
  refine lv_lload_n hx hb dX9_single_9 rfl (lv_at hl 1 rfl) ?_
  refine lv_aload_n hx hb dX9_single_10 rfl (lv_at hl 2 rfl) ?_
  refine lv_iload_n hx hb dX9_single_11 rfl (lv_at hl 0 rfl) ?_
  have hPc := hP.sub (ws' := [(h0, .inr (7, [.ref m0, v1, v2, v3, v4, v5, v6, v7, v8, v9, v10, v11, v12, v13, v14, v15, v16, v17, v18, v19, v20, v21, v22, v23, v24, v25, v26, v27])), (m0, .inl (mc0, 38, .inl nf))]) [0, 1] rfl
  have hKc := hK.sub (tys' := [(mc0, .int)]) [0] rfl
  refine vp_callSl (W.runV (As := [.int 1]) (rest := [.long 0]) ⟨hx, hb, hml, hown, hts⟩ (m_shadowIn_1 l dC dI ad h0 m0 v1 v2 v3 v4 v5 v6 v7 v8 v9 v10 v11 v12 v13 v14 v15 v16 v17 v18 v19 v20 v21 v22 v23 v24 v25 v26 v27 mc0 nf hnf) (cwV 1 hts g_y_single_m_shadowIn_1_137 rfl rfl rfl (by decide +kernel) ⟨(Nat.le_of_ble_eq_true rfl), (Nat.le_of_ble_eq_true rfl)⟩) ⟨preS_blind, va_recv hKc hPc (ci := 7) (q0 := 0) rfl rfl, fun U hU hW => ⟨rfl, preS_at hU hW hPc hKc hev⟩⟩ rfl rfl hl.1 rfl (lv_room (Nat.le_of_ble_eq_true rfl)) dX9_single_12 ⟨(Nat.le_of_ble_eq_true rfl), (Nat.le_of_ble_eq_true rfl)⟩) (fun r_3 hw => ?_)
  subst hw
  refine lv_aload_n hx hb dX9_single_15 rfl (lv_at hl 2 rfl) ?_
  refine lv_iload_n hx hb dX9_single_16 rfl (lv_at hl 0 rfl) ?_
  have hPc := hP.sub (ws' := [(h0, .inr (7, [.ref m0, v1, v2, v3, v4, v5, v6, v7, v8, v9, v10, v11, v12, v13, v14, v15, v16, v17, v18, v19, v20, v21, v22, v23, v24, v25, v26, v27])), (m0, .inl (mc0, 38, .inl nf))]) [0, 1] rfl
  have hKc := hK.sub (tys' := [(mc0, .int)]) [0] rfl
  refine vp_callSl (W.runV (As := [.int 1]) (rest := [.long 0, .long 0]) ⟨hx, hb, hml, hown, hts⟩ (m_darkBut_1 l dC dI ad h0 m0 v1 v2 v3 v4 v5 v6 v7 v8 v9 v10 v11 v12 v13 v14 v15 v16 v17 v18 v19 v20 v21 v22 v23 v24 v25 v26 v27 mc0 nf hnf) (cwV 1 hts g_y_single_m_darkBut_1_141 rfl rfl rfl (by decide +kernel) ⟨(Nat.le_of_ble_eq_true rfl), (Nat.le_of_ble_eq_true rfl)⟩) ⟨preS_blind, va_recv hKc hPc (ci := 7) (q0 := 0) rfl rfl, fun U hU hW => ⟨rfl, preS_at hU hW hPc hKc hev⟩⟩ rfl rfl hl.1 rfl (lv_room (Nat.le_of_ble_eq_true rfl)) dX9_single_17 ⟨(Nat.le_of_ble_eq_true rfl), (Nat.le_of_ble_eq_true rfl)⟩) (fun r_4 hw => ?_)
  subst hw
  refine lv_ldc2 hx hb hown (hts _ (List.mem_of_getElem? (i := 11) rfl)) dX9_single_20 ?_
  refine lv_lxor hx hb dX9_single_23 ?_
  refine pp_tl (y := (-1)) (by decide) ?_
  refine lv_land hx hb dX9_single_24 ?_
  refine pp_tl (y := 0) (by decide) ?_
  refine lv_lor hx hb dX9_single_25 ?_
  refine pp_tl (y := 0) (by decide) ?_
  refine lv_lstore_n (lv' := [(1, .long 0), (3, .int 1), (0, .ref h0)]) hx hb dX9_single_26 rfl hl (by decide) rfl (fun ls hl => ?_)
  refine lv_iinc (v := 2) (lv' := [(3, .int 2), (1, .long 0), (0, .ref h0)]) hx hb dX9_single_27 hl (k := 1) rfl (by decide) (by decide) rfl (fun ls hl => ?_)
  refine lv_goto (tgt := 4) hx hb dX9_single_30 (by decide) ?_
  refine lv_iload_n hx hb dX9_single_4 rfl (lv_at hl 0 rfl) ?_
  refine lv_iconst (v := 4) hx hb dX9_single_5 (by decide) ?_
  refine lv_icmp_ge (tgt := 33) hx hb dX9_single_6 (by decide) (fun c => absurd c (by decide)) (fun _ => ?_)
  refine lv_lload_n hx hb dX9_single_9 rfl (lv_at hl 1 rfl) ?_
  refine lv_aload_n hx hb dX9_single_10 rfl (lv_at hl 2 rfl) ?_
  refine lv_iload_n hx hb dX9_single_11 rfl (lv_at hl 0 rfl) ?_
  have hPc := hP.sub (ws' := [(h0, .inr (7, [.ref m0, v1, v2, v3, v4, v5, v6, v7, v8, v9, v10, v11, v12, v13, v14, v15, v16, v17, v18, v19, v20, v21, v22, v23, v24, v25, v26, v27])), (m0, .inl (mc0, 38, .inl nf))]) [0, 1] rfl
  have hKc := hK.sub (tys' := [(mc0, .int)]) [0] rfl
  refine vp_callSl (W.runV (As := [.int 2]) (rest := [.long 0]) ⟨hx, hb, hml, hown, hts⟩ (m_shadowIn_2 l dC dI ad h0 m0 v1 v2 v3 v4 v5 v6 v7 v8 v9 v10 v11 v12 v13 v14 v15 v16 v17 v18 v19 v20 v21 v22 v23 v24 v25 v26 v27 mc0 nf hnf) (cwV 1 hts g_y_single_m_shadowIn_2_137 rfl rfl rfl (by decide +kernel) ⟨(Nat.le_of_ble_eq_true rfl), (Nat.le_of_ble_eq_true rfl)⟩) ⟨preS_blind, va_recv hKc hPc (ci := 7) (q0 := 0) rfl rfl, fun U hU hW => ⟨rfl, preS_at hU hW hPc hKc hev⟩⟩ rfl rfl hl.1 rfl (lv_room (Nat.le_of_ble_eq_true rfl)) dX9_single_12 ⟨(Nat.le_of_ble_eq_true rfl), (Nat.le_of_ble_eq_true rfl)⟩) (fun r_5 hw => ?_)
  subst hw
  refine lv_aload_n hx hb dX9_single_15 rfl (lv_at hl 2 rfl) ?_
  refine lv_iload_n hx hb dX9_single_16 rfl (lv_at hl 0 rfl) ?_
  have hPc := hP.sub (ws' := [(h0, .inr (7, [.ref m0, v1, v2, v3, v4, v5, v6, v7, v8, v9, v10, v11, v12, v13, v14, v15, v16, v17, v18, v19, v20, v21, v22, v23, v24, v25, v26, v27])), (m0, .inl (mc0, 38, .inl nf))]) [0, 1] rfl
  have hKc := hK.sub (tys' := [(mc0, .int)]) [0] rfl
  refine vp_callSl (W.runV (As := [.int 2]) (rest := [.long 0, .long 0]) ⟨hx, hb, hml, hown, hts⟩ (m_darkBut_2 l dC dI ad h0 m0 v1 v2 v3 v4 v5 v6 v7 v8 v9 v10 v11 v12 v13 v14 v15 v16 v17 v18 v19 v20 v21 v22 v23 v24 v25 v26 v27 mc0 nf hnf) (cwV 1 hts g_y_single_m_darkBut_2_141 rfl rfl rfl (by decide +kernel) ⟨(Nat.le_of_ble_eq_true rfl), (Nat.le_of_ble_eq_true rfl)⟩) ⟨preS_blind, va_recv hKc hPc (ci := 7) (q0 := 0) rfl rfl, fun U hU hW => ⟨rfl, preS_at hU hW hPc hKc hev⟩⟩ rfl rfl hl.1 rfl (lv_room (Nat.le_of_ble_eq_true rfl)) dX9_single_17 ⟨(Nat.le_of_ble_eq_true rfl), (Nat.le_of_ble_eq_true rfl)⟩) (fun r_6 hw => ?_)
  subst hw
  refine lv_ldc2 hx hb hown (hts _ (List.mem_of_getElem? (i := 11) rfl)) dX9_single_20 ?_
  refine lv_lxor hx hb dX9_single_23 ?_
  refine pp_tl (y := (-1)) (by decide) ?_
  refine lv_land hx hb dX9_single_24 ?_
  refine pp_tl (y := 0) (by decide) ?_
  refine lv_lor hx hb dX9_single_25 ?_
  refine pp_tl (y := 0) (by decide) ?_
  refine lv_lstore_n (lv' := [(1, .long 0), (3, .int 2), (0, .ref h0)]) hx hb dX9_single_26 rfl hl (by decide) rfl (fun ls hl => ?_)
  refine lv_iinc (v := 3) (lv' := [(3, .int 3), (1, .long 0), (0, .ref h0)]) hx hb dX9_single_27 hl (k := 1) rfl (by decide) (by decide) rfl (fun ls hl => ?_)
  refine lv_goto (tgt := 4) hx hb dX9_single_30 (by decide) ?_
  refine lv_iload_n hx hb dX9_single_4 rfl (lv_at hl 0 rfl) ?_
  refine lv_iconst (v := 4) hx hb dX9_single_5 (by decide) ?_
  refine lv_icmp_ge (tgt := 33) hx hb dX9_single_6 (by decide) (fun c => absurd c (by decide)) (fun _ => ?_)
  refine lv_lload_n hx hb dX9_single_9 rfl (lv_at hl 1 rfl) ?_
  refine lv_aload_n hx hb dX9_single_10 rfl (lv_at hl 2 rfl) ?_
  refine lv_iload_n hx hb dX9_single_11 rfl (lv_at hl 0 rfl) ?_
  have hPc := hP.sub (ws' := [(h0, .inr (7, [.ref m0, v1, v2, v3, v4, v5, v6, v7, v8, v9, v10, v11, v12, v13, v14, v15, v16, v17, v18, v19, v20, v21, v22, v23, v24, v25, v26, v27])), (m0, .inl (mc0, 38, .inl nf))]) [0, 1] rfl
  have hKc := hK.sub (tys' := [(mc0, .int)]) [0] rfl
  refine vp_callSl (W.runV (As := [.int 3]) (rest := [.long 0]) ⟨hx, hb, hml, hown, hts⟩ (m_shadowIn_3 l dC dI ad h0 m0 v1 v2 v3 v4 v5 v6 v7 v8 v9 v10 v11 v12 v13 v14 v15 v16 v17 v18 v19 v20 v21 v22 v23 v24 v25 v26 v27 mc0 nf hnf) (cwV 1 hts g_y_single_m_shadowIn_3_137 rfl rfl rfl (by decide +kernel) ⟨(Nat.le_of_ble_eq_true rfl), (Nat.le_of_ble_eq_true rfl)⟩) ⟨preS_blind, va_recv hKc hPc (ci := 7) (q0 := 0) rfl rfl, fun U hU hW => ⟨rfl, preS_at hU hW hPc hKc hev⟩⟩ rfl rfl hl.1 rfl (lv_room (Nat.le_of_ble_eq_true rfl)) dX9_single_12 ⟨(Nat.le_of_ble_eq_true rfl), (Nat.le_of_ble_eq_true rfl)⟩) (fun r_7 hw => ?_)
  subst hw
  refine lv_aload_n hx hb dX9_single_15 rfl (lv_at hl 2 rfl) ?_
  refine lv_iload_n hx hb dX9_single_16 rfl (lv_at hl 0 rfl) ?_
  have hPc := hP.sub (ws' := [(h0, .inr (7, [.ref m0, v1, v2, v3, v4, v5, v6, v7, v8, v9, v10, v11, v12, v13, v14, v15, v16, v17, v18, v19, v20, v21, v22, v23, v24, v25, v26, v27])), (m0, .inl (mc0, 38, .inl nf))]) [0, 1] rfl
  have hKc := hK.sub (tys' := [(mc0, .int)]) [0] rfl
  refine vp_callSl (W.runV (As := [.int 3]) (rest := [.long 0, .long 0]) ⟨hx, hb, hml, hown, hts⟩ (m_darkBut_3 l dC dI ad h0 m0 v1 v2 v3 v4 v5 v6 v7 v8 v9 v10 v11 v12 v13 v14 v15 v16 v17 v18 v19 v20 v21 v22 v23 v24 v25 v26 v27 mc0 nf hnf) (cwV 1 hts g_y_single_m_darkBut_3_141 rfl rfl rfl (by decide +kernel) ⟨(Nat.le_of_ble_eq_true rfl), (Nat.le_of_ble_eq_true rfl)⟩) ⟨preS_blind, va_recv hKc hPc (ci := 7) (q0 := 0) rfl rfl, fun U hU hW => ⟨rfl, preS_at hU hW hPc hKc hev⟩⟩ rfl rfl hl.1 rfl (lv_room (Nat.le_of_ble_eq_true rfl)) dX9_single_17 ⟨(Nat.le_of_ble_eq_true rfl), (Nat.le_of_ble_eq_true rfl)⟩) (fun r_8 hw => ?_)
  subst hw
  refine lv_ldc2 hx hb hown (hts _ (List.mem_of_getElem? (i := 11) rfl)) dX9_single_20 ?_
  refine lv_lxor hx hb dX9_single_23 ?_
  refine pp_tl (y := (-1)) (by decide) ?_
  refine lv_land hx hb dX9_single_24 ?_
  refine pp_tl (y := 0) (by decide) ?_
  refine lv_lor hx hb dX9_single_25 ?_
  refine pp_tl (y := 0) (by decide) ?_
  refine lv_lstore_n (lv' := [(1, .long 0), (3, .int 3), (0, .ref h0)]) hx hb dX9_single_26 rfl hl (by decide) rfl (fun ls hl => ?_)
  refine lv_iinc (v := 4) (lv' := [(3, .int 4), (1, .long 0), (0, .ref h0)]) hx hb dX9_single_27 hl (k := 1) rfl (by decide) (by decide) rfl (fun ls hl => ?_)
  refine lv_goto (tgt := 4) hx hb dX9_single_30 (by decide) ?_
  refine lv_iload_n hx hb dX9_single_4 rfl (lv_at hl 0 rfl) ?_
  refine lv_iconst (v := 4) hx hb dX9_single_5 (by decide) ?_
  refine lv_icmp_ge (tgt := 33) hx hb dX9_single_6 (by decide) (fun _ => ?_) (fun c => absurd (by decide) c)
  refine lv_lload_n hx hb dX9_single_33 rfl (lv_at hl 1 rfl) ?_
  exact W.lret (v := 0) hx hb hr (fun t ht hW => ⟨0, rfl, rfl, ht⟩) (fun _ h => absurd h List.not_mem_nil) dX9_single_34

def w_y_spare : List Cond := .code yX9_spare cX9_spare 5 (some .int) :: (([.methodLink RX9 146 yX9_dark, .instanceMethod yX9_dark, .selects RX9 yX9_dark yX9_dark, .initialized RX9, .code yX9_dark cX9_dark 1 (some .long), .methodLink RX9 141 yX9_darkBut, .instanceMethod yX9_darkBut, .selects RX9 yX9_darkBut yX9_darkBut, .code yX9_darkBut cX9_darkBut 5 (some .long), .methodLink RX9 137 yX9_shadowIn, .instanceMethod yX9_shadowIn, .selects RX9 yX9_shadowIn yX9_shadowIn, .code yX9_shadowIn cX9_shadowIn 3 (some .long), .fieldLink RX9 9 "LampShapesModel" "now" "[I", .constant RX9 150 (-1000000004), .methodLink RX9 84 yX9_finding, .instanceMethod yX9_finding, .selects RX9 yX9_finding yX9_finding, .code yX9_finding cX9_finding 2 (some .int), .fieldLink RX9 23 "LampShapesModel" "found" "[I", .constant RX9 74 (-1000000001)] : List Cond) ++ wsX90)
set_option maxRecDepth 20000 in
theorem g_y_spare_y_dark_146 : GoodIn w_y_spare (wsV RX9 146 RX9 yX9_dark w_y_dark) := goodIn_r _ [1, 2, 3, 4, 5, 6, 7, 8, 4, 9, 10, 11, 12, 13, 14, 22, 23, 24, 25, 26, 27, 28, 29, 30, 31, 32, 33, 34, 35, 36, 37, 38, 39, 40, 41, 42, 43, 44, 45, 46, 47, 48, 49] rfl (by decide +kernel)
set_option maxRecDepth 20000 in
theorem g_y_spare_m_find_none_84 : GoodIn w_y_spare (wsV RX9 84 RX9 yX9_finding w_m_find_none) := goodIn_r _ [16, 17, 18, 4, 19, 20, 21, 22, 23, 24, 25, 26, 27, 28, 29, 30, 31, 32, 33, 34, 35, 36, 37, 38, 39, 40, 41, 42, 43, 44, 45, 46, 47, 48, 49] rfl (by decide +kernel)
set_option maxHeartbeats 4000000 in
set_option maxRecDepth 100000 in
theorem y_spare (l : Launch) (dC : Nat → ClassId) (dI : Nat → Nat → Nat) (ad : Nat → Nat) (h0 : Nat) (m0 : Nat) (v1 : Value) (v2 : Value) (v3 : Value) (v4 : Value) (m1 : Nat) (v6 : Value) (v7 : Value) (v8 : Value) (v9 : Value) (v10 : Value) (v11 : Value) (v12 : Value) (v13 : Value) (v14 : Value) (v15 : Value) (v16 : Value) (v17 : Value) (v18 : Value) (v19 : Value) (v20 : Value) (v21 : Value) (v22 : Value) (v23 : Value) (v24 : Value) (v25 : Value) (v26 : Value) (v27 : Value) (mc0 : ClassId) (nf : Nat → Int32) (mc1 : ClassId) (ff : Nat → Int32) (sz : Nat) (hnf : ∀ j, j < 38 → nf j = fr_n j) : Met l yX9_spare w_y_spare ({ frames := 3, cells := 0, slots := 0, locals := 66 } : Room) (va_Pc [.ref h0] (preM dC dI ad [(mc0, .int), (mc1, .int)] [(h0, .inr (7, [.ref m0, v1, v2, v3, v4, .ref m1, v6, v7, v8, v9, v10, v11, v12, v13, v14, v15, v16, v17, v18, v19, v20, v21, v22, v23, v24, v25, v26, v27])), (m0, .inl (mc0, 38, .inl nf)), (m1, .inl (mc1, 8, .inl ff))] sz)) (va_Qi (fun (r : Int32) (_ : Unit) => (r = (-1000000004))) (fun _ _ => True) (va_A [(h0, .inr (7, [.ref m0, v1, v2, v3, v4, .ref m1, v6, v7, v8, v9, v10, v11, v12, v13, v14, v15, v16, v17, v18, v19, v20, v21, v22, v23, v24, v25, v26, v27])), (m0, .inl (mc0, 38, .inl nf)), (m1, .inl (mc1, 8, .inl ff))] sz)) 0 0 (va_A [(h0, .inr (7, [.ref m0, v1, v2, v3, v4, .ref m1, v6, v7, v8, v9, v10, v11, v12, v13, v14, v15, v16, v17, v18, v19, v20, v21, v22, v23, v24, v25, v26, v27])), (m0, .inl (mc0, 38, .inl nf)), (m1, .inl (mc1, 8, .inl ff))] sz) := by
  refine Met.ofW (cc := cX9_spare) (maxL := 5) (ret := (some .int)) (by decide) rfl ?_
  intro p e s m args below meth c s₁ B hml hv
  obtain ⟨rfl, hsz, hP, hK, hD0, hev⟩ := hv
  have hx := B.exec
  have hb := B.bytes
  have hr := B.returns
  have hts := atoms_spec (ws := w_y_spare) B.pre
  have hown : s.vm.findClass RX9 = some m.cls := findClass_of_methodNamed B.named
  have hlocks := B.notSynchronized
  have inX9 : ∀ w ∈ wsX90, w ∈ w_y_spare := fun w h => List.mem_cons_of_mem _ (List.mem_append_right _ h)
  subst hsz
  have hD := hD0.self (sz := s.heap.size)
  generalize hAe : va_A [(h0, .inr (7, [.ref m0, v1, v2, v3, v4, .ref m1, v6, v7, v8, v9, v10, v11, v12, v13, v14, v15, v16, v17, v18, v19, v20, v21, v22, v23, v24, v25, v26, v27])), (m0, .inl (mc0, 38, .inl nf)), (m1, .inl (mc1, 8, .inl ff))] s.heap.size = A at hD ⊢
  have hA : ∀ q : Nat, s.heap.size ≤ q → A q := fun q h => by rw [← hAe]; exact Or.inr h
  have hS : va_S A s.heap s.heap [] := va_S.rf
  have hP : va_P (dC, dI) vwCl [(h0, .inr (7, [.ref m0, v1, v2, v3, v4, .ref m1, v6, v7, v8, v9, v10, v11, v12, v13, v14, v15, v16, v17, v18, v19, v20, v21, v22, v23, v24, v25, v26, v27])), (m0, .inl (mc0, 38, .inl nf)), (m1, .inl (mc1, 8, .inl ff))] s.heap := hP
  have hl := lv_entry ([.ref h0]) (n := 5) (Nat.le_of_ble_eq_true rfl)
  rw [lg_entry_eq]
  generalize (lg_sl ([.ref h0]) ++ List.replicate (5 - (lg_sl ([.ref h0])).length) Slot.unset).toArray = ls at hl ⊢
  have hl : lv_has ls 5 [(0, .ref h0)] := hl
  refine lv_aload_n hx hb dX9_spare_0 rfl (lv_at hl 0 rfl) ?_
  have hPc := hP.sub (ws' := [(h0, .inr (7, [.ref m0, v1, v2, v3, v4, .ref m1, v6, v7, v8, v9, v10, v11, v12, v13, v14, v15, v16, v17, v18, v19, v20, v21, v22, v23, v24, v25, v26, v27])), (m0, .inl (mc0, 38, .inl nf))]) [0, 1] rfl
  have hKc := hK.sub (tys' := [(mc0, .int)]) [0] rfl
  refine vp_callSl (W.runV (As := []) (rest := []) ⟨hx, hb, hml, hown, hts⟩ (y_dark l dC dI ad h0 m0 v1 v2 v3 v4 (.ref m1) v6 v7 v8 v9 v10 v11 v12 v13 v14 v15 v16 v17 v18 v19 v20 v21 v22 v23 v24 v25 v26 v27 mc0 nf hnf) (cwV 0 hts g_y_spare_y_dark_146 rfl rfl rfl (by decide +kernel) ⟨(Nat.le_of_ble_eq_true rfl), (Nat.le_of_ble_eq_true rfl)⟩) ⟨preS_blind, va_recv hKc hPc (ci := 7) (q0 := 0) rfl rfl, fun U hU hW => ⟨rfl, preS_at hU hW hPc hKc hev⟩⟩ rfl rfl hl.1 rfl (lv_room (Nat.le_of_ble_eq_true rfl)) dX9_spare_1 ⟨(Nat.le_of_ble_eq_true rfl), (Nat.le_of_ble_eq_true rfl)⟩) (fun r_1 hw => ?_)
  subst hw
  refine lv_lstore_n (lv' := [(1, .long 0), (0, .ref h0)]) hx hb dX9_spare_4 rfl hl (by decide) rfl (fun ls hl => ?_)
  refine lv_iconst (v := 0) hx hb dX9_spare_5 (by decide) ?_
  refine lv_istore_n (lv' := [(3, .int 0), (1, .long 0), (0, .ref h0)]) hx hb dX9_spare_6 rfl hl (by decide) rfl (fun ls hl => ?_)
  refine lv_iload_n hx hb dX9_spare_7 rfl (lv_at hl 0 rfl) ?_
  refine lv_aload_n hx hb dX9_spare_8 rfl (lv_at hl 2 rfl) ?_
  refine va_get (D := (dC, dI)) (ci := 7) (v := .ref m0) (C := RX9) (T := TX9) (N := 28) hx hb hts inX9 hown hK hP 0 rfl rfl 0 (by decide) (hts _ (List.mem_of_getElem? (i := 14) rfl)) (fun _ h9 => h9) rfl dX9_spare_9 ?_
  refine lv_iconst (v := 0) hx hb dX9_spare_12 (by decide) ?_
  refine va_iald hx hb hK hP 1 0 rfl rfl (vp_in_nI (n := 0) (by decide) (by decide)) dX9_spare_13 ?_
  refine pp_ti (y := 0) ((hnf 0 (by decide)).trans (by decide)) ?_
  refine lv_icmp_ge (tgt := 57) hx hb dX9_spare_14 (by decide) (fun _ => ?_) (fun c => absurd (by decide) c)
  refine lv_aload_n hx hb dX9_spare_57 rfl (lv_at hl 2 rfl) ?_
  refine lv_ldc hx hb hown (hts _ (List.mem_of_getElem? (i := 15) rfl)) dX9_spare_58 ?_
  have hPc := hP.sub (ws' := [(h0, .inr (7, [.ref m0, v1, v2, v3, v4, .ref m1, v6, v7, v8, v9, v10, v11, v12, v13, v14, v15, v16, v17, v18, v19, v20, v21, v22, v23, v24, v25, v26, v27])), (m1, .inl (mc1, 8, .inl ff))]) [0, 2] rfl
  have hKc := hK.sub (tys' := [(mc1, .int)]) [1] rfl
  have hDc := hD.sub (ws' := [(h0, .inr (7, [.ref m0, v1, v2, v3, v4, .ref m1, v6, v7, v8, v9, v10, v11, v12, v13, v14, v15, v16, v17, v18, v19, v20, v21, v22, v23, v24, v25, v26, v27])), (m1, .inl (mc1, 8, .inl ff))]) [0, 2] (by decide) rfl
  have hFc := va_free (wc := [(h0, .inr (7, [.ref m0, v1, v2, v3, v4, .ref m1, v6, v7, v8, v9, v10, v11, v12, v13, v14, v15, v16, v17, v18, v19, v20, v21, v22, v23, v24, v25, v26, v27])), (m1, .inl (mc1, 8, .inl ff))]) hD hS hA [0, 2] rfl
  refine va_calli (va_runV (As := [.int (-1000000004)]) (rest := []) ⟨hx, hb, hml, hown, hts⟩ (m_find_none l dC dI ad h0 (.ref m0) v1 v2 v3 v4 m1 v6 v7 v8 v9 v10 v11 v12 v13 v14 v15 v16 v17 v18 v19 v20 v21 v22 v23 v24 v25 v26 v27 mc1 ff s.heap.size ) (cwV 1 hts g_y_spare_m_find_none_84 rfl rfl rfl (by decide +kernel) ⟨(Nat.le_of_ble_eq_true rfl), (Nat.le_of_ble_eq_true rfl)⟩) ⟨preM_blind, va_recv hKc hPc (ci := 7) (q0 := 0) rfl rfl, fun U hU hW => ⟨rfl, preM_at hU hW hPc hKc hDc hev⟩⟩ rfl rfl hl.1 rfl (lv_room (Nat.le_of_ble_eq_true rfl)) dX9_spare_60 ⟨(Nat.le_of_ble_eq_true rfl), (Nat.le_of_ble_eq_true rfl)⟩) hS (fun q _ h => hFc q h) hFc (fun r_2 u t H1 locs ht hvm hw hB hz1 hk1 hS => ?_)
  obtain ⟨hP, hD⟩ := va_join (wr := [(m0, .inl (mc0, 38, .inl nf))]) (w1 := []) hP hD [0, 2] [1] rfl rfl (by decide) (by decide) hk1 hFc nil_P nil_D
  generalize H1 = H at hP hS ⊢
  have hP : va_P (dC, dI) vwCl [(m0, .inl (mc0, 38, .inl nf))] H := hP
  have hD : va_D A [(m0, .inl (mc0, 38, .inl nf))] := hD
  subst hw
  exact W.iret (v := (-1000000004)) hx hb hr (fun t ht hW => ⟨⟨(-1000000004), (), rfl, rfl, trivial⟩, hS.F ht⟩) hS.2.2 dX9_spare_63

def w_y_seen : List Cond := .code yX9_seen cX9_seen 5 (some .int) :: (([.fieldLink RX9 9 "LampShapesModel" "now" "[I", .constant RX9 150 (-1000000004), .methodLink RX9 84 yX9_finding, .instanceMethod yX9_finding, .selects RX9 yX9_finding yX9_finding, .initialized RX9, .code yX9_finding cX9_finding 2 (some .int), .fieldLink RX9 23 "LampShapesModel" "found" "[I", .constant RX9 74 (-1000000001)] : List Cond) ++ wsX90)
set_option maxRecDepth 20000 in
theorem g_y_seen_m_find_none_84 : GoodIn w_y_seen (wsV RX9 84 RX9 yX9_finding w_m_find_none) := goodIn_r _ [3, 4, 5, 6, 7, 8, 9, 10, 11, 12, 13, 14, 15, 16, 17, 18, 19, 20, 21, 22, 23, 24, 25, 26, 27, 28, 29, 30, 31, 32, 33, 34, 35, 36, 37] rfl (by decide +kernel)
set_option maxHeartbeats 4000000 in
set_option maxRecDepth 100000 in
theorem y_seen (l : Launch) (dC : Nat → ClassId) (dI : Nat → Nat → Nat) (ad : Nat → Nat) (h0 : Nat) (m0 : Nat) (v1 : Value) (v2 : Value) (v3 : Value) (v4 : Value) (m1 : Nat) (v6 : Value) (v7 : Value) (v8 : Value) (v9 : Value) (v10 : Value) (v11 : Value) (v12 : Value) (v13 : Value) (v14 : Value) (v15 : Value) (v16 : Value) (v17 : Value) (v18 : Value) (v19 : Value) (v20 : Value) (v21 : Value) (v22 : Value) (v23 : Value) (v24 : Value) (v25 : Value) (v26 : Value) (v27 : Value) (mc0 : ClassId) (nf : Nat → Int32) (mc1 : ClassId) (ff : Nat → Int32) (sz : Nat) (hnf : ∀ j, j < 38 → nf j = fr_n j) : Met l yX9_seen w_y_seen ({ frames := 1, cells := 0, slots := 0, locals := 21 } : Room) (va_Pc [.ref h0] (preM dC dI ad [(mc0, .int), (mc1, .int)] [(h0, .inr (7, [.ref m0, v1, v2, v3, v4, .ref m1, v6, v7, v8, v9, v10, v11, v12, v13, v14, v15, v16, v17, v18, v19, v20, v21, v22, v23, v24, v25, v26, v27])), (m0, .inl (mc0, 38, .inl nf)), (m1, .inl (mc1, 8, .inl ff))] sz)) (va_Qi (fun (r : Int32) (_ : Unit) => (r = (-1000000004))) (fun _ _ => True) (va_A [(h0, .inr (7, [.ref m0, v1, v2, v3, v4, .ref m1, v6, v7, v8, v9, v10, v11, v12, v13, v14, v15, v16, v17, v18, v19, v20, v21, v22, v23, v24, v25, v26, v27])), (m0, .inl (mc0, 38, .inl nf)), (m1, .inl (mc1, 8, .inl ff))] sz)) 0 0 (va_A [(h0, .inr (7, [.ref m0, v1, v2, v3, v4, .ref m1, v6, v7, v8, v9, v10, v11, v12, v13, v14, v15, v16, v17, v18, v19, v20, v21, v22, v23, v24, v25, v26, v27])), (m0, .inl (mc0, 38, .inl nf)), (m1, .inl (mc1, 8, .inl ff))] sz) := by
  refine Met.ofW (cc := cX9_seen) (maxL := 5) (ret := (some .int)) (by decide) rfl ?_
  intro p e s m args below meth c s₁ B hml hv
  obtain ⟨rfl, hsz, hP, hK, hD0, hev⟩ := hv
  have hx := B.exec
  have hb := B.bytes
  have hr := B.returns
  have hts := atoms_spec (ws := w_y_seen) B.pre
  have hown : s.vm.findClass RX9 = some m.cls := findClass_of_methodNamed B.named
  have hlocks := B.notSynchronized
  have inX9 : ∀ w ∈ wsX90, w ∈ w_y_seen := fun w h => List.mem_cons_of_mem _ (List.mem_append_right _ h)
  subst hsz
  have hD := hD0.self (sz := s.heap.size)
  generalize hAe : va_A [(h0, .inr (7, [.ref m0, v1, v2, v3, v4, .ref m1, v6, v7, v8, v9, v10, v11, v12, v13, v14, v15, v16, v17, v18, v19, v20, v21, v22, v23, v24, v25, v26, v27])), (m0, .inl (mc0, 38, .inl nf)), (m1, .inl (mc1, 8, .inl ff))] s.heap.size = A at hD ⊢
  have hA : ∀ q : Nat, s.heap.size ≤ q → A q := fun q h => by rw [← hAe]; exact Or.inr h
  have hS : va_S A s.heap s.heap [] := va_S.rf
  have hP : va_P (dC, dI) vwCl [(h0, .inr (7, [.ref m0, v1, v2, v3, v4, .ref m1, v6, v7, v8, v9, v10, v11, v12, v13, v14, v15, v16, v17, v18, v19, v20, v21, v22, v23, v24, v25, v26, v27])), (m0, .inl (mc0, 38, .inl nf)), (m1, .inl (mc1, 8, .inl ff))] s.heap := hP
  have hl := lv_entry ([.ref h0]) (n := 5) (Nat.le_of_ble_eq_true rfl)
  rw [lg_entry_eq]
  generalize (lg_sl ([.ref h0]) ++ List.replicate (5 - (lg_sl ([.ref h0])).length) Slot.unset).toArray = ls at hl ⊢
  have hl : lv_has ls 5 [(0, .ref h0)] := hl
  refine lv_iconst (v := (-1)) hx hb dX9_seen_0 (by decide) ?_
  refine lv_istore_n (lv' := [(1, .int (-1)), (0, .ref h0)]) hx hb dX9_seen_1 rfl hl (by decide) rfl (fun ls hl => ?_)
  refine lv_bipush (v := 65) hx hb dX9_seen_2 (by decide) ?_
  refine lv_istore_n (lv' := [(2, .int 65), (1, .int (-1)), (0, .ref h0)]) hx hb dX9_seen_4 rfl hl (by decide) rfl (fun ls hl => ?_)
  refine lv_iconst (v := 0) hx hb dX9_seen_5 (by decide) ?_
  refine lv_istore_n (lv' := [(3, .int 0), (2, .int 65), (1, .int (-1)), (0, .ref h0)]) hx hb dX9_seen_6 rfl hl (by decide) rfl (fun ls hl => ?_)
  refine lv_iload_n hx hb dX9_seen_7 rfl (lv_at hl 0 rfl) ?_
  refine lv_aload_n hx hb dX9_seen_8 rfl (lv_at hl 3 rfl) ?_
  refine va_get (D := (dC, dI)) (ci := 7) (v := .ref m0) (C := RX9) (T := TX9) (N := 28) hx hb hts inX9 hown hK hP 0 rfl rfl 0 (by decide) (hts _ (List.mem_of_getElem? (i := 1) rfl)) (fun _ h9 => h9) rfl dX9_seen_9 ?_
  refine lv_iconst (v := 1) hx hb dX9_seen_12 (by decide) ?_
  refine va_iald hx hb hK hP 1 0 rfl rfl (vp_in_nI (n := 1) (by decide) (by decide)) dX9_seen_13 ?_
  refine pp_ti (y := 0) ((hnf 1 (by decide)).trans (by decide)) ?_
  refine lv_icmp_ge (tgt := 58) hx hb dX9_seen_14 (by decide) (fun _ => ?_) (fun c => absurd (by decide) c)
  refine lv_iload_n hx hb dX9_seen_58 rfl (lv_at hl 2 rfl) ?_
  refine lv_if_ge (tgt := 71) hx hb dX9_seen_59 (by decide) (fun c => absurd c (by decide)) (fun _ => ?_)
  refine lv_aload_n hx hb dX9_seen_62 rfl (lv_at hl 3 rfl) ?_
  refine lv_ldc hx hb hown (hts _ (List.mem_of_getElem? (i := 2) rfl)) dX9_seen_63 ?_
  have hPc := hP.sub (ws' := [(h0, .inr (7, [.ref m0, v1, v2, v3, v4, .ref m1, v6, v7, v8, v9, v10, v11, v12, v13, v14, v15, v16, v17, v18, v19, v20, v21, v22, v23, v24, v25, v26, v27])), (m1, .inl (mc1, 8, .inl ff))]) [0, 2] rfl
  have hKc := hK.sub (tys' := [(mc1, .int)]) [1] rfl
  have hDc := hD.sub (ws' := [(h0, .inr (7, [.ref m0, v1, v2, v3, v4, .ref m1, v6, v7, v8, v9, v10, v11, v12, v13, v14, v15, v16, v17, v18, v19, v20, v21, v22, v23, v24, v25, v26, v27])), (m1, .inl (mc1, 8, .inl ff))]) [0, 2] (by decide) rfl
  have hFc := va_free (wc := [(h0, .inr (7, [.ref m0, v1, v2, v3, v4, .ref m1, v6, v7, v8, v9, v10, v11, v12, v13, v14, v15, v16, v17, v18, v19, v20, v21, v22, v23, v24, v25, v26, v27])), (m1, .inl (mc1, 8, .inl ff))]) hD hS hA [0, 2] rfl
  refine va_calli (va_runV (As := [.int (-1000000004)]) (rest := []) ⟨hx, hb, hml, hown, hts⟩ (m_find_none l dC dI ad h0 (.ref m0) v1 v2 v3 v4 m1 v6 v7 v8 v9 v10 v11 v12 v13 v14 v15 v16 v17 v18 v19 v20 v21 v22 v23 v24 v25 v26 v27 mc1 ff s.heap.size ) (cwV 1 hts g_y_seen_m_find_none_84 rfl rfl rfl (by decide +kernel) ⟨(Nat.le_of_ble_eq_true rfl), (Nat.le_of_ble_eq_true rfl)⟩) ⟨preM_blind, va_recv hKc hPc (ci := 7) (q0 := 0) rfl rfl, fun U hU hW => ⟨rfl, preM_at hU hW hPc hKc hDc hev⟩⟩ rfl rfl hl.1 rfl (lv_room (Nat.le_of_ble_eq_true rfl)) dX9_seen_65 ⟨(Nat.le_of_ble_eq_true rfl), (Nat.le_of_ble_eq_true rfl)⟩) hS (fun q _ h => hFc q h) hFc (fun r_1 u t H1 locs ht hvm hw hB hz1 hk1 hS => ?_)
  obtain ⟨hP, hD⟩ := va_join (wr := [(m0, .inl (mc0, 38, .inl nf))]) (w1 := []) hP hD [0, 2] [1] rfl rfl (by decide) (by decide) hk1 hFc nil_P nil_D
  generalize H1 = H at hP hS ⊢
  have hP : va_P (dC, dI) vwCl [(m0, .inl (mc0, 38, .inl nf))] H := hP
  have hD : va_D A [(m0, .inl (mc0, 38, .inl nf))] := hD
  subst hw
  refine lv_goto (tgt := 72) hx hb dX9_seen_68 (by decide) ?_
  exact W.iret (v := (-1000000004)) hx hb hr (fun t ht hW => ⟨⟨(-1000000004), (), rfl, rfl, trivial⟩, hS.F ht⟩) hS.2.2 dX9_seen_72

def w_y_closest : List Cond := .code yX9_closest cX9_closest 4 (some .int) :: (([.fieldLink RX9 9 "LampShapesModel" "now" "[I", .constant RX9 150 (-1000000004), .methodLink RX9 84 yX9_finding, .instanceMethod yX9_finding, .selects RX9 yX9_finding yX9_finding, .initialized RX9, .code yX9_finding cX9_finding 2 (some .int), .fieldLink RX9 23 "LampShapesModel" "found" "[I", .constant RX9 74 (-1000000001)] : List Cond) ++ wsX90)
set_option maxRecDepth 20000 in
theorem g_y_closest_m_find_none_84 : GoodIn w_y_closest (wsV RX9 84 RX9 yX9_finding w_m_find_none) := goodIn_r _ [3, 4, 5, 6, 7, 8, 9, 10, 11, 12, 13, 14, 15, 16, 17, 18, 19, 20, 21, 22, 23, 24, 25, 26, 27, 28, 29, 30, 31, 32, 33, 34, 35, 36, 37] rfl (by decide +kernel)
set_option maxHeartbeats 4000000 in
set_option maxRecDepth 100000 in
theorem y_closest (l : Launch) (dC : Nat → ClassId) (dI : Nat → Nat → Nat) (ad : Nat → Nat) (h0 : Nat) (m0 : Nat) (v1 : Value) (v2 : Value) (v3 : Value) (v4 : Value) (m1 : Nat) (v6 : Value) (v7 : Value) (v8 : Value) (v9 : Value) (v10 : Value) (v11 : Value) (v12 : Value) (v13 : Value) (v14 : Value) (v15 : Value) (v16 : Value) (v17 : Value) (v18 : Value) (v19 : Value) (v20 : Value) (v21 : Value) (v22 : Value) (v23 : Value) (v24 : Value) (v25 : Value) (v26 : Value) (v27 : Value) (mc0 : ClassId) (nf : Nat → Int32) (mc1 : ClassId) (ff : Nat → Int32) (sz : Nat) (hnf : ∀ j, j < 38 → nf j = fr_n j) : Met l yX9_closest w_y_closest ({ frames := 1, cells := 0, slots := 0, locals := 21 } : Room) (va_Pc [.ref h0] (preM dC dI ad [(mc0, .int), (mc1, .int)] [(h0, .inr (7, [.ref m0, v1, v2, v3, v4, .ref m1, v6, v7, v8, v9, v10, v11, v12, v13, v14, v15, v16, v17, v18, v19, v20, v21, v22, v23, v24, v25, v26, v27])), (m0, .inl (mc0, 38, .inl nf)), (m1, .inl (mc1, 8, .inl ff))] sz)) (va_Qi (fun (r : Int32) (_ : Unit) => (r = (-1000000004))) (fun _ _ => True) (va_A [(h0, .inr (7, [.ref m0, v1, v2, v3, v4, .ref m1, v6, v7, v8, v9, v10, v11, v12, v13, v14, v15, v16, v17, v18, v19, v20, v21, v22, v23, v24, v25, v26, v27])), (m0, .inl (mc0, 38, .inl nf)), (m1, .inl (mc1, 8, .inl ff))] sz)) 0 0 (va_A [(h0, .inr (7, [.ref m0, v1, v2, v3, v4, .ref m1, v6, v7, v8, v9, v10, v11, v12, v13, v14, v15, v16, v17, v18, v19, v20, v21, v22, v23, v24, v25, v26, v27])), (m0, .inl (mc0, 38, .inl nf)), (m1, .inl (mc1, 8, .inl ff))] sz) := by
  refine Met.ofW (cc := cX9_closest) (maxL := 4) (ret := (some .int)) (by decide) rfl ?_
  intro p e s m args below meth c s₁ B hml hv
  obtain ⟨rfl, hsz, hP, hK, hD0, hev⟩ := hv
  have hx := B.exec
  have hb := B.bytes
  have hr := B.returns
  have hts := atoms_spec (ws := w_y_closest) B.pre
  have hown : s.vm.findClass RX9 = some m.cls := findClass_of_methodNamed B.named
  have hlocks := B.notSynchronized
  have inX9 : ∀ w ∈ wsX90, w ∈ w_y_closest := fun w h => List.mem_cons_of_mem _ (List.mem_append_right _ h)
  subst hsz
  have hD := hD0.self (sz := s.heap.size)
  generalize hAe : va_A [(h0, .inr (7, [.ref m0, v1, v2, v3, v4, .ref m1, v6, v7, v8, v9, v10, v11, v12, v13, v14, v15, v16, v17, v18, v19, v20, v21, v22, v23, v24, v25, v26, v27])), (m0, .inl (mc0, 38, .inl nf)), (m1, .inl (mc1, 8, .inl ff))] s.heap.size = A at hD ⊢
  have hA : ∀ q : Nat, s.heap.size ≤ q → A q := fun q h => by rw [← hAe]; exact Or.inr h
  have hS : va_S A s.heap s.heap [] := va_S.rf
  have hP : va_P (dC, dI) vwCl [(h0, .inr (7, [.ref m0, v1, v2, v3, v4, .ref m1, v6, v7, v8, v9, v10, v11, v12, v13, v14, v15, v16, v17, v18, v19, v20, v21, v22, v23, v24, v25, v26, v27])), (m0, .inl (mc0, 38, .inl nf)), (m1, .inl (mc1, 8, .inl ff))] s.heap := hP
  have hl := lv_entry ([.ref h0]) (n := 4) (Nat.le_of_ble_eq_true rfl)
  rw [lg_entry_eq]
  generalize (lg_sl ([.ref h0]) ++ List.replicate (4 - (lg_sl ([.ref h0])).length) Slot.unset).toArray = ls at hl ⊢
  have hl : lv_has ls 4 [(0, .ref h0)] := hl
  refine lv_bipush (v := 65) hx hb dX9_closest_0 (by decide) ?_
  refine lv_istore_n (lv' := [(1, .int 65), (0, .ref h0)]) hx hb dX9_closest_2 rfl hl (by decide) rfl (fun ls hl => ?_)
  refine lv_iconst (v := 0) hx hb dX9_closest_3 (by decide) ?_
  refine lv_istore_n (lv' := [(2, .int 0), (1, .int 65), (0, .ref h0)]) hx hb dX9_closest_4 rfl hl (by decide) rfl (fun ls hl => ?_)
  refine lv_iload_n hx hb dX9_closest_5 rfl (lv_at hl 0 rfl) ?_
  refine lv_aload_n hx hb dX9_closest_6 rfl (lv_at hl 2 rfl) ?_
  refine va_get (D := (dC, dI)) (ci := 7) (v := .ref m0) (C := RX9) (T := TX9) (N := 28) hx hb hts inX9 hown hK hP 0 rfl rfl 0 (by decide) (hts _ (List.mem_of_getElem? (i := 1) rfl)) (fun _ h9 => h9) rfl dX9_closest_7 ?_
  refine lv_iconst (v := 1) hx hb dX9_closest_10 (by decide) ?_
  refine va_iald hx hb hK hP 1 0 rfl rfl (vp_in_nI (n := 1) (by decide) (by decide)) dX9_closest_11 ?_
  refine pp_ti (y := 0) ((hnf 1 (by decide)).trans (by decide)) ?_
  refine lv_icmp_ge (tgt := 55) hx hb dX9_closest_12 (by decide) (fun _ => ?_) (fun c => absurd (by decide) c)
  refine lv_iload_n hx hb dX9_closest_55 rfl (lv_at hl 1 rfl) ?_
  refine lv_bipush (v := 64) hx hb dX9_closest_56 (by decide) ?_
  refine lv_icmp_le (tgt := 70) hx hb dX9_closest_58 (by decide) (fun c => absurd c (by decide)) (fun _ => ?_)
  refine lv_aload_n hx hb dX9_closest_61 rfl (lv_at hl 2 rfl) ?_
  refine lv_ldc hx hb hown (hts _ (List.mem_of_getElem? (i := 2) rfl)) dX9_closest_62 ?_
  have hPc := hP.sub (ws' := [(h0, .inr (7, [.ref m0, v1, v2, v3, v4, .ref m1, v6, v7, v8, v9, v10, v11, v12, v13, v14, v15, v16, v17, v18, v19, v20, v21, v22, v23, v24, v25, v26, v27])), (m1, .inl (mc1, 8, .inl ff))]) [0, 2] rfl
  have hKc := hK.sub (tys' := [(mc1, .int)]) [1] rfl
  have hDc := hD.sub (ws' := [(h0, .inr (7, [.ref m0, v1, v2, v3, v4, .ref m1, v6, v7, v8, v9, v10, v11, v12, v13, v14, v15, v16, v17, v18, v19, v20, v21, v22, v23, v24, v25, v26, v27])), (m1, .inl (mc1, 8, .inl ff))]) [0, 2] (by decide) rfl
  have hFc := va_free (wc := [(h0, .inr (7, [.ref m0, v1, v2, v3, v4, .ref m1, v6, v7, v8, v9, v10, v11, v12, v13, v14, v15, v16, v17, v18, v19, v20, v21, v22, v23, v24, v25, v26, v27])), (m1, .inl (mc1, 8, .inl ff))]) hD hS hA [0, 2] rfl
  refine va_calli (va_runV (As := [.int (-1000000004)]) (rest := []) ⟨hx, hb, hml, hown, hts⟩ (m_find_none l dC dI ad h0 (.ref m0) v1 v2 v3 v4 m1 v6 v7 v8 v9 v10 v11 v12 v13 v14 v15 v16 v17 v18 v19 v20 v21 v22 v23 v24 v25 v26 v27 mc1 ff s.heap.size ) (cwV 1 hts g_y_closest_m_find_none_84 rfl rfl rfl (by decide +kernel) ⟨(Nat.le_of_ble_eq_true rfl), (Nat.le_of_ble_eq_true rfl)⟩) ⟨preM_blind, va_recv hKc hPc (ci := 7) (q0 := 0) rfl rfl, fun U hU hW => ⟨rfl, preM_at hU hW hPc hKc hDc hev⟩⟩ rfl rfl hl.1 rfl (lv_room (Nat.le_of_ble_eq_true rfl)) dX9_closest_64 ⟨(Nat.le_of_ble_eq_true rfl), (Nat.le_of_ble_eq_true rfl)⟩) hS (fun q _ h => hFc q h) hFc (fun r_1 u t H1 locs ht hvm hw hB hz1 hk1 hS => ?_)
  obtain ⟨hP, hD⟩ := va_join (wr := [(m0, .inl (mc0, 38, .inl nf))]) (w1 := []) hP hD [0, 2] [1] rfl rfl (by decide) (by decide) hk1 hFc nil_P nil_D
  generalize H1 = H at hP hS ⊢
  have hP : va_P (dC, dI) vwCl [(m0, .inl (mc0, 38, .inl nf))] H := hP
  have hD : va_D A [(m0, .inl (mc0, 38, .inl nf))] := hD
  subst hw
  refine lv_goto (tgt := 71) hx hb dX9_closest_67 (by decide) ?_
  exact W.iret (v := (-1000000004)) hx hb hr (fun t ht hW => ⟨⟨(-1000000004), (), rfl, rfl, trivial⟩, hS.F ht⟩) hS.2.2 dX9_closest_71

def w_y_harmless : List Cond := .code yX9_harmless cX9_harmless 7 (some .int) :: (([.fieldLink RX9 9 "LampShapesModel" "now" "[I", .constant RX9 150 (-1000000004), .methodLink RX9 84 yX9_finding, .instanceMethod yX9_finding, .selects RX9 yX9_finding yX9_finding, .initialized RX9, .code yX9_finding cX9_finding 2 (some .int), .fieldLink RX9 23 "LampShapesModel" "found" "[I", .constant RX9 74 (-1000000001)] : List Cond) ++ wsX90)
set_option maxRecDepth 20000 in
theorem g_y_harmless_m_find_none_84 : GoodIn w_y_harmless (wsV RX9 84 RX9 yX9_finding w_m_find_none) := goodIn_r _ [3, 4, 5, 6, 7, 8, 9, 10, 11, 12, 13, 14, 15, 16, 17, 18, 19, 20, 21, 22, 23, 24, 25, 26, 27, 28, 29, 30, 31, 32, 33, 34, 35, 36, 37] rfl (by decide +kernel)
set_option maxHeartbeats 4000000 in
set_option maxRecDepth 100000 in
theorem y_harmless (l : Launch) (dC : Nat → ClassId) (dI : Nat → Nat → Nat) (ad : Nat → Nat) (h0 : Nat) (m0 : Nat) (v1 : Value) (v2 : Value) (v3 : Value) (v4 : Value) (m1 : Nat) (v6 : Value) (v7 : Value) (v8 : Value) (v9 : Value) (v10 : Value) (v11 : Value) (v12 : Value) (v13 : Value) (v14 : Value) (v15 : Value) (v16 : Value) (v17 : Value) (v18 : Value) (v19 : Value) (v20 : Value) (v21 : Value) (v22 : Value) (v23 : Value) (v24 : Value) (v25 : Value) (v26 : Value) (v27 : Value) (mc0 : ClassId) (nf : Nat → Int32) (mc1 : ClassId) (ff : Nat → Int32) (sz : Nat) (hnf : ∀ j, j < 38 → nf j = fr_n j) : Met l yX9_harmless w_y_harmless ({ frames := 1, cells := 0, slots := 0, locals := 21 } : Room) (va_Pc [.ref h0] (preM dC dI ad [(mc0, .int), (mc1, .int)] [(h0, .inr (7, [.ref m0, v1, v2, v3, v4, .ref m1, v6, v7, v8, v9, v10, v11, v12, v13, v14, v15, v16, v17, v18, v19, v20, v21, v22, v23, v24, v25, v26, v27])), (m0, .inl (mc0, 38, .inl nf)), (m1, .inl (mc1, 8, .inl ff))] sz)) (va_Qi (fun (r : Int32) (_ : Unit) => (r = (-1000000004))) (fun _ _ => True) (va_A [(h0, .inr (7, [.ref m0, v1, v2, v3, v4, .ref m1, v6, v7, v8, v9, v10, v11, v12, v13, v14, v15, v16, v17, v18, v19, v20, v21, v22, v23, v24, v25, v26, v27])), (m0, .inl (mc0, 38, .inl nf)), (m1, .inl (mc1, 8, .inl ff))] sz)) 0 0 (va_A [(h0, .inr (7, [.ref m0, v1, v2, v3, v4, .ref m1, v6, v7, v8, v9, v10, v11, v12, v13, v14, v15, v16, v17, v18, v19, v20, v21, v22, v23, v24, v25, v26, v27])), (m0, .inl (mc0, 38, .inl nf)), (m1, .inl (mc1, 8, .inl ff))] sz) := by
  refine Met.ofW (cc := cX9_harmless) (maxL := 7) (ret := (some .int)) (by decide) rfl ?_
  intro p e s m args below meth c s₁ B hml hv
  obtain ⟨rfl, hsz, hP, hK, hD0, hev⟩ := hv
  have hx := B.exec
  have hb := B.bytes
  have hr := B.returns
  have hts := atoms_spec (ws := w_y_harmless) B.pre
  have hown : s.vm.findClass RX9 = some m.cls := findClass_of_methodNamed B.named
  have hlocks := B.notSynchronized
  have inX9 : ∀ w ∈ wsX90, w ∈ w_y_harmless := fun w h => List.mem_cons_of_mem _ (List.mem_append_right _ h)
  subst hsz
  have hD := hD0.self (sz := s.heap.size)
  generalize hAe : va_A [(h0, .inr (7, [.ref m0, v1, v2, v3, v4, .ref m1, v6, v7, v8, v9, v10, v11, v12, v13, v14, v15, v16, v17, v18, v19, v20, v21, v22, v23, v24, v25, v26, v27])), (m0, .inl (mc0, 38, .inl nf)), (m1, .inl (mc1, 8, .inl ff))] s.heap.size = A at hD ⊢
  have hA : ∀ q : Nat, s.heap.size ≤ q → A q := fun q h => by rw [← hAe]; exact Or.inr h
  have hS : va_S A s.heap s.heap [] := va_S.rf
  have hP : va_P (dC, dI) vwCl [(h0, .inr (7, [.ref m0, v1, v2, v3, v4, .ref m1, v6, v7, v8, v9, v10, v11, v12, v13, v14, v15, v16, v17, v18, v19, v20, v21, v22, v23, v24, v25, v26, v27])), (m0, .inl (mc0, 38, .inl nf)), (m1, .inl (mc1, 8, .inl ff))] s.heap := hP
  have hl := lv_entry ([.ref h0]) (n := 7) (Nat.le_of_ble_eq_true rfl)
  rw [lg_entry_eq]
  generalize (lg_sl ([.ref h0]) ++ List.replicate (7 - (lg_sl ([.ref h0])).length) Slot.unset).toArray = ls at hl ⊢
  have hl : lv_has ls 7 [(0, .ref h0)] := hl
  refine lv_iconst (v := 0) hx hb dX9_harmless_0 (by decide) ?_
  refine lv_istore_n (lv' := [(1, .int 0), (0, .ref h0)]) hx hb dX9_harmless_1 rfl hl (by decide) rfl (fun ls hl => ?_)
  refine lv_iconst (v := 0) hx hb dX9_harmless_2 (by decide) ?_
  refine lv_istore_n (lv' := [(2, .int 0), (1, .int 0), (0, .ref h0)]) hx hb dX9_harmless_3 rfl hl (by decide) rfl (fun ls hl => ?_)
  refine lv_iload_n hx hb dX9_harmless_4 rfl (lv_at hl 0 rfl) ?_
  refine lv_aload_n hx hb dX9_harmless_5 rfl (lv_at hl 2 rfl) ?_
  refine va_get (D := (dC, dI)) (ci := 7) (v := .ref m0) (C := RX9) (T := TX9) (N := 28) hx hb hts inX9 hown hK hP 0 rfl rfl 0 (by decide) (hts _ (List.mem_of_getElem? (i := 1) rfl)) (fun _ h9 => h9) rfl dX9_harmless_6 ?_
  refine lv_iconst (v := 0) hx hb dX9_harmless_9 (by decide) ?_
  refine va_iald hx hb hK hP 1 0 rfl rfl (vp_in_nI (n := 0) (by decide) (by decide)) dX9_harmless_10 ?_
  refine pp_ti (y := 0) ((hnf 0 (by decide)).trans (by decide)) ?_
  refine lv_icmp_ge (tgt := 39) hx hb dX9_harmless_11 (by decide) (fun _ => ?_) (fun c => absurd (by decide) c)
  refine lv_aload_n hx hb dX9_harmless_39 rfl (lv_at hl 2 rfl) ?_
  refine va_get (D := (dC, dI)) (ci := 7) (v := .ref m0) (C := RX9) (T := TX9) (N := 28) hx hb hts inX9 hown hK hP 0 rfl rfl 0 (by decide) (hts _ (List.mem_of_getElem? (i := 1) rfl)) (fun _ h9 => h9) rfl dX9_harmless_40 ?_
  refine lv_iconst (v := 1) hx hb dX9_harmless_43 (by decide) ?_
  refine va_iald hx hb hK hP 1 0 rfl rfl (vp_in_nI (n := 1) (by decide) (by decide)) dX9_harmless_44 ?_
  refine pp_ti (y := 0) ((hnf 1 (by decide)).trans (by decide)) ?_
  refine lv_if_eq (tgt := 52) hx hb dX9_harmless_45 (by decide) (fun _ => ?_) (fun c => absurd (by decide) c)
  refine lv_aload_n hx hb dX9_harmless_52 rfl (lv_at hl 2 rfl) ?_
  refine lv_ldc hx hb hown (hts _ (List.mem_of_getElem? (i := 2) rfl)) dX9_harmless_53 ?_
  have hPc := hP.sub (ws' := [(h0, .inr (7, [.ref m0, v1, v2, v3, v4, .ref m1, v6, v7, v8, v9, v10, v11, v12, v13, v14, v15, v16, v17, v18, v19, v20, v21, v22, v23, v24, v25, v26, v27])), (m1, .inl (mc1, 8, .inl ff))]) [0, 2] rfl
  have hKc := hK.sub (tys' := [(mc1, .int)]) [1] rfl
  have hDc := hD.sub (ws' := [(h0, .inr (7, [.ref m0, v1, v2, v3, v4, .ref m1, v6, v7, v8, v9, v10, v11, v12, v13, v14, v15, v16, v17, v18, v19, v20, v21, v22, v23, v24, v25, v26, v27])), (m1, .inl (mc1, 8, .inl ff))]) [0, 2] (by decide) rfl
  have hFc := va_free (wc := [(h0, .inr (7, [.ref m0, v1, v2, v3, v4, .ref m1, v6, v7, v8, v9, v10, v11, v12, v13, v14, v15, v16, v17, v18, v19, v20, v21, v22, v23, v24, v25, v26, v27])), (m1, .inl (mc1, 8, .inl ff))]) hD hS hA [0, 2] rfl
  refine va_calli (va_runV (As := [.int (-1000000004)]) (rest := []) ⟨hx, hb, hml, hown, hts⟩ (m_find_none l dC dI ad h0 (.ref m0) v1 v2 v3 v4 m1 v6 v7 v8 v9 v10 v11 v12 v13 v14 v15 v16 v17 v18 v19 v20 v21 v22 v23 v24 v25 v26 v27 mc1 ff s.heap.size ) (cwV 1 hts g_y_harmless_m_find_none_84 rfl rfl rfl (by decide +kernel) ⟨(Nat.le_of_ble_eq_true rfl), (Nat.le_of_ble_eq_true rfl)⟩) ⟨preM_blind, va_recv hKc hPc (ci := 7) (q0 := 0) rfl rfl, fun U hU hW => ⟨rfl, preM_at hU hW hPc hKc hDc hev⟩⟩ rfl rfl hl.1 rfl (lv_room (Nat.le_of_ble_eq_true rfl)) dX9_harmless_55 ⟨(Nat.le_of_ble_eq_true rfl), (Nat.le_of_ble_eq_true rfl)⟩) hS (fun q _ h => hFc q h) hFc (fun r_1 u t H1 locs ht hvm hw hB hz1 hk1 hS => ?_)
  obtain ⟨hP, hD⟩ := va_join (wr := [(m0, .inl (mc0, 38, .inl nf))]) (w1 := []) hP hD [0, 2] [1] rfl rfl (by decide) (by decide) hk1 hFc nil_P nil_D
  generalize H1 = H at hP hS ⊢
  have hP : va_P (dC, dI) vwCl [(m0, .inl (mc0, 38, .inl nf))] H := hP
  have hD : va_D A [(m0, .inl (mc0, 38, .inl nf))] := hD
  subst hw
  exact W.iret (v := (-1000000004)) hx hb hr (fun t ht hW => ⟨⟨(-1000000004), (), rfl, rfl, trivial⟩, hS.F ht⟩) hS.2.2 dX9_harmless_58

def w_y_scene : List Cond := .code yX9_scene cX9_scene 3 (some .int) :: (([.fieldLink RX9 9 "LampShapesModel" "now" "[I", .methodLink RX9 151 yX9_painted, .instanceMethod yX9_painted, .selects RX9 yX9_painted yX9_painted, .initialized RX9, .code yX9_painted cX9_painted 3 (some .int), .fieldLink RX9 16 "LampShapesModel" "pictures" "[J"] : List Cond) ++ wsX90)
set_option maxRecDepth 20000 in
theorem g_y_scene_m_painted_151 : GoodIn w_y_scene (wsV RX9 151 RX9 yX9_painted w_m_painted) := goodIn_r _ [2, 3, 4, 5, 6, 7, 1, 8, 9, 10, 11, 12, 13, 14, 15, 16, 17, 18, 19, 20, 21, 22, 23, 24, 25, 26, 27, 28, 29, 30, 31, 32, 33, 34, 35] rfl (by decide +kernel)
set_option maxHeartbeats 4000000 in
set_option maxRecDepth 100000 in
theorem y_scene (l : Launch) (dC : Nat → ClassId) (dI : Nat → Nat → Nat) (ad : Nat → Nat) (h0 : Nat) (a : Int64) (m0 : Nat) (v1 : Value) (m2 : Nat) (v3 : Value) (v4 : Value) (v5 : Value) (v6 : Value) (v7 : Value) (v8 : Value) (v9 : Value) (v10 : Value) (v11 : Value) (v12 : Value) (v13 : Value) (v14 : Value) (v15 : Value) (v16 : Value) (v17 : Value) (v18 : Value) (v19 : Value) (v20 : Value) (v21 : Value) (v22 : Value) (v23 : Value) (v24 : Value) (v25 : Value) (v26 : Value) (v27 : Value) (mc0 : ClassId) (nf : Nat → Int32) (mc2 : ClassId) (pf : Nat → Int64) (sz : Nat) (hnf : ∀ j, j < 38 → nf j = fr_n j) : Met l yX9_scene w_y_scene ({ frames := 1, cells := 0, slots := 0, locals := 22 } : Room) (va_Pc [.ref h0, .long a] (preM dC dI ad [(mc0, .int), (mc2, .long)] [(h0, .inr (7, [.ref m0, v1, .ref m2, v3, v4, v5, v6, v7, v8, v9, v10, v11, v12, v13, v14, v15, v16, v17, v18, v19, v20, v21, v22, v23, v24, v25, v26, v27])), (m0, .inl (mc0, 38, .inl nf)), (m2, .inl (mc2, 7, .inr (.inl pf)))] sz)) (va_Qi (fun (r : Int32) (_ : Unit) => (r = 0)) (fun _ _ => True) (va_A [(h0, .inr (7, [.ref m0, v1, .ref m2, v3, v4, v5, v6, v7, v8, v9, v10, v11, v12, v13, v14, v15, v16, v17, v18, v19, v20, v21, v22, v23, v24, v25, v26, v27])), (m0, .inl (mc0, 38, .inl nf)), (m2, .inl (mc2, 7, .inr (.inl pf)))] sz)) 0 0 (va_A [(h0, .inr (7, [.ref m0, v1, .ref m2, v3, v4, v5, v6, v7, v8, v9, v10, v11, v12, v13, v14, v15, v16, v17, v18, v19, v20, v21, v22, v23, v24, v25, v26, v27])), (m0, .inl (mc0, 38, .inl nf)), (m2, .inl (mc2, 7, .inr (.inl pf)))] sz) := by
  refine Met.ofW (cc := cX9_scene) (maxL := 3) (ret := (some .int)) (by decide) rfl ?_
  intro p e s m args below meth c s₁ B hml hv
  obtain ⟨rfl, hsz, hP, hK, hD0, hev⟩ := hv
  have hx := B.exec
  have hb := B.bytes
  have hr := B.returns
  have hts := atoms_spec (ws := w_y_scene) B.pre
  have hown : s.vm.findClass RX9 = some m.cls := findClass_of_methodNamed B.named
  have hlocks := B.notSynchronized
  have inX9 : ∀ w ∈ wsX90, w ∈ w_y_scene := fun w h => List.mem_cons_of_mem _ (List.mem_append_right _ h)
  subst hsz
  have hD := hD0.self (sz := s.heap.size)
  generalize hAe : va_A [(h0, .inr (7, [.ref m0, v1, .ref m2, v3, v4, v5, v6, v7, v8, v9, v10, v11, v12, v13, v14, v15, v16, v17, v18, v19, v20, v21, v22, v23, v24, v25, v26, v27])), (m0, .inl (mc0, 38, .inl nf)), (m2, .inl (mc2, 7, .inr (.inl pf)))] s.heap.size = A at hD ⊢
  have hA : ∀ q : Nat, s.heap.size ≤ q → A q := fun q h => by rw [← hAe]; exact Or.inr h
  have hS : va_S A s.heap s.heap [] := va_S.rf
  have hP : va_P (dC, dI) vwCl [(h0, .inr (7, [.ref m0, v1, .ref m2, v3, v4, v5, v6, v7, v8, v9, v10, v11, v12, v13, v14, v15, v16, v17, v18, v19, v20, v21, v22, v23, v24, v25, v26, v27])), (m0, .inl (mc0, 38, .inl nf)), (m2, .inl (mc2, 7, .inr (.inl pf)))] s.heap := hP
  have hl := lv_entry ([.ref h0, .long a]) (n := 3) (Nat.le_of_ble_eq_true rfl)
  rw [lg_entry_eq]
  generalize (lg_sl ([.ref h0, .long a]) ++ List.replicate (3 - (lg_sl ([.ref h0, .long a])).length) Slot.unset).toArray = ls at hl ⊢
  have hl : lv_has ls 3 [(0, .ref h0), (1, .long a)] := hl
  refine lv_aload_n hx hb dX9_scene_0 rfl (lv_at hl 0 rfl) ?_
  refine va_get (D := (dC, dI)) (ci := 7) (v := .ref m0) (C := RX9) (T := TX9) (N := 28) hx hb hts inX9 hown hK hP 0 rfl rfl 0 (by decide) (hts _ (List.mem_of_getElem? (i := 1) rfl)) (fun _ h9 => h9) rfl dX9_scene_1 ?_
  refine lv_iconst (v := 1) hx hb dX9_scene_4 (by decide) ?_
  refine va_iald hx hb hK hP 1 0 rfl rfl (vp_in_nI (n := 1) (by decide) (by decide)) dX9_scene_5 ?_
  refine pp_ti (y := 0) ((hnf 1 (by decide)).trans (by decide)) ?_
  refine lv_bipush (v := 7) hx hb dX9_scene_6 (by decide) ?_
  refine lv_icmp_ne (tgt := 20) hx hb dX9_scene_8 (by decide) (fun _ => ?_) (fun c => absurd c (by decide))
  refine lv_aload_n hx hb dX9_scene_20 rfl (lv_at hl 0 rfl) ?_
  refine lv_lload_n hx hb dX9_scene_21 rfl (lv_at hl 1 rfl) ?_
  have hPc := hP.sub (ws' := [(h0, .inr (7, [.ref m0, v1, .ref m2, v3, v4, v5, v6, v7, v8, v9, v10, v11, v12, v13, v14, v15, v16, v17, v18, v19, v20, v21, v22, v23, v24, v25, v26, v27])), (m0, .inl (mc0, 38, .inl nf)), (m2, .inl (mc2, 7, .inr (.inl pf)))]) [0, 1, 2] rfl
  have hKc := hK.sub (tys' := [(mc0, .int), (mc2, .long)]) [0, 1] rfl
  have hDc := hD.sub (ws' := [(h0, .inr (7, [.ref m0, v1, .ref m2, v3, v4, v5, v6, v7, v8, v9, v10, v11, v12, v13, v14, v15, v16, v17, v18, v19, v20, v21, v22, v23, v24, v25, v26, v27])), (m0, .inl (mc0, 38, .inl nf)), (m2, .inl (mc2, 7, .inr (.inl pf)))]) [0, 1, 2] (by decide) rfl
  have hFc := va_free (wc := [(h0, .inr (7, [.ref m0, v1, .ref m2, v3, v4, v5, v6, v7, v8, v9, v10, v11, v12, v13, v14, v15, v16, v17, v18, v19, v20, v21, v22, v23, v24, v25, v26, v27])), (m0, .inl (mc0, 38, .inl nf)), (m2, .inl (mc2, 7, .inr (.inl pf)))]) hD hS hA [0, 1, 2] rfl
  refine va_calli (va_runV (As := [.long a]) (rest := []) ⟨hx, hb, hml, hown, hts⟩ (m_painted l dC dI ad h0 a m0 v1 m2 v3 v4 v5 v6 v7 v8 v9 v10 v11 v12 v13 v14 v15 v16 v17 v18 v19 v20 v21 v22 v23 v24 v25 v26 v27 mc0 nf mc2 pf s.heap.size hnf) (cwV 1 hts g_y_scene_m_painted_151 rfl rfl rfl (by decide +kernel) ⟨(Nat.le_of_ble_eq_true rfl), (Nat.le_of_ble_eq_true rfl)⟩) ⟨preM_blind, va_recv hKc hPc (ci := 7) (q0 := 0) rfl rfl, fun U hU hW => ⟨rfl, preM_at hU hW hPc hKc hDc hev⟩⟩ rfl rfl hl.1 rfl (lv_room (Nat.le_of_ble_eq_true rfl)) dX9_scene_22 ⟨(Nat.le_of_ble_eq_true rfl), (Nat.le_of_ble_eq_true rfl)⟩) hS (fun q _ h => hFc q h) hFc (fun r_1 u t H1 locs ht hvm hw hB hz1 hk1 hS => ?_)
  obtain ⟨hP, hD⟩ := va_join (wr := []) (w1 := []) hP hD [0, 1, 2] [] rfl rfl (by decide) (by decide) hk1 hFc nil_P nil_D
  generalize H1 = H at hP hS ⊢
  have hP : va_P (dC, dI) vwCl [] H := hP
  have hD : va_D A [] := hD
  subst hw
  exact W.iret (v := 0) hx hb hr (fun t ht hW => ⟨⟨0, (), rfl, rfl, trivial⟩, hS.F ht⟩) hS.2.2 dX9_scene_25

def w_y_allow : List Cond := .code yX9_allow cX9_allow 2 (some .int) :: (([.methodLink RX9 75 yX9_within, .static yX9_within, .initialized RX9, .code yX9_within cX9_within 3 (some .boolean), .constant RX9 74 (-1000000001), .methodLink RX9 84 yX9_finding, .instanceMethod yX9_finding, .selects RX9 yX9_finding yX9_finding, .code yX9_finding cX9_finding 2 (some .int), .fieldLink RX9 23 "LampShapesModel" "found" "[I", .methodLink RX9 102 yX9_putIn, .instanceMethod yX9_putIn, .selects RX9 yX9_putIn yX9_putIn, .code yX9_putIn cX9_putIn 4 (some .int), .fieldLink RX9 9 "LampShapesModel" "now" "[I"] : List Cond) ++ wsX90)
set_option maxRecDepth 20000 in
theorem g_y_allow_m_within_75 : GoodIn w_y_allow (va_wsS RX9 75 yX9_within w_m_within) := goodIn_r _ [1, 2, 3, 4] rfl (by decide +kernel)
set_option maxRecDepth 20000 in
theorem g_y_allow_m_find_beyond_84 : GoodIn w_y_allow (wsV RX9 84 RX9 yX9_finding w_m_find_beyond) := goodIn_r _ [6, 7, 8, 3, 9, 10, 5, 16, 17, 18, 19, 20, 21, 22, 23, 24, 25, 26, 27, 28, 29, 30, 31, 32, 33, 34, 35, 36, 37, 38, 39, 40, 41, 42, 43] rfl (by decide +kernel)
set_option maxRecDepth 20000 in
theorem g_y_allow_m_putIn_102 : GoodIn w_y_allow (wsV RX9 102 RX9 yX9_putIn w_m_putIn) := goodIn_r _ [11, 12, 13, 3, 14, 15, 16, 17, 18, 19, 20, 21, 22, 23, 24, 25, 26, 27, 28, 29, 30, 31, 32, 33, 34, 35, 36, 37, 38, 39, 40, 41, 42, 43] rfl (by decide +kernel)
set_option maxHeartbeats 4000000 in
set_option maxRecDepth 100000 in
theorem y_allow (l : Launch) (dC : Nat → ClassId) (dI : Nat → Nat → Nat) (ad : Nat → Nat) (h0 : Nat) (a : Int32) (m0 : Nat) (v1 : Value) (v2 : Value) (v3 : Value) (v4 : Value) (m1 : Nat) (v6 : Value) (v7 : Value) (v8 : Value) (v9 : Value) (v10 : Value) (v11 : Value) (v12 : Value) (v13 : Value) (v14 : Value) (v15 : Value) (v16 : Value) (v17 : Value) (v18 : Value) (v19 : Value) (v20 : Value) (v21 : Value) (v22 : Value) (v23 : Value) (v24 : Value) (v25 : Value) (v26 : Value) (v27 : Value) (mc0 : ClassId) (nf : Nat → Int32) (mc1 : ClassId) (ff : Nat → Int32) (sz : Nat) (hnf : ∀ j, j < 38 → nf j = fr_n j) : Met l yX9_allow w_y_allow ({ frames := 1, cells := 0, slots := 0, locals := 23 } : Room) (va_Pc [.ref h0, .int a] (preM dC dI ad [(mc0, .int), (mc1, .int)] [(h0, .inr (7, [.ref m0, v1, v2, v3, v4, .ref m1, v6, v7, v8, v9, v10, v11, v12, v13, v14, v15, v16, v17, v18, v19, v20, v21, v22, v23, v24, v25, v26, v27])), (m0, .inl (mc0, 38, .inl nf)), (m1, .inl (mc1, 8, .inl ff))] sz)) (va_Qi (fun (r : Int32) (_ : Unit) => ((0 ≤ a ∧ a ≤ 63 ∧ ¬ a &&& 15 = 0 ∧ 15 < a) → r = 63) ∧ (¬ (0 ≤ a ∧ a ≤ 63 ∧ ¬ a &&& 15 = 0 ∧ 15 < a) → r = (-1000000001))) (fun _ _ => True) (va_A [(h0, .inr (7, [.ref m0, v1, v2, v3, v4, .ref m1, v6, v7, v8, v9, v10, v11, v12, v13, v14, v15, v16, v17, v18, v19, v20, v21, v22, v23, v24, v25, v26, v27])), (m0, .inl (mc0, 38, .inl nf)), (m1, .inl (mc1, 8, .inl ff))] sz)) 0 0 (va_A [(h0, .inr (7, [.ref m0, v1, v2, v3, v4, .ref m1, v6, v7, v8, v9, v10, v11, v12, v13, v14, v15, v16, v17, v18, v19, v20, v21, v22, v23, v24, v25, v26, v27])), (m0, .inl (mc0, 38, .inl nf)), (m1, .inl (mc1, 8, .inl ff))] sz) := by
  refine Met.ofW (cc := cX9_allow) (maxL := 2) (ret := (some .int)) (by decide) rfl ?_
  intro p e s m args below meth c s₁ B hml hv
  obtain ⟨rfl, hsz, hP, hK, hD0, hev⟩ := hv
  have hx := B.exec
  have hb := B.bytes
  have hr := B.returns
  have hts := atoms_spec (ws := w_y_allow) B.pre
  have hown : s.vm.findClass RX9 = some m.cls := findClass_of_methodNamed B.named
  have hlocks := B.notSynchronized
  have inX9 : ∀ w ∈ wsX90, w ∈ w_y_allow := fun w h => List.mem_cons_of_mem _ (List.mem_append_right _ h)
  subst hsz
  have hD := hD0.self (sz := s.heap.size)
  generalize hAe : va_A [(h0, .inr (7, [.ref m0, v1, v2, v3, v4, .ref m1, v6, v7, v8, v9, v10, v11, v12, v13, v14, v15, v16, v17, v18, v19, v20, v21, v22, v23, v24, v25, v26, v27])), (m0, .inl (mc0, 38, .inl nf)), (m1, .inl (mc1, 8, .inl ff))] s.heap.size = A at hD ⊢
  have hA : ∀ q : Nat, s.heap.size ≤ q → A q := fun q h => by rw [← hAe]; exact Or.inr h
  have hS : va_S A s.heap s.heap [] := va_S.rf
  have hP : va_P (dC, dI) vwCl [(h0, .inr (7, [.ref m0, v1, v2, v3, v4, .ref m1, v6, v7, v8, v9, v10, v11, v12, v13, v14, v15, v16, v17, v18, v19, v20, v21, v22, v23, v24, v25, v26, v27])), (m0, .inl (mc0, 38, .inl nf)), (m1, .inl (mc1, 8, .inl ff))] s.heap := hP
  have hl := lv_entry ([.ref h0, .int a]) (n := 2) (Nat.le_of_ble_eq_true rfl)
  rw [lg_entry_eq]
  generalize (lg_sl ([.ref h0, .int a]) ++ List.replicate (2 - (lg_sl ([.ref h0, .int a])).length) Slot.unset).toArray = ls at hl ⊢
  have hl : lv_has ls 2 [(0, .ref h0), (1, .int a)] := hl
  have ha : 0 ≤ a &&& 15 := pp_and15 a
  refine lv_iload_n hx hb dX9_allow_0 rfl (lv_at hl 1 rfl) ?_
  refine lv_iconst (v := 0) hx hb dX9_allow_1 (by decide) ?_
  refine lv_bipush (v := 63) hx hb dX9_allow_2 (by decide) ?_
  have hPc := hP.sub (ws' := []) [] rfl
  have hKc := hK.sub (tys' := []) [] rfl
  refine vp_callSi (W.runS (As := [.int a, .int 0, .int 63]) (rest := []) ⟨hx, hb, hml, hown, hts⟩ (m_within l dC dI ad a 0 63 ) (va_cwS 3 hts g_y_allow_m_within_75 rfl rfl rfl (by decide +kernel) ⟨(Nat.le_of_ble_eq_true rfl), (Nat.le_of_ble_eq_true rfl)⟩) ⟨preS_blind, fun U hU hW => ⟨rfl, preS_at hU hW hPc hKc hev⟩⟩ rfl rfl hl.1 rfl (lv_room (Nat.le_of_ble_eq_true rfl)) dX9_allow_4 ⟨(Nat.le_of_ble_eq_true rfl), (Nat.le_of_ble_eq_true rfl)⟩) (fun r_1 hw => ?_)
  by_cases c_2 : 0 ≤ a ∧ a ≤ 63
  · skip
    have hw := hw.1 c_2
    subst hw
    refine lv_if_eq (tgt := 32) hx hb dX9_allow_7 (by decide) (fun c => absurd c (by decide)) (fun _ => ?_)
    refine lv_iload_n hx hb dX9_allow_10 rfl (lv_at hl 1 rfl) ?_
    refine lv_bipush (v := 15) hx hb dX9_allow_11 (by decide) ?_
    refine lv_iand hx hb dX9_allow_13 ?_
    refine lv_if_le (tgt := 32) hx hb dX9_allow_14 (by decide) (fun c_3 => ?_) (fun c_3 => ?_)
    · skip
      refine lv_aload_n hx hb dX9_allow_32 rfl (lv_at hl 0 rfl) ?_
      refine lv_ldc hx hb hown (hts _ (List.mem_of_getElem? (i := 5) rfl)) dX9_allow_33 ?_
      have hPc := hP.sub (ws' := [(h0, .inr (7, [.ref m0, v1, v2, v3, v4, .ref m1, v6, v7, v8, v9, v10, v11, v12, v13, v14, v15, v16, v17, v18, v19, v20, v21, v22, v23, v24, v25, v26, v27])), (m1, .inl (mc1, 8, .inl ff))]) [0, 2] rfl
      have hKc := hK.sub (tys' := [(mc1, .int)]) [1] rfl
      have hDc := hD.sub (ws' := [(h0, .inr (7, [.ref m0, v1, v2, v3, v4, .ref m1, v6, v7, v8, v9, v10, v11, v12, v13, v14, v15, v16, v17, v18, v19, v20, v21, v22, v23, v24, v25, v26, v27])), (m1, .inl (mc1, 8, .inl ff))]) [0, 2] (by decide) rfl
      have hFc := va_free (wc := [(h0, .inr (7, [.ref m0, v1, v2, v3, v4, .ref m1, v6, v7, v8, v9, v10, v11, v12, v13, v14, v15, v16, v17, v18, v19, v20, v21, v22, v23, v24, v25, v26, v27])), (m1, .inl (mc1, 8, .inl ff))]) hD hS hA [0, 2] rfl
      refine va_calli (va_runV (As := [.int (-1000000001)]) (rest := []) ⟨hx, hb, hml, hown, hts⟩ (m_find_beyond l dC dI ad h0 (.ref m0) v1 v2 v3 v4 m1 v6 v7 v8 v9 v10 v11 v12 v13 v14 v15 v16 v17 v18 v19 v20 v21 v22 v23 v24 v25 v26 v27 mc1 ff s.heap.size ) (cwV 1 hts g_y_allow_m_find_beyond_84 rfl rfl rfl (by decide +kernel) ⟨(Nat.le_of_ble_eq_true rfl), (Nat.le_of_ble_eq_true rfl)⟩) ⟨preM_blind, va_recv hKc hPc (ci := 7) (q0 := 0) rfl rfl, fun U hU hW => ⟨rfl, preM_at hU hW hPc hKc hDc hev⟩⟩ rfl rfl hl.1 rfl (lv_room (Nat.le_of_ble_eq_true rfl)) dX9_allow_35 ⟨(Nat.le_of_ble_eq_true rfl), (Nat.le_of_ble_eq_true rfl)⟩) hS (fun q _ h => hFc q h) hFc (fun r_4 u t H1 locs ht hvm hw hB hz1 hk1 hS => ?_)
      obtain ⟨hP, hD⟩ := va_join (wr := [(m0, .inl (mc0, 38, .inl nf))]) (w1 := []) hP hD [0, 2] [1] rfl rfl (by decide) (by decide) hk1 hFc nil_P nil_D
      generalize H1 = H at hP hS ⊢
      have hP : va_P (dC, dI) vwCl [(m0, .inl (mc0, 38, .inl nf))] H := hP
      have hD : va_D A [(m0, .inl (mc0, 38, .inl nf))] := hD
      subst hw
      exact W.iret (v := (-1000000001)) hx hb hr (fun t ht hW => ⟨⟨(-1000000001), (), rfl, ⟨(fun h => (by first | rfl | (exfalso; simp only [fa_lt, fa_le, fa_eq, and_true, true_and, and_false, false_and, not_true_eq_false, not_false_eq_true, li_0, li_1, li_2, li_3, li_4, li_5, li_6, li_7, li_8, li_9, li_10, li_12, li_15, li_16, li_20, li_30, li_34, li_38, li_40, li_63, li_64, li_65, li_78, li_120, li_1000, li_4000, li_10000, li_11077, li_255, li_65535, li_m1, li_m2, li_m1000000001, li_m1000000002, li_m1000000003, li_m1000000004, li_m1000000005, li_m1000000006, li_m1000000007] at ha c_2 c_3 h <;> omega) | (simp only [fa_lt, fa_le, fa_eq, and_true, true_and, and_false, false_and, not_true_eq_false, not_false_eq_true, li_0, li_1, li_2, li_3, li_4, li_5, li_6, li_7, li_8, li_9, li_10, li_12, li_15, li_16, li_20, li_30, li_34, li_38, li_40, li_63, li_64, li_65, li_78, li_120, li_1000, li_4000, li_10000, li_11077, li_255, li_65535, li_m1, li_m2, li_m1000000001, li_m1000000002, li_m1000000003, li_m1000000004, li_m1000000005, li_m1000000006, li_m1000000007] at ha c_2 c_3 h ⊢ <;> omega))), (fun g0 => rfl)⟩, trivial⟩, hS.F ht⟩) hS.2.2 dX9_allow_38
    · skip
      refine lv_iload_n hx hb dX9_allow_17 rfl (lv_at hl 1 rfl) ?_
      refine lv_bipush (v := 15) hx hb dX9_allow_18 (by decide) ?_
      refine lv_icmp_le (tgt := 32) hx hb dX9_allow_20 (by decide) (fun c_5 => ?_) (fun c_5 => ?_)
      · skip
        refine lv_aload_n hx hb dX9_allow_32 rfl (lv_at hl 0 rfl) ?_
        refine lv_ldc hx hb hown (hts _ (List.mem_of_getElem? (i := 5) rfl)) dX9_allow_33 ?_
        have hPc := hP.sub (ws' := [(h0, .inr (7, [.ref m0, v1, v2, v3, v4, .ref m1, v6, v7, v8, v9, v10, v11, v12, v13, v14, v15, v16, v17, v18, v19, v20, v21, v22, v23, v24, v25, v26, v27])), (m1, .inl (mc1, 8, .inl ff))]) [0, 2] rfl
        have hKc := hK.sub (tys' := [(mc1, .int)]) [1] rfl
        have hDc := hD.sub (ws' := [(h0, .inr (7, [.ref m0, v1, v2, v3, v4, .ref m1, v6, v7, v8, v9, v10, v11, v12, v13, v14, v15, v16, v17, v18, v19, v20, v21, v22, v23, v24, v25, v26, v27])), (m1, .inl (mc1, 8, .inl ff))]) [0, 2] (by decide) rfl
        have hFc := va_free (wc := [(h0, .inr (7, [.ref m0, v1, v2, v3, v4, .ref m1, v6, v7, v8, v9, v10, v11, v12, v13, v14, v15, v16, v17, v18, v19, v20, v21, v22, v23, v24, v25, v26, v27])), (m1, .inl (mc1, 8, .inl ff))]) hD hS hA [0, 2] rfl
        refine va_calli (va_runV (As := [.int (-1000000001)]) (rest := []) ⟨hx, hb, hml, hown, hts⟩ (m_find_beyond l dC dI ad h0 (.ref m0) v1 v2 v3 v4 m1 v6 v7 v8 v9 v10 v11 v12 v13 v14 v15 v16 v17 v18 v19 v20 v21 v22 v23 v24 v25 v26 v27 mc1 ff s.heap.size ) (cwV 1 hts g_y_allow_m_find_beyond_84 rfl rfl rfl (by decide +kernel) ⟨(Nat.le_of_ble_eq_true rfl), (Nat.le_of_ble_eq_true rfl)⟩) ⟨preM_blind, va_recv hKc hPc (ci := 7) (q0 := 0) rfl rfl, fun U hU hW => ⟨rfl, preM_at hU hW hPc hKc hDc hev⟩⟩ rfl rfl hl.1 rfl (lv_room (Nat.le_of_ble_eq_true rfl)) dX9_allow_35 ⟨(Nat.le_of_ble_eq_true rfl), (Nat.le_of_ble_eq_true rfl)⟩) hS (fun q _ h => hFc q h) hFc (fun r_6 u t H1 locs ht hvm hw hB hz1 hk1 hS => ?_)
        obtain ⟨hP, hD⟩ := va_join (wr := [(m0, .inl (mc0, 38, .inl nf))]) (w1 := []) hP hD [0, 2] [1] rfl rfl (by decide) (by decide) hk1 hFc nil_P nil_D
        generalize H1 = H at hP hS ⊢
        have hP : va_P (dC, dI) vwCl [(m0, .inl (mc0, 38, .inl nf))] H := hP
        have hD : va_D A [(m0, .inl (mc0, 38, .inl nf))] := hD
        subst hw
        exact W.iret (v := (-1000000001)) hx hb hr (fun t ht hW => ⟨⟨(-1000000001), (), rfl, ⟨(fun h => (by first | rfl | (exfalso; simp only [fa_lt, fa_le, fa_eq, and_true, true_and, and_false, false_and, not_true_eq_false, not_false_eq_true, li_0, li_1, li_2, li_3, li_4, li_5, li_6, li_7, li_8, li_9, li_10, li_12, li_15, li_16, li_20, li_30, li_34, li_38, li_40, li_63, li_64, li_65, li_78, li_120, li_1000, li_4000, li_10000, li_11077, li_255, li_65535, li_m1, li_m2, li_m1000000001, li_m1000000002, li_m1000000003, li_m1000000004, li_m1000000005, li_m1000000006, li_m1000000007] at ha c_2 c_3 c_5 h <;> omega) | (simp only [fa_lt, fa_le, fa_eq, and_true, true_and, and_false, false_and, not_true_eq_false, not_false_eq_true, li_0, li_1, li_2, li_3, li_4, li_5, li_6, li_7, li_8, li_9, li_10, li_12, li_15, li_16, li_20, li_30, li_34, li_38, li_40, li_63, li_64, li_65, li_78, li_120, li_1000, li_4000, li_10000, li_11077, li_255, li_65535, li_m1, li_m2, li_m1000000001, li_m1000000002, li_m1000000003, li_m1000000004, li_m1000000005, li_m1000000006, li_m1000000007] at ha c_2 c_3 c_5 h ⊢ <;> omega))), (fun g0 => rfl)⟩, trivial⟩, hS.F ht⟩) hS.2.2 dX9_allow_38
      · skip
        refine lv_aload_n hx hb dX9_allow_23 rfl (lv_at hl 0 rfl) ?_
        refine lv_iconst (v := 2) hx hb dX9_allow_24 (by decide) ?_
        refine lv_iload_n hx hb dX9_allow_25 rfl (lv_at hl 1 rfl) ?_
        have hPc := hP.sub (ws' := [(h0, .inr (7, [.ref m0, v1, v2, v3, v4, .ref m1, v6, v7, v8, v9, v10, v11, v12, v13, v14, v15, v16, v17, v18, v19, v20, v21, v22, v23, v24, v25, v26, v27])), (m0, .inl (mc0, 38, .inl nf))]) [0, 1] rfl
        have hKc := hK.sub (tys' := [(mc0, .int)]) [0] rfl
        have hDc := hD.sub (ws' := [(h0, .inr (7, [.ref m0, v1, v2, v3, v4, .ref m1, v6, v7, v8, v9, v10, v11, v12, v13, v14, v15, v16, v17, v18, v19, v20, v21, v22, v23, v24, v25, v26, v27])), (m0, .inl (mc0, 38, .inl nf))]) [0, 1] (by decide) rfl
        have hFc := va_free (wc := [(h0, .inr (7, [.ref m0, v1, v2, v3, v4, .ref m1, v6, v7, v8, v9, v10, v11, v12, v13, v14, v15, v16, v17, v18, v19, v20, v21, v22, v23, v24, v25, v26, v27])), (m0, .inl (mc0, 38, .inl nf))]) hD hS hA [0, 1] rfl
        refine va_calli (va_runV (As := [.int 2, .int a]) (rest := []) ⟨hx, hb, hml, hown, hts⟩ (m_putIn l dC dI ad h0 a m0 v1 v2 v3 v4 (.ref m1) v6 v7 v8 v9 v10 v11 v12 v13 v14 v15 v16 v17 v18 v19 v20 v21 v22 v23 v24 v25 v26 v27 mc0 nf s.heap.size hnf) (cwV 2 hts g_y_allow_m_putIn_102 rfl rfl rfl (by decide +kernel) ⟨(Nat.le_of_ble_eq_true rfl), (Nat.le_of_ble_eq_true rfl)⟩) ⟨preM_blind, va_recv hKc hPc (ci := 7) (q0 := 0) rfl rfl, fun U hU hW => ⟨rfl, preM_at hU hW hPc hKc hDc hev⟩⟩ rfl rfl hl.1 rfl (lv_room (Nat.le_of_ble_eq_true rfl)) dX9_allow_26 ⟨(Nat.le_of_ble_eq_true rfl), (Nat.le_of_ble_eq_true rfl)⟩) hS (fun q _ h => hFc q h) hFc (fun r_7 u t H1 locs ht hvm hw hB hz1 hk1 hS => ?_)
        obtain ⟨hP, hD⟩ := va_join (wr := [(m1, .inl (mc1, 8, .inl ff))]) (w1 := []) hP hD [0, 1] [2] rfl rfl (by decide) (by decide) hk1 hFc nil_P nil_D
        generalize H1 = H at hP hS ⊢
        have hP : va_P (dC, dI) vwCl [(m1, .inl (mc1, 8, .inl ff))] H := hP
        have hD : va_D A [(m1, .inl (mc1, 8, .inl ff))] := hD
        subst hw
        refine lv_goto (tgt := 38) hx hb dX9_allow_29 (by decide) ?_
        exact W.iret (v := 63) hx hb hr (fun t ht hW => ⟨⟨63, (), rfl, ⟨(fun h => rfl), (fun g0 => (by first | rfl | (exfalso; simp only [fa_lt, fa_le, fa_eq, and_true, true_and, and_false, false_and, not_true_eq_false, not_false_eq_true, li_0, li_1, li_2, li_3, li_4, li_5, li_6, li_7, li_8, li_9, li_10, li_12, li_15, li_16, li_20, li_30, li_34, li_38, li_40, li_63, li_64, li_65, li_78, li_120, li_1000, li_4000, li_10000, li_11077, li_255, li_65535, li_m1, li_m2, li_m1000000001, li_m1000000002, li_m1000000003, li_m1000000004, li_m1000000005, li_m1000000006, li_m1000000007] at ha c_2 c_3 c_5 g0 <;> omega) | (simp only [fa_lt, fa_le, fa_eq, and_true, true_and, and_false, false_and, not_true_eq_false, not_false_eq_true, li_0, li_1, li_2, li_3, li_4, li_5, li_6, li_7, li_8, li_9, li_10, li_12, li_15, li_16, li_20, li_30, li_34, li_38, li_40, li_63, li_64, li_65, li_78, li_120, li_1000, li_4000, li_10000, li_11077, li_255, li_65535, li_m1, li_m2, li_m1000000001, li_m1000000002, li_m1000000003, li_m1000000004, li_m1000000005, li_m1000000006, li_m1000000007] at ha c_2 c_3 c_5 g0 ⊢ <;> omega)))⟩, trivial⟩, hS.F ht⟩) hS.2.2 dX9_allow_38
  · skip
    have hw := hw.2 c_2
    subst hw
    refine lv_if_eq (tgt := 32) hx hb dX9_allow_7 (by decide) (fun _ => ?_) (fun c => absurd (by decide) c)
    refine lv_aload_n hx hb dX9_allow_32 rfl (lv_at hl 0 rfl) ?_
    refine lv_ldc hx hb hown (hts _ (List.mem_of_getElem? (i := 5) rfl)) dX9_allow_33 ?_
    have hPc := hP.sub (ws' := [(h0, .inr (7, [.ref m0, v1, v2, v3, v4, .ref m1, v6, v7, v8, v9, v10, v11, v12, v13, v14, v15, v16, v17, v18, v19, v20, v21, v22, v23, v24, v25, v26, v27])), (m1, .inl (mc1, 8, .inl ff))]) [0, 2] rfl
    have hKc := hK.sub (tys' := [(mc1, .int)]) [1] rfl
    have hDc := hD.sub (ws' := [(h0, .inr (7, [.ref m0, v1, v2, v3, v4, .ref m1, v6, v7, v8, v9, v10, v11, v12, v13, v14, v15, v16, v17, v18, v19, v20, v21, v22, v23, v24, v25, v26, v27])), (m1, .inl (mc1, 8, .inl ff))]) [0, 2] (by decide) rfl
    have hFc := va_free (wc := [(h0, .inr (7, [.ref m0, v1, v2, v3, v4, .ref m1, v6, v7, v8, v9, v10, v11, v12, v13, v14, v15, v16, v17, v18, v19, v20, v21, v22, v23, v24, v25, v26, v27])), (m1, .inl (mc1, 8, .inl ff))]) hD hS hA [0, 2] rfl
    refine va_calli (va_runV (As := [.int (-1000000001)]) (rest := []) ⟨hx, hb, hml, hown, hts⟩ (m_find_beyond l dC dI ad h0 (.ref m0) v1 v2 v3 v4 m1 v6 v7 v8 v9 v10 v11 v12 v13 v14 v15 v16 v17 v18 v19 v20 v21 v22 v23 v24 v25 v26 v27 mc1 ff s.heap.size ) (cwV 1 hts g_y_allow_m_find_beyond_84 rfl rfl rfl (by decide +kernel) ⟨(Nat.le_of_ble_eq_true rfl), (Nat.le_of_ble_eq_true rfl)⟩) ⟨preM_blind, va_recv hKc hPc (ci := 7) (q0 := 0) rfl rfl, fun U hU hW => ⟨rfl, preM_at hU hW hPc hKc hDc hev⟩⟩ rfl rfl hl.1 rfl (lv_room (Nat.le_of_ble_eq_true rfl)) dX9_allow_35 ⟨(Nat.le_of_ble_eq_true rfl), (Nat.le_of_ble_eq_true rfl)⟩) hS (fun q _ h => hFc q h) hFc (fun r_8 u t H1 locs ht hvm hw hB hz1 hk1 hS => ?_)
    obtain ⟨hP, hD⟩ := va_join (wr := [(m0, .inl (mc0, 38, .inl nf))]) (w1 := []) hP hD [0, 2] [1] rfl rfl (by decide) (by decide) hk1 hFc nil_P nil_D
    generalize H1 = H at hP hS ⊢
    have hP : va_P (dC, dI) vwCl [(m0, .inl (mc0, 38, .inl nf))] H := hP
    have hD : va_D A [(m0, .inl (mc0, 38, .inl nf))] := hD
    subst hw
    exact W.iret (v := (-1000000001)) hx hb hr (fun t ht hW => ⟨⟨(-1000000001), (), rfl, ⟨(fun h => (by first | rfl | (exfalso; simp only [fa_lt, fa_le, fa_eq, and_true, true_and, and_false, false_and, not_true_eq_false, not_false_eq_true, li_0, li_1, li_2, li_3, li_4, li_5, li_6, li_7, li_8, li_9, li_10, li_12, li_15, li_16, li_20, li_30, li_34, li_38, li_40, li_63, li_64, li_65, li_78, li_120, li_1000, li_4000, li_10000, li_11077, li_255, li_65535, li_m1, li_m2, li_m1000000001, li_m1000000002, li_m1000000003, li_m1000000004, li_m1000000005, li_m1000000006, li_m1000000007] at ha c_2 h <;> omega) | (simp only [fa_lt, fa_le, fa_eq, and_true, true_and, and_false, false_and, not_true_eq_false, not_false_eq_true, li_0, li_1, li_2, li_3, li_4, li_5, li_6, li_7, li_8, li_9, li_10, li_12, li_15, li_16, li_20, li_30, li_34, li_38, li_40, li_63, li_64, li_65, li_78, li_120, li_1000, li_4000, li_10000, li_11077, li_255, li_65535, li_m1, li_m2, li_m1000000001, li_m1000000002, li_m1000000003, li_m1000000004, li_m1000000005, li_m1000000006, li_m1000000007] at ha c_2 h ⊢ <;> omega))), (fun g0 => rfl)⟩, trivial⟩, hS.F ht⟩) hS.2.2 dX9_allow_38

def w_y_order : List Cond := .code yX9_order cX9_order 2 (some .int) :: (([.fieldLink RX9 9 "LampShapesModel" "now" "[I", .fieldLink RX9 180 "LampShapesModel" "leastCost" "I", .methodLink RX9 183 yX9_goOn, .instanceMethod yX9_goOn, .selects RX9 yX9_goOn yX9_goOn, .initialized RX9, .code yX9_goOn cX9_goOn 5 none, .constant RX9 150 (-1000000004), .methodLink RX9 84 yX9_finding, .instanceMethod yX9_finding, .selects RX9 yX9_finding yX9_finding, .code yX9_finding cX9_finding 2 (some .int), .fieldLink RX9 23 "LampShapesModel" "found" "[I", .constant RX9 74 (-1000000001)] : List Cond) ++ wsX90)
set_option maxRecDepth 20000 in
theorem g_y_order_m_goOn_183 : GoodIn w_y_order (wsV RX9 183 RX9 yX9_goOn w_m_goOn) := goodIn_r _ [3, 4, 5, 6, 7, 1, 2, 15, 16, 17, 18, 19, 20, 21, 22, 23, 24, 25, 26, 27, 28, 29, 30, 31, 32, 33, 34, 35, 36, 37, 38, 39, 40, 41, 42] rfl (by decide +kernel)
set_option maxRecDepth 20000 in
theorem g_y_order_m_find_none_84 : GoodIn w_y_order (wsV RX9 84 RX9 yX9_finding w_m_find_none) := goodIn_r _ [9, 10, 11, 6, 12, 13, 14, 15, 16, 17, 18, 19, 20, 21, 22, 23, 24, 25, 26, 27, 28, 29, 30, 31, 32, 33, 34, 35, 36, 37, 38, 39, 40, 41, 42] rfl (by decide +kernel)
set_option maxRecDepth 20000 in
theorem g_y_order_m_find_beyond_84 : GoodIn w_y_order (wsV RX9 84 RX9 yX9_finding w_m_find_beyond) := goodIn_r _ [9, 10, 11, 6, 12, 13, 14, 15, 16, 17, 18, 19, 20, 21, 22, 23, 24, 25, 26, 27, 28, 29, 30, 31, 32, 33, 34, 35, 36, 37, 38, 39, 40, 41, 42] rfl (by decide +kernel)
set_option maxHeartbeats 4000000 in
set_option maxRecDepth 100000 in
theorem y_order (l : Launch) (dC : Nat → ClassId) (dI : Nat → Nat → Nat) (ad : Nat → Nat) (h0 : Nat) (a : Int32) (m0 : Nat) (v1 : Value) (v2 : Value) (v3 : Value) (v4 : Value) (m1 : Nat) (v6 : Value) (v7 : Value) (v8 : Value) (v9 : Value) (v10 : Value) (v11 : Value) (v12 : Value) (v13 : Value) (v14 : Value) (v15 : Value) (v16 : Value) (v17 : Value) (v18 : Value) (v19 : Value) (v20 : Value) (v21 : Value) (v22 : Value) (v23 : Value) (v24 : Value) (v25 : Value) (v26 : Value) (v27 : Value) (mc0 : ClassId) (nf : Nat → Int32) (mc1 : ClassId) (ff : Nat → Int32) (sz : Nat) (hnf : ∀ j, j < 38 → nf j = fr_n j) : Met l yX9_order w_y_order ({ frames := 1, cells := 0, slots := 0, locals := 24 } : Room) (va_Pc [.ref h0, .int a] (preM dC dI ad [(mc0, .int), (mc1, .int)] [(h0, .inr (7, [.ref m0, v1, v2, v3, v4, .ref m1, v6, v7, v8, v9, v10, v11, v12, v13, v14, v15, v16, v17, v18, v19, v20, v21, v22, v23, v24, v25, v26, v27])), (m0, .inl (mc0, 38, .inl nf)), (m1, .inl (mc1, 8, .inl ff))] sz)) (va_Qi (fun (r : Int32) (_ : Unit) => ((a < (-1)) → r = (-1000000001)) ∧ (¬ (a < (-1)) → (0 ≤ a) → r = (-1000000004)) ∧ (¬ (a < (-1)) → ¬ (0 ≤ a) → r = 0)) (fun _ _ => True) (va_A [(h0, .inr (7, [.ref m0, v1, v2, v3, v4, .ref m1, v6, v7, v8, v9, v10, v11, v12, v13, v14, v15, v16, v17, v18, v19, v20, v21, v22, v23, v24, v25, v26, v27])), (m0, .inl (mc0, 38, .inl nf)), (m1, .inl (mc1, 8, .inl ff))] sz)) 0 0 (va_A [(h0, .inr (7, [.ref m0, v1, v2, v3, v4, .ref m1, v6, v7, v8, v9, v10, v11, v12, v13, v14, v15, v16, v17, v18, v19, v20, v21, v22, v23, v24, v25, v26, v27])), (m0, .inl (mc0, 38, .inl nf)), (m1, .inl (mc1, 8, .inl ff))] sz) := by
  refine Met.ofW (cc := cX9_order) (maxL := 2) (ret := (some .int)) (by decide) rfl ?_
  intro p e s m args below meth c s₁ B hml hv
  obtain ⟨rfl, hsz, hP, hK, hD0, hev⟩ := hv
  have hx := B.exec
  have hb := B.bytes
  have hr := B.returns
  have hts := atoms_spec (ws := w_y_order) B.pre
  have hown : s.vm.findClass RX9 = some m.cls := findClass_of_methodNamed B.named
  have hlocks := B.notSynchronized
  have inX9 : ∀ w ∈ wsX90, w ∈ w_y_order := fun w h => List.mem_cons_of_mem _ (List.mem_append_right _ h)
  subst hsz
  have hD := hD0.self (sz := s.heap.size)
  generalize hAe : va_A [(h0, .inr (7, [.ref m0, v1, v2, v3, v4, .ref m1, v6, v7, v8, v9, v10, v11, v12, v13, v14, v15, v16, v17, v18, v19, v20, v21, v22, v23, v24, v25, v26, v27])), (m0, .inl (mc0, 38, .inl nf)), (m1, .inl (mc1, 8, .inl ff))] s.heap.size = A at hD ⊢
  have hA : ∀ q : Nat, s.heap.size ≤ q → A q := fun q h => by rw [← hAe]; exact Or.inr h
  have hS : va_S A s.heap s.heap [] := va_S.rf
  have hP : va_P (dC, dI) vwCl [(h0, .inr (7, [.ref m0, v1, v2, v3, v4, .ref m1, v6, v7, v8, v9, v10, v11, v12, v13, v14, v15, v16, v17, v18, v19, v20, v21, v22, v23, v24, v25, v26, v27])), (m0, .inl (mc0, 38, .inl nf)), (m1, .inl (mc1, 8, .inl ff))] s.heap := hP
  have hl := lv_entry ([.ref h0, .int a]) (n := 2) (Nat.le_of_ble_eq_true rfl)
  rw [lg_entry_eq]
  generalize (lg_sl ([.ref h0, .int a]) ++ List.replicate (2 - (lg_sl ([.ref h0, .int a])).length) Slot.unset).toArray = ls at hl ⊢
  have hl : lv_has ls 2 [(0, .ref h0), (1, .int a)] := hl
  refine lv_iload_n hx hb dX9_order_0 rfl (lv_at hl 1 rfl) ?_
  refine lv_iconst (v := (-1)) hx hb dX9_order_1 (by decide) ?_
  refine lv_icmp_ge (tgt := 12) hx hb dX9_order_2 (by decide) (fun c_1 => ?_) (fun c_1 => ?_)
  · skip
    refine lv_aload_n hx hb dX9_order_12 rfl (lv_at hl 0 rfl) ?_
    refine va_get (D := (dC, dI)) (ci := 7) (v := .ref m0) (C := RX9) (T := TX9) (N := 28) hx hb hts inX9 hown hK hP 0 rfl rfl 0 (by decide) (hts _ (List.mem_of_getElem? (i := 1) rfl)) (fun _ h9 => h9) rfl dX9_order_13 ?_
    refine lv_iconst (v := 1) hx hb dX9_order_16 (by decide) ?_
    refine va_iald hx hb hK hP 1 0 rfl rfl (vp_in_nI (n := 1) (by decide) (by decide)) dX9_order_17 ?_
    refine pp_ti (y := 0) ((hnf 1 (by decide)).trans (by decide)) ?_
    refine lv_bipush (v := 6) hx hb dX9_order_18 (by decide) ?_
    refine lv_icmp_le (tgt := 30) hx hb dX9_order_20 (by decide) (fun _ => ?_) (fun c => absurd (by decide) c)
    refine lv_iload_n hx hb dX9_order_30 rfl (lv_at hl 1 rfl) ?_
    refine lv_aload_n hx hb dX9_order_31 rfl (lv_at hl 0 rfl) ?_
    refine va_get (D := (dC, dI)) (ci := 7) (v := .ref m0) (C := RX9) (T := TX9) (N := 28) hx hb hts inX9 hown hK hP 0 rfl rfl 0 (by decide) (hts _ (List.mem_of_getElem? (i := 1) rfl)) (fun _ h9 => h9) rfl dX9_order_32 ?_
    refine lv_iconst (v := 1) hx hb dX9_order_35 (by decide) ?_
    refine va_iald hx hb hK hP 1 0 rfl rfl (vp_in_nI (n := 1) (by decide) (by decide)) dX9_order_36 ?_
    refine pp_ti (y := 0) ((hnf 1 (by decide)).trans (by decide)) ?_
    refine lv_icmp_lt (tgt := 47) hx hb dX9_order_37 (by decide) (fun c_2 => ?_) (fun c_2 => ?_)
    · skip
      refine lv_aload_n hx hb dX9_order_47 rfl (lv_at hl 0 rfl) ?_
      refine lv_iconst (v := (-1)) hx hb dX9_order_48 (by decide) ?_
      refine va_put (D := (dC, dI)) (ci := 7) (v := .int (-1)) (ty := .int) (C := RX9) (T := TX9) (N := 28) hx hb hts inX9 tyX9 tyX9_ok nmX9 hown hK hP hD hS 0 rfl rfl 9 (by decide) (hts _ (List.mem_of_getElem? (i := 2) rfl)) (fun _ h9 => h9) rfl (by decide +kernel) rfl rfl (Nat.le_of_ble_eq_true rfl) dX9_order_49 (fun H locs hP hD hS => ?_)
      have hP : va_P (dC, dI) vwCl [(h0, .inr (7, [.ref m0, v1, v2, v3, v4, .ref m1, v6, v7, v8, .int (-1), v10, v11, v12, v13, v14, v15, v16, v17, v18, v19, v20, v21, v22, v23, v24, v25, v26, v27])), (m0, .inl (mc0, 38, .inl nf)), (m1, .inl (mc1, 8, .inl ff))] H := hP
      have hD : va_D A [(h0, .inr (7, [.ref m0, v1, v2, v3, v4, .ref m1, v6, v7, v8, .int (-1), v10, v11, v12, v13, v14, v15, v16, v17, v18, v19, v20, v21, v22, v23, v24, v25, v26, v27])), (m0, .inl (mc0, 38, .inl nf)), (m1, .inl (mc1, 8, .inl ff))] := hD
      refine lv_aload_n hx hb dX9_order_52 rfl (lv_at hl 0 rfl) ?_
      refine lv_iconst (v := 0) hx hb dX9_order_53 (by decide) ?_
      refine lv_iconst (v := 0) hx hb dX9_order_54 (by decide) ?_
      refine lv_iconst (v := 0) hx hb dX9_order_55 (by decide) ?_
      have hPc := hP.sub (ws' := [(h0, .inr (7, [.ref m0, v1, v2, v3, v4, .ref m1, v6, v7, v8, .int (-1), v10, v11, v12, v13, v14, v15, v16, v17, v18, v19, v20, v21, v22, v23, v24, v25, v26, v27])), (m0, .inl (mc0, 38, .inl nf))]) [0, 1] rfl
      have hKc := hK.sub (tys' := [(mc0, .int)]) [0] rfl
      have hDc := hD.sub (ws' := [(h0, .inr (7, [.ref m0, v1, v2, v3, v4, .ref m1, v6, v7, v8, .int (-1), v10, v11, v12, v13, v14, v15, v16, v17, v18, v19, v20, v21, v22, v23, v24, v25, v26, v27])), (m0, .inl (mc0, 38, .inl nf))]) [0, 1] (by decide) rfl
      have hFc := va_free (wc := [(h0, .inr (7, [.ref m0, v1, v2, v3, v4, .ref m1, v6, v7, v8, .int (-1), v10, v11, v12, v13, v14, v15, v16, v17, v18, v19, v20, v21, v22, v23, v24, v25, v26, v27])), (m0, .inl (mc0, 38, .inl nf))]) hD hS hA [0, 1] rfl
      refine va_callv (va_runV (As := [.int 0, .int 0, .int 0]) (rest := []) ⟨hx, hb, hml, hown, hts⟩ (m_goOn l dC dI ad h0 m0 v1 v2 v3 v4 (.ref m1) v6 v7 v8 v10 v11 v12 v13 v14 v15 v16 v17 v18 v19 v20 v21 v22 v23 v24 v25 v26 v27 mc0 nf H.size hnf) (cwV 3 hts g_y_order_m_goOn_183 rfl rfl rfl (by decide +kernel) ⟨(Nat.le_of_ble_eq_true rfl), (Nat.le_of_ble_eq_true rfl)⟩) ⟨preM_blind, va_recv hKc hPc (ci := 7) (q0 := 0) rfl rfl, fun U hU hW => ⟨rfl, preM_at hU hW hPc hKc hDc hev⟩⟩ rfl rfl hl.1 rfl (lv_room (Nat.le_of_ble_eq_true rfl)) dX9_order_56 ⟨(Nat.le_of_ble_eq_true rfl), (Nat.le_of_ble_eq_true rfl)⟩) hS (fun q _ h => hFc q h) hFc (fun u t H1 locs ht hvm hw hB hz1 hk1 hS => ?_)
      obtain ⟨hP1, hK1, hD1⟩ := hB
      rw [ht] at hP1
      have hK1 := va_K.moved hvm.symm hK1
      obtain ⟨hP, hD⟩ := va_join (wr := [(m1, .inl (mc1, 8, .inl ff))]) (w1 := [(h0, .inr (7, [.ref m0, v1, v2, v3, v4, (.ref m1), v6, v7, v8, .int 0, v10, v11, v12, v13, v14, v15, v16, v17, v18, v19, v20, v21, v22, v23, v24, v25, v26, v27])), (m0, .inl (mc0, 38, .inl nf))]) hP hD [0, 1] [2] rfl rfl (by decide) (by decide) hk1 hFc hP1 hD1
      generalize H1 = H at hP hS ⊢
      have hP : va_P (dC, dI) vwCl [(m1, .inl (mc1, 8, .inl ff)), (h0, .inr (7, [.ref m0, v1, v2, v3, v4, (.ref m1), v6, v7, v8, .int 0, v10, v11, v12, v13, v14, v15, v16, v17, v18, v19, v20, v21, v22, v23, v24, v25, v26, v27])), (m0, .inl (mc0, 38, .inl nf))] H := hP
      have hD : va_D A [(m1, .inl (mc1, 8, .inl ff)), (h0, .inr (7, [.ref m0, v1, v2, v3, v4, (.ref m1), v6, v7, v8, .int 0, v10, v11, v12, v13, v14, v15, v16, v17, v18, v19, v20, v21, v22, v23, v24, v25, v26, v27])), (m0, .inl (mc0, 38, .inl nf))] := hD
      refine lv_iload_n hx hb dX9_order_59 rfl (lv_at hl 1 rfl) ?_
      refine lv_if_ge (tgt := 70) hx hb dX9_order_60 (by decide) (fun c_4 => ?_) (fun c_4 => ?_)
      · skip
        exfalso; simp only [fa_lt, fa_le, fa_eq, and_true, true_and, and_false, false_and, not_true_eq_false, not_false_eq_true, li_0, li_1, li_2, li_3, li_4, li_5, li_6, li_7, li_8, li_9, li_10, li_12, li_15, li_16, li_20, li_30, li_34, li_38, li_40, li_63, li_64, li_65, li_78, li_120, li_1000, li_4000, li_10000, li_11077, li_255, li_65535, li_m1, li_m2, li_m1000000001, li_m1000000002, li_m1000000003, li_m1000000004, li_m1000000005, li_m1000000006, li_m1000000007] at c_1 c_2 c_4 <;> omega
      · skip
        refine lv_aload_n hx hb dX9_order_63 rfl (lv_at hl 0 rfl) ?_
        refine va_get (D := (dC, dI)) (ci := 7) (v := .int 0) (C := RX9) (T := TX9) (N := 28) hx hb hts inX9 hown hK hP 1 rfl rfl 9 (by decide) (hts _ (List.mem_of_getElem? (i := 2) rfl)) (fun _ h9 => h9) rfl dX9_order_64 ?_
        refine lv_goto (tgt := 76) hx hb dX9_order_67 (by decide) ?_
        exact W.iret (v := 0) hx hb hr (fun t ht hW => ⟨⟨0, (), rfl, ⟨(fun h => (by first | rfl | (exfalso; simp only [fa_lt, fa_le, fa_eq, and_true, true_and, and_false, false_and, not_true_eq_false, not_false_eq_true, li_0, li_1, li_2, li_3, li_4, li_5, li_6, li_7, li_8, li_9, li_10, li_12, li_15, li_16, li_20, li_30, li_34, li_38, li_40, li_63, li_64, li_65, li_78, li_120, li_1000, li_4000, li_10000, li_11077, li_255, li_65535, li_m1, li_m2, li_m1000000001, li_m1000000002, li_m1000000003, li_m1000000004, li_m1000000005, li_m1000000006, li_m1000000007] at c_1 c_2 c_4 h <;> omega) | (simp only [fa_lt, fa_le, fa_eq, and_true, true_and, and_false, false_and, not_true_eq_false, not_false_eq_true, li_0, li_1, li_2, li_3, li_4, li_5, li_6, li_7, li_8, li_9, li_10, li_12, li_15, li_16, li_20, li_30, li_34, li_38, li_40, li_63, li_64, li_65, li_78, li_120, li_1000, li_4000, li_10000, li_11077, li_255, li_65535, li_m1, li_m2, li_m1000000001, li_m1000000002, li_m1000000003, li_m1000000004, li_m1000000005, li_m1000000006, li_m1000000007] at c_1 c_2 c_4 h ⊢ <;> omega))), (fun g0 h => (by first | rfl | (exfalso; simp only [fa_lt, fa_le, fa_eq, and_true, true_and, and_false, false_and, not_true_eq_false, not_false_eq_true, li_0, li_1, li_2, li_3, li_4, li_5, li_6, li_7, li_8, li_9, li_10, li_12, li_15, li_16, li_20, li_30, li_34, li_38, li_40, li_63, li_64, li_65, li_78, li_120, li_1000, li_4000, li_10000, li_11077, li_255, li_65535, li_m1, li_m2, li_m1000000001, li_m1000000002, li_m1000000003, li_m1000000004, li_m1000000005, li_m1000000006, li_m1000000007] at c_1 c_2 c_4 g0 h <;> omega) | (simp only [fa_lt, fa_le, fa_eq, and_true, true_and, and_false, false_and, not_true_eq_false, not_false_eq_true, li_0, li_1, li_2, li_3, li_4, li_5, li_6, li_7, li_8, li_9, li_10, li_12, li_15, li_16, li_20, li_30, li_34, li_38, li_40, li_63, li_64, li_65, li_78, li_120, li_1000, li_4000, li_10000, li_11077, li_255, li_65535, li_m1, li_m2, li_m1000000001, li_m1000000002, li_m1000000003, li_m1000000004, li_m1000000005, li_m1000000006, li_m1000000007] at c_1 c_2 c_4 g0 h ⊢ <;> omega))), (fun g0 g1 => rfl)⟩, trivial⟩, hS.F ht⟩) hS.2.2 dX9_order_76
    · skip
      refine lv_aload_n hx hb dX9_order_40 rfl (lv_at hl 0 rfl) ?_
      refine lv_ldc hx hb hown (hts _ (List.mem_of_getElem? (i := 8) rfl)) dX9_order_41 ?_
      have hPc := hP.sub (ws' := [(h0, .inr (7, [.ref m0, v1, v2, v3, v4, .ref m1, v6, v7, v8, v9, v10, v11, v12, v13, v14, v15, v16, v17, v18, v19, v20, v21, v22, v23, v24, v25, v26, v27])), (m1, .inl (mc1, 8, .inl ff))]) [0, 2] rfl
      have hKc := hK.sub (tys' := [(mc1, .int)]) [1] rfl
      have hDc := hD.sub (ws' := [(h0, .inr (7, [.ref m0, v1, v2, v3, v4, .ref m1, v6, v7, v8, v9, v10, v11, v12, v13, v14, v15, v16, v17, v18, v19, v20, v21, v22, v23, v24, v25, v26, v27])), (m1, .inl (mc1, 8, .inl ff))]) [0, 2] (by decide) rfl
      have hFc := va_free (wc := [(h0, .inr (7, [.ref m0, v1, v2, v3, v4, .ref m1, v6, v7, v8, v9, v10, v11, v12, v13, v14, v15, v16, v17, v18, v19, v20, v21, v22, v23, v24, v25, v26, v27])), (m1, .inl (mc1, 8, .inl ff))]) hD hS hA [0, 2] rfl
      refine va_calli (va_runV (As := [.int (-1000000004)]) (rest := []) ⟨hx, hb, hml, hown, hts⟩ (m_find_none l dC dI ad h0 (.ref m0) v1 v2 v3 v4 m1 v6 v7 v8 v9 v10 v11 v12 v13 v14 v15 v16 v17 v18 v19 v20 v21 v22 v23 v24 v25 v26 v27 mc1 ff s.heap.size ) (cwV 1 hts g_y_order_m_find_none_84 rfl rfl rfl (by decide +kernel) ⟨(Nat.le_of_ble_eq_true rfl), (Nat.le_of_ble_eq_true rfl)⟩) ⟨preM_blind, va_recv hKc hPc (ci := 7) (q0 := 0) rfl rfl, fun U hU hW => ⟨rfl, preM_at hU hW hPc hKc hDc hev⟩⟩ rfl rfl hl.1 rfl (lv_room (Nat.le_of_ble_eq_true rfl)) dX9_order_43 ⟨(Nat.le_of_ble_eq_true rfl), (Nat.le_of_ble_eq_true rfl)⟩) hS (fun q _ h => hFc q h) hFc (fun r_5 u t H1 locs ht hvm hw hB hz1 hk1 hS => ?_)
      obtain ⟨hP, hD⟩ := va_join (wr := [(m0, .inl (mc0, 38, .inl nf))]) (w1 := []) hP hD [0, 2] [1] rfl rfl (by decide) (by decide) hk1 hFc nil_P nil_D
      generalize H1 = H at hP hS ⊢
      have hP : va_P (dC, dI) vwCl [(m0, .inl (mc0, 38, .inl nf))] H := hP
      have hD : va_D A [(m0, .inl (mc0, 38, .inl nf))] := hD
      subst hw
      exact W.iret (v := (-1000000004)) hx hb hr (fun t ht hW => ⟨⟨(-1000000004), (), rfl, ⟨(fun h => (by first | rfl | (exfalso; simp only [fa_lt, fa_le, fa_eq, and_true, true_and, and_false, false_and, not_true_eq_false, not_false_eq_true, li_0, li_1, li_2, li_3, li_4, li_5, li_6, li_7, li_8, li_9, li_10, li_12, li_15, li_16, li_20, li_30, li_34, li_38, li_40, li_63, li_64, li_65, li_78, li_120, li_1000, li_4000, li_10000, li_11077, li_255, li_65535, li_m1, li_m2, li_m1000000001, li_m1000000002, li_m1000000003, li_m1000000004, li_m1000000005, li_m1000000006, li_m1000000007] at c_1 c_2 h <;> omega) | (simp only [fa_lt, fa_le, fa_eq, and_true, true_and, and_false, false_and, not_true_eq_false, not_false_eq_true, li_0, li_1, li_2, li_3, li_4, li_5, li_6, li_7, li_8, li_9, li_10, li_12, li_15, li_16, li_20, li_30, li_34, li_38, li_40, li_63, li_64, li_65, li_78, li_120, li_1000, li_4000, li_10000, li_11077, li_255, li_65535, li_m1, li_m2, li_m1000000001, li_m1000000002, li_m1000000003, li_m1000000004, li_m1000000005, li_m1000000006, li_m1000000007] at c_1 c_2 h ⊢ <;> omega))), (fun g0 h => rfl), (fun g0 g1 => (by first | rfl | (exfalso; simp only [fa_lt, fa_le, fa_eq, and_true, true_and, and_false, false_and, not_true_eq_false, not_false_eq_true, li_0, li_1, li_2, li_3, li_4, li_5, li_6, li_7, li_8, li_9, li_10, li_12, li_15, li_16, li_20, li_30, li_34, li_38, li_40, li_63, li_64, li_65, li_78, li_120, li_1000, li_4000, li_10000, li_11077, li_255, li_65535, li_m1, li_m2, li_m1000000001, li_m1000000002, li_m1000000003, li_m1000000004, li_m1000000005, li_m1000000006, li_m1000000007] at c_1 c_2 g0 g1 <;> omega) | (simp only [fa_lt, fa_le, fa_eq, and_true, true_and, and_false, false_and, not_true_eq_false, not_false_eq_true, li_0, li_1, li_2, li_3, li_4, li_5, li_6, li_7, li_8, li_9, li_10, li_12, li_15, li_16, li_20, li_30, li_34, li_38, li_40, li_63, li_64, li_65, li_78, li_120, li_1000, li_4000, li_10000, li_11077, li_255, li_65535, li_m1, li_m2, li_m1000000001, li_m1000000002, li_m1000000003, li_m1000000004, li_m1000000005, li_m1000000006, li_m1000000007] at c_1 c_2 g0 g1 ⊢ <;> omega)))⟩, trivial⟩, hS.F ht⟩) hS.2.2 dX9_order_46
  · skip
    refine lv_aload_n hx hb dX9_order_5 rfl (lv_at hl 0 rfl) ?_
    refine lv_ldc hx hb hown (hts _ (List.mem_of_getElem? (i := 14) rfl)) dX9_order_6 ?_
    have hPc := hP.sub (ws' := [(h0, .inr (7, [.ref m0, v1, v2, v3, v4, .ref m1, v6, v7, v8, v9, v10, v11, v12, v13, v14, v15, v16, v17, v18, v19, v20, v21, v22, v23, v24, v25, v26, v27])), (m1, .inl (mc1, 8, .inl ff))]) [0, 2] rfl
    have hKc := hK.sub (tys' := [(mc1, .int)]) [1] rfl
    have hDc := hD.sub (ws' := [(h0, .inr (7, [.ref m0, v1, v2, v3, v4, .ref m1, v6, v7, v8, v9, v10, v11, v12, v13, v14, v15, v16, v17, v18, v19, v20, v21, v22, v23, v24, v25, v26, v27])), (m1, .inl (mc1, 8, .inl ff))]) [0, 2] (by decide) rfl
    have hFc := va_free (wc := [(h0, .inr (7, [.ref m0, v1, v2, v3, v4, .ref m1, v6, v7, v8, v9, v10, v11, v12, v13, v14, v15, v16, v17, v18, v19, v20, v21, v22, v23, v24, v25, v26, v27])), (m1, .inl (mc1, 8, .inl ff))]) hD hS hA [0, 2] rfl
    refine va_calli (va_runV (As := [.int (-1000000001)]) (rest := []) ⟨hx, hb, hml, hown, hts⟩ (m_find_beyond l dC dI ad h0 (.ref m0) v1 v2 v3 v4 m1 v6 v7 v8 v9 v10 v11 v12 v13 v14 v15 v16 v17 v18 v19 v20 v21 v22 v23 v24 v25 v26 v27 mc1 ff s.heap.size ) (cwV 1 hts g_y_order_m_find_beyond_84 rfl rfl rfl (by decide +kernel) ⟨(Nat.le_of_ble_eq_true rfl), (Nat.le_of_ble_eq_true rfl)⟩) ⟨preM_blind, va_recv hKc hPc (ci := 7) (q0 := 0) rfl rfl, fun U hU hW => ⟨rfl, preM_at hU hW hPc hKc hDc hev⟩⟩ rfl rfl hl.1 rfl (lv_room (Nat.le_of_ble_eq_true rfl)) dX9_order_8 ⟨(Nat.le_of_ble_eq_true rfl), (Nat.le_of_ble_eq_true rfl)⟩) hS (fun q _ h => hFc q h) hFc (fun r_6 u t H1 locs ht hvm hw hB hz1 hk1 hS => ?_)
    obtain ⟨hP, hD⟩ := va_join (wr := [(m0, .inl (mc0, 38, .inl nf))]) (w1 := []) hP hD [0, 2] [1] rfl rfl (by decide) (by decide) hk1 hFc nil_P nil_D
    generalize H1 = H at hP hS ⊢
    have hP : va_P (dC, dI) vwCl [(m0, .inl (mc0, 38, .inl nf))] H := hP
    have hD : va_D A [(m0, .inl (mc0, 38, .inl nf))] := hD
    subst hw
    exact W.iret (v := (-1000000001)) hx hb hr (fun t ht hW => ⟨⟨(-1000000001), (), rfl, ⟨(fun h => rfl), (fun g0 h => (by first | rfl | (exfalso; simp only [fa_lt, fa_le, fa_eq, and_true, true_and, and_false, false_and, not_true_eq_false, not_false_eq_true, li_0, li_1, li_2, li_3, li_4, li_5, li_6, li_7, li_8, li_9, li_10, li_12, li_15, li_16, li_20, li_30, li_34, li_38, li_40, li_63, li_64, li_65, li_78, li_120, li_1000, li_4000, li_10000, li_11077, li_255, li_65535, li_m1, li_m2, li_m1000000001, li_m1000000002, li_m1000000003, li_m1000000004, li_m1000000005, li_m1000000006, li_m1000000007] at c_1 g0 h <;> omega) | (simp only [fa_lt, fa_le, fa_eq, and_true, true_and, and_false, false_and, not_true_eq_false, not_false_eq_true, li_0, li_1, li_2, li_3, li_4, li_5, li_6, li_7, li_8, li_9, li_10, li_12, li_15, li_16, li_20, li_30, li_34, li_38, li_40, li_63, li_64, li_65, li_78, li_120, li_1000, li_4000, li_10000, li_11077, li_255, li_65535, li_m1, li_m2, li_m1000000001, li_m1000000002, li_m1000000003, li_m1000000004, li_m1000000005, li_m1000000006, li_m1000000007] at c_1 g0 h ⊢ <;> omega))), (fun g0 g1 => (by first | rfl | (exfalso; simp only [fa_lt, fa_le, fa_eq, and_true, true_and, and_false, false_and, not_true_eq_false, not_false_eq_true, li_0, li_1, li_2, li_3, li_4, li_5, li_6, li_7, li_8, li_9, li_10, li_12, li_15, li_16, li_20, li_30, li_34, li_38, li_40, li_63, li_64, li_65, li_78, li_120, li_1000, li_4000, li_10000, li_11077, li_255, li_65535, li_m1, li_m2, li_m1000000001, li_m1000000002, li_m1000000003, li_m1000000004, li_m1000000005, li_m1000000006, li_m1000000007] at c_1 g0 g1 <;> omega) | (simp only [fa_lt, fa_le, fa_eq, and_true, true_and, and_false, false_and, not_true_eq_false, not_false_eq_true, li_0, li_1, li_2, li_3, li_4, li_5, li_6, li_7, li_8, li_9, li_10, li_12, li_15, li_16, li_20, li_30, li_34, li_38, li_40, li_63, li_64, li_65, li_78, li_120, li_1000, li_4000, li_10000, li_11077, li_255, li_65535, li_m1, li_m2, li_m1000000001, li_m1000000002, li_m1000000003, li_m1000000004, li_m1000000005, li_m1000000006, li_m1000000007] at c_1 g0 g1 ⊢ <;> omega)))⟩, trivial⟩, hS.F ht⟩) hS.2.2 dX9_order_11

def w_y_feed : List Cond := .code yX9_feed cX9_feed 4 (some .int) :: (([.methodLink RX9 75 yX9_within, .static yX9_within, .initialized RX9, .code yX9_within cX9_within 3 (some .boolean), .constant RX9 74 (-1000000001), .methodLink RX9 84 yX9_finding, .instanceMethod yX9_finding, .selects RX9 yX9_finding yX9_finding, .code yX9_finding cX9_finding 2 (some .int), .fieldLink RX9 23 "LampShapesModel" "found" "[I", .fieldLink RX9 188 "LampShapesModel" "taped" "I", .fieldLink RX9 32 "LampShapesModel" "tape" "[I"] : List Cond) ++ wsX90)
set_option maxRecDepth 20000 in
theorem g_y_feed_m_within_75 : GoodIn w_y_feed (va_wsS RX9 75 yX9_within w_m_within) := goodIn_r _ [1, 2, 3, 4] rfl (by decide +kernel)
set_option maxRecDepth 20000 in
theorem g_y_feed_m_find_beyond_84 : GoodIn w_y_feed (wsV RX9 84 RX9 yX9_finding w_m_find_beyond) := goodIn_r _ [6, 7, 8, 3, 9, 10, 5, 13, 14, 15, 16, 17, 18, 19, 20, 21, 22, 23, 24, 25, 26, 27, 28, 29, 30, 31, 32, 33, 34, 35, 36, 37, 38, 39, 40] rfl (by decide +kernel)
set_option maxHeartbeats 4000000 in
set_option maxRecDepth 100000 in
theorem y_feed (l : Launch) (dC : Nat → ClassId) (dI : Nat → Nat → Nat) (ad : Nat → Nat) (h0 : Nat) (a : Int32) (n : Int32) (v0 : Value) (v1 : Value) (v2 : Value) (v3 : Value) (v4 : Value) (m1 : Nat) (v6 : Value) (v7 : Value) (v8 : Value) (v9 : Value) (m2 : Nat) (v12 : Value) (v13 : Value) (v14 : Value) (v15 : Value) (v16 : Value) (v17 : Value) (v18 : Value) (v19 : Value) (v20 : Value) (v21 : Value) (v22 : Value) (v23 : Value) (v24 : Value) (v25 : Value) (v26 : Value) (v27 : Value) (mc1 : ClassId) (ff : Nat → Int32) (mc2 : ClassId) (tf : Nat → Int32) (sz : Nat) : Met l yX9_feed w_y_feed ({ frames := 1, cells := 0, slots := 0, locals := 22 } : Room) (va_Pc [.ref h0, .int a, .int n] (preM dC dI ad [(mc1, .int), (mc2, .int)] [(h0, .inr (7, [v0, v1, v2, v3, v4, .ref m1, v6, v7, v8, v9, .ref m2, .int 0, v12, v13, v14, v15, v16, v17, v18, v19, v20, v21, v22, v23, v24, v25, v26, v27])), (m1, .inl (mc1, 8, .inl ff)), (m2, .inl (mc2, 120, .inl tf))] sz)) (va_Qi (fun (r : Int32) (_ : Unit) => ((1 ≤ n ∧ n ≤ 4) → r = n) ∧ (¬ (1 ≤ n ∧ n ≤ 4) → r = (-1000000001))) (fun _ _ => True) (va_A [(h0, .inr (7, [v0, v1, v2, v3, v4, .ref m1, v6, v7, v8, v9, .ref m2, .int 0, v12, v13, v14, v15, v16, v17, v18, v19, v20, v21, v22, v23, v24, v25, v26, v27])), (m1, .inl (mc1, 8, .inl ff)), (m2, .inl (mc2, 120, .inl tf))] sz)) 0 0 (va_A [(h0, .inr (7, [v0, v1, v2, v3, v4, .ref m1, v6, v7, v8, v9, .ref m2, .int 0, v12, v13, v14, v15, v16, v17, v18, v19, v20, v21, v22, v23, v24, v25, v26, v27])), (m1, .inl (mc1, 8, .inl ff)), (m2, .inl (mc2, 120, .inl tf))] sz) := by
  rcases pp_c_1_4 n with hlt0 | hgt0 | rfl | rfl | rfl | rfl
  · skip
    refine Met.ofW (cc := cX9_feed) (maxL := 4) (ret := (some .int)) (by decide) rfl ?_
    intro p e s m args below meth c s₁ B hml hv
    obtain ⟨rfl, hsz, hP, hK, hD0, hev⟩ := hv
    have hx := B.exec
    have hb := B.bytes
    have hr := B.returns
    have hts := atoms_spec (ws := w_y_feed) B.pre
    have hown : s.vm.findClass RX9 = some m.cls := findClass_of_methodNamed B.named
    have hlocks := B.notSynchronized
    have inX9 : ∀ w ∈ wsX90, w ∈ w_y_feed := fun w h => List.mem_cons_of_mem _ (List.mem_append_right _ h)
    subst hsz
    have hD := hD0.self (sz := s.heap.size)
    generalize hAe : va_A [(h0, .inr (7, [v0, v1, v2, v3, v4, .ref m1, v6, v7, v8, v9, .ref m2, .int 0, v12, v13, v14, v15, v16, v17, v18, v19, v20, v21, v22, v23, v24, v25, v26, v27])), (m1, .inl (mc1, 8, .inl ff)), (m2, .inl (mc2, 120, .inl tf))] s.heap.size = A at hD ⊢
    have hA : ∀ q : Nat, s.heap.size ≤ q → A q := fun q h => by rw [← hAe]; exact Or.inr h
    have hS : va_S A s.heap s.heap [] := va_S.rf
    have hP : va_P (dC, dI) vwCl [(h0, .inr (7, [v0, v1, v2, v3, v4, .ref m1, v6, v7, v8, v9, .ref m2, .int 0, v12, v13, v14, v15, v16, v17, v18, v19, v20, v21, v22, v23, v24, v25, v26, v27])), (m1, .inl (mc1, 8, .inl ff)), (m2, .inl (mc2, 120, .inl tf))] s.heap := hP
    have hl := lv_entry ([.ref h0, .int a, .int n]) (n := 4) (Nat.le_of_ble_eq_true rfl)
    rw [lg_entry_eq]
    generalize (lg_sl ([.ref h0, .int a, .int n]) ++ List.replicate (4 - (lg_sl ([.ref h0, .int a, .int n])).length) Slot.unset).toArray = ls at hl ⊢
    have hl : lv_has ls 4 [(0, .ref h0), (1, .int a), (2, .int n)] := hl
    refine lv_iload_n hx hb dX9_feed_0 rfl (lv_at hl 2 rfl) ?_
    refine lv_iconst (v := 1) hx hb dX9_feed_1 (by decide) ?_
    refine lv_iconst (v := 4) hx hb dX9_feed_2 (by decide) ?_
    have hPc := hP.sub (ws' := []) [] rfl
    have hKc := hK.sub (tys' := []) [] rfl
    refine vp_callSi (W.runS (As := [.int n, .int 1, .int 4]) (rest := []) ⟨hx, hb, hml, hown, hts⟩ (m_within l dC dI ad n 1 4 ) (va_cwS 3 hts g_y_feed_m_within_75 rfl rfl rfl (by decide +kernel) ⟨(Nat.le_of_ble_eq_true rfl), (Nat.le_of_ble_eq_true rfl)⟩) ⟨preS_blind, fun U hU hW => ⟨rfl, preS_at hU hW hPc hKc hev⟩⟩ rfl rfl hl.1 rfl (lv_room (Nat.le_of_ble_eq_true rfl)) dX9_feed_3 ⟨(Nat.le_of_ble_eq_true rfl), (Nat.le_of_ble_eq_true rfl)⟩) (fun r_1 hw => ?_)
    by_cases c_2 : 1 ≤ n ∧ n ≤ 4
    · skip
      exfalso; simp only [fa_lt, fa_le, fa_eq, and_true, true_and, and_false, false_and, not_true_eq_false, not_false_eq_true, li_0, li_1, li_2, li_3, li_4, li_5, li_6, li_7, li_8, li_9, li_10, li_12, li_15, li_16, li_20, li_30, li_34, li_38, li_40, li_63, li_64, li_65, li_78, li_120, li_1000, li_4000, li_10000, li_11077, li_255, li_65535, li_m1, li_m2, li_m1000000001, li_m1000000002, li_m1000000003, li_m1000000004, li_m1000000005, li_m1000000006, li_m1000000007] at hlt0 c_2 <;> omega
    · skip
      have hw := hw.2 c_2
      subst hw
      refine lv_if_ne (tgt := 16) hx hb dX9_feed_6 (by decide) (fun c => absurd (by decide) c) (fun _ => ?_)
      refine lv_aload_n hx hb dX9_feed_9 rfl (lv_at hl 0 rfl) ?_
      refine lv_ldc hx hb hown (hts _ (List.mem_of_getElem? (i := 5) rfl)) dX9_feed_10 ?_
      have hPc := hP.sub (ws' := [(h0, .inr (7, [v0, v1, v2, v3, v4, .ref m1, v6, v7, v8, v9, .ref m2, .int 0, v12, v13, v14, v15, v16, v17, v18, v19, v20, v21, v22, v23, v24, v25, v26, v27])), (m1, .inl (mc1, 8, .inl ff))]) [0, 1] rfl
      have hKc := hK.sub (tys' := [(mc1, .int)]) [0] rfl
      have hDc := hD.sub (ws' := [(h0, .inr (7, [v0, v1, v2, v3, v4, .ref m1, v6, v7, v8, v9, .ref m2, .int 0, v12, v13, v14, v15, v16, v17, v18, v19, v20, v21, v22, v23, v24, v25, v26, v27])), (m1, .inl (mc1, 8, .inl ff))]) [0, 1] (by decide) rfl
      have hFc := va_free (wc := [(h0, .inr (7, [v0, v1, v2, v3, v4, .ref m1, v6, v7, v8, v9, .ref m2, .int 0, v12, v13, v14, v15, v16, v17, v18, v19, v20, v21, v22, v23, v24, v25, v26, v27])), (m1, .inl (mc1, 8, .inl ff))]) hD hS hA [0, 1] rfl
      refine va_calli (va_runV (As := [.int (-1000000001)]) (rest := []) ⟨hx, hb, hml, hown, hts⟩ (m_find_beyond l dC dI ad h0 v0 v1 v2 v3 v4 m1 v6 v7 v8 v9 (.ref m2) (.int 0) v12 v13 v14 v15 v16 v17 v18 v19 v20 v21 v22 v23 v24 v25 v26 v27 mc1 ff s.heap.size ) (cwV 1 hts g_y_feed_m_find_beyond_84 rfl rfl rfl (by decide +kernel) ⟨(Nat.le_of_ble_eq_true rfl), (Nat.le_of_ble_eq_true rfl)⟩) ⟨preM_blind, va_recv hKc hPc (ci := 7) (q0 := 0) rfl rfl, fun U hU hW => ⟨rfl, preM_at hU hW hPc hKc hDc hev⟩⟩ rfl rfl hl.1 rfl (lv_room (Nat.le_of_ble_eq_true rfl)) dX9_feed_12 ⟨(Nat.le_of_ble_eq_true rfl), (Nat.le_of_ble_eq_true rfl)⟩) hS (fun q _ h => hFc q h) hFc (fun r_3 u t H1 locs ht hvm hw hB hz1 hk1 hS => ?_)
      obtain ⟨hP, hD⟩ := va_join (wr := [(m2, .inl (mc2, 120, .inl tf))]) (w1 := []) hP hD [0, 1] [2] rfl rfl (by decide) (by decide) hk1 hFc nil_P nil_D
      generalize H1 = H at hP hS ⊢
      have hP : va_P (dC, dI) vwCl [(m2, .inl (mc2, 120, .inl tf))] H := hP
      have hD : va_D A [(m2, .inl (mc2, 120, .inl tf))] := hD
      subst hw
      exact W.iret (v := (-1000000001)) hx hb hr (fun t ht hW => ⟨⟨(-1000000001), (), rfl, ⟨(fun h => (by first | rfl | (exfalso; simp only [fa_lt, fa_le, fa_eq, and_true, true_and, and_false, false_and, not_true_eq_false, not_false_eq_true, li_0, li_1, li_2, li_3, li_4, li_5, li_6, li_7, li_8, li_9, li_10, li_12, li_15, li_16, li_20, li_30, li_34, li_38, li_40, li_63, li_64, li_65, li_78, li_120, li_1000, li_4000, li_10000, li_11077, li_255, li_65535, li_m1, li_m2, li_m1000000001, li_m1000000002, li_m1000000003, li_m1000000004, li_m1000000005, li_m1000000006, li_m1000000007] at hlt0 c_2 h <;> omega) | (simp only [fa_lt, fa_le, fa_eq, and_true, true_and, and_false, false_and, not_true_eq_false, not_false_eq_true, li_0, li_1, li_2, li_3, li_4, li_5, li_6, li_7, li_8, li_9, li_10, li_12, li_15, li_16, li_20, li_30, li_34, li_38, li_40, li_63, li_64, li_65, li_78, li_120, li_1000, li_4000, li_10000, li_11077, li_255, li_65535, li_m1, li_m2, li_m1000000001, li_m1000000002, li_m1000000003, li_m1000000004, li_m1000000005, li_m1000000006, li_m1000000007] at hlt0 c_2 h ⊢ <;> omega))), (fun g0 => rfl)⟩, trivial⟩, hS.F ht⟩) hS.2.2 dX9_feed_15
  · skip
    refine Met.ofW (cc := cX9_feed) (maxL := 4) (ret := (some .int)) (by decide) rfl ?_
    intro p e s m args below meth c s₁ B hml hv
    obtain ⟨rfl, hsz, hP, hK, hD0, hev⟩ := hv
    have hx := B.exec
    have hb := B.bytes
    have hr := B.returns
    have hts := atoms_spec (ws := w_y_feed) B.pre
    have hown : s.vm.findClass RX9 = some m.cls := findClass_of_methodNamed B.named
    have hlocks := B.notSynchronized
    have inX9 : ∀ w ∈ wsX90, w ∈ w_y_feed := fun w h => List.mem_cons_of_mem _ (List.mem_append_right _ h)
    subst hsz
    have hD := hD0.self (sz := s.heap.size)
    generalize hAe : va_A [(h0, .inr (7, [v0, v1, v2, v3, v4, .ref m1, v6, v7, v8, v9, .ref m2, .int 0, v12, v13, v14, v15, v16, v17, v18, v19, v20, v21, v22, v23, v24, v25, v26, v27])), (m1, .inl (mc1, 8, .inl ff)), (m2, .inl (mc2, 120, .inl tf))] s.heap.size = A at hD ⊢
    have hA : ∀ q : Nat, s.heap.size ≤ q → A q := fun q h => by rw [← hAe]; exact Or.inr h
    have hS : va_S A s.heap s.heap [] := va_S.rf
    have hP : va_P (dC, dI) vwCl [(h0, .inr (7, [v0, v1, v2, v3, v4, .ref m1, v6, v7, v8, v9, .ref m2, .int 0, v12, v13, v14, v15, v16, v17, v18, v19, v20, v21, v22, v23, v24, v25, v26, v27])), (m1, .inl (mc1, 8, .inl ff)), (m2, .inl (mc2, 120, .inl tf))] s.heap := hP
    have hl := lv_entry ([.ref h0, .int a, .int n]) (n := 4) (Nat.le_of_ble_eq_true rfl)
    rw [lg_entry_eq]
    generalize (lg_sl ([.ref h0, .int a, .int n]) ++ List.replicate (4 - (lg_sl ([.ref h0, .int a, .int n])).length) Slot.unset).toArray = ls at hl ⊢
    have hl : lv_has ls 4 [(0, .ref h0), (1, .int a), (2, .int n)] := hl
    refine lv_iload_n hx hb dX9_feed_0 rfl (lv_at hl 2 rfl) ?_
    refine lv_iconst (v := 1) hx hb dX9_feed_1 (by decide) ?_
    refine lv_iconst (v := 4) hx hb dX9_feed_2 (by decide) ?_
    have hPc := hP.sub (ws' := []) [] rfl
    have hKc := hK.sub (tys' := []) [] rfl
    refine vp_callSi (W.runS (As := [.int n, .int 1, .int 4]) (rest := []) ⟨hx, hb, hml, hown, hts⟩ (m_within l dC dI ad n 1 4 ) (va_cwS 3 hts g_y_feed_m_within_75 rfl rfl rfl (by decide +kernel) ⟨(Nat.le_of_ble_eq_true rfl), (Nat.le_of_ble_eq_true rfl)⟩) ⟨preS_blind, fun U hU hW => ⟨rfl, preS_at hU hW hPc hKc hev⟩⟩ rfl rfl hl.1 rfl (lv_room (Nat.le_of_ble_eq_true rfl)) dX9_feed_3 ⟨(Nat.le_of_ble_eq_true rfl), (Nat.le_of_ble_eq_true rfl)⟩) (fun r_4 hw => ?_)
    by_cases c_5 : 1 ≤ n ∧ n ≤ 4
    · skip
      exfalso; simp only [fa_lt, fa_le, fa_eq, and_true, true_and, and_false, false_and, not_true_eq_false, not_false_eq_true, li_0, li_1, li_2, li_3, li_4, li_5, li_6, li_7, li_8, li_9, li_10, li_12, li_15, li_16, li_20, li_30, li_34, li_38, li_40, li_63, li_64, li_65, li_78, li_120, li_1000, li_4000, li_10000, li_11077, li_255, li_65535, li_m1, li_m2, li_m1000000001, li_m1000000002, li_m1000000003, li_m1000000004, li_m1000000005, li_m1000000006, li_m1000000007] at hgt0 c_5 <;> omega
    · skip
      have hw := hw.2 c_5
      subst hw
      refine lv_if_ne (tgt := 16) hx hb dX9_feed_6 (by decide) (fun c => absurd (by decide) c) (fun _ => ?_)
      refine lv_aload_n hx hb dX9_feed_9 rfl (lv_at hl 0 rfl) ?_
      refine lv_ldc hx hb hown (hts _ (List.mem_of_getElem? (i := 5) rfl)) dX9_feed_10 ?_
      have hPc := hP.sub (ws' := [(h0, .inr (7, [v0, v1, v2, v3, v4, .ref m1, v6, v7, v8, v9, .ref m2, .int 0, v12, v13, v14, v15, v16, v17, v18, v19, v20, v21, v22, v23, v24, v25, v26, v27])), (m1, .inl (mc1, 8, .inl ff))]) [0, 1] rfl
      have hKc := hK.sub (tys' := [(mc1, .int)]) [0] rfl
      have hDc := hD.sub (ws' := [(h0, .inr (7, [v0, v1, v2, v3, v4, .ref m1, v6, v7, v8, v9, .ref m2, .int 0, v12, v13, v14, v15, v16, v17, v18, v19, v20, v21, v22, v23, v24, v25, v26, v27])), (m1, .inl (mc1, 8, .inl ff))]) [0, 1] (by decide) rfl
      have hFc := va_free (wc := [(h0, .inr (7, [v0, v1, v2, v3, v4, .ref m1, v6, v7, v8, v9, .ref m2, .int 0, v12, v13, v14, v15, v16, v17, v18, v19, v20, v21, v22, v23, v24, v25, v26, v27])), (m1, .inl (mc1, 8, .inl ff))]) hD hS hA [0, 1] rfl
      refine va_calli (va_runV (As := [.int (-1000000001)]) (rest := []) ⟨hx, hb, hml, hown, hts⟩ (m_find_beyond l dC dI ad h0 v0 v1 v2 v3 v4 m1 v6 v7 v8 v9 (.ref m2) (.int 0) v12 v13 v14 v15 v16 v17 v18 v19 v20 v21 v22 v23 v24 v25 v26 v27 mc1 ff s.heap.size ) (cwV 1 hts g_y_feed_m_find_beyond_84 rfl rfl rfl (by decide +kernel) ⟨(Nat.le_of_ble_eq_true rfl), (Nat.le_of_ble_eq_true rfl)⟩) ⟨preM_blind, va_recv hKc hPc (ci := 7) (q0 := 0) rfl rfl, fun U hU hW => ⟨rfl, preM_at hU hW hPc hKc hDc hev⟩⟩ rfl rfl hl.1 rfl (lv_room (Nat.le_of_ble_eq_true rfl)) dX9_feed_12 ⟨(Nat.le_of_ble_eq_true rfl), (Nat.le_of_ble_eq_true rfl)⟩) hS (fun q _ h => hFc q h) hFc (fun r_6 u t H1 locs ht hvm hw hB hz1 hk1 hS => ?_)
      obtain ⟨hP, hD⟩ := va_join (wr := [(m2, .inl (mc2, 120, .inl tf))]) (w1 := []) hP hD [0, 1] [2] rfl rfl (by decide) (by decide) hk1 hFc nil_P nil_D
      generalize H1 = H at hP hS ⊢
      have hP : va_P (dC, dI) vwCl [(m2, .inl (mc2, 120, .inl tf))] H := hP
      have hD : va_D A [(m2, .inl (mc2, 120, .inl tf))] := hD
      subst hw
      exact W.iret (v := (-1000000001)) hx hb hr (fun t ht hW => ⟨⟨(-1000000001), (), rfl, ⟨(fun h => (by first | rfl | (exfalso; simp only [fa_lt, fa_le, fa_eq, and_true, true_and, and_false, false_and, not_true_eq_false, not_false_eq_true, li_0, li_1, li_2, li_3, li_4, li_5, li_6, li_7, li_8, li_9, li_10, li_12, li_15, li_16, li_20, li_30, li_34, li_38, li_40, li_63, li_64, li_65, li_78, li_120, li_1000, li_4000, li_10000, li_11077, li_255, li_65535, li_m1, li_m2, li_m1000000001, li_m1000000002, li_m1000000003, li_m1000000004, li_m1000000005, li_m1000000006, li_m1000000007] at hgt0 c_5 h <;> omega) | (simp only [fa_lt, fa_le, fa_eq, and_true, true_and, and_false, false_and, not_true_eq_false, not_false_eq_true, li_0, li_1, li_2, li_3, li_4, li_5, li_6, li_7, li_8, li_9, li_10, li_12, li_15, li_16, li_20, li_30, li_34, li_38, li_40, li_63, li_64, li_65, li_78, li_120, li_1000, li_4000, li_10000, li_11077, li_255, li_65535, li_m1, li_m2, li_m1000000001, li_m1000000002, li_m1000000003, li_m1000000004, li_m1000000005, li_m1000000006, li_m1000000007] at hgt0 c_5 h ⊢ <;> omega))), (fun g0 => rfl)⟩, trivial⟩, hS.F ht⟩) hS.2.2 dX9_feed_15
  · skip
    refine Met.ofW (cc := cX9_feed) (maxL := 4) (ret := (some .int)) (by decide) rfl ?_
    intro p e s m args below meth c s₁ B hml hv
    obtain ⟨rfl, hsz, hP, hK, hD0, hev⟩ := hv
    have hx := B.exec
    have hb := B.bytes
    have hr := B.returns
    have hts := atoms_spec (ws := w_y_feed) B.pre
    have hown : s.vm.findClass RX9 = some m.cls := findClass_of_methodNamed B.named
    have hlocks := B.notSynchronized
    have inX9 : ∀ w ∈ wsX90, w ∈ w_y_feed := fun w h => List.mem_cons_of_mem _ (List.mem_append_right _ h)
    subst hsz
    have hD := hD0.self (sz := s.heap.size)
    generalize hAe : va_A [(h0, .inr (7, [v0, v1, v2, v3, v4, .ref m1, v6, v7, v8, v9, .ref m2, .int 0, v12, v13, v14, v15, v16, v17, v18, v19, v20, v21, v22, v23, v24, v25, v26, v27])), (m1, .inl (mc1, 8, .inl ff)), (m2, .inl (mc2, 120, .inl tf))] s.heap.size = A at hD ⊢
    have hA : ∀ q : Nat, s.heap.size ≤ q → A q := fun q h => by rw [← hAe]; exact Or.inr h
    have hS : va_S A s.heap s.heap [] := va_S.rf
    have hP : va_P (dC, dI) vwCl [(h0, .inr (7, [v0, v1, v2, v3, v4, .ref m1, v6, v7, v8, v9, .ref m2, .int 0, v12, v13, v14, v15, v16, v17, v18, v19, v20, v21, v22, v23, v24, v25, v26, v27])), (m1, .inl (mc1, 8, .inl ff)), (m2, .inl (mc2, 120, .inl tf))] s.heap := hP
    have hl := lv_entry ([.ref h0, .int a, .int 1]) (n := 4) (Nat.le_of_ble_eq_true rfl)
    rw [lg_entry_eq]
    generalize (lg_sl ([.ref h0, .int a, .int 1]) ++ List.replicate (4 - (lg_sl ([.ref h0, .int a, .int 1])).length) Slot.unset).toArray = ls at hl ⊢
    have hl : lv_has ls 4 [(0, .ref h0), (1, .int a), (2, .int 1)] := hl
    refine lv_iload_n hx hb dX9_feed_0 rfl (lv_at hl 2 rfl) ?_
    refine lv_iconst (v := 1) hx hb dX9_feed_1 (by decide) ?_
    refine lv_iconst (v := 4) hx hb dX9_feed_2 (by decide) ?_
    have hPc := hP.sub (ws' := []) [] rfl
    have hKc := hK.sub (tys' := []) [] rfl
    refine vp_callSi (W.runS (As := [.int 1, .int 1, .int 4]) (rest := []) ⟨hx, hb, hml, hown, hts⟩ (m_within l dC dI ad 1 1 4 ) (va_cwS 3 hts g_y_feed_m_within_75 rfl rfl rfl (by decide +kernel) ⟨(Nat.le_of_ble_eq_true rfl), (Nat.le_of_ble_eq_true rfl)⟩) ⟨preS_blind, fun U hU hW => ⟨rfl, preS_at hU hW hPc hKc hev⟩⟩ rfl rfl hl.1 rfl (lv_room (Nat.le_of_ble_eq_true rfl)) dX9_feed_3 ⟨(Nat.le_of_ble_eq_true rfl), (Nat.le_of_ble_eq_true rfl)⟩) (fun r_7 hw => ?_)
    have hw := hw.1 (by decide)
    subst hw
    refine lv_if_ne (tgt := 16) hx hb dX9_feed_6 (by decide) (fun _ => ?_) (fun c => absurd c (by decide))
    refine lv_aload_n hx hb dX9_feed_16 rfl (lv_at hl 0 rfl) ?_
    refine va_get (D := (dC, dI)) (ci := 7) (v := .int 0) (C := RX9) (T := TX9) (N := 28) hx hb hts inX9 hown hK hP 0 rfl rfl 11 (by decide) (hts _ (List.mem_of_getElem? (i := 11) rfl)) (fun _ h9 => h9) rfl dX9_feed_17 ?_
    refine lv_iload_n hx hb dX9_feed_20 rfl (lv_at hl 2 rfl) ?_
    refine lv_iadd hx hb dX9_feed_21 ?_
    refine pp_ti (y := 1) (by decide) ?_
    refine lv_bipush (v := 120) hx hb dX9_feed_22 (by decide) ?_
    refine lv_icmp_le (tgt := 34) hx hb dX9_feed_24 (by decide) (fun _ => ?_) (fun c => absurd (by decide) c)
    refine lv_iload_n hx hb dX9_feed_34 rfl (lv_at hl 2 rfl) ?_
    refine lv_iconst (v := 1) hx hb dX9_feed_35 (by decide) ?_
    refine lv_isub hx hb dX9_feed_36 ?_
    refine pp_ti (y := 0) (by decide) ?_
    refine lv_istore_n (lv' := [(3, .int 0), (0, .ref h0), (1, .int a), (2, .int 1)]) hx hb dX9_feed_37 rfl hl (by decide) rfl (fun ls hl => ?_)
    refine lv_iload_n hx hb dX9_feed_38 rfl (lv_at hl 0 rfl) ?_
    refine lv_if_lt (tgt := 77) hx hb dX9_feed_39 (by decide) (fun c => absurd c (by decide)) (fun _ => ?_)
    refine lv_aload_n hx hb dX9_feed_42 rfl (lv_at hl 1 rfl) ?_
    refine va_get (D := (dC, dI)) (ci := 7) (v := .ref m2) (C := RX9) (T := TX9) (N := 28) hx hb hts inX9 hown hK hP 0 rfl rfl 10 (by decide) (hts _ (List.mem_of_getElem? (i := 12) rfl)) (fun _ h9 => h9) rfl dX9_feed_43 ?_
    refine lv_aload_n hx hb dX9_feed_46 rfl (lv_at hl 1 rfl) ?_
    refine va_get (D := (dC, dI)) (ci := 7) (v := .int 0) (C := RX9) (T := TX9) (N := 28) hx hb hts inX9 hown hK hP 0 rfl rfl 11 (by decide) (hts _ (List.mem_of_getElem? (i := 11) rfl)) (fun _ h9 => h9) rfl dX9_feed_47 ?_
    refine lv_iload_n hx hb dX9_feed_50 rfl (lv_at hl 2 rfl) ?_
    refine lv_bipush (v := 8) hx hb dX9_feed_51 (by decide) ?_
    refine lv_iload_n hx hb dX9_feed_53 rfl (lv_at hl 0 rfl) ?_
    refine lv_imul hx hb dX9_feed_54 ?_
    refine pp_ti (y := 0) (by decide) ?_
    refine lv_ishr hx hb dX9_feed_55 ?_
    refine lv_sipush (v := 255) hx hb dX9_feed_56 (by decide) ?_
    refine lv_iand hx hb dX9_feed_59 ?_
    refine va_iast hx hb hK hP hD hS 2 1 rfl rfl (vp_in_nI (n := 0) (by decide) (by decide)) dX9_feed_60 (fun H locs hP hD hS => ?_)
    have hP : va_P (dC, dI) vwCl [(h0, .inr (7, [v0, v1, v2, v3, v4, .ref m1, v6, v7, v8, v9, .ref m2, .int 0, v12, v13, v14, v15, v16, v17, v18, v19, v20, v21, v22, v23, v24, v25, v26, v27])), (m1, .inl (mc1, 8, .inl ff)), (m2, .inl (mc2, 120, .inl (upd tf 0 ((a >>> (0 &&& 31)) &&& 255))))] H := hP
    have hD : va_D A [(h0, .inr (7, [v0, v1, v2, v3, v4, .ref m1, v6, v7, v8, v9, .ref m2, .int 0, v12, v13, v14, v15, v16, v17, v18, v19, v20, v21, v22, v23, v24, v25, v26, v27])), (m1, .inl (mc1, 8, .inl ff)), (m2, .inl (mc2, 120, .inl (upd tf 0 ((a >>> (0 &&& 31)) &&& 255))))] := hD
    refine lv_aload_n hx hb dX9_feed_61 rfl (lv_at hl 1 rfl) ?_
    refine lv_dup hx hb dX9_feed_62 rfl ?_
    refine va_get (D := (dC, dI)) (ci := 7) (v := .int 0) (C := RX9) (T := TX9) (N := 28) hx hb hts inX9 hown hK hP 0 rfl rfl 11 (by decide) (hts _ (List.mem_of_getElem? (i := 11) rfl)) (fun _ h9 => h9) rfl dX9_feed_63 ?_
    refine lv_iconst (v := 1) hx hb dX9_feed_66 (by decide) ?_
    refine lv_iadd hx hb dX9_feed_67 ?_
    refine pp_ti (y := 1) (by decide) ?_
    refine va_put (D := (dC, dI)) (ci := 7) (v := .int 1) (ty := .int) (C := RX9) (T := TX9) (N := 28) hx hb hts inX9 tyX9 tyX9_ok nmX9 hown hK hP hD hS 0 rfl rfl 11 (by decide) (hts _ (List.mem_of_getElem? (i := 11) rfl)) (fun _ h9 => h9) rfl (by decide +kernel) rfl rfl (Nat.le_of_ble_eq_true rfl) dX9_feed_68 (fun H locs hP hD hS => ?_)
    have hP : va_P (dC, dI) vwCl [(h0, .inr (7, [v0, v1, v2, v3, v4, .ref m1, v6, v7, v8, v9, .ref m2, .int 1, v12, v13, v14, v15, v16, v17, v18, v19, v20, v21, v22, v23, v24, v25, v26, v27])), (m1, .inl (mc1, 8, .inl ff)), (m2, .inl (mc2, 120, .inl (upd tf 0 ((a >>> (0 &&& 31)) &&& 255))))] H := hP
    have hD : va_D A [(h0, .inr (7, [v0, v1, v2, v3, v4, .ref m1, v6, v7, v8, v9, .ref m2, .int 1, v12, v13, v14, v15, v16, v17, v18, v19, v20, v21, v22, v23, v24, v25, v26, v27])), (m1, .inl (mc1, 8, .inl ff)), (m2, .inl (mc2, 120, .inl (upd tf 0 ((a >>> (0 &&& 31)) &&& 255))))] := hD
    refine lv_iinc (v := (-1)) (lv' := [(3, .int (-1)), (0, .ref h0), (1, .int a), (2, .int 1)]) hx hb dX9_feed_71 hl (k := 0) rfl (by decide) (by decide) rfl (fun ls hl => ?_)
    refine lv_goto (tgt := 38) hx hb dX9_feed_74 (by decide) ?_
    refine lv_iload_n hx hb dX9_feed_38 rfl (lv_at hl 0 rfl) ?_
    refine lv_if_lt (tgt := 77) hx hb dX9_feed_39 (by decide) (fun _ => ?_) (fun c => absurd (by decide) c)
    refine lv_aload_n hx hb dX9_feed_77 rfl (lv_at hl 1 rfl) ?_
    refine va_get (D := (dC, dI)) (ci := 7) (v := .int 1) (C := RX9) (T := TX9) (N := 28) hx hb hts inX9 hown hK hP 0 rfl rfl 11 (by decide) (hts _ (List.mem_of_getElem? (i := 11) rfl)) (fun _ h9 => h9) rfl dX9_feed_78 ?_
    exact W.iret (v := 1) hx hb hr (fun t ht hW => ⟨⟨1, (), rfl, ⟨(fun h => rfl), (fun g0 => (by first | rfl | (exfalso; simp only [fa_lt, fa_le, fa_eq, and_true, true_and, and_false, false_and, not_true_eq_false, not_false_eq_true, li_0, li_1, li_2, li_3, li_4, li_5, li_6, li_7, li_8, li_9, li_10, li_12, li_15, li_16, li_20, li_30, li_34, li_38, li_40, li_63, li_64, li_65, li_78, li_120, li_1000, li_4000, li_10000, li_11077, li_255, li_65535, li_m1, li_m2, li_m1000000001, li_m1000000002, li_m1000000003, li_m1000000004, li_m1000000005, li_m1000000006, li_m1000000007] at g0 <;> omega) | (simp only [fa_lt, fa_le, fa_eq, and_true, true_and, and_false, false_and, not_true_eq_false, not_false_eq_true, li_0, li_1, li_2, li_3, li_4, li_5, li_6, li_7, li_8, li_9, li_10, li_12, li_15, li_16, li_20, li_30, li_34, li_38, li_40, li_63, li_64, li_65, li_78, li_120, li_1000, li_4000, li_10000, li_11077, li_255, li_65535, li_m1, li_m2, li_m1000000001, li_m1000000002, li_m1000000003, li_m1000000004, li_m1000000005, li_m1000000006, li_m1000000007] at g0 ⊢ <;> omega)))⟩, trivial⟩, hS.F ht⟩) hS.2.2 dX9_feed_81
  · skip
    refine Met.ofW (cc := cX9_feed) (maxL := 4) (ret := (some .int)) (by decide) rfl ?_
    intro p e s m args below meth c s₁ B hml hv
    obtain ⟨rfl, hsz, hP, hK, hD0, hev⟩ := hv
    have hx := B.exec
    have hb := B.bytes
    have hr := B.returns
    have hts := atoms_spec (ws := w_y_feed) B.pre
    have hown : s.vm.findClass RX9 = some m.cls := findClass_of_methodNamed B.named
    have hlocks := B.notSynchronized
    have inX9 : ∀ w ∈ wsX90, w ∈ w_y_feed := fun w h => List.mem_cons_of_mem _ (List.mem_append_right _ h)
    subst hsz
    have hD := hD0.self (sz := s.heap.size)
    generalize hAe : va_A [(h0, .inr (7, [v0, v1, v2, v3, v4, .ref m1, v6, v7, v8, v9, .ref m2, .int 0, v12, v13, v14, v15, v16, v17, v18, v19, v20, v21, v22, v23, v24, v25, v26, v27])), (m1, .inl (mc1, 8, .inl ff)), (m2, .inl (mc2, 120, .inl tf))] s.heap.size = A at hD ⊢
    have hA : ∀ q : Nat, s.heap.size ≤ q → A q := fun q h => by rw [← hAe]; exact Or.inr h
    have hS : va_S A s.heap s.heap [] := va_S.rf
    have hP : va_P (dC, dI) vwCl [(h0, .inr (7, [v0, v1, v2, v3, v4, .ref m1, v6, v7, v8, v9, .ref m2, .int 0, v12, v13, v14, v15, v16, v17, v18, v19, v20, v21, v22, v23, v24, v25, v26, v27])), (m1, .inl (mc1, 8, .inl ff)), (m2, .inl (mc2, 120, .inl tf))] s.heap := hP
    have hl := lv_entry ([.ref h0, .int a, .int 2]) (n := 4) (Nat.le_of_ble_eq_true rfl)
    rw [lg_entry_eq]
    generalize (lg_sl ([.ref h0, .int a, .int 2]) ++ List.replicate (4 - (lg_sl ([.ref h0, .int a, .int 2])).length) Slot.unset).toArray = ls at hl ⊢
    have hl : lv_has ls 4 [(0, .ref h0), (1, .int a), (2, .int 2)] := hl
    refine lv_iload_n hx hb dX9_feed_0 rfl (lv_at hl 2 rfl) ?_
    refine lv_iconst (v := 1) hx hb dX9_feed_1 (by decide) ?_
    refine lv_iconst (v := 4) hx hb dX9_feed_2 (by decide) ?_
    have hPc := hP.sub (ws' := []) [] rfl
    have hKc := hK.sub (tys' := []) [] rfl
    refine vp_callSi (W.runS (As := [.int 2, .int 1, .int 4]) (rest := []) ⟨hx, hb, hml, hown, hts⟩ (m_within l dC dI ad 2 1 4 ) (va_cwS 3 hts g_y_feed_m_within_75 rfl rfl rfl (by decide +kernel) ⟨(Nat.le_of_ble_eq_true rfl), (Nat.le_of_ble_eq_true rfl)⟩) ⟨preS_blind, fun U hU hW => ⟨rfl, preS_at hU hW hPc hKc hev⟩⟩ rfl rfl hl.1 rfl (lv_room (Nat.le_of_ble_eq_true rfl)) dX9_feed_3 ⟨(Nat.le_of_ble_eq_true rfl), (Nat.le_of_ble_eq_true rfl)⟩) (fun r_8 hw => ?_)
    have hw := hw.1 (by decide)
    subst hw
    refine lv_if_ne (tgt := 16) hx hb dX9_feed_6 (by decide) (fun _ => ?_) (fun c => absurd c (by decide))
    refine lv_aload_n hx hb dX9_feed_16 rfl (lv_at hl 0 rfl) ?_
    refine va_get (D := (dC, dI)) (ci := 7) (v := .int 0) (C := RX9) (T := TX9) (N := 28) hx hb hts inX9 hown hK hP 0 rfl rfl 11 (by decide) (hts _ (List.mem_of_getElem? (i := 11) rfl)) (fun _ h9 => h9) rfl dX9_feed_17 ?_
    refine lv_iload_n hx hb dX9_feed_20 rfl (lv_at hl 2 rfl) ?_
    refine lv_iadd hx hb dX9_feed_21 ?_
    refine pp_ti (y := 2) (by decide) ?_
    refine lv_bipush (v := 120) hx hb dX9_feed_22 (by decide) ?_
    refine lv_icmp_le (tgt := 34) hx hb dX9_feed_24 (by decide) (fun _ => ?_) (fun c => absurd (by decide) c)
    refine lv_iload_n hx hb dX9_feed_34 rfl (lv_at hl 2 rfl) ?_
    refine lv_iconst (v := 1) hx hb dX9_feed_35 (by decide) ?_
    refine lv_isub hx hb dX9_feed_36 ?_
    refine pp_ti (y := 1) (by decide) ?_
    refine lv_istore_n (lv' := [(3, .int 1), (0, .ref h0), (1, .int a), (2, .int 2)]) hx hb dX9_feed_37 rfl hl (by decide) rfl (fun ls hl => ?_)
    refine lv_iload_n hx hb dX9_feed_38 rfl (lv_at hl 0 rfl) ?_
    refine lv_if_lt (tgt := 77) hx hb dX9_feed_39 (by decide) (fun c => absurd c (by decide)) (fun _ => ?_)
    refine lv_aload_n hx hb dX9_feed_42 rfl (lv_at hl 1 rfl) ?_
    refine va_get (D := (dC, dI)) (ci := 7) (v := .ref m2) (C := RX9) (T := TX9) (N := 28) hx hb hts inX9 hown hK hP 0 rfl rfl 10 (by decide) (hts _ (List.mem_of_getElem? (i := 12) rfl)) (fun _ h9 => h9) rfl dX9_feed_43 ?_
    refine lv_aload_n hx hb dX9_feed_46 rfl (lv_at hl 1 rfl) ?_
    refine va_get (D := (dC, dI)) (ci := 7) (v := .int 0) (C := RX9) (T := TX9) (N := 28) hx hb hts inX9 hown hK hP 0 rfl rfl 11 (by decide) (hts _ (List.mem_of_getElem? (i := 11) rfl)) (fun _ h9 => h9) rfl dX9_feed_47 ?_
    refine lv_iload_n hx hb dX9_feed_50 rfl (lv_at hl 2 rfl) ?_
    refine lv_bipush (v := 8) hx hb dX9_feed_51 (by decide) ?_
    refine lv_iload_n hx hb dX9_feed_53 rfl (lv_at hl 0 rfl) ?_
    refine lv_imul hx hb dX9_feed_54 ?_
    refine pp_ti (y := 8) (by decide) ?_
    refine lv_ishr hx hb dX9_feed_55 ?_
    refine lv_sipush (v := 255) hx hb dX9_feed_56 (by decide) ?_
    refine lv_iand hx hb dX9_feed_59 ?_
    refine va_iast hx hb hK hP hD hS 2 1 rfl rfl (vp_in_nI (n := 0) (by decide) (by decide)) dX9_feed_60 (fun H locs hP hD hS => ?_)
    have hP : va_P (dC, dI) vwCl [(h0, .inr (7, [v0, v1, v2, v3, v4, .ref m1, v6, v7, v8, v9, .ref m2, .int 0, v12, v13, v14, v15, v16, v17, v18, v19, v20, v21, v22, v23, v24, v25, v26, v27])), (m1, .inl (mc1, 8, .inl ff)), (m2, .inl (mc2, 120, .inl (upd tf 0 ((a >>> (8 &&& 31)) &&& 255))))] H := hP
    have hD : va_D A [(h0, .inr (7, [v0, v1, v2, v3, v4, .ref m1, v6, v7, v8, v9, .ref m2, .int 0, v12, v13, v14, v15, v16, v17, v18, v19, v20, v21, v22, v23, v24, v25, v26, v27])), (m1, .inl (mc1, 8, .inl ff)), (m2, .inl (mc2, 120, .inl (upd tf 0 ((a >>> (8 &&& 31)) &&& 255))))] := hD
    refine lv_aload_n hx hb dX9_feed_61 rfl (lv_at hl 1 rfl) ?_
    refine lv_dup hx hb dX9_feed_62 rfl ?_
    refine va_get (D := (dC, dI)) (ci := 7) (v := .int 0) (C := RX9) (T := TX9) (N := 28) hx hb hts inX9 hown hK hP 0 rfl rfl 11 (by decide) (hts _ (List.mem_of_getElem? (i := 11) rfl)) (fun _ h9 => h9) rfl dX9_feed_63 ?_
    refine lv_iconst (v := 1) hx hb dX9_feed_66 (by decide) ?_
    refine lv_iadd hx hb dX9_feed_67 ?_
    refine pp_ti (y := 1) (by decide) ?_
    refine va_put (D := (dC, dI)) (ci := 7) (v := .int 1) (ty := .int) (C := RX9) (T := TX9) (N := 28) hx hb hts inX9 tyX9 tyX9_ok nmX9 hown hK hP hD hS 0 rfl rfl 11 (by decide) (hts _ (List.mem_of_getElem? (i := 11) rfl)) (fun _ h9 => h9) rfl (by decide +kernel) rfl rfl (Nat.le_of_ble_eq_true rfl) dX9_feed_68 (fun H locs hP hD hS => ?_)
    have hP : va_P (dC, dI) vwCl [(h0, .inr (7, [v0, v1, v2, v3, v4, .ref m1, v6, v7, v8, v9, .ref m2, .int 1, v12, v13, v14, v15, v16, v17, v18, v19, v20, v21, v22, v23, v24, v25, v26, v27])), (m1, .inl (mc1, 8, .inl ff)), (m2, .inl (mc2, 120, .inl (upd tf 0 ((a >>> (8 &&& 31)) &&& 255))))] H := hP
    have hD : va_D A [(h0, .inr (7, [v0, v1, v2, v3, v4, .ref m1, v6, v7, v8, v9, .ref m2, .int 1, v12, v13, v14, v15, v16, v17, v18, v19, v20, v21, v22, v23, v24, v25, v26, v27])), (m1, .inl (mc1, 8, .inl ff)), (m2, .inl (mc2, 120, .inl (upd tf 0 ((a >>> (8 &&& 31)) &&& 255))))] := hD
    refine lv_iinc (v := 0) (lv' := [(3, .int 0), (0, .ref h0), (1, .int a), (2, .int 2)]) hx hb dX9_feed_71 hl (k := 0) rfl (by decide) (by decide) rfl (fun ls hl => ?_)
    refine lv_goto (tgt := 38) hx hb dX9_feed_74 (by decide) ?_
    refine lv_iload_n hx hb dX9_feed_38 rfl (lv_at hl 0 rfl) ?_
    refine lv_if_lt (tgt := 77) hx hb dX9_feed_39 (by decide) (fun c => absurd c (by decide)) (fun _ => ?_)
    refine lv_aload_n hx hb dX9_feed_42 rfl (lv_at hl 1 rfl) ?_
    refine va_get (D := (dC, dI)) (ci := 7) (v := .ref m2) (C := RX9) (T := TX9) (N := 28) hx hb hts inX9 hown hK hP 0 rfl rfl 10 (by decide) (hts _ (List.mem_of_getElem? (i := 12) rfl)) (fun _ h9 => h9) rfl dX9_feed_43 ?_
    refine lv_aload_n hx hb dX9_feed_46 rfl (lv_at hl 1 rfl) ?_
    refine va_get (D := (dC, dI)) (ci := 7) (v := .int 1) (C := RX9) (T := TX9) (N := 28) hx hb hts inX9 hown hK hP 0 rfl rfl 11 (by decide) (hts _ (List.mem_of_getElem? (i := 11) rfl)) (fun _ h9 => h9) rfl dX9_feed_47 ?_
    refine lv_iload_n hx hb dX9_feed_50 rfl (lv_at hl 2 rfl) ?_
    refine lv_bipush (v := 8) hx hb dX9_feed_51 (by decide) ?_
    refine lv_iload_n hx hb dX9_feed_53 rfl (lv_at hl 0 rfl) ?_
    refine lv_imul hx hb dX9_feed_54 ?_
    refine pp_ti (y := 0) (by decide) ?_
    refine lv_ishr hx hb dX9_feed_55 ?_
    refine lv_sipush (v := 255) hx hb dX9_feed_56 (by decide) ?_
    refine lv_iand hx hb dX9_feed_59 ?_
    refine va_iast hx hb hK hP hD hS 2 1 rfl rfl (vp_in_nI (n := 1) (by decide) (by decide)) dX9_feed_60 (fun H locs hP hD hS => ?_)
    have hP : va_P (dC, dI) vwCl [(h0, .inr (7, [v0, v1, v2, v3, v4, .ref m1, v6, v7, v8, v9, .ref m2, .int 1, v12, v13, v14, v15, v16, v17, v18, v19, v20, v21, v22, v23, v24, v25, v26, v27])), (m1, .inl (mc1, 8, .inl ff)), (m2, .inl (mc2, 120, .inl (upd (upd tf 0 ((a >>> (8 &&& 31)) &&& 255)) 1 ((a >>> (0 &&& 31)) &&& 255))))] H := hP
    have hD : va_D A [(h0, .inr (7, [v0, v1, v2, v3, v4, .ref m1, v6, v7, v8, v9, .ref m2, .int 1, v12, v13, v14, v15, v16, v17, v18, v19, v20, v21, v22, v23, v24, v25, v26, v27])), (m1, .inl (mc1, 8, .inl ff)), (m2, .inl (mc2, 120, .inl (upd (upd tf 0 ((a >>> (8 &&& 31)) &&& 255)) 1 ((a >>> (0 &&& 31)) &&& 255))))] := hD
    refine lv_aload_n hx hb dX9_feed_61 rfl (lv_at hl 1 rfl) ?_
    refine lv_dup hx hb dX9_feed_62 rfl ?_
    refine va_get (D := (dC, dI)) (ci := 7) (v := .int 1) (C := RX9) (T := TX9) (N := 28) hx hb hts inX9 hown hK hP 0 rfl rfl 11 (by decide) (hts _ (List.mem_of_getElem? (i := 11) rfl)) (fun _ h9 => h9) rfl dX9_feed_63 ?_
    refine lv_iconst (v := 1) hx hb dX9_feed_66 (by decide) ?_
    refine lv_iadd hx hb dX9_feed_67 ?_
    refine pp_ti (y := 2) (by decide) ?_
    refine va_put (D := (dC, dI)) (ci := 7) (v := .int 2) (ty := .int) (C := RX9) (T := TX9) (N := 28) hx hb hts inX9 tyX9 tyX9_ok nmX9 hown hK hP hD hS 0 rfl rfl 11 (by decide) (hts _ (List.mem_of_getElem? (i := 11) rfl)) (fun _ h9 => h9) rfl (by decide +kernel) rfl rfl (Nat.le_of_ble_eq_true rfl) dX9_feed_68 (fun H locs hP hD hS => ?_)
    have hP : va_P (dC, dI) vwCl [(h0, .inr (7, [v0, v1, v2, v3, v4, .ref m1, v6, v7, v8, v9, .ref m2, .int 2, v12, v13, v14, v15, v16, v17, v18, v19, v20, v21, v22, v23, v24, v25, v26, v27])), (m1, .inl (mc1, 8, .inl ff)), (m2, .inl (mc2, 120, .inl (upd (upd tf 0 ((a >>> (8 &&& 31)) &&& 255)) 1 ((a >>> (0 &&& 31)) &&& 255))))] H := hP
    have hD : va_D A [(h0, .inr (7, [v0, v1, v2, v3, v4, .ref m1, v6, v7, v8, v9, .ref m2, .int 2, v12, v13, v14, v15, v16, v17, v18, v19, v20, v21, v22, v23, v24, v25, v26, v27])), (m1, .inl (mc1, 8, .inl ff)), (m2, .inl (mc2, 120, .inl (upd (upd tf 0 ((a >>> (8 &&& 31)) &&& 255)) 1 ((a >>> (0 &&& 31)) &&& 255))))] := hD
    refine lv_iinc (v := (-1)) (lv' := [(3, .int (-1)), (0, .ref h0), (1, .int a), (2, .int 2)]) hx hb dX9_feed_71 hl (k := 0) rfl (by decide) (by decide) rfl (fun ls hl => ?_)
    refine lv_goto (tgt := 38) hx hb dX9_feed_74 (by decide) ?_
    refine lv_iload_n hx hb dX9_feed_38 rfl (lv_at hl 0 rfl) ?_
    refine lv_if_lt (tgt := 77) hx hb dX9_feed_39 (by decide) (fun _ => ?_) (fun c => absurd (by decide) c)
    refine lv_aload_n hx hb dX9_feed_77 rfl (lv_at hl 1 rfl) ?_
    refine va_get (D := (dC, dI)) (ci := 7) (v := .int 2) (C := RX9) (T := TX9) (N := 28) hx hb hts inX9 hown hK hP 0 rfl rfl 11 (by decide) (hts _ (List.mem_of_getElem? (i := 11) rfl)) (fun _ h9 => h9) rfl dX9_feed_78 ?_
    exact W.iret (v := 2) hx hb hr (fun t ht hW => ⟨⟨2, (), rfl, ⟨(fun h => rfl), (fun g0 => (by first | rfl | (exfalso; simp only [fa_lt, fa_le, fa_eq, and_true, true_and, and_false, false_and, not_true_eq_false, not_false_eq_true, li_0, li_1, li_2, li_3, li_4, li_5, li_6, li_7, li_8, li_9, li_10, li_12, li_15, li_16, li_20, li_30, li_34, li_38, li_40, li_63, li_64, li_65, li_78, li_120, li_1000, li_4000, li_10000, li_11077, li_255, li_65535, li_m1, li_m2, li_m1000000001, li_m1000000002, li_m1000000003, li_m1000000004, li_m1000000005, li_m1000000006, li_m1000000007] at g0 <;> omega) | (simp only [fa_lt, fa_le, fa_eq, and_true, true_and, and_false, false_and, not_true_eq_false, not_false_eq_true, li_0, li_1, li_2, li_3, li_4, li_5, li_6, li_7, li_8, li_9, li_10, li_12, li_15, li_16, li_20, li_30, li_34, li_38, li_40, li_63, li_64, li_65, li_78, li_120, li_1000, li_4000, li_10000, li_11077, li_255, li_65535, li_m1, li_m2, li_m1000000001, li_m1000000002, li_m1000000003, li_m1000000004, li_m1000000005, li_m1000000006, li_m1000000007] at g0 ⊢ <;> omega)))⟩, trivial⟩, hS.F ht⟩) hS.2.2 dX9_feed_81
  · skip
    refine Met.ofW (cc := cX9_feed) (maxL := 4) (ret := (some .int)) (by decide) rfl ?_
    intro p e s m args below meth c s₁ B hml hv
    obtain ⟨rfl, hsz, hP, hK, hD0, hev⟩ := hv
    have hx := B.exec
    have hb := B.bytes
    have hr := B.returns
    have hts := atoms_spec (ws := w_y_feed) B.pre
    have hown : s.vm.findClass RX9 = some m.cls := findClass_of_methodNamed B.named
    have hlocks := B.notSynchronized
    have inX9 : ∀ w ∈ wsX90, w ∈ w_y_feed := fun w h => List.mem_cons_of_mem _ (List.mem_append_right _ h)
    subst hsz
    have hD := hD0.self (sz := s.heap.size)
    generalize hAe : va_A [(h0, .inr (7, [v0, v1, v2, v3, v4, .ref m1, v6, v7, v8, v9, .ref m2, .int 0, v12, v13, v14, v15, v16, v17, v18, v19, v20, v21, v22, v23, v24, v25, v26, v27])), (m1, .inl (mc1, 8, .inl ff)), (m2, .inl (mc2, 120, .inl tf))] s.heap.size = A at hD ⊢
    have hA : ∀ q : Nat, s.heap.size ≤ q → A q := fun q h => by rw [← hAe]; exact Or.inr h
    have hS : va_S A s.heap s.heap [] := va_S.rf
    have hP : va_P (dC, dI) vwCl [(h0, .inr (7, [v0, v1, v2, v3, v4, .ref m1, v6, v7, v8, v9, .ref m2, .int 0, v12, v13, v14, v15, v16, v17, v18, v19, v20, v21, v22, v23, v24, v25, v26, v27])), (m1, .inl (mc1, 8, .inl ff)), (m2, .inl (mc2, 120, .inl tf))] s.heap := hP
    have hl := lv_entry ([.ref h0, .int a, .int 3]) (n := 4) (Nat.le_of_ble_eq_true rfl)
    rw [lg_entry_eq]
    generalize (lg_sl ([.ref h0, .int a, .int 3]) ++ List.replicate (4 - (lg_sl ([.ref h0, .int a, .int 3])).length) Slot.unset).toArray = ls at hl ⊢
    have hl : lv_has ls 4 [(0, .ref h0), (1, .int a), (2, .int 3)] := hl
    refine lv_iload_n hx hb dX9_feed_0 rfl (lv_at hl 2 rfl) ?_
    refine lv_iconst (v := 1) hx hb dX9_feed_1 (by decide) ?_
    refine lv_iconst (v := 4) hx hb dX9_feed_2 (by decide) ?_
    have hPc := hP.sub (ws' := []) [] rfl
    have hKc := hK.sub (tys' := []) [] rfl
    refine vp_callSi (W.runS (As := [.int 3, .int 1, .int 4]) (rest := []) ⟨hx, hb, hml, hown, hts⟩ (m_within l dC dI ad 3 1 4 ) (va_cwS 3 hts g_y_feed_m_within_75 rfl rfl rfl (by decide +kernel) ⟨(Nat.le_of_ble_eq_true rfl), (Nat.le_of_ble_eq_true rfl)⟩) ⟨preS_blind, fun U hU hW => ⟨rfl, preS_at hU hW hPc hKc hev⟩⟩ rfl rfl hl.1 rfl (lv_room (Nat.le_of_ble_eq_true rfl)) dX9_feed_3 ⟨(Nat.le_of_ble_eq_true rfl), (Nat.le_of_ble_eq_true rfl)⟩) (fun r_9 hw => ?_)
    have hw := hw.1 (by decide)
    subst hw
    refine lv_if_ne (tgt := 16) hx hb dX9_feed_6 (by decide) (fun _ => ?_) (fun c => absurd c (by decide))
    refine lv_aload_n hx hb dX9_feed_16 rfl (lv_at hl 0 rfl) ?_
    refine va_get (D := (dC, dI)) (ci := 7) (v := .int 0) (C := RX9) (T := TX9) (N := 28) hx hb hts inX9 hown hK hP 0 rfl rfl 11 (by decide) (hts _ (List.mem_of_getElem? (i := 11) rfl)) (fun _ h9 => h9) rfl dX9_feed_17 ?_
    refine lv_iload_n hx hb dX9_feed_20 rfl (lv_at hl 2 rfl) ?_
    refine lv_iadd hx hb dX9_feed_21 ?_
    refine pp_ti (y := 3) (by decide) ?_
    refine lv_bipush (v := 120) hx hb dX9_feed_22 (by decide) ?_
    refine lv_icmp_le (tgt := 34) hx hb dX9_feed_24 (by decide) (fun _ => ?_) (fun c => absurd (by decide) c)
    refine lv_iload_n hx hb dX9_feed_34 rfl (lv_at hl 2 rfl) ?_
    refine lv_iconst (v := 1) hx hb dX9_feed_35 (by decide) ?_
    refine lv_isub hx hb dX9_feed_36 ?_
    refine pp_ti (y := 2) (by decide) ?_
    refine lv_istore_n (lv' := [(3, .int 2), (0, .ref h0), (1, .int a), (2, .int 3)]) hx hb dX9_feed_37 rfl hl (by decide) rfl (fun ls hl => ?_)
    refine lv_iload_n hx hb dX9_feed_38 rfl (lv_at hl 0 rfl) ?_
    refine lv_if_lt (tgt := 77) hx hb dX9_feed_39 (by decide) (fun c => absurd c (by decide)) (fun _ => ?_)
    refine lv_aload_n hx hb dX9_feed_42 rfl (lv_at hl 1 rfl) ?_
    refine va_get (D := (dC, dI)) (ci := 7) (v := .ref m2) (C := RX9) (T := TX9) (N := 28) hx hb hts inX9 hown hK hP 0 rfl rfl 10 (by decide) (hts _ (List.mem_of_getElem? (i := 12) rfl)) (fun _ h9 => h9) rfl dX9_feed_43 ?_
    refine lv_aload_n hx hb dX9_feed_46 rfl (lv_at hl 1 rfl) ?_
    refine va_get (D := (dC, dI)) (ci := 7) (v := .int 0) (C := RX9) (T := TX9) (N := 28) hx hb hts inX9 hown hK hP 0 rfl rfl 11 (by decide) (hts _ (List.mem_of_getElem? (i := 11) rfl)) (fun _ h9 => h9) rfl dX9_feed_47 ?_
    refine lv_iload_n hx hb dX9_feed_50 rfl (lv_at hl 2 rfl) ?_
    refine lv_bipush (v := 8) hx hb dX9_feed_51 (by decide) ?_
    refine lv_iload_n hx hb dX9_feed_53 rfl (lv_at hl 0 rfl) ?_
    refine lv_imul hx hb dX9_feed_54 ?_
    refine pp_ti (y := 16) (by decide) ?_
    refine lv_ishr hx hb dX9_feed_55 ?_
    refine lv_sipush (v := 255) hx hb dX9_feed_56 (by decide) ?_
    refine lv_iand hx hb dX9_feed_59 ?_
    refine va_iast hx hb hK hP hD hS 2 1 rfl rfl (vp_in_nI (n := 0) (by decide) (by decide)) dX9_feed_60 (fun H locs hP hD hS => ?_)
    have hP : va_P (dC, dI) vwCl [(h0, .inr (7, [v0, v1, v2, v3, v4, .ref m1, v6, v7, v8, v9, .ref m2, .int 0, v12, v13, v14, v15, v16, v17, v18, v19, v20, v21, v22, v23, v24, v25, v26, v27])), (m1, .inl (mc1, 8, .inl ff)), (m2, .inl (mc2, 120, .inl (upd tf 0 ((a >>> (16 &&& 31)) &&& 255))))] H := hP
    have hD : va_D A [(h0, .inr (7, [v0, v1, v2, v3, v4, .ref m1, v6, v7, v8, v9, .ref m2, .int 0, v12, v13, v14, v15, v16, v17, v18, v19, v20, v21, v22, v23, v24, v25, v26, v27])), (m1, .inl (mc1, 8, .inl ff)), (m2, .inl (mc2, 120, .inl (upd tf 0 ((a >>> (16 &&& 31)) &&& 255))))] := hD
    refine lv_aload_n hx hb dX9_feed_61 rfl (lv_at hl 1 rfl) ?_
    refine lv_dup hx hb dX9_feed_62 rfl ?_
    refine va_get (D := (dC, dI)) (ci := 7) (v := .int 0) (C := RX9) (T := TX9) (N := 28) hx hb hts inX9 hown hK hP 0 rfl rfl 11 (by decide) (hts _ (List.mem_of_getElem? (i := 11) rfl)) (fun _ h9 => h9) rfl dX9_feed_63 ?_
    refine lv_iconst (v := 1) hx hb dX9_feed_66 (by decide) ?_
    refine lv_iadd hx hb dX9_feed_67 ?_
    refine pp_ti (y := 1) (by decide) ?_
    refine va_put (D := (dC, dI)) (ci := 7) (v := .int 1) (ty := .int) (C := RX9) (T := TX9) (N := 28) hx hb hts inX9 tyX9 tyX9_ok nmX9 hown hK hP hD hS 0 rfl rfl 11 (by decide) (hts _ (List.mem_of_getElem? (i := 11) rfl)) (fun _ h9 => h9) rfl (by decide +kernel) rfl rfl (Nat.le_of_ble_eq_true rfl) dX9_feed_68 (fun H locs hP hD hS => ?_)
    have hP : va_P (dC, dI) vwCl [(h0, .inr (7, [v0, v1, v2, v3, v4, .ref m1, v6, v7, v8, v9, .ref m2, .int 1, v12, v13, v14, v15, v16, v17, v18, v19, v20, v21, v22, v23, v24, v25, v26, v27])), (m1, .inl (mc1, 8, .inl ff)), (m2, .inl (mc2, 120, .inl (upd tf 0 ((a >>> (16 &&& 31)) &&& 255))))] H := hP
    have hD : va_D A [(h0, .inr (7, [v0, v1, v2, v3, v4, .ref m1, v6, v7, v8, v9, .ref m2, .int 1, v12, v13, v14, v15, v16, v17, v18, v19, v20, v21, v22, v23, v24, v25, v26, v27])), (m1, .inl (mc1, 8, .inl ff)), (m2, .inl (mc2, 120, .inl (upd tf 0 ((a >>> (16 &&& 31)) &&& 255))))] := hD
    refine lv_iinc (v := 1) (lv' := [(3, .int 1), (0, .ref h0), (1, .int a), (2, .int 3)]) hx hb dX9_feed_71 hl (k := 0) rfl (by decide) (by decide) rfl (fun ls hl => ?_)
    refine lv_goto (tgt := 38) hx hb dX9_feed_74 (by decide) ?_
    refine lv_iload_n hx hb dX9_feed_38 rfl (lv_at hl 0 rfl) ?_
    refine lv_if_lt (tgt := 77) hx hb dX9_feed_39 (by decide) (fun c => absurd c (by decide)) (fun _ => ?_)
    refine lv_aload_n hx hb dX9_feed_42 rfl (lv_at hl 1 rfl) ?_
    refine va_get (D := (dC, dI)) (ci := 7) (v := .ref m2) (C := RX9) (T := TX9) (N := 28) hx hb hts inX9 hown hK hP 0 rfl rfl 10 (by decide) (hts _ (List.mem_of_getElem? (i := 12) rfl)) (fun _ h9 => h9) rfl dX9_feed_43 ?_
    refine lv_aload_n hx hb dX9_feed_46 rfl (lv_at hl 1 rfl) ?_
    refine va_get (D := (dC, dI)) (ci := 7) (v := .int 1) (C := RX9) (T := TX9) (N := 28) hx hb hts inX9 hown hK hP 0 rfl rfl 11 (by decide) (hts _ (List.mem_of_getElem? (i := 11) rfl)) (fun _ h9 => h9) rfl dX9_feed_47 ?_
    refine lv_iload_n hx hb dX9_feed_50 rfl (lv_at hl 2 rfl) ?_
    refine lv_bipush (v := 8) hx hb dX9_feed_51 (by decide) ?_
    refine lv_iload_n hx hb dX9_feed_53 rfl (lv_at hl 0 rfl) ?_
    refine lv_imul hx hb dX9_feed_54 ?_
    refine pp_ti (y := 8) (by decide) ?_
    refine lv_ishr hx hb dX9_feed_55 ?_
    refine lv_sipush (v := 255) hx hb dX9_feed_56 (by decide) ?_
    refine lv_iand hx hb dX9_feed_59 ?_
    refine va_iast hx hb hK hP hD hS 2 1 rfl rfl (vp_in_nI (n := 1) (by decide) (by decide)) dX9_feed_60 (fun H locs hP hD hS => ?_)
    have hP : va_P (dC, dI) vwCl [(h0, .inr (7, [v0, v1, v2, v3, v4, .ref m1, v6, v7, v8, v9, .ref m2, .int 1, v12, v13, v14, v15, v16, v17, v18, v19, v20, v21, v22, v23, v24, v25, v26, v27])), (m1, .inl (mc1, 8, .inl ff)), (m2, .inl (mc2, 120, .inl (upd (upd tf 0 ((a >>> (16 &&& 31)) &&& 255)) 1 ((a >>> (8 &&& 31)) &&& 255))))] H := hP
    have hD : va_D A [(h0, .inr (7, [v0, v1, v2, v3, v4, .ref m1, v6, v7, v8, v9, .ref m2, .int 1, v12, v13, v14, v15, v16, v17, v18, v19, v20, v21, v22, v23, v24, v25, v26, v27])), (m1, .inl (mc1, 8, .inl ff)), (m2, .inl (mc2, 120, .inl (upd (upd tf 0 ((a >>> (16 &&& 31)) &&& 255)) 1 ((a >>> (8 &&& 31)) &&& 255))))] := hD
    refine lv_aload_n hx hb dX9_feed_61 rfl (lv_at hl 1 rfl) ?_
    refine lv_dup hx hb dX9_feed_62 rfl ?_
    refine va_get (D := (dC, dI)) (ci := 7) (v := .int 1) (C := RX9) (T := TX9) (N := 28) hx hb hts inX9 hown hK hP 0 rfl rfl 11 (by decide) (hts _ (List.mem_of_getElem? (i := 11) rfl)) (fun _ h9 => h9) rfl dX9_feed_63 ?_
    refine lv_iconst (v := 1) hx hb dX9_feed_66 (by decide) ?_
    refine lv_iadd hx hb dX9_feed_67 ?_
    refine pp_ti (y := 2) (by decide) ?_
    refine va_put (D := (dC, dI)) (ci := 7) (v := .int 2) (ty := .int) (C := RX9) (T := TX9) (N := 28) hx hb hts inX9 tyX9 tyX9_ok nmX9 hown hK hP hD hS 0 rfl rfl 11 (by decide) (hts _ (List.mem_of_getElem? (i := 11) rfl)) (fun _ h9 => h9) rfl (by decide +kernel) rfl rfl (Nat.le_of_ble_eq_true rfl) dX9_feed_68 (fun H locs hP hD hS => ?_)
    have hP : va_P (dC, dI) vwCl [(h0, .inr (7, [v0, v1, v2, v3, v4, .ref m1, v6, v7, v8, v9, .ref m2, .int 2, v12, v13, v14, v15, v16, v17, v18, v19, v20, v21, v22, v23, v24, v25, v26, v27])), (m1, .inl (mc1, 8, .inl ff)), (m2, .inl (mc2, 120, .inl (upd (upd tf 0 ((a >>> (16 &&& 31)) &&& 255)) 1 ((a >>> (8 &&& 31)) &&& 255))))] H := hP
    have hD : va_D A [(h0, .inr (7, [v0, v1, v2, v3, v4, .ref m1, v6, v7, v8, v9, .ref m2, .int 2, v12, v13, v14, v15, v16, v17, v18, v19, v20, v21, v22, v23, v24, v25, v26, v27])), (m1, .inl (mc1, 8, .inl ff)), (m2, .inl (mc2, 120, .inl (upd (upd tf 0 ((a >>> (16 &&& 31)) &&& 255)) 1 ((a >>> (8 &&& 31)) &&& 255))))] := hD
    refine lv_iinc (v := 0) (lv' := [(3, .int 0), (0, .ref h0), (1, .int a), (2, .int 3)]) hx hb dX9_feed_71 hl (k := 0) rfl (by decide) (by decide) rfl (fun ls hl => ?_)
    refine lv_goto (tgt := 38) hx hb dX9_feed_74 (by decide) ?_
    refine lv_iload_n hx hb dX9_feed_38 rfl (lv_at hl 0 rfl) ?_
    refine lv_if_lt (tgt := 77) hx hb dX9_feed_39 (by decide) (fun c => absurd c (by decide)) (fun _ => ?_)
    refine lv_aload_n hx hb dX9_feed_42 rfl (lv_at hl 1 rfl) ?_
    refine va_get (D := (dC, dI)) (ci := 7) (v := .ref m2) (C := RX9) (T := TX9) (N := 28) hx hb hts inX9 hown hK hP 0 rfl rfl 10 (by decide) (hts _ (List.mem_of_getElem? (i := 12) rfl)) (fun _ h9 => h9) rfl dX9_feed_43 ?_
    refine lv_aload_n hx hb dX9_feed_46 rfl (lv_at hl 1 rfl) ?_
    refine va_get (D := (dC, dI)) (ci := 7) (v := .int 2) (C := RX9) (T := TX9) (N := 28) hx hb hts inX9 hown hK hP 0 rfl rfl 11 (by decide) (hts _ (List.mem_of_getElem? (i := 11) rfl)) (fun _ h9 => h9) rfl dX9_feed_47 ?_
    refine lv_iload_n hx hb dX9_feed_50 rfl (lv_at hl 2 rfl) ?_
    refine lv_bipush (v := 8) hx hb dX9_feed_51 (by decide) ?_
    refine lv_iload_n hx hb dX9_feed_53 rfl (lv_at hl 0 rfl) ?_
    refine lv_imul hx hb dX9_feed_54 ?_
    refine pp_ti (y := 0) (by decide) ?_
    refine lv_ishr hx hb dX9_feed_55 ?_
    refine lv_sipush (v := 255) hx hb dX9_feed_56 (by decide) ?_
    refine lv_iand hx hb dX9_feed_59 ?_
    refine va_iast hx hb hK hP hD hS 2 1 rfl rfl (vp_in_nI (n := 2) (by decide) (by decide)) dX9_feed_60 (fun H locs hP hD hS => ?_)
    have hP : va_P (dC, dI) vwCl [(h0, .inr (7, [v0, v1, v2, v3, v4, .ref m1, v6, v7, v8, v9, .ref m2, .int 2, v12, v13, v14, v15, v16, v17, v18, v19, v20, v21, v22, v23, v24, v25, v26, v27])), (m1, .inl (mc1, 8, .inl ff)), (m2, .inl (mc2, 120, .inl (upd (upd (upd tf 0 ((a >>> (16 &&& 31)) &&& 255)) 1 ((a >>> (8 &&& 31)) &&& 255)) 2 ((a >>> (0 &&& 31)) &&& 255))))] H := hP
    have hD : va_D A [(h0, .inr (7, [v0, v1, v2, v3, v4, .ref m1, v6, v7, v8, v9, .ref m2, .int 2, v12, v13, v14, v15, v16, v17, v18, v19, v20, v21, v22, v23, v24, v25, v26, v27])), (m1, .inl (mc1, 8, .inl ff)), (m2, .inl (mc2, 120, .inl (upd (upd (upd tf 0 ((a >>> (16 &&& 31)) &&& 255)) 1 ((a >>> (8 &&& 31)) &&& 255)) 2 ((a >>> (0 &&& 31)) &&& 255))))] := hD
    refine lv_aload_n hx hb dX9_feed_61 rfl (lv_at hl 1 rfl) ?_
    refine lv_dup hx hb dX9_feed_62 rfl ?_
    refine va_get (D := (dC, dI)) (ci := 7) (v := .int 2) (C := RX9) (T := TX9) (N := 28) hx hb hts inX9 hown hK hP 0 rfl rfl 11 (by decide) (hts _ (List.mem_of_getElem? (i := 11) rfl)) (fun _ h9 => h9) rfl dX9_feed_63 ?_
    refine lv_iconst (v := 1) hx hb dX9_feed_66 (by decide) ?_
    refine lv_iadd hx hb dX9_feed_67 ?_
    refine pp_ti (y := 3) (by decide) ?_
    refine va_put (D := (dC, dI)) (ci := 7) (v := .int 3) (ty := .int) (C := RX9) (T := TX9) (N := 28) hx hb hts inX9 tyX9 tyX9_ok nmX9 hown hK hP hD hS 0 rfl rfl 11 (by decide) (hts _ (List.mem_of_getElem? (i := 11) rfl)) (fun _ h9 => h9) rfl (by decide +kernel) rfl rfl (Nat.le_of_ble_eq_true rfl) dX9_feed_68 (fun H locs hP hD hS => ?_)
    have hP : va_P (dC, dI) vwCl [(h0, .inr (7, [v0, v1, v2, v3, v4, .ref m1, v6, v7, v8, v9, .ref m2, .int 3, v12, v13, v14, v15, v16, v17, v18, v19, v20, v21, v22, v23, v24, v25, v26, v27])), (m1, .inl (mc1, 8, .inl ff)), (m2, .inl (mc2, 120, .inl (upd (upd (upd tf 0 ((a >>> (16 &&& 31)) &&& 255)) 1 ((a >>> (8 &&& 31)) &&& 255)) 2 ((a >>> (0 &&& 31)) &&& 255))))] H := hP
    have hD : va_D A [(h0, .inr (7, [v0, v1, v2, v3, v4, .ref m1, v6, v7, v8, v9, .ref m2, .int 3, v12, v13, v14, v15, v16, v17, v18, v19, v20, v21, v22, v23, v24, v25, v26, v27])), (m1, .inl (mc1, 8, .inl ff)), (m2, .inl (mc2, 120, .inl (upd (upd (upd tf 0 ((a >>> (16 &&& 31)) &&& 255)) 1 ((a >>> (8 &&& 31)) &&& 255)) 2 ((a >>> (0 &&& 31)) &&& 255))))] := hD
    refine lv_iinc (v := (-1)) (lv' := [(3, .int (-1)), (0, .ref h0), (1, .int a), (2, .int 3)]) hx hb dX9_feed_71 hl (k := 0) rfl (by decide) (by decide) rfl (fun ls hl => ?_)
    refine lv_goto (tgt := 38) hx hb dX9_feed_74 (by decide) ?_
    refine lv_iload_n hx hb dX9_feed_38 rfl (lv_at hl 0 rfl) ?_
    refine lv_if_lt (tgt := 77) hx hb dX9_feed_39 (by decide) (fun _ => ?_) (fun c => absurd (by decide) c)
    refine lv_aload_n hx hb dX9_feed_77 rfl (lv_at hl 1 rfl) ?_
    refine va_get (D := (dC, dI)) (ci := 7) (v := .int 3) (C := RX9) (T := TX9) (N := 28) hx hb hts inX9 hown hK hP 0 rfl rfl 11 (by decide) (hts _ (List.mem_of_getElem? (i := 11) rfl)) (fun _ h9 => h9) rfl dX9_feed_78 ?_
    exact W.iret (v := 3) hx hb hr (fun t ht hW => ⟨⟨3, (), rfl, ⟨(fun h => rfl), (fun g0 => (by first | rfl | (exfalso; simp only [fa_lt, fa_le, fa_eq, and_true, true_and, and_false, false_and, not_true_eq_false, not_false_eq_true, li_0, li_1, li_2, li_3, li_4, li_5, li_6, li_7, li_8, li_9, li_10, li_12, li_15, li_16, li_20, li_30, li_34, li_38, li_40, li_63, li_64, li_65, li_78, li_120, li_1000, li_4000, li_10000, li_11077, li_255, li_65535, li_m1, li_m2, li_m1000000001, li_m1000000002, li_m1000000003, li_m1000000004, li_m1000000005, li_m1000000006, li_m1000000007] at g0 <;> omega) | (simp only [fa_lt, fa_le, fa_eq, and_true, true_and, and_false, false_and, not_true_eq_false, not_false_eq_true, li_0, li_1, li_2, li_3, li_4, li_5, li_6, li_7, li_8, li_9, li_10, li_12, li_15, li_16, li_20, li_30, li_34, li_38, li_40, li_63, li_64, li_65, li_78, li_120, li_1000, li_4000, li_10000, li_11077, li_255, li_65535, li_m1, li_m2, li_m1000000001, li_m1000000002, li_m1000000003, li_m1000000004, li_m1000000005, li_m1000000006, li_m1000000007] at g0 ⊢ <;> omega)))⟩, trivial⟩, hS.F ht⟩) hS.2.2 dX9_feed_81
  · skip
    refine Met.ofW (cc := cX9_feed) (maxL := 4) (ret := (some .int)) (by decide) rfl ?_
    intro p e s m args below meth c s₁ B hml hv
    obtain ⟨rfl, hsz, hP, hK, hD0, hev⟩ := hv
    have hx := B.exec
    have hb := B.bytes
    have hr := B.returns
    have hts := atoms_spec (ws := w_y_feed) B.pre
    have hown : s.vm.findClass RX9 = some m.cls := findClass_of_methodNamed B.named
    have hlocks := B.notSynchronized
    have inX9 : ∀ w ∈ wsX90, w ∈ w_y_feed := fun w h => List.mem_cons_of_mem _ (List.mem_append_right _ h)
    subst hsz
    have hD := hD0.self (sz := s.heap.size)
    generalize hAe : va_A [(h0, .inr (7, [v0, v1, v2, v3, v4, .ref m1, v6, v7, v8, v9, .ref m2, .int 0, v12, v13, v14, v15, v16, v17, v18, v19, v20, v21, v22, v23, v24, v25, v26, v27])), (m1, .inl (mc1, 8, .inl ff)), (m2, .inl (mc2, 120, .inl tf))] s.heap.size = A at hD ⊢
    have hA : ∀ q : Nat, s.heap.size ≤ q → A q := fun q h => by rw [← hAe]; exact Or.inr h
    have hS : va_S A s.heap s.heap [] := va_S.rf
    have hP : va_P (dC, dI) vwCl [(h0, .inr (7, [v0, v1, v2, v3, v4, .ref m1, v6, v7, v8, v9, .ref m2, .int 0, v12, v13, v14, v15, v16, v17, v18, v19, v20, v21, v22, v23, v24, v25, v26, v27])), (m1, .inl (mc1, 8, .inl ff)), (m2, .inl (mc2, 120, .inl tf))] s.heap := hP
    have hl := lv_entry ([.ref h0, .int a, .int 4]) (n := 4) (Nat.le_of_ble_eq_true rfl)
    rw [lg_entry_eq]
    generalize (lg_sl ([.ref h0, .int a, .int 4]) ++ List.replicate (4 - (lg_sl ([.ref h0, .int a, .int 4])).length) Slot.unset).toArray = ls at hl ⊢
    have hl : lv_has ls 4 [(0, .ref h0), (1, .int a), (2, .int 4)] := hl
    refine lv_iload_n hx hb dX9_feed_0 rfl (lv_at hl 2 rfl) ?_
    refine lv_iconst (v := 1) hx hb dX9_feed_1 (by decide) ?_
    refine lv_iconst (v := 4) hx hb dX9_feed_2 (by decide) ?_
    have hPc := hP.sub (ws' := []) [] rfl
    have hKc := hK.sub (tys' := []) [] rfl
    refine vp_callSi (W.runS (As := [.int 4, .int 1, .int 4]) (rest := []) ⟨hx, hb, hml, hown, hts⟩ (m_within l dC dI ad 4 1 4 ) (va_cwS 3 hts g_y_feed_m_within_75 rfl rfl rfl (by decide +kernel) ⟨(Nat.le_of_ble_eq_true rfl), (Nat.le_of_ble_eq_true rfl)⟩) ⟨preS_blind, fun U hU hW => ⟨rfl, preS_at hU hW hPc hKc hev⟩⟩ rfl rfl hl.1 rfl (lv_room (Nat.le_of_ble_eq_true rfl)) dX9_feed_3 ⟨(Nat.le_of_ble_eq_true rfl), (Nat.le_of_ble_eq_true rfl)⟩) (fun r_10 hw => ?_)
    have hw := hw.1 (by decide)
    subst hw
    refine lv_if_ne (tgt := 16) hx hb dX9_feed_6 (by decide) (fun _ => ?_) (fun c => absurd c (by decide))
    refine lv_aload_n hx hb dX9_feed_16 rfl (lv_at hl 0 rfl) ?_
    refine va_get (D := (dC, dI)) (ci := 7) (v := .int 0) (C := RX9) (T := TX9) (N := 28) hx hb hts inX9 hown hK hP 0 rfl rfl 11 (by decide) (hts _ (List.mem_of_getElem? (i := 11) rfl)) (fun _ h9 => h9) rfl dX9_feed_17 ?_
    refine lv_iload_n hx hb dX9_feed_20 rfl (lv_at hl 2 rfl) ?_
    refine lv_iadd hx hb dX9_feed_21 ?_
    refine pp_ti (y := 4) (by decide) ?_
    refine lv_bipush (v := 120) hx hb dX9_feed_22 (by decide) ?_
    refine lv_icmp_le (tgt := 34) hx hb dX9_feed_24 (by decide) (fun _ => ?_) (fun c => absurd (by decide) c)
    refine lv_iload_n hx hb dX9_feed_34 rfl (lv_at hl 2 rfl) ?_
    refine lv_iconst (v := 1) hx hb dX9_feed_35 (by decide) ?_
    refine lv_isub hx hb dX9_feed_36 ?_
    refine pp_ti (y := 3) (by decide) ?_
    refine lv_istore_n (lv' := [(3, .int 3), (0, .ref h0), (1, .int a), (2, .int 4)]) hx hb dX9_feed_37 rfl hl (by decide) rfl (fun ls hl => ?_)
    refine lv_iload_n hx hb dX9_feed_38 rfl (lv_at hl 0 rfl) ?_
    refine lv_if_lt (tgt := 77) hx hb dX9_feed_39 (by decide) (fun c => absurd c (by decide)) (fun _ => ?_)
    refine lv_aload_n hx hb dX9_feed_42 rfl (lv_at hl 1 rfl) ?_
    refine va_get (D := (dC, dI)) (ci := 7) (v := .ref m2) (C := RX9) (T := TX9) (N := 28) hx hb hts inX9 hown hK hP 0 rfl rfl 10 (by decide) (hts _ (List.mem_of_getElem? (i := 12) rfl)) (fun _ h9 => h9) rfl dX9_feed_43 ?_
    refine lv_aload_n hx hb dX9_feed_46 rfl (lv_at hl 1 rfl) ?_
    refine va_get (D := (dC, dI)) (ci := 7) (v := .int 0) (C := RX9) (T := TX9) (N := 28) hx hb hts inX9 hown hK hP 0 rfl rfl 11 (by decide) (hts _ (List.mem_of_getElem? (i := 11) rfl)) (fun _ h9 => h9) rfl dX9_feed_47 ?_
    refine lv_iload_n hx hb dX9_feed_50 rfl (lv_at hl 2 rfl) ?_
    refine lv_bipush (v := 8) hx hb dX9_feed_51 (by decide) ?_
    refine lv_iload_n hx hb dX9_feed_53 rfl (lv_at hl 0 rfl) ?_
    refine lv_imul hx hb dX9_feed_54 ?_
    refine pp_ti (y := 24) (by decide) ?_
    refine lv_ishr hx hb dX9_feed_55 ?_
    refine lv_sipush (v := 255) hx hb dX9_feed_56 (by decide) ?_
    refine lv_iand hx hb dX9_feed_59 ?_
    refine va_iast hx hb hK hP hD hS 2 1 rfl rfl (vp_in_nI (n := 0) (by decide) (by decide)) dX9_feed_60 (fun H locs hP hD hS => ?_)
    have hP : va_P (dC, dI) vwCl [(h0, .inr (7, [v0, v1, v2, v3, v4, .ref m1, v6, v7, v8, v9, .ref m2, .int 0, v12, v13, v14, v15, v16, v17, v18, v19, v20, v21, v22, v23, v24, v25, v26, v27])), (m1, .inl (mc1, 8, .inl ff)), (m2, .inl (mc2, 120, .inl (upd tf 0 ((a >>> (24 &&& 31)) &&& 255))))] H := hP
    have hD : va_D A [(h0, .inr (7, [v0, v1, v2, v3, v4, .ref m1, v6, v7, v8, v9, .ref m2, .int 0, v12, v13, v14, v15, v16, v17, v18, v19, v20, v21, v22, v23, v24, v25, v26, v27])), (m1, .inl (mc1, 8, .inl ff)), (m2, .inl (mc2, 120, .inl (upd tf 0 ((a >>> (24 &&& 31)) &&& 255))))] := hD
    refine lv_aload_n hx hb dX9_feed_61 rfl (lv_at hl 1 rfl) ?_
    refine lv_dup hx hb dX9_feed_62 rfl ?_
    refine va_get (D := (dC, dI)) (ci := 7) (v := .int 0) (C := RX9) (T := TX9) (N := 28) hx hb hts inX9 hown hK hP 0 rfl rfl 11 (by decide) (hts _ (List.mem_of_getElem? (i := 11) rfl)) (fun _ h9 => h9) rfl dX9_feed_63 ?_
    refine lv_iconst (v := 1) hx hb dX9_feed_66 (by decide) ?_
    refine lv_iadd hx hb dX9_feed_67 ?_
    refine pp_ti (y := 1) (by decide) ?_
    refine va_put (D := (dC, dI)) (ci := 7) (v := .int 1) (ty := .int) (C := RX9) (T := TX9) (N := 28) hx hb hts inX9 tyX9 tyX9_ok nmX9 hown hK hP hD hS 0 rfl rfl 11 (by decide) (hts _ (List.mem_of_getElem? (i := 11) rfl)) (fun _ h9 => h9) rfl (by decide +kernel) rfl rfl (Nat.le_of_ble_eq_true rfl) dX9_feed_68 (fun H locs hP hD hS => ?_)
    have hP : va_P (dC, dI) vwCl [(h0, .inr (7, [v0, v1, v2, v3, v4, .ref m1, v6, v7, v8, v9, .ref m2, .int 1, v12, v13, v14, v15, v16, v17, v18, v19, v20, v21, v22, v23, v24, v25, v26, v27])), (m1, .inl (mc1, 8, .inl ff)), (m2, .inl (mc2, 120, .inl (upd tf 0 ((a >>> (24 &&& 31)) &&& 255))))] H := hP
    have hD : va_D A [(h0, .inr (7, [v0, v1, v2, v3, v4, .ref m1, v6, v7, v8, v9, .ref m2, .int 1, v12, v13, v14, v15, v16, v17, v18, v19, v20, v21, v22, v23, v24, v25, v26, v27])), (m1, .inl (mc1, 8, .inl ff)), (m2, .inl (mc2, 120, .inl (upd tf 0 ((a >>> (24 &&& 31)) &&& 255))))] := hD
    refine lv_iinc (v := 2) (lv' := [(3, .int 2), (0, .ref h0), (1, .int a), (2, .int 4)]) hx hb dX9_feed_71 hl (k := 0) rfl (by decide) (by decide) rfl (fun ls hl => ?_)
    refine lv_goto (tgt := 38) hx hb dX9_feed_74 (by decide) ?_
    refine lv_iload_n hx hb dX9_feed_38 rfl (lv_at hl 0 rfl) ?_
    refine lv_if_lt (tgt := 77) hx hb dX9_feed_39 (by decide) (fun c => absurd c (by decide)) (fun _ => ?_)
    refine lv_aload_n hx hb dX9_feed_42 rfl (lv_at hl 1 rfl) ?_
    refine va_get (D := (dC, dI)) (ci := 7) (v := .ref m2) (C := RX9) (T := TX9) (N := 28) hx hb hts inX9 hown hK hP 0 rfl rfl 10 (by decide) (hts _ (List.mem_of_getElem? (i := 12) rfl)) (fun _ h9 => h9) rfl dX9_feed_43 ?_
    refine lv_aload_n hx hb dX9_feed_46 rfl (lv_at hl 1 rfl) ?_
    refine va_get (D := (dC, dI)) (ci := 7) (v := .int 1) (C := RX9) (T := TX9) (N := 28) hx hb hts inX9 hown hK hP 0 rfl rfl 11 (by decide) (hts _ (List.mem_of_getElem? (i := 11) rfl)) (fun _ h9 => h9) rfl dX9_feed_47 ?_
    refine lv_iload_n hx hb dX9_feed_50 rfl (lv_at hl 2 rfl) ?_
    refine lv_bipush (v := 8) hx hb dX9_feed_51 (by decide) ?_
    refine lv_iload_n hx hb dX9_feed_53 rfl (lv_at hl 0 rfl) ?_
    refine lv_imul hx hb dX9_feed_54 ?_
    refine pp_ti (y := 16) (by decide) ?_
    refine lv_ishr hx hb dX9_feed_55 ?_
    refine lv_sipush (v := 255) hx hb dX9_feed_56 (by decide) ?_
    refine lv_iand hx hb dX9_feed_59 ?_
    refine va_iast hx hb hK hP hD hS 2 1 rfl rfl (vp_in_nI (n := 1) (by decide) (by decide)) dX9_feed_60 (fun H locs hP hD hS => ?_)
    have hP : va_P (dC, dI) vwCl [(h0, .inr (7, [v0, v1, v2, v3, v4, .ref m1, v6, v7, v8, v9, .ref m2, .int 1, v12, v13, v14, v15, v16, v17, v18, v19, v20, v21, v22, v23, v24, v25, v26, v27])), (m1, .inl (mc1, 8, .inl ff)), (m2, .inl (mc2, 120, .inl (upd (upd tf 0 ((a >>> (24 &&& 31)) &&& 255)) 1 ((a >>> (16 &&& 31)) &&& 255))))] H := hP
    have hD : va_D A [(h0, .inr (7, [v0, v1, v2, v3, v4, .ref m1, v6, v7, v8, v9, .ref m2, .int 1, v12, v13, v14, v15, v16, v17, v18, v19, v20, v21, v22, v23, v24, v25, v26, v27])), (m1, .inl (mc1, 8, .inl ff)), (m2, .inl (mc2, 120, .inl (upd (upd tf 0 ((a >>> (24 &&& 31)) &&& 255)) 1 ((a >>> (16 &&& 31)) &&& 255))))] := hD
    refine lv_aload_n hx hb dX9_feed_61 rfl (lv_at hl 1 rfl) ?_
    refine lv_dup hx hb dX9_feed_62 rfl ?_
    refine va_get (D := (dC, dI)) (ci := 7) (v := .int 1) (C := RX9) (T := TX9) (N := 28) hx hb hts inX9 hown hK hP 0 rfl rfl 11 (by decide) (hts _ (List.mem_of_getElem? (i := 11) rfl)) (fun _ h9 => h9) rfl dX9_feed_63 ?_
    refine lv_iconst (v := 1) hx hb dX9_feed_66 (by decide) ?_
    refine lv_iadd hx hb dX9_feed_67 ?_
    refine pp_ti (y := 2) (by decide) ?_
    refine va_put (D := (dC, dI)) (ci := 7) (v := .int 2) (ty := .int) (C := RX9) (T := TX9) (N := 28) hx hb hts inX9 tyX9 tyX9_ok nmX9 hown hK hP hD hS 0 rfl rfl 11 (by decide) (hts _ (List.mem_of_getElem? (i := 11) rfl)) (fun _ h9 => h9) rfl (by decide +kernel) rfl rfl (Nat.le_of_ble_eq_true rfl) dX9_feed_68 (fun H locs hP hD hS => ?_)
    have hP : va_P (dC, dI) vwCl [(h0, .inr (7, [v0, v1, v2, v3, v4, .ref m1, v6, v7, v8, v9, .ref m2, .int 2, v12, v13, v14, v15, v16, v17, v18, v19, v20, v21, v22, v23, v24, v25, v26, v27])), (m1, .inl (mc1, 8, .inl ff)), (m2, .inl (mc2, 120, .inl (upd (upd tf 0 ((a >>> (24 &&& 31)) &&& 255)) 1 ((a >>> (16 &&& 31)) &&& 255))))] H := hP
    have hD : va_D A [(h0, .inr (7, [v0, v1, v2, v3, v4, .ref m1, v6, v7, v8, v9, .ref m2, .int 2, v12, v13, v14, v15, v16, v17, v18, v19, v20, v21, v22, v23, v24, v25, v26, v27])), (m1, .inl (mc1, 8, .inl ff)), (m2, .inl (mc2, 120, .inl (upd (upd tf 0 ((a >>> (24 &&& 31)) &&& 255)) 1 ((a >>> (16 &&& 31)) &&& 255))))] := hD
    refine lv_iinc (v := 1) (lv' := [(3, .int 1), (0, .ref h0), (1, .int a), (2, .int 4)]) hx hb dX9_feed_71 hl (k := 0) rfl (by decide) (by decide) rfl (fun ls hl => ?_)
    refine lv_goto (tgt := 38) hx hb dX9_feed_74 (by decide) ?_
    refine lv_iload_n hx hb dX9_feed_38 rfl (lv_at hl 0 rfl) ?_
    refine lv_if_lt (tgt := 77) hx hb dX9_feed_39 (by decide) (fun c => absurd c (by decide)) (fun _ => ?_)
    refine lv_aload_n hx hb dX9_feed_42 rfl (lv_at hl 1 rfl) ?_
    refine va_get (D := (dC, dI)) (ci := 7) (v := .ref m2) (C := RX9) (T := TX9) (N := 28) hx hb hts inX9 hown hK hP 0 rfl rfl 10 (by decide) (hts _ (List.mem_of_getElem? (i := 12) rfl)) (fun _ h9 => h9) rfl dX9_feed_43 ?_
    refine lv_aload_n hx hb dX9_feed_46 rfl (lv_at hl 1 rfl) ?_
    refine va_get (D := (dC, dI)) (ci := 7) (v := .int 2) (C := RX9) (T := TX9) (N := 28) hx hb hts inX9 hown hK hP 0 rfl rfl 11 (by decide) (hts _ (List.mem_of_getElem? (i := 11) rfl)) (fun _ h9 => h9) rfl dX9_feed_47 ?_
    refine lv_iload_n hx hb dX9_feed_50 rfl (lv_at hl 2 rfl) ?_
    refine lv_bipush (v := 8) hx hb dX9_feed_51 (by decide) ?_
    refine lv_iload_n hx hb dX9_feed_53 rfl (lv_at hl 0 rfl) ?_
    refine lv_imul hx hb dX9_feed_54 ?_
    refine pp_ti (y := 8) (by decide) ?_
    refine lv_ishr hx hb dX9_feed_55 ?_
    refine lv_sipush (v := 255) hx hb dX9_feed_56 (by decide) ?_
    refine lv_iand hx hb dX9_feed_59 ?_
    refine va_iast hx hb hK hP hD hS 2 1 rfl rfl (vp_in_nI (n := 2) (by decide) (by decide)) dX9_feed_60 (fun H locs hP hD hS => ?_)
    have hP : va_P (dC, dI) vwCl [(h0, .inr (7, [v0, v1, v2, v3, v4, .ref m1, v6, v7, v8, v9, .ref m2, .int 2, v12, v13, v14, v15, v16, v17, v18, v19, v20, v21, v22, v23, v24, v25, v26, v27])), (m1, .inl (mc1, 8, .inl ff)), (m2, .inl (mc2, 120, .inl (upd (upd (upd tf 0 ((a >>> (24 &&& 31)) &&& 255)) 1 ((a >>> (16 &&& 31)) &&& 255)) 2 ((a >>> (8 &&& 31)) &&& 255))))] H := hP
    have hD : va_D A [(h0, .inr (7, [v0, v1, v2, v3, v4, .ref m1, v6, v7, v8, v9, .ref m2, .int 2, v12, v13, v14, v15, v16, v17, v18, v19, v20, v21, v22, v23, v24, v25, v26, v27])), (m1, .inl (mc1, 8, .inl ff)), (m2, .inl (mc2, 120, .inl (upd (upd (upd tf 0 ((a >>> (24 &&& 31)) &&& 255)) 1 ((a >>> (16 &&& 31)) &&& 255)) 2 ((a >>> (8 &&& 31)) &&& 255))))] := hD
    refine lv_aload_n hx hb dX9_feed_61 rfl (lv_at hl 1 rfl) ?_
    refine lv_dup hx hb dX9_feed_62 rfl ?_
    refine va_get (D := (dC, dI)) (ci := 7) (v := .int 2) (C := RX9) (T := TX9) (N := 28) hx hb hts inX9 hown hK hP 0 rfl rfl 11 (by decide) (hts _ (List.mem_of_getElem? (i := 11) rfl)) (fun _ h9 => h9) rfl dX9_feed_63 ?_
    refine lv_iconst (v := 1) hx hb dX9_feed_66 (by decide) ?_
    refine lv_iadd hx hb dX9_feed_67 ?_
    refine pp_ti (y := 3) (by decide) ?_
    refine va_put (D := (dC, dI)) (ci := 7) (v := .int 3) (ty := .int) (C := RX9) (T := TX9) (N := 28) hx hb hts inX9 tyX9 tyX9_ok nmX9 hown hK hP hD hS 0 rfl rfl 11 (by decide) (hts _ (List.mem_of_getElem? (i := 11) rfl)) (fun _ h9 => h9) rfl (by decide +kernel) rfl rfl (Nat.le_of_ble_eq_true rfl) dX9_feed_68 (fun H locs hP hD hS => ?_)
    have hP : va_P (dC, dI) vwCl [(h0, .inr (7, [v0, v1, v2, v3, v4, .ref m1, v6, v7, v8, v9, .ref m2, .int 3, v12, v13, v14, v15, v16, v17, v18, v19, v20, v21, v22, v23, v24, v25, v26, v27])), (m1, .inl (mc1, 8, .inl ff)), (m2, .inl (mc2, 120, .inl (upd (upd (upd tf 0 ((a >>> (24 &&& 31)) &&& 255)) 1 ((a >>> (16 &&& 31)) &&& 255)) 2 ((a >>> (8 &&& 31)) &&& 255))))] H := hP
    have hD : va_D A [(h0, .inr (7, [v0, v1, v2, v3, v4, .ref m1, v6, v7, v8, v9, .ref m2, .int 3, v12, v13, v14, v15, v16, v17, v18, v19, v20, v21, v22, v23, v24, v25, v26, v27])), (m1, .inl (mc1, 8, .inl ff)), (m2, .inl (mc2, 120, .inl (upd (upd (upd tf 0 ((a >>> (24 &&& 31)) &&& 255)) 1 ((a >>> (16 &&& 31)) &&& 255)) 2 ((a >>> (8 &&& 31)) &&& 255))))] := hD
    refine lv_iinc (v := 0) (lv' := [(3, .int 0), (0, .ref h0), (1, .int a), (2, .int 4)]) hx hb dX9_feed_71 hl (k := 0) rfl (by decide) (by decide) rfl (fun ls hl => ?_)
    refine lv_goto (tgt := 38) hx hb dX9_feed_74 (by decide) ?_
    refine lv_iload_n hx hb dX9_feed_38 rfl (lv_at hl 0 rfl) ?_
    refine lv_if_lt (tgt := 77) hx hb dX9_feed_39 (by decide) (fun c => absurd c (by decide)) (fun _ => ?_)
    refine lv_aload_n hx hb dX9_feed_42 rfl (lv_at hl 1 rfl) ?_
    refine va_get (D := (dC, dI)) (ci := 7) (v := .ref m2) (C := RX9) (T := TX9) (N := 28) hx hb hts inX9 hown hK hP 0 rfl rfl 10 (by decide) (hts _ (List.mem_of_getElem? (i := 12) rfl)) (fun _ h9 => h9) rfl dX9_feed_43 ?_
    refine lv_aload_n hx hb dX9_feed_46 rfl (lv_at hl 1 rfl) ?_
    refine va_get (D := (dC, dI)) (ci := 7) (v := .int 3) (C := RX9) (T := TX9) (N := 28) hx hb hts inX9 hown hK hP 0 rfl rfl 11 (by decide) (hts _ (List.mem_of_getElem? (i := 11) rfl)) (fun _ h9 => h9) rfl dX9_feed_47 ?_
    refine lv_iload_n hx hb dX9_feed_50 rfl (lv_at hl 2 rfl) ?_
    refine lv_bipush (v := 8) hx hb dX9_feed_51 (by decide) ?_
    refine lv_iload_n hx hb dX9_feed_53 rfl (lv_at hl 0 rfl) ?_
    refine lv_imul hx hb dX9_feed_54 ?_
    refine pp_ti (y := 0) (by decide) ?_
    refine lv_ishr hx hb dX9_feed_55 ?_
    refine lv_sipush (v := 255) hx hb dX9_feed_56 (by decide) ?_
    refine lv_iand hx hb dX9_feed_59 ?_
    refine va_iast hx hb hK hP hD hS 2 1 rfl rfl (vp_in_nI (n := 3) (by decide) (by decide)) dX9_feed_60 (fun H locs hP hD hS => ?_)
    have hP : va_P (dC, dI) vwCl [(h0, .inr (7, [v0, v1, v2, v3, v4, .ref m1, v6, v7, v8, v9, .ref m2, .int 3, v12, v13, v14, v15, v16, v17, v18, v19, v20, v21, v22, v23, v24, v25, v26, v27])), (m1, .inl (mc1, 8, .inl ff)), (m2, .inl (mc2, 120, .inl (upd (upd (upd (upd tf 0 ((a >>> (24 &&& 31)) &&& 255)) 1 ((a >>> (16 &&& 31)) &&& 255)) 2 ((a >>> (8 &&& 31)) &&& 255)) 3 ((a >>> (0 &&& 31)) &&& 255))))] H := hP
    have hD : va_D A [(h0, .inr (7, [v0, v1, v2, v3, v4, .ref m1, v6, v7, v8, v9, .ref m2, .int 3, v12, v13, v14, v15, v16, v17, v18, v19, v20, v21, v22, v23, v24, v25, v26, v27])), (m1, .inl (mc1, 8, .inl ff)), (m2, .inl (mc2, 120, .inl (upd (upd (upd (upd tf 0 ((a >>> (24 &&& 31)) &&& 255)) 1 ((a >>> (16 &&& 31)) &&& 255)) 2 ((a >>> (8 &&& 31)) &&& 255)) 3 ((a >>> (0 &&& 31)) &&& 255))))] := hD
    refine lv_aload_n hx hb dX9_feed_61 rfl (lv_at hl 1 rfl) ?_
    refine lv_dup hx hb dX9_feed_62 rfl ?_
    refine va_get (D := (dC, dI)) (ci := 7) (v := .int 3) (C := RX9) (T := TX9) (N := 28) hx hb hts inX9 hown hK hP 0 rfl rfl 11 (by decide) (hts _ (List.mem_of_getElem? (i := 11) rfl)) (fun _ h9 => h9) rfl dX9_feed_63 ?_
    refine lv_iconst (v := 1) hx hb dX9_feed_66 (by decide) ?_
    refine lv_iadd hx hb dX9_feed_67 ?_
    refine pp_ti (y := 4) (by decide) ?_
    refine va_put (D := (dC, dI)) (ci := 7) (v := .int 4) (ty := .int) (C := RX9) (T := TX9) (N := 28) hx hb hts inX9 tyX9 tyX9_ok nmX9 hown hK hP hD hS 0 rfl rfl 11 (by decide) (hts _ (List.mem_of_getElem? (i := 11) rfl)) (fun _ h9 => h9) rfl (by decide +kernel) rfl rfl (Nat.le_of_ble_eq_true rfl) dX9_feed_68 (fun H locs hP hD hS => ?_)
    have hP : va_P (dC, dI) vwCl [(h0, .inr (7, [v0, v1, v2, v3, v4, .ref m1, v6, v7, v8, v9, .ref m2, .int 4, v12, v13, v14, v15, v16, v17, v18, v19, v20, v21, v22, v23, v24, v25, v26, v27])), (m1, .inl (mc1, 8, .inl ff)), (m2, .inl (mc2, 120, .inl (upd (upd (upd (upd tf 0 ((a >>> (24 &&& 31)) &&& 255)) 1 ((a >>> (16 &&& 31)) &&& 255)) 2 ((a >>> (8 &&& 31)) &&& 255)) 3 ((a >>> (0 &&& 31)) &&& 255))))] H := hP
    have hD : va_D A [(h0, .inr (7, [v0, v1, v2, v3, v4, .ref m1, v6, v7, v8, v9, .ref m2, .int 4, v12, v13, v14, v15, v16, v17, v18, v19, v20, v21, v22, v23, v24, v25, v26, v27])), (m1, .inl (mc1, 8, .inl ff)), (m2, .inl (mc2, 120, .inl (upd (upd (upd (upd tf 0 ((a >>> (24 &&& 31)) &&& 255)) 1 ((a >>> (16 &&& 31)) &&& 255)) 2 ((a >>> (8 &&& 31)) &&& 255)) 3 ((a >>> (0 &&& 31)) &&& 255))))] := hD
    refine lv_iinc (v := (-1)) (lv' := [(3, .int (-1)), (0, .ref h0), (1, .int a), (2, .int 4)]) hx hb dX9_feed_71 hl (k := 0) rfl (by decide) (by decide) rfl (fun ls hl => ?_)
    refine lv_goto (tgt := 38) hx hb dX9_feed_74 (by decide) ?_
    refine lv_iload_n hx hb dX9_feed_38 rfl (lv_at hl 0 rfl) ?_
    refine lv_if_lt (tgt := 77) hx hb dX9_feed_39 (by decide) (fun _ => ?_) (fun c => absurd (by decide) c)
    refine lv_aload_n hx hb dX9_feed_77 rfl (lv_at hl 1 rfl) ?_
    refine va_get (D := (dC, dI)) (ci := 7) (v := .int 4) (C := RX9) (T := TX9) (N := 28) hx hb hts inX9 hown hK hP 0 rfl rfl 11 (by decide) (hts _ (List.mem_of_getElem? (i := 11) rfl)) (fun _ h9 => h9) rfl dX9_feed_78 ?_
    exact W.iret (v := 4) hx hb hr (fun t ht hW => ⟨⟨4, (), rfl, ⟨(fun h => rfl), (fun g0 => (by first | rfl | (exfalso; simp only [fa_lt, fa_le, fa_eq, and_true, true_and, and_false, false_and, not_true_eq_false, not_false_eq_true, li_0, li_1, li_2, li_3, li_4, li_5, li_6, li_7, li_8, li_9, li_10, li_12, li_15, li_16, li_20, li_30, li_34, li_38, li_40, li_63, li_64, li_65, li_78, li_120, li_1000, li_4000, li_10000, li_11077, li_255, li_65535, li_m1, li_m2, li_m1000000001, li_m1000000002, li_m1000000003, li_m1000000004, li_m1000000005, li_m1000000006, li_m1000000007] at g0 <;> omega) | (simp only [fa_lt, fa_le, fa_eq, and_true, true_and, and_false, false_and, not_true_eq_false, not_false_eq_true, li_0, li_1, li_2, li_3, li_4, li_5, li_6, li_7, li_8, li_9, li_10, li_12, li_15, li_16, li_20, li_30, li_34, li_38, li_40, li_63, li_64, li_65, li_78, li_120, li_1000, li_4000, li_10000, li_11077, li_255, li_65535, li_m1, li_m2, li_m1000000001, li_m1000000002, li_m1000000003, li_m1000000004, li_m1000000005, li_m1000000006, li_m1000000007] at g0 ⊢ <;> omega)))⟩, trivial⟩, hS.F ht⟩) hS.2.2 dX9_feed_81

def w_y_wipe : List Cond := .code yX9_wipe cX9_wipe 2 (some .int) :: (([.fieldLink RX9 188 "LampShapesModel" "taped" "I"] : List Cond) ++ wsX90)
set_option maxHeartbeats 4000000 in
set_option maxRecDepth 100000 in
theorem y_wipe (l : Launch) (dC : Nat → ClassId) (dI : Nat → Nat → Nat) (ad : Nat → Nat) (h0 : Nat) (v0 : Value) (v1 : Value) (v2 : Value) (v3 : Value) (v4 : Value) (v5 : Value) (v6 : Value) (v7 : Value) (v8 : Value) (v9 : Value) (v10 : Value) (v12 : Value) (v13 : Value) (v14 : Value) (v15 : Value) (v16 : Value) (v17 : Value) (v18 : Value) (v19 : Value) (v20 : Value) (v21 : Value) (v22 : Value) (v23 : Value) (v24 : Value) (v25 : Value) (v26 : Value) (v27 : Value) (sz : Nat) : Met l yX9_wipe w_y_wipe ({ frames := 0, cells := 0, slots := 0, locals := 0 } : Room) (va_Pc [.ref h0] (preM dC dI ad [] [(h0, .inr (7, [v0, v1, v2, v3, v4, v5, v6, v7, v8, v9, v10, .int 0, v12, v13, v14, v15, v16, v17, v18, v19, v20, v21, v22, v23, v24, v25, v26, v27]))] sz)) (va_Qi (fun (r : Int32) (_ : Unit) => (r = 0)) (fun _ _ => True) (va_A [(h0, .inr (7, [v0, v1, v2, v3, v4, v5, v6, v7, v8, v9, v10, .int 0, v12, v13, v14, v15, v16, v17, v18, v19, v20, v21, v22, v23, v24, v25, v26, v27]))] sz)) 0 0 (va_A [(h0, .inr (7, [v0, v1, v2, v3, v4, v5, v6, v7, v8, v9, v10, .int 0, v12, v13, v14, v15, v16, v17, v18, v19, v20, v21, v22, v23, v24, v25, v26, v27]))] sz) := by
  refine Met.ofW (cc := cX9_wipe) (maxL := 2) (ret := (some .int)) (by decide) rfl ?_
  intro p e s m args below meth c s₁ B hml hv
  obtain ⟨rfl, hsz, hP, hK, hD0, hev⟩ := hv
  have hx := B.exec
  have hb := B.bytes
  have hr := B.returns
  have hts := atoms_spec (ws := w_y_wipe) B.pre
  have hown : s.vm.findClass RX9 = some m.cls := findClass_of_methodNamed B.named
  have hlocks := B.notSynchronized
  have inX9 : ∀ w ∈ wsX90, w ∈ w_y_wipe := fun w h => List.mem_cons_of_mem _ (List.mem_append_right _ h)
  subst hsz
  have hD := hD0.self (sz := s.heap.size)
  generalize hAe : va_A [(h0, .inr (7, [v0, v1, v2, v3, v4, v5, v6, v7, v8, v9, v10, .int 0, v12, v13, v14, v15, v16, v17, v18, v19, v20, v21, v22, v23, v24, v25, v26, v27]))] s.heap.size = A at hD ⊢
  have hA : ∀ q : Nat, s.heap.size ≤ q → A q := fun q h => by rw [← hAe]; exact Or.inr h
  have hS : va_S A s.heap s.heap [] := va_S.rf
  have hP : va_P (dC, dI) vwCl [(h0, .inr (7, [v0, v1, v2, v3, v4, v5, v6, v7, v8, v9, v10, .int 0, v12, v13, v14, v15, v16, v17, v18, v19, v20, v21, v22, v23, v24, v25, v26, v27]))] s.heap := hP
  have hl := lv_entry ([.ref h0]) (n := 2) (Nat.le_of_ble_eq_true rfl)
  rw [lg_entry_eq]
  generalize (lg_sl ([.ref h0]) ++ List.replicate (2 - (lg_sl ([.ref h0])).length) Slot.unset).toArray = ls at hl ⊢
  have hl : lv_has ls 2 [(0, .ref h0)] := hl
  refine lv_aload_n hx hb dX9_wipe_0 rfl (lv_at hl 0 rfl) ?_
  refine va_get (D := (dC, dI)) (ci := 7) (v := .int 0) (C := RX9) (T := TX9) (N := 28) hx hb hts inX9 hown hK hP 0 rfl rfl 11 (by decide) (hts _ (List.mem_of_getElem? (i := 1) rfl)) (fun _ h9 => h9) rfl dX9_wipe_1 ?_
  refine lv_istore_n (lv' := [(1, .int 0), (0, .ref h0)]) hx hb dX9_wipe_4 rfl hl (by decide) rfl (fun ls hl => ?_)
  refine lv_aload_n hx hb dX9_wipe_5 rfl (lv_at hl 1 rfl) ?_
  refine lv_iconst (v := 0) hx hb dX9_wipe_6 (by decide) ?_
  refine va_put (D := (dC, dI)) (ci := 7) (v := .int 0) (ty := .int) (C := RX9) (T := TX9) (N := 28) hx hb hts inX9 tyX9 tyX9_ok nmX9 hown hK hP hD hS 0 rfl rfl 11 (by decide) (hts _ (List.mem_of_getElem? (i := 1) rfl)) (fun _ h9 => h9) rfl (by decide +kernel) rfl rfl (Nat.le_of_ble_eq_true rfl) dX9_wipe_7 (fun H locs hP hD hS => ?_)
  have hP : va_P (dC, dI) vwCl [(h0, .inr (7, [v0, v1, v2, v3, v4, v5, v6, v7, v8, v9, v10, .int 0, v12, v13, v14, v15, v16, v17, v18, v19, v20, v21, v22, v23, v24, v25, v26, v27]))] H := hP
  have hD : va_D A [(h0, .inr (7, [v0, v1, v2, v3, v4, v5, v6, v7, v8, v9, v10, .int 0, v12, v13, v14, v15, v16, v17, v18, v19, v20, v21, v22, v23, v24, v25, v26, v27]))] := hD
  refine lv_iload_n hx hb dX9_wipe_10 rfl (lv_at hl 0 rfl) ?_
  exact W.iret (v := 0) hx hb hr (fun t ht hW => ⟨⟨0, (), rfl, rfl, trivial⟩, hS.F ht⟩) hS.2.2 dX9_wipe_11

def w_y_write : List Cond := .code yX9_write cX9_write 7 (some .long) :: (([.methodLink RX9 285 yX9_isSheet, .static yX9_isSheet, .initialized RX9, .code yX9_isSheet cX9_isSheet 1 (some .boolean), .methodLink RX9 75 yX9_within, .static yX9_within, .code yX9_within cX9_within 3 (some .boolean), .fieldLink RX9 59 "LampShapesModel" "widths" "[I", .constant RX9 288 (-1000000006), .methodLink RX9 84 yX9_finding, .instanceMethod yX9_finding, .selects RX9 yX9_finding yX9_finding, .code yX9_finding cX9_finding 2 (some .int), .fieldLink RX9 23 "LampShapesModel" "found" "[I", .constant RX9 74 (-1000000001)] : List Cond) ++ wsX90)
set_option maxRecDepth 20000 in
theorem g_y_write_m_isSheet_285 : GoodIn w_y_write (va_wsS RX9 285 yX9_isSheet w_m_isSheet) := goodIn_r _ [1, 2, 3, 4, 5, 6, 3, 7] rfl (by decide +kernel)
set_option maxRecDepth 20000 in
theorem g_y_write_m_find_missing_84 : GoodIn w_y_write (wsV RX9 84 RX9 yX9_finding w_m_find_missing) := goodIn_r _ [10, 11, 12, 3, 13, 14, 15, 16, 17, 18, 19, 20, 21, 22, 23, 24, 25, 26, 27, 28, 29, 30, 31, 32, 33, 34, 35, 36, 37, 38, 39, 40, 41, 42, 43] rfl (by decide +kernel)
set_option maxRecDepth 20000 in
theorem g_y_write_m_find_beyond_84 : GoodIn w_y_write (wsV RX9 84 RX9 yX9_finding w_m_find_beyond) := goodIn_r _ [10, 11, 12, 3, 13, 14, 15, 16, 17, 18, 19, 20, 21, 22, 23, 24, 25, 26, 27, 28, 29, 30, 31, 32, 33, 34, 35, 36, 37, 38, 39, 40, 41, 42, 43] rfl (by decide +kernel)
set_option maxHeartbeats 4000000 in
set_option maxRecDepth 100000 in
theorem y_write (l : Launch) (dC : Nat → ClassId) (dI : Nat → Nat → Nat) (ad : Nat → Nat) (h0 : Nat) (sn : Int32) (i : Int32) (v : Int64) (v0 : Value) (v1 : Value) (v2 : Value) (v3 : Value) (v4 : Value) (m1 : Nat) (v6 : Value) (v7 : Value) (v8 : Value) (v9 : Value) (v10 : Value) (v11 : Value) (v12 : Value) (v13 : Value) (v14 : Value) (v15 : Value) (v16 : Value) (v17 : Value) (v18 : Value) (v19 : Value) (v20 : Value) (v21 : Value) (v22 : Value) (v23 : Value) (m2 : Nat) (v25 : Value) (v26 : Value) (v27 : Value) (mc1 : ClassId) (ff : Nat → Int32) (mc2 : ClassId) (sz : Nat) : Met l yX9_write w_y_write ({ frames := 2, cells := 0, slots := 0, locals := 42 } : Room) (va_Pc [.ref h0, .int sn, .int i, .long v] (preM dC dI ad [(mc1, .int), (mc2, .int)] [(h0, .inr (7, [v0, v1, v2, v3, v4, .ref m1, v6, v7, v8, v9, v10, v11, v12, v13, v14, v15, v16, v17, v18, v19, v20, v21, v22, v23, .ref m2, v25, v26, v27])), (m1, .inl (mc1, 8, .inl ff)), (m2, .inl (mc2, 4, .inl (fun _ => 0)))] sz)) (va_Ql (fun (r : Int64) (_ : Unit) => ((sn < 0) → r = (-1000000001)) ∧ (¬ (sn < 0) → (3 < sn) → r = (-1000000001)) ∧ (¬ (sn < 0) → ¬ (3 < sn) → r = (-1000000006))) (fun _ _ => True) (va_A [(h0, .inr (7, [v0, v1, v2, v3, v4, .ref m1, v6, v7, v8, v9, v10, v11, v12, v13, v14, v15, v16, v17, v18, v19, v20, v21, v22, v23, .ref m2, v25, v26, v27])), (m1, .inl (mc1, 8, .inl ff)), (m2, .inl (mc2, 4, .inl (fun _ => 0)))] sz)) 0 0 (va_A [(h0, .inr (7, [v0, v1, v2, v3, v4, .ref m1, v6, v7, v8, v9, v10, v11, v12, v13, v14, v15, v16, v17, v18, v19, v20, v21, v22, v23, .ref m2, v25, v26, v27])), (m1, .inl (mc1, 8, .inl ff)), (m2, .inl (mc2, 4, .inl (fun _ => 0)))] sz) := by
  refine Met.ofW (cc := cX9_write) (maxL := 7) (ret := (some .long)) (by decide) rfl ?_
  intro p e s m args below meth c s₁ B hml hv
  obtain ⟨rfl, hsz, hP, hK, hD0, hev⟩ := hv
  have hx := B.exec
  have hb := B.bytes
  have hr := B.returns
  have hts := atoms_spec (ws := w_y_write) B.pre
  have hown : s.vm.findClass RX9 = some m.cls := findClass_of_methodNamed B.named
  have hlocks := B.notSynchronized
  have inX9 : ∀ w ∈ wsX90, w ∈ w_y_write := fun w h => List.mem_cons_of_mem _ (List.mem_append_right _ h)
  subst hsz
  have hD := hD0.self (sz := s.heap.size)
  generalize hAe : va_A [(h0, .inr (7, [v0, v1, v2, v3, v4, .ref m1, v6, v7, v8, v9, v10, v11, v12, v13, v14, v15, v16, v17, v18, v19, v20, v21, v22, v23, .ref m2, v25, v26, v27])), (m1, .inl (mc1, 8, .inl ff)), (m2, .inl (mc2, 4, .inl (fun _ => 0)))] s.heap.size = A at hD ⊢
  have hA : ∀ q : Nat, s.heap.size ≤ q → A q := fun q h => by rw [← hAe]; exact Or.inr h
  have hS : va_S A s.heap s.heap [] := va_S.rf
  have hP : va_P (dC, dI) vwCl [(h0, .inr (7, [v0, v1, v2, v3, v4, .ref m1, v6, v7, v8, v9, v10, v11, v12, v13, v14, v15, v16, v17, v18, v19, v20, v21, v22, v23, .ref m2, v25, v26, v27])), (m1, .inl (mc1, 8, .inl ff)), (m2, .inl (mc2, 4, .inl (fun _ => 0)))] s.heap := hP
  have hl := lv_entry ([.ref h0, .int sn, .int i, .long v]) (n := 7) (Nat.le_of_ble_eq_true rfl)
  rw [lg_entry_eq]
  generalize (lg_sl ([.ref h0, .int sn, .int i, .long v]) ++ List.replicate (7 - (lg_sl ([.ref h0, .int sn, .int i, .long v])).length) Slot.unset).toArray = ls at hl ⊢
  have hl : lv_has ls 7 [(0, .ref h0), (1, .int sn), (2, .int i), (3, .long v)] := hl
  refine lv_iload_n hx hb dX9_write_0 rfl (lv_at hl 1 rfl) ?_
  have hPc := hP.sub (ws' := []) [] rfl
  have hKc := hK.sub (tys' := []) [] rfl
  refine vp_callSi (W.runS (As := [.int sn]) (rest := []) ⟨hx, hb, hml, hown, hts⟩ (m_isSheet l dC dI ad sn ) (va_cwS 1 hts g_y_write_m_isSheet_285 rfl rfl rfl (by decide +kernel) ⟨(Nat.le_of_ble_eq_true rfl), (Nat.le_of_ble_eq_true rfl)⟩) ⟨preS_blind, fun U hU hW => ⟨rfl, preS_at hU hW hPc hKc hev⟩⟩ rfl rfl hl.1 rfl (lv_room (Nat.le_of_ble_eq_true rfl)) dX9_write_1 ⟨(Nat.le_of_ble_eq_true rfl), (Nat.le_of_ble_eq_true rfl)⟩) (fun r_1 hw => ?_)
  by_cases c_2 : 0 ≤ sn ∧ sn ≤ 3
  · skip
    have hw := hw.1 c_2
    subst hw
    refine lv_if_ne (tgt := 15) hx hb dX9_write_4 (by decide) (fun _ => ?_) (fun c => absurd c (by decide))
    refine lv_aload_n hx hb dX9_write_15 rfl (lv_at hl 0 rfl) ?_
    refine va_get (D := (dC, dI)) (ci := 7) (v := .ref m2) (C := RX9) (T := TX9) (N := 28) hx hb hts inX9 hown hK hP 0 rfl rfl 24 (by decide) (hts _ (List.mem_of_getElem? (i := 8) rfl)) (fun _ h9 => h9) rfl dX9_write_16 ?_
    refine lv_iload_n hx hb dX9_write_19 rfl (lv_at hl 1 rfl) ?_
    refine va_iald hx hb hK hP 2 1 rfl rfl (by rw [vp_in_iff]; simp only [fa_lt, fa_le, fa_eq, and_true, true_and, and_false, false_and, not_true_eq_false, not_false_eq_true, li_0, li_1, li_2, li_3, li_4, li_5, li_6, li_7, li_8, li_9, li_10, li_12, li_15, li_16, li_20, li_30, li_34, li_38, li_40, li_63, li_64, li_65, li_78, li_120, li_1000, li_4000, li_10000, li_11077, li_255, li_65535, li_m1, li_m2, li_m1000000001, li_m1000000002, li_m1000000003, li_m1000000004, li_m1000000005, li_m1000000006, li_m1000000007] at c_2 ⊢ <;> omega) dX9_write_20 ?_
    refine pp_ti (y := 0) (rfl) ?_
    refine lv_if_ne (tgt := 33) hx hb dX9_write_21 (by decide) (fun c => absurd (by decide) c) (fun _ => ?_)
    refine lv_aload_n hx hb dX9_write_24 rfl (lv_at hl 0 rfl) ?_
    refine lv_ldcw hx hb hown (hts _ (List.mem_of_getElem? (i := 9) rfl)) dX9_write_25 ?_
    have hPc := hP.sub (ws' := [(h0, .inr (7, [v0, v1, v2, v3, v4, .ref m1, v6, v7, v8, v9, v10, v11, v12, v13, v14, v15, v16, v17, v18, v19, v20, v21, v22, v23, .ref m2, v25, v26, v27])), (m1, .inl (mc1, 8, .inl ff))]) [0, 1] rfl
    have hKc := hK.sub (tys' := [(mc1, .int)]) [0] rfl
    have hDc := hD.sub (ws' := [(h0, .inr (7, [v0, v1, v2, v3, v4, .ref m1, v6, v7, v8, v9, v10, v11, v12, v13, v14, v15, v16, v17, v18, v19, v20, v21, v22, v23, .ref m2, v25, v26, v27])), (m1, .inl (mc1, 8, .inl ff))]) [0, 1] (by decide) rfl
    have hFc := va_free (wc := [(h0, .inr (7, [v0, v1, v2, v3, v4, .ref m1, v6, v7, v8, v9, v10, v11, v12, v13, v14, v15, v16, v17, v18, v19, v20, v21, v22, v23, .ref m2, v25, v26, v27])), (m1, .inl (mc1, 8, .inl ff))]) hD hS hA [0, 1] rfl
    refine va_calli (va_runV (As := [.int (-1000000006)]) (rest := []) ⟨hx, hb, hml, hown, hts⟩ (m_find_missing l dC dI ad h0 v0 v1 v2 v3 v4 m1 v6 v7 v8 v9 v10 v11 v12 v13 v14 v15 v16 v17 v18 v19 v20 v21 v22 v23 (.ref m2) v25 v26 v27 mc1 ff s.heap.size ) (cwV 1 hts g_y_write_m_find_missing_84 rfl rfl rfl (by decide +kernel) ⟨(Nat.le_of_ble_eq_true rfl), (Nat.le_of_ble_eq_true rfl)⟩) ⟨preM_blind, va_recv hKc hPc (ci := 7) (q0 := 0) rfl rfl, fun U hU hW => ⟨rfl, preM_at hU hW hPc hKc hDc hev⟩⟩ rfl rfl hl.1 rfl (lv_room (Nat.le_of_ble_eq_true rfl)) dX9_write_28 ⟨(Nat.le_of_ble_eq_true rfl), (Nat.le_of_ble_eq_true rfl)⟩) hS (fun q _ h => hFc q h) hFc (fun r_3 u t H1 locs ht hvm hw hB hz1 hk1 hS => ?_)
    obtain ⟨hP, hD⟩ := va_join (wr := [(m2, .inl (mc2, 4, .inl (fun _ => 0)))]) (w1 := []) hP hD [0, 1] [2] rfl rfl (by decide) (by decide) hk1 hFc nil_P nil_D
    generalize H1 = H at hP hS ⊢
    have hP : va_P (dC, dI) vwCl [(m2, .inl (mc2, 4, .inl (fun _ => 0)))] H := hP
    have hD : va_D A [(m2, .inl (mc2, 4, .inl (fun _ => 0)))] := hD
    subst hw
    refine lv_i2l (v := (-1000000006)) hx hb dX9_write_31 (by decide) ?_
    exact W.lret (v := (-1000000006)) hx hb hr (fun t ht hW => ⟨⟨(-1000000006), (), rfl, ⟨(fun h => (by first | rfl | (exfalso; simp only [fa_lt, fa_le, fa_eq, and_true, true_and, and_false, false_and, not_true_eq_false, not_false_eq_true, li_0, li_1, li_2, li_3, li_4, li_5, li_6, li_7, li_8, li_9, li_10, li_12, li_15, li_16, li_20, li_30, li_34, li_38, li_40, li_63, li_64, li_65, li_78, li_120, li_1000, li_4000, li_10000, li_11077, li_255, li_65535, li_m1, li_m2, li_m1000000001, li_m1000000002, li_m1000000003, li_m1000000004, li_m1000000005, li_m1000000006, li_m1000000007] at c_2 h <;> omega) | (simp only [fa_lt, fa_le, fa_eq, and_true, true_and, and_false, false_and, not_true_eq_false, not_false_eq_true, li_0, li_1, li_2, li_3, li_4, li_5, li_6, li_7, li_8, li_9, li_10, li_12, li_15, li_16, li_20, li_30, li_34, li_38, li_40, li_63, li_64, li_65, li_78, li_120, li_1000, li_4000, li_10000, li_11077, li_255, li_65535, li_m1, li_m2, li_m1000000001, li_m1000000002, li_m1000000003, li_m1000000004, li_m1000000005, li_m1000000006, li_m1000000007] at c_2 h ⊢ <;> omega))), (fun g0 h => (by first | rfl | (exfalso; simp only [fa_lt, fa_le, fa_eq, and_true, true_and, and_false, false_and, not_true_eq_false, not_false_eq_true, li_0, li_1, li_2, li_3, li_4, li_5, li_6, li_7, li_8, li_9, li_10, li_12, li_15, li_16, li_20, li_30, li_34, li_38, li_40, li_63, li_64, li_65, li_78, li_120, li_1000, li_4000, li_10000, li_11077, li_255, li_65535, li_m1, li_m2, li_m1000000001, li_m1000000002, li_m1000000003, li_m1000000004, li_m1000000005, li_m1000000006, li_m1000000007] at c_2 g0 h <;> omega) | (simp only [fa_lt, fa_le, fa_eq, and_true, true_and, and_false, false_and, not_true_eq_false, not_false_eq_true, li_0, li_1, li_2, li_3, li_4, li_5, li_6, li_7, li_8, li_9, li_10, li_12, li_15, li_16, li_20, li_30, li_34, li_38, li_40, li_63, li_64, li_65, li_78, li_120, li_1000, li_4000, li_10000, li_11077, li_255, li_65535, li_m1, li_m2, li_m1000000001, li_m1000000002, li_m1000000003, li_m1000000004, li_m1000000005, li_m1000000006, li_m1000000007] at c_2 g0 h ⊢ <;> omega))), (fun g0 g1 => rfl)⟩, trivial⟩, hS.F ht⟩) hS.2.2 dX9_write_32
  · skip
    have hw := hw.2 c_2
    subst hw
    refine lv_if_ne (tgt := 15) hx hb dX9_write_4 (by decide) (fun c => absurd (by decide) c) (fun _ => ?_)
    refine lv_aload_n hx hb dX9_write_7 rfl (lv_at hl 0 rfl) ?_
    refine lv_ldc hx hb hown (hts _ (List.mem_of_getElem? (i := 15) rfl)) dX9_write_8 ?_
    have hPc := hP.sub (ws' := [(h0, .inr (7, [v0, v1, v2, v3, v4, .ref m1, v6, v7, v8, v9, v10, v11, v12, v13, v14, v15, v16, v17, v18, v19, v20, v21, v22, v23, .ref m2, v25, v26, v27])), (m1, .inl (mc1, 8, .inl ff))]) [0, 1] rfl
    have hKc := hK.sub (tys' := [(mc1, .int)]) [0] rfl
    have hDc := hD.sub (ws' := [(h0, .inr (7, [v0, v1, v2, v3, v4, .ref m1, v6, v7, v8, v9, v10, v11, v12, v13, v14, v15, v16, v17, v18, v19, v20, v21, v22, v23, .ref m2, v25, v26, v27])), (m1, .inl (mc1, 8, .inl ff))]) [0, 1] (by decide) rfl
    have hFc := va_free (wc := [(h0, .inr (7, [v0, v1, v2, v3, v4, .ref m1, v6, v7, v8, v9, v10, v11, v12, v13, v14, v15, v16, v17, v18, v19, v20, v21, v22, v23, .ref m2, v25, v26, v27])), (m1, .inl (mc1, 8, .inl ff))]) hD hS hA [0, 1] rfl
    refine va_calli (va_runV (As := [.int (-1000000001)]) (rest := []) ⟨hx, hb, hml, hown, hts⟩ (m_find_beyond l dC dI ad h0 v0 v1 v2 v3 v4 m1 v6 v7 v8 v9 v10 v11 v12 v13 v14 v15 v16 v17 v18 v19 v20 v21 v22 v23 (.ref m2) v25 v26 v27 mc1 ff s.heap.size ) (cwV 1 hts g_y_write_m_find_beyond_84 rfl rfl rfl (by decide +kernel) ⟨(Nat.le_of_ble_eq_true rfl), (Nat.le_of_ble_eq_true rfl)⟩) ⟨preM_blind, va_recv hKc hPc (ci := 7) (q0 := 0) rfl rfl, fun U hU hW => ⟨rfl, preM_at hU hW hPc hKc hDc hev⟩⟩ rfl rfl hl.1 rfl (lv_room (Nat.le_of_ble_eq_true rfl)) dX9_write_10 ⟨(Nat.le_of_ble_eq_true rfl), (Nat.le_of_ble_eq_true rfl)⟩) hS (fun q _ h => hFc q h) hFc (fun r_4 u t H1 locs ht hvm hw hB hz1 hk1 hS => ?_)
    obtain ⟨hP, hD⟩ := va_join (wr := [(m2, .inl (mc2, 4, .inl (fun _ => 0)))]) (w1 := []) hP hD [0, 1] [2] rfl rfl (by decide) (by decide) hk1 hFc nil_P nil_D
    generalize H1 = H at hP hS ⊢
    have hP : va_P (dC, dI) vwCl [(m2, .inl (mc2, 4, .inl (fun _ => 0)))] H := hP
    have hD : va_D A [(m2, .inl (mc2, 4, .inl (fun _ => 0)))] := hD
    subst hw
    refine lv_i2l (v := (-1000000001)) hx hb dX9_write_13 (by decide) ?_
    exact W.lret (v := (-1000000001)) hx hb hr (fun t ht hW => ⟨⟨(-1000000001), (), rfl, ⟨(fun h => rfl), (fun g0 h => rfl), (fun g0 g1 => (by first | rfl | (exfalso; simp only [fa_lt, fa_le, fa_eq, and_true, true_and, and_false, false_and, not_true_eq_false, not_false_eq_true, li_0, li_1, li_2, li_3, li_4, li_5, li_6, li_7, li_8, li_9, li_10, li_12, li_15, li_16, li_20, li_30, li_34, li_38, li_40, li_63, li_64, li_65, li_78, li_120, li_1000, li_4000, li_10000, li_11077, li_255, li_65535, li_m1, li_m2, li_m1000000001, li_m1000000002, li_m1000000003, li_m1000000004, li_m1000000005, li_m1000000006, li_m1000000007] at c_2 g0 g1 <;> omega) | (simp only [fa_lt, fa_le, fa_eq, and_true, true_and, and_false, false_and, not_true_eq_false, not_false_eq_true, li_0, li_1, li_2, li_3, li_4, li_5, li_6, li_7, li_8, li_9, li_10, li_12, li_15, li_16, li_20, li_30, li_34, li_38, li_40, li_63, li_64, li_65, li_78, li_120, li_1000, li_4000, li_10000, li_11077, li_255, li_65535, li_m1, li_m2, li_m1000000001, li_m1000000002, li_m1000000003, li_m1000000004, li_m1000000005, li_m1000000006, li_m1000000007] at c_2 g0 g1 ⊢ <;> omega)))⟩, trivial⟩, hS.F ht⟩) hS.2.2 dX9_write_14

def w_y_lays : List Cond := .code yX9_lays cX9_lays 4 (some .int) :: (([.methodLink RX9 285 yX9_isSheet, .static yX9_isSheet, .initialized RX9, .code yX9_isSheet cX9_isSheet 1 (some .boolean), .methodLink RX9 75 yX9_within, .static yX9_within, .code yX9_within cX9_within 3 (some .boolean), .fieldLink RX9 59 "LampShapesModel" "widths" "[I", .constant RX9 288 (-1000000006), .methodLink RX9 84 yX9_finding, .instanceMethod yX9_finding, .selects RX9 yX9_finding yX9_finding, .code yX9_finding cX9_finding 2 (some .int), .fieldLink RX9 23 "LampShapesModel" "found" "[I", .constant RX9 74 (-1000000001)] : List Cond) ++ wsX90)
set_option maxRecDepth 20000 in
theorem g_y_lays_m_isSheet_285 : GoodIn w_y_lays (va_wsS RX9 285 yX9_isSheet w_m_isSheet) := goodIn_r _ [1, 2, 3, 4, 5, 6, 3, 7] rfl (by decide +kernel)
set_option maxRecDepth 20000 in
theorem g_y_lays_m_find_missing_84 : GoodIn w_y_lays (wsV RX9 84 RX9 yX9_finding w_m_find_missing) := goodIn_r _ [10, 11, 12, 3, 13, 14, 15, 16, 17, 18, 19, 20, 21, 22, 23, 24, 25, 26, 27, 28, 29, 30, 31, 32, 33, 34, 35, 36, 37, 38, 39, 40, 41, 42, 43] rfl (by decide +kernel)
set_option maxRecDepth 20000 in
theorem g_y_lays_m_find_beyond_84 : GoodIn w_y_lays (wsV RX9 84 RX9 yX9_finding w_m_find_beyond) := goodIn_r _ [10, 11, 12, 3, 13, 14, 15, 16, 17, 18, 19, 20, 21, 22, 23, 24, 25, 26, 27, 28, 29, 30, 31, 32, 33, 34, 35, 36, 37, 38, 39, 40, 41, 42, 43] rfl (by decide +kernel)
set_option maxHeartbeats 4000000 in
set_option maxRecDepth 100000 in
theorem y_lays (l : Launch) (dC : Nat → ClassId) (dI : Nat → Nat → Nat) (ad : Nat → Nat) (h0 : Nat) (sn : Int32) (v0 : Value) (v1 : Value) (v2 : Value) (v3 : Value) (v4 : Value) (m1 : Nat) (v6 : Value) (v7 : Value) (v8 : Value) (v9 : Value) (v10 : Value) (v11 : Value) (v12 : Value) (v13 : Value) (v14 : Value) (v15 : Value) (v16 : Value) (v17 : Value) (v18 : Value) (v19 : Value) (v20 : Value) (v21 : Value) (v22 : Value) (v23 : Value) (m2 : Nat) (v25 : Value) (v26 : Value) (v27 : Value) (mc1 : ClassId) (ff : Nat → Int32) (mc2 : ClassId) (sz : Nat) : Met l yX9_lays w_y_lays ({ frames := 2, cells := 0, slots := 0, locals := 42 } : Room) (va_Pc [.ref h0, .int sn] (preM dC dI ad [(mc1, .int), (mc2, .int)] [(h0, .inr (7, [v0, v1, v2, v3, v4, .ref m1, v6, v7, v8, v9, v10, v11, v12, v13, v14, v15, v16, v17, v18, v19, v20, v21, v22, v23, .ref m2, v25, v26, v27])), (m1, .inl (mc1, 8, .inl ff)), (m2, .inl (mc2, 4, .inl (fun _ => 0)))] sz)) (va_Qi (fun (r : Int32) (_ : Unit) => ((sn < 0) → r = (-1000000001)) ∧ (¬ (sn < 0) → (3 < sn) → r = (-1000000001)) ∧ (¬ (sn < 0) → ¬ (3 < sn) → r = (-1000000006))) (fun _ _ => True) (va_A [(h0, .inr (7, [v0, v1, v2, v3, v4, .ref m1, v6, v7, v8, v9, v10, v11, v12, v13, v14, v15, v16, v17, v18, v19, v20, v21, v22, v23, .ref m2, v25, v26, v27])), (m1, .inl (mc1, 8, .inl ff)), (m2, .inl (mc2, 4, .inl (fun _ => 0)))] sz)) 0 0 (va_A [(h0, .inr (7, [v0, v1, v2, v3, v4, .ref m1, v6, v7, v8, v9, v10, v11, v12, v13, v14, v15, v16, v17, v18, v19, v20, v21, v22, v23, .ref m2, v25, v26, v27])), (m1, .inl (mc1, 8, .inl ff)), (m2, .inl (mc2, 4, .inl (fun _ => 0)))] sz) := by
  refine Met.ofW (cc := cX9_lays) (maxL := 4) (ret := (some .int)) (by decide) rfl ?_
  intro p e s m args below meth c s₁ B hml hv
  obtain ⟨rfl, hsz, hP, hK, hD0, hev⟩ := hv
  have hx := B.exec
  have hb := B.bytes
  have hr := B.returns
  have hts := atoms_spec (ws := w_y_lays) B.pre
  have hown : s.vm.findClass RX9 = some m.cls := findClass_of_methodNamed B.named
  have hlocks := B.notSynchronized
  have inX9 : ∀ w ∈ wsX90, w ∈ w_y_lays := fun w h => List.mem_cons_of_mem _ (List.mem_append_right _ h)
  subst hsz
  have hD := hD0.self (sz := s.heap.size)
  generalize hAe : va_A [(h0, .inr (7, [v0, v1, v2, v3, v4, .ref m1, v6, v7, v8, v9, v10, v11, v12, v13, v14, v15, v16, v17, v18, v19, v20, v21, v22, v23, .ref m2, v25, v26, v27])), (m1, .inl (mc1, 8, .inl ff)), (m2, .inl (mc2, 4, .inl (fun _ => 0)))] s.heap.size = A at hD ⊢
  have hA : ∀ q : Nat, s.heap.size ≤ q → A q := fun q h => by rw [← hAe]; exact Or.inr h
  have hS : va_S A s.heap s.heap [] := va_S.rf
  have hP : va_P (dC, dI) vwCl [(h0, .inr (7, [v0, v1, v2, v3, v4, .ref m1, v6, v7, v8, v9, v10, v11, v12, v13, v14, v15, v16, v17, v18, v19, v20, v21, v22, v23, .ref m2, v25, v26, v27])), (m1, .inl (mc1, 8, .inl ff)), (m2, .inl (mc2, 4, .inl (fun _ => 0)))] s.heap := hP
  have hl := lv_entry ([.ref h0, .int sn]) (n := 4) (Nat.le_of_ble_eq_true rfl)
  rw [lg_entry_eq]
  generalize (lg_sl ([.ref h0, .int sn]) ++ List.replicate (4 - (lg_sl ([.ref h0, .int sn])).length) Slot.unset).toArray = ls at hl ⊢
  have hl : lv_has ls 4 [(0, .ref h0), (1, .int sn)] := hl
  refine lv_iload_n hx hb dX9_lays_0 rfl (lv_at hl 1 rfl) ?_
  have hPc := hP.sub (ws' := []) [] rfl
  have hKc := hK.sub (tys' := []) [] rfl
  refine vp_callSi (W.runS (As := [.int sn]) (rest := []) ⟨hx, hb, hml, hown, hts⟩ (m_isSheet l dC dI ad sn ) (va_cwS 1 hts g_y_lays_m_isSheet_285 rfl rfl rfl (by decide +kernel) ⟨(Nat.le_of_ble_eq_true rfl), (Nat.le_of_ble_eq_true rfl)⟩) ⟨preS_blind, fun U hU hW => ⟨rfl, preS_at hU hW hPc hKc hev⟩⟩ rfl rfl hl.1 rfl (lv_room (Nat.le_of_ble_eq_true rfl)) dX9_lays_1 ⟨(Nat.le_of_ble_eq_true rfl), (Nat.le_of_ble_eq_true rfl)⟩) (fun r_1 hw => ?_)
  by_cases c_2 : 0 ≤ sn ∧ sn ≤ 3
  · skip
    have hw := hw.1 c_2
    subst hw
    refine lv_if_ne (tgt := 14) hx hb dX9_lays_4 (by decide) (fun _ => ?_) (fun c => absurd c (by decide))
    refine lv_aload_n hx hb dX9_lays_14 rfl (lv_at hl 0 rfl) ?_
    refine va_get (D := (dC, dI)) (ci := 7) (v := .ref m2) (C := RX9) (T := TX9) (N := 28) hx hb hts inX9 hown hK hP 0 rfl rfl 24 (by decide) (hts _ (List.mem_of_getElem? (i := 8) rfl)) (fun _ h9 => h9) rfl dX9_lays_15 ?_
    refine lv_iload_n hx hb dX9_lays_18 rfl (lv_at hl 1 rfl) ?_
    refine va_iald hx hb hK hP 2 1 rfl rfl (by rw [vp_in_iff]; simp only [fa_lt, fa_le, fa_eq, and_true, true_and, and_false, false_and, not_true_eq_false, not_false_eq_true, li_0, li_1, li_2, li_3, li_4, li_5, li_6, li_7, li_8, li_9, li_10, li_12, li_15, li_16, li_20, li_30, li_34, li_38, li_40, li_63, li_64, li_65, li_78, li_120, li_1000, li_4000, li_10000, li_11077, li_255, li_65535, li_m1, li_m2, li_m1000000001, li_m1000000002, li_m1000000003, li_m1000000004, li_m1000000005, li_m1000000006, li_m1000000007] at c_2 ⊢ <;> omega) dX9_lays_19 ?_
    refine pp_ti (y := 0) (rfl) ?_
    refine lv_if_ne (tgt := 31) hx hb dX9_lays_20 (by decide) (fun c => absurd (by decide) c) (fun _ => ?_)
    refine lv_aload_n hx hb dX9_lays_23 rfl (lv_at hl 0 rfl) ?_
    refine lv_ldcw hx hb hown (hts _ (List.mem_of_getElem? (i := 9) rfl)) dX9_lays_24 ?_
    have hPc := hP.sub (ws' := [(h0, .inr (7, [v0, v1, v2, v3, v4, .ref m1, v6, v7, v8, v9, v10, v11, v12, v13, v14, v15, v16, v17, v18, v19, v20, v21, v22, v23, .ref m2, v25, v26, v27])), (m1, .inl (mc1, 8, .inl ff))]) [0, 1] rfl
    have hKc := hK.sub (tys' := [(mc1, .int)]) [0] rfl
    have hDc := hD.sub (ws' := [(h0, .inr (7, [v0, v1, v2, v3, v4, .ref m1, v6, v7, v8, v9, v10, v11, v12, v13, v14, v15, v16, v17, v18, v19, v20, v21, v22, v23, .ref m2, v25, v26, v27])), (m1, .inl (mc1, 8, .inl ff))]) [0, 1] (by decide) rfl
    have hFc := va_free (wc := [(h0, .inr (7, [v0, v1, v2, v3, v4, .ref m1, v6, v7, v8, v9, v10, v11, v12, v13, v14, v15, v16, v17, v18, v19, v20, v21, v22, v23, .ref m2, v25, v26, v27])), (m1, .inl (mc1, 8, .inl ff))]) hD hS hA [0, 1] rfl
    refine va_calli (va_runV (As := [.int (-1000000006)]) (rest := []) ⟨hx, hb, hml, hown, hts⟩ (m_find_missing l dC dI ad h0 v0 v1 v2 v3 v4 m1 v6 v7 v8 v9 v10 v11 v12 v13 v14 v15 v16 v17 v18 v19 v20 v21 v22 v23 (.ref m2) v25 v26 v27 mc1 ff s.heap.size ) (cwV 1 hts g_y_lays_m_find_missing_84 rfl rfl rfl (by decide +kernel) ⟨(Nat.le_of_ble_eq_true rfl), (Nat.le_of_ble_eq_true rfl)⟩) ⟨preM_blind, va_recv hKc hPc (ci := 7) (q0 := 0) rfl rfl, fun U hU hW => ⟨rfl, preM_at hU hW hPc hKc hDc hev⟩⟩ rfl rfl hl.1 rfl (lv_room (Nat.le_of_ble_eq_true rfl)) dX9_lays_27 ⟨(Nat.le_of_ble_eq_true rfl), (Nat.le_of_ble_eq_true rfl)⟩) hS (fun q _ h => hFc q h) hFc (fun r_3 u t H1 locs ht hvm hw hB hz1 hk1 hS => ?_)
    obtain ⟨hP, hD⟩ := va_join (wr := [(m2, .inl (mc2, 4, .inl (fun _ => 0)))]) (w1 := []) hP hD [0, 1] [2] rfl rfl (by decide) (by decide) hk1 hFc nil_P nil_D
    generalize H1 = H at hP hS ⊢
    have hP : va_P (dC, dI) vwCl [(m2, .inl (mc2, 4, .inl (fun _ => 0)))] H := hP
    have hD : va_D A [(m2, .inl (mc2, 4, .inl (fun _ => 0)))] := hD
    subst hw
    exact W.iret (v := (-1000000006)) hx hb hr (fun t ht hW => ⟨⟨(-1000000006), (), rfl, ⟨(fun h => (by first | rfl | (exfalso; simp only [fa_lt, fa_le, fa_eq, and_true, true_and, and_false, false_and, not_true_eq_false, not_false_eq_true, li_0, li_1, li_2, li_3, li_4, li_5, li_6, li_7, li_8, li_9, li_10, li_12, li_15, li_16, li_20, li_30, li_34, li_38, li_40, li_63, li_64, li_65, li_78, li_120, li_1000, li_4000, li_10000, li_11077, li_255, li_65535, li_m1, li_m2, li_m1000000001, li_m1000000002, li_m1000000003, li_m1000000004, li_m1000000005, li_m1000000006, li_m1000000007] at c_2 h <;> omega) | (simp only [fa_lt, fa_le, fa_eq, and_true, true_and, and_false, false_and, not_true_eq_false, not_false_eq_true, li_0, li_1, li_2, li_3, li_4, li_5, li_6, li_7, li_8, li_9, li_10, li_12, li_15, li_16, li_20, li_30, li_34, li_38, li_40, li_63, li_64, li_65, li_78, li_120, li_1000, li_4000, li_10000, li_11077, li_255, li_65535, li_m1, li_m2, li_m1000000001, li_m1000000002, li_m1000000003, li_m1000000004, li_m1000000005, li_m1000000006, li_m1000000007] at c_2 h ⊢ <;> omega))), (fun g0 h => (by first | rfl | (exfalso; simp only [fa_lt, fa_le, fa_eq, and_true, true_and, and_false, false_and, not_true_eq_false, not_false_eq_true, li_0, li_1, li_2, li_3, li_4, li_5, li_6, li_7, li_8, li_9, li_10, li_12, li_15, li_16, li_20, li_30, li_34, li_38, li_40, li_63, li_64, li_65, li_78, li_120, li_1000, li_4000, li_10000, li_11077, li_255, li_65535, li_m1, li_m2, li_m1000000001, li_m1000000002, li_m1000000003, li_m1000000004, li_m1000000005, li_m1000000006, li_m1000000007] at c_2 g0 h <;> omega) | (simp only [fa_lt, fa_le, fa_eq, and_true, true_and, and_false, false_and, not_true_eq_false, not_false_eq_true, li_0, li_1, li_2, li_3, li_4, li_5, li_6, li_7, li_8, li_9, li_10, li_12, li_15, li_16, li_20, li_30, li_34, li_38, li_40, li_63, li_64, li_65, li_78, li_120, li_1000, li_4000, li_10000, li_11077, li_255, li_65535, li_m1, li_m2, li_m1000000001, li_m1000000002, li_m1000000003, li_m1000000004, li_m1000000005, li_m1000000006, li_m1000000007] at c_2 g0 h ⊢ <;> omega))), (fun g0 g1 => rfl)⟩, trivial⟩, hS.F ht⟩) hS.2.2 dX9_lays_30
  · skip
    have hw := hw.2 c_2
    subst hw
    refine lv_if_ne (tgt := 14) hx hb dX9_lays_4 (by decide) (fun c => absurd (by decide) c) (fun _ => ?_)
    refine lv_aload_n hx hb dX9_lays_7 rfl (lv_at hl 0 rfl) ?_
    refine lv_ldc hx hb hown (hts _ (List.mem_of_getElem? (i := 15) rfl)) dX9_lays_8 ?_
    have hPc := hP.sub (ws' := [(h0, .inr (7, [v0, v1, v2, v3, v4, .ref m1, v6, v7, v8, v9, v10, v11, v12, v13, v14, v15, v16, v17, v18, v19, v20, v21, v22, v23, .ref m2, v25, v26, v27])), (m1, .inl (mc1, 8, .inl ff))]) [0, 1] rfl
    have hKc := hK.sub (tys' := [(mc1, .int)]) [0] rfl
    have hDc := hD.sub (ws' := [(h0, .inr (7, [v0, v1, v2, v3, v4, .ref m1, v6, v7, v8, v9, v10, v11, v12, v13, v14, v15, v16, v17, v18, v19, v20, v21, v22, v23, .ref m2, v25, v26, v27])), (m1, .inl (mc1, 8, .inl ff))]) [0, 1] (by decide) rfl
    have hFc := va_free (wc := [(h0, .inr (7, [v0, v1, v2, v3, v4, .ref m1, v6, v7, v8, v9, v10, v11, v12, v13, v14, v15, v16, v17, v18, v19, v20, v21, v22, v23, .ref m2, v25, v26, v27])), (m1, .inl (mc1, 8, .inl ff))]) hD hS hA [0, 1] rfl
    refine va_calli (va_runV (As := [.int (-1000000001)]) (rest := []) ⟨hx, hb, hml, hown, hts⟩ (m_find_beyond l dC dI ad h0 v0 v1 v2 v3 v4 m1 v6 v7 v8 v9 v10 v11 v12 v13 v14 v15 v16 v17 v18 v19 v20 v21 v22 v23 (.ref m2) v25 v26 v27 mc1 ff s.heap.size ) (cwV 1 hts g_y_lays_m_find_beyond_84 rfl rfl rfl (by decide +kernel) ⟨(Nat.le_of_ble_eq_true rfl), (Nat.le_of_ble_eq_true rfl)⟩) ⟨preM_blind, va_recv hKc hPc (ci := 7) (q0 := 0) rfl rfl, fun U hU hW => ⟨rfl, preM_at hU hW hPc hKc hDc hev⟩⟩ rfl rfl hl.1 rfl (lv_room (Nat.le_of_ble_eq_true rfl)) dX9_lays_10 ⟨(Nat.le_of_ble_eq_true rfl), (Nat.le_of_ble_eq_true rfl)⟩) hS (fun q _ h => hFc q h) hFc (fun r_4 u t H1 locs ht hvm hw hB hz1 hk1 hS => ?_)
    obtain ⟨hP, hD⟩ := va_join (wr := [(m2, .inl (mc2, 4, .inl (fun _ => 0)))]) (w1 := []) hP hD [0, 1] [2] rfl rfl (by decide) (by decide) hk1 hFc nil_P nil_D
    generalize H1 = H at hP hS ⊢
    have hP : va_P (dC, dI) vwCl [(m2, .inl (mc2, 4, .inl (fun _ => 0)))] H := hP
    have hD : va_D A [(m2, .inl (mc2, 4, .inl (fun _ => 0)))] := hD
    subst hw
    exact W.iret (v := (-1000000001)) hx hb hr (fun t ht hW => ⟨⟨(-1000000001), (), rfl, ⟨(fun h => rfl), (fun g0 h => rfl), (fun g0 g1 => (by first | rfl | (exfalso; simp only [fa_lt, fa_le, fa_eq, and_true, true_and, and_false, false_and, not_true_eq_false, not_false_eq_true, li_0, li_1, li_2, li_3, li_4, li_5, li_6, li_7, li_8, li_9, li_10, li_12, li_15, li_16, li_20, li_30, li_34, li_38, li_40, li_63, li_64, li_65, li_78, li_120, li_1000, li_4000, li_10000, li_11077, li_255, li_65535, li_m1, li_m2, li_m1000000001, li_m1000000002, li_m1000000003, li_m1000000004, li_m1000000005, li_m1000000006, li_m1000000007] at c_2 g0 g1 <;> omega) | (simp only [fa_lt, fa_le, fa_eq, and_true, true_and, and_false, false_and, not_true_eq_false, not_false_eq_true, li_0, li_1, li_2, li_3, li_4, li_5, li_6, li_7, li_8, li_9, li_10, li_12, li_15, li_16, li_20, li_30, li_34, li_38, li_40, li_63, li_64, li_65, li_78, li_120, li_1000, li_4000, li_10000, li_11077, li_255, li_65535, li_m1, li_m2, li_m1000000001, li_m1000000002, li_m1000000003, li_m1000000004, li_m1000000005, li_m1000000006, li_m1000000007] at c_2 g0 g1 ⊢ <;> omega)))⟩, trivial⟩, hS.F ht⟩) hS.2.2 dX9_lays_13

def w_y_film : List Cond := .code yX9_film cX9_film 4 (some .int) :: (([.methodLink RX9 285 yX9_isSheet, .static yX9_isSheet, .initialized RX9, .code yX9_isSheet cX9_isSheet 1 (some .boolean), .methodLink RX9 75 yX9_within, .static yX9_within, .code yX9_within cX9_within 3 (some .boolean), .fieldLink RX9 59 "LampShapesModel" "widths" "[I", .constant RX9 288 (-1000000006), .methodLink RX9 84 yX9_finding, .instanceMethod yX9_finding, .selects RX9 yX9_finding yX9_finding, .code yX9_finding cX9_finding 2 (some .int), .fieldLink RX9 23 "LampShapesModel" "found" "[I", .constant RX9 74 (-1000000001)] : List Cond) ++ wsX90)
set_option maxRecDepth 20000 in
theorem g_y_film_m_isSheet_285 : GoodIn w_y_film (va_wsS RX9 285 yX9_isSheet w_m_isSheet) := goodIn_r _ [1, 2, 3, 4, 5, 6, 3, 7] rfl (by decide +kernel)
set_option maxRecDepth 20000 in
theorem g_y_film_m_find_missing_84 : GoodIn w_y_film (wsV RX9 84 RX9 yX9_finding w_m_find_missing) := goodIn_r _ [10, 11, 12, 3, 13, 14, 15, 16, 17, 18, 19, 20, 21, 22, 23, 24, 25, 26, 27, 28, 29, 30, 31, 32, 33, 34, 35, 36, 37, 38, 39, 40, 41, 42, 43] rfl (by decide +kernel)
set_option maxRecDepth 20000 in
theorem g_y_film_m_find_beyond_84 : GoodIn w_y_film (wsV RX9 84 RX9 yX9_finding w_m_find_beyond) := goodIn_r _ [10, 11, 12, 3, 13, 14, 15, 16, 17, 18, 19, 20, 21, 22, 23, 24, 25, 26, 27, 28, 29, 30, 31, 32, 33, 34, 35, 36, 37, 38, 39, 40, 41, 42, 43] rfl (by decide +kernel)
set_option maxHeartbeats 4000000 in
set_option maxRecDepth 100000 in
theorem y_film (l : Launch) (dC : Nat → ClassId) (dI : Nat → Nat → Nat) (ad : Nat → Nat) (h0 : Nat) (sn : Int32) (v0 : Value) (v1 : Value) (v2 : Value) (v3 : Value) (v4 : Value) (m1 : Nat) (v6 : Value) (v7 : Value) (v8 : Value) (v9 : Value) (v10 : Value) (v11 : Value) (v12 : Value) (v13 : Value) (v14 : Value) (v15 : Value) (v16 : Value) (v17 : Value) (v18 : Value) (v19 : Value) (v20 : Value) (v21 : Value) (v22 : Value) (v23 : Value) (m2 : Nat) (v25 : Value) (v26 : Value) (v27 : Value) (mc1 : ClassId) (ff : Nat → Int32) (mc2 : ClassId) (sz : Nat) : Met l yX9_film w_y_film ({ frames := 2, cells := 0, slots := 0, locals := 42 } : Room) (va_Pc [.ref h0, .int sn] (preM dC dI ad [(mc1, .int), (mc2, .int)] [(h0, .inr (7, [v0, v1, v2, v3, v4, .ref m1, v6, v7, v8, v9, v10, v11, v12, v13, v14, v15, v16, v17, v18, v19, v20, v21, v22, v23, .ref m2, v25, v26, v27])), (m1, .inl (mc1, 8, .inl ff)), (m2, .inl (mc2, 4, .inl (fun _ => 0)))] sz)) (va_Qi (fun (r : Int32) (_ : Unit) => ((sn < 0) → r = (-1000000001)) ∧ (¬ (sn < 0) → (3 < sn) → r = (-1000000001)) ∧ (¬ (sn < 0) → ¬ (3 < sn) → r = (-1000000006))) (fun _ _ => True) (va_A [(h0, .inr (7, [v0, v1, v2, v3, v4, .ref m1, v6, v7, v8, v9, v10, v11, v12, v13, v14, v15, v16, v17, v18, v19, v20, v21, v22, v23, .ref m2, v25, v26, v27])), (m1, .inl (mc1, 8, .inl ff)), (m2, .inl (mc2, 4, .inl (fun _ => 0)))] sz)) 0 0 (va_A [(h0, .inr (7, [v0, v1, v2, v3, v4, .ref m1, v6, v7, v8, v9, v10, v11, v12, v13, v14, v15, v16, v17, v18, v19, v20, v21, v22, v23, .ref m2, v25, v26, v27])), (m1, .inl (mc1, 8, .inl ff)), (m2, .inl (mc2, 4, .inl (fun _ => 0)))] sz) := by
  refine Met.ofW (cc := cX9_film) (maxL := 4) (ret := (some .int)) (by decide) rfl ?_
  intro p e s m args below meth c s₁ B hml hv
  obtain ⟨rfl, hsz, hP, hK, hD0, hev⟩ := hv
  have hx := B.exec
  have hb := B.bytes
  have hr := B.returns
  have hts := atoms_spec (ws := w_y_film) B.pre
  have hown : s.vm.findClass RX9 = some m.cls := findClass_of_methodNamed B.named
  have hlocks := B.notSynchronized
  have inX9 : ∀ w ∈ wsX90, w ∈ w_y_film := fun w h => List.mem_cons_of_mem _ (List.mem_append_right _ h)
  subst hsz
  have hD := hD0.self (sz := s.heap.size)
  generalize hAe : va_A [(h0, .inr (7, [v0, v1, v2, v3, v4, .ref m1, v6, v7, v8, v9, v10, v11, v12, v13, v14, v15, v16, v17, v18, v19, v20, v21, v22, v23, .ref m2, v25, v26, v27])), (m1, .inl (mc1, 8, .inl ff)), (m2, .inl (mc2, 4, .inl (fun _ => 0)))] s.heap.size = A at hD ⊢
  have hA : ∀ q : Nat, s.heap.size ≤ q → A q := fun q h => by rw [← hAe]; exact Or.inr h
  have hS : va_S A s.heap s.heap [] := va_S.rf
  have hP : va_P (dC, dI) vwCl [(h0, .inr (7, [v0, v1, v2, v3, v4, .ref m1, v6, v7, v8, v9, v10, v11, v12, v13, v14, v15, v16, v17, v18, v19, v20, v21, v22, v23, .ref m2, v25, v26, v27])), (m1, .inl (mc1, 8, .inl ff)), (m2, .inl (mc2, 4, .inl (fun _ => 0)))] s.heap := hP
  have hl := lv_entry ([.ref h0, .int sn]) (n := 4) (Nat.le_of_ble_eq_true rfl)
  rw [lg_entry_eq]
  generalize (lg_sl ([.ref h0, .int sn]) ++ List.replicate (4 - (lg_sl ([.ref h0, .int sn])).length) Slot.unset).toArray = ls at hl ⊢
  have hl : lv_has ls 4 [(0, .ref h0), (1, .int sn)] := hl
  refine lv_iload_n hx hb dX9_film_0 rfl (lv_at hl 1 rfl) ?_
  have hPc := hP.sub (ws' := []) [] rfl
  have hKc := hK.sub (tys' := []) [] rfl
  refine vp_callSi (W.runS (As := [.int sn]) (rest := []) ⟨hx, hb, hml, hown, hts⟩ (m_isSheet l dC dI ad sn ) (va_cwS 1 hts g_y_film_m_isSheet_285 rfl rfl rfl (by decide +kernel) ⟨(Nat.le_of_ble_eq_true rfl), (Nat.le_of_ble_eq_true rfl)⟩) ⟨preS_blind, fun U hU hW => ⟨rfl, preS_at hU hW hPc hKc hev⟩⟩ rfl rfl hl.1 rfl (lv_room (Nat.le_of_ble_eq_true rfl)) dX9_film_1 ⟨(Nat.le_of_ble_eq_true rfl), (Nat.le_of_ble_eq_true rfl)⟩) (fun r_1 hw => ?_)
  by_cases c_2 : 0 ≤ sn ∧ sn ≤ 3
  · skip
    have hw := hw.1 c_2
    subst hw
    refine lv_if_ne (tgt := 14) hx hb dX9_film_4 (by decide) (fun _ => ?_) (fun c => absurd c (by decide))
    refine lv_aload_n hx hb dX9_film_14 rfl (lv_at hl 0 rfl) ?_
    refine va_get (D := (dC, dI)) (ci := 7) (v := .ref m2) (C := RX9) (T := TX9) (N := 28) hx hb hts inX9 hown hK hP 0 rfl rfl 24 (by decide) (hts _ (List.mem_of_getElem? (i := 8) rfl)) (fun _ h9 => h9) rfl dX9_film_15 ?_
    refine lv_iload_n hx hb dX9_film_18 rfl (lv_at hl 1 rfl) ?_
    refine va_iald hx hb hK hP 2 1 rfl rfl (by rw [vp_in_iff]; simp only [fa_lt, fa_le, fa_eq, and_true, true_and, and_false, false_and, not_true_eq_false, not_false_eq_true, li_0, li_1, li_2, li_3, li_4, li_5, li_6, li_7, li_8, li_9, li_10, li_12, li_15, li_16, li_20, li_30, li_34, li_38, li_40, li_63, li_64, li_65, li_78, li_120, li_1000, li_4000, li_10000, li_11077, li_255, li_65535, li_m1, li_m2, li_m1000000001, li_m1000000002, li_m1000000003, li_m1000000004, li_m1000000005, li_m1000000006, li_m1000000007] at c_2 ⊢ <;> omega) dX9_film_19 ?_
    refine pp_ti (y := 0) (rfl) ?_
    refine lv_if_ne (tgt := 31) hx hb dX9_film_20 (by decide) (fun c => absurd (by decide) c) (fun _ => ?_)
    refine lv_aload_n hx hb dX9_film_23 rfl (lv_at hl 0 rfl) ?_
    refine lv_ldcw hx hb hown (hts _ (List.mem_of_getElem? (i := 9) rfl)) dX9_film_24 ?_
    have hPc := hP.sub (ws' := [(h0, .inr (7, [v0, v1, v2, v3, v4, .ref m1, v6, v7, v8, v9, v10, v11, v12, v13, v14, v15, v16, v17, v18, v19, v20, v21, v22, v23, .ref m2, v25, v26, v27])), (m1, .inl (mc1, 8, .inl ff))]) [0, 1] rfl
    have hKc := hK.sub (tys' := [(mc1, .int)]) [0] rfl
    have hDc := hD.sub (ws' := [(h0, .inr (7, [v0, v1, v2, v3, v4, .ref m1, v6, v7, v8, v9, v10, v11, v12, v13, v14, v15, v16, v17, v18, v19, v20, v21, v22, v23, .ref m2, v25, v26, v27])), (m1, .inl (mc1, 8, .inl ff))]) [0, 1] (by decide) rfl
    have hFc := va_free (wc := [(h0, .inr (7, [v0, v1, v2, v3, v4, .ref m1, v6, v7, v8, v9, v10, v11, v12, v13, v14, v15, v16, v17, v18, v19, v20, v21, v22, v23, .ref m2, v25, v26, v27])), (m1, .inl (mc1, 8, .inl ff))]) hD hS hA [0, 1] rfl
    refine va_calli (va_runV (As := [.int (-1000000006)]) (rest := []) ⟨hx, hb, hml, hown, hts⟩ (m_find_missing l dC dI ad h0 v0 v1 v2 v3 v4 m1 v6 v7 v8 v9 v10 v11 v12 v13 v14 v15 v16 v17 v18 v19 v20 v21 v22 v23 (.ref m2) v25 v26 v27 mc1 ff s.heap.size ) (cwV 1 hts g_y_film_m_find_missing_84 rfl rfl rfl (by decide +kernel) ⟨(Nat.le_of_ble_eq_true rfl), (Nat.le_of_ble_eq_true rfl)⟩) ⟨preM_blind, va_recv hKc hPc (ci := 7) (q0 := 0) rfl rfl, fun U hU hW => ⟨rfl, preM_at hU hW hPc hKc hDc hev⟩⟩ rfl rfl hl.1 rfl (lv_room (Nat.le_of_ble_eq_true rfl)) dX9_film_27 ⟨(Nat.le_of_ble_eq_true rfl), (Nat.le_of_ble_eq_true rfl)⟩) hS (fun q _ h => hFc q h) hFc (fun r_3 u t H1 locs ht hvm hw hB hz1 hk1 hS => ?_)
    obtain ⟨hP, hD⟩ := va_join (wr := [(m2, .inl (mc2, 4, .inl (fun _ => 0)))]) (w1 := []) hP hD [0, 1] [2] rfl rfl (by decide) (by decide) hk1 hFc nil_P nil_D
    generalize H1 = H at hP hS ⊢
    have hP : va_P (dC, dI) vwCl [(m2, .inl (mc2, 4, .inl (fun _ => 0)))] H := hP
    have hD : va_D A [(m2, .inl (mc2, 4, .inl (fun _ => 0)))] := hD
    subst hw
    exact W.iret (v := (-1000000006)) hx hb hr (fun t ht hW => ⟨⟨(-1000000006), (), rfl, ⟨(fun h => (by first | rfl | (exfalso; simp only [fa_lt, fa_le, fa_eq, and_true, true_and, and_false, false_and, not_true_eq_false, not_false_eq_true, li_0, li_1, li_2, li_3, li_4, li_5, li_6, li_7, li_8, li_9, li_10, li_12, li_15, li_16, li_20, li_30, li_34, li_38, li_40, li_63, li_64, li_65, li_78, li_120, li_1000, li_4000, li_10000, li_11077, li_255, li_65535, li_m1, li_m2, li_m1000000001, li_m1000000002, li_m1000000003, li_m1000000004, li_m1000000005, li_m1000000006, li_m1000000007] at c_2 h <;> omega) | (simp only [fa_lt, fa_le, fa_eq, and_true, true_and, and_false, false_and, not_true_eq_false, not_false_eq_true, li_0, li_1, li_2, li_3, li_4, li_5, li_6, li_7, li_8, li_9, li_10, li_12, li_15, li_16, li_20, li_30, li_34, li_38, li_40, li_63, li_64, li_65, li_78, li_120, li_1000, li_4000, li_10000, li_11077, li_255, li_65535, li_m1, li_m2, li_m1000000001, li_m1000000002, li_m1000000003, li_m1000000004, li_m1000000005, li_m1000000006, li_m1000000007] at c_2 h ⊢ <;> omega))), (fun g0 h => (by first | rfl | (exfalso; simp only [fa_lt, fa_le, fa_eq, and_true, true_and, and_false, false_and, not_true_eq_false, not_false_eq_true, li_0, li_1, li_2, li_3, li_4, li_5, li_6, li_7, li_8, li_9, li_10, li_12, li_15, li_16, li_20, li_30, li_34, li_38, li_40, li_63, li_64, li_65, li_78, li_120, li_1000, li_4000, li_10000, li_11077, li_255, li_65535, li_m1, li_m2, li_m1000000001, li_m1000000002, li_m1000000003, li_m1000000004, li_m1000000005, li_m1000000006, li_m1000000007] at c_2 g0 h <;> omega) | (simp only [fa_lt, fa_le, fa_eq, and_true, true_and, and_false, false_and, not_true_eq_false, not_false_eq_true, li_0, li_1, li_2, li_3, li_4, li_5, li_6, li_7, li_8, li_9, li_10, li_12, li_15, li_16, li_20, li_30, li_34, li_38, li_40, li_63, li_64, li_65, li_78, li_120, li_1000, li_4000, li_10000, li_11077, li_255, li_65535, li_m1, li_m2, li_m1000000001, li_m1000000002, li_m1000000003, li_m1000000004, li_m1000000005, li_m1000000006, li_m1000000007] at c_2 g0 h ⊢ <;> omega))), (fun g0 g1 => rfl)⟩, trivial⟩, hS.F ht⟩) hS.2.2 dX9_film_30
  · skip
    have hw := hw.2 c_2
    subst hw
    refine lv_if_ne (tgt := 14) hx hb dX9_film_4 (by decide) (fun c => absurd (by decide) c) (fun _ => ?_)
    refine lv_aload_n hx hb dX9_film_7 rfl (lv_at hl 0 rfl) ?_
    refine lv_ldc hx hb hown (hts _ (List.mem_of_getElem? (i := 15) rfl)) dX9_film_8 ?_
    have hPc := hP.sub (ws' := [(h0, .inr (7, [v0, v1, v2, v3, v4, .ref m1, v6, v7, v8, v9, v10, v11, v12, v13, v14, v15, v16, v17, v18, v19, v20, v21, v22, v23, .ref m2, v25, v26, v27])), (m1, .inl (mc1, 8, .inl ff))]) [0, 1] rfl
    have hKc := hK.sub (tys' := [(mc1, .int)]) [0] rfl
    have hDc := hD.sub (ws' := [(h0, .inr (7, [v0, v1, v2, v3, v4, .ref m1, v6, v7, v8, v9, v10, v11, v12, v13, v14, v15, v16, v17, v18, v19, v20, v21, v22, v23, .ref m2, v25, v26, v27])), (m1, .inl (mc1, 8, .inl ff))]) [0, 1] (by decide) rfl
    have hFc := va_free (wc := [(h0, .inr (7, [v0, v1, v2, v3, v4, .ref m1, v6, v7, v8, v9, v10, v11, v12, v13, v14, v15, v16, v17, v18, v19, v20, v21, v22, v23, .ref m2, v25, v26, v27])), (m1, .inl (mc1, 8, .inl ff))]) hD hS hA [0, 1] rfl
    refine va_calli (va_runV (As := [.int (-1000000001)]) (rest := []) ⟨hx, hb, hml, hown, hts⟩ (m_find_beyond l dC dI ad h0 v0 v1 v2 v3 v4 m1 v6 v7 v8 v9 v10 v11 v12 v13 v14 v15 v16 v17 v18 v19 v20 v21 v22 v23 (.ref m2) v25 v26 v27 mc1 ff s.heap.size ) (cwV 1 hts g_y_film_m_find_beyond_84 rfl rfl rfl (by decide +kernel) ⟨(Nat.le_of_ble_eq_true rfl), (Nat.le_of_ble_eq_true rfl)⟩) ⟨preM_blind, va_recv hKc hPc (ci := 7) (q0 := 0) rfl rfl, fun U hU hW => ⟨rfl, preM_at hU hW hPc hKc hDc hev⟩⟩ rfl rfl hl.1 rfl (lv_room (Nat.le_of_ble_eq_true rfl)) dX9_film_10 ⟨(Nat.le_of_ble_eq_true rfl), (Nat.le_of_ble_eq_true rfl)⟩) hS (fun q _ h => hFc q h) hFc (fun r_4 u t H1 locs ht hvm hw hB hz1 hk1 hS => ?_)
    obtain ⟨hP, hD⟩ := va_join (wr := [(m2, .inl (mc2, 4, .inl (fun _ => 0)))]) (w1 := []) hP hD [0, 1] [2] rfl rfl (by decide) (by decide) hk1 hFc nil_P nil_D
    generalize H1 = H at hP hS ⊢
    have hP : va_P (dC, dI) vwCl [(m2, .inl (mc2, 4, .inl (fun _ => 0)))] H := hP
    have hD : va_D A [(m2, .inl (mc2, 4, .inl (fun _ => 0)))] := hD
    subst hw
    exact W.iret (v := (-1000000001)) hx hb hr (fun t ht hW => ⟨⟨(-1000000001), (), rfl, ⟨(fun h => rfl), (fun g0 h => rfl), (fun g0 g1 => (by first | rfl | (exfalso; simp only [fa_lt, fa_le, fa_eq, and_true, true_and, and_false, false_and, not_true_eq_false, not_false_eq_true, li_0, li_1, li_2, li_3, li_4, li_5, li_6, li_7, li_8, li_9, li_10, li_12, li_15, li_16, li_20, li_30, li_34, li_38, li_40, li_63, li_64, li_65, li_78, li_120, li_1000, li_4000, li_10000, li_11077, li_255, li_65535, li_m1, li_m2, li_m1000000001, li_m1000000002, li_m1000000003, li_m1000000004, li_m1000000005, li_m1000000006, li_m1000000007] at c_2 g0 g1 <;> omega) | (simp only [fa_lt, fa_le, fa_eq, and_true, true_and, and_false, false_and, not_true_eq_false, not_false_eq_true, li_0, li_1, li_2, li_3, li_4, li_5, li_6, li_7, li_8, li_9, li_10, li_12, li_15, li_16, li_20, li_30, li_34, li_38, li_40, li_63, li_64, li_65, li_78, li_120, li_1000, li_4000, li_10000, li_11077, li_255, li_65535, li_m1, li_m2, li_m1000000001, li_m1000000002, li_m1000000003, li_m1000000004, li_m1000000005, li_m1000000006, li_m1000000007] at c_2 g0 g1 ⊢ <;> omega)))⟩, trivial⟩, hS.F ht⟩) hS.2.2 dX9_film_13

def w_y_read : List Cond := .code yX9_read cX9_read 3 (some .int) :: (([.methodLink RX9 285 yX9_isSheet, .static yX9_isSheet, .initialized RX9, .code yX9_isSheet cX9_isSheet 1 (some .boolean), .methodLink RX9 75 yX9_within, .static yX9_within, .code yX9_within cX9_within 3 (some .boolean), .fieldLink RX9 59 "LampShapesModel" "widths" "[I", .constant RX9 288 (-1000000006), .methodLink RX9 84 yX9_finding, .instanceMethod yX9_finding, .selects RX9 yX9_finding yX9_finding, .code yX9_finding cX9_finding 2 (some .int), .fieldLink RX9 23 "LampShapesModel" "found" "[I", .constant RX9 74 (-1000000001)] : List Cond) ++ wsX90)
set_option maxRecDepth 20000 in
theorem g_y_read_m_isSheet_285 : GoodIn w_y_read (va_wsS RX9 285 yX9_isSheet w_m_isSheet) := goodIn_r _ [1, 2, 3, 4, 5, 6, 3, 7] rfl (by decide +kernel)
set_option maxRecDepth 20000 in
theorem g_y_read_m_find_missing_84 : GoodIn w_y_read (wsV RX9 84 RX9 yX9_finding w_m_find_missing) := goodIn_r _ [10, 11, 12, 3, 13, 14, 15, 16, 17, 18, 19, 20, 21, 22, 23, 24, 25, 26, 27, 28, 29, 30, 31, 32, 33, 34, 35, 36, 37, 38, 39, 40, 41, 42, 43] rfl (by decide +kernel)
set_option maxRecDepth 20000 in
theorem g_y_read_m_find_beyond_84 : GoodIn w_y_read (wsV RX9 84 RX9 yX9_finding w_m_find_beyond) := goodIn_r _ [10, 11, 12, 3, 13, 14, 15, 16, 17, 18, 19, 20, 21, 22, 23, 24, 25, 26, 27, 28, 29, 30, 31, 32, 33, 34, 35, 36, 37, 38, 39, 40, 41, 42, 43] rfl (by decide +kernel)
set_option maxHeartbeats 4000000 in
set_option maxRecDepth 100000 in
theorem y_read (l : Launch) (dC : Nat → ClassId) (dI : Nat → Nat → Nat) (ad : Nat → Nat) (h0 : Nat) (sn : Int32) (v0 : Value) (v1 : Value) (v2 : Value) (v3 : Value) (v4 : Value) (m1 : Nat) (v6 : Value) (v7 : Value) (v8 : Value) (v9 : Value) (v10 : Value) (v11 : Value) (v12 : Value) (v13 : Value) (v14 : Value) (v15 : Value) (v16 : Value) (v17 : Value) (v18 : Value) (v19 : Value) (v20 : Value) (v21 : Value) (v22 : Value) (v23 : Value) (m2 : Nat) (v25 : Value) (v26 : Value) (v27 : Value) (mc1 : ClassId) (ff : Nat → Int32) (mc2 : ClassId) (sz : Nat) : Met l yX9_read w_y_read ({ frames := 2, cells := 0, slots := 0, locals := 42 } : Room) (va_Pc [.ref h0, .int sn] (preM dC dI ad [(mc1, .int), (mc2, .int)] [(h0, .inr (7, [v0, v1, v2, v3, v4, .ref m1, v6, v7, v8, v9, v10, v11, v12, v13, v14, v15, v16, v17, v18, v19, v20, v21, v22, v23, .ref m2, v25, v26, v27])), (m1, .inl (mc1, 8, .inl ff)), (m2, .inl (mc2, 4, .inl (fun _ => 0)))] sz)) (va_Qi (fun (r : Int32) (_ : Unit) => ((sn < 0) → r = (-1000000001)) ∧ (¬ (sn < 0) → (3 < sn) → r = (-1000000001)) ∧ (¬ (sn < 0) → ¬ (3 < sn) → r = (-1000000006))) (fun _ _ => True) (va_A [(h0, .inr (7, [v0, v1, v2, v3, v4, .ref m1, v6, v7, v8, v9, v10, v11, v12, v13, v14, v15, v16, v17, v18, v19, v20, v21, v22, v23, .ref m2, v25, v26, v27])), (m1, .inl (mc1, 8, .inl ff)), (m2, .inl (mc2, 4, .inl (fun _ => 0)))] sz)) 0 0 (va_A [(h0, .inr (7, [v0, v1, v2, v3, v4, .ref m1, v6, v7, v8, v9, v10, v11, v12, v13, v14, v15, v16, v17, v18, v19, v20, v21, v22, v23, .ref m2, v25, v26, v27])), (m1, .inl (mc1, 8, .inl ff)), (m2, .inl (mc2, 4, .inl (fun _ => 0)))] sz) := by
  refine Met.ofW (cc := cX9_read) (maxL := 3) (ret := (some .int)) (by decide) rfl ?_
  intro p e s m args below meth c s₁ B hml hv
  obtain ⟨rfl, hsz, hP, hK, hD0, hev⟩ := hv
  have hx := B.exec
  have hb := B.bytes
  have hr := B.returns
  have hts := atoms_spec (ws := w_y_read) B.pre
  have hown : s.vm.findClass RX9 = some m.cls := findClass_of_methodNamed B.named
  have hlocks := B.notSynchronized
  have inX9 : ∀ w ∈ wsX90, w ∈ w_y_read := fun w h => List.mem_cons_of_mem _ (List.mem_append_right _ h)
  subst hsz
  have hD := hD0.self (sz := s.heap.size)
  generalize hAe : va_A [(h0, .inr (7, [v0, v1, v2, v3, v4, .ref m1, v6, v7, v8, v9, v10, v11, v12, v13, v14, v15, v16, v17, v18, v19, v20, v21, v22, v23, .ref m2, v25, v26, v27])), (m1, .inl (mc1, 8, .inl ff)), (m2, .inl (mc2, 4, .inl (fun _ => 0)))] s.heap.size = A at hD ⊢
  have hA : ∀ q : Nat, s.heap.size ≤ q → A q := fun q h => by rw [← hAe]; exact Or.inr h
  have hS : va_S A s.heap s.heap [] := va_S.rf
  have hP : va_P (dC, dI) vwCl [(h0, .inr (7, [v0, v1, v2, v3, v4, .ref m1, v6, v7, v8, v9, v10, v11, v12, v13, v14, v15, v16, v17, v18, v19, v20, v21, v22, v23, .ref m2, v25, v26, v27])), (m1, .inl (mc1, 8, .inl ff)), (m2, .inl (mc2, 4, .inl (fun _ => 0)))] s.heap := hP
  have hl := lv_entry ([.ref h0, .int sn]) (n := 3) (Nat.le_of_ble_eq_true rfl)
  rw [lg_entry_eq]
  generalize (lg_sl ([.ref h0, .int sn]) ++ List.replicate (3 - (lg_sl ([.ref h0, .int sn])).length) Slot.unset).toArray = ls at hl ⊢
  have hl : lv_has ls 3 [(0, .ref h0), (1, .int sn)] := hl
  refine lv_iload_n hx hb dX9_read_0 rfl (lv_at hl 1 rfl) ?_
  have hPc := hP.sub (ws' := []) [] rfl
  have hKc := hK.sub (tys' := []) [] rfl
  refine vp_callSi (W.runS (As := [.int sn]) (rest := []) ⟨hx, hb, hml, hown, hts⟩ (m_isSheet l dC dI ad sn ) (va_cwS 1 hts g_y_read_m_isSheet_285 rfl rfl rfl (by decide +kernel) ⟨(Nat.le_of_ble_eq_true rfl), (Nat.le_of_ble_eq_true rfl)⟩) ⟨preS_blind, fun U hU hW => ⟨rfl, preS_at hU hW hPc hKc hev⟩⟩ rfl rfl hl.1 rfl (lv_room (Nat.le_of_ble_eq_true rfl)) dX9_read_1 ⟨(Nat.le_of_ble_eq_true rfl), (Nat.le_of_ble_eq_true rfl)⟩) (fun r_1 hw => ?_)
  by_cases c_2 : 0 ≤ sn ∧ sn ≤ 3
  · skip
    have hw := hw.1 c_2
    subst hw
    refine lv_if_ne (tgt := 14) hx hb dX9_read_4 (by decide) (fun _ => ?_) (fun c => absurd c (by decide))
    refine lv_aload_n hx hb dX9_read_14 rfl (lv_at hl 0 rfl) ?_
    refine va_get (D := (dC, dI)) (ci := 7) (v := .ref m2) (C := RX9) (T := TX9) (N := 28) hx hb hts inX9 hown hK hP 0 rfl rfl 24 (by decide) (hts _ (List.mem_of_getElem? (i := 8) rfl)) (fun _ h9 => h9) rfl dX9_read_15 ?_
    refine lv_iload_n hx hb dX9_read_18 rfl (lv_at hl 1 rfl) ?_
    refine va_iald hx hb hK hP 2 1 rfl rfl (by rw [vp_in_iff]; simp only [fa_lt, fa_le, fa_eq, and_true, true_and, and_false, false_and, not_true_eq_false, not_false_eq_true, li_0, li_1, li_2, li_3, li_4, li_5, li_6, li_7, li_8, li_9, li_10, li_12, li_15, li_16, li_20, li_30, li_34, li_38, li_40, li_63, li_64, li_65, li_78, li_120, li_1000, li_4000, li_10000, li_11077, li_255, li_65535, li_m1, li_m2, li_m1000000001, li_m1000000002, li_m1000000003, li_m1000000004, li_m1000000005, li_m1000000006, li_m1000000007] at c_2 ⊢ <;> omega) dX9_read_19 ?_
    refine pp_ti (y := 0) (rfl) ?_
    refine lv_if_ne (tgt := 31) hx hb dX9_read_20 (by decide) (fun c => absurd (by decide) c) (fun _ => ?_)
    refine lv_aload_n hx hb dX9_read_23 rfl (lv_at hl 0 rfl) ?_
    refine lv_ldcw hx hb hown (hts _ (List.mem_of_getElem? (i := 9) rfl)) dX9_read_24 ?_
    have hPc := hP.sub (ws' := [(h0, .inr (7, [v0, v1, v2, v3, v4, .ref m1, v6, v7, v8, v9, v10, v11, v12, v13, v14, v15, v16, v17, v18, v19, v20, v21, v22, v23, .ref m2, v25, v26, v27])), (m1, .inl (mc1, 8, .inl ff))]) [0, 1] rfl
    have hKc := hK.sub (tys' := [(mc1, .int)]) [0] rfl
    have hDc := hD.sub (ws' := [(h0, .inr (7, [v0, v1, v2, v3, v4, .ref m1, v6, v7, v8, v9, v10, v11, v12, v13, v14, v15, v16, v17, v18, v19, v20, v21, v22, v23, .ref m2, v25, v26, v27])), (m1, .inl (mc1, 8, .inl ff))]) [0, 1] (by decide) rfl
    have hFc := va_free (wc := [(h0, .inr (7, [v0, v1, v2, v3, v4, .ref m1, v6, v7, v8, v9, v10, v11, v12, v13, v14, v15, v16, v17, v18, v19, v20, v21, v22, v23, .ref m2, v25, v26, v27])), (m1, .inl (mc1, 8, .inl ff))]) hD hS hA [0, 1] rfl
    refine va_calli (va_runV (As := [.int (-1000000006)]) (rest := []) ⟨hx, hb, hml, hown, hts⟩ (m_find_missing l dC dI ad h0 v0 v1 v2 v3 v4 m1 v6 v7 v8 v9 v10 v11 v12 v13 v14 v15 v16 v17 v18 v19 v20 v21 v22 v23 (.ref m2) v25 v26 v27 mc1 ff s.heap.size ) (cwV 1 hts g_y_read_m_find_missing_84 rfl rfl rfl (by decide +kernel) ⟨(Nat.le_of_ble_eq_true rfl), (Nat.le_of_ble_eq_true rfl)⟩) ⟨preM_blind, va_recv hKc hPc (ci := 7) (q0 := 0) rfl rfl, fun U hU hW => ⟨rfl, preM_at hU hW hPc hKc hDc hev⟩⟩ rfl rfl hl.1 rfl (lv_room (Nat.le_of_ble_eq_true rfl)) dX9_read_27 ⟨(Nat.le_of_ble_eq_true rfl), (Nat.le_of_ble_eq_true rfl)⟩) hS (fun q _ h => hFc q h) hFc (fun r_3 u t H1 locs ht hvm hw hB hz1 hk1 hS => ?_)
    obtain ⟨hP, hD⟩ := va_join (wr := [(m2, .inl (mc2, 4, .inl (fun _ => 0)))]) (w1 := []) hP hD [0, 1] [2] rfl rfl (by decide) (by decide) hk1 hFc nil_P nil_D
    generalize H1 = H at hP hS ⊢
    have hP : va_P (dC, dI) vwCl [(m2, .inl (mc2, 4, .inl (fun _ => 0)))] H := hP
    have hD : va_D A [(m2, .inl (mc2, 4, .inl (fun _ => 0)))] := hD
    subst hw
    exact W.iret (v := (-1000000006)) hx hb hr (fun t ht hW => ⟨⟨(-1000000006), (), rfl, ⟨(fun h => (by first | rfl | (exfalso; simp only [fa_lt, fa_le, fa_eq, and_true, true_and, and_false, false_and, not_true_eq_false, not_false_eq_true, li_0, li_1, li_2, li_3, li_4, li_5, li_6, li_7, li_8, li_9, li_10, li_12, li_15, li_16, li_20, li_30, li_34, li_38, li_40, li_63, li_64, li_65, li_78, li_120, li_1000, li_4000, li_10000, li_11077, li_255, li_65535, li_m1, li_m2, li_m1000000001, li_m1000000002, li_m1000000003, li_m1000000004, li_m1000000005, li_m1000000006, li_m1000000007] at c_2 h <;> omega) | (simp only [fa_lt, fa_le, fa_eq, and_true, true_and, and_false, false_and, not_true_eq_false, not_false_eq_true, li_0, li_1, li_2, li_3, li_4, li_5, li_6, li_7, li_8, li_9, li_10, li_12, li_15, li_16, li_20, li_30, li_34, li_38, li_40, li_63, li_64, li_65, li_78, li_120, li_1000, li_4000, li_10000, li_11077, li_255, li_65535, li_m1, li_m2, li_m1000000001, li_m1000000002, li_m1000000003, li_m1000000004, li_m1000000005, li_m1000000006, li_m1000000007] at c_2 h ⊢ <;> omega))), (fun g0 h => (by first | rfl | (exfalso; simp only [fa_lt, fa_le, fa_eq, and_true, true_and, and_false, false_and, not_true_eq_false, not_false_eq_true, li_0, li_1, li_2, li_3, li_4, li_5, li_6, li_7, li_8, li_9, li_10, li_12, li_15, li_16, li_20, li_30, li_34, li_38, li_40, li_63, li_64, li_65, li_78, li_120, li_1000, li_4000, li_10000, li_11077, li_255, li_65535, li_m1, li_m2, li_m1000000001, li_m1000000002, li_m1000000003, li_m1000000004, li_m1000000005, li_m1000000006, li_m1000000007] at c_2 g0 h <;> omega) | (simp only [fa_lt, fa_le, fa_eq, and_true, true_and, and_false, false_and, not_true_eq_false, not_false_eq_true, li_0, li_1, li_2, li_3, li_4, li_5, li_6, li_7, li_8, li_9, li_10, li_12, li_15, li_16, li_20, li_30, li_34, li_38, li_40, li_63, li_64, li_65, li_78, li_120, li_1000, li_4000, li_10000, li_11077, li_255, li_65535, li_m1, li_m2, li_m1000000001, li_m1000000002, li_m1000000003, li_m1000000004, li_m1000000005, li_m1000000006, li_m1000000007] at c_2 g0 h ⊢ <;> omega))), (fun g0 g1 => rfl)⟩, trivial⟩, hS.F ht⟩) hS.2.2 dX9_read_30
  · skip
    have hw := hw.2 c_2
    subst hw
    refine lv_if_ne (tgt := 14) hx hb dX9_read_4 (by decide) (fun c => absurd (by decide) c) (fun _ => ?_)
    refine lv_aload_n hx hb dX9_read_7 rfl (lv_at hl 0 rfl) ?_
    refine lv_ldc hx hb hown (hts _ (List.mem_of_getElem? (i := 15) rfl)) dX9_read_8 ?_
    have hPc := hP.sub (ws' := [(h0, .inr (7, [v0, v1, v2, v3, v4, .ref m1, v6, v7, v8, v9, v10, v11, v12, v13, v14, v15, v16, v17, v18, v19, v20, v21, v22, v23, .ref m2, v25, v26, v27])), (m1, .inl (mc1, 8, .inl ff))]) [0, 1] rfl
    have hKc := hK.sub (tys' := [(mc1, .int)]) [0] rfl
    have hDc := hD.sub (ws' := [(h0, .inr (7, [v0, v1, v2, v3, v4, .ref m1, v6, v7, v8, v9, v10, v11, v12, v13, v14, v15, v16, v17, v18, v19, v20, v21, v22, v23, .ref m2, v25, v26, v27])), (m1, .inl (mc1, 8, .inl ff))]) [0, 1] (by decide) rfl
    have hFc := va_free (wc := [(h0, .inr (7, [v0, v1, v2, v3, v4, .ref m1, v6, v7, v8, v9, v10, v11, v12, v13, v14, v15, v16, v17, v18, v19, v20, v21, v22, v23, .ref m2, v25, v26, v27])), (m1, .inl (mc1, 8, .inl ff))]) hD hS hA [0, 1] rfl
    refine va_calli (va_runV (As := [.int (-1000000001)]) (rest := []) ⟨hx, hb, hml, hown, hts⟩ (m_find_beyond l dC dI ad h0 v0 v1 v2 v3 v4 m1 v6 v7 v8 v9 v10 v11 v12 v13 v14 v15 v16 v17 v18 v19 v20 v21 v22 v23 (.ref m2) v25 v26 v27 mc1 ff s.heap.size ) (cwV 1 hts g_y_read_m_find_beyond_84 rfl rfl rfl (by decide +kernel) ⟨(Nat.le_of_ble_eq_true rfl), (Nat.le_of_ble_eq_true rfl)⟩) ⟨preM_blind, va_recv hKc hPc (ci := 7) (q0 := 0) rfl rfl, fun U hU hW => ⟨rfl, preM_at hU hW hPc hKc hDc hev⟩⟩ rfl rfl hl.1 rfl (lv_room (Nat.le_of_ble_eq_true rfl)) dX9_read_10 ⟨(Nat.le_of_ble_eq_true rfl), (Nat.le_of_ble_eq_true rfl)⟩) hS (fun q _ h => hFc q h) hFc (fun r_4 u t H1 locs ht hvm hw hB hz1 hk1 hS => ?_)
    obtain ⟨hP, hD⟩ := va_join (wr := [(m2, .inl (mc2, 4, .inl (fun _ => 0)))]) (w1 := []) hP hD [0, 1] [2] rfl rfl (by decide) (by decide) hk1 hFc nil_P nil_D
    generalize H1 = H at hP hS ⊢
    have hP : va_P (dC, dI) vwCl [(m2, .inl (mc2, 4, .inl (fun _ => 0)))] H := hP
    have hD : va_D A [(m2, .inl (mc2, 4, .inl (fun _ => 0)))] := hD
    subst hw
    exact W.iret (v := (-1000000001)) hx hb hr (fun t ht hW => ⟨⟨(-1000000001), (), rfl, ⟨(fun h => rfl), (fun g0 h => rfl), (fun g0 g1 => (by first | rfl | (exfalso; simp only [fa_lt, fa_le, fa_eq, and_true, true_and, and_false, false_and, not_true_eq_false, not_false_eq_true, li_0, li_1, li_2, li_3, li_4, li_5, li_6, li_7, li_8, li_9, li_10, li_12, li_15, li_16, li_20, li_30, li_34, li_38, li_40, li_63, li_64, li_65, li_78, li_120, li_1000, li_4000, li_10000, li_11077, li_255, li_65535, li_m1, li_m2, li_m1000000001, li_m1000000002, li_m1000000003, li_m1000000004, li_m1000000005, li_m1000000006, li_m1000000007] at c_2 g0 g1 <;> omega) | (simp only [fa_lt, fa_le, fa_eq, and_true, true_and, and_false, false_and, not_true_eq_false, not_false_eq_true, li_0, li_1, li_2, li_3, li_4, li_5, li_6, li_7, li_8, li_9, li_10, li_12, li_15, li_16, li_20, li_30, li_34, li_38, li_40, li_63, li_64, li_65, li_78, li_120, li_1000, li_4000, li_10000, li_11077, li_255, li_65535, li_m1, li_m2, li_m1000000001, li_m1000000002, li_m1000000003, li_m1000000004, li_m1000000005, li_m1000000006, li_m1000000007] at c_2 g0 g1 ⊢ <;> omega)))⟩, trivial⟩, hS.F ht⟩) hS.2.2 dX9_read_13

def w_y_copy : List Cond := .code yX9_copy cX9_copy 7 (some .int) :: (([.methodLink RX9 285 yX9_isSheet, .static yX9_isSheet, .initialized RX9, .code yX9_isSheet cX9_isSheet 1 (some .boolean), .methodLink RX9 75 yX9_within, .static yX9_within, .code yX9_within cX9_within 3 (some .boolean), .fieldLink RX9 59 "LampShapesModel" "widths" "[I", .constant RX9 288 (-1000000006), .methodLink RX9 84 yX9_finding, .instanceMethod yX9_finding, .selects RX9 yX9_finding yX9_finding, .code yX9_finding cX9_finding 2 (some .int), .fieldLink RX9 23 "LampShapesModel" "found" "[I", .constant RX9 74 (-1000000001)] : List Cond) ++ wsX90)
set_option maxRecDepth 20000 in
theorem g_y_copy_m_isSheet_285 : GoodIn w_y_copy (va_wsS RX9 285 yX9_isSheet w_m_isSheet) := goodIn_r _ [1, 2, 3, 4, 5, 6, 3, 7] rfl (by decide +kernel)
set_option maxRecDepth 20000 in
theorem g_y_copy_m_find_missing_84 : GoodIn w_y_copy (wsV RX9 84 RX9 yX9_finding w_m_find_missing) := goodIn_r _ [10, 11, 12, 3, 13, 14, 15, 16, 17, 18, 19, 20, 21, 22, 23, 24, 25, 26, 27, 28, 29, 30, 31, 32, 33, 34, 35, 36, 37, 38, 39, 40, 41, 42, 43] rfl (by decide +kernel)
set_option maxRecDepth 20000 in
theorem g_y_copy_m_find_beyond_84 : GoodIn w_y_copy (wsV RX9 84 RX9 yX9_finding w_m_find_beyond) := goodIn_r _ [10, 11, 12, 3, 13, 14, 15, 16, 17, 18, 19, 20, 21, 22, 23, 24, 25, 26, 27, 28, 29, 30, 31, 32, 33, 34, 35, 36, 37, 38, 39, 40, 41, 42, 43] rfl (by decide +kernel)
set_option maxHeartbeats 4000000 in
set_option maxRecDepth 100000 in
theorem y_copy (l : Launch) (dC : Nat → ClassId) (dI : Nat → Nat → Nat) (ad : Nat → Nat) (h0 : Nat) (sn : Int32) (i : Int32) (d : Int32) (j : Int32) (n : Int32) (v0 : Value) (v1 : Value) (v2 : Value) (v3 : Value) (v4 : Value) (m1 : Nat) (v6 : Value) (v7 : Value) (v8 : Value) (v9 : Value) (v10 : Value) (v11 : Value) (v12 : Value) (v13 : Value) (v14 : Value) (v15 : Value) (v16 : Value) (v17 : Value) (v18 : Value) (v19 : Value) (v20 : Value) (v21 : Value) (v22 : Value) (v23 : Value) (m2 : Nat) (v25 : Value) (v26 : Value) (v27 : Value) (mc1 : ClassId) (ff : Nat → Int32) (mc2 : ClassId) (sz : Nat) : Met l yX9_copy w_y_copy ({ frames := 2, cells := 0, slots := 0, locals := 42 } : Room) (va_Pc [.ref h0, .int sn, .int i, .int d, .int j, .int n] (preM dC dI ad [(mc1, .int), (mc2, .int)] [(h0, .inr (7, [v0, v1, v2, v3, v4, .ref m1, v6, v7, v8, v9, v10, v11, v12, v13, v14, v15, v16, v17, v18, v19, v20, v21, v22, v23, .ref m2, v25, v26, v27])), (m1, .inl (mc1, 8, .inl ff)), (m2, .inl (mc2, 4, .inl (fun _ => 0)))] sz)) (va_Qi (fun (r : Int32) (_ : Unit) => ((sn < 0) → r = (-1000000001)) ∧ (¬ (sn < 0) → (3 < sn) → r = (-1000000001)) ∧ (¬ (sn < 0) → ¬ (3 < sn) → (d < 0) → r = (-1000000001)) ∧ (¬ (sn < 0) → ¬ (3 < sn) → ¬ (d < 0) → (3 < d) → r = (-1000000001)) ∧ (¬ (sn < 0) → ¬ (3 < sn) → ¬ (d < 0) → ¬ (3 < d) → r = (-1000000006))) (fun _ _ => True) (va_A [(h0, .inr (7, [v0, v1, v2, v3, v4, .ref m1, v6, v7, v8, v9, v10, v11, v12, v13, v14, v15, v16, v17, v18, v19, v20, v21, v22, v23, .ref m2, v25, v26, v27])), (m1, .inl (mc1, 8, .inl ff)), (m2, .inl (mc2, 4, .inl (fun _ => 0)))] sz)) 0 0 (va_A [(h0, .inr (7, [v0, v1, v2, v3, v4, .ref m1, v6, v7, v8, v9, v10, v11, v12, v13, v14, v15, v16, v17, v18, v19, v20, v21, v22, v23, .ref m2, v25, v26, v27])), (m1, .inl (mc1, 8, .inl ff)), (m2, .inl (mc2, 4, .inl (fun _ => 0)))] sz) := by
  refine Met.ofW (cc := cX9_copy) (maxL := 7) (ret := (some .int)) (by decide) rfl ?_
  intro p e s m args below meth c s₁ B hml hv
  obtain ⟨rfl, hsz, hP, hK, hD0, hev⟩ := hv
  have hx := B.exec
  have hb := B.bytes
  have hr := B.returns
  have hts := atoms_spec (ws := w_y_copy) B.pre
  have hown : s.vm.findClass RX9 = some m.cls := findClass_of_methodNamed B.named
  have hlocks := B.notSynchronized
  have inX9 : ∀ w ∈ wsX90, w ∈ w_y_copy := fun w h => List.mem_cons_of_mem _ (List.mem_append_right _ h)
  subst hsz
  have hD := hD0.self (sz := s.heap.size)
  generalize hAe : va_A [(h0, .inr (7, [v0, v1, v2, v3, v4, .ref m1, v6, v7, v8, v9, v10, v11, v12, v13, v14, v15, v16, v17, v18, v19, v20, v21, v22, v23, .ref m2, v25, v26, v27])), (m1, .inl (mc1, 8, .inl ff)), (m2, .inl (mc2, 4, .inl (fun _ => 0)))] s.heap.size = A at hD ⊢
  have hA : ∀ q : Nat, s.heap.size ≤ q → A q := fun q h => by rw [← hAe]; exact Or.inr h
  have hS : va_S A s.heap s.heap [] := va_S.rf
  have hP : va_P (dC, dI) vwCl [(h0, .inr (7, [v0, v1, v2, v3, v4, .ref m1, v6, v7, v8, v9, v10, v11, v12, v13, v14, v15, v16, v17, v18, v19, v20, v21, v22, v23, .ref m2, v25, v26, v27])), (m1, .inl (mc1, 8, .inl ff)), (m2, .inl (mc2, 4, .inl (fun _ => 0)))] s.heap := hP
  have hl := lv_entry ([.ref h0, .int sn, .int i, .int d, .int j, .int n]) (n := 7) (Nat.le_of_ble_eq_true rfl)
  rw [lg_entry_eq]
  generalize (lg_sl ([.ref h0, .int sn, .int i, .int d, .int j, .int n]) ++ List.replicate (7 - (lg_sl ([.ref h0, .int sn, .int i, .int d, .int j, .int n])).length) Slot.unset).toArray = ls at hl ⊢
  have hl : lv_has ls 7 [(0, .ref h0), (1, .int sn), (2, .int i), (3, .int d), (4, .int j), (5, .int n)] := hl
  refine lv_iload_n hx hb dX9_copy_0 rfl (lv_at hl 1 rfl) ?_
  have hPc := hP.sub (ws' := []) [] rfl
  have hKc := hK.sub (tys' := []) [] rfl
  refine vp_callSi (W.runS (As := [.int sn]) (rest := []) ⟨hx, hb, hml, hown, hts⟩ (m_isSheet l dC dI ad sn ) (va_cwS 1 hts g_y_copy_m_isSheet_285 rfl rfl rfl (by decide +kernel) ⟨(Nat.le_of_ble_eq_true rfl), (Nat.le_of_ble_eq_true rfl)⟩) ⟨preS_blind, fun U hU hW => ⟨rfl, preS_at hU hW hPc hKc hev⟩⟩ rfl rfl hl.1 rfl (lv_room (Nat.le_of_ble_eq_true rfl)) dX9_copy_1 ⟨(Nat.le_of_ble_eq_true rfl), (Nat.le_of_ble_eq_true rfl)⟩) (fun r_1 hw => ?_)
  by_cases c_2 : 0 ≤ sn ∧ sn ≤ 3
  · skip
    have hw := hw.1 c_2
    subst hw
    refine lv_if_eq (tgt := 14) hx hb dX9_copy_4 (by decide) (fun c => absurd c (by decide)) (fun _ => ?_)
    refine lv_iload_n hx hb dX9_copy_7 rfl (lv_at hl 3 rfl) ?_
    have hPc := hP.sub (ws' := []) [] rfl
    have hKc := hK.sub (tys' := []) [] rfl
    refine vp_callSi (W.runS (As := [.int d]) (rest := []) ⟨hx, hb, hml, hown, hts⟩ (m_isSheet l dC dI ad d ) (va_cwS 1 hts g_y_copy_m_isSheet_285 rfl rfl rfl (by decide +kernel) ⟨(Nat.le_of_ble_eq_true rfl), (Nat.le_of_ble_eq_true rfl)⟩) ⟨preS_blind, fun U hU hW => ⟨rfl, preS_at hU hW hPc hKc hev⟩⟩ rfl rfl hl.1 rfl (lv_room (Nat.le_of_ble_eq_true rfl)) dX9_copy_8 ⟨(Nat.le_of_ble_eq_true rfl), (Nat.le_of_ble_eq_true rfl)⟩) (fun r_3 hw => ?_)
    by_cases c_4 : 0 ≤ d ∧ d ≤ 3
    · skip
      have hw := hw.1 c_4
      subst hw
      refine lv_if_ne (tgt := 21) hx hb dX9_copy_11 (by decide) (fun _ => ?_) (fun c => absurd c (by decide))
      refine lv_aload_n hx hb dX9_copy_21 rfl (lv_at hl 0 rfl) ?_
      refine va_get (D := (dC, dI)) (ci := 7) (v := .ref m2) (C := RX9) (T := TX9) (N := 28) hx hb hts inX9 hown hK hP 0 rfl rfl 24 (by decide) (hts _ (List.mem_of_getElem? (i := 8) rfl)) (fun _ h9 => h9) rfl dX9_copy_22 ?_
      refine lv_iload_n hx hb dX9_copy_25 rfl (lv_at hl 1 rfl) ?_
      refine va_iald hx hb hK hP 2 1 rfl rfl (by rw [vp_in_iff]; simp only [fa_lt, fa_le, fa_eq, and_true, true_and, and_false, false_and, not_true_eq_false, not_false_eq_true, li_0, li_1, li_2, li_3, li_4, li_5, li_6, li_7, li_8, li_9, li_10, li_12, li_15, li_16, li_20, li_30, li_34, li_38, li_40, li_63, li_64, li_65, li_78, li_120, li_1000, li_4000, li_10000, li_11077, li_255, li_65535, li_m1, li_m2, li_m1000000001, li_m1000000002, li_m1000000003, li_m1000000004, li_m1000000005, li_m1000000006, li_m1000000007] at c_2 c_4 ⊢ <;> omega) dX9_copy_26 ?_
      refine pp_ti (y := 0) (rfl) ?_
      refine lv_if_eq (tgt := 39) hx hb dX9_copy_27 (by decide) (fun _ => ?_) (fun c => absurd (by decide) c)
      refine lv_aload_n hx hb dX9_copy_39 rfl (lv_at hl 0 rfl) ?_
      refine lv_ldcw hx hb hown (hts _ (List.mem_of_getElem? (i := 9) rfl)) dX9_copy_40 ?_
      have hPc := hP.sub (ws' := [(h0, .inr (7, [v0, v1, v2, v3, v4, .ref m1, v6, v7, v8, v9, v10, v11, v12, v13, v14, v15, v16, v17, v18, v19, v20, v21, v22, v23, .ref m2, v25, v26, v27])), (m1, .inl (mc1, 8, .inl ff))]) [0, 1] rfl
      have hKc := hK.sub (tys' := [(mc1, .int)]) [0] rfl
      have hDc := hD.sub (ws' := [(h0, .inr (7, [v0, v1, v2, v3, v4, .ref m1, v6, v7, v8, v9, v10, v11, v12, v13, v14, v15, v16, v17, v18, v19, v20, v21, v22, v23, .ref m2, v25, v26, v27])), (m1, .inl (mc1, 8, .inl ff))]) [0, 1] (by decide) rfl
      have hFc := va_free (wc := [(h0, .inr (7, [v0, v1, v2, v3, v4, .ref m1, v6, v7, v8, v9, v10, v11, v12, v13, v14, v15, v16, v17, v18, v19, v20, v21, v22, v23, .ref m2, v25, v26, v27])), (m1, .inl (mc1, 8, .inl ff))]) hD hS hA [0, 1] rfl
      refine va_calli (va_runV (As := [.int (-1000000006)]) (rest := []) ⟨hx, hb, hml, hown, hts⟩ (m_find_missing l dC dI ad h0 v0 v1 v2 v3 v4 m1 v6 v7 v8 v9 v10 v11 v12 v13 v14 v15 v16 v17 v18 v19 v20 v21 v22 v23 (.ref m2) v25 v26 v27 mc1 ff s.heap.size ) (cwV 1 hts g_y_copy_m_find_missing_84 rfl rfl rfl (by decide +kernel) ⟨(Nat.le_of_ble_eq_true rfl), (Nat.le_of_ble_eq_true rfl)⟩) ⟨preM_blind, va_recv hKc hPc (ci := 7) (q0 := 0) rfl rfl, fun U hU hW => ⟨rfl, preM_at hU hW hPc hKc hDc hev⟩⟩ rfl rfl hl.1 rfl (lv_room (Nat.le_of_ble_eq_true rfl)) dX9_copy_43 ⟨(Nat.le_of_ble_eq_true rfl), (Nat.le_of_ble_eq_true rfl)⟩) hS (fun q _ h => hFc q h) hFc (fun r_5 u t H1 locs ht hvm hw hB hz1 hk1 hS => ?_)
      obtain ⟨hP, hD⟩ := va_join (wr := [(m2, .inl (mc2, 4, .inl (fun _ => 0)))]) (w1 := []) hP hD [0, 1] [2] rfl rfl (by decide) (by decide) hk1 hFc nil_P nil_D
      generalize H1 = H at hP hS ⊢
      have hP : va_P (dC, dI) vwCl [(m2, .inl (mc2, 4, .inl (fun _ => 0)))] H := hP
      have hD : va_D A [(m2, .inl (mc2, 4, .inl (fun _ => 0)))] := hD
      subst hw
      exact W.iret (v := (-1000000006)) hx hb hr (fun t ht hW => ⟨⟨(-1000000006), (), rfl, ⟨(fun h => (by first | rfl | (exfalso; simp only [fa_lt, fa_le, fa_eq, and_true, true_and, and_false, false_and, not_true_eq_false, not_false_eq_true, li_0, li_1, li_2, li_3, li_4, li_5, li_6, li_7, li_8, li_9, li_10, li_12, li_15, li_16, li_20, li_30, li_34, li_38, li_40, li_63, li_64, li_65, li_78, li_120, li_1000, li_4000, li_10000, li_11077, li_255, li_65535, li_m1, li_m2, li_m1000000001, li_m1000000002, li_m1000000003, li_m1000000004, li_m1000000005, li_m1000000006, li_m1000000007] at c_2 c_4 h <;> omega) | (simp only [fa_lt, fa_le, fa_eq, and_true, true_and, and_false, false_and, not_true_eq_false, not_false_eq_true, li_0, li_1, li_2, li_3, li_4, li_5, li_6, li_7, li_8, li_9, li_10, li_12, li_15, li_16, li_20, li_30, li_34, li_38, li_40, li_63, li_64, li_65, li_78, li_120, li_1000, li_4000, li_10000, li_11077, li_255, li_65535, li_m1, li_m2, li_m1000000001, li_m1000000002, li_m1000000003, li_m1000000004, li_m1000000005, li_m1000000006, li_m1000000007] at c_2 c_4 h ⊢ <;> omega))), (fun g0 h => (by first | rfl | (exfalso; simp only [fa_lt, fa_le, fa_eq, and_true, true_and, and_false, false_and, not_true_eq_false, not_false_eq_true, li_0, li_1, li_2, li_3, li_4, li_5, li_6, li_7, li_8, li_9, li_10, li_12, li_15, li_16, li_20, li_30, li_34, li_38, li_40, li_63, li_64, li_65, li_78, li_120, li_1000, li_4000, li_10000, li_11077, li_255, li_65535, li_m1, li_m2, li_m1000000001, li_m1000000002, li_m1000000003, li_m1000000004, li_m1000000005, li_m1000000006, li_m1000000007] at c_2 c_4 g0 h <;> omega) | (simp only [fa_lt, fa_le, fa_eq, and_true, true_and, and_false, false_and, not_true_eq_false, not_false_eq_true, li_0, li_1, li_2, li_3, li_4, li_5, li_6, li_7, li_8, li_9, li_10, li_12, li_15, li_16, li_20, li_30, li_34, li_38, li_40, li_63, li_64, li_65, li_78, li_120, li_1000, li_4000, li_10000, li_11077, li_255, li_65535, li_m1, li_m2, li_m1000000001, li_m1000000002, li_m1000000003, li_m1000000004, li_m1000000005, li_m1000000006, li_m1000000007] at c_2 c_4 g0 h ⊢ <;> omega))), (fun g0 g1 h => (by first | rfl | (exfalso; simp only [fa_lt, fa_le, fa_eq, and_true, true_and, and_false, false_and, not_true_eq_false, not_false_eq_true, li_0, li_1, li_2, li_3, li_4, li_5, li_6, li_7, li_8, li_9, li_10, li_12, li_15, li_16, li_20, li_30, li_34, li_38, li_40, li_63, li_64, li_65, li_78, li_120, li_1000, li_4000, li_10000, li_11077, li_255, li_65535, li_m1, li_m2, li_m1000000001, li_m1000000002, li_m1000000003, li_m1000000004, li_m1000000005, li_m1000000006, li_m1000000007] at c_2 c_4 g0 g1 h <;> omega) | (simp only [fa_lt, fa_le, fa_eq, and_true, true_and, and_false, false_and, not_true_eq_false, not_false_eq_true, li_0, li_1, li_2, li_3, li_4, li_5, li_6, li_7, li_8, li_9, li_10, li_12, li_15, li_16, li_20, li_30, li_34, li_38, li_40, li_63, li_64, li_65, li_78, li_120, li_1000, li_4000, li_10000, li_11077, li_255, li_65535, li_m1, li_m2, li_m1000000001, li_m1000000002, li_m1000000003, li_m1000000004, li_m1000000005, li_m1000000006, li_m1000000007] at c_2 c_4 g0 g1 h ⊢ <;> omega))), (fun g0 g1 g2 h => (by first | rfl | (exfalso; simp only [fa_lt, fa_le, fa_eq, and_true, true_and, and_false, false_and, not_true_eq_false, not_false_eq_true, li_0, li_1, li_2, li_3, li_4, li_5, li_6, li_7, li_8, li_9, li_10, li_12, li_15, li_16, li_20, li_30, li_34, li_38, li_40, li_63, li_64, li_65, li_78, li_120, li_1000, li_4000, li_10000, li_11077, li_255, li_65535, li_m1, li_m2, li_m1000000001, li_m1000000002, li_m1000000003, li_m1000000004, li_m1000000005, li_m1000000006, li_m1000000007] at c_2 c_4 g0 g1 g2 h <;> omega) | (simp only [fa_lt, fa_le, fa_eq, and_true, true_and, and_false, false_and, not_true_eq_false, not_false_eq_true, li_0, li_1, li_2, li_3, li_4, li_5, li_6, li_7, li_8, li_9, li_10, li_12, li_15, li_16, li_20, li_30, li_34, li_38, li_40, li_63, li_64, li_65, li_78, li_120, li_1000, li_4000, li_10000, li_11077, li_255, li_65535, li_m1, li_m2, li_m1000000001, li_m1000000002, li_m1000000003, li_m1000000004, li_m1000000005, li_m1000000006, li_m1000000007] at c_2 c_4 g0 g1 g2 h ⊢ <;> omega))), (fun g0 g1 g2 g3 => rfl)⟩, trivial⟩, hS.F ht⟩) hS.2.2 dX9_copy_46
    · skip
      have hw := hw.2 c_4
      subst hw
      refine lv_if_ne (tgt := 21) hx hb dX9_copy_11 (by decide) (fun c => absurd (by decide) c) (fun _ => ?_)
      refine lv_aload_n hx hb dX9_copy_14 rfl (lv_at hl 0 rfl) ?_
      refine lv_ldc hx hb hown (hts _ (List.mem_of_getElem? (i := 15) rfl)) dX9_copy_15 ?_
      have hPc := hP.sub (ws' := [(h0, .inr (7, [v0, v1, v2, v3, v4, .ref m1, v6, v7, v8, v9, v10, v11, v12, v13, v14, v15, v16, v17, v18, v19, v20, v21, v22, v23, .ref m2, v25, v26, v27])), (m1, .inl (mc1, 8, .inl ff))]) [0, 1] rfl
      have hKc := hK.sub (tys' := [(mc1, .int)]) [0] rfl
      have hDc := hD.sub (ws' := [(h0, .inr (7, [v0, v1, v2, v3, v4, .ref m1, v6, v7, v8, v9, v10, v11, v12, v13, v14, v15, v16, v17, v18, v19, v20, v21, v22, v23, .ref m2, v25, v26, v27])), (m1, .inl (mc1, 8, .inl ff))]) [0, 1] (by decide) rfl
      have hFc := va_free (wc := [(h0, .inr (7, [v0, v1, v2, v3, v4, .ref m1, v6, v7, v8, v9, v10, v11, v12, v13, v14, v15, v16, v17, v18, v19, v20, v21, v22, v23, .ref m2, v25, v26, v27])), (m1, .inl (mc1, 8, .inl ff))]) hD hS hA [0, 1] rfl
      refine va_calli (va_runV (As := [.int (-1000000001)]) (rest := []) ⟨hx, hb, hml, hown, hts⟩ (m_find_beyond l dC dI ad h0 v0 v1 v2 v3 v4 m1 v6 v7 v8 v9 v10 v11 v12 v13 v14 v15 v16 v17 v18 v19 v20 v21 v22 v23 (.ref m2) v25 v26 v27 mc1 ff s.heap.size ) (cwV 1 hts g_y_copy_m_find_beyond_84 rfl rfl rfl (by decide +kernel) ⟨(Nat.le_of_ble_eq_true rfl), (Nat.le_of_ble_eq_true rfl)⟩) ⟨preM_blind, va_recv hKc hPc (ci := 7) (q0 := 0) rfl rfl, fun U hU hW => ⟨rfl, preM_at hU hW hPc hKc hDc hev⟩⟩ rfl rfl hl.1 rfl (lv_room (Nat.le_of_ble_eq_true rfl)) dX9_copy_17 ⟨(Nat.le_of_ble_eq_true rfl), (Nat.le_of_ble_eq_true rfl)⟩) hS (fun q _ h => hFc q h) hFc (fun r_6 u t H1 locs ht hvm hw hB hz1 hk1 hS => ?_)
      obtain ⟨hP, hD⟩ := va_join (wr := [(m2, .inl (mc2, 4, .inl (fun _ => 0)))]) (w1 := []) hP hD [0, 1] [2] rfl rfl (by decide) (by decide) hk1 hFc nil_P nil_D
      generalize H1 = H at hP hS ⊢
      have hP : va_P (dC, dI) vwCl [(m2, .inl (mc2, 4, .inl (fun _ => 0)))] H := hP
      have hD : va_D A [(m2, .inl (mc2, 4, .inl (fun _ => 0)))] := hD
      subst hw
      exact W.iret (v := (-1000000001)) hx hb hr (fun t ht hW => ⟨⟨(-1000000001), (), rfl, ⟨(fun h => rfl), (fun g0 h => rfl), (fun g0 g1 h => rfl), (fun g0 g1 g2 h => rfl), (fun g0 g1 g2 g3 => (by first | rfl | (exfalso; simp only [fa_lt, fa_le, fa_eq, and_true, true_and, and_false, false_and, not_true_eq_false, not_false_eq_true, li_0, li_1, li_2, li_3, li_4, li_5, li_6, li_7, li_8, li_9, li_10, li_12, li_15, li_16, li_20, li_30, li_34, li_38, li_40, li_63, li_64, li_65, li_78, li_120, li_1000, li_4000, li_10000, li_11077, li_255, li_65535, li_m1, li_m2, li_m1000000001, li_m1000000002, li_m1000000003, li_m1000000004, li_m1000000005, li_m1000000006, li_m1000000007] at c_2 c_4 g0 g1 g2 g3 <;> omega) | (simp only [fa_lt, fa_le, fa_eq, and_true, true_and, and_false, false_and, not_true_eq_false, not_false_eq_true, li_0, li_1, li_2, li_3, li_4, li_5, li_6, li_7, li_8, li_9, li_10, li_12, li_15, li_16, li_20, li_30, li_34, li_38, li_40, li_63, li_64, li_65, li_78, li_120, li_1000, li_4000, li_10000, li_11077, li_255, li_65535, li_m1, li_m2, li_m1000000001, li_m1000000002, li_m1000000003, li_m1000000004, li_m1000000005, li_m1000000006, li_m1000000007] at c_2 c_4 g0 g1 g2 g3 ⊢ <;> omega)))⟩, trivial⟩, hS.F ht⟩) hS.2.2 dX9_copy_20
  · skip
    have hw := hw.2 c_2
    subst hw
    refine lv_if_eq (tgt := 14) hx hb dX9_copy_4 (by decide) (fun _ => ?_) (fun c => absurd (by decide) c)
    refine lv_aload_n hx hb dX9_copy_14 rfl (lv_at hl 0 rfl) ?_
    refine lv_ldc hx hb hown (hts _ (List.mem_of_getElem? (i := 15) rfl)) dX9_copy_15 ?_
    have hPc := hP.sub (ws' := [(h0, .inr (7, [v0, v1, v2, v3, v4, .ref m1, v6, v7, v8, v9, v10, v11, v12, v13, v14, v15, v16, v17, v18, v19, v20, v21, v22, v23, .ref m2, v25, v26, v27])), (m1, .inl (mc1, 8, .inl ff))]) [0, 1] rfl
    have hKc := hK.sub (tys' := [(mc1, .int)]) [0] rfl
    have hDc := hD.sub (ws' := [(h0, .inr (7, [v0, v1, v2, v3, v4, .ref m1, v6, v7, v8, v9, v10, v11, v12, v13, v14, v15, v16, v17, v18, v19, v20, v21, v22, v23, .ref m2, v25, v26, v27])), (m1, .inl (mc1, 8, .inl ff))]) [0, 1] (by decide) rfl
    have hFc := va_free (wc := [(h0, .inr (7, [v0, v1, v2, v3, v4, .ref m1, v6, v7, v8, v9, v10, v11, v12, v13, v14, v15, v16, v17, v18, v19, v20, v21, v22, v23, .ref m2, v25, v26, v27])), (m1, .inl (mc1, 8, .inl ff))]) hD hS hA [0, 1] rfl
    refine va_calli (va_runV (As := [.int (-1000000001)]) (rest := []) ⟨hx, hb, hml, hown, hts⟩ (m_find_beyond l dC dI ad h0 v0 v1 v2 v3 v4 m1 v6 v7 v8 v9 v10 v11 v12 v13 v14 v15 v16 v17 v18 v19 v20 v21 v22 v23 (.ref m2) v25 v26 v27 mc1 ff s.heap.size ) (cwV 1 hts g_y_copy_m_find_beyond_84 rfl rfl rfl (by decide +kernel) ⟨(Nat.le_of_ble_eq_true rfl), (Nat.le_of_ble_eq_true rfl)⟩) ⟨preM_blind, va_recv hKc hPc (ci := 7) (q0 := 0) rfl rfl, fun U hU hW => ⟨rfl, preM_at hU hW hPc hKc hDc hev⟩⟩ rfl rfl hl.1 rfl (lv_room (Nat.le_of_ble_eq_true rfl)) dX9_copy_17 ⟨(Nat.le_of_ble_eq_true rfl), (Nat.le_of_ble_eq_true rfl)⟩) hS (fun q _ h => hFc q h) hFc (fun r_7 u t H1 locs ht hvm hw hB hz1 hk1 hS => ?_)
    obtain ⟨hP, hD⟩ := va_join (wr := [(m2, .inl (mc2, 4, .inl (fun _ => 0)))]) (w1 := []) hP hD [0, 1] [2] rfl rfl (by decide) (by decide) hk1 hFc nil_P nil_D
    generalize H1 = H at hP hS ⊢
    have hP : va_P (dC, dI) vwCl [(m2, .inl (mc2, 4, .inl (fun _ => 0)))] H := hP
    have hD : va_D A [(m2, .inl (mc2, 4, .inl (fun _ => 0)))] := hD
    subst hw
    exact W.iret (v := (-1000000001)) hx hb hr (fun t ht hW => ⟨⟨(-1000000001), (), rfl, ⟨(fun h => rfl), (fun g0 h => rfl), (fun g0 g1 h => rfl), (fun g0 g1 g2 h => rfl), (fun g0 g1 g2 g3 => (by first | rfl | (exfalso; simp only [fa_lt, fa_le, fa_eq, and_true, true_and, and_false, false_and, not_true_eq_false, not_false_eq_true, li_0, li_1, li_2, li_3, li_4, li_5, li_6, li_7, li_8, li_9, li_10, li_12, li_15, li_16, li_20, li_30, li_34, li_38, li_40, li_63, li_64, li_65, li_78, li_120, li_1000, li_4000, li_10000, li_11077, li_255, li_65535, li_m1, li_m2, li_m1000000001, li_m1000000002, li_m1000000003, li_m1000000004, li_m1000000005, li_m1000000006, li_m1000000007] at c_2 g0 g1 g2 g3 <;> omega) | (simp only [fa_lt, fa_le, fa_eq, and_true, true_and, and_false, false_and, not_true_eq_false, not_false_eq_true, li_0, li_1, li_2, li_3, li_4, li_5, li_6, li_7, li_8, li_9, li_10, li_12, li_15, li_16, li_20, li_30, li_34, li_38, li_40, li_63, li_64, li_65, li_78, li_120, li_1000, li_4000, li_10000, li_11077, li_255, li_65535, li_m1, li_m2, li_m1000000001, li_m1000000002, li_m1000000003, li_m1000000004, li_m1000000005, li_m1000000006, li_m1000000007] at c_2 g0 g1 g2 g3 ⊢ <;> omega)))⟩, trivial⟩, hS.F ht⟩) hS.2.2 dX9_copy_20

def w_y_image : List Cond := .code yX9_image cX9_image 1 (some .int) :: (([.fieldLink RX9 9 "LampShapesModel" "now" "[I", .fieldLink RX9 13 "LampShapesModel" "kept" "[I", .fieldLink RX9 16 "LampShapesModel" "pictures" "[J", .fieldLink RX9 20 "LampShapesModel" "keptPictures" "[J", .methodLink RX9 298 yX9_copyAll, .static yX9_copyAll, .initialized RX9, .code yX9_copyAll cX9_copyAll 5 none, .fieldLink RX9 302 "LampShapesModel" "isKept" "Z"] : List Cond) ++ wsX90)
set_option maxRecDepth 20000 in
theorem g_y_image_m_copyAll_298 : GoodIn w_y_image (va_wsS RX9 298 yX9_copyAll w_m_copyAll) := goodIn_r _ [5, 6, 7, 8] rfl (by decide +kernel)
set_option maxHeartbeats 4000000 in
set_option maxRecDepth 100000 in
theorem y_image (l : Launch) (dC : Nat → ClassId) (dI : Nat → Nat → Nat) (ad : Nat → Nat) (h0 : Nat) (q0 : Nat) (q1 : Nat) (q2 : Nat) (q3 : Nat) (v4 : Value) (v5 : Value) (v6 : Value) (v7 : Value) (v8 : Value) (v9 : Value) (v10 : Value) (v11 : Value) (v12 : Value) (v13 : Value) (v14 : Value) (v15 : Value) (v16 : Value) (v17 : Value) (v18 : Value) (v19 : Value) (v20 : Value) (v21 : Value) (v22 : Value) (v23 : Value) (v24 : Value) (v25 : Value) (v26 : Value) (v27 : Value) (c0 : ClassId) (f0 : Nat → Int32) (c1 : ClassId) (f1 : Nat → Int32) (c2 : ClassId) (f2 : Nat → Int64) (c3 : ClassId) (f3 : Nat → Int64) (sz : Nat) : Met l yX9_image w_y_image ({ frames := 1, cells := 0, slots := 0, locals := 24 } : Room) (va_Pc [.ref h0] (preM dC dI ad [(c0, .int), (c1, .int), (c2, .long), (c3, .long)] [(h0, .inr (7, [.ref q0, .ref q1, .ref q2, .ref q3, v4, v5, v6, v7, v8, v9, v10, v11, v12, v13, v14, v15, v16, v17, v18, v19, v20, v21, v22, v23, v24, v25, v26, v27])), (q0, .inl (c0, 38, .inl f0)), (q1, .inl (c1, 38, .inl f1)), (q2, .inl (c2, 7, .inr (.inl f2))), (q3, .inl (c3, 7, .inr (.inl f3)))] sz)) (va_Qi (fun (r : Int32) (_ : Unit) => (r = 1)) (fun _ _ => True) (va_A [(h0, .inr (7, [.ref q0, .ref q1, .ref q2, .ref q3, v4, v5, v6, v7, v8, v9, v10, v11, v12, v13, v14, v15, v16, v17, v18, v19, v20, v21, v22, v23, v24, v25, v26, v27])), (q0, .inl (c0, 38, .inl f0)), (q1, .inl (c1, 38, .inl f1)), (q2, .inl (c2, 7, .inr (.inl f2))), (q3, .inl (c3, 7, .inr (.inl f3)))] sz)) 0 0 (va_A [(h0, .inr (7, [.ref q0, .ref q1, .ref q2, .ref q3, v4, v5, v6, v7, v8, v9, v10, v11, v12, v13, v14, v15, v16, v17, v18, v19, v20, v21, v22, v23, v24, v25, v26, v27])), (q0, .inl (c0, 38, .inl f0)), (q1, .inl (c1, 38, .inl f1)), (q2, .inl (c2, 7, .inr (.inl f2))), (q3, .inl (c3, 7, .inr (.inl f3)))] sz) := by
  refine Met.ofW (cc := cX9_image) (maxL := 1) (ret := (some .int)) (by decide) rfl ?_
  intro p e s m args below meth c s₁ B hml hv
  obtain ⟨rfl, hsz, hP, hK, hD0, hev⟩ := hv
  have hx := B.exec
  have hb := B.bytes
  have hr := B.returns
  have hts := atoms_spec (ws := w_y_image) B.pre
  have hown : s.vm.findClass RX9 = some m.cls := findClass_of_methodNamed B.named
  have hlocks := B.notSynchronized
  have inX9 : ∀ w ∈ wsX90, w ∈ w_y_image := fun w h => List.mem_cons_of_mem _ (List.mem_append_right _ h)
  subst hsz
  have hD := hD0.self (sz := s.heap.size)
  generalize hAe : va_A [(h0, .inr (7, [.ref q0, .ref q1, .ref q2, .ref q3, v4, v5, v6, v7, v8, v9, v10, v11, v12, v13, v14, v15, v16, v17, v18, v19, v20, v21, v22, v23, v24, v25, v26, v27])), (q0, .inl (c0, 38, .inl f0)), (q1, .inl (c1, 38, .inl f1)), (q2, .inl (c2, 7, .inr (.inl f2))), (q3, .inl (c3, 7, .inr (.inl f3)))] s.heap.size = A at hD ⊢
  have hA : ∀ q : Nat, s.heap.size ≤ q → A q := fun q h => by rw [← hAe]; exact Or.inr h
  have hS : va_S A s.heap s.heap [] := va_S.rf
  have hP : va_P (dC, dI) vwCl [(h0, .inr (7, [.ref q0, .ref q1, .ref q2, .ref q3, v4, v5, v6, v7, v8, v9, v10, v11, v12, v13, v14, v15, v16, v17, v18, v19, v20, v21, v22, v23, v24, v25, v26, v27])), (q0, .inl (c0, 38, .inl f0)), (q1, .inl (c1, 38, .inl f1)), (q2, .inl (c2, 7, .inr (.inl f2))), (q3, .inl (c3, 7, .inr (.inl f3)))] s.heap := hP
  have hl := lv_entry ([.ref h0]) (n := 1) (Nat.le_of_ble_eq_true rfl)
  rw [lg_entry_eq]
  generalize (lg_sl ([.ref h0]) ++ List.replicate (1 - (lg_sl ([.ref h0])).length) Slot.unset).toArray = ls at hl ⊢
  have hl : lv_has ls 1 [(0, .ref h0)] := hl
  refine lv_aload_n hx hb dX9_image_0 rfl (lv_at hl 0 rfl) ?_
  refine va_get (D := (dC, dI)) (ci := 7) (v := .ref q0) (C := RX9) (T := TX9) (N := 28) hx hb hts inX9 hown hK hP 0 rfl rfl 0 (by decide) (hts _ (List.mem_of_getElem? (i := 1) rfl)) (fun _ h9 => h9) rfl dX9_image_1 ?_
  refine lv_aload_n hx hb dX9_image_4 rfl (lv_at hl 0 rfl) ?_
  refine va_get (D := (dC, dI)) (ci := 7) (v := .ref q1) (C := RX9) (T := TX9) (N := 28) hx hb hts inX9 hown hK hP 0 rfl rfl 1 (by decide) (hts _ (List.mem_of_getElem? (i := 2) rfl)) (fun _ h9 => h9) rfl dX9_image_5 ?_
  refine lv_aload_n hx hb dX9_image_8 rfl (lv_at hl 0 rfl) ?_
  refine va_get (D := (dC, dI)) (ci := 7) (v := .ref q2) (C := RX9) (T := TX9) (N := 28) hx hb hts inX9 hown hK hP 0 rfl rfl 2 (by decide) (hts _ (List.mem_of_getElem? (i := 3) rfl)) (fun _ h9 => h9) rfl dX9_image_9 ?_
  refine lv_aload_n hx hb dX9_image_12 rfl (lv_at hl 0 rfl) ?_
  refine va_get (D := (dC, dI)) (ci := 7) (v := .ref q3) (C := RX9) (T := TX9) (N := 28) hx hb hts inX9 hown hK hP 0 rfl rfl 3 (by decide) (hts _ (List.mem_of_getElem? (i := 4) rfl)) (fun _ h9 => h9) rfl dX9_image_13 ?_
  have hPc := hP.sub (ws' := [(q0, .inl (c0, 38, .inl f0)), (q1, .inl (c1, 38, .inl f1)), (q2, .inl (c2, 7, .inr (.inl f2))), (q3, .inl (c3, 7, .inr (.inl f3)))]) [1, 2, 3, 4] rfl
  have hKc := hK.sub (tys' := [(c0, .int), (c1, .int), (c2, .long), (c3, .long)]) [0, 1, 2, 3] rfl
  have hDc := hD.sub (ws' := [(q0, .inl (c0, 38, .inl f0)), (q1, .inl (c1, 38, .inl f1)), (q2, .inl (c2, 7, .inr (.inl f2))), (q3, .inl (c3, 7, .inr (.inl f3)))]) [1, 2, 3, 4] (by decide) rfl
  have hFc := va_free (wc := [(q0, .inl (c0, 38, .inl f0)), (q1, .inl (c1, 38, .inl f1)), (q2, .inl (c2, 7, .inr (.inl f2))), (q3, .inl (c3, 7, .inr (.inl f3)))]) hD hS hA [1, 2, 3, 4] rfl
  refine va_callv (va_runS (As := [.ref q0, .ref q1, .ref q2, .ref q3]) (rest := []) ⟨hx, hb, hml, hown, hts⟩ (m_copyAll l dC dI ad q0 q1 q2 q3 c0 f0 c1 f1 c2 f2 c3 f3 s.heap.size ) (va_cwS 4 hts g_y_image_m_copyAll_298 rfl rfl rfl (by decide +kernel) ⟨(Nat.le_of_ble_eq_true rfl), (Nat.le_of_ble_eq_true rfl)⟩) ⟨preM_blind, fun U hU hW => ⟨rfl, preM_at hU hW hPc hKc hDc hev⟩⟩ rfl rfl hl.1 rfl (lv_room (Nat.le_of_ble_eq_true rfl)) dX9_image_16 ⟨(Nat.le_of_ble_eq_true rfl), (Nat.le_of_ble_eq_true rfl)⟩) hS (fun q _ h => hFc q h) hFc (fun u t H1 locs ht hvm hw hB hz1 hk1 hS => ?_)
  obtain ⟨hP, hD⟩ := va_join (wr := [(h0, .inr (7, [.ref q0, .ref q1, .ref q2, .ref q3, v4, v5, v6, v7, v8, v9, v10, v11, v12, v13, v14, v15, v16, v17, v18, v19, v20, v21, v22, v23, v24, v25, v26, v27]))]) (w1 := []) hP hD [1, 2, 3, 4] [0] rfl rfl (by decide) (by decide) hk1 hFc nil_P nil_D
  generalize H1 = H at hP hS ⊢
  have hP : va_P (dC, dI) vwCl [(h0, .inr (7, [.ref q0, .ref q1, .ref q2, .ref q3, v4, v5, v6, v7, v8, v9, v10, v11, v12, v13, v14, v15, v16, v17, v18, v19, v20, v21, v22, v23, v24, v25, v26, v27]))] H := hP
  have hD : va_D A [(h0, .inr (7, [.ref q0, .ref q1, .ref q2, .ref q3, v4, v5, v6, v7, v8, v9, v10, v11, v12, v13, v14, v15, v16, v17, v18, v19, v20, v21, v22, v23, v24, v25, v26, v27]))] := hD
  refine lv_aload_n hx hb dX9_image_19 rfl (lv_at hl 0 rfl) ?_
  refine lv_iconst (v := 1) hx hb dX9_image_20 (by decide) ?_
  refine va_put (D := (dC, dI)) (ci := 7) (v := .int 1) (ty := .boolean) (C := RX9) (T := TX9) (N := 28) hx hb hts inX9 tyX9 tyX9_ok nmX9 hown hK hP hD hS 0 rfl rfl 4 (by decide) (hts _ (List.mem_of_getElem? (i := 9) rfl)) (fun _ h9 => h9) rfl (by decide +kernel) (by decide) rfl (Nat.le_of_ble_eq_true rfl) dX9_image_21 (fun H locs hP hD hS => ?_)
  have hP : va_P (dC, dI) vwCl [(h0, .inr (7, [.ref q0, .ref q1, .ref q2, .ref q3, .int 1, v5, v6, v7, v8, v9, v10, v11, v12, v13, v14, v15, v16, v17, v18, v19, v20, v21, v22, v23, v24, v25, v26, v27]))] H := hP
  have hD : va_D A [(h0, .inr (7, [.ref q0, .ref q1, .ref q2, .ref q3, .int 1, v5, v6, v7, v8, v9, v10, v11, v12, v13, v14, v15, v16, v17, v18, v19, v20, v21, v22, v23, v24, v25, v26, v27]))] := hD
  refine lv_iconst (v := 1) hx hb dX9_image_24 (by decide) ?_
  exact W.iret (v := 1) hx hb hr (fun t ht hW => ⟨⟨1, (), rfl, rfl, trivial⟩, hS.F ht⟩) hS.2.2 dX9_image_25

def w_y_undo : List Cond := .code yX9_undo cX9_undo 1 (some .int) :: (([.fieldLink RX9 302 "LampShapesModel" "isKept" "Z", .constant RX9 150 (-1000000004), .methodLink RX9 84 yX9_finding, .instanceMethod yX9_finding, .selects RX9 yX9_finding yX9_finding, .initialized RX9, .code yX9_finding cX9_finding 2 (some .int), .fieldLink RX9 23 "LampShapesModel" "found" "[I", .constant RX9 74 (-1000000001)] : List Cond) ++ wsX90)
set_option maxRecDepth 20000 in
theorem g_y_undo_m_find_none_84 : GoodIn w_y_undo (wsV RX9 84 RX9 yX9_finding w_m_find_none) := goodIn_r _ [3, 4, 5, 6, 7, 8, 9, 10, 11, 12, 13, 14, 15, 16, 17, 18, 19, 20, 21, 22, 23, 24, 25, 26, 27, 28, 29, 30, 31, 32, 33, 34, 35, 36, 37] rfl (by decide +kernel)
set_option maxHeartbeats 4000000 in
set_option maxRecDepth 100000 in
theorem y_undo (l : Launch) (dC : Nat → ClassId) (dI : Nat → Nat → Nat) (ad : Nat → Nat) (h0 : Nat) (v0 : Value) (v1 : Value) (v2 : Value) (v3 : Value) (m1 : Nat) (v6 : Value) (v7 : Value) (v8 : Value) (v9 : Value) (v10 : Value) (v11 : Value) (v12 : Value) (v13 : Value) (v14 : Value) (v15 : Value) (v16 : Value) (v17 : Value) (v18 : Value) (v19 : Value) (v20 : Value) (v21 : Value) (v22 : Value) (v23 : Value) (v24 : Value) (v25 : Value) (v26 : Value) (v27 : Value) (mc1 : ClassId) (ff : Nat → Int32) (sz : Nat) : Met l yX9_undo w_y_undo ({ frames := 1, cells := 0, slots := 0, locals := 21 } : Room) (va_Pc [.ref h0] (preM dC dI ad [(mc1, .int)] [(h0, .inr (7, [v0, v1, v2, v3, .int 0, .ref m1, v6, v7, v8, v9, v10, v11, v12, v13, v14, v15, v16, v17, v18, v19, v20, v21, v22, v23, v24, v25, v26, v27])), (m1, .inl (mc1, 8, .inl ff))] sz)) (va_Qi (fun (r : Int32) (_ : Unit) => (r = (-1000000004))) (fun _ _ => True) (va_A [(h0, .inr (7, [v0, v1, v2, v3, .int 0, .ref m1, v6, v7, v8, v9, v10, v11, v12, v13, v14, v15, v16, v17, v18, v19, v20, v21, v22, v23, v24, v25, v26, v27])), (m1, .inl (mc1, 8, .inl ff))] sz)) 0 0 (va_A [(h0, .inr (7, [v0, v1, v2, v3, .int 0, .ref m1, v6, v7, v8, v9, v10, v11, v12, v13, v14, v15, v16, v17, v18, v19, v20, v21, v22, v23, v24, v25, v26, v27])), (m1, .inl (mc1, 8, .inl ff))] sz) := by
  refine Met.ofW (cc := cX9_undo) (maxL := 1) (ret := (some .int)) (by decide) rfl ?_
  intro p e s m args below meth c s₁ B hml hv
  obtain ⟨rfl, hsz, hP, hK, hD0, hev⟩ := hv
  have hx := B.exec
  have hb := B.bytes
  have hr := B.returns
  have hts := atoms_spec (ws := w_y_undo) B.pre
  have hown : s.vm.findClass RX9 = some m.cls := findClass_of_methodNamed B.named
  have hlocks := B.notSynchronized
  have inX9 : ∀ w ∈ wsX90, w ∈ w_y_undo := fun w h => List.mem_cons_of_mem _ (List.mem_append_right _ h)
  subst hsz
  have hD := hD0.self (sz := s.heap.size)
  generalize hAe : va_A [(h0, .inr (7, [v0, v1, v2, v3, .int 0, .ref m1, v6, v7, v8, v9, v10, v11, v12, v13, v14, v15, v16, v17, v18, v19, v20, v21, v22, v23, v24, v25, v26, v27])), (m1, .inl (mc1, 8, .inl ff))] s.heap.size = A at hD ⊢
  have hA : ∀ q : Nat, s.heap.size ≤ q → A q := fun q h => by rw [← hAe]; exact Or.inr h
  have hS : va_S A s.heap s.heap [] := va_S.rf
  have hP : va_P (dC, dI) vwCl [(h0, .inr (7, [v0, v1, v2, v3, .int 0, .ref m1, v6, v7, v8, v9, v10, v11, v12, v13, v14, v15, v16, v17, v18, v19, v20, v21, v22, v23, v24, v25, v26, v27])), (m1, .inl (mc1, 8, .inl ff))] s.heap := hP
  have hl := lv_entry ([.ref h0]) (n := 1) (Nat.le_of_ble_eq_true rfl)
  rw [lg_entry_eq]
  generalize (lg_sl ([.ref h0]) ++ List.replicate (1 - (lg_sl ([.ref h0])).length) Slot.unset).toArray = ls at hl ⊢
  have hl : lv_has ls 1 [(0, .ref h0)] := hl
  refine lv_aload_n hx hb dX9_undo_0 rfl (lv_at hl 0 rfl) ?_
  refine va_get (D := (dC, dI)) (ci := 7) (v := .int 0) (C := RX9) (T := TX9) (N := 28) hx hb hts inX9 hown hK hP 0 rfl rfl 4 (by decide) (hts _ (List.mem_of_getElem? (i := 1) rfl)) (fun _ h9 => h9) rfl dX9_undo_1 ?_
  refine lv_if_ne (tgt := 14) hx hb dX9_undo_4 (by decide) (fun c => absurd (by decide) c) (fun _ => ?_)
  refine lv_aload_n hx hb dX9_undo_7 rfl (lv_at hl 0 rfl) ?_
  refine lv_ldc hx hb hown (hts _ (List.mem_of_getElem? (i := 2) rfl)) dX9_undo_8 ?_
  have hPc := hP.sub (ws' := [(h0, .inr (7, [v0, v1, v2, v3, .int 0, .ref m1, v6, v7, v8, v9, v10, v11, v12, v13, v14, v15, v16, v17, v18, v19, v20, v21, v22, v23, v24, v25, v26, v27])), (m1, .inl (mc1, 8, .inl ff))]) [0, 1] rfl
  have hKc := hK.sub (tys' := [(mc1, .int)]) [0] rfl
  have hDc := hD.sub (ws' := [(h0, .inr (7, [v0, v1, v2, v3, .int 0, .ref m1, v6, v7, v8, v9, v10, v11, v12, v13, v14, v15, v16, v17, v18, v19, v20, v21, v22, v23, v24, v25, v26, v27])), (m1, .inl (mc1, 8, .inl ff))]) [0, 1] (by decide) rfl
  have hFc := va_free (wc := [(h0, .inr (7, [v0, v1, v2, v3, .int 0, .ref m1, v6, v7, v8, v9, v10, v11, v12, v13, v14, v15, v16, v17, v18, v19, v20, v21, v22, v23, v24, v25, v26, v27])), (m1, .inl (mc1, 8, .inl ff))]) hD hS hA [0, 1] rfl
  refine va_calli (va_runV (As := [.int (-1000000004)]) (rest := []) ⟨hx, hb, hml, hown, hts⟩ (m_find_none l dC dI ad h0 v0 v1 v2 v3 (.int 0) m1 v6 v7 v8 v9 v10 v11 v12 v13 v14 v15 v16 v17 v18 v19 v20 v21 v22 v23 v24 v25 v26 v27 mc1 ff s.heap.size ) (cwV 1 hts g_y_undo_m_find_none_84 rfl rfl rfl (by decide +kernel) ⟨(Nat.le_of_ble_eq_true rfl), (Nat.le_of_ble_eq_true rfl)⟩) ⟨preM_blind, va_recv hKc hPc (ci := 7) (q0 := 0) rfl rfl, fun U hU hW => ⟨rfl, preM_at hU hW hPc hKc hDc hev⟩⟩ rfl rfl hl.1 rfl (lv_room (Nat.le_of_ble_eq_true rfl)) dX9_undo_10 ⟨(Nat.le_of_ble_eq_true rfl), (Nat.le_of_ble_eq_true rfl)⟩) hS (fun q _ h => hFc q h) hFc (fun r_1 u t H1 locs ht hvm hw hB hz1 hk1 hS => ?_)
  obtain ⟨hP, hD⟩ := va_join (wr := []) (w1 := []) hP hD [0, 1] [] rfl rfl (by decide) (by decide) hk1 hFc nil_P nil_D
  generalize H1 = H at hP hS ⊢
  have hP : va_P (dC, dI) vwCl [] H := hP
  have hD : va_D A [] := hD
  subst hw
  exact W.iret (v := (-1000000004)) hx hb hr (fun t ht hW => ⟨⟨(-1000000004), (), rfl, rfl, trivial⟩, hS.F ht⟩) hS.2.2 dX9_undo_13

def w_y_forget : List Cond := .code yX9_forget cX9_forget 2 (some .int) :: (([.fieldLink RX9 302 "LampShapesModel" "isKept" "Z"] : List Cond) ++ wsX90)
set_option maxHeartbeats 4000000 in
set_option maxRecDepth 100000 in
theorem y_forget (l : Launch) (dC : Nat → ClassId) (dI : Nat → Nat → Nat) (ad : Nat → Nat) (h0 : Nat) (v0 : Value) (v1 : Value) (v2 : Value) (v3 : Value) (v5 : Value) (v6 : Value) (v7 : Value) (v8 : Value) (v9 : Value) (v10 : Value) (v11 : Value) (v12 : Value) (v13 : Value) (v14 : Value) (v15 : Value) (v16 : Value) (v17 : Value) (v18 : Value) (v19 : Value) (v20 : Value) (v21 : Value) (v22 : Value) (v23 : Value) (v24 : Value) (v25 : Value) (v26 : Value) (v27 : Value) (sz : Nat) : Met l yX9_forget w_y_forget ({ frames := 0, cells := 0, slots := 0, locals := 0 } : Room) (va_Pc [.ref h0] (preM dC dI ad [] [(h0, .inr (7, [v0, v1, v2, v3, .int 0, v5, v6, v7, v8, v9, v10, v11, v12, v13, v14, v15, v16, v17, v18, v19, v20, v21, v22, v23, v24, v25, v26, v27]))] sz)) (va_Qi (fun (r : Int32) (_ : Unit) => (r = 0)) (fun _ _ => True) (va_A [(h0, .inr (7, [v0, v1, v2, v3, .int 0, v5, v6, v7, v8, v9, v10, v11, v12, v13, v14, v15, v16, v17, v18, v19, v20, v21, v22, v23, v24, v25, v26, v27]))] sz)) 0 0 (va_A [(h0, .inr (7, [v0, v1, v2, v3, .int 0, v5, v6, v7, v8, v9, v10, v11, v12, v13, v14, v15, v16, v17, v18, v19, v20, v21, v22, v23, v24, v25, v26, v27]))] sz) := by
  refine Met.ofW (cc := cX9_forget) (maxL := 2) (ret := (some .int)) (by decide) rfl ?_
  intro p e s m args below meth c s₁ B hml hv
  obtain ⟨rfl, hsz, hP, hK, hD0, hev⟩ := hv
  have hx := B.exec
  have hb := B.bytes
  have hr := B.returns
  have hts := atoms_spec (ws := w_y_forget) B.pre
  have hown : s.vm.findClass RX9 = some m.cls := findClass_of_methodNamed B.named
  have hlocks := B.notSynchronized
  have inX9 : ∀ w ∈ wsX90, w ∈ w_y_forget := fun w h => List.mem_cons_of_mem _ (List.mem_append_right _ h)
  subst hsz
  have hD := hD0.self (sz := s.heap.size)
  generalize hAe : va_A [(h0, .inr (7, [v0, v1, v2, v3, .int 0, v5, v6, v7, v8, v9, v10, v11, v12, v13, v14, v15, v16, v17, v18, v19, v20, v21, v22, v23, v24, v25, v26, v27]))] s.heap.size = A at hD ⊢
  have hA : ∀ q : Nat, s.heap.size ≤ q → A q := fun q h => by rw [← hAe]; exact Or.inr h
  have hS : va_S A s.heap s.heap [] := va_S.rf
  have hP : va_P (dC, dI) vwCl [(h0, .inr (7, [v0, v1, v2, v3, .int 0, v5, v6, v7, v8, v9, v10, v11, v12, v13, v14, v15, v16, v17, v18, v19, v20, v21, v22, v23, v24, v25, v26, v27]))] s.heap := hP
  have hl := lv_entry ([.ref h0]) (n := 2) (Nat.le_of_ble_eq_true rfl)
  rw [lg_entry_eq]
  generalize (lg_sl ([.ref h0]) ++ List.replicate (2 - (lg_sl ([.ref h0])).length) Slot.unset).toArray = ls at hl ⊢
  have hl : lv_has ls 2 [(0, .ref h0)] := hl
  refine lv_aload_n hx hb dX9_forget_0 rfl (lv_at hl 0 rfl) ?_
  refine va_get (D := (dC, dI)) (ci := 7) (v := .int 0) (C := RX9) (T := TX9) (N := 28) hx hb hts inX9 hown hK hP 0 rfl rfl 4 (by decide) (hts _ (List.mem_of_getElem? (i := 1) rfl)) (fun _ h9 => h9) rfl dX9_forget_1 ?_
  refine lv_if_eq (tgt := 11) hx hb dX9_forget_4 (by decide) (fun _ => ?_) (fun c => absurd (by decide) c)
  refine lv_iconst (v := 0) hx hb dX9_forget_11 (by decide) ?_
  refine lv_istore_n (lv' := [(1, .int 0), (0, .ref h0)]) hx hb dX9_forget_12 rfl hl (by decide) rfl (fun ls hl => ?_)
  refine lv_aload_n hx hb dX9_forget_13 rfl (lv_at hl 1 rfl) ?_
  refine lv_iconst (v := 0) hx hb dX9_forget_14 (by decide) ?_
  refine va_put (D := (dC, dI)) (ci := 7) (v := .int 0) (ty := .boolean) (C := RX9) (T := TX9) (N := 28) hx hb hts inX9 tyX9 tyX9_ok nmX9 hown hK hP hD hS 0 rfl rfl 4 (by decide) (hts _ (List.mem_of_getElem? (i := 1) rfl)) (fun _ h9 => h9) rfl (by decide +kernel) (by decide) rfl (Nat.le_of_ble_eq_true rfl) dX9_forget_15 (fun H locs hP hD hS => ?_)
  have hP : va_P (dC, dI) vwCl [(h0, .inr (7, [v0, v1, v2, v3, .int 0, v5, v6, v7, v8, v9, v10, v11, v12, v13, v14, v15, v16, v17, v18, v19, v20, v21, v22, v23, v24, v25, v26, v27]))] H := hP
  have hD : va_D A [(h0, .inr (7, [v0, v1, v2, v3, .int 0, v5, v6, v7, v8, v9, v10, v11, v12, v13, v14, v15, v16, v17, v18, v19, v20, v21, v22, v23, v24, v25, v26, v27]))] := hD
  refine lv_iload_n hx hb dX9_forget_18 rfl (lv_at hl 0 rfl) ?_
  exact W.iret (v := 0) hx hb hr (fun t ht hW => ⟨⟨0, (), rfl, rfl, trivial⟩, hS.F ht⟩) hS.2.2 dX9_forget_19

def w_y_count : List Cond := .code yX9_count cX9_count 4 (some .int) :: (([.constant RX9 74 (-1000000001), .methodLink RX9 84 yX9_finding, .instanceMethod yX9_finding, .selects RX9 yX9_finding yX9_finding, .initialized RX9, .code yX9_finding cX9_finding 2 (some .int), .fieldLink RX9 23 "LampShapesModel" "found" "[I", .fieldLink RX9 9 "LampShapesModel" "now" "[I", .methodLink RX9 146 yX9_dark, .instanceMethod yX9_dark, .selects RX9 yX9_dark yX9_dark, .code yX9_dark cX9_dark 1 (some .long), .methodLink RX9 141 yX9_darkBut, .instanceMethod yX9_darkBut, .selects RX9 yX9_darkBut yX9_darkBut, .code yX9_darkBut cX9_darkBut 5 (some .long), .methodLink RX9 137 yX9_shadowIn, .instanceMethod yX9_shadowIn, .selects RX9 yX9_shadowIn yX9_shadowIn, .code yX9_shadowIn cX9_shadowIn 3 (some .long), .methodLink RX9 158 yX9_bits, .static yX9_bits, .code yX9_bits cX9_bits 5 (some .int), .fieldLink RX9 188 "LampShapesModel" "taped" "I"] : List Cond) ++ wsX90)
set_option maxRecDepth 20000 in
theorem g_y_count_m_find_beyond_84 : GoodIn w_y_count (wsV RX9 84 RX9 yX9_finding w_m_find_beyond) := goodIn_r _ [2, 3, 4, 5, 6, 7, 1, 25, 26, 27, 28, 29, 30, 31, 32, 33, 34, 35, 36, 37, 38, 39, 40, 41, 42, 43, 44, 45, 46, 47, 48, 49, 50, 51, 52] rfl (by decide +kernel)
set_option maxRecDepth 20000 in
theorem g_y_count_y_dark_146 : GoodIn w_y_count (wsV RX9 146 RX9 yX9_dark w_y_dark) := goodIn_r _ [9, 10, 11, 5, 12, 13, 14, 15, 5, 16, 17, 18, 19, 20, 8, 25, 26, 27, 28, 29, 30, 31, 32, 33, 34, 35, 36, 37, 38, 39, 40, 41, 42, 43, 44, 45, 46, 47, 48, 49, 50, 51, 52] rfl (by decide +kernel)
set_option maxRecDepth 20000 in
theorem g_y_count_m_bits_158 : GoodIn w_y_count (va_wsS RX9 158 yX9_bits w_m_bits) := goodIn_r _ [21, 22, 5, 23] rfl (by decide +kernel)
set_option maxHeartbeats 4000000 in
set_option maxRecDepth 100000 in
theorem y_count (l : Launch) (dC : Nat → ClassId) (dI : Nat → Nat → Nat) (ad : Nat → Nat) (h0 : Nat) (a : Int32) (m0 : Nat) (v1 : Value) (v2 : Value) (v3 : Value) (v4 : Value) (m1 : Nat) (v6 : Value) (v7 : Value) (v8 : Value) (v9 : Value) (v10 : Value) (v12 : Value) (v13 : Value) (v14 : Value) (v15 : Value) (v16 : Value) (v17 : Value) (v18 : Value) (v19 : Value) (v20 : Value) (v21 : Value) (v22 : Value) (v23 : Value) (v24 : Value) (v25 : Value) (v26 : Value) (v27 : Value) (mc0 : ClassId) (nf : Nat → Int32) (mc1 : ClassId) (ff : Nat → Int32) (sz : Nat) (hnf : ∀ j, j < 38 → nf j = fr_n j) : Met l yX9_count w_y_count ({ frames := 3, cells := 0, slots := 0, locals := 66 } : Room) (va_Pc [.ref h0, .int a] (preM dC dI ad [(mc0, .int), (mc1, .int)] [(h0, .inr (7, [.ref m0, v1, v2, v3, v4, .ref m1, v6, v7, v8, v9, v10, .int 0, v12, v13, v14, v15, v16, v17, v18, v19, v20, v21, v22, v23, v24, v25, v26, v27])), (m0, .inl (mc0, 38, .inl nf)), (m1, .inl (mc1, 8, .inl ff))] sz)) (va_Qi (fun (r : Int32) (_ : Unit) => ((0 ≤ a ∧ a ≤ 5) → r = 0) ∧ (¬ (0 ≤ a ∧ a ≤ 5) → (a = 6) → r = 63) ∧ (¬ (0 ≤ a ∧ a ≤ 5) → ¬ (a = 6) → r = (-1000000001))) (fun _ _ => True) (va_A [(h0, .inr (7, [.ref m0, v1, v2, v3, v4, .ref m1, v6, v7, v8, v9, v10, .int 0, v12, v13, v14, v15, v16, v17, v18, v19, v20, v21, v22, v23, v24, v25, v26, v27])), (m0, .inl (mc0, 38, .inl nf)), (m1, .inl (mc1, 8, .inl ff))] sz)) 0 0 (va_A [(h0, .inr (7, [.ref m0, v1, v2, v3, v4, .ref m1, v6, v7, v8, v9, v10, .int 0, v12, v13, v14, v15, v16, v17, v18, v19, v20, v21, v22, v23, v24, v25, v26, v27])), (m0, .inl (mc0, 38, .inl nf)), (m1, .inl (mc1, 8, .inl ff))] sz) := by
  rcases pp_c_0_6 a with hlt0 | hgt0 | rfl | rfl | rfl | rfl | rfl | rfl | rfl
  · skip
    refine Met.ofW (cc := cX9_count) (maxL := 4) (ret := (some .int)) (by decide) rfl ?_
    intro p e s m args below meth c s₁ B hml hv
    obtain ⟨rfl, hsz, hP, hK, hD0, hev⟩ := hv
    have hx := B.exec
    have hb := B.bytes
    have hr := B.returns
    have hts := atoms_spec (ws := w_y_count) B.pre
    have hown : s.vm.findClass RX9 = some m.cls := findClass_of_methodNamed B.named
    have hlocks := B.notSynchronized
    have inX9 : ∀ w ∈ wsX90, w ∈ w_y_count := fun w h => List.mem_cons_of_mem _ (List.mem_append_right _ h)
    subst hsz
    have hD := hD0.self (sz := s.heap.size)
    generalize hAe : va_A [(h0, .inr (7, [.ref m0, v1, v2, v3, v4, .ref m1, v6, v7, v8, v9, v10, .int 0, v12, v13, v14, v15, v16, v17, v18, v19, v20, v21, v22, v23, v24, v25, v26, v27])), (m0, .inl (mc0, 38, .inl nf)), (m1, .inl (mc1, 8, .inl ff))] s.heap.size = A at hD ⊢
    have hA : ∀ q : Nat, s.heap.size ≤ q → A q := fun q h => by rw [← hAe]; exact Or.inr h
    have hS : va_S A s.heap s.heap [] := va_S.rf
    have hP : va_P (dC, dI) vwCl [(h0, .inr (7, [.ref m0, v1, v2, v3, v4, .ref m1, v6, v7, v8, v9, v10, .int 0, v12, v13, v14, v15, v16, v17, v18, v19, v20, v21, v22, v23, v24, v25, v26, v27])), (m0, .inl (mc0, 38, .inl nf)), (m1, .inl (mc1, 8, .inl ff))] s.heap := hP
    have hl := lv_entry ([.ref h0, .int a]) (n := 4) (Nat.le_of_ble_eq_true rfl)
    rw [lg_entry_eq]
    generalize (lg_sl ([.ref h0, .int a]) ++ List.replicate (4 - (lg_sl ([.ref h0, .int a])).length) Slot.unset).toArray = ls at hl ⊢
    have hl : lv_has ls 4 [(0, .ref h0), (1, .int a)] := hl
    refine lv_iconst (v := 0) hx hb dX9_count_0 (by decide) ?_
    refine lv_istore_n (lv' := [(2, .int 0), (0, .ref h0), (1, .int a)]) hx hb dX9_count_1 rfl hl (by decide) rfl (fun ls hl => ?_)
    refine lv_iload_n hx hb dX9_count_2 rfl (lv_at hl 2 rfl) ?_
    by_cases c_1 : a = 0
    · skip
      exfalso; simp only [fa_lt, fa_le, fa_eq, and_true, true_and, and_false, false_and, not_true_eq_false, not_false_eq_true, li_0, li_1, li_2, li_3, li_4, li_5, li_6, li_7, li_8, li_9, li_10, li_12, li_15, li_16, li_20, li_30, li_34, li_38, li_40, li_63, li_64, li_65, li_78, li_120, li_1000, li_4000, li_10000, li_11077, li_255, li_65535, li_m1, li_m2, li_m1000000001, li_m1000000002, li_m1000000003, li_m1000000004, li_m1000000005, li_m1000000006, li_m1000000007] at hlt0 c_1 <;> omega
    · skip
      by_cases c_2 : a = 1
      · skip
        exfalso; simp only [fa_lt, fa_le, fa_eq, and_true, true_and, and_false, false_and, not_true_eq_false, not_false_eq_true, li_0, li_1, li_2, li_3, li_4, li_5, li_6, li_7, li_8, li_9, li_10, li_12, li_15, li_16, li_20, li_30, li_34, li_38, li_40, li_63, li_64, li_65, li_78, li_120, li_1000, li_4000, li_10000, li_11077, li_255, li_65535, li_m1, li_m2, li_m1000000001, li_m1000000002, li_m1000000003, li_m1000000004, li_m1000000005, li_m1000000006, li_m1000000007] at hlt0 c_1 c_2 <;> omega
      · skip
        by_cases c_3 : a = 2
        · skip
          exfalso; simp only [fa_lt, fa_le, fa_eq, and_true, true_and, and_false, false_and, not_true_eq_false, not_false_eq_true, li_0, li_1, li_2, li_3, li_4, li_5, li_6, li_7, li_8, li_9, li_10, li_12, li_15, li_16, li_20, li_30, li_34, li_38, li_40, li_63, li_64, li_65, li_78, li_120, li_1000, li_4000, li_10000, li_11077, li_255, li_65535, li_m1, li_m2, li_m1000000001, li_m1000000002, li_m1000000003, li_m1000000004, li_m1000000005, li_m1000000006, li_m1000000007] at hlt0 c_1 c_2 c_3 <;> omega
        · skip
          by_cases c_4 : a = 3
          · skip
            exfalso; simp only [fa_lt, fa_le, fa_eq, and_true, true_and, and_false, false_and, not_true_eq_false, not_false_eq_true, li_0, li_1, li_2, li_3, li_4, li_5, li_6, li_7, li_8, li_9, li_10, li_12, li_15, li_16, li_20, li_30, li_34, li_38, li_40, li_63, li_64, li_65, li_78, li_120, li_1000, li_4000, li_10000, li_11077, li_255, li_65535, li_m1, li_m2, li_m1000000001, li_m1000000002, li_m1000000003, li_m1000000004, li_m1000000005, li_m1000000006, li_m1000000007] at hlt0 c_1 c_2 c_3 c_4 <;> omega
          · skip
            by_cases c_5 : a = 4
            · skip
              exfalso; simp only [fa_lt, fa_le, fa_eq, and_true, true_and, and_false, false_and, not_true_eq_false, not_false_eq_true, li_0, li_1, li_2, li_3, li_4, li_5, li_6, li_7, li_8, li_9, li_10, li_12, li_15, li_16, li_20, li_30, li_34, li_38, li_40, li_63, li_64, li_65, li_78, li_120, li_1000, li_4000, li_10000, li_11077, li_255, li_65535, li_m1, li_m2, li_m1000000001, li_m1000000002, li_m1000000003, li_m1000000004, li_m1000000005, li_m1000000006, li_m1000000007] at hlt0 c_1 c_2 c_3 c_4 c_5 <;> omega
            · skip
              by_cases c_6 : a = 5
              · skip
                exfalso; simp only [fa_lt, fa_le, fa_eq, and_true, true_and, and_false, false_and, not_true_eq_false, not_false_eq_true, li_0, li_1, li_2, li_3, li_4, li_5, li_6, li_7, li_8, li_9, li_10, li_12, li_15, li_16, li_20, li_30, li_34, li_38, li_40, li_63, li_64, li_65, li_78, li_120, li_1000, li_4000, li_10000, li_11077, li_255, li_65535, li_m1, li_m2, li_m1000000001, li_m1000000002, li_m1000000003, li_m1000000004, li_m1000000005, li_m1000000006, li_m1000000007] at hlt0 c_1 c_2 c_3 c_4 c_5 c_6 <;> omega
              · skip
                by_cases c_7 : a = 6
                · skip
                  exfalso; simp only [fa_lt, fa_le, fa_eq, and_true, true_and, and_false, false_and, not_true_eq_false, not_false_eq_true, li_0, li_1, li_2, li_3, li_4, li_5, li_6, li_7, li_8, li_9, li_10, li_12, li_15, li_16, li_20, li_30, li_34, li_38, li_40, li_63, li_64, li_65, li_78, li_120, li_1000, li_4000, li_10000, li_11077, li_255, li_65535, li_m1, li_m2, li_m1000000001, li_m1000000002, li_m1000000003, li_m1000000004, li_m1000000005, li_m1000000006, li_m1000000007] at hlt0 c_1 c_2 c_3 c_4 c_5 c_6 c_7 <;> omega
                · skip
                  refine lv_tableOut (tgt := 142) hx hb dX9_count_3 (by simp only [fa_lt, fa_le, fa_eq, and_true, true_and, and_false, false_and, not_true_eq_false, not_false_eq_true, li_0, li_1, li_2, li_3, li_4, li_5, li_6, li_7, li_8, li_9, li_10, li_12, li_15, li_16, li_20, li_30, li_34, li_38, li_40, li_63, li_64, li_65, li_78, li_120, li_1000, li_4000, li_10000, li_11077, li_255, li_65535, li_m1, li_m2, li_m1000000001, li_m1000000002, li_m1000000003, li_m1000000004, li_m1000000005, li_m1000000006, li_m1000000007] at hlt0 c_1 c_2 c_3 c_4 c_5 c_6 c_7 <;> omega) (by decide) ?_
                  refine lv_aload_n hx hb dX9_count_142 rfl (lv_at hl 1 rfl) ?_
                  refine lv_ldc hx hb hown (hts _ (List.mem_of_getElem? (i := 1) rfl)) dX9_count_143 ?_
                  have hPc := hP.sub (ws' := [(h0, .inr (7, [.ref m0, v1, v2, v3, v4, .ref m1, v6, v7, v8, v9, v10, .int 0, v12, v13, v14, v15, v16, v17, v18, v19, v20, v21, v22, v23, v24, v25, v26, v27])), (m1, .inl (mc1, 8, .inl ff))]) [0, 2] rfl
                  have hKc := hK.sub (tys' := [(mc1, .int)]) [1] rfl
                  have hDc := hD.sub (ws' := [(h0, .inr (7, [.ref m0, v1, v2, v3, v4, .ref m1, v6, v7, v8, v9, v10, .int 0, v12, v13, v14, v15, v16, v17, v18, v19, v20, v21, v22, v23, v24, v25, v26, v27])), (m1, .inl (mc1, 8, .inl ff))]) [0, 2] (by decide) rfl
                  have hFc := va_free (wc := [(h0, .inr (7, [.ref m0, v1, v2, v3, v4, .ref m1, v6, v7, v8, v9, v10, .int 0, v12, v13, v14, v15, v16, v17, v18, v19, v20, v21, v22, v23, v24, v25, v26, v27])), (m1, .inl (mc1, 8, .inl ff))]) hD hS hA [0, 2] rfl
                  refine va_calli (va_runV (As := [.int (-1000000001)]) (rest := []) ⟨hx, hb, hml, hown, hts⟩ (m_find_beyond l dC dI ad h0 (.ref m0) v1 v2 v3 v4 m1 v6 v7 v8 v9 v10 (.int 0) v12 v13 v14 v15 v16 v17 v18 v19 v20 v21 v22 v23 v24 v25 v26 v27 mc1 ff s.heap.size ) (cwV 1 hts g_y_count_m_find_beyond_84 rfl rfl rfl (by decide +kernel) ⟨(Nat.le_of_ble_eq_true rfl), (Nat.le_of_ble_eq_true rfl)⟩) ⟨preM_blind, va_recv hKc hPc (ci := 7) (q0 := 0) rfl rfl, fun U hU hW => ⟨rfl, preM_at hU hW hPc hKc hDc hev⟩⟩ rfl rfl hl.1 rfl (lv_room (Nat.le_of_ble_eq_true rfl)) dX9_count_145 ⟨(Nat.le_of_ble_eq_true rfl), (Nat.le_of_ble_eq_true rfl)⟩) hS (fun q _ h => hFc q h) hFc (fun r_8 u t H1 locs ht hvm hw hB hz1 hk1 hS => ?_)
                  obtain ⟨hP, hD⟩ := va_join (wr := [(m0, .inl (mc0, 38, .inl nf))]) (w1 := []) hP hD [0, 2] [1] rfl rfl (by decide) (by decide) hk1 hFc nil_P nil_D
                  generalize H1 = H at hP hS ⊢
                  have hP : va_P (dC, dI) vwCl [(m0, .inl (mc0, 38, .inl nf))] H := hP
                  have hD : va_D A [(m0, .inl (mc0, 38, .inl nf))] := hD
                  subst hw
                  exact W.iret (v := (-1000000001)) hx hb hr (fun t ht hW => ⟨⟨(-1000000001), (), rfl, ⟨(fun h => (by first | rfl | (exfalso; simp only [fa_lt, fa_le, fa_eq, and_true, true_and, and_false, false_and, not_true_eq_false, not_false_eq_true, li_0, li_1, li_2, li_3, li_4, li_5, li_6, li_7, li_8, li_9, li_10, li_12, li_15, li_16, li_20, li_30, li_34, li_38, li_40, li_63, li_64, li_65, li_78, li_120, li_1000, li_4000, li_10000, li_11077, li_255, li_65535, li_m1, li_m2, li_m1000000001, li_m1000000002, li_m1000000003, li_m1000000004, li_m1000000005, li_m1000000006, li_m1000000007] at hlt0 c_1 c_2 c_3 c_4 c_5 c_6 c_7 h <;> omega) | (simp only [fa_lt, fa_le, fa_eq, and_true, true_and, and_false, false_and, not_true_eq_false, not_false_eq_true, li_0, li_1, li_2, li_3, li_4, li_5, li_6, li_7, li_8, li_9, li_10, li_12, li_15, li_16, li_20, li_30, li_34, li_38, li_40, li_63, li_64, li_65, li_78, li_120, li_1000, li_4000, li_10000, li_11077, li_255, li_65535, li_m1, li_m2, li_m1000000001, li_m1000000002, li_m1000000003, li_m1000000004, li_m1000000005, li_m1000000006, li_m1000000007] at hlt0 c_1 c_2 c_3 c_4 c_5 c_6 c_7 h ⊢ <;> omega))), (fun g0 h => (by first | rfl | (exfalso; simp only [fa_lt, fa_le, fa_eq, and_true, true_and, and_false, false_and, not_true_eq_false, not_false_eq_true, li_0, li_1, li_2, li_3, li_4, li_5, li_6, li_7, li_8, li_9, li_10, li_12, li_15, li_16, li_20, li_30, li_34, li_38, li_40, li_63, li_64, li_65, li_78, li_120, li_1000, li_4000, li_10000, li_11077, li_255, li_65535, li_m1, li_m2, li_m1000000001, li_m1000000002, li_m1000000003, li_m1000000004, li_m1000000005, li_m1000000006, li_m1000000007] at hlt0 c_1 c_2 c_3 c_4 c_5 c_6 c_7 g0 h <;> omega) | (simp only [fa_lt, fa_le, fa_eq, and_true, true_and, and_false, false_and, not_true_eq_false, not_false_eq_true, li_0, li_1, li_2, li_3, li_4, li_5, li_6, li_7, li_8, li_9, li_10, li_12, li_15, li_16, li_20, li_30, li_34, li_38, li_40, li_63, li_64, li_65, li_78, li_120, li_1000, li_4000, li_10000, li_11077, li_255, li_65535, li_m1, li_m2, li_m1000000001, li_m1000000002, li_m1000000003, li_m1000000004, li_m1000000005, li_m1000000006, li_m1000000007] at hlt0 c_1 c_2 c_3 c_4 c_5 c_6 c_7 g0 h ⊢ <;> omega))), (fun g0 g1 => rfl)⟩, trivial⟩, hS.F ht⟩) hS.2.2 dX9_count_148
  · skip
    refine Met.ofW (cc := cX9_count) (maxL := 4) (ret := (some .int)) (by decide) rfl ?_
    intro p e s m args below meth c s₁ B hml hv
    obtain ⟨rfl, hsz, hP, hK, hD0, hev⟩ := hv
    have hx := B.exec
    have hb := B.bytes
    have hr := B.returns
    have hts := atoms_spec (ws := w_y_count) B.pre
    have hown : s.vm.findClass RX9 = some m.cls := findClass_of_methodNamed B.named
    have hlocks := B.notSynchronized
    have inX9 : ∀ w ∈ wsX90, w ∈ w_y_count := fun w h => List.mem_cons_of_mem _ (List.mem_append_right _ h)
    subst hsz
    have hD := hD0.self (sz := s.heap.size)
    generalize hAe : va_A [(h0, .inr (7, [.ref m0, v1, v2, v3, v4, .ref m1, v6, v7, v8, v9, v10, .int 0, v12, v13, v14, v15, v16, v17, v18, v19, v20, v21, v22, v23, v24, v25, v26, v27])), (m0, .inl (mc0, 38, .inl nf)), (m1, .inl (mc1, 8, .inl ff))] s.heap.size = A at hD ⊢
    have hA : ∀ q : Nat, s.heap.size ≤ q → A q := fun q h => by rw [← hAe]; exact Or.inr h
    have hS : va_S A s.heap s.heap [] := va_S.rf
    have hP : va_P (dC, dI) vwCl [(h0, .inr (7, [.ref m0, v1, v2, v3, v4, .ref m1, v6, v7, v8, v9, v10, .int 0, v12, v13, v14, v15, v16, v17, v18, v19, v20, v21, v22, v23, v24, v25, v26, v27])), (m0, .inl (mc0, 38, .inl nf)), (m1, .inl (mc1, 8, .inl ff))] s.heap := hP
    have hl := lv_entry ([.ref h0, .int a]) (n := 4) (Nat.le_of_ble_eq_true rfl)
    rw [lg_entry_eq]
    generalize (lg_sl ([.ref h0, .int a]) ++ List.replicate (4 - (lg_sl ([.ref h0, .int a])).length) Slot.unset).toArray = ls at hl ⊢
    have hl : lv_has ls 4 [(0, .ref h0), (1, .int a)] := hl
    refine lv_iconst (v := 0) hx hb dX9_count_0 (by decide) ?_
    refine lv_istore_n (lv' := [(2, .int 0), (0, .ref h0), (1, .int a)]) hx hb dX9_count_1 rfl hl (by decide) rfl (fun ls hl => ?_)
    refine lv_iload_n hx hb dX9_count_2 rfl (lv_at hl 2 rfl) ?_
    by_cases c_9 : a = 0
    · skip
      exfalso; simp only [fa_lt, fa_le, fa_eq, and_true, true_and, and_false, false_and, not_true_eq_false, not_false_eq_true, li_0, li_1, li_2, li_3, li_4, li_5, li_6, li_7, li_8, li_9, li_10, li_12, li_15, li_16, li_20, li_30, li_34, li_38, li_40, li_63, li_64, li_65, li_78, li_120, li_1000, li_4000, li_10000, li_11077, li_255, li_65535, li_m1, li_m2, li_m1000000001, li_m1000000002, li_m1000000003, li_m1000000004, li_m1000000005, li_m1000000006, li_m1000000007] at hgt0 c_9 <;> omega
    · skip
      by_cases c_10 : a = 1
      · skip
        exfalso; simp only [fa_lt, fa_le, fa_eq, and_true, true_and, and_false, false_and, not_true_eq_false, not_false_eq_true, li_0, li_1, li_2, li_3, li_4, li_5, li_6, li_7, li_8, li_9, li_10, li_12, li_15, li_16, li_20, li_30, li_34, li_38, li_40, li_63, li_64, li_65, li_78, li_120, li_1000, li_4000, li_10000, li_11077, li_255, li_65535, li_m1, li_m2, li_m1000000001, li_m1000000002, li_m1000000003, li_m1000000004, li_m1000000005, li_m1000000006, li_m1000000007] at hgt0 c_9 c_10 <;> omega
      · skip
        by_cases c_11 : a = 2
        · skip
          exfalso; simp only [fa_lt, fa_le, fa_eq, and_true, true_and, and_false, false_and, not_true_eq_false, not_false_eq_true, li_0, li_1, li_2, li_3, li_4, li_5, li_6, li_7, li_8, li_9, li_10, li_12, li_15, li_16, li_20, li_30, li_34, li_38, li_40, li_63, li_64, li_65, li_78, li_120, li_1000, li_4000, li_10000, li_11077, li_255, li_65535, li_m1, li_m2, li_m1000000001, li_m1000000002, li_m1000000003, li_m1000000004, li_m1000000005, li_m1000000006, li_m1000000007] at hgt0 c_9 c_10 c_11 <;> omega
        · skip
          by_cases c_12 : a = 3
          · skip
            exfalso; simp only [fa_lt, fa_le, fa_eq, and_true, true_and, and_false, false_and, not_true_eq_false, not_false_eq_true, li_0, li_1, li_2, li_3, li_4, li_5, li_6, li_7, li_8, li_9, li_10, li_12, li_15, li_16, li_20, li_30, li_34, li_38, li_40, li_63, li_64, li_65, li_78, li_120, li_1000, li_4000, li_10000, li_11077, li_255, li_65535, li_m1, li_m2, li_m1000000001, li_m1000000002, li_m1000000003, li_m1000000004, li_m1000000005, li_m1000000006, li_m1000000007] at hgt0 c_9 c_10 c_11 c_12 <;> omega
          · skip
            by_cases c_13 : a = 4
            · skip
              exfalso; simp only [fa_lt, fa_le, fa_eq, and_true, true_and, and_false, false_and, not_true_eq_false, not_false_eq_true, li_0, li_1, li_2, li_3, li_4, li_5, li_6, li_7, li_8, li_9, li_10, li_12, li_15, li_16, li_20, li_30, li_34, li_38, li_40, li_63, li_64, li_65, li_78, li_120, li_1000, li_4000, li_10000, li_11077, li_255, li_65535, li_m1, li_m2, li_m1000000001, li_m1000000002, li_m1000000003, li_m1000000004, li_m1000000005, li_m1000000006, li_m1000000007] at hgt0 c_9 c_10 c_11 c_12 c_13 <;> omega
            · skip
              by_cases c_14 : a = 5
              · skip
                exfalso; simp only [fa_lt, fa_le, fa_eq, and_true, true_and, and_false, false_and, not_true_eq_false, not_false_eq_true, li_0, li_1, li_2, li_3, li_4, li_5, li_6, li_7, li_8, li_9, li_10, li_12, li_15, li_16, li_20, li_30, li_34, li_38, li_40, li_63, li_64, li_65, li_78, li_120, li_1000, li_4000, li_10000, li_11077, li_255, li_65535, li_m1, li_m2, li_m1000000001, li_m1000000002, li_m1000000003, li_m1000000004, li_m1000000005, li_m1000000006, li_m1000000007] at hgt0 c_9 c_10 c_11 c_12 c_13 c_14 <;> omega
              · skip
                by_cases c_15 : a = 6
                · skip
                  exfalso; simp only [fa_lt, fa_le, fa_eq, and_true, true_and, and_false, false_and, not_true_eq_false, not_false_eq_true, li_0, li_1, li_2, li_3, li_4, li_5, li_6, li_7, li_8, li_9, li_10, li_12, li_15, li_16, li_20, li_30, li_34, li_38, li_40, li_63, li_64, li_65, li_78, li_120, li_1000, li_4000, li_10000, li_11077, li_255, li_65535, li_m1, li_m2, li_m1000000001, li_m1000000002, li_m1000000003, li_m1000000004, li_m1000000005, li_m1000000006, li_m1000000007] at hgt0 c_9 c_10 c_11 c_12 c_13 c_14 c_15 <;> omega
                · skip
                  refine lv_tableOut (tgt := 142) hx hb dX9_count_3 (by simp only [fa_lt, fa_le, fa_eq, and_true, true_and, and_false, false_and, not_true_eq_false, not_false_eq_true, li_0, li_1, li_2, li_3, li_4, li_5, li_6, li_7, li_8, li_9, li_10, li_12, li_15, li_16, li_20, li_30, li_34, li_38, li_40, li_63, li_64, li_65, li_78, li_120, li_1000, li_4000, li_10000, li_11077, li_255, li_65535, li_m1, li_m2, li_m1000000001, li_m1000000002, li_m1000000003, li_m1000000004, li_m1000000005, li_m1000000006, li_m1000000007] at hgt0 c_9 c_10 c_11 c_12 c_13 c_14 c_15 <;> omega) (by decide) ?_
                  refine lv_aload_n hx hb dX9_count_142 rfl (lv_at hl 1 rfl) ?_
                  refine lv_ldc hx hb hown (hts _ (List.mem_of_getElem? (i := 1) rfl)) dX9_count_143 ?_
                  have hPc := hP.sub (ws' := [(h0, .inr (7, [.ref m0, v1, v2, v3, v4, .ref m1, v6, v7, v8, v9, v10, .int 0, v12, v13, v14, v15, v16, v17, v18, v19, v20, v21, v22, v23, v24, v25, v26, v27])), (m1, .inl (mc1, 8, .inl ff))]) [0, 2] rfl
                  have hKc := hK.sub (tys' := [(mc1, .int)]) [1] rfl
                  have hDc := hD.sub (ws' := [(h0, .inr (7, [.ref m0, v1, v2, v3, v4, .ref m1, v6, v7, v8, v9, v10, .int 0, v12, v13, v14, v15, v16, v17, v18, v19, v20, v21, v22, v23, v24, v25, v26, v27])), (m1, .inl (mc1, 8, .inl ff))]) [0, 2] (by decide) rfl
                  have hFc := va_free (wc := [(h0, .inr (7, [.ref m0, v1, v2, v3, v4, .ref m1, v6, v7, v8, v9, v10, .int 0, v12, v13, v14, v15, v16, v17, v18, v19, v20, v21, v22, v23, v24, v25, v26, v27])), (m1, .inl (mc1, 8, .inl ff))]) hD hS hA [0, 2] rfl
                  refine va_calli (va_runV (As := [.int (-1000000001)]) (rest := []) ⟨hx, hb, hml, hown, hts⟩ (m_find_beyond l dC dI ad h0 (.ref m0) v1 v2 v3 v4 m1 v6 v7 v8 v9 v10 (.int 0) v12 v13 v14 v15 v16 v17 v18 v19 v20 v21 v22 v23 v24 v25 v26 v27 mc1 ff s.heap.size ) (cwV 1 hts g_y_count_m_find_beyond_84 rfl rfl rfl (by decide +kernel) ⟨(Nat.le_of_ble_eq_true rfl), (Nat.le_of_ble_eq_true rfl)⟩) ⟨preM_blind, va_recv hKc hPc (ci := 7) (q0 := 0) rfl rfl, fun U hU hW => ⟨rfl, preM_at hU hW hPc hKc hDc hev⟩⟩ rfl rfl hl.1 rfl (lv_room (Nat.le_of_ble_eq_true rfl)) dX9_count_145 ⟨(Nat.le_of_ble_eq_true rfl), (Nat.le_of_ble_eq_true rfl)⟩) hS (fun q _ h => hFc q h) hFc (fun r_16 u t H1 locs ht hvm hw hB hz1 hk1 hS => ?_)
                  obtain ⟨hP, hD⟩ := va_join (wr := [(m0, .inl (mc0, 38, .inl nf))]) (w1 := []) hP hD [0, 2] [1] rfl rfl (by decide) (by decide) hk1 hFc nil_P nil_D
                  generalize H1 = H at hP hS ⊢
                  have hP : va_P (dC, dI) vwCl [(m0, .inl (mc0, 38, .inl nf))] H := hP
                  have hD : va_D A [(m0, .inl (mc0, 38, .inl nf))] := hD
                  subst hw
                  exact W.iret (v := (-1000000001)) hx hb hr (fun t ht hW => ⟨⟨(-1000000001), (), rfl, ⟨(fun h => (by first | rfl | (exfalso; simp only [fa_lt, fa_le, fa_eq, and_true, true_and, and_false, false_and, not_true_eq_false, not_false_eq_true, li_0, li_1, li_2, li_3, li_4, li_5, li_6, li_7, li_8, li_9, li_10, li_12, li_15, li_16, li_20, li_30, li_34, li_38, li_40, li_63, li_64, li_65, li_78, li_120, li_1000, li_4000, li_10000, li_11077, li_255, li_65535, li_m1, li_m2, li_m1000000001, li_m1000000002, li_m1000000003, li_m1000000004, li_m1000000005, li_m1000000006, li_m1000000007] at hgt0 c_9 c_10 c_11 c_12 c_13 c_14 c_15 h <;> omega) | (simp only [fa_lt, fa_le, fa_eq, and_true, true_and, and_false, false_and, not_true_eq_false, not_false_eq_true, li_0, li_1, li_2, li_3, li_4, li_5, li_6, li_7, li_8, li_9, li_10, li_12, li_15, li_16, li_20, li_30, li_34, li_38, li_40, li_63, li_64, li_65, li_78, li_120, li_1000, li_4000, li_10000, li_11077, li_255, li_65535, li_m1, li_m2, li_m1000000001, li_m1000000002, li_m1000000003, li_m1000000004, li_m1000000005, li_m1000000006, li_m1000000007] at hgt0 c_9 c_10 c_11 c_12 c_13 c_14 c_15 h ⊢ <;> omega))), (fun g0 h => (by first | rfl | (exfalso; simp only [fa_lt, fa_le, fa_eq, and_true, true_and, and_false, false_and, not_true_eq_false, not_false_eq_true, li_0, li_1, li_2, li_3, li_4, li_5, li_6, li_7, li_8, li_9, li_10, li_12, li_15, li_16, li_20, li_30, li_34, li_38, li_40, li_63, li_64, li_65, li_78, li_120, li_1000, li_4000, li_10000, li_11077, li_255, li_65535, li_m1, li_m2, li_m1000000001, li_m1000000002, li_m1000000003, li_m1000000004, li_m1000000005, li_m1000000006, li_m1000000007] at hgt0 c_9 c_10 c_11 c_12 c_13 c_14 c_15 g0 h <;> omega) | (simp only [fa_lt, fa_le, fa_eq, and_true, true_and, and_false, false_and, not_true_eq_false, not_false_eq_true, li_0, li_1, li_2, li_3, li_4, li_5, li_6, li_7, li_8, li_9, li_10, li_12, li_15, li_16, li_20, li_30, li_34, li_38, li_40, li_63, li_64, li_65, li_78, li_120, li_1000, li_4000, li_10000, li_11077, li_255, li_65535, li_m1, li_m2, li_m1000000001, li_m1000000002, li_m1000000003, li_m1000000004, li_m1000000005, li_m1000000006, li_m1000000007] at hgt0 c_9 c_10 c_11 c_12 c_13 c_14 c_15 g0 h ⊢ <;> omega))), (fun g0 g1 => rfl)⟩, trivial⟩, hS.F ht⟩) hS.2.2 dX9_count_148
  · skip
    refine Met.ofW (cc := cX9_count) (maxL := 4) (ret := (some .int)) (by decide) rfl ?_
    intro p e s m args below meth c s₁ B hml hv
    obtain ⟨rfl, hsz, hP, hK, hD0, hev⟩ := hv
    have hx := B.exec
    have hb := B.bytes
    have hr := B.returns
    have hts := atoms_spec (ws := w_y_count) B.pre
    have hown : s.vm.findClass RX9 = some m.cls := findClass_of_methodNamed B.named
    have hlocks := B.notSynchronized
    have inX9 : ∀ w ∈ wsX90, w ∈ w_y_count := fun w h => List.mem_cons_of_mem _ (List.mem_append_right _ h)
    subst hsz
    have hD := hD0.self (sz := s.heap.size)
    generalize hAe : va_A [(h0, .inr (7, [.ref m0, v1, v2, v3, v4, .ref m1, v6, v7, v8, v9, v10, .int 0, v12, v13, v14, v15, v16, v17, v18, v19, v20, v21, v22, v23, v24, v25, v26, v27])), (m0, .inl (mc0, 38, .inl nf)), (m1, .inl (mc1, 8, .inl ff))] s.heap.size = A at hD ⊢
    have hA : ∀ q : Nat, s.heap.size ≤ q → A q := fun q h => by rw [← hAe]; exact Or.inr h
    have hS : va_S A s.heap s.heap [] := va_S.rf
    have hP : va_P (dC, dI) vwCl [(h0, .inr (7, [.ref m0, v1, v2, v3, v4, .ref m1, v6, v7, v8, v9, v10, .int 0, v12, v13, v14, v15, v16, v17, v18, v19, v20, v21, v22, v23, v24, v25, v26, v27])), (m0, .inl (mc0, 38, .inl nf)), (m1, .inl (mc1, 8, .inl ff))] s.heap := hP
    have hl := lv_entry ([.ref h0, .int 0]) (n := 4) (Nat.le_of_ble_eq_true rfl)
    rw [lg_entry_eq]
    generalize (lg_sl ([.ref h0, .int 0]) ++ List.replicate (4 - (lg_sl ([.ref h0, .int 0])).length) Slot.unset).toArray = ls at hl ⊢
    have hl : lv_has ls 4 [(0, .ref h0), (1, .int 0)] := hl
    refine lv_iconst (v := 0) hx hb dX9_count_0 (by decide) ?_
    refine lv_istore_n (lv' := [(2, .int 0), (0, .ref h0), (1, .int 0)]) hx hb dX9_count_1 rfl hl (by decide) rfl (fun ls hl => ?_)
    refine lv_iload_n hx hb dX9_count_2 rfl (lv_at hl 2 rfl) ?_
    refine lv_tableIn (tgt := 44) hx hb dX9_count_3 (by decide) (by decide) rfl (by decide) ?_
    refine lv_aload_n hx hb dX9_count_44 rfl (lv_at hl 1 rfl) ?_
    refine va_get (D := (dC, dI)) (ci := 7) (v := .ref m0) (C := RX9) (T := TX9) (N := 28) hx hb hts inX9 hown hK hP 0 rfl rfl 0 (by decide) (hts _ (List.mem_of_getElem? (i := 8) rfl)) (fun _ h9 => h9) rfl dX9_count_45 ?_
    refine lv_iconst (v := 0) hx hb dX9_count_48 (by decide) ?_
    refine va_iald hx hb hK hP 1 0 rfl rfl (vp_in_nI (n := 0) (by decide) (by decide)) dX9_count_49 ?_
    refine pp_ti (y := 0) ((hnf 0 (by decide)).trans (by decide)) ?_
    exact W.iret (v := 0) hx hb hr (fun t ht hW => ⟨⟨0, (), rfl, ⟨(fun h => rfl), (fun g0 h => (by first | rfl | (exfalso; simp only [fa_lt, fa_le, fa_eq, and_true, true_and, and_false, false_and, not_true_eq_false, not_false_eq_true, li_0, li_1, li_2, li_3, li_4, li_5, li_6, li_7, li_8, li_9, li_10, li_12, li_15, li_16, li_20, li_30, li_34, li_38, li_40, li_63, li_64, li_65, li_78, li_120, li_1000, li_4000, li_10000, li_11077, li_255, li_65535, li_m1, li_m2, li_m1000000001, li_m1000000002, li_m1000000003, li_m1000000004, li_m1000000005, li_m1000000006, li_m1000000007] at g0 h <;> omega) | (simp only [fa_lt, fa_le, fa_eq, and_true, true_and, and_false, false_and, not_true_eq_false, not_false_eq_true, li_0, li_1, li_2, li_3, li_4, li_5, li_6, li_7, li_8, li_9, li_10, li_12, li_15, li_16, li_20, li_30, li_34, li_38, li_40, li_63, li_64, li_65, li_78, li_120, li_1000, li_4000, li_10000, li_11077, li_255, li_65535, li_m1, li_m2, li_m1000000001, li_m1000000002, li_m1000000003, li_m1000000004, li_m1000000005, li_m1000000006, li_m1000000007] at g0 h ⊢ <;> omega))), (fun g0 g1 => (by first | rfl | (exfalso; simp only [fa_lt, fa_le, fa_eq, and_true, true_and, and_false, false_and, not_true_eq_false, not_false_eq_true, li_0, li_1, li_2, li_3, li_4, li_5, li_6, li_7, li_8, li_9, li_10, li_12, li_15, li_16, li_20, li_30, li_34, li_38, li_40, li_63, li_64, li_65, li_78, li_120, li_1000, li_4000, li_10000, li_11077, li_255, li_65535, li_m1, li_m2, li_m1000000001, li_m1000000002, li_m1000000003, li_m1000000004, li_m1000000005, li_m1000000006, li_m1000000007] at g0 g1 <;> omega) | (simp only [fa_lt, fa_le, fa_eq, and_true, true_and, and_false, false_and, not_true_eq_false, not_false_eq_true, li_0, li_1, li_2, li_3, li_4, li_5, li_6, li_7, li_8, li_9, li_10, li_12, li_15, li_16, li_20, li_30, li_34, li_38, li_40, li_63, li_64, li_65, li_78, li_120, li_1000, li_4000, li_10000, li_11077, li_255, li_65535, li_m1, li_m2, li_m1000000001, li_m1000000002, li_m1000000003, li_m1000000004, li_m1000000005, li_m1000000006, li_m1000000007] at g0 g1 ⊢ <;> omega)))⟩, trivial⟩, hS.F ht⟩) hS.2.2 dX9_count_50
  · skip
    refine Met.ofW (cc := cX9_count) (maxL := 4) (ret := (some .int)) (by decide) rfl ?_
    intro p e s m args below meth c s₁ B hml hv
    obtain ⟨rfl, hsz, hP, hK, hD0, hev⟩ := hv
    have hx := B.exec
    have hb := B.bytes
    have hr := B.returns
    have hts := atoms_spec (ws := w_y_count) B.pre
    have hown : s.vm.findClass RX9 = some m.cls := findClass_of_methodNamed B.named
    have hlocks := B.notSynchronized
    have inX9 : ∀ w ∈ wsX90, w ∈ w_y_count := fun w h => List.mem_cons_of_mem _ (List.mem_append_right _ h)
    subst hsz
    have hD := hD0.self (sz := s.heap.size)
    generalize hAe : va_A [(h0, .inr (7, [.ref m0, v1, v2, v3, v4, .ref m1, v6, v7, v8, v9, v10, .int 0, v12, v13, v14, v15, v16, v17, v18, v19, v20, v21, v22, v23, v24, v25, v26, v27])), (m0, .inl (mc0, 38, .inl nf)), (m1, .inl (mc1, 8, .inl ff))] s.heap.size = A at hD ⊢
    have hA : ∀ q : Nat, s.heap.size ≤ q → A q := fun q h => by rw [← hAe]; exact Or.inr h
    have hS : va_S A s.heap s.heap [] := va_S.rf
    have hP : va_P (dC, dI) vwCl [(h0, .inr (7, [.ref m0, v1, v2, v3, v4, .ref m1, v6, v7, v8, v9, v10, .int 0, v12, v13, v14, v15, v16, v17, v18, v19, v20, v21, v22, v23, v24, v25, v26, v27])), (m0, .inl (mc0, 38, .inl nf)), (m1, .inl (mc1, 8, .inl ff))] s.heap := hP
    have hl := lv_entry ([.ref h0, .int 1]) (n := 4) (Nat.le_of_ble_eq_true rfl)
    rw [lg_entry_eq]
    generalize (lg_sl ([.ref h0, .int 1]) ++ List.replicate (4 - (lg_sl ([.ref h0, .int 1])).length) Slot.unset).toArray = ls at hl ⊢
    have hl : lv_has ls 4 [(0, .ref h0), (1, .int 1)] := hl
    refine lv_iconst (v := 0) hx hb dX9_count_0 (by decide) ?_
    refine lv_istore_n (lv' := [(2, .int 0), (0, .ref h0), (1, .int 1)]) hx hb dX9_count_1 rfl hl (by decide) rfl (fun ls hl => ?_)
    refine lv_iload_n hx hb dX9_count_2 rfl (lv_at hl 2 rfl) ?_
    refine lv_tableIn (tgt := 51) hx hb dX9_count_3 (by decide) (by decide) rfl (by decide) ?_
    refine lv_iconst (v := 0) hx hb dX9_count_51 (by decide) ?_
    refine lv_istore_n (lv' := [(3, .int 0), (2, .int 0), (0, .ref h0), (1, .int 1)]) hx hb dX9_count_52 rfl hl (by decide) rfl (fun ls hl => ?_)
    refine lv_iload_n hx hb dX9_count_53 rfl (lv_at hl 0 rfl) ?_
    refine lv_aload_n hx hb dX9_count_54 rfl (lv_at hl 2 rfl) ?_
    refine va_get (D := (dC, dI)) (ci := 7) (v := .ref m0) (C := RX9) (T := TX9) (N := 28) hx hb hts inX9 hown hK hP 0 rfl rfl 0 (by decide) (hts _ (List.mem_of_getElem? (i := 8) rfl)) (fun _ h9 => h9) rfl dX9_count_55 ?_
    refine lv_iconst (v := 0) hx hb dX9_count_58 (by decide) ?_
    refine va_iald hx hb hK hP 1 0 rfl rfl (vp_in_nI (n := 0) (by decide) (by decide)) dX9_count_59 ?_
    refine pp_ti (y := 0) ((hnf 0 (by decide)).trans (by decide)) ?_
    refine lv_icmp_ge (tgt := 78) hx hb dX9_count_60 (by decide) (fun _ => ?_) (fun c => absurd (by decide) c)
    refine lv_iload_n hx hb dX9_count_78 rfl (lv_at hl 1 rfl) ?_
    exact W.iret (v := 0) hx hb hr (fun t ht hW => ⟨⟨0, (), rfl, ⟨(fun h => rfl), (fun g0 h => (by first | rfl | (exfalso; simp only [fa_lt, fa_le, fa_eq, and_true, true_and, and_false, false_and, not_true_eq_false, not_false_eq_true, li_0, li_1, li_2, li_3, li_4, li_5, li_6, li_7, li_8, li_9, li_10, li_12, li_15, li_16, li_20, li_30, li_34, li_38, li_40, li_63, li_64, li_65, li_78, li_120, li_1000, li_4000, li_10000, li_11077, li_255, li_65535, li_m1, li_m2, li_m1000000001, li_m1000000002, li_m1000000003, li_m1000000004, li_m1000000005, li_m1000000006, li_m1000000007] at g0 h <;> omega) | (simp only [fa_lt, fa_le, fa_eq, and_true, true_and, and_false, false_and, not_true_eq_false, not_false_eq_true, li_0, li_1, li_2, li_3, li_4, li_5, li_6, li_7, li_8, li_9, li_10, li_12, li_15, li_16, li_20, li_30, li_34, li_38, li_40, li_63, li_64, li_65, li_78, li_120, li_1000, li_4000, li_10000, li_11077, li_255, li_65535, li_m1, li_m2, li_m1000000001, li_m1000000002, li_m1000000003, li_m1000000004, li_m1000000005, li_m1000000006, li_m1000000007] at g0 h ⊢ <;> omega))), (fun g0 g1 => (by first | rfl | (exfalso; simp only [fa_lt, fa_le, fa_eq, and_true, true_and, and_false, false_and, not_true_eq_false, not_false_eq_true, li_0, li_1, li_2, li_3, li_4, li_5, li_6, li_7, li_8, li_9, li_10, li_12, li_15, li_16, li_20, li_30, li_34, li_38, li_40, li_63, li_64, li_65, li_78, li_120, li_1000, li_4000, li_10000, li_11077, li_255, li_65535, li_m1, li_m2, li_m1000000001, li_m1000000002, li_m1000000003, li_m1000000004, li_m1000000005, li_m1000000006, li_m1000000007] at g0 g1 <;> omega) | (simp only [fa_lt, fa_le, fa_eq, and_true, true_and, and_false, false_and, not_true_eq_false, not_false_eq_true, li_0, li_1, li_2, li_3, li_4, li_5, li_6, li_7, li_8, li_9, li_10, li_12, li_15, li_16, li_20, li_30, li_34, li_38, li_40, li_63, li_64, li_65, li_78, li_120, li_1000, li_4000, li_10000, li_11077, li_255, li_65535, li_m1, li_m2, li_m1000000001, li_m1000000002, li_m1000000003, li_m1000000004, li_m1000000005, li_m1000000006, li_m1000000007] at g0 g1 ⊢ <;> omega)))⟩, trivial⟩, hS.F ht⟩) hS.2.2 dX9_count_79
  · skip
    refine Met.ofW (cc := cX9_count) (maxL := 4) (ret := (some .int)) (by decide) rfl ?_
    intro p e s m args below meth c s₁ B hml hv
    obtain ⟨rfl, hsz, hP, hK, hD0, hev⟩ := hv
    have hx := B.exec
    have hb := B.bytes
    have hr := B.returns
    have hts := atoms_spec (ws := w_y_count) B.pre
    have hown : s.vm.findClass RX9 = some m.cls := findClass_of_methodNamed B.named
    have hlocks := B.notSynchronized
    have inX9 : ∀ w ∈ wsX90, w ∈ w_y_count := fun w h => List.mem_cons_of_mem _ (List.mem_append_right _ h)
    subst hsz
    have hD := hD0.self (sz := s.heap.size)
    generalize hAe : va_A [(h0, .inr (7, [.ref m0, v1, v2, v3, v4, .ref m1, v6, v7, v8, v9, v10, .int 0, v12, v13, v14, v15, v16, v17, v18, v19, v20, v21, v22, v23, v24, v25, v26, v27])), (m0, .inl (mc0, 38, .inl nf)), (m1, .inl (mc1, 8, .inl ff))] s.heap.size = A at hD ⊢
    have hA : ∀ q : Nat, s.heap.size ≤ q → A q := fun q h => by rw [← hAe]; exact Or.inr h
    have hS : va_S A s.heap s.heap [] := va_S.rf
    have hP : va_P (dC, dI) vwCl [(h0, .inr (7, [.ref m0, v1, v2, v3, v4, .ref m1, v6, v7, v8, v9, v10, .int 0, v12, v13, v14, v15, v16, v17, v18, v19, v20, v21, v22, v23, v24, v25, v26, v27])), (m0, .inl (mc0, 38, .inl nf)), (m1, .inl (mc1, 8, .inl ff))] s.heap := hP
    have hl := lv_entry ([.ref h0, .int 2]) (n := 4) (Nat.le_of_ble_eq_true rfl)
    rw [lg_entry_eq]
    generalize (lg_sl ([.ref h0, .int 2]) ++ List.replicate (4 - (lg_sl ([.ref h0, .int 2])).length) Slot.unset).toArray = ls at hl ⊢
    have hl : lv_has ls 4 [(0, .ref h0), (1, .int 2)] := hl
    refine lv_iconst (v := 0) hx hb dX9_count_0 (by decide) ?_
    refine lv_istore_n (lv' := [(2, .int 0), (0, .ref h0), (1, .int 2)]) hx hb dX9_count_1 rfl hl (by decide) rfl (fun ls hl => ?_)
    refine lv_iload_n hx hb dX9_count_2 rfl (lv_at hl 2 rfl) ?_
    refine lv_tableIn (tgt := 80) hx hb dX9_count_3 (by decide) (by decide) rfl (by decide) ?_
    refine lv_aload_n hx hb dX9_count_80 rfl (lv_at hl 1 rfl) ?_
    refine va_get (D := (dC, dI)) (ci := 7) (v := .ref m0) (C := RX9) (T := TX9) (N := 28) hx hb hts inX9 hown hK hP 0 rfl rfl 0 (by decide) (hts _ (List.mem_of_getElem? (i := 8) rfl)) (fun _ h9 => h9) rfl dX9_count_81 ?_
    refine lv_iconst (v := 1) hx hb dX9_count_84 (by decide) ?_
    refine va_iald hx hb hK hP 1 0 rfl rfl (vp_in_nI (n := 1) (by decide) (by decide)) dX9_count_85 ?_
    refine pp_ti (y := 0) ((hnf 1 (by decide)).trans (by decide)) ?_
    exact W.iret (v := 0) hx hb hr (fun t ht hW => ⟨⟨0, (), rfl, ⟨(fun h => rfl), (fun g0 h => (by first | rfl | (exfalso; simp only [fa_lt, fa_le, fa_eq, and_true, true_and, and_false, false_and, not_true_eq_false, not_false_eq_true, li_0, li_1, li_2, li_3, li_4, li_5, li_6, li_7, li_8, li_9, li_10, li_12, li_15, li_16, li_20, li_30, li_34, li_38, li_40, li_63, li_64, li_65, li_78, li_120, li_1000, li_4000, li_10000, li_11077, li_255, li_65535, li_m1, li_m2, li_m1000000001, li_m1000000002, li_m1000000003, li_m1000000004, li_m1000000005, li_m1000000006, li_m1000000007] at g0 h <;> omega) | (simp only [fa_lt, fa_le, fa_eq, and_true, true_and, and_false, false_and, not_true_eq_false, not_false_eq_true, li_0, li_1, li_2, li_3, li_4, li_5, li_6, li_7, li_8, li_9, li_10, li_12, li_15, li_16, li_20, li_30, li_34, li_38, li_40, li_63, li_64, li_65, li_78, li_120, li_1000, li_4000, li_10000, li_11077, li_255, li_65535, li_m1, li_m2, li_m1000000001, li_m1000000002, li_m1000000003, li_m1000000004, li_m1000000005, li_m1000000006, li_m1000000007] at g0 h ⊢ <;> omega))), (fun g0 g1 => (by first | rfl | (exfalso; simp only [fa_lt, fa_le, fa_eq, and_true, true_and, and_false, false_and, not_true_eq_false, not_false_eq_true, li_0, li_1, li_2, li_3, li_4, li_5, li_6, li_7, li_8, li_9, li_10, li_12, li_15, li_16, li_20, li_30, li_34, li_38, li_40, li_63, li_64, li_65, li_78, li_120, li_1000, li_4000, li_10000, li_11077, li_255, li_65535, li_m1, li_m2, li_m1000000001, li_m1000000002, li_m1000000003, li_m1000000004, li_m1000000005, li_m1000000006, li_m1000000007] at g0 g1 <;> omega) | (simp only [fa_lt, fa_le, fa_eq, and_true, true_and, and_false, false_and, not_true_eq_false, not_false_eq_true, li_0, li_1, li_2, li_3, li_4, li_5, li_6, li_7, li_8, li_9, li_10, li_12, li_15, li_16, li_20, li_30, li_34, li_38, li_40, li_63, li_64, li_65, li_78, li_120, li_1000, li_4000, li_10000, li_11077, li_255, li_65535, li_m1, li_m2, li_m1000000001, li_m1000000002, li_m1000000003, li_m1000000004, li_m1000000005, li_m1000000006, li_m1000000007] at g0 g1 ⊢ <;> omega)))⟩, trivial⟩, hS.F ht⟩) hS.2.2 dX9_count_86
  · skip
    refine Met.ofW (cc := cX9_count) (maxL := 4) (ret := (some .int)) (by decide) rfl ?_
    intro p e s m args below meth c s₁ B hml hv
    obtain ⟨rfl, hsz, hP, hK, hD0, hev⟩ := hv
    have hx := B.exec
    have hb := B.bytes
    have hr := B.returns
    have hts := atoms_spec (ws := w_y_count) B.pre
    have hown : s.vm.findClass RX9 = some m.cls := findClass_of_methodNamed B.named
    have hlocks := B.notSynchronized
    have inX9 : ∀ w ∈ wsX90, w ∈ w_y_count := fun w h => List.mem_cons_of_mem _ (List.mem_append_right _ h)
    subst hsz
    have hD := hD0.self (sz := s.heap.size)
    generalize hAe : va_A [(h0, .inr (7, [.ref m0, v1, v2, v3, v4, .ref m1, v6, v7, v8, v9, v10, .int 0, v12, v13, v14, v15, v16, v17, v18, v19, v20, v21, v22, v23, v24, v25, v26, v27])), (m0, .inl (mc0, 38, .inl nf)), (m1, .inl (mc1, 8, .inl ff))] s.heap.size = A at hD ⊢
    have hA : ∀ q : Nat, s.heap.size ≤ q → A q := fun q h => by rw [← hAe]; exact Or.inr h
    have hS : va_S A s.heap s.heap [] := va_S.rf
    have hP : va_P (dC, dI) vwCl [(h0, .inr (7, [.ref m0, v1, v2, v3, v4, .ref m1, v6, v7, v8, v9, v10, .int 0, v12, v13, v14, v15, v16, v17, v18, v19, v20, v21, v22, v23, v24, v25, v26, v27])), (m0, .inl (mc0, 38, .inl nf)), (m1, .inl (mc1, 8, .inl ff))] s.heap := hP
    have hl := lv_entry ([.ref h0, .int 3]) (n := 4) (Nat.le_of_ble_eq_true rfl)
    rw [lg_entry_eq]
    generalize (lg_sl ([.ref h0, .int 3]) ++ List.replicate (4 - (lg_sl ([.ref h0, .int 3])).length) Slot.unset).toArray = ls at hl ⊢
    have hl : lv_has ls 4 [(0, .ref h0), (1, .int 3)] := hl
    refine lv_iconst (v := 0) hx hb dX9_count_0 (by decide) ?_
    refine lv_istore_n (lv' := [(2, .int 0), (0, .ref h0), (1, .int 3)]) hx hb dX9_count_1 rfl hl (by decide) rfl (fun ls hl => ?_)
    refine lv_iload_n hx hb dX9_count_2 rfl (lv_at hl 2 rfl) ?_
    refine lv_tableIn (tgt := 87) hx hb dX9_count_3 (by decide) (by decide) rfl (by decide) ?_
    refine lv_iconst (v := 0) hx hb dX9_count_87 (by decide) ?_
    refine lv_istore_n (lv' := [(3, .int 0), (2, .int 0), (0, .ref h0), (1, .int 3)]) hx hb dX9_count_88 rfl hl (by decide) rfl (fun ls hl => ?_)
    refine lv_iload_n hx hb dX9_count_89 rfl (lv_at hl 0 rfl) ?_
    refine lv_iconst (v := 4) hx hb dX9_count_90 (by decide) ?_
    refine lv_icmp_ge (tgt := 120) hx hb dX9_count_91 (by decide) (fun c => absurd c (by decide)) (fun _ => ?_)
    refine lv_iload_n hx hb dX9_count_94 rfl (lv_at hl 1 rfl) ?_
    refine lv_aload_n hx hb dX9_count_95 rfl (lv_at hl 2 rfl) ?_
    refine va_get (D := (dC, dI)) (ci := 7) (v := .ref m0) (C := RX9) (T := TX9) (N := 28) hx hb hts inX9 hown hK hP 0 rfl rfl 0 (by decide) (hts _ (List.mem_of_getElem? (i := 8) rfl)) (fun _ h9 => h9) rfl dX9_count_96 ?_
    refine lv_bipush (v := 30) hx hb dX9_count_99 (by decide) ?_
    refine lv_iload_n hx hb dX9_count_101 rfl (lv_at hl 0 rfl) ?_
    refine lv_iadd hx hb dX9_count_102 ?_
    refine pp_ti (y := 30) (by decide) ?_
    refine va_iald hx hb hK hP 1 0 rfl rfl (vp_in_nI (n := 30) (by decide) (by decide)) dX9_count_103 ?_
    refine pp_ti (y := (-1)) ((hnf 30 (by decide)).trans (by decide)) ?_
    refine lv_if_ge (tgt := 111) hx hb dX9_count_104 (by decide) (fun c => absurd c (by decide)) (fun _ => ?_)
    refine lv_iconst (v := 0) hx hb dX9_count_107 (by decide) ?_
    refine lv_goto (tgt := 112) hx hb dX9_count_108 (by decide) ?_
    refine lv_iadd hx hb dX9_count_112 ?_
    refine pp_ti (y := 0) (by decide) ?_
    refine lv_istore_n (lv' := [(2, .int 0), (3, .int 0), (0, .ref h0), (1, .int 3)]) hx hb dX9_count_113 rfl hl (by decide) rfl (fun ls hl => ?_)
    refine lv_iinc (v := 1) (lv' := [(3, .int 1), (2, .int 0), (0, .ref h0), (1, .int 3)]) hx hb dX9_count_114 hl (k := 1) rfl (by decide) (by decide) rfl (fun ls hl => ?_)
    refine lv_goto (tgt := 89) hx hb dX9_count_117 (by decide) ?_
    refine lv_iload_n hx hb dX9_count_89 rfl (lv_at hl 0 rfl) ?_
    refine lv_iconst (v := 4) hx hb dX9_count_90 (by decide) ?_
    refine lv_icmp_ge (tgt := 120) hx hb dX9_count_91 (by decide) (fun c => absurd c (by decide)) (fun _ => ?_)
    refine lv_iload_n hx hb dX9_count_94 rfl (lv_at hl 1 rfl) ?_
    refine lv_aload_n hx hb dX9_count_95 rfl (lv_at hl 2 rfl) ?_
    refine va_get (D := (dC, dI)) (ci := 7) (v := .ref m0) (C := RX9) (T := TX9) (N := 28) hx hb hts inX9 hown hK hP 0 rfl rfl 0 (by decide) (hts _ (List.mem_of_getElem? (i := 8) rfl)) (fun _ h9 => h9) rfl dX9_count_96 ?_
    refine lv_bipush (v := 30) hx hb dX9_count_99 (by decide) ?_
    refine lv_iload_n hx hb dX9_count_101 rfl (lv_at hl 0 rfl) ?_
    refine lv_iadd hx hb dX9_count_102 ?_
    refine pp_ti (y := 31) (by decide) ?_
    refine va_iald hx hb hK hP 1 0 rfl rfl (vp_in_nI (n := 31) (by decide) (by decide)) dX9_count_103 ?_
    refine pp_ti (y := (-1)) ((hnf 31 (by decide)).trans (by decide)) ?_
    refine lv_if_ge (tgt := 111) hx hb dX9_count_104 (by decide) (fun c => absurd c (by decide)) (fun _ => ?_)
    refine lv_iconst (v := 0) hx hb dX9_count_107 (by decide) ?_
    refine lv_goto (tgt := 112) hx hb dX9_count_108 (by decide) ?_
    refine lv_iadd hx hb dX9_count_112 ?_
    refine pp_ti (y := 0) (by decide) ?_
    refine lv_istore_n (lv' := [(2, .int 0), (3, .int 1), (0, .ref h0), (1, .int 3)]) hx hb dX9_count_113 rfl hl (by decide) rfl (fun ls hl => ?_)
    refine lv_iinc (v := 2) (lv' := [(3, .int 2), (2, .int 0), (0, .ref h0), (1, .int 3)]) hx hb dX9_count_114 hl (k := 1) rfl (by decide) (by decide) rfl (fun ls hl => ?_)
    refine lv_goto (tgt := 89) hx hb dX9_count_117 (by decide) ?_
    refine lv_iload_n hx hb dX9_count_89 rfl (lv_at hl 0 rfl) ?_
    refine lv_iconst (v := 4) hx hb dX9_count_90 (by decide) ?_
    refine lv_icmp_ge (tgt := 120) hx hb dX9_count_91 (by decide) (fun c => absurd c (by decide)) (fun _ => ?_)
    refine lv_iload_n hx hb dX9_count_94 rfl (lv_at hl 1 rfl) ?_
    refine lv_aload_n hx hb dX9_count_95 rfl (lv_at hl 2 rfl) ?_
    refine va_get (D := (dC, dI)) (ci := 7) (v := .ref m0) (C := RX9) (T := TX9) (N := 28) hx hb hts inX9 hown hK hP 0 rfl rfl 0 (by decide) (hts _ (List.mem_of_getElem? (i := 8) rfl)) (fun _ h9 => h9) rfl dX9_count_96 ?_
    refine lv_bipush (v := 30) hx hb dX9_count_99 (by decide) ?_
    refine lv_iload_n hx hb dX9_count_101 rfl (lv_at hl 0 rfl) ?_
    refine lv_iadd hx hb dX9_count_102 ?_
    refine pp_ti (y := 32) (by decide) ?_
    refine va_iald hx hb hK hP 1 0 rfl rfl (vp_in_nI (n := 32) (by decide) (by decide)) dX9_count_103 ?_
    refine pp_ti (y := (-1)) ((hnf 32 (by decide)).trans (by decide)) ?_
    refine lv_if_ge (tgt := 111) hx hb dX9_count_104 (by decide) (fun c => absurd c (by decide)) (fun _ => ?_)
    refine lv_iconst (v := 0) hx hb dX9_count_107 (by decide) ?_
    refine lv_goto (tgt := 112) hx hb dX9_count_108 (by decide) ?_
    refine lv_iadd hx hb dX9_count_112 ?_
    refine pp_ti (y := 0) (by decide) ?_
    refine lv_istore_n (lv' := [(2, .int 0), (3, .int 2), (0, .ref h0), (1, .int 3)]) hx hb dX9_count_113 rfl hl (by decide) rfl (fun ls hl => ?_)
    refine lv_iinc (v := 3) (lv' := [(3, .int 3), (2, .int 0), (0, .ref h0), (1, .int 3)]) hx hb dX9_count_114 hl (k := 1) rfl (by decide) (by decide) rfl (fun ls hl => ?_)
    refine lv_goto (tgt := 89) hx hb dX9_count_117 (by decide) ?_
    refine lv_iload_n hx hb dX9_count_89 rfl (lv_at hl 0 rfl) ?_
    refine lv_iconst (v := 4) hx hb dX9_count_90 (by decide) ?_
    refine lv_icmp_ge (tgt := 120) hx hb dX9_count_91 (by decide) (fun c => absurd c (by decide)) (fun _ => ?_)
    refine lv_iload_n hx hb dX9_count_94 rfl (lv_at hl 1 rfl) ?_
    refine lv_aload_n hx hb dX9_count_95 rfl (lv_at hl 2 rfl) ?_
    refine va_get (D := (dC, dI)) (ci := 7) (v := .ref m0) (C := RX9) (T := TX9) (N := 28) hx hb hts inX9 hown hK hP 0 rfl rfl 0 (by decide) (hts _ (List.mem_of_getElem? (i := 8) rfl)) (fun _ h9 => h9) rfl dX9_count_96 ?_
    refine lv_bipush (v := 30) hx hb dX9_count_99 (by decide) ?_
    refine lv_iload_n hx hb dX9_count_101 rfl (lv_at hl 0 rfl) ?_
    refine lv_iadd hx hb dX9_count_102 ?_
    refine pp_ti (y := 33) (by decide) ?_
    refine va_iald hx hb hK hP 1 0 rfl rfl (vp_in_nI (n := 33) (by decide) (by decide)) dX9_count_103 ?_
    refine pp_ti (y := (-1)) ((hnf 33 (by decide)).trans (by decide)) ?_
    refine lv_if_ge (tgt := 111) hx hb dX9_count_104 (by decide) (fun c => absurd c (by decide)) (fun _ => ?_)
    refine lv_iconst (v := 0) hx hb dX9_count_107 (by decide) ?_
    refine lv_goto (tgt := 112) hx hb dX9_count_108 (by decide) ?_
    refine lv_iadd hx hb dX9_count_112 ?_
    refine pp_ti (y := 0) (by decide) ?_
    refine lv_istore_n (lv' := [(2, .int 0), (3, .int 3), (0, .ref h0), (1, .int 3)]) hx hb dX9_count_113 rfl hl (by decide) rfl (fun ls hl => ?_)
    refine lv_iinc (v := 4) (lv' := [(3, .int 4), (2, .int 0), (0, .ref h0), (1, .int 3)]) hx hb dX9_count_114 hl (k := 1) rfl (by decide) (by decide) rfl (fun ls hl => ?_)
    refine lv_goto (tgt := 89) hx hb dX9_count_117 (by decide) ?_
    refine lv_iload_n hx hb dX9_count_89 rfl (lv_at hl 0 rfl) ?_
    refine lv_iconst (v := 4) hx hb dX9_count_90 (by decide) ?_
    refine lv_icmp_ge (tgt := 120) hx hb dX9_count_91 (by decide) (fun _ => ?_) (fun c => absurd (by decide) c)
    refine lv_iload_n hx hb dX9_count_120 rfl (lv_at hl 1 rfl) ?_
    exact W.iret (v := 0) hx hb hr (fun t ht hW => ⟨⟨0, (), rfl, ⟨(fun h => rfl), (fun g0 h => (by first | rfl | (exfalso; simp only [fa_lt, fa_le, fa_eq, and_true, true_and, and_false, false_and, not_true_eq_false, not_false_eq_true, li_0, li_1, li_2, li_3, li_4, li_5, li_6, li_7, li_8, li_9, li_10, li_12, li_15, li_16, li_20, li_30, li_34, li_38, li_40, li_63, li_64, li_65, li_78, li_120, li_1000, li_4000, li_10000, li_11077, li_255, li_65535, li_m1, li_m2, li_m1000000001, li_m1000000002, li_m1000000003, li_m1000000004, li_m1000000005, li_m1000000006, li_m1000000007] at g0 h <;> omega) | (simp only [fa_lt, fa_le, fa_eq, and_true, true_and, and_false, false_and, not_true_eq_false, not_false_eq_true, li_0, li_1, li_2, li_3, li_4, li_5, li_6, li_7, li_8, li_9, li_10, li_12, li_15, li_16, li_20, li_30, li_34, li_38, li_40, li_63, li_64, li_65, li_78, li_120, li_1000, li_4000, li_10000, li_11077, li_255, li_65535, li_m1, li_m2, li_m1000000001, li_m1000000002, li_m1000000003, li_m1000000004, li_m1000000005, li_m1000000006, li_m1000000007] at g0 h ⊢ <;> omega))), (fun g0 g1 => (by first | rfl | (exfalso; simp only [fa_lt, fa_le, fa_eq, and_true, true_and, and_false, false_and, not_true_eq_false, not_false_eq_true, li_0, li_1, li_2, li_3, li_4, li_5, li_6, li_7, li_8, li_9, li_10, li_12, li_15, li_16, li_20, li_30, li_34, li_38, li_40, li_63, li_64, li_65, li_78, li_120, li_1000, li_4000, li_10000, li_11077, li_255, li_65535, li_m1, li_m2, li_m1000000001, li_m1000000002, li_m1000000003, li_m1000000004, li_m1000000005, li_m1000000006, li_m1000000007] at g0 g1 <;> omega) | (simp only [fa_lt, fa_le, fa_eq, and_true, true_and, and_false, false_and, not_true_eq_false, not_false_eq_true, li_0, li_1, li_2, li_3, li_4, li_5, li_6, li_7, li_8, li_9, li_10, li_12, li_15, li_16, li_20, li_30, li_34, li_38, li_40, li_63, li_64, li_65, li_78, li_120, li_1000, li_4000, li_10000, li_11077, li_255, li_65535, li_m1, li_m2, li_m1000000001, li_m1000000002, li_m1000000003, li_m1000000004, li_m1000000005, li_m1000000006, li_m1000000007] at g0 g1 ⊢ <;> omega)))⟩, trivial⟩, hS.F ht⟩) hS.2.2 dX9_count_121
  · skip
    refine Met.ofW (cc := cX9_count) (maxL := 4) (ret := (some .int)) (by decide) rfl ?_
    intro p e s m args below meth c s₁ B hml hv
    obtain ⟨rfl, hsz, hP, hK, hD0, hev⟩ := hv
    have hx := B.exec
    have hb := B.bytes
    have hr := B.returns
    have hts := atoms_spec (ws := w_y_count) B.pre
    have hown : s.vm.findClass RX9 = some m.cls := findClass_of_methodNamed B.named
    have hlocks := B.notSynchronized
    have inX9 : ∀ w ∈ wsX90, w ∈ w_y_count := fun w h => List.mem_cons_of_mem _ (List.mem_append_right _ h)
    subst hsz
    have hD := hD0.self (sz := s.heap.size)
    generalize hAe : va_A [(h0, .inr (7, [.ref m0, v1, v2, v3, v4, .ref m1, v6, v7, v8, v9, v10, .int 0, v12, v13, v14, v15, v16, v17, v18, v19, v20, v21, v22, v23, v24, v25, v26, v27])), (m0, .inl (mc0, 38, .inl nf)), (m1, .inl (mc1, 8, .inl ff))] s.heap.size = A at hD ⊢
    have hA : ∀ q : Nat, s.heap.size ≤ q → A q := fun q h => by rw [← hAe]; exact Or.inr h
    have hS : va_S A s.heap s.heap [] := va_S.rf
    have hP : va_P (dC, dI) vwCl [(h0, .inr (7, [.ref m0, v1, v2, v3, v4, .ref m1, v6, v7, v8, v9, v10, .int 0, v12, v13, v14, v15, v16, v17, v18, v19, v20, v21, v22, v23, v24, v25, v26, v27])), (m0, .inl (mc0, 38, .inl nf)), (m1, .inl (mc1, 8, .inl ff))] s.heap := hP
    have hl := lv_entry ([.ref h0, .int 4]) (n := 4) (Nat.le_of_ble_eq_true rfl)
    rw [lg_entry_eq]
    generalize (lg_sl ([.ref h0, .int 4]) ++ List.replicate (4 - (lg_sl ([.ref h0, .int 4])).length) Slot.unset).toArray = ls at hl ⊢
    have hl : lv_has ls 4 [(0, .ref h0), (1, .int 4)] := hl
    refine lv_iconst (v := 0) hx hb dX9_count_0 (by decide) ?_
    refine lv_istore_n (lv' := [(2, .int 0), (0, .ref h0), (1, .int 4)]) hx hb dX9_count_1 rfl hl (by decide) rfl (fun ls hl => ?_)
    refine lv_iload_n hx hb dX9_count_2 rfl (lv_at hl 2 rfl) ?_
    refine lv_tableIn (tgt := 122) hx hb dX9_count_3 (by decide) (by decide) rfl (by decide) ?_
    refine lv_aload_n hx hb dX9_count_122 rfl (lv_at hl 1 rfl) ?_
    have hPc := hP.sub (ws' := [(h0, .inr (7, [.ref m0, v1, v2, v3, v4, .ref m1, v6, v7, v8, v9, v10, .int 0, v12, v13, v14, v15, v16, v17, v18, v19, v20, v21, v22, v23, v24, v25, v26, v27])), (m0, .inl (mc0, 38, .inl nf))]) [0, 1] rfl
    have hKc := hK.sub (tys' := [(mc0, .int)]) [0] rfl
    refine vp_callSl (W.runV (As := []) (rest := []) ⟨hx, hb, hml, hown, hts⟩ (y_dark l dC dI ad h0 m0 v1 v2 v3 v4 (.ref m1) v6 v7 v8 v9 v10 (.int 0) v12 v13 v14 v15 v16 v17 v18 v19 v20 v21 v22 v23 v24 v25 v26 v27 mc0 nf hnf) (cwV 0 hts g_y_count_y_dark_146 rfl rfl rfl (by decide +kernel) ⟨(Nat.le_of_ble_eq_true rfl), (Nat.le_of_ble_eq_true rfl)⟩) ⟨preS_blind, va_recv hKc hPc (ci := 7) (q0 := 0) rfl rfl, fun U hU hW => ⟨rfl, preS_at hU hW hPc hKc hev⟩⟩ rfl rfl hl.1 rfl (lv_room (Nat.le_of_ble_eq_true rfl)) dX9_count_123 ⟨(Nat.le_of_ble_eq_true rfl), (Nat.le_of_ble_eq_true rfl)⟩) (fun r_17 hw => ?_)
    subst hw
    have hPc := hP.sub (ws' := []) [] rfl
    have hKc := hK.sub (tys' := []) [] rfl
    refine vp_callSi (W.runS (As := [.long 0]) (rest := []) ⟨hx, hb, hml, hown, hts⟩ (m_bits l dC dI ad  ) (va_cwS 1 hts g_y_count_m_bits_158 rfl rfl rfl (by decide +kernel) ⟨(Nat.le_of_ble_eq_true rfl), (Nat.le_of_ble_eq_true rfl)⟩) ⟨preS_blind, fun U hU hW => ⟨rfl, preS_at hU hW hPc hKc hev⟩⟩ rfl rfl hl.1 rfl (lv_room (Nat.le_of_ble_eq_true rfl)) dX9_count_126 ⟨(Nat.le_of_ble_eq_true rfl), (Nat.le_of_ble_eq_true rfl)⟩) (fun r_18 hw => ?_)
    subst hw
    exact W.iret (v := 0) hx hb hr (fun t ht hW => ⟨⟨0, (), rfl, ⟨(fun h => rfl), (fun g0 h => (by first | rfl | (exfalso; simp only [fa_lt, fa_le, fa_eq, and_true, true_and, and_false, false_and, not_true_eq_false, not_false_eq_true, li_0, li_1, li_2, li_3, li_4, li_5, li_6, li_7, li_8, li_9, li_10, li_12, li_15, li_16, li_20, li_30, li_34, li_38, li_40, li_63, li_64, li_65, li_78, li_120, li_1000, li_4000, li_10000, li_11077, li_255, li_65535, li_m1, li_m2, li_m1000000001, li_m1000000002, li_m1000000003, li_m1000000004, li_m1000000005, li_m1000000006, li_m1000000007] at g0 h <;> omega) | (simp only [fa_lt, fa_le, fa_eq, and_true, true_and, and_false, false_and, not_true_eq_false, not_false_eq_true, li_0, li_1, li_2, li_3, li_4, li_5, li_6, li_7, li_8, li_9, li_10, li_12, li_15, li_16, li_20, li_30, li_34, li_38, li_40, li_63, li_64, li_65, li_78, li_120, li_1000, li_4000, li_10000, li_11077, li_255, li_65535, li_m1, li_m2, li_m1000000001, li_m1000000002, li_m1000000003, li_m1000000004, li_m1000000005, li_m1000000006, li_m1000000007] at g0 h ⊢ <;> omega))), (fun g0 g1 => (by first | rfl | (exfalso; simp only [fa_lt, fa_le, fa_eq, and_true, true_and, and_false, false_and, not_true_eq_false, not_false_eq_true, li_0, li_1, li_2, li_3, li_4, li_5, li_6, li_7, li_8, li_9, li_10, li_12, li_15, li_16, li_20, li_30, li_34, li_38, li_40, li_63, li_64, li_65, li_78, li_120, li_1000, li_4000, li_10000, li_11077, li_255, li_65535, li_m1, li_m2, li_m1000000001, li_m1000000002, li_m1000000003, li_m1000000004, li_m1000000005, li_m1000000006, li_m1000000007] at g0 g1 <;> omega) | (simp only [fa_lt, fa_le, fa_eq, and_true, true_and, and_false, false_and, not_true_eq_false, not_false_eq_true, li_0, li_1, li_2, li_3, li_4, li_5, li_6, li_7, li_8, li_9, li_10, li_12, li_15, li_16, li_20, li_30, li_34, li_38, li_40, li_63, li_64, li_65, li_78, li_120, li_1000, li_4000, li_10000, li_11077, li_255, li_65535, li_m1, li_m2, li_m1000000001, li_m1000000002, li_m1000000003, li_m1000000004, li_m1000000005, li_m1000000006, li_m1000000007] at g0 g1 ⊢ <;> omega)))⟩, trivial⟩, hS.F ht⟩) hS.2.2 dX9_count_129
  · skip
    refine Met.ofW (cc := cX9_count) (maxL := 4) (ret := (some .int)) (by decide) rfl ?_
    intro p e s m args below meth c s₁ B hml hv
    obtain ⟨rfl, hsz, hP, hK, hD0, hev⟩ := hv
    have hx := B.exec
    have hb := B.bytes
    have hr := B.returns
    have hts := atoms_spec (ws := w_y_count) B.pre
    have hown : s.vm.findClass RX9 = some m.cls := findClass_of_methodNamed B.named
    have hlocks := B.notSynchronized
    have inX9 : ∀ w ∈ wsX90, w ∈ w_y_count := fun w h => List.mem_cons_of_mem _ (List.mem_append_right _ h)
    subst hsz
    have hD := hD0.self (sz := s.heap.size)
    generalize hAe : va_A [(h0, .inr (7, [.ref m0, v1, v2, v3, v4, .ref m1, v6, v7, v8, v9, v10, .int 0, v12, v13, v14, v15, v16, v17, v18, v19, v20, v21, v22, v23, v24, v25, v26, v27])), (m0, .inl (mc0, 38, .inl nf)), (m1, .inl (mc1, 8, .inl ff))] s.heap.size = A at hD ⊢
    have hA : ∀ q : Nat, s.heap.size ≤ q → A q := fun q h => by rw [← hAe]; exact Or.inr h
    have hS : va_S A s.heap s.heap [] := va_S.rf
    have hP : va_P (dC, dI) vwCl [(h0, .inr (7, [.ref m0, v1, v2, v3, v4, .ref m1, v6, v7, v8, v9, v10, .int 0, v12, v13, v14, v15, v16, v17, v18, v19, v20, v21, v22, v23, v24, v25, v26, v27])), (m0, .inl (mc0, 38, .inl nf)), (m1, .inl (mc1, 8, .inl ff))] s.heap := hP
    have hl := lv_entry ([.ref h0, .int 5]) (n := 4) (Nat.le_of_ble_eq_true rfl)
    rw [lg_entry_eq]
    generalize (lg_sl ([.ref h0, .int 5]) ++ List.replicate (4 - (lg_sl ([.ref h0, .int 5])).length) Slot.unset).toArray = ls at hl ⊢
    have hl : lv_has ls 4 [(0, .ref h0), (1, .int 5)] := hl
    refine lv_iconst (v := 0) hx hb dX9_count_0 (by decide) ?_
    refine lv_istore_n (lv' := [(2, .int 0), (0, .ref h0), (1, .int 5)]) hx hb dX9_count_1 rfl hl (by decide) rfl (fun ls hl => ?_)
    refine lv_iload_n hx hb dX9_count_2 rfl (lv_at hl 2 rfl) ?_
    refine lv_tableIn (tgt := 130) hx hb dX9_count_3 (by decide) (by decide) rfl (by decide) ?_
    refine lv_aload_n hx hb dX9_count_130 rfl (lv_at hl 1 rfl) ?_
    refine va_get (D := (dC, dI)) (ci := 7) (v := .int 0) (C := RX9) (T := TX9) (N := 28) hx hb hts inX9 hown hK hP 0 rfl rfl 11 (by decide) (hts _ (List.mem_of_getElem? (i := 24) rfl)) (fun _ h9 => h9) rfl dX9_count_131 ?_
    exact W.iret (v := 0) hx hb hr (fun t ht hW => ⟨⟨0, (), rfl, ⟨(fun h => rfl), (fun g0 h => (by first | rfl | (exfalso; simp only [fa_lt, fa_le, fa_eq, and_true, true_and, and_false, false_and, not_true_eq_false, not_false_eq_true, li_0, li_1, li_2, li_3, li_4, li_5, li_6, li_7, li_8, li_9, li_10, li_12, li_15, li_16, li_20, li_30, li_34, li_38, li_40, li_63, li_64, li_65, li_78, li_120, li_1000, li_4000, li_10000, li_11077, li_255, li_65535, li_m1, li_m2, li_m1000000001, li_m1000000002, li_m1000000003, li_m1000000004, li_m1000000005, li_m1000000006, li_m1000000007] at g0 h <;> omega) | (simp only [fa_lt, fa_le, fa_eq, and_true, true_and, and_false, false_and, not_true_eq_false, not_false_eq_true, li_0, li_1, li_2, li_3, li_4, li_5, li_6, li_7, li_8, li_9, li_10, li_12, li_15, li_16, li_20, li_30, li_34, li_38, li_40, li_63, li_64, li_65, li_78, li_120, li_1000, li_4000, li_10000, li_11077, li_255, li_65535, li_m1, li_m2, li_m1000000001, li_m1000000002, li_m1000000003, li_m1000000004, li_m1000000005, li_m1000000006, li_m1000000007] at g0 h ⊢ <;> omega))), (fun g0 g1 => (by first | rfl | (exfalso; simp only [fa_lt, fa_le, fa_eq, and_true, true_and, and_false, false_and, not_true_eq_false, not_false_eq_true, li_0, li_1, li_2, li_3, li_4, li_5, li_6, li_7, li_8, li_9, li_10, li_12, li_15, li_16, li_20, li_30, li_34, li_38, li_40, li_63, li_64, li_65, li_78, li_120, li_1000, li_4000, li_10000, li_11077, li_255, li_65535, li_m1, li_m2, li_m1000000001, li_m1000000002, li_m1000000003, li_m1000000004, li_m1000000005, li_m1000000006, li_m1000000007] at g0 g1 <;> omega) | (simp only [fa_lt, fa_le, fa_eq, and_true, true_and, and_false, false_and, not_true_eq_false, not_false_eq_true, li_0, li_1, li_2, li_3, li_4, li_5, li_6, li_7, li_8, li_9, li_10, li_12, li_15, li_16, li_20, li_30, li_34, li_38, li_40, li_63, li_64, li_65, li_78, li_120, li_1000, li_4000, li_10000, li_11077, li_255, li_65535, li_m1, li_m2, li_m1000000001, li_m1000000002, li_m1000000003, li_m1000000004, li_m1000000005, li_m1000000006, li_m1000000007] at g0 g1 ⊢ <;> omega)))⟩, trivial⟩, hS.F ht⟩) hS.2.2 dX9_count_134
  · skip
    refine Met.ofW (cc := cX9_count) (maxL := 4) (ret := (some .int)) (by decide) rfl ?_
    intro p e s m args below meth c s₁ B hml hv
    obtain ⟨rfl, hsz, hP, hK, hD0, hev⟩ := hv
    have hx := B.exec
    have hb := B.bytes
    have hr := B.returns
    have hts := atoms_spec (ws := w_y_count) B.pre
    have hown : s.vm.findClass RX9 = some m.cls := findClass_of_methodNamed B.named
    have hlocks := B.notSynchronized
    have inX9 : ∀ w ∈ wsX90, w ∈ w_y_count := fun w h => List.mem_cons_of_mem _ (List.mem_append_right _ h)
    subst hsz
    have hD := hD0.self (sz := s.heap.size)
    generalize hAe : va_A [(h0, .inr (7, [.ref m0, v1, v2, v3, v4, .ref m1, v6, v7, v8, v9, v10, .int 0, v12, v13, v14, v15, v16, v17, v18, v19, v20, v21, v22, v23, v24, v25, v26, v27])), (m0, .inl (mc0, 38, .inl nf)), (m1, .inl (mc1, 8, .inl ff))] s.heap.size = A at hD ⊢
    have hA : ∀ q : Nat, s.heap.size ≤ q → A q := fun q h => by rw [← hAe]; exact Or.inr h
    have hS : va_S A s.heap s.heap [] := va_S.rf
    have hP : va_P (dC, dI) vwCl [(h0, .inr (7, [.ref m0, v1, v2, v3, v4, .ref m1, v6, v7, v8, v9, v10, .int 0, v12, v13, v14, v15, v16, v17, v18, v19, v20, v21, v22, v23, v24, v25, v26, v27])), (m0, .inl (mc0, 38, .inl nf)), (m1, .inl (mc1, 8, .inl ff))] s.heap := hP
    have hl := lv_entry ([.ref h0, .int 6]) (n := 4) (Nat.le_of_ble_eq_true rfl)
    rw [lg_entry_eq]
    generalize (lg_sl ([.ref h0, .int 6]) ++ List.replicate (4 - (lg_sl ([.ref h0, .int 6])).length) Slot.unset).toArray = ls at hl ⊢
    have hl : lv_has ls 4 [(0, .ref h0), (1, .int 6)] := hl
    refine lv_iconst (v := 0) hx hb dX9_count_0 (by decide) ?_
    refine lv_istore_n (lv' := [(2, .int 0), (0, .ref h0), (1, .int 6)]) hx hb dX9_count_1 rfl hl (by decide) rfl (fun ls hl => ?_)
    refine lv_iload_n hx hb dX9_count_2 rfl (lv_at hl 2 rfl) ?_
    refine lv_tableIn (tgt := 135) hx hb dX9_count_3 (by decide) (by decide) rfl (by decide) ?_
    refine lv_aload_n hx hb dX9_count_135 rfl (lv_at hl 1 rfl) ?_
    refine va_get (D := (dC, dI)) (ci := 7) (v := .ref m0) (C := RX9) (T := TX9) (N := 28) hx hb hts inX9 hown hK hP 0 rfl rfl 0 (by decide) (hts _ (List.mem_of_getElem? (i := 8) rfl)) (fun _ h9 => h9) rfl dX9_count_136 ?_
    refine lv_iconst (v := 2) hx hb dX9_count_139 (by decide) ?_
    refine va_iald hx hb hK hP 1 0 rfl rfl (vp_in_nI (n := 2) (by decide) (by decide)) dX9_count_140 ?_
    refine pp_ti (y := 63) ((hnf 2 (by decide)).trans (by decide)) ?_
    exact W.iret (v := 63) hx hb hr (fun t ht hW => ⟨⟨63, (), rfl, ⟨(fun h => (by first | rfl | (exfalso; simp only [fa_lt, fa_le, fa_eq, and_true, true_and, and_false, false_and, not_true_eq_false, not_false_eq_true, li_0, li_1, li_2, li_3, li_4, li_5, li_6, li_7, li_8, li_9, li_10, li_12, li_15, li_16, li_20, li_30, li_34, li_38, li_40, li_63, li_64, li_65, li_78, li_120, li_1000, li_4000, li_10000, li_11077, li_255, li_65535, li_m1, li_m2, li_m1000000001, li_m1000000002, li_m1000000003, li_m1000000004, li_m1000000005, li_m1000000006, li_m1000000007] at h <;> omega) | (simp only [fa_lt, fa_le, fa_eq, and_true, true_and, and_false, false_and, not_true_eq_false, not_false_eq_true, li_0, li_1, li_2, li_3, li_4, li_5, li_6, li_7, li_8, li_9, li_10, li_12, li_15, li_16, li_20, li_30, li_34, li_38, li_40, li_63, li_64, li_65, li_78, li_120, li_1000, li_4000, li_10000, li_11077, li_255, li_65535, li_m1, li_m2, li_m1000000001, li_m1000000002, li_m1000000003, li_m1000000004, li_m1000000005, li_m1000000006, li_m1000000007] at h ⊢ <;> omega))), (fun g0 h => rfl), (fun g0 g1 => (by first | rfl | (exfalso; simp only [fa_lt, fa_le, fa_eq, and_true, true_and, and_false, false_and, not_true_eq_false, not_false_eq_true, li_0, li_1, li_2, li_3, li_4, li_5, li_6, li_7, li_8, li_9, li_10, li_12, li_15, li_16, li_20, li_30, li_34, li_38, li_40, li_63, li_64, li_65, li_78, li_120, li_1000, li_4000, li_10000, li_11077, li_255, li_65535, li_m1, li_m2, li_m1000000001, li_m1000000002, li_m1000000003, li_m1000000004, li_m1000000005, li_m1000000006, li_m1000000007] at g0 g1 <;> omega) | (simp only [fa_lt, fa_le, fa_eq, and_true, true_and, and_false, false_and, not_true_eq_false, not_false_eq_true, li_0, li_1, li_2, li_3, li_4, li_5, li_6, li_7, li_8, li_9, li_10, li_12, li_15, li_16, li_20, li_30, li_34, li_38, li_40, li_63, li_64, li_65, li_78, li_120, li_1000, li_4000, li_10000, li_11077, li_255, li_65535, li_m1, li_m2, li_m1000000001, li_m1000000002, li_m1000000003, li_m1000000004, li_m1000000005, li_m1000000006, li_m1000000007] at g0 g1 ⊢ <;> omega)))⟩, trivial⟩, hS.F ht⟩) hS.2.2 dX9_count_141

def w_y_status : List Cond := .code yX9_status cX9_status 2 (some .int) :: (([.methodLink RX9 75 yX9_within, .static yX9_within, .initialized RX9, .code yX9_within cX9_within 3 (some .boolean), .constant RX9 74 (-1000000001), .methodLink RX9 84 yX9_finding, .instanceMethod yX9_finding, .selects RX9 yX9_finding yX9_finding, .code yX9_finding cX9_finding 2 (some .int), .fieldLink RX9 23 "LampShapesModel" "found" "[I"] : List Cond) ++ wsX90)
set_option maxRecDepth 20000 in
theorem g_y_status_m_within_75 : GoodIn w_y_status (va_wsS RX9 75 yX9_within w_m_within) := goodIn_r _ [1, 2, 3, 4] rfl (by decide +kernel)
set_option maxRecDepth 20000 in
theorem g_y_status_m_find_beyond_84 : GoodIn w_y_status (wsV RX9 84 RX9 yX9_finding w_m_find_beyond) := goodIn_r _ [6, 7, 8, 3, 9, 10, 5, 11, 12, 13, 14, 15, 16, 17, 18, 19, 20, 21, 22, 23, 24, 25, 26, 27, 28, 29, 30, 31, 32, 33, 34, 35, 36, 37, 38] rfl (by decide +kernel)
set_option maxHeartbeats 4000000 in
set_option maxRecDepth 100000 in
theorem y_status (l : Launch) (dC : Nat → ClassId) (dI : Nat → Nat → Nat) (ad : Nat → Nat) (h0 : Nat) (a : Int32) (v0 : Value) (v1 : Value) (v2 : Value) (v3 : Value) (v4 : Value) (m1 : Nat) (v6 : Value) (v7 : Value) (v8 : Value) (v9 : Value) (v10 : Value) (v11 : Value) (v12 : Value) (v13 : Value) (v14 : Value) (v15 : Value) (v16 : Value) (v17 : Value) (v18 : Value) (v19 : Value) (v20 : Value) (v21 : Value) (v22 : Value) (v23 : Value) (v24 : Value) (v25 : Value) (v26 : Value) (v27 : Value) (mc1 : ClassId) (sz : Nat) : Met l yX9_status w_y_status ({ frames := 1, cells := 0, slots := 0, locals := 22 } : Room) (va_Pc [.ref h0, .int a] (preM dC dI ad [(mc1, .int)] [(h0, .inr (7, [v0, v1, v2, v3, v4, .ref m1, v6, v7, v8, v9, v10, v11, v12, v13, v14, v15, v16, v17, v18, v19, v20, v21, v22, v23, v24, v25, v26, v27])), (m1, .inl (mc1, 8, .inl (fun _ => 0)))] sz)) (va_Qi (fun (r : Int32) (_ : Unit) => (((-1) ≤ a ∧ a ≤ 6) → r = 0) ∧ (¬ ((-1) ≤ a ∧ a ≤ 6) → r = (-1000000001))) (fun _ _ => True) (va_A [(h0, .inr (7, [v0, v1, v2, v3, v4, .ref m1, v6, v7, v8, v9, v10, v11, v12, v13, v14, v15, v16, v17, v18, v19, v20, v21, v22, v23, v24, v25, v26, v27])), (m1, .inl (mc1, 8, .inl (fun _ => 0)))] sz)) 0 0 (va_A [(h0, .inr (7, [v0, v1, v2, v3, v4, .ref m1, v6, v7, v8, v9, v10, v11, v12, v13, v14, v15, v16, v17, v18, v19, v20, v21, v22, v23, v24, v25, v26, v27])), (m1, .inl (mc1, 8, .inl (fun _ => 0)))] sz) := by
  rcases pp_c_m1_6 a with hlt0 | hgt0 | rfl | rfl | rfl | rfl | rfl | rfl | rfl | rfl
  · skip
    refine Met.ofW (cc := cX9_status) (maxL := 2) (ret := (some .int)) (by decide) rfl ?_
    intro p e s m args below meth c s₁ B hml hv
    obtain ⟨rfl, hsz, hP, hK, hD0, hev⟩ := hv
    have hx := B.exec
    have hb := B.bytes
    have hr := B.returns
    have hts := atoms_spec (ws := w_y_status) B.pre
    have hown : s.vm.findClass RX9 = some m.cls := findClass_of_methodNamed B.named
    have hlocks := B.notSynchronized
    have inX9 : ∀ w ∈ wsX90, w ∈ w_y_status := fun w h => List.mem_cons_of_mem _ (List.mem_append_right _ h)
    subst hsz
    have hD := hD0.self (sz := s.heap.size)
    generalize hAe : va_A [(h0, .inr (7, [v0, v1, v2, v3, v4, .ref m1, v6, v7, v8, v9, v10, v11, v12, v13, v14, v15, v16, v17, v18, v19, v20, v21, v22, v23, v24, v25, v26, v27])), (m1, .inl (mc1, 8, .inl (fun _ => 0)))] s.heap.size = A at hD ⊢
    have hA : ∀ q : Nat, s.heap.size ≤ q → A q := fun q h => by rw [← hAe]; exact Or.inr h
    have hS : va_S A s.heap s.heap [] := va_S.rf
    have hP : va_P (dC, dI) vwCl [(h0, .inr (7, [v0, v1, v2, v3, v4, .ref m1, v6, v7, v8, v9, v10, v11, v12, v13, v14, v15, v16, v17, v18, v19, v20, v21, v22, v23, v24, v25, v26, v27])), (m1, .inl (mc1, 8, .inl (fun _ => 0)))] s.heap := hP
    have hl := lv_entry ([.ref h0, .int a]) (n := 2) (Nat.le_of_ble_eq_true rfl)
    rw [lg_entry_eq]
    generalize (lg_sl ([.ref h0, .int a]) ++ List.replicate (2 - (lg_sl ([.ref h0, .int a])).length) Slot.unset).toArray = ls at hl ⊢
    have hl : lv_has ls 2 [(0, .ref h0), (1, .int a)] := hl
    refine lv_iload_n hx hb dX9_status_0 rfl (lv_at hl 1 rfl) ?_
    refine lv_iconst (v := (-1)) hx hb dX9_status_1 (by decide) ?_
    refine lv_bipush (v := 6) hx hb dX9_status_2 (by decide) ?_
    have hPc := hP.sub (ws' := []) [] rfl
    have hKc := hK.sub (tys' := []) [] rfl
    refine vp_callSi (W.runS (As := [.int a, .int (-1), .int 6]) (rest := []) ⟨hx, hb, hml, hown, hts⟩ (m_within l dC dI ad a (-1) 6 ) (va_cwS 3 hts g_y_status_m_within_75 rfl rfl rfl (by decide +kernel) ⟨(Nat.le_of_ble_eq_true rfl), (Nat.le_of_ble_eq_true rfl)⟩) ⟨preS_blind, fun U hU hW => ⟨rfl, preS_at hU hW hPc hKc hev⟩⟩ rfl rfl hl.1 rfl (lv_room (Nat.le_of_ble_eq_true rfl)) dX9_status_4 ⟨(Nat.le_of_ble_eq_true rfl), (Nat.le_of_ble_eq_true rfl)⟩) (fun r_1 hw => ?_)
    by_cases c_2 : (-1) ≤ a ∧ a ≤ 6
    · skip
      exfalso; simp only [fa_lt, fa_le, fa_eq, and_true, true_and, and_false, false_and, not_true_eq_false, not_false_eq_true, li_0, li_1, li_2, li_3, li_4, li_5, li_6, li_7, li_8, li_9, li_10, li_12, li_15, li_16, li_20, li_30, li_34, li_38, li_40, li_63, li_64, li_65, li_78, li_120, li_1000, li_4000, li_10000, li_11077, li_255, li_65535, li_m1, li_m2, li_m1000000001, li_m1000000002, li_m1000000003, li_m1000000004, li_m1000000005, li_m1000000006, li_m1000000007] at hlt0 c_2 <;> omega
    · skip
      have hw := hw.2 c_2
      subst hw
      refine lv_if_eq (tgt := 21) hx hb dX9_status_7 (by decide) (fun _ => ?_) (fun c => absurd (by decide) c)
      refine lv_aload_n hx hb dX9_status_21 rfl (lv_at hl 0 rfl) ?_
      refine lv_ldc hx hb hown (hts _ (List.mem_of_getElem? (i := 5) rfl)) dX9_status_22 ?_
      have hPc := hP.sub (ws' := [(h0, .inr (7, [v0, v1, v2, v3, v4, .ref m1, v6, v7, v8, v9, v10, v11, v12, v13, v14, v15, v16, v17, v18, v19, v20, v21, v22, v23, v24, v25, v26, v27])), (m1, .inl (mc1, 8, .inl (fun _ => 0)))]) [0, 1] rfl
      have hKc := hK.sub (tys' := [(mc1, .int)]) [0] rfl
      have hDc := hD.sub (ws' := [(h0, .inr (7, [v0, v1, v2, v3, v4, .ref m1, v6, v7, v8, v9, v10, v11, v12, v13, v14, v15, v16, v17, v18, v19, v20, v21, v22, v23, v24, v25, v26, v27])), (m1, .inl (mc1, 8, .inl (fun _ => 0)))]) [0, 1] (by decide) rfl
      have hFc := va_free (wc := [(h0, .inr (7, [v0, v1, v2, v3, v4, .ref m1, v6, v7, v8, v9, v10, v11, v12, v13, v14, v15, v16, v17, v18, v19, v20, v21, v22, v23, v24, v25, v26, v27])), (m1, .inl (mc1, 8, .inl (fun _ => 0)))]) hD hS hA [0, 1] rfl
      refine va_calli (va_runV (As := [.int (-1000000001)]) (rest := []) ⟨hx, hb, hml, hown, hts⟩ (m_find_beyond l dC dI ad h0 v0 v1 v2 v3 v4 m1 v6 v7 v8 v9 v10 v11 v12 v13 v14 v15 v16 v17 v18 v19 v20 v21 v22 v23 v24 v25 v26 v27 mc1 (fun _ => 0) s.heap.size ) (cwV 1 hts g_y_status_m_find_beyond_84 rfl rfl rfl (by decide +kernel) ⟨(Nat.le_of_ble_eq_true rfl), (Nat.le_of_ble_eq_true rfl)⟩) ⟨preM_blind, va_recv hKc hPc (ci := 7) (q0 := 0) rfl rfl, fun U hU hW => ⟨rfl, preM_at hU hW hPc hKc hDc hev⟩⟩ rfl rfl hl.1 rfl (lv_room (Nat.le_of_ble_eq_true rfl)) dX9_status_24 ⟨(Nat.le_of_ble_eq_true rfl), (Nat.le_of_ble_eq_true rfl)⟩) hS (fun q _ h => hFc q h) hFc (fun r_3 u t H1 locs ht hvm hw hB hz1 hk1 hS => ?_)
      obtain ⟨hP, hD⟩ := va_join (wr := []) (w1 := []) hP hD [0, 1] [] rfl rfl (by decide) (by decide) hk1 hFc nil_P nil_D
      generalize H1 = H at hP hS ⊢
      have hP : va_P (dC, dI) vwCl [] H := hP
      have hD : va_D A [] := hD
      subst hw
      exact W.iret (v := (-1000000001)) hx hb hr (fun t ht hW => ⟨⟨(-1000000001), (), rfl, ⟨(fun h => (by first | rfl | (exfalso; simp only [fa_lt, fa_le, fa_eq, and_true, true_and, and_false, false_and, not_true_eq_false, not_false_eq_true, li_0, li_1, li_2, li_3, li_4, li_5, li_6, li_7, li_8, li_9, li_10, li_12, li_15, li_16, li_20, li_30, li_34, li_38, li_40, li_63, li_64, li_65, li_78, li_120, li_1000, li_4000, li_10000, li_11077, li_255, li_65535, li_m1, li_m2, li_m1000000001, li_m1000000002, li_m1000000003, li_m1000000004, li_m1000000005, li_m1000000006, li_m1000000007] at hlt0 c_2 h <;> omega) | (simp only [fa_lt, fa_le, fa_eq, and_true, true_and, and_false, false_and, not_true_eq_false, not_false_eq_true, li_0, li_1, li_2, li_3, li_4, li_5, li_6, li_7, li_8, li_9, li_10, li_12, li_15, li_16, li_20, li_30, li_34, li_38, li_40, li_63, li_64, li_65, li_78, li_120, li_1000, li_4000, li_10000, li_11077, li_255, li_65535, li_m1, li_m2, li_m1000000001, li_m1000000002, li_m1000000003, li_m1000000004, li_m1000000005, li_m1000000006, li_m1000000007] at hlt0 c_2 h ⊢ <;> omega))), (fun g0 => rfl)⟩, trivial⟩, hS.F ht⟩) hS.2.2 dX9_status_27
  · skip
    refine Met.ofW (cc := cX9_status) (maxL := 2) (ret := (some .int)) (by decide) rfl ?_
    intro p e s m args below meth c s₁ B hml hv
    obtain ⟨rfl, hsz, hP, hK, hD0, hev⟩ := hv
    have hx := B.exec
    have hb := B.bytes
    have hr := B.returns
    have hts := atoms_spec (ws := w_y_status) B.pre
    have hown : s.vm.findClass RX9 = some m.cls := findClass_of_methodNamed B.named
    have hlocks := B.notSynchronized
    have inX9 : ∀ w ∈ wsX90, w ∈ w_y_status := fun w h => List.mem_cons_of_mem _ (List.mem_append_right _ h)
    subst hsz
    have hD := hD0.self (sz := s.heap.size)
    generalize hAe : va_A [(h0, .inr (7, [v0, v1, v2, v3, v4, .ref m1, v6, v7, v8, v9, v10, v11, v12, v13, v14, v15, v16, v17, v18, v19, v20, v21, v22, v23, v24, v25, v26, v27])), (m1, .inl (mc1, 8, .inl (fun _ => 0)))] s.heap.size = A at hD ⊢
    have hA : ∀ q : Nat, s.heap.size ≤ q → A q := fun q h => by rw [← hAe]; exact Or.inr h
    have hS : va_S A s.heap s.heap [] := va_S.rf
    have hP : va_P (dC, dI) vwCl [(h0, .inr (7, [v0, v1, v2, v3, v4, .ref m1, v6, v7, v8, v9, v10, v11, v12, v13, v14, v15, v16, v17, v18, v19, v20, v21, v22, v23, v24, v25, v26, v27])), (m1, .inl (mc1, 8, .inl (fun _ => 0)))] s.heap := hP
    have hl := lv_entry ([.ref h0, .int a]) (n := 2) (Nat.le_of_ble_eq_true rfl)
    rw [lg_entry_eq]
    generalize (lg_sl ([.ref h0, .int a]) ++ List.replicate (2 - (lg_sl ([.ref h0, .int a])).length) Slot.unset).toArray = ls at hl ⊢
    have hl : lv_has ls 2 [(0, .ref h0), (1, .int a)] := hl
    refine lv_iload_n hx hb dX9_status_0 rfl (lv_at hl 1 rfl) ?_
    refine lv_iconst (v := (-1)) hx hb dX9_status_1 (by decide) ?_
    refine lv_bipush (v := 6) hx hb dX9_status_2 (by decide) ?_
    have hPc := hP.sub (ws' := []) [] rfl
    have hKc := hK.sub (tys' := []) [] rfl
    refine vp_callSi (W.runS (As := [.int a, .int (-1), .int 6]) (rest := []) ⟨hx, hb, hml, hown, hts⟩ (m_within l dC dI ad a (-1) 6 ) (va_cwS 3 hts g_y_status_m_within_75 rfl rfl rfl (by decide +kernel) ⟨(Nat.le_of_ble_eq_true rfl), (Nat.le_of_ble_eq_true rfl)⟩) ⟨preS_blind, fun U hU hW => ⟨rfl, preS_at hU hW hPc hKc hev⟩⟩ rfl rfl hl.1 rfl (lv_room (Nat.le_of_ble_eq_true rfl)) dX9_status_4 ⟨(Nat.le_of_ble_eq_true rfl), (Nat.le_of_ble_eq_true rfl)⟩) (fun r_4 hw => ?_)
    by_cases c_5 : (-1) ≤ a ∧ a ≤ 6
    · skip
      exfalso; simp only [fa_lt, fa_le, fa_eq, and_true, true_and, and_false, false_and, not_true_eq_false, not_false_eq_true, li_0, li_1, li_2, li_3, li_4, li_5, li_6, li_7, li_8, li_9, li_10, li_12, li_15, li_16, li_20, li_30, li_34, li_38, li_40, li_63, li_64, li_65, li_78, li_120, li_1000, li_4000, li_10000, li_11077, li_255, li_65535, li_m1, li_m2, li_m1000000001, li_m1000000002, li_m1000000003, li_m1000000004, li_m1000000005, li_m1000000006, li_m1000000007] at hgt0 c_5 <;> omega
    · skip
      have hw := hw.2 c_5
      subst hw
      refine lv_if_eq (tgt := 21) hx hb dX9_status_7 (by decide) (fun _ => ?_) (fun c => absurd (by decide) c)
      refine lv_aload_n hx hb dX9_status_21 rfl (lv_at hl 0 rfl) ?_
      refine lv_ldc hx hb hown (hts _ (List.mem_of_getElem? (i := 5) rfl)) dX9_status_22 ?_
      have hPc := hP.sub (ws' := [(h0, .inr (7, [v0, v1, v2, v3, v4, .ref m1, v6, v7, v8, v9, v10, v11, v12, v13, v14, v15, v16, v17, v18, v19, v20, v21, v22, v23, v24, v25, v26, v27])), (m1, .inl (mc1, 8, .inl (fun _ => 0)))]) [0, 1] rfl
      have hKc := hK.sub (tys' := [(mc1, .int)]) [0] rfl
      have hDc := hD.sub (ws' := [(h0, .inr (7, [v0, v1, v2, v3, v4, .ref m1, v6, v7, v8, v9, v10, v11, v12, v13, v14, v15, v16, v17, v18, v19, v20, v21, v22, v23, v24, v25, v26, v27])), (m1, .inl (mc1, 8, .inl (fun _ => 0)))]) [0, 1] (by decide) rfl
      have hFc := va_free (wc := [(h0, .inr (7, [v0, v1, v2, v3, v4, .ref m1, v6, v7, v8, v9, v10, v11, v12, v13, v14, v15, v16, v17, v18, v19, v20, v21, v22, v23, v24, v25, v26, v27])), (m1, .inl (mc1, 8, .inl (fun _ => 0)))]) hD hS hA [0, 1] rfl
      refine va_calli (va_runV (As := [.int (-1000000001)]) (rest := []) ⟨hx, hb, hml, hown, hts⟩ (m_find_beyond l dC dI ad h0 v0 v1 v2 v3 v4 m1 v6 v7 v8 v9 v10 v11 v12 v13 v14 v15 v16 v17 v18 v19 v20 v21 v22 v23 v24 v25 v26 v27 mc1 (fun _ => 0) s.heap.size ) (cwV 1 hts g_y_status_m_find_beyond_84 rfl rfl rfl (by decide +kernel) ⟨(Nat.le_of_ble_eq_true rfl), (Nat.le_of_ble_eq_true rfl)⟩) ⟨preM_blind, va_recv hKc hPc (ci := 7) (q0 := 0) rfl rfl, fun U hU hW => ⟨rfl, preM_at hU hW hPc hKc hDc hev⟩⟩ rfl rfl hl.1 rfl (lv_room (Nat.le_of_ble_eq_true rfl)) dX9_status_24 ⟨(Nat.le_of_ble_eq_true rfl), (Nat.le_of_ble_eq_true rfl)⟩) hS (fun q _ h => hFc q h) hFc (fun r_6 u t H1 locs ht hvm hw hB hz1 hk1 hS => ?_)
      obtain ⟨hP, hD⟩ := va_join (wr := []) (w1 := []) hP hD [0, 1] [] rfl rfl (by decide) (by decide) hk1 hFc nil_P nil_D
      generalize H1 = H at hP hS ⊢
      have hP : va_P (dC, dI) vwCl [] H := hP
      have hD : va_D A [] := hD
      subst hw
      exact W.iret (v := (-1000000001)) hx hb hr (fun t ht hW => ⟨⟨(-1000000001), (), rfl, ⟨(fun h => (by first | rfl | (exfalso; simp only [fa_lt, fa_le, fa_eq, and_true, true_and, and_false, false_and, not_true_eq_false, not_false_eq_true, li_0, li_1, li_2, li_3, li_4, li_5, li_6, li_7, li_8, li_9, li_10, li_12, li_15, li_16, li_20, li_30, li_34, li_38, li_40, li_63, li_64, li_65, li_78, li_120, li_1000, li_4000, li_10000, li_11077, li_255, li_65535, li_m1, li_m2, li_m1000000001, li_m1000000002, li_m1000000003, li_m1000000004, li_m1000000005, li_m1000000006, li_m1000000007] at hgt0 c_5 h <;> omega) | (simp only [fa_lt, fa_le, fa_eq, and_true, true_and, and_false, false_and, not_true_eq_false, not_false_eq_true, li_0, li_1, li_2, li_3, li_4, li_5, li_6, li_7, li_8, li_9, li_10, li_12, li_15, li_16, li_20, li_30, li_34, li_38, li_40, li_63, li_64, li_65, li_78, li_120, li_1000, li_4000, li_10000, li_11077, li_255, li_65535, li_m1, li_m2, li_m1000000001, li_m1000000002, li_m1000000003, li_m1000000004, li_m1000000005, li_m1000000006, li_m1000000007] at hgt0 c_5 h ⊢ <;> omega))), (fun g0 => rfl)⟩, trivial⟩, hS.F ht⟩) hS.2.2 dX9_status_27
  · skip
    refine Met.ofW (cc := cX9_status) (maxL := 2) (ret := (some .int)) (by decide) rfl ?_
    intro p e s m args below meth c s₁ B hml hv
    obtain ⟨rfl, hsz, hP, hK, hD0, hev⟩ := hv
    have hx := B.exec
    have hb := B.bytes
    have hr := B.returns
    have hts := atoms_spec (ws := w_y_status) B.pre
    have hown : s.vm.findClass RX9 = some m.cls := findClass_of_methodNamed B.named
    have hlocks := B.notSynchronized
    have inX9 : ∀ w ∈ wsX90, w ∈ w_y_status := fun w h => List.mem_cons_of_mem _ (List.mem_append_right _ h)
    subst hsz
    have hD := hD0.self (sz := s.heap.size)
    generalize hAe : va_A [(h0, .inr (7, [v0, v1, v2, v3, v4, .ref m1, v6, v7, v8, v9, v10, v11, v12, v13, v14, v15, v16, v17, v18, v19, v20, v21, v22, v23, v24, v25, v26, v27])), (m1, .inl (mc1, 8, .inl (fun _ => 0)))] s.heap.size = A at hD ⊢
    have hA : ∀ q : Nat, s.heap.size ≤ q → A q := fun q h => by rw [← hAe]; exact Or.inr h
    have hS : va_S A s.heap s.heap [] := va_S.rf
    have hP : va_P (dC, dI) vwCl [(h0, .inr (7, [v0, v1, v2, v3, v4, .ref m1, v6, v7, v8, v9, v10, v11, v12, v13, v14, v15, v16, v17, v18, v19, v20, v21, v22, v23, v24, v25, v26, v27])), (m1, .inl (mc1, 8, .inl (fun _ => 0)))] s.heap := hP
    have hl := lv_entry ([.ref h0, .int (-1)]) (n := 2) (Nat.le_of_ble_eq_true rfl)
    rw [lg_entry_eq]
    generalize (lg_sl ([.ref h0, .int (-1)]) ++ List.replicate (2 - (lg_sl ([.ref h0, .int (-1)])).length) Slot.unset).toArray = ls at hl ⊢
    have hl : lv_has ls 2 [(0, .ref h0), (1, .int (-1))] := hl
    refine lv_iload_n hx hb dX9_status_0 rfl (lv_at hl 1 rfl) ?_
    refine lv_iconst (v := (-1)) hx hb dX9_status_1 (by decide) ?_
    refine lv_bipush (v := 6) hx hb dX9_status_2 (by decide) ?_
    have hPc := hP.sub (ws' := []) [] rfl
    have hKc := hK.sub (tys' := []) [] rfl
    refine vp_callSi (W.runS (As := [.int (-1), .int (-1), .int 6]) (rest := []) ⟨hx, hb, hml, hown, hts⟩ (m_within l dC dI ad (-1) (-1) 6 ) (va_cwS 3 hts g_y_status_m_within_75 rfl rfl rfl (by decide +kernel) ⟨(Nat.le_of_ble_eq_true rfl), (Nat.le_of_ble_eq_true rfl)⟩) ⟨preS_blind, fun U hU hW => ⟨rfl, preS_at hU hW hPc hKc hev⟩⟩ rfl rfl hl.1 rfl (lv_room (Nat.le_of_ble_eq_true rfl)) dX9_status_4 ⟨(Nat.le_of_ble_eq_true rfl), (Nat.le_of_ble_eq_true rfl)⟩) (fun r_7 hw => ?_)
    have hw := hw.1 (by decide)
    subst hw
    refine lv_if_eq (tgt := 21) hx hb dX9_status_7 (by decide) (fun c => absurd c (by decide)) (fun _ => ?_)
    refine lv_aload_n hx hb dX9_status_10 rfl (lv_at hl 0 rfl) ?_
    refine va_get (D := (dC, dI)) (ci := 7) (v := .ref m1) (C := RX9) (T := TX9) (N := 28) hx hb hts inX9 hown hK hP 0 rfl rfl 5 (by decide) (hts _ (List.mem_of_getElem? (i := 10) rfl)) (fun _ h9 => h9) rfl dX9_status_11 ?_
    refine lv_iload_n hx hb dX9_status_14 rfl (lv_at hl 1 rfl) ?_
    refine lv_iconst (v := 1) hx hb dX9_status_15 (by decide) ?_
    refine lv_iadd hx hb dX9_status_16 ?_
    refine pp_ti (y := 0) (by decide) ?_
    refine va_iald hx hb hK hP 1 0 rfl rfl (vp_in_nI (n := 0) (by decide) (by decide)) dX9_status_17 ?_
    refine pp_ti (y := 0) (rfl) ?_
    refine lv_goto (tgt := 27) hx hb dX9_status_18 (by decide) ?_
    exact W.iret (v := 0) hx hb hr (fun t ht hW => ⟨⟨0, (), rfl, ⟨(fun h => rfl), (fun g0 => (by first | rfl | (exfalso; simp only [fa_lt, fa_le, fa_eq, and_true, true_and, and_false, false_and, not_true_eq_false, not_false_eq_true, li_0, li_1, li_2, li_3, li_4, li_5, li_6, li_7, li_8, li_9, li_10, li_12, li_15, li_16, li_20, li_30, li_34, li_38, li_40, li_63, li_64, li_65, li_78, li_120, li_1000, li_4000, li_10000, li_11077, li_255, li_65535, li_m1, li_m2, li_m1000000001, li_m1000000002, li_m1000000003, li_m1000000004, li_m1000000005, li_m1000000006, li_m1000000007] at g0 <;> omega) | (simp only [fa_lt, fa_le, fa_eq, and_true, true_and, and_false, false_and, not_true_eq_false, not_false_eq_true, li_0, li_1, li_2, li_3, li_4, li_5, li_6, li_7, li_8, li_9, li_10, li_12, li_15, li_16, li_20, li_30, li_34, li_38, li_40, li_63, li_64, li_65, li_78, li_120, li_1000, li_4000, li_10000, li_11077, li_255, li_65535, li_m1, li_m2, li_m1000000001, li_m1000000002, li_m1000000003, li_m1000000004, li_m1000000005, li_m1000000006, li_m1000000007] at g0 ⊢ <;> omega)))⟩, trivial⟩, hS.F ht⟩) hS.2.2 dX9_status_27
  · skip
    refine Met.ofW (cc := cX9_status) (maxL := 2) (ret := (some .int)) (by decide) rfl ?_
    intro p e s m args below meth c s₁ B hml hv
    obtain ⟨rfl, hsz, hP, hK, hD0, hev⟩ := hv
    have hx := B.exec
    have hb := B.bytes
    have hr := B.returns
    have hts := atoms_spec (ws := w_y_status) B.pre
    have hown : s.vm.findClass RX9 = some m.cls := findClass_of_methodNamed B.named
    have hlocks := B.notSynchronized
    have inX9 : ∀ w ∈ wsX90, w ∈ w_y_status := fun w h => List.mem_cons_of_mem _ (List.mem_append_right _ h)
    subst hsz
    have hD := hD0.self (sz := s.heap.size)
    generalize hAe : va_A [(h0, .inr (7, [v0, v1, v2, v3, v4, .ref m1, v6, v7, v8, v9, v10, v11, v12, v13, v14, v15, v16, v17, v18, v19, v20, v21, v22, v23, v24, v25, v26, v27])), (m1, .inl (mc1, 8, .inl (fun _ => 0)))] s.heap.size = A at hD ⊢
    have hA : ∀ q : Nat, s.heap.size ≤ q → A q := fun q h => by rw [← hAe]; exact Or.inr h
    have hS : va_S A s.heap s.heap [] := va_S.rf
    have hP : va_P (dC, dI) vwCl [(h0, .inr (7, [v0, v1, v2, v3, v4, .ref m1, v6, v7, v8, v9, v10, v11, v12, v13, v14, v15, v16, v17, v18, v19, v20, v21, v22, v23, v24, v25, v26, v27])), (m1, .inl (mc1, 8, .inl (fun _ => 0)))] s.heap := hP
    have hl := lv_entry ([.ref h0, .int 0]) (n := 2) (Nat.le_of_ble_eq_true rfl)
    rw [lg_entry_eq]
    generalize (lg_sl ([.ref h0, .int 0]) ++ List.replicate (2 - (lg_sl ([.ref h0, .int 0])).length) Slot.unset).toArray = ls at hl ⊢
    have hl : lv_has ls 2 [(0, .ref h0), (1, .int 0)] := hl
    refine lv_iload_n hx hb dX9_status_0 rfl (lv_at hl 1 rfl) ?_
    refine lv_iconst (v := (-1)) hx hb dX9_status_1 (by decide) ?_
    refine lv_bipush (v := 6) hx hb dX9_status_2 (by decide) ?_
    have hPc := hP.sub (ws' := []) [] rfl
    have hKc := hK.sub (tys' := []) [] rfl
    refine vp_callSi (W.runS (As := [.int 0, .int (-1), .int 6]) (rest := []) ⟨hx, hb, hml, hown, hts⟩ (m_within l dC dI ad 0 (-1) 6 ) (va_cwS 3 hts g_y_status_m_within_75 rfl rfl rfl (by decide +kernel) ⟨(Nat.le_of_ble_eq_true rfl), (Nat.le_of_ble_eq_true rfl)⟩) ⟨preS_blind, fun U hU hW => ⟨rfl, preS_at hU hW hPc hKc hev⟩⟩ rfl rfl hl.1 rfl (lv_room (Nat.le_of_ble_eq_true rfl)) dX9_status_4 ⟨(Nat.le_of_ble_eq_true rfl), (Nat.le_of_ble_eq_true rfl)⟩) (fun r_8 hw => ?_)
    have hw := hw.1 (by decide)
    subst hw
    refine lv_if_eq (tgt := 21) hx hb dX9_status_7 (by decide) (fun c => absurd c (by decide)) (fun _ => ?_)
    refine lv_aload_n hx hb dX9_status_10 rfl (lv_at hl 0 rfl) ?_
    refine va_get (D := (dC, dI)) (ci := 7) (v := .ref m1) (C := RX9) (T := TX9) (N := 28) hx hb hts inX9 hown hK hP 0 rfl rfl 5 (by decide) (hts _ (List.mem_of_getElem? (i := 10) rfl)) (fun _ h9 => h9) rfl dX9_status_11 ?_
    refine lv_iload_n hx hb dX9_status_14 rfl (lv_at hl 1 rfl) ?_
    refine lv_iconst (v := 1) hx hb dX9_status_15 (by decide) ?_
    refine lv_iadd hx hb dX9_status_16 ?_
    refine pp_ti (y := 1) (by decide) ?_
    refine va_iald hx hb hK hP 1 0 rfl rfl (vp_in_nI (n := 1) (by decide) (by decide)) dX9_status_17 ?_
    refine pp_ti (y := 0) (rfl) ?_
    refine lv_goto (tgt := 27) hx hb dX9_status_18 (by decide) ?_
    exact W.iret (v := 0) hx hb hr (fun t ht hW => ⟨⟨0, (), rfl, ⟨(fun h => rfl), (fun g0 => (by first | rfl | (exfalso; simp only [fa_lt, fa_le, fa_eq, and_true, true_and, and_false, false_and, not_true_eq_false, not_false_eq_true, li_0, li_1, li_2, li_3, li_4, li_5, li_6, li_7, li_8, li_9, li_10, li_12, li_15, li_16, li_20, li_30, li_34, li_38, li_40, li_63, li_64, li_65, li_78, li_120, li_1000, li_4000, li_10000, li_11077, li_255, li_65535, li_m1, li_m2, li_m1000000001, li_m1000000002, li_m1000000003, li_m1000000004, li_m1000000005, li_m1000000006, li_m1000000007] at g0 <;> omega) | (simp only [fa_lt, fa_le, fa_eq, and_true, true_and, and_false, false_and, not_true_eq_false, not_false_eq_true, li_0, li_1, li_2, li_3, li_4, li_5, li_6, li_7, li_8, li_9, li_10, li_12, li_15, li_16, li_20, li_30, li_34, li_38, li_40, li_63, li_64, li_65, li_78, li_120, li_1000, li_4000, li_10000, li_11077, li_255, li_65535, li_m1, li_m2, li_m1000000001, li_m1000000002, li_m1000000003, li_m1000000004, li_m1000000005, li_m1000000006, li_m1000000007] at g0 ⊢ <;> omega)))⟩, trivial⟩, hS.F ht⟩) hS.2.2 dX9_status_27
  · skip
    refine Met.ofW (cc := cX9_status) (maxL := 2) (ret := (some .int)) (by decide) rfl ?_
    intro p e s m args below meth c s₁ B hml hv
    obtain ⟨rfl, hsz, hP, hK, hD0, hev⟩ := hv
    have hx := B.exec
    have hb := B.bytes
    have hr := B.returns
    have hts := atoms_spec (ws := w_y_status) B.pre
    have hown : s.vm.findClass RX9 = some m.cls := findClass_of_methodNamed B.named
    have hlocks := B.notSynchronized
    have inX9 : ∀ w ∈ wsX90, w ∈ w_y_status := fun w h => List.mem_cons_of_mem _ (List.mem_append_right _ h)
    subst hsz
    have hD := hD0.self (sz := s.heap.size)
    generalize hAe : va_A [(h0, .inr (7, [v0, v1, v2, v3, v4, .ref m1, v6, v7, v8, v9, v10, v11, v12, v13, v14, v15, v16, v17, v18, v19, v20, v21, v22, v23, v24, v25, v26, v27])), (m1, .inl (mc1, 8, .inl (fun _ => 0)))] s.heap.size = A at hD ⊢
    have hA : ∀ q : Nat, s.heap.size ≤ q → A q := fun q h => by rw [← hAe]; exact Or.inr h
    have hS : va_S A s.heap s.heap [] := va_S.rf
    have hP : va_P (dC, dI) vwCl [(h0, .inr (7, [v0, v1, v2, v3, v4, .ref m1, v6, v7, v8, v9, v10, v11, v12, v13, v14, v15, v16, v17, v18, v19, v20, v21, v22, v23, v24, v25, v26, v27])), (m1, .inl (mc1, 8, .inl (fun _ => 0)))] s.heap := hP
    have hl := lv_entry ([.ref h0, .int 1]) (n := 2) (Nat.le_of_ble_eq_true rfl)
    rw [lg_entry_eq]
    generalize (lg_sl ([.ref h0, .int 1]) ++ List.replicate (2 - (lg_sl ([.ref h0, .int 1])).length) Slot.unset).toArray = ls at hl ⊢
    have hl : lv_has ls 2 [(0, .ref h0), (1, .int 1)] := hl
    refine lv_iload_n hx hb dX9_status_0 rfl (lv_at hl 1 rfl) ?_
    refine lv_iconst (v := (-1)) hx hb dX9_status_1 (by decide) ?_
    refine lv_bipush (v := 6) hx hb dX9_status_2 (by decide) ?_
    have hPc := hP.sub (ws' := []) [] rfl
    have hKc := hK.sub (tys' := []) [] rfl
    refine vp_callSi (W.runS (As := [.int 1, .int (-1), .int 6]) (rest := []) ⟨hx, hb, hml, hown, hts⟩ (m_within l dC dI ad 1 (-1) 6 ) (va_cwS 3 hts g_y_status_m_within_75 rfl rfl rfl (by decide +kernel) ⟨(Nat.le_of_ble_eq_true rfl), (Nat.le_of_ble_eq_true rfl)⟩) ⟨preS_blind, fun U hU hW => ⟨rfl, preS_at hU hW hPc hKc hev⟩⟩ rfl rfl hl.1 rfl (lv_room (Nat.le_of_ble_eq_true rfl)) dX9_status_4 ⟨(Nat.le_of_ble_eq_true rfl), (Nat.le_of_ble_eq_true rfl)⟩) (fun r_9 hw => ?_)
    have hw := hw.1 (by decide)
    subst hw
    refine lv_if_eq (tgt := 21) hx hb dX9_status_7 (by decide) (fun c => absurd c (by decide)) (fun _ => ?_)
    refine lv_aload_n hx hb dX9_status_10 rfl (lv_at hl 0 rfl) ?_
    refine va_get (D := (dC, dI)) (ci := 7) (v := .ref m1) (C := RX9) (T := TX9) (N := 28) hx hb hts inX9 hown hK hP 0 rfl rfl 5 (by decide) (hts _ (List.mem_of_getElem? (i := 10) rfl)) (fun _ h9 => h9) rfl dX9_status_11 ?_
    refine lv_iload_n hx hb dX9_status_14 rfl (lv_at hl 1 rfl) ?_
    refine lv_iconst (v := 1) hx hb dX9_status_15 (by decide) ?_
    refine lv_iadd hx hb dX9_status_16 ?_
    refine pp_ti (y := 2) (by decide) ?_
    refine va_iald hx hb hK hP 1 0 rfl rfl (vp_in_nI (n := 2) (by decide) (by decide)) dX9_status_17 ?_
    refine pp_ti (y := 0) (rfl) ?_
    refine lv_goto (tgt := 27) hx hb dX9_status_18 (by decide) ?_
    exact W.iret (v := 0) hx hb hr (fun t ht hW => ⟨⟨0, (), rfl, ⟨(fun h => rfl), (fun g0 => (by first | rfl | (exfalso; simp only [fa_lt, fa_le, fa_eq, and_true, true_and, and_false, false_and, not_true_eq_false, not_false_eq_true, li_0, li_1, li_2, li_3, li_4, li_5, li_6, li_7, li_8, li_9, li_10, li_12, li_15, li_16, li_20, li_30, li_34, li_38, li_40, li_63, li_64, li_65, li_78, li_120, li_1000, li_4000, li_10000, li_11077, li_255, li_65535, li_m1, li_m2, li_m1000000001, li_m1000000002, li_m1000000003, li_m1000000004, li_m1000000005, li_m1000000006, li_m1000000007] at g0 <;> omega) | (simp only [fa_lt, fa_le, fa_eq, and_true, true_and, and_false, false_and, not_true_eq_false, not_false_eq_true, li_0, li_1, li_2, li_3, li_4, li_5, li_6, li_7, li_8, li_9, li_10, li_12, li_15, li_16, li_20, li_30, li_34, li_38, li_40, li_63, li_64, li_65, li_78, li_120, li_1000, li_4000, li_10000, li_11077, li_255, li_65535, li_m1, li_m2, li_m1000000001, li_m1000000002, li_m1000000003, li_m1000000004, li_m1000000005, li_m1000000006, li_m1000000007] at g0 ⊢ <;> omega)))⟩, trivial⟩, hS.F ht⟩) hS.2.2 dX9_status_27
  · skip
    refine Met.ofW (cc := cX9_status) (maxL := 2) (ret := (some .int)) (by decide) rfl ?_
    intro p e s m args below meth c s₁ B hml hv
    obtain ⟨rfl, hsz, hP, hK, hD0, hev⟩ := hv
    have hx := B.exec
    have hb := B.bytes
    have hr := B.returns
    have hts := atoms_spec (ws := w_y_status) B.pre
    have hown : s.vm.findClass RX9 = some m.cls := findClass_of_methodNamed B.named
    have hlocks := B.notSynchronized
    have inX9 : ∀ w ∈ wsX90, w ∈ w_y_status := fun w h => List.mem_cons_of_mem _ (List.mem_append_right _ h)
    subst hsz
    have hD := hD0.self (sz := s.heap.size)
    generalize hAe : va_A [(h0, .inr (7, [v0, v1, v2, v3, v4, .ref m1, v6, v7, v8, v9, v10, v11, v12, v13, v14, v15, v16, v17, v18, v19, v20, v21, v22, v23, v24, v25, v26, v27])), (m1, .inl (mc1, 8, .inl (fun _ => 0)))] s.heap.size = A at hD ⊢
    have hA : ∀ q : Nat, s.heap.size ≤ q → A q := fun q h => by rw [← hAe]; exact Or.inr h
    have hS : va_S A s.heap s.heap [] := va_S.rf
    have hP : va_P (dC, dI) vwCl [(h0, .inr (7, [v0, v1, v2, v3, v4, .ref m1, v6, v7, v8, v9, v10, v11, v12, v13, v14, v15, v16, v17, v18, v19, v20, v21, v22, v23, v24, v25, v26, v27])), (m1, .inl (mc1, 8, .inl (fun _ => 0)))] s.heap := hP
    have hl := lv_entry ([.ref h0, .int 2]) (n := 2) (Nat.le_of_ble_eq_true rfl)
    rw [lg_entry_eq]
    generalize (lg_sl ([.ref h0, .int 2]) ++ List.replicate (2 - (lg_sl ([.ref h0, .int 2])).length) Slot.unset).toArray = ls at hl ⊢
    have hl : lv_has ls 2 [(0, .ref h0), (1, .int 2)] := hl
    refine lv_iload_n hx hb dX9_status_0 rfl (lv_at hl 1 rfl) ?_
    refine lv_iconst (v := (-1)) hx hb dX9_status_1 (by decide) ?_
    refine lv_bipush (v := 6) hx hb dX9_status_2 (by decide) ?_
    have hPc := hP.sub (ws' := []) [] rfl
    have hKc := hK.sub (tys' := []) [] rfl
    refine vp_callSi (W.runS (As := [.int 2, .int (-1), .int 6]) (rest := []) ⟨hx, hb, hml, hown, hts⟩ (m_within l dC dI ad 2 (-1) 6 ) (va_cwS 3 hts g_y_status_m_within_75 rfl rfl rfl (by decide +kernel) ⟨(Nat.le_of_ble_eq_true rfl), (Nat.le_of_ble_eq_true rfl)⟩) ⟨preS_blind, fun U hU hW => ⟨rfl, preS_at hU hW hPc hKc hev⟩⟩ rfl rfl hl.1 rfl (lv_room (Nat.le_of_ble_eq_true rfl)) dX9_status_4 ⟨(Nat.le_of_ble_eq_true rfl), (Nat.le_of_ble_eq_true rfl)⟩) (fun r_10 hw => ?_)
    have hw := hw.1 (by decide)
    subst hw
    refine lv_if_eq (tgt := 21) hx hb dX9_status_7 (by decide) (fun c => absurd c (by decide)) (fun _ => ?_)
    refine lv_aload_n hx hb dX9_status_10 rfl (lv_at hl 0 rfl) ?_
    refine va_get (D := (dC, dI)) (ci := 7) (v := .ref m1) (C := RX9) (T := TX9) (N := 28) hx hb hts inX9 hown hK hP 0 rfl rfl 5 (by decide) (hts _ (List.mem_of_getElem? (i := 10) rfl)) (fun _ h9 => h9) rfl dX9_status_11 ?_
    refine lv_iload_n hx hb dX9_status_14 rfl (lv_at hl 1 rfl) ?_
    refine lv_iconst (v := 1) hx hb dX9_status_15 (by decide) ?_
    refine lv_iadd hx hb dX9_status_16 ?_
    refine pp_ti (y := 3) (by decide) ?_
    refine va_iald hx hb hK hP 1 0 rfl rfl (vp_in_nI (n := 3) (by decide) (by decide)) dX9_status_17 ?_
    refine pp_ti (y := 0) (rfl) ?_
    refine lv_goto (tgt := 27) hx hb dX9_status_18 (by decide) ?_
    exact W.iret (v := 0) hx hb hr (fun t ht hW => ⟨⟨0, (), rfl, ⟨(fun h => rfl), (fun g0 => (by first | rfl | (exfalso; simp only [fa_lt, fa_le, fa_eq, and_true, true_and, and_false, false_and, not_true_eq_false, not_false_eq_true, li_0, li_1, li_2, li_3, li_4, li_5, li_6, li_7, li_8, li_9, li_10, li_12, li_15, li_16, li_20, li_30, li_34, li_38, li_40, li_63, li_64, li_65, li_78, li_120, li_1000, li_4000, li_10000, li_11077, li_255, li_65535, li_m1, li_m2, li_m1000000001, li_m1000000002, li_m1000000003, li_m1000000004, li_m1000000005, li_m1000000006, li_m1000000007] at g0 <;> omega) | (simp only [fa_lt, fa_le, fa_eq, and_true, true_and, and_false, false_and, not_true_eq_false, not_false_eq_true, li_0, li_1, li_2, li_3, li_4, li_5, li_6, li_7, li_8, li_9, li_10, li_12, li_15, li_16, li_20, li_30, li_34, li_38, li_40, li_63, li_64, li_65, li_78, li_120, li_1000, li_4000, li_10000, li_11077, li_255, li_65535, li_m1, li_m2, li_m1000000001, li_m1000000002, li_m1000000003, li_m1000000004, li_m1000000005, li_m1000000006, li_m1000000007] at g0 ⊢ <;> omega)))⟩, trivial⟩, hS.F ht⟩) hS.2.2 dX9_status_27
  · skip
    refine Met.ofW (cc := cX9_status) (maxL := 2) (ret := (some .int)) (by decide) rfl ?_
    intro p e s m args below meth c s₁ B hml hv
    obtain ⟨rfl, hsz, hP, hK, hD0, hev⟩ := hv
    have hx := B.exec
    have hb := B.bytes
    have hr := B.returns
    have hts := atoms_spec (ws := w_y_status) B.pre
    have hown : s.vm.findClass RX9 = some m.cls := findClass_of_methodNamed B.named
    have hlocks := B.notSynchronized
    have inX9 : ∀ w ∈ wsX90, w ∈ w_y_status := fun w h => List.mem_cons_of_mem _ (List.mem_append_right _ h)
    subst hsz
    have hD := hD0.self (sz := s.heap.size)
    generalize hAe : va_A [(h0, .inr (7, [v0, v1, v2, v3, v4, .ref m1, v6, v7, v8, v9, v10, v11, v12, v13, v14, v15, v16, v17, v18, v19, v20, v21, v22, v23, v24, v25, v26, v27])), (m1, .inl (mc1, 8, .inl (fun _ => 0)))] s.heap.size = A at hD ⊢
    have hA : ∀ q : Nat, s.heap.size ≤ q → A q := fun q h => by rw [← hAe]; exact Or.inr h
    have hS : va_S A s.heap s.heap [] := va_S.rf
    have hP : va_P (dC, dI) vwCl [(h0, .inr (7, [v0, v1, v2, v3, v4, .ref m1, v6, v7, v8, v9, v10, v11, v12, v13, v14, v15, v16, v17, v18, v19, v20, v21, v22, v23, v24, v25, v26, v27])), (m1, .inl (mc1, 8, .inl (fun _ => 0)))] s.heap := hP
    have hl := lv_entry ([.ref h0, .int 3]) (n := 2) (Nat.le_of_ble_eq_true rfl)
    rw [lg_entry_eq]
    generalize (lg_sl ([.ref h0, .int 3]) ++ List.replicate (2 - (lg_sl ([.ref h0, .int 3])).length) Slot.unset).toArray = ls at hl ⊢
    have hl : lv_has ls 2 [(0, .ref h0), (1, .int 3)] := hl
    refine lv_iload_n hx hb dX9_status_0 rfl (lv_at hl 1 rfl) ?_
    refine lv_iconst (v := (-1)) hx hb dX9_status_1 (by decide) ?_
    refine lv_bipush (v := 6) hx hb dX9_status_2 (by decide) ?_
    have hPc := hP.sub (ws' := []) [] rfl
    have hKc := hK.sub (tys' := []) [] rfl
    refine vp_callSi (W.runS (As := [.int 3, .int (-1), .int 6]) (rest := []) ⟨hx, hb, hml, hown, hts⟩ (m_within l dC dI ad 3 (-1) 6 ) (va_cwS 3 hts g_y_status_m_within_75 rfl rfl rfl (by decide +kernel) ⟨(Nat.le_of_ble_eq_true rfl), (Nat.le_of_ble_eq_true rfl)⟩) ⟨preS_blind, fun U hU hW => ⟨rfl, preS_at hU hW hPc hKc hev⟩⟩ rfl rfl hl.1 rfl (lv_room (Nat.le_of_ble_eq_true rfl)) dX9_status_4 ⟨(Nat.le_of_ble_eq_true rfl), (Nat.le_of_ble_eq_true rfl)⟩) (fun r_11 hw => ?_)
    have hw := hw.1 (by decide)
    subst hw
    refine lv_if_eq (tgt := 21) hx hb dX9_status_7 (by decide) (fun c => absurd c (by decide)) (fun _ => ?_)
    refine lv_aload_n hx hb dX9_status_10 rfl (lv_at hl 0 rfl) ?_
    refine va_get (D := (dC, dI)) (ci := 7) (v := .ref m1) (C := RX9) (T := TX9) (N := 28) hx hb hts inX9 hown hK hP 0 rfl rfl 5 (by decide) (hts _ (List.mem_of_getElem? (i := 10) rfl)) (fun _ h9 => h9) rfl dX9_status_11 ?_
    refine lv_iload_n hx hb dX9_status_14 rfl (lv_at hl 1 rfl) ?_
    refine lv_iconst (v := 1) hx hb dX9_status_15 (by decide) ?_
    refine lv_iadd hx hb dX9_status_16 ?_
    refine pp_ti (y := 4) (by decide) ?_
    refine va_iald hx hb hK hP 1 0 rfl rfl (vp_in_nI (n := 4) (by decide) (by decide)) dX9_status_17 ?_
    refine pp_ti (y := 0) (rfl) ?_
    refine lv_goto (tgt := 27) hx hb dX9_status_18 (by decide) ?_
    exact W.iret (v := 0) hx hb hr (fun t ht hW => ⟨⟨0, (), rfl, ⟨(fun h => rfl), (fun g0 => (by first | rfl | (exfalso; simp only [fa_lt, fa_le, fa_eq, and_true, true_and, and_false, false_and, not_true_eq_false, not_false_eq_true, li_0, li_1, li_2, li_3, li_4, li_5, li_6, li_7, li_8, li_9, li_10, li_12, li_15, li_16, li_20, li_30, li_34, li_38, li_40, li_63, li_64, li_65, li_78, li_120, li_1000, li_4000, li_10000, li_11077, li_255, li_65535, li_m1, li_m2, li_m1000000001, li_m1000000002, li_m1000000003, li_m1000000004, li_m1000000005, li_m1000000006, li_m1000000007] at g0 <;> omega) | (simp only [fa_lt, fa_le, fa_eq, and_true, true_and, and_false, false_and, not_true_eq_false, not_false_eq_true, li_0, li_1, li_2, li_3, li_4, li_5, li_6, li_7, li_8, li_9, li_10, li_12, li_15, li_16, li_20, li_30, li_34, li_38, li_40, li_63, li_64, li_65, li_78, li_120, li_1000, li_4000, li_10000, li_11077, li_255, li_65535, li_m1, li_m2, li_m1000000001, li_m1000000002, li_m1000000003, li_m1000000004, li_m1000000005, li_m1000000006, li_m1000000007] at g0 ⊢ <;> omega)))⟩, trivial⟩, hS.F ht⟩) hS.2.2 dX9_status_27
  · skip
    refine Met.ofW (cc := cX9_status) (maxL := 2) (ret := (some .int)) (by decide) rfl ?_
    intro p e s m args below meth c s₁ B hml hv
    obtain ⟨rfl, hsz, hP, hK, hD0, hev⟩ := hv
    have hx := B.exec
    have hb := B.bytes
    have hr := B.returns
    have hts := atoms_spec (ws := w_y_status) B.pre
    have hown : s.vm.findClass RX9 = some m.cls := findClass_of_methodNamed B.named
    have hlocks := B.notSynchronized
    have inX9 : ∀ w ∈ wsX90, w ∈ w_y_status := fun w h => List.mem_cons_of_mem _ (List.mem_append_right _ h)
    subst hsz
    have hD := hD0.self (sz := s.heap.size)
    generalize hAe : va_A [(h0, .inr (7, [v0, v1, v2, v3, v4, .ref m1, v6, v7, v8, v9, v10, v11, v12, v13, v14, v15, v16, v17, v18, v19, v20, v21, v22, v23, v24, v25, v26, v27])), (m1, .inl (mc1, 8, .inl (fun _ => 0)))] s.heap.size = A at hD ⊢
    have hA : ∀ q : Nat, s.heap.size ≤ q → A q := fun q h => by rw [← hAe]; exact Or.inr h
    have hS : va_S A s.heap s.heap [] := va_S.rf
    have hP : va_P (dC, dI) vwCl [(h0, .inr (7, [v0, v1, v2, v3, v4, .ref m1, v6, v7, v8, v9, v10, v11, v12, v13, v14, v15, v16, v17, v18, v19, v20, v21, v22, v23, v24, v25, v26, v27])), (m1, .inl (mc1, 8, .inl (fun _ => 0)))] s.heap := hP
    have hl := lv_entry ([.ref h0, .int 4]) (n := 2) (Nat.le_of_ble_eq_true rfl)
    rw [lg_entry_eq]
    generalize (lg_sl ([.ref h0, .int 4]) ++ List.replicate (2 - (lg_sl ([.ref h0, .int 4])).length) Slot.unset).toArray = ls at hl ⊢
    have hl : lv_has ls 2 [(0, .ref h0), (1, .int 4)] := hl
    refine lv_iload_n hx hb dX9_status_0 rfl (lv_at hl 1 rfl) ?_
    refine lv_iconst (v := (-1)) hx hb dX9_status_1 (by decide) ?_
    refine lv_bipush (v := 6) hx hb dX9_status_2 (by decide) ?_
    have hPc := hP.sub (ws' := []) [] rfl
    have hKc := hK.sub (tys' := []) [] rfl
    refine vp_callSi (W.runS (As := [.int 4, .int (-1), .int 6]) (rest := []) ⟨hx, hb, hml, hown, hts⟩ (m_within l dC dI ad 4 (-1) 6 ) (va_cwS 3 hts g_y_status_m_within_75 rfl rfl rfl (by decide +kernel) ⟨(Nat.le_of_ble_eq_true rfl), (Nat.le_of_ble_eq_true rfl)⟩) ⟨preS_blind, fun U hU hW => ⟨rfl, preS_at hU hW hPc hKc hev⟩⟩ rfl rfl hl.1 rfl (lv_room (Nat.le_of_ble_eq_true rfl)) dX9_status_4 ⟨(Nat.le_of_ble_eq_true rfl), (Nat.le_of_ble_eq_true rfl)⟩) (fun r_12 hw => ?_)
    have hw := hw.1 (by decide)
    subst hw
    refine lv_if_eq (tgt := 21) hx hb dX9_status_7 (by decide) (fun c => absurd c (by decide)) (fun _ => ?_)
    refine lv_aload_n hx hb dX9_status_10 rfl (lv_at hl 0 rfl) ?_
    refine va_get (D := (dC, dI)) (ci := 7) (v := .ref m1) (C := RX9) (T := TX9) (N := 28) hx hb hts inX9 hown hK hP 0 rfl rfl 5 (by decide) (hts _ (List.mem_of_getElem? (i := 10) rfl)) (fun _ h9 => h9) rfl dX9_status_11 ?_
    refine lv_iload_n hx hb dX9_status_14 rfl (lv_at hl 1 rfl) ?_
    refine lv_iconst (v := 1) hx hb dX9_status_15 (by decide) ?_
    refine lv_iadd hx hb dX9_status_16 ?_
    refine pp_ti (y := 5) (by decide) ?_
    refine va_iald hx hb hK hP 1 0 rfl rfl (vp_in_nI (n := 5) (by decide) (by decide)) dX9_status_17 ?_
    refine pp_ti (y := 0) (rfl) ?_
    refine lv_goto (tgt := 27) hx hb dX9_status_18 (by decide) ?_
    exact W.iret (v := 0) hx hb hr (fun t ht hW => ⟨⟨0, (), rfl, ⟨(fun h => rfl), (fun g0 => (by first | rfl | (exfalso; simp only [fa_lt, fa_le, fa_eq, and_true, true_and, and_false, false_and, not_true_eq_false, not_false_eq_true, li_0, li_1, li_2, li_3, li_4, li_5, li_6, li_7, li_8, li_9, li_10, li_12, li_15, li_16, li_20, li_30, li_34, li_38, li_40, li_63, li_64, li_65, li_78, li_120, li_1000, li_4000, li_10000, li_11077, li_255, li_65535, li_m1, li_m2, li_m1000000001, li_m1000000002, li_m1000000003, li_m1000000004, li_m1000000005, li_m1000000006, li_m1000000007] at g0 <;> omega) | (simp only [fa_lt, fa_le, fa_eq, and_true, true_and, and_false, false_and, not_true_eq_false, not_false_eq_true, li_0, li_1, li_2, li_3, li_4, li_5, li_6, li_7, li_8, li_9, li_10, li_12, li_15, li_16, li_20, li_30, li_34, li_38, li_40, li_63, li_64, li_65, li_78, li_120, li_1000, li_4000, li_10000, li_11077, li_255, li_65535, li_m1, li_m2, li_m1000000001, li_m1000000002, li_m1000000003, li_m1000000004, li_m1000000005, li_m1000000006, li_m1000000007] at g0 ⊢ <;> omega)))⟩, trivial⟩, hS.F ht⟩) hS.2.2 dX9_status_27
  · skip
    refine Met.ofW (cc := cX9_status) (maxL := 2) (ret := (some .int)) (by decide) rfl ?_
    intro p e s m args below meth c s₁ B hml hv
    obtain ⟨rfl, hsz, hP, hK, hD0, hev⟩ := hv
    have hx := B.exec
    have hb := B.bytes
    have hr := B.returns
    have hts := atoms_spec (ws := w_y_status) B.pre
    have hown : s.vm.findClass RX9 = some m.cls := findClass_of_methodNamed B.named
    have hlocks := B.notSynchronized
    have inX9 : ∀ w ∈ wsX90, w ∈ w_y_status := fun w h => List.mem_cons_of_mem _ (List.mem_append_right _ h)
    subst hsz
    have hD := hD0.self (sz := s.heap.size)
    generalize hAe : va_A [(h0, .inr (7, [v0, v1, v2, v3, v4, .ref m1, v6, v7, v8, v9, v10, v11, v12, v13, v14, v15, v16, v17, v18, v19, v20, v21, v22, v23, v24, v25, v26, v27])), (m1, .inl (mc1, 8, .inl (fun _ => 0)))] s.heap.size = A at hD ⊢
    have hA : ∀ q : Nat, s.heap.size ≤ q → A q := fun q h => by rw [← hAe]; exact Or.inr h
    have hS : va_S A s.heap s.heap [] := va_S.rf
    have hP : va_P (dC, dI) vwCl [(h0, .inr (7, [v0, v1, v2, v3, v4, .ref m1, v6, v7, v8, v9, v10, v11, v12, v13, v14, v15, v16, v17, v18, v19, v20, v21, v22, v23, v24, v25, v26, v27])), (m1, .inl (mc1, 8, .inl (fun _ => 0)))] s.heap := hP
    have hl := lv_entry ([.ref h0, .int 5]) (n := 2) (Nat.le_of_ble_eq_true rfl)
    rw [lg_entry_eq]
    generalize (lg_sl ([.ref h0, .int 5]) ++ List.replicate (2 - (lg_sl ([.ref h0, .int 5])).length) Slot.unset).toArray = ls at hl ⊢
    have hl : lv_has ls 2 [(0, .ref h0), (1, .int 5)] := hl
    refine lv_iload_n hx hb dX9_status_0 rfl (lv_at hl 1 rfl) ?_
    refine lv_iconst (v := (-1)) hx hb dX9_status_1 (by decide) ?_
    refine lv_bipush (v := 6) hx hb dX9_status_2 (by decide) ?_
    have hPc := hP.sub (ws' := []) [] rfl
    have hKc := hK.sub (tys' := []) [] rfl
    refine vp_callSi (W.runS (As := [.int 5, .int (-1), .int 6]) (rest := []) ⟨hx, hb, hml, hown, hts⟩ (m_within l dC dI ad 5 (-1) 6 ) (va_cwS 3 hts g_y_status_m_within_75 rfl rfl rfl (by decide +kernel) ⟨(Nat.le_of_ble_eq_true rfl), (Nat.le_of_ble_eq_true rfl)⟩) ⟨preS_blind, fun U hU hW => ⟨rfl, preS_at hU hW hPc hKc hev⟩⟩ rfl rfl hl.1 rfl (lv_room (Nat.le_of_ble_eq_true rfl)) dX9_status_4 ⟨(Nat.le_of_ble_eq_true rfl), (Nat.le_of_ble_eq_true rfl)⟩) (fun r_13 hw => ?_)
    have hw := hw.1 (by decide)
    subst hw
    refine lv_if_eq (tgt := 21) hx hb dX9_status_7 (by decide) (fun c => absurd c (by decide)) (fun _ => ?_)
    refine lv_aload_n hx hb dX9_status_10 rfl (lv_at hl 0 rfl) ?_
    refine va_get (D := (dC, dI)) (ci := 7) (v := .ref m1) (C := RX9) (T := TX9) (N := 28) hx hb hts inX9 hown hK hP 0 rfl rfl 5 (by decide) (hts _ (List.mem_of_getElem? (i := 10) rfl)) (fun _ h9 => h9) rfl dX9_status_11 ?_
    refine lv_iload_n hx hb dX9_status_14 rfl (lv_at hl 1 rfl) ?_
    refine lv_iconst (v := 1) hx hb dX9_status_15 (by decide) ?_
    refine lv_iadd hx hb dX9_status_16 ?_
    refine pp_ti (y := 6) (by decide) ?_
    refine va_iald hx hb hK hP 1 0 rfl rfl (vp_in_nI (n := 6) (by decide) (by decide)) dX9_status_17 ?_
    refine pp_ti (y := 0) (rfl) ?_
    refine lv_goto (tgt := 27) hx hb dX9_status_18 (by decide) ?_
    exact W.iret (v := 0) hx hb hr (fun t ht hW => ⟨⟨0, (), rfl, ⟨(fun h => rfl), (fun g0 => (by first | rfl | (exfalso; simp only [fa_lt, fa_le, fa_eq, and_true, true_and, and_false, false_and, not_true_eq_false, not_false_eq_true, li_0, li_1, li_2, li_3, li_4, li_5, li_6, li_7, li_8, li_9, li_10, li_12, li_15, li_16, li_20, li_30, li_34, li_38, li_40, li_63, li_64, li_65, li_78, li_120, li_1000, li_4000, li_10000, li_11077, li_255, li_65535, li_m1, li_m2, li_m1000000001, li_m1000000002, li_m1000000003, li_m1000000004, li_m1000000005, li_m1000000006, li_m1000000007] at g0 <;> omega) | (simp only [fa_lt, fa_le, fa_eq, and_true, true_and, and_false, false_and, not_true_eq_false, not_false_eq_true, li_0, li_1, li_2, li_3, li_4, li_5, li_6, li_7, li_8, li_9, li_10, li_12, li_15, li_16, li_20, li_30, li_34, li_38, li_40, li_63, li_64, li_65, li_78, li_120, li_1000, li_4000, li_10000, li_11077, li_255, li_65535, li_m1, li_m2, li_m1000000001, li_m1000000002, li_m1000000003, li_m1000000004, li_m1000000005, li_m1000000006, li_m1000000007] at g0 ⊢ <;> omega)))⟩, trivial⟩, hS.F ht⟩) hS.2.2 dX9_status_27
  · skip
    refine Met.ofW (cc := cX9_status) (maxL := 2) (ret := (some .int)) (by decide) rfl ?_
    intro p e s m args below meth c s₁ B hml hv
    obtain ⟨rfl, hsz, hP, hK, hD0, hev⟩ := hv
    have hx := B.exec
    have hb := B.bytes
    have hr := B.returns
    have hts := atoms_spec (ws := w_y_status) B.pre
    have hown : s.vm.findClass RX9 = some m.cls := findClass_of_methodNamed B.named
    have hlocks := B.notSynchronized
    have inX9 : ∀ w ∈ wsX90, w ∈ w_y_status := fun w h => List.mem_cons_of_mem _ (List.mem_append_right _ h)
    subst hsz
    have hD := hD0.self (sz := s.heap.size)
    generalize hAe : va_A [(h0, .inr (7, [v0, v1, v2, v3, v4, .ref m1, v6, v7, v8, v9, v10, v11, v12, v13, v14, v15, v16, v17, v18, v19, v20, v21, v22, v23, v24, v25, v26, v27])), (m1, .inl (mc1, 8, .inl (fun _ => 0)))] s.heap.size = A at hD ⊢
    have hA : ∀ q : Nat, s.heap.size ≤ q → A q := fun q h => by rw [← hAe]; exact Or.inr h
    have hS : va_S A s.heap s.heap [] := va_S.rf
    have hP : va_P (dC, dI) vwCl [(h0, .inr (7, [v0, v1, v2, v3, v4, .ref m1, v6, v7, v8, v9, v10, v11, v12, v13, v14, v15, v16, v17, v18, v19, v20, v21, v22, v23, v24, v25, v26, v27])), (m1, .inl (mc1, 8, .inl (fun _ => 0)))] s.heap := hP
    have hl := lv_entry ([.ref h0, .int 6]) (n := 2) (Nat.le_of_ble_eq_true rfl)
    rw [lg_entry_eq]
    generalize (lg_sl ([.ref h0, .int 6]) ++ List.replicate (2 - (lg_sl ([.ref h0, .int 6])).length) Slot.unset).toArray = ls at hl ⊢
    have hl : lv_has ls 2 [(0, .ref h0), (1, .int 6)] := hl
    refine lv_iload_n hx hb dX9_status_0 rfl (lv_at hl 1 rfl) ?_
    refine lv_iconst (v := (-1)) hx hb dX9_status_1 (by decide) ?_
    refine lv_bipush (v := 6) hx hb dX9_status_2 (by decide) ?_
    have hPc := hP.sub (ws' := []) [] rfl
    have hKc := hK.sub (tys' := []) [] rfl
    refine vp_callSi (W.runS (As := [.int 6, .int (-1), .int 6]) (rest := []) ⟨hx, hb, hml, hown, hts⟩ (m_within l dC dI ad 6 (-1) 6 ) (va_cwS 3 hts g_y_status_m_within_75 rfl rfl rfl (by decide +kernel) ⟨(Nat.le_of_ble_eq_true rfl), (Nat.le_of_ble_eq_true rfl)⟩) ⟨preS_blind, fun U hU hW => ⟨rfl, preS_at hU hW hPc hKc hev⟩⟩ rfl rfl hl.1 rfl (lv_room (Nat.le_of_ble_eq_true rfl)) dX9_status_4 ⟨(Nat.le_of_ble_eq_true rfl), (Nat.le_of_ble_eq_true rfl)⟩) (fun r_14 hw => ?_)
    have hw := hw.1 (by decide)
    subst hw
    refine lv_if_eq (tgt := 21) hx hb dX9_status_7 (by decide) (fun c => absurd c (by decide)) (fun _ => ?_)
    refine lv_aload_n hx hb dX9_status_10 rfl (lv_at hl 0 rfl) ?_
    refine va_get (D := (dC, dI)) (ci := 7) (v := .ref m1) (C := RX9) (T := TX9) (N := 28) hx hb hts inX9 hown hK hP 0 rfl rfl 5 (by decide) (hts _ (List.mem_of_getElem? (i := 10) rfl)) (fun _ h9 => h9) rfl dX9_status_11 ?_
    refine lv_iload_n hx hb dX9_status_14 rfl (lv_at hl 1 rfl) ?_
    refine lv_iconst (v := 1) hx hb dX9_status_15 (by decide) ?_
    refine lv_iadd hx hb dX9_status_16 ?_
    refine pp_ti (y := 7) (by decide) ?_
    refine va_iald hx hb hK hP 1 0 rfl rfl (vp_in_nI (n := 7) (by decide) (by decide)) dX9_status_17 ?_
    refine pp_ti (y := 0) (rfl) ?_
    refine lv_goto (tgt := 27) hx hb dX9_status_18 (by decide) ?_
    exact W.iret (v := 0) hx hb hr (fun t ht hW => ⟨⟨0, (), rfl, ⟨(fun h => rfl), (fun g0 => (by first | rfl | (exfalso; simp only [fa_lt, fa_le, fa_eq, and_true, true_and, and_false, false_and, not_true_eq_false, not_false_eq_true, li_0, li_1, li_2, li_3, li_4, li_5, li_6, li_7, li_8, li_9, li_10, li_12, li_15, li_16, li_20, li_30, li_34, li_38, li_40, li_63, li_64, li_65, li_78, li_120, li_1000, li_4000, li_10000, li_11077, li_255, li_65535, li_m1, li_m2, li_m1000000001, li_m1000000002, li_m1000000003, li_m1000000004, li_m1000000005, li_m1000000006, li_m1000000007] at g0 <;> omega) | (simp only [fa_lt, fa_le, fa_eq, and_true, true_and, and_false, false_and, not_true_eq_false, not_false_eq_true, li_0, li_1, li_2, li_3, li_4, li_5, li_6, li_7, li_8, li_9, li_10, li_12, li_15, li_16, li_20, li_30, li_34, li_38, li_40, li_63, li_64, li_65, li_78, li_120, li_1000, li_4000, li_10000, li_11077, li_255, li_65535, li_m1, li_m2, li_m1000000001, li_m1000000002, li_m1000000003, li_m1000000004, li_m1000000005, li_m1000000006, li_m1000000007] at g0 ⊢ <;> omega)))⟩, trivial⟩, hS.F ht⟩) hS.2.2 dX9_status_27

