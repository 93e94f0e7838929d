def w_m_find_beyond : List Cond := .code yX9_finding cX9_finding 2 (some .int) :: (([.fieldLink RX9 23 "LampShapesModel" "found" "[I", .constant RX9 74 (-1000000001)] : List Cond) ++ wsX90)
set_option maxHeartbeats 4000000 in
set_option maxRecDepth 100000 in
theorem m_find_beyond (l : Launch) (dC : Nat → ClassId) (dI : Nat → Nat → Nat) (ad : Nat → Nat) (h0 : Nat) (v0 : Value) (v1 : Value) (v2 : Value) (v3 : Value) (v4 : Value) (m1 : Nat) (v6 : Value) (v7 : Value) (v8 : Value) (v9 : Value) (v10 : Value) (v11 : Value) (v12 : Value) (v13 : Value) (v14 : Value) (v15 : Value) (v16 : Value) (v17 : Value) (v18 : Value) (v19 : Value) (v20 : Value) (v21 : Value) (v22 : Value) (v23 : Value) (v24 : Value) (v25 : Value) (v26 : Value) (v27 : Value) (mc1 : ClassId) (ff : Nat → Int32) (sz : Nat) : Met l yX9_finding w_m_find_beyond ({ frames := 0, cells := 0, slots := 0, locals := 0 } : Room) (va_Pc [.ref h0, .int (-1000000001)] (preM dC dI ad [(mc1, .int)] [(h0, .inr (7, [v0, v1, v2, v3, v4, .ref m1, v6, v7, v8, v9, v10, v11, v12, v13, v14, v15, v16, v17, v18, v19, v20, v21, v22, v23, v24, v25, v26, v27])), (m1, .inl (mc1, 8, .inl ff))] sz)) (va_Qi (fun (r : Int32) (_ : Unit) => (r = (-1000000001))) (fun _ _ => True) (va_A [(h0, .inr (7, [v0, v1, v2, v3, v4, .ref m1, v6, v7, v8, v9, v10, v11, v12, v13, v14, v15, v16, v17, v18, v19, v20, v21, v22, v23, v24, v25, v26, v27])), (m1, .inl (mc1, 8, .inl ff))] sz)) 0 0 (va_A [(h0, .inr (7, [v0, v1, v2, v3, v4, .ref m1, v6, v7, v8, v9, v10, v11, v12, v13, v14, v15, v16, v17, v18, v19, v20, v21, v22, v23, v24, v25, v26, v27])), (m1, .inl (mc1, 8, .inl ff))] sz) := by
  refine Met.ofW (cc := cX9_finding) (maxL := 2) (ret := (some .int)) (by decide) rfl ?_
  intro p e s m args below meth c s₁ B hml hv
  obtain ⟨rfl, hsz, hP, hK, hD0, hev⟩ := hv
  have hx := B.exec
  have hb := B.bytes
  have hr := B.returns
  have hts := atoms_spec (ws := w_m_find_beyond) B.pre
  have hown : s.vm.findClass RX9 = some m.cls := findClass_of_methodNamed B.named
  have hlocks := B.notSynchronized
  have inX9 : ∀ w ∈ wsX90, w ∈ w_m_find_beyond := fun w h => List.mem_cons_of_mem _ (List.mem_append_right _ h)
  subst hsz
  have hD := hD0.self (sz := s.heap.size)
  generalize hAe : va_A [(h0, .inr (7, [v0, v1, v2, v3, v4, .ref m1, v6, v7, v8, v9, v10, v11, v12, v13, v14, v15, v16, v17, v18, v19, v20, v21, v22, v23, v24, v25, v26, v27])), (m1, .inl (mc1, 8, .inl ff))] s.heap.size = A at hD ⊢
  have hA : ∀ q : Nat, s.heap.size ≤ q → A q := fun q h => by rw [← hAe]; exact Or.inr h
  have hS : va_S A s.heap s.heap [] := va_S.rf
  have hP : va_P (dC, dI) vwCl [(h0, .inr (7, [v0, v1, v2, v3, v4, .ref m1, v6, v7, v8, v9, v10, v11, v12, v13, v14, v15, v16, v17, v18, v19, v20, v21, v22, v23, v24, v25, v26, v27])), (m1, .inl (mc1, 8, .inl ff))] s.heap := hP
  have hl := lv_entry ([.ref h0, .int (-1000000001)]) (n := 2) (Nat.le_of_ble_eq_true rfl)
  rw [lg_entry_eq]
  generalize (lg_sl ([.ref h0, .int (-1000000001)]) ++ List.replicate (2 - (lg_sl ([.ref h0, .int (-1000000001)])).length) Slot.unset).toArray = ls at hl ⊢
  have hl : lv_has ls 2 [(0, .ref h0), (1, .int (-1000000001))] := hl
  refine lv_aload_n hx hb dX9_finding_0 rfl (lv_at hl 0 rfl) ?_
  refine va_get (D := (dC, dI)) (ci := 7) (v := .ref m1) (C := RX9) (T := TX9) (N := 28) hx hb hts inX9 hown hK hP 0 rfl rfl 5 (by decide) (hts _ (List.mem_of_getElem? (i := 1) rfl)) (fun _ h9 => h9) rfl dX9_finding_1 ?_
  refine lv_ldc hx hb hown (hts _ (List.mem_of_getElem? (i := 2) rfl)) dX9_finding_4 ?_
  refine lv_iload_n hx hb dX9_finding_6 rfl (lv_at hl 1 rfl) ?_
  refine lv_isub hx hb dX9_finding_7 ?_
  refine pp_ti (y := 0) (by decide) ?_
  refine lv_iconst (v := 1) hx hb dX9_finding_8 (by decide) ?_
  refine lv_iadd hx hb dX9_finding_9 ?_
  refine pp_ti (y := 1) (by decide) ?_
  refine lv_dup2_11 hx hb dX9_finding_10 rfl rfl ?_
  refine va_iald hx hb hK hP 1 0 rfl rfl (vp_in_nI (n := 1) (by decide) (by decide)) dX9_finding_11 ?_
  refine pp_ti (y := ff 1) rfl ?_
  refine lv_iconst (v := 1) hx hb dX9_finding_12 (by decide) ?_
  refine lv_iadd hx hb dX9_finding_13 ?_
  refine va_iast hx hb hK hP hD hS 1 0 rfl rfl (vp_in_nI (n := 1) (by decide) (by decide)) dX9_finding_14 (fun H locs hP hD hS => ?_)
  have hP : va_P (dC, dI) vwCl [(h0, .inr (7, [v0, v1, v2, v3, v4, .ref m1, v6, v7, v8, v9, v10, v11, v12, v13, v14, v15, v16, v17, v18, v19, v20, v21, v22, v23, v24, v25, v26, v27])), (m1, .inl (mc1, 8, .inl (upd ff 1 ((ff 1) + 1))))] H := hP
  have hD : va_D A [(h0, .inr (7, [v0, v1, v2, v3, v4, .ref m1, v6, v7, v8, v9, v10, v11, v12, v13, v14, v15, v16, v17, v18, v19, v20, v21, v22, v23, v24, v25, v26, v27])), (m1, .inl (mc1, 8, .inl (upd ff 1 ((ff 1) + 1))))] := hD
  refine lv_aload_n hx hb dX9_finding_15 rfl (lv_at hl 0 rfl) ?_
  refine va_get (D := (dC, dI)) (ci := 7) (v := .ref m1) (C := RX9) (T := TX9) (N := 28) hx hb hts inX9 hown hK hP 0 rfl rfl 5 (by decide) (hts _ (List.mem_of_getElem? (i := 1) rfl)) (fun _ h9 => h9) rfl dX9_finding_16 ?_
  refine lv_iconst (v := 0) hx hb dX9_finding_19 (by decide) ?_
  refine lv_dup2_11 hx hb dX9_finding_20 rfl rfl ?_
  refine va_iald hx hb hK hP 1 0 rfl rfl (vp_in_nI (n := 0) (by decide) (by decide)) dX9_finding_21 ?_
  refine pp_ti (y := (upd ff 1 ((ff 1) + 1)) 0) rfl ?_
  refine lv_iconst (v := 1) hx hb dX9_finding_22 (by decide) ?_
  refine lv_iadd hx hb dX9_finding_23 ?_
  refine va_iast hx hb hK hP hD hS 1 0 rfl rfl (vp_in_nI (n := 0) (by decide) (by decide)) dX9_finding_24 (fun H locs hP hD hS => ?_)
  have hP : va_P (dC, dI) vwCl [(h0, .inr (7, [v0, v1, v2, v3, v4, .ref m1, v6, v7, v8, v9, v10, v11, v12, v13, v14, v15, v16, v17, v18, v19, v20, v21, v22, v23, v24, v25, v26, v27])), (m1, .inl (mc1, 8, .inl (upd (upd ff 1 ((ff 1) + 1)) 0 (((upd ff 1 ((ff 1) + 1)) 0) + 1))))] H := hP
  have hD : va_D A [(h0, .inr (7, [v0, v1, v2, v3, v4, .ref m1, v6, v7, v8, v9, v10, v11, v12, v13, v14, v15, v16, v17, v18, v19, v20, v21, v22, v23, v24, v25, v26, v27])), (m1, .inl (mc1, 8, .inl (upd (upd ff 1 ((ff 1) + 1)) 0 (((upd ff 1 ((ff 1) + 1)) 0) + 1))))] := hD
  refine lv_iload_n hx hb dX9_finding_25 rfl (lv_at hl 1 rfl) ?_
  exact W.iret (v := (-1000000001)) hx hb hr (fun t ht hW => ⟨⟨(-1000000001), (), rfl, rfl, trivial⟩, hS.F ht⟩) hS.2.2 dX9_finding_26

def w_m_find_none : List Cond := .code yX9_finding cX9_finding 2 (some .int) :: (([.fieldLink RX9 23 "LampShapesModel" "found" "[I", .constant RX9 74 (-1000000001)] : List Cond) ++ wsX90)
set_option maxHeartbeats 4000000 in
set_option maxRecDepth 100000 in
theorem m_find_none (l : Launch) (dC : Nat → ClassId) (dI : Nat → Nat → Nat) (ad : Nat → Nat) (h0 : Nat) (v0 : Value) (v1 : Value) (v2 : Value) (v3 : Value) (v4 : Value) (m1 : Nat) (v6 : Value) (v7 : Value) (v8 : Value) (v9 : Value) (v10 : Value) (v11 : Value) (v12 : Value) (v13 : Value) (v14 : Value) (v15 : Value) (v16 : Value) (v17 : Value) (v18 : Value) (v19 : Value) (v20 : Value) (v21 : Value) (v22 : Value) (v23 : Value) (v24 : Value) (v25 : Value) (v26 : Value) (v27 : Value) (mc1 : ClassId) (ff : Nat → Int32) (sz : Nat) : Met l yX9_finding w_m_find_none ({ frames := 0, cells := 0, slots := 0, locals := 0 } : Room) (va_Pc [.ref h0, .int (-1000000004)] (preM dC dI ad [(mc1, .int)] [(h0, .inr (7, [v0, v1, v2, v3, v4, .ref m1, v6, v7, v8, v9, v10, v11, v12, v13, v14, v15, v16, v17, v18, v19, v20, v21, v22, v23, v24, v25, v26, v27])), (m1, .inl (mc1, 8, .inl ff))] sz)) (va_Qi (fun (r : Int32) (_ : Unit) => (r = (-1000000004))) (fun _ _ => True) (va_A [(h0, .inr (7, [v0, v1, v2, v3, v4, .ref m1, v6, v7, v8, v9, v10, v11, v12, v13, v14, v15, v16, v17, v18, v19, v20, v21, v22, v23, v24, v25, v26, v27])), (m1, .inl (mc1, 8, .inl ff))] sz)) 0 0 (va_A [(h0, .inr (7, [v0, v1, v2, v3, v4, .ref m1, v6, v7, v8, v9, v10, v11, v12, v13, v14, v15, v16, v17, v18, v19, v20, v21, v22, v23, v24, v25, v26, v27])), (m1, .inl (mc1, 8, .inl ff))] sz) := by
  refine Met.ofW (cc := cX9_finding) (maxL := 2) (ret := (some .int)) (by decide) rfl ?_
  intro p e s m args below meth c s₁ B hml hv
  obtain ⟨rfl, hsz, hP, hK, hD0, hev⟩ := hv
  have hx := B.exec
  have hb := B.bytes
  have hr := B.returns
  have hts := atoms_spec (ws := w_m_find_none) B.pre
  have hown : s.vm.findClass RX9 = some m.cls := findClass_of_methodNamed B.named
  have hlocks := B.notSynchronized
  have inX9 : ∀ w ∈ wsX90, w ∈ w_m_find_none := fun w h => List.mem_cons_of_mem _ (List.mem_append_right _ h)
  subst hsz
  have hD := hD0.self (sz := s.heap.size)
  generalize hAe : va_A [(h0, .inr (7, [v0, v1, v2, v3, v4, .ref m1, v6, v7, v8, v9, v10, v11, v12, v13, v14, v15, v16, v17, v18, v19, v20, v21, v22, v23, v24, v25, v26, v27])), (m1, .inl (mc1, 8, .inl ff))] s.heap.size = A at hD ⊢
  have hA : ∀ q : Nat, s.heap.size ≤ q → A q := fun q h => by rw [← hAe]; exact Or.inr h
  have hS : va_S A s.heap s.heap [] := va_S.rf
  have hP : va_P (dC, dI) vwCl [(h0, .inr (7, [v0, v1, v2, v3, v4, .ref m1, v6, v7, v8, v9, v10, v11, v12, v13, v14, v15, v16, v17, v18, v19, v20, v21, v22, v23, v24, v25, v26, v27])), (m1, .inl (mc1, 8, .inl ff))] s.heap := hP
  have hl := lv_entry ([.ref h0, .int (-1000000004)]) (n := 2) (Nat.le_of_ble_eq_true rfl)
  rw [lg_entry_eq]
  generalize (lg_sl ([.ref h0, .int (-1000000004)]) ++ List.replicate (2 - (lg_sl ([.ref h0, .int (-1000000004)])).length) Slot.unset).toArray = ls at hl ⊢
  have hl : lv_has ls 2 [(0, .ref h0), (1, .int (-1000000004))] := hl
  refine lv_aload_n hx hb dX9_finding_0 rfl (lv_at hl 0 rfl) ?_
  refine va_get (D := (dC, dI)) (ci := 7) (v := .ref m1) (C := RX9) (T := TX9) (N := 28) hx hb hts inX9 hown hK hP 0 rfl rfl 5 (by decide) (hts _ (List.mem_of_getElem? (i := 1) rfl)) (fun _ h9 => h9) rfl dX9_finding_1 ?_
  refine lv_ldc hx hb hown (hts _ (List.mem_of_getElem? (i := 2) rfl)) dX9_finding_4 ?_
  refine lv_iload_n hx hb dX9_finding_6 rfl (lv_at hl 1 rfl) ?_
  refine lv_isub hx hb dX9_finding_7 ?_
  refine pp_ti (y := 3) (by decide) ?_
  refine lv_iconst (v := 1) hx hb dX9_finding_8 (by decide) ?_
  refine lv_iadd hx hb dX9_finding_9 ?_
  refine pp_ti (y := 4) (by decide) ?_
  refine lv_dup2_11 hx hb dX9_finding_10 rfl rfl ?_
  refine va_iald hx hb hK hP 1 0 rfl rfl (vp_in_nI (n := 4) (by decide) (by decide)) dX9_finding_11 ?_
  refine pp_ti (y := ff 4) rfl ?_
  refine lv_iconst (v := 1) hx hb dX9_finding_12 (by decide) ?_
  refine lv_iadd hx hb dX9_finding_13 ?_
  refine va_iast hx hb hK hP hD hS 1 0 rfl rfl (vp_in_nI (n := 4) (by decide) (by decide)) dX9_finding_14 (fun H locs hP hD hS => ?_)
  have hP : va_P (dC, dI) vwCl [(h0, .inr (7, [v0, v1, v2, v3, v4, .ref m1, v6, v7, v8, v9, v10, v11, v12, v13, v14, v15, v16, v17, v18, v19, v20, v21, v22, v23, v24, v25, v26, v27])), (m1, .inl (mc1, 8, .inl (upd ff 4 ((ff 4) + 1))))] H := hP
  have hD : va_D A [(h0, .inr (7, [v0, v1, v2, v3, v4, .ref m1, v6, v7, v8, v9, v10, v11, v12, v13, v14, v15, v16, v17, v18, v19, v20, v21, v22, v23, v24, v25, v26, v27])), (m1, .inl (mc1, 8, .inl (upd ff 4 ((ff 4) + 1))))] := hD
  refine lv_aload_n hx hb dX9_finding_15 rfl (lv_at hl 0 rfl) ?_
  refine va_get (D := (dC, dI)) (ci := 7) (v := .ref m1) (C := RX9) (T := TX9) (N := 28) hx hb hts inX9 hown hK hP 0 rfl rfl 5 (by decide) (hts _ (List.mem_of_getElem? (i := 1) rfl)) (fun _ h9 => h9) rfl dX9_finding_16 ?_
  refine lv_iconst (v := 0) hx hb dX9_finding_19 (by decide) ?_
  refine lv_dup2_11 hx hb dX9_finding_20 rfl rfl ?_
  refine va_iald hx hb hK hP 1 0 rfl rfl (vp_in_nI (n := 0) (by decide) (by decide)) dX9_finding_21 ?_
  refine pp_ti (y := (upd ff 4 ((ff 4) + 1)) 0) rfl ?_
  refine lv_iconst (v := 1) hx hb dX9_finding_22 (by decide) ?_
  refine lv_iadd hx hb dX9_finding_23 ?_
  refine va_iast hx hb hK hP hD hS 1 0 rfl rfl (vp_in_nI (n := 0) (by decide) (by decide)) dX9_finding_24 (fun H locs hP hD hS => ?_)
  have hP : va_P (dC, dI) vwCl [(h0, .inr (7, [v0, v1, v2, v3, v4, .ref m1, v6, v7, v8, v9, v10, v11, v12, v13, v14, v15, v16, v17, v18, v19, v20, v21, v22, v23, v24, v25, v26, v27])), (m1, .inl (mc1, 8, .inl (upd (upd ff 4 ((ff 4) + 1)) 0 (((upd ff 4 ((ff 4) + 1)) 0) + 1))))] H := hP
  have hD : va_D A [(h0, .inr (7, [v0, v1, v2, v3, v4, .ref m1, v6, v7, v8, v9, v10, v11, v12, v13, v14, v15, v16, v17, v18, v19, v20, v21, v22, v23, v24, v25, v26, v27])), (m1, .inl (mc1, 8, .inl (upd (upd ff 4 ((ff 4) + 1)) 0 (((upd ff 4 ((ff 4) + 1)) 0) + 1))))] := hD
  refine lv_iload_n hx hb dX9_finding_25 rfl (lv_at hl 1 rfl) ?_
  exact W.iret (v := (-1000000004)) hx hb hr (fun t ht hW => ⟨⟨(-1000000004), (), rfl, rfl, trivial⟩, hS.F ht⟩) hS.2.2 dX9_finding_26

def w_m_find_missing : List Cond := .code yX9_finding cX9_finding 2 (some .int) :: (([.fieldLink RX9 23 "LampShapesModel" "found" "[I", .constant RX9 74 (-1000000001)] : List Cond) ++ wsX90)
set_option maxHeartbeats 4000000 in
set_option maxRecDepth 100000 in
theorem m_find_missing (l : Launch) (dC : Nat → ClassId) (dI : Nat → Nat → Nat) (ad : Nat → Nat) (h0 : Nat) (v0 : Value) (v1 : Value) (v2 : Value) (v3 : Value) (v4 : Value) (m1 : Nat) (v6 : Value) (v7 : Value) (v8 : Value) (v9 : Value) (v10 : Value) (v11 : Value) (v12 : Value) (v13 : Value) (v14 : Value) (v15 : Value) (v16 : Value) (v17 : Value) (v18 : Value) (v19 : Value) (v20 : Value) (v21 : Value) (v22 : Value) (v23 : Value) (v24 : Value) (v25 : Value) (v26 : Value) (v27 : Value) (mc1 : ClassId) (ff : Nat → Int32) (sz : Nat) : Met l yX9_finding w_m_find_missing ({ frames := 0, cells := 0, slots := 0, locals := 0 } : Room) (va_Pc [.ref h0, .int (-1000000006)] (preM dC dI ad [(mc1, .int)] [(h0, .inr (7, [v0, v1, v2, v3, v4, .ref m1, v6, v7, v8, v9, v10, v11, v12, v13, v14, v15, v16, v17, v18, v19, v20, v21, v22, v23, v24, v25, v26, v27])), (m1, .inl (mc1, 8, .inl ff))] sz)) (va_Qi (fun (r : Int32) (_ : Unit) => (r = (-1000000006))) (fun _ _ => True) (va_A [(h0, .inr (7, [v0, v1, v2, v3, v4, .ref m1, v6, v7, v8, v9, v10, v11, v12, v13, v14, v15, v16, v17, v18, v19, v20, v21, v22, v23, v24, v25, v26, v27])), (m1, .inl (mc1, 8, .inl ff))] sz)) 0 0 (va_A [(h0, .inr (7, [v0, v1, v2, v3, v4, .ref m1, v6, v7, v8, v9, v10, v11, v12, v13, v14, v15, v16, v17, v18, v19, v20, v21, v22, v23, v24, v25, v26, v27])), (m1, .inl (mc1, 8, .inl ff))] sz) := by
  refine Met.ofW (cc := cX9_finding) (maxL := 2) (ret := (some .int)) (by decide) rfl ?_
  intro p e s m args below meth c s₁ B hml hv
  obtain ⟨rfl, hsz, hP, hK, hD0, hev⟩ := hv
  have hx := B.exec
  have hb := B.bytes
  have hr := B.returns
  have hts := atoms_spec (ws := w_m_find_missing) B.pre
  have hown : s.vm.findClass RX9 = some m.cls := findClass_of_methodNamed B.named
  have hlocks := B.notSynchronized
  have inX9 : ∀ w ∈ wsX90, w ∈ w_m_find_missing := fun w h => List.mem_cons_of_mem _ (List.mem_append_right _ h)
  subst hsz
  have hD := hD0.self (sz := s.heap.size)
  generalize hAe : va_A [(h0, .inr (7, [v0, v1, v2, v3, v4, .ref m1, v6, v7, v8, v9, v10, v11, v12, v13, v14, v15, v16, v17, v18, v19, v20, v21, v22, v23, v24, v25, v26, v27])), (m1, .inl (mc1, 8, .inl ff))] s.heap.size = A at hD ⊢
  have hA : ∀ q : Nat, s.heap.size ≤ q → A q := fun q h => by rw [← hAe]; exact Or.inr h
  have hS : va_S A s.heap s.heap [] := va_S.rf
  have hP : va_P (dC, dI) vwCl [(h0, .inr (7, [v0, v1, v2, v3, v4, .ref m1, v6, v7, v8, v9, v10, v11, v12, v13, v14, v15, v16, v17, v18, v19, v20, v21, v22, v23, v24, v25, v26, v27])), (m1, .inl (mc1, 8, .inl ff))] s.heap := hP
  have hl := lv_entry ([.ref h0, .int (-1000000006)]) (n := 2) (Nat.le_of_ble_eq_true rfl)
  rw [lg_entry_eq]
  generalize (lg_sl ([.ref h0, .int (-1000000006)]) ++ List.replicate (2 - (lg_sl ([.ref h0, .int (-1000000006)])).length) Slot.unset).toArray = ls at hl ⊢
  have hl : lv_has ls 2 [(0, .ref h0), (1, .int (-1000000006))] := hl
  refine lv_aload_n hx hb dX9_finding_0 rfl (lv_at hl 0 rfl) ?_
  refine va_get (D := (dC, dI)) (ci := 7) (v := .ref m1) (C := RX9) (T := TX9) (N := 28) hx hb hts inX9 hown hK hP 0 rfl rfl 5 (by decide) (hts _ (List.mem_of_getElem? (i := 1) rfl)) (fun _ h9 => h9) rfl dX9_finding_1 ?_
  refine lv_ldc hx hb hown (hts _ (List.mem_of_getElem? (i := 2) rfl)) dX9_finding_4 ?_
  refine lv_iload_n hx hb dX9_finding_6 rfl (lv_at hl 1 rfl) ?_
  refine lv_isub hx hb dX9_finding_7 ?_
  refine pp_ti (y := 5) (by decide) ?_
  refine lv_iconst (v := 1) hx hb dX9_finding_8 (by decide) ?_
  refine lv_iadd hx hb dX9_finding_9 ?_
  refine pp_ti (y := 6) (by decide) ?_
  refine lv_dup2_11 hx hb dX9_finding_10 rfl rfl ?_
  refine va_iald hx hb hK hP 1 0 rfl rfl (vp_in_nI (n := 6) (by decide) (by decide)) dX9_finding_11 ?_
  refine pp_ti (y := ff 6) rfl ?_
  refine lv_iconst (v := 1) hx hb dX9_finding_12 (by decide) ?_
  refine lv_iadd hx hb dX9_finding_13 ?_
  refine va_iast hx hb hK hP hD hS 1 0 rfl rfl (vp_in_nI (n := 6) (by decide) (by decide)) dX9_finding_14 (fun H locs hP hD hS => ?_)
  have hP : va_P (dC, dI) vwCl [(h0, .inr (7, [v0, v1, v2, v3, v4, .ref m1, v6, v7, v8, v9, v10, v11, v12, v13, v14, v15, v16, v17, v18, v19, v20, v21, v22, v23, v24, v25, v26, v27])), (m1, .inl (mc1, 8, .inl (upd ff 6 ((ff 6) + 1))))] H := hP
  have hD : va_D A [(h0, .inr (7, [v0, v1, v2, v3, v4, .ref m1, v6, v7, v8, v9, v10, v11, v12, v13, v14, v15, v16, v17, v18, v19, v20, v21, v22, v23, v24, v25, v26, v27])), (m1, .inl (mc1, 8, .inl (upd ff 6 ((ff 6) + 1))))] := hD
  refine lv_aload_n hx hb dX9_finding_15 rfl (lv_at hl 0 rfl) ?_
  refine va_get (D := (dC, dI)) (ci := 7) (v := .ref m1) (C := RX9) (T := TX9) (N := 28) hx hb hts inX9 hown hK hP 0 rfl rfl 5 (by decide) (hts _ (List.mem_of_getElem? (i := 1) rfl)) (fun _ h9 => h9) rfl dX9_finding_16 ?_
  refine lv_iconst (v := 0) hx hb dX9_finding_19 (by decide) ?_
  refine lv_dup2_11 hx hb dX9_finding_20 rfl rfl ?_
  refine va_iald hx hb hK hP 1 0 rfl rfl (vp_in_nI (n := 0) (by decide) (by decide)) dX9_finding_21 ?_
  refine pp_ti (y := (upd ff 6 ((ff 6) + 1)) 0) rfl ?_
  refine lv_iconst (v := 1) hx hb dX9_finding_22 (by decide) ?_
  refine lv_iadd hx hb dX9_finding_23 ?_
  refine va_iast hx hb hK hP hD hS 1 0 rfl rfl (vp_in_nI (n := 0) (by decide) (by decide)) dX9_finding_24 (fun H locs hP hD hS => ?_)
  have hP : va_P (dC, dI) vwCl [(h0, .inr (7, [v0, v1, v2, v3, v4, .ref m1, v6, v7, v8, v9, v10, v11, v12, v13, v14, v15, v16, v17, v18, v19, v20, v21, v22, v23, v24, v25, v26, v27])), (m1, .inl (mc1, 8, .inl (upd (upd ff 6 ((ff 6) + 1)) 0 (((upd ff 6 ((ff 6) + 1)) 0) + 1))))] H := hP
  have hD : va_D A [(h0, .inr (7, [v0, v1, v2, v3, v4, .ref m1, v6, v7, v8, v9, v10, v11, v12, v13, v14, v15, v16, v17, v18, v19, v20, v21, v22, v23, v24, v25, v26, v27])), (m1, .inl (mc1, 8, .inl (upd (upd ff 6 ((ff 6) + 1)) 0 (((upd ff 6 ((ff 6) + 1)) 0) + 1))))] := hD
  refine lv_iload_n hx hb dX9_finding_25 rfl (lv_at hl 1 rfl) ?_
  exact W.iret (v := (-1000000006)) hx hb hr (fun t ht hW => ⟨⟨(-1000000006), (), rfl, rfl, trivial⟩, hS.F ht⟩) hS.2.2 dX9_finding_26

def w_m_find_size : List Cond := .code yX9_finding cX9_finding 2 (some .int) :: (([.fieldLink RX9 23 "LampShapesModel" "found" "[I", .constant RX9 74 (-1000000001)] : List Cond) ++ wsX90)
set_option maxHeartbeats 4000000 in
set_option maxRecDepth 100000 in
theorem m_find_size (l : Launch) (dC : Nat → ClassId) (dI : Nat → Nat → Nat) (ad : Nat → Nat) (h0 : Nat) (v0 : Value) (v1 : Value) (v2 : Value) (v3 : Value) (v4 : Value) (m1 : Nat) (v6 : Value) (v7 : Value) (v8 : Value) (v9 : Value) (v10 : Value) (v11 : Value) (v12 : Value) (v13 : Value) (v14 : Value) (v15 : Value) (v16 : Value) (v17 : Value) (v18 : Value) (v19 : Value) (v20 : Value) (v21 : Value) (v22 : Value) (v23 : Value) (v24 : Value) (v25 : Value) (v26 : Value) (v27 : Value) (mc1 : ClassId) (ff : Nat → Int32) (sz : Nat) : Met l yX9_finding w_m_find_size ({ frames := 0, cells := 0, slots := 0, locals := 0 } : Room) (va_Pc [.ref h0, .int (-1000000007)] (preM dC dI ad [(mc1, .int)] [(h0, .inr (7, [v0, v1, v2, v3, v4, .ref m1, v6, v7, v8, v9, v10, v11, v12, v13, v14, v15, v16, v17, v18, v19, v20, v21, v22, v23, v24, v25, v26, v27])), (m1, .inl (mc1, 8, .inl ff))] sz)) (va_Qi (fun (r : Int32) (_ : Unit) => (r = (-1000000007))) (fun _ _ => True) (va_A [(h0, .inr (7, [v0, v1, v2, v3, v4, .ref m1, v6, v7, v8, v9, v10, v11, v12, v13, v14, v15, v16, v17, v18, v19, v20, v21, v22, v23, v24, v25, v26, v27])), (m1, .inl (mc1, 8, .inl ff))] sz)) 0 0 (va_A [(h0, .inr (7, [v0, v1, v2, v3, v4, .ref m1, v6, v7, v8, v9, v10, v11, v12, v13, v14, v15, v16, v17, v18, v19, v20, v21, v22, v23, v24, v25, v26, v27])), (m1, .inl (mc1, 8, .inl ff))] sz) := by
  refine Met.ofW (cc := cX9_finding) (maxL := 2) (ret := (some .int)) (by decide) rfl ?_
  intro p e s m args below meth c s₁ B hml hv
  obtain ⟨rfl, hsz, hP, hK, hD0, hev⟩ := hv
  have hx := B.exec
  have hb := B.bytes
  have hr := B.returns
  have hts := atoms_spec (ws := w_m_find_size) B.pre
  have hown : s.vm.findClass RX9 = some m.cls := findClass_of_methodNamed B.named
  have hlocks := B.notSynchronized
  have inX9 : ∀ w ∈ wsX90, w ∈ w_m_find_size := fun w h => List.mem_cons_of_mem _ (List.mem_append_right _ h)
  subst hsz
  have hD := hD0.self (sz := s.heap.size)
  generalize hAe : va_A [(h0, .inr (7, [v0, v1, v2, v3, v4, .ref m1, v6, v7, v8, v9, v10, v11, v12, v13, v14, v15, v16, v17, v18, v19, v20, v21, v22, v23, v24, v25, v26, v27])), (m1, .inl (mc1, 8, .inl ff))] s.heap.size = A at hD ⊢
  have hA : ∀ q : Nat, s.heap.size ≤ q → A q := fun q h => by rw [← hAe]; exact Or.inr h
  have hS : va_S A s.heap s.heap [] := va_S.rf
  have hP : va_P (dC, dI) vwCl [(h0, .inr (7, [v0, v1, v2, v3, v4, .ref m1, v6, v7, v8, v9, v10, v11, v12, v13, v14, v15, v16, v17, v18, v19, v20, v21, v22, v23, v24, v25, v26, v27])), (m1, .inl (mc1, 8, .inl ff))] s.heap := hP
  have hl := lv_entry ([.ref h0, .int (-1000000007)]) (n := 2) (Nat.le_of_ble_eq_true rfl)
  rw [lg_entry_eq]
  generalize (lg_sl ([.ref h0, .int (-1000000007)]) ++ List.replicate (2 - (lg_sl ([.ref h0, .int (-1000000007)])).length) Slot.unset).toArray = ls at hl ⊢
  have hl : lv_has ls 2 [(0, .ref h0), (1, .int (-1000000007))] := hl
  refine lv_aload_n hx hb dX9_finding_0 rfl (lv_at hl 0 rfl) ?_
  refine va_get (D := (dC, dI)) (ci := 7) (v := .ref m1) (C := RX9) (T := TX9) (N := 28) hx hb hts inX9 hown hK hP 0 rfl rfl 5 (by decide) (hts _ (List.mem_of_getElem? (i := 1) rfl)) (fun _ h9 => h9) rfl dX9_finding_1 ?_
  refine lv_ldc hx hb hown (hts _ (List.mem_of_getElem? (i := 2) rfl)) dX9_finding_4 ?_
  refine lv_iload_n hx hb dX9_finding_6 rfl (lv_at hl 1 rfl) ?_
  refine lv_isub hx hb dX9_finding_7 ?_
  refine pp_ti (y := 6) (by decide) ?_
  refine lv_iconst (v := 1) hx hb dX9_finding_8 (by decide) ?_
  refine lv_iadd hx hb dX9_finding_9 ?_
  refine pp_ti (y := 7) (by decide) ?_
  refine lv_dup2_11 hx hb dX9_finding_10 rfl rfl ?_
  refine va_iald hx hb hK hP 1 0 rfl rfl (vp_in_nI (n := 7) (by decide) (by decide)) dX9_finding_11 ?_
  refine pp_ti (y := ff 7) rfl ?_
  refine lv_iconst (v := 1) hx hb dX9_finding_12 (by decide) ?_
  refine lv_iadd hx hb dX9_finding_13 ?_
  refine va_iast hx hb hK hP hD hS 1 0 rfl rfl (vp_in_nI (n := 7) (by decide) (by decide)) dX9_finding_14 (fun H locs hP hD hS => ?_)
  have hP : va_P (dC, dI) vwCl [(h0, .inr (7, [v0, v1, v2, v3, v4, .ref m1, v6, v7, v8, v9, v10, v11, v12, v13, v14, v15, v16, v17, v18, v19, v20, v21, v22, v23, v24, v25, v26, v27])), (m1, .inl (mc1, 8, .inl (upd ff 7 ((ff 7) + 1))))] H := hP
  have hD : va_D A [(h0, .inr (7, [v0, v1, v2, v3, v4, .ref m1, v6, v7, v8, v9, v10, v11, v12, v13, v14, v15, v16, v17, v18, v19, v20, v21, v22, v23, v24, v25, v26, v27])), (m1, .inl (mc1, 8, .inl (upd ff 7 ((ff 7) + 1))))] := hD
  refine lv_aload_n hx hb dX9_finding_15 rfl (lv_at hl 0 rfl) ?_
  refine va_get (D := (dC, dI)) (ci := 7) (v := .ref m1) (C := RX9) (T := TX9) (N := 28) hx hb hts inX9 hown hK hP 0 rfl rfl 5 (by decide) (hts _ (List.mem_of_getElem? (i := 1) rfl)) (fun _ h9 => h9) rfl dX9_finding_16 ?_
  refine lv_iconst (v := 0) hx hb dX9_finding_19 (by decide) ?_
  refine lv_dup2_11 hx hb dX9_finding_20 rfl rfl ?_
  refine va_iald hx hb hK hP 1 0 rfl rfl (vp_in_nI (n := 0) (by decide) (by decide)) dX9_finding_21 ?_
  refine pp_ti (y := (upd ff 7 ((ff 7) + 1)) 0) rfl ?_
  refine lv_iconst (v := 1) hx hb dX9_finding_22 (by decide) ?_
  refine lv_iadd hx hb dX9_finding_23 ?_
  refine va_iast hx hb hK hP hD hS 1 0 rfl rfl (vp_in_nI (n := 0) (by decide) (by decide)) dX9_finding_24 (fun H locs hP hD hS => ?_)
  have hP : va_P (dC, dI) vwCl [(h0, .inr (7, [v0, v1, v2, v3, v4, .ref m1, v6, v7, v8, v9, v10, v11, v12, v13, v14, v15, v16, v17, v18, v19, v20, v21, v22, v23, v24, v25, v26, v27])), (m1, .inl (mc1, 8, .inl (upd (upd ff 7 ((ff 7) + 1)) 0 (((upd ff 7 ((ff 7) + 1)) 0) + 1))))] H := hP
  have hD : va_D A [(h0, .inr (7, [v0, v1, v2, v3, v4, .ref m1, v6, v7, v8, v9, v10, v11, v12, v13, v14, v15, v16, v17, v18, v19, v20, v21, v22, v23, v24, v25, v26, v27])), (m1, .inl (mc1, 8, .inl (upd (upd ff 7 ((ff 7) + 1)) 0 (((upd ff 7 ((ff 7) + 1)) 0) + 1))))] := hD
  refine lv_iload_n hx hb dX9_finding_25 rfl (lv_at hl 1 rfl) ?_
  exact W.iret (v := (-1000000007)) hx hb hr (fun t ht hW => ⟨⟨(-1000000007), (), rfl, rfl, trivial⟩, hS.F ht⟩) hS.2.2 dX9_finding_26

def w_m_within : List Cond := .code yX9_within cX9_within 3 (some .boolean) :: (([] : List Cond))
set_option maxHeartbeats 4000000 in
set_option maxRecDepth 100000 in
theorem m_within (l : Launch) (dC : Nat → ClassId) (dI : Nat → Nat → Nat) (ad : Nat → Nat) (a : Int32) (lo : Int32) (hi : Int32) : Met l yX9_within w_m_within ({ frames := 0, cells := 0, slots := 0, locals := 0 } : Room) (va_Pc [.int a, .int lo, .int hi] (preS dC dI ad [] [])) (vp_Si (fun r => ((lo ≤ a ∧ a ≤ hi) → r = 1) ∧ (¬ (lo ≤ a ∧ a ≤ hi) → r = 0))) 0 0 (fun _ => False) := by
  refine Met.ofW (cc := cX9_within) (maxL := 3) (ret := (some .boolean)) (by decide) rfl ?_
  intro p e s m args below meth c s₁ B hml hv
  obtain ⟨rfl, hP, hK, hev⟩ := hv
  have hx := B.exec
  have hb := B.bytes
  have hr := B.returns
  have hts := atoms_spec (ws := w_m_within) B.pre
  have hown : s.vm.findClass RX9 = some m.cls := findClass_of_methodNamed B.named
  have hlocks := B.notSynchronized
  have hP : va_P (dC, dI) vwCl [] s.heap := hP
  have hl := lv_entry ([.int a, .int lo, .int hi]) (n := 3) (Nat.le_of_ble_eq_true rfl)
  rw [lg_entry_eq]
  generalize (lg_sl ([.int a, .int lo, .int hi]) ++ List.replicate (3 - (lg_sl ([.int a, .int lo, .int hi])).length) Slot.unset).toArray = ls at hl ⊢
  have hl : lv_has ls 3 [(0, .int a), (1, .int lo), (2, .int hi)] := hl
  refine lv_iload_n hx hb dX9_within_0 rfl (lv_at hl 0 rfl) ?_
  refine lv_iload_n hx hb dX9_within_1 rfl (lv_at hl 1 rfl) ?_
  refine lv_icmp_lt (tgt := 14) hx hb dX9_within_2 (by decide) (fun c_1 => ?_) (fun c_1 => ?_)
  · skip
    refine lv_iconst (v := 0) hx hb dX9_within_14 (by decide) ?_
    exact W.zret (v := 0) hx hb hr (by decide) (fun t ht hW => ⟨0, rfl, ⟨(fun h => (by first | rfl | (exfalso; simp only [fa_lt, fa_le, fa_eq, and_true, true_and, and_false, false_and, not_true_eq_false, not_false_eq_true, li_0, li_1, li_2, li_3, li_4, li_5, li_6, li_7, li_8, li_9, li_10, li_12, li_15, li_16, li_20, li_30, li_34, li_38, li_40, li_63, li_64, li_65, li_78, li_120, li_1000, li_4000, li_10000, li_11077, li_255, li_65535, li_m1, li_m2, li_m1000000001, li_m1000000002, li_m1000000003, li_m1000000004, li_m1000000005, li_m1000000006, li_m1000000007] at c_1 h <;> omega) | (simp only [fa_lt, fa_le, fa_eq, and_true, true_and, and_false, false_and, not_true_eq_false, not_false_eq_true, li_0, li_1, li_2, li_3, li_4, li_5, li_6, li_7, li_8, li_9, li_10, li_12, li_15, li_16, li_20, li_30, li_34, li_38, li_40, li_63, li_64, li_65, li_78, li_120, li_1000, li_4000, li_10000, li_11077, li_255, li_65535, li_m1, li_m2, li_m1000000001, li_m1000000002, li_m1000000003, li_m1000000004, li_m1000000005, li_m1000000006, li_m1000000007] at c_1 h ⊢ <;> omega))), (fun g0 => rfl)⟩, ht⟩) (fun _ h => absurd h List.not_mem_nil) dX9_within_15
  · skip
    refine lv_iload_n hx hb dX9_within_5 rfl (lv_at hl 0 rfl) ?_
    refine lv_iload_n hx hb dX9_within_6 rfl (lv_at hl 2 rfl) ?_
    refine lv_icmp_gt (tgt := 14) hx hb dX9_within_7 (by decide) (fun c_2 => ?_) (fun c_2 => ?_)
    · skip
      refine lv_iconst (v := 0) hx hb dX9_within_14 (by decide) ?_
      exact W.zret (v := 0) hx hb hr (by decide) (fun t ht hW => ⟨0, rfl, ⟨(fun h => (by first | rfl | (exfalso; simp only [fa_lt, fa_le, fa_eq, and_true, true_and, and_false, false_and, not_true_eq_false, not_false_eq_true, li_0, li_1, li_2, li_3, li_4, li_5, li_6, li_7, li_8, li_9, li_10, li_12, li_15, li_16, li_20, li_30, li_34, li_38, li_40, li_63, li_64, li_65, li_78, li_120, li_1000, li_4000, li_10000, li_11077, li_255, li_65535, li_m1, li_m2, li_m1000000001, li_m1000000002, li_m1000000003, li_m1000000004, li_m1000000005, li_m1000000006, li_m1000000007] at c_1 c_2 h <;> omega) | (simp only [fa_lt, fa_le, fa_eq, and_true, true_and, and_false, false_and, not_true_eq_false, not_false_eq_true, li_0, li_1, li_2, li_3, li_4, li_5, li_6, li_7, li_8, li_9, li_10, li_12, li_15, li_16, li_20, li_30, li_34, li_38, li_40, li_63, li_64, li_65, li_78, li_120, li_1000, li_4000, li_10000, li_11077, li_255, li_65535, li_m1, li_m2, li_m1000000001, li_m1000000002, li_m1000000003, li_m1000000004, li_m1000000005, li_m1000000006, li_m1000000007] at c_1 c_2 h ⊢ <;> omega))), (fun g0 => rfl)⟩, ht⟩) (fun _ h => absurd h List.not_mem_nil) dX9_within_15
    · skip
      refine lv_iconst (v := 1) hx hb dX9_within_10 (by decide) ?_
      refine lv_goto (tgt := 15) hx hb dX9_within_11 (by decide) ?_
      exact W.zret (v := 1) hx hb hr (by decide) (fun t ht hW => ⟨1, rfl, ⟨(fun h => rfl), (fun g0 => (by first | rfl | (exfalso; simp only [fa_lt, fa_le, fa_eq, and_true, true_and, and_false, false_and, not_true_eq_false, not_false_eq_true, li_0, li_1, li_2, li_3, li_4, li_5, li_6, li_7, li_8, li_9, li_10, li_12, li_15, li_16, li_20, li_30, li_34, li_38, li_40, li_63, li_64, li_65, li_78, li_120, li_1000, li_4000, li_10000, li_11077, li_255, li_65535, li_m1, li_m2, li_m1000000001, li_m1000000002, li_m1000000003, li_m1000000004, li_m1000000005, li_m1000000006, li_m1000000007] at c_1 c_2 g0 <;> omega) | (simp only [fa_lt, fa_le, fa_eq, and_true, true_and, and_false, false_and, not_true_eq_false, not_false_eq_true, li_0, li_1, li_2, li_3, li_4, li_5, li_6, li_7, li_8, li_9, li_10, li_12, li_15, li_16, li_20, li_30, li_34, li_38, li_40, li_63, li_64, li_65, li_78, li_120, li_1000, li_4000, li_10000, li_11077, li_255, li_65535, li_m1, li_m2, li_m1000000001, li_m1000000002, li_m1000000003, li_m1000000004, li_m1000000005, li_m1000000006, li_m1000000007] at c_1 c_2 g0 ⊢ <;> omega)))⟩, ht⟩) (fun _ h => absurd h List.not_mem_nil) dX9_within_15

def w_m_isKind : List Cond := .code yX9_isKind cX9_isKind 1 (some .boolean) :: (([.methodLink RX9 75 yX9_within, .static yX9_within, .initialized RX9, .code yX9_within cX9_within 3 (some .boolean)] : List Cond))
set_option maxRecDepth 20000 in
theorem g_m_isKind_m_within_75 : GoodIn w_m_isKind (va_wsS RX9 75 yX9_within w_m_within) := goodIn_r _ [1, 2, 3, 4] rfl (by decide +kernel)
set_option maxHeartbeats 4000000 in
set_option maxRecDepth 100000 in
theorem m_isKind (l : Launch) (dC : Nat → ClassId) (dI : Nat → Nat → Nat) (ad : Nat → Nat) (a : Int32) : Met l yX9_isKind w_m_isKind ({ frames := 1, cells := 0, slots := 0, locals := 22 } : Room) (va_Pc [.int a] (preS dC dI ad [] [])) (vp_Si (fun r => ((0 ≤ a ∧ a ≤ 5) → r = 1) ∧ (¬ (0 ≤ a ∧ a ≤ 5) → r = 0))) 0 0 (fun _ => False) := by
  refine Met.ofW (cc := cX9_isKind) (maxL := 1) (ret := (some .boolean)) (by decide) rfl ?_
  intro p e s m args below meth c s₁ B hml hv
  obtain ⟨rfl, hP, hK, hev⟩ := hv
  have hx := B.exec
  have hb := B.bytes
  have hr := B.returns
  have hts := atoms_spec (ws := w_m_isKind) B.pre
  have hown : s.vm.findClass RX9 = some m.cls := findClass_of_methodNamed B.named
  have hlocks := B.notSynchronized
  have hP : va_P (dC, dI) vwCl [] s.heap := hP
  have hl := lv_entry ([.int a]) (n := 1) (Nat.le_of_ble_eq_true rfl)
  rw [lg_entry_eq]
  generalize (lg_sl ([.int a]) ++ List.replicate (1 - (lg_sl ([.int a])).length) Slot.unset).toArray = ls at hl ⊢
  have hl : lv_has ls 1 [(0, .int a)] := hl
  refine lv_iload_n hx hb dX9_isKind_0 rfl (lv_at hl 0 rfl) ?_
  refine lv_iconst (v := 0) hx hb dX9_isKind_1 (by decide) ?_
  refine lv_iconst (v := 5) hx hb dX9_isKind_2 (by decide) ?_
  have hPc := hP.sub (ws' := []) [] rfl
  have hKc := hK.sub (tys' := []) [] rfl
  refine vp_callSi (W.runS (As := [.int a, .int 0, .int 5]) (rest := []) ⟨hx, hb, hml, hown, hts⟩ (m_within l dC dI ad a 0 5 ) (va_cwS 3 hts g_m_isKind_m_within_75 rfl rfl rfl (by decide +kernel) ⟨(Nat.le_of_ble_eq_true rfl), (Nat.le_of_ble_eq_true rfl)⟩) ⟨preS_blind, fun U hU hW => ⟨rfl, preS_at hU hW hPc hKc hev⟩⟩ rfl rfl hl.1 rfl (lv_room (Nat.le_of_ble_eq_true rfl)) dX9_isKind_3 ⟨(Nat.le_of_ble_eq_true rfl), (Nat.le_of_ble_eq_true rfl)⟩) (fun r_1 hw => ?_)
  by_cases c_2 : 0 ≤ a ∧ a ≤ 5
  · skip
    have hw := hw.1 c_2
    subst hw
    exact W.zret (v := 1) hx hb hr (by decide) (fun t ht hW => ⟨1, rfl, ⟨(fun h => rfl), (fun g0 => (by first | rfl | (exfalso; simp only [fa_lt, fa_le, fa_eq, and_true, true_and, and_false, false_and, not_true_eq_false, not_false_eq_true, li_0, li_1, li_2, li_3, li_4, li_5, li_6, li_7, li_8, li_9, li_10, li_12, li_15, li_16, li_20, li_30, li_34, li_38, li_40, li_63, li_64, li_65, li_78, li_120, li_1000, li_4000, li_10000, li_11077, li_255, li_65535, li_m1, li_m2, li_m1000000001, li_m1000000002, li_m1000000003, li_m1000000004, li_m1000000005, li_m1000000006, li_m1000000007] at c_2 g0 <;> omega) | (simp only [fa_lt, fa_le, fa_eq, and_true, true_and, and_false, false_and, not_true_eq_false, not_false_eq_true, li_0, li_1, li_2, li_3, li_4, li_5, li_6, li_7, li_8, li_9, li_10, li_12, li_15, li_16, li_20, li_30, li_34, li_38, li_40, li_63, li_64, li_65, li_78, li_120, li_1000, li_4000, li_10000, li_11077, li_255, li_65535, li_m1, li_m2, li_m1000000001, li_m1000000002, li_m1000000003, li_m1000000004, li_m1000000005, li_m1000000006, li_m1000000007] at c_2 g0 ⊢ <;> omega)))⟩, ht⟩) (fun _ h => absurd h List.not_mem_nil) dX9_isKind_6
  · skip
    have hw := hw.2 c_2
    subst hw
    exact W.zret (v := 0) hx hb hr (by decide) (fun t ht hW => ⟨0, rfl, ⟨(fun h => (by first | rfl | (exfalso; simp only [fa_lt, fa_le, fa_eq, and_true, true_and, and_false, false_and, not_true_eq_false, not_false_eq_true, li_0, li_1, li_2, li_3, li_4, li_5, li_6, li_7, li_8, li_9, li_10, li_12, li_15, li_16, li_20, li_30, li_34, li_38, li_40, li_63, li_64, li_65, li_78, li_120, li_1000, li_4000, li_10000, li_11077, li_255, li_65535, li_m1, li_m2, li_m1000000001, li_m1000000002, li_m1000000003, li_m1000000004, li_m1000000005, li_m1000000006, li_m1000000007] at c_2 h <;> omega) | (simp only [fa_lt, fa_le, fa_eq, and_true, true_and, and_false, false_and, not_true_eq_false, not_false_eq_true, li_0, li_1, li_2, li_3, li_4, li_5, li_6, li_7, li_8, li_9, li_10, li_12, li_15, li_16, li_20, li_30, li_34, li_38, li_40, li_63, li_64, li_65, li_78, li_120, li_1000, li_4000, li_10000, li_11077, li_255, li_65535, li_m1, li_m2, li_m1000000001, li_m1000000002, li_m1000000003, li_m1000000004, li_m1000000005, li_m1000000006, li_m1000000007] at c_2 h ⊢ <;> omega))), (fun g0 => rfl)⟩, ht⟩) (fun _ h => absurd h List.not_mem_nil) dX9_isKind_6

def w_m_isSheet : List Cond := .code yX9_isSheet cX9_isSheet 1 (some .boolean) :: (([.methodLink RX9 75 yX9_within, .static yX9_within, .initialized RX9, .code yX9_within cX9_within 3 (some .boolean)] : List Cond))
set_option maxRecDepth 20000 in
theorem g_m_isSheet_m_within_75 : GoodIn w_m_isSheet (va_wsS RX9 75 yX9_within w_m_within) := goodIn_r _ [1, 2, 3, 4] rfl (by decide +kernel)
set_option maxHeartbeats 4000000 in
set_option maxRecDepth 100000 in
theorem m_isSheet (l : Launch) (dC : Nat → ClassId) (dI : Nat → Nat → Nat) (ad : Nat → Nat) (a : Int32) : Met l yX9_isSheet w_m_isSheet ({ frames := 1, cells := 0, slots := 0, locals := 22 } : Room) (va_Pc [.int a] (preS dC dI ad [] [])) (vp_Si (fun r => ((0 ≤ a ∧ a ≤ 3) → r = 1) ∧ (¬ (0 ≤ a ∧ a ≤ 3) → r = 0))) 0 0 (fun _ => False) := by
  refine Met.ofW (cc := cX9_isSheet) (maxL := 1) (ret := (some .boolean)) (by decide) rfl ?_
  intro p e s m args below meth c s₁ B hml hv
  obtain ⟨rfl, hP, hK, hev⟩ := hv
  have hx := B.exec
  have hb := B.bytes
  have hr := B.returns
  have hts := atoms_spec (ws := w_m_isSheet) B.pre
  have hown : s.vm.findClass RX9 = some m.cls := findClass_of_methodNamed B.named
  have hlocks := B.notSynchronized
  have hP : va_P (dC, dI) vwCl [] s.heap := hP
  have hl := lv_entry ([.int a]) (n := 1) (Nat.le_of_ble_eq_true rfl)
  rw [lg_entry_eq]
  generalize (lg_sl ([.int a]) ++ List.replicate (1 - (lg_sl ([.int a])).length) Slot.unset).toArray = ls at hl ⊢
  have hl : lv_has ls 1 [(0, .int a)] := hl
  refine lv_iload_n hx hb dX9_isSheet_0 rfl (lv_at hl 0 rfl) ?_
  refine lv_iconst (v := 0) hx hb dX9_isSheet_1 (by decide) ?_
  refine lv_iconst (v := 3) hx hb dX9_isSheet_2 (by decide) ?_
  have hPc := hP.sub (ws' := []) [] rfl
  have hKc := hK.sub (tys' := []) [] rfl
  refine vp_callSi (W.runS (As := [.int a, .int 0, .int 3]) (rest := []) ⟨hx, hb, hml, hown, hts⟩ (m_within l dC dI ad a 0 3 ) (va_cwS 3 hts g_m_isSheet_m_within_75 rfl rfl rfl (by decide +kernel) ⟨(Nat.le_of_ble_eq_true rfl), (Nat.le_of_ble_eq_true rfl)⟩) ⟨preS_blind, fun U hU hW => ⟨rfl, preS_at hU hW hPc hKc hev⟩⟩ rfl rfl hl.1 rfl (lv_room (Nat.le_of_ble_eq_true rfl)) dX9_isSheet_3 ⟨(Nat.le_of_ble_eq_true rfl), (Nat.le_of_ble_eq_true rfl)⟩) (fun r_1 hw => ?_)
  by_cases c_2 : 0 ≤ a ∧ a ≤ 3
  · skip
    have hw := hw.1 c_2
    subst hw
    exact W.zret (v := 1) hx hb hr (by decide) (fun t ht hW => ⟨1, rfl, ⟨(fun h => rfl), (fun g0 => (by first | rfl | (exfalso; simp only [fa_lt, fa_le, fa_eq, and_true, true_and, and_false, false_and, not_true_eq_false, not_false_eq_true, li_0, li_1, li_2, li_3, li_4, li_5, li_6, li_7, li_8, li_9, li_10, li_12, li_15, li_16, li_20, li_30, li_34, li_38, li_40, li_63, li_64, li_65, li_78, li_120, li_1000, li_4000, li_10000, li_11077, li_255, li_65535, li_m1, li_m2, li_m1000000001, li_m1000000002, li_m1000000003, li_m1000000004, li_m1000000005, li_m1000000006, li_m1000000007] at c_2 g0 <;> omega) | (simp only [fa_lt, fa_le, fa_eq, and_true, true_and, and_false, false_and, not_true_eq_false, not_false_eq_true, li_0, li_1, li_2, li_3, li_4, li_5, li_6, li_7, li_8, li_9, li_10, li_12, li_15, li_16, li_20, li_30, li_34, li_38, li_40, li_63, li_64, li_65, li_78, li_120, li_1000, li_4000, li_10000, li_11077, li_255, li_65535, li_m1, li_m2, li_m1000000001, li_m1000000002, li_m1000000003, li_m1000000004, li_m1000000005, li_m1000000006, li_m1000000007] at c_2 g0 ⊢ <;> omega)))⟩, ht⟩) (fun _ h => absurd h List.not_mem_nil) dX9_isSheet_6
  · skip
    have hw := hw.2 c_2
    subst hw
    exact W.zret (v := 0) hx hb hr (by decide) (fun t ht hW => ⟨0, rfl, ⟨(fun h => (by first | rfl | (exfalso; simp only [fa_lt, fa_le, fa_eq, and_true, true_and, and_false, false_and, not_true_eq_false, not_false_eq_true, li_0, li_1, li_2, li_3, li_4, li_5, li_6, li_7, li_8, li_9, li_10, li_12, li_15, li_16, li_20, li_30, li_34, li_38, li_40, li_63, li_64, li_65, li_78, li_120, li_1000, li_4000, li_10000, li_11077, li_255, li_65535, li_m1, li_m2, li_m1000000001, li_m1000000002, li_m1000000003, li_m1000000004, li_m1000000005, li_m1000000006, li_m1000000007] at c_2 h <;> omega) | (simp only [fa_lt, fa_le, fa_eq, and_true, true_and, and_false, false_and, not_true_eq_false, not_false_eq_true, li_0, li_1, li_2, li_3, li_4, li_5, li_6, li_7, li_8, li_9, li_10, li_12, li_15, li_16, li_20, li_30, li_34, li_38, li_40, li_63, li_64, li_65, li_78, li_120, li_1000, li_4000, li_10000, li_11077, li_255, li_65535, li_m1, li_m2, li_m1000000001, li_m1000000002, li_m1000000003, li_m1000000004, li_m1000000005, li_m1000000006, li_m1000000007] at c_2 h ⊢ <;> omega))), (fun g0 => rfl)⟩, ht⟩) (fun _ h => absurd h List.not_mem_nil) dX9_isSheet_6

def w_m_isShape : List Cond := .code yX9_isShape cX9_isShape 2 (some .boolean) :: (([.fieldLink RX9 9 "LampShapesModel" "now" "[I", .methodLink RX9 75 yX9_within, .static yX9_within, .initialized RX9, .code yX9_within cX9_within 3 (some .boolean)] : List Cond) ++ wsX90)
set_option maxRecDepth 20000 in
theorem g_m_isShape_m_within_75 : GoodIn w_m_isShape (va_wsS RX9 75 yX9_within w_m_within) := goodIn_r _ [2, 3, 4, 5] rfl (by decide +kernel)
set_option maxHeartbeats 4000000 in
set_option maxRecDepth 100000 in
theorem m_isShape (l : Launch) (dC : Nat → ClassId) (dI : Nat → Nat → Nat) (ad : Nat → Nat) (h0 : Nat) (a : Int32) (m0 : Nat) (v1 : Value) (v2 : Value) (v3 : Value) (v4 : Value) (v5 : Value) (v6 : Value) (v7 : Value) (v8 : Value) (v9 : Value) (v10 : Value) (v11 : Value) (v12 : Value) (v13 : Value) (v14 : Value) (v15 : Value) (v16 : Value) (v17 : Value) (v18 : Value) (v19 : Value) (v20 : Value) (v21 : Value) (v22 : Value) (v23 : Value) (v24 : Value) (v25 : Value) (v26 : Value) (v27 : Value) (mc0 : ClassId) (nf : Nat → Int32) (hnf : ∀ j, j < 38 → nf j = fr_n j) : Met l yX9_isShape w_m_isShape ({ frames := 1, cells := 0, slots := 0, locals := 22 } : Room) (va_Pc [.ref h0, .int a] (preS dC dI ad [(mc0, .int)] [(h0, .inr (7, [.ref m0, v1, v2, v3, v4, v5, v6, v7, v8, v9, v10, v11, v12, v13, v14, v15, v16, v17, v18, v19, v20, v21, v22, v23, v24, v25, v26, v27])), (m0, .inl (mc0, 38, .inl nf))])) (vp_Si (fun r => (r = 0))) 0 0 (fun _ => False) := by
  refine Met.ofW (cc := cX9_isShape) (maxL := 2) (ret := (some .boolean)) (by decide) rfl ?_
  intro p e s m args below meth c s₁ B hml hv
  obtain ⟨rfl, hP, hK, hev⟩ := hv
  have hx := B.exec
  have hb := B.bytes
  have hr := B.returns
  have hts := atoms_spec (ws := w_m_isShape) B.pre
  have hown : s.vm.findClass RX9 = some m.cls := findClass_of_methodNamed B.named
  have hlocks := B.notSynchronized
  have inX9 : ∀ w ∈ wsX90, w ∈ w_m_isShape := fun w h => List.mem_cons_of_mem _ (List.mem_append_right _ h)
  have hP : va_P (dC, dI) vwCl [(h0, .inr (7, [.ref m0, v1, v2, v3, v4, v5, v6, v7, v8, v9, v10, v11, v12, v13, v14, v15, v16, v17, v18, v19, v20, v21, v22, v23, v24, v25, v26, v27])), (m0, .inl (mc0, 38, .inl nf))] s.heap := hP
  have hl := lv_entry ([.ref h0, .int a]) (n := 2) (Nat.le_of_ble_eq_true rfl)
  rw [lg_entry_eq]
  generalize (lg_sl ([.ref h0, .int a]) ++ List.replicate (2 - (lg_sl ([.ref h0, .int a])).length) Slot.unset).toArray = ls at hl ⊢
  have hl : lv_has ls 2 [(0, .ref h0), (1, .int a)] := hl
  refine lv_iload_n hx hb dX9_isShape_0 rfl (lv_at hl 1 rfl) ?_
  refine lv_iconst (v := 0) hx hb dX9_isShape_1 (by decide) ?_
  refine lv_aload_n hx hb dX9_isShape_2 rfl (lv_at hl 0 rfl) ?_
  refine va_get (D := (dC, dI)) (ci := 7) (v := .ref m0) (C := RX9) (T := TX9) (N := 28) hx hb hts inX9 hown hK hP 0 rfl rfl 0 (by decide) (hts _ (List.mem_of_getElem? (i := 1) rfl)) (fun _ h9 => h9) rfl dX9_isShape_3 ?_
  refine lv_iconst (v := 0) hx hb dX9_isShape_6 (by decide) ?_
  refine va_iald hx hb hK hP 1 0 rfl rfl (vp_in_nI (n := 0) (by decide) (by decide)) dX9_isShape_7 ?_
  refine pp_ti (y := 0) ((hnf 0 (by decide)).trans (by decide)) ?_
  refine lv_iconst (v := 1) hx hb dX9_isShape_8 (by decide) ?_
  refine lv_isub hx hb dX9_isShape_9 ?_
  refine pp_ti (y := (-1)) (by decide) ?_
  have hPc := hP.sub (ws' := []) [] rfl
  have hKc := hK.sub (tys' := []) [] rfl
  refine vp_callSi (W.runS (As := [.int a, .int 0, .int (-1)]) (rest := []) ⟨hx, hb, hml, hown, hts⟩ (m_within l dC dI ad a 0 (-1) ) (va_cwS 3 hts g_m_isShape_m_within_75 rfl rfl rfl (by decide +kernel) ⟨(Nat.le_of_ble_eq_true rfl), (Nat.le_of_ble_eq_true rfl)⟩) ⟨preS_blind, fun U hU hW => ⟨rfl, preS_at hU hW hPc hKc hev⟩⟩ rfl rfl hl.1 rfl (lv_room (Nat.le_of_ble_eq_true rfl)) dX9_isShape_10 ⟨(Nat.le_of_ble_eq_true rfl), (Nat.le_of_ble_eq_true rfl)⟩) (fun r_1 hw => ?_)
  by_cases c_2 : 0 ≤ a ∧ a ≤ (-1)
  · skip
    exfalso; simp only [fa_lt, fa_le, fa_eq, and_true, true_and, and_false, false_and, not_true_eq_false, not_false_eq_true, li_0, li_1, li_2, li_3, li_4, li_5, li_6, li_7, li_8, li_9, li_10, li_12, li_15, li_16, li_20, li_30, li_34, li_38, li_40, li_63, li_64, li_65, li_78, li_120, li_1000, li_4000, li_10000, li_11077, li_255, li_65535, li_m1, li_m2, li_m1000000001, li_m1000000002, li_m1000000003, li_m1000000004, li_m1000000005, li_m1000000006, li_m1000000007] at c_2 <;> omega
  · skip
    have hw := hw.2 c_2
    subst hw
    exact W.zret (v := 0) hx hb hr (by decide) (fun t ht hW => ⟨0, rfl, rfl, ht⟩) (fun _ h => absurd h List.not_mem_nil) dX9_isShape_13

def w_m_isScene : List Cond := .code yX9_isScene cX9_isScene 2 (some .boolean) :: (([.fieldLink RX9 9 "LampShapesModel" "now" "[I", .methodLink RX9 75 yX9_within, .static yX9_within, .initialized RX9, .code yX9_within cX9_within 3 (some .boolean)] : List Cond) ++ wsX90)
set_option maxRecDepth 20000 in
theorem g_m_isScene_m_within_75 : GoodIn w_m_isScene (va_wsS RX9 75 yX9_within w_m_within) := goodIn_r _ [2, 3, 4, 5] rfl (by decide +kernel)
set_option maxHeartbeats 4000000 in
set_option maxRecDepth 100000 in
theorem m_isScene (l : Launch) (dC : Nat → ClassId) (dI : Nat → Nat → Nat) (ad : Nat → Nat) (h0 : Nat) (a : Int32) (m0 : Nat) (v1 : Value) (v2 : Value) (v3 : Value) (v4 : Value) (v5 : Value) (v6 : Value) (v7 : Value) (v8 : Value) (v9 : Value) (v10 : Value) (v11 : Value) (v12 : Value) (v13 : Value) (v14 : Value) (v15 : Value) (v16 : Value) (v17 : Value) (v18 : Value) (v19 : Value) (v20 : Value) (v21 : Value) (v22 : Value) (v23 : Value) (v24 : Value) (v25 : Value) (v26 : Value) (v27 : Value) (mc0 : ClassId) (nf : Nat → Int32) (hnf : ∀ j, j < 38 → nf j = fr_n j) : Met l yX9_isScene w_m_isScene ({ frames := 1, cells := 0, slots := 0, locals := 22 } : Room) (va_Pc [.ref h0, .int a] (preS dC dI ad [(mc0, .int)] [(h0, .inr (7, [.ref m0, v1, v2, v3, v4, v5, v6, v7, v8, v9, v10, v11, v12, v13, v14, v15, v16, v17, v18, v19, v20, v21, v22, v23, v24, v25, v26, v27])), (m0, .inl (mc0, 38, .inl nf))])) (vp_Si (fun r => (r = 0))) 0 0 (fun _ => False) := by
  refine Met.ofW (cc := cX9_isScene) (maxL := 2) (ret := (some .boolean)) (by decide) rfl ?_
  intro p e s m args below meth c s₁ B hml hv
  obtain ⟨rfl, hP, hK, hev⟩ := hv
  have hx := B.exec
  have hb := B.bytes
  have hr := B.returns
  have hts := atoms_spec (ws := w_m_isScene) B.pre
  have hown : s.vm.findClass RX9 = some m.cls := findClass_of_methodNamed B.named
  have hlocks := B.notSynchronized
  have inX9 : ∀ w ∈ wsX90, w ∈ w_m_isScene := fun w h => List.mem_cons_of_mem _ (List.mem_append_right _ h)
  have hP : va_P (dC, dI) vwCl [(h0, .inr (7, [.ref m0, v1, v2, v3, v4, v5, v6, v7, v8, v9, v10, v11, v12, v13, v14, v15, v16, v17, v18, v19, v20, v21, v22, v23, v24, v25, v26, v27])), (m0, .inl (mc0, 38, .inl nf))] s.heap := hP
  have hl := lv_entry ([.ref h0, .int a]) (n := 2) (Nat.le_of_ble_eq_true rfl)
  rw [lg_entry_eq]
  generalize (lg_sl ([.ref h0, .int a]) ++ List.replicate (2 - (lg_sl ([.ref h0, .int a])).length) Slot.unset).toArray = ls at hl ⊢
  have hl : lv_has ls 2 [(0, .ref h0), (1, .int a)] := hl
  refine lv_iload_n hx hb dX9_isScene_0 rfl (lv_at hl 1 rfl) ?_
  refine lv_iconst (v := 0) hx hb dX9_isScene_1 (by decide) ?_
  refine lv_aload_n hx hb dX9_isScene_2 rfl (lv_at hl 0 rfl) ?_
  refine va_get (D := (dC, dI)) (ci := 7) (v := .ref m0) (C := RX9) (T := TX9) (N := 28) hx hb hts inX9 hown hK hP 0 rfl rfl 0 (by decide) (hts _ (List.mem_of_getElem? (i := 1) rfl)) (fun _ h9 => h9) rfl dX9_isScene_3 ?_
  refine lv_iconst (v := 1) hx hb dX9_isScene_6 (by decide) ?_
  refine va_iald hx hb hK hP 1 0 rfl rfl (vp_in_nI (n := 1) (by decide) (by decide)) dX9_isScene_7 ?_
  refine pp_ti (y := 0) ((hnf 1 (by decide)).trans (by decide)) ?_
  refine lv_iconst (v := 1) hx hb dX9_isScene_8 (by decide) ?_
  refine lv_isub hx hb dX9_isScene_9 ?_
  refine pp_ti (y := (-1)) (by decide) ?_
  have hPc := hP.sub (ws' := []) [] rfl
  have hKc := hK.sub (tys' := []) [] rfl
  refine vp_callSi (W.runS (As := [.int a, .int 0, .int (-1)]) (rest := []) ⟨hx, hb, hml, hown, hts⟩ (m_within l dC dI ad a 0 (-1) ) (va_cwS 3 hts g_m_isScene_m_within_75 rfl rfl rfl (by decide +kernel) ⟨(Nat.le_of_ble_eq_true rfl), (Nat.le_of_ble_eq_true rfl)⟩) ⟨preS_blind, fun U hU hW => ⟨rfl, preS_at hU hW hPc hKc hev⟩⟩ rfl rfl hl.1 rfl (lv_room (Nat.le_of_ble_eq_true rfl)) dX9_isScene_10 ⟨(Nat.le_of_ble_eq_true rfl), (Nat.le_of_ble_eq_true rfl)⟩) (fun r_1 hw => ?_)
  by_cases c_2 : 0 ≤ a ∧ a ≤ (-1)
  · skip
    exfalso; simp only [fa_lt, fa_le, fa_eq, and_true, true_and, and_false, false_and, not_true_eq_false, not_false_eq_true, li_0, li_1, li_2, li_3, li_4, li_5, li_6, li_7, li_8, li_9, li_10, li_12, li_15, li_16, li_20, li_30, li_34, li_38, li_40, li_63, li_64, li_65, li_78, li_120, li_1000, li_4000, li_10000, li_11077, li_255, li_65535, li_m1, li_m2, li_m1000000001, li_m1000000002, li_m1000000003, li_m1000000004, li_m1000000005, li_m1000000006, li_m1000000007] at c_2 <;> omega
  · skip
    have hw := hw.2 c_2
    subst hw
    exact W.zret (v := 0) hx hb hr (by decide) (fun t ht hW => ⟨0, rfl, rfl, ht⟩) (fun _ h => absurd h List.not_mem_nil) dX9_isScene_13

def w_m_made : List Cond := .code yX9_made cX9_made 5 (some .int) :: (([.fieldLink RX9 9 "LampShapesModel" "now" "[I"] : List Cond) ++ wsX90)
set_option maxHeartbeats 4000000 in
set_option maxRecDepth 100000 in
theorem m_made (l : Launch) (dC : Nat → ClassId) (dI : Nat → Nat → Nat) (ad : Nat → Nat) (h0 : Nat) (a : Int32) (b : Int32) (m0 : Nat) (v1 : Value) (v2 : Value) (v3 : Value) (v4 : Value) (v5 : Value) (v6 : Value) (v7 : Value) (v8 : Value) (v9 : Value) (v10 : Value) (v11 : Value) (v12 : Value) (v13 : Value) (v14 : Value) (v15 : Value) (v16 : Value) (v17 : Value) (v18 : Value) (v19 : Value) (v20 : Value) (v21 : Value) (v22 : Value) (v23 : Value) (v24 : Value) (v25 : Value) (v26 : Value) (v27 : Value) (mc0 : ClassId) (nf : Nat → Int32) (sz : Nat) (hnf : ∀ j, j < 38 → nf j = fr_n j) : Met l yX9_made w_m_made ({ frames := 0, cells := 0, slots := 0, locals := 0 } : Room) (va_Pc [.ref h0, .int a, .int b] (preM dC dI ad [(mc0, .int)] [(h0, .inr (7, [.ref m0, v1, v2, v3, v4, v5, v6, v7, v8, v9, v10, v11, v12, v13, v14, v15, v16, v17, v18, v19, v20, v21, v22, v23, v24, v25, v26, v27])), (m0, .inl (mc0, 38, .inl nf))] sz)) (va_Qi (fun (r : Int32) (_ : Unit) => (r = 0)) (fun _ _ => True) (va_A [(h0, .inr (7, [.ref m0, v1, v2, v3, v4, v5, v6, v7, v8, v9, v10, v11, v12, v13, v14, v15, v16, v17, v18, v19, v20, v21, v22, v23, v24, v25, v26, v27])), (m0, .inl (mc0, 38, .inl nf))] sz)) 0 0 (va_A [(h0, .inr (7, [.ref m0, v1, v2, v3, v4, v5, v6, v7, v8, v9, v10, v11, v12, v13, v14, v15, v16, v17, v18, v19, v20, v21, v22, v23, v24, v25, v26, v27])), (m0, .inl (mc0, 38, .inl nf))] sz) := by
  refine Met.ofW (cc := cX9_made) (maxL := 5) (ret := (some .int)) (by decide) rfl ?_
  intro p e s m args below meth c s₁ B hml hv
  obtain ⟨rfl, hsz, hP, hK, hD0, hev⟩ := hv
  have hx := B.exec
  have hb := B.bytes
  have hr := B.returns
  have hts := atoms_spec (ws := w_m_made) B.pre
  have hown : s.vm.findClass RX9 = some m.cls := findClass_of_methodNamed B.named
  have hlocks := B.notSynchronized
  have inX9 : ∀ w ∈ wsX90, w ∈ w_m_made := fun w h => List.mem_cons_of_mem _ (List.mem_append_right _ h)
  subst hsz
  have hD := hD0.self (sz := s.heap.size)
  generalize hAe : va_A [(h0, .inr (7, [.ref m0, v1, v2, v3, v4, v5, v6, v7, v8, v9, v10, v11, v12, v13, v14, v15, v16, v17, v18, v19, v20, v21, v22, v23, v24, v25, v26, v27])), (m0, .inl (mc0, 38, .inl nf))] s.heap.size = A at hD ⊢
  have hA : ∀ q : Nat, s.heap.size ≤ q → A q := fun q h => by rw [← hAe]; exact Or.inr h
  have hS : va_S A s.heap s.heap [] := va_S.rf
  have hP : va_P (dC, dI) vwCl [(h0, .inr (7, [.ref m0, v1, v2, v3, v4, v5, v6, v7, v8, v9, v10, v11, v12, v13, v14, v15, v16, v17, v18, v19, v20, v21, v22, v23, v24, v25, v26, v27])), (m0, .inl (mc0, 38, .inl nf))] s.heap := hP
  have hl := lv_entry ([.ref h0, .int a, .int b]) (n := 5) (Nat.le_of_ble_eq_true rfl)
  rw [lg_entry_eq]
  generalize (lg_sl ([.ref h0, .int a, .int b]) ++ List.replicate (5 - (lg_sl ([.ref h0, .int a, .int b])).length) Slot.unset).toArray = ls at hl ⊢
  have hl : lv_has ls 5 [(0, .ref h0), (1, .int a), (2, .int b)] := hl
  refine lv_aload_n hx hb dX9_made_0 rfl (lv_at hl 0 rfl) ?_
  refine va_get (D := (dC, dI)) (ci := 7) (v := .ref m0) (C := RX9) (T := TX9) (N := 28) hx hb hts inX9 hown hK hP 0 rfl rfl 0 (by decide) (hts _ (List.mem_of_getElem? (i := 1) rfl)) (fun _ h9 => h9) rfl dX9_made_1 ?_
  refine lv_iconst (v := 0) hx hb dX9_made_4 (by decide) ?_
  refine va_iald hx hb hK hP 1 0 rfl rfl (vp_in_nI (n := 0) (by decide) (by decide)) dX9_made_5 ?_
  refine pp_ti (y := 0) ((hnf 0 (by decide)).trans (by decide)) ?_
  refine lv_istore_n (lv' := [(3, .int 0), (0, .ref h0), (1, .int a), (2, .int b)]) hx hb dX9_made_6 rfl hl (by decide) rfl (fun ls hl => ?_)
  refine lv_iconst (v := 3) hx hb dX9_made_7 (by decide) ?_
  refine lv_iconst (v := 3) hx hb dX9_made_8 (by decide) ?_
  refine lv_iload_n hx hb dX9_made_9 rfl (lv_at hl 0 rfl) ?_
  refine lv_imul hx hb dX9_made_10 ?_
  refine pp_ti (y := 0) (by decide) ?_
  refine lv_iadd hx hb dX9_made_11 ?_
  refine pp_ti (y := 3) (by decide) ?_
  refine lv_istore (lv' := [(4, .int 3), (3, .int 0), (0, .ref h0), (1, .int a), (2, .int b)]) hx hb dX9_made_12 hl (by decide) rfl (fun ls hl => ?_)
  refine lv_aload_n hx hb dX9_made_14 rfl (lv_at hl 2 rfl) ?_
  refine va_get (D := (dC, dI)) (ci := 7) (v := .ref m0) (C := RX9) (T := TX9) (N := 28) hx hb hts inX9 hown hK hP 0 rfl rfl 0 (by decide) (hts _ (List.mem_of_getElem? (i := 1) rfl)) (fun _ h9 => h9) rfl dX9_made_15 ?_
  refine lv_iload hx hb dX9_made_18 (lv_at hl 0 rfl) ?_
  refine lv_iconst (v := 0) hx hb dX9_made_20 (by decide) ?_
  refine lv_iadd hx hb dX9_made_21 ?_
  refine pp_ti (y := 3) (by decide) ?_
  refine lv_iload_n hx hb dX9_made_22 rfl (lv_at hl 3 rfl) ?_
  refine va_iast hx hb hK hP hD hS 1 0 rfl rfl (vp_in_nI (n := 3) (by decide) (by decide)) dX9_made_23 (fun H locs hP hD hS => ?_)
  have hP : va_P (dC, dI) vwCl [(h0, .inr (7, [.ref m0, v1, v2, v3, v4, v5, v6, v7, v8, v9, v10, v11, v12, v13, v14, v15, v16, v17, v18, v19, v20, v21, v22, v23, v24, v25, v26, v27])), (m0, .inl (mc0, 38, .inl (upd nf 3 a)))] H := hP
  have hD : va_D A [(h0, .inr (7, [.ref m0, v1, v2, v3, v4, v5, v6, v7, v8, v9, v10, v11, v12, v13, v14, v15, v16, v17, v18, v19, v20, v21, v22, v23, v24, v25, v26, v27])), (m0, .inl (mc0, 38, .inl (upd nf 3 a)))] := hD
  refine lv_aload_n hx hb dX9_made_24 rfl (lv_at hl 2 rfl) ?_
  refine va_get (D := (dC, dI)) (ci := 7) (v := .ref m0) (C := RX9) (T := TX9) (N := 28) hx hb hts inX9 hown hK hP 0 rfl rfl 0 (by decide) (hts _ (List.mem_of_getElem? (i := 1) rfl)) (fun _ h9 => h9) rfl dX9_made_25 ?_
  refine lv_iload hx hb dX9_made_28 (lv_at hl 0 rfl) ?_
  refine lv_iconst (v := 1) hx hb dX9_made_30 (by decide) ?_
  refine lv_iadd hx hb dX9_made_31 ?_
  refine pp_ti (y := 4) (by decide) ?_
  refine lv_iload_n hx hb dX9_made_32 rfl (lv_at hl 4 rfl) ?_
  refine va_iast hx hb hK hP hD hS 1 0 rfl rfl (vp_in_nI (n := 4) (by decide) (by decide)) dX9_made_33 (fun H locs hP hD hS => ?_)
  have hP : va_P (dC, dI) vwCl [(h0, .inr (7, [.ref m0, v1, v2, v3, v4, v5, v6, v7, v8, v9, v10, v11, v12, v13, v14, v15, v16, v17, v18, v19, v20, v21, v22, v23, v24, v25, v26, v27])), (m0, .inl (mc0, 38, .inl (upd (upd nf 3 a) 4 b)))] H := hP
  have hD : va_D A [(h0, .inr (7, [.ref m0, v1, v2, v3, v4, v5, v6, v7, v8, v9, v10, v11, v12, v13, v14, v15, v16, v17, v18, v19, v20, v21, v22, v23, v24, v25, v26, v27])), (m0, .inl (mc0, 38, .inl (upd (upd nf 3 a) 4 b)))] := hD
  refine lv_aload_n hx hb dX9_made_34 rfl (lv_at hl 2 rfl) ?_
  refine va_get (D := (dC, dI)) (ci := 7) (v := .ref m0) (C := RX9) (T := TX9) (N := 28) hx hb hts inX9 hown hK hP 0 rfl rfl 0 (by decide) (hts _ (List.mem_of_getElem? (i := 1) rfl)) (fun _ h9 => h9) rfl dX9_made_35 ?_
  refine lv_iload hx hb dX9_made_38 (lv_at hl 0 rfl) ?_
  refine lv_iconst (v := 2) hx hb dX9_made_40 (by decide) ?_
  refine lv_iadd hx hb dX9_made_41 ?_
  refine pp_ti (y := 5) (by decide) ?_
  refine lv_iconst (v := 0) hx hb dX9_made_42 (by decide) ?_
  refine va_iast hx hb hK hP hD hS 1 0 rfl rfl (vp_in_nI (n := 5) (by decide) (by decide)) dX9_made_43 (fun H locs hP hD hS => ?_)
  have hP : va_P (dC, dI) vwCl [(h0, .inr (7, [.ref m0, v1, v2, v3, v4, v5, v6, v7, v8, v9, v10, v11, v12, v13, v14, v15, v16, v17, v18, v19, v20, v21, v22, v23, v24, v25, v26, v27])), (m0, .inl (mc0, 38, .inl (upd (upd (upd nf 3 a) 4 b) 5 0)))] H := hP
  have hD : va_D A [(h0, .inr (7, [.ref m0, v1, v2, v3, v4, v5, v6, v7, v8, v9, v10, v11, v12, v13, v14, v15, v16, v17, v18, v19, v20, v21, v22, v23, v24, v25, v26, v27])), (m0, .inl (mc0, 38, .inl (upd (upd (upd nf 3 a) 4 b) 5 0)))] := hD
  refine lv_aload_n hx hb dX9_made_44 rfl (lv_at hl 2 rfl) ?_
  refine va_get (D := (dC, dI)) (ci := 7) (v := .ref m0) (C := RX9) (T := TX9) (N := 28) hx hb hts inX9 hown hK hP 0 rfl rfl 0 (by decide) (hts _ (List.mem_of_getElem? (i := 1) rfl)) (fun _ h9 => h9) rfl dX9_made_45 ?_
  refine lv_iconst (v := 0) hx hb dX9_made_48 (by decide) ?_
  refine lv_dup2_11 hx hb dX9_made_49 rfl rfl ?_
  refine va_iald hx hb hK hP 1 0 rfl rfl (vp_in_nI (n := 0) (by decide) (by decide)) dX9_made_50 ?_
  refine pp_ti (y := 0) ((hnf 0 (by decide)).trans (by decide)) ?_
  refine lv_iconst (v := 1) hx hb dX9_made_51 (by decide) ?_
  refine lv_iadd hx hb dX9_made_52 ?_
  refine pp_ti (y := 1) (by decide) ?_
  refine va_iast hx hb hK hP hD hS 1 0 rfl rfl (vp_in_nI (n := 0) (by decide) (by decide)) dX9_made_53 (fun H locs hP hD hS => ?_)
  have hP : va_P (dC, dI) vwCl [(h0, .inr (7, [.ref m0, v1, v2, v3, v4, v5, v6, v7, v8, v9, v10, v11, v12, v13, v14, v15, v16, v17, v18, v19, v20, v21, v22, v23, v24, v25, v26, v27])), (m0, .inl (mc0, 38, .inl (upd (upd (upd (upd nf 3 a) 4 b) 5 0) 0 1)))] H := hP
  have hD : va_D A [(h0, .inr (7, [.ref m0, v1, v2, v3, v4, v5, v6, v7, v8, v9, v10, v11, v12, v13, v14, v15, v16, v17, v18, v19, v20, v21, v22, v23, v24, v25, v26, v27])), (m0, .inl (mc0, 38, .inl (upd (upd (upd (upd nf 3 a) 4 b) 5 0) 0 1)))] := hD
  refine lv_iload_n hx hb dX9_made_54 rfl (lv_at hl 1 rfl) ?_
  exact W.iret (v := 0) hx hb hr (fun t ht hW => ⟨⟨0, (), rfl, rfl, trivial⟩, hS.F ht⟩) hS.2.2 dX9_made_55

def w_m_painted : List Cond := .code yX9_painted cX9_painted 3 (some .int) :: (([.fieldLink RX9 16 "LampShapesModel" "pictures" "[J", .fieldLink RX9 9 "LampShapesModel" "now" "[I"] : List Cond) ++ wsX90)
set_option maxHeartbeats 4000000 in
set_option maxRecDepth 100000 in
theorem m_painted (l : Launch) (dC : Nat → ClassId) (dI : Nat → Nat → Nat) (ad : Nat → Nat) (h0 : Nat) (a : Int64) (m0 : Nat) (v1 : Value) (m2 : Nat) (v3 : Value) (v4 : Value) (v5 : Value) (v6 : Value) (v7 : Value) (v8 : Value) (v9 : Value) (v10 : Value) (v11 : Value) (v12 : Value) (v13 : Value) (v14 : Value) (v15 : Value) (v16 : Value) (v17 : Value) (v18 : Value) (v19 : Value) (v20 : Value) (v21 : Value) (v22 : Value) (v23 : Value) (v24 : Value) (v25 : Value) (v26 : Value) (v27 : Value) (mc0 : ClassId) (nf : Nat → Int32) (mc2 : ClassId) (pf : Nat → Int64) (sz : Nat) (hnf : ∀ j, j < 38 → nf j = fr_n j) : Met l yX9_painted w_m_painted ({ frames := 0, cells := 0, slots := 0, locals := 0 } : Room) (va_Pc [.ref h0, .long a] (preM dC dI ad [(mc0, .int), (mc2, .long)] [(h0, .inr (7, [.ref m0, v1, .ref m2, v3, v4, v5, v6, v7, v8, v9, v10, v11, v12, v13, v14, v15, v16, v17, v18, v19, v20, v21, v22, v23, v24, v25, v26, v27])), (m0, .inl (mc0, 38, .inl nf)), (m2, .inl (mc2, 7, .inr (.inl pf)))] sz)) (va_Qi (fun (r : Int32) (_ : Unit) => (r = 0)) (fun _ _ => True) (va_A [(h0, .inr (7, [.ref m0, v1, .ref m2, v3, v4, v5, v6, v7, v8, v9, v10, v11, v12, v13, v14, v15, v16, v17, v18, v19, v20, v21, v22, v23, v24, v25, v26, v27])), (m0, .inl (mc0, 38, .inl nf)), (m2, .inl (mc2, 7, .inr (.inl pf)))] sz)) 0 0 (va_A [(h0, .inr (7, [.ref m0, v1, .ref m2, v3, v4, v5, v6, v7, v8, v9, v10, v11, v12, v13, v14, v15, v16, v17, v18, v19, v20, v21, v22, v23, v24, v25, v26, v27])), (m0, .inl (mc0, 38, .inl nf)), (m2, .inl (mc2, 7, .inr (.inl pf)))] sz) := by
  refine Met.ofW (cc := cX9_painted) (maxL := 3) (ret := (some .int)) (by decide) rfl ?_
  intro p e s m args below meth c s₁ B hml hv
  obtain ⟨rfl, hsz, hP, hK, hD0, hev⟩ := hv
  have hx := B.exec
  have hb := B.bytes
  have hr := B.returns
  have hts := atoms_spec (ws := w_m_painted) B.pre
  have hown : s.vm.findClass RX9 = some m.cls := findClass_of_methodNamed B.named
  have hlocks := B.notSynchronized
  have inX9 : ∀ w ∈ wsX90, w ∈ w_m_painted := fun w h => List.mem_cons_of_mem _ (List.mem_append_right _ h)
  subst hsz
  have hD := hD0.self (sz := s.heap.size)
  generalize hAe : va_A [(h0, .inr (7, [.ref m0, v1, .ref m2, v3, v4, v5, v6, v7, v8, v9, v10, v11, v12, v13, v14, v15, v16, v17, v18, v19, v20, v21, v22, v23, v24, v25, v26, v27])), (m0, .inl (mc0, 38, .inl nf)), (m2, .inl (mc2, 7, .inr (.inl pf)))] s.heap.size = A at hD ⊢
  have hA : ∀ q : Nat, s.heap.size ≤ q → A q := fun q h => by rw [← hAe]; exact Or.inr h
  have hS : va_S A s.heap s.heap [] := va_S.rf
  have hP : va_P (dC, dI) vwCl [(h0, .inr (7, [.ref m0, v1, .ref m2, v3, v4, v5, v6, v7, v8, v9, v10, v11, v12, v13, v14, v15, v16, v17, v18, v19, v20, v21, v22, v23, v24, v25, v26, v27])), (m0, .inl (mc0, 38, .inl nf)), (m2, .inl (mc2, 7, .inr (.inl pf)))] s.heap := hP
  have hl := lv_entry ([.ref h0, .long a]) (n := 3) (Nat.le_of_ble_eq_true rfl)
  rw [lg_entry_eq]
  generalize (lg_sl ([.ref h0, .long a]) ++ List.replicate (3 - (lg_sl ([.ref h0, .long a])).length) Slot.unset).toArray = ls at hl ⊢
  have hl : lv_has ls 3 [(0, .ref h0), (1, .long a)] := hl
  refine lv_aload_n hx hb dX9_painted_0 rfl (lv_at hl 0 rfl) ?_
  refine va_get (D := (dC, dI)) (ci := 7) (v := .ref m2) (C := RX9) (T := TX9) (N := 28) hx hb hts inX9 hown hK hP 0 rfl rfl 2 (by decide) (hts _ (List.mem_of_getElem? (i := 1) rfl)) (fun _ h9 => h9) rfl dX9_painted_1 ?_
  refine lv_aload_n hx hb dX9_painted_4 rfl (lv_at hl 0 rfl) ?_
  refine va_get (D := (dC, dI)) (ci := 7) (v := .ref m0) (C := RX9) (T := TX9) (N := 28) hx hb hts inX9 hown hK hP 0 rfl rfl 0 (by decide) (hts _ (List.mem_of_getElem? (i := 2) rfl)) (fun _ h9 => h9) rfl dX9_painted_5 ?_
  refine lv_iconst (v := 1) hx hb dX9_painted_8 (by decide) ?_
  refine va_iald hx hb hK hP 1 0 rfl rfl (vp_in_nI (n := 1) (by decide) (by decide)) dX9_painted_9 ?_
  refine pp_ti (y := 0) ((hnf 1 (by decide)).trans (by decide)) ?_
  refine lv_lload_n hx hb dX9_painted_10 rfl (lv_at hl 1 rfl) ?_
  refine va_last hx hb hK hP hD hS 2 1 rfl rfl (vp_in_nI (n := 0) (by decide) (by decide)) dX9_painted_11 (fun H locs hP hD hS => ?_)
  have hP : va_P (dC, dI) vwCl [(h0, .inr (7, [.ref m0, v1, .ref m2, v3, v4, v5, v6, v7, v8, v9, v10, v11, v12, v13, v14, v15, v16, v17, v18, v19, v20, v21, v22, v23, v24, v25, v26, v27])), (m0, .inl (mc0, 38, .inl nf)), (m2, .inl (mc2, 7, .inr (.inl (vp_updL pf 0 a))))] H := hP
  have hD : va_D A [(h0, .inr (7, [.ref m0, v1, .ref m2, v3, v4, v5, v6, v7, v8, v9, v10, v11, v12, v13, v14, v15, v16, v17, v18, v19, v20, v21, v22, v23, v24, v25, v26, v27])), (m0, .inl (mc0, 38, .inl nf)), (m2, .inl (mc2, 7, .inr (.inl (vp_updL pf 0 a))))] := hD
  refine lv_aload_n hx hb dX9_painted_12 rfl (lv_at hl 0 rfl) ?_
  refine va_get (D := (dC, dI)) (ci := 7) (v := .ref m0) (C := RX9) (T := TX9) (N := 28) hx hb hts inX9 hown hK hP 0 rfl rfl 0 (by decide) (hts _ (List.mem_of_getElem? (i := 2) rfl)) (fun _ h9 => h9) rfl dX9_painted_13 ?_
  refine lv_iconst (v := 1) hx hb dX9_painted_16 (by decide) ?_
  refine lv_dup2_11 hx hb dX9_painted_17 rfl rfl ?_
  refine va_iald hx hb hK hP 1 0 rfl rfl (vp_in_nI (n := 1) (by decide) (by decide)) dX9_painted_18 ?_
  refine pp_ti (y := 0) ((hnf 1 (by decide)).trans (by decide)) ?_
  refine lv_iconst (v := 1) hx hb dX9_painted_19 (by decide) ?_
  refine lv_iadd hx hb dX9_painted_20 ?_
  refine pp_ti (y := 1) (by decide) ?_
  refine va_iast hx hb hK hP hD hS 1 0 rfl rfl (vp_in_nI (n := 1) (by decide) (by decide)) dX9_painted_21 (fun H locs hP hD hS => ?_)
  have hP : va_P (dC, dI) vwCl [(h0, .inr (7, [.ref m0, v1, .ref m2, v3, v4, v5, v6, v7, v8, v9, v10, v11, v12, v13, v14, v15, v16, v17, v18, v19, v20, v21, v22, v23, v24, v25, v26, v27])), (m0, .inl (mc0, 38, .inl (upd nf 1 1))), (m2, .inl (mc2, 7, .inr (.inl (vp_updL pf 0 a))))] H := hP
  have hD : va_D A [(h0, .inr (7, [.ref m0, v1, .ref m2, v3, v4, v5, v6, v7, v8, v9, v10, v11, v12, v13, v14, v15, v16, v17, v18, v19, v20, v21, v22, v23, v24, v25, v26, v27])), (m0, .inl (mc0, 38, .inl (upd nf 1 1))), (m2, .inl (mc2, 7, .inr (.inl (vp_updL pf 0 a))))] := hD
  refine lv_aload_n hx hb dX9_painted_22 rfl (lv_at hl 0 rfl) ?_
  refine va_get (D := (dC, dI)) (ci := 7) (v := .ref m0) (C := RX9) (T := TX9) (N := 28) hx hb hts inX9 hown hK hP 0 rfl rfl 0 (by decide) (hts _ (List.mem_of_getElem? (i := 2) rfl)) (fun _ h9 => h9) rfl dX9_painted_23 ?_
  refine lv_iconst (v := 1) hx hb dX9_painted_26 (by decide) ?_
  refine va_iald hx hb hK hP 1 0 rfl rfl (vp_in_nI (n := 1) (by decide) (by decide)) dX9_painted_27 ?_
  refine pp_ti (y := 1) (rfl) ?_
  refine lv_iconst (v := 1) hx hb dX9_painted_28 (by decide) ?_
  refine lv_isub hx hb dX9_painted_29 ?_
  refine pp_ti (y := 0) (by decide) ?_
  exact W.iret (v := 0) hx hb hr (fun t ht hW => ⟨⟨0, (), rfl, rfl, trivial⟩, hS.F ht⟩) hS.2.2 dX9_painted_30

def w_m_putIn : List Cond := .code yX9_putIn cX9_putIn 4 (some .int) :: (([.fieldLink RX9 9 "LampShapesModel" "now" "[I"] : List Cond) ++ wsX90)
set_option maxHeartbeats 4000000 in
set_option maxRecDepth 100000 in
theorem m_putIn (l : Launch) (dC : Nat → ClassId) (dI : Nat → Nat → Nat) (ad : Nat → Nat) (h0 : Nat) (a : Int32) (m0 : Nat) (v1 : Value) (v2 : Value) (v3 : Value) (v4 : Value) (v5 : Value) (v6 : Value) (v7 : Value) (v8 : Value) (v9 : Value) (v10 : Value) (v11 : Value) (v12 : Value) (v13 : Value) (v14 : Value) (v15 : Value) (v16 : Value) (v17 : Value) (v18 : Value) (v19 : Value) (v20 : Value) (v21 : Value) (v22 : Value) (v23 : Value) (v24 : Value) (v25 : Value) (v26 : Value) (v27 : Value) (mc0 : ClassId) (nf : Nat → Int32) (sz : Nat) (hnf : ∀ j, j < 38 → nf j = fr_n j) : Met l yX9_putIn w_m_putIn ({ frames := 0, cells := 0, slots := 0, locals := 0 } : Room) (va_Pc [.ref h0, .int 2, .int a] (preM dC dI ad [(mc0, .int)] [(h0, .inr (7, [.ref m0, v1, v2, v3, v4, v5, v6, v7, v8, v9, v10, v11, v12, v13, v14, v15, v16, v17, v18, v19, v20, v21, v22, v23, v24, v25, v26, v27])), (m0, .inl (mc0, 38, .inl nf))] sz)) (va_Qi (fun (r : Int32) (_ : Unit) => (r = 63)) (fun _ _ => True) (va_A [(h0, .inr (7, [.ref m0, v1, v2, v3, v4, v5, v6, v7, v8, v9, v10, v11, v12, v13, v14, v15, v16, v17, v18, v19, v20, v21, v22, v23, v24, v25, v26, v27])), (m0, .inl (mc0, 38, .inl nf))] sz)) 0 0 (va_A [(h0, .inr (7, [.ref m0, v1, v2, v3, v4, v5, v6, v7, v8, v9, v10, v11, v12, v13, v14, v15, v16, v17, v18, v19, v20, v21, v22, v23, v24, v25, v26, v27])), (m0, .inl (mc0, 38, .inl nf))] sz) := by
  refine Met.ofW (cc := cX9_putIn) (maxL := 4) (ret := (some .int)) (by decide) rfl ?_
  intro p e s m args below meth c s₁ B hml hv
  obtain ⟨rfl, hsz, hP, hK, hD0, hev⟩ := hv
  have hx := B.exec
  have hb := B.bytes
  have hr := B.returns
  have hts := atoms_spec (ws := w_m_putIn) B.pre
  have hown : s.vm.findClass RX9 = some m.cls := findClass_of_methodNamed B.named
  have hlocks := B.notSynchronized
  have inX9 : ∀ w ∈ wsX90, w ∈ w_m_putIn := fun w h => List.mem_cons_of_mem _ (List.mem_append_right _ h)
  subst hsz
  have hD := hD0.self (sz := s.heap.size)
  generalize hAe : va_A [(h0, .inr (7, [.ref m0, v1, v2, v3, v4, v5, v6, v7, v8, v9, v10, v11, v12, v13, v14, v15, v16, v17, v18, v19, v20, v21, v22, v23, v24, v25, v26, v27])), (m0, .inl (mc0, 38, .inl nf))] s.heap.size = A at hD ⊢
  have hA : ∀ q : Nat, s.heap.size ≤ q → A q := fun q h => by rw [← hAe]; exact Or.inr h
  have hS : va_S A s.heap s.heap [] := va_S.rf
  have hP : va_P (dC, dI) vwCl [(h0, .inr (7, [.ref m0, v1, v2, v3, v4, v5, v6, v7, v8, v9, v10, v11, v12, v13, v14, v15, v16, v17, v18, v19, v20, v21, v22, v23, v24, v25, v26, v27])), (m0, .inl (mc0, 38, .inl nf))] s.heap := hP
  have hl := lv_entry ([.ref h0, .int 2, .int a]) (n := 4) (Nat.le_of_ble_eq_true rfl)
  rw [lg_entry_eq]
  generalize (lg_sl ([.ref h0, .int 2, .int a]) ++ List.replicate (4 - (lg_sl ([.ref h0, .int 2, .int a])).length) Slot.unset).toArray = ls at hl ⊢
  have hl : lv_has ls 4 [(0, .ref h0), (1, .int 2), (2, .int a)] := hl
  refine lv_aload_n hx hb dX9_putIn_0 rfl (lv_at hl 0 rfl) ?_
  refine va_get (D := (dC, dI)) (ci := 7) (v := .ref m0) (C := RX9) (T := TX9) (N := 28) hx hb hts inX9 hown hK hP 0 rfl rfl 0 (by decide) (hts _ (List.mem_of_getElem? (i := 1) rfl)) (fun _ h9 => h9) rfl dX9_putIn_1 ?_
  refine lv_iload_n hx hb dX9_putIn_4 rfl (lv_at hl 1 rfl) ?_
  refine va_iald hx hb hK hP 1 0 rfl rfl (vp_in_nI (n := 2) (by decide) (by decide)) dX9_putIn_5 ?_
  refine pp_ti (y := 63) ((hnf 2 (by decide)).trans (by decide)) ?_
  refine lv_istore_n (lv' := [(3, .int 63), (0, .ref h0), (1, .int 2), (2, .int a)]) hx hb dX9_putIn_6 rfl hl (by decide) rfl (fun ls hl => ?_)
  refine lv_aload_n hx hb dX9_putIn_7 rfl (lv_at hl 1 rfl) ?_
  refine va_get (D := (dC, dI)) (ci := 7) (v := .ref m0) (C := RX9) (T := TX9) (N := 28) hx hb hts inX9 hown hK hP 0 rfl rfl 0 (by decide) (hts _ (List.mem_of_getElem? (i := 1) rfl)) (fun _ h9 => h9) rfl dX9_putIn_8 ?_
  refine lv_iload_n hx hb dX9_putIn_11 rfl (lv_at hl 2 rfl) ?_
  refine lv_iload_n hx hb dX9_putIn_12 rfl (lv_at hl 3 rfl) ?_
  refine va_iast hx hb hK hP hD hS 1 0 rfl rfl (vp_in_nI (n := 2) (by decide) (by decide)) dX9_putIn_13 (fun H locs hP hD hS => ?_)
  have hP : va_P (dC, dI) vwCl [(h0, .inr (7, [.ref m0, v1, v2, v3, v4, v5, v6, v7, v8, v9, v10, v11, v12, v13, v14, v15, v16, v17, v18, v19, v20, v21, v22, v23, v24, v25, v26, v27])), (m0, .inl (mc0, 38, .inl (upd nf 2 a)))] H := hP
  have hD : va_D A [(h0, .inr (7, [.ref m0, v1, v2, v3, v4, v5, v6, v7, v8, v9, v10, v11, v12, v13, v14, v15, v16, v17, v18, v19, v20, v21, v22, v23, v24, v25, v26, v27])), (m0, .inl (mc0, 38, .inl (upd nf 2 a)))] := hD
  refine lv_iload_n hx hb dX9_putIn_14 rfl (lv_at hl 0 rfl) ?_
  exact W.iret (v := 63) hx hb hr (fun t ht hW => ⟨⟨63, (), rfl, rfl, trivial⟩, hS.F ht⟩) hS.2.2 dX9_putIn_15

def w_m_shadowIn_0 : List Cond := .code yX9_shadowIn cX9_shadowIn 3 (some .long) :: (([.fieldLink RX9 9 "LampShapesModel" "now" "[I"] : List Cond) ++ wsX90)
set_option maxHeartbeats 4000000 in
set_option maxRecDepth 100000 in
theorem m_shadowIn_0 (l : Launch) (dC : Nat → ClassId) (dI : Nat → Nat → Nat) (ad : Nat → Nat) (h0 : Nat) (m0 : Nat) (v1 : Value) (v2 : Value) (v3 : Value) (v4 : Value) (v5 : Value) (v6 : Value) (v7 : Value) (v8 : Value) (v9 : Value) (v10 : Value) (v11 : Value) (v12 : Value) (v13 : Value) (v14 : Value) (v15 : Value) (v16 : Value) (v17 : Value) (v18 : Value) (v19 : Value) (v20 : Value) (v21 : Value) (v22 : Value) (v23 : Value) (v24 : Value) (v25 : Value) (v26 : Value) (v27 : Value) (mc0 : ClassId) (nf : Nat → Int32) (hnf : ∀ j, j < 38 → nf j = fr_n j) : Met l yX9_shadowIn w_m_shadowIn_0 ({ frames := 0, cells := 0, slots := 0, locals := 0 } : Room) (va_Pc [.ref h0, .int 0] (preS dC dI ad [(mc0, .int)] [(h0, .inr (7, [.ref m0, v1, v2, v3, v4, v5, v6, v7, v8, v9, v10, v11, v12, v13, v14, v15, v16, v17, v18, v19, v20, v21, v22, v23, v24, v25, v26, v27])), (m0, .inl (mc0, 38, .inl nf))])) (vp_Sl (fun r => (r = 0))) 0 0 (fun _ => False) := by
  refine Met.ofW (cc := cX9_shadowIn) (maxL := 3) (ret := (some .long)) (by decide) rfl ?_
  intro p e s m args below meth c s₁ B hml hv
  obtain ⟨rfl, hP, hK, hev⟩ := hv
  have hx := B.exec
  have hb := B.bytes
  have hr := B.returns
  have hts := atoms_spec (ws := w_m_shadowIn_0) B.pre
  have hown : s.vm.findClass RX9 = some m.cls := findClass_of_methodNamed B.named
  have hlocks := B.notSynchronized
  have inX9 : ∀ w ∈ wsX90, w ∈ w_m_shadowIn_0 := fun w h => List.mem_cons_of_mem _ (List.mem_append_right _ h)
  have hP : va_P (dC, dI) vwCl [(h0, .inr (7, [.ref m0, v1, v2, v3, v4, v5, v6, v7, v8, v9, v10, v11, v12, v13, v14, v15, v16, v17, v18, v19, v20, v21, v22, v23, v24, v25, v26, v27])), (m0, .inl (mc0, 38, .inl nf))] s.heap := hP
  have hl := lv_entry ([.ref h0, .int 0]) (n := 3) (Nat.le_of_ble_eq_true rfl)
  rw [lg_entry_eq]
  generalize (lg_sl ([.ref h0, .int 0]) ++ List.replicate (3 - (lg_sl ([.ref h0, .int 0])).length) Slot.unset).toArray = ls at hl ⊢
  have hl : lv_has ls 3 [(0, .ref h0), (1, .int 0)] := hl
  refine lv_aload_n hx hb dX9_shadowIn_0 rfl (lv_at hl 0 rfl) ?_
  refine va_get (D := (dC, dI)) (ci := 7) (v := .ref m0) (C := RX9) (T := TX9) (N := 28) hx hb hts inX9 hown hK hP 0 rfl rfl 0 (by decide) (hts _ (List.mem_of_getElem? (i := 1) rfl)) (fun _ h9 => h9) rfl dX9_shadowIn_1 ?_
  refine lv_bipush (v := 30) hx hb dX9_shadowIn_4 (by decide) ?_
  refine lv_iload_n hx hb dX9_shadowIn_6 rfl (lv_at hl 1 rfl) ?_
  refine lv_iadd hx hb dX9_shadowIn_7 ?_
  refine pp_ti (y := 30) (by decide) ?_
  refine va_iald hx hb hK hP 1 0 rfl rfl (vp_in_nI (n := 30) (by decide) (by decide)) dX9_shadowIn_8 ?_
  refine pp_ti (y := (-1)) ((hnf 30 (by decide)).trans (by decide)) ?_
  refine lv_istore_n (lv' := [(2, .int (-1)), (0, .ref h0), (1, .int 0)]) hx hb dX9_shadowIn_9 rfl hl (by decide) rfl (fun ls hl => ?_)
  refine lv_iload_n hx hb dX9_shadowIn_10 rfl (lv_at hl 0 rfl) ?_
  refine lv_if_lt (tgt := 24) hx hb dX9_shadowIn_11 (by decide) (fun _ => ?_) (fun c => absurd (by decide) c)
  refine lv_lconst (v := 0) hx hb dX9_shadowIn_24 (by decide) ?_
  refine lv_goto (tgt := 42) hx hb dX9_shadowIn_25 (by decide) ?_
  exact W.lret (v := 0) hx hb hr (fun t ht hW => ⟨0, rfl, rfl, ht⟩) (fun _ h => absurd h List.not_mem_nil) dX9_shadowIn_42

def w_m_shadowIn_1 : List Cond := .code yX9_shadowIn cX9_shadowIn 3 (some .long) :: (([.fieldLink RX9 9 "LampShapesModel" "now" "[I"] : List Cond) ++ wsX90)
set_option maxHeartbeats 4000000 in
set_option maxRecDepth 100000 in
theorem m_shadowIn_1 (l : Launch) (dC : Nat → ClassId) (dI : Nat → Nat → Nat) (ad : Nat → Nat) (h0 : Nat) (m0 : Nat) (v1 : Value) (v2 : Value) (v3 : Value) (v4 : Value) (v5 : Value) (v6 : Value) (v7 : Value) (v8 : Value) (v9 : Value) (v10 : Value) (v11 : Value) (v12 : Value) (v13 : Value) (v14 : Value) (v15 : Value) (v16 : Value) (v17 : Value) (v18 : Value) (v19 : Value) (v20 : Value) (v21 : Value) (v22 : Value) (v23 : Value) (v24 : Value) (v25 : Value) (v26 : Value) (v27 : Value) (mc0 : ClassId) (nf : Nat → Int32) (hnf : ∀ j, j < 38 → nf j = fr_n j) : Met l yX9_shadowIn w_m_shadowIn_1 ({ frames := 0, cells := 0, slots := 0, locals := 0 } : Room) (va_Pc [.ref h0, .int 1] (preS dC dI ad [(mc0, .int)] [(h0, .inr (7, [.ref m0, v1, v2, v3, v4, v5, v6, v7, v8, v9, v10, v11, v12, v13, v14, v15, v16, v17, v18, v19, v20, v21, v22, v23, v24, v25, v26, v27])), (m0, .inl (mc0, 38, .inl nf))])) (vp_Sl (fun r => (r = 0))) 0 0 (fun _ => False) := by
  refine Met.ofW (cc := cX9_shadowIn) (maxL := 3) (ret := (some .long)) (by decide) rfl ?_
  intro p e s m args below meth c s₁ B hml hv
  obtain ⟨rfl, hP, hK, hev⟩ := hv
  have hx := B.exec
  have hb := B.bytes
  have hr := B.returns
  have hts := atoms_spec (ws := w_m_shadowIn_1) B.pre
  have hown : s.vm.findClass RX9 = some m.cls := findClass_of_methodNamed B.named
  have hlocks := B.notSynchronized
  have inX9 : ∀ w ∈ wsX90, w ∈ w_m_shadowIn_1 := fun w h => List.mem_cons_of_mem _ (List.mem_append_right _ h)
  have hP : va_P (dC, dI) vwCl [(h0, .inr (7, [.ref m0, v1, v2, v3, v4, v5, v6, v7, v8, v9, v10, v11, v12, v13, v14, v15, v16, v17, v18, v19, v20, v21, v22, v23, v24, v25, v26, v27])), (m0, .inl (mc0, 38, .inl nf))] s.heap := hP
  have hl := lv_entry ([.ref h0, .int 1]) (n := 3) (Nat.le_of_ble_eq_true rfl)
  rw [lg_entry_eq]
  generalize (lg_sl ([.ref h0, .int 1]) ++ List.replicate (3 - (lg_sl ([.ref h0, .int 1])).length) Slot.unset).toArray = ls at hl ⊢
  have hl : lv_has ls 3 [(0, .ref h0), (1, .int 1)] := hl
  refine lv_aload_n hx hb dX9_shadowIn_0 rfl (lv_at hl 0 rfl) ?_
  refine va_get (D := (dC, dI)) (ci := 7) (v := .ref m0) (C := RX9) (T := TX9) (N := 28) hx hb hts inX9 hown hK hP 0 rfl rfl 0 (by decide) (hts _ (List.mem_of_getElem? (i := 1) rfl)) (fun _ h9 => h9) rfl dX9_shadowIn_1 ?_
  refine lv_bipush (v := 30) hx hb dX9_shadowIn_4 (by decide) ?_
  refine lv_iload_n hx hb dX9_shadowIn_6 rfl (lv_at hl 1 rfl) ?_
  refine lv_iadd hx hb dX9_shadowIn_7 ?_
  refine pp_ti (y := 31) (by decide) ?_
  refine va_iald hx hb hK hP 1 0 rfl rfl (vp_in_nI (n := 31) (by decide) (by decide)) dX9_shadowIn_8 ?_
  refine pp_ti (y := (-1)) ((hnf 31 (by decide)).trans (by decide)) ?_
  refine lv_istore_n (lv' := [(2, .int (-1)), (0, .ref h0), (1, .int 1)]) hx hb dX9_shadowIn_9 rfl hl (by decide) rfl (fun ls hl => ?_)
  refine lv_iload_n hx hb dX9_shadowIn_10 rfl (lv_at hl 0 rfl) ?_
  refine lv_if_lt (tgt := 24) hx hb dX9_shadowIn_11 (by decide) (fun _ => ?_) (fun c => absurd (by decide) c)
  refine lv_lconst (v := 0) hx hb dX9_shadowIn_24 (by decide) ?_
  refine lv_goto (tgt := 42) hx hb dX9_shadowIn_25 (by decide) ?_
  exact W.lret (v := 0) hx hb hr (fun t ht hW => ⟨0, rfl, rfl, ht⟩) (fun _ h => absurd h List.not_mem_nil) dX9_shadowIn_42

def w_m_shadowIn_2 : List Cond := .code yX9_shadowIn cX9_shadowIn 3 (some .long) :: (([.fieldLink RX9 9 "LampShapesModel" "now" "[I"] : List Cond) ++ wsX90)
set_option maxHeartbeats 4000000 in
set_option maxRecDepth 100000 in
theorem m_shadowIn_2 (l : Launch) (dC : Nat → ClassId) (dI : Nat → Nat → Nat) (ad : Nat → Nat) (h0 : Nat) (m0 : Nat) (v1 : Value) (v2 : Value) (v3 : Value) (v4 : Value) (v5 : Value) (v6 : Value) (v7 : Value) (v8 : Value) (v9 : Value) (v10 : Value) (v11 : Value) (v12 : Value) (v13 : Value) (v14 : Value) (v15 : Value) (v16 : Value) (v17 : Value) (v18 : Value) (v19 : Value) (v20 : Value) (v21 : Value) (v22 : Value) (v23 : Value) (v24 : Value) (v25 : Value) (v26 : Value) (v27 : Value) (mc0 : ClassId) (nf : Nat → Int32) (hnf : ∀ j, j < 38 → nf j = fr_n j) : Met l yX9_shadowIn w_m_shadowIn_2 ({ frames := 0, cells := 0, slots := 0, locals := 0 } : Room) (va_Pc [.ref h0, .int 2] (preS dC dI ad [(mc0, .int)] [(h0, .inr (7, [.ref m0, v1, v2, v3, v4, v5, v6, v7, v8, v9, v10, v11, v12, v13, v14, v15, v16, v17, v18, v19, v20, v21, v22, v23, v24, v25, v26, v27])), (m0, .inl (mc0, 38, .inl nf))])) (vp_Sl (fun r => (r = 0))) 0 0 (fun _ => False) := by
  refine Met.ofW (cc := cX9_shadowIn) (maxL := 3) (ret := (some .long)) (by decide) rfl ?_
  intro p e s m args below meth c s₁ B hml hv
  obtain ⟨rfl, hP, hK, hev⟩ := hv
  have hx := B.exec
  have hb := B.bytes
  have hr := B.returns
  have hts := atoms_spec (ws := w_m_shadowIn_2) B.pre
  have hown : s.vm.findClass RX9 = some m.cls := findClass_of_methodNamed B.named
  have hlocks := B.notSynchronized
  have inX9 : ∀ w ∈ wsX90, w ∈ w_m_shadowIn_2 := fun w h => List.mem_cons_of_mem _ (List.mem_append_right _ h)
  have hP : va_P (dC, dI) vwCl [(h0, .inr (7, [.ref m0, v1, v2, v3, v4, v5, v6, v7, v8, v9, v10, v11, v12, v13, v14, v15, v16, v17, v18, v19, v20, v21, v22, v23, v24, v25, v26, v27])), (m0, .inl (mc0, 38, .inl nf))] s.heap := hP
  have hl := lv_entry ([.ref h0, .int 2]) (n := 3) (Nat.le_of_ble_eq_true rfl)
  rw [lg_entry_eq]
  generalize (lg_sl ([.ref h0, .int 2]) ++ List.replicate (3 - (lg_sl ([.ref h0, .int 2])).length) Slot.unset).toArray = ls at hl ⊢
  have hl : lv_has ls 3 [(0, .ref h0), (1, .int 2)] := hl
  refine lv_aload_n hx hb dX9_shadowIn_0 rfl (lv_at hl 0 rfl) ?_
  refine va_get (D := (dC, dI)) (ci := 7) (v := .ref m0) (C := RX9) (T := TX9) (N := 28) hx hb hts inX9 hown hK hP 0 rfl rfl 0 (by decide) (hts _ (List.mem_of_getElem? (i := 1) rfl)) (fun _ h9 => h9) rfl dX9_shadowIn_1 ?_
  refine lv_bipush (v := 30) hx hb dX9_shadowIn_4 (by decide) ?_
  refine lv_iload_n hx hb dX9_shadowIn_6 rfl (lv_at hl 1 rfl) ?_
  refine lv_iadd hx hb dX9_shadowIn_7 ?_
  refine pp_ti (y := 32) (by decide) ?_
  refine va_iald hx hb hK hP 1 0 rfl rfl (vp_in_nI (n := 32) (by decide) (by decide)) dX9_shadowIn_8 ?_
  refine pp_ti (y := (-1)) ((hnf 32 (by decide)).trans (by decide)) ?_
  refine lv_istore_n (lv' := [(2, .int (-1)), (0, .ref h0), (1, .int 2)]) hx hb dX9_shadowIn_9 rfl hl (by decide) rfl (fun ls hl => ?_)
  refine lv_iload_n hx hb dX9_shadowIn_10 rfl (lv_at hl 0 rfl) ?_
  refine lv_if_lt (tgt := 24) hx hb dX9_shadowIn_11 (by decide) (fun _ => ?_) (fun c => absurd (by decide) c)
  refine lv_lconst (v := 0) hx hb dX9_shadowIn_24 (by decide) ?_
  refine lv_goto (tgt := 42) hx hb dX9_shadowIn_25 (by decide) ?_
  exact W.lret (v := 0) hx hb hr (fun t ht hW => ⟨0, rfl, rfl, ht⟩) (fun _ h => absurd h List.not_mem_nil) dX9_shadowIn_42

def w_m_shadowIn_3 : List Cond := .code yX9_shadowIn cX9_shadowIn 3 (some .long) :: (([.fieldLink RX9 9 "LampShapesModel" "now" "[I"] : List Cond) ++ wsX90)
set_option maxHeartbeats 4000000 in
set_option maxRecDepth 100000 in
theorem m_shadowIn_3 (l : Launch) (dC : Nat → ClassId) (dI : Nat → Nat → Nat) (ad : Nat → Nat) (h0 : Nat) (m0 : Nat) (v1 : Value) (v2 : Value) (v3 : Value) (v4 : Value) (v5 : Value) (v6 : Value) (v7 : Value) (v8 : Value) (v9 : Value) (v10 : Value) (v11 : Value) (v12 : Value) (v13 : Value) (v14 : Value) (v15 : Value) (v16 : Value) (v17 : Value) (v18 : Value) (v19 : Value) (v20 : Value) (v21 : Value) (v22 : Value) (v23 : Value) (v24 : Value) (v25 : Value) (v26 : Value) (v27 : Value) (mc0 : ClassId) (nf : Nat → Int32) (hnf : ∀ j, j < 38 → nf j = fr_n j) : Met l yX9_shadowIn w_m_shadowIn_3 ({ frames := 0, cells := 0, slots := 0, locals := 0 } : Room) (va_Pc [.ref h0, .int 3] (preS dC dI ad [(mc0, .int)] [(h0, .inr (7, [.ref m0, v1, v2, v3, v4, v5, v6, v7, v8, v9, v10, v11, v12, v13, v14, v15, v16, v17, v18, v19, v20, v21, v22, v23, v24, v25, v26, v27])), (m0, .inl (mc0, 38, .inl nf))])) (vp_Sl (fun r => (r = 0))) 0 0 (fun _ => False) := by
  refine Met.ofW (cc := cX9_shadowIn) (maxL := 3) (ret := (some .long)) (by decide) rfl ?_
  intro p e s m args below meth c s₁ B hml hv
  obtain ⟨rfl, hP, hK, hev⟩ := hv
  have hx := B.exec
  have hb := B.bytes
  have hr := B.returns
  have hts := atoms_spec (ws := w_m_shadowIn_3) B.pre
  have hown : s.vm.findClass RX9 = some m.cls := findClass_of_methodNamed B.named
  have hlocks := B.notSynchronized
  have inX9 : ∀ w ∈ wsX90, w ∈ w_m_shadowIn_3 := fun w h => List.mem_cons_of_mem _ (List.mem_append_right _ h)
  have hP : va_P (dC, dI) vwCl [(h0, .inr (7, [.ref m0, v1, v2, v3, v4, v5, v6, v7, v8, v9, v10, v11, v12, v13, v14, v15, v16, v17, v18, v19, v20, v21, v22, v23, v24, v25, v26, v27])), (m0, .inl (mc0, 38, .inl nf))] s.heap := hP
  have hl := lv_entry ([.ref h0, .int 3]) (n := 3) (Nat.le_of_ble_eq_true rfl)
  rw [lg_entry_eq]
  generalize (lg_sl ([.ref h0, .int 3]) ++ List.replicate (3 - (lg_sl ([.ref h0, .int 3])).length) Slot.unset).toArray = ls at hl ⊢
  have hl : lv_has ls 3 [(0, .ref h0), (1, .int 3)] := hl
  refine lv_aload_n hx hb dX9_shadowIn_0 rfl (lv_at hl 0 rfl) ?_
  refine va_get (D := (dC, dI)) (ci := 7) (v := .ref m0) (C := RX9) (T := TX9) (N := 28) hx hb hts inX9 hown hK hP 0 rfl rfl 0 (by decide) (hts _ (List.mem_of_getElem? (i := 1) rfl)) (fun _ h9 => h9) rfl dX9_shadowIn_1 ?_
  refine lv_bipush (v := 30) hx hb dX9_shadowIn_4 (by decide) ?_
  refine lv_iload_n hx hb dX9_shadowIn_6 rfl (lv_at hl 1 rfl) ?_
  refine lv_iadd hx hb dX9_shadowIn_7 ?_
  refine pp_ti (y := 33) (by decide) ?_
  refine va_iald hx hb hK hP 1 0 rfl rfl (vp_in_nI (n := 33) (by decide) (by decide)) dX9_shadowIn_8 ?_
  refine pp_ti (y := (-1)) ((hnf 33 (by decide)).trans (by decide)) ?_
  refine lv_istore_n (lv' := [(2, .int (-1)), (0, .ref h0), (1, .int 3)]) hx hb dX9_shadowIn_9 rfl hl (by decide) rfl (fun ls hl => ?_)
  refine lv_iload_n hx hb dX9_shadowIn_10 rfl (lv_at hl 0 rfl) ?_
  refine lv_if_lt (tgt := 24) hx hb dX9_shadowIn_11 (by decide) (fun _ => ?_) (fun c => absurd (by decide) c)
  refine lv_lconst (v := 0) hx hb dX9_shadowIn_24 (by decide) ?_
  refine lv_goto (tgt := 42) hx hb dX9_shadowIn_25 (by decide) ?_
  exact W.lret (v := 0) hx hb hr (fun t ht hW => ⟨0, rfl, rfl, ht⟩) (fun _ h => absurd h List.not_mem_nil) dX9_shadowIn_42

def w_m_darkBut_m1 : List Cond := .code yX9_darkBut cX9_darkBut 5 (some .long) :: (([.methodLink RX9 137 yX9_shadowIn, .instanceMethod yX9_shadowIn, .selects RX9 yX9_shadowIn yX9_shadowIn, .initialized RX9, .code yX9_shadowIn cX9_shadowIn 3 (some .long), .fieldLink RX9 9 "LampShapesModel" "now" "[I"] : List Cond) ++ wsX90)
set_option maxRecDepth 20000 in
theorem g_m_darkBut_m1_m_shadowIn_0_137 : GoodIn w_m_darkBut_m1 (wsV RX9 137 RX9 yX9_shadowIn w_m_shadowIn_0) := goodIn_r _ [1, 2, 3, 4, 5, 6, 7, 8, 9, 10, 11, 12, 13, 14, 15, 16, 17, 18, 19, 20, 21, 22, 23, 24, 25, 26, 27, 28, 29, 30, 31, 32, 33, 34] rfl (by decide +kernel)
set_option maxRecDepth 20000 in
theorem g_m_darkBut_m1_m_shadowIn_1_137 : GoodIn w_m_darkBut_m1 (wsV RX9 137 RX9 yX9_shadowIn w_m_shadowIn_1) := goodIn_r _ [1, 2, 3, 4, 5, 6, 7, 8, 9, 10, 11, 12, 13, 14, 15, 16, 17, 18, 19, 20, 21, 22, 23, 24, 25, 26, 27, 28, 29, 30, 31, 32, 33, 34] rfl (by decide +kernel)
set_option maxRecDepth 20000 in
theorem g_m_darkBut_m1_m_shadowIn_2_137 : GoodIn w_m_darkBut_m1 (wsV RX9 137 RX9 yX9_shadowIn w_m_shadowIn_2) := goodIn_r _ [1, 2, 3, 4, 5, 6, 7, 8, 9, 10, 11, 12, 13, 14, 15, 16, 17, 18, 19, 20, 21, 22, 23, 24, 25, 26, 27, 28, 29, 30, 31, 32, 33, 34] rfl (by decide +kernel)
set_option maxRecDepth 20000 in
theorem g_m_darkBut_m1_m_shadowIn_3_137 : GoodIn w_m_darkBut_m1 (wsV RX9 137 RX9 yX9_shadowIn w_m_shadowIn_3) := goodIn_r _ [1, 2, 3, 4, 5, 6, 7, 8, 9, 10, 11, 12, 13, 14, 15, 16, 17, 18, 19, 20, 21, 22, 23, 24, 25, 26, 27, 28, 29, 30, 31, 32, 33, 34] rfl (by decide +kernel)
set_option maxHeartbeats 4000000 in
set_option maxRecDepth 100000 in
theorem m_darkBut_m1 (l : Launch) (dC : Nat → ClassId) (dI : Nat → Nat → Nat) (ad : Nat → Nat) (h0 : Nat) (m0 : Nat) (v1 : Value) (v2 : Value) (v3 : Value) (v4 : Value) (v5 : Value) (v6 : Value) (v7 : Value) (v8 : Value) (v9 : Value) (v10 : Value) (v11 : Value) (v12 : Value) (v13 : Value) (v14 : Value) (v15 : Value) (v16 : Value) (v17 : Value) (v18 : Value) (v19 : Value) (v20 : Value) (v21 : Value) (v22 : Value) (v23 : Value) (v24 : Value) (v25 : Value) (v26 : Value) (v27 : Value) (mc0 : ClassId) (nf : Nat → Int32) (hnf : ∀ j, j < 38 → nf j = fr_n j) : Met l yX9_darkBut w_m_darkBut_m1 ({ frames := 1, cells := 0, slots := 0, locals := 22 } : Room) (va_Pc [.ref h0, .int (-1)] (preS dC dI ad [(mc0, .int)] [(h0, .inr (7, [.ref m0, v1, v2, v3, v4, v5, v6, v7, v8, v9, v10, v11, v12, v13, v14, v15, v16, v17, v18, v19, v20, v21, v22, v23, v24, v25, v26, v27])), (m0, .inl (mc0, 38, .inl nf))])) (vp_Sl (fun r => (r = 0))) 0 0 (fun _ => False) := by
  refine Met.ofW (cc := cX9_darkBut) (maxL := 5) (ret := (some .long)) (by decide) rfl ?_
  intro p e s m args below meth c s₁ B hml hv
  obtain ⟨rfl, hP, hK, hev⟩ := hv
  have hx := B.exec
  have hb := B.bytes
  have hr := B.returns
  have hts := atoms_spec (ws := w_m_darkBut_m1) B.pre
  have hown : s.vm.findClass RX9 = some m.cls := findClass_of_methodNamed B.named
  have hlocks := B.notSynchronized
  have inX9 : ∀ w ∈ wsX90, w ∈ w_m_darkBut_m1 := fun w h => List.mem_cons_of_mem _ (List.mem_append_right _ h)
  have hP : va_P (dC, dI) vwCl [(h0, .inr (7, [.ref m0, v1, v2, v3, v4, v5, v6, v7, v8, v9, v10, v11, v12, v13, v14, v15, v16, v17, v18, v19, v20, v21, v22, v23, v24, v25, v26, v27])), (m0, .inl (mc0, 38, .inl nf))] s.heap := hP
  have hl := lv_entry ([.ref h0, .int (-1)]) (n := 5) (Nat.le_of_ble_eq_true rfl)
  rw [lg_entry_eq]
  generalize (lg_sl ([.ref h0, .int (-1)]) ++ List.replicate (5 - (lg_sl ([.ref h0, .int (-1)])).length) Slot.unset).toArray = ls at hl ⊢
  have hl : lv_has ls 5 [(0, .ref h0), (1, .int (-1))] := hl
  refine lv_lconst (v := 0) hx hb dX9_darkBut_0 (by decide) ?_
  refine lv_lstore_n (lv' := [(2, .long 0), (0, .ref h0), (1, .int (-1))]) hx hb dX9_darkBut_1 rfl hl (by decide) rfl (fun ls hl => ?_)
  refine lv_iconst (v := 0) hx hb dX9_darkBut_2 (by decide) ?_
  refine lv_istore (lv' := [(4, .int 0), (2, .long 0), (0, .ref h0), (1, .int (-1))]) hx hb dX9_darkBut_3 hl (by decide) rfl (fun ls hl => ?_)
  refine lv_iload hx hb dX9_darkBut_5 (lv_at hl 0 rfl) ?_
  refine lv_iconst (v := 4) hx hb dX9_darkBut_7 (by decide) ?_
  refine lv_icmp_ge (tgt := 36) hx hb dX9_darkBut_8 (by decide) (fun c => absurd c (by decide)) (fun _ => ?_)
  refine lv_lload_n hx hb dX9_darkBut_11 rfl (lv_at hl 1 rfl) ?_
  refine lv_iload hx hb dX9_darkBut_12 (lv_at hl 0 rfl) ?_
  refine lv_iload_n hx hb dX9_darkBut_14 rfl (lv_at hl 3 rfl) ?_
  refine lv_icmp_ne (tgt := 22) hx hb dX9_darkBut_15 (by decide) (fun _ => ?_) (fun c => absurd c (by decide))
  refine lv_aload_n hx hb dX9_darkBut_22 rfl (lv_at hl 2 rfl) ?_
  refine lv_iload hx hb dX9_darkBut_23 (lv_at hl 0 rfl) ?_
  have hPc := hP.sub (ws' := [(h0, .inr (7, [.ref m0, v1, v2, v3, v4, v5, v6, v7, v8, v9, v10, v11, v12, v13, v14, v15, v16, v17, v18, v19, v20, v21, v22, v23, v24, v25, v26, v27])), (m0, .inl (mc0, 38, .inl nf))]) [0, 1] rfl
  have hKc := hK.sub (tys' := [(mc0, .int)]) [0] rfl
  refine vp_callSl (W.runV (As := [.int 0]) (rest := [.long 0]) ⟨hx, hb, hml, hown, hts⟩ (m_shadowIn_0 l dC dI ad h0 m0 v1 v2 v3 v4 v5 v6 v7 v8 v9 v10 v11 v12 v13 v14 v15 v16 v17 v18 v19 v20 v21 v22 v23 v24 v25 v26 v27 mc0 nf hnf) (cwV 1 hts g_m_darkBut_m1_m_shadowIn_0_137 rfl rfl rfl (by decide +kernel) ⟨(Nat.le_of_ble_eq_true rfl), (Nat.le_of_ble_eq_true rfl)⟩) ⟨preS_blind, va_recv hKc hPc (ci := 7) (q0 := 0) rfl rfl, fun U hU hW => ⟨rfl, preS_at hU hW hPc hKc hev⟩⟩ rfl rfl hl.1 rfl (lv_room (Nat.le_of_ble_eq_true rfl)) dX9_darkBut_25 ⟨(Nat.le_of_ble_eq_true rfl), (Nat.le_of_ble_eq_true rfl)⟩) (fun r_1 hw => ?_)
  subst hw
  refine lv_lor hx hb dX9_darkBut_28 ?_
  refine pp_tl (y := 0) (by decide) ?_
  refine lv_lstore_n (lv' := [(2, .long 0), (4, .int 0), (0, .ref h0), (1, .int (-1))]) hx hb dX9_darkBut_29 rfl hl (by decide) rfl (fun ls hl => ?_)
  refine lv_iinc (v := 1) (lv' := [(4, .int 1), (2, .long 0), (0, .ref h0), (1, .int (-1))]) hx hb dX9_darkBut_30 hl (k := 1) rfl (by decide) (by decide) rfl (fun ls hl => ?_)
  refine lv_goto (tgt := 5) hx hb dX9_darkBut_33 (by decide) ?_
  refine lv_iload hx hb dX9_darkBut_5 (lv_at hl 0 rfl) ?_
  refine lv_iconst (v := 4) hx hb dX9_darkBut_7 (by decide) ?_
  refine lv_icmp_ge (tgt := 36) hx hb dX9_darkBut_8 (by decide) (fun c => absurd c (by decide)) (fun _ => ?_)
  refine lv_lload_n hx hb dX9_darkBut_11 rfl (lv_at hl 1 rfl) ?_
  refine lv_iload hx hb dX9_darkBut_12 (lv_at hl 0 rfl) ?_
  refine lv_iload_n hx hb dX9_darkBut_14 rfl (lv_at hl 3 rfl) ?_
  refine lv_icmp_ne (tgt := 22) hx hb dX9_darkBut_15 (by decide) (fun _ => ?_) (fun c => absurd c (by decide))
  refine lv_aload_n hx hb dX9_darkBut_22 rfl (lv_at hl 2 rfl) ?_
  refine lv_iload hx hb dX9_darkBut_23 (lv_at hl 0 rfl) ?_
  have hPc := hP.sub (ws' := [(h0, .inr (7, [.ref m0, v1, v2, v3, v4, v5, v6, v7, v8, v9, v10, v11, v12, v13, v14, v15, v16, v17, v18, v19, v20, v21, v22, v23, v24, v25, v26, v27])), (m0, .inl (mc0, 38, .inl nf))]) [0, 1] rfl
  have hKc := hK.sub (tys' := [(mc0, .int)]) [0] rfl
  refine vp_callSl (W.runV (As := [.int 1]) (rest := [.long 0]) ⟨hx, hb, hml, hown, hts⟩ (m_shadowIn_1 l dC dI ad h0 m0 v1 v2 v3 v4 v5 v6 v7 v8 v9 v10 v11 v12 v13 v14 v15 v16 v17 v18 v19 v20 v21 v22 v23 v24 v25 v26 v27 mc0 nf hnf) (cwV 1 hts g_m_darkBut_m1_m_shadowIn_1_137 rfl rfl rfl (by decide +kernel) ⟨(Nat.le_of_ble_eq_true rfl), (Nat.le_of_ble_eq_true rfl)⟩) ⟨preS_blind, va_recv hKc hPc (ci := 7) (q0 := 0) rfl rfl, fun U hU hW => ⟨rfl, preS_at hU hW hPc hKc hev⟩⟩ rfl rfl hl.1 rfl (lv_room (Nat.le_of_ble_eq_true rfl)) dX9_darkBut_25 ⟨(Nat.le_of_ble_eq_true rfl), (Nat.le_of_ble_eq_true rfl)⟩) (fun r_2 hw => ?_)
  subst hw
  refine lv_lor hx hb dX9_darkBut_28 ?_
  refine pp_tl (y := 0) (by decide) ?_
  refine lv_lstore_n (lv' := [(2, .long 0), (4, .int 1), (0, .ref h0), (1, .int (-1))]) hx hb dX9_darkBut_29 rfl hl (by decide) rfl (fun ls hl => ?_)
  refine lv_iinc (v := 2) (lv' := [(4, .int 2), (2, .long 0), (0, .ref h0), (1, .int (-1))]) hx hb dX9_darkBut_30 hl (k := 1) rfl (by decide) (by decide) rfl (fun ls hl => ?_)
  refine lv_goto (tgt := 5) hx hb dX9_darkBut_33 (by decide) ?_
  refine lv_iload hx hb dX9_darkBut_5 (lv_at hl 0 rfl) ?_
  refine lv_iconst (v := 4) hx hb dX9_darkBut_7 (by decide) ?_
  refine lv_icmp_ge (tgt := 36) hx hb dX9_darkBut_8 (by decide) (fun c => absurd c (by decide)) (fun _ => ?_)
  refine lv_lload_n hx hb dX9_darkBut_11 rfl (lv_at hl 1 rfl) ?_
  refine lv_iload hx hb dX9_darkBut_12 (lv_at hl 0 rfl) ?_
  refine lv_iload_n hx hb dX9_darkBut_14 rfl (lv_at hl 3 rfl) ?_
  refine lv_icmp_ne (tgt := 22) hx hb dX9_darkBut_15 (by decide) (fun _ => ?_) (fun c => absurd c (by decide))
  refine lv_aload_n hx hb dX9_darkBut_22 rfl (lv_at hl 2 rfl) ?_
  refine lv_iload hx hb dX9_darkBut_23 (lv_at hl 0 rfl) ?_
  have hPc := hP.sub (ws' := [(h0, .inr (7, [.ref m0, v1, v2, v3, v4, v5, v6, v7, v8, v9, v10, v11, v12, v13, v14, v15, v16, v17, v18, v19, v20, v21, v22, v23, v24, v25, v26, v27])), (m0, .inl (mc0, 38, .inl nf))]) [0, 1] rfl
  have hKc := hK.sub (tys' := [(mc0, .int)]) [0] rfl
  refine vp_callSl (W.runV (As := [.int 2]) (rest := [.long 0]) ⟨hx, hb, hml, hown, hts⟩ (m_shadowIn_2 l dC dI ad h0 m0 v1 v2 v3 v4 v5 v6 v7 v8 v9 v10 v11 v12 v13 v14 v15 v16 v17 v18 v19 v20 v21 v22 v23 v24 v25 v26 v27 mc0 nf hnf) (cwV 1 hts g_m_darkBut_m1_m_shadowIn_2_137 rfl rfl rfl (by decide +kernel) ⟨(Nat.le_of_ble_eq_true rfl), (Nat.le_of_ble_eq_true rfl)⟩) ⟨preS_blind, va_recv hKc hPc (ci := 7) (q0 := 0) rfl rfl, fun U hU hW => ⟨rfl, preS_at hU hW hPc hKc hev⟩⟩ rfl rfl hl.1 rfl (lv_room (Nat.le_of_ble_eq_true rfl)) dX9_darkBut_25 ⟨(Nat.le_of_ble_eq_true rfl), (Nat.le_of_ble_eq_true rfl)⟩) (fun r_3 hw => ?_)
  subst hw
  refine lv_lor hx hb dX9_darkBut_28 ?_
  refine pp_tl (y := 0) (by decide) ?_
  refine lv_lstore_n (lv' := [(2, .long 0), (4, .int 2), (0, .ref h0), (1, .int (-1))]) hx hb dX9_darkBut_29 rfl hl (by decide) rfl (fun ls hl => ?_)
  refine lv_iinc (v := 3) (lv' := [(4, .int 3), (2, .long 0), (0, .ref h0), (1, .int (-1))]) hx hb dX9_darkBut_30 hl (k := 1) rfl (by decide) (by decide) rfl (fun ls hl => ?_)
  refine lv_goto (tgt := 5) hx hb dX9_darkBut_33 (by decide) ?_
  refine lv_iload hx hb dX9_darkBut_5 (lv_at hl 0 rfl) ?_
  refine lv_iconst (v := 4) hx hb dX9_darkBut_7 (by decide) ?_
  refine lv_icmp_ge (tgt := 36) hx hb dX9_darkBut_8 (by decide) (fun c => absurd c (by decide)) (fun _ => ?_)
  refine lv_lload_n hx hb dX9_darkBut_11 rfl (lv_at hl 1 rfl) ?_
  refine lv_iload hx hb dX9_darkBut_12 (lv_at hl 0 rfl) ?_
  refine lv_iload_n hx hb dX9_darkBut_14 rfl (lv_at hl 3 rfl) ?_
  refine lv_icmp_ne (tgt := 22) hx hb dX9_darkBut_15 (by decide) (fun _ => ?_) (fun c => absurd c (by decide))
  refine lv_aload_n hx hb dX9_darkBut_22 rfl (lv_at hl 2 rfl) ?_
  refine lv_iload hx hb dX9_darkBut_23 (lv_at hl 0 rfl) ?_
  have hPc := hP.sub (ws' := [(h0, .inr (7, [.ref m0, v1, v2, v3, v4, v5, v6, v7, v8, v9, v10, v11, v12, v13, v14, v15, v16, v17, v18, v19, v20, v21, v22, v23, v24, v25, v26, v27])), (m0, .inl (mc0, 38, .inl nf))]) [0, 1] rfl
  have hKc := hK.sub (tys' := [(mc0, .int)]) [0] rfl
  refine vp_callSl (W.runV (As := [.int 3]) (rest := [.long 0]) ⟨hx, hb, hml, hown, hts⟩ (m_shadowIn_3 l dC dI ad h0 m0 v1 v2 v3 v4 v5 v6 v7 v8 v9 v10 v11 v12 v13 v14 v15 v16 v17 v18 v19 v20 v21 v22 v23 v24 v25 v26 v27 mc0 nf hnf) (cwV 1 hts g_m_darkBut_m1_m_shadowIn_3_137 rfl rfl rfl (by decide +kernel) ⟨(Nat.le_of_ble_eq_true rfl), (Nat.le_of_ble_eq_true rfl)⟩) ⟨preS_blind, va_recv hKc hPc (ci := 7) (q0 := 0) rfl rfl, fun U hU hW => ⟨rfl, preS_at hU hW hPc hKc hev⟩⟩ rfl rfl hl.1 rfl (lv_room (Nat.le_of_ble_eq_true rfl)) dX9_darkBut_25 ⟨(Nat.le_of_ble_eq_true rfl), (Nat.le_of_ble_eq_true rfl)⟩) (fun r_4 hw => ?_)
  subst hw
  refine lv_lor hx hb dX9_darkBut_28 ?_
  refine pp_tl (y := 0) (by decide) ?_
  refine lv_lstore_n (lv' := [(2, .long 0), (4, .int 3), (0, .ref h0), (1, .int (-1))]) hx hb dX9_darkBut_29 rfl hl (by decide) rfl (fun ls hl => ?_)
  refine lv_iinc (v := 4) (lv' := [(4, .int 4), (2, .long 0), (0, .ref h0), (1, .int (-1))]) hx hb dX9_darkBut_30 hl (k := 1) rfl (by decide) (by decide) rfl (fun ls hl => ?_)
  refine lv_goto (tgt := 5) hx hb dX9_darkBut_33 (by decide) ?_
  refine lv_iload hx hb dX9_darkBut_5 (lv_at hl 0 rfl) ?_
  refine lv_iconst (v := 4) hx hb dX9_darkBut_7 (by decide) ?_
  refine lv_icmp_ge (tgt := 36) hx hb dX9_darkBut_8 (by decide) (fun _ => ?_) (fun c => absurd (by decide) c)
  refine lv_lload_n hx hb dX9_darkBut_36 rfl (lv_at hl 1 rfl) ?_
  exact W.lret (v := 0) hx hb hr (fun t ht hW => ⟨0, rfl, rfl, ht⟩) (fun _ h => absurd h List.not_mem_nil) dX9_darkBut_37

def w_m_darkBut_0 : List Cond := .code yX9_darkBut cX9_darkBut 5 (some .long) :: (([.methodLink RX9 137 yX9_shadowIn, .instanceMethod yX9_shadowIn, .selects RX9 yX9_shadowIn yX9_shadowIn, .initialized RX9, .code yX9_shadowIn cX9_shadowIn 3 (some .long), .fieldLink RX9 9 "LampShapesModel" "now" "[I"] : List Cond) ++ wsX90)
set_option maxRecDepth 20000 in
theorem g_m_darkBut_0_m_shadowIn_1_137 : GoodIn w_m_darkBut_0 (wsV RX9 137 RX9 yX9_shadowIn w_m_shadowIn_1) := goodIn_r _ [1, 2, 3, 4, 5, 6, 7, 8, 9, 10, 11, 12, 13, 14, 15, 16, 17, 18, 19, 20, 21, 22, 23, 24, 25, 26, 27, 28, 29, 30, 31, 32, 33, 34] rfl (by decide +kernel)
set_option maxRecDepth 20000 in
theorem g_m_darkBut_0_m_shadowIn_2_137 : GoodIn w_m_darkBut_0 (wsV RX9 137 RX9 yX9_shadowIn w_m_shadowIn_2) := goodIn_r _ [1, 2, 3, 4, 5, 6, 7, 8, 9, 10, 11, 12, 13, 14, 15, 16, 17, 18, 19, 20, 21, 22, 23, 24, 25, 26, 27, 28, 29, 30, 31, 32, 33, 34] rfl (by decide +kernel)
set_option maxRecDepth 20000 in
theorem g_m_darkBut_0_m_shadowIn_3_137 : GoodIn w_m_darkBut_0 (wsV RX9 137 RX9 yX9_shadowIn w_m_shadowIn_3) := goodIn_r _ [1, 2, 3, 4, 5, 6, 7, 8, 9, 10, 11, 12, 13, 14, 15, 16, 17, 18, 19, 20, 21, 22, 23, 24, 25, 26, 27, 28, 29, 30, 31, 32, 33, 34] rfl (by decide +kernel)
set_option maxHeartbeats 4000000 in
set_option maxRecDepth 100000 in
theorem m_darkBut_0 (l : Launch) (dC : Nat → ClassId) (dI : Nat → Nat → Nat) (ad : Nat → Nat) (h0 : Nat) (m0 : Nat) (v1 : Value) (v2 : Value) (v3 : Value) (v4 : Value) (v5 : Value) (v6 : Value) (v7 : Value) (v8 : Value) (v9 : Value) (v10 : Value) (v11 : Value) (v12 : Value) (v13 : Value) (v14 : Value) (v15 : Value) (v16 : Value) (v17 : Value) (v18 : Value) (v19 : Value) (v20 : Value) (v21 : Value) (v22 : Value) (v23 : Value) (v24 : Value) (v25 : Value) (v26 : Value) (v27 : Value) (mc0 : ClassId) (nf : Nat → Int32) (hnf : ∀ j, j < 38 → nf j = fr_n j) : Met l yX9_darkBut w_m_darkBut_0 ({ frames := 1, cells := 0, slots := 0, locals := 22 } : Room) (va_Pc [.ref h0, .int 0] (preS dC dI ad [(mc0, .int)] [(h0, .inr (7, [.ref m0, v1, v2, v3, v4, v5, v6, v7, v8, v9, v10, v11, v12, v13, v14, v15, v16, v17, v18, v19, v20, v21, v22, v23, v24, v25, v26, v27])), (m0, .inl (mc0, 38, .inl nf))])) (vp_Sl (fun r => (r = 0))) 0 0 (fun _ => False) := by
  refine Met.ofW (cc := cX9_darkBut) (maxL := 5) (ret := (some .long)) (by decide) rfl ?_
  intro p e s m args below meth c s₁ B hml hv
  obtain ⟨rfl, hP, hK, hev⟩ := hv
  have hx := B.exec
  have hb := B.bytes
  have hr := B.returns
  have hts := atoms_spec (ws := w_m_darkBut_0) B.pre
  have hown : s.vm.findClass RX9 = some m.cls := findClass_of_methodNamed B.named
  have hlocks := B.notSynchronized
  have inX9 : ∀ w ∈ wsX90, w ∈ w_m_darkBut_0 := fun w h => List.mem_cons_of_mem _ (List.mem_append_right _ h)
  have hP : va_P (dC, dI) vwCl [(h0, .inr (7, [.ref m0, v1, v2, v3, v4, v5, v6, v7, v8, v9, v10, v11, v12, v13, v14, v15, v16, v17, v18, v19, v20, v21, v22, v23, v24, v25, v26, v27])), (m0, .inl (mc0, 38, .inl nf))] s.heap := hP
  have hl := lv_entry ([.ref h0, .int 0]) (n := 5) (Nat.le_of_ble_eq_true rfl)
  rw [lg_entry_eq]
  generalize (lg_sl ([.ref h0, .int 0]) ++ List.replicate (5 - (lg_sl ([.ref h0, .int 0])).length) Slot.unset).toArray = ls at hl ⊢
  have hl : lv_has ls 5 [(0, .ref h0), (1, .int 0)] := hl
  refine lv_lconst (v := 0) hx hb dX9_darkBut_0 (by decide) ?_
  refine lv_lstore_n (lv' := [(2, .long 0), (0, .ref h0), (1, .int 0)]) hx hb dX9_darkBut_1 rfl hl (by decide) rfl (fun ls hl => ?_)
  refine lv_iconst (v := 0) hx hb dX9_darkBut_2 (by decide) ?_
  refine lv_istore (lv' := [(4, .int 0), (2, .long 0), (0, .ref h0), (1, .int 0)]) hx hb dX9_darkBut_3 hl (by decide) rfl (fun ls hl => ?_)
  refine lv_iload hx hb dX9_darkBut_5 (lv_at hl 0 rfl) ?_
  refine lv_iconst (v := 4) hx hb dX9_darkBut_7 (by decide) ?_
  refine lv_icmp_ge (tgt := 36) hx hb dX9_darkBut_8 (by decide) (fun c => absurd c (by decide)) (fun _ => ?_)
  refine lv_lload_n hx hb dX9_darkBut_11 rfl (lv_at hl 1 rfl) ?_
  refine lv_iload hx hb dX9_darkBut_12 (lv_at hl 0 rfl) ?_
  refine lv_iload_n hx hb dX9_darkBut_14 rfl (lv_at hl 3 rfl) ?_
  refine lv_icmp_ne (tgt := 22) hx hb dX9_darkBut_15 (by decide) (fun c => absurd (by decide) c) (fun _ => ?_)
  refine lv_lconst (v := 0) hx hb dX9_darkBut_18 (by decide) ?_
  refine lv_goto (tgt := 28) hx hb dX9_darkBut_19 (by decide) ?_
  refine lv_lor hx hb dX9_darkBut_28 ?_
  refine pp_tl (y := 0) (by decide) ?_
  refine lv_lstore_n (lv' := [(2, .long 0), (4, .int 0), (0, .ref h0), (1, .int 0)]) hx hb dX9_darkBut_29 rfl hl (by decide) rfl (fun ls hl => ?_)
  refine lv_iinc (v := 1) (lv' := [(4, .int 1), (2, .long 0), (0, .ref h0), (1, .int 0)]) hx hb dX9_darkBut_30 hl (k := 1) rfl (by decide) (by decide) rfl (fun ls hl => ?_)
  refine lv_goto (tgt := 5) hx hb dX9_darkBut_33 (by decide) ?_
  refine lv_iload hx hb dX9_darkBut_5 (lv_at hl 0 rfl) ?_
  refine lv_iconst (v := 4) hx hb dX9_darkBut_7 (by decide) ?_
  refine lv_icmp_ge (tgt := 36) hx hb dX9_darkBut_8 (by decide) (fun c => absurd c (by decide)) (fun _ => ?_)
  refine lv_lload_n hx hb dX9_darkBut_11 rfl (lv_at hl 1 rfl) ?_
  refine lv_iload hx hb dX9_darkBut_12 (lv_at hl 0 rfl) ?_
  refine lv_iload_n hx hb dX9_darkBut_14 rfl (lv_at hl 3 rfl) ?_
  refine lv_icmp_ne (tgt := 22) hx hb dX9_darkBut_15 (by decide) (fun _ => ?_) (fun c => absurd c (by decide))
  refine lv_aload_n hx hb dX9_darkBut_22 rfl (lv_at hl 2 rfl) ?_
  refine lv_iload hx hb dX9_darkBut_23 (lv_at hl 0 rfl) ?_
  have hPc := hP.sub (ws' := [(h0, .inr (7, [.ref m0, v1, v2, v3, v4, v5, v6, v7, v8, v9, v10, v11, v12, v13, v14, v15, v16, v17, v18, v19, v20, v21, v22, v23, v24, v25, v26, v27])), (m0, .inl (mc0, 38, .inl nf))]) [0, 1] rfl
  have hKc := hK.sub (tys' := [(mc0, .int)]) [0] rfl
  refine vp_callSl (W.runV (As := [.int 1]) (rest := [.long 0]) ⟨hx, hb, hml, hown, hts⟩ (m_shadowIn_1 l dC dI ad h0 m0 v1 v2 v3 v4 v5 v6 v7 v8 v9 v10 v11 v12 v13 v14 v15 v16 v17 v18 v19 v20 v21 v22 v23 v24 v25 v26 v27 mc0 nf hnf) (cwV 1 hts g_m_darkBut_0_m_shadowIn_1_137 rfl rfl rfl (by decide +kernel) ⟨(Nat.le_of_ble_eq_true rfl), (Nat.le_of_ble_eq_true rfl)⟩) ⟨preS_blind, va_recv hKc hPc (ci := 7) (q0 := 0) rfl rfl, fun U hU hW => ⟨rfl, preS_at hU hW hPc hKc hev⟩⟩ rfl rfl hl.1 rfl (lv_room (Nat.le_of_ble_eq_true rfl)) dX9_darkBut_25 ⟨(Nat.le_of_ble_eq_true rfl), (Nat.le_of_ble_eq_true rfl)⟩) (fun r_1 hw => ?_)
  subst hw
  refine lv_lor hx hb dX9_darkBut_28 ?_
  refine pp_tl (y := 0) (by decide) ?_
  refine lv_lstore_n (lv' := [(2, .long 0), (4, .int 1), (0, .ref h0), (1, .int 0)]) hx hb dX9_darkBut_29 rfl hl (by decide) rfl (fun ls hl => ?_)
  refine lv_iinc (v := 2) (lv' := [(4, .int 2), (2, .long 0), (0, .ref h0), (1, .int 0)]) hx hb dX9_darkBut_30 hl (k := 1) rfl (by decide) (by decide) rfl (fun ls hl => ?_)
  refine lv_goto (tgt := 5) hx hb dX9_darkBut_33 (by decide) ?_
  refine lv_iload hx hb dX9_darkBut_5 (lv_at hl 0 rfl) ?_
  refine lv_iconst (v := 4) hx hb dX9_darkBut_7 (by decide) ?_
  refine lv_icmp_ge (tgt := 36) hx hb dX9_darkBut_8 (by decide) (fun c => absurd c (by decide)) (fun _ => ?_)
  refine lv_lload_n hx hb dX9_darkBut_11 rfl (lv_at hl 1 rfl) ?_
  refine lv_iload hx hb dX9_darkBut_12 (lv_at hl 0 rfl) ?_
  refine lv_iload_n hx hb dX9_darkBut_14 rfl (lv_at hl 3 rfl) ?_
  refine lv_icmp_ne (tgt := 22) hx hb dX9_darkBut_15 (by decide) (fun _ => ?_) (fun c => absurd c (by decide))
  refine lv_aload_n hx hb dX9_darkBut_22 rfl (lv_at hl 2 rfl) ?_
  refine lv_iload hx hb dX9_darkBut_23 (lv_at hl 0 rfl) ?_
  have hPc := hP.sub (ws' := [(h0, .inr (7, [.ref m0, v1, v2, v3, v4, v5, v6, v7, v8, v9, v10, v11, v12, v13, v14, v15, v16, v17, v18, v19, v20, v21, v22, v23, v24, v25, v26, v27])), (m0, .inl (mc0, 38, .inl nf))]) [0, 1] rfl
  have hKc := hK.sub (tys' := [(mc0, .int)]) [0] rfl
  refine vp_callSl (W.runV (As := [.int 2]) (rest := [.long 0]) ⟨hx, hb, hml, hown, hts⟩ (m_shadowIn_2 l dC dI ad h0 m0 v1 v2 v3 v4 v5 v6 v7 v8 v9 v10 v11 v12 v13 v14 v15 v16 v17 v18 v19 v20 v21 v22 v23 v24 v25 v26 v27 mc0 nf hnf) (cwV 1 hts g_m_darkBut_0_m_shadowIn_2_137 rfl rfl rfl (by decide +kernel) ⟨(Nat.le_of_ble_eq_true rfl), (Nat.le_of_ble_eq_true rfl)⟩) ⟨preS_blind, va_recv hKc hPc (ci := 7) (q0 := 0) rfl rfl, fun U hU hW => ⟨rfl, preS_at hU hW hPc hKc hev⟩⟩ rfl rfl hl.1 rfl (lv_room (Nat.le_of_ble_eq_true rfl)) dX9_darkBut_25 ⟨(Nat.le_of_ble_eq_true rfl), (Nat.le_of_ble_eq_true rfl)⟩) (fun r_2 hw => ?_)
  subst hw
  refine lv_lor hx hb dX9_darkBut_28 ?_
  refine pp_tl (y := 0) (by decide) ?_
  refine lv_lstore_n (lv' := [(2, .long 0), (4, .int 2), (0, .ref h0), (1, .int 0)]) hx hb dX9_darkBut_29 rfl hl (by decide) rfl (fun ls hl => ?_)
  refine lv_iinc (v := 3) (lv' := [(4, .int 3), (2, .long 0), (0, .ref h0), (1, .int 0)]) hx hb dX9_darkBut_30 hl (k := 1) rfl (by decide) (by decide) rfl (fun ls hl => ?_)
  refine lv_goto (tgt := 5) hx hb dX9_darkBut_33 (by decide) ?_
  refine lv_iload hx hb dX9_darkBut_5 (lv_at hl 0 rfl) ?_
  refine lv_iconst (v := 4) hx hb dX9_darkBut_7 (by decide) ?_
  refine lv_icmp_ge (tgt := 36) hx hb dX9_darkBut_8 (by decide) (fun c => absurd c (by decide)) (fun _ => ?_)
  refine lv_lload_n hx hb dX9_darkBut_11 rfl (lv_at hl 1 rfl) ?_
  refine lv_iload hx hb dX9_darkBut_12 (lv_at hl 0 rfl) ?_
  refine lv_iload_n hx hb dX9_darkBut_14 rfl (lv_at hl 3 rfl) ?_
  refine lv_icmp_ne (tgt := 22) hx hb dX9_darkBut_15 (by decide) (fun _ => ?_) (fun c => absurd c (by decide))
  refine lv_aload_n hx hb dX9_darkBut_22 rfl (lv_at hl 2 rfl) ?_
  refine lv_iload hx hb dX9_darkBut_23 (lv_at hl 0 rfl) ?_
  have hPc := hP.sub (ws' := [(h0, .inr (7, [.ref m0, v1, v2, v3, v4, v5, v6, v7, v8, v9, v10, v11, v12, v13, v14, v15, v16, v17, v18, v19, v20, v21, v22, v23, v24, v25, v26, v27])), (m0, .inl (mc0, 38, .inl nf))]) [0, 1] rfl
  have hKc := hK.sub (tys' := [(mc0, .int)]) [0] rfl
  refine vp_callSl (W.runV (As := [.int 3]) (rest := [.long 0]) ⟨hx, hb, hml, hown, hts⟩ (m_shadowIn_3 l dC dI ad h0 m0 v1 v2 v3 v4 v5 v6 v7 v8 v9 v10 v11 v12 v13 v14 v15 v16 v17 v18 v19 v20 v21 v22 v23 v24 v25 v26 v27 mc0 nf hnf) (cwV 1 hts g_m_darkBut_0_m_shadowIn_3_137 rfl rfl rfl (by decide +kernel) ⟨(Nat.le_of_ble_eq_true rfl), (Nat.le_of_ble_eq_true rfl)⟩) ⟨preS_blind, va_recv hKc hPc (ci := 7) (q0 := 0) rfl rfl, fun U hU hW => ⟨rfl, preS_at hU hW hPc hKc hev⟩⟩ rfl rfl hl.1 rfl (lv_room (Nat.le_of_ble_eq_true rfl)) dX9_darkBut_25 ⟨(Nat.le_of_ble_eq_true rfl), (Nat.le_of_ble_eq_true rfl)⟩) (fun r_3 hw => ?_)
  subst hw
  refine lv_lor hx hb dX9_darkBut_28 ?_
  refine pp_tl (y := 0) (by decide) ?_
  refine lv_lstore_n (lv' := [(2, .long 0), (4, .int 3), (0, .ref h0), (1, .int 0)]) hx hb dX9_darkBut_29 rfl hl (by decide) rfl (fun ls hl => ?_)
  refine lv_iinc (v := 4) (lv' := [(4, .int 4), (2, .long 0), (0, .ref h0), (1, .int 0)]) hx hb dX9_darkBut_30 hl (k := 1) rfl (by decide) (by decide) rfl (fun ls hl => ?_)
  refine lv_goto (tgt := 5) hx hb dX9_darkBut_33 (by decide) ?_
  refine lv_iload hx hb dX9_darkBut_5 (lv_at hl 0 rfl) ?_
  refine lv_iconst (v := 4) hx hb dX9_darkBut_7 (by decide) ?_
  refine lv_icmp_ge (tgt := 36) hx hb dX9_darkBut_8 (by decide) (fun _ => ?_) (fun c => absurd (by decide) c)
  refine lv_lload_n hx hb dX9_darkBut_36 rfl (lv_at hl 1 rfl) ?_
  exact W.lret (v := 0) hx hb hr (fun t ht hW => ⟨0, rfl, rfl, ht⟩) (fun _ h => absurd h List.not_mem_nil) dX9_darkBut_37

def w_m_darkBut_1 : List Cond := .code yX9_darkBut cX9_darkBut 5 (some .long) :: (([.methodLink RX9 137 yX9_shadowIn, .instanceMethod yX9_shadowIn, .selects RX9 yX9_shadowIn yX9_shadowIn, .initialized RX9, .code yX9_shadowIn cX9_shadowIn 3 (some .long), .fieldLink RX9 9 "LampShapesModel" "now" "[I"] : List Cond) ++ wsX90)
set_option maxRecDepth 20000 in
theorem g_m_darkBut_1_m_shadowIn_0_137 : GoodIn w_m_darkBut_1 (wsV RX9 137 RX9 yX9_shadowIn w_m_shadowIn_0) := goodIn_r _ [1, 2, 3, 4, 5, 6, 7, 8, 9, 10, 11, 12, 13, 14, 15, 16, 17, 18, 19, 20, 21, 22, 23, 24, 25, 26, 27, 28, 29, 30, 31, 32, 33, 34] rfl (by decide +kernel)
set_option maxRecDepth 20000 in
theorem g_m_darkBut_1_m_shadowIn_2_137 : GoodIn w_m_darkBut_1 (wsV RX9 137 RX9 yX9_shadowIn w_m_shadowIn_2) := goodIn_r _ [1, 2, 3, 4, 5, 6, 7, 8, 9, 10, 11, 12, 13, 14, 15, 16, 17, 18, 19, 20, 21, 22, 23, 24, 25, 26, 27, 28, 29, 30, 31, 32, 33, 34] rfl (by decide +kernel)
set_option maxRecDepth 20000 in
theorem g_m_darkBut_1_m_shadowIn_3_137 : GoodIn w_m_darkBut_1 (wsV RX9 137 RX9 yX9_shadowIn w_m_shadowIn_3) := goodIn_r _ [1, 2, 3, 4, 5, 6, 7, 8, 9, 10, 11, 12, 13, 14, 15, 16, 17, 18, 19, 20, 21, 22, 23, 24, 25, 26, 27, 28, 29, 30, 31, 32, 33, 34] rfl (by decide +kernel)
set_option maxHeartbeats 4000000 in
set_option maxRecDepth 100000 in
theorem m_darkBut_1 (l : Launch) (dC : Nat → ClassId) (dI : Nat → Nat → Nat) (ad : Nat → Nat) (h0 : Nat) (m0 : Nat) (v1 : Value) (v2 : Value) (v3 : Value) (v4 : Value) (v5 : Value) (v6 : Value) (v7 : Value) (v8 : Value) (v9 : Value) (v10 : Value) (v11 : Value) (v12 : Value) (v13 : Value) (v14 : Value) (v15 : Value) (v16 : Value) (v17 : Value) (v18 : Value) (v19 : Value) (v20 : Value) (v21 : Value) (v22 : Value) (v23 : Value) (v24 : Value) (v25 : Value) (v26 : Value) (v27 : Value) (mc0 : ClassId) (nf : Nat → Int32) (hnf : ∀ j, j < 38 → nf j = fr_n j) : Met l yX9_darkBut w_m_darkBut_1 ({ frames := 1, cells := 0, slots := 0, locals := 22 } : Room) (va_Pc [.ref h0, .int 1] (preS dC dI ad [(mc0, .int)] [(h0, .inr (7, [.ref m0, v1, v2, v3, v4, v5, v6, v7, v8, v9, v10, v11, v12, v13, v14, v15, v16, v17, v18, v19, v20, v21, v22, v23, v24, v25, v26, v27])), (m0, .inl (mc0, 38, .inl nf))])) (vp_Sl (fun r => (r = 0))) 0 0 (fun _ => False) := by
  refine Met.ofW (cc := cX9_darkBut) (maxL := 5) (ret := (some .long)) (by decide) rfl ?_
  intro p e s m args below meth c s₁ B hml hv
  obtain ⟨rfl, hP, hK, hev⟩ := hv
  have hx := B.exec
  have hb := B.bytes
  have hr := B.returns
  have hts := atoms_spec (ws := w_m_darkBut_1) B.pre
  have hown : s.vm.findClass RX9 = some m.cls := findClass_of_methodNamed B.named
  have hlocks := B.notSynchronized
  have inX9 : ∀ w ∈ wsX90, w ∈ w_m_darkBut_1 := fun w h => List.mem_cons_of_mem _ (List.mem_append_right _ h)
  have hP : va_P (dC, dI) vwCl [(h0, .inr (7, [.ref m0, v1, v2, v3, v4, v5, v6, v7, v8, v9, v10, v11, v12, v13, v14, v15, v16, v17, v18, v19, v20, v21, v22, v23, v24, v25, v26, v27])), (m0, .inl (mc0, 38, .inl nf))] s.heap := hP
  have hl := lv_entry ([.ref h0, .int 1]) (n := 5) (Nat.le_of_ble_eq_true rfl)
  rw [lg_entry_eq]
  generalize (lg_sl ([.ref h0, .int 1]) ++ List.replicate (5 - (lg_sl ([.ref h0, .int 1])).length) Slot.unset).toArray = ls at hl ⊢
  have hl : lv_has ls 5 [(0, .ref h0), (1, .int 1)] := hl
  refine lv_lconst (v := 0) hx hb dX9_darkBut_0 (by decide) ?_
  refine lv_lstore_n (lv' := [(2, .long 0), (0, .ref h0), (1, .int 1)]) hx hb dX9_darkBut_1 rfl hl (by decide) rfl (fun ls hl => ?_)
  refine lv_iconst (v := 0) hx hb dX9_darkBut_2 (by decide) ?_
  refine lv_istore (lv' := [(4, .int 0), (2, .long 0), (0, .ref h0), (1, .int 1)]) hx hb dX9_darkBut_3 hl (by decide) rfl (fun ls hl => ?_)
  refine lv_iload hx hb dX9_darkBut_5 (lv_at hl 0 rfl) ?_
  refine lv_iconst (v := 4) hx hb dX9_darkBut_7 (by decide) ?_
  refine lv_icmp_ge (tgt := 36) hx hb dX9_darkBut_8 (by decide) (fun c => absurd c (by decide)) (fun _ => ?_)
  refine lv_lload_n hx hb dX9_darkBut_11 rfl (lv_at hl 1 rfl) ?_
  refine lv_iload hx hb dX9_darkBut_12 (lv_at hl 0 rfl) ?_
  refine lv_iload_n hx hb dX9_darkBut_14 rfl (lv_at hl 3 rfl) ?_
  refine lv_icmp_ne (tgt := 22) hx hb dX9_darkBut_15 (by decide) (fun _ => ?_) (fun c => absurd c (by decide))
  refine lv_aload_n hx hb dX9_darkBut_22 rfl (lv_at hl 2 rfl) ?_
  refine lv_iload hx hb dX9_darkBut_23 (lv_at hl 0 rfl) ?_
  have hPc := hP.sub (ws' := [(h0, .inr (7, [.ref m0, v1, v2, v3, v4, v5, v6, v7, v8, v9, v10, v11, v12, v13, v14, v15, v16, v17, v18, v19, v20, v21, v22, v23, v24, v25, v26, v27])), (m0, .inl (mc0, 38, .inl nf))]) [0, 1] rfl
  have hKc := hK.sub (tys' := [(mc0, .int)]) [0] rfl
  refine vp_callSl (W.runV (As := [.int 0]) (rest := [.long 0]) ⟨hx, hb, hml, hown, hts⟩ (m_shadowIn_0 l dC dI ad h0 m0 v1 v2 v3 v4 v5 v6 v7 v8 v9 v10 v11 v12 v13 v14 v15 v16 v17 v18 v19 v20 v21 v22 v23 v24 v25 v26 v27 mc0 nf hnf) (cwV 1 hts g_m_darkBut_1_m_shadowIn_0_137 rfl rfl rfl (by decide +kernel) ⟨(Nat.le_of_ble_eq_true rfl), (Nat.le_of_ble_eq_true rfl)⟩) ⟨preS_blind, va_recv hKc hPc (ci := 7) (q0 := 0) rfl rfl, fun U hU hW => ⟨rfl, preS_at hU hW hPc hKc hev⟩⟩ rfl rfl hl.1 rfl (lv_room (Nat.le_of_ble_eq_true rfl)) dX9_darkBut_25 ⟨(Nat.le_of_ble_eq_true rfl), (Nat.le_of_ble_eq_true rfl)⟩) (fun r_1 hw => ?_)
  subst hw
  refine lv_lor hx hb dX9_darkBut_28 ?_
  refine pp_tl (y := 0) (by decide) ?_
  refine lv_lstore_n (lv' := [(2, .long 0), (4, .int 0), (0, .ref h0), (1, .int 1)]) hx hb dX9_darkBut_29 rfl hl (by decide) rfl (fun ls hl => ?_)
  refine lv_iinc (v := 1) (lv' := [(4, .int 1), (2, .long 0), (0, .ref h0), (1, .int 1)]) hx hb dX9_darkBut_30 hl (k := 1) rfl (by decide) (by decide) rfl (fun ls hl => ?_)
  refine lv_goto (tgt := 5) hx hb dX9_darkBut_33 (by decide) ?_
  refine lv_iload hx hb dX9_darkBut_5 (lv_at hl 0 rfl) ?_
  refine lv_iconst (v := 4) hx hb dX9_darkBut_7 (by decide) ?_
  refine lv_icmp_ge (tgt := 36) hx hb dX9_darkBut_8 (by decide) (fun c => absurd c (by decide)) (fun _ => ?_)
  refine lv_lload_n hx hb dX9_darkBut_11 rfl (lv_at hl 1 rfl) ?_
  refine lv_iload hx hb dX9_darkBut_12 (lv_at hl 0 rfl) ?_
  refine lv_iload_n hx hb dX9_darkBut_14 rfl (lv_at hl 3 rfl) ?_
  refine lv_icmp_ne (tgt := 22) hx hb dX9_darkBut_15 (by decide) (fun c => absurd (by decide) c) (fun _ => ?_)
  refine lv_lconst (v := 0) hx hb dX9_darkBut_18 (by decide) ?_
  refine lv_goto (tgt := 28) hx hb dX9_darkBut_19 (by decide) ?_
  refine lv_lor hx hb dX9_darkBut_28 ?_
  refine pp_tl (y := 0) (by decide) ?_
  refine lv_lstore_n (lv' := [(2, .long 0), (4, .int 1), (0, .ref h0), (1, .int 1)]) hx hb dX9_darkBut_29 rfl hl (by decide) rfl (fun ls hl => ?_)
  refine lv_iinc (v := 2) (lv' := [(4, .int 2), (2, .long 0), (0, .ref h0), (1, .int 1)]) hx hb dX9_darkBut_30 hl (k := 1) rfl (by decide) (by decide) rfl (fun ls hl => ?_)
  refine lv_goto (tgt := 5) hx hb dX9_darkBut_33 (by decide) ?_
  refine lv_iload hx hb dX9_darkBut_5 (lv_at hl 0 rfl) ?_
  refine lv_iconst (v := 4) hx hb dX9_darkBut_7 (by decide) ?_
  refine lv_icmp_ge (tgt := 36) hx hb dX9_darkBut_8 (by decide) (fun c => absurd c (by decide)) (fun _ => ?_)
  refine lv_lload_n hx hb dX9_darkBut_11 rfl (lv_at hl 1 rfl) ?_
  refine lv_iload hx hb dX9_darkBut_12 (lv_at hl 0 rfl) ?_
  refine lv_iload_n hx hb dX9_darkBut_14 rfl (lv_at hl 3 rfl) ?_
  refine lv_icmp_ne (tgt := 22) hx hb dX9_darkBut_15 (by decide) (fun _ => ?_) (fun c => absurd c (by decide))
  refine lv_aload_n hx hb dX9_darkBut_22 rfl (lv_at hl 2 rfl) ?_
  refine lv_iload hx hb dX9_darkBut_23 (lv_at hl 0 rfl) ?_
  have hPc := hP.sub (ws' := [(h0, .inr (7, [.ref m0, v1, v2, v3, v4, v5, v6, v7, v8, v9, v10, v11, v12, v13, v14, v15, v16, v17, v18, v19, v20, v21, v22, v23, v24, v25, v26, v27])), (m0, .inl (mc0, 38, .inl nf))]) [0, 1] rfl
  have hKc := hK.sub (tys' := [(mc0, .int)]) [0] rfl
  refine vp_callSl (W.runV (As := [.int 2]) (rest := [.long 0]) ⟨hx, hb, hml, hown, hts⟩ (m_shadowIn_2 l dC dI ad h0 m0 v1 v2 v3 v4 v5 v6 v7 v8 v9 v10 v11 v12 v13 v14 v15 v16 v17 v18 v19 v20 v21 v22 v23 v24 v25 v26 v27 mc0 nf hnf) (cwV 1 hts g_m_darkBut_1_m_shadowIn_2_137 rfl rfl rfl (by decide +kernel) ⟨(Nat.le_of_ble_eq_true rfl), (Nat.le_of_ble_eq_true rfl)⟩) ⟨preS_blind, va_recv hKc hPc (ci := 7) (q0 := 0) rfl rfl, fun U hU hW => ⟨rfl, preS_at hU hW hPc hKc hev⟩⟩ rfl rfl hl.1 rfl (lv_room (Nat.le_of_ble_eq_true rfl)) dX9_darkBut_25 ⟨(Nat.le_of_ble_eq_true rfl), (Nat.le_of_ble_eq_true rfl)⟩) (fun r_2 hw => ?_)
  subst hw
  refine lv_lor hx hb dX9_darkBut_28 ?_
  refine pp_tl (y := 0) (by decide) ?_
  refine lv_lstore_n (lv' := [(2, .long 0), (4, .int 2), (0, .ref h0), (1, .int 1)]) hx hb dX9_darkBut_29 rfl hl (by decide) rfl (fun ls hl => ?_)
  refine lv_iinc (v := 3) (lv' := [(4, .int 3), (2, .long 0), (0, .ref h0), (1, .int 1)]) hx hb dX9_darkBut_30 hl (k := 1) rfl (by decide) (by decide) rfl (fun ls hl => ?_)
  refine lv_goto (tgt := 5) hx hb dX9_darkBut_33 (by decide) ?_
  refine lv_iload hx hb dX9_darkBut_5 (lv_at hl 0 rfl) ?_
  refine lv_iconst (v := 4) hx hb dX9_darkBut_7 (by decide) ?_
  refine lv_icmp_ge (tgt := 36) hx hb dX9_darkBut_8 (by decide) (fun c => absurd c (by decide)) (fun _ => ?_)
  refine lv_lload_n hx hb dX9_darkBut_11 rfl (lv_at hl 1 rfl) ?_
  refine lv_iload hx hb dX9_darkBut_12 (lv_at hl 0 rfl) ?_
  refine lv_iload_n hx hb dX9_darkBut_14 rfl (lv_at hl 3 rfl) ?_
  refine lv_icmp_ne (tgt := 22) hx hb dX9_darkBut_15 (by decide) (fun _ => ?_) (fun c => absurd c (by decide))
  refine lv_aload_n hx hb dX9_darkBut_22 rfl (lv_at hl 2 rfl) ?_
  refine lv_iload hx hb dX9_darkBut_23 (lv_at hl 0 rfl) ?_
  have hPc := hP.sub (ws' := [(h0, .inr (7, [.ref m0, v1, v2, v3, v4, v5, v6, v7, v8, v9, v10, v11, v12, v13, v14, v15, v16, v17, v18, v19, v20, v21, v22, v23, v24, v25, v26, v27])), (m0, .inl (mc0, 38, .inl nf))]) [0, 1] rfl
  have hKc := hK.sub (tys' := [(mc0, .int)]) [0] rfl
  refine vp_callSl (W.runV (As := [.int 3]) (rest := [.long 0]) ⟨hx, hb, hml, hown, hts⟩ (m_shadowIn_3 l dC dI ad h0 m0 v1 v2 v3 v4 v5 v6 v7 v8 v9 v10 v11 v12 v13 v14 v15 v16 v17 v18 v19 v20 v21 v22 v23 v24 v25 v26 v27 mc0 nf hnf) (cwV 1 hts g_m_darkBut_1_m_shadowIn_3_137 rfl rfl rfl (by decide +kernel) ⟨(Nat.le_of_ble_eq_true rfl), (Nat.le_of_ble_eq_true rfl)⟩) ⟨preS_blind, va_recv hKc hPc (ci := 7) (q0 := 0) rfl rfl, fun U hU hW => ⟨rfl, preS_at hU hW hPc hKc hev⟩⟩ rfl rfl hl.1 rfl (lv_room (Nat.le_of_ble_eq_true rfl)) dX9_darkBut_25 ⟨(Nat.le_of_ble_eq_true rfl), (Nat.le_of_ble_eq_true rfl)⟩) (fun r_3 hw => ?_)
  subst hw
  refine lv_lor hx hb dX9_darkBut_28 ?_
  refine pp_tl (y := 0) (by decide) ?_
  refine lv_lstore_n (lv' := [(2, .long 0), (4, .int 3), (0, .ref h0), (1, .int 1)]) hx hb dX9_darkBut_29 rfl hl (by decide) rfl (fun ls hl => ?_)
  refine lv_iinc (v := 4) (lv' := [(4, .int 4), (2, .long 0), (0, .ref h0), (1, .int 1)]) hx hb dX9_darkBut_30 hl (k := 1) rfl (by decide) (by decide) rfl (fun ls hl => ?_)
  refine lv_goto (tgt := 5) hx hb dX9_darkBut_33 (by decide) ?_
  refine lv_iload hx hb dX9_darkBut_5 (lv_at hl 0 rfl) ?_
  refine lv_iconst (v := 4) hx hb dX9_darkBut_7 (by decide) ?_
  refine lv_icmp_ge (tgt := 36) hx hb dX9_darkBut_8 (by decide) (fun _ => ?_) (fun c => absurd (by decide) c)
  refine lv_lload_n hx hb dX9_darkBut_36 rfl (lv_at hl 1 rfl) ?_
  exact W.lret (v := 0) hx hb hr (fun t ht hW => ⟨0, rfl, rfl, ht⟩) (fun _ h => absurd h List.not_mem_nil) dX9_darkBut_37

def w_m_darkBut_2 : List Cond := .code yX9_darkBut cX9_darkBut 5 (some .long) :: (([.methodLink RX9 137 yX9_shadowIn, .instanceMethod yX9_shadowIn, .selects RX9 yX9_shadowIn yX9_shadowIn, .initialized RX9, .code yX9_shadowIn cX9_shadowIn 3 (some .long), .fieldLink RX9 9 "LampShapesModel" "now" "[I"] : List Cond) ++ wsX90)
set_option maxRecDepth 20000 in
theorem g_m_darkBut_2_m_shadowIn_0_137 : GoodIn w_m_darkBut_2 (wsV RX9 137 RX9 yX9_shadowIn w_m_shadowIn_0) := goodIn_r _ [1, 2, 3, 4, 5, 6, 7, 8, 9, 10, 11, 12, 13, 14, 15, 16, 17, 18, 19, 20, 21, 22, 23, 24, 25, 26, 27, 28, 29, 30, 31, 32, 33, 34] rfl (by decide +kernel)
set_option maxRecDepth 20000 in
theorem g_m_darkBut_2_m_shadowIn_1_137 : GoodIn w_m_darkBut_2 (wsV RX9 137 RX9 yX9_shadowIn w_m_shadowIn_1) := goodIn_r _ [1, 2, 3, 4, 5, 6, 7, 8, 9, 10, 11, 12, 13, 14, 15, 16, 17, 18, 19, 20, 21, 22, 23, 24, 25, 26, 27, 28, 29, 30, 31, 32, 33, 34] rfl (by decide +kernel)
set_option maxRecDepth 20000 in
theorem g_m_darkBut_2_m_shadowIn_3_137 : GoodIn w_m_darkBut_2 (wsV RX9 137 RX9 yX9_shadowIn w_m_shadowIn_3) := goodIn_r _ [1, 2, 3, 4, 5, 6, 7, 8, 9, 10, 11, 12, 13, 14, 15, 16, 17, 18, 19, 20, 21, 22, 23, 24, 25, 26, 27, 28, 29, 30, 31, 32, 33, 34] rfl (by decide +kernel)
set_option maxHeartbeats 4000000 in
set_option maxRecDepth 100000 in
theorem m_darkBut_2 (l : Launch) (dC : Nat → ClassId) (dI : Nat → Nat → Nat) (ad : Nat → Nat) (h0 : Nat) (m0 : Nat) (v1 : Value) (v2 : Value) (v3 : Value) (v4 : Value) (v5 : Value) (v6 : Value) (v7 : Value) (v8 : Value) (v9 : Value) (v10 : Value) (v11 : Value) (v12 : Value) (v13 : Value) (v14 : Value) (v15 : Value) (v16 : Value) (v17 : Value) (v18 : Value) (v19 : Value) (v20 : Value) (v21 : Value) (v22 : Value) (v23 : Value) (v24 : Value) (v25 : Value) (v26 : Value) (v27 : Value) (mc0 : ClassId) (nf : Nat → Int32) (hnf : ∀ j, j < 38 → nf j = fr_n j) : Met l yX9_darkBut w_m_darkBut_2 ({ frames := 1, cells := 0, slots := 0, locals := 22 } : Room) (va_Pc [.ref h0, .int 2] (preS dC dI ad [(mc0, .int)] [(h0, .inr (7, [.ref m0, v1, v2, v3, v4, v5, v6, v7, v8, v9, v10, v11, v12, v13, v14, v15, v16, v17, v18, v19, v20, v21, v22, v23, v24, v25, v26, v27])), (m0, .inl (mc0, 38, .inl nf))])) (vp_Sl (fun r => (r = 0))) 0 0 (fun _ => False) := by
  refine Met.ofW (cc := cX9_darkBut) (maxL := 5) (ret := (some .long)) (by decide) rfl ?_
  intro p e s m args below meth c s₁ B hml hv
  obtain ⟨rfl, hP, hK, hev⟩ := hv
  have hx := B.exec
  have hb := B.bytes
  have hr := B.returns
  have hts := atoms_spec (ws := w_m_darkBut_2) B.pre
  have hown : s.vm.findClass RX9 = some m.cls := findClass_of_methodNamed B.named
  have hlocks := B.notSynchronized
  have inX9 : ∀ w ∈ wsX90, w ∈ w_m_darkBut_2 := fun w h => List.mem_cons_of_mem _ (List.mem_append_right _ h)
  have hP : va_P (dC, dI) vwCl [(h0, .inr (7, [.ref m0, v1, v2, v3, v4, v5, v6, v7, v8, v9, v10, v11, v12, v13, v14, v15, v16, v17, v18, v19, v20, v21, v22, v23, v24, v25, v26, v27])), (m0, .inl (mc0, 38, .inl nf))] s.heap := hP
  have hl := lv_entry ([.ref h0, .int 2]) (n := 5) (Nat.le_of_ble_eq_true rfl)
  rw [lg_entry_eq]
  generalize (lg_sl ([.ref h0, .int 2]) ++ List.replicate (5 - (lg_sl ([.ref h0, .int 2])).length) Slot.unset).toArray = ls at hl ⊢
  have hl : lv_has ls 5 [(0, .ref h0), (1, .int 2)] := hl
  refine lv_lconst (v := 0) hx hb dX9_darkBut_0 (by decide) ?_
  refine lv_lstore_n (lv' := [(2, .long 0), (0, .ref h0), (1, .int 2)]) hx hb dX9_darkBut_1 rfl hl (by decide) rfl (fun ls hl => ?_)
  refine lv_iconst (v := 0) hx hb dX9_darkBut_2 (by decide) ?_
  refine lv_istore (lv' := [(4, .int 0), (2, .long 0), (0, .ref h0), (1, .int 2)]) hx hb dX9_darkBut_3 hl (by decide) rfl (fun ls hl => ?_)
  refine lv_iload hx hb dX9_darkBut_5 (lv_at hl 0 rfl) ?_
  refine lv_iconst (v := 4) hx hb dX9_darkBut_7 (by decide) ?_
  refine lv_icmp_ge (tgt := 36) hx hb dX9_darkBut_8 (by decide) (fun c => absurd c (by decide)) (fun _ => ?_)
  refine lv_lload_n hx hb dX9_darkBut_11 rfl (lv_at hl 1 rfl) ?_
  refine lv_iload hx hb dX9_darkBut_12 (lv_at hl 0 rfl) ?_
  refine lv_iload_n hx hb dX9_darkBut_14 rfl (lv_at hl 3 rfl) ?_
  refine lv_icmp_ne (tgt := 22) hx hb dX9_darkBut_15 (by decide) (fun _ => ?_) (fun c => absurd c (by decide))
  refine lv_aload_n hx hb dX9_darkBut_22 rfl (lv_at hl 2 rfl) ?_
  refine lv_iload hx hb dX9_darkBut_23 (lv_at hl 0 rfl) ?_
  have hPc := hP.sub (ws' := [(h0, .inr (7, [.ref m0, v1, v2, v3, v4, v5, v6, v7, v8, v9, v10, v11, v12, v13, v14, v15, v16, v17, v18, v19, v20, v21, v22, v23, v24, v25, v26, v27])), (m0, .inl (mc0, 38, .inl nf))]) [0, 1] rfl
  have hKc := hK.sub (tys' := [(mc0, .int)]) [0] rfl
  refine vp_callSl (W.runV (As := [.int 0]) (rest := [.long 0]) ⟨hx, hb, hml, hown, hts⟩ (m_shadowIn_0 l dC dI ad h0 m0 v1 v2 v3 v4 v5 v6 v7 v8 v9 v10 v11 v12 v13 v14 v15 v16 v17 v18 v19 v20 v21 v22 v23 v24 v25 v26 v27 mc0 nf hnf) (cwV 1 hts g_m_darkBut_2_m_shadowIn_0_137 rfl rfl rfl (by decide +kernel) ⟨(Nat.le_of_ble_eq_true rfl), (Nat.le_of_ble_eq_true rfl)⟩) ⟨preS_blind, va_recv hKc hPc (ci := 7) (q0 := 0) rfl rfl, fun U hU hW => ⟨rfl, preS_at hU hW hPc hKc hev⟩⟩ rfl rfl hl.1 rfl (lv_room (Nat.le_of_ble_eq_true rfl)) dX9_darkBut_25 ⟨(Nat.le_of_ble_eq_true rfl), (Nat.le_of_ble_eq_true rfl)⟩) (fun r_1 hw => ?_)
  subst hw
  refine lv_lor hx hb dX9_darkBut_28 ?_
  refine pp_tl (y := 0) (by decide) ?_
  refine lv_lstore_n (lv' := [(2, .long 0), (4, .int 0), (0, .ref h0), (1, .int 2)]) hx hb dX9_darkBut_29 rfl hl (by decide) rfl (fun ls hl => ?_)
  refine lv_iinc (v := 1) (lv' := [(4, .int 1), (2, .long 0), (0, .ref h0), (1, .int 2)]) hx hb dX9_darkBut_30 hl (k := 1) rfl (by decide) (by decide) rfl (fun ls hl => ?_)
  refine lv_goto (tgt := 5) hx hb dX9_darkBut_33 (by decide) ?_
  refine lv_iload hx hb dX9_darkBut_5 (lv_at hl 0 rfl) ?_
  refine lv_iconst (v := 4) hx hb dX9_darkBut_7 (by decide) ?_
  refine lv_icmp_ge (tgt := 36) hx hb dX9_darkBut_8 (by decide) (fun c => absurd c (by decide)) (fun _ => ?_)
  refine lv_lload_n hx hb dX9_darkBut_11 rfl (lv_at hl 1 rfl) ?_
  refine lv_iload hx hb dX9_darkBut_12 (lv_at hl 0 rfl) ?_
  refine lv_iload_n hx hb dX9_darkBut_14 rfl (lv_at hl 3 rfl) ?_
  refine lv_icmp_ne (tgt := 22) hx hb dX9_darkBut_15 (by decide) (fun _ => ?_) (fun c => absurd c (by decide))
  refine lv_aload_n hx hb dX9_darkBut_22 rfl (lv_at hl 2 rfl) ?_
  refine lv_iload hx hb dX9_darkBut_23 (lv_at hl 0 rfl) ?_
  have hPc := hP.sub (ws' := [(h0, .inr (7, [.ref m0, v1, v2, v3, v4, v5, v6, v7, v8, v9, v10, v11, v12, v13, v14, v15, v16, v17, v18, v19, v20, v21, v22, v23, v24, v25, v26, v27])), (m0, .inl (mc0, 38, .inl nf))]) [0, 1] rfl
  have hKc := hK.sub (tys' := [(mc0, .int)]) [0] rfl
  refine vp_callSl (W.runV (As := [.int 1]) (rest := [.long 0]) ⟨hx, hb, hml, hown, hts⟩ (m_shadowIn_1 l dC dI ad h0 m0 v1 v2 v3 v4 v5 v6 v7 v8 v9 v10 v11 v12 v13 v14 v15 v16 v17 v18 v19 v20 v21 v22 v23 v24 v25 v26 v27 mc0 nf hnf) (cwV 1 hts g_m_darkBut_2_m_shadowIn_1_137 rfl rfl rfl (by decide +kernel) ⟨(Nat.le_of_ble_eq_true rfl), (Nat.le_of_ble_eq_true rfl)⟩) ⟨preS_blind, va_recv hKc hPc (ci := 7) (q0 := 0) rfl rfl, fun U hU hW => ⟨rfl, preS_at hU hW hPc hKc hev⟩⟩ rfl rfl hl.1 rfl (lv_room (Nat.le_of_ble_eq_true rfl)) dX9_darkBut_25 ⟨(Nat.le_of_ble_eq_true rfl), (Nat.le_of_ble_eq_true rfl)⟩) (fun r_2 hw => ?_)
  subst hw
  refine lv_lor hx hb dX9_darkBut_28 ?_
  refine pp_tl (y := 0) (by decide) ?_
  refine lv_lstore_n (lv' := [(2, .long 0), (4, .int 1), (0, .ref h0), (1, .int 2)]) hx hb dX9_darkBut_29 rfl hl (by decide) rfl (fun ls hl => ?_)
  refine lv_iinc (v := 2) (lv' := [(4, .int 2), (2, .long 0), (0, .ref h0), (1, .int 2)]) hx hb dX9_darkBut_30 hl (k := 1) rfl (by decide) (by decide) rfl (fun ls hl => ?_)
  refine lv_goto (tgt := 5) hx hb dX9_darkBut_33 (by decide) ?_
  refine lv_iload hx hb dX9_darkBut_5 (lv_at hl 0 rfl) ?_
  refine lv_iconst (v := 4) hx hb dX9_darkBut_7 (by decide) ?_
  refine lv_icmp_ge (tgt := 36) hx hb dX9_darkBut_8 (by decide) (fun c => absurd c (by decide)) (fun _ => ?_)
  refine lv_lload_n hx hb dX9_darkBut_11 rfl (lv_at hl 1 rfl) ?_
  refine lv_iload hx hb dX9_darkBut_12 (lv_at hl 0 rfl) ?_
  refine lv_iload_n hx hb dX9_darkBut_14 rfl (lv_at hl 3 rfl) ?_
  refine lv_icmp_ne (tgt := 22) hx hb dX9_darkBut_15 (by decide) (fun c => absurd (by decide) c) (fun _ => ?_)
  refine lv_lconst (v := 0) hx hb dX9_darkBut_18 (by decide) ?_
  refine lv_goto (tgt := 28) hx hb dX9_darkBut_19 (by decide) ?_
  refine lv_lor hx hb dX9_darkBut_28 ?_
  refine pp_tl (y := 0) (by decide) ?_
  refine lv_lstore_n (lv' := [(2, .long 0), (4, .int 2), (0, .ref h0), (1, .int 2)]) hx hb dX9_darkBut_29 rfl hl (by decide) rfl (fun ls hl => ?_)
  refine lv_iinc (v := 3) (lv' := [(4, .int 3), (2, .long 0), (0, .ref h0), (1, .int 2)]) hx hb dX9_darkBut_30 hl (k := 1) rfl (by decide) (by decide) rfl (fun ls hl => ?_)
  refine lv_goto (tgt := 5) hx hb dX9_darkBut_33 (by decide) ?_
  refine lv_iload hx hb dX9_darkBut_5 (lv_at hl 0 rfl) ?_
  refine lv_iconst (v := 4) hx hb dX9_darkBut_7 (by decide) ?_
  refine lv_icmp_ge (tgt := 36) hx hb dX9_darkBut_8 (by decide) (fun c => absurd c (by decide)) (fun _ => ?_)
  refine lv_lload_n hx hb dX9_darkBut_11 rfl (lv_at hl 1 rfl) ?_
  refine lv_iload hx hb dX9_darkBut_12 (lv_at hl 0 rfl) ?_
  refine lv_iload_n hx hb dX9_darkBut_14 rfl (lv_at hl 3 rfl) ?_
  refine lv_icmp_ne (tgt := 22) hx hb dX9_darkBut_15 (by decide) (fun _ => ?_) (fun c => absurd c (by decide))
  refine lv_aload_n hx hb dX9_darkBut_22 rfl (lv_at hl 2 rfl) ?_
  refine lv_iload hx hb dX9_darkBut_23 (lv_at hl 0 rfl) ?_
  have hPc := hP.sub (ws' := [(h0, .inr (7, [.ref m0, v1, v2, v3, v4, v5, v6, v7, v8, v9, v10, v11, v12, v13, v14, v15, v16, v17, v18, v19, v20, v21, v22, v23, v24, v25, v26, v27])), (m0, .inl (mc0, 38, .inl nf))]) [0, 1] rfl
  have hKc := hK.sub (tys' := [(mc0, .int)]) [0] rfl
  refine vp_callSl (W.runV (As := [.int 3]) (rest := [.long 0]) ⟨hx, hb, hml, hown, hts⟩ (m_shadowIn_3 l dC dI ad h0 m0 v1 v2 v3 v4 v5 v6 v7 v8 v9 v10 v11 v12 v13 v14 v15 v16 v17 v18 v19 v20 v21 v22 v23 v24 v25 v26 v27 mc0 nf hnf) (cwV 1 hts g_m_darkBut_2_m_shadowIn_3_137 rfl rfl rfl (by decide +kernel) ⟨(Nat.le_of_ble_eq_true rfl), (Nat.le_of_ble_eq_true rfl)⟩) ⟨preS_blind, va_recv hKc hPc (ci := 7) (q0 := 0) rfl rfl, fun U hU hW => ⟨rfl, preS_at hU hW hPc hKc hev⟩⟩ rfl rfl hl.1 rfl (lv_room (Nat.le_of_ble_eq_true rfl)) dX9_darkBut_25 ⟨(Nat.le_of_ble_eq_true rfl), (Nat.le_of_ble_eq_true rfl)⟩) (fun r_3 hw => ?_)
  subst hw
  refine lv_lor hx hb dX9_darkBut_28 ?_
  refine pp_tl (y := 0) (by decide) ?_
  refine lv_lstore_n (lv' := [(2, .long 0), (4, .int 3), (0, .ref h0), (1, .int 2)]) hx hb dX9_darkBut_29 rfl hl (by decide) rfl (fun ls hl => ?_)
  refine lv_iinc (v := 4) (lv' := [(4, .int 4), (2, .long 0), (0, .ref h0), (1, .int 2)]) hx hb dX9_darkBut_30 hl (k := 1) rfl (by decide) (by decide) rfl (fun ls hl => ?_)
  refine lv_goto (tgt := 5) hx hb dX9_darkBut_33 (by decide) ?_
  refine lv_iload hx hb dX9_darkBut_5 (lv_at hl 0 rfl) ?_
  refine lv_iconst (v := 4) hx hb dX9_darkBut_7 (by decide) ?_
  refine lv_icmp_ge (tgt := 36) hx hb dX9_darkBut_8 (by decide) (fun _ => ?_) (fun c => absurd (by decide) c)
  refine lv_lload_n hx hb dX9_darkBut_36 rfl (lv_at hl 1 rfl) ?_
  exact W.lret (v := 0) hx hb hr (fun t ht hW => ⟨0, rfl, rfl, ht⟩) (fun _ h => absurd h List.not_mem_nil) dX9_darkBut_37

def w_m_darkBut_3 : List Cond := .code yX9_darkBut cX9_darkBut 5 (some .long) :: (([.methodLink RX9 137 yX9_shadowIn, .instanceMethod yX9_shadowIn, .selects RX9 yX9_shadowIn yX9_shadowIn, .initialized RX9, .code yX9_shadowIn cX9_shadowIn 3 (some .long), .fieldLink RX9 9 "LampShapesModel" "now" "[I"] : List Cond) ++ wsX90)
set_option maxRecDepth 20000 in
theorem g_m_darkBut_3_m_shadowIn_0_137 : GoodIn w_m_darkBut_3 (wsV RX9 137 RX9 yX9_shadowIn w_m_shadowIn_0) := goodIn_r _ [1, 2, 3, 4, 5, 6, 7, 8, 9, 10, 11, 12, 13, 14, 15, 16, 17, 18, 19, 20, 21, 22, 23, 24, 25, 26, 27, 28, 29, 30, 31, 32, 33, 34] rfl (by decide +kernel)
set_option maxRecDepth 20000 in
theorem g_m_darkBut_3_m_shadowIn_1_137 : GoodIn w_m_darkBut_3 (wsV RX9 137 RX9 yX9_shadowIn w_m_shadowIn_1) := goodIn_r _ [1, 2, 3, 4, 5, 6, 7, 8, 9, 10, 11, 12, 13, 14, 15, 16, 17, 18, 19, 20, 21, 22, 23, 24, 25, 26, 27, 28, 29, 30, 31, 32, 33, 34] rfl (by decide +kernel)
set_option maxRecDepth 20000 in
theorem g_m_darkBut_3_m_shadowIn_2_137 : GoodIn w_m_darkBut_3 (wsV RX9 137 RX9 yX9_shadowIn w_m_shadowIn_2) := goodIn_r _ [1, 2, 3, 4, 5, 6, 7, 8, 9, 10, 11, 12, 13, 14, 15, 16, 17, 18, 19, 20, 21, 22, 23, 24, 25, 26, 27, 28, 29, 30, 31, 32, 33, 34] rfl (by decide +kernel)
set_option maxHeartbeats 4000000 in
set_option maxRecDepth 100000 in
theorem m_darkBut_3 (l : Launch) (dC : Nat → ClassId) (dI : Nat → Nat → Nat) (ad : Nat → Nat) (h0 : Nat) (m0 : Nat) (v1 : Value) (v2 : Value) (v3 : Value) (v4 : Value) (v5 : Value) (v6 : Value) (v7 : Value) (v8 : Value) (v9 : Value) (v10 : Value) (v11 : Value) (v12 : Value) (v13 : Value) (v14 : Value) (v15 : Value) (v16 : Value) (v17 : Value) (v18 : Value) (v19 : Value) (v20 : Value) (v21 : Value) (v22 : Value) (v23 : Value) (v24 : Value) (v25 : Value) (v26 : Value) (v27 : Value) (mc0 : ClassId) (nf : Nat → Int32) (hnf : ∀ j, j < 38 → nf j = fr_n j) : Met l yX9_darkBut w_m_darkBut_3 ({ frames := 1, cells := 0, slots := 0, locals := 22 } : Room) (va_Pc [.ref h0, .int 3] (preS dC dI ad [(mc0, .int)] [(h0, .inr (7, [.ref m0, v1, v2, v3, v4, v5, v6, v7, v8, v9, v10, v11, v12, v13, v14, v15, v16, v17, v18, v19, v20, v21, v22, v23, v24, v25, v26, v27])), (m0, .inl (mc0, 38, .inl nf))])) (vp_Sl (fun r => (r = 0))) 0 0 (fun _ => False) := by
  refine Met.ofW (cc := cX9_darkBut) (maxL := 5) (ret := (some .long)) (by decide) rfl ?_
  intro p e s m args below meth c s₁ B hml hv
  obtain ⟨rfl, hP, hK, hev⟩ := hv
  have hx := B.exec
  have hb := B.bytes
  have hr := B.returns
  have hts := atoms_spec (ws := w_m_darkBut_3) B.pre
  have hown : s.vm.findClass RX9 = some m.cls := findClass_of_methodNamed B.named
  have hlocks := B.notSynchronized
  have inX9 : ∀ w ∈ wsX90, w ∈ w_m_darkBut_3 := fun w h => List.mem_cons_of_mem _ (List.mem_append_right _ h)
  have hP : va_P (dC, dI) vwCl [(h0, .inr (7, [.ref m0, v1, v2, v3, v4, v5, v6, v7, v8, v9, v10, v11, v12, v13, v14, v15, v16, v17, v18, v19, v20, v21, v22, v23, v24, v25, v26, v27])), (m0, .inl (mc0, 38, .inl nf))] s.heap := hP
  have hl := lv_entry ([.ref h0, .int 3]) (n := 5) (Nat.le_of_ble_eq_true rfl)
  rw [lg_entry_eq]
  generalize (lg_sl ([.ref h0, .int 3]) ++ List.replicate (5 - (lg_sl ([.ref h0, .int 3])).length) Slot.unset).toArray = ls at hl ⊢
  have hl : lv_has ls 5 [(0, .ref h0), (1, .int 3)] := hl
  refine lv_lconst (v := 0) hx hb dX9_darkBut_0 (by decide) ?_
  refine lv_lstore_n (lv' := [(2, .long 0), (0, .ref h0), (1, .int 3)]) hx hb dX9_darkBut_1 rfl hl (by decide) rfl (fun ls hl => ?_)
  refine lv_iconst (v := 0) hx hb dX9_darkBut_2 (by decide) ?_
  refine lv_istore (lv' := [(4, .int 0), (2, .long 0), (0, .ref h0), (1, .int 3)]) hx hb dX9_darkBut_3 hl (by decide) rfl (fun ls hl => ?_)
  refine lv_iload hx hb dX9_darkBut_5 (lv_at hl 0 rfl) ?_
  refine lv_iconst (v := 4) hx hb dX9_darkBut_7 (by decide) ?_
  refine lv_icmp_ge (tgt := 36) hx hb dX9_darkBut_8 (by decide) (fun c => absurd c (by decide)) (fun _ => ?_)
  refine lv_lload_n hx hb dX9_darkBut_11 rfl (lv_at hl 1 rfl) ?_
  refine lv_iload hx hb dX9_darkBut_12 (lv_at hl 0 rfl) ?_
  refine lv_iload_n hx hb dX9_darkBut_14 rfl (lv_at hl 3 rfl) ?_
  refine lv_icmp_ne (tgt := 22) hx hb dX9_darkBut_15 (by decide) (fun _ => ?_) (fun c => absurd c (by decide))
  refine lv_aload_n hx hb dX9_darkBut_22 rfl (lv_at hl 2 rfl) ?_
  refine lv_iload hx hb dX9_darkBut_23 (lv_at hl 0 rfl) ?_
  have hPc := hP.sub (ws' := [(h0, .inr (7, [.ref m0, v1, v2, v3, v4, v5, v6, v7, v8, v9, v10, v11, v12, v13, v14, v15, v16, v17, v18, v19, v20, v21, v22, v23, v24, v25, v26, v27])), (m0, .inl (mc0, 38, .inl nf))]) [0, 1] rfl
  have hKc := hK.sub (tys' := [(mc0, .int)]) [0] rfl
  refine vp_callSl (W.runV (As := [.int 0]) (rest := [.long 0]) ⟨hx, hb, hml, hown, hts⟩ (m_shadowIn_0 l dC dI ad h0 m0 v1 v2 v3 v4 v5 v6 v7 v8 v9 v10 v11 v12 v13 v14 v15 v16 v17 v18 v19 v20 v21 v22 v23 v24 v25 v26 v27 mc0 nf hnf) (cwV 1 hts g_m_darkBut_3_m_shadowIn_0_137 rfl rfl rfl (by decide +kernel) ⟨(Nat.le_of_ble_eq_true rfl), (Nat.le_of_ble_eq_true rfl)⟩) ⟨preS_blind, va_recv hKc hPc (ci := 7) (q0 := 0) rfl rfl, fun U hU hW => ⟨rfl, preS_at hU hW hPc hKc hev⟩⟩ rfl rfl hl.1 rfl (lv_room (Nat.le_of_ble_eq_true rfl)) dX9_darkBut_25 ⟨(Nat.le_of_ble_eq_true rfl), (Nat.le_of_ble_eq_true rfl)⟩) (fun r_1 hw => ?_)
  subst hw
  refine lv_lor hx hb dX9_darkBut_28 ?_
  refine pp_tl (y := 0) (by decide) ?_
  refine lv_lstore_n (lv' := [(2, .long 0), (4, .int 0), (0, .ref h0), (1, .int 3)]) hx hb dX9_darkBut_29 rfl hl (by decide) rfl (fun ls hl => ?_)
  refine lv_iinc (v := 1) (lv' := [(4, .int 1), (2, .long 0), (0, .ref h0), (1, .int 3)]) hx hb dX9_darkBut_30 hl (k := 1) rfl (by decide) (by decide) rfl (fun ls hl => ?_)
  refine lv_goto (tgt := 5) hx hb dX9_darkBut_33 (by decide) ?_
  refine lv_iload hx hb dX9_darkBut_5 (lv_at hl 0 rfl) ?_
  refine lv_iconst (v := 4) hx hb dX9_darkBut_7 (by decide) ?_
  refine lv_icmp_ge (tgt := 36) hx hb dX9_darkBut_8 (by decide) (fun c => absurd c (by decide)) (fun _ => ?_)
  refine lv_lload_n hx hb dX9_darkBut_11 rfl (lv_at hl 1 rfl) ?_
  refine lv_iload hx hb dX9_darkBut_12 (lv_at hl 0 rfl) ?_
  refine lv_iload_n hx hb dX9_darkBut_14 rfl (lv_at hl 3 rfl) ?_
  refine lv_icmp_ne (tgt := 22) hx hb dX9_darkBut_15 (by decide) (fun _ => ?_) (fun c => absurd c (by decide))
  refine lv_aload_n hx hb dX9_darkBut_22 rfl (lv_at hl 2 rfl) ?_
  refine lv_iload hx hb dX9_darkBut_23 (lv_at hl 0 rfl) ?_
  have hPc := hP.sub (ws' := [(h0, .inr (7, [.ref m0, v1, v2, v3, v4, v5, v6, v7, v8, v9, v10, v11, v12, v13, v14, v15, v16, v17, v18, v19, v20, v21, v22, v23, v24, v25, v26, v27])), (m0, .inl (mc0, 38, .inl nf))]) [0, 1] rfl
  have hKc := hK.sub (tys' := [(mc0, .int)]) [0] rfl
  refine vp_callSl (W.runV (As := [.int 1]) (rest := [.long 0]) ⟨hx, hb, hml, hown, hts⟩ (m_shadowIn_1 l dC dI ad h0 m0 v1 v2 v3 v4 v5 v6 v7 v8 v9 v10 v11 v12 v13 v14 v15 v16 v17 v18 v19 v20 v21 v22 v23 v24 v25 v26 v27 mc0 nf hnf) (cwV 1 hts g_m_darkBut_3_m_shadowIn_1_137 rfl rfl rfl (by decide +kernel) ⟨(Nat.le_of_ble_eq_true rfl), (Nat.le_of_ble_eq_true rfl)⟩) ⟨preS_blind, va_recv hKc hPc (ci := 7) (q0 := 0) rfl rfl, fun U hU hW => ⟨rfl, preS_at hU hW hPc hKc hev⟩⟩ rfl rfl hl.1 rfl (lv_room (Nat.le_of_ble_eq_true rfl)) dX9_darkBut_25 ⟨(Nat.le_of_ble_eq_true rfl), (Nat.le_of_ble_eq_true rfl)⟩) (fun r_2 hw => ?_)
  subst hw
  refine lv_lor hx hb dX9_darkBut_28 ?_
  refine pp_tl (y := 0) (by decide) ?_
  refine lv_lstore_n (lv' := [(2, .long 0), (4, .int 1), (0, .ref h0), (1, .int 3)]) hx hb dX9_darkBut_29 rfl hl (by decide) rfl (fun ls hl => ?_)
  refine lv_iinc (v := 2) (lv' := [(4, .int 2), (2, .long 0), (0, .ref h0), (1, .int 3)]) hx hb dX9_darkBut_30 hl (k := 1) rfl (by decide) (by decide) rfl (fun ls hl => ?_)
  refine lv_goto (tgt := 5) hx hb dX9_darkBut_33 (by decide) ?_
  refine lv_iload hx hb dX9_darkBut_5 (lv_at hl 0 rfl) ?_
  refine lv_iconst (v := 4) hx hb dX9_darkBut_7 (by decide) ?_
  refine lv_icmp_ge (tgt := 36) hx hb dX9_darkBut_8 (by decide) (fun c => absurd c (by decide)) (fun _ => ?_)
  refine lv_lload_n hx hb dX9_darkBut_11 rfl (lv_at hl 1 rfl) ?_
  refine lv_iload hx hb dX9_darkBut_12 (lv_at hl 0 rfl) ?_
  refine lv_iload_n hx hb dX9_darkBut_14 rfl (lv_at hl 3 rfl) ?_
  refine lv_icmp_ne (tgt := 22) hx hb dX9_darkBut_15 (by decide) (fun _ => ?_) (fun c => absurd c (by decide))
  refine lv_aload_n hx hb dX9_darkBut_22 rfl (lv_at hl 2 rfl) ?_
  refine lv_iload hx hb dX9_darkBut_23 (lv_at hl 0 rfl) ?_
  have hPc := hP.sub (ws' := [(h0, .inr (7, [.ref m0, v1, v2, v3, v4, v5, v6, v7, v8, v9, v10, v11, v12, v13, v14, v15, v16, v17, v18, v19, v20, v21, v22, v23, v24, v25, v26, v27])), (m0, .inl (mc0, 38, .inl nf))]) [0, 1] rfl
  have hKc := hK.sub (tys' := [(mc0, .int)]) [0] rfl
  refine vp_callSl (W.runV (As := [.int 2]) (rest := [.long 0]) ⟨hx, hb, hml, hown, hts⟩ (m_shadowIn_2 l dC dI ad h0 m0 v1 v2 v3 v4 v5 v6 v7 v8 v9 v10 v11 v12 v13 v14 v15 v16 v17 v18 v19 v20 v21 v22 v23 v24 v25 v26 v27 mc0 nf hnf) (cwV 1 hts g_m_darkBut_3_m_shadowIn_2_137 rfl rfl rfl (by decide +kernel) ⟨(Nat.le_of_ble_eq_true rfl), (Nat.le_of_ble_eq_true rfl)⟩) ⟨preS_blind, va_recv hKc hPc (ci := 7) (q0 := 0) rfl rfl, fun U hU hW => ⟨rfl, preS_at hU hW hPc hKc hev⟩⟩ rfl rfl hl.1 rfl (lv_room (Nat.le_of_ble_eq_true rfl)) dX9_darkBut_25 ⟨(Nat.le_of_ble_eq_true rfl), (Nat.le_of_ble_eq_true rfl)⟩) (fun r_3 hw => ?_)
  subst hw
  refine lv_lor hx hb dX9_darkBut_28 ?_
  refine pp_tl (y := 0) (by decide) ?_
  refine lv_lstore_n (lv' := [(2, .long 0), (4, .int 2), (0, .ref h0), (1, .int 3)]) hx hb dX9_darkBut_29 rfl hl (by decide) rfl (fun ls hl => ?_)
  refine lv_iinc (v := 3) (lv' := [(4, .int 3), (2, .long 0), (0, .ref h0), (1, .int 3)]) hx hb dX9_darkBut_30 hl (k := 1) rfl (by decide) (by decide) rfl (fun ls hl => ?_)
  refine lv_goto (tgt := 5) hx hb dX9_darkBut_33 (by decide) ?_
  refine lv_iload hx hb dX9_darkBut_5 (lv_at hl 0 rfl) ?_
  refine lv_iconst (v := 4) hx hb dX9_darkBut_7 (by decide) ?_
  refine lv_icmp_ge (tgt := 36) hx hb dX9_darkBut_8 (by decide) (fun c => absurd c (by decide)) (fun _ => ?_)
  refine lv_lload_n hx hb dX9_darkBut_11 rfl (lv_at hl 1 rfl) ?_
  refine lv_iload hx hb dX9_darkBut_12 (lv_at hl 0 rfl) ?_
  refine lv_iload_n hx hb dX9_darkBut_14 rfl (lv_at hl 3 rfl) ?_
  refine lv_icmp_ne (tgt := 22) hx hb dX9_darkBut_15 (by decide) (fun c => absurd (by decide) c) (fun _ => ?_)
  refine lv_lconst (v := 0) hx hb dX9_darkBut_18 (by decide) ?_
  refine lv_goto (tgt := 28) hx hb dX9_darkBut_19 (by decide) ?_
  refine lv_lor hx hb dX9_darkBut_28 ?_
  refine pp_tl (y := 0) (by decide) ?_
  refine lv_lstore_n (lv' := [(2, .long 0), (4, .int 3), (0, .ref h0), (1, .int 3)]) hx hb dX9_darkBut_29 rfl hl (by decide) rfl (fun ls hl => ?_)
  refine lv_iinc (v := 4) (lv' := [(4, .int 4), (2, .long 0), (0, .ref h0), (1, .int 3)]) hx hb dX9_darkBut_30 hl (k := 1) rfl (by decide) (by decide) rfl (fun ls hl => ?_)
  refine lv_goto (tgt := 5) hx hb dX9_darkBut_33 (by decide) ?_
  refine lv_iload hx hb dX9_darkBut_5 (lv_at hl 0 rfl) ?_
  refine lv_iconst (v := 4) hx hb dX9_darkBut_7 (by decide) ?_
  refine lv_icmp_ge (tgt := 36) hx hb dX9_darkBut_8 (by decide) (fun _ => ?_) (fun c => absurd (by decide) c)
  refine lv_lload_n hx hb dX9_darkBut_36 rfl (lv_at hl 1 rfl) ?_
  exact W.lret (v := 0) hx hb hr (fun t ht hW => ⟨0, rfl, rfl, ht⟩) (fun _ h => absurd h List.not_mem_nil) dX9_darkBut_37

def w_m_bits : List Cond := .code yX9_bits cX9_bits 5 (some .int) :: (([] : List Cond))
set_option maxHeartbeats 4000000 in
set_option maxRecDepth 100000 in
theorem m_bits (l : Launch) (dC : Nat → ClassId) (dI : Nat → Nat → Nat) (ad : Nat → Nat) : Met l yX9_bits w_m_bits ({ frames := 0, cells := 0, slots := 0, locals := 0 } : Room) (va_Pc [.long 0] (preS dC dI ad [] [])) (vp_Si (fun r => (r = 0))) 0 0 (fun _ => False) := by
  refine Met.ofW (cc := cX9_bits) (maxL := 5) (ret := (some .int)) (by decide) rfl ?_
  intro p e s m args below meth c s₁ B hml hv
  obtain ⟨rfl, hP, hK, hev⟩ := hv
  have hx := B.exec
  have hb := B.bytes
  have hr := B.returns
  have hts := atoms_spec (ws := w_m_bits) B.pre
  have hown : s.vm.findClass RX9 = some m.cls := findClass_of_methodNamed B.named
  have hlocks := B.notSynchronized
  have hP : va_P (dC, dI) vwCl [] s.heap := hP
  have hl := lv_entry ([.long 0]) (n := 5) (Nat.le_of_ble_eq_true rfl)
  rw [lg_entry_eq]
  generalize (lg_sl ([.long 0]) ++ List.replicate (5 - (lg_sl ([.long 0])).length) Slot.unset).toArray = ls at hl ⊢
  have hl : lv_has ls 5 [(0, .long 0)] := hl
  refine lv_iconst (v := 0) hx hb dX9_bits_0 (by decide) ?_
  refine lv_istore_n (lv' := [(2, .int 0), (0, .long 0)]) hx hb dX9_bits_1 rfl hl (by decide) rfl (fun ls hl => ?_)
  refine lv_lload_n hx hb dX9_bits_2 rfl (lv_at hl 1 rfl) ?_
  refine lv_lstore_n (lv' := [(3, .long 0), (2, .int 0), (0, .long 0)]) hx hb dX9_bits_3 rfl hl (by decide) rfl (fun ls hl => ?_)
  refine lv_lload_n hx hb dX9_bits_4 rfl (lv_at hl 0 rfl) ?_
  refine lv_lconst (v := 0) hx hb dX9_bits_5 (by decide) ?_
  refine W.lcmp hx hb dX9_bits_6 ?_
  refine pp_ti (y := 0) (by decide) ?_
  refine lv_if_eq (tgt := 22) hx hb dX9_bits_7 (by decide) (fun _ => ?_) (fun c => absurd (by decide) c)
  refine lv_iload_n hx hb dX9_bits_22 rfl (lv_at hl 1 rfl) ?_
  exact W.iret (v := 0) hx hb hr (fun t ht hW => ⟨0, rfl, rfl, ht⟩) (fun _ h => absurd h List.not_mem_nil) dX9_bits_23

def w_m_goOn : List Cond := .code yX9_goOn cX9_goOn 5 none :: (([.fieldLink RX9 9 "LampShapesModel" "now" "[I", .fieldLink RX9 180 "LampShapesModel" "leastCost" "I"] : List Cond) ++ wsX90)
set_option maxHeartbeats 4000000 in
set_option maxRecDepth 100000 in
theorem m_goOn (l : Launch) (dC : Nat → ClassId) (dI : Nat → Nat → Nat) (ad : Nat → Nat) (h0 : Nat) (m0 : Nat) (v1 : Value) (v2 : Value) (v3 : Value) (v4 : Value) (v5 : Value) (v6 : Value) (v7 : Value) (v8 : Value) (v10 : Value) (v11 : Value) (v12 : Value) (v13 : Value) (v14 : Value) (v15 : Value) (v16 : Value) (v17 : Value) (v18 : Value) (v19 : Value) (v20 : Value) (v21 : Value) (v22 : Value) (v23 : Value) (v24 : Value) (v25 : Value) (v26 : Value) (v27 : Value) (mc0 : ClassId) (nf : Nat → Int32) (sz : Nat) (hnf : ∀ j, j < 38 → nf j = fr_n j) : Met l yX9_goOn w_m_goOn ({ frames := 0, cells := 0, slots := 0, locals := 0 } : Room) (va_Pc [.ref h0, .int 0, .int 0, .int 0] (preM dC dI ad [(mc0, .int)] [(h0, .inr (7, [.ref m0, v1, v2, v3, v4, v5, v6, v7, v8, .int (-1), v10, v11, v12, v13, v14, v15, v16, v17, v18, v19, v20, v21, v22, v23, v24, v25, v26, v27])), (m0, .inl (mc0, 38, .inl nf))] sz)) (va_Qv (fun (_ : Unit) => True) (fun _ t => va_P (dC, dI) vwCl [(h0, .inr (7, [.ref m0, v1, v2, v3, v4, v5, v6, v7, v8, .int 0, v10, v11, v12, v13, v14, v15, v16, v17, v18, v19, v20, v21, v22, v23, v24, v25, v26, v27])), (m0, .inl (mc0, 38, .inl nf))] t.heap ∧ va_K (dC, dI) vwCl [(mc0, .int)] t ∧ va_D (va_A [(h0, .inr (7, [.ref m0, v1, v2, v3, v4, v5, v6, v7, v8, .int (-1), v10, v11, v12, v13, v14, v15, v16, v17, v18, v19, v20, v21, v22, v23, v24, v25, v26, v27])), (m0, .inl (mc0, 38, .inl nf))] sz) [(h0, .inr (7, [.ref m0, v1, v2, v3, v4, v5, v6, v7, v8, .int 0, v10, v11, v12, v13, v14, v15, v16, v17, v18, v19, v20, v21, v22, v23, v24, v25, v26, v27])), (m0, .inl (mc0, 38, .inl nf))]) (va_A [(h0, .inr (7, [.ref m0, v1, v2, v3, v4, v5, v6, v7, v8, .int (-1), v10, v11, v12, v13, v14, v15, v16, v17, v18, v19, v20, v21, v22, v23, v24, v25, v26, v27])), (m0, .inl (mc0, 38, .inl nf))] sz)) 0 0 (va_A [(h0, .inr (7, [.ref m0, v1, v2, v3, v4, v5, v6, v7, v8, .int (-1), v10, v11, v12, v13, v14, v15, v16, v17, v18, v19, v20, v21, v22, v23, v24, v25, v26, v27])), (m0, .inl (mc0, 38, .inl nf))] sz) := by
  refine Met.ofW (cc := cX9_goOn) (maxL := 5) (ret := none) (by decide) rfl ?_
  intro p e s m args below meth c s₁ B hml hv
  obtain ⟨rfl, hsz, hP, hK, hD0, hev⟩ := hv
  have hx := B.exec
  have hb := B.bytes
  have hr := B.returns
  have hts := atoms_spec (ws := w_m_goOn) B.pre
  have hown : s.vm.findClass RX9 = some m.cls := findClass_of_methodNamed B.named
  have hlocks := B.notSynchronized
  have inX9 : ∀ w ∈ wsX90, w ∈ w_m_goOn := fun w h => List.mem_cons_of_mem _ (List.mem_append_right _ h)
  subst hsz
  have hD := hD0.self (sz := s.heap.size)
  generalize hAe : va_A [(h0, .inr (7, [.ref m0, v1, v2, v3, v4, v5, v6, v7, v8, .int (-1), v10, v11, v12, v13, v14, v15, v16, v17, v18, v19, v20, v21, v22, v23, v24, v25, v26, v27])), (m0, .inl (mc0, 38, .inl nf))] s.heap.size = A at hD ⊢
  have hA : ∀ q : Nat, s.heap.size ≤ q → A q := fun q h => by rw [← hAe]; exact Or.inr h
  have hS : va_S A s.heap s.heap [] := va_S.rf
  have hP : va_P (dC, dI) vwCl [(h0, .inr (7, [.ref m0, v1, v2, v3, v4, v5, v6, v7, v8, .int (-1), v10, v11, v12, v13, v14, v15, v16, v17, v18, v19, v20, v21, v22, v23, v24, v25, v26, v27])), (m0, .inl (mc0, 38, .inl nf))] s.heap := hP
  have hl := lv_entry ([.ref h0, .int 0, .int 0, .int 0]) (n := 5) (Nat.le_of_ble_eq_true rfl)
  rw [lg_entry_eq]
  generalize (lg_sl ([.ref h0, .int 0, .int 0, .int 0]) ++ List.replicate (5 - (lg_sl ([.ref h0, .int 0, .int 0, .int 0])).length) Slot.unset).toArray = ls at hl ⊢
  have hl : lv_has ls 5 [(0, .ref h0), (1, .int 0), (2, .int 0), (3, .int 0)] := hl
  refine lv_iload_n hx hb dX9_goOn_0 rfl (lv_at hl 1 rfl) ?_
  refine lv_aload_n hx hb dX9_goOn_1 rfl (lv_at hl 0 rfl) ?_
  refine va_get (D := (dC, dI)) (ci := 7) (v := .ref m0) (C := RX9) (T := TX9) (N := 28) hx hb hts inX9 hown hK hP 0 rfl rfl 0 (by decide) (hts _ (List.mem_of_getElem? (i := 1) rfl)) (fun _ h9 => h9) rfl dX9_goOn_2 ?_
  refine lv_iconst (v := 1) hx hb dX9_goOn_5 (by decide) ?_
  refine va_iald hx hb hK hP 1 0 rfl rfl (vp_in_nI (n := 1) (by decide) (by decide)) dX9_goOn_6 ?_
  refine pp_ti (y := 0) ((hnf 1 (by decide)).trans (by decide)) ?_
  refine lv_icmp_ne (tgt := 60) hx hb dX9_goOn_7 (by decide) (fun c => absurd (by decide) c) (fun _ => ?_)
  refine lv_aload_n hx hb dX9_goOn_10 rfl (lv_at hl 0 rfl) ?_
  refine va_get (D := (dC, dI)) (ci := 7) (v := .int (-1)) (C := RX9) (T := TX9) (N := 28) hx hb hts inX9 hown hK hP 0 rfl rfl 9 (by decide) (hts _ (List.mem_of_getElem? (i := 2) rfl)) (fun _ h9 => h9) rfl dX9_goOn_11 ?_
  refine lv_if_lt (tgt := 25) hx hb dX9_goOn_14 (by decide) (fun _ => ?_) (fun c => absurd (by decide) c)
  refine lv_aload_n hx hb dX9_goOn_25 rfl (lv_at hl 0 rfl) ?_
  refine lv_iload_n hx hb dX9_goOn_26 rfl (lv_at hl 3 rfl) ?_
  refine va_put (D := (dC, dI)) (ci := 7) (v := .int 0) (ty := .int) (C := RX9) (T := TX9) (N := 28) hx hb hts inX9 tyX9 tyX9_ok nmX9 hown hK hP hD hS 0 rfl rfl 9 (by decide) (hts _ (List.mem_of_getElem? (i := 2) rfl)) (fun _ h9 => h9) rfl (by decide +kernel) rfl rfl (Nat.le_of_ble_eq_true rfl) dX9_goOn_27 (fun H locs hP hD hS => ?_)
  have hP : va_P (dC, dI) vwCl [(h0, .inr (7, [.ref m0, v1, v2, v3, v4, v5, v6, v7, v8, .int 0, v10, v11, v12, v13, v14, v15, v16, v17, v18, v19, v20, v21, v22, v23, v24, v25, v26, v27])), (m0, .inl (mc0, 38, .inl nf))] H := hP
  have hD : va_D A [(h0, .inr (7, [.ref m0, v1, v2, v3, v4, v5, v6, v7, v8, .int 0, v10, v11, v12, v13, v14, v15, v16, v17, v18, v19, v20, v21, v22, v23, v24, v25, v26, v27])), (m0, .inl (mc0, 38, .inl nf))] := hD
  refine lv_iconst (v := 0) hx hb dX9_goOn_30 (by decide) ?_
  refine lv_istore (lv' := [(4, .int 0), (0, .ref h0), (1, .int 0), (2, .int 0), (3, .int 0)]) hx hb dX9_goOn_31 hl (by decide) rfl (fun ls hl => ?_)
  refine lv_iload hx hb dX9_goOn_33 (lv_at hl 0 rfl) ?_
  refine lv_iload_n hx hb dX9_goOn_35 rfl (lv_at hl 2 rfl) ?_
  refine lv_icmp_ge (tgt := 59) hx hb dX9_goOn_36 (by decide) (fun _ => ?_) (fun c => absurd (by decide) c)
  have hP9 := hP.sub (ws' := [(h0, .inr (7, [.ref m0, v1, v2, v3, v4, v5, v6, v7, v8, .int 0, v10, v11, v12, v13, v14, v15, v16, v17, v18, v19, v20, v21, v22, v23, v24, v25, v26, v27])), (m0, .inl (mc0, 38, .inl nf))]) [0, 1] rfl
  have hD9 := hD.sub (ws' := [(h0, .inr (7, [.ref m0, v1, v2, v3, v4, v5, v6, v7, v8, .int 0, v10, v11, v12, v13, v14, v15, v16, v17, v18, v19, v20, v21, v22, v23, v24, v25, v26, v27])), (m0, .inl (mc0, 38, .inl nf))]) [0, 1] (by decide) rfl
  have hK9 := hK.sub (tys' := [(mc0, .int)]) [0] rfl
  exact W.vret hx hb hr (fun t ht hW => ⟨⟨(), rfl, trivial, by rw [ht]; exact hP9, va_K.moved hW.alike hK9, hD9⟩, hS.F ht⟩) hS.2.2 dX9_goOn_59

def w_m_copyAll : List Cond := .code yX9_copyAll cX9_copyAll 5 none :: (([] : List Cond))
set_option maxHeartbeats 4000000 in
set_option maxRecDepth 100000 in
theorem m_copyAll (l : Launch) (dC : Nat → ClassId) (dI : Nat → Nat → Nat) (ad : Nat → Nat) (q0 : Nat) (q1 : Nat) (q2 : Nat) (q3 : Nat) (c0 : ClassId) (f0 : Nat → Int32) (c1 : ClassId) (f1 : Nat → Int32) (c2 : ClassId) (f2 : Nat → Int64) (c3 : ClassId) (f3 : Nat → Int64) (sz : Nat) : Met l yX9_copyAll w_m_copyAll ({ frames := 0, cells := 0, slots := 0, locals := 0 } : Room) (va_Pc [.ref q0, .ref q1, .ref q2, .ref q3] (preM dC dI ad [(c0, .int), (c1, .int), (c2, .long), (c3, .long)] [(q0, .inl (c0, 38, .inl f0)), (q1, .inl (c1, 38, .inl f1)), (q2, .inl (c2, 7, .inr (.inl f2))), (q3, .inl (c3, 7, .inr (.inl f3)))] sz)) (va_Qv (fun (_ : Unit) => True) (fun _ _ => True) (va_A [(q0, .inl (c0, 38, .inl f0)), (q1, .inl (c1, 38, .inl f1)), (q2, .inl (c2, 7, .inr (.inl f2))), (q3, .inl (c3, 7, .inr (.inl f3)))] sz)) 0 0 (va_A [(q0, .inl (c0, 38, .inl f0)), (q1, .inl (c1, 38, .inl f1)), (q2, .inl (c2, 7, .inr (.inl f2))), (q3, .inl (c3, 7, .inr (.inl f3)))] sz) := by
  refine Met.ofW (cc := cX9_copyAll) (maxL := 5) (ret := none) (by decide) rfl ?_
  intro p e s m args below meth c s₁ B hml hv
  obtain ⟨rfl, hsz, hP, hK, hD0, hev⟩ := hv
  have hx := B.exec
  have hb := B.bytes
  have hr := B.returns
  have hts := atoms_spec (ws := w_m_copyAll) B.pre
  have hown : s.vm.findClass RX9 = some m.cls := findClass_of_methodNamed B.named
  have hlocks := B.notSynchronized
  subst hsz
  have hD := hD0.self (sz := s.heap.size)
  generalize hAe : va_A [(q0, .inl (c0, 38, .inl f0)), (q1, .inl (c1, 38, .inl f1)), (q2, .inl (c2, 7, .inr (.inl f2))), (q3, .inl (c3, 7, .inr (.inl f3)))] s.heap.size = A at hD ⊢
  have hA : ∀ q : Nat, s.heap.size ≤ q → A q := fun q h => by rw [← hAe]; exact Or.inr h
  have hS : va_S A s.heap s.heap [] := va_S.rf
  have hP : va_P (dC, dI) vwCl [(q0, .inl (c0, 38, .inl f0)), (q1, .inl (c1, 38, .inl f1)), (q2, .inl (c2, 7, .inr (.inl f2))), (q3, .inl (c3, 7, .inr (.inl f3)))] s.heap := hP
  have hl := lv_entry ([.ref q0, .ref q1, .ref q2, .ref q3]) (n := 5) (Nat.le_of_ble_eq_true rfl)
  rw [lg_entry_eq]
  generalize (lg_sl ([.ref q0, .ref q1, .ref q2, .ref q3]) ++ List.replicate (5 - (lg_sl ([.ref q0, .ref q1, .ref q2, .ref q3])).length) Slot.unset).toArray = ls at hl ⊢
  have hl : lv_has ls 5 [(0, .ref q0), (1, .ref q1), (2, .ref q2), (3, .ref q3)] := hl
  refine lv_iconst (v := 0) hx hb dX9_copyAll_0 (by decide) ?_
  refine lv_istore (lv' := [(4, .int 0), (0, .ref q0), (1, .ref q1), (2, .ref q2), (3, .ref q3)]) hx hb dX9_copyAll_1 hl (by decide) rfl (fun ls hl => ?_)
  refine lv_iload hx hb dX9_copyAll_3 (lv_at hl 0 rfl) ?_
  refine lv_bipush (v := 38) hx hb dX9_copyAll_5 (by decide) ?_
  refine lv_icmp_ge (tgt := 24) hx hb dX9_copyAll_7 (by decide) (fun c => absurd c (by decide)) (fun _ => ?_)
  refine lv_aload_n hx hb dX9_copyAll_10 rfl (lv_at hl 2 rfl) ?_
  refine lv_iload hx hb dX9_copyAll_11 (lv_at hl 0 rfl) ?_
  refine lv_aload_n hx hb dX9_copyAll_13 rfl (lv_at hl 1 rfl) ?_
  refine lv_iload hx hb dX9_copyAll_14 (lv_at hl 0 rfl) ?_
  refine va_iald hx hb hK hP 0 0 rfl rfl (vp_in_nI (n := 0) (by decide) (by decide)) dX9_copyAll_16 ?_
  refine pp_ti (y := f0 0) rfl ?_
  refine va_iast hx hb hK hP hD hS 1 1 rfl rfl (vp_in_nI (n := 0) (by decide) (by decide)) dX9_copyAll_17 (fun H locs hP hD hS => ?_)
  have hP : va_P (dC, dI) vwCl [(q0, .inl (c0, 38, .inl f0)), (q1, .inl (c1, 38, .inl (upd f1 0 (f0 0)))), (q2, .inl (c2, 7, .inr (.inl f2))), (q3, .inl (c3, 7, .inr (.inl f3)))] H := hP
  have hD : va_D A [(q0, .inl (c0, 38, .inl f0)), (q1, .inl (c1, 38, .inl (upd f1 0 (f0 0)))), (q2, .inl (c2, 7, .inr (.inl f2))), (q3, .inl (c3, 7, .inr (.inl f3)))] := hD
  generalize upd f1 0 (f0 0) = f_1 at hP hD
  refine lv_iinc (v := 1) (lv' := [(4, .int 1), (0, .ref q0), (1, .ref q1), (2, .ref q2), (3, .ref q3)]) hx hb dX9_copyAll_18 hl (k := 0) rfl (by decide) (by decide) rfl (fun ls hl => ?_)
  refine lv_goto (tgt := 3) hx hb dX9_copyAll_21 (by decide) ?_
  refine lv_iload hx hb dX9_copyAll_3 (lv_at hl 0 rfl) ?_
  refine lv_bipush (v := 38) hx hb dX9_copyAll_5 (by decide) ?_
  refine lv_icmp_ge (tgt := 24) hx hb dX9_copyAll_7 (by decide) (fun c => absurd c (by decide)) (fun _ => ?_)
  refine lv_aload_n hx hb dX9_copyAll_10 rfl (lv_at hl 2 rfl) ?_
  refine lv_iload hx hb dX9_copyAll_11 (lv_at hl 0 rfl) ?_
  refine lv_aload_n hx hb dX9_copyAll_13 rfl (lv_at hl 1 rfl) ?_
  refine lv_iload hx hb dX9_copyAll_14 (lv_at hl 0 rfl) ?_
  refine va_iald hx hb hK hP 0 0 rfl rfl (vp_in_nI (n := 1) (by decide) (by decide)) dX9_copyAll_16 ?_
  refine pp_ti (y := f0 1) rfl ?_
  refine va_iast hx hb hK hP hD hS 1 1 rfl rfl (vp_in_nI (n := 1) (by decide) (by decide)) dX9_copyAll_17 (fun H locs hP hD hS => ?_)
  have hP : va_P (dC, dI) vwCl [(q0, .inl (c0, 38, .inl f0)), (q1, .inl (c1, 38, .inl (upd f_1 1 (f0 1)))), (q2, .inl (c2, 7, .inr (.inl f2))), (q3, .inl (c3, 7, .inr (.inl f3)))] H := hP
  have hD : va_D A [(q0, .inl (c0, 38, .inl f0)), (q1, .inl (c1, 38, .inl (upd f_1 1 (f0 1)))), (q2, .inl (c2, 7, .inr (.inl f2))), (q3, .inl (c3, 7, .inr (.inl f3)))] := hD
  generalize upd f_1 1 (f0 1) = f_2 at hP hD
  refine lv_iinc (v := 2) (lv' := [(4, .int 2), (0, .ref q0), (1, .ref q1), (2, .ref q2), (3, .ref q3)]) hx hb dX9_copyAll_18 hl (k := 0) rfl (by decide) (by decide) rfl (fun ls hl => ?_)
  refine lv_goto (tgt := 3) hx hb dX9_copyAll_21 (by decide) ?_
  refine lv_iload hx hb dX9_copyAll_3 (lv_at hl 0 rfl) ?_
  refine lv_bipush (v := 38) hx hb dX9_copyAll_5 (by decide) ?_
  refine lv_icmp_ge (tgt := 24) hx hb dX9_copyAll_7 (by decide) (fun c => absurd c (by decide)) (fun _ => ?_)
  refine lv_aload_n hx hb dX9_copyAll_10 rfl (lv_at hl 2 rfl) ?_
  refine lv_iload hx hb dX9_copyAll_11 (lv_at hl 0 rfl) ?_
  refine lv_aload_n hx hb dX9_copyAll_13 rfl (lv_at hl 1 rfl) ?_
  refine lv_iload hx hb dX9_copyAll_14 (lv_at hl 0 rfl) ?_
  refine va_iald hx hb hK hP 0 0 rfl rfl (vp_in_nI (n := 2) (by decide) (by decide)) dX9_copyAll_16 ?_
  refine pp_ti (y := f0 2) rfl ?_
  refine va_iast hx hb hK hP hD hS 1 1 rfl rfl (vp_in_nI (n := 2) (by decide) (by decide)) dX9_copyAll_17 (fun H locs hP hD hS => ?_)
  have hP : va_P (dC, dI) vwCl [(q0, .inl (c0, 38, .inl f0)), (q1, .inl (c1, 38, .inl (upd f_2 2 (f0 2)))), (q2, .inl (c2, 7, .inr (.inl f2))), (q3, .inl (c3, 7, .inr (.inl f3)))] H := hP
  have hD : va_D A [(q0, .inl (c0, 38, .inl f0)), (q1, .inl (c1, 38, .inl (upd f_2 2 (f0 2)))), (q2, .inl (c2, 7, .inr (.inl f2))), (q3, .inl (c3, 7, .inr (.inl f3)))] := hD
  generalize upd f_2 2 (f0 2) = f_3 at hP hD
  refine lv_iinc (v := 3) (lv' := [(4, .int 3), (0, .ref q0), (1, .ref q1), (2, .ref q2), (3, .ref q3)]) hx hb dX9_copyAll_18 hl (k := 0) rfl (by decide) (by decide) rfl (fun ls hl => ?_)
  refine lv_goto (tgt := 3) hx hb dX9_copyAll_21 (by decide) ?_
  refine lv_iload hx hb dX9_copyAll_3 (lv_at hl 0 rfl) ?_
  refine lv_bipush (v := 38) hx hb dX9_copyAll_5 (by decide) ?_
  refine lv_icmp_ge (tgt := 24) hx hb dX9_copyAll_7 (by decide) (fun c => absurd c (by decide)) (fun _ => ?_)
  refine lv_aload_n hx hb dX9_copyAll_10 rfl (lv_at hl 2 rfl) ?_
  refine lv_iload hx hb dX9_copyAll_11 (lv_at hl 0 rfl) ?_
  refine lv_aload_n hx hb dX9_copyAll_13 rfl (lv_at hl 1 rfl) ?_
  refine lv_iload hx hb dX9_copyAll_14 (lv_at hl 0 rfl) ?_
  refine va_iald hx hb hK hP 0 0 rfl rfl (vp_in_nI (n := 3) (by decide) (by decide)) dX9_copyAll_16 ?_
  refine pp_ti (y := f0 3) rfl ?_
  refine va_iast hx hb hK hP hD hS 1 1 rfl rfl (vp_in_nI (n := 3) (by decide) (by decide)) dX9_copyAll_17 (fun H locs hP hD hS => ?_)
  have hP : va_P (dC, dI) vwCl [(q0, .inl (c0, 38, .inl f0)), (q1, .inl (c1, 38, .inl (upd f_3 3 (f0 3)))), (q2, .inl (c2, 7, .inr (.inl f2))), (q3, .inl (c3, 7, .inr (.inl f3)))] H := hP
  have hD : va_D A [(q0, .inl (c0, 38, .inl f0)), (q1, .inl (c1, 38, .inl (upd f_3 3 (f0 3)))), (q2, .inl (c2, 7, .inr (.inl f2))), (q3, .inl (c3, 7, .inr (.inl f3)))] := hD
  generalize upd f_3 3 (f0 3) = f_4 at hP hD
  refine lv_iinc (v := 4) (lv' := [(4, .int 4), (0, .ref q0), (1, .ref q1), (2, .ref q2), (3, .ref q3)]) hx hb dX9_copyAll_18 hl (k := 0) rfl (by decide) (by decide) rfl (fun ls hl => ?_)
  refine lv_goto (tgt := 3) hx hb dX9_copyAll_21 (by decide) ?_
  refine lv_iload hx hb dX9_copyAll_3 (lv_at hl 0 rfl) ?_
  refine lv_bipush (v := 38) hx hb dX9_copyAll_5 (by decide) ?_
  refine lv_icmp_ge (tgt := 24) hx hb dX9_copyAll_7 (by decide) (fun c => absurd c (by decide)) (fun _ => ?_)
  refine lv_aload_n hx hb dX9_copyAll_10 rfl (lv_at hl 2 rfl) ?_
  refine lv_iload hx hb dX9_copyAll_11 (lv_at hl 0 rfl) ?_
  refine lv_aload_n hx hb dX9_copyAll_13 rfl (lv_at hl 1 rfl) ?_
  refine lv_iload hx hb dX9_copyAll_14 (lv_at hl 0 rfl) ?_
  refine va_iald hx hb hK hP 0 0 rfl rfl (vp_in_nI (n := 4) (by decide) (by decide)) dX9_copyAll_16 ?_
  refine pp_ti (y := f0 4) rfl ?_
  refine va_iast hx hb hK hP hD hS 1 1 rfl rfl (vp_in_nI (n := 4) (by decide) (by decide)) dX9_copyAll_17 (fun H locs hP hD hS => ?_)
  have hP : va_P (dC, dI) vwCl [(q0, .inl (c0, 38, .inl f0)), (q1, .inl (c1, 38, .inl (upd f_4 4 (f0 4)))), (q2, .inl (c2, 7, .inr (.inl f2))), (q3, .inl (c3, 7, .inr (.inl f3)))] H := hP
  have hD : va_D A [(q0, .inl (c0, 38, .inl f0)), (q1, .inl (c1, 38, .inl (upd f_4 4 (f0 4)))), (q2, .inl (c2, 7, .inr (.inl f2))), (q3, .inl (c3, 7, .inr (.inl f3)))] := hD
  generalize upd f_4 4 (f0 4) = f_5 at hP hD
  refine lv_iinc (v := 5) (lv' := [(4, .int 5), (0, .ref q0), (1, .ref q1), (2, .ref q2), (3, .ref q3)]) hx hb dX9_copyAll_18 hl (k := 0) rfl (by decide) (by decide) rfl (fun ls hl => ?_)
  refine lv_goto (tgt := 3) hx hb dX9_copyAll_21 (by decide) ?_
  refine lv_iload hx hb dX9_copyAll_3 (lv_at hl 0 rfl) ?_
  refine lv_bipush (v := 38) hx hb dX9_copyAll_5 (by decide) ?_
  refine lv_icmp_ge (tgt := 24) hx hb dX9_copyAll_7 (by decide) (fun c => absurd c (by decide)) (fun _ => ?_)
  refine lv_aload_n hx hb dX9_copyAll_10 rfl (lv_at hl 2 rfl) ?_
  refine lv_iload hx hb dX9_copyAll_11 (lv_at hl 0 rfl) ?_
  refine lv_aload_n hx hb dX9_copyAll_13 rfl (lv_at hl 1 rfl) ?_
  refine lv_iload hx hb dX9_copyAll_14 (lv_at hl 0 rfl) ?_
  refine va_iald hx hb hK hP 0 0 rfl rfl (vp_in_nI (n := 5) (by decide) (by decide)) dX9_copyAll_16 ?_
  refine pp_ti (y := f0 5) rfl ?_
  refine va_iast hx hb hK hP hD hS 1 1 rfl rfl (vp_in_nI (n := 5) (by decide) (by decide)) dX9_copyAll_17 (fun H locs hP hD hS => ?_)
  have hP : va_P (dC, dI) vwCl [(q0, .inl (c0, 38, .inl f0)), (q1, .inl (c1, 38, .inl (upd f_5 5 (f0 5)))), (q2, .inl (c2, 7, .inr (.inl f2))), (q3, .inl (c3, 7, .inr (.inl f3)))] H := hP
  have hD : va_D A [(q0, .inl (c0, 38, .inl f0)), (q1, .inl (c1, 38, .inl (upd f_5 5 (f0 5)))), (q2, .inl (c2, 7, .inr (.inl f2))), (q3, .inl (c3, 7, .inr (.inl f3)))] := hD
  generalize upd f_5 5 (f0 5) = f_6 at hP hD
  refine lv_iinc (v := 6) (lv' := [(4, .int 6), (0, .ref q0), (1, .ref q1), (2, .ref q2), (3, .ref q3)]) hx hb dX9_copyAll_18 hl (k := 0) rfl (by decide) (by decide) rfl (fun ls hl => ?_)
  refine lv_goto (tgt := 3) hx hb dX9_copyAll_21 (by decide) ?_
  refine lv_iload hx hb dX9_copyAll_3 (lv_at hl 0 rfl) ?_
  refine lv_bipush (v := 38) hx hb dX9_copyAll_5 (by decide) ?_
  refine lv_icmp_ge (tgt := 24) hx hb dX9_copyAll_7 (by decide) (fun c => absurd c (by decide)) (fun _ => ?_)
  refine lv_aload_n hx hb dX9_copyAll_10 rfl (lv_at hl 2 rfl) ?_
  refine lv_iload hx hb dX9_copyAll_11 (lv_at hl 0 rfl) ?_
  refine lv_aload_n hx hb dX9_copyAll_13 rfl (lv_at hl 1 rfl) ?_
  refine lv_iload hx hb dX9_copyAll_14 (lv_at hl 0 rfl) ?_
  refine va_iald hx hb hK hP 0 0 rfl rfl (vp_in_nI (n := 6) (by decide) (by decide)) dX9_copyAll_16 ?_
  refine pp_ti (y := f0 6) rfl ?_
  refine va_iast hx hb hK hP hD hS 1 1 rfl rfl (vp_in_nI (n := 6) (by decide) (by decide)) dX9_copyAll_17 (fun H locs hP hD hS => ?_)
  have hP : va_P (dC, dI) vwCl [(q0, .inl (c0, 38, .inl f0)), (q1, .inl (c1, 38, .inl (upd f_6 6 (f0 6)))), (q2, .inl (c2, 7, .inr (.inl f2))), (q3, .inl (c3, 7, .inr (.inl f3)))] H := hP
  have hD : va_D A [(q0, .inl (c0, 38, .inl f0)), (q1, .inl (c1, 38, .inl (upd f_6 6 (f0 6)))), (q2, .inl (c2, 7, .inr (.inl f2))), (q3, .inl (c3, 7, .inr (.inl f3)))] := hD
  generalize upd f_6 6 (f0 6) = f_7 at hP hD
  refine lv_iinc (v := 7) (lv' := [(4, .int 7), (0, .ref q0), (1, .ref q1), (2, .ref q2), (3, .ref q3)]) hx hb dX9_copyAll_18 hl (k := 0) rfl (by decide) (by decide) rfl (fun ls hl => ?_)
  refine lv_goto (tgt := 3) hx hb dX9_copyAll_21 (by decide) ?_
  refine lv_iload hx hb dX9_copyAll_3 (lv_at hl 0 rfl) ?_
  refine lv_bipush (v := 38) hx hb dX9_copyAll_5 (by decide) ?_
  refine lv_icmp_ge (tgt := 24) hx hb dX9_copyAll_7 (by decide) (fun c => absurd c (by decide)) (fun _ => ?_)
  refine lv_aload_n hx hb dX9_copyAll_10 rfl (lv_at hl 2 rfl) ?_
  refine lv_iload hx hb dX9_copyAll_11 (lv_at hl 0 rfl) ?_
  refine lv_aload_n hx hb dX9_copyAll_13 rfl (lv_at hl 1 rfl) ?_
  refine lv_iload hx hb dX9_copyAll_14 (lv_at hl 0 rfl) ?_
  refine va_iald hx hb hK hP 0 0 rfl rfl (vp_in_nI (n := 7) (by decide) (by decide)) dX9_copyAll_16 ?_
  refine pp_ti (y := f0 7) rfl ?_
  refine va_iast hx hb hK hP hD hS 1 1 rfl rfl (vp_in_nI (n := 7) (by decide) (by decide)) dX9_copyAll_17 (fun H locs hP hD hS => ?_)
  have hP : va_P (dC, dI) vwCl [(q0, .inl (c0, 38, .inl f0)), (q1, .inl (c1, 38, .inl (upd f_7 7 (f0 7)))), (q2, .inl (c2, 7, .inr (.inl f2))), (q3, .inl (c3, 7, .inr (.inl f3)))] H := hP
  have hD : va_D A [(q0, .inl (c0, 38, .inl f0)), (q1, .inl (c1, 38, .inl (upd f_7 7 (f0 7)))), (q2, .inl (c2, 7, .inr (.inl f2))), (q3, .inl (c3, 7, .inr (.inl f3)))] := hD
  generalize upd f_7 7 (f0 7) = f_8 at hP hD
  refine lv_iinc (v := 8) (lv' := [(4, .int 8), (0, .ref q0), (1, .ref q1), (2, .ref q2), (3, .ref q3)]) hx hb dX9_copyAll_18 hl (k := 0) rfl (by decide) (by decide) rfl (fun ls hl => ?_)
  refine lv_goto (tgt := 3) hx hb dX9_copyAll_21 (by decide) ?_
  refine lv_iload hx hb dX9_copyAll_3 (lv_at hl 0 rfl) ?_
  refine lv_bipush (v := 38) hx hb dX9_copyAll_5 (by decide) ?_
  refine lv_icmp_ge (tgt := 24) hx hb dX9_copyAll_7 (by decide) (fun c => absurd c (by decide)) (fun _ => ?_)
  refine lv_aload_n hx hb dX9_copyAll_10 rfl (lv_at hl 2 rfl) ?_
  refine lv_iload hx hb dX9_copyAll_11 (lv_at hl 0 rfl) ?_
  refine lv_aload_n hx hb dX9_copyAll_13 rfl (lv_at hl 1 rfl) ?_
  refine lv_iload hx hb dX9_copyAll_14 (lv_at hl 0 rfl) ?_
  refine va_iald hx hb hK hP 0 0 rfl rfl (vp_in_nI (n := 8) (by decide) (by decide)) dX9_copyAll_16 ?_
  refine pp_ti (y := f0 8) rfl ?_
  refine va_iast hx hb hK hP hD hS 1 1 rfl rfl (vp_in_nI (n := 8) (by decide) (by decide)) dX9_copyAll_17 (fun H locs hP hD hS => ?_)
  have hP : va_P (dC, dI) vwCl [(q0, .inl (c0, 38, .inl f0)), (q1, .inl (c1, 38, .inl (upd f_8 8 (f0 8)))), (q2, .inl (c2, 7, .inr (.inl f2))), (q3, .inl (c3, 7, .inr (.inl f3)))] H := hP
  have hD : va_D A [(q0, .inl (c0, 38, .inl f0)), (q1, .inl (c1, 38, .inl (upd f_8 8 (f0 8)))), (q2, .inl (c2, 7, .inr (.inl f2))), (q3, .inl (c3, 7, .inr (.inl f3)))] := hD
  generalize upd f_8 8 (f0 8) = f_9 at hP hD
  refine lv_iinc (v := 9) (lv' := [(4, .int 9), (0, .ref q0), (1, .ref q1), (2, .ref q2), (3, .ref q3)]) hx hb dX9_copyAll_18 hl (k := 0) rfl (by decide) (by decide) rfl (fun ls hl => ?_)
  refine lv_goto (tgt := 3) hx hb dX9_copyAll_21 (by decide) ?_
  refine lv_iload hx hb dX9_copyAll_3 (lv_at hl 0 rfl) ?_
  refine lv_bipush (v := 38) hx hb dX9_copyAll_5 (by decide) ?_
  refine lv_icmp_ge (tgt := 24) hx hb dX9_copyAll_7 (by decide) (fun c => absurd c (by decide)) (fun _ => ?_)
  refine lv_aload_n hx hb dX9_copyAll_10 rfl (lv_at hl 2 rfl) ?_
  refine lv_iload hx hb dX9_copyAll_11 (lv_at hl 0 rfl) ?_
  refine lv_aload_n hx hb dX9_copyAll_13 rfl (lv_at hl 1 rfl) ?_
  refine lv_iload hx hb dX9_copyAll_14 (lv_at hl 0 rfl) ?_
  refine va_iald hx hb hK hP 0 0 rfl rfl (vp_in_nI (n := 9) (by decide) (by decide)) dX9_copyAll_16 ?_
  refine pp_ti (y := f0 9) rfl ?_
  refine va_iast hx hb hK hP hD hS 1 1 rfl rfl (vp_in_nI (n := 9) (by decide) (by decide)) dX9_copyAll_17 (fun H locs hP hD hS => ?_)
  have hP : va_P (dC, dI) vwCl [(q0, .inl (c0, 38, .inl f0)), (q1, .inl (c1, 38, .inl (upd f_9 9 (f0 9)))), (q2, .inl (c2, 7, .inr (.inl f2))), (q3, .inl (c3, 7, .inr (.inl f3)))] H := hP
  have hD : va_D A [(q0, .inl (c0, 38, .inl f0)), (q1, .inl (c1, 38, .inl (upd f_9 9 (f0 9)))), (q2, .inl (c2, 7, .inr (.inl f2))), (q3, .inl (c3, 7, .inr (.inl f3)))] := hD
  generalize upd f_9 9 (f0 9) = f_10 at hP hD
  refine lv_iinc (v := 10) (lv' := [(4, .int 10), (0, .ref q0), (1, .ref q1), (2, .ref q2), (3, .ref q3)]) hx hb dX9_copyAll_18 hl (k := 0) rfl (by decide) (by decide) rfl (fun ls hl => ?_)
  refine lv_goto (tgt := 3) hx hb dX9_copyAll_21 (by decide) ?_
  refine lv_iload hx hb dX9_copyAll_3 (lv_at hl 0 rfl) ?_
  refine lv_bipush (v := 38) hx hb dX9_copyAll_5 (by decide) ?_
  refine lv_icmp_ge (tgt := 24) hx hb dX9_copyAll_7 (by decide) (fun c => absurd c (by decide)) (fun _ => ?_)
  refine lv_aload_n hx hb dX9_copyAll_10 rfl (lv_at hl 2 rfl) ?_
  refine lv_iload hx hb dX9_copyAll_11 (lv_at hl 0 rfl) ?_
  refine lv_aload_n hx hb dX9_copyAll_13 rfl (lv_at hl 1 rfl) ?_
  refine lv_iload hx hb dX9_copyAll_14 (lv_at hl 0 rfl) ?_
  refine va_iald hx hb hK hP 0 0 rfl rfl (vp_in_nI (n := 10) (by decide) (by decide)) dX9_copyAll_16 ?_
  refine pp_ti (y := f0 10) rfl ?_
  refine va_iast hx hb hK hP hD hS 1 1 rfl rfl (vp_in_nI (n := 10) (by decide) (by decide)) dX9_copyAll_17 (fun H locs hP hD hS => ?_)
  have hP : va_P (dC, dI) vwCl [(q0, .inl (c0, 38, .inl f0)), (q1, .inl (c1, 38, .inl (upd f_10 10 (f0 10)))), (q2, .inl (c2, 7, .inr (.inl f2))), (q3, .inl (c3, 7, .inr (.inl f3)))] H := hP
  have hD : va_D A [(q0, .inl (c0, 38, .inl f0)), (q1, .inl (c1, 38, .inl (upd f_10 10 (f0 10)))), (q2, .inl (c2, 7, .inr (.inl f2))), (q3, .inl (c3, 7, .inr (.inl f3)))] := hD
  generalize upd f_10 10 (f0 10) = f_11 at hP hD
  refine lv_iinc (v := 11) (lv' := [(4, .int 11), (0, .ref q0), (1, .ref q1), (2, .ref q2), (3, .ref q3)]) hx hb dX9_copyAll_18 hl (k := 0) rfl (by decide) (by decide) rfl (fun ls hl => ?_)
  refine lv_goto (tgt := 3) hx hb dX9_copyAll_21 (by decide) ?_
  refine lv_iload hx hb dX9_copyAll_3 (lv_at hl 0 rfl) ?_
  refine lv_bipush (v := 38) hx hb dX9_copyAll_5 (by decide) ?_
  refine lv_icmp_ge (tgt := 24) hx hb dX9_copyAll_7 (by decide) (fun c => absurd c (by decide)) (fun _ => ?_)
  refine lv_aload_n hx hb dX9_copyAll_10 rfl (lv_at hl 2 rfl) ?_
  refine lv_iload hx hb dX9_copyAll_11 (lv_at hl 0 rfl) ?_
  refine lv_aload_n hx hb dX9_copyAll_13 rfl (lv_at hl 1 rfl) ?_
  refine lv_iload hx hb dX9_copyAll_14 (lv_at hl 0 rfl) ?_
  refine va_iald hx hb hK hP 0 0 rfl rfl (vp_in_nI (n := 11) (by decide) (by decide)) dX9_copyAll_16 ?_
  refine pp_ti (y := f0 11) rfl ?_
  refine va_iast hx hb hK hP hD hS 1 1 rfl rfl (vp_in_nI (n := 11) (by decide) (by decide)) dX9_copyAll_17 (fun H locs hP hD hS => ?_)
  have hP : va_P (dC, dI) vwCl [(q0, .inl (c0, 38, .inl f0)), (q1, .inl (c1, 38, .inl (upd f_11 11 (f0 11)))), (q2, .inl (c2, 7, .inr (.inl f2))), (q3, .inl (c3, 7, .inr (.inl f3)))] H := hP
  have hD : va_D A [(q0, .inl (c0, 38, .inl f0)), (q1, .inl (c1, 38, .inl (upd f_11 11 (f0 11)))), (q2, .inl (c2, 7, .inr (.inl f2))), (q3, .inl (c3, 7, .inr (.inl f3)))] := hD
  generalize upd f_11 11 (f0 11) = f_12 at hP hD
  refine lv_iinc (v := 12) (lv' := [(4, .int 12), (0, .ref q0), (1, .ref q1), (2, .ref q2), (3, .ref q3)]) hx hb dX9_copyAll_18 hl (k := 0) rfl (by decide) (by decide) rfl (fun ls hl => ?_)
  refine lv_goto (tgt := 3) hx hb dX9_copyAll_21 (by decide) ?_
  refine lv_iload hx hb dX9_copyAll_3 (lv_at hl 0 rfl) ?_
  refine lv_bipush (v := 38) hx hb dX9_copyAll_5 (by decide) ?_
  refine lv_icmp_ge (tgt := 24) hx hb dX9_copyAll_7 (by decide) (fun c => absurd c (by decide)) (fun _ => ?_)
  refine lv_aload_n hx hb dX9_copyAll_10 rfl (lv_at hl 2 rfl) ?_
  refine lv_iload hx hb dX9_copyAll_11 (lv_at hl 0 rfl) ?_
  refine lv_aload_n hx hb dX9_copyAll_13 rfl (lv_at hl 1 rfl) ?_
  refine lv_iload hx hb dX9_copyAll_14 (lv_at hl 0 rfl) ?_
  refine va_iald hx hb hK hP 0 0 rfl rfl (vp_in_nI (n := 12) (by decide) (by decide)) dX9_copyAll_16 ?_
  refine pp_ti (y := f0 12) rfl ?_
  refine va_iast hx hb hK hP hD hS 1 1 rfl rfl (vp_in_nI (n := 12) (by decide) (by decide)) dX9_copyAll_17 (fun H locs hP hD hS => ?_)
  have hP : va_P (dC, dI) vwCl [(q0, .inl (c0, 38, .inl f0)), (q1, .inl (c1, 38, .inl (upd f_12 12 (f0 12)))), (q2, .inl (c2, 7, .inr (.inl f2))), (q3, .inl (c3, 7, .inr (.inl f3)))] H := hP
  have hD : va_D A [(q0, .inl (c0, 38, .inl f0)), (q1, .inl (c1, 38, .inl (upd f_12 12 (f0 12)))), (q2, .inl (c2, 7, .inr (.inl f2))), (q3, .inl (c3, 7, .inr (.inl f3)))] := hD
  generalize upd f_12 12 (f0 12) = f_13 at hP hD
  refine lv_iinc (v := 13) (lv' := [(4, .int 13), (0, .ref q0), (1, .ref q1), (2, .ref q2), (3, .ref q3)]) hx hb dX9_copyAll_18 hl (k := 0) rfl (by decide) (by decide) rfl (fun ls hl => ?_)
  refine lv_goto (tgt := 3) hx hb dX9_copyAll_21 (by decide) ?_
  refine lv_iload hx hb dX9_copyAll_3 (lv_at hl 0 rfl) ?_
  refine lv_bipush (v := 38) hx hb dX9_copyAll_5 (by decide) ?_
  refine lv_icmp_ge (tgt := 24) hx hb dX9_copyAll_7 (by decide) (fun c => absurd c (by decide)) (fun _ => ?_)
  refine lv_aload_n hx hb dX9_copyAll_10 rfl (lv_at hl 2 rfl) ?_
  refine lv_iload hx hb dX9_copyAll_11 (lv_at hl 0 rfl) ?_
  refine lv_aload_n hx hb dX9_copyAll_13 rfl (lv_at hl 1 rfl) ?_
  refine lv_iload hx hb dX9_copyAll_14 (lv_at hl 0 rfl) ?_
  refine va_iald hx hb hK hP 0 0 rfl rfl (vp_in_nI (n := 13) (by decide) (by decide)) dX9_copyAll_16 ?_
  refine pp_ti (y := f0 13) rfl ?_
  refine va_iast hx hb hK hP hD hS 1 1 rfl rfl (vp_in_nI (n := 13) (by decide) (by decide)) dX9_copyAll_17 (fun H locs hP hD hS => ?_)
  have hP : va_P (dC, dI) vwCl [(q0, .inl (c0, 38, .inl f0)), (q1, .inl (c1, 38, .inl (upd f_13 13 (f0 13)))), (q2, .inl (c2, 7, .inr (.inl f2))), (q3, .inl (c3, 7, .inr (.inl f3)))] H := hP
  have hD : va_D A [(q0, .inl (c0, 38, .inl f0)), (q1, .inl (c1, 38, .inl (upd f_13 13 (f0 13)))), (q2, .inl (c2, 7, .inr (.inl f2))), (q3, .inl (c3, 7, .inr (.inl f3)))] := hD
  generalize upd f_13 13 (f0 13) = f_14 at hP hD
  refine lv_iinc (v := 14) (lv' := [(4, .int 14), (0, .ref q0), (1, .ref q1), (2, .ref q2), (3, .ref q3)]) hx hb dX9_copyAll_18 hl (k := 0) rfl (by decide) (by decide) rfl (fun ls hl => ?_)
  refine lv_goto (tgt := 3) hx hb dX9_copyAll_21 (by decide) ?_
  refine lv_iload hx hb dX9_copyAll_3 (lv_at hl 0 rfl) ?_
  refine lv_bipush (v := 38) hx hb dX9_copyAll_5 (by decide) ?_
  refine lv_icmp_ge (tgt := 24) hx hb dX9_copyAll_7 (by decide) (fun c => absurd c (by decide)) (fun _ => ?_)
  refine lv_aload_n hx hb dX9_copyAll_10 rfl (lv_at hl 2 rfl) ?_
  refine lv_iload hx hb dX9_copyAll_11 (lv_at hl 0 rfl) ?_
  refine lv_aload_n hx hb dX9_copyAll_13 rfl (lv_at hl 1 rfl) ?_
  refine lv_iload hx hb dX9_copyAll_14 (lv_at hl 0 rfl) ?_
  refine va_iald hx hb hK hP 0 0 rfl rfl (vp_in_nI (n := 14) (by decide) (by decide)) dX9_copyAll_16 ?_
  refine pp_ti (y := f0 14) rfl ?_
  refine va_iast hx hb hK hP hD hS 1 1 rfl rfl (vp_in_nI (n := 14) (by decide) (by decide)) dX9_copyAll_17 (fun H locs hP hD hS => ?_)
  have hP : va_P (dC, dI) vwCl [(q0, .inl (c0, 38, .inl f0)), (q1, .inl (c1, 38, .inl (upd f_14 14 (f0 14)))), (q2, .inl (c2, 7, .inr (.inl f2))), (q3, .inl (c3, 7, .inr (.inl f3)))] H := hP
  have hD : va_D A [(q0, .inl (c0, 38, .inl f0)), (q1, .inl (c1, 38, .inl (upd f_14 14 (f0 14)))), (q2, .inl (c2, 7, .inr (.inl f2))), (q3, .inl (c3, 7, .inr (.inl f3)))] := hD
  generalize upd f_14 14 (f0 14) = f_15 at hP hD
  refine lv_iinc (v := 15) (lv' := [(4, .int 15), (0, .ref q0), (1, .ref q1), (2, .ref q2), (3, .ref q3)]) hx hb dX9_copyAll_18 hl (k := 0) rfl (by decide) (by decide) rfl (fun ls hl => ?_)
  refine lv_goto (tgt := 3) hx hb dX9_copyAll_21 (by decide) ?_
  refine lv_iload hx hb dX9_copyAll_3 (lv_at hl 0 rfl) ?_
  refine lv_bipush (v := 38) hx hb dX9_copyAll_5 (by decide) ?_
  refine lv_icmp_ge (tgt := 24) hx hb dX9_copyAll_7 (by decide) (fun c => absurd c (by decide)) (fun _ => ?_)
  refine lv_aload_n hx hb dX9_copyAll_10 rfl (lv_at hl 2 rfl) ?_
  refine lv_iload hx hb dX9_copyAll_11 (lv_at hl 0 rfl) ?_
  refine lv_aload_n hx hb dX9_copyAll_13 rfl (lv_at hl 1 rfl) ?_
  refine lv_iload hx hb dX9_copyAll_14 (lv_at hl 0 rfl) ?_
  refine va_iald hx hb hK hP 0 0 rfl rfl (vp_in_nI (n := 15) (by decide) (by decide)) dX9_copyAll_16 ?_
  refine pp_ti (y := f0 15) rfl ?_
  refine va_iast hx hb hK hP hD hS 1 1 rfl rfl (vp_in_nI (n := 15) (by decide) (by decide)) dX9_copyAll_17 (fun H locs hP hD hS => ?_)
  have hP : va_P (dC, dI) vwCl [(q0, .inl (c0, 38, .inl f0)), (q1, .inl (c1, 38, .inl (upd f_15 15 (f0 15)))), (q2, .inl (c2, 7, .inr (.inl f2))), (q3, .inl (c3, 7, .inr (.inl f3)))] H := hP
  have hD : va_D A [(q0, .inl (c0, 38, .inl f0)), (q1, .inl (c1, 38, .inl (upd f_15 15 (f0 15)))), (q2, .inl (c2, 7, .inr (.inl f2))), (q3, .inl (c3, 7, .inr (.inl f3)))] := hD
  generalize upd f_15 15 (f0 15) = f_16 at hP hD
  refine lv_iinc (v := 16) (lv' := [(4, .int 16), (0, .ref q0), (1, .ref q1), (2, .ref q2), (3, .ref q3)]) hx hb dX9_copyAll_18 hl (k := 0) rfl (by decide) (by decide) rfl (fun ls hl => ?_)
  refine lv_goto (tgt := 3) hx hb dX9_copyAll_21 (by decide) ?_
  refine lv_iload hx hb dX9_copyAll_3 (lv_at hl 0 rfl) ?_
  refine lv_bipush (v := 38) hx hb dX9_copyAll_5 (by decide) ?_
  refine lv_icmp_ge (tgt := 24) hx hb dX9_copyAll_7 (by decide) (fun c => absurd c (by decide)) (fun _ => ?_)
  refine lv_aload_n hx hb dX9_copyAll_10 rfl (lv_at hl 2 rfl) ?_
  refine lv_iload hx hb dX9_copyAll_11 (lv_at hl 0 rfl) ?_
  refine lv_aload_n hx hb dX9_copyAll_13 rfl (lv_at hl 1 rfl) ?_
  refine lv_iload hx hb dX9_copyAll_14 (lv_at hl 0 rfl) ?_
  refine va_iald hx hb hK hP 0 0 rfl rfl (vp_in_nI (n := 16) (by decide) (by decide)) dX9_copyAll_16 ?_
  refine pp_ti (y := f0 16) rfl ?_
  refine va_iast hx hb hK hP hD hS 1 1 rfl rfl (vp_in_nI (n := 16) (by decide) (by decide)) dX9_copyAll_17 (fun H locs hP hD hS => ?_)
  have hP : va_P (dC, dI) vwCl [(q0, .inl (c0, 38, .inl f0)), (q1, .inl (c1, 38, .inl (upd f_16 16 (f0 16)))), (q2, .inl (c2, 7, .inr (.inl f2))), (q3, .inl (c3, 7, .inr (.inl f3)))] H := hP
  have hD : va_D A [(q0, .inl (c0, 38, .inl f0)), (q1, .inl (c1, 38, .inl (upd f_16 16 (f0 16)))), (q2, .inl (c2, 7, .inr (.inl f2))), (q3, .inl (c3, 7, .inr (.inl f3)))] := hD
  generalize upd f_16 16 (f0 16) = f_17 at hP hD
  refine lv_iinc (v := 17) (lv' := [(4, .int 17), (0, .ref q0), (1, .ref q1), (2, .ref q2), (3, .ref q3)]) hx hb dX9_copyAll_18 hl (k := 0) rfl (by decide) (by decide) rfl (fun ls hl => ?_)
  refine lv_goto (tgt := 3) hx hb dX9_copyAll_21 (by decide) ?_
  refine lv_iload hx hb dX9_copyAll_3 (lv_at hl 0 rfl) ?_
  refine lv_bipush (v := 38) hx hb dX9_copyAll_5 (by decide) ?_
  refine lv_icmp_ge (tgt := 24) hx hb dX9_copyAll_7 (by decide) (fun c => absurd c (by decide)) (fun _ => ?_)
  refine lv_aload_n hx hb dX9_copyAll_10 rfl (lv_at hl 2 rfl) ?_
  refine lv_iload hx hb dX9_copyAll_11 (lv_at hl 0 rfl) ?_
  refine lv_aload_n hx hb dX9_copyAll_13 rfl (lv_at hl 1 rfl) ?_
  refine lv_iload hx hb dX9_copyAll_14 (lv_at hl 0 rfl) ?_
  refine va_iald hx hb hK hP 0 0 rfl rfl (vp_in_nI (n := 17) (by decide) (by decide)) dX9_copyAll_16 ?_
  refine pp_ti (y := f0 17) rfl ?_
  refine va_iast hx hb hK hP hD hS 1 1 rfl rfl (vp_in_nI (n := 17) (by decide) (by decide)) dX9_copyAll_17 (fun H locs hP hD hS => ?_)
  have hP : va_P (dC, dI) vwCl [(q0, .inl (c0, 38, .inl f0)), (q1, .inl (c1, 38, .inl (upd f_17 17 (f0 17)))), (q2, .inl (c2, 7, .inr (.inl f2))), (q3, .inl (c3, 7, .inr (.inl f3)))] H := hP
  have hD : va_D A [(q0, .inl (c0, 38, .inl f0)), (q1, .inl (c1, 38, .inl (upd f_17 17 (f0 17)))), (q2, .inl (c2, 7, .inr (.inl f2))), (q3, .inl (c3, 7, .inr (.inl f3)))] := hD
  generalize upd f_17 17 (f0 17) = f_18 at hP hD
  refine lv_iinc (v := 18) (lv' := [(4, .int 18), (0, .ref q0), (1, .ref q1), (2, .ref q2), (3, .ref q3)]) hx hb dX9_copyAll_18 hl (k := 0) rfl (by decide) (by decide) rfl (fun ls hl => ?_)
  refine lv_goto (tgt := 3) hx hb dX9_copyAll_21 (by decide) ?_
  refine lv_iload hx hb dX9_copyAll_3 (lv_at hl 0 rfl) ?_
  refine lv_bipush (v := 38) hx hb dX9_copyAll_5 (by decide) ?_
  refine lv_icmp_ge (tgt := 24) hx hb dX9_copyAll_7 (by decide) (fun c => absurd c (by decide)) (fun _ => ?_)
  refine lv_aload_n hx hb dX9_copyAll_10 rfl (lv_at hl 2 rfl) ?_
  refine lv_iload hx hb dX9_copyAll_11 (lv_at hl 0 rfl) ?_
  refine lv_aload_n hx hb dX9_copyAll_13 rfl (lv_at hl 1 rfl) ?_
  refine lv_iload hx hb dX9_copyAll_14 (lv_at hl 0 rfl) ?_
  refine va_iald hx hb hK hP 0 0 rfl rfl (vp_in_nI (n := 18) (by decide) (by decide)) dX9_copyAll_16 ?_
  refine pp_ti (y := f0 18) rfl ?_
  refine va_iast hx hb hK hP hD hS 1 1 rfl rfl (vp_in_nI (n := 18) (by decide) (by decide)) dX9_copyAll_17 (fun H locs hP hD hS => ?_)
  have hP : va_P (dC, dI) vwCl [(q0, .inl (c0, 38, .inl f0)), (q1, .inl (c1, 38, .inl (upd f_18 18 (f0 18)))), (q2, .inl (c2, 7, .inr (.inl f2))), (q3, .inl (c3, 7, .inr (.inl f3)))] H := hP
  have hD : va_D A [(q0, .inl (c0, 38, .inl f0)), (q1, .inl (c1, 38, .inl (upd f_18 18 (f0 18)))), (q2, .inl (c2, 7, .inr (.inl f2))), (q3, .inl (c3, 7, .inr (.inl f3)))] := hD
  generalize upd f_18 18 (f0 18) = f_19 at hP hD
  refine lv_iinc (v := 19) (lv' := [(4, .int 19), (0, .ref q0), (1, .ref q1), (2, .ref q2), (3, .ref q3)]) hx hb dX9_copyAll_18 hl (k := 0) rfl (by decide) (by decide) rfl (fun ls hl => ?_)
  refine lv_goto (tgt := 3) hx hb dX9_copyAll_21 (by decide) ?_
  refine lv_iload hx hb dX9_copyAll_3 (lv_at hl 0 rfl) ?_
  refine lv_bipush (v := 38) hx hb dX9_copyAll_5 (by decide) ?_
  refine lv_icmp_ge (tgt := 24) hx hb dX9_copyAll_7 (by decide) (fun c => absurd c (by decide)) (fun _ => ?_)
  refine lv_aload_n hx hb dX9_copyAll_10 rfl (lv_at hl 2 rfl) ?_
  refine lv_iload hx hb dX9_copyAll_11 (lv_at hl 0 rfl) ?_
  refine lv_aload_n hx hb dX9_copyAll_13 rfl (lv_at hl 1 rfl) ?_
  refine lv_iload hx hb dX9_copyAll_14 (lv_at hl 0 rfl) ?_
  refine va_iald hx hb hK hP 0 0 rfl rfl (vp_in_nI (n := 19) (by decide) (by decide)) dX9_copyAll_16 ?_
  refine pp_ti (y := f0 19) rfl ?_
  refine va_iast hx hb hK hP hD hS 1 1 rfl rfl (vp_in_nI (n := 19) (by decide) (by decide)) dX9_copyAll_17 (fun H locs hP hD hS => ?_)
  have hP : va_P (dC, dI) vwCl [(q0, .inl (c0, 38, .inl f0)), (q1, .inl (c1, 38, .inl (upd f_19 19 (f0 19)))), (q2, .inl (c2, 7, .inr (.inl f2))), (q3, .inl (c3, 7, .inr (.inl f3)))] H := hP
  have hD : va_D A [(q0, .inl (c0, 38, .inl f0)), (q1, .inl (c1, 38, .inl (upd f_19 19 (f0 19)))), (q2, .inl (c2, 7, .inr (.inl f2))), (q3, .inl (c3, 7, .inr (.inl f3)))] := hD
  generalize upd f_19 19 (f0 19) = f_20 at hP hD
  refine lv_iinc (v := 20) (lv' := [(4, .int 20), (0, .ref q0), (1, .ref q1), (2, .ref q2), (3, .ref q3)]) hx hb dX9_copyAll_18 hl (k := 0) rfl (by decide) (by decide) rfl (fun ls hl => ?_)
  refine lv_goto (tgt := 3) hx hb dX9_copyAll_21 (by decide) ?_
  refine lv_iload hx hb dX9_copyAll_3 (lv_at hl 0 rfl) ?_
  refine lv_bipush (v := 38) hx hb dX9_copyAll_5 (by decide) ?_
  refine lv_icmp_ge (tgt := 24) hx hb dX9_copyAll_7 (by decide) (fun c => absurd c (by decide)) (fun _ => ?_)
  refine lv_aload_n hx hb dX9_copyAll_10 rfl (lv_at hl 2 rfl) ?_
  refine lv_iload hx hb dX9_copyAll_11 (lv_at hl 0 rfl) ?_
  refine lv_aload_n hx hb dX9_copyAll_13 rfl (lv_at hl 1 rfl) ?_
  refine lv_iload hx hb dX9_copyAll_14 (lv_at hl 0 rfl) ?_
  refine va_iald hx hb hK hP 0 0 rfl rfl (vp_in_nI (n := 20) (by decide) (by decide)) dX9_copyAll_16 ?_
  refine pp_ti (y := f0 20) rfl ?_
  refine va_iast hx hb hK hP hD hS 1 1 rfl rfl (vp_in_nI (n := 20) (by decide) (by decide)) dX9_copyAll_17 (fun H locs hP hD hS => ?_)
  have hP : va_P (dC, dI) vwCl [(q0, .inl (c0, 38, .inl f0)), (q1, .inl (c1, 38, .inl (upd f_20 20 (f0 20)))), (q2, .inl (c2, 7, .inr (.inl f2))), (q3, .inl (c3, 7, .inr (.inl f3)))] H := hP
  have hD : va_D A [(q0, .inl (c0, 38, .inl f0)), (q1, .inl (c1, 38, .inl (upd f_20 20 (f0 20)))), (q2, .inl (c2, 7, .inr (.inl f2))), (q3, .inl (c3, 7, .inr (.inl f3)))] := hD
  generalize upd f_20 20 (f0 20) = f_21 at hP hD
  refine lv_iinc (v := 21) (lv' := [(4, .int 21), (0, .ref q0), (1, .ref q1), (2, .ref q2), (3, .ref q3)]) hx hb dX9_copyAll_18 hl (k := 0) rfl (by decide) (by decide) rfl (fun ls hl => ?_)
  refine lv_goto (tgt := 3) hx hb dX9_copyAll_21 (by decide) ?_
  refine lv_iload hx hb dX9_copyAll_3 (lv_at hl 0 rfl) ?_
  refine lv_bipush (v := 38) hx hb dX9_copyAll_5 (by decide) ?_
  refine lv_icmp_ge (tgt := 24) hx hb dX9_copyAll_7 (by decide) (fun c => absurd c (by decide)) (fun _ => ?_)
  refine lv_aload_n hx hb dX9_copyAll_10 rfl (lv_at hl 2 rfl) ?_
  refine lv_iload hx hb dX9_copyAll_11 (lv_at hl 0 rfl) ?_
  refine lv_aload_n hx hb dX9_copyAll_13 rfl (lv_at hl 1 rfl) ?_
  refine lv_iload hx hb dX9_copyAll_14 (lv_at hl 0 rfl) ?_
  refine va_iald hx hb hK hP 0 0 rfl rfl (vp_in_nI (n := 21) (by decide) (by decide)) dX9_copyAll_16 ?_
  refine pp_ti (y := f0 21) rfl ?_
  refine va_iast hx hb hK hP hD hS 1 1 rfl rfl (vp_in_nI (n := 21) (by decide) (by decide)) dX9_copyAll_17 (fun H locs hP hD hS => ?_)
  have hP : va_P (dC, dI) vwCl [(q0, .inl (c0, 38, .inl f0)), (q1, .inl (c1, 38, .inl (upd f_21 21 (f0 21)))), (q2, .inl (c2, 7, .inr (.inl f2))), (q3, .inl (c3, 7, .inr (.inl f3)))] H := hP
  have hD : va_D A [(q0, .inl (c0, 38, .inl f0)), (q1, .inl (c1, 38, .inl (upd f_21 21 (f0 21)))), (q2, .inl (c2, 7, .inr (.inl f2))), (q3, .inl (c3, 7, .inr (.inl f3)))] := hD
  generalize upd f_21 21 (f0 21) = f_22 at hP hD
  refine lv_iinc (v := 22) (lv' := [(4, .int 22), (0, .ref q0), (1, .ref q1), (2, .ref q2), (3, .ref q3)]) hx hb dX9_copyAll_18 hl (k := 0) rfl (by decide) (by decide) rfl (fun ls hl => ?_)
  refine lv_goto (tgt := 3) hx hb dX9_copyAll_21 (by decide) ?_
  refine lv_iload hx hb dX9_copyAll_3 (lv_at hl 0 rfl) ?_
  refine lv_bipush (v := 38) hx hb dX9_copyAll_5 (by decide) ?_
  refine lv_icmp_ge (tgt := 24) hx hb dX9_copyAll_7 (by decide) (fun c => absurd c (by decide)) (fun _ => ?_)
  refine lv_aload_n hx hb dX9_copyAll_10 rfl (lv_at hl 2 rfl) ?_
  refine lv_iload hx hb dX9_copyAll_11 (lv_at hl 0 rfl) ?_
  refine lv_aload_n hx hb dX9_copyAll_13 rfl (lv_at hl 1 rfl) ?_
  refine lv_iload hx hb dX9_copyAll_14 (lv_at hl 0 rfl) ?_
  refine va_iald hx hb hK hP 0 0 rfl rfl (vp_in_nI (n := 22) (by decide) (by decide)) dX9_copyAll_16 ?_
  refine pp_ti (y := f0 22) rfl ?_
  refine va_iast hx hb hK hP hD hS 1 1 rfl rfl (vp_in_nI (n := 22) (by decide) (by decide)) dX9_copyAll_17 (fun H locs hP hD hS => ?_)
  have hP : va_P (dC, dI) vwCl [(q0, .inl (c0, 38, .inl f0)), (q1, .inl (c1, 38, .inl (upd f_22 22 (f0 22)))), (q2, .inl (c2, 7, .inr (.inl f2))), (q3, .inl (c3, 7, .inr (.inl f3)))] H := hP
  have hD : va_D A [(q0, .inl (c0, 38, .inl f0)), (q1, .inl (c1, 38, .inl (upd f_22 22 (f0 22)))), (q2, .inl (c2, 7, .inr (.inl f2))), (q3, .inl (c3, 7, .inr (.inl f3)))] := hD
  generalize upd f_22 22 (f0 22) = f_23 at hP hD
  refine lv_iinc (v := 23) (lv' := [(4, .int 23), (0, .ref q0), (1, .ref q1), (2, .ref q2), (3, .ref q3)]) hx hb dX9_copyAll_18 hl (k := 0) rfl (by decide) (by decide) rfl (fun ls hl => ?_)
  refine lv_goto (tgt := 3) hx hb dX9_copyAll_21 (by decide) ?_
  refine lv_iload hx hb dX9_copyAll_3 (lv_at hl 0 rfl) ?_
  refine lv_bipush (v := 38) hx hb dX9_copyAll_5 (by decide) ?_
  refine lv_icmp_ge (tgt := 24) hx hb dX9_copyAll_7 (by decide) (fun c => absurd c (by decide)) (fun _ => ?_)
  refine lv_aload_n hx hb dX9_copyAll_10 rfl (lv_at hl 2 rfl) ?_
  refine lv_iload hx hb dX9_copyAll_11 (lv_at hl 0 rfl) ?_
  refine lv_aload_n hx hb dX9_copyAll_13 rfl (lv_at hl 1 rfl) ?_
  refine lv_iload hx hb dX9_copyAll_14 (lv_at hl 0 rfl) ?_
  refine va_iald hx hb hK hP 0 0 rfl rfl (vp_in_nI (n := 23) (by decide) (by decide)) dX9_copyAll_16 ?_
  refine pp_ti (y := f0 23) rfl ?_
  refine va_iast hx hb hK hP hD hS 1 1 rfl rfl (vp_in_nI (n := 23) (by decide) (by decide)) dX9_copyAll_17 (fun H locs hP hD hS => ?_)
  have hP : va_P (dC, dI) vwCl [(q0, .inl (c0, 38, .inl f0)), (q1, .inl (c1, 38, .inl (upd f_23 23 (f0 23)))), (q2, .inl (c2, 7, .inr (.inl f2))), (q3, .inl (c3, 7, .inr (.inl f3)))] H := hP
  have hD : va_D A [(q0, .inl (c0, 38, .inl f0)), (q1, .inl (c1, 38, .inl (upd f_23 23 (f0 23)))), (q2, .inl (c2, 7, .inr (.inl f2))), (q3, .inl (c3, 7, .inr (.inl f3)))] := hD
  generalize upd f_23 23 (f0 23) = f_24 at hP hD
  refine lv_iinc (v := 24) (lv' := [(4, .int 24), (0, .ref q0), (1, .ref q1), (2, .ref q2), (3, .ref q3)]) hx hb dX9_copyAll_18 hl (k := 0) rfl (by decide) (by decide) rfl (fun ls hl => ?_)
  refine lv_goto (tgt := 3) hx hb dX9_copyAll_21 (by decide) ?_
  refine lv_iload hx hb dX9_copyAll_3 (lv_at hl 0 rfl) ?_
  refine lv_bipush (v := 38) hx hb dX9_copyAll_5 (by decide) ?_
  refine lv_icmp_ge (tgt := 24) hx hb dX9_copyAll_7 (by decide) (fun c => absurd c (by decide)) (fun _ => ?_)
  refine lv_aload_n hx hb dX9_copyAll_10 rfl (lv_at hl 2 rfl) ?_
  refine lv_iload hx hb dX9_copyAll_11 (lv_at hl 0 rfl) ?_
  refine lv_aload_n hx hb dX9_copyAll_13 rfl (lv_at hl 1 rfl) ?_
  refine lv_iload hx hb dX9_copyAll_14 (lv_at hl 0 rfl) ?_
  refine va_iald hx hb hK hP 0 0 rfl rfl (vp_in_nI (n := 24) (by decide) (by decide)) dX9_copyAll_16 ?_
  refine pp_ti (y := f0 24) rfl ?_
  refine va_iast hx hb hK hP hD hS 1 1 rfl rfl (vp_in_nI (n := 24) (by decide) (by decide)) dX9_copyAll_17 (fun H locs hP hD hS => ?_)
  have hP : va_P (dC, dI) vwCl [(q0, .inl (c0, 38, .inl f0)), (q1, .inl (c1, 38, .inl (upd f_24 24 (f0 24)))), (q2, .inl (c2, 7, .inr (.inl f2))), (q3, .inl (c3, 7, .inr (.inl f3)))] H := hP
  have hD : va_D A [(q0, .inl (c0, 38, .inl f0)), (q1, .inl (c1, 38, .inl (upd f_24 24 (f0 24)))), (q2, .inl (c2, 7, .inr (.inl f2))), (q3, .inl (c3, 7, .inr (.inl f3)))] := hD
  generalize upd f_24 24 (f0 24) = f_25 at hP hD
  refine lv_iinc (v := 25) (lv' := [(4, .int 25), (0, .ref q0), (1, .ref q1), (2, .ref q2), (3, .ref q3)]) hx hb dX9_copyAll_18 hl (k := 0) rfl (by decide) (by decide) rfl (fun ls hl => ?_)
  refine lv_goto (tgt := 3) hx hb dX9_copyAll_21 (by decide) ?_
  refine lv_iload hx hb dX9_copyAll_3 (lv_at hl 0 rfl) ?_
  refine lv_bipush (v := 38) hx hb dX9_copyAll_5 (by decide) ?_
  refine lv_icmp_ge (tgt := 24) hx hb dX9_copyAll_7 (by decide) (fun c => absurd c (by decide)) (fun _ => ?_)
  refine lv_aload_n hx hb dX9_copyAll_10 rfl (lv_at hl 2 rfl) ?_
  refine lv_iload hx hb dX9_copyAll_11 (lv_at hl 0 rfl) ?_
  refine lv_aload_n hx hb dX9_copyAll_13 rfl (lv_at hl 1 rfl) ?_
  refine lv_iload hx hb dX9_copyAll_14 (lv_at hl 0 rfl) ?_
  refine va_iald hx hb hK hP 0 0 rfl rfl (vp_in_nI (n := 25) (by decide) (by decide)) dX9_copyAll_16 ?_
  refine pp_ti (y := f0 25) rfl ?_
  refine va_iast hx hb hK hP hD hS 1 1 rfl rfl (vp_in_nI (n := 25) (by decide) (by decide)) dX9_copyAll_17 (fun H locs hP hD hS => ?_)
  have hP : va_P (dC, dI) vwCl [(q0, .inl (c0, 38, .inl f0)), (q1, .inl (c1, 38, .inl (upd f_25 25 (f0 25)))), (q2, .inl (c2, 7, .inr (.inl f2))), (q3, .inl (c3, 7, .inr (.inl f3)))] H := hP
  have hD : va_D A [(q0, .inl (c0, 38, .inl f0)), (q1, .inl (c1, 38, .inl (upd f_25 25 (f0 25)))), (q2, .inl (c2, 7, .inr (.inl f2))), (q3, .inl (c3, 7, .inr (.inl f3)))] := hD
  generalize upd f_25 25 (f0 25) = f_26 at hP hD
  refine lv_iinc (v := 26) (lv' := [(4, .int 26), (0, .ref q0), (1, .ref q1), (2, .ref q2), (3, .ref q3)]) hx hb dX9_copyAll_18 hl (k := 0) rfl (by decide) (by decide) rfl (fun ls hl => ?_)
  refine lv_goto (tgt := 3) hx hb dX9_copyAll_21 (by decide) ?_
  refine lv_iload hx hb dX9_copyAll_3 (lv_at hl 0 rfl) ?_
  refine lv_bipush (v := 38) hx hb dX9_copyAll_5 (by decide) ?_
  refine lv_icmp_ge (tgt := 24) hx hb dX9_copyAll_7 (by decide) (fun c => absurd c (by decide)) (fun _ => ?_)
  refine lv_aload_n hx hb dX9_copyAll_10 rfl (lv_at hl 2 rfl) ?_
  refine lv_iload hx hb dX9_copyAll_11 (lv_at hl 0 rfl) ?_
  refine lv_aload_n hx hb dX9_copyAll_13 rfl (lv_at hl 1 rfl) ?_
  refine lv_iload hx hb dX9_copyAll_14 (lv_at hl 0 rfl) ?_
  refine va_iald hx hb hK hP 0 0 rfl rfl (vp_in_nI (n := 26) (by decide) (by decide)) dX9_copyAll_16 ?_
  refine pp_ti (y := f0 26) rfl ?_
  refine va_iast hx hb hK hP hD hS 1 1 rfl rfl (vp_in_nI (n := 26) (by decide) (by decide)) dX9_copyAll_17 (fun H locs hP hD hS => ?_)
  have hP : va_P (dC, dI) vwCl [(q0, .inl (c0, 38, .inl f0)), (q1, .inl (c1, 38, .inl (upd f_26 26 (f0 26)))), (q2, .inl (c2, 7, .inr (.inl f2))), (q3, .inl (c3, 7, .inr (.inl f3)))] H := hP
  have hD : va_D A [(q0, .inl (c0, 38, .inl f0)), (q1, .inl (c1, 38, .inl (upd f_26 26 (f0 26)))), (q2, .inl (c2, 7, .inr (.inl f2))), (q3, .inl (c3, 7, .inr (.inl f3)))] := hD
  generalize upd f_26 26 (f0 26) = f_27 at hP hD
  refine lv_iinc (v := 27) (lv' := [(4, .int 27), (0, .ref q0), (1, .ref q1), (2, .ref q2), (3, .ref q3)]) hx hb dX9_copyAll_18 hl (k := 0) rfl (by decide) (by decide) rfl (fun ls hl => ?_)
  refine lv_goto (tgt := 3) hx hb dX9_copyAll_21 (by decide) ?_
  refine lv_iload hx hb dX9_copyAll_3 (lv_at hl 0 rfl) ?_
  refine lv_bipush (v := 38) hx hb dX9_copyAll_5 (by decide) ?_
  refine lv_icmp_ge (tgt := 24) hx hb dX9_copyAll_7 (by decide) (fun c => absurd c (by decide)) (fun _ => ?_)
  refine lv_aload_n hx hb dX9_copyAll_10 rfl (lv_at hl 2 rfl) ?_
  refine lv_iload hx hb dX9_copyAll_11 (lv_at hl 0 rfl) ?_
  refine lv_aload_n hx hb dX9_copyAll_13 rfl (lv_at hl 1 rfl) ?_
  refine lv_iload hx hb dX9_copyAll_14 (lv_at hl 0 rfl) ?_
  refine va_iald hx hb hK hP 0 0 rfl rfl (vp_in_nI (n := 27) (by decide) (by decide)) dX9_copyAll_16 ?_
  refine pp_ti (y := f0 27) rfl ?_
  refine va_iast hx hb hK hP hD hS 1 1 rfl rfl (vp_in_nI (n := 27) (by decide) (by decide)) dX9_copyAll_17 (fun H locs hP hD hS => ?_)
  have hP : va_P (dC, dI) vwCl [(q0, .inl (c0, 38, .inl f0)), (q1, .inl (c1, 38, .inl (upd f_27 27 (f0 27)))), (q2, .inl (c2, 7, .inr (.inl f2))), (q3, .inl (c3, 7, .inr (.inl f3)))] H := hP
  have hD : va_D A [(q0, .inl (c0, 38, .inl f0)), (q1, .inl (c1, 38, .inl (upd f_27 27 (f0 27)))), (q2, .inl (c2, 7, .inr (.inl f2))), (q3, .inl (c3, 7, .inr (.inl f3)))] := hD
  generalize upd f_27 27 (f0 27) = f_28 at hP hD
  refine lv_iinc (v := 28) (lv' := [(4, .int 28), (0, .ref q0), (1, .ref q1), (2, .ref q2), (3, .ref q3)]) hx hb dX9_copyAll_18 hl (k := 0) rfl (by decide) (by decide) rfl (fun ls hl => ?_)
  refine lv_goto (tgt := 3) hx hb dX9_copyAll_21 (by decide) ?_
  refine lv_iload hx hb dX9_copyAll_3 (lv_at hl 0 rfl) ?_
  refine lv_bipush (v := 38) hx hb dX9_copyAll_5 (by decide) ?_
  refine lv_icmp_ge (tgt := 24) hx hb dX9_copyAll_7 (by decide) (fun c => absurd c (by decide)) (fun _ => ?_)
  refine lv_aload_n hx hb dX9_copyAll_10 rfl (lv_at hl 2 rfl) ?_
  refine lv_iload hx hb dX9_copyAll_11 (lv_at hl 0 rfl) ?_
  refine lv_aload_n hx hb dX9_copyAll_13 rfl (lv_at hl 1 rfl) ?_
  refine lv_iload hx hb dX9_copyAll_14 (lv_at hl 0 rfl) ?_
  refine va_iald hx hb hK hP 0 0 rfl rfl (vp_in_nI (n := 28) (by decide) (by decide)) dX9_copyAll_16 ?_
  refine pp_ti (y := f0 28) rfl ?_
  refine va_iast hx hb hK hP hD hS 1 1 rfl rfl (vp_in_nI (n := 28) (by decide) (by decide)) dX9_copyAll_17 (fun H locs hP hD hS => ?_)
  have hP : va_P (dC, dI) vwCl [(q0, .inl (c0, 38, .inl f0)), (q1, .inl (c1, 38, .inl (upd f_28 28 (f0 28)))), (q2, .inl (c2, 7, .inr (.inl f2))), (q3, .inl (c3, 7, .inr (.inl f3)))] H := hP
  have hD : va_D A [(q0, .inl (c0, 38, .inl f0)), (q1, .inl (c1, 38, .inl (upd f_28 28 (f0 28)))), (q2, .inl (c2, 7, .inr (.inl f2))), (q3, .inl (c3, 7, .inr (.inl f3)))] := hD
  generalize upd f_28 28 (f0 28) = f_29 at hP hD
  refine lv_iinc (v := 29) (lv' := [(4, .int 29), (0, .ref q0), (1, .ref q1), (2, .ref q2), (3, .ref q3)]) hx hb dX9_copyAll_18 hl (k := 0) rfl (by decide) (by decide) rfl (fun ls hl => ?_)
  refine lv_goto (tgt := 3) hx hb dX9_copyAll_21 (by decide) ?_
  refine lv_iload hx hb dX9_copyAll_3 (lv_at hl 0 rfl) ?_
  refine lv_bipush (v := 38) hx hb dX9_copyAll_5 (by decide) ?_
  refine lv_icmp_ge (tgt := 24) hx hb dX9_copyAll_7 (by decide) (fun c => absurd c (by decide)) (fun _ => ?_)
  refine lv_aload_n hx hb dX9_copyAll_10 rfl (lv_at hl 2 rfl) ?_
  refine lv_iload hx hb dX9_copyAll_11 (lv_at hl 0 rfl) ?_
  refine lv_aload_n hx hb dX9_copyAll_13 rfl (lv_at hl 1 rfl) ?_
  refine lv_iload hx hb dX9_copyAll_14 (lv_at hl 0 rfl) ?_
  refine va_iald hx hb hK hP 0 0 rfl rfl (vp_in_nI (n := 29) (by decide) (by decide)) dX9_copyAll_16 ?_
  refine pp_ti (y := f0 29) rfl ?_
  refine va_iast hx hb hK hP hD hS 1 1 rfl rfl (vp_in_nI (n := 29) (by decide) (by decide)) dX9_copyAll_17 (fun H locs hP hD hS => ?_)
  have hP : va_P (dC, dI) vwCl [(q0, .inl (c0, 38, .inl f0)), (q1, .inl (c1, 38, .inl (upd f_29 29 (f0 29)))), (q2, .inl (c2, 7, .inr (.inl f2))), (q3, .inl (c3, 7, .inr (.inl f3)))] H := hP
  have hD : va_D A [(q0, .inl (c0, 38, .inl f0)), (q1, .inl (c1, 38, .inl (upd f_29 29 (f0 29)))), (q2, .inl (c2, 7, .inr (.inl f2))), (q3, .inl (c3, 7, .inr (.inl f3)))] := hD
  generalize upd f_29 29 (f0 29) = f_30 at hP hD
  refine lv_iinc (v := 30) (lv' := [(4, .int 30), (0, .ref q0), (1, .ref q1), (2, .ref q2), (3, .ref q3)]) hx hb dX9_copyAll_18 hl (k := 0) rfl (by decide) (by decide) rfl (fun ls hl => ?_)
  refine lv_goto (tgt := 3) hx hb dX9_copyAll_21 (by decide) ?_
  refine lv_iload hx hb dX9_copyAll_3 (lv_at hl 0 rfl) ?_
  refine lv_bipush (v := 38) hx hb dX9_copyAll_5 (by decide) ?_
  refine lv_icmp_ge (tgt := 24) hx hb dX9_copyAll_7 (by decide) (fun c => absurd c (by decide)) (fun _ => ?_)
  refine lv_aload_n hx hb dX9_copyAll_10 rfl (lv_at hl 2 rfl) ?_
  refine lv_iload hx hb dX9_copyAll_11 (lv_at hl 0 rfl) ?_
  refine lv_aload_n hx hb dX9_copyAll_13 rfl (lv_at hl 1 rfl) ?_
  refine lv_iload hx hb dX9_copyAll_14 (lv_at hl 0 rfl) ?_
  refine va_iald hx hb hK hP 0 0 rfl rfl (vp_in_nI (n := 30) (by decide) (by decide)) dX9_copyAll_16 ?_
  refine pp_ti (y := f0 30) rfl ?_
  refine va_iast hx hb hK hP hD hS 1 1 rfl rfl (vp_in_nI (n := 30) (by decide) (by decide)) dX9_copyAll_17 (fun H locs hP hD hS => ?_)
  have hP : va_P (dC, dI) vwCl [(q0, .inl (c0, 38, .inl f0)), (q1, .inl (c1, 38, .inl (upd f_30 30 (f0 30)))), (q2, .inl (c2, 7, .inr (.inl f2))), (q3, .inl (c3, 7, .inr (.inl f3)))] H := hP
  have hD : va_D A [(q0, .inl (c0, 38, .inl f0)), (q1, .inl (c1, 38, .inl (upd f_30 30 (f0 30)))), (q2, .inl (c2, 7, .inr (.inl f2))), (q3, .inl (c3, 7, .inr (.inl f3)))] := hD
  generalize upd f_30 30 (f0 30) = f_31 at hP hD
  refine lv_iinc (v := 31) (lv' := [(4, .int 31), (0, .ref q0), (1, .ref q1), (2, .ref q2), (3, .ref q3)]) hx hb dX9_copyAll_18 hl (k := 0) rfl (by decide) (by decide) rfl (fun ls hl => ?_)
  refine lv_goto (tgt := 3) hx hb dX9_copyAll_21 (by decide) ?_
  refine lv_iload hx hb dX9_copyAll_3 (lv_at hl 0 rfl) ?_
  refine lv_bipush (v := 38) hx hb dX9_copyAll_5 (by decide) ?_
  refine lv_icmp_ge (tgt := 24) hx hb dX9_copyAll_7 (by decide) (fun c => absurd c (by decide)) (fun _ => ?_)
  refine lv_aload_n hx hb dX9_copyAll_10 rfl (lv_at hl 2 rfl) ?_
  refine lv_iload hx hb dX9_copyAll_11 (lv_at hl 0 rfl) ?_
  refine lv_aload_n hx hb dX9_copyAll_13 rfl (lv_at hl 1 rfl) ?_
  refine lv_iload hx hb dX9_copyAll_14 (lv_at hl 0 rfl) ?_
  refine va_iald hx hb hK hP 0 0 rfl rfl (vp_in_nI (n := 31) (by decide) (by decide)) dX9_copyAll_16 ?_
  refine pp_ti (y := f0 31) rfl ?_
  refine va_iast hx hb hK hP hD hS 1 1 rfl rfl (vp_in_nI (n := 31) (by decide) (by decide)) dX9_copyAll_17 (fun H locs hP hD hS => ?_)
  have hP : va_P (dC, dI) vwCl [(q0, .inl (c0, 38, .inl f0)), (q1, .inl (c1, 38, .inl (upd f_31 31 (f0 31)))), (q2, .inl (c2, 7, .inr (.inl f2))), (q3, .inl (c3, 7, .inr (.inl f3)))] H := hP
  have hD : va_D A [(q0, .inl (c0, 38, .inl f0)), (q1, .inl (c1, 38, .inl (upd f_31 31 (f0 31)))), (q2, .inl (c2, 7, .inr (.inl f2))), (q3, .inl (c3, 7, .inr (.inl f3)))] := hD
  generalize upd f_31 31 (f0 31) = f_32 at hP hD
  refine lv_iinc (v := 32) (lv' := [(4, .int 32), (0, .ref q0), (1, .ref q1), (2, .ref q2), (3, .ref q3)]) hx hb dX9_copyAll_18 hl (k := 0) rfl (by decide) (by decide) rfl (fun ls hl => ?_)
  refine lv_goto (tgt := 3) hx hb dX9_copyAll_21 (by decide) ?_
  refine lv_iload hx hb dX9_copyAll_3 (lv_at hl 0 rfl) ?_
  refine lv_bipush (v := 38) hx hb dX9_copyAll_5 (by decide) ?_
  refine lv_icmp_ge (tgt := 24) hx hb dX9_copyAll_7 (by decide) (fun c => absurd c (by decide)) (fun _ => ?_)
  refine lv_aload_n hx hb dX9_copyAll_10 rfl (lv_at hl 2 rfl) ?_
  refine lv_iload hx hb dX9_copyAll_11 (lv_at hl 0 rfl) ?_
  refine lv_aload_n hx hb dX9_copyAll_13 rfl (lv_at hl 1 rfl) ?_
  refine lv_iload hx hb dX9_copyAll_14 (lv_at hl 0 rfl) ?_
  refine va_iald hx hb hK hP 0 0 rfl rfl (vp_in_nI (n := 32) (by decide) (by decide)) dX9_copyAll_16 ?_
  refine pp_ti (y := f0 32) rfl ?_
  refine va_iast hx hb hK hP hD hS 1 1 rfl rfl (vp_in_nI (n := 32) (by decide) (by decide)) dX9_copyAll_17 (fun H locs hP hD hS => ?_)
  have hP : va_P (dC, dI) vwCl [(q0, .inl (c0, 38, .inl f0)), (q1, .inl (c1, 38, .inl (upd f_32 32 (f0 32)))), (q2, .inl (c2, 7, .inr (.inl f2))), (q3, .inl (c3, 7, .inr (.inl f3)))] H := hP
  have hD : va_D A [(q0, .inl (c0, 38, .inl f0)), (q1, .inl (c1, 38, .inl (upd f_32 32 (f0 32)))), (q2, .inl (c2, 7, .inr (.inl f2))), (q3, .inl (c3, 7, .inr (.inl f3)))] := hD
  generalize upd f_32 32 (f0 32) = f_33 at hP hD
  refine lv_iinc (v := 33) (lv' := [(4, .int 33), (0, .ref q0), (1, .ref q1), (2, .ref q2), (3, .ref q3)]) hx hb dX9_copyAll_18 hl (k := 0) rfl (by decide) (by decide) rfl (fun ls hl => ?_)
  refine lv_goto (tgt := 3) hx hb dX9_copyAll_21 (by decide) ?_
  refine lv_iload hx hb dX9_copyAll_3 (lv_at hl 0 rfl) ?_
  refine lv_bipush (v := 38) hx hb dX9_copyAll_5 (by decide) ?_
  refine lv_icmp_ge (tgt := 24) hx hb dX9_copyAll_7 (by decide) (fun c => absurd c (by decide)) (fun _ => ?_)
  refine lv_aload_n hx hb dX9_copyAll_10 rfl (lv_at hl 2 rfl) ?_
  refine lv_iload hx hb dX9_copyAll_11 (lv_at hl 0 rfl) ?_
  refine lv_aload_n hx hb dX9_copyAll_13 rfl (lv_at hl 1 rfl) ?_
  refine lv_iload hx hb dX9_copyAll_14 (lv_at hl 0 rfl) ?_
  refine va_iald hx hb hK hP 0 0 rfl rfl (vp_in_nI (n := 33) (by decide) (by decide)) dX9_copyAll_16 ?_
  refine pp_ti (y := f0 33) rfl ?_
  refine va_iast hx hb hK hP hD hS 1 1 rfl rfl (vp_in_nI (n := 33) (by decide) (by decide)) dX9_copyAll_17 (fun H locs hP hD hS => ?_)
  have hP : va_P (dC, dI) vwCl [(q0, .inl (c0, 38, .inl f0)), (q1, .inl (c1, 38, .inl (upd f_33 33 (f0 33)))), (q2, .inl (c2, 7, .inr (.inl f2))), (q3, .inl (c3, 7, .inr (.inl f3)))] H := hP
  have hD : va_D A [(q0, .inl (c0, 38, .inl f0)), (q1, .inl (c1, 38, .inl (upd f_33 33 (f0 33)))), (q2, .inl (c2, 7, .inr (.inl f2))), (q3, .inl (c3, 7, .inr (.inl f3)))] := hD
  generalize upd f_33 33 (f0 33) = f_34 at hP hD
  refine lv_iinc (v := 34) (lv' := [(4, .int 34), (0, .ref q0), (1, .ref q1), (2, .ref q2), (3, .ref q3)]) hx hb dX9_copyAll_18 hl (k := 0) rfl (by decide) (by decide) rfl (fun ls hl => ?_)
  refine lv_goto (tgt := 3) hx hb dX9_copyAll_21 (by decide) ?_
  refine lv_iload hx hb dX9_copyAll_3 (lv_at hl 0 rfl) ?_
  refine lv_bipush (v := 38) hx hb dX9_copyAll_5 (by decide) ?_
  refine lv_icmp_ge (tgt := 24) hx hb dX9_copyAll_7 (by decide) (fun c => absurd c (by decide)) (fun _ => ?_)
  refine lv_aload_n hx hb dX9_copyAll_10 rfl (lv_at hl 2 rfl) ?_
  refine lv_iload hx hb dX9_copyAll_11 (lv_at hl 0 rfl) ?_
  refine lv_aload_n hx hb dX9_copyAll_13 rfl (lv_at hl 1 rfl) ?_
  refine lv_iload hx hb dX9_copyAll_14 (lv_at hl 0 rfl) ?_
  refine va_iald hx hb hK hP 0 0 rfl rfl (vp_in_nI (n := 34) (by decide) (by decide)) dX9_copyAll_16 ?_
  refine pp_ti (y := f0 34) rfl ?_
  refine va_iast hx hb hK hP hD hS 1 1 rfl rfl (vp_in_nI (n := 34) (by decide) (by decide)) dX9_copyAll_17 (fun H locs hP hD hS => ?_)
  have hP : va_P (dC, dI) vwCl [(q0, .inl (c0, 38, .inl f0)), (q1, .inl (c1, 38, .inl (upd f_34 34 (f0 34)))), (q2, .inl (c2, 7, .inr (.inl f2))), (q3, .inl (c3, 7, .inr (.inl f3)))] H := hP
  have hD : va_D A [(q0, .inl (c0, 38, .inl f0)), (q1, .inl (c1, 38, .inl (upd f_34 34 (f0 34)))), (q2, .inl (c2, 7, .inr (.inl f2))), (q3, .inl (c3, 7, .inr (.inl f3)))] := hD
  generalize upd f_34 34 (f0 34) = f_35 at hP hD
  refine lv_iinc (v := 35) (lv' := [(4, .int 35), (0, .ref q0), (1, .ref q1), (2, .ref q2), (3, .ref q3)]) hx hb dX9_copyAll_18 hl (k := 0) rfl (by decide) (by decide) rfl (fun ls hl => ?_)
  refine lv_goto (tgt := 3) hx hb dX9_copyAll_21 (by decide) ?_
  refine lv_iload hx hb dX9_copyAll_3 (lv_at hl 0 rfl) ?_
  refine lv_bipush (v := 38) hx hb dX9_copyAll_5 (by decide) ?_
  refine lv_icmp_ge (tgt := 24) hx hb dX9_copyAll_7 (by decide) (fun c => absurd c (by decide)) (fun _ => ?_)
  refine lv_aload_n hx hb dX9_copyAll_10 rfl (lv_at hl 2 rfl) ?_
  refine lv_iload hx hb dX9_copyAll_11 (lv_at hl 0 rfl) ?_
  refine lv_aload_n hx hb dX9_copyAll_13 rfl (lv_at hl 1 rfl) ?_
  refine lv_iload hx hb dX9_copyAll_14 (lv_at hl 0 rfl) ?_
  refine va_iald hx hb hK hP 0 0 rfl rfl (vp_in_nI (n := 35) (by decide) (by decide)) dX9_copyAll_16 ?_
  refine pp_ti (y := f0 35) rfl ?_
  refine va_iast hx hb hK hP hD hS 1 1 rfl rfl (vp_in_nI (n := 35) (by decide) (by decide)) dX9_copyAll_17 (fun H locs hP hD hS => ?_)
  have hP : va_P (dC, dI) vwCl [(q0, .inl (c0, 38, .inl f0)), (q1, .inl (c1, 38, .inl (upd f_35 35 (f0 35)))), (q2, .inl (c2, 7, .inr (.inl f2))), (q3, .inl (c3, 7, .inr (.inl f3)))] H := hP
  have hD : va_D A [(q0, .inl (c0, 38, .inl f0)), (q1, .inl (c1, 38, .inl (upd f_35 35 (f0 35)))), (q2, .inl (c2, 7, .inr (.inl f2))), (q3, .inl (c3, 7, .inr (.inl f3)))] := hD
  generalize upd f_35 35 (f0 35) = f_36 at hP hD
  refine lv_iinc (v := 36) (lv' := [(4, .int 36), (0, .ref q0), (1, .ref q1), (2, .ref q2), (3, .ref q3)]) hx hb dX9_copyAll_18 hl (k := 0) rfl (by decide) (by decide) rfl (fun ls hl => ?_)
  refine lv_goto (tgt := 3) hx hb dX9_copyAll_21 (by decide) ?_
  refine lv_iload hx hb dX9_copyAll_3 (lv_at hl 0 rfl) ?_
  refine lv_bipush (v := 38) hx hb dX9_copyAll_5 (by decide) ?_
  refine lv_icmp_ge (tgt := 24) hx hb dX9_copyAll_7 (by decide) (fun c => absurd c (by decide)) (fun _ => ?_)
  refine lv_aload_n hx hb dX9_copyAll_10 rfl (lv_at hl 2 rfl) ?_
  refine lv_iload hx hb dX9_copyAll_11 (lv_at hl 0 rfl) ?_
  refine lv_aload_n hx hb dX9_copyAll_13 rfl (lv_at hl 1 rfl) ?_
  refine lv_iload hx hb dX9_copyAll_14 (lv_at hl 0 rfl) ?_
  refine va_iald hx hb hK hP 0 0 rfl rfl (vp_in_nI (n := 36) (by decide) (by decide)) dX9_copyAll_16 ?_
  refine pp_ti (y := f0 36) rfl ?_
  refine va_iast hx hb hK hP hD hS 1 1 rfl rfl (vp_in_nI (n := 36) (by decide) (by decide)) dX9_copyAll_17 (fun H locs hP hD hS => ?_)
  have hP : va_P (dC, dI) vwCl [(q0, .inl (c0, 38, .inl f0)), (q1, .inl (c1, 38, .inl (upd f_36 36 (f0 36)))), (q2, .inl (c2, 7, .inr (.inl f2))), (q3, .inl (c3, 7, .inr (.inl f3)))] H := hP
  have hD : va_D A [(q0, .inl (c0, 38, .inl f0)), (q1, .inl (c1, 38, .inl (upd f_36 36 (f0 36)))), (q2, .inl (c2, 7, .inr (.inl f2))), (q3, .inl (c3, 7, .inr (.inl f3)))] := hD
  generalize upd f_36 36 (f0 36) = f_37 at hP hD
  refine lv_iinc (v := 37) (lv' := [(4, .int 37), (0, .ref q0), (1, .ref q1), (2, .ref q2), (3, .ref q3)]) hx hb dX9_copyAll_18 hl (k := 0) rfl (by decide) (by decide) rfl (fun ls hl => ?_)
  refine lv_goto (tgt := 3) hx hb dX9_copyAll_21 (by decide) ?_
  refine lv_iload hx hb dX9_copyAll_3 (lv_at hl 0 rfl) ?_
  refine lv_bipush (v := 38) hx hb dX9_copyAll_5 (by decide) ?_
  refine lv_icmp_ge (tgt := 24) hx hb dX9_copyAll_7 (by decide) (fun c => absurd c (by decide)) (fun _ => ?_)
  refine lv_aload_n hx hb dX9_copyAll_10 rfl (lv_at hl 2 rfl) ?_
  refine lv_iload hx hb dX9_copyAll_11 (lv_at hl 0 rfl) ?_
  refine lv_aload_n hx hb dX9_copyAll_13 rfl (lv_at hl 1 rfl) ?_
  refine lv_iload hx hb dX9_copyAll_14 (lv_at hl 0 rfl) ?_
  refine va_iald hx hb hK hP 0 0 rfl rfl (vp_in_nI (n := 37) (by decide) (by decide)) dX9_copyAll_16 ?_
  refine pp_ti (y := f0 37) rfl ?_
  refine va_iast hx hb hK hP hD hS 1 1 rfl rfl (vp_in_nI (n := 37) (by decide) (by decide)) dX9_copyAll_17 (fun H locs hP hD hS => ?_)
  have hP : va_P (dC, dI) vwCl [(q0, .inl (c0, 38, .inl f0)), (q1, .inl (c1, 38, .inl (upd f_37 37 (f0 37)))), (q2, .inl (c2, 7, .inr (.inl f2))), (q3, .inl (c3, 7, .inr (.inl f3)))] H := hP
  have hD : va_D A [(q0, .inl (c0, 38, .inl f0)), (q1, .inl (c1, 38, .inl (upd f_37 37 (f0 37)))), (q2, .inl (c2, 7, .inr (.inl f2))), (q3, .inl (c3, 7, .inr (.inl f3)))] := hD
  generalize upd f_37 37 (f0 37) = f_38 at hP hD
  refine lv_iinc (v := 38) (lv' := [(4, .int 38), (0, .ref q0), (1, .ref q1), (2, .ref q2), (3, .ref q3)]) hx hb dX9_copyAll_18 hl (k := 0) rfl (by decide) (by decide) rfl (fun ls hl => ?_)
  refine lv_goto (tgt := 3) hx hb dX9_copyAll_21 (by decide) ?_
  refine lv_iload hx hb dX9_copyAll_3 (lv_at hl 0 rfl) ?_
  refine lv_bipush (v := 38) hx hb dX9_copyAll_5 (by decide) ?_
  refine lv_icmp_ge (tgt := 24) hx hb dX9_copyAll_7 (by decide) (fun _ => ?_) (fun c => absurd (by decide) c)
  refine lv_iconst (v := 0) hx hb dX9_copyAll_24 (by decide) ?_
  refine lv_istore (lv' := [(4, .int 0), (0, .ref q0), (1, .ref q1), (2, .ref q2), (3, .ref q3)]) hx hb dX9_copyAll_25 hl (by decide) rfl (fun ls hl => ?_)
  refine lv_iload hx hb dX9_copyAll_27 (lv_at hl 0 rfl) ?_
  refine lv_bipush (v := 7) hx hb dX9_copyAll_29 (by decide) ?_
  refine lv_icmp_ge (tgt := 48) hx hb dX9_copyAll_31 (by decide) (fun c => absurd c (by decide)) (fun _ => ?_)
  refine lv_aload_n hx hb dX9_copyAll_34 rfl (lv_at hl 4 rfl) ?_
  refine lv_iload hx hb dX9_copyAll_35 (lv_at hl 0 rfl) ?_
  refine lv_aload_n hx hb dX9_copyAll_37 rfl (lv_at hl 3 rfl) ?_
  refine lv_iload hx hb dX9_copyAll_38 (lv_at hl 0 rfl) ?_
  refine va_lald hx hb hK hP 2 2 rfl rfl (vp_in_nI (n := 0) (by decide) (by decide)) dX9_copyAll_40 ?_
  refine pp_tl (y := f2 0) rfl ?_
  refine va_last hx hb hK hP hD hS 3 3 rfl rfl (vp_in_nI (n := 0) (by decide) (by decide)) dX9_copyAll_41 (fun H locs hP hD hS => ?_)
  have hP : va_P (dC, dI) vwCl [(q0, .inl (c0, 38, .inl f0)), (q1, .inl (c1, 38, .inl f_38)), (q2, .inl (c2, 7, .inr (.inl f2))), (q3, .inl (c3, 7, .inr (.inl (vp_updL f3 0 (f2 0)))))] H := hP
  have hD : va_D A [(q0, .inl (c0, 38, .inl f0)), (q1, .inl (c1, 38, .inl f_38)), (q2, .inl (c2, 7, .inr (.inl f2))), (q3, .inl (c3, 7, .inr (.inl (vp_updL f3 0 (f2 0)))))] := hD
  generalize vp_updL f3 0 (f2 0) = f_39 at hP hD
  refine lv_iinc (v := 1) (lv' := [(4, .int 1), (0, .ref q0), (1, .ref q1), (2, .ref q2), (3, .ref q3)]) hx hb dX9_copyAll_42 hl (k := 0) rfl (by decide) (by decide) rfl (fun ls hl => ?_)
  refine lv_goto (tgt := 27) hx hb dX9_copyAll_45 (by decide) ?_
  refine lv_iload hx hb dX9_copyAll_27 (lv_at hl 0 rfl) ?_
  refine lv_bipush (v := 7) hx hb dX9_copyAll_29 (by decide) ?_
  refine lv_icmp_ge (tgt := 48) hx hb dX9_copyAll_31 (by decide) (fun c => absurd c (by decide)) (fun _ => ?_)
  refine lv_aload_n hx hb dX9_copyAll_34 rfl (lv_at hl 4 rfl) ?_
  refine lv_iload hx hb dX9_copyAll_35 (lv_at hl 0 rfl) ?_
  refine lv_aload_n hx hb dX9_copyAll_37 rfl (lv_at hl 3 rfl) ?_
  refine lv_iload hx hb dX9_copyAll_38 (lv_at hl 0 rfl) ?_
  refine va_lald hx hb hK hP 2 2 rfl rfl (vp_in_nI (n := 1) (by decide) (by decide)) dX9_copyAll_40 ?_
  refine pp_tl (y := f2 1) rfl ?_
  refine va_last hx hb hK hP hD hS 3 3 rfl rfl (vp_in_nI (n := 1) (by decide) (by decide)) dX9_copyAll_41 (fun H locs hP hD hS => ?_)
  have hP : va_P (dC, dI) vwCl [(q0, .inl (c0, 38, .inl f0)), (q1, .inl (c1, 38, .inl f_38)), (q2, .inl (c2, 7, .inr (.inl f2))), (q3, .inl (c3, 7, .inr (.inl (vp_updL f_39 1 (f2 1)))))] H := hP
  have hD : va_D A [(q0, .inl (c0, 38, .inl f0)), (q1, .inl (c1, 38, .inl f_38)), (q2, .inl (c2, 7, .inr (.inl f2))), (q3, .inl (c3, 7, .inr (.inl (vp_updL f_39 1 (f2 1)))))] := hD
  generalize vp_updL f_39 1 (f2 1) = f_40 at hP hD
  refine lv_iinc (v := 2) (lv' := [(4, .int 2), (0, .ref q0), (1, .ref q1), (2, .ref q2), (3, .ref q3)]) hx hb dX9_copyAll_42 hl (k := 0) rfl (by decide) (by decide) rfl (fun ls hl => ?_)
  refine lv_goto (tgt := 27) hx hb dX9_copyAll_45 (by decide) ?_
  refine lv_iload hx hb dX9_copyAll_27 (lv_at hl 0 rfl) ?_
  refine lv_bipush (v := 7) hx hb dX9_copyAll_29 (by decide) ?_
  refine lv_icmp_ge (tgt := 48) hx hb dX9_copyAll_31 (by decide) (fun c => absurd c (by decide)) (fun _ => ?_)
  refine lv_aload_n hx hb dX9_copyAll_34 rfl (lv_at hl 4 rfl) ?_
  refine lv_iload hx hb dX9_copyAll_35 (lv_at hl 0 rfl) ?_
  refine lv_aload_n hx hb dX9_copyAll_37 rfl (lv_at hl 3 rfl) ?_
  refine lv_iload hx hb dX9_copyAll_38 (lv_at hl 0 rfl) ?_
  refine va_lald hx hb hK hP 2 2 rfl rfl (vp_in_nI (n := 2) (by decide) (by decide)) dX9_copyAll_40 ?_
  refine pp_tl (y := f2 2) rfl ?_
  refine va_last hx hb hK hP hD hS 3 3 rfl rfl (vp_in_nI (n := 2) (by decide) (by decide)) dX9_copyAll_41 (fun H locs hP hD hS => ?_)
  have hP : va_P (dC, dI) vwCl [(q0, .inl (c0, 38, .inl f0)), (q1, .inl (c1, 38, .inl f_38)), (q2, .inl (c2, 7, .inr (.inl f2))), (q3, .inl (c3, 7, .inr (.inl (vp_updL f_40 2 (f2 2)))))] H := hP
  have hD : va_D A [(q0, .inl (c0, 38, .inl f0)), (q1, .inl (c1, 38, .inl f_38)), (q2, .inl (c2, 7, .inr (.inl f2))), (q3, .inl (c3, 7, .inr (.inl (vp_updL f_40 2 (f2 2)))))] := hD
  generalize vp_updL f_40 2 (f2 2) = f_41 at hP hD
  refine lv_iinc (v := 3) (lv' := [(4, .int 3), (0, .ref q0), (1, .ref q1), (2, .ref q2), (3, .ref q3)]) hx hb dX9_copyAll_42 hl (k := 0) rfl (by decide) (by decide) rfl (fun ls hl => ?_)
  refine lv_goto (tgt := 27) hx hb dX9_copyAll_45 (by decide) ?_
  refine lv_iload hx hb dX9_copyAll_27 (lv_at hl 0 rfl) ?_
  refine lv_bipush (v := 7) hx hb dX9_copyAll_29 (by decide) ?_
  refine lv_icmp_ge (tgt := 48) hx hb dX9_copyAll_31 (by decide) (fun c => absurd c (by decide)) (fun _ => ?_)
  refine lv_aload_n hx hb dX9_copyAll_34 rfl (lv_at hl 4 rfl) ?_
  refine lv_iload hx hb dX9_copyAll_35 (lv_at hl 0 rfl) ?_
  refine lv_aload_n hx hb dX9_copyAll_37 rfl (lv_at hl 3 rfl) ?_
  refine lv_iload hx hb dX9_copyAll_38 (lv_at hl 0 rfl) ?_
  refine va_lald hx hb hK hP 2 2 rfl rfl (vp_in_nI (n := 3) (by decide) (by decide)) dX9_copyAll_40 ?_
  refine pp_tl (y := f2 3) rfl ?_
  refine va_last hx hb hK hP hD hS 3 3 rfl rfl (vp_in_nI (n := 3) (by decide) (by decide)) dX9_copyAll_41 (fun H locs hP hD hS => ?_)
  have hP : va_P (dC, dI) vwCl [(q0, .inl (c0, 38, .inl f0)), (q1, .inl (c1, 38, .inl f_38)), (q2, .inl (c2, 7, .inr (.inl f2))), (q3, .inl (c3, 7, .inr (.inl (vp_updL f_41 3 (f2 3)))))] H := hP
  have hD : va_D A [(q0, .inl (c0, 38, .inl f0)), (q1, .inl (c1, 38, .inl f_38)), (q2, .inl (c2, 7, .inr (.inl f2))), (q3, .inl (c3, 7, .inr (.inl (vp_updL f_41 3 (f2 3)))))] := hD
  generalize vp_updL f_41 3 (f2 3) = f_42 at hP hD
  refine lv_iinc (v := 4) (lv' := [(4, .int 4), (0, .ref q0), (1, .ref q1), (2, .ref q2), (3, .ref q3)]) hx hb dX9_copyAll_42 hl (k := 0) rfl (by decide) (by decide) rfl (fun ls hl => ?_)
  refine lv_goto (tgt := 27) hx hb dX9_copyAll_45 (by decide) ?_
  refine lv_iload hx hb dX9_copyAll_27 (lv_at hl 0 rfl) ?_
  refine lv_bipush (v := 7) hx hb dX9_copyAll_29 (by decide) ?_
  refine lv_icmp_ge (tgt := 48) hx hb dX9_copyAll_31 (by decide) (fun c => absurd c (by decide)) (fun _ => ?_)
  refine lv_aload_n hx hb dX9_copyAll_34 rfl (lv_at hl 4 rfl) ?_
  refine lv_iload hx hb dX9_copyAll_35 (lv_at hl 0 rfl) ?_
  refine lv_aload_n hx hb dX9_copyAll_37 rfl (lv_at hl 3 rfl) ?_
  refine lv_iload hx hb dX9_copyAll_38 (lv_at hl 0 rfl) ?_
  refine va_lald hx hb hK hP 2 2 rfl rfl (vp_in_nI (n := 4) (by decide) (by decide)) dX9_copyAll_40 ?_
  refine pp_tl (y := f2 4) rfl ?_
  refine va_last hx hb hK hP hD hS 3 3 rfl rfl (vp_in_nI (n := 4) (by decide) (by decide)) dX9_copyAll_41 (fun H locs hP hD hS => ?_)
  have hP : va_P (dC, dI) vwCl [(q0, .inl (c0, 38, .inl f0)), (q1, .inl (c1, 38, .inl f_38)), (q2, .inl (c2, 7, .inr (.inl f2))), (q3, .inl (c3, 7, .inr (.inl (vp_updL f_42 4 (f2 4)))))] H := hP
  have hD : va_D A [(q0, .inl (c0, 38, .inl f0)), (q1, .inl (c1, 38, .inl f_38)), (q2, .inl (c2, 7, .inr (.inl f2))), (q3, .inl (c3, 7, .inr (.inl (vp_updL f_42 4 (f2 4)))))] := hD
  generalize vp_updL f_42 4 (f2 4) = f_43 at hP hD
  refine lv_iinc (v := 5) (lv' := [(4, .int 5), (0, .ref q0), (1, .ref q1), (2, .ref q2), (3, .ref q3)]) hx hb dX9_copyAll_42 hl (k := 0) rfl (by decide) (by decide) rfl (fun ls hl => ?_)
  refine lv_goto (tgt := 27) hx hb dX9_copyAll_45 (by decide) ?_
  refine lv_iload hx hb dX9_copyAll_27 (lv_at hl 0 rfl) ?_
  refine lv_bipush (v := 7) hx hb dX9_copyAll_29 (by decide) ?_
  refine lv_icmp_ge (tgt := 48) hx hb dX9_copyAll_31 (by decide) (fun c => absurd c (by decide)) (fun _ => ?_)
  refine lv_aload_n hx hb dX9_copyAll_34 rfl (lv_at hl 4 rfl) ?_
  refine lv_iload hx hb dX9_copyAll_35 (lv_at hl 0 rfl) ?_
  refine lv_aload_n hx hb dX9_copyAll_37 rfl (lv_at hl 3 rfl) ?_
  refine lv_iload hx hb dX9_copyAll_38 (lv_at hl 0 rfl) ?_
  refine va_lald hx hb hK hP 2 2 rfl rfl (vp_in_nI (n := 5) (by decide) (by decide)) dX9_copyAll_40 ?_
  refine pp_tl (y := f2 5) rfl ?_
  refine va_last hx hb hK hP hD hS 3 3 rfl rfl (vp_in_nI (n := 5) (by decide) (by decide)) dX9_copyAll_41 (fun H locs hP hD hS => ?_)
  have hP : va_P (dC, dI) vwCl [(q0, .inl (c0, 38, .inl f0)), (q1, .inl (c1, 38, .inl f_38)), (q2, .inl (c2, 7, .inr (.inl f2))), (q3, .inl (c3, 7, .inr (.inl (vp_updL f_43 5 (f2 5)))))] H := hP
  have hD : va_D A [(q0, .inl (c0, 38, .inl f0)), (q1, .inl (c1, 38, .inl f_38)), (q2, .inl (c2, 7, .inr (.inl f2))), (q3, .inl (c3, 7, .inr (.inl (vp_updL f_43 5 (f2 5)))))] := hD
  generalize vp_updL f_43 5 (f2 5) = f_44 at hP hD
  refine lv_iinc (v := 6) (lv' := [(4, .int 6), (0, .ref q0), (1, .ref q1), (2, .ref q2), (3, .ref q3)]) hx hb dX9_copyAll_42 hl (k := 0) rfl (by decide) (by decide) rfl (fun ls hl => ?_)
  refine lv_goto (tgt := 27) hx hb dX9_copyAll_45 (by decide) ?_
  refine lv_iload hx hb dX9_copyAll_27 (lv_at hl 0 rfl) ?_
  refine lv_bipush (v := 7) hx hb dX9_copyAll_29 (by decide) ?_
  refine lv_icmp_ge (tgt := 48) hx hb dX9_copyAll_31 (by decide) (fun c => absurd c (by decide)) (fun _ => ?_)
  refine lv_aload_n hx hb dX9_copyAll_34 rfl (lv_at hl 4 rfl) ?_
  refine lv_iload hx hb dX9_copyAll_35 (lv_at hl 0 rfl) ?_
  refine lv_aload_n hx hb dX9_copyAll_37 rfl (lv_at hl 3 rfl) ?_
  refine lv_iload hx hb dX9_copyAll_38 (lv_at hl 0 rfl) ?_
  refine va_lald hx hb hK hP 2 2 rfl rfl (vp_in_nI (n := 6) (by decide) (by decide)) dX9_copyAll_40 ?_
  refine pp_tl (y := f2 6) rfl ?_
  refine va_last hx hb hK hP hD hS 3 3 rfl rfl (vp_in_nI (n := 6) (by decide) (by decide)) dX9_copyAll_41 (fun H locs hP hD hS => ?_)
  have hP : va_P (dC, dI) vwCl [(q0, .inl (c0, 38, .inl f0)), (q1, .inl (c1, 38, .inl f_38)), (q2, .inl (c2, 7, .inr (.inl f2))), (q3, .inl (c3, 7, .inr (.inl (vp_updL f_44 6 (f2 6)))))] H := hP
  have hD : va_D A [(q0, .inl (c0, 38, .inl f0)), (q1, .inl (c1, 38, .inl f_38)), (q2, .inl (c2, 7, .inr (.inl f2))), (q3, .inl (c3, 7, .inr (.inl (vp_updL f_44 6 (f2 6)))))] := hD
  generalize vp_updL f_44 6 (f2 6) = f_45 at hP hD
  refine lv_iinc (v := 7) (lv' := [(4, .int 7), (0, .ref q0), (1, .ref q1), (2, .ref q2), (3, .ref q3)]) hx hb dX9_copyAll_42 hl (k := 0) rfl (by decide) (by decide) rfl (fun ls hl => ?_)
  refine lv_goto (tgt := 27) hx hb dX9_copyAll_45 (by decide) ?_
  refine lv_iload hx hb dX9_copyAll_27 (lv_at hl 0 rfl) ?_
  refine lv_bipush (v := 7) hx hb dX9_copyAll_29 (by decide) ?_
  refine lv_icmp_ge (tgt := 48) hx hb dX9_copyAll_31 (by decide) (fun _ => ?_) (fun c => absurd (by decide) c)
  exact W.vret hx hb hr (fun t ht hW => ⟨⟨(), rfl, trivial, trivial⟩, hS.F ht⟩) hS.2.2 dX9_copyAll_48

