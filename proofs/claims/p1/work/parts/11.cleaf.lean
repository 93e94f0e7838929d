def w_c_find_beyond : List Cond := .code yX8_finding cX8_finding 3 (some .int) :: (([.constant RX8 62 (-1000000001), .fieldLink RX8 46 "LampShapes" "told" "[I"] : List Cond) ++ wsX80)
set_option maxHeartbeats 4000000 in
set_option maxRecDepth 100000 in
/-- finding(BEYOND) -/
theorem c_find_beyond (l : Launch) (dC : Nat → ClassId) (dI : Nat → Nat → Nat) (ad : Nat → Nat) (h0 : Nat) (v0 : Value) (v1 : Value) (v2 : Value) (v3 : Value) (v4 : Value) (v5 : Value) (t0 : Nat) (v7 : Value) (tc : ClassId) (tf : Nat → Int32) (sz : Nat) : Met l yX8_finding w_c_find_beyond ({ frames := 0, cells := 0, slots := 0, locals := 0 } : Room) (va_Pc [.ref h0, .int (-1000000001)] (preM dC dI ad [(tc, .int)] [(h0, .inr (6, [v0, v1, v2, v3, v4, v5, .ref t0, v7])), (t0, .inl (tc, 7, .inl tf))] sz)) (va_Qi (fun (r : Int32) (_ : Unit) => (r = (-1000000001))) (fun _ _ => True) (va_A [(h0, .inr (6, [v0, v1, v2, v3, v4, v5, .ref t0, v7])), (t0, .inl (tc, 7, .inl tf))] sz)) 0 0 (va_A [(h0, .inr (6, [v0, v1, v2, v3, v4, v5, .ref t0, v7])), (t0, .inl (tc, 7, .inl tf))] sz) := by
  refine Met.ofW (cc := cX8_finding) (maxL := 3) (ret := (some .int)) (by decide) rfl ?_
  intro p e s m args below meth c s₁ B hml hv
  obtain ⟨rfl, hsz, hP, hK, hD0, hev⟩ := hv
  have hx := B.exec
  have hb := B.bytes
  have hr := B.returns
  have hts := atoms_spec (ws := w_c_find_beyond) B.pre
  have hown : s.vm.findClass RX8 = some m.cls := findClass_of_methodNamed B.named
  have hlocks := B.notSynchronized
  have inX8 : ∀ w ∈ wsX80, w ∈ w_c_find_beyond := fun w h => List.mem_cons_of_mem _ (List.mem_append_right _ h)
  subst hsz
  have hD := hD0.self (sz := s.heap.size)
  generalize hAe : va_A [(h0, .inr (6, [v0, v1, v2, v3, v4, v5, .ref t0, v7])), (t0, .inl (tc, 7, .inl tf))] s.heap.size = A at hD ⊢
  have hA : ∀ q : Nat, s.heap.size ≤ q → A q := fun q h => by rw [← hAe]; exact Or.inr h
  have hS : va_S A s.heap s.heap [] := va_S.rf
  have hP : va_P (dC, dI) vwCl [(h0, .inr (6, [v0, v1, v2, v3, v4, v5, .ref t0, v7])), (t0, .inl (tc, 7, .inl tf))] s.heap := hP
  have hl := lv_entry ([.ref h0, .int (-1000000001)]) (n := 3) (Nat.le_of_ble_eq_true rfl)
  rw [lg_entry_eq]
  generalize (lg_sl ([.ref h0, .int (-1000000001)]) ++ List.replicate (3 - (lg_sl ([.ref h0, .int (-1000000001)])).length) Slot.unset).toArray = ls at hl ⊢
  have hl : lv_has ls 3 [(0, .ref h0), (1, .int (-1000000001))] := hl
  refine lv_ldc hx hb hown (hts _ (List.mem_of_getElem? (i := 1) rfl)) dX8_finding_0 ?_
  refine lv_iload_n hx hb dX8_finding_2 rfl (lv_at hl 1 rfl) ?_
  refine lv_isub hx hb dX8_finding_3 ?_
  refine pp_ti (y := 0) (by decide) ?_
  refine lv_istore_n (lv' := [(2, .int 0), (0, .ref h0), (1, .int (-1000000001))]) hx hb dX8_finding_4 rfl hl (by decide) rfl (fun ls hl => ?_)
  refine lv_iload_n hx hb dX8_finding_5 rfl (lv_at hl 0 rfl) ?_
  refine lv_if_lt (tgt := 25) hx hb dX8_finding_6 (by decide) (fun c => absurd c (by decide)) (fun _ => ?_)
  refine lv_iload_n hx hb dX8_finding_9 rfl (lv_at hl 0 rfl) ?_
  refine lv_bipush (v := 7) hx hb dX8_finding_10 (by decide) ?_
  refine lv_icmp_ge (tgt := 25) hx hb dX8_finding_12 (by decide) (fun c => absurd c (by decide)) (fun _ => ?_)
  refine lv_aload_n hx hb dX8_finding_15 rfl (lv_at hl 1 rfl) ?_
  refine va_get (D := (dC, dI)) (ci := 6) (v := .ref t0) (C := RX8) (T := TX8) (N := 8) hx hb hts inX8 hown hK hP 0 rfl rfl 6 (by decide) (hts _ (List.mem_of_getElem? (i := 2) rfl)) (fun _ h9 => h9) rfl dX8_finding_16 ?_
  refine lv_iload_n hx hb dX8_finding_19 rfl (lv_at hl 0 rfl) ?_
  refine lv_dup2_11 hx hb dX8_finding_20 rfl rfl ?_
  refine va_iald hx hb hK hP 1 0 rfl rfl (vp_in_nI (n := 0) (by decide) (by decide)) dX8_finding_21 ?_
  refine pp_ti (y := tf 0) rfl ?_
  refine lv_iconst (v := 1) hx hb dX8_finding_22 (by decide) ?_
  refine lv_iadd hx hb dX8_finding_23 ?_
  refine va_iast hx hb hK hP hD hS 1 0 rfl rfl (vp_in_nI (n := 0) (by decide) (by decide)) dX8_finding_24 (fun H locs hP hD hS => ?_)
  have hP : va_P (dC, dI) vwCl [(h0, .inr (6, [v0, v1, v2, v3, v4, v5, .ref t0, v7])), (t0, .inl (tc, 7, .inl (upd tf 0 ((tf 0) + 1))))] H := hP
  have hD : va_D A [(h0, .inr (6, [v0, v1, v2, v3, v4, v5, .ref t0, v7])), (t0, .inl (tc, 7, .inl (upd tf 0 ((tf 0) + 1))))] := hD
  refine lv_iload_n hx hb dX8_finding_25 rfl (lv_at hl 2 rfl) ?_
  exact W.iret (v := (-1000000001)) hx hb hr (fun t ht hW => ⟨⟨(-1000000001), (), rfl, rfl, trivial⟩, hS.F ht⟩) hS.2.2 dX8_finding_26

def w_c_find_none : List Cond := .code yX8_finding cX8_finding 3 (some .int) :: (([.constant RX8 62 (-1000000001), .fieldLink RX8 46 "LampShapes" "told" "[I"] : List Cond) ++ wsX80)
set_option maxHeartbeats 4000000 in
set_option maxRecDepth 100000 in
/-- finding(NONE) -/
theorem c_find_none (l : Launch) (dC : Nat → ClassId) (dI : Nat → Nat → Nat) (ad : Nat → Nat) (h0 : Nat) (v0 : Value) (v1 : Value) (v2 : Value) (v3 : Value) (v4 : Value) (v5 : Value) (t0 : Nat) (v7 : Value) (tc : ClassId) (tf : Nat → Int32) (sz : Nat) : Met l yX8_finding w_c_find_none ({ frames := 0, cells := 0, slots := 0, locals := 0 } : Room) (va_Pc [.ref h0, .int (-1000000004)] (preM dC dI ad [(tc, .int)] [(h0, .inr (6, [v0, v1, v2, v3, v4, v5, .ref t0, v7])), (t0, .inl (tc, 7, .inl tf))] sz)) (va_Qi (fun (r : Int32) (_ : Unit) => (r = (-1000000004))) (fun _ _ => True) (va_A [(h0, .inr (6, [v0, v1, v2, v3, v4, v5, .ref t0, v7])), (t0, .inl (tc, 7, .inl tf))] sz)) 0 0 (va_A [(h0, .inr (6, [v0, v1, v2, v3, v4, v5, .ref t0, v7])), (t0, .inl (tc, 7, .inl tf))] sz) := by
  refine Met.ofW (cc := cX8_finding) (maxL := 3) (ret := (some .int)) (by decide) rfl ?_
  intro p e s m args below meth c s₁ B hml hv
  obtain ⟨rfl, hsz, hP, hK, hD0, hev⟩ := hv
  have hx := B.exec
  have hb := B.bytes
  have hr := B.returns
  have hts := atoms_spec (ws := w_c_find_none) B.pre
  have hown : s.vm.findClass RX8 = some m.cls := findClass_of_methodNamed B.named
  have hlocks := B.notSynchronized
  have inX8 : ∀ w ∈ wsX80, w ∈ w_c_find_none := fun w h => List.mem_cons_of_mem _ (List.mem_append_right _ h)
  subst hsz
  have hD := hD0.self (sz := s.heap.size)
  generalize hAe : va_A [(h0, .inr (6, [v0, v1, v2, v3, v4, v5, .ref t0, v7])), (t0, .inl (tc, 7, .inl tf))] s.heap.size = A at hD ⊢
  have hA : ∀ q : Nat, s.heap.size ≤ q → A q := fun q h => by rw [← hAe]; exact Or.inr h
  have hS : va_S A s.heap s.heap [] := va_S.rf
  have hP : va_P (dC, dI) vwCl [(h0, .inr (6, [v0, v1, v2, v3, v4, v5, .ref t0, v7])), (t0, .inl (tc, 7, .inl tf))] s.heap := hP
  have hl := lv_entry ([.ref h0, .int (-1000000004)]) (n := 3) (Nat.le_of_ble_eq_true rfl)
  rw [lg_entry_eq]
  generalize (lg_sl ([.ref h0, .int (-1000000004)]) ++ List.replicate (3 - (lg_sl ([.ref h0, .int (-1000000004)])).length) Slot.unset).toArray = ls at hl ⊢
  have hl : lv_has ls 3 [(0, .ref h0), (1, .int (-1000000004))] := hl
  refine lv_ldc hx hb hown (hts _ (List.mem_of_getElem? (i := 1) rfl)) dX8_finding_0 ?_
  refine lv_iload_n hx hb dX8_finding_2 rfl (lv_at hl 1 rfl) ?_
  refine lv_isub hx hb dX8_finding_3 ?_
  refine pp_ti (y := 3) (by decide) ?_
  refine lv_istore_n (lv' := [(2, .int 3), (0, .ref h0), (1, .int (-1000000004))]) hx hb dX8_finding_4 rfl hl (by decide) rfl (fun ls hl => ?_)
  refine lv_iload_n hx hb dX8_finding_5 rfl (lv_at hl 0 rfl) ?_
  refine lv_if_lt (tgt := 25) hx hb dX8_finding_6 (by decide) (fun c => absurd c (by decide)) (fun _ => ?_)
  refine lv_iload_n hx hb dX8_finding_9 rfl (lv_at hl 0 rfl) ?_
  refine lv_bipush (v := 7) hx hb dX8_finding_10 (by decide) ?_
  refine lv_icmp_ge (tgt := 25) hx hb dX8_finding_12 (by decide) (fun c => absurd c (by decide)) (fun _ => ?_)
  refine lv_aload_n hx hb dX8_finding_15 rfl (lv_at hl 1 rfl) ?_
  refine va_get (D := (dC, dI)) (ci := 6) (v := .ref t0) (C := RX8) (T := TX8) (N := 8) hx hb hts inX8 hown hK hP 0 rfl rfl 6 (by decide) (hts _ (List.mem_of_getElem? (i := 2) rfl)) (fun _ h9 => h9) rfl dX8_finding_16 ?_
  refine lv_iload_n hx hb dX8_finding_19 rfl (lv_at hl 0 rfl) ?_
  refine lv_dup2_11 hx hb dX8_finding_20 rfl rfl ?_
  refine va_iald hx hb hK hP 1 0 rfl rfl (vp_in_nI (n := 3) (by decide) (by decide)) dX8_finding_21 ?_
  refine pp_ti (y := tf 3) rfl ?_
  refine lv_iconst (v := 1) hx hb dX8_finding_22 (by decide) ?_
  refine lv_iadd hx hb dX8_finding_23 ?_
  refine va_iast hx hb hK hP hD hS 1 0 rfl rfl (vp_in_nI (n := 3) (by decide) (by decide)) dX8_finding_24 (fun H locs hP hD hS => ?_)
  have hP : va_P (dC, dI) vwCl [(h0, .inr (6, [v0, v1, v2, v3, v4, v5, .ref t0, v7])), (t0, .inl (tc, 7, .inl (upd tf 3 ((tf 3) + 1))))] H := hP
  have hD : va_D A [(h0, .inr (6, [v0, v1, v2, v3, v4, v5, .ref t0, v7])), (t0, .inl (tc, 7, .inl (upd tf 3 ((tf 3) + 1))))] := hD
  refine lv_iload_n hx hb dX8_finding_25 rfl (lv_at hl 2 rfl) ?_
  exact W.iret (v := (-1000000004)) hx hb hr (fun t ht hW => ⟨⟨(-1000000004), (), rfl, rfl, trivial⟩, hS.F ht⟩) hS.2.2 dX8_finding_26

def w_c_find_missing : List Cond := .code yX8_finding cX8_finding 3 (some .int) :: (([.constant RX8 62 (-1000000001), .fieldLink RX8 46 "LampShapes" "told" "[I"] : List Cond) ++ wsX80)
set_option maxHeartbeats 4000000 in
set_option maxRecDepth 100000 in
/-- finding(MISSING) -/
theorem c_find_missing (l : Launch) (dC : Nat → ClassId) (dI : Nat → Nat → Nat) (ad : Nat → Nat) (h0 : Nat) (v0 : Value) (v1 : Value) (v2 : Value) (v3 : Value) (v4 : Value) (v5 : Value) (t0 : Nat) (v7 : Value) (tc : ClassId) (tf : Nat → Int32) (sz : Nat) : Met l yX8_finding w_c_find_missing ({ frames := 0, cells := 0, slots := 0, locals := 0 } : Room) (va_Pc [.ref h0, .int (-1000000006)] (preM dC dI ad [(tc, .int)] [(h0, .inr (6, [v0, v1, v2, v3, v4, v5, .ref t0, v7])), (t0, .inl (tc, 7, .inl tf))] sz)) (va_Qi (fun (r : Int32) (_ : Unit) => (r = (-1000000006))) (fun _ _ => True) (va_A [(h0, .inr (6, [v0, v1, v2, v3, v4, v5, .ref t0, v7])), (t0, .inl (tc, 7, .inl tf))] sz)) 0 0 (va_A [(h0, .inr (6, [v0, v1, v2, v3, v4, v5, .ref t0, v7])), (t0, .inl (tc, 7, .inl tf))] sz) := by
  refine Met.ofW (cc := cX8_finding) (maxL := 3) (ret := (some .int)) (by decide) rfl ?_
  intro p e s m args below meth c s₁ B hml hv
  obtain ⟨rfl, hsz, hP, hK, hD0, hev⟩ := hv
  have hx := B.exec
  have hb := B.bytes
  have hr := B.returns
  have hts := atoms_spec (ws := w_c_find_missing) B.pre
  have hown : s.vm.findClass RX8 = some m.cls := findClass_of_methodNamed B.named
  have hlocks := B.notSynchronized
  have inX8 : ∀ w ∈ wsX80, w ∈ w_c_find_missing := fun w h => List.mem_cons_of_mem _ (List.mem_append_right _ h)
  subst hsz
  have hD := hD0.self (sz := s.heap.size)
  generalize hAe : va_A [(h0, .inr (6, [v0, v1, v2, v3, v4, v5, .ref t0, v7])), (t0, .inl (tc, 7, .inl tf))] s.heap.size = A at hD ⊢
  have hA : ∀ q : Nat, s.heap.size ≤ q → A q := fun q h => by rw [← hAe]; exact Or.inr h
  have hS : va_S A s.heap s.heap [] := va_S.rf
  have hP : va_P (dC, dI) vwCl [(h0, .inr (6, [v0, v1, v2, v3, v4, v5, .ref t0, v7])), (t0, .inl (tc, 7, .inl tf))] s.heap := hP
  have hl := lv_entry ([.ref h0, .int (-1000000006)]) (n := 3) (Nat.le_of_ble_eq_true rfl)
  rw [lg_entry_eq]
  generalize (lg_sl ([.ref h0, .int (-1000000006)]) ++ List.replicate (3 - (lg_sl ([.ref h0, .int (-1000000006)])).length) Slot.unset).toArray = ls at hl ⊢
  have hl : lv_has ls 3 [(0, .ref h0), (1, .int (-1000000006))] := hl
  refine lv_ldc hx hb hown (hts _ (List.mem_of_getElem? (i := 1) rfl)) dX8_finding_0 ?_
  refine lv_iload_n hx hb dX8_finding_2 rfl (lv_at hl 1 rfl) ?_
  refine lv_isub hx hb dX8_finding_3 ?_
  refine pp_ti (y := 5) (by decide) ?_
  refine lv_istore_n (lv' := [(2, .int 5), (0, .ref h0), (1, .int (-1000000006))]) hx hb dX8_finding_4 rfl hl (by decide) rfl (fun ls hl => ?_)
  refine lv_iload_n hx hb dX8_finding_5 rfl (lv_at hl 0 rfl) ?_
  refine lv_if_lt (tgt := 25) hx hb dX8_finding_6 (by decide) (fun c => absurd c (by decide)) (fun _ => ?_)
  refine lv_iload_n hx hb dX8_finding_9 rfl (lv_at hl 0 rfl) ?_
  refine lv_bipush (v := 7) hx hb dX8_finding_10 (by decide) ?_
  refine lv_icmp_ge (tgt := 25) hx hb dX8_finding_12 (by decide) (fun c => absurd c (by decide)) (fun _ => ?_)
  refine lv_aload_n hx hb dX8_finding_15 rfl (lv_at hl 1 rfl) ?_
  refine va_get (D := (dC, dI)) (ci := 6) (v := .ref t0) (C := RX8) (T := TX8) (N := 8) hx hb hts inX8 hown hK hP 0 rfl rfl 6 (by decide) (hts _ (List.mem_of_getElem? (i := 2) rfl)) (fun _ h9 => h9) rfl dX8_finding_16 ?_
  refine lv_iload_n hx hb dX8_finding_19 rfl (lv_at hl 0 rfl) ?_
  refine lv_dup2_11 hx hb dX8_finding_20 rfl rfl ?_
  refine va_iald hx hb hK hP 1 0 rfl rfl (vp_in_nI (n := 5) (by decide) (by decide)) dX8_finding_21 ?_
  refine pp_ti (y := tf 5) rfl ?_
  refine lv_iconst (v := 1) hx hb dX8_finding_22 (by decide) ?_
  refine lv_iadd hx hb dX8_finding_23 ?_
  refine va_iast hx hb hK hP hD hS 1 0 rfl rfl (vp_in_nI (n := 5) (by decide) (by decide)) dX8_finding_24 (fun H locs hP hD hS => ?_)
  have hP : va_P (dC, dI) vwCl [(h0, .inr (6, [v0, v1, v2, v3, v4, v5, .ref t0, v7])), (t0, .inl (tc, 7, .inl (upd tf 5 ((tf 5) + 1))))] H := hP
  have hD : va_D A [(h0, .inr (6, [v0, v1, v2, v3, v4, v5, .ref t0, v7])), (t0, .inl (tc, 7, .inl (upd tf 5 ((tf 5) + 1))))] := hD
  refine lv_iload_n hx hb dX8_finding_25 rfl (lv_at hl 2 rfl) ?_
  exact W.iret (v := (-1000000006)) hx hb hr (fun t ht hW => ⟨⟨(-1000000006), (), rfl, rfl, trivial⟩, hS.F ht⟩) hS.2.2 dX8_finding_26

def w_c_find_size : List Cond := .code yX8_finding cX8_finding 3 (some .int) :: (([.constant RX8 62 (-1000000001), .fieldLink RX8 46 "LampShapes" "told" "[I"] : List Cond) ++ wsX80)
set_option maxHeartbeats 4000000 in
set_option maxRecDepth 100000 in
/-- finding(SIZE) -/
theorem c_find_size (l : Launch) (dC : Nat → ClassId) (dI : Nat → Nat → Nat) (ad : Nat → Nat) (h0 : Nat) (v0 : Value) (v1 : Value) (v2 : Value) (v3 : Value) (v4 : Value) (v5 : Value) (t0 : Nat) (v7 : Value) (tc : ClassId) (tf : Nat → Int32) (sz : Nat) : Met l yX8_finding w_c_find_size ({ frames := 0, cells := 0, slots := 0, locals := 0 } : Room) (va_Pc [.ref h0, .int (-1000000007)] (preM dC dI ad [(tc, .int)] [(h0, .inr (6, [v0, v1, v2, v3, v4, v5, .ref t0, v7])), (t0, .inl (tc, 7, .inl tf))] sz)) (va_Qi (fun (r : Int32) (_ : Unit) => (r = (-1000000007))) (fun _ _ => True) (va_A [(h0, .inr (6, [v0, v1, v2, v3, v4, v5, .ref t0, v7])), (t0, .inl (tc, 7, .inl tf))] sz)) 0 0 (va_A [(h0, .inr (6, [v0, v1, v2, v3, v4, v5, .ref t0, v7])), (t0, .inl (tc, 7, .inl tf))] sz) := by
  refine Met.ofW (cc := cX8_finding) (maxL := 3) (ret := (some .int)) (by decide) rfl ?_
  intro p e s m args below meth c s₁ B hml hv
  obtain ⟨rfl, hsz, hP, hK, hD0, hev⟩ := hv
  have hx := B.exec
  have hb := B.bytes
  have hr := B.returns
  have hts := atoms_spec (ws := w_c_find_size) B.pre
  have hown : s.vm.findClass RX8 = some m.cls := findClass_of_methodNamed B.named
  have hlocks := B.notSynchronized
  have inX8 : ∀ w ∈ wsX80, w ∈ w_c_find_size := fun w h => List.mem_cons_of_mem _ (List.mem_append_right _ h)
  subst hsz
  have hD := hD0.self (sz := s.heap.size)
  generalize hAe : va_A [(h0, .inr (6, [v0, v1, v2, v3, v4, v5, .ref t0, v7])), (t0, .inl (tc, 7, .inl tf))] s.heap.size = A at hD ⊢
  have hA : ∀ q : Nat, s.heap.size ≤ q → A q := fun q h => by rw [← hAe]; exact Or.inr h
  have hS : va_S A s.heap s.heap [] := va_S.rf
  have hP : va_P (dC, dI) vwCl [(h0, .inr (6, [v0, v1, v2, v3, v4, v5, .ref t0, v7])), (t0, .inl (tc, 7, .inl tf))] s.heap := hP
  have hl := lv_entry ([.ref h0, .int (-1000000007)]) (n := 3) (Nat.le_of_ble_eq_true rfl)
  rw [lg_entry_eq]
  generalize (lg_sl ([.ref h0, .int (-1000000007)]) ++ List.replicate (3 - (lg_sl ([.ref h0, .int (-1000000007)])).length) Slot.unset).toArray = ls at hl ⊢
  have hl : lv_has ls 3 [(0, .ref h0), (1, .int (-1000000007))] := hl
  refine lv_ldc hx hb hown (hts _ (List.mem_of_getElem? (i := 1) rfl)) dX8_finding_0 ?_
  refine lv_iload_n hx hb dX8_finding_2 rfl (lv_at hl 1 rfl) ?_
  refine lv_isub hx hb dX8_finding_3 ?_
  refine pp_ti (y := 6) (by decide) ?_
  refine lv_istore_n (lv' := [(2, .int 6), (0, .ref h0), (1, .int (-1000000007))]) hx hb dX8_finding_4 rfl hl (by decide) rfl (fun ls hl => ?_)
  refine lv_iload_n hx hb dX8_finding_5 rfl (lv_at hl 0 rfl) ?_
  refine lv_if_lt (tgt := 25) hx hb dX8_finding_6 (by decide) (fun c => absurd c (by decide)) (fun _ => ?_)
  refine lv_iload_n hx hb dX8_finding_9 rfl (lv_at hl 0 rfl) ?_
  refine lv_bipush (v := 7) hx hb dX8_finding_10 (by decide) ?_
  refine lv_icmp_ge (tgt := 25) hx hb dX8_finding_12 (by decide) (fun c => absurd c (by decide)) (fun _ => ?_)
  refine lv_aload_n hx hb dX8_finding_15 rfl (lv_at hl 1 rfl) ?_
  refine va_get (D := (dC, dI)) (ci := 6) (v := .ref t0) (C := RX8) (T := TX8) (N := 8) hx hb hts inX8 hown hK hP 0 rfl rfl 6 (by decide) (hts _ (List.mem_of_getElem? (i := 2) rfl)) (fun _ h9 => h9) rfl dX8_finding_16 ?_
  refine lv_iload_n hx hb dX8_finding_19 rfl (lv_at hl 0 rfl) ?_
  refine lv_dup2_11 hx hb dX8_finding_20 rfl rfl ?_
  refine va_iald hx hb hK hP 1 0 rfl rfl (vp_in_nI (n := 6) (by decide) (by decide)) dX8_finding_21 ?_
  refine pp_ti (y := tf 6) rfl ?_
  refine lv_iconst (v := 1) hx hb dX8_finding_22 (by decide) ?_
  refine lv_iadd hx hb dX8_finding_23 ?_
  refine va_iast hx hb hK hP hD hS 1 0 rfl rfl (vp_in_nI (n := 6) (by decide) (by decide)) dX8_finding_24 (fun H locs hP hD hS => ?_)
  have hP : va_P (dC, dI) vwCl [(h0, .inr (6, [v0, v1, v2, v3, v4, v5, .ref t0, v7])), (t0, .inl (tc, 7, .inl (upd tf 6 ((tf 6) + 1))))] H := hP
  have hD : va_D A [(h0, .inr (6, [v0, v1, v2, v3, v4, v5, .ref t0, v7])), (t0, .inl (tc, 7, .inl (upd tf 6 ((tf 6) + 1))))] := hD
  refine lv_iload_n hx hb dX8_finding_25 rfl (lv_at hl 2 rfl) ?_
  exact W.iret (v := (-1000000007)) hx hb hr (fun t ht hW => ⟨⟨(-1000000007), (), rfl, rfl, trivial⟩, hS.F ht⟩) hS.2.2 dX8_finding_26

def w_c_isKind : List Cond := .code yX8_isKind cX8_isKind 1 (some .boolean) :: (([] : List Cond))
set_option maxHeartbeats 4000000 in
set_option maxRecDepth 100000 in
theorem c_isKind (l : Launch) (dC : Nat → ClassId) (dI : Nat → Nat → Nat) (ad : Nat → Nat) (k : Int32) : Met l yX8_isKind w_c_isKind ({ frames := 0, cells := 0, slots := 0, locals := 0 } : Room) (va_Pc [.int k] (preS dC dI ad [] [])) (vp_Si (fun r => ((0 ≤ k ∧ k ≤ 5) → r = 1) ∧ (¬ (0 ≤ k ∧ k ≤ 5) → r = 0))) 0 0 (fun _ => False) := by
  refine Met.ofW (cc := cX8_isKind) (maxL := 1) (ret := (some .boolean)) (by decide) rfl ?_
  intro p e s m args below meth c s₁ B hml hv
  obtain ⟨rfl, hP, hK, hev⟩ := hv
  have hx := B.exec
  have hb := B.bytes
  have hr := B.returns
  have hts := atoms_spec (ws := w_c_isKind) B.pre
  have hown : s.vm.findClass RX8 = some m.cls := findClass_of_methodNamed B.named
  have hlocks := B.notSynchronized
  have hP : va_P (dC, dI) vwCl [] s.heap := hP
  have hl := lv_entry ([.int k]) (n := 1) (Nat.le_of_ble_eq_true rfl)
  rw [lg_entry_eq]
  generalize (lg_sl ([.int k]) ++ List.replicate (1 - (lg_sl ([.int k])).length) Slot.unset).toArray = ls at hl ⊢
  have hl : lv_has ls 1 [(0, .int k)] := hl
  refine lv_iload_n hx hb dX8_isKind_0 rfl (lv_at hl 0 rfl) ?_
  refine lv_if_lt (tgt := 14) hx hb dX8_isKind_1 (by decide) (fun c_1 => ?_) (fun c_1 => ?_)
  · skip
    refine lv_iconst (v := 0) hx hb dX8_isKind_14 (by decide) ?_
    exact W.zret (v := 0) hx hb hr (by decide) (fun t ht hW => ⟨0, rfl, ⟨(fun h => (by first | rfl | (exfalso; simp only [fa_lt, fa_le, fa_eq, and_true, true_and, and_false, false_and, not_true_eq_false, not_false_eq_true, li_0, li_1, li_2, li_3, li_4, li_5, li_6, li_7, li_8, li_9, li_10, li_12, li_15, li_16, li_20, li_30, li_34, li_38, li_40, li_63, li_64, li_65, li_78, li_120, li_1000, li_4000, li_10000, li_11077, li_255, li_65535, li_m1, li_m2, li_m1000000001, li_m1000000002, li_m1000000003, li_m1000000004, li_m1000000005, li_m1000000006, li_m1000000007] at c_1 h <;> omega) | (simp only [fa_lt, fa_le, fa_eq, and_true, true_and, and_false, false_and, not_true_eq_false, not_false_eq_true, li_0, li_1, li_2, li_3, li_4, li_5, li_6, li_7, li_8, li_9, li_10, li_12, li_15, li_16, li_20, li_30, li_34, li_38, li_40, li_63, li_64, li_65, li_78, li_120, li_1000, li_4000, li_10000, li_11077, li_255, li_65535, li_m1, li_m2, li_m1000000001, li_m1000000002, li_m1000000003, li_m1000000004, li_m1000000005, li_m1000000006, li_m1000000007] at c_1 h ⊢ <;> omega))), (fun g0 => rfl)⟩, ht⟩) (fun _ h => absurd h List.not_mem_nil) dX8_isKind_15
  · skip
    refine lv_iload_n hx hb dX8_isKind_4 rfl (lv_at hl 0 rfl) ?_
    refine lv_bipush (v := 6) hx hb dX8_isKind_5 (by decide) ?_
    refine lv_icmp_ge (tgt := 14) hx hb dX8_isKind_7 (by decide) (fun c_2 => ?_) (fun c_2 => ?_)
    · skip
      refine lv_iconst (v := 0) hx hb dX8_isKind_14 (by decide) ?_
      exact W.zret (v := 0) hx hb hr (by decide) (fun t ht hW => ⟨0, rfl, ⟨(fun h => (by first | rfl | (exfalso; simp only [fa_lt, fa_le, fa_eq, and_true, true_and, and_false, false_and, not_true_eq_false, not_false_eq_true, li_0, li_1, li_2, li_3, li_4, li_5, li_6, li_7, li_8, li_9, li_10, li_12, li_15, li_16, li_20, li_30, li_34, li_38, li_40, li_63, li_64, li_65, li_78, li_120, li_1000, li_4000, li_10000, li_11077, li_255, li_65535, li_m1, li_m2, li_m1000000001, li_m1000000002, li_m1000000003, li_m1000000004, li_m1000000005, li_m1000000006, li_m1000000007] at c_1 c_2 h <;> omega) | (simp only [fa_lt, fa_le, fa_eq, and_true, true_and, and_false, false_and, not_true_eq_false, not_false_eq_true, li_0, li_1, li_2, li_3, li_4, li_5, li_6, li_7, li_8, li_9, li_10, li_12, li_15, li_16, li_20, li_30, li_34, li_38, li_40, li_63, li_64, li_65, li_78, li_120, li_1000, li_4000, li_10000, li_11077, li_255, li_65535, li_m1, li_m2, li_m1000000001, li_m1000000002, li_m1000000003, li_m1000000004, li_m1000000005, li_m1000000006, li_m1000000007] at c_1 c_2 h ⊢ <;> omega))), (fun g0 => rfl)⟩, ht⟩) (fun _ h => absurd h List.not_mem_nil) dX8_isKind_15
    · skip
      refine lv_iconst (v := 1) hx hb dX8_isKind_10 (by decide) ?_
      refine lv_goto (tgt := 15) hx hb dX8_isKind_11 (by decide) ?_
      exact W.zret (v := 1) hx hb hr (by decide) (fun t ht hW => ⟨1, rfl, ⟨(fun h => rfl), (fun g0 => (by first | rfl | (exfalso; simp only [fa_lt, fa_le, fa_eq, and_true, true_and, and_false, false_and, not_true_eq_false, not_false_eq_true, li_0, li_1, li_2, li_3, li_4, li_5, li_6, li_7, li_8, li_9, li_10, li_12, li_15, li_16, li_20, li_30, li_34, li_38, li_40, li_63, li_64, li_65, li_78, li_120, li_1000, li_4000, li_10000, li_11077, li_255, li_65535, li_m1, li_m2, li_m1000000001, li_m1000000002, li_m1000000003, li_m1000000004, li_m1000000005, li_m1000000006, li_m1000000007] at c_1 c_2 g0 <;> omega) | (simp only [fa_lt, fa_le, fa_eq, and_true, true_and, and_false, false_and, not_true_eq_false, not_false_eq_true, li_0, li_1, li_2, li_3, li_4, li_5, li_6, li_7, li_8, li_9, li_10, li_12, li_15, li_16, li_20, li_30, li_34, li_38, li_40, li_63, li_64, li_65, li_78, li_120, li_1000, li_4000, li_10000, li_11077, li_255, li_65535, li_m1, li_m2, li_m1000000001, li_m1000000002, li_m1000000003, li_m1000000004, li_m1000000005, li_m1000000006, li_m1000000007] at c_1 c_2 g0 ⊢ <;> omega)))⟩, ht⟩) (fun _ h => absurd h List.not_mem_nil) dX8_isKind_15

def w_c_isPoints : List Cond := .code yX8_isPoints cX8_isPoints 1 (some .boolean) :: (([.constant RX8 307 (65535)] : List Cond))
set_option maxHeartbeats 4000000 in
set_option maxRecDepth 100000 in
theorem c_isPoints (l : Launch) (dC : Nat → ClassId) (dI : Nat → Nat → Nat) (ad : Nat → Nat) (k : Int32) : Met l yX8_isPoints w_c_isPoints ({ frames := 0, cells := 0, slots := 0, locals := 0 } : Room) (va_Pc [.int k] (preS dC dI ad [] [])) (vp_Si (fun r => ((0 ≤ k ∧ k ≤ 65535) → r = 1) ∧ (¬ (0 ≤ k ∧ k ≤ 65535) → r = 0))) 0 0 (fun _ => False) := by
  refine Met.ofW (cc := cX8_isPoints) (maxL := 1) (ret := (some .boolean)) (by decide) rfl ?_
  intro p e s m args below meth c s₁ B hml hv
  obtain ⟨rfl, hP, hK, hev⟩ := hv
  have hx := B.exec
  have hb := B.bytes
  have hr := B.returns
  have hts := atoms_spec (ws := w_c_isPoints) B.pre
  have hown : s.vm.findClass RX8 = some m.cls := findClass_of_methodNamed B.named
  have hlocks := B.notSynchronized
  have hP : va_P (dC, dI) vwCl [] s.heap := hP
  have hl := lv_entry ([.int k]) (n := 1) (Nat.le_of_ble_eq_true rfl)
  rw [lg_entry_eq]
  generalize (lg_sl ([.int k]) ++ List.replicate (1 - (lg_sl ([.int k])).length) Slot.unset).toArray = ls at hl ⊢
  have hl : lv_has ls 1 [(0, .int k)] := hl
  refine lv_iload_n hx hb dX8_isPoints_0 rfl (lv_at hl 0 rfl) ?_
  refine lv_if_lt (tgt := 15) hx hb dX8_isPoints_1 (by decide) (fun c_1 => ?_) (fun c_1 => ?_)
  · skip
    refine lv_iconst (v := 0) hx hb dX8_isPoints_15 (by decide) ?_
    exact W.zret (v := 0) hx hb hr (by decide) (fun t ht hW => ⟨0, rfl, ⟨(fun h => (by first | rfl | (exfalso; simp only [fa_lt, fa_le, fa_eq, and_true, true_and, and_false, false_and, not_true_eq_false, not_false_eq_true, li_0, li_1, li_2, li_3, li_4, li_5, li_6, li_7, li_8, li_9, li_10, li_12, li_15, li_16, li_20, li_30, li_34, li_38, li_40, li_63, li_64, li_65, li_78, li_120, li_1000, li_4000, li_10000, li_11077, li_255, li_65535, li_m1, li_m2, li_m1000000001, li_m1000000002, li_m1000000003, li_m1000000004, li_m1000000005, li_m1000000006, li_m1000000007] at c_1 h <;> omega) | (simp only [fa_lt, fa_le, fa_eq, and_true, true_and, and_false, false_and, not_true_eq_false, not_false_eq_true, li_0, li_1, li_2, li_3, li_4, li_5, li_6, li_7, li_8, li_9, li_10, li_12, li_15, li_16, li_20, li_30, li_34, li_38, li_40, li_63, li_64, li_65, li_78, li_120, li_1000, li_4000, li_10000, li_11077, li_255, li_65535, li_m1, li_m2, li_m1000000001, li_m1000000002, li_m1000000003, li_m1000000004, li_m1000000005, li_m1000000006, li_m1000000007] at c_1 h ⊢ <;> omega))), (fun g0 => rfl)⟩, ht⟩) (fun _ h => absurd h List.not_mem_nil) dX8_isPoints_16
  · skip
    refine lv_iload_n hx hb dX8_isPoints_4 rfl (lv_at hl 0 rfl) ?_
    refine lv_ldcw hx hb hown (hts _ (List.mem_of_getElem? (i := 1) rfl)) dX8_isPoints_5 ?_
    refine lv_icmp_gt (tgt := 15) hx hb dX8_isPoints_8 (by decide) (fun c_2 => ?_) (fun c_2 => ?_)
    · skip
      refine lv_iconst (v := 0) hx hb dX8_isPoints_15 (by decide) ?_
      exact W.zret (v := 0) hx hb hr (by decide) (fun t ht hW => ⟨0, rfl, ⟨(fun h => (by first | rfl | (exfalso; simp only [fa_lt, fa_le, fa_eq, and_true, true_and, and_false, false_and, not_true_eq_false, not_false_eq_true, li_0, li_1, li_2, li_3, li_4, li_5, li_6, li_7, li_8, li_9, li_10, li_12, li_15, li_16, li_20, li_30, li_34, li_38, li_40, li_63, li_64, li_65, li_78, li_120, li_1000, li_4000, li_10000, li_11077, li_255, li_65535, li_m1, li_m2, li_m1000000001, li_m1000000002, li_m1000000003, li_m1000000004, li_m1000000005, li_m1000000006, li_m1000000007] at c_1 c_2 h <;> omega) | (simp only [fa_lt, fa_le, fa_eq, and_true, true_and, and_false, false_and, not_true_eq_false, not_false_eq_true, li_0, li_1, li_2, li_3, li_4, li_5, li_6, li_7, li_8, li_9, li_10, li_12, li_15, li_16, li_20, li_30, li_34, li_38, li_40, li_63, li_64, li_65, li_78, li_120, li_1000, li_4000, li_10000, li_11077, li_255, li_65535, li_m1, li_m2, li_m1000000001, li_m1000000002, li_m1000000003, li_m1000000004, li_m1000000005, li_m1000000006, li_m1000000007] at c_1 c_2 h ⊢ <;> omega))), (fun g0 => rfl)⟩, ht⟩) (fun _ h => absurd h List.not_mem_nil) dX8_isPoints_16
    · skip
      refine lv_iconst (v := 1) hx hb dX8_isPoints_11 (by decide) ?_
      refine lv_goto (tgt := 16) hx hb dX8_isPoints_12 (by decide) ?_
      exact W.zret (v := 1) hx hb hr (by decide) (fun t ht hW => ⟨1, rfl, ⟨(fun h => rfl), (fun g0 => (by first | rfl | (exfalso; simp only [fa_lt, fa_le, fa_eq, and_true, true_and, and_false, false_and, not_true_eq_false, not_false_eq_true, li_0, li_1, li_2, li_3, li_4, li_5, li_6, li_7, li_8, li_9, li_10, li_12, li_15, li_16, li_20, li_30, li_34, li_38, li_40, li_63, li_64, li_65, li_78, li_120, li_1000, li_4000, li_10000, li_11077, li_255, li_65535, li_m1, li_m2, li_m1000000001, li_m1000000002, li_m1000000003, li_m1000000004, li_m1000000005, li_m1000000006, li_m1000000007] at c_1 c_2 g0 <;> omega) | (simp only [fa_lt, fa_le, fa_eq, and_true, true_and, and_false, false_and, not_true_eq_false, not_false_eq_true, li_0, li_1, li_2, li_3, li_4, li_5, li_6, li_7, li_8, li_9, li_10, li_12, li_15, li_16, li_20, li_30, li_34, li_38, li_40, li_63, li_64, li_65, li_78, li_120, li_1000, li_4000, li_10000, li_11077, li_255, li_65535, li_m1, li_m2, li_m1000000001, li_m1000000002, li_m1000000003, li_m1000000004, li_m1000000005, li_m1000000006, li_m1000000007] at c_1 c_2 g0 ⊢ <;> omega)))⟩, ht⟩) (fun _ h => absurd h List.not_mem_nil) dX8_isPoints_16

def w_c_isWidth : List Cond := .code yX8_isWidth cX8_isWidth 1 (some .boolean) :: (([] : List Cond))
set_option maxHeartbeats 4000000 in
set_option maxRecDepth 100000 in
theorem c_isWidth (l : Launch) (dC : Nat → ClassId) (dI : Nat → Nat → Nat) (ad : Nat → Nat) (k : Int32) : Met l yX8_isWidth w_c_isWidth ({ frames := 0, cells := 0, slots := 0, locals := 0 } : Room) (va_Pc [.int k] (preS dC dI ad [] [])) (vp_Si (fun r => ((k = 0) → r = 1) ∧ (¬ (k = 0) → (k = 8) → r = 1) ∧ (¬ (k = 0) → ¬ (k = 8) → (k = 16) → r = 1) ∧ (¬ (k = 0) → ¬ (k = 8) → ¬ (k = 16) → (k = 64) → r = 1) ∧ (¬ (k = 0) → ¬ (k = 8) → ¬ (k = 16) → ¬ (k = 64) → r = 0))) 0 0 (fun _ => False) := by
  refine Met.ofW (cc := cX8_isWidth) (maxL := 1) (ret := (some .boolean)) (by decide) rfl ?_
  intro p e s m args below meth c s₁ B hml hv
  obtain ⟨rfl, hP, hK, hev⟩ := hv
  have hx := B.exec
  have hb := B.bytes
  have hr := B.returns
  have hts := atoms_spec (ws := w_c_isWidth) B.pre
  have hown : s.vm.findClass RX8 = some m.cls := findClass_of_methodNamed B.named
  have hlocks := B.notSynchronized
  have hP : va_P (dC, dI) vwCl [] s.heap := hP
  have hl := lv_entry ([.int k]) (n := 1) (Nat.le_of_ble_eq_true rfl)
  rw [lg_entry_eq]
  generalize (lg_sl ([.int k]) ++ List.replicate (1 - (lg_sl ([.int k])).length) Slot.unset).toArray = ls at hl ⊢
  have hl : lv_has ls 1 [(0, .int k)] := hl
  refine lv_iload_n hx hb dX8_isWidth_0 rfl (lv_at hl 0 rfl) ?_
  refine lv_if_eq (tgt := 22) hx hb dX8_isWidth_1 (by decide) (fun c_1 => ?_) (fun c_1 => ?_)
  · skip
    refine lv_iconst (v := 1) hx hb dX8_isWidth_22 (by decide) ?_
    refine lv_goto (tgt := 27) hx hb dX8_isWidth_23 (by decide) ?_
    exact W.zret (v := 1) hx hb hr (by decide) (fun t ht hW => ⟨1, rfl, ⟨(fun h => rfl), (fun g0 h => rfl), (fun g0 g1 h => rfl), (fun g0 g1 g2 h => rfl), (fun g0 g1 g2 g3 => (by first | rfl | (exfalso; simp only [fa_lt, fa_le, fa_eq, and_true, true_and, and_false, false_and, not_true_eq_false, not_false_eq_true, li_0, li_1, li_2, li_3, li_4, li_5, li_6, li_7, li_8, li_9, li_10, li_12, li_15, li_16, li_20, li_30, li_34, li_38, li_40, li_63, li_64, li_65, li_78, li_120, li_1000, li_4000, li_10000, li_11077, li_255, li_65535, li_m1, li_m2, li_m1000000001, li_m1000000002, li_m1000000003, li_m1000000004, li_m1000000005, li_m1000000006, li_m1000000007] at c_1 g0 g1 g2 g3 <;> omega) | (simp only [fa_lt, fa_le, fa_eq, and_true, true_and, and_false, false_and, not_true_eq_false, not_false_eq_true, li_0, li_1, li_2, li_3, li_4, li_5, li_6, li_7, li_8, li_9, li_10, li_12, li_15, li_16, li_20, li_30, li_34, li_38, li_40, li_63, li_64, li_65, li_78, li_120, li_1000, li_4000, li_10000, li_11077, li_255, li_65535, li_m1, li_m2, li_m1000000001, li_m1000000002, li_m1000000003, li_m1000000004, li_m1000000005, li_m1000000006, li_m1000000007] at c_1 g0 g1 g2 g3 ⊢ <;> omega)))⟩, ht⟩) (fun _ h => absurd h List.not_mem_nil) dX8_isWidth_27
  · skip
    refine lv_iload_n hx hb dX8_isWidth_4 rfl (lv_at hl 0 rfl) ?_
    refine lv_bipush (v := 8) hx hb dX8_isWidth_5 (by decide) ?_
    refine lv_icmp_eq (tgt := 22) hx hb dX8_isWidth_7 (by decide) (fun c_2 => ?_) (fun c_2 => ?_)
    · skip
      refine lv_iconst (v := 1) hx hb dX8_isWidth_22 (by decide) ?_
      refine lv_goto (tgt := 27) hx hb dX8_isWidth_23 (by decide) ?_
      exact W.zret (v := 1) hx hb hr (by decide) (fun t ht hW => ⟨1, rfl, ⟨(fun h => rfl), (fun g0 h => rfl), (fun g0 g1 h => rfl), (fun g0 g1 g2 h => rfl), (fun g0 g1 g2 g3 => (by first | rfl | (exfalso; simp only [fa_lt, fa_le, fa_eq, and_true, true_and, and_false, false_and, not_true_eq_false, not_false_eq_true, li_0, li_1, li_2, li_3, li_4, li_5, li_6, li_7, li_8, li_9, li_10, li_12, li_15, li_16, li_20, li_30, li_34, li_38, li_40, li_63, li_64, li_65, li_78, li_120, li_1000, li_4000, li_10000, li_11077, li_255, li_65535, li_m1, li_m2, li_m1000000001, li_m1000000002, li_m1000000003, li_m1000000004, li_m1000000005, li_m1000000006, li_m1000000007] at c_1 c_2 g0 g1 g2 g3 <;> omega) | (simp only [fa_lt, fa_le, fa_eq, and_true, true_and, and_false, false_and, not_true_eq_false, not_false_eq_true, li_0, li_1, li_2, li_3, li_4, li_5, li_6, li_7, li_8, li_9, li_10, li_12, li_15, li_16, li_20, li_30, li_34, li_38, li_40, li_63, li_64, li_65, li_78, li_120, li_1000, li_4000, li_10000, li_11077, li_255, li_65535, li_m1, li_m2, li_m1000000001, li_m1000000002, li_m1000000003, li_m1000000004, li_m1000000005, li_m1000000006, li_m1000000007] at c_1 c_2 g0 g1 g2 g3 ⊢ <;> omega)))⟩, ht⟩) (fun _ h => absurd h List.not_mem_nil) dX8_isWidth_27
    · skip
      refine lv_iload_n hx hb dX8_isWidth_10 rfl (lv_at hl 0 rfl) ?_
      refine lv_bipush (v := 16) hx hb dX8_isWidth_11 (by decide) ?_
      refine lv_icmp_eq (tgt := 22) hx hb dX8_isWidth_13 (by decide) (fun c_3 => ?_) (fun c_3 => ?_)
      · skip
        refine lv_iconst (v := 1) hx hb dX8_isWidth_22 (by decide) ?_
        refine lv_goto (tgt := 27) hx hb dX8_isWidth_23 (by decide) ?_
        exact W.zret (v := 1) hx hb hr (by decide) (fun t ht hW => ⟨1, rfl, ⟨(fun h => rfl), (fun g0 h => rfl), (fun g0 g1 h => rfl), (fun g0 g1 g2 h => rfl), (fun g0 g1 g2 g3 => (by first | rfl | (exfalso; simp only [fa_lt, fa_le, fa_eq, and_true, true_and, and_false, false_and, not_true_eq_false, not_false_eq_true, li_0, li_1, li_2, li_3, li_4, li_5, li_6, li_7, li_8, li_9, li_10, li_12, li_15, li_16, li_20, li_30, li_34, li_38, li_40, li_63, li_64, li_65, li_78, li_120, li_1000, li_4000, li_10000, li_11077, li_255, li_65535, li_m1, li_m2, li_m1000000001, li_m1000000002, li_m1000000003, li_m1000000004, li_m1000000005, li_m1000000006, li_m1000000007] at c_1 c_2 c_3 g0 g1 g2 g3 <;> omega) | (simp only [fa_lt, fa_le, fa_eq, and_true, true_and, and_false, false_and, not_true_eq_false, not_false_eq_true, li_0, li_1, li_2, li_3, li_4, li_5, li_6, li_7, li_8, li_9, li_10, li_12, li_15, li_16, li_20, li_30, li_34, li_38, li_40, li_63, li_64, li_65, li_78, li_120, li_1000, li_4000, li_10000, li_11077, li_255, li_65535, li_m1, li_m2, li_m1000000001, li_m1000000002, li_m1000000003, li_m1000000004, li_m1000000005, li_m1000000006, li_m1000000007] at c_1 c_2 c_3 g0 g1 g2 g3 ⊢ <;> omega)))⟩, ht⟩) (fun _ h => absurd h List.not_mem_nil) dX8_isWidth_27
      · skip
        refine lv_iload_n hx hb dX8_isWidth_16 rfl (lv_at hl 0 rfl) ?_
        refine lv_bipush (v := 64) hx hb dX8_isWidth_17 (by decide) ?_
        refine lv_icmp_ne (tgt := 26) hx hb dX8_isWidth_19 (by decide) (fun c_4 => ?_) (fun c_4 => ?_)
        · skip
          refine lv_iconst (v := 0) hx hb dX8_isWidth_26 (by decide) ?_
          exact W.zret (v := 0) hx hb hr (by decide) (fun t ht hW => ⟨0, rfl, ⟨(fun h => (by first | rfl | (exfalso; simp only [fa_lt, fa_le, fa_eq, and_true, true_and, and_false, false_and, not_true_eq_false, not_false_eq_true, li_0, li_1, li_2, li_3, li_4, li_5, li_6, li_7, li_8, li_9, li_10, li_12, li_15, li_16, li_20, li_30, li_34, li_38, li_40, li_63, li_64, li_65, li_78, li_120, li_1000, li_4000, li_10000, li_11077, li_255, li_65535, li_m1, li_m2, li_m1000000001, li_m1000000002, li_m1000000003, li_m1000000004, li_m1000000005, li_m1000000006, li_m1000000007] at c_1 c_2 c_3 c_4 h <;> omega) | (simp only [fa_lt, fa_le, fa_eq, and_true, true_and, and_false, false_and, not_true_eq_false, not_false_eq_true, li_0, li_1, li_2, li_3, li_4, li_5, li_6, li_7, li_8, li_9, li_10, li_12, li_15, li_16, li_20, li_30, li_34, li_38, li_40, li_63, li_64, li_65, li_78, li_120, li_1000, li_4000, li_10000, li_11077, li_255, li_65535, li_m1, li_m2, li_m1000000001, li_m1000000002, li_m1000000003, li_m1000000004, li_m1000000005, li_m1000000006, li_m1000000007] at c_1 c_2 c_3 c_4 h ⊢ <;> omega))), (fun g0 h => (by first | rfl | (exfalso; simp only [fa_lt, fa_le, fa_eq, and_true, true_and, and_false, false_and, not_true_eq_false, not_false_eq_true, li_0, li_1, li_2, li_3, li_4, li_5, li_6, li_7, li_8, li_9, li_10, li_12, li_15, li_16, li_20, li_30, li_34, li_38, li_40, li_63, li_64, li_65, li_78, li_120, li_1000, li_4000, li_10000, li_11077, li_255, li_65535, li_m1, li_m2, li_m1000000001, li_m1000000002, li_m1000000003, li_m1000000004, li_m1000000005, li_m1000000006, li_m1000000007] at c_1 c_2 c_3 c_4 g0 h <;> omega) | (simp only [fa_lt, fa_le, fa_eq, and_true, true_and, and_false, false_and, not_true_eq_false, not_false_eq_true, li_0, li_1, li_2, li_3, li_4, li_5, li_6, li_7, li_8, li_9, li_10, li_12, li_15, li_16, li_20, li_30, li_34, li_38, li_40, li_63, li_64, li_65, li_78, li_120, li_1000, li_4000, li_10000, li_11077, li_255, li_65535, li_m1, li_m2, li_m1000000001, li_m1000000002, li_m1000000003, li_m1000000004, li_m1000000005, li_m1000000006, li_m1000000007] at c_1 c_2 c_3 c_4 g0 h ⊢ <;> omega))), (fun g0 g1 h => (by first | rfl | (exfalso; simp only [fa_lt, fa_le, fa_eq, and_true, true_and, and_false, false_and, not_true_eq_false, not_false_eq_true, li_0, li_1, li_2, li_3, li_4, li_5, li_6, li_7, li_8, li_9, li_10, li_12, li_15, li_16, li_20, li_30, li_34, li_38, li_40, li_63, li_64, li_65, li_78, li_120, li_1000, li_4000, li_10000, li_11077, li_255, li_65535, li_m1, li_m2, li_m1000000001, li_m1000000002, li_m1000000003, li_m1000000004, li_m1000000005, li_m1000000006, li_m1000000007] at c_1 c_2 c_3 c_4 g0 g1 h <;> omega) | (simp only [fa_lt, fa_le, fa_eq, and_true, true_and, and_false, false_and, not_true_eq_false, not_false_eq_true, li_0, li_1, li_2, li_3, li_4, li_5, li_6, li_7, li_8, li_9, li_10, li_12, li_15, li_16, li_20, li_30, li_34, li_38, li_40, li_63, li_64, li_65, li_78, li_120, li_1000, li_4000, li_10000, li_11077, li_255, li_65535, li_m1, li_m2, li_m1000000001, li_m1000000002, li_m1000000003, li_m1000000004, li_m1000000005, li_m1000000006, li_m1000000007] at c_1 c_2 c_3 c_4 g0 g1 h ⊢ <;> omega))), (fun g0 g1 g2 h => (by first | rfl | (exfalso; simp only [fa_lt, fa_le, fa_eq, and_true, true_and, and_false, false_and, not_true_eq_false, not_false_eq_true, li_0, li_1, li_2, li_3, li_4, li_5, li_6, li_7, li_8, li_9, li_10, li_12, li_15, li_16, li_20, li_30, li_34, li_38, li_40, li_63, li_64, li_65, li_78, li_120, li_1000, li_4000, li_10000, li_11077, li_255, li_65535, li_m1, li_m2, li_m1000000001, li_m1000000002, li_m1000000003, li_m1000000004, li_m1000000005, li_m1000000006, li_m1000000007] at c_1 c_2 c_3 c_4 g0 g1 g2 h <;> omega) | (simp only [fa_lt, fa_le, fa_eq, and_true, true_and, and_false, false_and, not_true_eq_false, not_false_eq_true, li_0, li_1, li_2, li_3, li_4, li_5, li_6, li_7, li_8, li_9, li_10, li_12, li_15, li_16, li_20, li_30, li_34, li_38, li_40, li_63, li_64, li_65, li_78, li_120, li_1000, li_4000, li_10000, li_11077, li_255, li_65535, li_m1, li_m2, li_m1000000001, li_m1000000002, li_m1000000003, li_m1000000004, li_m1000000005, li_m1000000006, li_m1000000007] at c_1 c_2 c_3 c_4 g0 g1 g2 h ⊢ <;> omega))), (fun g0 g1 g2 g3 => rfl)⟩, ht⟩) (fun _ h => absurd h List.not_mem_nil) dX8_isWidth_27
        · skip
          refine lv_iconst (v := 1) hx hb dX8_isWidth_22 (by decide) ?_
          refine lv_goto (tgt := 27) hx hb dX8_isWidth_23 (by decide) ?_
          exact W.zret (v := 1) hx hb hr (by decide) (fun t ht hW => ⟨1, rfl, ⟨(fun h => rfl), (fun g0 h => rfl), (fun g0 g1 h => rfl), (fun g0 g1 g2 h => rfl), (fun g0 g1 g2 g3 => (by first | rfl | (exfalso; simp only [fa_lt, fa_le, fa_eq, and_true, true_and, and_false, false_and, not_true_eq_false, not_false_eq_true, li_0, li_1, li_2, li_3, li_4, li_5, li_6, li_7, li_8, li_9, li_10, li_12, li_15, li_16, li_20, li_30, li_34, li_38, li_40, li_63, li_64, li_65, li_78, li_120, li_1000, li_4000, li_10000, li_11077, li_255, li_65535, li_m1, li_m2, li_m1000000001, li_m1000000002, li_m1000000003, li_m1000000004, li_m1000000005, li_m1000000006, li_m1000000007] at c_1 c_2 c_3 c_4 g0 g1 g2 g3 <;> omega) | (simp only [fa_lt, fa_le, fa_eq, and_true, true_and, and_false, false_and, not_true_eq_false, not_false_eq_true, li_0, li_1, li_2, li_3, li_4, li_5, li_6, li_7, li_8, li_9, li_10, li_12, li_15, li_16, li_20, li_30, li_34, li_38, li_40, li_63, li_64, li_65, li_78, li_120, li_1000, li_4000, li_10000, li_11077, li_255, li_65535, li_m1, li_m2, li_m1000000001, li_m1000000002, li_m1000000003, li_m1000000004, li_m1000000005, li_m1000000006, li_m1000000007] at c_1 c_2 c_3 c_4 g0 g1 g2 g3 ⊢ <;> omega)))⟩, ht⟩) (fun _ h => absurd h List.not_mem_nil) dX8_isWidth_27

def w_c_hasShape : List Cond := .code yX6_hasShape cX6_hasShape 2 (some .boolean) :: (([.fieldLink RX6 9 "LampShapes$Stage" "shapes" "I"] : List Cond) ++ wsX60)
set_option maxHeartbeats 4000000 in
set_option maxRecDepth 100000 in
theorem c_hasShape (l : Launch) (dC : Nat → ClassId) (dI : Nat → Nat → Nat) (ad : Nat → Nat) (h0 : Nat) (k : Int32) (w1 : Value) (w2 : Value) (w3 : Value) (w4 : Value) (w5 : Value) (w6 : Value) (w7 : Value) (w8 : Value) : Met l yX6_hasShape w_c_hasShape ({ frames := 0, cells := 0, slots := 0, locals := 0 } : Room) (va_Pc [.ref h0, .int k] (preS dC dI ad [] [(h0, .inr (4, [.int 0, w1, w2, w3, w4, w5, w6, w7, w8]))])) (vp_Si (fun r => (r = 0))) 0 0 (fun _ => False) := by
  refine Met.ofW (cc := cX6_hasShape) (maxL := 2) (ret := (some .boolean)) (by decide) rfl ?_
  intro p e s m args below meth c s₁ B hml hv
  obtain ⟨rfl, hP, hK, hev⟩ := hv
  have hx := B.exec
  have hb := B.bytes
  have hr := B.returns
  have hts := atoms_spec (ws := w_c_hasShape) B.pre
  have hown : s.vm.findClass RX6 = some m.cls := findClass_of_methodNamed B.named
  have hlocks := B.notSynchronized
  have inX6 : ∀ w ∈ wsX60, w ∈ w_c_hasShape := fun w h => List.mem_cons_of_mem _ (List.mem_append_right _ h)
  have hP : va_P (dC, dI) vwCl [(h0, .inr (4, [.int 0, w1, w2, w3, w4, w5, w6, w7, w8]))] s.heap := hP
  have hl := lv_entry ([.ref h0, .int k]) (n := 2) (Nat.le_of_ble_eq_true rfl)
  rw [lg_entry_eq]
  generalize (lg_sl ([.ref h0, .int k]) ++ List.replicate (2 - (lg_sl ([.ref h0, .int k])).length) Slot.unset).toArray = ls at hl ⊢
  have hl : lv_has ls 2 [(0, .ref h0), (1, .int k)] := hl
  refine lv_iload_n hx hb dX6_hasShape_0 rfl (lv_at hl 1 rfl) ?_
  refine lv_if_lt (tgt := 16) hx hb dX6_hasShape_1 (by decide) (fun c_1 => ?_) (fun c_1 => ?_)
  · skip
    refine lv_iconst (v := 0) hx hb dX6_hasShape_16 (by decide) ?_
    exact W.zret (v := 0) hx hb hr (by decide) (fun t ht hW => ⟨0, rfl, rfl, ht⟩) (fun _ h => absurd h List.not_mem_nil) dX6_hasShape_17
  · skip
    refine lv_iload_n hx hb dX6_hasShape_4 rfl (lv_at hl 1 rfl) ?_
    refine lv_aload_n hx hb dX6_hasShape_5 rfl (lv_at hl 0 rfl) ?_
    refine va_get (D := (dC, dI)) (ci := 4) (v := .int 0) (C := RX6) (T := TX6) (N := 9) hx hb hts inX6 hown hK hP 0 rfl rfl 0 (by decide) (hts _ (List.mem_of_getElem? (i := 1) rfl)) (fun _ h9 => h9) rfl dX6_hasShape_6 ?_
    refine lv_icmp_ge (tgt := 16) hx hb dX6_hasShape_9 (by decide) (fun c_2 => ?_) (fun c_2 => ?_)
    · skip
      refine lv_iconst (v := 0) hx hb dX6_hasShape_16 (by decide) ?_
      exact W.zret (v := 0) hx hb hr (by decide) (fun t ht hW => ⟨0, rfl, rfl, ht⟩) (fun _ h => absurd h List.not_mem_nil) dX6_hasShape_17
    · skip
      exfalso; simp only [fa_lt, fa_le, fa_eq, and_true, true_and, and_false, false_and, not_true_eq_false, not_false_eq_true, li_0, li_1, li_2, li_3, li_4, li_5, li_6, li_7, li_8, li_9, li_10, li_12, li_15, li_16, li_20, li_30, li_34, li_38, li_40, li_63, li_64, li_65, li_78, li_120, li_1000, li_4000, li_10000, li_11077, li_255, li_65535, li_m1, li_m2, li_m1000000001, li_m1000000002, li_m1000000003, li_m1000000004, li_m1000000005, li_m1000000006, li_m1000000007] at c_1 c_2 <;> omega

def w_c_hasRoomForShape : List Cond := .code yX6_hasRoomForShape cX6_hasRoomForShape 1 (some .boolean) :: (([.fieldLink RX6 9 "LampShapes$Stage" "shapes" "I"] : List Cond) ++ wsX60)
set_option maxHeartbeats 4000000 in
set_option maxRecDepth 100000 in
theorem c_hasRoomForShape (l : Launch) (dC : Nat → ClassId) (dI : Nat → Nat → Nat) (ad : Nat → Nat) (h0 : Nat) (w1 : Value) (w2 : Value) (w3 : Value) (w4 : Value) (w5 : Value) (w6 : Value) (w7 : Value) (w8 : Value) : Met l yX6_hasRoomForShape w_c_hasRoomForShape ({ frames := 0, cells := 0, slots := 0, locals := 0 } : Room) (va_Pc [.ref h0] (preS dC dI ad [] [(h0, .inr (4, [.int 0, w1, w2, w3, w4, w5, w6, w7, w8]))])) (vp_Si (fun r => (r = 1))) 0 0 (fun _ => False) := by
  refine Met.ofW (cc := cX6_hasRoomForShape) (maxL := 1) (ret := (some .boolean)) (by decide) rfl ?_
  intro p e s m args below meth c s₁ B hml hv
  obtain ⟨rfl, hP, hK, hev⟩ := hv
  have hx := B.exec
  have hb := B.bytes
  have hr := B.returns
  have hts := atoms_spec (ws := w_c_hasRoomForShape) B.pre
  have hown : s.vm.findClass RX6 = some m.cls := findClass_of_methodNamed B.named
  have hlocks := B.notSynchronized
  have inX6 : ∀ w ∈ wsX60, w ∈ w_c_hasRoomForShape := fun w h => List.mem_cons_of_mem _ (List.mem_append_right _ h)
  have hP : va_P (dC, dI) vwCl [(h0, .inr (4, [.int 0, w1, w2, w3, w4, w5, w6, w7, w8]))] s.heap := hP
  have hl := lv_entry ([.ref h0]) (n := 1) (Nat.le_of_ble_eq_true rfl)
  rw [lg_entry_eq]
  generalize (lg_sl ([.ref h0]) ++ List.replicate (1 - (lg_sl ([.ref h0])).length) Slot.unset).toArray = ls at hl ⊢
  have hl : lv_has ls 1 [(0, .ref h0)] := hl
  refine lv_aload_n hx hb dX6_hasRoomForShape_0 rfl (lv_at hl 0 rfl) ?_
  refine va_get (D := (dC, dI)) (ci := 4) (v := .int 0) (C := RX6) (T := TX6) (N := 9) hx hb hts inX6 hown hK hP 0 rfl rfl 0 (by decide) (hts _ (List.mem_of_getElem? (i := 1) rfl)) (fun _ h9 => h9) rfl dX6_hasRoomForShape_1 ?_
  refine lv_bipush (v := 9) hx hb dX6_hasRoomForShape_4 (by decide) ?_
  refine lv_icmp_ge (tgt := 13) hx hb dX6_hasRoomForShape_6 (by decide) (fun c => absurd c (by decide)) (fun _ => ?_)
  refine lv_iconst (v := 1) hx hb dX6_hasRoomForShape_9 (by decide) ?_
  refine lv_goto (tgt := 14) hx hb dX6_hasRoomForShape_10 (by decide) ?_
  exact W.zret (v := 1) hx hb hr (by decide) (fun t ht hW => ⟨1, rfl, rfl, ht⟩) (fun _ h => absurd h List.not_mem_nil) dX6_hasRoomForShape_14

def w_c_addShape : List Cond := .code yX6_addShape cX6_addShape 3 (some .int) :: (([.fieldLink RX6 15 "LampShapes$Stage" "kinds" "[I", .fieldLink RX6 9 "LampShapes$Stage" "shapes" "I", .fieldLink RX6 19 "LampShapes$Stage" "points" "[I"] : List Cond) ++ wsX60)
set_option maxHeartbeats 4000000 in
set_option maxRecDepth 100000 in
theorem c_addShape (l : Launch) (dC : Nat → ClassId) (dI : Nat → Nat → Nat) (ad : Nat → Nat) (h0 : Nat) (k : Int32) (pt : Int32) (q1 : Nat) (q2 : Nat) (w3 : Value) (w4 : Value) (w5 : Value) (w6 : Value) (w7 : Value) (w8 : Value) (c1 : ClassId) (f1 : Nat → Int32) (c2 : ClassId) (f2 : Nat → Int32) (sz : Nat) : Met l yX6_addShape w_c_addShape ({ frames := 0, cells := 0, slots := 0, locals := 0 } : Room) (va_Pc [.ref h0, .int k, .int pt] (preM dC dI ad [(c1, .int), (c2, .int)] [(h0, .inr (4, [.int 0, .ref q1, .ref q2, w3, w4, w5, w6, w7, w8])), (q1, .inl (c1, 9, .inl f1)), (q2, .inl (c2, 9, .inl f2))] sz)) (va_Qi (fun (r : Int32) (_ : Unit) => (r = 0)) (fun _ _ => True) (va_A [(h0, .inr (4, [.int 0, .ref q1, .ref q2, w3, w4, w5, w6, w7, w8])), (q1, .inl (c1, 9, .inl f1)), (q2, .inl (c2, 9, .inl f2))] sz)) 0 0 (va_A [(h0, .inr (4, [.int 0, .ref q1, .ref q2, w3, w4, w5, w6, w7, w8])), (q1, .inl (c1, 9, .inl f1)), (q2, .inl (c2, 9, .inl f2))] sz) := by
  refine Met.ofW (cc := cX6_addShape) (maxL := 3) (ret := (some .int)) (by decide) rfl ?_
  intro p e s m args below meth c s₁ B hml hv
  obtain ⟨rfl, hsz, hP, hK, hD0, hev⟩ := hv
  have hx := B.exec
  have hb := B.bytes
  have hr := B.returns
  have hts := atoms_spec (ws := w_c_addShape) B.pre
  have hown : s.vm.findClass RX6 = some m.cls := findClass_of_methodNamed B.named
  have hlocks := B.notSynchronized
  have inX6 : ∀ w ∈ wsX60, w ∈ w_c_addShape := fun w h => List.mem_cons_of_mem _ (List.mem_append_right _ h)
  subst hsz
  have hD := hD0.self (sz := s.heap.size)
  generalize hAe : va_A [(h0, .inr (4, [.int 0, .ref q1, .ref q2, w3, w4, w5, w6, w7, w8])), (q1, .inl (c1, 9, .inl f1)), (q2, .inl (c2, 9, .inl f2))] s.heap.size = A at hD ⊢
  have hA : ∀ q : Nat, s.heap.size ≤ q → A q := fun q h => by rw [← hAe]; exact Or.inr h
  have hS : va_S A s.heap s.heap [] := va_S.rf
  have hP : va_P (dC, dI) vwCl [(h0, .inr (4, [.int 0, .ref q1, .ref q2, w3, w4, w5, w6, w7, w8])), (q1, .inl (c1, 9, .inl f1)), (q2, .inl (c2, 9, .inl f2))] s.heap := hP
  have hl := lv_entry ([.ref h0, .int k, .int pt]) (n := 3) (Nat.le_of_ble_eq_true rfl)
  rw [lg_entry_eq]
  generalize (lg_sl ([.ref h0, .int k, .int pt]) ++ List.replicate (3 - (lg_sl ([.ref h0, .int k, .int pt])).length) Slot.unset).toArray = ls at hl ⊢
  have hl : lv_has ls 3 [(0, .ref h0), (1, .int k), (2, .int pt)] := hl
  refine lv_aload_n hx hb dX6_addShape_0 rfl (lv_at hl 0 rfl) ?_
  refine va_get (D := (dC, dI)) (ci := 4) (v := .ref q1) (C := RX6) (T := TX6) (N := 9) hx hb hts inX6 hown hK hP 0 rfl rfl 1 (by decide) (hts _ (List.mem_of_getElem? (i := 1) rfl)) (fun _ h9 => h9) rfl dX6_addShape_1 ?_
  refine lv_aload_n hx hb dX6_addShape_4 rfl (lv_at hl 0 rfl) ?_
  refine va_get (D := (dC, dI)) (ci := 4) (v := .int 0) (C := RX6) (T := TX6) (N := 9) hx hb hts inX6 hown hK hP 0 rfl rfl 0 (by decide) (hts _ (List.mem_of_getElem? (i := 2) rfl)) (fun _ h9 => h9) rfl dX6_addShape_5 ?_
  refine lv_iload_n hx hb dX6_addShape_8 rfl (lv_at hl 1 rfl) ?_
  refine va_iast hx hb hK hP hD hS 1 0 rfl rfl (vp_in_nI (n := 0) (by decide) (by decide)) dX6_addShape_9 (fun H locs hP hD hS => ?_)
  have hP : va_P (dC, dI) vwCl [(h0, .inr (4, [.int 0, .ref q1, .ref q2, w3, w4, w5, w6, w7, w8])), (q1, .inl (c1, 9, .inl (upd f1 0 k))), (q2, .inl (c2, 9, .inl f2))] H := hP
  have hD : va_D A [(h0, .inr (4, [.int 0, .ref q1, .ref q2, w3, w4, w5, w6, w7, w8])), (q1, .inl (c1, 9, .inl (upd f1 0 k))), (q2, .inl (c2, 9, .inl f2))] := hD
  refine lv_aload_n hx hb dX6_addShape_10 rfl (lv_at hl 0 rfl) ?_
  refine va_get (D := (dC, dI)) (ci := 4) (v := .ref q2) (C := RX6) (T := TX6) (N := 9) hx hb hts inX6 hown hK hP 0 rfl rfl 2 (by decide) (hts _ (List.mem_of_getElem? (i := 3) rfl)) (fun _ h9 => h9) rfl dX6_addShape_11 ?_
  refine lv_aload_n hx hb dX6_addShape_14 rfl (lv_at hl 0 rfl) ?_
  refine va_get (D := (dC, dI)) (ci := 4) (v := .int 0) (C := RX6) (T := TX6) (N := 9) hx hb hts inX6 hown hK hP 0 rfl rfl 0 (by decide) (hts _ (List.mem_of_getElem? (i := 2) rfl)) (fun _ h9 => h9) rfl dX6_addShape_15 ?_
  refine lv_iload_n hx hb dX6_addShape_18 rfl (lv_at hl 2 rfl) ?_
  refine va_iast hx hb hK hP hD hS 2 1 rfl rfl (vp_in_nI (n := 0) (by decide) (by decide)) dX6_addShape_19 (fun H locs hP hD hS => ?_)
  have hP : va_P (dC, dI) vwCl [(h0, .inr (4, [.int 0, .ref q1, .ref q2, w3, w4, w5, w6, w7, w8])), (q1, .inl (c1, 9, .inl (upd f1 0 k))), (q2, .inl (c2, 9, .inl (upd f2 0 pt)))] H := hP
  have hD : va_D A [(h0, .inr (4, [.int 0, .ref q1, .ref q2, w3, w4, w5, w6, w7, w8])), (q1, .inl (c1, 9, .inl (upd f1 0 k))), (q2, .inl (c2, 9, .inl (upd f2 0 pt)))] := hD
  refine lv_aload_n hx hb dX6_addShape_20 rfl (lv_at hl 0 rfl) ?_
  refine lv_dup hx hb dX6_addShape_21 rfl ?_
  refine va_get (D := (dC, dI)) (ci := 4) (v := .int 0) (C := RX6) (T := TX6) (N := 9) hx hb hts inX6 hown hK hP 0 rfl rfl 0 (by decide) (hts _ (List.mem_of_getElem? (i := 2) rfl)) (fun _ h9 => h9) rfl dX6_addShape_22 ?_
  refine lv_iconst (v := 1) hx hb dX6_addShape_25 (by decide) ?_
  refine lv_iadd hx hb dX6_addShape_26 ?_
  refine pp_ti (y := 1) (by decide) ?_
  refine va_put (D := (dC, dI)) (ci := 4) (v := .int 1) (ty := .int) (C := RX6) (T := TX6) (N := 9) hx hb hts inX6 tyX6 tyX6_ok nmX6 hown hK hP hD hS 0 rfl rfl 0 (by decide) (hts _ (List.mem_of_getElem? (i := 2) rfl)) (fun _ h9 => h9) rfl (by decide +kernel) rfl rfl (Nat.le_of_ble_eq_true rfl) dX6_addShape_27 (fun H locs hP hD hS => ?_)
  have hP : va_P (dC, dI) vwCl [(h0, .inr (4, [.int 1, .ref q1, .ref q2, w3, w4, w5, w6, w7, w8])), (q1, .inl (c1, 9, .inl (upd f1 0 k))), (q2, .inl (c2, 9, .inl (upd f2 0 pt)))] H := hP
  have hD : va_D A [(h0, .inr (4, [.int 1, .ref q1, .ref q2, w3, w4, w5, w6, w7, w8])), (q1, .inl (c1, 9, .inl (upd f1 0 k))), (q2, .inl (c2, 9, .inl (upd f2 0 pt)))] := hD
  refine lv_aload_n hx hb dX6_addShape_30 rfl (lv_at hl 0 rfl) ?_
  refine va_get (D := (dC, dI)) (ci := 4) (v := .int 1) (C := RX6) (T := TX6) (N := 9) hx hb hts inX6 hown hK hP 0 rfl rfl 0 (by decide) (hts _ (List.mem_of_getElem? (i := 2) rfl)) (fun _ h9 => h9) rfl dX6_addShape_31 ?_
  refine lv_iconst (v := 1) hx hb dX6_addShape_34 (by decide) ?_
  refine lv_isub hx hb dX6_addShape_35 ?_
  refine pp_ti (y := 0) (by decide) ?_
  exact W.iret (v := 0) hx hb hr (fun t ht hW => ⟨⟨0, (), rfl, rfl, trivial⟩, hS.F ht⟩) hS.2.2 dX6_addShape_36

def w_c_hasScene : List Cond := .code yX6_hasScene cX6_hasScene 2 (some .boolean) :: (([.fieldLink RX6 31 "LampShapes$Stage" "scenes" "I"] : List Cond) ++ wsX60)
set_option maxHeartbeats 4000000 in
set_option maxRecDepth 100000 in
theorem c_hasScene (l : Launch) (dC : Nat → ClassId) (dI : Nat → Nat → Nat) (ad : Nat → Nat) (h0 : Nat) (k : Int32) (w0 : Value) (w1 : Value) (w2 : Value) (w3 : Value) (w4 : Value) (w5 : Value) (w7 : Value) (w8 : Value) : Met l yX6_hasScene w_c_hasScene ({ frames := 0, cells := 0, slots := 0, locals := 0 } : Room) (va_Pc [.ref h0, .int k] (preS dC dI ad [] [(h0, .inr (4, [w0, w1, w2, w3, w4, w5, .int 0, w7, w8]))])) (vp_Si (fun r => (r = 0))) 0 0 (fun _ => False) := by
  refine Met.ofW (cc := cX6_hasScene) (maxL := 2) (ret := (some .boolean)) (by decide) rfl ?_
  intro p e s m args below meth c s₁ B hml hv
  obtain ⟨rfl, hP, hK, hev⟩ := hv
  have hx := B.exec
  have hb := B.bytes
  have hr := B.returns
  have hts := atoms_spec (ws := w_c_hasScene) B.pre
  have hown : s.vm.findClass RX6 = some m.cls := findClass_of_methodNamed B.named
  have hlocks := B.notSynchronized
  have inX6 : ∀ w ∈ wsX60, w ∈ w_c_hasScene := fun w h => List.mem_cons_of_mem _ (List.mem_append_right _ h)
  have hP : va_P (dC, dI) vwCl [(h0, .inr (4, [w0, w1, w2, w3, w4, w5, .int 0, w7, w8]))] s.heap := hP
  have hl := lv_entry ([.ref h0, .int k]) (n := 2) (Nat.le_of_ble_eq_true rfl)
  rw [lg_entry_eq]
  generalize (lg_sl ([.ref h0, .int k]) ++ List.replicate (2 - (lg_sl ([.ref h0, .int k])).length) Slot.unset).toArray = ls at hl ⊢
  have hl : lv_has ls 2 [(0, .ref h0), (1, .int k)] := hl
  refine lv_iload_n hx hb dX6_hasScene_0 rfl (lv_at hl 1 rfl) ?_
  refine lv_if_lt (tgt := 16) hx hb dX6_hasScene_1 (by decide) (fun c_1 => ?_) (fun c_1 => ?_)
  · skip
    refine lv_iconst (v := 0) hx hb dX6_hasScene_16 (by decide) ?_
    exact W.zret (v := 0) hx hb hr (by decide) (fun t ht hW => ⟨0, rfl, rfl, ht⟩) (fun _ h => absurd h List.not_mem_nil) dX6_hasScene_17
  · skip
    refine lv_iload_n hx hb dX6_hasScene_4 rfl (lv_at hl 1 rfl) ?_
    refine lv_aload_n hx hb dX6_hasScene_5 rfl (lv_at hl 0 rfl) ?_
    refine va_get (D := (dC, dI)) (ci := 4) (v := .int 0) (C := RX6) (T := TX6) (N := 9) hx hb hts inX6 hown hK hP 0 rfl rfl 6 (by decide) (hts _ (List.mem_of_getElem? (i := 1) rfl)) (fun _ h9 => h9) rfl dX6_hasScene_6 ?_
    refine lv_icmp_ge (tgt := 16) hx hb dX6_hasScene_9 (by decide) (fun c_2 => ?_) (fun c_2 => ?_)
    · skip
      refine lv_iconst (v := 0) hx hb dX6_hasScene_16 (by decide) ?_
      exact W.zret (v := 0) hx hb hr (by decide) (fun t ht hW => ⟨0, rfl, rfl, ht⟩) (fun _ h => absurd h List.not_mem_nil) dX6_hasScene_17
    · skip
      exfalso; simp only [fa_lt, fa_le, fa_eq, and_true, true_and, and_false, false_and, not_true_eq_false, not_false_eq_true, li_0, li_1, li_2, li_3, li_4, li_5, li_6, li_7, li_8, li_9, li_10, li_12, li_15, li_16, li_20, li_30, li_34, li_38, li_40, li_63, li_64, li_65, li_78, li_120, li_1000, li_4000, li_10000, li_11077, li_255, li_65535, li_m1, li_m2, li_m1000000001, li_m1000000002, li_m1000000003, li_m1000000004, li_m1000000005, li_m1000000006, li_m1000000007] at c_1 c_2 <;> omega

def w_c_hasRoomForScene : List Cond := .code yX6_hasRoomForScene cX6_hasRoomForScene 1 (some .boolean) :: (([.fieldLink RX6 31 "LampShapes$Stage" "scenes" "I"] : List Cond) ++ wsX60)
set_option maxHeartbeats 4000000 in
set_option maxRecDepth 100000 in
theorem c_hasRoomForScene (l : Launch) (dC : Nat → ClassId) (dI : Nat → Nat → Nat) (ad : Nat → Nat) (h0 : Nat) (w0 : Value) (w1 : Value) (w2 : Value) (w3 : Value) (w4 : Value) (w5 : Value) (w7 : Value) (w8 : Value) : Met l yX6_hasRoomForScene w_c_hasRoomForScene ({ frames := 0, cells := 0, slots := 0, locals := 0 } : Room) (va_Pc [.ref h0] (preS dC dI ad [] [(h0, .inr (4, [w0, w1, w2, w3, w4, w5, .int 0, w7, w8]))])) (vp_Si (fun r => (r = 1))) 0 0 (fun _ => False) := by
  refine Met.ofW (cc := cX6_hasRoomForScene) (maxL := 1) (ret := (some .boolean)) (by decide) rfl ?_
  intro p e s m args below meth c s₁ B hml hv
  obtain ⟨rfl, hP, hK, hev⟩ := hv
  have hx := B.exec
  have hb := B.bytes
  have hr := B.returns
  have hts := atoms_spec (ws := w_c_hasRoomForScene) B.pre
  have hown : s.vm.findClass RX6 = some m.cls := findClass_of_methodNamed B.named
  have hlocks := B.notSynchronized
  have inX6 : ∀ w ∈ wsX60, w ∈ w_c_hasRoomForScene := fun w h => List.mem_cons_of_mem _ (List.mem_append_right _ h)
  have hP : va_P (dC, dI) vwCl [(h0, .inr (4, [w0, w1, w2, w3, w4, w5, .int 0, w7, w8]))] s.heap := hP
  have hl := lv_entry ([.ref h0]) (n := 1) (Nat.le_of_ble_eq_true rfl)
  rw [lg_entry_eq]
  generalize (lg_sl ([.ref h0]) ++ List.replicate (1 - (lg_sl ([.ref h0])).length) Slot.unset).toArray = ls at hl ⊢
  have hl : lv_has ls 1 [(0, .ref h0)] := hl
  refine lv_aload_n hx hb dX6_hasRoomForScene_0 rfl (lv_at hl 0 rfl) ?_
  refine va_get (D := (dC, dI)) (ci := 4) (v := .int 0) (C := RX6) (T := TX6) (N := 9) hx hb hts inX6 hown hK hP 0 rfl rfl 6 (by decide) (hts _ (List.mem_of_getElem? (i := 1) rfl)) (fun _ h9 => h9) rfl dX6_hasRoomForScene_1 ?_
  refine lv_bipush (v := 7) hx hb dX6_hasRoomForScene_4 (by decide) ?_
  refine lv_icmp_ge (tgt := 13) hx hb dX6_hasRoomForScene_6 (by decide) (fun c => absurd c (by decide)) (fun _ => ?_)
  refine lv_iconst (v := 1) hx hb dX6_hasRoomForScene_9 (by decide) ?_
  refine lv_goto (tgt := 14) hx hb dX6_hasRoomForScene_10 (by decide) ?_
  exact W.zret (v := 1) hx hb hr (by decide) (fun t ht hW => ⟨1, rfl, rfl, ht⟩) (fun _ h => absurd h List.not_mem_nil) dX6_hasRoomForScene_14

def w_c_addScene : List Cond := .code yX6_addScene cX6_addScene 3 (some .int) :: (([.fieldLink RX6 34 "LampShapes$Stage" "pictures" "[J", .fieldLink RX6 31 "LampShapes$Stage" "scenes" "I"] : List Cond) ++ wsX60)
set_option maxHeartbeats 4000000 in
set_option maxRecDepth 100000 in
theorem c_addScene (l : Launch) (dC : Nat → ClassId) (dI : Nat → Nat → Nat) (ad : Nat → Nat) (h0 : Nat) (pt : Int64) (w0 : Value) (w1 : Value) (w2 : Value) (w3 : Value) (w4 : Value) (w5 : Value) (q1 : Nat) (w8 : Value) (c1 : ClassId) (f1 : Nat → Int64) (sz : Nat) : Met l yX6_addScene w_c_addScene ({ frames := 0, cells := 0, slots := 0, locals := 0 } : Room) (va_Pc [.ref h0, .long pt] (preM dC dI ad [(c1, .long)] [(h0, .inr (4, [w0, w1, w2, w3, w4, w5, .int 0, .ref q1, w8])), (q1, .inl (c1, 7, .inr (.inl f1)))] sz)) (va_Qi (fun (r : Int32) (_ : Unit) => (r = 0)) (fun _ _ => True) (va_A [(h0, .inr (4, [w0, w1, w2, w3, w4, w5, .int 0, .ref q1, w8])), (q1, .inl (c1, 7, .inr (.inl f1)))] sz)) 0 0 (va_A [(h0, .inr (4, [w0, w1, w2, w3, w4, w5, .int 0, .ref q1, w8])), (q1, .inl (c1, 7, .inr (.inl f1)))] sz) := by
  refine Met.ofW (cc := cX6_addScene) (maxL := 3) (ret := (some .int)) (by decide) rfl ?_
  intro p e s m args below meth c s₁ B hml hv
  obtain ⟨rfl, hsz, hP, hK, hD0, hev⟩ := hv
  have hx := B.exec
  have hb := B.bytes
  have hr := B.returns
  have hts := atoms_spec (ws := w_c_addScene) B.pre
  have hown : s.vm.findClass RX6 = some m.cls := findClass_of_methodNamed B.named
  have hlocks := B.notSynchronized
  have inX6 : ∀ w ∈ wsX60, w ∈ w_c_addScene := fun w h => List.mem_cons_of_mem _ (List.mem_append_right _ h)
  subst hsz
  have hD := hD0.self (sz := s.heap.size)
  generalize hAe : va_A [(h0, .inr (4, [w0, w1, w2, w3, w4, w5, .int 0, .ref q1, w8])), (q1, .inl (c1, 7, .inr (.inl f1)))] s.heap.size = A at hD ⊢
  have hA : ∀ q : Nat, s.heap.size ≤ q → A q := fun q h => by rw [← hAe]; exact Or.inr h
  have hS : va_S A s.heap s.heap [] := va_S.rf
  have hP : va_P (dC, dI) vwCl [(h0, .inr (4, [w0, w1, w2, w3, w4, w5, .int 0, .ref q1, w8])), (q1, .inl (c1, 7, .inr (.inl f1)))] s.heap := hP
  have hl := lv_entry ([.ref h0, .long pt]) (n := 3) (Nat.le_of_ble_eq_true rfl)
  rw [lg_entry_eq]
  generalize (lg_sl ([.ref h0, .long pt]) ++ List.replicate (3 - (lg_sl ([.ref h0, .long pt])).length) Slot.unset).toArray = ls at hl ⊢
  have hl : lv_has ls 3 [(0, .ref h0), (1, .long pt)] := hl
  refine lv_aload_n hx hb dX6_addScene_0 rfl (lv_at hl 0 rfl) ?_
  refine va_get (D := (dC, dI)) (ci := 4) (v := .ref q1) (C := RX6) (T := TX6) (N := 9) hx hb hts inX6 hown hK hP 0 rfl rfl 7 (by decide) (hts _ (List.mem_of_getElem? (i := 1) rfl)) (fun _ h9 => h9) rfl dX6_addScene_1 ?_
  refine lv_aload_n hx hb dX6_addScene_4 rfl (lv_at hl 0 rfl) ?_
  refine va_get (D := (dC, dI)) (ci := 4) (v := .int 0) (C := RX6) (T := TX6) (N := 9) hx hb hts inX6 hown hK hP 0 rfl rfl 6 (by decide) (hts _ (List.mem_of_getElem? (i := 2) rfl)) (fun _ h9 => h9) rfl dX6_addScene_5 ?_
  refine lv_lload_n hx hb dX6_addScene_8 rfl (lv_at hl 1 rfl) ?_
  refine va_last hx hb hK hP hD hS 1 0 rfl rfl (vp_in_nI (n := 0) (by decide) (by decide)) dX6_addScene_9 (fun H locs hP hD hS => ?_)
  have hP : va_P (dC, dI) vwCl [(h0, .inr (4, [w0, w1, w2, w3, w4, w5, .int 0, .ref q1, w8])), (q1, .inl (c1, 7, .inr (.inl (vp_updL f1 0 pt))))] H := hP
  have hD : va_D A [(h0, .inr (4, [w0, w1, w2, w3, w4, w5, .int 0, .ref q1, w8])), (q1, .inl (c1, 7, .inr (.inl (vp_updL f1 0 pt))))] := hD
  refine lv_aload_n hx hb dX6_addScene_10 rfl (lv_at hl 0 rfl) ?_
  refine lv_dup hx hb dX6_addScene_11 rfl ?_
  refine va_get (D := (dC, dI)) (ci := 4) (v := .int 0) (C := RX6) (T := TX6) (N := 9) hx hb hts inX6 hown hK hP 0 rfl rfl 6 (by decide) (hts _ (List.mem_of_getElem? (i := 2) rfl)) (fun _ h9 => h9) rfl dX6_addScene_12 ?_
  refine lv_iconst (v := 1) hx hb dX6_addScene_15 (by decide) ?_
  refine lv_iadd hx hb dX6_addScene_16 ?_
  refine pp_ti (y := 1) (by decide) ?_
  refine va_put (D := (dC, dI)) (ci := 4) (v := .int 1) (ty := .int) (C := RX6) (T := TX6) (N := 9) hx hb hts inX6 tyX6 tyX6_ok nmX6 hown hK hP hD hS 0 rfl rfl 6 (by decide) (hts _ (List.mem_of_getElem? (i := 2) rfl)) (fun _ h9 => h9) rfl (by decide +kernel) rfl rfl (Nat.le_of_ble_eq_true rfl) dX6_addScene_17 (fun H locs hP hD hS => ?_)
  have hP : va_P (dC, dI) vwCl [(h0, .inr (4, [w0, w1, w2, w3, w4, w5, .int 1, .ref q1, w8])), (q1, .inl (c1, 7, .inr (.inl (vp_updL f1 0 pt))))] H := hP
  have hD : va_D A [(h0, .inr (4, [w0, w1, w2, w3, w4, w5, .int 1, .ref q1, w8])), (q1, .inl (c1, 7, .inr (.inl (vp_updL f1 0 pt))))] := hD
  refine lv_aload_n hx hb dX6_addScene_20 rfl (lv_at hl 0 rfl) ?_
  refine va_get (D := (dC, dI)) (ci := 4) (v := .int 1) (C := RX6) (T := TX6) (N := 9) hx hb hts inX6 hown hK hP 0 rfl rfl 6 (by decide) (hts _ (List.mem_of_getElem? (i := 2) rfl)) (fun _ h9 => h9) rfl dX6_addScene_21 ?_
  refine lv_iconst (v := 1) hx hb dX6_addScene_24 (by decide) ?_
  refine lv_isub hx hb dX6_addScene_25 ?_
  refine pp_ti (y := 0) (by decide) ?_
  exact W.iret (v := 0) hx hb hr (fun t ht hW => ⟨⟨0, (), rfl, rfl, trivial⟩, hS.F ht⟩) hS.2.2 dX6_addScene_26

def w_c_wholeShapes : List Cond := .code yX6_wholeShapes cX6_wholeShapes 1 (some .int) :: (([.fieldLink RX6 9 "LampShapes$Stage" "shapes" "I", .fieldLink RX6 22 "LampShapes$Stage" "tornShapes" "I"] : List Cond) ++ wsX60)
set_option maxHeartbeats 4000000 in
set_option maxRecDepth 100000 in
theorem c_wholeShapes (l : Launch) (dC : Nat → ClassId) (dI : Nat → Nat → Nat) (ad : Nat → Nat) (h0 : Nat) (w1 : Value) (w2 : Value) (w4 : Value) (w5 : Value) (w6 : Value) (w7 : Value) (w8 : Value) : Met l yX6_wholeShapes w_c_wholeShapes ({ frames := 0, cells := 0, slots := 0, locals := 0 } : Room) (va_Pc [.ref h0] (preS dC dI ad [] [(h0, .inr (4, [.int 0, w1, w2, .int 0, w4, w5, w6, w7, w8]))])) (vp_Si (fun r => (r = 0))) 0 0 (fun _ => False) := by
  refine Met.ofW (cc := cX6_wholeShapes) (maxL := 1) (ret := (some .int)) (by decide) rfl ?_
  intro p e s m args below meth c s₁ B hml hv
  obtain ⟨rfl, hP, hK, hev⟩ := hv
  have hx := B.exec
  have hb := B.bytes
  have hr := B.returns
  have hts := atoms_spec (ws := w_c_wholeShapes) B.pre
  have hown : s.vm.findClass RX6 = some m.cls := findClass_of_methodNamed B.named
  have hlocks := B.notSynchronized
  have inX6 : ∀ w ∈ wsX60, w ∈ w_c_wholeShapes := fun w h => List.mem_cons_of_mem _ (List.mem_append_right _ h)
  have hP : va_P (dC, dI) vwCl [(h0, .inr (4, [.int 0, w1, w2, .int 0, w4, w5, w6, w7, w8]))] s.heap := hP
  have hl := lv_entry ([.ref h0]) (n := 1) (Nat.le_of_ble_eq_true rfl)
  rw [lg_entry_eq]
  generalize (lg_sl ([.ref h0]) ++ List.replicate (1 - (lg_sl ([.ref h0])).length) Slot.unset).toArray = ls at hl ⊢
  have hl : lv_has ls 1 [(0, .ref h0)] := hl
  refine lv_iconst (v := 1) hx hb dX6_wholeShapes_0 (by decide) ?_
  refine lv_aload_n hx hb dX6_wholeShapes_1 rfl (lv_at hl 0 rfl) ?_
  refine va_get (D := (dC, dI)) (ci := 4) (v := .int 0) (C := RX6) (T := TX6) (N := 9) hx hb hts inX6 hown hK hP 0 rfl rfl 0 (by decide) (hts _ (List.mem_of_getElem? (i := 1) rfl)) (fun _ h9 => h9) rfl dX6_wholeShapes_2 ?_
  refine lv_ishl hx hb dX6_wholeShapes_5 ?_
  refine pp_ti (y := 1) (by decide) ?_
  refine lv_iconst (v := 1) hx hb dX6_wholeShapes_6 (by decide) ?_
  refine lv_isub hx hb dX6_wholeShapes_7 ?_
  refine pp_ti (y := 0) (by decide) ?_
  refine lv_aload_n hx hb dX6_wholeShapes_8 rfl (lv_at hl 0 rfl) ?_
  refine va_get (D := (dC, dI)) (ci := 4) (v := .int 0) (C := RX6) (T := TX6) (N := 9) hx hb hts inX6 hown hK hP 0 rfl rfl 3 (by decide) (hts _ (List.mem_of_getElem? (i := 2) rfl)) (fun _ h9 => h9) rfl dX6_wholeShapes_9 ?_
  refine lv_iconst (v := (-1)) hx hb dX6_wholeShapes_12 (by decide) ?_
  refine lv_ixor hx hb dX6_wholeShapes_13 ?_
  refine pp_ti (y := (-1)) (by decide) ?_
  refine lv_iand hx hb dX6_wholeShapes_14 ?_
  refine pp_ti (y := 0) (by decide) ?_
  exact W.iret (v := 0) hx hb hr (fun t ht hW => ⟨0, rfl, rfl, ht⟩) (fun _ h => absurd h List.not_mem_nil) dX6_wholeShapes_15

def w_c_cellsOfHold : List Cond := .code yX6_cellsOfHold cX6_cellsOfHold 3 (some .long) :: (([.fieldLink RX6 25 "LampShapes$Stage" "heldShapes" "[I", .methodLink RX6 78 yX6_hasShape, .instanceMethod yX6_hasShape, .selects RX6 yX6_hasShape yX6_hasShape, .initialized RX6, .code yX6_hasShape cX6_hasShape 2 (some .boolean), .fieldLink RX6 9 "LampShapes$Stage" "shapes" "I"] : List Cond) ++ wsX60)
set_option maxRecDepth 20000 in
theorem g_c_cellsOfHold_c_hasShape_78 : GoodIn w_c_cellsOfHold (wsV RX6 78 RX6 yX6_hasShape w_c_hasShape) := goodIn_r _ [2, 3, 4, 5, 6, 7, 8, 9, 10, 11, 12, 13, 14, 15, 16] rfl (by decide +kernel)
set_option maxHeartbeats 4000000 in
set_option maxRecDepth 100000 in
theorem c_cellsOfHold (l : Launch) (dC : Nat → ClassId) (dI : Nat → Nat → Nat) (ad : Nat → Nat) (h0 : Nat) (i : Int32) (w1 : Value) (w2 : Value) (w3 : Value) (q1 : Nat) (w5 : Value) (w6 : Value) (w7 : Value) (w8 : Value) (c1 : ClassId) (f1 : Nat → Int32) (hf : ∀ j, j < 4 → f1 j = (-1)) (hi : vp_in i 4) : Met l yX6_cellsOfHold w_c_cellsOfHold ({ frames := 1, cells := 0, slots := 0, locals := 21 } : Room) (va_Pc [.ref h0, .int i] (preS dC dI ad [(c1, .int)] [(h0, .inr (4, [.int 0, w1, w2, w3, .ref q1, w5, w6, w7, w8])), (q1, .inl (c1, 4, .inl f1))])) (vp_Sl (fun r => (r = 0))) 0 0 (fun _ => False) := by
  refine Met.ofW (cc := cX6_cellsOfHold) (maxL := 3) (ret := (some .long)) (by decide) rfl ?_
  intro p e s m args below meth c s₁ B hml hv
  obtain ⟨rfl, hP, hK, hev⟩ := hv
  have hx := B.exec
  have hb := B.bytes
  have hr := B.returns
  have hts := atoms_spec (ws := w_c_cellsOfHold) B.pre
  have hown : s.vm.findClass RX6 = some m.cls := findClass_of_methodNamed B.named
  have hlocks := B.notSynchronized
  have inX6 : ∀ w ∈ wsX60, w ∈ w_c_cellsOfHold := fun w h => List.mem_cons_of_mem _ (List.mem_append_right _ h)
  have hP : va_P (dC, dI) vwCl [(h0, .inr (4, [.int 0, w1, w2, w3, .ref q1, w5, w6, w7, w8])), (q1, .inl (c1, 4, .inl f1))] s.heap := hP
  have hl := lv_entry ([.ref h0, .int i]) (n := 3) (Nat.le_of_ble_eq_true rfl)
  rw [lg_entry_eq]
  generalize (lg_sl ([.ref h0, .int i]) ++ List.replicate (3 - (lg_sl ([.ref h0, .int i])).length) Slot.unset).toArray = ls at hl ⊢
  have hl : lv_has ls 3 [(0, .ref h0), (1, .int i)] := hl
  refine lv_aload_n hx hb dX6_cellsOfHold_0 rfl (lv_at hl 0 rfl) ?_
  refine va_get (D := (dC, dI)) (ci := 4) (v := .ref q1) (C := RX6) (T := TX6) (N := 9) hx hb hts inX6 hown hK hP 0 rfl rfl 4 (by decide) (hts _ (List.mem_of_getElem? (i := 1) rfl)) (fun _ h9 => h9) rfl dX6_cellsOfHold_1 ?_
  refine lv_iload_n hx hb dX6_cellsOfHold_4 rfl (lv_at hl 1 rfl) ?_
  refine va_iald hx hb hK hP 1 0 rfl rfl hi dX6_cellsOfHold_5 ?_
  refine pp_ti (y := (-1)) (hf _ (pp_in_lt hi)) ?_
  refine lv_istore_n (lv' := [(2, .int (-1)), (0, .ref h0), (1, .int i)]) hx hb dX6_cellsOfHold_6 rfl hl (by decide) rfl (fun ls hl => ?_)
  refine lv_aload_n hx hb dX6_cellsOfHold_7 rfl (lv_at hl 1 rfl) ?_
  refine lv_iload_n hx hb dX6_cellsOfHold_8 rfl (lv_at hl 0 rfl) ?_
  have hPc := hP.sub (ws' := [(h0, .inr (4, [.int 0, w1, w2, w3, .ref q1, w5, w6, w7, w8]))]) [0] rfl
  have hKc := hK.sub (tys' := []) [] rfl
  refine vp_callSi (W.runV (As := [.int (-1)]) (rest := []) ⟨hx, hb, hml, hown, hts⟩ (c_hasShape l dC dI ad h0 (-1) w1 w2 w3 (.ref q1) w5 w6 w7 w8 ) (cwV 1 hts g_c_cellsOfHold_c_hasShape_78 rfl rfl rfl (by decide +kernel) ⟨(Nat.le_of_ble_eq_true rfl), (Nat.le_of_ble_eq_true rfl)⟩) ⟨preS_blind, va_recv hKc hPc (ci := 4) (q0 := 0) rfl rfl, fun U hU hW => ⟨rfl, preS_at hU hW hPc hKc hev⟩⟩ rfl rfl hl.1 rfl (lv_room (Nat.le_of_ble_eq_true rfl)) dX6_cellsOfHold_9 ⟨(Nat.le_of_ble_eq_true rfl), (Nat.le_of_ble_eq_true rfl)⟩) (fun r_1 hw => ?_)
  subst hw
  refine lv_if_eq (tgt := 23) hx hb dX6_cellsOfHold_12 (by decide) (fun _ => ?_) (fun c => absurd (by decide) c)
  refine lv_lconst (v := 0) hx hb dX6_cellsOfHold_23 (by decide) ?_
  exact W.lret (v := 0) hx hb hr (fun t ht hW => ⟨0, rfl, rfl, ht⟩) (fun _ h => absurd h List.not_mem_nil) dX6_cellsOfHold_24

def w_c_darkCells : List Cond := .code yX6_darkCells cX6_darkCells 4 (some .long) :: (([.methodLink RX6 88 yX6_cellsOfHold, .instanceMethod yX6_cellsOfHold, .selects RX6 yX6_cellsOfHold yX6_cellsOfHold, .initialized RX6, .code yX6_cellsOfHold cX6_cellsOfHold 3 (some .long), .fieldLink RX6 25 "LampShapes$Stage" "heldShapes" "[I", .methodLink RX6 78 yX6_hasShape, .instanceMethod yX6_hasShape, .selects RX6 yX6_hasShape yX6_hasShape, .code yX6_hasShape cX6_hasShape 2 (some .boolean), .fieldLink RX6 9 "LampShapes$Stage" "shapes" "I"] : List Cond) ++ wsX60)
set_option maxRecDepth 20000 in
theorem g_c_darkCells_c_cellsOfHold_88 : GoodIn w_c_darkCells (wsV RX6 88 RX6 yX6_cellsOfHold w_c_cellsOfHold) := goodIn_r _ [1, 2, 3, 4, 5, 6, 7, 8, 9, 4, 10, 11, 12, 13, 14, 15, 16, 17, 18, 19, 20] rfl (by decide +kernel)
set_option maxHeartbeats 4000000 in
set_option maxRecDepth 100000 in
theorem c_darkCells (l : Launch) (dC : Nat → ClassId) (dI : Nat → Nat → Nat) (ad : Nat → Nat) (h0 : Nat) (w1 : Value) (w2 : Value) (w3 : Value) (q1 : Nat) (w5 : Value) (w6 : Value) (w7 : Value) (w8 : Value) (c1 : ClassId) (f1 : Nat → Int32) (hf : ∀ j, j < 4 → f1 j = (-1)) : Met l yX6_darkCells w_c_darkCells ({ frames := 2, cells := 0, slots := 0, locals := 43 } : Room) (va_Pc [.ref h0] (preS dC dI ad [(c1, .int)] [(h0, .inr (4, [.int 0, w1, w2, w3, .ref q1, w5, w6, w7, w8])), (q1, .inl (c1, 4, .inl f1))])) (vp_Sl (fun r => (r = 0))) 0 0 (fun _ => False) := by
  refine Met.ofW (cc := cX6_darkCells) (maxL := 4) (ret := (some .long)) (by decide) rfl ?_
  intro p e s m args below meth c s₁ B hml hv
  obtain ⟨rfl, hP, hK, hev⟩ := hv
  have hx := B.exec
  have hb := B.bytes
  have hr := B.returns
  have hts := atoms_spec (ws := w_c_darkCells) B.pre
  have hown : s.vm.findClass RX6 = some m.cls := findClass_of_methodNamed B.named
  have hlocks := B.notSynchronized
  have inX6 : ∀ w ∈ wsX60, w ∈ w_c_darkCells := fun w h => List.mem_cons_of_mem _ (List.mem_append_right _ h)
  have hP : va_P (dC, dI) vwCl [(h0, .inr (4, [.int 0, w1, w2, w3, .ref q1, w5, w6, w7, w8])), (q1, .inl (c1, 4, .inl f1))] s.heap := hP
  have hl := lv_entry ([.ref h0]) (n := 4) (Nat.le_of_ble_eq_true rfl)
  rw [lg_entry_eq]
  generalize (lg_sl ([.ref h0]) ++ List.replicate (4 - (lg_sl ([.ref h0])).length) Slot.unset).toArray = ls at hl ⊢
  have hl : lv_has ls 4 [(0, .ref h0)] := hl
  refine lv_lconst (v := 0) hx hb dX6_darkCells_0 (by decide) ?_
  refine lv_lstore_n (lv' := [(1, .long 0), (0, .ref h0)]) hx hb dX6_darkCells_1 rfl hl (by decide) rfl (fun ls hl => ?_)
  refine lv_iconst (v := 0) hx hb dX6_darkCells_2 (by decide) ?_
  refine lv_istore_n (lv' := [(3, .int 0), (1, .long 0), (0, .ref h0)]) hx hb dX6_darkCells_3 rfl hl (by decide) rfl (fun ls hl => ?_)
  refine lv_iload_n hx hb dX6_darkCells_4 rfl (lv_at hl 0 rfl) ?_
  refine lv_iconst (v := 4) hx hb dX6_darkCells_5 (by decide) ?_
  refine lv_icmp_ge (tgt := 23) hx hb dX6_darkCells_6 (by decide) (fun c => absurd c (by decide)) (fun _ => ?_)
  refine lv_lload_n hx hb dX6_darkCells_9 rfl (lv_at hl 1 rfl) ?_
  refine lv_aload_n hx hb dX6_darkCells_10 rfl (lv_at hl 2 rfl) ?_
  refine lv_iload_n hx hb dX6_darkCells_11 rfl (lv_at hl 0 rfl) ?_
  have hPc := hP.sub (ws' := [(h0, .inr (4, [.int 0, w1, w2, w3, .ref q1, w5, w6, w7, w8])), (q1, .inl (c1, 4, .inl f1))]) [0, 1] rfl
  have hKc := hK.sub (tys' := [(c1, .int)]) [0] rfl
  refine vp_callSl (W.runV (As := [.int 0]) (rest := [.long 0]) ⟨hx, hb, hml, hown, hts⟩ (c_cellsOfHold l dC dI ad h0 0 w1 w2 w3 q1 w5 w6 w7 w8 c1 f1 hf (vp_in_nI (n := 0) (by decide) (by decide))) (cwV 1 hts g_c_darkCells_c_cellsOfHold_88 rfl rfl rfl (by decide +kernel) ⟨(Nat.le_of_ble_eq_true rfl), (Nat.le_of_ble_eq_true rfl)⟩) ⟨preS_blind, va_recv hKc hPc (ci := 4) (q0 := 0) rfl rfl, fun U hU hW => ⟨rfl, preS_at hU hW hPc hKc hev⟩⟩ rfl rfl hl.1 rfl (lv_room (Nat.le_of_ble_eq_true rfl)) dX6_darkCells_12 ⟨(Nat.le_of_ble_eq_true rfl), (Nat.le_of_ble_eq_true rfl)⟩) (fun r_1 hw => ?_)
  subst hw
  refine lv_lor hx hb dX6_darkCells_15 ?_
  refine pp_tl (y := 0) (by decide) ?_
  refine lv_lstore_n (lv' := [(1, .long 0), (3, .int 0), (0, .ref h0)]) hx hb dX6_darkCells_16 rfl hl (by decide) rfl (fun ls hl => ?_)
  refine lv_iinc (v := 1) (lv' := [(3, .int 1), (1, .long 0), (0, .ref h0)]) hx hb dX6_darkCells_17 hl (k := 1) rfl (by decide) (by decide) rfl (fun ls hl => ?_)
  refine lv_goto (tgt := 4) hx hb dX6_darkCells_20 (by decide) ?_
  refine lv_iload_n hx hb dX6_darkCells_4 rfl (lv_at hl 0 rfl) ?_
  refine lv_iconst (v := 4) hx hb dX6_darkCells_5 (by decide) ?_
  refine lv_icmp_ge (tgt := 23) hx hb dX6_darkCells_6 (by decide) (fun c => absurd c (by decide)) (fun _ => ?_)
  refine lv_lload_n hx hb dX6_darkCells_9 rfl (lv_at hl 1 rfl) ?_
  refine lv_aload_n hx hb dX6_darkCells_10 rfl (lv_at hl 2 rfl) ?_
  refine lv_iload_n hx hb dX6_darkCells_11 rfl (lv_at hl 0 rfl) ?_
  have hPc := hP.sub (ws' := [(h0, .inr (4, [.int 0, w1, w2, w3, .ref q1, w5, w6, w7, w8])), (q1, .inl (c1, 4, .inl f1))]) [0, 1] rfl
  have hKc := hK.sub (tys' := [(c1, .int)]) [0] rfl
  refine vp_callSl (W.runV (As := [.int 1]) (rest := [.long 0]) ⟨hx, hb, hml, hown, hts⟩ (c_cellsOfHold l dC dI ad h0 1 w1 w2 w3 q1 w5 w6 w7 w8 c1 f1 hf (vp_in_nI (n := 1) (by decide) (by decide))) (cwV 1 hts g_c_darkCells_c_cellsOfHold_88 rfl rfl rfl (by decide +kernel) ⟨(Nat.le_of_ble_eq_true rfl), (Nat.le_of_ble_eq_true rfl)⟩) ⟨preS_blind, va_recv hKc hPc (ci := 4) (q0 := 0) rfl rfl, fun U hU hW => ⟨rfl, preS_at hU hW hPc hKc hev⟩⟩ rfl rfl hl.1 rfl (lv_room (Nat.le_of_ble_eq_true rfl)) dX6_darkCells_12 ⟨(Nat.le_of_ble_eq_true rfl), (Nat.le_of_ble_eq_true rfl)⟩) (fun r_2 hw => ?_)
  subst hw
  refine lv_lor hx hb dX6_darkCells_15 ?_
  refine pp_tl (y := 0) (by decide) ?_
  refine lv_lstore_n (lv' := [(1, .long 0), (3, .int 1), (0, .ref h0)]) hx hb dX6_darkCells_16 rfl hl (by decide) rfl (fun ls hl => ?_)
  refine lv_iinc (v := 2) (lv' := [(3, .int 2), (1, .long 0), (0, .ref h0)]) hx hb dX6_darkCells_17 hl (k := 1) rfl (by decide) (by decide) rfl (fun ls hl => ?_)
  refine lv_goto (tgt := 4) hx hb dX6_darkCells_20 (by decide) ?_
  refine lv_iload_n hx hb dX6_darkCells_4 rfl (lv_at hl 0 rfl) ?_
  refine lv_iconst (v := 4) hx hb dX6_darkCells_5 (by decide) ?_
  refine lv_icmp_ge (tgt := 23) hx hb dX6_darkCells_6 (by decide) (fun c => absurd c (by decide)) (fun _ => ?_)
  refine lv_lload_n hx hb dX6_darkCells_9 rfl (lv_at hl 1 rfl) ?_
  refine lv_aload_n hx hb dX6_darkCells_10 rfl (lv_at hl 2 rfl) ?_
  refine lv_iload_n hx hb dX6_darkCells_11 rfl (lv_at hl 0 rfl) ?_
  have hPc := hP.sub (ws' := [(h0, .inr (4, [.int 0, w1, w2, w3, .ref q1, w5, w6, w7, w8])), (q1, .inl (c1, 4, .inl f1))]) [0, 1] rfl
  have hKc := hK.sub (tys' := [(c1, .int)]) [0] rfl
  refine vp_callSl (W.runV (As := [.int 2]) (rest := [.long 0]) ⟨hx, hb, hml, hown, hts⟩ (c_cellsOfHold l dC dI ad h0 2 w1 w2 w3 q1 w5 w6 w7 w8 c1 f1 hf (vp_in_nI (n := 2) (by decide) (by decide))) (cwV 1 hts g_c_darkCells_c_cellsOfHold_88 rfl rfl rfl (by decide +kernel) ⟨(Nat.le_of_ble_eq_true rfl), (Nat.le_of_ble_eq_true rfl)⟩) ⟨preS_blind, va_recv hKc hPc (ci := 4) (q0 := 0) rfl rfl, fun U hU hW => ⟨rfl, preS_at hU hW hPc hKc hev⟩⟩ rfl rfl hl.1 rfl (lv_room (Nat.le_of_ble_eq_true rfl)) dX6_darkCells_12 ⟨(Nat.le_of_ble_eq_true rfl), (Nat.le_of_ble_eq_true rfl)⟩) (fun r_3 hw => ?_)
  subst hw
  refine lv_lor hx hb dX6_darkCells_15 ?_
  refine pp_tl (y := 0) (by decide) ?_
  refine lv_lstore_n (lv' := [(1, .long 0), (3, .int 2), (0, .ref h0)]) hx hb dX6_darkCells_16 rfl hl (by decide) rfl (fun ls hl => ?_)
  refine lv_iinc (v := 3) (lv' := [(3, .int 3), (1, .long 0), (0, .ref h0)]) hx hb dX6_darkCells_17 hl (k := 1) rfl (by decide) (by decide) rfl (fun ls hl => ?_)
  refine lv_goto (tgt := 4) hx hb dX6_darkCells_20 (by decide) ?_
  refine lv_iload_n hx hb dX6_darkCells_4 rfl (lv_at hl 0 rfl) ?_
  refine lv_iconst (v := 4) hx hb dX6_darkCells_5 (by decide) ?_
  refine lv_icmp_ge (tgt := 23) hx hb dX6_darkCells_6 (by decide) (fun c => absurd c (by decide)) (fun _ => ?_)
  refine lv_lload_n hx hb dX6_darkCells_9 rfl (lv_at hl 1 rfl) ?_
  refine lv_aload_n hx hb dX6_darkCells_10 rfl (lv_at hl 2 rfl) ?_
  refine lv_iload_n hx hb dX6_darkCells_11 rfl (lv_at hl 0 rfl) ?_
  have hPc := hP.sub (ws' := [(h0, .inr (4, [.int 0, w1, w2, w3, .ref q1, w5, w6, w7, w8])), (q1, .inl (c1, 4, .inl f1))]) [0, 1] rfl
  have hKc := hK.sub (tys' := [(c1, .int)]) [0] rfl
  refine vp_callSl (W.runV (As := [.int 3]) (rest := [.long 0]) ⟨hx, hb, hml, hown, hts⟩ (c_cellsOfHold l dC dI ad h0 3 w1 w2 w3 q1 w5 w6 w7 w8 c1 f1 hf (vp_in_nI (n := 3) (by decide) (by decide))) (cwV 1 hts g_c_darkCells_c_cellsOfHold_88 rfl rfl rfl (by decide +kernel) ⟨(Nat.le_of_ble_eq_true rfl), (Nat.le_of_ble_eq_true rfl)⟩) ⟨preS_blind, va_recv hKc hPc (ci := 4) (q0 := 0) rfl rfl, fun U hU hW => ⟨rfl, preS_at hU hW hPc hKc hev⟩⟩ rfl rfl hl.1 rfl (lv_room (Nat.le_of_ble_eq_true rfl)) dX6_darkCells_12 ⟨(Nat.le_of_ble_eq_true rfl), (Nat.le_of_ble_eq_true rfl)⟩) (fun r_4 hw => ?_)
  subst hw
  refine lv_lor hx hb dX6_darkCells_15 ?_
  refine pp_tl (y := 0) (by decide) ?_
  refine lv_lstore_n (lv' := [(1, .long 0), (3, .int 3), (0, .ref h0)]) hx hb dX6_darkCells_16 rfl hl (by decide) rfl (fun ls hl => ?_)
  refine lv_iinc (v := 4) (lv' := [(3, .int 4), (1, .long 0), (0, .ref h0)]) hx hb dX6_darkCells_17 hl (k := 1) rfl (by decide) (by decide) rfl (fun ls hl => ?_)
  refine lv_goto (tgt := 4) hx hb dX6_darkCells_20 (by decide) ?_
  refine lv_iload_n hx hb dX6_darkCells_4 rfl (lv_at hl 0 rfl) ?_
  refine lv_iconst (v := 4) hx hb dX6_darkCells_5 (by decide) ?_
  refine lv_icmp_ge (tgt := 23) hx hb dX6_darkCells_6 (by decide) (fun _ => ?_) (fun c => absurd (by decide) c)
  refine lv_lload_n hx hb dX6_darkCells_23 rfl (lv_at hl 1 rfl) ?_
  exact W.lret (v := 0) hx hb hr (fun t ht hW => ⟨0, rfl, rfl, ht⟩) (fun _ h => absurd h List.not_mem_nil) dX6_darkCells_24

def w_c_singleCells : List Cond := .code yX6_singleCells cX6_singleCells 8 (some .long) :: (([.methodLink RX6 88 yX6_cellsOfHold, .instanceMethod yX6_cellsOfHold, .selects RX6 yX6_cellsOfHold yX6_cellsOfHold, .initialized RX6, .code yX6_cellsOfHold cX6_cellsOfHold 3 (some .long), .fieldLink RX6 25 "LampShapes$Stage" "heldShapes" "[I", .methodLink RX6 78 yX6_hasShape, .instanceMethod yX6_hasShape, .selects RX6 yX6_hasShape yX6_hasShape, .code yX6_hasShape cX6_hasShape 2 (some .boolean), .fieldLink RX6 9 "LampShapes$Stage" "shapes" "I", .constantLong RX6 92 (-1)] : List Cond) ++ wsX60)
set_option maxRecDepth 20000 in
theorem g_c_singleCells_c_cellsOfHold_88 : GoodIn w_c_singleCells (wsV RX6 88 RX6 yX6_cellsOfHold w_c_cellsOfHold) := goodIn_r _ [1, 2, 3, 4, 5, 6, 7, 8, 9, 4, 10, 11, 13, 14, 15, 16, 17, 18, 19, 20, 21] rfl (by decide +kernel)
set_option maxHeartbeats 4000000 in
set_option maxRecDepth 100000 in
theorem c_singleCells (l : Launch) (dC : Nat → ClassId) (dI : Nat → Nat → Nat) (ad : Nat → Nat) (h0 : Nat) (w1 : Value) (w2 : Value) (w3 : Value) (q1 : Nat) (w5 : Value) (w6 : Value) (w7 : Value) (w8 : Value) (c1 : ClassId) (f1 : Nat → Int32) (hf : ∀ j, j < 4 → f1 j = (-1)) : Met l yX6_singleCells w_c_singleCells ({ frames := 2, cells := 0, slots := 0, locals := 43 } : Room) (va_Pc [.ref h0] (preS dC dI ad [(c1, .int)] [(h0, .inr (4, [.int 0, w1, w2, w3, .ref q1, w5, w6, w7, w8])), (q1, .inl (c1, 4, .inl f1))])) (vp_Sl (fun r => (r = 0))) 0 0 (fun _ => False) := by
  refine Met.ofW (cc := cX6_singleCells) (maxL := 8) (ret := (some .long)) (by decide) rfl ?_
  intro p e s m args below meth c s₁ B hml hv
  obtain ⟨rfl, hP, hK, hev⟩ := hv
  have hx := B.exec
  have hb := B.bytes
  have hr := B.returns
  have hts := atoms_spec (ws := w_c_singleCells) B.pre
  have hown : s.vm.findClass RX6 = some m.cls := findClass_of_methodNamed B.named
  have hlocks := B.notSynchronized
  have inX6 : ∀ w ∈ wsX60, w ∈ w_c_singleCells := fun w h => List.mem_cons_of_mem _ (List.mem_append_right _ h)
  have hP : va_P (dC, dI) vwCl [(h0, .inr (4, [.int 0, w1, w2, w3, .ref q1, w5, w6, w7, w8])), (q1, .inl (c1, 4, .inl f1))] s.heap := hP
  have hl := lv_entry ([.ref h0]) (n := 8) (Nat.le_of_ble_eq_true rfl)
  rw [lg_entry_eq]
  generalize (lg_sl ([.ref h0]) ++ List.replicate (8 - (lg_sl ([.ref h0])).length) Slot.unset).toArray = ls at hl ⊢
  have hl : lv_has ls 8 [(0, .ref h0)] := hl
  refine lv_lconst (v := 0) hx hb dX6_singleCells_0 (by decide) ?_
  refine lv_lstore_n (lv' := [(1, .long 0), (0, .ref h0)]) hx hb dX6_singleCells_1 rfl hl (by decide) rfl (fun ls hl => ?_)
  refine lv_lconst (v := 0) hx hb dX6_singleCells_2 (by decide) ?_
  refine lv_lstore_n (lv' := [(3, .long 0), (1, .long 0), (0, .ref h0)]) hx hb dX6_singleCells_3 rfl hl (by decide) rfl (fun ls hl => ?_)
  refine lv_iconst (v := 0) hx hb dX6_singleCells_4 (by decide) ?_
  refine lv_istore (lv' := [(5, .int 0), (3, .long 0), (1, .long 0), (0, .ref h0)]) hx hb dX6_singleCells_5 hl (by decide) rfl (fun ls hl => ?_)
  refine lv_iload hx hb dX6_singleCells_7 (lv_at hl 0 rfl) ?_
  refine lv_iconst (v := 4) hx hb dX6_singleCells_9 (by decide) ?_
  refine lv_icmp_ge (tgt := 39) hx hb dX6_singleCells_10 (by decide) (fun c => absurd c (by decide)) (fun _ => ?_)
  refine lv_aload_n hx hb dX6_singleCells_13 rfl (lv_at hl 3 rfl) ?_
  refine lv_iload hx hb dX6_singleCells_14 (lv_at hl 0 rfl) ?_
  have hPc := hP.sub (ws' := [(h0, .inr (4, [.int 0, w1, w2, w3, .ref q1, w5, w6, w7, w8])), (q1, .inl (c1, 4, .inl f1))]) [0, 1] rfl
  have hKc := hK.sub (tys' := [(c1, .int)]) [0] rfl
  refine vp_callSl (W.runV (As := [.int 0]) (rest := []) ⟨hx, hb, hml, hown, hts⟩ (c_cellsOfHold l dC dI ad h0 0 w1 w2 w3 q1 w5 w6 w7 w8 c1 f1 hf (vp_in_nI (n := 0) (by decide) (by decide))) (cwV 1 hts g_c_singleCells_c_cellsOfHold_88 rfl rfl rfl (by decide +kernel) ⟨(Nat.le_of_ble_eq_true rfl), (Nat.le_of_ble_eq_true rfl)⟩) ⟨preS_blind, va_recv hKc hPc (ci := 4) (q0 := 0) rfl rfl, fun U hU hW => ⟨rfl, preS_at hU hW hPc hKc hev⟩⟩ rfl rfl hl.1 rfl (lv_room (Nat.le_of_ble_eq_true rfl)) dX6_singleCells_16 ⟨(Nat.le_of_ble_eq_true rfl), (Nat.le_of_ble_eq_true rfl)⟩) (fun r_1 hw => ?_)
  subst hw
  refine lv_lstore (lv' := [(6, .long 0), (5, .int 0), (3, .long 0), (1, .long 0), (0, .ref h0)]) hx hb dX6_singleCells_19 hl (by decide) rfl (fun ls hl => ?_)
  refine lv_lload_n hx hb dX6_singleCells_21 rfl (lv_at hl 2 rfl) ?_
  refine lv_lload_n hx hb dX6_singleCells_22 rfl (lv_at hl 3 rfl) ?_
  refine lv_lload hx hb dX6_singleCells_23 (lv_at hl 0 rfl) ?_
  refine lv_land hx hb dX6_singleCells_25 ?_
  refine pp_tl (y := 0) (by decide) ?_
  refine lv_lor hx hb dX6_singleCells_26 ?_
  refine pp_tl (y := 0) (by decide) ?_
  refine lv_lstore_n (lv' := [(3, .long 0), (6, .long 0), (5, .int 0), (1, .long 0), (0, .ref h0)]) hx hb dX6_singleCells_27 rfl hl (by decide) rfl (fun ls hl => ?_)
  refine lv_lload_n hx hb dX6_singleCells_28 rfl (lv_at hl 3 rfl) ?_
  refine lv_lload hx hb dX6_singleCells_29 (lv_at hl 1 rfl) ?_
  refine lv_lor hx hb dX6_singleCells_31 ?_
  refine pp_tl (y := 0) (by decide) ?_
  refine lv_lstore_n (lv' := [(1, .long 0), (3, .long 0), (6, .long 0), (5, .int 0), (0, .ref h0)]) hx hb dX6_singleCells_32 rfl hl (by decide) rfl (fun ls hl => ?_)
  refine lv_iinc (v := 1) (lv' := [(5, .int 1), (1, .long 0), (3, .long 0), (6, .long 0), (0, .ref h0)]) hx hb dX6_singleCells_33 hl (k := 3) rfl (by decide) (by decide) rfl (fun ls hl => ?_)
  refine lv_goto (tgt := 7) hx hb dX6_singleCells_36 (by decide) ?_
  refine lv_iload hx hb dX6_singleCells_7 (lv_at hl 0 rfl) ?_
  refine lv_iconst (v := 4) hx hb dX6_singleCells_9 (by decide) ?_
  refine lv_icmp_ge (tgt := 39) hx hb dX6_singleCells_10 (by decide) (fun c => absurd c (by decide)) (fun _ => ?_)
  refine lv_aload_n hx hb dX6_singleCells_13 rfl (lv_at hl 4 rfl) ?_
  refine lv_iload hx hb dX6_singleCells_14 (lv_at hl 0 rfl) ?_
  have hPc := hP.sub (ws' := [(h0, .inr (4, [.int 0, w1, w2, w3, .ref q1, w5, w6, w7, w8])), (q1, .inl (c1, 4, .inl f1))]) [0, 1] rfl
  have hKc := hK.sub (tys' := [(c1, .int)]) [0] rfl
  refine vp_callSl (W.runV (As := [.int 1]) (rest := []) ⟨hx, hb, hml, hown, hts⟩ (c_cellsOfHold l dC dI ad h0 1 w1 w2 w3 q1 w5 w6 w7 w8 c1 f1 hf (vp_in_nI (n := 1) (by decide) (by decide))) (cwV 1 hts g_c_singleCells_c_cellsOfHold_88 rfl rfl rfl (by decide +kernel) ⟨(Nat.le_of_ble_eq_true rfl), (Nat.le_of_ble_eq_true rfl)⟩) ⟨preS_blind, va_recv hKc hPc (ci := 4) (q0 := 0) rfl rfl, fun U hU hW => ⟨rfl, preS_at hU hW hPc hKc hev⟩⟩ rfl rfl hl.1 rfl (lv_room (Nat.le_of_ble_eq_true rfl)) dX6_singleCells_16 ⟨(Nat.le_of_ble_eq_true rfl), (Nat.le_of_ble_eq_true rfl)⟩) (fun r_2 hw => ?_)
  subst hw
  refine lv_lstore (lv' := [(6, .long 0), (5, .int 1), (1, .long 0), (3, .long 0), (0, .ref h0)]) hx hb dX6_singleCells_19 hl (by decide) rfl (fun ls hl => ?_)
  refine lv_lload_n hx hb dX6_singleCells_21 rfl (lv_at hl 3 rfl) ?_
  refine lv_lload_n hx hb dX6_singleCells_22 rfl (lv_at hl 2 rfl) ?_
  refine lv_lload hx hb dX6_singleCells_23 (lv_at hl 0 rfl) ?_
  refine lv_land hx hb dX6_singleCells_25 ?_
  refine pp_tl (y := 0) (by decide) ?_
  refine lv_lor hx hb dX6_singleCells_26 ?_
  refine pp_tl (y := 0) (by decide) ?_
  refine lv_lstore_n (lv' := [(3, .long 0), (6, .long 0), (5, .int 1), (1, .long 0), (0, .ref h0)]) hx hb dX6_singleCells_27 rfl hl (by decide) rfl (fun ls hl => ?_)
  refine lv_lload_n hx hb dX6_singleCells_28 rfl (lv_at hl 3 rfl) ?_
  refine lv_lload hx hb dX6_singleCells_29 (lv_at hl 1 rfl) ?_
  refine lv_lor hx hb dX6_singleCells_31 ?_
  refine pp_tl (y := 0) (by decide) ?_
  refine lv_lstore_n (lv' := [(1, .long 0), (3, .long 0), (6, .long 0), (5, .int 1), (0, .ref h0)]) hx hb dX6_singleCells_32 rfl hl (by decide) rfl (fun ls hl => ?_)
  refine lv_iinc (v := 2) (lv' := [(5, .int 2), (1, .long 0), (3, .long 0), (6, .long 0), (0, .ref h0)]) hx hb dX6_singleCells_33 hl (k := 3) rfl (by decide) (by decide) rfl (fun ls hl => ?_)
  refine lv_goto (tgt := 7) hx hb dX6_singleCells_36 (by decide) ?_
  refine lv_iload hx hb dX6_singleCells_7 (lv_at hl 0 rfl) ?_
  refine lv_iconst (v := 4) hx hb dX6_singleCells_9 (by decide) ?_
  refine lv_icmp_ge (tgt := 39) hx hb dX6_singleCells_10 (by decide) (fun c => absurd c (by decide)) (fun _ => ?_)
  refine lv_aload_n hx hb dX6_singleCells_13 rfl (lv_at hl 4 rfl) ?_
  refine lv_iload hx hb dX6_singleCells_14 (lv_at hl 0 rfl) ?_
  have hPc := hP.sub (ws' := [(h0, .inr (4, [.int 0, w1, w2, w3, .ref q1, w5, w6, w7, w8])), (q1, .inl (c1, 4, .inl f1))]) [0, 1] rfl
  have hKc := hK.sub (tys' := [(c1, .int)]) [0] rfl
  refine vp_callSl (W.runV (As := [.int 2]) (rest := []) ⟨hx, hb, hml, hown, hts⟩ (c_cellsOfHold l dC dI ad h0 2 w1 w2 w3 q1 w5 w6 w7 w8 c1 f1 hf (vp_in_nI (n := 2) (by decide) (by decide))) (cwV 1 hts g_c_singleCells_c_cellsOfHold_88 rfl rfl rfl (by decide +kernel) ⟨(Nat.le_of_ble_eq_true rfl), (Nat.le_of_ble_eq_true rfl)⟩) ⟨preS_blind, va_recv hKc hPc (ci := 4) (q0 := 0) rfl rfl, fun U hU hW => ⟨rfl, preS_at hU hW hPc hKc hev⟩⟩ rfl rfl hl.1 rfl (lv_room (Nat.le_of_ble_eq_true rfl)) dX6_singleCells_16 ⟨(Nat.le_of_ble_eq_true rfl), (Nat.le_of_ble_eq_true rfl)⟩) (fun r_3 hw => ?_)
  subst hw
  refine lv_lstore (lv' := [(6, .long 0), (5, .int 2), (1, .long 0), (3, .long 0), (0, .ref h0)]) hx hb dX6_singleCells_19 hl (by decide) rfl (fun ls hl => ?_)
  refine lv_lload_n hx hb dX6_singleCells_21 rfl (lv_at hl 3 rfl) ?_
  refine lv_lload_n hx hb dX6_singleCells_22 rfl (lv_at hl 2 rfl) ?_
  refine lv_lload hx hb dX6_singleCells_23 (lv_at hl 0 rfl) ?_
  refine lv_land hx hb dX6_singleCells_25 ?_
  refine pp_tl (y := 0) (by decide) ?_
  refine lv_lor hx hb dX6_singleCells_26 ?_
  refine pp_tl (y := 0) (by decide) ?_
  refine lv_lstore_n (lv' := [(3, .long 0), (6, .long 0), (5, .int 2), (1, .long 0), (0, .ref h0)]) hx hb dX6_singleCells_27 rfl hl (by decide) rfl (fun ls hl => ?_)
  refine lv_lload_n hx hb dX6_singleCells_28 rfl (lv_at hl 3 rfl) ?_
  refine lv_lload hx hb dX6_singleCells_29 (lv_at hl 1 rfl) ?_
  refine lv_lor hx hb dX6_singleCells_31 ?_
  refine pp_tl (y := 0) (by decide) ?_
  refine lv_lstore_n (lv' := [(1, .long 0), (3, .long 0), (6, .long 0), (5, .int 2), (0, .ref h0)]) hx hb dX6_singleCells_32 rfl hl (by decide) rfl (fun ls hl => ?_)
  refine lv_iinc (v := 3) (lv' := [(5, .int 3), (1, .long 0), (3, .long 0), (6, .long 0), (0, .ref h0)]) hx hb dX6_singleCells_33 hl (k := 3) rfl (by decide) (by decide) rfl (fun ls hl => ?_)
  refine lv_goto (tgt := 7) hx hb dX6_singleCells_36 (by decide) ?_
  refine lv_iload hx hb dX6_singleCells_7 (lv_at hl 0 rfl) ?_
  refine lv_iconst (v := 4) hx hb dX6_singleCells_9 (by decide) ?_
  refine lv_icmp_ge (tgt := 39) hx hb dX6_singleCells_10 (by decide) (fun c => absurd c (by decide)) (fun _ => ?_)
  refine lv_aload_n hx hb dX6_singleCells_13 rfl (lv_at hl 4 rfl) ?_
  refine lv_iload hx hb dX6_singleCells_14 (lv_at hl 0 rfl) ?_
  have hPc := hP.sub (ws' := [(h0, .inr (4, [.int 0, w1, w2, w3, .ref q1, w5, w6, w7, w8])), (q1, .inl (c1, 4, .inl f1))]) [0, 1] rfl
  have hKc := hK.sub (tys' := [(c1, .int)]) [0] rfl
  refine vp_callSl (W.runV (As := [.int 3]) (rest := []) ⟨hx, hb, hml, hown, hts⟩ (c_cellsOfHold l dC dI ad h0 3 w1 w2 w3 q1 w5 w6 w7 w8 c1 f1 hf (vp_in_nI (n := 3) (by decide) (by decide))) (cwV 1 hts g_c_singleCells_c_cellsOfHold_88 rfl rfl rfl (by decide +kernel) ⟨(Nat.le_of_ble_eq_true rfl), (Nat.le_of_ble_eq_true rfl)⟩) ⟨preS_blind, va_recv hKc hPc (ci := 4) (q0 := 0) rfl rfl, fun U hU hW => ⟨rfl, preS_at hU hW hPc hKc hev⟩⟩ rfl rfl hl.1 rfl (lv_room (Nat.le_of_ble_eq_true rfl)) dX6_singleCells_16 ⟨(Nat.le_of_ble_eq_true rfl), (Nat.le_of_ble_eq_true rfl)⟩) (fun r_4 hw => ?_)
  subst hw
  refine lv_lstore (lv' := [(6, .long 0), (5, .int 3), (1, .long 0), (3, .long 0), (0, .ref h0)]) hx hb dX6_singleCells_19 hl (by decide) rfl (fun ls hl => ?_)
  refine lv_lload_n hx hb dX6_singleCells_21 rfl (lv_at hl 3 rfl) ?_
  refine lv_lload_n hx hb dX6_singleCells_22 rfl (lv_at hl 2 rfl) ?_
  refine lv_lload hx hb dX6_singleCells_23 (lv_at hl 0 rfl) ?_
  refine lv_land hx hb dX6_singleCells_25 ?_
  refine pp_tl (y := 0) (by decide) ?_
  refine lv_lor hx hb dX6_singleCells_26 ?_
  refine pp_tl (y := 0) (by decide) ?_
  refine lv_lstore_n (lv' := [(3, .long 0), (6, .long 0), (5, .int 3), (1, .long 0), (0, .ref h0)]) hx hb dX6_singleCells_27 rfl hl (by decide) rfl (fun ls hl => ?_)
  refine lv_lload_n hx hb dX6_singleCells_28 rfl (lv_at hl 3 rfl) ?_
  refine lv_lload hx hb dX6_singleCells_29 (lv_at hl 1 rfl) ?_
  refine lv_lor hx hb dX6_singleCells_31 ?_
  refine pp_tl (y := 0) (by decide) ?_
  refine lv_lstore_n (lv' := [(1, .long 0), (3, .long 0), (6, .long 0), (5, .int 3), (0, .ref h0)]) hx hb dX6_singleCells_32 rfl hl (by decide) rfl (fun ls hl => ?_)
  refine lv_iinc (v := 4) (lv' := [(5, .int 4), (1, .long 0), (3, .long 0), (6, .long 0), (0, .ref h0)]) hx hb dX6_singleCells_33 hl (k := 3) rfl (by decide) (by decide) rfl (fun ls hl => ?_)
  refine lv_goto (tgt := 7) hx hb dX6_singleCells_36 (by decide) ?_
  refine lv_iload hx hb dX6_singleCells_7 (lv_at hl 0 rfl) ?_
  refine lv_iconst (v := 4) hx hb dX6_singleCells_9 (by decide) ?_
  refine lv_icmp_ge (tgt := 39) hx hb dX6_singleCells_10 (by decide) (fun _ => ?_) (fun c => absurd (by decide) c)
  refine lv_lload_n hx hb dX6_singleCells_39 rfl (lv_at hl 1 rfl) ?_
  refine lv_lload_n hx hb dX6_singleCells_40 rfl (lv_at hl 2 rfl) ?_
  refine lv_ldc2 hx hb hown (hts _ (List.mem_of_getElem? (i := 12) rfl)) dX6_singleCells_41 ?_
  refine lv_lxor hx hb dX6_singleCells_44 ?_
  refine pp_tl (y := (-1)) (by decide) ?_
  refine lv_land hx hb dX6_singleCells_45 ?_
  refine pp_tl (y := 0) (by decide) ?_
  exact W.lret (v := 0) hx hb hr (fun t ht hW => ⟨0, rfl, rfl, ht⟩) (fun _ h => absurd h List.not_mem_nil) dX6_singleCells_46

def w_c_holdsInUse : List Cond := .code yX6_holdsInUse cX6_holdsInUse 3 (some .int) :: (([.fieldLink RX6 25 "LampShapes$Stage" "heldShapes" "[I"] : List Cond) ++ wsX60)
set_option maxHeartbeats 4000000 in
set_option maxRecDepth 100000 in
theorem c_holdsInUse (l : Launch) (dC : Nat → ClassId) (dI : Nat → Nat → Nat) (ad : Nat → Nat) (h0 : Nat) (w1 : Value) (w2 : Value) (w3 : Value) (q1 : Nat) (w5 : Value) (w6 : Value) (w7 : Value) (w8 : Value) (c1 : ClassId) (f1 : Nat → Int32) (hf : ∀ j, j < 4 → f1 j = (-1)) : Met l yX6_holdsInUse w_c_holdsInUse ({ frames := 0, cells := 0, slots := 0, locals := 0 } : Room) (va_Pc [.ref h0] (preS dC dI ad [(c1, .int)] [(h0, .inr (4, [.int 0, w1, w2, w3, .ref q1, w5, w6, w7, w8])), (q1, .inl (c1, 4, .inl f1))])) (vp_Si (fun r => (r = 0))) 0 0 (fun _ => False) := by
  refine Met.ofW (cc := cX6_holdsInUse) (maxL := 3) (ret := (some .int)) (by decide) rfl ?_
  intro p e s m args below meth c s₁ B hml hv
  obtain ⟨rfl, hP, hK, hev⟩ := hv
  have hx := B.exec
  have hb := B.bytes
  have hr := B.returns
  have hts := atoms_spec (ws := w_c_holdsInUse) B.pre
  have hown : s.vm.findClass RX6 = some m.cls := findClass_of_methodNamed B.named
  have hlocks := B.notSynchronized
  have inX6 : ∀ w ∈ wsX60, w ∈ w_c_holdsInUse := fun w h => List.mem_cons_of_mem _ (List.mem_append_right _ h)
  have hP : va_P (dC, dI) vwCl [(h0, .inr (4, [.int 0, w1, w2, w3, .ref q1, w5, w6, w7, w8])), (q1, .inl (c1, 4, .inl f1))] s.heap := hP
  have hl := lv_entry ([.ref h0]) (n := 3) (Nat.le_of_ble_eq_true rfl)
  rw [lg_entry_eq]
  generalize (lg_sl ([.ref h0]) ++ List.replicate (3 - (lg_sl ([.ref h0])).length) Slot.unset).toArray = ls at hl ⊢
  have hl : lv_has ls 3 [(0, .ref h0)] := hl
  refine lv_iconst (v := 0) hx hb dX6_holdsInUse_0 (by decide) ?_
  refine lv_istore_n (lv' := [(1, .int 0), (0, .ref h0)]) hx hb dX6_holdsInUse_1 rfl hl (by decide) rfl (fun ls hl => ?_)
  refine lv_iconst (v := 0) hx hb dX6_holdsInUse_2 (by decide) ?_
  refine lv_istore_n (lv' := [(2, .int 0), (1, .int 0), (0, .ref h0)]) hx hb dX6_holdsInUse_3 rfl hl (by decide) rfl (fun ls hl => ?_)
  refine lv_iload_n hx hb dX6_holdsInUse_4 rfl (lv_at hl 0 rfl) ?_
  refine lv_iconst (v := 4) hx hb dX6_holdsInUse_5 (by decide) ?_
  refine lv_icmp_ge (tgt := 27) hx hb dX6_holdsInUse_6 (by decide) (fun c => absurd c (by decide)) (fun _ => ?_)
  refine lv_aload_n hx hb dX6_holdsInUse_9 rfl (lv_at hl 2 rfl) ?_
  refine va_get (D := (dC, dI)) (ci := 4) (v := .ref q1) (C := RX6) (T := TX6) (N := 9) hx hb hts inX6 hown hK hP 0 rfl rfl 4 (by decide) (hts _ (List.mem_of_getElem? (i := 1) rfl)) (fun _ h9 => h9) rfl dX6_holdsInUse_10 ?_
  refine lv_iload_n hx hb dX6_holdsInUse_13 rfl (lv_at hl 0 rfl) ?_
  refine va_iald hx hb hK hP 1 0 rfl rfl (vp_in_nI (n := 0) (by decide) (by decide)) dX6_holdsInUse_14 ?_
  refine pp_ti (y := (-1)) (hf _ (pp_in_lt (vp_in_nI (n := 0) (by decide) (by decide)))) ?_
  refine lv_if_lt (tgt := 21) hx hb dX6_holdsInUse_15 (by decide) (fun _ => ?_) (fun c => absurd (by decide) c)
  refine lv_iinc (v := 1) (lv' := [(2, .int 1), (1, .int 0), (0, .ref h0)]) hx hb dX6_holdsInUse_21 hl (k := 0) rfl (by decide) (by decide) rfl (fun ls hl => ?_)
  refine lv_goto (tgt := 4) hx hb dX6_holdsInUse_24 (by decide) ?_
  refine lv_iload_n hx hb dX6_holdsInUse_4 rfl (lv_at hl 0 rfl) ?_
  refine lv_iconst (v := 4) hx hb dX6_holdsInUse_5 (by decide) ?_
  refine lv_icmp_ge (tgt := 27) hx hb dX6_holdsInUse_6 (by decide) (fun c => absurd c (by decide)) (fun _ => ?_)
  refine lv_aload_n hx hb dX6_holdsInUse_9 rfl (lv_at hl 2 rfl) ?_
  refine va_get (D := (dC, dI)) (ci := 4) (v := .ref q1) (C := RX6) (T := TX6) (N := 9) hx hb hts inX6 hown hK hP 0 rfl rfl 4 (by decide) (hts _ (List.mem_of_getElem? (i := 1) rfl)) (fun _ h9 => h9) rfl dX6_holdsInUse_10 ?_
  refine lv_iload_n hx hb dX6_holdsInUse_13 rfl (lv_at hl 0 rfl) ?_
  refine va_iald hx hb hK hP 1 0 rfl rfl (vp_in_nI (n := 1) (by decide) (by decide)) dX6_holdsInUse_14 ?_
  refine pp_ti (y := (-1)) (hf _ (pp_in_lt (vp_in_nI (n := 1) (by decide) (by decide)))) ?_
  refine lv_if_lt (tgt := 21) hx hb dX6_holdsInUse_15 (by decide) (fun _ => ?_) (fun c => absurd (by decide) c)
  refine lv_iinc (v := 2) (lv' := [(2, .int 2), (1, .int 0), (0, .ref h0)]) hx hb dX6_holdsInUse_21 hl (k := 0) rfl (by decide) (by decide) rfl (fun ls hl => ?_)
  refine lv_goto (tgt := 4) hx hb dX6_holdsInUse_24 (by decide) ?_
  refine lv_iload_n hx hb dX6_holdsInUse_4 rfl (lv_at hl 0 rfl) ?_
  refine lv_iconst (v := 4) hx hb dX6_holdsInUse_5 (by decide) ?_
  refine lv_icmp_ge (tgt := 27) hx hb dX6_holdsInUse_6 (by decide) (fun c => absurd c (by decide)) (fun _ => ?_)
  refine lv_aload_n hx hb dX6_holdsInUse_9 rfl (lv_at hl 2 rfl) ?_
  refine va_get (D := (dC, dI)) (ci := 4) (v := .ref q1) (C := RX6) (T := TX6) (N := 9) hx hb hts inX6 hown hK hP 0 rfl rfl 4 (by decide) (hts _ (List.mem_of_getElem? (i := 1) rfl)) (fun _ h9 => h9) rfl dX6_holdsInUse_10 ?_
  refine lv_iload_n hx hb dX6_holdsInUse_13 rfl (lv_at hl 0 rfl) ?_
  refine va_iald hx hb hK hP 1 0 rfl rfl (vp_in_nI (n := 2) (by decide) (by decide)) dX6_holdsInUse_14 ?_
  refine pp_ti (y := (-1)) (hf _ (pp_in_lt (vp_in_nI (n := 2) (by decide) (by decide)))) ?_
  refine lv_if_lt (tgt := 21) hx hb dX6_holdsInUse_15 (by decide) (fun _ => ?_) (fun c => absurd (by decide) c)
  refine lv_iinc (v := 3) (lv' := [(2, .int 3), (1, .int 0), (0, .ref h0)]) hx hb dX6_holdsInUse_21 hl (k := 0) rfl (by decide) (by decide) rfl (fun ls hl => ?_)
  refine lv_goto (tgt := 4) hx hb dX6_holdsInUse_24 (by decide) ?_
  refine lv_iload_n hx hb dX6_holdsInUse_4 rfl (lv_at hl 0 rfl) ?_
  refine lv_iconst (v := 4) hx hb dX6_holdsInUse_5 (by decide) ?_
  refine lv_icmp_ge (tgt := 27) hx hb dX6_holdsInUse_6 (by decide) (fun c => absurd c (by decide)) (fun _ => ?_)
  refine lv_aload_n hx hb dX6_holdsInUse_9 rfl (lv_at hl 2 rfl) ?_
  refine va_get (D := (dC, dI)) (ci := 4) (v := .ref q1) (C := RX6) (T := TX6) (N := 9) hx hb hts inX6 hown hK hP 0 rfl rfl 4 (by decide) (hts _ (List.mem_of_getElem? (i := 1) rfl)) (fun _ h9 => h9) rfl dX6_holdsInUse_10 ?_
  refine lv_iload_n hx hb dX6_holdsInUse_13 rfl (lv_at hl 0 rfl) ?_
  refine va_iald hx hb hK hP 1 0 rfl rfl (vp_in_nI (n := 3) (by decide) (by decide)) dX6_holdsInUse_14 ?_
  refine pp_ti (y := (-1)) (hf _ (pp_in_lt (vp_in_nI (n := 3) (by decide) (by decide)))) ?_
  refine lv_if_lt (tgt := 21) hx hb dX6_holdsInUse_15 (by decide) (fun _ => ?_) (fun c => absurd (by decide) c)
  refine lv_iinc (v := 4) (lv' := [(2, .int 4), (1, .int 0), (0, .ref h0)]) hx hb dX6_holdsInUse_21 hl (k := 0) rfl (by decide) (by decide) rfl (fun ls hl => ?_)
  refine lv_goto (tgt := 4) hx hb dX6_holdsInUse_24 (by decide) ?_
  refine lv_iload_n hx hb dX6_holdsInUse_4 rfl (lv_at hl 0 rfl) ?_
  refine lv_iconst (v := 4) hx hb dX6_holdsInUse_5 (by decide) ?_
  refine lv_icmp_ge (tgt := 27) hx hb dX6_holdsInUse_6 (by decide) (fun _ => ?_) (fun c => absurd (by decide) c)
  refine lv_iload_n hx hb dX6_holdsInUse_27 rfl (lv_at hl 1 rfl) ?_
  exact W.iret (v := 0) hx hb hr (fun t ht hW => ⟨0, rfl, rfl, ht⟩) (fun _ h => absurd h List.not_mem_nil) dX6_holdsInUse_28

def w_c_takeAll : List Cond := .code yX6_takeAll cX6_takeAll 2 none :: (([.fieldLink RX6 9 "LampShapes$Stage" "shapes" "I", .fieldLink RX6 15 "LampShapes$Stage" "kinds" "[I", .methodLink RX6 41 arraycopyName, .native arraycopyName, .static arraycopyName, .initialized "java/lang/System", .fieldLink RX6 19 "LampShapes$Stage" "points" "[I", .fieldLink RX6 22 "LampShapes$Stage" "tornShapes" "I", .fieldLink RX6 25 "LampShapes$Stage" "heldShapes" "[I", .fieldLink RX6 28 "LampShapes$Stage" "heldPlacings" "[I", .fieldLink RX6 31 "LampShapes$Stage" "scenes" "I", .fieldLink RX6 34 "LampShapes$Stage" "pictures" "[J", .fieldLink RX6 38 "LampShapes$Stage" "allowed" "I"] : List Cond) ++ wsX60)
set_option maxHeartbeats 4000000 in
set_option maxRecDepth 100000 in
/-- takeAll(): nothing is said of what came -/
theorem c_takeAll (l : Launch) (dC : Nat → ClassId) (dI : Nat → Nat → Nat) (ad : Nat → Nat) (h0 : Nat) (h1 : Nat) (w0 : Int32) (a0 : Nat) (a1 : Nat) (w1 : Int32) (a2 : Nat) (a3 : Nat) (w2 : Int32) (a4 : Nat) (w3 : Int32) (ac0 : ClassId) (af0 : Nat → Int32) (ac1 : ClassId) (af1 : Nat → Int32) (ac2 : ClassId) (af2 : Nat → Int32) (ac3 : ClassId) (af3 : Nat → Int32) (ac4 : ClassId) (af4 : Nat → Int64) (x0 : Int32) (b0 : Nat) (b1 : Nat) (x1 : Int32) (b2 : Nat) (b3 : Nat) (x2 : Int32) (b4 : Nat) (x3 : Int32) (bc0 : ClassId) (bf0 : Nat → Int32) (bc1 : ClassId) (bf1 : Nat → Int32) (bc2 : ClassId) (bf2 : Nat → Int32) (bc3 : ClassId) (bf3 : Nat → Int32) (bc4 : ClassId) (bf4 : Nat → Int64) (sz : Nat) : Met l yX6_takeAll w_c_takeAll ({ frames := 1, cells := 0, slots := 0, locals := 40 } : Room) (va_Pc [.ref h0, .ref h1] (preM dC dI ad [(ac0, .int), (ac1, .int), (ac2, .int), (ac3, .int), (ac4, .long), (bc0, .int), (bc1, .int), (bc2, .int), (bc3, .int), (bc4, .long)] [(h0, .inr (4, [.int w0, .ref a0, .ref a1, .int w1, .ref a2, .ref a3, .int w2, .ref a4, .int w3])), (a0, .inl (ac0, 9, .inl af0)), (a1, .inl (ac1, 9, .inl af1)), (a2, .inl (ac2, 4, .inl af2)), (a3, .inl (ac3, 4, .inl af3)), (a4, .inl (ac4, 7, .inr (.inl af4))), (h1, .inr (4, [.int x0, .ref b0, .ref b1, .int x1, .ref b2, .ref b3, .int x2, .ref b4, .int x3])), (b0, .inl (bc0, 9, .inl bf0)), (b1, .inl (bc1, 9, .inl bf1)), (b2, .inl (bc2, 4, .inl bf2)), (b3, .inl (bc3, 4, .inl bf3)), (b4, .inl (bc4, 7, .inr (.inl bf4)))] sz)) (va_Qv (fun (_ : Unit) => True) (fun _ _ => True) (va_A [(h0, .inr (4, [.int w0, .ref a0, .ref a1, .int w1, .ref a2, .ref a3, .int w2, .ref a4, .int w3])), (a0, .inl (ac0, 9, .inl af0)), (a1, .inl (ac1, 9, .inl af1)), (a2, .inl (ac2, 4, .inl af2)), (a3, .inl (ac3, 4, .inl af3)), (a4, .inl (ac4, 7, .inr (.inl af4))), (h1, .inr (4, [.int x0, .ref b0, .ref b1, .int x1, .ref b2, .ref b3, .int x2, .ref b4, .int x3])), (b0, .inl (bc0, 9, .inl bf0)), (b1, .inl (bc1, 9, .inl bf1)), (b2, .inl (bc2, 4, .inl bf2)), (b3, .inl (bc3, 4, .inl bf3)), (b4, .inl (bc4, 7, .inr (.inl bf4)))] sz)) 0 0 (va_A [(h0, .inr (4, [.int w0, .ref a0, .ref a1, .int w1, .ref a2, .ref a3, .int w2, .ref a4, .int w3])), (a0, .inl (ac0, 9, .inl af0)), (a1, .inl (ac1, 9, .inl af1)), (a2, .inl (ac2, 4, .inl af2)), (a3, .inl (ac3, 4, .inl af3)), (a4, .inl (ac4, 7, .inr (.inl af4))), (h1, .inr (4, [.int x0, .ref b0, .ref b1, .int x1, .ref b2, .ref b3, .int x2, .ref b4, .int x3])), (b0, .inl (bc0, 9, .inl bf0)), (b1, .inl (bc1, 9, .inl bf1)), (b2, .inl (bc2, 4, .inl bf2)), (b3, .inl (bc3, 4, .inl bf3)), (b4, .inl (bc4, 7, .inr (.inl bf4)))] sz) := by
  refine Met.ofW (cc := cX6_takeAll) (maxL := 2) (ret := none) (by decide) rfl ?_
  intro p e s m args below meth c s₁ B hml hv
  obtain ⟨rfl, hsz, hP, hK, hD0, hev⟩ := hv
  have hx := B.exec
  have hb := B.bytes
  have hr := B.returns
  have hts := atoms_spec (ws := w_c_takeAll) B.pre
  have hown : s.vm.findClass RX6 = some m.cls := findClass_of_methodNamed B.named
  have hlocks := B.notSynchronized
  have inX6 : ∀ w ∈ wsX60, w ∈ w_c_takeAll := fun w h => List.mem_cons_of_mem _ (List.mem_append_right _ h)
  subst hsz
  have hD := hD0.self (sz := s.heap.size)
  generalize hAe : va_A [(h0, .inr (4, [.int w0, .ref a0, .ref a1, .int w1, .ref a2, .ref a3, .int w2, .ref a4, .int w3])), (a0, .inl (ac0, 9, .inl af0)), (a1, .inl (ac1, 9, .inl af1)), (a2, .inl (ac2, 4, .inl af2)), (a3, .inl (ac3, 4, .inl af3)), (a4, .inl (ac4, 7, .inr (.inl af4))), (h1, .inr (4, [.int x0, .ref b0, .ref b1, .int x1, .ref b2, .ref b3, .int x2, .ref b4, .int x3])), (b0, .inl (bc0, 9, .inl bf0)), (b1, .inl (bc1, 9, .inl bf1)), (b2, .inl (bc2, 4, .inl bf2)), (b3, .inl (bc3, 4, .inl bf3)), (b4, .inl (bc4, 7, .inr (.inl bf4)))] s.heap.size = A at hD ⊢
  have hA : ∀ q : Nat, s.heap.size ≤ q → A q := fun q h => by rw [← hAe]; exact Or.inr h
  have hS : va_S A s.heap s.heap [] := va_S.rf
  have hP : va_P (dC, dI) vwCl [(h0, .inr (4, [.int w0, .ref a0, .ref a1, .int w1, .ref a2, .ref a3, .int w2, .ref a4, .int w3])), (a0, .inl (ac0, 9, .inl af0)), (a1, .inl (ac1, 9, .inl af1)), (a2, .inl (ac2, 4, .inl af2)), (a3, .inl (ac3, 4, .inl af3)), (a4, .inl (ac4, 7, .inr (.inl af4))), (h1, .inr (4, [.int x0, .ref b0, .ref b1, .int x1, .ref b2, .ref b3, .int x2, .ref b4, .int x3])), (b0, .inl (bc0, 9, .inl bf0)), (b1, .inl (bc1, 9, .inl bf1)), (b2, .inl (bc2, 4, .inl bf2)), (b3, .inl (bc3, 4, .inl bf3)), (b4, .inl (bc4, 7, .inr (.inl bf4)))] s.heap := hP
  have hl := lv_entry ([.ref h0, .ref h1]) (n := 2) (Nat.le_of_ble_eq_true rfl)
  rw [lg_entry_eq]
  generalize (lg_sl ([.ref h0, .ref h1]) ++ List.replicate (2 - (lg_sl ([.ref h0, .ref h1])).length) Slot.unset).toArray = ls at hl ⊢
  have hl : lv_has ls 2 [(0, .ref h0), (1, .ref h1)] := hl
  refine lv_aload_n hx hb dX6_takeAll_0 rfl (lv_at hl 0 rfl) ?_
  refine lv_aload_n hx hb dX6_takeAll_1 rfl (lv_at hl 1 rfl) ?_
  refine va_get (D := (dC, dI)) (ci := 4) (v := .int x0) (C := RX6) (T := TX6) (N := 9) hx hb hts inX6 hown hK hP 6 rfl rfl 0 (by decide) (hts _ (List.mem_of_getElem? (i := 1) rfl)) (fun _ h9 => h9) rfl dX6_takeAll_2 ?_
  refine va_put (D := (dC, dI)) (ci := 4) (v := .int x0) (ty := .int) (C := RX6) (T := TX6) (N := 9) hx hb hts inX6 tyX6 tyX6_ok nmX6 hown hK hP hD hS 0 rfl rfl 0 (by decide) (hts _ (List.mem_of_getElem? (i := 1) rfl)) (fun _ h9 => h9) rfl (by decide +kernel) rfl rfl (Nat.le_of_ble_eq_true rfl) dX6_takeAll_5 (fun H locs hP hD hS => ?_)
  have hP : va_P (dC, dI) vwCl [(h0, .inr (4, [.int x0, .ref a0, .ref a1, .int w1, .ref a2, .ref a3, .int w2, .ref a4, .int w3])), (a0, .inl (ac0, 9, .inl af0)), (a1, .inl (ac1, 9, .inl af1)), (a2, .inl (ac2, 4, .inl af2)), (a3, .inl (ac3, 4, .inl af3)), (a4, .inl (ac4, 7, .inr (.inl af4))), (h1, .inr (4, [.int x0, .ref b0, .ref b1, .int x1, .ref b2, .ref b3, .int x2, .ref b4, .int x3])), (b0, .inl (bc0, 9, .inl bf0)), (b1, .inl (bc1, 9, .inl bf1)), (b2, .inl (bc2, 4, .inl bf2)), (b3, .inl (bc3, 4, .inl bf3)), (b4, .inl (bc4, 7, .inr (.inl bf4)))] H := hP
  have hD : va_D A [(h0, .inr (4, [.int x0, .ref a0, .ref a1, .int w1, .ref a2, .ref a3, .int w2, .ref a4, .int w3])), (a0, .inl (ac0, 9, .inl af0)), (a1, .inl (ac1, 9, .inl af1)), (a2, .inl (ac2, 4, .inl af2)), (a3, .inl (ac3, 4, .inl af3)), (a4, .inl (ac4, 7, .inr (.inl af4))), (h1, .inr (4, [.int x0, .ref b0, .ref b1, .int x1, .ref b2, .ref b3, .int x2, .ref b4, .int x3])), (b0, .inl (bc0, 9, .inl bf0)), (b1, .inl (bc1, 9, .inl bf1)), (b2, .inl (bc2, 4, .inl bf2)), (b3, .inl (bc3, 4, .inl bf3)), (b4, .inl (bc4, 7, .inr (.inl bf4)))] := hD
  refine lv_aload_n hx hb dX6_takeAll_8 rfl (lv_at hl 1 rfl) ?_
  refine va_get (D := (dC, dI)) (ci := 4) (v := .ref b0) (C := RX6) (T := TX6) (N := 9) hx hb hts inX6 hown hK hP 6 rfl rfl 1 (by decide) (hts _ (List.mem_of_getElem? (i := 2) rfl)) (fun _ h9 => h9) rfl dX6_takeAll_9 ?_
  refine lv_iconst (v := 0) hx hb dX6_takeAll_12 (by decide) ?_
  refine lv_aload_n hx hb dX6_takeAll_13 rfl (lv_at hl 0 rfl) ?_
  refine va_get (D := (dC, dI)) (ci := 4) (v := .ref a0) (C := RX6) (T := TX6) (N := 9) hx hb hts inX6 hown hK hP 0 rfl rfl 1 (by decide) (hts _ (List.mem_of_getElem? (i := 2) rfl)) (fun _ h9 => h9) rfl dX6_takeAll_14 ?_
  refine lv_iconst (v := 0) hx hb dX6_takeAll_17 (by decide) ?_
  refine lv_bipush (v := 9) hx hb dX6_takeAll_18 (by decide) ?_
  refine va_copyi (ty := .int) hx hb (by rw [hml]; exact hl.1.symm) hown (hts _ (List.mem_of_getElem? (i := 3) rfl)) (hts _ (List.mem_of_getElem? (i := 4) rfl)) (hts _ (List.mem_of_getElem? (i := 5) rfl)) (hts _ (List.mem_of_getElem? (i := 6) rfl)) hK hP hD hS 7 1 5 0 rfl rfl rfl rfl rfl (by decide) (by decide) (by decide) (by decide) (by decide) (fun _ _ => rfl) (Nat.le_of_ble_eq_true rfl) (Nat.le_of_ble_eq_true rfl) dX6_takeAll_20 (fun H locs hP hD hS => ?_)
  generalize va_cpy bf0 af0 (0 : Int32).toNatClampNeg (0 : Int32).toNatClampNeg (9 : Int32).toNatClampNeg = f_1 at hP hD
  have hP : va_P (dC, dI) vwCl [(h0, .inr (4, [.int x0, .ref a0, .ref a1, .int w1, .ref a2, .ref a3, .int w2, .ref a4, .int w3])), (a0, .inl (ac0, 9, .inl f_1)), (a1, .inl (ac1, 9, .inl af1)), (a2, .inl (ac2, 4, .inl af2)), (a3, .inl (ac3, 4, .inl af3)), (a4, .inl (ac4, 7, .inr (.inl af4))), (h1, .inr (4, [.int x0, .ref b0, .ref b1, .int x1, .ref b2, .ref b3, .int x2, .ref b4, .int x3])), (b0, .inl (bc0, 9, .inl bf0)), (b1, .inl (bc1, 9, .inl bf1)), (b2, .inl (bc2, 4, .inl bf2)), (b3, .inl (bc3, 4, .inl bf3)), (b4, .inl (bc4, 7, .inr (.inl bf4)))] H := hP
  have hD : va_D A [(h0, .inr (4, [.int x0, .ref a0, .ref a1, .int w1, .ref a2, .ref a3, .int w2, .ref a4, .int w3])), (a0, .inl (ac0, 9, .inl f_1)), (a1, .inl (ac1, 9, .inl af1)), (a2, .inl (ac2, 4, .inl af2)), (a3, .inl (ac3, 4, .inl af3)), (a4, .inl (ac4, 7, .inr (.inl af4))), (h1, .inr (4, [.int x0, .ref b0, .ref b1, .int x1, .ref b2, .ref b3, .int x2, .ref b4, .int x3])), (b0, .inl (bc0, 9, .inl bf0)), (b1, .inl (bc1, 9, .inl bf1)), (b2, .inl (bc2, 4, .inl bf2)), (b3, .inl (bc3, 4, .inl bf3)), (b4, .inl (bc4, 7, .inr (.inl bf4)))] := hD
  refine lv_aload_n hx hb dX6_takeAll_23 rfl (lv_at hl 1 rfl) ?_
  refine va_get (D := (dC, dI)) (ci := 4) (v := .ref b1) (C := RX6) (T := TX6) (N := 9) hx hb hts inX6 hown hK hP 6 rfl rfl 2 (by decide) (hts _ (List.mem_of_getElem? (i := 7) rfl)) (fun _ h9 => h9) rfl dX6_takeAll_24 ?_
  refine lv_iconst (v := 0) hx hb dX6_takeAll_27 (by decide) ?_
  refine lv_aload_n hx hb dX6_takeAll_28 rfl (lv_at hl 0 rfl) ?_
  refine va_get (D := (dC, dI)) (ci := 4) (v := .ref a1) (C := RX6) (T := TX6) (N := 9) hx hb hts inX6 hown hK hP 0 rfl rfl 2 (by decide) (hts _ (List.mem_of_getElem? (i := 7) rfl)) (fun _ h9 => h9) rfl dX6_takeAll_29 ?_
  refine lv_iconst (v := 0) hx hb dX6_takeAll_32 (by decide) ?_
  refine lv_bipush (v := 9) hx hb dX6_takeAll_33 (by decide) ?_
  refine va_copyi (ty := .int) hx hb (by rw [hml]; exact hl.1.symm) hown (hts _ (List.mem_of_getElem? (i := 3) rfl)) (hts _ (List.mem_of_getElem? (i := 4) rfl)) (hts _ (List.mem_of_getElem? (i := 5) rfl)) (hts _ (List.mem_of_getElem? (i := 6) rfl)) hK hP hD hS 8 2 6 1 rfl rfl rfl rfl rfl (by decide) (by decide) (by decide) (by decide) (by decide) (fun _ _ => rfl) (Nat.le_of_ble_eq_true rfl) (Nat.le_of_ble_eq_true rfl) dX6_takeAll_35 (fun H locs hP hD hS => ?_)
  generalize va_cpy bf1 af1 (0 : Int32).toNatClampNeg (0 : Int32).toNatClampNeg (9 : Int32).toNatClampNeg = f_2 at hP hD
  have hP : va_P (dC, dI) vwCl [(h0, .inr (4, [.int x0, .ref a0, .ref a1, .int w1, .ref a2, .ref a3, .int w2, .ref a4, .int w3])), (a0, .inl (ac0, 9, .inl f_1)), (a1, .inl (ac1, 9, .inl f_2)), (a2, .inl (ac2, 4, .inl af2)), (a3, .inl (ac3, 4, .inl af3)), (a4, .inl (ac4, 7, .inr (.inl af4))), (h1, .inr (4, [.int x0, .ref b0, .ref b1, .int x1, .ref b2, .ref b3, .int x2, .ref b4, .int x3])), (b0, .inl (bc0, 9, .inl bf0)), (b1, .inl (bc1, 9, .inl bf1)), (b2, .inl (bc2, 4, .inl bf2)), (b3, .inl (bc3, 4, .inl bf3)), (b4, .inl (bc4, 7, .inr (.inl bf4)))] H := hP
  have hD : va_D A [(h0, .inr (4, [.int x0, .ref a0, .ref a1, .int w1, .ref a2, .ref a3, .int w2, .ref a4, .int w3])), (a0, .inl (ac0, 9, .inl f_1)), (a1, .inl (ac1, 9, .inl f_2)), (a2, .inl (ac2, 4, .inl af2)), (a3, .inl (ac3, 4, .inl af3)), (a4, .inl (ac4, 7, .inr (.inl af4))), (h1, .inr (4, [.int x0, .ref b0, .ref b1, .int x1, .ref b2, .ref b3, .int x2, .ref b4, .int x3])), (b0, .inl (bc0, 9, .inl bf0)), (b1, .inl (bc1, 9, .inl bf1)), (b2, .inl (bc2, 4, .inl bf2)), (b3, .inl (bc3, 4, .inl bf3)), (b4, .inl (bc4, 7, .inr (.inl bf4)))] := hD
  refine lv_aload_n hx hb dX6_takeAll_38 rfl (lv_at hl 0 rfl) ?_
  refine lv_aload_n hx hb dX6_takeAll_39 rfl (lv_at hl 1 rfl) ?_
  refine va_get (D := (dC, dI)) (ci := 4) (v := .int x1) (C := RX6) (T := TX6) (N := 9) hx hb hts inX6 hown hK hP 6 rfl rfl 3 (by decide) (hts _ (List.mem_of_getElem? (i := 8) rfl)) (fun _ h9 => h9) rfl dX6_takeAll_40 ?_
  refine va_put (D := (dC, dI)) (ci := 4) (v := .int x1) (ty := .int) (C := RX6) (T := TX6) (N := 9) hx hb hts inX6 tyX6 tyX6_ok nmX6 hown hK hP hD hS 0 rfl rfl 3 (by decide) (hts _ (List.mem_of_getElem? (i := 8) rfl)) (fun _ h9 => h9) rfl (by decide +kernel) rfl rfl (Nat.le_of_ble_eq_true rfl) dX6_takeAll_43 (fun H locs hP hD hS => ?_)
  have hP : va_P (dC, dI) vwCl [(h0, .inr (4, [.int x0, .ref a0, .ref a1, .int x1, .ref a2, .ref a3, .int w2, .ref a4, .int w3])), (a0, .inl (ac0, 9, .inl f_1)), (a1, .inl (ac1, 9, .inl f_2)), (a2, .inl (ac2, 4, .inl af2)), (a3, .inl (ac3, 4, .inl af3)), (a4, .inl (ac4, 7, .inr (.inl af4))), (h1, .inr (4, [.int x0, .ref b0, .ref b1, .int x1, .ref b2, .ref b3, .int x2, .ref b4, .int x3])), (b0, .inl (bc0, 9, .inl bf0)), (b1, .inl (bc1, 9, .inl bf1)), (b2, .inl (bc2, 4, .inl bf2)), (b3, .inl (bc3, 4, .inl bf3)), (b4, .inl (bc4, 7, .inr (.inl bf4)))] H := hP
  have hD : va_D A [(h0, .inr (4, [.int x0, .ref a0, .ref a1, .int x1, .ref a2, .ref a3, .int w2, .ref a4, .int w3])), (a0, .inl (ac0, 9, .inl f_1)), (a1, .inl (ac1, 9, .inl f_2)), (a2, .inl (ac2, 4, .inl af2)), (a3, .inl (ac3, 4, .inl af3)), (a4, .inl (ac4, 7, .inr (.inl af4))), (h1, .inr (4, [.int x0, .ref b0, .ref b1, .int x1, .ref b2, .ref b3, .int x2, .ref b4, .int x3])), (b0, .inl (bc0, 9, .inl bf0)), (b1, .inl (bc1, 9, .inl bf1)), (b2, .inl (bc2, 4, .inl bf2)), (b3, .inl (bc3, 4, .inl bf3)), (b4, .inl (bc4, 7, .inr (.inl bf4)))] := hD
  refine lv_aload_n hx hb dX6_takeAll_46 rfl (lv_at hl 1 rfl) ?_
  refine va_get (D := (dC, dI)) (ci := 4) (v := .ref b2) (C := RX6) (T := TX6) (N := 9) hx hb hts inX6 hown hK hP 6 rfl rfl 4 (by decide) (hts _ (List.mem_of_getElem? (i := 9) rfl)) (fun _ h9 => h9) rfl dX6_takeAll_47 ?_
  refine lv_iconst (v := 0) hx hb dX6_takeAll_50 (by decide) ?_
  refine lv_aload_n hx hb dX6_takeAll_51 rfl (lv_at hl 0 rfl) ?_
  refine va_get (D := (dC, dI)) (ci := 4) (v := .ref a2) (C := RX6) (T := TX6) (N := 9) hx hb hts inX6 hown hK hP 0 rfl rfl 4 (by decide) (hts _ (List.mem_of_getElem? (i := 9) rfl)) (fun _ h9 => h9) rfl dX6_takeAll_52 ?_
  refine lv_iconst (v := 0) hx hb dX6_takeAll_55 (by decide) ?_
  refine lv_iconst (v := 4) hx hb dX6_takeAll_56 (by decide) ?_
  refine va_copyi (ty := .int) hx hb (by rw [hml]; exact hl.1.symm) hown (hts _ (List.mem_of_getElem? (i := 3) rfl)) (hts _ (List.mem_of_getElem? (i := 4) rfl)) (hts _ (List.mem_of_getElem? (i := 5) rfl)) (hts _ (List.mem_of_getElem? (i := 6) rfl)) hK hP hD hS 9 3 7 2 rfl rfl rfl rfl rfl (by decide) (by decide) (by decide) (by decide) (by decide) (fun _ _ => rfl) (Nat.le_of_ble_eq_true rfl) (Nat.le_of_ble_eq_true rfl) dX6_takeAll_57 (fun H locs hP hD hS => ?_)
  generalize va_cpy bf2 af2 (0 : Int32).toNatClampNeg (0 : Int32).toNatClampNeg (4 : Int32).toNatClampNeg = f_3 at hP hD
  have hP : va_P (dC, dI) vwCl [(h0, .inr (4, [.int x0, .ref a0, .ref a1, .int x1, .ref a2, .ref a3, .int w2, .ref a4, .int w3])), (a0, .inl (ac0, 9, .inl f_1)), (a1, .inl (ac1, 9, .inl f_2)), (a2, .inl (ac2, 4, .inl f_3)), (a3, .inl (ac3, 4, .inl af3)), (a4, .inl (ac4, 7, .inr (.inl af4))), (h1, .inr (4, [.int x0, .ref b0, .ref b1, .int x1, .ref b2, .ref b3, .int x2, .ref b4, .int x3])), (b0, .inl (bc0, 9, .inl bf0)), (b1, .inl (bc1, 9, .inl bf1)), (b2, .inl (bc2, 4, .inl bf2)), (b3, .inl (bc3, 4, .inl bf3)), (b4, .inl (bc4, 7, .inr (.inl bf4)))] H := hP
  have hD : va_D A [(h0, .inr (4, [.int x0, .ref a0, .ref a1, .int x1, .ref a2, .ref a3, .int w2, .ref a4, .int w3])), (a0, .inl (ac0, 9, .inl f_1)), (a1, .inl (ac1, 9, .inl f_2)), (a2, .inl (ac2, 4, .inl f_3)), (a3, .inl (ac3, 4, .inl af3)), (a4, .inl (ac4, 7, .inr (.inl af4))), (h1, .inr (4, [.int x0, .ref b0, .ref b1, .int x1, .ref b2, .ref b3, .int x2, .ref b4, .int x3])), (b0, .inl (bc0, 9, .inl bf0)), (b1, .inl (bc1, 9, .inl bf1)), (b2, .inl (bc2, 4, .inl bf2)), (b3, .inl (bc3, 4, .inl bf3)), (b4, .inl (bc4, 7, .inr (.inl bf4)))] := hD
  refine lv_aload_n hx hb dX6_takeAll_60 rfl (lv_at hl 1 rfl) ?_
  refine va_get (D := (dC, dI)) (ci := 4) (v := .ref b3) (C := RX6) (T := TX6) (N := 9) hx hb hts inX6 hown hK hP 6 rfl rfl 5 (by decide) (hts _ (List.mem_of_getElem? (i := 10) rfl)) (fun _ h9 => h9) rfl dX6_takeAll_61 ?_
  refine lv_iconst (v := 0) hx hb dX6_takeAll_64 (by decide) ?_
  refine lv_aload_n hx hb dX6_takeAll_65 rfl (lv_at hl 0 rfl) ?_
  refine va_get (D := (dC, dI)) (ci := 4) (v := .ref a3) (C := RX6) (T := TX6) (N := 9) hx hb hts inX6 hown hK hP 0 rfl rfl 5 (by decide) (hts _ (List.mem_of_getElem? (i := 10) rfl)) (fun _ h9 => h9) rfl dX6_takeAll_66 ?_
  refine lv_iconst (v := 0) hx hb dX6_takeAll_69 (by decide) ?_
  refine lv_iconst (v := 4) hx hb dX6_takeAll_70 (by decide) ?_
  refine va_copyi (ty := .int) hx hb (by rw [hml]; exact hl.1.symm) hown (hts _ (List.mem_of_getElem? (i := 3) rfl)) (hts _ (List.mem_of_getElem? (i := 4) rfl)) (hts _ (List.mem_of_getElem? (i := 5) rfl)) (hts _ (List.mem_of_getElem? (i := 6) rfl)) hK hP hD hS 10 4 8 3 rfl rfl rfl rfl rfl (by decide) (by decide) (by decide) (by decide) (by decide) (fun _ _ => rfl) (Nat.le_of_ble_eq_true rfl) (Nat.le_of_ble_eq_true rfl) dX6_takeAll_71 (fun H locs hP hD hS => ?_)
  generalize va_cpy bf3 af3 (0 : Int32).toNatClampNeg (0 : Int32).toNatClampNeg (4 : Int32).toNatClampNeg = f_4 at hP hD
  have hP : va_P (dC, dI) vwCl [(h0, .inr (4, [.int x0, .ref a0, .ref a1, .int x1, .ref a2, .ref a3, .int w2, .ref a4, .int w3])), (a0, .inl (ac0, 9, .inl f_1)), (a1, .inl (ac1, 9, .inl f_2)), (a2, .inl (ac2, 4, .inl f_3)), (a3, .inl (ac3, 4, .inl f_4)), (a4, .inl (ac4, 7, .inr (.inl af4))), (h1, .inr (4, [.int x0, .ref b0, .ref b1, .int x1, .ref b2, .ref b3, .int x2, .ref b4, .int x3])), (b0, .inl (bc0, 9, .inl bf0)), (b1, .inl (bc1, 9, .inl bf1)), (b2, .inl (bc2, 4, .inl bf2)), (b3, .inl (bc3, 4, .inl bf3)), (b4, .inl (bc4, 7, .inr (.inl bf4)))] H := hP
  have hD : va_D A [(h0, .inr (4, [.int x0, .ref a0, .ref a1, .int x1, .ref a2, .ref a3, .int w2, .ref a4, .int w3])), (a0, .inl (ac0, 9, .inl f_1)), (a1, .inl (ac1, 9, .inl f_2)), (a2, .inl (ac2, 4, .inl f_3)), (a3, .inl (ac3, 4, .inl f_4)), (a4, .inl (ac4, 7, .inr (.inl af4))), (h1, .inr (4, [.int x0, .ref b0, .ref b1, .int x1, .ref b2, .ref b3, .int x2, .ref b4, .int x3])), (b0, .inl (bc0, 9, .inl bf0)), (b1, .inl (bc1, 9, .inl bf1)), (b2, .inl (bc2, 4, .inl bf2)), (b3, .inl (bc3, 4, .inl bf3)), (b4, .inl (bc4, 7, .inr (.inl bf4)))] := hD
  refine lv_aload_n hx hb dX6_takeAll_74 rfl (lv_at hl 0 rfl) ?_
  refine lv_aload_n hx hb dX6_takeAll_75 rfl (lv_at hl 1 rfl) ?_
  refine va_get (D := (dC, dI)) (ci := 4) (v := .int x2) (C := RX6) (T := TX6) (N := 9) hx hb hts inX6 hown hK hP 6 rfl rfl 6 (by decide) (hts _ (List.mem_of_getElem? (i := 11) rfl)) (fun _ h9 => h9) rfl dX6_takeAll_76 ?_
  refine va_put (D := (dC, dI)) (ci := 4) (v := .int x2) (ty := .int) (C := RX6) (T := TX6) (N := 9) hx hb hts inX6 tyX6 tyX6_ok nmX6 hown hK hP hD hS 0 rfl rfl 6 (by decide) (hts _ (List.mem_of_getElem? (i := 11) rfl)) (fun _ h9 => h9) rfl (by decide +kernel) rfl rfl (Nat.le_of_ble_eq_true rfl) dX6_takeAll_79 (fun H locs hP hD hS => ?_)
  have hP : va_P (dC, dI) vwCl [(h0, .inr (4, [.int x0, .ref a0, .ref a1, .int x1, .ref a2, .ref a3, .int x2, .ref a4, .int w3])), (a0, .inl (ac0, 9, .inl f_1)), (a1, .inl (ac1, 9, .inl f_2)), (a2, .inl (ac2, 4, .inl f_3)), (a3, .inl (ac3, 4, .inl f_4)), (a4, .inl (ac4, 7, .inr (.inl af4))), (h1, .inr (4, [.int x0, .ref b0, .ref b1, .int x1, .ref b2, .ref b3, .int x2, .ref b4, .int x3])), (b0, .inl (bc0, 9, .inl bf0)), (b1, .inl (bc1, 9, .inl bf1)), (b2, .inl (bc2, 4, .inl bf2)), (b3, .inl (bc3, 4, .inl bf3)), (b4, .inl (bc4, 7, .inr (.inl bf4)))] H := hP
  have hD : va_D A [(h0, .inr (4, [.int x0, .ref a0, .ref a1, .int x1, .ref a2, .ref a3, .int x2, .ref a4, .int w3])), (a0, .inl (ac0, 9, .inl f_1)), (a1, .inl (ac1, 9, .inl f_2)), (a2, .inl (ac2, 4, .inl f_3)), (a3, .inl (ac3, 4, .inl f_4)), (a4, .inl (ac4, 7, .inr (.inl af4))), (h1, .inr (4, [.int x0, .ref b0, .ref b1, .int x1, .ref b2, .ref b3, .int x2, .ref b4, .int x3])), (b0, .inl (bc0, 9, .inl bf0)), (b1, .inl (bc1, 9, .inl bf1)), (b2, .inl (bc2, 4, .inl bf2)), (b3, .inl (bc3, 4, .inl bf3)), (b4, .inl (bc4, 7, .inr (.inl bf4)))] := hD
  refine lv_aload_n hx hb dX6_takeAll_82 rfl (lv_at hl 1 rfl) ?_
  refine va_get (D := (dC, dI)) (ci := 4) (v := .ref b4) (C := RX6) (T := TX6) (N := 9) hx hb hts inX6 hown hK hP 6 rfl rfl 7 (by decide) (hts _ (List.mem_of_getElem? (i := 12) rfl)) (fun _ h9 => h9) rfl dX6_takeAll_83 ?_
  refine lv_iconst (v := 0) hx hb dX6_takeAll_86 (by decide) ?_
  refine lv_aload_n hx hb dX6_takeAll_87 rfl (lv_at hl 0 rfl) ?_
  refine va_get (D := (dC, dI)) (ci := 4) (v := .ref a4) (C := RX6) (T := TX6) (N := 9) hx hb hts inX6 hown hK hP 0 rfl rfl 7 (by decide) (hts _ (List.mem_of_getElem? (i := 12) rfl)) (fun _ h9 => h9) rfl dX6_takeAll_88 ?_
  refine lv_iconst (v := 0) hx hb dX6_takeAll_91 (by decide) ?_
  refine lv_bipush (v := 7) hx hb dX6_takeAll_92 (by decide) ?_
  refine va_copyl (ty := .long) hx hb (by rw [hml]; exact hl.1.symm) hown (hts _ (List.mem_of_getElem? (i := 3) rfl)) (hts _ (List.mem_of_getElem? (i := 4) rfl)) (hts _ (List.mem_of_getElem? (i := 5) rfl)) (hts _ (List.mem_of_getElem? (i := 6) rfl)) hK hP hD hS 11 5 9 4 rfl rfl rfl rfl rfl (by decide) (by decide) (by decide) (by decide) (by decide) (fun _ _ => rfl) (Nat.le_of_ble_eq_true rfl) (Nat.le_of_ble_eq_true rfl) dX6_takeAll_94 (fun H locs hP hD hS => ?_)
  generalize va_cpy bf4 af4 (0 : Int32).toNatClampNeg (0 : Int32).toNatClampNeg (7 : Int32).toNatClampNeg = f_5 at hP hD
  have hP : va_P (dC, dI) vwCl [(h0, .inr (4, [.int x0, .ref a0, .ref a1, .int x1, .ref a2, .ref a3, .int x2, .ref a4, .int w3])), (a0, .inl (ac0, 9, .inl f_1)), (a1, .inl (ac1, 9, .inl f_2)), (a2, .inl (ac2, 4, .inl f_3)), (a3, .inl (ac3, 4, .inl f_4)), (a4, .inl (ac4, 7, .inr (.inl f_5))), (h1, .inr (4, [.int x0, .ref b0, .ref b1, .int x1, .ref b2, .ref b3, .int x2, .ref b4, .int x3])), (b0, .inl (bc0, 9, .inl bf0)), (b1, .inl (bc1, 9, .inl bf1)), (b2, .inl (bc2, 4, .inl bf2)), (b3, .inl (bc3, 4, .inl bf3)), (b4, .inl (bc4, 7, .inr (.inl bf4)))] H := hP
  have hD : va_D A [(h0, .inr (4, [.int x0, .ref a0, .ref a1, .int x1, .ref a2, .ref a3, .int x2, .ref a4, .int w3])), (a0, .inl (ac0, 9, .inl f_1)), (a1, .inl (ac1, 9, .inl f_2)), (a2, .inl (ac2, 4, .inl f_3)), (a3, .inl (ac3, 4, .inl f_4)), (a4, .inl (ac4, 7, .inr (.inl f_5))), (h1, .inr (4, [.int x0, .ref b0, .ref b1, .int x1, .ref b2, .ref b3, .int x2, .ref b4, .int x3])), (b0, .inl (bc0, 9, .inl bf0)), (b1, .inl (bc1, 9, .inl bf1)), (b2, .inl (bc2, 4, .inl bf2)), (b3, .inl (bc3, 4, .inl bf3)), (b4, .inl (bc4, 7, .inr (.inl bf4)))] := hD
  refine lv_aload_n hx hb dX6_takeAll_97 rfl (lv_at hl 0 rfl) ?_
  refine lv_aload_n hx hb dX6_takeAll_98 rfl (lv_at hl 1 rfl) ?_
  refine va_get (D := (dC, dI)) (ci := 4) (v := .int x3) (C := RX6) (T := TX6) (N := 9) hx hb hts inX6 hown hK hP 6 rfl rfl 8 (by decide) (hts _ (List.mem_of_getElem? (i := 13) rfl)) (fun _ h9 => h9) rfl dX6_takeAll_99 ?_
  refine va_put (D := (dC, dI)) (ci := 4) (v := .int x3) (ty := .int) (C := RX6) (T := TX6) (N := 9) hx hb hts inX6 tyX6 tyX6_ok nmX6 hown hK hP hD hS 0 rfl rfl 8 (by decide) (hts _ (List.mem_of_getElem? (i := 13) rfl)) (fun _ h9 => h9) rfl (by decide +kernel) rfl rfl (Nat.le_of_ble_eq_true rfl) dX6_takeAll_102 (fun H locs hP hD hS => ?_)
  have hP : va_P (dC, dI) vwCl [(h0, .inr (4, [.int x0, .ref a0, .ref a1, .int x1, .ref a2, .ref a3, .int x2, .ref a4, .int x3])), (a0, .inl (ac0, 9, .inl f_1)), (a1, .inl (ac1, 9, .inl f_2)), (a2, .inl (ac2, 4, .inl f_3)), (a3, .inl (ac3, 4, .inl f_4)), (a4, .inl (ac4, 7, .inr (.inl f_5))), (h1, .inr (4, [.int x0, .ref b0, .ref b1, .int x1, .ref b2, .ref b3, .int x2, .ref b4, .int x3])), (b0, .inl (bc0, 9, .inl bf0)), (b1, .inl (bc1, 9, .inl bf1)), (b2, .inl (bc2, 4, .inl bf2)), (b3, .inl (bc3, 4, .inl bf3)), (b4, .inl (bc4, 7, .inr (.inl bf4)))] H := hP
  have hD : va_D A [(h0, .inr (4, [.int x0, .ref a0, .ref a1, .int x1, .ref a2, .ref a3, .int x2, .ref a4, .int x3])), (a0, .inl (ac0, 9, .inl f_1)), (a1, .inl (ac1, 9, .inl f_2)), (a2, .inl (ac2, 4, .inl f_3)), (a3, .inl (ac3, 4, .inl f_4)), (a4, .inl (ac4, 7, .inr (.inl f_5))), (h1, .inr (4, [.int x0, .ref b0, .ref b1, .int x1, .ref b2, .ref b3, .int x2, .ref b4, .int x3])), (b0, .inl (bc0, 9, .inl bf0)), (b1, .inl (bc1, 9, .inl bf1)), (b2, .inl (bc2, 4, .inl bf2)), (b3, .inl (bc3, 4, .inl bf3)), (b4, .inl (bc4, 7, .inr (.inl bf4)))] := hD
  exact W.vret hx hb hr (fun t ht hW => ⟨⟨(), rfl, trivial, trivial⟩, hS.F ht⟩) hS.2.2 dX6_takeAll_105

def w_c_paperAt_lt : List Cond := .code yX8_paperAt cX8_paperAt 2 (some (.object "LampShapes$Paper")) :: (([] : List Cond))
set_option maxHeartbeats 4000000 in
set_option maxRecDepth 100000 in
theorem c_paperAt_lt (l : Launch) (dC : Nat → ClassId) (dI : Nat → Nat → Nat) (ad : Nat → Nat) (h0 : Nat) (sn : Int32) (v0 : Value) (v1 : Value) (v2 : Value) (v3 : Value) (v4 : Value) (v5 : Value) (v6 : Value) (v7 : Value) (hs : sn < 0) : Met l yX8_paperAt w_c_paperAt_lt ({ frames := 0, cells := 0, slots := 0, locals := 0 } : Room) (va_Pc [.ref h0, .int sn] (preS dC dI ad [] [(h0, .inr (6, [v0, v1, v2, v3, v4, v5, v6, v7]))])) (va_Sq (fun r => (r = none))) 0 0 (fun _ => False) := by
  refine Met.ofW (cc := cX8_paperAt) (maxL := 2) (ret := (some (.object "LampShapes$Paper"))) (by decide) rfl ?_
  intro p e s m args below meth c s₁ B hml hv
  obtain ⟨rfl, hP, hK, hev⟩ := hv
  have hx := B.exec
  have hb := B.bytes
  have hr := B.returns
  have hts := atoms_spec (ws := w_c_paperAt_lt) B.pre
  have hown : s.vm.findClass RX8 = some m.cls := findClass_of_methodNamed B.named
  have hlocks := B.notSynchronized
  have hP : va_P (dC, dI) vwCl [(h0, .inr (6, [v0, v1, v2, v3, v4, v5, v6, v7]))] s.heap := hP
  have hl := lv_entry ([.ref h0, .int sn]) (n := 2) (Nat.le_of_ble_eq_true rfl)
  rw [lg_entry_eq]
  generalize (lg_sl ([.ref h0, .int sn]) ++ List.replicate (2 - (lg_sl ([.ref h0, .int sn])).length) Slot.unset).toArray = ls at hl ⊢
  have hl : lv_has ls 2 [(0, .ref h0), (1, .int sn)] := hl
  refine lv_iload_n hx hb dX8_paperAt_0 rfl (lv_at hl 1 rfl) ?_
  refine lv_if_lt (tgt := 9) hx hb dX8_paperAt_1 (by decide) (fun c_1 => ?_) (fun c_1 => ?_)
  · skip
    refine lv_null hx hb dX8_paperAt_9 ?_
    refine lv_goto (tgt := 19) hx hb dX8_paperAt_10 (by decide) ?_
    exact W.aret (v := .null) hx hb hr (Or.inl ⟨_, rfl⟩) (Or.inl rfl) (fun t ht hW => ⟨none, rfl, rfl, ht⟩) (fun _ h => absurd h List.not_mem_nil) dX8_paperAt_19
  · skip
    exfalso; simp only [fa_lt, fa_le, fa_eq, and_true, true_and, and_false, false_and, not_true_eq_false, not_false_eq_true, li_0, li_1, li_2, li_3, li_4, li_5, li_6, li_7, li_8, li_9, li_10, li_12, li_15, li_16, li_20, li_30, li_34, li_38, li_40, li_63, li_64, li_65, li_78, li_120, li_1000, li_4000, li_10000, li_11077, li_255, li_65535, li_m1, li_m2, li_m1000000001, li_m1000000002, li_m1000000003, li_m1000000004, li_m1000000005, li_m1000000006, li_m1000000007] at hs c_1 <;> omega

def w_c_paperAt_gt : List Cond := .code yX8_paperAt cX8_paperAt 2 (some (.object "LampShapes$Paper")) :: (([] : List Cond))
set_option maxHeartbeats 4000000 in
set_option maxRecDepth 100000 in
theorem c_paperAt_gt (l : Launch) (dC : Nat → ClassId) (dI : Nat → Nat → Nat) (ad : Nat → Nat) (h0 : Nat) (sn : Int32) (v0 : Value) (v1 : Value) (v2 : Value) (v3 : Value) (v4 : Value) (v5 : Value) (v6 : Value) (v7 : Value) (hs : 3 < sn) : Met l yX8_paperAt w_c_paperAt_gt ({ frames := 0, cells := 0, slots := 0, locals := 0 } : Room) (va_Pc [.ref h0, .int sn] (preS dC dI ad [] [(h0, .inr (6, [v0, v1, v2, v3, v4, v5, v6, v7]))])) (va_Sq (fun r => (r = none))) 0 0 (fun _ => False) := by
  refine Met.ofW (cc := cX8_paperAt) (maxL := 2) (ret := (some (.object "LampShapes$Paper"))) (by decide) rfl ?_
  intro p e s m args below meth c s₁ B hml hv
  obtain ⟨rfl, hP, hK, hev⟩ := hv
  have hx := B.exec
  have hb := B.bytes
  have hr := B.returns
  have hts := atoms_spec (ws := w_c_paperAt_gt) B.pre
  have hown : s.vm.findClass RX8 = some m.cls := findClass_of_methodNamed B.named
  have hlocks := B.notSynchronized
  have hP : va_P (dC, dI) vwCl [(h0, .inr (6, [v0, v1, v2, v3, v4, v5, v6, v7]))] s.heap := hP
  have hl := lv_entry ([.ref h0, .int sn]) (n := 2) (Nat.le_of_ble_eq_true rfl)
  rw [lg_entry_eq]
  generalize (lg_sl ([.ref h0, .int sn]) ++ List.replicate (2 - (lg_sl ([.ref h0, .int sn])).length) Slot.unset).toArray = ls at hl ⊢
  have hl : lv_has ls 2 [(0, .ref h0), (1, .int sn)] := hl
  refine lv_iload_n hx hb dX8_paperAt_0 rfl (lv_at hl 1 rfl) ?_
  refine lv_if_lt (tgt := 9) hx hb dX8_paperAt_1 (by decide) (fun c_1 => ?_) (fun c_1 => ?_)
  · skip
    exfalso; simp only [fa_lt, fa_le, fa_eq, and_true, true_and, and_false, false_and, not_true_eq_false, not_false_eq_true, li_0, li_1, li_2, li_3, li_4, li_5, li_6, li_7, li_8, li_9, li_10, li_12, li_15, li_16, li_20, li_30, li_34, li_38, li_40, li_63, li_64, li_65, li_78, li_120, li_1000, li_4000, li_10000, li_11077, li_255, li_65535, li_m1, li_m2, li_m1000000001, li_m1000000002, li_m1000000003, li_m1000000004, li_m1000000005, li_m1000000006, li_m1000000007] at hs c_1 <;> omega
  · skip
    refine lv_iload_n hx hb dX8_paperAt_4 rfl (lv_at hl 1 rfl) ?_
    refine lv_iconst (v := 4) hx hb dX8_paperAt_5 (by decide) ?_
    refine lv_icmp_lt (tgt := 13) hx hb dX8_paperAt_6 (by decide) (fun c_2 => ?_) (fun c_2 => ?_)
    · skip
      exfalso; simp only [fa_lt, fa_le, fa_eq, and_true, true_and, and_false, false_and, not_true_eq_false, not_false_eq_true, li_0, li_1, li_2, li_3, li_4, li_5, li_6, li_7, li_8, li_9, li_10, li_12, li_15, li_16, li_20, li_30, li_34, li_38, li_40, li_63, li_64, li_65, li_78, li_120, li_1000, li_4000, li_10000, li_11077, li_255, li_65535, li_m1, li_m2, li_m1000000001, li_m1000000002, li_m1000000003, li_m1000000004, li_m1000000005, li_m1000000006, li_m1000000007] at hs c_1 c_2 <;> omega
    · skip
      refine lv_null hx hb dX8_paperAt_9 ?_
      refine lv_goto (tgt := 19) hx hb dX8_paperAt_10 (by decide) ?_
      exact W.aret (v := .null) hx hb hr (Or.inl ⟨_, rfl⟩) (Or.inl rfl) (fun t ht hW => ⟨none, rfl, rfl, ht⟩) (fun _ h => absurd h List.not_mem_nil) dX8_paperAt_19

def w_c_paperAt_0 : List Cond := .code yX8_paperAt cX8_paperAt 2 (some (.object "LampShapes$Paper")) :: (([.fieldLink RX8 42 "LampShapes" "papers" "[LLampShapes$Paper;"] : List Cond) ++ wsX80)
set_option maxHeartbeats 4000000 in
set_option maxRecDepth 100000 in
theorem c_paperAt_0 (l : Launch) (dC : Nat → ClassId) (dI : Nat → Nat → Nat) (ad : Nat → Nat) (h0 : Nat) (v0 : Value) (v1 : Value) (v2 : Value) (v3 : Value) (v4 : Value) (ph : Nat) (v6 : Value) (v7 : Value) (pc : ClassId) (pf : Nat → Option Nat) (pp : Nat) (hpp : pf 0 = (some pp)) : Met l yX8_paperAt w_c_paperAt_0 ({ frames := 0, cells := 0, slots := 0, locals := 0 } : Room) (va_Pc [.ref h0, .int 0] (preS dC dI ad [(pc, .object "LampShapes$Paper")] [(h0, .inr (6, [v0, v1, v2, v3, v4, .ref ph, v6, v7])), (ph, .inl (pc, 4, .inr (.inr (.inr (.inr pf)))))])) (va_Sq (fun r => (r = (some pp)))) 0 0 (fun _ => False) := by
  refine Met.ofW (cc := cX8_paperAt) (maxL := 2) (ret := (some (.object "LampShapes$Paper"))) (by decide) rfl ?_
  intro p e s m args below meth c s₁ B hml hv
  obtain ⟨rfl, hP, hK, hev⟩ := hv
  have hx := B.exec
  have hb := B.bytes
  have hr := B.returns
  have hts := atoms_spec (ws := w_c_paperAt_0) B.pre
  have hown : s.vm.findClass RX8 = some m.cls := findClass_of_methodNamed B.named
  have hlocks := B.notSynchronized
  have inX8 : ∀ w ∈ wsX80, w ∈ w_c_paperAt_0 := fun w h => List.mem_cons_of_mem _ (List.mem_append_right _ h)
  have hP : va_P (dC, dI) vwCl [(h0, .inr (6, [v0, v1, v2, v3, v4, .ref ph, v6, v7])), (ph, .inl (pc, 4, .inr (.inr (.inr (.inr pf)))))] s.heap := hP
  have hl := lv_entry ([.ref h0, .int 0]) (n := 2) (Nat.le_of_ble_eq_true rfl)
  rw [lg_entry_eq]
  generalize (lg_sl ([.ref h0, .int 0]) ++ List.replicate (2 - (lg_sl ([.ref h0, .int 0])).length) Slot.unset).toArray = ls at hl ⊢
  have hl : lv_has ls 2 [(0, .ref h0), (1, .int 0)] := hl
  refine lv_iload_n hx hb dX8_paperAt_0 rfl (lv_at hl 1 rfl) ?_
  refine lv_if_lt (tgt := 9) hx hb dX8_paperAt_1 (by decide) (fun c => absurd c (by decide)) (fun _ => ?_)
  refine lv_iload_n hx hb dX8_paperAt_4 rfl (lv_at hl 1 rfl) ?_
  refine lv_iconst (v := 4) hx hb dX8_paperAt_5 (by decide) ?_
  refine lv_icmp_lt (tgt := 13) hx hb dX8_paperAt_6 (by decide) (fun _ => ?_) (fun c => absurd (by decide) c)
  refine lv_aload_n hx hb dX8_paperAt_13 rfl (lv_at hl 0 rfl) ?_
  refine va_get (D := (dC, dI)) (ci := 6) (v := .ref ph) (C := RX8) (T := TX8) (N := 8) hx hb hts inX8 hown hK hP 0 rfl rfl 5 (by decide) (hts _ (List.mem_of_getElem? (i := 1) rfl)) (fun _ h9 => h9) rfl dX8_paperAt_14 ?_
  refine lv_iload_n hx hb dX8_paperAt_17 rfl (lv_at hl 1 rfl) ?_
  refine va_aldq hx hb hK hP 1 0 rfl rfl (vp_in_nI (n := 0) (by decide) (by decide)) dX8_paperAt_18 ?_
  refine pp_tv (y := .ref pp) (congrArg va_rf hpp) ?_
  exact W.aret (v := .ref pp) hx hb hr (Or.inl ⟨_, rfl⟩) (Or.inr ⟨_, rfl⟩) (fun t ht hW => ⟨some pp, rfl, rfl, ht⟩) (fun _ h => absurd h List.not_mem_nil) dX8_paperAt_19

def w_c_paperAt_1 : List Cond := .code yX8_paperAt cX8_paperAt 2 (some (.object "LampShapes$Paper")) :: (([.fieldLink RX8 42 "LampShapes" "papers" "[LLampShapes$Paper;"] : List Cond) ++ wsX80)
set_option maxHeartbeats 4000000 in
set_option maxRecDepth 100000 in
theorem c_paperAt_1 (l : Launch) (dC : Nat → ClassId) (dI : Nat → Nat → Nat) (ad : Nat → Nat) (h0 : Nat) (v0 : Value) (v1 : Value) (v2 : Value) (v3 : Value) (v4 : Value) (ph : Nat) (v6 : Value) (v7 : Value) (pc : ClassId) (pf : Nat → Option Nat) (pp : Nat) (hpp : pf 1 = (some pp)) : Met l yX8_paperAt w_c_paperAt_1 ({ frames := 0, cells := 0, slots := 0, locals := 0 } : Room) (va_Pc [.ref h0, .int 1] (preS dC dI ad [(pc, .object "LampShapes$Paper")] [(h0, .inr (6, [v0, v1, v2, v3, v4, .ref ph, v6, v7])), (ph, .inl (pc, 4, .inr (.inr (.inr (.inr pf)))))])) (va_Sq (fun r => (r = (some pp)))) 0 0 (fun _ => False) := by
  refine Met.ofW (cc := cX8_paperAt) (maxL := 2) (ret := (some (.object "LampShapes$Paper"))) (by decide) rfl ?_
  intro p e s m args below meth c s₁ B hml hv
  obtain ⟨rfl, hP, hK, hev⟩ := hv
  have hx := B.exec
  have hb := B.bytes
  have hr := B.returns
  have hts := atoms_spec (ws := w_c_paperAt_1) B.pre
  have hown : s.vm.findClass RX8 = some m.cls := findClass_of_methodNamed B.named
  have hlocks := B.notSynchronized
  have inX8 : ∀ w ∈ wsX80, w ∈ w_c_paperAt_1 := fun w h => List.mem_cons_of_mem _ (List.mem_append_right _ h)
  have hP : va_P (dC, dI) vwCl [(h0, .inr (6, [v0, v1, v2, v3, v4, .ref ph, v6, v7])), (ph, .inl (pc, 4, .inr (.inr (.inr (.inr pf)))))] s.heap := hP
  have hl := lv_entry ([.ref h0, .int 1]) (n := 2) (Nat.le_of_ble_eq_true rfl)
  rw [lg_entry_eq]
  generalize (lg_sl ([.ref h0, .int 1]) ++ List.replicate (2 - (lg_sl ([.ref h0, .int 1])).length) Slot.unset).toArray = ls at hl ⊢
  have hl : lv_has ls 2 [(0, .ref h0), (1, .int 1)] := hl
  refine lv_iload_n hx hb dX8_paperAt_0 rfl (lv_at hl 1 rfl) ?_
  refine lv_if_lt (tgt := 9) hx hb dX8_paperAt_1 (by decide) (fun c => absurd c (by decide)) (fun _ => ?_)
  refine lv_iload_n hx hb dX8_paperAt_4 rfl (lv_at hl 1 rfl) ?_
  refine lv_iconst (v := 4) hx hb dX8_paperAt_5 (by decide) ?_
  refine lv_icmp_lt (tgt := 13) hx hb dX8_paperAt_6 (by decide) (fun _ => ?_) (fun c => absurd (by decide) c)
  refine lv_aload_n hx hb dX8_paperAt_13 rfl (lv_at hl 0 rfl) ?_
  refine va_get (D := (dC, dI)) (ci := 6) (v := .ref ph) (C := RX8) (T := TX8) (N := 8) hx hb hts inX8 hown hK hP 0 rfl rfl 5 (by decide) (hts _ (List.mem_of_getElem? (i := 1) rfl)) (fun _ h9 => h9) rfl dX8_paperAt_14 ?_
  refine lv_iload_n hx hb dX8_paperAt_17 rfl (lv_at hl 1 rfl) ?_
  refine va_aldq hx hb hK hP 1 0 rfl rfl (vp_in_nI (n := 1) (by decide) (by decide)) dX8_paperAt_18 ?_
  refine pp_tv (y := .ref pp) (congrArg va_rf hpp) ?_
  exact W.aret (v := .ref pp) hx hb hr (Or.inl ⟨_, rfl⟩) (Or.inr ⟨_, rfl⟩) (fun t ht hW => ⟨some pp, rfl, rfl, ht⟩) (fun _ h => absurd h List.not_mem_nil) dX8_paperAt_19

def w_c_paperAt_2 : List Cond := .code yX8_paperAt cX8_paperAt 2 (some (.object "LampShapes$Paper")) :: (([.fieldLink RX8 42 "LampShapes" "papers" "[LLampShapes$Paper;"] : List Cond) ++ wsX80)
set_option maxHeartbeats 4000000 in
set_option maxRecDepth 100000 in
theorem c_paperAt_2 (l : Launch) (dC : Nat → ClassId) (dI : Nat → Nat → Nat) (ad : Nat → Nat) (h0 : Nat) (v0 : Value) (v1 : Value) (v2 : Value) (v3 : Value) (v4 : Value) (ph : Nat) (v6 : Value) (v7 : Value) (pc : ClassId) (pf : Nat → Option Nat) (pp : Nat) (hpp : pf 2 = (some pp)) : Met l yX8_paperAt w_c_paperAt_2 ({ frames := 0, cells := 0, slots := 0, locals := 0 } : Room) (va_Pc [.ref h0, .int 2] (preS dC dI ad [(pc, .object "LampShapes$Paper")] [(h0, .inr (6, [v0, v1, v2, v3, v4, .ref ph, v6, v7])), (ph, .inl (pc, 4, .inr (.inr (.inr (.inr pf)))))])) (va_Sq (fun r => (r = (some pp)))) 0 0 (fun _ => False) := by
  refine Met.ofW (cc := cX8_paperAt) (maxL := 2) (ret := (some (.object "LampShapes$Paper"))) (by decide) rfl ?_
  intro p e s m args below meth c s₁ B hml hv
  obtain ⟨rfl, hP, hK, hev⟩ := hv
  have hx := B.exec
  have hb := B.bytes
  have hr := B.returns
  have hts := atoms_spec (ws := w_c_paperAt_2) B.pre
  have hown : s.vm.findClass RX8 = some m.cls := findClass_of_methodNamed B.named
  have hlocks := B.notSynchronized
  have inX8 : ∀ w ∈ wsX80, w ∈ w_c_paperAt_2 := fun w h => List.mem_cons_of_mem _ (List.mem_append_right _ h)
  have hP : va_P (dC, dI) vwCl [(h0, .inr (6, [v0, v1, v2, v3, v4, .ref ph, v6, v7])), (ph, .inl (pc, 4, .inr (.inr (.inr (.inr pf)))))] s.heap := hP
  have hl := lv_entry ([.ref h0, .int 2]) (n := 2) (Nat.le_of_ble_eq_true rfl)
  rw [lg_entry_eq]
  generalize (lg_sl ([.ref h0, .int 2]) ++ List.replicate (2 - (lg_sl ([.ref h0, .int 2])).length) Slot.unset).toArray = ls at hl ⊢
  have hl : lv_has ls 2 [(0, .ref h0), (1, .int 2)] := hl
  refine lv_iload_n hx hb dX8_paperAt_0 rfl (lv_at hl 1 rfl) ?_
  refine lv_if_lt (tgt := 9) hx hb dX8_paperAt_1 (by decide) (fun c => absurd c (by decide)) (fun _ => ?_)
  refine lv_iload_n hx hb dX8_paperAt_4 rfl (lv_at hl 1 rfl) ?_
  refine lv_iconst (v := 4) hx hb dX8_paperAt_5 (by decide) ?_
  refine lv_icmp_lt (tgt := 13) hx hb dX8_paperAt_6 (by decide) (fun _ => ?_) (fun c => absurd (by decide) c)
  refine lv_aload_n hx hb dX8_paperAt_13 rfl (lv_at hl 0 rfl) ?_
  refine va_get (D := (dC, dI)) (ci := 6) (v := .ref ph) (C := RX8) (T := TX8) (N := 8) hx hb hts inX8 hown hK hP 0 rfl rfl 5 (by decide) (hts _ (List.mem_of_getElem? (i := 1) rfl)) (fun _ h9 => h9) rfl dX8_paperAt_14 ?_
  refine lv_iload_n hx hb dX8_paperAt_17 rfl (lv_at hl 1 rfl) ?_
  refine va_aldq hx hb hK hP 1 0 rfl rfl (vp_in_nI (n := 2) (by decide) (by decide)) dX8_paperAt_18 ?_
  refine pp_tv (y := .ref pp) (congrArg va_rf hpp) ?_
  exact W.aret (v := .ref pp) hx hb hr (Or.inl ⟨_, rfl⟩) (Or.inr ⟨_, rfl⟩) (fun t ht hW => ⟨some pp, rfl, rfl, ht⟩) (fun _ h => absurd h List.not_mem_nil) dX8_paperAt_19

def w_c_paperAt_3 : List Cond := .code yX8_paperAt cX8_paperAt 2 (some (.object "LampShapes$Paper")) :: (([.fieldLink RX8 42 "LampShapes" "papers" "[LLampShapes$Paper;"] : List Cond) ++ wsX80)
set_option maxHeartbeats 4000000 in
set_option maxRecDepth 100000 in
theorem c_paperAt_3 (l : Launch) (dC : Nat → ClassId) (dI : Nat → Nat → Nat) (ad : Nat → Nat) (h0 : Nat) (v0 : Value) (v1 : Value) (v2 : Value) (v3 : Value) (v4 : Value) (ph : Nat) (v6 : Value) (v7 : Value) (pc : ClassId) (pf : Nat → Option Nat) (pp : Nat) (hpp : pf 3 = (some pp)) : Met l yX8_paperAt w_c_paperAt_3 ({ frames := 0, cells := 0, slots := 0, locals := 0 } : Room) (va_Pc [.ref h0, .int 3] (preS dC dI ad [(pc, .object "LampShapes$Paper")] [(h0, .inr (6, [v0, v1, v2, v3, v4, .ref ph, v6, v7])), (ph, .inl (pc, 4, .inr (.inr (.inr (.inr pf)))))])) (va_Sq (fun r => (r = (some pp)))) 0 0 (fun _ => False) := by
  refine Met.ofW (cc := cX8_paperAt) (maxL := 2) (ret := (some (.object "LampShapes$Paper"))) (by decide) rfl ?_
  intro p e s m args below meth c s₁ B hml hv
  obtain ⟨rfl, hP, hK, hev⟩ := hv
  have hx := B.exec
  have hb := B.bytes
  have hr := B.returns
  have hts := atoms_spec (ws := w_c_paperAt_3) B.pre
  have hown : s.vm.findClass RX8 = some m.cls := findClass_of_methodNamed B.named
  have hlocks := B.notSynchronized
  have inX8 : ∀ w ∈ wsX80, w ∈ w_c_paperAt_3 := fun w h => List.mem_cons_of_mem _ (List.mem_append_right _ h)
  have hP : va_P (dC, dI) vwCl [(h0, .inr (6, [v0, v1, v2, v3, v4, .ref ph, v6, v7])), (ph, .inl (pc, 4, .inr (.inr (.inr (.inr pf)))))] s.heap := hP
  have hl := lv_entry ([.ref h0, .int 3]) (n := 2) (Nat.le_of_ble_eq_true rfl)
  rw [lg_entry_eq]
  generalize (lg_sl ([.ref h0, .int 3]) ++ List.replicate (2 - (lg_sl ([.ref h0, .int 3])).length) Slot.unset).toArray = ls at hl ⊢
  have hl : lv_has ls 2 [(0, .ref h0), (1, .int 3)] := hl
  refine lv_iload_n hx hb dX8_paperAt_0 rfl (lv_at hl 1 rfl) ?_
  refine lv_if_lt (tgt := 9) hx hb dX8_paperAt_1 (by decide) (fun c => absurd c (by decide)) (fun _ => ?_)
  refine lv_iload_n hx hb dX8_paperAt_4 rfl (lv_at hl 1 rfl) ?_
  refine lv_iconst (v := 4) hx hb dX8_paperAt_5 (by decide) ?_
  refine lv_icmp_lt (tgt := 13) hx hb dX8_paperAt_6 (by decide) (fun _ => ?_) (fun c => absurd (by decide) c)
  refine lv_aload_n hx hb dX8_paperAt_13 rfl (lv_at hl 0 rfl) ?_
  refine va_get (D := (dC, dI)) (ci := 6) (v := .ref ph) (C := RX8) (T := TX8) (N := 8) hx hb hts inX8 hown hK hP 0 rfl rfl 5 (by decide) (hts _ (List.mem_of_getElem? (i := 1) rfl)) (fun _ h9 => h9) rfl dX8_paperAt_14 ?_
  refine lv_iload_n hx hb dX8_paperAt_17 rfl (lv_at hl 1 rfl) ?_
  refine va_aldq hx hb hK hP 1 0 rfl rfl (vp_in_nI (n := 3) (by decide) (by decide)) dX8_paperAt_18 ?_
  refine pp_tv (y := .ref pp) (congrArg va_rf hpp) ?_
  exact W.aret (v := .ref pp) hx hb hr (Or.inl ⟨_, rfl⟩) (Or.inr ⟨_, rfl⟩) (fun t ht hW => ⟨some pp, rfl, rfl, ht⟩) (fun _ h => absurd h List.not_mem_nil) dX8_paperAt_19

def w_c_isMissing : List Cond := .code yX2_isMissing cX2_isMissing 1 (some .boolean) :: (([.fieldLink RX2 9 "LampShapes$Paper" "bits" "I"] : List Cond) ++ wsX20)
set_option maxHeartbeats 4000000 in
set_option maxRecDepth 100000 in
theorem c_isMissing (l : Launch) (dC : Nat → ClassId) (dI : Nat → Nat → Nat) (ad : Nat → Nat) (h0 : Nat) (w1 : Value) (w2 : Value) : Met l yX2_isMissing w_c_isMissing ({ frames := 0, cells := 0, slots := 0, locals := 0 } : Room) (va_Pc [.ref h0] (preS dC dI ad [] [(h0, .inr (0, [.int 0, w1, w2]))])) (vp_Si (fun r => (r = 1))) 0 0 (fun _ => False) := by
  refine Met.ofW (cc := cX2_isMissing) (maxL := 1) (ret := (some .boolean)) (by decide) rfl ?_
  intro p e s m args below meth c s₁ B hml hv
  obtain ⟨rfl, hP, hK, hev⟩ := hv
  have hx := B.exec
  have hb := B.bytes
  have hr := B.returns
  have hts := atoms_spec (ws := w_c_isMissing) B.pre
  have hown : s.vm.findClass RX2 = some m.cls := findClass_of_methodNamed B.named
  have hlocks := B.notSynchronized
  have inX2 : ∀ w ∈ wsX20, w ∈ w_c_isMissing := fun w h => List.mem_cons_of_mem _ (List.mem_append_right _ h)
  have hP : va_P (dC, dI) vwCl [(h0, .inr (0, [.int 0, w1, w2]))] s.heap := hP
  have hl := lv_entry ([.ref h0]) (n := 1) (Nat.le_of_ble_eq_true rfl)
  rw [lg_entry_eq]
  generalize (lg_sl ([.ref h0]) ++ List.replicate (1 - (lg_sl ([.ref h0])).length) Slot.unset).toArray = ls at hl ⊢
  have hl : lv_has ls 1 [(0, .ref h0)] := hl
  refine lv_aload_n hx hb dX2_isMissing_0 rfl (lv_at hl 0 rfl) ?_
  refine va_get (D := (dC, dI)) (ci := 0) (v := .int 0) (C := RX2) (T := TX2) (N := 3) hx hb hts inX2 hown hK hP 0 rfl rfl 0 (by decide) (hts _ (List.mem_of_getElem? (i := 1) rfl)) (fun _ h9 => h9) rfl dX2_isMissing_1 ?_
  refine lv_if_ne (tgt := 11) hx hb dX2_isMissing_4 (by decide) (fun c => absurd (by decide) c) (fun _ => ?_)
  refine lv_iconst (v := 1) hx hb dX2_isMissing_7 (by decide) ?_
  refine lv_goto (tgt := 12) hx hb dX2_isMissing_8 (by decide) ?_
  exact W.zret (v := 1) hx hb hr (by decide) (fun t ht hW => ⟨1, rfl, rfl, ht⟩) (fun _ h => absurd h List.not_mem_nil) dX2_isMissing_12

def w_c_renew : List Cond := .code yX2_renew cX2_renew 4 none :: (([.fieldLink RX2 9 "LampShapes$Paper" "bits" "I", .fieldLink RX2 15 "LampShapes$Paper" "size" "I", .fieldLink RX2 18 "LampShapes$Paper" "numbers" "[J"] : List Cond) ++ wsX20)
set_option maxHeartbeats 4000000 in
set_option maxRecDepth 100000 in
/-- renew() -/
theorem c_renew (l : Launch) (dC : Nat → ClassId) (dI : Nat → Nat → Nat) (ad : Nat → Nat) (h0 : Nat) (b : Int32) (n : Int32) (w0 : Value) (w1 : Value) (q1 : Nat) (c1 : ClassId) (f1 : Nat → Int64) (sz : Nat) : Met l yX2_renew w_c_renew ({ frames := 0, cells := 0, slots := 0, locals := 0 } : Room) (va_Pc [.ref h0, .int b, .int n] (preM dC dI ad [(c1, .long)] [(h0, .inr (0, [w0, w1, .ref q1])), (q1, .inl (c1, 40, .inr (.inl f1)))] sz)) (va_Qv (fun (_ : Unit) => True) (fun _ t => ∃ (f2 : Nat → Int64), va_P (dC, dI) vwCl [(h0, .inr (0, [.int b, .int n, .ref q1])), (q1, .inl (c1, 40, .inr (.inl f2)))] t.heap ∧ va_K (dC, dI) vwCl [(c1, .long)] t ∧ va_D (va_A [(h0, .inr (0, [w0, w1, .ref q1])), (q1, .inl (c1, 40, .inr (.inl f1)))] sz) [(h0, .inr (0, [.int b, .int n, .ref q1])), (q1, .inl (c1, 40, .inr (.inl f2)))]) (va_A [(h0, .inr (0, [w0, w1, .ref q1])), (q1, .inl (c1, 40, .inr (.inl f1)))] sz)) 0 0 (va_A [(h0, .inr (0, [w0, w1, .ref q1])), (q1, .inl (c1, 40, .inr (.inl f1)))] sz) := by
  refine Met.ofW (cc := cX2_renew) (maxL := 4) (ret := none) (by decide) rfl ?_
  intro p e s m args below meth c s₁ B hml hv
  obtain ⟨rfl, hsz, hP, hK, hD0, hev⟩ := hv
  have hx := B.exec
  have hb := B.bytes
  have hr := B.returns
  have hts := atoms_spec (ws := w_c_renew) B.pre
  have hown : s.vm.findClass RX2 = some m.cls := findClass_of_methodNamed B.named
  have hlocks := B.notSynchronized
  have inX2 : ∀ w ∈ wsX20, w ∈ w_c_renew := fun w h => List.mem_cons_of_mem _ (List.mem_append_right _ h)
  subst hsz
  have hD := hD0.self (sz := s.heap.size)
  generalize hAe : va_A [(h0, .inr (0, [w0, w1, .ref q1])), (q1, .inl (c1, 40, .inr (.inl f1)))] s.heap.size = A at hD ⊢
  have hA : ∀ q : Nat, s.heap.size ≤ q → A q := fun q h => by rw [← hAe]; exact Or.inr h
  have hS : va_S A s.heap s.heap [] := va_S.rf
  have hP : va_P (dC, dI) vwCl [(h0, .inr (0, [w0, w1, .ref q1])), (q1, .inl (c1, 40, .inr (.inl f1)))] s.heap := hP
  have hl := lv_entry ([.ref h0, .int b, .int n]) (n := 4) (Nat.le_of_ble_eq_true rfl)
  rw [lg_entry_eq]
  generalize (lg_sl ([.ref h0, .int b, .int n]) ++ List.replicate (4 - (lg_sl ([.ref h0, .int b, .int n])).length) Slot.unset).toArray = ls at hl ⊢
  have hl : lv_has ls 4 [(0, .ref h0), (1, .int b), (2, .int n)] := hl
  refine lv_aload_n hx hb dX2_renew_0 rfl (lv_at hl 0 rfl) ?_
  refine lv_iload_n hx hb dX2_renew_1 rfl (lv_at hl 1 rfl) ?_
  refine va_put (D := (dC, dI)) (ci := 0) (v := .int b) (ty := .int) (C := RX2) (T := TX2) (N := 3) hx hb hts inX2 tyX2 tyX2_ok nmX2 hown hK hP hD hS 0 rfl rfl 0 (by decide) (hts _ (List.mem_of_getElem? (i := 1) rfl)) (fun _ h9 => h9) rfl (by decide +kernel) rfl rfl (Nat.le_of_ble_eq_true rfl) dX2_renew_2 (fun H locs hP hD hS => ?_)
  have hP : va_P (dC, dI) vwCl [(h0, .inr (0, [.int b, w1, .ref q1])), (q1, .inl (c1, 40, .inr (.inl f1)))] H := hP
  have hD : va_D A [(h0, .inr (0, [.int b, w1, .ref q1])), (q1, .inl (c1, 40, .inr (.inl f1)))] := hD
  refine lv_aload_n hx hb dX2_renew_5 rfl (lv_at hl 0 rfl) ?_
  refine lv_iload_n hx hb dX2_renew_6 rfl (lv_at hl 2 rfl) ?_
  refine va_put (D := (dC, dI)) (ci := 0) (v := .int n) (ty := .int) (C := RX2) (T := TX2) (N := 3) hx hb hts inX2 tyX2 tyX2_ok nmX2 hown hK hP hD hS 0 rfl rfl 1 (by decide) (hts _ (List.mem_of_getElem? (i := 2) rfl)) (fun _ h9 => h9) rfl (by decide +kernel) rfl rfl (Nat.le_of_ble_eq_true rfl) dX2_renew_7 (fun H locs hP hD hS => ?_)
  have hP : va_P (dC, dI) vwCl [(h0, .inr (0, [.int b, .int n, .ref q1])), (q1, .inl (c1, 40, .inr (.inl f1)))] H := hP
  have hD : va_D A [(h0, .inr (0, [.int b, .int n, .ref q1])), (q1, .inl (c1, 40, .inr (.inl f1)))] := hD
  refine lv_iconst (v := 0) hx hb dX2_renew_10 (by decide) ?_
  refine lv_istore_n (lv' := [(3, .int 0), (0, .ref h0), (1, .int b), (2, .int n)]) hx hb dX2_renew_11 rfl hl (by decide) rfl (fun ls hl => ?_)
  refine lv_iload_n hx hb dX2_renew_12 rfl (lv_at hl 0 rfl) ?_
  refine lv_bipush (v := 40) hx hb dX2_renew_13 (by decide) ?_
  refine lv_icmp_ge (tgt := 31) hx hb dX2_renew_15 (by decide) (fun c => absurd c (by decide)) (fun _ => ?_)
  refine lv_aload_n hx hb dX2_renew_18 rfl (lv_at hl 1 rfl) ?_
  refine va_get (D := (dC, dI)) (ci := 0) (v := .ref q1) (C := RX2) (T := TX2) (N := 3) hx hb hts inX2 hown hK hP 0 rfl rfl 2 (by decide) (hts _ (List.mem_of_getElem? (i := 3) rfl)) (fun _ h9 => h9) rfl dX2_renew_19 ?_
  refine lv_iload_n hx hb dX2_renew_22 rfl (lv_at hl 0 rfl) ?_
  refine lv_lconst (v := 0) hx hb dX2_renew_23 (by decide) ?_
  refine va_last hx hb hK hP hD hS 1 0 rfl rfl (vp_in_nI (n := 0) (by decide) (by decide)) dX2_renew_24 (fun H locs hP hD hS => ?_)
  have hP : va_P (dC, dI) vwCl [(h0, .inr (0, [.int b, .int n, .ref q1])), (q1, .inl (c1, 40, .inr (.inl (vp_updL f1 0 0))))] H := hP
  have hD : va_D A [(h0, .inr (0, [.int b, .int n, .ref q1])), (q1, .inl (c1, 40, .inr (.inl (vp_updL f1 0 0))))] := hD
  generalize vp_updL f1 0 0 = f_1 at hP hD
  refine lv_iinc (v := 1) (lv' := [(3, .int 1), (0, .ref h0), (1, .int b), (2, .int n)]) hx hb dX2_renew_25 hl (k := 0) rfl (by decide) (by decide) rfl (fun ls hl => ?_)
  refine lv_goto (tgt := 12) hx hb dX2_renew_28 (by decide) ?_
  refine lv_iload_n hx hb dX2_renew_12 rfl (lv_at hl 0 rfl) ?_
  refine lv_bipush (v := 40) hx hb dX2_renew_13 (by decide) ?_
  refine lv_icmp_ge (tgt := 31) hx hb dX2_renew_15 (by decide) (fun c => absurd c (by decide)) (fun _ => ?_)
  refine lv_aload_n hx hb dX2_renew_18 rfl (lv_at hl 1 rfl) ?_
  refine va_get (D := (dC, dI)) (ci := 0) (v := .ref q1) (C := RX2) (T := TX2) (N := 3) hx hb hts inX2 hown hK hP 0 rfl rfl 2 (by decide) (hts _ (List.mem_of_getElem? (i := 3) rfl)) (fun _ h9 => h9) rfl dX2_renew_19 ?_
  refine lv_iload_n hx hb dX2_renew_22 rfl (lv_at hl 0 rfl) ?_
  refine lv_lconst (v := 0) hx hb dX2_renew_23 (by decide) ?_
  refine va_last hx hb hK hP hD hS 1 0 rfl rfl (vp_in_nI (n := 1) (by decide) (by decide)) dX2_renew_24 (fun H locs hP hD hS => ?_)
  have hP : va_P (dC, dI) vwCl [(h0, .inr (0, [.int b, .int n, .ref q1])), (q1, .inl (c1, 40, .inr (.inl (vp_updL f_1 1 0))))] H := hP
  have hD : va_D A [(h0, .inr (0, [.int b, .int n, .ref q1])), (q1, .inl (c1, 40, .inr (.inl (vp_updL f_1 1 0))))] := hD
  generalize vp_updL f_1 1 0 = f_2 at hP hD
  refine lv_iinc (v := 2) (lv' := [(3, .int 2), (0, .ref h0), (1, .int b), (2, .int n)]) hx hb dX2_renew_25 hl (k := 0) rfl (by decide) (by decide) rfl (fun ls hl => ?_)
  refine lv_goto (tgt := 12) hx hb dX2_renew_28 (by decide) ?_
  refine lv_iload_n hx hb dX2_renew_12 rfl (lv_at hl 0 rfl) ?_
  refine lv_bipush (v := 40) hx hb dX2_renew_13 (by decide) ?_
  refine lv_icmp_ge (tgt := 31) hx hb dX2_renew_15 (by decide) (fun c => absurd c (by decide)) (fun _ => ?_)
  refine lv_aload_n hx hb dX2_renew_18 rfl (lv_at hl 1 rfl) ?_
  refine va_get (D := (dC, dI)) (ci := 0) (v := .ref q1) (C := RX2) (T := TX2) (N := 3) hx hb hts inX2 hown hK hP 0 rfl rfl 2 (by decide) (hts _ (List.mem_of_getElem? (i := 3) rfl)) (fun _ h9 => h9) rfl dX2_renew_19 ?_
  refine lv_iload_n hx hb dX2_renew_22 rfl (lv_at hl 0 rfl) ?_
  refine lv_lconst (v := 0) hx hb dX2_renew_23 (by decide) ?_
  refine va_last hx hb hK hP hD hS 1 0 rfl rfl (vp_in_nI (n := 2) (by decide) (by decide)) dX2_renew_24 (fun H locs hP hD hS => ?_)
  have hP : va_P (dC, dI) vwCl [(h0, .inr (0, [.int b, .int n, .ref q1])), (q1, .inl (c1, 40, .inr (.inl (vp_updL f_2 2 0))))] H := hP
  have hD : va_D A [(h0, .inr (0, [.int b, .int n, .ref q1])), (q1, .inl (c1, 40, .inr (.inl (vp_updL f_2 2 0))))] := hD
  generalize vp_updL f_2 2 0 = f_3 at hP hD
  refine lv_iinc (v := 3) (lv' := [(3, .int 3), (0, .ref h0), (1, .int b), (2, .int n)]) hx hb dX2_renew_25 hl (k := 0) rfl (by decide) (by decide) rfl (fun ls hl => ?_)
  refine lv_goto (tgt := 12) hx hb dX2_renew_28 (by decide) ?_
  refine lv_iload_n hx hb dX2_renew_12 rfl (lv_at hl 0 rfl) ?_
  refine lv_bipush (v := 40) hx hb dX2_renew_13 (by decide) ?_
  refine lv_icmp_ge (tgt := 31) hx hb dX2_renew_15 (by decide) (fun c => absurd c (by decide)) (fun _ => ?_)
  refine lv_aload_n hx hb dX2_renew_18 rfl (lv_at hl 1 rfl) ?_
  refine va_get (D := (dC, dI)) (ci := 0) (v := .ref q1) (C := RX2) (T := TX2) (N := 3) hx hb hts inX2 hown hK hP 0 rfl rfl 2 (by decide) (hts _ (List.mem_of_getElem? (i := 3) rfl)) (fun _ h9 => h9) rfl dX2_renew_19 ?_
  refine lv_iload_n hx hb dX2_renew_22 rfl (lv_at hl 0 rfl) ?_
  refine lv_lconst (v := 0) hx hb dX2_renew_23 (by decide) ?_
  refine va_last hx hb hK hP hD hS 1 0 rfl rfl (vp_in_nI (n := 3) (by decide) (by decide)) dX2_renew_24 (fun H locs hP hD hS => ?_)
  have hP : va_P (dC, dI) vwCl [(h0, .inr (0, [.int b, .int n, .ref q1])), (q1, .inl (c1, 40, .inr (.inl (vp_updL f_3 3 0))))] H := hP
  have hD : va_D A [(h0, .inr (0, [.int b, .int n, .ref q1])), (q1, .inl (c1, 40, .inr (.inl (vp_updL f_3 3 0))))] := hD
  generalize vp_updL f_3 3 0 = f_4 at hP hD
  refine lv_iinc (v := 4) (lv' := [(3, .int 4), (0, .ref h0), (1, .int b), (2, .int n)]) hx hb dX2_renew_25 hl (k := 0) rfl (by decide) (by decide) rfl (fun ls hl => ?_)
  refine lv_goto (tgt := 12) hx hb dX2_renew_28 (by decide) ?_
  refine lv_iload_n hx hb dX2_renew_12 rfl (lv_at hl 0 rfl) ?_
  refine lv_bipush (v := 40) hx hb dX2_renew_13 (by decide) ?_
  refine lv_icmp_ge (tgt := 31) hx hb dX2_renew_15 (by decide) (fun c => absurd c (by decide)) (fun _ => ?_)
  refine lv_aload_n hx hb dX2_renew_18 rfl (lv_at hl 1 rfl) ?_
  refine va_get (D := (dC, dI)) (ci := 0) (v := .ref q1) (C := RX2) (T := TX2) (N := 3) hx hb hts inX2 hown hK hP 0 rfl rfl 2 (by decide) (hts _ (List.mem_of_getElem? (i := 3) rfl)) (fun _ h9 => h9) rfl dX2_renew_19 ?_
  refine lv_iload_n hx hb dX2_renew_22 rfl (lv_at hl 0 rfl) ?_
  refine lv_lconst (v := 0) hx hb dX2_renew_23 (by decide) ?_
  refine va_last hx hb hK hP hD hS 1 0 rfl rfl (vp_in_nI (n := 4) (by decide) (by decide)) dX2_renew_24 (fun H locs hP hD hS => ?_)
  have hP : va_P (dC, dI) vwCl [(h0, .inr (0, [.int b, .int n, .ref q1])), (q1, .inl (c1, 40, .inr (.inl (vp_updL f_4 4 0))))] H := hP
  have hD : va_D A [(h0, .inr (0, [.int b, .int n, .ref q1])), (q1, .inl (c1, 40, .inr (.inl (vp_updL f_4 4 0))))] := hD
  generalize vp_updL f_4 4 0 = f_5 at hP hD
  refine lv_iinc (v := 5) (lv' := [(3, .int 5), (0, .ref h0), (1, .int b), (2, .int n)]) hx hb dX2_renew_25 hl (k := 0) rfl (by decide) (by decide) rfl (fun ls hl => ?_)
  refine lv_goto (tgt := 12) hx hb dX2_renew_28 (by decide) ?_
  refine lv_iload_n hx hb dX2_renew_12 rfl (lv_at hl 0 rfl) ?_
  refine lv_bipush (v := 40) hx hb dX2_renew_13 (by decide) ?_
  refine lv_icmp_ge (tgt := 31) hx hb dX2_renew_15 (by decide) (fun c => absurd c (by decide)) (fun _ => ?_)
  refine lv_aload_n hx hb dX2_renew_18 rfl (lv_at hl 1 rfl) ?_
  refine va_get (D := (dC, dI)) (ci := 0) (v := .ref q1) (C := RX2) (T := TX2) (N := 3) hx hb hts inX2 hown hK hP 0 rfl rfl 2 (by decide) (hts _ (List.mem_of_getElem? (i := 3) rfl)) (fun _ h9 => h9) rfl dX2_renew_19 ?_
  refine lv_iload_n hx hb dX2_renew_22 rfl (lv_at hl 0 rfl) ?_
  refine lv_lconst (v := 0) hx hb dX2_renew_23 (by decide) ?_
  refine va_last hx hb hK hP hD hS 1 0 rfl rfl (vp_in_nI (n := 5) (by decide) (by decide)) dX2_renew_24 (fun H locs hP hD hS => ?_)
  have hP : va_P (dC, dI) vwCl [(h0, .inr (0, [.int b, .int n, .ref q1])), (q1, .inl (c1, 40, .inr (.inl (vp_updL f_5 5 0))))] H := hP
  have hD : va_D A [(h0, .inr (0, [.int b, .int n, .ref q1])), (q1, .inl (c1, 40, .inr (.inl (vp_updL f_5 5 0))))] := hD
  generalize vp_updL f_5 5 0 = f_6 at hP hD
  refine lv_iinc (v := 6) (lv' := [(3, .int 6), (0, .ref h0), (1, .int b), (2, .int n)]) hx hb dX2_renew_25 hl (k := 0) rfl (by decide) (by decide) rfl (fun ls hl => ?_)
  refine lv_goto (tgt := 12) hx hb dX2_renew_28 (by decide) ?_
  refine lv_iload_n hx hb dX2_renew_12 rfl (lv_at hl 0 rfl) ?_
  refine lv_bipush (v := 40) hx hb dX2_renew_13 (by decide) ?_
  refine lv_icmp_ge (tgt := 31) hx hb dX2_renew_15 (by decide) (fun c => absurd c (by decide)) (fun _ => ?_)
  refine lv_aload_n hx hb dX2_renew_18 rfl (lv_at hl 1 rfl) ?_
  refine va_get (D := (dC, dI)) (ci := 0) (v := .ref q1) (C := RX2) (T := TX2) (N := 3) hx hb hts inX2 hown hK hP 0 rfl rfl 2 (by decide) (hts _ (List.mem_of_getElem? (i := 3) rfl)) (fun _ h9 => h9) rfl dX2_renew_19 ?_
  refine lv_iload_n hx hb dX2_renew_22 rfl (lv_at hl 0 rfl) ?_
  refine lv_lconst (v := 0) hx hb dX2_renew_23 (by decide) ?_
  refine va_last hx hb hK hP hD hS 1 0 rfl rfl (vp_in_nI (n := 6) (by decide) (by decide)) dX2_renew_24 (fun H locs hP hD hS => ?_)
  have hP : va_P (dC, dI) vwCl [(h0, .inr (0, [.int b, .int n, .ref q1])), (q1, .inl (c1, 40, .inr (.inl (vp_updL f_6 6 0))))] H := hP
  have hD : va_D A [(h0, .inr (0, [.int b, .int n, .ref q1])), (q1, .inl (c1, 40, .inr (.inl (vp_updL f_6 6 0))))] := hD
  generalize vp_updL f_6 6 0 = f_7 at hP hD
  refine lv_iinc (v := 7) (lv' := [(3, .int 7), (0, .ref h0), (1, .int b), (2, .int n)]) hx hb dX2_renew_25 hl (k := 0) rfl (by decide) (by decide) rfl (fun ls hl => ?_)
  refine lv_goto (tgt := 12) hx hb dX2_renew_28 (by decide) ?_
  refine lv_iload_n hx hb dX2_renew_12 rfl (lv_at hl 0 rfl) ?_
  refine lv_bipush (v := 40) hx hb dX2_renew_13 (by decide) ?_
  refine lv_icmp_ge (tgt := 31) hx hb dX2_renew_15 (by decide) (fun c => absurd c (by decide)) (fun _ => ?_)
  refine lv_aload_n hx hb dX2_renew_18 rfl (lv_at hl 1 rfl) ?_
  refine va_get (D := (dC, dI)) (ci := 0) (v := .ref q1) (C := RX2) (T := TX2) (N := 3) hx hb hts inX2 hown hK hP 0 rfl rfl 2 (by decide) (hts _ (List.mem_of_getElem? (i := 3) rfl)) (fun _ h9 => h9) rfl dX2_renew_19 ?_
  refine lv_iload_n hx hb dX2_renew_22 rfl (lv_at hl 0 rfl) ?_
  refine lv_lconst (v := 0) hx hb dX2_renew_23 (by decide) ?_
  refine va_last hx hb hK hP hD hS 1 0 rfl rfl (vp_in_nI (n := 7) (by decide) (by decide)) dX2_renew_24 (fun H locs hP hD hS => ?_)
  have hP : va_P (dC, dI) vwCl [(h0, .inr (0, [.int b, .int n, .ref q1])), (q1, .inl (c1, 40, .inr (.inl (vp_updL f_7 7 0))))] H := hP
  have hD : va_D A [(h0, .inr (0, [.int b, .int n, .ref q1])), (q1, .inl (c1, 40, .inr (.inl (vp_updL f_7 7 0))))] := hD
  generalize vp_updL f_7 7 0 = f_8 at hP hD
  refine lv_iinc (v := 8) (lv' := [(3, .int 8), (0, .ref h0), (1, .int b), (2, .int n)]) hx hb dX2_renew_25 hl (k := 0) rfl (by decide) (by decide) rfl (fun ls hl => ?_)
  refine lv_goto (tgt := 12) hx hb dX2_renew_28 (by decide) ?_
  refine lv_iload_n hx hb dX2_renew_12 rfl (lv_at hl 0 rfl) ?_
  refine lv_bipush (v := 40) hx hb dX2_renew_13 (by decide) ?_
  refine lv_icmp_ge (tgt := 31) hx hb dX2_renew_15 (by decide) (fun c => absurd c (by decide)) (fun _ => ?_)
  refine lv_aload_n hx hb dX2_renew_18 rfl (lv_at hl 1 rfl) ?_
  refine va_get (D := (dC, dI)) (ci := 0) (v := .ref q1) (C := RX2) (T := TX2) (N := 3) hx hb hts inX2 hown hK hP 0 rfl rfl 2 (by decide) (hts _ (List.mem_of_getElem? (i := 3) rfl)) (fun _ h9 => h9) rfl dX2_renew_19 ?_
  refine lv_iload_n hx hb dX2_renew_22 rfl (lv_at hl 0 rfl) ?_
  refine lv_lconst (v := 0) hx hb dX2_renew_23 (by decide) ?_
  refine va_last hx hb hK hP hD hS 1 0 rfl rfl (vp_in_nI (n := 8) (by decide) (by decide)) dX2_renew_24 (fun H locs hP hD hS => ?_)
  have hP : va_P (dC, dI) vwCl [(h0, .inr (0, [.int b, .int n, .ref q1])), (q1, .inl (c1, 40, .inr (.inl (vp_updL f_8 8 0))))] H := hP
  have hD : va_D A [(h0, .inr (0, [.int b, .int n, .ref q1])), (q1, .inl (c1, 40, .inr (.inl (vp_updL f_8 8 0))))] := hD
  generalize vp_updL f_8 8 0 = f_9 at hP hD
  refine lv_iinc (v := 9) (lv' := [(3, .int 9), (0, .ref h0), (1, .int b), (2, .int n)]) hx hb dX2_renew_25 hl (k := 0) rfl (by decide) (by decide) rfl (fun ls hl => ?_)
  refine lv_goto (tgt := 12) hx hb dX2_renew_28 (by decide) ?_
  refine lv_iload_n hx hb dX2_renew_12 rfl (lv_at hl 0 rfl) ?_
  refine lv_bipush (v := 40) hx hb dX2_renew_13 (by decide) ?_
  refine lv_icmp_ge (tgt := 31) hx hb dX2_renew_15 (by decide) (fun c => absurd c (by decide)) (fun _ => ?_)
  refine lv_aload_n hx hb dX2_renew_18 rfl (lv_at hl 1 rfl) ?_
  refine va_get (D := (dC, dI)) (ci := 0) (v := .ref q1) (C := RX2) (T := TX2) (N := 3) hx hb hts inX2 hown hK hP 0 rfl rfl 2 (by decide) (hts _ (List.mem_of_getElem? (i := 3) rfl)) (fun _ h9 => h9) rfl dX2_renew_19 ?_
  refine lv_iload_n hx hb dX2_renew_22 rfl (lv_at hl 0 rfl) ?_
  refine lv_lconst (v := 0) hx hb dX2_renew_23 (by decide) ?_
  refine va_last hx hb hK hP hD hS 1 0 rfl rfl (vp_in_nI (n := 9) (by decide) (by decide)) dX2_renew_24 (fun H locs hP hD hS => ?_)
  have hP : va_P (dC, dI) vwCl [(h0, .inr (0, [.int b, .int n, .ref q1])), (q1, .inl (c1, 40, .inr (.inl (vp_updL f_9 9 0))))] H := hP
  have hD : va_D A [(h0, .inr (0, [.int b, .int n, .ref q1])), (q1, .inl (c1, 40, .inr (.inl (vp_updL f_9 9 0))))] := hD
  generalize vp_updL f_9 9 0 = f_10 at hP hD
  refine lv_iinc (v := 10) (lv' := [(3, .int 10), (0, .ref h0), (1, .int b), (2, .int n)]) hx hb dX2_renew_25 hl (k := 0) rfl (by decide) (by decide) rfl (fun ls hl => ?_)
  refine lv_goto (tgt := 12) hx hb dX2_renew_28 (by decide) ?_
  refine lv_iload_n hx hb dX2_renew_12 rfl (lv_at hl 0 rfl) ?_
  refine lv_bipush (v := 40) hx hb dX2_renew_13 (by decide) ?_
  refine lv_icmp_ge (tgt := 31) hx hb dX2_renew_15 (by decide) (fun c => absurd c (by decide)) (fun _ => ?_)
  refine lv_aload_n hx hb dX2_renew_18 rfl (lv_at hl 1 rfl) ?_
  refine va_get (D := (dC, dI)) (ci := 0) (v := .ref q1) (C := RX2) (T := TX2) (N := 3) hx hb hts inX2 hown hK hP 0 rfl rfl 2 (by decide) (hts _ (List.mem_of_getElem? (i := 3) rfl)) (fun _ h9 => h9) rfl dX2_renew_19 ?_
  refine lv_iload_n hx hb dX2_renew_22 rfl (lv_at hl 0 rfl) ?_
  refine lv_lconst (v := 0) hx hb dX2_renew_23 (by decide) ?_
  refine va_last hx hb hK hP hD hS 1 0 rfl rfl (vp_in_nI (n := 10) (by decide) (by decide)) dX2_renew_24 (fun H locs hP hD hS => ?_)
  have hP : va_P (dC, dI) vwCl [(h0, .inr (0, [.int b, .int n, .ref q1])), (q1, .inl (c1, 40, .inr (.inl (vp_updL f_10 10 0))))] H := hP
  have hD : va_D A [(h0, .inr (0, [.int b, .int n, .ref q1])), (q1, .inl (c1, 40, .inr (.inl (vp_updL f_10 10 0))))] := hD
  generalize vp_updL f_10 10 0 = f_11 at hP hD
  refine lv_iinc (v := 11) (lv' := [(3, .int 11), (0, .ref h0), (1, .int b), (2, .int n)]) hx hb dX2_renew_25 hl (k := 0) rfl (by decide) (by decide) rfl (fun ls hl => ?_)
  refine lv_goto (tgt := 12) hx hb dX2_renew_28 (by decide) ?_
  refine lv_iload_n hx hb dX2_renew_12 rfl (lv_at hl 0 rfl) ?_
  refine lv_bipush (v := 40) hx hb dX2_renew_13 (by decide) ?_
  refine lv_icmp_ge (tgt := 31) hx hb dX2_renew_15 (by decide) (fun c => absurd c (by decide)) (fun _ => ?_)
  refine lv_aload_n hx hb dX2_renew_18 rfl (lv_at hl 1 rfl) ?_
  refine va_get (D := (dC, dI)) (ci := 0) (v := .ref q1) (C := RX2) (T := TX2) (N := 3) hx hb hts inX2 hown hK hP 0 rfl rfl 2 (by decide) (hts _ (List.mem_of_getElem? (i := 3) rfl)) (fun _ h9 => h9) rfl dX2_renew_19 ?_
  refine lv_iload_n hx hb dX2_renew_22 rfl (lv_at hl 0 rfl) ?_
  refine lv_lconst (v := 0) hx hb dX2_renew_23 (by decide) ?_
  refine va_last hx hb hK hP hD hS 1 0 rfl rfl (vp_in_nI (n := 11) (by decide) (by decide)) dX2_renew_24 (fun H locs hP hD hS => ?_)
  have hP : va_P (dC, dI) vwCl [(h0, .inr (0, [.int b, .int n, .ref q1])), (q1, .inl (c1, 40, .inr (.inl (vp_updL f_11 11 0))))] H := hP
  have hD : va_D A [(h0, .inr (0, [.int b, .int n, .ref q1])), (q1, .inl (c1, 40, .inr (.inl (vp_updL f_11 11 0))))] := hD
  generalize vp_updL f_11 11 0 = f_12 at hP hD
  refine lv_iinc (v := 12) (lv' := [(3, .int 12), (0, .ref h0), (1, .int b), (2, .int n)]) hx hb dX2_renew_25 hl (k := 0) rfl (by decide) (by decide) rfl (fun ls hl => ?_)
  refine lv_goto (tgt := 12) hx hb dX2_renew_28 (by decide) ?_
  refine lv_iload_n hx hb dX2_renew_12 rfl (lv_at hl 0 rfl) ?_
  refine lv_bipush (v := 40) hx hb dX2_renew_13 (by decide) ?_
  refine lv_icmp_ge (tgt := 31) hx hb dX2_renew_15 (by decide) (fun c => absurd c (by decide)) (fun _ => ?_)
  refine lv_aload_n hx hb dX2_renew_18 rfl (lv_at hl 1 rfl) ?_
  refine va_get (D := (dC, dI)) (ci := 0) (v := .ref q1) (C := RX2) (T := TX2) (N := 3) hx hb hts inX2 hown hK hP 0 rfl rfl 2 (by decide) (hts _ (List.mem_of_getElem? (i := 3) rfl)) (fun _ h9 => h9) rfl dX2_renew_19 ?_
  refine lv_iload_n hx hb dX2_renew_22 rfl (lv_at hl 0 rfl) ?_
  refine lv_lconst (v := 0) hx hb dX2_renew_23 (by decide) ?_
  refine va_last hx hb hK hP hD hS 1 0 rfl rfl (vp_in_nI (n := 12) (by decide) (by decide)) dX2_renew_24 (fun H locs hP hD hS => ?_)
  have hP : va_P (dC, dI) vwCl [(h0, .inr (0, [.int b, .int n, .ref q1])), (q1, .inl (c1, 40, .inr (.inl (vp_updL f_12 12 0))))] H := hP
  have hD : va_D A [(h0, .inr (0, [.int b, .int n, .ref q1])), (q1, .inl (c1, 40, .inr (.inl (vp_updL f_12 12 0))))] := hD
  generalize vp_updL f_12 12 0 = f_13 at hP hD
  refine lv_iinc (v := 13) (lv' := [(3, .int 13), (0, .ref h0), (1, .int b), (2, .int n)]) hx hb dX2_renew_25 hl (k := 0) rfl (by decide) (by decide) rfl (fun ls hl => ?_)
  refine lv_goto (tgt := 12) hx hb dX2_renew_28 (by decide) ?_
  refine lv_iload_n hx hb dX2_renew_12 rfl (lv_at hl 0 rfl) ?_
  refine lv_bipush (v := 40) hx hb dX2_renew_13 (by decide) ?_
  refine lv_icmp_ge (tgt := 31) hx hb dX2_renew_15 (by decide) (fun c => absurd c (by decide)) (fun _ => ?_)
  refine lv_aload_n hx hb dX2_renew_18 rfl (lv_at hl 1 rfl) ?_
  refine va_get (D := (dC, dI)) (ci := 0) (v := .ref q1) (C := RX2) (T := TX2) (N := 3) hx hb hts inX2 hown hK hP 0 rfl rfl 2 (by decide) (hts _ (List.mem_of_getElem? (i := 3) rfl)) (fun _ h9 => h9) rfl dX2_renew_19 ?_
  refine lv_iload_n hx hb dX2_renew_22 rfl (lv_at hl 0 rfl) ?_
  refine lv_lconst (v := 0) hx hb dX2_renew_23 (by decide) ?_
  refine va_last hx hb hK hP hD hS 1 0 rfl rfl (vp_in_nI (n := 13) (by decide) (by decide)) dX2_renew_24 (fun H locs hP hD hS => ?_)
  have hP : va_P (dC, dI) vwCl [(h0, .inr (0, [.int b, .int n, .ref q1])), (q1, .inl (c1, 40, .inr (.inl (vp_updL f_13 13 0))))] H := hP
  have hD : va_D A [(h0, .inr (0, [.int b, .int n, .ref q1])), (q1, .inl (c1, 40, .inr (.inl (vp_updL f_13 13 0))))] := hD
  generalize vp_updL f_13 13 0 = f_14 at hP hD
  refine lv_iinc (v := 14) (lv' := [(3, .int 14), (0, .ref h0), (1, .int b), (2, .int n)]) hx hb dX2_renew_25 hl (k := 0) rfl (by decide) (by decide) rfl (fun ls hl => ?_)
  refine lv_goto (tgt := 12) hx hb dX2_renew_28 (by decide) ?_
  refine lv_iload_n hx hb dX2_renew_12 rfl (lv_at hl 0 rfl) ?_
  refine lv_bipush (v := 40) hx hb dX2_renew_13 (by decide) ?_
  refine lv_icmp_ge (tgt := 31) hx hb dX2_renew_15 (by decide) (fun c => absurd c (by decide)) (fun _ => ?_)
  refine lv_aload_n hx hb dX2_renew_18 rfl (lv_at hl 1 rfl) ?_
  refine va_get (D := (dC, dI)) (ci := 0) (v := .ref q1) (C := RX2) (T := TX2) (N := 3) hx hb hts inX2 hown hK hP 0 rfl rfl 2 (by decide) (hts _ (List.mem_of_getElem? (i := 3) rfl)) (fun _ h9 => h9) rfl dX2_renew_19 ?_
  refine lv_iload_n hx hb dX2_renew_22 rfl (lv_at hl 0 rfl) ?_
  refine lv_lconst (v := 0) hx hb dX2_renew_23 (by decide) ?_
  refine va_last hx hb hK hP hD hS 1 0 rfl rfl (vp_in_nI (n := 14) (by decide) (by decide)) dX2_renew_24 (fun H locs hP hD hS => ?_)
  have hP : va_P (dC, dI) vwCl [(h0, .inr (0, [.int b, .int n, .ref q1])), (q1, .inl (c1, 40, .inr (.inl (vp_updL f_14 14 0))))] H := hP
  have hD : va_D A [(h0, .inr (0, [.int b, .int n, .ref q1])), (q1, .inl (c1, 40, .inr (.inl (vp_updL f_14 14 0))))] := hD
  generalize vp_updL f_14 14 0 = f_15 at hP hD
  refine lv_iinc (v := 15) (lv' := [(3, .int 15), (0, .ref h0), (1, .int b), (2, .int n)]) hx hb dX2_renew_25 hl (k := 0) rfl (by decide) (by decide) rfl (fun ls hl => ?_)
  refine lv_goto (tgt := 12) hx hb dX2_renew_28 (by decide) ?_
  refine lv_iload_n hx hb dX2_renew_12 rfl (lv_at hl 0 rfl) ?_
  refine lv_bipush (v := 40) hx hb dX2_renew_13 (by decide) ?_
  refine lv_icmp_ge (tgt := 31) hx hb dX2_renew_15 (by decide) (fun c => absurd c (by decide)) (fun _ => ?_)
  refine lv_aload_n hx hb dX2_renew_18 rfl (lv_at hl 1 rfl) ?_
  refine va_get (D := (dC, dI)) (ci := 0) (v := .ref q1) (C := RX2) (T := TX2) (N := 3) hx hb hts inX2 hown hK hP 0 rfl rfl 2 (by decide) (hts _ (List.mem_of_getElem? (i := 3) rfl)) (fun _ h9 => h9) rfl dX2_renew_19 ?_
  refine lv_iload_n hx hb dX2_renew_22 rfl (lv_at hl 0 rfl) ?_
  refine lv_lconst (v := 0) hx hb dX2_renew_23 (by decide) ?_
  refine va_last hx hb hK hP hD hS 1 0 rfl rfl (vp_in_nI (n := 15) (by decide) (by decide)) dX2_renew_24 (fun H locs hP hD hS => ?_)
  have hP : va_P (dC, dI) vwCl [(h0, .inr (0, [.int b, .int n, .ref q1])), (q1, .inl (c1, 40, .inr (.inl (vp_updL f_15 15 0))))] H := hP
  have hD : va_D A [(h0, .inr (0, [.int b, .int n, .ref q1])), (q1, .inl (c1, 40, .inr (.inl (vp_updL f_15 15 0))))] := hD
  generalize vp_updL f_15 15 0 = f_16 at hP hD
  refine lv_iinc (v := 16) (lv' := [(3, .int 16), (0, .ref h0), (1, .int b), (2, .int n)]) hx hb dX2_renew_25 hl (k := 0) rfl (by decide) (by decide) rfl (fun ls hl => ?_)
  refine lv_goto (tgt := 12) hx hb dX2_renew_28 (by decide) ?_
  refine lv_iload_n hx hb dX2_renew_12 rfl (lv_at hl 0 rfl) ?_
  refine lv_bipush (v := 40) hx hb dX2_renew_13 (by decide) ?_
  refine lv_icmp_ge (tgt := 31) hx hb dX2_renew_15 (by decide) (fun c => absurd c (by decide)) (fun _ => ?_)
  refine lv_aload_n hx hb dX2_renew_18 rfl (lv_at hl 1 rfl) ?_
  refine va_get (D := (dC, dI)) (ci := 0) (v := .ref q1) (C := RX2) (T := TX2) (N := 3) hx hb hts inX2 hown hK hP 0 rfl rfl 2 (by decide) (hts _ (List.mem_of_getElem? (i := 3) rfl)) (fun _ h9 => h9) rfl dX2_renew_19 ?_
  refine lv_iload_n hx hb dX2_renew_22 rfl (lv_at hl 0 rfl) ?_
  refine lv_lconst (v := 0) hx hb dX2_renew_23 (by decide) ?_
  refine va_last hx hb hK hP hD hS 1 0 rfl rfl (vp_in_nI (n := 16) (by decide) (by decide)) dX2_renew_24 (fun H locs hP hD hS => ?_)
  have hP : va_P (dC, dI) vwCl [(h0, .inr (0, [.int b, .int n, .ref q1])), (q1, .inl (c1, 40, .inr (.inl (vp_updL f_16 16 0))))] H := hP
  have hD : va_D A [(h0, .inr (0, [.int b, .int n, .ref q1])), (q1, .inl (c1, 40, .inr (.inl (vp_updL f_16 16 0))))] := hD
  generalize vp_updL f_16 16 0 = f_17 at hP hD
  refine lv_iinc (v := 17) (lv' := [(3, .int 17), (0, .ref h0), (1, .int b), (2, .int n)]) hx hb dX2_renew_25 hl (k := 0) rfl (by decide) (by decide) rfl (fun ls hl => ?_)
  refine lv_goto (tgt := 12) hx hb dX2_renew_28 (by decide) ?_
  refine lv_iload_n hx hb dX2_renew_12 rfl (lv_at hl 0 rfl) ?_
  refine lv_bipush (v := 40) hx hb dX2_renew_13 (by decide) ?_
  refine lv_icmp_ge (tgt := 31) hx hb dX2_renew_15 (by decide) (fun c => absurd c (by decide)) (fun _ => ?_)
  refine lv_aload_n hx hb dX2_renew_18 rfl (lv_at hl 1 rfl) ?_
  refine va_get (D := (dC, dI)) (ci := 0) (v := .ref q1) (C := RX2) (T := TX2) (N := 3) hx hb hts inX2 hown hK hP 0 rfl rfl 2 (by decide) (hts _ (List.mem_of_getElem? (i := 3) rfl)) (fun _ h9 => h9) rfl dX2_renew_19 ?_
  refine lv_iload_n hx hb dX2_renew_22 rfl (lv_at hl 0 rfl) ?_
  refine lv_lconst (v := 0) hx hb dX2_renew_23 (by decide) ?_
  refine va_last hx hb hK hP hD hS 1 0 rfl rfl (vp_in_nI (n := 17) (by decide) (by decide)) dX2_renew_24 (fun H locs hP hD hS => ?_)
  have hP : va_P (dC, dI) vwCl [(h0, .inr (0, [.int b, .int n, .ref q1])), (q1, .inl (c1, 40, .inr (.inl (vp_updL f_17 17 0))))] H := hP
  have hD : va_D A [(h0, .inr (0, [.int b, .int n, .ref q1])), (q1, .inl (c1, 40, .inr (.inl (vp_updL f_17 17 0))))] := hD
  generalize vp_updL f_17 17 0 = f_18 at hP hD
  refine lv_iinc (v := 18) (lv' := [(3, .int 18), (0, .ref h0), (1, .int b), (2, .int n)]) hx hb dX2_renew_25 hl (k := 0) rfl (by decide) (by decide) rfl (fun ls hl => ?_)
  refine lv_goto (tgt := 12) hx hb dX2_renew_28 (by decide) ?_
  refine lv_iload_n hx hb dX2_renew_12 rfl (lv_at hl 0 rfl) ?_
  refine lv_bipush (v := 40) hx hb dX2_renew_13 (by decide) ?_
  refine lv_icmp_ge (tgt := 31) hx hb dX2_renew_15 (by decide) (fun c => absurd c (by decide)) (fun _ => ?_)
  refine lv_aload_n hx hb dX2_renew_18 rfl (lv_at hl 1 rfl) ?_
  refine va_get (D := (dC, dI)) (ci := 0) (v := .ref q1) (C := RX2) (T := TX2) (N := 3) hx hb hts inX2 hown hK hP 0 rfl rfl 2 (by decide) (hts _ (List.mem_of_getElem? (i := 3) rfl)) (fun _ h9 => h9) rfl dX2_renew_19 ?_
  refine lv_iload_n hx hb dX2_renew_22 rfl (lv_at hl 0 rfl) ?_
  refine lv_lconst (v := 0) hx hb dX2_renew_23 (by decide) ?_
  refine va_last hx hb hK hP hD hS 1 0 rfl rfl (vp_in_nI (n := 18) (by decide) (by decide)) dX2_renew_24 (fun H locs hP hD hS => ?_)
  have hP : va_P (dC, dI) vwCl [(h0, .inr (0, [.int b, .int n, .ref q1])), (q1, .inl (c1, 40, .inr (.inl (vp_updL f_18 18 0))))] H := hP
  have hD : va_D A [(h0, .inr (0, [.int b, .int n, .ref q1])), (q1, .inl (c1, 40, .inr (.inl (vp_updL f_18 18 0))))] := hD
  generalize vp_updL f_18 18 0 = f_19 at hP hD
  refine lv_iinc (v := 19) (lv' := [(3, .int 19), (0, .ref h0), (1, .int b), (2, .int n)]) hx hb dX2_renew_25 hl (k := 0) rfl (by decide) (by decide) rfl (fun ls hl => ?_)
  refine lv_goto (tgt := 12) hx hb dX2_renew_28 (by decide) ?_
  refine lv_iload_n hx hb dX2_renew_12 rfl (lv_at hl 0 rfl) ?_
  refine lv_bipush (v := 40) hx hb dX2_renew_13 (by decide) ?_
  refine lv_icmp_ge (tgt := 31) hx hb dX2_renew_15 (by decide) (fun c => absurd c (by decide)) (fun _ => ?_)
  refine lv_aload_n hx hb dX2_renew_18 rfl (lv_at hl 1 rfl) ?_
  refine va_get (D := (dC, dI)) (ci := 0) (v := .ref q1) (C := RX2) (T := TX2) (N := 3) hx hb hts inX2 hown hK hP 0 rfl rfl 2 (by decide) (hts _ (List.mem_of_getElem? (i := 3) rfl)) (fun _ h9 => h9) rfl dX2_renew_19 ?_
  refine lv_iload_n hx hb dX2_renew_22 rfl (lv_at hl 0 rfl) ?_
  refine lv_lconst (v := 0) hx hb dX2_renew_23 (by decide) ?_
  refine va_last hx hb hK hP hD hS 1 0 rfl rfl (vp_in_nI (n := 19) (by decide) (by decide)) dX2_renew_24 (fun H locs hP hD hS => ?_)
  have hP : va_P (dC, dI) vwCl [(h0, .inr (0, [.int b, .int n, .ref q1])), (q1, .inl (c1, 40, .inr (.inl (vp_updL f_19 19 0))))] H := hP
  have hD : va_D A [(h0, .inr (0, [.int b, .int n, .ref q1])), (q1, .inl (c1, 40, .inr (.inl (vp_updL f_19 19 0))))] := hD
  generalize vp_updL f_19 19 0 = f_20 at hP hD
  refine lv_iinc (v := 20) (lv' := [(3, .int 20), (0, .ref h0), (1, .int b), (2, .int n)]) hx hb dX2_renew_25 hl (k := 0) rfl (by decide) (by decide) rfl (fun ls hl => ?_)
  refine lv_goto (tgt := 12) hx hb dX2_renew_28 (by decide) ?_
  refine lv_iload_n hx hb dX2_renew_12 rfl (lv_at hl 0 rfl) ?_
  refine lv_bipush (v := 40) hx hb dX2_renew_13 (by decide) ?_
  refine lv_icmp_ge (tgt := 31) hx hb dX2_renew_15 (by decide) (fun c => absurd c (by decide)) (fun _ => ?_)
  refine lv_aload_n hx hb dX2_renew_18 rfl (lv_at hl 1 rfl) ?_
  refine va_get (D := (dC, dI)) (ci := 0) (v := .ref q1) (C := RX2) (T := TX2) (N := 3) hx hb hts inX2 hown hK hP 0 rfl rfl 2 (by decide) (hts _ (List.mem_of_getElem? (i := 3) rfl)) (fun _ h9 => h9) rfl dX2_renew_19 ?_
  refine lv_iload_n hx hb dX2_renew_22 rfl (lv_at hl 0 rfl) ?_
  refine lv_lconst (v := 0) hx hb dX2_renew_23 (by decide) ?_
  refine va_last hx hb hK hP hD hS 1 0 rfl rfl (vp_in_nI (n := 20) (by decide) (by decide)) dX2_renew_24 (fun H locs hP hD hS => ?_)
  have hP : va_P (dC, dI) vwCl [(h0, .inr (0, [.int b, .int n, .ref q1])), (q1, .inl (c1, 40, .inr (.inl (vp_updL f_20 20 0))))] H := hP
  have hD : va_D A [(h0, .inr (0, [.int b, .int n, .ref q1])), (q1, .inl (c1, 40, .inr (.inl (vp_updL f_20 20 0))))] := hD
  generalize vp_updL f_20 20 0 = f_21 at hP hD
  refine lv_iinc (v := 21) (lv' := [(3, .int 21), (0, .ref h0), (1, .int b), (2, .int n)]) hx hb dX2_renew_25 hl (k := 0) rfl (by decide) (by decide) rfl (fun ls hl => ?_)
  refine lv_goto (tgt := 12) hx hb dX2_renew_28 (by decide) ?_
  refine lv_iload_n hx hb dX2_renew_12 rfl (lv_at hl 0 rfl) ?_
  refine lv_bipush (v := 40) hx hb dX2_renew_13 (by decide) ?_
  refine lv_icmp_ge (tgt := 31) hx hb dX2_renew_15 (by decide) (fun c => absurd c (by decide)) (fun _ => ?_)
  refine lv_aload_n hx hb dX2_renew_18 rfl (lv_at hl 1 rfl) ?_
  refine va_get (D := (dC, dI)) (ci := 0) (v := .ref q1) (C := RX2) (T := TX2) (N := 3) hx hb hts inX2 hown hK hP 0 rfl rfl 2 (by decide) (hts _ (List.mem_of_getElem? (i := 3) rfl)) (fun _ h9 => h9) rfl dX2_renew_19 ?_
  refine lv_iload_n hx hb dX2_renew_22 rfl (lv_at hl 0 rfl) ?_
  refine lv_lconst (v := 0) hx hb dX2_renew_23 (by decide) ?_
  refine va_last hx hb hK hP hD hS 1 0 rfl rfl (vp_in_nI (n := 21) (by decide) (by decide)) dX2_renew_24 (fun H locs hP hD hS => ?_)
  have hP : va_P (dC, dI) vwCl [(h0, .inr (0, [.int b, .int n, .ref q1])), (q1, .inl (c1, 40, .inr (.inl (vp_updL f_21 21 0))))] H := hP
  have hD : va_D A [(h0, .inr (0, [.int b, .int n, .ref q1])), (q1, .inl (c1, 40, .inr (.inl (vp_updL f_21 21 0))))] := hD
  generalize vp_updL f_21 21 0 = f_22 at hP hD
  refine lv_iinc (v := 22) (lv' := [(3, .int 22), (0, .ref h0), (1, .int b), (2, .int n)]) hx hb dX2_renew_25 hl (k := 0) rfl (by decide) (by decide) rfl (fun ls hl => ?_)
  refine lv_goto (tgt := 12) hx hb dX2_renew_28 (by decide) ?_
  refine lv_iload_n hx hb dX2_renew_12 rfl (lv_at hl 0 rfl) ?_
  refine lv_bipush (v := 40) hx hb dX2_renew_13 (by decide) ?_
  refine lv_icmp_ge (tgt := 31) hx hb dX2_renew_15 (by decide) (fun c => absurd c (by decide)) (fun _ => ?_)
  refine lv_aload_n hx hb dX2_renew_18 rfl (lv_at hl 1 rfl) ?_
  refine va_get (D := (dC, dI)) (ci := 0) (v := .ref q1) (C := RX2) (T := TX2) (N := 3) hx hb hts inX2 hown hK hP 0 rfl rfl 2 (by decide) (hts _ (List.mem_of_getElem? (i := 3) rfl)) (fun _ h9 => h9) rfl dX2_renew_19 ?_
  refine lv_iload_n hx hb dX2_renew_22 rfl (lv_at hl 0 rfl) ?_
  refine lv_lconst (v := 0) hx hb dX2_renew_23 (by decide) ?_
  refine va_last hx hb hK hP hD hS 1 0 rfl rfl (vp_in_nI (n := 22) (by decide) (by decide)) dX2_renew_24 (fun H locs hP hD hS => ?_)
  have hP : va_P (dC, dI) vwCl [(h0, .inr (0, [.int b, .int n, .ref q1])), (q1, .inl (c1, 40, .inr (.inl (vp_updL f_22 22 0))))] H := hP
  have hD : va_D A [(h0, .inr (0, [.int b, .int n, .ref q1])), (q1, .inl (c1, 40, .inr (.inl (vp_updL f_22 22 0))))] := hD
  generalize vp_updL f_22 22 0 = f_23 at hP hD
  refine lv_iinc (v := 23) (lv' := [(3, .int 23), (0, .ref h0), (1, .int b), (2, .int n)]) hx hb dX2_renew_25 hl (k := 0) rfl (by decide) (by decide) rfl (fun ls hl => ?_)
  refine lv_goto (tgt := 12) hx hb dX2_renew_28 (by decide) ?_
  refine lv_iload_n hx hb dX2_renew_12 rfl (lv_at hl 0 rfl) ?_
  refine lv_bipush (v := 40) hx hb dX2_renew_13 (by decide) ?_
  refine lv_icmp_ge (tgt := 31) hx hb dX2_renew_15 (by decide) (fun c => absurd c (by decide)) (fun _ => ?_)
  refine lv_aload_n hx hb dX2_renew_18 rfl (lv_at hl 1 rfl) ?_
  refine va_get (D := (dC, dI)) (ci := 0) (v := .ref q1) (C := RX2) (T := TX2) (N := 3) hx hb hts inX2 hown hK hP 0 rfl rfl 2 (by decide) (hts _ (List.mem_of_getElem? (i := 3) rfl)) (fun _ h9 => h9) rfl dX2_renew_19 ?_
  refine lv_iload_n hx hb dX2_renew_22 rfl (lv_at hl 0 rfl) ?_
  refine lv_lconst (v := 0) hx hb dX2_renew_23 (by decide) ?_
  refine va_last hx hb hK hP hD hS 1 0 rfl rfl (vp_in_nI (n := 23) (by decide) (by decide)) dX2_renew_24 (fun H locs hP hD hS => ?_)
  have hP : va_P (dC, dI) vwCl [(h0, .inr (0, [.int b, .int n, .ref q1])), (q1, .inl (c1, 40, .inr (.inl (vp_updL f_23 23 0))))] H := hP
  have hD : va_D A [(h0, .inr (0, [.int b, .int n, .ref q1])), (q1, .inl (c1, 40, .inr (.inl (vp_updL f_23 23 0))))] := hD
  generalize vp_updL f_23 23 0 = f_24 at hP hD
  refine lv_iinc (v := 24) (lv' := [(3, .int 24), (0, .ref h0), (1, .int b), (2, .int n)]) hx hb dX2_renew_25 hl (k := 0) rfl (by decide) (by decide) rfl (fun ls hl => ?_)
  refine lv_goto (tgt := 12) hx hb dX2_renew_28 (by decide) ?_
  refine lv_iload_n hx hb dX2_renew_12 rfl (lv_at hl 0 rfl) ?_
  refine lv_bipush (v := 40) hx hb dX2_renew_13 (by decide) ?_
  refine lv_icmp_ge (tgt := 31) hx hb dX2_renew_15 (by decide) (fun c => absurd c (by decide)) (fun _ => ?_)
  refine lv_aload_n hx hb dX2_renew_18 rfl (lv_at hl 1 rfl) ?_
  refine va_get (D := (dC, dI)) (ci := 0) (v := .ref q1) (C := RX2) (T := TX2) (N := 3) hx hb hts inX2 hown hK hP 0 rfl rfl 2 (by decide) (hts _ (List.mem_of_getElem? (i := 3) rfl)) (fun _ h9 => h9) rfl dX2_renew_19 ?_
  refine lv_iload_n hx hb dX2_renew_22 rfl (lv_at hl 0 rfl) ?_
  refine lv_lconst (v := 0) hx hb dX2_renew_23 (by decide) ?_
  refine va_last hx hb hK hP hD hS 1 0 rfl rfl (vp_in_nI (n := 24) (by decide) (by decide)) dX2_renew_24 (fun H locs hP hD hS => ?_)
  have hP : va_P (dC, dI) vwCl [(h0, .inr (0, [.int b, .int n, .ref q1])), (q1, .inl (c1, 40, .inr (.inl (vp_updL f_24 24 0))))] H := hP
  have hD : va_D A [(h0, .inr (0, [.int b, .int n, .ref q1])), (q1, .inl (c1, 40, .inr (.inl (vp_updL f_24 24 0))))] := hD
  generalize vp_updL f_24 24 0 = f_25 at hP hD
  refine lv_iinc (v := 25) (lv' := [(3, .int 25), (0, .ref h0), (1, .int b), (2, .int n)]) hx hb dX2_renew_25 hl (k := 0) rfl (by decide) (by decide) rfl (fun ls hl => ?_)
  refine lv_goto (tgt := 12) hx hb dX2_renew_28 (by decide) ?_
  refine lv_iload_n hx hb dX2_renew_12 rfl (lv_at hl 0 rfl) ?_
  refine lv_bipush (v := 40) hx hb dX2_renew_13 (by decide) ?_
  refine lv_icmp_ge (tgt := 31) hx hb dX2_renew_15 (by decide) (fun c => absurd c (by decide)) (fun _ => ?_)
  refine lv_aload_n hx hb dX2_renew_18 rfl (lv_at hl 1 rfl) ?_
  refine va_get (D := (dC, dI)) (ci := 0) (v := .ref q1) (C := RX2) (T := TX2) (N := 3) hx hb hts inX2 hown hK hP 0 rfl rfl 2 (by decide) (hts _ (List.mem_of_getElem? (i := 3) rfl)) (fun _ h9 => h9) rfl dX2_renew_19 ?_
  refine lv_iload_n hx hb dX2_renew_22 rfl (lv_at hl 0 rfl) ?_
  refine lv_lconst (v := 0) hx hb dX2_renew_23 (by decide) ?_
  refine va_last hx hb hK hP hD hS 1 0 rfl rfl (vp_in_nI (n := 25) (by decide) (by decide)) dX2_renew_24 (fun H locs hP hD hS => ?_)
  have hP : va_P (dC, dI) vwCl [(h0, .inr (0, [.int b, .int n, .ref q1])), (q1, .inl (c1, 40, .inr (.inl (vp_updL f_25 25 0))))] H := hP
  have hD : va_D A [(h0, .inr (0, [.int b, .int n, .ref q1])), (q1, .inl (c1, 40, .inr (.inl (vp_updL f_25 25 0))))] := hD
  generalize vp_updL f_25 25 0 = f_26 at hP hD
  refine lv_iinc (v := 26) (lv' := [(3, .int 26), (0, .ref h0), (1, .int b), (2, .int n)]) hx hb dX2_renew_25 hl (k := 0) rfl (by decide) (by decide) rfl (fun ls hl => ?_)
  refine lv_goto (tgt := 12) hx hb dX2_renew_28 (by decide) ?_
  refine lv_iload_n hx hb dX2_renew_12 rfl (lv_at hl 0 rfl) ?_
  refine lv_bipush (v := 40) hx hb dX2_renew_13 (by decide) ?_
  refine lv_icmp_ge (tgt := 31) hx hb dX2_renew_15 (by decide) (fun c => absurd c (by decide)) (fun _ => ?_)
  refine lv_aload_n hx hb dX2_renew_18 rfl (lv_at hl 1 rfl) ?_
  refine va_get (D := (dC, dI)) (ci := 0) (v := .ref q1) (C := RX2) (T := TX2) (N := 3) hx hb hts inX2 hown hK hP 0 rfl rfl 2 (by decide) (hts _ (List.mem_of_getElem? (i := 3) rfl)) (fun _ h9 => h9) rfl dX2_renew_19 ?_
  refine lv_iload_n hx hb dX2_renew_22 rfl (lv_at hl 0 rfl) ?_
  refine lv_lconst (v := 0) hx hb dX2_renew_23 (by decide) ?_
  refine va_last hx hb hK hP hD hS 1 0 rfl rfl (vp_in_nI (n := 26) (by decide) (by decide)) dX2_renew_24 (fun H locs hP hD hS => ?_)
  have hP : va_P (dC, dI) vwCl [(h0, .inr (0, [.int b, .int n, .ref q1])), (q1, .inl (c1, 40, .inr (.inl (vp_updL f_26 26 0))))] H := hP
  have hD : va_D A [(h0, .inr (0, [.int b, .int n, .ref q1])), (q1, .inl (c1, 40, .inr (.inl (vp_updL f_26 26 0))))] := hD
  generalize vp_updL f_26 26 0 = f_27 at hP hD
  refine lv_iinc (v := 27) (lv' := [(3, .int 27), (0, .ref h0), (1, .int b), (2, .int n)]) hx hb dX2_renew_25 hl (k := 0) rfl (by decide) (by decide) rfl (fun ls hl => ?_)
  refine lv_goto (tgt := 12) hx hb dX2_renew_28 (by decide) ?_
  refine lv_iload_n hx hb dX2_renew_12 rfl (lv_at hl 0 rfl) ?_
  refine lv_bipush (v := 40) hx hb dX2_renew_13 (by decide) ?_
  refine lv_icmp_ge (tgt := 31) hx hb dX2_renew_15 (by decide) (fun c => absurd c (by decide)) (fun _ => ?_)
  refine lv_aload_n hx hb dX2_renew_18 rfl (lv_at hl 1 rfl) ?_
  refine va_get (D := (dC, dI)) (ci := 0) (v := .ref q1) (C := RX2) (T := TX2) (N := 3) hx hb hts inX2 hown hK hP 0 rfl rfl 2 (by decide) (hts _ (List.mem_of_getElem? (i := 3) rfl)) (fun _ h9 => h9) rfl dX2_renew_19 ?_
  refine lv_iload_n hx hb dX2_renew_22 rfl (lv_at hl 0 rfl) ?_
  refine lv_lconst (v := 0) hx hb dX2_renew_23 (by decide) ?_
  refine va_last hx hb hK hP hD hS 1 0 rfl rfl (vp_in_nI (n := 27) (by decide) (by decide)) dX2_renew_24 (fun H locs hP hD hS => ?_)
  have hP : va_P (dC, dI) vwCl [(h0, .inr (0, [.int b, .int n, .ref q1])), (q1, .inl (c1, 40, .inr (.inl (vp_updL f_27 27 0))))] H := hP
  have hD : va_D A [(h0, .inr (0, [.int b, .int n, .ref q1])), (q1, .inl (c1, 40, .inr (.inl (vp_updL f_27 27 0))))] := hD
  generalize vp_updL f_27 27 0 = f_28 at hP hD
  refine lv_iinc (v := 28) (lv' := [(3, .int 28), (0, .ref h0), (1, .int b), (2, .int n)]) hx hb dX2_renew_25 hl (k := 0) rfl (by decide) (by decide) rfl (fun ls hl => ?_)
  refine lv_goto (tgt := 12) hx hb dX2_renew_28 (by decide) ?_
  refine lv_iload_n hx hb dX2_renew_12 rfl (lv_at hl 0 rfl) ?_
  refine lv_bipush (v := 40) hx hb dX2_renew_13 (by decide) ?_
  refine lv_icmp_ge (tgt := 31) hx hb dX2_renew_15 (by decide) (fun c => absurd c (by decide)) (fun _ => ?_)
  refine lv_aload_n hx hb dX2_renew_18 rfl (lv_at hl 1 rfl) ?_
  refine va_get (D := (dC, dI)) (ci := 0) (v := .ref q1) (C := RX2) (T := TX2) (N := 3) hx hb hts inX2 hown hK hP 0 rfl rfl 2 (by decide) (hts _ (List.mem_of_getElem? (i := 3) rfl)) (fun _ h9 => h9) rfl dX2_renew_19 ?_
  refine lv_iload_n hx hb dX2_renew_22 rfl (lv_at hl 0 rfl) ?_
  refine lv_lconst (v := 0) hx hb dX2_renew_23 (by decide) ?_
  refine va_last hx hb hK hP hD hS 1 0 rfl rfl (vp_in_nI (n := 28) (by decide) (by decide)) dX2_renew_24 (fun H locs hP hD hS => ?_)
  have hP : va_P (dC, dI) vwCl [(h0, .inr (0, [.int b, .int n, .ref q1])), (q1, .inl (c1, 40, .inr (.inl (vp_updL f_28 28 0))))] H := hP
  have hD : va_D A [(h0, .inr (0, [.int b, .int n, .ref q1])), (q1, .inl (c1, 40, .inr (.inl (vp_updL f_28 28 0))))] := hD
  generalize vp_updL f_28 28 0 = f_29 at hP hD
  refine lv_iinc (v := 29) (lv' := [(3, .int 29), (0, .ref h0), (1, .int b), (2, .int n)]) hx hb dX2_renew_25 hl (k := 0) rfl (by decide) (by decide) rfl (fun ls hl => ?_)
  refine lv_goto (tgt := 12) hx hb dX2_renew_28 (by decide) ?_
  refine lv_iload_n hx hb dX2_renew_12 rfl (lv_at hl 0 rfl) ?_
  refine lv_bipush (v := 40) hx hb dX2_renew_13 (by decide) ?_
  refine lv_icmp_ge (tgt := 31) hx hb dX2_renew_15 (by decide) (fun c => absurd c (by decide)) (fun _ => ?_)
  refine lv_aload_n hx hb dX2_renew_18 rfl (lv_at hl 1 rfl) ?_
  refine va_get (D := (dC, dI)) (ci := 0) (v := .ref q1) (C := RX2) (T := TX2) (N := 3) hx hb hts inX2 hown hK hP 0 rfl rfl 2 (by decide) (hts _ (List.mem_of_getElem? (i := 3) rfl)) (fun _ h9 => h9) rfl dX2_renew_19 ?_
  refine lv_iload_n hx hb dX2_renew_22 rfl (lv_at hl 0 rfl) ?_
  refine lv_lconst (v := 0) hx hb dX2_renew_23 (by decide) ?_
  refine va_last hx hb hK hP hD hS 1 0 rfl rfl (vp_in_nI (n := 29) (by decide) (by decide)) dX2_renew_24 (fun H locs hP hD hS => ?_)
  have hP : va_P (dC, dI) vwCl [(h0, .inr (0, [.int b, .int n, .ref q1])), (q1, .inl (c1, 40, .inr (.inl (vp_updL f_29 29 0))))] H := hP
  have hD : va_D A [(h0, .inr (0, [.int b, .int n, .ref q1])), (q1, .inl (c1, 40, .inr (.inl (vp_updL f_29 29 0))))] := hD
  generalize vp_updL f_29 29 0 = f_30 at hP hD
  refine lv_iinc (v := 30) (lv' := [(3, .int 30), (0, .ref h0), (1, .int b), (2, .int n)]) hx hb dX2_renew_25 hl (k := 0) rfl (by decide) (by decide) rfl (fun ls hl => ?_)
  refine lv_goto (tgt := 12) hx hb dX2_renew_28 (by decide) ?_
  refine lv_iload_n hx hb dX2_renew_12 rfl (lv_at hl 0 rfl) ?_
  refine lv_bipush (v := 40) hx hb dX2_renew_13 (by decide) ?_
  refine lv_icmp_ge (tgt := 31) hx hb dX2_renew_15 (by decide) (fun c => absurd c (by decide)) (fun _ => ?_)
  refine lv_aload_n hx hb dX2_renew_18 rfl (lv_at hl 1 rfl) ?_
  refine va_get (D := (dC, dI)) (ci := 0) (v := .ref q1) (C := RX2) (T := TX2) (N := 3) hx hb hts inX2 hown hK hP 0 rfl rfl 2 (by decide) (hts _ (List.mem_of_getElem? (i := 3) rfl)) (fun _ h9 => h9) rfl dX2_renew_19 ?_
  refine lv_iload_n hx hb dX2_renew_22 rfl (lv_at hl 0 rfl) ?_
  refine lv_lconst (v := 0) hx hb dX2_renew_23 (by decide) ?_
  refine va_last hx hb hK hP hD hS 1 0 rfl rfl (vp_in_nI (n := 30) (by decide) (by decide)) dX2_renew_24 (fun H locs hP hD hS => ?_)
  have hP : va_P (dC, dI) vwCl [(h0, .inr (0, [.int b, .int n, .ref q1])), (q1, .inl (c1, 40, .inr (.inl (vp_updL f_30 30 0))))] H := hP
  have hD : va_D A [(h0, .inr (0, [.int b, .int n, .ref q1])), (q1, .inl (c1, 40, .inr (.inl (vp_updL f_30 30 0))))] := hD
  generalize vp_updL f_30 30 0 = f_31 at hP hD
  refine lv_iinc (v := 31) (lv' := [(3, .int 31), (0, .ref h0), (1, .int b), (2, .int n)]) hx hb dX2_renew_25 hl (k := 0) rfl (by decide) (by decide) rfl (fun ls hl => ?_)
  refine lv_goto (tgt := 12) hx hb dX2_renew_28 (by decide) ?_
  refine lv_iload_n hx hb dX2_renew_12 rfl (lv_at hl 0 rfl) ?_
  refine lv_bipush (v := 40) hx hb dX2_renew_13 (by decide) ?_
  refine lv_icmp_ge (tgt := 31) hx hb dX2_renew_15 (by decide) (fun c => absurd c (by decide)) (fun _ => ?_)
  refine lv_aload_n hx hb dX2_renew_18 rfl (lv_at hl 1 rfl) ?_
  refine va_get (D := (dC, dI)) (ci := 0) (v := .ref q1) (C := RX2) (T := TX2) (N := 3) hx hb hts inX2 hown hK hP 0 rfl rfl 2 (by decide) (hts _ (List.mem_of_getElem? (i := 3) rfl)) (fun _ h9 => h9) rfl dX2_renew_19 ?_
  refine lv_iload_n hx hb dX2_renew_22 rfl (lv_at hl 0 rfl) ?_
  refine lv_lconst (v := 0) hx hb dX2_renew_23 (by decide) ?_
  refine va_last hx hb hK hP hD hS 1 0 rfl rfl (vp_in_nI (n := 31) (by decide) (by decide)) dX2_renew_24 (fun H locs hP hD hS => ?_)
  have hP : va_P (dC, dI) vwCl [(h0, .inr (0, [.int b, .int n, .ref q1])), (q1, .inl (c1, 40, .inr (.inl (vp_updL f_31 31 0))))] H := hP
  have hD : va_D A [(h0, .inr (0, [.int b, .int n, .ref q1])), (q1, .inl (c1, 40, .inr (.inl (vp_updL f_31 31 0))))] := hD
  generalize vp_updL f_31 31 0 = f_32 at hP hD
  refine lv_iinc (v := 32) (lv' := [(3, .int 32), (0, .ref h0), (1, .int b), (2, .int n)]) hx hb dX2_renew_25 hl (k := 0) rfl (by decide) (by decide) rfl (fun ls hl => ?_)
  refine lv_goto (tgt := 12) hx hb dX2_renew_28 (by decide) ?_
  refine lv_iload_n hx hb dX2_renew_12 rfl (lv_at hl 0 rfl) ?_
  refine lv_bipush (v := 40) hx hb dX2_renew_13 (by decide) ?_
  refine lv_icmp_ge (tgt := 31) hx hb dX2_renew_15 (by decide) (fun c => absurd c (by decide)) (fun _ => ?_)
  refine lv_aload_n hx hb dX2_renew_18 rfl (lv_at hl 1 rfl) ?_
  refine va_get (D := (dC, dI)) (ci := 0) (v := .ref q1) (C := RX2) (T := TX2) (N := 3) hx hb hts inX2 hown hK hP 0 rfl rfl 2 (by decide) (hts _ (List.mem_of_getElem? (i := 3) rfl)) (fun _ h9 => h9) rfl dX2_renew_19 ?_
  refine lv_iload_n hx hb dX2_renew_22 rfl (lv_at hl 0 rfl) ?_
  refine lv_lconst (v := 0) hx hb dX2_renew_23 (by decide) ?_
  refine va_last hx hb hK hP hD hS 1 0 rfl rfl (vp_in_nI (n := 32) (by decide) (by decide)) dX2_renew_24 (fun H locs hP hD hS => ?_)
  have hP : va_P (dC, dI) vwCl [(h0, .inr (0, [.int b, .int n, .ref q1])), (q1, .inl (c1, 40, .inr (.inl (vp_updL f_32 32 0))))] H := hP
  have hD : va_D A [(h0, .inr (0, [.int b, .int n, .ref q1])), (q1, .inl (c1, 40, .inr (.inl (vp_updL f_32 32 0))))] := hD
  generalize vp_updL f_32 32 0 = f_33 at hP hD
  refine lv_iinc (v := 33) (lv' := [(3, .int 33), (0, .ref h0), (1, .int b), (2, .int n)]) hx hb dX2_renew_25 hl (k := 0) rfl (by decide) (by decide) rfl (fun ls hl => ?_)
  refine lv_goto (tgt := 12) hx hb dX2_renew_28 (by decide) ?_
  refine lv_iload_n hx hb dX2_renew_12 rfl (lv_at hl 0 rfl) ?_
  refine lv_bipush (v := 40) hx hb dX2_renew_13 (by decide) ?_
  refine lv_icmp_ge (tgt := 31) hx hb dX2_renew_15 (by decide) (fun c => absurd c (by decide)) (fun _ => ?_)
  refine lv_aload_n hx hb dX2_renew_18 rfl (lv_at hl 1 rfl) ?_
  refine va_get (D := (dC, dI)) (ci := 0) (v := .ref q1) (C := RX2) (T := TX2) (N := 3) hx hb hts inX2 hown hK hP 0 rfl rfl 2 (by decide) (hts _ (List.mem_of_getElem? (i := 3) rfl)) (fun _ h9 => h9) rfl dX2_renew_19 ?_
  refine lv_iload_n hx hb dX2_renew_22 rfl (lv_at hl 0 rfl) ?_
  refine lv_lconst (v := 0) hx hb dX2_renew_23 (by decide) ?_
  refine va_last hx hb hK hP hD hS 1 0 rfl rfl (vp_in_nI (n := 33) (by decide) (by decide)) dX2_renew_24 (fun H locs hP hD hS => ?_)
  have hP : va_P (dC, dI) vwCl [(h0, .inr (0, [.int b, .int n, .ref q1])), (q1, .inl (c1, 40, .inr (.inl (vp_updL f_33 33 0))))] H := hP
  have hD : va_D A [(h0, .inr (0, [.int b, .int n, .ref q1])), (q1, .inl (c1, 40, .inr (.inl (vp_updL f_33 33 0))))] := hD
  generalize vp_updL f_33 33 0 = f_34 at hP hD
  refine lv_iinc (v := 34) (lv' := [(3, .int 34), (0, .ref h0), (1, .int b), (2, .int n)]) hx hb dX2_renew_25 hl (k := 0) rfl (by decide) (by decide) rfl (fun ls hl => ?_)
  refine lv_goto (tgt := 12) hx hb dX2_renew_28 (by decide) ?_
  refine lv_iload_n hx hb dX2_renew_12 rfl (lv_at hl 0 rfl) ?_
  refine lv_bipush (v := 40) hx hb dX2_renew_13 (by decide) ?_
  refine lv_icmp_ge (tgt := 31) hx hb dX2_renew_15 (by decide) (fun c => absurd c (by decide)) (fun _ => ?_)
  refine lv_aload_n hx hb dX2_renew_18 rfl (lv_at hl 1 rfl) ?_
  refine va_get (D := (dC, dI)) (ci := 0) (v := .ref q1) (C := RX2) (T := TX2) (N := 3) hx hb hts inX2 hown hK hP 0 rfl rfl 2 (by decide) (hts _ (List.mem_of_getElem? (i := 3) rfl)) (fun _ h9 => h9) rfl dX2_renew_19 ?_
  refine lv_iload_n hx hb dX2_renew_22 rfl (lv_at hl 0 rfl) ?_
  refine lv_lconst (v := 0) hx hb dX2_renew_23 (by decide) ?_
  refine va_last hx hb hK hP hD hS 1 0 rfl rfl (vp_in_nI (n := 34) (by decide) (by decide)) dX2_renew_24 (fun H locs hP hD hS => ?_)
  have hP : va_P (dC, dI) vwCl [(h0, .inr (0, [.int b, .int n, .ref q1])), (q1, .inl (c1, 40, .inr (.inl (vp_updL f_34 34 0))))] H := hP
  have hD : va_D A [(h0, .inr (0, [.int b, .int n, .ref q1])), (q1, .inl (c1, 40, .inr (.inl (vp_updL f_34 34 0))))] := hD
  generalize vp_updL f_34 34 0 = f_35 at hP hD
  refine lv_iinc (v := 35) (lv' := [(3, .int 35), (0, .ref h0), (1, .int b), (2, .int n)]) hx hb dX2_renew_25 hl (k := 0) rfl (by decide) (by decide) rfl (fun ls hl => ?_)
  refine lv_goto (tgt := 12) hx hb dX2_renew_28 (by decide) ?_
  refine lv_iload_n hx hb dX2_renew_12 rfl (lv_at hl 0 rfl) ?_
  refine lv_bipush (v := 40) hx hb dX2_renew_13 (by decide) ?_
  refine lv_icmp_ge (tgt := 31) hx hb dX2_renew_15 (by decide) (fun c => absurd c (by decide)) (fun _ => ?_)
  refine lv_aload_n hx hb dX2_renew_18 rfl (lv_at hl 1 rfl) ?_
  refine va_get (D := (dC, dI)) (ci := 0) (v := .ref q1) (C := RX2) (T := TX2) (N := 3) hx hb hts inX2 hown hK hP 0 rfl rfl 2 (by decide) (hts _ (List.mem_of_getElem? (i := 3) rfl)) (fun _ h9 => h9) rfl dX2_renew_19 ?_
  refine lv_iload_n hx hb dX2_renew_22 rfl (lv_at hl 0 rfl) ?_
  refine lv_lconst (v := 0) hx hb dX2_renew_23 (by decide) ?_
  refine va_last hx hb hK hP hD hS 1 0 rfl rfl (vp_in_nI (n := 35) (by decide) (by decide)) dX2_renew_24 (fun H locs hP hD hS => ?_)
  have hP : va_P (dC, dI) vwCl [(h0, .inr (0, [.int b, .int n, .ref q1])), (q1, .inl (c1, 40, .inr (.inl (vp_updL f_35 35 0))))] H := hP
  have hD : va_D A [(h0, .inr (0, [.int b, .int n, .ref q1])), (q1, .inl (c1, 40, .inr (.inl (vp_updL f_35 35 0))))] := hD
  generalize vp_updL f_35 35 0 = f_36 at hP hD
  refine lv_iinc (v := 36) (lv' := [(3, .int 36), (0, .ref h0), (1, .int b), (2, .int n)]) hx hb dX2_renew_25 hl (k := 0) rfl (by decide) (by decide) rfl (fun ls hl => ?_)
  refine lv_goto (tgt := 12) hx hb dX2_renew_28 (by decide) ?_
  refine lv_iload_n hx hb dX2_renew_12 rfl (lv_at hl 0 rfl) ?_
  refine lv_bipush (v := 40) hx hb dX2_renew_13 (by decide) ?_
  refine lv_icmp_ge (tgt := 31) hx hb dX2_renew_15 (by decide) (fun c => absurd c (by decide)) (fun _ => ?_)
  refine lv_aload_n hx hb dX2_renew_18 rfl (lv_at hl 1 rfl) ?_
  refine va_get (D := (dC, dI)) (ci := 0) (v := .ref q1) (C := RX2) (T := TX2) (N := 3) hx hb hts inX2 hown hK hP 0 rfl rfl 2 (by decide) (hts _ (List.mem_of_getElem? (i := 3) rfl)) (fun _ h9 => h9) rfl dX2_renew_19 ?_
  refine lv_iload_n hx hb dX2_renew_22 rfl (lv_at hl 0 rfl) ?_
  refine lv_lconst (v := 0) hx hb dX2_renew_23 (by decide) ?_
  refine va_last hx hb hK hP hD hS 1 0 rfl rfl (vp_in_nI (n := 36) (by decide) (by decide)) dX2_renew_24 (fun H locs hP hD hS => ?_)
  have hP : va_P (dC, dI) vwCl [(h0, .inr (0, [.int b, .int n, .ref q1])), (q1, .inl (c1, 40, .inr (.inl (vp_updL f_36 36 0))))] H := hP
  have hD : va_D A [(h0, .inr (0, [.int b, .int n, .ref q1])), (q1, .inl (c1, 40, .inr (.inl (vp_updL f_36 36 0))))] := hD
  generalize vp_updL f_36 36 0 = f_37 at hP hD
  refine lv_iinc (v := 37) (lv' := [(3, .int 37), (0, .ref h0), (1, .int b), (2, .int n)]) hx hb dX2_renew_25 hl (k := 0) rfl (by decide) (by decide) rfl (fun ls hl => ?_)
  refine lv_goto (tgt := 12) hx hb dX2_renew_28 (by decide) ?_
  refine lv_iload_n hx hb dX2_renew_12 rfl (lv_at hl 0 rfl) ?_
  refine lv_bipush (v := 40) hx hb dX2_renew_13 (by decide) ?_
  refine lv_icmp_ge (tgt := 31) hx hb dX2_renew_15 (by decide) (fun c => absurd c (by decide)) (fun _ => ?_)
  refine lv_aload_n hx hb dX2_renew_18 rfl (lv_at hl 1 rfl) ?_
  refine va_get (D := (dC, dI)) (ci := 0) (v := .ref q1) (C := RX2) (T := TX2) (N := 3) hx hb hts inX2 hown hK hP 0 rfl rfl 2 (by decide) (hts _ (List.mem_of_getElem? (i := 3) rfl)) (fun _ h9 => h9) rfl dX2_renew_19 ?_
  refine lv_iload_n hx hb dX2_renew_22 rfl (lv_at hl 0 rfl) ?_
  refine lv_lconst (v := 0) hx hb dX2_renew_23 (by decide) ?_
  refine va_last hx hb hK hP hD hS 1 0 rfl rfl (vp_in_nI (n := 37) (by decide) (by decide)) dX2_renew_24 (fun H locs hP hD hS => ?_)
  have hP : va_P (dC, dI) vwCl [(h0, .inr (0, [.int b, .int n, .ref q1])), (q1, .inl (c1, 40, .inr (.inl (vp_updL f_37 37 0))))] H := hP
  have hD : va_D A [(h0, .inr (0, [.int b, .int n, .ref q1])), (q1, .inl (c1, 40, .inr (.inl (vp_updL f_37 37 0))))] := hD
  generalize vp_updL f_37 37 0 = f_38 at hP hD
  refine lv_iinc (v := 38) (lv' := [(3, .int 38), (0, .ref h0), (1, .int b), (2, .int n)]) hx hb dX2_renew_25 hl (k := 0) rfl (by decide) (by decide) rfl (fun ls hl => ?_)
  refine lv_goto (tgt := 12) hx hb dX2_renew_28 (by decide) ?_
  refine lv_iload_n hx hb dX2_renew_12 rfl (lv_at hl 0 rfl) ?_
  refine lv_bipush (v := 40) hx hb dX2_renew_13 (by decide) ?_
  refine lv_icmp_ge (tgt := 31) hx hb dX2_renew_15 (by decide) (fun c => absurd c (by decide)) (fun _ => ?_)
  refine lv_aload_n hx hb dX2_renew_18 rfl (lv_at hl 1 rfl) ?_
  refine va_get (D := (dC, dI)) (ci := 0) (v := .ref q1) (C := RX2) (T := TX2) (N := 3) hx hb hts inX2 hown hK hP 0 rfl rfl 2 (by decide) (hts _ (List.mem_of_getElem? (i := 3) rfl)) (fun _ h9 => h9) rfl dX2_renew_19 ?_
  refine lv_iload_n hx hb dX2_renew_22 rfl (lv_at hl 0 rfl) ?_
  refine lv_lconst (v := 0) hx hb dX2_renew_23 (by decide) ?_
  refine va_last hx hb hK hP hD hS 1 0 rfl rfl (vp_in_nI (n := 38) (by decide) (by decide)) dX2_renew_24 (fun H locs hP hD hS => ?_)
  have hP : va_P (dC, dI) vwCl [(h0, .inr (0, [.int b, .int n, .ref q1])), (q1, .inl (c1, 40, .inr (.inl (vp_updL f_38 38 0))))] H := hP
  have hD : va_D A [(h0, .inr (0, [.int b, .int n, .ref q1])), (q1, .inl (c1, 40, .inr (.inl (vp_updL f_38 38 0))))] := hD
  generalize vp_updL f_38 38 0 = f_39 at hP hD
  refine lv_iinc (v := 39) (lv' := [(3, .int 39), (0, .ref h0), (1, .int b), (2, .int n)]) hx hb dX2_renew_25 hl (k := 0) rfl (by decide) (by decide) rfl (fun ls hl => ?_)
  refine lv_goto (tgt := 12) hx hb dX2_renew_28 (by decide) ?_
  refine lv_iload_n hx hb dX2_renew_12 rfl (lv_at hl 0 rfl) ?_
  refine lv_bipush (v := 40) hx hb dX2_renew_13 (by decide) ?_
  refine lv_icmp_ge (tgt := 31) hx hb dX2_renew_15 (by decide) (fun c => absurd c (by decide)) (fun _ => ?_)
  refine lv_aload_n hx hb dX2_renew_18 rfl (lv_at hl 1 rfl) ?_
  refine va_get (D := (dC, dI)) (ci := 0) (v := .ref q1) (C := RX2) (T := TX2) (N := 3) hx hb hts inX2 hown hK hP 0 rfl rfl 2 (by decide) (hts _ (List.mem_of_getElem? (i := 3) rfl)) (fun _ h9 => h9) rfl dX2_renew_19 ?_
  refine lv_iload_n hx hb dX2_renew_22 rfl (lv_at hl 0 rfl) ?_
  refine lv_lconst (v := 0) hx hb dX2_renew_23 (by decide) ?_
  refine va_last hx hb hK hP hD hS 1 0 rfl rfl (vp_in_nI (n := 39) (by decide) (by decide)) dX2_renew_24 (fun H locs hP hD hS => ?_)
  have hP : va_P (dC, dI) vwCl [(h0, .inr (0, [.int b, .int n, .ref q1])), (q1, .inl (c1, 40, .inr (.inl (vp_updL f_39 39 0))))] H := hP
  have hD : va_D A [(h0, .inr (0, [.int b, .int n, .ref q1])), (q1, .inl (c1, 40, .inr (.inl (vp_updL f_39 39 0))))] := hD
  generalize vp_updL f_39 39 0 = f_40 at hP hD
  refine lv_iinc (v := 40) (lv' := [(3, .int 40), (0, .ref h0), (1, .int b), (2, .int n)]) hx hb dX2_renew_25 hl (k := 0) rfl (by decide) (by decide) rfl (fun ls hl => ?_)
  refine lv_goto (tgt := 12) hx hb dX2_renew_28 (by decide) ?_
  refine lv_iload_n hx hb dX2_renew_12 rfl (lv_at hl 0 rfl) ?_
  refine lv_bipush (v := 40) hx hb dX2_renew_13 (by decide) ?_
  refine lv_icmp_ge (tgt := 31) hx hb dX2_renew_15 (by decide) (fun _ => ?_) (fun c => absurd (by decide) c)
  have hP9 := hP.sub (ws' := [(h0, .inr (0, [.int b, .int n, .ref q1])), (q1, .inl (c1, 40, .inr (.inl f_40)))]) [0, 1] rfl
  have hD9 := hD.sub (ws' := [(h0, .inr (0, [.int b, .int n, .ref q1])), (q1, .inl (c1, 40, .inr (.inl f_40)))]) [0, 1] (by decide) rfl
  have hK9 := hK.sub (tys' := [(c1, .long)]) [0] rfl
  exact W.vret hx hb hr (fun t ht hW => ⟨⟨(), rfl, trivial, f_40, by rw [ht]; exact hP9, va_K.moved hW.alike hK9, hD9⟩, hS.F ht⟩) hS.2.2 dX2_renew_31

def w_c_walk : List Cond := .code yX3_walk cX3_walk 7 none :: (([.fieldLink RX3 9 "LampShapes$Route" "cost" "I"] : List Cond) ++ wsX30)
set_option maxHeartbeats 4000000 in
set_option maxRecDepth 100000 in
/-- walk() of no scenes -/
theorem c_walk (l : Launch) (dC : Nat → ClassId) (dI : Nat → Nat → Nat) (ad : Nat → Nat) (h0 : Nat) (h1 : Nat) (w0 : Value) (w1 : Value) (w2 : Value) (sz : Nat) : Met l yX3_walk w_c_walk ({ frames := 0, cells := 0, slots := 0, locals := 0 } : Room) (va_Pc [.ref h0, .ref h1, .int 0] (preM dC dI ad [] [(h0, .inr (1, [w0, w1, w2]))] sz)) (va_Qv (fun (_ : Unit) => True) (fun _ t => va_P (dC, dI) vwCl [(h0, .inr (1, [.int 0, w1, w2]))] t.heap ∧ va_K (dC, dI) vwCl [] t ∧ va_D (va_A [(h0, .inr (1, [w0, w1, w2]))] sz) [(h0, .inr (1, [.int 0, w1, w2]))]) (va_A [(h0, .inr (1, [w0, w1, w2]))] sz)) 0 0 (va_A [(h0, .inr (1, [w0, w1, w2]))] sz) := by
  refine Met.ofW (cc := cX3_walk) (maxL := 7) (ret := none) (by decide) rfl ?_
  intro p e s m args below meth c s₁ B hml hv
  obtain ⟨rfl, hsz, hP, hK, hD0, hev⟩ := hv
  have hx := B.exec
  have hb := B.bytes
  have hr := B.returns
  have hts := atoms_spec (ws := w_c_walk) B.pre
  have hown : s.vm.findClass RX3 = some m.cls := findClass_of_methodNamed B.named
  have hlocks := B.notSynchronized
  have inX3 : ∀ w ∈ wsX30, w ∈ w_c_walk := fun w h => List.mem_cons_of_mem _ (List.mem_append_right _ h)
  subst hsz
  have hD := hD0.self (sz := s.heap.size)
  generalize hAe : va_A [(h0, .inr (1, [w0, w1, w2]))] s.heap.size = A at hD ⊢
  have hA : ∀ q : Nat, s.heap.size ≤ q → A q := fun q h => by rw [← hAe]; exact Or.inr h
  have hS : va_S A s.heap s.heap [] := va_S.rf
  have hP : va_P (dC, dI) vwCl [(h0, .inr (1, [w0, w1, w2]))] s.heap := hP
  have hl := lv_entry ([.ref h0, .ref h1, .int 0]) (n := 7) (Nat.le_of_ble_eq_true rfl)
  rw [lg_entry_eq]
  generalize (lg_sl ([.ref h0, .ref h1, .int 0]) ++ List.replicate (7 - (lg_sl ([.ref h0, .ref h1, .int 0])).length) Slot.unset).toArray = ls at hl ⊢
  have hl : lv_has ls 7 [(0, .ref h0), (1, .ref h1), (2, .int 0)] := hl
  refine lv_iconst (v := 0) hx hb dX3_walk_0 (by decide) ?_
  refine lv_istore_n (lv' := [(3, .int 0), (0, .ref h0), (1, .ref h1), (2, .int 0)]) hx hb dX3_walk_1 rfl hl (by decide) rfl (fun ls hl => ?_)
  refine lv_iconst (v := (-1)) hx hb dX3_walk_2 (by decide) ?_
  refine lv_istore (lv' := [(4, .int (-1)), (3, .int 0), (0, .ref h0), (1, .ref h1), (2, .int 0)]) hx hb dX3_walk_3 hl (by decide) rfl (fun ls hl => ?_)
  refine lv_aload_n hx hb dX3_walk_5 rfl (lv_at hl 2 rfl) ?_
  refine lv_iconst (v := 0) hx hb dX3_walk_6 (by decide) ?_
  refine va_put (D := (dC, dI)) (ci := 1) (v := .int 0) (ty := .int) (C := RX3) (T := TX3) (N := 3) hx hb hts inX3 tyX3 tyX3_ok nmX3 hown hK hP hD hS 0 rfl rfl 0 (by decide) (hts _ (List.mem_of_getElem? (i := 1) rfl)) (fun _ h9 => h9) rfl (by decide +kernel) rfl rfl (Nat.le_of_ble_eq_true rfl) dX3_walk_7 (fun H locs hP hD hS => ?_)
  have hP : va_P (dC, dI) vwCl [(h0, .inr (1, [.int 0, w1, w2]))] H := hP
  have hD : va_D A [(h0, .inr (1, [.int 0, w1, w2]))] := hD
  refine lv_iconst (v := 0) hx hb dX3_walk_10 (by decide) ?_
  refine lv_istore (lv' := [(5, .int 0), (4, .int (-1)), (3, .int 0), (0, .ref h0), (1, .ref h1), (2, .int 0)]) hx hb dX3_walk_11 hl (by decide) rfl (fun ls hl => ?_)
  refine lv_iload hx hb dX3_walk_13 (lv_at hl 0 rfl) ?_
  refine lv_iload_n hx hb dX3_walk_15 rfl (lv_at hl 5 rfl) ?_
  refine lv_icmp_ge (tgt := 81) hx hb dX3_walk_16 (by decide) (fun _ => ?_) (fun c => absurd (by decide) c)
  have hP9 := hP.sub (ws' := [(h0, .inr (1, [.int 0, w1, w2]))]) [0] rfl
  have hD9 := hD.sub (ws' := [(h0, .inr (1, [.int 0, w1, w2]))]) [0] (by decide) rfl
  have hK9 := hK.sub (tys' := []) [] rfl
  exact W.vret hx hb hr (fun t ht hW => ⟨⟨(), rfl, trivial, by rw [ht]; exact hP9, va_K.moved hW.alike hK9, hD9⟩, hS.F ht⟩) hS.2.2 dX3_walk_81

def w_c_plan : List Cond := .code yX3_plan cX3_plan 6 none :: (([.methodLink RX3 27 Lib.Math.min.name, .static Lib.Math.min.name, .initialized "java/lang/Math", .code Lib.Math.min.name Lib.Math.min.code 2 (some .int), .methodLink RX3 40 yX3_walk, .instanceMethod yX3_walk, .selects RX3 yX3_walk yX3_walk, .initialized RX3, .code yX3_walk cX3_walk 7 none, .fieldLink RX3 9 "LampShapes$Route" "cost" "I"] : List Cond) ++ wsX60 ++ wsX30)
set_option maxRecDepth 20000 in
theorem g_c_plan_c_walk_40 : GoodIn w_c_plan (wsV RX3 40 RX3 yX3_walk w_c_walk) := goodIn_r _ [5, 6, 7, 8, 9, 10, 20, 21, 22] rfl (by decide +kernel)
set_option maxHeartbeats 4000000 in
set_option maxRecDepth 100000 in
/-- plan() of no scenes -/
theorem c_plan (l : Launch) (dC : Nat → ClassId) (dI : Nat → Nat → Nat) (ad : Nat → Nat) (h0 : Nat) (h1 : Nat) (w0 : Value) (w1 : Value) (w2 : Value) (x0 : Value) (x1 : Value) (x2 : Value) (x3 : Value) (x4 : Value) (x5 : Value) (x7 : Value) (x8 : Value) (sz : Nat) : Met l yX3_plan w_c_plan ({ frames := 1, cells := 0, slots := 0, locals := 26 } : Room) (va_Pc [.ref h0, .ref h1] (preM dC dI ad [] [(h0, .inr (1, [w0, w1, w2])), (h1, .inr (4, [x0, x1, x2, x3, x4, x5, .int 0, x7, x8]))] sz)) (va_Qv (fun (_ : Unit) => True) (fun _ t => va_P (dC, dI) vwCl [(h0, .inr (1, [.int 0, w1, w2])), (h1, .inr (4, [x0, x1, x2, x3, x4, x5, .int 0, x7, x8]))] t.heap ∧ va_K (dC, dI) vwCl [] t ∧ va_D (va_A [(h0, .inr (1, [w0, w1, w2])), (h1, .inr (4, [x0, x1, x2, x3, x4, x5, .int 0, x7, x8]))] sz) [(h0, .inr (1, [.int 0, w1, w2])), (h1, .inr (4, [x0, x1, x2, x3, x4, x5, .int 0, x7, x8]))]) (va_A [(h0, .inr (1, [w0, w1, w2])), (h1, .inr (4, [x0, x1, x2, x3, x4, x5, .int 0, x7, x8]))] sz)) 0 0 (va_A [(h0, .inr (1, [w0, w1, w2])), (h1, .inr (4, [x0, x1, x2, x3, x4, x5, .int 0, x7, x8]))] sz) := by
  refine Met.ofW (cc := cX3_plan) (maxL := 6) (ret := none) (by decide) rfl ?_
  intro p e s m args below meth c s₁ B hml hv
  obtain ⟨rfl, hsz, hP, hK, hD0, hev⟩ := hv
  have hx := B.exec
  have hb := B.bytes
  have hr := B.returns
  have hts := atoms_spec (ws := w_c_plan) B.pre
  have hown : s.vm.findClass RX3 = some m.cls := findClass_of_methodNamed B.named
  have hlocks := B.notSynchronized
  have inX6 : ∀ w ∈ wsX60, w ∈ w_c_plan := fun w h => List.mem_cons_of_mem _ (List.mem_append_left _ (List.mem_append_right _ h))
  have inX3 : ∀ w ∈ wsX30, w ∈ w_c_plan := fun w h => List.mem_cons_of_mem _ (List.mem_append_right _ h)
  subst hsz
  have hD := hD0.self (sz := s.heap.size)
  generalize hAe : va_A [(h0, .inr (1, [w0, w1, w2])), (h1, .inr (4, [x0, x1, x2, x3, x4, x5, .int 0, x7, x8]))] s.heap.size = A at hD ⊢
  have hA : ∀ q : Nat, s.heap.size ≤ q → A q := fun q h => by rw [← hAe]; exact Or.inr h
  have hS : va_S A s.heap s.heap [] := va_S.rf
  have hP : va_P (dC, dI) vwCl [(h0, .inr (1, [w0, w1, w2])), (h1, .inr (4, [x0, x1, x2, x3, x4, x5, .int 0, x7, x8]))] s.heap := hP
  have hl := lv_entry ([.ref h0, .ref h1]) (n := 6) (Nat.le_of_ble_eq_true rfl)
  rw [lg_entry_eq]
  generalize (lg_sl ([.ref h0, .ref h1]) ++ List.replicate (6 - (lg_sl ([.ref h0, .ref h1])).length) Slot.unset).toArray = ls at hl ⊢
  have hl : lv_has ls 6 [(0, .ref h0), (1, .ref h1)] := hl
  refine lv_aload_n hx hb dX3_plan_0 rfl (lv_at hl 1 rfl) ?_
  refine va_getN (D := (dC, dI)) (ci := 4) (v := .int 0) (C := RX6) (T := TX6) (N := 9) hx hb hts inX6 hown hK hP 1 rfl rfl 6 (by decide) (ev_nest hev 7 rfl) (fun _ h9 => h9) rfl dX3_plan_1 ?_
  refine lv_bipush (v := 6) hx hb dX3_plan_4 (by decide) ?_
  refine va_mmin hx hb (by rw [hml]; exact hl.1.symm) hown (hts _ (List.mem_of_getElem? (i := 1) rfl)) (hts _ (List.mem_of_getElem? (i := 2) rfl)) (hts _ (List.mem_of_getElem? (i := 3) rfl)) (hts _ (List.mem_of_getElem? (i := 4) rfl)) (Nat.le_of_ble_eq_true rfl) (Nat.le_of_ble_eq_true rfl) (Nat.le_of_ble_eq_true rfl) (Nat.le_of_ble_eq_true rfl) dX3_plan_6 ?_
  refine pp_ti (y := 0) (by decide) ?_
  refine lv_istore_n (lv' := [(2, .int 0), (0, .ref h0), (1, .ref h1)]) hx hb dX3_plan_9 rfl hl (by decide) rfl (fun ls hl => ?_)
  refine lv_iconst (v := 1) hx hb dX3_plan_10 (by decide) ?_
  refine lv_iload_n hx hb dX3_plan_11 rfl (lv_at hl 0 rfl) ?_
  refine lv_ishl hx hb dX3_plan_12 ?_
  refine pp_ti (y := 1) (by decide) ?_
  refine lv_iconst (v := 1) hx hb dX3_plan_13 (by decide) ?_
  refine lv_isub hx hb dX3_plan_14 ?_
  refine pp_ti (y := 0) (by decide) ?_
  refine lv_istore_n (lv' := [(3, .int 0), (2, .int 0), (0, .ref h0), (1, .ref h1)]) hx hb dX3_plan_15 rfl hl (by decide) rfl (fun ls hl => ?_)
  refine lv_iload_n hx hb dX3_plan_16 rfl (lv_at hl 0 rfl) ?_
  refine lv_if_le (tgt := 93) hx hb dX3_plan_17 (by decide) (fun _ => ?_) (fun c => absurd (by decide) c)
  refine lv_aload_n hx hb dX3_plan_93 rfl (lv_at hl 2 rfl) ?_
  refine lv_aload_n hx hb dX3_plan_94 rfl (lv_at hl 3 rfl) ?_
  refine lv_iload_n hx hb dX3_plan_95 rfl (lv_at hl 1 rfl) ?_
  have hPc := hP.sub (ws' := [(h0, .inr (1, [w0, w1, w2]))]) [0] rfl
  have hKc := hK.sub (tys' := []) [] rfl
  have hDc := hD.sub (ws' := [(h0, .inr (1, [w0, w1, w2]))]) [0] (by decide) rfl
  have hFc := va_free (wc := [(h0, .inr (1, [w0, w1, w2]))]) hD hS hA [0] rfl
  refine va_callv (va_runV (As := [.ref h1, .int 0]) (rest := []) ⟨hx, hb, hml, hown, hts⟩ (c_walk l dC dI ad h0 h1 w0 w1 w2 s.heap.size ) (cwV 2 hts g_c_plan_c_walk_40 rfl rfl rfl (by decide +kernel) ⟨(Nat.le_of_ble_eq_true rfl), (Nat.le_of_ble_eq_true rfl)⟩) ⟨preM_blind, va_recv hKc hPc (ci := 1) (q0 := 0) rfl rfl, fun U hU hW => ⟨rfl, preM_at hU hW hPc hKc hDc hev⟩⟩ rfl rfl hl.1 rfl (lv_room (Nat.le_of_ble_eq_true rfl)) dX3_plan_96 ⟨(Nat.le_of_ble_eq_true rfl), (Nat.le_of_ble_eq_true rfl)⟩) hS (fun q _ h => hFc q h) hFc (fun u t H1 locs ht hvm hw hB hz1 hk1 hS => ?_)
  obtain ⟨hP1, hK1, hD1⟩ := hB
  rw [ht] at hP1
  have hK1 := va_K.moved hvm.symm hK1
  obtain ⟨hP, hD⟩ := va_join (wr := [(h1, .inr (4, [x0, x1, x2, x3, x4, x5, .int 0, x7, x8]))]) (w1 := [(h0, .inr (1, [.int 0, w1, w2]))]) hP hD [0] [1] rfl rfl (by decide) (by decide) hk1 hFc hP1 hD1
  generalize H1 = H at hP hS ⊢
  have hP : va_P (dC, dI) vwCl [(h1, .inr (4, [x0, x1, x2, x3, x4, x5, .int 0, x7, x8])), (h0, .inr (1, [.int 0, w1, w2]))] H := hP
  have hD : va_D A [(h1, .inr (4, [x0, x1, x2, x3, x4, x5, .int 0, x7, x8])), (h0, .inr (1, [.int 0, w1, w2]))] := hD
  have hP9 := hP.sub (ws' := [(h0, .inr (1, [.int 0, w1, w2])), (h1, .inr (4, [x0, x1, x2, x3, x4, x5, .int 0, x7, x8]))]) [1, 0] rfl
  have hD9 := hD.sub (ws' := [(h0, .inr (1, [.int 0, w1, w2])), (h1, .inr (4, [x0, x1, x2, x3, x4, x5, .int 0, x7, x8]))]) [1, 0] (by decide) rfl
  have hK9 := hK.sub (tys' := []) [] rfl
  exact W.vret hx hb hr (fun t ht hW => ⟨⟨(), rfl, trivial, by rw [ht]; exact hP9, va_K.moved hW.alike hK9, hD9⟩, hS.F ht⟩) hS.2.2 dX3_plan_99

def w_c_hasRoomFor : List Cond := .code yX7_hasRoomFor cX7_hasRoomFor 2 (some .boolean) :: (([.fieldLink RX7 9 "LampShapes$Tape" "size" "I"] : List Cond) ++ wsX70)
set_option maxHeartbeats 4000000 in
set_option maxRecDepth 100000 in
theorem c_hasRoomFor (l : Launch) (dC : Nat → ClassId) (dI : Nat → Nat → Nat) (ad : Nat → Nat) (h0 : Nat) (n : Int32) (w1 : Value) : Met l yX7_hasRoomFor w_c_hasRoomFor ({ frames := 0, cells := 0, slots := 0, locals := 0 } : Room) (va_Pc [.ref h0, .int n] (preS dC dI ad [] [(h0, .inr (5, [.int 0, w1]))])) (vp_Si (fun r => ((n ≤ 120) → r = 1) ∧ (¬ (n ≤ 120) → r = 0))) 0 0 (fun _ => False) := by
  refine Met.ofW (cc := cX7_hasRoomFor) (maxL := 2) (ret := (some .boolean)) (by decide) rfl ?_
  intro p e s m args below meth c s₁ B hml hv
  obtain ⟨rfl, hP, hK, hev⟩ := hv
  have hx := B.exec
  have hb := B.bytes
  have hr := B.returns
  have hts := atoms_spec (ws := w_c_hasRoomFor) B.pre
  have hown : s.vm.findClass RX7 = some m.cls := findClass_of_methodNamed B.named
  have hlocks := B.notSynchronized
  have inX7 : ∀ w ∈ wsX70, w ∈ w_c_hasRoomFor := fun w h => List.mem_cons_of_mem _ (List.mem_append_right _ h)
  have hP : va_P (dC, dI) vwCl [(h0, .inr (5, [.int 0, w1]))] s.heap := hP
  have hl := lv_entry ([.ref h0, .int n]) (n := 2) (Nat.le_of_ble_eq_true rfl)
  rw [lg_entry_eq]
  generalize (lg_sl ([.ref h0, .int n]) ++ List.replicate (2 - (lg_sl ([.ref h0, .int n])).length) Slot.unset).toArray = ls at hl ⊢
  have hl : lv_has ls 2 [(0, .ref h0), (1, .int n)] := hl
  refine lv_iload_n hx hb dX7_hasRoomFor_0 rfl (lv_at hl 1 rfl) ?_
  refine lv_bipush (v := 120) hx hb dX7_hasRoomFor_1 (by decide) ?_
  refine lv_aload_n hx hb dX7_hasRoomFor_3 rfl (lv_at hl 0 rfl) ?_
  refine va_get (D := (dC, dI)) (ci := 5) (v := .int 0) (C := RX7) (T := TX7) (N := 2) hx hb hts inX7 hown hK hP 0 rfl rfl 0 (by decide) (hts _ (List.mem_of_getElem? (i := 1) rfl)) (fun _ h9 => h9) rfl dX7_hasRoomFor_4 ?_
  refine lv_isub hx hb dX7_hasRoomFor_7 ?_
  refine pp_ti (y := 120) (by decide) ?_
  refine lv_icmp_gt (tgt := 15) hx hb dX7_hasRoomFor_8 (by decide) (fun c_1 => ?_) (fun c_1 => ?_)
  · skip
    refine lv_iconst (v := 0) hx hb dX7_hasRoomFor_15 (by decide) ?_
    exact W.zret (v := 0) hx hb hr (by decide) (fun t ht hW => ⟨0, rfl, ⟨(fun h => (by first | rfl | (exfalso; simp only [fa_lt, fa_le, fa_eq, and_true, true_and, and_false, false_and, not_true_eq_false, not_false_eq_true, li_0, li_1, li_2, li_3, li_4, li_5, li_6, li_7, li_8, li_9, li_10, li_12, li_15, li_16, li_20, li_30, li_34, li_38, li_40, li_63, li_64, li_65, li_78, li_120, li_1000, li_4000, li_10000, li_11077, li_255, li_65535, li_m1, li_m2, li_m1000000001, li_m1000000002, li_m1000000003, li_m1000000004, li_m1000000005, li_m1000000006, li_m1000000007] at c_1 h <;> omega) | (simp only [fa_lt, fa_le, fa_eq, and_true, true_and, and_false, false_and, not_true_eq_false, not_false_eq_true, li_0, li_1, li_2, li_3, li_4, li_5, li_6, li_7, li_8, li_9, li_10, li_12, li_15, li_16, li_20, li_30, li_34, li_38, li_40, li_63, li_64, li_65, li_78, li_120, li_1000, li_4000, li_10000, li_11077, li_255, li_65535, li_m1, li_m2, li_m1000000001, li_m1000000002, li_m1000000003, li_m1000000004, li_m1000000005, li_m1000000006, li_m1000000007] at c_1 h ⊢ <;> omega))), (fun g0 => rfl)⟩, ht⟩) (fun _ h => absurd h List.not_mem_nil) dX7_hasRoomFor_16
  · skip
    refine lv_iconst (v := 1) hx hb dX7_hasRoomFor_11 (by decide) ?_
    refine lv_goto (tgt := 16) hx hb dX7_hasRoomFor_12 (by decide) ?_
    exact W.zret (v := 1) hx hb hr (by decide) (fun t ht hW => ⟨1, rfl, ⟨(fun h => rfl), (fun g0 => (by first | rfl | (exfalso; simp only [fa_lt, fa_le, fa_eq, and_true, true_and, and_false, false_and, not_true_eq_false, not_false_eq_true, li_0, li_1, li_2, li_3, li_4, li_5, li_6, li_7, li_8, li_9, li_10, li_12, li_15, li_16, li_20, li_30, li_34, li_38, li_40, li_63, li_64, li_65, li_78, li_120, li_1000, li_4000, li_10000, li_11077, li_255, li_65535, li_m1, li_m2, li_m1000000001, li_m1000000002, li_m1000000003, li_m1000000004, li_m1000000005, li_m1000000006, li_m1000000007] at c_1 g0 <;> omega) | (simp only [fa_lt, fa_le, fa_eq, and_true, true_and, and_false, false_and, not_true_eq_false, not_false_eq_true, li_0, li_1, li_2, li_3, li_4, li_5, li_6, li_7, li_8, li_9, li_10, li_12, li_15, li_16, li_20, li_30, li_34, li_38, li_40, li_63, li_64, li_65, li_78, li_120, li_1000, li_4000, li_10000, li_11077, li_255, li_65535, li_m1, li_m2, li_m1000000001, li_m1000000002, li_m1000000003, li_m1000000004, li_m1000000005, li_m1000000006, li_m1000000007] at c_1 g0 ⊢ <;> omega)))⟩, ht⟩) (fun _ h => absurd h List.not_mem_nil) dX7_hasRoomFor_16

def w_c_add_0 : List Cond := .code yX7_add cX7_add 2 none :: (([.fieldLink RX7 15 "LampShapes$Tape" "bytes" "[I", .fieldLink RX7 9 "LampShapes$Tape" "size" "I"] : List Cond) ++ wsX70)
set_option maxHeartbeats 4000000 in
set_option maxRecDepth 100000 in
theorem c_add_0 (l : Launch) (dC : Nat → ClassId) (dI : Nat → Nat → Nat) (ad : Nat → Nat) (h0 : Nat) (n : Int32) (q1 : Nat) (c1 : ClassId) (f1 : Nat → Int32) (sz : Nat) : Met l yX7_add w_c_add_0 ({ frames := 0, cells := 0, slots := 0, locals := 0 } : Room) (va_Pc [.ref h0, .int n] (preM dC dI ad [(c1, .int)] [(h0, .inr (5, [.int 0, .ref q1])), (q1, .inl (c1, 120, .inl f1))] sz)) (va_Qv (fun (_ : Unit) => True) (fun _ t => ∃ (f2 : Nat → Int32), va_P (dC, dI) vwCl [(h0, .inr (5, [.int 1, .ref q1])), (q1, .inl (c1, 120, .inl f2))] t.heap ∧ va_K (dC, dI) vwCl [(c1, .int)] t ∧ va_D (va_A [(h0, .inr (5, [.int 0, .ref q1])), (q1, .inl (c1, 120, .inl f1))] sz) [(h0, .inr (5, [.int 1, .ref q1])), (q1, .inl (c1, 120, .inl f2))]) (va_A [(h0, .inr (5, [.int 0, .ref q1])), (q1, .inl (c1, 120, .inl f1))] sz)) 0 0 (va_A [(h0, .inr (5, [.int 0, .ref q1])), (q1, .inl (c1, 120, .inl f1))] sz) := by
  refine Met.ofW (cc := cX7_add) (maxL := 2) (ret := none) (by decide) rfl ?_
  intro p e s m args below meth c s₁ B hml hv
  obtain ⟨rfl, hsz, hP, hK, hD0, hev⟩ := hv
  have hx := B.exec
  have hb := B.bytes
  have hr := B.returns
  have hts := atoms_spec (ws := w_c_add_0) B.pre
  have hown : s.vm.findClass RX7 = some m.cls := findClass_of_methodNamed B.named
  have hlocks := B.notSynchronized
  have inX7 : ∀ w ∈ wsX70, w ∈ w_c_add_0 := fun w h => List.mem_cons_of_mem _ (List.mem_append_right _ h)
  subst hsz
  have hD := hD0.self (sz := s.heap.size)
  generalize hAe : va_A [(h0, .inr (5, [.int 0, .ref q1])), (q1, .inl (c1, 120, .inl f1))] s.heap.size = A at hD ⊢
  have hA : ∀ q : Nat, s.heap.size ≤ q → A q := fun q h => by rw [← hAe]; exact Or.inr h
  have hS : va_S A s.heap s.heap [] := va_S.rf
  have hP : va_P (dC, dI) vwCl [(h0, .inr (5, [.int 0, .ref q1])), (q1, .inl (c1, 120, .inl f1))] s.heap := hP
  have hl := lv_entry ([.ref h0, .int n]) (n := 2) (Nat.le_of_ble_eq_true rfl)
  rw [lg_entry_eq]
  generalize (lg_sl ([.ref h0, .int n]) ++ List.replicate (2 - (lg_sl ([.ref h0, .int n])).length) Slot.unset).toArray = ls at hl ⊢
  have hl : lv_has ls 2 [(0, .ref h0), (1, .int n)] := hl
  refine lv_aload_n hx hb dX7_add_0 rfl (lv_at hl 0 rfl) ?_
  refine va_get (D := (dC, dI)) (ci := 5) (v := .ref q1) (C := RX7) (T := TX7) (N := 2) hx hb hts inX7 hown hK hP 0 rfl rfl 1 (by decide) (hts _ (List.mem_of_getElem? (i := 1) rfl)) (fun _ h9 => h9) rfl dX7_add_1 ?_
  refine lv_aload_n hx hb dX7_add_4 rfl (lv_at hl 0 rfl) ?_
  refine va_get (D := (dC, dI)) (ci := 5) (v := .int 0) (C := RX7) (T := TX7) (N := 2) hx hb hts inX7 hown hK hP 0 rfl rfl 0 (by decide) (hts _ (List.mem_of_getElem? (i := 2) rfl)) (fun _ h9 => h9) rfl dX7_add_5 ?_
  refine lv_iload_n hx hb dX7_add_8 rfl (lv_at hl 1 rfl) ?_
  refine lv_sipush (v := 255) hx hb dX7_add_9 (by decide) ?_
  refine lv_iand hx hb dX7_add_12 ?_
  refine va_iast hx hb hK hP hD hS 1 0 rfl rfl (vp_in_nI (n := 0) (by decide) (by decide)) dX7_add_13 (fun H locs hP hD hS => ?_)
  have hP : va_P (dC, dI) vwCl [(h0, .inr (5, [.int 0, .ref q1])), (q1, .inl (c1, 120, .inl (upd f1 0 (n &&& 255))))] H := hP
  have hD : va_D A [(h0, .inr (5, [.int 0, .ref q1])), (q1, .inl (c1, 120, .inl (upd f1 0 (n &&& 255))))] := hD
  generalize upd f1 0 (n &&& 255) = f_1 at hP hD
  refine lv_aload_n hx hb dX7_add_14 rfl (lv_at hl 0 rfl) ?_
  refine lv_dup hx hb dX7_add_15 rfl ?_
  refine va_get (D := (dC, dI)) (ci := 5) (v := .int 0) (C := RX7) (T := TX7) (N := 2) hx hb hts inX7 hown hK hP 0 rfl rfl 0 (by decide) (hts _ (List.mem_of_getElem? (i := 2) rfl)) (fun _ h9 => h9) rfl dX7_add_16 ?_
  refine lv_iconst (v := 1) hx hb dX7_add_19 (by decide) ?_
  refine lv_iadd hx hb dX7_add_20 ?_
  refine pp_ti (y := 1) (by decide) ?_
  refine va_put (D := (dC, dI)) (ci := 5) (v := .int 1) (ty := .int) (C := RX7) (T := TX7) (N := 2) hx hb hts inX7 tyX7 tyX7_ok nmX7 hown hK hP hD hS 0 rfl rfl 0 (by decide) (hts _ (List.mem_of_getElem? (i := 2) rfl)) (fun _ h9 => h9) rfl (by decide +kernel) rfl rfl (Nat.le_of_ble_eq_true rfl) dX7_add_21 (fun H locs hP hD hS => ?_)
  have hP : va_P (dC, dI) vwCl [(h0, .inr (5, [.int 1, .ref q1])), (q1, .inl (c1, 120, .inl f_1))] H := hP
  have hD : va_D A [(h0, .inr (5, [.int 1, .ref q1])), (q1, .inl (c1, 120, .inl f_1))] := hD
  have hP9 := hP.sub (ws' := [(h0, .inr (5, [.int 1, .ref q1])), (q1, .inl (c1, 120, .inl f_1))]) [0, 1] rfl
  have hD9 := hD.sub (ws' := [(h0, .inr (5, [.int 1, .ref q1])), (q1, .inl (c1, 120, .inl f_1))]) [0, 1] (by decide) rfl
  have hK9 := hK.sub (tys' := [(c1, .int)]) [0] rfl
  exact W.vret hx hb hr (fun t ht hW => ⟨⟨(), rfl, trivial, f_1, by rw [ht]; exact hP9, va_K.moved hW.alike hK9, hD9⟩, hS.F ht⟩) hS.2.2 dX7_add_24

def w_c_add_1 : List Cond := .code yX7_add cX7_add 2 none :: (([.fieldLink RX7 15 "LampShapes$Tape" "bytes" "[I", .fieldLink RX7 9 "LampShapes$Tape" "size" "I"] : List Cond) ++ wsX70)
set_option maxHeartbeats 4000000 in
set_option maxRecDepth 100000 in
theorem c_add_1 (l : Launch) (dC : Nat → ClassId) (dI : Nat → Nat → Nat) (ad : Nat → Nat) (h0 : Nat) (n : Int32) (q1 : Nat) (c1 : ClassId) (f1 : Nat → Int32) (sz : Nat) : Met l yX7_add w_c_add_1 ({ frames := 0, cells := 0, slots := 0, locals := 0 } : Room) (va_Pc [.ref h0, .int n] (preM dC dI ad [(c1, .int)] [(h0, .inr (5, [.int 1, .ref q1])), (q1, .inl (c1, 120, .inl f1))] sz)) (va_Qv (fun (_ : Unit) => True) (fun _ t => ∃ (f2 : Nat → Int32), va_P (dC, dI) vwCl [(h0, .inr (5, [.int 2, .ref q1])), (q1, .inl (c1, 120, .inl f2))] t.heap ∧ va_K (dC, dI) vwCl [(c1, .int)] t ∧ va_D (va_A [(h0, .inr (5, [.int 1, .ref q1])), (q1, .inl (c1, 120, .inl f1))] sz) [(h0, .inr (5, [.int 2, .ref q1])), (q1, .inl (c1, 120, .inl f2))]) (va_A [(h0, .inr (5, [.int 1, .ref q1])), (q1, .inl (c1, 120, .inl f1))] sz)) 0 0 (va_A [(h0, .inr (5, [.int 1, .ref q1])), (q1, .inl (c1, 120, .inl f1))] sz) := by
  refine Met.ofW (cc := cX7_add) (maxL := 2) (ret := none) (by decide) rfl ?_
  intro p e s m args below meth c s₁ B hml hv
  obtain ⟨rfl, hsz, hP, hK, hD0, hev⟩ := hv
  have hx := B.exec
  have hb := B.bytes
  have hr := B.returns
  have hts := atoms_spec (ws := w_c_add_1) B.pre
  have hown : s.vm.findClass RX7 = some m.cls := findClass_of_methodNamed B.named
  have hlocks := B.notSynchronized
  have inX7 : ∀ w ∈ wsX70, w ∈ w_c_add_1 := fun w h => List.mem_cons_of_mem _ (List.mem_append_right _ h)
  subst hsz
  have hD := hD0.self (sz := s.heap.size)
  generalize hAe : va_A [(h0, .inr (5, [.int 1, .ref q1])), (q1, .inl (c1, 120, .inl f1))] s.heap.size = A at hD ⊢
  have hA : ∀ q : Nat, s.heap.size ≤ q → A q := fun q h => by rw [← hAe]; exact Or.inr h
  have hS : va_S A s.heap s.heap [] := va_S.rf
  have hP : va_P (dC, dI) vwCl [(h0, .inr (5, [.int 1, .ref q1])), (q1, .inl (c1, 120, .inl f1))] s.heap := hP
  have hl := lv_entry ([.ref h0, .int n]) (n := 2) (Nat.le_of_ble_eq_true rfl)
  rw [lg_entry_eq]
  generalize (lg_sl ([.ref h0, .int n]) ++ List.replicate (2 - (lg_sl ([.ref h0, .int n])).length) Slot.unset).toArray = ls at hl ⊢
  have hl : lv_has ls 2 [(0, .ref h0), (1, .int n)] := hl
  refine lv_aload_n hx hb dX7_add_0 rfl (lv_at hl 0 rfl) ?_
  refine va_get (D := (dC, dI)) (ci := 5) (v := .ref q1) (C := RX7) (T := TX7) (N := 2) hx hb hts inX7 hown hK hP 0 rfl rfl 1 (by decide) (hts _ (List.mem_of_getElem? (i := 1) rfl)) (fun _ h9 => h9) rfl dX7_add_1 ?_
  refine lv_aload_n hx hb dX7_add_4 rfl (lv_at hl 0 rfl) ?_
  refine va_get (D := (dC, dI)) (ci := 5) (v := .int 1) (C := RX7) (T := TX7) (N := 2) hx hb hts inX7 hown hK hP 0 rfl rfl 0 (by decide) (hts _ (List.mem_of_getElem? (i := 2) rfl)) (fun _ h9 => h9) rfl dX7_add_5 ?_
  refine lv_iload_n hx hb dX7_add_8 rfl (lv_at hl 1 rfl) ?_
  refine lv_sipush (v := 255) hx hb dX7_add_9 (by decide) ?_
  refine lv_iand hx hb dX7_add_12 ?_
  refine va_iast hx hb hK hP hD hS 1 0 rfl rfl (vp_in_nI (n := 1) (by decide) (by decide)) dX7_add_13 (fun H locs hP hD hS => ?_)
  have hP : va_P (dC, dI) vwCl [(h0, .inr (5, [.int 1, .ref q1])), (q1, .inl (c1, 120, .inl (upd f1 1 (n &&& 255))))] H := hP
  have hD : va_D A [(h0, .inr (5, [.int 1, .ref q1])), (q1, .inl (c1, 120, .inl (upd f1 1 (n &&& 255))))] := hD
  generalize upd f1 1 (n &&& 255) = f_1 at hP hD
  refine lv_aload_n hx hb dX7_add_14 rfl (lv_at hl 0 rfl) ?_
  refine lv_dup hx hb dX7_add_15 rfl ?_
  refine va_get (D := (dC, dI)) (ci := 5) (v := .int 1) (C := RX7) (T := TX7) (N := 2) hx hb hts inX7 hown hK hP 0 rfl rfl 0 (by decide) (hts _ (List.mem_of_getElem? (i := 2) rfl)) (fun _ h9 => h9) rfl dX7_add_16 ?_
  refine lv_iconst (v := 1) hx hb dX7_add_19 (by decide) ?_
  refine lv_iadd hx hb dX7_add_20 ?_
  refine pp_ti (y := 2) (by decide) ?_
  refine va_put (D := (dC, dI)) (ci := 5) (v := .int 2) (ty := .int) (C := RX7) (T := TX7) (N := 2) hx hb hts inX7 tyX7 tyX7_ok nmX7 hown hK hP hD hS 0 rfl rfl 0 (by decide) (hts _ (List.mem_of_getElem? (i := 2) rfl)) (fun _ h9 => h9) rfl (by decide +kernel) rfl rfl (Nat.le_of_ble_eq_true rfl) dX7_add_21 (fun H locs hP hD hS => ?_)
  have hP : va_P (dC, dI) vwCl [(h0, .inr (5, [.int 2, .ref q1])), (q1, .inl (c1, 120, .inl f_1))] H := hP
  have hD : va_D A [(h0, .inr (5, [.int 2, .ref q1])), (q1, .inl (c1, 120, .inl f_1))] := hD
  have hP9 := hP.sub (ws' := [(h0, .inr (5, [.int 2, .ref q1])), (q1, .inl (c1, 120, .inl f_1))]) [0, 1] rfl
  have hD9 := hD.sub (ws' := [(h0, .inr (5, [.int 2, .ref q1])), (q1, .inl (c1, 120, .inl f_1))]) [0, 1] (by decide) rfl
  have hK9 := hK.sub (tys' := [(c1, .int)]) [0] rfl
  exact W.vret hx hb hr (fun t ht hW => ⟨⟨(), rfl, trivial, f_1, by rw [ht]; exact hP9, va_K.moved hW.alike hK9, hD9⟩, hS.F ht⟩) hS.2.2 dX7_add_24

def w_c_add_2 : List Cond := .code yX7_add cX7_add 2 none :: (([.fieldLink RX7 15 "LampShapes$Tape" "bytes" "[I", .fieldLink RX7 9 "LampShapes$Tape" "size" "I"] : List Cond) ++ wsX70)
set_option maxHeartbeats 4000000 in
set_option maxRecDepth 100000 in
theorem c_add_2 (l : Launch) (dC : Nat → ClassId) (dI : Nat → Nat → Nat) (ad : Nat → Nat) (h0 : Nat) (n : Int32) (q1 : Nat) (c1 : ClassId) (f1 : Nat → Int32) (sz : Nat) : Met l yX7_add w_c_add_2 ({ frames := 0, cells := 0, slots := 0, locals := 0 } : Room) (va_Pc [.ref h0, .int n] (preM dC dI ad [(c1, .int)] [(h0, .inr (5, [.int 2, .ref q1])), (q1, .inl (c1, 120, .inl f1))] sz)) (va_Qv (fun (_ : Unit) => True) (fun _ t => ∃ (f2 : Nat → Int32), va_P (dC, dI) vwCl [(h0, .inr (5, [.int 3, .ref q1])), (q1, .inl (c1, 120, .inl f2))] t.heap ∧ va_K (dC, dI) vwCl [(c1, .int)] t ∧ va_D (va_A [(h0, .inr (5, [.int 2, .ref q1])), (q1, .inl (c1, 120, .inl f1))] sz) [(h0, .inr (5, [.int 3, .ref q1])), (q1, .inl (c1, 120, .inl f2))]) (va_A [(h0, .inr (5, [.int 2, .ref q1])), (q1, .inl (c1, 120, .inl f1))] sz)) 0 0 (va_A [(h0, .inr (5, [.int 2, .ref q1])), (q1, .inl (c1, 120, .inl f1))] sz) := by
  refine Met.ofW (cc := cX7_add) (maxL := 2) (ret := none) (by decide) rfl ?_
  intro p e s m args below meth c s₁ B hml hv
  obtain ⟨rfl, hsz, hP, hK, hD0, hev⟩ := hv
  have hx := B.exec
  have hb := B.bytes
  have hr := B.returns
  have hts := atoms_spec (ws := w_c_add_2) B.pre
  have hown : s.vm.findClass RX7 = some m.cls := findClass_of_methodNamed B.named
  have hlocks := B.notSynchronized
  have inX7 : ∀ w ∈ wsX70, w ∈ w_c_add_2 := fun w h => List.mem_cons_of_mem _ (List.mem_append_right _ h)
  subst hsz
  have hD := hD0.self (sz := s.heap.size)
  generalize hAe : va_A [(h0, .inr (5, [.int 2, .ref q1])), (q1, .inl (c1, 120, .inl f1))] s.heap.size = A at hD ⊢
  have hA : ∀ q : Nat, s.heap.size ≤ q → A q := fun q h => by rw [← hAe]; exact Or.inr h
  have hS : va_S A s.heap s.heap [] := va_S.rf
  have hP : va_P (dC, dI) vwCl [(h0, .inr (5, [.int 2, .ref q1])), (q1, .inl (c1, 120, .inl f1))] s.heap := hP
  have hl := lv_entry ([.ref h0, .int n]) (n := 2) (Nat.le_of_ble_eq_true rfl)
  rw [lg_entry_eq]
  generalize (lg_sl ([.ref h0, .int n]) ++ List.replicate (2 - (lg_sl ([.ref h0, .int n])).length) Slot.unset).toArray = ls at hl ⊢
  have hl : lv_has ls 2 [(0, .ref h0), (1, .int n)] := hl
  refine lv_aload_n hx hb dX7_add_0 rfl (lv_at hl 0 rfl) ?_
  refine va_get (D := (dC, dI)) (ci := 5) (v := .ref q1) (C := RX7) (T := TX7) (N := 2) hx hb hts inX7 hown hK hP 0 rfl rfl 1 (by decide) (hts _ (List.mem_of_getElem? (i := 1) rfl)) (fun _ h9 => h9) rfl dX7_add_1 ?_
  refine lv_aload_n hx hb dX7_add_4 rfl (lv_at hl 0 rfl) ?_
  refine va_get (D := (dC, dI)) (ci := 5) (v := .int 2) (C := RX7) (T := TX7) (N := 2) hx hb hts inX7 hown hK hP 0 rfl rfl 0 (by decide) (hts _ (List.mem_of_getElem? (i := 2) rfl)) (fun _ h9 => h9) rfl dX7_add_5 ?_
  refine lv_iload_n hx hb dX7_add_8 rfl (lv_at hl 1 rfl) ?_
  refine lv_sipush (v := 255) hx hb dX7_add_9 (by decide) ?_
  refine lv_iand hx hb dX7_add_12 ?_
  refine va_iast hx hb hK hP hD hS 1 0 rfl rfl (vp_in_nI (n := 2) (by decide) (by decide)) dX7_add_13 (fun H locs hP hD hS => ?_)
  have hP : va_P (dC, dI) vwCl [(h0, .inr (5, [.int 2, .ref q1])), (q1, .inl (c1, 120, .inl (upd f1 2 (n &&& 255))))] H := hP
  have hD : va_D A [(h0, .inr (5, [.int 2, .ref q1])), (q1, .inl (c1, 120, .inl (upd f1 2 (n &&& 255))))] := hD
  generalize upd f1 2 (n &&& 255) = f_1 at hP hD
  refine lv_aload_n hx hb dX7_add_14 rfl (lv_at hl 0 rfl) ?_
  refine lv_dup hx hb dX7_add_15 rfl ?_
  refine va_get (D := (dC, dI)) (ci := 5) (v := .int 2) (C := RX7) (T := TX7) (N := 2) hx hb hts inX7 hown hK hP 0 rfl rfl 0 (by decide) (hts _ (List.mem_of_getElem? (i := 2) rfl)) (fun _ h9 => h9) rfl dX7_add_16 ?_
  refine lv_iconst (v := 1) hx hb dX7_add_19 (by decide) ?_
  refine lv_iadd hx hb dX7_add_20 ?_
  refine pp_ti (y := 3) (by decide) ?_
  refine va_put (D := (dC, dI)) (ci := 5) (v := .int 3) (ty := .int) (C := RX7) (T := TX7) (N := 2) hx hb hts inX7 tyX7 tyX7_ok nmX7 hown hK hP hD hS 0 rfl rfl 0 (by decide) (hts _ (List.mem_of_getElem? (i := 2) rfl)) (fun _ h9 => h9) rfl (by decide +kernel) rfl rfl (Nat.le_of_ble_eq_true rfl) dX7_add_21 (fun H locs hP hD hS => ?_)
  have hP : va_P (dC, dI) vwCl [(h0, .inr (5, [.int 3, .ref q1])), (q1, .inl (c1, 120, .inl f_1))] H := hP
  have hD : va_D A [(h0, .inr (5, [.int 3, .ref q1])), (q1, .inl (c1, 120, .inl f_1))] := hD
  have hP9 := hP.sub (ws' := [(h0, .inr (5, [.int 3, .ref q1])), (q1, .inl (c1, 120, .inl f_1))]) [0, 1] rfl
  have hD9 := hD.sub (ws' := [(h0, .inr (5, [.int 3, .ref q1])), (q1, .inl (c1, 120, .inl f_1))]) [0, 1] (by decide) rfl
  have hK9 := hK.sub (tys' := [(c1, .int)]) [0] rfl
  exact W.vret hx hb hr (fun t ht hW => ⟨⟨(), rfl, trivial, f_1, by rw [ht]; exact hP9, va_K.moved hW.alike hK9, hD9⟩, hS.F ht⟩) hS.2.2 dX7_add_24

def w_c_add_3 : List Cond := .code yX7_add cX7_add 2 none :: (([.fieldLink RX7 15 "LampShapes$Tape" "bytes" "[I", .fieldLink RX7 9 "LampShapes$Tape" "size" "I"] : List Cond) ++ wsX70)
set_option maxHeartbeats 4000000 in
set_option maxRecDepth 100000 in
theorem c_add_3 (l : Launch) (dC : Nat → ClassId) (dI : Nat → Nat → Nat) (ad : Nat → Nat) (h0 : Nat) (n : Int32) (q1 : Nat) (c1 : ClassId) (f1 : Nat → Int32) (sz : Nat) : Met l yX7_add w_c_add_3 ({ frames := 0, cells := 0, slots := 0, locals := 0 } : Room) (va_Pc [.ref h0, .int n] (preM dC dI ad [(c1, .int)] [(h0, .inr (5, [.int 3, .ref q1])), (q1, .inl (c1, 120, .inl f1))] sz)) (va_Qv (fun (_ : Unit) => True) (fun _ t => ∃ (f2 : Nat → Int32), va_P (dC, dI) vwCl [(h0, .inr (5, [.int 4, .ref q1])), (q1, .inl (c1, 120, .inl f2))] t.heap ∧ va_K (dC, dI) vwCl [(c1, .int)] t ∧ va_D (va_A [(h0, .inr (5, [.int 3, .ref q1])), (q1, .inl (c1, 120, .inl f1))] sz) [(h0, .inr (5, [.int 4, .ref q1])), (q1, .inl (c1, 120, .inl f2))]) (va_A [(h0, .inr (5, [.int 3, .ref q1])), (q1, .inl (c1, 120, .inl f1))] sz)) 0 0 (va_A [(h0, .inr (5, [.int 3, .ref q1])), (q1, .inl (c1, 120, .inl f1))] sz) := by
  refine Met.ofW (cc := cX7_add) (maxL := 2) (ret := none) (by decide) rfl ?_
  intro p e s m args below meth c s₁ B hml hv
  obtain ⟨rfl, hsz, hP, hK, hD0, hev⟩ := hv
  have hx := B.exec
  have hb := B.bytes
  have hr := B.returns
  have hts := atoms_spec (ws := w_c_add_3) B.pre
  have hown : s.vm.findClass RX7 = some m.cls := findClass_of_methodNamed B.named
  have hlocks := B.notSynchronized
  have inX7 : ∀ w ∈ wsX70, w ∈ w_c_add_3 := fun w h => List.mem_cons_of_mem _ (List.mem_append_right _ h)
  subst hsz
  have hD := hD0.self (sz := s.heap.size)
  generalize hAe : va_A [(h0, .inr (5, [.int 3, .ref q1])), (q1, .inl (c1, 120, .inl f1))] s.heap.size = A at hD ⊢
  have hA : ∀ q : Nat, s.heap.size ≤ q → A q := fun q h => by rw [← hAe]; exact Or.inr h
  have hS : va_S A s.heap s.heap [] := va_S.rf
  have hP : va_P (dC, dI) vwCl [(h0, .inr (5, [.int 3, .ref q1])), (q1, .inl (c1, 120, .inl f1))] s.heap := hP
  have hl := lv_entry ([.ref h0, .int n]) (n := 2) (Nat.le_of_ble_eq_true rfl)
  rw [lg_entry_eq]
  generalize (lg_sl ([.ref h0, .int n]) ++ List.replicate (2 - (lg_sl ([.ref h0, .int n])).length) Slot.unset).toArray = ls at hl ⊢
  have hl : lv_has ls 2 [(0, .ref h0), (1, .int n)] := hl
  refine lv_aload_n hx hb dX7_add_0 rfl (lv_at hl 0 rfl) ?_
  refine va_get (D := (dC, dI)) (ci := 5) (v := .ref q1) (C := RX7) (T := TX7) (N := 2) hx hb hts inX7 hown hK hP 0 rfl rfl 1 (by decide) (hts _ (List.mem_of_getElem? (i := 1) rfl)) (fun _ h9 => h9) rfl dX7_add_1 ?_
  refine lv_aload_n hx hb dX7_add_4 rfl (lv_at hl 0 rfl) ?_
  refine va_get (D := (dC, dI)) (ci := 5) (v := .int 3) (C := RX7) (T := TX7) (N := 2) hx hb hts inX7 hown hK hP 0 rfl rfl 0 (by decide) (hts _ (List.mem_of_getElem? (i := 2) rfl)) (fun _ h9 => h9) rfl dX7_add_5 ?_
  refine lv_iload_n hx hb dX7_add_8 rfl (lv_at hl 1 rfl) ?_
  refine lv_sipush (v := 255) hx hb dX7_add_9 (by decide) ?_
  refine lv_iand hx hb dX7_add_12 ?_
  refine va_iast hx hb hK hP hD hS 1 0 rfl rfl (vp_in_nI (n := 3) (by decide) (by decide)) dX7_add_13 (fun H locs hP hD hS => ?_)
  have hP : va_P (dC, dI) vwCl [(h0, .inr (5, [.int 3, .ref q1])), (q1, .inl (c1, 120, .inl (upd f1 3 (n &&& 255))))] H := hP
  have hD : va_D A [(h0, .inr (5, [.int 3, .ref q1])), (q1, .inl (c1, 120, .inl (upd f1 3 (n &&& 255))))] := hD
  generalize upd f1 3 (n &&& 255) = f_1 at hP hD
  refine lv_aload_n hx hb dX7_add_14 rfl (lv_at hl 0 rfl) ?_
  refine lv_dup hx hb dX7_add_15 rfl ?_
  refine va_get (D := (dC, dI)) (ci := 5) (v := .int 3) (C := RX7) (T := TX7) (N := 2) hx hb hts inX7 hown hK hP 0 rfl rfl 0 (by decide) (hts _ (List.mem_of_getElem? (i := 2) rfl)) (fun _ h9 => h9) rfl dX7_add_16 ?_
  refine lv_iconst (v := 1) hx hb dX7_add_19 (by decide) ?_
  refine lv_iadd hx hb dX7_add_20 ?_
  refine pp_ti (y := 4) (by decide) ?_
  refine va_put (D := (dC, dI)) (ci := 5) (v := .int 4) (ty := .int) (C := RX7) (T := TX7) (N := 2) hx hb hts inX7 tyX7 tyX7_ok nmX7 hown hK hP hD hS 0 rfl rfl 0 (by decide) (hts _ (List.mem_of_getElem? (i := 2) rfl)) (fun _ h9 => h9) rfl (by decide +kernel) rfl rfl (Nat.le_of_ble_eq_true rfl) dX7_add_21 (fun H locs hP hD hS => ?_)
  have hP : va_P (dC, dI) vwCl [(h0, .inr (5, [.int 4, .ref q1])), (q1, .inl (c1, 120, .inl f_1))] H := hP
  have hD : va_D A [(h0, .inr (5, [.int 4, .ref q1])), (q1, .inl (c1, 120, .inl f_1))] := hD
  have hP9 := hP.sub (ws' := [(h0, .inr (5, [.int 4, .ref q1])), (q1, .inl (c1, 120, .inl f_1))]) [0, 1] rfl
  have hD9 := hD.sub (ws' := [(h0, .inr (5, [.int 4, .ref q1])), (q1, .inl (c1, 120, .inl f_1))]) [0, 1] (by decide) rfl
  have hK9 := hK.sub (tys' := [(c1, .int)]) [0] rfl
  exact W.vret hx hb hr (fun t ht hW => ⟨⟨(), rfl, trivial, f_1, by rw [ht]; exact hP9, va_K.moved hW.alike hK9, hD9⟩, hS.F ht⟩) hS.2.2 dX7_add_24

def w_c_Ibit : List Cond := .code yJ6_bitCount_0f7a4 cJ6_bitCount_0f7a4 1 (some .int) :: (([.constant RJ6 265 (1431655765), .constant RJ6 266 (858993459), .constant RJ6 267 (252645135)] : List Cond))
set_option maxHeartbeats 4000000 in
set_option maxRecDepth 100000 in
theorem c_Ibit (l : Launch) (dC : Nat → ClassId) (dI : Nat → Nat → Nat) (ad : Nat → Nat) : Met l yJ6_bitCount_0f7a4 w_c_Ibit ({ frames := 0, cells := 0, slots := 0, locals := 0 } : Room) (va_Pc [.int 0] (preS dC dI ad [] [])) (vp_Si (fun r => (r = 0))) 0 0 (fun _ => False) := by
  refine Met.ofW (cc := cJ6_bitCount_0f7a4) (maxL := 1) (ret := (some .int)) (by decide) rfl ?_
  intro p e s m args below meth c s₁ B hml hv
  obtain ⟨rfl, hP, hK, hev⟩ := hv
  have hx := B.exec
  have hb := B.bytes
  have hr := B.returns
  have hts := atoms_spec (ws := w_c_Ibit) B.pre
  have hown : s.vm.findClass RJ6 = some m.cls := findClass_of_methodNamed B.named
  have hlocks := B.notSynchronized
  have hP : va_P (dC, dI) vwCl [] s.heap := hP
  have hl := lv_entry ([.int 0]) (n := 1) (Nat.le_of_ble_eq_true rfl)
  rw [lg_entry_eq]
  generalize (lg_sl ([.int 0]) ++ List.replicate (1 - (lg_sl ([.int 0])).length) Slot.unset).toArray = ls at hl ⊢
  have hl : lv_has ls 1 [(0, .int 0)] := hl
  refine lv_iload_n hx hb dJ6_bitCount_0f7a4_0 rfl (lv_at hl 0 rfl) ?_
  refine lv_iload_n hx hb dJ6_bitCount_0f7a4_1 rfl (lv_at hl 0 rfl) ?_
  refine lv_iconst (v := 1) hx hb dJ6_bitCount_0f7a4_2 (by decide) ?_
  refine lv_iushr (v := 0) hx hb dJ6_bitCount_0f7a4_3 (by decide) ?_
  refine lv_ldcw hx hb hown (hts _ (List.mem_of_getElem? (i := 1) rfl)) dJ6_bitCount_0f7a4_4 ?_
  refine lv_iand hx hb dJ6_bitCount_0f7a4_7 ?_
  refine pp_ti (y := 0) (by decide) ?_
  refine lv_isub hx hb dJ6_bitCount_0f7a4_8 ?_
  refine pp_ti (y := 0) (by decide) ?_
  refine lv_istore_n (lv' := [(0, .int 0)]) hx hb dJ6_bitCount_0f7a4_9 rfl hl (by decide) rfl (fun ls hl => ?_)
  refine lv_iload_n hx hb dJ6_bitCount_0f7a4_10 rfl (lv_at hl 0 rfl) ?_
  refine lv_ldcw hx hb hown (hts _ (List.mem_of_getElem? (i := 2) rfl)) dJ6_bitCount_0f7a4_11 ?_
  refine lv_iand hx hb dJ6_bitCount_0f7a4_14 ?_
  refine pp_ti (y := 0) (by decide) ?_
  refine lv_iload_n hx hb dJ6_bitCount_0f7a4_15 rfl (lv_at hl 0 rfl) ?_
  refine lv_iconst (v := 2) hx hb dJ6_bitCount_0f7a4_16 (by decide) ?_
  refine lv_iushr (v := 0) hx hb dJ6_bitCount_0f7a4_17 (by decide) ?_
  refine lv_ldcw hx hb hown (hts _ (List.mem_of_getElem? (i := 2) rfl)) dJ6_bitCount_0f7a4_18 ?_
  refine lv_iand hx hb dJ6_bitCount_0f7a4_21 ?_
  refine pp_ti (y := 0) (by decide) ?_
  refine lv_iadd hx hb dJ6_bitCount_0f7a4_22 ?_
  refine pp_ti (y := 0) (by decide) ?_
  refine lv_istore_n (lv' := [(0, .int 0)]) hx hb dJ6_bitCount_0f7a4_23 rfl hl (by decide) rfl (fun ls hl => ?_)
  refine lv_iload_n hx hb dJ6_bitCount_0f7a4_24 rfl (lv_at hl 0 rfl) ?_
  refine lv_iload_n hx hb dJ6_bitCount_0f7a4_25 rfl (lv_at hl 0 rfl) ?_
  refine lv_iconst (v := 4) hx hb dJ6_bitCount_0f7a4_26 (by decide) ?_
  refine lv_iushr (v := 0) hx hb dJ6_bitCount_0f7a4_27 (by decide) ?_
  refine lv_iadd hx hb dJ6_bitCount_0f7a4_28 ?_
  refine pp_ti (y := 0) (by decide) ?_
  refine lv_ldcw hx hb hown (hts _ (List.mem_of_getElem? (i := 3) rfl)) dJ6_bitCount_0f7a4_29 ?_
  refine lv_iand hx hb dJ6_bitCount_0f7a4_32 ?_
  refine pp_ti (y := 0) (by decide) ?_
  refine lv_istore_n (lv' := [(0, .int 0)]) hx hb dJ6_bitCount_0f7a4_33 rfl hl (by decide) rfl (fun ls hl => ?_)
  refine lv_iload_n hx hb dJ6_bitCount_0f7a4_34 rfl (lv_at hl 0 rfl) ?_
  refine lv_iload_n hx hb dJ6_bitCount_0f7a4_35 rfl (lv_at hl 0 rfl) ?_
  refine lv_bipush (v := 8) hx hb dJ6_bitCount_0f7a4_36 (by decide) ?_
  refine lv_iushr (v := 0) hx hb dJ6_bitCount_0f7a4_38 (by decide) ?_
  refine lv_iadd hx hb dJ6_bitCount_0f7a4_39 ?_
  refine pp_ti (y := 0) (by decide) ?_
  refine lv_istore_n (lv' := [(0, .int 0)]) hx hb dJ6_bitCount_0f7a4_40 rfl hl (by decide) rfl (fun ls hl => ?_)
  refine lv_iload_n hx hb dJ6_bitCount_0f7a4_41 rfl (lv_at hl 0 rfl) ?_
  refine lv_iload_n hx hb dJ6_bitCount_0f7a4_42 rfl (lv_at hl 0 rfl) ?_
  refine lv_bipush (v := 16) hx hb dJ6_bitCount_0f7a4_43 (by decide) ?_
  refine lv_iushr (v := 0) hx hb dJ6_bitCount_0f7a4_45 (by decide) ?_
  refine lv_iadd hx hb dJ6_bitCount_0f7a4_46 ?_
  refine pp_ti (y := 0) (by decide) ?_
  refine lv_istore_n (lv' := [(0, .int 0)]) hx hb dJ6_bitCount_0f7a4_47 rfl hl (by decide) rfl (fun ls hl => ?_)
  refine lv_iload_n hx hb dJ6_bitCount_0f7a4_48 rfl (lv_at hl 0 rfl) ?_
  refine lv_bipush (v := 63) hx hb dJ6_bitCount_0f7a4_49 (by decide) ?_
  refine lv_iand hx hb dJ6_bitCount_0f7a4_51 ?_
  refine pp_ti (y := 0) (by decide) ?_
  exact W.iret (v := 0) hx hb hr (fun t ht hW => ⟨0, rfl, rfl, ht⟩) (fun _ h => absurd h List.not_mem_nil) dJ6_bitCount_0f7a4_52

def w_c_Lbit : List Cond := .code yJ13_bitCount_95d88 cJ13_bitCount_95d88 2 (some .int) :: (([.constantLong RJ13 314 (6148914691236517205), .constantLong RJ13 316 (3689348814741910323), .constantLong RJ13 318 (1085102592571150095)] : List Cond))
set_option maxHeartbeats 4000000 in
set_option maxRecDepth 100000 in
theorem c_Lbit (l : Launch) (dC : Nat → ClassId) (dI : Nat → Nat → Nat) (ad : Nat → Nat) : Met l yJ13_bitCount_95d88 w_c_Lbit ({ frames := 0, cells := 0, slots := 0, locals := 0 } : Room) (va_Pc [.long 0] (preS dC dI ad [] [])) (vp_Si (fun r => (r = 0))) 0 0 (fun _ => False) := by
  refine Met.ofW (cc := cJ13_bitCount_95d88) (maxL := 2) (ret := (some .int)) (by decide) rfl ?_
  intro p e s m args below meth c s₁ B hml hv
  obtain ⟨rfl, hP, hK, hev⟩ := hv
  have hx := B.exec
  have hb := B.bytes
  have hr := B.returns
  have hts := atoms_spec (ws := w_c_Lbit) B.pre
  have hown : s.vm.findClass RJ13 = some m.cls := findClass_of_methodNamed B.named
  have hlocks := B.notSynchronized
  have hP : va_P (dC, dI) vwCl [] s.heap := hP
  have hl := lv_entry ([.long 0]) (n := 2) (Nat.le_of_ble_eq_true rfl)
  rw [lg_entry_eq]
  generalize (lg_sl ([.long 0]) ++ List.replicate (2 - (lg_sl ([.long 0])).length) Slot.unset).toArray = ls at hl ⊢
  have hl : lv_has ls 2 [(0, .long 0)] := hl
  refine lv_lload_n hx hb dJ13_bitCount_95d88_0 rfl (lv_at hl 0 rfl) ?_
  refine lv_lload_n hx hb dJ13_bitCount_95d88_1 rfl (lv_at hl 0 rfl) ?_
  refine lv_iconst (v := 1) hx hb dJ13_bitCount_95d88_2 (by decide) ?_
  refine lv_lushr (v := 0) hx hb dJ13_bitCount_95d88_3 (by decide) ?_
  refine lv_ldc2 hx hb hown (hts _ (List.mem_of_getElem? (i := 1) rfl)) dJ13_bitCount_95d88_4 ?_
  refine lv_land hx hb dJ13_bitCount_95d88_7 ?_
  refine pp_tl (y := 0) (by decide) ?_
  refine lv_lsub hx hb dJ13_bitCount_95d88_8 ?_
  refine pp_tl (y := 0) (by decide) ?_
  refine lv_lstore_n (lv' := [(0, .long 0)]) hx hb dJ13_bitCount_95d88_9 rfl hl (by decide) rfl (fun ls hl => ?_)
  refine lv_lload_n hx hb dJ13_bitCount_95d88_10 rfl (lv_at hl 0 rfl) ?_
  refine lv_ldc2 hx hb hown (hts _ (List.mem_of_getElem? (i := 2) rfl)) dJ13_bitCount_95d88_11 ?_
  refine lv_land hx hb dJ13_bitCount_95d88_14 ?_
  refine pp_tl (y := 0) (by decide) ?_
  refine lv_lload_n hx hb dJ13_bitCount_95d88_15 rfl (lv_at hl 0 rfl) ?_
  refine lv_iconst (v := 2) hx hb dJ13_bitCount_95d88_16 (by decide) ?_
  refine lv_lushr (v := 0) hx hb dJ13_bitCount_95d88_17 (by decide) ?_
  refine lv_ldc2 hx hb hown (hts _ (List.mem_of_getElem? (i := 2) rfl)) dJ13_bitCount_95d88_18 ?_
  refine lv_land hx hb dJ13_bitCount_95d88_21 ?_
  refine pp_tl (y := 0) (by decide) ?_
  refine lv_ladd hx hb dJ13_bitCount_95d88_22 ?_
  refine pp_tl (y := 0) (by decide) ?_
  refine lv_lstore_n (lv' := [(0, .long 0)]) hx hb dJ13_bitCount_95d88_23 rfl hl (by decide) rfl (fun ls hl => ?_)
  refine lv_lload_n hx hb dJ13_bitCount_95d88_24 rfl (lv_at hl 0 rfl) ?_
  refine lv_lload_n hx hb dJ13_bitCount_95d88_25 rfl (lv_at hl 0 rfl) ?_
  refine lv_iconst (v := 4) hx hb dJ13_bitCount_95d88_26 (by decide) ?_
  refine lv_lushr (v := 0) hx hb dJ13_bitCount_95d88_27 (by decide) ?_
  refine lv_ladd hx hb dJ13_bitCount_95d88_28 ?_
  refine pp_tl (y := 0) (by decide) ?_
  refine lv_ldc2 hx hb hown (hts _ (List.mem_of_getElem? (i := 3) rfl)) dJ13_bitCount_95d88_29 ?_
  refine lv_land hx hb dJ13_bitCount_95d88_32 ?_
  refine pp_tl (y := 0) (by decide) ?_
  refine lv_lstore_n (lv' := [(0, .long 0)]) hx hb dJ13_bitCount_95d88_33 rfl hl (by decide) rfl (fun ls hl => ?_)
  refine lv_lload_n hx hb dJ13_bitCount_95d88_34 rfl (lv_at hl 0 rfl) ?_
  refine lv_lload_n hx hb dJ13_bitCount_95d88_35 rfl (lv_at hl 0 rfl) ?_
  refine lv_bipush (v := 8) hx hb dJ13_bitCount_95d88_36 (by decide) ?_
  refine lv_lushr (v := 0) hx hb dJ13_bitCount_95d88_38 (by decide) ?_
  refine lv_ladd hx hb dJ13_bitCount_95d88_39 ?_
  refine pp_tl (y := 0) (by decide) ?_
  refine lv_lstore_n (lv' := [(0, .long 0)]) hx hb dJ13_bitCount_95d88_40 rfl hl (by decide) rfl (fun ls hl => ?_)
  refine lv_lload_n hx hb dJ13_bitCount_95d88_41 rfl (lv_at hl 0 rfl) ?_
  refine lv_lload_n hx hb dJ13_bitCount_95d88_42 rfl (lv_at hl 0 rfl) ?_
  refine lv_bipush (v := 16) hx hb dJ13_bitCount_95d88_43 (by decide) ?_
  refine lv_lushr (v := 0) hx hb dJ13_bitCount_95d88_45 (by decide) ?_
  refine lv_ladd hx hb dJ13_bitCount_95d88_46 ?_
  refine pp_tl (y := 0) (by decide) ?_
  refine lv_lstore_n (lv' := [(0, .long 0)]) hx hb dJ13_bitCount_95d88_47 rfl hl (by decide) rfl (fun ls hl => ?_)
  refine lv_lload_n hx hb dJ13_bitCount_95d88_48 rfl (lv_at hl 0 rfl) ?_
  refine lv_lload_n hx hb dJ13_bitCount_95d88_49 rfl (lv_at hl 0 rfl) ?_
  refine lv_bipush (v := 32) hx hb dJ13_bitCount_95d88_50 (by decide) ?_
  refine lv_lushr (v := 0) hx hb dJ13_bitCount_95d88_52 (by decide) ?_
  refine lv_ladd hx hb dJ13_bitCount_95d88_53 ?_
  refine pp_tl (y := 0) (by decide) ?_
  refine lv_lstore_n (lv' := [(0, .long 0)]) hx hb dJ13_bitCount_95d88_54 rfl hl (by decide) rfl (fun ls hl => ?_)
  refine lv_lload_n hx hb dJ13_bitCount_95d88_55 rfl (lv_at hl 0 rfl) ?_
  refine lv_l2i (v := 0) hx hb dJ13_bitCount_95d88_56 (by decide) ?_
  refine lv_bipush (v := 127) hx hb dJ13_bitCount_95d88_57 (by decide) ?_
  refine lv_iand hx hb dJ13_bitCount_95d88_59 ?_
  refine pp_ti (y := 0) (by decide) ?_
  exact W.iret (v := 0) hx hb hr (fun t ht hW => ⟨0, rfl, rfl, ht⟩) (fun _ h => absurd h List.not_mem_nil) dJ13_bitCount_95d88_60

