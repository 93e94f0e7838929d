def w_c_X6_init : List Cond := .code yX6_init cX6_init 2 none :: (([.methodLink RX6 3 objectInit, .instanceMethod objectInit, .code objectInit ⟨#[0xb1]⟩ 1 none, .fieldLink RX6 9 "LampShapes$Stage" "shapes" "I", .arrayClass .int, .fieldLink RX6 15 "LampShapes$Stage" "kinds" "[I", .fieldLink RX6 19 "LampShapes$Stage" "points" "[I", .fieldLink RX6 22 "LampShapes$Stage" "tornShapes" "I", .fieldLink RX6 25 "LampShapes$Stage" "heldShapes" "[I", .fieldLink RX6 28 "LampShapes$Stage" "heldPlacings" "[I", .fieldLink RX6 31 "LampShapes$Stage" "scenes" "I", .arrayClass .long, .fieldLink RX6 34 "LampShapes$Stage" "pictures" "[J", .fieldLink RX6 38 "LampShapes$Stage" "allowed" "I"] : List Cond) ++ wsX60)
set_option maxHeartbeats 4000000 in
set_option maxRecDepth 100000 in
/-- Stage(): nothing there -/
theorem c_X6_init (l : Launch) (dC : Nat → ClassId) (dI : Nat → Nat → Nat) (ad : Nat → Nat) (h0 : Nat) (sz : Nat) : Met l yX6_init w_c_X6_init ({ frames := 1, cells := 5, slots := 33, locals := 12 } : Room) (va_Pc [.ref h0] (preM dC dI ad [] [(h0, .inr (4, [.int 0, .null, .null, .int 0, .null, .null, .int 0, .null, .int 0]))] sz)) (va_Qv (fun (_ : Unit) => True) (fun _ t => ∃ (k0 : Nat), ∃ (k1 : Nat), ∃ (k2 : Nat), ∃ (k3 : Nat), ∃ (k4 : Nat), ∃ (kc0 : ClassId), ∃ (kc1 : ClassId), ∃ (kc2 : ClassId), ∃ (kc3 : ClassId), ∃ (kc4 : ClassId), ∃ (kf : Nat → Int32), ∃ (kg : Nat → Int32), (∀ j, j < 4 → kf j = (-1)) ∧ (∀ j, j < 4 → kg j = (-1)) ∧ va_P (dC, dI) vwCl [(h0, .inr (4, [.int 0, .ref k0, .ref k1, .int 0, .ref k2, .ref k3, .int 0, .ref k4, .int 63])), (k0, .inl (kc0, 9, .inl (fun _ => 0))), (k1, .inl (kc1, 9, .inl (fun _ => 0))), (k2, .inl (kc2, 4, .inl kf)), (k3, .inl (kc3, 4, .inl kg)), (k4, .inl (kc4, 7, .inr (.inl (fun _ => 0))))] t.heap ∧ va_K (dC, dI) vwCl [(kc0, .int), (kc1, .int), (kc2, .int), (kc3, .int), (kc4, .long)] t ∧ va_D (va_A [(h0, .inr (4, [.int 0, .null, .null, .int 0, .null, .null, .int 0, .null, .int 0]))] sz) [(h0, .inr (4, [.int 0, .ref k0, .ref k1, .int 0, .ref k2, .ref k3, .int 0, .ref k4, .int 63])), (k0, .inl (kc0, 9, .inl (fun _ => 0))), (k1, .inl (kc1, 9, .inl (fun _ => 0))), (k2, .inl (kc2, 4, .inl kf)), (k3, .inl (kc3, 4, .inl kg)), (k4, .inl (kc4, 7, .inr (.inl (fun _ => 0))))]) (va_A [(h0, .inr (4, [.int 0, .null, .null, .int 0, .null, .null, .int 0, .null, .int 0]))] sz)) 5 33 (va_A [(h0, .inr (4, [.int 0, .null, .null, .int 0, .null, .null, .int 0, .null, .int 0]))] sz) := by
  refine Met.ofW (cc := cX6_init) (maxL := 2) (ret := none) (by decide) rfl ?_
  intro p e s m args below meth c s₁ B hml hv
  obtain ⟨rfl, hsz, hP, hK, hD0, hev⟩ := hv
  have hx := B.exec
  have hb := B.bytes
  have hr := B.returns
  have hts := atoms_spec (ws := w_c_X6_init) B.pre
  have hown : s.vm.findClass RX6 = some m.cls := findClass_of_methodNamed B.named
  have hlocks := B.notSynchronized
  have hin : meth.name = "<init>" := (name_of_methodNamed B.named B.method).1
  have inX6 : ∀ w ∈ wsX60, w ∈ w_c_X6_init := fun w h => List.mem_cons_of_mem _ (List.mem_append_right _ h)
  subst hsz
  have hD := hD0.self (sz := s.heap.size)
  generalize hAe : va_A [(h0, .inr (4, [.int 0, .null, .null, .int 0, .null, .null, .int 0, .null, .int 0]))] s.heap.size = A at hD ⊢
  have hA : ∀ q : Nat, s.heap.size ≤ q → A q := fun q h => by rw [← hAe]; exact Or.inr h
  have hS : va_S A s.heap s.heap [] := va_S.rf
  have hP : va_P (dC, dI) vwCl [(h0, .inr (4, [.int 0, .null, .null, .int 0, .null, .null, .int 0, .null, .int 0]))] s.heap := hP
  have hl := lv_entry ([.ref h0]) (n := 2) (Nat.le_of_ble_eq_true rfl)
  rw [lg_entry_eq]
  generalize (lg_sl ([.ref h0]) ++ List.replicate (2 - (lg_sl ([.ref h0])).length) Slot.unset).toArray = ls at hl ⊢
  have hl : lv_has ls 2 [(0, .ref h0)] := hl
  refine lv_aload_n hx hb dX6_init_0 rfl (lv_at hl 0 rfl) ?_
  refine W.objInit hx hb hown (hts _ (List.mem_of_getElem? (i := 1) rfl)) (hts _ (List.mem_of_getElem? (i := 2) rfl)) (hts _ (List.mem_of_getElem? (i := 3) rfl)) rfl (by rw [hml]; exact hl.1) rfl dX6_init_1 (Nat.le_of_ble_eq_true rfl) (Nat.le_of_ble_eq_true rfl) ?_
  refine W.eq (g2 := F0 m 4 ls []) rfl ?_
  refine lv_aload_n hx hb dX6_init_4 rfl (lv_at hl 0 rfl) ?_
  refine lv_iconst (v := 0) hx hb dX6_init_5 (by decide) ?_
  refine va_put (D := (dC, dI)) (ci := 4) (v := .int 0) (ty := .int) (C := RX6) (T := TX6) (N := 9) hx hb hts inX6 tyX6 tyX6_ok nmX6 hown hK hP hD hS 0 rfl rfl 0 (by decide) (hts _ (List.mem_of_getElem? (i := 4) rfl)) (fun _ h9 => h9) rfl (by decide +kernel) rfl rfl (Nat.le_of_ble_eq_true rfl) dX6_init_6 (fun H locs hP hD hS => ?_)
  have hP : va_P (dC, dI) vwCl [(h0, .inr (4, [.int 0, .null, .null, .int 0, .null, .null, .int 0, .null, .int 0]))] H := hP
  have hD : va_D A [(h0, .inr (4, [.int 0, .null, .null, .int 0, .null, .null, .int 0, .null, .int 0]))] := hD
  refine lv_aload_n hx hb dX6_init_9 rfl (lv_at hl 0 rfl) ?_
  refine lv_bipush (v := 9) hx hb dX6_init_10 (by decide) ?_
  refine va_newa (atype := .int) (ty := .int) (N' := 9) (a0 := (9, .inl (fun _ => 0))) hx hb (hts _ (List.mem_of_getElem? (i := 5) rfl)) rfl hK hP hD hS hA (fun _ => rfl) (by decide) (by decide) (Nat.le_of_ble_eq_true rfl) (Nat.le_of_ble_eq_true rfl) (Nat.le_of_ble_eq_true rfl) dX6_init_12 (fun q_1 cA_2 H hK hP hD hS => ?_)
  refine W.widen (k := 1) (n := 9) (Nat.le_of_ble_eq_true rfl) (Nat.le_of_ble_eq_true rfl) ?_
  have hP : va_P (dC, dI) vwCl [(h0, .inr (4, [.int 0, .null, .null, .int 0, .null, .null, .int 0, .null, .int 0])), (q_1, .inl (cA_2, 9, .inl (fun _ => 0)))] H := hP
  have hD : va_D A [(h0, .inr (4, [.int 0, .null, .null, .int 0, .null, .null, .int 0, .null, .int 0])), (q_1, .inl (cA_2, 9, .inl (fun _ => 0)))] := hD
  have hK : va_K (dC, dI) vwCl [(cA_2, .int)] s := hK
  refine va_putF (D := (dC, dI)) (ci := 4) (v := .ref q_1) (ty := (.array .int)) (C := RX6) (T := TX6) (N := 9) hx hb hts inX6 tyX6 tyX6_ok nmX6 hown hK hP hD hS 0 rfl rfl 1 (by decide) (hts _ (List.mem_of_getElem? (i := 6) rfl)) (fun _ h9 => h9) rfl hin rfl (by decide +kernel) rfl rfl (Nat.le_of_ble_eq_true rfl) dX6_init_14 (fun H locs hP hD hS => ?_)
  have hP : va_P (dC, dI) vwCl [(h0, .inr (4, [.int 0, .ref q_1, .null, .int 0, .null, .null, .int 0, .null, .int 0])), (q_1, .inl (cA_2, 9, .inl (fun _ => 0)))] H := hP
  have hD : va_D A [(h0, .inr (4, [.int 0, .ref q_1, .null, .int 0, .null, .null, .int 0, .null, .int 0])), (q_1, .inl (cA_2, 9, .inl (fun _ => 0)))] := hD
  refine lv_aload_n hx hb dX6_init_17 rfl (lv_at hl 0 rfl) ?_
  refine lv_bipush (v := 9) hx hb dX6_init_18 (by decide) ?_
  refine va_newa (atype := .int) (ty := .int) (N' := 9) (a0 := (9, .inl (fun _ => 0))) hx hb (hts _ (List.mem_of_getElem? (i := 5) rfl)) rfl hK hP hD hS hA (fun _ => rfl) (by decide) (by decide) (Nat.le_of_ble_eq_true rfl) (Nat.le_of_ble_eq_true rfl) (Nat.le_of_ble_eq_true rfl) dX6_init_20 (fun q_3 cA_4 H hK hP hD hS => ?_)
  refine W.widen (k := 2) (n := 18) (Nat.le_of_ble_eq_true rfl) (Nat.le_of_ble_eq_true rfl) ?_
  have hP : va_P (dC, dI) vwCl [(h0, .inr (4, [.int 0, .ref q_1, .null, .int 0, .null, .null, .int 0, .null, .int 0])), (q_1, .inl (cA_2, 9, .inl (fun _ => 0))), (q_3, .inl (cA_4, 9, .inl (fun _ => 0)))] H := hP
  have hD : va_D A [(h0, .inr (4, [.int 0, .ref q_1, .null, .int 0, .null, .null, .int 0, .null, .int 0])), (q_1, .inl (cA_2, 9, .inl (fun _ => 0))), (q_3, .inl (cA_4, 9, .inl (fun _ => 0)))] := hD
  have hK : va_K (dC, dI) vwCl [(cA_2, .int), (cA_4, .int)] s := hK
  refine va_putF (D := (dC, dI)) (ci := 4) (v := .ref q_3) (ty := (.array .int)) (C := RX6) (T := TX6) (N := 9) hx hb hts inX6 tyX6 tyX6_ok nmX6 hown hK hP hD hS 0 rfl rfl 2 (by decide) (hts _ (List.mem_of_getElem? (i := 7) rfl)) (fun _ h9 => h9) rfl hin rfl (by decide +kernel) rfl rfl (Nat.le_of_ble_eq_true rfl) dX6_init_22 (fun H locs hP hD hS => ?_)
  have hP : va_P (dC, dI) vwCl [(h0, .inr (4, [.int 0, .ref q_1, .ref q_3, .int 0, .null, .null, .int 0, .null, .int 0])), (q_1, .inl (cA_2, 9, .inl (fun _ => 0))), (q_3, .inl (cA_4, 9, .inl (fun _ => 0)))] H := hP
  have hD : va_D A [(h0, .inr (4, [.int 0, .ref q_1, .ref q_3, .int 0, .null, .null, .int 0, .null, .int 0])), (q_1, .inl (cA_2, 9, .inl (fun _ => 0))), (q_3, .inl (cA_4, 9, .inl (fun _ => 0)))] := hD
  refine lv_aload_n hx hb dX6_init_25 rfl (lv_at hl 0 rfl) ?_
  refine lv_iconst (v := 0) hx hb dX6_init_26 (by decide) ?_
  refine va_put (D := (dC, dI)) (ci := 4) (v := .int 0) (ty := .int) (C := RX6) (T := TX6) (N := 9) hx hb hts inX6 tyX6 tyX6_ok nmX6 hown hK hP hD hS 0 rfl rfl 3 (by decide) (hts _ (List.mem_of_getElem? (i := 8) rfl)) (fun _ h9 => h9) rfl (by decide +kernel) rfl rfl (Nat.le_of_ble_eq_true rfl) dX6_init_27 (fun H locs hP hD hS => ?_)
  have hP : va_P (dC, dI) vwCl [(h0, .inr (4, [.int 0, .ref q_1, .ref q_3, .int 0, .null, .null, .int 0, .null, .int 0])), (q_1, .inl (cA_2, 9, .inl (fun _ => 0))), (q_3, .inl (cA_4, 9, .inl (fun _ => 0)))] H := hP
  have hD : va_D A [(h0, .inr (4, [.int 0, .ref q_1, .ref q_3, .int 0, .null, .null, .int 0, .null, .int 0])), (q_1, .inl (cA_2, 9, .inl (fun _ => 0))), (q_3, .inl (cA_4, 9, .inl (fun _ => 0)))] := hD
  refine lv_aload_n hx hb dX6_init_30 rfl (lv_at hl 0 rfl) ?_
  refine lv_iconst (v := 4) hx hb dX6_init_31 (by decide) ?_
  refine va_newa (atype := .int) (ty := .int) (N' := 4) (a0 := (4, .inl (fun _ => 0))) hx hb (hts _ (List.mem_of_getElem? (i := 5) rfl)) rfl hK hP hD hS hA (fun _ => rfl) (by decide) (by decide) (Nat.le_of_ble_eq_true rfl) (Nat.le_of_ble_eq_true rfl) (Nat.le_of_ble_eq_true rfl) dX6_init_32 (fun q_5 cA_6 H hK hP hD hS => ?_)
  refine W.widen (k := 3) (n := 22) (Nat.le_of_ble_eq_true rfl) (Nat.le_of_ble_eq_true rfl) ?_
  have hP : va_P (dC, dI) vwCl [(h0, .inr (4, [.int 0, .ref q_1, .ref q_3, .int 0, .null, .null, .int 0, .null, .int 0])), (q_1, .inl (cA_2, 9, .inl (fun _ => 0))), (q_3, .inl (cA_4, 9, .inl (fun _ => 0))), (q_5, .inl (cA_6, 4, .inl (fun _ => 0)))] H := hP
  have hD : va_D A [(h0, .inr (4, [.int 0, .ref q_1, .ref q_3, .int 0, .null, .null, .int 0, .null, .int 0])), (q_1, .inl (cA_2, 9, .inl (fun _ => 0))), (q_3, .inl (cA_4, 9, .inl (fun _ => 0))), (q_5, .inl (cA_6, 4, .inl (fun _ => 0)))] := hD
  have hK : va_K (dC, dI) vwCl [(cA_2, .int), (cA_4, .int), (cA_6, .int)] s := hK
  refine va_putF (D := (dC, dI)) (ci := 4) (v := .ref q_5) (ty := (.array .int)) (C := RX6) (T := TX6) (N := 9) hx hb hts inX6 tyX6 tyX6_ok nmX6 hown hK hP hD hS 0 rfl rfl 4 (by decide) (hts _ (List.mem_of_getElem? (i := 9) rfl)) (fun _ h9 => h9) rfl hin rfl (by decide +kernel) rfl rfl (Nat.le_of_ble_eq_true rfl) dX6_init_34 (fun H locs hP hD hS => ?_)
  have hP : va_P (dC, dI) vwCl [(h0, .inr (4, [.int 0, .ref q_1, .ref q_3, .int 0, .ref q_5, .null, .int 0, .null, .int 0])), (q_1, .inl (cA_2, 9, .inl (fun _ => 0))), (q_3, .inl (cA_4, 9, .inl (fun _ => 0))), (q_5, .inl (cA_6, 4, .inl (fun _ => 0)))] H := hP
  have hD : va_D A [(h0, .inr (4, [.int 0, .ref q_1, .ref q_3, .int 0, .ref q_5, .null, .int 0, .null, .int 0])), (q_1, .inl (cA_2, 9, .inl (fun _ => 0))), (q_3, .inl (cA_4, 9, .inl (fun _ => 0))), (q_5, .inl (cA_6, 4, .inl (fun _ => 0)))] := hD
  refine lv_aload_n hx hb dX6_init_37 rfl (lv_at hl 0 rfl) ?_
  refine lv_iconst (v := 4) hx hb dX6_init_38 (by decide) ?_
  refine va_newa (atype := .int) (ty := .int) (N' := 4) (a0 := (4, .inl (fun _ => 0))) hx hb (hts _ (List.mem_of_getElem? (i := 5) rfl)) rfl hK hP hD hS hA (fun _ => rfl) (by decide) (by decide) (Nat.le_of_ble_eq_true rfl) (Nat.le_of_ble_eq_true rfl) (Nat.le_of_ble_eq_true rfl) dX6_init_39 (fun q_7 cA_8 H hK hP hD hS => ?_)
  refine W.widen (k := 4) (n := 26) (Nat.le_of_ble_eq_true rfl) (Nat.le_of_ble_eq_true rfl) ?_
  have hP : va_P (dC, dI) vwCl [(h0, .inr (4, [.int 0, .ref q_1, .ref q_3, .int 0, .ref q_5, .null, .int 0, .null, .int 0])), (q_1, .inl (cA_2, 9, .inl (fun _ => 0))), (q_3, .inl (cA_4, 9, .inl (fun _ => 0))), (q_5, .inl (cA_6, 4, .inl (fun _ => 0))), (q_7, .inl (cA_8, 4, .inl (fun _ => 0)))] H := hP
  have hD : va_D A [(h0, .inr (4, [.int 0, .ref q_1, .ref q_3, .int 0, .ref q_5, .null, .int 0, .null, .int 0])), (q_1, .inl (cA_2, 9, .inl (fun _ => 0))), (q_3, .inl (cA_4, 9, .inl (fun _ => 0))), (q_5, .inl (cA_6, 4, .inl (fun _ => 0))), (q_7, .inl (cA_8, 4, .inl (fun _ => 0)))] := hD
  have hK : va_K (dC, dI) vwCl [(cA_2, .int), (cA_4, .int), (cA_6, .int), (cA_8, .int)] s := hK
  refine va_putF (D := (dC, dI)) (ci := 4) (v := .ref q_7) (ty := (.array .int)) (C := RX6) (T := TX6) (N := 9) hx hb hts inX6 tyX6 tyX6_ok nmX6 hown hK hP hD hS 0 rfl rfl 5 (by decide) (hts _ (List.mem_of_getElem? (i := 10) rfl)) (fun _ h9 => h9) rfl hin rfl (by decide +kernel) rfl rfl (Nat.le_of_ble_eq_true rfl) dX6_init_41 (fun H locs hP hD hS => ?_)
  have hP : va_P (dC, dI) vwCl [(h0, .inr (4, [.int 0, .ref q_1, .ref q_3, .int 0, .ref q_5, .ref q_7, .int 0, .null, .int 0])), (q_1, .inl (cA_2, 9, .inl (fun _ => 0))), (q_3, .inl (cA_4, 9, .inl (fun _ => 0))), (q_5, .inl (cA_6, 4, .inl (fun _ => 0))), (q_7, .inl (cA_8, 4, .inl (fun _ => 0)))] H := hP
  have hD : va_D A [(h0, .inr (4, [.int 0, .ref q_1, .ref q_3, .int 0, .ref q_5, .ref q_7, .int 0, .null, .int 0])), (q_1, .inl (cA_2, 9, .inl (fun _ => 0))), (q_3, .inl (cA_4, 9, .inl (fun _ => 0))), (q_5, .inl (cA_6, 4, .inl (fun _ => 0))), (q_7, .inl (cA_8, 4, .inl (fun _ => 0)))] := hD
  refine lv_aload_n hx hb dX6_init_44 rfl (lv_at hl 0 rfl) ?_
  refine lv_iconst (v := 0) hx hb dX6_init_45 (by decide) ?_
  refine va_put (D := (dC, dI)) (ci := 4) (v := .int 0) (ty := .int) (C := RX6) (T := TX6) (N := 9) hx hb hts inX6 tyX6 tyX6_ok nmX6 hown hK hP hD hS 0 rfl rfl 6 (by decide) (hts _ (List.mem_of_getElem? (i := 11) rfl)) (fun _ h9 => h9) rfl (by decide +kernel) rfl rfl (Nat.le_of_ble_eq_true rfl) dX6_init_46 (fun H locs hP hD hS => ?_)
  have hP : va_P (dC, dI) vwCl [(h0, .inr (4, [.int 0, .ref q_1, .ref q_3, .int 0, .ref q_5, .ref q_7, .int 0, .null, .int 0])), (q_1, .inl (cA_2, 9, .inl (fun _ => 0))), (q_3, .inl (cA_4, 9, .inl (fun _ => 0))), (q_5, .inl (cA_6, 4, .inl (fun _ => 0))), (q_7, .inl (cA_8, 4, .inl (fun _ => 0)))] H := hP
  have hD : va_D A [(h0, .inr (4, [.int 0, .ref q_1, .ref q_3, .int 0, .ref q_5, .ref q_7, .int 0, .null, .int 0])), (q_1, .inl (cA_2, 9, .inl (fun _ => 0))), (q_3, .inl (cA_4, 9, .inl (fun _ => 0))), (q_5, .inl (cA_6, 4, .inl (fun _ => 0))), (q_7, .inl (cA_8, 4, .inl (fun _ => 0)))] := hD
  refine lv_aload_n hx hb dX6_init_49 rfl (lv_at hl 0 rfl) ?_
  refine lv_bipush (v := 7) hx hb dX6_init_50 (by decide) ?_
  refine va_newa (atype := .long) (ty := .long) (N' := 7) (a0 := (7, .inr (.inl (fun _ => 0)))) hx hb (hts _ (List.mem_of_getElem? (i := 12) rfl)) rfl hK hP hD hS hA (fun _ => rfl) (by decide) (by decide) (Nat.le_of_ble_eq_true rfl) (Nat.le_of_ble_eq_true rfl) (Nat.le_of_ble_eq_true rfl) dX6_init_52 (fun q_9 cA_10 H hK hP hD hS => ?_)
  refine W.widen (k := 5) (n := 33) (Nat.le_of_ble_eq_true rfl) (Nat.le_of_ble_eq_true rfl) ?_
  have hP : va_P (dC, dI) vwCl [(h0, .inr (4, [.int 0, .ref q_1, .ref q_3, .int 0, .ref q_5, .ref q_7, .int 0, .null, .int 0])), (q_1, .inl (cA_2, 9, .inl (fun _ => 0))), (q_3, .inl (cA_4, 9, .inl (fun _ => 0))), (q_5, .inl (cA_6, 4, .inl (fun _ => 0))), (q_7, .inl (cA_8, 4, .inl (fun _ => 0))), (q_9, .inl (cA_10, 7, .inr (.inl (fun _ => 0))))] H := hP
  have hD : va_D A [(h0, .inr (4, [.int 0, .ref q_1, .ref q_3, .int 0, .ref q_5, .ref q_7, .int 0, .null, .int 0])), (q_1, .inl (cA_2, 9, .inl (fun _ => 0))), (q_3, .inl (cA_4, 9, .inl (fun _ => 0))), (q_5, .inl (cA_6, 4, .inl (fun _ => 0))), (q_7, .inl (cA_8, 4, .inl (fun _ => 0))), (q_9, .inl (cA_10, 7, .inr (.inl (fun _ => 0))))] := hD
  have hK : va_K (dC, dI) vwCl [(cA_2, .int), (cA_4, .int), (cA_6, .int), (cA_8, .int), (cA_10, .long)] s := hK
  refine va_putF (D := (dC, dI)) (ci := 4) (v := .ref q_9) (ty := (.array .long)) (C := RX6) (T := TX6) (N := 9) hx hb hts inX6 tyX6 tyX6_ok nmX6 hown hK hP hD hS 0 rfl rfl 7 (by decide) (hts _ (List.mem_of_getElem? (i := 13) rfl)) (fun _ h9 => h9) rfl hin rfl (by decide +kernel) rfl rfl (Nat.le_of_ble_eq_true rfl) dX6_init_54 (fun H locs hP hD hS => ?_)
  have hP : va_P (dC, dI) vwCl [(h0, .inr (4, [.int 0, .ref q_1, .ref q_3, .int 0, .ref q_5, .ref q_7, .int 0, .ref q_9, .int 0])), (q_1, .inl (cA_2, 9, .inl (fun _ => 0))), (q_3, .inl (cA_4, 9, .inl (fun _ => 0))), (q_5, .inl (cA_6, 4, .inl (fun _ => 0))), (q_7, .inl (cA_8, 4, .inl (fun _ => 0))), (q_9, .inl (cA_10, 7, .inr (.inl (fun _ => 0))))] H := hP
  have hD : va_D A [(h0, .inr (4, [.int 0, .ref q_1, .ref q_3, .int 0, .ref q_5, .ref q_7, .int 0, .ref q_9, .int 0])), (q_1, .inl (cA_2, 9, .inl (fun _ => 0))), (q_3, .inl (cA_4, 9, .inl (fun _ => 0))), (q_5, .inl (cA_6, 4, .inl (fun _ => 0))), (q_7, .inl (cA_8, 4, .inl (fun _ => 0))), (q_9, .inl (cA_10, 7, .inr (.inl (fun _ => 0))))] := hD
  refine lv_aload_n hx hb dX6_init_57 rfl (lv_at hl 0 rfl) ?_
  refine lv_bipush (v := 63) hx hb dX6_init_58 (by decide) ?_
  refine va_put (D := (dC, dI)) (ci := 4) (v := .int 63) (ty := .int) (C := RX6) (T := TX6) (N := 9) hx hb hts inX6 tyX6 tyX6_ok nmX6 hown hK hP hD hS 0 rfl rfl 8 (by decide) (hts _ (List.mem_of_getElem? (i := 14) rfl)) (fun _ h9 => h9) rfl (by decide +kernel) rfl rfl (Nat.le_of_ble_eq_true rfl) dX6_init_60 (fun H locs hP hD hS => ?_)
  have hP : va_P (dC, dI) vwCl [(h0, .inr (4, [.int 0, .ref q_1, .ref q_3, .int 0, .ref q_5, .ref q_7, .int 0, .ref q_9, .int 63])), (q_1, .inl (cA_2, 9, .inl (fun _ => 0))), (q_3, .inl (cA_4, 9, .inl (fun _ => 0))), (q_5, .inl (cA_6, 4, .inl (fun _ => 0))), (q_7, .inl (cA_8, 4, .inl (fun _ => 0))), (q_9, .inl (cA_10, 7, .inr (.inl (fun _ => 0))))] H := hP
  have hD : va_D A [(h0, .inr (4, [.int 0, .ref q_1, .ref q_3, .int 0, .ref q_5, .ref q_7, .int 0, .ref q_9, .int 63])), (q_1, .inl (cA_2, 9, .inl (fun _ => 0))), (q_3, .inl (cA_4, 9, .inl (fun _ => 0))), (q_5, .inl (cA_6, 4, .inl (fun _ => 0))), (q_7, .inl (cA_8, 4, .inl (fun _ => 0))), (q_9, .inl (cA_10, 7, .inr (.inl (fun _ => 0))))] := hD
  refine lv_iconst (v := 0) hx hb dX6_init_63 (by decide) ?_
  refine lv_istore_n (lv' := [(1, .int 0), (0, .ref h0)]) hx hb dX6_init_64 rfl hl (by decide) rfl (fun ls hl => ?_)
  refine lv_iload_n hx hb dX6_init_65 rfl (lv_at hl 0 rfl) ?_
  refine lv_iconst (v := 4) hx hb dX6_init_66 (by decide) ?_
  refine lv_icmp_ge (tgt := 90) hx hb dX6_init_67 (by decide) (fun c => absurd c (by decide)) (fun _ => ?_)
  refine lv_aload_n hx hb dX6_init_70 rfl (lv_at hl 1 rfl) ?_
  refine va_get (D := (dC, dI)) (ci := 4) (v := .ref q_5) (C := RX6) (T := TX6) (N := 9) hx hb hts inX6 hown hK hP 0 rfl rfl 4 (by decide) (hts _ (List.mem_of_getElem? (i := 9) rfl)) (fun _ h9 => h9) rfl dX6_init_71 ?_
  refine lv_iload_n hx hb dX6_init_74 rfl (lv_at hl 0 rfl) ?_
  refine lv_iconst (v := (-1)) hx hb dX6_init_75 (by decide) ?_
  refine va_iast hx hb hK hP hD hS 3 2 rfl rfl (vp_in_nI (n := 0) (by decide) (by decide)) dX6_init_76 (fun H locs hP hD hS => ?_)
  have hP : va_P (dC, dI) vwCl [(h0, .inr (4, [.int 0, .ref q_1, .ref q_3, .int 0, .ref q_5, .ref q_7, .int 0, .ref q_9, .int 63])), (q_1, .inl (cA_2, 9, .inl (fun _ => 0))), (q_3, .inl (cA_4, 9, .inl (fun _ => 0))), (q_5, .inl (cA_6, 4, .inl (upd (fun _ => 0) 0 (-1)))), (q_7, .inl (cA_8, 4, .inl (fun _ => 0))), (q_9, .inl (cA_10, 7, .inr (.inl (fun _ => 0))))] H := hP
  have hD : va_D A [(h0, .inr (4, [.int 0, .ref q_1, .ref q_3, .int 0, .ref q_5, .ref q_7, .int 0, .ref q_9, .int 63])), (q_1, .inl (cA_2, 9, .inl (fun _ => 0))), (q_3, .inl (cA_4, 9, .inl (fun _ => 0))), (q_5, .inl (cA_6, 4, .inl (upd (fun _ => 0) 0 (-1)))), (q_7, .inl (cA_8, 4, .inl (fun _ => 0))), (q_9, .inl (cA_10, 7, .inr (.inl (fun _ => 0))))] := hD
  refine lv_aload_n hx hb dX6_init_77 rfl (lv_at hl 1 rfl) ?_
  refine va_get (D := (dC, dI)) (ci := 4) (v := .ref q_7) (C := RX6) (T := TX6) (N := 9) hx hb hts inX6 hown hK hP 0 rfl rfl 5 (by decide) (hts _ (List.mem_of_getElem? (i := 10) rfl)) (fun _ h9 => h9) rfl dX6_init_78 ?_
  refine lv_iload_n hx hb dX6_init_81 rfl (lv_at hl 0 rfl) ?_
  refine lv_iconst (v := (-1)) hx hb dX6_init_82 (by decide) ?_
  refine va_iast hx hb hK hP hD hS 4 3 rfl rfl (vp_in_nI (n := 0) (by decide) (by decide)) dX6_init_83 (fun H locs hP hD hS => ?_)
  have hP : va_P (dC, dI) vwCl [(h0, .inr (4, [.int 0, .ref q_1, .ref q_3, .int 0, .ref q_5, .ref q_7, .int 0, .ref q_9, .int 63])), (q_1, .inl (cA_2, 9, .inl (fun _ => 0))), (q_3, .inl (cA_4, 9, .inl (fun _ => 0))), (q_5, .inl (cA_6, 4, .inl (upd (fun _ => 0) 0 (-1)))), (q_7, .inl (cA_8, 4, .inl (upd (fun _ => 0) 0 (-1)))), (q_9, .inl (cA_10, 7, .inr (.inl (fun _ => 0))))] H := hP
  have hD : va_D A [(h0, .inr (4, [.int 0, .ref q_1, .ref q_3, .int 0, .ref q_5, .ref q_7, .int 0, .ref q_9, .int 63])), (q_1, .inl (cA_2, 9, .inl (fun _ => 0))), (q_3, .inl (cA_4, 9, .inl (fun _ => 0))), (q_5, .inl (cA_6, 4, .inl (upd (fun _ => 0) 0 (-1)))), (q_7, .inl (cA_8, 4, .inl (upd (fun _ => 0) 0 (-1)))), (q_9, .inl (cA_10, 7, .inr (.inl (fun _ => 0))))] := hD
  refine lv_iinc (v := 1) (lv' := [(1, .int 1), (0, .ref h0)]) hx hb dX6_init_84 hl (k := 0) rfl (by decide) (by decide) rfl (fun ls hl => ?_)
  refine lv_goto (tgt := 65) hx hb dX6_init_87 (by decide) ?_
  refine lv_iload_n hx hb dX6_init_65 rfl (lv_at hl 0 rfl) ?_
  refine lv_iconst (v := 4) hx hb dX6_init_66 (by decide) ?_
  refine lv_icmp_ge (tgt := 90) hx hb dX6_init_67 (by decide) (fun c => absurd c (by decide)) (fun _ => ?_)
  refine lv_aload_n hx hb dX6_init_70 rfl (lv_at hl 1 rfl) ?_
  refine va_get (D := (dC, dI)) (ci := 4) (v := .ref q_5) (C := RX6) (T := TX6) (N := 9) hx hb hts inX6 hown hK hP 0 rfl rfl 4 (by decide) (hts _ (List.mem_of_getElem? (i := 9) rfl)) (fun _ h9 => h9) rfl dX6_init_71 ?_
  refine lv_iload_n hx hb dX6_init_74 rfl (lv_at hl 0 rfl) ?_
  refine lv_iconst (v := (-1)) hx hb dX6_init_75 (by decide) ?_
  refine va_iast hx hb hK hP hD hS 3 2 rfl rfl (vp_in_nI (n := 1) (by decide) (by decide)) dX6_init_76 (fun H locs hP hD hS => ?_)
  have hP : va_P (dC, dI) vwCl [(h0, .inr (4, [.int 0, .ref q_1, .ref q_3, .int 0, .ref q_5, .ref q_7, .int 0, .ref q_9, .int 63])), (q_1, .inl (cA_2, 9, .inl (fun _ => 0))), (q_3, .inl (cA_4, 9, .inl (fun _ => 0))), (q_5, .inl (cA_6, 4, .inl (upd (upd (fun _ => 0) 0 (-1)) 1 (-1)))), (q_7, .inl (cA_8, 4, .inl (upd (fun _ => 0) 0 (-1)))), (q_9, .inl (cA_10, 7, .inr (.inl (fun _ => 0))))] H := hP
  have hD : va_D A [(h0, .inr (4, [.int 0, .ref q_1, .ref q_3, .int 0, .ref q_5, .ref q_7, .int 0, .ref q_9, .int 63])), (q_1, .inl (cA_2, 9, .inl (fun _ => 0))), (q_3, .inl (cA_4, 9, .inl (fun _ => 0))), (q_5, .inl (cA_6, 4, .inl (upd (upd (fun _ => 0) 0 (-1)) 1 (-1)))), (q_7, .inl (cA_8, 4, .inl (upd (fun _ => 0) 0 (-1)))), (q_9, .inl (cA_10, 7, .inr (.inl (fun _ => 0))))] := hD
  refine lv_aload_n hx hb dX6_init_77 rfl (lv_at hl 1 rfl) ?_
  refine va_get (D := (dC, dI)) (ci := 4) (v := .ref q_7) (C := RX6) (T := TX6) (N := 9) hx hb hts inX6 hown hK hP 0 rfl rfl 5 (by decide) (hts _ (List.mem_of_getElem? (i := 10) rfl)) (fun _ h9 => h9) rfl dX6_init_78 ?_
  refine lv_iload_n hx hb dX6_init_81 rfl (lv_at hl 0 rfl) ?_
  refine lv_iconst (v := (-1)) hx hb dX6_init_82 (by decide) ?_
  refine va_iast hx hb hK hP hD hS 4 3 rfl rfl (vp_in_nI (n := 1) (by decide) (by decide)) dX6_init_83 (fun H locs hP hD hS => ?_)
  have hP : va_P (dC, dI) vwCl [(h0, .inr (4, [.int 0, .ref q_1, .ref q_3, .int 0, .ref q_5, .ref q_7, .int 0, .ref q_9, .int 63])), (q_1, .inl (cA_2, 9, .inl (fun _ => 0))), (q_3, .inl (cA_4, 9, .inl (fun _ => 0))), (q_5, .inl (cA_6, 4, .inl (upd (upd (fun _ => 0) 0 (-1)) 1 (-1)))), (q_7, .inl (cA_8, 4, .inl (upd (upd (fun _ => 0) 0 (-1)) 1 (-1)))), (q_9, .inl (cA_10, 7, .inr (.inl (fun _ => 0))))] H := hP
  have hD : va_D A [(h0, .inr (4, [.int 0, .ref q_1, .ref q_3, .int 0, .ref q_5, .ref q_7, .int 0, .ref q_9, .int 63])), (q_1, .inl (cA_2, 9, .inl (fun _ => 0))), (q_3, .inl (cA_4, 9, .inl (fun _ => 0))), (q_5, .inl (cA_6, 4, .inl (upd (upd (fun _ => 0) 0 (-1)) 1 (-1)))), (q_7, .inl (cA_8, 4, .inl (upd (upd (fun _ => 0) 0 (-1)) 1 (-1)))), (q_9, .inl (cA_10, 7, .inr (.inl (fun _ => 0))))] := hD
  refine lv_iinc (v := 2) (lv' := [(1, .int 2), (0, .ref h0)]) hx hb dX6_init_84 hl (k := 0) rfl (by decide) (by decide) rfl (fun ls hl => ?_)
  refine lv_goto (tgt := 65) hx hb dX6_init_87 (by decide) ?_
  refine lv_iload_n hx hb dX6_init_65 rfl (lv_at hl 0 rfl) ?_
  refine lv_iconst (v := 4) hx hb dX6_init_66 (by decide) ?_
  refine lv_icmp_ge (tgt := 90) hx hb dX6_init_67 (by decide) (fun c => absurd c (by decide)) (fun _ => ?_)
  refine lv_aload_n hx hb dX6_init_70 rfl (lv_at hl 1 rfl) ?_
  refine va_get (D := (dC, dI)) (ci := 4) (v := .ref q_5) (C := RX6) (T := TX6) (N := 9) hx hb hts inX6 hown hK hP 0 rfl rfl 4 (by decide) (hts _ (List.mem_of_getElem? (i := 9) rfl)) (fun _ h9 => h9) rfl dX6_init_71 ?_
  refine lv_iload_n hx hb dX6_init_74 rfl (lv_at hl 0 rfl) ?_
  refine lv_iconst (v := (-1)) hx hb dX6_init_75 (by decide) ?_
  refine va_iast hx hb hK hP hD hS 3 2 rfl rfl (vp_in_nI (n := 2) (by decide) (by decide)) dX6_init_76 (fun H locs hP hD hS => ?_)
  have hP : va_P (dC, dI) vwCl [(h0, .inr (4, [.int 0, .ref q_1, .ref q_3, .int 0, .ref q_5, .ref q_7, .int 0, .ref q_9, .int 63])), (q_1, .inl (cA_2, 9, .inl (fun _ => 0))), (q_3, .inl (cA_4, 9, .inl (fun _ => 0))), (q_5, .inl (cA_6, 4, .inl (upd (upd (upd (fun _ => 0) 0 (-1)) 1 (-1)) 2 (-1)))), (q_7, .inl (cA_8, 4, .inl (upd (upd (fun _ => 0) 0 (-1)) 1 (-1)))), (q_9, .inl (cA_10, 7, .inr (.inl (fun _ => 0))))] H := hP
  have hD : va_D A [(h0, .inr (4, [.int 0, .ref q_1, .ref q_3, .int 0, .ref q_5, .ref q_7, .int 0, .ref q_9, .int 63])), (q_1, .inl (cA_2, 9, .inl (fun _ => 0))), (q_3, .inl (cA_4, 9, .inl (fun _ => 0))), (q_5, .inl (cA_6, 4, .inl (upd (upd (upd (fun _ => 0) 0 (-1)) 1 (-1)) 2 (-1)))), (q_7, .inl (cA_8, 4, .inl (upd (upd (fun _ => 0) 0 (-1)) 1 (-1)))), (q_9, .inl (cA_10, 7, .inr (.inl (fun _ => 0))))] := hD
  refine lv_aload_n hx hb dX6_init_77 rfl (lv_at hl 1 rfl) ?_
  refine va_get (D := (dC, dI)) (ci := 4) (v := .ref q_7) (C := RX6) (T := TX6) (N := 9) hx hb hts inX6 hown hK hP 0 rfl rfl 5 (by decide) (hts _ (List.mem_of_getElem? (i := 10) rfl)) (fun _ h9 => h9) rfl dX6_init_78 ?_
  refine lv_iload_n hx hb dX6_init_81 rfl (lv_at hl 0 rfl) ?_
  refine lv_iconst (v := (-1)) hx hb dX6_init_82 (by decide) ?_
  refine va_iast hx hb hK hP hD hS 4 3 rfl rfl (vp_in_nI (n := 2) (by decide) (by decide)) dX6_init_83 (fun H locs hP hD hS => ?_)
  have hP : va_P (dC, dI) vwCl [(h0, .inr (4, [.int 0, .ref q_1, .ref q_3, .int 0, .ref q_5, .ref q_7, .int 0, .ref q_9, .int 63])), (q_1, .inl (cA_2, 9, .inl (fun _ => 0))), (q_3, .inl (cA_4, 9, .inl (fun _ => 0))), (q_5, .inl (cA_6, 4, .inl (upd (upd (upd (fun _ => 0) 0 (-1)) 1 (-1)) 2 (-1)))), (q_7, .inl (cA_8, 4, .inl (upd (upd (upd (fun _ => 0) 0 (-1)) 1 (-1)) 2 (-1)))), (q_9, .inl (cA_10, 7, .inr (.inl (fun _ => 0))))] H := hP
  have hD : va_D A [(h0, .inr (4, [.int 0, .ref q_1, .ref q_3, .int 0, .ref q_5, .ref q_7, .int 0, .ref q_9, .int 63])), (q_1, .inl (cA_2, 9, .inl (fun _ => 0))), (q_3, .inl (cA_4, 9, .inl (fun _ => 0))), (q_5, .inl (cA_6, 4, .inl (upd (upd (upd (fun _ => 0) 0 (-1)) 1 (-1)) 2 (-1)))), (q_7, .inl (cA_8, 4, .inl (upd (upd (upd (fun _ => 0) 0 (-1)) 1 (-1)) 2 (-1)))), (q_9, .inl (cA_10, 7, .inr (.inl (fun _ => 0))))] := hD
  refine lv_iinc (v := 3) (lv' := [(1, .int 3), (0, .ref h0)]) hx hb dX6_init_84 hl (k := 0) rfl (by decide) (by decide) rfl (fun ls hl => ?_)
  refine lv_goto (tgt := 65) hx hb dX6_init_87 (by decide) ?_
  refine lv_iload_n hx hb dX6_init_65 rfl (lv_at hl 0 rfl) ?_
  refine lv_iconst (v := 4) hx hb dX6_init_66 (by decide) ?_
  refine lv_icmp_ge (tgt := 90) hx hb dX6_init_67 (by decide) (fun c => absurd c (by decide)) (fun _ => ?_)
  refine lv_aload_n hx hb dX6_init_70 rfl (lv_at hl 1 rfl) ?_
  refine va_get (D := (dC, dI)) (ci := 4) (v := .ref q_5) (C := RX6) (T := TX6) (N := 9) hx hb hts inX6 hown hK hP 0 rfl rfl 4 (by decide) (hts _ (List.mem_of_getElem? (i := 9) rfl)) (fun _ h9 => h9) rfl dX6_init_71 ?_
  refine lv_iload_n hx hb dX6_init_74 rfl (lv_at hl 0 rfl) ?_
  refine lv_iconst (v := (-1)) hx hb dX6_init_75 (by decide) ?_
  refine va_iast hx hb hK hP hD hS 3 2 rfl rfl (vp_in_nI (n := 3) (by decide) (by decide)) dX6_init_76 (fun H locs hP hD hS => ?_)
  have hP : va_P (dC, dI) vwCl [(h0, .inr (4, [.int 0, .ref q_1, .ref q_3, .int 0, .ref q_5, .ref q_7, .int 0, .ref q_9, .int 63])), (q_1, .inl (cA_2, 9, .inl (fun _ => 0))), (q_3, .inl (cA_4, 9, .inl (fun _ => 0))), (q_5, .inl (cA_6, 4, .inl (upd (upd (upd (upd (fun _ => 0) 0 (-1)) 1 (-1)) 2 (-1)) 3 (-1)))), (q_7, .inl (cA_8, 4, .inl (upd (upd (upd (fun _ => 0) 0 (-1)) 1 (-1)) 2 (-1)))), (q_9, .inl (cA_10, 7, .inr (.inl (fun _ => 0))))] H := hP
  have hD : va_D A [(h0, .inr (4, [.int 0, .ref q_1, .ref q_3, .int 0, .ref q_5, .ref q_7, .int 0, .ref q_9, .int 63])), (q_1, .inl (cA_2, 9, .inl (fun _ => 0))), (q_3, .inl (cA_4, 9, .inl (fun _ => 0))), (q_5, .inl (cA_6, 4, .inl (upd (upd (upd (upd (fun _ => 0) 0 (-1)) 1 (-1)) 2 (-1)) 3 (-1)))), (q_7, .inl (cA_8, 4, .inl (upd (upd (upd (fun _ => 0) 0 (-1)) 1 (-1)) 2 (-1)))), (q_9, .inl (cA_10, 7, .inr (.inl (fun _ => 0))))] := hD
  refine lv_aload_n hx hb dX6_init_77 rfl (lv_at hl 1 rfl) ?_
  refine va_get (D := (dC, dI)) (ci := 4) (v := .ref q_7) (C := RX6) (T := TX6) (N := 9) hx hb hts inX6 hown hK hP 0 rfl rfl 5 (by decide) (hts _ (List.mem_of_getElem? (i := 10) rfl)) (fun _ h9 => h9) rfl dX6_init_78 ?_
  refine lv_iload_n hx hb dX6_init_81 rfl (lv_at hl 0 rfl) ?_
  refine lv_iconst (v := (-1)) hx hb dX6_init_82 (by decide) ?_
  refine va_iast hx hb hK hP hD hS 4 3 rfl rfl (vp_in_nI (n := 3) (by decide) (by decide)) dX6_init_83 (fun H locs hP hD hS => ?_)
  have hP : va_P (dC, dI) vwCl [(h0, .inr (4, [.int 0, .ref q_1, .ref q_3, .int 0, .ref q_5, .ref q_7, .int 0, .ref q_9, .int 63])), (q_1, .inl (cA_2, 9, .inl (fun _ => 0))), (q_3, .inl (cA_4, 9, .inl (fun _ => 0))), (q_5, .inl (cA_6, 4, .inl (upd (upd (upd (upd (fun _ => 0) 0 (-1)) 1 (-1)) 2 (-1)) 3 (-1)))), (q_7, .inl (cA_8, 4, .inl (upd (upd (upd (upd (fun _ => 0) 0 (-1)) 1 (-1)) 2 (-1)) 3 (-1)))), (q_9, .inl (cA_10, 7, .inr (.inl (fun _ => 0))))] H := hP
  have hD : va_D A [(h0, .inr (4, [.int 0, .ref q_1, .ref q_3, .int 0, .ref q_5, .ref q_7, .int 0, .ref q_9, .int 63])), (q_1, .inl (cA_2, 9, .inl (fun _ => 0))), (q_3, .inl (cA_4, 9, .inl (fun _ => 0))), (q_5, .inl (cA_6, 4, .inl (upd (upd (upd (upd (fun _ => 0) 0 (-1)) 1 (-1)) 2 (-1)) 3 (-1)))), (q_7, .inl (cA_8, 4, .inl (upd (upd (upd (upd (fun _ => 0) 0 (-1)) 1 (-1)) 2 (-1)) 3 (-1)))), (q_9, .inl (cA_10, 7, .inr (.inl (fun _ => 0))))] := hD
  refine lv_iinc (v := 4) (lv' := [(1, .int 4), (0, .ref h0)]) hx hb dX6_init_84 hl (k := 0) rfl (by decide) (by decide) rfl (fun ls hl => ?_)
  refine lv_goto (tgt := 65) hx hb dX6_init_87 (by decide) ?_
  refine lv_iload_n hx hb dX6_init_65 rfl (lv_at hl 0 rfl) ?_
  refine lv_iconst (v := 4) hx hb dX6_init_66 (by decide) ?_
  refine lv_icmp_ge (tgt := 90) hx hb dX6_init_67 (by decide) (fun _ => ?_) (fun c => absurd (by decide) c)
  have hP9 := hP.sub (ws' := [(h0, .inr (4, [.int 0, .ref q_1, .ref q_3, .int 0, .ref q_5, .ref q_7, .int 0, .ref q_9, .int 63])), (q_1, .inl (cA_2, 9, .inl (fun _ => 0))), (q_3, .inl (cA_4, 9, .inl (fun _ => 0))), (q_5, .inl (cA_6, 4, .inl (upd (upd (upd (upd (fun _ => 0) 0 (-1)) 1 (-1)) 2 (-1)) 3 (-1)))), (q_7, .inl (cA_8, 4, .inl (upd (upd (upd (upd (fun _ => 0) 0 (-1)) 1 (-1)) 2 (-1)) 3 (-1)))), (q_9, .inl (cA_10, 7, .inr (.inl (fun _ => 0))))]) [0, 1, 2, 3, 4, 5] rfl
  have hD9 := hD.sub (ws' := [(h0, .inr (4, [.int 0, .ref q_1, .ref q_3, .int 0, .ref q_5, .ref q_7, .int 0, .ref q_9, .int 63])), (q_1, .inl (cA_2, 9, .inl (fun _ => 0))), (q_3, .inl (cA_4, 9, .inl (fun _ => 0))), (q_5, .inl (cA_6, 4, .inl (upd (upd (upd (upd (fun _ => 0) 0 (-1)) 1 (-1)) 2 (-1)) 3 (-1)))), (q_7, .inl (cA_8, 4, .inl (upd (upd (upd (upd (fun _ => 0) 0 (-1)) 1 (-1)) 2 (-1)) 3 (-1)))), (q_9, .inl (cA_10, 7, .inr (.inl (fun _ => 0))))]) [0, 1, 2, 3, 4, 5] (by decide) rfl
  have hK9 := hK.sub (tys' := [(cA_2, .int), (cA_4, .int), (cA_6, .int), (cA_8, .int), (cA_10, .long)]) [0, 1, 2, 3, 4] rfl
  exact W.vret hx hb hr (fun t ht hW => ⟨⟨(), rfl, trivial, q_1, q_3, q_5, q_7, q_9, cA_2, cA_4, cA_6, cA_8, cA_10, upd (upd (upd (upd (fun _ => 0) 0 (-1)) 1 (-1)) 2 (-1)) 3 (-1), upd (upd (upd (upd (fun _ => 0) 0 (-1)) 1 (-1)) 2 (-1)) 3 (-1), (by decide), (by decide), by rw [ht]; exact hP9, va_K.moved hW.alike hK9, hD9⟩, hS.F ht⟩) hS.2.2 dX6_init_90

def w_c_X5_init : List Cond := .code yX5_init cX5_init 1 none :: (([.methodLink RX5 3 objectInit, .instanceMethod objectInit, .code objectInit ⟨#[0xb1]⟩ 1 none, .fieldLink RX5 9 "LampShapes$Search" "placing" "I", .fieldLink RX5 15 "LampShapes$Search" "least" "I"] : List Cond) ++ wsX50)
set_option maxHeartbeats 4000000 in
set_option maxRecDepth 100000 in
/-- Search() -/
theorem c_X5_init (l : Launch) (dC : Nat → ClassId) (dI : Nat → Nat → Nat) (ad : Nat → Nat) (h0 : Nat) (sz : Nat) : Met l yX5_init w_c_X5_init ({ frames := 1, cells := 0, slots := 0, locals := 12 } : Room) (va_Pc [.ref h0] (preM dC dI ad [] [(h0, .inr (3, [.int 0, .int 0]))] sz)) (va_Qv (fun (_ : Unit) => True) (fun _ t => va_P (dC, dI) vwCl [(h0, .inr (3, [.int (-1), .int 65]))] t.heap ∧ va_K (dC, dI) vwCl [] t ∧ va_D (va_A [(h0, .inr (3, [.int 0, .int 0]))] sz) [(h0, .inr (3, [.int (-1), .int 65]))]) (va_A [(h0, .inr (3, [.int 0, .int 0]))] sz)) 0 0 (va_A [(h0, .inr (3, [.int 0, .int 0]))] sz) := by
  refine Met.ofW (cc := cX5_init) (maxL := 1) (ret := none) (by decide) rfl ?_
  intro p e s m args below meth c s₁ B hml hv
  obtain ⟨rfl, hsz, hP, hK, hD0, hev⟩ := hv
  have hx := B.exec
  have hb := B.bytes
  have hr := B.returns
  have hts := atoms_spec (ws := w_c_X5_init) B.pre
  have hown : s.vm.findClass RX5 = some m.cls := findClass_of_methodNamed B.named
  have hlocks := B.notSynchronized
  have hin : meth.name = "<init>" := (name_of_methodNamed B.named B.method).1
  have inX5 : ∀ w ∈ wsX50, w ∈ w_c_X5_init := fun w h => List.mem_cons_of_mem _ (List.mem_append_right _ h)
  subst hsz
  have hD := hD0.self (sz := s.heap.size)
  generalize hAe : va_A [(h0, .inr (3, [.int 0, .int 0]))] s.heap.size = A at hD ⊢
  have hA : ∀ q : Nat, s.heap.size ≤ q → A q := fun q h => by rw [← hAe]; exact Or.inr h
  have hS : va_S A s.heap s.heap [] := va_S.rf
  have hP : va_P (dC, dI) vwCl [(h0, .inr (3, [.int 0, .int 0]))] s.heap := hP
  have hl := lv_entry ([.ref h0]) (n := 1) (Nat.le_of_ble_eq_true rfl)
  rw [lg_entry_eq]
  generalize (lg_sl ([.ref h0]) ++ List.replicate (1 - (lg_sl ([.ref h0])).length) Slot.unset).toArray = ls at hl ⊢
  have hl : lv_has ls 1 [(0, .ref h0)] := hl
  refine lv_aload_n hx hb dX5_init_0 rfl (lv_at hl 0 rfl) ?_
  refine W.objInit hx hb hown (hts _ (List.mem_of_getElem? (i := 1) rfl)) (hts _ (List.mem_of_getElem? (i := 2) rfl)) (hts _ (List.mem_of_getElem? (i := 3) rfl)) rfl (by rw [hml]; exact hl.1) rfl dX5_init_1 (Nat.le_of_ble_eq_true rfl) (Nat.le_of_ble_eq_true rfl) ?_
  refine W.eq (g2 := F0 m 4 ls []) rfl ?_
  refine lv_aload_n hx hb dX5_init_4 rfl (lv_at hl 0 rfl) ?_
  refine lv_iconst (v := (-1)) hx hb dX5_init_5 (by decide) ?_
  refine va_put (D := (dC, dI)) (ci := 3) (v := .int (-1)) (ty := .int) (C := RX5) (T := TX5) (N := 2) hx hb hts inX5 tyX5 tyX5_ok nmX5 hown hK hP hD hS 0 rfl rfl 0 (by decide) (hts _ (List.mem_of_getElem? (i := 4) rfl)) (fun _ h9 => h9) rfl (by decide +kernel) rfl rfl (Nat.le_of_ble_eq_true rfl) dX5_init_6 (fun H locs hP hD hS => ?_)
  have hP : va_P (dC, dI) vwCl [(h0, .inr (3, [.int (-1), .int 0]))] H := hP
  have hD : va_D A [(h0, .inr (3, [.int (-1), .int 0]))] := hD
  refine lv_aload_n hx hb dX5_init_9 rfl (lv_at hl 0 rfl) ?_
  refine lv_bipush (v := 65) hx hb dX5_init_10 (by decide) ?_
  refine va_put (D := (dC, dI)) (ci := 3) (v := .int 65) (ty := .int) (C := RX5) (T := TX5) (N := 2) hx hb hts inX5 tyX5 tyX5_ok nmX5 hown hK hP hD hS 0 rfl rfl 1 (by decide) (hts _ (List.mem_of_getElem? (i := 5) rfl)) (fun _ h9 => h9) rfl (by decide +kernel) rfl rfl (Nat.le_of_ble_eq_true rfl) dX5_init_12 (fun H locs hP hD hS => ?_)
  have hP : va_P (dC, dI) vwCl [(h0, .inr (3, [.int (-1), .int 65]))] H := hP
  have hD : va_D A [(h0, .inr (3, [.int (-1), .int 65]))] := hD
  have hP9 := hP.sub (ws' := [(h0, .inr (3, [.int (-1), .int 65]))]) [0] rfl
  have hD9 := hD.sub (ws' := [(h0, .inr (3, [.int (-1), .int 65]))]) [0] (by decide) rfl
  have hK9 := hK.sub (tys' := []) [] rfl
  exact W.vret hx hb hr (fun t ht hW => ⟨⟨(), rfl, trivial, by rw [ht]; exact hP9, va_K.moved hW.alike hK9, hD9⟩, hS.F ht⟩) hS.2.2 dX5_init_15

def w_c_X3_init : List Cond := .code yX3_init cX3_init 1 none :: (([.methodLink RX3 3 objectInit, .instanceMethod objectInit, .code objectInit ⟨#[0xb1]⟩ 1 none, .fieldLink RX3 9 "LampShapes$Route" "cost" "I", .arrayClass .int, .fieldLink RX3 15 "LampShapes$Route" "steps" "[I", .fieldLink RX3 19 "LampShapes$Route" "rest" "[I"] : List Cond) ++ wsX30)
set_option maxHeartbeats 4000000 in
set_option maxRecDepth 100000 in
/-- Route() -/
theorem c_X3_init (l : Launch) (dC : Nat → ClassId) (dI : Nat → Nat → Nat) (ad : Nat → Nat) (h0 : Nat) (sz : Nat) : Met l yX3_init w_c_X3_init ({ frames := 1, cells := 2, slots := 390, locals := 12 } : Room) (va_Pc [.ref h0] (preM dC dI ad [] [(h0, .inr (1, [.int 0, .null, .null]))] sz)) (va_Qv (fun (_ : Unit) => True) (fun _ t => ∃ (k0 : Nat), ∃ (k1 : Nat), ∃ (kc0 : ClassId), ∃ (kc1 : ClassId), va_P (dC, dI) vwCl [(h0, .inr (1, [.int 0, .ref k0, .ref k1])), (k0, .inl (kc0, 6, .inl (fun _ => 0))), (k1, .inl (kc1, 384, .inl (fun _ => 0)))] t.heap ∧ va_K (dC, dI) vwCl [(kc0, .int), (kc1, .int)] t ∧ va_D (va_A [(h0, .inr (1, [.int 0, .null, .null]))] sz) [(h0, .inr (1, [.int 0, .ref k0, .ref k1])), (k0, .inl (kc0, 6, .inl (fun _ => 0))), (k1, .inl (kc1, 384, .inl (fun _ => 0)))]) (va_A [(h0, .inr (1, [.int 0, .null, .null]))] sz)) 2 390 (va_A [(h0, .inr (1, [.int 0, .null, .null]))] sz) := by
  refine Met.ofW (cc := cX3_init) (maxL := 1) (ret := none) (by decide) rfl ?_
  intro p e s m args below meth c s₁ B hml hv
  obtain ⟨rfl, hsz, hP, hK, hD0, hev⟩ := hv
  have hx := B.exec
  have hb := B.bytes
  have hr := B.returns
  have hts := atoms_spec (ws := w_c_X3_init) B.pre
  have hown : s.vm.findClass RX3 = some m.cls := findClass_of_methodNamed B.named
  have hlocks := B.notSynchronized
  have hin : meth.name = "<init>" := (name_of_methodNamed B.named B.method).1
  have inX3 : ∀ w ∈ wsX30, w ∈ w_c_X3_init := fun w h => List.mem_cons_of_mem _ (List.mem_append_right _ h)
  subst hsz
  have hD := hD0.self (sz := s.heap.size)
  generalize hAe : va_A [(h0, .inr (1, [.int 0, .null, .null]))] s.heap.size = A at hD ⊢
  have hA : ∀ q : Nat, s.heap.size ≤ q → A q := fun q h => by rw [← hAe]; exact Or.inr h
  have hS : va_S A s.heap s.heap [] := va_S.rf
  have hP : va_P (dC, dI) vwCl [(h0, .inr (1, [.int 0, .null, .null]))] s.heap := hP
  have hl := lv_entry ([.ref h0]) (n := 1) (Nat.le_of_ble_eq_true rfl)
  rw [lg_entry_eq]
  generalize (lg_sl ([.ref h0]) ++ List.replicate (1 - (lg_sl ([.ref h0])).length) Slot.unset).toArray = ls at hl ⊢
  have hl : lv_has ls 1 [(0, .ref h0)] := hl
  refine lv_aload_n hx hb dX3_init_0 rfl (lv_at hl 0 rfl) ?_
  refine W.objInit hx hb hown (hts _ (List.mem_of_getElem? (i := 1) rfl)) (hts _ (List.mem_of_getElem? (i := 2) rfl)) (hts _ (List.mem_of_getElem? (i := 3) rfl)) rfl (by rw [hml]; exact hl.1) rfl dX3_init_1 (Nat.le_of_ble_eq_true rfl) (Nat.le_of_ble_eq_true rfl) ?_
  refine W.eq (g2 := F0 m 4 ls []) rfl ?_
  refine lv_aload_n hx hb dX3_init_4 rfl (lv_at hl 0 rfl) ?_
  refine lv_iconst (v := 0) hx hb dX3_init_5 (by decide) ?_
  refine va_put (D := (dC, dI)) (ci := 1) (v := .int 0) (ty := .int) (C := RX3) (T := TX3) (N := 3) hx hb hts inX3 tyX3 tyX3_ok nmX3 hown hK hP hD hS 0 rfl rfl 0 (by decide) (hts _ (List.mem_of_getElem? (i := 4) rfl)) (fun _ h9 => h9) rfl (by decide +kernel) rfl rfl (Nat.le_of_ble_eq_true rfl) dX3_init_6 (fun H locs hP hD hS => ?_)
  have hP : va_P (dC, dI) vwCl [(h0, .inr (1, [.int 0, .null, .null]))] H := hP
  have hD : va_D A [(h0, .inr (1, [.int 0, .null, .null]))] := hD
  refine lv_aload_n hx hb dX3_init_9 rfl (lv_at hl 0 rfl) ?_
  refine lv_bipush (v := 6) hx hb dX3_init_10 (by decide) ?_
  refine va_newa (atype := .int) (ty := .int) (N' := 6) (a0 := (6, .inl (fun _ => 0))) hx hb (hts _ (List.mem_of_getElem? (i := 5) rfl)) rfl hK hP hD hS hA (fun _ => rfl) (by decide) (by decide) (Nat.le_of_ble_eq_true rfl) (Nat.le_of_ble_eq_true rfl) (Nat.le_of_ble_eq_true rfl) dX3_init_12 (fun q_1 cA_2 H hK hP hD hS => ?_)
  refine W.widen (k := 1) (n := 6) (Nat.le_of_ble_eq_true rfl) (Nat.le_of_ble_eq_true rfl) ?_
  have hP : va_P (dC, dI) vwCl [(h0, .inr (1, [.int 0, .null, .null])), (q_1, .inl (cA_2, 6, .inl (fun _ => 0)))] H := hP
  have hD : va_D A [(h0, .inr (1, [.int 0, .null, .null])), (q_1, .inl (cA_2, 6, .inl (fun _ => 0)))] := hD
  have hK : va_K (dC, dI) vwCl [(cA_2, .int)] s := hK
  refine va_putF (D := (dC, dI)) (ci := 1) (v := .ref q_1) (ty := (.array .int)) (C := RX3) (T := TX3) (N := 3) hx hb hts inX3 tyX3 tyX3_ok nmX3 hown hK hP hD hS 0 rfl rfl 1 (by decide) (hts _ (List.mem_of_getElem? (i := 6) rfl)) (fun _ h9 => h9) rfl hin rfl (by decide +kernel) rfl rfl (Nat.le_of_ble_eq_true rfl) dX3_init_14 (fun H locs hP hD hS => ?_)
  have hP : va_P (dC, dI) vwCl [(h0, .inr (1, [.int 0, .ref q_1, .null])), (q_1, .inl (cA_2, 6, .inl (fun _ => 0)))] H := hP
  have hD : va_D A [(h0, .inr (1, [.int 0, .ref q_1, .null])), (q_1, .inl (cA_2, 6, .inl (fun _ => 0)))] := hD
  refine lv_aload_n hx hb dX3_init_17 rfl (lv_at hl 0 rfl) ?_
  refine lv_sipush (v := 384) hx hb dX3_init_18 (by decide) ?_
  refine va_newa (atype := .int) (ty := .int) (N' := 384) (a0 := (384, .inl (fun _ => 0))) hx hb (hts _ (List.mem_of_getElem? (i := 5) rfl)) rfl hK hP hD hS hA (fun _ => rfl) (by decide) (by decide) (Nat.le_of_ble_eq_true rfl) (Nat.le_of_ble_eq_true rfl) (Nat.le_of_ble_eq_true rfl) dX3_init_21 (fun q_3 cA_4 H hK hP hD hS => ?_)
  refine W.widen (k := 2) (n := 390) (Nat.le_of_ble_eq_true rfl) (Nat.le_of_ble_eq_true rfl) ?_
  have hP : va_P (dC, dI) vwCl [(h0, .inr (1, [.int 0, .ref q_1, .null])), (q_1, .inl (cA_2, 6, .inl (fun _ => 0))), (q_3, .inl (cA_4, 384, .inl (fun _ => 0)))] H := hP
  have hD : va_D A [(h0, .inr (1, [.int 0, .ref q_1, .null])), (q_1, .inl (cA_2, 6, .inl (fun _ => 0))), (q_3, .inl (cA_4, 384, .inl (fun _ => 0)))] := hD
  have hK : va_K (dC, dI) vwCl [(cA_2, .int), (cA_4, .int)] s := hK
  refine va_putF (D := (dC, dI)) (ci := 1) (v := .ref q_3) (ty := (.array .int)) (C := RX3) (T := TX3) (N := 3) hx hb hts inX3 tyX3 tyX3_ok nmX3 hown hK hP hD hS 0 rfl rfl 2 (by decide) (hts _ (List.mem_of_getElem? (i := 7) rfl)) (fun _ h9 => h9) rfl hin rfl (by decide +kernel) rfl rfl (Nat.le_of_ble_eq_true rfl) dX3_init_23 (fun H locs hP hD hS => ?_)
  have hP : va_P (dC, dI) vwCl [(h0, .inr (1, [.int 0, .ref q_1, .ref q_3])), (q_1, .inl (cA_2, 6, .inl (fun _ => 0))), (q_3, .inl (cA_4, 384, .inl (fun _ => 0)))] H := hP
  have hD : va_D A [(h0, .inr (1, [.int 0, .ref q_1, .ref q_3])), (q_1, .inl (cA_2, 6, .inl (fun _ => 0))), (q_3, .inl (cA_4, 384, .inl (fun _ => 0)))] := hD
  have hP9 := hP.sub (ws' := [(h0, .inr (1, [.int 0, .ref q_1, .ref q_3])), (q_1, .inl (cA_2, 6, .inl (fun _ => 0))), (q_3, .inl (cA_4, 384, .inl (fun _ => 0)))]) [0, 1, 2] rfl
  have hD9 := hD.sub (ws' := [(h0, .inr (1, [.int 0, .ref q_1, .ref q_3])), (q_1, .inl (cA_2, 6, .inl (fun _ => 0))), (q_3, .inl (cA_4, 384, .inl (fun _ => 0)))]) [0, 1, 2] (by decide) rfl
  have hK9 := hK.sub (tys' := [(cA_2, .int), (cA_4, .int)]) [0, 1] rfl
  exact W.vret hx hb hr (fun t ht hW => ⟨⟨(), rfl, trivial, q_1, q_3, cA_2, cA_4, by rw [ht]; exact hP9, va_K.moved hW.alike hK9, hD9⟩, hS.F ht⟩) hS.2.2 dX3_init_26

def w_c_X7_init : List Cond := .code yX7_init cX7_init 1 none :: (([.methodLink RX7 3 objectInit, .instanceMethod objectInit, .code objectInit ⟨#[0xb1]⟩ 1 none, .fieldLink RX7 9 "LampShapes$Tape" "size" "I", .arrayClass .int, .fieldLink RX7 15 "LampShapes$Tape" "bytes" "[I"] : List Cond) ++ wsX70)
set_option maxHeartbeats 4000000 in
set_option maxRecDepth 100000 in
/-- Tape() -/
theorem c_X7_init (l : Launch) (dC : Nat → ClassId) (dI : Nat → Nat → Nat) (ad : Nat → Nat) (h0 : Nat) (sz : Nat) : Met l yX7_init w_c_X7_init ({ frames := 1, cells := 1, slots := 120, locals := 12 } : Room) (va_Pc [.ref h0] (preM dC dI ad [] [(h0, .inr (5, [.int 0, .null]))] sz)) (va_Qv (fun (_ : Unit) => True) (fun _ t => ∃ (k0 : Nat), ∃ (kc0 : ClassId), va_P (dC, dI) vwCl [(h0, .inr (5, [.int 0, .ref k0])), (k0, .inl (kc0, 120, .inl (fun _ => 0)))] t.heap ∧ va_K (dC, dI) vwCl [(kc0, .int)] t ∧ va_D (va_A [(h0, .inr (5, [.int 0, .null]))] sz) [(h0, .inr (5, [.int 0, .ref k0])), (k0, .inl (kc0, 120, .inl (fun _ => 0)))]) (va_A [(h0, .inr (5, [.int 0, .null]))] sz)) 1 120 (va_A [(h0, .inr (5, [.int 0, .null]))] sz) := by
  refine Met.ofW (cc := cX7_init) (maxL := 1) (ret := none) (by decide) rfl ?_
  intro p e s m args below meth c s₁ B hml hv
  obtain ⟨rfl, hsz, hP, hK, hD0, hev⟩ := hv
  have hx := B.exec
  have hb := B.bytes
  have hr := B.returns
  have hts := atoms_spec (ws := w_c_X7_init) B.pre
  have hown : s.vm.findClass RX7 = some m.cls := findClass_of_methodNamed B.named
  have hlocks := B.notSynchronized
  have hin : meth.name = "<init>" := (name_of_methodNamed B.named B.method).1
  have inX7 : ∀ w ∈ wsX70, w ∈ w_c_X7_init := fun w h => List.mem_cons_of_mem _ (List.mem_append_right _ h)
  subst hsz
  have hD := hD0.self (sz := s.heap.size)
  generalize hAe : va_A [(h0, .inr (5, [.int 0, .null]))] s.heap.size = A at hD ⊢
  have hA : ∀ q : Nat, s.heap.size ≤ q → A q := fun q h => by rw [← hAe]; exact Or.inr h
  have hS : va_S A s.heap s.heap [] := va_S.rf
  have hP : va_P (dC, dI) vwCl [(h0, .inr (5, [.int 0, .null]))] s.heap := hP
  have hl := lv_entry ([.ref h0]) (n := 1) (Nat.le_of_ble_eq_true rfl)
  rw [lg_entry_eq]
  generalize (lg_sl ([.ref h0]) ++ List.replicate (1 - (lg_sl ([.ref h0])).length) Slot.unset).toArray = ls at hl ⊢
  have hl : lv_has ls 1 [(0, .ref h0)] := hl
  refine lv_aload_n hx hb dX7_init_0 rfl (lv_at hl 0 rfl) ?_
  refine W.objInit hx hb hown (hts _ (List.mem_of_getElem? (i := 1) rfl)) (hts _ (List.mem_of_getElem? (i := 2) rfl)) (hts _ (List.mem_of_getElem? (i := 3) rfl)) rfl (by rw [hml]; exact hl.1) rfl dX7_init_1 (Nat.le_of_ble_eq_true rfl) (Nat.le_of_ble_eq_true rfl) ?_
  refine W.eq (g2 := F0 m 4 ls []) rfl ?_
  refine lv_aload_n hx hb dX7_init_4 rfl (lv_at hl 0 rfl) ?_
  refine lv_iconst (v := 0) hx hb dX7_init_5 (by decide) ?_
  refine va_put (D := (dC, dI)) (ci := 5) (v := .int 0) (ty := .int) (C := RX7) (T := TX7) (N := 2) hx hb hts inX7 tyX7 tyX7_ok nmX7 hown hK hP hD hS 0 rfl rfl 0 (by decide) (hts _ (List.mem_of_getElem? (i := 4) rfl)) (fun _ h9 => h9) rfl (by decide +kernel) rfl rfl (Nat.le_of_ble_eq_true rfl) dX7_init_6 (fun H locs hP hD hS => ?_)
  have hP : va_P (dC, dI) vwCl [(h0, .inr (5, [.int 0, .null]))] H := hP
  have hD : va_D A [(h0, .inr (5, [.int 0, .null]))] := hD
  refine lv_aload_n hx hb dX7_init_9 rfl (lv_at hl 0 rfl) ?_
  refine lv_bipush (v := 120) hx hb dX7_init_10 (by decide) ?_
  refine va_newa (atype := .int) (ty := .int) (N' := 120) (a0 := (120, .inl (fun _ => 0))) hx hb (hts _ (List.mem_of_getElem? (i := 5) rfl)) rfl hK hP hD hS hA (fun _ => rfl) (by decide) (by decide) (Nat.le_of_ble_eq_true rfl) (Nat.le_of_ble_eq_true rfl) (Nat.le_of_ble_eq_true rfl) dX7_init_12 (fun q_1 cA_2 H hK hP hD hS => ?_)
  refine W.widen (k := 1) (n := 120) (Nat.le_of_ble_eq_true rfl) (Nat.le_of_ble_eq_true rfl) ?_
  have hP : va_P (dC, dI) vwCl [(h0, .inr (5, [.int 0, .null])), (q_1, .inl (cA_2, 120, .inl (fun _ => 0)))] H := hP
  have hD : va_D A [(h0, .inr (5, [.int 0, .null])), (q_1, .inl (cA_2, 120, .inl (fun _ => 0)))] := hD
  have hK : va_K (dC, dI) vwCl [(cA_2, .int)] s := hK
  refine va_putF (D := (dC, dI)) (ci := 5) (v := .ref q_1) (ty := (.array .int)) (C := RX7) (T := TX7) (N := 2) hx hb hts inX7 tyX7 tyX7_ok nmX7 hown hK hP hD hS 0 rfl rfl 1 (by decide) (hts _ (List.mem_of_getElem? (i := 6) rfl)) (fun _ h9 => h9) rfl hin rfl (by decide +kernel) rfl rfl (Nat.le_of_ble_eq_true rfl) dX7_init_14 (fun H locs hP hD hS => ?_)
  have hP : va_P (dC, dI) vwCl [(h0, .inr (5, [.int 0, .ref q_1])), (q_1, .inl (cA_2, 120, .inl (fun _ => 0)))] H := hP
  have hD : va_D A [(h0, .inr (5, [.int 0, .ref q_1])), (q_1, .inl (cA_2, 120, .inl (fun _ => 0)))] := hD
  have hP9 := hP.sub (ws' := [(h0, .inr (5, [.int 0, .ref q_1])), (q_1, .inl (cA_2, 120, .inl (fun _ => 0)))]) [0, 1] rfl
  have hD9 := hD.sub (ws' := [(h0, .inr (5, [.int 0, .ref q_1])), (q_1, .inl (cA_2, 120, .inl (fun _ => 0)))]) [0, 1] (by decide) rfl
  have hK9 := hK.sub (tys' := [(cA_2, .int)]) [0] rfl
  exact W.vret hx hb hr (fun t ht hW => ⟨⟨(), rfl, trivial, q_1, cA_2, by rw [ht]; exact hP9, va_K.moved hW.alike hK9, hD9⟩, hS.F ht⟩) hS.2.2 dX7_init_17

def w_c_X2_init : List Cond := .code yX2_init cX2_init 1 none :: (([.methodLink RX2 3 objectInit, .instanceMethod objectInit, .code objectInit ⟨#[0xb1]⟩ 1 none, .fieldLink RX2 9 "LampShapes$Paper" "bits" "I", .fieldLink RX2 15 "LampShapes$Paper" "size" "I", .arrayClass .long, .fieldLink RX2 18 "LampShapes$Paper" "numbers" "[J"] : List Cond) ++ wsX20)
set_option maxHeartbeats 4000000 in
set_option maxRecDepth 100000 in
/-- Paper() -/
theorem c_X2_init (l : Launch) (dC : Nat → ClassId) (dI : Nat → Nat → Nat) (ad : Nat → Nat) (h0 : Nat) (sz : Nat) : Met l yX2_init w_c_X2_init ({ frames := 1, cells := 1, slots := 40, locals := 12 } : Room) (va_Pc [.ref h0] (preM dC dI ad [] [(h0, .inr (0, [.int 0, .int 0, .null]))] sz)) (va_Qv (fun (_ : Unit) => True) (fun _ t => ∃ (k0 : Nat), ∃ (kc0 : ClassId), va_P (dC, dI) vwCl [(h0, .inr (0, [.int 0, .int 0, .ref k0])), (k0, .inl (kc0, 40, .inr (.inl (fun _ => 0))))] t.heap ∧ va_K (dC, dI) vwCl [(kc0, .long)] t ∧ va_D (va_A [(h0, .inr (0, [.int 0, .int 0, .null]))] sz) [(h0, .inr (0, [.int 0, .int 0, .ref k0])), (k0, .inl (kc0, 40, .inr (.inl (fun _ => 0))))]) (va_A [(h0, .inr (0, [.int 0, .int 0, .null]))] sz)) 1 40 (va_A [(h0, .inr (0, [.int 0, .int 0, .null]))] sz) := by
  refine Met.ofW (cc := cX2_init) (maxL := 1) (ret := none) (by decide) rfl ?_
  intro p e s m args below meth c s₁ B hml hv
  obtain ⟨rfl, hsz, hP, hK, hD0, hev⟩ := hv
  have hx := B.exec
  have hb := B.bytes
  have hr := B.returns
  have hts := atoms_spec (ws := w_c_X2_init) B.pre
  have hown : s.vm.findClass RX2 = some m.cls := findClass_of_methodNamed B.named
  have hlocks := B.notSynchronized
  have hin : meth.name = "<init>" := (name_of_methodNamed B.named B.method).1
  have inX2 : ∀ w ∈ wsX20, w ∈ w_c_X2_init := fun w h => List.mem_cons_of_mem _ (List.mem_append_right _ h)
  subst hsz
  have hD := hD0.self (sz := s.heap.size)
  generalize hAe : va_A [(h0, .inr (0, [.int 0, .int 0, .null]))] s.heap.size = A at hD ⊢
  have hA : ∀ q : Nat, s.heap.size ≤ q → A q := fun q h => by rw [← hAe]; exact Or.inr h
  have hS : va_S A s.heap s.heap [] := va_S.rf
  have hP : va_P (dC, dI) vwCl [(h0, .inr (0, [.int 0, .int 0, .null]))] s.heap := hP
  have hl := lv_entry ([.ref h0]) (n := 1) (Nat.le_of_ble_eq_true rfl)
  rw [lg_entry_eq]
  generalize (lg_sl ([.ref h0]) ++ List.replicate (1 - (lg_sl ([.ref h0])).length) Slot.unset).toArray = ls at hl ⊢
  have hl : lv_has ls 1 [(0, .ref h0)] := hl
  refine lv_aload_n hx hb dX2_init_0 rfl (lv_at hl 0 rfl) ?_
  refine W.objInit hx hb hown (hts _ (List.mem_of_getElem? (i := 1) rfl)) (hts _ (List.mem_of_getElem? (i := 2) rfl)) (hts _ (List.mem_of_getElem? (i := 3) rfl)) rfl (by rw [hml]; exact hl.1) rfl dX2_init_1 (Nat.le_of_ble_eq_true rfl) (Nat.le_of_ble_eq_true rfl) ?_
  refine W.eq (g2 := F0 m 4 ls []) rfl ?_
  refine lv_aload_n hx hb dX2_init_4 rfl (lv_at hl 0 rfl) ?_
  refine lv_iconst (v := 0) hx hb dX2_init_5 (by decide) ?_
  refine va_put (D := (dC, dI)) (ci := 0) (v := .int 0) (ty := .int) (C := RX2) (T := TX2) (N := 3) hx hb hts inX2 tyX2 tyX2_ok nmX2 hown hK hP hD hS 0 rfl rfl 0 (by decide) (hts _ (List.mem_of_getElem? (i := 4) rfl)) (fun _ h9 => h9) rfl (by decide +kernel) rfl rfl (Nat.le_of_ble_eq_true rfl) dX2_init_6 (fun H locs hP hD hS => ?_)
  have hP : va_P (dC, dI) vwCl [(h0, .inr (0, [.int 0, .int 0, .null]))] H := hP
  have hD : va_D A [(h0, .inr (0, [.int 0, .int 0, .null]))] := hD
  refine lv_aload_n hx hb dX2_init_9 rfl (lv_at hl 0 rfl) ?_
  refine lv_iconst (v := 0) hx hb dX2_init_10 (by decide) ?_
  refine va_put (D := (dC, dI)) (ci := 0) (v := .int 0) (ty := .int) (C := RX2) (T := TX2) (N := 3) hx hb hts inX2 tyX2 tyX2_ok nmX2 hown hK hP hD hS 0 rfl rfl 1 (by decide) (hts _ (List.mem_of_getElem? (i := 5) rfl)) (fun _ h9 => h9) rfl (by decide +kernel) rfl rfl (Nat.le_of_ble_eq_true rfl) dX2_init_11 (fun H locs hP hD hS => ?_)
  have hP : va_P (dC, dI) vwCl [(h0, .inr (0, [.int 0, .int 0, .null]))] H := hP
  have hD : va_D A [(h0, .inr (0, [.int 0, .int 0, .null]))] := hD
  refine lv_aload_n hx hb dX2_init_14 rfl (lv_at hl 0 rfl) ?_
  refine lv_bipush (v := 40) hx hb dX2_init_15 (by decide) ?_
  refine va_newa (atype := .long) (ty := .long) (N' := 40) (a0 := (40, .inr (.inl (fun _ => 0)))) hx hb (hts _ (List.mem_of_getElem? (i := 6) rfl)) rfl hK hP hD hS hA (fun _ => rfl) (by decide) (by decide) (Nat.le_of_ble_eq_true rfl) (Nat.le_of_ble_eq_true rfl) (Nat.le_of_ble_eq_true rfl) dX2_init_17 (fun q_1 cA_2 H hK hP hD hS => ?_)
  refine W.widen (k := 1) (n := 40) (Nat.le_of_ble_eq_true rfl) (Nat.le_of_ble_eq_true rfl) ?_
  have hP : va_P (dC, dI) vwCl [(h0, .inr (0, [.int 0, .int 0, .null])), (q_1, .inl (cA_2, 40, .inr (.inl (fun _ => 0))))] H := hP
  have hD : va_D A [(h0, .inr (0, [.int 0, .int 0, .null])), (q_1, .inl (cA_2, 40, .inr (.inl (fun _ => 0))))] := hD
  have hK : va_K (dC, dI) vwCl [(cA_2, .long)] s := hK
  refine va_putF (D := (dC, dI)) (ci := 0) (v := .ref q_1) (ty := (.array .long)) (C := RX2) (T := TX2) (N := 3) hx hb hts inX2 tyX2 tyX2_ok nmX2 hown hK hP hD hS 0 rfl rfl 2 (by decide) (hts _ (List.mem_of_getElem? (i := 7) rfl)) (fun _ h9 => h9) rfl hin rfl (by decide +kernel) rfl rfl (Nat.le_of_ble_eq_true rfl) dX2_init_19 (fun H locs hP hD hS => ?_)
  have hP : va_P (dC, dI) vwCl [(h0, .inr (0, [.int 0, .int 0, .ref q_1])), (q_1, .inl (cA_2, 40, .inr (.inl (fun _ => 0))))] H := hP
  have hD : va_D A [(h0, .inr (0, [.int 0, .int 0, .ref q_1])), (q_1, .inl (cA_2, 40, .inr (.inl (fun _ => 0))))] := hD
  have hP9 := hP.sub (ws' := [(h0, .inr (0, [.int 0, .int 0, .ref q_1])), (q_1, .inl (cA_2, 40, .inr (.inl (fun _ => 0))))]) [0, 1] rfl
  have hD9 := hD.sub (ws' := [(h0, .inr (0, [.int 0, .int 0, .ref q_1])), (q_1, .inl (cA_2, 40, .inr (.inl (fun _ => 0))))]) [0, 1] (by decide) rfl
  have hK9 := hK.sub (tys' := [(cA_2, .long)]) [0] rfl
  exact W.vret hx hb hr (fun t ht hW => ⟨⟨(), rfl, trivial, q_1, cA_2, by rw [ht]; exact hP9, va_K.moved hW.alike hK9, hD9⟩, hS.F ht⟩) hS.2.2 dX2_init_22

