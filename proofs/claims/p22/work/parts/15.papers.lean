theorem dX8_sheet_0 : decode cX8_sheet 0 = .ok (.aload_n 0, 1) := by decide +kernel
theorem dX8_sheet_1 : decode cX8_sheet 1 = .ok (.iload_n 1, 1) := by decide +kernel
theorem dX8_sheet_2 : decode cX8_sheet 2 = .ok (.invokevirtual 256, 3) := by decide +kernel
theorem dX8_sheet_5 : decode cX8_sheet 5 = .ok (.astore 4, 2) := by decide +kernel
theorem dX8_sheet_7 : decode cX8_sheet 7 = .ok (.aload 4, 2) := by decide +kernel
theorem dX8_sheet_9 : decode cX8_sheet 9 = .ok (.ifnull 10, 3) := by decide +kernel
theorem dX8_sheet_12 : decode cX8_sheet 12 = .ok (.iload_n 2, 1) := by decide +kernel
theorem dX8_sheet_13 : decode cX8_sheet 13 = .ok (.invokestatic 260, 3) := by decide +kernel
theorem dX8_sheet_16 : decode cX8_sheet 16 = .ok (.ifCond .ne 10, 3) := by decide +kernel
theorem dX8_sheet_19 : decode cX8_sheet 19 = .ok (.aload_n 0, 1) := by decide +kernel
theorem dX8_sheet_20 : decode cX8_sheet 20 = .ok (.ldc 62, 2) := by decide +kernel
theorem dX8_sheet_22 : decode cX8_sheet 22 = .ok (.invokevirtual 63, 3) := by decide +kernel
theorem dX8_sheet_25 : decode cX8_sheet 25 = .ok (.ireturn, 1) := by decide +kernel
theorem dX8_sheet_26 : decode cX8_sheet 26 = .ok (.iload_n 3, 1) := by decide +kernel
theorem dX8_sheet_27 : decode cX8_sheet 27 = .ok (.ifCond .ge 10, 3) := by decide +kernel
theorem dX8_sheet_30 : decode cX8_sheet 30 = .ok (.aload_n 0, 1) := by decide +kernel
theorem dX8_sheet_31 : decode cX8_sheet 31 = .ok (.ldc 210, 2) := by decide +kernel
theorem dX8_sheet_33 : decode cX8_sheet 33 = .ok (.invokevirtual 63, 3) := by decide +kernel
theorem dX8_sheet_36 : decode cX8_sheet 36 = .ok (.ireturn, 1) := by decide +kernel
theorem dX8_sheet_37 : decode cX8_sheet 37 = .ok (.iload_n 3, 1) := by decide +kernel
theorem dX8_sheet_38 : decode cX8_sheet 38 = .ok (.bipush 40, 2) := by decide +kernel
theorem dX8_sheet_40 : decode cX8_sheet 40 = .ok (.if_icmp .le 10, 3) := by decide +kernel
theorem dX8_sheet_43 : decode cX8_sheet 43 = .ok (.aload_n 0, 1) := by decide +kernel
theorem dX8_sheet_44 : decode cX8_sheet 44 = .ok (.ldc 62, 2) := by decide +kernel
theorem dX8_sheet_46 : decode cX8_sheet 46 = .ok (.invokevirtual 63, 3) := by decide +kernel
theorem dX8_sheet_49 : decode cX8_sheet 49 = .ok (.ireturn, 1) := by decide +kernel
theorem dX8_sheet_50 : decode cX8_sheet 50 = .ok (.aload 4, 2) := by decide +kernel
theorem dX8_sheet_52 : decode cX8_sheet 52 = .ok (.iload_n 2, 1) := by decide +kernel
theorem dX8_sheet_53 : decode cX8_sheet 53 = .ok (.iload_n 2, 1) := by decide +kernel
theorem dX8_sheet_54 : decode cX8_sheet 54 = .ok (.ifCond .ne 7, 3) := by decide +kernel
theorem dX8_sheet_57 : decode cX8_sheet 57 = .ok (.iconst 0, 1) := by decide +kernel
theorem dX8_sheet_58 : decode cX8_sheet 58 = .ok (.goto 4, 3) := by decide +kernel
theorem dX8_sheet_61 : decode cX8_sheet 61 = .ok (.iload_n 3, 1) := by decide +kernel
theorem dX8_sheet_62 : decode cX8_sheet 62 = .ok (.invokevirtual 263, 3) := by decide +kernel
theorem dX8_sheet_65 : decode cX8_sheet 65 = .ok (.aload 4, 2) := by decide +kernel
theorem dX8_sheet_67 : decode cX8_sheet 67 = .ok (.getfield 267, 3) := by decide +kernel
theorem dX8_sheet_70 : decode cX8_sheet 70 = .ok (.ireturn, 1) := by decide +kernel
theorem dX8_write_0 : decode cX8_write 0 = .ok (.aload_n 0, 1) := by decide +kernel
theorem dX8_write_1 : decode cX8_write 1 = .ok (.iload_n 1, 1) := by decide +kernel
theorem dX8_write_2 : decode cX8_write 2 = .ok (.invokevirtual 256, 3) := by decide +kernel
theorem dX8_write_5 : decode cX8_write 5 = .ok (.astore 5, 2) := by decide +kernel
theorem dX8_write_7 : decode cX8_write 7 = .ok (.aload 5, 2) := by decide +kernel
theorem dX8_write_9 : decode cX8_write 9 = .ok (.ifnonnull 11, 3) := by decide +kernel
theorem dX8_write_12 : decode cX8_write 12 = .ok (.aload_n 0, 1) := by decide +kernel
theorem dX8_write_13 : decode cX8_write 13 = .ok (.ldc 62, 2) := by decide +kernel
theorem dX8_write_15 : decode cX8_write 15 = .ok (.invokevirtual 63, 3) := by decide +kernel
theorem dX8_write_18 : decode cX8_write 18 = .ok (.i2l, 1) := by decide +kernel
theorem dX8_write_19 : decode cX8_write 19 = .ok (.lreturn, 1) := by decide +kernel
theorem dX8_write_20 : decode cX8_write 20 = .ok (.aload 5, 2) := by decide +kernel
theorem dX8_write_22 : decode cX8_write 22 = .ok (.invokevirtual 268, 3) := by decide +kernel
theorem dX8_write_25 : decode cX8_write 25 = .ok (.ifCond .eq 12, 3) := by decide +kernel
theorem dX8_write_28 : decode cX8_write 28 = .ok (.aload_n 0, 1) := by decide +kernel
theorem dX8_write_29 : decode cX8_write 29 = .ok (.ldc_w 271, 3) := by decide +kernel
theorem dX8_write_32 : decode cX8_write 32 = .ok (.invokevirtual 63, 3) := by decide +kernel
theorem dX8_write_35 : decode cX8_write 35 = .ok (.i2l, 1) := by decide +kernel
theorem dX8_write_36 : decode cX8_write 36 = .ok (.lreturn, 1) := by decide +kernel
theorem dX8_write_37 : decode cX8_write 37 = .ok (.iload_n 2, 1) := by decide +kernel
theorem dX8_write_38 : decode cX8_write 38 = .ok (.ifCond .lt 12, 3) := by decide +kernel
theorem dX8_write_41 : decode cX8_write 41 = .ok (.iload_n 2, 1) := by decide +kernel
theorem dX8_write_42 : decode cX8_write 42 = .ok (.aload 5, 2) := by decide +kernel
theorem dX8_write_44 : decode cX8_write 44 = .ok (.getfield 267, 3) := by decide +kernel
theorem dX8_write_47 : decode cX8_write 47 = .ok (.if_icmp .lt 11, 3) := by decide +kernel
theorem dX8_write_50 : decode cX8_write 50 = .ok (.aload_n 0, 1) := by decide +kernel
theorem dX8_write_51 : decode cX8_write 51 = .ok (.ldc 62, 2) := by decide +kernel
theorem dX8_write_53 : decode cX8_write 53 = .ok (.invokevirtual 63, 3) := by decide +kernel
theorem dX8_write_56 : decode cX8_write 56 = .ok (.i2l, 1) := by decide +kernel
theorem dX8_write_57 : decode cX8_write 57 = .ok (.lreturn, 1) := by decide +kernel
theorem dX8_write_58 : decode cX8_write 58 = .ok (.aload 5, 2) := by decide +kernel
theorem dX8_write_60 : decode cX8_write 60 = .ok (.getfield 272, 3) := by decide +kernel
theorem dX8_write_63 : decode cX8_write 63 = .ok (.iload_n 2, 1) := by decide +kernel
theorem dX8_write_64 : decode cX8_write 64 = .ok (.laload, 1) := by decide +kernel
theorem dX8_write_65 : decode cX8_write 65 = .ok (.lstore 6, 2) := by decide +kernel
theorem dX8_write_67 : decode cX8_write 67 = .ok (.aload 5, 2) := by decide +kernel
theorem dX8_write_69 : decode cX8_write 69 = .ok (.iload_n 2, 1) := by decide +kernel
theorem dX8_write_70 : decode cX8_write 70 = .ok (.lload_n 3, 1) := by decide +kernel
theorem dX8_write_71 : decode cX8_write 71 = .ok (.invokevirtual 275, 3) := by decide +kernel
theorem dX8_write_74 : decode cX8_write 74 = .ok (.lload 6, 2) := by decide +kernel
theorem dX8_write_76 : decode cX8_write 76 = .ok (.lreturn, 1) := by decide +kernel
theorem dX8_paperAt_0 : decode cX8_paperAt 0 = .ok (.iload_n 1, 1) := by decide +kernel
theorem dX8_paperAt_1 : decode cX8_paperAt 1 = .ok (.ifCond .lt 8, 3) := by decide +kernel
theorem dX8_paperAt_4 : decode cX8_paperAt 4 = .ok (.iload_n 1, 1) := by decide +kernel
theorem dX8_paperAt_5 : decode cX8_paperAt 5 = .ok (.iconst 4, 1) := by decide +kernel
theorem dX8_paperAt_6 : decode cX8_paperAt 6 = .ok (.if_icmp .lt 7, 3) := by decide +kernel
theorem dX8_paperAt_9 : decode cX8_paperAt 9 = .ok (.aconst_null, 1) := by decide +kernel
theorem dX8_paperAt_10 : decode cX8_paperAt 10 = .ok (.goto 9, 3) := by decide +kernel
theorem dX8_paperAt_13 : decode cX8_paperAt 13 = .ok (.aload_n 0, 1) := by decide +kernel
theorem dX8_paperAt_14 : decode cX8_paperAt 14 = .ok (.getfield 42, 3) := by decide +kernel
theorem dX8_paperAt_17 : decode cX8_paperAt 17 = .ok (.iload_n 1, 1) := by decide +kernel
theorem dX8_paperAt_18 : decode cX8_paperAt 18 = .ok (.aaload, 1) := by decide +kernel
theorem dX8_paperAt_19 : decode cX8_paperAt 19 = .ok (.areturn, 1) := by decide +kernel
def w_c_paperAt_lt : List Cond := .code yX8_paperAt cX8_paperAt 2 (some (.object "LampShapes$Paper")) :: (([] : List Cond))
set_option maxHeartbeats 4000000 in
set_option maxRecDepth 100000 in
theorem c_paperAt_lt (l : Launch) (dC : Nat → ClassId) (dI : Nat → Nat → Nat) (ad : Nat → Nat) (h0 : Nat) (sn : Int32) (v0 : Value) (v1 : Value) (v2 : Value) (v3 : Value) (v4 : Value) (v5 : Value) (v6 : Value) (v7 : Value) (hs : sn < 0) : Met l yX8_paperAt w_c_paperAt_lt ({ frames := 0, cells := 0, slots := 0, locals := 0 } : Room) (va_Pc [.ref h0, .int sn] (preS dC dI ad [] [(h0, .inr (6, [v0, v1, v2, v3, v4, v5, v6, v7]))])) (va_Sq (fun r => (r = none))) 0 0 (fun _ => False) := by
  refine Met.ofW (cc := cX8_paperAt) (maxL := 2) (ret := (some (.object "LampShapes$Paper"))) (by decide) rfl ?_
  intro p e s m args below meth c s₁ B hml hv
  obtain ⟨rfl, hP, hK, hev⟩ := hv
  have hx := B.exec
  have hb := B.bytes
  have hr := B.returns
  have hts := atoms_spec (ws := w_c_paperAt_lt) B.pre
  have hown : s.vm.findClass RX8 = some m.cls := findClass_of_methodNamed B.named
  have hlocks := B.notSynchronized
  have hP : va_P (dC, dI) vwCl [(h0, .inr (6, [v0, v1, v2, v3, v4, v5, v6, v7]))] s.heap := hP
  have hl := lv_entry ([.ref h0, .int sn]) (n := 2) (Nat.le_of_ble_eq_true rfl)
  rw [lg_entry_eq]
  generalize (lg_sl ([.ref h0, .int sn]) ++ List.replicate (2 - (lg_sl ([.ref h0, .int sn])).length) Slot.unset).toArray = ls at hl ⊢
  have hl : lv_has ls 2 [(0, .ref h0), (1, .int sn)] := hl
  refine lv_iload_n hx hb dX8_paperAt_0 rfl (lv_at hl 1 rfl) ?_
  refine lv_if_lt (tgt := 9) hx hb dX8_paperAt_1 (by decide) (fun c_1 => ?_) (fun c_1 => ?_)
  · skip
    refine lv_null hx hb dX8_paperAt_9 ?_
    refine lv_goto (tgt := 19) hx hb dX8_paperAt_10 (by decide) ?_
    exact W.aret (v := .null) hx hb hr (Or.inl ⟨_, rfl⟩) (Or.inl rfl) (fun t ht hW => ⟨none, rfl, rfl, ht⟩) (fun _ h => absurd h List.not_mem_nil) dX8_paperAt_19
  · skip
    exfalso; simp only [fa_lt, fa_le, fa_eq, and_true, true_and, and_false, false_and, not_true_eq_false, not_false_eq_true, li_0, li_1, li_2, li_3, li_4, li_5, li_6, li_7, li_8, li_9, li_10, li_12, li_15, li_16, li_20, li_30, li_34, li_38, li_40, li_63, li_64, li_65, li_78, li_120, li_1000, li_4000, li_10000, li_11077, li_255, li_65535, li_m1, li_m2, li_m1000000001, li_m1000000002, li_m1000000003, li_m1000000004, li_m1000000005, li_m1000000006, li_m1000000007, or_true, true_or, or_false, false_or, implies_true, true_implies, false_implies] at hs c_1 <;> omega

def w_c_paperAt_gt : List Cond := .code yX8_paperAt cX8_paperAt 2 (some (.object "LampShapes$Paper")) :: (([] : List Cond))
set_option maxHeartbeats 4000000 in
set_option maxRecDepth 100000 in
theorem c_paperAt_gt (l : Launch) (dC : Nat → ClassId) (dI : Nat → Nat → Nat) (ad : Nat → Nat) (h0 : Nat) (sn : Int32) (v0 : Value) (v1 : Value) (v2 : Value) (v3 : Value) (v4 : Value) (v5 : Value) (v6 : Value) (v7 : Value) (hs : 3 < sn) : Met l yX8_paperAt w_c_paperAt_gt ({ frames := 0, cells := 0, slots := 0, locals := 0 } : Room) (va_Pc [.ref h0, .int sn] (preS dC dI ad [] [(h0, .inr (6, [v0, v1, v2, v3, v4, v5, v6, v7]))])) (va_Sq (fun r => (r = none))) 0 0 (fun _ => False) := by
  refine Met.ofW (cc := cX8_paperAt) (maxL := 2) (ret := (some (.object "LampShapes$Paper"))) (by decide) rfl ?_
  intro p e s m args below meth c s₁ B hml hv
  obtain ⟨rfl, hP, hK, hev⟩ := hv
  have hx := B.exec
  have hb := B.bytes
  have hr := B.returns
  have hts := atoms_spec (ws := w_c_paperAt_gt) B.pre
  have hown : s.vm.findClass RX8 = some m.cls := findClass_of_methodNamed B.named
  have hlocks := B.notSynchronized
  have hP : va_P (dC, dI) vwCl [(h0, .inr (6, [v0, v1, v2, v3, v4, v5, v6, v7]))] s.heap := hP
  have hl := lv_entry ([.ref h0, .int sn]) (n := 2) (Nat.le_of_ble_eq_true rfl)
  rw [lg_entry_eq]
  generalize (lg_sl ([.ref h0, .int sn]) ++ List.replicate (2 - (lg_sl ([.ref h0, .int sn])).length) Slot.unset).toArray = ls at hl ⊢
  have hl : lv_has ls 2 [(0, .ref h0), (1, .int sn)] := hl
  refine lv_iload_n hx hb dX8_paperAt_0 rfl (lv_at hl 1 rfl) ?_
  refine lv_if_lt (tgt := 9) hx hb dX8_paperAt_1 (by decide) (fun c_1 => ?_) (fun c_1 => ?_)
  · skip
    exfalso; simp only [fa_lt, fa_le, fa_eq, and_true, true_and, and_false, false_and, not_true_eq_false, not_false_eq_true, li_0, li_1, li_2, li_3, li_4, li_5, li_6, li_7, li_8, li_9, li_10, li_12, li_15, li_16, li_20, li_30, li_34, li_38, li_40, li_63, li_64, li_65, li_78, li_120, li_1000, li_4000, li_10000, li_11077, li_255, li_65535, li_m1, li_m2, li_m1000000001, li_m1000000002, li_m1000000003, li_m1000000004, li_m1000000005, li_m1000000006, li_m1000000007, or_true, true_or, or_false, false_or, implies_true, true_implies, false_implies] at hs c_1 <;> omega
  · skip
    refine lv_iload_n hx hb dX8_paperAt_4 rfl (lv_at hl 1 rfl) ?_
    refine lv_iconst (v := 4) hx hb dX8_paperAt_5 (by decide) ?_
    refine lv_icmp_lt (tgt := 13) hx hb dX8_paperAt_6 (by decide) (fun c_2 => ?_) (fun c_2 => ?_)
    · skip
      exfalso; simp only [fa_lt, fa_le, fa_eq, and_true, true_and, and_false, false_and, not_true_eq_false, not_false_eq_true, li_0, li_1, li_2, li_3, li_4, li_5, li_6, li_7, li_8, li_9, li_10, li_12, li_15, li_16, li_20, li_30, li_34, li_38, li_40, li_63, li_64, li_65, li_78, li_120, li_1000, li_4000, li_10000, li_11077, li_255, li_65535, li_m1, li_m2, li_m1000000001, li_m1000000002, li_m1000000003, li_m1000000004, li_m1000000005, li_m1000000006, li_m1000000007, or_true, true_or, or_false, false_or, implies_true, true_implies, false_implies] at hs c_1 c_2 <;> omega
    · skip
      refine lv_null hx hb dX8_paperAt_9 ?_
      refine lv_goto (tgt := 19) hx hb dX8_paperAt_10 (by decide) ?_
      exact W.aret (v := .null) hx hb hr (Or.inl ⟨_, rfl⟩) (Or.inl rfl) (fun t ht hW => ⟨none, rfl, rfl, ht⟩) (fun _ h => absurd h List.not_mem_nil) dX8_paperAt_19

def w_c_paperAt_0 : List Cond := .code yX8_paperAt cX8_paperAt 2 (some (.object "LampShapes$Paper")) :: (([.fieldLink RX8 42 "LampShapes" "papers" "[LLampShapes$Paper;"] : List Cond) ++ wsX80)
set_option maxHeartbeats 4000000 in
set_option maxRecDepth 100000 in
theorem c_paperAt_0 (l : Launch) (dC : Nat → ClassId) (dI : Nat → Nat → Nat) (ad : Nat → Nat) (h0 : Nat) (v0 : Value) (v1 : Value) (v2 : Value) (v3 : Value) (v4 : Value) (ph : Nat) (v6 : Value) (v7 : Value) (pc : ClassId) (pf : Nat → Option Nat) (pp : Nat) (hpp : pf 0 = (some pp)) : Met l yX8_paperAt w_c_paperAt_0 ({ frames := 0, cells := 0, slots := 0, locals := 0 } : Room) (va_Pc [.ref h0, .int 0] (preS dC dI ad [(pc, .object "LampShapes$Paper")] [(h0, .inr (6, [v0, v1, v2, v3, v4, .ref ph, v6, v7])), (ph, .inl (pc, 4, .inr (.inr (.inr (.inr pf)))))])) (va_Sq (fun r => (r = (some pp)))) 0 0 (fun _ => False) := by
  refine Met.ofW (cc := cX8_paperAt) (maxL := 2) (ret := (some (.object "LampShapes$Paper"))) (by decide) rfl ?_
  intro p e s m args below meth c s₁ B hml hv
  obtain ⟨rfl, hP, hK, hev⟩ := hv
  have hx := B.exec
  have hb := B.bytes
  have hr := B.returns
  have hts := atoms_spec (ws := w_c_paperAt_0) B.pre
  have hown : s.vm.findClass RX8 = some m.cls := findClass_of_methodNamed B.named
  have hlocks := B.notSynchronized
  have inX8 : ∀ w ∈ wsX80, w ∈ w_c_paperAt_0 := fun w h => List.mem_cons_of_mem _ (List.mem_append_right _ h)
  have hP : va_P (dC, dI) vwCl [(h0, .inr (6, [v0, v1, v2, v3, v4, .ref ph, v6, v7])), (ph, .inl (pc, 4, .inr (.inr (.inr (.inr pf)))))] s.heap := hP
  have hl := lv_entry ([.ref h0, .int 0]) (n := 2) (Nat.le_of_ble_eq_true rfl)
  rw [lg_entry_eq]
  generalize (lg_sl ([.ref h0, .int 0]) ++ List.replicate (2 - (lg_sl ([.ref h0, .int 0])).length) Slot.unset).toArray = ls at hl ⊢
  have hl : lv_has ls 2 [(0, .ref h0), (1, .int 0)] := hl
  refine lv_iload_n hx hb dX8_paperAt_0 rfl (lv_at hl 1 rfl) ?_
  refine lv_if_lt (tgt := 9) hx hb dX8_paperAt_1 (by decide) (fun c => absurd c (by decide)) (fun _ => ?_)
  refine lv_iload_n hx hb dX8_paperAt_4 rfl (lv_at hl 1 rfl) ?_
  refine lv_iconst (v := 4) hx hb dX8_paperAt_5 (by decide) ?_
  refine lv_icmp_lt (tgt := 13) hx hb dX8_paperAt_6 (by decide) (fun _ => ?_) (fun c => absurd (by decide) c)
  refine lv_aload_n hx hb dX8_paperAt_13 rfl (lv_at hl 0 rfl) ?_
  refine va_get (D := (dC, dI)) (ci := 6) (v := .ref ph) (C := RX8) (T := TX8) (N := 8) hx hb hts inX8 hown hK hP 0 rfl rfl 5 (by decide) (hts _ (List.mem_of_getElem? (i := 1) rfl)) (fun _ h9 => h9) rfl dX8_paperAt_14 ?_
  refine lv_iload_n hx hb dX8_paperAt_17 rfl (lv_at hl 1 rfl) ?_
  refine va_aldq hx hb hK hP 1 0 rfl rfl (vp_in_nI (n := 0) (by decide) (by decide)) dX8_paperAt_18 ?_
  refine pp_tv (y := .ref pp) (congrArg va_rf hpp) ?_
  exact W.aret (v := .ref pp) hx hb hr (Or.inl ⟨_, rfl⟩) (Or.inr ⟨_, rfl⟩) (fun t ht hW => ⟨some pp, rfl, rfl, ht⟩) (fun _ h => absurd h List.not_mem_nil) dX8_paperAt_19

def w_c_paperAt_1 : List Cond := .code yX8_paperAt cX8_paperAt 2 (some (.object "LampShapes$Paper")) :: (([.fieldLink RX8 42 "LampShapes" "papers" "[LLampShapes$Paper;"] : List Cond) ++ wsX80)
set_option maxHeartbeats 4000000 in
set_option maxRecDepth 100000 in
theorem c_paperAt_1 (l : Launch) (dC : Nat → ClassId) (dI : Nat → Nat → Nat) (ad : Nat → Nat) (h0 : Nat) (v0 : Value) (v1 : Value) (v2 : Value) (v3 : Value) (v4 : Value) (ph : Nat) (v6 : Value) (v7 : Value) (pc : ClassId) (pf : Nat → Option Nat) (pp : Nat) (hpp : pf 1 = (some pp)) : Met l yX8_paperAt w_c_paperAt_1 ({ frames := 0, cells := 0, slots := 0, locals := 0 } : Room) (va_Pc [.ref h0, .int 1] (preS dC dI ad [(pc, .object "LampShapes$Paper")] [(h0, .inr (6, [v0, v1, v2, v3, v4, .ref ph, v6, v7])), (ph, .inl (pc, 4, .inr (.inr (.inr (.inr pf)))))])) (va_Sq (fun r => (r = (some pp)))) 0 0 (fun _ => False) := by
  refine Met.ofW (cc := cX8_paperAt) (maxL := 2) (ret := (some (.object "LampShapes$Paper"))) (by decide) rfl ?_
  intro p e s m args below meth c s₁ B hml hv
  obtain ⟨rfl, hP, hK, hev⟩ := hv
  have hx := B.exec
  have hb := B.bytes
  have hr := B.returns
  have hts := atoms_spec (ws := w_c_paperAt_1) B.pre
  have hown : s.vm.findClass RX8 = some m.cls := findClass_of_methodNamed B.named
  have hlocks := B.notSynchronized
  have inX8 : ∀ w ∈ wsX80, w ∈ w_c_paperAt_1 := fun w h => List.mem_cons_of_mem _ (List.mem_append_right _ h)
  have hP : va_P (dC, dI) vwCl [(h0, .inr (6, [v0, v1, v2, v3, v4, .ref ph, v6, v7])), (ph, .inl (pc, 4, .inr (.inr (.inr (.inr pf)))))] s.heap := hP
  have hl := lv_entry ([.ref h0, .int 1]) (n := 2) (Nat.le_of_ble_eq_true rfl)
  rw [lg_entry_eq]
  generalize (lg_sl ([.ref h0, .int 1]) ++ List.replicate (2 - (lg_sl ([.ref h0, .int 1])).length) Slot.unset).toArray = ls at hl ⊢
  have hl : lv_has ls 2 [(0, .ref h0), (1, .int 1)] := hl
  refine lv_iload_n hx hb dX8_paperAt_0 rfl (lv_at hl 1 rfl) ?_
  refine lv_if_lt (tgt := 9) hx hb dX8_paperAt_1 (by decide) (fun c => absurd c (by decide)) (fun _ => ?_)
  refine lv_iload_n hx hb dX8_paperAt_4 rfl (lv_at hl 1 rfl) ?_
  refine lv_iconst (v := 4) hx hb dX8_paperAt_5 (by decide) ?_
  refine lv_icmp_lt (tgt := 13) hx hb dX8_paperAt_6 (by decide) (fun _ => ?_) (fun c => absurd (by decide) c)
  refine lv_aload_n hx hb dX8_paperAt_13 rfl (lv_at hl 0 rfl) ?_
  refine va_get (D := (dC, dI)) (ci := 6) (v := .ref ph) (C := RX8) (T := TX8) (N := 8) hx hb hts inX8 hown hK hP 0 rfl rfl 5 (by decide) (hts _ (List.mem_of_getElem? (i := 1) rfl)) (fun _ h9 => h9) rfl dX8_paperAt_14 ?_
  refine lv_iload_n hx hb dX8_paperAt_17 rfl (lv_at hl 1 rfl) ?_
  refine va_aldq hx hb hK hP 1 0 rfl rfl (vp_in_nI (n := 1) (by decide) (by decide)) dX8_paperAt_18 ?_
  refine pp_tv (y := .ref pp) (congrArg va_rf hpp) ?_
  exact W.aret (v := .ref pp) hx hb hr (Or.inl ⟨_, rfl⟩) (Or.inr ⟨_, rfl⟩) (fun t ht hW => ⟨some pp, rfl, rfl, ht⟩) (fun _ h => absurd h List.not_mem_nil) dX8_paperAt_19

def w_c_paperAt_2 : List Cond := .code yX8_paperAt cX8_paperAt 2 (some (.object "LampShapes$Paper")) :: (([.fieldLink RX8 42 "LampShapes" "papers" "[LLampShapes$Paper;"] : List Cond) ++ wsX80)
set_option maxHeartbeats 4000000 in
set_option maxRecDepth 100000 in
theorem c_paperAt_2 (l : Launch) (dC : Nat → ClassId) (dI : Nat → Nat → Nat) (ad : Nat → Nat) (h0 : Nat) (v0 : Value) (v1 : Value) (v2 : Value) (v3 : Value) (v4 : Value) (ph : Nat) (v6 : Value) (v7 : Value) (pc : ClassId) (pf : Nat → Option Nat) (pp : Nat) (hpp : pf 2 = (some pp)) : Met l yX8_paperAt w_c_paperAt_2 ({ frames := 0, cells := 0, slots := 0, locals := 0 } : Room) (va_Pc [.ref h0, .int 2] (preS dC dI ad [(pc, .object "LampShapes$Paper")] [(h0, .inr (6, [v0, v1, v2, v3, v4, .ref ph, v6, v7])), (ph, .inl (pc, 4, .inr (.inr (.inr (.inr pf)))))])) (va_Sq (fun r => (r = (some pp)))) 0 0 (fun _ => False) := by
  refine Met.ofW (cc := cX8_paperAt) (maxL := 2) (ret := (some (.object "LampShapes$Paper"))) (by decide) rfl ?_
  intro p e s m args below meth c s₁ B hml hv
  obtain ⟨rfl, hP, hK, hev⟩ := hv
  have hx := B.exec
  have hb := B.bytes
  have hr := B.returns
  have hts := atoms_spec (ws := w_c_paperAt_2) B.pre
  have hown : s.vm.findClass RX8 = some m.cls := findClass_of_methodNamed B.named
  have hlocks := B.notSynchronized
  have inX8 : ∀ w ∈ wsX80, w ∈ w_c_paperAt_2 := fun w h => List.mem_cons_of_mem _ (List.mem_append_right _ h)
  have hP : va_P (dC, dI) vwCl [(h0, .inr (6, [v0, v1, v2, v3, v4, .ref ph, v6, v7])), (ph, .inl (pc, 4, .inr (.inr (.inr (.inr pf)))))] s.heap := hP
  have hl := lv_entry ([.ref h0, .int 2]) (n := 2) (Nat.le_of_ble_eq_true rfl)
  rw [lg_entry_eq]
  generalize (lg_sl ([.ref h0, .int 2]) ++ List.replicate (2 - (lg_sl ([.ref h0, .int 2])).length) Slot.unset).toArray = ls at hl ⊢
  have hl : lv_has ls 2 [(0, .ref h0), (1, .int 2)] := hl
  refine lv_iload_n hx hb dX8_paperAt_0 rfl (lv_at hl 1 rfl) ?_
  refine lv_if_lt (tgt := 9) hx hb dX8_paperAt_1 (by decide) (fun c => absurd c (by decide)) (fun _ => ?_)
  refine lv_iload_n hx hb dX8_paperAt_4 rfl (lv_at hl 1 rfl) ?_
  refine lv_iconst (v := 4) hx hb dX8_paperAt_5 (by decide) ?_
  refine lv_icmp_lt (tgt := 13) hx hb dX8_paperAt_6 (by decide) (fun _ => ?_) (fun c => absurd (by decide) c)
  refine lv_aload_n hx hb dX8_paperAt_13 rfl (lv_at hl 0 rfl) ?_
  refine va_get (D := (dC, dI)) (ci := 6) (v := .ref ph) (C := RX8) (T := TX8) (N := 8) hx hb hts inX8 hown hK hP 0 rfl rfl 5 (by decide) (hts _ (List.mem_of_getElem? (i := 1) rfl)) (fun _ h9 => h9) rfl dX8_paperAt_14 ?_
  refine lv_iload_n hx hb dX8_paperAt_17 rfl (lv_at hl 1 rfl) ?_
  refine va_aldq hx hb hK hP 1 0 rfl rfl (vp_in_nI (n := 2) (by decide) (by decide)) dX8_paperAt_18 ?_
  refine pp_tv (y := .ref pp) (congrArg va_rf hpp) ?_
  exact W.aret (v := .ref pp) hx hb hr (Or.inl ⟨_, rfl⟩) (Or.inr ⟨_, rfl⟩) (fun t ht hW => ⟨some pp, rfl, rfl, ht⟩) (fun _ h => absurd h List.not_mem_nil) dX8_paperAt_19

def w_c_paperAt_3 : List Cond := .code yX8_paperAt cX8_paperAt 2 (some (.object "LampShapes$Paper")) :: (([.fieldLink RX8 42 "LampShapes" "papers" "[LLampShapes$Paper;"] : List Cond) ++ wsX80)
set_option maxHeartbeats 4000000 in
set_option maxRecDepth 100000 in
theorem c_paperAt_3 (l : Launch) (dC : Nat → ClassId) (dI : Nat → Nat → Nat) (ad : Nat → Nat) (h0 : Nat) (v0 : Value) (v1 : Value) (v2 : Value) (v3 : Value) (v4 : Value) (ph : Nat) (v6 : Value) (v7 : Value) (pc : ClassId) (pf : Nat → Option Nat) (pp : Nat) (hpp : pf 3 = (some pp)) : Met l yX8_paperAt w_c_paperAt_3 ({ frames := 0, cells := 0, slots := 0, locals := 0 } : Room) (va_Pc [.ref h0, .int 3] (preS dC dI ad [(pc, .object "LampShapes$Paper")] [(h0, .inr (6, [v0, v1, v2, v3, v4, .ref ph, v6, v7])), (ph, .inl (pc, 4, .inr (.inr (.inr (.inr pf)))))])) (va_Sq (fun r => (r = (some pp)))) 0 0 (fun _ => False) := by
  refine Met.ofW (cc := cX8_paperAt) (maxL := 2) (ret := (some (.object "LampShapes$Paper"))) (by decide) rfl ?_
  intro p e s m args below meth c s₁ B hml hv
  obtain ⟨rfl, hP, hK, hev⟩ := hv
  have hx := B.exec
  have hb := B.bytes
  have hr := B.returns
  have hts := atoms_spec (ws := w_c_paperAt_3) B.pre
  have hown : s.vm.findClass RX8 = some m.cls := findClass_of_methodNamed B.named
  have hlocks := B.notSynchronized
  have inX8 : ∀ w ∈ wsX80, w ∈ w_c_paperAt_3 := fun w h => List.mem_cons_of_mem _ (List.mem_append_right _ h)
  have hP : va_P (dC, dI) vwCl [(h0, .inr (6, [v0, v1, v2, v3, v4, .ref ph, v6, v7])), (ph, .inl (pc, 4, .inr (.inr (.inr (.inr pf)))))] s.heap := hP
  have hl := lv_entry ([.ref h0, .int 3]) (n := 2) (Nat.le_of_ble_eq_true rfl)
  rw [lg_entry_eq]
  generalize (lg_sl ([.ref h0, .int 3]) ++ List.replicate (2 - (lg_sl ([.ref h0, .int 3])).length) Slot.unset).toArray = ls at hl ⊢
  have hl : lv_has ls 2 [(0, .ref h0), (1, .int 3)] := hl
  refine lv_iload_n hx hb dX8_paperAt_0 rfl (lv_at hl 1 rfl) ?_
  refine lv_if_lt (tgt := 9) hx hb dX8_paperAt_1 (by decide) (fun c => absurd c (by decide)) (fun _ => ?_)
  refine lv_iload_n hx hb dX8_paperAt_4 rfl (lv_at hl 1 rfl) ?_
  refine lv_iconst (v := 4) hx hb dX8_paperAt_5 (by decide) ?_
  refine lv_icmp_lt (tgt := 13) hx hb dX8_paperAt_6 (by decide) (fun _ => ?_) (fun c => absurd (by decide) c)
  refine lv_aload_n hx hb dX8_paperAt_13 rfl (lv_at hl 0 rfl) ?_
  refine va_get (D := (dC, dI)) (ci := 6) (v := .ref ph) (C := RX8) (T := TX8) (N := 8) hx hb hts inX8 hown hK hP 0 rfl rfl 5 (by decide) (hts _ (List.mem_of_getElem? (i := 1) rfl)) (fun _ h9 => h9) rfl dX8_paperAt_14 ?_
  refine lv_iload_n hx hb dX8_paperAt_17 rfl (lv_at hl 1 rfl) ?_
  refine va_aldq hx hb hK hP 1 0 rfl rfl (vp_in_nI (n := 3) (by decide) (by decide)) dX8_paperAt_18 ?_
  refine pp_tv (y := .ref pp) (congrArg va_rf hpp) ?_
  exact W.aret (v := .ref pp) hx hb hr (Or.inl ⟨_, rfl⟩) (Or.inr ⟨_, rfl⟩) (fun t ht hW => ⟨some pp, rfl, rfl, ht⟩) (fun _ h => absurd h List.not_mem_nil) dX8_paperAt_19

def w_x_sheet : List Cond := .code yX8_sheet cX8_sheet 5 (some .int) :: (([.methodLink RX8 256 yX8_paperAt, .instanceMethod yX8_paperAt, .selects RX8 yX8_paperAt yX8_paperAt, .initialized RX8, .code yX8_paperAt cX8_paperAt 2 (some (.object "LampShapes$Paper")), .constant RX8 62 (-1000000001), .methodLink RX8 63 yX8_finding, .instanceMethod yX8_finding, .selects RX8 yX8_finding yX8_finding, .code yX8_finding cX8_finding 3 (some .int), .fieldLink RX8 46 "LampShapes" "told" "[I", .fieldLink RX8 42 "LampShapes" "papers" "[LLampShapes$Paper;", .methodLink RX8 260 yX8_isWidth, .static yX8_isWidth, .code yX8_isWidth cX8_isWidth 1 (some .boolean), .methodLink RX8 263 yX2_renew, .instanceMethod yX2_renew, .selects RX2 yX2_renew yX2_renew, .initialized RX2, .code yX2_renew cX2_renew 4 none, .fieldLink RX2 9 "LampShapes$Paper" "bits" "I", .fieldLink RX2 15 "LampShapes$Paper" "size" "I", .fieldLink RX2 18 "LampShapes$Paper" "numbers" "[J", .constant RX8 210 (-1000000007)] : List Cond) ++ wsX80 ++ wsX20)
set_option maxRecDepth 20000 in
theorem g_x_sheet_c_paperAt_lt_256 : GoodIn w_x_sheet (wsV RX8 256 RX8 yX8_paperAt w_c_paperAt_lt) := goodIn_r _ [1, 2, 3, 4, 5] rfl (by decide +kernel)
set_option maxRecDepth 20000 in
theorem g_x_sheet_f_beyond_63 : GoodIn w_x_sheet (wsV RX8 63 RX8 yX8_finding w_f_beyond) := goodIn_r _ [7, 8, 9, 4, 10, 6, 11, 25, 26, 27, 28, 29, 30, 31, 32] rfl (by decide +kernel)
set_option maxRecDepth 20000 in
theorem g_x_sheet_c_paperAt_gt_256 : GoodIn w_x_sheet (wsV RX8 256 RX8 yX8_paperAt w_c_paperAt_gt) := goodIn_r _ [1, 2, 3, 4, 5] rfl (by decide +kernel)
set_option maxRecDepth 20000 in
theorem g_x_sheet_c_paperAt_0_256 : GoodIn w_x_sheet (wsV RX8 256 RX8 yX8_paperAt w_c_paperAt_0) := goodIn_r _ [1, 2, 3, 4, 5, 12, 25, 26, 27, 28, 29, 30, 31, 32] rfl (by decide +kernel)
set_option maxRecDepth 20000 in
theorem g_x_sheet_x_isWidth_260 : GoodIn w_x_sheet (va_wsS RX8 260 yX8_isWidth w_x_isWidth) := goodIn_r _ [13, 14, 4, 15] rfl (by decide +kernel)
set_option maxRecDepth 20000 in
theorem g_x_sheet_p_renew_263 : GoodIn w_x_sheet (wsV RX8 263 RX2 yX2_renew w_p_renew) := goodIn_r _ [16, 17, 18, 19, 20, 21, 22, 23, 33, 34, 35] rfl (by decide +kernel)
set_option maxRecDepth 20000 in
theorem g_x_sheet_f_size_63 : GoodIn w_x_sheet (wsV RX8 63 RX8 yX8_finding w_f_size) := goodIn_r _ [7, 8, 9, 4, 10, 6, 11, 25, 26, 27, 28, 29, 30, 31, 32] rfl (by decide +kernel)
set_option maxRecDepth 20000 in
theorem g_x_sheet_c_paperAt_1_256 : GoodIn w_x_sheet (wsV RX8 256 RX8 yX8_paperAt w_c_paperAt_1) := goodIn_r _ [1, 2, 3, 4, 5, 12, 25, 26, 27, 28, 29, 30, 31, 32] rfl (by decide +kernel)
set_option maxRecDepth 20000 in
theorem g_x_sheet_c_paperAt_2_256 : GoodIn w_x_sheet (wsV RX8 256 RX8 yX8_paperAt w_c_paperAt_2) := goodIn_r _ [1, 2, 3, 4, 5, 12, 25, 26, 27, 28, 29, 30, 31, 32] rfl (by decide +kernel)
set_option maxRecDepth 20000 in
theorem g_x_sheet_c_paperAt_3_256 : GoodIn w_x_sheet (wsV RX8 256 RX8 yX8_paperAt w_c_paperAt_3) := goodIn_r _ [1, 2, 3, 4, 5, 12, 25, 26, 27, 28, 29, 30, 31, 32] rfl (by decide +kernel)
set_option maxHeartbeats 4000000 in
set_option maxRecDepth 100000 in
theorem x_sheet (l : Launch) (dC : Nat → ClassId) (dI : Nat → Nat → Nat) (ad : Nat → Nat) (h0 : Nat) (sn : Int32) (b : Int32) (n : Int32) (v0 : Value) (v1 : Value) (v2 : Value) (v3 : Value) (v4 : Value) (ph : Nat) (t0 : Nat) (v7 : Value) (tc : ClassId) (tf : Nat → Int32) (pc : ClassId) (pf : Nat → Option Nat) (p0 : Nat) (b0 : Int32) (z0 : Int32) (n0 : Nat) (nc0 : ClassId) (g0 : Nat → Int64) (p1 : Nat) (b1 : Int32) (z1 : Int32) (n1 : Nat) (nc1 : ClassId) (g1 : Nat → Int64) (p2 : Nat) (b2 : Int32) (z2 : Int32) (n2 : Nat) (nc2 : ClassId) (g2 : Nat → Int64) (p3 : Nat) (b3 : Int32) (z3 : Int32) (n3 : Nat) (nc3 : ClassId) (g3 : Nat → Int64) (sz : Nat) (hp0 : pf 0 = (some p0)) (hp1 : pf 1 = (some p1)) (hp2 : pf 2 = (some p2)) (hp3 : pf 3 = (some p3)) (hz0 : 0 ≤ z0.toInt ∧ z0.toInt ≤ 40) (hz1 : 0 ≤ z1.toInt ∧ z1.toInt ≤ 40) (hz2 : 0 ≤ z2.toInt ∧ z2.toInt ≤ 40) (hz3 : 0 ≤ z3.toInt ∧ z3.toInt ≤ 40) : Met l yX8_sheet w_x_sheet ({ frames := 1, cells := 0, slots := 0, locals := 23 } : Room) (va_Pc [.ref h0, .int sn, .int b, .int n] (preM dC dI ad [(tc, .int), (pc, .object "LampShapes$Paper"), (nc0, .long), (nc1, .long), (nc2, .long), (nc3, .long)] [(h0, .inr (6, [v0, v1, v2, v3, v4, .ref ph, .ref t0, v7])), (t0, .inl (tc, 7, .inl tf)), (ph, .inl (pc, 4, .inr (.inr (.inr (.inr pf))))), (p0, .inr (0, [.int b0, .int z0, .ref n0])), (n0, .inl (nc0, 40, .inr (.inl g0))), (p1, .inr (0, [.int b1, .int z1, .ref n1])), (n1, .inl (nc1, 40, .inr (.inl g1))), (p2, .inr (0, [.int b2, .int z2, .ref n2])), (n2, .inl (nc2, 40, .inr (.inl g2))), (p3, .inr (0, [.int b3, .int z3, .ref n3])), (n3, .inl (nc3, 40, .inr (.inl g3)))] sz)) (va_Qi (fun (r : Int32) (_ : Unit) => True) (fun _ t => ∃ (tg : Nat → Int32), ∃ (b0x : Int32), ∃ (z0x : Int32), ∃ (b1x : Int32), ∃ (z1x : Int32), ∃ (b2x : Int32), ∃ (z2x : Int32), ∃ (b3x : Int32), ∃ (z3x : Int32), ∃ (g0y : Nat → Int64), ∃ (g1y : Nat → Int64), ∃ (g2y : Nat → Int64), ∃ (g3y : Nat → Int64), (((0 ≤ sn.toInt ∧ sn.toInt ≤ 3 ∧ (b.toInt = 0 ∨ b.toInt = 8 ∨ b.toInt = 16 ∨ b.toInt = 64) ∧ 0 ≤ n.toInt ∧ n.toInt ≤ 40) ∧ sn.toInt = 0 → b0x.toInt = b.toInt ∧ ((b.toInt = 0 → z0x.toInt = 0) ∧ (¬ b.toInt = 0 → z0x.toInt = n.toInt))) ∧ (¬ ((0 ≤ sn.toInt ∧ sn.toInt ≤ 3 ∧ (b.toInt = 0 ∨ b.toInt = 8 ∨ b.toInt = 16 ∨ b.toInt = 64) ∧ 0 ≤ n.toInt ∧ n.toInt ≤ 40) ∧ sn.toInt = 0) → b0x.toInt = b0.toInt ∧ z0x.toInt = z0.toInt)) ∧ (((0 ≤ sn.toInt ∧ sn.toInt ≤ 3 ∧ (b.toInt = 0 ∨ b.toInt = 8 ∨ b.toInt = 16 ∨ b.toInt = 64) ∧ 0 ≤ n.toInt ∧ n.toInt ≤ 40) ∧ sn.toInt = 1 → b1x.toInt = b.toInt ∧ ((b.toInt = 0 → z1x.toInt = 0) ∧ (¬ b.toInt = 0 → z1x.toInt = n.toInt))) ∧ (¬ ((0 ≤ sn.toInt ∧ sn.toInt ≤ 3 ∧ (b.toInt = 0 ∨ b.toInt = 8 ∨ b.toInt = 16 ∨ b.toInt = 64) ∧ 0 ≤ n.toInt ∧ n.toInt ≤ 40) ∧ sn.toInt = 1) → b1x.toInt = b1.toInt ∧ z1x.toInt = z1.toInt)) ∧ (((0 ≤ sn.toInt ∧ sn.toInt ≤ 3 ∧ (b.toInt = 0 ∨ b.toInt = 8 ∨ b.toInt = 16 ∨ b.toInt = 64) ∧ 0 ≤ n.toInt ∧ n.toInt ≤ 40) ∧ sn.toInt = 2 → b2x.toInt = b.toInt ∧ ((b.toInt = 0 → z2x.toInt = 0) ∧ (¬ b.toInt = 0 → z2x.toInt = n.toInt))) ∧ (¬ ((0 ≤ sn.toInt ∧ sn.toInt ≤ 3 ∧ (b.toInt = 0 ∨ b.toInt = 8 ∨ b.toInt = 16 ∨ b.toInt = 64) ∧ 0 ≤ n.toInt ∧ n.toInt ≤ 40) ∧ sn.toInt = 2) → b2x.toInt = b2.toInt ∧ z2x.toInt = z2.toInt)) ∧ (((0 ≤ sn.toInt ∧ sn.toInt ≤ 3 ∧ (b.toInt = 0 ∨ b.toInt = 8 ∨ b.toInt = 16 ∨ b.toInt = 64) ∧ 0 ≤ n.toInt ∧ n.toInt ≤ 40) ∧ sn.toInt = 3 → b3x.toInt = b.toInt ∧ ((b.toInt = 0 → z3x.toInt = 0) ∧ (¬ b.toInt = 0 → z3x.toInt = n.toInt))) ∧ (¬ ((0 ≤ sn.toInt ∧ sn.toInt ≤ 3 ∧ (b.toInt = 0 ∨ b.toInt = 8 ∨ b.toInt = 16 ∨ b.toInt = 64) ∧ 0 ≤ n.toInt ∧ n.toInt ≤ 40) ∧ sn.toInt = 3) → b3x.toInt = b3.toInt ∧ z3x.toInt = z3.toInt)) ∧ va_P (dC, dI) vwCl [(h0, .inr (6, [v0, v1, v2, v3, v4, .ref ph, .ref t0, v7])), (t0, .inl (tc, 7, .inl tg)), (ph, .inl (pc, 4, .inr (.inr (.inr (.inr pf))))), (p0, .inr (0, [.int b0x, .int z0x, .ref n0])), (n0, .inl (nc0, 40, .inr (.inl g0y))), (p1, .inr (0, [.int b1x, .int z1x, .ref n1])), (n1, .inl (nc1, 40, .inr (.inl g1y))), (p2, .inr (0, [.int b2x, .int z2x, .ref n2])), (n2, .inl (nc2, 40, .inr (.inl g2y))), (p3, .inr (0, [.int b3x, .int z3x, .ref n3])), (n3, .inl (nc3, 40, .inr (.inl g3y)))] t.heap ∧ va_K (dC, dI) vwCl [(tc, .int), (pc, .object "LampShapes$Paper"), (nc0, .long), (nc1, .long), (nc2, .long), (nc3, .long)] t ∧ va_D (va_A [(h0, .inr (6, [v0, v1, v2, v3, v4, .ref ph, .ref t0, v7])), (t0, .inl (tc, 7, .inl tf)), (ph, .inl (pc, 4, .inr (.inr (.inr (.inr pf))))), (p0, .inr (0, [.int b0, .int z0, .ref n0])), (n0, .inl (nc0, 40, .inr (.inl g0))), (p1, .inr (0, [.int b1, .int z1, .ref n1])), (n1, .inl (nc1, 40, .inr (.inl g1))), (p2, .inr (0, [.int b2, .int z2, .ref n2])), (n2, .inl (nc2, 40, .inr (.inl g2))), (p3, .inr (0, [.int b3, .int z3, .ref n3])), (n3, .inl (nc3, 40, .inr (.inl g3)))] sz) [(h0, .inr (6, [v0, v1, v2, v3, v4, .ref ph, .ref t0, v7])), (t0, .inl (tc, 7, .inl tg)), (ph, .inl (pc, 4, .inr (.inr (.inr (.inr pf))))), (p0, .inr (0, [.int b0x, .int z0x, .ref n0])), (n0, .inl (nc0, 40, .inr (.inl g0y))), (p1, .inr (0, [.int b1x, .int z1x, .ref n1])), (n1, .inl (nc1, 40, .inr (.inl g1y))), (p2, .inr (0, [.int b2x, .int z2x, .ref n2])), (n2, .inl (nc2, 40, .inr (.inl g2y))), (p3, .inr (0, [.int b3x, .int z3x, .ref n3])), (n3, .inl (nc3, 40, .inr (.inl g3y)))]) (va_A [(h0, .inr (6, [v0, v1, v2, v3, v4, .ref ph, .ref t0, v7])), (t0, .inl (tc, 7, .inl tf)), (ph, .inl (pc, 4, .inr (.inr (.inr (.inr pf))))), (p0, .inr (0, [.int b0, .int z0, .ref n0])), (n0, .inl (nc0, 40, .inr (.inl g0))), (p1, .inr (0, [.int b1, .int z1, .ref n1])), (n1, .inl (nc1, 40, .inr (.inl g1))), (p2, .inr (0, [.int b2, .int z2, .ref n2])), (n2, .inl (nc2, 40, .inr (.inl g2))), (p3, .inr (0, [.int b3, .int z3, .ref n3])), (n3, .inl (nc3, 40, .inr (.inl g3)))] sz)) 0 0 (va_A [(h0, .inr (6, [v0, v1, v2, v3, v4, .ref ph, .ref t0, v7])), (t0, .inl (tc, 7, .inl tf)), (ph, .inl (pc, 4, .inr (.inr (.inr (.inr pf))))), (p0, .inr (0, [.int b0, .int z0, .ref n0])), (n0, .inl (nc0, 40, .inr (.inl g0))), (p1, .inr (0, [.int b1, .int z1, .ref n1])), (n1, .inl (nc1, 40, .inr (.inl g1))), (p2, .inr (0, [.int b2, .int z2, .ref n2])), (n2, .inl (nc2, 40, .inr (.inl g2))), (p3, .inr (0, [.int b3, .int z3, .ref n3])), (n3, .inl (nc3, 40, .inr (.inl g3)))] sz) := by
  rcases pp_c_0_3 sn with hlt0 | hgt0 | rfl | rfl | rfl | rfl
  · skip
    refine Met.ofW (cc := cX8_sheet) (maxL := 5) (ret := (some .int)) (by decide) rfl ?_
    intro p e s m args below meth c s₁ B hml hv
    obtain ⟨rfl, hsz, hP, hK, hD0, hev⟩ := hv
    have hx := B.exec
    have hb := B.bytes
    have hr := B.returns
    have hts := atoms_spec (ws := w_x_sheet) B.pre
    have hown : s.vm.findClass RX8 = some m.cls := findClass_of_methodNamed B.named
    have hlocks := B.notSynchronized
    have inX8 : ∀ w ∈ wsX80, w ∈ w_x_sheet := fun w h => List.mem_cons_of_mem _ (List.mem_append_left _ (List.mem_append_right _ h))
    have inX2 : ∀ w ∈ wsX20, w ∈ w_x_sheet := fun w h => List.mem_cons_of_mem _ (List.mem_append_right _ h)
    subst hsz
    have hD := hD0.self (sz := s.heap.size)
    generalize hAe : va_A [(h0, .inr (6, [v0, v1, v2, v3, v4, .ref ph, .ref t0, v7])), (t0, .inl (tc, 7, .inl tf)), (ph, .inl (pc, 4, .inr (.inr (.inr (.inr pf))))), (p0, .inr (0, [.int b0, .int z0, .ref n0])), (n0, .inl (nc0, 40, .inr (.inl g0))), (p1, .inr (0, [.int b1, .int z1, .ref n1])), (n1, .inl (nc1, 40, .inr (.inl g1))), (p2, .inr (0, [.int b2, .int z2, .ref n2])), (n2, .inl (nc2, 40, .inr (.inl g2))), (p3, .inr (0, [.int b3, .int z3, .ref n3])), (n3, .inl (nc3, 40, .inr (.inl g3)))] s.heap.size = A at hD ⊢
    have hA : ∀ q : Nat, s.heap.size ≤ q → A q := fun q h => by rw [← hAe]; exact Or.inr h
    have hS : va_S A s.heap s.heap [] := va_S.rf
    have hP : va_P (dC, dI) vwCl [(h0, .inr (6, [v0, v1, v2, v3, v4, .ref ph, .ref t0, v7])), (t0, .inl (tc, 7, .inl tf)), (ph, .inl (pc, 4, .inr (.inr (.inr (.inr pf))))), (p0, .inr (0, [.int b0, .int z0, .ref n0])), (n0, .inl (nc0, 40, .inr (.inl g0))), (p1, .inr (0, [.int b1, .int z1, .ref n1])), (n1, .inl (nc1, 40, .inr (.inl g1))), (p2, .inr (0, [.int b2, .int z2, .ref n2])), (n2, .inl (nc2, 40, .inr (.inl g2))), (p3, .inr (0, [.int b3, .int z3, .ref n3])), (n3, .inl (nc3, 40, .inr (.inl g3)))] s.heap := hP
    have hl := lv_entry ([.ref h0, .int sn, .int b, .int n]) (n := 5) (Nat.le_of_ble_eq_true rfl)
    rw [lg_entry_eq]
    generalize (lg_sl ([.ref h0, .int sn, .int b, .int n]) ++ List.replicate (5 - (lg_sl ([.ref h0, .int sn, .int b, .int n])).length) Slot.unset).toArray = ls at hl ⊢
    have hl : lv_has ls 5 [(0, .ref h0), (1, .int sn), (2, .int b), (3, .int n)] := hl
    have thlt0 : sn.toInt < 0 := (fa_lt _ _).mp hlt0
    refine lv_aload_n hx hb dX8_sheet_0 rfl (lv_at hl 0 rfl) ?_
    refine lv_iload_n hx hb dX8_sheet_1 rfl (lv_at hl 1 rfl) ?_
    have hPc := hP.sub (ws' := [(h0, .inr (6, [v0, v1, v2, v3, v4, .ref ph, .ref t0, v7]))]) [0] rfl
    have hKc := hK.sub (tys' := []) [] rfl
    refine va_csq (W.runV (As := [.int sn]) (rest := []) ⟨hx, hb, hml, hown, hts⟩ (c_paperAt_lt l dC dI ad h0 sn v0 v1 v2 v3 v4 (.ref ph) (.ref t0) v7 hlt0) (cwV 1 hts g_x_sheet_c_paperAt_lt_256 rfl rfl rfl (by decide +kernel) ⟨(Nat.le_of_ble_eq_true rfl), (Nat.le_of_ble_eq_true rfl)⟩) ⟨preS_blind, va_recv hKc hPc (ci := 6) (q0 := 0) rfl rfl, fun U hU hW => ⟨rfl, preS_at hU hW hPc hKc hev⟩⟩ rfl rfl hl.1 rfl (lv_room (Nat.le_of_ble_eq_true rfl)) dX8_sheet_2 ⟨(Nat.le_of_ble_eq_true rfl), (Nat.le_of_ble_eq_true rfl)⟩) (fun r_1 hw => ?_)
    subst hw
    refine pp_tv (y := .null) rfl ?_
    refine lv_astoreN (lv' := [(4, .null), (0, .ref h0), (1, .int sn), (2, .int b), (3, .int n)]) hx hb dX8_sheet_5 hl (by decide) rfl (fun ls hl => ?_)
    refine lv_aloadN hx hb dX8_sheet_7 (lv_at hl 0 rfl) ?_
    refine lv_ifnullN (tgt := 19) hx hb dX8_sheet_9 (by decide) ?_
    refine lv_aload_n hx hb dX8_sheet_19 rfl (lv_at hl 1 rfl) ?_
    refine lv_ldc hx hb hown (hts _ (List.mem_of_getElem? (i := 6) rfl)) dX8_sheet_20 ?_
    have hPc := hP.sub (ws' := [(h0, .inr (6, [v0, v1, v2, v3, v4, .ref ph, .ref t0, v7])), (t0, .inl (tc, 7, .inl tf))]) [0, 1] rfl
    have hKc := hK.sub (tys' := [(tc, .int)]) [0] rfl
    have hDc := hD.sub (ws' := [(h0, .inr (6, [v0, v1, v2, v3, v4, .ref ph, .ref t0, v7])), (t0, .inl (tc, 7, .inl tf))]) [0, 1] (by decide) rfl
    have hFc := va_free (wc := [(h0, .inr (6, [v0, v1, v2, v3, v4, .ref ph, .ref t0, v7])), (t0, .inl (tc, 7, .inl tf))]) hD hS hA [0, 1] rfl
    refine va_calli (va_runV (As := [.int (-1000000001)]) (rest := []) ⟨hx, hb, hml, hown, hts⟩ (f_beyond l dC dI ad h0 v0 v1 v2 v3 v4 (.ref ph) t0 v7 tc tf s.heap.size ) (cwV 1 hts g_x_sheet_f_beyond_63 rfl rfl rfl (by decide +kernel) ⟨(Nat.le_of_ble_eq_true rfl), (Nat.le_of_ble_eq_true rfl)⟩) ⟨preM_blind, va_recv hKc hPc (ci := 6) (q0 := 0) rfl rfl, fun U hU hW => ⟨rfl, preM_at hU hW hPc hKc hDc hev⟩⟩ rfl rfl hl.1 rfl (lv_room (Nat.le_of_ble_eq_true rfl)) dX8_sheet_22 ⟨(Nat.le_of_ble_eq_true rfl), (Nat.le_of_ble_eq_true rfl)⟩) hS (fun q _ h => hFc q h) hFc (fun r_2 u t H1 locs ht hvm hw hB hz1 hk1 hS => ?_)
    obtain ⟨tg_3, hP1, hK1, hD1⟩ := hB
    rw [ht] at hP1
    have hK1 := va_K.moved hvm.symm hK1
    obtain ⟨hP, hD⟩ := va_join (wr := [(ph, .inl (pc, 4, .inr (.inr (.inr (.inr pf))))), (p0, .inr (0, [.int b0, .int z0, .ref n0])), (n0, .inl (nc0, 40, .inr (.inl g0))), (p1, .inr (0, [.int b1, .int z1, .ref n1])), (n1, .inl (nc1, 40, .inr (.inl g1))), (p2, .inr (0, [.int b2, .int z2, .ref n2])), (n2, .inl (nc2, 40, .inr (.inl g2))), (p3, .inr (0, [.int b3, .int z3, .ref n3])), (n3, .inl (nc3, 40, .inr (.inl g3)))]) (w1 := [(h0, .inr (6, [v0, v1, v2, v3, v4, .ref ph, .ref t0, v7])), (t0, .inl (tc, 7, .inl tg_3))]) hP hD [0, 1] [2, 3, 4, 5, 6, 7, 8, 9, 10] rfl rfl (by decide) (by decide) hk1 hFc hP1 hD1
    generalize H1 = H at hP hS ⊢
    have hP : va_P (dC, dI) vwCl [(ph, .inl (pc, 4, .inr (.inr (.inr (.inr pf))))), (p0, .inr (0, [.int b0, .int z0, .ref n0])), (n0, .inl (nc0, 40, .inr (.inl g0))), (p1, .inr (0, [.int b1, .int z1, .ref n1])), (n1, .inl (nc1, 40, .inr (.inl g1))), (p2, .inr (0, [.int b2, .int z2, .ref n2])), (n2, .inl (nc2, 40, .inr (.inl g2))), (p3, .inr (0, [.int b3, .int z3, .ref n3])), (n3, .inl (nc3, 40, .inr (.inl g3))), (h0, .inr (6, [v0, v1, v2, v3, v4, .ref ph, .ref t0, v7])), (t0, .inl (tc, 7, .inl tg_3))] H := hP
    have hD : va_D A [(ph, .inl (pc, 4, .inr (.inr (.inr (.inr pf))))), (p0, .inr (0, [.int b0, .int z0, .ref n0])), (n0, .inl (nc0, 40, .inr (.inl g0))), (p1, .inr (0, [.int b1, .int z1, .ref n1])), (n1, .inl (nc1, 40, .inr (.inl g1))), (p2, .inr (0, [.int b2, .int z2, .ref n2])), (n2, .inl (nc2, 40, .inr (.inl g2))), (p3, .inr (0, [.int b3, .int z3, .ref n3])), (n3, .inl (nc3, 40, .inr (.inl g3))), (h0, .inr (6, [v0, v1, v2, v3, v4, .ref ph, .ref t0, v7])), (t0, .inl (tc, 7, .inl tg_3))] := hD
    subst hw
    have hP9 := hP.sub (ws' := [(h0, .inr (6, [v0, v1, v2, v3, v4, .ref ph, .ref t0, v7])), (t0, .inl (tc, 7, .inl tg_3)), (ph, .inl (pc, 4, .inr (.inr (.inr (.inr pf))))), (p0, .inr (0, [.int b0, .int z0, .ref n0])), (n0, .inl (nc0, 40, .inr (.inl g0))), (p1, .inr (0, [.int b1, .int z1, .ref n1])), (n1, .inl (nc1, 40, .inr (.inl g1))), (p2, .inr (0, [.int b2, .int z2, .ref n2])), (n2, .inl (nc2, 40, .inr (.inl g2))), (p3, .inr (0, [.int b3, .int z3, .ref n3])), (n3, .inl (nc3, 40, .inr (.inl g3)))]) [9, 10, 0, 1, 2, 3, 4, 5, 6, 7, 8] rfl
    have hD9 := hD.sub (ws' := [(h0, .inr (6, [v0, v1, v2, v3, v4, .ref ph, .ref t0, v7])), (t0, .inl (tc, 7, .inl tg_3)), (ph, .inl (pc, 4, .inr (.inr (.inr (.inr pf))))), (p0, .inr (0, [.int b0, .int z0, .ref n0])), (n0, .inl (nc0, 40, .inr (.inl g0))), (p1, .inr (0, [.int b1, .int z1, .ref n1])), (n1, .inl (nc1, 40, .inr (.inl g1))), (p2, .inr (0, [.int b2, .int z2, .ref n2])), (n2, .inl (nc2, 40, .inr (.inl g2))), (p3, .inr (0, [.int b3, .int z3, .ref n3])), (n3, .inl (nc3, 40, .inr (.inl g3)))]) [9, 10, 0, 1, 2, 3, 4, 5, 6, 7, 8] (by decide) rfl
    have hK9 := hK.sub (tys' := [(tc, .int), (pc, .object "LampShapes$Paper"), (nc0, .long), (nc1, .long), (nc2, .long), (nc3, .long)]) [0, 1, 2, 3, 4, 5] rfl
    exact W.iret (v := ((-1000000001) : Int32)) hx hb hr (fun t ht hW => ⟨⟨((-1000000001) : Int32), (), rfl, trivial, tg_3, b0, z0, b1, z1, b2, z2, b3, z3, g0, g1, g2, g3, (by first | omega | decide | (simp only [fa_lt, fa_le, fa_eq, and_true, true_and, and_false, false_and, not_true_eq_false, not_false_eq_true, li_0, li_1, li_2, li_3, li_4, li_5, li_6, li_7, li_8, li_9, li_10, li_12, li_15, li_16, li_20, li_30, li_34, li_38, li_40, li_63, li_64, li_65, li_78, li_120, li_1000, li_4000, li_10000, li_11077, li_255, li_65535, li_m1, li_m2, li_m1000000001, li_m1000000002, li_m1000000003, li_m1000000004, li_m1000000005, li_m1000000006, li_m1000000007, or_true, true_or, or_false, false_or, implies_true, true_implies, false_implies] <;> omega)), (by first | omega | decide | (simp only [fa_lt, fa_le, fa_eq, and_true, true_and, and_false, false_and, not_true_eq_false, not_false_eq_true, li_0, li_1, li_2, li_3, li_4, li_5, li_6, li_7, li_8, li_9, li_10, li_12, li_15, li_16, li_20, li_30, li_34, li_38, li_40, li_63, li_64, li_65, li_78, li_120, li_1000, li_4000, li_10000, li_11077, li_255, li_65535, li_m1, li_m2, li_m1000000001, li_m1000000002, li_m1000000003, li_m1000000004, li_m1000000005, li_m1000000006, li_m1000000007, or_true, true_or, or_false, false_or, implies_true, true_implies, false_implies] <;> omega)), (by first | omega | decide | (simp only [fa_lt, fa_le, fa_eq, and_true, true_and, and_false, false_and, not_true_eq_false, not_false_eq_true, li_0, li_1, li_2, li_3, li_4, li_5, li_6, li_7, li_8, li_9, li_10, li_12, li_15, li_16, li_20, li_30, li_34, li_38, li_40, li_63, li_64, li_65, li_78, li_120, li_1000, li_4000, li_10000, li_11077, li_255, li_65535, li_m1, li_m2, li_m1000000001, li_m1000000002, li_m1000000003, li_m1000000004, li_m1000000005, li_m1000000006, li_m1000000007, or_true, true_or, or_false, false_or, implies_true, true_implies, false_implies] <;> omega)), (by first | omega | decide | (simp only [fa_lt, fa_le, fa_eq, and_true, true_and, and_false, false_and, not_true_eq_false, not_false_eq_true, li_0, li_1, li_2, li_3, li_4, li_5, li_6, li_7, li_8, li_9, li_10, li_12, li_15, li_16, li_20, li_30, li_34, li_38, li_40, li_63, li_64, li_65, li_78, li_120, li_1000, li_4000, li_10000, li_11077, li_255, li_65535, li_m1, li_m2, li_m1000000001, li_m1000000002, li_m1000000003, li_m1000000004, li_m1000000005, li_m1000000006, li_m1000000007, or_true, true_or, or_false, false_or, implies_true, true_implies, false_implies] <;> omega)), by rw [ht]; exact hP9, va_K.moved hW.alike hK9, hD9⟩, hS.F ht⟩) hS.2.2 dX8_sheet_25
  · skip
    refine Met.ofW (cc := cX8_sheet) (maxL := 5) (ret := (some .int)) (by decide) rfl ?_
    intro p e s m args below meth c s₁ B hml hv
    obtain ⟨rfl, hsz, hP, hK, hD0, hev⟩ := hv
    have hx := B.exec
    have hb := B.bytes
    have hr := B.returns
    have hts := atoms_spec (ws := w_x_sheet) B.pre
    have hown : s.vm.findClass RX8 = some m.cls := findClass_of_methodNamed B.named
    have hlocks := B.notSynchronized
    have inX8 : ∀ w ∈ wsX80, w ∈ w_x_sheet := fun w h => List.mem_cons_of_mem _ (List.mem_append_left _ (List.mem_append_right _ h))
    have inX2 : ∀ w ∈ wsX20, w ∈ w_x_sheet := fun w h => List.mem_cons_of_mem _ (List.mem_append_right _ h)
    subst hsz
    have hD := hD0.self (sz := s.heap.size)
    generalize hAe : va_A [(h0, .inr (6, [v0, v1, v2, v3, v4, .ref ph, .ref t0, v7])), (t0, .inl (tc, 7, .inl tf)), (ph, .inl (pc, 4, .inr (.inr (.inr (.inr pf))))), (p0, .inr (0, [.int b0, .int z0, .ref n0])), (n0, .inl (nc0, 40, .inr (.inl g0))), (p1, .inr (0, [.int b1, .int z1, .ref n1])), (n1, .inl (nc1, 40, .inr (.inl g1))), (p2, .inr (0, [.int b2, .int z2, .ref n2])), (n2, .inl (nc2, 40, .inr (.inl g2))), (p3, .inr (0, [.int b3, .int z3, .ref n3])), (n3, .inl (nc3, 40, .inr (.inl g3)))] s.heap.size = A at hD ⊢
    have hA : ∀ q : Nat, s.heap.size ≤ q → A q := fun q h => by rw [← hAe]; exact Or.inr h
    have hS : va_S A s.heap s.heap [] := va_S.rf
    have hP : va_P (dC, dI) vwCl [(h0, .inr (6, [v0, v1, v2, v3, v4, .ref ph, .ref t0, v7])), (t0, .inl (tc, 7, .inl tf)), (ph, .inl (pc, 4, .inr (.inr (.inr (.inr pf))))), (p0, .inr (0, [.int b0, .int z0, .ref n0])), (n0, .inl (nc0, 40, .inr (.inl g0))), (p1, .inr (0, [.int b1, .int z1, .ref n1])), (n1, .inl (nc1, 40, .inr (.inl g1))), (p2, .inr (0, [.int b2, .int z2, .ref n2])), (n2, .inl (nc2, 40, .inr (.inl g2))), (p3, .inr (0, [.int b3, .int z3, .ref n3])), (n3, .inl (nc3, 40, .inr (.inl g3)))] s.heap := hP
    have hl := lv_entry ([.ref h0, .int sn, .int b, .int n]) (n := 5) (Nat.le_of_ble_eq_true rfl)
    rw [lg_entry_eq]
    generalize (lg_sl ([.ref h0, .int sn, .int b, .int n]) ++ List.replicate (5 - (lg_sl ([.ref h0, .int sn, .int b, .int n])).length) Slot.unset).toArray = ls at hl ⊢
    have hl : lv_has ls 5 [(0, .ref h0), (1, .int sn), (2, .int b), (3, .int n)] := hl
    have thgt0 : 3 < sn.toInt := (fa_lt _ _).mp hgt0
    refine lv_aload_n hx hb dX8_sheet_0 rfl (lv_at hl 0 rfl) ?_
    refine lv_iload_n hx hb dX8_sheet_1 rfl (lv_at hl 1 rfl) ?_
    have hPc := hP.sub (ws' := [(h0, .inr (6, [v0, v1, v2, v3, v4, .ref ph, .ref t0, v7]))]) [0] rfl
    have hKc := hK.sub (tys' := []) [] rfl
    refine va_csq (W.runV (As := [.int sn]) (rest := []) ⟨hx, hb, hml, hown, hts⟩ (c_paperAt_gt l dC dI ad h0 sn v0 v1 v2 v3 v4 (.ref ph) (.ref t0) v7 hgt0) (cwV 1 hts g_x_sheet_c_paperAt_gt_256 rfl rfl rfl (by decide +kernel) ⟨(Nat.le_of_ble_eq_true rfl), (Nat.le_of_ble_eq_true rfl)⟩) ⟨preS_blind, va_recv hKc hPc (ci := 6) (q0 := 0) rfl rfl, fun U hU hW => ⟨rfl, preS_at hU hW hPc hKc hev⟩⟩ rfl rfl hl.1 rfl (lv_room (Nat.le_of_ble_eq_true rfl)) dX8_sheet_2 ⟨(Nat.le_of_ble_eq_true rfl), (Nat.le_of_ble_eq_true rfl)⟩) (fun r_4 hw => ?_)
    subst hw
    refine pp_tv (y := .null) rfl ?_
    refine lv_astoreN (lv' := [(4, .null), (0, .ref h0), (1, .int sn), (2, .int b), (3, .int n)]) hx hb dX8_sheet_5 hl (by decide) rfl (fun ls hl => ?_)
    refine lv_aloadN hx hb dX8_sheet_7 (lv_at hl 0 rfl) ?_
    refine lv_ifnullN (tgt := 19) hx hb dX8_sheet_9 (by decide) ?_
    refine lv_aload_n hx hb dX8_sheet_19 rfl (lv_at hl 1 rfl) ?_
    refine lv_ldc hx hb hown (hts _ (List.mem_of_getElem? (i := 6) rfl)) dX8_sheet_20 ?_
    have hPc := hP.sub (ws' := [(h0, .inr (6, [v0, v1, v2, v3, v4, .ref ph, .ref t0, v7])), (t0, .inl (tc, 7, .inl tf))]) [0, 1] rfl
    have hKc := hK.sub (tys' := [(tc, .int)]) [0] rfl
    have hDc := hD.sub (ws' := [(h0, .inr (6, [v0, v1, v2, v3, v4, .ref ph, .ref t0, v7])), (t0, .inl (tc, 7, .inl tf))]) [0, 1] (by decide) rfl
    have hFc := va_free (wc := [(h0, .inr (6, [v0, v1, v2, v3, v4, .ref ph, .ref t0, v7])), (t0, .inl (tc, 7, .inl tf))]) hD hS hA [0, 1] rfl
    refine va_calli (va_runV (As := [.int (-1000000001)]) (rest := []) ⟨hx, hb, hml, hown, hts⟩ (f_beyond l dC dI ad h0 v0 v1 v2 v3 v4 (.ref ph) t0 v7 tc tf s.heap.size ) (cwV 1 hts g_x_sheet_f_beyond_63 rfl rfl rfl (by decide +kernel) ⟨(Nat.le_of_ble_eq_true rfl), (Nat.le_of_ble_eq_true rfl)⟩) ⟨preM_blind, va_recv hKc hPc (ci := 6) (q0 := 0) rfl rfl, fun U hU hW => ⟨rfl, preM_at hU hW hPc hKc hDc hev⟩⟩ rfl rfl hl.1 rfl (lv_room (Nat.le_of_ble_eq_true rfl)) dX8_sheet_22 ⟨(Nat.le_of_ble_eq_true rfl), (Nat.le_of_ble_eq_true rfl)⟩) hS (fun q _ h => hFc q h) hFc (fun r_5 u t H1 locs ht hvm hw hB hz1 hk1 hS => ?_)
    obtain ⟨tg_6, hP1, hK1, hD1⟩ := hB
    rw [ht] at hP1
    have hK1 := va_K.moved hvm.symm hK1
    obtain ⟨hP, hD⟩ := va_join (wr := [(ph, .inl (pc, 4, .inr (.inr (.inr (.inr pf))))), (p0, .inr (0, [.int b0, .int z0, .ref n0])), (n0, .inl (nc0, 40, .inr (.inl g0))), (p1, .inr (0, [.int b1, .int z1, .ref n1])), (n1, .inl (nc1, 40, .inr (.inl g1))), (p2, .inr (0, [.int b2, .int z2, .ref n2])), (n2, .inl (nc2, 40, .inr (.inl g2))), (p3, .inr (0, [.int b3, .int z3, .ref n3])), (n3, .inl (nc3, 40, .inr (.inl g3)))]) (w1 := [(h0, .inr (6, [v0, v1, v2, v3, v4, .ref ph, .ref t0, v7])), (t0, .inl (tc, 7, .inl tg_6))]) hP hD [0, 1] [2, 3, 4, 5, 6, 7, 8, 9, 10] rfl rfl (by decide) (by decide) hk1 hFc hP1 hD1
    generalize H1 = H at hP hS ⊢
    have hP : va_P (dC, dI) vwCl [(ph, .inl (pc, 4, .inr (.inr (.inr (.inr pf))))), (p0, .inr (0, [.int b0, .int z0, .ref n0])), (n0, .inl (nc0, 40, .inr (.inl g0))), (p1, .inr (0, [.int b1, .int z1, .ref n1])), (n1, .inl (nc1, 40, .inr (.inl g1))), (p2, .inr (0, [.int b2, .int z2, .ref n2])), (n2, .inl (nc2, 40, .inr (.inl g2))), (p3, .inr (0, [.int b3, .int z3, .ref n3])), (n3, .inl (nc3, 40, .inr (.inl g3))), (h0, .inr (6, [v0, v1, v2, v3, v4, .ref ph, .ref t0, v7])), (t0, .inl (tc, 7, .inl tg_6))] H := hP
    have hD : va_D A [(ph, .inl (pc, 4, .inr (.inr (.inr (.inr pf))))), (p0, .inr (0, [.int b0, .int z0, .ref n0])), (n0, .inl (nc0, 40, .inr (.inl g0))), (p1, .inr (0, [.int b1, .int z1, .ref n1])), (n1, .inl (nc1, 40, .inr (.inl g1))), (p2, .inr (0, [.int b2, .int z2, .ref n2])), (n2, .inl (nc2, 40, .inr (.inl g2))), (p3, .inr (0, [.int b3, .int z3, .ref n3])), (n3, .inl (nc3, 40, .inr (.inl g3))), (h0, .inr (6, [v0, v1, v2, v3, v4, .ref ph, .ref t0, v7])), (t0, .inl (tc, 7, .inl tg_6))] := hD
    subst hw
    have hP9 := hP.sub (ws' := [(h0, .inr (6, [v0, v1, v2, v3, v4, .ref ph, .ref t0, v7])), (t0, .inl (tc, 7, .inl tg_6)), (ph, .inl (pc, 4, .inr (.inr (.inr (.inr pf))))), (p0, .inr (0, [.int b0, .int z0, .ref n0])), (n0, .inl (nc0, 40, .inr (.inl g0))), (p1, .inr (0, [.int b1, .int z1, .ref n1])), (n1, .inl (nc1, 40, .inr (.inl g1))), (p2, .inr (0, [.int b2, .int z2, .ref n2])), (n2, .inl (nc2, 40, .inr (.inl g2))), (p3, .inr (0, [.int b3, .int z3, .ref n3])), (n3, .inl (nc3, 40, .inr (.inl g3)))]) [9, 10, 0, 1, 2, 3, 4, 5, 6, 7, 8] rfl
    have hD9 := hD.sub (ws' := [(h0, .inr (6, [v0, v1, v2, v3, v4, .ref ph, .ref t0, v7])), (t0, .inl (tc, 7, .inl tg_6)), (ph, .inl (pc, 4, .inr (.inr (.inr (.inr pf))))), (p0, .inr (0, [.int b0, .int z0, .ref n0])), (n0, .inl (nc0, 40, .inr (.inl g0))), (p1, .inr (0, [.int b1, .int z1, .ref n1])), (n1, .inl (nc1, 40, .inr (.inl g1))), (p2, .inr (0, [.int b2, .int z2, .ref n2])), (n2, .inl (nc2, 40, .inr (.inl g2))), (p3, .inr (0, [.int b3, .int z3, .ref n3])), (n3, .inl (nc3, 40, .inr (.inl g3)))]) [9, 10, 0, 1, 2, 3, 4, 5, 6, 7, 8] (by decide) rfl
    have hK9 := hK.sub (tys' := [(tc, .int), (pc, .object "LampShapes$Paper"), (nc0, .long), (nc1, .long), (nc2, .long), (nc3, .long)]) [0, 1, 2, 3, 4, 5] rfl
    exact W.iret (v := ((-1000000001) : Int32)) hx hb hr (fun t ht hW => ⟨⟨((-1000000001) : Int32), (), rfl, trivial, tg_6, b0, z0, b1, z1, b2, z2, b3, z3, g0, g1, g2, g3, (by first | omega | decide | (simp only [fa_lt, fa_le, fa_eq, and_true, true_and, and_false, false_and, not_true_eq_false, not_false_eq_true, li_0, li_1, li_2, li_3, li_4, li_5, li_6, li_7, li_8, li_9, li_10, li_12, li_15, li_16, li_20, li_30, li_34, li_38, li_40, li_63, li_64, li_65, li_78, li_120, li_1000, li_4000, li_10000, li_11077, li_255, li_65535, li_m1, li_m2, li_m1000000001, li_m1000000002, li_m1000000003, li_m1000000004, li_m1000000005, li_m1000000006, li_m1000000007, or_true, true_or, or_false, false_or, implies_true, true_implies, false_implies] <;> omega)), (by first | omega | decide | (simp only [fa_lt, fa_le, fa_eq, and_true, true_and, and_false, false_and, not_true_eq_false, not_false_eq_true, li_0, li_1, li_2, li_3, li_4, li_5, li_6, li_7, li_8, li_9, li_10, li_12, li_15, li_16, li_20, li_30, li_34, li_38, li_40, li_63, li_64, li_65, li_78, li_120, li_1000, li_4000, li_10000, li_11077, li_255, li_65535, li_m1, li_m2, li_m1000000001, li_m1000000002, li_m1000000003, li_m1000000004, li_m1000000005, li_m1000000006, li_m1000000007, or_true, true_or, or_false, false_or, implies_true, true_implies, false_implies] <;> omega)), (by first | omega | decide | (simp only [fa_lt, fa_le, fa_eq, and_true, true_and, and_false, false_and, not_true_eq_false, not_false_eq_true, li_0, li_1, li_2, li_3, li_4, li_5, li_6, li_7, li_8, li_9, li_10, li_12, li_15, li_16, li_20, li_30, li_34, li_38, li_40, li_63, li_64, li_65, li_78, li_120, li_1000, li_4000, li_10000, li_11077, li_255, li_65535, li_m1, li_m2, li_m1000000001, li_m1000000002, li_m1000000003, li_m1000000004, li_m1000000005, li_m1000000006, li_m1000000007, or_true, true_or, or_false, false_or, implies_true, true_implies, false_implies] <;> omega)), (by first | omega | decide | (simp only [fa_lt, fa_le, fa_eq, and_true, true_and, and_false, false_and, not_true_eq_false, not_false_eq_true, li_0, li_1, li_2, li_3, li_4, li_5, li_6, li_7, li_8, li_9, li_10, li_12, li_15, li_16, li_20, li_30, li_34, li_38, li_40, li_63, li_64, li_65, li_78, li_120, li_1000, li_4000, li_10000, li_11077, li_255, li_65535, li_m1, li_m2, li_m1000000001, li_m1000000002, li_m1000000003, li_m1000000004, li_m1000000005, li_m1000000006, li_m1000000007, or_true, true_or, or_false, false_or, implies_true, true_implies, false_implies] <;> omega)), by rw [ht]; exact hP9, va_K.moved hW.alike hK9, hD9⟩, hS.F ht⟩) hS.2.2 dX8_sheet_25
  · skip
    refine Met.ofW (cc := cX8_sheet) (maxL := 5) (ret := (some .int)) (by decide) rfl ?_
    intro p e s m args below meth c s₁ B hml hv
    obtain ⟨rfl, hsz, hP, hK, hD0, hev⟩ := hv
    have hx := B.exec
    have hb := B.bytes
    have hr := B.returns
    have hts := atoms_spec (ws := w_x_sheet) B.pre
    have hown : s.vm.findClass RX8 = some m.cls := findClass_of_methodNamed B.named
    have hlocks := B.notSynchronized
    have inX8 : ∀ w ∈ wsX80, w ∈ w_x_sheet := fun w h => List.mem_cons_of_mem _ (List.mem_append_left _ (List.mem_append_right _ h))
    have inX2 : ∀ w ∈ wsX20, w ∈ w_x_sheet := fun w h => List.mem_cons_of_mem _ (List.mem_append_right _ h)
    subst hsz
    have hD := hD0.self (sz := s.heap.size)
    generalize hAe : va_A [(h0, .inr (6, [v0, v1, v2, v3, v4, .ref ph, .ref t0, v7])), (t0, .inl (tc, 7, .inl tf)), (ph, .inl (pc, 4, .inr (.inr (.inr (.inr pf))))), (p0, .inr (0, [.int b0, .int z0, .ref n0])), (n0, .inl (nc0, 40, .inr (.inl g0))), (p1, .inr (0, [.int b1, .int z1, .ref n1])), (n1, .inl (nc1, 40, .inr (.inl g1))), (p2, .inr (0, [.int b2, .int z2, .ref n2])), (n2, .inl (nc2, 40, .inr (.inl g2))), (p3, .inr (0, [.int b3, .int z3, .ref n3])), (n3, .inl (nc3, 40, .inr (.inl g3)))] s.heap.size = A at hD ⊢
    have hA : ∀ q : Nat, s.heap.size ≤ q → A q := fun q h => by rw [← hAe]; exact Or.inr h
    have hS : va_S A s.heap s.heap [] := va_S.rf
    have hP : va_P (dC, dI) vwCl [(h0, .inr (6, [v0, v1, v2, v3, v4, .ref ph, .ref t0, v7])), (t0, .inl (tc, 7, .inl tf)), (ph, .inl (pc, 4, .inr (.inr (.inr (.inr pf))))), (p0, .inr (0, [.int b0, .int z0, .ref n0])), (n0, .inl (nc0, 40, .inr (.inl g0))), (p1, .inr (0, [.int b1, .int z1, .ref n1])), (n1, .inl (nc1, 40, .inr (.inl g1))), (p2, .inr (0, [.int b2, .int z2, .ref n2])), (n2, .inl (nc2, 40, .inr (.inl g2))), (p3, .inr (0, [.int b3, .int z3, .ref n3])), (n3, .inl (nc3, 40, .inr (.inl g3)))] s.heap := hP
    have hl := lv_entry ([.ref h0, .int 0, .int b, .int n]) (n := 5) (Nat.le_of_ble_eq_true rfl)
    rw [lg_entry_eq]
    generalize (lg_sl ([.ref h0, .int 0, .int b, .int n]) ++ List.replicate (5 - (lg_sl ([.ref h0, .int 0, .int b, .int n])).length) Slot.unset).toArray = ls at hl ⊢
    have hl : lv_has ls 5 [(0, .ref h0), (1, .int 0), (2, .int b), (3, .int n)] := hl
    refine lv_aload_n hx hb dX8_sheet_0 rfl (lv_at hl 0 rfl) ?_
    refine lv_iload_n hx hb dX8_sheet_1 rfl (lv_at hl 1 rfl) ?_
    have hPc := hP.sub (ws' := [(h0, .inr (6, [v0, v1, v2, v3, v4, .ref ph, .ref t0, v7])), (ph, .inl (pc, 4, .inr (.inr (.inr (.inr pf)))))]) [0, 2] rfl
    have hKc := hK.sub (tys' := [(pc, .object "LampShapes$Paper")]) [1] rfl
    refine va_csq (W.runV (As := [.int 0]) (rest := []) ⟨hx, hb, hml, hown, hts⟩ (c_paperAt_0 l dC dI ad h0 v0 v1 v2 v3 v4 ph (.ref t0) v7 pc pf p0 hp0) (cwV 1 hts g_x_sheet_c_paperAt_0_256 rfl rfl rfl (by decide +kernel) ⟨(Nat.le_of_ble_eq_true rfl), (Nat.le_of_ble_eq_true rfl)⟩) ⟨preS_blind, va_recv hKc hPc (ci := 6) (q0 := 0) rfl rfl, fun U hU hW => ⟨rfl, preS_at hU hW hPc hKc hev⟩⟩ rfl rfl hl.1 rfl (lv_room (Nat.le_of_ble_eq_true rfl)) dX8_sheet_2 ⟨(Nat.le_of_ble_eq_true rfl), (Nat.le_of_ble_eq_true rfl)⟩) (fun r_7 hw => ?_)
    subst hw
    refine pp_tv (y := .ref p0) rfl ?_
    refine lv_astore (lv' := [(4, .ref p0), (0, .ref h0), (1, .int 0), (2, .int b), (3, .int n)]) hx hb dX8_sheet_5 hl (by decide) rfl (fun ls hl => ?_)
    refine lv_aload hx hb dX8_sheet_7 (lv_at hl 0 rfl) ?_
    refine lv_ifnull hx hb dX8_sheet_9 ?_
    refine lv_iload_n hx hb dX8_sheet_12 rfl (lv_at hl 3 rfl) ?_
    have hPc := hP.sub (ws' := []) [] rfl
    have hKc := hK.sub (tys' := []) [] rfl
    refine vp_callSi (W.runS (As := [.int b]) (rest := []) ⟨hx, hb, hml, hown, hts⟩ (x_isWidth l dC dI ad b ) (va_cwS 1 hts g_x_sheet_x_isWidth_260 rfl rfl rfl (by decide +kernel) ⟨(Nat.le_of_ble_eq_true rfl), (Nat.le_of_ble_eq_true rfl)⟩) ⟨preS_blind, fun U hU hW => ⟨rfl, preS_at hU hW hPc hKc hev⟩⟩ rfl rfl hl.1 rfl (lv_room (Nat.le_of_ble_eq_true rfl)) dX8_sheet_13 ⟨(Nat.le_of_ble_eq_true rfl), (Nat.le_of_ble_eq_true rfl)⟩) (fun r_8 hw => ?_)
    have hr_8 : (r_8.toInt = 0 ∧ ¬ b.toInt = 0 ∧ ¬ b.toInt = 8 ∧ ¬ b.toInt = 16 ∧ ¬ b.toInt = 64) ∨ (r_8.toInt = 1 ∧ (b.toInt = 0 ∨ b.toInt = 8 ∨ b.toInt = 16 ∨ b.toInt = 64)) := hw
    refine lv_if_ne (tgt := 26) hx hb dX8_sheet_16 (by decide) (fun c_9 => ?_) (fun c_9 => ?_)
    · skip
      have tc_9 : ¬ r_8.toInt = 0 := fun h => c_9 ((fa_eq _ _).mpr h)
      refine lv_iload_n hx hb dX8_sheet_26 rfl (lv_at hl 4 rfl) ?_
      refine lv_if_ge (tgt := 37) hx hb dX8_sheet_27 (by decide) (fun c_10 => ?_) (fun c_10 => ?_)
      · skip
        have tc_10 : 0 ≤ n.toInt := (fa_le _ _).mp c_10
        refine lv_iload_n hx hb dX8_sheet_37 rfl (lv_at hl 4 rfl) ?_
        refine lv_bipush (v := 40) hx hb dX8_sheet_38 (by decide) ?_
        refine lv_icmp_le (tgt := 50) hx hb dX8_sheet_40 (by decide) (fun c_11 => ?_) (fun c_11 => ?_)
        · skip
          have tc_11 : n.toInt ≤ 40 := (fa_le _ _).mp c_11
          refine lv_aload hx hb dX8_sheet_50 (lv_at hl 0 rfl) ?_
          refine lv_iload_n hx hb dX8_sheet_52 rfl (lv_at hl 3 rfl) ?_
          refine lv_iload_n hx hb dX8_sheet_53 rfl (lv_at hl 3 rfl) ?_
          refine lv_if_ne (tgt := 61) hx hb dX8_sheet_54 (by decide) (fun c_12 => ?_) (fun c_12 => ?_)
          · skip
            have tc_12 : ¬ b.toInt = 0 := fun h => c_12 ((fa_eq _ _).mpr h)
            refine lv_iload_n hx hb dX8_sheet_61 rfl (lv_at hl 4 rfl) ?_
            have hPc := hP.sub (ws' := [(p0, .inr (0, [.int b0, .int z0, .ref n0])), (n0, .inl (nc0, 40, .inr (.inl g0)))]) [3, 4] rfl
            have hKc := hK.sub (tys' := [(nc0, .long)]) [2] rfl
            have hDc := hD.sub (ws' := [(p0, .inr (0, [.int b0, .int z0, .ref n0])), (n0, .inl (nc0, 40, .inr (.inl g0)))]) [3, 4] (by decide) rfl
            have hFc := va_free (wc := [(p0, .inr (0, [.int b0, .int z0, .ref n0])), (n0, .inl (nc0, 40, .inr (.inl g0)))]) hD hS hA [3, 4] rfl
            refine va_callv (va_runV (As := [.int b, .int n]) (rest := []) ⟨hx, hb, hml, hown, hts⟩ (p_renew l dC dI ad p0 b n (.int b0) (.int z0) n0 nc0 g0 s.heap.size ) (cwV 2 hts g_x_sheet_p_renew_263 rfl rfl rfl (by decide +kernel) ⟨(Nat.le_of_ble_eq_true rfl), (Nat.le_of_ble_eq_true rfl)⟩) ⟨preM_blind, va_recv hKc hPc (ci := 0) (q0 := 0) rfl rfl, fun U hU hW => ⟨rfl, preM_at hU hW hPc hKc hDc hev⟩⟩ rfl rfl hl.1 rfl (lv_room (Nat.le_of_ble_eq_true rfl)) dX8_sheet_62 ⟨(Nat.le_of_ble_eq_true rfl), (Nat.le_of_ble_eq_true rfl)⟩) hS (fun q _ h => hFc q h) hFc (fun u t H1 locs ht hvm hw hB hz1 hk1 hS => ?_)
            obtain ⟨g_14, hP1, hK1, hD1⟩ := hB
            rw [ht] at hP1
            have hK1 := va_K.moved hvm.symm hK1
            obtain ⟨hP, hD⟩ := va_join (wr := [(h0, .inr (6, [v0, v1, v2, v3, v4, .ref ph, .ref t0, v7])), (t0, .inl (tc, 7, .inl tf)), (ph, .inl (pc, 4, .inr (.inr (.inr (.inr pf))))), (p1, .inr (0, [.int b1, .int z1, .ref n1])), (n1, .inl (nc1, 40, .inr (.inl g1))), (p2, .inr (0, [.int b2, .int z2, .ref n2])), (n2, .inl (nc2, 40, .inr (.inl g2))), (p3, .inr (0, [.int b3, .int z3, .ref n3])), (n3, .inl (nc3, 40, .inr (.inl g3)))]) (w1 := [(p0, .inr (0, [.int b, .int n, .ref n0])), (n0, .inl (nc0, 40, .inr (.inl g_14)))]) hP hD [3, 4] [0, 1, 2, 5, 6, 7, 8, 9, 10] rfl rfl (by decide) (by decide) hk1 hFc hP1 hD1
            generalize H1 = H at hP hS ⊢
            have hP : va_P (dC, dI) vwCl [(h0, .inr (6, [v0, v1, v2, v3, v4, .ref ph, .ref t0, v7])), (t0, .inl (tc, 7, .inl tf)), (ph, .inl (pc, 4, .inr (.inr (.inr (.inr pf))))), (p1, .inr (0, [.int b1, .int z1, .ref n1])), (n1, .inl (nc1, 40, .inr (.inl g1))), (p2, .inr (0, [.int b2, .int z2, .ref n2])), (n2, .inl (nc2, 40, .inr (.inl g2))), (p3, .inr (0, [.int b3, .int z3, .ref n3])), (n3, .inl (nc3, 40, .inr (.inl g3))), (p0, .inr (0, [.int b, .int n, .ref n0])), (n0, .inl (nc0, 40, .inr (.inl g_14)))] H := hP
            have hD : va_D A [(h0, .inr (6, [v0, v1, v2, v3, v4, .ref ph, .ref t0, v7])), (t0, .inl (tc, 7, .inl tf)), (ph, .inl (pc, 4, .inr (.inr (.inr (.inr pf))))), (p1, .inr (0, [.int b1, .int z1, .ref n1])), (n1, .inl (nc1, 40, .inr (.inl g1))), (p2, .inr (0, [.int b2, .int z2, .ref n2])), (n2, .inl (nc2, 40, .inr (.inl g2))), (p3, .inr (0, [.int b3, .int z3, .ref n3])), (n3, .inl (nc3, 40, .inr (.inl g3))), (p0, .inr (0, [.int b, .int n, .ref n0])), (n0, .inl (nc0, 40, .inr (.inl g_14)))] := hD
            refine lv_aload hx hb dX8_sheet_65 (lv_at hl 0 rfl) ?_
            refine va_getN (D := (dC, dI)) (ci := 0) (v := .int n) (C := RX2) (T := TX2) (N := 3) hx hb hts inX2 hown hK hP 9 rfl rfl 1 (by decide) (ev_nest hev 22 rfl) (fun _ h9 => h9) rfl dX8_sheet_67 ?_
            have hP9 := hP.sub (ws' := [(h0, .inr (6, [v0, v1, v2, v3, v4, .ref ph, .ref t0, v7])), (t0, .inl (tc, 7, .inl tf)), (ph, .inl (pc, 4, .inr (.inr (.inr (.inr pf))))), (p0, .inr (0, [.int b, .int n, .ref n0])), (n0, .inl (nc0, 40, .inr (.inl g_14))), (p1, .inr (0, [.int b1, .int z1, .ref n1])), (n1, .inl (nc1, 40, .inr (.inl g1))), (p2, .inr (0, [.int b2, .int z2, .ref n2])), (n2, .inl (nc2, 40, .inr (.inl g2))), (p3, .inr (0, [.int b3, .int z3, .ref n3])), (n3, .inl (nc3, 40, .inr (.inl g3)))]) [0, 1, 2, 9, 10, 3, 4, 5, 6, 7, 8] rfl
            have hD9 := hD.sub (ws' := [(h0, .inr (6, [v0, v1, v2, v3, v4, .ref ph, .ref t0, v7])), (t0, .inl (tc, 7, .inl tf)), (ph, .inl (pc, 4, .inr (.inr (.inr (.inr pf))))), (p0, .inr (0, [.int b, .int n, .ref n0])), (n0, .inl (nc0, 40, .inr (.inl g_14))), (p1, .inr (0, [.int b1, .int z1, .ref n1])), (n1, .inl (nc1, 40, .inr (.inl g1))), (p2, .inr (0, [.int b2, .int z2, .ref n2])), (n2, .inl (nc2, 40, .inr (.inl g2))), (p3, .inr (0, [.int b3, .int z3, .ref n3])), (n3, .inl (nc3, 40, .inr (.inl g3)))]) [0, 1, 2, 9, 10, 3, 4, 5, 6, 7, 8] (by decide) rfl
            have hK9 := hK.sub (tys' := [(tc, .int), (pc, .object "LampShapes$Paper"), (nc0, .long), (nc1, .long), (nc2, .long), (nc3, .long)]) [0, 1, 2, 3, 4, 5] rfl
            exact W.iret (v := n) hx hb hr (fun t ht hW => ⟨⟨n, (), rfl, trivial, tf, b, n, b1, z1, b2, z2, b3, z3, g_14, g1, g2, g3, (by first | omega | decide | (simp only [fa_lt, fa_le, fa_eq, and_true, true_and, and_false, false_and, not_true_eq_false, not_false_eq_true, li_0, li_1, li_2, li_3, li_4, li_5, li_6, li_7, li_8, li_9, li_10, li_12, li_15, li_16, li_20, li_30, li_34, li_38, li_40, li_63, li_64, li_65, li_78, li_120, li_1000, li_4000, li_10000, li_11077, li_255, li_65535, li_m1, li_m2, li_m1000000001, li_m1000000002, li_m1000000003, li_m1000000004, li_m1000000005, li_m1000000006, li_m1000000007, or_true, true_or, or_false, false_or, implies_true, true_implies, false_implies] <;> omega)), (by first | omega | decide | (simp only [fa_lt, fa_le, fa_eq, and_true, true_and, and_false, false_and, not_true_eq_false, not_false_eq_true, li_0, li_1, li_2, li_3, li_4, li_5, li_6, li_7, li_8, li_9, li_10, li_12, li_15, li_16, li_20, li_30, li_34, li_38, li_40, li_63, li_64, li_65, li_78, li_120, li_1000, li_4000, li_10000, li_11077, li_255, li_65535, li_m1, li_m2, li_m1000000001, li_m1000000002, li_m1000000003, li_m1000000004, li_m1000000005, li_m1000000006, li_m1000000007, or_true, true_or, or_false, false_or, implies_true, true_implies, false_implies] <;> omega)), (by first | omega | decide | (simp only [fa_lt, fa_le, fa_eq, and_true, true_and, and_false, false_and, not_true_eq_false, not_false_eq_true, li_0, li_1, li_2, li_3, li_4, li_5, li_6, li_7, li_8, li_9, li_10, li_12, li_15, li_16, li_20, li_30, li_34, li_38, li_40, li_63, li_64, li_65, li_78, li_120, li_1000, li_4000, li_10000, li_11077, li_255, li_65535, li_m1, li_m2, li_m1000000001, li_m1000000002, li_m1000000003, li_m1000000004, li_m1000000005, li_m1000000006, li_m1000000007, or_true, true_or, or_false, false_or, implies_true, true_implies, false_implies] <;> omega)), (by first | omega | decide | (simp only [fa_lt, fa_le, fa_eq, and_true, true_and, and_false, false_and, not_true_eq_false, not_false_eq_true, li_0, li_1, li_2, li_3, li_4, li_5, li_6, li_7, li_8, li_9, li_10, li_12, li_15, li_16, li_20, li_30, li_34, li_38, li_40, li_63, li_64, li_65, li_78, li_120, li_1000, li_4000, li_10000, li_11077, li_255, li_65535, li_m1, li_m2, li_m1000000001, li_m1000000002, li_m1000000003, li_m1000000004, li_m1000000005, li_m1000000006, li_m1000000007, or_true, true_or, or_false, false_or, implies_true, true_implies, false_implies] <;> omega)), by rw [ht]; exact hP9, va_K.moved hW.alike hK9, hD9⟩, hS.F ht⟩) hS.2.2 dX8_sheet_70
          · skip
            have tc_12 : b.toInt = 0 := (fa_eq _ _).mp c_12
            refine lv_iconst (v := 0) hx hb dX8_sheet_57 (by decide) ?_
            refine lv_goto (tgt := 62) hx hb dX8_sheet_58 (by decide) ?_
            have hPc := hP.sub (ws' := [(p0, .inr (0, [.int b0, .int z0, .ref n0])), (n0, .inl (nc0, 40, .inr (.inl g0)))]) [3, 4] rfl
            have hKc := hK.sub (tys' := [(nc0, .long)]) [2] rfl
            have hDc := hD.sub (ws' := [(p0, .inr (0, [.int b0, .int z0, .ref n0])), (n0, .inl (nc0, 40, .inr (.inl g0)))]) [3, 4] (by decide) rfl
            have hFc := va_free (wc := [(p0, .inr (0, [.int b0, .int z0, .ref n0])), (n0, .inl (nc0, 40, .inr (.inl g0)))]) hD hS hA [3, 4] rfl
            refine va_callv (va_runV (As := [.int b, .int 0]) (rest := []) ⟨hx, hb, hml, hown, hts⟩ (p_renew l dC dI ad p0 b 0 (.int b0) (.int z0) n0 nc0 g0 s.heap.size ) (cwV 2 hts g_x_sheet_p_renew_263 rfl rfl rfl (by decide +kernel) ⟨(Nat.le_of_ble_eq_true rfl), (Nat.le_of_ble_eq_true rfl)⟩) ⟨preM_blind, va_recv hKc hPc (ci := 0) (q0 := 0) rfl rfl, fun U hU hW => ⟨rfl, preM_at hU hW hPc hKc hDc hev⟩⟩ rfl rfl hl.1 rfl (lv_room (Nat.le_of_ble_eq_true rfl)) dX8_sheet_62 ⟨(Nat.le_of_ble_eq_true rfl), (Nat.le_of_ble_eq_true rfl)⟩) hS (fun q _ h => hFc q h) hFc (fun u t H1 locs ht hvm hw hB hz1 hk1 hS => ?_)
            obtain ⟨g_16, hP1, hK1, hD1⟩ := hB
            rw [ht] at hP1
            have hK1 := va_K.moved hvm.symm hK1
            obtain ⟨hP, hD⟩ := va_join (wr := [(h0, .inr (6, [v0, v1, v2, v3, v4, .ref ph, .ref t0, v7])), (t0, .inl (tc, 7, .inl tf)), (ph, .inl (pc, 4, .inr (.inr (.inr (.inr pf))))), (p1, .inr (0, [.int b1, .int z1, .ref n1])), (n1, .inl (nc1, 40, .inr (.inl g1))), (p2, .inr (0, [.int b2, .int z2, .ref n2])), (n2, .inl (nc2, 40, .inr (.inl g2))), (p3, .inr (0, [.int b3, .int z3, .ref n3])), (n3, .inl (nc3, 40, .inr (.inl g3)))]) (w1 := [(p0, .inr (0, [.int b, .int 0, .ref n0])), (n0, .inl (nc0, 40, .inr (.inl g_16)))]) hP hD [3, 4] [0, 1, 2, 5, 6, 7, 8, 9, 10] rfl rfl (by decide) (by decide) hk1 hFc hP1 hD1
            generalize H1 = H at hP hS ⊢
            have hP : va_P (dC, dI) vwCl [(h0, .inr (6, [v0, v1, v2, v3, v4, .ref ph, .ref t0, v7])), (t0, .inl (tc, 7, .inl tf)), (ph, .inl (pc, 4, .inr (.inr (.inr (.inr pf))))), (p1, .inr (0, [.int b1, .int z1, .ref n1])), (n1, .inl (nc1, 40, .inr (.inl g1))), (p2, .inr (0, [.int b2, .int z2, .ref n2])), (n2, .inl (nc2, 40, .inr (.inl g2))), (p3, .inr (0, [.int b3, .int z3, .ref n3])), (n3, .inl (nc3, 40, .inr (.inl g3))), (p0, .inr (0, [.int b, .int 0, .ref n0])), (n0, .inl (nc0, 40, .inr (.inl g_16)))] H := hP
            have hD : va_D A [(h0, .inr (6, [v0, v1, v2, v3, v4, .ref ph, .ref t0, v7])), (t0, .inl (tc, 7, .inl tf)), (ph, .inl (pc, 4, .inr (.inr (.inr (.inr pf))))), (p1, .inr (0, [.int b1, .int z1, .ref n1])), (n1, .inl (nc1, 40, .inr (.inl g1))), (p2, .inr (0, [.int b2, .int z2, .ref n2])), (n2, .inl (nc2, 40, .inr (.inl g2))), (p3, .inr (0, [.int b3, .int z3, .ref n3])), (n3, .inl (nc3, 40, .inr (.inl g3))), (p0, .inr (0, [.int b, .int 0, .ref n0])), (n0, .inl (nc0, 40, .inr (.inl g_16)))] := hD
            refine lv_aload hx hb dX8_sheet_65 (lv_at hl 0 rfl) ?_
            refine va_getN (D := (dC, dI)) (ci := 0) (v := .int 0) (C := RX2) (T := TX2) (N := 3) hx hb hts inX2 hown hK hP 9 rfl rfl 1 (by decide) (ev_nest hev 22 rfl) (fun _ h9 => h9) rfl dX8_sheet_67 ?_
            have hP9 := hP.sub (ws' := [(h0, .inr (6, [v0, v1, v2, v3, v4, .ref ph, .ref t0, v7])), (t0, .inl (tc, 7, .inl tf)), (ph, .inl (pc, 4, .inr (.inr (.inr (.inr pf))))), (p0, .inr (0, [.int b, .int 0, .ref n0])), (n0, .inl (nc0, 40, .inr (.inl g_16))), (p1, .inr (0, [.int b1, .int z1, .ref n1])), (n1, .inl (nc1, 40, .inr (.inl g1))), (p2, .inr (0, [.int b2, .int z2, .ref n2])), (n2, .inl (nc2, 40, .inr (.inl g2))), (p3, .inr (0, [.int b3, .int z3, .ref n3])), (n3, .inl (nc3, 40, .inr (.inl g3)))]) [0, 1, 2, 9, 10, 3, 4, 5, 6, 7, 8] rfl
            have hD9 := hD.sub (ws' := [(h0, .inr (6, [v0, v1, v2, v3, v4, .ref ph, .ref t0, v7])), (t0, .inl (tc, 7, .inl tf)), (ph, .inl (pc, 4, .inr (.inr (.inr (.inr pf))))), (p0, .inr (0, [.int b, .int 0, .ref n0])), (n0, .inl (nc0, 40, .inr (.inl g_16))), (p1, .inr (0, [.int b1, .int z1, .ref n1])), (n1, .inl (nc1, 40, .inr (.inl g1))), (p2, .inr (0, [.int b2, .int z2, .ref n2])), (n2, .inl (nc2, 40, .inr (.inl g2))), (p3, .inr (0, [.int b3, .int z3, .ref n3])), (n3, .inl (nc3, 40, .inr (.inl g3)))]) [0, 1, 2, 9, 10, 3, 4, 5, 6, 7, 8] (by decide) rfl
            have hK9 := hK.sub (tys' := [(tc, .int), (pc, .object "LampShapes$Paper"), (nc0, .long), (nc1, .long), (nc2, .long), (nc3, .long)]) [0, 1, 2, 3, 4, 5] rfl
            exact W.iret (v := (0 : Int32)) hx hb hr (fun t ht hW => ⟨⟨(0 : Int32), (), rfl, trivial, tf, b, 0, b1, z1, b2, z2, b3, z3, g_16, g1, g2, g3, (by first | omega | decide | (simp only [fa_lt, fa_le, fa_eq, and_true, true_and, and_false, false_and, not_true_eq_false, not_false_eq_true, li_0, li_1, li_2, li_3, li_4, li_5, li_6, li_7, li_8, li_9, li_10, li_12, li_15, li_16, li_20, li_30, li_34, li_38, li_40, li_63, li_64, li_65, li_78, li_120, li_1000, li_4000, li_10000, li_11077, li_255, li_65535, li_m1, li_m2, li_m1000000001, li_m1000000002, li_m1000000003, li_m1000000004, li_m1000000005, li_m1000000006, li_m1000000007, or_true, true_or, or_false, false_or, implies_true, true_implies, false_implies] <;> omega)), (by first | omega | decide | (simp only [fa_lt, fa_le, fa_eq, and_true, true_and, and_false, false_and, not_true_eq_false, not_false_eq_true, li_0, li_1, li_2, li_3, li_4, li_5, li_6, li_7, li_8, li_9, li_10, li_12, li_15, li_16, li_20, li_30, li_34, li_38, li_40, li_63, li_64, li_65, li_78, li_120, li_1000, li_4000, li_10000, li_11077, li_255, li_65535, li_m1, li_m2, li_m1000000001, li_m1000000002, li_m1000000003, li_m1000000004, li_m1000000005, li_m1000000006, li_m1000000007, or_true, true_or, or_false, false_or, implies_true, true_implies, false_implies] <;> omega)), (by first | omega | decide | (simp only [fa_lt, fa_le, fa_eq, and_true, true_and, and_false, false_and, not_true_eq_false, not_false_eq_true, li_0, li_1, li_2, li_3, li_4, li_5, li_6, li_7, li_8, li_9, li_10, li_12, li_15, li_16, li_20, li_30, li_34, li_38, li_40, li_63, li_64, li_65, li_78, li_120, li_1000, li_4000, li_10000, li_11077, li_255, li_65535, li_m1, li_m2, li_m1000000001, li_m1000000002, li_m1000000003, li_m1000000004, li_m1000000005, li_m1000000006, li_m1000000007, or_true, true_or, or_false, false_or, implies_true, true_implies, false_implies] <;> omega)), (by first | omega | decide | (simp only [fa_lt, fa_le, fa_eq, and_true, true_and, and_false, false_and, not_true_eq_false, not_false_eq_true, li_0, li_1, li_2, li_3, li_4, li_5, li_6, li_7, li_8, li_9, li_10, li_12, li_15, li_16, li_20, li_30, li_34, li_38, li_40, li_63, li_64, li_65, li_78, li_120, li_1000, li_4000, li_10000, li_11077, li_255, li_65535, li_m1, li_m2, li_m1000000001, li_m1000000002, li_m1000000003, li_m1000000004, li_m1000000005, li_m1000000006, li_m1000000007, or_true, true_or, or_false, false_or, implies_true, true_implies, false_implies] <;> omega)), by rw [ht]; exact hP9, va_K.moved hW.alike hK9, hD9⟩, hS.F ht⟩) hS.2.2 dX8_sheet_70
        · skip
          have tc_11 : ¬ n.toInt ≤ 40 := fun h => c_11 ((fa_le _ _).mpr h)
          refine lv_aload_n hx hb dX8_sheet_43 rfl (lv_at hl 1 rfl) ?_
          refine lv_ldc hx hb hown (hts _ (List.mem_of_getElem? (i := 6) rfl)) dX8_sheet_44 ?_
          have hPc := hP.sub (ws' := [(h0, .inr (6, [v0, v1, v2, v3, v4, .ref ph, .ref t0, v7])), (t0, .inl (tc, 7, .inl tf))]) [0, 1] rfl
          have hKc := hK.sub (tys' := [(tc, .int)]) [0] rfl
          have hDc := hD.sub (ws' := [(h0, .inr (6, [v0, v1, v2, v3, v4, .ref ph, .ref t0, v7])), (t0, .inl (tc, 7, .inl tf))]) [0, 1] (by decide) rfl
          have hFc := va_free (wc := [(h0, .inr (6, [v0, v1, v2, v3, v4, .ref ph, .ref t0, v7])), (t0, .inl (tc, 7, .inl tf))]) hD hS hA [0, 1] rfl
          refine va_calli (va_runV (As := [.int (-1000000001)]) (rest := []) ⟨hx, hb, hml, hown, hts⟩ (f_beyond l dC dI ad h0 v0 v1 v2 v3 v4 (.ref ph) t0 v7 tc tf s.heap.size ) (cwV 1 hts g_x_sheet_f_beyond_63 rfl rfl rfl (by decide +kernel) ⟨(Nat.le_of_ble_eq_true rfl), (Nat.le_of_ble_eq_true rfl)⟩) ⟨preM_blind, va_recv hKc hPc (ci := 6) (q0 := 0) rfl rfl, fun U hU hW => ⟨rfl, preM_at hU hW hPc hKc hDc hev⟩⟩ rfl rfl hl.1 rfl (lv_room (Nat.le_of_ble_eq_true rfl)) dX8_sheet_46 ⟨(Nat.le_of_ble_eq_true rfl), (Nat.le_of_ble_eq_true rfl)⟩) hS (fun q _ h => hFc q h) hFc (fun r_17 u t H1 locs ht hvm hw hB hz1 hk1 hS => ?_)
          obtain ⟨tg_18, hP1, hK1, hD1⟩ := hB
          rw [ht] at hP1
          have hK1 := va_K.moved hvm.symm hK1
          obtain ⟨hP, hD⟩ := va_join (wr := [(ph, .inl (pc, 4, .inr (.inr (.inr (.inr pf))))), (p0, .inr (0, [.int b0, .int z0, .ref n0])), (n0, .inl (nc0, 40, .inr (.inl g0))), (p1, .inr (0, [.int b1, .int z1, .ref n1])), (n1, .inl (nc1, 40, .inr (.inl g1))), (p2, .inr (0, [.int b2, .int z2, .ref n2])), (n2, .inl (nc2, 40, .inr (.inl g2))), (p3, .inr (0, [.int b3, .int z3, .ref n3])), (n3, .inl (nc3, 40, .inr (.inl g3)))]) (w1 := [(h0, .inr (6, [v0, v1, v2, v3, v4, .ref ph, .ref t0, v7])), (t0, .inl (tc, 7, .inl tg_18))]) hP hD [0, 1] [2, 3, 4, 5, 6, 7, 8, 9, 10] rfl rfl (by decide) (by decide) hk1 hFc hP1 hD1
          generalize H1 = H at hP hS ⊢
          have hP : va_P (dC, dI) vwCl [(ph, .inl (pc, 4, .inr (.inr (.inr (.inr pf))))), (p0, .inr (0, [.int b0, .int z0, .ref n0])), (n0, .inl (nc0, 40, .inr (.inl g0))), (p1, .inr (0, [.int b1, .int z1, .ref n1])), (n1, .inl (nc1, 40, .inr (.inl g1))), (p2, .inr (0, [.int b2, .int z2, .ref n2])), (n2, .inl (nc2, 40, .inr (.inl g2))), (p3, .inr (0, [.int b3, .int z3, .ref n3])), (n3, .inl (nc3, 40, .inr (.inl g3))), (h0, .inr (6, [v0, v1, v2, v3, v4, .ref ph, .ref t0, v7])), (t0, .inl (tc, 7, .inl tg_18))] H := hP
          have hD : va_D A [(ph, .inl (pc, 4, .inr (.inr (.inr (.inr pf))))), (p0, .inr (0, [.int b0, .int z0, .ref n0])), (n0, .inl (nc0, 40, .inr (.inl g0))), (p1, .inr (0, [.int b1, .int z1, .ref n1])), (n1, .inl (nc1, 40, .inr (.inl g1))), (p2, .inr (0, [.int b2, .int z2, .ref n2])), (n2, .inl (nc2, 40, .inr (.inl g2))), (p3, .inr (0, [.int b3, .int z3, .ref n3])), (n3, .inl (nc3, 40, .inr (.inl g3))), (h0, .inr (6, [v0, v1, v2, v3, v4, .ref ph, .ref t0, v7])), (t0, .inl (tc, 7, .inl tg_18))] := hD
          subst hw
          have hP9 := hP.sub (ws' := [(h0, .inr (6, [v0, v1, v2, v3, v4, .ref ph, .ref t0, v7])), (t0, .inl (tc, 7, .inl tg_18)), (ph, .inl (pc, 4, .inr (.inr (.inr (.inr pf))))), (p0, .inr (0, [.int b0, .int z0, .ref n0])), (n0, .inl (nc0, 40, .inr (.inl g0))), (p1, .inr (0, [.int b1, .int z1, .ref n1])), (n1, .inl (nc1, 40, .inr (.inl g1))), (p2, .inr (0, [.int b2, .int z2, .ref n2])), (n2, .inl (nc2, 40, .inr (.inl g2))), (p3, .inr (0, [.int b3, .int z3, .ref n3])), (n3, .inl (nc3, 40, .inr (.inl g3)))]) [9, 10, 0, 1, 2, 3, 4, 5, 6, 7, 8] rfl
          have hD9 := hD.sub (ws' := [(h0, .inr (6, [v0, v1, v2, v3, v4, .ref ph, .ref t0, v7])), (t0, .inl (tc, 7, .inl tg_18)), (ph, .inl (pc, 4, .inr (.inr (.inr (.inr pf))))), (p0, .inr (0, [.int b0, .int z0, .ref n0])), (n0, .inl (nc0, 40, .inr (.inl g0))), (p1, .inr (0, [.int b1, .int z1, .ref n1])), (n1, .inl (nc1, 40, .inr (.inl g1))), (p2, .inr (0, [.int b2, .int z2, .ref n2])), (n2, .inl (nc2, 40, .inr (.inl g2))), (p3, .inr (0, [.int b3, .int z3, .ref n3])), (n3, .inl (nc3, 40, .inr (.inl g3)))]) [9, 10, 0, 1, 2, 3, 4, 5, 6, 7, 8] (by decide) rfl
          have hK9 := hK.sub (tys' := [(tc, .int), (pc, .object "LampShapes$Paper"), (nc0, .long), (nc1, .long), (nc2, .long), (nc3, .long)]) [0, 1, 2, 3, 4, 5] rfl
          exact W.iret (v := ((-1000000001) : Int32)) hx hb hr (fun t ht hW => ⟨⟨((-1000000001) : Int32), (), rfl, trivial, tg_18, b0, z0, b1, z1, b2, z2, b3, z3, g0, g1, g2, g3, (by first | omega | decide | (simp only [fa_lt, fa_le, fa_eq, and_true, true_and, and_false, false_and, not_true_eq_false, not_false_eq_true, li_0, li_1, li_2, li_3, li_4, li_5, li_6, li_7, li_8, li_9, li_10, li_12, li_15, li_16, li_20, li_30, li_34, li_38, li_40, li_63, li_64, li_65, li_78, li_120, li_1000, li_4000, li_10000, li_11077, li_255, li_65535, li_m1, li_m2, li_m1000000001, li_m1000000002, li_m1000000003, li_m1000000004, li_m1000000005, li_m1000000006, li_m1000000007, or_true, true_or, or_false, false_or, implies_true, true_implies, false_implies] <;> omega)), (by first | omega | decide | (simp only [fa_lt, fa_le, fa_eq, and_true, true_and, and_false, false_and, not_true_eq_false, not_false_eq_true, li_0, li_1, li_2, li_3, li_4, li_5, li_6, li_7, li_8, li_9, li_10, li_12, li_15, li_16, li_20, li_30, li_34, li_38, li_40, li_63, li_64, li_65, li_78, li_120, li_1000, li_4000, li_10000, li_11077, li_255, li_65535, li_m1, li_m2, li_m1000000001, li_m1000000002, li_m1000000003, li_m1000000004, li_m1000000005, li_m1000000006, li_m1000000007, or_true, true_or, or_false, false_or, implies_true, true_implies, false_implies] <;> omega)), (by first | omega | decide | (simp only [fa_lt, fa_le, fa_eq, and_true, true_and, and_false, false_and, not_true_eq_false, not_false_eq_true, li_0, li_1, li_2, li_3, li_4, li_5, li_6, li_7, li_8, li_9, li_10, li_12, li_15, li_16, li_20, li_30, li_34, li_38, li_40, li_63, li_64, li_65, li_78, li_120, li_1000, li_4000, li_10000, li_11077, li_255, li_65535, li_m1, li_m2, li_m1000000001, li_m1000000002, li_m1000000003, li_m1000000004, li_m1000000005, li_m1000000006, li_m1000000007, or_true, true_or, or_false, false_or, implies_true, true_implies, false_implies] <;> omega)), (by first | omega | decide | (simp only [fa_lt, fa_le, fa_eq, and_true, true_and, and_false, false_and, not_true_eq_false, not_false_eq_true, li_0, li_1, li_2, li_3, li_4, li_5, li_6, li_7, li_8, li_9, li_10, li_12, li_15, li_16, li_20, li_30, li_34, li_38, li_40, li_63, li_64, li_65, li_78, li_120, li_1000, li_4000, li_10000, li_11077, li_255, li_65535, li_m1, li_m2, li_m1000000001, li_m1000000002, li_m1000000003, li_m1000000004, li_m1000000005, li_m1000000006, li_m1000000007, or_true, true_or, or_false, false_or, implies_true, true_implies, false_implies] <;> omega)), by rw [ht]; exact hP9, va_K.moved hW.alike hK9, hD9⟩, hS.F ht⟩) hS.2.2 dX8_sheet_49
      · skip
        have tc_10 : ¬ 0 ≤ n.toInt := fun h => c_10 ((fa_le _ _).mpr h)
        refine lv_aload_n hx hb dX8_sheet_30 rfl (lv_at hl 1 rfl) ?_
        refine lv_ldc hx hb hown (hts _ (List.mem_of_getElem? (i := 24) rfl)) dX8_sheet_31 ?_
        have hPc := hP.sub (ws' := [(h0, .inr (6, [v0, v1, v2, v3, v4, .ref ph, .ref t0, v7])), (t0, .inl (tc, 7, .inl tf))]) [0, 1] rfl
        have hKc := hK.sub (tys' := [(tc, .int)]) [0] rfl
        have hDc := hD.sub (ws' := [(h0, .inr (6, [v0, v1, v2, v3, v4, .ref ph, .ref t0, v7])), (t0, .inl (tc, 7, .inl tf))]) [0, 1] (by decide) rfl
        have hFc := va_free (wc := [(h0, .inr (6, [v0, v1, v2, v3, v4, .ref ph, .ref t0, v7])), (t0, .inl (tc, 7, .inl tf))]) hD hS hA [0, 1] rfl
        refine va_calli (va_runV (As := [.int (-1000000007)]) (rest := []) ⟨hx, hb, hml, hown, hts⟩ (f_size l dC dI ad h0 v0 v1 v2 v3 v4 (.ref ph) t0 v7 tc tf s.heap.size ) (cwV 1 hts g_x_sheet_f_size_63 rfl rfl rfl (by decide +kernel) ⟨(Nat.le_of_ble_eq_true rfl), (Nat.le_of_ble_eq_true rfl)⟩) ⟨preM_blind, va_recv hKc hPc (ci := 6) (q0 := 0) rfl rfl, fun U hU hW => ⟨rfl, preM_at hU hW hPc hKc hDc hev⟩⟩ rfl rfl hl.1 rfl (lv_room (Nat.le_of_ble_eq_true rfl)) dX8_sheet_33 ⟨(Nat.le_of_ble_eq_true rfl), (Nat.le_of_ble_eq_true rfl)⟩) hS (fun q _ h => hFc q h) hFc (fun r_19 u t H1 locs ht hvm hw hB hz1 hk1 hS => ?_)
        obtain ⟨tg_20, hP1, hK1, hD1⟩ := hB
        rw [ht] at hP1
        have hK1 := va_K.moved hvm.symm hK1
        obtain ⟨hP, hD⟩ := va_join (wr := [(ph, .inl (pc, 4, .inr (.inr (.inr (.inr pf))))), (p0, .inr (0, [.int b0, .int z0, .ref n0])), (n0, .inl (nc0, 40, .inr (.inl g0))), (p1, .inr (0, [.int b1, .int z1, .ref n1])), (n1, .inl (nc1, 40, .inr (.inl g1))), (p2, .inr (0, [.int b2, .int z2, .ref n2])), (n2, .inl (nc2, 40, .inr (.inl g2))), (p3, .inr (0, [.int b3, .int z3, .ref n3])), (n3, .inl (nc3, 40, .inr (.inl g3)))]) (w1 := [(h0, .inr (6, [v0, v1, v2, v3, v4, .ref ph, .ref t0, v7])), (t0, .inl (tc, 7, .inl tg_20))]) hP hD [0, 1] [2, 3, 4, 5, 6, 7, 8, 9, 10] rfl rfl (by decide) (by decide) hk1 hFc hP1 hD1
        generalize H1 = H at hP hS ⊢
        have hP : va_P (dC, dI) vwCl [(ph, .inl (pc, 4, .inr (.inr (.inr (.inr pf))))), (p0, .inr (0, [.int b0, .int z0, .ref n0])), (n0, .inl (nc0, 40, .inr (.inl g0))), (p1, .inr (0, [.int b1, .int z1, .ref n1])), (n1, .inl (nc1, 40, .inr (.inl g1))), (p2, .inr (0, [.int b2, .int z2, .ref n2])), (n2, .inl (nc2, 40, .inr (.inl g2))), (p3, .inr (0, [.int b3, .int z3, .ref n3])), (n3, .inl (nc3, 40, .inr (.inl g3))), (h0, .inr (6, [v0, v1, v2, v3, v4, .ref ph, .ref t0, v7])), (t0, .inl (tc, 7, .inl tg_20))] H := hP
        have hD : va_D A [(ph, .inl (pc, 4, .inr (.inr (.inr (.inr pf))))), (p0, .inr (0, [.int b0, .int z0, .ref n0])), (n0, .inl (nc0, 40, .inr (.inl g0))), (p1, .inr (0, [.int b1, .int z1, .ref n1])), (n1, .inl (nc1, 40, .inr (.inl g1))), (p2, .inr (0, [.int b2, .int z2, .ref n2])), (n2, .inl (nc2, 40, .inr (.inl g2))), (p3, .inr (0, [.int b3, .int z3, .ref n3])), (n3, .inl (nc3, 40, .inr (.inl g3))), (h0, .inr (6, [v0, v1, v2, v3, v4, .ref ph, .ref t0, v7])), (t0, .inl (tc, 7, .inl tg_20))] := hD
        subst hw
        have hP9 := hP.sub (ws' := [(h0, .inr (6, [v0, v1, v2, v3, v4, .ref ph, .ref t0, v7])), (t0, .inl (tc, 7, .inl tg_20)), (ph, .inl (pc, 4, .inr (.inr (.inr (.inr pf))))), (p0, .inr (0, [.int b0, .int z0, .ref n0])), (n0, .inl (nc0, 40, .inr (.inl g0))), (p1, .inr (0, [.int b1, .int z1, .ref n1])), (n1, .inl (nc1, 40, .inr (.inl g1))), (p2, .inr (0, [.int b2, .int z2, .ref n2])), (n2, .inl (nc2, 40, .inr (.inl g2))), (p3, .inr (0, [.int b3, .int z3, .ref n3])), (n3, .inl (nc3, 40, .inr (.inl g3)))]) [9, 10, 0, 1, 2, 3, 4, 5, 6, 7, 8] rfl
        have hD9 := hD.sub (ws' := [(h0, .inr (6, [v0, v1, v2, v3, v4, .ref ph, .ref t0, v7])), (t0, .inl (tc, 7, .inl tg_20)), (ph, .inl (pc, 4, .inr (.inr (.inr (.inr pf))))), (p0, .inr (0, [.int b0, .int z0, .ref n0])), (n0, .inl (nc0, 40, .inr (.inl g0))), (p1, .inr (0, [.int b1, .int z1, .ref n1])), (n1, .inl (nc1, 40, .inr (.inl g1))), (p2, .inr (0, [.int b2, .int z2, .ref n2])), (n2, .inl (nc2, 40, .inr (.inl g2))), (p3, .inr (0, [.int b3, .int z3, .ref n3])), (n3, .inl (nc3, 40, .inr (.inl g3)))]) [9, 10, 0, 1, 2, 3, 4, 5, 6, 7, 8] (by decide) rfl
        have hK9 := hK.sub (tys' := [(tc, .int), (pc, .object "LampShapes$Paper"), (nc0, .long), (nc1, .long), (nc2, .long), (nc3, .long)]) [0, 1, 2, 3, 4, 5] rfl
        exact W.iret (v := ((-1000000007) : Int32)) hx hb hr (fun t ht hW => ⟨⟨((-1000000007) : Int32), (), rfl, trivial, tg_20, b0, z0, b1, z1, b2, z2, b3, z3, g0, g1, g2, g3, (by first | omega | decide | (simp only [fa_lt, fa_le, fa_eq, and_true, true_and, and_false, false_and, not_true_eq_false, not_false_eq_true, li_0, li_1, li_2, li_3, li_4, li_5, li_6, li_7, li_8, li_9, li_10, li_12, li_15, li_16, li_20, li_30, li_34, li_38, li_40, li_63, li_64, li_65, li_78, li_120, li_1000, li_4000, li_10000, li_11077, li_255, li_65535, li_m1, li_m2, li_m1000000001, li_m1000000002, li_m1000000003, li_m1000000004, li_m1000000005, li_m1000000006, li_m1000000007, or_true, true_or, or_false, false_or, implies_true, true_implies, false_implies] <;> omega)), (by first | omega | decide | (simp only [fa_lt, fa_le, fa_eq, and_true, true_and, and_false, false_and, not_true_eq_false, not_false_eq_true, li_0, li_1, li_2, li_3, li_4, li_5, li_6, li_7, li_8, li_9, li_10, li_12, li_15, li_16, li_20, li_30, li_34, li_38, li_40, li_63, li_64, li_65, li_78, li_120, li_1000, li_4000, li_10000, li_11077, li_255, li_65535, li_m1, li_m2, li_m1000000001, li_m1000000002, li_m1000000003, li_m1000000004, li_m1000000005, li_m1000000006, li_m1000000007, or_true, true_or, or_false, false_or, implies_true, true_implies, false_implies] <;> omega)), (by first | omega | decide | (simp only [fa_lt, fa_le, fa_eq, and_true, true_and, and_false, false_and, not_true_eq_false, not_false_eq_true, li_0, li_1, li_2, li_3, li_4, li_5, li_6, li_7, li_8, li_9, li_10, li_12, li_15, li_16, li_20, li_30, li_34, li_38, li_40, li_63, li_64, li_65, li_78, li_120, li_1000, li_4000, li_10000, li_11077, li_255, li_65535, li_m1, li_m2, li_m1000000001, li_m1000000002, li_m1000000003, li_m1000000004, li_m1000000005, li_m1000000006, li_m1000000007, or_true, true_or, or_false, false_or, implies_true, true_implies, false_implies] <;> omega)), (by first | omega | decide | (simp only [fa_lt, fa_le, fa_eq, and_true, true_and, and_false, false_and, not_true_eq_false, not_false_eq_true, li_0, li_1, li_2, li_3, li_4, li_5, li_6, li_7, li_8, li_9, li_10, li_12, li_15, li_16, li_20, li_30, li_34, li_38, li_40, li_63, li_64, li_65, li_78, li_120, li_1000, li_4000, li_10000, li_11077, li_255, li_65535, li_m1, li_m2, li_m1000000001, li_m1000000002, li_m1000000003, li_m1000000004, li_m1000000005, li_m1000000006, li_m1000000007, or_true, true_or, or_false, false_or, implies_true, true_implies, false_implies] <;> omega)), by rw [ht]; exact hP9, va_K.moved hW.alike hK9, hD9⟩, hS.F ht⟩) hS.2.2 dX8_sheet_36
    · skip
      have tc_9 : r_8.toInt = 0 := (fa_eq _ _).mp c_9
      refine lv_aload_n hx hb dX8_sheet_19 rfl (lv_at hl 1 rfl) ?_
      refine lv_ldc hx hb hown (hts _ (List.mem_of_getElem? (i := 6) rfl)) dX8_sheet_20 ?_
      have hPc := hP.sub (ws' := [(h0, .inr (6, [v0, v1, v2, v3, v4, .ref ph, .ref t0, v7])), (t0, .inl (tc, 7, .inl tf))]) [0, 1] rfl
      have hKc := hK.sub (tys' := [(tc, .int)]) [0] rfl
      have hDc := hD.sub (ws' := [(h0, .inr (6, [v0, v1, v2, v3, v4, .ref ph, .ref t0, v7])), (t0, .inl (tc, 7, .inl tf))]) [0, 1] (by decide) rfl
      have hFc := va_free (wc := [(h0, .inr (6, [v0, v1, v2, v3, v4, .ref ph, .ref t0, v7])), (t0, .inl (tc, 7, .inl tf))]) hD hS hA [0, 1] rfl
      refine va_calli (va_runV (As := [.int (-1000000001)]) (rest := []) ⟨hx, hb, hml, hown, hts⟩ (f_beyond l dC dI ad h0 v0 v1 v2 v3 v4 (.ref ph) t0 v7 tc tf s.heap.size ) (cwV 1 hts g_x_sheet_f_beyond_63 rfl rfl rfl (by decide +kernel) ⟨(Nat.le_of_ble_eq_true rfl), (Nat.le_of_ble_eq_true rfl)⟩) ⟨preM_blind, va_recv hKc hPc (ci := 6) (q0 := 0) rfl rfl, fun U hU hW => ⟨rfl, preM_at hU hW hPc hKc hDc hev⟩⟩ rfl rfl hl.1 rfl (lv_room (Nat.le_of_ble_eq_true rfl)) dX8_sheet_22 ⟨(Nat.le_of_ble_eq_true rfl), (Nat.le_of_ble_eq_true rfl)⟩) hS (fun q _ h => hFc q h) hFc (fun r_21 u t H1 locs ht hvm hw hB hz1 hk1 hS => ?_)
      obtain ⟨tg_22, hP1, hK1, hD1⟩ := hB
      rw [ht] at hP1
      have hK1 := va_K.moved hvm.symm hK1
      obtain ⟨hP, hD⟩ := va_join (wr := [(ph, .inl (pc, 4, .inr (.inr (.inr (.inr pf))))), (p0, .inr (0, [.int b0, .int z0, .ref n0])), (n0, .inl (nc0, 40, .inr (.inl g0))), (p1, .inr (0, [.int b1, .int z1, .ref n1])), (n1, .inl (nc1, 40, .inr (.inl g1))), (p2, .inr (0, [.int b2, .int z2, .ref n2])), (n2, .inl (nc2, 40, .inr (.inl g2))), (p3, .inr (0, [.int b3, .int z3, .ref n3])), (n3, .inl (nc3, 40, .inr (.inl g3)))]) (w1 := [(h0, .inr (6, [v0, v1, v2, v3, v4, .ref ph, .ref t0, v7])), (t0, .inl (tc, 7, .inl tg_22))]) hP hD [0, 1] [2, 3, 4, 5, 6, 7, 8, 9, 10] rfl rfl (by decide) (by decide) hk1 hFc hP1 hD1
      generalize H1 = H at hP hS ⊢
      have hP : va_P (dC, dI) vwCl [(ph, .inl (pc, 4, .inr (.inr (.inr (.inr pf))))), (p0, .inr (0, [.int b0, .int z0, .ref n0])), (n0, .inl (nc0, 40, .inr (.inl g0))), (p1, .inr (0, [.int b1, .int z1, .ref n1])), (n1, .inl (nc1, 40, .inr (.inl g1))), (p2, .inr (0, [.int b2, .int z2, .ref n2])), (n2, .inl (nc2, 40, .inr (.inl g2))), (p3, .inr (0, [.int b3, .int z3, .ref n3])), (n3, .inl (nc3, 40, .inr (.inl g3))), (h0, .inr (6, [v0, v1, v2, v3, v4, .ref ph, .ref t0, v7])), (t0, .inl (tc, 7, .inl tg_22))] H := hP
      have hD : va_D A [(ph, .inl (pc, 4, .inr (.inr (.inr (.inr pf))))), (p0, .inr (0, [.int b0, .int z0, .ref n0])), (n0, .inl (nc0, 40, .inr (.inl g0))), (p1, .inr (0, [.int b1, .int z1, .ref n1])), (n1, .inl (nc1, 40, .inr (.inl g1))), (p2, .inr (0, [.int b2, .int z2, .ref n2])), (n2, .inl (nc2, 40, .inr (.inl g2))), (p3, .inr (0, [.int b3, .int z3, .ref n3])), (n3, .inl (nc3, 40, .inr (.inl g3))), (h0, .inr (6, [v0, v1, v2, v3, v4, .ref ph, .ref t0, v7])), (t0, .inl (tc, 7, .inl tg_22))] := hD
      subst hw
      have hP9 := hP.sub (ws' := [(h0, .inr (6, [v0, v1, v2, v3, v4, .ref ph, .ref t0, v7])), (t0, .inl (tc, 7, .inl tg_22)), (ph, .inl (pc, 4, .inr (.inr (.inr (.inr pf))))), (p0, .inr (0, [.int b0, .int z0, .ref n0])), (n0, .inl (nc0, 40, .inr (.inl g0))), (p1, .inr (0, [.int b1, .int z1, .ref n1])), (n1, .inl (nc1, 40, .inr (.inl g1))), (p2, .inr (0, [.int b2, .int z2, .ref n2])), (n2, .inl (nc2, 40, .inr (.inl g2))), (p3, .inr (0, [.int b3, .int z3, .ref n3])), (n3, .inl (nc3, 40, .inr (.inl g3)))]) [9, 10, 0, 1, 2, 3, 4, 5, 6, 7, 8] rfl
      have hD9 := hD.sub (ws' := [(h0, .inr (6, [v0, v1, v2, v3, v4, .ref ph, .ref t0, v7])), (t0, .inl (tc, 7, .inl tg_22)), (ph, .inl (pc, 4, .inr (.inr (.inr (.inr pf))))), (p0, .inr (0, [.int b0, .int z0, .ref n0])), (n0, .inl (nc0, 40, .inr (.inl g0))), (p1, .inr (0, [.int b1, .int z1, .ref n1])), (n1, .inl (nc1, 40, .inr (.inl g1))), (p2, .inr (0, [.int b2, .int z2, .ref n2])), (n2, .inl (nc2, 40, .inr (.inl g2))), (p3, .inr (0, [.int b3, .int z3, .ref n3])), (n3, .inl (nc3, 40, .inr (.inl g3)))]) [9, 10, 0, 1, 2, 3, 4, 5, 6, 7, 8] (by decide) rfl
      have hK9 := hK.sub (tys' := [(tc, .int), (pc, .object "LampShapes$Paper"), (nc0, .long), (nc1, .long), (nc2, .long), (nc3, .long)]) [0, 1, 2, 3, 4, 5] rfl
      exact W.iret (v := ((-1000000001) : Int32)) hx hb hr (fun t ht hW => ⟨⟨((-1000000001) : Int32), (), rfl, trivial, tg_22, b0, z0, b1, z1, b2, z2, b3, z3, g0, g1, g2, g3, (by first | omega | decide | (simp only [fa_lt, fa_le, fa_eq, and_true, true_and, and_false, false_and, not_true_eq_false, not_false_eq_true, li_0, li_1, li_2, li_3, li_4, li_5, li_6, li_7, li_8, li_9, li_10, li_12, li_15, li_16, li_20, li_30, li_34, li_38, li_40, li_63, li_64, li_65, li_78, li_120, li_1000, li_4000, li_10000, li_11077, li_255, li_65535, li_m1, li_m2, li_m1000000001, li_m1000000002, li_m1000000003, li_m1000000004, li_m1000000005, li_m1000000006, li_m1000000007, or_true, true_or, or_false, false_or, implies_true, true_implies, false_implies] <;> omega)), (by first | omega | decide | (simp only [fa_lt, fa_le, fa_eq, and_true, true_and, and_false, false_and, not_true_eq_false, not_false_eq_true, li_0, li_1, li_2, li_3, li_4, li_5, li_6, li_7, li_8, li_9, li_10, li_12, li_15, li_16, li_20, li_30, li_34, li_38, li_40, li_63, li_64, li_65, li_78, li_120, li_1000, li_4000, li_10000, li_11077, li_255, li_65535, li_m1, li_m2, li_m1000000001, li_m1000000002, li_m1000000003, li_m1000000004, li_m1000000005, li_m1000000006, li_m1000000007, or_true, true_or, or_false, false_or, implies_true, true_implies, false_implies] <;> omega)), (by first | omega | decide | (simp only [fa_lt, fa_le, fa_eq, and_true, true_and, and_false, false_and, not_true_eq_false, not_false_eq_true, li_0, li_1, li_2, li_3, li_4, li_5, li_6, li_7, li_8, li_9, li_10, li_12, li_15, li_16, li_20, li_30, li_34, li_38, li_40, li_63, li_64, li_65, li_78, li_120, li_1000, li_4000, li_10000, li_11077, li_255, li_65535, li_m1, li_m2, li_m1000000001, li_m1000000002, li_m1000000003, li_m1000000004, li_m1000000005, li_m1000000006, li_m1000000007, or_true, true_or, or_false, false_or, implies_true, true_implies, false_implies] <;> omega)), (by first | omega | decide | (simp only [fa_lt, fa_le, fa_eq, and_true, true_and, and_false, false_and, not_true_eq_false, not_false_eq_true, li_0, li_1, li_2, li_3, li_4, li_5, li_6, li_7, li_8, li_9, li_10, li_12, li_15, li_16, li_20, li_30, li_34, li_38, li_40, li_63, li_64, li_65, li_78, li_120, li_1000, li_4000, li_10000, li_11077, li_255, li_65535, li_m1, li_m2, li_m1000000001, li_m1000000002, li_m1000000003, li_m1000000004, li_m1000000005, li_m1000000006, li_m1000000007, or_true, true_or, or_false, false_or, implies_true, true_implies, false_implies] <;> omega)), by rw [ht]; exact hP9, va_K.moved hW.alike hK9, hD9⟩, hS.F ht⟩) hS.2.2 dX8_sheet_25
  · skip
    refine Met.ofW (cc := cX8_sheet) (maxL := 5) (ret := (some .int)) (by decide) rfl ?_
    intro p e s m args below meth c s₁ B hml hv
    obtain ⟨rfl, hsz, hP, hK, hD0, hev⟩ := hv
    have hx := B.exec
    have hb := B.bytes
    have hr := B.returns
    have hts := atoms_spec (ws := w_x_sheet) B.pre
    have hown : s.vm.findClass RX8 = some m.cls := findClass_of_methodNamed B.named
    have hlocks := B.notSynchronized
    have inX8 : ∀ w ∈ wsX80, w ∈ w_x_sheet := fun w h => List.mem_cons_of_mem _ (List.mem_append_left _ (List.mem_append_right _ h))
    have inX2 : ∀ w ∈ wsX20, w ∈ w_x_sheet := fun w h => List.mem_cons_of_mem _ (List.mem_append_right _ h)
    subst hsz
    have hD := hD0.self (sz := s.heap.size)
    generalize hAe : va_A [(h0, .inr (6, [v0, v1, v2, v3, v4, .ref ph, .ref t0, v7])), (t0, .inl (tc, 7, .inl tf)), (ph, .inl (pc, 4, .inr (.inr (.inr (.inr pf))))), (p0, .inr (0, [.int b0, .int z0, .ref n0])), (n0, .inl (nc0, 40, .inr (.inl g0))), (p1, .inr (0, [.int b1, .int z1, .ref n1])), (n1, .inl (nc1, 40, .inr (.inl g1))), (p2, .inr (0, [.int b2, .int z2, .ref n2])), (n2, .inl (nc2, 40, .inr (.inl g2))), (p3, .inr (0, [.int b3, .int z3, .ref n3])), (n3, .inl (nc3, 40, .inr (.inl g3)))] s.heap.size = A at hD ⊢
    have hA : ∀ q : Nat, s.heap.size ≤ q → A q := fun q h => by rw [← hAe]; exact Or.inr h
    have hS : va_S A s.heap s.heap [] := va_S.rf
    have hP : va_P (dC, dI) vwCl [(h0, .inr (6, [v0, v1, v2, v3, v4, .ref ph, .ref t0, v7])), (t0, .inl (tc, 7, .inl tf)), (ph, .inl (pc, 4, .inr (.inr (.inr (.inr pf))))), (p0, .inr (0, [.int b0, .int z0, .ref n0])), (n0, .inl (nc0, 40, .inr (.inl g0))), (p1, .inr (0, [.int b1, .int z1, .ref n1])), (n1, .inl (nc1, 40, .inr (.inl g1))), (p2, .inr (0, [.int b2, .int z2, .ref n2])), (n2, .inl (nc2, 40, .inr (.inl g2))), (p3, .inr (0, [.int b3, .int z3, .ref n3])), (n3, .inl (nc3, 40, .inr (.inl g3)))] s.heap := hP
    have hl := lv_entry ([.ref h0, .int 1, .int b, .int n]) (n := 5) (Nat.le_of_ble_eq_true rfl)
    rw [lg_entry_eq]
    generalize (lg_sl ([.ref h0, .int 1, .int b, .int n]) ++ List.replicate (5 - (lg_sl ([.ref h0, .int 1, .int b, .int n])).length) Slot.unset).toArray = ls at hl ⊢
    have hl : lv_has ls 5 [(0, .ref h0), (1, .int 1), (2, .int b), (3, .int n)] := hl
    refine lv_aload_n hx hb dX8_sheet_0 rfl (lv_at hl 0 rfl) ?_
    refine lv_iload_n hx hb dX8_sheet_1 rfl (lv_at hl 1 rfl) ?_
    have hPc := hP.sub (ws' := [(h0, .inr (6, [v0, v1, v2, v3, v4, .ref ph, .ref t0, v7])), (ph, .inl (pc, 4, .inr (.inr (.inr (.inr pf)))))]) [0, 2] rfl
    have hKc := hK.sub (tys' := [(pc, .object "LampShapes$Paper")]) [1] rfl
    refine va_csq (W.runV (As := [.int 1]) (rest := []) ⟨hx, hb, hml, hown, hts⟩ (c_paperAt_1 l dC dI ad h0 v0 v1 v2 v3 v4 ph (.ref t0) v7 pc pf p1 hp1) (cwV 1 hts g_x_sheet_c_paperAt_1_256 rfl rfl rfl (by decide +kernel) ⟨(Nat.le_of_ble_eq_true rfl), (Nat.le_of_ble_eq_true rfl)⟩) ⟨preS_blind, va_recv hKc hPc (ci := 6) (q0 := 0) rfl rfl, fun U hU hW => ⟨rfl, preS_at hU hW hPc hKc hev⟩⟩ rfl rfl hl.1 rfl (lv_room (Nat.le_of_ble_eq_true rfl)) dX8_sheet_2 ⟨(Nat.le_of_ble_eq_true rfl), (Nat.le_of_ble_eq_true rfl)⟩) (fun r_23 hw => ?_)
    subst hw
    refine pp_tv (y := .ref p1) rfl ?_
    refine lv_astore (lv' := [(4, .ref p1), (0, .ref h0), (1, .int 1), (2, .int b), (3, .int n)]) hx hb dX8_sheet_5 hl (by decide) rfl (fun ls hl => ?_)
    refine lv_aload hx hb dX8_sheet_7 (lv_at hl 0 rfl) ?_
    refine lv_ifnull hx hb dX8_sheet_9 ?_
    refine lv_iload_n hx hb dX8_sheet_12 rfl (lv_at hl 3 rfl) ?_
    have hPc := hP.sub (ws' := []) [] rfl
    have hKc := hK.sub (tys' := []) [] rfl
    refine vp_callSi (W.runS (As := [.int b]) (rest := []) ⟨hx, hb, hml, hown, hts⟩ (x_isWidth l dC dI ad b ) (va_cwS 1 hts g_x_sheet_x_isWidth_260 rfl rfl rfl (by decide +kernel) ⟨(Nat.le_of_ble_eq_true rfl), (Nat.le_of_ble_eq_true rfl)⟩) ⟨preS_blind, fun U hU hW => ⟨rfl, preS_at hU hW hPc hKc hev⟩⟩ rfl rfl hl.1 rfl (lv_room (Nat.le_of_ble_eq_true rfl)) dX8_sheet_13 ⟨(Nat.le_of_ble_eq_true rfl), (Nat.le_of_ble_eq_true rfl)⟩) (fun r_24 hw => ?_)
    have hr_24 : (r_24.toInt = 0 ∧ ¬ b.toInt = 0 ∧ ¬ b.toInt = 8 ∧ ¬ b.toInt = 16 ∧ ¬ b.toInt = 64) ∨ (r_24.toInt = 1 ∧ (b.toInt = 0 ∨ b.toInt = 8 ∨ b.toInt = 16 ∨ b.toInt = 64)) := hw
    refine lv_if_ne (tgt := 26) hx hb dX8_sheet_16 (by decide) (fun c_25 => ?_) (fun c_25 => ?_)
    · skip
      have tc_25 : ¬ r_24.toInt = 0 := fun h => c_25 ((fa_eq _ _).mpr h)
      refine lv_iload_n hx hb dX8_sheet_26 rfl (lv_at hl 4 rfl) ?_
      refine lv_if_ge (tgt := 37) hx hb dX8_sheet_27 (by decide) (fun c_26 => ?_) (fun c_26 => ?_)
      · skip
        have tc_26 : 0 ≤ n.toInt := (fa_le _ _).mp c_26
        refine lv_iload_n hx hb dX8_sheet_37 rfl (lv_at hl 4 rfl) ?_
        refine lv_bipush (v := 40) hx hb dX8_sheet_38 (by decide) ?_
        refine lv_icmp_le (tgt := 50) hx hb dX8_sheet_40 (by decide) (fun c_27 => ?_) (fun c_27 => ?_)
        · skip
          have tc_27 : n.toInt ≤ 40 := (fa_le _ _).mp c_27
          refine lv_aload hx hb dX8_sheet_50 (lv_at hl 0 rfl) ?_
          refine lv_iload_n hx hb dX8_sheet_52 rfl (lv_at hl 3 rfl) ?_
          refine lv_iload_n hx hb dX8_sheet_53 rfl (lv_at hl 3 rfl) ?_
          refine lv_if_ne (tgt := 61) hx hb dX8_sheet_54 (by decide) (fun c_28 => ?_) (fun c_28 => ?_)
          · skip
            have tc_28 : ¬ b.toInt = 0 := fun h => c_28 ((fa_eq _ _).mpr h)
            refine lv_iload_n hx hb dX8_sheet_61 rfl (lv_at hl 4 rfl) ?_
            have hPc := hP.sub (ws' := [(p1, .inr (0, [.int b1, .int z1, .ref n1])), (n1, .inl (nc1, 40, .inr (.inl g1)))]) [5, 6] rfl
            have hKc := hK.sub (tys' := [(nc1, .long)]) [3] rfl
            have hDc := hD.sub (ws' := [(p1, .inr (0, [.int b1, .int z1, .ref n1])), (n1, .inl (nc1, 40, .inr (.inl g1)))]) [5, 6] (by decide) rfl
            have hFc := va_free (wc := [(p1, .inr (0, [.int b1, .int z1, .ref n1])), (n1, .inl (nc1, 40, .inr (.inl g1)))]) hD hS hA [5, 6] rfl
            refine va_callv (va_runV (As := [.int b, .int n]) (rest := []) ⟨hx, hb, hml, hown, hts⟩ (p_renew l dC dI ad p1 b n (.int b1) (.int z1) n1 nc1 g1 s.heap.size ) (cwV 2 hts g_x_sheet_p_renew_263 rfl rfl rfl (by decide +kernel) ⟨(Nat.le_of_ble_eq_true rfl), (Nat.le_of_ble_eq_true rfl)⟩) ⟨preM_blind, va_recv hKc hPc (ci := 0) (q0 := 0) rfl rfl, fun U hU hW => ⟨rfl, preM_at hU hW hPc hKc hDc hev⟩⟩ rfl rfl hl.1 rfl (lv_room (Nat.le_of_ble_eq_true rfl)) dX8_sheet_62 ⟨(Nat.le_of_ble_eq_true rfl), (Nat.le_of_ble_eq_true rfl)⟩) hS (fun q _ h => hFc q h) hFc (fun u t H1 locs ht hvm hw hB hz1 hk1 hS => ?_)
            obtain ⟨g_30, hP1, hK1, hD1⟩ := hB
            rw [ht] at hP1
            have hK1 := va_K.moved hvm.symm hK1
            obtain ⟨hP, hD⟩ := va_join (wr := [(h0, .inr (6, [v0, v1, v2, v3, v4, .ref ph, .ref t0, v7])), (t0, .inl (tc, 7, .inl tf)), (ph, .inl (pc, 4, .inr (.inr (.inr (.inr pf))))), (p0, .inr (0, [.int b0, .int z0, .ref n0])), (n0, .inl (nc0, 40, .inr (.inl g0))), (p2, .inr (0, [.int b2, .int z2, .ref n2])), (n2, .inl (nc2, 40, .inr (.inl g2))), (p3, .inr (0, [.int b3, .int z3, .ref n3])), (n3, .inl (nc3, 40, .inr (.inl g3)))]) (w1 := [(p1, .inr (0, [.int b, .int n, .ref n1])), (n1, .inl (nc1, 40, .inr (.inl g_30)))]) hP hD [5, 6] [0, 1, 2, 3, 4, 7, 8, 9, 10] rfl rfl (by decide) (by decide) hk1 hFc hP1 hD1
            generalize H1 = H at hP hS ⊢
            have hP : va_P (dC, dI) vwCl [(h0, .inr (6, [v0, v1, v2, v3, v4, .ref ph, .ref t0, v7])), (t0, .inl (tc, 7, .inl tf)), (ph, .inl (pc, 4, .inr (.inr (.inr (.inr pf))))), (p0, .inr (0, [.int b0, .int z0, .ref n0])), (n0, .inl (nc0, 40, .inr (.inl g0))), (p2, .inr (0, [.int b2, .int z2, .ref n2])), (n2, .inl (nc2, 40, .inr (.inl g2))), (p3, .inr (0, [.int b3, .int z3, .ref n3])), (n3, .inl (nc3, 40, .inr (.inl g3))), (p1, .inr (0, [.int b, .int n, .ref n1])), (n1, .inl (nc1, 40, .inr (.inl g_30)))] H := hP
            have hD : va_D A [(h0, .inr (6, [v0, v1, v2, v3, v4, .ref ph, .ref t0, v7])), (t0, .inl (tc, 7, .inl tf)), (ph, .inl (pc, 4, .inr (.inr (.inr (.inr pf))))), (p0, .inr (0, [.int b0, .int z0, .ref n0])), (n0, .inl (nc0, 40, .inr (.inl g0))), (p2, .inr (0, [.int b2, .int z2, .ref n2])), (n2, .inl (nc2, 40, .inr (.inl g2))), (p3, .inr (0, [.int b3, .int z3, .ref n3])), (n3, .inl (nc3, 40, .inr (.inl g3))), (p1, .inr (0, [.int b, .int n, .ref n1])), (n1, .inl (nc1, 40, .inr (.inl g_30)))] := hD
            refine lv_aload hx hb dX8_sheet_65 (lv_at hl 0 rfl) ?_
            refine va_getN (D := (dC, dI)) (ci := 0) (v := .int n) (C := RX2) (T := TX2) (N := 3) hx hb hts inX2 hown hK hP 9 rfl rfl 1 (by decide) (ev_nest hev 22 rfl) (fun _ h9 => h9) rfl dX8_sheet_67 ?_
            have hP9 := hP.sub (ws' := [(h0, .inr (6, [v0, v1, v2, v3, v4, .ref ph, .ref t0, v7])), (t0, .inl (tc, 7, .inl tf)), (ph, .inl (pc, 4, .inr (.inr (.inr (.inr pf))))), (p0, .inr (0, [.int b0, .int z0, .ref n0])), (n0, .inl (nc0, 40, .inr (.inl g0))), (p1, .inr (0, [.int b, .int n, .ref n1])), (n1, .inl (nc1, 40, .inr (.inl g_30))), (p2, .inr (0, [.int b2, .int z2, .ref n2])), (n2, .inl (nc2, 40, .inr (.inl g2))), (p3, .inr (0, [.int b3, .int z3, .ref n3])), (n3, .inl (nc3, 40, .inr (.inl g3)))]) [0, 1, 2, 3, 4, 9, 10, 5, 6, 7, 8] rfl
            have hD9 := hD.sub (ws' := [(h0, .inr (6, [v0, v1, v2, v3, v4, .ref ph, .ref t0, v7])), (t0, .inl (tc, 7, .inl tf)), (ph, .inl (pc, 4, .inr (.inr (.inr (.inr pf))))), (p0, .inr (0, [.int b0, .int z0, .ref n0])), (n0, .inl (nc0, 40, .inr (.inl g0))), (p1, .inr (0, [.int b, .int n, .ref n1])), (n1, .inl (nc1, 40, .inr (.inl g_30))), (p2, .inr (0, [.int b2, .int z2, .ref n2])), (n2, .inl (nc2, 40, .inr (.inl g2))), (p3, .inr (0, [.int b3, .int z3, .ref n3])), (n3, .inl (nc3, 40, .inr (.inl g3)))]) [0, 1, 2, 3, 4, 9, 10, 5, 6, 7, 8] (by decide) rfl
            have hK9 := hK.sub (tys' := [(tc, .int), (pc, .object "LampShapes$Paper"), (nc0, .long), (nc1, .long), (nc2, .long), (nc3, .long)]) [0, 1, 2, 3, 4, 5] rfl
            exact W.iret (v := n) hx hb hr (fun t ht hW => ⟨⟨n, (), rfl, trivial, tf, b0, z0, b, n, b2, z2, b3, z3, g0, g_30, g2, g3, (by first | omega | decide | (simp only [fa_lt, fa_le, fa_eq, and_true, true_and, and_false, false_and, not_true_eq_false, not_false_eq_true, li_0, li_1, li_2, li_3, li_4, li_5, li_6, li_7, li_8, li_9, li_10, li_12, li_15, li_16, li_20, li_30, li_34, li_38, li_40, li_63, li_64, li_65, li_78, li_120, li_1000, li_4000, li_10000, li_11077, li_255, li_65535, li_m1, li_m2, li_m1000000001, li_m1000000002, li_m1000000003, li_m1000000004, li_m1000000005, li_m1000000006, li_m1000000007, or_true, true_or, or_false, false_or, implies_true, true_implies, false_implies] <;> omega)), (by first | omega | decide | (simp only [fa_lt, fa_le, fa_eq, and_true, true_and, and_false, false_and, not_true_eq_false, not_false_eq_true, li_0, li_1, li_2, li_3, li_4, li_5, li_6, li_7, li_8, li_9, li_10, li_12, li_15, li_16, li_20, li_30, li_34, li_38, li_40, li_63, li_64, li_65, li_78, li_120, li_1000, li_4000, li_10000, li_11077, li_255, li_65535, li_m1, li_m2, li_m1000000001, li_m1000000002, li_m1000000003, li_m1000000004, li_m1000000005, li_m1000000006, li_m1000000007, or_true, true_or, or_false, false_or, implies_true, true_implies, false_implies] <;> omega)), (by first | omega | decide | (simp only [fa_lt, fa_le, fa_eq, and_true, true_and, and_false, false_and, not_true_eq_false, not_false_eq_true, li_0, li_1, li_2, li_3, li_4, li_5, li_6, li_7, li_8, li_9, li_10, li_12, li_15, li_16, li_20, li_30, li_34, li_38, li_40, li_63, li_64, li_65, li_78, li_120, li_1000, li_4000, li_10000, li_11077, li_255, li_65535, li_m1, li_m2, li_m1000000001, li_m1000000002, li_m1000000003, li_m1000000004, li_m1000000005, li_m1000000006, li_m1000000007, or_true, true_or, or_false, false_or, implies_true, true_implies, false_implies] <;> omega)), (by first | omega | decide | (simp only [fa_lt, fa_le, fa_eq, and_true, true_and, and_false, false_and, not_true_eq_false, not_false_eq_true, li_0, li_1, li_2, li_3, li_4, li_5, li_6, li_7, li_8, li_9, li_10, li_12, li_15, li_16, li_20, li_30, li_34, li_38, li_40, li_63, li_64, li_65, li_78, li_120, li_1000, li_4000, li_10000, li_11077, li_255, li_65535, li_m1, li_m2, li_m1000000001, li_m1000000002, li_m1000000003, li_m1000000004, li_m1000000005, li_m1000000006, li_m1000000007, or_true, true_or, or_false, false_or, implies_true, true_implies, false_implies] <;> omega)), by rw [ht]; exact hP9, va_K.moved hW.alike hK9, hD9⟩, hS.F ht⟩) hS.2.2 dX8_sheet_70
          · skip
            have tc_28 : b.toInt = 0 := (fa_eq _ _).mp c_28
            refine lv_iconst (v := 0) hx hb dX8_sheet_57 (by decide) ?_
            refine lv_goto (tgt := 62) hx hb dX8_sheet_58 (by decide) ?_
            have hPc := hP.sub (ws' := [(p1, .inr (0, [.int b1, .int z1, .ref n1])), (n1, .inl (nc1, 40, .inr (.inl g1)))]) [5, 6] rfl
            have hKc := hK.sub (tys' := [(nc1, .long)]) [3] rfl
            have hDc := hD.sub (ws' := [(p1, .inr (0, [.int b1, .int z1, .ref n1])), (n1, .inl (nc1, 40, .inr (.inl g1)))]) [5, 6] (by decide) rfl
            have hFc := va_free (wc := [(p1, .inr (0, [.int b1, .int z1, .ref n1])), (n1, .inl (nc1, 40, .inr (.inl g1)))]) hD hS hA [5, 6] rfl
            refine va_callv (va_runV (As := [.int b, .int 0]) (rest := []) ⟨hx, hb, hml, hown, hts⟩ (p_renew l dC dI ad p1 b 0 (.int b1) (.int z1) n1 nc1 g1 s.heap.size ) (cwV 2 hts g_x_sheet_p_renew_263 rfl rfl rfl (by decide +kernel) ⟨(Nat.le_of_ble_eq_true rfl), (Nat.le_of_ble_eq_true rfl)⟩) ⟨preM_blind, va_recv hKc hPc (ci := 0) (q0 := 0) rfl rfl, fun U hU hW => ⟨rfl, preM_at hU hW hPc hKc hDc hev⟩⟩ rfl rfl hl.1 rfl (lv_room (Nat.le_of_ble_eq_true rfl)) dX8_sheet_62 ⟨(Nat.le_of_ble_eq_true rfl), (Nat.le_of_ble_eq_true rfl)⟩) hS (fun q _ h => hFc q h) hFc (fun u t H1 locs ht hvm hw hB hz1 hk1 hS => ?_)
            obtain ⟨g_32, hP1, hK1, hD1⟩ := hB
            rw [ht] at hP1
            have hK1 := va_K.moved hvm.symm hK1
            obtain ⟨hP, hD⟩ := va_join (wr := [(h0, .inr (6, [v0, v1, v2, v3, v4, .ref ph, .ref t0, v7])), (t0, .inl (tc, 7, .inl tf)), (ph, .inl (pc, 4, .inr (.inr (.inr (.inr pf))))), (p0, .inr (0, [.int b0, .int z0, .ref n0])), (n0, .inl (nc0, 40, .inr (.inl g0))), (p2, .inr (0, [.int b2, .int z2, .ref n2])), (n2, .inl (nc2, 40, .inr (.inl g2))), (p3, .inr (0, [.int b3, .int z3, .ref n3])), (n3, .inl (nc3, 40, .inr (.inl g3)))]) (w1 := [(p1, .inr (0, [.int b, .int 0, .ref n1])), (n1, .inl (nc1, 40, .inr (.inl g_32)))]) hP hD [5, 6] [0, 1, 2, 3, 4, 7, 8, 9, 10] rfl rfl (by decide) (by decide) hk1 hFc hP1 hD1
            generalize H1 = H at hP hS ⊢
            have hP : va_P (dC, dI) vwCl [(h0, .inr (6, [v0, v1, v2, v3, v4, .ref ph, .ref t0, v7])), (t0, .inl (tc, 7, .inl tf)), (ph, .inl (pc, 4, .inr (.inr (.inr (.inr pf))))), (p0, .inr (0, [.int b0, .int z0, .ref n0])), (n0, .inl (nc0, 40, .inr (.inl g0))), (p2, .inr (0, [.int b2, .int z2, .ref n2])), (n2, .inl (nc2, 40, .inr (.inl g2))), (p3, .inr (0, [.int b3, .int z3, .ref n3])), (n3, .inl (nc3, 40, .inr (.inl g3))), (p1, .inr (0, [.int b, .int 0, .ref n1])), (n1, .inl (nc1, 40, .inr (.inl g_32)))] H := hP
            have hD : va_D A [(h0, .inr (6, [v0, v1, v2, v3, v4, .ref ph, .ref t0, v7])), (t0, .inl (tc, 7, .inl tf)), (ph, .inl (pc, 4, .inr (.inr (.inr (.inr pf))))), (p0, .inr (0, [.int b0, .int z0, .ref n0])), (n0, .inl (nc0, 40, .inr (.inl g0))), (p2, .inr (0, [.int b2, .int z2, .ref n2])), (n2, .inl (nc2, 40, .inr (.inl g2))), (p3, .inr (0, [.int b3, .int z3, .ref n3])), (n3, .inl (nc3, 40, .inr (.inl g3))), (p1, .inr (0, [.int b, .int 0, .ref n1])), (n1, .inl (nc1, 40, .inr (.inl g_32)))] := hD
            refine lv_aload hx hb dX8_sheet_65 (lv_at hl 0 rfl) ?_
            refine va_getN (D := (dC, dI)) (ci := 0) (v := .int 0) (C := RX2) (T := TX2) (N := 3) hx hb hts inX2 hown hK hP 9 rfl rfl 1 (by decide) (ev_nest hev 22 rfl) (fun _ h9 => h9) rfl dX8_sheet_67 ?_
            have hP9 := hP.sub (ws' := [(h0, .inr (6, [v0, v1, v2, v3, v4, .ref ph, .ref t0, v7])), (t0, .inl (tc, 7, .inl tf)), (ph, .inl (pc, 4, .inr (.inr (.inr (.inr pf))))), (p0, .inr (0, [.int b0, .int z0, .ref n0])), (n0, .inl (nc0, 40, .inr (.inl g0))), (p1, .inr (0, [.int b, .int 0, .ref n1])), (n1, .inl (nc1, 40, .inr (.inl g_32))), (p2, .inr (0, [.int b2, .int z2, .ref n2])), (n2, .inl (nc2, 40, .inr (.inl g2))), (p3, .inr (0, [.int b3, .int z3, .ref n3])), (n3, .inl (nc3, 40, .inr (.inl g3)))]) [0, 1, 2, 3, 4, 9, 10, 5, 6, 7, 8] rfl
            have hD9 := hD.sub (ws' := [(h0, .inr (6, [v0, v1, v2, v3, v4, .ref ph, .ref t0, v7])), (t0, .inl (tc, 7, .inl tf)), (ph, .inl (pc, 4, .inr (.inr (.inr (.inr pf))))), (p0, .inr (0, [.int b0, .int z0, .ref n0])), (n0, .inl (nc0, 40, .inr (.inl g0))), (p1, .inr (0, [.int b, .int 0, .ref n1])), (n1, .inl (nc1, 40, .inr (.inl g_32))), (p2, .inr (0, [.int b2, .int z2, .ref n2])), (n2, .inl (nc2, 40, .inr (.inl g2))), (p3, .inr (0, [.int b3, .int z3, .ref n3])), (n3, .inl (nc3, 40, .inr (.inl g3)))]) [0, 1, 2, 3, 4, 9, 10, 5, 6, 7, 8] (by decide) rfl
            have hK9 := hK.sub (tys' := [(tc, .int), (pc, .object "LampShapes$Paper"), (nc0, .long), (nc1, .long), (nc2, .long), (nc3, .long)]) [0, 1, 2, 3, 4, 5] rfl
            exact W.iret (v := (0 : Int32)) hx hb hr (fun t ht hW => ⟨⟨(0 : Int32), (), rfl, trivial, tf, b0, z0, b, 0, b2, z2, b3, z3, g0, g_32, g2, g3, (by first | omega | decide | (simp only [fa_lt, fa_le, fa_eq, and_true, true_and, and_false, false_and, not_true_eq_false, not_false_eq_true, li_0, li_1, li_2, li_3, li_4, li_5, li_6, li_7, li_8, li_9, li_10, li_12, li_15, li_16, li_20, li_30, li_34, li_38, li_40, li_63, li_64, li_65, li_78, li_120, li_1000, li_4000, li_10000, li_11077, li_255, li_65535, li_m1, li_m2, li_m1000000001, li_m1000000002, li_m1000000003, li_m1000000004, li_m1000000005, li_m1000000006, li_m1000000007, or_true, true_or, or_false, false_or, implies_true, true_implies, false_implies] <;> omega)), (by first | omega | decide | (simp only [fa_lt, fa_le, fa_eq, and_true, true_and, and_false, false_and, not_true_eq_false, not_false_eq_true, li_0, li_1, li_2, li_3, li_4, li_5, li_6, li_7, li_8, li_9, li_10, li_12, li_15, li_16, li_20, li_30, li_34, li_38, li_40, li_63, li_64, li_65, li_78, li_120, li_1000, li_4000, li_10000, li_11077, li_255, li_65535, li_m1, li_m2, li_m1000000001, li_m1000000002, li_m1000000003, li_m1000000004, li_m1000000005, li_m1000000006, li_m1000000007, or_true, true_or, or_false, false_or, implies_true, true_implies, false_implies] <;> omega)), (by first | omega | decide | (simp only [fa_lt, fa_le, fa_eq, and_true, true_and, and_false, false_and, not_true_eq_false, not_false_eq_true, li_0, li_1, li_2, li_3, li_4, li_5, li_6, li_7, li_8, li_9, li_10, li_12, li_15, li_16, li_20, li_30, li_34, li_38, li_40, li_63, li_64, li_65, li_78, li_120, li_1000, li_4000, li_10000, li_11077, li_255, li_65535, li_m1, li_m2, li_m1000000001, li_m1000000002, li_m1000000003, li_m1000000004, li_m1000000005, li_m1000000006, li_m1000000007, or_true, true_or, or_false, false_or, implies_true, true_implies, false_implies] <;> omega)), (by first | omega | decide | (simp only [fa_lt, fa_le, fa_eq, and_true, true_and, and_false, false_and, not_true_eq_false, not_false_eq_true, li_0, li_1, li_2, li_3, li_4, li_5, li_6, li_7, li_8, li_9, li_10, li_12, li_15, li_16, li_20, li_30, li_34, li_38, li_40, li_63, li_64, li_65, li_78, li_120, li_1000, li_4000, li_10000, li_11077, li_255, li_65535, li_m1, li_m2, li_m1000000001, li_m1000000002, li_m1000000003, li_m1000000004, li_m1000000005, li_m1000000006, li_m1000000007, or_true, true_or, or_false, false_or, implies_true, true_implies, false_implies] <;> omega)), by rw [ht]; exact hP9, va_K.moved hW.alike hK9, hD9⟩, hS.F ht⟩) hS.2.2 dX8_sheet_70
        · skip
          have tc_27 : ¬ n.toInt ≤ 40 := fun h => c_27 ((fa_le _ _).mpr h)
          refine lv_aload_n hx hb dX8_sheet_43 rfl (lv_at hl 1 rfl) ?_
          refine lv_ldc hx hb hown (hts _ (List.mem_of_getElem? (i := 6) rfl)) dX8_sheet_44 ?_
          have hPc := hP.sub (ws' := [(h0, .inr (6, [v0, v1, v2, v3, v4, .ref ph, .ref t0, v7])), (t0, .inl (tc, 7, .inl tf))]) [0, 1] rfl
          have hKc := hK.sub (tys' := [(tc, .int)]) [0] rfl
          have hDc := hD.sub (ws' := [(h0, .inr (6, [v0, v1, v2, v3, v4, .ref ph, .ref t0, v7])), (t0, .inl (tc, 7, .inl tf))]) [0, 1] (by decide) rfl
          have hFc := va_free (wc := [(h0, .inr (6, [v0, v1, v2, v3, v4, .ref ph, .ref t0, v7])), (t0, .inl (tc, 7, .inl tf))]) hD hS hA [0, 1] rfl
          refine va_calli (va_runV (As := [.int (-1000000001)]) (rest := []) ⟨hx, hb, hml, hown, hts⟩ (f_beyond l dC dI ad h0 v0 v1 v2 v3 v4 (.ref ph) t0 v7 tc tf s.heap.size ) (cwV 1 hts g_x_sheet_f_beyond_63 rfl rfl rfl (by decide +kernel) ⟨(Nat.le_of_ble_eq_true rfl), (Nat.le_of_ble_eq_true rfl)⟩) ⟨preM_blind, va_recv hKc hPc (ci := 6) (q0 := 0) rfl rfl, fun U hU hW => ⟨rfl, preM_at hU hW hPc hKc hDc hev⟩⟩ rfl rfl hl.1 rfl (lv_room (Nat.le_of_ble_eq_true rfl)) dX8_sheet_46 ⟨(Nat.le_of_ble_eq_true rfl), (Nat.le_of_ble_eq_true rfl)⟩) hS (fun q _ h => hFc q h) hFc (fun r_33 u t H1 locs ht hvm hw hB hz1 hk1 hS => ?_)
          obtain ⟨tg_34, hP1, hK1, hD1⟩ := hB
          rw [ht] at hP1
          have hK1 := va_K.moved hvm.symm hK1
          obtain ⟨hP, hD⟩ := va_join (wr := [(ph, .inl (pc, 4, .inr (.inr (.inr (.inr pf))))), (p0, .inr (0, [.int b0, .int z0, .ref n0])), (n0, .inl (nc0, 40, .inr (.inl g0))), (p1, .inr (0, [.int b1, .int z1, .ref n1])), (n1, .inl (nc1, 40, .inr (.inl g1))), (p2, .inr (0, [.int b2, .int z2, .ref n2])), (n2, .inl (nc2, 40, .inr (.inl g2))), (p3, .inr (0, [.int b3, .int z3, .ref n3])), (n3, .inl (nc3, 40, .inr (.inl g3)))]) (w1 := [(h0, .inr (6, [v0, v1, v2, v3, v4, .ref ph, .ref t0, v7])), (t0, .inl (tc, 7, .inl tg_34))]) hP hD [0, 1] [2, 3, 4, 5, 6, 7, 8, 9, 10] rfl rfl (by decide) (by decide) hk1 hFc hP1 hD1
          generalize H1 = H at hP hS ⊢
          have hP : va_P (dC, dI) vwCl [(ph, .inl (pc, 4, .inr (.inr (.inr (.inr pf))))), (p0, .inr (0, [.int b0, .int z0, .ref n0])), (n0, .inl (nc0, 40, .inr (.inl g0))), (p1, .inr (0, [.int b1, .int z1, .ref n1])), (n1, .inl (nc1, 40, .inr (.inl g1))), (p2, .inr (0, [.int b2, .int z2, .ref n2])), (n2, .inl (nc2, 40, .inr (.inl g2))), (p3, .inr (0, [.int b3, .int z3, .ref n3])), (n3, .inl (nc3, 40, .inr (.inl g3))), (h0, .inr (6, [v0, v1, v2, v3, v4, .ref ph, .ref t0, v7])), (t0, .inl (tc, 7, .inl tg_34))] H := hP
          have hD : va_D A [(ph, .inl (pc, 4, .inr (.inr (.inr (.inr pf))))), (p0, .inr (0, [.int b0, .int z0, .ref n0])), (n0, .inl (nc0, 40, .inr (.inl g0))), (p1, .inr (0, [.int b1, .int z1, .ref n1])), (n1, .inl (nc1, 40, .inr (.inl g1))), (p2, .inr (0, [.int b2, .int z2, .ref n2])), (n2, .inl (nc2, 40, .inr (.inl g2))), (p3, .inr (0, [.int b3, .int z3, .ref n3])), (n3, .inl (nc3, 40, .inr (.inl g3))), (h0, .inr (6, [v0, v1, v2, v3, v4, .ref ph, .ref t0, v7])), (t0, .inl (tc, 7, .inl tg_34))] := hD
          subst hw
          have hP9 := hP.sub (ws' := [(h0, .inr (6, [v0, v1, v2, v3, v4, .ref ph, .ref t0, v7])), (t0, .inl (tc, 7, .inl tg_34)), (ph, .inl (pc, 4, .inr (.inr (.inr (.inr pf))))), (p0, .inr (0, [.int b0, .int z0, .ref n0])), (n0, .inl (nc0, 40, .inr (.inl g0))), (p1, .inr (0, [.int b1, .int z1, .ref n1])), (n1, .inl (nc1, 40, .inr (.inl g1))), (p2, .inr (0, [.int b2, .int z2, .ref n2])), (n2, .inl (nc2, 40, .inr (.inl g2))), (p3, .inr (0, [.int b3, .int z3, .ref n3])), (n3, .inl (nc3, 40, .inr (.inl g3)))]) [9, 10, 0, 1, 2, 3, 4, 5, 6, 7, 8] rfl
          have hD9 := hD.sub (ws' := [(h0, .inr (6, [v0, v1, v2, v3, v4, .ref ph, .ref t0, v7])), (t0, .inl (tc, 7, .inl tg_34)), (ph, .inl (pc, 4, .inr (.inr (.inr (.inr pf))))), (p0, .inr (0, [.int b0, .int z0, .ref n0])), (n0, .inl (nc0, 40, .inr (.inl g0))), (p1, .inr (0, [.int b1, .int z1, .ref n1])), (n1, .inl (nc1, 40, .inr (.inl g1))), (p2, .inr (0, [.int b2, .int z2, .ref n2])), (n2, .inl (nc2, 40, .inr (.inl g2))), (p3, .inr (0, [.int b3, .int z3, .ref n3])), (n3, .inl (nc3, 40, .inr (.inl g3)))]) [9, 10, 0, 1, 2, 3, 4, 5, 6, 7, 8] (by decide) rfl
          have hK9 := hK.sub (tys' := [(tc, .int), (pc, .object "LampShapes$Paper"), (nc0, .long), (nc1, .long), (nc2, .long), (nc3, .long)]) [0, 1, 2, 3, 4, 5] rfl
          exact W.iret (v := ((-1000000001) : Int32)) hx hb hr (fun t ht hW => ⟨⟨((-1000000001) : Int32), (), rfl, trivial, tg_34, b0, z0, b1, z1, b2, z2, b3, z3, g0, g1, g2, g3, (by first | omega | decide | (simp only [fa_lt, fa_le, fa_eq, and_true, true_and, and_false, false_and, not_true_eq_false, not_false_eq_true, li_0, li_1, li_2, li_3, li_4, li_5, li_6, li_7, li_8, li_9, li_10, li_12, li_15, li_16, li_20, li_30, li_34, li_38, li_40, li_63, li_64, li_65, li_78, li_120, li_1000, li_4000, li_10000, li_11077, li_255, li_65535, li_m1, li_m2, li_m1000000001, li_m1000000002, li_m1000000003, li_m1000000004, li_m1000000005, li_m1000000006, li_m1000000007, or_true, true_or, or_false, false_or, implies_true, true_implies, false_implies] <;> omega)), (by first | omega | decide | (simp only [fa_lt, fa_le, fa_eq, and_true, true_and, and_false, false_and, not_true_eq_false, not_false_eq_true, li_0, li_1, li_2, li_3, li_4, li_5, li_6, li_7, li_8, li_9, li_10, li_12, li_15, li_16, li_20, li_30, li_34, li_38, li_40, li_63, li_64, li_65, li_78, li_120, li_1000, li_4000, li_10000, li_11077, li_255, li_65535, li_m1, li_m2, li_m1000000001, li_m1000000002, li_m1000000003, li_m1000000004, li_m1000000005, li_m1000000006, li_m1000000007, or_true, true_or, or_false, false_or, implies_true, true_implies, false_implies] <;> omega)), (by first | omega | decide | (simp only [fa_lt, fa_le, fa_eq, and_true, true_and, and_false, false_and, not_true_eq_false, not_false_eq_true, li_0, li_1, li_2, li_3, li_4, li_5, li_6, li_7, li_8, li_9, li_10, li_12, li_15, li_16, li_20, li_30, li_34, li_38, li_40, li_63, li_64, li_65, li_78, li_120, li_1000, li_4000, li_10000, li_11077, li_255, li_65535, li_m1, li_m2, li_m1000000001, li_m1000000002, li_m1000000003, li_m1000000004, li_m1000000005, li_m1000000006, li_m1000000007, or_true, true_or, or_false, false_or, implies_true, true_implies, false_implies] <;> omega)), (by first | omega | decide | (simp only [fa_lt, fa_le, fa_eq, and_true, true_and, and_false, false_and, not_true_eq_false, not_false_eq_true, li_0, li_1, li_2, li_3, li_4, li_5, li_6, li_7, li_8, li_9, li_10, li_12, li_15, li_16, li_20, li_30, li_34, li_38, li_40, li_63, li_64, li_65, li_78, li_120, li_1000, li_4000, li_10000, li_11077, li_255, li_65535, li_m1, li_m2, li_m1000000001, li_m1000000002, li_m1000000003, li_m1000000004, li_m1000000005, li_m1000000006, li_m1000000007, or_true, true_or, or_false, false_or, implies_true, true_implies, false_implies] <;> omega)), by rw [ht]; exact hP9, va_K.moved hW.alike hK9, hD9⟩, hS.F ht⟩) hS.2.2 dX8_sheet_49
      · skip
        have tc_26 : ¬ 0 ≤ n.toInt := fun h => c_26 ((fa_le _ _).mpr h)
        refine lv_aload_n hx hb dX8_sheet_30 rfl (lv_at hl 1 rfl) ?_
        refine lv_ldc hx hb hown (hts _ (List.mem_of_getElem? (i := 24) rfl)) dX8_sheet_31 ?_
        have hPc := hP.sub (ws' := [(h0, .inr (6, [v0, v1, v2, v3, v4, .ref ph, .ref t0, v7])), (t0, .inl (tc, 7, .inl tf))]) [0, 1] rfl
        have hKc := hK.sub (tys' := [(tc, .int)]) [0] rfl
        have hDc := hD.sub (ws' := [(h0, .inr (6, [v0, v1, v2, v3, v4, .ref ph, .ref t0, v7])), (t0, .inl (tc, 7, .inl tf))]) [0, 1] (by decide) rfl
        have hFc := va_free (wc := [(h0, .inr (6, [v0, v1, v2, v3, v4, .ref ph, .ref t0, v7])), (t0, .inl (tc, 7, .inl tf))]) hD hS hA [0, 1] rfl
        refine va_calli (va_runV (As := [.int (-1000000007)]) (rest := []) ⟨hx, hb, hml, hown, hts⟩ (f_size l dC dI ad h0 v0 v1 v2 v3 v4 (.ref ph) t0 v7 tc tf s.heap.size ) (cwV 1 hts g_x_sheet_f_size_63 rfl rfl rfl (by decide +kernel) ⟨(Nat.le_of_ble_eq_true rfl), (Nat.le_of_ble_eq_true rfl)⟩) ⟨preM_blind, va_recv hKc hPc (ci := 6) (q0 := 0) rfl rfl, fun U hU hW => ⟨rfl, preM_at hU hW hPc hKc hDc hev⟩⟩ rfl rfl hl.1 rfl (lv_room (Nat.le_of_ble_eq_true rfl)) dX8_sheet_33 ⟨(Nat.le_of_ble_eq_true rfl), (Nat.le_of_ble_eq_true rfl)⟩) hS (fun q _ h => hFc q h) hFc (fun r_35 u t H1 locs ht hvm hw hB hz1 hk1 hS => ?_)
        obtain ⟨tg_36, hP1, hK1, hD1⟩ := hB
        rw [ht] at hP1
        have hK1 := va_K.moved hvm.symm hK1
        obtain ⟨hP, hD⟩ := va_join (wr := [(ph, .inl (pc, 4, .inr (.inr (.inr (.inr pf))))), (p0, .inr (0, [.int b0, .int z0, .ref n0])), (n0, .inl (nc0, 40, .inr (.inl g0))), (p1, .inr (0, [.int b1, .int z1, .ref n1])), (n1, .inl (nc1, 40, .inr (.inl g1))), (p2, .inr (0, [.int b2, .int z2, .ref n2])), (n2, .inl (nc2, 40, .inr (.inl g2))), (p3, .inr (0, [.int b3, .int z3, .ref n3])), (n3, .inl (nc3, 40, .inr (.inl g3)))]) (w1 := [(h0, .inr (6, [v0, v1, v2, v3, v4, .ref ph, .ref t0, v7])), (t0, .inl (tc, 7, .inl tg_36))]) hP hD [0, 1] [2, 3, 4, 5, 6, 7, 8, 9, 10] rfl rfl (by decide) (by decide) hk1 hFc hP1 hD1
        generalize H1 = H at hP hS ⊢
        have hP : va_P (dC, dI) vwCl [(ph, .inl (pc, 4, .inr (.inr (.inr (.inr pf))))), (p0, .inr (0, [.int b0, .int z0, .ref n0])), (n0, .inl (nc0, 40, .inr (.inl g0))), (p1, .inr (0, [.int b1, .int z1, .ref n1])), (n1, .inl (nc1, 40, .inr (.inl g1))), (p2, .inr (0, [.int b2, .int z2, .ref n2])), (n2, .inl (nc2, 40, .inr (.inl g2))), (p3, .inr (0, [.int b3, .int z3, .ref n3])), (n3, .inl (nc3, 40, .inr (.inl g3))), (h0, .inr (6, [v0, v1, v2, v3, v4, .ref ph, .ref t0, v7])), (t0, .inl (tc, 7, .inl tg_36))] H := hP
        have hD : va_D A [(ph, .inl (pc, 4, .inr (.inr (.inr (.inr pf))))), (p0, .inr (0, [.int b0, .int z0, .ref n0])), (n0, .inl (nc0, 40, .inr (.inl g0))), (p1, .inr (0, [.int b1, .int z1, .ref n1])), (n1, .inl (nc1, 40, .inr (.inl g1))), (p2, .inr (0, [.int b2, .int z2, .ref n2])), (n2, .inl (nc2, 40, .inr (.inl g2))), (p3, .inr (0, [.int b3, .int z3, .ref n3])), (n3, .inl (nc3, 40, .inr (.inl g3))), (h0, .inr (6, [v0, v1, v2, v3, v4, .ref ph, .ref t0, v7])), (t0, .inl (tc, 7, .inl tg_36))] := hD
        subst hw
        have hP9 := hP.sub (ws' := [(h0, .inr (6, [v0, v1, v2, v3, v4, .ref ph, .ref t0, v7])), (t0, .inl (tc, 7, .inl tg_36)), (ph, .inl (pc, 4, .inr (.inr (.inr (.inr pf))))), (p0, .inr (0, [.int b0, .int z0, .ref n0])), (n0, .inl (nc0, 40, .inr (.inl g0))), (p1, .inr (0, [.int b1, .int z1, .ref n1])), (n1, .inl (nc1, 40, .inr (.inl g1))), (p2, .inr (0, [.int b2, .int z2, .ref n2])), (n2, .inl (nc2, 40, .inr (.inl g2))), (p3, .inr (0, [.int b3, .int z3, .ref n3])), (n3, .inl (nc3, 40, .inr (.inl g3)))]) [9, 10, 0, 1, 2, 3, 4, 5, 6, 7, 8] rfl
        have hD9 := hD.sub (ws' := [(h0, .inr (6, [v0, v1, v2, v3, v4, .ref ph, .ref t0, v7])), (t0, .inl (tc, 7, .inl tg_36)), (ph, .inl (pc, 4, .inr (.inr (.inr (.inr pf))))), (p0, .inr (0, [.int b0, .int z0, .ref n0])), (n0, .inl (nc0, 40, .inr (.inl g0))), (p1, .inr (0, [.int b1, .int z1, .ref n1])), (n1, .inl (nc1, 40, .inr (.inl g1))), (p2, .inr (0, [.int b2, .int z2, .ref n2])), (n2, .inl (nc2, 40, .inr (.inl g2))), (p3, .inr (0, [.int b3, .int z3, .ref n3])), (n3, .inl (nc3, 40, .inr (.inl g3)))]) [9, 10, 0, 1, 2, 3, 4, 5, 6, 7, 8] (by decide) rfl
        have hK9 := hK.sub (tys' := [(tc, .int), (pc, .object "LampShapes$Paper"), (nc0, .long), (nc1, .long), (nc2, .long), (nc3, .long)]) [0, 1, 2, 3, 4, 5] rfl
        exact W.iret (v := ((-1000000007) : Int32)) hx hb hr (fun t ht hW => ⟨⟨((-1000000007) : Int32), (), rfl, trivial, tg_36, b0, z0, b1, z1, b2, z2, b3, z3, g0, g1, g2, g3, (by first | omega | decide | (simp only [fa_lt, fa_le, fa_eq, and_true, true_and, and_false, false_and, not_true_eq_false, not_false_eq_true, li_0, li_1, li_2, li_3, li_4, li_5, li_6, li_7, li_8, li_9, li_10, li_12, li_15, li_16, li_20, li_30, li_34, li_38, li_40, li_63, li_64, li_65, li_78, li_120, li_1000, li_4000, li_10000, li_11077, li_255, li_65535, li_m1, li_m2, li_m1000000001, li_m1000000002, li_m1000000003, li_m1000000004, li_m1000000005, li_m1000000006, li_m1000000007, or_true, true_or, or_false, false_or, implies_true, true_implies, false_implies] <;> omega)), (by first | omega | decide | (simp only [fa_lt, fa_le, fa_eq, and_true, true_and, and_false, false_and, not_true_eq_false, not_false_eq_true, li_0, li_1, li_2, li_3, li_4, li_5, li_6, li_7, li_8, li_9, li_10, li_12, li_15, li_16, li_20, li_30, li_34, li_38, li_40, li_63, li_64, li_65, li_78, li_120, li_1000, li_4000, li_10000, li_11077, li_255, li_65535, li_m1, li_m2, li_m1000000001, li_m1000000002, li_m1000000003, li_m1000000004, li_m1000000005, li_m1000000006, li_m1000000007, or_true, true_or, or_false, false_or, implies_true, true_implies, false_implies] <;> omega)), (by first | omega | decide | (simp only [fa_lt, fa_le, fa_eq, and_true, true_and, and_false, false_and, not_true_eq_false, not_false_eq_true, li_0, li_1, li_2, li_3, li_4, li_5, li_6, li_7, li_8, li_9, li_10, li_12, li_15, li_16, li_20, li_30, li_34, li_38, li_40, li_63, li_64, li_65, li_78, li_120, li_1000, li_4000, li_10000, li_11077, li_255, li_65535, li_m1, li_m2, li_m1000000001, li_m1000000002, li_m1000000003, li_m1000000004, li_m1000000005, li_m1000000006, li_m1000000007, or_true, true_or, or_false, false_or, implies_true, true_implies, false_implies] <;> omega)), (by first | omega | decide | (simp only [fa_lt, fa_le, fa_eq, and_true, true_and, and_false, false_and, not_true_eq_false, not_false_eq_true, li_0, li_1, li_2, li_3, li_4, li_5, li_6, li_7, li_8, li_9, li_10, li_12, li_15, li_16, li_20, li_30, li_34, li_38, li_40, li_63, li_64, li_65, li_78, li_120, li_1000, li_4000, li_10000, li_11077, li_255, li_65535, li_m1, li_m2, li_m1000000001, li_m1000000002, li_m1000000003, li_m1000000004, li_m1000000005, li_m1000000006, li_m1000000007, or_true, true_or, or_false, false_or, implies_true, true_implies, false_implies] <;> omega)), by rw [ht]; exact hP9, va_K.moved hW.alike hK9, hD9⟩, hS.F ht⟩) hS.2.2 dX8_sheet_36
    · skip
      have tc_25 : r_24.toInt = 0 := (fa_eq _ _).mp c_25
      refine lv_aload_n hx hb dX8_sheet_19 rfl (lv_at hl 1 rfl) ?_
      refine lv_ldc hx hb hown (hts _ (List.mem_of_getElem? (i := 6) rfl)) dX8_sheet_20 ?_
      have hPc := hP.sub (ws' := [(h0, .inr (6, [v0, v1, v2, v3, v4, .ref ph, .ref t0, v7])), (t0, .inl (tc, 7, .inl tf))]) [0, 1] rfl
      have hKc := hK.sub (tys' := [(tc, .int)]) [0] rfl
      have hDc := hD.sub (ws' := [(h0, .inr (6, [v0, v1, v2, v3, v4, .ref ph, .ref t0, v7])), (t0, .inl (tc, 7, .inl tf))]) [0, 1] (by decide) rfl
      have hFc := va_free (wc := [(h0, .inr (6, [v0, v1, v2, v3, v4, .ref ph, .ref t0, v7])), (t0, .inl (tc, 7, .inl tf))]) hD hS hA [0, 1] rfl
      refine va_calli (va_runV (As := [.int (-1000000001)]) (rest := []) ⟨hx, hb, hml, hown, hts⟩ (f_beyond l dC dI ad h0 v0 v1 v2 v3 v4 (.ref ph) t0 v7 tc tf s.heap.size ) (cwV 1 hts g_x_sheet_f_beyond_63 rfl rfl rfl (by decide +kernel) ⟨(Nat.le_of_ble_eq_true rfl), (Nat.le_of_ble_eq_true rfl)⟩) ⟨preM_blind, va_recv hKc hPc (ci := 6) (q0 := 0) rfl rfl, fun U hU hW => ⟨rfl, preM_at hU hW hPc hKc hDc hev⟩⟩ rfl rfl hl.1 rfl (lv_room (Nat.le_of_ble_eq_true rfl)) dX8_sheet_22 ⟨(Nat.le_of_ble_eq_true rfl), (Nat.le_of_ble_eq_true rfl)⟩) hS (fun q _ h => hFc q h) hFc (fun r_37 u t H1 locs ht hvm hw hB hz1 hk1 hS => ?_)
      obtain ⟨tg_38, hP1, hK1, hD1⟩ := hB
      rw [ht] at hP1
      have hK1 := va_K.moved hvm.symm hK1
      obtain ⟨hP, hD⟩ := va_join (wr := [(ph, .inl (pc, 4, .inr (.inr (.inr (.inr pf))))), (p0, .inr (0, [.int b0, .int z0, .ref n0])), (n0, .inl (nc0, 40, .inr (.inl g0))), (p1, .inr (0, [.int b1, .int z1, .ref n1])), (n1, .inl (nc1, 40, .inr (.inl g1))), (p2, .inr (0, [.int b2, .int z2, .ref n2])), (n2, .inl (nc2, 40, .inr (.inl g2))), (p3, .inr (0, [.int b3, .int z3, .ref n3])), (n3, .inl (nc3, 40, .inr (.inl g3)))]) (w1 := [(h0, .inr (6, [v0, v1, v2, v3, v4, .ref ph, .ref t0, v7])), (t0, .inl (tc, 7, .inl tg_38))]) hP hD [0, 1] [2, 3, 4, 5, 6, 7, 8, 9, 10] rfl rfl (by decide) (by decide) hk1 hFc hP1 hD1
      generalize H1 = H at hP hS ⊢
      have hP : va_P (dC, dI) vwCl [(ph, .inl (pc, 4, .inr (.inr (.inr (.inr pf))))), (p0, .inr (0, [.int b0, .int z0, .ref n0])), (n0, .inl (nc0, 40, .inr (.inl g0))), (p1, .inr (0, [.int b1, .int z1, .ref n1])), (n1, .inl (nc1, 40, .inr (.inl g1))), (p2, .inr (0, [.int b2, .int z2, .ref n2])), (n2, .inl (nc2, 40, .inr (.inl g2))), (p3, .inr (0, [.int b3, .int z3, .ref n3])), (n3, .inl (nc3, 40, .inr (.inl g3))), (h0, .inr (6, [v0, v1, v2, v3, v4, .ref ph, .ref t0, v7])), (t0, .inl (tc, 7, .inl tg_38))] H := hP
      have hD : va_D A [(ph, .inl (pc, 4, .inr (.inr (.inr (.inr pf))))), (p0, .inr (0, [.int b0, .int z0, .ref n0])), (n0, .inl (nc0, 40, .inr (.inl g0))), (p1, .inr (0, [.int b1, .int z1, .ref n1])), (n1, .inl (nc1, 40, .inr (.inl g1))), (p2, .inr (0, [.int b2, .int z2, .ref n2])), (n2, .inl (nc2, 40, .inr (.inl g2))), (p3, .inr (0, [.int b3, .int z3, .ref n3])), (n3, .inl (nc3, 40, .inr (.inl g3))), (h0, .inr (6, [v0, v1, v2, v3, v4, .ref ph, .ref t0, v7])), (t0, .inl (tc, 7, .inl tg_38))] := hD
      subst hw
      have hP9 := hP.sub (ws' := [(h0, .inr (6, [v0, v1, v2, v3, v4, .ref ph, .ref t0, v7])), (t0, .inl (tc, 7, .inl tg_38)), (ph, .inl (pc, 4, .inr (.inr (.inr (.inr pf))))), (p0, .inr (0, [.int b0, .int z0, .ref n0])), (n0, .inl (nc0, 40, .inr (.inl g0))), (p1, .inr (0, [.int b1, .int z1, .ref n1])), (n1, .inl (nc1, 40, .inr (.inl g1))), (p2, .inr (0, [.int b2, .int z2, .ref n2])), (n2, .inl (nc2, 40, .inr (.inl g2))), (p3, .inr (0, [.int b3, .int z3, .ref n3])), (n3, .inl (nc3, 40, .inr (.inl g3)))]) [9, 10, 0, 1, 2, 3, 4, 5, 6, 7, 8] rfl
      have hD9 := hD.sub (ws' := [(h0, .inr (6, [v0, v1, v2, v3, v4, .ref ph, .ref t0, v7])), (t0, .inl (tc, 7, .inl tg_38)), (ph, .inl (pc, 4, .inr (.inr (.inr (.inr pf))))), (p0, .inr (0, [.int b0, .int z0, .ref n0])), (n0, .inl (nc0, 40, .inr (.inl g0))), (p1, .inr (0, [.int b1, .int z1, .ref n1])), (n1, .inl (nc1, 40, .inr (.inl g1))), (p2, .inr (0, [.int b2, .int z2, .ref n2])), (n2, .inl (nc2, 40, .inr (.inl g2))), (p3, .inr (0, [.int b3, .int z3, .ref n3])), (n3, .inl (nc3, 40, .inr (.inl g3)))]) [9, 10, 0, 1, 2, 3, 4, 5, 6, 7, 8] (by decide) rfl
      have hK9 := hK.sub (tys' := [(tc, .int), (pc, .object "LampShapes$Paper"), (nc0, .long), (nc1, .long), (nc2, .long), (nc3, .long)]) [0, 1, 2, 3, 4, 5] rfl
      exact W.iret (v := ((-1000000001) : Int32)) hx hb hr (fun t ht hW => ⟨⟨((-1000000001) : Int32), (), rfl, trivial, tg_38, b0, z0, b1, z1, b2, z2, b3, z3, g0, g1, g2, g3, (by first | omega | decide | (simp only [fa_lt, fa_le, fa_eq, and_true, true_and, and_false, false_and, not_true_eq_false, not_false_eq_true, li_0, li_1, li_2, li_3, li_4, li_5, li_6, li_7, li_8, li_9, li_10, li_12, li_15, li_16, li_20, li_30, li_34, li_38, li_40, li_63, li_64, li_65, li_78, li_120, li_1000, li_4000, li_10000, li_11077, li_255, li_65535, li_m1, li_m2, li_m1000000001, li_m1000000002, li_m1000000003, li_m1000000004, li_m1000000005, li_m1000000006, li_m1000000007, or_true, true_or, or_false, false_or, implies_true, true_implies, false_implies] <;> omega)), (by first | omega | decide | (simp only [fa_lt, fa_le, fa_eq, and_true, true_and, and_false, false_and, not_true_eq_false, not_false_eq_true, li_0, li_1, li_2, li_3, li_4, li_5, li_6, li_7, li_8, li_9, li_10, li_12, li_15, li_16, li_20, li_30, li_34, li_38, li_40, li_63, li_64, li_65, li_78, li_120, li_1000, li_4000, li_10000, li_11077, li_255, li_65535, li_m1, li_m2, li_m1000000001, li_m1000000002, li_m1000000003, li_m1000000004, li_m1000000005, li_m1000000006, li_m1000000007, or_true, true_or, or_false, false_or, implies_true, true_implies, false_implies] <;> omega)), (by first | omega | decide | (simp only [fa_lt, fa_le, fa_eq, and_true, true_and, and_false, false_and, not_true_eq_false, not_false_eq_true, li_0, li_1, li_2, li_3, li_4, li_5, li_6, li_7, li_8, li_9, li_10, li_12, li_15, li_16, li_20, li_30, li_34, li_38, li_40, li_63, li_64, li_65, li_78, li_120, li_1000, li_4000, li_10000, li_11077, li_255, li_65535, li_m1, li_m2, li_m1000000001, li_m1000000002, li_m1000000003, li_m1000000004, li_m1000000005, li_m1000000006, li_m1000000007, or_true, true_or, or_false, false_or, implies_true, true_implies, false_implies] <;> omega)), (by first | omega | decide | (simp only [fa_lt, fa_le, fa_eq, and_true, true_and, and_false, false_and, not_true_eq_false, not_false_eq_true, li_0, li_1, li_2, li_3, li_4, li_5, li_6, li_7, li_8, li_9, li_10, li_12, li_15, li_16, li_20, li_30, li_34, li_38, li_40, li_63, li_64, li_65, li_78, li_120, li_1000, li_4000, li_10000, li_11077, li_255, li_65535, li_m1, li_m2, li_m1000000001, li_m1000000002, li_m1000000003, li_m1000000004, li_m1000000005, li_m1000000006, li_m1000000007, or_true, true_or, or_false, false_or, implies_true, true_implies, false_implies] <;> omega)), by rw [ht]; exact hP9, va_K.moved hW.alike hK9, hD9⟩, hS.F ht⟩) hS.2.2 dX8_sheet_25
  · skip
    refine Met.ofW (cc := cX8_sheet) (maxL := 5) (ret := (some .int)) (by decide) rfl ?_
    intro p e s m args below meth c s₁ B hml hv
    obtain ⟨rfl, hsz, hP, hK, hD0, hev⟩ := hv
    have hx := B.exec
    have hb := B.bytes
    have hr := B.returns
    have hts := atoms_spec (ws := w_x_sheet) B.pre
    have hown : s.vm.findClass RX8 = some m.cls := findClass_of_methodNamed B.named
    have hlocks := B.notSynchronized
    have inX8 : ∀ w ∈ wsX80, w ∈ w_x_sheet := fun w h => List.mem_cons_of_mem _ (List.mem_append_left _ (List.mem_append_right _ h))
    have inX2 : ∀ w ∈ wsX20, w ∈ w_x_sheet := fun w h => List.mem_cons_of_mem _ (List.mem_append_right _ h)
    subst hsz
    have hD := hD0.self (sz := s.heap.size)
    generalize hAe : va_A [(h0, .inr (6, [v0, v1, v2, v3, v4, .ref ph, .ref t0, v7])), (t0, .inl (tc, 7, .inl tf)), (ph, .inl (pc, 4, .inr (.inr (.inr (.inr pf))))), (p0, .inr (0, [.int b0, .int z0, .ref n0])), (n0, .inl (nc0, 40, .inr (.inl g0))), (p1, .inr (0, [.int b1, .int z1, .ref n1])), (n1, .inl (nc1, 40, .inr (.inl g1))), (p2, .inr (0, [.int b2, .int z2, .ref n2])), (n2, .inl (nc2, 40, .inr (.inl g2))), (p3, .inr (0, [.int b3, .int z3, .ref n3])), (n3, .inl (nc3, 40, .inr (.inl g3)))] s.heap.size = A at hD ⊢
    have hA : ∀ q : Nat, s.heap.size ≤ q → A q := fun q h => by rw [← hAe]; exact Or.inr h
    have hS : va_S A s.heap s.heap [] := va_S.rf
    have hP : va_P (dC, dI) vwCl [(h0, .inr (6, [v0, v1, v2, v3, v4, .ref ph, .ref t0, v7])), (t0, .inl (tc, 7, .inl tf)), (ph, .inl (pc, 4, .inr (.inr (.inr (.inr pf))))), (p0, .inr (0, [.int b0, .int z0, .ref n0])), (n0, .inl (nc0, 40, .inr (.inl g0))), (p1, .inr (0, [.int b1, .int z1, .ref n1])), (n1, .inl (nc1, 40, .inr (.inl g1))), (p2, .inr (0, [.int b2, .int z2, .ref n2])), (n2, .inl (nc2, 40, .inr (.inl g2))), (p3, .inr (0, [.int b3, .int z3, .ref n3])), (n3, .inl (nc3, 40, .inr (.inl g3)))] s.heap := hP
    have hl := lv_entry ([.ref h0, .int 2, .int b, .int n]) (n := 5) (Nat.le_of_ble_eq_true rfl)
    rw [lg_entry_eq]
    generalize (lg_sl ([.ref h0, .int 2, .int b, .int n]) ++ List.replicate (5 - (lg_sl ([.ref h0, .int 2, .int b, .int n])).length) Slot.unset).toArray = ls at hl ⊢
    have hl : lv_has ls 5 [(0, .ref h0), (1, .int 2), (2, .int b), (3, .int n)] := hl
    refine lv_aload_n hx hb dX8_sheet_0 rfl (lv_at hl 0 rfl) ?_
    refine lv_iload_n hx hb dX8_sheet_1 rfl (lv_at hl 1 rfl) ?_
    have hPc := hP.sub (ws' := [(h0, .inr (6, [v0, v1, v2, v3, v4, .ref ph, .ref t0, v7])), (ph, .inl (pc, 4, .inr (.inr (.inr (.inr pf)))))]) [0, 2] rfl
    have hKc := hK.sub (tys' := [(pc, .object "LampShapes$Paper")]) [1] rfl
    refine va_csq (W.runV (As := [.int 2]) (rest := []) ⟨hx, hb, hml, hown, hts⟩ (c_paperAt_2 l dC dI ad h0 v0 v1 v2 v3 v4 ph (.ref t0) v7 pc pf p2 hp2) (cwV 1 hts g_x_sheet_c_paperAt_2_256 rfl rfl rfl (by decide +kernel) ⟨(Nat.le_of_ble_eq_true rfl), (Nat.le_of_ble_eq_true rfl)⟩) ⟨preS_blind, va_recv hKc hPc (ci := 6) (q0 := 0) rfl rfl, fun U hU hW => ⟨rfl, preS_at hU hW hPc hKc hev⟩⟩ rfl rfl hl.1 rfl (lv_room (Nat.le_of_ble_eq_true rfl)) dX8_sheet_2 ⟨(Nat.le_of_ble_eq_true rfl), (Nat.le_of_ble_eq_true rfl)⟩) (fun r_39 hw => ?_)
    subst hw
    refine pp_tv (y := .ref p2) rfl ?_
    refine lv_astore (lv' := [(4, .ref p2), (0, .ref h0), (1, .int 2), (2, .int b), (3, .int n)]) hx hb dX8_sheet_5 hl (by decide) rfl (fun ls hl => ?_)
    refine lv_aload hx hb dX8_sheet_7 (lv_at hl 0 rfl) ?_
    refine lv_ifnull hx hb dX8_sheet_9 ?_
    refine lv_iload_n hx hb dX8_sheet_12 rfl (lv_at hl 3 rfl) ?_
    have hPc := hP.sub (ws' := []) [] rfl
    have hKc := hK.sub (tys' := []) [] rfl
    refine vp_callSi (W.runS (As := [.int b]) (rest := []) ⟨hx, hb, hml, hown, hts⟩ (x_isWidth l dC dI ad b ) (va_cwS 1 hts g_x_sheet_x_isWidth_260 rfl rfl rfl (by decide +kernel) ⟨(Nat.le_of_ble_eq_true rfl), (Nat.le_of_ble_eq_true rfl)⟩) ⟨preS_blind, fun U hU hW => ⟨rfl, preS_at hU hW hPc hKc hev⟩⟩ rfl rfl hl.1 rfl (lv_room (Nat.le_of_ble_eq_true rfl)) dX8_sheet_13 ⟨(Nat.le_of_ble_eq_true rfl), (Nat.le_of_ble_eq_true rfl)⟩) (fun r_40 hw => ?_)
    have hr_40 : (r_40.toInt = 0 ∧ ¬ b.toInt = 0 ∧ ¬ b.toInt = 8 ∧ ¬ b.toInt = 16 ∧ ¬ b.toInt = 64) ∨ (r_40.toInt = 1 ∧ (b.toInt = 0 ∨ b.toInt = 8 ∨ b.toInt = 16 ∨ b.toInt = 64)) := hw
    refine lv_if_ne (tgt := 26) hx hb dX8_sheet_16 (by decide) (fun c_41 => ?_) (fun c_41 => ?_)
    · skip
      have tc_41 : ¬ r_40.toInt = 0 := fun h => c_41 ((fa_eq _ _).mpr h)
      refine lv_iload_n hx hb dX8_sheet_26 rfl (lv_at hl 4 rfl) ?_
      refine lv_if_ge (tgt := 37) hx hb dX8_sheet_27 (by decide) (fun c_42 => ?_) (fun c_42 => ?_)
      · skip
        have tc_42 : 0 ≤ n.toInt := (fa_le _ _).mp c_42
        refine lv_iload_n hx hb dX8_sheet_37 rfl (lv_at hl 4 rfl) ?_
        refine lv_bipush (v := 40) hx hb dX8_sheet_38 (by decide) ?_
        refine lv_icmp_le (tgt := 50) hx hb dX8_sheet_40 (by decide) (fun c_43 => ?_) (fun c_43 => ?_)
        · skip
          have tc_43 : n.toInt ≤ 40 := (fa_le _ _).mp c_43
          refine lv_aload hx hb dX8_sheet_50 (lv_at hl 0 rfl) ?_
          refine lv_iload_n hx hb dX8_sheet_52 rfl (lv_at hl 3 rfl) ?_
          refine lv_iload_n hx hb dX8_sheet_53 rfl (lv_at hl 3 rfl) ?_
          refine lv_if_ne (tgt := 61) hx hb dX8_sheet_54 (by decide) (fun c_44 => ?_) (fun c_44 => ?_)
          · skip
            have tc_44 : ¬ b.toInt = 0 := fun h => c_44 ((fa_eq _ _).mpr h)
            refine lv_iload_n hx hb dX8_sheet_61 rfl (lv_at hl 4 rfl) ?_
            have hPc := hP.sub (ws' := [(p2, .inr (0, [.int b2, .int z2, .ref n2])), (n2, .inl (nc2, 40, .inr (.inl g2)))]) [7, 8] rfl
            have hKc := hK.sub (tys' := [(nc2, .long)]) [4] rfl
            have hDc := hD.sub (ws' := [(p2, .inr (0, [.int b2, .int z2, .ref n2])), (n2, .inl (nc2, 40, .inr (.inl g2)))]) [7, 8] (by decide) rfl
            have hFc := va_free (wc := [(p2, .inr (0, [.int b2, .int z2, .ref n2])), (n2, .inl (nc2, 40, .inr (.inl g2)))]) hD hS hA [7, 8] rfl
            refine va_callv (va_runV (As := [.int b, .int n]) (rest := []) ⟨hx, hb, hml, hown, hts⟩ (p_renew l dC dI ad p2 b n (.int b2) (.int z2) n2 nc2 g2 s.heap.size ) (cwV 2 hts g_x_sheet_p_renew_263 rfl rfl rfl (by decide +kernel) ⟨(Nat.le_of_ble_eq_true rfl), (Nat.le_of_ble_eq_true rfl)⟩) ⟨preM_blind, va_recv hKc hPc (ci := 0) (q0 := 0) rfl rfl, fun U hU hW => ⟨rfl, preM_at hU hW hPc hKc hDc hev⟩⟩ rfl rfl hl.1 rfl (lv_room (Nat.le_of_ble_eq_true rfl)) dX8_sheet_62 ⟨(Nat.le_of_ble_eq_true rfl), (Nat.le_of_ble_eq_true rfl)⟩) hS (fun q _ h => hFc q h) hFc (fun u t H1 locs ht hvm hw hB hz1 hk1 hS => ?_)
            obtain ⟨g_46, hP1, hK1, hD1⟩ := hB
            rw [ht] at hP1
            have hK1 := va_K.moved hvm.symm hK1
            obtain ⟨hP, hD⟩ := va_join (wr := [(h0, .inr (6, [v0, v1, v2, v3, v4, .ref ph, .ref t0, v7])), (t0, .inl (tc, 7, .inl tf)), (ph, .inl (pc, 4, .inr (.inr (.inr (.inr pf))))), (p0, .inr (0, [.int b0, .int z0, .ref n0])), (n0, .inl (nc0, 40, .inr (.inl g0))), (p1, .inr (0, [.int b1, .int z1, .ref n1])), (n1, .inl (nc1, 40, .inr (.inl g1))), (p3, .inr (0, [.int b3, .int z3, .ref n3])), (n3, .inl (nc3, 40, .inr (.inl g3)))]) (w1 := [(p2, .inr (0, [.int b, .int n, .ref n2])), (n2, .inl (nc2, 40, .inr (.inl g_46)))]) hP hD [7, 8] [0, 1, 2, 3, 4, 5, 6, 9, 10] rfl rfl (by decide) (by decide) hk1 hFc hP1 hD1
            generalize H1 = H at hP hS ⊢
            have hP : va_P (dC, dI) vwCl [(h0, .inr (6, [v0, v1, v2, v3, v4, .ref ph, .ref t0, v7])), (t0, .inl (tc, 7, .inl tf)), (ph, .inl (pc, 4, .inr (.inr (.inr (.inr pf))))), (p0, .inr (0, [.int b0, .int z0, .ref n0])), (n0, .inl (nc0, 40, .inr (.inl g0))), (p1, .inr (0, [.int b1, .int z1, .ref n1])), (n1, .inl (nc1, 40, .inr (.inl g1))), (p3, .inr (0, [.int b3, .int z3, .ref n3])), (n3, .inl (nc3, 40, .inr (.inl g3))), (p2, .inr (0, [.int b, .int n, .ref n2])), (n2, .inl (nc2, 40, .inr (.inl g_46)))] H := hP
            have hD : va_D A [(h0, .inr (6, [v0, v1, v2, v3, v4, .ref ph, .ref t0, v7])), (t0, .inl (tc, 7, .inl tf)), (ph, .inl (pc, 4, .inr (.inr (.inr (.inr pf))))), (p0, .inr (0, [.int b0, .int z0, .ref n0])), (n0, .inl (nc0, 40, .inr (.inl g0))), (p1, .inr (0, [.int b1, .int z1, .ref n1])), (n1, .inl (nc1, 40, .inr (.inl g1))), (p3, .inr (0, [.int b3, .int z3, .ref n3])), (n3, .inl (nc3, 40, .inr (.inl g3))), (p2, .inr (0, [.int b, .int n, .ref n2])), (n2, .inl (nc2, 40, .inr (.inl g_46)))] := hD
            refine lv_aload hx hb dX8_sheet_65 (lv_at hl 0 rfl) ?_
            refine va_getN (D := (dC, dI)) (ci := 0) (v := .int n) (C := RX2) (T := TX2) (N := 3) hx hb hts inX2 hown hK hP 9 rfl rfl 1 (by decide) (ev_nest hev 22 rfl) (fun _ h9 => h9) rfl dX8_sheet_67 ?_
            have hP9 := hP.sub (ws' := [(h0, .inr (6, [v0, v1, v2, v3, v4, .ref ph, .ref t0, v7])), (t0, .inl (tc, 7, .inl tf)), (ph, .inl (pc, 4, .inr (.inr (.inr (.inr pf))))), (p0, .inr (0, [.int b0, .int z0, .ref n0])), (n0, .inl (nc0, 40, .inr (.inl g0))), (p1, .inr (0, [.int b1, .int z1, .ref n1])), (n1, .inl (nc1, 40, .inr (.inl g1))), (p2, .inr (0, [.int b, .int n, .ref n2])), (n2, .inl (nc2, 40, .inr (.inl g_46))), (p3, .inr (0, [.int b3, .int z3, .ref n3])), (n3, .inl (nc3, 40, .inr (.inl g3)))]) [0, 1, 2, 3, 4, 5, 6, 9, 10, 7, 8] rfl
            have hD9 := hD.sub (ws' := [(h0, .inr (6, [v0, v1, v2, v3, v4, .ref ph, .ref t0, v7])), (t0, .inl (tc, 7, .inl tf)), (ph, .inl (pc, 4, .inr (.inr (.inr (.inr pf))))), (p0, .inr (0, [.int b0, .int z0, .ref n0])), (n0, .inl (nc0, 40, .inr (.inl g0))), (p1, .inr (0, [.int b1, .int z1, .ref n1])), (n1, .inl (nc1, 40, .inr (.inl g1))), (p2, .inr (0, [.int b, .int n, .ref n2])), (n2, .inl (nc2, 40, .inr (.inl g_46))), (p3, .inr (0, [.int b3, .int z3, .ref n3])), (n3, .inl (nc3, 40, .inr (.inl g3)))]) [0, 1, 2, 3, 4, 5, 6, 9, 10, 7, 8] (by decide) rfl
            have hK9 := hK.sub (tys' := [(tc, .int), (pc, .object "LampShapes$Paper"), (nc0, .long), (nc1, .long), (nc2, .long), (nc3, .long)]) [0, 1, 2, 3, 4, 5] rfl
            exact W.iret (v := n) hx hb hr (fun t ht hW => ⟨⟨n, (), rfl, trivial, tf, b0, z0, b1, z1, b, n, b3, z3, g0, g1, g_46, g3, (by first | omega | decide | (simp only [fa_lt, fa_le, fa_eq, and_true, true_and, and_false, false_and, not_true_eq_false, not_false_eq_true, li_0, li_1, li_2, li_3, li_4, li_5, li_6, li_7, li_8, li_9, li_10, li_12, li_15, li_16, li_20, li_30, li_34, li_38, li_40, li_63, li_64, li_65, li_78, li_120, li_1000, li_4000, li_10000, li_11077, li_255, li_65535, li_m1, li_m2, li_m1000000001, li_m1000000002, li_m1000000003, li_m1000000004, li_m1000000005, li_m1000000006, li_m1000000007, or_true, true_or, or_false, false_or, implies_true, true_implies, false_implies] <;> omega)), (by first | omega | decide | (simp only [fa_lt, fa_le, fa_eq, and_true, true_and, and_false, false_and, not_true_eq_false, not_false_eq_true, li_0, li_1, li_2, li_3, li_4, li_5, li_6, li_7, li_8, li_9, li_10, li_12, li_15, li_16, li_20, li_30, li_34, li_38, li_40, li_63, li_64, li_65, li_78, li_120, li_1000, li_4000, li_10000, li_11077, li_255, li_65535, li_m1, li_m2, li_m1000000001, li_m1000000002, li_m1000000003, li_m1000000004, li_m1000000005, li_m1000000006, li_m1000000007, or_true, true_or, or_false, false_or, implies_true, true_implies, false_implies] <;> omega)), (by first | omega | decide | (simp only [fa_lt, fa_le, fa_eq, and_true, true_and, and_false, false_and, not_true_eq_false, not_false_eq_true, li_0, li_1, li_2, li_3, li_4, li_5, li_6, li_7, li_8, li_9, li_10, li_12, li_15, li_16, li_20, li_30, li_34, li_38, li_40, li_63, li_64, li_65, li_78, li_120, li_1000, li_4000, li_10000, li_11077, li_255, li_65535, li_m1, li_m2, li_m1000000001, li_m1000000002, li_m1000000003, li_m1000000004, li_m1000000005, li_m1000000006, li_m1000000007, or_true, true_or, or_false, false_or, implies_true, true_implies, false_implies] <;> omega)), (by first | omega | decide | (simp only [fa_lt, fa_le, fa_eq, and_true, true_and, and_false, false_and, not_true_eq_false, not_false_eq_true, li_0, li_1, li_2, li_3, li_4, li_5, li_6, li_7, li_8, li_9, li_10, li_12, li_15, li_16, li_20, li_30, li_34, li_38, li_40, li_63, li_64, li_65, li_78, li_120, li_1000, li_4000, li_10000, li_11077, li_255, li_65535, li_m1, li_m2, li_m1000000001, li_m1000000002, li_m1000000003, li_m1000000004, li_m1000000005, li_m1000000006, li_m1000000007, or_true, true_or, or_false, false_or, implies_true, true_implies, false_implies] <;> omega)), by rw [ht]; exact hP9, va_K.moved hW.alike hK9, hD9⟩, hS.F ht⟩) hS.2.2 dX8_sheet_70
          · skip
            have tc_44 : b.toInt = 0 := (fa_eq _ _).mp c_44
            refine lv_iconst (v := 0) hx hb dX8_sheet_57 (by decide) ?_
            refine lv_goto (tgt := 62) hx hb dX8_sheet_58 (by decide) ?_
            have hPc := hP.sub (ws' := [(p2, .inr (0, [.int b2, .int z2, .ref n2])), (n2, .inl (nc2, 40, .inr (.inl g2)))]) [7, 8] rfl
            have hKc := hK.sub (tys' := [(nc2, .long)]) [4] rfl
            have hDc := hD.sub (ws' := [(p2, .inr (0, [.int b2, .int z2, .ref n2])), (n2, .inl (nc2, 40, .inr (.inl g2)))]) [7, 8] (by decide) rfl
            have hFc := va_free (wc := [(p2, .inr (0, [.int b2, .int z2, .ref n2])), (n2, .inl (nc2, 40, .inr (.inl g2)))]) hD hS hA [7, 8] rfl
            refine va_callv (va_runV (As := [.int b, .int 0]) (rest := []) ⟨hx, hb, hml, hown, hts⟩ (p_renew l dC dI ad p2 b 0 (.int b2) (.int z2) n2 nc2 g2 s.heap.size ) (cwV 2 hts g_x_sheet_p_renew_263 rfl rfl rfl (by decide +kernel) ⟨(Nat.le_of_ble_eq_true rfl), (Nat.le_of_ble_eq_true rfl)⟩) ⟨preM_blind, va_recv hKc hPc (ci := 0) (q0 := 0) rfl rfl, fun U hU hW => ⟨rfl, preM_at hU hW hPc hKc hDc hev⟩⟩ rfl rfl hl.1 rfl (lv_room (Nat.le_of_ble_eq_true rfl)) dX8_sheet_62 ⟨(Nat.le_of_ble_eq_true rfl), (Nat.le_of_ble_eq_true rfl)⟩) hS (fun q _ h => hFc q h) hFc (fun u t H1 locs ht hvm hw hB hz1 hk1 hS => ?_)
            obtain ⟨g_48, hP1, hK1, hD1⟩ := hB
            rw [ht] at hP1
            have hK1 := va_K.moved hvm.symm hK1
            obtain ⟨hP, hD⟩ := va_join (wr := [(h0, .inr (6, [v0, v1, v2, v3, v4, .ref ph, .ref t0, v7])), (t0, .inl (tc, 7, .inl tf)), (ph, .inl (pc, 4, .inr (.inr (.inr (.inr pf))))), (p0, .inr (0, [.int b0, .int z0, .ref n0])), (n0, .inl (nc0, 40, .inr (.inl g0))), (p1, .inr (0, [.int b1, .int z1, .ref n1])), (n1, .inl (nc1, 40, .inr (.inl g1))), (p3, .inr (0, [.int b3, .int z3, .ref n3])), (n3, .inl (nc3, 40, .inr (.inl g3)))]) (w1 := [(p2, .inr (0, [.int b, .int 0, .ref n2])), (n2, .inl (nc2, 40, .inr (.inl g_48)))]) hP hD [7, 8] [0, 1, 2, 3, 4, 5, 6, 9, 10] rfl rfl (by decide) (by decide) hk1 hFc hP1 hD1
            generalize H1 = H at hP hS ⊢
            have hP : va_P (dC, dI) vwCl [(h0, .inr (6, [v0, v1, v2, v3, v4, .ref ph, .ref t0, v7])), (t0, .inl (tc, 7, .inl tf)), (ph, .inl (pc, 4, .inr (.inr (.inr (.inr pf))))), (p0, .inr (0, [.int b0, .int z0, .ref n0])), (n0, .inl (nc0, 40, .inr (.inl g0))), (p1, .inr (0, [.int b1, .int z1, .ref n1])), (n1, .inl (nc1, 40, .inr (.inl g1))), (p3, .inr (0, [.int b3, .int z3, .ref n3])), (n3, .inl (nc3, 40, .inr (.inl g3))), (p2, .inr (0, [.int b, .int 0, .ref n2])), (n2, .inl (nc2, 40, .inr (.inl g_48)))] H := hP
            have hD : va_D A [(h0, .inr (6, [v0, v1, v2, v3, v4, .ref ph, .ref t0, v7])), (t0, .inl (tc, 7, .inl tf)), (ph, .inl (pc, 4, .inr (.inr (.inr (.inr pf))))), (p0, .inr (0, [.int b0, .int z0, .ref n0])), (n0, .inl (nc0, 40, .inr (.inl g0))), (p1, .inr (0, [.int b1, .int z1, .ref n1])), (n1, .inl (nc1, 40, .inr (.inl g1))), (p3, .inr (0, [.int b3, .int z3, .ref n3])), (n3, .inl (nc3, 40, .inr (.inl g3))), (p2, .inr (0, [.int b, .int 0, .ref n2])), (n2, .inl (nc2, 40, .inr (.inl g_48)))] := hD
            refine lv_aload hx hb dX8_sheet_65 (lv_at hl 0 rfl) ?_
            refine va_getN (D := (dC, dI)) (ci := 0) (v := .int 0) (C := RX2) (T := TX2) (N := 3) hx hb hts inX2 hown hK hP 9 rfl rfl 1 (by decide) (ev_nest hev 22 rfl) (fun _ h9 => h9) rfl dX8_sheet_67 ?_
            have hP9 := hP.sub (ws' := [(h0, .inr (6, [v0, v1, v2, v3, v4, .ref ph, .ref t0, v7])), (t0, .inl (tc, 7, .inl tf)), (ph, .inl (pc, 4, .inr (.inr (.inr (.inr pf))))), (p0, .inr (0, [.int b0, .int z0, .ref n0])), (n0, .inl (nc0, 40, .inr (.inl g0))), (p1, .inr (0, [.int b1, .int z1, .ref n1])), (n1, .inl (nc1, 40, .inr (.inl g1))), (p2, .inr (0, [.int b, .int 0, .ref n2])), (n2, .inl (nc2, 40, .inr (.inl g_48))), (p3, .inr (0, [.int b3, .int z3, .ref n3])), (n3, .inl (nc3, 40, .inr (.inl g3)))]) [0, 1, 2, 3, 4, 5, 6, 9, 10, 7, 8] rfl
            have hD9 := hD.sub (ws' := [(h0, .inr (6, [v0, v1, v2, v3, v4, .ref ph, .ref t0, v7])), (t0, .inl (tc, 7, .inl tf)), (ph, .inl (pc, 4, .inr (.inr (.inr (.inr pf))))), (p0, .inr (0, [.int b0, .int z0, .ref n0])), (n0, .inl (nc0, 40, .inr (.inl g0))), (p1, .inr (0, [.int b1, .int z1, .ref n1])), (n1, .inl (nc1, 40, .inr (.inl g1))), (p2, .inr (0, [.int b, .int 0, .ref n2])), (n2, .inl (nc2, 40, .inr (.inl g_48))), (p3, .inr (0, [.int b3, .int z3, .ref n3])), (n3, .inl (nc3, 40, .inr (.inl g3)))]) [0, 1, 2, 3, 4, 5, 6, 9, 10, 7, 8] (by decide) rfl
            have hK9 := hK.sub (tys' := [(tc, .int), (pc, .object "LampShapes$Paper"), (nc0, .long), (nc1, .long), (nc2, .long), (nc3, .long)]) [0, 1, 2, 3, 4, 5] rfl
            exact W.iret (v := (0 : Int32)) hx hb hr (fun t ht hW => ⟨⟨(0 : Int32), (), rfl, trivial, tf, b0, z0, b1, z1, b, 0, b3, z3, g0, g1, g_48, g3, (by first | omega | decide | (simp only [fa_lt, fa_le, fa_eq, and_true, true_and, and_false, false_and, not_true_eq_false, not_false_eq_true, li_0, li_1, li_2, li_3, li_4, li_5, li_6, li_7, li_8, li_9, li_10, li_12, li_15, li_16, li_20, li_30, li_34, li_38, li_40, li_63, li_64, li_65, li_78, li_120, li_1000, li_4000, li_10000, li_11077, li_255, li_65535, li_m1, li_m2, li_m1000000001, li_m1000000002, li_m1000000003, li_m1000000004, li_m1000000005, li_m1000000006, li_m1000000007, or_true, true_or, or_false, false_or, implies_true, true_implies, false_implies] <;> omega)), (by first | omega | decide | (simp only [fa_lt, fa_le, fa_eq, and_true, true_and, and_false, false_and, not_true_eq_false, not_false_eq_true, li_0, li_1, li_2, li_3, li_4, li_5, li_6, li_7, li_8, li_9, li_10, li_12, li_15, li_16, li_20, li_30, li_34, li_38, li_40, li_63, li_64, li_65, li_78, li_120, li_1000, li_4000, li_10000, li_11077, li_255, li_65535, li_m1, li_m2, li_m1000000001, li_m1000000002, li_m1000000003, li_m1000000004, li_m1000000005, li_m1000000006, li_m1000000007, or_true, true_or, or_false, false_or, implies_true, true_implies, false_implies] <;> omega)), (by first | omega | decide | (simp only [fa_lt, fa_le, fa_eq, and_true, true_and, and_false, false_and, not_true_eq_false, not_false_eq_true, li_0, li_1, li_2, li_3, li_4, li_5, li_6, li_7, li_8, li_9, li_10, li_12, li_15, li_16, li_20, li_30, li_34, li_38, li_40, li_63, li_64, li_65, li_78, li_120, li_1000, li_4000, li_10000, li_11077, li_255, li_65535, li_m1, li_m2, li_m1000000001, li_m1000000002, li_m1000000003, li_m1000000004, li_m1000000005, li_m1000000006, li_m1000000007, or_true, true_or, or_false, false_or, implies_true, true_implies, false_implies] <;> omega)), (by first | omega | decide | (simp only [fa_lt, fa_le, fa_eq, and_true, true_and, and_false, false_and, not_true_eq_false, not_false_eq_true, li_0, li_1, li_2, li_3, li_4, li_5, li_6, li_7, li_8, li_9, li_10, li_12, li_15, li_16, li_20, li_30, li_34, li_38, li_40, li_63, li_64, li_65, li_78, li_120, li_1000, li_4000, li_10000, li_11077, li_255, li_65535, li_m1, li_m2, li_m1000000001, li_m1000000002, li_m1000000003, li_m1000000004, li_m1000000005, li_m1000000006, li_m1000000007, or_true, true_or, or_false, false_or, implies_true, true_implies, false_implies] <;> omega)), by rw [ht]; exact hP9, va_K.moved hW.alike hK9, hD9⟩, hS.F ht⟩) hS.2.2 dX8_sheet_70
        · skip
          have tc_43 : ¬ n.toInt ≤ 40 := fun h => c_43 ((fa_le _ _).mpr h)
          refine lv_aload_n hx hb dX8_sheet_43 rfl (lv_at hl 1 rfl) ?_
          refine lv_ldc hx hb hown (hts _ (List.mem_of_getElem? (i := 6) rfl)) dX8_sheet_44 ?_
          have hPc := hP.sub (ws' := [(h0, .inr (6, [v0, v1, v2, v3, v4, .ref ph, .ref t0, v7])), (t0, .inl (tc, 7, .inl tf))]) [0, 1] rfl
          have hKc := hK.sub (tys' := [(tc, .int)]) [0] rfl
          have hDc := hD.sub (ws' := [(h0, .inr (6, [v0, v1, v2, v3, v4, .ref ph, .ref t0, v7])), (t0, .inl (tc, 7, .inl tf))]) [0, 1] (by decide) rfl
          have hFc := va_free (wc := [(h0, .inr (6, [v0, v1, v2, v3, v4, .ref ph, .ref t0, v7])), (t0, .inl (tc, 7, .inl tf))]) hD hS hA [0, 1] rfl
          refine va_calli (va_runV (As := [.int (-1000000001)]) (rest := []) ⟨hx, hb, hml, hown, hts⟩ (f_beyond l dC dI ad h0 v0 v1 v2 v3 v4 (.ref ph) t0 v7 tc tf s.heap.size ) (cwV 1 hts g_x_sheet_f_beyond_63 rfl rfl rfl (by decide +kernel) ⟨(Nat.le_of_ble_eq_true rfl), (Nat.le_of_ble_eq_true rfl)⟩) ⟨preM_blind, va_recv hKc hPc (ci := 6) (q0 := 0) rfl rfl, fun U hU hW => ⟨rfl, preM_at hU hW hPc hKc hDc hev⟩⟩ rfl rfl hl.1 rfl (lv_room (Nat.le_of_ble_eq_true rfl)) dX8_sheet_46 ⟨(Nat.le_of_ble_eq_true rfl), (Nat.le_of_ble_eq_true rfl)⟩) hS (fun q _ h => hFc q h) hFc (fun r_49 u t H1 locs ht hvm hw hB hz1 hk1 hS => ?_)
          obtain ⟨tg_50, hP1, hK1, hD1⟩ := hB
          rw [ht] at hP1
          have hK1 := va_K.moved hvm.symm hK1
          obtain ⟨hP, hD⟩ := va_join (wr := [(ph, .inl (pc, 4, .inr (.inr (.inr (.inr pf))))), (p0, .inr (0, [.int b0, .int z0, .ref n0])), (n0, .inl (nc0, 40, .inr (.inl g0))), (p1, .inr (0, [.int b1, .int z1, .ref n1])), (n1, .inl (nc1, 40, .inr (.inl g1))), (p2, .inr (0, [.int b2, .int z2, .ref n2])), (n2, .inl (nc2, 40, .inr (.inl g2))), (p3, .inr (0, [.int b3, .int z3, .ref n3])), (n3, .inl (nc3, 40, .inr (.inl g3)))]) (w1 := [(h0, .inr (6, [v0, v1, v2, v3, v4, .ref ph, .ref t0, v7])), (t0, .inl (tc, 7, .inl tg_50))]) hP hD [0, 1] [2, 3, 4, 5, 6, 7, 8, 9, 10] rfl rfl (by decide) (by decide) hk1 hFc hP1 hD1
          generalize H1 = H at hP hS ⊢
          have hP : va_P (dC, dI) vwCl [(ph, .inl (pc, 4, .inr (.inr (.inr (.inr pf))))), (p0, .inr (0, [.int b0, .int z0, .ref n0])), (n0, .inl (nc0, 40, .inr (.inl g0))), (p1, .inr (0, [.int b1, .int z1, .ref n1])), (n1, .inl (nc1, 40, .inr (.inl g1))), (p2, .inr (0, [.int b2, .int z2, .ref n2])), (n2, .inl (nc2, 40, .inr (.inl g2))), (p3, .inr (0, [.int b3, .int z3, .ref n3])), (n3, .inl (nc3, 40, .inr (.inl g3))), (h0, .inr (6, [v0, v1, v2, v3, v4, .ref ph, .ref t0, v7])), (t0, .inl (tc, 7, .inl tg_50))] H := hP
          have hD : va_D A [(ph, .inl (pc, 4, .inr (.inr (.inr (.inr pf))))), (p0, .inr (0, [.int b0, .int z0, .ref n0])), (n0, .inl (nc0, 40, .inr (.inl g0))), (p1, .inr (0, [.int b1, .int z1, .ref n1])), (n1, .inl (nc1, 40, .inr (.inl g1))), (p2, .inr (0, [.int b2, .int z2, .ref n2])), (n2, .inl (nc2, 40, .inr (.inl g2))), (p3, .inr (0, [.int b3, .int z3, .ref n3])), (n3, .inl (nc3, 40, .inr (.inl g3))), (h0, .inr (6, [v0, v1, v2, v3, v4, .ref ph, .ref t0, v7])), (t0, .inl (tc, 7, .inl tg_50))] := hD
          subst hw
          have hP9 := hP.sub (ws' := [(h0, .inr (6, [v0, v1, v2, v3, v4, .ref ph, .ref t0, v7])), (t0, .inl (tc, 7, .inl tg_50)), (ph, .inl (pc, 4, .inr (.inr (.inr (.inr pf))))), (p0, .inr (0, [.int b0, .int z0, .ref n0])), (n0, .inl (nc0, 40, .inr (.inl g0))), (p1, .inr (0, [.int b1, .int z1, .ref n1])), (n1, .inl (nc1, 40, .inr (.inl g1))), (p2, .inr (0, [.int b2, .int z2, .ref n2])), (n2, .inl (nc2, 40, .inr (.inl g2))), (p3, .inr (0, [.int b3, .int z3, .ref n3])), (n3, .inl (nc3, 40, .inr (.inl g3)))]) [9, 10, 0, 1, 2, 3, 4, 5, 6, 7, 8] rfl
          have hD9 := hD.sub (ws' := [(h0, .inr (6, [v0, v1, v2, v3, v4, .ref ph, .ref t0, v7])), (t0, .inl (tc, 7, .inl tg_50)), (ph, .inl (pc, 4, .inr (.inr (.inr (.inr pf))))), (p0, .inr (0, [.int b0, .int z0, .ref n0])), (n0, .inl (nc0, 40, .inr (.inl g0))), (p1, .inr (0, [.int b1, .int z1, .ref n1])), (n1, .inl (nc1, 40, .inr (.inl g1))), (p2, .inr (0, [.int b2, .int z2, .ref n2])), (n2, .inl (nc2, 40, .inr (.inl g2))), (p3, .inr (0, [.int b3, .int z3, .ref n3])), (n3, .inl (nc3, 40, .inr (.inl g3)))]) [9, 10, 0, 1, 2, 3, 4, 5, 6, 7, 8] (by decide) rfl
          have hK9 := hK.sub (tys' := [(tc, .int), (pc, .object "LampShapes$Paper"), (nc0, .long), (nc1, .long), (nc2, .long), (nc3, .long)]) [0, 1, 2, 3, 4, 5] rfl
          exact W.iret (v := ((-1000000001) : Int32)) hx hb hr (fun t ht hW => ⟨⟨((-1000000001) : Int32), (), rfl, trivial, tg_50, b0, z0, b1, z1, b2, z2, b3, z3, g0, g1, g2, g3, (by first | omega | decide | (simp only [fa_lt, fa_le, fa_eq, and_true, true_and, and_false, false_and, not_true_eq_false, not_false_eq_true, li_0, li_1, li_2, li_3, li_4, li_5, li_6, li_7, li_8, li_9, li_10, li_12, li_15, li_16, li_20, li_30, li_34, li_38, li_40, li_63, li_64, li_65, li_78, li_120, li_1000, li_4000, li_10000, li_11077, li_255, li_65535, li_m1, li_m2, li_m1000000001, li_m1000000002, li_m1000000003, li_m1000000004, li_m1000000005, li_m1000000006, li_m1000000007, or_true, true_or, or_false, false_or, implies_true, true_implies, false_implies] <;> omega)), (by first | omega | decide | (simp only [fa_lt, fa_le, fa_eq, and_true, true_and, and_false, false_and, not_true_eq_false, not_false_eq_true, li_0, li_1, li_2, li_3, li_4, li_5, li_6, li_7, li_8, li_9, li_10, li_12, li_15, li_16, li_20, li_30, li_34, li_38, li_40, li_63, li_64, li_65, li_78, li_120, li_1000, li_4000, li_10000, li_11077, li_255, li_65535, li_m1, li_m2, li_m1000000001, li_m1000000002, li_m1000000003, li_m1000000004, li_m1000000005, li_m1000000006, li_m1000000007, or_true, true_or, or_false, false_or, implies_true, true_implies, false_implies] <;> omega)), (by first | omega | decide | (simp only [fa_lt, fa_le, fa_eq, and_true, true_and, and_false, false_and, not_true_eq_false, not_false_eq_true, li_0, li_1, li_2, li_3, li_4, li_5, li_6, li_7, li_8, li_9, li_10, li_12, li_15, li_16, li_20, li_30, li_34, li_38, li_40, li_63, li_64, li_65, li_78, li_120, li_1000, li_4000, li_10000, li_11077, li_255, li_65535, li_m1, li_m2, li_m1000000001, li_m1000000002, li_m1000000003, li_m1000000004, li_m1000000005, li_m1000000006, li_m1000000007, or_true, true_or, or_false, false_or, implies_true, true_implies, false_implies] <;> omega)), (by first | omega | decide | (simp only [fa_lt, fa_le, fa_eq, and_true, true_and, and_false, false_and, not_true_eq_false, not_false_eq_true, li_0, li_1, li_2, li_3, li_4, li_5, li_6, li_7, li_8, li_9, li_10, li_12, li_15, li_16, li_20, li_30, li_34, li_38, li_40, li_63, li_64, li_65, li_78, li_120, li_1000, li_4000, li_10000, li_11077, li_255, li_65535, li_m1, li_m2, li_m1000000001, li_m1000000002, li_m1000000003, li_m1000000004, li_m1000000005, li_m1000000006, li_m1000000007, or_true, true_or, or_false, false_or, implies_true, true_implies, false_implies] <;> omega)), by rw [ht]; exact hP9, va_K.moved hW.alike hK9, hD9⟩, hS.F ht⟩) hS.2.2 dX8_sheet_49
      · skip
        have tc_42 : ¬ 0 ≤ n.toInt := fun h => c_42 ((fa_le _ _).mpr h)
        refine lv_aload_n hx hb dX8_sheet_30 rfl (lv_at hl 1 rfl) ?_
        refine lv_ldc hx hb hown (hts _ (List.mem_of_getElem? (i := 24) rfl)) dX8_sheet_31 ?_
        have hPc := hP.sub (ws' := [(h0, .inr (6, [v0, v1, v2, v3, v4, .ref ph, .ref t0, v7])), (t0, .inl (tc, 7, .inl tf))]) [0, 1] rfl
        have hKc := hK.sub (tys' := [(tc, .int)]) [0] rfl
        have hDc := hD.sub (ws' := [(h0, .inr (6, [v0, v1, v2, v3, v4, .ref ph, .ref t0, v7])), (t0, .inl (tc, 7, .inl tf))]) [0, 1] (by decide) rfl
        have hFc := va_free (wc := [(h0, .inr (6, [v0, v1, v2, v3, v4, .ref ph, .ref t0, v7])), (t0, .inl (tc, 7, .inl tf))]) hD hS hA [0, 1] rfl
        refine va_calli (va_runV (As := [.int (-1000000007)]) (rest := []) ⟨hx, hb, hml, hown, hts⟩ (f_size l dC dI ad h0 v0 v1 v2 v3 v4 (.ref ph) t0 v7 tc tf s.heap.size ) (cwV 1 hts g_x_sheet_f_size_63 rfl rfl rfl (by decide +kernel) ⟨(Nat.le_of_ble_eq_true rfl), (Nat.le_of_ble_eq_true rfl)⟩) ⟨preM_blind, va_recv hKc hPc (ci := 6) (q0 := 0) rfl rfl, fun U hU hW => ⟨rfl, preM_at hU hW hPc hKc hDc hev⟩⟩ rfl rfl hl.1 rfl (lv_room (Nat.le_of_ble_eq_true rfl)) dX8_sheet_33 ⟨(Nat.le_of_ble_eq_true rfl), (Nat.le_of_ble_eq_true rfl)⟩) hS (fun q _ h => hFc q h) hFc (fun r_51 u t H1 locs ht hvm hw hB hz1 hk1 hS => ?_)
        obtain ⟨tg_52, hP1, hK1, hD1⟩ := hB
        rw [ht] at hP1
        have hK1 := va_K.moved hvm.symm hK1
        obtain ⟨hP, hD⟩ := va_join (wr := [(ph, .inl (pc, 4, .inr (.inr (.inr (.inr pf))))), (p0, .inr (0, [.int b0, .int z0, .ref n0])), (n0, .inl (nc0, 40, .inr (.inl g0))), (p1, .inr (0, [.int b1, .int z1, .ref n1])), (n1, .inl (nc1, 40, .inr (.inl g1))), (p2, .inr (0, [.int b2, .int z2, .ref n2])), (n2, .inl (nc2, 40, .inr (.inl g2))), (p3, .inr (0, [.int b3, .int z3, .ref n3])), (n3, .inl (nc3, 40, .inr (.inl g3)))]) (w1 := [(h0, .inr (6, [v0, v1, v2, v3, v4, .ref ph, .ref t0, v7])), (t0, .inl (tc, 7, .inl tg_52))]) hP hD [0, 1] [2, 3, 4, 5, 6, 7, 8, 9, 10] rfl rfl (by decide) (by decide) hk1 hFc hP1 hD1
        generalize H1 = H at hP hS ⊢
        have hP : va_P (dC, dI) vwCl [(ph, .inl (pc, 4, .inr (.inr (.inr (.inr pf))))), (p0, .inr (0, [.int b0, .int z0, .ref n0])), (n0, .inl (nc0, 40, .inr (.inl g0))), (p1, .inr (0, [.int b1, .int z1, .ref n1])), (n1, .inl (nc1, 40, .inr (.inl g1))), (p2, .inr (0, [.int b2, .int z2, .ref n2])), (n2, .inl (nc2, 40, .inr (.inl g2))), (p3, .inr (0, [.int b3, .int z3, .ref n3])), (n3, .inl (nc3, 40, .inr (.inl g3))), (h0, .inr (6, [v0, v1, v2, v3, v4, .ref ph, .ref t0, v7])), (t0, .inl (tc, 7, .inl tg_52))] H := hP
        have hD : va_D A [(ph, .inl (pc, 4, .inr (.inr (.inr (.inr pf))))), (p0, .inr (0, [.int b0, .int z0, .ref n0])), (n0, .inl (nc0, 40, .inr (.inl g0))), (p1, .inr (0, [.int b1, .int z1, .ref n1])), (n1, .inl (nc1, 40, .inr (.inl g1))), (p2, .inr (0, [.int b2, .int z2, .ref n2])), (n2, .inl (nc2, 40, .inr (.inl g2))), (p3, .inr (0, [.int b3, .int z3, .ref n3])), (n3, .inl (nc3, 40, .inr (.inl g3))), (h0, .inr (6, [v0, v1, v2, v3, v4, .ref ph, .ref t0, v7])), (t0, .inl (tc, 7, .inl tg_52))] := hD
        subst hw
        have hP9 := hP.sub (ws' := [(h0, .inr (6, [v0, v1, v2, v3, v4, .ref ph, .ref t0, v7])), (t0, .inl (tc, 7, .inl tg_52)), (ph, .inl (pc, 4, .inr (.inr (.inr (.inr pf))))), (p0, .inr (0, [.int b0, .int z0, .ref n0])), (n0, .inl (nc0, 40, .inr (.inl g0))), (p1, .inr (0, [.int b1, .int z1, .ref n1])), (n1, .inl (nc1, 40, .inr (.inl g1))), (p2, .inr (0, [.int b2, .int z2, .ref n2])), (n2, .inl (nc2, 40, .inr (.inl g2))), (p3, .inr (0, [.int b3, .int z3, .ref n3])), (n3, .inl (nc3, 40, .inr (.inl g3)))]) [9, 10, 0, 1, 2, 3, 4, 5, 6, 7, 8] rfl
        have hD9 := hD.sub (ws' := [(h0, .inr (6, [v0, v1, v2, v3, v4, .ref ph, .ref t0, v7])), (t0, .inl (tc, 7, .inl tg_52)), (ph, .inl (pc, 4, .inr (.inr (.inr (.inr pf))))), (p0, .inr (0, [.int b0, .int z0, .ref n0])), (n0, .inl (nc0, 40, .inr (.inl g0))), (p1, .inr (0, [.int b1, .int z1, .ref n1])), (n1, .inl (nc1, 40, .inr (.inl g1))), (p2, .inr (0, [.int b2, .int z2, .ref n2])), (n2, .inl (nc2, 40, .inr (.inl g2))), (p3, .inr (0, [.int b3, .int z3, .ref n3])), (n3, .inl (nc3, 40, .inr (.inl g3)))]) [9, 10, 0, 1, 2, 3, 4, 5, 6, 7, 8] (by decide) rfl
        have hK9 := hK.sub (tys' := [(tc, .int), (pc, .object "LampShapes$Paper"), (nc0, .long), (nc1, .long), (nc2, .long), (nc3, .long)]) [0, 1, 2, 3, 4, 5] rfl
        exact W.iret (v := ((-1000000007) : Int32)) hx hb hr (fun t ht hW => ⟨⟨((-1000000007) : Int32), (), rfl, trivial, tg_52, b0, z0, b1, z1, b2, z2, b3, z3, g0, g1, g2, g3, (by first | omega | decide | (simp only [fa_lt, fa_le, fa_eq, and_true, true_and, and_false, false_and, not_true_eq_false, not_false_eq_true, li_0, li_1, li_2, li_3, li_4, li_5, li_6, li_7, li_8, li_9, li_10, li_12, li_15, li_16, li_20, li_30, li_34, li_38, li_40, li_63, li_64, li_65, li_78, li_120, li_1000, li_4000, li_10000, li_11077, li_255, li_65535, li_m1, li_m2, li_m1000000001, li_m1000000002, li_m1000000003, li_m1000000004, li_m1000000005, li_m1000000006, li_m1000000007, or_true, true_or, or_false, false_or, implies_true, true_implies, false_implies] <;> omega)), (by first | omega | decide | (simp only [fa_lt, fa_le, fa_eq, and_true, true_and, and_false, false_and, not_true_eq_false, not_false_eq_true, li_0, li_1, li_2, li_3, li_4, li_5, li_6, li_7, li_8, li_9, li_10, li_12, li_15, li_16, li_20, li_30, li_34, li_38, li_40, li_63, li_64, li_65, li_78, li_120, li_1000, li_4000, li_10000, li_11077, li_255, li_65535, li_m1, li_m2, li_m1000000001, li_m1000000002, li_m1000000003, li_m1000000004, li_m1000000005, li_m1000000006, li_m1000000007, or_true, true_or, or_false, false_or, implies_true, true_implies, false_implies] <;> omega)), (by first | omega | decide | (simp only [fa_lt, fa_le, fa_eq, and_true, true_and, and_false, false_and, not_true_eq_false, not_false_eq_true, li_0, li_1, li_2, li_3, li_4, li_5, li_6, li_7, li_8, li_9, li_10, li_12, li_15, li_16, li_20, li_30, li_34, li_38, li_40, li_63, li_64, li_65, li_78, li_120, li_1000, li_4000, li_10000, li_11077, li_255, li_65535, li_m1, li_m2, li_m1000000001, li_m1000000002, li_m1000000003, li_m1000000004, li_m1000000005, li_m1000000006, li_m1000000007, or_true, true_or, or_false, false_or, implies_true, true_implies, false_implies] <;> omega)), (by first | omega | decide | (simp only [fa_lt, fa_le, fa_eq, and_true, true_and, and_false, false_and, not_true_eq_false, not_false_eq_true, li_0, li_1, li_2, li_3, li_4, li_5, li_6, li_7, li_8, li_9, li_10, li_12, li_15, li_16, li_20, li_30, li_34, li_38, li_40, li_63, li_64, li_65, li_78, li_120, li_1000, li_4000, li_10000, li_11077, li_255, li_65535, li_m1, li_m2, li_m1000000001, li_m1000000002, li_m1000000003, li_m1000000004, li_m1000000005, li_m1000000006, li_m1000000007, or_true, true_or, or_false, false_or, implies_true, true_implies, false_implies] <;> omega)), by rw [ht]; exact hP9, va_K.moved hW.alike hK9, hD9⟩, hS.F ht⟩) hS.2.2 dX8_sheet_36
    · skip
      have tc_41 : r_40.toInt = 0 := (fa_eq _ _).mp c_41
      refine lv_aload_n hx hb dX8_sheet_19 rfl (lv_at hl 1 rfl) ?_
      refine lv_ldc hx hb hown (hts _ (List.mem_of_getElem? (i := 6) rfl)) dX8_sheet_20 ?_
      have hPc := hP.sub (ws' := [(h0, .inr (6, [v0, v1, v2, v3, v4, .ref ph, .ref t0, v7])), (t0, .inl (tc, 7, .inl tf))]) [0, 1] rfl
      have hKc := hK.sub (tys' := [(tc, .int)]) [0] rfl
      have hDc := hD.sub (ws' := [(h0, .inr (6, [v0, v1, v2, v3, v4, .ref ph, .ref t0, v7])), (t0, .inl (tc, 7, .inl tf))]) [0, 1] (by decide) rfl
      have hFc := va_free (wc := [(h0, .inr (6, [v0, v1, v2, v3, v4, .ref ph, .ref t0, v7])), (t0, .inl (tc, 7, .inl tf))]) hD hS hA [0, 1] rfl
      refine va_calli (va_runV (As := [.int (-1000000001)]) (rest := []) ⟨hx, hb, hml, hown, hts⟩ (f_beyond l dC dI ad h0 v0 v1 v2 v3 v4 (.ref ph) t0 v7 tc tf s.heap.size ) (cwV 1 hts g_x_sheet_f_beyond_63 rfl rfl rfl (by decide +kernel) ⟨(Nat.le_of_ble_eq_true rfl), (Nat.le_of_ble_eq_true rfl)⟩) ⟨preM_blind, va_recv hKc hPc (ci := 6) (q0 := 0) rfl rfl, fun U hU hW => ⟨rfl, preM_at hU hW hPc hKc hDc hev⟩⟩ rfl rfl hl.1 rfl (lv_room (Nat.le_of_ble_eq_true rfl)) dX8_sheet_22 ⟨(Nat.le_of_ble_eq_true rfl), (Nat.le_of_ble_eq_true rfl)⟩) hS (fun q _ h => hFc q h) hFc (fun r_53 u t H1 locs ht hvm hw hB hz1 hk1 hS => ?_)
      obtain ⟨tg_54, hP1, hK1, hD1⟩ := hB
      rw [ht] at hP1
      have hK1 := va_K.moved hvm.symm hK1
      obtain ⟨hP, hD⟩ := va_join (wr := [(ph, .inl (pc, 4, .inr (.inr (.inr (.inr pf))))), (p0, .inr (0, [.int b0, .int z0, .ref n0])), (n0, .inl (nc0, 40, .inr (.inl g0))), (p1, .inr (0, [.int b1, .int z1, .ref n1])), (n1, .inl (nc1, 40, .inr (.inl g1))), (p2, .inr (0, [.int b2, .int z2, .ref n2])), (n2, .inl (nc2, 40, .inr (.inl g2))), (p3, .inr (0, [.int b3, .int z3, .ref n3])), (n3, .inl (nc3, 40, .inr (.inl g3)))]) (w1 := [(h0, .inr (6, [v0, v1, v2, v3, v4, .ref ph, .ref t0, v7])), (t0, .inl (tc, 7, .inl tg_54))]) hP hD [0, 1] [2, 3, 4, 5, 6, 7, 8, 9, 10] rfl rfl (by decide) (by decide) hk1 hFc hP1 hD1
      generalize H1 = H at hP hS ⊢
      have hP : va_P (dC, dI) vwCl [(ph, .inl (pc, 4, .inr (.inr (.inr (.inr pf))))), (p0, .inr (0, [.int b0, .int z0, .ref n0])), (n0, .inl (nc0, 40, .inr (.inl g0))), (p1, .inr (0, [.int b1, .int z1, .ref n1])), (n1, .inl (nc1, 40, .inr (.inl g1))), (p2, .inr (0, [.int b2, .int z2, .ref n2])), (n2, .inl (nc2, 40, .inr (.inl g2))), (p3, .inr (0, [.int b3, .int z3, .ref n3])), (n3, .inl (nc3, 40, .inr (.inl g3))), (h0, .inr (6, [v0, v1, v2, v3, v4, .ref ph, .ref t0, v7])), (t0, .inl (tc, 7, .inl tg_54))] H := hP
      have hD : va_D A [(ph, .inl (pc, 4, .inr (.inr (.inr (.inr pf))))), (p0, .inr (0, [.int b0, .int z0, .ref n0])), (n0, .inl (nc0, 40, .inr (.inl g0))), (p1, .inr (0, [.int b1, .int z1, .ref n1])), (n1, .inl (nc1, 40, .inr (.inl g1))), (p2, .inr (0, [.int b2, .int z2, .ref n2])), (n2, .inl (nc2, 40, .inr (.inl g2))), (p3, .inr (0, [.int b3, .int z3, .ref n3])), (n3, .inl (nc3, 40, .inr (.inl g3))), (h0, .inr (6, [v0, v1, v2, v3, v4, .ref ph, .ref t0, v7])), (t0, .inl (tc, 7, .inl tg_54))] := hD
      subst hw
      have hP9 := hP.sub (ws' := [(h0, .inr (6, [v0, v1, v2, v3, v4, .ref ph, .ref t0, v7])), (t0, .inl (tc, 7, .inl tg_54)), (ph, .inl (pc, 4, .inr (.inr (.inr (.inr pf))))), (p0, .inr (0, [.int b0, .int z0, .ref n0])), (n0, .inl (nc0, 40, .inr (.inl g0))), (p1, .inr (0, [.int b1, .int z1, .ref n1])), (n1, .inl (nc1, 40, .inr (.inl g1))), (p2, .inr (0, [.int b2, .int z2, .ref n2])), (n2, .inl (nc2, 40, .inr (.inl g2))), (p3, .inr (0, [.int b3, .int z3, .ref n3])), (n3, .inl (nc3, 40, .inr (.inl g3)))]) [9, 10, 0, 1, 2, 3, 4, 5, 6, 7, 8] rfl
      have hD9 := hD.sub (ws' := [(h0, .inr (6, [v0, v1, v2, v3, v4, .ref ph, .ref t0, v7])), (t0, .inl (tc, 7, .inl tg_54)), (ph, .inl (pc, 4, .inr (.inr (.inr (.inr pf))))), (p0, .inr (0, [.int b0, .int z0, .ref n0])), (n0, .inl (nc0, 40, .inr (.inl g0))), (p1, .inr (0, [.int b1, .int z1, .ref n1])), (n1, .inl (nc1, 40, .inr (.inl g1))), (p2, .inr (0, [.int b2, .int z2, .ref n2])), (n2, .inl (nc2, 40, .inr (.inl g2))), (p3, .inr (0, [.int b3, .int z3, .ref n3])), (n3, .inl (nc3, 40, .inr (.inl g3)))]) [9, 10, 0, 1, 2, 3, 4, 5, 6, 7, 8] (by decide) rfl
      have hK9 := hK.sub (tys' := [(tc, .int), (pc, .object "LampShapes$Paper"), (nc0, .long), (nc1, .long), (nc2, .long), (nc3, .long)]) [0, 1, 2, 3, 4, 5] rfl
      exact W.iret (v := ((-1000000001) : Int32)) hx hb hr (fun t ht hW => ⟨⟨((-1000000001) : Int32), (), rfl, trivial, tg_54, b0, z0, b1, z1, b2, z2, b3, z3, g0, g1, g2, g3, (by first | omega | decide | (simp only [fa_lt, fa_le, fa_eq, and_true, true_and, and_false, false_and, not_true_eq_false, not_false_eq_true, li_0, li_1, li_2, li_3, li_4, li_5, li_6, li_7, li_8, li_9, li_10, li_12, li_15, li_16, li_20, li_30, li_34, li_38, li_40, li_63, li_64, li_65, li_78, li_120, li_1000, li_4000, li_10000, li_11077, li_255, li_65535, li_m1, li_m2, li_m1000000001, li_m1000000002, li_m1000000003, li_m1000000004, li_m1000000005, li_m1000000006, li_m1000000007, or_true, true_or, or_false, false_or, implies_true, true_implies, false_implies] <;> omega)), (by first | omega | decide | (simp only [fa_lt, fa_le, fa_eq, and_true, true_and, and_false, false_and, not_true_eq_false, not_false_eq_true, li_0, li_1, li_2, li_3, li_4, li_5, li_6, li_7, li_8, li_9, li_10, li_12, li_15, li_16, li_20, li_30, li_34, li_38, li_40, li_63, li_64, li_65, li_78, li_120, li_1000, li_4000, li_10000, li_11077, li_255, li_65535, li_m1, li_m2, li_m1000000001, li_m1000000002, li_m1000000003, li_m1000000004, li_m1000000005, li_m1000000006, li_m1000000007, or_true, true_or, or_false, false_or, implies_true, true_implies, false_implies] <;> omega)), (by first | omega | decide | (simp only [fa_lt, fa_le, fa_eq, and_true, true_and, and_false, false_and, not_true_eq_false, not_false_eq_true, li_0, li_1, li_2, li_3, li_4, li_5, li_6, li_7, li_8, li_9, li_10, li_12, li_15, li_16, li_20, li_30, li_34, li_38, li_40, li_63, li_64, li_65, li_78, li_120, li_1000, li_4000, li_10000, li_11077, li_255, li_65535, li_m1, li_m2, li_m1000000001, li_m1000000002, li_m1000000003, li_m1000000004, li_m1000000005, li_m1000000006, li_m1000000007, or_true, true_or, or_false, false_or, implies_true, true_implies, false_implies] <;> omega)), (by first | omega | decide | (simp only [fa_lt, fa_le, fa_eq, and_true, true_and, and_false, false_and, not_true_eq_false, not_false_eq_true, li_0, li_1, li_2, li_3, li_4, li_5, li_6, li_7, li_8, li_9, li_10, li_12, li_15, li_16, li_20, li_30, li_34, li_38, li_40, li_63, li_64, li_65, li_78, li_120, li_1000, li_4000, li_10000, li_11077, li_255, li_65535, li_m1, li_m2, li_m1000000001, li_m1000000002, li_m1000000003, li_m1000000004, li_m1000000005, li_m1000000006, li_m1000000007, or_true, true_or, or_false, false_or, implies_true, true_implies, false_implies] <;> omega)), by rw [ht]; exact hP9, va_K.moved hW.alike hK9, hD9⟩, hS.F ht⟩) hS.2.2 dX8_sheet_25
  · skip
    refine Met.ofW (cc := cX8_sheet) (maxL := 5) (ret := (some .int)) (by decide) rfl ?_
    intro p e s m args below meth c s₁ B hml hv
    obtain ⟨rfl, hsz, hP, hK, hD0, hev⟩ := hv
    have hx := B.exec
    have hb := B.bytes
    have hr := B.returns
    have hts := atoms_spec (ws := w_x_sheet) B.pre
    have hown : s.vm.findClass RX8 = some m.cls := findClass_of_methodNamed B.named
    have hlocks := B.notSynchronized
    have inX8 : ∀ w ∈ wsX80, w ∈ w_x_sheet := fun w h => List.mem_cons_of_mem _ (List.mem_append_left _ (List.mem_append_right _ h))
    have inX2 : ∀ w ∈ wsX20, w ∈ w_x_sheet := fun w h => List.mem_cons_of_mem _ (List.mem_append_right _ h)
    subst hsz
    have hD := hD0.self (sz := s.heap.size)
    generalize hAe : va_A [(h0, .inr (6, [v0, v1, v2, v3, v4, .ref ph, .ref t0, v7])), (t0, .inl (tc, 7, .inl tf)), (ph, .inl (pc, 4, .inr (.inr (.inr (.inr pf))))), (p0, .inr (0, [.int b0, .int z0, .ref n0])), (n0, .inl (nc0, 40, .inr (.inl g0))), (p1, .inr (0, [.int b1, .int z1, .ref n1])), (n1, .inl (nc1, 40, .inr (.inl g1))), (p2, .inr (0, [.int b2, .int z2, .ref n2])), (n2, .inl (nc2, 40, .inr (.inl g2))), (p3, .inr (0, [.int b3, .int z3, .ref n3])), (n3, .inl (nc3, 40, .inr (.inl g3)))] s.heap.size = A at hD ⊢
    have hA : ∀ q : Nat, s.heap.size ≤ q → A q := fun q h => by rw [← hAe]; exact Or.inr h
    have hS : va_S A s.heap s.heap [] := va_S.rf
    have hP : va_P (dC, dI) vwCl [(h0, .inr (6, [v0, v1, v2, v3, v4, .ref ph, .ref t0, v7])), (t0, .inl (tc, 7, .inl tf)), (ph, .inl (pc, 4, .inr (.inr (.inr (.inr pf))))), (p0, .inr (0, [.int b0, .int z0, .ref n0])), (n0, .inl (nc0, 40, .inr (.inl g0))), (p1, .inr (0, [.int b1, .int z1, .ref n1])), (n1, .inl (nc1, 40, .inr (.inl g1))), (p2, .inr (0, [.int b2, .int z2, .ref n2])), (n2, .inl (nc2, 40, .inr (.inl g2))), (p3, .inr (0, [.int b3, .int z3, .ref n3])), (n3, .inl (nc3, 40, .inr (.inl g3)))] s.heap := hP
    have hl := lv_entry ([.ref h0, .int 3, .int b, .int n]) (n := 5) (Nat.le_of_ble_eq_true rfl)
    rw [lg_entry_eq]
    generalize (lg_sl ([.ref h0, .int 3, .int b, .int n]) ++ List.replicate (5 - (lg_sl ([.ref h0, .int 3, .int b, .int n])).length) Slot.unset).toArray = ls at hl ⊢
    have hl : lv_has ls 5 [(0, .ref h0), (1, .int 3), (2, .int b), (3, .int n)] := hl
    refine lv_aload_n hx hb dX8_sheet_0 rfl (lv_at hl 0 rfl) ?_
    refine lv_iload_n hx hb dX8_sheet_1 rfl (lv_at hl 1 rfl) ?_
    have hPc := hP.sub (ws' := [(h0, .inr (6, [v0, v1, v2, v3, v4, .ref ph, .ref t0, v7])), (ph, .inl (pc, 4, .inr (.inr (.inr (.inr pf)))))]) [0, 2] rfl
    have hKc := hK.sub (tys' := [(pc, .object "LampShapes$Paper")]) [1] rfl
    refine va_csq (W.runV (As := [.int 3]) (rest := []) ⟨hx, hb, hml, hown, hts⟩ (c_paperAt_3 l dC dI ad h0 v0 v1 v2 v3 v4 ph (.ref t0) v7 pc pf p3 hp3) (cwV 1 hts g_x_sheet_c_paperAt_3_256 rfl rfl rfl (by decide +kernel) ⟨(Nat.le_of_ble_eq_true rfl), (Nat.le_of_ble_eq_true rfl)⟩) ⟨preS_blind, va_recv hKc hPc (ci := 6) (q0 := 0) rfl rfl, fun U hU hW => ⟨rfl, preS_at hU hW hPc hKc hev⟩⟩ rfl rfl hl.1 rfl (lv_room (Nat.le_of_ble_eq_true rfl)) dX8_sheet_2 ⟨(Nat.le_of_ble_eq_true rfl), (Nat.le_of_ble_eq_true rfl)⟩) (fun r_55 hw => ?_)
    subst hw
    refine pp_tv (y := .ref p3) rfl ?_
    refine lv_astore (lv' := [(4, .ref p3), (0, .ref h0), (1, .int 3), (2, .int b), (3, .int n)]) hx hb dX8_sheet_5 hl (by decide) rfl (fun ls hl => ?_)
    refine lv_aload hx hb dX8_sheet_7 (lv_at hl 0 rfl) ?_
    refine lv_ifnull hx hb dX8_sheet_9 ?_
    refine lv_iload_n hx hb dX8_sheet_12 rfl (lv_at hl 3 rfl) ?_
    have hPc := hP.sub (ws' := []) [] rfl
    have hKc := hK.sub (tys' := []) [] rfl
    refine vp_callSi (W.runS (As := [.int b]) (rest := []) ⟨hx, hb, hml, hown, hts⟩ (x_isWidth l dC dI ad b ) (va_cwS 1 hts g_x_sheet_x_isWidth_260 rfl rfl rfl (by decide +kernel) ⟨(Nat.le_of_ble_eq_true rfl), (Nat.le_of_ble_eq_true rfl)⟩) ⟨preS_blind, fun U hU hW => ⟨rfl, preS_at hU hW hPc hKc hev⟩⟩ rfl rfl hl.1 rfl (lv_room (Nat.le_of_ble_eq_true rfl)) dX8_sheet_13 ⟨(Nat.le_of_ble_eq_true rfl), (Nat.le_of_ble_eq_true rfl)⟩) (fun r_56 hw => ?_)
    have hr_56 : (r_56.toInt = 0 ∧ ¬ b.toInt = 0 ∧ ¬ b.toInt = 8 ∧ ¬ b.toInt = 16 ∧ ¬ b.toInt = 64) ∨ (r_56.toInt = 1 ∧ (b.toInt = 0 ∨ b.toInt = 8 ∨ b.toInt = 16 ∨ b.toInt = 64)) := hw
    refine lv_if_ne (tgt := 26) hx hb dX8_sheet_16 (by decide) (fun c_57 => ?_) (fun c_57 => ?_)
    · skip
      have tc_57 : ¬ r_56.toInt = 0 := fun h => c_57 ((fa_eq _ _).mpr h)
      refine lv_iload_n hx hb dX8_sheet_26 rfl (lv_at hl 4 rfl) ?_
      refine lv_if_ge (tgt := 37) hx hb dX8_sheet_27 (by decide) (fun c_58 => ?_) (fun c_58 => ?_)
      · skip
        have tc_58 : 0 ≤ n.toInt := (fa_le _ _).mp c_58
        refine lv_iload_n hx hb dX8_sheet_37 rfl (lv_at hl 4 rfl) ?_
        refine lv_bipush (v := 40) hx hb dX8_sheet_38 (by decide) ?_
        refine lv_icmp_le (tgt := 50) hx hb dX8_sheet_40 (by decide) (fun c_59 => ?_) (fun c_59 => ?_)
        · skip
          have tc_59 : n.toInt ≤ 40 := (fa_le _ _).mp c_59
          refine lv_aload hx hb dX8_sheet_50 (lv_at hl 0 rfl) ?_
          refine lv_iload_n hx hb dX8_sheet_52 rfl (lv_at hl 3 rfl) ?_
          refine lv_iload_n hx hb dX8_sheet_53 rfl (lv_at hl 3 rfl) ?_
          refine lv_if_ne (tgt := 61) hx hb dX8_sheet_54 (by decide) (fun c_60 => ?_) (fun c_60 => ?_)
          · skip
            have tc_60 : ¬ b.toInt = 0 := fun h => c_60 ((fa_eq _ _).mpr h)
            refine lv_iload_n hx hb dX8_sheet_61 rfl (lv_at hl 4 rfl) ?_
            have hPc := hP.sub (ws' := [(p3, .inr (0, [.int b3, .int z3, .ref n3])), (n3, .inl (nc3, 40, .inr (.inl g3)))]) [9, 10] rfl
            have hKc := hK.sub (tys' := [(nc3, .long)]) [5] rfl
            have hDc := hD.sub (ws' := [(p3, .inr (0, [.int b3, .int z3, .ref n3])), (n3, .inl (nc3, 40, .inr (.inl g3)))]) [9, 10] (by decide) rfl
            have hFc := va_free (wc := [(p3, .inr (0, [.int b3, .int z3, .ref n3])), (n3, .inl (nc3, 40, .inr (.inl g3)))]) hD hS hA [9, 10] rfl
            refine va_callv (va_runV (As := [.int b, .int n]) (rest := []) ⟨hx, hb, hml, hown, hts⟩ (p_renew l dC dI ad p3 b n (.int b3) (.int z3) n3 nc3 g3 s.heap.size ) (cwV 2 hts g_x_sheet_p_renew_263 rfl rfl rfl (by decide +kernel) ⟨(Nat.le_of_ble_eq_true rfl), (Nat.le_of_ble_eq_true rfl)⟩) ⟨preM_blind, va_recv hKc hPc (ci := 0) (q0 := 0) rfl rfl, fun U hU hW => ⟨rfl, preM_at hU hW hPc hKc hDc hev⟩⟩ rfl rfl hl.1 rfl (lv_room (Nat.le_of_ble_eq_true rfl)) dX8_sheet_62 ⟨(Nat.le_of_ble_eq_true rfl), (Nat.le_of_ble_eq_true rfl)⟩) hS (fun q _ h => hFc q h) hFc (fun u t H1 locs ht hvm hw hB hz1 hk1 hS => ?_)
            obtain ⟨g_62, hP1, hK1, hD1⟩ := hB
            rw [ht] at hP1
            have hK1 := va_K.moved hvm.symm hK1
            obtain ⟨hP, hD⟩ := va_join (wr := [(h0, .inr (6, [v0, v1, v2, v3, v4, .ref ph, .ref t0, v7])), (t0, .inl (tc, 7, .inl tf)), (ph, .inl (pc, 4, .inr (.inr (.inr (.inr pf))))), (p0, .inr (0, [.int b0, .int z0, .ref n0])), (n0, .inl (nc0, 40, .inr (.inl g0))), (p1, .inr (0, [.int b1, .int z1, .ref n1])), (n1, .inl (nc1, 40, .inr (.inl g1))), (p2, .inr (0, [.int b2, .int z2, .ref n2])), (n2, .inl (nc2, 40, .inr (.inl g2)))]) (w1 := [(p3, .inr (0, [.int b, .int n, .ref n3])), (n3, .inl (nc3, 40, .inr (.inl g_62)))]) hP hD [9, 10] [0, 1, 2, 3, 4, 5, 6, 7, 8] rfl rfl (by decide) (by decide) hk1 hFc hP1 hD1
            generalize H1 = H at hP hS ⊢
            have hP : va_P (dC, dI) vwCl [(h0, .inr (6, [v0, v1, v2, v3, v4, .ref ph, .ref t0, v7])), (t0, .inl (tc, 7, .inl tf)), (ph, .inl (pc, 4, .inr (.inr (.inr (.inr pf))))), (p0, .inr (0, [.int b0, .int z0, .ref n0])), (n0, .inl (nc0, 40, .inr (.inl g0))), (p1, .inr (0, [.int b1, .int z1, .ref n1])), (n1, .inl (nc1, 40, .inr (.inl g1))), (p2, .inr (0, [.int b2, .int z2, .ref n2])), (n2, .inl (nc2, 40, .inr (.inl g2))), (p3, .inr (0, [.int b, .int n, .ref n3])), (n3, .inl (nc3, 40, .inr (.inl g_62)))] H := hP
            have hD : va_D A [(h0, .inr (6, [v0, v1, v2, v3, v4, .ref ph, .ref t0, v7])), (t0, .inl (tc, 7, .inl tf)), (ph, .inl (pc, 4, .inr (.inr (.inr (.inr pf))))), (p0, .inr (0, [.int b0, .int z0, .ref n0])), (n0, .inl (nc0, 40, .inr (.inl g0))), (p1, .inr (0, [.int b1, .int z1, .ref n1])), (n1, .inl (nc1, 40, .inr (.inl g1))), (p2, .inr (0, [.int b2, .int z2, .ref n2])), (n2, .inl (nc2, 40, .inr (.inl g2))), (p3, .inr (0, [.int b, .int n, .ref n3])), (n3, .inl (nc3, 40, .inr (.inl g_62)))] := hD
            refine lv_aload hx hb dX8_sheet_65 (lv_at hl 0 rfl) ?_
            refine va_getN (D := (dC, dI)) (ci := 0) (v := .int n) (C := RX2) (T := TX2) (N := 3) hx hb hts inX2 hown hK hP 9 rfl rfl 1 (by decide) (ev_nest hev 22 rfl) (fun _ h9 => h9) rfl dX8_sheet_67 ?_
            have hP9 := hP.sub (ws' := [(h0, .inr (6, [v0, v1, v2, v3, v4, .ref ph, .ref t0, v7])), (t0, .inl (tc, 7, .inl tf)), (ph, .inl (pc, 4, .inr (.inr (.inr (.inr pf))))), (p0, .inr (0, [.int b0, .int z0, .ref n0])), (n0, .inl (nc0, 40, .inr (.inl g0))), (p1, .inr (0, [.int b1, .int z1, .ref n1])), (n1, .inl (nc1, 40, .inr (.inl g1))), (p2, .inr (0, [.int b2, .int z2, .ref n2])), (n2, .inl (nc2, 40, .inr (.inl g2))), (p3, .inr (0, [.int b, .int n, .ref n3])), (n3, .inl (nc3, 40, .inr (.inl g_62)))]) [0, 1, 2, 3, 4, 5, 6, 7, 8, 9, 10] rfl
            have hD9 := hD.sub (ws' := [(h0, .inr (6, [v0, v1, v2, v3, v4, .ref ph, .ref t0, v7])), (t0, .inl (tc, 7, .inl tf)), (ph, .inl (pc, 4, .inr (.inr (.inr (.inr pf))))), (p0, .inr (0, [.int b0, .int z0, .ref n0])), (n0, .inl (nc0, 40, .inr (.inl g0))), (p1, .inr (0, [.int b1, .int z1, .ref n1])), (n1, .inl (nc1, 40, .inr (.inl g1))), (p2, .inr (0, [.int b2, .int z2, .ref n2])), (n2, .inl (nc2, 40, .inr (.inl g2))), (p3, .inr (0, [.int b, .int n, .ref n3])), (n3, .inl (nc3, 40, .inr (.inl g_62)))]) [0, 1, 2, 3, 4, 5, 6, 7, 8, 9, 10] (by decide) rfl
            have hK9 := hK.sub (tys' := [(tc, .int), (pc, .object "LampShapes$Paper"), (nc0, .long), (nc1, .long), (nc2, .long), (nc3, .long)]) [0, 1, 2, 3, 4, 5] rfl
            exact W.iret (v := n) hx hb hr (fun t ht hW => ⟨⟨n, (), rfl, trivial, tf, b0, z0, b1, z1, b2, z2, b, n, g0, g1, g2, g_62, (by first | omega | decide | (simp only [fa_lt, fa_le, fa_eq, and_true, true_and, and_false, false_and, not_true_eq_false, not_false_eq_true, li_0, li_1, li_2, li_3, li_4, li_5, li_6, li_7, li_8, li_9, li_10, li_12, li_15, li_16, li_20, li_30, li_34, li_38, li_40, li_63, li_64, li_65, li_78, li_120, li_1000, li_4000, li_10000, li_11077, li_255, li_65535, li_m1, li_m2, li_m1000000001, li_m1000000002, li_m1000000003, li_m1000000004, li_m1000000005, li_m1000000006, li_m1000000007, or_true, true_or, or_false, false_or, implies_true, true_implies, false_implies] <;> omega)), (by first | omega | decide | (simp only [fa_lt, fa_le, fa_eq, and_true, true_and, and_false, false_and, not_true_eq_false, not_false_eq_true, li_0, li_1, li_2, li_3, li_4, li_5, li_6, li_7, li_8, li_9, li_10, li_12, li_15, li_16, li_20, li_30, li_34, li_38, li_40, li_63, li_64, li_65, li_78, li_120, li_1000, li_4000, li_10000, li_11077, li_255, li_65535, li_m1, li_m2, li_m1000000001, li_m1000000002, li_m1000000003, li_m1000000004, li_m1000000005, li_m1000000006, li_m1000000007, or_true, true_or, or_false, false_or, implies_true, true_implies, false_implies] <;> omega)), (by first | omega | decide | (simp only [fa_lt, fa_le, fa_eq, and_true, true_and, and_false, false_and, not_true_eq_false, not_false_eq_true, li_0, li_1, li_2, li_3, li_4, li_5, li_6, li_7, li_8, li_9, li_10, li_12, li_15, li_16, li_20, li_30, li_34, li_38, li_40, li_63, li_64, li_65, li_78, li_120, li_1000, li_4000, li_10000, li_11077, li_255, li_65535, li_m1, li_m2, li_m1000000001, li_m1000000002, li_m1000000003, li_m1000000004, li_m1000000005, li_m1000000006, li_m1000000007, or_true, true_or, or_false, false_or, implies_true, true_implies, false_implies] <;> omega)), (by first | omega | decide | (simp only [fa_lt, fa_le, fa_eq, and_true, true_and, and_false, false_and, not_true_eq_false, not_false_eq_true, li_0, li_1, li_2, li_3, li_4, li_5, li_6, li_7, li_8, li_9, li_10, li_12, li_15, li_16, li_20, li_30, li_34, li_38, li_40, li_63, li_64, li_65, li_78, li_120, li_1000, li_4000, li_10000, li_11077, li_255, li_65535, li_m1, li_m2, li_m1000000001, li_m1000000002, li_m1000000003, li_m1000000004, li_m1000000005, li_m1000000006, li_m1000000007, or_true, true_or, or_false, false_or, implies_true, true_implies, false_implies] <;> omega)), by rw [ht]; exact hP9, va_K.moved hW.alike hK9, hD9⟩, hS.F ht⟩) hS.2.2 dX8_sheet_70
          · skip
            have tc_60 : b.toInt = 0 := (fa_eq _ _).mp c_60
            refine lv_iconst (v := 0) hx hb dX8_sheet_57 (by decide) ?_
            refine lv_goto (tgt := 62) hx hb dX8_sheet_58 (by decide) ?_
            have hPc := hP.sub (ws' := [(p3, .inr (0, [.int b3, .int z3, .ref n3])), (n3, .inl (nc3, 40, .inr (.inl g3)))]) [9, 10] rfl
            have hKc := hK.sub (tys' := [(nc3, .long)]) [5] rfl
            have hDc := hD.sub (ws' := [(p3, .inr (0, [.int b3, .int z3, .ref n3])), (n3, .inl (nc3, 40, .inr (.inl g3)))]) [9, 10] (by decide) rfl
            have hFc := va_free (wc := [(p3, .inr (0, [.int b3, .int z3, .ref n3])), (n3, .inl (nc3, 40, .inr (.inl g3)))]) hD hS hA [9, 10] rfl
            refine va_callv (va_runV (As := [.int b, .int 0]) (rest := []) ⟨hx, hb, hml, hown, hts⟩ (p_renew l dC dI ad p3 b 0 (.int b3) (.int z3) n3 nc3 g3 s.heap.size ) (cwV 2 hts g_x_sheet_p_renew_263 rfl rfl rfl (by decide +kernel) ⟨(Nat.le_of_ble_eq_true rfl), (Nat.le_of_ble_eq_true rfl)⟩) ⟨preM_blind, va_recv hKc hPc (ci := 0) (q0 := 0) rfl rfl, fun U hU hW => ⟨rfl, preM_at hU hW hPc hKc hDc hev⟩⟩ rfl rfl hl.1 rfl (lv_room (Nat.le_of_ble_eq_true rfl)) dX8_sheet_62 ⟨(Nat.le_of_ble_eq_true rfl), (Nat.le_of_ble_eq_true rfl)⟩) hS (fun q _ h => hFc q h) hFc (fun u t H1 locs ht hvm hw hB hz1 hk1 hS => ?_)
            obtain ⟨g_64, hP1, hK1, hD1⟩ := hB
            rw [ht] at hP1
            have hK1 := va_K.moved hvm.symm hK1
            obtain ⟨hP, hD⟩ := va_join (wr := [(h0, .inr (6, [v0, v1, v2, v3, v4, .ref ph, .ref t0, v7])), (t0, .inl (tc, 7, .inl tf)), (ph, .inl (pc, 4, .inr (.inr (.inr (.inr pf))))), (p0, .inr (0, [.int b0, .int z0, .ref n0])), (n0, .inl (nc0, 40, .inr (.inl g0))), (p1, .inr (0, [.int b1, .int z1, .ref n1])), (n1, .inl (nc1, 40, .inr (.inl g1))), (p2, .inr (0, [.int b2, .int z2, .ref n2])), (n2, .inl (nc2, 40, .inr (.inl g2)))]) (w1 := [(p3, .inr (0, [.int b, .int 0, .ref n3])), (n3, .inl (nc3, 40, .inr (.inl g_64)))]) hP hD [9, 10] [0, 1, 2, 3, 4, 5, 6, 7, 8] rfl rfl (by decide) (by decide) hk1 hFc hP1 hD1
            generalize H1 = H at hP hS ⊢
            have hP : va_P (dC, dI) vwCl [(h0, .inr (6, [v0, v1, v2, v3, v4, .ref ph, .ref t0, v7])), (t0, .inl (tc, 7, .inl tf)), (ph, .inl (pc, 4, .inr (.inr (.inr (.inr pf))))), (p0, .inr (0, [.int b0, .int z0, .ref n0])), (n0, .inl (nc0, 40, .inr (.inl g0))), (p1, .inr (0, [.int b1, .int z1, .ref n1])), (n1, .inl (nc1, 40, .inr (.inl g1))), (p2, .inr (0, [.int b2, .int z2, .ref n2])), (n2, .inl (nc2, 40, .inr (.inl g2))), (p3, .inr (0, [.int b, .int 0, .ref n3])), (n3, .inl (nc3, 40, .inr (.inl g_64)))] H := hP
            have hD : va_D A [(h0, .inr (6, [v0, v1, v2, v3, v4, .ref ph, .ref t0, v7])), (t0, .inl (tc, 7, .inl tf)), (ph, .inl (pc, 4, .inr (.inr (.inr (.inr pf))))), (p0, .inr (0, [.int b0, .int z0, .ref n0])), (n0, .inl (nc0, 40, .inr (.inl g0))), (p1, .inr (0, [.int b1, .int z1, .ref n1])), (n1, .inl (nc1, 40, .inr (.inl g1))), (p2, .inr (0, [.int b2, .int z2, .ref n2])), (n2, .inl (nc2, 40, .inr (.inl g2))), (p3, .inr (0, [.int b, .int 0, .ref n3])), (n3, .inl (nc3, 40, .inr (.inl g_64)))] := hD
            refine lv_aload hx hb dX8_sheet_65 (lv_at hl 0 rfl) ?_
            refine va_getN (D := (dC, dI)) (ci := 0) (v := .int 0) (C := RX2) (T := TX2) (N := 3) hx hb hts inX2 hown hK hP 9 rfl rfl 1 (by decide) (ev_nest hev 22 rfl) (fun _ h9 => h9) rfl dX8_sheet_67 ?_
            have hP9 := hP.sub (ws' := [(h0, .inr (6, [v0, v1, v2, v3, v4, .ref ph, .ref t0, v7])), (t0, .inl (tc, 7, .inl tf)), (ph, .inl (pc, 4, .inr (.inr (.inr (.inr pf))))), (p0, .inr (0, [.int b0, .int z0, .ref n0])), (n0, .inl (nc0, 40, .inr (.inl g0))), (p1, .inr (0, [.int b1, .int z1, .ref n1])), (n1, .inl (nc1, 40, .inr (.inl g1))), (p2, .inr (0, [.int b2, .int z2, .ref n2])), (n2, .inl (nc2, 40, .inr (.inl g2))), (p3, .inr (0, [.int b, .int 0, .ref n3])), (n3, .inl (nc3, 40, .inr (.inl g_64)))]) [0, 1, 2, 3, 4, 5, 6, 7, 8, 9, 10] rfl
            have hD9 := hD.sub (ws' := [(h0, .inr (6, [v0, v1, v2, v3, v4, .ref ph, .ref t0, v7])), (t0, .inl (tc, 7, .inl tf)), (ph, .inl (pc, 4, .inr (.inr (.inr (.inr pf))))), (p0, .inr (0, [.int b0, .int z0, .ref n0])), (n0, .inl (nc0, 40, .inr (.inl g0))), (p1, .inr (0, [.int b1, .int z1, .ref n1])), (n1, .inl (nc1, 40, .inr (.inl g1))), (p2, .inr (0, [.int b2, .int z2, .ref n2])), (n2, .inl (nc2, 40, .inr (.inl g2))), (p3, .inr (0, [.int b, .int 0, .ref n3])), (n3, .inl (nc3, 40, .inr (.inl g_64)))]) [0, 1, 2, 3, 4, 5, 6, 7, 8, 9, 10] (by decide) rfl
            have hK9 := hK.sub (tys' := [(tc, .int), (pc, .object "LampShapes$Paper"), (nc0, .long), (nc1, .long), (nc2, .long), (nc3, .long)]) [0, 1, 2, 3, 4, 5] rfl
            exact W.iret (v := (0 : Int32)) hx hb hr (fun t ht hW => ⟨⟨(0 : Int32), (), rfl, trivial, tf, b0, z0, b1, z1, b2, z2, b, 0, g0, g1, g2, g_64, (by first | omega | decide | (simp only [fa_lt, fa_le, fa_eq, and_true, true_and, and_false, false_and, not_true_eq_false, not_false_eq_true, li_0, li_1, li_2, li_3, li_4, li_5, li_6, li_7, li_8, li_9, li_10, li_12, li_15, li_16, li_20, li_30, li_34, li_38, li_40, li_63, li_64, li_65, li_78, li_120, li_1000, li_4000, li_10000, li_11077, li_255, li_65535, li_m1, li_m2, li_m1000000001, li_m1000000002, li_m1000000003, li_m1000000004, li_m1000000005, li_m1000000006, li_m1000000007, or_true, true_or, or_false, false_or, implies_true, true_implies, false_implies] <;> omega)), (by first | omega | decide | (simp only [fa_lt, fa_le, fa_eq, and_true, true_and, and_false, false_and, not_true_eq_false, not_false_eq_true, li_0, li_1, li_2, li_3, li_4, li_5, li_6, li_7, li_8, li_9, li_10, li_12, li_15, li_16, li_20, li_30, li_34, li_38, li_40, li_63, li_64, li_65, li_78, li_120, li_1000, li_4000, li_10000, li_11077, li_255, li_65535, li_m1, li_m2, li_m1000000001, li_m1000000002, li_m1000000003, li_m1000000004, li_m1000000005, li_m1000000006, li_m1000000007, or_true, true_or, or_false, false_or, implies_true, true_implies, false_implies] <;> omega)), (by first | omega | decide | (simp only [fa_lt, fa_le, fa_eq, and_true, true_and, and_false, false_and, not_true_eq_false, not_false_eq_true, li_0, li_1, li_2, li_3, li_4, li_5, li_6, li_7, li_8, li_9, li_10, li_12, li_15, li_16, li_20, li_30, li_34, li_38, li_40, li_63, li_64, li_65, li_78, li_120, li_1000, li_4000, li_10000, li_11077, li_255, li_65535, li_m1, li_m2, li_m1000000001, li_m1000000002, li_m1000000003, li_m1000000004, li_m1000000005, li_m1000000006, li_m1000000007, or_true, true_or, or_false, false_or, implies_true, true_implies, false_implies] <;> omega)), (by first | omega | decide | (simp only [fa_lt, fa_le, fa_eq, and_true, true_and, and_false, false_and, not_true_eq_false, not_false_eq_true, li_0, li_1, li_2, li_3, li_4, li_5, li_6, li_7, li_8, li_9, li_10, li_12, li_15, li_16, li_20, li_30, li_34, li_38, li_40, li_63, li_64, li_65, li_78, li_120, li_1000, li_4000, li_10000, li_11077, li_255, li_65535, li_m1, li_m2, li_m1000000001, li_m1000000002, li_m1000000003, li_m1000000004, li_m1000000005, li_m1000000006, li_m1000000007, or_true, true_or, or_false, false_or, implies_true, true_implies, false_implies] <;> omega)), by rw [ht]; exact hP9, va_K.moved hW.alike hK9, hD9⟩, hS.F ht⟩) hS.2.2 dX8_sheet_70
        · skip
          have tc_59 : ¬ n.toInt ≤ 40 := fun h => c_59 ((fa_le _ _).mpr h)
          refine lv_aload_n hx hb dX8_sheet_43 rfl (lv_at hl 1 rfl) ?_
          refine lv_ldc hx hb hown (hts _ (List.mem_of_getElem? (i := 6) rfl)) dX8_sheet_44 ?_
          have hPc := hP.sub (ws' := [(h0, .inr (6, [v0, v1, v2, v3, v4, .ref ph, .ref t0, v7])), (t0, .inl (tc, 7, .inl tf))]) [0, 1] rfl
          have hKc := hK.sub (tys' := [(tc, .int)]) [0] rfl
          have hDc := hD.sub (ws' := [(h0, .inr (6, [v0, v1, v2, v3, v4, .ref ph, .ref t0, v7])), (t0, .inl (tc, 7, .inl tf))]) [0, 1] (by decide) rfl
          have hFc := va_free (wc := [(h0, .inr (6, [v0, v1, v2, v3, v4, .ref ph, .ref t0, v7])), (t0, .inl (tc, 7, .inl tf))]) hD hS hA [0, 1] rfl
          refine va_calli (va_runV (As := [.int (-1000000001)]) (rest := []) ⟨hx, hb, hml, hown, hts⟩ (f_beyond l dC dI ad h0 v0 v1 v2 v3 v4 (.ref ph) t0 v7 tc tf s.heap.size ) (cwV 1 hts g_x_sheet_f_beyond_63 rfl rfl rfl (by decide +kernel) ⟨(Nat.le_of_ble_eq_true rfl), (Nat.le_of_ble_eq_true rfl)⟩) ⟨preM_blind, va_recv hKc hPc (ci := 6) (q0 := 0) rfl rfl, fun U hU hW => ⟨rfl, preM_at hU hW hPc hKc hDc hev⟩⟩ rfl rfl hl.1 rfl (lv_room (Nat.le_of_ble_eq_true rfl)) dX8_sheet_46 ⟨(Nat.le_of_ble_eq_true rfl), (Nat.le_of_ble_eq_true rfl)⟩) hS (fun q _ h => hFc q h) hFc (fun r_65 u t H1 locs ht hvm hw hB hz1 hk1 hS => ?_)
          obtain ⟨tg_66, hP1, hK1, hD1⟩ := hB
          rw [ht] at hP1
          have hK1 := va_K.moved hvm.symm hK1
          obtain ⟨hP, hD⟩ := va_join (wr := [(ph, .inl (pc, 4, .inr (.inr (.inr (.inr pf))))), (p0, .inr (0, [.int b0, .int z0, .ref n0])), (n0, .inl (nc0, 40, .inr (.inl g0))), (p1, .inr (0, [.int b1, .int z1, .ref n1])), (n1, .inl (nc1, 40, .inr (.inl g1))), (p2, .inr (0, [.int b2, .int z2, .ref n2])), (n2, .inl (nc2, 40, .inr (.inl g2))), (p3, .inr (0, [.int b3, .int z3, .ref n3])), (n3, .inl (nc3, 40, .inr (.inl g3)))]) (w1 := [(h0, .inr (6, [v0, v1, v2, v3, v4, .ref ph, .ref t0, v7])), (t0, .inl (tc, 7, .inl tg_66))]) hP hD [0, 1] [2, 3, 4, 5, 6, 7, 8, 9, 10] rfl rfl (by decide) (by decide) hk1 hFc hP1 hD1
          generalize H1 = H at hP hS ⊢
          have hP : va_P (dC, dI) vwCl [(ph, .inl (pc, 4, .inr (.inr (.inr (.inr pf))))), (p0, .inr (0, [.int b0, .int z0, .ref n0])), (n0, .inl (nc0, 40, .inr (.inl g0))), (p1, .inr (0, [.int b1, .int z1, .ref n1])), (n1, .inl (nc1, 40, .inr (.inl g1))), (p2, .inr (0, [.int b2, .int z2, .ref n2])), (n2, .inl (nc2, 40, .inr (.inl g2))), (p3, .inr (0, [.int b3, .int z3, .ref n3])), (n3, .inl (nc3, 40, .inr (.inl g3))), (h0, .inr (6, [v0, v1, v2, v3, v4, .ref ph, .ref t0, v7])), (t0, .inl (tc, 7, .inl tg_66))] H := hP
          have hD : va_D A [(ph, .inl (pc, 4, .inr (.inr (.inr (.inr pf))))), (p0, .inr (0, [.int b0, .int z0, .ref n0])), (n0, .inl (nc0, 40, .inr (.inl g0))), (p1, .inr (0, [.int b1, .int z1, .ref n1])), (n1, .inl (nc1, 40, .inr (.inl g1))), (p2, .inr (0, [.int b2, .int z2, .ref n2])), (n2, .inl (nc2, 40, .inr (.inl g2))), (p3, .inr (0, [.int b3, .int z3, .ref n3])), (n3, .inl (nc3, 40, .inr (.inl g3))), (h0, .inr (6, [v0, v1, v2, v3, v4, .ref ph, .ref t0, v7])), (t0, .inl (tc, 7, .inl tg_66))] := hD
          subst hw
          have hP9 := hP.sub (ws' := [(h0, .inr (6, [v0, v1, v2, v3, v4, .ref ph, .ref t0, v7])), (t0, .inl (tc, 7, .inl tg_66)), (ph, .inl (pc, 4, .inr (.inr (.inr (.inr pf))))), (p0, .inr (0, [.int b0, .int z0, .ref n0])), (n0, .inl (nc0, 40, .inr (.inl g0))), (p1, .inr (0, [.int b1, .int z1, .ref n1])), (n1, .inl (nc1, 40, .inr (.inl g1))), (p2, .inr (0, [.int b2, .int z2, .ref n2])), (n2, .inl (nc2, 40, .inr (.inl g2))), (p3, .inr (0, [.int b3, .int z3, .ref n3])), (n3, .inl (nc3, 40, .inr (.inl g3)))]) [9, 10, 0, 1, 2, 3, 4, 5, 6, 7, 8] rfl
          have hD9 := hD.sub (ws' := [(h0, .inr (6, [v0, v1, v2, v3, v4, .ref ph, .ref t0, v7])), (t0, .inl (tc, 7, .inl tg_66)), (ph, .inl (pc, 4, .inr (.inr (.inr (.inr pf))))), (p0, .inr (0, [.int b0, .int z0, .ref n0])), (n0, .inl (nc0, 40, .inr (.inl g0))), (p1, .inr (0, [.int b1, .int z1, .ref n1])), (n1, .inl (nc1, 40, .inr (.inl g1))), (p2, .inr (0, [.int b2, .int z2, .ref n2])), (n2, .inl (nc2, 40, .inr (.inl g2))), (p3, .inr (0, [.int b3, .int z3, .ref n3])), (n3, .inl (nc3, 40, .inr (.inl g3)))]) [9, 10, 0, 1, 2, 3, 4, 5, 6, 7, 8] (by decide) rfl
          have hK9 := hK.sub (tys' := [(tc, .int), (pc, .object "LampShapes$Paper"), (nc0, .long), (nc1, .long), (nc2, .long), (nc3, .long)]) [0, 1, 2, 3, 4, 5] rfl
          exact W.iret (v := ((-1000000001) : Int32)) hx hb hr (fun t ht hW => ⟨⟨((-1000000001) : Int32), (), rfl, trivial, tg_66, b0, z0, b1, z1, b2, z2, b3, z3, g0, g1, g2, g3, (by first | omega | decide | (simp only [fa_lt, fa_le, fa_eq, and_true, true_and, and_false, false_and, not_true_eq_false, not_false_eq_true, li_0, li_1, li_2, li_3, li_4, li_5, li_6, li_7, li_8, li_9, li_10, li_12, li_15, li_16, li_20, li_30, li_34, li_38, li_40, li_63, li_64, li_65, li_78, li_120, li_1000, li_4000, li_10000, li_11077, li_255, li_65535, li_m1, li_m2, li_m1000000001, li_m1000000002, li_m1000000003, li_m1000000004, li_m1000000005, li_m1000000006, li_m1000000007, or_true, true_or, or_false, false_or, implies_true, true_implies, false_implies] <;> omega)), (by first | omega | decide | (simp only [fa_lt, fa_le, fa_eq, and_true, true_and, and_false, false_and, not_true_eq_false, not_false_eq_true, li_0, li_1, li_2, li_3, li_4, li_5, li_6, li_7, li_8, li_9, li_10, li_12, li_15, li_16, li_20, li_30, li_34, li_38, li_40, li_63, li_64, li_65, li_78, li_120, li_1000, li_4000, li_10000, li_11077, li_255, li_65535, li_m1, li_m2, li_m1000000001, li_m1000000002, li_m1000000003, li_m1000000004, li_m1000000005, li_m1000000006, li_m1000000007, or_true, true_or, or_false, false_or, implies_true, true_implies, false_implies] <;> omega)), (by first | omega | decide | (simp only [fa_lt, fa_le, fa_eq, and_true, true_and, and_false, false_and, not_true_eq_false, not_false_eq_true, li_0, li_1, li_2, li_3, li_4, li_5, li_6, li_7, li_8, li_9, li_10, li_12, li_15, li_16, li_20, li_30, li_34, li_38, li_40, li_63, li_64, li_65, li_78, li_120, li_1000, li_4000, li_10000, li_11077, li_255, li_65535, li_m1, li_m2, li_m1000000001, li_m1000000002, li_m1000000003, li_m1000000004, li_m1000000005, li_m1000000006, li_m1000000007, or_true, true_or, or_false, false_or, implies_true, true_implies, false_implies] <;> omega)), (by first | omega | decide | (simp only [fa_lt, fa_le, fa_eq, and_true, true_and, and_false, false_and, not_true_eq_false, not_false_eq_true, li_0, li_1, li_2, li_3, li_4, li_5, li_6, li_7, li_8, li_9, li_10, li_12, li_15, li_16, li_20, li_30, li_34, li_38, li_40, li_63, li_64, li_65, li_78, li_120, li_1000, li_4000, li_10000, li_11077, li_255, li_65535, li_m1, li_m2, li_m1000000001, li_m1000000002, li_m1000000003, li_m1000000004, li_m1000000005, li_m1000000006, li_m1000000007, or_true, true_or, or_false, false_or, implies_true, true_implies, false_implies] <;> omega)), by rw [ht]; exact hP9, va_K.moved hW.alike hK9, hD9⟩, hS.F ht⟩) hS.2.2 dX8_sheet_49
      · skip
        have tc_58 : ¬ 0 ≤ n.toInt := fun h => c_58 ((fa_le _ _).mpr h)
        refine lv_aload_n hx hb dX8_sheet_30 rfl (lv_at hl 1 rfl) ?_
        refine lv_ldc hx hb hown (hts _ (List.mem_of_getElem? (i := 24) rfl)) dX8_sheet_31 ?_
        have hPc := hP.sub (ws' := [(h0, .inr (6, [v0, v1, v2, v3, v4, .ref ph, .ref t0, v7])), (t0, .inl (tc, 7, .inl tf))]) [0, 1] rfl
        have hKc := hK.sub (tys' := [(tc, .int)]) [0] rfl
        have hDc := hD.sub (ws' := [(h0, .inr (6, [v0, v1, v2, v3, v4, .ref ph, .ref t0, v7])), (t0, .inl (tc, 7, .inl tf))]) [0, 1] (by decide) rfl
        have hFc := va_free (wc := [(h0, .inr (6, [v0, v1, v2, v3, v4, .ref ph, .ref t0, v7])), (t0, .inl (tc, 7, .inl tf))]) hD hS hA [0, 1] rfl
        refine va_calli (va_runV (As := [.int (-1000000007)]) (rest := []) ⟨hx, hb, hml, hown, hts⟩ (f_size l dC dI ad h0 v0 v1 v2 v3 v4 (.ref ph) t0 v7 tc tf s.heap.size ) (cwV 1 hts g_x_sheet_f_size_63 rfl rfl rfl (by decide +kernel) ⟨(Nat.le_of_ble_eq_true rfl), (Nat.le_of_ble_eq_true rfl)⟩) ⟨preM_blind, va_recv hKc hPc (ci := 6) (q0 := 0) rfl rfl, fun U hU hW => ⟨rfl, preM_at hU hW hPc hKc hDc hev⟩⟩ rfl rfl hl.1 rfl (lv_room (Nat.le_of_ble_eq_true rfl)) dX8_sheet_33 ⟨(Nat.le_of_ble_eq_true rfl), (Nat.le_of_ble_eq_true rfl)⟩) hS (fun q _ h => hFc q h) hFc (fun r_67 u t H1 locs ht hvm hw hB hz1 hk1 hS => ?_)
        obtain ⟨tg_68, hP1, hK1, hD1⟩ := hB
        rw [ht] at hP1
        have hK1 := va_K.moved hvm.symm hK1
        obtain ⟨hP, hD⟩ := va_join (wr := [(ph, .inl (pc, 4, .inr (.inr (.inr (.inr pf))))), (p0, .inr (0, [.int b0, .int z0, .ref n0])), (n0, .inl (nc0, 40, .inr (.inl g0))), (p1, .inr (0, [.int b1, .int z1, .ref n1])), (n1, .inl (nc1, 40, .inr (.inl g1))), (p2, .inr (0, [.int b2, .int z2, .ref n2])), (n2, .inl (nc2, 40, .inr (.inl g2))), (p3, .inr (0, [.int b3, .int z3, .ref n3])), (n3, .inl (nc3, 40, .inr (.inl g3)))]) (w1 := [(h0, .inr (6, [v0, v1, v2, v3, v4, .ref ph, .ref t0, v7])), (t0, .inl (tc, 7, .inl tg_68))]) hP hD [0, 1] [2, 3, 4, 5, 6, 7, 8, 9, 10] rfl rfl (by decide) (by decide) hk1 hFc hP1 hD1
        generalize H1 = H at hP hS ⊢
        have hP : va_P (dC, dI) vwCl [(ph, .inl (pc, 4, .inr (.inr (.inr (.inr pf))))), (p0, .inr (0, [.int b0, .int z0, .ref n0])), (n0, .inl (nc0, 40, .inr (.inl g0))), (p1, .inr (0, [.int b1, .int z1, .ref n1])), (n1, .inl (nc1, 40, .inr (.inl g1))), (p2, .inr (0, [.int b2, .int z2, .ref n2])), (n2, .inl (nc2, 40, .inr (.inl g2))), (p3, .inr (0, [.int b3, .int z3, .ref n3])), (n3, .inl (nc3, 40, .inr (.inl g3))), (h0, .inr (6, [v0, v1, v2, v3, v4, .ref ph, .ref t0, v7])), (t0, .inl (tc, 7, .inl tg_68))] H := hP
        have hD : va_D A [(ph, .inl (pc, 4, .inr (.inr (.inr (.inr pf))))), (p0, .inr (0, [.int b0, .int z0, .ref n0])), (n0, .inl (nc0, 40, .inr (.inl g0))), (p1, .inr (0, [.int b1, .int z1, .ref n1])), (n1, .inl (nc1, 40, .inr (.inl g1))), (p2, .inr (0, [.int b2, .int z2, .ref n2])), (n2, .inl (nc2, 40, .inr (.inl g2))), (p3, .inr (0, [.int b3, .int z3, .ref n3])), (n3, .inl (nc3, 40, .inr (.inl g3))), (h0, .inr (6, [v0, v1, v2, v3, v4, .ref ph, .ref t0, v7])), (t0, .inl (tc, 7, .inl tg_68))] := hD
        subst hw
        have hP9 := hP.sub (ws' := [(h0, .inr (6, [v0, v1, v2, v3, v4, .ref ph, .ref t0, v7])), (t0, .inl (tc, 7, .inl tg_68)), (ph, .inl (pc, 4, .inr (.inr (.inr (.inr pf))))), (p0, .inr (0, [.int b0, .int z0, .ref n0])), (n0, .inl (nc0, 40, .inr (.inl g0))), (p1, .inr (0, [.int b1, .int z1, .ref n1])), (n1, .inl (nc1, 40, .inr (.inl g1))), (p2, .inr (0, [.int b2, .int z2, .ref n2])), (n2, .inl (nc2, 40, .inr (.inl g2))), (p3, .inr (0, [.int b3, .int z3, .ref n3])), (n3, .inl (nc3, 40, .inr (.inl g3)))]) [9, 10, 0, 1, 2, 3, 4, 5, 6, 7, 8] rfl
        have hD9 := hD.sub (ws' := [(h0, .inr (6, [v0, v1, v2, v3, v4, .ref ph, .ref t0, v7])), (t0, .inl (tc, 7, .inl tg_68)), (ph, .inl (pc, 4, .inr (.inr (.inr (.inr pf))))), (p0, .inr (0, [.int b0, .int z0, .ref n0])), (n0, .inl (nc0, 40, .inr (.inl g0))), (p1, .inr (0, [.int b1, .int z1, .ref n1])), (n1, .inl (nc1, 40, .inr (.inl g1))), (p2, .inr (0, [.int b2, .int z2, .ref n2])), (n2, .inl (nc2, 40, .inr (.inl g2))), (p3, .inr (0, [.int b3, .int z3, .ref n3])), (n3, .inl (nc3, 40, .inr (.inl g3)))]) [9, 10, 0, 1, 2, 3, 4, 5, 6, 7, 8] (by decide) rfl
        have hK9 := hK.sub (tys' := [(tc, .int), (pc, .object "LampShapes$Paper"), (nc0, .long), (nc1, .long), (nc2, .long), (nc3, .long)]) [0, 1, 2, 3, 4, 5] rfl
        exact W.iret (v := ((-1000000007) : Int32)) hx hb hr (fun t ht hW => ⟨⟨((-1000000007) : Int32), (), rfl, trivial, tg_68, b0, z0, b1, z1, b2, z2, b3, z3, g0, g1, g2, g3, (by first | omega | decide | (simp only [fa_lt, fa_le, fa_eq, and_true, true_and, and_false, false_and, not_true_eq_false, not_false_eq_true, li_0, li_1, li_2, li_3, li_4, li_5, li_6, li_7, li_8, li_9, li_10, li_12, li_15, li_16, li_20, li_30, li_34, li_38, li_40, li_63, li_64, li_65, li_78, li_120, li_1000, li_4000, li_10000, li_11077, li_255, li_65535, li_m1, li_m2, li_m1000000001, li_m1000000002, li_m1000000003, li_m1000000004, li_m1000000005, li_m1000000006, li_m1000000007, or_true, true_or, or_false, false_or, implies_true, true_implies, false_implies] <;> omega)), (by first | omega | decide | (simp only [fa_lt, fa_le, fa_eq, and_true, true_and, and_false, false_and, not_true_eq_false, not_false_eq_true, li_0, li_1, li_2, li_3, li_4, li_5, li_6, li_7, li_8, li_9, li_10, li_12, li_15, li_16, li_20, li_30, li_34, li_38, li_40, li_63, li_64, li_65, li_78, li_120, li_1000, li_4000, li_10000, li_11077, li_255, li_65535, li_m1, li_m2, li_m1000000001, li_m1000000002, li_m1000000003, li_m1000000004, li_m1000000005, li_m1000000006, li_m1000000007, or_true, true_or, or_false, false_or, implies_true, true_implies, false_implies] <;> omega)), (by first | omega | decide | (simp only [fa_lt, fa_le, fa_eq, and_true, true_and, and_false, false_and, not_true_eq_false, not_false_eq_true, li_0, li_1, li_2, li_3, li_4, li_5, li_6, li_7, li_8, li_9, li_10, li_12, li_15, li_16, li_20, li_30, li_34, li_38, li_40, li_63, li_64, li_65, li_78, li_120, li_1000, li_4000, li_10000, li_11077, li_255, li_65535, li_m1, li_m2, li_m1000000001, li_m1000000002, li_m1000000003, li_m1000000004, li_m1000000005, li_m1000000006, li_m1000000007, or_true, true_or, or_false, false_or, implies_true, true_implies, false_implies] <;> omega)), (by first | omega | decide | (simp only [fa_lt, fa_le, fa_eq, and_true, true_and, and_false, false_and, not_true_eq_false, not_false_eq_true, li_0, li_1, li_2, li_3, li_4, li_5, li_6, li_7, li_8, li_9, li_10, li_12, li_15, li_16, li_20, li_30, li_34, li_38, li_40, li_63, li_64, li_65, li_78, li_120, li_1000, li_4000, li_10000, li_11077, li_255, li_65535, li_m1, li_m2, li_m1000000001, li_m1000000002, li_m1000000003, li_m1000000004, li_m1000000005, li_m1000000006, li_m1000000007, or_true, true_or, or_false, false_or, implies_true, true_implies, false_implies] <;> omega)), by rw [ht]; exact hP9, va_K.moved hW.alike hK9, hD9⟩, hS.F ht⟩) hS.2.2 dX8_sheet_36
    · skip
      have tc_57 : r_56.toInt = 0 := (fa_eq _ _).mp c_57
      refine lv_aload_n hx hb dX8_sheet_19 rfl (lv_at hl 1 rfl) ?_
      refine lv_ldc hx hb hown (hts _ (List.mem_of_getElem? (i := 6) rfl)) dX8_sheet_20 ?_
      have hPc := hP.sub (ws' := [(h0, .inr (6, [v0, v1, v2, v3, v4, .ref ph, .ref t0, v7])), (t0, .inl (tc, 7, .inl tf))]) [0, 1] rfl
      have hKc := hK.sub (tys' := [(tc, .int)]) [0] rfl
      have hDc := hD.sub (ws' := [(h0, .inr (6, [v0, v1, v2, v3, v4, .ref ph, .ref t0, v7])), (t0, .inl (tc, 7, .inl tf))]) [0, 1] (by decide) rfl
      have hFc := va_free (wc := [(h0, .inr (6, [v0, v1, v2, v3, v4, .ref ph, .ref t0, v7])), (t0, .inl (tc, 7, .inl tf))]) hD hS hA [0, 1] rfl
      refine va_calli (va_runV (As := [.int (-1000000001)]) (rest := []) ⟨hx, hb, hml, hown, hts⟩ (f_beyond l dC dI ad h0 v0 v1 v2 v3 v4 (.ref ph) t0 v7 tc tf s.heap.size ) (cwV 1 hts g_x_sheet_f_beyond_63 rfl rfl rfl (by decide +kernel) ⟨(Nat.le_of_ble_eq_true rfl), (Nat.le_of_ble_eq_true rfl)⟩) ⟨preM_blind, va_recv hKc hPc (ci := 6) (q0 := 0) rfl rfl, fun U hU hW => ⟨rfl, preM_at hU hW hPc hKc hDc hev⟩⟩ rfl rfl hl.1 rfl (lv_room (Nat.le_of_ble_eq_true rfl)) dX8_sheet_22 ⟨(Nat.le_of_ble_eq_true rfl), (Nat.le_of_ble_eq_true rfl)⟩) hS (fun q _ h => hFc q h) hFc (fun r_69 u t H1 locs ht hvm hw hB hz1 hk1 hS => ?_)
      obtain ⟨tg_70, hP1, hK1, hD1⟩ := hB
      rw [ht] at hP1
      have hK1 := va_K.moved hvm.symm hK1
      obtain ⟨hP, hD⟩ := va_join (wr := [(ph, .inl (pc, 4, .inr (.inr (.inr (.inr pf))))), (p0, .inr (0, [.int b0, .int z0, .ref n0])), (n0, .inl (nc0, 40, .inr (.inl g0))), (p1, .inr (0, [.int b1, .int z1, .ref n1])), (n1, .inl (nc1, 40, .inr (.inl g1))), (p2, .inr (0, [.int b2, .int z2, .ref n2])), (n2, .inl (nc2, 40, .inr (.inl g2))), (p3, .inr (0, [.int b3, .int z3, .ref n3])), (n3, .inl (nc3, 40, .inr (.inl g3)))]) (w1 := [(h0, .inr (6, [v0, v1, v2, v3, v4, .ref ph, .ref t0, v7])), (t0, .inl (tc, 7, .inl tg_70))]) hP hD [0, 1] [2, 3, 4, 5, 6, 7, 8, 9, 10] rfl rfl (by decide) (by decide) hk1 hFc hP1 hD1
      generalize H1 = H at hP hS ⊢
      have hP : va_P (dC, dI) vwCl [(ph, .inl (pc, 4, .inr (.inr (.inr (.inr pf))))), (p0, .inr (0, [.int b0, .int z0, .ref n0])), (n0, .inl (nc0, 40, .inr (.inl g0))), (p1, .inr (0, [.int b1, .int z1, .ref n1])), (n1, .inl (nc1, 40, .inr (.inl g1))), (p2, .inr (0, [.int b2, .int z2, .ref n2])), (n2, .inl (nc2, 40, .inr (.inl g2))), (p3, .inr (0, [.int b3, .int z3, .ref n3])), (n3, .inl (nc3, 40, .inr (.inl g3))), (h0, .inr (6, [v0, v1, v2, v3, v4, .ref ph, .ref t0, v7])), (t0, .inl (tc, 7, .inl tg_70))] H := hP
      have hD : va_D A [(ph, .inl (pc, 4, .inr (.inr (.inr (.inr pf))))), (p0, .inr (0, [.int b0, .int z0, .ref n0])), (n0, .inl (nc0, 40, .inr (.inl g0))), (p1, .inr (0, [.int b1, .int z1, .ref n1])), (n1, .inl (nc1, 40, .inr (.inl g1))), (p2, .inr (0, [.int b2, .int z2, .ref n2])), (n2, .inl (nc2, 40, .inr (.inl g2))), (p3, .inr (0, [.int b3, .int z3, .ref n3])), (n3, .inl (nc3, 40, .inr (.inl g3))), (h0, .inr (6, [v0, v1, v2, v3, v4, .ref ph, .ref t0, v7])), (t0, .inl (tc, 7, .inl tg_70))] := hD
      subst hw
      have hP9 := hP.sub (ws' := [(h0, .inr (6, [v0, v1, v2, v3, v4, .ref ph, .ref t0, v7])), (t0, .inl (tc, 7, .inl tg_70)), (ph, .inl (pc, 4, .inr (.inr (.inr (.inr pf))))), (p0, .inr (0, [.int b0, .int z0, .ref n0])), (n0, .inl (nc0, 40, .inr (.inl g0))), (p1, .inr (0, [.int b1, .int z1, .ref n1])), (n1, .inl (nc1, 40, .inr (.inl g1))), (p2, .inr (0, [.int b2, .int z2, .ref n2])), (n2, .inl (nc2, 40, .inr (.inl g2))), (p3, .inr (0, [.int b3, .int z3, .ref n3])), (n3, .inl (nc3, 40, .inr (.inl g3)))]) [9, 10, 0, 1, 2, 3, 4, 5, 6, 7, 8] rfl
      have hD9 := hD.sub (ws' := [(h0, .inr (6, [v0, v1, v2, v3, v4, .ref ph, .ref t0, v7])), (t0, .inl (tc, 7, .inl tg_70)), (ph, .inl (pc, 4, .inr (.inr (.inr (.inr pf))))), (p0, .inr (0, [.int b0, .int z0, .ref n0])), (n0, .inl (nc0, 40, .inr (.inl g0))), (p1, .inr (0, [.int b1, .int z1, .ref n1])), (n1, .inl (nc1, 40, .inr (.inl g1))), (p2, .inr (0, [.int b2, .int z2, .ref n2])), (n2, .inl (nc2, 40, .inr (.inl g2))), (p3, .inr (0, [.int b3, .int z3, .ref n3])), (n3, .inl (nc3, 40, .inr (.inl g3)))]) [9, 10, 0, 1, 2, 3, 4, 5, 6, 7, 8] (by decide) rfl
      have hK9 := hK.sub (tys' := [(tc, .int), (pc, .object "LampShapes$Paper"), (nc0, .long), (nc1, .long), (nc2, .long), (nc3, .long)]) [0, 1, 2, 3, 4, 5] rfl
      exact W.iret (v := ((-1000000001) : Int32)) hx hb hr (fun t ht hW => ⟨⟨((-1000000001) : Int32), (), rfl, trivial, tg_70, b0, z0, b1, z1, b2, z2, b3, z3, g0, g1, g2, g3, (by first | omega | decide | (simp only [fa_lt, fa_le, fa_eq, and_true, true_and, and_false, false_and, not_true_eq_false, not_false_eq_true, li_0, li_1, li_2, li_3, li_4, li_5, li_6, li_7, li_8, li_9, li_10, li_12, li_15, li_16, li_20, li_30, li_34, li_38, li_40, li_63, li_64, li_65, li_78, li_120, li_1000, li_4000, li_10000, li_11077, li_255, li_65535, li_m1, li_m2, li_m1000000001, li_m1000000002, li_m1000000003, li_m1000000004, li_m1000000005, li_m1000000006, li_m1000000007, or_true, true_or, or_false, false_or, implies_true, true_implies, false_implies] <;> omega)), (by first | omega | decide | (simp only [fa_lt, fa_le, fa_eq, and_true, true_and, and_false, false_and, not_true_eq_false, not_false_eq_true, li_0, li_1, li_2, li_3, li_4, li_5, li_6, li_7, li_8, li_9, li_10, li_12, li_15, li_16, li_20, li_30, li_34, li_38, li_40, li_63, li_64, li_65, li_78, li_120, li_1000, li_4000, li_10000, li_11077, li_255, li_65535, li_m1, li_m2, li_m1000000001, li_m1000000002, li_m1000000003, li_m1000000004, li_m1000000005, li_m1000000006, li_m1000000007, or_true, true_or, or_false, false_or, implies_true, true_implies, false_implies] <;> omega)), (by first | omega | decide | (simp only [fa_lt, fa_le, fa_eq, and_true, true_and, and_false, false_and, not_true_eq_false, not_false_eq_true, li_0, li_1, li_2, li_3, li_4, li_5, li_6, li_7, li_8, li_9, li_10, li_12, li_15, li_16, li_20, li_30, li_34, li_38, li_40, li_63, li_64, li_65, li_78, li_120, li_1000, li_4000, li_10000, li_11077, li_255, li_65535, li_m1, li_m2, li_m1000000001, li_m1000000002, li_m1000000003, li_m1000000004, li_m1000000005, li_m1000000006, li_m1000000007, or_true, true_or, or_false, false_or, implies_true, true_implies, false_implies] <;> omega)), (by first | omega | decide | (simp only [fa_lt, fa_le, fa_eq, and_true, true_and, and_false, false_and, not_true_eq_false, not_false_eq_true, li_0, li_1, li_2, li_3, li_4, li_5, li_6, li_7, li_8, li_9, li_10, li_12, li_15, li_16, li_20, li_30, li_34, li_38, li_40, li_63, li_64, li_65, li_78, li_120, li_1000, li_4000, li_10000, li_11077, li_255, li_65535, li_m1, li_m2, li_m1000000001, li_m1000000002, li_m1000000003, li_m1000000004, li_m1000000005, li_m1000000006, li_m1000000007, or_true, true_or, or_false, false_or, implies_true, true_implies, false_implies] <;> omega)), by rw [ht]; exact hP9, va_K.moved hW.alike hK9, hD9⟩, hS.F ht⟩) hS.2.2 dX8_sheet_25

def w_x_write : List Cond := .code yX8_write cX8_write 8 (some .long) :: (([.methodLink RX8 256 yX8_paperAt, .instanceMethod yX8_paperAt, .selects RX8 yX8_paperAt yX8_paperAt, .initialized RX8, .code yX8_paperAt cX8_paperAt 2 (some (.object "LampShapes$Paper")), .constant RX8 62 (-1000000001), .methodLink RX8 63 yX8_finding, .instanceMethod yX8_finding, .selects RX8 yX8_finding yX8_finding, .code yX8_finding cX8_finding 3 (some .int), .fieldLink RX8 46 "LampShapes" "told" "[I", .fieldLink RX8 42 "LampShapes" "papers" "[LLampShapes$Paper;", .methodLink RX8 268 yX2_isMissing, .instanceMethod yX2_isMissing, .selects RX2 yX2_isMissing yX2_isMissing, .initialized RX2, .code yX2_isMissing cX2_isMissing 1 (some .boolean), .fieldLink RX2 9 "LampShapes$Paper" "bits" "I", .methodLink RX8 275 yX2_put, .instanceMethod yX2_put, .selects RX2 yX2_put yX2_put, .code yX2_put cX2_put 4 none, .fieldLink RX2 18 "LampShapes$Paper" "numbers" "[J", .constant RX8 271 (-1000000006)] : List Cond) ++ wsX80 ++ wsX20)
set_option maxRecDepth 20000 in
theorem g_x_write_c_paperAt_lt_256 : GoodIn w_x_write (wsV RX8 256 RX8 yX8_paperAt w_c_paperAt_lt) := goodIn_r _ [1, 2, 3, 4, 5] rfl (by decide +kernel)
set_option maxRecDepth 20000 in
theorem g_x_write_f_beyond_63 : GoodIn w_x_write (wsV RX8 63 RX8 yX8_finding w_f_beyond) := goodIn_r _ [7, 8, 9, 4, 10, 6, 11, 25, 26, 27, 28, 29, 30, 31, 32] rfl (by decide +kernel)
set_option maxRecDepth 20000 in
theorem g_x_write_c_paperAt_gt_256 : GoodIn w_x_write (wsV RX8 256 RX8 yX8_paperAt w_c_paperAt_gt) := goodIn_r _ [1, 2, 3, 4, 5] rfl (by decide +kernel)
set_option maxRecDepth 20000 in
theorem g_x_write_c_paperAt_0_256 : GoodIn w_x_write (wsV RX8 256 RX8 yX8_paperAt w_c_paperAt_0) := goodIn_r _ [1, 2, 3, 4, 5, 12, 25, 26, 27, 28, 29, 30, 31, 32] rfl (by decide +kernel)
set_option maxRecDepth 20000 in
theorem g_x_write_p_isMissing_268 : GoodIn w_x_write (wsV RX8 268 RX2 yX2_isMissing w_p_isMissing) := goodIn_r _ [13, 14, 15, 16, 17, 18, 33, 34, 35] rfl (by decide +kernel)
set_option maxRecDepth 20000 in
theorem g_x_write_p_put_275 : GoodIn w_x_write (wsV RX8 275 RX2 yX2_put w_p_put) := goodIn_r _ [19, 20, 21, 16, 22, 23, 18, 33, 34, 35] rfl (by decide +kernel)
set_option maxRecDepth 20000 in
theorem g_x_write_f_missing_63 : GoodIn w_x_write (wsV RX8 63 RX8 yX8_finding w_f_missing) := goodIn_r _ [7, 8, 9, 4, 10, 6, 11, 25, 26, 27, 28, 29, 30, 31, 32] rfl (by decide +kernel)
set_option maxRecDepth 20000 in
theorem g_x_write_c_paperAt_1_256 : GoodIn w_x_write (wsV RX8 256 RX8 yX8_paperAt w_c_paperAt_1) := goodIn_r _ [1, 2, 3, 4, 5, 12, 25, 26, 27, 28, 29, 30, 31, 32] rfl (by decide +kernel)
set_option maxRecDepth 20000 in
theorem g_x_write_c_paperAt_2_256 : GoodIn w_x_write (wsV RX8 256 RX8 yX8_paperAt w_c_paperAt_2) := goodIn_r _ [1, 2, 3, 4, 5, 12, 25, 26, 27, 28, 29, 30, 31, 32] rfl (by decide +kernel)
set_option maxRecDepth 20000 in
theorem g_x_write_c_paperAt_3_256 : GoodIn w_x_write (wsV RX8 256 RX8 yX8_paperAt w_c_paperAt_3) := goodIn_r _ [1, 2, 3, 4, 5, 12, 25, 26, 27, 28, 29, 30, 31, 32] rfl (by decide +kernel)
set_option maxHeartbeats 4000000 in
set_option maxRecDepth 100000 in
theorem x_write (l : Launch) (dC : Nat → ClassId) (dI : Nat → Nat → Nat) (ad : Nat → Nat) (h0 : Nat) (sn : Int32) (i : Int32) (v : Int64) (v0 : Value) (v1 : Value) (v2 : Value) (v3 : Value) (v4 : Value) (ph : Nat) (t0 : Nat) (v7 : Value) (tc : ClassId) (tf : Nat → Int32) (pc : ClassId) (pf : Nat → Option Nat) (p0 : Nat) (b0 : Int32) (z0 : Int32) (n0 : Nat) (nc0 : ClassId) (g0 : Nat → Int64) (p1 : Nat) (b1 : Int32) (z1 : Int32) (n1 : Nat) (nc1 : ClassId) (g1 : Nat → Int64) (p2 : Nat) (b2 : Int32) (z2 : Int32) (n2 : Nat) (nc2 : ClassId) (g2 : Nat → Int64) (p3 : Nat) (b3 : Int32) (z3 : Int32) (n3 : Nat) (nc3 : ClassId) (g3 : Nat → Int64) (sz : Nat) (hp0 : pf 0 = (some p0)) (hp1 : pf 1 = (some p1)) (hp2 : pf 2 = (some p2)) (hp3 : pf 3 = (some p3)) (hz0 : 0 ≤ z0.toInt ∧ z0.toInt ≤ 40) (hz1 : 0 ≤ z1.toInt ∧ z1.toInt ≤ 40) (hz2 : 0 ≤ z2.toInt ∧ z2.toInt ≤ 40) (hz3 : 0 ≤ z3.toInt ∧ z3.toInt ≤ 40) : Met l yX8_write w_x_write ({ frames := 1, cells := 0, slots := 0, locals := 23 } : Room) (va_Pc [.ref h0, .int sn, .int i, .long v] (preM dC dI ad [(tc, .int), (pc, .object "LampShapes$Paper"), (nc0, .long), (nc1, .long), (nc2, .long), (nc3, .long)] [(h0, .inr (6, [v0, v1, v2, v3, v4, .ref ph, .ref t0, v7])), (t0, .inl (tc, 7, .inl tf)), (ph, .inl (pc, 4, .inr (.inr (.inr (.inr pf))))), (p0, .inr (0, [.int b0, .int z0, .ref n0])), (n0, .inl (nc0, 40, .inr (.inl g0))), (p1, .inr (0, [.int b1, .int z1, .ref n1])), (n1, .inl (nc1, 40, .inr (.inl g1))), (p2, .inr (0, [.int b2, .int z2, .ref n2])), (n2, .inl (nc2, 40, .inr (.inl g2))), (p3, .inr (0, [.int b3, .int z3, .ref n3])), (n3, .inl (nc3, 40, .inr (.inl g3)))] sz)) (va_Ql (fun (r : Int64) (_ : Unit) => True) (fun _ t => ∃ (tg : Nat → Int32), ∃ (g0y : Nat → Int64), ∃ (g1y : Nat → Int64), ∃ (g2y : Nat → Int64), ∃ (g3y : Nat → Int64), va_P (dC, dI) vwCl [(h0, .inr (6, [v0, v1, v2, v3, v4, .ref ph, .ref t0, v7])), (t0, .inl (tc, 7, .inl tg)), (ph, .inl (pc, 4, .inr (.inr (.inr (.inr pf))))), (p0, .inr (0, [.int b0, .int z0, .ref n0])), (n0, .inl (nc0, 40, .inr (.inl g0y))), (p1, .inr (0, [.int b1, .int z1, .ref n1])), (n1, .inl (nc1, 40, .inr (.inl g1y))), (p2, .inr (0, [.int b2, .int z2, .ref n2])), (n2, .inl (nc2, 40, .inr (.inl g2y))), (p3, .inr (0, [.int b3, .int z3, .ref n3])), (n3, .inl (nc3, 40, .inr (.inl g3y)))] t.heap ∧ va_K (dC, dI) vwCl [(tc, .int), (pc, .object "LampShapes$Paper"), (nc0, .long), (nc1, .long), (nc2, .long), (nc3, .long)] t ∧ va_D (va_A [(h0, .inr (6, [v0, v1, v2, v3, v4, .ref ph, .ref t0, v7])), (t0, .inl (tc, 7, .inl tf)), (ph, .inl (pc, 4, .inr (.inr (.inr (.inr pf))))), (p0, .inr (0, [.int b0, .int z0, .ref n0])), (n0, .inl (nc0, 40, .inr (.inl g0))), (p1, .inr (0, [.int b1, .int z1, .ref n1])), (n1, .inl (nc1, 40, .inr (.inl g1))), (p2, .inr (0, [.int b2, .int z2, .ref n2])), (n2, .inl (nc2, 40, .inr (.inl g2))), (p3, .inr (0, [.int b3, .int z3, .ref n3])), (n3, .inl (nc3, 40, .inr (.inl g3)))] sz) [(h0, .inr (6, [v0, v1, v2, v3, v4, .ref ph, .ref t0, v7])), (t0, .inl (tc, 7, .inl tg)), (ph, .inl (pc, 4, .inr (.inr (.inr (.inr pf))))), (p0, .inr (0, [.int b0, .int z0, .ref n0])), (n0, .inl (nc0, 40, .inr (.inl g0y))), (p1, .inr (0, [.int b1, .int z1, .ref n1])), (n1, .inl (nc1, 40, .inr (.inl g1y))), (p2, .inr (0, [.int b2, .int z2, .ref n2])), (n2, .inl (nc2, 40, .inr (.inl g2y))), (p3, .inr (0, [.int b3, .int z3, .ref n3])), (n3, .inl (nc3, 40, .inr (.inl g3y)))]) (va_A [(h0, .inr (6, [v0, v1, v2, v3, v4, .ref ph, .ref t0, v7])), (t0, .inl (tc, 7, .inl tf)), (ph, .inl (pc, 4, .inr (.inr (.inr (.inr pf))))), (p0, .inr (0, [.int b0, .int z0, .ref n0])), (n0, .inl (nc0, 40, .inr (.inl g0))), (p1, .inr (0, [.int b1, .int z1, .ref n1])), (n1, .inl (nc1, 40, .inr (.inl g1))), (p2, .inr (0, [.int b2, .int z2, .ref n2])), (n2, .inl (nc2, 40, .inr (.inl g2))), (p3, .inr (0, [.int b3, .int z3, .ref n3])), (n3, .inl (nc3, 40, .inr (.inl g3)))] sz)) 0 0 (va_A [(h0, .inr (6, [v0, v1, v2, v3, v4, .ref ph, .ref t0, v7])), (t0, .inl (tc, 7, .inl tf)), (ph, .inl (pc, 4, .inr (.inr (.inr (.inr pf))))), (p0, .inr (0, [.int b0, .int z0, .ref n0])), (n0, .inl (nc0, 40, .inr (.inl g0))), (p1, .inr (0, [.int b1, .int z1, .ref n1])), (n1, .inl (nc1, 40, .inr (.inl g1))), (p2, .inr (0, [.int b2, .int z2, .ref n2])), (n2, .inl (nc2, 40, .inr (.inl g2))), (p3, .inr (0, [.int b3, .int z3, .ref n3])), (n3, .inl (nc3, 40, .inr (.inl g3)))] sz) := by
  rcases pp_c_0_3 sn with hlt0 | hgt0 | rfl | rfl | rfl | rfl
  · skip
    refine Met.ofW (cc := cX8_write) (maxL := 8) (ret := (some .long)) (by decide) rfl ?_
    intro p e s m args below meth c s₁ B hml hv
    obtain ⟨rfl, hsz, hP, hK, hD0, hev⟩ := hv
    have hx := B.exec
    have hb := B.bytes
    have hr := B.returns
    have hts := atoms_spec (ws := w_x_write) B.pre
    have hown : s.vm.findClass RX8 = some m.cls := findClass_of_methodNamed B.named
    have hlocks := B.notSynchronized
    have inX8 : ∀ w ∈ wsX80, w ∈ w_x_write := fun w h => List.mem_cons_of_mem _ (List.mem_append_left _ (List.mem_append_right _ h))
    have inX2 : ∀ w ∈ wsX20, w ∈ w_x_write := fun w h => List.mem_cons_of_mem _ (List.mem_append_right _ h)
    subst hsz
    have hD := hD0.self (sz := s.heap.size)
    generalize hAe : va_A [(h0, .inr (6, [v0, v1, v2, v3, v4, .ref ph, .ref t0, v7])), (t0, .inl (tc, 7, .inl tf)), (ph, .inl (pc, 4, .inr (.inr (.inr (.inr pf))))), (p0, .inr (0, [.int b0, .int z0, .ref n0])), (n0, .inl (nc0, 40, .inr (.inl g0))), (p1, .inr (0, [.int b1, .int z1, .ref n1])), (n1, .inl (nc1, 40, .inr (.inl g1))), (p2, .inr (0, [.int b2, .int z2, .ref n2])), (n2, .inl (nc2, 40, .inr (.inl g2))), (p3, .inr (0, [.int b3, .int z3, .ref n3])), (n3, .inl (nc3, 40, .inr (.inl g3)))] s.heap.size = A at hD ⊢
    have hA : ∀ q : Nat, s.heap.size ≤ q → A q := fun q h => by rw [← hAe]; exact Or.inr h
    have hS : va_S A s.heap s.heap [] := va_S.rf
    have hP : va_P (dC, dI) vwCl [(h0, .inr (6, [v0, v1, v2, v3, v4, .ref ph, .ref t0, v7])), (t0, .inl (tc, 7, .inl tf)), (ph, .inl (pc, 4, .inr (.inr (.inr (.inr pf))))), (p0, .inr (0, [.int b0, .int z0, .ref n0])), (n0, .inl (nc0, 40, .inr (.inl g0))), (p1, .inr (0, [.int b1, .int z1, .ref n1])), (n1, .inl (nc1, 40, .inr (.inl g1))), (p2, .inr (0, [.int b2, .int z2, .ref n2])), (n2, .inl (nc2, 40, .inr (.inl g2))), (p3, .inr (0, [.int b3, .int z3, .ref n3])), (n3, .inl (nc3, 40, .inr (.inl g3)))] s.heap := hP
    have hl := lv_entry ([.ref h0, .int sn, .int i, .long v]) (n := 8) (Nat.le_of_ble_eq_true rfl)
    rw [lg_entry_eq]
    generalize (lg_sl ([.ref h0, .int sn, .int i, .long v]) ++ List.replicate (8 - (lg_sl ([.ref h0, .int sn, .int i, .long v])).length) Slot.unset).toArray = ls at hl ⊢
    have hl : lv_has ls 8 [(0, .ref h0), (1, .int sn), (2, .int i), (3, .long v)] := hl
    have thlt0 : sn.toInt < 0 := (fa_lt _ _).mp hlt0
    refine lv_aload_n hx hb dX8_write_0 rfl (lv_at hl 0 rfl) ?_
    refine lv_iload_n hx hb dX8_write_1 rfl (lv_at hl 1 rfl) ?_
    have hPc := hP.sub (ws' := [(h0, .inr (6, [v0, v1, v2, v3, v4, .ref ph, .ref t0, v7]))]) [0] rfl
    have hKc := hK.sub (tys' := []) [] rfl
    refine va_csq (W.runV (As := [.int sn]) (rest := []) ⟨hx, hb, hml, hown, hts⟩ (c_paperAt_lt l dC dI ad h0 sn v0 v1 v2 v3 v4 (.ref ph) (.ref t0) v7 hlt0) (cwV 1 hts g_x_write_c_paperAt_lt_256 rfl rfl rfl (by decide +kernel) ⟨(Nat.le_of_ble_eq_true rfl), (Nat.le_of_ble_eq_true rfl)⟩) ⟨preS_blind, va_recv hKc hPc (ci := 6) (q0 := 0) rfl rfl, fun U hU hW => ⟨rfl, preS_at hU hW hPc hKc hev⟩⟩ rfl rfl hl.1 rfl (lv_room (Nat.le_of_ble_eq_true rfl)) dX8_write_2 ⟨(Nat.le_of_ble_eq_true rfl), (Nat.le_of_ble_eq_true rfl)⟩) (fun r_1 hw => ?_)
    subst hw
    refine pp_tv (y := .null) rfl ?_
    refine lv_astoreN (lv' := [(5, .null), (0, .ref h0), (1, .int sn), (2, .int i), (3, .long v)]) hx hb dX8_write_5 hl (by decide) rfl (fun ls hl => ?_)
    refine lv_aloadN hx hb dX8_write_7 (lv_at hl 0 rfl) ?_
    refine lv_ifnonnullN hx hb dX8_write_9 ?_
    refine lv_aload_n hx hb dX8_write_12 rfl (lv_at hl 1 rfl) ?_
    refine lv_ldc hx hb hown (hts _ (List.mem_of_getElem? (i := 6) rfl)) dX8_write_13 ?_
    have hPc := hP.sub (ws' := [(h0, .inr (6, [v0, v1, v2, v3, v4, .ref ph, .ref t0, v7])), (t0, .inl (tc, 7, .inl tf))]) [0, 1] rfl
    have hKc := hK.sub (tys' := [(tc, .int)]) [0] rfl
    have hDc := hD.sub (ws' := [(h0, .inr (6, [v0, v1, v2, v3, v4, .ref ph, .ref t0, v7])), (t0, .inl (tc, 7, .inl tf))]) [0, 1] (by decide) rfl
    have hFc := va_free (wc := [(h0, .inr (6, [v0, v1, v2, v3, v4, .ref ph, .ref t0, v7])), (t0, .inl (tc, 7, .inl tf))]) hD hS hA [0, 1] rfl
    refine va_calli (va_runV (As := [.int (-1000000001)]) (rest := []) ⟨hx, hb, hml, hown, hts⟩ (f_beyond l dC dI ad h0 v0 v1 v2 v3 v4 (.ref ph) t0 v7 tc tf s.heap.size ) (cwV 1 hts g_x_write_f_beyond_63 rfl rfl rfl (by decide +kernel) ⟨(Nat.le_of_ble_eq_true rfl), (Nat.le_of_ble_eq_true rfl)⟩) ⟨preM_blind, va_recv hKc hPc (ci := 6) (q0 := 0) rfl rfl, fun U hU hW => ⟨rfl, preM_at hU hW hPc hKc hDc hev⟩⟩ rfl rfl hl.1 rfl (lv_room (Nat.le_of_ble_eq_true rfl)) dX8_write_15 ⟨(Nat.le_of_ble_eq_true rfl), (Nat.le_of_ble_eq_true rfl)⟩) hS (fun q _ h => hFc q h) hFc (fun r_2 u t H1 locs ht hvm hw hB hz1 hk1 hS => ?_)
    obtain ⟨tg_3, hP1, hK1, hD1⟩ := hB
    rw [ht] at hP1
    have hK1 := va_K.moved hvm.symm hK1
    obtain ⟨hP, hD⟩ := va_join (wr := [(ph, .inl (pc, 4, .inr (.inr (.inr (.inr pf))))), (p0, .inr (0, [.int b0, .int z0, .ref n0])), (n0, .inl (nc0, 40, .inr (.inl g0))), (p1, .inr (0, [.int b1, .int z1, .ref n1])), (n1, .inl (nc1, 40, .inr (.inl g1))), (p2, .inr (0, [.int b2, .int z2, .ref n2])), (n2, .inl (nc2, 40, .inr (.inl g2))), (p3, .inr (0, [.int b3, .int z3, .ref n3])), (n3, .inl (nc3, 40, .inr (.inl g3)))]) (w1 := [(h0, .inr (6, [v0, v1, v2, v3, v4, .ref ph, .ref t0, v7])), (t0, .inl (tc, 7, .inl tg_3))]) hP hD [0, 1] [2, 3, 4, 5, 6, 7, 8, 9, 10] rfl rfl (by decide) (by decide) hk1 hFc hP1 hD1
    generalize H1 = H at hP hS ⊢
    have hP : va_P (dC, dI) vwCl [(ph, .inl (pc, 4, .inr (.inr (.inr (.inr pf))))), (p0, .inr (0, [.int b0, .int z0, .ref n0])), (n0, .inl (nc0, 40, .inr (.inl g0))), (p1, .inr (0, [.int b1, .int z1, .ref n1])), (n1, .inl (nc1, 40, .inr (.inl g1))), (p2, .inr (0, [.int b2, .int z2, .ref n2])), (n2, .inl (nc2, 40, .inr (.inl g2))), (p3, .inr (0, [.int b3, .int z3, .ref n3])), (n3, .inl (nc3, 40, .inr (.inl g3))), (h0, .inr (6, [v0, v1, v2, v3, v4, .ref ph, .ref t0, v7])), (t0, .inl (tc, 7, .inl tg_3))] H := hP
    have hD : va_D A [(ph, .inl (pc, 4, .inr (.inr (.inr (.inr pf))))), (p0, .inr (0, [.int b0, .int z0, .ref n0])), (n0, .inl (nc0, 40, .inr (.inl g0))), (p1, .inr (0, [.int b1, .int z1, .ref n1])), (n1, .inl (nc1, 40, .inr (.inl g1))), (p2, .inr (0, [.int b2, .int z2, .ref n2])), (n2, .inl (nc2, 40, .inr (.inl g2))), (p3, .inr (0, [.int b3, .int z3, .ref n3])), (n3, .inl (nc3, 40, .inr (.inl g3))), (h0, .inr (6, [v0, v1, v2, v3, v4, .ref ph, .ref t0, v7])), (t0, .inl (tc, 7, .inl tg_3))] := hD
    subst hw
    refine lv_i2l (v := (-1000000001)) hx hb dX8_write_18 (by decide) ?_
    have hP9 := hP.sub (ws' := [(h0, .inr (6, [v0, v1, v2, v3, v4, .ref ph, .ref t0, v7])), (t0, .inl (tc, 7, .inl tg_3)), (ph, .inl (pc, 4, .inr (.inr (.inr (.inr pf))))), (p0, .inr (0, [.int b0, .int z0, .ref n0])), (n0, .inl (nc0, 40, .inr (.inl g0))), (p1, .inr (0, [.int b1, .int z1, .ref n1])), (n1, .inl (nc1, 40, .inr (.inl g1))), (p2, .inr (0, [.int b2, .int z2, .ref n2])), (n2, .inl (nc2, 40, .inr (.inl g2))), (p3, .inr (0, [.int b3, .int z3, .ref n3])), (n3, .inl (nc3, 40, .inr (.inl g3)))]) [9, 10, 0, 1, 2, 3, 4, 5, 6, 7, 8] rfl
    have hD9 := hD.sub (ws' := [(h0, .inr (6, [v0, v1, v2, v3, v4, .ref ph, .ref t0, v7])), (t0, .inl (tc, 7, .inl tg_3)), (ph, .inl (pc, 4, .inr (.inr (.inr (.inr pf))))), (p0, .inr (0, [.int b0, .int z0, .ref n0])), (n0, .inl (nc0, 40, .inr (.inl g0))), (p1, .inr (0, [.int b1, .int z1, .ref n1])), (n1, .inl (nc1, 40, .inr (.inl g1))), (p2, .inr (0, [.int b2, .int z2, .ref n2])), (n2, .inl (nc2, 40, .inr (.inl g2))), (p3, .inr (0, [.int b3, .int z3, .ref n3])), (n3, .inl (nc3, 40, .inr (.inl g3)))]) [9, 10, 0, 1, 2, 3, 4, 5, 6, 7, 8] (by decide) rfl
    have hK9 := hK.sub (tys' := [(tc, .int), (pc, .object "LampShapes$Paper"), (nc0, .long), (nc1, .long), (nc2, .long), (nc3, .long)]) [0, 1, 2, 3, 4, 5] rfl
    exact W.lret (v := ((-1000000001) : Int64)) hx hb hr (fun t ht hW => ⟨⟨((-1000000001) : Int64), (), rfl, trivial, tg_3, g0, g1, g2, g3, by rw [ht]; exact hP9, va_K.moved hW.alike hK9, hD9⟩, hS.F ht⟩) hS.2.2 dX8_write_19
  · skip
    refine Met.ofW (cc := cX8_write) (maxL := 8) (ret := (some .long)) (by decide) rfl ?_
    intro p e s m args below meth c s₁ B hml hv
    obtain ⟨rfl, hsz, hP, hK, hD0, hev⟩ := hv
    have hx := B.exec
    have hb := B.bytes
    have hr := B.returns
    have hts := atoms_spec (ws := w_x_write) B.pre
    have hown : s.vm.findClass RX8 = some m.cls := findClass_of_methodNamed B.named
    have hlocks := B.notSynchronized
    have inX8 : ∀ w ∈ wsX80, w ∈ w_x_write := fun w h => List.mem_cons_of_mem _ (List.mem_append_left _ (List.mem_append_right _ h))
    have inX2 : ∀ w ∈ wsX20, w ∈ w_x_write := fun w h => List.mem_cons_of_mem _ (List.mem_append_right _ h)
    subst hsz
    have hD := hD0.self (sz := s.heap.size)
    generalize hAe : va_A [(h0, .inr (6, [v0, v1, v2, v3, v4, .ref ph, .ref t0, v7])), (t0, .inl (tc, 7, .inl tf)), (ph, .inl (pc, 4, .inr (.inr (.inr (.inr pf))))), (p0, .inr (0, [.int b0, .int z0, .ref n0])), (n0, .inl (nc0, 40, .inr (.inl g0))), (p1, .inr (0, [.int b1, .int z1, .ref n1])), (n1, .inl (nc1, 40, .inr (.inl g1))), (p2, .inr (0, [.int b2, .int z2, .ref n2])), (n2, .inl (nc2, 40, .inr (.inl g2))), (p3, .inr (0, [.int b3, .int z3, .ref n3])), (n3, .inl (nc3, 40, .inr (.inl g3)))] s.heap.size = A at hD ⊢
    have hA : ∀ q : Nat, s.heap.size ≤ q → A q := fun q h => by rw [← hAe]; exact Or.inr h
    have hS : va_S A s.heap s.heap [] := va_S.rf
    have hP : va_P (dC, dI) vwCl [(h0, .inr (6, [v0, v1, v2, v3, v4, .ref ph, .ref t0, v7])), (t0, .inl (tc, 7, .inl tf)), (ph, .inl (pc, 4, .inr (.inr (.inr (.inr pf))))), (p0, .inr (0, [.int b0, .int z0, .ref n0])), (n0, .inl (nc0, 40, .inr (.inl g0))), (p1, .inr (0, [.int b1, .int z1, .ref n1])), (n1, .inl (nc1, 40, .inr (.inl g1))), (p2, .inr (0, [.int b2, .int z2, .ref n2])), (n2, .inl (nc2, 40, .inr (.inl g2))), (p3, .inr (0, [.int b3, .int z3, .ref n3])), (n3, .inl (nc3, 40, .inr (.inl g3)))] s.heap := hP
    have hl := lv_entry ([.ref h0, .int sn, .int i, .long v]) (n := 8) (Nat.le_of_ble_eq_true rfl)
    rw [lg_entry_eq]
    generalize (lg_sl ([.ref h0, .int sn, .int i, .long v]) ++ List.replicate (8 - (lg_sl ([.ref h0, .int sn, .int i, .long v])).length) Slot.unset).toArray = ls at hl ⊢
    have hl : lv_has ls 8 [(0, .ref h0), (1, .int sn), (2, .int i), (3, .long v)] := hl
    have thgt0 : 3 < sn.toInt := (fa_lt _ _).mp hgt0
    refine lv_aload_n hx hb dX8_write_0 rfl (lv_at hl 0 rfl) ?_
    refine lv_iload_n hx hb dX8_write_1 rfl (lv_at hl 1 rfl) ?_
    have hPc := hP.sub (ws' := [(h0, .inr (6, [v0, v1, v2, v3, v4, .ref ph, .ref t0, v7]))]) [0] rfl
    have hKc := hK.sub (tys' := []) [] rfl
    refine va_csq (W.runV (As := [.int sn]) (rest := []) ⟨hx, hb, hml, hown, hts⟩ (c_paperAt_gt l dC dI ad h0 sn v0 v1 v2 v3 v4 (.ref ph) (.ref t0) v7 hgt0) (cwV 1 hts g_x_write_c_paperAt_gt_256 rfl rfl rfl (by decide +kernel) ⟨(Nat.le_of_ble_eq_true rfl), (Nat.le_of_ble_eq_true rfl)⟩) ⟨preS_blind, va_recv hKc hPc (ci := 6) (q0 := 0) rfl rfl, fun U hU hW => ⟨rfl, preS_at hU hW hPc hKc hev⟩⟩ rfl rfl hl.1 rfl (lv_room (Nat.le_of_ble_eq_true rfl)) dX8_write_2 ⟨(Nat.le_of_ble_eq_true rfl), (Nat.le_of_ble_eq_true rfl)⟩) (fun r_4 hw => ?_)
    subst hw
    refine pp_tv (y := .null) rfl ?_
    refine lv_astoreN (lv' := [(5, .null), (0, .ref h0), (1, .int sn), (2, .int i), (3, .long v)]) hx hb dX8_write_5 hl (by decide) rfl (fun ls hl => ?_)
    refine lv_aloadN hx hb dX8_write_7 (lv_at hl 0 rfl) ?_
    refine lv_ifnonnullN hx hb dX8_write_9 ?_
    refine lv_aload_n hx hb dX8_write_12 rfl (lv_at hl 1 rfl) ?_
    refine lv_ldc hx hb hown (hts _ (List.mem_of_getElem? (i := 6) rfl)) dX8_write_13 ?_
    have hPc := hP.sub (ws' := [(h0, .inr (6, [v0, v1, v2, v3, v4, .ref ph, .ref t0, v7])), (t0, .inl (tc, 7, .inl tf))]) [0, 1] rfl
    have hKc := hK.sub (tys' := [(tc, .int)]) [0] rfl
    have hDc := hD.sub (ws' := [(h0, .inr (6, [v0, v1, v2, v3, v4, .ref ph, .ref t0, v7])), (t0, .inl (tc, 7, .inl tf))]) [0, 1] (by decide) rfl
    have hFc := va_free (wc := [(h0, .inr (6, [v0, v1, v2, v3, v4, .ref ph, .ref t0, v7])), (t0, .inl (tc, 7, .inl tf))]) hD hS hA [0, 1] rfl
    refine va_calli (va_runV (As := [.int (-1000000001)]) (rest := []) ⟨hx, hb, hml, hown, hts⟩ (f_beyond l dC dI ad h0 v0 v1 v2 v3 v4 (.ref ph) t0 v7 tc tf s.heap.size ) (cwV 1 hts g_x_write_f_beyond_63 rfl rfl rfl (by decide +kernel) ⟨(Nat.le_of_ble_eq_true rfl), (Nat.le_of_ble_eq_true rfl)⟩) ⟨preM_blind, va_recv hKc hPc (ci := 6) (q0 := 0) rfl rfl, fun U hU hW => ⟨rfl, preM_at hU hW hPc hKc hDc hev⟩⟩ rfl rfl hl.1 rfl (lv_room (Nat.le_of_ble_eq_true rfl)) dX8_write_15 ⟨(Nat.le_of_ble_eq_true rfl), (Nat.le_of_ble_eq_true rfl)⟩) hS (fun q _ h => hFc q h) hFc (fun r_5 u t H1 locs ht hvm hw hB hz1 hk1 hS => ?_)
    obtain ⟨tg_6, hP1, hK1, hD1⟩ := hB
    rw [ht] at hP1
    have hK1 := va_K.moved hvm.symm hK1
    obtain ⟨hP, hD⟩ := va_join (wr := [(ph, .inl (pc, 4, .inr (.inr (.inr (.inr pf))))), (p0, .inr (0, [.int b0, .int z0, .ref n0])), (n0, .inl (nc0, 40, .inr (.inl g0))), (p1, .inr (0, [.int b1, .int z1, .ref n1])), (n1, .inl (nc1, 40, .inr (.inl g1))), (p2, .inr (0, [.int b2, .int z2, .ref n2])), (n2, .inl (nc2, 40, .inr (.inl g2))), (p3, .inr (0, [.int b3, .int z3, .ref n3])), (n3, .inl (nc3, 40, .inr (.inl g3)))]) (w1 := [(h0, .inr (6, [v0, v1, v2, v3, v4, .ref ph, .ref t0, v7])), (t0, .inl (tc, 7, .inl tg_6))]) hP hD [0, 1] [2, 3, 4, 5, 6, 7, 8, 9, 10] rfl rfl (by decide) (by decide) hk1 hFc hP1 hD1
    generalize H1 = H at hP hS ⊢
    have hP : va_P (dC, dI) vwCl [(ph, .inl (pc, 4, .inr (.inr (.inr (.inr pf))))), (p0, .inr (0, [.int b0, .int z0, .ref n0])), (n0, .inl (nc0, 40, .inr (.inl g0))), (p1, .inr (0, [.int b1, .int z1, .ref n1])), (n1, .inl (nc1, 40, .inr (.inl g1))), (p2, .inr (0, [.int b2, .int z2, .ref n2])), (n2, .inl (nc2, 40, .inr (.inl g2))), (p3, .inr (0, [.int b3, .int z3, .ref n3])), (n3, .inl (nc3, 40, .inr (.inl g3))), (h0, .inr (6, [v0, v1, v2, v3, v4, .ref ph, .ref t0, v7])), (t0, .inl (tc, 7, .inl tg_6))] H := hP
    have hD : va_D A [(ph, .inl (pc, 4, .inr (.inr (.inr (.inr pf))))), (p0, .inr (0, [.int b0, .int z0, .ref n0])), (n0, .inl (nc0, 40, .inr (.inl g0))), (p1, .inr (0, [.int b1, .int z1, .ref n1])), (n1, .inl (nc1, 40, .inr (.inl g1))), (p2, .inr (0, [.int b2, .int z2, .ref n2])), (n2, .inl (nc2, 40, .inr (.inl g2))), (p3, .inr (0, [.int b3, .int z3, .ref n3])), (n3, .inl (nc3, 40, .inr (.inl g3))), (h0, .inr (6, [v0, v1, v2, v3, v4, .ref ph, .ref t0, v7])), (t0, .inl (tc, 7, .inl tg_6))] := hD
    subst hw
    refine lv_i2l (v := (-1000000001)) hx hb dX8_write_18 (by decide) ?_
    have hP9 := hP.sub (ws' := [(h0, .inr (6, [v0, v1, v2, v3, v4, .ref ph, .ref t0, v7])), (t0, .inl (tc, 7, .inl tg_6)), (ph, .inl (pc, 4, .inr (.inr (.inr (.inr pf))))), (p0, .inr (0, [.int b0, .int z0, .ref n0])), (n0, .inl (nc0, 40, .inr (.inl g0))), (p1, .inr (0, [.int b1, .int z1, .ref n1])), (n1, .inl (nc1, 40, .inr (.inl g1))), (p2, .inr (0, [.int b2, .int z2, .ref n2])), (n2, .inl (nc2, 40, .inr (.inl g2))), (p3, .inr (0, [.int b3, .int z3, .ref n3])), (n3, .inl (nc3, 40, .inr (.inl g3)))]) [9, 10, 0, 1, 2, 3, 4, 5, 6, 7, 8] rfl
    have hD9 := hD.sub (ws' := [(h0, .inr (6, [v0, v1, v2, v3, v4, .ref ph, .ref t0, v7])), (t0, .inl (tc, 7, .inl tg_6)), (ph, .inl (pc, 4, .inr (.inr (.inr (.inr pf))))), (p0, .inr (0, [.int b0, .int z0, .ref n0])), (n0, .inl (nc0, 40, .inr (.inl g0))), (p1, .inr (0, [.int b1, .int z1, .ref n1])), (n1, .inl (nc1, 40, .inr (.inl g1))), (p2, .inr (0, [.int b2, .int z2, .ref n2])), (n2, .inl (nc2, 40, .inr (.inl g2))), (p3, .inr (0, [.int b3, .int z3, .ref n3])), (n3, .inl (nc3, 40, .inr (.inl g3)))]) [9, 10, 0, 1, 2, 3, 4, 5, 6, 7, 8] (by decide) rfl
    have hK9 := hK.sub (tys' := [(tc, .int), (pc, .object "LampShapes$Paper"), (nc0, .long), (nc1, .long), (nc2, .long), (nc3, .long)]) [0, 1, 2, 3, 4, 5] rfl
    exact W.lret (v := ((-1000000001) : Int64)) hx hb hr (fun t ht hW => ⟨⟨((-1000000001) : Int64), (), rfl, trivial, tg_6, g0, g1, g2, g3, by rw [ht]; exact hP9, va_K.moved hW.alike hK9, hD9⟩, hS.F ht⟩) hS.2.2 dX8_write_19
  · skip
    refine Met.ofW (cc := cX8_write) (maxL := 8) (ret := (some .long)) (by decide) rfl ?_
    intro p e s m args below meth c s₁ B hml hv
    obtain ⟨rfl, hsz, hP, hK, hD0, hev⟩ := hv
    have hx := B.exec
    have hb := B.bytes
    have hr := B.returns
    have hts := atoms_spec (ws := w_x_write) B.pre
    have hown : s.vm.findClass RX8 = some m.cls := findClass_of_methodNamed B.named
    have hlocks := B.notSynchronized
    have inX8 : ∀ w ∈ wsX80, w ∈ w_x_write := fun w h => List.mem_cons_of_mem _ (List.mem_append_left _ (List.mem_append_right _ h))
    have inX2 : ∀ w ∈ wsX20, w ∈ w_x_write := fun w h => List.mem_cons_of_mem _ (List.mem_append_right _ h)
    subst hsz
    have hD := hD0.self (sz := s.heap.size)
    generalize hAe : va_A [(h0, .inr (6, [v0, v1, v2, v3, v4, .ref ph, .ref t0, v7])), (t0, .inl (tc, 7, .inl tf)), (ph, .inl (pc, 4, .inr (.inr (.inr (.inr pf))))), (p0, .inr (0, [.int b0, .int z0, .ref n0])), (n0, .inl (nc0, 40, .inr (.inl g0))), (p1, .inr (0, [.int b1, .int z1, .ref n1])), (n1, .inl (nc1, 40, .inr (.inl g1))), (p2, .inr (0, [.int b2, .int z2, .ref n2])), (n2, .inl (nc2, 40, .inr (.inl g2))), (p3, .inr (0, [.int b3, .int z3, .ref n3])), (n3, .inl (nc3, 40, .inr (.inl g3)))] s.heap.size = A at hD ⊢
    have hA : ∀ q : Nat, s.heap.size ≤ q → A q := fun q h => by rw [← hAe]; exact Or.inr h
    have hS : va_S A s.heap s.heap [] := va_S.rf
    have hP : va_P (dC, dI) vwCl [(h0, .inr (6, [v0, v1, v2, v3, v4, .ref ph, .ref t0, v7])), (t0, .inl (tc, 7, .inl tf)), (ph, .inl (pc, 4, .inr (.inr (.inr (.inr pf))))), (p0, .inr (0, [.int b0, .int z0, .ref n0])), (n0, .inl (nc0, 40, .inr (.inl g0))), (p1, .inr (0, [.int b1, .int z1, .ref n1])), (n1, .inl (nc1, 40, .inr (.inl g1))), (p2, .inr (0, [.int b2, .int z2, .ref n2])), (n2, .inl (nc2, 40, .inr (.inl g2))), (p3, .inr (0, [.int b3, .int z3, .ref n3])), (n3, .inl (nc3, 40, .inr (.inl g3)))] s.heap := hP
    have hl := lv_entry ([.ref h0, .int 0, .int i, .long v]) (n := 8) (Nat.le_of_ble_eq_true rfl)
    rw [lg_entry_eq]
    generalize (lg_sl ([.ref h0, .int 0, .int i, .long v]) ++ List.replicate (8 - (lg_sl ([.ref h0, .int 0, .int i, .long v])).length) Slot.unset).toArray = ls at hl ⊢
    have hl : lv_has ls 8 [(0, .ref h0), (1, .int 0), (2, .int i), (3, .long v)] := hl
    refine lv_aload_n hx hb dX8_write_0 rfl (lv_at hl 0 rfl) ?_
    refine lv_iload_n hx hb dX8_write_1 rfl (lv_at hl 1 rfl) ?_
    have hPc := hP.sub (ws' := [(h0, .inr (6, [v0, v1, v2, v3, v4, .ref ph, .ref t0, v7])), (ph, .inl (pc, 4, .inr (.inr (.inr (.inr pf)))))]) [0, 2] rfl
    have hKc := hK.sub (tys' := [(pc, .object "LampShapes$Paper")]) [1] rfl
    refine va_csq (W.runV (As := [.int 0]) (rest := []) ⟨hx, hb, hml, hown, hts⟩ (c_paperAt_0 l dC dI ad h0 v0 v1 v2 v3 v4 ph (.ref t0) v7 pc pf p0 hp0) (cwV 1 hts g_x_write_c_paperAt_0_256 rfl rfl rfl (by decide +kernel) ⟨(Nat.le_of_ble_eq_true rfl), (Nat.le_of_ble_eq_true rfl)⟩) ⟨preS_blind, va_recv hKc hPc (ci := 6) (q0 := 0) rfl rfl, fun U hU hW => ⟨rfl, preS_at hU hW hPc hKc hev⟩⟩ rfl rfl hl.1 rfl (lv_room (Nat.le_of_ble_eq_true rfl)) dX8_write_2 ⟨(Nat.le_of_ble_eq_true rfl), (Nat.le_of_ble_eq_true rfl)⟩) (fun r_7 hw => ?_)
    subst hw
    refine pp_tv (y := .ref p0) rfl ?_
    refine lv_astore (lv' := [(5, .ref p0), (0, .ref h0), (1, .int 0), (2, .int i), (3, .long v)]) hx hb dX8_write_5 hl (by decide) rfl (fun ls hl => ?_)
    refine lv_aload hx hb dX8_write_7 (lv_at hl 0 rfl) ?_
    refine lv_ifnonnull (tgt := 20) hx hb dX8_write_9 (by decide) ?_
    refine lv_aload hx hb dX8_write_20 (lv_at hl 0 rfl) ?_
    have hPc := hP.sub (ws' := [(p0, .inr (0, [.int b0, .int z0, .ref n0]))]) [3] rfl
    have hKc := hK.sub (tys' := []) [] rfl
    refine vp_callSi (W.runV (As := []) (rest := []) ⟨hx, hb, hml, hown, hts⟩ (p_isMissing l dC dI ad p0 b0 (.int z0) (.ref n0) ) (cwV 0 hts g_x_write_p_isMissing_268 rfl rfl rfl (by decide +kernel) ⟨(Nat.le_of_ble_eq_true rfl), (Nat.le_of_ble_eq_true rfl)⟩) ⟨preS_blind, va_recv hKc hPc (ci := 0) (q0 := 0) rfl rfl, fun U hU hW => ⟨rfl, preS_at hU hW hPc hKc hev⟩⟩ rfl rfl hl.1 rfl (lv_room (Nat.le_of_ble_eq_true rfl)) dX8_write_22 ⟨(Nat.le_of_ble_eq_true rfl), (Nat.le_of_ble_eq_true rfl)⟩) (fun r_8 hw => ?_)
    have hr_8 : (r_8.toInt = 1 ∧ b0.toInt = 0) ∨ (r_8.toInt = 0 ∧ ¬ b0.toInt = 0) := hw
    refine lv_if_eq (tgt := 37) hx hb dX8_write_25 (by decide) (fun c_9 => ?_) (fun c_9 => ?_)
    · skip
      have tc_9 : r_8.toInt = 0 := (fa_eq _ _).mp c_9
      refine lv_iload_n hx hb dX8_write_37 rfl (lv_at hl 3 rfl) ?_
      refine lv_if_lt (tgt := 50) hx hb dX8_write_38 (by decide) (fun c_10 => ?_) (fun c_10 => ?_)
      · skip
        have tc_10 : i.toInt < 0 := (fa_lt _ _).mp c_10
        refine lv_aload_n hx hb dX8_write_50 rfl (lv_at hl 1 rfl) ?_
        refine lv_ldc hx hb hown (hts _ (List.mem_of_getElem? (i := 6) rfl)) dX8_write_51 ?_
        have hPc := hP.sub (ws' := [(h0, .inr (6, [v0, v1, v2, v3, v4, .ref ph, .ref t0, v7])), (t0, .inl (tc, 7, .inl tf))]) [0, 1] rfl
        have hKc := hK.sub (tys' := [(tc, .int)]) [0] rfl
        have hDc := hD.sub (ws' := [(h0, .inr (6, [v0, v1, v2, v3, v4, .ref ph, .ref t0, v7])), (t0, .inl (tc, 7, .inl tf))]) [0, 1] (by decide) rfl
        have hFc := va_free (wc := [(h0, .inr (6, [v0, v1, v2, v3, v4, .ref ph, .ref t0, v7])), (t0, .inl (tc, 7, .inl tf))]) hD hS hA [0, 1] rfl
        refine va_calli (va_runV (As := [.int (-1000000001)]) (rest := []) ⟨hx, hb, hml, hown, hts⟩ (f_beyond l dC dI ad h0 v0 v1 v2 v3 v4 (.ref ph) t0 v7 tc tf s.heap.size ) (cwV 1 hts g_x_write_f_beyond_63 rfl rfl rfl (by decide +kernel) ⟨(Nat.le_of_ble_eq_true rfl), (Nat.le_of_ble_eq_true rfl)⟩) ⟨preM_blind, va_recv hKc hPc (ci := 6) (q0 := 0) rfl rfl, fun U hU hW => ⟨rfl, preM_at hU hW hPc hKc hDc hev⟩⟩ rfl rfl hl.1 rfl (lv_room (Nat.le_of_ble_eq_true rfl)) dX8_write_53 ⟨(Nat.le_of_ble_eq_true rfl), (Nat.le_of_ble_eq_true rfl)⟩) hS (fun q _ h => hFc q h) hFc (fun r_11 u t H1 locs ht hvm hw hB hz1 hk1 hS => ?_)
        obtain ⟨tg_12, hP1, hK1, hD1⟩ := hB
        rw [ht] at hP1
        have hK1 := va_K.moved hvm.symm hK1
        obtain ⟨hP, hD⟩ := va_join (wr := [(ph, .inl (pc, 4, .inr (.inr (.inr (.inr pf))))), (p0, .inr (0, [.int b0, .int z0, .ref n0])), (n0, .inl (nc0, 40, .inr (.inl g0))), (p1, .inr (0, [.int b1, .int z1, .ref n1])), (n1, .inl (nc1, 40, .inr (.inl g1))), (p2, .inr (0, [.int b2, .int z2, .ref n2])), (n2, .inl (nc2, 40, .inr (.inl g2))), (p3, .inr (0, [.int b3, .int z3, .ref n3])), (n3, .inl (nc3, 40, .inr (.inl g3)))]) (w1 := [(h0, .inr (6, [v0, v1, v2, v3, v4, .ref ph, .ref t0, v7])), (t0, .inl (tc, 7, .inl tg_12))]) hP hD [0, 1] [2, 3, 4, 5, 6, 7, 8, 9, 10] rfl rfl (by decide) (by decide) hk1 hFc hP1 hD1
        generalize H1 = H at hP hS ⊢
        have hP : va_P (dC, dI) vwCl [(ph, .inl (pc, 4, .inr (.inr (.inr (.inr pf))))), (p0, .inr (0, [.int b0, .int z0, .ref n0])), (n0, .inl (nc0, 40, .inr (.inl g0))), (p1, .inr (0, [.int b1, .int z1, .ref n1])), (n1, .inl (nc1, 40, .inr (.inl g1))), (p2, .inr (0, [.int b2, .int z2, .ref n2])), (n2, .inl (nc2, 40, .inr (.inl g2))), (p3, .inr (0, [.int b3, .int z3, .ref n3])), (n3, .inl (nc3, 40, .inr (.inl g3))), (h0, .inr (6, [v0, v1, v2, v3, v4, .ref ph, .ref t0, v7])), (t0, .inl (tc, 7, .inl tg_12))] H := hP
        have hD : va_D A [(ph, .inl (pc, 4, .inr (.inr (.inr (.inr pf))))), (p0, .inr (0, [.int b0, .int z0, .ref n0])), (n0, .inl (nc0, 40, .inr (.inl g0))), (p1, .inr (0, [.int b1, .int z1, .ref n1])), (n1, .inl (nc1, 40, .inr (.inl g1))), (p2, .inr (0, [.int b2, .int z2, .ref n2])), (n2, .inl (nc2, 40, .inr (.inl g2))), (p3, .inr (0, [.int b3, .int z3, .ref n3])), (n3, .inl (nc3, 40, .inr (.inl g3))), (h0, .inr (6, [v0, v1, v2, v3, v4, .ref ph, .ref t0, v7])), (t0, .inl (tc, 7, .inl tg_12))] := hD
        subst hw
        refine lv_i2l (v := (-1000000001)) hx hb dX8_write_56 (by decide) ?_
        have hP9 := hP.sub (ws' := [(h0, .inr (6, [v0, v1, v2, v3, v4, .ref ph, .ref t0, v7])), (t0, .inl (tc, 7, .inl tg_12)), (ph, .inl (pc, 4, .inr (.inr (.inr (.inr pf))))), (p0, .inr (0, [.int b0, .int z0, .ref n0])), (n0, .inl (nc0, 40, .inr (.inl g0))), (p1, .inr (0, [.int b1, .int z1, .ref n1])), (n1, .inl (nc1, 40, .inr (.inl g1))), (p2, .inr (0, [.int b2, .int z2, .ref n2])), (n2, .inl (nc2, 40, .inr (.inl g2))), (p3, .inr (0, [.int b3, .int z3, .ref n3])), (n3, .inl (nc3, 40, .inr (.inl g3)))]) [9, 10, 0, 1, 2, 3, 4, 5, 6, 7, 8] rfl
        have hD9 := hD.sub (ws' := [(h0, .inr (6, [v0, v1, v2, v3, v4, .ref ph, .ref t0, v7])), (t0, .inl (tc, 7, .inl tg_12)), (ph, .inl (pc, 4, .inr (.inr (.inr (.inr pf))))), (p0, .inr (0, [.int b0, .int z0, .ref n0])), (n0, .inl (nc0, 40, .inr (.inl g0))), (p1, .inr (0, [.int b1, .int z1, .ref n1])), (n1, .inl (nc1, 40, .inr (.inl g1))), (p2, .inr (0, [.int b2, .int z2, .ref n2])), (n2, .inl (nc2, 40, .inr (.inl g2))), (p3, .inr (0, [.int b3, .int z3, .ref n3])), (n3, .inl (nc3, 40, .inr (.inl g3)))]) [9, 10, 0, 1, 2, 3, 4, 5, 6, 7, 8] (by decide) rfl
        have hK9 := hK.sub (tys' := [(tc, .int), (pc, .object "LampShapes$Paper"), (nc0, .long), (nc1, .long), (nc2, .long), (nc3, .long)]) [0, 1, 2, 3, 4, 5] rfl
        exact W.lret (v := ((-1000000001) : Int64)) hx hb hr (fun t ht hW => ⟨⟨((-1000000001) : Int64), (), rfl, trivial, tg_12, g0, g1, g2, g3, by rw [ht]; exact hP9, va_K.moved hW.alike hK9, hD9⟩, hS.F ht⟩) hS.2.2 dX8_write_57
      · skip
        have tc_10 : ¬ i.toInt < 0 := fun h => c_10 ((fa_lt _ _).mpr h)
        refine lv_iload_n hx hb dX8_write_41 rfl (lv_at hl 3 rfl) ?_
        refine lv_aload hx hb dX8_write_42 (lv_at hl 0 rfl) ?_
        refine va_getN (D := (dC, dI)) (ci := 0) (v := .int z0) (C := RX2) (T := TX2) (N := 3) hx hb hts inX2 hown hK hP 3 rfl rfl 1 (by decide) (ev_nest hev 22 rfl) (fun _ h9 => h9) rfl dX8_write_44 ?_
        have rc_13_x := pp_rng i
        have rc_13_y := pp_rng z0
        refine lv_icmp_lt (tgt := 58) hx hb dX8_write_47 (by decide) (fun c_13 => ?_) (fun c_13 => ?_)
        · skip
          have tc_13 : i.toInt < z0.toInt := (fa_lt _ _).mp c_13
          refine lv_aload hx hb dX8_write_58 (lv_at hl 0 rfl) ?_
          refine va_getN (D := (dC, dI)) (ci := 0) (v := .ref n0) (C := RX2) (T := TX2) (N := 3) hx hb hts inX2 hown hK hP 3 rfl rfl 2 (by decide) (ev_nest hev 23 rfl) (fun _ h9 => h9) rfl dX8_write_60 ?_
          refine lv_iload_n hx hb dX8_write_63 rfl (lv_at hl 3 rfl) ?_
          refine va_lald hx hb hK hP 4 2 rfl rfl (vp_in_iff.mpr ⟨by omega, by omega⟩) dX8_write_64 ?_
          refine lv_topl (fun n_14 en_14 => ?_)
          clear en_14
          refine lv_lstore (lv' := [(6, .long n_14), (5, .ref p0), (0, .ref h0), (1, .int 0), (2, .int i), (3, .long v)]) hx hb dX8_write_65 hl (by decide) rfl (fun ls hl => ?_)
          refine lv_aload hx hb dX8_write_67 (lv_at hl 1 rfl) ?_
          refine lv_iload_n hx hb dX8_write_69 rfl (lv_at hl 4 rfl) ?_
          refine lv_lload_n hx hb dX8_write_70 rfl (lv_at hl 5 rfl) ?_
          have hPc := hP.sub (ws' := [(p0, .inr (0, [.int b0, .int z0, .ref n0])), (n0, .inl (nc0, 40, .inr (.inl g0)))]) [3, 4] rfl
          have hKc := hK.sub (tys' := [(nc0, .long)]) [2] rfl
          have hDc := hD.sub (ws' := [(p0, .inr (0, [.int b0, .int z0, .ref n0])), (n0, .inl (nc0, 40, .inr (.inl g0)))]) [3, 4] (by decide) rfl
          have hFc := va_free (wc := [(p0, .inr (0, [.int b0, .int z0, .ref n0])), (n0, .inl (nc0, 40, .inr (.inl g0)))]) hD hS hA [3, 4] rfl
          refine va_callv (va_runV (As := [.int i, .long v]) (rest := []) ⟨hx, hb, hml, hown, hts⟩ (p_put l dC dI ad p0 i v b0 (.int z0) n0 nc0 g0 s.heap.size (by first | omega | decide | (simp only [fa_lt, fa_le, fa_eq, and_true, true_and, and_false, false_and, not_true_eq_false, not_false_eq_true, li_0, li_1, li_2, li_3, li_4, li_5, li_6, li_7, li_8, li_9, li_10, li_12, li_15, li_16, li_20, li_30, li_34, li_38, li_40, li_63, li_64, li_65, li_78, li_120, li_1000, li_4000, li_10000, li_11077, li_255, li_65535, li_m1, li_m2, li_m1000000001, li_m1000000002, li_m1000000003, li_m1000000004, li_m1000000005, li_m1000000006, li_m1000000007, or_true, true_or, or_false, false_or, implies_true, true_implies, false_implies] <;> omega))) (cwV 2 hts g_x_write_p_put_275 rfl rfl rfl (by decide +kernel) ⟨(Nat.le_of_ble_eq_true rfl), (Nat.le_of_ble_eq_true rfl)⟩) ⟨preM_blind, va_recv hKc hPc (ci := 0) (q0 := 0) rfl rfl, fun U hU hW => ⟨rfl, preM_at hU hW hPc hKc hDc hev⟩⟩ rfl rfl hl.1 rfl (lv_room (Nat.le_of_ble_eq_true rfl)) dX8_write_71 ⟨(Nat.le_of_ble_eq_true rfl), (Nat.le_of_ble_eq_true rfl)⟩) hS (fun q _ h => hFc q h) hFc (fun u t H1 locs ht hvm hw hB hz1 hk1 hS => ?_)
          obtain ⟨g_16, hP1, hK1, hD1⟩ := hB
          rw [ht] at hP1
          have hK1 := va_K.moved hvm.symm hK1
          obtain ⟨hP, hD⟩ := va_join (wr := [(h0, .inr (6, [v0, v1, v2, v3, v4, .ref ph, .ref t0, v7])), (t0, .inl (tc, 7, .inl tf)), (ph, .inl (pc, 4, .inr (.inr (.inr (.inr pf))))), (p1, .inr (0, [.int b1, .int z1, .ref n1])), (n1, .inl (nc1, 40, .inr (.inl g1))), (p2, .inr (0, [.int b2, .int z2, .ref n2])), (n2, .inl (nc2, 40, .inr (.inl g2))), (p3, .inr (0, [.int b3, .int z3, .ref n3])), (n3, .inl (nc3, 40, .inr (.inl g3)))]) (w1 := [(p0, .inr (0, [.int b0, .int z0, .ref n0])), (n0, .inl (nc0, 40, .inr (.inl g_16)))]) hP hD [3, 4] [0, 1, 2, 5, 6, 7, 8, 9, 10] rfl rfl (by decide) (by decide) hk1 hFc hP1 hD1
          generalize H1 = H at hP hS ⊢
          have hP : va_P (dC, dI) vwCl [(h0, .inr (6, [v0, v1, v2, v3, v4, .ref ph, .ref t0, v7])), (t0, .inl (tc, 7, .inl tf)), (ph, .inl (pc, 4, .inr (.inr (.inr (.inr pf))))), (p1, .inr (0, [.int b1, .int z1, .ref n1])), (n1, .inl (nc1, 40, .inr (.inl g1))), (p2, .inr (0, [.int b2, .int z2, .ref n2])), (n2, .inl (nc2, 40, .inr (.inl g2))), (p3, .inr (0, [.int b3, .int z3, .ref n3])), (n3, .inl (nc3, 40, .inr (.inl g3))), (p0, .inr (0, [.int b0, .int z0, .ref n0])), (n0, .inl (nc0, 40, .inr (.inl g_16)))] H := hP
          have hD : va_D A [(h0, .inr (6, [v0, v1, v2, v3, v4, .ref ph, .ref t0, v7])), (t0, .inl (tc, 7, .inl tf)), (ph, .inl (pc, 4, .inr (.inr (.inr (.inr pf))))), (p1, .inr (0, [.int b1, .int z1, .ref n1])), (n1, .inl (nc1, 40, .inr (.inl g1))), (p2, .inr (0, [.int b2, .int z2, .ref n2])), (n2, .inl (nc2, 40, .inr (.inl g2))), (p3, .inr (0, [.int b3, .int z3, .ref n3])), (n3, .inl (nc3, 40, .inr (.inl g3))), (p0, .inr (0, [.int b0, .int z0, .ref n0])), (n0, .inl (nc0, 40, .inr (.inl g_16)))] := hD
          refine lv_lload hx hb dX8_write_74 (lv_at hl 0 rfl) ?_
          have hP9 := hP.sub (ws' := [(h0, .inr (6, [v0, v1, v2, v3, v4, .ref ph, .ref t0, v7])), (t0, .inl (tc, 7, .inl tf)), (ph, .inl (pc, 4, .inr (.inr (.inr (.inr pf))))), (p0, .inr (0, [.int b0, .int z0, .ref n0])), (n0, .inl (nc0, 40, .inr (.inl g_16))), (p1, .inr (0, [.int b1, .int z1, .ref n1])), (n1, .inl (nc1, 40, .inr (.inl g1))), (p2, .inr (0, [.int b2, .int z2, .ref n2])), (n2, .inl (nc2, 40, .inr (.inl g2))), (p3, .inr (0, [.int b3, .int z3, .ref n3])), (n3, .inl (nc3, 40, .inr (.inl g3)))]) [0, 1, 2, 9, 10, 3, 4, 5, 6, 7, 8] rfl
          have hD9 := hD.sub (ws' := [(h0, .inr (6, [v0, v1, v2, v3, v4, .ref ph, .ref t0, v7])), (t0, .inl (tc, 7, .inl tf)), (ph, .inl (pc, 4, .inr (.inr (.inr (.inr pf))))), (p0, .inr (0, [.int b0, .int z0, .ref n0])), (n0, .inl (nc0, 40, .inr (.inl g_16))), (p1, .inr (0, [.int b1, .int z1, .ref n1])), (n1, .inl (nc1, 40, .inr (.inl g1))), (p2, .inr (0, [.int b2, .int z2, .ref n2])), (n2, .inl (nc2, 40, .inr (.inl g2))), (p3, .inr (0, [.int b3, .int z3, .ref n3])), (n3, .inl (nc3, 40, .inr (.inl g3)))]) [0, 1, 2, 9, 10, 3, 4, 5, 6, 7, 8] (by decide) rfl
          have hK9 := hK.sub (tys' := [(tc, .int), (pc, .object "LampShapes$Paper"), (nc0, .long), (nc1, .long), (nc2, .long), (nc3, .long)]) [0, 1, 2, 3, 4, 5] rfl
          exact W.lret (v := n_14) hx hb hr (fun t ht hW => ⟨⟨n_14, (), rfl, trivial, tf, g_16, g1, g2, g3, by rw [ht]; exact hP9, va_K.moved hW.alike hK9, hD9⟩, hS.F ht⟩) hS.2.2 dX8_write_76
        · skip
          have tc_13 : ¬ i.toInt < z0.toInt := fun h => c_13 ((fa_lt _ _).mpr h)
          refine lv_aload_n hx hb dX8_write_50 rfl (lv_at hl 1 rfl) ?_
          refine lv_ldc hx hb hown (hts _ (List.mem_of_getElem? (i := 6) rfl)) dX8_write_51 ?_
          have hPc := hP.sub (ws' := [(h0, .inr (6, [v0, v1, v2, v3, v4, .ref ph, .ref t0, v7])), (t0, .inl (tc, 7, .inl tf))]) [0, 1] rfl
          have hKc := hK.sub (tys' := [(tc, .int)]) [0] rfl
          have hDc := hD.sub (ws' := [(h0, .inr (6, [v0, v1, v2, v3, v4, .ref ph, .ref t0, v7])), (t0, .inl (tc, 7, .inl tf))]) [0, 1] (by decide) rfl
          have hFc := va_free (wc := [(h0, .inr (6, [v0, v1, v2, v3, v4, .ref ph, .ref t0, v7])), (t0, .inl (tc, 7, .inl tf))]) hD hS hA [0, 1] rfl
          refine va_calli (va_runV (As := [.int (-1000000001)]) (rest := []) ⟨hx, hb, hml, hown, hts⟩ (f_beyond l dC dI ad h0 v0 v1 v2 v3 v4 (.ref ph) t0 v7 tc tf s.heap.size ) (cwV 1 hts g_x_write_f_beyond_63 rfl rfl rfl (by decide +kernel) ⟨(Nat.le_of_ble_eq_true rfl), (Nat.le_of_ble_eq_true rfl)⟩) ⟨preM_blind, va_recv hKc hPc (ci := 6) (q0 := 0) rfl rfl, fun U hU hW => ⟨rfl, preM_at hU hW hPc hKc hDc hev⟩⟩ rfl rfl hl.1 rfl (lv_room (Nat.le_of_ble_eq_true rfl)) dX8_write_53 ⟨(Nat.le_of_ble_eq_true rfl), (Nat.le_of_ble_eq_true rfl)⟩) hS (fun q _ h => hFc q h) hFc (fun r_17 u t H1 locs ht hvm hw hB hz1 hk1 hS => ?_)
          obtain ⟨tg_18, hP1, hK1, hD1⟩ := hB
          rw [ht] at hP1
          have hK1 := va_K.moved hvm.symm hK1
          obtain ⟨hP, hD⟩ := va_join (wr := [(ph, .inl (pc, 4, .inr (.inr (.inr (.inr pf))))), (p0, .inr (0, [.int b0, .int z0, .ref n0])), (n0, .inl (nc0, 40, .inr (.inl g0))), (p1, .inr (0, [.int b1, .int z1, .ref n1])), (n1, .inl (nc1, 40, .inr (.inl g1))), (p2, .inr (0, [.int b2, .int z2, .ref n2])), (n2, .inl (nc2, 40, .inr (.inl g2))), (p3, .inr (0, [.int b3, .int z3, .ref n3])), (n3, .inl (nc3, 40, .inr (.inl g3)))]) (w1 := [(h0, .inr (6, [v0, v1, v2, v3, v4, .ref ph, .ref t0, v7])), (t0, .inl (tc, 7, .inl tg_18))]) hP hD [0, 1] [2, 3, 4, 5, 6, 7, 8, 9, 10] rfl rfl (by decide) (by decide) hk1 hFc hP1 hD1
          generalize H1 = H at hP hS ⊢
          have hP : va_P (dC, dI) vwCl [(ph, .inl (pc, 4, .inr (.inr (.inr (.inr pf))))), (p0, .inr (0, [.int b0, .int z0, .ref n0])), (n0, .inl (nc0, 40, .inr (.inl g0))), (p1, .inr (0, [.int b1, .int z1, .ref n1])), (n1, .inl (nc1, 40, .inr (.inl g1))), (p2, .inr (0, [.int b2, .int z2, .ref n2])), (n2, .inl (nc2, 40, .inr (.inl g2))), (p3, .inr (0, [.int b3, .int z3, .ref n3])), (n3, .inl (nc3, 40, .inr (.inl g3))), (h0, .inr (6, [v0, v1, v2, v3, v4, .ref ph, .ref t0, v7])), (t0, .inl (tc, 7, .inl tg_18))] H := hP
          have hD : va_D A [(ph, .inl (pc, 4, .inr (.inr (.inr (.inr pf))))), (p0, .inr (0, [.int b0, .int z0, .ref n0])), (n0, .inl (nc0, 40, .inr (.inl g0))), (p1, .inr (0, [.int b1, .int z1, .ref n1])), (n1, .inl (nc1, 40, .inr (.inl g1))), (p2, .inr (0, [.int b2, .int z2, .ref n2])), (n2, .inl (nc2, 40, .inr (.inl g2))), (p3, .inr (0, [.int b3, .int z3, .ref n3])), (n3, .inl (nc3, 40, .inr (.inl g3))), (h0, .inr (6, [v0, v1, v2, v3, v4, .ref ph, .ref t0, v7])), (t0, .inl (tc, 7, .inl tg_18))] := hD
          subst hw
          refine lv_i2l (v := (-1000000001)) hx hb dX8_write_56 (by decide) ?_
          have hP9 := hP.sub (ws' := [(h0, .inr (6, [v0, v1, v2, v3, v4, .ref ph, .ref t0, v7])), (t0, .inl (tc, 7, .inl tg_18)), (ph, .inl (pc, 4, .inr (.inr (.inr (.inr pf))))), (p0, .inr (0, [.int b0, .int z0, .ref n0])), (n0, .inl (nc0, 40, .inr (.inl g0))), (p1, .inr (0, [.int b1, .int z1, .ref n1])), (n1, .inl (nc1, 40, .inr (.inl g1))), (p2, .inr (0, [.int b2, .int z2, .ref n2])), (n2, .inl (nc2, 40, .inr (.inl g2))), (p3, .inr (0, [.int b3, .int z3, .ref n3])), (n3, .inl (nc3, 40, .inr (.inl g3)))]) [9, 10, 0, 1, 2, 3, 4, 5, 6, 7, 8] rfl
          have hD9 := hD.sub (ws' := [(h0, .inr (6, [v0, v1, v2, v3, v4, .ref ph, .ref t0, v7])), (t0, .inl (tc, 7, .inl tg_18)), (ph, .inl (pc, 4, .inr (.inr (.inr (.inr pf))))), (p0, .inr (0, [.int b0, .int z0, .ref n0])), (n0, .inl (nc0, 40, .inr (.inl g0))), (p1, .inr (0, [.int b1, .int z1, .ref n1])), (n1, .inl (nc1, 40, .inr (.inl g1))), (p2, .inr (0, [.int b2, .int z2, .ref n2])), (n2, .inl (nc2, 40, .inr (.inl g2))), (p3, .inr (0, [.int b3, .int z3, .ref n3])), (n3, .inl (nc3, 40, .inr (.inl g3)))]) [9, 10, 0, 1, 2, 3, 4, 5, 6, 7, 8] (by decide) rfl
          have hK9 := hK.sub (tys' := [(tc, .int), (pc, .object "LampShapes$Paper"), (nc0, .long), (nc1, .long), (nc2, .long), (nc3, .long)]) [0, 1, 2, 3, 4, 5] rfl
          exact W.lret (v := ((-1000000001) : Int64)) hx hb hr (fun t ht hW => ⟨⟨((-1000000001) : Int64), (), rfl, trivial, tg_18, g0, g1, g2, g3, by rw [ht]; exact hP9, va_K.moved hW.alike hK9, hD9⟩, hS.F ht⟩) hS.2.2 dX8_write_57
    · skip
      have tc_9 : ¬ r_8.toInt = 0 := fun h => c_9 ((fa_eq _ _).mpr h)
      refine lv_aload_n hx hb dX8_write_28 rfl (lv_at hl 1 rfl) ?_
      refine lv_ldcw hx hb hown (hts _ (List.mem_of_getElem? (i := 24) rfl)) dX8_write_29 ?_
      have hPc := hP.sub (ws' := [(h0, .inr (6, [v0, v1, v2, v3, v4, .ref ph, .ref t0, v7])), (t0, .inl (tc, 7, .inl tf))]) [0, 1] rfl
      have hKc := hK.sub (tys' := [(tc, .int)]) [0] rfl
      have hDc := hD.sub (ws' := [(h0, .inr (6, [v0, v1, v2, v3, v4, .ref ph, .ref t0, v7])), (t0, .inl (tc, 7, .inl tf))]) [0, 1] (by decide) rfl
      have hFc := va_free (wc := [(h0, .inr (6, [v0, v1, v2, v3, v4, .ref ph, .ref t0, v7])), (t0, .inl (tc, 7, .inl tf))]) hD hS hA [0, 1] rfl
      refine va_calli (va_runV (As := [.int (-1000000006)]) (rest := []) ⟨hx, hb, hml, hown, hts⟩ (f_missing l dC dI ad h0 v0 v1 v2 v3 v4 (.ref ph) t0 v7 tc tf s.heap.size ) (cwV 1 hts g_x_write_f_missing_63 rfl rfl rfl (by decide +kernel) ⟨(Nat.le_of_ble_eq_true rfl), (Nat.le_of_ble_eq_true rfl)⟩) ⟨preM_blind, va_recv hKc hPc (ci := 6) (q0 := 0) rfl rfl, fun U hU hW => ⟨rfl, preM_at hU hW hPc hKc hDc hev⟩⟩ rfl rfl hl.1 rfl (lv_room (Nat.le_of_ble_eq_true rfl)) dX8_write_32 ⟨(Nat.le_of_ble_eq_true rfl), (Nat.le_of_ble_eq_true rfl)⟩) hS (fun q _ h => hFc q h) hFc (fun r_19 u t H1 locs ht hvm hw hB hz1 hk1 hS => ?_)
      obtain ⟨tg_20, hP1, hK1, hD1⟩ := hB
      rw [ht] at hP1
      have hK1 := va_K.moved hvm.symm hK1
      obtain ⟨hP, hD⟩ := va_join (wr := [(ph, .inl (pc, 4, .inr (.inr (.inr (.inr pf))))), (p0, .inr (0, [.int b0, .int z0, .ref n0])), (n0, .inl (nc0, 40, .inr (.inl g0))), (p1, .inr (0, [.int b1, .int z1, .ref n1])), (n1, .inl (nc1, 40, .inr (.inl g1))), (p2, .inr (0, [.int b2, .int z2, .ref n2])), (n2, .inl (nc2, 40, .inr (.inl g2))), (p3, .inr (0, [.int b3, .int z3, .ref n3])), (n3, .inl (nc3, 40, .inr (.inl g3)))]) (w1 := [(h0, .inr (6, [v0, v1, v2, v3, v4, .ref ph, .ref t0, v7])), (t0, .inl (tc, 7, .inl tg_20))]) hP hD [0, 1] [2, 3, 4, 5, 6, 7, 8, 9, 10] rfl rfl (by decide) (by decide) hk1 hFc hP1 hD1
      generalize H1 = H at hP hS ⊢
      have hP : va_P (dC, dI) vwCl [(ph, .inl (pc, 4, .inr (.inr (.inr (.inr pf))))), (p0, .inr (0, [.int b0, .int z0, .ref n0])), (n0, .inl (nc0, 40, .inr (.inl g0))), (p1, .inr (0, [.int b1, .int z1, .ref n1])), (n1, .inl (nc1, 40, .inr (.inl g1))), (p2, .inr (0, [.int b2, .int z2, .ref n2])), (n2, .inl (nc2, 40, .inr (.inl g2))), (p3, .inr (0, [.int b3, .int z3, .ref n3])), (n3, .inl (nc3, 40, .inr (.inl g3))), (h0, .inr (6, [v0, v1, v2, v3, v4, .ref ph, .ref t0, v7])), (t0, .inl (tc, 7, .inl tg_20))] H := hP
      have hD : va_D A [(ph, .inl (pc, 4, .inr (.inr (.inr (.inr pf))))), (p0, .inr (0, [.int b0, .int z0, .ref n0])), (n0, .inl (nc0, 40, .inr (.inl g0))), (p1, .inr (0, [.int b1, .int z1, .ref n1])), (n1, .inl (nc1, 40, .inr (.inl g1))), (p2, .inr (0, [.int b2, .int z2, .ref n2])), (n2, .inl (nc2, 40, .inr (.inl g2))), (p3, .inr (0, [.int b3, .int z3, .ref n3])), (n3, .inl (nc3, 40, .inr (.inl g3))), (h0, .inr (6, [v0, v1, v2, v3, v4, .ref ph, .ref t0, v7])), (t0, .inl (tc, 7, .inl tg_20))] := hD
      subst hw
      refine lv_i2l (v := (-1000000006)) hx hb dX8_write_35 (by decide) ?_
      have hP9 := hP.sub (ws' := [(h0, .inr (6, [v0, v1, v2, v3, v4, .ref ph, .ref t0, v7])), (t0, .inl (tc, 7, .inl tg_20)), (ph, .inl (pc, 4, .inr (.inr (.inr (.inr pf))))), (p0, .inr (0, [.int b0, .int z0, .ref n0])), (n0, .inl (nc0, 40, .inr (.inl g0))), (p1, .inr (0, [.int b1, .int z1, .ref n1])), (n1, .inl (nc1, 40, .inr (.inl g1))), (p2, .inr (0, [.int b2, .int z2, .ref n2])), (n2, .inl (nc2, 40, .inr (.inl g2))), (p3, .inr (0, [.int b3, .int z3, .ref n3])), (n3, .inl (nc3, 40, .inr (.inl g3)))]) [9, 10, 0, 1, 2, 3, 4, 5, 6, 7, 8] rfl
      have hD9 := hD.sub (ws' := [(h0, .inr (6, [v0, v1, v2, v3, v4, .ref ph, .ref t0, v7])), (t0, .inl (tc, 7, .inl tg_20)), (ph, .inl (pc, 4, .inr (.inr (.inr (.inr pf))))), (p0, .inr (0, [.int b0, .int z0, .ref n0])), (n0, .inl (nc0, 40, .inr (.inl g0))), (p1, .inr (0, [.int b1, .int z1, .ref n1])), (n1, .inl (nc1, 40, .inr (.inl g1))), (p2, .inr (0, [.int b2, .int z2, .ref n2])), (n2, .inl (nc2, 40, .inr (.inl g2))), (p3, .inr (0, [.int b3, .int z3, .ref n3])), (n3, .inl (nc3, 40, .inr (.inl g3)))]) [9, 10, 0, 1, 2, 3, 4, 5, 6, 7, 8] (by decide) rfl
      have hK9 := hK.sub (tys' := [(tc, .int), (pc, .object "LampShapes$Paper"), (nc0, .long), (nc1, .long), (nc2, .long), (nc3, .long)]) [0, 1, 2, 3, 4, 5] rfl
      exact W.lret (v := ((-1000000006) : Int64)) hx hb hr (fun t ht hW => ⟨⟨((-1000000006) : Int64), (), rfl, trivial, tg_20, g0, g1, g2, g3, by rw [ht]; exact hP9, va_K.moved hW.alike hK9, hD9⟩, hS.F ht⟩) hS.2.2 dX8_write_36
  · skip
    refine Met.ofW (cc := cX8_write) (maxL := 8) (ret := (some .long)) (by decide) rfl ?_
    intro p e s m args below meth c s₁ B hml hv
    obtain ⟨rfl, hsz, hP, hK, hD0, hev⟩ := hv
    have hx := B.exec
    have hb := B.bytes
    have hr := B.returns
    have hts := atoms_spec (ws := w_x_write) B.pre
    have hown : s.vm.findClass RX8 = some m.cls := findClass_of_methodNamed B.named
    have hlocks := B.notSynchronized
    have inX8 : ∀ w ∈ wsX80, w ∈ w_x_write := fun w h => List.mem_cons_of_mem _ (List.mem_append_left _ (List.mem_append_right _ h))
    have inX2 : ∀ w ∈ wsX20, w ∈ w_x_write := fun w h => List.mem_cons_of_mem _ (List.mem_append_right _ h)
    subst hsz
    have hD := hD0.self (sz := s.heap.size)
    generalize hAe : va_A [(h0, .inr (6, [v0, v1, v2, v3, v4, .ref ph, .ref t0, v7])), (t0, .inl (tc, 7, .inl tf)), (ph, .inl (pc, 4, .inr (.inr (.inr (.inr pf))))), (p0, .inr (0, [.int b0, .int z0, .ref n0])), (n0, .inl (nc0, 40, .inr (.inl g0))), (p1, .inr (0, [.int b1, .int z1, .ref n1])), (n1, .inl (nc1, 40, .inr (.inl g1))), (p2, .inr (0, [.int b2, .int z2, .ref n2])), (n2, .inl (nc2, 40, .inr (.inl g2))), (p3, .inr (0, [.int b3, .int z3, .ref n3])), (n3, .inl (nc3, 40, .inr (.inl g3)))] s.heap.size = A at hD ⊢
    have hA : ∀ q : Nat, s.heap.size ≤ q → A q := fun q h => by rw [← hAe]; exact Or.inr h
    have hS : va_S A s.heap s.heap [] := va_S.rf
    have hP : va_P (dC, dI) vwCl [(h0, .inr (6, [v0, v1, v2, v3, v4, .ref ph, .ref t0, v7])), (t0, .inl (tc, 7, .inl tf)), (ph, .inl (pc, 4, .inr (.inr (.inr (.inr pf))))), (p0, .inr (0, [.int b0, .int z0, .ref n0])), (n0, .inl (nc0, 40, .inr (.inl g0))), (p1, .inr (0, [.int b1, .int z1, .ref n1])), (n1, .inl (nc1, 40, .inr (.inl g1))), (p2, .inr (0, [.int b2, .int z2, .ref n2])), (n2, .inl (nc2, 40, .inr (.inl g2))), (p3, .inr (0, [.int b3, .int z3, .ref n3])), (n3, .inl (nc3, 40, .inr (.inl g3)))] s.heap := hP
    have hl := lv_entry ([.ref h0, .int 1, .int i, .long v]) (n := 8) (Nat.le_of_ble_eq_true rfl)
    rw [lg_entry_eq]
    generalize (lg_sl ([.ref h0, .int 1, .int i, .long v]) ++ List.replicate (8 - (lg_sl ([.ref h0, .int 1, .int i, .long v])).length) Slot.unset).toArray = ls at hl ⊢
    have hl : lv_has ls 8 [(0, .ref h0), (1, .int 1), (2, .int i), (3, .long v)] := hl
    refine lv_aload_n hx hb dX8_write_0 rfl (lv_at hl 0 rfl) ?_
    refine lv_iload_n hx hb dX8_write_1 rfl (lv_at hl 1 rfl) ?_
    have hPc := hP.sub (ws' := [(h0, .inr (6, [v0, v1, v2, v3, v4, .ref ph, .ref t0, v7])), (ph, .inl (pc, 4, .inr (.inr (.inr (.inr pf)))))]) [0, 2] rfl
    have hKc := hK.sub (tys' := [(pc, .object "LampShapes$Paper")]) [1] rfl
    refine va_csq (W.runV (As := [.int 1]) (rest := []) ⟨hx, hb, hml, hown, hts⟩ (c_paperAt_1 l dC dI ad h0 v0 v1 v2 v3 v4 ph (.ref t0) v7 pc pf p1 hp1) (cwV 1 hts g_x_write_c_paperAt_1_256 rfl rfl rfl (by decide +kernel) ⟨(Nat.le_of_ble_eq_true rfl), (Nat.le_of_ble_eq_true rfl)⟩) ⟨preS_blind, va_recv hKc hPc (ci := 6) (q0 := 0) rfl rfl, fun U hU hW => ⟨rfl, preS_at hU hW hPc hKc hev⟩⟩ rfl rfl hl.1 rfl (lv_room (Nat.le_of_ble_eq_true rfl)) dX8_write_2 ⟨(Nat.le_of_ble_eq_true rfl), (Nat.le_of_ble_eq_true rfl)⟩) (fun r_21 hw => ?_)
    subst hw
    refine pp_tv (y := .ref p1) rfl ?_
    refine lv_astore (lv' := [(5, .ref p1), (0, .ref h0), (1, .int 1), (2, .int i), (3, .long v)]) hx hb dX8_write_5 hl (by decide) rfl (fun ls hl => ?_)
    refine lv_aload hx hb dX8_write_7 (lv_at hl 0 rfl) ?_
    refine lv_ifnonnull (tgt := 20) hx hb dX8_write_9 (by decide) ?_
    refine lv_aload hx hb dX8_write_20 (lv_at hl 0 rfl) ?_
    have hPc := hP.sub (ws' := [(p1, .inr (0, [.int b1, .int z1, .ref n1]))]) [5] rfl
    have hKc := hK.sub (tys' := []) [] rfl
    refine vp_callSi (W.runV (As := []) (rest := []) ⟨hx, hb, hml, hown, hts⟩ (p_isMissing l dC dI ad p1 b1 (.int z1) (.ref n1) ) (cwV 0 hts g_x_write_p_isMissing_268 rfl rfl rfl (by decide +kernel) ⟨(Nat.le_of_ble_eq_true rfl), (Nat.le_of_ble_eq_true rfl)⟩) ⟨preS_blind, va_recv hKc hPc (ci := 0) (q0 := 0) rfl rfl, fun U hU hW => ⟨rfl, preS_at hU hW hPc hKc hev⟩⟩ rfl rfl hl.1 rfl (lv_room (Nat.le_of_ble_eq_true rfl)) dX8_write_22 ⟨(Nat.le_of_ble_eq_true rfl), (Nat.le_of_ble_eq_true rfl)⟩) (fun r_22 hw => ?_)
    have hr_22 : (r_22.toInt = 1 ∧ b1.toInt = 0) ∨ (r_22.toInt = 0 ∧ ¬ b1.toInt = 0) := hw
    refine lv_if_eq (tgt := 37) hx hb dX8_write_25 (by decide) (fun c_23 => ?_) (fun c_23 => ?_)
    · skip
      have tc_23 : r_22.toInt = 0 := (fa_eq _ _).mp c_23
      refine lv_iload_n hx hb dX8_write_37 rfl (lv_at hl 3 rfl) ?_
      refine lv_if_lt (tgt := 50) hx hb dX8_write_38 (by decide) (fun c_24 => ?_) (fun c_24 => ?_)
      · skip
        have tc_24 : i.toInt < 0 := (fa_lt _ _).mp c_24
        refine lv_aload_n hx hb dX8_write_50 rfl (lv_at hl 1 rfl) ?_
        refine lv_ldc hx hb hown (hts _ (List.mem_of_getElem? (i := 6) rfl)) dX8_write_51 ?_
        have hPc := hP.sub (ws' := [(h0, .inr (6, [v0, v1, v2, v3, v4, .ref ph, .ref t0, v7])), (t0, .inl (tc, 7, .inl tf))]) [0, 1] rfl
        have hKc := hK.sub (tys' := [(tc, .int)]) [0] rfl
        have hDc := hD.sub (ws' := [(h0, .inr (6, [v0, v1, v2, v3, v4, .ref ph, .ref t0, v7])), (t0, .inl (tc, 7, .inl tf))]) [0, 1] (by decide) rfl
        have hFc := va_free (wc := [(h0, .inr (6, [v0, v1, v2, v3, v4, .ref ph, .ref t0, v7])), (t0, .inl (tc, 7, .inl tf))]) hD hS hA [0, 1] rfl
        refine va_calli (va_runV (As := [.int (-1000000001)]) (rest := []) ⟨hx, hb, hml, hown, hts⟩ (f_beyond l dC dI ad h0 v0 v1 v2 v3 v4 (.ref ph) t0 v7 tc tf s.heap.size ) (cwV 1 hts g_x_write_f_beyond_63 rfl rfl rfl (by decide +kernel) ⟨(Nat.le_of_ble_eq_true rfl), (Nat.le_of_ble_eq_true rfl)⟩) ⟨preM_blind, va_recv hKc hPc (ci := 6) (q0 := 0) rfl rfl, fun U hU hW => ⟨rfl, preM_at hU hW hPc hKc hDc hev⟩⟩ rfl rfl hl.1 rfl (lv_room (Nat.le_of_ble_eq_true rfl)) dX8_write_53 ⟨(Nat.le_of_ble_eq_true rfl), (Nat.le_of_ble_eq_true rfl)⟩) hS (fun q _ h => hFc q h) hFc (fun r_25 u t H1 locs ht hvm hw hB hz1 hk1 hS => ?_)
        obtain ⟨tg_26, hP1, hK1, hD1⟩ := hB
        rw [ht] at hP1
        have hK1 := va_K.moved hvm.symm hK1
        obtain ⟨hP, hD⟩ := va_join (wr := [(ph, .inl (pc, 4, .inr (.inr (.inr (.inr pf))))), (p0, .inr (0, [.int b0, .int z0, .ref n0])), (n0, .inl (nc0, 40, .inr (.inl g0))), (p1, .inr (0, [.int b1, .int z1, .ref n1])), (n1, .inl (nc1, 40, .inr (.inl g1))), (p2, .inr (0, [.int b2, .int z2, .ref n2])), (n2, .inl (nc2, 40, .inr (.inl g2))), (p3, .inr (0, [.int b3, .int z3, .ref n3])), (n3, .inl (nc3, 40, .inr (.inl g3)))]) (w1 := [(h0, .inr (6, [v0, v1, v2, v3, v4, .ref ph, .ref t0, v7])), (t0, .inl (tc, 7, .inl tg_26))]) hP hD [0, 1] [2, 3, 4, 5, 6, 7, 8, 9, 10] rfl rfl (by decide) (by decide) hk1 hFc hP1 hD1
        generalize H1 = H at hP hS ⊢
        have hP : va_P (dC, dI) vwCl [(ph, .inl (pc, 4, .inr (.inr (.inr (.inr pf))))), (p0, .inr (0, [.int b0, .int z0, .ref n0])), (n0, .inl (nc0, 40, .inr (.inl g0))), (p1, .inr (0, [.int b1, .int z1, .ref n1])), (n1, .inl (nc1, 40, .inr (.inl g1))), (p2, .inr (0, [.int b2, .int z2, .ref n2])), (n2, .inl (nc2, 40, .inr (.inl g2))), (p3, .inr (0, [.int b3, .int z3, .ref n3])), (n3, .inl (nc3, 40, .inr (.inl g3))), (h0, .inr (6, [v0, v1, v2, v3, v4, .ref ph, .ref t0, v7])), (t0, .inl (tc, 7, .inl tg_26))] H := hP
        have hD : va_D A [(ph, .inl (pc, 4, .inr (.inr (.inr (.inr pf))))), (p0, .inr (0, [.int b0, .int z0, .ref n0])), (n0, .inl (nc0, 40, .inr (.inl g0))), (p1, .inr (0, [.int b1, .int z1, .ref n1])), (n1, .inl (nc1, 40, .inr (.inl g1))), (p2, .inr (0, [.int b2, .int z2, .ref n2])), (n2, .inl (nc2, 40, .inr (.inl g2))), (p3, .inr (0, [.int b3, .int z3, .ref n3])), (n3, .inl (nc3, 40, .inr (.inl g3))), (h0, .inr (6, [v0, v1, v2, v3, v4, .ref ph, .ref t0, v7])), (t0, .inl (tc, 7, .inl tg_26))] := hD
        subst hw
        refine lv_i2l (v := (-1000000001)) hx hb dX8_write_56 (by decide) ?_
        have hP9 := hP.sub (ws' := [(h0, .inr (6, [v0, v1, v2, v3, v4, .ref ph, .ref t0, v7])), (t0, .inl (tc, 7, .inl tg_26)), (ph, .inl (pc, 4, .inr (.inr (.inr (.inr pf))))), (p0, .inr (0, [.int b0, .int z0, .ref n0])), (n0, .inl (nc0, 40, .inr (.inl g0))), (p1, .inr (0, [.int b1, .int z1, .ref n1])), (n1, .inl (nc1, 40, .inr (.inl g1))), (p2, .inr (0, [.int b2, .int z2, .ref n2])), (n2, .inl (nc2, 40, .inr (.inl g2))), (p3, .inr (0, [.int b3, .int z3, .ref n3])), (n3, .inl (nc3, 40, .inr (.inl g3)))]) [9, 10, 0, 1, 2, 3, 4, 5, 6, 7, 8] rfl
        have hD9 := hD.sub (ws' := [(h0, .inr (6, [v0, v1, v2, v3, v4, .ref ph, .ref t0, v7])), (t0, .inl (tc, 7, .inl tg_26)), (ph, .inl (pc, 4, .inr (.inr (.inr (.inr pf))))), (p0, .inr (0, [.int b0, .int z0, .ref n0])), (n0, .inl (nc0, 40, .inr (.inl g0))), (p1, .inr (0, [.int b1, .int z1, .ref n1])), (n1, .inl (nc1, 40, .inr (.inl g1))), (p2, .inr (0, [.int b2, .int z2, .ref n2])), (n2, .inl (nc2, 40, .inr (.inl g2))), (p3, .inr (0, [.int b3, .int z3, .ref n3])), (n3, .inl (nc3, 40, .inr (.inl g3)))]) [9, 10, 0, 1, 2, 3, 4, 5, 6, 7, 8] (by decide) rfl
        have hK9 := hK.sub (tys' := [(tc, .int), (pc, .object "LampShapes$Paper"), (nc0, .long), (nc1, .long), (nc2, .long), (nc3, .long)]) [0, 1, 2, 3, 4, 5] rfl
        exact W.lret (v := ((-1000000001) : Int64)) hx hb hr (fun t ht hW => ⟨⟨((-1000000001) : Int64), (), rfl, trivial, tg_26, g0, g1, g2, g3, by rw [ht]; exact hP9, va_K.moved hW.alike hK9, hD9⟩, hS.F ht⟩) hS.2.2 dX8_write_57
      · skip
        have tc_24 : ¬ i.toInt < 0 := fun h => c_24 ((fa_lt _ _).mpr h)
        refine lv_iload_n hx hb dX8_write_41 rfl (lv_at hl 3 rfl) ?_
        refine lv_aload hx hb dX8_write_42 (lv_at hl 0 rfl) ?_
        refine va_getN (D := (dC, dI)) (ci := 0) (v := .int z1) (C := RX2) (T := TX2) (N := 3) hx hb hts inX2 hown hK hP 5 rfl rfl 1 (by decide) (ev_nest hev 22 rfl) (fun _ h9 => h9) rfl dX8_write_44 ?_
        have rc_27_x := pp_rng i
        have rc_27_y := pp_rng z1
        refine lv_icmp_lt (tgt := 58) hx hb dX8_write_47 (by decide) (fun c_27 => ?_) (fun c_27 => ?_)
        · skip
          have tc_27 : i.toInt < z1.toInt := (fa_lt _ _).mp c_27
          refine lv_aload hx hb dX8_write_58 (lv_at hl 0 rfl) ?_
          refine va_getN (D := (dC, dI)) (ci := 0) (v := .ref n1) (C := RX2) (T := TX2) (N := 3) hx hb hts inX2 hown hK hP 5 rfl rfl 2 (by decide) (ev_nest hev 23 rfl) (fun _ h9 => h9) rfl dX8_write_60 ?_
          refine lv_iload_n hx hb dX8_write_63 rfl (lv_at hl 3 rfl) ?_
          refine va_lald hx hb hK hP 6 3 rfl rfl (vp_in_iff.mpr ⟨by omega, by omega⟩) dX8_write_64 ?_
          refine lv_topl (fun n_28 en_28 => ?_)
          clear en_28
          refine lv_lstore (lv' := [(6, .long n_28), (5, .ref p1), (0, .ref h0), (1, .int 1), (2, .int i), (3, .long v)]) hx hb dX8_write_65 hl (by decide) rfl (fun ls hl => ?_)
          refine lv_aload hx hb dX8_write_67 (lv_at hl 1 rfl) ?_
          refine lv_iload_n hx hb dX8_write_69 rfl (lv_at hl 4 rfl) ?_
          refine lv_lload_n hx hb dX8_write_70 rfl (lv_at hl 5 rfl) ?_
          have hPc := hP.sub (ws' := [(p1, .inr (0, [.int b1, .int z1, .ref n1])), (n1, .inl (nc1, 40, .inr (.inl g1)))]) [5, 6] rfl
          have hKc := hK.sub (tys' := [(nc1, .long)]) [3] rfl
          have hDc := hD.sub (ws' := [(p1, .inr (0, [.int b1, .int z1, .ref n1])), (n1, .inl (nc1, 40, .inr (.inl g1)))]) [5, 6] (by decide) rfl
          have hFc := va_free (wc := [(p1, .inr (0, [.int b1, .int z1, .ref n1])), (n1, .inl (nc1, 40, .inr (.inl g1)))]) hD hS hA [5, 6] rfl
          refine va_callv (va_runV (As := [.int i, .long v]) (rest := []) ⟨hx, hb, hml, hown, hts⟩ (p_put l dC dI ad p1 i v b1 (.int z1) n1 nc1 g1 s.heap.size (by first | omega | decide | (simp only [fa_lt, fa_le, fa_eq, and_true, true_and, and_false, false_and, not_true_eq_false, not_false_eq_true, li_0, li_1, li_2, li_3, li_4, li_5, li_6, li_7, li_8, li_9, li_10, li_12, li_15, li_16, li_20, li_30, li_34, li_38, li_40, li_63, li_64, li_65, li_78, li_120, li_1000, li_4000, li_10000, li_11077, li_255, li_65535, li_m1, li_m2, li_m1000000001, li_m1000000002, li_m1000000003, li_m1000000004, li_m1000000005, li_m1000000006, li_m1000000007, or_true, true_or, or_false, false_or, implies_true, true_implies, false_implies] <;> omega))) (cwV 2 hts g_x_write_p_put_275 rfl rfl rfl (by decide +kernel) ⟨(Nat.le_of_ble_eq_true rfl), (Nat.le_of_ble_eq_true rfl)⟩) ⟨preM_blind, va_recv hKc hPc (ci := 0) (q0 := 0) rfl rfl, fun U hU hW => ⟨rfl, preM_at hU hW hPc hKc hDc hev⟩⟩ rfl rfl hl.1 rfl (lv_room (Nat.le_of_ble_eq_true rfl)) dX8_write_71 ⟨(Nat.le_of_ble_eq_true rfl), (Nat.le_of_ble_eq_true rfl)⟩) hS (fun q _ h => hFc q h) hFc (fun u t H1 locs ht hvm hw hB hz1 hk1 hS => ?_)
          obtain ⟨g_30, hP1, hK1, hD1⟩ := hB
          rw [ht] at hP1
          have hK1 := va_K.moved hvm.symm hK1
          obtain ⟨hP, hD⟩ := va_join (wr := [(h0, .inr (6, [v0, v1, v2, v3, v4, .ref ph, .ref t0, v7])), (t0, .inl (tc, 7, .inl tf)), (ph, .inl (pc, 4, .inr (.inr (.inr (.inr pf))))), (p0, .inr (0, [.int b0, .int z0, .ref n0])), (n0, .inl (nc0, 40, .inr (.inl g0))), (p2, .inr (0, [.int b2, .int z2, .ref n2])), (n2, .inl (nc2, 40, .inr (.inl g2))), (p3, .inr (0, [.int b3, .int z3, .ref n3])), (n3, .inl (nc3, 40, .inr (.inl g3)))]) (w1 := [(p1, .inr (0, [.int b1, .int z1, .ref n1])), (n1, .inl (nc1, 40, .inr (.inl g_30)))]) hP hD [5, 6] [0, 1, 2, 3, 4, 7, 8, 9, 10] rfl rfl (by decide) (by decide) hk1 hFc hP1 hD1
          generalize H1 = H at hP hS ⊢
          have hP : va_P (dC, dI) vwCl [(h0, .inr (6, [v0, v1, v2, v3, v4, .ref ph, .ref t0, v7])), (t0, .inl (tc, 7, .inl tf)), (ph, .inl (pc, 4, .inr (.inr (.inr (.inr pf))))), (p0, .inr (0, [.int b0, .int z0, .ref n0])), (n0, .inl (nc0, 40, .inr (.inl g0))), (p2, .inr (0, [.int b2, .int z2, .ref n2])), (n2, .inl (nc2, 40, .inr (.inl g2))), (p3, .inr (0, [.int b3, .int z3, .ref n3])), (n3, .inl (nc3, 40, .inr (.inl g3))), (p1, .inr (0, [.int b1, .int z1, .ref n1])), (n1, .inl (nc1, 40, .inr (.inl g_30)))] H := hP
          have hD : va_D A [(h0, .inr (6, [v0, v1, v2, v3, v4, .ref ph, .ref t0, v7])), (t0, .inl (tc, 7, .inl tf)), (ph, .inl (pc, 4, .inr (.inr (.inr (.inr pf))))), (p0, .inr (0, [.int b0, .int z0, .ref n0])), (n0, .inl (nc0, 40, .inr (.inl g0))), (p2, .inr (0, [.int b2, .int z2, .ref n2])), (n2, .inl (nc2, 40, .inr (.inl g2))), (p3, .inr (0, [.int b3, .int z3, .ref n3])), (n3, .inl (nc3, 40, .inr (.inl g3))), (p1, .inr (0, [.int b1, .int z1, .ref n1])), (n1, .inl (nc1, 40, .inr (.inl g_30)))] := hD
          refine lv_lload hx hb dX8_write_74 (lv_at hl 0 rfl) ?_
          have hP9 := hP.sub (ws' := [(h0, .inr (6, [v0, v1, v2, v3, v4, .ref ph, .ref t0, v7])), (t0, .inl (tc, 7, .inl tf)), (ph, .inl (pc, 4, .inr (.inr (.inr (.inr pf))))), (p0, .inr (0, [.int b0, .int z0, .ref n0])), (n0, .inl (nc0, 40, .inr (.inl g0))), (p1, .inr (0, [.int b1, .int z1, .ref n1])), (n1, .inl (nc1, 40, .inr (.inl g_30))), (p2, .inr (0, [.int b2, .int z2, .ref n2])), (n2, .inl (nc2, 40, .inr (.inl g2))), (p3, .inr (0, [.int b3, .int z3, .ref n3])), (n3, .inl (nc3, 40, .inr (.inl g3)))]) [0, 1, 2, 3, 4, 9, 10, 5, 6, 7, 8] rfl
          have hD9 := hD.sub (ws' := [(h0, .inr (6, [v0, v1, v2, v3, v4, .ref ph, .ref t0, v7])), (t0, .inl (tc, 7, .inl tf)), (ph, .inl (pc, 4, .inr (.inr (.inr (.inr pf))))), (p0, .inr (0, [.int b0, .int z0, .ref n0])), (n0, .inl (nc0, 40, .inr (.inl g0))), (p1, .inr (0, [.int b1, .int z1, .ref n1])), (n1, .inl (nc1, 40, .inr (.inl g_30))), (p2, .inr (0, [.int b2, .int z2, .ref n2])), (n2, .inl (nc2, 40, .inr (.inl g2))), (p3, .inr (0, [.int b3, .int z3, .ref n3])), (n3, .inl (nc3, 40, .inr (.inl g3)))]) [0, 1, 2, 3, 4, 9, 10, 5, 6, 7, 8] (by decide) rfl
          have hK9 := hK.sub (tys' := [(tc, .int), (pc, .object "LampShapes$Paper"), (nc0, .long), (nc1, .long), (nc2, .long), (nc3, .long)]) [0, 1, 2, 3, 4, 5] rfl
          exact W.lret (v := n_28) hx hb hr (fun t ht hW => ⟨⟨n_28, (), rfl, trivial, tf, g0, g_30, g2, g3, by rw [ht]; exact hP9, va_K.moved hW.alike hK9, hD9⟩, hS.F ht⟩) hS.2.2 dX8_write_76
        · skip
          have tc_27 : ¬ i.toInt < z1.toInt := fun h => c_27 ((fa_lt _ _).mpr h)
          refine lv_aload_n hx hb dX8_write_50 rfl (lv_at hl 1 rfl) ?_
          refine lv_ldc hx hb hown (hts _ (List.mem_of_getElem? (i := 6) rfl)) dX8_write_51 ?_
          have hPc := hP.sub (ws' := [(h0, .inr (6, [v0, v1, v2, v3, v4, .ref ph, .ref t0, v7])), (t0, .inl (tc, 7, .inl tf))]) [0, 1] rfl
          have hKc := hK.sub (tys' := [(tc, .int)]) [0] rfl
          have hDc := hD.sub (ws' := [(h0, .inr (6, [v0, v1, v2, v3, v4, .ref ph, .ref t0, v7])), (t0, .inl (tc, 7, .inl tf))]) [0, 1] (by decide) rfl
          have hFc := va_free (wc := [(h0, .inr (6, [v0, v1, v2, v3, v4, .ref ph, .ref t0, v7])), (t0, .inl (tc, 7, .inl tf))]) hD hS hA [0, 1] rfl
          refine va_calli (va_runV (As := [.int (-1000000001)]) (rest := []) ⟨hx, hb, hml, hown, hts⟩ (f_beyond l dC dI ad h0 v0 v1 v2 v3 v4 (.ref ph) t0 v7 tc tf s.heap.size ) (cwV 1 hts g_x_write_f_beyond_63 rfl rfl rfl (by decide +kernel) ⟨(Nat.le_of_ble_eq_true rfl), (Nat.le_of_ble_eq_true rfl)⟩) ⟨preM_blind, va_recv hKc hPc (ci := 6) (q0 := 0) rfl rfl, fun U hU hW => ⟨rfl, preM_at hU hW hPc hKc hDc hev⟩⟩ rfl rfl hl.1 rfl (lv_room (Nat.le_of_ble_eq_true rfl)) dX8_write_53 ⟨(Nat.le_of_ble_eq_true rfl), (Nat.le_of_ble_eq_true rfl)⟩) hS (fun q _ h => hFc q h) hFc (fun r_31 u t H1 locs ht hvm hw hB hz1 hk1 hS => ?_)
          obtain ⟨tg_32, hP1, hK1, hD1⟩ := hB
          rw [ht] at hP1
          have hK1 := va_K.moved hvm.symm hK1
          obtain ⟨hP, hD⟩ := va_join (wr := [(ph, .inl (pc, 4, .inr (.inr (.inr (.inr pf))))), (p0, .inr (0, [.int b0, .int z0, .ref n0])), (n0, .inl (nc0, 40, .inr (.inl g0))), (p1, .inr (0, [.int b1, .int z1, .ref n1])), (n1, .inl (nc1, 40, .inr (.inl g1))), (p2, .inr (0, [.int b2, .int z2, .ref n2])), (n2, .inl (nc2, 40, .inr (.inl g2))), (p3, .inr (0, [.int b3, .int z3, .ref n3])), (n3, .inl (nc3, 40, .inr (.inl g3)))]) (w1 := [(h0, .inr (6, [v0, v1, v2, v3, v4, .ref ph, .ref t0, v7])), (t0, .inl (tc, 7, .inl tg_32))]) hP hD [0, 1] [2, 3, 4, 5, 6, 7, 8, 9, 10] rfl rfl (by decide) (by decide) hk1 hFc hP1 hD1
          generalize H1 = H at hP hS ⊢
          have hP : va_P (dC, dI) vwCl [(ph, .inl (pc, 4, .inr (.inr (.inr (.inr pf))))), (p0, .inr (0, [.int b0, .int z0, .ref n0])), (n0, .inl (nc0, 40, .inr (.inl g0))), (p1, .inr (0, [.int b1, .int z1, .ref n1])), (n1, .inl (nc1, 40, .inr (.inl g1))), (p2, .inr (0, [.int b2, .int z2, .ref n2])), (n2, .inl (nc2, 40, .inr (.inl g2))), (p3, .inr (0, [.int b3, .int z3, .ref n3])), (n3, .inl (nc3, 40, .inr (.inl g3))), (h0, .inr (6, [v0, v1, v2, v3, v4, .ref ph, .ref t0, v7])), (t0, .inl (tc, 7, .inl tg_32))] H := hP
          have hD : va_D A [(ph, .inl (pc, 4, .inr (.inr (.inr (.inr pf))))), (p0, .inr (0, [.int b0, .int z0, .ref n0])), (n0, .inl (nc0, 40, .inr (.inl g0))), (p1, .inr (0, [.int b1, .int z1, .ref n1])), (n1, .inl (nc1, 40, .inr (.inl g1))), (p2, .inr (0, [.int b2, .int z2, .ref n2])), (n2, .inl (nc2, 40, .inr (.inl g2))), (p3, .inr (0, [.int b3, .int z3, .ref n3])), (n3, .inl (nc3, 40, .inr (.inl g3))), (h0, .inr (6, [v0, v1, v2, v3, v4, .ref ph, .ref t0, v7])), (t0, .inl (tc, 7, .inl tg_32))] := hD
          subst hw
          refine lv_i2l (v := (-1000000001)) hx hb dX8_write_56 (by decide) ?_
          have hP9 := hP.sub (ws' := [(h0, .inr (6, [v0, v1, v2, v3, v4, .ref ph, .ref t0, v7])), (t0, .inl (tc, 7, .inl tg_32)), (ph, .inl (pc, 4, .inr (.inr (.inr (.inr pf))))), (p0, .inr (0, [.int b0, .int z0, .ref n0])), (n0, .inl (nc0, 40, .inr (.inl g0))), (p1, .inr (0, [.int b1, .int z1, .ref n1])), (n1, .inl (nc1, 40, .inr (.inl g1))), (p2, .inr (0, [.int b2, .int z2, .ref n2])), (n2, .inl (nc2, 40, .inr (.inl g2))), (p3, .inr (0, [.int b3, .int z3, .ref n3])), (n3, .inl (nc3, 40, .inr (.inl g3)))]) [9, 10, 0, 1, 2, 3, 4, 5, 6, 7, 8] rfl
          have hD9 := hD.sub (ws' := [(h0, .inr (6, [v0, v1, v2, v3, v4, .ref ph, .ref t0, v7])), (t0, .inl (tc, 7, .inl tg_32)), (ph, .inl (pc, 4, .inr (.inr (.inr (.inr pf))))), (p0, .inr (0, [.int b0, .int z0, .ref n0])), (n0, .inl (nc0, 40, .inr (.inl g0))), (p1, .inr (0, [.int b1, .int z1, .ref n1])), (n1, .inl (nc1, 40, .inr (.inl g1))), (p2, .inr (0, [.int b2, .int z2, .ref n2])), (n2, .inl (nc2, 40, .inr (.inl g2))), (p3, .inr (0, [.int b3, .int z3, .ref n3])), (n3, .inl (nc3, 40, .inr (.inl g3)))]) [9, 10, 0, 1, 2, 3, 4, 5, 6, 7, 8] (by decide) rfl
          have hK9 := hK.sub (tys' := [(tc, .int), (pc, .object "LampShapes$Paper"), (nc0, .long), (nc1, .long), (nc2, .long), (nc3, .long)]) [0, 1, 2, 3, 4, 5] rfl
          exact W.lret (v := ((-1000000001) : Int64)) hx hb hr (fun t ht hW => ⟨⟨((-1000000001) : Int64), (), rfl, trivial, tg_32, g0, g1, g2, g3, by rw [ht]; exact hP9, va_K.moved hW.alike hK9, hD9⟩, hS.F ht⟩) hS.2.2 dX8_write_57
    · skip
      have tc_23 : ¬ r_22.toInt = 0 := fun h => c_23 ((fa_eq _ _).mpr h)
      refine lv_aload_n hx hb dX8_write_28 rfl (lv_at hl 1 rfl) ?_
      refine lv_ldcw hx hb hown (hts _ (List.mem_of_getElem? (i := 24) rfl)) dX8_write_29 ?_
      have hPc := hP.sub (ws' := [(h0, .inr (6, [v0, v1, v2, v3, v4, .ref ph, .ref t0, v7])), (t0, .inl (tc, 7, .inl tf))]) [0, 1] rfl
      have hKc := hK.sub (tys' := [(tc, .int)]) [0] rfl
      have hDc := hD.sub (ws' := [(h0, .inr (6, [v0, v1, v2, v3, v4, .ref ph, .ref t0, v7])), (t0, .inl (tc, 7, .inl tf))]) [0, 1] (by decide) rfl
      have hFc := va_free (wc := [(h0, .inr (6, [v0, v1, v2, v3, v4, .ref ph, .ref t0, v7])), (t0, .inl (tc, 7, .inl tf))]) hD hS hA [0, 1] rfl
      refine va_calli (va_runV (As := [.int (-1000000006)]) (rest := []) ⟨hx, hb, hml, hown, hts⟩ (f_missing l dC dI ad h0 v0 v1 v2 v3 v4 (.ref ph) t0 v7 tc tf s.heap.size ) (cwV 1 hts g_x_write_f_missing_63 rfl rfl rfl (by decide +kernel) ⟨(Nat.le_of_ble_eq_true rfl), (Nat.le_of_ble_eq_true rfl)⟩) ⟨preM_blind, va_recv hKc hPc (ci := 6) (q0 := 0) rfl rfl, fun U hU hW => ⟨rfl, preM_at hU hW hPc hKc hDc hev⟩⟩ rfl rfl hl.1 rfl (lv_room (Nat.le_of_ble_eq_true rfl)) dX8_write_32 ⟨(Nat.le_of_ble_eq_true rfl), (Nat.le_of_ble_eq_true rfl)⟩) hS (fun q _ h => hFc q h) hFc (fun r_33 u t H1 locs ht hvm hw hB hz1 hk1 hS => ?_)
      obtain ⟨tg_34, hP1, hK1, hD1⟩ := hB
      rw [ht] at hP1
      have hK1 := va_K.moved hvm.symm hK1
      obtain ⟨hP, hD⟩ := va_join (wr := [(ph, .inl (pc, 4, .inr (.inr (.inr (.inr pf))))), (p0, .inr (0, [.int b0, .int z0, .ref n0])), (n0, .inl (nc0, 40, .inr (.inl g0))), (p1, .inr (0, [.int b1, .int z1, .ref n1])), (n1, .inl (nc1, 40, .inr (.inl g1))), (p2, .inr (0, [.int b2, .int z2, .ref n2])), (n2, .inl (nc2, 40, .inr (.inl g2))), (p3, .inr (0, [.int b3, .int z3, .ref n3])), (n3, .inl (nc3, 40, .inr (.inl g3)))]) (w1 := [(h0, .inr (6, [v0, v1, v2, v3, v4, .ref ph, .ref t0, v7])), (t0, .inl (tc, 7, .inl tg_34))]) hP hD [0, 1] [2, 3, 4, 5, 6, 7, 8, 9, 10] rfl rfl (by decide) (by decide) hk1 hFc hP1 hD1
      generalize H1 = H at hP hS ⊢
      have hP : va_P (dC, dI) vwCl [(ph, .inl (pc, 4, .inr (.inr (.inr (.inr pf))))), (p0, .inr (0, [.int b0, .int z0, .ref n0])), (n0, .inl (nc0, 40, .inr (.inl g0))), (p1, .inr (0, [.int b1, .int z1, .ref n1])), (n1, .inl (nc1, 40, .inr (.inl g1))), (p2, .inr (0, [.int b2, .int z2, .ref n2])), (n2, .inl (nc2, 40, .inr (.inl g2))), (p3, .inr (0, [.int b3, .int z3, .ref n3])), (n3, .inl (nc3, 40, .inr (.inl g3))), (h0, .inr (6, [v0, v1, v2, v3, v4, .ref ph, .ref t0, v7])), (t0, .inl (tc, 7, .inl tg_34))] H := hP
      have hD : va_D A [(ph, .inl (pc, 4, .inr (.inr (.inr (.inr pf))))), (p0, .inr (0, [.int b0, .int z0, .ref n0])), (n0, .inl (nc0, 40, .inr (.inl g0))), (p1, .inr (0, [.int b1, .int z1, .ref n1])), (n1, .inl (nc1, 40, .inr (.inl g1))), (p2, .inr (0, [.int b2, .int z2, .ref n2])), (n2, .inl (nc2, 40, .inr (.inl g2))), (p3, .inr (0, [.int b3, .int z3, .ref n3])), (n3, .inl (nc3, 40, .inr (.inl g3))), (h0, .inr (6, [v0, v1, v2, v3, v4, .ref ph, .ref t0, v7])), (t0, .inl (tc, 7, .inl tg_34))] := hD
      subst hw
      refine lv_i2l (v := (-1000000006)) hx hb dX8_write_35 (by decide) ?_
      have hP9 := hP.sub (ws' := [(h0, .inr (6, [v0, v1, v2, v3, v4, .ref ph, .ref t0, v7])), (t0, .inl (tc, 7, .inl tg_34)), (ph, .inl (pc, 4, .inr (.inr (.inr (.inr pf))))), (p0, .inr (0, [.int b0, .int z0, .ref n0])), (n0, .inl (nc0, 40, .inr (.inl g0))), (p1, .inr (0, [.int b1, .int z1, .ref n1])), (n1, .inl (nc1, 40, .inr (.inl g1))), (p2, .inr (0, [.int b2, .int z2, .ref n2])), (n2, .inl (nc2, 40, .inr (.inl g2))), (p3, .inr (0, [.int b3, .int z3, .ref n3])), (n3, .inl (nc3, 40, .inr (.inl g3)))]) [9, 10, 0, 1, 2, 3, 4, 5, 6, 7, 8] rfl
      have hD9 := hD.sub (ws' := [(h0, .inr (6, [v0, v1, v2, v3, v4, .ref ph, .ref t0, v7])), (t0, .inl (tc, 7, .inl tg_34)), (ph, .inl (pc, 4, .inr (.inr (.inr (.inr pf))))), (p0, .inr (0, [.int b0, .int z0, .ref n0])), (n0, .inl (nc0, 40, .inr (.inl g0))), (p1, .inr (0, [.int b1, .int z1, .ref n1])), (n1, .inl (nc1, 40, .inr (.inl g1))), (p2, .inr (0, [.int b2, .int z2, .ref n2])), (n2, .inl (nc2, 40, .inr (.inl g2))), (p3, .inr (0, [.int b3, .int z3, .ref n3])), (n3, .inl (nc3, 40, .inr (.inl g3)))]) [9, 10, 0, 1, 2, 3, 4, 5, 6, 7, 8] (by decide) rfl
      have hK9 := hK.sub (tys' := [(tc, .int), (pc, .object "LampShapes$Paper"), (nc0, .long), (nc1, .long), (nc2, .long), (nc3, .long)]) [0, 1, 2, 3, 4, 5] rfl
      exact W.lret (v := ((-1000000006) : Int64)) hx hb hr (fun t ht hW => ⟨⟨((-1000000006) : Int64), (), rfl, trivial, tg_34, g0, g1, g2, g3, by rw [ht]; exact hP9, va_K.moved hW.alike hK9, hD9⟩, hS.F ht⟩) hS.2.2 dX8_write_36
  · skip
    refine Met.ofW (cc := cX8_write) (maxL := 8) (ret := (some .long)) (by decide) rfl ?_
    intro p e s m args below meth c s₁ B hml hv
    obtain ⟨rfl, hsz, hP, hK, hD0, hev⟩ := hv
    have hx := B.exec
    have hb := B.bytes
    have hr := B.returns
    have hts := atoms_spec (ws := w_x_write) B.pre
    have hown : s.vm.findClass RX8 = some m.cls := findClass_of_methodNamed B.named
    have hlocks := B.notSynchronized
    have inX8 : ∀ w ∈ wsX80, w ∈ w_x_write := fun w h => List.mem_cons_of_mem _ (List.mem_append_left _ (List.mem_append_right _ h))
    have inX2 : ∀ w ∈ wsX20, w ∈ w_x_write := fun w h => List.mem_cons_of_mem _ (List.mem_append_right _ h)
    subst hsz
    have hD := hD0.self (sz := s.heap.size)
    generalize hAe : va_A [(h0, .inr (6, [v0, v1, v2, v3, v4, .ref ph, .ref t0, v7])), (t0, .inl (tc, 7, .inl tf)), (ph, .inl (pc, 4, .inr (.inr (.inr (.inr pf))))), (p0, .inr (0, [.int b0, .int z0, .ref n0])), (n0, .inl (nc0, 40, .inr (.inl g0))), (p1, .inr (0, [.int b1, .int z1, .ref n1])), (n1, .inl (nc1, 40, .inr (.inl g1))), (p2, .inr (0, [.int b2, .int z2, .ref n2])), (n2, .inl (nc2, 40, .inr (.inl g2))), (p3, .inr (0, [.int b3, .int z3, .ref n3])), (n3, .inl (nc3, 40, .inr (.inl g3)))] s.heap.size = A at hD ⊢
    have hA : ∀ q : Nat, s.heap.size ≤ q → A q := fun q h => by rw [← hAe]; exact Or.inr h
    have hS : va_S A s.heap s.heap [] := va_S.rf
    have hP : va_P (dC, dI) vwCl [(h0, .inr (6, [v0, v1, v2, v3, v4, .ref ph, .ref t0, v7])), (t0, .inl (tc, 7, .inl tf)), (ph, .inl (pc, 4, .inr (.inr (.inr (.inr pf))))), (p0, .inr (0, [.int b0, .int z0, .ref n0])), (n0, .inl (nc0, 40, .inr (.inl g0))), (p1, .inr (0, [.int b1, .int z1, .ref n1])), (n1, .inl (nc1, 40, .inr (.inl g1))), (p2, .inr (0, [.int b2, .int z2, .ref n2])), (n2, .inl (nc2, 40, .inr (.inl g2))), (p3, .inr (0, [.int b3, .int z3, .ref n3])), (n3, .inl (nc3, 40, .inr (.inl g3)))] s.heap := hP
    have hl := lv_entry ([.ref h0, .int 2, .int i, .long v]) (n := 8) (Nat.le_of_ble_eq_true rfl)
    rw [lg_entry_eq]
    generalize (lg_sl ([.ref h0, .int 2, .int i, .long v]) ++ List.replicate (8 - (lg_sl ([.ref h0, .int 2, .int i, .long v])).length) Slot.unset).toArray = ls at hl ⊢
    have hl : lv_has ls 8 [(0, .ref h0), (1, .int 2), (2, .int i), (3, .long v)] := hl
    refine lv_aload_n hx hb dX8_write_0 rfl (lv_at hl 0 rfl) ?_
    refine lv_iload_n hx hb dX8_write_1 rfl (lv_at hl 1 rfl) ?_
    have hPc := hP.sub (ws' := [(h0, .inr (6, [v0, v1, v2, v3, v4, .ref ph, .ref t0, v7])), (ph, .inl (pc, 4, .inr (.inr (.inr (.inr pf)))))]) [0, 2] rfl
    have hKc := hK.sub (tys' := [(pc, .object "LampShapes$Paper")]) [1] rfl
    refine va_csq (W.runV (As := [.int 2]) (rest := []) ⟨hx, hb, hml, hown, hts⟩ (c_paperAt_2 l dC dI ad h0 v0 v1 v2 v3 v4 ph (.ref t0) v7 pc pf p2 hp2) (cwV 1 hts g_x_write_c_paperAt_2_256 rfl rfl rfl (by decide +kernel) ⟨(Nat.le_of_ble_eq_true rfl), (Nat.le_of_ble_eq_true rfl)⟩) ⟨preS_blind, va_recv hKc hPc (ci := 6) (q0 := 0) rfl rfl, fun U hU hW => ⟨rfl, preS_at hU hW hPc hKc hev⟩⟩ rfl rfl hl.1 rfl (lv_room (Nat.le_of_ble_eq_true rfl)) dX8_write_2 ⟨(Nat.le_of_ble_eq_true rfl), (Nat.le_of_ble_eq_true rfl)⟩) (fun r_35 hw => ?_)
    subst hw
    refine pp_tv (y := .ref p2) rfl ?_
    refine lv_astore (lv' := [(5, .ref p2), (0, .ref h0), (1, .int 2), (2, .int i), (3, .long v)]) hx hb dX8_write_5 hl (by decide) rfl (fun ls hl => ?_)
    refine lv_aload hx hb dX8_write_7 (lv_at hl 0 rfl) ?_
    refine lv_ifnonnull (tgt := 20) hx hb dX8_write_9 (by decide) ?_
    refine lv_aload hx hb dX8_write_20 (lv_at hl 0 rfl) ?_
    have hPc := hP.sub (ws' := [(p2, .inr (0, [.int b2, .int z2, .ref n2]))]) [7] rfl
    have hKc := hK.sub (tys' := []) [] rfl
    refine vp_callSi (W.runV (As := []) (rest := []) ⟨hx, hb, hml, hown, hts⟩ (p_isMissing l dC dI ad p2 b2 (.int z2) (.ref n2) ) (cwV 0 hts g_x_write_p_isMissing_268 rfl rfl rfl (by decide +kernel) ⟨(Nat.le_of_ble_eq_true rfl), (Nat.le_of_ble_eq_true rfl)⟩) ⟨preS_blind, va_recv hKc hPc (ci := 0) (q0 := 0) rfl rfl, fun U hU hW => ⟨rfl, preS_at hU hW hPc hKc hev⟩⟩ rfl rfl hl.1 rfl (lv_room (Nat.le_of_ble_eq_true rfl)) dX8_write_22 ⟨(Nat.le_of_ble_eq_true rfl), (Nat.le_of_ble_eq_true rfl)⟩) (fun r_36 hw => ?_)
    have hr_36 : (r_36.toInt = 1 ∧ b2.toInt = 0) ∨ (r_36.toInt = 0 ∧ ¬ b2.toInt = 0) := hw
    refine lv_if_eq (tgt := 37) hx hb dX8_write_25 (by decide) (fun c_37 => ?_) (fun c_37 => ?_)
    · skip
      have tc_37 : r_36.toInt = 0 := (fa_eq _ _).mp c_37
      refine lv_iload_n hx hb dX8_write_37 rfl (lv_at hl 3 rfl) ?_
      refine lv_if_lt (tgt := 50) hx hb dX8_write_38 (by decide) (fun c_38 => ?_) (fun c_38 => ?_)
      · skip
        have tc_38 : i.toInt < 0 := (fa_lt _ _).mp c_38
        refine lv_aload_n hx hb dX8_write_50 rfl (lv_at hl 1 rfl) ?_
        refine lv_ldc hx hb hown (hts _ (List.mem_of_getElem? (i := 6) rfl)) dX8_write_51 ?_
        have hPc := hP.sub (ws' := [(h0, .inr (6, [v0, v1, v2, v3, v4, .ref ph, .ref t0, v7])), (t0, .inl (tc, 7, .inl tf))]) [0, 1] rfl
        have hKc := hK.sub (tys' := [(tc, .int)]) [0] rfl
        have hDc := hD.sub (ws' := [(h0, .inr (6, [v0, v1, v2, v3, v4, .ref ph, .ref t0, v7])), (t0, .inl (tc, 7, .inl tf))]) [0, 1] (by decide) rfl
        have hFc := va_free (wc := [(h0, .inr (6, [v0, v1, v2, v3, v4, .ref ph, .ref t0, v7])), (t0, .inl (tc, 7, .inl tf))]) hD hS hA [0, 1] rfl
        refine va_calli (va_runV (As := [.int (-1000000001)]) (rest := []) ⟨hx, hb, hml, hown, hts⟩ (f_beyond l dC dI ad h0 v0 v1 v2 v3 v4 (.ref ph) t0 v7 tc tf s.heap.size ) (cwV 1 hts g_x_write_f_beyond_63 rfl rfl rfl (by decide +kernel) ⟨(Nat.le_of_ble_eq_true rfl), (Nat.le_of_ble_eq_true rfl)⟩) ⟨preM_blind, va_recv hKc hPc (ci := 6) (q0 := 0) rfl rfl, fun U hU hW => ⟨rfl, preM_at hU hW hPc hKc hDc hev⟩⟩ rfl rfl hl.1 rfl (lv_room (Nat.le_of_ble_eq_true rfl)) dX8_write_53 ⟨(Nat.le_of_ble_eq_true rfl), (Nat.le_of_ble_eq_true rfl)⟩) hS (fun q _ h => hFc q h) hFc (fun r_39 u t H1 locs ht hvm hw hB hz1 hk1 hS => ?_)
        obtain ⟨tg_40, hP1, hK1, hD1⟩ := hB
        rw [ht] at hP1
        have hK1 := va_K.moved hvm.symm hK1
        obtain ⟨hP, hD⟩ := va_join (wr := [(ph, .inl (pc, 4, .inr (.inr (.inr (.inr pf))))), (p0, .inr (0, [.int b0, .int z0, .ref n0])), (n0, .inl (nc0, 40, .inr (.inl g0))), (p1, .inr (0, [.int b1, .int z1, .ref n1])), (n1, .inl (nc1, 40, .inr (.inl g1))), (p2, .inr (0, [.int b2, .int z2, .ref n2])), (n2, .inl (nc2, 40, .inr (.inl g2))), (p3, .inr (0, [.int b3, .int z3, .ref n3])), (n3, .inl (nc3, 40, .inr (.inl g3)))]) (w1 := [(h0, .inr (6, [v0, v1, v2, v3, v4, .ref ph, .ref t0, v7])), (t0, .inl (tc, 7, .inl tg_40))]) hP hD [0, 1] [2, 3, 4, 5, 6, 7, 8, 9, 10] rfl rfl (by decide) (by decide) hk1 hFc hP1 hD1
        generalize H1 = H at hP hS ⊢
        have hP : va_P (dC, dI) vwCl [(ph, .inl (pc, 4, .inr (.inr (.inr (.inr pf))))), (p0, .inr (0, [.int b0, .int z0, .ref n0])), (n0, .inl (nc0, 40, .inr (.inl g0))), (p1, .inr (0, [.int b1, .int z1, .ref n1])), (n1, .inl (nc1, 40, .inr (.inl g1))), (p2, .inr (0, [.int b2, .int z2, .ref n2])), (n2, .inl (nc2, 40, .inr (.inl g2))), (p3, .inr (0, [.int b3, .int z3, .ref n3])), (n3, .inl (nc3, 40, .inr (.inl g3))), (h0, .inr (6, [v0, v1, v2, v3, v4, .ref ph, .ref t0, v7])), (t0, .inl (tc, 7, .inl tg_40))] H := hP
        have hD : va_D A [(ph, .inl (pc, 4, .inr (.inr (.inr (.inr pf))))), (p0, .inr (0, [.int b0, .int z0, .ref n0])), (n0, .inl (nc0, 40, .inr (.inl g0))), (p1, .inr (0, [.int b1, .int z1, .ref n1])), (n1, .inl (nc1, 40, .inr (.inl g1))), (p2, .inr (0, [.int b2, .int z2, .ref n2])), (n2, .inl (nc2, 40, .inr (.inl g2))), (p3, .inr (0, [.int b3, .int z3, .ref n3])), (n3, .inl (nc3, 40, .inr (.inl g3))), (h0, .inr (6, [v0, v1, v2, v3, v4, .ref ph, .ref t0, v7])), (t0, .inl (tc, 7, .inl tg_40))] := hD
        subst hw
        refine lv_i2l (v := (-1000000001)) hx hb dX8_write_56 (by decide) ?_
        have hP9 := hP.sub (ws' := [(h0, .inr (6, [v0, v1, v2, v3, v4, .ref ph, .ref t0, v7])), (t0, .inl (tc, 7, .inl tg_40)), (ph, .inl (pc, 4, .inr (.inr (.inr (.inr pf))))), (p0, .inr (0, [.int b0, .int z0, .ref n0])), (n0, .inl (nc0, 40, .inr (.inl g0))), (p1, .inr (0, [.int b1, .int z1, .ref n1])), (n1, .inl (nc1, 40, .inr (.inl g1))), (p2, .inr (0, [.int b2, .int z2, .ref n2])), (n2, .inl (nc2, 40, .inr (.inl g2))), (p3, .inr (0, [.int b3, .int z3, .ref n3])), (n3, .inl (nc3, 40, .inr (.inl g3)))]) [9, 10, 0, 1, 2, 3, 4, 5, 6, 7, 8] rfl
        have hD9 := hD.sub (ws' := [(h0, .inr (6, [v0, v1, v2, v3, v4, .ref ph, .ref t0, v7])), (t0, .inl (tc, 7, .inl tg_40)), (ph, .inl (pc, 4, .inr (.inr (.inr (.inr pf))))), (p0, .inr (0, [.int b0, .int z0, .ref n0])), (n0, .inl (nc0, 40, .inr (.inl g0))), (p1, .inr (0, [.int b1, .int z1, .ref n1])), (n1, .inl (nc1, 40, .inr (.inl g1))), (p2, .inr (0, [.int b2, .int z2, .ref n2])), (n2, .inl (nc2, 40, .inr (.inl g2))), (p3, .inr (0, [.int b3, .int z3, .ref n3])), (n3, .inl (nc3, 40, .inr (.inl g3)))]) [9, 10, 0, 1, 2, 3, 4, 5, 6, 7, 8] (by decide) rfl
        have hK9 := hK.sub (tys' := [(tc, .int), (pc, .object "LampShapes$Paper"), (nc0, .long), (nc1, .long), (nc2, .long), (nc3, .long)]) [0, 1, 2, 3, 4, 5] rfl
        exact W.lret (v := ((-1000000001) : Int64)) hx hb hr (fun t ht hW => ⟨⟨((-1000000001) : Int64), (), rfl, trivial, tg_40, g0, g1, g2, g3, by rw [ht]; exact hP9, va_K.moved hW.alike hK9, hD9⟩, hS.F ht⟩) hS.2.2 dX8_write_57
      · skip
        have tc_38 : ¬ i.toInt < 0 := fun h => c_38 ((fa_lt _ _).mpr h)
        refine lv_iload_n hx hb dX8_write_41 rfl (lv_at hl 3 rfl) ?_
        refine lv_aload hx hb dX8_write_42 (lv_at hl 0 rfl) ?_
        refine va_getN (D := (dC, dI)) (ci := 0) (v := .int z2) (C := RX2) (T := TX2) (N := 3) hx hb hts inX2 hown hK hP 7 rfl rfl 1 (by decide) (ev_nest hev 22 rfl) (fun _ h9 => h9) rfl dX8_write_44 ?_
        have rc_41_x := pp_rng i
        have rc_41_y := pp_rng z2
        refine lv_icmp_lt (tgt := 58) hx hb dX8_write_47 (by decide) (fun c_41 => ?_) (fun c_41 => ?_)
        · skip
          have tc_41 : i.toInt < z2.toInt := (fa_lt _ _).mp c_41
          refine lv_aload hx hb dX8_write_58 (lv_at hl 0 rfl) ?_
          refine va_getN (D := (dC, dI)) (ci := 0) (v := .ref n2) (C := RX2) (T := TX2) (N := 3) hx hb hts inX2 hown hK hP 7 rfl rfl 2 (by decide) (ev_nest hev 23 rfl) (fun _ h9 => h9) rfl dX8_write_60 ?_
          refine lv_iload_n hx hb dX8_write_63 rfl (lv_at hl 3 rfl) ?_
          refine va_lald hx hb hK hP 8 4 rfl rfl (vp_in_iff.mpr ⟨by omega, by omega⟩) dX8_write_64 ?_
          refine lv_topl (fun n_42 en_42 => ?_)
          clear en_42
          refine lv_lstore (lv' := [(6, .long n_42), (5, .ref p2), (0, .ref h0), (1, .int 2), (2, .int i), (3, .long v)]) hx hb dX8_write_65 hl (by decide) rfl (fun ls hl => ?_)
          refine lv_aload hx hb dX8_write_67 (lv_at hl 1 rfl) ?_
          refine lv_iload_n hx hb dX8_write_69 rfl (lv_at hl 4 rfl) ?_
          refine lv_lload_n hx hb dX8_write_70 rfl (lv_at hl 5 rfl) ?_
          have hPc := hP.sub (ws' := [(p2, .inr (0, [.int b2, .int z2, .ref n2])), (n2, .inl (nc2, 40, .inr (.inl g2)))]) [7, 8] rfl
          have hKc := hK.sub (tys' := [(nc2, .long)]) [4] rfl
          have hDc := hD.sub (ws' := [(p2, .inr (0, [.int b2, .int z2, .ref n2])), (n2, .inl (nc2, 40, .inr (.inl g2)))]) [7, 8] (by decide) rfl
          have hFc := va_free (wc := [(p2, .inr (0, [.int b2, .int z2, .ref n2])), (n2, .inl (nc2, 40, .inr (.inl g2)))]) hD hS hA [7, 8] rfl
          refine va_callv (va_runV (As := [.int i, .long v]) (rest := []) ⟨hx, hb, hml, hown, hts⟩ (p_put l dC dI ad p2 i v b2 (.int z2) n2 nc2 g2 s.heap.size (by first | omega | decide | (simp only [fa_lt, fa_le, fa_eq, and_true, true_and, and_false, false_and, not_true_eq_false, not_false_eq_true, li_0, li_1, li_2, li_3, li_4, li_5, li_6, li_7, li_8, li_9, li_10, li_12, li_15, li_16, li_20, li_30, li_34, li_38, li_40, li_63, li_64, li_65, li_78, li_120, li_1000, li_4000, li_10000, li_11077, li_255, li_65535, li_m1, li_m2, li_m1000000001, li_m1000000002, li_m1000000003, li_m1000000004, li_m1000000005, li_m1000000006, li_m1000000007, or_true, true_or, or_false, false_or, implies_true, true_implies, false_implies] <;> omega))) (cwV 2 hts g_x_write_p_put_275 rfl rfl rfl (by decide +kernel) ⟨(Nat.le_of_ble_eq_true rfl), (Nat.le_of_ble_eq_true rfl)⟩) ⟨preM_blind, va_recv hKc hPc (ci := 0) (q0 := 0) rfl rfl, fun U hU hW => ⟨rfl, preM_at hU hW hPc hKc hDc hev⟩⟩ rfl rfl hl.1 rfl (lv_room (Nat.le_of_ble_eq_true rfl)) dX8_write_71 ⟨(Nat.le_of_ble_eq_true rfl), (Nat.le_of_ble_eq_true rfl)⟩) hS (fun q _ h => hFc q h) hFc (fun u t H1 locs ht hvm hw hB hz1 hk1 hS => ?_)
          obtain ⟨g_44, hP1, hK1, hD1⟩ := hB
          rw [ht] at hP1
          have hK1 := va_K.moved hvm.symm hK1
          obtain ⟨hP, hD⟩ := va_join (wr := [(h0, .inr (6, [v0, v1, v2, v3, v4, .ref ph, .ref t0, v7])), (t0, .inl (tc, 7, .inl tf)), (ph, .inl (pc, 4, .inr (.inr (.inr (.inr pf))))), (p0, .inr (0, [.int b0, .int z0, .ref n0])), (n0, .inl (nc0, 40, .inr (.inl g0))), (p1, .inr (0, [.int b1, .int z1, .ref n1])), (n1, .inl (nc1, 40, .inr (.inl g1))), (p3, .inr (0, [.int b3, .int z3, .ref n3])), (n3, .inl (nc3, 40, .inr (.inl g3)))]) (w1 := [(p2, .inr (0, [.int b2, .int z2, .ref n2])), (n2, .inl (nc2, 40, .inr (.inl g_44)))]) hP hD [7, 8] [0, 1, 2, 3, 4, 5, 6, 9, 10] rfl rfl (by decide) (by decide) hk1 hFc hP1 hD1
          generalize H1 = H at hP hS ⊢
          have hP : va_P (dC, dI) vwCl [(h0, .inr (6, [v0, v1, v2, v3, v4, .ref ph, .ref t0, v7])), (t0, .inl (tc, 7, .inl tf)), (ph, .inl (pc, 4, .inr (.inr (.inr (.inr pf))))), (p0, .inr (0, [.int b0, .int z0, .ref n0])), (n0, .inl (nc0, 40, .inr (.inl g0))), (p1, .inr (0, [.int b1, .int z1, .ref n1])), (n1, .inl (nc1, 40, .inr (.inl g1))), (p3, .inr (0, [.int b3, .int z3, .ref n3])), (n3, .inl (nc3, 40, .inr (.inl g3))), (p2, .inr (0, [.int b2, .int z2, .ref n2])), (n2, .inl (nc2, 40, .inr (.inl g_44)))] H := hP
          have hD : va_D A [(h0, .inr (6, [v0, v1, v2, v3, v4, .ref ph, .ref t0, v7])), (t0, .inl (tc, 7, .inl tf)), (ph, .inl (pc, 4, .inr (.inr (.inr (.inr pf))))), (p0, .inr (0, [.int b0, .int z0, .ref n0])), (n0, .inl (nc0, 40, .inr (.inl g0))), (p1, .inr (0, [.int b1, .int z1, .ref n1])), (n1, .inl (nc1, 40, .inr (.inl g1))), (p3, .inr (0, [.int b3, .int z3, .ref n3])), (n3, .inl (nc3, 40, .inr (.inl g3))), (p2, .inr (0, [.int b2, .int z2, .ref n2])), (n2, .inl (nc2, 40, .inr (.inl g_44)))] := hD
          refine lv_lload hx hb dX8_write_74 (lv_at hl 0 rfl) ?_
          have hP9 := hP.sub (ws' := [(h0, .inr (6, [v0, v1, v2, v3, v4, .ref ph, .ref t0, v7])), (t0, .inl (tc, 7, .inl tf)), (ph, .inl (pc, 4, .inr (.inr (.inr (.inr pf))))), (p0, .inr (0, [.int b0, .int z0, .ref n0])), (n0, .inl (nc0, 40, .inr (.inl g0))), (p1, .inr (0, [.int b1, .int z1, .ref n1])), (n1, .inl (nc1, 40, .inr (.inl g1))), (p2, .inr (0, [.int b2, .int z2, .ref n2])), (n2, .inl (nc2, 40, .inr (.inl g_44))), (p3, .inr (0, [.int b3, .int z3, .ref n3])), (n3, .inl (nc3, 40, .inr (.inl g3)))]) [0, 1, 2, 3, 4, 5, 6, 9, 10, 7, 8] rfl
          have hD9 := hD.sub (ws' := [(h0, .inr (6, [v0, v1, v2, v3, v4, .ref ph, .ref t0, v7])), (t0, .inl (tc, 7, .inl tf)), (ph, .inl (pc, 4, .inr (.inr (.inr (.inr pf))))), (p0, .inr (0, [.int b0, .int z0, .ref n0])), (n0, .inl (nc0, 40, .inr (.inl g0))), (p1, .inr (0, [.int b1, .int z1, .ref n1])), (n1, .inl (nc1, 40, .inr (.inl g1))), (p2, .inr (0, [.int b2, .int z2, .ref n2])), (n2, .inl (nc2, 40, .inr (.inl g_44))), (p3, .inr (0, [.int b3, .int z3, .ref n3])), (n3, .inl (nc3, 40, .inr (.inl g3)))]) [0, 1, 2, 3, 4, 5, 6, 9, 10, 7, 8] (by decide) rfl
          have hK9 := hK.sub (tys' := [(tc, .int), (pc, .object "LampShapes$Paper"), (nc0, .long), (nc1, .long), (nc2, .long), (nc3, .long)]) [0, 1, 2, 3, 4, 5] rfl
          exact W.lret (v := n_42) hx hb hr (fun t ht hW => ⟨⟨n_42, (), rfl, trivial, tf, g0, g1, g_44, g3, by rw [ht]; exact hP9, va_K.moved hW.alike hK9, hD9⟩, hS.F ht⟩) hS.2.2 dX8_write_76
        · skip
          have tc_41 : ¬ i.toInt < z2.toInt := fun h => c_41 ((fa_lt _ _).mpr h)
          refine lv_aload_n hx hb dX8_write_50 rfl (lv_at hl 1 rfl) ?_
          refine lv_ldc hx hb hown (hts _ (List.mem_of_getElem? (i := 6) rfl)) dX8_write_51 ?_
          have hPc := hP.sub (ws' := [(h0, .inr (6, [v0, v1, v2, v3, v4, .ref ph, .ref t0, v7])), (t0, .inl (tc, 7, .inl tf))]) [0, 1] rfl
          have hKc := hK.sub (tys' := [(tc, .int)]) [0] rfl
          have hDc := hD.sub (ws' := [(h0, .inr (6, [v0, v1, v2, v3, v4, .ref ph, .ref t0, v7])), (t0, .inl (tc, 7, .inl tf))]) [0, 1] (by decide) rfl
          have hFc := va_free (wc := [(h0, .inr (6, [v0, v1, v2, v3, v4, .ref ph, .ref t0, v7])), (t0, .inl (tc, 7, .inl tf))]) hD hS hA [0, 1] rfl
          refine va_calli (va_runV (As := [.int (-1000000001)]) (rest := []) ⟨hx, hb, hml, hown, hts⟩ (f_beyond l dC dI ad h0 v0 v1 v2 v3 v4 (.ref ph) t0 v7 tc tf s.heap.size ) (cwV 1 hts g_x_write_f_beyond_63 rfl rfl rfl (by decide +kernel) ⟨(Nat.le_of_ble_eq_true rfl), (Nat.le_of_ble_eq_true rfl)⟩) ⟨preM_blind, va_recv hKc hPc (ci := 6) (q0 := 0) rfl rfl, fun U hU hW => ⟨rfl, preM_at hU hW hPc hKc hDc hev⟩⟩ rfl rfl hl.1 rfl (lv_room (Nat.le_of_ble_eq_true rfl)) dX8_write_53 ⟨(Nat.le_of_ble_eq_true rfl), (Nat.le_of_ble_eq_true rfl)⟩) hS (fun q _ h => hFc q h) hFc (fun r_45 u t H1 locs ht hvm hw hB hz1 hk1 hS => ?_)
          obtain ⟨tg_46, hP1, hK1, hD1⟩ := hB
          rw [ht] at hP1
          have hK1 := va_K.moved hvm.symm hK1
          obtain ⟨hP, hD⟩ := va_join (wr := [(ph, .inl (pc, 4, .inr (.inr (.inr (.inr pf))))), (p0, .inr (0, [.int b0, .int z0, .ref n0])), (n0, .inl (nc0, 40, .inr (.inl g0))), (p1, .inr (0, [.int b1, .int z1, .ref n1])), (n1, .inl (nc1, 40, .inr (.inl g1))), (p2, .inr (0, [.int b2, .int z2, .ref n2])), (n2, .inl (nc2, 40, .inr (.inl g2))), (p3, .inr (0, [.int b3, .int z3, .ref n3])), (n3, .inl (nc3, 40, .inr (.inl g3)))]) (w1 := [(h0, .inr (6, [v0, v1, v2, v3, v4, .ref ph, .ref t0, v7])), (t0, .inl (tc, 7, .inl tg_46))]) hP hD [0, 1] [2, 3, 4, 5, 6, 7, 8, 9, 10] rfl rfl (by decide) (by decide) hk1 hFc hP1 hD1
          generalize H1 = H at hP hS ⊢
          have hP : va_P (dC, dI) vwCl [(ph, .inl (pc, 4, .inr (.inr (.inr (.inr pf))))), (p0, .inr (0, [.int b0, .int z0, .ref n0])), (n0, .inl (nc0, 40, .inr (.inl g0))), (p1, .inr (0, [.int b1, .int z1, .ref n1])), (n1, .inl (nc1, 40, .inr (.inl g1))), (p2, .inr (0, [.int b2, .int z2, .ref n2])), (n2, .inl (nc2, 40, .inr (.inl g2))), (p3, .inr (0, [.int b3, .int z3, .ref n3])), (n3, .inl (nc3, 40, .inr (.inl g3))), (h0, .inr (6, [v0, v1, v2, v3, v4, .ref ph, .ref t0, v7])), (t0, .inl (tc, 7, .inl tg_46))] H := hP
          have hD : va_D A [(ph, .inl (pc, 4, .inr (.inr (.inr (.inr pf))))), (p0, .inr (0, [.int b0, .int z0, .ref n0])), (n0, .inl (nc0, 40, .inr (.inl g0))), (p1, .inr (0, [.int b1, .int z1, .ref n1])), (n1, .inl (nc1, 40, .inr (.inl g1))), (p2, .inr (0, [.int b2, .int z2, .ref n2])), (n2, .inl (nc2, 40, .inr (.inl g2))), (p3, .inr (0, [.int b3, .int z3, .ref n3])), (n3, .inl (nc3, 40, .inr (.inl g3))), (h0, .inr (6, [v0, v1, v2, v3, v4, .ref ph, .ref t0, v7])), (t0, .inl (tc, 7, .inl tg_46))] := hD
          subst hw
          refine lv_i2l (v := (-1000000001)) hx hb dX8_write_56 (by decide) ?_
          have hP9 := hP.sub (ws' := [(h0, .inr (6, [v0, v1, v2, v3, v4, .ref ph, .ref t0, v7])), (t0, .inl (tc, 7, .inl tg_46)), (ph, .inl (pc, 4, .inr (.inr (.inr (.inr pf))))), (p0, .inr (0, [.int b0, .int z0, .ref n0])), (n0, .inl (nc0, 40, .inr (.inl g0))), (p1, .inr (0, [.int b1, .int z1, .ref n1])), (n1, .inl (nc1, 40, .inr (.inl g1))), (p2, .inr (0, [.int b2, .int z2, .ref n2])), (n2, .inl (nc2, 40, .inr (.inl g2))), (p3, .inr (0, [.int b3, .int z3, .ref n3])), (n3, .inl (nc3, 40, .inr (.inl g3)))]) [9, 10, 0, 1, 2, 3, 4, 5, 6, 7, 8] rfl
          have hD9 := hD.sub (ws' := [(h0, .inr (6, [v0, v1, v2, v3, v4, .ref ph, .ref t0, v7])), (t0, .inl (tc, 7, .inl tg_46)), (ph, .inl (pc, 4, .inr (.inr (.inr (.inr pf))))), (p0, .inr (0, [.int b0, .int z0, .ref n0])), (n0, .inl (nc0, 40, .inr (.inl g0))), (p1, .inr (0, [.int b1, .int z1, .ref n1])), (n1, .inl (nc1, 40, .inr (.inl g1))), (p2, .inr (0, [.int b2, .int z2, .ref n2])), (n2, .inl (nc2, 40, .inr (.inl g2))), (p3, .inr (0, [.int b3, .int z3, .ref n3])), (n3, .inl (nc3, 40, .inr (.inl g3)))]) [9, 10, 0, 1, 2, 3, 4, 5, 6, 7, 8] (by decide) rfl
          have hK9 := hK.sub (tys' := [(tc, .int), (pc, .object "LampShapes$Paper"), (nc0, .long), (nc1, .long), (nc2, .long), (nc3, .long)]) [0, 1, 2, 3, 4, 5] rfl
          exact W.lret (v := ((-1000000001) : Int64)) hx hb hr (fun t ht hW => ⟨⟨((-1000000001) : Int64), (), rfl, trivial, tg_46, g0, g1, g2, g3, by rw [ht]; exact hP9, va_K.moved hW.alike hK9, hD9⟩, hS.F ht⟩) hS.2.2 dX8_write_57
    · skip
      have tc_37 : ¬ r_36.toInt = 0 := fun h => c_37 ((fa_eq _ _).mpr h)
      refine lv_aload_n hx hb dX8_write_28 rfl (lv_at hl 1 rfl) ?_
      refine lv_ldcw hx hb hown (hts _ (List.mem_of_getElem? (i := 24) rfl)) dX8_write_29 ?_
      have hPc := hP.sub (ws' := [(h0, .inr (6, [v0, v1, v2, v3, v4, .ref ph, .ref t0, v7])), (t0, .inl (tc, 7, .inl tf))]) [0, 1] rfl
      have hKc := hK.sub (tys' := [(tc, .int)]) [0] rfl
      have hDc := hD.sub (ws' := [(h0, .inr (6, [v0, v1, v2, v3, v4, .ref ph, .ref t0, v7])), (t0, .inl (tc, 7, .inl tf))]) [0, 1] (by decide) rfl
      have hFc := va_free (wc := [(h0, .inr (6, [v0, v1, v2, v3, v4, .ref ph, .ref t0, v7])), (t0, .inl (tc, 7, .inl tf))]) hD hS hA [0, 1] rfl
      refine va_calli (va_runV (As := [.int (-1000000006)]) (rest := []) ⟨hx, hb, hml, hown, hts⟩ (f_missing l dC dI ad h0 v0 v1 v2 v3 v4 (.ref ph) t0 v7 tc tf s.heap.size ) (cwV 1 hts g_x_write_f_missing_63 rfl rfl rfl (by decide +kernel) ⟨(Nat.le_of_ble_eq_true rfl), (Nat.le_of_ble_eq_true rfl)⟩) ⟨preM_blind, va_recv hKc hPc (ci := 6) (q0 := 0) rfl rfl, fun U hU hW => ⟨rfl, preM_at hU hW hPc hKc hDc hev⟩⟩ rfl rfl hl.1 rfl (lv_room (Nat.le_of_ble_eq_true rfl)) dX8_write_32 ⟨(Nat.le_of_ble_eq_true rfl), (Nat.le_of_ble_eq_true rfl)⟩) hS (fun q _ h => hFc q h) hFc (fun r_47 u t H1 locs ht hvm hw hB hz1 hk1 hS => ?_)
      obtain ⟨tg_48, hP1, hK1, hD1⟩ := hB
      rw [ht] at hP1
      have hK1 := va_K.moved hvm.symm hK1
      obtain ⟨hP, hD⟩ := va_join (wr := [(ph, .inl (pc, 4, .inr (.inr (.inr (.inr pf))))), (p0, .inr (0, [.int b0, .int z0, .ref n0])), (n0, .inl (nc0, 40, .inr (.inl g0))), (p1, .inr (0, [.int b1, .int z1, .ref n1])), (n1, .inl (nc1, 40, .inr (.inl g1))), (p2, .inr (0, [.int b2, .int z2, .ref n2])), (n2, .inl (nc2, 40, .inr (.inl g2))), (p3, .inr (0, [.int b3, .int z3, .ref n3])), (n3, .inl (nc3, 40, .inr (.inl g3)))]) (w1 := [(h0, .inr (6, [v0, v1, v2, v3, v4, .ref ph, .ref t0, v7])), (t0, .inl (tc, 7, .inl tg_48))]) hP hD [0, 1] [2, 3, 4, 5, 6, 7, 8, 9, 10] rfl rfl (by decide) (by decide) hk1 hFc hP1 hD1
      generalize H1 = H at hP hS ⊢
      have hP : va_P (dC, dI) vwCl [(ph, .inl (pc, 4, .inr (.inr (.inr (.inr pf))))), (p0, .inr (0, [.int b0, .int z0, .ref n0])), (n0, .inl (nc0, 40, .inr (.inl g0))), (p1, .inr (0, [.int b1, .int z1, .ref n1])), (n1, .inl (nc1, 40, .inr (.inl g1))), (p2, .inr (0, [.int b2, .int z2, .ref n2])), (n2, .inl (nc2, 40, .inr (.inl g2))), (p3, .inr (0, [.int b3, .int z3, .ref n3])), (n3, .inl (nc3, 40, .inr (.inl g3))), (h0, .inr (6, [v0, v1, v2, v3, v4, .ref ph, .ref t0, v7])), (t0, .inl (tc, 7, .inl tg_48))] H := hP
      have hD : va_D A [(ph, .inl (pc, 4, .inr (.inr (.inr (.inr pf))))), (p0, .inr (0, [.int b0, .int z0, .ref n0])), (n0, .inl (nc0, 40, .inr (.inl g0))), (p1, .inr (0, [.int b1, .int z1, .ref n1])), (n1, .inl (nc1, 40, .inr (.inl g1))), (p2, .inr (0, [.int b2, .int z2, .ref n2])), (n2, .inl (nc2, 40, .inr (.inl g2))), (p3, .inr (0, [.int b3, .int z3, .ref n3])), (n3, .inl (nc3, 40, .inr (.inl g3))), (h0, .inr (6, [v0, v1, v2, v3, v4, .ref ph, .ref t0, v7])), (t0, .inl (tc, 7, .inl tg_48))] := hD
      subst hw
      refine lv_i2l (v := (-1000000006)) hx hb dX8_write_35 (by decide) ?_
      have hP9 := hP.sub (ws' := [(h0, .inr (6, [v0, v1, v2, v3, v4, .ref ph, .ref t0, v7])), (t0, .inl (tc, 7, .inl tg_48)), (ph, .inl (pc, 4, .inr (.inr (.inr (.inr pf))))), (p0, .inr (0, [.int b0, .int z0, .ref n0])), (n0, .inl (nc0, 40, .inr (.inl g0))), (p1, .inr (0, [.int b1, .int z1, .ref n1])), (n1, .inl (nc1, 40, .inr (.inl g1))), (p2, .inr (0, [.int b2, .int z2, .ref n2])), (n2, .inl (nc2, 40, .inr (.inl g2))), (p3, .inr (0, [.int b3, .int z3, .ref n3])), (n3, .inl (nc3, 40, .inr (.inl g3)))]) [9, 10, 0, 1, 2, 3, 4, 5, 6, 7, 8] rfl
      have hD9 := hD.sub (ws' := [(h0, .inr (6, [v0, v1, v2, v3, v4, .ref ph, .ref t0, v7])), (t0, .inl (tc, 7, .inl tg_48)), (ph, .inl (pc, 4, .inr (.inr (.inr (.inr pf))))), (p0, .inr (0, [.int b0, .int z0, .ref n0])), (n0, .inl (nc0, 40, .inr (.inl g0))), (p1, .inr (0, [.int b1, .int z1, .ref n1])), (n1, .inl (nc1, 40, .inr (.inl g1))), (p2, .inr (0, [.int b2, .int z2, .ref n2])), (n2, .inl (nc2, 40, .inr (.inl g2))), (p3, .inr (0, [.int b3, .int z3, .ref n3])), (n3, .inl (nc3, 40, .inr (.inl g3)))]) [9, 10, 0, 1, 2, 3, 4, 5, 6, 7, 8] (by decide) rfl
      have hK9 := hK.sub (tys' := [(tc, .int), (pc, .object "LampShapes$Paper"), (nc0, .long), (nc1, .long), (nc2, .long), (nc3, .long)]) [0, 1, 2, 3, 4, 5] rfl
      exact W.lret (v := ((-1000000006) : Int64)) hx hb hr (fun t ht hW => ⟨⟨((-1000000006) : Int64), (), rfl, trivial, tg_48, g0, g1, g2, g3, by rw [ht]; exact hP9, va_K.moved hW.alike hK9, hD9⟩, hS.F ht⟩) hS.2.2 dX8_write_36
  · skip
    refine Met.ofW (cc := cX8_write) (maxL := 8) (ret := (some .long)) (by decide) rfl ?_
    intro p e s m args below meth c s₁ B hml hv
    obtain ⟨rfl, hsz, hP, hK, hD0, hev⟩ := hv
    have hx := B.exec
    have hb := B.bytes
    have hr := B.returns
    have hts := atoms_spec (ws := w_x_write) B.pre
    have hown : s.vm.findClass RX8 = some m.cls := findClass_of_methodNamed B.named
    have hlocks := B.notSynchronized
    have inX8 : ∀ w ∈ wsX80, w ∈ w_x_write := fun w h => List.mem_cons_of_mem _ (List.mem_append_left _ (List.mem_append_right _ h))
    have inX2 : ∀ w ∈ wsX20, w ∈ w_x_write := fun w h => List.mem_cons_of_mem _ (List.mem_append_right _ h)
    subst hsz
    have hD := hD0.self (sz := s.heap.size)
    generalize hAe : va_A [(h0, .inr (6, [v0, v1, v2, v3, v4, .ref ph, .ref t0, v7])), (t0, .inl (tc, 7, .inl tf)), (ph, .inl (pc, 4, .inr (.inr (.inr (.inr pf))))), (p0, .inr (0, [.int b0, .int z0, .ref n0])), (n0, .inl (nc0, 40, .inr (.inl g0))), (p1, .inr (0, [.int b1, .int z1, .ref n1])), (n1, .inl (nc1, 40, .inr (.inl g1))), (p2, .inr (0, [.int b2, .int z2, .ref n2])), (n2, .inl (nc2, 40, .inr (.inl g2))), (p3, .inr (0, [.int b3, .int z3, .ref n3])), (n3, .inl (nc3, 40, .inr (.inl g3)))] s.heap.size = A at hD ⊢
    have hA : ∀ q : Nat, s.heap.size ≤ q → A q := fun q h => by rw [← hAe]; exact Or.inr h
    have hS : va_S A s.heap s.heap [] := va_S.rf
    have hP : va_P (dC, dI) vwCl [(h0, .inr (6, [v0, v1, v2, v3, v4, .ref ph, .ref t0, v7])), (t0, .inl (tc, 7, .inl tf)), (ph, .inl (pc, 4, .inr (.inr (.inr (.inr pf))))), (p0, .inr (0, [.int b0, .int z0, .ref n0])), (n0, .inl (nc0, 40, .inr (.inl g0))), (p1, .inr (0, [.int b1, .int z1, .ref n1])), (n1, .inl (nc1, 40, .inr (.inl g1))), (p2, .inr (0, [.int b2, .int z2, .ref n2])), (n2, .inl (nc2, 40, .inr (.inl g2))), (p3, .inr (0, [.int b3, .int z3, .ref n3])), (n3, .inl (nc3, 40, .inr (.inl g3)))] s.heap := hP
    have hl := lv_entry ([.ref h0, .int 3, .int i, .long v]) (n := 8) (Nat.le_of_ble_eq_true rfl)
    rw [lg_entry_eq]
    generalize (lg_sl ([.ref h0, .int 3, .int i, .long v]) ++ List.replicate (8 - (lg_sl ([.ref h0, .int 3, .int i, .long v])).length) Slot.unset).toArray = ls at hl ⊢
    have hl : lv_has ls 8 [(0, .ref h0), (1, .int 3), (2, .int i), (3, .long v)] := hl
    refine lv_aload_n hx hb dX8_write_0 rfl (lv_at hl 0 rfl) ?_
    refine lv_iload_n hx hb dX8_write_1 rfl (lv_at hl 1 rfl) ?_
    have hPc := hP.sub (ws' := [(h0, .inr (6, [v0, v1, v2, v3, v4, .ref ph, .ref t0, v7])), (ph, .inl (pc, 4, .inr (.inr (.inr (.inr pf)))))]) [0, 2] rfl
    have hKc := hK.sub (tys' := [(pc, .object "LampShapes$Paper")]) [1] rfl
    refine va_csq (W.runV (As := [.int 3]) (rest := []) ⟨hx, hb, hml, hown, hts⟩ (c_paperAt_3 l dC dI ad h0 v0 v1 v2 v3 v4 ph (.ref t0) v7 pc pf p3 hp3) (cwV 1 hts g_x_write_c_paperAt_3_256 rfl rfl rfl (by decide +kernel) ⟨(Nat.le_of_ble_eq_true rfl), (Nat.le_of_ble_eq_true rfl)⟩) ⟨preS_blind, va_recv hKc hPc (ci := 6) (q0 := 0) rfl rfl, fun U hU hW => ⟨rfl, preS_at hU hW hPc hKc hev⟩⟩ rfl rfl hl.1 rfl (lv_room (Nat.le_of_ble_eq_true rfl)) dX8_write_2 ⟨(Nat.le_of_ble_eq_true rfl), (Nat.le_of_ble_eq_true rfl)⟩) (fun r_49 hw => ?_)
    subst hw
    refine pp_tv (y := .ref p3) rfl ?_
    refine lv_astore (lv' := [(5, .ref p3), (0, .ref h0), (1, .int 3), (2, .int i), (3, .long v)]) hx hb dX8_write_5 hl (by decide) rfl (fun ls hl => ?_)
    refine lv_aload hx hb dX8_write_7 (lv_at hl 0 rfl) ?_
    refine lv_ifnonnull (tgt := 20) hx hb dX8_write_9 (by decide) ?_
    refine lv_aload hx hb dX8_write_20 (lv_at hl 0 rfl) ?_
    have hPc := hP.sub (ws' := [(p3, .inr (0, [.int b3, .int z3, .ref n3]))]) [9] rfl
    have hKc := hK.sub (tys' := []) [] rfl
    refine vp_callSi (W.runV (As := []) (rest := []) ⟨hx, hb, hml, hown, hts⟩ (p_isMissing l dC dI ad p3 b3 (.int z3) (.ref n3) ) (cwV 0 hts g_x_write_p_isMissing_268 rfl rfl rfl (by decide +kernel) ⟨(Nat.le_of_ble_eq_true rfl), (Nat.le_of_ble_eq_true rfl)⟩) ⟨preS_blind, va_recv hKc hPc (ci := 0) (q0 := 0) rfl rfl, fun U hU hW => ⟨rfl, preS_at hU hW hPc hKc hev⟩⟩ rfl rfl hl.1 rfl (lv_room (Nat.le_of_ble_eq_true rfl)) dX8_write_22 ⟨(Nat.le_of_ble_eq_true rfl), (Nat.le_of_ble_eq_true rfl)⟩) (fun r_50 hw => ?_)
    have hr_50 : (r_50.toInt = 1 ∧ b3.toInt = 0) ∨ (r_50.toInt = 0 ∧ ¬ b3.toInt = 0) := hw
    refine lv_if_eq (tgt := 37) hx hb dX8_write_25 (by decide) (fun c_51 => ?_) (fun c_51 => ?_)
    · skip
      have tc_51 : r_50.toInt = 0 := (fa_eq _ _).mp c_51
      refine lv_iload_n hx hb dX8_write_37 rfl (lv_at hl 3 rfl) ?_
      refine lv_if_lt (tgt := 50) hx hb dX8_write_38 (by decide) (fun c_52 => ?_) (fun c_52 => ?_)
      · skip
        have tc_52 : i.toInt < 0 := (fa_lt _ _).mp c_52
        refine lv_aload_n hx hb dX8_write_50 rfl (lv_at hl 1 rfl) ?_
        refine lv_ldc hx hb hown (hts _ (List.mem_of_getElem? (i := 6) rfl)) dX8_write_51 ?_
        have hPc := hP.sub (ws' := [(h0, .inr (6, [v0, v1, v2, v3, v4, .ref ph, .ref t0, v7])), (t0, .inl (tc, 7, .inl tf))]) [0, 1] rfl
        have hKc := hK.sub (tys' := [(tc, .int)]) [0] rfl
        have hDc := hD.sub (ws' := [(h0, .inr (6, [v0, v1, v2, v3, v4, .ref ph, .ref t0, v7])), (t0, .inl (tc, 7, .inl tf))]) [0, 1] (by decide) rfl
        have hFc := va_free (wc := [(h0, .inr (6, [v0, v1, v2, v3, v4, .ref ph, .ref t0, v7])), (t0, .inl (tc, 7, .inl tf))]) hD hS hA [0, 1] rfl
        refine va_calli (va_runV (As := [.int (-1000000001)]) (rest := []) ⟨hx, hb, hml, hown, hts⟩ (f_beyond l dC dI ad h0 v0 v1 v2 v3 v4 (.ref ph) t0 v7 tc tf s.heap.size ) (cwV 1 hts g_x_write_f_beyond_63 rfl rfl rfl (by decide +kernel) ⟨(Nat.le_of_ble_eq_true rfl), (Nat.le_of_ble_eq_true rfl)⟩) ⟨preM_blind, va_recv hKc hPc (ci := 6) (q0 := 0) rfl rfl, fun U hU hW => ⟨rfl, preM_at hU hW hPc hKc hDc hev⟩⟩ rfl rfl hl.1 rfl (lv_room (Nat.le_of_ble_eq_true rfl)) dX8_write_53 ⟨(Nat.le_of_ble_eq_true rfl), (Nat.le_of_ble_eq_true rfl)⟩) hS (fun q _ h => hFc q h) hFc (fun r_53 u t H1 locs ht hvm hw hB hz1 hk1 hS => ?_)
        obtain ⟨tg_54, hP1, hK1, hD1⟩ := hB
        rw [ht] at hP1
        have hK1 := va_K.moved hvm.symm hK1
        obtain ⟨hP, hD⟩ := va_join (wr := [(ph, .inl (pc, 4, .inr (.inr (.inr (.inr pf))))), (p0, .inr (0, [.int b0, .int z0, .ref n0])), (n0, .inl (nc0, 40, .inr (.inl g0))), (p1, .inr (0, [.int b1, .int z1, .ref n1])), (n1, .inl (nc1, 40, .inr (.inl g1))), (p2, .inr (0, [.int b2, .int z2, .ref n2])), (n2, .inl (nc2, 40, .inr (.inl g2))), (p3, .inr (0, [.int b3, .int z3, .ref n3])), (n3, .inl (nc3, 40, .inr (.inl g3)))]) (w1 := [(h0, .inr (6, [v0, v1, v2, v3, v4, .ref ph, .ref t0, v7])), (t0, .inl (tc, 7, .inl tg_54))]) hP hD [0, 1] [2, 3, 4, 5, 6, 7, 8, 9, 10] rfl rfl (by decide) (by decide) hk1 hFc hP1 hD1
        generalize H1 = H at hP hS ⊢
        have hP : va_P (dC, dI) vwCl [(ph, .inl (pc, 4, .inr (.inr (.inr (.inr pf))))), (p0, .inr (0, [.int b0, .int z0, .ref n0])), (n0, .inl (nc0, 40, .inr (.inl g0))), (p1, .inr (0, [.int b1, .int z1, .ref n1])), (n1, .inl (nc1, 40, .inr (.inl g1))), (p2, .inr (0, [.int b2, .int z2, .ref n2])), (n2, .inl (nc2, 40, .inr (.inl g2))), (p3, .inr (0, [.int b3, .int z3, .ref n3])), (n3, .inl (nc3, 40, .inr (.inl g3))), (h0, .inr (6, [v0, v1, v2, v3, v4, .ref ph, .ref t0, v7])), (t0, .inl (tc, 7, .inl tg_54))] H := hP
        have hD : va_D A [(ph, .inl (pc, 4, .inr (.inr (.inr (.inr pf))))), (p0, .inr (0, [.int b0, .int z0, .ref n0])), (n0, .inl (nc0, 40, .inr (.inl g0))), (p1, .inr (0, [.int b1, .int z1, .ref n1])), (n1, .inl (nc1, 40, .inr (.inl g1))), (p2, .inr (0, [.int b2, .int z2, .ref n2])), (n2, .inl (nc2, 40, .inr (.inl g2))), (p3, .inr (0, [.int b3, .int z3, .ref n3])), (n3, .inl (nc3, 40, .inr (.inl g3))), (h0, .inr (6, [v0, v1, v2, v3, v4, .ref ph, .ref t0, v7])), (t0, .inl (tc, 7, .inl tg_54))] := hD
        subst hw
        refine lv_i2l (v := (-1000000001)) hx hb dX8_write_56 (by decide) ?_
        have hP9 := hP.sub (ws' := [(h0, .inr (6, [v0, v1, v2, v3, v4, .ref ph, .ref t0, v7])), (t0, .inl (tc, 7, .inl tg_54)), (ph, .inl (pc, 4, .inr (.inr (.inr (.inr pf))))), (p0, .inr (0, [.int b0, .int z0, .ref n0])), (n0, .inl (nc0, 40, .inr (.inl g0))), (p1, .inr (0, [.int b1, .int z1, .ref n1])), (n1, .inl (nc1, 40, .inr (.inl g1))), (p2, .inr (0, [.int b2, .int z2, .ref n2])), (n2, .inl (nc2, 40, .inr (.inl g2))), (p3, .inr (0, [.int b3, .int z3, .ref n3])), (n3, .inl (nc3, 40, .inr (.inl g3)))]) [9, 10, 0, 1, 2, 3, 4, 5, 6, 7, 8] rfl
        have hD9 := hD.sub (ws' := [(h0, .inr (6, [v0, v1, v2, v3, v4, .ref ph, .ref t0, v7])), (t0, .inl (tc, 7, .inl tg_54)), (ph, .inl (pc, 4, .inr (.inr (.inr (.inr pf))))), (p0, .inr (0, [.int b0, .int z0, .ref n0])), (n0, .inl (nc0, 40, .inr (.inl g0))), (p1, .inr (0, [.int b1, .int z1, .ref n1])), (n1, .inl (nc1, 40, .inr (.inl g1))), (p2, .inr (0, [.int b2, .int z2, .ref n2])), (n2, .inl (nc2, 40, .inr (.inl g2))), (p3, .inr (0, [.int b3, .int z3, .ref n3])), (n3, .inl (nc3, 40, .inr (.inl g3)))]) [9, 10, 0, 1, 2, 3, 4, 5, 6, 7, 8] (by decide) rfl
        have hK9 := hK.sub (tys' := [(tc, .int), (pc, .object "LampShapes$Paper"), (nc0, .long), (nc1, .long), (nc2, .long), (nc3, .long)]) [0, 1, 2, 3, 4, 5] rfl
        exact W.lret (v := ((-1000000001) : Int64)) hx hb hr (fun t ht hW => ⟨⟨((-1000000001) : Int64), (), rfl, trivial, tg_54, g0, g1, g2, g3, by rw [ht]; exact hP9, va_K.moved hW.alike hK9, hD9⟩, hS.F ht⟩) hS.2.2 dX8_write_57
      · skip
        have tc_52 : ¬ i.toInt < 0 := fun h => c_52 ((fa_lt _ _).mpr h)
        refine lv_iload_n hx hb dX8_write_41 rfl (lv_at hl 3 rfl) ?_
        refine lv_aload hx hb dX8_write_42 (lv_at hl 0 rfl) ?_
        refine va_getN (D := (dC, dI)) (ci := 0) (v := .int z3) (C := RX2) (T := TX2) (N := 3) hx hb hts inX2 hown hK hP 9 rfl rfl 1 (by decide) (ev_nest hev 22 rfl) (fun _ h9 => h9) rfl dX8_write_44 ?_
        have rc_55_x := pp_rng i
        have rc_55_y := pp_rng z3
        refine lv_icmp_lt (tgt := 58) hx hb dX8_write_47 (by decide) (fun c_55 => ?_) (fun c_55 => ?_)
        · skip
          have tc_55 : i.toInt < z3.toInt := (fa_lt _ _).mp c_55
          refine lv_aload hx hb dX8_write_58 (lv_at hl 0 rfl) ?_
          refine va_getN (D := (dC, dI)) (ci := 0) (v := .ref n3) (C := RX2) (T := TX2) (N := 3) hx hb hts inX2 hown hK hP 9 rfl rfl 2 (by decide) (ev_nest hev 23 rfl) (fun _ h9 => h9) rfl dX8_write_60 ?_
          refine lv_iload_n hx hb dX8_write_63 rfl (lv_at hl 3 rfl) ?_
          refine va_lald hx hb hK hP 10 5 rfl rfl (vp_in_iff.mpr ⟨by omega, by omega⟩) dX8_write_64 ?_
          refine lv_topl (fun n_56 en_56 => ?_)
          clear en_56
          refine lv_lstore (lv' := [(6, .long n_56), (5, .ref p3), (0, .ref h0), (1, .int 3), (2, .int i), (3, .long v)]) hx hb dX8_write_65 hl (by decide) rfl (fun ls hl => ?_)
          refine lv_aload hx hb dX8_write_67 (lv_at hl 1 rfl) ?_
          refine lv_iload_n hx hb dX8_write_69 rfl (lv_at hl 4 rfl) ?_
          refine lv_lload_n hx hb dX8_write_70 rfl (lv_at hl 5 rfl) ?_
          have hPc := hP.sub (ws' := [(p3, .inr (0, [.int b3, .int z3, .ref n3])), (n3, .inl (nc3, 40, .inr (.inl g3)))]) [9, 10] rfl
          have hKc := hK.sub (tys' := [(nc3, .long)]) [5] rfl
          have hDc := hD.sub (ws' := [(p3, .inr (0, [.int b3, .int z3, .ref n3])), (n3, .inl (nc3, 40, .inr (.inl g3)))]) [9, 10] (by decide) rfl
          have hFc := va_free (wc := [(p3, .inr (0, [.int b3, .int z3, .ref n3])), (n3, .inl (nc3, 40, .inr (.inl g3)))]) hD hS hA [9, 10] rfl
          refine va_callv (va_runV (As := [.int i, .long v]) (rest := []) ⟨hx, hb, hml, hown, hts⟩ (p_put l dC dI ad p3 i v b3 (.int z3) n3 nc3 g3 s.heap.size (by first | omega | decide | (simp only [fa_lt, fa_le, fa_eq, and_true, true_and, and_false, false_and, not_true_eq_false, not_false_eq_true, li_0, li_1, li_2, li_3, li_4, li_5, li_6, li_7, li_8, li_9, li_10, li_12, li_15, li_16, li_20, li_30, li_34, li_38, li_40, li_63, li_64, li_65, li_78, li_120, li_1000, li_4000, li_10000, li_11077, li_255, li_65535, li_m1, li_m2, li_m1000000001, li_m1000000002, li_m1000000003, li_m1000000004, li_m1000000005, li_m1000000006, li_m1000000007, or_true, true_or, or_false, false_or, implies_true, true_implies, false_implies] <;> omega))) (cwV 2 hts g_x_write_p_put_275 rfl rfl rfl (by decide +kernel) ⟨(Nat.le_of_ble_eq_true rfl), (Nat.le_of_ble_eq_true rfl)⟩) ⟨preM_blind, va_recv hKc hPc (ci := 0) (q0 := 0) rfl rfl, fun U hU hW => ⟨rfl, preM_at hU hW hPc hKc hDc hev⟩⟩ rfl rfl hl.1 rfl (lv_room (Nat.le_of_ble_eq_true rfl)) dX8_write_71 ⟨(Nat.le_of_ble_eq_true rfl), (Nat.le_of_ble_eq_true rfl)⟩) hS (fun q _ h => hFc q h) hFc (fun u t H1 locs ht hvm hw hB hz1 hk1 hS => ?_)
          obtain ⟨g_58, hP1, hK1, hD1⟩ := hB
          rw [ht] at hP1
          have hK1 := va_K.moved hvm.symm hK1
          obtain ⟨hP, hD⟩ := va_join (wr := [(h0, .inr (6, [v0, v1, v2, v3, v4, .ref ph, .ref t0, v7])), (t0, .inl (tc, 7, .inl tf)), (ph, .inl (pc, 4, .inr (.inr (.inr (.inr pf))))), (p0, .inr (0, [.int b0, .int z0, .ref n0])), (n0, .inl (nc0, 40, .inr (.inl g0))), (p1, .inr (0, [.int b1, .int z1, .ref n1])), (n1, .inl (nc1, 40, .inr (.inl g1))), (p2, .inr (0, [.int b2, .int z2, .ref n2])), (n2, .inl (nc2, 40, .inr (.inl g2)))]) (w1 := [(p3, .inr (0, [.int b3, .int z3, .ref n3])), (n3, .inl (nc3, 40, .inr (.inl g_58)))]) hP hD [9, 10] [0, 1, 2, 3, 4, 5, 6, 7, 8] rfl rfl (by decide) (by decide) hk1 hFc hP1 hD1
          generalize H1 = H at hP hS ⊢
          have hP : va_P (dC, dI) vwCl [(h0, .inr (6, [v0, v1, v2, v3, v4, .ref ph, .ref t0, v7])), (t0, .inl (tc, 7, .inl tf)), (ph, .inl (pc, 4, .inr (.inr (.inr (.inr pf))))), (p0, .inr (0, [.int b0, .int z0, .ref n0])), (n0, .inl (nc0, 40, .inr (.inl g0))), (p1, .inr (0, [.int b1, .int z1, .ref n1])), (n1, .inl (nc1, 40, .inr (.inl g1))), (p2, .inr (0, [.int b2, .int z2, .ref n2])), (n2, .inl (nc2, 40, .inr (.inl g2))), (p3, .inr (0, [.int b3, .int z3, .ref n3])), (n3, .inl (nc3, 40, .inr (.inl g_58)))] H := hP
          have hD : va_D A [(h0, .inr (6, [v0, v1, v2, v3, v4, .ref ph, .ref t0, v7])), (t0, .inl (tc, 7, .inl tf)), (ph, .inl (pc, 4, .inr (.inr (.inr (.inr pf))))), (p0, .inr (0, [.int b0, .int z0, .ref n0])), (n0, .inl (nc0, 40, .inr (.inl g0))), (p1, .inr (0, [.int b1, .int z1, .ref n1])), (n1, .inl (nc1, 40, .inr (.inl g1))), (p2, .inr (0, [.int b2, .int z2, .ref n2])), (n2, .inl (nc2, 40, .inr (.inl g2))), (p3, .inr (0, [.int b3, .int z3, .ref n3])), (n3, .inl (nc3, 40, .inr (.inl g_58)))] := hD
          refine lv_lload hx hb dX8_write_74 (lv_at hl 0 rfl) ?_
          have hP9 := hP.sub (ws' := [(h0, .inr (6, [v0, v1, v2, v3, v4, .ref ph, .ref t0, v7])), (t0, .inl (tc, 7, .inl tf)), (ph, .inl (pc, 4, .inr (.inr (.inr (.inr pf))))), (p0, .inr (0, [.int b0, .int z0, .ref n0])), (n0, .inl (nc0, 40, .inr (.inl g0))), (p1, .inr (0, [.int b1, .int z1, .ref n1])), (n1, .inl (nc1, 40, .inr (.inl g1))), (p2, .inr (0, [.int b2, .int z2, .ref n2])), (n2, .inl (nc2, 40, .inr (.inl g2))), (p3, .inr (0, [.int b3, .int z3, .ref n3])), (n3, .inl (nc3, 40, .inr (.inl g_58)))]) [0, 1, 2, 3, 4, 5, 6, 7, 8, 9, 10] rfl
          have hD9 := hD.sub (ws' := [(h0, .inr (6, [v0, v1, v2, v3, v4, .ref ph, .ref t0, v7])), (t0, .inl (tc, 7, .inl tf)), (ph, .inl (pc, 4, .inr (.inr (.inr (.inr pf))))), (p0, .inr (0, [.int b0, .int z0, .ref n0])), (n0, .inl (nc0, 40, .inr (.inl g0))), (p1, .inr (0, [.int b1, .int z1, .ref n1])), (n1, .inl (nc1, 40, .inr (.inl g1))), (p2, .inr (0, [.int b2, .int z2, .ref n2])), (n2, .inl (nc2, 40, .inr (.inl g2))), (p3, .inr (0, [.int b3, .int z3, .ref n3])), (n3, .inl (nc3, 40, .inr (.inl g_58)))]) [0, 1, 2, 3, 4, 5, 6, 7, 8, 9, 10] (by decide) rfl
          have hK9 := hK.sub (tys' := [(tc, .int), (pc, .object "LampShapes$Paper"), (nc0, .long), (nc1, .long), (nc2, .long), (nc3, .long)]) [0, 1, 2, 3, 4, 5] rfl
          exact W.lret (v := n_56) hx hb hr (fun t ht hW => ⟨⟨n_56, (), rfl, trivial, tf, g0, g1, g2, g_58, by rw [ht]; exact hP9, va_K.moved hW.alike hK9, hD9⟩, hS.F ht⟩) hS.2.2 dX8_write_76
        · skip
          have tc_55 : ¬ i.toInt < z3.toInt := fun h => c_55 ((fa_lt _ _).mpr h)
          refine lv_aload_n hx hb dX8_write_50 rfl (lv_at hl 1 rfl) ?_
          refine lv_ldc hx hb hown (hts _ (List.mem_of_getElem? (i := 6) rfl)) dX8_write_51 ?_
          have hPc := hP.sub (ws' := [(h0, .inr (6, [v0, v1, v2, v3, v4, .ref ph, .ref t0, v7])), (t0, .inl (tc, 7, .inl tf))]) [0, 1] rfl
          have hKc := hK.sub (tys' := [(tc, .int)]) [0] rfl
          have hDc := hD.sub (ws' := [(h0, .inr (6, [v0, v1, v2, v3, v4, .ref ph, .ref t0, v7])), (t0, .inl (tc, 7, .inl tf))]) [0, 1] (by decide) rfl
          have hFc := va_free (wc := [(h0, .inr (6, [v0, v1, v2, v3, v4, .ref ph, .ref t0, v7])), (t0, .inl (tc, 7, .inl tf))]) hD hS hA [0, 1] rfl
          refine va_calli (va_runV (As := [.int (-1000000001)]) (rest := []) ⟨hx, hb, hml, hown, hts⟩ (f_beyond l dC dI ad h0 v0 v1 v2 v3 v4 (.ref ph) t0 v7 tc tf s.heap.size ) (cwV 1 hts g_x_write_f_beyond_63 rfl rfl rfl (by decide +kernel) ⟨(Nat.le_of_ble_eq_true rfl), (Nat.le_of_ble_eq_true rfl)⟩) ⟨preM_blind, va_recv hKc hPc (ci := 6) (q0 := 0) rfl rfl, fun U hU hW => ⟨rfl, preM_at hU hW hPc hKc hDc hev⟩⟩ rfl rfl hl.1 rfl (lv_room (Nat.le_of_ble_eq_true rfl)) dX8_write_53 ⟨(Nat.le_of_ble_eq_true rfl), (Nat.le_of_ble_eq_true rfl)⟩) hS (fun q _ h => hFc q h) hFc (fun r_59 u t H1 locs ht hvm hw hB hz1 hk1 hS => ?_)
          obtain ⟨tg_60, hP1, hK1, hD1⟩ := hB
          rw [ht] at hP1
          have hK1 := va_K.moved hvm.symm hK1
          obtain ⟨hP, hD⟩ := va_join (wr := [(ph, .inl (pc, 4, .inr (.inr (.inr (.inr pf))))), (p0, .inr (0, [.int b0, .int z0, .ref n0])), (n0, .inl (nc0, 40, .inr (.inl g0))), (p1, .inr (0, [.int b1, .int z1, .ref n1])), (n1, .inl (nc1, 40, .inr (.inl g1))), (p2, .inr (0, [.int b2, .int z2, .ref n2])), (n2, .inl (nc2, 40, .inr (.inl g2))), (p3, .inr (0, [.int b3, .int z3, .ref n3])), (n3, .inl (nc3, 40, .inr (.inl g3)))]) (w1 := [(h0, .inr (6, [v0, v1, v2, v3, v4, .ref ph, .ref t0, v7])), (t0, .inl (tc, 7, .inl tg_60))]) hP hD [0, 1] [2, 3, 4, 5, 6, 7, 8, 9, 10] rfl rfl (by decide) (by decide) hk1 hFc hP1 hD1
          generalize H1 = H at hP hS ⊢
          have hP : va_P (dC, dI) vwCl [(ph, .inl (pc, 4, .inr (.inr (.inr (.inr pf))))), (p0, .inr (0, [.int b0, .int z0, .ref n0])), (n0, .inl (nc0, 40, .inr (.inl g0))), (p1, .inr (0, [.int b1, .int z1, .ref n1])), (n1, .inl (nc1, 40, .inr (.inl g1))), (p2, .inr (0, [.int b2, .int z2, .ref n2])), (n2, .inl (nc2, 40, .inr (.inl g2))), (p3, .inr (0, [.int b3, .int z3, .ref n3])), (n3, .inl (nc3, 40, .inr (.inl g3))), (h0, .inr (6, [v0, v1, v2, v3, v4, .ref ph, .ref t0, v7])), (t0, .inl (tc, 7, .inl tg_60))] H := hP
          have hD : va_D A [(ph, .inl (pc, 4, .inr (.inr (.inr (.inr pf))))), (p0, .inr (0, [.int b0, .int z0, .ref n0])), (n0, .inl (nc0, 40, .inr (.inl g0))), (p1, .inr (0, [.int b1, .int z1, .ref n1])), (n1, .inl (nc1, 40, .inr (.inl g1))), (p2, .inr (0, [.int b2, .int z2, .ref n2])), (n2, .inl (nc2, 40, .inr (.inl g2))), (p3, .inr (0, [.int b3, .int z3, .ref n3])), (n3, .inl (nc3, 40, .inr (.inl g3))), (h0, .inr (6, [v0, v1, v2, v3, v4, .ref ph, .ref t0, v7])), (t0, .inl (tc, 7, .inl tg_60))] := hD
          subst hw
          refine lv_i2l (v := (-1000000001)) hx hb dX8_write_56 (by decide) ?_
          have hP9 := hP.sub (ws' := [(h0, .inr (6, [v0, v1, v2, v3, v4, .ref ph, .ref t0, v7])), (t0, .inl (tc, 7, .inl tg_60)), (ph, .inl (pc, 4, .inr (.inr (.inr (.inr pf))))), (p0, .inr (0, [.int b0, .int z0, .ref n0])), (n0, .inl (nc0, 40, .inr (.inl g0))), (p1, .inr (0, [.int b1, .int z1, .ref n1])), (n1, .inl (nc1, 40, .inr (.inl g1))), (p2, .inr (0, [.int b2, .int z2, .ref n2])), (n2, .inl (nc2, 40, .inr (.inl g2))), (p3, .inr (0, [.int b3, .int z3, .ref n3])), (n3, .inl (nc3, 40, .inr (.inl g3)))]) [9, 10, 0, 1, 2, 3, 4, 5, 6, 7, 8] rfl
          have hD9 := hD.sub (ws' := [(h0, .inr (6, [v0, v1, v2, v3, v4, .ref ph, .ref t0, v7])), (t0, .inl (tc, 7, .inl tg_60)), (ph, .inl (pc, 4, .inr (.inr (.inr (.inr pf))))), (p0, .inr (0, [.int b0, .int z0, .ref n0])), (n0, .inl (nc0, 40, .inr (.inl g0))), (p1, .inr (0, [.int b1, .int z1, .ref n1])), (n1, .inl (nc1, 40, .inr (.inl g1))), (p2, .inr (0, [.int b2, .int z2, .ref n2])), (n2, .inl (nc2, 40, .inr (.inl g2))), (p3, .inr (0, [.int b3, .int z3, .ref n3])), (n3, .inl (nc3, 40, .inr (.inl g3)))]) [9, 10, 0, 1, 2, 3, 4, 5, 6, 7, 8] (by decide) rfl
          have hK9 := hK.sub (tys' := [(tc, .int), (pc, .object "LampShapes$Paper"), (nc0, .long), (nc1, .long), (nc2, .long), (nc3, .long)]) [0, 1, 2, 3, 4, 5] rfl
          exact W.lret (v := ((-1000000001) : Int64)) hx hb hr (fun t ht hW => ⟨⟨((-1000000001) : Int64), (), rfl, trivial, tg_60, g0, g1, g2, g3, by rw [ht]; exact hP9, va_K.moved hW.alike hK9, hD9⟩, hS.F ht⟩) hS.2.2 dX8_write_57
    · skip
      have tc_51 : ¬ r_50.toInt = 0 := fun h => c_51 ((fa_eq _ _).mpr h)
      refine lv_aload_n hx hb dX8_write_28 rfl (lv_at hl 1 rfl) ?_
      refine lv_ldcw hx hb hown (hts _ (List.mem_of_getElem? (i := 24) rfl)) dX8_write_29 ?_
      have hPc := hP.sub (ws' := [(h0, .inr (6, [v0, v1, v2, v3, v4, .ref ph, .ref t0, v7])), (t0, .inl (tc, 7, .inl tf))]) [0, 1] rfl
      have hKc := hK.sub (tys' := [(tc, .int)]) [0] rfl
      have hDc := hD.sub (ws' := [(h0, .inr (6, [v0, v1, v2, v3, v4, .ref ph, .ref t0, v7])), (t0, .inl (tc, 7, .inl tf))]) [0, 1] (by decide) rfl
      have hFc := va_free (wc := [(h0, .inr (6, [v0, v1, v2, v3, v4, .ref ph, .ref t0, v7])), (t0, .inl (tc, 7, .inl tf))]) hD hS hA [0, 1] rfl
      refine va_calli (va_runV (As := [.int (-1000000006)]) (rest := []) ⟨hx, hb, hml, hown, hts⟩ (f_missing l dC dI ad h0 v0 v1 v2 v3 v4 (.ref ph) t0 v7 tc tf s.heap.size ) (cwV 1 hts g_x_write_f_missing_63 rfl rfl rfl (by decide +kernel) ⟨(Nat.le_of_ble_eq_true rfl), (Nat.le_of_ble_eq_true rfl)⟩) ⟨preM_blind, va_recv hKc hPc (ci := 6) (q0 := 0) rfl rfl, fun U hU hW => ⟨rfl, preM_at hU hW hPc hKc hDc hev⟩⟩ rfl rfl hl.1 rfl (lv_room (Nat.le_of_ble_eq_true rfl)) dX8_write_32 ⟨(Nat.le_of_ble_eq_true rfl), (Nat.le_of_ble_eq_true rfl)⟩) hS (fun q _ h => hFc q h) hFc (fun r_61 u t H1 locs ht hvm hw hB hz1 hk1 hS => ?_)
      obtain ⟨tg_62, hP1, hK1, hD1⟩ := hB
      rw [ht] at hP1
      have hK1 := va_K.moved hvm.symm hK1
      obtain ⟨hP, hD⟩ := va_join (wr := [(ph, .inl (pc, 4, .inr (.inr (.inr (.inr pf))))), (p0, .inr (0, [.int b0, .int z0, .ref n0])), (n0, .inl (nc0, 40, .inr (.inl g0))), (p1, .inr (0, [.int b1, .int z1, .ref n1])), (n1, .inl (nc1, 40, .inr (.inl g1))), (p2, .inr (0, [.int b2, .int z2, .ref n2])), (n2, .inl (nc2, 40, .inr (.inl g2))), (p3, .inr (0, [.int b3, .int z3, .ref n3])), (n3, .inl (nc3, 40, .inr (.inl g3)))]) (w1 := [(h0, .inr (6, [v0, v1, v2, v3, v4, .ref ph, .ref t0, v7])), (t0, .inl (tc, 7, .inl tg_62))]) hP hD [0, 1] [2, 3, 4, 5, 6, 7, 8, 9, 10] rfl rfl (by decide) (by decide) hk1 hFc hP1 hD1
      generalize H1 = H at hP hS ⊢
      have hP : va_P (dC, dI) vwCl [(ph, .inl (pc, 4, .inr (.inr (.inr (.inr pf))))), (p0, .inr (0, [.int b0, .int z0, .ref n0])), (n0, .inl (nc0, 40, .inr (.inl g0))), (p1, .inr (0, [.int b1, .int z1, .ref n1])), (n1, .inl (nc1, 40, .inr (.inl g1))), (p2, .inr (0, [.int b2, .int z2, .ref n2])), (n2, .inl (nc2, 40, .inr (.inl g2))), (p3, .inr (0, [.int b3, .int z3, .ref n3])), (n3, .inl (nc3, 40, .inr (.inl g3))), (h0, .inr (6, [v0, v1, v2, v3, v4, .ref ph, .ref t0, v7])), (t0, .inl (tc, 7, .inl tg_62))] H := hP
      have hD : va_D A [(ph, .inl (pc, 4, .inr (.inr (.inr (.inr pf))))), (p0, .inr (0, [.int b0, .int z0, .ref n0])), (n0, .inl (nc0, 40, .inr (.inl g0))), (p1, .inr (0, [.int b1, .int z1, .ref n1])), (n1, .inl (nc1, 40, .inr (.inl g1))), (p2, .inr (0, [.int b2, .int z2, .ref n2])), (n2, .inl (nc2, 40, .inr (.inl g2))), (p3, .inr (0, [.int b3, .int z3, .ref n3])), (n3, .inl (nc3, 40, .inr (.inl g3))), (h0, .inr (6, [v0, v1, v2, v3, v4, .ref ph, .ref t0, v7])), (t0, .inl (tc, 7, .inl tg_62))] := hD
      subst hw
      refine lv_i2l (v := (-1000000006)) hx hb dX8_write_35 (by decide) ?_
      have hP9 := hP.sub (ws' := [(h0, .inr (6, [v0, v1, v2, v3, v4, .ref ph, .ref t0, v7])), (t0, .inl (tc, 7, .inl tg_62)), (ph, .inl (pc, 4, .inr (.inr (.inr (.inr pf))))), (p0, .inr (0, [.int b0, .int z0, .ref n0])), (n0, .inl (nc0, 40, .inr (.inl g0))), (p1, .inr (0, [.int b1, .int z1, .ref n1])), (n1, .inl (nc1, 40, .inr (.inl g1))), (p2, .inr (0, [.int b2, .int z2, .ref n2])), (n2, .inl (nc2, 40, .inr (.inl g2))), (p3, .inr (0, [.int b3, .int z3, .ref n3])), (n3, .inl (nc3, 40, .inr (.inl g3)))]) [9, 10, 0, 1, 2, 3, 4, 5, 6, 7, 8] rfl
      have hD9 := hD.sub (ws' := [(h0, .inr (6, [v0, v1, v2, v3, v4, .ref ph, .ref t0, v7])), (t0, .inl (tc, 7, .inl tg_62)), (ph, .inl (pc, 4, .inr (.inr (.inr (.inr pf))))), (p0, .inr (0, [.int b0, .int z0, .ref n0])), (n0, .inl (nc0, 40, .inr (.inl g0))), (p1, .inr (0, [.int b1, .int z1, .ref n1])), (n1, .inl (nc1, 40, .inr (.inl g1))), (p2, .inr (0, [.int b2, .int z2, .ref n2])), (n2, .inl (nc2, 40, .inr (.inl g2))), (p3, .inr (0, [.int b3, .int z3, .ref n3])), (n3, .inl (nc3, 40, .inr (.inl g3)))]) [9, 10, 0, 1, 2, 3, 4, 5, 6, 7, 8] (by decide) rfl
      have hK9 := hK.sub (tys' := [(tc, .int), (pc, .object "LampShapes$Paper"), (nc0, .long), (nc1, .long), (nc2, .long), (nc3, .long)]) [0, 1, 2, 3, 4, 5] rfl
      exact W.lret (v := ((-1000000006) : Int64)) hx hb hr (fun t ht hW => ⟨⟨((-1000000006) : Int64), (), rfl, trivial, tg_62, g0, g1, g2, g3, by rw [ht]; exact hP9, va_K.moved hW.alike hK9, hD9⟩, hS.F ht⟩) hS.2.2 dX8_write_36

