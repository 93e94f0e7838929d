theorem pp_lcmp {x y : Int64} (h : x = y) : lg_cmp x y = 0 := by subst h; simp [lg_cmp]
theorem pp_same2 {α : Type} {c1 : Prop} {r s v1 v2 : α} (h : ((c1) → r = v1) ∧ (¬ (c1) → r = v2)) (g : ((c1) → s = v1) ∧ (¬ (c1) → s = v2)) : r = s := by
  by_cases k0 : c1
  · exact ((h.1) k0).trans ((g.1) k0).symm
  exact ((h.2) k0).trans ((g.2) k0).symm
theorem pp_same3 {α : Type} {c1 c2 : Prop} {r s v1 v2 v3 : α} (h : ((c1) → r = v1) ∧ (¬ (c1) → (c2) → r = v2) ∧ (¬ (c1) → ¬ (c2) → r = v3)) (g : ((c1) → s = v1) ∧ (¬ (c1) → (c2) → s = v2) ∧ (¬ (c1) → ¬ (c2) → s = v3)) : r = s := by
  by_cases k0 : c1
  · exact ((h.1) k0).trans ((g.1) k0).symm
  by_cases k1 : c2
  · exact ((h.2.1) k0 k1).trans ((g.2.1) k0 k1).symm
  exact ((h.2.2) k0 k1).trans ((g.2.2) k0 k1).symm
theorem pp_same4 {α : Type} {c1 c2 c3 : Prop} {r s v1 v2 v3 v4 : α} (h : ((c1) → r = v1) ∧ (¬ (c1) → (c2) → r = v2) ∧ (¬ (c1) → ¬ (c2) → (c3) → r = v3) ∧ (¬ (c1) → ¬ (c2) → ¬ (c3) → r = v4)) (g : ((c1) → s = v1) ∧ (¬ (c1) → (c2) → s = v2) ∧ (¬ (c1) → ¬ (c2) → (c3) → s = v3) ∧ (¬ (c1) → ¬ (c2) → ¬ (c3) → s = v4)) : r = s := by
  by_cases k0 : c1
  · exact ((h.1) k0).trans ((g.1) k0).symm
  by_cases k1 : c2
  · exact ((h.2.1) k0 k1).trans ((g.2.1) k0 k1).symm
  by_cases k2 : c3
  · exact ((h.2.2.1) k0 k1 k2).trans ((g.2.2.1) k0 k1 k2).symm
  exact ((h.2.2.2) k0 k1 k2).trans ((g.2.2.2) k0 k1 k2).symm
theorem pp_same5 {α : Type} {c1 c2 c3 c4 : Prop} {r s v1 v2 v3 v4 v5 : α} (h : ((c1) → r = v1) ∧ (¬ (c1) → (c2) → r = v2) ∧ (¬ (c1) → ¬ (c2) → (c3) → r = v3) ∧ (¬ (c1) → ¬ (c2) → ¬ (c3) → (c4) → r = v4) ∧ (¬ (c1) → ¬ (c2) → ¬ (c3) → ¬ (c4) → r = v5)) (g : ((c1) → s = v1) ∧ (¬ (c1) → (c2) → s = v2) ∧ (¬ (c1) → ¬ (c2) → (c3) → s = v3) ∧ (¬ (c1) → ¬ (c2) → ¬ (c3) → (c4) → s = v4) ∧ (¬ (c1) → ¬ (c2) → ¬ (c3) → ¬ (c4) → s = v5)) : r = s := by
  by_cases k0 : c1
  · exact ((h.1) k0).trans ((g.1) k0).symm
  by_cases k1 : c2
  · exact ((h.2.1) k0 k1).trans ((g.2.1) k0 k1).symm
  by_cases k2 : c3
  · exact ((h.2.2.1) k0 k1 k2).trans ((g.2.2.1) k0 k1 k2).symm
  by_cases k3 : c4
  · exact ((h.2.2.2.1) k0 k1 k2 k3).trans ((g.2.2.2.1) k0 k1 k2 k3).symm
  exact ((h.2.2.2.2) k0 k1 k2 k3).trans ((g.2.2.2.2) k0 k1 k2 k3).symm
theorem pp_same6 {α : Type} {c1 c2 c3 c4 c5 : Prop} {r s v1 v2 v3 v4 v5 v6 : α} (h : ((c1) → r = v1) ∧ (¬ (c1) → (c2) → r = v2) ∧ (¬ (c1) → ¬ (c2) → (c3) → r = v3) ∧ (¬ (c1) → ¬ (c2) → ¬ (c3) → (c4) → r = v4) ∧ (¬ (c1) → ¬ (c2) → ¬ (c3) → ¬ (c4) → (c5) → r = v5) ∧ (¬ (c1) → ¬ (c2) → ¬ (c3) → ¬ (c4) → ¬ (c5) → r = v6)) (g : ((c1) → s = v1) ∧ (¬ (c1) → (c2) → s = v2) ∧ (¬ (c1) → ¬ (c2) → (c3) → s = v3) ∧ (¬ (c1) → ¬ (c2) → ¬ (c3) → (c4) → s = v4) ∧ (¬ (c1) → ¬ (c2) → ¬ (c3) → ¬ (c4) → (c5) → s = v5) ∧ (¬ (c1) → ¬ (c2) → ¬ (c3) → ¬ (c4) → ¬ (c5) → s = v6)) : r = s := by
  by_cases k0 : c1
  · exact ((h.1) k0).trans ((g.1) k0).symm
  by_cases k1 : c2
  · exact ((h.2.1) k0 k1).trans ((g.2.1) k0 k1).symm
  by_cases k2 : c3
  · exact ((h.2.2.1) k0 k1 k2).trans ((g.2.2.1) k0 k1 k2).symm
  by_cases k3 : c4
  · exact ((h.2.2.2.1) k0 k1 k2 k3).trans ((g.2.2.2.1) k0 k1 k2 k3).symm
  by_cases k4 : c5
  · exact ((h.2.2.2.2.1) k0 k1 k2 k3 k4).trans ((g.2.2.2.2.1) k0 k1 k2 k3 k4).symm
  exact ((h.2.2.2.2.2) k0 k1 k2 k3 k4).trans ((g.2.2.2.2.2) k0 k1 k2 k3 k4).symm
theorem pp_same7 {α : Type} {c1 c2 c3 c4 c5 c6 : Prop} {r s v1 v2 v3 v4 v5 v6 v7 : α} (h : ((c1) → r = v1) ∧ (¬ (c1) → (c2) → r = v2) ∧ (¬ (c1) → ¬ (c2) → (c3) → r = v3) ∧ (¬ (c1) → ¬ (c2) → ¬ (c3) → (c4) → r = v4) ∧ (¬ (c1) → ¬ (c2) → ¬ (c3) → ¬ (c4) → (c5) → r = v5) ∧ (¬ (c1) → ¬ (c2) → ¬ (c3) → ¬ (c4) → ¬ (c5) → (c6) → r = v6) ∧ (¬ (c1) → ¬ (c2) → ¬ (c3) → ¬ (c4) → ¬ (c5) → ¬ (c6) → r = v7)) (g : ((c1) → s = v1) ∧ (¬ (c1) → (c2) → s = v2) ∧ (¬ (c1) → ¬ (c2) → (c3) → s = v3) ∧ (¬ (c1) → ¬ (c2) → ¬ (c3) → (c4) → s = v4) ∧ (¬ (c1) → ¬ (c2) → ¬ (c3) → ¬ (c4) → (c5) → s = v5) ∧ (¬ (c1) → ¬ (c2) → ¬ (c3) → ¬ (c4) → ¬ (c5) → (c6) → s = v6) ∧ (¬ (c1) → ¬ (c2) → ¬ (c3) → ¬ (c4) → ¬ (c5) → ¬ (c6) → s = v7)) : r = s := by
  by_cases k0 : c1
  · exact ((h.1) k0).trans ((g.1) k0).symm
  by_cases k1 : c2
  · exact ((h.2.1) k0 k1).trans ((g.2.1) k0 k1).symm
  by_cases k2 : c3
  · exact ((h.2.2.1) k0 k1 k2).trans ((g.2.2.1) k0 k1 k2).symm
  by_cases k3 : c4
  · exact ((h.2.2.2.1) k0 k1 k2 k3).trans ((g.2.2.2.1) k0 k1 k2 k3).symm
  by_cases k4 : c5
  · exact ((h.2.2.2.2.1) k0 k1 k2 k3 k4).trans ((g.2.2.2.2.1) k0 k1 k2 k3 k4).symm
  by_cases k5 : c6
  · exact ((h.2.2.2.2.2.1) k0 k1 k2 k3 k4 k5).trans ((g.2.2.2.2.2.1) k0 k1 k2 k3 k4 k5).symm
  exact ((h.2.2.2.2.2.2) k0 k1 k2 k3 k4 k5).trans ((g.2.2.2.2.2.2) k0 k1 k2 k3 k4 k5).symm
/-- what stands all through the law, with a script of six -/
def lawC (p : Program) (s : State) (m : MethodId) (meth : Method) (c : Code) (b : Nat) (xs : Nat → Int32) (A : Nat → Prop) (ad : Nat → Nat) : Prop :=
  p.tables.exec = Jvm.exec ∧ c.code = code ∧ meth.sig.returnType = ret ∧ c.maxLocals = 4 ∧ s.vm.findClass RL = some m.cls ∧ (∀ w ∈ w_law, w.before #[Value.ref b] s = true) ∧ va_X b 6 xs s s.heap ∧ b < s.heap.size ∧ meth.locks = false ∧ (∀ q : Nat, s.heap.size ≤ q → A q) ∧ (∀ q : Nat, A q → s.heap.size ≤ q) ∧ ¬ A b ∧ ev ad s ∧ sf ad A s s.heap

set_option maxHeartbeats 4000000 in
set_option maxRecDepth 100000 in
/-- behind the one call: the loop ends, the law answers 1 -/
theorem law_tail {p : Program} {l : Launch} {e : Env} {s : State} {m : MethodId} {below : List Frame} {meth : Method} {c : Code} {b : Nat} {xs : Nat → Int32} {A : Nat → Prop} {ad : Nat → Nat} {H : Heap} {locs : List Loc} {ls : Array Slot} (LC : lawC p s m meth c b xs A ad) (hS : va_S A s.heap H locs) (hl : lv_has ls 4 [(3, .int 0), (0, .ref b)]) : W p l e room_1 s m #[Value.ref b] below meth c H locs 52 1794 (lw_Z below #[Value.ref b] s) (F0 m 1457 ls []) := by
  obtain ⟨hx, hb, hr, hml, hown, hts, hX, hbl, hlocks, hA, hA2, hbA, hev, hsf⟩ := id LC
  refine lv_iinc (v := 6) (lv' := [(3, .int 6), (0, .ref b)]) hx hb dL_law_1457 hl (k := 0) rfl (by decide) (by decide) rfl (fun ls hl => ?_)
  refine lv_goto (tgt := 18) hx hb dL_law_1460 (by decide) ?_
  refine lv_iload_n hx hb dL_law_18 rfl (lv_at hl 0 rfl) ?_
  refine lv_aload_n hx hb dL_law_19 rfl (lv_at hl 1 rfl) ?_
  refine va_slen hx hb hX hbl hbA hS dL_law_20 ?_
  refine pp_ti (y := 6) rfl ?_
  refine lv_bipush (v := 6) hx hb dL_law_21 (by decide) ?_
  refine lv_isub hx hb dL_law_23 ?_
  refine pp_ti (y := 0) (by decide) ?_
  refine lv_icmp_gt (tgt := 1463) hx hb dL_law_24 (by decide) (fun _ => ?_) (fun c => absurd (by decide) c)
  refine lv_iconst (v := 1) hx hb dL_law_1463 (by decide) ?_
  refine va_forget (fun q hq => hA2 _ (hS.2.2 q hq)) ?_
  refine W.widen (k := 600000) (n := 7302250) (Nat.le_of_ble_eq_true rfl) (Nat.le_of_ble_eq_true rfl) ?_
  exact lw_ret hx hb hr hlocks dL_law_1464

set_option maxHeartbeats 4000000 in
set_option maxRecDepth 100000 in
/-- one call of shape on two new objects -/
theorem law_0 {p : Program} {l : Launch} {e : Env} {s : State} {m : MethodId} {below : List Frame} {meth : Method} {c : Code} {b : Nat} {xs : Nat → Int32} {A : Nat → Prop} {dC : Nat → ClassId} {dI : Nat → Nat → Nat} {ad : Nat → Nat} {H : Heap} {locs : List Loc} {ls : Array Slot} {h0 g0 : Nat} {ah : Nat} {bh : Nat} {sh : Nat} {rh : Nat} {ch : Nat} {ph : Nat} {th : Nat} {a0 : Nat} {a1 : Nat} {a2 : Nat} {a3 : Nat} {a4 : Nat} {ac0 : ClassId} {ac1 : ClassId} {tc : ClassId} {m_now : Nat} {m_kept : Nat} {m_pictures : Nat} {m_keptPictures : Nat} {m_found : Nat} {m_row : Nat} {m_bestRow : Nat} {m_tape : Nat} {m_kinds : Nat} {m_items : Nat} {m_itemPictures : Nat} {m_widths : Nat} {m_sizes : Nat} {m_numbers : Nat} {m_moved : Nat} {mc_now : ClassId} {m_nf : Nat → Int32} {mc_found : ClassId} (LC : lawC p s m meth c b xs A ad) (hS : va_S A s.heap H locs) (hq10 : ∀ j, j < 38 → m_nf j = fr_n j) (hP : va_P (dC, dI) vwCl [(h0, .inr (6, [.ref ah, .ref bh, .ref sh, .ref rh, .ref ch, .ref ph, .ref th, .int 0])), (ah, .inr (4, [.int 0, .ref a0, .ref a1, .int 0, .ref a2, .ref a3, .int 0, .ref a4, .int 63])), (a0, .inl (ac0, 9, .inl (fun _ => 0))), (a1, .inl (ac1, 9, .inl (fun _ => 0))), (th, .inl (tc, 7, .inl (fun _ => 0))), (g0, .inr (7, [.ref m_now, .ref m_kept, .ref m_pictures, .ref m_keptPictures, .int 0, .ref m_found, .int 0, .ref m_row, .ref m_bestRow, .int 0, .ref m_tape, .int 0, .int 0, .int 0, .int 0, .int 0, .int 0, .ref m_kinds, .ref m_items, .ref m_itemPictures, .int 0, .int 0, .int 0, .int 0, .ref m_widths, .ref m_sizes, .ref m_numbers, .ref m_moved])), (m_now, .inl (mc_now, 38, .inl m_nf)), (m_found, .inl (mc_found, 8, .inl (fun _ => 0)))] H) (hK : va_K (dC, dI) vwCl [(ac0, .int), (ac1, .int), (tc, .int), (mc_now, .int), (mc_found, .int)] s) (hD : va_D A [(h0, .inr (6, [.ref ah, .ref bh, .ref sh, .ref rh, .ref ch, .ref ph, .ref th, .int 0])), (ah, .inr (4, [.int 0, .ref a0, .ref a1, .int 0, .ref a2, .ref a3, .int 0, .ref a4, .int 63])), (a0, .inl (ac0, 9, .inl (fun _ => 0))), (a1, .inl (ac1, 9, .inl (fun _ => 0))), (th, .inl (tc, 7, .inl (fun _ => 0))), (g0, .inr (7, [.ref m_now, .ref m_kept, .ref m_pictures, .ref m_keptPictures, .int 0, .ref m_found, .int 0, .ref m_row, .ref m_bestRow, .int 0, .ref m_tape, .int 0, .int 0, .int 0, .int 0, .int 0, .int 0, .ref m_kinds, .ref m_items, .ref m_itemPictures, .int 0, .int 0, .int 0, .int 0, .ref m_widths, .ref m_sizes, .ref m_numbers, .ref m_moved])), (m_now, .inl (mc_now, 38, .inl m_nf)), (m_found, .inl (mc_found, 8, .inl (fun _ => 0)))]) (hl : lv_has ls 4 [(3, .int 0), (2, .ref g0), (1, .ref h0), (0, .ref b)]) : W p l e room_1 s m #[Value.ref b] below meth c H locs 52 1794 (lw_Z below #[Value.ref b] s) (F0 m 224 ls []) := by
  obtain ⟨hx, hb, hr, hml, hown, hts, hX, hbl, hlocks, hA, hA2, hbA, hev, hsf⟩ := id LC
  refine lv_aload_n hx hb dL_law_224 rfl (lv_at hl 2 rfl) ?_
  refine lv_aload_n hx hb dL_law_225 rfl (lv_at hl 3 rfl) ?_
  refine lv_iload_n hx hb dL_law_226 rfl (lv_at hl 0 rfl) ?_
  refine lv_iconst (v := 1) hx hb dL_law_227 (by decide) ?_
  refine lv_iadd hx hb dL_law_228 ?_
  refine pp_ti (y := 1) (by decide) ?_
  refine va_sld hx hb hX hbl hbA hS (vp_in_nI (n := 1) (by decide) (by decide)) dL_law_229 ?_
  refine pp_ti (y := xs 1) rfl ?_
  refine lv_aload_n hx hb dL_law_230 rfl (lv_at hl 3 rfl) ?_
  refine lv_iload_n hx hb dL_law_231 rfl (lv_at hl 0 rfl) ?_
  refine lv_iconst (v := 2) hx hb dL_law_232 (by decide) ?_
  refine lv_iadd hx hb dL_law_233 ?_
  refine pp_ti (y := 2) (by decide) ?_
  refine va_sld hx hb hX hbl hbA hS (vp_in_nI (n := 2) (by decide) (by decide)) dL_law_234 ?_
  refine pp_ti (y := xs 2) rfl ?_
  have hPc := hP.sub (ws' := [(h0, .inr (6, [.ref ah, .ref bh, .ref sh, .ref rh, .ref ch, .ref ph, .ref th, .int 0])), (ah, .inr (4, [.int 0, .ref a0, .ref a1, .int 0, .ref a2, .ref a3, .int 0, .ref a4, .int 63])), (a0, .inl (ac0, 9, .inl (fun _ => 0))), (a1, .inl (ac1, 9, .inl (fun _ => 0))), (th, .inl (tc, 7, .inl (fun _ => 0)))]) [0, 1, 2, 3, 4] rfl
  have hKc := hK.sub (tys' := [(ac0, .int), (ac1, .int), (tc, .int)]) [0, 1, 2] rfl
  have hDc := hD.sub (ws' := [(h0, .inr (6, [.ref ah, .ref bh, .ref sh, .ref rh, .ref ch, .ref ph, .ref th, .int 0])), (ah, .inr (4, [.int 0, .ref a0, .ref a1, .int 0, .ref a2, .ref a3, .int 0, .ref a4, .int 63])), (a0, .inl (ac0, 9, .inl (fun _ => 0))), (a1, .inl (ac1, 9, .inl (fun _ => 0))), (th, .inl (tc, 7, .inl (fun _ => 0)))]) [0, 1, 2, 3, 4] (by decide) rfl
  have hFc := va_free (wc := [(h0, .inr (6, [.ref ah, .ref bh, .ref sh, .ref rh, .ref ch, .ref ph, .ref th, .int 0])), (ah, .inr (4, [.int 0, .ref a0, .ref a1, .int 0, .ref a2, .ref a3, .int 0, .ref a4, .int 63])), (a0, .inl (ac0, 9, .inl (fun _ => 0))), (a1, .inl (ac1, 9, .inl (fun _ => 0))), (th, .inl (tc, 7, .inl (fun _ => 0)))]) hD hS hA [0, 1, 2, 3, 4] rfl
  refine va_calli (va_runV (As := [.int (xs 1), .int (xs 2)]) (rest := []) ⟨hx, hb, hml, hown, hts⟩ (x_shape l dC dI ad h0 (xs 1) (xs 2) ah (.ref bh) (.ref sh) (.ref rh) (.ref ch) (.ref ph) th (.int 0) a0 a1 (.int 0) (.ref a2) (.ref a3) (.int 0) (.ref a4) (.int 63) ac0 (fun _ => 0) ac1 (fun _ => 0) tc (fun _ => 0) H.size ) (cwV 2 hts g_law_x_shape_13 rfl rfl rfl (by decide +kernel) ⟨(Nat.le_of_ble_eq_true rfl), (Nat.le_of_ble_eq_true rfl)⟩) ⟨preM_blind, va_recv hKc hPc (ci := 6) (q0 := 0) rfl rfl, fun U hU hW => ⟨rfl, preM_at hU hW hPc hKc hDc hev⟩⟩ rfl rfl hl.1 rfl (lv_room (Nat.le_of_ble_eq_true rfl)) dL_law_235 ⟨(Nat.le_of_ble_eq_true rfl), (Nat.le_of_ble_eq_true rfl)⟩) hS (fun q _ h => hFc q h) hFc (fun r_1 u t H1 locs ht hvm hw hB hz1 hk1 hS => ?_)
  obtain ⟨hP, hD⟩ := va_join (wr := [(g0, .inr (7, [.ref m_now, .ref m_kept, .ref m_pictures, .ref m_keptPictures, .int 0, .ref m_found, .int 0, .ref m_row, .ref m_bestRow, .int 0, .ref m_tape, .int 0, .int 0, .int 0, .int 0, .int 0, .int 0, .ref m_kinds, .ref m_items, .ref m_itemPictures, .int 0, .int 0, .int 0, .int 0, .ref m_widths, .ref m_sizes, .ref m_numbers, .ref m_moved])), (m_now, .inl (mc_now, 38, .inl m_nf)), (m_found, .inl (mc_found, 8, .inl (fun _ => 0)))]) (w1 := []) hP hD [0, 1, 2, 3, 4] [5, 6, 7] rfl rfl (by decide) (by decide) hk1 hFc nil_P nil_D
  generalize H1 = H at hP hS ⊢
  have hP : va_P (dC, dI) vwCl [(g0, .inr (7, [.ref m_now, .ref m_kept, .ref m_pictures, .ref m_keptPictures, .int 0, .ref m_found, .int 0, .ref m_row, .ref m_bestRow, .int 0, .ref m_tape, .int 0, .int 0, .int 0, .int 0, .int 0, .int 0, .ref m_kinds, .ref m_items, .ref m_itemPictures, .int 0, .int 0, .int 0, .int 0, .ref m_widths, .ref m_sizes, .ref m_numbers, .ref m_moved])), (m_now, .inl (mc_now, 38, .inl m_nf)), (m_found, .inl (mc_found, 8, .inl (fun _ => 0)))] H := hP
  have hD : va_D A [(g0, .inr (7, [.ref m_now, .ref m_kept, .ref m_pictures, .ref m_keptPictures, .int 0, .ref m_found, .int 0, .ref m_row, .ref m_bestRow, .int 0, .ref m_tape, .int 0, .int 0, .int 0, .int 0, .int 0, .int 0, .ref m_kinds, .ref m_items, .ref m_itemPictures, .int 0, .int 0, .int 0, .int 0, .ref m_widths, .ref m_sizes, .ref m_numbers, .ref m_moved])), (m_now, .inl (mc_now, 38, .inl m_nf)), (m_found, .inl (mc_found, 8, .inl (fun _ => 0)))] := hD
  have hr_1 := hw
  refine lv_aload_n hx hb dL_law_238 rfl (lv_at hl 1 rfl) ?_
  refine lv_aload_n hx hb dL_law_239 rfl (lv_at hl 3 rfl) ?_
  refine lv_iload_n hx hb dL_law_240 rfl (lv_at hl 0 rfl) ?_
  refine lv_iconst (v := 1) hx hb dL_law_241 (by decide) ?_
  refine lv_iadd hx hb dL_law_242 ?_
  refine pp_ti (y := 1) (by decide) ?_
  refine va_sld hx hb hX hbl hbA hS (vp_in_nI (n := 1) (by decide) (by decide)) dL_law_243 ?_
  refine pp_ti (y := xs 1) rfl ?_
  refine lv_aload_n hx hb dL_law_244 rfl (lv_at hl 3 rfl) ?_
  refine lv_iload_n hx hb dL_law_245 rfl (lv_at hl 0 rfl) ?_
  refine lv_iconst (v := 2) hx hb dL_law_246 (by decide) ?_
  refine lv_iadd hx hb dL_law_247 ?_
  refine pp_ti (y := 2) (by decide) ?_
  refine va_sld hx hb hX hbl hbA hS (vp_in_nI (n := 2) (by decide) (by decide)) dL_law_248 ?_
  refine pp_ti (y := xs 2) rfl ?_
  have hPc := hP.sub (ws' := [(g0, .inr (7, [.ref m_now, .ref m_kept, .ref m_pictures, .ref m_keptPictures, .int 0, .ref m_found, .int 0, .ref m_row, .ref m_bestRow, .int 0, .ref m_tape, .int 0, .int 0, .int 0, .int 0, .int 0, .int 0, .ref m_kinds, .ref m_items, .ref m_itemPictures, .int 0, .int 0, .int 0, .int 0, .ref m_widths, .ref m_sizes, .ref m_numbers, .ref m_moved])), (m_now, .inl (mc_now, 38, .inl m_nf)), (m_found, .inl (mc_found, 8, .inl (fun _ => 0)))]) [0, 1, 2] rfl
  have hKc := hK.sub (tys' := [(mc_now, .int), (mc_found, .int)]) [3, 4] rfl
  have hDc := hD.sub (ws' := [(g0, .inr (7, [.ref m_now, .ref m_kept, .ref m_pictures, .ref m_keptPictures, .int 0, .ref m_found, .int 0, .ref m_row, .ref m_bestRow, .int 0, .ref m_tape, .int 0, .int 0, .int 0, .int 0, .int 0, .int 0, .ref m_kinds, .ref m_items, .ref m_itemPictures, .int 0, .int 0, .int 0, .int 0, .ref m_widths, .ref m_sizes, .ref m_numbers, .ref m_moved])), (m_now, .inl (mc_now, 38, .inl m_nf)), (m_found, .inl (mc_found, 8, .inl (fun _ => 0)))]) [0, 1, 2] (by decide) rfl
  have hFc := va_free (wc := [(g0, .inr (7, [.ref m_now, .ref m_kept, .ref m_pictures, .ref m_keptPictures, .int 0, .ref m_found, .int 0, .ref m_row, .ref m_bestRow, .int 0, .ref m_tape, .int 0, .int 0, .int 0, .int 0, .int 0, .int 0, .ref m_kinds, .ref m_items, .ref m_itemPictures, .int 0, .int 0, .int 0, .int 0, .ref m_widths, .ref m_sizes, .ref m_numbers, .ref m_moved])), (m_now, .inl (mc_now, 38, .inl m_nf)), (m_found, .inl (mc_found, 8, .inl (fun _ => 0)))]) hD hS hA [0, 1, 2] rfl
  refine va_calli (va_runV (As := [.int (xs 1), .int (xs 2)]) (rest := [.int r_1]) ⟨hx, hb, hml, hown, hts⟩ (y_shape l dC dI ad g0 (xs 1) (xs 2) m_now (.ref m_kept) (.ref m_pictures) (.ref m_keptPictures) (.int 0) m_found (.int 0) (.ref m_row) (.ref m_bestRow) (.int 0) (.ref m_tape) (.int 0) (.int 0) (.int 0) (.int 0) (.int 0) (.int 0) (.ref m_kinds) (.ref m_items) (.ref m_itemPictures) (.int 0) (.int 0) (.int 0) (.int 0) (.ref m_widths) (.ref m_sizes) (.ref m_numbers) (.ref m_moved) mc_now m_nf mc_found (fun _ => 0) H.size hq10) (cwV 2 hts g_law_y_shape_17 rfl rfl rfl (by decide +kernel) ⟨(Nat.le_of_ble_eq_true rfl), (Nat.le_of_ble_eq_true rfl)⟩) ⟨preM_blind, va_recv hKc hPc (ci := 7) (q0 := 0) rfl rfl, fun U hU hW => ⟨rfl, preM_at hU hW hPc hKc hDc hev⟩⟩ rfl rfl hl.1 rfl (lv_room (Nat.le_of_ble_eq_true rfl)) dL_law_249 ⟨(Nat.le_of_ble_eq_true rfl), (Nat.le_of_ble_eq_true rfl)⟩) hS (fun q _ h => hFc q h) hFc (fun r_2 u t H1 locs ht hvm hw hB hz1 hk1 hS => ?_)
  obtain ⟨hP, hD⟩ := va_join (wr := []) (w1 := []) hP hD [0, 1, 2] [] rfl rfl (by decide) (by decide) hk1 hFc nil_P nil_D
  generalize H1 = H at hP hS ⊢
  have hP : va_P (dC, dI) vwCl [] H := hP
  have hD : va_D A [] := hD
  have hr_2 := hw
  refine lv_icmp_eq (tgt := 1457) hx hb dL_law_252 (by decide) (fun _ => ?_) (fun c => absurd (pp_same2 hr_1 hr_2) c)
  exact law_tail LC hS (lv_sub hl [0, 3] rfl)

set_option maxHeartbeats 4000000 in
set_option maxRecDepth 100000 in
/-- one call of of on two new objects -/
theorem law_1 {p : Program} {l : Launch} {e : Env} {s : State} {m : MethodId} {below : List Frame} {meth : Method} {c : Code} {b : Nat} {xs : Nat → Int32} {A : Nat → Prop} {dC : Nat → ClassId} {dI : Nat → Nat → Nat} {ad : Nat → Nat} {H : Heap} {locs : List Loc} {ls : Array Slot} {h0 g0 : Nat} {ah : Nat} {bh : Nat} {sh : Nat} {rh : Nat} {ch : Nat} {ph : Nat} {th : Nat} {a0 : Nat} {a1 : Nat} {a2 : Nat} {a3 : Nat} {a4 : Nat} {tc : ClassId} {m_now : Nat} {m_kept : Nat} {m_pictures : Nat} {m_keptPictures : Nat} {m_found : Nat} {m_row : Nat} {m_bestRow : Nat} {m_tape : Nat} {m_kinds : Nat} {m_items : Nat} {m_itemPictures : Nat} {m_widths : Nat} {m_sizes : Nat} {m_numbers : Nat} {m_moved : Nat} {mc_now : ClassId} {m_nf : Nat → Int32} {mc_found : ClassId} (LC : lawC p s m meth c b xs A ad) (hS : va_S A s.heap H locs) (hq10 : ∀ j, j < 38 → m_nf j = fr_n j) (hP : va_P (dC, dI) vwCl [(h0, .inr (6, [.ref ah, .ref bh, .ref sh, .ref rh, .ref ch, .ref ph, .ref th, .int 0])), (ah, .inr (4, [.int 0, .ref a0, .ref a1, .int 0, .ref a2, .ref a3, .int 0, .ref a4, .int 63])), (th, .inl (tc, 7, .inl (fun _ => 0))), (g0, .inr (7, [.ref m_now, .ref m_kept, .ref m_pictures, .ref m_keptPictures, .int 0, .ref m_found, .int 0, .ref m_row, .ref m_bestRow, .int 0, .ref m_tape, .int 0, .int 0, .int 0, .int 0, .int 0, .int 0, .ref m_kinds, .ref m_items, .ref m_itemPictures, .int 0, .int 0, .int 0, .int 0, .ref m_widths, .ref m_sizes, .ref m_numbers, .ref m_moved])), (m_now, .inl (mc_now, 38, .inl m_nf)), (m_found, .inl (mc_found, 8, .inl (fun _ => 0)))] H) (hK : va_K (dC, dI) vwCl [(tc, .int), (mc_now, .int), (mc_found, .int)] s) (hD : va_D A [(h0, .inr (6, [.ref ah, .ref bh, .ref sh, .ref rh, .ref ch, .ref ph, .ref th, .int 0])), (ah, .inr (4, [.int 0, .ref a0, .ref a1, .int 0, .ref a2, .ref a3, .int 0, .ref a4, .int 63])), (th, .inl (tc, 7, .inl (fun _ => 0))), (g0, .inr (7, [.ref m_now, .ref m_kept, .ref m_pictures, .ref m_keptPictures, .int 0, .ref m_found, .int 0, .ref m_row, .ref m_bestRow, .int 0, .ref m_tape, .int 0, .int 0, .int 0, .int 0, .int 0, .int 0, .ref m_kinds, .ref m_items, .ref m_itemPictures, .int 0, .int 0, .int 0, .int 0, .ref m_widths, .ref m_sizes, .ref m_numbers, .ref m_moved])), (m_now, .inl (mc_now, 38, .inl m_nf)), (m_found, .inl (mc_found, 8, .inl (fun _ => 0)))]) (hl : lv_has ls 4 [(3, .int 0), (2, .ref g0), (1, .ref h0), (0, .ref b)]) : W p l e room_1 s m #[Value.ref b] below meth c H locs 52 1794 (lw_Z below #[Value.ref b] s) (F0 m 257 ls []) := by
  obtain ⟨hx, hb, hr, hml, hown, hts, hX, hbl, hlocks, hA, hA2, hbA, hev, hsf⟩ := id LC
  refine lv_aload_n hx hb dL_law_257 rfl (lv_at hl 2 rfl) ?_
  refine lv_aload_n hx hb dL_law_258 rfl (lv_at hl 3 rfl) ?_
  refine lv_iload_n hx hb dL_law_259 rfl (lv_at hl 0 rfl) ?_
  refine lv_iconst (v := 1) hx hb dL_law_260 (by decide) ?_
  refine lv_iadd hx hb dL_law_261 ?_
  refine pp_ti (y := 1) (by decide) ?_
  refine va_sld hx hb hX hbl hbA hS (vp_in_nI (n := 1) (by decide) (by decide)) dL_law_262 ?_
  refine pp_ti (y := xs 1) rfl ?_
  refine lv_aload_n hx hb dL_law_263 rfl (lv_at hl 3 rfl) ?_
  refine lv_iload_n hx hb dL_law_264 rfl (lv_at hl 0 rfl) ?_
  refine lv_iconst (v := 2) hx hb dL_law_265 (by decide) ?_
  refine lv_iadd hx hb dL_law_266 ?_
  refine pp_ti (y := 2) (by decide) ?_
  refine va_sld hx hb hX hbl hbA hS (vp_in_nI (n := 2) (by decide) (by decide)) dL_law_267 ?_
  refine pp_ti (y := xs 2) rfl ?_
  have hPc := hP.sub (ws' := [(h0, .inr (6, [.ref ah, .ref bh, .ref sh, .ref rh, .ref ch, .ref ph, .ref th, .int 0])), (ah, .inr (4, [.int 0, .ref a0, .ref a1, .int 0, .ref a2, .ref a3, .int 0, .ref a4, .int 63])), (th, .inl (tc, 7, .inl (fun _ => 0)))]) [0, 1, 2] rfl
  have hKc := hK.sub (tys' := [(tc, .int)]) [0] rfl
  have hDc := hD.sub (ws' := [(h0, .inr (6, [.ref ah, .ref bh, .ref sh, .ref rh, .ref ch, .ref ph, .ref th, .int 0])), (ah, .inr (4, [.int 0, .ref a0, .ref a1, .int 0, .ref a2, .ref a3, .int 0, .ref a4, .int 63])), (th, .inl (tc, 7, .inl (fun _ => 0)))]) [0, 1, 2] (by decide) rfl
  have hFc := va_free (wc := [(h0, .inr (6, [.ref ah, .ref bh, .ref sh, .ref rh, .ref ch, .ref ph, .ref th, .int 0])), (ah, .inr (4, [.int 0, .ref a0, .ref a1, .int 0, .ref a2, .ref a3, .int 0, .ref a4, .int 63])), (th, .inl (tc, 7, .inl (fun _ => 0)))]) hD hS hA [0, 1, 2] rfl
  refine va_calli (va_runV (As := [.int (xs 1), .int (xs 2)]) (rest := []) ⟨hx, hb, hml, hown, hts⟩ (x_of l dC dI ad h0 (xs 1) (xs 2) ah (.ref bh) (.ref sh) (.ref rh) (.ref ch) (.ref ph) th (.int 0) (.ref a0) (.ref a1) (.int 0) (.ref a2) (.ref a3) (.int 0) (.ref a4) (.int 63) tc (fun _ => 0) H.size ) (cwV 2 hts g_law_x_of_18 rfl rfl rfl (by decide +kernel) ⟨(Nat.le_of_ble_eq_true rfl), (Nat.le_of_ble_eq_true rfl)⟩) ⟨preM_blind, va_recv hKc hPc (ci := 6) (q0 := 0) rfl rfl, fun U hU hW => ⟨rfl, preM_at hU hW hPc hKc hDc hev⟩⟩ rfl rfl hl.1 rfl (lv_room (Nat.le_of_ble_eq_true rfl)) dL_law_268 ⟨(Nat.le_of_ble_eq_true rfl), (Nat.le_of_ble_eq_true rfl)⟩) hS (fun q _ h => hFc q h) hFc (fun r_1 u t H1 locs ht hvm hw hB hz1 hk1 hS => ?_)
  obtain ⟨hP, hD⟩ := va_join (wr := [(g0, .inr (7, [.ref m_now, .ref m_kept, .ref m_pictures, .ref m_keptPictures, .int 0, .ref m_found, .int 0, .ref m_row, .ref m_bestRow, .int 0, .ref m_tape, .int 0, .int 0, .int 0, .int 0, .int 0, .int 0, .ref m_kinds, .ref m_items, .ref m_itemPictures, .int 0, .int 0, .int 0, .int 0, .ref m_widths, .ref m_sizes, .ref m_numbers, .ref m_moved])), (m_now, .inl (mc_now, 38, .inl m_nf)), (m_found, .inl (mc_found, 8, .inl (fun _ => 0)))]) (w1 := []) hP hD [0, 1, 2] [3, 4, 5] rfl rfl (by decide) (by decide) hk1 hFc nil_P nil_D
  generalize H1 = H at hP hS ⊢
  have hP : va_P (dC, dI) vwCl [(g0, .inr (7, [.ref m_now, .ref m_kept, .ref m_pictures, .ref m_keptPictures, .int 0, .ref m_found, .int 0, .ref m_row, .ref m_bestRow, .int 0, .ref m_tape, .int 0, .int 0, .int 0, .int 0, .int 0, .int 0, .ref m_kinds, .ref m_items, .ref m_itemPictures, .int 0, .int 0, .int 0, .int 0, .ref m_widths, .ref m_sizes, .ref m_numbers, .ref m_moved])), (m_now, .inl (mc_now, 38, .inl m_nf)), (m_found, .inl (mc_found, 8, .inl (fun _ => 0)))] H := hP
  have hD : va_D A [(g0, .inr (7, [.ref m_now, .ref m_kept, .ref m_pictures, .ref m_keptPictures, .int 0, .ref m_found, .int 0, .ref m_row, .ref m_bestRow, .int 0, .ref m_tape, .int 0, .int 0, .int 0, .int 0, .int 0, .int 0, .ref m_kinds, .ref m_items, .ref m_itemPictures, .int 0, .int 0, .int 0, .int 0, .ref m_widths, .ref m_sizes, .ref m_numbers, .ref m_moved])), (m_now, .inl (mc_now, 38, .inl m_nf)), (m_found, .inl (mc_found, 8, .inl (fun _ => 0)))] := hD
  subst hw
  refine lv_aload_n hx hb dL_law_271 rfl (lv_at hl 1 rfl) ?_
  refine lv_aload_n hx hb dL_law_272 rfl (lv_at hl 3 rfl) ?_
  refine lv_iload_n hx hb dL_law_273 rfl (lv_at hl 0 rfl) ?_
  refine lv_iconst (v := 1) hx hb dL_law_274 (by decide) ?_
  refine lv_iadd hx hb dL_law_275 ?_
  refine pp_ti (y := 1) (by decide) ?_
  refine va_sld hx hb hX hbl hbA hS (vp_in_nI (n := 1) (by decide) (by decide)) dL_law_276 ?_
  refine pp_ti (y := xs 1) rfl ?_
  refine lv_aload_n hx hb dL_law_277 rfl (lv_at hl 3 rfl) ?_
  refine lv_iload_n hx hb dL_law_278 rfl (lv_at hl 0 rfl) ?_
  refine lv_iconst (v := 2) hx hb dL_law_279 (by decide) ?_
  refine lv_iadd hx hb dL_law_280 ?_
  refine pp_ti (y := 2) (by decide) ?_
  refine va_sld hx hb hX hbl hbA hS (vp_in_nI (n := 2) (by decide) (by decide)) dL_law_281 ?_
  refine pp_ti (y := xs 2) rfl ?_
  have hPc := hP.sub (ws' := [(g0, .inr (7, [.ref m_now, .ref m_kept, .ref m_pictures, .ref m_keptPictures, .int 0, .ref m_found, .int 0, .ref m_row, .ref m_bestRow, .int 0, .ref m_tape, .int 0, .int 0, .int 0, .int 0, .int 0, .int 0, .ref m_kinds, .ref m_items, .ref m_itemPictures, .int 0, .int 0, .int 0, .int 0, .ref m_widths, .ref m_sizes, .ref m_numbers, .ref m_moved])), (m_now, .inl (mc_now, 38, .inl m_nf)), (m_found, .inl (mc_found, 8, .inl (fun _ => 0)))]) [0, 1, 2] rfl
  have hKc := hK.sub (tys' := [(mc_now, .int), (mc_found, .int)]) [1, 2] rfl
  have hDc := hD.sub (ws' := [(g0, .inr (7, [.ref m_now, .ref m_kept, .ref m_pictures, .ref m_keptPictures, .int 0, .ref m_found, .int 0, .ref m_row, .ref m_bestRow, .int 0, .ref m_tape, .int 0, .int 0, .int 0, .int 0, .int 0, .int 0, .ref m_kinds, .ref m_items, .ref m_itemPictures, .int 0, .int 0, .int 0, .int 0, .ref m_widths, .ref m_sizes, .ref m_numbers, .ref m_moved])), (m_now, .inl (mc_now, 38, .inl m_nf)), (m_found, .inl (mc_found, 8, .inl (fun _ => 0)))]) [0, 1, 2] (by decide) rfl
  have hFc := va_free (wc := [(g0, .inr (7, [.ref m_now, .ref m_kept, .ref m_pictures, .ref m_keptPictures, .int 0, .ref m_found, .int 0, .ref m_row, .ref m_bestRow, .int 0, .ref m_tape, .int 0, .int 0, .int 0, .int 0, .int 0, .int 0, .ref m_kinds, .ref m_items, .ref m_itemPictures, .int 0, .int 0, .int 0, .int 0, .ref m_widths, .ref m_sizes, .ref m_numbers, .ref m_moved])), (m_now, .inl (mc_now, 38, .inl m_nf)), (m_found, .inl (mc_found, 8, .inl (fun _ => 0)))]) hD hS hA [0, 1, 2] rfl
  refine va_calli (va_runV (As := [.int (xs 1), .int (xs 2)]) (rest := [.int (-1000000001)]) ⟨hx, hb, hml, hown, hts⟩ (y_of l dC dI ad g0 (xs 1) (xs 2) m_now (.ref m_kept) (.ref m_pictures) (.ref m_keptPictures) (.int 0) m_found (.int 0) (.ref m_row) (.ref m_bestRow) (.int 0) (.ref m_tape) (.int 0) (.int 0) (.int 0) (.int 0) (.int 0) (.int 0) (.ref m_kinds) (.ref m_items) (.ref m_itemPictures) (.int 0) (.int 0) (.int 0) (.int 0) (.ref m_widths) (.ref m_sizes) (.ref m_numbers) (.ref m_moved) mc_now m_nf mc_found (fun _ => 0) H.size hq10) (cwV 2 hts g_law_y_of_21 rfl rfl rfl (by decide +kernel) ⟨(Nat.le_of_ble_eq_true rfl), (Nat.le_of_ble_eq_true rfl)⟩) ⟨preM_blind, va_recv hKc hPc (ci := 7) (q0 := 0) rfl rfl, fun U hU hW => ⟨rfl, preM_at hU hW hPc hKc hDc hev⟩⟩ rfl rfl hl.1 rfl (lv_room (Nat.le_of_ble_eq_true rfl)) dL_law_282 ⟨(Nat.le_of_ble_eq_true rfl), (Nat.le_of_ble_eq_true rfl)⟩) hS (fun q _ h => hFc q h) hFc (fun r_2 u t H1 locs ht hvm hw hB hz1 hk1 hS => ?_)
  obtain ⟨hP, hD⟩ := va_join (wr := []) (w1 := []) hP hD [0, 1, 2] [] rfl rfl (by decide) (by decide) hk1 hFc nil_P nil_D
  generalize H1 = H at hP hS ⊢
  have hP : va_P (dC, dI) vwCl [] H := hP
  have hD : va_D A [] := hD
  subst hw
  refine lv_icmp_eq (tgt := 1457) hx hb dL_law_285 (by decide) (fun _ => ?_) (fun c => absurd (by decide) c)
  exact law_tail LC hS (lv_sub hl [0, 3] rfl)

set_option maxHeartbeats 4000000 in
set_option maxRecDepth 100000 in
/-- one call of cut on two new objects -/
theorem law_2 {p : Program} {l : Launch} {e : Env} {s : State} {m : MethodId} {below : List Frame} {meth : Method} {c : Code} {b : Nat} {xs : Nat → Int32} {A : Nat → Prop} {dC : Nat → ClassId} {dI : Nat → Nat → Nat} {ad : Nat → Nat} {H : Heap} {locs : List Loc} {ls : Array Slot} {h0 g0 : Nat} {ah : Nat} {bh : Nat} {sh : Nat} {rh : Nat} {ch : Nat} {ph : Nat} {th : Nat} {a0 : Nat} {a1 : Nat} {a2 : Nat} {a3 : Nat} {a4 : Nat} {tc : ClassId} {m_now : Nat} {m_kept : Nat} {m_pictures : Nat} {m_keptPictures : Nat} {m_found : Nat} {m_row : Nat} {m_bestRow : Nat} {m_tape : Nat} {m_kinds : Nat} {m_items : Nat} {m_itemPictures : Nat} {m_widths : Nat} {m_sizes : Nat} {m_numbers : Nat} {m_moved : Nat} {mc_now : ClassId} {m_nf : Nat → Int32} {mc_found : ClassId} (LC : lawC p s m meth c b xs A ad) (hS : va_S A s.heap H locs) (hq10 : ∀ j, j < 38 → m_nf j = fr_n j) (hP : va_P (dC, dI) vwCl [(h0, .inr (6, [.ref ah, .ref bh, .ref sh, .ref rh, .ref ch, .ref ph, .ref th, .int 0])), (ah, .inr (4, [.int 0, .ref a0, .ref a1, .int 0, .ref a2, .ref a3, .int 0, .ref a4, .int 63])), (th, .inl (tc, 7, .inl (fun _ => 0))), (g0, .inr (7, [.ref m_now, .ref m_kept, .ref m_pictures, .ref m_keptPictures, .int 0, .ref m_found, .int 0, .ref m_row, .ref m_bestRow, .int 0, .ref m_tape, .int 0, .int 0, .int 0, .int 0, .int 0, .int 0, .ref m_kinds, .ref m_items, .ref m_itemPictures, .int 0, .int 0, .int 0, .int 0, .ref m_widths, .ref m_sizes, .ref m_numbers, .ref m_moved])), (m_now, .inl (mc_now, 38, .inl m_nf)), (m_found, .inl (mc_found, 8, .inl (fun _ => 0)))] H) (hK : va_K (dC, dI) vwCl [(tc, .int), (mc_now, .int), (mc_found, .int)] s) (hD : va_D A [(h0, .inr (6, [.ref ah, .ref bh, .ref sh, .ref rh, .ref ch, .ref ph, .ref th, .int 0])), (ah, .inr (4, [.int 0, .ref a0, .ref a1, .int 0, .ref a2, .ref a3, .int 0, .ref a4, .int 63])), (th, .inl (tc, 7, .inl (fun _ => 0))), (g0, .inr (7, [.ref m_now, .ref m_kept, .ref m_pictures, .ref m_keptPictures, .int 0, .ref m_found, .int 0, .ref m_row, .ref m_bestRow, .int 0, .ref m_tape, .int 0, .int 0, .int 0, .int 0, .int 0, .int 0, .ref m_kinds, .ref m_items, .ref m_itemPictures, .int 0, .int 0, .int 0, .int 0, .ref m_widths, .ref m_sizes, .ref m_numbers, .ref m_moved])), (m_now, .inl (mc_now, 38, .inl m_nf)), (m_found, .inl (mc_found, 8, .inl (fun _ => 0)))]) (hl : lv_has ls 4 [(3, .int 0), (2, .ref g0), (1, .ref h0), (0, .ref b)]) : W p l e room_1 s m #[Value.ref b] below meth c H locs 52 1794 (lw_Z below #[Value.ref b] s) (F0 m 290 ls []) := by
  obtain ⟨hx, hb, hr, hml, hown, hts, hX, hbl, hlocks, hA, hA2, hbA, hev, hsf⟩ := id LC
  refine lv_aload_n hx hb dL_law_290 rfl (lv_at hl 2 rfl) ?_
  refine lv_aload_n hx hb dL_law_291 rfl (lv_at hl 3 rfl) ?_
  refine lv_iload_n hx hb dL_law_292 rfl (lv_at hl 0 rfl) ?_
  refine lv_iconst (v := 1) hx hb dL_law_293 (by decide) ?_
  refine lv_iadd hx hb dL_law_294 ?_
  refine pp_ti (y := 1) (by decide) ?_
  refine va_sld hx hb hX hbl hbA hS (vp_in_nI (n := 1) (by decide) (by decide)) dL_law_295 ?_
  refine pp_ti (y := xs 1) rfl ?_
  refine lv_aload_n hx hb dL_law_296 rfl (lv_at hl 3 rfl) ?_
  refine lv_iload_n hx hb dL_law_297 rfl (lv_at hl 0 rfl) ?_
  refine lv_iconst (v := 2) hx hb dL_law_298 (by decide) ?_
  refine lv_iadd hx hb dL_law_299 ?_
  refine pp_ti (y := 2) (by decide) ?_
  refine va_sld hx hb hX hbl hbA hS (vp_in_nI (n := 2) (by decide) (by decide)) dL_law_300 ?_
  refine pp_ti (y := xs 2) rfl ?_
  have hPc := hP.sub (ws' := [(h0, .inr (6, [.ref ah, .ref bh, .ref sh, .ref rh, .ref ch, .ref ph, .ref th, .int 0])), (ah, .inr (4, [.int 0, .ref a0, .ref a1, .int 0, .ref a2, .ref a3, .int 0, .ref a4, .int 63])), (th, .inl (tc, 7, .inl (fun _ => 0)))]) [0, 1, 2] rfl
  have hKc := hK.sub (tys' := [(tc, .int)]) [0] rfl
  have hDc := hD.sub (ws' := [(h0, .inr (6, [.ref ah, .ref bh, .ref sh, .ref rh, .ref ch, .ref ph, .ref th, .int 0])), (ah, .inr (4, [.int 0, .ref a0, .ref a1, .int 0, .ref a2, .ref a3, .int 0, .ref a4, .int 63])), (th, .inl (tc, 7, .inl (fun _ => 0)))]) [0, 1, 2] (by decide) rfl
  have hFc := va_free (wc := [(h0, .inr (6, [.ref ah, .ref bh, .ref sh, .ref rh, .ref ch, .ref ph, .ref th, .int 0])), (ah, .inr (4, [.int 0, .ref a0, .ref a1, .int 0, .ref a2, .ref a3, .int 0, .ref a4, .int 63])), (th, .inl (tc, 7, .inl (fun _ => 0)))]) hD hS hA [0, 1, 2] rfl
  refine va_calli (va_runV (As := [.int (xs 1), .int (xs 2)]) (rest := []) ⟨hx, hb, hml, hown, hts⟩ (x_cut l dC dI ad h0 (xs 1) (xs 2) ah (.ref bh) (.ref sh) (.ref rh) (.ref ch) (.ref ph) th (.int 0) (.ref a0) (.ref a1) (.int 0) (.ref a2) (.ref a3) (.int 0) (.ref a4) (.int 63) tc (fun _ => 0) H.size ) (cwV 2 hts g_law_x_cut_22 rfl rfl rfl (by decide +kernel) ⟨(Nat.le_of_ble_eq_true rfl), (Nat.le_of_ble_eq_true rfl)⟩) ⟨preM_blind, va_recv hKc hPc (ci := 6) (q0 := 0) rfl rfl, fun U hU hW => ⟨rfl, preM_at hU hW hPc hKc hDc hev⟩⟩ rfl rfl hl.1 rfl (lv_room (Nat.le_of_ble_eq_true rfl)) dL_law_301 ⟨(Nat.le_of_ble_eq_true rfl), (Nat.le_of_ble_eq_true rfl)⟩) hS (fun q _ h => hFc q h) hFc (fun r_1 u t H1 locs ht hvm hw hB hz1 hk1 hS => ?_)
  obtain ⟨hP, hD⟩ := va_join (wr := [(g0, .inr (7, [.ref m_now, .ref m_kept, .ref m_pictures, .ref m_keptPictures, .int 0, .ref m_found, .int 0, .ref m_row, .ref m_bestRow, .int 0, .ref m_tape, .int 0, .int 0, .int 0, .int 0, .int 0, .int 0, .ref m_kinds, .ref m_items, .ref m_itemPictures, .int 0, .int 0, .int 0, .int 0, .ref m_widths, .ref m_sizes, .ref m_numbers, .ref m_moved])), (m_now, .inl (mc_now, 38, .inl m_nf)), (m_found, .inl (mc_found, 8, .inl (fun _ => 0)))]) (w1 := []) hP hD [0, 1, 2] [3, 4, 5] rfl rfl (by decide) (by decide) hk1 hFc nil_P nil_D
  generalize H1 = H at hP hS ⊢
  have hP : va_P (dC, dI) vwCl [(g0, .inr (7, [.ref m_now, .ref m_kept, .ref m_pictures, .ref m_keptPictures, .int 0, .ref m_found, .int 0, .ref m_row, .ref m_bestRow, .int 0, .ref m_tape, .int 0, .int 0, .int 0, .int 0, .int 0, .int 0, .ref m_kinds, .ref m_items, .ref m_itemPictures, .int 0, .int 0, .int 0, .int 0, .ref m_widths, .ref m_sizes, .ref m_numbers, .ref m_moved])), (m_now, .inl (mc_now, 38, .inl m_nf)), (m_found, .inl (mc_found, 8, .inl (fun _ => 0)))] H := hP
  have hD : va_D A [(g0, .inr (7, [.ref m_now, .ref m_kept, .ref m_pictures, .ref m_keptPictures, .int 0, .ref m_found, .int 0, .ref m_row, .ref m_bestRow, .int 0, .ref m_tape, .int 0, .int 0, .int 0, .int 0, .int 0, .int 0, .ref m_kinds, .ref m_items, .ref m_itemPictures, .int 0, .int 0, .int 0, .int 0, .ref m_widths, .ref m_sizes, .ref m_numbers, .ref m_moved])), (m_now, .inl (mc_now, 38, .inl m_nf)), (m_found, .inl (mc_found, 8, .inl (fun _ => 0)))] := hD
  subst hw
  refine lv_aload_n hx hb dL_law_304 rfl (lv_at hl 1 rfl) ?_
  refine lv_aload_n hx hb dL_law_305 rfl (lv_at hl 3 rfl) ?_
  refine lv_iload_n hx hb dL_law_306 rfl (lv_at hl 0 rfl) ?_
  refine lv_iconst (v := 1) hx hb dL_law_307 (by decide) ?_
  refine lv_iadd hx hb dL_law_308 ?_
  refine pp_ti (y := 1) (by decide) ?_
  refine va_sld hx hb hX hbl hbA hS (vp_in_nI (n := 1) (by decide) (by decide)) dL_law_309 ?_
  refine pp_ti (y := xs 1) rfl ?_
  refine lv_aload_n hx hb dL_law_310 rfl (lv_at hl 3 rfl) ?_
  refine lv_iload_n hx hb dL_law_311 rfl (lv_at hl 0 rfl) ?_
  refine lv_iconst (v := 2) hx hb dL_law_312 (by decide) ?_
  refine lv_iadd hx hb dL_law_313 ?_
  refine pp_ti (y := 2) (by decide) ?_
  refine va_sld hx hb hX hbl hbA hS (vp_in_nI (n := 2) (by decide) (by decide)) dL_law_314 ?_
  refine pp_ti (y := xs 2) rfl ?_
  have hPc := hP.sub (ws' := [(g0, .inr (7, [.ref m_now, .ref m_kept, .ref m_pictures, .ref m_keptPictures, .int 0, .ref m_found, .int 0, .ref m_row, .ref m_bestRow, .int 0, .ref m_tape, .int 0, .int 0, .int 0, .int 0, .int 0, .int 0, .ref m_kinds, .ref m_items, .ref m_itemPictures, .int 0, .int 0, .int 0, .int 0, .ref m_widths, .ref m_sizes, .ref m_numbers, .ref m_moved])), (m_now, .inl (mc_now, 38, .inl m_nf)), (m_found, .inl (mc_found, 8, .inl (fun _ => 0)))]) [0, 1, 2] rfl
  have hKc := hK.sub (tys' := [(mc_now, .int), (mc_found, .int)]) [1, 2] rfl
  have hDc := hD.sub (ws' := [(g0, .inr (7, [.ref m_now, .ref m_kept, .ref m_pictures, .ref m_keptPictures, .int 0, .ref m_found, .int 0, .ref m_row, .ref m_bestRow, .int 0, .ref m_tape, .int 0, .int 0, .int 0, .int 0, .int 0, .int 0, .ref m_kinds, .ref m_items, .ref m_itemPictures, .int 0, .int 0, .int 0, .int 0, .ref m_widths, .ref m_sizes, .ref m_numbers, .ref m_moved])), (m_now, .inl (mc_now, 38, .inl m_nf)), (m_found, .inl (mc_found, 8, .inl (fun _ => 0)))]) [0, 1, 2] (by decide) rfl
  have hFc := va_free (wc := [(g0, .inr (7, [.ref m_now, .ref m_kept, .ref m_pictures, .ref m_keptPictures, .int 0, .ref m_found, .int 0, .ref m_row, .ref m_bestRow, .int 0, .ref m_tape, .int 0, .int 0, .int 0, .int 0, .int 0, .int 0, .ref m_kinds, .ref m_items, .ref m_itemPictures, .int 0, .int 0, .int 0, .int 0, .ref m_widths, .ref m_sizes, .ref m_numbers, .ref m_moved])), (m_now, .inl (mc_now, 38, .inl m_nf)), (m_found, .inl (mc_found, 8, .inl (fun _ => 0)))]) hD hS hA [0, 1, 2] rfl
  refine va_calli (va_runV (As := [.int (xs 1), .int (xs 2)]) (rest := [.int (-1000000001)]) ⟨hx, hb, hml, hown, hts⟩ (y_cut l dC dI ad g0 (xs 1) (xs 2) m_now (.ref m_kept) (.ref m_pictures) (.ref m_keptPictures) (.int 0) m_found (.int 0) (.ref m_row) (.ref m_bestRow) (.int 0) (.ref m_tape) (.int 0) (.int 0) (.int 0) (.int 0) (.int 0) (.int 0) (.ref m_kinds) (.ref m_items) (.ref m_itemPictures) (.int 0) (.int 0) (.int 0) (.int 0) (.ref m_widths) (.ref m_sizes) (.ref m_numbers) (.ref m_moved) mc_now m_nf mc_found (fun _ => 0) H.size hq10) (cwV 2 hts g_law_y_cut_25 rfl rfl rfl (by decide +kernel) ⟨(Nat.le_of_ble_eq_true rfl), (Nat.le_of_ble_eq_true rfl)⟩) ⟨preM_blind, va_recv hKc hPc (ci := 7) (q0 := 0) rfl rfl, fun U hU hW => ⟨rfl, preM_at hU hW hPc hKc hDc hev⟩⟩ rfl rfl hl.1 rfl (lv_room (Nat.le_of_ble_eq_true rfl)) dL_law_315 ⟨(Nat.le_of_ble_eq_true rfl), (Nat.le_of_ble_eq_true rfl)⟩) hS (fun q _ h => hFc q h) hFc (fun r_2 u t H1 locs ht hvm hw hB hz1 hk1 hS => ?_)
  obtain ⟨hP, hD⟩ := va_join (wr := []) (w1 := []) hP hD [0, 1, 2] [] rfl rfl (by decide) (by decide) hk1 hFc nil_P nil_D
  generalize H1 = H at hP hS ⊢
  have hP : va_P (dC, dI) vwCl [] H := hP
  have hD : va_D A [] := hD
  subst hw
  refine lv_icmp_eq (tgt := 1457) hx hb dL_law_318 (by decide) (fun _ => ?_) (fun c => absurd (by decide) c)
  exact law_tail LC hS (lv_sub hl [0, 3] rfl)

set_option maxHeartbeats 4000000 in
set_option maxRecDepth 100000 in
/-- one call of tear on two new objects -/
theorem law_3 {p : Program} {l : Launch} {e : Env} {s : State} {m : MethodId} {below : List Frame} {meth : Method} {c : Code} {b : Nat} {xs : Nat → Int32} {A : Nat → Prop} {dC : Nat → ClassId} {dI : Nat → Nat → Nat} {ad : Nat → Nat} {H : Heap} {locs : List Loc} {ls : Array Slot} {h0 g0 : Nat} {ah : Nat} {bh : Nat} {sh : Nat} {rh : Nat} {ch : Nat} {ph : Nat} {th : Nat} {a0 : Nat} {a1 : Nat} {a2 : Nat} {a3 : Nat} {a4 : Nat} {tc : ClassId} {m_now : Nat} {m_kept : Nat} {m_pictures : Nat} {m_keptPictures : Nat} {m_found : Nat} {m_row : Nat} {m_bestRow : Nat} {m_tape : Nat} {m_kinds : Nat} {m_items : Nat} {m_itemPictures : Nat} {m_widths : Nat} {m_sizes : Nat} {m_numbers : Nat} {m_moved : Nat} {mc_now : ClassId} {m_nf : Nat → Int32} {mc_found : ClassId} (LC : lawC p s m meth c b xs A ad) (hS : va_S A s.heap H locs) (hq10 : ∀ j, j < 38 → m_nf j = fr_n j) (hP : va_P (dC, dI) vwCl [(h0, .inr (6, [.ref ah, .ref bh, .ref sh, .ref rh, .ref ch, .ref ph, .ref th, .int 0])), (ah, .inr (4, [.int 0, .ref a0, .ref a1, .int 0, .ref a2, .ref a3, .int 0, .ref a4, .int 63])), (th, .inl (tc, 7, .inl (fun _ => 0))), (g0, .inr (7, [.ref m_now, .ref m_kept, .ref m_pictures, .ref m_keptPictures, .int 0, .ref m_found, .int 0, .ref m_row, .ref m_bestRow, .int 0, .ref m_tape, .int 0, .int 0, .int 0, .int 0, .int 0, .int 0, .ref m_kinds, .ref m_items, .ref m_itemPictures, .int 0, .int 0, .int 0, .int 0, .ref m_widths, .ref m_sizes, .ref m_numbers, .ref m_moved])), (m_now, .inl (mc_now, 38, .inl m_nf)), (m_found, .inl (mc_found, 8, .inl (fun _ => 0)))] H) (hK : va_K (dC, dI) vwCl [(tc, .int), (mc_now, .int), (mc_found, .int)] s) (hD : va_D A [(h0, .inr (6, [.ref ah, .ref bh, .ref sh, .ref rh, .ref ch, .ref ph, .ref th, .int 0])), (ah, .inr (4, [.int 0, .ref a0, .ref a1, .int 0, .ref a2, .ref a3, .int 0, .ref a4, .int 63])), (th, .inl (tc, 7, .inl (fun _ => 0))), (g0, .inr (7, [.ref m_now, .ref m_kept, .ref m_pictures, .ref m_keptPictures, .int 0, .ref m_found, .int 0, .ref m_row, .ref m_bestRow, .int 0, .ref m_tape, .int 0, .int 0, .int 0, .int 0, .int 0, .int 0, .ref m_kinds, .ref m_items, .ref m_itemPictures, .int 0, .int 0, .int 0, .int 0, .ref m_widths, .ref m_sizes, .ref m_numbers, .ref m_moved])), (m_now, .inl (mc_now, 38, .inl m_nf)), (m_found, .inl (mc_found, 8, .inl (fun _ => 0)))]) (hl : lv_has ls 4 [(3, .int 0), (2, .ref g0), (1, .ref h0), (0, .ref b)]) : W p l e room_1 s m #[Value.ref b] below meth c H locs 52 1794 (lw_Z below #[Value.ref b] s) (F0 m 323 ls []) := by
  obtain ⟨hx, hb, hr, hml, hown, hts, hX, hbl, hlocks, hA, hA2, hbA, hev, hsf⟩ := id LC
  refine lv_aload_n hx hb dL_law_323 rfl (lv_at hl 2 rfl) ?_
  refine lv_aload_n hx hb dL_law_324 rfl (lv_at hl 3 rfl) ?_
  refine lv_iload_n hx hb dL_law_325 rfl (lv_at hl 0 rfl) ?_
  refine lv_iconst (v := 1) hx hb dL_law_326 (by decide) ?_
  refine lv_iadd hx hb dL_law_327 ?_
  refine pp_ti (y := 1) (by decide) ?_
  refine va_sld hx hb hX hbl hbA hS (vp_in_nI (n := 1) (by decide) (by decide)) dL_law_328 ?_
  refine pp_ti (y := xs 1) rfl ?_
  refine lv_aload_n hx hb dL_law_329 rfl (lv_at hl 3 rfl) ?_
  refine lv_iload_n hx hb dL_law_330 rfl (lv_at hl 0 rfl) ?_
  refine lv_iconst (v := 2) hx hb dL_law_331 (by decide) ?_
  refine lv_iadd hx hb dL_law_332 ?_
  refine pp_ti (y := 2) (by decide) ?_
  refine va_sld hx hb hX hbl hbA hS (vp_in_nI (n := 2) (by decide) (by decide)) dL_law_333 ?_
  refine pp_ti (y := xs 2) rfl ?_
  refine lv_if_eq (tgt := 341) hx hb dL_law_334 (by decide) (fun c_1 => ?_) (fun c_1 => ?_)
  · skip
    refine lv_iconst (v := 0) hx hb dL_law_341 (by decide) ?_
    have hPc := hP.sub (ws' := [(h0, .inr (6, [.ref ah, .ref bh, .ref sh, .ref rh, .ref ch, .ref ph, .ref th, .int 0])), (ah, .inr (4, [.int 0, .ref a0, .ref a1, .int 0, .ref a2, .ref a3, .int 0, .ref a4, .int 63])), (th, .inl (tc, 7, .inl (fun _ => 0)))]) [0, 1, 2] rfl
    have hKc := hK.sub (tys' := [(tc, .int)]) [0] rfl
    have hDc := hD.sub (ws' := [(h0, .inr (6, [.ref ah, .ref bh, .ref sh, .ref rh, .ref ch, .ref ph, .ref th, .int 0])), (ah, .inr (4, [.int 0, .ref a0, .ref a1, .int 0, .ref a2, .ref a3, .int 0, .ref a4, .int 63])), (th, .inl (tc, 7, .inl (fun _ => 0)))]) [0, 1, 2] (by decide) rfl
    have hFc := va_free (wc := [(h0, .inr (6, [.ref ah, .ref bh, .ref sh, .ref rh, .ref ch, .ref ph, .ref th, .int 0])), (ah, .inr (4, [.int 0, .ref a0, .ref a1, .int 0, .ref a2, .ref a3, .int 0, .ref a4, .int 63])), (th, .inl (tc, 7, .inl (fun _ => 0)))]) hD hS hA [0, 1, 2] rfl
    refine va_calli (va_runV (As := [.int (xs 1), .int 0]) (rest := []) ⟨hx, hb, hml, hown, hts⟩ (x_tear l dC dI ad h0 (xs 1) 0 ah (.ref bh) (.ref sh) (.ref rh) (.ref ch) (.ref ph) th (.int 0) (.ref a0) (.ref a1) (.int 0) (.ref a2) (.ref a3) (.int 0) (.ref a4) (.int 63) tc (fun _ => 0) H.size ) (cwV 2 hts g_law_x_tear_26 rfl rfl rfl (by decide +kernel) ⟨(Nat.le_of_ble_eq_true rfl), (Nat.le_of_ble_eq_true rfl)⟩) ⟨preM_blind, va_recv hKc hPc (ci := 6) (q0 := 0) rfl rfl, fun U hU hW => ⟨rfl, preM_at hU hW hPc hKc hDc hev⟩⟩ rfl rfl hl.1 rfl (lv_room (Nat.le_of_ble_eq_true rfl)) dL_law_342 ⟨(Nat.le_of_ble_eq_true rfl), (Nat.le_of_ble_eq_true rfl)⟩) hS (fun q _ h => hFc q h) hFc (fun r_2 u t H1 locs ht hvm hw hB hz1 hk1 hS => ?_)
    obtain ⟨hP, hD⟩ := va_join (wr := [(g0, .inr (7, [.ref m_now, .ref m_kept, .ref m_pictures, .ref m_keptPictures, .int 0, .ref m_found, .int 0, .ref m_row, .ref m_bestRow, .int 0, .ref m_tape, .int 0, .int 0, .int 0, .int 0, .int 0, .int 0, .ref m_kinds, .ref m_items, .ref m_itemPictures, .int 0, .int 0, .int 0, .int 0, .ref m_widths, .ref m_sizes, .ref m_numbers, .ref m_moved])), (m_now, .inl (mc_now, 38, .inl m_nf)), (m_found, .inl (mc_found, 8, .inl (fun _ => 0)))]) (w1 := []) hP hD [0, 1, 2] [3, 4, 5] rfl rfl (by decide) (by decide) hk1 hFc nil_P nil_D
    generalize H1 = H at hP hS ⊢
    have hP : va_P (dC, dI) vwCl [(g0, .inr (7, [.ref m_now, .ref m_kept, .ref m_pictures, .ref m_keptPictures, .int 0, .ref m_found, .int 0, .ref m_row, .ref m_bestRow, .int 0, .ref m_tape, .int 0, .int 0, .int 0, .int 0, .int 0, .int 0, .ref m_kinds, .ref m_items, .ref m_itemPictures, .int 0, .int 0, .int 0, .int 0, .ref m_widths, .ref m_sizes, .ref m_numbers, .ref m_moved])), (m_now, .inl (mc_now, 38, .inl m_nf)), (m_found, .inl (mc_found, 8, .inl (fun _ => 0)))] H := hP
    have hD : va_D A [(g0, .inr (7, [.ref m_now, .ref m_kept, .ref m_pictures, .ref m_keptPictures, .int 0, .ref m_found, .int 0, .ref m_row, .ref m_bestRow, .int 0, .ref m_tape, .int 0, .int 0, .int 0, .int 0, .int 0, .int 0, .ref m_kinds, .ref m_items, .ref m_itemPictures, .int 0, .int 0, .int 0, .int 0, .ref m_widths, .ref m_sizes, .ref m_numbers, .ref m_moved])), (m_now, .inl (mc_now, 38, .inl m_nf)), (m_found, .inl (mc_found, 8, .inl (fun _ => 0)))] := hD
    subst hw
    refine lv_aload_n hx hb dL_law_345 rfl (lv_at hl 1 rfl) ?_
    refine lv_aload_n hx hb dL_law_346 rfl (lv_at hl 3 rfl) ?_
    refine lv_iload_n hx hb dL_law_347 rfl (lv_at hl 0 rfl) ?_
    refine lv_iconst (v := 1) hx hb dL_law_348 (by decide) ?_
    refine lv_iadd hx hb dL_law_349 ?_
    refine pp_ti (y := 1) (by decide) ?_
    refine va_sld hx hb hX hbl hbA hS (vp_in_nI (n := 1) (by decide) (by decide)) dL_law_350 ?_
    refine pp_ti (y := xs 1) rfl ?_
    refine lv_aload_n hx hb dL_law_351 rfl (lv_at hl 3 rfl) ?_
    refine lv_iload_n hx hb dL_law_352 rfl (lv_at hl 0 rfl) ?_
    refine lv_iconst (v := 2) hx hb dL_law_353 (by decide) ?_
    refine lv_iadd hx hb dL_law_354 ?_
    refine pp_ti (y := 2) (by decide) ?_
    refine va_sld hx hb hX hbl hbA hS (vp_in_nI (n := 2) (by decide) (by decide)) dL_law_355 ?_
    refine pp_ti (y := xs 2) rfl ?_
    refine lv_if_eq (tgt := 363) hx hb dL_law_356 (by decide) (fun c_3 => ?_) (fun c_3 => ?_)
    · skip
      refine lv_iconst (v := 0) hx hb dL_law_363 (by decide) ?_
      have hPc := hP.sub (ws' := [(g0, .inr (7, [.ref m_now, .ref m_kept, .ref m_pictures, .ref m_keptPictures, .int 0, .ref m_found, .int 0, .ref m_row, .ref m_bestRow, .int 0, .ref m_tape, .int 0, .int 0, .int 0, .int 0, .int 0, .int 0, .ref m_kinds, .ref m_items, .ref m_itemPictures, .int 0, .int 0, .int 0, .int 0, .ref m_widths, .ref m_sizes, .ref m_numbers, .ref m_moved])), (m_now, .inl (mc_now, 38, .inl m_nf)), (m_found, .inl (mc_found, 8, .inl (fun _ => 0)))]) [0, 1, 2] rfl
      have hKc := hK.sub (tys' := [(mc_now, .int), (mc_found, .int)]) [1, 2] rfl
      have hDc := hD.sub (ws' := [(g0, .inr (7, [.ref m_now, .ref m_kept, .ref m_pictures, .ref m_keptPictures, .int 0, .ref m_found, .int 0, .ref m_row, .ref m_bestRow, .int 0, .ref m_tape, .int 0, .int 0, .int 0, .int 0, .int 0, .int 0, .ref m_kinds, .ref m_items, .ref m_itemPictures, .int 0, .int 0, .int 0, .int 0, .ref m_widths, .ref m_sizes, .ref m_numbers, .ref m_moved])), (m_now, .inl (mc_now, 38, .inl m_nf)), (m_found, .inl (mc_found, 8, .inl (fun _ => 0)))]) [0, 1, 2] (by decide) rfl
      have hFc := va_free (wc := [(g0, .inr (7, [.ref m_now, .ref m_kept, .ref m_pictures, .ref m_keptPictures, .int 0, .ref m_found, .int 0, .ref m_row, .ref m_bestRow, .int 0, .ref m_tape, .int 0, .int 0, .int 0, .int 0, .int 0, .int 0, .ref m_kinds, .ref m_items, .ref m_itemPictures, .int 0, .int 0, .int 0, .int 0, .ref m_widths, .ref m_sizes, .ref m_numbers, .ref m_moved])), (m_now, .inl (mc_now, 38, .inl m_nf)), (m_found, .inl (mc_found, 8, .inl (fun _ => 0)))]) hD hS hA [0, 1, 2] rfl
      refine va_calli (va_runV (As := [.int (xs 1), .int 0]) (rest := [.int (-1000000001)]) ⟨hx, hb, hml, hown, hts⟩ (y_tear l dC dI ad g0 (xs 1) 0 m_now (.ref m_kept) (.ref m_pictures) (.ref m_keptPictures) (.int 0) m_found (.int 0) (.ref m_row) (.ref m_bestRow) (.int 0) (.ref m_tape) (.int 0) (.int 0) (.int 0) (.int 0) (.int 0) (.int 0) (.ref m_kinds) (.ref m_items) (.ref m_itemPictures) (.int 0) (.int 0) (.int 0) (.int 0) (.ref m_widths) (.ref m_sizes) (.ref m_numbers) (.ref m_moved) mc_now m_nf mc_found (fun _ => 0) H.size hq10) (cwV 2 hts g_law_y_tear_30 rfl rfl rfl (by decide +kernel) ⟨(Nat.le_of_ble_eq_true rfl), (Nat.le_of_ble_eq_true rfl)⟩) ⟨preM_blind, va_recv hKc hPc (ci := 7) (q0 := 0) rfl rfl, fun U hU hW => ⟨rfl, preM_at hU hW hPc hKc hDc hev⟩⟩ rfl rfl hl.1 rfl (lv_room (Nat.le_of_ble_eq_true rfl)) dL_law_364 ⟨(Nat.le_of_ble_eq_true rfl), (Nat.le_of_ble_eq_true rfl)⟩) hS (fun q _ h => hFc q h) hFc (fun r_4 u t H1 locs ht hvm hw hB hz1 hk1 hS => ?_)
      obtain ⟨hP, hD⟩ := va_join (wr := []) (w1 := []) hP hD [0, 1, 2] [] rfl rfl (by decide) (by decide) hk1 hFc nil_P nil_D
      generalize H1 = H at hP hS ⊢
      have hP : va_P (dC, dI) vwCl [] H := hP
      have hD : va_D A [] := hD
      subst hw
      refine lv_icmp_eq (tgt := 1457) hx hb dL_law_367 (by decide) (fun _ => ?_) (fun c => absurd (by decide) c)
      exact law_tail LC hS (lv_sub hl [0, 3] rfl)
    · skip
      exfalso; simp only [fa_lt, fa_le, fa_eq, and_true, true_and, and_false, false_and, not_true_eq_false, not_false_eq_true, li_0, li_1, li_2, li_3, li_4, li_5, li_6, li_7, li_8, li_9, li_10, li_12, li_15, li_16, li_20, li_30, li_34, li_38, li_40, li_63, li_64, li_65, li_78, li_120, li_1000, li_4000, li_10000, li_11077, li_255, li_65535, li_m1, li_m2, li_m1000000001, li_m1000000002, li_m1000000003, li_m1000000004, li_m1000000005, li_m1000000006, li_m1000000007] at c_1 c_3 <;> omega
  · skip
    refine lv_iconst (v := 1) hx hb dL_law_337 (by decide) ?_
    refine lv_goto (tgt := 342) hx hb dL_law_338 (by decide) ?_
    have hPc := hP.sub (ws' := [(h0, .inr (6, [.ref ah, .ref bh, .ref sh, .ref rh, .ref ch, .ref ph, .ref th, .int 0])), (ah, .inr (4, [.int 0, .ref a0, .ref a1, .int 0, .ref a2, .ref a3, .int 0, .ref a4, .int 63])), (th, .inl (tc, 7, .inl (fun _ => 0)))]) [0, 1, 2] rfl
    have hKc := hK.sub (tys' := [(tc, .int)]) [0] rfl
    have hDc := hD.sub (ws' := [(h0, .inr (6, [.ref ah, .ref bh, .ref sh, .ref rh, .ref ch, .ref ph, .ref th, .int 0])), (ah, .inr (4, [.int 0, .ref a0, .ref a1, .int 0, .ref a2, .ref a3, .int 0, .ref a4, .int 63])), (th, .inl (tc, 7, .inl (fun _ => 0)))]) [0, 1, 2] (by decide) rfl
    have hFc := va_free (wc := [(h0, .inr (6, [.ref ah, .ref bh, .ref sh, .ref rh, .ref ch, .ref ph, .ref th, .int 0])), (ah, .inr (4, [.int 0, .ref a0, .ref a1, .int 0, .ref a2, .ref a3, .int 0, .ref a4, .int 63])), (th, .inl (tc, 7, .inl (fun _ => 0)))]) hD hS hA [0, 1, 2] rfl
    refine va_calli (va_runV (As := [.int (xs 1), .int 1]) (rest := []) ⟨hx, hb, hml, hown, hts⟩ (x_tear l dC dI ad h0 (xs 1) 1 ah (.ref bh) (.ref sh) (.ref rh) (.ref ch) (.ref ph) th (.int 0) (.ref a0) (.ref a1) (.int 0) (.ref a2) (.ref a3) (.int 0) (.ref a4) (.int 63) tc (fun _ => 0) H.size ) (cwV 2 hts g_law_x_tear_26 rfl rfl rfl (by decide +kernel) ⟨(Nat.le_of_ble_eq_true rfl), (Nat.le_of_ble_eq_true rfl)⟩) ⟨preM_blind, va_recv hKc hPc (ci := 6) (q0 := 0) rfl rfl, fun U hU hW => ⟨rfl, preM_at hU hW hPc hKc hDc hev⟩⟩ rfl rfl hl.1 rfl (lv_room (Nat.le_of_ble_eq_true rfl)) dL_law_342 ⟨(Nat.le_of_ble_eq_true rfl), (Nat.le_of_ble_eq_true rfl)⟩) hS (fun q _ h => hFc q h) hFc (fun r_5 u t H1 locs ht hvm hw hB hz1 hk1 hS => ?_)
    obtain ⟨hP, hD⟩ := va_join (wr := [(g0, .inr (7, [.ref m_now, .ref m_kept, .ref m_pictures, .ref m_keptPictures, .int 0, .ref m_found, .int 0, .ref m_row, .ref m_bestRow, .int 0, .ref m_tape, .int 0, .int 0, .int 0, .int 0, .int 0, .int 0, .ref m_kinds, .ref m_items, .ref m_itemPictures, .int 0, .int 0, .int 0, .int 0, .ref m_widths, .ref m_sizes, .ref m_numbers, .ref m_moved])), (m_now, .inl (mc_now, 38, .inl m_nf)), (m_found, .inl (mc_found, 8, .inl (fun _ => 0)))]) (w1 := []) hP hD [0, 1, 2] [3, 4, 5] rfl rfl (by decide) (by decide) hk1 hFc nil_P nil_D
    generalize H1 = H at hP hS ⊢
    have hP : va_P (dC, dI) vwCl [(g0, .inr (7, [.ref m_now, .ref m_kept, .ref m_pictures, .ref m_keptPictures, .int 0, .ref m_found, .int 0, .ref m_row, .ref m_bestRow, .int 0, .ref m_tape, .int 0, .int 0, .int 0, .int 0, .int 0, .int 0, .ref m_kinds, .ref m_items, .ref m_itemPictures, .int 0, .int 0, .int 0, .int 0, .ref m_widths, .ref m_sizes, .ref m_numbers, .ref m_moved])), (m_now, .inl (mc_now, 38, .inl m_nf)), (m_found, .inl (mc_found, 8, .inl (fun _ => 0)))] H := hP
    have hD : va_D A [(g0, .inr (7, [.ref m_now, .ref m_kept, .ref m_pictures, .ref m_keptPictures, .int 0, .ref m_found, .int 0, .ref m_row, .ref m_bestRow, .int 0, .ref m_tape, .int 0, .int 0, .int 0, .int 0, .int 0, .int 0, .ref m_kinds, .ref m_items, .ref m_itemPictures, .int 0, .int 0, .int 0, .int 0, .ref m_widths, .ref m_sizes, .ref m_numbers, .ref m_moved])), (m_now, .inl (mc_now, 38, .inl m_nf)), (m_found, .inl (mc_found, 8, .inl (fun _ => 0)))] := hD
    subst hw
    refine lv_aload_n hx hb dL_law_345 rfl (lv_at hl 1 rfl) ?_
    refine lv_aload_n hx hb dL_law_346 rfl (lv_at hl 3 rfl) ?_
    refine lv_iload_n hx hb dL_law_347 rfl (lv_at hl 0 rfl) ?_
    refine lv_iconst (v := 1) hx hb dL_law_348 (by decide) ?_
    refine lv_iadd hx hb dL_law_349 ?_
    refine pp_ti (y := 1) (by decide) ?_
    refine va_sld hx hb hX hbl hbA hS (vp_in_nI (n := 1) (by decide) (by decide)) dL_law_350 ?_
    refine pp_ti (y := xs 1) rfl ?_
    refine lv_aload_n hx hb dL_law_351 rfl (lv_at hl 3 rfl) ?_
    refine lv_iload_n hx hb dL_law_352 rfl (lv_at hl 0 rfl) ?_
    refine lv_iconst (v := 2) hx hb dL_law_353 (by decide) ?_
    refine lv_iadd hx hb dL_law_354 ?_
    refine pp_ti (y := 2) (by decide) ?_
    refine va_sld hx hb hX hbl hbA hS (vp_in_nI (n := 2) (by decide) (by decide)) dL_law_355 ?_
    refine pp_ti (y := xs 2) rfl ?_
    refine lv_if_eq (tgt := 363) hx hb dL_law_356 (by decide) (fun c_6 => ?_) (fun c_6 => ?_)
    · skip
      refine lv_iconst (v := 0) hx hb dL_law_363 (by decide) ?_
      have hPc := hP.sub (ws' := [(g0, .inr (7, [.ref m_now, .ref m_kept, .ref m_pictures, .ref m_keptPictures, .int 0, .ref m_found, .int 0, .ref m_row, .ref m_bestRow, .int 0, .ref m_tape, .int 0, .int 0, .int 0, .int 0, .int 0, .int 0, .ref m_kinds, .ref m_items, .ref m_itemPictures, .int 0, .int 0, .int 0, .int 0, .ref m_widths, .ref m_sizes, .ref m_numbers, .ref m_moved])), (m_now, .inl (mc_now, 38, .inl m_nf)), (m_found, .inl (mc_found, 8, .inl (fun _ => 0)))]) [0, 1, 2] rfl
      have hKc := hK.sub (tys' := [(mc_now, .int), (mc_found, .int)]) [1, 2] rfl
      have hDc := hD.sub (ws' := [(g0, .inr (7, [.ref m_now, .ref m_kept, .ref m_pictures, .ref m_keptPictures, .int 0, .ref m_found, .int 0, .ref m_row, .ref m_bestRow, .int 0, .ref m_tape, .int 0, .int 0, .int 0, .int 0, .int 0, .int 0, .ref m_kinds, .ref m_items, .ref m_itemPictures, .int 0, .int 0, .int 0, .int 0, .ref m_widths, .ref m_sizes, .ref m_numbers, .ref m_moved])), (m_now, .inl (mc_now, 38, .inl m_nf)), (m_found, .inl (mc_found, 8, .inl (fun _ => 0)))]) [0, 1, 2] (by decide) rfl
      have hFc := va_free (wc := [(g0, .inr (7, [.ref m_now, .ref m_kept, .ref m_pictures, .ref m_keptPictures, .int 0, .ref m_found, .int 0, .ref m_row, .ref m_bestRow, .int 0, .ref m_tape, .int 0, .int 0, .int 0, .int 0, .int 0, .int 0, .ref m_kinds, .ref m_items, .ref m_itemPictures, .int 0, .int 0, .int 0, .int 0, .ref m_widths, .ref m_sizes, .ref m_numbers, .ref m_moved])), (m_now, .inl (mc_now, 38, .inl m_nf)), (m_found, .inl (mc_found, 8, .inl (fun _ => 0)))]) hD hS hA [0, 1, 2] rfl
      refine va_calli (va_runV (As := [.int (xs 1), .int 0]) (rest := [.int (-1000000001)]) ⟨hx, hb, hml, hown, hts⟩ (y_tear l dC dI ad g0 (xs 1) 0 m_now (.ref m_kept) (.ref m_pictures) (.ref m_keptPictures) (.int 0) m_found (.int 0) (.ref m_row) (.ref m_bestRow) (.int 0) (.ref m_tape) (.int 0) (.int 0) (.int 0) (.int 0) (.int 0) (.int 0) (.ref m_kinds) (.ref m_items) (.ref m_itemPictures) (.int 0) (.int 0) (.int 0) (.int 0) (.ref m_widths) (.ref m_sizes) (.ref m_numbers) (.ref m_moved) mc_now m_nf mc_found (fun _ => 0) H.size hq10) (cwV 2 hts g_law_y_tear_30 rfl rfl rfl (by decide +kernel) ⟨(Nat.le_of_ble_eq_true rfl), (Nat.le_of_ble_eq_true rfl)⟩) ⟨preM_blind, va_recv hKc hPc (ci := 7) (q0 := 0) rfl rfl, fun U hU hW => ⟨rfl, preM_at hU hW hPc hKc hDc hev⟩⟩ rfl rfl hl.1 rfl (lv_room (Nat.le_of_ble_eq_true rfl)) dL_law_364 ⟨(Nat.le_of_ble_eq_true rfl), (Nat.le_of_ble_eq_true rfl)⟩) hS (fun q _ h => hFc q h) hFc (fun r_7 u t H1 locs ht hvm hw hB hz1 hk1 hS => ?_)
      obtain ⟨hP, hD⟩ := va_join (wr := []) (w1 := []) hP hD [0, 1, 2] [] rfl rfl (by decide) (by decide) hk1 hFc nil_P nil_D
      generalize H1 = H at hP hS ⊢
      have hP : va_P (dC, dI) vwCl [] H := hP
      have hD : va_D A [] := hD
      subst hw
      refine lv_icmp_eq (tgt := 1457) hx hb dL_law_367 (by decide) (fun _ => ?_) (fun c => absurd (by decide) c)
      exact law_tail LC hS (lv_sub hl [0, 3] rfl)
    · skip
      refine lv_iconst (v := 1) hx hb dL_law_359 (by decide) ?_
      refine lv_goto (tgt := 364) hx hb dL_law_360 (by decide) ?_
      have hPc := hP.sub (ws' := [(g0, .inr (7, [.ref m_now, .ref m_kept, .ref m_pictures, .ref m_keptPictures, .int 0, .ref m_found, .int 0, .ref m_row, .ref m_bestRow, .int 0, .ref m_tape, .int 0, .int 0, .int 0, .int 0, .int 0, .int 0, .ref m_kinds, .ref m_items, .ref m_itemPictures, .int 0, .int 0, .int 0, .int 0, .ref m_widths, .ref m_sizes, .ref m_numbers, .ref m_moved])), (m_now, .inl (mc_now, 38, .inl m_nf)), (m_found, .inl (mc_found, 8, .inl (fun _ => 0)))]) [0, 1, 2] rfl
      have hKc := hK.sub (tys' := [(mc_now, .int), (mc_found, .int)]) [1, 2] rfl
      have hDc := hD.sub (ws' := [(g0, .inr (7, [.ref m_now, .ref m_kept, .ref m_pictures, .ref m_keptPictures, .int 0, .ref m_found, .int 0, .ref m_row, .ref m_bestRow, .int 0, .ref m_tape, .int 0, .int 0, .int 0, .int 0, .int 0, .int 0, .ref m_kinds, .ref m_items, .ref m_itemPictures, .int 0, .int 0, .int 0, .int 0, .ref m_widths, .ref m_sizes, .ref m_numbers, .ref m_moved])), (m_now, .inl (mc_now, 38, .inl m_nf)), (m_found, .inl (mc_found, 8, .inl (fun _ => 0)))]) [0, 1, 2] (by decide) rfl
      have hFc := va_free (wc := [(g0, .inr (7, [.ref m_now, .ref m_kept, .ref m_pictures, .ref m_keptPictures, .int 0, .ref m_found, .int 0, .ref m_row, .ref m_bestRow, .int 0, .ref m_tape, .int 0, .int 0, .int 0, .int 0, .int 0, .int 0, .ref m_kinds, .ref m_items, .ref m_itemPictures, .int 0, .int 0, .int 0, .int 0, .ref m_widths, .ref m_sizes, .ref m_numbers, .ref m_moved])), (m_now, .inl (mc_now, 38, .inl m_nf)), (m_found, .inl (mc_found, 8, .inl (fun _ => 0)))]) hD hS hA [0, 1, 2] rfl
      refine va_calli (va_runV (As := [.int (xs 1), .int 1]) (rest := [.int (-1000000001)]) ⟨hx, hb, hml, hown, hts⟩ (y_tear l dC dI ad g0 (xs 1) 1 m_now (.ref m_kept) (.ref m_pictures) (.ref m_keptPictures) (.int 0) m_found (.int 0) (.ref m_row) (.ref m_bestRow) (.int 0) (.ref m_tape) (.int 0) (.int 0) (.int 0) (.int 0) (.int 0) (.int 0) (.ref m_kinds) (.ref m_items) (.ref m_itemPictures) (.int 0) (.int 0) (.int 0) (.int 0) (.ref m_widths) (.ref m_sizes) (.ref m_numbers) (.ref m_moved) mc_now m_nf mc_found (fun _ => 0) H.size hq10) (cwV 2 hts g_law_y_tear_30 rfl rfl rfl (by decide +kernel) ⟨(Nat.le_of_ble_eq_true rfl), (Nat.le_of_ble_eq_true rfl)⟩) ⟨preM_blind, va_recv hKc hPc (ci := 7) (q0 := 0) rfl rfl, fun U hU hW => ⟨rfl, preM_at hU hW hPc hKc hDc hev⟩⟩ rfl rfl hl.1 rfl (lv_room (Nat.le_of_ble_eq_true rfl)) dL_law_364 ⟨(Nat.le_of_ble_eq_true rfl), (Nat.le_of_ble_eq_true rfl)⟩) hS (fun q _ h => hFc q h) hFc (fun r_8 u t H1 locs ht hvm hw hB hz1 hk1 hS => ?_)
      obtain ⟨hP, hD⟩ := va_join (wr := []) (w1 := []) hP hD [0, 1, 2] [] rfl rfl (by decide) (by decide) hk1 hFc nil_P nil_D
      generalize H1 = H at hP hS ⊢
      have hP : va_P (dC, dI) vwCl [] H := hP
      have hD : va_D A [] := hD
      subst hw
      refine lv_icmp_eq (tgt := 1457) hx hb dL_law_367 (by decide) (fun _ => ?_) (fun c => absurd (by decide) c)
      exact law_tail LC hS (lv_sub hl [0, 3] rfl)

set_option maxHeartbeats 4000000 in
set_option maxRecDepth 100000 in
/-- one call of become on two new objects -/
theorem law_4 {p : Program} {l : Launch} {e : Env} {s : State} {m : MethodId} {below : List Frame} {meth : Method} {c : Code} {b : Nat} {xs : Nat → Int32} {A : Nat → Prop} {dC : Nat → ClassId} {dI : Nat → Nat → Nat} {ad : Nat → Nat} {H : Heap} {locs : List Loc} {ls : Array Slot} {h0 g0 : Nat} {ah : Nat} {bh : Nat} {sh : Nat} {rh : Nat} {ch : Nat} {ph : Nat} {th : Nat} {a0 : Nat} {a1 : Nat} {a2 : Nat} {a3 : Nat} {a4 : Nat} {tc : ClassId} {m_now : Nat} {m_kept : Nat} {m_pictures : Nat} {m_keptPictures : Nat} {m_found : Nat} {m_row : Nat} {m_bestRow : Nat} {m_tape : Nat} {m_kinds : Nat} {m_items : Nat} {m_itemPictures : Nat} {m_widths : Nat} {m_sizes : Nat} {m_numbers : Nat} {m_moved : Nat} {mc_now : ClassId} {m_nf : Nat → Int32} {mc_found : ClassId} (LC : lawC p s m meth c b xs A ad) (hS : va_S A s.heap H locs) (hq10 : ∀ j, j < 38 → m_nf j = fr_n j) (hP : va_P (dC, dI) vwCl [(h0, .inr (6, [.ref ah, .ref bh, .ref sh, .ref rh, .ref ch, .ref ph, .ref th, .int 0])), (ah, .inr (4, [.int 0, .ref a0, .ref a1, .int 0, .ref a2, .ref a3, .int 0, .ref a4, .int 63])), (th, .inl (tc, 7, .inl (fun _ => 0))), (g0, .inr (7, [.ref m_now, .ref m_kept, .ref m_pictures, .ref m_keptPictures, .int 0, .ref m_found, .int 0, .ref m_row, .ref m_bestRow, .int 0, .ref m_tape, .int 0, .int 0, .int 0, .int 0, .int 0, .int 0, .ref m_kinds, .ref m_items, .ref m_itemPictures, .int 0, .int 0, .int 0, .int 0, .ref m_widths, .ref m_sizes, .ref m_numbers, .ref m_moved])), (m_now, .inl (mc_now, 38, .inl m_nf)), (m_found, .inl (mc_found, 8, .inl (fun _ => 0)))] H) (hK : va_K (dC, dI) vwCl [(tc, .int), (mc_now, .int), (mc_found, .int)] s) (hD : va_D A [(h0, .inr (6, [.ref ah, .ref bh, .ref sh, .ref rh, .ref ch, .ref ph, .ref th, .int 0])), (ah, .inr (4, [.int 0, .ref a0, .ref a1, .int 0, .ref a2, .ref a3, .int 0, .ref a4, .int 63])), (th, .inl (tc, 7, .inl (fun _ => 0))), (g0, .inr (7, [.ref m_now, .ref m_kept, .ref m_pictures, .ref m_keptPictures, .int 0, .ref m_found, .int 0, .ref m_row, .ref m_bestRow, .int 0, .ref m_tape, .int 0, .int 0, .int 0, .int 0, .int 0, .int 0, .ref m_kinds, .ref m_items, .ref m_itemPictures, .int 0, .int 0, .int 0, .int 0, .ref m_widths, .ref m_sizes, .ref m_numbers, .ref m_moved])), (m_now, .inl (mc_now, 38, .inl m_nf)), (m_found, .inl (mc_found, 8, .inl (fun _ => 0)))]) (hl : lv_has ls 4 [(3, .int 0), (2, .ref g0), (1, .ref h0), (0, .ref b)]) : W p l e room_1 s m #[Value.ref b] below meth c H locs 52 1794 (lw_Z below #[Value.ref b] s) (F0 m 372 ls []) := by
  obtain ⟨hx, hb, hr, hml, hown, hts, hX, hbl, hlocks, hA, hA2, hbA, hev, hsf⟩ := id LC
  refine lv_aload_n hx hb dL_law_372 rfl (lv_at hl 2 rfl) ?_
  refine lv_aload_n hx hb dL_law_373 rfl (lv_at hl 3 rfl) ?_
  refine lv_iload_n hx hb dL_law_374 rfl (lv_at hl 0 rfl) ?_
  refine lv_iconst (v := 1) hx hb dL_law_375 (by decide) ?_
  refine lv_iadd hx hb dL_law_376 ?_
  refine pp_ti (y := 1) (by decide) ?_
  refine va_sld hx hb hX hbl hbA hS (vp_in_nI (n := 1) (by decide) (by decide)) dL_law_377 ?_
  refine pp_ti (y := xs 1) rfl ?_
  refine lv_aload_n hx hb dL_law_378 rfl (lv_at hl 3 rfl) ?_
  refine lv_iload_n hx hb dL_law_379 rfl (lv_at hl 0 rfl) ?_
  refine lv_iconst (v := 2) hx hb dL_law_380 (by decide) ?_
  refine lv_iadd hx hb dL_law_381 ?_
  refine pp_ti (y := 2) (by decide) ?_
  refine va_sld hx hb hX hbl hbA hS (vp_in_nI (n := 2) (by decide) (by decide)) dL_law_382 ?_
  refine pp_ti (y := xs 2) rfl ?_
  have hPc := hP.sub (ws' := [(h0, .inr (6, [.ref ah, .ref bh, .ref sh, .ref rh, .ref ch, .ref ph, .ref th, .int 0])), (ah, .inr (4, [.int 0, .ref a0, .ref a1, .int 0, .ref a2, .ref a3, .int 0, .ref a4, .int 63])), (th, .inl (tc, 7, .inl (fun _ => 0)))]) [0, 1, 2] rfl
  have hKc := hK.sub (tys' := [(tc, .int)]) [0] rfl
  have hDc := hD.sub (ws' := [(h0, .inr (6, [.ref ah, .ref bh, .ref sh, .ref rh, .ref ch, .ref ph, .ref th, .int 0])), (ah, .inr (4, [.int 0, .ref a0, .ref a1, .int 0, .ref a2, .ref a3, .int 0, .ref a4, .int 63])), (th, .inl (tc, 7, .inl (fun _ => 0)))]) [0, 1, 2] (by decide) rfl
  have hFc := va_free (wc := [(h0, .inr (6, [.ref ah, .ref bh, .ref sh, .ref rh, .ref ch, .ref ph, .ref th, .int 0])), (ah, .inr (4, [.int 0, .ref a0, .ref a1, .int 0, .ref a2, .ref a3, .int 0, .ref a4, .int 63])), (th, .inl (tc, 7, .inl (fun _ => 0)))]) hD hS hA [0, 1, 2] rfl
  refine va_calli (va_runV (As := [.int (xs 1), .int (xs 2)]) (rest := []) ⟨hx, hb, hml, hown, hts⟩ (x_become l dC dI ad h0 (xs 1) (xs 2) ah (.ref bh) (.ref sh) (.ref rh) (.ref ch) (.ref ph) th (.int 0) (.ref a0) (.ref a1) (.int 0) (.ref a2) (.ref a3) (.int 0) (.ref a4) (.int 63) tc (fun _ => 0) H.size ) (cwV 2 hts g_law_x_become_31 rfl rfl rfl (by decide +kernel) ⟨(Nat.le_of_ble_eq_true rfl), (Nat.le_of_ble_eq_true rfl)⟩) ⟨preM_blind, va_recv hKc hPc (ci := 6) (q0 := 0) rfl rfl, fun U hU hW => ⟨rfl, preM_at hU hW hPc hKc hDc hev⟩⟩ rfl rfl hl.1 rfl (lv_room (Nat.le_of_ble_eq_true rfl)) dL_law_383 ⟨(Nat.le_of_ble_eq_true rfl), (Nat.le_of_ble_eq_true rfl)⟩) hS (fun q _ h => hFc q h) hFc (fun r_1 u t H1 locs ht hvm hw hB hz1 hk1 hS => ?_)
  obtain ⟨hP, hD⟩ := va_join (wr := [(g0, .inr (7, [.ref m_now, .ref m_kept, .ref m_pictures, .ref m_keptPictures, .int 0, .ref m_found, .int 0, .ref m_row, .ref m_bestRow, .int 0, .ref m_tape, .int 0, .int 0, .int 0, .int 0, .int 0, .int 0, .ref m_kinds, .ref m_items, .ref m_itemPictures, .int 0, .int 0, .int 0, .int 0, .ref m_widths, .ref m_sizes, .ref m_numbers, .ref m_moved])), (m_now, .inl (mc_now, 38, .inl m_nf)), (m_found, .inl (mc_found, 8, .inl (fun _ => 0)))]) (w1 := []) hP hD [0, 1, 2] [3, 4, 5] rfl rfl (by decide) (by decide) hk1 hFc nil_P nil_D
  generalize H1 = H at hP hS ⊢
  have hP : va_P (dC, dI) vwCl [(g0, .inr (7, [.ref m_now, .ref m_kept, .ref m_pictures, .ref m_keptPictures, .int 0, .ref m_found, .int 0, .ref m_row, .ref m_bestRow, .int 0, .ref m_tape, .int 0, .int 0, .int 0, .int 0, .int 0, .int 0, .ref m_kinds, .ref m_items, .ref m_itemPictures, .int 0, .int 0, .int 0, .int 0, .ref m_widths, .ref m_sizes, .ref m_numbers, .ref m_moved])), (m_now, .inl (mc_now, 38, .inl m_nf)), (m_found, .inl (mc_found, 8, .inl (fun _ => 0)))] H := hP
  have hD : va_D A [(g0, .inr (7, [.ref m_now, .ref m_kept, .ref m_pictures, .ref m_keptPictures, .int 0, .ref m_found, .int 0, .ref m_row, .ref m_bestRow, .int 0, .ref m_tape, .int 0, .int 0, .int 0, .int 0, .int 0, .int 0, .ref m_kinds, .ref m_items, .ref m_itemPictures, .int 0, .int 0, .int 0, .int 0, .ref m_widths, .ref m_sizes, .ref m_numbers, .ref m_moved])), (m_now, .inl (mc_now, 38, .inl m_nf)), (m_found, .inl (mc_found, 8, .inl (fun _ => 0)))] := hD
  subst hw
  refine lv_aload_n hx hb dL_law_386 rfl (lv_at hl 1 rfl) ?_
  refine lv_aload_n hx hb dL_law_387 rfl (lv_at hl 3 rfl) ?_
  refine lv_iload_n hx hb dL_law_388 rfl (lv_at hl 0 rfl) ?_
  refine lv_iconst (v := 1) hx hb dL_law_389 (by decide) ?_
  refine lv_iadd hx hb dL_law_390 ?_
  refine pp_ti (y := 1) (by decide) ?_
  refine va_sld hx hb hX hbl hbA hS (vp_in_nI (n := 1) (by decide) (by decide)) dL_law_391 ?_
  refine pp_ti (y := xs 1) rfl ?_
  refine lv_aload_n hx hb dL_law_392 rfl (lv_at hl 3 rfl) ?_
  refine lv_iload_n hx hb dL_law_393 rfl (lv_at hl 0 rfl) ?_
  refine lv_iconst (v := 2) hx hb dL_law_394 (by decide) ?_
  refine lv_iadd hx hb dL_law_395 ?_
  refine pp_ti (y := 2) (by decide) ?_
  refine va_sld hx hb hX hbl hbA hS (vp_in_nI (n := 2) (by decide) (by decide)) dL_law_396 ?_
  refine pp_ti (y := xs 2) rfl ?_
  have hPc := hP.sub (ws' := [(g0, .inr (7, [.ref m_now, .ref m_kept, .ref m_pictures, .ref m_keptPictures, .int 0, .ref m_found, .int 0, .ref m_row, .ref m_bestRow, .int 0, .ref m_tape, .int 0, .int 0, .int 0, .int 0, .int 0, .int 0, .ref m_kinds, .ref m_items, .ref m_itemPictures, .int 0, .int 0, .int 0, .int 0, .ref m_widths, .ref m_sizes, .ref m_numbers, .ref m_moved])), (m_now, .inl (mc_now, 38, .inl m_nf)), (m_found, .inl (mc_found, 8, .inl (fun _ => 0)))]) [0, 1, 2] rfl
  have hKc := hK.sub (tys' := [(mc_now, .int), (mc_found, .int)]) [1, 2] rfl
  have hDc := hD.sub (ws' := [(g0, .inr (7, [.ref m_now, .ref m_kept, .ref m_pictures, .ref m_keptPictures, .int 0, .ref m_found, .int 0, .ref m_row, .ref m_bestRow, .int 0, .ref m_tape, .int 0, .int 0, .int 0, .int 0, .int 0, .int 0, .ref m_kinds, .ref m_items, .ref m_itemPictures, .int 0, .int 0, .int 0, .int 0, .ref m_widths, .ref m_sizes, .ref m_numbers, .ref m_moved])), (m_now, .inl (mc_now, 38, .inl m_nf)), (m_found, .inl (mc_found, 8, .inl (fun _ => 0)))]) [0, 1, 2] (by decide) rfl
  have hFc := va_free (wc := [(g0, .inr (7, [.ref m_now, .ref m_kept, .ref m_pictures, .ref m_keptPictures, .int 0, .ref m_found, .int 0, .ref m_row, .ref m_bestRow, .int 0, .ref m_tape, .int 0, .int 0, .int 0, .int 0, .int 0, .int 0, .ref m_kinds, .ref m_items, .ref m_itemPictures, .int 0, .int 0, .int 0, .int 0, .ref m_widths, .ref m_sizes, .ref m_numbers, .ref m_moved])), (m_now, .inl (mc_now, 38, .inl m_nf)), (m_found, .inl (mc_found, 8, .inl (fun _ => 0)))]) hD hS hA [0, 1, 2] rfl
  refine va_calli (va_runV (As := [.int (xs 1), .int (xs 2)]) (rest := [.int (-1000000001)]) ⟨hx, hb, hml, hown, hts⟩ (y_become l dC dI ad g0 (xs 1) (xs 2) m_now (.ref m_kept) (.ref m_pictures) (.ref m_keptPictures) (.int 0) m_found (.int 0) (.ref m_row) (.ref m_bestRow) (.int 0) (.ref m_tape) (.int 0) (.int 0) (.int 0) (.int 0) (.int 0) (.int 0) (.ref m_kinds) (.ref m_items) (.ref m_itemPictures) (.int 0) (.int 0) (.int 0) (.int 0) (.ref m_widths) (.ref m_sizes) (.ref m_numbers) (.ref m_moved) mc_now m_nf mc_found (fun _ => 0) H.size hq10) (cwV 2 hts g_law_y_become_34 rfl rfl rfl (by decide +kernel) ⟨(Nat.le_of_ble_eq_true rfl), (Nat.le_of_ble_eq_true rfl)⟩) ⟨preM_blind, va_recv hKc hPc (ci := 7) (q0 := 0) rfl rfl, fun U hU hW => ⟨rfl, preM_at hU hW hPc hKc hDc hev⟩⟩ rfl rfl hl.1 rfl (lv_room (Nat.le_of_ble_eq_true rfl)) dL_law_397 ⟨(Nat.le_of_ble_eq_true rfl), (Nat.le_of_ble_eq_true rfl)⟩) hS (fun q _ h => hFc q h) hFc (fun r_2 u t H1 locs ht hvm hw hB hz1 hk1 hS => ?_)
  obtain ⟨hP, hD⟩ := va_join (wr := []) (w1 := []) hP hD [0, 1, 2] [] rfl rfl (by decide) (by decide) hk1 hFc nil_P nil_D
  generalize H1 = H at hP hS ⊢
  have hP : va_P (dC, dI) vwCl [] H := hP
  have hD : va_D A [] := hD
  subst hw
  refine lv_icmp_eq (tgt := 1457) hx hb dL_law_400 (by decide) (fun _ => ?_) (fun c => absurd (by decide) c)
  exact law_tail LC hS (lv_sub hl [0, 3] rfl)

set_option maxHeartbeats 4000000 in
set_option maxRecDepth 100000 in
/-- one call of as on two new objects -/
theorem law_5 {p : Program} {l : Launch} {e : Env} {s : State} {m : MethodId} {below : List Frame} {meth : Method} {c : Code} {b : Nat} {xs : Nat → Int32} {A : Nat → Prop} {dC : Nat → ClassId} {dI : Nat → Nat → Nat} {ad : Nat → Nat} {H : Heap} {locs : List Loc} {ls : Array Slot} {h0 g0 : Nat} {ah : Nat} {bh : Nat} {sh : Nat} {rh : Nat} {ch : Nat} {ph : Nat} {th : Nat} {a0 : Nat} {a1 : Nat} {a2 : Nat} {a3 : Nat} {a4 : Nat} {tc : ClassId} {m_now : Nat} {m_kept : Nat} {m_pictures : Nat} {m_keptPictures : Nat} {m_found : Nat} {m_row : Nat} {m_bestRow : Nat} {m_tape : Nat} {m_kinds : Nat} {m_items : Nat} {m_itemPictures : Nat} {m_widths : Nat} {m_sizes : Nat} {m_numbers : Nat} {m_moved : Nat} {mc_now : ClassId} {m_nf : Nat → Int32} {mc_found : ClassId} (LC : lawC p s m meth c b xs A ad) (hS : va_S A s.heap H locs) (hq10 : ∀ j, j < 38 → m_nf j = fr_n j) (hP : va_P (dC, dI) vwCl [(h0, .inr (6, [.ref ah, .ref bh, .ref sh, .ref rh, .ref ch, .ref ph, .ref th, .int 0])), (ah, .inr (4, [.int 0, .ref a0, .ref a1, .int 0, .ref a2, .ref a3, .int 0, .ref a4, .int 63])), (th, .inl (tc, 7, .inl (fun _ => 0))), (g0, .inr (7, [.ref m_now, .ref m_kept, .ref m_pictures, .ref m_keptPictures, .int 0, .ref m_found, .int 0, .ref m_row, .ref m_bestRow, .int 0, .ref m_tape, .int 0, .int 0, .int 0, .int 0, .int 0, .int 0, .ref m_kinds, .ref m_items, .ref m_itemPictures, .int 0, .int 0, .int 0, .int 0, .ref m_widths, .ref m_sizes, .ref m_numbers, .ref m_moved])), (m_now, .inl (mc_now, 38, .inl m_nf)), (m_found, .inl (mc_found, 8, .inl (fun _ => 0)))] H) (hK : va_K (dC, dI) vwCl [(tc, .int), (mc_now, .int), (mc_found, .int)] s) (hD : va_D A [(h0, .inr (6, [.ref ah, .ref bh, .ref sh, .ref rh, .ref ch, .ref ph, .ref th, .int 0])), (ah, .inr (4, [.int 0, .ref a0, .ref a1, .int 0, .ref a2, .ref a3, .int 0, .ref a4, .int 63])), (th, .inl (tc, 7, .inl (fun _ => 0))), (g0, .inr (7, [.ref m_now, .ref m_kept, .ref m_pictures, .ref m_keptPictures, .int 0, .ref m_found, .int 0, .ref m_row, .ref m_bestRow, .int 0, .ref m_tape, .int 0, .int 0, .int 0, .int 0, .int 0, .int 0, .ref m_kinds, .ref m_items, .ref m_itemPictures, .int 0, .int 0, .int 0, .int 0, .ref m_widths, .ref m_sizes, .ref m_numbers, .ref m_moved])), (m_now, .inl (mc_now, 38, .inl m_nf)), (m_found, .inl (mc_found, 8, .inl (fun _ => 0)))]) (hl : lv_has ls 4 [(3, .int 0), (2, .ref g0), (1, .ref h0), (0, .ref b)]) : W p l e room_1 s m #[Value.ref b] below meth c H locs 52 1794 (lw_Z below #[Value.ref b] s) (F0 m 405 ls []) := by
  obtain ⟨hx, hb, hr, hml, hown, hts, hX, hbl, hlocks, hA, hA2, hbA, hev, hsf⟩ := id LC
  refine lv_aload_n hx hb dL_law_405 rfl (lv_at hl 2 rfl) ?_
  refine lv_aload_n hx hb dL_law_406 rfl (lv_at hl 3 rfl) ?_
  refine lv_iload_n hx hb dL_law_407 rfl (lv_at hl 0 rfl) ?_
  refine lv_iconst (v := 1) hx hb dL_law_408 (by decide) ?_
  refine lv_iadd hx hb dL_law_409 ?_
  refine pp_ti (y := 1) (by decide) ?_
  refine va_sld hx hb hX hbl hbA hS (vp_in_nI (n := 1) (by decide) (by decide)) dL_law_410 ?_
  refine pp_ti (y := xs 1) rfl ?_
  refine lv_aload_n hx hb dL_law_411 rfl (lv_at hl 3 rfl) ?_
  refine lv_iload_n hx hb dL_law_412 rfl (lv_at hl 0 rfl) ?_
  refine lv_iconst (v := 2) hx hb dL_law_413 (by decide) ?_
  refine lv_iadd hx hb dL_law_414 ?_
  refine pp_ti (y := 2) (by decide) ?_
  refine va_sld hx hb hX hbl hbA hS (vp_in_nI (n := 2) (by decide) (by decide)) dL_law_415 ?_
  refine pp_ti (y := xs 2) rfl ?_
  have hPc := hP.sub (ws' := [(h0, .inr (6, [.ref ah, .ref bh, .ref sh, .ref rh, .ref ch, .ref ph, .ref th, .int 0])), (ah, .inr (4, [.int 0, .ref a0, .ref a1, .int 0, .ref a2, .ref a3, .int 0, .ref a4, .int 63])), (th, .inl (tc, 7, .inl (fun _ => 0)))]) [0, 1, 2] rfl
  have hKc := hK.sub (tys' := [(tc, .int)]) [0] rfl
  have hDc := hD.sub (ws' := [(h0, .inr (6, [.ref ah, .ref bh, .ref sh, .ref rh, .ref ch, .ref ph, .ref th, .int 0])), (ah, .inr (4, [.int 0, .ref a0, .ref a1, .int 0, .ref a2, .ref a3, .int 0, .ref a4, .int 63])), (th, .inl (tc, 7, .inl (fun _ => 0)))]) [0, 1, 2] (by decide) rfl
  have hFc := va_free (wc := [(h0, .inr (6, [.ref ah, .ref bh, .ref sh, .ref rh, .ref ch, .ref ph, .ref th, .int 0])), (ah, .inr (4, [.int 0, .ref a0, .ref a1, .int 0, .ref a2, .ref a3, .int 0, .ref a4, .int 63])), (th, .inl (tc, 7, .inl (fun _ => 0)))]) hD hS hA [0, 1, 2] rfl
  refine va_calli (va_runV (As := [.int (xs 1), .int (xs 2)]) (rest := []) ⟨hx, hb, hml, hown, hts⟩ (x_as l dC dI ad h0 (xs 1) (xs 2) ah (.ref bh) (.ref sh) (.ref rh) (.ref ch) (.ref ph) th (.int 0) (.ref a0) (.ref a1) (.int 0) (.ref a2) (.ref a3) (.int 0) (.ref a4) (.int 63) tc (fun _ => 0) H.size ) (cwV 2 hts g_law_x_as_35 rfl rfl rfl (by decide +kernel) ⟨(Nat.le_of_ble_eq_true rfl), (Nat.le_of_ble_eq_true rfl)⟩) ⟨preM_blind, va_recv hKc hPc (ci := 6) (q0 := 0) rfl rfl, fun U hU hW => ⟨rfl, preM_at hU hW hPc hKc hDc hev⟩⟩ rfl rfl hl.1 rfl (lv_room (Nat.le_of_ble_eq_true rfl)) dL_law_416 ⟨(Nat.le_of_ble_eq_true rfl), (Nat.le_of_ble_eq_true rfl)⟩) hS (fun q _ h => hFc q h) hFc (fun r_1 u t H1 locs ht hvm hw hB hz1 hk1 hS => ?_)
  obtain ⟨hP, hD⟩ := va_join (wr := [(g0, .inr (7, [.ref m_now, .ref m_kept, .ref m_pictures, .ref m_keptPictures, .int 0, .ref m_found, .int 0, .ref m_row, .ref m_bestRow, .int 0, .ref m_tape, .int 0, .int 0, .int 0, .int 0, .int 0, .int 0, .ref m_kinds, .ref m_items, .ref m_itemPictures, .int 0, .int 0, .int 0, .int 0, .ref m_widths, .ref m_sizes, .ref m_numbers, .ref m_moved])), (m_now, .inl (mc_now, 38, .inl m_nf)), (m_found, .inl (mc_found, 8, .inl (fun _ => 0)))]) (w1 := []) hP hD [0, 1, 2] [3, 4, 5] rfl rfl (by decide) (by decide) hk1 hFc nil_P nil_D
  generalize H1 = H at hP hS ⊢
  have hP : va_P (dC, dI) vwCl [(g0, .inr (7, [.ref m_now, .ref m_kept, .ref m_pictures, .ref m_keptPictures, .int 0, .ref m_found, .int 0, .ref m_row, .ref m_bestRow, .int 0, .ref m_tape, .int 0, .int 0, .int 0, .int 0, .int 0, .int 0, .ref m_kinds, .ref m_items, .ref m_itemPictures, .int 0, .int 0, .int 0, .int 0, .ref m_widths, .ref m_sizes, .ref m_numbers, .ref m_moved])), (m_now, .inl (mc_now, 38, .inl m_nf)), (m_found, .inl (mc_found, 8, .inl (fun _ => 0)))] H := hP
  have hD : va_D A [(g0, .inr (7, [.ref m_now, .ref m_kept, .ref m_pictures, .ref m_keptPictures, .int 0, .ref m_found, .int 0, .ref m_row, .ref m_bestRow, .int 0, .ref m_tape, .int 0, .int 0, .int 0, .int 0, .int 0, .int 0, .ref m_kinds, .ref m_items, .ref m_itemPictures, .int 0, .int 0, .int 0, .int 0, .ref m_widths, .ref m_sizes, .ref m_numbers, .ref m_moved])), (m_now, .inl (mc_now, 38, .inl m_nf)), (m_found, .inl (mc_found, 8, .inl (fun _ => 0)))] := hD
  subst hw
  refine lv_aload_n hx hb dL_law_419 rfl (lv_at hl 1 rfl) ?_
  refine lv_aload_n hx hb dL_law_420 rfl (lv_at hl 3 rfl) ?_
  refine lv_iload_n hx hb dL_law_421 rfl (lv_at hl 0 rfl) ?_
  refine lv_iconst (v := 1) hx hb dL_law_422 (by decide) ?_
  refine lv_iadd hx hb dL_law_423 ?_
  refine pp_ti (y := 1) (by decide) ?_
  refine va_sld hx hb hX hbl hbA hS (vp_in_nI (n := 1) (by decide) (by decide)) dL_law_424 ?_
  refine pp_ti (y := xs 1) rfl ?_
  refine lv_aload_n hx hb dL_law_425 rfl (lv_at hl 3 rfl) ?_
  refine lv_iload_n hx hb dL_law_426 rfl (lv_at hl 0 rfl) ?_
  refine lv_iconst (v := 2) hx hb dL_law_427 (by decide) ?_
  refine lv_iadd hx hb dL_law_428 ?_
  refine pp_ti (y := 2) (by decide) ?_
  refine va_sld hx hb hX hbl hbA hS (vp_in_nI (n := 2) (by decide) (by decide)) dL_law_429 ?_
  refine pp_ti (y := xs 2) rfl ?_
  have hPc := hP.sub (ws' := [(g0, .inr (7, [.ref m_now, .ref m_kept, .ref m_pictures, .ref m_keptPictures, .int 0, .ref m_found, .int 0, .ref m_row, .ref m_bestRow, .int 0, .ref m_tape, .int 0, .int 0, .int 0, .int 0, .int 0, .int 0, .ref m_kinds, .ref m_items, .ref m_itemPictures, .int 0, .int 0, .int 0, .int 0, .ref m_widths, .ref m_sizes, .ref m_numbers, .ref m_moved])), (m_now, .inl (mc_now, 38, .inl m_nf)), (m_found, .inl (mc_found, 8, .inl (fun _ => 0)))]) [0, 1, 2] rfl
  have hKc := hK.sub (tys' := [(mc_now, .int), (mc_found, .int)]) [1, 2] rfl
  have hDc := hD.sub (ws' := [(g0, .inr (7, [.ref m_now, .ref m_kept, .ref m_pictures, .ref m_keptPictures, .int 0, .ref m_found, .int 0, .ref m_row, .ref m_bestRow, .int 0, .ref m_tape, .int 0, .int 0, .int 0, .int 0, .int 0, .int 0, .ref m_kinds, .ref m_items, .ref m_itemPictures, .int 0, .int 0, .int 0, .int 0, .ref m_widths, .ref m_sizes, .ref m_numbers, .ref m_moved])), (m_now, .inl (mc_now, 38, .inl m_nf)), (m_found, .inl (mc_found, 8, .inl (fun _ => 0)))]) [0, 1, 2] (by decide) rfl
  have hFc := va_free (wc := [(g0, .inr (7, [.ref m_now, .ref m_kept, .ref m_pictures, .ref m_keptPictures, .int 0, .ref m_found, .int 0, .ref m_row, .ref m_bestRow, .int 0, .ref m_tape, .int 0, .int 0, .int 0, .int 0, .int 0, .int 0, .ref m_kinds, .ref m_items, .ref m_itemPictures, .int 0, .int 0, .int 0, .int 0, .ref m_widths, .ref m_sizes, .ref m_numbers, .ref m_moved])), (m_now, .inl (mc_now, 38, .inl m_nf)), (m_found, .inl (mc_found, 8, .inl (fun _ => 0)))]) hD hS hA [0, 1, 2] rfl
  refine va_calli (va_runV (As := [.int (xs 1), .int (xs 2)]) (rest := [.int (-1000000001)]) ⟨hx, hb, hml, hown, hts⟩ (y_as l dC dI ad g0 (xs 1) (xs 2) m_now (.ref m_kept) (.ref m_pictures) (.ref m_keptPictures) (.int 0) m_found (.int 0) (.ref m_row) (.ref m_bestRow) (.int 0) (.ref m_tape) (.int 0) (.int 0) (.int 0) (.int 0) (.int 0) (.int 0) (.ref m_kinds) (.ref m_items) (.ref m_itemPictures) (.int 0) (.int 0) (.int 0) (.int 0) (.ref m_widths) (.ref m_sizes) (.ref m_numbers) (.ref m_moved) mc_now m_nf mc_found (fun _ => 0) H.size hq10) (cwV 2 hts g_law_y_as_38 rfl rfl rfl (by decide +kernel) ⟨(Nat.le_of_ble_eq_true rfl), (Nat.le_of_ble_eq_true rfl)⟩) ⟨preM_blind, va_recv hKc hPc (ci := 7) (q0 := 0) rfl rfl, fun U hU hW => ⟨rfl, preM_at hU hW hPc hKc hDc hev⟩⟩ rfl rfl hl.1 rfl (lv_room (Nat.le_of_ble_eq_true rfl)) dL_law_430 ⟨(Nat.le_of_ble_eq_true rfl), (Nat.le_of_ble_eq_true rfl)⟩) hS (fun q _ h => hFc q h) hFc (fun r_2 u t H1 locs ht hvm hw hB hz1 hk1 hS => ?_)
  obtain ⟨hP, hD⟩ := va_join (wr := []) (w1 := []) hP hD [0, 1, 2] [] rfl rfl (by decide) (by decide) hk1 hFc nil_P nil_D
  generalize H1 = H at hP hS ⊢
  have hP : va_P (dC, dI) vwCl [] H := hP
  have hD : va_D A [] := hD
  subst hw
  refine lv_icmp_eq (tgt := 1457) hx hb dL_law_433 (by decide) (fun _ => ?_) (fun c => absurd (by decide) c)
  exact law_tail LC hS (lv_sub hl [0, 3] rfl)

set_option maxHeartbeats 4000000 in
set_option maxRecDepth 100000 in
/-- one call of thrown on two new objects -/
theorem law_6 {p : Program} {l : Launch} {e : Env} {s : State} {m : MethodId} {below : List Frame} {meth : Method} {c : Code} {b : Nat} {xs : Nat → Int32} {A : Nat → Prop} {dC : Nat → ClassId} {dI : Nat → Nat → Nat} {ad : Nat → Nat} {H : Heap} {locs : List Loc} {ls : Array Slot} {h0 g0 : Nat} {ah : Nat} {bh : Nat} {sh : Nat} {rh : Nat} {ch : Nat} {ph : Nat} {th : Nat} {a0 : Nat} {a1 : Nat} {a2 : Nat} {a3 : Nat} {a4 : Nat} {tc : ClassId} {m_now : Nat} {m_kept : Nat} {m_pictures : Nat} {m_keptPictures : Nat} {m_found : Nat} {m_row : Nat} {m_bestRow : Nat} {m_tape : Nat} {m_kinds : Nat} {m_items : Nat} {m_itemPictures : Nat} {m_widths : Nat} {m_sizes : Nat} {m_numbers : Nat} {m_moved : Nat} {mc_now : ClassId} {m_nf : Nat → Int32} {mc_found : ClassId} (LC : lawC p s m meth c b xs A ad) (hS : va_S A s.heap H locs) (hq10 : ∀ j, j < 38 → m_nf j = fr_n j) (hP : va_P (dC, dI) vwCl [(h0, .inr (6, [.ref ah, .ref bh, .ref sh, .ref rh, .ref ch, .ref ph, .ref th, .int 0])), (ah, .inr (4, [.int 0, .ref a0, .ref a1, .int 0, .ref a2, .ref a3, .int 0, .ref a4, .int 63])), (th, .inl (tc, 7, .inl (fun _ => 0))), (g0, .inr (7, [.ref m_now, .ref m_kept, .ref m_pictures, .ref m_keptPictures, .int 0, .ref m_found, .int 0, .ref m_row, .ref m_bestRow, .int 0, .ref m_tape, .int 0, .int 0, .int 0, .int 0, .int 0, .int 0, .ref m_kinds, .ref m_items, .ref m_itemPictures, .int 0, .int 0, .int 0, .int 0, .ref m_widths, .ref m_sizes, .ref m_numbers, .ref m_moved])), (m_now, .inl (mc_now, 38, .inl m_nf)), (m_found, .inl (mc_found, 8, .inl (fun _ => 0)))] H) (hK : va_K (dC, dI) vwCl [(tc, .int), (mc_now, .int), (mc_found, .int)] s) (hD : va_D A [(h0, .inr (6, [.ref ah, .ref bh, .ref sh, .ref rh, .ref ch, .ref ph, .ref th, .int 0])), (ah, .inr (4, [.int 0, .ref a0, .ref a1, .int 0, .ref a2, .ref a3, .int 0, .ref a4, .int 63])), (th, .inl (tc, 7, .inl (fun _ => 0))), (g0, .inr (7, [.ref m_now, .ref m_kept, .ref m_pictures, .ref m_keptPictures, .int 0, .ref m_found, .int 0, .ref m_row, .ref m_bestRow, .int 0, .ref m_tape, .int 0, .int 0, .int 0, .int 0, .int 0, .int 0, .ref m_kinds, .ref m_items, .ref m_itemPictures, .int 0, .int 0, .int 0, .int 0, .ref m_widths, .ref m_sizes, .ref m_numbers, .ref m_moved])), (m_now, .inl (mc_now, 38, .inl m_nf)), (m_found, .inl (mc_found, 8, .inl (fun _ => 0)))]) (hl : lv_has ls 4 [(3, .int 0), (2, .ref g0), (1, .ref h0), (0, .ref b)]) : W p l e room_1 s m #[Value.ref b] below meth c H locs 52 1794 (lw_Z below #[Value.ref b] s) (F0 m 438 ls []) := by
  obtain ⟨hx, hb, hr, hml, hown, hts, hX, hbl, hlocks, hA, hA2, hbA, hev, hsf⟩ := id LC
  refine lv_aload_n hx hb dL_law_438 rfl (lv_at hl 2 rfl) ?_
  refine lv_aload_n hx hb dL_law_439 rfl (lv_at hl 3 rfl) ?_
  refine lv_iload_n hx hb dL_law_440 rfl (lv_at hl 0 rfl) ?_
  refine lv_iconst (v := 1) hx hb dL_law_441 (by decide) ?_
  refine lv_iadd hx hb dL_law_442 ?_
  refine pp_ti (y := 1) (by decide) ?_
  refine va_sld hx hb hX hbl hbA hS (vp_in_nI (n := 1) (by decide) (by decide)) dL_law_443 ?_
  refine pp_ti (y := xs 1) rfl ?_
  refine lv_aload_n hx hb dL_law_444 rfl (lv_at hl 3 rfl) ?_
  refine lv_iload_n hx hb dL_law_445 rfl (lv_at hl 0 rfl) ?_
  refine lv_iconst (v := 2) hx hb dL_law_446 (by decide) ?_
  refine lv_iadd hx hb dL_law_447 ?_
  refine pp_ti (y := 2) (by decide) ?_
  refine va_sld hx hb hX hbl hbA hS (vp_in_nI (n := 2) (by decide) (by decide)) dL_law_448 ?_
  refine pp_ti (y := xs 2) rfl ?_
  have hPc := hP.sub (ws' := [(h0, .inr (6, [.ref ah, .ref bh, .ref sh, .ref rh, .ref ch, .ref ph, .ref th, .int 0])), (ah, .inr (4, [.int 0, .ref a0, .ref a1, .int 0, .ref a2, .ref a3, .int 0, .ref a4, .int 63])), (th, .inl (tc, 7, .inl (fun _ => 0)))]) [0, 1, 2] rfl
  have hKc := hK.sub (tys' := [(tc, .int)]) [0] rfl
  have hDc := hD.sub (ws' := [(h0, .inr (6, [.ref ah, .ref bh, .ref sh, .ref rh, .ref ch, .ref ph, .ref th, .int 0])), (ah, .inr (4, [.int 0, .ref a0, .ref a1, .int 0, .ref a2, .ref a3, .int 0, .ref a4, .int 63])), (th, .inl (tc, 7, .inl (fun _ => 0)))]) [0, 1, 2] (by decide) rfl
  have hFc := va_free (wc := [(h0, .inr (6, [.ref ah, .ref bh, .ref sh, .ref rh, .ref ch, .ref ph, .ref th, .int 0])), (ah, .inr (4, [.int 0, .ref a0, .ref a1, .int 0, .ref a2, .ref a3, .int 0, .ref a4, .int 63])), (th, .inl (tc, 7, .inl (fun _ => 0)))]) hD hS hA [0, 1, 2] rfl
  refine va_calli (va_runV (As := [.int (xs 1), .int (xs 2)]) (rest := []) ⟨hx, hb, hml, hown, hts⟩ (x_thrown l dC dI ad h0 (xs 1) (xs 2) ah (.ref bh) (.ref sh) (.ref rh) (.ref ch) (.ref ph) th (.int 0) (.ref a0) (.ref a1) (.int 0) (.ref a2) (.ref a3) (.int 0) (.ref a4) (.int 63) tc (fun _ => 0) H.size ) (cwV 2 hts g_law_x_thrown_39 rfl rfl rfl (by decide +kernel) ⟨(Nat.le_of_ble_eq_true rfl), (Nat.le_of_ble_eq_true rfl)⟩) ⟨preM_blind, va_recv hKc hPc (ci := 6) (q0 := 0) rfl rfl, fun U hU hW => ⟨rfl, preM_at hU hW hPc hKc hDc hev⟩⟩ rfl rfl hl.1 rfl (lv_room (Nat.le_of_ble_eq_true rfl)) dL_law_449 ⟨(Nat.le_of_ble_eq_true rfl), (Nat.le_of_ble_eq_true rfl)⟩) hS (fun q _ h => hFc q h) hFc (fun r_1 u t H1 locs ht hvm hw hB hz1 hk1 hS => ?_)
  obtain ⟨hP, hD⟩ := va_join (wr := [(g0, .inr (7, [.ref m_now, .ref m_kept, .ref m_pictures, .ref m_keptPictures, .int 0, .ref m_found, .int 0, .ref m_row, .ref m_bestRow, .int 0, .ref m_tape, .int 0, .int 0, .int 0, .int 0, .int 0, .int 0, .ref m_kinds, .ref m_items, .ref m_itemPictures, .int 0, .int 0, .int 0, .int 0, .ref m_widths, .ref m_sizes, .ref m_numbers, .ref m_moved])), (m_now, .inl (mc_now, 38, .inl m_nf)), (m_found, .inl (mc_found, 8, .inl (fun _ => 0)))]) (w1 := []) hP hD [0, 1, 2] [3, 4, 5] rfl rfl (by decide) (by decide) hk1 hFc nil_P nil_D
  generalize H1 = H at hP hS ⊢
  have hP : va_P (dC, dI) vwCl [(g0, .inr (7, [.ref m_now, .ref m_kept, .ref m_pictures, .ref m_keptPictures, .int 0, .ref m_found, .int 0, .ref m_row, .ref m_bestRow, .int 0, .ref m_tape, .int 0, .int 0, .int 0, .int 0, .int 0, .int 0, .ref m_kinds, .ref m_items, .ref m_itemPictures, .int 0, .int 0, .int 0, .int 0, .ref m_widths, .ref m_sizes, .ref m_numbers, .ref m_moved])), (m_now, .inl (mc_now, 38, .inl m_nf)), (m_found, .inl (mc_found, 8, .inl (fun _ => 0)))] H := hP
  have hD : va_D A [(g0, .inr (7, [.ref m_now, .ref m_kept, .ref m_pictures, .ref m_keptPictures, .int 0, .ref m_found, .int 0, .ref m_row, .ref m_bestRow, .int 0, .ref m_tape, .int 0, .int 0, .int 0, .int 0, .int 0, .int 0, .ref m_kinds, .ref m_items, .ref m_itemPictures, .int 0, .int 0, .int 0, .int 0, .ref m_widths, .ref m_sizes, .ref m_numbers, .ref m_moved])), (m_now, .inl (mc_now, 38, .inl m_nf)), (m_found, .inl (mc_found, 8, .inl (fun _ => 0)))] := hD
  subst hw
  refine lv_aload_n hx hb dL_law_452 rfl (lv_at hl 1 rfl) ?_
  refine lv_aload_n hx hb dL_law_453 rfl (lv_at hl 3 rfl) ?_
  refine lv_iload_n hx hb dL_law_454 rfl (lv_at hl 0 rfl) ?_
  refine lv_iconst (v := 1) hx hb dL_law_455 (by decide) ?_
  refine lv_iadd hx hb dL_law_456 ?_
  refine pp_ti (y := 1) (by decide) ?_
  refine va_sld hx hb hX hbl hbA hS (vp_in_nI (n := 1) (by decide) (by decide)) dL_law_457 ?_
  refine pp_ti (y := xs 1) rfl ?_
  refine lv_aload_n hx hb dL_law_458 rfl (lv_at hl 3 rfl) ?_
  refine lv_iload_n hx hb dL_law_459 rfl (lv_at hl 0 rfl) ?_
  refine lv_iconst (v := 2) hx hb dL_law_460 (by decide) ?_
  refine lv_iadd hx hb dL_law_461 ?_
  refine pp_ti (y := 2) (by decide) ?_
  refine va_sld hx hb hX hbl hbA hS (vp_in_nI (n := 2) (by decide) (by decide)) dL_law_462 ?_
  refine pp_ti (y := xs 2) rfl ?_
  have hPc := hP.sub (ws' := [(g0, .inr (7, [.ref m_now, .ref m_kept, .ref m_pictures, .ref m_keptPictures, .int 0, .ref m_found, .int 0, .ref m_row, .ref m_bestRow, .int 0, .ref m_tape, .int 0, .int 0, .int 0, .int 0, .int 0, .int 0, .ref m_kinds, .ref m_items, .ref m_itemPictures, .int 0, .int 0, .int 0, .int 0, .ref m_widths, .ref m_sizes, .ref m_numbers, .ref m_moved])), (m_now, .inl (mc_now, 38, .inl m_nf)), (m_found, .inl (mc_found, 8, .inl (fun _ => 0)))]) [0, 1, 2] rfl
  have hKc := hK.sub (tys' := [(mc_now, .int), (mc_found, .int)]) [1, 2] rfl
  have hDc := hD.sub (ws' := [(g0, .inr (7, [.ref m_now, .ref m_kept, .ref m_pictures, .ref m_keptPictures, .int 0, .ref m_found, .int 0, .ref m_row, .ref m_bestRow, .int 0, .ref m_tape, .int 0, .int 0, .int 0, .int 0, .int 0, .int 0, .ref m_kinds, .ref m_items, .ref m_itemPictures, .int 0, .int 0, .int 0, .int 0, .ref m_widths, .ref m_sizes, .ref m_numbers, .ref m_moved])), (m_now, .inl (mc_now, 38, .inl m_nf)), (m_found, .inl (mc_found, 8, .inl (fun _ => 0)))]) [0, 1, 2] (by decide) rfl
  have hFc := va_free (wc := [(g0, .inr (7, [.ref m_now, .ref m_kept, .ref m_pictures, .ref m_keptPictures, .int 0, .ref m_found, .int 0, .ref m_row, .ref m_bestRow, .int 0, .ref m_tape, .int 0, .int 0, .int 0, .int 0, .int 0, .int 0, .ref m_kinds, .ref m_items, .ref m_itemPictures, .int 0, .int 0, .int 0, .int 0, .ref m_widths, .ref m_sizes, .ref m_numbers, .ref m_moved])), (m_now, .inl (mc_now, 38, .inl m_nf)), (m_found, .inl (mc_found, 8, .inl (fun _ => 0)))]) hD hS hA [0, 1, 2] rfl
  refine va_calli (va_runV (As := [.int (xs 1), .int (xs 2)]) (rest := [.int (-1000000001)]) ⟨hx, hb, hml, hown, hts⟩ (y_thrown l dC dI ad g0 (xs 1) (xs 2) m_now (.ref m_kept) (.ref m_pictures) (.ref m_keptPictures) (.int 0) m_found (.int 0) (.ref m_row) (.ref m_bestRow) (.int 0) (.ref m_tape) (.int 0) (.int 0) (.int 0) (.int 0) (.int 0) (.int 0) (.ref m_kinds) (.ref m_items) (.ref m_itemPictures) (.int 0) (.int 0) (.int 0) (.int 0) (.ref m_widths) (.ref m_sizes) (.ref m_numbers) (.ref m_moved) mc_now m_nf mc_found (fun _ => 0) H.size hq10) (cwV 2 hts g_law_y_thrown_42 rfl rfl rfl (by decide +kernel) ⟨(Nat.le_of_ble_eq_true rfl), (Nat.le_of_ble_eq_true rfl)⟩) ⟨preM_blind, va_recv hKc hPc (ci := 7) (q0 := 0) rfl rfl, fun U hU hW => ⟨rfl, preM_at hU hW hPc hKc hDc hev⟩⟩ rfl rfl hl.1 rfl (lv_room (Nat.le_of_ble_eq_true rfl)) dL_law_463 ⟨(Nat.le_of_ble_eq_true rfl), (Nat.le_of_ble_eq_true rfl)⟩) hS (fun q _ h => hFc q h) hFc (fun r_2 u t H1 locs ht hvm hw hB hz1 hk1 hS => ?_)
  obtain ⟨hP, hD⟩ := va_join (wr := []) (w1 := []) hP hD [0, 1, 2] [] rfl rfl (by decide) (by decide) hk1 hFc nil_P nil_D
  generalize H1 = H at hP hS ⊢
  have hP : va_P (dC, dI) vwCl [] H := hP
  have hD : va_D A [] := hD
  subst hw
  refine lv_icmp_eq (tgt := 1457) hx hb dL_law_466 (by decide) (fun _ => ?_) (fun c => absurd (by decide) c)
  exact law_tail LC hS (lv_sub hl [0, 3] rfl)

set_option maxHeartbeats 4000000 in
set_option maxRecDepth 100000 in
/-- one call of shadow on two new objects -/
theorem law_7 {p : Program} {l : Launch} {e : Env} {s : State} {m : MethodId} {below : List Frame} {meth : Method} {c : Code} {b : Nat} {xs : Nat → Int32} {A : Nat → Prop} {dC : Nat → ClassId} {dI : Nat → Nat → Nat} {ad : Nat → Nat} {H : Heap} {locs : List Loc} {ls : Array Slot} {h0 g0 : Nat} {ah : Nat} {bh : Nat} {sh : Nat} {rh : Nat} {ch : Nat} {ph : Nat} {th : Nat} {a0 : Nat} {a1 : Nat} {a2 : Nat} {a3 : Nat} {a4 : Nat} {tc : ClassId} {m_now : Nat} {m_kept : Nat} {m_pictures : Nat} {m_keptPictures : Nat} {m_found : Nat} {m_row : Nat} {m_bestRow : Nat} {m_tape : Nat} {m_kinds : Nat} {m_items : Nat} {m_itemPictures : Nat} {m_widths : Nat} {m_sizes : Nat} {m_numbers : Nat} {m_moved : Nat} {mc_now : ClassId} {m_nf : Nat → Int32} {mc_found : ClassId} (LC : lawC p s m meth c b xs A ad) (hS : va_S A s.heap H locs) (hq10 : ∀ j, j < 38 → m_nf j = fr_n j) (hP : va_P (dC, dI) vwCl [(h0, .inr (6, [.ref ah, .ref bh, .ref sh, .ref rh, .ref ch, .ref ph, .ref th, .int 0])), (ah, .inr (4, [.int 0, .ref a0, .ref a1, .int 0, .ref a2, .ref a3, .int 0, .ref a4, .int 63])), (th, .inl (tc, 7, .inl (fun _ => 0))), (g0, .inr (7, [.ref m_now, .ref m_kept, .ref m_pictures, .ref m_keptPictures, .int 0, .ref m_found, .int 0, .ref m_row, .ref m_bestRow, .int 0, .ref m_tape, .int 0, .int 0, .int 0, .int 0, .int 0, .int 0, .ref m_kinds, .ref m_items, .ref m_itemPictures, .int 0, .int 0, .int 0, .int 0, .ref m_widths, .ref m_sizes, .ref m_numbers, .ref m_moved])), (m_now, .inl (mc_now, 38, .inl m_nf)), (m_found, .inl (mc_found, 8, .inl (fun _ => 0)))] H) (hK : va_K (dC, dI) vwCl [(tc, .int), (mc_now, .int), (mc_found, .int)] s) (hD : va_D A [(h0, .inr (6, [.ref ah, .ref bh, .ref sh, .ref rh, .ref ch, .ref ph, .ref th, .int 0])), (ah, .inr (4, [.int 0, .ref a0, .ref a1, .int 0, .ref a2, .ref a3, .int 0, .ref a4, .int 63])), (th, .inl (tc, 7, .inl (fun _ => 0))), (g0, .inr (7, [.ref m_now, .ref m_kept, .ref m_pictures, .ref m_keptPictures, .int 0, .ref m_found, .int 0, .ref m_row, .ref m_bestRow, .int 0, .ref m_tape, .int 0, .int 0, .int 0, .int 0, .int 0, .int 0, .ref m_kinds, .ref m_items, .ref m_itemPictures, .int 0, .int 0, .int 0, .int 0, .ref m_widths, .ref m_sizes, .ref m_numbers, .ref m_moved])), (m_now, .inl (mc_now, 38, .inl m_nf)), (m_found, .inl (mc_found, 8, .inl (fun _ => 0)))]) (hl : lv_has ls 4 [(3, .int 0), (2, .ref g0), (1, .ref h0), (0, .ref b)]) : W p l e room_1 s m #[Value.ref b] below meth c H locs 52 1794 (lw_Z below #[Value.ref b] s) (F0 m 471 ls []) := by
  obtain ⟨hx, hb, hr, hml, hown, hts, hX, hbl, hlocks, hA, hA2, hbA, hev, hsf⟩ := id LC
  refine lv_aload_n hx hb dL_law_471 rfl (lv_at hl 2 rfl) ?_
  refine lv_aload_n hx hb dL_law_472 rfl (lv_at hl 3 rfl) ?_
  refine lv_iload_n hx hb dL_law_473 rfl (lv_at hl 0 rfl) ?_
  refine lv_iconst (v := 1) hx hb dL_law_474 (by decide) ?_
  refine lv_iadd hx hb dL_law_475 ?_
  refine pp_ti (y := 1) (by decide) ?_
  refine va_sld hx hb hX hbl hbA hS (vp_in_nI (n := 1) (by decide) (by decide)) dL_law_476 ?_
  refine pp_ti (y := xs 1) rfl ?_
  refine lv_aload_n hx hb dL_law_477 rfl (lv_at hl 3 rfl) ?_
  refine lv_iload_n hx hb dL_law_478 rfl (lv_at hl 0 rfl) ?_
  refine lv_iconst (v := 2) hx hb dL_law_479 (by decide) ?_
  refine lv_iadd hx hb dL_law_480 ?_
  refine pp_ti (y := 2) (by decide) ?_
  refine va_sld hx hb hX hbl hbA hS (vp_in_nI (n := 2) (by decide) (by decide)) dL_law_481 ?_
  refine pp_ti (y := xs 2) rfl ?_
  have hPc := hP.sub (ws' := [(h0, .inr (6, [.ref ah, .ref bh, .ref sh, .ref rh, .ref ch, .ref ph, .ref th, .int 0])), (ah, .inr (4, [.int 0, .ref a0, .ref a1, .int 0, .ref a2, .ref a3, .int 0, .ref a4, .int 63])), (th, .inl (tc, 7, .inl (fun _ => 0)))]) [0, 1, 2] rfl
  have hKc := hK.sub (tys' := [(tc, .int)]) [0] rfl
  have hDc := hD.sub (ws' := [(h0, .inr (6, [.ref ah, .ref bh, .ref sh, .ref rh, .ref ch, .ref ph, .ref th, .int 0])), (ah, .inr (4, [.int 0, .ref a0, .ref a1, .int 0, .ref a2, .ref a3, .int 0, .ref a4, .int 63])), (th, .inl (tc, 7, .inl (fun _ => 0)))]) [0, 1, 2] (by decide) rfl
  have hFc := va_free (wc := [(h0, .inr (6, [.ref ah, .ref bh, .ref sh, .ref rh, .ref ch, .ref ph, .ref th, .int 0])), (ah, .inr (4, [.int 0, .ref a0, .ref a1, .int 0, .ref a2, .ref a3, .int 0, .ref a4, .int 63])), (th, .inl (tc, 7, .inl (fun _ => 0)))]) hD hS hA [0, 1, 2] rfl
  refine va_calll (va_runV (As := [.int (xs 1), .int (xs 2)]) (rest := []) ⟨hx, hb, hml, hown, hts⟩ (x_shadow l dC dI ad h0 (xs 1) (xs 2) ah (.ref bh) (.ref sh) (.ref rh) (.ref ch) (.ref ph) th (.int 0) (.ref a0) (.ref a1) (.int 0) (.ref a2) (.ref a3) (.int 0) (.ref a4) (.int 63) tc (fun _ => 0) H.size ) (cwV 2 hts g_law_x_shadow_43 rfl rfl rfl (by decide +kernel) ⟨(Nat.le_of_ble_eq_true rfl), (Nat.le_of_ble_eq_true rfl)⟩) ⟨preM_blind, va_recv hKc hPc (ci := 6) (q0 := 0) rfl rfl, fun U hU hW => ⟨rfl, preM_at hU hW hPc hKc hDc hev⟩⟩ rfl rfl hl.1 rfl (lv_room (Nat.le_of_ble_eq_true rfl)) dL_law_482 ⟨(Nat.le_of_ble_eq_true rfl), (Nat.le_of_ble_eq_true rfl)⟩) hS (fun q _ h => hFc q h) hFc (fun r_1 u t H1 locs ht hvm hw hB hz1 hk1 hS => ?_)
  obtain ⟨hP, hD⟩ := va_join (wr := [(g0, .inr (7, [.ref m_now, .ref m_kept, .ref m_pictures, .ref m_keptPictures, .int 0, .ref m_found, .int 0, .ref m_row, .ref m_bestRow, .int 0, .ref m_tape, .int 0, .int 0, .int 0, .int 0, .int 0, .int 0, .ref m_kinds, .ref m_items, .ref m_itemPictures, .int 0, .int 0, .int 0, .int 0, .ref m_widths, .ref m_sizes, .ref m_numbers, .ref m_moved])), (m_now, .inl (mc_now, 38, .inl m_nf)), (m_found, .inl (mc_found, 8, .inl (fun _ => 0)))]) (w1 := []) hP hD [0, 1, 2] [3, 4, 5] rfl rfl (by decide) (by decide) hk1 hFc nil_P nil_D
  generalize H1 = H at hP hS ⊢
  have hP : va_P (dC, dI) vwCl [(g0, .inr (7, [.ref m_now, .ref m_kept, .ref m_pictures, .ref m_keptPictures, .int 0, .ref m_found, .int 0, .ref m_row, .ref m_bestRow, .int 0, .ref m_tape, .int 0, .int 0, .int 0, .int 0, .int 0, .int 0, .ref m_kinds, .ref m_items, .ref m_itemPictures, .int 0, .int 0, .int 0, .int 0, .ref m_widths, .ref m_sizes, .ref m_numbers, .ref m_moved])), (m_now, .inl (mc_now, 38, .inl m_nf)), (m_found, .inl (mc_found, 8, .inl (fun _ => 0)))] H := hP
  have hD : va_D A [(g0, .inr (7, [.ref m_now, .ref m_kept, .ref m_pictures, .ref m_keptPictures, .int 0, .ref m_found, .int 0, .ref m_row, .ref m_bestRow, .int 0, .ref m_tape, .int 0, .int 0, .int 0, .int 0, .int 0, .int 0, .ref m_kinds, .ref m_items, .ref m_itemPictures, .int 0, .int 0, .int 0, .int 0, .ref m_widths, .ref m_sizes, .ref m_numbers, .ref m_moved])), (m_now, .inl (mc_now, 38, .inl m_nf)), (m_found, .inl (mc_found, 8, .inl (fun _ => 0)))] := hD
  subst hw
  refine lv_aload_n hx hb dL_law_485 rfl (lv_at hl 1 rfl) ?_
  refine lv_aload_n hx hb dL_law_486 rfl (lv_at hl 3 rfl) ?_
  refine lv_iload_n hx hb dL_law_487 rfl (lv_at hl 0 rfl) ?_
  refine lv_iconst (v := 1) hx hb dL_law_488 (by decide) ?_
  refine lv_iadd hx hb dL_law_489 ?_
  refine pp_ti (y := 1) (by decide) ?_
  refine va_sld hx hb hX hbl hbA hS (vp_in_nI (n := 1) (by decide) (by decide)) dL_law_490 ?_
  refine pp_ti (y := xs 1) rfl ?_
  refine lv_aload_n hx hb dL_law_491 rfl (lv_at hl 3 rfl) ?_
  refine lv_iload_n hx hb dL_law_492 rfl (lv_at hl 0 rfl) ?_
  refine lv_iconst (v := 2) hx hb dL_law_493 (by decide) ?_
  refine lv_iadd hx hb dL_law_494 ?_
  refine pp_ti (y := 2) (by decide) ?_
  refine va_sld hx hb hX hbl hbA hS (vp_in_nI (n := 2) (by decide) (by decide)) dL_law_495 ?_
  refine pp_ti (y := xs 2) rfl ?_
  have hPc := hP.sub (ws' := [(g0, .inr (7, [.ref m_now, .ref m_kept, .ref m_pictures, .ref m_keptPictures, .int 0, .ref m_found, .int 0, .ref m_row, .ref m_bestRow, .int 0, .ref m_tape, .int 0, .int 0, .int 0, .int 0, .int 0, .int 0, .ref m_kinds, .ref m_items, .ref m_itemPictures, .int 0, .int 0, .int 0, .int 0, .ref m_widths, .ref m_sizes, .ref m_numbers, .ref m_moved])), (m_now, .inl (mc_now, 38, .inl m_nf)), (m_found, .inl (mc_found, 8, .inl (fun _ => 0)))]) [0, 1, 2] rfl
  have hKc := hK.sub (tys' := [(mc_now, .int), (mc_found, .int)]) [1, 2] rfl
  have hDc := hD.sub (ws' := [(g0, .inr (7, [.ref m_now, .ref m_kept, .ref m_pictures, .ref m_keptPictures, .int 0, .ref m_found, .int 0, .ref m_row, .ref m_bestRow, .int 0, .ref m_tape, .int 0, .int 0, .int 0, .int 0, .int 0, .int 0, .ref m_kinds, .ref m_items, .ref m_itemPictures, .int 0, .int 0, .int 0, .int 0, .ref m_widths, .ref m_sizes, .ref m_numbers, .ref m_moved])), (m_now, .inl (mc_now, 38, .inl m_nf)), (m_found, .inl (mc_found, 8, .inl (fun _ => 0)))]) [0, 1, 2] (by decide) rfl
  have hFc := va_free (wc := [(g0, .inr (7, [.ref m_now, .ref m_kept, .ref m_pictures, .ref m_keptPictures, .int 0, .ref m_found, .int 0, .ref m_row, .ref m_bestRow, .int 0, .ref m_tape, .int 0, .int 0, .int 0, .int 0, .int 0, .int 0, .ref m_kinds, .ref m_items, .ref m_itemPictures, .int 0, .int 0, .int 0, .int 0, .ref m_widths, .ref m_sizes, .ref m_numbers, .ref m_moved])), (m_now, .inl (mc_now, 38, .inl m_nf)), (m_found, .inl (mc_found, 8, .inl (fun _ => 0)))]) hD hS hA [0, 1, 2] rfl
  refine va_calll (va_runV (As := [.int (xs 1), .int (xs 2)]) (rest := [.long (-1000000001)]) ⟨hx, hb, hml, hown, hts⟩ (y_shadow l dC dI ad g0 (xs 1) (xs 2) m_now (.ref m_kept) (.ref m_pictures) (.ref m_keptPictures) (.int 0) m_found (.int 0) (.ref m_row) (.ref m_bestRow) (.int 0) (.ref m_tape) (.int 0) (.int 0) (.int 0) (.int 0) (.int 0) (.int 0) (.ref m_kinds) (.ref m_items) (.ref m_itemPictures) (.int 0) (.int 0) (.int 0) (.int 0) (.ref m_widths) (.ref m_sizes) (.ref m_numbers) (.ref m_moved) mc_now m_nf mc_found (fun _ => 0) H.size hq10) (cwV 2 hts g_law_y_shadow_47 rfl rfl rfl (by decide +kernel) ⟨(Nat.le_of_ble_eq_true rfl), (Nat.le_of_ble_eq_true rfl)⟩) ⟨preM_blind, va_recv hKc hPc (ci := 7) (q0 := 0) rfl rfl, fun U hU hW => ⟨rfl, preM_at hU hW hPc hKc hDc hev⟩⟩ rfl rfl hl.1 rfl (lv_room (Nat.le_of_ble_eq_true rfl)) dL_law_496 ⟨(Nat.le_of_ble_eq_true rfl), (Nat.le_of_ble_eq_true rfl)⟩) hS (fun q _ h => hFc q h) hFc (fun r_2 u t H1 locs ht hvm hw hB hz1 hk1 hS => ?_)
  obtain ⟨hP, hD⟩ := va_join (wr := []) (w1 := []) hP hD [0, 1, 2] [] rfl rfl (by decide) (by decide) hk1 hFc nil_P nil_D
  generalize H1 = H at hP hS ⊢
  have hP : va_P (dC, dI) vwCl [] H := hP
  have hD : va_D A [] := hD
  subst hw
  refine W.lcmp hx hb dL_law_499 ?_
  refine pp_ti (y := 0) (by decide) ?_
  refine lv_if_eq (tgt := 1457) hx hb dL_law_500 (by decide) (fun _ => ?_) (fun c => absurd (by decide) c)
  exact law_tail LC hS (lv_sub hl [0, 3] rfl)

set_option maxHeartbeats 4000000 in
set_option maxRecDepth 100000 in
/-- one call of hold on two new objects -/
theorem law_8 {p : Program} {l : Launch} {e : Env} {s : State} {m : MethodId} {below : List Frame} {meth : Method} {c : Code} {b : Nat} {xs : Nat → Int32} {A : Nat → Prop} {dC : Nat → ClassId} {dI : Nat → Nat → Nat} {ad : Nat → Nat} {H : Heap} {locs : List Loc} {ls : Array Slot} {h0 g0 : Nat} {ah : Nat} {bh : Nat} {sh : Nat} {rh : Nat} {ch : Nat} {ph : Nat} {th : Nat} {a0 : Nat} {a1 : Nat} {a2 : Nat} {a3 : Nat} {a4 : Nat} {tc : ClassId} {m_now : Nat} {m_kept : Nat} {m_pictures : Nat} {m_keptPictures : Nat} {m_found : Nat} {m_row : Nat} {m_bestRow : Nat} {m_tape : Nat} {m_kinds : Nat} {m_items : Nat} {m_itemPictures : Nat} {m_widths : Nat} {m_sizes : Nat} {m_numbers : Nat} {m_moved : Nat} {mc_now : ClassId} {m_nf : Nat → Int32} {mc_found : ClassId} (LC : lawC p s m meth c b xs A ad) (hS : va_S A s.heap H locs) (hq10 : ∀ j, j < 38 → m_nf j = fr_n j) (hP : va_P (dC, dI) vwCl [(h0, .inr (6, [.ref ah, .ref bh, .ref sh, .ref rh, .ref ch, .ref ph, .ref th, .int 0])), (ah, .inr (4, [.int 0, .ref a0, .ref a1, .int 0, .ref a2, .ref a3, .int 0, .ref a4, .int 63])), (th, .inl (tc, 7, .inl (fun _ => 0))), (g0, .inr (7, [.ref m_now, .ref m_kept, .ref m_pictures, .ref m_keptPictures, .int 0, .ref m_found, .int 0, .ref m_row, .ref m_bestRow, .int 0, .ref m_tape, .int 0, .int 0, .int 0, .int 0, .int 0, .int 0, .ref m_kinds, .ref m_items, .ref m_itemPictures, .int 0, .int 0, .int 0, .int 0, .ref m_widths, .ref m_sizes, .ref m_numbers, .ref m_moved])), (m_now, .inl (mc_now, 38, .inl m_nf)), (m_found, .inl (mc_found, 8, .inl (fun _ => 0)))] H) (hK : va_K (dC, dI) vwCl [(tc, .int), (mc_now, .int), (mc_found, .int)] s) (hD : va_D A [(h0, .inr (6, [.ref ah, .ref bh, .ref sh, .ref rh, .ref ch, .ref ph, .ref th, .int 0])), (ah, .inr (4, [.int 0, .ref a0, .ref a1, .int 0, .ref a2, .ref a3, .int 0, .ref a4, .int 63])), (th, .inl (tc, 7, .inl (fun _ => 0))), (g0, .inr (7, [.ref m_now, .ref m_kept, .ref m_pictures, .ref m_keptPictures, .int 0, .ref m_found, .int 0, .ref m_row, .ref m_bestRow, .int 0, .ref m_tape, .int 0, .int 0, .int 0, .int 0, .int 0, .int 0, .ref m_kinds, .ref m_items, .ref m_itemPictures, .int 0, .int 0, .int 0, .int 0, .ref m_widths, .ref m_sizes, .ref m_numbers, .ref m_moved])), (m_now, .inl (mc_now, 38, .inl m_nf)), (m_found, .inl (mc_found, 8, .inl (fun _ => 0)))]) (hl : lv_has ls 4 [(3, .int 0), (2, .ref g0), (1, .ref h0), (0, .ref b)]) : W p l e room_1 s m #[Value.ref b] below meth c H locs 52 1794 (lw_Z below #[Value.ref b] s) (F0 m 505 ls []) := by
  obtain ⟨hx, hb, hr, hml, hown, hts, hX, hbl, hlocks, hA, hA2, hbA, hev, hsf⟩ := id LC
  refine lv_aload_n hx hb dL_law_505 rfl (lv_at hl 2 rfl) ?_
  refine lv_aload_n hx hb dL_law_506 rfl (lv_at hl 3 rfl) ?_
  refine lv_iload_n hx hb dL_law_507 rfl (lv_at hl 0 rfl) ?_
  refine lv_iconst (v := 1) hx hb dL_law_508 (by decide) ?_
  refine lv_iadd hx hb dL_law_509 ?_
  refine pp_ti (y := 1) (by decide) ?_
  refine va_sld hx hb hX hbl hbA hS (vp_in_nI (n := 1) (by decide) (by decide)) dL_law_510 ?_
  refine pp_ti (y := xs 1) rfl ?_
  refine lv_aload_n hx hb dL_law_511 rfl (lv_at hl 3 rfl) ?_
  refine lv_iload_n hx hb dL_law_512 rfl (lv_at hl 0 rfl) ?_
  refine lv_iconst (v := 2) hx hb dL_law_513 (by decide) ?_
  refine lv_iadd hx hb dL_law_514 ?_
  refine pp_ti (y := 2) (by decide) ?_
  refine va_sld hx hb hX hbl hbA hS (vp_in_nI (n := 2) (by decide) (by decide)) dL_law_515 ?_
  refine pp_ti (y := xs 2) rfl ?_
  have hPc := hP.sub (ws' := [(h0, .inr (6, [.ref ah, .ref bh, .ref sh, .ref rh, .ref ch, .ref ph, .ref th, .int 0])), (ah, .inr (4, [.int 0, .ref a0, .ref a1, .int 0, .ref a2, .ref a3, .int 0, .ref a4, .int 63])), (th, .inl (tc, 7, .inl (fun _ => 0)))]) [0, 1, 2] rfl
  have hKc := hK.sub (tys' := [(tc, .int)]) [0] rfl
  have hDc := hD.sub (ws' := [(h0, .inr (6, [.ref ah, .ref bh, .ref sh, .ref rh, .ref ch, .ref ph, .ref th, .int 0])), (ah, .inr (4, [.int 0, .ref a0, .ref a1, .int 0, .ref a2, .ref a3, .int 0, .ref a4, .int 63])), (th, .inl (tc, 7, .inl (fun _ => 0)))]) [0, 1, 2] (by decide) rfl
  have hFc := va_free (wc := [(h0, .inr (6, [.ref ah, .ref bh, .ref sh, .ref rh, .ref ch, .ref ph, .ref th, .int 0])), (ah, .inr (4, [.int 0, .ref a0, .ref a1, .int 0, .ref a2, .ref a3, .int 0, .ref a4, .int 63])), (th, .inl (tc, 7, .inl (fun _ => 0)))]) hD hS hA [0, 1, 2] rfl
  refine va_calli (va_runV (As := [.int (xs 1), .int (xs 2)]) (rest := []) ⟨hx, hb, hml, hown, hts⟩ (x_hold l dC dI ad h0 (xs 1) (xs 2) ah (.ref bh) (.ref sh) (.ref rh) (.ref ch) (.ref ph) th (.int 0) (.ref a0) (.ref a1) (.int 0) (.ref a2) (.ref a3) (.int 0) (.ref a4) (.int 63) tc (fun _ => 0) H.size ) (cwV 2 hts g_law_x_hold_48 rfl rfl rfl (by decide +kernel) ⟨(Nat.le_of_ble_eq_true rfl), (Nat.le_of_ble_eq_true rfl)⟩) ⟨preM_blind, va_recv hKc hPc (ci := 6) (q0 := 0) rfl rfl, fun U hU hW => ⟨rfl, preM_at hU hW hPc hKc hDc hev⟩⟩ rfl rfl hl.1 rfl (lv_room (Nat.le_of_ble_eq_true rfl)) dL_law_516 ⟨(Nat.le_of_ble_eq_true rfl), (Nat.le_of_ble_eq_true rfl)⟩) hS (fun q _ h => hFc q h) hFc (fun r_1 u t H1 locs ht hvm hw hB hz1 hk1 hS => ?_)
  obtain ⟨hP, hD⟩ := va_join (wr := [(g0, .inr (7, [.ref m_now, .ref m_kept, .ref m_pictures, .ref m_keptPictures, .int 0, .ref m_found, .int 0, .ref m_row, .ref m_bestRow, .int 0, .ref m_tape, .int 0, .int 0, .int 0, .int 0, .int 0, .int 0, .ref m_kinds, .ref m_items, .ref m_itemPictures, .int 0, .int 0, .int 0, .int 0, .ref m_widths, .ref m_sizes, .ref m_numbers, .ref m_moved])), (m_now, .inl (mc_now, 38, .inl m_nf)), (m_found, .inl (mc_found, 8, .inl (fun _ => 0)))]) (w1 := []) hP hD [0, 1, 2] [3, 4, 5] rfl rfl (by decide) (by decide) hk1 hFc nil_P nil_D
  generalize H1 = H at hP hS ⊢
  have hP : va_P (dC, dI) vwCl [(g0, .inr (7, [.ref m_now, .ref m_kept, .ref m_pictures, .ref m_keptPictures, .int 0, .ref m_found, .int 0, .ref m_row, .ref m_bestRow, .int 0, .ref m_tape, .int 0, .int 0, .int 0, .int 0, .int 0, .int 0, .ref m_kinds, .ref m_items, .ref m_itemPictures, .int 0, .int 0, .int 0, .int 0, .ref m_widths, .ref m_sizes, .ref m_numbers, .ref m_moved])), (m_now, .inl (mc_now, 38, .inl m_nf)), (m_found, .inl (mc_found, 8, .inl (fun _ => 0)))] H := hP
  have hD : va_D A [(g0, .inr (7, [.ref m_now, .ref m_kept, .ref m_pictures, .ref m_keptPictures, .int 0, .ref m_found, .int 0, .ref m_row, .ref m_bestRow, .int 0, .ref m_tape, .int 0, .int 0, .int 0, .int 0, .int 0, .int 0, .ref m_kinds, .ref m_items, .ref m_itemPictures, .int 0, .int 0, .int 0, .int 0, .ref m_widths, .ref m_sizes, .ref m_numbers, .ref m_moved])), (m_now, .inl (mc_now, 38, .inl m_nf)), (m_found, .inl (mc_found, 8, .inl (fun _ => 0)))] := hD
  subst hw
  refine lv_aload_n hx hb dL_law_519 rfl (lv_at hl 1 rfl) ?_
  refine lv_aload_n hx hb dL_law_520 rfl (lv_at hl 3 rfl) ?_
  refine lv_iload_n hx hb dL_law_521 rfl (lv_at hl 0 rfl) ?_
  refine lv_iconst (v := 1) hx hb dL_law_522 (by decide) ?_
  refine lv_iadd hx hb dL_law_523 ?_
  refine pp_ti (y := 1) (by decide) ?_
  refine va_sld hx hb hX hbl hbA hS (vp_in_nI (n := 1) (by decide) (by decide)) dL_law_524 ?_
  refine pp_ti (y := xs 1) rfl ?_
  refine lv_aload_n hx hb dL_law_525 rfl (lv_at hl 3 rfl) ?_
  refine lv_iload_n hx hb dL_law_526 rfl (lv_at hl 0 rfl) ?_
  refine lv_iconst (v := 2) hx hb dL_law_527 (by decide) ?_
  refine lv_iadd hx hb dL_law_528 ?_
  refine pp_ti (y := 2) (by decide) ?_
  refine va_sld hx hb hX hbl hbA hS (vp_in_nI (n := 2) (by decide) (by decide)) dL_law_529 ?_
  refine pp_ti (y := xs 2) rfl ?_
  have hPc := hP.sub (ws' := [(g0, .inr (7, [.ref m_now, .ref m_kept, .ref m_pictures, .ref m_keptPictures, .int 0, .ref m_found, .int 0, .ref m_row, .ref m_bestRow, .int 0, .ref m_tape, .int 0, .int 0, .int 0, .int 0, .int 0, .int 0, .ref m_kinds, .ref m_items, .ref m_itemPictures, .int 0, .int 0, .int 0, .int 0, .ref m_widths, .ref m_sizes, .ref m_numbers, .ref m_moved])), (m_now, .inl (mc_now, 38, .inl m_nf)), (m_found, .inl (mc_found, 8, .inl (fun _ => 0)))]) [0, 1, 2] rfl
  have hKc := hK.sub (tys' := [(mc_now, .int), (mc_found, .int)]) [1, 2] rfl
  have hDc := hD.sub (ws' := [(g0, .inr (7, [.ref m_now, .ref m_kept, .ref m_pictures, .ref m_keptPictures, .int 0, .ref m_found, .int 0, .ref m_row, .ref m_bestRow, .int 0, .ref m_tape, .int 0, .int 0, .int 0, .int 0, .int 0, .int 0, .ref m_kinds, .ref m_items, .ref m_itemPictures, .int 0, .int 0, .int 0, .int 0, .ref m_widths, .ref m_sizes, .ref m_numbers, .ref m_moved])), (m_now, .inl (mc_now, 38, .inl m_nf)), (m_found, .inl (mc_found, 8, .inl (fun _ => 0)))]) [0, 1, 2] (by decide) rfl
  have hFc := va_free (wc := [(g0, .inr (7, [.ref m_now, .ref m_kept, .ref m_pictures, .ref m_keptPictures, .int 0, .ref m_found, .int 0, .ref m_row, .ref m_bestRow, .int 0, .ref m_tape, .int 0, .int 0, .int 0, .int 0, .int 0, .int 0, .ref m_kinds, .ref m_items, .ref m_itemPictures, .int 0, .int 0, .int 0, .int 0, .ref m_widths, .ref m_sizes, .ref m_numbers, .ref m_moved])), (m_now, .inl (mc_now, 38, .inl m_nf)), (m_found, .inl (mc_found, 8, .inl (fun _ => 0)))]) hD hS hA [0, 1, 2] rfl
  refine va_calli (va_runV (As := [.int (xs 1), .int (xs 2)]) (rest := [.int (-1000000001)]) ⟨hx, hb, hml, hown, hts⟩ (y_hold l dC dI ad g0 (xs 1) (xs 2) m_now (.ref m_kept) (.ref m_pictures) (.ref m_keptPictures) (.int 0) m_found (.int 0) (.ref m_row) (.ref m_bestRow) (.int 0) (.ref m_tape) (.int 0) (.int 0) (.int 0) (.int 0) (.int 0) (.int 0) (.ref m_kinds) (.ref m_items) (.ref m_itemPictures) (.int 0) (.int 0) (.int 0) (.int 0) (.ref m_widths) (.ref m_sizes) (.ref m_numbers) (.ref m_moved) mc_now m_nf mc_found (fun _ => 0) H.size hq10) (cwV 2 hts g_law_y_hold_51 rfl rfl rfl (by decide +kernel) ⟨(Nat.le_of_ble_eq_true rfl), (Nat.le_of_ble_eq_true rfl)⟩) ⟨preM_blind, va_recv hKc hPc (ci := 7) (q0 := 0) rfl rfl, fun U hU hW => ⟨rfl, preM_at hU hW hPc hKc hDc hev⟩⟩ rfl rfl hl.1 rfl (lv_room (Nat.le_of_ble_eq_true rfl)) dL_law_530 ⟨(Nat.le_of_ble_eq_true rfl), (Nat.le_of_ble_eq_true rfl)⟩) hS (fun q _ h => hFc q h) hFc (fun r_2 u t H1 locs ht hvm hw hB hz1 hk1 hS => ?_)
  obtain ⟨hP, hD⟩ := va_join (wr := []) (w1 := []) hP hD [0, 1, 2] [] rfl rfl (by decide) (by decide) hk1 hFc nil_P nil_D
  generalize H1 = H at hP hS ⊢
  have hP : va_P (dC, dI) vwCl [] H := hP
  have hD : va_D A [] := hD
  subst hw
  refine lv_icmp_eq (tgt := 1457) hx hb dL_law_533 (by decide) (fun _ => ?_) (fun c => absurd (by decide) c)
  exact law_tail LC hS (lv_sub hl [0, 3] rfl)

set_option maxHeartbeats 4000000 in
set_option maxRecDepth 100000 in
/-- one call of move on two new objects -/
theorem law_9 {p : Program} {l : Launch} {e : Env} {s : State} {m : MethodId} {below : List Frame} {meth : Method} {c : Code} {b : Nat} {xs : Nat → Int32} {A : Nat → Prop} {dC : Nat → ClassId} {dI : Nat → Nat → Nat} {ad : Nat → Nat} {H : Heap} {locs : List Loc} {ls : Array Slot} {h0 g0 : Nat} {ah : Nat} {bh : Nat} {sh : Nat} {rh : Nat} {ch : Nat} {ph : Nat} {th : Nat} {a0 : Nat} {a1 : Nat} {a2 : Nat} {a3 : Nat} {a4 : Nat} {tc : ClassId} {m_now : Nat} {m_kept : Nat} {m_pictures : Nat} {m_keptPictures : Nat} {m_found : Nat} {m_row : Nat} {m_bestRow : Nat} {m_tape : Nat} {m_kinds : Nat} {m_items : Nat} {m_itemPictures : Nat} {m_widths : Nat} {m_sizes : Nat} {m_numbers : Nat} {m_moved : Nat} {mc_now : ClassId} {m_nf : Nat → Int32} {mc_found : ClassId} (LC : lawC p s m meth c b xs A ad) (hS : va_S A s.heap H locs) (hq10 : ∀ j, j < 38 → m_nf j = fr_n j) (hP : va_P (dC, dI) vwCl [(h0, .inr (6, [.ref ah, .ref bh, .ref sh, .ref rh, .ref ch, .ref ph, .ref th, .int 0])), (ah, .inr (4, [.int 0, .ref a0, .ref a1, .int 0, .ref a2, .ref a3, .int 0, .ref a4, .int 63])), (th, .inl (tc, 7, .inl (fun _ => 0))), (g0, .inr (7, [.ref m_now, .ref m_kept, .ref m_pictures, .ref m_keptPictures, .int 0, .ref m_found, .int 0, .ref m_row, .ref m_bestRow, .int 0, .ref m_tape, .int 0, .int 0, .int 0, .int 0, .int 0, .int 0, .ref m_kinds, .ref m_items, .ref m_itemPictures, .int 0, .int 0, .int 0, .int 0, .ref m_widths, .ref m_sizes, .ref m_numbers, .ref m_moved])), (m_now, .inl (mc_now, 38, .inl m_nf)), (m_found, .inl (mc_found, 8, .inl (fun _ => 0)))] H) (hK : va_K (dC, dI) vwCl [(tc, .int), (mc_now, .int), (mc_found, .int)] s) (hD : va_D A [(h0, .inr (6, [.ref ah, .ref bh, .ref sh, .ref rh, .ref ch, .ref ph, .ref th, .int 0])), (ah, .inr (4, [.int 0, .ref a0, .ref a1, .int 0, .ref a2, .ref a3, .int 0, .ref a4, .int 63])), (th, .inl (tc, 7, .inl (fun _ => 0))), (g0, .inr (7, [.ref m_now, .ref m_kept, .ref m_pictures, .ref m_keptPictures, .int 0, .ref m_found, .int 0, .ref m_row, .ref m_bestRow, .int 0, .ref m_tape, .int 0, .int 0, .int 0, .int 0, .int 0, .int 0, .ref m_kinds, .ref m_items, .ref m_itemPictures, .int 0, .int 0, .int 0, .int 0, .ref m_widths, .ref m_sizes, .ref m_numbers, .ref m_moved])), (m_now, .inl (mc_now, 38, .inl m_nf)), (m_found, .inl (mc_found, 8, .inl (fun _ => 0)))]) (hl : lv_has ls 4 [(3, .int 0), (2, .ref g0), (1, .ref h0), (0, .ref b)]) : W p l e room_1 s m #[Value.ref b] below meth c H locs 52 1794 (lw_Z below #[Value.ref b] s) (F0 m 538 ls []) := by
  obtain ⟨hx, hb, hr, hml, hown, hts, hX, hbl, hlocks, hA, hA2, hbA, hev, hsf⟩ := id LC
  refine lv_aload_n hx hb dL_law_538 rfl (lv_at hl 2 rfl) ?_
  refine lv_aload_n hx hb dL_law_539 rfl (lv_at hl 3 rfl) ?_
  refine lv_iload_n hx hb dL_law_540 rfl (lv_at hl 0 rfl) ?_
  refine lv_iconst (v := 1) hx hb dL_law_541 (by decide) ?_
  refine lv_iadd hx hb dL_law_542 ?_
  refine pp_ti (y := 1) (by decide) ?_
  refine va_sld hx hb hX hbl hbA hS (vp_in_nI (n := 1) (by decide) (by decide)) dL_law_543 ?_
  refine pp_ti (y := xs 1) rfl ?_
  refine lv_aload_n hx hb dL_law_544 rfl (lv_at hl 3 rfl) ?_
  refine lv_iload_n hx hb dL_law_545 rfl (lv_at hl 0 rfl) ?_
  refine lv_iconst (v := 2) hx hb dL_law_546 (by decide) ?_
  refine lv_iadd hx hb dL_law_547 ?_
  refine pp_ti (y := 2) (by decide) ?_
  refine va_sld hx hb hX hbl hbA hS (vp_in_nI (n := 2) (by decide) (by decide)) dL_law_548 ?_
  refine pp_ti (y := xs 2) rfl ?_
  have hPc := hP.sub (ws' := [(h0, .inr (6, [.ref ah, .ref bh, .ref sh, .ref rh, .ref ch, .ref ph, .ref th, .int 0])), (ah, .inr (4, [.int 0, .ref a0, .ref a1, .int 0, .ref a2, .ref a3, .int 0, .ref a4, .int 63])), (th, .inl (tc, 7, .inl (fun _ => 0)))]) [0, 1, 2] rfl
  have hKc := hK.sub (tys' := [(tc, .int)]) [0] rfl
  have hDc := hD.sub (ws' := [(h0, .inr (6, [.ref ah, .ref bh, .ref sh, .ref rh, .ref ch, .ref ph, .ref th, .int 0])), (ah, .inr (4, [.int 0, .ref a0, .ref a1, .int 0, .ref a2, .ref a3, .int 0, .ref a4, .int 63])), (th, .inl (tc, 7, .inl (fun _ => 0)))]) [0, 1, 2] (by decide) rfl
  have hFc := va_free (wc := [(h0, .inr (6, [.ref ah, .ref bh, .ref sh, .ref rh, .ref ch, .ref ph, .ref th, .int 0])), (ah, .inr (4, [.int 0, .ref a0, .ref a1, .int 0, .ref a2, .ref a3, .int 0, .ref a4, .int 63])), (th, .inl (tc, 7, .inl (fun _ => 0)))]) hD hS hA [0, 1, 2] rfl
  refine va_calli (va_runV (As := [.int (xs 1), .int (xs 2)]) (rest := []) ⟨hx, hb, hml, hown, hts⟩ (x_move l dC dI ad h0 (xs 1) (xs 2) ah (.ref bh) (.ref sh) (.ref rh) (.ref ch) (.ref ph) th (.int 0) (.ref a0) (.ref a1) (.int 0) (.ref a2) (.ref a3) (.int 0) (.ref a4) (.int 63) tc (fun _ => 0) H.size ) (cwV 2 hts g_law_x_move_52 rfl rfl rfl (by decide +kernel) ⟨(Nat.le_of_ble_eq_true rfl), (Nat.le_of_ble_eq_true rfl)⟩) ⟨preM_blind, va_recv hKc hPc (ci := 6) (q0 := 0) rfl rfl, fun U hU hW => ⟨rfl, preM_at hU hW hPc hKc hDc hev⟩⟩ rfl rfl hl.1 rfl (lv_room (Nat.le_of_ble_eq_true rfl)) dL_law_549 ⟨(Nat.le_of_ble_eq_true rfl), (Nat.le_of_ble_eq_true rfl)⟩) hS (fun q _ h => hFc q h) hFc (fun r_1 u t H1 locs ht hvm hw hB hz1 hk1 hS => ?_)
  obtain ⟨hP, hD⟩ := va_join (wr := [(g0, .inr (7, [.ref m_now, .ref m_kept, .ref m_pictures, .ref m_keptPictures, .int 0, .ref m_found, .int 0, .ref m_row, .ref m_bestRow, .int 0, .ref m_tape, .int 0, .int 0, .int 0, .int 0, .int 0, .int 0, .ref m_kinds, .ref m_items, .ref m_itemPictures, .int 0, .int 0, .int 0, .int 0, .ref m_widths, .ref m_sizes, .ref m_numbers, .ref m_moved])), (m_now, .inl (mc_now, 38, .inl m_nf)), (m_found, .inl (mc_found, 8, .inl (fun _ => 0)))]) (w1 := []) hP hD [0, 1, 2] [3, 4, 5] rfl rfl (by decide) (by decide) hk1 hFc nil_P nil_D
  generalize H1 = H at hP hS ⊢
  have hP : va_P (dC, dI) vwCl [(g0, .inr (7, [.ref m_now, .ref m_kept, .ref m_pictures, .ref m_keptPictures, .int 0, .ref m_found, .int 0, .ref m_row, .ref m_bestRow, .int 0, .ref m_tape, .int 0, .int 0, .int 0, .int 0, .int 0, .int 0, .ref m_kinds, .ref m_items, .ref m_itemPictures, .int 0, .int 0, .int 0, .int 0, .ref m_widths, .ref m_sizes, .ref m_numbers, .ref m_moved])), (m_now, .inl (mc_now, 38, .inl m_nf)), (m_found, .inl (mc_found, 8, .inl (fun _ => 0)))] H := hP
  have hD : va_D A [(g0, .inr (7, [.ref m_now, .ref m_kept, .ref m_pictures, .ref m_keptPictures, .int 0, .ref m_found, .int 0, .ref m_row, .ref m_bestRow, .int 0, .ref m_tape, .int 0, .int 0, .int 0, .int 0, .int 0, .int 0, .ref m_kinds, .ref m_items, .ref m_itemPictures, .int 0, .int 0, .int 0, .int 0, .ref m_widths, .ref m_sizes, .ref m_numbers, .ref m_moved])), (m_now, .inl (mc_now, 38, .inl m_nf)), (m_found, .inl (mc_found, 8, .inl (fun _ => 0)))] := hD
  subst hw
  refine lv_aload_n hx hb dL_law_552 rfl (lv_at hl 1 rfl) ?_
  refine lv_aload_n hx hb dL_law_553 rfl (lv_at hl 3 rfl) ?_
  refine lv_iload_n hx hb dL_law_554 rfl (lv_at hl 0 rfl) ?_
  refine lv_iconst (v := 1) hx hb dL_law_555 (by decide) ?_
  refine lv_iadd hx hb dL_law_556 ?_
  refine pp_ti (y := 1) (by decide) ?_
  refine va_sld hx hb hX hbl hbA hS (vp_in_nI (n := 1) (by decide) (by decide)) dL_law_557 ?_
  refine pp_ti (y := xs 1) rfl ?_
  refine lv_aload_n hx hb dL_law_558 rfl (lv_at hl 3 rfl) ?_
  refine lv_iload_n hx hb dL_law_559 rfl (lv_at hl 0 rfl) ?_
  refine lv_iconst (v := 2) hx hb dL_law_560 (by decide) ?_
  refine lv_iadd hx hb dL_law_561 ?_
  refine pp_ti (y := 2) (by decide) ?_
  refine va_sld hx hb hX hbl hbA hS (vp_in_nI (n := 2) (by decide) (by decide)) dL_law_562 ?_
  refine pp_ti (y := xs 2) rfl ?_
  have hPc := hP.sub (ws' := [(g0, .inr (7, [.ref m_now, .ref m_kept, .ref m_pictures, .ref m_keptPictures, .int 0, .ref m_found, .int 0, .ref m_row, .ref m_bestRow, .int 0, .ref m_tape, .int 0, .int 0, .int 0, .int 0, .int 0, .int 0, .ref m_kinds, .ref m_items, .ref m_itemPictures, .int 0, .int 0, .int 0, .int 0, .ref m_widths, .ref m_sizes, .ref m_numbers, .ref m_moved])), (m_now, .inl (mc_now, 38, .inl m_nf)), (m_found, .inl (mc_found, 8, .inl (fun _ => 0)))]) [0, 1, 2] rfl
  have hKc := hK.sub (tys' := [(mc_now, .int), (mc_found, .int)]) [1, 2] rfl
  have hDc := hD.sub (ws' := [(g0, .inr (7, [.ref m_now, .ref m_kept, .ref m_pictures, .ref m_keptPictures, .int 0, .ref m_found, .int 0, .ref m_row, .ref m_bestRow, .int 0, .ref m_tape, .int 0, .int 0, .int 0, .int 0, .int 0, .int 0, .ref m_kinds, .ref m_items, .ref m_itemPictures, .int 0, .int 0, .int 0, .int 0, .ref m_widths, .ref m_sizes, .ref m_numbers, .ref m_moved])), (m_now, .inl (mc_now, 38, .inl m_nf)), (m_found, .inl (mc_found, 8, .inl (fun _ => 0)))]) [0, 1, 2] (by decide) rfl
  have hFc := va_free (wc := [(g0, .inr (7, [.ref m_now, .ref m_kept, .ref m_pictures, .ref m_keptPictures, .int 0, .ref m_found, .int 0, .ref m_row, .ref m_bestRow, .int 0, .ref m_tape, .int 0, .int 0, .int 0, .int 0, .int 0, .int 0, .ref m_kinds, .ref m_items, .ref m_itemPictures, .int 0, .int 0, .int 0, .int 0, .ref m_widths, .ref m_sizes, .ref m_numbers, .ref m_moved])), (m_now, .inl (mc_now, 38, .inl m_nf)), (m_found, .inl (mc_found, 8, .inl (fun _ => 0)))]) hD hS hA [0, 1, 2] rfl
  refine va_calli (va_runV (As := [.int (xs 1), .int (xs 2)]) (rest := [.int (-1000000001)]) ⟨hx, hb, hml, hown, hts⟩ (y_move l dC dI ad g0 (xs 1) (xs 2) m_now (.ref m_kept) (.ref m_pictures) (.ref m_keptPictures) (.int 0) m_found (.int 0) (.ref m_row) (.ref m_bestRow) (.int 0) (.ref m_tape) (.int 0) (.int 0) (.int 0) (.int 0) (.int 0) (.int 0) (.ref m_kinds) (.ref m_items) (.ref m_itemPictures) (.int 0) (.int 0) (.int 0) (.int 0) (.ref m_widths) (.ref m_sizes) (.ref m_numbers) (.ref m_moved) mc_now m_nf mc_found (fun _ => 0) H.size hq10) (cwV 2 hts g_law_y_move_55 rfl rfl rfl (by decide +kernel) ⟨(Nat.le_of_ble_eq_true rfl), (Nat.le_of_ble_eq_true rfl)⟩) ⟨preM_blind, va_recv hKc hPc (ci := 7) (q0 := 0) rfl rfl, fun U hU hW => ⟨rfl, preM_at hU hW hPc hKc hDc hev⟩⟩ rfl rfl hl.1 rfl (lv_room (Nat.le_of_ble_eq_true rfl)) dL_law_563 ⟨(Nat.le_of_ble_eq_true rfl), (Nat.le_of_ble_eq_true rfl)⟩) hS (fun q _ h => hFc q h) hFc (fun r_2 u t H1 locs ht hvm hw hB hz1 hk1 hS => ?_)
  obtain ⟨hP, hD⟩ := va_join (wr := []) (w1 := []) hP hD [0, 1, 2] [] rfl rfl (by decide) (by decide) hk1 hFc nil_P nil_D
  generalize H1 = H at hP hS ⊢
  have hP : va_P (dC, dI) vwCl [] H := hP
  have hD : va_D A [] := hD
  subst hw
  refine lv_icmp_eq (tgt := 1457) hx hb dL_law_566 (by decide) (fun _ => ?_) (fun c => absurd (by decide) c)
  exact law_tail LC hS (lv_sub hl [0, 3] rfl)

set_option maxHeartbeats 4000000 in
set_option maxRecDepth 100000 in
/-- one call of drop on two new objects -/
theorem law_10 {p : Program} {l : Launch} {e : Env} {s : State} {m : MethodId} {below : List Frame} {meth : Method} {c : Code} {b : Nat} {xs : Nat → Int32} {A : Nat → Prop} {dC : Nat → ClassId} {dI : Nat → Nat → Nat} {ad : Nat → Nat} {H : Heap} {locs : List Loc} {ls : Array Slot} {h0 g0 : Nat} {ah : Nat} {bh : Nat} {sh : Nat} {rh : Nat} {ch : Nat} {ph : Nat} {th : Nat} {a0 : Nat} {a1 : Nat} {a2 : Nat} {a3 : Nat} {a4 : Nat} {tc : ClassId} {m_now : Nat} {m_kept : Nat} {m_pictures : Nat} {m_keptPictures : Nat} {m_found : Nat} {m_row : Nat} {m_bestRow : Nat} {m_tape : Nat} {m_kinds : Nat} {m_items : Nat} {m_itemPictures : Nat} {m_widths : Nat} {m_sizes : Nat} {m_numbers : Nat} {m_moved : Nat} {mc_now : ClassId} {m_nf : Nat → Int32} {mc_found : ClassId} (LC : lawC p s m meth c b xs A ad) (hS : va_S A s.heap H locs) (hq10 : ∀ j, j < 38 → m_nf j = fr_n j) (hP : va_P (dC, dI) vwCl [(h0, .inr (6, [.ref ah, .ref bh, .ref sh, .ref rh, .ref ch, .ref ph, .ref th, .int 0])), (ah, .inr (4, [.int 0, .ref a0, .ref a1, .int 0, .ref a2, .ref a3, .int 0, .ref a4, .int 63])), (th, .inl (tc, 7, .inl (fun _ => 0))), (g0, .inr (7, [.ref m_now, .ref m_kept, .ref m_pictures, .ref m_keptPictures, .int 0, .ref m_found, .int 0, .ref m_row, .ref m_bestRow, .int 0, .ref m_tape, .int 0, .int 0, .int 0, .int 0, .int 0, .int 0, .ref m_kinds, .ref m_items, .ref m_itemPictures, .int 0, .int 0, .int 0, .int 0, .ref m_widths, .ref m_sizes, .ref m_numbers, .ref m_moved])), (m_now, .inl (mc_now, 38, .inl m_nf)), (m_found, .inl (mc_found, 8, .inl (fun _ => 0)))] H) (hK : va_K (dC, dI) vwCl [(tc, .int), (mc_now, .int), (mc_found, .int)] s) (hD : va_D A [(h0, .inr (6, [.ref ah, .ref bh, .ref sh, .ref rh, .ref ch, .ref ph, .ref th, .int 0])), (ah, .inr (4, [.int 0, .ref a0, .ref a1, .int 0, .ref a2, .ref a3, .int 0, .ref a4, .int 63])), (th, .inl (tc, 7, .inl (fun _ => 0))), (g0, .inr (7, [.ref m_now, .ref m_kept, .ref m_pictures, .ref m_keptPictures, .int 0, .ref m_found, .int 0, .ref m_row, .ref m_bestRow, .int 0, .ref m_tape, .int 0, .int 0, .int 0, .int 0, .int 0, .int 0, .ref m_kinds, .ref m_items, .ref m_itemPictures, .int 0, .int 0, .int 0, .int 0, .ref m_widths, .ref m_sizes, .ref m_numbers, .ref m_moved])), (m_now, .inl (mc_now, 38, .inl m_nf)), (m_found, .inl (mc_found, 8, .inl (fun _ => 0)))]) (hl : lv_has ls 4 [(3, .int 0), (2, .ref g0), (1, .ref h0), (0, .ref b)]) : W p l e room_1 s m #[Value.ref b] below meth c H locs 52 1794 (lw_Z below #[Value.ref b] s) (F0 m 571 ls []) := by
  obtain ⟨hx, hb, hr, hml, hown, hts, hX, hbl, hlocks, hA, hA2, hbA, hev, hsf⟩ := id LC
  refine lv_aload_n hx hb dL_law_571 rfl (lv_at hl 2 rfl) ?_
  refine lv_aload_n hx hb dL_law_572 rfl (lv_at hl 3 rfl) ?_
  refine lv_iload_n hx hb dL_law_573 rfl (lv_at hl 0 rfl) ?_
  refine lv_iconst (v := 1) hx hb dL_law_574 (by decide) ?_
  refine lv_iadd hx hb dL_law_575 ?_
  refine pp_ti (y := 1) (by decide) ?_
  refine va_sld hx hb hX hbl hbA hS (vp_in_nI (n := 1) (by decide) (by decide)) dL_law_576 ?_
  refine pp_ti (y := xs 1) rfl ?_
  have hPc := hP.sub (ws' := [(h0, .inr (6, [.ref ah, .ref bh, .ref sh, .ref rh, .ref ch, .ref ph, .ref th, .int 0])), (ah, .inr (4, [.int 0, .ref a0, .ref a1, .int 0, .ref a2, .ref a3, .int 0, .ref a4, .int 63])), (th, .inl (tc, 7, .inl (fun _ => 0)))]) [0, 1, 2] rfl
  have hKc := hK.sub (tys' := [(tc, .int)]) [0] rfl
  have hDc := hD.sub (ws' := [(h0, .inr (6, [.ref ah, .ref bh, .ref sh, .ref rh, .ref ch, .ref ph, .ref th, .int 0])), (ah, .inr (4, [.int 0, .ref a0, .ref a1, .int 0, .ref a2, .ref a3, .int 0, .ref a4, .int 63])), (th, .inl (tc, 7, .inl (fun _ => 0)))]) [0, 1, 2] (by decide) rfl
  have hFc := va_free (wc := [(h0, .inr (6, [.ref ah, .ref bh, .ref sh, .ref rh, .ref ch, .ref ph, .ref th, .int 0])), (ah, .inr (4, [.int 0, .ref a0, .ref a1, .int 0, .ref a2, .ref a3, .int 0, .ref a4, .int 63])), (th, .inl (tc, 7, .inl (fun _ => 0)))]) hD hS hA [0, 1, 2] rfl
  refine va_calli (va_runV (As := [.int (xs 1)]) (rest := []) ⟨hx, hb, hml, hown, hts⟩ (x_drop l dC dI ad h0 (xs 1) ah (.ref bh) (.ref sh) (.ref rh) (.ref ch) (.ref ph) th (.int 0) (.ref a0) (.ref a1) (.int 0) (.ref a2) (.ref a3) (.int 0) (.ref a4) (.int 63) tc (fun _ => 0) H.size ) (cwV 1 hts g_law_x_drop_56 rfl rfl rfl (by decide +kernel) ⟨(Nat.le_of_ble_eq_true rfl), (Nat.le_of_ble_eq_true rfl)⟩) ⟨preM_blind, va_recv hKc hPc (ci := 6) (q0 := 0) rfl rfl, fun U hU hW => ⟨rfl, preM_at hU hW hPc hKc hDc hev⟩⟩ rfl rfl hl.1 rfl (lv_room (Nat.le_of_ble_eq_true rfl)) dL_law_577 ⟨(Nat.le_of_ble_eq_true rfl), (Nat.le_of_ble_eq_true rfl)⟩) hS (fun q _ h => hFc q h) hFc (fun r_1 u t H1 locs ht hvm hw hB hz1 hk1 hS => ?_)
  obtain ⟨hP, hD⟩ := va_join (wr := [(g0, .inr (7, [.ref m_now, .ref m_kept, .ref m_pictures, .ref m_keptPictures, .int 0, .ref m_found, .int 0, .ref m_row, .ref m_bestRow, .int 0, .ref m_tape, .int 0, .int 0, .int 0, .int 0, .int 0, .int 0, .ref m_kinds, .ref m_items, .ref m_itemPictures, .int 0, .int 0, .int 0, .int 0, .ref m_widths, .ref m_sizes, .ref m_numbers, .ref m_moved])), (m_now, .inl (mc_now, 38, .inl m_nf)), (m_found, .inl (mc_found, 8, .inl (fun _ => 0)))]) (w1 := []) hP hD [0, 1, 2] [3, 4, 5] rfl rfl (by decide) (by decide) hk1 hFc nil_P nil_D
  generalize H1 = H at hP hS ⊢
  have hP : va_P (dC, dI) vwCl [(g0, .inr (7, [.ref m_now, .ref m_kept, .ref m_pictures, .ref m_keptPictures, .int 0, .ref m_found, .int 0, .ref m_row, .ref m_bestRow, .int 0, .ref m_tape, .int 0, .int 0, .int 0, .int 0, .int 0, .int 0, .ref m_kinds, .ref m_items, .ref m_itemPictures, .int 0, .int 0, .int 0, .int 0, .ref m_widths, .ref m_sizes, .ref m_numbers, .ref m_moved])), (m_now, .inl (mc_now, 38, .inl m_nf)), (m_found, .inl (mc_found, 8, .inl (fun _ => 0)))] H := hP
  have hD : va_D A [(g0, .inr (7, [.ref m_now, .ref m_kept, .ref m_pictures, .ref m_keptPictures, .int 0, .ref m_found, .int 0, .ref m_row, .ref m_bestRow, .int 0, .ref m_tape, .int 0, .int 0, .int 0, .int 0, .int 0, .int 0, .ref m_kinds, .ref m_items, .ref m_itemPictures, .int 0, .int 0, .int 0, .int 0, .ref m_widths, .ref m_sizes, .ref m_numbers, .ref m_moved])), (m_now, .inl (mc_now, 38, .inl m_nf)), (m_found, .inl (mc_found, 8, .inl (fun _ => 0)))] := hD
  subst hw
  refine lv_aload_n hx hb dL_law_580 rfl (lv_at hl 1 rfl) ?_
  refine lv_aload_n hx hb dL_law_581 rfl (lv_at hl 3 rfl) ?_
  refine lv_iload_n hx hb dL_law_582 rfl (lv_at hl 0 rfl) ?_
  refine lv_iconst (v := 1) hx hb dL_law_583 (by decide) ?_
  refine lv_iadd hx hb dL_law_584 ?_
  refine pp_ti (y := 1) (by decide) ?_
  refine va_sld hx hb hX hbl hbA hS (vp_in_nI (n := 1) (by decide) (by decide)) dL_law_585 ?_
  refine pp_ti (y := xs 1) rfl ?_
  have hPc := hP.sub (ws' := [(g0, .inr (7, [.ref m_now, .ref m_kept, .ref m_pictures, .ref m_keptPictures, .int 0, .ref m_found, .int 0, .ref m_row, .ref m_bestRow, .int 0, .ref m_tape, .int 0, .int 0, .int 0, .int 0, .int 0, .int 0, .ref m_kinds, .ref m_items, .ref m_itemPictures, .int 0, .int 0, .int 0, .int 0, .ref m_widths, .ref m_sizes, .ref m_numbers, .ref m_moved])), (m_now, .inl (mc_now, 38, .inl m_nf)), (m_found, .inl (mc_found, 8, .inl (fun _ => 0)))]) [0, 1, 2] rfl
  have hKc := hK.sub (tys' := [(mc_now, .int), (mc_found, .int)]) [1, 2] rfl
  have hDc := hD.sub (ws' := [(g0, .inr (7, [.ref m_now, .ref m_kept, .ref m_pictures, .ref m_keptPictures, .int 0, .ref m_found, .int 0, .ref m_row, .ref m_bestRow, .int 0, .ref m_tape, .int 0, .int 0, .int 0, .int 0, .int 0, .int 0, .ref m_kinds, .ref m_items, .ref m_itemPictures, .int 0, .int 0, .int 0, .int 0, .ref m_widths, .ref m_sizes, .ref m_numbers, .ref m_moved])), (m_now, .inl (mc_now, 38, .inl m_nf)), (m_found, .inl (mc_found, 8, .inl (fun _ => 0)))]) [0, 1, 2] (by decide) rfl
  have hFc := va_free (wc := [(g0, .inr (7, [.ref m_now, .ref m_kept, .ref m_pictures, .ref m_keptPictures, .int 0, .ref m_found, .int 0, .ref m_row, .ref m_bestRow, .int 0, .ref m_tape, .int 0, .int 0, .int 0, .int 0, .int 0, .int 0, .ref m_kinds, .ref m_items, .ref m_itemPictures, .int 0, .int 0, .int 0, .int 0, .ref m_widths, .ref m_sizes, .ref m_numbers, .ref m_moved])), (m_now, .inl (mc_now, 38, .inl m_nf)), (m_found, .inl (mc_found, 8, .inl (fun _ => 0)))]) hD hS hA [0, 1, 2] rfl
  refine va_calli (va_runV (As := [.int (xs 1)]) (rest := [.int (-1000000001)]) ⟨hx, hb, hml, hown, hts⟩ (y_drop l dC dI ad g0 (xs 1) m_now (.ref m_kept) (.ref m_pictures) (.ref m_keptPictures) (.int 0) m_found (.int 0) (.ref m_row) (.ref m_bestRow) (.int 0) (.ref m_tape) (.int 0) (.int 0) (.int 0) (.int 0) (.int 0) (.int 0) (.ref m_kinds) (.ref m_items) (.ref m_itemPictures) (.int 0) (.int 0) (.int 0) (.int 0) (.ref m_widths) (.ref m_sizes) (.ref m_numbers) (.ref m_moved) mc_now m_nf mc_found (fun _ => 0) H.size hq10) (cwV 1 hts g_law_y_drop_60 rfl rfl rfl (by decide +kernel) ⟨(Nat.le_of_ble_eq_true rfl), (Nat.le_of_ble_eq_true rfl)⟩) ⟨preM_blind, va_recv hKc hPc (ci := 7) (q0 := 0) rfl rfl, fun U hU hW => ⟨rfl, preM_at hU hW hPc hKc hDc hev⟩⟩ rfl rfl hl.1 rfl (lv_room (Nat.le_of_ble_eq_true rfl)) dL_law_586 ⟨(Nat.le_of_ble_eq_true rfl), (Nat.le_of_ble_eq_true rfl)⟩) hS (fun q _ h => hFc q h) hFc (fun r_2 u t H1 locs ht hvm hw hB hz1 hk1 hS => ?_)
  obtain ⟨hP, hD⟩ := va_join (wr := []) (w1 := []) hP hD [0, 1, 2] [] rfl rfl (by decide) (by decide) hk1 hFc nil_P nil_D
  generalize H1 = H at hP hS ⊢
  have hP : va_P (dC, dI) vwCl [] H := hP
  have hD : va_D A [] := hD
  subst hw
  refine lv_icmp_eq (tgt := 1457) hx hb dL_law_589 (by decide) (fun _ => ?_) (fun c => absurd (by decide) c)
  exact law_tail LC hS (lv_sub hl [0, 3] rfl)

set_option maxHeartbeats 4000000 in
set_option maxRecDepth 100000 in
/-- one call of held on two new objects -/
theorem law_11 {p : Program} {l : Launch} {e : Env} {s : State} {m : MethodId} {below : List Frame} {meth : Method} {c : Code} {b : Nat} {xs : Nat → Int32} {A : Nat → Prop} {dC : Nat → ClassId} {dI : Nat → Nat → Nat} {ad : Nat → Nat} {H : Heap} {locs : List Loc} {ls : Array Slot} {h0 g0 : Nat} {ah : Nat} {bh : Nat} {sh : Nat} {rh : Nat} {ch : Nat} {ph : Nat} {th : Nat} {a0 : Nat} {a1 : Nat} {a2 : Nat} {a3 : Nat} {a4 : Nat} {ac2 : ClassId} {af : Nat → Int32} {ac3 : ClassId} {ag : Nat → Int32} {tc : ClassId} {m_now : Nat} {m_kept : Nat} {m_pictures : Nat} {m_keptPictures : Nat} {m_found : Nat} {m_row : Nat} {m_bestRow : Nat} {m_tape : Nat} {m_kinds : Nat} {m_items : Nat} {m_itemPictures : Nat} {m_widths : Nat} {m_sizes : Nat} {m_numbers : Nat} {m_moved : Nat} {mc_now : ClassId} {m_nf : Nat → Int32} {mc_found : ClassId} (LC : lawC p s m meth c b xs A ad) (hS : va_S A s.heap H locs) (hq0 : ∀ j, j < 4 → af j = (-1)) (hq1 : ∀ j, j < 4 → ag j = (-1)) (hq10 : ∀ j, j < 38 → m_nf j = fr_n j) (hP : va_P (dC, dI) vwCl [(h0, .inr (6, [.ref ah, .ref bh, .ref sh, .ref rh, .ref ch, .ref ph, .ref th, .int 0])), (ah, .inr (4, [.int 0, .ref a0, .ref a1, .int 0, .ref a2, .ref a3, .int 0, .ref a4, .int 63])), (a2, .inl (ac2, 4, .inl af)), (a3, .inl (ac3, 4, .inl ag)), (th, .inl (tc, 7, .inl (fun _ => 0))), (g0, .inr (7, [.ref m_now, .ref m_kept, .ref m_pictures, .ref m_keptPictures, .int 0, .ref m_found, .int 0, .ref m_row, .ref m_bestRow, .int 0, .ref m_tape, .int 0, .int 0, .int 0, .int 0, .int 0, .int 0, .ref m_kinds, .ref m_items, .ref m_itemPictures, .int 0, .int 0, .int 0, .int 0, .ref m_widths, .ref m_sizes, .ref m_numbers, .ref m_moved])), (m_now, .inl (mc_now, 38, .inl m_nf)), (m_found, .inl (mc_found, 8, .inl (fun _ => 0)))] H) (hK : va_K (dC, dI) vwCl [(ac2, .int), (ac3, .int), (tc, .int), (mc_now, .int), (mc_found, .int)] s) (hD : va_D A [(h0, .inr (6, [.ref ah, .ref bh, .ref sh, .ref rh, .ref ch, .ref ph, .ref th, .int 0])), (ah, .inr (4, [.int 0, .ref a0, .ref a1, .int 0, .ref a2, .ref a3, .int 0, .ref a4, .int 63])), (a2, .inl (ac2, 4, .inl af)), (a3, .inl (ac3, 4, .inl ag)), (th, .inl (tc, 7, .inl (fun _ => 0))), (g0, .inr (7, [.ref m_now, .ref m_kept, .ref m_pictures, .ref m_keptPictures, .int 0, .ref m_found, .int 0, .ref m_row, .ref m_bestRow, .int 0, .ref m_tape, .int 0, .int 0, .int 0, .int 0, .int 0, .int 0, .ref m_kinds, .ref m_items, .ref m_itemPictures, .int 0, .int 0, .int 0, .int 0, .ref m_widths, .ref m_sizes, .ref m_numbers, .ref m_moved])), (m_now, .inl (mc_now, 38, .inl m_nf)), (m_found, .inl (mc_found, 8, .inl (fun _ => 0)))]) (hl : lv_has ls 4 [(3, .int 0), (2, .ref g0), (1, .ref h0), (0, .ref b)]) : W p l e room_1 s m #[Value.ref b] below meth c H locs 52 1794 (lw_Z below #[Value.ref b] s) (F0 m 594 ls []) := by
  obtain ⟨hx, hb, hr, hml, hown, hts, hX, hbl, hlocks, hA, hA2, hbA, hev, hsf⟩ := id LC
  refine lv_aload_n hx hb dL_law_594 rfl (lv_at hl 2 rfl) ?_
  refine lv_aload_n hx hb dL_law_595 rfl (lv_at hl 3 rfl) ?_
  refine lv_iload_n hx hb dL_law_596 rfl (lv_at hl 0 rfl) ?_
  refine lv_iconst (v := 1) hx hb dL_law_597 (by decide) ?_
  refine lv_iadd hx hb dL_law_598 ?_
  refine pp_ti (y := 1) (by decide) ?_
  refine va_sld hx hb hX hbl hbA hS (vp_in_nI (n := 1) (by decide) (by decide)) dL_law_599 ?_
  refine pp_ti (y := xs 1) rfl ?_
  refine lv_aload_n hx hb dL_law_600 rfl (lv_at hl 3 rfl) ?_
  refine lv_iload_n hx hb dL_law_601 rfl (lv_at hl 0 rfl) ?_
  refine lv_iconst (v := 2) hx hb dL_law_602 (by decide) ?_
  refine lv_iadd hx hb dL_law_603 ?_
  refine pp_ti (y := 2) (by decide) ?_
  refine va_sld hx hb hX hbl hbA hS (vp_in_nI (n := 2) (by decide) (by decide)) dL_law_604 ?_
  refine pp_ti (y := xs 2) rfl ?_
  have hPc := hP.sub (ws' := [(h0, .inr (6, [.ref ah, .ref bh, .ref sh, .ref rh, .ref ch, .ref ph, .ref th, .int 0])), (ah, .inr (4, [.int 0, .ref a0, .ref a1, .int 0, .ref a2, .ref a3, .int 0, .ref a4, .int 63])), (a2, .inl (ac2, 4, .inl af)), (a3, .inl (ac3, 4, .inl ag)), (th, .inl (tc, 7, .inl (fun _ => 0)))]) [0, 1, 2, 3, 4] rfl
  have hKc := hK.sub (tys' := [(ac2, .int), (ac3, .int), (tc, .int)]) [0, 1, 2] rfl
  have hDc := hD.sub (ws' := [(h0, .inr (6, [.ref ah, .ref bh, .ref sh, .ref rh, .ref ch, .ref ph, .ref th, .int 0])), (ah, .inr (4, [.int 0, .ref a0, .ref a1, .int 0, .ref a2, .ref a3, .int 0, .ref a4, .int 63])), (a2, .inl (ac2, 4, .inl af)), (a3, .inl (ac3, 4, .inl ag)), (th, .inl (tc, 7, .inl (fun _ => 0)))]) [0, 1, 2, 3, 4] (by decide) rfl
  have hFc := va_free (wc := [(h0, .inr (6, [.ref ah, .ref bh, .ref sh, .ref rh, .ref ch, .ref ph, .ref th, .int 0])), (ah, .inr (4, [.int 0, .ref a0, .ref a1, .int 0, .ref a2, .ref a3, .int 0, .ref a4, .int 63])), (a2, .inl (ac2, 4, .inl af)), (a3, .inl (ac3, 4, .inl ag)), (th, .inl (tc, 7, .inl (fun _ => 0)))]) hD hS hA [0, 1, 2, 3, 4] rfl
  refine va_calli (va_runV (As := [.int (xs 1), .int (xs 2)]) (rest := []) ⟨hx, hb, hml, hown, hts⟩ (x_held l dC dI ad h0 (xs 1) (xs 2) ah (.ref bh) (.ref sh) (.ref rh) (.ref ch) (.ref ph) th (.int 0) (.int 0) (.ref a0) (.ref a1) (.int 0) a2 a3 (.int 0) (.ref a4) (.int 63) ac2 af ac3 ag tc (fun _ => 0) H.size hq0 hq1) (cwV 2 hts g_law_x_held_61 rfl rfl rfl (by decide +kernel) ⟨(Nat.le_of_ble_eq_true rfl), (Nat.le_of_ble_eq_true rfl)⟩) ⟨preM_blind, va_recv hKc hPc (ci := 6) (q0 := 0) rfl rfl, fun U hU hW => ⟨rfl, preM_at hU hW hPc hKc hDc hev⟩⟩ rfl rfl hl.1 rfl (lv_room (Nat.le_of_ble_eq_true rfl)) dL_law_605 ⟨(Nat.le_of_ble_eq_true rfl), (Nat.le_of_ble_eq_true rfl)⟩) hS (fun q _ h => hFc q h) hFc (fun r_1 u t H1 locs ht hvm hw hB hz1 hk1 hS => ?_)
  obtain ⟨hP, hD⟩ := va_join (wr := [(g0, .inr (7, [.ref m_now, .ref m_kept, .ref m_pictures, .ref m_keptPictures, .int 0, .ref m_found, .int 0, .ref m_row, .ref m_bestRow, .int 0, .ref m_tape, .int 0, .int 0, .int 0, .int 0, .int 0, .int 0, .ref m_kinds, .ref m_items, .ref m_itemPictures, .int 0, .int 0, .int 0, .int 0, .ref m_widths, .ref m_sizes, .ref m_numbers, .ref m_moved])), (m_now, .inl (mc_now, 38, .inl m_nf)), (m_found, .inl (mc_found, 8, .inl (fun _ => 0)))]) (w1 := []) hP hD [0, 1, 2, 3, 4] [5, 6, 7] rfl rfl (by decide) (by decide) hk1 hFc nil_P nil_D
  generalize H1 = H at hP hS ⊢
  have hP : va_P (dC, dI) vwCl [(g0, .inr (7, [.ref m_now, .ref m_kept, .ref m_pictures, .ref m_keptPictures, .int 0, .ref m_found, .int 0, .ref m_row, .ref m_bestRow, .int 0, .ref m_tape, .int 0, .int 0, .int 0, .int 0, .int 0, .int 0, .ref m_kinds, .ref m_items, .ref m_itemPictures, .int 0, .int 0, .int 0, .int 0, .ref m_widths, .ref m_sizes, .ref m_numbers, .ref m_moved])), (m_now, .inl (mc_now, 38, .inl m_nf)), (m_found, .inl (mc_found, 8, .inl (fun _ => 0)))] H := hP
  have hD : va_D A [(g0, .inr (7, [.ref m_now, .ref m_kept, .ref m_pictures, .ref m_keptPictures, .int 0, .ref m_found, .int 0, .ref m_row, .ref m_bestRow, .int 0, .ref m_tape, .int 0, .int 0, .int 0, .int 0, .int 0, .int 0, .ref m_kinds, .ref m_items, .ref m_itemPictures, .int 0, .int 0, .int 0, .int 0, .ref m_widths, .ref m_sizes, .ref m_numbers, .ref m_moved])), (m_now, .inl (mc_now, 38, .inl m_nf)), (m_found, .inl (mc_found, 8, .inl (fun _ => 0)))] := hD
  have hr_1 := hw
  refine lv_aload_n hx hb dL_law_608 rfl (lv_at hl 1 rfl) ?_
  refine lv_aload_n hx hb dL_law_609 rfl (lv_at hl 3 rfl) ?_
  refine lv_iload_n hx hb dL_law_610 rfl (lv_at hl 0 rfl) ?_
  refine lv_iconst (v := 1) hx hb dL_law_611 (by decide) ?_
  refine lv_iadd hx hb dL_law_612 ?_
  refine pp_ti (y := 1) (by decide) ?_
  refine va_sld hx hb hX hbl hbA hS (vp_in_nI (n := 1) (by decide) (by decide)) dL_law_613 ?_
  refine pp_ti (y := xs 1) rfl ?_
  refine lv_aload_n hx hb dL_law_614 rfl (lv_at hl 3 rfl) ?_
  refine lv_iload_n hx hb dL_law_615 rfl (lv_at hl 0 rfl) ?_
  refine lv_iconst (v := 2) hx hb dL_law_616 (by decide) ?_
  refine lv_iadd hx hb dL_law_617 ?_
  refine pp_ti (y := 2) (by decide) ?_
  refine va_sld hx hb hX hbl hbA hS (vp_in_nI (n := 2) (by decide) (by decide)) dL_law_618 ?_
  refine pp_ti (y := xs 2) rfl ?_
  have hPc := hP.sub (ws' := [(g0, .inr (7, [.ref m_now, .ref m_kept, .ref m_pictures, .ref m_keptPictures, .int 0, .ref m_found, .int 0, .ref m_row, .ref m_bestRow, .int 0, .ref m_tape, .int 0, .int 0, .int 0, .int 0, .int 0, .int 0, .ref m_kinds, .ref m_items, .ref m_itemPictures, .int 0, .int 0, .int 0, .int 0, .ref m_widths, .ref m_sizes, .ref m_numbers, .ref m_moved])), (m_now, .inl (mc_now, 38, .inl m_nf)), (m_found, .inl (mc_found, 8, .inl (fun _ => 0)))]) [0, 1, 2] rfl
  have hKc := hK.sub (tys' := [(mc_now, .int), (mc_found, .int)]) [3, 4] rfl
  have hDc := hD.sub (ws' := [(g0, .inr (7, [.ref m_now, .ref m_kept, .ref m_pictures, .ref m_keptPictures, .int 0, .ref m_found, .int 0, .ref m_row, .ref m_bestRow, .int 0, .ref m_tape, .int 0, .int 0, .int 0, .int 0, .int 0, .int 0, .ref m_kinds, .ref m_items, .ref m_itemPictures, .int 0, .int 0, .int 0, .int 0, .ref m_widths, .ref m_sizes, .ref m_numbers, .ref m_moved])), (m_now, .inl (mc_now, 38, .inl m_nf)), (m_found, .inl (mc_found, 8, .inl (fun _ => 0)))]) [0, 1, 2] (by decide) rfl
  have hFc := va_free (wc := [(g0, .inr (7, [.ref m_now, .ref m_kept, .ref m_pictures, .ref m_keptPictures, .int 0, .ref m_found, .int 0, .ref m_row, .ref m_bestRow, .int 0, .ref m_tape, .int 0, .int 0, .int 0, .int 0, .int 0, .int 0, .ref m_kinds, .ref m_items, .ref m_itemPictures, .int 0, .int 0, .int 0, .int 0, .ref m_widths, .ref m_sizes, .ref m_numbers, .ref m_moved])), (m_now, .inl (mc_now, 38, .inl m_nf)), (m_found, .inl (mc_found, 8, .inl (fun _ => 0)))]) hD hS hA [0, 1, 2] rfl
  refine va_calli (va_runV (As := [.int (xs 1), .int (xs 2)]) (rest := [.int r_1]) ⟨hx, hb, hml, hown, hts⟩ (y_held l dC dI ad g0 (xs 1) (xs 2) m_now (.ref m_kept) (.ref m_pictures) (.ref m_keptPictures) (.int 0) m_found (.int 0) (.ref m_row) (.ref m_bestRow) (.int 0) (.ref m_tape) (.int 0) (.int 0) (.int 0) (.int 0) (.int 0) (.int 0) (.ref m_kinds) (.ref m_items) (.ref m_itemPictures) (.int 0) (.int 0) (.int 0) (.int 0) (.ref m_widths) (.ref m_sizes) (.ref m_numbers) (.ref m_moved) mc_now m_nf mc_found (fun _ => 0) H.size hq10) (cwV 2 hts g_law_y_held_64 rfl rfl rfl (by decide +kernel) ⟨(Nat.le_of_ble_eq_true rfl), (Nat.le_of_ble_eq_true rfl)⟩) ⟨preM_blind, va_recv hKc hPc (ci := 7) (q0 := 0) rfl rfl, fun U hU hW => ⟨rfl, preM_at hU hW hPc hKc hDc hev⟩⟩ rfl rfl hl.1 rfl (lv_room (Nat.le_of_ble_eq_true rfl)) dL_law_619 ⟨(Nat.le_of_ble_eq_true rfl), (Nat.le_of_ble_eq_true rfl)⟩) hS (fun q _ h => hFc q h) hFc (fun r_2 u t H1 locs ht hvm hw hB hz1 hk1 hS => ?_)
  obtain ⟨hP, hD⟩ := va_join (wr := []) (w1 := []) hP hD [0, 1, 2] [] rfl rfl (by decide) (by decide) hk1 hFc nil_P nil_D
  generalize H1 = H at hP hS ⊢
  have hP : va_P (dC, dI) vwCl [] H := hP
  have hD : va_D A [] := hD
  have hr_2 := hw
  refine lv_icmp_eq (tgt := 1457) hx hb dL_law_622 (by decide) (fun _ => ?_) (fun c => absurd (pp_same2 hr_1 hr_2) c)
  exact law_tail LC hS (lv_sub hl [0, 3] rfl)

set_option maxHeartbeats 4000000 in
set_option maxRecDepth 100000 in
/-- one call of dark on two new objects -/
theorem law_12 {p : Program} {l : Launch} {e : Env} {s : State} {m : MethodId} {below : List Frame} {meth : Method} {c : Code} {b : Nat} {xs : Nat → Int32} {A : Nat → Prop} {dC : Nat → ClassId} {dI : Nat → Nat → Nat} {ad : Nat → Nat} {H : Heap} {locs : List Loc} {ls : Array Slot} {h0 g0 : Nat} {ah : Nat} {bh : Nat} {sh : Nat} {rh : Nat} {ch : Nat} {ph : Nat} {th : Nat} {a0 : Nat} {a1 : Nat} {a2 : Nat} {a3 : Nat} {a4 : Nat} {ac2 : ClassId} {af : Nat → Int32} {m_now : Nat} {m_kept : Nat} {m_pictures : Nat} {m_keptPictures : Nat} {m_found : Nat} {m_row : Nat} {m_bestRow : Nat} {m_tape : Nat} {m_kinds : Nat} {m_items : Nat} {m_itemPictures : Nat} {m_widths : Nat} {m_sizes : Nat} {m_numbers : Nat} {m_moved : Nat} {mc_now : ClassId} {m_nf : Nat → Int32} (LC : lawC p s m meth c b xs A ad) (hS : va_S A s.heap H locs) (hq0 : ∀ j, j < 4 → af j = (-1)) (hq10 : ∀ j, j < 38 → m_nf j = fr_n j) (hP : va_P (dC, dI) vwCl [(h0, .inr (6, [.ref ah, .ref bh, .ref sh, .ref rh, .ref ch, .ref ph, .ref th, .int 0])), (ah, .inr (4, [.int 0, .ref a0, .ref a1, .int 0, .ref a2, .ref a3, .int 0, .ref a4, .int 63])), (a2, .inl (ac2, 4, .inl af)), (g0, .inr (7, [.ref m_now, .ref m_kept, .ref m_pictures, .ref m_keptPictures, .int 0, .ref m_found, .int 0, .ref m_row, .ref m_bestRow, .int 0, .ref m_tape, .int 0, .int 0, .int 0, .int 0, .int 0, .int 0, .ref m_kinds, .ref m_items, .ref m_itemPictures, .int 0, .int 0, .int 0, .int 0, .ref m_widths, .ref m_sizes, .ref m_numbers, .ref m_moved])), (m_now, .inl (mc_now, 38, .inl m_nf))] H) (hK : va_K (dC, dI) vwCl [(ac2, .int), (mc_now, .int)] s) (hD : va_D A [(h0, .inr (6, [.ref ah, .ref bh, .ref sh, .ref rh, .ref ch, .ref ph, .ref th, .int 0])), (ah, .inr (4, [.int 0, .ref a0, .ref a1, .int 0, .ref a2, .ref a3, .int 0, .ref a4, .int 63])), (a2, .inl (ac2, 4, .inl af)), (g0, .inr (7, [.ref m_now, .ref m_kept, .ref m_pictures, .ref m_keptPictures, .int 0, .ref m_found, .int 0, .ref m_row, .ref m_bestRow, .int 0, .ref m_tape, .int 0, .int 0, .int 0, .int 0, .int 0, .int 0, .ref m_kinds, .ref m_items, .ref m_itemPictures, .int 0, .int 0, .int 0, .int 0, .ref m_widths, .ref m_sizes, .ref m_numbers, .ref m_moved])), (m_now, .inl (mc_now, 38, .inl m_nf))]) (hl : lv_has ls 4 [(3, .int 0), (2, .ref g0), (1, .ref h0), (0, .ref b)]) : W p l e room_1 s m #[Value.ref b] below meth c H locs 52 1794 (lw_Z below #[Value.ref b] s) (F0 m 627 ls []) := by
  obtain ⟨hx, hb, hr, hml, hown, hts, hX, hbl, hlocks, hA, hA2, hbA, hev, hsf⟩ := id LC
  refine lv_aload_n hx hb dL_law_627 rfl (lv_at hl 2 rfl) ?_
  have hPc := hP.sub (ws' := [(h0, .inr (6, [.ref ah, .ref bh, .ref sh, .ref rh, .ref ch, .ref ph, .ref th, .int 0])), (ah, .inr (4, [.int 0, .ref a0, .ref a1, .int 0, .ref a2, .ref a3, .int 0, .ref a4, .int 63])), (a2, .inl (ac2, 4, .inl af))]) [0, 1, 2] rfl
  have hKc := hK.sub (tys' := [(ac2, .int)]) [0] rfl
  refine vp_callSl (W.runV (As := []) (rest := []) ⟨hx, hb, hml, hown, hts⟩ (x_dark l dC dI ad h0 ah (.ref bh) (.ref sh) (.ref rh) (.ref ch) (.ref ph) (.ref th) (.int 0) (.ref a0) (.ref a1) (.int 0) a2 (.ref a3) (.int 0) (.ref a4) (.int 63) ac2 af hq0) (cwV 0 hts g_law_x_dark_65 rfl rfl rfl (by decide +kernel) ⟨(Nat.le_of_ble_eq_true rfl), (Nat.le_of_ble_eq_true rfl)⟩) ⟨preS_blind, va_recv hKc hPc (ci := 6) (q0 := 0) rfl rfl, fun U hU hW => ⟨rfl, preS_at hU hW hPc hKc hev⟩⟩ rfl rfl hl.1 rfl (lv_room (Nat.le_of_ble_eq_true rfl)) dL_law_628 ⟨(Nat.le_of_ble_eq_true rfl), (Nat.le_of_ble_eq_true rfl)⟩) (fun r_1 hw => ?_)
  subst hw
  refine lv_aload_n hx hb dL_law_631 rfl (lv_at hl 1 rfl) ?_
  have hPc := hP.sub (ws' := [(g0, .inr (7, [.ref m_now, .ref m_kept, .ref m_pictures, .ref m_keptPictures, .int 0, .ref m_found, .int 0, .ref m_row, .ref m_bestRow, .int 0, .ref m_tape, .int 0, .int 0, .int 0, .int 0, .int 0, .int 0, .ref m_kinds, .ref m_items, .ref m_itemPictures, .int 0, .int 0, .int 0, .int 0, .ref m_widths, .ref m_sizes, .ref m_numbers, .ref m_moved])), (m_now, .inl (mc_now, 38, .inl m_nf))]) [3, 4] rfl
  have hKc := hK.sub (tys' := [(mc_now, .int)]) [1] rfl
  refine vp_callSl (W.runV (As := []) (rest := [.long 0]) ⟨hx, hb, hml, hown, hts⟩ (y_dark l dC dI ad g0 m_now (.ref m_kept) (.ref m_pictures) (.ref m_keptPictures) (.int 0) (.ref m_found) (.int 0) (.ref m_row) (.ref m_bestRow) (.int 0) (.ref m_tape) (.int 0) (.int 0) (.int 0) (.int 0) (.int 0) (.int 0) (.ref m_kinds) (.ref m_items) (.ref m_itemPictures) (.int 0) (.int 0) (.int 0) (.int 0) (.ref m_widths) (.ref m_sizes) (.ref m_numbers) (.ref m_moved) mc_now m_nf hq10) (cwV 0 hts g_law_y_dark_69 rfl rfl rfl (by decide +kernel) ⟨(Nat.le_of_ble_eq_true rfl), (Nat.le_of_ble_eq_true rfl)⟩) ⟨preS_blind, va_recv hKc hPc (ci := 7) (q0 := 0) rfl rfl, fun U hU hW => ⟨rfl, preS_at hU hW hPc hKc hev⟩⟩ rfl rfl hl.1 rfl (lv_room (Nat.le_of_ble_eq_true rfl)) dL_law_632 ⟨(Nat.le_of_ble_eq_true rfl), (Nat.le_of_ble_eq_true rfl)⟩) (fun r_2 hw => ?_)
  subst hw
  refine W.lcmp hx hb dL_law_635 ?_
  refine pp_ti (y := 0) (by decide) ?_
  refine lv_if_eq (tgt := 1457) hx hb dL_law_636 (by decide) (fun _ => ?_) (fun c => absurd (by decide) c)
  exact law_tail LC hS (lv_sub hl [0, 3] rfl)

set_option maxHeartbeats 4000000 in
set_option maxRecDepth 100000 in
/-- one call of single on two new objects -/
theorem law_13 {p : Program} {l : Launch} {e : Env} {s : State} {m : MethodId} {below : List Frame} {meth : Method} {c : Code} {b : Nat} {xs : Nat → Int32} {A : Nat → Prop} {dC : Nat → ClassId} {dI : Nat → Nat → Nat} {ad : Nat → Nat} {H : Heap} {locs : List Loc} {ls : Array Slot} {h0 g0 : Nat} {ah : Nat} {bh : Nat} {sh : Nat} {rh : Nat} {ch : Nat} {ph : Nat} {th : Nat} {a0 : Nat} {a1 : Nat} {a2 : Nat} {a3 : Nat} {a4 : Nat} {ac2 : ClassId} {af : Nat → Int32} {m_now : Nat} {m_kept : Nat} {m_pictures : Nat} {m_keptPictures : Nat} {m_found : Nat} {m_row : Nat} {m_bestRow : Nat} {m_tape : Nat} {m_kinds : Nat} {m_items : Nat} {m_itemPictures : Nat} {m_widths : Nat} {m_sizes : Nat} {m_numbers : Nat} {m_moved : Nat} {mc_now : ClassId} {m_nf : Nat → Int32} (LC : lawC p s m meth c b xs A ad) (hS : va_S A s.heap H locs) (hq0 : ∀ j, j < 4 → af j = (-1)) (hq10 : ∀ j, j < 38 → m_nf j = fr_n j) (hP : va_P (dC, dI) vwCl [(h0, .inr (6, [.ref ah, .ref bh, .ref sh, .ref rh, .ref ch, .ref ph, .ref th, .int 0])), (ah, .inr (4, [.int 0, .ref a0, .ref a1, .int 0, .ref a2, .ref a3, .int 0, .ref a4, .int 63])), (a2, .inl (ac2, 4, .inl af)), (g0, .inr (7, [.ref m_now, .ref m_kept, .ref m_pictures, .ref m_keptPictures, .int 0, .ref m_found, .int 0, .ref m_row, .ref m_bestRow, .int 0, .ref m_tape, .int 0, .int 0, .int 0, .int 0, .int 0, .int 0, .ref m_kinds, .ref m_items, .ref m_itemPictures, .int 0, .int 0, .int 0, .int 0, .ref m_widths, .ref m_sizes, .ref m_numbers, .ref m_moved])), (m_now, .inl (mc_now, 38, .inl m_nf))] H) (hK : va_K (dC, dI) vwCl [(ac2, .int), (mc_now, .int)] s) (hD : va_D A [(h0, .inr (6, [.ref ah, .ref bh, .ref sh, .ref rh, .ref ch, .ref ph, .ref th, .int 0])), (ah, .inr (4, [.int 0, .ref a0, .ref a1, .int 0, .ref a2, .ref a3, .int 0, .ref a4, .int 63])), (a2, .inl (ac2, 4, .inl af)), (g0, .inr (7, [.ref m_now, .ref m_kept, .ref m_pictures, .ref m_keptPictures, .int 0, .ref m_found, .int 0, .ref m_row, .ref m_bestRow, .int 0, .ref m_tape, .int 0, .int 0, .int 0, .int 0, .int 0, .int 0, .ref m_kinds, .ref m_items, .ref m_itemPictures, .int 0, .int 0, .int 0, .int 0, .ref m_widths, .ref m_sizes, .ref m_numbers, .ref m_moved])), (m_now, .inl (mc_now, 38, .inl m_nf))]) (hl : lv_has ls 4 [(3, .int 0), (2, .ref g0), (1, .ref h0), (0, .ref b)]) : W p l e room_1 s m #[Value.ref b] below meth c H locs 52 1794 (lw_Z below #[Value.ref b] s) (F0 m 641 ls []) := by
  obtain ⟨hx, hb, hr, hml, hown, hts, hX, hbl, hlocks, hA, hA2, hbA, hev, hsf⟩ := id LC
  refine lv_aload_n hx hb dL_law_641 rfl (lv_at hl 2 rfl) ?_
  have hPc := hP.sub (ws' := [(h0, .inr (6, [.ref ah, .ref bh, .ref sh, .ref rh, .ref ch, .ref ph, .ref th, .int 0])), (ah, .inr (4, [.int 0, .ref a0, .ref a1, .int 0, .ref a2, .ref a3, .int 0, .ref a4, .int 63])), (a2, .inl (ac2, 4, .inl af))]) [0, 1, 2] rfl
  have hKc := hK.sub (tys' := [(ac2, .int)]) [0] rfl
  refine vp_callSl (W.runV (As := []) (rest := []) ⟨hx, hb, hml, hown, hts⟩ (x_single l dC dI ad h0 ah (.ref bh) (.ref sh) (.ref rh) (.ref ch) (.ref ph) (.ref th) (.int 0) (.ref a0) (.ref a1) (.int 0) a2 (.ref a3) (.int 0) (.ref a4) (.int 63) ac2 af hq0) (cwV 0 hts g_law_x_single_70 rfl rfl rfl (by decide +kernel) ⟨(Nat.le_of_ble_eq_true rfl), (Nat.le_of_ble_eq_true rfl)⟩) ⟨preS_blind, va_recv hKc hPc (ci := 6) (q0 := 0) rfl rfl, fun U hU hW => ⟨rfl, preS_at hU hW hPc hKc hev⟩⟩ rfl rfl hl.1 rfl (lv_room (Nat.le_of_ble_eq_true rfl)) dL_law_642 ⟨(Nat.le_of_ble_eq_true rfl), (Nat.le_of_ble_eq_true rfl)⟩) (fun r_1 hw => ?_)
  subst hw
  refine lv_aload_n hx hb dL_law_645 rfl (lv_at hl 1 rfl) ?_
  have hPc := hP.sub (ws' := [(g0, .inr (7, [.ref m_now, .ref m_kept, .ref m_pictures, .ref m_keptPictures, .int 0, .ref m_found, .int 0, .ref m_row, .ref m_bestRow, .int 0, .ref m_tape, .int 0, .int 0, .int 0, .int 0, .int 0, .int 0, .ref m_kinds, .ref m_items, .ref m_itemPictures, .int 0, .int 0, .int 0, .int 0, .ref m_widths, .ref m_sizes, .ref m_numbers, .ref m_moved])), (m_now, .inl (mc_now, 38, .inl m_nf))]) [3, 4] rfl
  have hKc := hK.sub (tys' := [(mc_now, .int)]) [1] rfl
  refine vp_callSl (W.runV (As := []) (rest := [.long 0]) ⟨hx, hb, hml, hown, hts⟩ (y_single l dC dI ad g0 m_now (.ref m_kept) (.ref m_pictures) (.ref m_keptPictures) (.int 0) (.ref m_found) (.int 0) (.ref m_row) (.ref m_bestRow) (.int 0) (.ref m_tape) (.int 0) (.int 0) (.int 0) (.int 0) (.int 0) (.int 0) (.ref m_kinds) (.ref m_items) (.ref m_itemPictures) (.int 0) (.int 0) (.int 0) (.int 0) (.ref m_widths) (.ref m_sizes) (.ref m_numbers) (.ref m_moved) mc_now m_nf hq10) (cwV 0 hts g_law_y_single_73 rfl rfl rfl (by decide +kernel) ⟨(Nat.le_of_ble_eq_true rfl), (Nat.le_of_ble_eq_true rfl)⟩) ⟨preS_blind, va_recv hKc hPc (ci := 7) (q0 := 0) rfl rfl, fun U hU hW => ⟨rfl, preS_at hU hW hPc hKc hev⟩⟩ rfl rfl hl.1 rfl (lv_room (Nat.le_of_ble_eq_true rfl)) dL_law_646 ⟨(Nat.le_of_ble_eq_true rfl), (Nat.le_of_ble_eq_true rfl)⟩) (fun r_2 hw => ?_)
  subst hw
  refine W.lcmp hx hb dL_law_649 ?_
  refine pp_ti (y := 0) (by decide) ?_
  refine lv_if_eq (tgt := 1457) hx hb dL_law_650 (by decide) (fun _ => ?_) (fun c => absurd (by decide) c)
  exact law_tail LC hS (lv_sub hl [0, 3] rfl)

set_option maxHeartbeats 4000000 in
set_option maxRecDepth 100000 in
/-- one call of spare on two new objects -/
theorem law_14 {p : Program} {l : Launch} {e : Env} {s : State} {m : MethodId} {below : List Frame} {meth : Method} {c : Code} {b : Nat} {xs : Nat → Int32} {A : Nat → Prop} {dC : Nat → ClassId} {dI : Nat → Nat → Nat} {ad : Nat → Nat} {H : Heap} {locs : List Loc} {ls : Array Slot} {h0 g0 : Nat} {ah : Nat} {bh : Nat} {sh : Nat} {rh : Nat} {ch : Nat} {ph : Nat} {th : Nat} {a0 : Nat} {a1 : Nat} {a2 : Nat} {a3 : Nat} {a4 : Nat} {ac2 : ClassId} {af : Nat → Int32} {tc : ClassId} {m_now : Nat} {m_kept : Nat} {m_pictures : Nat} {m_keptPictures : Nat} {m_found : Nat} {m_row : Nat} {m_bestRow : Nat} {m_tape : Nat} {m_kinds : Nat} {m_items : Nat} {m_itemPictures : Nat} {m_widths : Nat} {m_sizes : Nat} {m_numbers : Nat} {m_moved : Nat} {mc_now : ClassId} {m_nf : Nat → Int32} {mc_found : ClassId} (LC : lawC p s m meth c b xs A ad) (hS : va_S A s.heap H locs) (hq0 : ∀ j, j < 4 → af j = (-1)) (hq10 : ∀ j, j < 38 → m_nf j = fr_n j) (hP : va_P (dC, dI) vwCl [(h0, .inr (6, [.ref ah, .ref bh, .ref sh, .ref rh, .ref ch, .ref ph, .ref th, .int 0])), (ah, .inr (4, [.int 0, .ref a0, .ref a1, .int 0, .ref a2, .ref a3, .int 0, .ref a4, .int 63])), (a2, .inl (ac2, 4, .inl af)), (th, .inl (tc, 7, .inl (fun _ => 0))), (g0, .inr (7, [.ref m_now, .ref m_kept, .ref m_pictures, .ref m_keptPictures, .int 0, .ref m_found, .int 0, .ref m_row, .ref m_bestRow, .int 0, .ref m_tape, .int 0, .int 0, .int 0, .int 0, .int 0, .int 0, .ref m_kinds, .ref m_items, .ref m_itemPictures, .int 0, .int 0, .int 0, .int 0, .ref m_widths, .ref m_sizes, .ref m_numbers, .ref m_moved])), (m_now, .inl (mc_now, 38, .inl m_nf)), (m_found, .inl (mc_found, 8, .inl (fun _ => 0)))] H) (hK : va_K (dC, dI) vwCl [(ac2, .int), (tc, .int), (mc_now, .int), (mc_found, .int)] s) (hD : va_D A [(h0, .inr (6, [.ref ah, .ref bh, .ref sh, .ref rh, .ref ch, .ref ph, .ref th, .int 0])), (ah, .inr (4, [.int 0, .ref a0, .ref a1, .int 0, .ref a2, .ref a3, .int 0, .ref a4, .int 63])), (a2, .inl (ac2, 4, .inl af)), (th, .inl (tc, 7, .inl (fun _ => 0))), (g0, .inr (7, [.ref m_now, .ref m_kept, .ref m_pictures, .ref m_keptPictures, .int 0, .ref m_found, .int 0, .ref m_row, .ref m_bestRow, .int 0, .ref m_tape, .int 0, .int 0, .int 0, .int 0, .int 0, .int 0, .ref m_kinds, .ref m_items, .ref m_itemPictures, .int 0, .int 0, .int 0, .int 0, .ref m_widths, .ref m_sizes, .ref m_numbers, .ref m_moved])), (m_now, .inl (mc_now, 38, .inl m_nf)), (m_found, .inl (mc_found, 8, .inl (fun _ => 0)))]) (hl : lv_has ls 4 [(3, .int 0), (2, .ref g0), (1, .ref h0), (0, .ref b)]) : W p l e room_1 s m #[Value.ref b] below meth c H locs 52 1794 (lw_Z below #[Value.ref b] s) (F0 m 655 ls []) := by
  obtain ⟨hx, hb, hr, hml, hown, hts, hX, hbl, hlocks, hA, hA2, hbA, hev, hsf⟩ := id LC
  refine lv_aload_n hx hb dL_law_655 rfl (lv_at hl 2 rfl) ?_
  have hPc := hP.sub (ws' := [(h0, .inr (6, [.ref ah, .ref bh, .ref sh, .ref rh, .ref ch, .ref ph, .ref th, .int 0])), (ah, .inr (4, [.int 0, .ref a0, .ref a1, .int 0, .ref a2, .ref a3, .int 0, .ref a4, .int 63])), (a2, .inl (ac2, 4, .inl af)), (th, .inl (tc, 7, .inl (fun _ => 0)))]) [0, 1, 2, 3] rfl
  have hKc := hK.sub (tys' := [(ac2, .int), (tc, .int)]) [0, 1] rfl
  have hDc := hD.sub (ws' := [(h0, .inr (6, [.ref ah, .ref bh, .ref sh, .ref rh, .ref ch, .ref ph, .ref th, .int 0])), (ah, .inr (4, [.int 0, .ref a0, .ref a1, .int 0, .ref a2, .ref a3, .int 0, .ref a4, .int 63])), (a2, .inl (ac2, 4, .inl af)), (th, .inl (tc, 7, .inl (fun _ => 0)))]) [0, 1, 2, 3] (by decide) rfl
  have hFc := va_free (wc := [(h0, .inr (6, [.ref ah, .ref bh, .ref sh, .ref rh, .ref ch, .ref ph, .ref th, .int 0])), (ah, .inr (4, [.int 0, .ref a0, .ref a1, .int 0, .ref a2, .ref a3, .int 0, .ref a4, .int 63])), (a2, .inl (ac2, 4, .inl af)), (th, .inl (tc, 7, .inl (fun _ => 0)))]) hD hS hA [0, 1, 2, 3] rfl
  refine va_calli (va_runV (As := []) (rest := []) ⟨hx, hb, hml, hown, hts⟩ (x_spare l dC dI ad h0 ah (.ref bh) (.ref sh) (.ref rh) (.ref ch) (.ref ph) th (.int 0) (.ref a0) (.ref a1) (.int 0) a2 (.ref a3) (.int 0) (.ref a4) (.int 63) ac2 af tc (fun _ => 0) H.size hq0) (cwV 0 hts g_law_x_spare_74 rfl rfl rfl (by decide +kernel) ⟨(Nat.le_of_ble_eq_true rfl), (Nat.le_of_ble_eq_true rfl)⟩) ⟨preM_blind, va_recv hKc hPc (ci := 6) (q0 := 0) rfl rfl, fun U hU hW => ⟨rfl, preM_at hU hW hPc hKc hDc hev⟩⟩ rfl rfl hl.1 rfl (lv_room (Nat.le_of_ble_eq_true rfl)) dL_law_656 ⟨(Nat.le_of_ble_eq_true rfl), (Nat.le_of_ble_eq_true rfl)⟩) hS (fun q _ h => hFc q h) hFc (fun r_1 u t H1 locs ht hvm hw hB hz1 hk1 hS => ?_)
  obtain ⟨hP, hD⟩ := va_join (wr := [(g0, .inr (7, [.ref m_now, .ref m_kept, .ref m_pictures, .ref m_keptPictures, .int 0, .ref m_found, .int 0, .ref m_row, .ref m_bestRow, .int 0, .ref m_tape, .int 0, .int 0, .int 0, .int 0, .int 0, .int 0, .ref m_kinds, .ref m_items, .ref m_itemPictures, .int 0, .int 0, .int 0, .int 0, .ref m_widths, .ref m_sizes, .ref m_numbers, .ref m_moved])), (m_now, .inl (mc_now, 38, .inl m_nf)), (m_found, .inl (mc_found, 8, .inl (fun _ => 0)))]) (w1 := []) hP hD [0, 1, 2, 3] [4, 5, 6] rfl rfl (by decide) (by decide) hk1 hFc nil_P nil_D
  generalize H1 = H at hP hS ⊢
  have hP : va_P (dC, dI) vwCl [(g0, .inr (7, [.ref m_now, .ref m_kept, .ref m_pictures, .ref m_keptPictures, .int 0, .ref m_found, .int 0, .ref m_row, .ref m_bestRow, .int 0, .ref m_tape, .int 0, .int 0, .int 0, .int 0, .int 0, .int 0, .ref m_kinds, .ref m_items, .ref m_itemPictures, .int 0, .int 0, .int 0, .int 0, .ref m_widths, .ref m_sizes, .ref m_numbers, .ref m_moved])), (m_now, .inl (mc_now, 38, .inl m_nf)), (m_found, .inl (mc_found, 8, .inl (fun _ => 0)))] H := hP
  have hD : va_D A [(g0, .inr (7, [.ref m_now, .ref m_kept, .ref m_pictures, .ref m_keptPictures, .int 0, .ref m_found, .int 0, .ref m_row, .ref m_bestRow, .int 0, .ref m_tape, .int 0, .int 0, .int 0, .int 0, .int 0, .int 0, .ref m_kinds, .ref m_items, .ref m_itemPictures, .int 0, .int 0, .int 0, .int 0, .ref m_widths, .ref m_sizes, .ref m_numbers, .ref m_moved])), (m_now, .inl (mc_now, 38, .inl m_nf)), (m_found, .inl (mc_found, 8, .inl (fun _ => 0)))] := hD
  subst hw
  refine lv_aload_n hx hb dL_law_659 rfl (lv_at hl 1 rfl) ?_
  have hPc := hP.sub (ws' := [(g0, .inr (7, [.ref m_now, .ref m_kept, .ref m_pictures, .ref m_keptPictures, .int 0, .ref m_found, .int 0, .ref m_row, .ref m_bestRow, .int 0, .ref m_tape, .int 0, .int 0, .int 0, .int 0, .int 0, .int 0, .ref m_kinds, .ref m_items, .ref m_itemPictures, .int 0, .int 0, .int 0, .int 0, .ref m_widths, .ref m_sizes, .ref m_numbers, .ref m_moved])), (m_now, .inl (mc_now, 38, .inl m_nf)), (m_found, .inl (mc_found, 8, .inl (fun _ => 0)))]) [0, 1, 2] rfl
  have hKc := hK.sub (tys' := [(mc_now, .int), (mc_found, .int)]) [2, 3] rfl
  have hDc := hD.sub (ws' := [(g0, .inr (7, [.ref m_now, .ref m_kept, .ref m_pictures, .ref m_keptPictures, .int 0, .ref m_found, .int 0, .ref m_row, .ref m_bestRow, .int 0, .ref m_tape, .int 0, .int 0, .int 0, .int 0, .int 0, .int 0, .ref m_kinds, .ref m_items, .ref m_itemPictures, .int 0, .int 0, .int 0, .int 0, .ref m_widths, .ref m_sizes, .ref m_numbers, .ref m_moved])), (m_now, .inl (mc_now, 38, .inl m_nf)), (m_found, .inl (mc_found, 8, .inl (fun _ => 0)))]) [0, 1, 2] (by decide) rfl
  have hFc := va_free (wc := [(g0, .inr (7, [.ref m_now, .ref m_kept, .ref m_pictures, .ref m_keptPictures, .int 0, .ref m_found, .int 0, .ref m_row, .ref m_bestRow, .int 0, .ref m_tape, .int 0, .int 0, .int 0, .int 0, .int 0, .int 0, .ref m_kinds, .ref m_items, .ref m_itemPictures, .int 0, .int 0, .int 0, .int 0, .ref m_widths, .ref m_sizes, .ref m_numbers, .ref m_moved])), (m_now, .inl (mc_now, 38, .inl m_nf)), (m_found, .inl (mc_found, 8, .inl (fun _ => 0)))]) hD hS hA [0, 1, 2] rfl
  refine va_calli (va_runV (As := []) (rest := [.int (-1000000004)]) ⟨hx, hb, hml, hown, hts⟩ (y_spare l dC dI ad g0 m_now (.ref m_kept) (.ref m_pictures) (.ref m_keptPictures) (.int 0) m_found (.int 0) (.ref m_row) (.ref m_bestRow) (.int 0) (.ref m_tape) (.int 0) (.int 0) (.int 0) (.int 0) (.int 0) (.int 0) (.ref m_kinds) (.ref m_items) (.ref m_itemPictures) (.int 0) (.int 0) (.int 0) (.int 0) (.ref m_widths) (.ref m_sizes) (.ref m_numbers) (.ref m_moved) mc_now m_nf mc_found (fun _ => 0) H.size hq10) (cwV 0 hts g_law_y_spare_78 rfl rfl rfl (by decide +kernel) ⟨(Nat.le_of_ble_eq_true rfl), (Nat.le_of_ble_eq_true rfl)⟩) ⟨preM_blind, va_recv hKc hPc (ci := 7) (q0 := 0) rfl rfl, fun U hU hW => ⟨rfl, preM_at hU hW hPc hKc hDc hev⟩⟩ rfl rfl hl.1 rfl (lv_room (Nat.le_of_ble_eq_true rfl)) dL_law_660 ⟨(Nat.le_of_ble_eq_true rfl), (Nat.le_of_ble_eq_true rfl)⟩) hS (fun q _ h => hFc q h) hFc (fun r_2 u t H1 locs ht hvm hw hB hz1 hk1 hS => ?_)
  obtain ⟨hP, hD⟩ := va_join (wr := []) (w1 := []) hP hD [0, 1, 2] [] rfl rfl (by decide) (by decide) hk1 hFc nil_P nil_D
  generalize H1 = H at hP hS ⊢
  have hP : va_P (dC, dI) vwCl [] H := hP
  have hD : va_D A [] := hD
  subst hw
  refine lv_icmp_eq (tgt := 1457) hx hb dL_law_663 (by decide) (fun _ => ?_) (fun c => absurd (by decide) c)
  exact law_tail LC hS (lv_sub hl [0, 3] rfl)

set_option maxHeartbeats 4000000 in
set_option maxRecDepth 100000 in
/-- one call of scene on two new objects -/
theorem law_15 {p : Program} {l : Launch} {e : Env} {s : State} {m : MethodId} {below : List Frame} {meth : Method} {c : Code} {b : Nat} {xs : Nat → Int32} {A : Nat → Prop} {dC : Nat → ClassId} {dI : Nat → Nat → Nat} {ad : Nat → Nat} {H : Heap} {locs : List Loc} {ls : Array Slot} {h0 g0 : Nat} {ah : Nat} {bh : Nat} {sh : Nat} {rh : Nat} {ch : Nat} {ph : Nat} {th : Nat} {a0 : Nat} {a1 : Nat} {a2 : Nat} {a3 : Nat} {a4 : Nat} {ac4 : ClassId} {m_now : Nat} {m_kept : Nat} {m_pictures : Nat} {m_keptPictures : Nat} {m_found : Nat} {m_row : Nat} {m_bestRow : Nat} {m_tape : Nat} {m_kinds : Nat} {m_items : Nat} {m_itemPictures : Nat} {m_widths : Nat} {m_sizes : Nat} {m_numbers : Nat} {m_moved : Nat} {mc_now : ClassId} {m_nf : Nat → Int32} {mc_pictures : ClassId} (LC : lawC p s m meth c b xs A ad) (hS : va_S A s.heap H locs) (hq10 : ∀ j, j < 38 → m_nf j = fr_n j) (hP : va_P (dC, dI) vwCl [(h0, .inr (6, [.ref ah, .ref bh, .ref sh, .ref rh, .ref ch, .ref ph, .ref th, .int 0])), (ah, .inr (4, [.int 0, .ref a0, .ref a1, .int 0, .ref a2, .ref a3, .int 0, .ref a4, .int 63])), (a4, .inl (ac4, 7, .inr (.inl (fun _ => 0)))), (g0, .inr (7, [.ref m_now, .ref m_kept, .ref m_pictures, .ref m_keptPictures, .int 0, .ref m_found, .int 0, .ref m_row, .ref m_bestRow, .int 0, .ref m_tape, .int 0, .int 0, .int 0, .int 0, .int 0, .int 0, .ref m_kinds, .ref m_items, .ref m_itemPictures, .int 0, .int 0, .int 0, .int 0, .ref m_widths, .ref m_sizes, .ref m_numbers, .ref m_moved])), (m_now, .inl (mc_now, 38, .inl m_nf)), (m_pictures, .inl (mc_pictures, 7, .inr (.inl (fun _ => 0))))] H) (hK : va_K (dC, dI) vwCl [(ac4, .long), (mc_now, .int), (mc_pictures, .long)] s) (hD : va_D A [(h0, .inr (6, [.ref ah, .ref bh, .ref sh, .ref rh, .ref ch, .ref ph, .ref th, .int 0])), (ah, .inr (4, [.int 0, .ref a0, .ref a1, .int 0, .ref a2, .ref a3, .int 0, .ref a4, .int 63])), (a4, .inl (ac4, 7, .inr (.inl (fun _ => 0)))), (g0, .inr (7, [.ref m_now, .ref m_kept, .ref m_pictures, .ref m_keptPictures, .int 0, .ref m_found, .int 0, .ref m_row, .ref m_bestRow, .int 0, .ref m_tape, .int 0, .int 0, .int 0, .int 0, .int 0, .int 0, .ref m_kinds, .ref m_items, .ref m_itemPictures, .int 0, .int 0, .int 0, .int 0, .ref m_widths, .ref m_sizes, .ref m_numbers, .ref m_moved])), (m_now, .inl (mc_now, 38, .inl m_nf)), (m_pictures, .inl (mc_pictures, 7, .inr (.inl (fun _ => 0))))]) (hl : lv_has ls 4 [(3, .int 0), (2, .ref g0), (1, .ref h0), (0, .ref b)]) : W p l e room_1 s m #[Value.ref b] below meth c H locs 52 1794 (lw_Z below #[Value.ref b] s) (F0 m 668 ls []) := by
  obtain ⟨hx, hb, hr, hml, hown, hts, hX, hbl, hlocks, hA, hA2, hbA, hev, hsf⟩ := id LC
  refine lv_aload_n hx hb dL_law_668 rfl (lv_at hl 2 rfl) ?_
  refine lv_aload_n hx hb dL_law_669 rfl (lv_at hl 3 rfl) ?_
  refine lv_iload_n hx hb dL_law_670 rfl (lv_at hl 0 rfl) ?_
  refine lv_iconst (v := 1) hx hb dL_law_671 (by decide) ?_
  refine lv_iadd hx hb dL_law_672 ?_
  refine pp_ti (y := 1) (by decide) ?_
  refine va_sld hx hb hX hbl hbA hS (vp_in_nI (n := 1) (by decide) (by decide)) dL_law_673 ?_
  refine pp_ti (y := xs 1) rfl ?_
  refine lv_i2l (v := (xs 1).toInt64) hx hb dL_law_674 rfl ?_
  refine lv_bipush (v := 32) hx hb dL_law_675 (by decide) ?_
  refine lv_lshl (v := ((xs 1).toInt64) <<< ((32 : Int32).toInt64 &&& 63)) hx hb dL_law_677 rfl ?_
  refine lv_aload_n hx hb dL_law_678 rfl (lv_at hl 3 rfl) ?_
  refine lv_iload_n hx hb dL_law_679 rfl (lv_at hl 0 rfl) ?_
  refine lv_iconst (v := 2) hx hb dL_law_680 (by decide) ?_
  refine lv_iadd hx hb dL_law_681 ?_
  refine pp_ti (y := 2) (by decide) ?_
  refine va_sld hx hb hX hbl hbA hS (vp_in_nI (n := 2) (by decide) (by decide)) dL_law_682 ?_
  refine pp_ti (y := xs 2) rfl ?_
  refine lv_i2l (v := (xs 2).toInt64) hx hb dL_law_683 rfl ?_
  refine lv_ldc2 hx hb hown (hts _ (List.mem_of_getElem? (i := 201) rfl)) dL_law_684 ?_
  refine lv_land hx hb dL_law_687 ?_
  refine lv_lor hx hb dL_law_688 ?_
  have hPc := hP.sub (ws' := [(h0, .inr (6, [.ref ah, .ref bh, .ref sh, .ref rh, .ref ch, .ref ph, .ref th, .int 0])), (ah, .inr (4, [.int 0, .ref a0, .ref a1, .int 0, .ref a2, .ref a3, .int 0, .ref a4, .int 63])), (a4, .inl (ac4, 7, .inr (.inl (fun _ => 0))))]) [0, 1, 2] rfl
  have hKc := hK.sub (tys' := [(ac4, .long)]) [0] rfl
  have hDc := hD.sub (ws' := [(h0, .inr (6, [.ref ah, .ref bh, .ref sh, .ref rh, .ref ch, .ref ph, .ref th, .int 0])), (ah, .inr (4, [.int 0, .ref a0, .ref a1, .int 0, .ref a2, .ref a3, .int 0, .ref a4, .int 63])), (a4, .inl (ac4, 7, .inr (.inl (fun _ => 0))))]) [0, 1, 2] (by decide) rfl
  have hFc := va_free (wc := [(h0, .inr (6, [.ref ah, .ref bh, .ref sh, .ref rh, .ref ch, .ref ph, .ref th, .int 0])), (ah, .inr (4, [.int 0, .ref a0, .ref a1, .int 0, .ref a2, .ref a3, .int 0, .ref a4, .int 63])), (a4, .inl (ac4, 7, .inr (.inl (fun _ => 0))))]) hD hS hA [0, 1, 2] rfl
  refine va_calli (va_runV (As := [.long ((((xs 1).toInt64) <<< ((32 : Int32).toInt64 &&& 63)) ||| (((xs 2).toInt64) &&& 4294967295))]) (rest := []) ⟨hx, hb, hml, hown, hts⟩ (x_scene l dC dI ad h0 ((((xs 1).toInt64) <<< ((32 : Int32).toInt64 &&& 63)) ||| (((xs 2).toInt64) &&& 4294967295)) ah (.ref bh) (.ref sh) (.ref rh) (.ref ch) (.ref ph) (.ref th) (.int 0) (.int 0) (.ref a0) (.ref a1) (.int 0) (.ref a2) (.ref a3) a4 (.int 63) ac4 (fun _ => 0) H.size ) (cwV 1 hts g_law_x_scene_81 rfl rfl rfl (by decide +kernel) ⟨(Nat.le_of_ble_eq_true rfl), (Nat.le_of_ble_eq_true rfl)⟩) ⟨preM_blind, va_recv hKc hPc (ci := 6) (q0 := 0) rfl rfl, fun U hU hW => ⟨rfl, preM_at hU hW hPc hKc hDc hev⟩⟩ rfl rfl hl.1 rfl (lv_room (Nat.le_of_ble_eq_true rfl)) dL_law_689 ⟨(Nat.le_of_ble_eq_true rfl), (Nat.le_of_ble_eq_true rfl)⟩) hS (fun q _ h => hFc q h) hFc (fun r_1 u t H1 locs ht hvm hw hB hz1 hk1 hS => ?_)
  obtain ⟨hP, hD⟩ := va_join (wr := [(g0, .inr (7, [.ref m_now, .ref m_kept, .ref m_pictures, .ref m_keptPictures, .int 0, .ref m_found, .int 0, .ref m_row, .ref m_bestRow, .int 0, .ref m_tape, .int 0, .int 0, .int 0, .int 0, .int 0, .int 0, .ref m_kinds, .ref m_items, .ref m_itemPictures, .int 0, .int 0, .int 0, .int 0, .ref m_widths, .ref m_sizes, .ref m_numbers, .ref m_moved])), (m_now, .inl (mc_now, 38, .inl m_nf)), (m_pictures, .inl (mc_pictures, 7, .inr (.inl (fun _ => 0))))]) (w1 := []) hP hD [0, 1, 2] [3, 4, 5] rfl rfl (by decide) (by decide) hk1 hFc nil_P nil_D
  generalize H1 = H at hP hS ⊢
  have hP : va_P (dC, dI) vwCl [(g0, .inr (7, [.ref m_now, .ref m_kept, .ref m_pictures, .ref m_keptPictures, .int 0, .ref m_found, .int 0, .ref m_row, .ref m_bestRow, .int 0, .ref m_tape, .int 0, .int 0, .int 0, .int 0, .int 0, .int 0, .ref m_kinds, .ref m_items, .ref m_itemPictures, .int 0, .int 0, .int 0, .int 0, .ref m_widths, .ref m_sizes, .ref m_numbers, .ref m_moved])), (m_now, .inl (mc_now, 38, .inl m_nf)), (m_pictures, .inl (mc_pictures, 7, .inr (.inl (fun _ => 0))))] H := hP
  have hD : va_D A [(g0, .inr (7, [.ref m_now, .ref m_kept, .ref m_pictures, .ref m_keptPictures, .int 0, .ref m_found, .int 0, .ref m_row, .ref m_bestRow, .int 0, .ref m_tape, .int 0, .int 0, .int 0, .int 0, .int 0, .int 0, .ref m_kinds, .ref m_items, .ref m_itemPictures, .int 0, .int 0, .int 0, .int 0, .ref m_widths, .ref m_sizes, .ref m_numbers, .ref m_moved])), (m_now, .inl (mc_now, 38, .inl m_nf)), (m_pictures, .inl (mc_pictures, 7, .inr (.inl (fun _ => 0))))] := hD
  subst hw
  refine lv_aload_n hx hb dL_law_692 rfl (lv_at hl 1 rfl) ?_
  refine lv_aload_n hx hb dL_law_693 rfl (lv_at hl 3 rfl) ?_
  refine lv_iload_n hx hb dL_law_694 rfl (lv_at hl 0 rfl) ?_
  refine lv_iconst (v := 1) hx hb dL_law_695 (by decide) ?_
  refine lv_iadd hx hb dL_law_696 ?_
  refine pp_ti (y := 1) (by decide) ?_
  refine va_sld hx hb hX hbl hbA hS (vp_in_nI (n := 1) (by decide) (by decide)) dL_law_697 ?_
  refine pp_ti (y := xs 1) rfl ?_
  refine lv_i2l (v := (xs 1).toInt64) hx hb dL_law_698 rfl ?_
  refine lv_bipush (v := 32) hx hb dL_law_699 (by decide) ?_
  refine lv_lshl (v := ((xs 1).toInt64) <<< ((32 : Int32).toInt64 &&& 63)) hx hb dL_law_701 rfl ?_
  refine lv_aload_n hx hb dL_law_702 rfl (lv_at hl 3 rfl) ?_
  refine lv_iload_n hx hb dL_law_703 rfl (lv_at hl 0 rfl) ?_
  refine lv_iconst (v := 2) hx hb dL_law_704 (by decide) ?_
  refine lv_iadd hx hb dL_law_705 ?_
  refine pp_ti (y := 2) (by decide) ?_
  refine va_sld hx hb hX hbl hbA hS (vp_in_nI (n := 2) (by decide) (by decide)) dL_law_706 ?_
  refine pp_ti (y := xs 2) rfl ?_
  refine lv_i2l (v := (xs 2).toInt64) hx hb dL_law_707 rfl ?_
  refine lv_ldc2 hx hb hown (hts _ (List.mem_of_getElem? (i := 201) rfl)) dL_law_708 ?_
  refine lv_land hx hb dL_law_711 ?_
  refine lv_lor hx hb dL_law_712 ?_
  have hPc := hP.sub (ws' := [(g0, .inr (7, [.ref m_now, .ref m_kept, .ref m_pictures, .ref m_keptPictures, .int 0, .ref m_found, .int 0, .ref m_row, .ref m_bestRow, .int 0, .ref m_tape, .int 0, .int 0, .int 0, .int 0, .int 0, .int 0, .ref m_kinds, .ref m_items, .ref m_itemPictures, .int 0, .int 0, .int 0, .int 0, .ref m_widths, .ref m_sizes, .ref m_numbers, .ref m_moved])), (m_now, .inl (mc_now, 38, .inl m_nf)), (m_pictures, .inl (mc_pictures, 7, .inr (.inl (fun _ => 0))))]) [0, 1, 2] rfl
  have hKc := hK.sub (tys' := [(mc_now, .int), (mc_pictures, .long)]) [1, 2] rfl
  have hDc := hD.sub (ws' := [(g0, .inr (7, [.ref m_now, .ref m_kept, .ref m_pictures, .ref m_keptPictures, .int 0, .ref m_found, .int 0, .ref m_row, .ref m_bestRow, .int 0, .ref m_tape, .int 0, .int 0, .int 0, .int 0, .int 0, .int 0, .ref m_kinds, .ref m_items, .ref m_itemPictures, .int 0, .int 0, .int 0, .int 0, .ref m_widths, .ref m_sizes, .ref m_numbers, .ref m_moved])), (m_now, .inl (mc_now, 38, .inl m_nf)), (m_pictures, .inl (mc_pictures, 7, .inr (.inl (fun _ => 0))))]) [0, 1, 2] (by decide) rfl
  have hFc := va_free (wc := [(g0, .inr (7, [.ref m_now, .ref m_kept, .ref m_pictures, .ref m_keptPictures, .int 0, .ref m_found, .int 0, .ref m_row, .ref m_bestRow, .int 0, .ref m_tape, .int 0, .int 0, .int 0, .int 0, .int 0, .int 0, .ref m_kinds, .ref m_items, .ref m_itemPictures, .int 0, .int 0, .int 0, .int 0, .ref m_widths, .ref m_sizes, .ref m_numbers, .ref m_moved])), (m_now, .inl (mc_now, 38, .inl m_nf)), (m_pictures, .inl (mc_pictures, 7, .inr (.inl (fun _ => 0))))]) hD hS hA [0, 1, 2] rfl
  refine va_calli (va_runV (As := [.long ((((xs 1).toInt64) <<< ((32 : Int32).toInt64 &&& 63)) ||| (((xs 2).toInt64) &&& 4294967295))]) (rest := [.int 0]) ⟨hx, hb, hml, hown, hts⟩ (y_scene l dC dI ad g0 ((((xs 1).toInt64) <<< ((32 : Int32).toInt64 &&& 63)) ||| (((xs 2).toInt64) &&& 4294967295)) m_now (.ref m_kept) m_pictures (.ref m_keptPictures) (.int 0) (.ref m_found) (.int 0) (.ref m_row) (.ref m_bestRow) (.int 0) (.ref m_tape) (.int 0) (.int 0) (.int 0) (.int 0) (.int 0) (.int 0) (.ref m_kinds) (.ref m_items) (.ref m_itemPictures) (.int 0) (.int 0) (.int 0) (.int 0) (.ref m_widths) (.ref m_sizes) (.ref m_numbers) (.ref m_moved) mc_now m_nf mc_pictures (fun _ => 0) H.size hq10) (cwV 1 hts g_law_y_scene_85 rfl rfl rfl (by decide +kernel) ⟨(Nat.le_of_ble_eq_true rfl), (Nat.le_of_ble_eq_true rfl)⟩) ⟨preM_blind, va_recv hKc hPc (ci := 7) (q0 := 0) rfl rfl, fun U hU hW => ⟨rfl, preM_at hU hW hPc hKc hDc hev⟩⟩ rfl rfl hl.1 rfl (lv_room (Nat.le_of_ble_eq_true rfl)) dL_law_713 ⟨(Nat.le_of_ble_eq_true rfl), (Nat.le_of_ble_eq_true rfl)⟩) hS (fun q _ h => hFc q h) hFc (fun r_2 u t H1 locs ht hvm hw hB hz1 hk1 hS => ?_)
  obtain ⟨hP, hD⟩ := va_join (wr := []) (w1 := []) hP hD [0, 1, 2] [] rfl rfl (by decide) (by decide) hk1 hFc nil_P nil_D
  generalize H1 = H at hP hS ⊢
  have hP : va_P (dC, dI) vwCl [] H := hP
  have hD : va_D A [] := hD
  subst hw
  refine lv_icmp_eq (tgt := 1457) hx hb dL_law_716 (by decide) (fun _ => ?_) (fun c => absurd (by decide) c)
  exact law_tail LC hS (lv_sub hl [0, 3] rfl)

set_option maxHeartbeats 4000000 in
set_option maxRecDepth 100000 in
/-- one call of draw on two new objects -/
theorem law_16 {p : Program} {l : Launch} {e : Env} {s : State} {m : MethodId} {below : List Frame} {meth : Method} {c : Code} {b : Nat} {xs : Nat → Int32} {A : Nat → Prop} {dC : Nat → ClassId} {dI : Nat → Nat → Nat} {ad : Nat → Nat} {H : Heap} {locs : List Loc} {ls : Array Slot} {h0 g0 : Nat} {ah : Nat} {bh : Nat} {sh : Nat} {rh : Nat} {ch : Nat} {ph : Nat} {th : Nat} {a0 : Nat} {a1 : Nat} {a2 : Nat} {a3 : Nat} {a4 : Nat} {tc : ClassId} {m_now : Nat} {m_kept : Nat} {m_pictures : Nat} {m_keptPictures : Nat} {m_found : Nat} {m_row : Nat} {m_bestRow : Nat} {m_tape : Nat} {m_kinds : Nat} {m_items : Nat} {m_itemPictures : Nat} {m_widths : Nat} {m_sizes : Nat} {m_numbers : Nat} {m_moved : Nat} {mc_now : ClassId} {m_nf : Nat → Int32} {mc_found : ClassId} (LC : lawC p s m meth c b xs A ad) (hS : va_S A s.heap H locs) (hq10 : ∀ j, j < 38 → m_nf j = fr_n j) (hP : va_P (dC, dI) vwCl [(h0, .inr (6, [.ref ah, .ref bh, .ref sh, .ref rh, .ref ch, .ref ph, .ref th, .int 0])), (ah, .inr (4, [.int 0, .ref a0, .ref a1, .int 0, .ref a2, .ref a3, .int 0, .ref a4, .int 63])), (th, .inl (tc, 7, .inl (fun _ => 0))), (g0, .inr (7, [.ref m_now, .ref m_kept, .ref m_pictures, .ref m_keptPictures, .int 0, .ref m_found, .int 0, .ref m_row, .ref m_bestRow, .int 0, .ref m_tape, .int 0, .int 0, .int 0, .int 0, .int 0, .int 0, .ref m_kinds, .ref m_items, .ref m_itemPictures, .int 0, .int 0, .int 0, .int 0, .ref m_widths, .ref m_sizes, .ref m_numbers, .ref m_moved])), (m_now, .inl (mc_now, 38, .inl m_nf)), (m_found, .inl (mc_found, 8, .inl (fun _ => 0)))] H) (hK : va_K (dC, dI) vwCl [(tc, .int), (mc_now, .int), (mc_found, .int)] s) (hD : va_D A [(h0, .inr (6, [.ref ah, .ref bh, .ref sh, .ref rh, .ref ch, .ref ph, .ref th, .int 0])), (ah, .inr (4, [.int 0, .ref a0, .ref a1, .int 0, .ref a2, .ref a3, .int 0, .ref a4, .int 63])), (th, .inl (tc, 7, .inl (fun _ => 0))), (g0, .inr (7, [.ref m_now, .ref m_kept, .ref m_pictures, .ref m_keptPictures, .int 0, .ref m_found, .int 0, .ref m_row, .ref m_bestRow, .int 0, .ref m_tape, .int 0, .int 0, .int 0, .int 0, .int 0, .int 0, .ref m_kinds, .ref m_items, .ref m_itemPictures, .int 0, .int 0, .int 0, .int 0, .ref m_widths, .ref m_sizes, .ref m_numbers, .ref m_moved])), (m_now, .inl (mc_now, 38, .inl m_nf)), (m_found, .inl (mc_found, 8, .inl (fun _ => 0)))]) (hl : lv_has ls 4 [(3, .int 0), (2, .ref g0), (1, .ref h0), (0, .ref b)]) : W p l e room_1 s m #[Value.ref b] below meth c H locs 52 1794 (lw_Z below #[Value.ref b] s) (F0 m 721 ls []) := by
  obtain ⟨hx, hb, hr, hml, hown, hts, hX, hbl, hlocks, hA, hA2, hbA, hev, hsf⟩ := id LC
  refine lv_aload_n hx hb dL_law_721 rfl (lv_at hl 2 rfl) ?_
  refine lv_aload_n hx hb dL_law_722 rfl (lv_at hl 3 rfl) ?_
  refine lv_iload_n hx hb dL_law_723 rfl (lv_at hl 0 rfl) ?_
  refine lv_iconst (v := 1) hx hb dL_law_724 (by decide) ?_
  refine lv_iadd hx hb dL_law_725 ?_
  refine pp_ti (y := 1) (by decide) ?_
  refine va_sld hx hb hX hbl hbA hS (vp_in_nI (n := 1) (by decide) (by decide)) dL_law_726 ?_
  refine pp_ti (y := xs 1) rfl ?_
  have hPc := hP.sub (ws' := [(h0, .inr (6, [.ref ah, .ref bh, .ref sh, .ref rh, .ref ch, .ref ph, .ref th, .int 0])), (ah, .inr (4, [.int 0, .ref a0, .ref a1, .int 0, .ref a2, .ref a3, .int 0, .ref a4, .int 63])), (th, .inl (tc, 7, .inl (fun _ => 0)))]) [0, 1, 2] rfl
  have hKc := hK.sub (tys' := [(tc, .int)]) [0] rfl
  have hDc := hD.sub (ws' := [(h0, .inr (6, [.ref ah, .ref bh, .ref sh, .ref rh, .ref ch, .ref ph, .ref th, .int 0])), (ah, .inr (4, [.int 0, .ref a0, .ref a1, .int 0, .ref a2, .ref a3, .int 0, .ref a4, .int 63])), (th, .inl (tc, 7, .inl (fun _ => 0)))]) [0, 1, 2] (by decide) rfl
  have hFc := va_free (wc := [(h0, .inr (6, [.ref ah, .ref bh, .ref sh, .ref rh, .ref ch, .ref ph, .ref th, .int 0])), (ah, .inr (4, [.int 0, .ref a0, .ref a1, .int 0, .ref a2, .ref a3, .int 0, .ref a4, .int 63])), (th, .inl (tc, 7, .inl (fun _ => 0)))]) hD hS hA [0, 1, 2] rfl
  refine va_calli (va_runV (As := [.int (xs 1)]) (rest := []) ⟨hx, hb, hml, hown, hts⟩ (x_draw l dC dI ad h0 (xs 1) ah (.ref bh) (.ref sh) (.ref rh) (.ref ch) (.ref ph) th (.int 0) (.int 0) (.ref a0) (.ref a1) (.int 0) (.ref a2) (.ref a3) (.ref a4) (.int 63) tc (fun _ => 0) H.size ) (cwV 1 hts g_law_x_draw_86 rfl rfl rfl (by decide +kernel) ⟨(Nat.le_of_ble_eq_true rfl), (Nat.le_of_ble_eq_true rfl)⟩) ⟨preM_blind, va_recv hKc hPc (ci := 6) (q0 := 0) rfl rfl, fun U hU hW => ⟨rfl, preM_at hU hW hPc hKc hDc hev⟩⟩ rfl rfl hl.1 rfl (lv_room (Nat.le_of_ble_eq_true rfl)) dL_law_727 ⟨(Nat.le_of_ble_eq_true rfl), (Nat.le_of_ble_eq_true rfl)⟩) hS (fun q _ h => hFc q h) hFc (fun r_1 u t H1 locs ht hvm hw hB hz1 hk1 hS => ?_)
  obtain ⟨hP, hD⟩ := va_join (wr := [(g0, .inr (7, [.ref m_now, .ref m_kept, .ref m_pictures, .ref m_keptPictures, .int 0, .ref m_found, .int 0, .ref m_row, .ref m_bestRow, .int 0, .ref m_tape, .int 0, .int 0, .int 0, .int 0, .int 0, .int 0, .ref m_kinds, .ref m_items, .ref m_itemPictures, .int 0, .int 0, .int 0, .int 0, .ref m_widths, .ref m_sizes, .ref m_numbers, .ref m_moved])), (m_now, .inl (mc_now, 38, .inl m_nf)), (m_found, .inl (mc_found, 8, .inl (fun _ => 0)))]) (w1 := []) hP hD [0, 1, 2] [3, 4, 5] rfl rfl (by decide) (by decide) hk1 hFc nil_P nil_D
  generalize H1 = H at hP hS ⊢
  have hP : va_P (dC, dI) vwCl [(g0, .inr (7, [.ref m_now, .ref m_kept, .ref m_pictures, .ref m_keptPictures, .int 0, .ref m_found, .int 0, .ref m_row, .ref m_bestRow, .int 0, .ref m_tape, .int 0, .int 0, .int 0, .int 0, .int 0, .int 0, .ref m_kinds, .ref m_items, .ref m_itemPictures, .int 0, .int 0, .int 0, .int 0, .ref m_widths, .ref m_sizes, .ref m_numbers, .ref m_moved])), (m_now, .inl (mc_now, 38, .inl m_nf)), (m_found, .inl (mc_found, 8, .inl (fun _ => 0)))] H := hP
  have hD : va_D A [(g0, .inr (7, [.ref m_now, .ref m_kept, .ref m_pictures, .ref m_keptPictures, .int 0, .ref m_found, .int 0, .ref m_row, .ref m_bestRow, .int 0, .ref m_tape, .int 0, .int 0, .int 0, .int 0, .int 0, .int 0, .ref m_kinds, .ref m_items, .ref m_itemPictures, .int 0, .int 0, .int 0, .int 0, .ref m_widths, .ref m_sizes, .ref m_numbers, .ref m_moved])), (m_now, .inl (mc_now, 38, .inl m_nf)), (m_found, .inl (mc_found, 8, .inl (fun _ => 0)))] := hD
  subst hw
  refine lv_aload_n hx hb dL_law_730 rfl (lv_at hl 1 rfl) ?_
  refine lv_aload_n hx hb dL_law_731 rfl (lv_at hl 3 rfl) ?_
  refine lv_iload_n hx hb dL_law_732 rfl (lv_at hl 0 rfl) ?_
  refine lv_iconst (v := 1) hx hb dL_law_733 (by decide) ?_
  refine lv_iadd hx hb dL_law_734 ?_
  refine pp_ti (y := 1) (by decide) ?_
  refine va_sld hx hb hX hbl hbA hS (vp_in_nI (n := 1) (by decide) (by decide)) dL_law_735 ?_
  refine pp_ti (y := xs 1) rfl ?_
  have hPc := hP.sub (ws' := [(g0, .inr (7, [.ref m_now, .ref m_kept, .ref m_pictures, .ref m_keptPictures, .int 0, .ref m_found, .int 0, .ref m_row, .ref m_bestRow, .int 0, .ref m_tape, .int 0, .int 0, .int 0, .int 0, .int 0, .int 0, .ref m_kinds, .ref m_items, .ref m_itemPictures, .int 0, .int 0, .int 0, .int 0, .ref m_widths, .ref m_sizes, .ref m_numbers, .ref m_moved])), (m_now, .inl (mc_now, 38, .inl m_nf)), (m_found, .inl (mc_found, 8, .inl (fun _ => 0)))]) [0, 1, 2] rfl
  have hKc := hK.sub (tys' := [(mc_now, .int), (mc_found, .int)]) [1, 2] rfl
  have hDc := hD.sub (ws' := [(g0, .inr (7, [.ref m_now, .ref m_kept, .ref m_pictures, .ref m_keptPictures, .int 0, .ref m_found, .int 0, .ref m_row, .ref m_bestRow, .int 0, .ref m_tape, .int 0, .int 0, .int 0, .int 0, .int 0, .int 0, .ref m_kinds, .ref m_items, .ref m_itemPictures, .int 0, .int 0, .int 0, .int 0, .ref m_widths, .ref m_sizes, .ref m_numbers, .ref m_moved])), (m_now, .inl (mc_now, 38, .inl m_nf)), (m_found, .inl (mc_found, 8, .inl (fun _ => 0)))]) [0, 1, 2] (by decide) rfl
  have hFc := va_free (wc := [(g0, .inr (7, [.ref m_now, .ref m_kept, .ref m_pictures, .ref m_keptPictures, .int 0, .ref m_found, .int 0, .ref m_row, .ref m_bestRow, .int 0, .ref m_tape, .int 0, .int 0, .int 0, .int 0, .int 0, .int 0, .ref m_kinds, .ref m_items, .ref m_itemPictures, .int 0, .int 0, .int 0, .int 0, .ref m_widths, .ref m_sizes, .ref m_numbers, .ref m_moved])), (m_now, .inl (mc_now, 38, .inl m_nf)), (m_found, .inl (mc_found, 8, .inl (fun _ => 0)))]) hD hS hA [0, 1, 2] rfl
  refine va_calli (va_runV (As := [.int (xs 1)]) (rest := [.int (-1000000001)]) ⟨hx, hb, hml, hown, hts⟩ (y_draw l dC dI ad g0 (xs 1) m_now (.ref m_kept) (.ref m_pictures) (.ref m_keptPictures) (.int 0) m_found (.int 0) (.ref m_row) (.ref m_bestRow) (.int 0) (.ref m_tape) (.int 0) (.int 0) (.int 0) (.int 0) (.int 0) (.int 0) (.ref m_kinds) (.ref m_items) (.ref m_itemPictures) (.int 0) (.int 0) (.int 0) (.int 0) (.ref m_widths) (.ref m_sizes) (.ref m_numbers) (.ref m_moved) mc_now m_nf mc_found (fun _ => 0) H.size hq10) (cwV 1 hts g_law_y_draw_89 rfl rfl rfl (by decide +kernel) ⟨(Nat.le_of_ble_eq_true rfl), (Nat.le_of_ble_eq_true rfl)⟩) ⟨preM_blind, va_recv hKc hPc (ci := 7) (q0 := 0) rfl rfl, fun U hU hW => ⟨rfl, preM_at hU hW hPc hKc hDc hev⟩⟩ rfl rfl hl.1 rfl (lv_room (Nat.le_of_ble_eq_true rfl)) dL_law_736 ⟨(Nat.le_of_ble_eq_true rfl), (Nat.le_of_ble_eq_true rfl)⟩) hS (fun q _ h => hFc q h) hFc (fun r_2 u t H1 locs ht hvm hw hB hz1 hk1 hS => ?_)
  obtain ⟨hP, hD⟩ := va_join (wr := []) (w1 := []) hP hD [0, 1, 2] [] rfl rfl (by decide) (by decide) hk1 hFc nil_P nil_D
  generalize H1 = H at hP hS ⊢
  have hP : va_P (dC, dI) vwCl [] H := hP
  have hD : va_D A [] := hD
  subst hw
  refine lv_icmp_eq (tgt := 1457) hx hb dL_law_739 (by decide) (fun _ => ?_) (fun c => absurd (by decide) c)
  exact law_tail LC hS (lv_sub hl [0, 3] rfl)

set_option maxHeartbeats 4000000 in
set_option maxRecDepth 100000 in
/-- one call of picture on two new objects -/
theorem law_17 {p : Program} {l : Launch} {e : Env} {s : State} {m : MethodId} {below : List Frame} {meth : Method} {c : Code} {b : Nat} {xs : Nat → Int32} {A : Nat → Prop} {dC : Nat → ClassId} {dI : Nat → Nat → Nat} {ad : Nat → Nat} {H : Heap} {locs : List Loc} {ls : Array Slot} {h0 g0 : Nat} {ah : Nat} {bh : Nat} {sh : Nat} {rh : Nat} {ch : Nat} {ph : Nat} {th : Nat} {a0 : Nat} {a1 : Nat} {a2 : Nat} {a3 : Nat} {a4 : Nat} {tc : ClassId} {m_now : Nat} {m_kept : Nat} {m_pictures : Nat} {m_keptPictures : Nat} {m_found : Nat} {m_row : Nat} {m_bestRow : Nat} {m_tape : Nat} {m_kinds : Nat} {m_items : Nat} {m_itemPictures : Nat} {m_widths : Nat} {m_sizes : Nat} {m_numbers : Nat} {m_moved : Nat} {mc_now : ClassId} {m_nf : Nat → Int32} {mc_found : ClassId} (LC : lawC p s m meth c b xs A ad) (hS : va_S A s.heap H locs) (hq10 : ∀ j, j < 38 → m_nf j = fr_n j) (hP : va_P (dC, dI) vwCl [(h0, .inr (6, [.ref ah, .ref bh, .ref sh, .ref rh, .ref ch, .ref ph, .ref th, .int 0])), (ah, .inr (4, [.int 0, .ref a0, .ref a1, .int 0, .ref a2, .ref a3, .int 0, .ref a4, .int 63])), (th, .inl (tc, 7, .inl (fun _ => 0))), (g0, .inr (7, [.ref m_now, .ref m_kept, .ref m_pictures, .ref m_keptPictures, .int 0, .ref m_found, .int 0, .ref m_row, .ref m_bestRow, .int 0, .ref m_tape, .int 0, .int 0, .int 0, .int 0, .int 0, .int 0, .ref m_kinds, .ref m_items, .ref m_itemPictures, .int 0, .int 0, .int 0, .int 0, .ref m_widths, .ref m_sizes, .ref m_numbers, .ref m_moved])), (m_now, .inl (mc_now, 38, .inl m_nf)), (m_found, .inl (mc_found, 8, .inl (fun _ => 0)))] H) (hK : va_K (dC, dI) vwCl [(tc, .int), (mc_now, .int), (mc_found, .int)] s) (hD : va_D A [(h0, .inr (6, [.ref ah, .ref bh, .ref sh, .ref rh, .ref ch, .ref ph, .ref th, .int 0])), (ah, .inr (4, [.int 0, .ref a0, .ref a1, .int 0, .ref a2, .ref a3, .int 0, .ref a4, .int 63])), (th, .inl (tc, 7, .inl (fun _ => 0))), (g0, .inr (7, [.ref m_now, .ref m_kept, .ref m_pictures, .ref m_keptPictures, .int 0, .ref m_found, .int 0, .ref m_row, .ref m_bestRow, .int 0, .ref m_tape, .int 0, .int 0, .int 0, .int 0, .int 0, .int 0, .ref m_kinds, .ref m_items, .ref m_itemPictures, .int 0, .int 0, .int 0, .int 0, .ref m_widths, .ref m_sizes, .ref m_numbers, .ref m_moved])), (m_now, .inl (mc_now, 38, .inl m_nf)), (m_found, .inl (mc_found, 8, .inl (fun _ => 0)))]) (hl : lv_has ls 4 [(3, .int 0), (2, .ref g0), (1, .ref h0), (0, .ref b)]) : W p l e room_1 s m #[Value.ref b] below meth c H locs 52 1794 (lw_Z below #[Value.ref b] s) (F0 m 744 ls []) := by
  obtain ⟨hx, hb, hr, hml, hown, hts, hX, hbl, hlocks, hA, hA2, hbA, hev, hsf⟩ := id LC
  refine lv_aload_n hx hb dL_law_744 rfl (lv_at hl 2 rfl) ?_
  refine lv_aload_n hx hb dL_law_745 rfl (lv_at hl 3 rfl) ?_
  refine lv_iload_n hx hb dL_law_746 rfl (lv_at hl 0 rfl) ?_
  refine lv_iconst (v := 1) hx hb dL_law_747 (by decide) ?_
  refine lv_iadd hx hb dL_law_748 ?_
  refine pp_ti (y := 1) (by decide) ?_
  refine va_sld hx hb hX hbl hbA hS (vp_in_nI (n := 1) (by decide) (by decide)) dL_law_749 ?_
  refine pp_ti (y := xs 1) rfl ?_
  have hPc := hP.sub (ws' := [(h0, .inr (6, [.ref ah, .ref bh, .ref sh, .ref rh, .ref ch, .ref ph, .ref th, .int 0])), (ah, .inr (4, [.int 0, .ref a0, .ref a1, .int 0, .ref a2, .ref a3, .int 0, .ref a4, .int 63])), (th, .inl (tc, 7, .inl (fun _ => 0)))]) [0, 1, 2] rfl
  have hKc := hK.sub (tys' := [(tc, .int)]) [0] rfl
  have hDc := hD.sub (ws' := [(h0, .inr (6, [.ref ah, .ref bh, .ref sh, .ref rh, .ref ch, .ref ph, .ref th, .int 0])), (ah, .inr (4, [.int 0, .ref a0, .ref a1, .int 0, .ref a2, .ref a3, .int 0, .ref a4, .int 63])), (th, .inl (tc, 7, .inl (fun _ => 0)))]) [0, 1, 2] (by decide) rfl
  have hFc := va_free (wc := [(h0, .inr (6, [.ref ah, .ref bh, .ref sh, .ref rh, .ref ch, .ref ph, .ref th, .int 0])), (ah, .inr (4, [.int 0, .ref a0, .ref a1, .int 0, .ref a2, .ref a3, .int 0, .ref a4, .int 63])), (th, .inl (tc, 7, .inl (fun _ => 0)))]) hD hS hA [0, 1, 2] rfl
  refine va_calll (va_runV (As := [.int (xs 1)]) (rest := []) ⟨hx, hb, hml, hown, hts⟩ (x_picture l dC dI ad h0 (xs 1) ah (.ref bh) (.ref sh) (.ref rh) (.ref ch) (.ref ph) th (.int 0) (.int 0) (.ref a0) (.ref a1) (.int 0) (.ref a2) (.ref a3) (.ref a4) (.int 63) tc (fun _ => 0) H.size ) (cwV 1 hts g_law_x_picture_90 rfl rfl rfl (by decide +kernel) ⟨(Nat.le_of_ble_eq_true rfl), (Nat.le_of_ble_eq_true rfl)⟩) ⟨preM_blind, va_recv hKc hPc (ci := 6) (q0 := 0) rfl rfl, fun U hU hW => ⟨rfl, preM_at hU hW hPc hKc hDc hev⟩⟩ rfl rfl hl.1 rfl (lv_room (Nat.le_of_ble_eq_true rfl)) dL_law_750 ⟨(Nat.le_of_ble_eq_true rfl), (Nat.le_of_ble_eq_true rfl)⟩) hS (fun q _ h => hFc q h) hFc (fun r_1 u t H1 locs ht hvm hw hB hz1 hk1 hS => ?_)
  obtain ⟨hP, hD⟩ := va_join (wr := [(g0, .inr (7, [.ref m_now, .ref m_kept, .ref m_pictures, .ref m_keptPictures, .int 0, .ref m_found, .int 0, .ref m_row, .ref m_bestRow, .int 0, .ref m_tape, .int 0, .int 0, .int 0, .int 0, .int 0, .int 0, .ref m_kinds, .ref m_items, .ref m_itemPictures, .int 0, .int 0, .int 0, .int 0, .ref m_widths, .ref m_sizes, .ref m_numbers, .ref m_moved])), (m_now, .inl (mc_now, 38, .inl m_nf)), (m_found, .inl (mc_found, 8, .inl (fun _ => 0)))]) (w1 := []) hP hD [0, 1, 2] [3, 4, 5] rfl rfl (by decide) (by decide) hk1 hFc nil_P nil_D
  generalize H1 = H at hP hS ⊢
  have hP : va_P (dC, dI) vwCl [(g0, .inr (7, [.ref m_now, .ref m_kept, .ref m_pictures, .ref m_keptPictures, .int 0, .ref m_found, .int 0, .ref m_row, .ref m_bestRow, .int 0, .ref m_tape, .int 0, .int 0, .int 0, .int 0, .int 0, .int 0, .ref m_kinds, .ref m_items, .ref m_itemPictures, .int 0, .int 0, .int 0, .int 0, .ref m_widths, .ref m_sizes, .ref m_numbers, .ref m_moved])), (m_now, .inl (mc_now, 38, .inl m_nf)), (m_found, .inl (mc_found, 8, .inl (fun _ => 0)))] H := hP
  have hD : va_D A [(g0, .inr (7, [.ref m_now, .ref m_kept, .ref m_pictures, .ref m_keptPictures, .int 0, .ref m_found, .int 0, .ref m_row, .ref m_bestRow, .int 0, .ref m_tape, .int 0, .int 0, .int 0, .int 0, .int 0, .int 0, .ref m_kinds, .ref m_items, .ref m_itemPictures, .int 0, .int 0, .int 0, .int 0, .ref m_widths, .ref m_sizes, .ref m_numbers, .ref m_moved])), (m_now, .inl (mc_now, 38, .inl m_nf)), (m_found, .inl (mc_found, 8, .inl (fun _ => 0)))] := hD
  subst hw
  refine lv_aload_n hx hb dL_law_753 rfl (lv_at hl 1 rfl) ?_
  refine lv_aload_n hx hb dL_law_754 rfl (lv_at hl 3 rfl) ?_
  refine lv_iload_n hx hb dL_law_755 rfl (lv_at hl 0 rfl) ?_
  refine lv_iconst (v := 1) hx hb dL_law_756 (by decide) ?_
  refine lv_iadd hx hb dL_law_757 ?_
  refine pp_ti (y := 1) (by decide) ?_
  refine va_sld hx hb hX hbl hbA hS (vp_in_nI (n := 1) (by decide) (by decide)) dL_law_758 ?_
  refine pp_ti (y := xs 1) rfl ?_
  have hPc := hP.sub (ws' := [(g0, .inr (7, [.ref m_now, .ref m_kept, .ref m_pictures, .ref m_keptPictures, .int 0, .ref m_found, .int 0, .ref m_row, .ref m_bestRow, .int 0, .ref m_tape, .int 0, .int 0, .int 0, .int 0, .int 0, .int 0, .ref m_kinds, .ref m_items, .ref m_itemPictures, .int 0, .int 0, .int 0, .int 0, .ref m_widths, .ref m_sizes, .ref m_numbers, .ref m_moved])), (m_now, .inl (mc_now, 38, .inl m_nf)), (m_found, .inl (mc_found, 8, .inl (fun _ => 0)))]) [0, 1, 2] rfl
  have hKc := hK.sub (tys' := [(mc_now, .int), (mc_found, .int)]) [1, 2] rfl
  have hDc := hD.sub (ws' := [(g0, .inr (7, [.ref m_now, .ref m_kept, .ref m_pictures, .ref m_keptPictures, .int 0, .ref m_found, .int 0, .ref m_row, .ref m_bestRow, .int 0, .ref m_tape, .int 0, .int 0, .int 0, .int 0, .int 0, .int 0, .ref m_kinds, .ref m_items, .ref m_itemPictures, .int 0, .int 0, .int 0, .int 0, .ref m_widths, .ref m_sizes, .ref m_numbers, .ref m_moved])), (m_now, .inl (mc_now, 38, .inl m_nf)), (m_found, .inl (mc_found, 8, .inl (fun _ => 0)))]) [0, 1, 2] (by decide) rfl
  have hFc := va_free (wc := [(g0, .inr (7, [.ref m_now, .ref m_kept, .ref m_pictures, .ref m_keptPictures, .int 0, .ref m_found, .int 0, .ref m_row, .ref m_bestRow, .int 0, .ref m_tape, .int 0, .int 0, .int 0, .int 0, .int 0, .int 0, .ref m_kinds, .ref m_items, .ref m_itemPictures, .int 0, .int 0, .int 0, .int 0, .ref m_widths, .ref m_sizes, .ref m_numbers, .ref m_moved])), (m_now, .inl (mc_now, 38, .inl m_nf)), (m_found, .inl (mc_found, 8, .inl (fun _ => 0)))]) hD hS hA [0, 1, 2] rfl
  refine va_calll (va_runV (As := [.int (xs 1)]) (rest := [.long (-1000000001)]) ⟨hx, hb, hml, hown, hts⟩ (y_picture l dC dI ad g0 (xs 1) m_now (.ref m_kept) (.ref m_pictures) (.ref m_keptPictures) (.int 0) m_found (.int 0) (.ref m_row) (.ref m_bestRow) (.int 0) (.ref m_tape) (.int 0) (.int 0) (.int 0) (.int 0) (.int 0) (.int 0) (.ref m_kinds) (.ref m_items) (.ref m_itemPictures) (.int 0) (.int 0) (.int 0) (.int 0) (.ref m_widths) (.ref m_sizes) (.ref m_numbers) (.ref m_moved) mc_now m_nf mc_found (fun _ => 0) H.size hq10) (cwV 1 hts g_law_y_picture_94 rfl rfl rfl (by decide +kernel) ⟨(Nat.le_of_ble_eq_true rfl), (Nat.le_of_ble_eq_true rfl)⟩) ⟨preM_blind, va_recv hKc hPc (ci := 7) (q0 := 0) rfl rfl, fun U hU hW => ⟨rfl, preM_at hU hW hPc hKc hDc hev⟩⟩ rfl rfl hl.1 rfl (lv_room (Nat.le_of_ble_eq_true rfl)) dL_law_759 ⟨(Nat.le_of_ble_eq_true rfl), (Nat.le_of_ble_eq_true rfl)⟩) hS (fun q _ h => hFc q h) hFc (fun r_2 u t H1 locs ht hvm hw hB hz1 hk1 hS => ?_)
  obtain ⟨hP, hD⟩ := va_join (wr := []) (w1 := []) hP hD [0, 1, 2] [] rfl rfl (by decide) (by decide) hk1 hFc nil_P nil_D
  generalize H1 = H at hP hS ⊢
  have hP : va_P (dC, dI) vwCl [] H := hP
  have hD : va_D A [] := hD
  subst hw
  refine W.lcmp hx hb dL_law_762 ?_
  refine pp_ti (y := 0) (by decide) ?_
  refine lv_if_eq (tgt := 1457) hx hb dL_law_763 (by decide) (fun _ => ?_) (fun c => absurd (by decide) c)
  exact law_tail LC hS (lv_sub hl [0, 3] rfl)

set_option maxHeartbeats 4000000 in
set_option maxRecDepth 100000 in
/-- one call of off on two new objects -/
theorem law_18 {p : Program} {l : Launch} {e : Env} {s : State} {m : MethodId} {below : List Frame} {meth : Method} {c : Code} {b : Nat} {xs : Nat → Int32} {A : Nat → Prop} {dC : Nat → ClassId} {dI : Nat → Nat → Nat} {ad : Nat → Nat} {H : Heap} {locs : List Loc} {ls : Array Slot} {h0 g0 : Nat} {ah : Nat} {bh : Nat} {sh : Nat} {rh : Nat} {ch : Nat} {ph : Nat} {th : Nat} {a0 : Nat} {a1 : Nat} {a2 : Nat} {a3 : Nat} {a4 : Nat} {tc : ClassId} {m_now : Nat} {m_kept : Nat} {m_pictures : Nat} {m_keptPictures : Nat} {m_found : Nat} {m_row : Nat} {m_bestRow : Nat} {m_tape : Nat} {m_kinds : Nat} {m_items : Nat} {m_itemPictures : Nat} {m_widths : Nat} {m_sizes : Nat} {m_numbers : Nat} {m_moved : Nat} {mc_now : ClassId} {m_nf : Nat → Int32} {mc_found : ClassId} (LC : lawC p s m meth c b xs A ad) (hS : va_S A s.heap H locs) (hq10 : ∀ j, j < 38 → m_nf j = fr_n j) (hP : va_P (dC, dI) vwCl [(h0, .inr (6, [.ref ah, .ref bh, .ref sh, .ref rh, .ref ch, .ref ph, .ref th, .int 0])), (ah, .inr (4, [.int 0, .ref a0, .ref a1, .int 0, .ref a2, .ref a3, .int 0, .ref a4, .int 63])), (th, .inl (tc, 7, .inl (fun _ => 0))), (g0, .inr (7, [.ref m_now, .ref m_kept, .ref m_pictures, .ref m_keptPictures, .int 0, .ref m_found, .int 0, .ref m_row, .ref m_bestRow, .int 0, .ref m_tape, .int 0, .int 0, .int 0, .int 0, .int 0, .int 0, .ref m_kinds, .ref m_items, .ref m_itemPictures, .int 0, .int 0, .int 0, .int 0, .ref m_widths, .ref m_sizes, .ref m_numbers, .ref m_moved])), (m_now, .inl (mc_now, 38, .inl m_nf)), (m_found, .inl (mc_found, 8, .inl (fun _ => 0)))] H) (hK : va_K (dC, dI) vwCl [(tc, .int), (mc_now, .int), (mc_found, .int)] s) (hD : va_D A [(h0, .inr (6, [.ref ah, .ref bh, .ref sh, .ref rh, .ref ch, .ref ph, .ref th, .int 0])), (ah, .inr (4, [.int 0, .ref a0, .ref a1, .int 0, .ref a2, .ref a3, .int 0, .ref a4, .int 63])), (th, .inl (tc, 7, .inl (fun _ => 0))), (g0, .inr (7, [.ref m_now, .ref m_kept, .ref m_pictures, .ref m_keptPictures, .int 0, .ref m_found, .int 0, .ref m_row, .ref m_bestRow, .int 0, .ref m_tape, .int 0, .int 0, .int 0, .int 0, .int 0, .int 0, .ref m_kinds, .ref m_items, .ref m_itemPictures, .int 0, .int 0, .int 0, .int 0, .ref m_widths, .ref m_sizes, .ref m_numbers, .ref m_moved])), (m_now, .inl (mc_now, 38, .inl m_nf)), (m_found, .inl (mc_found, 8, .inl (fun _ => 0)))]) (hl : lv_has ls 4 [(3, .int 0), (2, .ref g0), (1, .ref h0), (0, .ref b)]) : W p l e room_1 s m #[Value.ref b] below meth c H locs 52 1794 (lw_Z below #[Value.ref b] s) (F0 m 768 ls []) := by
  obtain ⟨hx, hb, hr, hml, hown, hts, hX, hbl, hlocks, hA, hA2, hbA, hev, hsf⟩ := id LC
  refine lv_aload_n hx hb dL_law_768 rfl (lv_at hl 2 rfl) ?_
  refine lv_aload_n hx hb dL_law_769 rfl (lv_at hl 3 rfl) ?_
  refine lv_iload_n hx hb dL_law_770 rfl (lv_at hl 0 rfl) ?_
  refine lv_iconst (v := 1) hx hb dL_law_771 (by decide) ?_
  refine lv_iadd hx hb dL_law_772 ?_
  refine pp_ti (y := 1) (by decide) ?_
  refine va_sld hx hb hX hbl hbA hS (vp_in_nI (n := 1) (by decide) (by decide)) dL_law_773 ?_
  refine pp_ti (y := xs 1) rfl ?_
  have hPc := hP.sub (ws' := [(h0, .inr (6, [.ref ah, .ref bh, .ref sh, .ref rh, .ref ch, .ref ph, .ref th, .int 0])), (ah, .inr (4, [.int 0, .ref a0, .ref a1, .int 0, .ref a2, .ref a3, .int 0, .ref a4, .int 63])), (th, .inl (tc, 7, .inl (fun _ => 0)))]) [0, 1, 2] rfl
  have hKc := hK.sub (tys' := [(tc, .int)]) [0] rfl
  have hDc := hD.sub (ws' := [(h0, .inr (6, [.ref ah, .ref bh, .ref sh, .ref rh, .ref ch, .ref ph, .ref th, .int 0])), (ah, .inr (4, [.int 0, .ref a0, .ref a1, .int 0, .ref a2, .ref a3, .int 0, .ref a4, .int 63])), (th, .inl (tc, 7, .inl (fun _ => 0)))]) [0, 1, 2] (by decide) rfl
  have hFc := va_free (wc := [(h0, .inr (6, [.ref ah, .ref bh, .ref sh, .ref rh, .ref ch, .ref ph, .ref th, .int 0])), (ah, .inr (4, [.int 0, .ref a0, .ref a1, .int 0, .ref a2, .ref a3, .int 0, .ref a4, .int 63])), (th, .inl (tc, 7, .inl (fun _ => 0)))]) hD hS hA [0, 1, 2] rfl
  refine va_calli (va_runV (As := [.int (xs 1)]) (rest := []) ⟨hx, hb, hml, hown, hts⟩ (x_off l dC dI ad h0 (xs 1) ah (.ref bh) (.ref sh) (.ref rh) (.ref ch) (.ref ph) th (.int 0) (.int 0) (.ref a0) (.ref a1) (.int 0) (.ref a2) (.ref a3) (.ref a4) (.int 63) tc (fun _ => 0) H.size ) (cwV 1 hts g_law_x_off_95 rfl rfl rfl (by decide +kernel) ⟨(Nat.le_of_ble_eq_true rfl), (Nat.le_of_ble_eq_true rfl)⟩) ⟨preM_blind, va_recv hKc hPc (ci := 6) (q0 := 0) rfl rfl, fun U hU hW => ⟨rfl, preM_at hU hW hPc hKc hDc hev⟩⟩ rfl rfl hl.1 rfl (lv_room (Nat.le_of_ble_eq_true rfl)) dL_law_774 ⟨(Nat.le_of_ble_eq_true rfl), (Nat.le_of_ble_eq_true rfl)⟩) hS (fun q _ h => hFc q h) hFc (fun r_1 u t H1 locs ht hvm hw hB hz1 hk1 hS => ?_)
  obtain ⟨hP, hD⟩ := va_join (wr := [(g0, .inr (7, [.ref m_now, .ref m_kept, .ref m_pictures, .ref m_keptPictures, .int 0, .ref m_found, .int 0, .ref m_row, .ref m_bestRow, .int 0, .ref m_tape, .int 0, .int 0, .int 0, .int 0, .int 0, .int 0, .ref m_kinds, .ref m_items, .ref m_itemPictures, .int 0, .int 0, .int 0, .int 0, .ref m_widths, .ref m_sizes, .ref m_numbers, .ref m_moved])), (m_now, .inl (mc_now, 38, .inl m_nf)), (m_found, .inl (mc_found, 8, .inl (fun _ => 0)))]) (w1 := []) hP hD [0, 1, 2] [3, 4, 5] rfl rfl (by decide) (by decide) hk1 hFc nil_P nil_D
  generalize H1 = H at hP hS ⊢
  have hP : va_P (dC, dI) vwCl [(g0, .inr (7, [.ref m_now, .ref m_kept, .ref m_pictures, .ref m_keptPictures, .int 0, .ref m_found, .int 0, .ref m_row, .ref m_bestRow, .int 0, .ref m_tape, .int 0, .int 0, .int 0, .int 0, .int 0, .int 0, .ref m_kinds, .ref m_items, .ref m_itemPictures, .int 0, .int 0, .int 0, .int 0, .ref m_widths, .ref m_sizes, .ref m_numbers, .ref m_moved])), (m_now, .inl (mc_now, 38, .inl m_nf)), (m_found, .inl (mc_found, 8, .inl (fun _ => 0)))] H := hP
  have hD : va_D A [(g0, .inr (7, [.ref m_now, .ref m_kept, .ref m_pictures, .ref m_keptPictures, .int 0, .ref m_found, .int 0, .ref m_row, .ref m_bestRow, .int 0, .ref m_tape, .int 0, .int 0, .int 0, .int 0, .int 0, .int 0, .ref m_kinds, .ref m_items, .ref m_itemPictures, .int 0, .int 0, .int 0, .int 0, .ref m_widths, .ref m_sizes, .ref m_numbers, .ref m_moved])), (m_now, .inl (mc_now, 38, .inl m_nf)), (m_found, .inl (mc_found, 8, .inl (fun _ => 0)))] := hD
  subst hw
  refine lv_aload_n hx hb dL_law_777 rfl (lv_at hl 1 rfl) ?_
  refine lv_aload_n hx hb dL_law_778 rfl (lv_at hl 3 rfl) ?_
  refine lv_iload_n hx hb dL_law_779 rfl (lv_at hl 0 rfl) ?_
  refine lv_iconst (v := 1) hx hb dL_law_780 (by decide) ?_
  refine lv_iadd hx hb dL_law_781 ?_
  refine pp_ti (y := 1) (by decide) ?_
  refine va_sld hx hb hX hbl hbA hS (vp_in_nI (n := 1) (by decide) (by decide)) dL_law_782 ?_
  refine pp_ti (y := xs 1) rfl ?_
  have hPc := hP.sub (ws' := [(g0, .inr (7, [.ref m_now, .ref m_kept, .ref m_pictures, .ref m_keptPictures, .int 0, .ref m_found, .int 0, .ref m_row, .ref m_bestRow, .int 0, .ref m_tape, .int 0, .int 0, .int 0, .int 0, .int 0, .int 0, .ref m_kinds, .ref m_items, .ref m_itemPictures, .int 0, .int 0, .int 0, .int 0, .ref m_widths, .ref m_sizes, .ref m_numbers, .ref m_moved])), (m_now, .inl (mc_now, 38, .inl m_nf)), (m_found, .inl (mc_found, 8, .inl (fun _ => 0)))]) [0, 1, 2] rfl
  have hKc := hK.sub (tys' := [(mc_now, .int), (mc_found, .int)]) [1, 2] rfl
  have hDc := hD.sub (ws' := [(g0, .inr (7, [.ref m_now, .ref m_kept, .ref m_pictures, .ref m_keptPictures, .int 0, .ref m_found, .int 0, .ref m_row, .ref m_bestRow, .int 0, .ref m_tape, .int 0, .int 0, .int 0, .int 0, .int 0, .int 0, .ref m_kinds, .ref m_items, .ref m_itemPictures, .int 0, .int 0, .int 0, .int 0, .ref m_widths, .ref m_sizes, .ref m_numbers, .ref m_moved])), (m_now, .inl (mc_now, 38, .inl m_nf)), (m_found, .inl (mc_found, 8, .inl (fun _ => 0)))]) [0, 1, 2] (by decide) rfl
  have hFc := va_free (wc := [(g0, .inr (7, [.ref m_now, .ref m_kept, .ref m_pictures, .ref m_keptPictures, .int 0, .ref m_found, .int 0, .ref m_row, .ref m_bestRow, .int 0, .ref m_tape, .int 0, .int 0, .int 0, .int 0, .int 0, .int 0, .ref m_kinds, .ref m_items, .ref m_itemPictures, .int 0, .int 0, .int 0, .int 0, .ref m_widths, .ref m_sizes, .ref m_numbers, .ref m_moved])), (m_now, .inl (mc_now, 38, .inl m_nf)), (m_found, .inl (mc_found, 8, .inl (fun _ => 0)))]) hD hS hA [0, 1, 2] rfl
  refine va_calli (va_runV (As := [.int (xs 1)]) (rest := [.int (-1000000001)]) ⟨hx, hb, hml, hown, hts⟩ (y_off l dC dI ad g0 (xs 1) m_now (.ref m_kept) (.ref m_pictures) (.ref m_keptPictures) (.int 0) m_found (.int 0) (.ref m_row) (.ref m_bestRow) (.int 0) (.ref m_tape) (.int 0) (.int 0) (.int 0) (.int 0) (.int 0) (.int 0) (.ref m_kinds) (.ref m_items) (.ref m_itemPictures) (.int 0) (.int 0) (.int 0) (.int 0) (.ref m_widths) (.ref m_sizes) (.ref m_numbers) (.ref m_moved) mc_now m_nf mc_found (fun _ => 0) H.size hq10) (cwV 1 hts g_law_y_off_98 rfl rfl rfl (by decide +kernel) ⟨(Nat.le_of_ble_eq_true rfl), (Nat.le_of_ble_eq_true rfl)⟩) ⟨preM_blind, va_recv hKc hPc (ci := 7) (q0 := 0) rfl rfl, fun U hU hW => ⟨rfl, preM_at hU hW hPc hKc hDc hev⟩⟩ rfl rfl hl.1 rfl (lv_room (Nat.le_of_ble_eq_true rfl)) dL_law_783 ⟨(Nat.le_of_ble_eq_true rfl), (Nat.le_of_ble_eq_true rfl)⟩) hS (fun q _ h => hFc q h) hFc (fun r_2 u t H1 locs ht hvm hw hB hz1 hk1 hS => ?_)
  obtain ⟨hP, hD⟩ := va_join (wr := []) (w1 := []) hP hD [0, 1, 2] [] rfl rfl (by decide) (by decide) hk1 hFc nil_P nil_D
  generalize H1 = H at hP hS ⊢
  have hP : va_P (dC, dI) vwCl [] H := hP
  have hD : va_D A [] := hD
  subst hw
  refine lv_icmp_eq (tgt := 1457) hx hb dL_law_786 (by decide) (fun _ => ?_) (fun c => absurd (by decide) c)
  exact law_tail LC hS (lv_sub hl [0, 3] rfl)

set_option maxHeartbeats 4000000 in
set_option maxRecDepth 100000 in
/-- one call of changes on two new objects -/
theorem law_19 {p : Program} {l : Launch} {e : Env} {s : State} {m : MethodId} {below : List Frame} {meth : Method} {c : Code} {b : Nat} {xs : Nat → Int32} {A : Nat → Prop} {dC : Nat → ClassId} {dI : Nat → Nat → Nat} {ad : Nat → Nat} {H : Heap} {locs : List Loc} {ls : Array Slot} {h0 g0 : Nat} {ah : Nat} {bh : Nat} {sh : Nat} {rh : Nat} {ch : Nat} {ph : Nat} {th : Nat} {a0 : Nat} {a1 : Nat} {a2 : Nat} {a3 : Nat} {a4 : Nat} {tc : ClassId} {m_now : Nat} {m_kept : Nat} {m_pictures : Nat} {m_keptPictures : Nat} {m_found : Nat} {m_row : Nat} {m_bestRow : Nat} {m_tape : Nat} {m_kinds : Nat} {m_items : Nat} {m_itemPictures : Nat} {m_widths : Nat} {m_sizes : Nat} {m_numbers : Nat} {m_moved : Nat} {mc_now : ClassId} {m_nf : Nat → Int32} {mc_found : ClassId} (LC : lawC p s m meth c b xs A ad) (hS : va_S A s.heap H locs) (hq10 : ∀ j, j < 38 → m_nf j = fr_n j) (hP : va_P (dC, dI) vwCl [(h0, .inr (6, [.ref ah, .ref bh, .ref sh, .ref rh, .ref ch, .ref ph, .ref th, .int 0])), (ah, .inr (4, [.int 0, .ref a0, .ref a1, .int 0, .ref a2, .ref a3, .int 0, .ref a4, .int 63])), (th, .inl (tc, 7, .inl (fun _ => 0))), (g0, .inr (7, [.ref m_now, .ref m_kept, .ref m_pictures, .ref m_keptPictures, .int 0, .ref m_found, .int 0, .ref m_row, .ref m_bestRow, .int 0, .ref m_tape, .int 0, .int 0, .int 0, .int 0, .int 0, .int 0, .ref m_kinds, .ref m_items, .ref m_itemPictures, .int 0, .int 0, .int 0, .int 0, .ref m_widths, .ref m_sizes, .ref m_numbers, .ref m_moved])), (m_now, .inl (mc_now, 38, .inl m_nf)), (m_found, .inl (mc_found, 8, .inl (fun _ => 0)))] H) (hK : va_K (dC, dI) vwCl [(tc, .int), (mc_now, .int), (mc_found, .int)] s) (hD : va_D A [(h0, .inr (6, [.ref ah, .ref bh, .ref sh, .ref rh, .ref ch, .ref ph, .ref th, .int 0])), (ah, .inr (4, [.int 0, .ref a0, .ref a1, .int 0, .ref a2, .ref a3, .int 0, .ref a4, .int 63])), (th, .inl (tc, 7, .inl (fun _ => 0))), (g0, .inr (7, [.ref m_now, .ref m_kept, .ref m_pictures, .ref m_keptPictures, .int 0, .ref m_found, .int 0, .ref m_row, .ref m_bestRow, .int 0, .ref m_tape, .int 0, .int 0, .int 0, .int 0, .int 0, .int 0, .ref m_kinds, .ref m_items, .ref m_itemPictures, .int 0, .int 0, .int 0, .int 0, .ref m_widths, .ref m_sizes, .ref m_numbers, .ref m_moved])), (m_now, .inl (mc_now, 38, .inl m_nf)), (m_found, .inl (mc_found, 8, .inl (fun _ => 0)))]) (hl : lv_has ls 4 [(3, .int 0), (2, .ref g0), (1, .ref h0), (0, .ref b)]) : W p l e room_1 s m #[Value.ref b] below meth c H locs 52 1794 (lw_Z below #[Value.ref b] s) (F0 m 791 ls []) := by
  obtain ⟨hx, hb, hr, hml, hown, hts, hX, hbl, hlocks, hA, hA2, hbA, hev, hsf⟩ := id LC
  refine lv_aload_n hx hb dL_law_791 rfl (lv_at hl 2 rfl) ?_
  refine lv_aload_n hx hb dL_law_792 rfl (lv_at hl 3 rfl) ?_
  refine lv_iload_n hx hb dL_law_793 rfl (lv_at hl 0 rfl) ?_
  refine lv_iconst (v := 1) hx hb dL_law_794 (by decide) ?_
  refine lv_iadd hx hb dL_law_795 ?_
  refine pp_ti (y := 1) (by decide) ?_
  refine va_sld hx hb hX hbl hbA hS (vp_in_nI (n := 1) (by decide) (by decide)) dL_law_796 ?_
  refine pp_ti (y := xs 1) rfl ?_
  refine lv_aload_n hx hb dL_law_797 rfl (lv_at hl 3 rfl) ?_
  refine lv_iload_n hx hb dL_law_798 rfl (lv_at hl 0 rfl) ?_
  refine lv_iconst (v := 2) hx hb dL_law_799 (by decide) ?_
  refine lv_iadd hx hb dL_law_800 ?_
  refine pp_ti (y := 2) (by decide) ?_
  refine va_sld hx hb hX hbl hbA hS (vp_in_nI (n := 2) (by decide) (by decide)) dL_law_801 ?_
  refine pp_ti (y := xs 2) rfl ?_
  have hPc := hP.sub (ws' := [(h0, .inr (6, [.ref ah, .ref bh, .ref sh, .ref rh, .ref ch, .ref ph, .ref th, .int 0])), (ah, .inr (4, [.int 0, .ref a0, .ref a1, .int 0, .ref a2, .ref a3, .int 0, .ref a4, .int 63])), (th, .inl (tc, 7, .inl (fun _ => 0)))]) [0, 1, 2] rfl
  have hKc := hK.sub (tys' := [(tc, .int)]) [0] rfl
  have hDc := hD.sub (ws' := [(h0, .inr (6, [.ref ah, .ref bh, .ref sh, .ref rh, .ref ch, .ref ph, .ref th, .int 0])), (ah, .inr (4, [.int 0, .ref a0, .ref a1, .int 0, .ref a2, .ref a3, .int 0, .ref a4, .int 63])), (th, .inl (tc, 7, .inl (fun _ => 0)))]) [0, 1, 2] (by decide) rfl
  have hFc := va_free (wc := [(h0, .inr (6, [.ref ah, .ref bh, .ref sh, .ref rh, .ref ch, .ref ph, .ref th, .int 0])), (ah, .inr (4, [.int 0, .ref a0, .ref a1, .int 0, .ref a2, .ref a3, .int 0, .ref a4, .int 63])), (th, .inl (tc, 7, .inl (fun _ => 0)))]) hD hS hA [0, 1, 2] rfl
  refine va_calli (va_runV (As := [.int (xs 1), .int (xs 2)]) (rest := []) ⟨hx, hb, hml, hown, hts⟩ (x_changes l dC dI ad h0 (xs 1) (xs 2) ah (.ref bh) (.ref sh) (.ref rh) (.ref ch) (.ref ph) th (.int 0) (.int 0) (.ref a0) (.ref a1) (.int 0) (.ref a2) (.ref a3) (.ref a4) (.int 63) tc (fun _ => 0) H.size ) (cwV 2 hts g_law_x_changes_99 rfl rfl rfl (by decide +kernel) ⟨(Nat.le_of_ble_eq_true rfl), (Nat.le_of_ble_eq_true rfl)⟩) ⟨preM_blind, va_recv hKc hPc (ci := 6) (q0 := 0) rfl rfl, fun U hU hW => ⟨rfl, preM_at hU hW hPc hKc hDc hev⟩⟩ rfl rfl hl.1 rfl (lv_room (Nat.le_of_ble_eq_true rfl)) dL_law_802 ⟨(Nat.le_of_ble_eq_true rfl), (Nat.le_of_ble_eq_true rfl)⟩) hS (fun q _ h => hFc q h) hFc (fun r_1 u t H1 locs ht hvm hw hB hz1 hk1 hS => ?_)
  obtain ⟨hP, hD⟩ := va_join (wr := [(g0, .inr (7, [.ref m_now, .ref m_kept, .ref m_pictures, .ref m_keptPictures, .int 0, .ref m_found, .int 0, .ref m_row, .ref m_bestRow, .int 0, .ref m_tape, .int 0, .int 0, .int 0, .int 0, .int 0, .int 0, .ref m_kinds, .ref m_items, .ref m_itemPictures, .int 0, .int 0, .int 0, .int 0, .ref m_widths, .ref m_sizes, .ref m_numbers, .ref m_moved])), (m_now, .inl (mc_now, 38, .inl m_nf)), (m_found, .inl (mc_found, 8, .inl (fun _ => 0)))]) (w1 := []) hP hD [0, 1, 2] [3, 4, 5] rfl rfl (by decide) (by decide) hk1 hFc nil_P nil_D
  generalize H1 = H at hP hS ⊢
  have hP : va_P (dC, dI) vwCl [(g0, .inr (7, [.ref m_now, .ref m_kept, .ref m_pictures, .ref m_keptPictures, .int 0, .ref m_found, .int 0, .ref m_row, .ref m_bestRow, .int 0, .ref m_tape, .int 0, .int 0, .int 0, .int 0, .int 0, .int 0, .ref m_kinds, .ref m_items, .ref m_itemPictures, .int 0, .int 0, .int 0, .int 0, .ref m_widths, .ref m_sizes, .ref m_numbers, .ref m_moved])), (m_now, .inl (mc_now, 38, .inl m_nf)), (m_found, .inl (mc_found, 8, .inl (fun _ => 0)))] H := hP
  have hD : va_D A [(g0, .inr (7, [.ref m_now, .ref m_kept, .ref m_pictures, .ref m_keptPictures, .int 0, .ref m_found, .int 0, .ref m_row, .ref m_bestRow, .int 0, .ref m_tape, .int 0, .int 0, .int 0, .int 0, .int 0, .int 0, .ref m_kinds, .ref m_items, .ref m_itemPictures, .int 0, .int 0, .int 0, .int 0, .ref m_widths, .ref m_sizes, .ref m_numbers, .ref m_moved])), (m_now, .inl (mc_now, 38, .inl m_nf)), (m_found, .inl (mc_found, 8, .inl (fun _ => 0)))] := hD
  subst hw
  refine lv_aload_n hx hb dL_law_805 rfl (lv_at hl 1 rfl) ?_
  refine lv_aload_n hx hb dL_law_806 rfl (lv_at hl 3 rfl) ?_
  refine lv_iload_n hx hb dL_law_807 rfl (lv_at hl 0 rfl) ?_
  refine lv_iconst (v := 1) hx hb dL_law_808 (by decide) ?_
  refine lv_iadd hx hb dL_law_809 ?_
  refine pp_ti (y := 1) (by decide) ?_
  refine va_sld hx hb hX hbl hbA hS (vp_in_nI (n := 1) (by decide) (by decide)) dL_law_810 ?_
  refine pp_ti (y := xs 1) rfl ?_
  refine lv_aload_n hx hb dL_law_811 rfl (lv_at hl 3 rfl) ?_
  refine lv_iload_n hx hb dL_law_812 rfl (lv_at hl 0 rfl) ?_
  refine lv_iconst (v := 2) hx hb dL_law_813 (by decide) ?_
  refine lv_iadd hx hb dL_law_814 ?_
  refine pp_ti (y := 2) (by decide) ?_
  refine va_sld hx hb hX hbl hbA hS (vp_in_nI (n := 2) (by decide) (by decide)) dL_law_815 ?_
  refine pp_ti (y := xs 2) rfl ?_
  have hPc := hP.sub (ws' := [(g0, .inr (7, [.ref m_now, .ref m_kept, .ref m_pictures, .ref m_keptPictures, .int 0, .ref m_found, .int 0, .ref m_row, .ref m_bestRow, .int 0, .ref m_tape, .int 0, .int 0, .int 0, .int 0, .int 0, .int 0, .ref m_kinds, .ref m_items, .ref m_itemPictures, .int 0, .int 0, .int 0, .int 0, .ref m_widths, .ref m_sizes, .ref m_numbers, .ref m_moved])), (m_now, .inl (mc_now, 38, .inl m_nf)), (m_found, .inl (mc_found, 8, .inl (fun _ => 0)))]) [0, 1, 2] rfl
  have hKc := hK.sub (tys' := [(mc_now, .int), (mc_found, .int)]) [1, 2] rfl
  have hDc := hD.sub (ws' := [(g0, .inr (7, [.ref m_now, .ref m_kept, .ref m_pictures, .ref m_keptPictures, .int 0, .ref m_found, .int 0, .ref m_row, .ref m_bestRow, .int 0, .ref m_tape, .int 0, .int 0, .int 0, .int 0, .int 0, .int 0, .ref m_kinds, .ref m_items, .ref m_itemPictures, .int 0, .int 0, .int 0, .int 0, .ref m_widths, .ref m_sizes, .ref m_numbers, .ref m_moved])), (m_now, .inl (mc_now, 38, .inl m_nf)), (m_found, .inl (mc_found, 8, .inl (fun _ => 0)))]) [0, 1, 2] (by decide) rfl
  have hFc := va_free (wc := [(g0, .inr (7, [.ref m_now, .ref m_kept, .ref m_pictures, .ref m_keptPictures, .int 0, .ref m_found, .int 0, .ref m_row, .ref m_bestRow, .int 0, .ref m_tape, .int 0, .int 0, .int 0, .int 0, .int 0, .int 0, .ref m_kinds, .ref m_items, .ref m_itemPictures, .int 0, .int 0, .int 0, .int 0, .ref m_widths, .ref m_sizes, .ref m_numbers, .ref m_moved])), (m_now, .inl (mc_now, 38, .inl m_nf)), (m_found, .inl (mc_found, 8, .inl (fun _ => 0)))]) hD hS hA [0, 1, 2] rfl
  refine va_calli (va_runV (As := [.int (xs 1), .int (xs 2)]) (rest := [.int (-1000000001)]) ⟨hx, hb, hml, hown, hts⟩ (y_changes l dC dI ad g0 (xs 1) (xs 2) m_now (.ref m_kept) (.ref m_pictures) (.ref m_keptPictures) (.int 0) m_found (.int 0) (.ref m_row) (.ref m_bestRow) (.int 0) (.ref m_tape) (.int 0) (.int 0) (.int 0) (.int 0) (.int 0) (.int 0) (.ref m_kinds) (.ref m_items) (.ref m_itemPictures) (.int 0) (.int 0) (.int 0) (.int 0) (.ref m_widths) (.ref m_sizes) (.ref m_numbers) (.ref m_moved) mc_now m_nf mc_found (fun _ => 0) H.size hq10) (cwV 2 hts g_law_y_changes_102 rfl rfl rfl (by decide +kernel) ⟨(Nat.le_of_ble_eq_true rfl), (Nat.le_of_ble_eq_true rfl)⟩) ⟨preM_blind, va_recv hKc hPc (ci := 7) (q0 := 0) rfl rfl, fun U hU hW => ⟨rfl, preM_at hU hW hPc hKc hDc hev⟩⟩ rfl rfl hl.1 rfl (lv_room (Nat.le_of_ble_eq_true rfl)) dL_law_816 ⟨(Nat.le_of_ble_eq_true rfl), (Nat.le_of_ble_eq_true rfl)⟩) hS (fun q _ h => hFc q h) hFc (fun r_2 u t H1 locs ht hvm hw hB hz1 hk1 hS => ?_)
  obtain ⟨hP, hD⟩ := va_join (wr := []) (w1 := []) hP hD [0, 1, 2] [] rfl rfl (by decide) (by decide) hk1 hFc nil_P nil_D
  generalize H1 = H at hP hS ⊢
  have hP : va_P (dC, dI) vwCl [] H := hP
  have hD : va_D A [] := hD
  subst hw
  refine lv_icmp_eq (tgt := 1457) hx hb dL_law_819 (by decide) (fun _ => ?_) (fun c => absurd (by decide) c)
  exact law_tail LC hS (lv_sub hl [0, 3] rfl)

set_option maxHeartbeats 4000000 in
set_option maxRecDepth 100000 in
/-- one call of allow on two new objects -/
theorem law_20 {p : Program} {l : Launch} {e : Env} {s : State} {m : MethodId} {below : List Frame} {meth : Method} {c : Code} {b : Nat} {xs : Nat → Int32} {A : Nat → Prop} {dC : Nat → ClassId} {dI : Nat → Nat → Nat} {ad : Nat → Nat} {H : Heap} {locs : List Loc} {ls : Array Slot} {h0 g0 : Nat} {ah : Nat} {bh : Nat} {sh : Nat} {rh : Nat} {ch : Nat} {ph : Nat} {th : Nat} {a0 : Nat} {a1 : Nat} {a2 : Nat} {a3 : Nat} {a4 : Nat} {tc : ClassId} {m_now : Nat} {m_kept : Nat} {m_pictures : Nat} {m_keptPictures : Nat} {m_found : Nat} {m_row : Nat} {m_bestRow : Nat} {m_tape : Nat} {m_kinds : Nat} {m_items : Nat} {m_itemPictures : Nat} {m_widths : Nat} {m_sizes : Nat} {m_numbers : Nat} {m_moved : Nat} {mc_now : ClassId} {m_nf : Nat → Int32} {mc_found : ClassId} (LC : lawC p s m meth c b xs A ad) (hS : va_S A s.heap H locs) (hq10 : ∀ j, j < 38 → m_nf j = fr_n j) (hP : va_P (dC, dI) vwCl [(h0, .inr (6, [.ref ah, .ref bh, .ref sh, .ref rh, .ref ch, .ref ph, .ref th, .int 0])), (ah, .inr (4, [.int 0, .ref a0, .ref a1, .int 0, .ref a2, .ref a3, .int 0, .ref a4, .int 63])), (th, .inl (tc, 7, .inl (fun _ => 0))), (g0, .inr (7, [.ref m_now, .ref m_kept, .ref m_pictures, .ref m_keptPictures, .int 0, .ref m_found, .int 0, .ref m_row, .ref m_bestRow, .int 0, .ref m_tape, .int 0, .int 0, .int 0, .int 0, .int 0, .int 0, .ref m_kinds, .ref m_items, .ref m_itemPictures, .int 0, .int 0, .int 0, .int 0, .ref m_widths, .ref m_sizes, .ref m_numbers, .ref m_moved])), (m_now, .inl (mc_now, 38, .inl m_nf)), (m_found, .inl (mc_found, 8, .inl (fun _ => 0)))] H) (hK : va_K (dC, dI) vwCl [(tc, .int), (mc_now, .int), (mc_found, .int)] s) (hD : va_D A [(h0, .inr (6, [.ref ah, .ref bh, .ref sh, .ref rh, .ref ch, .ref ph, .ref th, .int 0])), (ah, .inr (4, [.int 0, .ref a0, .ref a1, .int 0, .ref a2, .ref a3, .int 0, .ref a4, .int 63])), (th, .inl (tc, 7, .inl (fun _ => 0))), (g0, .inr (7, [.ref m_now, .ref m_kept, .ref m_pictures, .ref m_keptPictures, .int 0, .ref m_found, .int 0, .ref m_row, .ref m_bestRow, .int 0, .ref m_tape, .int 0, .int 0, .int 0, .int 0, .int 0, .int 0, .ref m_kinds, .ref m_items, .ref m_itemPictures, .int 0, .int 0, .int 0, .int 0, .ref m_widths, .ref m_sizes, .ref m_numbers, .ref m_moved])), (m_now, .inl (mc_now, 38, .inl m_nf)), (m_found, .inl (mc_found, 8, .inl (fun _ => 0)))]) (hl : lv_has ls 4 [(3, .int 0), (2, .ref g0), (1, .ref h0), (0, .ref b)]) : W p l e room_1 s m #[Value.ref b] below meth c H locs 52 1794 (lw_Z below #[Value.ref b] s) (F0 m 824 ls []) := by
  obtain ⟨hx, hb, hr, hml, hown, hts, hX, hbl, hlocks, hA, hA2, hbA, hev, hsf⟩ := id LC
  refine lv_aload_n hx hb dL_law_824 rfl (lv_at hl 2 rfl) ?_
  refine lv_aload_n hx hb dL_law_825 rfl (lv_at hl 3 rfl) ?_
  refine lv_iload_n hx hb dL_law_826 rfl (lv_at hl 0 rfl) ?_
  refine lv_iconst (v := 1) hx hb dL_law_827 (by decide) ?_
  refine lv_iadd hx hb dL_law_828 ?_
  refine pp_ti (y := 1) (by decide) ?_
  refine va_sld hx hb hX hbl hbA hS (vp_in_nI (n := 1) (by decide) (by decide)) dL_law_829 ?_
  refine pp_ti (y := xs 1) rfl ?_
  have hPc := hP.sub (ws' := [(h0, .inr (6, [.ref ah, .ref bh, .ref sh, .ref rh, .ref ch, .ref ph, .ref th, .int 0])), (ah, .inr (4, [.int 0, .ref a0, .ref a1, .int 0, .ref a2, .ref a3, .int 0, .ref a4, .int 63])), (th, .inl (tc, 7, .inl (fun _ => 0)))]) [0, 1, 2] rfl
  have hKc := hK.sub (tys' := [(tc, .int)]) [0] rfl
  have hDc := hD.sub (ws' := [(h0, .inr (6, [.ref ah, .ref bh, .ref sh, .ref rh, .ref ch, .ref ph, .ref th, .int 0])), (ah, .inr (4, [.int 0, .ref a0, .ref a1, .int 0, .ref a2, .ref a3, .int 0, .ref a4, .int 63])), (th, .inl (tc, 7, .inl (fun _ => 0)))]) [0, 1, 2] (by decide) rfl
  have hFc := va_free (wc := [(h0, .inr (6, [.ref ah, .ref bh, .ref sh, .ref rh, .ref ch, .ref ph, .ref th, .int 0])), (ah, .inr (4, [.int 0, .ref a0, .ref a1, .int 0, .ref a2, .ref a3, .int 0, .ref a4, .int 63])), (th, .inl (tc, 7, .inl (fun _ => 0)))]) hD hS hA [0, 1, 2] rfl
  refine va_calli (va_runV (As := [.int (xs 1)]) (rest := []) ⟨hx, hb, hml, hown, hts⟩ (x_allow l dC dI ad h0 (xs 1) ah (.ref bh) (.ref sh) (.ref rh) (.ref ch) (.ref ph) th (.int 0) (.int 0) (.ref a0) (.ref a1) (.int 0) (.ref a2) (.ref a3) (.int 0) (.ref a4) tc (fun _ => 0) H.size ) (cwV 1 hts g_law_x_allow_103 rfl rfl rfl (by decide +kernel) ⟨(Nat.le_of_ble_eq_true rfl), (Nat.le_of_ble_eq_true rfl)⟩) ⟨preM_blind, va_recv hKc hPc (ci := 6) (q0 := 0) rfl rfl, fun U hU hW => ⟨rfl, preM_at hU hW hPc hKc hDc hev⟩⟩ rfl rfl hl.1 rfl (lv_room (Nat.le_of_ble_eq_true rfl)) dL_law_830 ⟨(Nat.le_of_ble_eq_true rfl), (Nat.le_of_ble_eq_true rfl)⟩) hS (fun q _ h => hFc q h) hFc (fun r_1 u t H1 locs ht hvm hw hB hz1 hk1 hS => ?_)
  obtain ⟨hP, hD⟩ := va_join (wr := [(g0, .inr (7, [.ref m_now, .ref m_kept, .ref m_pictures, .ref m_keptPictures, .int 0, .ref m_found, .int 0, .ref m_row, .ref m_bestRow, .int 0, .ref m_tape, .int 0, .int 0, .int 0, .int 0, .int 0, .int 0, .ref m_kinds, .ref m_items, .ref m_itemPictures, .int 0, .int 0, .int 0, .int 0, .ref m_widths, .ref m_sizes, .ref m_numbers, .ref m_moved])), (m_now, .inl (mc_now, 38, .inl m_nf)), (m_found, .inl (mc_found, 8, .inl (fun _ => 0)))]) (w1 := []) hP hD [0, 1, 2] [3, 4, 5] rfl rfl (by decide) (by decide) hk1 hFc nil_P nil_D
  generalize H1 = H at hP hS ⊢
  have hP : va_P (dC, dI) vwCl [(g0, .inr (7, [.ref m_now, .ref m_kept, .ref m_pictures, .ref m_keptPictures, .int 0, .ref m_found, .int 0, .ref m_row, .ref m_bestRow, .int 0, .ref m_tape, .int 0, .int 0, .int 0, .int 0, .int 0, .int 0, .ref m_kinds, .ref m_items, .ref m_itemPictures, .int 0, .int 0, .int 0, .int 0, .ref m_widths, .ref m_sizes, .ref m_numbers, .ref m_moved])), (m_now, .inl (mc_now, 38, .inl m_nf)), (m_found, .inl (mc_found, 8, .inl (fun _ => 0)))] H := hP
  have hD : va_D A [(g0, .inr (7, [.ref m_now, .ref m_kept, .ref m_pictures, .ref m_keptPictures, .int 0, .ref m_found, .int 0, .ref m_row, .ref m_bestRow, .int 0, .ref m_tape, .int 0, .int 0, .int 0, .int 0, .int 0, .int 0, .ref m_kinds, .ref m_items, .ref m_itemPictures, .int 0, .int 0, .int 0, .int 0, .ref m_widths, .ref m_sizes, .ref m_numbers, .ref m_moved])), (m_now, .inl (mc_now, 38, .inl m_nf)), (m_found, .inl (mc_found, 8, .inl (fun _ => 0)))] := hD
  have hr_1 := hw
  refine lv_aload_n hx hb dL_law_833 rfl (lv_at hl 1 rfl) ?_
  refine lv_aload_n hx hb dL_law_834 rfl (lv_at hl 3 rfl) ?_
  refine lv_iload_n hx hb dL_law_835 rfl (lv_at hl 0 rfl) ?_
  refine lv_iconst (v := 1) hx hb dL_law_836 (by decide) ?_
  refine lv_iadd hx hb dL_law_837 ?_
  refine pp_ti (y := 1) (by decide) ?_
  refine va_sld hx hb hX hbl hbA hS (vp_in_nI (n := 1) (by decide) (by decide)) dL_law_838 ?_
  refine pp_ti (y := xs 1) rfl ?_
  have hPc := hP.sub (ws' := [(g0, .inr (7, [.ref m_now, .ref m_kept, .ref m_pictures, .ref m_keptPictures, .int 0, .ref m_found, .int 0, .ref m_row, .ref m_bestRow, .int 0, .ref m_tape, .int 0, .int 0, .int 0, .int 0, .int 0, .int 0, .ref m_kinds, .ref m_items, .ref m_itemPictures, .int 0, .int 0, .int 0, .int 0, .ref m_widths, .ref m_sizes, .ref m_numbers, .ref m_moved])), (m_now, .inl (mc_now, 38, .inl m_nf)), (m_found, .inl (mc_found, 8, .inl (fun _ => 0)))]) [0, 1, 2] rfl
  have hKc := hK.sub (tys' := [(mc_now, .int), (mc_found, .int)]) [1, 2] rfl
  have hDc := hD.sub (ws' := [(g0, .inr (7, [.ref m_now, .ref m_kept, .ref m_pictures, .ref m_keptPictures, .int 0, .ref m_found, .int 0, .ref m_row, .ref m_bestRow, .int 0, .ref m_tape, .int 0, .int 0, .int 0, .int 0, .int 0, .int 0, .ref m_kinds, .ref m_items, .ref m_itemPictures, .int 0, .int 0, .int 0, .int 0, .ref m_widths, .ref m_sizes, .ref m_numbers, .ref m_moved])), (m_now, .inl (mc_now, 38, .inl m_nf)), (m_found, .inl (mc_found, 8, .inl (fun _ => 0)))]) [0, 1, 2] (by decide) rfl
  have hFc := va_free (wc := [(g0, .inr (7, [.ref m_now, .ref m_kept, .ref m_pictures, .ref m_keptPictures, .int 0, .ref m_found, .int 0, .ref m_row, .ref m_bestRow, .int 0, .ref m_tape, .int 0, .int 0, .int 0, .int 0, .int 0, .int 0, .ref m_kinds, .ref m_items, .ref m_itemPictures, .int 0, .int 0, .int 0, .int 0, .ref m_widths, .ref m_sizes, .ref m_numbers, .ref m_moved])), (m_now, .inl (mc_now, 38, .inl m_nf)), (m_found, .inl (mc_found, 8, .inl (fun _ => 0)))]) hD hS hA [0, 1, 2] rfl
  refine va_calli (va_runV (As := [.int (xs 1)]) (rest := [.int r_1]) ⟨hx, hb, hml, hown, hts⟩ (y_allow l dC dI ad g0 (xs 1) m_now (.ref m_kept) (.ref m_pictures) (.ref m_keptPictures) (.int 0) m_found (.int 0) (.ref m_row) (.ref m_bestRow) (.int 0) (.ref m_tape) (.int 0) (.int 0) (.int 0) (.int 0) (.int 0) (.int 0) (.ref m_kinds) (.ref m_items) (.ref m_itemPictures) (.int 0) (.int 0) (.int 0) (.int 0) (.ref m_widths) (.ref m_sizes) (.ref m_numbers) (.ref m_moved) mc_now m_nf mc_found (fun _ => 0) H.size hq10) (cwV 1 hts g_law_y_allow_106 rfl rfl rfl (by decide +kernel) ⟨(Nat.le_of_ble_eq_true rfl), (Nat.le_of_ble_eq_true rfl)⟩) ⟨preM_blind, va_recv hKc hPc (ci := 7) (q0 := 0) rfl rfl, fun U hU hW => ⟨rfl, preM_at hU hW hPc hKc hDc hev⟩⟩ rfl rfl hl.1 rfl (lv_room (Nat.le_of_ble_eq_true rfl)) dL_law_839 ⟨(Nat.le_of_ble_eq_true rfl), (Nat.le_of_ble_eq_true rfl)⟩) hS (fun q _ h => hFc q h) hFc (fun r_2 u t H1 locs ht hvm hw hB hz1 hk1 hS => ?_)
  obtain ⟨hP, hD⟩ := va_join (wr := []) (w1 := []) hP hD [0, 1, 2] [] rfl rfl (by decide) (by decide) hk1 hFc nil_P nil_D
  generalize H1 = H at hP hS ⊢
  have hP : va_P (dC, dI) vwCl [] H := hP
  have hD : va_D A [] := hD
  have hr_2 := hw
  refine lv_icmp_eq (tgt := 1457) hx hb dL_law_842 (by decide) (fun _ => ?_) (fun c => absurd (pp_same2 hr_1 hr_2) c)
  exact law_tail LC hS (lv_sub hl [0, 3] rfl)

set_option maxHeartbeats 4000000 in
set_option maxRecDepth 100000 in
/-- one call of nearest on two new objects -/
theorem law_21 {p : Program} {l : Launch} {e : Env} {s : State} {m : MethodId} {below : List Frame} {meth : Method} {c : Code} {b : Nat} {xs : Nat → Int32} {A : Nat → Prop} {dC : Nat → ClassId} {dI : Nat → Nat → Nat} {ad : Nat → Nat} {H : Heap} {locs : List Loc} {ls : Array Slot} {h0 g0 : Nat} {ah : Nat} {bh : Nat} {sh : Nat} {rh : Nat} {ch : Nat} {ph : Nat} {th : Nat} {a0 : Nat} {a1 : Nat} {a2 : Nat} {a3 : Nat} {a4 : Nat} {tc : ClassId} {m_now : Nat} {m_kept : Nat} {m_pictures : Nat} {m_keptPictures : Nat} {m_found : Nat} {m_row : Nat} {m_bestRow : Nat} {m_tape : Nat} {m_kinds : Nat} {m_items : Nat} {m_itemPictures : Nat} {m_widths : Nat} {m_sizes : Nat} {m_numbers : Nat} {m_moved : Nat} {mc_now : ClassId} {m_nf : Nat → Int32} {mc_found : ClassId} (LC : lawC p s m meth c b xs A ad) (hS : va_S A s.heap H locs) (hq10 : ∀ j, j < 38 → m_nf j = fr_n j) (hP : va_P (dC, dI) vwCl [(h0, .inr (6, [.ref ah, .ref bh, .ref sh, .ref rh, .ref ch, .ref ph, .ref th, .int 0])), (ah, .inr (4, [.int 0, .ref a0, .ref a1, .int 0, .ref a2, .ref a3, .int 0, .ref a4, .int 63])), (th, .inl (tc, 7, .inl (fun _ => 0))), (g0, .inr (7, [.ref m_now, .ref m_kept, .ref m_pictures, .ref m_keptPictures, .int 0, .ref m_found, .int 0, .ref m_row, .ref m_bestRow, .int 0, .ref m_tape, .int 0, .int 0, .int 0, .int 0, .int 0, .int 0, .ref m_kinds, .ref m_items, .ref m_itemPictures, .int 0, .int 0, .int 0, .int 0, .ref m_widths, .ref m_sizes, .ref m_numbers, .ref m_moved])), (m_now, .inl (mc_now, 38, .inl m_nf)), (m_found, .inl (mc_found, 8, .inl (fun _ => 0)))] H) (hK : va_K (dC, dI) vwCl [(tc, .int), (mc_now, .int), (mc_found, .int)] s) (hD : va_D A [(h0, .inr (6, [.ref ah, .ref bh, .ref sh, .ref rh, .ref ch, .ref ph, .ref th, .int 0])), (ah, .inr (4, [.int 0, .ref a0, .ref a1, .int 0, .ref a2, .ref a3, .int 0, .ref a4, .int 63])), (th, .inl (tc, 7, .inl (fun _ => 0))), (g0, .inr (7, [.ref m_now, .ref m_kept, .ref m_pictures, .ref m_keptPictures, .int 0, .ref m_found, .int 0, .ref m_row, .ref m_bestRow, .int 0, .ref m_tape, .int 0, .int 0, .int 0, .int 0, .int 0, .int 0, .ref m_kinds, .ref m_items, .ref m_itemPictures, .int 0, .int 0, .int 0, .int 0, .ref m_widths, .ref m_sizes, .ref m_numbers, .ref m_moved])), (m_now, .inl (mc_now, 38, .inl m_nf)), (m_found, .inl (mc_found, 8, .inl (fun _ => 0)))]) (hl : lv_has ls 4 [(3, .int 0), (2, .ref g0), (1, .ref h0), (0, .ref b)]) : W p l e room_1 s m #[Value.ref b] below meth c H locs 52 1794 (lw_Z below #[Value.ref b] s) (F0 m 847 ls []) := by
  obtain ⟨hx, hb, hr, hml, hown, hts, hX, hbl, hlocks, hA, hA2, hbA, hev, hsf⟩ := id LC
  refine lv_aload_n hx hb dL_law_847 rfl (lv_at hl 2 rfl) ?_
  refine lv_aload_n hx hb dL_law_848 rfl (lv_at hl 3 rfl) ?_
  refine lv_iload_n hx hb dL_law_849 rfl (lv_at hl 0 rfl) ?_
  refine lv_iconst (v := 1) hx hb dL_law_850 (by decide) ?_
  refine lv_iadd hx hb dL_law_851 ?_
  refine pp_ti (y := 1) (by decide) ?_
  refine va_sld hx hb hX hbl hbA hS (vp_in_nI (n := 1) (by decide) (by decide)) dL_law_852 ?_
  refine pp_ti (y := xs 1) rfl ?_
  refine lv_aload_n hx hb dL_law_853 rfl (lv_at hl 3 rfl) ?_
  refine lv_iload_n hx hb dL_law_854 rfl (lv_at hl 0 rfl) ?_
  refine lv_iconst (v := 2) hx hb dL_law_855 (by decide) ?_
  refine lv_iadd hx hb dL_law_856 ?_
  refine pp_ti (y := 2) (by decide) ?_
  refine va_sld hx hb hX hbl hbA hS (vp_in_nI (n := 2) (by decide) (by decide)) dL_law_857 ?_
  refine pp_ti (y := xs 2) rfl ?_
  refine lv_aload_n hx hb dL_law_858 rfl (lv_at hl 3 rfl) ?_
  refine lv_iload_n hx hb dL_law_859 rfl (lv_at hl 0 rfl) ?_
  refine lv_iconst (v := 3) hx hb dL_law_860 (by decide) ?_
  refine lv_iadd hx hb dL_law_861 ?_
  refine pp_ti (y := 3) (by decide) ?_
  refine va_sld hx hb hX hbl hbA hS (vp_in_nI (n := 3) (by decide) (by decide)) dL_law_862 ?_
  refine pp_ti (y := xs 3) rfl ?_
  have hPc := hP.sub (ws' := [(h0, .inr (6, [.ref ah, .ref bh, .ref sh, .ref rh, .ref ch, .ref ph, .ref th, .int 0])), (ah, .inr (4, [.int 0, .ref a0, .ref a1, .int 0, .ref a2, .ref a3, .int 0, .ref a4, .int 63])), (th, .inl (tc, 7, .inl (fun _ => 0)))]) [0, 1, 2] rfl
  have hKc := hK.sub (tys' := [(tc, .int)]) [0] rfl
  have hDc := hD.sub (ws' := [(h0, .inr (6, [.ref ah, .ref bh, .ref sh, .ref rh, .ref ch, .ref ph, .ref th, .int 0])), (ah, .inr (4, [.int 0, .ref a0, .ref a1, .int 0, .ref a2, .ref a3, .int 0, .ref a4, .int 63])), (th, .inl (tc, 7, .inl (fun _ => 0)))]) [0, 1, 2] (by decide) rfl
  have hFc := va_free (wc := [(h0, .inr (6, [.ref ah, .ref bh, .ref sh, .ref rh, .ref ch, .ref ph, .ref th, .int 0])), (ah, .inr (4, [.int 0, .ref a0, .ref a1, .int 0, .ref a2, .ref a3, .int 0, .ref a4, .int 63])), (th, .inl (tc, 7, .inl (fun _ => 0)))]) hD hS hA [0, 1, 2] rfl
  refine va_calli (va_runV (As := [.int (xs 1), .int (xs 2), .int (xs 3)]) (rest := []) ⟨hx, hb, hml, hown, hts⟩ (x_nearest l dC dI ad h0 (xs 1) (xs 2) (xs 3) ah (.ref bh) (.ref sh) (.ref rh) (.ref ch) (.ref ph) th (.int 0) (.ref a0) (.ref a1) (.int 0) (.ref a2) (.ref a3) (.int 0) (.ref a4) (.int 63) tc (fun _ => 0) H.size ) (cwV 3 hts g_law_x_nearest_107 rfl rfl rfl (by decide +kernel) ⟨(Nat.le_of_ble_eq_true rfl), (Nat.le_of_ble_eq_true rfl)⟩) ⟨preM_blind, va_recv hKc hPc (ci := 6) (q0 := 0) rfl rfl, fun U hU hW => ⟨rfl, preM_at hU hW hPc hKc hDc hev⟩⟩ rfl rfl hl.1 rfl (lv_room (Nat.le_of_ble_eq_true rfl)) dL_law_863 ⟨(Nat.le_of_ble_eq_true rfl), (Nat.le_of_ble_eq_true rfl)⟩) hS (fun q _ h => hFc q h) hFc (fun r_1 u t H1 locs ht hvm hw hB hz1 hk1 hS => ?_)
  obtain ⟨hP, hD⟩ := va_join (wr := [(g0, .inr (7, [.ref m_now, .ref m_kept, .ref m_pictures, .ref m_keptPictures, .int 0, .ref m_found, .int 0, .ref m_row, .ref m_bestRow, .int 0, .ref m_tape, .int 0, .int 0, .int 0, .int 0, .int 0, .int 0, .ref m_kinds, .ref m_items, .ref m_itemPictures, .int 0, .int 0, .int 0, .int 0, .ref m_widths, .ref m_sizes, .ref m_numbers, .ref m_moved])), (m_now, .inl (mc_now, 38, .inl m_nf)), (m_found, .inl (mc_found, 8, .inl (fun _ => 0)))]) (w1 := []) hP hD [0, 1, 2] [3, 4, 5] rfl rfl (by decide) (by decide) hk1 hFc nil_P nil_D
  generalize H1 = H at hP hS ⊢
  have hP : va_P (dC, dI) vwCl [(g0, .inr (7, [.ref m_now, .ref m_kept, .ref m_pictures, .ref m_keptPictures, .int 0, .ref m_found, .int 0, .ref m_row, .ref m_bestRow, .int 0, .ref m_tape, .int 0, .int 0, .int 0, .int 0, .int 0, .int 0, .ref m_kinds, .ref m_items, .ref m_itemPictures, .int 0, .int 0, .int 0, .int 0, .ref m_widths, .ref m_sizes, .ref m_numbers, .ref m_moved])), (m_now, .inl (mc_now, 38, .inl m_nf)), (m_found, .inl (mc_found, 8, .inl (fun _ => 0)))] H := hP
  have hD : va_D A [(g0, .inr (7, [.ref m_now, .ref m_kept, .ref m_pictures, .ref m_keptPictures, .int 0, .ref m_found, .int 0, .ref m_row, .ref m_bestRow, .int 0, .ref m_tape, .int 0, .int 0, .int 0, .int 0, .int 0, .int 0, .ref m_kinds, .ref m_items, .ref m_itemPictures, .int 0, .int 0, .int 0, .int 0, .ref m_widths, .ref m_sizes, .ref m_numbers, .ref m_moved])), (m_now, .inl (mc_now, 38, .inl m_nf)), (m_found, .inl (mc_found, 8, .inl (fun _ => 0)))] := hD
  subst hw
  refine lv_aload_n hx hb dL_law_866 rfl (lv_at hl 1 rfl) ?_
  refine lv_aload_n hx hb dL_law_867 rfl (lv_at hl 3 rfl) ?_
  refine lv_iload_n hx hb dL_law_868 rfl (lv_at hl 0 rfl) ?_
  refine lv_iconst (v := 1) hx hb dL_law_869 (by decide) ?_
  refine lv_iadd hx hb dL_law_870 ?_
  refine pp_ti (y := 1) (by decide) ?_
  refine va_sld hx hb hX hbl hbA hS (vp_in_nI (n := 1) (by decide) (by decide)) dL_law_871 ?_
  refine pp_ti (y := xs 1) rfl ?_
  refine lv_aload_n hx hb dL_law_872 rfl (lv_at hl 3 rfl) ?_
  refine lv_iload_n hx hb dL_law_873 rfl (lv_at hl 0 rfl) ?_
  refine lv_iconst (v := 2) hx hb dL_law_874 (by decide) ?_
  refine lv_iadd hx hb dL_law_875 ?_
  refine pp_ti (y := 2) (by decide) ?_
  refine va_sld hx hb hX hbl hbA hS (vp_in_nI (n := 2) (by decide) (by decide)) dL_law_876 ?_
  refine pp_ti (y := xs 2) rfl ?_
  refine lv_aload_n hx hb dL_law_877 rfl (lv_at hl 3 rfl) ?_
  refine lv_iload_n hx hb dL_law_878 rfl (lv_at hl 0 rfl) ?_
  refine lv_iconst (v := 3) hx hb dL_law_879 (by decide) ?_
  refine lv_iadd hx hb dL_law_880 ?_
  refine pp_ti (y := 3) (by decide) ?_
  refine va_sld hx hb hX hbl hbA hS (vp_in_nI (n := 3) (by decide) (by decide)) dL_law_881 ?_
  refine pp_ti (y := xs 3) rfl ?_
  have hPc := hP.sub (ws' := [(g0, .inr (7, [.ref m_now, .ref m_kept, .ref m_pictures, .ref m_keptPictures, .int 0, .ref m_found, .int 0, .ref m_row, .ref m_bestRow, .int 0, .ref m_tape, .int 0, .int 0, .int 0, .int 0, .int 0, .int 0, .ref m_kinds, .ref m_items, .ref m_itemPictures, .int 0, .int 0, .int 0, .int 0, .ref m_widths, .ref m_sizes, .ref m_numbers, .ref m_moved])), (m_now, .inl (mc_now, 38, .inl m_nf)), (m_found, .inl (mc_found, 8, .inl (fun _ => 0)))]) [0, 1, 2] rfl
  have hKc := hK.sub (tys' := [(mc_now, .int), (mc_found, .int)]) [1, 2] rfl
  have hDc := hD.sub (ws' := [(g0, .inr (7, [.ref m_now, .ref m_kept, .ref m_pictures, .ref m_keptPictures, .int 0, .ref m_found, .int 0, .ref m_row, .ref m_bestRow, .int 0, .ref m_tape, .int 0, .int 0, .int 0, .int 0, .int 0, .int 0, .ref m_kinds, .ref m_items, .ref m_itemPictures, .int 0, .int 0, .int 0, .int 0, .ref m_widths, .ref m_sizes, .ref m_numbers, .ref m_moved])), (m_now, .inl (mc_now, 38, .inl m_nf)), (m_found, .inl (mc_found, 8, .inl (fun _ => 0)))]) [0, 1, 2] (by decide) rfl
  have hFc := va_free (wc := [(g0, .inr (7, [.ref m_now, .ref m_kept, .ref m_pictures, .ref m_keptPictures, .int 0, .ref m_found, .int 0, .ref m_row, .ref m_bestRow, .int 0, .ref m_tape, .int 0, .int 0, .int 0, .int 0, .int 0, .int 0, .ref m_kinds, .ref m_items, .ref m_itemPictures, .int 0, .int 0, .int 0, .int 0, .ref m_widths, .ref m_sizes, .ref m_numbers, .ref m_moved])), (m_now, .inl (mc_now, 38, .inl m_nf)), (m_found, .inl (mc_found, 8, .inl (fun _ => 0)))]) hD hS hA [0, 1, 2] rfl
  refine va_calli (va_runV (As := [.int (xs 1), .int (xs 2), .int (xs 3)]) (rest := [.int (-1000000001)]) ⟨hx, hb, hml, hown, hts⟩ (y_nearest l dC dI ad g0 (xs 1) (xs 2) (xs 3) m_now (.ref m_kept) (.ref m_pictures) (.ref m_keptPictures) (.int 0) m_found (.int 0) (.ref m_row) (.ref m_bestRow) (.int 0) (.ref m_tape) (.int 0) (.int 0) (.int 0) (.int 0) (.int 0) (.int 0) (.ref m_kinds) (.ref m_items) (.ref m_itemPictures) (.int 0) (.int 0) (.int 0) (.int 0) (.ref m_widths) (.ref m_sizes) (.ref m_numbers) (.ref m_moved) mc_now m_nf mc_found (fun _ => 0) H.size hq10) (cwV 3 hts g_law_y_nearest_111 rfl rfl rfl (by decide +kernel) ⟨(Nat.le_of_ble_eq_true rfl), (Nat.le_of_ble_eq_true rfl)⟩) ⟨preM_blind, va_recv hKc hPc (ci := 7) (q0 := 0) rfl rfl, fun U hU hW => ⟨rfl, preM_at hU hW hPc hKc hDc hev⟩⟩ rfl rfl hl.1 rfl (lv_room (Nat.le_of_ble_eq_true rfl)) dL_law_882 ⟨(Nat.le_of_ble_eq_true rfl), (Nat.le_of_ble_eq_true rfl)⟩) hS (fun q _ h => hFc q h) hFc (fun r_2 u t H1 locs ht hvm hw hB hz1 hk1 hS => ?_)
  obtain ⟨hP, hD⟩ := va_join (wr := []) (w1 := []) hP hD [0, 1, 2] [] rfl rfl (by decide) (by decide) hk1 hFc nil_P nil_D
  generalize H1 = H at hP hS ⊢
  have hP : va_P (dC, dI) vwCl [] H := hP
  have hD : va_D A [] := hD
  subst hw
  refine lv_icmp_eq (tgt := 1457) hx hb dL_law_885 (by decide) (fun _ => ?_) (fun c => absurd (by decide) c)
  exact law_tail LC hS (lv_sub hl [0, 3] rfl)

