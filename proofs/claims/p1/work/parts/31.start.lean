set_option maxHeartbeats 4000000 in
set_option maxRecDepth 100000 in
theorem whole_start {p : Program} {e : Env} {s : State} {m : MethodId} {below : List Frame} {meth : Method} {c : Code} (l : Launch) (hflags : l.flags = flags0) {b L : Nat} {xs : Nat → Int32} (hL : L ≤ 6) (C0 : lw_At p s m meth c b L xs) : W p l e room_1 s m #[Value.ref b] below meth c s.heap [] 0 0 (lw_Z below #[Value.ref b] s) (entryFrame m ([Value.ref b] : List Value).toArray 4) := by
  obtain ⟨hx, hb, hr, hml, hown, hts0, hX, hbl, hlocks, hgv⟩ := id C0
  have hown : s.vm.findClass RL = some m.cls := hown
  obtain ⟨A, hAd⟩ : ∃ A : Nat → Prop, A = fun q : Nat => s.heap.size ≤ q := ⟨_, rfl⟩
  have hA : ∀ q : Nat, s.heap.size ≤ q → A q := fun q h => by rw [hAd]; exact h
  have hA2 : ∀ q : Nat, A q → s.heap.size ≤ q := fun q h => by rw [hAd] at h; exact h
  have hbA : ¬ A b := fun h => absurd (hA2 b h) (Nat.not_le.mpr hbl)
  have hts : ∀ w ∈ w_law, w.before #[Value.ref b] s = true := fun w h => hts0 w (w_law_in w h)
  obtain ⟨ad, hev, hsf⟩ := law_env (A := A) hts0 hgv (fun a h1 h2 => absurd (hA2 a h2) (Nat.not_le.mpr h1))
  obtain ⟨cc0, iS0, hKn0⟩ := u_known (C := RX2) (T := TX2) (N := 3) (n := 3) hts lawin_X2 (hts _ (List.mem_of_getElem? (i := 654) rfl))
  obtain ⟨cc1, iS1, hKn1⟩ := u_known (C := RX3) (T := TX3) (N := 3) (n := 3) hts lawin_X3 (hts _ (List.mem_of_getElem? (i := 655) rfl))
  obtain ⟨cc2, iS2, hKn2⟩ := u_known (C := RX4) (T := TX4) (N := 6) (n := 6) hts lawin_X4 (hts _ (List.mem_of_getElem? (i := 656) rfl))
  obtain ⟨cc3, iS3, hKn3⟩ := u_known (C := RX5) (T := TX5) (N := 2) (n := 2) hts lawin_X5 (hts _ (List.mem_of_getElem? (i := 657) rfl))
  obtain ⟨cc4, iS4, hKn4⟩ := u_known (C := RX6) (T := TX6) (N := 9) (n := 9) hts lawin_X6 (hts _ (List.mem_of_getElem? (i := 658) rfl))
  obtain ⟨cc5, iS5, hKn5⟩ := u_known (C := RX7) (T := TX7) (N := 2) (n := 2) hts lawin_X7 (hts _ (List.mem_of_getElem? (i := 659) rfl))
  obtain ⟨cc6, iS6, hKn6⟩ := u_known (C := RX8) (T := TX8) (N := 8) (n := 8) hts lawin_X8 (hts _ (List.mem_of_getElem? (i := 660) rfl))
  obtain ⟨cc7, iS7, hKn7⟩ := u_known (C := RX9) (T := TX9) (N := 28) (n := 28) hts lawin_X9 (hts _ (List.mem_of_getElem? (i := 661) rfl))
  obtain ⟨dC, dI, hKc⟩ : ∃ (dC : Nat → ClassId) (dI : Nat → Nat → Nat), ∀ (k : Nat) (q : vw_C), vwCl[k]? = some q → u_Kn s q.1 q.2.1 q.2.2 (dC k) (dI k) := by
    refine ⟨fun k => match k with | 0 => cc0 | 1 => cc1 | 2 => cc2 | 3 => cc3 | 4 => cc4 | 5 => cc5 | 6 => cc6 | _ => cc7, fun k => match k with | 0 => iS0 | 1 => iS1 | 2 => iS2 | 3 => iS3 | 4 => iS4 | 5 => iS5 | 6 => iS6 | _ => iS7, ?_⟩
    intro k q hq
    match k, hq with
    | 0, hq => cases hq; exact hKn0
    | 1, hq => cases hq; exact hKn1
    | 2, hq => cases hq; exact hKn2
    | 3, hq => cases hq; exact hKn3
    | 4, hq => cases hq; exact hKn4
    | 5, hq => cases hq; exact hKn5
    | 6, hq => cases hq; exact hKn6
    | 7, hq => cases hq; exact hKn7
    | k + 8, hq => simp [vwCl] at hq
  have hS : va_S A s.heap s.heap [] := va_S.rf
  have hK : va_K (dC, dI) vwCl [] s := ⟨hKc, fun k q h => by simp at h⟩
  have hP : va_P (dC, dI) vwCl [] s.heap := nil_P
  have hD : va_D A [] := nil_D
  have inX8 := lawin_X8
  have inX9 := lawin_X9
  have hl := lv_entry ([.ref b]) (n := 4) (Nat.le_of_ble_eq_true rfl)
  rw [lg_entry_eq]
  generalize (lg_sl ([.ref b]) ++ List.replicate (4 - (lg_sl ([.ref b])).length) Slot.unset).toArray = ls at hl ⊢
  have hl : lv_has ls 4 [(0, .ref b)] := hl
  refine va_new (ci := 6) (fs := [.null, .null, .null, .null, .null, .null, .null, .int 0]) (C := RX8) (T := TX8) (N := 8) hx hb hts inX8 tyX8 tyX8_ok hown (hts _ (List.mem_of_getElem? (i := 662) rfl)) (hts _ (List.mem_of_getElem? (i := 660) rfl)) (hts _ (List.mem_of_getElem? (i := 3) rfl)) hK hP hD hS hA rfl (fun j hj => by match j, hj with | 0, _ => rfl | 1, _ => rfl | 2, _ => rfl | 3, _ => rfl | 4, _ => rfl | 5, _ => rfl | 6, _ => rfl | 7, _ => rfl | (j + 8), hj => omega) (Nat.le_of_ble_eq_true rfl) (Nat.le_of_ble_eq_true rfl) dL_law_0 (fun q_1 H hP hD hS => ?_)
  refine W.widen (k := 1) (n := 8) (Nat.le_of_ble_eq_true rfl) (Nat.le_of_ble_eq_true rfl) ?_
  have hP : va_P (dC, dI) vwCl [(q_1, .inr (6, [.null, .null, .null, .null, .null, .null, .null, .int 0]))] H := hP
  have hD : va_D A [(q_1, .inr (6, [.null, .null, .null, .null, .null, .null, .null, .int 0]))] := hD
  refine lv_dup hx hb dL_law_3 rfl ?_
  have hPc := hP.sub (ws' := [(q_1, .inr (6, [.null, .null, .null, .null, .null, .null, .null, .int 0]))]) [0] rfl
  have hKc := hK.sub (tys' := []) [] rfl
  have hDc := hD.sub (ws' := [(q_1, .inr (6, [.null, .null, .null, .null, .null, .null, .null, .int 0]))]) [0] (by decide) rfl
  have hFc := va_free (wc := [(q_1, .inr (6, [.null, .null, .null, .null, .null, .null, .null, .int 0]))]) hD hS hA [0] rfl
  refine va_callv (va_runI (As := []) (rest := [.ref q_1]) ⟨hx, hb, hml, hown, hts⟩ (c_X8_init l dC dI ad q_1 H.size ) (cwI 0 hts g_law_c_X8_init_9 rfl rfl rfl (hts _ (List.mem_of_getElem? (i := 3) rfl)) (hts _ (List.mem_of_getElem? (i := 704) rfl)) (hts _ (List.mem_of_getElem? (i := 705) rfl)) rfl (by decide +kernel) ⟨(Nat.le_of_ble_eq_true rfl), (Nat.le_of_ble_eq_true rfl)⟩) ⟨preM_blind, fun U hU hW => ⟨rfl, preM_at hU hW hPc hKc hDc hev⟩⟩ rfl rfl hl.1 rfl (lv_room (Nat.le_of_ble_eq_true rfl)) dL_law_4 ⟨(Nat.le_of_ble_eq_true rfl), (Nat.le_of_ble_eq_true rfl)⟩) hS (fun q _ h => hFc q h) hFc (fun u t H1 locs ht hvm hw hB hz1 hk1 hS => ?_)
  refine W.widen (k := 36) (n := 840) (Nat.le_of_ble_eq_true rfl) (Nat.le_of_ble_eq_true rfl) ?_
  obtain ⟨a_3, a_4, a_5, a_6, a_7, ac_8, ac_9, ac_10, ac_11, ac_12, af_13, ag_14, b_15, b_16, b_17, b_18, b_19, bc_20, bc_21, bc_22, bc_23, bc_24, bf_25, bg_26, d_27, d_28, d_29, d_30, d_31, dc_32, dc_33, dc_34, dc_35, dc_36, df_37, dg_38, ah_39, bh_40, dh_41, sh_42, rh_43, r_44, r_45, ch_46, eh_47, e_48, ph_49, th_50, p_51, p_52, p_53, p_54, n_55, n_56, n_57, n_58, rc_59, rc_60, ec_61, pc_62, tc_63, nc_64, nc_65, nc_66, nc_67, pf_68, hq_69, hq_70, hq_71, hq_72, hq_73, hq_74, hq_75, hq_76, hq_77, hq_78, hP1, hK1, hD1⟩ := hB
  rw [ht] at hP1
  have hK1 := va_K.moved hvm.symm hK1
  obtain ⟨hP, hD⟩ := va_join (wr := []) (w1 := [(q_1, .inr (6, [.ref ah_39, .ref bh_40, .ref sh_42, .ref rh_43, .ref ch_46, .ref ph_49, .ref th_50, .int 0])), (ah_39, .inr (4, [.int 0, .ref a_3, .ref a_4, .int 0, .ref a_5, .ref a_6, .int 0, .ref a_7, .int 63])), (a_3, .inl (ac_8, 9, .inl (fun _ => 0))), (a_4, .inl (ac_9, 9, .inl (fun _ => 0))), (a_5, .inl (ac_10, 4, .inl af_13)), (a_6, .inl (ac_11, 4, .inl ag_14)), (a_7, .inl (ac_12, 7, .inr (.inl (fun _ => 0)))), (bh_40, .inr (4, [.int 0, .ref b_15, .ref b_16, .int 0, .ref b_17, .ref b_18, .int 0, .ref b_19, .int 63])), (b_15, .inl (bc_20, 9, .inl (fun _ => 0))), (b_16, .inl (bc_21, 9, .inl (fun _ => 0))), (b_17, .inl (bc_22, 4, .inl bf_25)), (b_18, .inl (bc_23, 4, .inl bg_26)), (b_19, .inl (bc_24, 7, .inr (.inl (fun _ => 0)))), (sh_42, .inr (3, [.int (-1), .int 65])), (rh_43, .inr (1, [.int 0, .ref r_44, .ref r_45])), (r_44, .inl (rc_59, 6, .inl (fun _ => 0))), (r_45, .inl (rc_60, 384, .inl (fun _ => 0))), (ch_46, .inr (2, [.ref eh_47, .ref dh_41, .int 0, .int 0, .int 0, .long 0])), (eh_47, .inr (5, [.int 0, .ref e_48])), (e_48, .inl (ec_61, 120, .inl (fun _ => 0))), (dh_41, .inr (4, [.int 0, .ref d_27, .ref d_28, .int 0, .ref d_29, .ref d_30, .int 0, .ref d_31, .int 63])), (d_27, .inl (dc_32, 9, .inl (fun _ => 0))), (d_28, .inl (dc_33, 9, .inl (fun _ => 0))), (d_29, .inl (dc_34, 4, .inl df_37)), (d_30, .inl (dc_35, 4, .inl dg_38)), (d_31, .inl (dc_36, 7, .inr (.inl (fun _ => 0)))), (ph_49, .inl (pc_62, 4, .inr (.inr (.inr (.inr pf_68))))), (th_50, .inl (tc_63, 7, .inl (fun _ => 0))), (p_51, .inr (0, [.int 0, .int 0, .ref n_55])), (n_55, .inl (nc_64, 40, .inr (.inl (fun _ => 0)))), (p_52, .inr (0, [.int 0, .int 0, .ref n_56])), (n_56, .inl (nc_65, 40, .inr (.inl (fun _ => 0)))), (p_53, .inr (0, [.int 0, .int 0, .ref n_57])), (n_57, .inl (nc_66, 40, .inr (.inl (fun _ => 0)))), (p_54, .inr (0, [.int 0, .int 0, .ref n_58])), (n_58, .inl (nc_67, 40, .inr (.inl (fun _ => 0))))]) hP hD [0] [] rfl rfl (by decide) (by decide) hk1 hFc hP1 hD1
  have hK := hK.app (hK1.sub (tys' := [(ac_8, .int), (ac_9, .int), (ac_10, .int), (ac_11, .int), (ac_12, .long), (bc_20, .int), (bc_21, .int), (bc_22, .int), (bc_23, .int), (bc_24, .long), (rc_59, .int), (rc_60, .int), (ec_61, .int), (dc_32, .int), (dc_33, .int), (dc_34, .int), (dc_35, .int), (dc_36, .long), (pc_62, .object "LampShapes$Paper"), (tc_63, .int), (nc_64, .long), (nc_65, .long), (nc_66, .long), (nc_67, .long)]) [0, 1, 2, 3, 4, 5, 6, 7, 8, 9, 10, 11, 12, 13, 14, 15, 16, 17, 18, 19, 20, 21, 22, 23] rfl)
  have hK : va_K (dC, dI) vwCl [(ac_8, .int), (ac_9, .int), (ac_10, .int), (ac_11, .int), (ac_12, .long), (bc_20, .int), (bc_21, .int), (bc_22, .int), (bc_23, .int), (bc_24, .long), (rc_59, .int), (rc_60, .int), (ec_61, .int), (dc_32, .int), (dc_33, .int), (dc_34, .int), (dc_35, .int), (dc_36, .long), (pc_62, .object "LampShapes$Paper"), (tc_63, .int), (nc_64, .long), (nc_65, .long), (nc_66, .long), (nc_67, .long)] s := hK
  generalize H1 = H at hP hS ⊢
  have hP : va_P (dC, dI) vwCl [(q_1, .inr (6, [.ref ah_39, .ref bh_40, .ref sh_42, .ref rh_43, .ref ch_46, .ref ph_49, .ref th_50, .int 0])), (ah_39, .inr (4, [.int 0, .ref a_3, .ref a_4, .int 0, .ref a_5, .ref a_6, .int 0, .ref a_7, .int 63])), (a_3, .inl (ac_8, 9, .inl (fun _ => 0))), (a_4, .inl (ac_9, 9, .inl (fun _ => 0))), (a_5, .inl (ac_10, 4, .inl af_13)), (a_6, .inl (ac_11, 4, .inl ag_14)), (a_7, .inl (ac_12, 7, .inr (.inl (fun _ => 0)))), (bh_40, .inr (4, [.int 0, .ref b_15, .ref b_16, .int 0, .ref b_17, .ref b_18, .int 0, .ref b_19, .int 63])), (b_15, .inl (bc_20, 9, .inl (fun _ => 0))), (b_16, .inl (bc_21, 9, .inl (fun _ => 0))), (b_17, .inl (bc_22, 4, .inl bf_25)), (b_18, .inl (bc_23, 4, .inl bg_26)), (b_19, .inl (bc_24, 7, .inr (.inl (fun _ => 0)))), (sh_42, .inr (3, [.int (-1), .int 65])), (rh_43, .inr (1, [.int 0, .ref r_44, .ref r_45])), (r_44, .inl (rc_59, 6, .inl (fun _ => 0))), (r_45, .inl (rc_60, 384, .inl (fun _ => 0))), (ch_46, .inr (2, [.ref eh_47, .ref dh_41, .int 0, .int 0, .int 0, .long 0])), (eh_47, .inr (5, [.int 0, .ref e_48])), (e_48, .inl (ec_61, 120, .inl (fun _ => 0))), (dh_41, .inr (4, [.int 0, .ref d_27, .ref d_28, .int 0, .ref d_29, .ref d_30, .int 0, .ref d_31, .int 63])), (d_27, .inl (dc_32, 9, .inl (fun _ => 0))), (d_28, .inl (dc_33, 9, .inl (fun _ => 0))), (d_29, .inl (dc_34, 4, .inl df_37)), (d_30, .inl (dc_35, 4, .inl dg_38)), (d_31, .inl (dc_36, 7, .inr (.inl (fun _ => 0)))), (ph_49, .inl (pc_62, 4, .inr (.inr (.inr (.inr pf_68))))), (th_50, .inl (tc_63, 7, .inl (fun _ => 0))), (p_51, .inr (0, [.int 0, .int 0, .ref n_55])), (n_55, .inl (nc_64, 40, .inr (.inl (fun _ => 0)))), (p_52, .inr (0, [.int 0, .int 0, .ref n_56])), (n_56, .inl (nc_65, 40, .inr (.inl (fun _ => 0)))), (p_53, .inr (0, [.int 0, .int 0, .ref n_57])), (n_57, .inl (nc_66, 40, .inr (.inl (fun _ => 0)))), (p_54, .inr (0, [.int 0, .int 0, .ref n_58])), (n_58, .inl (nc_67, 40, .inr (.inl (fun _ => 0))))] H := hP
  have hD : va_D A [(q_1, .inr (6, [.ref ah_39, .ref bh_40, .ref sh_42, .ref rh_43, .ref ch_46, .ref ph_49, .ref th_50, .int 0])), (ah_39, .inr (4, [.int 0, .ref a_3, .ref a_4, .int 0, .ref a_5, .ref a_6, .int 0, .ref a_7, .int 63])), (a_3, .inl (ac_8, 9, .inl (fun _ => 0))), (a_4, .inl (ac_9, 9, .inl (fun _ => 0))), (a_5, .inl (ac_10, 4, .inl af_13)), (a_6, .inl (ac_11, 4, .inl ag_14)), (a_7, .inl (ac_12, 7, .inr (.inl (fun _ => 0)))), (bh_40, .inr (4, [.int 0, .ref b_15, .ref b_16, .int 0, .ref b_17, .ref b_18, .int 0, .ref b_19, .int 63])), (b_15, .inl (bc_20, 9, .inl (fun _ => 0))), (b_16, .inl (bc_21, 9, .inl (fun _ => 0))), (b_17, .inl (bc_22, 4, .inl bf_25)), (b_18, .inl (bc_23, 4, .inl bg_26)), (b_19, .inl (bc_24, 7, .inr (.inl (fun _ => 0)))), (sh_42, .inr (3, [.int (-1), .int 65])), (rh_43, .inr (1, [.int 0, .ref r_44, .ref r_45])), (r_44, .inl (rc_59, 6, .inl (fun _ => 0))), (r_45, .inl (rc_60, 384, .inl (fun _ => 0))), (ch_46, .inr (2, [.ref eh_47, .ref dh_41, .int 0, .int 0, .int 0, .long 0])), (eh_47, .inr (5, [.int 0, .ref e_48])), (e_48, .inl (ec_61, 120, .inl (fun _ => 0))), (dh_41, .inr (4, [.int 0, .ref d_27, .ref d_28, .int 0, .ref d_29, .ref d_30, .int 0, .ref d_31, .int 63])), (d_27, .inl (dc_32, 9, .inl (fun _ => 0))), (d_28, .inl (dc_33, 9, .inl (fun _ => 0))), (d_29, .inl (dc_34, 4, .inl df_37)), (d_30, .inl (dc_35, 4, .inl dg_38)), (d_31, .inl (dc_36, 7, .inr (.inl (fun _ => 0)))), (ph_49, .inl (pc_62, 4, .inr (.inr (.inr (.inr pf_68))))), (th_50, .inl (tc_63, 7, .inl (fun _ => 0))), (p_51, .inr (0, [.int 0, .int 0, .ref n_55])), (n_55, .inl (nc_64, 40, .inr (.inl (fun _ => 0)))), (p_52, .inr (0, [.int 0, .int 0, .ref n_56])), (n_56, .inl (nc_65, 40, .inr (.inl (fun _ => 0)))), (p_53, .inr (0, [.int 0, .int 0, .ref n_57])), (n_57, .inl (nc_66, 40, .inr (.inl (fun _ => 0)))), (p_54, .inr (0, [.int 0, .int 0, .ref n_58])), (n_58, .inl (nc_67, 40, .inr (.inl (fun _ => 0))))] := hD
  refine lv_astore_n (lv' := [(1, .ref q_1), (0, .ref b)]) hx hb dL_law_7 rfl hl (by decide) rfl (fun ls hl => ?_)
  refine va_new (ci := 7) (fs := [.null, .null, .null, .null, .int 0, .null, .int 0, .null, .null, .int 0, .null, .int 0, .int 0, .int 0, .int 0, .int 0, .int 0, .null, .null, .null, .int 0, .int 0, .int 0, .int 0, .null, .null, .null, .null]) (C := RX9) (T := TX9) (N := 28) hx hb hts inX9 tyX9 tyX9_ok hown (hts _ (List.mem_of_getElem? (i := 706) rfl)) (hts _ (List.mem_of_getElem? (i := 661) rfl)) (hts _ (List.mem_of_getElem? (i := 34) rfl)) hK hP hD hS hA rfl (fun j hj => by match j, hj with | 0, _ => rfl | 1, _ => rfl | 2, _ => rfl | 3, _ => rfl | 4, _ => rfl | 5, _ => rfl | 6, _ => rfl | 7, _ => rfl | 8, _ => rfl | 9, _ => rfl | 10, _ => rfl | 11, _ => rfl | 12, _ => rfl | 13, _ => rfl | 14, _ => rfl | 15, _ => rfl | 16, _ => rfl | 17, _ => rfl | 18, _ => rfl | 19, _ => rfl | 20, _ => rfl | 21, _ => rfl | 22, _ => rfl | 23, _ => rfl | 24, _ => rfl | 25, _ => rfl | 26, _ => rfl | 27, _ => rfl | (j + 28), hj => omega) (Nat.le_of_ble_eq_true rfl) (Nat.le_of_ble_eq_true rfl) dL_law_8 (fun q_79 H hP hD hS => ?_)
  refine W.widen (k := 37) (n := 868) (Nat.le_of_ble_eq_true rfl) (Nat.le_of_ble_eq_true rfl) ?_
  have hP : va_P (dC, dI) vwCl [(q_1, .inr (6, [.ref ah_39, .ref bh_40, .ref sh_42, .ref rh_43, .ref ch_46, .ref ph_49, .ref th_50, .int 0])), (ah_39, .inr (4, [.int 0, .ref a_3, .ref a_4, .int 0, .ref a_5, .ref a_6, .int 0, .ref a_7, .int 63])), (a_3, .inl (ac_8, 9, .inl (fun _ => 0))), (a_4, .inl (ac_9, 9, .inl (fun _ => 0))), (a_5, .inl (ac_10, 4, .inl af_13)), (a_6, .inl (ac_11, 4, .inl ag_14)), (a_7, .inl (ac_12, 7, .inr (.inl (fun _ => 0)))), (bh_40, .inr (4, [.int 0, .ref b_15, .ref b_16, .int 0, .ref b_17, .ref b_18, .int 0, .ref b_19, .int 63])), (b_15, .inl (bc_20, 9, .inl (fun _ => 0))), (b_16, .inl (bc_21, 9, .inl (fun _ => 0))), (b_17, .inl (bc_22, 4, .inl bf_25)), (b_18, .inl (bc_23, 4, .inl bg_26)), (b_19, .inl (bc_24, 7, .inr (.inl (fun _ => 0)))), (sh_42, .inr (3, [.int (-1), .int 65])), (rh_43, .inr (1, [.int 0, .ref r_44, .ref r_45])), (r_44, .inl (rc_59, 6, .inl (fun _ => 0))), (r_45, .inl (rc_60, 384, .inl (fun _ => 0))), (ch_46, .inr (2, [.ref eh_47, .ref dh_41, .int 0, .int 0, .int 0, .long 0])), (eh_47, .inr (5, [.int 0, .ref e_48])), (e_48, .inl (ec_61, 120, .inl (fun _ => 0))), (dh_41, .inr (4, [.int 0, .ref d_27, .ref d_28, .int 0, .ref d_29, .ref d_30, .int 0, .ref d_31, .int 63])), (d_27, .inl (dc_32, 9, .inl (fun _ => 0))), (d_28, .inl (dc_33, 9, .inl (fun _ => 0))), (d_29, .inl (dc_34, 4, .inl df_37)), (d_30, .inl (dc_35, 4, .inl dg_38)), (d_31, .inl (dc_36, 7, .inr (.inl (fun _ => 0)))), (ph_49, .inl (pc_62, 4, .inr (.inr (.inr (.inr pf_68))))), (th_50, .inl (tc_63, 7, .inl (fun _ => 0))), (p_51, .inr (0, [.int 0, .int 0, .ref n_55])), (n_55, .inl (nc_64, 40, .inr (.inl (fun _ => 0)))), (p_52, .inr (0, [.int 0, .int 0, .ref n_56])), (n_56, .inl (nc_65, 40, .inr (.inl (fun _ => 0)))), (p_53, .inr (0, [.int 0, .int 0, .ref n_57])), (n_57, .inl (nc_66, 40, .inr (.inl (fun _ => 0)))), (p_54, .inr (0, [.int 0, .int 0, .ref n_58])), (n_58, .inl (nc_67, 40, .inr (.inl (fun _ => 0)))), (q_79, .inr (7, [.null, .null, .null, .null, .int 0, .null, .int 0, .null, .null, .int 0, .null, .int 0, .int 0, .int 0, .int 0, .int 0, .int 0, .null, .null, .null, .int 0, .int 0, .int 0, .int 0, .null, .null, .null, .null]))] H := hP
  have hD : va_D A [(q_1, .inr (6, [.ref ah_39, .ref bh_40, .ref sh_42, .ref rh_43, .ref ch_46, .ref ph_49, .ref th_50, .int 0])), (ah_39, .inr (4, [.int 0, .ref a_3, .ref a_4, .int 0, .ref a_5, .ref a_6, .int 0, .ref a_7, .int 63])), (a_3, .inl (ac_8, 9, .inl (fun _ => 0))), (a_4, .inl (ac_9, 9, .inl (fun _ => 0))), (a_5, .inl (ac_10, 4, .inl af_13)), (a_6, .inl (ac_11, 4, .inl ag_14)), (a_7, .inl (ac_12, 7, .inr (.inl (fun _ => 0)))), (bh_40, .inr (4, [.int 0, .ref b_15, .ref b_16, .int 0, .ref b_17, .ref b_18, .int 0, .ref b_19, .int 63])), (b_15, .inl (bc_20, 9, .inl (fun _ => 0))), (b_16, .inl (bc_21, 9, .inl (fun _ => 0))), (b_17, .inl (bc_22, 4, .inl bf_25)), (b_18, .inl (bc_23, 4, .inl bg_26)), (b_19, .inl (bc_24, 7, .inr (.inl (fun _ => 0)))), (sh_42, .inr (3, [.int (-1), .int 65])), (rh_43, .inr (1, [.int 0, .ref r_44, .ref r_45])), (r_44, .inl (rc_59, 6, .inl (fun _ => 0))), (r_45, .inl (rc_60, 384, .inl (fun _ => 0))), (ch_46, .inr (2, [.ref eh_47, .ref dh_41, .int 0, .int 0, .int 0, .long 0])), (eh_47, .inr (5, [.int 0, .ref e_48])), (e_48, .inl (ec_61, 120, .inl (fun _ => 0))), (dh_41, .inr (4, [.int 0, .ref d_27, .ref d_28, .int 0, .ref d_29, .ref d_30, .int 0, .ref d_31, .int 63])), (d_27, .inl (dc_32, 9, .inl (fun _ => 0))), (d_28, .inl (dc_33, 9, .inl (fun _ => 0))), (d_29, .inl (dc_34, 4, .inl df_37)), (d_30, .inl (dc_35, 4, .inl dg_38)), (d_31, .inl (dc_36, 7, .inr (.inl (fun _ => 0)))), (ph_49, .inl (pc_62, 4, .inr (.inr (.inr (.inr pf_68))))), (th_50, .inl (tc_63, 7, .inl (fun _ => 0))), (p_51, .inr (0, [.int 0, .int 0, .ref n_55])), (n_55, .inl (nc_64, 40, .inr (.inl (fun _ => 0)))), (p_52, .inr (0, [.int 0, .int 0, .ref n_56])), (n_56, .inl (nc_65, 40, .inr (.inl (fun _ => 0)))), (p_53, .inr (0, [.int 0, .int 0, .ref n_57])), (n_57, .inl (nc_66, 40, .inr (.inl (fun _ => 0)))), (p_54, .inr (0, [.int 0, .int 0, .ref n_58])), (n_58, .inl (nc_67, 40, .inr (.inl (fun _ => 0)))), (q_79, .inr (7, [.null, .null, .null, .null, .int 0, .null, .int 0, .null, .null, .int 0, .null, .int 0, .int 0, .int 0, .int 0, .int 0, .int 0, .null, .null, .null, .int 0, .int 0, .int 0, .int 0, .null, .null, .null, .null]))] := hD
  refine lv_dup hx hb dL_law_11 rfl ?_
  have hPc := hP.sub (ws' := [(q_79, .inr (7, [.null, .null, .null, .null, .int 0, .null, .int 0, .null, .null, .int 0, .null, .int 0, .int 0, .int 0, .int 0, .int 0, .int 0, .null, .null, .null, .int 0, .int 0, .int 0, .int 0, .null, .null, .null, .null]))]) [36] rfl
  have hKc := hK.sub (tys' := []) [] rfl
  have hDc := hD.sub (ws' := [(q_79, .inr (7, [.null, .null, .null, .null, .int 0, .null, .int 0, .null, .null, .int 0, .null, .int 0, .int 0, .int 0, .int 0, .int 0, .int 0, .null, .null, .null, .int 0, .int 0, .int 0, .int 0, .null, .null, .null, .null]))]) [36] (by decide) rfl
  have hFc := va_free (wc := [(q_79, .inr (7, [.null, .null, .null, .null, .int 0, .null, .int 0, .null, .null, .int 0, .null, .int 0, .int 0, .int 0, .int 0, .int 0, .int 0, .null, .null, .null, .int 0, .int 0, .int 0, .int 0, .null, .null, .null, .null]))]) hD hS hA [36] rfl
  refine va_callv (va_runI (As := []) (rest := [.ref q_79]) ⟨hx, hb, hml, hown, hts⟩ (c_X9_init l dC dI ad q_79 H.size ) (cwI 0 hts g_law_c_X9_init_12 rfl rfl rfl (hts _ (List.mem_of_getElem? (i := 34) rfl)) (hts _ (List.mem_of_getElem? (i := 717) rfl)) (hts _ (List.mem_of_getElem? (i := 718) rfl)) rfl (by decide +kernel) ⟨(Nat.le_of_ble_eq_true rfl), (Nat.le_of_ble_eq_true rfl)⟩) ⟨preT_blind, fun U hU hW => ⟨rfl, preM_at hU hW hPc hKc hDc hev, sf_at hsf hS hFc hU hW⟩⟩ rfl rfl hl.1 rfl (lv_room (Nat.le_of_ble_eq_true rfl)) dL_law_12 ⟨(Nat.le_of_ble_eq_true rfl), (Nat.le_of_ble_eq_true rfl)⟩) hS (fun q _ h => hFc q h) hFc (fun u t H1 locs ht hvm hw hB hz1 hk1 hS => ?_)
  refine W.widen (k := 52) (n := 1794) (Nat.le_of_ble_eq_true rfl) (Nat.le_of_ble_eq_true rfl) ?_
  obtain ⟨m_now_81, mc_now_82, m_kept_83, mc_kept_84, m_pictures_85, mc_pictures_86, m_keptPictures_87, mc_keptPictures_88, m_found_89, mc_found_90, m_row_91, mc_row_92, m_bestRow_93, mc_bestRow_94, m_tape_95, mc_tape_96, m_kinds_97, mc_kinds_98, m_items_99, mc_items_100, m_itemPictures_101, mc_itemPictures_102, m_widths_103, mc_widths_104, m_sizes_105, mc_sizes_106, m_numbers_107, mc_numbers_108, m_moved_109, mc_moved_110, m_nf_111, m_kf_112, hq_113, hq_114, hP1, hK1, hD1⟩ := hB
  rw [ht] at hP1
  have hK1 := va_K.moved hvm.symm hK1
  obtain ⟨hP, hD⟩ := va_join (wr := [(q_1, .inr (6, [.ref ah_39, .ref bh_40, .ref sh_42, .ref rh_43, .ref ch_46, .ref ph_49, .ref th_50, .int 0])), (ah_39, .inr (4, [.int 0, .ref a_3, .ref a_4, .int 0, .ref a_5, .ref a_6, .int 0, .ref a_7, .int 63])), (a_3, .inl (ac_8, 9, .inl (fun _ => 0))), (a_4, .inl (ac_9, 9, .inl (fun _ => 0))), (a_5, .inl (ac_10, 4, .inl af_13)), (a_6, .inl (ac_11, 4, .inl ag_14)), (a_7, .inl (ac_12, 7, .inr (.inl (fun _ => 0)))), (bh_40, .inr (4, [.int 0, .ref b_15, .ref b_16, .int 0, .ref b_17, .ref b_18, .int 0, .ref b_19, .int 63])), (b_15, .inl (bc_20, 9, .inl (fun _ => 0))), (b_16, .inl (bc_21, 9, .inl (fun _ => 0))), (b_17, .inl (bc_22, 4, .inl bf_25)), (b_18, .inl (bc_23, 4, .inl bg_26)), (b_19, .inl (bc_24, 7, .inr (.inl (fun _ => 0)))), (sh_42, .inr (3, [.int (-1), .int 65])), (rh_43, .inr (1, [.int 0, .ref r_44, .ref r_45])), (r_44, .inl (rc_59, 6, .inl (fun _ => 0))), (r_45, .inl (rc_60, 384, .inl (fun _ => 0))), (ch_46, .inr (2, [.ref eh_47, .ref dh_41, .int 0, .int 0, .int 0, .long 0])), (eh_47, .inr (5, [.int 0, .ref e_48])), (e_48, .inl (ec_61, 120, .inl (fun _ => 0))), (dh_41, .inr (4, [.int 0, .ref d_27, .ref d_28, .int 0, .ref d_29, .ref d_30, .int 0, .ref d_31, .int 63])), (d_27, .inl (dc_32, 9, .inl (fun _ => 0))), (d_28, .inl (dc_33, 9, .inl (fun _ => 0))), (d_29, .inl (dc_34, 4, .inl df_37)), (d_30, .inl (dc_35, 4, .inl dg_38)), (d_31, .inl (dc_36, 7, .inr (.inl (fun _ => 0)))), (ph_49, .inl (pc_62, 4, .inr (.inr (.inr (.inr pf_68))))), (th_50, .inl (tc_63, 7, .inl (fun _ => 0))), (p_51, .inr (0, [.int 0, .int 0, .ref n_55])), (n_55, .inl (nc_64, 40, .inr (.inl (fun _ => 0)))), (p_52, .inr (0, [.int 0, .int 0, .ref n_56])), (n_56, .inl (nc_65, 40, .inr (.inl (fun _ => 0)))), (p_53, .inr (0, [.int 0, .int 0, .ref n_57])), (n_57, .inl (nc_66, 40, .inr (.inl (fun _ => 0)))), (p_54, .inr (0, [.int 0, .int 0, .ref n_58])), (n_58, .inl (nc_67, 40, .inr (.inl (fun _ => 0))))]) (w1 := [(q_79, .inr (7, [.ref m_now_81, .ref m_kept_83, .ref m_pictures_85, .ref m_keptPictures_87, .int 0, .ref m_found_89, .int 0, .ref m_row_91, .ref m_bestRow_93, .int 0, .ref m_tape_95, .int 0, .int 0, .int 0, .int 0, .int 0, .int 0, .ref m_kinds_97, .ref m_items_99, .ref m_itemPictures_101, .int 0, .int 0, .int 0, .int 0, .ref m_widths_103, .ref m_sizes_105, .ref m_numbers_107, .ref m_moved_109])), (m_now_81, .inl (mc_now_82, 38, .inl m_nf_111)), (m_kept_83, .inl (mc_kept_84, 38, .inl (fun _ => 0))), (m_pictures_85, .inl (mc_pictures_86, 7, .inr (.inl (fun _ => 0)))), (m_keptPictures_87, .inl (mc_keptPictures_88, 7, .inr (.inl (fun _ => 0)))), (m_found_89, .inl (mc_found_90, 8, .inl (fun _ => 0))), (m_row_91, .inl (mc_row_92, 7, .inl (fun _ => 0))), (m_bestRow_93, .inl (mc_bestRow_94, 7, .inl (fun _ => 0))), (m_tape_95, .inl (mc_tape_96, 120, .inl (fun _ => 0))), (m_kinds_97, .inl (mc_kinds_98, 6, .inr (.inr (.inr (.inr m_kf_112))))), (m_items_99, .inl (mc_items_100, 360, .inl (fun _ => 0))), (m_itemPictures_101, .inl (mc_itemPictures_102, 120, .inr (.inl (fun _ => 0)))), (m_widths_103, .inl (mc_widths_104, 4, .inl (fun _ => 0))), (m_sizes_105, .inl (mc_sizes_106, 4, .inl (fun _ => 0))), (m_numbers_107, .inl (mc_numbers_108, 160, .inr (.inl (fun _ => 0)))), (m_moved_109, .inl (mc_moved_110, 40, .inr (.inl (fun _ => 0))))]) hP hD [36] [0, 1, 2, 3, 4, 5, 6, 7, 8, 9, 10, 11, 12, 13, 14, 15, 16, 17, 18, 19, 20, 21, 22, 23, 24, 25, 26, 27, 28, 29, 30, 31, 32, 33, 34, 35] rfl rfl (by decide) (by decide) hk1 hFc hP1 hD1
  have hK := hK.app (hK1.sub (tys' := [(mc_now_82, .int), (mc_kept_84, .int), (mc_pictures_86, .long), (mc_keptPictures_88, .long), (mc_found_90, .int), (mc_row_92, .int), (mc_bestRow_94, .int), (mc_tape_96, .int), (mc_kinds_98, .object "java/lang/String"), (mc_items_100, .int), (mc_itemPictures_102, .long), (mc_widths_104, .int), (mc_sizes_106, .int), (mc_numbers_108, .long), (mc_moved_110, .long)]) [0, 1, 2, 3, 4, 5, 6, 7, 8, 9, 10, 11, 12, 13, 14] rfl)
  have hK : va_K (dC, dI) vwCl [(ac_8, .int), (ac_9, .int), (ac_10, .int), (ac_11, .int), (ac_12, .long), (bc_20, .int), (bc_21, .int), (bc_22, .int), (bc_23, .int), (bc_24, .long), (rc_59, .int), (rc_60, .int), (ec_61, .int), (dc_32, .int), (dc_33, .int), (dc_34, .int), (dc_35, .int), (dc_36, .long), (pc_62, .object "LampShapes$Paper"), (tc_63, .int), (nc_64, .long), (nc_65, .long), (nc_66, .long), (nc_67, .long), (mc_now_82, .int), (mc_kept_84, .int), (mc_pictures_86, .long), (mc_keptPictures_88, .long), (mc_found_90, .int), (mc_row_92, .int), (mc_bestRow_94, .int), (mc_tape_96, .int), (mc_kinds_98, .object "java/lang/String"), (mc_items_100, .int), (mc_itemPictures_102, .long), (mc_widths_104, .int), (mc_sizes_106, .int), (mc_numbers_108, .long), (mc_moved_110, .long)] s := hK
  generalize H1 = H at hP hS ⊢
  have hP : va_P (dC, dI) vwCl [(q_1, .inr (6, [.ref ah_39, .ref bh_40, .ref sh_42, .ref rh_43, .ref ch_46, .ref ph_49, .ref th_50, .int 0])), (ah_39, .inr (4, [.int 0, .ref a_3, .ref a_4, .int 0, .ref a_5, .ref a_6, .int 0, .ref a_7, .int 63])), (a_3, .inl (ac_8, 9, .inl (fun _ => 0))), (a_4, .inl (ac_9, 9, .inl (fun _ => 0))), (a_5, .inl (ac_10, 4, .inl af_13)), (a_6, .inl (ac_11, 4, .inl ag_14)), (a_7, .inl (ac_12, 7, .inr (.inl (fun _ => 0)))), (bh_40, .inr (4, [.int 0, .ref b_15, .ref b_16, .int 0, .ref b_17, .ref b_18, .int 0, .ref b_19, .int 63])), (b_15, .inl (bc_20, 9, .inl (fun _ => 0))), (b_16, .inl (bc_21, 9, .inl (fun _ => 0))), (b_17, .inl (bc_22, 4, .inl bf_25)), (b_18, .inl (bc_23, 4, .inl bg_26)), (b_19, .inl (bc_24, 7, .inr (.inl (fun _ => 0)))), (sh_42, .inr (3, [.int (-1), .int 65])), (rh_43, .inr (1, [.int 0, .ref r_44, .ref r_45])), (r_44, .inl (rc_59, 6, .inl (fun _ => 0))), (r_45, .inl (rc_60, 384, .inl (fun _ => 0))), (ch_46, .inr (2, [.ref eh_47, .ref dh_41, .int 0, .int 0, .int 0, .long 0])), (eh_47, .inr (5, [.int 0, .ref e_48])), (e_48, .inl (ec_61, 120, .inl (fun _ => 0))), (dh_41, .inr (4, [.int 0, .ref d_27, .ref d_28, .int 0, .ref d_29, .ref d_30, .int 0, .ref d_31, .int 63])), (d_27, .inl (dc_32, 9, .inl (fun _ => 0))), (d_28, .inl (dc_33, 9, .inl (fun _ => 0))), (d_29, .inl (dc_34, 4, .inl df_37)), (d_30, .inl (dc_35, 4, .inl dg_38)), (d_31, .inl (dc_36, 7, .inr (.inl (fun _ => 0)))), (ph_49, .inl (pc_62, 4, .inr (.inr (.inr (.inr pf_68))))), (th_50, .inl (tc_63, 7, .inl (fun _ => 0))), (p_51, .inr (0, [.int 0, .int 0, .ref n_55])), (n_55, .inl (nc_64, 40, .inr (.inl (fun _ => 0)))), (p_52, .inr (0, [.int 0, .int 0, .ref n_56])), (n_56, .inl (nc_65, 40, .inr (.inl (fun _ => 0)))), (p_53, .inr (0, [.int 0, .int 0, .ref n_57])), (n_57, .inl (nc_66, 40, .inr (.inl (fun _ => 0)))), (p_54, .inr (0, [.int 0, .int 0, .ref n_58])), (n_58, .inl (nc_67, 40, .inr (.inl (fun _ => 0)))), (q_79, .inr (7, [.ref m_now_81, .ref m_kept_83, .ref m_pictures_85, .ref m_keptPictures_87, .int 0, .ref m_found_89, .int 0, .ref m_row_91, .ref m_bestRow_93, .int 0, .ref m_tape_95, .int 0, .int 0, .int 0, .int 0, .int 0, .int 0, .ref m_kinds_97, .ref m_items_99, .ref m_itemPictures_101, .int 0, .int 0, .int 0, .int 0, .ref m_widths_103, .ref m_sizes_105, .ref m_numbers_107, .ref m_moved_109])), (m_now_81, .inl (mc_now_82, 38, .inl m_nf_111)), (m_kept_83, .inl (mc_kept_84, 38, .inl (fun _ => 0))), (m_pictures_85, .inl (mc_pictures_86, 7, .inr (.inl (fun _ => 0)))), (m_keptPictures_87, .inl (mc_keptPictures_88, 7, .inr (.inl (fun _ => 0)))), (m_found_89, .inl (mc_found_90, 8, .inl (fun _ => 0))), (m_row_91, .inl (mc_row_92, 7, .inl (fun _ => 0))), (m_bestRow_93, .inl (mc_bestRow_94, 7, .inl (fun _ => 0))), (m_tape_95, .inl (mc_tape_96, 120, .inl (fun _ => 0))), (m_kinds_97, .inl (mc_kinds_98, 6, .inr (.inr (.inr (.inr m_kf_112))))), (m_items_99, .inl (mc_items_100, 360, .inl (fun _ => 0))), (m_itemPictures_101, .inl (mc_itemPictures_102, 120, .inr (.inl (fun _ => 0)))), (m_widths_103, .inl (mc_widths_104, 4, .inl (fun _ => 0))), (m_sizes_105, .inl (mc_sizes_106, 4, .inl (fun _ => 0))), (m_numbers_107, .inl (mc_numbers_108, 160, .inr (.inl (fun _ => 0)))), (m_moved_109, .inl (mc_moved_110, 40, .inr (.inl (fun _ => 0))))] H := hP
  have hD : va_D A [(q_1, .inr (6, [.ref ah_39, .ref bh_40, .ref sh_42, .ref rh_43, .ref ch_46, .ref ph_49, .ref th_50, .int 0])), (ah_39, .inr (4, [.int 0, .ref a_3, .ref a_4, .int 0, .ref a_5, .ref a_6, .int 0, .ref a_7, .int 63])), (a_3, .inl (ac_8, 9, .inl (fun _ => 0))), (a_4, .inl (ac_9, 9, .inl (fun _ => 0))), (a_5, .inl (ac_10, 4, .inl af_13)), (a_6, .inl (ac_11, 4, .inl ag_14)), (a_7, .inl (ac_12, 7, .inr (.inl (fun _ => 0)))), (bh_40, .inr (4, [.int 0, .ref b_15, .ref b_16, .int 0, .ref b_17, .ref b_18, .int 0, .ref b_19, .int 63])), (b_15, .inl (bc_20, 9, .inl (fun _ => 0))), (b_16, .inl (bc_21, 9, .inl (fun _ => 0))), (b_17, .inl (bc_22, 4, .inl bf_25)), (b_18, .inl (bc_23, 4, .inl bg_26)), (b_19, .inl (bc_24, 7, .inr (.inl (fun _ => 0)))), (sh_42, .inr (3, [.int (-1), .int 65])), (rh_43, .inr (1, [.int 0, .ref r_44, .ref r_45])), (r_44, .inl (rc_59, 6, .inl (fun _ => 0))), (r_45, .inl (rc_60, 384, .inl (fun _ => 0))), (ch_46, .inr (2, [.ref eh_47, .ref dh_41, .int 0, .int 0, .int 0, .long 0])), (eh_47, .inr (5, [.int 0, .ref e_48])), (e_48, .inl (ec_61, 120, .inl (fun _ => 0))), (dh_41, .inr (4, [.int 0, .ref d_27, .ref d_28, .int 0, .ref d_29, .ref d_30, .int 0, .ref d_31, .int 63])), (d_27, .inl (dc_32, 9, .inl (fun _ => 0))), (d_28, .inl (dc_33, 9, .inl (fun _ => 0))), (d_29, .inl (dc_34, 4, .inl df_37)), (d_30, .inl (dc_35, 4, .inl dg_38)), (d_31, .inl (dc_36, 7, .inr (.inl (fun _ => 0)))), (ph_49, .inl (pc_62, 4, .inr (.inr (.inr (.inr pf_68))))), (th_50, .inl (tc_63, 7, .inl (fun _ => 0))), (p_51, .inr (0, [.int 0, .int 0, .ref n_55])), (n_55, .inl (nc_64, 40, .inr (.inl (fun _ => 0)))), (p_52, .inr (0, [.int 0, .int 0, .ref n_56])), (n_56, .inl (nc_65, 40, .inr (.inl (fun _ => 0)))), (p_53, .inr (0, [.int 0, .int 0, .ref n_57])), (n_57, .inl (nc_66, 40, .inr (.inl (fun _ => 0)))), (p_54, .inr (0, [.int 0, .int 0, .ref n_58])), (n_58, .inl (nc_67, 40, .inr (.inl (fun _ => 0)))), (q_79, .inr (7, [.ref m_now_81, .ref m_kept_83, .ref m_pictures_85, .ref m_keptPictures_87, .int 0, .ref m_found_89, .int 0, .ref m_row_91, .ref m_bestRow_93, .int 0, .ref m_tape_95, .int 0, .int 0, .int 0, .int 0, .int 0, .int 0, .ref m_kinds_97, .ref m_items_99, .ref m_itemPictures_101, .int 0, .int 0, .int 0, .int 0, .ref m_widths_103, .ref m_sizes_105, .ref m_numbers_107, .ref m_moved_109])), (m_now_81, .inl (mc_now_82, 38, .inl m_nf_111)), (m_kept_83, .inl (mc_kept_84, 38, .inl (fun _ => 0))), (m_pictures_85, .inl (mc_pictures_86, 7, .inr (.inl (fun _ => 0)))), (m_keptPictures_87, .inl (mc_keptPictures_88, 7, .inr (.inl (fun _ => 0)))), (m_found_89, .inl (mc_found_90, 8, .inl (fun _ => 0))), (m_row_91, .inl (mc_row_92, 7, .inl (fun _ => 0))), (m_bestRow_93, .inl (mc_bestRow_94, 7, .inl (fun _ => 0))), (m_tape_95, .inl (mc_tape_96, 120, .inl (fun _ => 0))), (m_kinds_97, .inl (mc_kinds_98, 6, .inr (.inr (.inr (.inr m_kf_112))))), (m_items_99, .inl (mc_items_100, 360, .inl (fun _ => 0))), (m_itemPictures_101, .inl (mc_itemPictures_102, 120, .inr (.inl (fun _ => 0)))), (m_widths_103, .inl (mc_widths_104, 4, .inl (fun _ => 0))), (m_sizes_105, .inl (mc_sizes_106, 4, .inl (fun _ => 0))), (m_numbers_107, .inl (mc_numbers_108, 160, .inr (.inl (fun _ => 0)))), (m_moved_109, .inl (mc_moved_110, 40, .inr (.inl (fun _ => 0))))] := hD
  refine lv_astore_n (lv' := [(2, .ref q_79), (1, .ref q_1), (0, .ref b)]) hx hb dL_law_15 rfl hl (by decide) rfl (fun ls hl => ?_)
  refine lv_iconst (v := 0) hx hb dL_law_16 (by decide) ?_
  refine lv_istore_n (lv' := [(3, .int 0), (2, .ref q_79), (1, .ref q_1), (0, .ref b)]) hx hb dL_law_17 rfl hl (by decide) rfl (fun ls hl => ?_)
  have hP9 := hP.sub (ws' := [(q_1, .inr (6, [.ref ah_39, .ref bh_40, .ref sh_42, .ref rh_43, .ref ch_46, .ref ph_49, .ref th_50, .int 0])), (ah_39, .inr (4, [.int 0, .ref a_3, .ref a_4, .int 0, .ref a_5, .ref a_6, .int 0, .ref a_7, .int 63])), (a_3, .inl (ac_8, 9, .inl (fun _ => 0))), (a_4, .inl (ac_9, 9, .inl (fun _ => 0))), (a_5, .inl (ac_10, 4, .inl af_13)), (a_6, .inl (ac_11, 4, .inl ag_14)), (a_7, .inl (ac_12, 7, .inr (.inl (fun _ => 0)))), (bh_40, .inr (4, [.int 0, .ref b_15, .ref b_16, .int 0, .ref b_17, .ref b_18, .int 0, .ref b_19, .int 63])), (b_15, .inl (bc_20, 9, .inl (fun _ => 0))), (b_16, .inl (bc_21, 9, .inl (fun _ => 0))), (b_17, .inl (bc_22, 4, .inl bf_25)), (b_18, .inl (bc_23, 4, .inl bg_26)), (b_19, .inl (bc_24, 7, .inr (.inl (fun _ => 0)))), (sh_42, .inr (3, [.int (-1), .int 65])), (rh_43, .inr (1, [.int 0, .ref r_44, .ref r_45])), (r_44, .inl (rc_59, 6, .inl (fun _ => 0))), (r_45, .inl (rc_60, 384, .inl (fun _ => 0))), (ch_46, .inr (2, [.ref eh_47, .ref dh_41, .int 0, .int 0, .int 0, .long 0])), (eh_47, .inr (5, [.int 0, .ref e_48])), (e_48, .inl (ec_61, 120, .inl (fun _ => 0))), (dh_41, .inr (4, [.int 0, .ref d_27, .ref d_28, .int 0, .ref d_29, .ref d_30, .int 0, .ref d_31, .int 63])), (d_27, .inl (dc_32, 9, .inl (fun _ => 0))), (d_28, .inl (dc_33, 9, .inl (fun _ => 0))), (d_29, .inl (dc_34, 4, .inl df_37)), (d_30, .inl (dc_35, 4, .inl dg_38)), (d_31, .inl (dc_36, 7, .inr (.inl (fun _ => 0)))), (ph_49, .inl (pc_62, 4, .inr (.inr (.inr (.inr pf_68))))), (th_50, .inl (tc_63, 7, .inl (fun _ => 0))), (p_51, .inr (0, [.int 0, .int 0, .ref n_55])), (n_55, .inl (nc_64, 40, .inr (.inl (fun _ => 0)))), (p_52, .inr (0, [.int 0, .int 0, .ref n_56])), (n_56, .inl (nc_65, 40, .inr (.inl (fun _ => 0)))), (p_53, .inr (0, [.int 0, .int 0, .ref n_57])), (n_57, .inl (nc_66, 40, .inr (.inl (fun _ => 0)))), (p_54, .inr (0, [.int 0, .int 0, .ref n_58])), (n_58, .inl (nc_67, 40, .inr (.inl (fun _ => 0)))), (q_79, .inr (7, [.ref m_now_81, .ref m_kept_83, .ref m_pictures_85, .ref m_keptPictures_87, .int 0, .ref m_found_89, .int 0, .ref m_row_91, .ref m_bestRow_93, .int 0, .ref m_tape_95, .int 0, .int 0, .int 0, .int 0, .int 0, .int 0, .ref m_kinds_97, .ref m_items_99, .ref m_itemPictures_101, .int 0, .int 0, .int 0, .int 0, .ref m_widths_103, .ref m_sizes_105, .ref m_numbers_107, .ref m_moved_109])), (m_now_81, .inl (mc_now_82, 38, .inl m_nf_111)), (m_kept_83, .inl (mc_kept_84, 38, .inl (fun _ => 0))), (m_pictures_85, .inl (mc_pictures_86, 7, .inr (.inl (fun _ => 0)))), (m_keptPictures_87, .inl (mc_keptPictures_88, 7, .inr (.inl (fun _ => 0)))), (m_found_89, .inl (mc_found_90, 8, .inl (fun _ => 0))), (m_row_91, .inl (mc_row_92, 7, .inl (fun _ => 0))), (m_bestRow_93, .inl (mc_bestRow_94, 7, .inl (fun _ => 0))), (m_tape_95, .inl (mc_tape_96, 120, .inl (fun _ => 0))), (m_kinds_97, .inl (mc_kinds_98, 6, .inr (.inr (.inr (.inr m_kf_112))))), (m_items_99, .inl (mc_items_100, 360, .inl (fun _ => 0))), (m_itemPictures_101, .inl (mc_itemPictures_102, 120, .inr (.inl (fun _ => 0)))), (m_widths_103, .inl (mc_widths_104, 4, .inl (fun _ => 0))), (m_sizes_105, .inl (mc_sizes_106, 4, .inl (fun _ => 0))), (m_numbers_107, .inl (mc_numbers_108, 160, .inr (.inl (fun _ => 0)))), (m_moved_109, .inl (mc_moved_110, 40, .inr (.inl (fun _ => 0))))]) [0, 1, 2, 3, 4, 5, 6, 7, 8, 9, 10, 11, 12, 13, 14, 15, 16, 17, 18, 19, 20, 21, 22, 23, 24, 25, 26, 27, 28, 29, 30, 31, 32, 33, 34, 35, 36, 37, 38, 39, 40, 41, 42, 43, 44, 45, 46, 47, 48, 49, 50, 51] rfl
  have hD9 := hD.sub (ws' := [(q_1, .inr (6, [.ref ah_39, .ref bh_40, .ref sh_42, .ref rh_43, .ref ch_46, .ref ph_49, .ref th_50, .int 0])), (ah_39, .inr (4, [.int 0, .ref a_3, .ref a_4, .int 0, .ref a_5, .ref a_6, .int 0, .ref a_7, .int 63])), (a_3, .inl (ac_8, 9, .inl (fun _ => 0))), (a_4, .inl (ac_9, 9, .inl (fun _ => 0))), (a_5, .inl (ac_10, 4, .inl af_13)), (a_6, .inl (ac_11, 4, .inl ag_14)), (a_7, .inl (ac_12, 7, .inr (.inl (fun _ => 0)))), (bh_40, .inr (4, [.int 0, .ref b_15, .ref b_16, .int 0, .ref b_17, .ref b_18, .int 0, .ref b_19, .int 63])), (b_15, .inl (bc_20, 9, .inl (fun _ => 0))), (b_16, .inl (bc_21, 9, .inl (fun _ => 0))), (b_17, .inl (bc_22, 4, .inl bf_25)), (b_18, .inl (bc_23, 4, .inl bg_26)), (b_19, .inl (bc_24, 7, .inr (.inl (fun _ => 0)))), (sh_42, .inr (3, [.int (-1), .int 65])), (rh_43, .inr (1, [.int 0, .ref r_44, .ref r_45])), (r_44, .inl (rc_59, 6, .inl (fun _ => 0))), (r_45, .inl (rc_60, 384, .inl (fun _ => 0))), (ch_46, .inr (2, [.ref eh_47, .ref dh_41, .int 0, .int 0, .int 0, .long 0])), (eh_47, .inr (5, [.int 0, .ref e_48])), (e_48, .inl (ec_61, 120, .inl (fun _ => 0))), (dh_41, .inr (4, [.int 0, .ref d_27, .ref d_28, .int 0, .ref d_29, .ref d_30, .int 0, .ref d_31, .int 63])), (d_27, .inl (dc_32, 9, .inl (fun _ => 0))), (d_28, .inl (dc_33, 9, .inl (fun _ => 0))), (d_29, .inl (dc_34, 4, .inl df_37)), (d_30, .inl (dc_35, 4, .inl dg_38)), (d_31, .inl (dc_36, 7, .inr (.inl (fun _ => 0)))), (ph_49, .inl (pc_62, 4, .inr (.inr (.inr (.inr pf_68))))), (th_50, .inl (tc_63, 7, .inl (fun _ => 0))), (p_51, .inr (0, [.int 0, .int 0, .ref n_55])), (n_55, .inl (nc_64, 40, .inr (.inl (fun _ => 0)))), (p_52, .inr (0, [.int 0, .int 0, .ref n_56])), (n_56, .inl (nc_65, 40, .inr (.inl (fun _ => 0)))), (p_53, .inr (0, [.int 0, .int 0, .ref n_57])), (n_57, .inl (nc_66, 40, .inr (.inl (fun _ => 0)))), (p_54, .inr (0, [.int 0, .int 0, .ref n_58])), (n_58, .inl (nc_67, 40, .inr (.inl (fun _ => 0)))), (q_79, .inr (7, [.ref m_now_81, .ref m_kept_83, .ref m_pictures_85, .ref m_keptPictures_87, .int 0, .ref m_found_89, .int 0, .ref m_row_91, .ref m_bestRow_93, .int 0, .ref m_tape_95, .int 0, .int 0, .int 0, .int 0, .int 0, .int 0, .ref m_kinds_97, .ref m_items_99, .ref m_itemPictures_101, .int 0, .int 0, .int 0, .int 0, .ref m_widths_103, .ref m_sizes_105, .ref m_numbers_107, .ref m_moved_109])), (m_now_81, .inl (mc_now_82, 38, .inl m_nf_111)), (m_kept_83, .inl (mc_kept_84, 38, .inl (fun _ => 0))), (m_pictures_85, .inl (mc_pictures_86, 7, .inr (.inl (fun _ => 0)))), (m_keptPictures_87, .inl (mc_keptPictures_88, 7, .inr (.inl (fun _ => 0)))), (m_found_89, .inl (mc_found_90, 8, .inl (fun _ => 0))), (m_row_91, .inl (mc_row_92, 7, .inl (fun _ => 0))), (m_bestRow_93, .inl (mc_bestRow_94, 7, .inl (fun _ => 0))), (m_tape_95, .inl (mc_tape_96, 120, .inl (fun _ => 0))), (m_kinds_97, .inl (mc_kinds_98, 6, .inr (.inr (.inr (.inr m_kf_112))))), (m_items_99, .inl (mc_items_100, 360, .inl (fun _ => 0))), (m_itemPictures_101, .inl (mc_itemPictures_102, 120, .inr (.inl (fun _ => 0)))), (m_widths_103, .inl (mc_widths_104, 4, .inl (fun _ => 0))), (m_sizes_105, .inl (mc_sizes_106, 4, .inl (fun _ => 0))), (m_numbers_107, .inl (mc_numbers_108, 160, .inr (.inl (fun _ => 0)))), (m_moved_109, .inl (mc_moved_110, 40, .inr (.inl (fun _ => 0))))]) [0, 1, 2, 3, 4, 5, 6, 7, 8, 9, 10, 11, 12, 13, 14, 15, 16, 17, 18, 19, 20, 21, 22, 23, 24, 25, 26, 27, 28, 29, 30, 31, 32, 33, 34, 35, 36, 37, 38, 39, 40, 41, 42, 43, 44, 45, 46, 47, 48, 49, 50, 51] (by decide) rfl
  have hK9 := hK.sub (tys' := [(ac_8, .int), (ac_9, .int), (ac_10, .int), (ac_11, .int), (ac_12, .long), (bc_20, .int), (bc_21, .int), (bc_22, .int), (bc_23, .int), (bc_24, .long), (rc_59, .int), (rc_60, .int), (ec_61, .int), (dc_32, .int), (dc_33, .int), (dc_34, .int), (dc_35, .int), (dc_36, .long), (pc_62, .object "LampShapes$Paper"), (tc_63, .int), (nc_64, .long), (nc_65, .long), (nc_66, .long), (nc_67, .long), (mc_now_82, .int), (mc_kept_84, .int), (mc_pictures_86, .long), (mc_keptPictures_88, .long), (mc_found_90, .int), (mc_row_92, .int), (mc_bestRow_94, .int), (mc_tape_96, .int), (mc_kinds_98, .object "java/lang/String"), (mc_items_100, .int), (mc_itemPictures_102, .long), (mc_widths_104, .int), (mc_sizes_106, .int), (mc_numbers_108, .long), (mc_moved_110, .long)]) [0, 1, 2, 3, 4, 5, 6, 7, 8, 9, 10, 11, 12, 13, 14, 15, 16, 17, 18, 19, 20, 21, 22, 23, 24, 25, 26, 27, 28, 29, 30, 31, 32, 33, 34, 35, 36, 37, 38] rfl
  have hq0 := hq_69
  have hq1 := hq_70
  have hq2 := hq_71
  have hq3 := hq_72
  have hq4 := hq_73
  have hq5 := hq_74
  have hq6 := hq_75
  have hq7 := hq_76
  have hq8 := hq_77
  have hq9 := hq_78
  have hq10 := hq_113
  have hq11 := hq_114
  rcases (by omega : L = 0 ∨ L = 1 ∨ L = 2 ∨ L = 3 ∨ L = 4 ∨ L = 5 ∨ L = 6) with rfl | rfl | rfl | rfl | rfl | rfl | rfl
  · skip
    refine lv_iload_n hx hb dL_law_18 rfl (lv_at hl 0 rfl) ?_
    refine lv_aload_n hx hb dL_law_19 rfl (lv_at hl 3 rfl) ?_
    refine va_slen hx hb hX hbl hbA hS dL_law_20 ?_
    refine pp_ti (y := 0) rfl ?_
    refine lv_bipush (v := 6) hx hb dL_law_21 (by decide) ?_
    refine lv_isub hx hb dL_law_23 ?_
    refine pp_ti (y := (-6)) (by decide) ?_
    refine lv_icmp_gt (tgt := 1463) hx hb dL_law_24 (by decide) (fun _ => ?_) (fun c => absurd (by decide) c)
    refine lv_iconst (v := 1) hx hb dL_law_1463 (by decide) ?_
    refine va_forget (fun q hq => hA2 _ (hS.2.2 q hq)) ?_
    refine W.widen (k := 600000) (n := 7302250) (Nat.le_of_ble_eq_true rfl) (Nat.le_of_ble_eq_true rfl) ?_
    exact lw_ret hx hb hr hlocks dL_law_1464
  · skip
    refine lv_iload_n hx hb dL_law_18 rfl (lv_at hl 0 rfl) ?_
    refine lv_aload_n hx hb dL_law_19 rfl (lv_at hl 3 rfl) ?_
    refine va_slen hx hb hX hbl hbA hS dL_law_20 ?_
    refine pp_ti (y := 1) rfl ?_
    refine lv_bipush (v := 6) hx hb dL_law_21 (by decide) ?_
    refine lv_isub hx hb dL_law_23 ?_
    refine pp_ti (y := (-5)) (by decide) ?_
    refine lv_icmp_gt (tgt := 1463) hx hb dL_law_24 (by decide) (fun _ => ?_) (fun c => absurd (by decide) c)
    refine lv_iconst (v := 1) hx hb dL_law_1463 (by decide) ?_
    refine va_forget (fun q hq => hA2 _ (hS.2.2 q hq)) ?_
    refine W.widen (k := 600000) (n := 7302250) (Nat.le_of_ble_eq_true rfl) (Nat.le_of_ble_eq_true rfl) ?_
    exact lw_ret hx hb hr hlocks dL_law_1464
  · skip
    refine lv_iload_n hx hb dL_law_18 rfl (lv_at hl 0 rfl) ?_
    refine lv_aload_n hx hb dL_law_19 rfl (lv_at hl 3 rfl) ?_
    refine va_slen hx hb hX hbl hbA hS dL_law_20 ?_
    refine pp_ti (y := 2) rfl ?_
    refine lv_bipush (v := 6) hx hb dL_law_21 (by decide) ?_
    refine lv_isub hx hb dL_law_23 ?_
    refine pp_ti (y := (-4)) (by decide) ?_
    refine lv_icmp_gt (tgt := 1463) hx hb dL_law_24 (by decide) (fun _ => ?_) (fun c => absurd (by decide) c)
    refine lv_iconst (v := 1) hx hb dL_law_1463 (by decide) ?_
    refine va_forget (fun q hq => hA2 _ (hS.2.2 q hq)) ?_
    refine W.widen (k := 600000) (n := 7302250) (Nat.le_of_ble_eq_true rfl) (Nat.le_of_ble_eq_true rfl) ?_
    exact lw_ret hx hb hr hlocks dL_law_1464
  · skip
    refine lv_iload_n hx hb dL_law_18 rfl (lv_at hl 0 rfl) ?_
    refine lv_aload_n hx hb dL_law_19 rfl (lv_at hl 3 rfl) ?_
    refine va_slen hx hb hX hbl hbA hS dL_law_20 ?_
    refine pp_ti (y := 3) rfl ?_
    refine lv_bipush (v := 6) hx hb dL_law_21 (by decide) ?_
    refine lv_isub hx hb dL_law_23 ?_
    refine pp_ti (y := (-3)) (by decide) ?_
    refine lv_icmp_gt (tgt := 1463) hx hb dL_law_24 (by decide) (fun _ => ?_) (fun c => absurd (by decide) c)
    refine lv_iconst (v := 1) hx hb dL_law_1463 (by decide) ?_
    refine va_forget (fun q hq => hA2 _ (hS.2.2 q hq)) ?_
    refine W.widen (k := 600000) (n := 7302250) (Nat.le_of_ble_eq_true rfl) (Nat.le_of_ble_eq_true rfl) ?_
    exact lw_ret hx hb hr hlocks dL_law_1464
  · skip
    refine lv_iload_n hx hb dL_law_18 rfl (lv_at hl 0 rfl) ?_
    refine lv_aload_n hx hb dL_law_19 rfl (lv_at hl 3 rfl) ?_
    refine va_slen hx hb hX hbl hbA hS dL_law_20 ?_
    refine pp_ti (y := 4) rfl ?_
    refine lv_bipush (v := 6) hx hb dL_law_21 (by decide) ?_
    refine lv_isub hx hb dL_law_23 ?_
    refine pp_ti (y := (-2)) (by decide) ?_
    refine lv_icmp_gt (tgt := 1463) hx hb dL_law_24 (by decide) (fun _ => ?_) (fun c => absurd (by decide) c)
    refine lv_iconst (v := 1) hx hb dL_law_1463 (by decide) ?_
    refine va_forget (fun q hq => hA2 _ (hS.2.2 q hq)) ?_
    refine W.widen (k := 600000) (n := 7302250) (Nat.le_of_ble_eq_true rfl) (Nat.le_of_ble_eq_true rfl) ?_
    exact lw_ret hx hb hr hlocks dL_law_1464
  · skip
    refine lv_iload_n hx hb dL_law_18 rfl (lv_at hl 0 rfl) ?_
    refine lv_aload_n hx hb dL_law_19 rfl (lv_at hl 3 rfl) ?_
    refine va_slen hx hb hX hbl hbA hS dL_law_20 ?_
    refine pp_ti (y := 5) rfl ?_
    refine lv_bipush (v := 6) hx hb dL_law_21 (by decide) ?_
    refine lv_isub hx hb dL_law_23 ?_
    refine pp_ti (y := (-1)) (by decide) ?_
    refine lv_icmp_gt (tgt := 1463) hx hb dL_law_24 (by decide) (fun _ => ?_) (fun c => absurd (by decide) c)
    refine lv_iconst (v := 1) hx hb dL_law_1463 (by decide) ?_
    refine va_forget (fun q hq => hA2 _ (hS.2.2 q hq)) ?_
    refine W.widen (k := 600000) (n := 7302250) (Nat.le_of_ble_eq_true rfl) (Nat.le_of_ble_eq_true rfl) ?_
    exact lw_ret hx hb hr hlocks dL_law_1464
  · skip
    refine lv_iload_n hx hb dL_law_18 rfl (lv_at hl 0 rfl) ?_
    refine lv_aload_n hx hb dL_law_19 rfl (lv_at hl 3 rfl) ?_
    refine va_slen hx hb hX hbl hbA hS dL_law_20 ?_
    refine pp_ti (y := 6) rfl ?_
    refine lv_bipush (v := 6) hx hb dL_law_21 (by decide) ?_
    refine lv_isub hx hb dL_law_23 ?_
    refine pp_ti (y := 0) (by decide) ?_
    refine lv_icmp_gt (tgt := 1463) hx hb dL_law_24 (by decide) (fun c => absurd c (by decide)) (fun _ => ?_)
    refine lv_aload_n hx hb dL_law_27 rfl (lv_at hl 3 rfl) ?_
    refine lv_iload_n hx hb dL_law_28 rfl (lv_at hl 0 rfl) ?_
    refine va_sld hx hb hX hbl hbA hS (vp_in_nI (n := 0) (by decide) (by decide)) dL_law_29 ?_
    refine pp_ti (y := xs 0) rfl ?_
    refine lv_bipush (v := 63) hx hb dL_law_30 (by decide) ?_
    refine lv_iand hx hb dL_law_32 ?_
    obtain ⟨j, hj, ej⟩ := pk_andE (xs 0) (m := 63) 6 (by decide)
    refine pp_ti (y := nI j) ej ?_
    clear ej
    have LC : lawC p s m meth c b xs A ad := ⟨hx, hb, hr, hml, hown, hts, hX, hbl, hlocks, hA, hA2, hbA, hev, hsf⟩
    have hl : lv_has ls 4 [(3, .int 0), (2, .ref q_79), (1, .ref q_1), (0, .ref b)] := lv_sub hl [0, 1, 2, 3] rfl
    match j, hj with
    | 0, _ =>
      refine lv_tableIn (tgt := 224) hx hb dL_law_33 (by decide) (by decide) rfl (by decide) ?_
      exact law_0 LC hS hq10 (hP9.sub [0, 1, 2, 3, 27, 36, 37, 41] rfl) (hK9.sub [0, 1, 19, 24, 28] rfl) (hD9.sub [0, 1, 2, 3, 27, 36, 37, 41] (by decide) rfl) hl
    | 1, _ =>
      refine lv_tableIn (tgt := 257) hx hb dL_law_33 (by decide) (by decide) rfl (by decide) ?_
      exact law_1 LC hS hq10 (hP9.sub [0, 1, 27, 36, 37, 41] rfl) (hK9.sub [19, 24, 28] rfl) (hD9.sub [0, 1, 27, 36, 37, 41] (by decide) rfl) hl
    | 2, _ =>
      refine lv_tableIn (tgt := 290) hx hb dL_law_33 (by decide) (by decide) rfl (by decide) ?_
      exact law_2 LC hS hq10 (hP9.sub [0, 1, 27, 36, 37, 41] rfl) (hK9.sub [19, 24, 28] rfl) (hD9.sub [0, 1, 27, 36, 37, 41] (by decide) rfl) hl
    | 3, _ =>
      refine lv_tableIn (tgt := 323) hx hb dL_law_33 (by decide) (by decide) rfl (by decide) ?_
      exact law_3 LC hS hq10 (hP9.sub [0, 1, 27, 36, 37, 41] rfl) (hK9.sub [19, 24, 28] rfl) (hD9.sub [0, 1, 27, 36, 37, 41] (by decide) rfl) hl
    | 4, _ =>
      refine lv_tableIn (tgt := 372) hx hb dL_law_33 (by decide) (by decide) rfl (by decide) ?_
      exact law_4 LC hS hq10 (hP9.sub [0, 1, 27, 36, 37, 41] rfl) (hK9.sub [19, 24, 28] rfl) (hD9.sub [0, 1, 27, 36, 37, 41] (by decide) rfl) hl
    | 5, _ =>
      refine lv_tableIn (tgt := 405) hx hb dL_law_33 (by decide) (by decide) rfl (by decide) ?_
      exact law_5 LC hS hq10 (hP9.sub [0, 1, 27, 36, 37, 41] rfl) (hK9.sub [19, 24, 28] rfl) (hD9.sub [0, 1, 27, 36, 37, 41] (by decide) rfl) hl
    | 6, _ =>
      refine lv_tableIn (tgt := 438) hx hb dL_law_33 (by decide) (by decide) rfl (by decide) ?_
      exact law_6 LC hS hq10 (hP9.sub [0, 1, 27, 36, 37, 41] rfl) (hK9.sub [19, 24, 28] rfl) (hD9.sub [0, 1, 27, 36, 37, 41] (by decide) rfl) hl
    | 7, _ =>
      refine lv_tableIn (tgt := 471) hx hb dL_law_33 (by decide) (by decide) rfl (by decide) ?_
      exact law_7 LC hS hq10 (hP9.sub [0, 1, 27, 36, 37, 41] rfl) (hK9.sub [19, 24, 28] rfl) (hD9.sub [0, 1, 27, 36, 37, 41] (by decide) rfl) hl
    | 8, _ =>
      refine lv_tableIn (tgt := 505) hx hb dL_law_33 (by decide) (by decide) rfl (by decide) ?_
      exact law_8 LC hS hq10 (hP9.sub [0, 1, 27, 36, 37, 41] rfl) (hK9.sub [19, 24, 28] rfl) (hD9.sub [0, 1, 27, 36, 37, 41] (by decide) rfl) hl
    | 9, _ =>
      refine lv_tableIn (tgt := 538) hx hb dL_law_33 (by decide) (by decide) rfl (by decide) ?_
      exact law_9 LC hS hq10 (hP9.sub [0, 1, 27, 36, 37, 41] rfl) (hK9.sub [19, 24, 28] rfl) (hD9.sub [0, 1, 27, 36, 37, 41] (by decide) rfl) hl
    | 10, _ =>
      refine lv_tableIn (tgt := 571) hx hb dL_law_33 (by decide) (by decide) rfl (by decide) ?_
      exact law_10 LC hS hq10 (hP9.sub [0, 1, 27, 36, 37, 41] rfl) (hK9.sub [19, 24, 28] rfl) (hD9.sub [0, 1, 27, 36, 37, 41] (by decide) rfl) hl
    | 11, _ =>
      refine lv_tableIn (tgt := 594) hx hb dL_law_33 (by decide) (by decide) rfl (by decide) ?_
      exact law_11 LC hS hq0 hq1 hq10 (hP9.sub [0, 1, 4, 5, 27, 36, 37, 41] rfl) (hK9.sub [2, 3, 19, 24, 28] rfl) (hD9.sub [0, 1, 4, 5, 27, 36, 37, 41] (by decide) rfl) hl
    | 12, _ =>
      refine lv_tableIn (tgt := 627) hx hb dL_law_33 (by decide) (by decide) rfl (by decide) ?_
      exact law_12 LC hS hq0 hq10 (hP9.sub [0, 1, 4, 36, 37] rfl) (hK9.sub [2, 24] rfl) (hD9.sub [0, 1, 4, 36, 37] (by decide) rfl) hl
    | 13, _ =>
      refine lv_tableIn (tgt := 641) hx hb dL_law_33 (by decide) (by decide) rfl (by decide) ?_
      exact law_13 LC hS hq0 hq10 (hP9.sub [0, 1, 4, 36, 37] rfl) (hK9.sub [2, 24] rfl) (hD9.sub [0, 1, 4, 36, 37] (by decide) rfl) hl
    | 14, _ =>
      refine lv_tableIn (tgt := 655) hx hb dL_law_33 (by decide) (by decide) rfl (by decide) ?_
      exact law_14 LC hS hq0 hq10 (hP9.sub [0, 1, 4, 27, 36, 37, 41] rfl) (hK9.sub [2, 19, 24, 28] rfl) (hD9.sub [0, 1, 4, 27, 36, 37, 41] (by decide) rfl) hl
    | 15, _ =>
      refine lv_tableIn (tgt := 668) hx hb dL_law_33 (by decide) (by decide) rfl (by decide) ?_
      exact law_15 LC hS hq10 (hP9.sub [0, 1, 6, 36, 37, 39] rfl) (hK9.sub [4, 24, 26] rfl) (hD9.sub [0, 1, 6, 36, 37, 39] (by decide) rfl) hl
    | 16, _ =>
      refine lv_tableIn (tgt := 721) hx hb dL_law_33 (by decide) (by decide) rfl (by decide) ?_
      exact law_16 LC hS hq10 (hP9.sub [0, 1, 27, 36, 37, 41] rfl) (hK9.sub [19, 24, 28] rfl) (hD9.sub [0, 1, 27, 36, 37, 41] (by decide) rfl) hl
    | 17, _ =>
      refine lv_tableIn (tgt := 744) hx hb dL_law_33 (by decide) (by decide) rfl (by decide) ?_
      exact law_17 LC hS hq10 (hP9.sub [0, 1, 27, 36, 37, 41] rfl) (hK9.sub [19, 24, 28] rfl) (hD9.sub [0, 1, 27, 36, 37, 41] (by decide) rfl) hl
    | 18, _ =>
      refine lv_tableIn (tgt := 768) hx hb dL_law_33 (by decide) (by decide) rfl (by decide) ?_
      exact law_18 LC hS hq10 (hP9.sub [0, 1, 27, 36, 37, 41] rfl) (hK9.sub [19, 24, 28] rfl) (hD9.sub [0, 1, 27, 36, 37, 41] (by decide) rfl) hl
    | 19, _ =>
      refine lv_tableIn (tgt := 791) hx hb dL_law_33 (by decide) (by decide) rfl (by decide) ?_
      exact law_19 LC hS hq10 (hP9.sub [0, 1, 27, 36, 37, 41] rfl) (hK9.sub [19, 24, 28] rfl) (hD9.sub [0, 1, 27, 36, 37, 41] (by decide) rfl) hl
    | 20, _ =>
      refine lv_tableIn (tgt := 824) hx hb dL_law_33 (by decide) (by decide) rfl (by decide) ?_
      exact law_20 LC hS hq10 (hP9.sub [0, 1, 27, 36, 37, 41] rfl) (hK9.sub [19, 24, 28] rfl) (hD9.sub [0, 1, 27, 36, 37, 41] (by decide) rfl) hl
    | 21, _ =>
      refine lv_tableIn (tgt := 847) hx hb dL_law_33 (by decide) (by decide) rfl (by decide) ?_
      exact law_21 LC hS hq10 (hP9.sub [0, 1, 27, 36, 37, 41] rfl) (hK9.sub [19, 24, 28] rfl) (hD9.sub [0, 1, 27, 36, 37, 41] (by decide) rfl) hl
    | 22, _ =>
      refine lv_tableIn (tgt := 890) hx hb dL_law_33 (by decide) (by decide) rfl (by decide) ?_
      exact law_22 LC hS hq10 (hP9.sub [0, 1, 27, 36, 37, 41] rfl) (hK9.sub [19, 24, 28] rfl) (hD9.sub [0, 1, 27, 36, 37, 41] (by decide) rfl) hl
    | 23, _ =>
      refine lv_tableIn (tgt := 913) hx hb dL_law_33 (by decide) (by decide) rfl (by decide) ?_
      exact law_23 LC hS hq10 (hP9.sub [0, 1, 27, 36, 37, 41] rfl) (hK9.sub [19, 24, 28] rfl) (hD9.sub [0, 1, 27, 36, 37, 41] (by decide) rfl) hl
    | 24, _ =>
      refine lv_tableIn (tgt := 936) hx hb dL_law_33 (by decide) (by decide) rfl (by decide) ?_
      exact law_24 LC hS hq10 (hP9.sub [0, 1, 27, 36, 37, 41] rfl) (hK9.sub [19, 24, 28] rfl) (hD9.sub [0, 1, 27, 36, 37, 41] (by decide) rfl) hl
    | 25, _ =>
      refine lv_tableIn (tgt := 969) hx hb dL_law_33 (by decide) (by decide) rfl (by decide) ?_
      exact law_25 LC hS hq10 (hP9.sub [0, 1, 27, 36, 37, 41] rfl) (hK9.sub [19, 24, 28] rfl) (hD9.sub [0, 1, 27, 36, 37, 41] (by decide) rfl) hl
    | 26, _ =>
      refine lv_tableIn (tgt := 1002) hx hb dL_law_33 (by decide) (by decide) rfl (by decide) ?_
      exact law_26 LC hS hq0 hq10 (hP9.sub [0, 1, 4, 27, 36, 37, 41] rfl) (hK9.sub [2, 19, 24, 28] rfl) (hD9.sub [0, 1, 4, 27, 36, 37, 41] (by decide) rfl) hl
    | 27, _ =>
      refine lv_tableIn (tgt := 1015) hx hb dL_law_33 (by decide) (by decide) rfl (by decide) ?_
      exact law_27 LC hS hq10 (hP9.sub [0, 1, 14, 27, 36, 37, 41] rfl) (hK9.sub [19, 24, 28] rfl) (hD9.sub [0, 1, 14, 27, 36, 37, 41] (by decide) rfl) hl
    | 28, _ =>
      refine lv_tableIn (tgt := 1038) hx hb dL_law_33 (by decide) (by decide) rfl (by decide) ?_
      exact law_28 LC hS hq10 (hP9.sub [0, 1, 27, 36, 37, 41] rfl) (hK9.sub [19, 24, 28] rfl) (hD9.sub [0, 1, 27, 36, 37, 41] (by decide) rfl) hl
    | 29, _ =>
      refine lv_tableIn (tgt := 1051) hx hb dL_law_33 (by decide) (by decide) rfl (by decide) ?_
      exact law_29 LC hS hq10 (hP9.sub [0, 1, 27, 36, 37, 41] rfl) (hK9.sub [19, 24, 28] rfl) (hD9.sub [0, 1, 27, 36, 37, 41] (by decide) rfl) hl
    | 30, _ =>
      refine lv_tableIn (tgt := 1064) hx hb dL_law_33 (by decide) (by decide) rfl (by decide) ?_
      exact law_30 LC hS (hP9.sub [0, 17, 18, 19, 27, 36, 41, 44] rfl) (hK9.sub [12, 19, 28, 31] rfl) (hD9.sub [0, 17, 18, 19, 27, 36, 41, 44] (by decide) rfl) hl
    | 31, _ =>
      refine lv_tableIn (tgt := 1097) hx hb dL_law_33 (by decide) (by decide) rfl (by decide) ?_
      exact law_31 LC hS (hP9.sub [0, 17, 18, 36] rfl) (hK9.sub [] rfl) (hD9.sub [0, 17, 18, 36] (by decide) rfl) hl
    | 32, _ =>
      refine lv_tableIn (tgt := 1110) hx hb dL_law_33 (by decide) (by decide) rfl (by decide) ?_
      exact law_32 LC hS hq10 hq11 (hP9.sub [0, 1, 2, 3, 4, 5, 6, 17, 18, 20, 21, 22, 23, 24, 25, 36, 37, 45, 46, 47] rfl) (hK9.sub [0, 1, 2, 3, 4, 13, 14, 15, 16, 17, 24, 32, 33, 34] rfl) (hD9.sub [0, 1, 2, 3, 4, 5, 6, 17, 18, 20, 21, 22, 23, 24, 25, 36, 37, 45, 46, 47] (by decide) rfl) hl
    | 33, _ =>
      refine lv_tableIn (tgt := 1123) hx hb dL_law_33 (by decide) (by decide) rfl (by decide) ?_
      exact law_33 LC hS hq6 hq7 hq8 hq9 (hP9.sub [0, 26, 27, 28, 29, 30, 31, 32, 33, 34, 35, 36, 41, 48, 49, 50] rfl) (hK9.sub [18, 19, 20, 21, 22, 23, 28, 35, 36, 37] rfl) (hD9.sub [0, 26, 27, 28, 29, 30, 31, 32, 33, 34, 35, 36, 41, 48, 49, 50] (by decide) rfl) hl
    | 34, _ =>
      refine lv_tableIn (tgt := 1166) hx hb dL_law_33 (by decide) (by decide) rfl (by decide) ?_
      exact law_34 LC hS hq6 hq7 hq8 hq9 (hP9.sub [0, 26, 27, 28, 30, 32, 34, 36, 41, 48] rfl) (hK9.sub [18, 19, 28, 35] rfl) (hD9.sub [0, 26, 27, 28, 30, 32, 34, 36, 41, 48] (by decide) rfl) hl
    | 35, _ =>
      refine lv_tableIn (tgt := 1240) hx hb dL_law_33 (by decide) (by decide) rfl (by decide) ?_
      exact law_35 LC hS hq6 hq7 hq8 hq9 (hP9.sub [0, 26, 27, 28, 30, 32, 34, 36, 41, 48] rfl) (hK9.sub [18, 19, 28, 35] rfl) (hD9.sub [0, 26, 27, 28, 30, 32, 34, 36, 41, 48] (by decide) rfl) hl
    | 36, _ =>
      refine lv_tableIn (tgt := 1303) hx hb dL_law_33 (by decide) (by decide) rfl (by decide) ?_
      exact law_36 LC hS hq6 hq7 hq8 hq9 (hP9.sub [0, 26, 27, 28, 30, 32, 34, 36, 41, 48] rfl) (hK9.sub [18, 19, 28, 35] rfl) (hD9.sub [0, 26, 27, 28, 30, 32, 34, 36, 41, 48] (by decide) rfl) hl
    | 37, _ =>
      refine lv_tableIn (tgt := 1326) hx hb dL_law_33 (by decide) (by decide) rfl (by decide) ?_
      exact law_37 LC hS hq6 hq7 hq8 hq9 (hP9.sub [0, 26, 27, 28, 30, 32, 34, 36, 41, 48] rfl) (hK9.sub [18, 19, 28, 35] rfl) (hD9.sub [0, 26, 27, 28, 30, 32, 34, 36, 41, 48] (by decide) rfl) hl
    | 38, _ =>
      refine lv_tableIn (tgt := 1349) hx hb dL_law_33 (by decide) (by decide) rfl (by decide) ?_
      exact law_38 LC hS hq6 hq7 hq8 hq9 (hP9.sub [0, 26, 27, 28, 30, 32, 34, 36, 41, 48] rfl) (hK9.sub [18, 19, 28, 35] rfl) (hD9.sub [0, 26, 27, 28, 30, 32, 34, 36, 41, 48] (by decide) rfl) hl
    | 39, _ =>
      refine lv_tableIn (tgt := 1372) hx hb dL_law_33 (by decide) (by decide) rfl (by decide) ?_
      exact law_39 LC hS (hP9.sub [0, 1, 2, 3, 4, 5, 6, 7, 8, 9, 10, 11, 12, 36, 37, 38, 39, 40] rfl) (hK9.sub [0, 1, 2, 3, 4, 5, 6, 7, 8, 9, 24, 25, 26, 27] rfl) (hD9.sub [0, 1, 2, 3, 4, 5, 6, 7, 8, 9, 10, 11, 12, 36, 37, 38, 39, 40] (by decide) rfl) hl
    | 40, _ =>
      refine lv_tableIn (tgt := 1385) hx hb dL_law_33 (by decide) (by decide) rfl (by decide) ?_
      exact law_40 LC hS (hP9.sub [0, 27, 36, 41] rfl) (hK9.sub [19, 28] rfl) (hD9.sub [0, 27, 36, 41] (by decide) rfl) hl
    | 41, _ =>
      refine lv_tableIn (tgt := 1398) hx hb dL_law_33 (by decide) (by decide) rfl (by decide) ?_
      exact law_41 LC hS (hP9.sub [0, 36] rfl) (hK9.sub [] rfl) (hD9.sub [0, 36] (by decide) rfl) hl
    | 42, _ =>
      refine lv_tableIn (tgt := 1411) hx hb dL_law_33 (by decide) (by decide) rfl (by decide) ?_
      exact law_42 LC hS hq0 hq10 (hP9.sub [0, 1, 4, 17, 18, 27, 36, 37, 41] rfl) (hK9.sub [2, 19, 24, 28] rfl) (hD9.sub [0, 1, 4, 17, 18, 27, 36, 37, 41] (by decide) rfl) hl
    | 43, _ =>
      refine lv_tableIn (tgt := 1434) hx hb dL_law_33 (by decide) (by decide) rfl (by decide) ?_
      exact law_43 LC hS (hP9.sub [0, 27, 36, 41] rfl) (hK9.sub [19, 28] rfl) (hD9.sub [0, 27, 36, 41] (by decide) rfl) hl
    | 44, _ =>
      refine lv_tableOut (tgt := 1457) hx hb dL_law_33 (by decide) (by decide) ?_
      exact law_tail LC hS (lv_sub hl [0, 3] rfl)
    | 45, _ =>
      refine lv_tableOut (tgt := 1457) hx hb dL_law_33 (by decide) (by decide) ?_
      exact law_tail LC hS (lv_sub hl [0, 3] rfl)
    | 46, _ =>
      refine lv_tableOut (tgt := 1457) hx hb dL_law_33 (by decide) (by decide) ?_
      exact law_tail LC hS (lv_sub hl [0, 3] rfl)
    | 47, _ =>
      refine lv_tableOut (tgt := 1457) hx hb dL_law_33 (by decide) (by decide) ?_
      exact law_tail LC hS (lv_sub hl [0, 3] rfl)
    | 48, _ =>
      refine lv_tableOut (tgt := 1457) hx hb dL_law_33 (by decide) (by decide) ?_
      exact law_tail LC hS (lv_sub hl [0, 3] rfl)
    | 49, _ =>
      refine lv_tableOut (tgt := 1457) hx hb dL_law_33 (by decide) (by decide) ?_
      exact law_tail LC hS (lv_sub hl [0, 3] rfl)
    | 50, _ =>
      refine lv_tableOut (tgt := 1457) hx hb dL_law_33 (by decide) (by decide) ?_
      exact law_tail LC hS (lv_sub hl [0, 3] rfl)
    | 51, _ =>
      refine lv_tableOut (tgt := 1457) hx hb dL_law_33 (by decide) (by decide) ?_
      exact law_tail LC hS (lv_sub hl [0, 3] rfl)
    | 52, _ =>
      refine lv_tableOut (tgt := 1457) hx hb dL_law_33 (by decide) (by decide) ?_
      exact law_tail LC hS (lv_sub hl [0, 3] rfl)
    | 53, _ =>
      refine lv_tableOut (tgt := 1457) hx hb dL_law_33 (by decide) (by decide) ?_
      exact law_tail LC hS (lv_sub hl [0, 3] rfl)
    | 54, _ =>
      refine lv_tableOut (tgt := 1457) hx hb dL_law_33 (by decide) (by decide) ?_
      exact law_tail LC hS (lv_sub hl [0, 3] rfl)
    | 55, _ =>
      refine lv_tableOut (tgt := 1457) hx hb dL_law_33 (by decide) (by decide) ?_
      exact law_tail LC hS (lv_sub hl [0, 3] rfl)
    | 56, _ =>
      refine lv_tableOut (tgt := 1457) hx hb dL_law_33 (by decide) (by decide) ?_
      exact law_tail LC hS (lv_sub hl [0, 3] rfl)
    | 57, _ =>
      refine lv_tableOut (tgt := 1457) hx hb dL_law_33 (by decide) (by decide) ?_
      exact law_tail LC hS (lv_sub hl [0, 3] rfl)
    | 58, _ =>
      refine lv_tableOut (tgt := 1457) hx hb dL_law_33 (by decide) (by decide) ?_
      exact law_tail LC hS (lv_sub hl [0, 3] rfl)
    | 59, _ =>
      refine lv_tableOut (tgt := 1457) hx hb dL_law_33 (by decide) (by decide) ?_
      exact law_tail LC hS (lv_sub hl [0, 3] rfl)
    | 60, _ =>
      refine lv_tableOut (tgt := 1457) hx hb dL_law_33 (by decide) (by decide) ?_
      exact law_tail LC hS (lv_sub hl [0, 3] rfl)
    | 61, _ =>
      refine lv_tableOut (tgt := 1457) hx hb dL_law_33 (by decide) (by decide) ?_
      exact law_tail LC hS (lv_sub hl [0, 3] rfl)
    | 62, _ =>
      refine lv_tableOut (tgt := 1457) hx hb dL_law_33 (by decide) (by decide) ?_
      exact law_tail LC hS (lv_sub hl [0, 3] rfl)
    | 63, _ =>
      refine lv_tableOut (tgt := 1457) hx hb dL_law_33 (by decide) (by decide) ?_
      exact law_tail LC hS (lv_sub hl [0, 3] rfl)
    | (j + 64), hj => omega

