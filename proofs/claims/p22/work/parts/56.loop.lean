theorem dL_law_18 : decode cL_law 18 = .ok (.iload_n 3, 1) := by decide +kernel
theorem dL_law_19 : decode cL_law 19 = .ok (.aload_n 0, 1) := by decide +kernel
theorem dL_law_20 : decode cL_law 20 = .ok (.arraylength, 1) := by decide +kernel
theorem dL_law_21 : decode cL_law 21 = .ok (.bipush 6, 2) := by decide +kernel
theorem dL_law_23 : decode cL_law 23 = .ok (.isub, 1) := by decide +kernel
theorem dL_law_24 : decode cL_law 24 = .ok (.if_icmp .gt 1434, 3) := by decide +kernel
theorem dL_law_27 : decode cL_law 27 = .ok (.aload_n 0, 1) := by decide +kernel
theorem dL_law_28 : decode cL_law 28 = .ok (.iload_n 3, 1) := by decide +kernel
theorem dL_law_29 : decode cL_law 29 = .ok (.iaload, 1) := by decide +kernel
theorem dL_law_30 : decode cL_law 30 = .ok (.bipush 63, 2) := by decide +kernel
theorem dL_law_32 : decode cL_law 32 = .ok (.iand, 1) := by decide +kernel
theorem dL_law_33 : decode cL_law 33 = .ok (.tableswitch 1419 0 43 #[191, 224, 257, 290, 339, 372, 405, 438, 471, 504, 537, 560, 593, 606, 619, 632, 685, 708, 731, 754, 787, 810, 853, 876, 899, 932, 965, 978, 1001, 1014, 1027, 1060, 1073, 1086, 1129, 1202, 1265, 1288, 1311, 1334, 1347, 1360, 1373, 1396], 191) := by decide +kernel
theorem dL_law_1452 : decode cL_law 1452 = .ok (.iinc 3 6, 3) := by decide +kernel
theorem dL_law_1455 : decode cL_law 1455 = .ok (.goto (-1437), 3) := by decide +kernel
theorem dL_law_1458 : decode cL_law 1458 = .ok (.iconst 1, 1) := by decide +kernel
theorem dL_law_1459 : decode cL_law 1459 = .ok (.ireturn, 1) := by decide +kernel
set_option maxHeartbeats 4000000 in
set_option maxRecDepth 100000 in
theorem law_loop {p : Program} {l : Launch} {e : Env} {s : State} {m : MethodId} {below : List Frame} {meth : Method} {c : Code} {b L : Nat} {xs : Nat → Int32} {A : Nat → Prop} {dC : Nat → ClassId} {dI : Nat → Nat → Nat} {ad : Nat → Nat} {q : Nat → Nat} {cq : Nat → ClassId} {pf jf : Nat → Option Nat} {i : Int32} {H : Heap} {locs : List Loc} {ls : Array Slot} {uu : Nat → Int32} {ff : Nat → Nat → Int32} {gl : Nat → Nat → Int64} {d1 : Int64} (LC : lawC p s m meth c b L xs A ad) (hp0 : pf 0 = (some (q 28))) (hp1 : pf 1 = (some (q 30))) (hp2 : pf 2 = (some (q 32))) (hp3 : pf 3 = (some (q 34))) (hjf : ∀ j, j < 6 → jf j = (some (ad (13 + j)))) (hL : L ≤ 3072) (hK : va_K (dC, dI) vwCl (WTY cq) s) (hi0 : 0 ≤ i.toInt ∧ i.toInt ≤ 3078) (hJ : lawJ uu ff) (hP : va_P (dC, dI) vwCl (WLD q cq pf jf uu ff gl d1) H) (hD : va_D A (WLD q cq pf jf uu ff gl d1)) (hS : va_S A s.heap H locs) (hl : lv_has ls 4 [(3, .int i), (2, .ref (q 36)), (1, .ref (q 0)), (0, .ref b)]) : W p l e room_1 s m #[Value.ref b] below meth c H locs 52 1794 (lw_Z below #[Value.ref b] s) (F0 m 18 ls []) := by
  obtain ⟨hx, hb, hr, hml, hown, hts, hX, hbl, hlocks, hA, hA2, hbA, hev, hsf⟩ := id LC
  refine pp_loop (ι := Int32 × (Nat → Int32) × (Nat → Nat → Int32) × (Nat → Nat → Int64) × Int64) (fun ⟨i, _, _, _, _⟩ => (3079 - i.toInt).toNat) (fun ⟨i, uu, ff, gl, d1⟩ H locs ls => (0 ≤ i.toInt ∧ i.toInt ≤ 3078) ∧ lawJ uu ff ∧ va_P (dC, dI) vwCl (WLD q cq pf jf uu ff gl d1) H ∧ va_D A (WLD q cq pf jf uu ff gl d1) ∧ va_S A s.heap H locs ∧ lv_has ls 4 [(3, .int i), (2, .ref (q 36)), (1, .ref (q 0)), (0, .ref b)]) ?_ (i, uu, ff, gl, d1) _ _ _ ⟨hi0, hJ, hP, hD, hS, hl⟩
  intro n ih v H locs ls hm hI
  obtain ⟨i, uu, ff, gl, d1⟩ := v
  obtain ⟨hi0, hJ, hP, hD, hS, hl⟩ := hI
  have hm : (3079 - i.toInt).toNat < n + 1 := hm
  have hi0 : 0 ≤ i.toInt ∧ i.toInt ≤ 3078 := hi0
  have hJ : lawJ uu ff := hJ
  have hP : va_P (dC, dI) vwCl (WLD q cq pf jf uu ff gl d1) H := hP
  have hD : va_D A (WLD q cq pf jf uu ff gl d1) := hD
  have hl : lv_has ls 4 [(3, .int i), (2, .ref (q 36)), (1, .ref (q 0)), (0, .ref b)] := hl
  refine lv_iload_n hx hb dL_law_18 rfl (lv_at hl 0 rfl) ?_
  refine lv_aload_n hx hb dL_law_19 rfl (lv_at hl 3 rfl) ?_
  refine va_slen hx hb hX hbl hbA hS dL_law_20 ?_
  refine lv_topi (fun nL eL => ?_)
  have tL : nL.toInt = (L : Int) := by rw [eL]; exact nI_toInt (by omega)
  refine lv_bipush (v := 6) hx hb dL_law_21 (by decide) ?_
  refine lv_isub hx hb dL_law_23 ?_
  refine lv_topi (fun n6 e6 => ?_)
  have t6 : n6.toInt = nL.toInt - 6 := pp_sub e6 rfl rfl (by omega) (by omega)
  refine lv_icmp_gt (tgt := 1458) hx hb dL_law_24 (by decide) (fun c1 => ?_) (fun c1 => ?_)
  · skip
    refine lv_iconst (v := 1) hx hb dL_law_1458 (by decide) ?_
    refine va_forget (fun q hq => hA2 _ (hS.2.2 q hq)) ?_
    refine W.widen (k := 600000) (n := 7302250) (Nat.le_of_ble_eq_true rfl) (Nat.le_of_ble_eq_true rfl) ?_
    exact lw_ret hx hb hr hlocks dL_law_1459
  · skip
    have c2 : ¬ n6.toInt < i.toInt := fun h => c1 ((fa_lt _ _).mpr h)
    have hi : 0 ≤ i.toInt ∧ i.toInt + 6 ≤ (L : Int) := by omega
    refine lv_aload_n hx hb dL_law_27 rfl (lv_at hl 3 rfl) ?_
    refine lv_iload_n hx hb dL_law_28 rfl (lv_at hl 0 rfl) ?_
    refine va_sld hx hb hX hbl hbA hS (vp_in_iff.mpr ⟨by omega, by omega⟩) dL_law_29 ?_
    refine lv_bipush (v := 63) hx hb dL_law_30 (by decide) ?_
    refine lv_iand hx hb dL_law_32 ?_
    obtain ⟨j, hj, ej⟩ := pk_andE (xs i.toNatClampNeg) (m := 63) 6 (by decide)
    refine pp_ti (y := nI j) ej ?_
    clear ej
    have K : lawK p l e s m below meth c b A dC dI q cq pf jf i := by
      intro uu ff gl d1 H locs ls hJ hP hD hS hl
      obtain ⟨i2, e2⟩ : ∃ y : Int32, y = i + 6 := ⟨_, rfl⟩
      have t2 : i2.toInt = i.toInt + 6 := pp_add e2 rfl rfl (by omega) (by omega)
      refine lv_iinc (v := i2) (lv' := [(3, .int i2), (2, .ref (q 36)), (1, .ref (q 0)), (0, .ref b)]) hx hb dL_law_1452 hl (k := 0) rfl (by rw [e2]; rfl) (by decide) rfl (fun ls hl => ?_)
      refine lv_goto (tgt := 18) hx hb dL_law_1455 (by decide) ?_
      exact ih (i2, uu, ff, gl, d1) _ _ _ (by show (3079 - i2.toInt).toNat < n; omega) ⟨by show 0 ≤ i2.toInt ∧ i2.toInt ≤ 3078; omega, hJ, hP, hD, hS, hl⟩
    match j, hj with
    | 0, _ =>
      refine lv_tableIn (tgt := 224) hx hb dL_law_33 (by decide) (by decide) rfl (by decide) ?_
      exact law_0 LC hp0 hp1 hp2 hp3 hjf hL hi rfl rfl rfl rfl rfl hJ hP hK hD hS hl K
    | 1, _ =>
      refine lv_tableIn (tgt := 257) hx hb dL_law_33 (by decide) (by decide) rfl (by decide) ?_
      exact law_1 LC hp0 hp1 hp2 hp3 hjf hL hi rfl rfl rfl rfl rfl hJ hP hK hD hS hl K
    | 2, _ =>
      refine lv_tableIn (tgt := 290) hx hb dL_law_33 (by decide) (by decide) rfl (by decide) ?_
      exact law_2 LC hp0 hp1 hp2 hp3 hjf hL hi rfl rfl rfl rfl rfl hJ hP hK hD hS hl K
    | 3, _ =>
      refine lv_tableIn (tgt := 323) hx hb dL_law_33 (by decide) (by decide) rfl (by decide) ?_
      exact law_3 LC hp0 hp1 hp2 hp3 hjf hL hi rfl rfl rfl rfl rfl hJ hP hK hD hS hl K
    | 4, _ =>
      refine lv_tableIn (tgt := 372) hx hb dL_law_33 (by decide) (by decide) rfl (by decide) ?_
      exact law_4 LC hp0 hp1 hp2 hp3 hjf hL hi rfl rfl rfl rfl rfl hJ hP hK hD hS hl K
    | 5, _ =>
      refine lv_tableIn (tgt := 405) hx hb dL_law_33 (by decide) (by decide) rfl (by decide) ?_
      exact law_5 LC hp0 hp1 hp2 hp3 hjf hL hi rfl rfl rfl rfl rfl hJ hP hK hD hS hl K
    | 6, _ =>
      refine lv_tableIn (tgt := 438) hx hb dL_law_33 (by decide) (by decide) rfl (by decide) ?_
      exact law_6 LC hp0 hp1 hp2 hp3 hjf hL hi rfl rfl rfl rfl rfl hJ hP hK hD hS hl K
    | 7, _ =>
      refine lv_tableIn (tgt := 471) hx hb dL_law_33 (by decide) (by decide) rfl (by decide) ?_
      exact law_7 LC hp0 hp1 hp2 hp3 hjf hL hi rfl rfl rfl rfl rfl hJ hP hK hD hS hl K
    | 8, _ =>
      refine lv_tableIn (tgt := 504) hx hb dL_law_33 (by decide) (by decide) rfl (by decide) ?_
      exact law_8 LC hp0 hp1 hp2 hp3 hjf hL hi rfl rfl rfl rfl rfl hJ hP hK hD hS hl K
    | 9, _ =>
      refine lv_tableIn (tgt := 537) hx hb dL_law_33 (by decide) (by decide) rfl (by decide) ?_
      exact law_9 LC hp0 hp1 hp2 hp3 hjf hL hi rfl rfl rfl rfl rfl hJ hP hK hD hS hl K
    | 10, _ =>
      refine lv_tableIn (tgt := 570) hx hb dL_law_33 (by decide) (by decide) rfl (by decide) ?_
      exact law_10 LC hp0 hp1 hp2 hp3 hjf hL hi rfl rfl rfl rfl rfl hJ hP hK hD hS hl K
    | 11, _ =>
      refine lv_tableIn (tgt := 593) hx hb dL_law_33 (by decide) (by decide) rfl (by decide) ?_
      exact law_11 LC hp0 hp1 hp2 hp3 hjf hL hi rfl rfl rfl rfl rfl hJ hP hK hD hS hl K
    | 12, _ =>
      refine lv_tableIn (tgt := 626) hx hb dL_law_33 (by decide) (by decide) rfl (by decide) ?_
      exact law_12 LC hp0 hp1 hp2 hp3 hjf hL hi rfl rfl rfl rfl rfl hJ hP hK hD hS hl K
    | 13, _ =>
      refine lv_tableIn (tgt := 639) hx hb dL_law_33 (by decide) (by decide) rfl (by decide) ?_
      exact law_13 LC hp0 hp1 hp2 hp3 hjf hL hi rfl rfl rfl rfl rfl hJ hP hK hD hS hl K
    | 14, _ =>
      refine lv_tableIn (tgt := 652) hx hb dL_law_33 (by decide) (by decide) rfl (by decide) ?_
      exact law_14 LC hp0 hp1 hp2 hp3 hjf hL hi rfl rfl rfl rfl rfl hJ hP hK hD hS hl K
    | 15, _ =>
      refine lv_tableIn (tgt := 665) hx hb dL_law_33 (by decide) (by decide) rfl (by decide) ?_
      exact law_15 LC hp0 hp1 hp2 hp3 hjf hL hi rfl rfl rfl rfl rfl hJ hP hK hD hS hl K
    | 16, _ =>
      refine lv_tableIn (tgt := 718) hx hb dL_law_33 (by decide) (by decide) rfl (by decide) ?_
      exact law_16 LC hp0 hp1 hp2 hp3 hjf hL hi rfl rfl rfl rfl rfl hJ hP hK hD hS hl K
    | 17, _ =>
      refine lv_tableIn (tgt := 741) hx hb dL_law_33 (by decide) (by decide) rfl (by decide) ?_
      exact law_17 LC hp0 hp1 hp2 hp3 hjf hL hi rfl rfl rfl rfl rfl hJ hP hK hD hS hl K
    | 18, _ =>
      refine lv_tableIn (tgt := 764) hx hb dL_law_33 (by decide) (by decide) rfl (by decide) ?_
      exact law_18 LC hp0 hp1 hp2 hp3 hjf hL hi rfl rfl rfl rfl rfl hJ hP hK hD hS hl K
    | 19, _ =>
      refine lv_tableIn (tgt := 787) hx hb dL_law_33 (by decide) (by decide) rfl (by decide) ?_
      exact law_19 LC hp0 hp1 hp2 hp3 hjf hL hi rfl rfl rfl rfl rfl hJ hP hK hD hS hl K
    | 20, _ =>
      refine lv_tableIn (tgt := 820) hx hb dL_law_33 (by decide) (by decide) rfl (by decide) ?_
      exact law_20 LC hp0 hp1 hp2 hp3 hjf hL hi rfl rfl rfl rfl rfl hJ hP hK hD hS hl K
    | 21, _ =>
      refine lv_tableIn (tgt := 843) hx hb dL_law_33 (by decide) (by decide) rfl (by decide) ?_
      exact law_21 LC hp0 hp1 hp2 hp3 hjf hL hi rfl rfl rfl rfl rfl hJ hP hK hD hS hl K
    | 22, _ =>
      refine lv_tableIn (tgt := 886) hx hb dL_law_33 (by decide) (by decide) rfl (by decide) ?_
      exact law_22 LC hp0 hp1 hp2 hp3 hjf hL hi rfl rfl rfl rfl rfl hJ hP hK hD hS hl K
    | 23, _ =>
      refine lv_tableIn (tgt := 909) hx hb dL_law_33 (by decide) (by decide) rfl (by decide) ?_
      exact law_23 LC hp0 hp1 hp2 hp3 hjf hL hi rfl rfl rfl rfl rfl hJ hP hK hD hS hl K
    | 24, _ =>
      refine lv_tableIn (tgt := 932) hx hb dL_law_33 (by decide) (by decide) rfl (by decide) ?_
      exact law_24 LC hp0 hp1 hp2 hp3 hjf hL hi rfl rfl rfl rfl rfl hJ hP hK hD hS hl K
    | 25, _ =>
      refine lv_tableIn (tgt := 965) hx hb dL_law_33 (by decide) (by decide) rfl (by decide) ?_
      exact law_25 LC hp0 hp1 hp2 hp3 hjf hL hi rfl rfl rfl rfl rfl hJ hP hK hD hS hl K
    | 26, _ =>
      refine lv_tableIn (tgt := 998) hx hb dL_law_33 (by decide) (by decide) rfl (by decide) ?_
      exact law_26 LC hp0 hp1 hp2 hp3 hjf hL hi rfl rfl rfl rfl rfl hJ hP hK hD hS hl K
    | 27, _ =>
      refine lv_tableIn (tgt := 1011) hx hb dL_law_33 (by decide) (by decide) rfl (by decide) ?_
      exact law_27 LC hp0 hp1 hp2 hp3 hjf hL hi rfl rfl rfl rfl rfl hJ hP hK hD hS hl K
    | 28, _ =>
      refine lv_tableIn (tgt := 1034) hx hb dL_law_33 (by decide) (by decide) rfl (by decide) ?_
      exact law_28 LC hp0 hp1 hp2 hp3 hjf hL hi rfl rfl rfl rfl rfl hJ hP hK hD hS hl K
    | 29, _ =>
      refine lv_tableIn (tgt := 1047) hx hb dL_law_33 (by decide) (by decide) rfl (by decide) ?_
      exact law_29 LC hp0 hp1 hp2 hp3 hjf hL hi rfl rfl rfl rfl rfl hJ hP hK hD hS hl K
    | 30, _ =>
      refine lv_tableIn (tgt := 1060) hx hb dL_law_33 (by decide) (by decide) rfl (by decide) ?_
      exact law_30 LC hp0 hp1 hp2 hp3 hjf hL hi rfl rfl rfl rfl rfl hJ hP hK hD hS hl K
    | 31, _ =>
      refine lv_tableIn (tgt := 1093) hx hb dL_law_33 (by decide) (by decide) rfl (by decide) ?_
      exact law_31 LC hp0 hp1 hp2 hp3 hjf hL hi rfl rfl rfl rfl rfl hJ hP hK hD hS hl K
    | 32, _ =>
      refine lv_tableIn (tgt := 1106) hx hb dL_law_33 (by decide) (by decide) rfl (by decide) ?_
      exact law_32 LC hp0 hp1 hp2 hp3 hjf hL hi rfl rfl rfl rfl rfl hJ hP hK hD hS hl K
    | 33, _ =>
      refine lv_tableIn (tgt := 1119) hx hb dL_law_33 (by decide) (by decide) rfl (by decide) ?_
      exact law_33 LC hp0 hp1 hp2 hp3 hjf hL hi rfl rfl rfl rfl rfl hJ hP hK hD hS hl K
    | 34, _ =>
      refine lv_tableIn (tgt := 1162) hx hb dL_law_33 (by decide) (by decide) rfl (by decide) ?_
      exact law_34 LC hp0 hp1 hp2 hp3 hjf hL hi rfl rfl rfl rfl rfl hJ hP hK hD hS hl K
    | 35, _ =>
      refine lv_tableIn (tgt := 1235) hx hb dL_law_33 (by decide) (by decide) rfl (by decide) ?_
      exact law_35 LC hp0 hp1 hp2 hp3 hjf hL hi rfl rfl rfl rfl rfl hJ hP hK hD hS hl K
    | 36, _ =>
      refine lv_tableIn (tgt := 1298) hx hb dL_law_33 (by decide) (by decide) rfl (by decide) ?_
      exact law_36 LC hp0 hp1 hp2 hp3 hjf hL hi rfl rfl rfl rfl rfl hJ hP hK hD hS hl K
    | 37, _ =>
      refine lv_tableIn (tgt := 1321) hx hb dL_law_33 (by decide) (by decide) rfl (by decide) ?_
      exact law_37 LC hp0 hp1 hp2 hp3 hjf hL hi rfl rfl rfl rfl rfl hJ hP hK hD hS hl K
    | 38, _ =>
      refine lv_tableIn (tgt := 1344) hx hb dL_law_33 (by decide) (by decide) rfl (by decide) ?_
      exact law_38 LC hp0 hp1 hp2 hp3 hjf hL hi rfl rfl rfl rfl rfl hJ hP hK hD hS hl K
    | 39, _ =>
      refine lv_tableIn (tgt := 1367) hx hb dL_law_33 (by decide) (by decide) rfl (by decide) ?_
      exact law_39 LC hp0 hp1 hp2 hp3 hjf hL hi rfl rfl rfl rfl rfl hJ hP hK hD hS hl K
    | 40, _ =>
      refine lv_tableIn (tgt := 1380) hx hb dL_law_33 (by decide) (by decide) rfl (by decide) ?_
      exact law_40 LC hp0 hp1 hp2 hp3 hjf hL hi rfl rfl rfl rfl rfl hJ hP hK hD hS hl K
    | 41, _ =>
      refine lv_tableIn (tgt := 1393) hx hb dL_law_33 (by decide) (by decide) rfl (by decide) ?_
      exact law_41 LC hp0 hp1 hp2 hp3 hjf hL hi rfl rfl rfl rfl rfl hJ hP hK hD hS hl K
    | 42, _ =>
      refine lv_tableIn (tgt := 1406) hx hb dL_law_33 (by decide) (by decide) rfl (by decide) ?_
      exact law_42 LC hp0 hp1 hp2 hp3 hjf hL hi rfl rfl rfl rfl rfl hJ hP hK hD hS hl K
    | 43, _ =>
      refine lv_tableIn (tgt := 1429) hx hb dL_law_33 (by decide) (by decide) rfl (by decide) ?_
      exact law_43 LC hp0 hp1 hp2 hp3 hjf hL hi rfl rfl rfl rfl rfl hJ hP hK hD hS hl K
    | 44, _ =>
      refine lv_tableOut (tgt := 1452) hx hb dL_law_33 (by decide) (by decide) ?_
      exact K _ _ _ _ _ _ _ hJ hP hD hS hl
    | 45, _ =>
      refine lv_tableOut (tgt := 1452) hx hb dL_law_33 (by decide) (by decide) ?_
      exact K _ _ _ _ _ _ _ hJ hP hD hS hl
    | 46, _ =>
      refine lv_tableOut (tgt := 1452) hx hb dL_law_33 (by decide) (by decide) ?_
      exact K _ _ _ _ _ _ _ hJ hP hD hS hl
    | 47, _ =>
      refine lv_tableOut (tgt := 1452) hx hb dL_law_33 (by decide) (by decide) ?_
      exact K _ _ _ _ _ _ _ hJ hP hD hS hl
    | 48, _ =>
      refine lv_tableOut (tgt := 1452) hx hb dL_law_33 (by decide) (by decide) ?_
      exact K _ _ _ _ _ _ _ hJ hP hD hS hl
    | 49, _ =>
      refine lv_tableOut (tgt := 1452) hx hb dL_law_33 (by decide) (by decide) ?_
      exact K _ _ _ _ _ _ _ hJ hP hD hS hl
    | 50, _ =>
      refine lv_tableOut (tgt := 1452) hx hb dL_law_33 (by decide) (by decide) ?_
      exact K _ _ _ _ _ _ _ hJ hP hD hS hl
    | 51, _ =>
      refine lv_tableOut (tgt := 1452) hx hb dL_law_33 (by decide) (by decide) ?_
      exact K _ _ _ _ _ _ _ hJ hP hD hS hl
    | 52, _ =>
      refine lv_tableOut (tgt := 1452) hx hb dL_law_33 (by decide) (by decide) ?_
      exact K _ _ _ _ _ _ _ hJ hP hD hS hl
    | 53, _ =>
      refine lv_tableOut (tgt := 1452) hx hb dL_law_33 (by decide) (by decide) ?_
      exact K _ _ _ _ _ _ _ hJ hP hD hS hl
    | 54, _ =>
      refine lv_tableOut (tgt := 1452) hx hb dL_law_33 (by decide) (by decide) ?_
      exact K _ _ _ _ _ _ _ hJ hP hD hS hl
    | 55, _ =>
      refine lv_tableOut (tgt := 1452) hx hb dL_law_33 (by decide) (by decide) ?_
      exact K _ _ _ _ _ _ _ hJ hP hD hS hl
    | 56, _ =>
      refine lv_tableOut (tgt := 1452) hx hb dL_law_33 (by decide) (by decide) ?_
      exact K _ _ _ _ _ _ _ hJ hP hD hS hl
    | 57, _ =>
      refine lv_tableOut (tgt := 1452) hx hb dL_law_33 (by decide) (by decide) ?_
      exact K _ _ _ _ _ _ _ hJ hP hD hS hl
    | 58, _ =>
      refine lv_tableOut (tgt := 1452) hx hb dL_law_33 (by decide) (by decide) ?_
      exact K _ _ _ _ _ _ _ hJ hP hD hS hl
    | 59, _ =>
      refine lv_tableOut (tgt := 1452) hx hb dL_law_33 (by decide) (by decide) ?_
      exact K _ _ _ _ _ _ _ hJ hP hD hS hl
    | 60, _ =>
      refine lv_tableOut (tgt := 1452) hx hb dL_law_33 (by decide) (by decide) ?_
      exact K _ _ _ _ _ _ _ hJ hP hD hS hl
    | 61, _ =>
      refine lv_tableOut (tgt := 1452) hx hb dL_law_33 (by decide) (by decide) ?_
      exact K _ _ _ _ _ _ _ hJ hP hD hS hl
    | 62, _ =>
      refine lv_tableOut (tgt := 1452) hx hb dL_law_33 (by decide) (by decide) ?_
      exact K _ _ _ _ _ _ _ hJ hP hD hS hl
    | 63, _ =>
      refine lv_tableOut (tgt := 1452) hx hb dL_law_33 (by decide) (by decide) ?_
      exact K _ _ _ _ _ _ _ hJ hP hD hS hl
    | (j + 64), hj => omega

