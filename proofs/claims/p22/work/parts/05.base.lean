theorem fa_lt (a b : Int32) : a < b ↔ a.toInt < b.toInt := Int32.lt_iff_toInt_lt
theorem fa_le (a b : Int32) : a ≤ b ↔ a.toInt ≤ b.toInt := Int32.le_iff_toInt_le
theorem fa_eq (a b : Int32) : a = b ↔ a.toInt = b.toInt := Int32.toInt_inj.symm
theorem li_0 : (0 : Int32).toInt = 0 := by decide
theorem li_1 : (1 : Int32).toInt = 1 := by decide
theorem li_2 : (2 : Int32).toInt = 2 := by decide
theorem li_3 : (3 : Int32).toInt = 3 := by decide
theorem li_4 : (4 : Int32).toInt = 4 := by decide
theorem li_5 : (5 : Int32).toInt = 5 := by decide
theorem li_6 : (6 : Int32).toInt = 6 := by decide
theorem li_7 : (7 : Int32).toInt = 7 := by decide
theorem li_8 : (8 : Int32).toInt = 8 := by decide
theorem li_9 : (9 : Int32).toInt = 9 := by decide
theorem li_10 : (10 : Int32).toInt = 10 := by decide
theorem li_12 : (12 : Int32).toInt = 12 := by decide
theorem li_15 : (15 : Int32).toInt = 15 := by decide
theorem li_16 : (16 : Int32).toInt = 16 := by decide
theorem li_20 : (20 : Int32).toInt = 20 := by decide
theorem li_30 : (30 : Int32).toInt = 30 := by decide
theorem li_34 : (34 : Int32).toInt = 34 := by decide
theorem li_38 : (38 : Int32).toInt = 38 := by decide
theorem li_40 : (40 : Int32).toInt = 40 := by decide
theorem li_63 : (63 : Int32).toInt = 63 := by decide
theorem li_64 : (64 : Int32).toInt = 64 := by decide
theorem li_65 : (65 : Int32).toInt = 65 := by decide
theorem li_78 : (78 : Int32).toInt = 78 := by decide
theorem li_120 : (120 : Int32).toInt = 120 := by decide
theorem li_1000 : (1000 : Int32).toInt = 1000 := by decide
theorem li_4000 : (4000 : Int32).toInt = 4000 := by decide
theorem li_10000 : (10000 : Int32).toInt = 10000 := by decide
theorem li_11077 : (11077 : Int32).toInt = 11077 := by decide
theorem li_255 : (255 : Int32).toInt = 255 := by decide
theorem li_65535 : (65535 : Int32).toInt = 65535 := by decide
theorem li_m1 : ((-1) : Int32).toInt = -1 := by decide
theorem li_m2 : ((-2) : Int32).toInt = -2 := by decide
theorem li_m1000000001 : ((-1000000001) : Int32).toInt = -1000000001 := by decide
theorem li_m1000000002 : ((-1000000002) : Int32).toInt = -1000000002 := by decide
theorem li_m1000000003 : ((-1000000003) : Int32).toInt = -1000000003 := by decide
theorem li_m1000000004 : ((-1000000004) : Int32).toInt = -1000000004 := by decide
theorem li_m1000000005 : ((-1000000005) : Int32).toInt = -1000000005 := by decide
theorem li_m1000000006 : ((-1000000006) : Int32).toInt = -1000000006 := by decide
theorem li_m1000000007 : ((-1000000007) : Int32).toInt = -1000000007 := by decide
def ev_F : List (String × Nat × String × String × String × String) := [(RX5, 46, "LampShapes$Stage", "shapes", "I", "LampShapes"),
  (RX8, 141, "LampShapes$Stage", "shapes", "I", "LampShapes"),
  (RX8, 79, "LampShapes$Stage", "kinds", "[I", "LampShapes"),
  (RX8, 82, "LampShapes$Stage", "points", "[I", "LampShapes"),
  (RX8, 297, "LampShapes$Stage", "tornShapes", "I", "LampShapes"),
  (RX8, 131, "LampShapes$Stage", "heldShapes", "[I", "LampShapes"),
  (RX8, 124, "LampShapes$Stage", "heldPlacings", "[I", "LampShapes"),
  (RX3, 22, "LampShapes$Stage", "scenes", "I", "LampShapes"),
  (RX8, 204, "LampShapes$Stage", "scenes", "I", "LampShapes"),
  (RX5, 52, "LampShapes$Stage", "pictures", "[J", "LampShapes"),
  (RX8, 160, "LampShapes$Stage", "pictures", "[J", "LampShapes"),
  (RX8, 171, "LampShapes$Stage", "allowed", "I", "LampShapes"),
  (RX8, 178, "LampShapes$Search", "placing", "I", "LampShapes"),
  (RX8, 181, "LampShapes$Search", "least", "I", "LampShapes"),
  (RX8, 215, "LampShapes$Route", "cost", "I", "LampShapes"),
  (RX8, 218, "LampShapes$Route", "steps", "[I", "LampShapes"),
  (RX4, 46, "LampShapes$Tape", "size", "I", "LampShapes"),
  (RX8, 244, "LampShapes$Tape", "size", "I", "LampShapes"),
  (RX4, 49, "LampShapes$Tape", "bytes", "[I", "LampShapes"),
  (RX8, 232, "LampShapes$Script", "tape", "LLampShapes$Tape;", "LampShapes"),
  (RX8, 247, "LampShapes$Script", "stage", "LLampShapes$Stage;", "LampShapes"),
  (RX8, 279, "LampShapes$Paper", "bits", "I", "LampShapes"),
  (RX8, 267, "LampShapes$Paper", "size", "I", "LampShapes"),
  (RX8, 272, "LampShapes$Paper", "numbers", "[J", "LampShapes")]
def ev_M : List (String × Nat × MethodName × String) := [(RX8, 21, yX5_init, "LampShapes"), (RX8, 28, yX3_init, "LampShapes"), (RX8, 35, yX4_init, "LampShapes"), (RX4, 11, yX7_init, "LampShapes"), (RX8, 54, yX2_init, "LampShapes")]
def ev_T : List (String × Nat × String) := [(RX4, 101, "shape"), (RX4, 105, "turned"), (RX4, 107, "mirrored"), (RX4, 109, "hollow"), (RX4, 111, "double"), (RX4, 113, "filled"), (RX4, 74, "scene"), (RX4, 83, "hold"), (RX4, 144, "near"), (RX4, 149, "turn"), (RX4, 151, "at"), (RX4, 88, "torn"), (RX4, 93, "drop"), (RX9, 37, "shape"), (RX9, 39, "turned"), (RX9, 41, "mirrored"), (RX9, 43, "hollow"), (RX9, 45, "double"), (RX9, 47, "filled"), (RX9, 251, "scene"), (RX9, 256, "hold"), (RX9, 268, "near"), (RX9, 274, "turn"), (RX9, 276, "at"), (RX9, 261, "drop"), (RX9, 266, "torn")]
def ev_C : List String := ["LampShapes$Paper", "java/lang/String"]
/-- what a state must give beside the words: links between nest mates, arrays over classes, String constants at the places ad -/
def ev (ad : Nat → Nat) (U : State) : Prop :=
  (∀ q ∈ ev_F, va_Nw (.fieldLinkNest q.1 q.2.1 q.2.2.1 q.2.2.2.1 q.2.2.2.2.1 q.2.2.2.2.2) U) ∧
  (∀ q ∈ ev_M, va_Nw (.methodLinkNest q.1 q.2.1 q.2.2.1 q.2.2.2) U) ∧
  (∀ C ∈ ev_C, va_AO C U) ∧ (∀ (k : Nat) (q : String × Nat × String), ev_T[k]? = some q → vk_R q.1 q.2.1 q.2.2 (ad k) U)
theorem ev_same {ad : Nat → Nat} {u U : State} (hv : u.vm = U.vm) (h : ev ad u) : ev ad U :=
  ⟨fun q hq => va_Nw.same rfl hv (h.1 q hq), fun q hq => va_Nw.same rfl hv (h.2.1 q hq), fun C hC => va_AO.moved (by rw [hv]; exact Vm.Alike.refl _) (h.2.2.1 C hC), fun k q hk => vk_R.same hv.symm (h.2.2.2 k q hk)⟩
theorem ev_warm {ad : Nat → Nat} {s U : State} (hW : s.WarmedH U.vm) (h : ev ad s) : ev ad U :=
  ⟨fun q hq => va_Nw.warmF hW (h.1 q hq), fun q hq => va_Nw.warmM hW (h.2.1 q hq), fun C hC => va_AO.moved hW.alike (h.2.2.1 C hC), fun k q hk => vk_R.warm hW (h.2.2.2 k q hk)⟩
theorem ev_nest {ad : Nat → Nat} {U : State} {A : Array Value} (h : ev ad U) (k : Nat) {a : String} {i : Nat} {b n d t : String} (hk : ev_F[k]? = some (a, i, b, n, d, t)) : (Cond.fieldLinkNest a i b n d t).before A U = true := va_Nw.use rfl (h.1 _ (List.mem_of_getElem? hk))
theorem ev_nestM {ad : Nat → Nat} {U : State} (h : ev ad U) (k : Nat) {a : String} {i : Nat} {y : MethodName} {t : String} (hk : ev_M[k]? = some (a, i, y, t)) : va_Nw (.methodLinkNest a i y t) U := h.2.1 _ (List.mem_of_getElem? hk)
theorem ev_ao {ad : Nat → Nat} {U : State} (h : ev ad U) {C : String} (hC : C ∈ ev_C) : va_AO C U := h.2.2.1 C hC
theorem ev_str {ad : Nat → Nat} {U : State} (h : ev ad U) (k : Nat) {a : String} {i : Nat} {t : String} (hk : ev_T[k]? = some (a, i, t)) : vk_R a i t (ad k) U := h.2.2.2 k _ hk
/-- a start whose heap stays -/
def preS (dC : Nat → ClassId) (dI : Nat → Nat → Nat) (ad : Nat → Nat) (tys : List (ClassId × FieldType)) (ws : va_W) (U : State) : Prop := va_P (dC, dI) vwCl ws U.heap ∧ va_K (dC, dI) vwCl tys U ∧ ev ad U
/-- a start whose cells may change -/
def preM (dC : Nat → ClassId) (dI : Nat → Nat → Nat) (ad : Nat → Nat) (tys : List (ClassId × FieldType)) (ws : va_W) (sz : Nat) (U : State) : Prop := U.heap.size = sz ∧ va_P (dC, dI) vwCl ws U.heap ∧ va_K (dC, dI) vwCl tys U ∧ va_D (fun _ => True) ws ∧ ev ad U
theorem preS_blind {av : List Value} {dC : Nat → ClassId} {dI : Nat → Nat → Nat} {ad : Nat → Nat} {tys : List (ClassId × FieldType)} {ws : va_W} : FrameBlind (va_Pc av (preS dC dI ad tys ws)) := fun a U g mk q => ⟨q.1, q.2.1, va_K.moved (u := U) (U := U.calling g mk a) (Vm.Alike.refl U.vm) q.2.2.1, ev_same (u := U) rfl q.2.2.2⟩
theorem preM_blind {av : List Value} {dC : Nat → ClassId} {dI : Nat → Nat → Nat} {ad : Nat → Nat} {tys : List (ClassId × FieldType)} {ws : va_W} {sz : Nat} : FrameBlind (va_Pc av (preM dC dI ad tys ws sz)) := fun a U g mk q => ⟨q.1, q.2.1, q.2.2.1, va_K.moved (u := U) (U := U.calling g mk a) (Vm.Alike.refl U.vm) q.2.2.2.1, q.2.2.2.2.1, ev_same (u := U) rfl q.2.2.2.2.2⟩
theorem preS_at {dC : Nat → ClassId} {dI : Nat → Nat → Nat} {ad : Nat → Nat} {tys : List (ClassId × FieldType)} {ws : va_W} {s U : State} {H : Heap} (hU : U.heap = H) (hW : s.WarmedH U.vm) (hP : va_P (dC, dI) vwCl ws H) (hK : va_K (dC, dI) vwCl tys s) (he : ev ad s) : preS dC dI ad tys ws U := ⟨by rw [hU]; exact hP, va_K.moved hW.alike hK, ev_warm hW he⟩
theorem preM_at {dC : Nat → ClassId} {dI : Nat → Nat → Nat} {ad : Nat → Nat} {tys : List (ClassId × FieldType)} {ws : va_W} {A : Nat → Prop} {s U : State} {H : Heap} (hU : U.heap = H) (hW : s.WarmedH U.vm) (hP : va_P (dC, dI) vwCl ws H) (hK : va_K (dC, dI) vwCl tys s) (hD : va_D A ws) (he : ev ad s) : preM dC dI ad tys ws H.size U := ⟨by rw [hU], by rw [hU]; exact hP, va_K.moved hW.alike hK, hD.weaken (fun _ _ _ _ => trivial), ev_warm hW he⟩
theorem nil_P {D : va_G} {cl : List vw_C} {H : Heap} : va_P D cl [] H := fun k q h => by simp at h
theorem nil_D {A : Nat → Prop} : va_D A [] := ⟨fun i j p q h => by simp at h, fun k q h => by simp at h⟩
theorem pp_in_lt {i : Int32} {n : Nat} (h : vp_in i n) : i.toNatClampNeg < n := Nat.not_le.mp fun q => h (Or.inr q)
theorem sub_of_places {ws big : List Cond} (k n : Nat) (h : (big.drop k).take n = ws) : ∀ w ∈ ws, w ∈ big := fun w hw => by rw [← h] at hw; exact List.mem_of_mem_drop (List.mem_of_mem_take hw)
theorem pp_imp2 {n P Q : Prop} (h : (n → P) ∧ (n → Q)) (hn : n) : P ∧ Q := ⟨h.1 hn, h.2 hn⟩
theorem pp_imp3 {n P Q R : Prop} (h : (n → P) ∧ (n → Q) ∧ (n → R)) (hn : n) : P ∧ Q ∧ R := ⟨h.1 hn, h.2.1 hn, h.2.2 hn⟩
theorem pp_imp4 {n P Q R S : Prop} (h : (n → P) ∧ (n → Q) ∧ (n → R) ∧ (n → S)) (hn : n) : P ∧ Q ∧ R ∧ S := ⟨h.1 hn, h.2.1 hn, h.2.2.1 hn, h.2.2.2 hn⟩
theorem pp_c_0_3 (s : Int32) : s < 0 ∨ 3 < s ∨ s = 0 ∨ s = 1 ∨ s = 2 ∨ s = 3 := by
  simp only [fa_lt, fa_le, fa_eq, and_true, true_and, and_false, false_and, not_true_eq_false, not_false_eq_true, li_0, li_1, li_2, li_3, li_4, li_5, li_6, li_7, li_8, li_9, li_10, li_12, li_15, li_16, li_20, li_30, li_34, li_38, li_40, li_63, li_64, li_65, li_78, li_120, li_1000, li_4000, li_10000, li_11077, li_255, li_65535, li_m1, li_m2, li_m1000000001, li_m1000000002, li_m1000000003, li_m1000000004, li_m1000000005, li_m1000000006, li_m1000000007]; omega
theorem pp_c_1_4 (s : Int32) : s < 1 ∨ 4 < s ∨ s = 1 ∨ s = 2 ∨ s = 3 ∨ s = 4 := by
  simp only [fa_lt, fa_le, fa_eq, and_true, true_and, and_false, false_and, not_true_eq_false, not_false_eq_true, li_0, li_1, li_2, li_3, li_4, li_5, li_6, li_7, li_8, li_9, li_10, li_12, li_15, li_16, li_20, li_30, li_34, li_38, li_40, li_63, li_64, li_65, li_78, li_120, li_1000, li_4000, li_10000, li_11077, li_255, li_65535, li_m1, li_m2, li_m1000000001, li_m1000000002, li_m1000000003, li_m1000000004, li_m1000000005, li_m1000000006, li_m1000000007]; omega
theorem pp_c_m1_6 (s : Int32) : s < (-1) ∨ 6 < s ∨ s = (-1) ∨ s = 0 ∨ s = 1 ∨ s = 2 ∨ s = 3 ∨ s = 4 ∨ s = 5 ∨ s = 6 := by
  simp only [fa_lt, fa_le, fa_eq, and_true, true_and, and_false, false_and, not_true_eq_false, not_false_eq_true, li_0, li_1, li_2, li_3, li_4, li_5, li_6, li_7, li_8, li_9, li_10, li_12, li_15, li_16, li_20, li_30, li_34, li_38, li_40, li_63, li_64, li_65, li_78, li_120, li_1000, li_4000, li_10000, li_11077, li_255, li_65535, li_m1, li_m2, li_m1000000001, li_m1000000002, li_m1000000003, li_m1000000004, li_m1000000005, li_m1000000006, li_m1000000007]; omega
theorem pp_c_0_6 (s : Int32) : s < 0 ∨ 6 < s ∨ s = 0 ∨ s = 1 ∨ s = 2 ∨ s = 3 ∨ s = 4 ∨ s = 5 ∨ s = 6 := by
  simp only [fa_lt, fa_le, fa_eq, and_true, true_and, and_false, false_and, not_true_eq_false, not_false_eq_true, li_0, li_1, li_2, li_3, li_4, li_5, li_6, li_7, li_8, li_9, li_10, li_12, li_15, li_16, li_20, li_30, li_34, li_38, li_40, li_63, li_64, li_65, li_78, li_120, li_1000, li_4000, li_10000, li_11077, li_255, li_65535, li_m1, li_m2, li_m1000000001, li_m1000000002, li_m1000000003, li_m1000000004, li_m1000000005, li_m1000000006, li_m1000000007]; omega

theorem pp_and15 (a : Int32) : 0 ≤ a &&& 15 := by
  obtain ⟨j, hj, e⟩ := pk_andE a (m := 15) 4 (by decide)
  rw [e]; exact nI_pos' (by omega)
/-- what the reference's row of numbers holds at first -/
def fr_n : Nat → Int32 := fun j => if j = 2 then 63 else if 30 ≤ j then -1 else 0
theorem pp_shr4_n : ∀ j, j < 64 → (nI j >>> (4 &&& 31) = 0 ↔ nI j ≤ 15) := by decide +kernel
theorem pp_shr4 (a : Int32) : 0 ≤ a → a ≤ 63 → (a >>> (4 &&& 31) = 0 ↔ a ≤ 15) := by
  intro h0 h1
  obtain ⟨j, hj, rfl⟩ := nI_of2 (x := a) (M := 63) (n := 63) (by decide) (by simp only [fa_lt, fa_le, li_0] at h0 ⊢; omega) h1
  exact pp_shr4_n j (by omega)
section PP
variable {p : Program} {l : Launch} {e : Env} {R : Room} {s : State} {m : MethodId} {args : Array Value} {below : List Frame} {meth : Method} {c : Code} {H : Heap} {locs : List Loc} {cells slots : Nat} {Q : State → Prop} {pc : Nat} {ls : Array Slot} {rest : List Value}
theorem pp_ti {x y : Int32} (h : x = y) (k : W p l e R s m args below meth c H locs cells slots Q (F0 m pc ls (.int y :: rest))) : W p l e R s m args below meth c H locs cells slots Q (F0 m pc ls (.int x :: rest)) := h ▸ k
theorem pp_tl {x y : Int64} (h : x = y) (k : W p l e R s m args below meth c H locs cells slots Q (F0 m pc ls (.long y :: rest))) : W p l e R s m args below meth c H locs cells slots Q (F0 m pc ls (.long x :: rest)) := h ▸ k
theorem pp_tv {x y : Value} (h : x = y) (k : W p l e R s m args below meth c H locs cells slots Q (F0 m pc ls (y :: rest))) : W p l e R s m args below meth c H locs cells slots Q (F0 m pc ls (x :: rest)) := h ▸ k
end PP
theorem pp_nb {r : Int32} (h : r.toInt = 0 ∨ r.toInt = 1) : narrow .boolean (.int r) = .int r := by
  rcases h with h | h
  · have e : r = 0 := Int32.toInt_inj.mp h
    subst e; decide
  · have e : r = 1 := Int32.toInt_inj.mp h
    subst e; decide
theorem pp_min {x y n : Int32} (e : n = if y < x then y else x) : n.toInt ≤ x.toInt ∧ n.toInt ≤ y.toInt ∧ (n.toInt = x.toInt ∨ n.toInt = y.toInt) := by
  subst e
  split
  · rename_i h; rw [Int32.lt_iff_toInt_lt] at h; omega
  · rename_i h; rw [Int32.lt_iff_toInt_lt] at h; omega
theorem pp_rng (x : Int32) : -2147483648 ≤ x.toInt ∧ x.toInt < 2147483648 := ⟨Int32.le_toInt x, Int32.toInt_lt x⟩
theorem pp_add {x y z : Int32} {a b : Int} (e : z = x + y) (ha : x.toInt = a) (hb : y.toInt = b) (h1 : -2147483648 ≤ a + b) (h2 : a + b < 2147483648) : z.toInt = a + b := by
  subst ha hb e; rw [Int32.toInt_add]; exact Int.bmod_eq_of_le (by omega) (by omega)
theorem pp_sub {x y z : Int32} {a b : Int} (e : z = x - y) (ha : x.toInt = a) (hb : y.toInt = b) (h1 : -2147483648 ≤ a - b) (h2 : a - b < 2147483648) : z.toInt = a - b := by
  subst ha hb e; rw [Int32.toInt_sub]; exact Int.bmod_eq_of_le (by omega) (by omega)
theorem pp_mul {x y z : Int32} {a b : Int} (e : z = x * y) (ha : x.toInt = a) (hb : y.toInt = b) (h1 : -2147483648 ≤ a * b) (h2 : a * b < 2147483648) : z.toInt = a * b := by
  subst ha hb e; rw [Int32.toInt_mul]; exact Int.bmod_eq_of_le (by omega) (by omega)
theorem pp_lc_ne {x y : Int64} {n : Int32} (e : n = lg_cmp x y) (h : ¬ n = 0) : ¬ x = y := fun q => h (by rw [e, q]; simp [lg_cmp])
section PL
variable {p : Program} {l : Launch} {e : Env} {R : Room} {s : State} {m : MethodId} {args : Array Value} {below : List Frame} {meth : Method} {c : Code} {cells slots : Nat} {Q : State → Prop} {pc : Nat} {rest : List Value}
/-- a loop: an invariant over some numbers, a measure that falls -/
theorem pp_loop {ι : Type} (μ : ι → Nat) (Inv : ι → Heap → List Loc → Array Slot → Prop)
    (step : ∀ n : Nat, (∀ (i : ι) (H : Heap) (locs : List Loc) (ls : Array Slot), μ i < n → Inv i H locs ls → W p l e R s m args below meth c H locs cells slots Q (F0 m pc ls rest)) → ∀ (i : ι) (H : Heap) (locs : List Loc) (ls : Array Slot), μ i < n + 1 → Inv i H locs ls → W p l e R s m args below meth c H locs cells slots Q (F0 m pc ls rest))
    (i : ι) (H : Heap) (locs : List Loc) (ls : Array Slot) (h : Inv i H locs ls) : W p l e R s m args below meth c H locs cells slots Q (F0 m pc ls rest) := by
  have key : ∀ (n : Nat) (i : ι) (H : Heap) (locs : List Loc) (ls : Array Slot), μ i < n → Inv i H locs ls → W p l e R s m args below meth c H locs cells slots Q (F0 m pc ls rest) := by
    intro n
    induction n with
    | zero => intro i H locs ls hm; exact absurd hm (Nat.not_lt_zero _)
    | succ n ih => exact step n ih
  exact key (μ i + 1) i H locs ls (Nat.lt_succ_self _) h
end PL
theorem pp_bits_lt {x y z : Int64} {n : Nat} (e2 : z = x &&& y) (e1 : y = x - 1) (h : ¬ x = 0) (hm : x.toBitVec.toNat < n + 1) : z.toBitVec.toNat < n := by
  subst e2 e1
  have hx : x.toBitVec.toNat ≠ 0 := fun q => h (Int64.toBitVec_inj.mp (BitVec.eq_of_toNat_eq (by rw [q]; rfl)))
  have h1 : (x &&& (x - 1)).toBitVec.toNat ≤ (x - 1).toBitVec.toNat := by
    rw [Int64.toBitVec_and, BitVec.toNat_and]; exact Nat.and_le_right
  have h2 : (x - 1).toBitVec.toNat = x.toBitVec.toNat - 1 := by
    have hb := x.toBitVec.isLt
    have h3 : (1 : Int64).toBitVec.toNat = 1 := by decide
    rw [Int64.toBitVec_sub, BitVec.toNat_sub, h3]
    omega
  omega
theorem pp_shr4t {a n : Int32} (e : n = a >>> (4 &&& 31)) : 0 ≤ a.toInt → a.toInt ≤ 63 → (n.toInt = 0 ↔ a.toInt ≤ 15) := by
  intro h0 h1
  have h := pp_shr4 a ((fa_le _ _).mpr h0) ((fa_le _ _).mpr h1)
  rw [← e, fa_eq, fa_le] at h
  exact h
theorem pp_shl1_n : ∀ k, k < 7 → 1 ≤ ((1 : Int32) <<< (nI k &&& 31)).toInt ∧ ((1 : Int32) <<< (nI k &&& 31)).toInt ≤ 64 ∧ ((nI k).toInt ≤ 5 → ((1 : Int32) <<< (nI k &&& 31)).toInt ≤ 32) := by decide +kernel
theorem pp_nat {x : Int32} {n : Nat} (h0 : 0 ≤ x.toInt) (h1 : x.toInt < n) : ∃ j : Nat, j < n ∧ x = nI j := by
  obtain ⟨j, hj, e⟩ := nI_of (x := x) (fun h => by rw [fa_lt] at h; exact absurd h (by show ¬ x.toInt < 0; omega))
  refine ⟨j, ?_, e⟩
  rw [e, nI_toInt hj] at h1; omega
theorem pp_shl1 {y n : Int32} (e : n = 1 <<< (y &&& 31)) (h0 : 0 ≤ y.toInt) (h1 : y.toInt ≤ 6) : 1 ≤ n.toInt ∧ n.toInt ≤ 64 ∧ (y.toInt ≤ 5 → n.toInt ≤ 32) := by
  obtain ⟨j, hj, rfl⟩ := pp_nat (n := 7) h0 (by omega)
  rw [e]; exact pp_shl1_n j hj
theorem pp_or63_n : ∀ a, a < 64 → ∀ b, b < 64 → 0 ≤ (nI a ||| nI b).toInt ∧ (nI a ||| nI b).toInt ≤ 63 := by decide +kernel
theorem pp_or63 {x y n : Int32} (e : n = x ||| y) (h0 : 0 ≤ x.toInt) (h1 : x.toInt ≤ 63) (h2 : 0 ≤ y.toInt) (h3 : y.toInt ≤ 63) : 0 ≤ n.toInt ∧ n.toInt ≤ 63 := by
  obtain ⟨a, ha, rfl⟩ := pp_nat (n := 64) h0 (by omega)
  obtain ⟨b, hb, rfl⟩ := pp_nat (n := 64) h2 (by omega)
  rw [e]; exact pp_or63_n a ha b hb
