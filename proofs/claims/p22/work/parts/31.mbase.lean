theorem dX9_finding_0 : decode cX9_finding 0 = .ok (.aload_n 0, 1) := by decide +kernel
theorem dX9_finding_1 : decode cX9_finding 1 = .ok (.getfield 23, 3) := by decide +kernel
theorem dX9_finding_4 : decode cX9_finding 4 = .ok (.ldc 74, 2) := by decide +kernel
theorem dX9_finding_6 : decode cX9_finding 6 = .ok (.iload_n 1, 1) := by decide +kernel
theorem dX9_finding_7 : decode cX9_finding 7 = .ok (.isub, 1) := by decide +kernel
theorem dX9_finding_8 : decode cX9_finding 8 = .ok (.iconst 1, 1) := by decide +kernel
theorem dX9_finding_9 : decode cX9_finding 9 = .ok (.iadd, 1) := by decide +kernel
theorem dX9_finding_10 : decode cX9_finding 10 = .ok (.dup2, 1) := by decide +kernel
theorem dX9_finding_11 : decode cX9_finding 11 = .ok (.iaload, 1) := by decide +kernel
theorem dX9_finding_12 : decode cX9_finding 12 = .ok (.iconst 1, 1) := by decide +kernel
theorem dX9_finding_13 : decode cX9_finding 13 = .ok (.iadd, 1) := by decide +kernel
theorem dX9_finding_14 : decode cX9_finding 14 = .ok (.iastore, 1) := by decide +kernel
theorem dX9_finding_15 : decode cX9_finding 15 = .ok (.aload_n 0, 1) := by decide +kernel
theorem dX9_finding_16 : decode cX9_finding 16 = .ok (.getfield 23, 3) := by decide +kernel
theorem dX9_finding_19 : decode cX9_finding 19 = .ok (.iconst 0, 1) := by decide +kernel
theorem dX9_finding_20 : decode cX9_finding 20 = .ok (.dup2, 1) := by decide +kernel
theorem dX9_finding_21 : decode cX9_finding 21 = .ok (.iaload, 1) := by decide +kernel
theorem dX9_finding_22 : decode cX9_finding 22 = .ok (.iconst 1, 1) := by decide +kernel
theorem dX9_finding_23 : decode cX9_finding 23 = .ok (.iadd, 1) := by decide +kernel
theorem dX9_finding_24 : decode cX9_finding 24 = .ok (.iastore, 1) := by decide +kernel
theorem dX9_finding_25 : decode cX9_finding 25 = .ok (.iload_n 1, 1) := by decide +kernel
theorem dX9_finding_26 : decode cX9_finding 26 = .ok (.ireturn, 1) := by decide +kernel
theorem pp_i2l {x : Int32} {n : Int64} (e : n = x.toInt64) : n.toInt = x.toInt := by rw [e]; exact Int32.toInt_toInt64 x
theorem pp_ladd {x y z : Int64} (e : z = x + y) (h1 : -9223372036854775808 ≤ x.toInt + y.toInt) (h2 : x.toInt + y.toInt < 9223372036854775808) : z.toInt = x.toInt + y.toInt := by
  subst e; rw [Int64.toInt_add]; exact Int.bmod_eq_of_le (by omega) (by omega)
theorem pp_lcmp {x y : Int64} {n : Int32} (e : n = lg_cmp x y) : (0 < n.toInt → y.toInt < x.toInt) ∧ (n.toInt ≤ 0 → x.toInt ≤ y.toInt) := by
  unfold lg_cmp at e
  split at e
  · rename_i h
    have h' : y.toInt < x.toInt := Int64.lt_iff_toInt_lt.mp h
    subst e
    exact ⟨fun _ => h', fun q => absurd q (by decide)⟩
  · rename_i h
    have h' : ¬ y.toInt < x.toInt := fun q => h (Int64.lt_iff_toInt_lt.mpr q)
    split at e
    · subst e; exact ⟨fun q => absurd q (by decide), fun _ => by omega⟩
    · subst e; exact ⟨fun q => absurd q (by decide), fun _ => by omega⟩
/-- what counts of the reference's row of numbers: how many shapes and scenes; the four HOLDS hold a shape each, or none, and no shape twice -/
def mI (f : Nat → Int32) : Prop :=
  (0 ≤ (f 0).toInt ∧ (f 0).toInt ≤ 9) ∧ (0 ≤ (f 1).toInt ∧ (f 1).toInt ≤ 7) ∧
  ((-1 ≤ (f 30).toInt ∧ (f 30).toInt ≤ 8) ∧ (-1 ≤ (f 31).toInt ∧ (f 31).toInt ≤ 8) ∧ (-1 ≤ (f 32).toInt ∧ (f 32).toInt ≤ 8) ∧ (-1 ≤ (f 33).toInt ∧ (f 33).toInt ≤ 8)) ∧
  (((f 30).toInt = (f 31).toInt → (f 30).toInt = -1) ∧ ((f 30).toInt = (f 32).toInt → (f 30).toInt = -1) ∧ ((f 30).toInt = (f 33).toInt → (f 30).toInt = -1) ∧
   ((f 31).toInt = (f 32).toInt → (f 31).toInt = -1) ∧ ((f 31).toInt = (f 33).toInt → (f 31).toInt = -1) ∧ ((f 32).toInt = (f 33).toInt → (f 32).toInt = -1))
/-- a HOLD holds x -/
def hF (f : Nat → Int32) (x : Int) : Prop := (f 30).toInt = x ∨ (f 31).toInt = x ∨ (f 32).toInt = x ∨ (f 33).toInt = x
theorem mI_b {f : Nat → Int32} (h : mI f) : (0 ≤ (f 0).toInt ∧ (f 0).toInt ≤ 9) ∧ (0 ≤ (f 1).toInt ∧ (f 1).toInt ≤ 7) := ⟨h.1, h.2.1⟩
theorem mI_r0 {f : Nat → Int32} {n : Int32} (h : mI f) (e : n = f 0) : n.toInt = (f 0).toInt ∧ 0 ≤ n.toInt ∧ n.toInt ≤ 9 := by rw [e]; exact ⟨rfl, h.1⟩
theorem mI_r1 {f : Nat → Int32} {n : Int32} (h : mI f) (e : n = f 1) : n.toInt = (f 1).toInt ∧ 0 ≤ n.toInt ∧ n.toInt ≤ 7 := by rw [e]; exact ⟨rfl, h.2.1⟩
theorem mI_r30 {f : Nat → Int32} {n : Int32} (h : mI f) (e : n = f 30) : n.toInt = (f 30).toInt ∧ (-1) ≤ n.toInt ∧ n.toInt ≤ 8 := by rw [e]; exact ⟨rfl, h.2.2.1.1⟩
theorem mI_r31 {f : Nat → Int32} {n : Int32} (h : mI f) (e : n = f 31) : n.toInt = (f 31).toInt ∧ (-1) ≤ n.toInt ∧ n.toInt ≤ 8 := by rw [e]; exact ⟨rfl, h.2.2.1.2.1⟩
theorem mI_r32 {f : Nat → Int32} {n : Int32} (h : mI f) (e : n = f 32) : n.toInt = (f 32).toInt ∧ (-1) ≤ n.toInt ∧ n.toInt ≤ 8 := by rw [e]; exact ⟨rfl, h.2.2.1.2.2.1⟩
theorem mI_r33 {f : Nat → Int32} {n : Int32} (h : mI f) (e : n = f 33) : n.toInt = (f 33).toInt ∧ (-1) ≤ n.toInt ∧ n.toInt ≤ 8 := by rw [e]; exact ⟨rfl, h.2.2.1.2.2.2⟩
theorem pp_cl {x : Int32} (h : 0 ≤ x.toInt) : (x.toNatClampNeg : Int) = x.toInt := by
  show ((x.toInt.toNat : Nat) : Int) = x.toInt
  omega
theorem pp_cl_eq {x : Int32} {j : Nat} (h : 0 ≤ x.toInt) : x.toNatClampNeg = j ↔ x.toInt = j := by
  have := pp_cl h; omega
theorem mI_rh {f : Nat → Int32} {n x : Int32} (h : mI f) (e : n = f x.toNatClampNeg) (h0 : 30 ≤ x.toInt) (h1 : x.toInt ≤ 33) : (-1) ≤ n.toInt ∧ n.toInt ≤ 8 := by
  have hc := pp_cl (x := x) (by omega)
  have : x.toNatClampNeg = 30 ∨ x.toNatClampNeg = 31 ∨ x.toNatClampNeg = 32 ∨ x.toNatClampNeg = 33 := by omega
  obtain ⟨a, b, c, d⟩ := h.2.2.1
  rcases this with q | q | q | q <;> (rw [q] at e; rw [e]; assumption)
theorem pp_up_ne {f : Nat → Int32} {x v : Int32} {j : Nat} (h0 : 0 ≤ x.toInt) (h : ¬ x.toInt = (j : Int)) : (upd f x.toNatClampNeg v j).toInt = (f j).toInt := by
  have : ¬ j = x.toNatClampNeg := fun q => h ((pp_cl_eq h0).mp q.symm)
  unfold upd; rw [if_neg this]
theorem pp_up_or {f : Nat → Int32} {x v : Int32} {j : Nat} {w : Int} (h0 : 0 ≤ x.toInt) (hv : v.toInt = w) : (x.toInt = (j : Int) → (upd f x.toNatClampNeg v j).toInt = w) ∧ (¬ x.toInt = (j : Int) → (upd f x.toNatClampNeg v j).toInt = (f j).toInt) := by
  refine ⟨fun h => ?_, fun h => pp_up_ne h0 h⟩
  have : j = x.toNatClampNeg := ((pp_cl_eq h0).mpr h).symm
  unfold upd; rw [if_pos this, hv]
theorem pp_uN_eq {f : Nat → Int32} {k : Nat} {v : Int32} {w : Int} (h : v.toInt = w) : (upd f k v k).toInt = w := by
  unfold upd; rw [if_pos rfl, h]
theorem pp_uN_ne {f : Nat → Int32} {k j : Nat} {v : Int32} (h : ¬ j = k) : (upd f k v j).toInt = (f j).toInt := by
  unfold upd; rw [if_neg h]
theorem mI_01 {f g : Nat → Int32} (h : mI f) (b0 : 0 ≤ (g 0).toInt ∧ (g 0).toInt ≤ 9) (b1 : 0 ≤ (g 1).toInt ∧ (g 1).toInt ≤ 7) (e0 : (g 30).toInt = (f 30).toInt) (e1 : (g 31).toInt = (f 31).toInt) (e2 : (g 32).toInt = (f 32).toInt) (e3 : (g 33).toInt = (f 33).toInt) : mI g := by
  refine ⟨b0, b1, ?_⟩
  rw [e0, e1, e2, e3]; exact h.2.2
theorem mI_hold {f : Nat → Int32} {k : Nat} {v : Int32} (h : mI f) (h0 : 30 ≤ k) (h1 : k < 34) (v0 : -1 ≤ v.toInt) (v1 : v.toInt ≤ 8) (d : v.toInt = -1 ∨ ¬ hF f v.toInt) : mI (upd f k v) := by
  obtain ⟨a, b, ⟨c0, c1, c2, c3⟩, d0, d1, d2, d3, d4, d5⟩ := h
  have d' : v.toInt = -1 ∨ (¬ (f 30).toInt = v.toInt ∧ ¬ (f 31).toInt = v.toInt ∧ ¬ (f 32).toInt = v.toInt ∧ ¬ (f 33).toInt = v.toInt) := by
    rcases d with q | q
    · exact Or.inl q
    · refine Or.inr ⟨fun z => q (Or.inl z), fun z => q (Or.inr (Or.inl z)), fun z => q (Or.inr (Or.inr (Or.inl z))), fun z => q (Or.inr (Or.inr (Or.inr z)))⟩
  have q0 : (upd f k v 0) = f 0 := by unfold upd; rw [if_neg (by omega)]
  have q1 : (upd f k v 1) = f 1 := by unfold upd; rw [if_neg (by omega)]
  have hk : k = 30 ∨ k = 31 ∨ k = 32 ∨ k = 33 := by omega
  unfold mI
  rw [q0, q1]
  refine ⟨a, b, ?_⟩
  rcases hk with rfl | rfl | rfl | rfl
  · have e0 : upd f 30 v 30 = v := rfl
    have e1 : upd f 30 v 31 = f 31 := rfl
    have e2 : upd f 30 v 32 = f 32 := rfl
    have e3 : upd f 30 v 33 = f 33 := rfl
    rw [e0, e1, e2, e3]; omega
  · have e0 : upd f 31 v 30 = f 30 := rfl
    have e1 : upd f 31 v 31 = v := rfl
    have e2 : upd f 31 v 32 = f 32 := rfl
    have e3 : upd f 31 v 33 = f 33 := rfl
    rw [e0, e1, e2, e3]; omega
  · have e0 : upd f 32 v 30 = f 30 := rfl
    have e1 : upd f 32 v 31 = f 31 := rfl
    have e2 : upd f 32 v 32 = v := rfl
    have e3 : upd f 32 v 33 = f 33 := rfl
    rw [e0, e1, e2, e3]; omega
  · have e0 : upd f 33 v 30 = f 30 := rfl
    have e1 : upd f 33 v 31 = f 31 := rfl
    have e2 : upd f 33 v 32 = f 32 := rfl
    have e3 : upd f 33 v 33 = v := rfl
    rw [e0, e1, e2, e3]; omega
theorem mI_holdx {f : Nat → Int32} {x v : Int32} (h : mI f) (h0 : 30 ≤ x.toInt) (h1 : x.toInt ≤ 33) (v0 : -1 ≤ v.toInt) (v1 : v.toInt ≤ 8) (d : v.toInt = -1 ∨ ¬ hF f v.toInt) : mI (upd f x.toNatClampNeg v) := by
  have hc := pp_cl (x := x) (by omega)
  exact mI_hold h (by omega) (by omega) v0 v1 d
theorem hF_of {r : Int32} {P : Prop} (h : (-1) ≤ r.toInt ∧ r.toInt ≤ 3 ∧ ((0 ≤ r.toInt ∧ P) ∨ (r.toInt = (-1) ∧ ¬ P))) (h0 : 0 ≤ r.toInt) : P := by
  rcases h.2.2 with h | h
  · exact h.2
  · omega
theorem hF_not {r : Int32} {P : Prop} (h : (-1) ≤ r.toInt ∧ r.toInt ≤ 3 ∧ ((0 ≤ r.toInt ∧ P) ∨ (r.toInt = (-1) ∧ ¬ P))) (h0 : r.toInt < 0) : ¬ P := by
  rcases h.2.2 with h | h
  · omega
  · exact h.2
theorem pp_z4 {f : Nat → Int32} {x n : Int32} (z0 : 0 ≤ (f 0).toInt ∧ (f 0).toInt ≤ 40) (z1 : 0 ≤ (f 1).toInt ∧ (f 1).toInt ≤ 40) (z2 : 0 ≤ (f 2).toInt ∧ (f 2).toInt ≤ 40) (z3 : 0 ≤ (f 3).toInt ∧ (f 3).toInt ≤ 40) (e : n = f x.toNatClampNeg) (h0 : 0 ≤ x.toInt) (h1 : x.toInt ≤ 3) : 0 ≤ n.toInt ∧ n.toInt ≤ 40 := by
  have hc := pp_cl h0
  have : x.toNatClampNeg = 0 ∨ x.toNatClampNeg = 1 ∨ x.toNatClampNeg = 2 ∨ x.toNatClampNeg = 3 := by omega
  rcases this with q | q | q | q <;> (rw [q] at e; rw [e]; assumption)
theorem pp_nz {y : Int32} (h : ¬ y.toInt = 0) : y ≠ 0 := fun q => h (by rw [q]; decide)
theorem pp_div4000 {x n : Int32} (e : n = x / 4000) : -536871 ≤ n.toInt ∧ n.toInt ≤ 536871 := by
  have h1 := pp_rng x
  have h2 : n.toInt = x.toInt.tdiv 4000 := by
    rw [e, Int32.toInt_div]
    have h3 : (4000 : Int32).toInt = 4000 := by decide
    rw [h3]
    refine Int.bmod_eq_of_le ?_ ?_
    · rcases Int.le_total 0 x.toInt with q | q
      · have := Int.tdiv_nonneg q (b := 4000) (by decide); omega
      · have h4 : x.toInt.tdiv 4000 = -((-x.toInt).tdiv 4000) := by rw [Int.neg_tdiv, Int.neg_neg]
        rw [h4, Int.tdiv_eq_ediv_of_nonneg (by omega)]; omega
    · rcases Int.le_total 0 x.toInt with q | q
      · rw [Int.tdiv_eq_ediv_of_nonneg q]; omega
      · have h4 : x.toInt.tdiv 4000 = -((-x.toInt).tdiv 4000) := by rw [Int.neg_tdiv, Int.neg_neg]
        rw [h4, Int.tdiv_eq_ediv_of_nonneg (by omega)]; omega
  rw [h2]
  rcases Int.le_total 0 x.toInt with q | q
  · rw [Int.tdiv_eq_ediv_of_nonneg q]; omega
  · have h4 : x.toInt.tdiv 4000 = -((-x.toInt).tdiv 4000) := by rw [Int.neg_tdiv, Int.neg_neg]
    rw [h4, Int.tdiv_eq_ediv_of_nonneg (by omega)]; omega
theorem pp_lc_eq {x y : Int64} {n : Int32} (e : n = lg_cmp x y) (h : n = 0) : x = y := by
  unfold lg_cmp at e
  split at e
  · subst e; exact absurd h (by decide)
  · split at e
    · assumption
    · subst e; exact absurd h (by decide)
/-- how many of the nine lowest bits are set -/
def pop9 (j : Nat) : Nat := j % 2 + j / 2 % 2 + j / 4 % 2 + j / 8 % 2 + j / 16 % 2 + j / 32 % 2 + j / 64 % 2 + j / 128 % 2 + j / 256 % 2
theorem pop9_s : ∀ j, j < 512 → ¬ j = 0 → (j &&& (j - 1)) < 512 ∧ pop9 (j &&& (j - 1)) + 1 = pop9 j := by decide +kernel
/-- how the reference counts bits: n of them are gone -/
def bI (a x : Int64) (n : Int32) : Prop := (0 ≤ n.toInt ∧ n.toInt ≤ 64) ∧ x.toBitVec.toNat % 2 ^ n.toInt.toNat = 0 ∧ (a.toBitVec.toNat < 512 → x.toBitVec.toNat < 512 ∧ n.toInt + (pop9 x.toBitVec.toNat : Int) = pop9 a.toBitVec.toNat)
theorem bI_0 (a : Int64) : bI a a 0 := ⟨by decide, by show a.toBitVec.toNat % 2 ^ 0 = 0; rw [Nat.pow_zero, Nat.mod_one], fun h => ⟨h, by show (0 : Int) + _ = _; omega⟩⟩
theorem bI_and {L n : Nat} (h : L % 2 ^ n = 0) (h0 : ¬ L = 0) : (L &&& (L - 1)) % 2 ^ (n + 1) = 0 := by
  rw [Nat.and_mod_two_pow]
  have hp : 2 ^ (n + 1) = 2 * 2 ^ n := by rw [Nat.pow_succ, Nat.mul_comm]
  have hpos : 0 < 2 ^ n := Nat.two_pow_pos n
  have h1 : L % 2 ^ (n + 1) = 0 ∨ L % 2 ^ (n + 1) = 2 ^ n := by
    have h2 : L % 2 ^ (n + 1) % 2 ^ n = 0 := by rw [hp, Nat.mul_comm, Nat.mod_mul_right_mod, h]
    have h3 : L % 2 ^ (n + 1) < 2 ^ (n + 1) := Nat.mod_lt _ (Nat.two_pow_pos _)
    generalize L % 2 ^ (n + 1) = r at h2 h3
    generalize 2 ^ n = q at *
    have h4 := Nat.div_add_mod r q
    rw [h2, Nat.add_zero] at h4
    have h5 : r / q < 2 := by rw [Nat.div_lt_iff_lt_mul hpos]; omega
    have h6 : r / q = 0 ∨ r / q = 1 := by
      generalize r / q = z at h5 ⊢; omega
    rcases h6 with h6 | h6
    · left; rw [h6] at h4; omega
    · right; rw [h6] at h4; omega
  rcases h1 with h1 | h1
  · rw [h1, Nat.zero_and]
  · have h2 : (L - 1) % 2 ^ (n + 1) = 2 ^ n - 1 := by
      have h3 := Nat.div_add_mod L (2 ^ (n + 1))
      rw [h1] at h3
      have h4 : L - 1 = 2 ^ n - 1 + 2 ^ (n + 1) * (L / 2 ^ (n + 1)) := by omega
      rw [h4, Nat.add_mul_mod_self_left, Nat.mod_eq_of_lt (by omega)]
    rw [h1, h2, Nat.and_two_pow_sub_one_eq_mod, Nat.mod_self]
theorem bI_n {x y z : Int64} (e2 : z = x &&& y) (e1 : y = x - 1) (h : ¬ x = 0) : ¬ x.toBitVec.toNat = 0 ∧ z.toBitVec.toNat = (x.toBitVec.toNat &&& (x.toBitVec.toNat - 1)) := by
  subst e2 e1
  have hx : ¬ x.toBitVec.toNat = 0 := fun q => h (Int64.toBitVec_inj.mp (BitVec.eq_of_toNat_eq (by rw [q]; rfl)))
  have h2 : (x - 1).toBitVec.toNat = x.toBitVec.toNat - 1 := by
    have hb := x.toBitVec.isLt
    have h3 : (1 : Int64).toBitVec.toNat = 1 := by decide
    rw [Int64.toBitVec_sub, BitVec.toNat_sub, h3]
    omega
  exact ⟨hx, by rw [Int64.toBitVec_and, BitVec.toNat_and, h2]⟩
theorem bI_s {a x y z : Int64} {n k : Int32} (h : bI a x n) (e2 : z = x &&& y) (e1 : y = x - 1) (h0 : ¬ x = 0) (hk : k.toInt = n.toInt + 1) : bI a z k := by
  obtain ⟨⟨b0, b1⟩, h2, h3⟩ := h
  obtain ⟨hx, hz⟩ := bI_n e2 e1 h0
  have hlt : n.toInt.toNat < 64 := by
    refine Nat.not_le.mp fun q => hx ?_
    have hb : x.toBitVec.toNat < 2 ^ n.toInt.toNat := Nat.lt_of_lt_of_le x.toBitVec.isLt (Nat.pow_le_pow_right (by decide) q)
    rw [Nat.mod_eq_of_lt hb] at h2; exact h2
  have hkn : k.toInt.toNat = n.toInt.toNat + 1 := by omega
  refine ⟨by omega, ?_, fun ha => ?_⟩
  · rw [hkn, hz]; exact bI_and h2 hx
  · obtain ⟨h4, h5⟩ := h3 ha
    obtain ⟨h6, h7⟩ := pop9_s _ h4 hx
    rw [hz]; refine ⟨h6, ?_⟩
    omega
theorem bI_e {a x : Int64} {n : Int32} (h : bI a x n) (h0 : x = 0) : (0 ≤ n.toInt ∧ n.toInt ≤ 64) ∧ (a.toBitVec.toNat < 512 → n.toInt = (pop9 a.toBitVec.toNat : Int)) := by
  refine ⟨h.1, fun ha => ?_⟩
  have h1 := (h.2.2 ha).2
  rw [h0] at h1
  have h2 : pop9 (0 : Int64).toBitVec.toNat = 0 := by decide
  rw [h2] at h1; omega

def w_m_bits2 : List Cond := .code yX9_bits cX9_bits 5 (some .int) :: (([] : List Cond))
set_option maxHeartbeats 4000000 in
set_option maxRecDepth 100000 in
theorem m_bits2 (l : Launch) (dC : Nat → ClassId) (dI : Nat → Nat → Nat) (ad : Nat → Nat) (a : Int64) : Met l yX9_bits w_m_bits2 ({ frames := 0, cells := 0, slots := 0, locals := 0 } : Room) (va_Pc [.long a] (preS dC dI ad [] [])) (vp_Si (fun r => (0 ≤ r.toInt ∧ r.toInt ≤ 64) ∧ (a.toBitVec.toNat < 512 → r.toInt = (pop9 a.toBitVec.toNat : Int)))) 0 0 (fun _ => False) := by
  refine Met.ofW (cc := cX9_bits) (maxL := 5) (ret := (some .int)) (by decide) rfl ?_
  intro p e s m args below meth c s₁ B hml hv
  obtain ⟨rfl, hP, hK, hev⟩ := hv
  have hx := B.exec
  have hb := B.bytes
  have hr := B.returns
  have hts := atoms_spec (ws := w_m_bits2) B.pre
  have hown : s.vm.findClass RX9 = some m.cls := findClass_of_methodNamed B.named
  have hlocks := B.notSynchronized
  have hP : va_P (dC, dI) vwCl [] s.heap := hP
  have hl := lv_entry ([.long a]) (n := 5) (Nat.le_of_ble_eq_true rfl)
  rw [lg_entry_eq]
  generalize (lg_sl ([.long a]) ++ List.replicate (5 - (lg_sl ([.long a])).length) Slot.unset).toArray = ls at hl ⊢
  have hl : lv_has ls 5 [(0, .long a)] := hl
  refine lv_iconst (v := 0) hx hb dX9_bits_0 (by decide) ?_
  refine lv_istore_n (lv' := [(2, .int 0), (0, .long a)]) hx hb dX9_bits_1 rfl hl (by decide) rfl (fun ls hl => ?_)
  refine lv_lload_n hx hb dX9_bits_2 rfl (lv_at hl 1 rfl) ?_
  refine lv_lstore_n (lv' := [(3, .long a), (2, .int 0), (0, .long a)]) hx hb dX9_bits_3 rfl hl (by decide) rfl (fun ls hl => ?_)
  refine pp_loop (ι := Int64 × Int32) (fun ⟨v3_4, v2_4⟩ => v3_4.toBitVec.toNat) (fun ⟨v3_4, v2_4⟩ H locs ls => (0 ≤ v2_4.toInt ∧ v2_4.toInt ≤ 64) ∧ (bI a v3_4 v2_4) ∧ H = s.heap ∧ locs = [] ∧ lv_has ls 5 [(3, .long v3_4), (2, .int v2_4), (0, .long a)]) ?_ (a, 0) _ _ _ ⟨(by first | omega | decide | (simp only [fa_lt, fa_le, fa_eq, and_true, true_and, and_false, false_and, not_true_eq_false, not_false_eq_true, li_0, li_1, li_2, li_3, li_4, li_5, li_6, li_7, li_8, li_9, li_10, li_12, li_15, li_16, li_20, li_30, li_34, li_38, li_40, li_63, li_64, li_65, li_78, li_120, li_1000, li_4000, li_10000, li_11077, li_255, li_65535, li_m1, li_m2, li_m1000000001, li_m1000000002, li_m1000000003, li_m1000000004, li_m1000000005, li_m1000000006, li_m1000000007, or_true, true_or, or_false, false_or, implies_true, true_implies, false_implies] <;> omega)), (bI_0 a), rfl, rfl, lv_sub hl [0, 1, 2] rfl⟩
  intro k_1 ihk_1 u H locs ls hm hI
  obtain ⟨v3_4, v2_4⟩ := u
  obtain ⟨jk_1_0, jk_1_1, rfl, rfl, hl⟩ := hI
  have hmk_1 : v3_4.toBitVec.toNat < k_1 + 1 := hm
  clear hm
  have jk_1_0 : 0 ≤ v2_4.toInt ∧ v2_4.toInt ≤ 64 := jk_1_0
  have jk_1_1 : bI a v3_4 v2_4 := jk_1_1
  have hl : lv_has ls 5 [(3, .long v3_4), (2, .int v2_4), (0, .long a)] := hl
  refine lv_lload_n hx hb dX9_bits_4 rfl (lv_at hl 0 rfl) ?_
  refine lv_lconst (v := 0) hx hb dX9_bits_5 (by decide) ?_
  refine W.lcmp hx hb dX9_bits_6 ?_
  refine lv_topi (fun n_2 en_2 => ?_)
  refine lv_if_eq (tgt := 22) hx hb dX9_bits_7 (by decide) (fun c_3 => ?_) (fun c_3 => ?_)
  · skip
    have tc_3 : n_2.toInt = 0 := (fa_eq _ _).mp c_3
    have zc_3 : v3_4 = (0 : Int64) := pp_lc_eq en_2 c_3
    refine lv_iload_n hx hb dX9_bits_22 rfl (lv_at hl 1 rfl) ?_
    exact W.iret (v := v2_4) hx hb hr (fun t ht hW => ⟨v2_4, rfl, (bI_e (by assumption) (by assumption)), ht⟩) (fun _ h => absurd h List.not_mem_nil) dX9_bits_23
  · skip
    have tc_3 : ¬ n_2.toInt = 0 := fun h => c_3 ((fa_eq _ _).mpr h)
    have zc_3 : ¬ v3_4 = (0 : Int64) := pp_lc_ne en_2 c_3
    obtain ⟨n_4, en_4⟩ : ∃ y : Int32, y = v2_4 + 1 := ⟨_, rfl⟩
    have tn_4 : n_4.toInt = v2_4.toInt + 1 := pp_add en_4 rfl rfl (by omega) (by omega)
    refine lv_iinc (v := n_4) (lv' := [(2, .int n_4), (3, .long v3_4), (0, .long a)]) hx hb dX9_bits_10 hl (k := 1) rfl (by rw [en_4]; rfl) (by decide) rfl (fun ls hl => ?_)
    clear en_4
    refine lv_lload_n hx hb dX9_bits_13 rfl (lv_at hl 1 rfl) ?_
    refine lv_lload_n hx hb dX9_bits_14 rfl (lv_at hl 1 rfl) ?_
    refine lv_lconst (v := 1) hx hb dX9_bits_15 (by decide) ?_
    refine lv_lsub hx hb dX9_bits_16 ?_
    refine lv_topl (fun n_5 en_5 => ?_)
    refine lv_land hx hb dX9_bits_17 ?_
    refine lv_topl (fun n_6 en_6 => ?_)
    refine lv_lstore_n (lv' := [(3, .long n_6), (2, .int n_4), (0, .long a)]) hx hb dX9_bits_18 rfl hl (by decide) rfl (fun ls hl => ?_)
    refine lv_goto (tgt := 4) hx hb dX9_bits_19 (by decide) ?_
    exact ihk_1 (n_6, n_4) _ _ _ (by show n_6.toBitVec.toNat < k_1; exact pp_bits_lt (by assumption) (by assumption) (by assumption) (by assumption)) ⟨(show bI a n_6 n_4 from (bI_s (by assumption) (by assumption) (by assumption) (by assumption) (by assumption))).1, (bI_s (by assumption) (by assumption) (by assumption) (by assumption) (by assumption)), rfl, rfl, lv_sub hl [0, 1, 2] rfl⟩

def w_mf_beyond : List Cond := .code yX9_finding cX9_finding 2 (some .int) :: (([.fieldLink RX9 23 "LampShapesModel" "found" "[I", .constant RX9 74 (-1000000001)] : List Cond) ++ wsX90)
set_option maxHeartbeats 4000000 in
set_option maxRecDepth 100000 in
theorem mf_beyond (l : Launch) (dC : Nat → ClassId) (dI : Nat → Nat → Nat) (ad : Nat → Nat) (h0 : Nat) (v0 : Value) (v1 : Value) (v2 : Value) (v3 : Value) (v4 : Value) (t0 : Nat) (v6 : Value) (v7 : Value) (v8 : Value) (v9 : Value) (v10 : Value) (v11 : Value) (v12 : Value) (v13 : Value) (v14 : Value) (v15 : Value) (v16 : Value) (v17 : Value) (v18 : Value) (v19 : Value) (v20 : Value) (v21 : Value) (v22 : Value) (v23 : Value) (v24 : Value) (v25 : Value) (v26 : Value) (v27 : Value) (tc : ClassId) (tf : Nat → Int32) (sz : Nat) : Met l yX9_finding w_mf_beyond ({ frames := 0, cells := 0, slots := 0, locals := 0 } : Room) (va_Pc [.ref h0, .int (-1000000001)] (preM dC dI ad [(tc, .int)] [(h0, .inr (7, [v0, v1, v2, v3, v4, .ref t0, v6, v7, v8, v9, v10, v11, v12, v13, v14, v15, v16, v17, v18, v19, v20, v21, v22, v23, v24, v25, v26, v27])), (t0, .inl (tc, 8, .inl tf))] sz)) (va_Qi (fun (r : Int32) (_ : Unit) => (r = (-1000000001))) (fun _ t => ∃ (tg : Nat → Int32), va_P (dC, dI) vwCl [(h0, .inr (7, [v0, v1, v2, v3, v4, .ref t0, v6, v7, v8, v9, v10, v11, v12, v13, v14, v15, v16, v17, v18, v19, v20, v21, v22, v23, v24, v25, v26, v27])), (t0, .inl (tc, 8, .inl tg))] t.heap ∧ va_K (dC, dI) vwCl [(tc, .int)] t ∧ va_D (va_A [(h0, .inr (7, [v0, v1, v2, v3, v4, .ref t0, v6, v7, v8, v9, v10, v11, v12, v13, v14, v15, v16, v17, v18, v19, v20, v21, v22, v23, v24, v25, v26, v27])), (t0, .inl (tc, 8, .inl tf))] sz) [(h0, .inr (7, [v0, v1, v2, v3, v4, .ref t0, v6, v7, v8, v9, v10, v11, v12, v13, v14, v15, v16, v17, v18, v19, v20, v21, v22, v23, v24, v25, v26, v27])), (t0, .inl (tc, 8, .inl tg))]) (va_A [(h0, .inr (7, [v0, v1, v2, v3, v4, .ref t0, v6, v7, v8, v9, v10, v11, v12, v13, v14, v15, v16, v17, v18, v19, v20, v21, v22, v23, v24, v25, v26, v27])), (t0, .inl (tc, 8, .inl tf))] sz)) 0 0 (va_A [(h0, .inr (7, [v0, v1, v2, v3, v4, .ref t0, v6, v7, v8, v9, v10, v11, v12, v13, v14, v15, v16, v17, v18, v19, v20, v21, v22, v23, v24, v25, v26, v27])), (t0, .inl (tc, 8, .inl tf))] sz) := by
  refine Met.ofW (cc := cX9_finding) (maxL := 2) (ret := (some .int)) (by decide) rfl ?_
  intro p e s m args below meth c s₁ B hml hv
  obtain ⟨rfl, hsz, hP, hK, hD0, hev⟩ := hv
  have hx := B.exec
  have hb := B.bytes
  have hr := B.returns
  have hts := atoms_spec (ws := w_mf_beyond) B.pre
  have hown : s.vm.findClass RX9 = some m.cls := findClass_of_methodNamed B.named
  have hlocks := B.notSynchronized
  have inX9 : ∀ w ∈ wsX90, w ∈ w_mf_beyond := fun w h => List.mem_cons_of_mem _ (List.mem_append_right _ h)
  subst hsz
  have hD := hD0.self (sz := s.heap.size)
  generalize hAe : va_A [(h0, .inr (7, [v0, v1, v2, v3, v4, .ref t0, v6, v7, v8, v9, v10, v11, v12, v13, v14, v15, v16, v17, v18, v19, v20, v21, v22, v23, v24, v25, v26, v27])), (t0, .inl (tc, 8, .inl tf))] s.heap.size = A at hD ⊢
  have hA : ∀ q : Nat, s.heap.size ≤ q → A q := fun q h => by rw [← hAe]; exact Or.inr h
  have hS : va_S A s.heap s.heap [] := va_S.rf
  have hP : va_P (dC, dI) vwCl [(h0, .inr (7, [v0, v1, v2, v3, v4, .ref t0, v6, v7, v8, v9, v10, v11, v12, v13, v14, v15, v16, v17, v18, v19, v20, v21, v22, v23, v24, v25, v26, v27])), (t0, .inl (tc, 8, .inl tf))] s.heap := hP
  have hl := lv_entry ([.ref h0, .int (-1000000001)]) (n := 2) (Nat.le_of_ble_eq_true rfl)
  rw [lg_entry_eq]
  generalize (lg_sl ([.ref h0, .int (-1000000001)]) ++ List.replicate (2 - (lg_sl ([.ref h0, .int (-1000000001)])).length) Slot.unset).toArray = ls at hl ⊢
  have hl : lv_has ls 2 [(0, .ref h0), (1, .int (-1000000001))] := hl
  refine lv_aload_n hx hb dX9_finding_0 rfl (lv_at hl 0 rfl) ?_
  refine va_get (D := (dC, dI)) (ci := 7) (v := .ref t0) (C := RX9) (T := TX9) (N := 28) hx hb hts inX9 hown hK hP 0 rfl rfl 5 (by decide) (hts _ (List.mem_of_getElem? (i := 1) rfl)) (fun _ h9 => h9) rfl dX9_finding_1 ?_
  refine lv_ldc hx hb hown (hts _ (List.mem_of_getElem? (i := 2) rfl)) dX9_finding_4 ?_
  refine lv_iload_n hx hb dX9_finding_6 rfl (lv_at hl 1 rfl) ?_
  refine lv_isub hx hb dX9_finding_7 ?_
  refine pp_ti (y := 0) (by decide) ?_
  refine lv_iconst (v := 1) hx hb dX9_finding_8 (by decide) ?_
  refine lv_iadd hx hb dX9_finding_9 ?_
  refine pp_ti (y := 1) (by decide) ?_
  refine lv_dup2_11 hx hb dX9_finding_10 rfl rfl ?_
  refine va_iald hx hb hK hP 1 0 rfl rfl (vp_in_nI (n := 1) (by decide) (by decide)) dX9_finding_11 ?_
  refine pp_ti (y := tf 1) rfl ?_
  refine lv_topi (fun n_1 en_1 => ?_)
  clear en_1
  refine lv_iconst (v := 1) hx hb dX9_finding_12 (by decide) ?_
  refine lv_iadd hx hb dX9_finding_13 ?_
  refine lv_topi (fun n_2 en_2 => ?_)
  clear en_2
  refine va_iast hx hb hK hP hD hS 1 0 rfl rfl (vp_in_nI (n := 1) (by decide) (by decide)) dX9_finding_14 (fun H locs hP hD hS => ?_)
  have hP : va_P (dC, dI) vwCl [(h0, .inr (7, [v0, v1, v2, v3, v4, .ref t0, v6, v7, v8, v9, v10, v11, v12, v13, v14, v15, v16, v17, v18, v19, v20, v21, v22, v23, v24, v25, v26, v27])), (t0, .inl (tc, 8, .inl (upd tf 1 n_2)))] H := hP
  have hD : va_D A [(h0, .inr (7, [v0, v1, v2, v3, v4, .ref t0, v6, v7, v8, v9, v10, v11, v12, v13, v14, v15, v16, v17, v18, v19, v20, v21, v22, v23, v24, v25, v26, v27])), (t0, .inl (tc, 8, .inl (upd tf 1 n_2)))] := hD
  refine lv_aload_n hx hb dX9_finding_15 rfl (lv_at hl 0 rfl) ?_
  refine va_get (D := (dC, dI)) (ci := 7) (v := .ref t0) (C := RX9) (T := TX9) (N := 28) hx hb hts inX9 hown hK hP 0 rfl rfl 5 (by decide) (hts _ (List.mem_of_getElem? (i := 1) rfl)) (fun _ h9 => h9) rfl dX9_finding_16 ?_
  refine lv_iconst (v := 0) hx hb dX9_finding_19 (by decide) ?_
  refine lv_dup2_11 hx hb dX9_finding_20 rfl rfl ?_
  refine va_iald hx hb hK hP 1 0 rfl rfl (vp_in_nI (n := 0) (by decide) (by decide)) dX9_finding_21 ?_
  refine pp_ti (y := (upd tf 1 n_2) 0) rfl ?_
  refine lv_topi (fun n_3 en_3 => ?_)
  clear en_3
  refine lv_iconst (v := 1) hx hb dX9_finding_22 (by decide) ?_
  refine lv_iadd hx hb dX9_finding_23 ?_
  refine lv_topi (fun n_4 en_4 => ?_)
  clear en_4
  refine va_iast hx hb hK hP hD hS 1 0 rfl rfl (vp_in_nI (n := 0) (by decide) (by decide)) dX9_finding_24 (fun H locs hP hD hS => ?_)
  have hP : va_P (dC, dI) vwCl [(h0, .inr (7, [v0, v1, v2, v3, v4, .ref t0, v6, v7, v8, v9, v10, v11, v12, v13, v14, v15, v16, v17, v18, v19, v20, v21, v22, v23, v24, v25, v26, v27])), (t0, .inl (tc, 8, .inl (upd (upd tf 1 n_2) 0 n_4)))] H := hP
  have hD : va_D A [(h0, .inr (7, [v0, v1, v2, v3, v4, .ref t0, v6, v7, v8, v9, v10, v11, v12, v13, v14, v15, v16, v17, v18, v19, v20, v21, v22, v23, v24, v25, v26, v27])), (t0, .inl (tc, 8, .inl (upd (upd tf 1 n_2) 0 n_4)))] := hD
  refine lv_iload_n hx hb dX9_finding_25 rfl (lv_at hl 1 rfl) ?_
  have hP9 := hP.sub (ws' := [(h0, .inr (7, [v0, v1, v2, v3, v4, .ref t0, v6, v7, v8, v9, v10, v11, v12, v13, v14, v15, v16, v17, v18, v19, v20, v21, v22, v23, v24, v25, v26, v27])), (t0, .inl (tc, 8, .inl (upd (upd tf 1 n_2) 0 n_4)))]) [0, 1] rfl
  have hD9 := hD.sub (ws' := [(h0, .inr (7, [v0, v1, v2, v3, v4, .ref t0, v6, v7, v8, v9, v10, v11, v12, v13, v14, v15, v16, v17, v18, v19, v20, v21, v22, v23, v24, v25, v26, v27])), (t0, .inl (tc, 8, .inl (upd (upd tf 1 n_2) 0 n_4)))]) [0, 1] (by decide) rfl
  have hK9 := hK.sub (tys' := [(tc, .int)]) [0] rfl
  exact W.iret (v := (-1000000001)) hx hb hr (fun t ht hW => ⟨⟨(-1000000001), (), rfl, rfl, upd (upd tf 1 n_2) 0 n_4, by rw [ht]; exact hP9, va_K.moved hW.alike hK9, hD9⟩, hS.F ht⟩) hS.2.2 dX9_finding_26

def w_mf_full : List Cond := .code yX9_finding cX9_finding 2 (some .int) :: (([.fieldLink RX9 23 "LampShapesModel" "found" "[I", .constant RX9 74 (-1000000001)] : List Cond) ++ wsX90)
set_option maxHeartbeats 4000000 in
set_option maxRecDepth 100000 in
theorem mf_full (l : Launch) (dC : Nat → ClassId) (dI : Nat → Nat → Nat) (ad : Nat → Nat) (h0 : Nat) (v0 : Value) (v1 : Value) (v2 : Value) (v3 : Value) (v4 : Value) (t0 : Nat) (v6 : Value) (v7 : Value) (v8 : Value) (v9 : Value) (v10 : Value) (v11 : Value) (v12 : Value) (v13 : Value) (v14 : Value) (v15 : Value) (v16 : Value) (v17 : Value) (v18 : Value) (v19 : Value) (v20 : Value) (v21 : Value) (v22 : Value) (v23 : Value) (v24 : Value) (v25 : Value) (v26 : Value) (v27 : Value) (tc : ClassId) (tf : Nat → Int32) (sz : Nat) : Met l yX9_finding w_mf_full ({ frames := 0, cells := 0, slots := 0, locals := 0 } : Room) (va_Pc [.ref h0, .int (-1000000002)] (preM dC dI ad [(tc, .int)] [(h0, .inr (7, [v0, v1, v2, v3, v4, .ref t0, v6, v7, v8, v9, v10, v11, v12, v13, v14, v15, v16, v17, v18, v19, v20, v21, v22, v23, v24, v25, v26, v27])), (t0, .inl (tc, 8, .inl tf))] sz)) (va_Qi (fun (r : Int32) (_ : Unit) => (r = (-1000000002))) (fun _ t => ∃ (tg : Nat → Int32), va_P (dC, dI) vwCl [(h0, .inr (7, [v0, v1, v2, v3, v4, .ref t0, v6, v7, v8, v9, v10, v11, v12, v13, v14, v15, v16, v17, v18, v19, v20, v21, v22, v23, v24, v25, v26, v27])), (t0, .inl (tc, 8, .inl tg))] t.heap ∧ va_K (dC, dI) vwCl [(tc, .int)] t ∧ va_D (va_A [(h0, .inr (7, [v0, v1, v2, v3, v4, .ref t0, v6, v7, v8, v9, v10, v11, v12, v13, v14, v15, v16, v17, v18, v19, v20, v21, v22, v23, v24, v25, v26, v27])), (t0, .inl (tc, 8, .inl tf))] sz) [(h0, .inr (7, [v0, v1, v2, v3, v4, .ref t0, v6, v7, v8, v9, v10, v11, v12, v13, v14, v15, v16, v17, v18, v19, v20, v21, v22, v23, v24, v25, v26, v27])), (t0, .inl (tc, 8, .inl tg))]) (va_A [(h0, .inr (7, [v0, v1, v2, v3, v4, .ref t0, v6, v7, v8, v9, v10, v11, v12, v13, v14, v15, v16, v17, v18, v19, v20, v21, v22, v23, v24, v25, v26, v27])), (t0, .inl (tc, 8, .inl tf))] sz)) 0 0 (va_A [(h0, .inr (7, [v0, v1, v2, v3, v4, .ref t0, v6, v7, v8, v9, v10, v11, v12, v13, v14, v15, v16, v17, v18, v19, v20, v21, v22, v23, v24, v25, v26, v27])), (t0, .inl (tc, 8, .inl tf))] sz) := by
  refine Met.ofW (cc := cX9_finding) (maxL := 2) (ret := (some .int)) (by decide) rfl ?_
  intro p e s m args below meth c s₁ B hml hv
  obtain ⟨rfl, hsz, hP, hK, hD0, hev⟩ := hv
  have hx := B.exec
  have hb := B.bytes
  have hr := B.returns
  have hts := atoms_spec (ws := w_mf_full) B.pre
  have hown : s.vm.findClass RX9 = some m.cls := findClass_of_methodNamed B.named
  have hlocks := B.notSynchronized
  have inX9 : ∀ w ∈ wsX90, w ∈ w_mf_full := fun w h => List.mem_cons_of_mem _ (List.mem_append_right _ h)
  subst hsz
  have hD := hD0.self (sz := s.heap.size)
  generalize hAe : va_A [(h0, .inr (7, [v0, v1, v2, v3, v4, .ref t0, v6, v7, v8, v9, v10, v11, v12, v13, v14, v15, v16, v17, v18, v19, v20, v21, v22, v23, v24, v25, v26, v27])), (t0, .inl (tc, 8, .inl tf))] s.heap.size = A at hD ⊢
  have hA : ∀ q : Nat, s.heap.size ≤ q → A q := fun q h => by rw [← hAe]; exact Or.inr h
  have hS : va_S A s.heap s.heap [] := va_S.rf
  have hP : va_P (dC, dI) vwCl [(h0, .inr (7, [v0, v1, v2, v3, v4, .ref t0, v6, v7, v8, v9, v10, v11, v12, v13, v14, v15, v16, v17, v18, v19, v20, v21, v22, v23, v24, v25, v26, v27])), (t0, .inl (tc, 8, .inl tf))] s.heap := hP
  have hl := lv_entry ([.ref h0, .int (-1000000002)]) (n := 2) (Nat.le_of_ble_eq_true rfl)
  rw [lg_entry_eq]
  generalize (lg_sl ([.ref h0, .int (-1000000002)]) ++ List.replicate (2 - (lg_sl ([.ref h0, .int (-1000000002)])).length) Slot.unset).toArray = ls at hl ⊢
  have hl : lv_has ls 2 [(0, .ref h0), (1, .int (-1000000002))] := hl
  refine lv_aload_n hx hb dX9_finding_0 rfl (lv_at hl 0 rfl) ?_
  refine va_get (D := (dC, dI)) (ci := 7) (v := .ref t0) (C := RX9) (T := TX9) (N := 28) hx hb hts inX9 hown hK hP 0 rfl rfl 5 (by decide) (hts _ (List.mem_of_getElem? (i := 1) rfl)) (fun _ h9 => h9) rfl dX9_finding_1 ?_
  refine lv_ldc hx hb hown (hts _ (List.mem_of_getElem? (i := 2) rfl)) dX9_finding_4 ?_
  refine lv_iload_n hx hb dX9_finding_6 rfl (lv_at hl 1 rfl) ?_
  refine lv_isub hx hb dX9_finding_7 ?_
  refine pp_ti (y := 1) (by decide) ?_
  refine lv_iconst (v := 1) hx hb dX9_finding_8 (by decide) ?_
  refine lv_iadd hx hb dX9_finding_9 ?_
  refine pp_ti (y := 2) (by decide) ?_
  refine lv_dup2_11 hx hb dX9_finding_10 rfl rfl ?_
  refine va_iald hx hb hK hP 1 0 rfl rfl (vp_in_nI (n := 2) (by decide) (by decide)) dX9_finding_11 ?_
  refine pp_ti (y := tf 2) rfl ?_
  refine lv_topi (fun n_1 en_1 => ?_)
  clear en_1
  refine lv_iconst (v := 1) hx hb dX9_finding_12 (by decide) ?_
  refine lv_iadd hx hb dX9_finding_13 ?_
  refine lv_topi (fun n_2 en_2 => ?_)
  clear en_2
  refine va_iast hx hb hK hP hD hS 1 0 rfl rfl (vp_in_nI (n := 2) (by decide) (by decide)) dX9_finding_14 (fun H locs hP hD hS => ?_)
  have hP : va_P (dC, dI) vwCl [(h0, .inr (7, [v0, v1, v2, v3, v4, .ref t0, v6, v7, v8, v9, v10, v11, v12, v13, v14, v15, v16, v17, v18, v19, v20, v21, v22, v23, v24, v25, v26, v27])), (t0, .inl (tc, 8, .inl (upd tf 2 n_2)))] H := hP
  have hD : va_D A [(h0, .inr (7, [v0, v1, v2, v3, v4, .ref t0, v6, v7, v8, v9, v10, v11, v12, v13, v14, v15, v16, v17, v18, v19, v20, v21, v22, v23, v24, v25, v26, v27])), (t0, .inl (tc, 8, .inl (upd tf 2 n_2)))] := hD
  refine lv_aload_n hx hb dX9_finding_15 rfl (lv_at hl 0 rfl) ?_
  refine va_get (D := (dC, dI)) (ci := 7) (v := .ref t0) (C := RX9) (T := TX9) (N := 28) hx hb hts inX9 hown hK hP 0 rfl rfl 5 (by decide) (hts _ (List.mem_of_getElem? (i := 1) rfl)) (fun _ h9 => h9) rfl dX9_finding_16 ?_
  refine lv_iconst (v := 0) hx hb dX9_finding_19 (by decide) ?_
  refine lv_dup2_11 hx hb dX9_finding_20 rfl rfl ?_
  refine va_iald hx hb hK hP 1 0 rfl rfl (vp_in_nI (n := 0) (by decide) (by decide)) dX9_finding_21 ?_
  refine pp_ti (y := (upd tf 2 n_2) 0) rfl ?_
  refine lv_topi (fun n_3 en_3 => ?_)
  clear en_3
  refine lv_iconst (v := 1) hx hb dX9_finding_22 (by decide) ?_
  refine lv_iadd hx hb dX9_finding_23 ?_
  refine lv_topi (fun n_4 en_4 => ?_)
  clear en_4
  refine va_iast hx hb hK hP hD hS 1 0 rfl rfl (vp_in_nI (n := 0) (by decide) (by decide)) dX9_finding_24 (fun H locs hP hD hS => ?_)
  have hP : va_P (dC, dI) vwCl [(h0, .inr (7, [v0, v1, v2, v3, v4, .ref t0, v6, v7, v8, v9, v10, v11, v12, v13, v14, v15, v16, v17, v18, v19, v20, v21, v22, v23, v24, v25, v26, v27])), (t0, .inl (tc, 8, .inl (upd (upd tf 2 n_2) 0 n_4)))] H := hP
  have hD : va_D A [(h0, .inr (7, [v0, v1, v2, v3, v4, .ref t0, v6, v7, v8, v9, v10, v11, v12, v13, v14, v15, v16, v17, v18, v19, v20, v21, v22, v23, v24, v25, v26, v27])), (t0, .inl (tc, 8, .inl (upd (upd tf 2 n_2) 0 n_4)))] := hD
  refine lv_iload_n hx hb dX9_finding_25 rfl (lv_at hl 1 rfl) ?_
  have hP9 := hP.sub (ws' := [(h0, .inr (7, [v0, v1, v2, v3, v4, .ref t0, v6, v7, v8, v9, v10, v11, v12, v13, v14, v15, v16, v17, v18, v19, v20, v21, v22, v23, v24, v25, v26, v27])), (t0, .inl (tc, 8, .inl (upd (upd tf 2 n_2) 0 n_4)))]) [0, 1] rfl
  have hD9 := hD.sub (ws' := [(h0, .inr (7, [v0, v1, v2, v3, v4, .ref t0, v6, v7, v8, v9, v10, v11, v12, v13, v14, v15, v16, v17, v18, v19, v20, v21, v22, v23, v24, v25, v26, v27])), (t0, .inl (tc, 8, .inl (upd (upd tf 2 n_2) 0 n_4)))]) [0, 1] (by decide) rfl
  have hK9 := hK.sub (tys' := [(tc, .int)]) [0] rfl
  exact W.iret (v := (-1000000002)) hx hb hr (fun t ht hW => ⟨⟨(-1000000002), (), rfl, rfl, upd (upd tf 2 n_2) 0 n_4, by rw [ht]; exact hP9, va_K.moved hW.alike hK9, hD9⟩, hS.F ht⟩) hS.2.2 dX9_finding_26

def w_mf_kind : List Cond := .code yX9_finding cX9_finding 2 (some .int) :: (([.fieldLink RX9 23 "LampShapesModel" "found" "[I", .constant RX9 74 (-1000000001)] : List Cond) ++ wsX90)
set_option maxHeartbeats 4000000 in
set_option maxRecDepth 100000 in
theorem mf_kind (l : Launch) (dC : Nat → ClassId) (dI : Nat → Nat → Nat) (ad : Nat → Nat) (h0 : Nat) (v0 : Value) (v1 : Value) (v2 : Value) (v3 : Value) (v4 : Value) (t0 : Nat) (v6 : Value) (v7 : Value) (v8 : Value) (v9 : Value) (v10 : Value) (v11 : Value) (v12 : Value) (v13 : Value) (v14 : Value) (v15 : Value) (v16 : Value) (v17 : Value) (v18 : Value) (v19 : Value) (v20 : Value) (v21 : Value) (v22 : Value) (v23 : Value) (v24 : Value) (v25 : Value) (v26 : Value) (v27 : Value) (tc : ClassId) (tf : Nat → Int32) (sz : Nat) : Met l yX9_finding w_mf_kind ({ frames := 0, cells := 0, slots := 0, locals := 0 } : Room) (va_Pc [.ref h0, .int (-1000000003)] (preM dC dI ad [(tc, .int)] [(h0, .inr (7, [v0, v1, v2, v3, v4, .ref t0, v6, v7, v8, v9, v10, v11, v12, v13, v14, v15, v16, v17, v18, v19, v20, v21, v22, v23, v24, v25, v26, v27])), (t0, .inl (tc, 8, .inl tf))] sz)) (va_Qi (fun (r : Int32) (_ : Unit) => (r = (-1000000003))) (fun _ t => ∃ (tg : Nat → Int32), va_P (dC, dI) vwCl [(h0, .inr (7, [v0, v1, v2, v3, v4, .ref t0, v6, v7, v8, v9, v10, v11, v12, v13, v14, v15, v16, v17, v18, v19, v20, v21, v22, v23, v24, v25, v26, v27])), (t0, .inl (tc, 8, .inl tg))] t.heap ∧ va_K (dC, dI) vwCl [(tc, .int)] t ∧ va_D (va_A [(h0, .inr (7, [v0, v1, v2, v3, v4, .ref t0, v6, v7, v8, v9, v10, v11, v12, v13, v14, v15, v16, v17, v18, v19, v20, v21, v22, v23, v24, v25, v26, v27])), (t0, .inl (tc, 8, .inl tf))] sz) [(h0, .inr (7, [v0, v1, v2, v3, v4, .ref t0, v6, v7, v8, v9, v10, v11, v12, v13, v14, v15, v16, v17, v18, v19, v20, v21, v22, v23, v24, v25, v26, v27])), (t0, .inl (tc, 8, .inl tg))]) (va_A [(h0, .inr (7, [v0, v1, v2, v3, v4, .ref t0, v6, v7, v8, v9, v10, v11, v12, v13, v14, v15, v16, v17, v18, v19, v20, v21, v22, v23, v24, v25, v26, v27])), (t0, .inl (tc, 8, .inl tf))] sz)) 0 0 (va_A [(h0, .inr (7, [v0, v1, v2, v3, v4, .ref t0, v6, v7, v8, v9, v10, v11, v12, v13, v14, v15, v16, v17, v18, v19, v20, v21, v22, v23, v24, v25, v26, v27])), (t0, .inl (tc, 8, .inl tf))] sz) := by
  refine Met.ofW (cc := cX9_finding) (maxL := 2) (ret := (some .int)) (by decide) rfl ?_
  intro p e s m args below meth c s₁ B hml hv
  obtain ⟨rfl, hsz, hP, hK, hD0, hev⟩ := hv
  have hx := B.exec
  have hb := B.bytes
  have hr := B.returns
  have hts := atoms_spec (ws := w_mf_kind) B.pre
  have hown : s.vm.findClass RX9 = some m.cls := findClass_of_methodNamed B.named
  have hlocks := B.notSynchronized
  have inX9 : ∀ w ∈ wsX90, w ∈ w_mf_kind := fun w h => List.mem_cons_of_mem _ (List.mem_append_right _ h)
  subst hsz
  have hD := hD0.self (sz := s.heap.size)
  generalize hAe : va_A [(h0, .inr (7, [v0, v1, v2, v3, v4, .ref t0, v6, v7, v8, v9, v10, v11, v12, v13, v14, v15, v16, v17, v18, v19, v20, v21, v22, v23, v24, v25, v26, v27])), (t0, .inl (tc, 8, .inl tf))] s.heap.size = A at hD ⊢
  have hA : ∀ q : Nat, s.heap.size ≤ q → A q := fun q h => by rw [← hAe]; exact Or.inr h
  have hS : va_S A s.heap s.heap [] := va_S.rf
  have hP : va_P (dC, dI) vwCl [(h0, .inr (7, [v0, v1, v2, v3, v4, .ref t0, v6, v7, v8, v9, v10, v11, v12, v13, v14, v15, v16, v17, v18, v19, v20, v21, v22, v23, v24, v25, v26, v27])), (t0, .inl (tc, 8, .inl tf))] s.heap := hP
  have hl := lv_entry ([.ref h0, .int (-1000000003)]) (n := 2) (Nat.le_of_ble_eq_true rfl)
  rw [lg_entry_eq]
  generalize (lg_sl ([.ref h0, .int (-1000000003)]) ++ List.replicate (2 - (lg_sl ([.ref h0, .int (-1000000003)])).length) Slot.unset).toArray = ls at hl ⊢
  have hl : lv_has ls 2 [(0, .ref h0), (1, .int (-1000000003))] := hl
  refine lv_aload_n hx hb dX9_finding_0 rfl (lv_at hl 0 rfl) ?_
  refine va_get (D := (dC, dI)) (ci := 7) (v := .ref t0) (C := RX9) (T := TX9) (N := 28) hx hb hts inX9 hown hK hP 0 rfl rfl 5 (by decide) (hts _ (List.mem_of_getElem? (i := 1) rfl)) (fun _ h9 => h9) rfl dX9_finding_1 ?_
  refine lv_ldc hx hb hown (hts _ (List.mem_of_getElem? (i := 2) rfl)) dX9_finding_4 ?_
  refine lv_iload_n hx hb dX9_finding_6 rfl (lv_at hl 1 rfl) ?_
  refine lv_isub hx hb dX9_finding_7 ?_
  refine pp_ti (y := 2) (by decide) ?_
  refine lv_iconst (v := 1) hx hb dX9_finding_8 (by decide) ?_
  refine lv_iadd hx hb dX9_finding_9 ?_
  refine pp_ti (y := 3) (by decide) ?_
  refine lv_dup2_11 hx hb dX9_finding_10 rfl rfl ?_
  refine va_iald hx hb hK hP 1 0 rfl rfl (vp_in_nI (n := 3) (by decide) (by decide)) dX9_finding_11 ?_
  refine pp_ti (y := tf 3) rfl ?_
  refine lv_topi (fun n_1 en_1 => ?_)
  clear en_1
  refine lv_iconst (v := 1) hx hb dX9_finding_12 (by decide) ?_
  refine lv_iadd hx hb dX9_finding_13 ?_
  refine lv_topi (fun n_2 en_2 => ?_)
  clear en_2
  refine va_iast hx hb hK hP hD hS 1 0 rfl rfl (vp_in_nI (n := 3) (by decide) (by decide)) dX9_finding_14 (fun H locs hP hD hS => ?_)
  have hP : va_P (dC, dI) vwCl [(h0, .inr (7, [v0, v1, v2, v3, v4, .ref t0, v6, v7, v8, v9, v10, v11, v12, v13, v14, v15, v16, v17, v18, v19, v20, v21, v22, v23, v24, v25, v26, v27])), (t0, .inl (tc, 8, .inl (upd tf 3 n_2)))] H := hP
  have hD : va_D A [(h0, .inr (7, [v0, v1, v2, v3, v4, .ref t0, v6, v7, v8, v9, v10, v11, v12, v13, v14, v15, v16, v17, v18, v19, v20, v21, v22, v23, v24, v25, v26, v27])), (t0, .inl (tc, 8, .inl (upd tf 3 n_2)))] := hD
  refine lv_aload_n hx hb dX9_finding_15 rfl (lv_at hl 0 rfl) ?_
  refine va_get (D := (dC, dI)) (ci := 7) (v := .ref t0) (C := RX9) (T := TX9) (N := 28) hx hb hts inX9 hown hK hP 0 rfl rfl 5 (by decide) (hts _ (List.mem_of_getElem? (i := 1) rfl)) (fun _ h9 => h9) rfl dX9_finding_16 ?_
  refine lv_iconst (v := 0) hx hb dX9_finding_19 (by decide) ?_
  refine lv_dup2_11 hx hb dX9_finding_20 rfl rfl ?_
  refine va_iald hx hb hK hP 1 0 rfl rfl (vp_in_nI (n := 0) (by decide) (by decide)) dX9_finding_21 ?_
  refine pp_ti (y := (upd tf 3 n_2) 0) rfl ?_
  refine lv_topi (fun n_3 en_3 => ?_)
  clear en_3
  refine lv_iconst (v := 1) hx hb dX9_finding_22 (by decide) ?_
  refine lv_iadd hx hb dX9_finding_23 ?_
  refine lv_topi (fun n_4 en_4 => ?_)
  clear en_4
  refine va_iast hx hb hK hP hD hS 1 0 rfl rfl (vp_in_nI (n := 0) (by decide) (by decide)) dX9_finding_24 (fun H locs hP hD hS => ?_)
  have hP : va_P (dC, dI) vwCl [(h0, .inr (7, [v0, v1, v2, v3, v4, .ref t0, v6, v7, v8, v9, v10, v11, v12, v13, v14, v15, v16, v17, v18, v19, v20, v21, v22, v23, v24, v25, v26, v27])), (t0, .inl (tc, 8, .inl (upd (upd tf 3 n_2) 0 n_4)))] H := hP
  have hD : va_D A [(h0, .inr (7, [v0, v1, v2, v3, v4, .ref t0, v6, v7, v8, v9, v10, v11, v12, v13, v14, v15, v16, v17, v18, v19, v20, v21, v22, v23, v24, v25, v26, v27])), (t0, .inl (tc, 8, .inl (upd (upd tf 3 n_2) 0 n_4)))] := hD
  refine lv_iload_n hx hb dX9_finding_25 rfl (lv_at hl 1 rfl) ?_
  have hP9 := hP.sub (ws' := [(h0, .inr (7, [v0, v1, v2, v3, v4, .ref t0, v6, v7, v8, v9, v10, v11, v12, v13, v14, v15, v16, v17, v18, v19, v20, v21, v22, v23, v24, v25, v26, v27])), (t0, .inl (tc, 8, .inl (upd (upd tf 3 n_2) 0 n_4)))]) [0, 1] rfl
  have hD9 := hD.sub (ws' := [(h0, .inr (7, [v0, v1, v2, v3, v4, .ref t0, v6, v7, v8, v9, v10, v11, v12, v13, v14, v15, v16, v17, v18, v19, v20, v21, v22, v23, v24, v25, v26, v27])), (t0, .inl (tc, 8, .inl (upd (upd tf 3 n_2) 0 n_4)))]) [0, 1] (by decide) rfl
  have hK9 := hK.sub (tys' := [(tc, .int)]) [0] rfl
  exact W.iret (v := (-1000000003)) hx hb hr (fun t ht hW => ⟨⟨(-1000000003), (), rfl, rfl, upd (upd tf 3 n_2) 0 n_4, by rw [ht]; exact hP9, va_K.moved hW.alike hK9, hD9⟩, hS.F ht⟩) hS.2.2 dX9_finding_26

def w_mf_none : List Cond := .code yX9_finding cX9_finding 2 (some .int) :: (([.fieldLink RX9 23 "LampShapesModel" "found" "[I", .constant RX9 74 (-1000000001)] : List Cond) ++ wsX90)
set_option maxHeartbeats 4000000 in
set_option maxRecDepth 100000 in
theorem mf_none (l : Launch) (dC : Nat → ClassId) (dI : Nat → Nat → Nat) (ad : Nat → Nat) (h0 : Nat) (v0 : Value) (v1 : Value) (v2 : Value) (v3 : Value) (v4 : Value) (t0 : Nat) (v6 : Value) (v7 : Value) (v8 : Value) (v9 : Value) (v10 : Value) (v11 : Value) (v12 : Value) (v13 : Value) (v14 : Value) (v15 : Value) (v16 : Value) (v17 : Value) (v18 : Value) (v19 : Value) (v20 : Value) (v21 : Value) (v22 : Value) (v23 : Value) (v24 : Value) (v25 : Value) (v26 : Value) (v27 : Value) (tc : ClassId) (tf : Nat → Int32) (sz : Nat) : Met l yX9_finding w_mf_none ({ frames := 0, cells := 0, slots := 0, locals := 0 } : Room) (va_Pc [.ref h0, .int (-1000000004)] (preM dC dI ad [(tc, .int)] [(h0, .inr (7, [v0, v1, v2, v3, v4, .ref t0, v6, v7, v8, v9, v10, v11, v12, v13, v14, v15, v16, v17, v18, v19, v20, v21, v22, v23, v24, v25, v26, v27])), (t0, .inl (tc, 8, .inl tf))] sz)) (va_Qi (fun (r : Int32) (_ : Unit) => (r = (-1000000004))) (fun _ t => ∃ (tg : Nat → Int32), va_P (dC, dI) vwCl [(h0, .inr (7, [v0, v1, v2, v3, v4, .ref t0, v6, v7, v8, v9, v10, v11, v12, v13, v14, v15, v16, v17, v18, v19, v20, v21, v22, v23, v24, v25, v26, v27])), (t0, .inl (tc, 8, .inl tg))] t.heap ∧ va_K (dC, dI) vwCl [(tc, .int)] t ∧ va_D (va_A [(h0, .inr (7, [v0, v1, v2, v3, v4, .ref t0, v6, v7, v8, v9, v10, v11, v12, v13, v14, v15, v16, v17, v18, v19, v20, v21, v22, v23, v24, v25, v26, v27])), (t0, .inl (tc, 8, .inl tf))] sz) [(h0, .inr (7, [v0, v1, v2, v3, v4, .ref t0, v6, v7, v8, v9, v10, v11, v12, v13, v14, v15, v16, v17, v18, v19, v20, v21, v22, v23, v24, v25, v26, v27])), (t0, .inl (tc, 8, .inl tg))]) (va_A [(h0, .inr (7, [v0, v1, v2, v3, v4, .ref t0, v6, v7, v8, v9, v10, v11, v12, v13, v14, v15, v16, v17, v18, v19, v20, v21, v22, v23, v24, v25, v26, v27])), (t0, .inl (tc, 8, .inl tf))] sz)) 0 0 (va_A [(h0, .inr (7, [v0, v1, v2, v3, v4, .ref t0, v6, v7, v8, v9, v10, v11, v12, v13, v14, v15, v16, v17, v18, v19, v20, v21, v22, v23, v24, v25, v26, v27])), (t0, .inl (tc, 8, .inl tf))] sz) := by
  refine Met.ofW (cc := cX9_finding) (maxL := 2) (ret := (some .int)) (by decide) rfl ?_
  intro p e s m args below meth c s₁ B hml hv
  obtain ⟨rfl, hsz, hP, hK, hD0, hev⟩ := hv
  have hx := B.exec
  have hb := B.bytes
  have hr := B.returns
  have hts := atoms_spec (ws := w_mf_none) B.pre
  have hown : s.vm.findClass RX9 = some m.cls := findClass_of_methodNamed B.named
  have hlocks := B.notSynchronized
  have inX9 : ∀ w ∈ wsX90, w ∈ w_mf_none := fun w h => List.mem_cons_of_mem _ (List.mem_append_right _ h)
  subst hsz
  have hD := hD0.self (sz := s.heap.size)
  generalize hAe : va_A [(h0, .inr (7, [v0, v1, v2, v3, v4, .ref t0, v6, v7, v8, v9, v10, v11, v12, v13, v14, v15, v16, v17, v18, v19, v20, v21, v22, v23, v24, v25, v26, v27])), (t0, .inl (tc, 8, .inl tf))] s.heap.size = A at hD ⊢
  have hA : ∀ q : Nat, s.heap.size ≤ q → A q := fun q h => by rw [← hAe]; exact Or.inr h
  have hS : va_S A s.heap s.heap [] := va_S.rf
  have hP : va_P (dC, dI) vwCl [(h0, .inr (7, [v0, v1, v2, v3, v4, .ref t0, v6, v7, v8, v9, v10, v11, v12, v13, v14, v15, v16, v17, v18, v19, v20, v21, v22, v23, v24, v25, v26, v27])), (t0, .inl (tc, 8, .inl tf))] s.heap := hP
  have hl := lv_entry ([.ref h0, .int (-1000000004)]) (n := 2) (Nat.le_of_ble_eq_true rfl)
  rw [lg_entry_eq]
  generalize (lg_sl ([.ref h0, .int (-1000000004)]) ++ List.replicate (2 - (lg_sl ([.ref h0, .int (-1000000004)])).length) Slot.unset).toArray = ls at hl ⊢
  have hl : lv_has ls 2 [(0, .ref h0), (1, .int (-1000000004))] := hl
  refine lv_aload_n hx hb dX9_finding_0 rfl (lv_at hl 0 rfl) ?_
  refine va_get (D := (dC, dI)) (ci := 7) (v := .ref t0) (C := RX9) (T := TX9) (N := 28) hx hb hts inX9 hown hK hP 0 rfl rfl 5 (by decide) (hts _ (List.mem_of_getElem? (i := 1) rfl)) (fun _ h9 => h9) rfl dX9_finding_1 ?_
  refine lv_ldc hx hb hown (hts _ (List.mem_of_getElem? (i := 2) rfl)) dX9_finding_4 ?_
  refine lv_iload_n hx hb dX9_finding_6 rfl (lv_at hl 1 rfl) ?_
  refine lv_isub hx hb dX9_finding_7 ?_
  refine pp_ti (y := 3) (by decide) ?_
  refine lv_iconst (v := 1) hx hb dX9_finding_8 (by decide) ?_
  refine lv_iadd hx hb dX9_finding_9 ?_
  refine pp_ti (y := 4) (by decide) ?_
  refine lv_dup2_11 hx hb dX9_finding_10 rfl rfl ?_
  refine va_iald hx hb hK hP 1 0 rfl rfl (vp_in_nI (n := 4) (by decide) (by decide)) dX9_finding_11 ?_
  refine pp_ti (y := tf 4) rfl ?_
  refine lv_topi (fun n_1 en_1 => ?_)
  clear en_1
  refine lv_iconst (v := 1) hx hb dX9_finding_12 (by decide) ?_
  refine lv_iadd hx hb dX9_finding_13 ?_
  refine lv_topi (fun n_2 en_2 => ?_)
  clear en_2
  refine va_iast hx hb hK hP hD hS 1 0 rfl rfl (vp_in_nI (n := 4) (by decide) (by decide)) dX9_finding_14 (fun H locs hP hD hS => ?_)
  have hP : va_P (dC, dI) vwCl [(h0, .inr (7, [v0, v1, v2, v3, v4, .ref t0, v6, v7, v8, v9, v10, v11, v12, v13, v14, v15, v16, v17, v18, v19, v20, v21, v22, v23, v24, v25, v26, v27])), (t0, .inl (tc, 8, .inl (upd tf 4 n_2)))] H := hP
  have hD : va_D A [(h0, .inr (7, [v0, v1, v2, v3, v4, .ref t0, v6, v7, v8, v9, v10, v11, v12, v13, v14, v15, v16, v17, v18, v19, v20, v21, v22, v23, v24, v25, v26, v27])), (t0, .inl (tc, 8, .inl (upd tf 4 n_2)))] := hD
  refine lv_aload_n hx hb dX9_finding_15 rfl (lv_at hl 0 rfl) ?_
  refine va_get (D := (dC, dI)) (ci := 7) (v := .ref t0) (C := RX9) (T := TX9) (N := 28) hx hb hts inX9 hown hK hP 0 rfl rfl 5 (by decide) (hts _ (List.mem_of_getElem? (i := 1) rfl)) (fun _ h9 => h9) rfl dX9_finding_16 ?_
  refine lv_iconst (v := 0) hx hb dX9_finding_19 (by decide) ?_
  refine lv_dup2_11 hx hb dX9_finding_20 rfl rfl ?_
  refine va_iald hx hb hK hP 1 0 rfl rfl (vp_in_nI (n := 0) (by decide) (by decide)) dX9_finding_21 ?_
  refine pp_ti (y := (upd tf 4 n_2) 0) rfl ?_
  refine lv_topi (fun n_3 en_3 => ?_)
  clear en_3
  refine lv_iconst (v := 1) hx hb dX9_finding_22 (by decide) ?_
  refine lv_iadd hx hb dX9_finding_23 ?_
  refine lv_topi (fun n_4 en_4 => ?_)
  clear en_4
  refine va_iast hx hb hK hP hD hS 1 0 rfl rfl (vp_in_nI (n := 0) (by decide) (by decide)) dX9_finding_24 (fun H locs hP hD hS => ?_)
  have hP : va_P (dC, dI) vwCl [(h0, .inr (7, [v0, v1, v2, v3, v4, .ref t0, v6, v7, v8, v9, v10, v11, v12, v13, v14, v15, v16, v17, v18, v19, v20, v21, v22, v23, v24, v25, v26, v27])), (t0, .inl (tc, 8, .inl (upd (upd tf 4 n_2) 0 n_4)))] H := hP
  have hD : va_D A [(h0, .inr (7, [v0, v1, v2, v3, v4, .ref t0, v6, v7, v8, v9, v10, v11, v12, v13, v14, v15, v16, v17, v18, v19, v20, v21, v22, v23, v24, v25, v26, v27])), (t0, .inl (tc, 8, .inl (upd (upd tf 4 n_2) 0 n_4)))] := hD
  refine lv_iload_n hx hb dX9_finding_25 rfl (lv_at hl 1 rfl) ?_
  have hP9 := hP.sub (ws' := [(h0, .inr (7, [v0, v1, v2, v3, v4, .ref t0, v6, v7, v8, v9, v10, v11, v12, v13, v14, v15, v16, v17, v18, v19, v20, v21, v22, v23, v24, v25, v26, v27])), (t0, .inl (tc, 8, .inl (upd (upd tf 4 n_2) 0 n_4)))]) [0, 1] rfl
  have hD9 := hD.sub (ws' := [(h0, .inr (7, [v0, v1, v2, v3, v4, .ref t0, v6, v7, v8, v9, v10, v11, v12, v13, v14, v15, v16, v17, v18, v19, v20, v21, v22, v23, v24, v25, v26, v27])), (t0, .inl (tc, 8, .inl (upd (upd tf 4 n_2) 0 n_4)))]) [0, 1] (by decide) rfl
  have hK9 := hK.sub (tys' := [(tc, .int)]) [0] rfl
  exact W.iret (v := (-1000000004)) hx hb hr (fun t ht hW => ⟨⟨(-1000000004), (), rfl, rfl, upd (upd tf 4 n_2) 0 n_4, by rw [ht]; exact hP9, va_K.moved hW.alike hK9, hD9⟩, hS.F ht⟩) hS.2.2 dX9_finding_26

def w_mf_state : List Cond := .code yX9_finding cX9_finding 2 (some .int) :: (([.fieldLink RX9 23 "LampShapesModel" "found" "[I", .constant RX9 74 (-1000000001)] : List Cond) ++ wsX90)
set_option maxHeartbeats 4000000 in
set_option maxRecDepth 100000 in
theorem mf_state (l : Launch) (dC : Nat → ClassId) (dI : Nat → Nat → Nat) (ad : Nat → Nat) (h0 : Nat) (v0 : Value) (v1 : Value) (v2 : Value) (v3 : Value) (v4 : Value) (t0 : Nat) (v6 : Value) (v7 : Value) (v8 : Value) (v9 : Value) (v10 : Value) (v11 : Value) (v12 : Value) (v13 : Value) (v14 : Value) (v15 : Value) (v16 : Value) (v17 : Value) (v18 : Value) (v19 : Value) (v20 : Value) (v21 : Value) (v22 : Value) (v23 : Value) (v24 : Value) (v25 : Value) (v26 : Value) (v27 : Value) (tc : ClassId) (tf : Nat → Int32) (sz : Nat) : Met l yX9_finding w_mf_state ({ frames := 0, cells := 0, slots := 0, locals := 0 } : Room) (va_Pc [.ref h0, .int (-1000000005)] (preM dC dI ad [(tc, .int)] [(h0, .inr (7, [v0, v1, v2, v3, v4, .ref t0, v6, v7, v8, v9, v10, v11, v12, v13, v14, v15, v16, v17, v18, v19, v20, v21, v22, v23, v24, v25, v26, v27])), (t0, .inl (tc, 8, .inl tf))] sz)) (va_Qi (fun (r : Int32) (_ : Unit) => (r = (-1000000005))) (fun _ t => ∃ (tg : Nat → Int32), va_P (dC, dI) vwCl [(h0, .inr (7, [v0, v1, v2, v3, v4, .ref t0, v6, v7, v8, v9, v10, v11, v12, v13, v14, v15, v16, v17, v18, v19, v20, v21, v22, v23, v24, v25, v26, v27])), (t0, .inl (tc, 8, .inl tg))] t.heap ∧ va_K (dC, dI) vwCl [(tc, .int)] t ∧ va_D (va_A [(h0, .inr (7, [v0, v1, v2, v3, v4, .ref t0, v6, v7, v8, v9, v10, v11, v12, v13, v14, v15, v16, v17, v18, v19, v20, v21, v22, v23, v24, v25, v26, v27])), (t0, .inl (tc, 8, .inl tf))] sz) [(h0, .inr (7, [v0, v1, v2, v3, v4, .ref t0, v6, v7, v8, v9, v10, v11, v12, v13, v14, v15, v16, v17, v18, v19, v20, v21, v22, v23, v24, v25, v26, v27])), (t0, .inl (tc, 8, .inl tg))]) (va_A [(h0, .inr (7, [v0, v1, v2, v3, v4, .ref t0, v6, v7, v8, v9, v10, v11, v12, v13, v14, v15, v16, v17, v18, v19, v20, v21, v22, v23, v24, v25, v26, v27])), (t0, .inl (tc, 8, .inl tf))] sz)) 0 0 (va_A [(h0, .inr (7, [v0, v1, v2, v3, v4, .ref t0, v6, v7, v8, v9, v10, v11, v12, v13, v14, v15, v16, v17, v18, v19, v20, v21, v22, v23, v24, v25, v26, v27])), (t0, .inl (tc, 8, .inl tf))] sz) := by
  refine Met.ofW (cc := cX9_finding) (maxL := 2) (ret := (some .int)) (by decide) rfl ?_
  intro p e s m args below meth c s₁ B hml hv
  obtain ⟨rfl, hsz, hP, hK, hD0, hev⟩ := hv
  have hx := B.exec
  have hb := B.bytes
  have hr := B.returns
  have hts := atoms_spec (ws := w_mf_state) B.pre
  have hown : s.vm.findClass RX9 = some m.cls := findClass_of_methodNamed B.named
  have hlocks := B.notSynchronized
  have inX9 : ∀ w ∈ wsX90, w ∈ w_mf_state := fun w h => List.mem_cons_of_mem _ (List.mem_append_right _ h)
  subst hsz
  have hD := hD0.self (sz := s.heap.size)
  generalize hAe : va_A [(h0, .inr (7, [v0, v1, v2, v3, v4, .ref t0, v6, v7, v8, v9, v10, v11, v12, v13, v14, v15, v16, v17, v18, v19, v20, v21, v22, v23, v24, v25, v26, v27])), (t0, .inl (tc, 8, .inl tf))] s.heap.size = A at hD ⊢
  have hA : ∀ q : Nat, s.heap.size ≤ q → A q := fun q h => by rw [← hAe]; exact Or.inr h
  have hS : va_S A s.heap s.heap [] := va_S.rf
  have hP : va_P (dC, dI) vwCl [(h0, .inr (7, [v0, v1, v2, v3, v4, .ref t0, v6, v7, v8, v9, v10, v11, v12, v13, v14, v15, v16, v17, v18, v19, v20, v21, v22, v23, v24, v25, v26, v27])), (t0, .inl (tc, 8, .inl tf))] s.heap := hP
  have hl := lv_entry ([.ref h0, .int (-1000000005)]) (n := 2) (Nat.le_of_ble_eq_true rfl)
  rw [lg_entry_eq]
  generalize (lg_sl ([.ref h0, .int (-1000000005)]) ++ List.replicate (2 - (lg_sl ([.ref h0, .int (-1000000005)])).length) Slot.unset).toArray = ls at hl ⊢
  have hl : lv_has ls 2 [(0, .ref h0), (1, .int (-1000000005))] := hl
  refine lv_aload_n hx hb dX9_finding_0 rfl (lv_at hl 0 rfl) ?_
  refine va_get (D := (dC, dI)) (ci := 7) (v := .ref t0) (C := RX9) (T := TX9) (N := 28) hx hb hts inX9 hown hK hP 0 rfl rfl 5 (by decide) (hts _ (List.mem_of_getElem? (i := 1) rfl)) (fun _ h9 => h9) rfl dX9_finding_1 ?_
  refine lv_ldc hx hb hown (hts _ (List.mem_of_getElem? (i := 2) rfl)) dX9_finding_4 ?_
  refine lv_iload_n hx hb dX9_finding_6 rfl (lv_at hl 1 rfl) ?_
  refine lv_isub hx hb dX9_finding_7 ?_
  refine pp_ti (y := 4) (by decide) ?_
  refine lv_iconst (v := 1) hx hb dX9_finding_8 (by decide) ?_
  refine lv_iadd hx hb dX9_finding_9 ?_
  refine pp_ti (y := 5) (by decide) ?_
  refine lv_dup2_11 hx hb dX9_finding_10 rfl rfl ?_
  refine va_iald hx hb hK hP 1 0 rfl rfl (vp_in_nI (n := 5) (by decide) (by decide)) dX9_finding_11 ?_
  refine pp_ti (y := tf 5) rfl ?_
  refine lv_topi (fun n_1 en_1 => ?_)
  clear en_1
  refine lv_iconst (v := 1) hx hb dX9_finding_12 (by decide) ?_
  refine lv_iadd hx hb dX9_finding_13 ?_
  refine lv_topi (fun n_2 en_2 => ?_)
  clear en_2
  refine va_iast hx hb hK hP hD hS 1 0 rfl rfl (vp_in_nI (n := 5) (by decide) (by decide)) dX9_finding_14 (fun H locs hP hD hS => ?_)
  have hP : va_P (dC, dI) vwCl [(h0, .inr (7, [v0, v1, v2, v3, v4, .ref t0, v6, v7, v8, v9, v10, v11, v12, v13, v14, v15, v16, v17, v18, v19, v20, v21, v22, v23, v24, v25, v26, v27])), (t0, .inl (tc, 8, .inl (upd tf 5 n_2)))] H := hP
  have hD : va_D A [(h0, .inr (7, [v0, v1, v2, v3, v4, .ref t0, v6, v7, v8, v9, v10, v11, v12, v13, v14, v15, v16, v17, v18, v19, v20, v21, v22, v23, v24, v25, v26, v27])), (t0, .inl (tc, 8, .inl (upd tf 5 n_2)))] := hD
  refine lv_aload_n hx hb dX9_finding_15 rfl (lv_at hl 0 rfl) ?_
  refine va_get (D := (dC, dI)) (ci := 7) (v := .ref t0) (C := RX9) (T := TX9) (N := 28) hx hb hts inX9 hown hK hP 0 rfl rfl 5 (by decide) (hts _ (List.mem_of_getElem? (i := 1) rfl)) (fun _ h9 => h9) rfl dX9_finding_16 ?_
  refine lv_iconst (v := 0) hx hb dX9_finding_19 (by decide) ?_
  refine lv_dup2_11 hx hb dX9_finding_20 rfl rfl ?_
  refine va_iald hx hb hK hP 1 0 rfl rfl (vp_in_nI (n := 0) (by decide) (by decide)) dX9_finding_21 ?_
  refine pp_ti (y := (upd tf 5 n_2) 0) rfl ?_
  refine lv_topi (fun n_3 en_3 => ?_)
  clear en_3
  refine lv_iconst (v := 1) hx hb dX9_finding_22 (by decide) ?_
  refine lv_iadd hx hb dX9_finding_23 ?_
  refine lv_topi (fun n_4 en_4 => ?_)
  clear en_4
  refine va_iast hx hb hK hP hD hS 1 0 rfl rfl (vp_in_nI (n := 0) (by decide) (by decide)) dX9_finding_24 (fun H locs hP hD hS => ?_)
  have hP : va_P (dC, dI) vwCl [(h0, .inr (7, [v0, v1, v2, v3, v4, .ref t0, v6, v7, v8, v9, v10, v11, v12, v13, v14, v15, v16, v17, v18, v19, v20, v21, v22, v23, v24, v25, v26, v27])), (t0, .inl (tc, 8, .inl (upd (upd tf 5 n_2) 0 n_4)))] H := hP
  have hD : va_D A [(h0, .inr (7, [v0, v1, v2, v3, v4, .ref t0, v6, v7, v8, v9, v10, v11, v12, v13, v14, v15, v16, v17, v18, v19, v20, v21, v22, v23, v24, v25, v26, v27])), (t0, .inl (tc, 8, .inl (upd (upd tf 5 n_2) 0 n_4)))] := hD
  refine lv_iload_n hx hb dX9_finding_25 rfl (lv_at hl 1 rfl) ?_
  have hP9 := hP.sub (ws' := [(h0, .inr (7, [v0, v1, v2, v3, v4, .ref t0, v6, v7, v8, v9, v10, v11, v12, v13, v14, v15, v16, v17, v18, v19, v20, v21, v22, v23, v24, v25, v26, v27])), (t0, .inl (tc, 8, .inl (upd (upd tf 5 n_2) 0 n_4)))]) [0, 1] rfl
  have hD9 := hD.sub (ws' := [(h0, .inr (7, [v0, v1, v2, v3, v4, .ref t0, v6, v7, v8, v9, v10, v11, v12, v13, v14, v15, v16, v17, v18, v19, v20, v21, v22, v23, v24, v25, v26, v27])), (t0, .inl (tc, 8, .inl (upd (upd tf 5 n_2) 0 n_4)))]) [0, 1] (by decide) rfl
  have hK9 := hK.sub (tys' := [(tc, .int)]) [0] rfl
  exact W.iret (v := (-1000000005)) hx hb hr (fun t ht hW => ⟨⟨(-1000000005), (), rfl, rfl, upd (upd tf 5 n_2) 0 n_4, by rw [ht]; exact hP9, va_K.moved hW.alike hK9, hD9⟩, hS.F ht⟩) hS.2.2 dX9_finding_26

def w_mf_missing : List Cond := .code yX9_finding cX9_finding 2 (some .int) :: (([.fieldLink RX9 23 "LampShapesModel" "found" "[I", .constant RX9 74 (-1000000001)] : List Cond) ++ wsX90)
set_option maxHeartbeats 4000000 in
set_option maxRecDepth 100000 in
theorem mf_missing (l : Launch) (dC : Nat → ClassId) (dI : Nat → Nat → Nat) (ad : Nat → Nat) (h0 : Nat) (v0 : Value) (v1 : Value) (v2 : Value) (v3 : Value) (v4 : Value) (t0 : Nat) (v6 : Value) (v7 : Value) (v8 : Value) (v9 : Value) (v10 : Value) (v11 : Value) (v12 : Value) (v13 : Value) (v14 : Value) (v15 : Value) (v16 : Value) (v17 : Value) (v18 : Value) (v19 : Value) (v20 : Value) (v21 : Value) (v22 : Value) (v23 : Value) (v24 : Value) (v25 : Value) (v26 : Value) (v27 : Value) (tc : ClassId) (tf : Nat → Int32) (sz : Nat) : Met l yX9_finding w_mf_missing ({ frames := 0, cells := 0, slots := 0, locals := 0 } : Room) (va_Pc [.ref h0, .int (-1000000006)] (preM dC dI ad [(tc, .int)] [(h0, .inr (7, [v0, v1, v2, v3, v4, .ref t0, v6, v7, v8, v9, v10, v11, v12, v13, v14, v15, v16, v17, v18, v19, v20, v21, v22, v23, v24, v25, v26, v27])), (t0, .inl (tc, 8, .inl tf))] sz)) (va_Qi (fun (r : Int32) (_ : Unit) => (r = (-1000000006))) (fun _ t => ∃ (tg : Nat → Int32), va_P (dC, dI) vwCl [(h0, .inr (7, [v0, v1, v2, v3, v4, .ref t0, v6, v7, v8, v9, v10, v11, v12, v13, v14, v15, v16, v17, v18, v19, v20, v21, v22, v23, v24, v25, v26, v27])), (t0, .inl (tc, 8, .inl tg))] t.heap ∧ va_K (dC, dI) vwCl [(tc, .int)] t ∧ va_D (va_A [(h0, .inr (7, [v0, v1, v2, v3, v4, .ref t0, v6, v7, v8, v9, v10, v11, v12, v13, v14, v15, v16, v17, v18, v19, v20, v21, v22, v23, v24, v25, v26, v27])), (t0, .inl (tc, 8, .inl tf))] sz) [(h0, .inr (7, [v0, v1, v2, v3, v4, .ref t0, v6, v7, v8, v9, v10, v11, v12, v13, v14, v15, v16, v17, v18, v19, v20, v21, v22, v23, v24, v25, v26, v27])), (t0, .inl (tc, 8, .inl tg))]) (va_A [(h0, .inr (7, [v0, v1, v2, v3, v4, .ref t0, v6, v7, v8, v9, v10, v11, v12, v13, v14, v15, v16, v17, v18, v19, v20, v21, v22, v23, v24, v25, v26, v27])), (t0, .inl (tc, 8, .inl tf))] sz)) 0 0 (va_A [(h0, .inr (7, [v0, v1, v2, v3, v4, .ref t0, v6, v7, v8, v9, v10, v11, v12, v13, v14, v15, v16, v17, v18, v19, v20, v21, v22, v23, v24, v25, v26, v27])), (t0, .inl (tc, 8, .inl tf))] sz) := by
  refine Met.ofW (cc := cX9_finding) (maxL := 2) (ret := (some .int)) (by decide) rfl ?_
  intro p e s m args below meth c s₁ B hml hv
  obtain ⟨rfl, hsz, hP, hK, hD0, hev⟩ := hv
  have hx := B.exec
  have hb := B.bytes
  have hr := B.returns
  have hts := atoms_spec (ws := w_mf_missing) B.pre
  have hown : s.vm.findClass RX9 = some m.cls := findClass_of_methodNamed B.named
  have hlocks := B.notSynchronized
  have inX9 : ∀ w ∈ wsX90, w ∈ w_mf_missing := fun w h => List.mem_cons_of_mem _ (List.mem_append_right _ h)
  subst hsz
  have hD := hD0.self (sz := s.heap.size)
  generalize hAe : va_A [(h0, .inr (7, [v0, v1, v2, v3, v4, .ref t0, v6, v7, v8, v9, v10, v11, v12, v13, v14, v15, v16, v17, v18, v19, v20, v21, v22, v23, v24, v25, v26, v27])), (t0, .inl (tc, 8, .inl tf))] s.heap.size = A at hD ⊢
  have hA : ∀ q : Nat, s.heap.size ≤ q → A q := fun q h => by rw [← hAe]; exact Or.inr h
  have hS : va_S A s.heap s.heap [] := va_S.rf
  have hP : va_P (dC, dI) vwCl [(h0, .inr (7, [v0, v1, v2, v3, v4, .ref t0, v6, v7, v8, v9, v10, v11, v12, v13, v14, v15, v16, v17, v18, v19, v20, v21, v22, v23, v24, v25, v26, v27])), (t0, .inl (tc, 8, .inl tf))] s.heap := hP
  have hl := lv_entry ([.ref h0, .int (-1000000006)]) (n := 2) (Nat.le_of_ble_eq_true rfl)
  rw [lg_entry_eq]
  generalize (lg_sl ([.ref h0, .int (-1000000006)]) ++ List.replicate (2 - (lg_sl ([.ref h0, .int (-1000000006)])).length) Slot.unset).toArray = ls at hl ⊢
  have hl : lv_has ls 2 [(0, .ref h0), (1, .int (-1000000006))] := hl
  refine lv_aload_n hx hb dX9_finding_0 rfl (lv_at hl 0 rfl) ?_
  refine va_get (D := (dC, dI)) (ci := 7) (v := .ref t0) (C := RX9) (T := TX9) (N := 28) hx hb hts inX9 hown hK hP 0 rfl rfl 5 (by decide) (hts _ (List.mem_of_getElem? (i := 1) rfl)) (fun _ h9 => h9) rfl dX9_finding_1 ?_
  refine lv_ldc hx hb hown (hts _ (List.mem_of_getElem? (i := 2) rfl)) dX9_finding_4 ?_
  refine lv_iload_n hx hb dX9_finding_6 rfl (lv_at hl 1 rfl) ?_
  refine lv_isub hx hb dX9_finding_7 ?_
  refine pp_ti (y := 5) (by decide) ?_
  refine lv_iconst (v := 1) hx hb dX9_finding_8 (by decide) ?_
  refine lv_iadd hx hb dX9_finding_9 ?_
  refine pp_ti (y := 6) (by decide) ?_
  refine lv_dup2_11 hx hb dX9_finding_10 rfl rfl ?_
  refine va_iald hx hb hK hP 1 0 rfl rfl (vp_in_nI (n := 6) (by decide) (by decide)) dX9_finding_11 ?_
  refine pp_ti (y := tf 6) rfl ?_
  refine lv_topi (fun n_1 en_1 => ?_)
  clear en_1
  refine lv_iconst (v := 1) hx hb dX9_finding_12 (by decide) ?_
  refine lv_iadd hx hb dX9_finding_13 ?_
  refine lv_topi (fun n_2 en_2 => ?_)
  clear en_2
  refine va_iast hx hb hK hP hD hS 1 0 rfl rfl (vp_in_nI (n := 6) (by decide) (by decide)) dX9_finding_14 (fun H locs hP hD hS => ?_)
  have hP : va_P (dC, dI) vwCl [(h0, .inr (7, [v0, v1, v2, v3, v4, .ref t0, v6, v7, v8, v9, v10, v11, v12, v13, v14, v15, v16, v17, v18, v19, v20, v21, v22, v23, v24, v25, v26, v27])), (t0, .inl (tc, 8, .inl (upd tf 6 n_2)))] H := hP
  have hD : va_D A [(h0, .inr (7, [v0, v1, v2, v3, v4, .ref t0, v6, v7, v8, v9, v10, v11, v12, v13, v14, v15, v16, v17, v18, v19, v20, v21, v22, v23, v24, v25, v26, v27])), (t0, .inl (tc, 8, .inl (upd tf 6 n_2)))] := hD
  refine lv_aload_n hx hb dX9_finding_15 rfl (lv_at hl 0 rfl) ?_
  refine va_get (D := (dC, dI)) (ci := 7) (v := .ref t0) (C := RX9) (T := TX9) (N := 28) hx hb hts inX9 hown hK hP 0 rfl rfl 5 (by decide) (hts _ (List.mem_of_getElem? (i := 1) rfl)) (fun _ h9 => h9) rfl dX9_finding_16 ?_
  refine lv_iconst (v := 0) hx hb dX9_finding_19 (by decide) ?_
  refine lv_dup2_11 hx hb dX9_finding_20 rfl rfl ?_
  refine va_iald hx hb hK hP 1 0 rfl rfl (vp_in_nI (n := 0) (by decide) (by decide)) dX9_finding_21 ?_
  refine pp_ti (y := (upd tf 6 n_2) 0) rfl ?_
  refine lv_topi (fun n_3 en_3 => ?_)
  clear en_3
  refine lv_iconst (v := 1) hx hb dX9_finding_22 (by decide) ?_
  refine lv_iadd hx hb dX9_finding_23 ?_
  refine lv_topi (fun n_4 en_4 => ?_)
  clear en_4
  refine va_iast hx hb hK hP hD hS 1 0 rfl rfl (vp_in_nI (n := 0) (by decide) (by decide)) dX9_finding_24 (fun H locs hP hD hS => ?_)
  have hP : va_P (dC, dI) vwCl [(h0, .inr (7, [v0, v1, v2, v3, v4, .ref t0, v6, v7, v8, v9, v10, v11, v12, v13, v14, v15, v16, v17, v18, v19, v20, v21, v22, v23, v24, v25, v26, v27])), (t0, .inl (tc, 8, .inl (upd (upd tf 6 n_2) 0 n_4)))] H := hP
  have hD : va_D A [(h0, .inr (7, [v0, v1, v2, v3, v4, .ref t0, v6, v7, v8, v9, v10, v11, v12, v13, v14, v15, v16, v17, v18, v19, v20, v21, v22, v23, v24, v25, v26, v27])), (t0, .inl (tc, 8, .inl (upd (upd tf 6 n_2) 0 n_4)))] := hD
  refine lv_iload_n hx hb dX9_finding_25 rfl (lv_at hl 1 rfl) ?_
  have hP9 := hP.sub (ws' := [(h0, .inr (7, [v0, v1, v2, v3, v4, .ref t0, v6, v7, v8, v9, v10, v11, v12, v13, v14, v15, v16, v17, v18, v19, v20, v21, v22, v23, v24, v25, v26, v27])), (t0, .inl (tc, 8, .inl (upd (upd tf 6 n_2) 0 n_4)))]) [0, 1] rfl
  have hD9 := hD.sub (ws' := [(h0, .inr (7, [v0, v1, v2, v3, v4, .ref t0, v6, v7, v8, v9, v10, v11, v12, v13, v14, v15, v16, v17, v18, v19, v20, v21, v22, v23, v24, v25, v26, v27])), (t0, .inl (tc, 8, .inl (upd (upd tf 6 n_2) 0 n_4)))]) [0, 1] (by decide) rfl
  have hK9 := hK.sub (tys' := [(tc, .int)]) [0] rfl
  exact W.iret (v := (-1000000006)) hx hb hr (fun t ht hW => ⟨⟨(-1000000006), (), rfl, rfl, upd (upd tf 6 n_2) 0 n_4, by rw [ht]; exact hP9, va_K.moved hW.alike hK9, hD9⟩, hS.F ht⟩) hS.2.2 dX9_finding_26

def w_mf_size : List Cond := .code yX9_finding cX9_finding 2 (some .int) :: (([.fieldLink RX9 23 "LampShapesModel" "found" "[I", .constant RX9 74 (-1000000001)] : List Cond) ++ wsX90)
set_option maxHeartbeats 4000000 in
set_option maxRecDepth 100000 in
theorem mf_size (l : Launch) (dC : Nat → ClassId) (dI : Nat → Nat → Nat) (ad : Nat → Nat) (h0 : Nat) (v0 : Value) (v1 : Value) (v2 : Value) (v3 : Value) (v4 : Value) (t0 : Nat) (v6 : Value) (v7 : Value) (v8 : Value) (v9 : Value) (v10 : Value) (v11 : Value) (v12 : Value) (v13 : Value) (v14 : Value) (v15 : Value) (v16 : Value) (v17 : Value) (v18 : Value) (v19 : Value) (v20 : Value) (v21 : Value) (v22 : Value) (v23 : Value) (v24 : Value) (v25 : Value) (v26 : Value) (v27 : Value) (tc : ClassId) (tf : Nat → Int32) (sz : Nat) : Met l yX9_finding w_mf_size ({ frames := 0, cells := 0, slots := 0, locals := 0 } : Room) (va_Pc [.ref h0, .int (-1000000007)] (preM dC dI ad [(tc, .int)] [(h0, .inr (7, [v0, v1, v2, v3, v4, .ref t0, v6, v7, v8, v9, v10, v11, v12, v13, v14, v15, v16, v17, v18, v19, v20, v21, v22, v23, v24, v25, v26, v27])), (t0, .inl (tc, 8, .inl tf))] sz)) (va_Qi (fun (r : Int32) (_ : Unit) => (r = (-1000000007))) (fun _ t => ∃ (tg : Nat → Int32), va_P (dC, dI) vwCl [(h0, .inr (7, [v0, v1, v2, v3, v4, .ref t0, v6, v7, v8, v9, v10, v11, v12, v13, v14, v15, v16, v17, v18, v19, v20, v21, v22, v23, v24, v25, v26, v27])), (t0, .inl (tc, 8, .inl tg))] t.heap ∧ va_K (dC, dI) vwCl [(tc, .int)] t ∧ va_D (va_A [(h0, .inr (7, [v0, v1, v2, v3, v4, .ref t0, v6, v7, v8, v9, v10, v11, v12, v13, v14, v15, v16, v17, v18, v19, v20, v21, v22, v23, v24, v25, v26, v27])), (t0, .inl (tc, 8, .inl tf))] sz) [(h0, .inr (7, [v0, v1, v2, v3, v4, .ref t0, v6, v7, v8, v9, v10, v11, v12, v13, v14, v15, v16, v17, v18, v19, v20, v21, v22, v23, v24, v25, v26, v27])), (t0, .inl (tc, 8, .inl tg))]) (va_A [(h0, .inr (7, [v0, v1, v2, v3, v4, .ref t0, v6, v7, v8, v9, v10, v11, v12, v13, v14, v15, v16, v17, v18, v19, v20, v21, v22, v23, v24, v25, v26, v27])), (t0, .inl (tc, 8, .inl tf))] sz)) 0 0 (va_A [(h0, .inr (7, [v0, v1, v2, v3, v4, .ref t0, v6, v7, v8, v9, v10, v11, v12, v13, v14, v15, v16, v17, v18, v19, v20, v21, v22, v23, v24, v25, v26, v27])), (t0, .inl (tc, 8, .inl tf))] sz) := by
  refine Met.ofW (cc := cX9_finding) (maxL := 2) (ret := (some .int)) (by decide) rfl ?_
  intro p e s m args below meth c s₁ B hml hv
  obtain ⟨rfl, hsz, hP, hK, hD0, hev⟩ := hv
  have hx := B.exec
  have hb := B.bytes
  have hr := B.returns
  have hts := atoms_spec (ws := w_mf_size) B.pre
  have hown : s.vm.findClass RX9 = some m.cls := findClass_of_methodNamed B.named
  have hlocks := B.notSynchronized
  have inX9 : ∀ w ∈ wsX90, w ∈ w_mf_size := fun w h => List.mem_cons_of_mem _ (List.mem_append_right _ h)
  subst hsz
  have hD := hD0.self (sz := s.heap.size)
  generalize hAe : va_A [(h0, .inr (7, [v0, v1, v2, v3, v4, .ref t0, v6, v7, v8, v9, v10, v11, v12, v13, v14, v15, v16, v17, v18, v19, v20, v21, v22, v23, v24, v25, v26, v27])), (t0, .inl (tc, 8, .inl tf))] s.heap.size = A at hD ⊢
  have hA : ∀ q : Nat, s.heap.size ≤ q → A q := fun q h => by rw [← hAe]; exact Or.inr h
  have hS : va_S A s.heap s.heap [] := va_S.rf
  have hP : va_P (dC, dI) vwCl [(h0, .inr (7, [v0, v1, v2, v3, v4, .ref t0, v6, v7, v8, v9, v10, v11, v12, v13, v14, v15, v16, v17, v18, v19, v20, v21, v22, v23, v24, v25, v26, v27])), (t0, .inl (tc, 8, .inl tf))] s.heap := hP
  have hl := lv_entry ([.ref h0, .int (-1000000007)]) (n := 2) (Nat.le_of_ble_eq_true rfl)
  rw [lg_entry_eq]
  generalize (lg_sl ([.ref h0, .int (-1000000007)]) ++ List.replicate (2 - (lg_sl ([.ref h0, .int (-1000000007)])).length) Slot.unset).toArray = ls at hl ⊢
  have hl : lv_has ls 2 [(0, .ref h0), (1, .int (-1000000007))] := hl
  refine lv_aload_n hx hb dX9_finding_0 rfl (lv_at hl 0 rfl) ?_
  refine va_get (D := (dC, dI)) (ci := 7) (v := .ref t0) (C := RX9) (T := TX9) (N := 28) hx hb hts inX9 hown hK hP 0 rfl rfl 5 (by decide) (hts _ (List.mem_of_getElem? (i := 1) rfl)) (fun _ h9 => h9) rfl dX9_finding_1 ?_
  refine lv_ldc hx hb hown (hts _ (List.mem_of_getElem? (i := 2) rfl)) dX9_finding_4 ?_
  refine lv_iload_n hx hb dX9_finding_6 rfl (lv_at hl 1 rfl) ?_
  refine lv_isub hx hb dX9_finding_7 ?_
  refine pp_ti (y := 6) (by decide) ?_
  refine lv_iconst (v := 1) hx hb dX9_finding_8 (by decide) ?_
  refine lv_iadd hx hb dX9_finding_9 ?_
  refine pp_ti (y := 7) (by decide) ?_
  refine lv_dup2_11 hx hb dX9_finding_10 rfl rfl ?_
  refine va_iald hx hb hK hP 1 0 rfl rfl (vp_in_nI (n := 7) (by decide) (by decide)) dX9_finding_11 ?_
  refine pp_ti (y := tf 7) rfl ?_
  refine lv_topi (fun n_1 en_1 => ?_)
  clear en_1
  refine lv_iconst (v := 1) hx hb dX9_finding_12 (by decide) ?_
  refine lv_iadd hx hb dX9_finding_13 ?_
  refine lv_topi (fun n_2 en_2 => ?_)
  clear en_2
  refine va_iast hx hb hK hP hD hS 1 0 rfl rfl (vp_in_nI (n := 7) (by decide) (by decide)) dX9_finding_14 (fun H locs hP hD hS => ?_)
  have hP : va_P (dC, dI) vwCl [(h0, .inr (7, [v0, v1, v2, v3, v4, .ref t0, v6, v7, v8, v9, v10, v11, v12, v13, v14, v15, v16, v17, v18, v19, v20, v21, v22, v23, v24, v25, v26, v27])), (t0, .inl (tc, 8, .inl (upd tf 7 n_2)))] H := hP
  have hD : va_D A [(h0, .inr (7, [v0, v1, v2, v3, v4, .ref t0, v6, v7, v8, v9, v10, v11, v12, v13, v14, v15, v16, v17, v18, v19, v20, v21, v22, v23, v24, v25, v26, v27])), (t0, .inl (tc, 8, .inl (upd tf 7 n_2)))] := hD
  refine lv_aload_n hx hb dX9_finding_15 rfl (lv_at hl 0 rfl) ?_
  refine va_get (D := (dC, dI)) (ci := 7) (v := .ref t0) (C := RX9) (T := TX9) (N := 28) hx hb hts inX9 hown hK hP 0 rfl rfl 5 (by decide) (hts _ (List.mem_of_getElem? (i := 1) rfl)) (fun _ h9 => h9) rfl dX9_finding_16 ?_
  refine lv_iconst (v := 0) hx hb dX9_finding_19 (by decide) ?_
  refine lv_dup2_11 hx hb dX9_finding_20 rfl rfl ?_
  refine va_iald hx hb hK hP 1 0 rfl rfl (vp_in_nI (n := 0) (by decide) (by decide)) dX9_finding_21 ?_
  refine pp_ti (y := (upd tf 7 n_2) 0) rfl ?_
  refine lv_topi (fun n_3 en_3 => ?_)
  clear en_3
  refine lv_iconst (v := 1) hx hb dX9_finding_22 (by decide) ?_
  refine lv_iadd hx hb dX9_finding_23 ?_
  refine lv_topi (fun n_4 en_4 => ?_)
  clear en_4
  refine va_iast hx hb hK hP hD hS 1 0 rfl rfl (vp_in_nI (n := 0) (by decide) (by decide)) dX9_finding_24 (fun H locs hP hD hS => ?_)
  have hP : va_P (dC, dI) vwCl [(h0, .inr (7, [v0, v1, v2, v3, v4, .ref t0, v6, v7, v8, v9, v10, v11, v12, v13, v14, v15, v16, v17, v18, v19, v20, v21, v22, v23, v24, v25, v26, v27])), (t0, .inl (tc, 8, .inl (upd (upd tf 7 n_2) 0 n_4)))] H := hP
  have hD : va_D A [(h0, .inr (7, [v0, v1, v2, v3, v4, .ref t0, v6, v7, v8, v9, v10, v11, v12, v13, v14, v15, v16, v17, v18, v19, v20, v21, v22, v23, v24, v25, v26, v27])), (t0, .inl (tc, 8, .inl (upd (upd tf 7 n_2) 0 n_4)))] := hD
  refine lv_iload_n hx hb dX9_finding_25 rfl (lv_at hl 1 rfl) ?_
  have hP9 := hP.sub (ws' := [(h0, .inr (7, [v0, v1, v2, v3, v4, .ref t0, v6, v7, v8, v9, v10, v11, v12, v13, v14, v15, v16, v17, v18, v19, v20, v21, v22, v23, v24, v25, v26, v27])), (t0, .inl (tc, 8, .inl (upd (upd tf 7 n_2) 0 n_4)))]) [0, 1] rfl
  have hD9 := hD.sub (ws' := [(h0, .inr (7, [v0, v1, v2, v3, v4, .ref t0, v6, v7, v8, v9, v10, v11, v12, v13, v14, v15, v16, v17, v18, v19, v20, v21, v22, v23, v24, v25, v26, v27])), (t0, .inl (tc, 8, .inl (upd (upd tf 7 n_2) 0 n_4)))]) [0, 1] (by decide) rfl
  have hK9 := hK.sub (tys' := [(tc, .int)]) [0] rfl
  exact W.iret (v := (-1000000007)) hx hb hr (fun t ht hW => ⟨⟨(-1000000007), (), rfl, rfl, upd (upd tf 7 n_2) 0 n_4, by rw [ht]; exact hP9, va_K.moved hW.alike hK9, hD9⟩, hS.F ht⟩) hS.2.2 dX9_finding_26

