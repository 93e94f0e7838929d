
/-- the byte at k, -1 beyond the tape's end -/
def bAt (ef : Nat → Int32) (ts k : Int32) : Int32 := if k.toInt < ts.toInt then ef k.toNatClampNeg else -1
theorem bA_same {ef : Nat → Int32} {ts k k0 r r0 : Int32} (h : r = bAt ef ts k) (h0 : r0 = bAt ef ts k0) : k.toInt = k0.toInt → r.toInt = r0.toInt := fun q => by rw [h, h0, Int32.toInt_inj.mp q]
/-- an item of so and so came to the place n -/
def itP (yf yg : Nat → Int32) (n : Nat) (w a : Int32) : Prop := (∀ i, i < 3 * n → yg i = yf i) ∧ yg (3 * n) = w ∧ yg (3 * n + 1) = a
theorem itP_mk {yf : Nat → Int32} {n x1 x2 x3 w a b : Int32} (h0 : 0 ≤ n.toInt) (h1 : x1.toInt = 3 * n.toInt) (h2 : x2.toInt = 3 * n.toInt + 1) (h3 : x3.toInt = 3 * n.toInt + 2) : itP yf (upd (upd (upd yf x1.toNatClampNeg w) x2.toNatClampNeg a) x3.toNatClampNeg b) n.toInt.toNat w a := by
  have c1 := pp_cl (x := x1) (by omega)
  have c2 := pp_cl (x := x2) (by omega)
  have c3 := pp_cl (x := x3) (by omega)
  refine ⟨fun i hi => ?_, ?_, ?_⟩
  · unfold upd; rw [if_neg (by omega), if_neg (by omega), if_neg (by omega)]
  · unfold upd; rw [if_neg (by omega), if_neg (by omega), if_pos (by omega)]
  · unfold upd; rw [if_neg (by omega), if_pos (by omega)]
/-- an item may be done: how many shapes, scenes and which shapes are held before it and behind it -/
def it_ok (w a : Int32) (s c : Int) (j : Nat) (s' c' : Int) (j' : Nat) : Prop :=
  (0 ≤ w.toInt ∧ w.toInt ≤ 5 ∧ s ≤ 8 ∧ s' = s + 1 ∧ c' = c ∧ j' = j) ∨
  (w.toInt = 10 ∧ c ≤ 6 ∧ s' = s ∧ c' = c + 1 ∧ j' = j) ∨
  (w.toInt = 11 ∧ (0 ≤ a.toInt ∧ a.toInt ≤ 8) ∧ (j < 512 ∧ pop9 j < 4 ∧ j.testBit a.toInt.toNat = false) ∧ s' = s ∧ c' = c ∧ j' = j ||| 2 ^ a.toInt.toNat) ∨
  (w.toInt = 12 ∧ s' = s ∧ c' = c ∧ j' = 0) ∨
  (w.toInt = 13 ∧ (0 ≤ a.toInt ∧ a.toInt ≤ 8) ∧ s' = s ∧ c' = c ∧ j' = j)
/-- the set j tells which shapes are held -/
def hR (f : Nat → Int32) (j : Nat) : Prop := j < 512 ∧ (∀ q : Nat, q < 9 → (j.testBit q = true ↔ hF f (q : Int))) ∧ pop9 j + fr f = 4
/-- what an item asks of the row -/
def itB (f : Nat → Int32) (w a : Int32) : Prop :=
  (0 ≤ w.toInt ∧ w.toInt ≤ 5 ∧ (f 0).toInt ≤ 8) ∨ (w.toInt = 10 ∧ (f 1).toInt ≤ 6) ∨ (w.toInt = 11 ∧ (0 ≤ a.toInt ∧ a.toInt ≤ 8) ∧ hF f (-1) ∧ ¬ hF f a.toInt) ∨ w.toInt = 12 ∨ (w.toInt = 13 ∧ (0 ≤ a.toInt ∧ a.toInt ≤ 8))
def sH (f g : Nat → Int32) : Prop := (g 30).toInt = (f 30).toInt ∧ (g 31).toInt = (f 31).toInt ∧ (g 32).toInt = (f 32).toInt ∧ (g 33).toInt = (f 33).toInt
/-- what an item does to the row -/
def itA (f g : Nat → Int32) (w a : Int32) : Prop :=
  (0 ≤ w.toInt ∧ w.toInt ≤ 5 ∧ (g 0).toInt = (f 0).toInt + 1 ∧ (g 1).toInt = (f 1).toInt ∧ sH f g) ∨
  (w.toInt = 10 ∧ (g 0).toInt = (f 0).toInt ∧ (g 1).toInt = (f 1).toInt + 1 ∧ sH f g) ∨
  (w.toInt = 11 ∧ (g 0).toInt = (f 0).toInt ∧ (g 1).toInt = (f 1).toInt ∧ hput f g a.toInt) ∨
  (w.toInt = 12 ∧ (g 0).toInt = (f 0).toInt ∧ (g 1).toInt = (f 1).toInt ∧ ((g 30).toInt = -1 ∧ (g 31).toInt = -1 ∧ (g 32).toInt = -1 ∧ (g 33).toInt = -1)) ∨
  (w.toInt = 13 ∧ (g 0).toInt = (f 0).toInt ∧ (g 1).toInt = (f 1).toInt ∧ sH f g)
theorem sH_F {f g : Nat → Int32} (h : sH f g) (x : Int) : hF g x ↔ hF f x := by
  obtain ⟨a, b, c, d⟩ := h
  unfold hF; rw [a, b, c, d]
theorem sH_fr {f g : Nat → Int32} (h : sH f g) : fr g = fr f := by
  obtain ⟨a, b, c, d⟩ := h
  unfold fr; rw [a, b, c, d]
theorem hR_same {f g : Nat → Int32} {j : Nat} (h : hR f j) (e : sH f g) : hR g j :=
  ⟨h.1, fun q hq => (h.2.1 q hq).trans (sH_F e _).symm, by rw [sH_fr e]; exact h.2.2⟩
theorem pop9_or : ∀ j, j < 512 → ∀ a, a < 9 → j.testBit a = false → (j ||| 2 ^ a) < 512 ∧ pop9 (j ||| 2 ^ a) = pop9 j + 1 := by decide +kernel
theorem hput_F {f g : Nat → Int32} {a x : Int} (h : hput f g a) (h0 : 0 ≤ x) : hF g x ↔ (hF f x ∨ x = a) := by
  unfold hput at h; unfold hF
  rcases h with h | h | h | h <;> (constructor <;> (intro; omega))
theorem hR_put {f g : Nat → Int32} {j : Nat} {a : Int} (h : hR f j) (p : hput f g a) (h0 : 0 ≤ a) (h1 : a ≤ 8) (b : j.testBit a.toNat = false) : hR g (j ||| 2 ^ a.toNat) := by
  obtain ⟨l, t, c⟩ := h
  obtain ⟨o1, o2⟩ := pop9_or j l a.toNat (by omega) b
  have hf := fr_put p h0
  refine ⟨o1, fun q hq => ?_, by omega⟩
  rw [hput_F p (by omega), Nat.testBit_or, Nat.testBit_two_pow, ← t q hq]
  constructor
  · intro z
    rcases Bool.or_eq_true _ _ ▸ z with z | z
    · exact Or.inl z
    · have := of_decide_eq_true z
      exact Or.inr (by omega)
  · intro z
    rcases z with z | z
    · rw [z]; rfl
    · have : decide (a.toNat = q) = true := decide_eq_true (by omega)
      rw [this, Bool.or_true]
theorem hR_drop {g : Nat → Int32} (h : (g 30).toInt = -1 ∧ (g 31).toInt = -1 ∧ (g 32).toInt = -1 ∧ (g 33).toInt = -1) : hR g 0 := by
  obtain ⟨a, b, c, d⟩ := h
  refine ⟨by decide, fun q _ => ?_, ?_⟩
  · rw [Nat.zero_testBit]; unfold hF; rw [a, b, c, d]
    constructor
    · intro z; exact absurd z (by decide)
    · intro z; omega
  · unfold fr; rw [a, b, c, d]; decide
theorem fr_1 {f : Nat → Int32} (hI : mI f) (h : 1 ≤ fr f) : hF f (-1) := by
  obtain ⟨_, _, ⟨c0, c1, c2, c3⟩, _⟩ := hI
  refine Classical.byContradiction fun z => ?_
  unfold hF at z
  unfold fr at h
  rw [fr1_p (by omega), fr1_p (by omega), fr1_p (by omega), fr1_p (by omega)] at h
  omega
theorem it_B {f : Nat → Int32} {w a : Int32} {s c s' c' : Int} {j j' : Nat} (h : it_ok w a s c j s' c' j') (hs : s = (f 0).toInt) (hc : c = (f 1).toInt) (hr : hR f j) (hI : mI f) : itB f w a := by
  subst hs hc
  rcases h with h | h | h | h | h
  · exact Or.inl ⟨h.1, h.2.1, h.2.2.1⟩
  · exact Or.inr (Or.inl ⟨h.1, h.2.1⟩)
  · obtain ⟨h1, h2, ⟨h3, h4, h5⟩, _⟩ := h
    refine Or.inr (Or.inr (Or.inl ⟨h1, h2, fr_1 hI (by have := hr.2.2; omega), fun z => ?_⟩))
    have e : ((a.toInt.toNat : Nat) : Int) = a.toInt := by omega
    have := (hr.2.1 a.toInt.toNat (by omega)).mpr (by rw [e]; exact z)
    rw [this] at h5; exact absurd h5 (by decide)
  · exact Or.inr (Or.inr (Or.inr (Or.inl h.1)))
  · exact Or.inr (Or.inr (Or.inr (Or.inr ⟨h.1, h.2.1⟩)))
theorem it_A {f g : Nat → Int32} {w a : Int32} {s c s' c' : Int} {j j' : Nat} (h : it_ok w a s c j s' c' j') (hs : s = (f 0).toInt) (hc : c = (f 1).toInt) (hr : hR f j) (k : itA f g w a) : s' = (g 0).toInt ∧ c' = (g 1).toInt ∧ hR g j' := by
  subst hs hc
  unfold itA at k
  rcases h with h | h | h | h | h
  · obtain ⟨h1, h2, h3, h4, h5, rfl⟩ := h
    rcases k with k | k | k | k | k
    · exact ⟨by omega, by omega, hR_same hr k.2.2.2.2⟩
    all_goals omega
  · obtain ⟨h1, h2, h3, h4, rfl⟩ := h
    rcases k with k | k | k | k | k
    · omega
    · exact ⟨by omega, by omega, hR_same hr k.2.2.2⟩
    all_goals omega
  · obtain ⟨h1, h2, ⟨h3, h4, h5⟩, h6, h7, rfl⟩ := h
    rcases k with k | k | k | k | k
    · omega
    · omega
    · exact ⟨by omega, by omega, hR_put hr k.2.2.2 h2.1 h2.2 h5⟩
    all_goals omega
  · obtain ⟨h1, h2, h3, rfl⟩ := h
    rcases k with k | k | k | k | k
    · omega
    · omega
    · omega
    · exact ⟨by omega, by omega, hR_drop k.2.2.2⟩
    · omega
  · obtain ⟨h1, h2, h3, h4, rfl⟩ := h
    rcases k with k | k | k | k | k
    · omega
    · omega
    · omega
    · omega
    · exact ⟨by omega, by omega, hR_same hr k.2.2.2⟩
/-- the items read so far may be done one after another -/
def RD (yf : Nat → Int32) (n : Nat) (f : Nat → Int32) (s c : Int) (j : Nat) : Prop := ∃ (S C : Nat → Int) (M : Nat → Nat), (S 0 = (f 0).toInt ∧ C 0 = (f 1).toInt ∧ hR f (M 0)) ∧ (∀ i, i < n → it_ok (yf (3 * i)) (yf (3 * i + 1)) (S i) (C i) (M i) (S (i + 1)) (C (i + 1)) (M (i + 1))) ∧ S n = s ∧ C n = c ∧ M n = j
/-- one item more was read -/
def RI (yf yg : Nat → Int32) (n : Nat) (s c : Int) (j : Nat) (s' c' : Int) (j' : Nat) : Prop := (∀ i, i < 3 * n → yg i = yf i) ∧ it_ok (yg (3 * n)) (yg (3 * n + 1)) s c j s' c' j'
theorem RI_mk {yf yg : Nat → Int32} {n : Nat} {w a : Int32} {s c s' c' : Int} {j j' : Nat} (h : itP yf yg n w a) (k : it_ok w a s c j s' c' j') : RI yf yg n s c j s' c' j' := ⟨h.1, by rw [h.2.1, h.2.2]; exact k⟩
theorem RD_0 {yf f : Nat → Int32} {j : Nat} {s c : Int} (hs : (f 0).toInt = s) (hc : (f 1).toInt = c) (h : hR f j) : RD yf 0 f s c j := ⟨fun _ => s, fun _ => c, fun _ => j, ⟨hs.symm, hc.symm, h⟩, fun i hi => absurd hi (Nat.not_lt_zero _), rfl, rfl, rfl⟩
theorem RD_s {yf yg f : Nat → Int32} {n m : Nat} {s c s' c' : Int} {j j' : Nat} (h : RD yf n f s c j) (k : RI yf yg n s c j s' c' j') (hm : m = n + 1) : RD yg m f s' c' j' := by
  subst hm
  obtain ⟨S, C, M, ⟨a1, a2, a3⟩, b, e1, e2, e3⟩ := h
  refine ⟨fun i => if i ≤ n then S i else s', fun i => if i ≤ n then C i else c', fun i => if i ≤ n then M i else j', ⟨by simpa using a1, by simpa using a2, by simpa using a3⟩, fun i hi => ?_, (if_neg (by omega) : (if n + 1 ≤ n then S (n + 1) else s') = s'), (if_neg (by omega) : (if n + 1 ≤ n then C (n + 1) else c') = c'), (if_neg (by omega) : (if n + 1 ≤ n then M (n + 1) else j') = j')⟩
  by_cases q : i < n
  · have b' := b i q
    have h1 : i ≤ n := by omega
    have h2 : i + 1 ≤ n := by omega
    simp only [if_pos h1, if_pos h2]
    rw [k.1 _ (by omega), k.1 _ (by omega)]
    exact b'
  · have h1 : i = n := by omega
    subst h1
    have h2 : ¬ i + 1 ≤ i := by omega
    simp only [if_pos (Nat.le_refl i), if_neg h2]
    rw [e1, e2, e3]
    exact k.2
/-- the items from k on may be done on the row f -/
def AP (yf : Nat → Int32) (n : Nat) (f : Nat → Int32) (k : Nat) : Prop := ∃ (S C : Nat → Int) (M : Nat → Nat), (∀ i, i < n → it_ok (yf (3 * i)) (yf (3 * i + 1)) (S i) (C i) (M i) (S (i + 1)) (C (i + 1)) (M (i + 1))) ∧ S k = (f 0).toInt ∧ C k = (f 1).toInt ∧ hR f (M k)
theorem AP_0 {yf f : Nat → Int32} {n : Nat} {s c : Int} {j : Nat} (h : RD yf n f s c j) : AP yf n f 0 := by
  obtain ⟨S, C, M, ⟨a1, a2, a3⟩, b, _⟩ := h
  exact ⟨S, C, M, b, a1, a2, a3⟩
theorem AP_b {yf f : Nat → Int32} {n k : Nat} (h : AP yf n f k) (hk : k < n) (hI : mI f) : itB f (yf (3 * k)) (yf (3 * k + 1)) := by
  obtain ⟨S, C, M, b, e1, e2, e3⟩ := h
  exact it_B (b k hk) e1 e2 e3 hI
theorem AP_s {yf f g : Nat → Int32} {n k m : Nat} (h : AP yf n f k) (hk : k < n) (a : itA f g (yf (3 * k)) (yf (3 * k + 1))) (hm : m = k + 1) : AP yf n g m := by
  subst hm
  obtain ⟨S, C, M, b, e1, e2, e3⟩ := h
  obtain ⟨q1, q2, q3⟩ := it_A (b k hk) e1 e2 e3 a
  exact ⟨S, C, M, b, q1, q2, q3⟩
/-- the first n HOLDS as a set -/
def cntH (f : Nat → Int32) : Nat → Nat
  | 0 => 0
  | n + 1 => cntH f n + (1 - fr1 (f (30 + n)).toInt)
def HH (f : Nat → Int32) (n : Nat) (j : Nat) : Prop := j < 512 ∧ (∀ q : Nat, q < 9 → (j.testBit q = true ↔ ∃ k, k < n ∧ (f (30 + k)).toInt = (q : Int))) ∧ pop9 j = cntH f n
theorem HH_0 (f : Nat → Int32) : HH f 0 0 := by
  refine ⟨by decide, fun q _ => ⟨fun z => ?_, fun z => ?_⟩, rfl⟩
  · rw [Nat.zero_testBit] at z; exact absurd z (by decide)
  · obtain ⟨k, hk, _⟩ := z; omega
theorem HH_neg {f : Nat → Int32} {n j : Nat} (h : HH f n j) (h0 : (f (30 + n)).toInt < 0) : HH f (n + 1) j := by
  obtain ⟨a, b, c⟩ := h
  refine ⟨a, fun q hq => (b q hq).trans ⟨fun z => ?_, fun z => ?_⟩, ?_⟩
  · obtain ⟨k, hk, e⟩ := z; exact ⟨k, by omega, e⟩
  · obtain ⟨k, hk, e⟩ := z
    by_cases q1 : k = n
    · subst q1; omega
    · exact ⟨k, by omega, e⟩
  · show pop9 j = cntH f n + (1 - fr1 (f (30 + n)).toInt)
    rw [fr1_n h0]; omega
theorem mI_d {f : Nat → Int32} (h : mI f) {i j : Nat} (h1 : i < j) (h2 : j < 4) (e : (f (30 + i)).toInt = (f (30 + j)).toInt) : (f (30 + i)).toInt = -1 := by
  obtain ⟨_, _, _, d0, d1, d2, d3, d4, d5⟩ := h
  have : (i = 0 ∧ j = 1) ∨ (i = 0 ∧ j = 2) ∨ (i = 0 ∧ j = 3) ∨ (i = 1 ∧ j = 2) ∨ (i = 1 ∧ j = 3) ∨ (i = 2 ∧ j = 3) := by omega
  rcases this with ⟨rfl, rfl⟩ | ⟨rfl, rfl⟩ | ⟨rfl, rfl⟩ | ⟨rfl, rfl⟩ | ⟨rfl, rfl⟩ | ⟨rfl, rfl⟩
  · exact d0 e
  · exact d1 e
  · exact d2 e
  · exact d3 e
  · exact d4 e
  · exact d5 e
theorem HH_pos {f : Nat → Int32} {n j : Nat} (hI : mI f) (hn : n < 4) (h : HH f n j) (h0 : 0 ≤ (f (30 + n)).toInt) (h8 : (f (30 + n)).toInt ≤ 8) : HH f (n + 1) (j ||| 2 ^ (f (30 + n)).toInt.toNat) := by
  obtain ⟨a, b, c⟩ := h
  have e0 : (((f (30 + n)).toInt.toNat : Nat) : Int) = (f (30 + n)).toInt := by omega
  have t : j.testBit (f (30 + n)).toInt.toNat = false := by
    cases hz : j.testBit (f (30 + n)).toInt.toNat with
    | false => rfl
    | true =>
      obtain ⟨k, hk, e⟩ := (b _ (by omega)).mp hz
      rw [e0] at e
      have := mI_d hI hk hn e
      omega
  obtain ⟨o1, o2⟩ := pop9_or j a _ (by omega) t
  refine ⟨o1, fun q hq => ?_, ?_⟩
  · rw [Nat.testBit_or, Nat.testBit_two_pow, Bool.or_eq_true, b q hq]
    constructor
    · intro z
      rcases z with ⟨k, hk, e⟩ | z
      · exact ⟨k, by omega, e⟩
      · have := of_decide_eq_true z
        exact ⟨n, by omega, by omega⟩
    · intro z
      obtain ⟨k, hk, e⟩ := z
      by_cases q1 : k = n
      · subst q1; exact Or.inr (decide_eq_true (by omega))
      · exact Or.inl ⟨k, by omega, e⟩
  · rw [o2, c]
    show _ = cntH f n + (1 - fr1 (f (30 + n)).toInt)
    rw [fr1_p h0]
theorem HH_e {f : Nat → Int32} {j : Nat} (h : HH f 4 j) : hR f j := by
  obtain ⟨a, b, c⟩ := h
  refine ⟨a, fun q hq => (b q hq).trans ⟨fun z => ?_, fun z => ?_⟩, ?_⟩
  · obtain ⟨k, hk, e⟩ := z
    have : k = 0 ∨ k = 1 ∨ k = 2 ∨ k = 3 := by omega
    unfold hF
    rcases this with rfl | rfl | rfl | rfl
    · exact Or.inl e
    · exact Or.inr (Or.inl e)
    · exact Or.inr (Or.inr (Or.inl e))
    · exact Or.inr (Or.inr (Or.inr e))
  · unfold hF at z
    rcases z with z | z | z | z
    · exact ⟨0, by decide, z⟩
    · exact ⟨1, by decide, z⟩
    · exact ⟨2, by decide, z⟩
    · exact ⟨3, by decide, z⟩
  · have hl : ∀ x : Int, fr1 x ≤ 1 := fun x => by unfold fr1; split <;> omega
    have h0 := hl (f 30).toInt
    have h1 := hl (f 31).toInt
    have h2 := hl (f 32).toInt
    have h3 := hl (f 33).toInt
    have e : cntH f 4 = 0 + (1 - fr1 (f 30).toInt) + (1 - fr1 (f 31).toInt) + (1 - fr1 (f 32).toInt) + (1 - fr1 (f 33).toInt) := rfl
    rw [c, e]; unfold fr; omega
theorem mk_or : ∀ a, a < 512 → ∀ b, b < 9 → (nI a ||| (1 <<< (nI b &&& 31))).toInt = ((a ||| 2 ^ b : Nat) : Int) ∧ (a ||| 2 ^ b) < 512 := by decide +kernel
theorem mk_set {x v n m1 : Int32} (e1 : m1 = 1 <<< (v &&& 31)) (e : n = x ||| m1) (h0 : 0 ≤ x.toInt) (h1 : x.toInt ≤ 511) (v0 : 0 ≤ v.toInt) (v1 : v.toInt ≤ 8) : (0 ≤ n.toInt ∧ n.toInt ≤ 511) ∧ n.toInt.toNat = (x.toInt.toNat ||| 2 ^ v.toInt.toNat) := by
  obtain ⟨a, ha, rfl⟩ := pp_nat (n := 512) h0 (by omega)
  obtain ⟨b, hb, rfl⟩ := pp_nat (n := 9) v0 (by omega)
  obtain ⟨q1, q2⟩ := mk_or a ha b hb
  have ea : (nI a).toInt.toNat = a := by rw [nI_toInt (by omega)]; omega
  have eb : (nI b).toInt.toNat = b := by rw [nI_toInt (by omega)]; omega
  subst e1 e
  rw [q1, ea, eb]; omega
theorem mk_bit_n : ∀ a, a < 512 → ∀ b, b < 9 → ((nI a >>> (nI b &&& 31)) &&& 1 = 0 ↔ a.testBit b = false) := by decide +kernel
theorem mk_bit {x v n m1 : Int32} (e1 : m1 = x >>> (v &&& 31)) (e : n = m1 &&& 1) (h0 : 0 ≤ x.toInt) (h1 : x.toInt ≤ 511) (v0 : 0 ≤ v.toInt) (v1 : v.toInt ≤ 8) : n.toInt = 0 → x.toInt.toNat.testBit v.toInt.toNat = false := by
  obtain ⟨a, ha, rfl⟩ := pp_nat (n := 512) h0 (by omega)
  obtain ⟨b, hb, rfl⟩ := pp_nat (n := 9) v0 (by omega)
  have ea : (nI a).toInt.toNat = a := by rw [nI_toInt (by omega)]; omega
  have eb : (nI b).toInt.toNat = b := by rw [nI_toInt (by omega)]; omega
  intro z
  rw [ea, eb]
  refine (mk_bit_n a ha b hb).mp ?_
  subst e1 e
  exact Int32.toInt_inj.mp z
theorem mk_64_n : ∀ a, a < 512 → (nI a).toInt64.toBitVec.toNat = a := by decide +kernel
theorem mk_64 {x : Int32} {n : Int64} (e : n = x.toInt64) (h0 : 0 ≤ x.toInt) (h1 : x.toInt ≤ 511) : n.toBitVec.toNat = x.toInt.toNat := by
  obtain ⟨a, ha, rfl⟩ := pp_nat (n := 512) h0 (by omega)
  rw [e, mk_64_n a ha, nI_toInt (by omega)]; omega
theorem HH_step {f : Nat → Int32} {n x v v' : Int32} {j : Nat} (h : HH f v.toInt.toNat j) (e : n = f x.toNatClampNeg) (hx : x.toInt = 30 + v.toInt) (h0 : 0 ≤ v.toInt) (hv : v'.toInt = v.toInt + 1) (hn : n.toInt < 0) : HH f v'.toInt.toNat j := by
  have c := pp_cl (x := x) (by omega)
  have e1 : x.toNatClampNeg = 30 + v.toInt.toNat := by omega
  have e2 : v'.toInt.toNat = v.toInt.toNat + 1 := by omega
  rw [e1] at e; rw [e] at hn
  rw [e2]; exact HH_neg h hn
theorem HH_step2 {f : Nat → Int32} {n x v v' : Int32} {j j' : Nat} (hI : mI f) (h : HH f v.toInt.toNat j) (e : n = f x.toNatClampNeg) (hx : x.toInt = 30 + v.toInt) (h0 : 0 ≤ v.toInt) (h3 : v.toInt ≤ 3) (hv : v'.toInt = v.toInt + 1) (hn : 0 ≤ n.toInt) (h8 : n.toInt ≤ 8) (hj : j' = j ||| 2 ^ n.toInt.toNat) : HH f v'.toInt.toNat j' := by
  have c := pp_cl (x := x) (by omega)
  have e1 : x.toNatClampNeg = 30 + v.toInt.toNat := by omega
  have e2 : v'.toInt.toNat = v.toInt.toNat + 1 := by omega
  rw [e1] at e
  rw [e2, hj, e]; rw [e] at hn h8
  exact HH_pos hI (by omega) h hn h8
theorem it_ok11 {a : Int32} {s c : Int} {j j' : Nat} (h0 : 0 ≤ a.toInt) (h1 : a.toInt ≤ 8) (hj : j < 512) (hp : pop9 j < 4) (ht : j.testBit a.toInt.toNat = false) (he : j' = j ||| 2 ^ a.toInt.toNat) : it_ok 11 a s c j s c j' := Or.inr (Or.inr (Or.inl ⟨by decide, ⟨h0, h1⟩, ⟨hj, hp, ht⟩, rfl, rfl, he⟩))
theorem rd_at {f : Nat → Int32} {x n : Int32} {j : Nat} (e : n = f x.toNatClampNeg) (h : x.toInt = (j : Int)) : n = f j := by
  have c := pp_cl (x := x) (by omega)
  have q : x.toNatClampNeg = j := by omega
  rw [q] at e; exact e
theorem itB_10 {f : Nat → Int32} {w a : Int32} (h : itB f w a) (hw : w.toInt = 10) : (f 1).toInt ≤ 6 := by
  rcases h with h | h | h | h | h <;> omega
theorem itB_11 {f : Nat → Int32} {w a : Int32} (h : itB f w a) (hw : w.toInt = 11) : (0 ≤ a.toInt ∧ a.toInt ≤ 8) ∧ hF f (-1) ∧ ¬ hF f a.toInt := by
  rcases h with h | h | h | h | h
  · omega
  · omega
  · exact h.2
  · omega
  · omega
theorem itB_13 {f : Nat → Int32} {w a : Int32} (h : itB f w a) (hw : w.toInt = 13) : 0 ≤ a.toInt ∧ a.toInt ≤ 8 := by
  rcases h with h | h | h | h | h <;> omega
theorem itB_d {f : Nat → Int32} {w a : Int32} (h : itB f w a) (h0 : ¬ w.toInt = 10) (h1 : ¬ w.toInt = 11) (h2 : ¬ w.toInt = 12) (h3 : ¬ w.toInt = 13) : (0 ≤ w.toInt ∧ w.toInt ≤ 5) ∧ (f 0).toInt ≤ 8 := by
  rcases h with h | h | h | h | h <;> omega

theorem pp_or0 {x n : Int32} (e : n = x ||| 0) : n = x := by
  rw [e]; exact Int32.or_zero
theorem rd_same {f : Nat → Int32} {x y n m : Int32} (e : n = f x.toNatClampNeg) (e2 : m = f y.toNatClampNeg) (h : x.toInt = y.toInt) : n.toInt = m.toInt := by
  rw [e, e2, Int32.toInt_inj.mp h]

