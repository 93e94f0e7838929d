
theorem sx_ld {xs : Nat → Int32} {x i a : Int32} {k : Nat} (h : xs (i.toNatClampNeg + k) = a) (t : x.toInt = i.toInt + (k : Int)) (h0 : 0 ≤ i.toInt) : xs x.toNatClampNeg = a := by
  have c1 := pp_cl h0
  have c2 := pp_cl (x := x) (by omega)
  have e : x.toNatClampNeg = i.toNatClampNeg + k := by omega
  rw [e]; exact h
/-- what stands all through the law -/
def lawC (p : Program) (s : State) (m : MethodId) (meth : Method) (c : Code) (b L : Nat) (xs : Nat → Int32) (A : Nat → Prop) (ad : Nat → Nat) : Prop :=
  p.tables.exec = Jvm.exec ∧ c.code = code ∧ meth.sig.returnType = ret ∧ c.maxLocals = 4 ∧ s.vm.findClass RL = some m.cls ∧ (∀ w ∈ w_law, w.before #[Value.ref b] s = true) ∧ va_X b L xs s s.heap ∧ b < s.heap.size ∧ meth.locks = false ∧ (∀ q : Nat, s.heap.size ≤ q → A q) ∧ (∀ q : Nat, A q → s.heap.size ≤ q) ∧ ¬ A b ∧ ev ad s ∧ sf ad A s s.heap
/-- the cells of both objects -/
def WLD (q : Nat → Nat) (cq : Nat → ClassId) (pf jf : Nat → Option Nat) (uu : Nat → Int32) (ff : Nat → Nat → Int32) (gl : Nat → Nat → Int64) (d1 : Int64) : va_W := [((q 0), .inr (6, [.ref (q 1), .ref (q 7), .ref (q 13), .ref (q 14), .ref (q 17), .ref (q 26), .ref (q 27), .int (uu 0)])), ((q 1), .inr (4, [.int (uu 1), .ref (q 2), .ref (q 3), .int (uu 2), .ref (q 4), .ref (q 5), .int (uu 3), .ref (q 6), .int (uu 4)])), ((q 2), .inl ((cq 0), 9, .inl (ff 0))), ((q 3), .inl ((cq 1), 9, .inl (ff 1))), ((q 4), .inl ((cq 2), 4, .inl (ff 2))), ((q 5), .inl ((cq 3), 4, .inl (ff 3))), ((q 6), .inl ((cq 4), 7, .inr (.inl (gl 0)))), ((q 7), .inr (4, [.int (uu 5), .ref (q 8), .ref (q 9), .int (uu 6), .ref (q 10), .ref (q 11), .int (uu 7), .ref (q 12), .int (uu 8)])), ((q 8), .inl ((cq 5), 9, .inl (ff 4))), ((q 9), .inl ((cq 6), 9, .inl (ff 5))), ((q 10), .inl ((cq 7), 4, .inl (ff 6))), ((q 11), .inl ((cq 8), 4, .inl (ff 7))), ((q 12), .inl ((cq 9), 7, .inr (.inl (gl 1)))), ((q 13), .inr (3, [.int (uu 9), .int (uu 10)])), ((q 14), .inr (1, [.int (uu 11), .ref (q 15), .ref (q 16)])), ((q 15), .inl ((cq 10), 6, .inl (ff 8))), ((q 16), .inl ((cq 11), 384, .inl (ff 9))), ((q 17), .inr (2, [.ref (q 18), .ref (q 20), .int (uu 12), .int (uu 13), .int (uu 14), .long d1])), ((q 18), .inr (5, [.int (uu 15), .ref (q 19)])), ((q 19), .inl ((cq 12), 120, .inl (ff 10))), ((q 20), .inr (4, [.int (uu 16), .ref (q 21), .ref (q 22), .int (uu 17), .ref (q 23), .ref (q 24), .int (uu 18), .ref (q 25), .int (uu 19)])), ((q 21), .inl ((cq 13), 9, .inl (ff 11))), ((q 22), .inl ((cq 14), 9, .inl (ff 12))), ((q 23), .inl ((cq 15), 4, .inl (ff 13))), ((q 24), .inl ((cq 16), 4, .inl (ff 14))), ((q 25), .inl ((cq 17), 7, .inr (.inl (gl 2)))), ((q 26), .inl ((cq 18), 4, .inr (.inr (.inr (.inr pf))))), ((q 27), .inl ((cq 19), 7, .inl (ff 15))), ((q 28), .inr (0, [.int (uu 20), .int (uu 21), .ref (q 29)])), ((q 29), .inl ((cq 20), 40, .inr (.inl (gl 3)))), ((q 30), .inr (0, [.int (uu 22), .int (uu 23), .ref (q 31)])), ((q 31), .inl ((cq 21), 40, .inr (.inl (gl 4)))), ((q 32), .inr (0, [.int (uu 24), .int (uu 25), .ref (q 33)])), ((q 33), .inl ((cq 22), 40, .inr (.inl (gl 5)))), ((q 34), .inr (0, [.int (uu 26), .int (uu 27), .ref (q 35)])), ((q 35), .inl ((cq 23), 40, .inr (.inl (gl 6)))), ((q 36), .inr (7, [.ref (q 37), .ref (q 38), .ref (q 39), .ref (q 40), .int (uu 28), .ref (q 41), .int (uu 29), .ref (q 42), .ref (q 43), .int (uu 30), .ref (q 44), .int (uu 31), .int (uu 32), .int (uu 33), .int (uu 34), .int (uu 35), .int (uu 36), .ref (q 45), .ref (q 46), .ref (q 47), .int (uu 37), .int (uu 38), .int (uu 39), .int (uu 40), .ref (q 48), .ref (q 49), .ref (q 50), .ref (q 51)])), ((q 37), .inl ((cq 24), 38, .inl (ff 16))), ((q 38), .inl ((cq 25), 38, .inl (ff 17))), ((q 39), .inl ((cq 26), 7, .inr (.inl (gl 7)))), ((q 40), .inl ((cq 27), 7, .inr (.inl (gl 8)))), ((q 41), .inl ((cq 28), 8, .inl (ff 18))), ((q 42), .inl ((cq 29), 7, .inl (ff 19))), ((q 43), .inl ((cq 30), 7, .inl (ff 20))), ((q 44), .inl ((cq 31), 120, .inl (ff 21))), ((q 45), .inl ((cq 32), 6, .inr (.inr (.inr (.inr jf))))), ((q 46), .inl ((cq 33), 360, .inl (ff 22))), ((q 47), .inl ((cq 34), 120, .inr (.inl (gl 9)))), ((q 48), .inl ((cq 35), 4, .inl (ff 23))), ((q 49), .inl ((cq 36), 4, .inl (ff 24))), ((q 50), .inl ((cq 37), 160, .inr (.inl (gl 10)))), ((q 51), .inl ((cq 38), 40, .inr (.inl (gl 11))))]
/-- the types of their rows -/
def WTY (cq : Nat → ClassId) : List (ClassId × FieldType) := [((cq 0), .int), ((cq 1), .int), ((cq 2), .int), ((cq 3), .int), ((cq 4), .long), ((cq 5), .int), ((cq 6), .int), ((cq 7), .int), ((cq 8), .int), ((cq 9), .long), ((cq 10), .int), ((cq 11), .int), ((cq 12), .int), ((cq 13), .int), ((cq 14), .int), ((cq 15), .int), ((cq 16), .int), ((cq 17), .long), ((cq 18), .object "LampShapes$Paper"), ((cq 19), .int), ((cq 20), .long), ((cq 21), .long), ((cq 22), .long), ((cq 23), .long), ((cq 24), .int), ((cq 25), .int), ((cq 26), .long), ((cq 27), .long), ((cq 28), .int), ((cq 29), .int), ((cq 30), .int), ((cq 31), .int), ((cq 32), .object "java/lang/String"), ((cq 33), .int), ((cq 34), .long), ((cq 35), .int), ((cq 36), .int), ((cq 37), .long), ((cq 38), .long)]
/-- what class and reference have in common, and what keeps them in bounds -/
abbrev lawJ (uu : Nat → Int32) (ff : Nat → Nat → Int32) : Prop := (0 ≤ (uu 1).toInt ∧ (uu 1).toInt ≤ 9) ∧ (0 ≤ (uu 3).toInt ∧ (uu 3).toInt ≤ 7) ∧ (0 ≤ (uu 5).toInt ∧ (uu 5).toInt ≤ 9) ∧ (0 ≤ (uu 7).toInt ∧ (uu 7).toInt ≤ 7) ∧ (0 ≤ (uu 15).toInt ∧ (uu 15).toInt ≤ 120) ∧ (0 ≤ (uu 21).toInt ∧ (uu 21).toInt ≤ 40) ∧ (0 ≤ (uu 23).toInt ∧ (uu 23).toInt ≤ 40) ∧ (0 ≤ (uu 25).toInt ∧ (uu 25).toInt ≤ 40) ∧ (0 ≤ (uu 27).toInt ∧ (uu 27).toInt ≤ 40) ∧ (mI (ff 16)) ∧ ((uu 28).toInt = 0 ∨ mI (ff 17)) ∧ (((ff 16) 2).toInt = (uu 4).toInt) ∧ ((uu 28).toInt = 0 ∨ ((ff 17) 2).toInt = (uu 8).toInt) ∧ ((uu 0).toInt = 0 ↔ (uu 28).toInt = 0) ∧ ((uu 31).toInt = (uu 15).toInt) ∧ (((ff 23) 0).toInt = (uu 20).toInt) ∧ (((ff 23) 1).toInt = (uu 22).toInt) ∧ (((ff 23) 2).toInt = (uu 24).toInt) ∧ (((ff 23) 3).toInt = (uu 26).toInt) ∧ (((ff 24) 0).toInt = (uu 21).toInt) ∧ (((ff 24) 1).toInt = (uu 23).toInt) ∧ (((ff 24) 2).toInt = (uu 25).toInt) ∧ (((ff 24) 3).toInt = (uu 27).toInt)
/-- the way on behind a call -/
def lawK (p : Program) (l : Launch) (e : Env) (s : State) (m : MethodId) (below : List Frame) (meth : Method) (c : Code) (b : Nat) (A : Nat → Prop) (dC : Nat → ClassId) (dI : Nat → Nat → Nat) (q : Nat → Nat) (cq : Nat → ClassId) (pf jf : Nat → Option Nat) (i : Int32) : Prop :=
  ∀ (uu : Nat → Int32) (ff : Nat → Nat → Int32) (gl : Nat → Nat → Int64) (d1 : Int64) (H : Heap) (locs : List Loc) (ls : Array Slot), lawJ uu ff → va_P (dC, dI) vwCl (WLD q cq pf jf uu ff gl d1) H → va_D A (WLD q cq pf jf uu ff gl d1) → va_S A s.heap H locs → lv_has ls 4 [(3, .int i), (2, .ref (q 36)), (1, .ref (q 0)), (0, .ref b)] → W p l e room_1 s m #[Value.ref b] below meth c H locs 52 1794 (lw_Z below #[Value.ref b] s) (F0 m 1452 ls [])
theorem fl_same {G : Prop} {x m r r' B Z B' Z' : Int} (h : (G → (B = 0 → r = m) ∧ (¬ B = 0 → (Z < 8 → r = Z) ∧ (8 ≤ Z → r = 8))) ∧ (¬ G → r = x)) (h' : (G → (B' = 0 → r' = m) ∧ (¬ B' = 0 → (Z' < 8 → r' = Z') ∧ (8 ≤ Z' → r' = 8))) ∧ (¬ G → r' = x)) (eb : G → B' = B) (ez : G → Z' = Z) : r = r' := by
  by_cases g : G
  · have h1 := h.1 g
    have h2 := h'.1 g
    rw [eb g, ez g] at h2
    clear h h' eb ez
    omega
  · rw [h.2 g, h'.2 g]
theorem sh_z {C : Prop} {b' z' bb n b0 z0 : Int} (h : (C → b' = bb ∧ ((bb = 0 → z' = 0) ∧ (¬ bb = 0 → z' = n))) ∧ (¬ C → b' = b0 ∧ z' = z0)) (hz : 0 ≤ z0 ∧ z0 ≤ 40) (hc : C → 0 ≤ n ∧ n ≤ 40) : 0 ≤ z' ∧ z' ≤ 40 := by
  by_cases c : C
  · obtain ⟨h1, h2, h3⟩ := h.1 c
    have h4 := hc c
    omega
  · have h1 := h.2 c
    omega
theorem sh_rel {C : Prop} {b' z' bb n b0 z0 wg zg wf zf : Int} (h : (C → b' = bb ∧ ((bb = 0 → z' = 0) ∧ (¬ bb = 0 → z' = n))) ∧ (¬ C → b' = b0 ∧ z' = z0)) (g : (C → wg = bb ∧ ((bb = 0 → zg = 0) ∧ (¬ bb = 0 → zg = n))) ∧ (¬ C → wg = wf ∧ zg = zf)) (j1 : wf = b0) (j2 : zf = z0) : wg = b' ∧ zg = z' := by
  by_cases c : C
  · obtain ⟨h1, h2, h3⟩ := h.1 c
    obtain ⟨g1, g2, g3⟩ := g.1 c
    omega
  · have h1 := h.2 c
    have g1 := g.2 c
    omega
theorem mI_fr {f : Nat → Int32} (h : ∀ j, j < 38 → f j = fr_n j) : mI f := by
  unfold mI
  rw [h 0 (by decide), h 1 (by decide), h 30 (by decide), h 31 (by decide), h 32 (by decide), h 33 (by decide)]
  decide

