
/-- the bytes of the String constants, by their places -/
def s_b : List (List Int32) := [[115, 104, 97, 112, 101], [116, 117, 114, 110, 101, 100], [109, 105, 114, 114, 111, 114, 101, 100], [104, 111, 108, 108, 111, 119], [100, 111, 117, 98, 108, 101], [102, 105, 108, 108, 101, 100], [115, 99, 101, 110, 101], [104, 111, 108, 100], [110, 101, 97, 114], [116, 117, 114, 110], [97, 116], [116, 111, 114, 110], [100, 114, 111, 112], [115, 104, 97, 112, 101], [116, 117, 114, 110, 101, 100], [109, 105, 114, 114, 111, 114, 101, 100], [104, 111, 108, 108, 111, 119], [100, 111, 117, 98, 108, 101], [102, 105, 108, 108, 101, 100], [115, 99, 101, 110, 101], [104, 111, 108, 100], [110, 101, 97, 114], [116, 117, 114, 110], [97, 116], [100, 114, 111, 112], [116, 111, 114, 110]]
def s_n (k : Nat) : Nat := (s_b.getD k []).length
def s_at (k j : Nat) : Int32 := (s_b.getD k []).getD j 0
theorem s_n_le : ∀ k, k < 26 → s_n k ≤ 8 := by decide +kernel
/-- what the String constants at the places ad are, and that nobody writes them -/
def sf (ad : Nat → Nat) (A : Nat → Prop) (U : State) (H : Heap) : Prop :=
  (va_Z "java/lang/String" "COMPACT_STRINGS" "Z" (.int 1) A U H ∧ va_Zq "jdk/internal/util/Preconditions" "SIOOBE_FORMATTER" "Ljava/util/function/BiFunction;" A U H) ∧ ∀ k, k < 26 → va_O "java/lang/String" (ad k) A U H ∧ va_OF "java/lang/String" "coder" "B" (.int 0) (ad k) A U H ∧ ∃ v : Nat, va_OF "java/lang/String" "value" "[B" (.ref v) (ad k) A U H ∧ va_T .byte v (s_n k) (fun j => .int (s_at k j)) A U H
theorem sf_at {ad : Nat → Nat} {A B : Nat → Prop} {s U : State} {H : Heap} {locs : List Loc} (h : sf ad A s s.heap) (hS : va_S A s.heap H locs) (hAB : ∀ q, B q → A q) (hU : U.heap = H) (hW : s.WarmedH U.vm) : sf ad B U U.heap := by
  rw [hU]
  have hq : ∀ a : Nat, a < s.heap.size → ¬ A a → H[a]? = s.heap[a]? := fun a h1 h2 => hS.2.1 a h1 h2
  refine ⟨⟨va_Z.moved hW.alike ((h.1.1.kept hq).narrow hAB), va_Zq.moved hW.alike ((h.1.2.kept hq).narrow hAB)⟩, fun k hk => ?_⟩
  obtain ⟨h1, h2, v, h3, h4⟩ := h.2 k hk
  exact ⟨va_O.moved hW.alike ((h1.kept hq).narrow hAB), va_OF.moved hW.alike ((h2.kept hq).narrow hAB), v, va_OF.moved hW.alike ((h3.kept hq).narrow hAB), va_T.moved hW.alike ((h4.kept hq).narrow hAB)⟩
theorem sf_same {ad : Nat → Nat} {A : Nat → Prop} {u U : State} {H : Heap} (hv : u.vm.Alike U.vm) (h : sf ad A u H) : sf ad A U H := by
  refine ⟨⟨va_Z.moved hv h.1.1, va_Zq.moved hv h.1.2⟩, fun k hk => ?_⟩
  obtain ⟨h1, h2, v, h3, h4⟩ := h.2 k hk
  exact ⟨va_O.moved hv h1, va_OF.moved hv h2, v, va_OF.moved hv h3, va_T.moved hv h4⟩
theorem sf_recv {ad : Nat → Nat} {A : Nat → Prop} {s : State} {H : Heap} {locs : List Loc} (h : sf ad A s s.heap) (hS : va_S A s.heap H locs) (k : Nat) (hk : k < 26) : ∃ cell : Cell, H[ad k]? = some cell ∧ cell.vm.isStatics = false ∧ s.vm.findClass "java/lang/String" = some cell.cls := by
  obtain ⟨cell, h1, h2, h3, h4⟩ := (h.2 k hk).1
  exact ⟨cell, by rw [hS.2.1 _ (Array.getElem?_eq_some_iff.mp h1).1 h4]; exact h1, h2, h3⟩
theorem sf_any {ad : Nat → Nat} {A : Nat → Prop} {s : State} {H : Heap} {locs : List Loc} (h : sf ad A s s.heap) (hS : va_S A s.heap H locs) (k : Nat) (hk : k < 26) : va_Any "java/lang/String" s H (ad k) := by
  obtain ⟨cell, h1, h2, h3⟩ := sf_recv h hS k hk
  obtain ⟨kC, hkC, -⟩ := Vm.findClass_spec h3
  refine ⟨cell, h1, h2, ⟨kC, hkC⟩, fun comp hc => ?_⟩
  rw [h3] at hc
  cases hc
  exact va_asg _ _
/-- the two forms of a start, with the Strings -/
def preST (dC : Nat → ClassId) (dI : Nat → Nat → Nat) (ad : Nat → Nat) (tys : List (ClassId × FieldType)) (ws : va_W) (U : State) : Prop := preS dC dI ad tys ws U ∧ sf ad (fun _ => False) U U.heap
def preT (dC : Nat → ClassId) (dI : Nat → Nat → Nat) (ad : Nat → Nat) (tys : List (ClassId × FieldType)) (ws : va_W) (sz : Nat) (U : State) : Prop := preM dC dI ad tys ws sz U ∧ sf ad (va_A ws sz) U U.heap
theorem preST_blind {av : List Value} {dC : Nat → ClassId} {dI : Nat → Nat → Nat} {ad : Nat → Nat} {tys : List (ClassId × FieldType)} {ws : va_W} : FrameBlind (va_Pc av (preST dC dI ad tys ws)) := fun a U g mk q => ⟨q.1, (preS_blind (av := av) a U g mk ⟨q.1, q.2.1⟩).2, sf_same (u := U) (U := U.calling g mk a) (Vm.Alike.refl U.vm) q.2.2⟩
theorem preT_blind {av : List Value} {dC : Nat → ClassId} {dI : Nat → Nat → Nat} {ad : Nat → Nat} {tys : List (ClassId × FieldType)} {ws : va_W} {sz : Nat} : FrameBlind (va_Pc av (preT dC dI ad tys ws sz)) := fun a U g mk q => ⟨q.1, (preM_blind (av := av) a U g mk ⟨q.1, q.2.1⟩).2, sf_same (u := U) (U := U.calling g mk a) (Vm.Alike.refl U.vm) q.2.2⟩
section LDW
variable {p : Program} {l : Launch} {e : Env} {R : Room} {s : State} {m : MethodId} {args : Array Value} {below : List Frame} {meth : Method} {c : Code} {H : Heap} {locs : List Loc} {cells slots : Nat} {Q : State → Prop} {pc : Nat} {ls : Array Slot} {rest : List Value}
/-- ldc_w of a String constant -/
theorem va_ldcSw {cc : ByteArray} (hexec : p.tables.exec = Jvm.exec) (hb : c.code = cc) {own tx : String} {index q : Nat} (hown : s.vm.findClass own = some m.cls) (hZ : vk_R own index tx q s) (hdg : decode cc pc = .ok (.ldc_w index, 3))
    (k : W p l e R s m args below meth c H locs cells slots Q (F0 m (pc + 3) ls (.ref q :: rest))) : W p l e R s m args below meth c H locs cells slots Q (F0 m pc ls rest) := by
  intro T hT X
  obtain ⟨t, a1, b1⟩ := k T hT X
  refine ⟨t, ?_, b1⟩
  obtain ⟨kk, cf, i, a', hk, hcf, hcp, -, hr, hev'⟩ := Cond.stringRef_spec hown hZ.1
  cases hZ.2.symm.trans hev'
  obtain ⟨k', hk', he⟩ := X.warmed.alike.2.2 _ _ hk
  have hr' : k'.resolved[index]? = some (some (.string q)) := by
    rcases X.warmed.entry hk hk' index with h | ⟨h, -⟩
    · rw [h]; exact hr
    · rw [hr] at h; cases h
  jvm_step X.here [hexec, hb, hdg, ldc_w.wp_string (e := e) (s := T) (f := F0 m pc ls rest) X.here.top hk' (by rw [he]; exact hcf) hcp hr']
  exact a1
end LDW

