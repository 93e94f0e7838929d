
theorem str_one {args : Array Value} {s : State} {t : Term} {n : Nat} {bt : Nat → Int32} {A : Nat → Prop} (hn : n < 2 ^ 31) (hex : (Cond.exactly t "java/lang/String").before args s = true) (hco : (Cond.eq (.field t "java/lang/String" "coder" "B") (.int 0)).before args s = true) (har : (Cond.arrayOf (.field t "java/lang/String" "value" "[B") .byte).before args s = true) (hle : (Cond.eq (.length (.field t "java/lang/String" "value" "[B")) (.int (Int32.ofNat n))).before args s = true) (hel : ∀ j : Nat, j < n → (Cond.eq (.elem (.field t "java/lang/String" "value" "[B") (.int (Int32.ofNat j))) (.int (bt j))).before args s = true) (hA : ∀ a : Nat, a < s.heap.size → ¬ A a) :
    ∃ a : Nat, t.eval args s none [] s = some (.ref a) ∧ va_O "java/lang/String" a A s s.heap ∧ va_OF "java/lang/String" "coder" "B" (.int 0) a A s s.heap ∧ ∃ v : Nat, va_OF "java/lang/String" "value" "[B" (.ref v) a A s s.heap ∧ va_T .byte v n (fun j => .int (bt j)) A s s.heap := by
  obtain ⟨a, c, cA, kA, q1, q2, q3, q4, q5, q6, -⟩ := Cond.exactly_spec (args := args) (first := s) (o := none) (s := s) (idx := []) (t := t) (cls := "java/lang/String") hex
  obtain ⟨v, ht, hT⟩ := va_Tof (f := fun j => .int (bt j)) (A := A) hn har (va_eqt hle) (fun j hj => va_eqt (hel j hj)) hA
  exact ⟨a, q1, ⟨cA, q3, q5, by rw [q6]; exact q2, hA a (Array.getElem?_eq_some_iff.mp q3).1⟩, vk_OFof q1 (va_eqt hco) hA, v, vk_OFof q1 ht hA, hT⟩
set_option maxRecDepth 100000 in
theorem str_0 {s : State} {b : Nat} {A : Nat → Prop} (hgv : (Jvm.Cond.and given_1 narrow_1).before #[Value.ref b] s = true) (hA : ∀ a : Nat, a < s.heap.size → ¬ A a) : ∃ a : Nat, (Term.string "LampShapes$Script" 101).eval #[Value.ref b] s none [] s = some (.ref a) ∧ va_O "java/lang/String" a A s s.heap ∧ va_OF "java/lang/String" "coder" "B" (.int 0) a A s s.heap ∧ ∃ v : Nat, va_OF "java/lang/String" "value" "[B" (.ref v) a A s s.heap ∧ va_T .byte v (s_n 0) (fun j => .int (s_at 0 j)) A s s.heap := by
  have hs := flat_of_before _ hgv
  refine str_one (t := .string "LampShapes$Script" 101) (n := 5) (bt := s_at 0) (by decide) (hs _ (List.mem_of_getElem? (i := 9) (by decide +kernel))) (hs _ (List.mem_of_getElem? (i := 10) (by decide +kernel))) (hs _ (List.mem_of_getElem? (i := 11) (by decide +kernel))) (hs _ (List.mem_of_getElem? (i := 12) (by decide +kernel))) (fun j hj => ?_) hA
  match j, hj with
  | 0, _ => exact (hs _ (List.mem_of_getElem? (i := 13) (by decide +kernel)))
  | 1, _ => exact (hs _ (List.mem_of_getElem? (i := 14) (by decide +kernel)))
  | 2, _ => exact (hs _ (List.mem_of_getElem? (i := 15) (by decide +kernel)))
  | 3, _ => exact (hs _ (List.mem_of_getElem? (i := 16) (by decide +kernel)))
  | 4, _ => exact (hs _ (List.mem_of_getElem? (i := 17) (by decide +kernel)))
  | (j + 5), hj => omega
set_option maxRecDepth 100000 in
theorem str_1 {s : State} {b : Nat} {A : Nat → Prop} (hgv : (Jvm.Cond.and given_1 narrow_1).before #[Value.ref b] s = true) (hA : ∀ a : Nat, a < s.heap.size → ¬ A a) : ∃ a : Nat, (Term.string "LampShapes$Script" 105).eval #[Value.ref b] s none [] s = some (.ref a) ∧ va_O "java/lang/String" a A s s.heap ∧ va_OF "java/lang/String" "coder" "B" (.int 0) a A s s.heap ∧ ∃ v : Nat, va_OF "java/lang/String" "value" "[B" (.ref v) a A s s.heap ∧ va_T .byte v (s_n 1) (fun j => .int (s_at 1 j)) A s s.heap := by
  have hs := flat_of_before _ hgv
  refine str_one (t := .string "LampShapes$Script" 105) (n := 6) (bt := s_at 1) (by decide) (hs _ (List.mem_of_getElem? (i := 18) (by decide +kernel))) (hs _ (List.mem_of_getElem? (i := 19) (by decide +kernel))) (hs _ (List.mem_of_getElem? (i := 20) (by decide +kernel))) (hs _ (List.mem_of_getElem? (i := 21) (by decide +kernel))) (fun j hj => ?_) hA
  match j, hj with
  | 0, _ => exact (hs _ (List.mem_of_getElem? (i := 22) (by decide +kernel)))
  | 1, _ => exact (hs _ (List.mem_of_getElem? (i := 23) (by decide +kernel)))
  | 2, _ => exact (hs _ (List.mem_of_getElem? (i := 24) (by decide +kernel)))
  | 3, _ => exact (hs _ (List.mem_of_getElem? (i := 25) (by decide +kernel)))
  | 4, _ => exact (hs _ (List.mem_of_getElem? (i := 26) (by decide +kernel)))
  | 5, _ => exact (hs _ (List.mem_of_getElem? (i := 27) (by decide +kernel)))
  | (j + 6), hj => omega
set_option maxRecDepth 100000 in
theorem str_2 {s : State} {b : Nat} {A : Nat → Prop} (hgv : (Jvm.Cond.and given_1 narrow_1).before #[Value.ref b] s = true) (hA : ∀ a : Nat, a < s.heap.size → ¬ A a) : ∃ a : Nat, (Term.string "LampShapes$Script" 107).eval #[Value.ref b] s none [] s = some (.ref a) ∧ va_O "java/lang/String" a A s s.heap ∧ va_OF "java/lang/String" "coder" "B" (.int 0) a A s s.heap ∧ ∃ v : Nat, va_OF "java/lang/String" "value" "[B" (.ref v) a A s s.heap ∧ va_T .byte v (s_n 2) (fun j => .int (s_at 2 j)) A s s.heap := by
  have hs := flat_of_before _ hgv
  refine str_one (t := .string "LampShapes$Script" 107) (n := 8) (bt := s_at 2) (by decide) (hs _ (List.mem_of_getElem? (i := 28) (by decide +kernel))) (hs _ (List.mem_of_getElem? (i := 29) (by decide +kernel))) (hs _ (List.mem_of_getElem? (i := 30) (by decide +kernel))) (hs _ (List.mem_of_getElem? (i := 31) (by decide +kernel))) (fun j hj => ?_) hA
  match j, hj with
  | 0, _ => exact (hs _ (List.mem_of_getElem? (i := 32) (by decide +kernel)))
  | 1, _ => exact (hs _ (List.mem_of_getElem? (i := 33) (by decide +kernel)))
  | 2, _ => exact (hs _ (List.mem_of_getElem? (i := 34) (by decide +kernel)))
  | 3, _ => exact (hs _ (List.mem_of_getElem? (i := 35) (by decide +kernel)))
  | 4, _ => exact (hs _ (List.mem_of_getElem? (i := 36) (by decide +kernel)))
  | 5, _ => exact (hs _ (List.mem_of_getElem? (i := 37) (by decide +kernel)))
  | 6, _ => exact (hs _ (List.mem_of_getElem? (i := 38) (by decide +kernel)))
  | 7, _ => exact (hs _ (List.mem_of_getElem? (i := 39) (by decide +kernel)))
  | (j + 8), hj => omega
set_option maxRecDepth 100000 in
theorem str_3 {s : State} {b : Nat} {A : Nat → Prop} (hgv : (Jvm.Cond.and given_1 narrow_1).before #[Value.ref b] s = true) (hA : ∀ a : Nat, a < s.heap.size → ¬ A a) : ∃ a : Nat, (Term.string "LampShapes$Script" 109).eval #[Value.ref b] s none [] s = some (.ref a) ∧ va_O "java/lang/String" a A s s.heap ∧ va_OF "java/lang/String" "coder" "B" (.int 0) a A s s.heap ∧ ∃ v : Nat, va_OF "java/lang/String" "value" "[B" (.ref v) a A s s.heap ∧ va_T .byte v (s_n 3) (fun j => .int (s_at 3 j)) A s s.heap := by
  have hs := flat_of_before _ hgv
  refine str_one (t := .string "LampShapes$Script" 109) (n := 6) (bt := s_at 3) (by decide) (hs _ (List.mem_of_getElem? (i := 40) (by decide +kernel))) (hs _ (List.mem_of_getElem? (i := 41) (by decide +kernel))) (hs _ (List.mem_of_getElem? (i := 42) (by decide +kernel))) (hs _ (List.mem_of_getElem? (i := 43) (by decide +kernel))) (fun j hj => ?_) hA
  match j, hj with
  | 0, _ => exact (hs _ (List.mem_of_getElem? (i := 44) (by decide +kernel)))
  | 1, _ => exact (hs _ (List.mem_of_getElem? (i := 45) (by decide +kernel)))
  | 2, _ => exact (hs _ (List.mem_of_getElem? (i := 46) (by decide +kernel)))
  | 3, _ => exact (hs _ (List.mem_of_getElem? (i := 47) (by decide +kernel)))
  | 4, _ => exact (hs _ (List.mem_of_getElem? (i := 48) (by decide +kernel)))
  | 5, _ => exact (hs _ (List.mem_of_getElem? (i := 49) (by decide +kernel)))
  | (j + 6), hj => omega
set_option maxRecDepth 100000 in
theorem str_4 {s : State} {b : Nat} {A : Nat → Prop} (hgv : (Jvm.Cond.and given_1 narrow_1).before #[Value.ref b] s = true) (hA : ∀ a : Nat, a < s.heap.size → ¬ A a) : ∃ a : Nat, (Term.string "LampShapes$Script" 111).eval #[Value.ref b] s none [] s = some (.ref a) ∧ va_O "java/lang/String" a A s s.heap ∧ va_OF "java/lang/String" "coder" "B" (.int 0) a A s s.heap ∧ ∃ v : Nat, va_OF "java/lang/String" "value" "[B" (.ref v) a A s s.heap ∧ va_T .byte v (s_n 4) (fun j => .int (s_at 4 j)) A s s.heap := by
  have hs := flat_of_before _ hgv
  refine str_one (t := .string "LampShapes$Script" 111) (n := 6) (bt := s_at 4) (by decide) (hs _ (List.mem_of_getElem? (i := 50) (by decide +kernel))) (hs _ (List.mem_of_getElem? (i := 51) (by decide +kernel))) (hs _ (List.mem_of_getElem? (i := 52) (by decide +kernel))) (hs _ (List.mem_of_getElem? (i := 53) (by decide +kernel))) (fun j hj => ?_) hA
  match j, hj with
  | 0, _ => exact (hs _ (List.mem_of_getElem? (i := 54) (by decide +kernel)))
  | 1, _ => exact (hs _ (List.mem_of_getElem? (i := 55) (by decide +kernel)))
  | 2, _ => exact (hs _ (List.mem_of_getElem? (i := 56) (by decide +kernel)))
  | 3, _ => exact (hs _ (List.mem_of_getElem? (i := 57) (by decide +kernel)))
  | 4, _ => exact (hs _ (List.mem_of_getElem? (i := 58) (by decide +kernel)))
  | 5, _ => exact (hs _ (List.mem_of_getElem? (i := 59) (by decide +kernel)))
  | (j + 6), hj => omega
set_option maxRecDepth 100000 in
theorem str_5 {s : State} {b : Nat} {A : Nat → Prop} (hgv : (Jvm.Cond.and given_1 narrow_1).before #[Value.ref b] s = true) (hA : ∀ a : Nat, a < s.heap.size → ¬ A a) : ∃ a : Nat, (Term.string "LampShapes$Script" 113).eval #[Value.ref b] s none [] s = some (.ref a) ∧ va_O "java/lang/String" a A s s.heap ∧ va_OF "java/lang/String" "coder" "B" (.int 0) a A s s.heap ∧ ∃ v : Nat, va_OF "java/lang/String" "value" "[B" (.ref v) a A s s.heap ∧ va_T .byte v (s_n 5) (fun j => .int (s_at 5 j)) A s s.heap := by
  have hs := flat_of_before _ hgv
  refine str_one (t := .string "LampShapes$Script" 113) (n := 6) (bt := s_at 5) (by decide) (hs _ (List.mem_of_getElem? (i := 60) (by decide +kernel))) (hs _ (List.mem_of_getElem? (i := 61) (by decide +kernel))) (hs _ (List.mem_of_getElem? (i := 62) (by decide +kernel))) (hs _ (List.mem_of_getElem? (i := 63) (by decide +kernel))) (fun j hj => ?_) hA
  match j, hj with
  | 0, _ => exact (hs _ (List.mem_of_getElem? (i := 64) (by decide +kernel)))
  | 1, _ => exact (hs _ (List.mem_of_getElem? (i := 65) (by decide +kernel)))
  | 2, _ => exact (hs _ (List.mem_of_getElem? (i := 66) (by decide +kernel)))
  | 3, _ => exact (hs _ (List.mem_of_getElem? (i := 67) (by decide +kernel)))
  | 4, _ => exact (hs _ (List.mem_of_getElem? (i := 68) (by decide +kernel)))
  | 5, _ => exact (hs _ (List.mem_of_getElem? (i := 69) (by decide +kernel)))
  | (j + 6), hj => omega
set_option maxRecDepth 100000 in
theorem str_6 {s : State} {b : Nat} {A : Nat → Prop} (hgv : (Jvm.Cond.and given_1 narrow_1).before #[Value.ref b] s = true) (hA : ∀ a : Nat, a < s.heap.size → ¬ A a) : ∃ a : Nat, (Term.string "LampShapes$Script" 74).eval #[Value.ref b] s none [] s = some (.ref a) ∧ va_O "java/lang/String" a A s s.heap ∧ va_OF "java/lang/String" "coder" "B" (.int 0) a A s s.heap ∧ ∃ v : Nat, va_OF "java/lang/String" "value" "[B" (.ref v) a A s s.heap ∧ va_T .byte v (s_n 6) (fun j => .int (s_at 6 j)) A s s.heap := by
  have hs := flat_of_before _ hgv
  refine str_one (t := .string "LampShapes$Script" 74) (n := 5) (bt := s_at 6) (by decide) (hs _ (List.mem_of_getElem? (i := 70) (by decide +kernel))) (hs _ (List.mem_of_getElem? (i := 71) (by decide +kernel))) (hs _ (List.mem_of_getElem? (i := 72) (by decide +kernel))) (hs _ (List.mem_of_getElem? (i := 73) (by decide +kernel))) (fun j hj => ?_) hA
  match j, hj with
  | 0, _ => exact (hs _ (List.mem_of_getElem? (i := 74) (by decide +kernel)))
  | 1, _ => exact (hs _ (List.mem_of_getElem? (i := 75) (by decide +kernel)))
  | 2, _ => exact (hs _ (List.mem_of_getElem? (i := 76) (by decide +kernel)))
  | 3, _ => exact (hs _ (List.mem_of_getElem? (i := 77) (by decide +kernel)))
  | 4, _ => exact (hs _ (List.mem_of_getElem? (i := 78) (by decide +kernel)))
  | (j + 5), hj => omega
set_option maxRecDepth 100000 in
theorem str_7 {s : State} {b : Nat} {A : Nat → Prop} (hgv : (Jvm.Cond.and given_1 narrow_1).before #[Value.ref b] s = true) (hA : ∀ a : Nat, a < s.heap.size → ¬ A a) : ∃ a : Nat, (Term.string "LampShapes$Script" 83).eval #[Value.ref b] s none [] s = some (.ref a) ∧ va_O "java/lang/String" a A s s.heap ∧ va_OF "java/lang/String" "coder" "B" (.int 0) a A s s.heap ∧ ∃ v : Nat, va_OF "java/lang/String" "value" "[B" (.ref v) a A s s.heap ∧ va_T .byte v (s_n 7) (fun j => .int (s_at 7 j)) A s s.heap := by
  have hs := flat_of_before _ hgv
  refine str_one (t := .string "LampShapes$Script" 83) (n := 4) (bt := s_at 7) (by decide) (hs _ (List.mem_of_getElem? (i := 79) (by decide +kernel))) (hs _ (List.mem_of_getElem? (i := 80) (by decide +kernel))) (hs _ (List.mem_of_getElem? (i := 81) (by decide +kernel))) (hs _ (List.mem_of_getElem? (i := 82) (by decide +kernel))) (fun j hj => ?_) hA
  match j, hj with
  | 0, _ => exact (hs _ (List.mem_of_getElem? (i := 83) (by decide +kernel)))
  | 1, _ => exact (hs _ (List.mem_of_getElem? (i := 84) (by decide +kernel)))
  | 2, _ => exact (hs _ (List.mem_of_getElem? (i := 85) (by decide +kernel)))
  | 3, _ => exact (hs _ (List.mem_of_getElem? (i := 86) (by decide +kernel)))
  | (j + 4), hj => omega
set_option maxRecDepth 100000 in
theorem str_8 {s : State} {b : Nat} {A : Nat → Prop} (hgv : (Jvm.Cond.and given_1 narrow_1).before #[Value.ref b] s = true) (hA : ∀ a : Nat, a < s.heap.size → ¬ A a) : ∃ a : Nat, (Term.string "LampShapes$Script" 144).eval #[Value.ref b] s none [] s = some (.ref a) ∧ va_O "java/lang/String" a A s s.heap ∧ va_OF "java/lang/String" "coder" "B" (.int 0) a A s s.heap ∧ ∃ v : Nat, va_OF "java/lang/String" "value" "[B" (.ref v) a A s s.heap ∧ va_T .byte v (s_n 8) (fun j => .int (s_at 8 j)) A s s.heap := by
  have hs := flat_of_before _ hgv
  refine str_one (t := .string "LampShapes$Script" 144) (n := 4) (bt := s_at 8) (by decide) (hs _ (List.mem_of_getElem? (i := 87) (by decide +kernel))) (hs _ (List.mem_of_getElem? (i := 88) (by decide +kernel))) (hs _ (List.mem_of_getElem? (i := 89) (by decide +kernel))) (hs _ (List.mem_of_getElem? (i := 90) (by decide +kernel))) (fun j hj => ?_) hA
  match j, hj with
  | 0, _ => exact (hs _ (List.mem_of_getElem? (i := 91) (by decide +kernel)))
  | 1, _ => exact (hs _ (List.mem_of_getElem? (i := 92) (by decide +kernel)))
  | 2, _ => exact (hs _ (List.mem_of_getElem? (i := 93) (by decide +kernel)))
  | 3, _ => exact (hs _ (List.mem_of_getElem? (i := 94) (by decide +kernel)))
  | (j + 4), hj => omega
set_option maxRecDepth 100000 in
theorem str_9 {s : State} {b : Nat} {A : Nat → Prop} (hgv : (Jvm.Cond.and given_1 narrow_1).before #[Value.ref b] s = true) (hA : ∀ a : Nat, a < s.heap.size → ¬ A a) : ∃ a : Nat, (Term.string "LampShapes$Script" 149).eval #[Value.ref b] s none [] s = some (.ref a) ∧ va_O "java/lang/String" a A s s.heap ∧ va_OF "java/lang/String" "coder" "B" (.int 0) a A s s.heap ∧ ∃ v : Nat, va_OF "java/lang/String" "value" "[B" (.ref v) a A s s.heap ∧ va_T .byte v (s_n 9) (fun j => .int (s_at 9 j)) A s s.heap := by
  have hs := flat_of_before _ hgv
  refine str_one (t := .string "LampShapes$Script" 149) (n := 4) (bt := s_at 9) (by decide) (hs _ (List.mem_of_getElem? (i := 95) (by decide +kernel))) (hs _ (List.mem_of_getElem? (i := 96) (by decide +kernel))) (hs _ (List.mem_of_getElem? (i := 97) (by decide +kernel))) (hs _ (List.mem_of_getElem? (i := 98) (by decide +kernel))) (fun j hj => ?_) hA
  match j, hj with
  | 0, _ => exact (hs _ (List.mem_of_getElem? (i := 99) (by decide +kernel)))
  | 1, _ => exact (hs _ (List.mem_of_getElem? (i := 100) (by decide +kernel)))
  | 2, _ => exact (hs _ (List.mem_of_getElem? (i := 101) (by decide +kernel)))
  | 3, _ => exact (hs _ (List.mem_of_getElem? (i := 102) (by decide +kernel)))
  | (j + 4), hj => omega
set_option maxRecDepth 100000 in
theorem str_10 {s : State} {b : Nat} {A : Nat → Prop} (hgv : (Jvm.Cond.and given_1 narrow_1).before #[Value.ref b] s = true) (hA : ∀ a : Nat, a < s.heap.size → ¬ A a) : ∃ a : Nat, (Term.string "LampShapes$Script" 151).eval #[Value.ref b] s none [] s = some (.ref a) ∧ va_O "java/lang/String" a A s s.heap ∧ va_OF "java/lang/String" "coder" "B" (.int 0) a A s s.heap ∧ ∃ v : Nat, va_OF "java/lang/String" "value" "[B" (.ref v) a A s s.heap ∧ va_T .byte v (s_n 10) (fun j => .int (s_at 10 j)) A s s.heap := by
  have hs := flat_of_before _ hgv
  refine str_one (t := .string "LampShapes$Script" 151) (n := 2) (bt := s_at 10) (by decide) (hs _ (List.mem_of_getElem? (i := 103) (by decide +kernel))) (hs _ (List.mem_of_getElem? (i := 104) (by decide +kernel))) (hs _ (List.mem_of_getElem? (i := 105) (by decide +kernel))) (hs _ (List.mem_of_getElem? (i := 106) (by decide +kernel))) (fun j hj => ?_) hA
  match j, hj with
  | 0, _ => exact (hs _ (List.mem_of_getElem? (i := 107) (by decide +kernel)))
  | 1, _ => exact (hs _ (List.mem_of_getElem? (i := 108) (by decide +kernel)))
  | (j + 2), hj => omega
set_option maxRecDepth 100000 in
theorem str_11 {s : State} {b : Nat} {A : Nat → Prop} (hgv : (Jvm.Cond.and given_1 narrow_1).before #[Value.ref b] s = true) (hA : ∀ a : Nat, a < s.heap.size → ¬ A a) : ∃ a : Nat, (Term.string "LampShapes$Script" 88).eval #[Value.ref b] s none [] s = some (.ref a) ∧ va_O "java/lang/String" a A s s.heap ∧ va_OF "java/lang/String" "coder" "B" (.int 0) a A s s.heap ∧ ∃ v : Nat, va_OF "java/lang/String" "value" "[B" (.ref v) a A s s.heap ∧ va_T .byte v (s_n 11) (fun j => .int (s_at 11 j)) A s s.heap := by
  have hs := flat_of_before _ hgv
  refine str_one (t := .string "LampShapes$Script" 88) (n := 4) (bt := s_at 11) (by decide) (hs _ (List.mem_of_getElem? (i := 109) (by decide +kernel))) (hs _ (List.mem_of_getElem? (i := 110) (by decide +kernel))) (hs _ (List.mem_of_getElem? (i := 111) (by decide +kernel))) (hs _ (List.mem_of_getElem? (i := 112) (by decide +kernel))) (fun j hj => ?_) hA
  match j, hj with
  | 0, _ => exact (hs _ (List.mem_of_getElem? (i := 113) (by decide +kernel)))
  | 1, _ => exact (hs _ (List.mem_of_getElem? (i := 114) (by decide +kernel)))
  | 2, _ => exact (hs _ (List.mem_of_getElem? (i := 115) (by decide +kernel)))
  | 3, _ => exact (hs _ (List.mem_of_getElem? (i := 116) (by decide +kernel)))
  | (j + 4), hj => omega
set_option maxRecDepth 100000 in
theorem str_12 {s : State} {b : Nat} {A : Nat → Prop} (hgv : (Jvm.Cond.and given_1 narrow_1).before #[Value.ref b] s = true) (hA : ∀ a : Nat, a < s.heap.size → ¬ A a) : ∃ a : Nat, (Term.string "LampShapes$Script" 93).eval #[Value.ref b] s none [] s = some (.ref a) ∧ va_O "java/lang/String" a A s s.heap ∧ va_OF "java/lang/String" "coder" "B" (.int 0) a A s s.heap ∧ ∃ v : Nat, va_OF "java/lang/String" "value" "[B" (.ref v) a A s s.heap ∧ va_T .byte v (s_n 12) (fun j => .int (s_at 12 j)) A s s.heap := by
  have hs := flat_of_before _ hgv
  refine str_one (t := .string "LampShapes$Script" 93) (n := 4) (bt := s_at 12) (by decide) (hs _ (List.mem_of_getElem? (i := 117) (by decide +kernel))) (hs _ (List.mem_of_getElem? (i := 118) (by decide +kernel))) (hs _ (List.mem_of_getElem? (i := 119) (by decide +kernel))) (hs _ (List.mem_of_getElem? (i := 120) (by decide +kernel))) (fun j hj => ?_) hA
  match j, hj with
  | 0, _ => exact (hs _ (List.mem_of_getElem? (i := 121) (by decide +kernel)))
  | 1, _ => exact (hs _ (List.mem_of_getElem? (i := 122) (by decide +kernel)))
  | 2, _ => exact (hs _ (List.mem_of_getElem? (i := 123) (by decide +kernel)))
  | 3, _ => exact (hs _ (List.mem_of_getElem? (i := 124) (by decide +kernel)))
  | (j + 4), hj => omega
set_option maxRecDepth 100000 in
theorem str_13 {s : State} {b : Nat} {A : Nat → Prop} (hgv : (Jvm.Cond.and given_1 narrow_1).before #[Value.ref b] s = true) (hA : ∀ a : Nat, a < s.heap.size → ¬ A a) : ∃ a : Nat, (Term.string "LampShapesModel" 37).eval #[Value.ref b] s none [] s = some (.ref a) ∧ va_O "java/lang/String" a A s s.heap ∧ va_OF "java/lang/String" "coder" "B" (.int 0) a A s s.heap ∧ ∃ v : Nat, va_OF "java/lang/String" "value" "[B" (.ref v) a A s s.heap ∧ va_T .byte v (s_n 13) (fun j => .int (s_at 13 j)) A s s.heap := by
  have hs := flat_of_before _ hgv
  refine str_one (t := .string "LampShapesModel" 37) (n := 5) (bt := s_at 13) (by decide) (hs _ (List.mem_of_getElem? (i := 125) (by decide +kernel))) (hs _ (List.mem_of_getElem? (i := 126) (by decide +kernel))) (hs _ (List.mem_of_getElem? (i := 127) (by decide +kernel))) (hs _ (List.mem_of_getElem? (i := 128) (by decide +kernel))) (fun j hj => ?_) hA
  match j, hj with
  | 0, _ => exact (hs _ (List.mem_of_getElem? (i := 129) (by decide +kernel)))
  | 1, _ => exact (hs _ (List.mem_of_getElem? (i := 130) (by decide +kernel)))
  | 2, _ => exact (hs _ (List.mem_of_getElem? (i := 131) (by decide +kernel)))
  | 3, _ => exact (hs _ (List.mem_of_getElem? (i := 132) (by decide +kernel)))
  | 4, _ => exact (hs _ (List.mem_of_getElem? (i := 133) (by decide +kernel)))
  | (j + 5), hj => omega
set_option maxRecDepth 100000 in
theorem str_14 {s : State} {b : Nat} {A : Nat → Prop} (hgv : (Jvm.Cond.and given_1 narrow_1).before #[Value.ref b] s = true) (hA : ∀ a : Nat, a < s.heap.size → ¬ A a) : ∃ a : Nat, (Term.string "LampShapesModel" 39).eval #[Value.ref b] s none [] s = some (.ref a) ∧ va_O "java/lang/String" a A s s.heap ∧ va_OF "java/lang/String" "coder" "B" (.int 0) a A s s.heap ∧ ∃ v : Nat, va_OF "java/lang/String" "value" "[B" (.ref v) a A s s.heap ∧ va_T .byte v (s_n 14) (fun j => .int (s_at 14 j)) A s s.heap := by
  have hs := flat_of_before _ hgv
  refine str_one (t := .string "LampShapesModel" 39) (n := 6) (bt := s_at 14) (by decide) (hs _ (List.mem_of_getElem? (i := 135) (by decide +kernel))) (hs _ (List.mem_of_getElem? (i := 136) (by decide +kernel))) (hs _ (List.mem_of_getElem? (i := 137) (by decide +kernel))) (hs _ (List.mem_of_getElem? (i := 138) (by decide +kernel))) (fun j hj => ?_) hA
  match j, hj with
  | 0, _ => exact (hs _ (List.mem_of_getElem? (i := 139) (by decide +kernel)))
  | 1, _ => exact (hs _ (List.mem_of_getElem? (i := 140) (by decide +kernel)))
  | 2, _ => exact (hs _ (List.mem_of_getElem? (i := 141) (by decide +kernel)))
  | 3, _ => exact (hs _ (List.mem_of_getElem? (i := 142) (by decide +kernel)))
  | 4, _ => exact (hs _ (List.mem_of_getElem? (i := 143) (by decide +kernel)))
  | 5, _ => exact (hs _ (List.mem_of_getElem? (i := 144) (by decide +kernel)))
  | (j + 6), hj => omega
set_option maxRecDepth 100000 in
theorem str_15 {s : State} {b : Nat} {A : Nat → Prop} (hgv : (Jvm.Cond.and given_1 narrow_1).before #[Value.ref b] s = true) (hA : ∀ a : Nat, a < s.heap.size → ¬ A a) : ∃ a : Nat, (Term.string "LampShapesModel" 41).eval #[Value.ref b] s none [] s = some (.ref a) ∧ va_O "java/lang/String" a A s s.heap ∧ va_OF "java/lang/String" "coder" "B" (.int 0) a A s s.heap ∧ ∃ v : Nat, va_OF "java/lang/String" "value" "[B" (.ref v) a A s s.heap ∧ va_T .byte v (s_n 15) (fun j => .int (s_at 15 j)) A s s.heap := by
  have hs := flat_of_before _ hgv
  refine str_one (t := .string "LampShapesModel" 41) (n := 8) (bt := s_at 15) (by decide) (hs _ (List.mem_of_getElem? (i := 146) (by decide +kernel))) (hs _ (List.mem_of_getElem? (i := 147) (by decide +kernel))) (hs _ (List.mem_of_getElem? (i := 148) (by decide +kernel))) (hs _ (List.mem_of_getElem? (i := 149) (by decide +kernel))) (fun j hj => ?_) hA
  match j, hj with
  | 0, _ => exact (hs _ (List.mem_of_getElem? (i := 150) (by decide +kernel)))
  | 1, _ => exact (hs _ (List.mem_of_getElem? (i := 151) (by decide +kernel)))
  | 2, _ => exact (hs _ (List.mem_of_getElem? (i := 152) (by decide +kernel)))
  | 3, _ => exact (hs _ (List.mem_of_getElem? (i := 153) (by decide +kernel)))
  | 4, _ => exact (hs _ (List.mem_of_getElem? (i := 154) (by decide +kernel)))
  | 5, _ => exact (hs _ (List.mem_of_getElem? (i := 155) (by decide +kernel)))
  | 6, _ => exact (hs _ (List.mem_of_getElem? (i := 156) (by decide +kernel)))
  | 7, _ => exact (hs _ (List.mem_of_getElem? (i := 157) (by decide +kernel)))
  | (j + 8), hj => omega
set_option maxRecDepth 100000 in
theorem str_16 {s : State} {b : Nat} {A : Nat → Prop} (hgv : (Jvm.Cond.and given_1 narrow_1).before #[Value.ref b] s = true) (hA : ∀ a : Nat, a < s.heap.size → ¬ A a) : ∃ a : Nat, (Term.string "LampShapesModel" 43).eval #[Value.ref b] s none [] s = some (.ref a) ∧ va_O "java/lang/String" a A s s.heap ∧ va_OF "java/lang/String" "coder" "B" (.int 0) a A s s.heap ∧ ∃ v : Nat, va_OF "java/lang/String" "value" "[B" (.ref v) a A s s.heap ∧ va_T .byte v (s_n 16) (fun j => .int (s_at 16 j)) A s s.heap := by
  have hs := flat_of_before _ hgv
  refine str_one (t := .string "LampShapesModel" 43) (n := 6) (bt := s_at 16) (by decide) (hs _ (List.mem_of_getElem? (i := 159) (by decide +kernel))) (hs _ (List.mem_of_getElem? (i := 160) (by decide +kernel))) (hs _ (List.mem_of_getElem? (i := 161) (by decide +kernel))) (hs _ (List.mem_of_getElem? (i := 162) (by decide +kernel))) (fun j hj => ?_) hA
  match j, hj with
  | 0, _ => exact (hs _ (List.mem_of_getElem? (i := 163) (by decide +kernel)))
  | 1, _ => exact (hs _ (List.mem_of_getElem? (i := 164) (by decide +kernel)))
  | 2, _ => exact (hs _ (List.mem_of_getElem? (i := 165) (by decide +kernel)))
  | 3, _ => exact (hs _ (List.mem_of_getElem? (i := 166) (by decide +kernel)))
  | 4, _ => exact (hs _ (List.mem_of_getElem? (i := 167) (by decide +kernel)))
  | 5, _ => exact (hs _ (List.mem_of_getElem? (i := 168) (by decide +kernel)))
  | (j + 6), hj => omega
set_option maxRecDepth 100000 in
theorem str_17 {s : State} {b : Nat} {A : Nat → Prop} (hgv : (Jvm.Cond.and given_1 narrow_1).before #[Value.ref b] s = true) (hA : ∀ a : Nat, a < s.heap.size → ¬ A a) : ∃ a : Nat, (Term.string "LampShapesModel" 45).eval #[Value.ref b] s none [] s = some (.ref a) ∧ va_O "java/lang/String" a A s s.heap ∧ va_OF "java/lang/String" "coder" "B" (.int 0) a A s s.heap ∧ ∃ v : Nat, va_OF "java/lang/String" "value" "[B" (.ref v) a A s s.heap ∧ va_T .byte v (s_n 17) (fun j => .int (s_at 17 j)) A s s.heap := by
  have hs := flat_of_before _ hgv
  refine str_one (t := .string "LampShapesModel" 45) (n := 6) (bt := s_at 17) (by decide) (hs _ (List.mem_of_getElem? (i := 170) (by decide +kernel))) (hs _ (List.mem_of_getElem? (i := 171) (by decide +kernel))) (hs _ (List.mem_of_getElem? (i := 172) (by decide +kernel))) (hs _ (List.mem_of_getElem? (i := 173) (by decide +kernel))) (fun j hj => ?_) hA
  match j, hj with
  | 0, _ => exact (hs _ (List.mem_of_getElem? (i := 174) (by decide +kernel)))
  | 1, _ => exact (hs _ (List.mem_of_getElem? (i := 175) (by decide +kernel)))
  | 2, _ => exact (hs _ (List.mem_of_getElem? (i := 176) (by decide +kernel)))
  | 3, _ => exact (hs _ (List.mem_of_getElem? (i := 177) (by decide +kernel)))
  | 4, _ => exact (hs _ (List.mem_of_getElem? (i := 178) (by decide +kernel)))
  | 5, _ => exact (hs _ (List.mem_of_getElem? (i := 179) (by decide +kernel)))
  | (j + 6), hj => omega
set_option maxRecDepth 100000 in
theorem str_18 {s : State} {b : Nat} {A : Nat → Prop} (hgv : (Jvm.Cond.and given_1 narrow_1).before #[Value.ref b] s = true) (hA : ∀ a : Nat, a < s.heap.size → ¬ A a) : ∃ a : Nat, (Term.string "LampShapesModel" 47).eval #[Value.ref b] s none [] s = some (.ref a) ∧ va_O "java/lang/String" a A s s.heap ∧ va_OF "java/lang/String" "coder" "B" (.int 0) a A s s.heap ∧ ∃ v : Nat, va_OF "java/lang/String" "value" "[B" (.ref v) a A s s.heap ∧ va_T .byte v (s_n 18) (fun j => .int (s_at 18 j)) A s s.heap := by
  have hs := flat_of_before _ hgv
  refine str_one (t := .string "LampShapesModel" 47) (n := 6) (bt := s_at 18) (by decide) (hs _ (List.mem_of_getElem? (i := 181) (by decide +kernel))) (hs _ (List.mem_of_getElem? (i := 182) (by decide +kernel))) (hs _ (List.mem_of_getElem? (i := 183) (by decide +kernel))) (hs _ (List.mem_of_getElem? (i := 184) (by decide +kernel))) (fun j hj => ?_) hA
  match j, hj with
  | 0, _ => exact (hs _ (List.mem_of_getElem? (i := 185) (by decide +kernel)))
  | 1, _ => exact (hs _ (List.mem_of_getElem? (i := 186) (by decide +kernel)))
  | 2, _ => exact (hs _ (List.mem_of_getElem? (i := 187) (by decide +kernel)))
  | 3, _ => exact (hs _ (List.mem_of_getElem? (i := 188) (by decide +kernel)))
  | 4, _ => exact (hs _ (List.mem_of_getElem? (i := 189) (by decide +kernel)))
  | 5, _ => exact (hs _ (List.mem_of_getElem? (i := 190) (by decide +kernel)))
  | (j + 6), hj => omega
set_option maxRecDepth 100000 in
theorem str_19 {s : State} {b : Nat} {A : Nat → Prop} (hgv : (Jvm.Cond.and given_1 narrow_1).before #[Value.ref b] s = true) (hA : ∀ a : Nat, a < s.heap.size → ¬ A a) : ∃ a : Nat, (Term.string "LampShapesModel" 251).eval #[Value.ref b] s none [] s = some (.ref a) ∧ va_O "java/lang/String" a A s s.heap ∧ va_OF "java/lang/String" "coder" "B" (.int 0) a A s s.heap ∧ ∃ v : Nat, va_OF "java/lang/String" "value" "[B" (.ref v) a A s s.heap ∧ va_T .byte v (s_n 19) (fun j => .int (s_at 19 j)) A s s.heap := by
  have hs := flat_of_before _ hgv
  refine str_one (t := .string "LampShapesModel" 251) (n := 5) (bt := s_at 19) (by decide) (hs _ (List.mem_of_getElem? (i := 192) (by decide +kernel))) (hs _ (List.mem_of_getElem? (i := 193) (by decide +kernel))) (hs _ (List.mem_of_getElem? (i := 194) (by decide +kernel))) (hs _ (List.mem_of_getElem? (i := 195) (by decide +kernel))) (fun j hj => ?_) hA
  match j, hj with
  | 0, _ => exact (hs _ (List.mem_of_getElem? (i := 196) (by decide +kernel)))
  | 1, _ => exact (hs _ (List.mem_of_getElem? (i := 197) (by decide +kernel)))
  | 2, _ => exact (hs _ (List.mem_of_getElem? (i := 198) (by decide +kernel)))
  | 3, _ => exact (hs _ (List.mem_of_getElem? (i := 199) (by decide +kernel)))
  | 4, _ => exact (hs _ (List.mem_of_getElem? (i := 200) (by decide +kernel)))
  | (j + 5), hj => omega
set_option maxRecDepth 100000 in
theorem str_20 {s : State} {b : Nat} {A : Nat → Prop} (hgv : (Jvm.Cond.and given_1 narrow_1).before #[Value.ref b] s = true) (hA : ∀ a : Nat, a < s.heap.size → ¬ A a) : ∃ a : Nat, (Term.string "LampShapesModel" 256).eval #[Value.ref b] s none [] s = some (.ref a) ∧ va_O "java/lang/String" a A s s.heap ∧ va_OF "java/lang/String" "coder" "B" (.int 0) a A s s.heap ∧ ∃ v : Nat, va_OF "java/lang/String" "value" "[B" (.ref v) a A s s.heap ∧ va_T .byte v (s_n 20) (fun j => .int (s_at 20 j)) A s s.heap := by
  have hs := flat_of_before _ hgv
  refine str_one (t := .string "LampShapesModel" 256) (n := 4) (bt := s_at 20) (by decide) (hs _ (List.mem_of_getElem? (i := 202) (by decide +kernel))) (hs _ (List.mem_of_getElem? (i := 203) (by decide +kernel))) (hs _ (List.mem_of_getElem? (i := 204) (by decide +kernel))) (hs _ (List.mem_of_getElem? (i := 205) (by decide +kernel))) (fun j hj => ?_) hA
  match j, hj with
  | 0, _ => exact (hs _ (List.mem_of_getElem? (i := 206) (by decide +kernel)))
  | 1, _ => exact (hs _ (List.mem_of_getElem? (i := 207) (by decide +kernel)))
  | 2, _ => exact (hs _ (List.mem_of_getElem? (i := 208) (by decide +kernel)))
  | 3, _ => exact (hs _ (List.mem_of_getElem? (i := 209) (by decide +kernel)))
  | (j + 4), hj => omega
set_option maxRecDepth 100000 in
theorem str_21 {s : State} {b : Nat} {A : Nat → Prop} (hgv : (Jvm.Cond.and given_1 narrow_1).before #[Value.ref b] s = true) (hA : ∀ a : Nat, a < s.heap.size → ¬ A a) : ∃ a : Nat, (Term.string "LampShapesModel" 268).eval #[Value.ref b] s none [] s = some (.ref a) ∧ va_O "java/lang/String" a A s s.heap ∧ va_OF "java/lang/String" "coder" "B" (.int 0) a A s s.heap ∧ ∃ v : Nat, va_OF "java/lang/String" "value" "[B" (.ref v) a A s s.heap ∧ va_T .byte v (s_n 21) (fun j => .int (s_at 21 j)) A s s.heap := by
  have hs := flat_of_before _ hgv
  refine str_one (t := .string "LampShapesModel" 268) (n := 4) (bt := s_at 21) (by decide) (hs _ (List.mem_of_getElem? (i := 211) (by decide +kernel))) (hs _ (List.mem_of_getElem? (i := 212) (by decide +kernel))) (hs _ (List.mem_of_getElem? (i := 213) (by decide +kernel))) (hs _ (List.mem_of_getElem? (i := 214) (by decide +kernel))) (fun j hj => ?_) hA
  match j, hj with
  | 0, _ => exact (hs _ (List.mem_of_getElem? (i := 215) (by decide +kernel)))
  | 1, _ => exact (hs _ (List.mem_of_getElem? (i := 216) (by decide +kernel)))
  | 2, _ => exact (hs _ (List.mem_of_getElem? (i := 217) (by decide +kernel)))
  | 3, _ => exact (hs _ (List.mem_of_getElem? (i := 218) (by decide +kernel)))
  | (j + 4), hj => omega
set_option maxRecDepth 100000 in
theorem str_22 {s : State} {b : Nat} {A : Nat → Prop} (hgv : (Jvm.Cond.and given_1 narrow_1).before #[Value.ref b] s = true) (hA : ∀ a : Nat, a < s.heap.size → ¬ A a) : ∃ a : Nat, (Term.string "LampShapesModel" 274).eval #[Value.ref b] s none [] s = some (.ref a) ∧ va_O "java/lang/String" a A s s.heap ∧ va_OF "java/lang/String" "coder" "B" (.int 0) a A s s.heap ∧ ∃ v : Nat, va_OF "java/lang/String" "value" "[B" (.ref v) a A s s.heap ∧ va_T .byte v (s_n 22) (fun j => .int (s_at 22 j)) A s s.heap := by
  have hs := flat_of_before _ hgv
  refine str_one (t := .string "LampShapesModel" 274) (n := 4) (bt := s_at 22) (by decide) (hs _ (List.mem_of_getElem? (i := 220) (by decide +kernel))) (hs _ (List.mem_of_getElem? (i := 221) (by decide +kernel))) (hs _ (List.mem_of_getElem? (i := 222) (by decide +kernel))) (hs _ (List.mem_of_getElem? (i := 223) (by decide +kernel))) (fun j hj => ?_) hA
  match j, hj with
  | 0, _ => exact (hs _ (List.mem_of_getElem? (i := 224) (by decide +kernel)))
  | 1, _ => exact (hs _ (List.mem_of_getElem? (i := 225) (by decide +kernel)))
  | 2, _ => exact (hs _ (List.mem_of_getElem? (i := 226) (by decide +kernel)))
  | 3, _ => exact (hs _ (List.mem_of_getElem? (i := 227) (by decide +kernel)))
  | (j + 4), hj => omega
set_option maxRecDepth 100000 in
theorem str_23 {s : State} {b : Nat} {A : Nat → Prop} (hgv : (Jvm.Cond.and given_1 narrow_1).before #[Value.ref b] s = true) (hA : ∀ a : Nat, a < s.heap.size → ¬ A a) : ∃ a : Nat, (Term.string "LampShapesModel" 276).eval #[Value.ref b] s none [] s = some (.ref a) ∧ va_O "java/lang/String" a A s s.heap ∧ va_OF "java/lang/String" "coder" "B" (.int 0) a A s s.heap ∧ ∃ v : Nat, va_OF "java/lang/String" "value" "[B" (.ref v) a A s s.heap ∧ va_T .byte v (s_n 23) (fun j => .int (s_at 23 j)) A s s.heap := by
  have hs := flat_of_before _ hgv
  refine str_one (t := .string "LampShapesModel" 276) (n := 2) (bt := s_at 23) (by decide) (hs _ (List.mem_of_getElem? (i := 229) (by decide +kernel))) (hs _ (List.mem_of_getElem? (i := 230) (by decide +kernel))) (hs _ (List.mem_of_getElem? (i := 231) (by decide +kernel))) (hs _ (List.mem_of_getElem? (i := 232) (by decide +kernel))) (fun j hj => ?_) hA
  match j, hj with
  | 0, _ => exact (hs _ (List.mem_of_getElem? (i := 233) (by decide +kernel)))
  | 1, _ => exact (hs _ (List.mem_of_getElem? (i := 234) (by decide +kernel)))
  | (j + 2), hj => omega
set_option maxRecDepth 100000 in
theorem str_24 {s : State} {b : Nat} {A : Nat → Prop} (hgv : (Jvm.Cond.and given_1 narrow_1).before #[Value.ref b] s = true) (hA : ∀ a : Nat, a < s.heap.size → ¬ A a) : ∃ a : Nat, (Term.string "LampShapesModel" 261).eval #[Value.ref b] s none [] s = some (.ref a) ∧ va_O "java/lang/String" a A s s.heap ∧ va_OF "java/lang/String" "coder" "B" (.int 0) a A s s.heap ∧ ∃ v : Nat, va_OF "java/lang/String" "value" "[B" (.ref v) a A s s.heap ∧ va_T .byte v (s_n 24) (fun j => .int (s_at 24 j)) A s s.heap := by
  have hs := flat_of_before _ hgv
  refine str_one (t := .string "LampShapesModel" 261) (n := 4) (bt := s_at 24) (by decide) (hs _ (List.mem_of_getElem? (i := 236) (by decide +kernel))) (hs _ (List.mem_of_getElem? (i := 237) (by decide +kernel))) (hs _ (List.mem_of_getElem? (i := 238) (by decide +kernel))) (hs _ (List.mem_of_getElem? (i := 239) (by decide +kernel))) (fun j hj => ?_) hA
  match j, hj with
  | 0, _ => exact (hs _ (List.mem_of_getElem? (i := 240) (by decide +kernel)))
  | 1, _ => exact (hs _ (List.mem_of_getElem? (i := 241) (by decide +kernel)))
  | 2, _ => exact (hs _ (List.mem_of_getElem? (i := 242) (by decide +kernel)))
  | 3, _ => exact (hs _ (List.mem_of_getElem? (i := 243) (by decide +kernel)))
  | (j + 4), hj => omega
set_option maxRecDepth 100000 in
theorem str_25 {s : State} {b : Nat} {A : Nat → Prop} (hgv : (Jvm.Cond.and given_1 narrow_1).before #[Value.ref b] s = true) (hA : ∀ a : Nat, a < s.heap.size → ¬ A a) : ∃ a : Nat, (Term.string "LampShapesModel" 266).eval #[Value.ref b] s none [] s = some (.ref a) ∧ va_O "java/lang/String" a A s s.heap ∧ va_OF "java/lang/String" "coder" "B" (.int 0) a A s s.heap ∧ ∃ v : Nat, va_OF "java/lang/String" "value" "[B" (.ref v) a A s s.heap ∧ va_T .byte v (s_n 25) (fun j => .int (s_at 25 j)) A s s.heap := by
  have hs := flat_of_before _ hgv
  refine str_one (t := .string "LampShapesModel" 266) (n := 4) (bt := s_at 25) (by decide) (hs _ (List.mem_of_getElem? (i := 245) (by decide +kernel))) (hs _ (List.mem_of_getElem? (i := 246) (by decide +kernel))) (hs _ (List.mem_of_getElem? (i := 247) (by decide +kernel))) (hs _ (List.mem_of_getElem? (i := 248) (by decide +kernel))) (fun j hj => ?_) hA
  match j, hj with
  | 0, _ => exact (hs _ (List.mem_of_getElem? (i := 249) (by decide +kernel)))
  | 1, _ => exact (hs _ (List.mem_of_getElem? (i := 250) (by decide +kernel)))
  | 2, _ => exact (hs _ (List.mem_of_getElem? (i := 251) (by decide +kernel)))
  | 3, _ => exact (hs _ (List.mem_of_getElem? (i := 252) (by decide +kernel)))
  | (j + 4), hj => omega
set_option maxHeartbeats 4000000 in
set_option maxRecDepth 100000 in
theorem law_env {s : State} {b : Nat} {A : Nat → Prop} (hts : ∀ w ∈ lw_tbl, w.before #[Value.ref b] s = true) (hgv : (Jvm.Cond.and given_1 narrow_1).before #[Value.ref b] s = true) (hA : ∀ a : Nat, a < s.heap.size → ¬ A a) : ∃ ad : Nat → Nat, ev ad s ∧ sf ad A s s.heap := by
  have hs := flat_of_before _ hgv
  obtain ⟨a0, e0, o0⟩ := str_0 hgv hA
  obtain ⟨a1, e1, o1⟩ := str_1 hgv hA
  obtain ⟨a2, e2, o2⟩ := str_2 hgv hA
  obtain ⟨a3, e3, o3⟩ := str_3 hgv hA
  obtain ⟨a4, e4, o4⟩ := str_4 hgv hA
  obtain ⟨a5, e5, o5⟩ := str_5 hgv hA
  obtain ⟨a6, e6, o6⟩ := str_6 hgv hA
  obtain ⟨a7, e7, o7⟩ := str_7 hgv hA
  obtain ⟨a8, e8, o8⟩ := str_8 hgv hA
  obtain ⟨a9, e9, o9⟩ := str_9 hgv hA
  obtain ⟨a10, e10, o10⟩ := str_10 hgv hA
  obtain ⟨a11, e11, o11⟩ := str_11 hgv hA
  obtain ⟨a12, e12, o12⟩ := str_12 hgv hA
  obtain ⟨a13, e13, o13⟩ := str_13 hgv hA
  obtain ⟨a14, e14, o14⟩ := str_14 hgv hA
  obtain ⟨a15, e15, o15⟩ := str_15 hgv hA
  obtain ⟨a16, e16, o16⟩ := str_16 hgv hA
  obtain ⟨a17, e17, o17⟩ := str_17 hgv hA
  obtain ⟨a18, e18, o18⟩ := str_18 hgv hA
  obtain ⟨a19, e19, o19⟩ := str_19 hgv hA
  obtain ⟨a20, e20, o20⟩ := str_20 hgv hA
  obtain ⟨a21, e21, o21⟩ := str_21 hgv hA
  obtain ⟨a22, e22, o22⟩ := str_22 hgv hA
  obtain ⟨a23, e23, o23⟩ := str_23 hgv hA
  obtain ⟨a24, e24, o24⟩ := str_24 hgv hA
  obtain ⟨a25, e25, o25⟩ := str_25 hgv hA
  refine ⟨fun k => match k with | 0 => a0 | 1 => a1 | 2 => a2 | 3 => a3 | 4 => a4 | 5 => a5 | 6 => a6 | 7 => a7 | 8 => a8 | 9 => a9 | 10 => a10 | 11 => a11 | 12 => a12 | 13 => a13 | 14 => a14 | 15 => a15 | 16 => a16 | 17 => a17 | 18 => a18 | 19 => a19 | 20 => a20 | 21 => a21 | 22 => a22 | 23 => a23 | 24 => a24 | _ => a25, ⟨?_, ?_, ?_, ?_⟩, ⟨?_, ?_⟩, ?_⟩
  · intro q hq
    exact va_Nw.of rfl (hts _ (places_in (ws := ev_F.map (fun q => Cond.fieldLinkNest q.1 q.2.1 q.2.2.1 q.2.2.2.1 q.2.2.2.2.1 q.2.2.2.2.2)) [81, 82, 84, 86, 88, 90, 92, 94, 95, 97, 98, 100, 129, 131, 144, 146, 168, 169, 171, 180, 182, 208, 210, 212] (by decide +kernel) _ (List.mem_map.mpr ⟨q, hq, rfl⟩)))
  · intro q hq
    exact va_Nw.of rfl (hts _ (places_in (ws := ev_M.map (fun q => Cond.methodLinkNest q.1 q.2.1 q.2.2.1 q.2.2.2)) [124, 139, 157, 163, 203] (by decide +kernel) _ (List.mem_map.mpr ⟨q, hq, rfl⟩)))
  · intro C hC
    exact va_AO.of (hts _ (places_in (ws := ev_C.map (fun C => Cond.arrayOver (.object C))) [201, 835] (by decide +kernel) _ (List.mem_map.mpr ⟨C, hC, rfl⟩)))
  · intro k q hk
    match k, hk with
    | 0, hk => cases hk; exact vk_R.of (hts _ (List.mem_of_getElem? (i := 639) (by decide +kernel))) e0
    | 1, hk => cases hk; exact vk_R.of (hts _ (List.mem_of_getElem? (i := 692) (by decide +kernel))) e1
    | 2, hk => cases hk; exact vk_R.of (hts _ (List.mem_of_getElem? (i := 693) (by decide +kernel))) e2
    | 3, hk => cases hk; exact vk_R.of (hts _ (List.mem_of_getElem? (i := 694) (by decide +kernel))) e3
    | 4, hk => cases hk; exact vk_R.of (hts _ (List.mem_of_getElem? (i := 695) (by decide +kernel))) e4
    | 5, hk => cases hk; exact vk_R.of (hts _ (List.mem_of_getElem? (i := 696) (by decide +kernel))) e5
    | 6, hk => cases hk; exact vk_R.of (hts _ (List.mem_of_getElem? (i := 707) (by decide +kernel))) e6
    | 7, hk => cases hk; exact vk_R.of (hts _ (List.mem_of_getElem? (i := 714) (by decide +kernel))) e7
    | 8, hk => cases hk; exact vk_R.of (hts _ (List.mem_of_getElem? (i := 727) (by decide +kernel))) e8
    | 9, hk => cases hk; exact vk_R.of (hts _ (List.mem_of_getElem? (i := 736) (by decide +kernel))) e9
    | 10, hk => cases hk; exact vk_R.of (hts _ (List.mem_of_getElem? (i := 737) (by decide +kernel))) e10
    | 11, hk => cases hk; exact vk_R.of (hts _ (List.mem_of_getElem? (i := 740) (by decide +kernel))) e11
    | 12, hk => cases hk; exact vk_R.of (hts _ (List.mem_of_getElem? (i := 746) (by decide +kernel))) e12
    | 13, hk => cases hk; exact vk_R.of (hts _ (List.mem_of_getElem? (i := 836) (by decide +kernel))) e13
    | 14, hk => cases hk; exact vk_R.of (hts _ (List.mem_of_getElem? (i := 837) (by decide +kernel))) e14
    | 15, hk => cases hk; exact vk_R.of (hts _ (List.mem_of_getElem? (i := 838) (by decide +kernel))) e15
    | 16, hk => cases hk; exact vk_R.of (hts _ (List.mem_of_getElem? (i := 839) (by decide +kernel))) e16
    | 17, hk => cases hk; exact vk_R.of (hts _ (List.mem_of_getElem? (i := 840) (by decide +kernel))) e17
    | 18, hk => cases hk; exact vk_R.of (hts _ (List.mem_of_getElem? (i := 841) (by decide +kernel))) e18
    | 19, hk => cases hk; exact vk_R.of (hts _ (List.mem_of_getElem? (i := 1207) (by decide +kernel))) e19
    | 20, hk => cases hk; exact vk_R.of (hts _ (List.mem_of_getElem? (i := 1208) (by decide +kernel))) e20
    | 21, hk => cases hk; exact vk_R.of (hts _ (List.mem_of_getElem? (i := 1213) (by decide +kernel))) e21
    | 22, hk => cases hk; exact vk_R.of (hts _ (List.mem_of_getElem? (i := 1222) (by decide +kernel))) e22
    | 23, hk => cases hk; exact vk_R.of (hts _ (List.mem_of_getElem? (i := 1223) (by decide +kernel))) e23
    | 24, hk => cases hk; exact vk_R.of (hts _ (List.mem_of_getElem? (i := 1224) (by decide +kernel))) e24
    | 25, hk => cases hk; exact vk_R.of (hts _ (List.mem_of_getElem? (i := 1225) (by decide +kernel))) e25
    | k + 26, hk => simp [ev_T] at hk
  · exact va_Zof (hts _ (List.mem_of_getElem? (i := 653) (by decide +kernel))) (hts _ (List.mem_of_getElem? (i := 62) (by decide +kernel))) (va_eqt (hs _ (List.mem_of_getElem? (i := 4) (by decide +kernel)))) hA
  · exact va_Zqof (hts _ (List.mem_of_getElem? (i := 669) (by decide +kernel))) (hts _ (List.mem_of_getElem? (i := 64) (by decide +kernel))) (hs _ (List.mem_of_getElem? (i := 5) (by decide +kernel))) hA
  · intro k hk
    match k, hk with
    | 0, _ => exact o0
    | 1, _ => exact o1
    | 2, _ => exact o2
    | 3, _ => exact o3
    | 4, _ => exact o4
    | 5, _ => exact o5
    | 6, _ => exact o6
    | 7, _ => exact o7
    | 8, _ => exact o8
    | 9, _ => exact o9
    | 10, _ => exact o10
    | 11, _ => exact o11
    | 12, _ => exact o12
    | 13, _ => exact o13
    | 14, _ => exact o14
    | 15, _ => exact o15
    | 16, _ => exact o16
    | 17, _ => exact o17
    | 18, _ => exact o18
    | 19, _ => exact o19
    | 20, _ => exact o20
    | 21, _ => exact o21
    | 22, _ => exact o22
    | 23, _ => exact o23
    | 24, _ => exact o24
    | 25, _ => exact o25
    | (k + 26), hk => omega

