theorem str_one {args : Array Value} {s : State} {t : Term} {n : Int32} {A : Nat → Prop} (hex : (Cond.exactly t "java/lang/String").before args s = true) (hco : (Cond.eq (.field t "java/lang/String" "coder" "B") (.int 0)).before args s = true) (har : (Cond.arrayOf (.field t "java/lang/String" "value" "[B") .byte).before args s = true) (hle : (Cond.eq (.length (.field t "java/lang/String" "value" "[B")) (.int n)).before args s = true) (hA : ∀ a : Nat, a < s.heap.size → ¬ A a) :
    ∃ a : Nat, t.eval args s none [] s = some (.ref a) ∧ va_O "java/lang/String" a A s s.heap ∧ va_OF "java/lang/String" "coder" "B" (.int 0) a A s s.heap ∧ ∃ (v n : Nat) (f : Nat → Value), va_OF "java/lang/String" "value" "[B" (.ref v) a A s s.heap ∧ va_T .byte v n f A s s.heap := by
  obtain ⟨a, c, cA, kA, q1, q2, q3, q4, q5, q6, -⟩ := Cond.exactly_spec (args := args) (first := s) (o := none) (s := s) (idx := []) (t := t) (cls := "java/lang/String") hex
  obtain ⟨v, cell, ht, hat, hv⟩ := Term.length_spec (va_eqt hle)
  obtain ⟨hcell, hkn, -, -⟩ := State.arrayAt?_spec hat
  obtain ⟨hof, -⟩ := Cond.arrayOf_spec har ht hcell
  refine ⟨a, q1, ⟨cA, q3, q5, by rw [q6]; exact q2, hA a (Array.getElem?_eq_some_iff.mp q3).1⟩, vk_OFof q1 (va_eqt hco) hA, v, cell.slots.size, fun j => (cell.slots[j]?).getD .null, vk_OFof q1 ht hA, cell, hcell, hof, hkn, Nat.le_refl _, rfl, fun j hj => ?_, hA v (Array.getElem?_eq_some_iff.mp hcell).1⟩
  show cell.slots[j]? = some ((cell.slots[j]?).getD .null)
  rw [Array.getElem?_eq_getElem hj]
  rfl
set_option maxHeartbeats 4000000 in
set_option maxRecDepth 100000 in
theorem law_env {s : State} {b : Nat} {A : Nat → Prop} (hts : ∀ w ∈ lw_tbl, w.before #[Value.ref b] s = true) (hgv : (Jvm.Cond.and given_1 narrow_1).before #[Value.ref b] s = true) (hA : ∀ a : Nat, a < s.heap.size → ¬ A a) : ∃ ad : Nat → Nat, ev ad s ∧ sf ad A s s.heap := by
  have hs := flat_of_before _ hgv
  obtain ⟨a0, e0, o0⟩ := str_one (t := .string "LampShapes$Script" 101) (n := 5) (A := A) (hs _ (List.mem_of_getElem? (i := 9) (by decide +kernel))) (hs _ (List.mem_of_getElem? (i := 10) (by decide +kernel))) (hs _ (List.mem_of_getElem? (i := 11) (by decide +kernel))) (hs _ (List.mem_of_getElem? (i := 12) (by decide +kernel))) hA
  obtain ⟨a1, e1, o1⟩ := str_one (t := .string "LampShapes$Script" 105) (n := 6) (A := A) (hs _ (List.mem_of_getElem? (i := 18) (by decide +kernel))) (hs _ (List.mem_of_getElem? (i := 19) (by decide +kernel))) (hs _ (List.mem_of_getElem? (i := 20) (by decide +kernel))) (hs _ (List.mem_of_getElem? (i := 21) (by decide +kernel))) hA
  obtain ⟨a2, e2, o2⟩ := str_one (t := .string "LampShapes$Script" 107) (n := 8) (A := A) (hs _ (List.mem_of_getElem? (i := 28) (by decide +kernel))) (hs _ (List.mem_of_getElem? (i := 29) (by decide +kernel))) (hs _ (List.mem_of_getElem? (i := 30) (by decide +kernel))) (hs _ (List.mem_of_getElem? (i := 31) (by decide +kernel))) hA
  obtain ⟨a3, e3, o3⟩ := str_one (t := .string "LampShapes$Script" 109) (n := 6) (A := A) (hs _ (List.mem_of_getElem? (i := 40) (by decide +kernel))) (hs _ (List.mem_of_getElem? (i := 41) (by decide +kernel))) (hs _ (List.mem_of_getElem? (i := 42) (by decide +kernel))) (hs _ (List.mem_of_getElem? (i := 43) (by decide +kernel))) hA
  obtain ⟨a4, e4, o4⟩ := str_one (t := .string "LampShapes$Script" 111) (n := 6) (A := A) (hs _ (List.mem_of_getElem? (i := 50) (by decide +kernel))) (hs _ (List.mem_of_getElem? (i := 51) (by decide +kernel))) (hs _ (List.mem_of_getElem? (i := 52) (by decide +kernel))) (hs _ (List.mem_of_getElem? (i := 53) (by decide +kernel))) hA
  obtain ⟨a5, e5, o5⟩ := str_one (t := .string "LampShapes$Script" 113) (n := 6) (A := A) (hs _ (List.mem_of_getElem? (i := 60) (by decide +kernel))) (hs _ (List.mem_of_getElem? (i := 61) (by decide +kernel))) (hs _ (List.mem_of_getElem? (i := 62) (by decide +kernel))) (hs _ (List.mem_of_getElem? (i := 63) (by decide +kernel))) hA
  obtain ⟨a6, e6, o6⟩ := str_one (t := .string "LampShapes$Script" 74) (n := 5) (A := A) (hs _ (List.mem_of_getElem? (i := 70) (by decide +kernel))) (hs _ (List.mem_of_getElem? (i := 71) (by decide +kernel))) (hs _ (List.mem_of_getElem? (i := 72) (by decide +kernel))) (hs _ (List.mem_of_getElem? (i := 73) (by decide +kernel))) hA
  obtain ⟨a7, e7, o7⟩ := str_one (t := .string "LampShapes$Script" 83) (n := 4) (A := A) (hs _ (List.mem_of_getElem? (i := 79) (by decide +kernel))) (hs _ (List.mem_of_getElem? (i := 80) (by decide +kernel))) (hs _ (List.mem_of_getElem? (i := 81) (by decide +kernel))) (hs _ (List.mem_of_getElem? (i := 82) (by decide +kernel))) hA
  obtain ⟨a8, e8, o8⟩ := str_one (t := .string "LampShapes$Script" 144) (n := 4) (A := A) (hs _ (List.mem_of_getElem? (i := 87) (by decide +kernel))) (hs _ (List.mem_of_getElem? (i := 88) (by decide +kernel))) (hs _ (List.mem_of_getElem? (i := 89) (by decide +kernel))) (hs _ (List.mem_of_getElem? (i := 90) (by decide +kernel))) hA
  obtain ⟨a9, e9, o9⟩ := str_one (t := .string "LampShapes$Script" 149) (n := 4) (A := A) (hs _ (List.mem_of_getElem? (i := 95) (by decide +kernel))) (hs _ (List.mem_of_getElem? (i := 96) (by decide +kernel))) (hs _ (List.mem_of_getElem? (i := 97) (by decide +kernel))) (hs _ (List.mem_of_getElem? (i := 98) (by decide +kernel))) hA
  obtain ⟨a10, e10, o10⟩ := str_one (t := .string "LampShapes$Script" 151) (n := 2) (A := A) (hs _ (List.mem_of_getElem? (i := 103) (by decide +kernel))) (hs _ (List.mem_of_getElem? (i := 104) (by decide +kernel))) (hs _ (List.mem_of_getElem? (i := 105) (by decide +kernel))) (hs _ (List.mem_of_getElem? (i := 106) (by decide +kernel))) hA
  obtain ⟨a11, e11, o11⟩ := str_one (t := .string "LampShapes$Script" 88) (n := 4) (A := A) (hs _ (List.mem_of_getElem? (i := 109) (by decide +kernel))) (hs _ (List.mem_of_getElem? (i := 110) (by decide +kernel))) (hs _ (List.mem_of_getElem? (i := 111) (by decide +kernel))) (hs _ (List.mem_of_getElem? (i := 112) (by decide +kernel))) hA
  obtain ⟨a12, e12, o12⟩ := str_one (t := .string "LampShapes$Script" 93) (n := 4) (A := A) (hs _ (List.mem_of_getElem? (i := 117) (by decide +kernel))) (hs _ (List.mem_of_getElem? (i := 118) (by decide +kernel))) (hs _ (List.mem_of_getElem? (i := 119) (by decide +kernel))) (hs _ (List.mem_of_getElem? (i := 120) (by decide +kernel))) hA
  obtain ⟨a13, e13, o13⟩ := str_one (t := .string "LampShapesModel" 37) (n := 5) (A := A) (hs _ (List.mem_of_getElem? (i := 125) (by decide +kernel))) (hs _ (List.mem_of_getElem? (i := 126) (by decide +kernel))) (hs _ (List.mem_of_getElem? (i := 127) (by decide +kernel))) (hs _ (List.mem_of_getElem? (i := 128) (by decide +kernel))) hA
  obtain ⟨a14, e14, o14⟩ := str_one (t := .string "LampShapesModel" 39) (n := 6) (A := A) (hs _ (List.mem_of_getElem? (i := 135) (by decide +kernel))) (hs _ (List.mem_of_getElem? (i := 136) (by decide +kernel))) (hs _ (List.mem_of_getElem? (i := 137) (by decide +kernel))) (hs _ (List.mem_of_getElem? (i := 138) (by decide +kernel))) hA
  obtain ⟨a15, e15, o15⟩ := str_one (t := .string "LampShapesModel" 41) (n := 8) (A := A) (hs _ (List.mem_of_getElem? (i := 146) (by decide +kernel))) (hs _ (List.mem_of_getElem? (i := 147) (by decide +kernel))) (hs _ (List.mem_of_getElem? (i := 148) (by decide +kernel))) (hs _ (List.mem_of_getElem? (i := 149) (by decide +kernel))) hA
  obtain ⟨a16, e16, o16⟩ := str_one (t := .string "LampShapesModel" 43) (n := 6) (A := A) (hs _ (List.mem_of_getElem? (i := 159) (by decide +kernel))) (hs _ (List.mem_of_getElem? (i := 160) (by decide +kernel))) (hs _ (List.mem_of_getElem? (i := 161) (by decide +kernel))) (hs _ (List.mem_of_getElem? (i := 162) (by decide +kernel))) hA
  obtain ⟨a17, e17, o17⟩ := str_one (t := .string "LampShapesModel" 45) (n := 6) (A := A) (hs _ (List.mem_of_getElem? (i := 170) (by decide +kernel))) (hs _ (List.mem_of_getElem? (i := 171) (by decide +kernel))) (hs _ (List.mem_of_getElem? (i := 172) (by decide +kernel))) (hs _ (List.mem_of_getElem? (i := 173) (by decide +kernel))) hA
  obtain ⟨a18, e18, o18⟩ := str_one (t := .string "LampShapesModel" 47) (n := 6) (A := A) (hs _ (List.mem_of_getElem? (i := 181) (by decide +kernel))) (hs _ (List.mem_of_getElem? (i := 182) (by decide +kernel))) (hs _ (List.mem_of_getElem? (i := 183) (by decide +kernel))) (hs _ (List.mem_of_getElem? (i := 184) (by decide +kernel))) hA
  obtain ⟨a19, e19, o19⟩ := str_one (t := .string "LampShapesModel" 251) (n := 5) (A := A) (hs _ (List.mem_of_getElem? (i := 192) (by decide +kernel))) (hs _ (List.mem_of_getElem? (i := 193) (by decide +kernel))) (hs _ (List.mem_of_getElem? (i := 194) (by decide +kernel))) (hs _ (List.mem_of_getElem? (i := 195) (by decide +kernel))) hA
  obtain ⟨a20, e20, o20⟩ := str_one (t := .string "LampShapesModel" 256) (n := 4) (A := A) (hs _ (List.mem_of_getElem? (i := 202) (by decide +kernel))) (hs _ (List.mem_of_getElem? (i := 203) (by decide +kernel))) (hs _ (List.mem_of_getElem? (i := 204) (by decide +kernel))) (hs _ (List.mem_of_getElem? (i := 205) (by decide +kernel))) hA
  obtain ⟨a21, e21, o21⟩ := str_one (t := .string "LampShapesModel" 268) (n := 4) (A := A) (hs _ (List.mem_of_getElem? (i := 211) (by decide +kernel))) (hs _ (List.mem_of_getElem? (i := 212) (by decide +kernel))) (hs _ (List.mem_of_getElem? (i := 213) (by decide +kernel))) (hs _ (List.mem_of_getElem? (i := 214) (by decide +kernel))) hA
  obtain ⟨a22, e22, o22⟩ := str_one (t := .string "LampShapesModel" 274) (n := 4) (A := A) (hs _ (List.mem_of_getElem? (i := 220) (by decide +kernel))) (hs _ (List.mem_of_getElem? (i := 221) (by decide +kernel))) (hs _ (List.mem_of_getElem? (i := 222) (by decide +kernel))) (hs _ (List.mem_of_getElem? (i := 223) (by decide +kernel))) hA
  obtain ⟨a23, e23, o23⟩ := str_one (t := .string "LampShapesModel" 276) (n := 2) (A := A) (hs _ (List.mem_of_getElem? (i := 229) (by decide +kernel))) (hs _ (List.mem_of_getElem? (i := 230) (by decide +kernel))) (hs _ (List.mem_of_getElem? (i := 231) (by decide +kernel))) (hs _ (List.mem_of_getElem? (i := 232) (by decide +kernel))) hA
  obtain ⟨a24, e24, o24⟩ := str_one (t := .string "LampShapesModel" 261) (n := 4) (A := A) (hs _ (List.mem_of_getElem? (i := 236) (by decide +kernel))) (hs _ (List.mem_of_getElem? (i := 237) (by decide +kernel))) (hs _ (List.mem_of_getElem? (i := 238) (by decide +kernel))) (hs _ (List.mem_of_getElem? (i := 239) (by decide +kernel))) hA
  obtain ⟨a25, e25, o25⟩ := str_one (t := .string "LampShapesModel" 266) (n := 4) (A := A) (hs _ (List.mem_of_getElem? (i := 245) (by decide +kernel))) (hs _ (List.mem_of_getElem? (i := 246) (by decide +kernel))) (hs _ (List.mem_of_getElem? (i := 247) (by decide +kernel))) (hs _ (List.mem_of_getElem? (i := 248) (by decide +kernel))) hA
  refine ⟨fun k => match k with | 0 => a0 | 1 => a1 | 2 => a2 | 3 => a3 | 4 => a4 | 5 => a5 | 6 => a6 | 7 => a7 | 8 => a8 | 9 => a9 | 10 => a10 | 11 => a11 | 12 => a12 | 13 => a13 | 14 => a14 | 15 => a15 | 16 => a16 | 17 => a17 | 18 => a18 | 19 => a19 | 20 => a20 | 21 => a21 | 22 => a22 | 23 => a23 | 24 => a24 | _ => a25, ⟨?_, ?_, ?_, ?_⟩, ?_, ?_⟩
  · intro q hq
    exact va_Nw.of rfl (hts _ (places_in (ws := ev_F.map (fun q => Cond.fieldLinkNest q.1 q.2.1 q.2.2.1 q.2.2.2.1 q.2.2.2.2.1 q.2.2.2.2.2)) [81, 82, 84, 86, 88, 90, 92, 94, 95, 97, 98, 100, 129, 131, 144, 146, 168, 169, 171, 180, 182, 208, 210, 212] (by decide +kernel) _ (List.mem_map.mpr ⟨q, hq, rfl⟩)))
  · intro q hq
    exact va_Nw.of rfl (hts _ (places_in (ws := ev_M.map (fun q => Cond.methodLinkNest q.1 q.2.1 q.2.2.1 q.2.2.2)) [124, 139, 157, 163, 203] (by decide +kernel) _ (List.mem_map.mpr ⟨q, hq, rfl⟩)))
  · intro C hC
    exact va_AO.of (hts _ (places_in (ws := ev_C.map (fun C => Cond.arrayOver (.object C))) [201, 835] (by decide +kernel) _ (List.mem_map.mpr ⟨C, hC, rfl⟩)))
  · intro k q hk
    match k, hk with
    | 0, hk => cases hk; exact vk_R.of (hts _ (List.mem_of_getElem? (i := 639) (by decide +kernel))) e0
    | 1, hk => cases hk; exact vk_R.of (hts _ (List.mem_of_getElem? (i := 692) (by decide +kernel))) e1
    | 2, hk => cases hk; exact vk_R.of (hts _ (List.mem_of_getElem? (i := 693) (by decide +kernel))) e2
    | 3, hk => cases hk; exact vk_R.of (hts _ (List.mem_of_getElem? (i := 694) (by decide +kernel))) e3
    | 4, hk => cases hk; exact vk_R.of (hts _ (List.mem_of_getElem? (i := 695) (by decide +kernel))) e4
    | 5, hk => cases hk; exact vk_R.of (hts _ (List.mem_of_getElem? (i := 696) (by decide +kernel))) e5
    | 6, hk => cases hk; exact vk_R.of (hts _ (List.mem_of_getElem? (i := 707) (by decide +kernel))) e6
    | 7, hk => cases hk; exact vk_R.of (hts _ (List.mem_of_getElem? (i := 714) (by decide +kernel))) e7
    | 8, hk => cases hk; exact vk_R.of (hts _ (List.mem_of_getElem? (i := 727) (by decide +kernel))) e8
    | 9, hk => cases hk; exact vk_R.of (hts _ (List.mem_of_getElem? (i := 736) (by decide +kernel))) e9
    | 10, hk => cases hk; exact vk_R.of (hts _ (List.mem_of_getElem? (i := 737) (by decide +kernel))) e10
    | 11, hk => cases hk; exact vk_R.of (hts _ (List.mem_of_getElem? (i := 740) (by decide +kernel))) e11
    | 12, hk => cases hk; exact vk_R.of (hts _ (List.mem_of_getElem? (i := 746) (by decide +kernel))) e12
    | 13, hk => cases hk; exact vk_R.of (hts _ (List.mem_of_getElem? (i := 836) (by decide +kernel))) e13
    | 14, hk => cases hk; exact vk_R.of (hts _ (List.mem_of_getElem? (i := 837) (by decide +kernel))) e14
    | 15, hk => cases hk; exact vk_R.of (hts _ (List.mem_of_getElem? (i := 838) (by decide +kernel))) e15
    | 16, hk => cases hk; exact vk_R.of (hts _ (List.mem_of_getElem? (i := 839) (by decide +kernel))) e16
    | 17, hk => cases hk; exact vk_R.of (hts _ (List.mem_of_getElem? (i := 840) (by decide +kernel))) e17
    | 18, hk => cases hk; exact vk_R.of (hts _ (List.mem_of_getElem? (i := 841) (by decide +kernel))) e18
    | 19, hk => cases hk; exact vk_R.of (hts _ (List.mem_of_getElem? (i := 1207) (by decide +kernel))) e19
    | 20, hk => cases hk; exact vk_R.of (hts _ (List.mem_of_getElem? (i := 1208) (by decide +kernel))) e20
    | 21, hk => cases hk; exact vk_R.of (hts _ (List.mem_of_getElem? (i := 1213) (by decide +kernel))) e21
    | 22, hk => cases hk; exact vk_R.of (hts _ (List.mem_of_getElem? (i := 1222) (by decide +kernel))) e22
    | 23, hk => cases hk; exact vk_R.of (hts _ (List.mem_of_getElem? (i := 1223) (by decide +kernel))) e23
    | 24, hk => cases hk; exact vk_R.of (hts _ (List.mem_of_getElem? (i := 1224) (by decide +kernel))) e24
    | 25, hk => cases hk; exact vk_R.of (hts _ (List.mem_of_getElem? (i := 1225) (by decide +kernel))) e25
    | k + 26, hk => simp [ev_T] at hk
  · exact va_Zof (hts _ (List.mem_of_getElem? (i := 653) (by decide +kernel))) (hts _ (List.mem_of_getElem? (i := 62) (by decide +kernel))) (va_eqt (hs _ (List.mem_of_getElem? (i := 4) (by decide +kernel)))) hA
  · intro k hk
    match k, hk with
    | 0, _ => exact o0
    | 1, _ => exact o1
    | 2, _ => exact o2
    | 3, _ => exact o3
    | 4, _ => exact o4
    | 5, _ => exact o5
    | 6, _ => exact o6
    | 7, _ => exact o7
    | 8, _ => exact o8
    | 9, _ => exact o9
    | 10, _ => exact o10
    | 11, _ => exact o11
    | 12, _ => exact o12
    | 13, _ => exact o13
    | 14, _ => exact o14
    | 15, _ => exact o15
    | 16, _ => exact o16
    | 17, _ => exact o17
    | 18, _ => exact o18
    | 19, _ => exact o19
    | 20, _ => exact o20
    | 21, _ => exact o21
    | 22, _ => exact o22
    | 23, _ => exact o23
    | 24, _ => exact o24
    | 25, _ => exact o25
    | (k + 26), hk => omega

