def w_c_coder : List Cond := .code yJ0_coder_7d493 cJ0_coder_7d493 1 (some .byte) :: ([.fieldLink RJ0 38 "java/lang/String" "COMPACT_STRINGS" "Z", .fieldLink RJ0 15 "java/lang/String" "coder" "B"] : List Cond)

def w_c_length : List Cond := .code yJ0_length_8abf5 cJ0_length_8abf5 1 (some .int) :: ([.fieldLink RJ0 9 "java/lang/String" "value" "[B", .methodLink RJ0 335 yJ0_coder_7d493, .instanceMethod yJ0_coder_7d493, .selects RJ0 yJ0_coder_7d493 yJ0_coder_7d493, .initialized RJ0, .code yJ0_coder_7d493 cJ0_coder_7d493 1 (some .byte), .fieldLink RJ0 38 "java/lang/String" "COMPACT_STRINGS" "Z", .fieldLink RJ0 15 "java/lang/String" "coder" "B"] : List Cond)

set_option maxRecDepth 20000 in
theorem g_c_length_c_coder : GoodIn w_c_length (wsV RJ0 335 RJ0 yJ0_coder_7d493 w_c_coder) := goodIn_r _ [2, 3, 4, 5, 6, 7, 8] rfl (by decide +kernel)

set_option maxHeartbeats 4000000 in
set_option maxRecDepth 100000 in
/-- String.coder() of a constant -/
theorem c_coder (l : Launch) (dC : Nat → ClassId) (dI : Nat → Nat → Nat) (ad : Nat → Nat) (kk : Nat) (hkk : kk < 26) : Met l yJ0_coder_7d493 w_c_coder ({ frames := 0, cells := 0, slots := 0, locals := 0 } : Room) (va_Pc [.ref (ad kk)] (preST dC dI ad [] [])) (vp_Si (fun r => r = 0)) 0 0 (fun _ => False) := by
  refine Met.ofW (cc := cJ0_coder_7d493) (maxL := 1) (ret := (some .byte)) (by decide) rfl ?_
  intro p e s m args below meth c s₁ B hml hv
  obtain ⟨rfl, ⟨hP, hK, hev⟩, hsf⟩ := hv
  have hx := B.exec
  have hb := B.bytes
  have hr := B.returns
  have hts := atoms_spec (ws := w_c_coder) B.pre
  have hown : s.vm.findClass RJ0 = some m.cls := findClass_of_methodNamed B.named
  have hlocks := B.notSynchronized
  have hS : va_S (fun _ => False) s.heap s.heap [] := va_S.rf
  have hl := lv_entry ([.ref (ad kk)]) (n := 1) (Nat.le_of_ble_eq_true rfl)
  rw [lg_entry_eq]
  generalize (lg_sl ([.ref (ad kk)]) ++ List.replicate (1 - (lg_sl ([.ref (ad kk)])).length) Slot.unset).toArray = ls at hl ⊢
  have hl : lv_has ls 1 [(0, .ref (ad kk))] := hl
  refine va_gets hx hb hsf.1 hS hown (hts _ (List.mem_of_getElem? (i := 1) rfl)) (fun _ h9 => h9) dJ0_coder_7d493_0 ?_
  refine lv_if_eq (tgt := 13) hx hb dJ0_coder_7d493_3 (by decide) (fun c => absurd c (by decide)) (fun _ => ?_)
  refine lv_aload_n hx hb dJ0_coder_7d493_6 rfl (lv_at hl 0 rfl) ?_
  refine vk_getf hx hb (hsf.2 kk hkk).2.1 hS hown (hts _ (List.mem_of_getElem? (i := 2) rfl)) (fun _ h9 => h9) dJ0_coder_7d493_7 ?_
  refine lv_goto (tgt := 14) hx hb dJ0_coder_7d493_10 (by decide) ?_
  exact W.zret (v := 0) hx hb hr (by decide) (fun t ht hW => ⟨0, rfl, rfl, ht⟩) (fun _ h => absurd h List.not_mem_nil) dJ0_coder_7d493_14

set_option maxHeartbeats 4000000 in
set_option maxRecDepth 100000 in
/-- String.length() of a constant: some number -/
theorem c_length (l : Launch) (dC : Nat → ClassId) (dI : Nat → Nat → Nat) (ad : Nat → Nat) (kk : Nat) (hkk : kk < 26) : Met l yJ0_length_8abf5 w_c_length ({ frames := 1, cells := 0, slots := 0, locals := 20 } : Room) (va_Pc [.ref (ad kk)] (preST dC dI ad [] [])) (vp_Si (fun r => True)) 0 0 (fun _ => False) := by
  refine Met.ofW (cc := cJ0_length_8abf5) (maxL := 1) (ret := (some .int)) (by decide) rfl ?_
  intro p e s m args below meth c s₁ B hml hv
  obtain ⟨rfl, ⟨hP, hK, hev⟩, hsf⟩ := hv
  have hx := B.exec
  have hb := B.bytes
  have hr := B.returns
  have hts := atoms_spec (ws := w_c_length) B.pre
  have hown : s.vm.findClass RJ0 = some m.cls := findClass_of_methodNamed B.named
  have hlocks := B.notSynchronized
  have hS : va_S (fun _ => False) s.heap s.heap [] := va_S.rf
  have hl := lv_entry ([.ref (ad kk)]) (n := 1) (Nat.le_of_ble_eq_true rfl)
  rw [lg_entry_eq]
  generalize (lg_sl ([.ref (ad kk)]) ++ List.replicate (1 - (lg_sl ([.ref (ad kk)])).length) Slot.unset).toArray = ls at hl ⊢
  have hl : lv_has ls 1 [(0, .ref (ad kk))] := hl
  obtain ⟨v, n, f, h1, h2⟩ := (hsf.2 kk hkk).2.2
  refine lv_aload_n hx hb dJ0_length_8abf5_0 rfl (lv_at hl 0 rfl) ?_
  refine vk_getf hx hb h1 hS hown (hts _ (List.mem_of_getElem? (i := 1) rfl)) (fun _ h9 => h9) dJ0_length_8abf5_1 ?_
  refine va_tlen (v := Int32.ofNat n) hx hb h2 hS rfl dJ0_length_8abf5_4 ?_
  refine lv_aload_n hx hb dJ0_length_8abf5_5 rfl (lv_at hl 0 rfl) ?_
  refine vp_callSi (W.runV (C := RJ0) (As := []) (rest := [.int (Int32.ofNat n)]) ⟨hx, hb, hml, hown, hts⟩ (c_coder l dC dI ad kk hkk) (cwV 0 hts g_c_length_c_coder rfl rfl rfl (by decide +kernel) ⟨Nat.le_of_ble_eq_true rfl, Nat.le_of_ble_eq_true rfl⟩) ⟨preST_blind, sf_recv hsf hS kk hkk, fun U hU hW => ⟨rfl, preS_at hU hW hP hK hev, sf_at hsf hS (fun _ h => h) hU hW⟩⟩ rfl rfl hl.1 rfl (lv_room (Nat.le_of_ble_eq_true rfl)) dJ0_length_8abf5_6 ⟨Nat.le_of_ble_eq_true rfl, Nat.le_of_ble_eq_true rfl⟩) (fun r hw => ?_)
  subst hw
  refine lv_ishr hx hb dJ0_length_8abf5_9 ?_
  exact W.iret (v := Int32.ofNat n >>> (0 &&& 31)) hx hb hr (fun t ht hW => ⟨_, rfl, trivial, ht⟩) (fun _ h => absurd h List.not_mem_nil) dJ0_length_8abf5_10

def w_c_advance : List Cond := .code yX4_advance cX4_advance 1 none :: (([.fieldLink RX4 32 "LampShapes$Script" "end" "I", .fieldLink RX4 29 "LampShapes$Script" "start" "I", .fieldLink RX4 12 "LampShapes$Script" "tape" "LLampShapes$Tape;", .fieldLink RX4 25 "LampShapes$Script" "token" "I"] : List Cond) ++ wsX40 ++ wsX70)
set_option maxHeartbeats 4000000 in
set_option maxRecDepth 100000 in
/-- advance() over an empty tape -/
theorem c_advance (l : Launch) (dC : Nat → ClassId) (dI : Nat → Nat → Nat) (ad : Nat → Nat) (h0 : Nat) (eh : Nat) (y1 : Value) (y2 : Value) (y3 : Value) (y5 : Value) (z1 : Value) (sz : Nat) : Met l yX4_advance w_c_advance ({ frames := 0, cells := 0, slots := 0, locals := 0 } : Room) (va_Pc [.ref h0] (preM dC dI ad [] [(h0, .inr (2, [.ref eh, y1, y2, y3, .int 0, y5])), (eh, .inr (5, [.int 0, z1]))] sz)) (va_Qv (fun (_ : Unit) => True) (fun _ t => va_P (dC, dI) vwCl [(h0, .inr (2, [.ref eh, y1, .int 0, .int 0, .int 0, y5])), (eh, .inr (5, [.int 0, z1]))] t.heap ∧ va_K (dC, dI) vwCl [] t ∧ va_D (va_A [(h0, .inr (2, [.ref eh, y1, y2, y3, .int 0, y5])), (eh, .inr (5, [.int 0, z1]))] sz) [(h0, .inr (2, [.ref eh, y1, .int 0, .int 0, .int 0, y5])), (eh, .inr (5, [.int 0, z1]))]) (va_A [(h0, .inr (2, [.ref eh, y1, y2, y3, .int 0, y5])), (eh, .inr (5, [.int 0, z1]))] sz)) 0 0 (va_A [(h0, .inr (2, [.ref eh, y1, y2, y3, .int 0, y5])), (eh, .inr (5, [.int 0, z1]))] sz) := by
  refine Met.ofW (cc := cX4_advance) (maxL := 1) (ret := none) (by decide) rfl ?_
  intro p e s m args below meth c s₁ B hml hv
  obtain ⟨rfl, hsz, hP, hK, hD0, hev⟩ := hv
  have hx := B.exec
  have hb := B.bytes
  have hr := B.returns
  have hts := atoms_spec (ws := w_c_advance) B.pre
  have hown : s.vm.findClass RX4 = some m.cls := findClass_of_methodNamed B.named
  have hlocks := B.notSynchronized
  have inX4 : ∀ w ∈ wsX40, w ∈ w_c_advance := fun w h => List.mem_cons_of_mem _ (List.mem_append_left _ (List.mem_append_right _ h))
  have inX7 : ∀ w ∈ wsX70, w ∈ w_c_advance := fun w h => List.mem_cons_of_mem _ (List.mem_append_right _ h)
  subst hsz
  have hD := hD0.self (sz := s.heap.size)
  generalize hAe : va_A [(h0, .inr (2, [.ref eh, y1, y2, y3, .int 0, y5])), (eh, .inr (5, [.int 0, z1]))] s.heap.size = A at hD ⊢
  have hA : ∀ q : Nat, s.heap.size ≤ q → A q := fun q h => by rw [← hAe]; exact Or.inr h
  have hS : va_S A s.heap s.heap [] := va_S.rf
  have hP : va_P (dC, dI) vwCl [(h0, .inr (2, [.ref eh, y1, y2, y3, .int 0, y5])), (eh, .inr (5, [.int 0, z1]))] s.heap := hP
  have hl := lv_entry ([.ref h0]) (n := 1) (Nat.le_of_ble_eq_true rfl)
  rw [lg_entry_eq]
  generalize (lg_sl ([.ref h0]) ++ List.replicate (1 - (lg_sl ([.ref h0])).length) Slot.unset).toArray = ls at hl ⊢
  have hl : lv_has ls 1 [(0, .ref h0)] := hl
  refine lv_aload_n hx hb dX4_advance_0 rfl (lv_at hl 0 rfl) ?_
  refine lv_aload_n hx hb dX4_advance_1 rfl (lv_at hl 0 rfl) ?_
  refine va_get (D := (dC, dI)) (ci := 2) (v := .int 0) (C := RX4) (T := TX4) (N := 6) hx hb hts inX4 hown hK hP 0 rfl rfl 4 (by decide) (hts _ (List.mem_of_getElem? (i := 1) rfl)) (fun _ h9 => h9) rfl dX4_advance_2 ?_
  refine va_put (D := (dC, dI)) (ci := 2) (v := .int 0) (ty := .int) (C := RX4) (T := TX4) (N := 6) hx hb hts inX4 tyX4 tyX4_ok nmX4 hown hK hP hD hS 0 rfl rfl 3 (by decide) (hts _ (List.mem_of_getElem? (i := 2) rfl)) (fun _ h9 => h9) rfl (by decide +kernel) rfl rfl (Nat.le_of_ble_eq_true rfl) dX4_advance_5 (fun H locs hP hD hS => ?_)
  have hP : va_P (dC, dI) vwCl [(h0, .inr (2, [.ref eh, y1, y2, .int 0, .int 0, y5])), (eh, .inr (5, [.int 0, z1]))] H := hP
  have hD : va_D A [(h0, .inr (2, [.ref eh, y1, y2, .int 0, .int 0, y5])), (eh, .inr (5, [.int 0, z1]))] := hD
  refine lv_aload_n hx hb dX4_advance_8 rfl (lv_at hl 0 rfl) ?_
  refine va_get (D := (dC, dI)) (ci := 2) (v := .int 0) (C := RX4) (T := TX4) (N := 6) hx hb hts inX4 hown hK hP 0 rfl rfl 3 (by decide) (hts _ (List.mem_of_getElem? (i := 2) rfl)) (fun _ h9 => h9) rfl dX4_advance_9 ?_
  refine lv_aload_n hx hb dX4_advance_12 rfl (lv_at hl 0 rfl) ?_
  refine va_get (D := (dC, dI)) (ci := 2) (v := .ref eh) (C := RX4) (T := TX4) (N := 6) hx hb hts inX4 hown hK hP 0 rfl rfl 0 (by decide) (hts _ (List.mem_of_getElem? (i := 3) rfl)) (fun _ h9 => h9) rfl dX4_advance_13 ?_
  refine va_getN (D := (dC, dI)) (ci := 5) (v := .int 0) (C := RX7) (T := TX7) (N := 2) hx hb hts inX7 hown hK hP 1 rfl rfl 0 (by decide) (ev_nest hev 16 rfl) (fun _ h9 => h9) rfl dX4_advance_16 ?_
  refine lv_icmp_ge (tgt := 54) hx hb dX4_advance_19 (by decide) (fun _ => ?_) (fun c => absurd (by decide) c)
  refine lv_aload_n hx hb dX4_advance_54 rfl (lv_at hl 0 rfl) ?_
  refine lv_aload_n hx hb dX4_advance_55 rfl (lv_at hl 0 rfl) ?_
  refine va_get (D := (dC, dI)) (ci := 2) (v := .int 0) (C := RX4) (T := TX4) (N := 6) hx hb hts inX4 hown hK hP 0 rfl rfl 3 (by decide) (hts _ (List.mem_of_getElem? (i := 2) rfl)) (fun _ h9 => h9) rfl dX4_advance_56 ?_
  refine va_put (D := (dC, dI)) (ci := 2) (v := .int 0) (ty := .int) (C := RX4) (T := TX4) (N := 6) hx hb hts inX4 tyX4 tyX4_ok nmX4 hown hK hP hD hS 0 rfl rfl 4 (by decide) (hts _ (List.mem_of_getElem? (i := 1) rfl)) (fun _ h9 => h9) rfl (by decide +kernel) rfl rfl (Nat.le_of_ble_eq_true rfl) dX4_advance_59 (fun H locs hP hD hS => ?_)
  have hP : va_P (dC, dI) vwCl [(h0, .inr (2, [.ref eh, y1, y2, .int 0, .int 0, y5])), (eh, .inr (5, [.int 0, z1]))] H := hP
  have hD : va_D A [(h0, .inr (2, [.ref eh, y1, y2, .int 0, .int 0, y5])), (eh, .inr (5, [.int 0, z1]))] := hD
  refine lv_aload_n hx hb dX4_advance_62 rfl (lv_at hl 0 rfl) ?_
  refine va_get (D := (dC, dI)) (ci := 2) (v := .int 0) (C := RX4) (T := TX4) (N := 6) hx hb hts inX4 hown hK hP 0 rfl rfl 3 (by decide) (hts _ (List.mem_of_getElem? (i := 2) rfl)) (fun _ h9 => h9) rfl dX4_advance_63 ?_
  refine lv_aload_n hx hb dX4_advance_66 rfl (lv_at hl 0 rfl) ?_
  refine va_get (D := (dC, dI)) (ci := 2) (v := .ref eh) (C := RX4) (T := TX4) (N := 6) hx hb hts inX4 hown hK hP 0 rfl rfl 0 (by decide) (hts _ (List.mem_of_getElem? (i := 3) rfl)) (fun _ h9 => h9) rfl dX4_advance_67 ?_
  refine va_getN (D := (dC, dI)) (ci := 5) (v := .int 0) (C := RX7) (T := TX7) (N := 2) hx hb hts inX7 hown hK hP 1 rfl rfl 0 (by decide) (ev_nest hev 16 rfl) (fun _ h9 => h9) rfl dX4_advance_70 ?_
  refine lv_icmp_lt (tgt := 82) hx hb dX4_advance_73 (by decide) (fun c => absurd c (by decide)) (fun _ => ?_)
  refine lv_aload_n hx hb dX4_advance_76 rfl (lv_at hl 0 rfl) ?_
  refine lv_iconst (v := 0) hx hb dX4_advance_77 (by decide) ?_
  refine va_put (D := (dC, dI)) (ci := 2) (v := .int 0) (ty := .int) (C := RX4) (T := TX4) (N := 6) hx hb hts inX4 tyX4 tyX4_ok nmX4 hown hK hP hD hS 0 rfl rfl 2 (by decide) (hts _ (List.mem_of_getElem? (i := 4) rfl)) (fun _ h9 => h9) rfl (by decide +kernel) rfl rfl (Nat.le_of_ble_eq_true rfl) dX4_advance_78 (fun H locs hP hD hS => ?_)
  have hP : va_P (dC, dI) vwCl [(h0, .inr (2, [.ref eh, y1, .int 0, .int 0, .int 0, y5])), (eh, .inr (5, [.int 0, z1]))] H := hP
  have hD : va_D A [(h0, .inr (2, [.ref eh, y1, .int 0, .int 0, .int 0, y5])), (eh, .inr (5, [.int 0, z1]))] := hD
  have hP9 := hP.sub (ws' := [(h0, .inr (2, [.ref eh, y1, .int 0, .int 0, .int 0, y5])), (eh, .inr (5, [.int 0, z1]))]) [0, 1] rfl
  have hD9 := hD.sub (ws' := [(h0, .inr (2, [.ref eh, y1, .int 0, .int 0, .int 0, y5])), (eh, .inr (5, [.int 0, z1]))]) [0, 1] (by decide) rfl
  have hK9 := hK.sub (tys' := []) [] rfl
  exact W.vret hx hb hr (fun t ht hW => ⟨⟨(), rfl, trivial, by rw [ht]; exact hP9, va_K.moved hW.alike hK9, hD9⟩, hS.F ht⟩) hS.2.2 dX4_advance_81

def w_c_isWord : List Cond := .code yX4_isWord cX4_isWord 3 (some .boolean) :: (([.fieldLink RX4 25 "LampShapes$Script" "token" "I"] : List Cond) ++ wsX40)
set_option maxHeartbeats 4000000 in
set_option maxRecDepth 100000 in
theorem c_isWord (l : Launch) (dC : Nat → ClassId) (dI : Nat → Nat → Nat) (ad : Nat → Nat) (h0 : Nat) (wd : Nat) (y0 : Value) (y1 : Value) (y3 : Value) (y4 : Value) (y5 : Value) : Met l yX4_isWord w_c_isWord ({ frames := 0, cells := 0, slots := 0, locals := 0 } : Room) (va_Pc [.ref h0, .ref wd] (preS dC dI ad [] [(h0, .inr (2, [y0, y1, .int 0, y3, y4, y5]))])) (vp_Si (fun r => (r = 0))) 0 0 (fun _ => False) := by
  refine Met.ofW (cc := cX4_isWord) (maxL := 3) (ret := (some .boolean)) (by decide) rfl ?_
  intro p e s m args below meth c s₁ B hml hv
  obtain ⟨rfl, hP, hK, hev⟩ := hv
  have hx := B.exec
  have hb := B.bytes
  have hr := B.returns
  have hts := atoms_spec (ws := w_c_isWord) B.pre
  have hown : s.vm.findClass RX4 = some m.cls := findClass_of_methodNamed B.named
  have hlocks := B.notSynchronized
  have inX4 : ∀ w ∈ wsX40, w ∈ w_c_isWord := fun w h => List.mem_cons_of_mem _ (List.mem_append_right _ h)
  have hP : va_P (dC, dI) vwCl [(h0, .inr (2, [y0, y1, .int 0, y3, y4, y5]))] s.heap := hP
  have hl := lv_entry ([.ref h0, .ref wd]) (n := 3) (Nat.le_of_ble_eq_true rfl)
  rw [lg_entry_eq]
  generalize (lg_sl ([.ref h0, .ref wd]) ++ List.replicate (3 - (lg_sl ([.ref h0, .ref wd])).length) Slot.unset).toArray = ls at hl ⊢
  have hl : lv_has ls 3 [(0, .ref h0), (1, .ref wd)] := hl
  refine lv_aload_n hx hb dX4_isWord_0 rfl (lv_at hl 0 rfl) ?_
  refine va_get (D := (dC, dI)) (ci := 2) (v := .int 0) (C := RX4) (T := TX4) (N := 6) hx hb hts inX4 hown hK hP 0 rfl rfl 2 (by decide) (hts _ (List.mem_of_getElem? (i := 1) rfl)) (fun _ h9 => h9) rfl dX4_isWord_1 ?_
  refine lv_iconst (v := 1) hx hb dX4_isWord_4 (by decide) ?_
  refine lv_icmp_ne (tgt := 24) hx hb dX4_isWord_5 (by decide) (fun _ => ?_) (fun c => absurd c (by decide))
  refine lv_iconst (v := 0) hx hb dX4_isWord_24 (by decide) ?_
  exact W.zret (v := 0) hx hb hr (by decide) (fun t ht hW => ⟨0, rfl, rfl, ht⟩) (fun _ h => absurd h List.not_mem_nil) dX4_isWord_25

def w_c_passes : List Cond := .code yX4_passes cX4_passes 2 (some .boolean) :: (([.methodLink RX4 76 yX4_isWord, .instanceMethod yX4_isWord, .selects RX4 yX4_isWord yX4_isWord, .initialized RX4, .code yX4_isWord cX4_isWord 3 (some .boolean), .fieldLink RX4 25 "LampShapes$Script" "token" "I"] : List Cond) ++ wsX40)
set_option maxRecDepth 20000 in
theorem g_c_passes_c_isWord_76 : GoodIn w_c_passes (wsV RX4 76 RX4 yX4_isWord w_c_isWord) := goodIn_r _ [1, 2, 3, 4, 5, 6, 7, 8, 9, 10, 11, 12] rfl (by decide +kernel)
set_option maxHeartbeats 4000000 in
set_option maxRecDepth 100000 in
theorem c_passes (l : Launch) (dC : Nat → ClassId) (dI : Nat → Nat → Nat) (ad : Nat → Nat) (h0 : Nat) (wd : Nat) (y0 : Value) (y1 : Value) (y3 : Value) (y4 : Value) (y5 : Value) : Met l yX4_passes w_c_passes ({ frames := 1, cells := 0, slots := 0, locals := 22 } : Room) (va_Pc [.ref h0, .ref wd] (preS dC dI ad [] [(h0, .inr (2, [y0, y1, .int 0, y3, y4, y5]))])) (vp_Si (fun r => (r = 0))) 0 0 (fun _ => False) := by
  refine Met.ofW (cc := cX4_passes) (maxL := 2) (ret := (some .boolean)) (by decide) rfl ?_
  intro p e s m args below meth c s₁ B hml hv
  obtain ⟨rfl, hP, hK, hev⟩ := hv
  have hx := B.exec
  have hb := B.bytes
  have hr := B.returns
  have hts := atoms_spec (ws := w_c_passes) B.pre
  have hown : s.vm.findClass RX4 = some m.cls := findClass_of_methodNamed B.named
  have hlocks := B.notSynchronized
  have inX4 : ∀ w ∈ wsX40, w ∈ w_c_passes := fun w h => List.mem_cons_of_mem _ (List.mem_append_right _ h)
  have hP : va_P (dC, dI) vwCl [(h0, .inr (2, [y0, y1, .int 0, y3, y4, y5]))] s.heap := hP
  have hl := lv_entry ([.ref h0, .ref wd]) (n := 2) (Nat.le_of_ble_eq_true rfl)
  rw [lg_entry_eq]
  generalize (lg_sl ([.ref h0, .ref wd]) ++ List.replicate (2 - (lg_sl ([.ref h0, .ref wd])).length) Slot.unset).toArray = ls at hl ⊢
  have hl : lv_has ls 2 [(0, .ref h0), (1, .ref wd)] := hl
  refine lv_aload_n hx hb dX4_passes_0 rfl (lv_at hl 0 rfl) ?_
  refine lv_aload_n hx hb dX4_passes_1 rfl (lv_at hl 1 rfl) ?_
  have hPc := hP.sub (ws' := [(h0, .inr (2, [y0, y1, .int 0, y3, y4, y5]))]) [0] rfl
  have hKc := hK.sub (tys' := []) [] rfl
  refine vp_callSi (W.runV (As := [.ref wd]) (rest := []) ⟨hx, hb, hml, hown, hts⟩ (c_isWord l dC dI ad h0 wd y0 y1 y3 y4 y5 ) (cwV 1 hts g_c_passes_c_isWord_76 rfl rfl rfl (by decide +kernel) ⟨(Nat.le_of_ble_eq_true rfl), (Nat.le_of_ble_eq_true rfl)⟩) ⟨preS_blind, va_recv hKc hPc (ci := 2) (q0 := 0) rfl rfl, fun U hU hW => ⟨rfl, preS_at hU hW hPc hKc hev⟩⟩ rfl rfl hl.1 rfl (lv_room (Nat.le_of_ble_eq_true rfl)) dX4_passes_2 ⟨(Nat.le_of_ble_eq_true rfl), (Nat.le_of_ble_eq_true rfl)⟩) (fun r_1 hw => ?_)
  subst hw
  refine lv_if_ne (tgt := 10) hx hb dX4_passes_5 (by decide) (fun c => absurd (by decide) c) (fun _ => ?_)
  refine lv_iconst (v := 0) hx hb dX4_passes_8 (by decide) ?_
  exact W.zret (v := 0) hx hb hr (by decide) (fun t ht hW => ⟨0, rfl, rfl, ht⟩) (fun _ h => absurd h List.not_mem_nil) dX4_passes_9

def w_c_kindNamed : List Cond := .code yX4_kindNamed cX4_kindNamed 1 (some .int) :: (([.methodLink RX4 76 yX4_isWord, .instanceMethod yX4_isWord, .selects RX4 yX4_isWord yX4_isWord, .initialized RX4, .code yX4_isWord cX4_isWord 3 (some .boolean), .fieldLink RX4 25 "LampShapes$Script" "token" "I"] : List Cond) ++ wsX40)
set_option maxRecDepth 20000 in
theorem g_c_kindNamed_c_isWord_76 : GoodIn w_c_kindNamed (wsV RX4 76 RX4 yX4_isWord w_c_isWord) := goodIn_r _ [1, 2, 3, 4, 5, 6, 7, 8, 9, 10, 11, 12] rfl (by decide +kernel)
set_option maxHeartbeats 4000000 in
set_option maxRecDepth 100000 in
theorem c_kindNamed (l : Launch) (dC : Nat → ClassId) (dI : Nat → Nat → Nat) (ad : Nat → Nat) (h0 : Nat) (y0 : Value) (y1 : Value) (y3 : Value) (y4 : Value) (y5 : Value) : Met l yX4_kindNamed w_c_kindNamed ({ frames := 1, cells := 0, slots := 0, locals := 22 } : Room) (va_Pc [.ref h0] (preS dC dI ad [] [(h0, .inr (2, [y0, y1, .int 0, y3, y4, y5]))])) (vp_Si (fun r => (r = (-1)))) 0 0 (fun _ => False) := by
  refine Met.ofW (cc := cX4_kindNamed) (maxL := 1) (ret := (some .int)) (by decide) rfl ?_
  intro p e s m args below meth c s₁ B hml hv
  obtain ⟨rfl, hP, hK, hev⟩ := hv
  have hx := B.exec
  have hb := B.bytes
  have hr := B.returns
  have hts := atoms_spec (ws := w_c_kindNamed) B.pre
  have hown : s.vm.findClass RX4 = some m.cls := findClass_of_methodNamed B.named
  have hlocks := B.notSynchronized
  have inX4 : ∀ w ∈ wsX40, w ∈ w_c_kindNamed := fun w h => List.mem_cons_of_mem _ (List.mem_append_right _ h)
  have hP : va_P (dC, dI) vwCl [(h0, .inr (2, [y0, y1, .int 0, y3, y4, y5]))] s.heap := hP
  have hl := lv_entry ([.ref h0]) (n := 1) (Nat.le_of_ble_eq_true rfl)
  rw [lg_entry_eq]
  generalize (lg_sl ([.ref h0]) ++ List.replicate (1 - (lg_sl ([.ref h0])).length) Slot.unset).toArray = ls at hl ⊢
  have hl : lv_has ls 1 [(0, .ref h0)] := hl
  refine lv_aload_n hx hb dX4_kindNamed_0 rfl (lv_at hl 0 rfl) ?_
  refine va_ldcS (tx := "shape") (q := ad 0) hx hb hown (ev_str hev 0 rfl) dX4_kindNamed_1 ?_
  have hPc := hP.sub (ws' := [(h0, .inr (2, [y0, y1, .int 0, y3, y4, y5]))]) [0] rfl
  have hKc := hK.sub (tys' := []) [] rfl
  refine vp_callSi (W.runV (As := [.ref (ad 0)]) (rest := []) ⟨hx, hb, hml, hown, hts⟩ (c_isWord l dC dI ad h0 (ad 0) y0 y1 y3 y4 y5 ) (cwV 1 hts g_c_kindNamed_c_isWord_76 rfl rfl rfl (by decide +kernel) ⟨(Nat.le_of_ble_eq_true rfl), (Nat.le_of_ble_eq_true rfl)⟩) ⟨preS_blind, va_recv hKc hPc (ci := 2) (q0 := 0) rfl rfl, fun U hU hW => ⟨rfl, preS_at hU hW hPc hKc hev⟩⟩ rfl rfl hl.1 rfl (lv_room (Nat.le_of_ble_eq_true rfl)) dX4_kindNamed_3 ⟨(Nat.le_of_ble_eq_true rfl), (Nat.le_of_ble_eq_true rfl)⟩) (fun r_1 hw => ?_)
  subst hw
  refine lv_if_eq (tgt := 11) hx hb dX4_kindNamed_6 (by decide) (fun _ => ?_) (fun c => absurd (by decide) c)
  refine lv_aload_n hx hb dX4_kindNamed_11 rfl (lv_at hl 0 rfl) ?_
  refine va_ldcS (tx := "turned") (q := ad 1) hx hb hown (ev_str hev 1 rfl) dX4_kindNamed_12 ?_
  have hPc := hP.sub (ws' := [(h0, .inr (2, [y0, y1, .int 0, y3, y4, y5]))]) [0] rfl
  have hKc := hK.sub (tys' := []) [] rfl
  refine vp_callSi (W.runV (As := [.ref (ad 1)]) (rest := []) ⟨hx, hb, hml, hown, hts⟩ (c_isWord l dC dI ad h0 (ad 1) y0 y1 y3 y4 y5 ) (cwV 1 hts g_c_kindNamed_c_isWord_76 rfl rfl rfl (by decide +kernel) ⟨(Nat.le_of_ble_eq_true rfl), (Nat.le_of_ble_eq_true rfl)⟩) ⟨preS_blind, va_recv hKc hPc (ci := 2) (q0 := 0) rfl rfl, fun U hU hW => ⟨rfl, preS_at hU hW hPc hKc hev⟩⟩ rfl rfl hl.1 rfl (lv_room (Nat.le_of_ble_eq_true rfl)) dX4_kindNamed_14 ⟨(Nat.le_of_ble_eq_true rfl), (Nat.le_of_ble_eq_true rfl)⟩) (fun r_2 hw => ?_)
  subst hw
  refine lv_if_eq (tgt := 22) hx hb dX4_kindNamed_17 (by decide) (fun _ => ?_) (fun c => absurd (by decide) c)
  refine lv_aload_n hx hb dX4_kindNamed_22 rfl (lv_at hl 0 rfl) ?_
  refine va_ldcS (tx := "mirrored") (q := ad 2) hx hb hown (ev_str hev 2 rfl) dX4_kindNamed_23 ?_
  have hPc := hP.sub (ws' := [(h0, .inr (2, [y0, y1, .int 0, y3, y4, y5]))]) [0] rfl
  have hKc := hK.sub (tys' := []) [] rfl
  refine vp_callSi (W.runV (As := [.ref (ad 2)]) (rest := []) ⟨hx, hb, hml, hown, hts⟩ (c_isWord l dC dI ad h0 (ad 2) y0 y1 y3 y4 y5 ) (cwV 1 hts g_c_kindNamed_c_isWord_76 rfl rfl rfl (by decide +kernel) ⟨(Nat.le_of_ble_eq_true rfl), (Nat.le_of_ble_eq_true rfl)⟩) ⟨preS_blind, va_recv hKc hPc (ci := 2) (q0 := 0) rfl rfl, fun U hU hW => ⟨rfl, preS_at hU hW hPc hKc hev⟩⟩ rfl rfl hl.1 rfl (lv_room (Nat.le_of_ble_eq_true rfl)) dX4_kindNamed_25 ⟨(Nat.le_of_ble_eq_true rfl), (Nat.le_of_ble_eq_true rfl)⟩) (fun r_3 hw => ?_)
  subst hw
  refine lv_if_eq (tgt := 33) hx hb dX4_kindNamed_28 (by decide) (fun _ => ?_) (fun c => absurd (by decide) c)
  refine lv_aload_n hx hb dX4_kindNamed_33 rfl (lv_at hl 0 rfl) ?_
  refine va_ldcS (tx := "hollow") (q := ad 3) hx hb hown (ev_str hev 3 rfl) dX4_kindNamed_34 ?_
  have hPc := hP.sub (ws' := [(h0, .inr (2, [y0, y1, .int 0, y3, y4, y5]))]) [0] rfl
  have hKc := hK.sub (tys' := []) [] rfl
  refine vp_callSi (W.runV (As := [.ref (ad 3)]) (rest := []) ⟨hx, hb, hml, hown, hts⟩ (c_isWord l dC dI ad h0 (ad 3) y0 y1 y3 y4 y5 ) (cwV 1 hts g_c_kindNamed_c_isWord_76 rfl rfl rfl (by decide +kernel) ⟨(Nat.le_of_ble_eq_true rfl), (Nat.le_of_ble_eq_true rfl)⟩) ⟨preS_blind, va_recv hKc hPc (ci := 2) (q0 := 0) rfl rfl, fun U hU hW => ⟨rfl, preS_at hU hW hPc hKc hev⟩⟩ rfl rfl hl.1 rfl (lv_room (Nat.le_of_ble_eq_true rfl)) dX4_kindNamed_36 ⟨(Nat.le_of_ble_eq_true rfl), (Nat.le_of_ble_eq_true rfl)⟩) (fun r_4 hw => ?_)
  subst hw
  refine lv_if_eq (tgt := 44) hx hb dX4_kindNamed_39 (by decide) (fun _ => ?_) (fun c => absurd (by decide) c)
  refine lv_aload_n hx hb dX4_kindNamed_44 rfl (lv_at hl 0 rfl) ?_
  refine va_ldcS (tx := "double") (q := ad 4) hx hb hown (ev_str hev 4 rfl) dX4_kindNamed_45 ?_
  have hPc := hP.sub (ws' := [(h0, .inr (2, [y0, y1, .int 0, y3, y4, y5]))]) [0] rfl
  have hKc := hK.sub (tys' := []) [] rfl
  refine vp_callSi (W.runV (As := [.ref (ad 4)]) (rest := []) ⟨hx, hb, hml, hown, hts⟩ (c_isWord l dC dI ad h0 (ad 4) y0 y1 y3 y4 y5 ) (cwV 1 hts g_c_kindNamed_c_isWord_76 rfl rfl rfl (by decide +kernel) ⟨(Nat.le_of_ble_eq_true rfl), (Nat.le_of_ble_eq_true rfl)⟩) ⟨preS_blind, va_recv hKc hPc (ci := 2) (q0 := 0) rfl rfl, fun U hU hW => ⟨rfl, preS_at hU hW hPc hKc hev⟩⟩ rfl rfl hl.1 rfl (lv_room (Nat.le_of_ble_eq_true rfl)) dX4_kindNamed_47 ⟨(Nat.le_of_ble_eq_true rfl), (Nat.le_of_ble_eq_true rfl)⟩) (fun r_5 hw => ?_)
  subst hw
  refine lv_if_eq (tgt := 55) hx hb dX4_kindNamed_50 (by decide) (fun _ => ?_) (fun c => absurd (by decide) c)
  refine lv_aload_n hx hb dX4_kindNamed_55 rfl (lv_at hl 0 rfl) ?_
  refine va_ldcS (tx := "filled") (q := ad 5) hx hb hown (ev_str hev 5 rfl) dX4_kindNamed_56 ?_
  have hPc := hP.sub (ws' := [(h0, .inr (2, [y0, y1, .int 0, y3, y4, y5]))]) [0] rfl
  have hKc := hK.sub (tys' := []) [] rfl
  refine vp_callSi (W.runV (As := [.ref (ad 5)]) (rest := []) ⟨hx, hb, hml, hown, hts⟩ (c_isWord l dC dI ad h0 (ad 5) y0 y1 y3 y4 y5 ) (cwV 1 hts g_c_kindNamed_c_isWord_76 rfl rfl rfl (by decide +kernel) ⟨(Nat.le_of_ble_eq_true rfl), (Nat.le_of_ble_eq_true rfl)⟩) ⟨preS_blind, va_recv hKc hPc (ci := 2) (q0 := 0) rfl rfl, fun U hU hW => ⟨rfl, preS_at hU hW hPc hKc hev⟩⟩ rfl rfl hl.1 rfl (lv_room (Nat.le_of_ble_eq_true rfl)) dX4_kindNamed_58 ⟨(Nat.le_of_ble_eq_true rfl), (Nat.le_of_ble_eq_true rfl)⟩) (fun r_6 hw => ?_)
  subst hw
  refine lv_if_eq (tgt := 68) hx hb dX4_kindNamed_61 (by decide) (fun _ => ?_) (fun c => absurd (by decide) c)
  refine lv_iconst (v := (-1)) hx hb dX4_kindNamed_68 (by decide) ?_
  exact W.iret (v := (-1)) hx hb hr (fun t ht hW => ⟨(-1), rfl, rfl, ht⟩) (fun _ h => absurd h List.not_mem_nil) dX4_kindNamed_69

def w_c_item : List Cond := .code yX4_item cX4_item 2 (some .boolean) :: (([.methodLink RX4 67 yX4_kindNamed, .instanceMethod yX4_kindNamed, .selects RX4 yX4_kindNamed yX4_kindNamed, .initialized RX4, .code yX4_kindNamed cX4_kindNamed 1 (some .int), .methodLink RX4 76 yX4_isWord, .instanceMethod yX4_isWord, .selects RX4 yX4_isWord yX4_isWord, .code yX4_isWord cX4_isWord 3 (some .boolean), .fieldLink RX4 25 "LampShapes$Script" "token" "I", .methodLink RX4 95 yX4_passes, .instanceMethod yX4_passes, .selects RX4 yX4_passes yX4_passes, .code yX4_passes cX4_passes 2 (some .boolean)] : List Cond) ++ wsX40)
set_option maxRecDepth 20000 in
theorem g_c_item_c_kindNamed_67 : GoodIn w_c_item (wsV RX4 67 RX4 yX4_kindNamed w_c_kindNamed) := goodIn_r _ [1, 2, 3, 4, 5, 6, 7, 8, 4, 9, 10, 15, 16, 17, 18, 19, 20] rfl (by decide +kernel)
set_option maxRecDepth 20000 in
theorem g_c_item_c_isWord_76 : GoodIn w_c_item (wsV RX4 76 RX4 yX4_isWord w_c_isWord) := goodIn_r _ [6, 7, 8, 4, 9, 10, 15, 16, 17, 18, 19, 20] rfl (by decide +kernel)
set_option maxRecDepth 20000 in
theorem g_c_item_c_passes_95 : GoodIn w_c_item (wsV RX4 95 RX4 yX4_passes w_c_passes) := goodIn_r _ [11, 12, 13, 4, 14, 6, 7, 8, 4, 9, 10, 15, 16, 17, 18, 19, 20] rfl (by decide +kernel)
set_option maxHeartbeats 4000000 in
set_option maxRecDepth 100000 in
theorem c_item (l : Launch) (dC : Nat → ClassId) (dI : Nat → Nat → Nat) (ad : Nat → Nat) (h0 : Nat) (y0 : Value) (y1 : Value) (y3 : Value) (y4 : Value) (y5 : Value) : Met l yX4_item w_c_item ({ frames := 2, cells := 0, slots := 0, locals := 43 } : Room) (va_Pc [.ref h0] (preS dC dI ad [] [(h0, .inr (2, [y0, y1, .int 0, y3, y4, y5]))])) (vp_Si (fun r => (r = 0))) 0 0 (fun _ => False) := by
  refine Met.ofW (cc := cX4_item) (maxL := 2) (ret := (some .boolean)) (by decide) rfl ?_
  intro p e s m args below meth c s₁ B hml hv
  obtain ⟨rfl, hP, hK, hev⟩ := hv
  have hx := B.exec
  have hb := B.bytes
  have hr := B.returns
  have hts := atoms_spec (ws := w_c_item) B.pre
  have hown : s.vm.findClass RX4 = some m.cls := findClass_of_methodNamed B.named
  have hlocks := B.notSynchronized
  have inX4 : ∀ w ∈ wsX40, w ∈ w_c_item := fun w h => List.mem_cons_of_mem _ (List.mem_append_right _ h)
  have hP : va_P (dC, dI) vwCl [(h0, .inr (2, [y0, y1, .int 0, y3, y4, y5]))] s.heap := hP
  have hl := lv_entry ([.ref h0]) (n := 2) (Nat.le_of_ble_eq_true rfl)
  rw [lg_entry_eq]
  generalize (lg_sl ([.ref h0]) ++ List.replicate (2 - (lg_sl ([.ref h0])).length) Slot.unset).toArray = ls at hl ⊢
  have hl : lv_has ls 2 [(0, .ref h0)] := hl
  refine lv_aload_n hx hb dX4_item_0 rfl (lv_at hl 0 rfl) ?_
  have hPc := hP.sub (ws' := [(h0, .inr (2, [y0, y1, .int 0, y3, y4, y5]))]) [0] rfl
  have hKc := hK.sub (tys' := []) [] rfl
  refine vp_callSi (W.runV (As := []) (rest := []) ⟨hx, hb, hml, hown, hts⟩ (c_kindNamed l dC dI ad h0 y0 y1 y3 y4 y5 ) (cwV 0 hts g_c_item_c_kindNamed_67 rfl rfl rfl (by decide +kernel) ⟨(Nat.le_of_ble_eq_true rfl), (Nat.le_of_ble_eq_true rfl)⟩) ⟨preS_blind, va_recv hKc hPc (ci := 2) (q0 := 0) rfl rfl, fun U hU hW => ⟨rfl, preS_at hU hW hPc hKc hev⟩⟩ rfl rfl hl.1 rfl (lv_room (Nat.le_of_ble_eq_true rfl)) dX4_item_1 ⟨(Nat.le_of_ble_eq_true rfl), (Nat.le_of_ble_eq_true rfl)⟩) (fun r_1 hw => ?_)
  subst hw
  refine lv_istore_n (lv' := [(1, .int (-1)), (0, .ref h0)]) hx hb dX4_item_4 rfl hl (by decide) rfl (fun ls hl => ?_)
  refine lv_iload_n hx hb dX4_item_5 rfl (lv_at hl 0 rfl) ?_
  refine lv_if_lt (tgt := 15) hx hb dX4_item_6 (by decide) (fun _ => ?_) (fun c => absurd (by decide) c)
  refine lv_aload_n hx hb dX4_item_15 rfl (lv_at hl 1 rfl) ?_
  refine va_ldcS (tx := "scene") (q := ad 6) hx hb hown (ev_str hev 6 rfl) dX4_item_16 ?_
  have hPc := hP.sub (ws' := [(h0, .inr (2, [y0, y1, .int 0, y3, y4, y5]))]) [0] rfl
  have hKc := hK.sub (tys' := []) [] rfl
  refine vp_callSi (W.runV (As := [.ref (ad 6)]) (rest := []) ⟨hx, hb, hml, hown, hts⟩ (c_isWord l dC dI ad h0 (ad 6) y0 y1 y3 y4 y5 ) (cwV 1 hts g_c_item_c_isWord_76 rfl rfl rfl (by decide +kernel) ⟨(Nat.le_of_ble_eq_true rfl), (Nat.le_of_ble_eq_true rfl)⟩) ⟨preS_blind, va_recv hKc hPc (ci := 2) (q0 := 0) rfl rfl, fun U hU hW => ⟨rfl, preS_at hU hW hPc hKc hev⟩⟩ rfl rfl hl.1 rfl (lv_room (Nat.le_of_ble_eq_true rfl)) dX4_item_18 ⟨(Nat.le_of_ble_eq_true rfl), (Nat.le_of_ble_eq_true rfl)⟩) (fun r_2 hw => ?_)
  subst hw
  refine lv_if_eq (tgt := 29) hx hb dX4_item_21 (by decide) (fun _ => ?_) (fun c => absurd (by decide) c)
  refine lv_aload_n hx hb dX4_item_29 rfl (lv_at hl 1 rfl) ?_
  refine va_ldcS (tx := "hold") (q := ad 7) hx hb hown (ev_str hev 7 rfl) dX4_item_30 ?_
  have hPc := hP.sub (ws' := [(h0, .inr (2, [y0, y1, .int 0, y3, y4, y5]))]) [0] rfl
  have hKc := hK.sub (tys' := []) [] rfl
  refine vp_callSi (W.runV (As := [.ref (ad 7)]) (rest := []) ⟨hx, hb, hml, hown, hts⟩ (c_isWord l dC dI ad h0 (ad 7) y0 y1 y3 y4 y5 ) (cwV 1 hts g_c_item_c_isWord_76 rfl rfl rfl (by decide +kernel) ⟨(Nat.le_of_ble_eq_true rfl), (Nat.le_of_ble_eq_true rfl)⟩) ⟨preS_blind, va_recv hKc hPc (ci := 2) (q0 := 0) rfl rfl, fun U hU hW => ⟨rfl, preS_at hU hW hPc hKc hev⟩⟩ rfl rfl hl.1 rfl (lv_room (Nat.le_of_ble_eq_true rfl)) dX4_item_32 ⟨(Nat.le_of_ble_eq_true rfl), (Nat.le_of_ble_eq_true rfl)⟩) (fun r_3 hw => ?_)
  subst hw
  refine lv_if_eq (tgt := 43) hx hb dX4_item_35 (by decide) (fun _ => ?_) (fun c => absurd (by decide) c)
  refine lv_aload_n hx hb dX4_item_43 rfl (lv_at hl 1 rfl) ?_
  refine va_ldcS (tx := "torn") (q := ad 11) hx hb hown (ev_str hev 11 rfl) dX4_item_44 ?_
  have hPc := hP.sub (ws' := [(h0, .inr (2, [y0, y1, .int 0, y3, y4, y5]))]) [0] rfl
  have hKc := hK.sub (tys' := []) [] rfl
  refine vp_callSi (W.runV (As := [.ref (ad 11)]) (rest := []) ⟨hx, hb, hml, hown, hts⟩ (c_isWord l dC dI ad h0 (ad 11) y0 y1 y3 y4 y5 ) (cwV 1 hts g_c_item_c_isWord_76 rfl rfl rfl (by decide +kernel) ⟨(Nat.le_of_ble_eq_true rfl), (Nat.le_of_ble_eq_true rfl)⟩) ⟨preS_blind, va_recv hKc hPc (ci := 2) (q0 := 0) rfl rfl, fun U hU hW => ⟨rfl, preS_at hU hW hPc hKc hev⟩⟩ rfl rfl hl.1 rfl (lv_room (Nat.le_of_ble_eq_true rfl)) dX4_item_46 ⟨(Nat.le_of_ble_eq_true rfl), (Nat.le_of_ble_eq_true rfl)⟩) (fun r_4 hw => ?_)
  subst hw
  refine lv_if_eq (tgt := 57) hx hb dX4_item_49 (by decide) (fun _ => ?_) (fun c => absurd (by decide) c)
  refine lv_aload_n hx hb dX4_item_57 rfl (lv_at hl 1 rfl) ?_
  refine va_ldcS (tx := "drop") (q := ad 12) hx hb hown (ev_str hev 12 rfl) dX4_item_58 ?_
  have hPc := hP.sub (ws' := [(h0, .inr (2, [y0, y1, .int 0, y3, y4, y5]))]) [0] rfl
  have hKc := hK.sub (tys' := []) [] rfl
  refine vp_callSi (W.runV (As := [.ref (ad 12)]) (rest := []) ⟨hx, hb, hml, hown, hts⟩ (c_passes l dC dI ad h0 (ad 12) y0 y1 y3 y4 y5 ) (cwV 1 hts g_c_item_c_passes_95 rfl rfl rfl (by decide +kernel) ⟨(Nat.le_of_ble_eq_true rfl), (Nat.le_of_ble_eq_true rfl)⟩) ⟨preS_blind, va_recv hKc hPc (ci := 2) (q0 := 0) rfl rfl, fun U hU hW => ⟨rfl, preS_at hU hW hPc hKc hev⟩⟩ rfl rfl hl.1 rfl (lv_room (Nat.le_of_ble_eq_true rfl)) dX4_item_60 ⟨(Nat.le_of_ble_eq_true rfl), (Nat.le_of_ble_eq_true rfl)⟩) (fun r_5 hw => ?_)
  subst hw
  refine lv_if_eq (tgt := 75) hx hb dX4_item_63 (by decide) (fun _ => ?_) (fun c => absurd (by decide) c)
  refine lv_iconst (v := 0) hx hb dX4_item_75 (by decide) ?_
  exact W.zret (v := 0) hx hb hr (by decide) (fun t ht hW => ⟨0, rfl, rfl, ht⟩) (fun _ h => absurd h List.not_mem_nil) dX4_item_76

def w_c_perform : List Cond := .code yX4_perform cX4_perform 2 (some .int) :: (([.fieldLink RX4 32 "LampShapes$Script" "end" "I", .methodLink RX4 39 yX4_advance, .instanceMethod yX4_advance, .selects RX4 yX4_advance yX4_advance, .initialized RX4, .code yX4_advance cX4_advance 1 none, .fieldLink RX4 29 "LampShapes$Script" "start" "I", .fieldLink RX4 12 "LampShapes$Script" "tape" "LLampShapes$Tape;", .fieldLink RX4 25 "LampShapes$Script" "token" "I", .methodLink RX4 42 yX4_item, .instanceMethod yX4_item, .selects RX4 yX4_item yX4_item, .code yX4_item cX4_item 2 (some .boolean), .methodLink RX4 67 yX4_kindNamed, .instanceMethod yX4_kindNamed, .selects RX4 yX4_kindNamed yX4_kindNamed, .code yX4_kindNamed cX4_kindNamed 1 (some .int), .methodLink RX4 76 yX4_isWord, .instanceMethod yX4_isWord, .selects RX4 yX4_isWord yX4_isWord, .code yX4_isWord cX4_isWord 3 (some .boolean), .methodLink RX4 95 yX4_passes, .instanceMethod yX4_passes, .selects RX4 yX4_passes yX4_passes, .code yX4_passes cX4_passes 2 (some .boolean)] : List Cond) ++ wsX40 ++ wsX70)
set_option maxRecDepth 20000 in
theorem g_c_perform_c_advance_39 : GoodIn w_c_perform (wsV RX4 39 RX4 yX4_advance w_c_advance) := goodIn_r _ [2, 3, 4, 5, 6, 1, 7, 8, 9, 26, 27, 28, 29, 30, 31, 32, 33] rfl (by decide +kernel)
set_option maxRecDepth 20000 in
theorem g_c_perform_c_item_42 : GoodIn w_c_perform (wsV RX4 42 RX4 yX4_item w_c_item) := goodIn_r _ [10, 11, 12, 5, 13, 14, 15, 16, 5, 17, 18, 19, 20, 21, 9, 22, 23, 24, 25, 26, 27, 28, 29, 30, 31] rfl (by decide +kernel)
set_option maxHeartbeats 4000000 in
set_option maxRecDepth 100000 in
theorem c_perform (l : Launch) (dC : Nat → ClassId) (dI : Nat → Nat → Nat) (ad : Nat → Nat) (h0 : Nat) (eh : Nat) (y1 : Value) (y2 : Value) (y3 : Value) (y4 : Value) (y5 : Value) (z1 : Value) (sz : Nat) : Met l yX4_perform w_c_perform ({ frames := 3, cells := 0, slots := 0, locals := 64 } : Room) (va_Pc [.ref h0] (preM dC dI ad [] [(h0, .inr (2, [.ref eh, y1, y2, y3, y4, y5])), (eh, .inr (5, [.int 0, z1]))] sz)) (va_Qi (fun (r : Int32) (_ : Unit) => (r = (-1))) (fun _ t => va_P (dC, dI) vwCl [(h0, .inr (2, [.ref eh, y1, .int 0, .int 0, .int 0, y5])), (eh, .inr (5, [.int 0, z1]))] t.heap ∧ va_K (dC, dI) vwCl [] t ∧ va_D (va_A [(h0, .inr (2, [.ref eh, y1, y2, y3, y4, y5])), (eh, .inr (5, [.int 0, z1]))] sz) [(h0, .inr (2, [.ref eh, y1, .int 0, .int 0, .int 0, y5])), (eh, .inr (5, [.int 0, z1]))]) (va_A [(h0, .inr (2, [.ref eh, y1, y2, y3, y4, y5])), (eh, .inr (5, [.int 0, z1]))] sz)) 0 0 (va_A [(h0, .inr (2, [.ref eh, y1, y2, y3, y4, y5])), (eh, .inr (5, [.int 0, z1]))] sz) := by
  refine Met.ofW (cc := cX4_perform) (maxL := 2) (ret := (some .int)) (by decide) rfl ?_
  intro p e s m args below meth c s₁ B hml hv
  obtain ⟨rfl, hsz, hP, hK, hD0, hev⟩ := hv
  have hx := B.exec
  have hb := B.bytes
  have hr := B.returns
  have hts := atoms_spec (ws := w_c_perform) B.pre
  have hown : s.vm.findClass RX4 = some m.cls := findClass_of_methodNamed B.named
  have hlocks := B.notSynchronized
  have inX4 : ∀ w ∈ wsX40, w ∈ w_c_perform := fun w h => List.mem_cons_of_mem _ (List.mem_append_left _ (List.mem_append_right _ h))
  have inX7 : ∀ w ∈ wsX70, w ∈ w_c_perform := fun w h => List.mem_cons_of_mem _ (List.mem_append_right _ h)
  subst hsz
  have hD := hD0.self (sz := s.heap.size)
  generalize hAe : va_A [(h0, .inr (2, [.ref eh, y1, y2, y3, y4, y5])), (eh, .inr (5, [.int 0, z1]))] s.heap.size = A at hD ⊢
  have hA : ∀ q : Nat, s.heap.size ≤ q → A q := fun q h => by rw [← hAe]; exact Or.inr h
  have hS : va_S A s.heap s.heap [] := va_S.rf
  have hP : va_P (dC, dI) vwCl [(h0, .inr (2, [.ref eh, y1, y2, y3, y4, y5])), (eh, .inr (5, [.int 0, z1]))] s.heap := hP
  have hl := lv_entry ([.ref h0]) (n := 2) (Nat.le_of_ble_eq_true rfl)
  rw [lg_entry_eq]
  generalize (lg_sl ([.ref h0]) ++ List.replicate (2 - (lg_sl ([.ref h0])).length) Slot.unset).toArray = ls at hl ⊢
  have hl : lv_has ls 2 [(0, .ref h0)] := hl
  refine lv_aload_n hx hb dX4_perform_0 rfl (lv_at hl 0 rfl) ?_
  refine lv_iconst (v := 0) hx hb dX4_perform_1 (by decide) ?_
  refine va_put (D := (dC, dI)) (ci := 2) (v := .int 0) (ty := .int) (C := RX4) (T := TX4) (N := 6) hx hb hts inX4 tyX4 tyX4_ok nmX4 hown hK hP hD hS 0 rfl rfl 4 (by decide) (hts _ (List.mem_of_getElem? (i := 1) rfl)) (fun _ h9 => h9) rfl (by decide +kernel) rfl rfl (Nat.le_of_ble_eq_true rfl) dX4_perform_2 (fun H locs hP hD hS => ?_)
  have hP : va_P (dC, dI) vwCl [(h0, .inr (2, [.ref eh, y1, y2, y3, .int 0, y5])), (eh, .inr (5, [.int 0, z1]))] H := hP
  have hD : va_D A [(h0, .inr (2, [.ref eh, y1, y2, y3, .int 0, y5])), (eh, .inr (5, [.int 0, z1]))] := hD
  refine lv_aload_n hx hb dX4_perform_5 rfl (lv_at hl 0 rfl) ?_
  have hPc := hP.sub (ws' := [(h0, .inr (2, [.ref eh, y1, y2, y3, .int 0, y5])), (eh, .inr (5, [.int 0, z1]))]) [0, 1] rfl
  have hKc := hK.sub (tys' := []) [] rfl
  have hDc := hD.sub (ws' := [(h0, .inr (2, [.ref eh, y1, y2, y3, .int 0, y5])), (eh, .inr (5, [.int 0, z1]))]) [0, 1] (by decide) rfl
  have hFc := va_free (wc := [(h0, .inr (2, [.ref eh, y1, y2, y3, .int 0, y5])), (eh, .inr (5, [.int 0, z1]))]) hD hS hA [0, 1] rfl
  refine va_callv (va_runV (As := []) (rest := []) ⟨hx, hb, hml, hown, hts⟩ (c_advance l dC dI ad h0 eh y1 y2 y3 y5 z1 H.size ) (cwV 0 hts g_c_perform_c_advance_39 rfl rfl rfl (by decide +kernel) ⟨(Nat.le_of_ble_eq_true rfl), (Nat.le_of_ble_eq_true rfl)⟩) ⟨preM_blind, va_recv hKc hPc (ci := 2) (q0 := 0) rfl rfl, fun U hU hW => ⟨rfl, preM_at hU hW hPc hKc hDc hev⟩⟩ rfl rfl hl.1 rfl (lv_room (Nat.le_of_ble_eq_true rfl)) dX4_perform_6 ⟨(Nat.le_of_ble_eq_true rfl), (Nat.le_of_ble_eq_true rfl)⟩) hS (fun q _ h => hFc q h) hFc (fun u t H1 locs ht hvm hw hB hz1 hk1 hS => ?_)
  obtain ⟨hP1, hK1, hD1⟩ := hB
  rw [ht] at hP1
  have hK1 := va_K.moved hvm.symm hK1
  obtain ⟨hP, hD⟩ := va_join (wr := []) (w1 := [(h0, .inr (2, [.ref eh, y1, .int 0, .int 0, .int 0, y5])), (eh, .inr (5, [.int 0, z1]))]) hP hD [0, 1] [] rfl rfl (by decide) (by decide) hk1 hFc hP1 hD1
  generalize H1 = H at hP hS ⊢
  have hP : va_P (dC, dI) vwCl [(h0, .inr (2, [.ref eh, y1, .int 0, .int 0, .int 0, y5])), (eh, .inr (5, [.int 0, z1]))] H := hP
  have hD : va_D A [(h0, .inr (2, [.ref eh, y1, .int 0, .int 0, .int 0, y5])), (eh, .inr (5, [.int 0, z1]))] := hD
  refine lv_iconst (v := 1) hx hb dX4_perform_9 (by decide) ?_
  refine lv_istore_n (lv' := [(1, .int 1), (0, .ref h0)]) hx hb dX4_perform_10 rfl hl (by decide) rfl (fun ls hl => ?_)
  refine lv_iload_n hx hb dX4_perform_11 rfl (lv_at hl 0 rfl) ?_
  refine lv_bipush (v := 120) hx hb dX4_perform_12 (by decide) ?_
  refine lv_icmp_gt (tgt := 65) hx hb dX4_perform_14 (by decide) (fun c => absurd c (by decide)) (fun _ => ?_)
  refine lv_aload_n hx hb dX4_perform_17 rfl (lv_at hl 1 rfl) ?_
  have hPc := hP.sub (ws' := [(h0, .inr (2, [.ref eh, y1, .int 0, .int 0, .int 0, y5]))]) [0] rfl
  have hKc := hK.sub (tys' := []) [] rfl
  refine vp_callSi (W.runV (As := []) (rest := []) ⟨hx, hb, hml, hown, hts⟩ (c_item l dC dI ad h0 (.ref eh) y1 (.int 0) (.int 0) y5 ) (cwV 0 hts g_c_perform_c_item_42 rfl rfl rfl (by decide +kernel) ⟨(Nat.le_of_ble_eq_true rfl), (Nat.le_of_ble_eq_true rfl)⟩) ⟨preS_blind, va_recv hKc hPc (ci := 2) (q0 := 0) rfl rfl, fun U hU hW => ⟨rfl, preS_at hU hW hPc hKc hev⟩⟩ rfl rfl hl.1 rfl (lv_room (Nat.le_of_ble_eq_true rfl)) dX4_perform_18 ⟨(Nat.le_of_ble_eq_true rfl), (Nat.le_of_ble_eq_true rfl)⟩) (fun r_2 hw => ?_)
  subst hw
  refine lv_if_ne (tgt := 31) hx hb dX4_perform_21 (by decide) (fun c => absurd (by decide) c) (fun _ => ?_)
  refine lv_iconst (v := (-1)) hx hb dX4_perform_24 (by decide) ?_
  refine lv_aload_n hx hb dX4_perform_25 rfl (lv_at hl 1 rfl) ?_
  refine va_get (D := (dC, dI)) (ci := 2) (v := .int 0) (C := RX4) (T := TX4) (N := 6) hx hb hts inX4 hown hK hP 0 rfl rfl 3 (by decide) (hts _ (List.mem_of_getElem? (i := 7) rfl)) (fun _ h9 => h9) rfl dX4_perform_26 ?_
  refine lv_isub hx hb dX4_perform_29 ?_
  refine pp_ti (y := (-1)) (by decide) ?_
  have hP9 := hP.sub (ws' := [(h0, .inr (2, [.ref eh, y1, .int 0, .int 0, .int 0, y5])), (eh, .inr (5, [.int 0, z1]))]) [0, 1] rfl
  have hD9 := hD.sub (ws' := [(h0, .inr (2, [.ref eh, y1, .int 0, .int 0, .int 0, y5])), (eh, .inr (5, [.int 0, z1]))]) [0, 1] (by decide) rfl
  have hK9 := hK.sub (tys' := []) [] rfl
  exact W.iret (v := (-1)) hx hb hr (fun t ht hW => ⟨⟨(-1), (), rfl, rfl, by rw [ht]; exact hP9, va_K.moved hW.alike hK9, hD9⟩, hS.F ht⟩) hS.2.2 dX4_perform_30

def w_x_text : List Cond := .code yX8_text cX8_text 2 (some .int) :: (([.fieldLink RX8 36 "LampShapes" "script" "LLampShapes$Script;", .fieldLink RX8 10 "LampShapes" "now" "LLampShapes$Stage;", .methodLink RX8 250 yX6_takeAll, .instanceMethod yX6_takeAll, .selects RX6 yX6_takeAll yX6_takeAll, .initialized RX6, .code yX6_takeAll cX6_takeAll 2 none, .fieldLink RX6 9 "LampShapes$Stage" "shapes" "I", .fieldLink RX6 15 "LampShapes$Stage" "kinds" "[I", .methodLink RX6 41 arraycopyName, .native arraycopyName, .static arraycopyName, .initialized "java/lang/System", .fieldLink RX6 19 "LampShapes$Stage" "points" "[I", .fieldLink RX6 22 "LampShapes$Stage" "tornShapes" "I", .fieldLink RX6 25 "LampShapes$Stage" "heldShapes" "[I", .fieldLink RX6 28 "LampShapes$Stage" "heldPlacings" "[I", .fieldLink RX6 31 "LampShapes$Stage" "scenes" "I", .fieldLink RX6 34 "LampShapes$Stage" "pictures" "[J", .fieldLink RX6 38 "LampShapes$Stage" "allowed" "I", .methodLink RX8 253 yX4_perform, .instanceMethod yX4_perform, .selects RX4 yX4_perform yX4_perform, .initialized RX4, .code yX4_perform cX4_perform 2 (some .int), .fieldLink RX4 32 "LampShapes$Script" "end" "I", .methodLink RX4 39 yX4_advance, .instanceMethod yX4_advance, .selects RX4 yX4_advance yX4_advance, .code yX4_advance cX4_advance 1 none, .fieldLink RX4 29 "LampShapes$Script" "start" "I", .fieldLink RX4 12 "LampShapes$Script" "tape" "LLampShapes$Tape;", .fieldLink RX4 25 "LampShapes$Script" "token" "I", .methodLink RX4 42 yX4_item, .instanceMethod yX4_item, .selects RX4 yX4_item yX4_item, .code yX4_item cX4_item 2 (some .boolean), .methodLink RX4 67 yX4_kindNamed, .instanceMethod yX4_kindNamed, .selects RX4 yX4_kindNamed yX4_kindNamed, .code yX4_kindNamed cX4_kindNamed 1 (some .int), .methodLink RX4 76 yX4_isWord, .instanceMethod yX4_isWord, .selects RX4 yX4_isWord yX4_isWord, .code yX4_isWord cX4_isWord 3 (some .boolean), .methodLink RX4 95 yX4_passes, .instanceMethod yX4_passes, .selects RX4 yX4_passes yX4_passes, .code yX4_passes cX4_passes 2 (some .boolean)] : List Cond) ++ wsX80 ++ wsX40 ++ wsX60 ++ wsX70)
set_option maxRecDepth 20000 in
theorem g_x_text_c_takeAll_250 : GoodIn w_x_text (wsV RX8 250 RX6 yX6_takeAll w_c_takeAll) := goodIn_r _ [3, 4, 5, 6, 7, 8, 9, 10, 11, 12, 13, 14, 15, 16, 17, 18, 19, 20, 64, 65, 66, 67, 68, 69, 70, 71, 72] rfl (by decide +kernel)
set_option maxRecDepth 20000 in
theorem g_x_text_c_perform_253 : GoodIn w_x_text (wsV RX8 253 RX4 yX4_perform w_c_perform) := goodIn_r _ [21, 22, 23, 24, 25, 26, 27, 28, 29, 24, 30, 31, 32, 33, 34, 35, 36, 37, 38, 39, 40, 41, 42, 43, 44, 45, 46, 47, 48, 49, 58, 59, 60, 61, 62, 63, 73, 74] rfl (by decide +kernel)
set_option maxHeartbeats 4000000 in
set_option maxRecDepth 100000 in
theorem x_text (l : Launch) (dC : Nat → ClassId) (dI : Nat → Nat → Nat) (ad : Nat → Nat) (h0 : Nat) (ah : Nat) (v1 : Value) (v2 : Value) (v3 : Value) (ch : Nat) (v5 : Value) (v6 : Value) (v7 : Value) (eh : Nat) (bh : Nat) (y2 : Value) (y3 : Value) (y4 : Value) (y5 : Value) (z1 : Value) (w0 : Int32) (a0 : Nat) (a1 : Nat) (w1 : Int32) (a2 : Nat) (a3 : Nat) (w2 : Int32) (a4 : Nat) (w3 : Int32) (ac0 : ClassId) (af0 : Nat → Int32) (ac1 : ClassId) (af1 : Nat → Int32) (ac2 : ClassId) (af2 : Nat → Int32) (ac3 : ClassId) (af3 : Nat → Int32) (ac4 : ClassId) (af4 : Nat → Int64) (x0 : Int32) (b0 : Nat) (b1 : Nat) (x1 : Int32) (b2 : Nat) (b3 : Nat) (x2 : Int32) (b4 : Nat) (x3 : Int32) (bc0 : ClassId) (bf0 : Nat → Int32) (bc1 : ClassId) (bf1 : Nat → Int32) (bc2 : ClassId) (bf2 : Nat → Int32) (bc3 : ClassId) (bf3 : Nat → Int32) (bc4 : ClassId) (bf4 : Nat → Int64) (sz : Nat) : Met l yX8_text w_x_text ({ frames := 4, cells := 0, slots := 0, locals := 85 } : Room) (va_Pc [.ref h0] (preM dC dI ad [(ac0, .int), (ac1, .int), (ac2, .int), (ac3, .int), (ac4, .long), (bc0, .int), (bc1, .int), (bc2, .int), (bc3, .int), (bc4, .long)] [(h0, .inr (6, [.ref ah, v1, v2, v3, .ref ch, v5, v6, v7])), (ch, .inr (2, [.ref eh, .ref bh, y2, y3, y4, y5])), (eh, .inr (5, [.int 0, z1])), (ah, .inr (4, [.int w0, .ref a0, .ref a1, .int w1, .ref a2, .ref a3, .int w2, .ref a4, .int w3])), (a0, .inl (ac0, 9, .inl af0)), (a1, .inl (ac1, 9, .inl af1)), (a2, .inl (ac2, 4, .inl af2)), (a3, .inl (ac3, 4, .inl af3)), (a4, .inl (ac4, 7, .inr (.inl af4))), (bh, .inr (4, [.int x0, .ref b0, .ref b1, .int x1, .ref b2, .ref b3, .int x2, .ref b4, .int x3])), (b0, .inl (bc0, 9, .inl bf0)), (b1, .inl (bc1, 9, .inl bf1)), (b2, .inl (bc2, 4, .inl bf2)), (b3, .inl (bc3, 4, .inl bf3)), (b4, .inl (bc4, 7, .inr (.inl bf4)))] sz)) (va_Qi (fun (r : Int32) (_ : Unit) => (r = (-1))) (fun _ _ => True) (va_A [(h0, .inr (6, [.ref ah, v1, v2, v3, .ref ch, v5, v6, v7])), (ch, .inr (2, [.ref eh, .ref bh, y2, y3, y4, y5])), (eh, .inr (5, [.int 0, z1])), (ah, .inr (4, [.int w0, .ref a0, .ref a1, .int w1, .ref a2, .ref a3, .int w2, .ref a4, .int w3])), (a0, .inl (ac0, 9, .inl af0)), (a1, .inl (ac1, 9, .inl af1)), (a2, .inl (ac2, 4, .inl af2)), (a3, .inl (ac3, 4, .inl af3)), (a4, .inl (ac4, 7, .inr (.inl af4))), (bh, .inr (4, [.int x0, .ref b0, .ref b1, .int x1, .ref b2, .ref b3, .int x2, .ref b4, .int x3])), (b0, .inl (bc0, 9, .inl bf0)), (b1, .inl (bc1, 9, .inl bf1)), (b2, .inl (bc2, 4, .inl bf2)), (b3, .inl (bc3, 4, .inl bf3)), (b4, .inl (bc4, 7, .inr (.inl bf4)))] sz)) 0 0 (va_A [(h0, .inr (6, [.ref ah, v1, v2, v3, .ref ch, v5, v6, v7])), (ch, .inr (2, [.ref eh, .ref bh, y2, y3, y4, y5])), (eh, .inr (5, [.int 0, z1])), (ah, .inr (4, [.int w0, .ref a0, .ref a1, .int w1, .ref a2, .ref a3, .int w2, .ref a4, .int w3])), (a0, .inl (ac0, 9, .inl af0)), (a1, .inl (ac1, 9, .inl af1)), (a2, .inl (ac2, 4, .inl af2)), (a3, .inl (ac3, 4, .inl af3)), (a4, .inl (ac4, 7, .inr (.inl af4))), (bh, .inr (4, [.int x0, .ref b0, .ref b1, .int x1, .ref b2, .ref b3, .int x2, .ref b4, .int x3])), (b0, .inl (bc0, 9, .inl bf0)), (b1, .inl (bc1, 9, .inl bf1)), (b2, .inl (bc2, 4, .inl bf2)), (b3, .inl (bc3, 4, .inl bf3)), (b4, .inl (bc4, 7, .inr (.inl bf4)))] sz) := by
  refine Met.ofW (cc := cX8_text) (maxL := 2) (ret := (some .int)) (by decide) rfl ?_
  intro p e s m args below meth c s₁ B hml hv
  obtain ⟨rfl, hsz, hP, hK, hD0, hev⟩ := hv
  have hx := B.exec
  have hb := B.bytes
  have hr := B.returns
  have hts := atoms_spec (ws := w_x_text) B.pre
  have hown : s.vm.findClass RX8 = some m.cls := findClass_of_methodNamed B.named
  have hlocks := B.notSynchronized
  have inX8 : ∀ w ∈ wsX80, w ∈ w_x_text := fun w h => List.mem_cons_of_mem _ (List.mem_append_left _ (List.mem_append_left _ (List.mem_append_left _ (List.mem_append_right _ h))))
  have inX4 : ∀ w ∈ wsX40, w ∈ w_x_text := fun w h => List.mem_cons_of_mem _ (List.mem_append_left _ (List.mem_append_left _ (List.mem_append_right _ h)))
  have inX6 : ∀ w ∈ wsX60, w ∈ w_x_text := fun w h => List.mem_cons_of_mem _ (List.mem_append_left _ (List.mem_append_right _ h))
  have inX7 : ∀ w ∈ wsX70, w ∈ w_x_text := fun w h => List.mem_cons_of_mem _ (List.mem_append_right _ h)
  subst hsz
  have hD := hD0.self (sz := s.heap.size)
  generalize hAe : va_A [(h0, .inr (6, [.ref ah, v1, v2, v3, .ref ch, v5, v6, v7])), (ch, .inr (2, [.ref eh, .ref bh, y2, y3, y4, y5])), (eh, .inr (5, [.int 0, z1])), (ah, .inr (4, [.int w0, .ref a0, .ref a1, .int w1, .ref a2, .ref a3, .int w2, .ref a4, .int w3])), (a0, .inl (ac0, 9, .inl af0)), (a1, .inl (ac1, 9, .inl af1)), (a2, .inl (ac2, 4, .inl af2)), (a3, .inl (ac3, 4, .inl af3)), (a4, .inl (ac4, 7, .inr (.inl af4))), (bh, .inr (4, [.int x0, .ref b0, .ref b1, .int x1, .ref b2, .ref b3, .int x2, .ref b4, .int x3])), (b0, .inl (bc0, 9, .inl bf0)), (b1, .inl (bc1, 9, .inl bf1)), (b2, .inl (bc2, 4, .inl bf2)), (b3, .inl (bc3, 4, .inl bf3)), (b4, .inl (bc4, 7, .inr (.inl bf4)))] s.heap.size = A at hD ⊢
  have hA : ∀ q : Nat, s.heap.size ≤ q → A q := fun q h => by rw [← hAe]; exact Or.inr h
  have hS : va_S A s.heap s.heap [] := va_S.rf
  have hP : va_P (dC, dI) vwCl [(h0, .inr (6, [.ref ah, v1, v2, v3, .ref ch, v5, v6, v7])), (ch, .inr (2, [.ref eh, .ref bh, y2, y3, y4, y5])), (eh, .inr (5, [.int 0, z1])), (ah, .inr (4, [.int w0, .ref a0, .ref a1, .int w1, .ref a2, .ref a3, .int w2, .ref a4, .int w3])), (a0, .inl (ac0, 9, .inl af0)), (a1, .inl (ac1, 9, .inl af1)), (a2, .inl (ac2, 4, .inl af2)), (a3, .inl (ac3, 4, .inl af3)), (a4, .inl (ac4, 7, .inr (.inl af4))), (bh, .inr (4, [.int x0, .ref b0, .ref b1, .int x1, .ref b2, .ref b3, .int x2, .ref b4, .int x3])), (b0, .inl (bc0, 9, .inl bf0)), (b1, .inl (bc1, 9, .inl bf1)), (b2, .inl (bc2, 4, .inl bf2)), (b3, .inl (bc3, 4, .inl bf3)), (b4, .inl (bc4, 7, .inr (.inl bf4)))] s.heap := hP
  have hl := lv_entry ([.ref h0]) (n := 2) (Nat.le_of_ble_eq_true rfl)
  rw [lg_entry_eq]
  generalize (lg_sl ([.ref h0]) ++ List.replicate (2 - (lg_sl ([.ref h0])).length) Slot.unset).toArray = ls at hl ⊢
  have hl : lv_has ls 2 [(0, .ref h0)] := hl
  refine lv_aload_n hx hb dX8_text_0 rfl (lv_at hl 0 rfl) ?_
  refine va_get (D := (dC, dI)) (ci := 6) (v := .ref ch) (C := RX8) (T := TX8) (N := 8) hx hb hts inX8 hown hK hP 0 rfl rfl 4 (by decide) (hts _ (List.mem_of_getElem? (i := 1) rfl)) (fun _ h9 => h9) rfl dX8_text_1 ?_
  refine va_getN (D := (dC, dI)) (ci := 2) (v := .ref bh) (C := RX4) (T := TX4) (N := 6) hx hb hts inX4 hown hK hP 1 rfl rfl 1 (by decide) (ev_nest hev 20 rfl) (fun _ h9 => h9) rfl dX8_text_4 ?_
  refine lv_aload_n hx hb dX8_text_7 rfl (lv_at hl 0 rfl) ?_
  refine va_get (D := (dC, dI)) (ci := 6) (v := .ref ah) (C := RX8) (T := TX8) (N := 8) hx hb hts inX8 hown hK hP 0 rfl rfl 0 (by decide) (hts _ (List.mem_of_getElem? (i := 2) rfl)) (fun _ h9 => h9) rfl dX8_text_8 ?_
  have hPc := hP.sub (ws' := [(bh, .inr (4, [.int x0, .ref b0, .ref b1, .int x1, .ref b2, .ref b3, .int x2, .ref b4, .int x3])), (b0, .inl (bc0, 9, .inl bf0)), (b1, .inl (bc1, 9, .inl bf1)), (b2, .inl (bc2, 4, .inl bf2)), (b3, .inl (bc3, 4, .inl bf3)), (b4, .inl (bc4, 7, .inr (.inl bf4))), (ah, .inr (4, [.int w0, .ref a0, .ref a1, .int w1, .ref a2, .ref a3, .int w2, .ref a4, .int w3])), (a0, .inl (ac0, 9, .inl af0)), (a1, .inl (ac1, 9, .inl af1)), (a2, .inl (ac2, 4, .inl af2)), (a3, .inl (ac3, 4, .inl af3)), (a4, .inl (ac4, 7, .inr (.inl af4)))]) [9, 10, 11, 12, 13, 14, 3, 4, 5, 6, 7, 8] rfl
  have hKc := hK.sub (tys' := [(bc0, .int), (bc1, .int), (bc2, .int), (bc3, .int), (bc4, .long), (ac0, .int), (ac1, .int), (ac2, .int), (ac3, .int), (ac4, .long)]) [5, 6, 7, 8, 9, 0, 1, 2, 3, 4] rfl
  have hDc := hD.sub (ws' := [(bh, .inr (4, [.int x0, .ref b0, .ref b1, .int x1, .ref b2, .ref b3, .int x2, .ref b4, .int x3])), (b0, .inl (bc0, 9, .inl bf0)), (b1, .inl (bc1, 9, .inl bf1)), (b2, .inl (bc2, 4, .inl bf2)), (b3, .inl (bc3, 4, .inl bf3)), (b4, .inl (bc4, 7, .inr (.inl bf4))), (ah, .inr (4, [.int w0, .ref a0, .ref a1, .int w1, .ref a2, .ref a3, .int w2, .ref a4, .int w3])), (a0, .inl (ac0, 9, .inl af0)), (a1, .inl (ac1, 9, .inl af1)), (a2, .inl (ac2, 4, .inl af2)), (a3, .inl (ac3, 4, .inl af3)), (a4, .inl (ac4, 7, .inr (.inl af4)))]) [9, 10, 11, 12, 13, 14, 3, 4, 5, 6, 7, 8] (by decide) rfl
  have hFc := va_free (wc := [(bh, .inr (4, [.int x0, .ref b0, .ref b1, .int x1, .ref b2, .ref b3, .int x2, .ref b4, .int x3])), (b0, .inl (bc0, 9, .inl bf0)), (b1, .inl (bc1, 9, .inl bf1)), (b2, .inl (bc2, 4, .inl bf2)), (b3, .inl (bc3, 4, .inl bf3)), (b4, .inl (bc4, 7, .inr (.inl bf4))), (ah, .inr (4, [.int w0, .ref a0, .ref a1, .int w1, .ref a2, .ref a3, .int w2, .ref a4, .int w3])), (a0, .inl (ac0, 9, .inl af0)), (a1, .inl (ac1, 9, .inl af1)), (a2, .inl (ac2, 4, .inl af2)), (a3, .inl (ac3, 4, .inl af3)), (a4, .inl (ac4, 7, .inr (.inl af4)))]) hD hS hA [9, 10, 11, 12, 13, 14, 3, 4, 5, 6, 7, 8] rfl
  refine va_callv (va_runV (As := [.ref ah]) (rest := []) ⟨hx, hb, hml, hown, hts⟩ (c_takeAll l dC dI ad bh ah x0 b0 b1 x1 b2 b3 x2 b4 x3 bc0 bf0 bc1 bf1 bc2 bf2 bc3 bf3 bc4 bf4 w0 a0 a1 w1 a2 a3 w2 a4 w3 ac0 af0 ac1 af1 ac2 af2 ac3 af3 ac4 af4 s.heap.size ) (cwV 1 hts g_x_text_c_takeAll_250 rfl rfl rfl (by decide +kernel) ⟨(Nat.le_of_ble_eq_true rfl), (Nat.le_of_ble_eq_true rfl)⟩) ⟨preM_blind, va_recv hKc hPc (ci := 4) (q0 := 0) rfl rfl, fun U hU hW => ⟨rfl, preM_at hU hW hPc hKc hDc hev⟩⟩ rfl rfl hl.1 rfl (lv_room (Nat.le_of_ble_eq_true rfl)) dX8_text_11 ⟨(Nat.le_of_ble_eq_true rfl), (Nat.le_of_ble_eq_true rfl)⟩) hS (fun q _ h => hFc q h) hFc (fun u t H1 locs ht hvm hw hB hz1 hk1 hS => ?_)
  obtain ⟨hP, hD⟩ := va_join (wr := [(h0, .inr (6, [.ref ah, v1, v2, v3, .ref ch, v5, v6, v7])), (ch, .inr (2, [.ref eh, .ref bh, y2, y3, y4, y5])), (eh, .inr (5, [.int 0, z1]))]) (w1 := []) hP hD [9, 10, 11, 12, 13, 14, 3, 4, 5, 6, 7, 8] [0, 1, 2] rfl rfl (by decide) (by decide) hk1 hFc nil_P nil_D
  generalize H1 = H at hP hS ⊢
  have hP : va_P (dC, dI) vwCl [(h0, .inr (6, [.ref ah, v1, v2, v3, .ref ch, v5, v6, v7])), (ch, .inr (2, [.ref eh, .ref bh, y2, y3, y4, y5])), (eh, .inr (5, [.int 0, z1]))] H := hP
  have hD : va_D A [(h0, .inr (6, [.ref ah, v1, v2, v3, .ref ch, v5, v6, v7])), (ch, .inr (2, [.ref eh, .ref bh, y2, y3, y4, y5])), (eh, .inr (5, [.int 0, z1]))] := hD
  refine lv_aload_n hx hb dX8_text_14 rfl (lv_at hl 0 rfl) ?_
  refine va_get (D := (dC, dI)) (ci := 6) (v := .ref ch) (C := RX8) (T := TX8) (N := 8) hx hb hts inX8 hown hK hP 0 rfl rfl 4 (by decide) (hts _ (List.mem_of_getElem? (i := 1) rfl)) (fun _ h9 => h9) rfl dX8_text_15 ?_
  have hPc := hP.sub (ws' := [(ch, .inr (2, [.ref eh, .ref bh, y2, y3, y4, y5])), (eh, .inr (5, [.int 0, z1]))]) [1, 2] rfl
  have hKc := hK.sub (tys' := []) [] rfl
  have hDc := hD.sub (ws' := [(ch, .inr (2, [.ref eh, .ref bh, y2, y3, y4, y5])), (eh, .inr (5, [.int 0, z1]))]) [1, 2] (by decide) rfl
  have hFc := va_free (wc := [(ch, .inr (2, [.ref eh, .ref bh, y2, y3, y4, y5])), (eh, .inr (5, [.int 0, z1]))]) hD hS hA [1, 2] rfl
  refine va_calli (va_runV (As := []) (rest := []) ⟨hx, hb, hml, hown, hts⟩ (c_perform l dC dI ad ch eh (.ref bh) y2 y3 y4 y5 z1 H.size ) (cwV 0 hts g_x_text_c_perform_253 rfl rfl rfl (by decide +kernel) ⟨(Nat.le_of_ble_eq_true rfl), (Nat.le_of_ble_eq_true rfl)⟩) ⟨preM_blind, va_recv hKc hPc (ci := 2) (q0 := 0) rfl rfl, fun U hU hW => ⟨rfl, preM_at hU hW hPc hKc hDc hev⟩⟩ rfl rfl hl.1 rfl (lv_room (Nat.le_of_ble_eq_true rfl)) dX8_text_18 ⟨(Nat.le_of_ble_eq_true rfl), (Nat.le_of_ble_eq_true rfl)⟩) hS (fun q _ h => hFc q h) hFc (fun r_2 u t H1 locs ht hvm hw hB hz1 hk1 hS => ?_)
  obtain ⟨hP1, hK1, hD1⟩ := hB
  rw [ht] at hP1
  have hK1 := va_K.moved hvm.symm hK1
  obtain ⟨hP, hD⟩ := va_join (wr := [(h0, .inr (6, [.ref ah, v1, v2, v3, .ref ch, v5, v6, v7]))]) (w1 := [(ch, .inr (2, [.ref eh, .ref bh, .int 0, .int 0, .int 0, y5])), (eh, .inr (5, [.int 0, z1]))]) hP hD [1, 2] [0] rfl rfl (by decide) (by decide) hk1 hFc hP1 hD1
  generalize H1 = H at hP hS ⊢
  have hP : va_P (dC, dI) vwCl [(h0, .inr (6, [.ref ah, v1, v2, v3, .ref ch, v5, v6, v7])), (ch, .inr (2, [.ref eh, .ref bh, .int 0, .int 0, .int 0, y5])), (eh, .inr (5, [.int 0, z1]))] H := hP
  have hD : va_D A [(h0, .inr (6, [.ref ah, v1, v2, v3, .ref ch, v5, v6, v7])), (ch, .inr (2, [.ref eh, .ref bh, .int 0, .int 0, .int 0, y5])), (eh, .inr (5, [.int 0, z1]))] := hD
  subst hw
  refine lv_istore_n (lv' := [(1, .int (-1)), (0, .ref h0)]) hx hb dX8_text_21 rfl hl (by decide) rfl (fun ls hl => ?_)
  refine lv_iload_n hx hb dX8_text_22 rfl (lv_at hl 0 rfl) ?_
  refine lv_if_le (tgt := 40) hx hb dX8_text_23 (by decide) (fun _ => ?_) (fun c => absurd (by decide) c)
  refine lv_aload_n hx hb dX8_text_40 rfl (lv_at hl 1 rfl) ?_
  refine va_get (D := (dC, dI)) (ci := 6) (v := .ref ch) (C := RX8) (T := TX8) (N := 8) hx hb hts inX8 hown hK hP 0 rfl rfl 4 (by decide) (hts _ (List.mem_of_getElem? (i := 1) rfl)) (fun _ h9 => h9) rfl dX8_text_41 ?_
  refine va_getN (D := (dC, dI)) (ci := 2) (v := .ref eh) (C := RX4) (T := TX4) (N := 6) hx hb hts inX4 hown hK hP 1 rfl rfl 0 (by decide) (ev_nest hev 19 rfl) (fun _ h9 => h9) rfl dX8_text_44 ?_
  refine lv_iconst (v := 0) hx hb dX8_text_47 (by decide) ?_
  refine va_putN (D := (dC, dI)) (ci := 5) (v := .int 0) (ty := .int) (C := RX7) (T := TX7) (N := 2) hx hb hts inX7 tyX7 tyX7_ok nmX7 hown hK hP hD hS 2 rfl rfl 0 (by decide) (ev_nest hev 17 rfl) (fun _ h9 => h9) rfl (by decide +kernel) rfl rfl (Nat.le_of_ble_eq_true rfl) dX8_text_48 (fun H locs hP hD hS => ?_)
  have hP : va_P (dC, dI) vwCl [(h0, .inr (6, [.ref ah, v1, v2, v3, .ref ch, v5, v6, v7])), (ch, .inr (2, [.ref eh, .ref bh, .int 0, .int 0, .int 0, y5])), (eh, .inr (5, [.int 0, z1]))] H := hP
  have hD : va_D A [(h0, .inr (6, [.ref ah, v1, v2, v3, .ref ch, v5, v6, v7])), (ch, .inr (2, [.ref eh, .ref bh, .int 0, .int 0, .int 0, y5])), (eh, .inr (5, [.int 0, z1]))] := hD
  refine lv_iload_n hx hb dX8_text_51 rfl (lv_at hl 0 rfl) ?_
  exact W.iret (v := (-1)) hx hb hr (fun t ht hW => ⟨⟨(-1), (), rfl, rfl, trivial⟩, hS.F ht⟩) hS.2.2 dX8_text_52

def w_m_byteAt : List Cond := .code yX9_byteAt cX9_byteAt 2 (some .int) :: (([.fieldLink RX9 188 "LampShapesModel" "taped" "I"] : List Cond) ++ wsX90)
set_option maxHeartbeats 4000000 in
set_option maxRecDepth 100000 in
theorem m_byteAt (l : Launch) (dC : Nat → ClassId) (dI : Nat → Nat → Nat) (ad : Nat → Nat) (h0 : Nat) (v0 : Value) (v1 : Value) (v2 : Value) (v3 : Value) (v4 : Value) (v5 : Value) (v6 : Value) (v7 : Value) (v8 : Value) (v9 : Value) (v10 : Value) (v12 : Value) (v13 : Value) (v14 : Value) (v15 : Value) (v16 : Value) (v17 : Value) (v18 : Value) (v19 : Value) (v20 : Value) (v21 : Value) (v22 : Value) (v23 : Value) (v24 : Value) (v25 : Value) (v26 : Value) (v27 : Value) : Met l yX9_byteAt w_m_byteAt ({ frames := 0, cells := 0, slots := 0, locals := 0 } : Room) (va_Pc [.ref h0, .int 0] (preS dC dI ad [] [(h0, .inr (7, [v0, v1, v2, v3, v4, v5, v6, v7, v8, v9, v10, .int 0, v12, v13, v14, v15, v16, v17, v18, v19, v20, v21, v22, v23, v24, v25, v26, v27]))])) (vp_Si (fun r => (r = (-1)))) 0 0 (fun _ => False) := by
  refine Met.ofW (cc := cX9_byteAt) (maxL := 2) (ret := (some .int)) (by decide) rfl ?_
  intro p e s m args below meth c s₁ B hml hv
  obtain ⟨rfl, hP, hK, hev⟩ := hv
  have hx := B.exec
  have hb := B.bytes
  have hr := B.returns
  have hts := atoms_spec (ws := w_m_byteAt) B.pre
  have hown : s.vm.findClass RX9 = some m.cls := findClass_of_methodNamed B.named
  have hlocks := B.notSynchronized
  have inX9 : ∀ w ∈ wsX90, w ∈ w_m_byteAt := fun w h => List.mem_cons_of_mem _ (List.mem_append_right _ h)
  have hP : va_P (dC, dI) vwCl [(h0, .inr (7, [v0, v1, v2, v3, v4, v5, v6, v7, v8, v9, v10, .int 0, v12, v13, v14, v15, v16, v17, v18, v19, v20, v21, v22, v23, v24, v25, v26, v27]))] s.heap := hP
  have hl := lv_entry ([.ref h0, .int 0]) (n := 2) (Nat.le_of_ble_eq_true rfl)
  rw [lg_entry_eq]
  generalize (lg_sl ([.ref h0, .int 0]) ++ List.replicate (2 - (lg_sl ([.ref h0, .int 0])).length) Slot.unset).toArray = ls at hl ⊢
  have hl : lv_has ls 2 [(0, .ref h0), (1, .int 0)] := hl
  refine lv_iload_n hx hb dX9_byteAt_0 rfl (lv_at hl 1 rfl) ?_
  refine lv_aload_n hx hb dX9_byteAt_1 rfl (lv_at hl 0 rfl) ?_
  refine va_get (D := (dC, dI)) (ci := 7) (v := .int 0) (C := RX9) (T := TX9) (N := 28) hx hb hts inX9 hown hK hP 0 rfl rfl 11 (by decide) (hts _ (List.mem_of_getElem? (i := 1) rfl)) (fun _ h9 => h9) rfl dX9_byteAt_2 ?_
  refine lv_icmp_ge (tgt := 17) hx hb dX9_byteAt_5 (by decide) (fun _ => ?_) (fun c => absurd (by decide) c)
  refine lv_iconst (v := (-1)) hx hb dX9_byteAt_17 (by decide) ?_
  exact W.iret (v := (-1)) hx hb hr (fun t ht hW => ⟨(-1), rfl, rfl, ht⟩) (fun _ h => absurd h List.not_mem_nil) dX9_byteAt_18

def w_m_next : List Cond := .code yX9_next cX9_next 2 none :: (([.fieldLink RX9 191 "LampShapesModel" "ends" "I", .fieldLink RX9 194 "LampShapesModel" "begins" "I", .methodLink RX9 197 yX9_byteAt, .instanceMethod yX9_byteAt, .selects RX9 yX9_byteAt yX9_byteAt, .initialized RX9, .code yX9_byteAt cX9_byteAt 2 (some .int), .fieldLink RX9 188 "LampShapesModel" "taped" "I", .fieldLink RX9 200 "LampShapesModel" "value" "I", .fieldLink RX9 203 "LampShapesModel" "sort" "I"] : List Cond) ++ wsX90)
set_option maxRecDepth 20000 in
theorem g_m_next_m_byteAt_197 : GoodIn w_m_next (wsV RX9 197 RX9 yX9_byteAt w_m_byteAt) := goodIn_r _ [3, 4, 5, 6, 7, 8, 11, 12, 13, 14, 15, 16, 17, 18, 19, 20, 21, 22, 23, 24, 25, 26, 27, 28, 29, 30, 31, 32, 33, 34, 35, 36, 37, 38] rfl (by decide +kernel)
set_option maxHeartbeats 4000000 in
set_option maxRecDepth 100000 in
theorem m_next (l : Launch) (dC : Nat → ClassId) (dI : Nat → Nat → Nat) (ad : Nat → Nat) (h0 : Nat) (v0 : Value) (v1 : Value) (v2 : Value) (v3 : Value) (v4 : Value) (v5 : Value) (v6 : Value) (v7 : Value) (v8 : Value) (v9 : Value) (v10 : Value) (v12 : Value) (v14 : Value) (v15 : Value) (v16 : Value) (v17 : Value) (v18 : Value) (v19 : Value) (v20 : Value) (v21 : Value) (v22 : Value) (v23 : Value) (v24 : Value) (v25 : Value) (v26 : Value) (v27 : Value) (sz : Nat) : Met l yX9_next w_m_next ({ frames := 1, cells := 0, slots := 0, locals := 21 } : Room) (va_Pc [.ref h0] (preM dC dI ad [] [(h0, .inr (7, [v0, v1, v2, v3, v4, v5, v6, v7, v8, v9, v10, .int 0, v12, .int 0, v14, v15, v16, v17, v18, v19, v20, v21, v22, v23, v24, v25, v26, v27]))] sz)) (va_Qv (fun (_ : Unit) => True) (fun _ t => va_P (dC, dI) vwCl [(h0, .inr (7, [v0, v1, v2, v3, v4, v5, v6, v7, v8, v9, v10, .int 0, .int 0, .int 0, .int 0, .int 0, v16, v17, v18, v19, v20, v21, v22, v23, v24, v25, v26, v27]))] t.heap ∧ va_K (dC, dI) vwCl [] t ∧ va_D (va_A [(h0, .inr (7, [v0, v1, v2, v3, v4, v5, v6, v7, v8, v9, v10, .int 0, v12, .int 0, v14, v15, v16, v17, v18, v19, v20, v21, v22, v23, v24, v25, v26, v27]))] sz) [(h0, .inr (7, [v0, v1, v2, v3, v4, v5, v6, v7, v8, v9, v10, .int 0, .int 0, .int 0, .int 0, .int 0, v16, v17, v18, v19, v20, v21, v22, v23, v24, v25, v26, v27]))]) (va_A [(h0, .inr (7, [v0, v1, v2, v3, v4, v5, v6, v7, v8, v9, v10, .int 0, v12, .int 0, v14, v15, v16, v17, v18, v19, v20, v21, v22, v23, v24, v25, v26, v27]))] sz)) 0 0 (va_A [(h0, .inr (7, [v0, v1, v2, v3, v4, v5, v6, v7, v8, v9, v10, .int 0, v12, .int 0, v14, v15, v16, v17, v18, v19, v20, v21, v22, v23, v24, v25, v26, v27]))] sz) := by
  refine Met.ofW (cc := cX9_next) (maxL := 2) (ret := none) (by decide) rfl ?_
  intro p e s m args below meth c s₁ B hml hv
  obtain ⟨rfl, hsz, hP, hK, hD0, hev⟩ := hv
  have hx := B.exec
  have hb := B.bytes
  have hr := B.returns
  have hts := atoms_spec (ws := w_m_next) B.pre
  have hown : s.vm.findClass RX9 = some m.cls := findClass_of_methodNamed B.named
  have hlocks := B.notSynchronized
  have inX9 : ∀ w ∈ wsX90, w ∈ w_m_next := fun w h => List.mem_cons_of_mem _ (List.mem_append_right _ h)
  subst hsz
  have hD := hD0.self (sz := s.heap.size)
  generalize hAe : va_A [(h0, .inr (7, [v0, v1, v2, v3, v4, v5, v6, v7, v8, v9, v10, .int 0, v12, .int 0, v14, v15, v16, v17, v18, v19, v20, v21, v22, v23, v24, v25, v26, v27]))] s.heap.size = A at hD ⊢
  have hA : ∀ q : Nat, s.heap.size ≤ q → A q := fun q h => by rw [← hAe]; exact Or.inr h
  have hS : va_S A s.heap s.heap [] := va_S.rf
  have hP : va_P (dC, dI) vwCl [(h0, .inr (7, [v0, v1, v2, v3, v4, v5, v6, v7, v8, v9, v10, .int 0, v12, .int 0, v14, v15, v16, v17, v18, v19, v20, v21, v22, v23, v24, v25, v26, v27]))] s.heap := hP
  have hl := lv_entry ([.ref h0]) (n := 2) (Nat.le_of_ble_eq_true rfl)
  rw [lg_entry_eq]
  generalize (lg_sl ([.ref h0]) ++ List.replicate (2 - (lg_sl ([.ref h0])).length) Slot.unset).toArray = ls at hl ⊢
  have hl : lv_has ls 2 [(0, .ref h0)] := hl
  refine lv_aload_n hx hb dX9_next_0 rfl (lv_at hl 0 rfl) ?_
  refine lv_aload_n hx hb dX9_next_1 rfl (lv_at hl 0 rfl) ?_
  refine va_get (D := (dC, dI)) (ci := 7) (v := .int 0) (C := RX9) (T := TX9) (N := 28) hx hb hts inX9 hown hK hP 0 rfl rfl 13 (by decide) (hts _ (List.mem_of_getElem? (i := 1) rfl)) (fun _ h9 => h9) rfl dX9_next_2 ?_
  refine va_put (D := (dC, dI)) (ci := 7) (v := .int 0) (ty := .int) (C := RX9) (T := TX9) (N := 28) hx hb hts inX9 tyX9 tyX9_ok nmX9 hown hK hP hD hS 0 rfl rfl 12 (by decide) (hts _ (List.mem_of_getElem? (i := 2) rfl)) (fun _ h9 => h9) rfl (by decide +kernel) rfl rfl (Nat.le_of_ble_eq_true rfl) dX9_next_5 (fun H locs hP hD hS => ?_)
  have hP : va_P (dC, dI) vwCl [(h0, .inr (7, [v0, v1, v2, v3, v4, v5, v6, v7, v8, v9, v10, .int 0, .int 0, .int 0, v14, v15, v16, v17, v18, v19, v20, v21, v22, v23, v24, v25, v26, v27]))] H := hP
  have hD : va_D A [(h0, .inr (7, [v0, v1, v2, v3, v4, v5, v6, v7, v8, v9, v10, .int 0, .int 0, .int 0, v14, v15, v16, v17, v18, v19, v20, v21, v22, v23, v24, v25, v26, v27]))] := hD
  refine lv_aload_n hx hb dX9_next_8 rfl (lv_at hl 0 rfl) ?_
  refine lv_aload_n hx hb dX9_next_9 rfl (lv_at hl 0 rfl) ?_
  refine va_get (D := (dC, dI)) (ci := 7) (v := .int 0) (C := RX9) (T := TX9) (N := 28) hx hb hts inX9 hown hK hP 0 rfl rfl 12 (by decide) (hts _ (List.mem_of_getElem? (i := 2) rfl)) (fun _ h9 => h9) rfl dX9_next_10 ?_
  have hPc := hP.sub (ws' := [(h0, .inr (7, [v0, v1, v2, v3, v4, v5, v6, v7, v8, v9, v10, .int 0, .int 0, .int 0, v14, v15, v16, v17, v18, v19, v20, v21, v22, v23, v24, v25, v26, v27]))]) [0] rfl
  have hKc := hK.sub (tys' := []) [] rfl
  refine vp_callSi (W.runV (As := [.int 0]) (rest := []) ⟨hx, hb, hml, hown, hts⟩ (m_byteAt l dC dI ad h0 v0 v1 v2 v3 v4 v5 v6 v7 v8 v9 v10 (.int 0) (.int 0) v14 v15 v16 v17 v18 v19 v20 v21 v22 v23 v24 v25 v26 v27 ) (cwV 1 hts g_m_next_m_byteAt_197 rfl rfl rfl (by decide +kernel) ⟨(Nat.le_of_ble_eq_true rfl), (Nat.le_of_ble_eq_true rfl)⟩) ⟨preS_blind, va_recv hKc hPc (ci := 7) (q0 := 0) rfl rfl, fun U hU hW => ⟨rfl, preS_at hU hW hPc hKc hev⟩⟩ rfl rfl hl.1 rfl (lv_room (Nat.le_of_ble_eq_true rfl)) dX9_next_13 ⟨(Nat.le_of_ble_eq_true rfl), (Nat.le_of_ble_eq_true rfl)⟩) (fun r_1 hw => ?_)
  subst hw
  refine lv_bipush (v := 32) hx hb dX9_next_16 (by decide) ?_
  refine lv_icmp_ne (tgt := 34) hx hb dX9_next_18 (by decide) (fun _ => ?_) (fun c => absurd c (by decide))
  refine lv_aload_n hx hb dX9_next_34 rfl (lv_at hl 0 rfl) ?_
  refine lv_aload_n hx hb dX9_next_35 rfl (lv_at hl 0 rfl) ?_
  refine va_get (D := (dC, dI)) (ci := 7) (v := .int 0) (C := RX9) (T := TX9) (N := 28) hx hb hts inX9 hown hK hP 0 rfl rfl 12 (by decide) (hts _ (List.mem_of_getElem? (i := 2) rfl)) (fun _ h9 => h9) rfl dX9_next_36 ?_
  have hPc := hP.sub (ws' := [(h0, .inr (7, [v0, v1, v2, v3, v4, v5, v6, v7, v8, v9, v10, .int 0, .int 0, .int 0, v14, v15, v16, v17, v18, v19, v20, v21, v22, v23, v24, v25, v26, v27]))]) [0] rfl
  have hKc := hK.sub (tys' := []) [] rfl
  refine vp_callSi (W.runV (As := [.int 0]) (rest := []) ⟨hx, hb, hml, hown, hts⟩ (m_byteAt l dC dI ad h0 v0 v1 v2 v3 v4 v5 v6 v7 v8 v9 v10 (.int 0) (.int 0) v14 v15 v16 v17 v18 v19 v20 v21 v22 v23 v24 v25 v26 v27 ) (cwV 1 hts g_m_next_m_byteAt_197 rfl rfl rfl (by decide +kernel) ⟨(Nat.le_of_ble_eq_true rfl), (Nat.le_of_ble_eq_true rfl)⟩) ⟨preS_blind, va_recv hKc hPc (ci := 7) (q0 := 0) rfl rfl, fun U hU hW => ⟨rfl, preS_at hU hW hPc hKc hev⟩⟩ rfl rfl hl.1 rfl (lv_room (Nat.le_of_ble_eq_true rfl)) dX9_next_39 ⟨(Nat.le_of_ble_eq_true rfl), (Nat.le_of_ble_eq_true rfl)⟩) (fun r_2 hw => ?_)
  subst hw
  refine lv_istore_n (lv' := [(1, .int (-1)), (0, .ref h0)]) hx hb dX9_next_42 rfl hl (by decide) rfl (fun ls hl => ?_)
  refine lv_aload_n hx hb dX9_next_43 rfl (lv_at hl 1 rfl) ?_
  refine lv_aload_n hx hb dX9_next_44 rfl (lv_at hl 1 rfl) ?_
  refine va_get (D := (dC, dI)) (ci := 7) (v := .int 0) (C := RX9) (T := TX9) (N := 28) hx hb hts inX9 hown hK hP 0 rfl rfl 12 (by decide) (hts _ (List.mem_of_getElem? (i := 2) rfl)) (fun _ h9 => h9) rfl dX9_next_45 ?_
  refine va_put (D := (dC, dI)) (ci := 7) (v := .int 0) (ty := .int) (C := RX9) (T := TX9) (N := 28) hx hb hts inX9 tyX9 tyX9_ok nmX9 hown hK hP hD hS 0 rfl rfl 13 (by decide) (hts _ (List.mem_of_getElem? (i := 1) rfl)) (fun _ h9 => h9) rfl (by decide +kernel) rfl rfl (Nat.le_of_ble_eq_true rfl) dX9_next_48 (fun H locs hP hD hS => ?_)
  have hP : va_P (dC, dI) vwCl [(h0, .inr (7, [v0, v1, v2, v3, v4, v5, v6, v7, v8, v9, v10, .int 0, .int 0, .int 0, v14, v15, v16, v17, v18, v19, v20, v21, v22, v23, v24, v25, v26, v27]))] H := hP
  have hD : va_D A [(h0, .inr (7, [v0, v1, v2, v3, v4, v5, v6, v7, v8, v9, v10, .int 0, .int 0, .int 0, v14, v15, v16, v17, v18, v19, v20, v21, v22, v23, v24, v25, v26, v27]))] := hD
  refine lv_aload_n hx hb dX9_next_51 rfl (lv_at hl 1 rfl) ?_
  refine lv_iconst (v := 0) hx hb dX9_next_52 (by decide) ?_
  refine va_put (D := (dC, dI)) (ci := 7) (v := .int 0) (ty := .int) (C := RX9) (T := TX9) (N := 28) hx hb hts inX9 tyX9 tyX9_ok nmX9 hown hK hP hD hS 0 rfl rfl 15 (by decide) (hts _ (List.mem_of_getElem? (i := 9) rfl)) (fun _ h9 => h9) rfl (by decide +kernel) rfl rfl (Nat.le_of_ble_eq_true rfl) dX9_next_53 (fun H locs hP hD hS => ?_)
  have hP : va_P (dC, dI) vwCl [(h0, .inr (7, [v0, v1, v2, v3, v4, v5, v6, v7, v8, v9, v10, .int 0, .int 0, .int 0, v14, .int 0, v16, v17, v18, v19, v20, v21, v22, v23, v24, v25, v26, v27]))] H := hP
  have hD : va_D A [(h0, .inr (7, [v0, v1, v2, v3, v4, v5, v6, v7, v8, v9, v10, .int 0, .int 0, .int 0, v14, .int 0, v16, v17, v18, v19, v20, v21, v22, v23, v24, v25, v26, v27]))] := hD
  refine lv_iload_n hx hb dX9_next_56 rfl (lv_at hl 0 rfl) ?_
  refine lv_if_ge (tgt := 68) hx hb dX9_next_57 (by decide) (fun c => absurd c (by decide)) (fun _ => ?_)
  refine lv_aload_n hx hb dX9_next_60 rfl (lv_at hl 1 rfl) ?_
  refine lv_iconst (v := 0) hx hb dX9_next_61 (by decide) ?_
  refine va_put (D := (dC, dI)) (ci := 7) (v := .int 0) (ty := .int) (C := RX9) (T := TX9) (N := 28) hx hb hts inX9 tyX9 tyX9_ok nmX9 hown hK hP hD hS 0 rfl rfl 14 (by decide) (hts _ (List.mem_of_getElem? (i := 10) rfl)) (fun _ h9 => h9) rfl (by decide +kernel) rfl rfl (Nat.le_of_ble_eq_true rfl) dX9_next_62 (fun H locs hP hD hS => ?_)
  have hP : va_P (dC, dI) vwCl [(h0, .inr (7, [v0, v1, v2, v3, v4, v5, v6, v7, v8, v9, v10, .int 0, .int 0, .int 0, .int 0, .int 0, v16, v17, v18, v19, v20, v21, v22, v23, v24, v25, v26, v27]))] H := hP
  have hD : va_D A [(h0, .inr (7, [v0, v1, v2, v3, v4, v5, v6, v7, v8, v9, v10, .int 0, .int 0, .int 0, .int 0, .int 0, v16, v17, v18, v19, v20, v21, v22, v23, v24, v25, v26, v27]))] := hD
  refine lv_goto (tgt := 245) hx hb dX9_next_65 (by decide) ?_
  have hP9 := hP.sub (ws' := [(h0, .inr (7, [v0, v1, v2, v3, v4, v5, v6, v7, v8, v9, v10, .int 0, .int 0, .int 0, .int 0, .int 0, v16, v17, v18, v19, v20, v21, v22, v23, v24, v25, v26, v27]))]) [0] rfl
  have hD9 := hD.sub (ws' := [(h0, .inr (7, [v0, v1, v2, v3, v4, v5, v6, v7, v8, v9, v10, .int 0, .int 0, .int 0, .int 0, .int 0, v16, v17, v18, v19, v20, v21, v22, v23, v24, v25, v26, v27]))]) [0] (by decide) rfl
  have hK9 := hK.sub (tys' := []) [] rfl
  exact W.vret hx hb hr (fun t ht hW => ⟨⟨(), rfl, trivial, by rw [ht]; exact hP9, va_K.moved hW.alike hK9, hD9⟩, hS.F ht⟩) hS.2.2 dX9_next_245

def w_m_isWord : List Cond := .code yX9_isWord cX9_isWord 4 (some .boolean) :: (([.fieldLink RX9 203 "LampShapesModel" "sort" "I", .methodLink RX9 209 yJ0_length_8abf5, .instanceMethod yJ0_length_8abf5, .selects RJ0 yJ0_length_8abf5 yJ0_length_8abf5, .initialized RJ0, .code yJ0_length_8abf5 cJ0_length_8abf5 1 (some .int), .fieldLink RJ0 9 "java/lang/String" "value" "[B", .methodLink RJ0 335 yJ0_coder_7d493, .instanceMethod yJ0_coder_7d493, .selects RJ0 yJ0_coder_7d493 yJ0_coder_7d493, .code yJ0_coder_7d493 cJ0_coder_7d493 1 (some .byte), .fieldLink RJ0 38 "java/lang/String" "COMPACT_STRINGS" "Z", .fieldLink RJ0 15 "java/lang/String" "coder" "B"] : List Cond) ++ wsX90)
set_option maxRecDepth 20000 in
theorem g_m_isWord_c_length_209 : GoodIn w_m_isWord (wsV RX9 209 RJ0 yJ0_length_8abf5 w_c_length) := goodIn_r _ [2, 3, 4, 5, 6, 7, 8, 9, 10, 5, 11, 12, 13] rfl (by decide +kernel)
set_option maxHeartbeats 4000000 in
set_option maxRecDepth 100000 in
theorem m_isWord (l : Launch) (dC : Nat → ClassId) (dI : Nat → Nat → Nat) (ad : Nat → Nat) (h0 : Nat) (kk : Nat) (v0 : Value) (v1 : Value) (v2 : Value) (v3 : Value) (v4 : Value) (v5 : Value) (v6 : Value) (v7 : Value) (v8 : Value) (v9 : Value) (v10 : Value) (v11 : Value) (v12 : Value) (v13 : Value) (v15 : Value) (v16 : Value) (v17 : Value) (v18 : Value) (v19 : Value) (v20 : Value) (v21 : Value) (v22 : Value) (v23 : Value) (v24 : Value) (v25 : Value) (v26 : Value) (v27 : Value) (hkk : kk < 26) : Met l yX9_isWord w_m_isWord ({ frames := 2, cells := 0, slots := 0, locals := 40 } : Room) (va_Pc [.ref h0, .ref (ad kk)] (preST dC dI ad [] [(h0, .inr (7, [v0, v1, v2, v3, v4, v5, v6, v7, v8, v9, v10, v11, v12, v13, .int 0, v15, v16, v17, v18, v19, v20, v21, v22, v23, v24, v25, v26, v27]))])) (vp_Si (fun r => (r = 0))) 0 0 (fun _ => False) := by
  refine Met.ofW (cc := cX9_isWord) (maxL := 4) (ret := (some .boolean)) (by decide) rfl ?_
  intro p e s m args below meth c s₁ B hml hv
  obtain ⟨rfl, ⟨hP, hK, hev⟩, hsf⟩ := hv
  have hS : va_S (fun _ => False) s.heap s.heap [] := va_S.rf
  have hx := B.exec
  have hb := B.bytes
  have hr := B.returns
  have hts := atoms_spec (ws := w_m_isWord) B.pre
  have hown : s.vm.findClass RX9 = some m.cls := findClass_of_methodNamed B.named
  have hlocks := B.notSynchronized
  have inX9 : ∀ w ∈ wsX90, w ∈ w_m_isWord := fun w h => List.mem_cons_of_mem _ (List.mem_append_right _ h)
  have hP : va_P (dC, dI) vwCl [(h0, .inr (7, [v0, v1, v2, v3, v4, v5, v6, v7, v8, v9, v10, v11, v12, v13, .int 0, v15, v16, v17, v18, v19, v20, v21, v22, v23, v24, v25, v26, v27]))] s.heap := hP
  have hl := lv_entry ([.ref h0, .ref (ad kk)]) (n := 4) (Nat.le_of_ble_eq_true rfl)
  rw [lg_entry_eq]
  generalize (lg_sl ([.ref h0, .ref (ad kk)]) ++ List.replicate (4 - (lg_sl ([.ref h0, .ref (ad kk)])).length) Slot.unset).toArray = ls at hl ⊢
  have hl : lv_has ls 4 [(0, .ref h0), (1, .ref (ad kk))] := hl
  refine lv_aload_n hx hb dX9_isWord_0 rfl (lv_at hl 0 rfl) ?_
  refine va_get (D := (dC, dI)) (ci := 7) (v := .int 0) (C := RX9) (T := TX9) (N := 28) hx hb hts inX9 hown hK hP 0 rfl rfl 14 (by decide) (hts _ (List.mem_of_getElem? (i := 1) rfl)) (fun _ h9 => h9) rfl dX9_isWord_1 ?_
  refine lv_iconst (v := 1) hx hb dX9_isWord_4 (by decide) ?_
  refine lv_icmp_ne (tgt := 28) hx hb dX9_isWord_5 (by decide) (fun _ => ?_) (fun c => absurd c (by decide))
  refine lv_iconst (v := 0) hx hb dX9_isWord_28 (by decide) ?_
  refine lv_istore_n (lv' := [(2, .int 0), (0, .ref h0), (1, .ref (ad kk))]) hx hb dX9_isWord_29 rfl hl (by decide) rfl (fun ls hl => ?_)
  refine lv_iconst (v := 0) hx hb dX9_isWord_30 (by decide) ?_
  refine lv_istore_n (lv' := [(3, .int 0), (2, .int 0), (0, .ref h0), (1, .ref (ad kk))]) hx hb dX9_isWord_31 rfl hl (by decide) rfl (fun ls hl => ?_)
  refine lv_iload_n hx hb dX9_isWord_32 rfl (lv_at hl 0 rfl) ?_
  refine lv_aload_n hx hb dX9_isWord_33 rfl (lv_at hl 3 rfl) ?_
  have hPc := hP.sub (ws' := []) [] rfl
  have hKc := hK.sub (tys' := []) [] rfl
  refine vp_callSi (W.runV (As := []) (rest := [.int 0]) ⟨hx, hb, hml, hown, hts⟩ (c_length l dC dI ad kk hkk) (cwV 0 hts g_m_isWord_c_length_209 rfl rfl rfl (by decide +kernel) ⟨(Nat.le_of_ble_eq_true rfl), (Nat.le_of_ble_eq_true rfl)⟩) ⟨preST_blind, sf_recv hsf hS kk hkk, fun U hU hW => ⟨rfl, preS_at hU hW hPc hKc hev, sf_at hsf hS (fun _ h => h.elim) hU hW⟩⟩ rfl rfl hl.1 rfl (lv_room (Nat.le_of_ble_eq_true rfl)) dX9_isWord_34 ⟨(Nat.le_of_ble_eq_true rfl), (Nat.le_of_ble_eq_true rfl)⟩) (fun r_1 hw => ?_)
  refine lv_icmp_ge (tgt := 75) hx hb dX9_isWord_37 (by decide) (fun c_2 => ?_) (fun c_2 => ?_)
  · skip
    refine lv_iload_n hx hb dX9_isWord_75 rfl (lv_at hl 1 rfl) ?_
    exact W.zret (v := 0) hx hb hr (by decide) (fun t ht hW => ⟨0, rfl, rfl, ht⟩) (fun _ h => absurd h List.not_mem_nil) dX9_isWord_76
  · skip
    refine lv_iload_n hx hb dX9_isWord_40 rfl (lv_at hl 1 rfl) ?_
    refine lv_if_eq (tgt := 75) hx hb dX9_isWord_41 (by decide) (fun _ => ?_) (fun c => absurd (by decide) c)
    refine lv_iload_n hx hb dX9_isWord_75 rfl (lv_at hl 1 rfl) ?_
    exact W.zret (v := 0) hx hb hr (by decide) (fun t ht hW => ⟨0, rfl, rfl, ht⟩) (fun _ h => absurd h List.not_mem_nil) dX9_isWord_76

def w_m_kindTold : List Cond := .code yX9_kindTold cX9_kindTold 3 (some .int) :: (([.fieldLink RX9 49 "LampShapesModel" "kinds" "[Ljava/lang/String;", .methodLink RX9 231 yX9_isWord, .instanceMethod yX9_isWord, .selects RX9 yX9_isWord yX9_isWord, .initialized RX9, .code yX9_isWord cX9_isWord 4 (some .boolean), .fieldLink RX9 203 "LampShapesModel" "sort" "I", .methodLink RX9 209 yJ0_length_8abf5, .instanceMethod yJ0_length_8abf5, .selects RJ0 yJ0_length_8abf5 yJ0_length_8abf5, .initialized RJ0, .code yJ0_length_8abf5 cJ0_length_8abf5 1 (some .int), .fieldLink RJ0 9 "java/lang/String" "value" "[B", .methodLink RJ0 335 yJ0_coder_7d493, .instanceMethod yJ0_coder_7d493, .selects RJ0 yJ0_coder_7d493 yJ0_coder_7d493, .code yJ0_coder_7d493 cJ0_coder_7d493 1 (some .byte), .fieldLink RJ0 38 "java/lang/String" "COMPACT_STRINGS" "Z", .fieldLink RJ0 15 "java/lang/String" "coder" "B"] : List Cond) ++ wsX90)
set_option maxRecDepth 20000 in
theorem g_m_kindTold_m_isWord_231 : GoodIn w_m_kindTold (wsV RX9 231 RX9 yX9_isWord w_m_isWord) := goodIn_r _ [2, 3, 4, 5, 6, 7, 8, 9, 10, 11, 12, 13, 14, 15, 16, 17, 18, 19, 20, 21, 22, 23, 24, 25, 26, 27, 28, 29, 30, 31, 32, 33, 34, 35, 36, 37, 38, 39, 40, 41, 42, 43, 44, 45, 46, 47] rfl (by decide +kernel)
set_option maxHeartbeats 4000000 in
set_option maxRecDepth 100000 in
theorem m_kindTold (l : Launch) (dC : Nat → ClassId) (dI : Nat → Nat → Nat) (ad : Nat → Nat) (h0 : Nat) (v0 : Value) (v1 : Value) (v2 : Value) (v3 : Value) (v4 : Value) (v5 : Value) (v6 : Value) (v7 : Value) (v8 : Value) (v9 : Value) (v10 : Value) (v11 : Value) (v12 : Value) (v13 : Value) (v15 : Value) (v16 : Value) (kq : Nat) (v18 : Value) (v19 : Value) (v20 : Value) (v21 : Value) (v22 : Value) (v23 : Value) (v24 : Value) (v25 : Value) (v26 : Value) (v27 : Value) (kc : ClassId) (kf : Nat → Option Nat) (hkf : ∀ j, j < 6 → kf j = (some (ad (13 + j)))) : Met l yX9_kindTold w_m_kindTold ({ frames := 3, cells := 0, slots := 0, locals := 63 } : Room) (va_Pc [.ref h0] (preST dC dI ad [(kc, .object "java/lang/String")] [(h0, .inr (7, [v0, v1, v2, v3, v4, v5, v6, v7, v8, v9, v10, v11, v12, v13, .int 0, v15, v16, .ref kq, v18, v19, v20, v21, v22, v23, v24, v25, v26, v27])), (kq, .inl (kc, 6, .inr (.inr (.inr (.inr kf)))))])) (vp_Si (fun r => (r = (-1)))) 0 0 (fun _ => False) := by
  refine Met.ofW (cc := cX9_kindTold) (maxL := 3) (ret := (some .int)) (by decide) rfl ?_
  intro p e s m args below meth c s₁ B hml hv
  obtain ⟨rfl, ⟨hP, hK, hev⟩, hsf⟩ := hv
  have hS : va_S (fun _ => False) s.heap s.heap [] := va_S.rf
  have hx := B.exec
  have hb := B.bytes
  have hr := B.returns
  have hts := atoms_spec (ws := w_m_kindTold) B.pre
  have hown : s.vm.findClass RX9 = some m.cls := findClass_of_methodNamed B.named
  have hlocks := B.notSynchronized
  have inX9 : ∀ w ∈ wsX90, w ∈ w_m_kindTold := fun w h => List.mem_cons_of_mem _ (List.mem_append_right _ h)
  have hP : va_P (dC, dI) vwCl [(h0, .inr (7, [v0, v1, v2, v3, v4, v5, v6, v7, v8, v9, v10, v11, v12, v13, .int 0, v15, v16, .ref kq, v18, v19, v20, v21, v22, v23, v24, v25, v26, v27])), (kq, .inl (kc, 6, .inr (.inr (.inr (.inr kf)))))] s.heap := hP
  have hl := lv_entry ([.ref h0]) (n := 3) (Nat.le_of_ble_eq_true rfl)
  rw [lg_entry_eq]
  generalize (lg_sl ([.ref h0]) ++ List.replicate (3 - (lg_sl ([.ref h0])).length) Slot.unset).toArray = ls at hl ⊢
  have hl : lv_has ls 3 [(0, .ref h0)] := hl
  refine lv_iconst (v := (-1)) hx hb dX9_kindTold_0 (by decide) ?_
  refine lv_istore_n (lv' := [(1, .int (-1)), (0, .ref h0)]) hx hb dX9_kindTold_1 rfl hl (by decide) rfl (fun ls hl => ?_)
  refine lv_iconst (v := 0) hx hb dX9_kindTold_2 (by decide) ?_
  refine lv_istore_n (lv' := [(2, .int 0), (1, .int (-1)), (0, .ref h0)]) hx hb dX9_kindTold_3 rfl hl (by decide) rfl (fun ls hl => ?_)
  refine lv_iload_n hx hb dX9_kindTold_4 rfl (lv_at hl 0 rfl) ?_
  refine lv_aload_n hx hb dX9_kindTold_5 rfl (lv_at hl 2 rfl) ?_
  refine va_get (D := (dC, dI)) (ci := 7) (v := .ref kq) (C := RX9) (T := TX9) (N := 28) hx hb hts inX9 hown hK hP 0 rfl rfl 17 (by decide) (hts _ (List.mem_of_getElem? (i := 1) rfl)) (fun _ h9 => h9) rfl dX9_kindTold_6 ?_
  refine va_alen (v := 6) hx hb hK hP 1 0 rfl rfl rfl dX9_kindTold_9 ?_
  refine lv_icmp_ge (tgt := 38) hx hb dX9_kindTold_10 (by decide) (fun c => absurd c (by decide)) (fun _ => ?_)
  refine lv_aload_n hx hb dX9_kindTold_13 rfl (lv_at hl 2 rfl) ?_
  refine lv_aload_n hx hb dX9_kindTold_14 rfl (lv_at hl 2 rfl) ?_
  refine va_get (D := (dC, dI)) (ci := 7) (v := .ref kq) (C := RX9) (T := TX9) (N := 28) hx hb hts inX9 hown hK hP 0 rfl rfl 17 (by decide) (hts _ (List.mem_of_getElem? (i := 1) rfl)) (fun _ h9 => h9) rfl dX9_kindTold_15 ?_
  refine lv_iload_n hx hb dX9_kindTold_18 rfl (lv_at hl 0 rfl) ?_
  refine va_aldq hx hb hK hP 1 0 rfl rfl (vp_in_nI (n := 0) (by decide) (by decide)) dX9_kindTold_19 ?_
  refine pp_tv (y := .ref (ad 13)) (congrArg va_rf (hkf 0 (by decide))) ?_
  have hPc := hP.sub (ws' := [(h0, .inr (7, [v0, v1, v2, v3, v4, v5, v6, v7, v8, v9, v10, v11, v12, v13, .int 0, v15, v16, .ref kq, v18, v19, v20, v21, v22, v23, v24, v25, v26, v27]))]) [0] rfl
  have hKc := hK.sub (tys' := []) [] rfl
  refine vp_callSi (W.runV (As := [.ref (ad 13)]) (rest := []) ⟨hx, hb, hml, hown, hts⟩ (m_isWord l dC dI ad h0 13 v0 v1 v2 v3 v4 v5 v6 v7 v8 v9 v10 v11 v12 v13 v15 v16 (.ref kq) v18 v19 v20 v21 v22 v23 v24 v25 v26 v27 (by decide)) (cwV 1 hts g_m_kindTold_m_isWord_231 rfl rfl rfl (by decide +kernel) ⟨(Nat.le_of_ble_eq_true rfl), (Nat.le_of_ble_eq_true rfl)⟩) ⟨preST_blind, va_recv hKc hPc (ci := 7) (q0 := 0) rfl rfl, fun U hU hW => ⟨rfl, preS_at hU hW hPc hKc hev, sf_at hsf hS (fun _ h => h.elim) hU hW⟩⟩ rfl rfl hl.1 rfl (lv_room (Nat.le_of_ble_eq_true rfl)) dX9_kindTold_20 ⟨(Nat.le_of_ble_eq_true rfl), (Nat.le_of_ble_eq_true rfl)⟩) (fun r_1 hw => ?_)
  subst hw
  refine lv_if_eq (tgt := 30) hx hb dX9_kindTold_23 (by decide) (fun _ => ?_) (fun c => absurd (by decide) c)
  refine lv_iload_n hx hb dX9_kindTold_30 rfl (lv_at hl 1 rfl) ?_
  refine lv_istore_n (lv' := [(1, .int (-1)), (2, .int 0), (0, .ref h0)]) hx hb dX9_kindTold_31 rfl hl (by decide) rfl (fun ls hl => ?_)
  refine lv_iinc (v := 1) (lv' := [(2, .int 1), (1, .int (-1)), (0, .ref h0)]) hx hb dX9_kindTold_32 hl (k := 1) rfl (by decide) (by decide) rfl (fun ls hl => ?_)
  refine lv_goto (tgt := 4) hx hb dX9_kindTold_35 (by decide) ?_
  refine lv_iload_n hx hb dX9_kindTold_4 rfl (lv_at hl 0 rfl) ?_
  refine lv_aload_n hx hb dX9_kindTold_5 rfl (lv_at hl 2 rfl) ?_
  refine va_get (D := (dC, dI)) (ci := 7) (v := .ref kq) (C := RX9) (T := TX9) (N := 28) hx hb hts inX9 hown hK hP 0 rfl rfl 17 (by decide) (hts _ (List.mem_of_getElem? (i := 1) rfl)) (fun _ h9 => h9) rfl dX9_kindTold_6 ?_
  refine va_alen (v := 6) hx hb hK hP 1 0 rfl rfl rfl dX9_kindTold_9 ?_
  refine lv_icmp_ge (tgt := 38) hx hb dX9_kindTold_10 (by decide) (fun c => absurd c (by decide)) (fun _ => ?_)
  refine lv_aload_n hx hb dX9_kindTold_13 rfl (lv_at hl 2 rfl) ?_
  refine lv_aload_n hx hb dX9_kindTold_14 rfl (lv_at hl 2 rfl) ?_
  refine va_get (D := (dC, dI)) (ci := 7) (v := .ref kq) (C := RX9) (T := TX9) (N := 28) hx hb hts inX9 hown hK hP 0 rfl rfl 17 (by decide) (hts _ (List.mem_of_getElem? (i := 1) rfl)) (fun _ h9 => h9) rfl dX9_kindTold_15 ?_
  refine lv_iload_n hx hb dX9_kindTold_18 rfl (lv_at hl 0 rfl) ?_
  refine va_aldq hx hb hK hP 1 0 rfl rfl (vp_in_nI (n := 1) (by decide) (by decide)) dX9_kindTold_19 ?_
  refine pp_tv (y := .ref (ad 14)) (congrArg va_rf (hkf 1 (by decide))) ?_
  have hPc := hP.sub (ws' := [(h0, .inr (7, [v0, v1, v2, v3, v4, v5, v6, v7, v8, v9, v10, v11, v12, v13, .int 0, v15, v16, .ref kq, v18, v19, v20, v21, v22, v23, v24, v25, v26, v27]))]) [0] rfl
  have hKc := hK.sub (tys' := []) [] rfl
  refine vp_callSi (W.runV (As := [.ref (ad 14)]) (rest := []) ⟨hx, hb, hml, hown, hts⟩ (m_isWord l dC dI ad h0 14 v0 v1 v2 v3 v4 v5 v6 v7 v8 v9 v10 v11 v12 v13 v15 v16 (.ref kq) v18 v19 v20 v21 v22 v23 v24 v25 v26 v27 (by decide)) (cwV 1 hts g_m_kindTold_m_isWord_231 rfl rfl rfl (by decide +kernel) ⟨(Nat.le_of_ble_eq_true rfl), (Nat.le_of_ble_eq_true rfl)⟩) ⟨preST_blind, va_recv hKc hPc (ci := 7) (q0 := 0) rfl rfl, fun U hU hW => ⟨rfl, preS_at hU hW hPc hKc hev, sf_at hsf hS (fun _ h => h.elim) hU hW⟩⟩ rfl rfl hl.1 rfl (lv_room (Nat.le_of_ble_eq_true rfl)) dX9_kindTold_20 ⟨(Nat.le_of_ble_eq_true rfl), (Nat.le_of_ble_eq_true rfl)⟩) (fun r_2 hw => ?_)
  subst hw
  refine lv_if_eq (tgt := 30) hx hb dX9_kindTold_23 (by decide) (fun _ => ?_) (fun c => absurd (by decide) c)
  refine lv_iload_n hx hb dX9_kindTold_30 rfl (lv_at hl 1 rfl) ?_
  refine lv_istore_n (lv' := [(1, .int (-1)), (2, .int 1), (0, .ref h0)]) hx hb dX9_kindTold_31 rfl hl (by decide) rfl (fun ls hl => ?_)
  refine lv_iinc (v := 2) (lv' := [(2, .int 2), (1, .int (-1)), (0, .ref h0)]) hx hb dX9_kindTold_32 hl (k := 1) rfl (by decide) (by decide) rfl (fun ls hl => ?_)
  refine lv_goto (tgt := 4) hx hb dX9_kindTold_35 (by decide) ?_
  refine lv_iload_n hx hb dX9_kindTold_4 rfl (lv_at hl 0 rfl) ?_
  refine lv_aload_n hx hb dX9_kindTold_5 rfl (lv_at hl 2 rfl) ?_
  refine va_get (D := (dC, dI)) (ci := 7) (v := .ref kq) (C := RX9) (T := TX9) (N := 28) hx hb hts inX9 hown hK hP 0 rfl rfl 17 (by decide) (hts _ (List.mem_of_getElem? (i := 1) rfl)) (fun _ h9 => h9) rfl dX9_kindTold_6 ?_
  refine va_alen (v := 6) hx hb hK hP 1 0 rfl rfl rfl dX9_kindTold_9 ?_
  refine lv_icmp_ge (tgt := 38) hx hb dX9_kindTold_10 (by decide) (fun c => absurd c (by decide)) (fun _ => ?_)
  refine lv_aload_n hx hb dX9_kindTold_13 rfl (lv_at hl 2 rfl) ?_
  refine lv_aload_n hx hb dX9_kindTold_14 rfl (lv_at hl 2 rfl) ?_
  refine va_get (D := (dC, dI)) (ci := 7) (v := .ref kq) (C := RX9) (T := TX9) (N := 28) hx hb hts inX9 hown hK hP 0 rfl rfl 17 (by decide) (hts _ (List.mem_of_getElem? (i := 1) rfl)) (fun _ h9 => h9) rfl dX9_kindTold_15 ?_
  refine lv_iload_n hx hb dX9_kindTold_18 rfl (lv_at hl 0 rfl) ?_
  refine va_aldq hx hb hK hP 1 0 rfl rfl (vp_in_nI (n := 2) (by decide) (by decide)) dX9_kindTold_19 ?_
  refine pp_tv (y := .ref (ad 15)) (congrArg va_rf (hkf 2 (by decide))) ?_
  have hPc := hP.sub (ws' := [(h0, .inr (7, [v0, v1, v2, v3, v4, v5, v6, v7, v8, v9, v10, v11, v12, v13, .int 0, v15, v16, .ref kq, v18, v19, v20, v21, v22, v23, v24, v25, v26, v27]))]) [0] rfl
  have hKc := hK.sub (tys' := []) [] rfl
  refine vp_callSi (W.runV (As := [.ref (ad 15)]) (rest := []) ⟨hx, hb, hml, hown, hts⟩ (m_isWord l dC dI ad h0 15 v0 v1 v2 v3 v4 v5 v6 v7 v8 v9 v10 v11 v12 v13 v15 v16 (.ref kq) v18 v19 v20 v21 v22 v23 v24 v25 v26 v27 (by decide)) (cwV 1 hts g_m_kindTold_m_isWord_231 rfl rfl rfl (by decide +kernel) ⟨(Nat.le_of_ble_eq_true rfl), (Nat.le_of_ble_eq_true rfl)⟩) ⟨preST_blind, va_recv hKc hPc (ci := 7) (q0 := 0) rfl rfl, fun U hU hW => ⟨rfl, preS_at hU hW hPc hKc hev, sf_at hsf hS (fun _ h => h.elim) hU hW⟩⟩ rfl rfl hl.1 rfl (lv_room (Nat.le_of_ble_eq_true rfl)) dX9_kindTold_20 ⟨(Nat.le_of_ble_eq_true rfl), (Nat.le_of_ble_eq_true rfl)⟩) (fun r_3 hw => ?_)
  subst hw
  refine lv_if_eq (tgt := 30) hx hb dX9_kindTold_23 (by decide) (fun _ => ?_) (fun c => absurd (by decide) c)
  refine lv_iload_n hx hb dX9_kindTold_30 rfl (lv_at hl 1 rfl) ?_
  refine lv_istore_n (lv' := [(1, .int (-1)), (2, .int 2), (0, .ref h0)]) hx hb dX9_kindTold_31 rfl hl (by decide) rfl (fun ls hl => ?_)
  refine lv_iinc (v := 3) (lv' := [(2, .int 3), (1, .int (-1)), (0, .ref h0)]) hx hb dX9_kindTold_32 hl (k := 1) rfl (by decide) (by decide) rfl (fun ls hl => ?_)
  refine lv_goto (tgt := 4) hx hb dX9_kindTold_35 (by decide) ?_
  refine lv_iload_n hx hb dX9_kindTold_4 rfl (lv_at hl 0 rfl) ?_
  refine lv_aload_n hx hb dX9_kindTold_5 rfl (lv_at hl 2 rfl) ?_
  refine va_get (D := (dC, dI)) (ci := 7) (v := .ref kq) (C := RX9) (T := TX9) (N := 28) hx hb hts inX9 hown hK hP 0 rfl rfl 17 (by decide) (hts _ (List.mem_of_getElem? (i := 1) rfl)) (fun _ h9 => h9) rfl dX9_kindTold_6 ?_
  refine va_alen (v := 6) hx hb hK hP 1 0 rfl rfl rfl dX9_kindTold_9 ?_
  refine lv_icmp_ge (tgt := 38) hx hb dX9_kindTold_10 (by decide) (fun c => absurd c (by decide)) (fun _ => ?_)
  refine lv_aload_n hx hb dX9_kindTold_13 rfl (lv_at hl 2 rfl) ?_
  refine lv_aload_n hx hb dX9_kindTold_14 rfl (lv_at hl 2 rfl) ?_
  refine va_get (D := (dC, dI)) (ci := 7) (v := .ref kq) (C := RX9) (T := TX9) (N := 28) hx hb hts inX9 hown hK hP 0 rfl rfl 17 (by decide) (hts _ (List.mem_of_getElem? (i := 1) rfl)) (fun _ h9 => h9) rfl dX9_kindTold_15 ?_
  refine lv_iload_n hx hb dX9_kindTold_18 rfl (lv_at hl 0 rfl) ?_
  refine va_aldq hx hb hK hP 1 0 rfl rfl (vp_in_nI (n := 3) (by decide) (by decide)) dX9_kindTold_19 ?_
  refine pp_tv (y := .ref (ad 16)) (congrArg va_rf (hkf 3 (by decide))) ?_
  have hPc := hP.sub (ws' := [(h0, .inr (7, [v0, v1, v2, v3, v4, v5, v6, v7, v8, v9, v10, v11, v12, v13, .int 0, v15, v16, .ref kq, v18, v19, v20, v21, v22, v23, v24, v25, v26, v27]))]) [0] rfl
  have hKc := hK.sub (tys' := []) [] rfl
  refine vp_callSi (W.runV (As := [.ref (ad 16)]) (rest := []) ⟨hx, hb, hml, hown, hts⟩ (m_isWord l dC dI ad h0 16 v0 v1 v2 v3 v4 v5 v6 v7 v8 v9 v10 v11 v12 v13 v15 v16 (.ref kq) v18 v19 v20 v21 v22 v23 v24 v25 v26 v27 (by decide)) (cwV 1 hts g_m_kindTold_m_isWord_231 rfl rfl rfl (by decide +kernel) ⟨(Nat.le_of_ble_eq_true rfl), (Nat.le_of_ble_eq_true rfl)⟩) ⟨preST_blind, va_recv hKc hPc (ci := 7) (q0 := 0) rfl rfl, fun U hU hW => ⟨rfl, preS_at hU hW hPc hKc hev, sf_at hsf hS (fun _ h => h.elim) hU hW⟩⟩ rfl rfl hl.1 rfl (lv_room (Nat.le_of_ble_eq_true rfl)) dX9_kindTold_20 ⟨(Nat.le_of_ble_eq_true rfl), (Nat.le_of_ble_eq_true rfl)⟩) (fun r_4 hw => ?_)
  subst hw
  refine lv_if_eq (tgt := 30) hx hb dX9_kindTold_23 (by decide) (fun _ => ?_) (fun c => absurd (by decide) c)
  refine lv_iload_n hx hb dX9_kindTold_30 rfl (lv_at hl 1 rfl) ?_
  refine lv_istore_n (lv' := [(1, .int (-1)), (2, .int 3), (0, .ref h0)]) hx hb dX9_kindTold_31 rfl hl (by decide) rfl (fun ls hl => ?_)
  refine lv_iinc (v := 4) (lv' := [(2, .int 4), (1, .int (-1)), (0, .ref h0)]) hx hb dX9_kindTold_32 hl (k := 1) rfl (by decide) (by decide) rfl (fun ls hl => ?_)
  refine lv_goto (tgt := 4) hx hb dX9_kindTold_35 (by decide) ?_
  refine lv_iload_n hx hb dX9_kindTold_4 rfl (lv_at hl 0 rfl) ?_
  refine lv_aload_n hx hb dX9_kindTold_5 rfl (lv_at hl 2 rfl) ?_
  refine va_get (D := (dC, dI)) (ci := 7) (v := .ref kq) (C := RX9) (T := TX9) (N := 28) hx hb hts inX9 hown hK hP 0 rfl rfl 17 (by decide) (hts _ (List.mem_of_getElem? (i := 1) rfl)) (fun _ h9 => h9) rfl dX9_kindTold_6 ?_
  refine va_alen (v := 6) hx hb hK hP 1 0 rfl rfl rfl dX9_kindTold_9 ?_
  refine lv_icmp_ge (tgt := 38) hx hb dX9_kindTold_10 (by decide) (fun c => absurd c (by decide)) (fun _ => ?_)
  refine lv_aload_n hx hb dX9_kindTold_13 rfl (lv_at hl 2 rfl) ?_
  refine lv_aload_n hx hb dX9_kindTold_14 rfl (lv_at hl 2 rfl) ?_
  refine va_get (D := (dC, dI)) (ci := 7) (v := .ref kq) (C := RX9) (T := TX9) (N := 28) hx hb hts inX9 hown hK hP 0 rfl rfl 17 (by decide) (hts _ (List.mem_of_getElem? (i := 1) rfl)) (fun _ h9 => h9) rfl dX9_kindTold_15 ?_
  refine lv_iload_n hx hb dX9_kindTold_18 rfl (lv_at hl 0 rfl) ?_
  refine va_aldq hx hb hK hP 1 0 rfl rfl (vp_in_nI (n := 4) (by decide) (by decide)) dX9_kindTold_19 ?_
  refine pp_tv (y := .ref (ad 17)) (congrArg va_rf (hkf 4 (by decide))) ?_
  have hPc := hP.sub (ws' := [(h0, .inr (7, [v0, v1, v2, v3, v4, v5, v6, v7, v8, v9, v10, v11, v12, v13, .int 0, v15, v16, .ref kq, v18, v19, v20, v21, v22, v23, v24, v25, v26, v27]))]) [0] rfl
  have hKc := hK.sub (tys' := []) [] rfl
  refine vp_callSi (W.runV (As := [.ref (ad 17)]) (rest := []) ⟨hx, hb, hml, hown, hts⟩ (m_isWord l dC dI ad h0 17 v0 v1 v2 v3 v4 v5 v6 v7 v8 v9 v10 v11 v12 v13 v15 v16 (.ref kq) v18 v19 v20 v21 v22 v23 v24 v25 v26 v27 (by decide)) (cwV 1 hts g_m_kindTold_m_isWord_231 rfl rfl rfl (by decide +kernel) ⟨(Nat.le_of_ble_eq_true rfl), (Nat.le_of_ble_eq_true rfl)⟩) ⟨preST_blind, va_recv hKc hPc (ci := 7) (q0 := 0) rfl rfl, fun U hU hW => ⟨rfl, preS_at hU hW hPc hKc hev, sf_at hsf hS (fun _ h => h.elim) hU hW⟩⟩ rfl rfl hl.1 rfl (lv_room (Nat.le_of_ble_eq_true rfl)) dX9_kindTold_20 ⟨(Nat.le_of_ble_eq_true rfl), (Nat.le_of_ble_eq_true rfl)⟩) (fun r_5 hw => ?_)
  subst hw
  refine lv_if_eq (tgt := 30) hx hb dX9_kindTold_23 (by decide) (fun _ => ?_) (fun c => absurd (by decide) c)
  refine lv_iload_n hx hb dX9_kindTold_30 rfl (lv_at hl 1 rfl) ?_
  refine lv_istore_n (lv' := [(1, .int (-1)), (2, .int 4), (0, .ref h0)]) hx hb dX9_kindTold_31 rfl hl (by decide) rfl (fun ls hl => ?_)
  refine lv_iinc (v := 5) (lv' := [(2, .int 5), (1, .int (-1)), (0, .ref h0)]) hx hb dX9_kindTold_32 hl (k := 1) rfl (by decide) (by decide) rfl (fun ls hl => ?_)
  refine lv_goto (tgt := 4) hx hb dX9_kindTold_35 (by decide) ?_
  refine lv_iload_n hx hb dX9_kindTold_4 rfl (lv_at hl 0 rfl) ?_
  refine lv_aload_n hx hb dX9_kindTold_5 rfl (lv_at hl 2 rfl) ?_
  refine va_get (D := (dC, dI)) (ci := 7) (v := .ref kq) (C := RX9) (T := TX9) (N := 28) hx hb hts inX9 hown hK hP 0 rfl rfl 17 (by decide) (hts _ (List.mem_of_getElem? (i := 1) rfl)) (fun _ h9 => h9) rfl dX9_kindTold_6 ?_
  refine va_alen (v := 6) hx hb hK hP 1 0 rfl rfl rfl dX9_kindTold_9 ?_
  refine lv_icmp_ge (tgt := 38) hx hb dX9_kindTold_10 (by decide) (fun c => absurd c (by decide)) (fun _ => ?_)
  refine lv_aload_n hx hb dX9_kindTold_13 rfl (lv_at hl 2 rfl) ?_
  refine lv_aload_n hx hb dX9_kindTold_14 rfl (lv_at hl 2 rfl) ?_
  refine va_get (D := (dC, dI)) (ci := 7) (v := .ref kq) (C := RX9) (T := TX9) (N := 28) hx hb hts inX9 hown hK hP 0 rfl rfl 17 (by decide) (hts _ (List.mem_of_getElem? (i := 1) rfl)) (fun _ h9 => h9) rfl dX9_kindTold_15 ?_
  refine lv_iload_n hx hb dX9_kindTold_18 rfl (lv_at hl 0 rfl) ?_
  refine va_aldq hx hb hK hP 1 0 rfl rfl (vp_in_nI (n := 5) (by decide) (by decide)) dX9_kindTold_19 ?_
  refine pp_tv (y := .ref (ad 18)) (congrArg va_rf (hkf 5 (by decide))) ?_
  have hPc := hP.sub (ws' := [(h0, .inr (7, [v0, v1, v2, v3, v4, v5, v6, v7, v8, v9, v10, v11, v12, v13, .int 0, v15, v16, .ref kq, v18, v19, v20, v21, v22, v23, v24, v25, v26, v27]))]) [0] rfl
  have hKc := hK.sub (tys' := []) [] rfl
  refine vp_callSi (W.runV (As := [.ref (ad 18)]) (rest := []) ⟨hx, hb, hml, hown, hts⟩ (m_isWord l dC dI ad h0 18 v0 v1 v2 v3 v4 v5 v6 v7 v8 v9 v10 v11 v12 v13 v15 v16 (.ref kq) v18 v19 v20 v21 v22 v23 v24 v25 v26 v27 (by decide)) (cwV 1 hts g_m_kindTold_m_isWord_231 rfl rfl rfl (by decide +kernel) ⟨(Nat.le_of_ble_eq_true rfl), (Nat.le_of_ble_eq_true rfl)⟩) ⟨preST_blind, va_recv hKc hPc (ci := 7) (q0 := 0) rfl rfl, fun U hU hW => ⟨rfl, preS_at hU hW hPc hKc hev, sf_at hsf hS (fun _ h => h.elim) hU hW⟩⟩ rfl rfl hl.1 rfl (lv_room (Nat.le_of_ble_eq_true rfl)) dX9_kindTold_20 ⟨(Nat.le_of_ble_eq_true rfl), (Nat.le_of_ble_eq_true rfl)⟩) (fun r_6 hw => ?_)
  subst hw
  refine lv_if_eq (tgt := 30) hx hb dX9_kindTold_23 (by decide) (fun _ => ?_) (fun c => absurd (by decide) c)
  refine lv_iload_n hx hb dX9_kindTold_30 rfl (lv_at hl 1 rfl) ?_
  refine lv_istore_n (lv' := [(1, .int (-1)), (2, .int 5), (0, .ref h0)]) hx hb dX9_kindTold_31 rfl hl (by decide) rfl (fun ls hl => ?_)
  refine lv_iinc (v := 6) (lv' := [(2, .int 6), (1, .int (-1)), (0, .ref h0)]) hx hb dX9_kindTold_32 hl (k := 1) rfl (by decide) (by decide) rfl (fun ls hl => ?_)
  refine lv_goto (tgt := 4) hx hb dX9_kindTold_35 (by decide) ?_
  refine lv_iload_n hx hb dX9_kindTold_4 rfl (lv_at hl 0 rfl) ?_
  refine lv_aload_n hx hb dX9_kindTold_5 rfl (lv_at hl 2 rfl) ?_
  refine va_get (D := (dC, dI)) (ci := 7) (v := .ref kq) (C := RX9) (T := TX9) (N := 28) hx hb hts inX9 hown hK hP 0 rfl rfl 17 (by decide) (hts _ (List.mem_of_getElem? (i := 1) rfl)) (fun _ h9 => h9) rfl dX9_kindTold_6 ?_
  refine va_alen (v := 6) hx hb hK hP 1 0 rfl rfl rfl dX9_kindTold_9 ?_
  refine lv_icmp_ge (tgt := 38) hx hb dX9_kindTold_10 (by decide) (fun _ => ?_) (fun c => absurd (by decide) c)
  refine lv_iload_n hx hb dX9_kindTold_38 rfl (lv_at hl 1 rfl) ?_
  exact W.iret (v := (-1)) hx hb hr (fun t ht hW => ⟨(-1), rfl, rfl, ht⟩) (fun _ h => absurd h List.not_mem_nil) dX9_kindTold_39

def w_m_must_a : List Cond := .code yX9_must cX9_must 2 none :: (([.fieldLink RX9 217 "LampShapesModel" "isWrong" "Z"] : List Cond) ++ wsX90)
set_option maxHeartbeats 4000000 in
set_option maxRecDepth 100000 in
theorem m_must_a (l : Launch) (dC : Nat → ClassId) (dI : Nat → Nat → Nat) (ad : Nat → Nat) (h0 : Nat) (v0 : Value) (v1 : Value) (v2 : Value) (v3 : Value) (v4 : Value) (v5 : Value) (v6 : Value) (v7 : Value) (v8 : Value) (v9 : Value) (v10 : Value) (v11 : Value) (v12 : Value) (v13 : Value) (v14 : Value) (v15 : Value) (v17 : Value) (v18 : Value) (v19 : Value) (v20 : Value) (v21 : Value) (v22 : Value) (v23 : Value) (v24 : Value) (v25 : Value) (v26 : Value) (v27 : Value) (sz : Nat) : Met l yX9_must w_m_must_a ({ frames := 0, cells := 0, slots := 0, locals := 0 } : Room) (va_Pc [.ref h0, .int 0] (preM dC dI ad [] [(h0, .inr (7, [v0, v1, v2, v3, v4, v5, v6, v7, v8, v9, v10, v11, v12, v13, v14, v15, .int 0, v17, v18, v19, v20, v21, v22, v23, v24, v25, v26, v27]))] sz)) (va_Qv (fun (_ : Unit) => True) (fun _ t => va_P (dC, dI) vwCl [(h0, .inr (7, [v0, v1, v2, v3, v4, v5, v6, v7, v8, v9, v10, v11, v12, v13, v14, v15, .int 1, v17, v18, v19, v20, v21, v22, v23, v24, v25, v26, v27]))] t.heap ∧ va_K (dC, dI) vwCl [] t ∧ va_D (va_A [(h0, .inr (7, [v0, v1, v2, v3, v4, v5, v6, v7, v8, v9, v10, v11, v12, v13, v14, v15, .int 0, v17, v18, v19, v20, v21, v22, v23, v24, v25, v26, v27]))] sz) [(h0, .inr (7, [v0, v1, v2, v3, v4, v5, v6, v7, v8, v9, v10, v11, v12, v13, v14, v15, .int 1, v17, v18, v19, v20, v21, v22, v23, v24, v25, v26, v27]))]) (va_A [(h0, .inr (7, [v0, v1, v2, v3, v4, v5, v6, v7, v8, v9, v10, v11, v12, v13, v14, v15, .int 0, v17, v18, v19, v20, v21, v22, v23, v24, v25, v26, v27]))] sz)) 0 0 (va_A [(h0, .inr (7, [v0, v1, v2, v3, v4, v5, v6, v7, v8, v9, v10, v11, v12, v13, v14, v15, .int 0, v17, v18, v19, v20, v21, v22, v23, v24, v25, v26, v27]))] sz) := by
  refine Met.ofW (cc := cX9_must) (maxL := 2) (ret := none) (by decide) rfl ?_
  intro p e s m args below meth c s₁ B hml hv
  obtain ⟨rfl, hsz, hP, hK, hD0, hev⟩ := hv
  have hx := B.exec
  have hb := B.bytes
  have hr := B.returns
  have hts := atoms_spec (ws := w_m_must_a) B.pre
  have hown : s.vm.findClass RX9 = some m.cls := findClass_of_methodNamed B.named
  have hlocks := B.notSynchronized
  have inX9 : ∀ w ∈ wsX90, w ∈ w_m_must_a := fun w h => List.mem_cons_of_mem _ (List.mem_append_right _ h)
  subst hsz
  have hD := hD0.self (sz := s.heap.size)
  generalize hAe : va_A [(h0, .inr (7, [v0, v1, v2, v3, v4, v5, v6, v7, v8, v9, v10, v11, v12, v13, v14, v15, .int 0, v17, v18, v19, v20, v21, v22, v23, v24, v25, v26, v27]))] s.heap.size = A at hD ⊢
  have hA : ∀ q : Nat, s.heap.size ≤ q → A q := fun q h => by rw [← hAe]; exact Or.inr h
  have hS : va_S A s.heap s.heap [] := va_S.rf
  have hP : va_P (dC, dI) vwCl [(h0, .inr (7, [v0, v1, v2, v3, v4, v5, v6, v7, v8, v9, v10, v11, v12, v13, v14, v15, .int 0, v17, v18, v19, v20, v21, v22, v23, v24, v25, v26, v27]))] s.heap := hP
  have hl := lv_entry ([.ref h0, .int 0]) (n := 2) (Nat.le_of_ble_eq_true rfl)
  rw [lg_entry_eq]
  generalize (lg_sl ([.ref h0, .int 0]) ++ List.replicate (2 - (lg_sl ([.ref h0, .int 0])).length) Slot.unset).toArray = ls at hl ⊢
  have hl : lv_has ls 2 [(0, .ref h0), (1, .int 0)] := hl
  refine lv_aload_n hx hb dX9_must_0 rfl (lv_at hl 0 rfl) ?_
  refine lv_aload_n hx hb dX9_must_1 rfl (lv_at hl 0 rfl) ?_
  refine va_get (D := (dC, dI)) (ci := 7) (v := .int 0) (C := RX9) (T := TX9) (N := 28) hx hb hts inX9 hown hK hP 0 rfl rfl 16 (by decide) (hts _ (List.mem_of_getElem? (i := 1) rfl)) (fun _ h9 => h9) rfl dX9_must_2 ?_
  refine lv_if_ne (tgt := 12) hx hb dX9_must_5 (by decide) (fun c => absurd (by decide) c) (fun _ => ?_)
  refine lv_iload_n hx hb dX9_must_8 rfl (lv_at hl 1 rfl) ?_
  refine lv_if_ne (tgt := 16) hx hb dX9_must_9 (by decide) (fun c => absurd (by decide) c) (fun _ => ?_)
  refine lv_iconst (v := 1) hx hb dX9_must_12 (by decide) ?_
  refine lv_goto (tgt := 17) hx hb dX9_must_13 (by decide) ?_
  refine va_put (D := (dC, dI)) (ci := 7) (v := .int 1) (ty := .boolean) (C := RX9) (T := TX9) (N := 28) hx hb hts inX9 tyX9 tyX9_ok nmX9 hown hK hP hD hS 0 rfl rfl 16 (by decide) (hts _ (List.mem_of_getElem? (i := 1) rfl)) (fun _ h9 => h9) rfl (by decide +kernel) (by decide) rfl (Nat.le_of_ble_eq_true rfl) dX9_must_17 (fun H locs hP hD hS => ?_)
  have hP : va_P (dC, dI) vwCl [(h0, .inr (7, [v0, v1, v2, v3, v4, v5, v6, v7, v8, v9, v10, v11, v12, v13, v14, v15, .int 1, v17, v18, v19, v20, v21, v22, v23, v24, v25, v26, v27]))] H := hP
  have hD : va_D A [(h0, .inr (7, [v0, v1, v2, v3, v4, v5, v6, v7, v8, v9, v10, v11, v12, v13, v14, v15, .int 1, v17, v18, v19, v20, v21, v22, v23, v24, v25, v26, v27]))] := hD
  refine lv_aload_n hx hb dX9_must_20 rfl (lv_at hl 0 rfl) ?_
  refine va_get (D := (dC, dI)) (ci := 7) (v := .int 1) (C := RX9) (T := TX9) (N := 28) hx hb hts inX9 hown hK hP 0 rfl rfl 16 (by decide) (hts _ (List.mem_of_getElem? (i := 1) rfl)) (fun _ h9 => h9) rfl dX9_must_21 ?_
  refine lv_if_ne (tgt := 31) hx hb dX9_must_24 (by decide) (fun _ => ?_) (fun c => absurd c (by decide))
  have hP9 := hP.sub (ws' := [(h0, .inr (7, [v0, v1, v2, v3, v4, v5, v6, v7, v8, v9, v10, v11, v12, v13, v14, v15, .int 1, v17, v18, v19, v20, v21, v22, v23, v24, v25, v26, v27]))]) [0] rfl
  have hD9 := hD.sub (ws' := [(h0, .inr (7, [v0, v1, v2, v3, v4, v5, v6, v7, v8, v9, v10, v11, v12, v13, v14, v15, .int 1, v17, v18, v19, v20, v21, v22, v23, v24, v25, v26, v27]))]) [0] (by decide) rfl
  have hK9 := hK.sub (tys' := []) [] rfl
  exact W.vret hx hb hr (fun t ht hW => ⟨⟨(), rfl, trivial, by rw [ht]; exact hP9, va_K.moved hW.alike hK9, hD9⟩, hS.F ht⟩) hS.2.2 dX9_must_31

def w_m_must_b : List Cond := .code yX9_must cX9_must 2 none :: (([.fieldLink RX9 217 "LampShapesModel" "isWrong" "Z"] : List Cond) ++ wsX90)
set_option maxHeartbeats 4000000 in
set_option maxRecDepth 100000 in
theorem m_must_b (l : Launch) (dC : Nat → ClassId) (dI : Nat → Nat → Nat) (ad : Nat → Nat) (h0 : Nat) (b : Int32) (v0 : Value) (v1 : Value) (v2 : Value) (v3 : Value) (v4 : Value) (v5 : Value) (v6 : Value) (v7 : Value) (v8 : Value) (v9 : Value) (v10 : Value) (v11 : Value) (v12 : Value) (v13 : Value) (v14 : Value) (v15 : Value) (v17 : Value) (v18 : Value) (v19 : Value) (v20 : Value) (v21 : Value) (v22 : Value) (v23 : Value) (v24 : Value) (v25 : Value) (v26 : Value) (v27 : Value) (sz : Nat) : Met l yX9_must w_m_must_b ({ frames := 0, cells := 0, slots := 0, locals := 0 } : Room) (va_Pc [.ref h0, .int b] (preM dC dI ad [] [(h0, .inr (7, [v0, v1, v2, v3, v4, v5, v6, v7, v8, v9, v10, v11, v12, v13, v14, v15, .int 1, v17, v18, v19, v20, v21, v22, v23, v24, v25, v26, v27]))] sz)) (va_Qv (fun (_ : Unit) => True) (fun _ t => va_P (dC, dI) vwCl [(h0, .inr (7, [v0, v1, v2, v3, v4, v5, v6, v7, v8, v9, v10, v11, v12, v13, v14, v15, .int 1, v17, v18, v19, v20, v21, v22, v23, v24, v25, v26, v27]))] t.heap ∧ va_K (dC, dI) vwCl [] t ∧ va_D (va_A [(h0, .inr (7, [v0, v1, v2, v3, v4, v5, v6, v7, v8, v9, v10, v11, v12, v13, v14, v15, .int 1, v17, v18, v19, v20, v21, v22, v23, v24, v25, v26, v27]))] sz) [(h0, .inr (7, [v0, v1, v2, v3, v4, v5, v6, v7, v8, v9, v10, v11, v12, v13, v14, v15, .int 1, v17, v18, v19, v20, v21, v22, v23, v24, v25, v26, v27]))]) (va_A [(h0, .inr (7, [v0, v1, v2, v3, v4, v5, v6, v7, v8, v9, v10, v11, v12, v13, v14, v15, .int 1, v17, v18, v19, v20, v21, v22, v23, v24, v25, v26, v27]))] sz)) 0 0 (va_A [(h0, .inr (7, [v0, v1, v2, v3, v4, v5, v6, v7, v8, v9, v10, v11, v12, v13, v14, v15, .int 1, v17, v18, v19, v20, v21, v22, v23, v24, v25, v26, v27]))] sz) := by
  refine Met.ofW (cc := cX9_must) (maxL := 2) (ret := none) (by decide) rfl ?_
  intro p e s m args below meth c s₁ B hml hv
  obtain ⟨rfl, hsz, hP, hK, hD0, hev⟩ := hv
  have hx := B.exec
  have hb := B.bytes
  have hr := B.returns
  have hts := atoms_spec (ws := w_m_must_b) B.pre
  have hown : s.vm.findClass RX9 = some m.cls := findClass_of_methodNamed B.named
  have hlocks := B.notSynchronized
  have inX9 : ∀ w ∈ wsX90, w ∈ w_m_must_b := fun w h => List.mem_cons_of_mem _ (List.mem_append_right _ h)
  subst hsz
  have hD := hD0.self (sz := s.heap.size)
  generalize hAe : va_A [(h0, .inr (7, [v0, v1, v2, v3, v4, v5, v6, v7, v8, v9, v10, v11, v12, v13, v14, v15, .int 1, v17, v18, v19, v20, v21, v22, v23, v24, v25, v26, v27]))] s.heap.size = A at hD ⊢
  have hA : ∀ q : Nat, s.heap.size ≤ q → A q := fun q h => by rw [← hAe]; exact Or.inr h
  have hS : va_S A s.heap s.heap [] := va_S.rf
  have hP : va_P (dC, dI) vwCl [(h0, .inr (7, [v0, v1, v2, v3, v4, v5, v6, v7, v8, v9, v10, v11, v12, v13, v14, v15, .int 1, v17, v18, v19, v20, v21, v22, v23, v24, v25, v26, v27]))] s.heap := hP
  have hl := lv_entry ([.ref h0, .int b]) (n := 2) (Nat.le_of_ble_eq_true rfl)
  rw [lg_entry_eq]
  generalize (lg_sl ([.ref h0, .int b]) ++ List.replicate (2 - (lg_sl ([.ref h0, .int b])).length) Slot.unset).toArray = ls at hl ⊢
  have hl : lv_has ls 2 [(0, .ref h0), (1, .int b)] := hl
  refine lv_aload_n hx hb dX9_must_0 rfl (lv_at hl 0 rfl) ?_
  refine lv_aload_n hx hb dX9_must_1 rfl (lv_at hl 0 rfl) ?_
  refine va_get (D := (dC, dI)) (ci := 7) (v := .int 1) (C := RX9) (T := TX9) (N := 28) hx hb hts inX9 hown hK hP 0 rfl rfl 16 (by decide) (hts _ (List.mem_of_getElem? (i := 1) rfl)) (fun _ h9 => h9) rfl dX9_must_2 ?_
  refine lv_if_ne (tgt := 12) hx hb dX9_must_5 (by decide) (fun _ => ?_) (fun c => absurd c (by decide))
  refine lv_iconst (v := 1) hx hb dX9_must_12 (by decide) ?_
  refine lv_goto (tgt := 17) hx hb dX9_must_13 (by decide) ?_
  refine va_put (D := (dC, dI)) (ci := 7) (v := .int 1) (ty := .boolean) (C := RX9) (T := TX9) (N := 28) hx hb hts inX9 tyX9 tyX9_ok nmX9 hown hK hP hD hS 0 rfl rfl 16 (by decide) (hts _ (List.mem_of_getElem? (i := 1) rfl)) (fun _ h9 => h9) rfl (by decide +kernel) (by decide) rfl (Nat.le_of_ble_eq_true rfl) dX9_must_17 (fun H locs hP hD hS => ?_)
  have hP : va_P (dC, dI) vwCl [(h0, .inr (7, [v0, v1, v2, v3, v4, v5, v6, v7, v8, v9, v10, v11, v12, v13, v14, v15, .int 1, v17, v18, v19, v20, v21, v22, v23, v24, v25, v26, v27]))] H := hP
  have hD : va_D A [(h0, .inr (7, [v0, v1, v2, v3, v4, v5, v6, v7, v8, v9, v10, v11, v12, v13, v14, v15, .int 1, v17, v18, v19, v20, v21, v22, v23, v24, v25, v26, v27]))] := hD
  refine lv_aload_n hx hb dX9_must_20 rfl (lv_at hl 0 rfl) ?_
  refine va_get (D := (dC, dI)) (ci := 7) (v := .int 1) (C := RX9) (T := TX9) (N := 28) hx hb hts inX9 hown hK hP 0 rfl rfl 16 (by decide) (hts _ (List.mem_of_getElem? (i := 1) rfl)) (fun _ h9 => h9) rfl dX9_must_21 ?_
  refine lv_if_ne (tgt := 31) hx hb dX9_must_24 (by decide) (fun _ => ?_) (fun c => absurd c (by decide))
  have hP9 := hP.sub (ws' := [(h0, .inr (7, [v0, v1, v2, v3, v4, v5, v6, v7, v8, v9, v10, v11, v12, v13, v14, v15, .int 1, v17, v18, v19, v20, v21, v22, v23, v24, v25, v26, v27]))]) [0] rfl
  have hD9 := hD.sub (ws' := [(h0, .inr (7, [v0, v1, v2, v3, v4, v5, v6, v7, v8, v9, v10, v11, v12, v13, v14, v15, .int 1, v17, v18, v19, v20, v21, v22, v23, v24, v25, v26, v27]))]) [0] (by decide) rfl
  have hK9 := hK.sub (tys' := []) [] rfl
  exact W.vret hx hb hr (fun t ht hW => ⟨⟨(), rfl, trivial, by rw [ht]; exact hP9, va_K.moved hW.alike hK9, hD9⟩, hS.F ht⟩) hS.2.2 dX9_must_31

def w_m_number : List Cond := .code yX9_number cX9_number 4 (some .int) :: (([.fieldLink RX9 200 "LampShapesModel" "value" "I", .fieldLink RX9 203 "LampShapesModel" "sort" "I", .methodLink RX9 224 yX9_must, .instanceMethod yX9_must, .selects RX9 yX9_must yX9_must, .initialized RX9, .code yX9_must cX9_must 2 none, .fieldLink RX9 217 "LampShapesModel" "isWrong" "Z"] : List Cond) ++ wsX90)
set_option maxRecDepth 20000 in
theorem g_m_number_m_must_b_224 : GoodIn w_m_number (wsV RX9 224 RX9 yX9_must w_m_must_b) := goodIn_r _ [3, 4, 5, 6, 7, 8, 9, 10, 11, 12, 13, 14, 15, 16, 17, 18, 19, 20, 21, 22, 23, 24, 25, 26, 27, 28, 29, 30, 31, 32, 33, 34, 35, 36] rfl (by decide +kernel)
set_option maxHeartbeats 4000000 in
set_option maxRecDepth 100000 in
theorem m_number (l : Launch) (dC : Nat → ClassId) (dI : Nat → Nat → Nat) (ad : Nat → Nat) (h0 : Nat) (lo : Int32) (hi : Int32) (v0 : Value) (v1 : Value) (v2 : Value) (v3 : Value) (v4 : Value) (v5 : Value) (v6 : Value) (v7 : Value) (v8 : Value) (v9 : Value) (v10 : Value) (v11 : Value) (v12 : Value) (v13 : Value) (v17 : Value) (v18 : Value) (v19 : Value) (v20 : Value) (v21 : Value) (v22 : Value) (v23 : Value) (v24 : Value) (v25 : Value) (v26 : Value) (v27 : Value) (sz : Nat) : Met l yX9_number w_m_number ({ frames := 1, cells := 0, slots := 0, locals := 21 } : Room) (va_Pc [.ref h0, .int lo, .int hi] (preM dC dI ad [] [(h0, .inr (7, [v0, v1, v2, v3, v4, v5, v6, v7, v8, v9, v10, v11, v12, v13, .int 0, .int 0, .int 1, v17, v18, v19, v20, v21, v22, v23, v24, v25, v26, v27]))] sz)) (va_Qi (fun (r : Int32) (_ : Unit) => (r = 0)) (fun _ t => va_P (dC, dI) vwCl [(h0, .inr (7, [v0, v1, v2, v3, v4, v5, v6, v7, v8, v9, v10, v11, v12, v13, .int 0, .int 0, .int 1, v17, v18, v19, v20, v21, v22, v23, v24, v25, v26, v27]))] t.heap ∧ va_K (dC, dI) vwCl [] t ∧ va_D (va_A [(h0, .inr (7, [v0, v1, v2, v3, v4, v5, v6, v7, v8, v9, v10, v11, v12, v13, .int 0, .int 0, .int 1, v17, v18, v19, v20, v21, v22, v23, v24, v25, v26, v27]))] sz) [(h0, .inr (7, [v0, v1, v2, v3, v4, v5, v6, v7, v8, v9, v10, v11, v12, v13, .int 0, .int 0, .int 1, v17, v18, v19, v20, v21, v22, v23, v24, v25, v26, v27]))]) (va_A [(h0, .inr (7, [v0, v1, v2, v3, v4, v5, v6, v7, v8, v9, v10, v11, v12, v13, .int 0, .int 0, .int 1, v17, v18, v19, v20, v21, v22, v23, v24, v25, v26, v27]))] sz)) 0 0 (va_A [(h0, .inr (7, [v0, v1, v2, v3, v4, v5, v6, v7, v8, v9, v10, v11, v12, v13, .int 0, .int 0, .int 1, v17, v18, v19, v20, v21, v22, v23, v24, v25, v26, v27]))] sz) := by
  refine Met.ofW (cc := cX9_number) (maxL := 4) (ret := (some .int)) (by decide) rfl ?_
  intro p e s m args below meth c s₁ B hml hv
  obtain ⟨rfl, hsz, hP, hK, hD0, hev⟩ := hv
  have hx := B.exec
  have hb := B.bytes
  have hr := B.returns
  have hts := atoms_spec (ws := w_m_number) B.pre
  have hown : s.vm.findClass RX9 = some m.cls := findClass_of_methodNamed B.named
  have hlocks := B.notSynchronized
  have inX9 : ∀ w ∈ wsX90, w ∈ w_m_number := fun w h => List.mem_cons_of_mem _ (List.mem_append_right _ h)
  subst hsz
  have hD := hD0.self (sz := s.heap.size)
  generalize hAe : va_A [(h0, .inr (7, [v0, v1, v2, v3, v4, v5, v6, v7, v8, v9, v10, v11, v12, v13, .int 0, .int 0, .int 1, v17, v18, v19, v20, v21, v22, v23, v24, v25, v26, v27]))] s.heap.size = A at hD ⊢
  have hA : ∀ q : Nat, s.heap.size ≤ q → A q := fun q h => by rw [← hAe]; exact Or.inr h
  have hS : va_S A s.heap s.heap [] := va_S.rf
  have hP : va_P (dC, dI) vwCl [(h0, .inr (7, [v0, v1, v2, v3, v4, v5, v6, v7, v8, v9, v10, v11, v12, v13, .int 0, .int 0, .int 1, v17, v18, v19, v20, v21, v22, v23, v24, v25, v26, v27]))] s.heap := hP
  have hl := lv_entry ([.ref h0, .int lo, .int hi]) (n := 4) (Nat.le_of_ble_eq_true rfl)
  rw [lg_entry_eq]
  generalize (lg_sl ([.ref h0, .int lo, .int hi]) ++ List.replicate (4 - (lg_sl ([.ref h0, .int lo, .int hi])).length) Slot.unset).toArray = ls at hl ⊢
  have hl : lv_has ls 4 [(0, .ref h0), (1, .int lo), (2, .int hi)] := hl
  refine lv_aload_n hx hb dX9_number_0 rfl (lv_at hl 0 rfl) ?_
  refine va_get (D := (dC, dI)) (ci := 7) (v := .int 0) (C := RX9) (T := TX9) (N := 28) hx hb hts inX9 hown hK hP 0 rfl rfl 15 (by decide) (hts _ (List.mem_of_getElem? (i := 1) rfl)) (fun _ h9 => h9) rfl dX9_number_1 ?_
  refine lv_istore_n (lv' := [(3, .int 0), (0, .ref h0), (1, .int lo), (2, .int hi)]) hx hb dX9_number_4 rfl hl (by decide) rfl (fun ls hl => ?_)
  refine lv_aload_n hx hb dX9_number_5 rfl (lv_at hl 1 rfl) ?_
  refine lv_aload_n hx hb dX9_number_6 rfl (lv_at hl 1 rfl) ?_
  refine va_get (D := (dC, dI)) (ci := 7) (v := .int 0) (C := RX9) (T := TX9) (N := 28) hx hb hts inX9 hown hK hP 0 rfl rfl 14 (by decide) (hts _ (List.mem_of_getElem? (i := 2) rfl)) (fun _ h9 => h9) rfl dX9_number_7 ?_
  refine lv_iconst (v := 2) hx hb dX9_number_10 (by decide) ?_
  refine lv_icmp_ne (tgt := 27) hx hb dX9_number_11 (by decide) (fun _ => ?_) (fun c => absurd c (by decide))
  refine lv_iconst (v := 0) hx hb dX9_number_27 (by decide) ?_
  have hPc := hP.sub (ws' := [(h0, .inr (7, [v0, v1, v2, v3, v4, v5, v6, v7, v8, v9, v10, v11, v12, v13, .int 0, .int 0, .int 1, v17, v18, v19, v20, v21, v22, v23, v24, v25, v26, v27]))]) [0] rfl
  have hKc := hK.sub (tys' := []) [] rfl
  have hDc := hD.sub (ws' := [(h0, .inr (7, [v0, v1, v2, v3, v4, v5, v6, v7, v8, v9, v10, v11, v12, v13, .int 0, .int 0, .int 1, v17, v18, v19, v20, v21, v22, v23, v24, v25, v26, v27]))]) [0] (by decide) rfl
  have hFc := va_free (wc := [(h0, .inr (7, [v0, v1, v2, v3, v4, v5, v6, v7, v8, v9, v10, v11, v12, v13, .int 0, .int 0, .int 1, v17, v18, v19, v20, v21, v22, v23, v24, v25, v26, v27]))]) hD hS hA [0] rfl
  refine va_callv (va_runV (As := [.int 0]) (rest := []) ⟨hx, hb, hml, hown, hts⟩ (m_must_b l dC dI ad h0 0 v0 v1 v2 v3 v4 v5 v6 v7 v8 v9 v10 v11 v12 v13 (.int 0) (.int 0) v17 v18 v19 v20 v21 v22 v23 v24 v25 v26 v27 s.heap.size ) (cwV 1 hts g_m_number_m_must_b_224 rfl rfl rfl (by decide +kernel) ⟨(Nat.le_of_ble_eq_true rfl), (Nat.le_of_ble_eq_true rfl)⟩) ⟨preM_blind, va_recv hKc hPc (ci := 7) (q0 := 0) rfl rfl, fun U hU hW => ⟨rfl, preM_at hU hW hPc hKc hDc hev⟩⟩ rfl rfl hl.1 rfl (lv_room (Nat.le_of_ble_eq_true rfl)) dX9_number_28 ⟨(Nat.le_of_ble_eq_true rfl), (Nat.le_of_ble_eq_true rfl)⟩) hS (fun q _ h => hFc q h) hFc (fun u t H1 locs ht hvm hw hB hz1 hk1 hS => ?_)
  obtain ⟨hP1, hK1, hD1⟩ := hB
  rw [ht] at hP1
  have hK1 := va_K.moved hvm.symm hK1
  obtain ⟨hP, hD⟩ := va_join (wr := []) (w1 := [(h0, .inr (7, [v0, v1, v2, v3, v4, v5, v6, v7, v8, v9, v10, v11, v12, v13, .int 0, .int 0, .int 1, v17, v18, v19, v20, v21, v22, v23, v24, v25, v26, v27]))]) hP hD [0] [] rfl rfl (by decide) (by decide) hk1 hFc hP1 hD1
  generalize H1 = H at hP hS ⊢
  have hP : va_P (dC, dI) vwCl [(h0, .inr (7, [v0, v1, v2, v3, v4, v5, v6, v7, v8, v9, v10, v11, v12, v13, .int 0, .int 0, .int 1, v17, v18, v19, v20, v21, v22, v23, v24, v25, v26, v27]))] H := hP
  have hD : va_D A [(h0, .inr (7, [v0, v1, v2, v3, v4, v5, v6, v7, v8, v9, v10, v11, v12, v13, .int 0, .int 0, .int 1, v17, v18, v19, v20, v21, v22, v23, v24, v25, v26, v27]))] := hD
  refine lv_iload_n hx hb dX9_number_31 rfl (lv_at hl 0 rfl) ?_
  have hP9 := hP.sub (ws' := [(h0, .inr (7, [v0, v1, v2, v3, v4, v5, v6, v7, v8, v9, v10, v11, v12, v13, .int 0, .int 0, .int 1, v17, v18, v19, v20, v21, v22, v23, v24, v25, v26, v27]))]) [0] rfl
  have hD9 := hD.sub (ws' := [(h0, .inr (7, [v0, v1, v2, v3, v4, v5, v6, v7, v8, v9, v10, v11, v12, v13, .int 0, .int 0, .int 1, v17, v18, v19, v20, v21, v22, v23, v24, v25, v26, v27]))]) [0] (by decide) rfl
  have hK9 := hK.sub (tys' := []) [] rfl
  exact W.iret (v := 0) hx hb hr (fun t ht hW => ⟨⟨0, (), rfl, rfl, by rw [ht]; exact hP9, va_K.moved hW.alike hK9, hD9⟩, hS.F ht⟩) hS.2.2 dX9_number_32

def w_m_item : List Cond := .code yX9_item cX9_item 7 none :: (([.fieldLink RX9 228 "LampShapesModel" "itemMany" "I", .fieldLink RX9 53 "LampShapesModel" "items" "[I", .fieldLink RX9 56 "LampShapesModel" "itemPictures" "[J"] : List Cond) ++ wsX90)
set_option maxHeartbeats 4000000 in
set_option maxRecDepth 100000 in
theorem m_item (l : Launch) (dC : Nat → ClassId) (dI : Nat → Nat → Nat) (ad : Nat → Nat) (h0 : Nat) (a1 : Int32) (a2 : Int32) (a3 : Int32) (a4 : Int64) (v0 : Value) (v1 : Value) (v2 : Value) (v3 : Value) (v4 : Value) (v5 : Value) (v6 : Value) (v7 : Value) (v8 : Value) (v9 : Value) (v10 : Value) (v11 : Value) (v12 : Value) (v13 : Value) (v14 : Value) (v15 : Value) (v16 : Value) (v17 : Value) (iq : Nat) (pq : Nat) (v21 : Value) (v22 : Value) (v23 : Value) (v24 : Value) (v25 : Value) (v26 : Value) (v27 : Value) (ic : ClassId) (f1 : Nat → Int32) (pc : ClassId) (f2 : Nat → Int64) (sz : Nat) : Met l yX9_item w_m_item ({ frames := 0, cells := 0, slots := 0, locals := 0 } : Room) (va_Pc [.ref h0, .int a1, .int a2, .int a3, .long a4] (preM dC dI ad [(ic, .int), (pc, .long)] [(h0, .inr (7, [v0, v1, v2, v3, v4, v5, v6, v7, v8, v9, v10, v11, v12, v13, v14, v15, v16, v17, .ref iq, .ref pq, .int 0, v21, v22, v23, v24, v25, v26, v27])), (iq, .inl (ic, 360, .inl f1)), (pq, .inl (pc, 120, .inr (.inl f2)))] sz)) (va_Qv (fun (_ : Unit) => True) (fun _ t => va_P (dC, dI) vwCl [(h0, .inr (7, [v0, v1, v2, v3, v4, v5, v6, v7, v8, v9, v10, v11, v12, v13, v14, v15, v16, v17, .ref iq, .ref pq, .int 1, v21, v22, v23, v24, v25, v26, v27]))] t.heap ∧ va_K (dC, dI) vwCl [] t ∧ va_D (va_A [(h0, .inr (7, [v0, v1, v2, v3, v4, v5, v6, v7, v8, v9, v10, v11, v12, v13, v14, v15, v16, v17, .ref iq, .ref pq, .int 0, v21, v22, v23, v24, v25, v26, v27])), (iq, .inl (ic, 360, .inl f1)), (pq, .inl (pc, 120, .inr (.inl f2)))] sz) [(h0, .inr (7, [v0, v1, v2, v3, v4, v5, v6, v7, v8, v9, v10, v11, v12, v13, v14, v15, v16, v17, .ref iq, .ref pq, .int 1, v21, v22, v23, v24, v25, v26, v27]))]) (va_A [(h0, .inr (7, [v0, v1, v2, v3, v4, v5, v6, v7, v8, v9, v10, v11, v12, v13, v14, v15, v16, v17, .ref iq, .ref pq, .int 0, v21, v22, v23, v24, v25, v26, v27])), (iq, .inl (ic, 360, .inl f1)), (pq, .inl (pc, 120, .inr (.inl f2)))] sz)) 0 0 (va_A [(h0, .inr (7, [v0, v1, v2, v3, v4, v5, v6, v7, v8, v9, v10, v11, v12, v13, v14, v15, v16, v17, .ref iq, .ref pq, .int 0, v21, v22, v23, v24, v25, v26, v27])), (iq, .inl (ic, 360, .inl f1)), (pq, .inl (pc, 120, .inr (.inl f2)))] sz) := by
  refine Met.ofW (cc := cX9_item) (maxL := 7) (ret := none) (by decide) rfl ?_
  intro p e s m args below meth c s₁ B hml hv
  obtain ⟨rfl, hsz, hP, hK, hD0, hev⟩ := hv
  have hx := B.exec
  have hb := B.bytes
  have hr := B.returns
  have hts := atoms_spec (ws := w_m_item) B.pre
  have hown : s.vm.findClass RX9 = some m.cls := findClass_of_methodNamed B.named
  have hlocks := B.notSynchronized
  have inX9 : ∀ w ∈ wsX90, w ∈ w_m_item := fun w h => List.mem_cons_of_mem _ (List.mem_append_right _ h)
  subst hsz
  have hD := hD0.self (sz := s.heap.size)
  generalize hAe : va_A [(h0, .inr (7, [v0, v1, v2, v3, v4, v5, v6, v7, v8, v9, v10, v11, v12, v13, v14, v15, v16, v17, .ref iq, .ref pq, .int 0, v21, v22, v23, v24, v25, v26, v27])), (iq, .inl (ic, 360, .inl f1)), (pq, .inl (pc, 120, .inr (.inl f2)))] s.heap.size = A at hD ⊢
  have hA : ∀ q : Nat, s.heap.size ≤ q → A q := fun q h => by rw [← hAe]; exact Or.inr h
  have hS : va_S A s.heap s.heap [] := va_S.rf
  have hP : va_P (dC, dI) vwCl [(h0, .inr (7, [v0, v1, v2, v3, v4, v5, v6, v7, v8, v9, v10, v11, v12, v13, v14, v15, v16, v17, .ref iq, .ref pq, .int 0, v21, v22, v23, v24, v25, v26, v27])), (iq, .inl (ic, 360, .inl f1)), (pq, .inl (pc, 120, .inr (.inl f2)))] s.heap := hP
  have hl := lv_entry ([.ref h0, .int a1, .int a2, .int a3, .long a4]) (n := 7) (Nat.le_of_ble_eq_true rfl)
  rw [lg_entry_eq]
  generalize (lg_sl ([.ref h0, .int a1, .int a2, .int a3, .long a4]) ++ List.replicate (7 - (lg_sl ([.ref h0, .int a1, .int a2, .int a3, .long a4])).length) Slot.unset).toArray = ls at hl ⊢
  have hl : lv_has ls 7 [(0, .ref h0), (1, .int a1), (2, .int a2), (3, .int a3), (4, .long a4)] := hl
  refine lv_iconst (v := 3) hx hb dX9_item_0 (by decide) ?_
  refine lv_aload_n hx hb dX9_item_1 rfl (lv_at hl 0 rfl) ?_
  refine va_get (D := (dC, dI)) (ci := 7) (v := .int 0) (C := RX9) (T := TX9) (N := 28) hx hb hts inX9 hown hK hP 0 rfl rfl 20 (by decide) (hts _ (List.mem_of_getElem? (i := 1) rfl)) (fun _ h9 => h9) rfl dX9_item_2 ?_
  refine lv_imul hx hb dX9_item_5 ?_
  refine pp_ti (y := 0) (by decide) ?_
  refine lv_istore (lv' := [(6, .int 0), (0, .ref h0), (1, .int a1), (2, .int a2), (3, .int a3), (4, .long a4)]) hx hb dX9_item_6 hl (by decide) rfl (fun ls hl => ?_)
  refine lv_aload_n hx hb dX9_item_8 rfl (lv_at hl 1 rfl) ?_
  refine va_get (D := (dC, dI)) (ci := 7) (v := .ref iq) (C := RX9) (T := TX9) (N := 28) hx hb hts inX9 hown hK hP 0 rfl rfl 18 (by decide) (hts _ (List.mem_of_getElem? (i := 2) rfl)) (fun _ h9 => h9) rfl dX9_item_9 ?_
  refine lv_iload hx hb dX9_item_12 (lv_at hl 0 rfl) ?_
  refine lv_iload_n hx hb dX9_item_14 rfl (lv_at hl 2 rfl) ?_
  refine va_iast hx hb hK hP hD hS 1 0 rfl rfl (vp_in_nI (n := 0) (by decide) (by decide)) dX9_item_15 (fun H locs hP hD hS => ?_)
  have hP : va_P (dC, dI) vwCl [(h0, .inr (7, [v0, v1, v2, v3, v4, v5, v6, v7, v8, v9, v10, v11, v12, v13, v14, v15, v16, v17, .ref iq, .ref pq, .int 0, v21, v22, v23, v24, v25, v26, v27])), (iq, .inl (ic, 360, .inl (upd f1 0 a1))), (pq, .inl (pc, 120, .inr (.inl f2)))] H := hP
  have hD : va_D A [(h0, .inr (7, [v0, v1, v2, v3, v4, v5, v6, v7, v8, v9, v10, v11, v12, v13, v14, v15, v16, v17, .ref iq, .ref pq, .int 0, v21, v22, v23, v24, v25, v26, v27])), (iq, .inl (ic, 360, .inl (upd f1 0 a1))), (pq, .inl (pc, 120, .inr (.inl f2)))] := hD
  generalize upd f1 0 a1 = f_1 at hP hD
  refine lv_aload_n hx hb dX9_item_16 rfl (lv_at hl 1 rfl) ?_
  refine va_get (D := (dC, dI)) (ci := 7) (v := .ref iq) (C := RX9) (T := TX9) (N := 28) hx hb hts inX9 hown hK hP 0 rfl rfl 18 (by decide) (hts _ (List.mem_of_getElem? (i := 2) rfl)) (fun _ h9 => h9) rfl dX9_item_17 ?_
  refine lv_iload hx hb dX9_item_20 (lv_at hl 0 rfl) ?_
  refine lv_iconst (v := 1) hx hb dX9_item_22 (by decide) ?_
  refine lv_iadd hx hb dX9_item_23 ?_
  refine pp_ti (y := 1) (by decide) ?_
  refine lv_iload_n hx hb dX9_item_24 rfl (lv_at hl 3 rfl) ?_
  refine va_iast hx hb hK hP hD hS 1 0 rfl rfl (vp_in_nI (n := 1) (by decide) (by decide)) dX9_item_25 (fun H locs hP hD hS => ?_)
  have hP : va_P (dC, dI) vwCl [(h0, .inr (7, [v0, v1, v2, v3, v4, v5, v6, v7, v8, v9, v10, v11, v12, v13, v14, v15, v16, v17, .ref iq, .ref pq, .int 0, v21, v22, v23, v24, v25, v26, v27])), (iq, .inl (ic, 360, .inl (upd f_1 1 a2))), (pq, .inl (pc, 120, .inr (.inl f2)))] H := hP
  have hD : va_D A [(h0, .inr (7, [v0, v1, v2, v3, v4, v5, v6, v7, v8, v9, v10, v11, v12, v13, v14, v15, v16, v17, .ref iq, .ref pq, .int 0, v21, v22, v23, v24, v25, v26, v27])), (iq, .inl (ic, 360, .inl (upd f_1 1 a2))), (pq, .inl (pc, 120, .inr (.inl f2)))] := hD
  generalize upd f_1 1 a2 = f_2 at hP hD
  refine lv_aload_n hx hb dX9_item_26 rfl (lv_at hl 1 rfl) ?_
  refine va_get (D := (dC, dI)) (ci := 7) (v := .ref iq) (C := RX9) (T := TX9) (N := 28) hx hb hts inX9 hown hK hP 0 rfl rfl 18 (by decide) (hts _ (List.mem_of_getElem? (i := 2) rfl)) (fun _ h9 => h9) rfl dX9_item_27 ?_
  refine lv_iload hx hb dX9_item_30 (lv_at hl 0 rfl) ?_
  refine lv_iconst (v := 2) hx hb dX9_item_32 (by decide) ?_
  refine lv_iadd hx hb dX9_item_33 ?_
  refine pp_ti (y := 2) (by decide) ?_
  refine lv_iload_n hx hb dX9_item_34 rfl (lv_at hl 4 rfl) ?_
  refine va_iast hx hb hK hP hD hS 1 0 rfl rfl (vp_in_nI (n := 2) (by decide) (by decide)) dX9_item_35 (fun H locs hP hD hS => ?_)
  have hP : va_P (dC, dI) vwCl [(h0, .inr (7, [v0, v1, v2, v3, v4, v5, v6, v7, v8, v9, v10, v11, v12, v13, v14, v15, v16, v17, .ref iq, .ref pq, .int 0, v21, v22, v23, v24, v25, v26, v27])), (iq, .inl (ic, 360, .inl (upd f_2 2 a3))), (pq, .inl (pc, 120, .inr (.inl f2)))] H := hP
  have hD : va_D A [(h0, .inr (7, [v0, v1, v2, v3, v4, v5, v6, v7, v8, v9, v10, v11, v12, v13, v14, v15, v16, v17, .ref iq, .ref pq, .int 0, v21, v22, v23, v24, v25, v26, v27])), (iq, .inl (ic, 360, .inl (upd f_2 2 a3))), (pq, .inl (pc, 120, .inr (.inl f2)))] := hD
  generalize upd f_2 2 a3 = f_3 at hP hD
  refine lv_aload_n hx hb dX9_item_36 rfl (lv_at hl 1 rfl) ?_
  refine va_get (D := (dC, dI)) (ci := 7) (v := .ref pq) (C := RX9) (T := TX9) (N := 28) hx hb hts inX9 hown hK hP 0 rfl rfl 19 (by decide) (hts _ (List.mem_of_getElem? (i := 3) rfl)) (fun _ h9 => h9) rfl dX9_item_37 ?_
  refine lv_aload_n hx hb dX9_item_40 rfl (lv_at hl 1 rfl) ?_
  refine va_get (D := (dC, dI)) (ci := 7) (v := .int 0) (C := RX9) (T := TX9) (N := 28) hx hb hts inX9 hown hK hP 0 rfl rfl 20 (by decide) (hts _ (List.mem_of_getElem? (i := 1) rfl)) (fun _ h9 => h9) rfl dX9_item_41 ?_
  refine lv_lload hx hb dX9_item_44 (lv_at hl 5 rfl) ?_
  refine va_last hx hb hK hP hD hS 2 1 rfl rfl (vp_in_nI (n := 0) (by decide) (by decide)) dX9_item_46 (fun H locs hP hD hS => ?_)
  have hP : va_P (dC, dI) vwCl [(h0, .inr (7, [v0, v1, v2, v3, v4, v5, v6, v7, v8, v9, v10, v11, v12, v13, v14, v15, v16, v17, .ref iq, .ref pq, .int 0, v21, v22, v23, v24, v25, v26, v27])), (iq, .inl (ic, 360, .inl f_3)), (pq, .inl (pc, 120, .inr (.inl (vp_updL f2 0 a4))))] H := hP
  have hD : va_D A [(h0, .inr (7, [v0, v1, v2, v3, v4, v5, v6, v7, v8, v9, v10, v11, v12, v13, v14, v15, v16, v17, .ref iq, .ref pq, .int 0, v21, v22, v23, v24, v25, v26, v27])), (iq, .inl (ic, 360, .inl f_3)), (pq, .inl (pc, 120, .inr (.inl (vp_updL f2 0 a4))))] := hD
  generalize vp_updL f2 0 a4 = f_4 at hP hD
  refine lv_aload_n hx hb dX9_item_47 rfl (lv_at hl 1 rfl) ?_
  refine lv_dup hx hb dX9_item_48 rfl ?_
  refine va_get (D := (dC, dI)) (ci := 7) (v := .int 0) (C := RX9) (T := TX9) (N := 28) hx hb hts inX9 hown hK hP 0 rfl rfl 20 (by decide) (hts _ (List.mem_of_getElem? (i := 1) rfl)) (fun _ h9 => h9) rfl dX9_item_49 ?_
  refine lv_iconst (v := 1) hx hb dX9_item_52 (by decide) ?_
  refine lv_iadd hx hb dX9_item_53 ?_
  refine pp_ti (y := 1) (by decide) ?_
  refine va_put (D := (dC, dI)) (ci := 7) (v := .int 1) (ty := .int) (C := RX9) (T := TX9) (N := 28) hx hb hts inX9 tyX9 tyX9_ok nmX9 hown hK hP hD hS 0 rfl rfl 20 (by decide) (hts _ (List.mem_of_getElem? (i := 1) rfl)) (fun _ h9 => h9) rfl (by decide +kernel) rfl rfl (Nat.le_of_ble_eq_true rfl) dX9_item_54 (fun H locs hP hD hS => ?_)
  have hP : va_P (dC, dI) vwCl [(h0, .inr (7, [v0, v1, v2, v3, v4, v5, v6, v7, v8, v9, v10, v11, v12, v13, v14, v15, v16, v17, .ref iq, .ref pq, .int 1, v21, v22, v23, v24, v25, v26, v27])), (iq, .inl (ic, 360, .inl f_3)), (pq, .inl (pc, 120, .inr (.inl f_4)))] H := hP
  have hD : va_D A [(h0, .inr (7, [v0, v1, v2, v3, v4, v5, v6, v7, v8, v9, v10, v11, v12, v13, v14, v15, v16, v17, .ref iq, .ref pq, .int 1, v21, v22, v23, v24, v25, v26, v27])), (iq, .inl (ic, 360, .inl f_3)), (pq, .inl (pc, 120, .inr (.inl f_4)))] := hD
  have hP9 := hP.sub (ws' := [(h0, .inr (7, [v0, v1, v2, v3, v4, v5, v6, v7, v8, v9, v10, v11, v12, v13, v14, v15, v16, v17, .ref iq, .ref pq, .int 1, v21, v22, v23, v24, v25, v26, v27]))]) [0] rfl
  have hD9 := hD.sub (ws' := [(h0, .inr (7, [v0, v1, v2, v3, v4, v5, v6, v7, v8, v9, v10, v11, v12, v13, v14, v15, v16, v17, .ref iq, .ref pq, .int 1, v21, v22, v23, v24, v25, v26, v27]))]) [0] (by decide) rfl
  have hK9 := hK.sub (tys' := []) [] rfl
  exact W.vret hx hb hr (fun t ht hW => ⟨⟨(), rfl, trivial, by rw [ht]; exact hP9, va_K.moved hW.alike hK9, hD9⟩, hS.F ht⟩) hS.2.2 dX9_item_57

def w_m_readItem : List Cond := .code yX9_readItem cX9_readItem 2 none :: (([.methodLink RX9 238 yX9_kindTold, .instanceMethod yX9_kindTold, .selects RX9 yX9_kindTold yX9_kindTold, .initialized RX9, .code yX9_kindTold cX9_kindTold 3 (some .int), .fieldLink RX9 49 "LampShapesModel" "kinds" "[Ljava/lang/String;", .methodLink RX9 231 yX9_isWord, .instanceMethod yX9_isWord, .selects RX9 yX9_isWord yX9_isWord, .code yX9_isWord cX9_isWord 4 (some .boolean), .fieldLink RX9 203 "LampShapesModel" "sort" "I", .methodLink RX9 209 yJ0_length_8abf5, .instanceMethod yJ0_length_8abf5, .selects RJ0 yJ0_length_8abf5 yJ0_length_8abf5, .initialized RJ0, .code yJ0_length_8abf5 cJ0_length_8abf5 1 (some .int), .fieldLink RJ0 9 "java/lang/String" "value" "[B", .methodLink RJ0 335 yJ0_coder_7d493, .instanceMethod yJ0_coder_7d493, .selects RJ0 yJ0_coder_7d493 yJ0_coder_7d493, .code yJ0_coder_7d493 cJ0_coder_7d493 1 (some .byte), .fieldLink RJ0 38 "java/lang/String" "COMPACT_STRINGS" "Z", .fieldLink RJ0 15 "java/lang/String" "coder" "B", .methodLink RX9 224 yX9_must, .instanceMethod yX9_must, .selects RX9 yX9_must yX9_must, .code yX9_must cX9_must 2 none, .fieldLink RX9 217 "LampShapesModel" "isWrong" "Z", .fieldLink RX9 241 "LampShapesModel" "shapeThen" "I", .methodLink RX9 235 yX9_number, .instanceMethod yX9_number, .selects RX9 yX9_number yX9_number, .code yX9_number cX9_number 4 (some .int), .fieldLink RX9 200 "LampShapesModel" "value" "I", .methodLink RX9 247 yX9_item, .instanceMethod yX9_item, .selects RX9 yX9_item yX9_item, .code yX9_item cX9_item 7 none, .fieldLink RX9 228 "LampShapesModel" "itemMany" "I", .fieldLink RX9 53 "LampShapesModel" "items" "[I", .fieldLink RX9 56 "LampShapesModel" "itemPictures" "[J"] : List Cond) ++ wsX90)
set_option maxRecDepth 20000 in
theorem g_m_readItem_m_kindTold_238 : GoodIn w_m_readItem (wsV RX9 238 RX9 yX9_kindTold w_m_kindTold) := goodIn_r _ [1, 2, 3, 4, 5, 6, 7, 8, 9, 4, 10, 11, 12, 13, 14, 15, 16, 17, 18, 19, 20, 21, 22, 23, 42, 43, 44, 45, 46, 47, 48, 49, 50, 51, 52, 53, 54, 55, 56, 57, 58, 59, 60, 61, 62, 63, 64, 65, 66, 67, 68, 69] rfl (by decide +kernel)
set_option maxRecDepth 20000 in
theorem g_m_readItem_m_isWord_231 : GoodIn w_m_readItem (wsV RX9 231 RX9 yX9_isWord w_m_isWord) := goodIn_r _ [7, 8, 9, 4, 10, 11, 12, 13, 14, 15, 16, 17, 18, 19, 20, 21, 22, 23, 42, 43, 44, 45, 46, 47, 48, 49, 50, 51, 52, 53, 54, 55, 56, 57, 58, 59, 60, 61, 62, 63, 64, 65, 66, 67, 68, 69] rfl (by decide +kernel)
set_option maxRecDepth 20000 in
theorem g_m_readItem_m_must_a_224 : GoodIn w_m_readItem (wsV RX9 224 RX9 yX9_must w_m_must_a) := goodIn_r _ [24, 25, 26, 4, 27, 28, 42, 43, 44, 45, 46, 47, 48, 49, 50, 51, 52, 53, 54, 55, 56, 57, 58, 59, 60, 61, 62, 63, 64, 65, 66, 67, 68, 69] rfl (by decide +kernel)
set_option maxRecDepth 20000 in
theorem g_m_readItem_m_number_235 : GoodIn w_m_readItem (wsV RX9 235 RX9 yX9_number w_m_number) := goodIn_r _ [30, 31, 32, 4, 33, 34, 11, 24, 25, 26, 4, 27, 28, 42, 43, 44, 45, 46, 47, 48, 49, 50, 51, 52, 53, 54, 55, 56, 57, 58, 59, 60, 61, 62, 63, 64, 65, 66, 67, 68, 69] rfl (by decide +kernel)
set_option maxRecDepth 20000 in
theorem g_m_readItem_m_item_247 : GoodIn w_m_readItem (wsV RX9 247 RX9 yX9_item w_m_item) := goodIn_r _ [35, 36, 37, 4, 38, 39, 40, 41, 42, 43, 44, 45, 46, 47, 48, 49, 50, 51, 52, 53, 54, 55, 56, 57, 58, 59, 60, 61, 62, 63, 64, 65, 66, 67, 68, 69] rfl (by decide +kernel)
set_option maxHeartbeats 4000000 in
set_option maxRecDepth 100000 in
theorem m_readItem (l : Launch) (dC : Nat → ClassId) (dI : Nat → Nat → Nat) (ad : Nat → Nat) (h0 : Nat) (v0 : Value) (v1 : Value) (v2 : Value) (v3 : Value) (v4 : Value) (v5 : Value) (v6 : Value) (v7 : Value) (v8 : Value) (v9 : Value) (v10 : Value) (v11 : Value) (v12 : Value) (v13 : Value) (kq : Nat) (iq : Nat) (pq : Nat) (v22 : Value) (v23 : Value) (v24 : Value) (v25 : Value) (v26 : Value) (v27 : Value) (kc : ClassId) (kf : Nat → Option Nat) (ic : ClassId) (f1 : Nat → Int32) (pc : ClassId) (f2 : Nat → Int64) (sz : Nat) (hkf : ∀ j, j < 6 → kf j = (some (ad (13 + j)))) : Met l yX9_readItem w_m_readItem ({ frames := 4, cells := 0, slots := 0, locals := 85 } : Room) (va_Pc [.ref h0] (preT dC dI ad [(kc, .object "java/lang/String"), (ic, .int), (pc, .long)] [(h0, .inr (7, [v0, v1, v2, v3, v4, v5, v6, v7, v8, v9, v10, v11, v12, v13, .int 0, .int 0, .int 0, .ref kq, .ref iq, .ref pq, .int 0, .int 0, v22, v23, v24, v25, v26, v27])), (kq, .inl (kc, 6, .inr (.inr (.inr (.inr kf))))), (iq, .inl (ic, 360, .inl f1)), (pq, .inl (pc, 120, .inr (.inl f2)))] sz)) (va_Qv (fun (_ : Unit) => True) (fun _ t => va_P (dC, dI) vwCl [(h0, .inr (7, [v0, v1, v2, v3, v4, v5, v6, v7, v8, v9, v10, v11, v12, v13, .int 0, .int 0, .int 1, .ref kq, .ref iq, .ref pq, .int 1, .int 0, v22, v23, v24, v25, v26, v27]))] t.heap ∧ va_K (dC, dI) vwCl [] t ∧ va_D (va_A [(h0, .inr (7, [v0, v1, v2, v3, v4, v5, v6, v7, v8, v9, v10, v11, v12, v13, .int 0, .int 0, .int 0, .ref kq, .ref iq, .ref pq, .int 0, .int 0, v22, v23, v24, v25, v26, v27])), (kq, .inl (kc, 6, .inr (.inr (.inr (.inr kf))))), (iq, .inl (ic, 360, .inl f1)), (pq, .inl (pc, 120, .inr (.inl f2)))] sz) [(h0, .inr (7, [v0, v1, v2, v3, v4, v5, v6, v7, v8, v9, v10, v11, v12, v13, .int 0, .int 0, .int 1, .ref kq, .ref iq, .ref pq, .int 1, .int 0, v22, v23, v24, v25, v26, v27]))]) (va_A [(h0, .inr (7, [v0, v1, v2, v3, v4, v5, v6, v7, v8, v9, v10, v11, v12, v13, .int 0, .int 0, .int 0, .ref kq, .ref iq, .ref pq, .int 0, .int 0, v22, v23, v24, v25, v26, v27])), (kq, .inl (kc, 6, .inr (.inr (.inr (.inr kf))))), (iq, .inl (ic, 360, .inl f1)), (pq, .inl (pc, 120, .inr (.inl f2)))] sz)) 0 0 (va_A [(h0, .inr (7, [v0, v1, v2, v3, v4, v5, v6, v7, v8, v9, v10, v11, v12, v13, .int 0, .int 0, .int 0, .ref kq, .ref iq, .ref pq, .int 0, .int 0, v22, v23, v24, v25, v26, v27])), (kq, .inl (kc, 6, .inr (.inr (.inr (.inr kf))))), (iq, .inl (ic, 360, .inl f1)), (pq, .inl (pc, 120, .inr (.inl f2)))] sz) := by
  refine Met.ofW (cc := cX9_readItem) (maxL := 2) (ret := none) (by decide) rfl ?_
  intro p e s m args below meth c s₁ B hml hv
  obtain ⟨rfl, ⟨hsz, hP, hK, hD0, hev⟩, hsf⟩ := hv
  have hx := B.exec
  have hb := B.bytes
  have hr := B.returns
  have hts := atoms_spec (ws := w_m_readItem) B.pre
  have hown : s.vm.findClass RX9 = some m.cls := findClass_of_methodNamed B.named
  have hlocks := B.notSynchronized
  have inX9 : ∀ w ∈ wsX90, w ∈ w_m_readItem := fun w h => List.mem_cons_of_mem _ (List.mem_append_right _ h)
  subst hsz
  have hD := hD0.self (sz := s.heap.size)
  generalize hAe : va_A [(h0, .inr (7, [v0, v1, v2, v3, v4, v5, v6, v7, v8, v9, v10, v11, v12, v13, .int 0, .int 0, .int 0, .ref kq, .ref iq, .ref pq, .int 0, .int 0, v22, v23, v24, v25, v26, v27])), (kq, .inl (kc, 6, .inr (.inr (.inr (.inr kf))))), (iq, .inl (ic, 360, .inl f1)), (pq, .inl (pc, 120, .inr (.inl f2)))] s.heap.size = A at hD hsf ⊢
  have hA : ∀ q : Nat, s.heap.size ≤ q → A q := fun q h => by rw [← hAe]; exact Or.inr h
  have hS : va_S A s.heap s.heap [] := va_S.rf
  have hP : va_P (dC, dI) vwCl [(h0, .inr (7, [v0, v1, v2, v3, v4, v5, v6, v7, v8, v9, v10, v11, v12, v13, .int 0, .int 0, .int 0, .ref kq, .ref iq, .ref pq, .int 0, .int 0, v22, v23, v24, v25, v26, v27])), (kq, .inl (kc, 6, .inr (.inr (.inr (.inr kf))))), (iq, .inl (ic, 360, .inl f1)), (pq, .inl (pc, 120, .inr (.inl f2)))] s.heap := hP
  have hl := lv_entry ([.ref h0]) (n := 2) (Nat.le_of_ble_eq_true rfl)
  rw [lg_entry_eq]
  generalize (lg_sl ([.ref h0]) ++ List.replicate (2 - (lg_sl ([.ref h0])).length) Slot.unset).toArray = ls at hl ⊢
  have hl : lv_has ls 2 [(0, .ref h0)] := hl
  refine lv_aload_n hx hb dX9_readItem_0 rfl (lv_at hl 0 rfl) ?_
  have hPc := hP.sub (ws' := [(h0, .inr (7, [v0, v1, v2, v3, v4, v5, v6, v7, v8, v9, v10, v11, v12, v13, .int 0, .int 0, .int 0, .ref kq, .ref iq, .ref pq, .int 0, .int 0, v22, v23, v24, v25, v26, v27])), (kq, .inl (kc, 6, .inr (.inr (.inr (.inr kf)))))]) [0, 1] rfl
  have hKc := hK.sub (tys' := [(kc, .object "java/lang/String")]) [0] rfl
  refine vp_callSi (W.runV (As := []) (rest := []) ⟨hx, hb, hml, hown, hts⟩ (m_kindTold l dC dI ad h0 v0 v1 v2 v3 v4 v5 v6 v7 v8 v9 v10 v11 v12 v13 (.int 0) (.int 0) kq (.ref iq) (.ref pq) (.int 0) (.int 0) v22 v23 v24 v25 v26 v27 kc kf hkf) (cwV 0 hts g_m_readItem_m_kindTold_238 rfl rfl rfl (by decide +kernel) ⟨(Nat.le_of_ble_eq_true rfl), (Nat.le_of_ble_eq_true rfl)⟩) ⟨preST_blind, va_recv hKc hPc (ci := 7) (q0 := 0) rfl rfl, fun U hU hW => ⟨rfl, preS_at hU hW hPc hKc hev, sf_at hsf hS (fun _ h => h.elim) hU hW⟩⟩ rfl rfl hl.1 rfl (lv_room (Nat.le_of_ble_eq_true rfl)) dX9_readItem_1 ⟨(Nat.le_of_ble_eq_true rfl), (Nat.le_of_ble_eq_true rfl)⟩) (fun r_1 hw => ?_)
  subst hw
  refine lv_istore_n (lv' := [(1, .int (-1)), (0, .ref h0)]) hx hb dX9_readItem_4 rfl hl (by decide) rfl (fun ls hl => ?_)
  refine lv_iload_n hx hb dX9_readItem_5 rfl (lv_at hl 0 rfl) ?_
  refine lv_if_lt (tgt := 53) hx hb dX9_readItem_6 (by decide) (fun _ => ?_) (fun c => absurd (by decide) c)
  refine lv_aload_n hx hb dX9_readItem_53 rfl (lv_at hl 1 rfl) ?_
  refine va_ldcS (tx := "scene") (q := ad 19) hx hb hown (ev_str hev 19 rfl) dX9_readItem_54 ?_
  have hPc := hP.sub (ws' := [(h0, .inr (7, [v0, v1, v2, v3, v4, v5, v6, v7, v8, v9, v10, v11, v12, v13, .int 0, .int 0, .int 0, .ref kq, .ref iq, .ref pq, .int 0, .int 0, v22, v23, v24, v25, v26, v27]))]) [0] rfl
  have hKc := hK.sub (tys' := []) [] rfl
  refine vp_callSi (W.runV (As := [.ref (ad 19)]) (rest := []) ⟨hx, hb, hml, hown, hts⟩ (m_isWord l dC dI ad h0 19 v0 v1 v2 v3 v4 v5 v6 v7 v8 v9 v10 v11 v12 v13 (.int 0) (.int 0) (.ref kq) (.ref iq) (.ref pq) (.int 0) (.int 0) v22 v23 v24 v25 v26 v27 (by decide)) (cwV 1 hts g_m_readItem_m_isWord_231 rfl rfl rfl (by decide +kernel) ⟨(Nat.le_of_ble_eq_true rfl), (Nat.le_of_ble_eq_true rfl)⟩) ⟨preST_blind, va_recv hKc hPc (ci := 7) (q0 := 0) rfl rfl, fun U hU hW => ⟨rfl, preS_at hU hW hPc hKc hev, sf_at hsf hS (fun _ h => h.elim) hU hW⟩⟩ rfl rfl hl.1 rfl (lv_room (Nat.le_of_ble_eq_true rfl)) dX9_readItem_56 ⟨(Nat.le_of_ble_eq_true rfl), (Nat.le_of_ble_eq_true rfl)⟩) (fun r_2 hw => ?_)
  subst hw
  refine lv_if_eq (tgt := 107) hx hb dX9_readItem_59 (by decide) (fun _ => ?_) (fun c => absurd (by decide) c)
  refine lv_aload_n hx hb dX9_readItem_107 rfl (lv_at hl 1 rfl) ?_
  refine va_ldcSw (tx := "hold") (q := ad 20) hx hb hown (ev_str hev 20 rfl) dX9_readItem_108 ?_
  have hPc := hP.sub (ws' := [(h0, .inr (7, [v0, v1, v2, v3, v4, v5, v6, v7, v8, v9, v10, v11, v12, v13, .int 0, .int 0, .int 0, .ref kq, .ref iq, .ref pq, .int 0, .int 0, v22, v23, v24, v25, v26, v27]))]) [0] rfl
  have hKc := hK.sub (tys' := []) [] rfl
  refine vp_callSi (W.runV (As := [.ref (ad 20)]) (rest := []) ⟨hx, hb, hml, hown, hts⟩ (m_isWord l dC dI ad h0 20 v0 v1 v2 v3 v4 v5 v6 v7 v8 v9 v10 v11 v12 v13 (.int 0) (.int 0) (.ref kq) (.ref iq) (.ref pq) (.int 0) (.int 0) v22 v23 v24 v25 v26 v27 (by decide)) (cwV 1 hts g_m_readItem_m_isWord_231 rfl rfl rfl (by decide +kernel) ⟨(Nat.le_of_ble_eq_true rfl), (Nat.le_of_ble_eq_true rfl)⟩) ⟨preST_blind, va_recv hKc hPc (ci := 7) (q0 := 0) rfl rfl, fun U hU hW => ⟨rfl, preS_at hU hW hPc hKc hev, sf_at hsf hS (fun _ h => h.elim) hU hW⟩⟩ rfl rfl hl.1 rfl (lv_room (Nat.le_of_ble_eq_true rfl)) dX9_readItem_111 ⟨(Nat.le_of_ble_eq_true rfl), (Nat.le_of_ble_eq_true rfl)⟩) (fun r_3 hw => ?_)
  subst hw
  refine lv_if_eq (tgt := 124) hx hb dX9_readItem_114 (by decide) (fun _ => ?_) (fun c => absurd (by decide) c)
  refine lv_aload_n hx hb dX9_readItem_124 rfl (lv_at hl 1 rfl) ?_
  refine va_ldcSw (tx := "drop") (q := ad 24) hx hb hown (ev_str hev 24 rfl) dX9_readItem_125 ?_
  have hPc := hP.sub (ws' := [(h0, .inr (7, [v0, v1, v2, v3, v4, v5, v6, v7, v8, v9, v10, v11, v12, v13, .int 0, .int 0, .int 0, .ref kq, .ref iq, .ref pq, .int 0, .int 0, v22, v23, v24, v25, v26, v27]))]) [0] rfl
  have hKc := hK.sub (tys' := []) [] rfl
  refine vp_callSi (W.runV (As := [.ref (ad 24)]) (rest := []) ⟨hx, hb, hml, hown, hts⟩ (m_isWord l dC dI ad h0 24 v0 v1 v2 v3 v4 v5 v6 v7 v8 v9 v10 v11 v12 v13 (.int 0) (.int 0) (.ref kq) (.ref iq) (.ref pq) (.int 0) (.int 0) v22 v23 v24 v25 v26 v27 (by decide)) (cwV 1 hts g_m_readItem_m_isWord_231 rfl rfl rfl (by decide +kernel) ⟨(Nat.le_of_ble_eq_true rfl), (Nat.le_of_ble_eq_true rfl)⟩) ⟨preST_blind, va_recv hKc hPc (ci := 7) (q0 := 0) rfl rfl, fun U hU hW => ⟨rfl, preS_at hU hW hPc hKc hev, sf_at hsf hS (fun _ h => h.elim) hU hW⟩⟩ rfl rfl hl.1 rfl (lv_room (Nat.le_of_ble_eq_true rfl)) dX9_readItem_128 ⟨(Nat.le_of_ble_eq_true rfl), (Nat.le_of_ble_eq_true rfl)⟩) (fun r_4 hw => ?_)
  subst hw
  refine lv_if_eq (tgt := 156) hx hb dX9_readItem_131 (by decide) (fun _ => ?_) (fun c => absurd (by decide) c)
  refine lv_aload_n hx hb dX9_readItem_156 rfl (lv_at hl 1 rfl) ?_
  refine lv_aload_n hx hb dX9_readItem_157 rfl (lv_at hl 1 rfl) ?_
  refine va_ldcSw (tx := "torn") (q := ad 25) hx hb hown (ev_str hev 25 rfl) dX9_readItem_158 ?_
  have hPc := hP.sub (ws' := [(h0, .inr (7, [v0, v1, v2, v3, v4, v5, v6, v7, v8, v9, v10, v11, v12, v13, .int 0, .int 0, .int 0, .ref kq, .ref iq, .ref pq, .int 0, .int 0, v22, v23, v24, v25, v26, v27]))]) [0] rfl
  have hKc := hK.sub (tys' := []) [] rfl
  refine vp_callSi (W.runV (As := [.ref (ad 25)]) (rest := [.ref h0]) ⟨hx, hb, hml, hown, hts⟩ (m_isWord l dC dI ad h0 25 v0 v1 v2 v3 v4 v5 v6 v7 v8 v9 v10 v11 v12 v13 (.int 0) (.int 0) (.ref kq) (.ref iq) (.ref pq) (.int 0) (.int 0) v22 v23 v24 v25 v26 v27 (by decide)) (cwV 1 hts g_m_readItem_m_isWord_231 rfl rfl rfl (by decide +kernel) ⟨(Nat.le_of_ble_eq_true rfl), (Nat.le_of_ble_eq_true rfl)⟩) ⟨preST_blind, va_recv hKc hPc (ci := 7) (q0 := 0) rfl rfl, fun U hU hW => ⟨rfl, preS_at hU hW hPc hKc hev, sf_at hsf hS (fun _ h => h.elim) hU hW⟩⟩ rfl rfl hl.1 rfl (lv_room (Nat.le_of_ble_eq_true rfl)) dX9_readItem_161 ⟨(Nat.le_of_ble_eq_true rfl), (Nat.le_of_ble_eq_true rfl)⟩) (fun r_5 hw => ?_)
  subst hw
  have hPc := hP.sub (ws' := [(h0, .inr (7, [v0, v1, v2, v3, v4, v5, v6, v7, v8, v9, v10, v11, v12, v13, .int 0, .int 0, .int 0, .ref kq, .ref iq, .ref pq, .int 0, .int 0, v22, v23, v24, v25, v26, v27]))]) [0] rfl
  have hKc := hK.sub (tys' := []) [] rfl
  have hDc := hD.sub (ws' := [(h0, .inr (7, [v0, v1, v2, v3, v4, v5, v6, v7, v8, v9, v10, v11, v12, v13, .int 0, .int 0, .int 0, .ref kq, .ref iq, .ref pq, .int 0, .int 0, v22, v23, v24, v25, v26, v27]))]) [0] (by decide) rfl
  have hFc := va_free (wc := [(h0, .inr (7, [v0, v1, v2, v3, v4, v5, v6, v7, v8, v9, v10, v11, v12, v13, .int 0, .int 0, .int 0, .ref kq, .ref iq, .ref pq, .int 0, .int 0, v22, v23, v24, v25, v26, v27]))]) hD hS hA [0] rfl
  refine va_callv (va_runV (As := [.int 0]) (rest := []) ⟨hx, hb, hml, hown, hts⟩ (m_must_a l dC dI ad h0 v0 v1 v2 v3 v4 v5 v6 v7 v8 v9 v10 v11 v12 v13 (.int 0) (.int 0) (.ref kq) (.ref iq) (.ref pq) (.int 0) (.int 0) v22 v23 v24 v25 v26 v27 s.heap.size ) (cwV 1 hts g_m_readItem_m_must_a_224 rfl rfl rfl (by decide +kernel) ⟨(Nat.le_of_ble_eq_true rfl), (Nat.le_of_ble_eq_true rfl)⟩) ⟨preM_blind, va_recv hKc hPc (ci := 7) (q0 := 0) rfl rfl, fun U hU hW => ⟨rfl, preM_at hU hW hPc hKc hDc hev⟩⟩ rfl rfl hl.1 rfl (lv_room (Nat.le_of_ble_eq_true rfl)) dX9_readItem_164 ⟨(Nat.le_of_ble_eq_true rfl), (Nat.le_of_ble_eq_true rfl)⟩) hS (fun q _ h => hFc q h) hFc (fun u t H1 locs ht hvm hw hB hz1 hk1 hS => ?_)
  obtain ⟨hP1, hK1, hD1⟩ := hB
  rw [ht] at hP1
  have hK1 := va_K.moved hvm.symm hK1
  obtain ⟨hP, hD⟩ := va_join (wr := [(kq, .inl (kc, 6, .inr (.inr (.inr (.inr kf))))), (iq, .inl (ic, 360, .inl f1)), (pq, .inl (pc, 120, .inr (.inl f2)))]) (w1 := [(h0, .inr (7, [v0, v1, v2, v3, v4, v5, v6, v7, v8, v9, v10, v11, v12, v13, .int 0, .int 0, .int 1, .ref kq, .ref iq, .ref pq, .int 0, .int 0, v22, v23, v24, v25, v26, v27]))]) hP hD [0] [1, 2, 3] rfl rfl (by decide) (by decide) hk1 hFc hP1 hD1
  generalize H1 = H at hP hS ⊢
  have hP : va_P (dC, dI) vwCl [(kq, .inl (kc, 6, .inr (.inr (.inr (.inr kf))))), (iq, .inl (ic, 360, .inl f1)), (pq, .inl (pc, 120, .inr (.inl f2))), (h0, .inr (7, [v0, v1, v2, v3, v4, v5, v6, v7, v8, v9, v10, v11, v12, v13, .int 0, .int 0, .int 1, .ref kq, .ref iq, .ref pq, .int 0, .int 0, v22, v23, v24, v25, v26, v27]))] H := hP
  have hD : va_D A [(kq, .inl (kc, 6, .inr (.inr (.inr (.inr kf))))), (iq, .inl (ic, 360, .inl f1)), (pq, .inl (pc, 120, .inr (.inl f2))), (h0, .inr (7, [v0, v1, v2, v3, v4, v5, v6, v7, v8, v9, v10, v11, v12, v13, .int 0, .int 0, .int 1, .ref kq, .ref iq, .ref pq, .int 0, .int 0, v22, v23, v24, v25, v26, v27]))] := hD
  refine lv_aload_n hx hb dX9_readItem_167 rfl (lv_at hl 1 rfl) ?_
  refine lv_bipush (v := 13) hx hb dX9_readItem_168 (by decide) ?_
  refine lv_aload_n hx hb dX9_readItem_170 rfl (lv_at hl 1 rfl) ?_
  refine lv_iconst (v := 0) hx hb dX9_readItem_171 (by decide) ?_
  refine lv_aload_n hx hb dX9_readItem_172 rfl (lv_at hl 1 rfl) ?_
  refine va_get (D := (dC, dI)) (ci := 7) (v := .int 0) (C := RX9) (T := TX9) (N := 28) hx hb hts inX9 hown hK hP 3 rfl rfl 21 (by decide) (hts _ (List.mem_of_getElem? (i := 29) rfl)) (fun _ h9 => h9) rfl dX9_readItem_173 ?_
  refine lv_iconst (v := 1) hx hb dX9_readItem_176 (by decide) ?_
  refine lv_isub hx hb dX9_readItem_177 ?_
  refine pp_ti (y := (-1)) (by decide) ?_
  have hPc := hP.sub (ws' := [(h0, .inr (7, [v0, v1, v2, v3, v4, v5, v6, v7, v8, v9, v10, v11, v12, v13, .int 0, .int 0, .int 1, .ref kq, .ref iq, .ref pq, .int 0, .int 0, v22, v23, v24, v25, v26, v27]))]) [3] rfl
  have hKc := hK.sub (tys' := []) [] rfl
  have hDc := hD.sub (ws' := [(h0, .inr (7, [v0, v1, v2, v3, v4, v5, v6, v7, v8, v9, v10, v11, v12, v13, .int 0, .int 0, .int 1, .ref kq, .ref iq, .ref pq, .int 0, .int 0, v22, v23, v24, v25, v26, v27]))]) [3] (by decide) rfl
  have hFc := va_free (wc := [(h0, .inr (7, [v0, v1, v2, v3, v4, v5, v6, v7, v8, v9, v10, v11, v12, v13, .int 0, .int 0, .int 1, .ref kq, .ref iq, .ref pq, .int 0, .int 0, v22, v23, v24, v25, v26, v27]))]) hD hS hA [3] rfl
  refine va_calli (va_runV (As := [.int 0, .int (-1)]) (rest := [.int 13, .ref h0]) ⟨hx, hb, hml, hown, hts⟩ (m_number l dC dI ad h0 0 (-1) v0 v1 v2 v3 v4 v5 v6 v7 v8 v9 v10 v11 v12 v13 (.ref kq) (.ref iq) (.ref pq) (.int 0) (.int 0) v22 v23 v24 v25 v26 v27 H.size ) (cwV 2 hts g_m_readItem_m_number_235 rfl rfl rfl (by decide +kernel) ⟨(Nat.le_of_ble_eq_true rfl), (Nat.le_of_ble_eq_true rfl)⟩) ⟨preM_blind, va_recv hKc hPc (ci := 7) (q0 := 0) rfl rfl, fun U hU hW => ⟨rfl, preM_at hU hW hPc hKc hDc hev⟩⟩ rfl rfl hl.1 rfl (lv_room (Nat.le_of_ble_eq_true rfl)) dX9_readItem_178 ⟨(Nat.le_of_ble_eq_true rfl), (Nat.le_of_ble_eq_true rfl)⟩) hS (fun q _ h => hFc q h) hFc (fun r_7 u t H1 locs ht hvm hw hB hz1 hk1 hS => ?_)
  obtain ⟨hP1, hK1, hD1⟩ := hB
  rw [ht] at hP1
  have hK1 := va_K.moved hvm.symm hK1
  obtain ⟨hP, hD⟩ := va_join (wr := [(kq, .inl (kc, 6, .inr (.inr (.inr (.inr kf))))), (iq, .inl (ic, 360, .inl f1)), (pq, .inl (pc, 120, .inr (.inl f2)))]) (w1 := [(h0, .inr (7, [v0, v1, v2, v3, v4, v5, v6, v7, v8, v9, v10, v11, v12, v13, .int 0, .int 0, .int 1, .ref kq, .ref iq, .ref pq, .int 0, .int 0, v22, v23, v24, v25, v26, v27]))]) hP hD [3] [0, 1, 2] rfl rfl (by decide) (by decide) hk1 hFc hP1 hD1
  generalize H1 = H at hP hS ⊢
  have hP : va_P (dC, dI) vwCl [(kq, .inl (kc, 6, .inr (.inr (.inr (.inr kf))))), (iq, .inl (ic, 360, .inl f1)), (pq, .inl (pc, 120, .inr (.inl f2))), (h0, .inr (7, [v0, v1, v2, v3, v4, v5, v6, v7, v8, v9, v10, v11, v12, v13, .int 0, .int 0, .int 1, .ref kq, .ref iq, .ref pq, .int 0, .int 0, v22, v23, v24, v25, v26, v27]))] H := hP
  have hD : va_D A [(kq, .inl (kc, 6, .inr (.inr (.inr (.inr kf))))), (iq, .inl (ic, 360, .inl f1)), (pq, .inl (pc, 120, .inr (.inl f2))), (h0, .inr (7, [v0, v1, v2, v3, v4, v5, v6, v7, v8, v9, v10, v11, v12, v13, .int 0, .int 0, .int 1, .ref kq, .ref iq, .ref pq, .int 0, .int 0, v22, v23, v24, v25, v26, v27]))] := hD
  subst hw
  refine lv_iconst (v := 0) hx hb dX9_readItem_181 (by decide) ?_
  refine lv_lconst (v := 0) hx hb dX9_readItem_182 (by decide) ?_
  have hPc := hP.sub (ws' := [(h0, .inr (7, [v0, v1, v2, v3, v4, v5, v6, v7, v8, v9, v10, v11, v12, v13, .int 0, .int 0, .int 1, .ref kq, .ref iq, .ref pq, .int 0, .int 0, v22, v23, v24, v25, v26, v27])), (iq, .inl (ic, 360, .inl f1)), (pq, .inl (pc, 120, .inr (.inl f2)))]) [3, 1, 2] rfl
  have hKc := hK.sub (tys' := [(ic, .int), (pc, .long)]) [1, 2] rfl
  have hDc := hD.sub (ws' := [(h0, .inr (7, [v0, v1, v2, v3, v4, v5, v6, v7, v8, v9, v10, v11, v12, v13, .int 0, .int 0, .int 1, .ref kq, .ref iq, .ref pq, .int 0, .int 0, v22, v23, v24, v25, v26, v27])), (iq, .inl (ic, 360, .inl f1)), (pq, .inl (pc, 120, .inr (.inl f2)))]) [3, 1, 2] (by decide) rfl
  have hFc := va_free (wc := [(h0, .inr (7, [v0, v1, v2, v3, v4, v5, v6, v7, v8, v9, v10, v11, v12, v13, .int 0, .int 0, .int 1, .ref kq, .ref iq, .ref pq, .int 0, .int 0, v22, v23, v24, v25, v26, v27])), (iq, .inl (ic, 360, .inl f1)), (pq, .inl (pc, 120, .inr (.inl f2)))]) hD hS hA [3, 1, 2] rfl
  refine va_callv (va_runV (As := [.int 13, .int 0, .int 0, .long 0]) (rest := []) ⟨hx, hb, hml, hown, hts⟩ (m_item l dC dI ad h0 13 0 0 0 v0 v1 v2 v3 v4 v5 v6 v7 v8 v9 v10 v11 v12 v13 (.int 0) (.int 0) (.int 1) (.ref kq) iq pq (.int 0) v22 v23 v24 v25 v26 v27 ic f1 pc f2 H.size ) (cwV 4 hts g_m_readItem_m_item_247 rfl rfl rfl (by decide +kernel) ⟨(Nat.le_of_ble_eq_true rfl), (Nat.le_of_ble_eq_true rfl)⟩) ⟨preM_blind, va_recv hKc hPc (ci := 7) (q0 := 0) rfl rfl, fun U hU hW => ⟨rfl, preM_at hU hW hPc hKc hDc hev⟩⟩ rfl rfl hl.1 rfl (lv_room (Nat.le_of_ble_eq_true rfl)) dX9_readItem_183 ⟨(Nat.le_of_ble_eq_true rfl), (Nat.le_of_ble_eq_true rfl)⟩) hS (fun q _ h => hFc q h) hFc (fun u t H1 locs ht hvm hw hB hz1 hk1 hS => ?_)
  obtain ⟨hP1, hK1, hD1⟩ := hB
  rw [ht] at hP1
  have hK1 := va_K.moved hvm.symm hK1
  obtain ⟨hP, hD⟩ := va_join (wr := [(kq, .inl (kc, 6, .inr (.inr (.inr (.inr kf)))))]) (w1 := [(h0, .inr (7, [v0, v1, v2, v3, v4, v5, v6, v7, v8, v9, v10, v11, v12, v13, .int 0, .int 0, .int 1, .ref kq, .ref iq, .ref pq, .int 1, .int 0, v22, v23, v24, v25, v26, v27]))]) hP hD [3, 1, 2] [0] rfl rfl (by decide) (by decide) hk1 hFc hP1 hD1
  generalize H1 = H at hP hS ⊢
  have hP : va_P (dC, dI) vwCl [(kq, .inl (kc, 6, .inr (.inr (.inr (.inr kf))))), (h0, .inr (7, [v0, v1, v2, v3, v4, v5, v6, v7, v8, v9, v10, v11, v12, v13, .int 0, .int 0, .int 1, .ref kq, .ref iq, .ref pq, .int 1, .int 0, v22, v23, v24, v25, v26, v27]))] H := hP
  have hD : va_D A [(kq, .inl (kc, 6, .inr (.inr (.inr (.inr kf))))), (h0, .inr (7, [v0, v1, v2, v3, v4, v5, v6, v7, v8, v9, v10, v11, v12, v13, .int 0, .int 0, .int 1, .ref kq, .ref iq, .ref pq, .int 1, .int 0, v22, v23, v24, v25, v26, v27]))] := hD
  have hP9 := hP.sub (ws' := [(h0, .inr (7, [v0, v1, v2, v3, v4, v5, v6, v7, v8, v9, v10, v11, v12, v13, .int 0, .int 0, .int 1, .ref kq, .ref iq, .ref pq, .int 1, .int 0, v22, v23, v24, v25, v26, v27]))]) [1] rfl
  have hD9 := hD.sub (ws' := [(h0, .inr (7, [v0, v1, v2, v3, v4, v5, v6, v7, v8, v9, v10, v11, v12, v13, .int 0, .int 0, .int 1, .ref kq, .ref iq, .ref pq, .int 1, .int 0, v22, v23, v24, v25, v26, v27]))]) [1] (by decide) rfl
  have hK9 := hK.sub (tys' := []) [] rfl
  exact W.vret hx hb hr (fun t ht hW => ⟨⟨(), rfl, trivial, by rw [ht]; exact hP9, va_K.moved hW.alike hK9, hD9⟩, hS.F ht⟩) hS.2.2 dX9_readItem_186

def w_y_text : List Cond := .code yX9_text cX9_text 2 (some .int) :: (([.fieldLink RX9 191 "LampShapesModel" "ends" "I", .fieldLink RX9 217 "LampShapesModel" "isWrong" "Z", .fieldLink RX9 228 "LampShapesModel" "itemMany" "I", .fieldLink RX9 9 "LampShapesModel" "now" "[I", .fieldLink RX9 241 "LampShapesModel" "shapeThen" "I", .fieldLink RX9 253 "LampShapesModel" "sceneThen" "I", .fieldLink RX9 263 "LampShapesModel" "heldThen" "I", .methodLink RX9 221 yX9_next, .instanceMethod yX9_next, .selects RX9 yX9_next yX9_next, .initialized RX9, .code yX9_next cX9_next 2 none, .fieldLink RX9 194 "LampShapesModel" "begins" "I", .methodLink RX9 197 yX9_byteAt, .instanceMethod yX9_byteAt, .selects RX9 yX9_byteAt yX9_byteAt, .code yX9_byteAt cX9_byteAt 2 (some .int), .fieldLink RX9 188 "LampShapesModel" "taped" "I", .fieldLink RX9 200 "LampShapesModel" "value" "I", .fieldLink RX9 203 "LampShapesModel" "sort" "I", .methodLink RX9 278 yX9_readItem, .instanceMethod yX9_readItem, .selects RX9 yX9_readItem yX9_readItem, .code yX9_readItem cX9_readItem 2 none, .methodLink RX9 238 yX9_kindTold, .instanceMethod yX9_kindTold, .selects RX9 yX9_kindTold yX9_kindTold, .code yX9_kindTold cX9_kindTold 3 (some .int), .fieldLink RX9 49 "LampShapesModel" "kinds" "[Ljava/lang/String;", .methodLink RX9 231 yX9_isWord, .instanceMethod yX9_isWord, .selects RX9 yX9_isWord yX9_isWord, .code yX9_isWord cX9_isWord 4 (some .boolean), .methodLink RX9 209 yJ0_length_8abf5, .instanceMethod yJ0_length_8abf5, .selects RJ0 yJ0_length_8abf5 yJ0_length_8abf5, .initialized RJ0, .code yJ0_length_8abf5 cJ0_length_8abf5 1 (some .int), .fieldLink RJ0 9 "java/lang/String" "value" "[B", .methodLink RJ0 335 yJ0_coder_7d493, .instanceMethod yJ0_coder_7d493, .selects RJ0 yJ0_coder_7d493 yJ0_coder_7d493, .code yJ0_coder_7d493 cJ0_coder_7d493 1 (some .byte), .fieldLink RJ0 38 "java/lang/String" "COMPACT_STRINGS" "Z", .fieldLink RJ0 15 "java/lang/String" "coder" "B", .methodLink RX9 224 yX9_must, .instanceMethod yX9_must, .selects RX9 yX9_must yX9_must, .code yX9_must cX9_must 2 none, .methodLink RX9 235 yX9_number, .instanceMethod yX9_number, .selects RX9 yX9_number yX9_number, .code yX9_number cX9_number 4 (some .int), .methodLink RX9 247 yX9_item, .instanceMethod yX9_item, .selects RX9 yX9_item yX9_item, .code yX9_item cX9_item 7 none, .fieldLink RX9 53 "LampShapesModel" "items" "[I", .fieldLink RX9 56 "LampShapesModel" "itemPictures" "[J"] : List Cond) ++ wsX90)
set_option maxRecDepth 20000 in
theorem g_y_text_m_next_221 : GoodIn w_y_text (wsV RX9 221 RX9 yX9_next w_m_next) := goodIn_r _ [8, 9, 10, 11, 12, 1, 13, 14, 15, 16, 11, 17, 18, 19, 20, 60, 61, 62, 63, 64, 65, 66, 67, 68, 69, 70, 71, 72, 73, 74, 75, 76, 77, 78, 79, 80, 81, 82, 83, 84, 85, 86, 87] rfl (by decide +kernel)
set_option maxRecDepth 20000 in
theorem g_y_text_m_readItem_278 : GoodIn w_y_text (wsV RX9 278 RX9 yX9_readItem w_m_readItem) := goodIn_r _ [21, 22, 23, 11, 24, 25, 26, 27, 11, 28, 29, 30, 31, 32, 33, 20, 34, 35, 36, 37, 38, 39, 40, 41, 42, 43, 44, 45, 46, 47, 48, 49, 2, 5, 50, 51, 52, 53, 19, 54, 55, 56, 57, 3, 58, 59, 60, 61, 62, 63, 64, 65, 66, 67, 68, 69, 70, 71, 72, 73, 74, 75, 76, 77, 78, 79, 80, 81, 82, 83, 84, 85, 86, 87] rfl (by decide +kernel)
set_option maxRecDepth 20000 in
theorem g_y_text_m_must_b_224 : GoodIn w_y_text (wsV RX9 224 RX9 yX9_must w_m_must_b) := goodIn_r _ [46, 47, 48, 11, 49, 2, 60, 61, 62, 63, 64, 65, 66, 67, 68, 69, 70, 71, 72, 73, 74, 75, 76, 77, 78, 79, 80, 81, 82, 83, 84, 85, 86, 87] rfl (by decide +kernel)
set_option maxHeartbeats 4000000 in
set_option maxRecDepth 100000 in
theorem y_text (l : Launch) (dC : Nat → ClassId) (dI : Nat → Nat → Nat) (ad : Nat → Nat) (h0 : Nat) (m0 : Nat) (v1 : Value) (v2 : Value) (v3 : Value) (v4 : Value) (v5 : Value) (v6 : Value) (v7 : Value) (v8 : Value) (v9 : Value) (v10 : Value) (v12 : Value) (v13 : Value) (v14 : Value) (v15 : Value) (v16 : Value) (kq : Nat) (iq : Nat) (pq : Nat) (v20 : Value) (v21 : Value) (v22 : Value) (v23 : Value) (v24 : Value) (v25 : Value) (v26 : Value) (v27 : Value) (mc0 : ClassId) (nf : Nat → Int32) (kc : ClassId) (kf : Nat → Option Nat) (ic : ClassId) (f1 : Nat → Int32) (pc : ClassId) (f2 : Nat → Int64) (sz : Nat) (hnf : ∀ j, j < 38 → nf j = fr_n j) (hkf : ∀ j, j < 6 → kf j = (some (ad (13 + j)))) : Met l yX9_text w_y_text ({ frames := 5, cells := 0, slots := 0, locals := 106 } : Room) (va_Pc [.ref h0] (preT dC dI ad [(mc0, .int), (kc, .object "java/lang/String"), (ic, .int), (pc, .long)] [(h0, .inr (7, [.ref m0, v1, v2, v3, v4, v5, v6, v7, v8, v9, v10, .int 0, v12, v13, v14, v15, v16, .ref kq, .ref iq, .ref pq, v20, v21, v22, v23, v24, v25, v26, v27])), (m0, .inl (mc0, 38, .inl nf)), (kq, .inl (kc, 6, .inr (.inr (.inr (.inr kf))))), (iq, .inl (ic, 360, .inl f1)), (pq, .inl (pc, 120, .inr (.inl f2)))] sz)) (va_Qi (fun (r : Int32) (_ : Unit) => (r = (-1))) (fun _ _ => True) (va_A [(h0, .inr (7, [.ref m0, v1, v2, v3, v4, v5, v6, v7, v8, v9, v10, .int 0, v12, v13, v14, v15, v16, .ref kq, .ref iq, .ref pq, v20, v21, v22, v23, v24, v25, v26, v27])), (m0, .inl (mc0, 38, .inl nf)), (kq, .inl (kc, 6, .inr (.inr (.inr (.inr kf))))), (iq, .inl (ic, 360, .inl f1)), (pq, .inl (pc, 120, .inr (.inl f2)))] sz)) 0 0 (va_A [(h0, .inr (7, [.ref m0, v1, v2, v3, v4, v5, v6, v7, v8, v9, v10, .int 0, v12, v13, v14, v15, v16, .ref kq, .ref iq, .ref pq, v20, v21, v22, v23, v24, v25, v26, v27])), (m0, .inl (mc0, 38, .inl nf)), (kq, .inl (kc, 6, .inr (.inr (.inr (.inr kf))))), (iq, .inl (ic, 360, .inl f1)), (pq, .inl (pc, 120, .inr (.inl f2)))] sz) := by
  refine Met.ofW (cc := cX9_text) (maxL := 2) (ret := (some .int)) (by decide) rfl ?_
  intro p e s m args below meth c s₁ B hml hv
  obtain ⟨rfl, ⟨hsz, hP, hK, hD0, hev⟩, hsf⟩ := hv
  have hx := B.exec
  have hb := B.bytes
  have hr := B.returns
  have hts := atoms_spec (ws := w_y_text) B.pre
  have hown : s.vm.findClass RX9 = some m.cls := findClass_of_methodNamed B.named
  have hlocks := B.notSynchronized
  have inX9 : ∀ w ∈ wsX90, w ∈ w_y_text := fun w h => List.mem_cons_of_mem _ (List.mem_append_right _ h)
  subst hsz
  have hD := hD0.self (sz := s.heap.size)
  generalize hAe : va_A [(h0, .inr (7, [.ref m0, v1, v2, v3, v4, v5, v6, v7, v8, v9, v10, .int 0, v12, v13, v14, v15, v16, .ref kq, .ref iq, .ref pq, v20, v21, v22, v23, v24, v25, v26, v27])), (m0, .inl (mc0, 38, .inl nf)), (kq, .inl (kc, 6, .inr (.inr (.inr (.inr kf))))), (iq, .inl (ic, 360, .inl f1)), (pq, .inl (pc, 120, .inr (.inl f2)))] s.heap.size = A at hD hsf ⊢
  have hA : ∀ q : Nat, s.heap.size ≤ q → A q := fun q h => by rw [← hAe]; exact Or.inr h
  have hS : va_S A s.heap s.heap [] := va_S.rf
  have hP : va_P (dC, dI) vwCl [(h0, .inr (7, [.ref m0, v1, v2, v3, v4, v5, v6, v7, v8, v9, v10, .int 0, v12, v13, v14, v15, v16, .ref kq, .ref iq, .ref pq, v20, v21, v22, v23, v24, v25, v26, v27])), (m0, .inl (mc0, 38, .inl nf)), (kq, .inl (kc, 6, .inr (.inr (.inr (.inr kf))))), (iq, .inl (ic, 360, .inl f1)), (pq, .inl (pc, 120, .inr (.inl f2)))] s.heap := hP
  have hl := lv_entry ([.ref h0]) (n := 2) (Nat.le_of_ble_eq_true rfl)
  rw [lg_entry_eq]
  generalize (lg_sl ([.ref h0]) ++ List.replicate (2 - (lg_sl ([.ref h0])).length) Slot.unset).toArray = ls at hl ⊢
  have hl : lv_has ls 2 [(0, .ref h0)] := hl
  refine lv_aload_n hx hb dX9_text_0 rfl (lv_at hl 0 rfl) ?_
  refine lv_iconst (v := 0) hx hb dX9_text_1 (by decide) ?_
  refine va_put (D := (dC, dI)) (ci := 7) (v := .int 0) (ty := .int) (C := RX9) (T := TX9) (N := 28) hx hb hts inX9 tyX9 tyX9_ok nmX9 hown hK hP hD hS 0 rfl rfl 13 (by decide) (hts _ (List.mem_of_getElem? (i := 1) rfl)) (fun _ h9 => h9) rfl (by decide +kernel) rfl rfl (Nat.le_of_ble_eq_true rfl) dX9_text_2 (fun H locs hP hD hS => ?_)
  have hP : va_P (dC, dI) vwCl [(h0, .inr (7, [.ref m0, v1, v2, v3, v4, v5, v6, v7, v8, v9, v10, .int 0, v12, .int 0, v14, v15, v16, .ref kq, .ref iq, .ref pq, v20, v21, v22, v23, v24, v25, v26, v27])), (m0, .inl (mc0, 38, .inl nf)), (kq, .inl (kc, 6, .inr (.inr (.inr (.inr kf))))), (iq, .inl (ic, 360, .inl f1)), (pq, .inl (pc, 120, .inr (.inl f2)))] H := hP
  have hD : va_D A [(h0, .inr (7, [.ref m0, v1, v2, v3, v4, v5, v6, v7, v8, v9, v10, .int 0, v12, .int 0, v14, v15, v16, .ref kq, .ref iq, .ref pq, v20, v21, v22, v23, v24, v25, v26, v27])), (m0, .inl (mc0, 38, .inl nf)), (kq, .inl (kc, 6, .inr (.inr (.inr (.inr kf))))), (iq, .inl (ic, 360, .inl f1)), (pq, .inl (pc, 120, .inr (.inl f2)))] := hD
  refine lv_aload_n hx hb dX9_text_5 rfl (lv_at hl 0 rfl) ?_
  refine lv_iconst (v := 0) hx hb dX9_text_6 (by decide) ?_
  refine va_put (D := (dC, dI)) (ci := 7) (v := .int 0) (ty := .boolean) (C := RX9) (T := TX9) (N := 28) hx hb hts inX9 tyX9 tyX9_ok nmX9 hown hK hP hD hS 0 rfl rfl 16 (by decide) (hts _ (List.mem_of_getElem? (i := 2) rfl)) (fun _ h9 => h9) rfl (by decide +kernel) (by decide) rfl (Nat.le_of_ble_eq_true rfl) dX9_text_7 (fun H locs hP hD hS => ?_)
  have hP : va_P (dC, dI) vwCl [(h0, .inr (7, [.ref m0, v1, v2, v3, v4, v5, v6, v7, v8, v9, v10, .int 0, v12, .int 0, v14, v15, .int 0, .ref kq, .ref iq, .ref pq, v20, v21, v22, v23, v24, v25, v26, v27])), (m0, .inl (mc0, 38, .inl nf)), (kq, .inl (kc, 6, .inr (.inr (.inr (.inr kf))))), (iq, .inl (ic, 360, .inl f1)), (pq, .inl (pc, 120, .inr (.inl f2)))] H := hP
  have hD : va_D A [(h0, .inr (7, [.ref m0, v1, v2, v3, v4, v5, v6, v7, v8, v9, v10, .int 0, v12, .int 0, v14, v15, .int 0, .ref kq, .ref iq, .ref pq, v20, v21, v22, v23, v24, v25, v26, v27])), (m0, .inl (mc0, 38, .inl nf)), (kq, .inl (kc, 6, .inr (.inr (.inr (.inr kf))))), (iq, .inl (ic, 360, .inl f1)), (pq, .inl (pc, 120, .inr (.inl f2)))] := hD
  refine lv_aload_n hx hb dX9_text_10 rfl (lv_at hl 0 rfl) ?_
  refine lv_iconst (v := 0) hx hb dX9_text_11 (by decide) ?_
  refine va_put (D := (dC, dI)) (ci := 7) (v := .int 0) (ty := .int) (C := RX9) (T := TX9) (N := 28) hx hb hts inX9 tyX9 tyX9_ok nmX9 hown hK hP hD hS 0 rfl rfl 20 (by decide) (hts _ (List.mem_of_getElem? (i := 3) rfl)) (fun _ h9 => h9) rfl (by decide +kernel) rfl rfl (Nat.le_of_ble_eq_true rfl) dX9_text_12 (fun H locs hP hD hS => ?_)
  have hP : va_P (dC, dI) vwCl [(h0, .inr (7, [.ref m0, v1, v2, v3, v4, v5, v6, v7, v8, v9, v10, .int 0, v12, .int 0, v14, v15, .int 0, .ref kq, .ref iq, .ref pq, .int 0, v21, v22, v23, v24, v25, v26, v27])), (m0, .inl (mc0, 38, .inl nf)), (kq, .inl (kc, 6, .inr (.inr (.inr (.inr kf))))), (iq, .inl (ic, 360, .inl f1)), (pq, .inl (pc, 120, .inr (.inl f2)))] H := hP
  have hD : va_D A [(h0, .inr (7, [.ref m0, v1, v2, v3, v4, v5, v6, v7, v8, v9, v10, .int 0, v12, .int 0, v14, v15, .int 0, .ref kq, .ref iq, .ref pq, .int 0, v21, v22, v23, v24, v25, v26, v27])), (m0, .inl (mc0, 38, .inl nf)), (kq, .inl (kc, 6, .inr (.inr (.inr (.inr kf))))), (iq, .inl (ic, 360, .inl f1)), (pq, .inl (pc, 120, .inr (.inl f2)))] := hD
  refine lv_aload_n hx hb dX9_text_15 rfl (lv_at hl 0 rfl) ?_
  refine lv_aload_n hx hb dX9_text_16 rfl (lv_at hl 0 rfl) ?_
  refine va_get (D := (dC, dI)) (ci := 7) (v := .ref m0) (C := RX9) (T := TX9) (N := 28) hx hb hts inX9 hown hK hP 0 rfl rfl 0 (by decide) (hts _ (List.mem_of_getElem? (i := 4) rfl)) (fun _ h9 => h9) rfl dX9_text_17 ?_
  refine lv_iconst (v := 0) hx hb dX9_text_20 (by decide) ?_
  refine va_iald hx hb hK hP 1 0 rfl rfl (vp_in_nI (n := 0) (by decide) (by decide)) dX9_text_21 ?_
  refine pp_ti (y := 0) ((hnf 0 (by decide)).trans (by decide)) ?_
  refine va_put (D := (dC, dI)) (ci := 7) (v := .int 0) (ty := .int) (C := RX9) (T := TX9) (N := 28) hx hb hts inX9 tyX9 tyX9_ok nmX9 hown hK hP hD hS 0 rfl rfl 21 (by decide) (hts _ (List.mem_of_getElem? (i := 5) rfl)) (fun _ h9 => h9) rfl (by decide +kernel) rfl rfl (Nat.le_of_ble_eq_true rfl) dX9_text_22 (fun H locs hP hD hS => ?_)
  have hP : va_P (dC, dI) vwCl [(h0, .inr (7, [.ref m0, v1, v2, v3, v4, v5, v6, v7, v8, v9, v10, .int 0, v12, .int 0, v14, v15, .int 0, .ref kq, .ref iq, .ref pq, .int 0, .int 0, v22, v23, v24, v25, v26, v27])), (m0, .inl (mc0, 38, .inl nf)), (kq, .inl (kc, 6, .inr (.inr (.inr (.inr kf))))), (iq, .inl (ic, 360, .inl f1)), (pq, .inl (pc, 120, .inr (.inl f2)))] H := hP
  have hD : va_D A [(h0, .inr (7, [.ref m0, v1, v2, v3, v4, v5, v6, v7, v8, v9, v10, .int 0, v12, .int 0, v14, v15, .int 0, .ref kq, .ref iq, .ref pq, .int 0, .int 0, v22, v23, v24, v25, v26, v27])), (m0, .inl (mc0, 38, .inl nf)), (kq, .inl (kc, 6, .inr (.inr (.inr (.inr kf))))), (iq, .inl (ic, 360, .inl f1)), (pq, .inl (pc, 120, .inr (.inl f2)))] := hD
  refine lv_aload_n hx hb dX9_text_25 rfl (lv_at hl 0 rfl) ?_
  refine lv_aload_n hx hb dX9_text_26 rfl (lv_at hl 0 rfl) ?_
  refine va_get (D := (dC, dI)) (ci := 7) (v := .ref m0) (C := RX9) (T := TX9) (N := 28) hx hb hts inX9 hown hK hP 0 rfl rfl 0 (by decide) (hts _ (List.mem_of_getElem? (i := 4) rfl)) (fun _ h9 => h9) rfl dX9_text_27 ?_
  refine lv_iconst (v := 1) hx hb dX9_text_30 (by decide) ?_
  refine va_iald hx hb hK hP 1 0 rfl rfl (vp_in_nI (n := 1) (by decide) (by decide)) dX9_text_31 ?_
  refine pp_ti (y := 0) ((hnf 1 (by decide)).trans (by decide)) ?_
  refine va_put (D := (dC, dI)) (ci := 7) (v := .int 0) (ty := .int) (C := RX9) (T := TX9) (N := 28) hx hb hts inX9 tyX9 tyX9_ok nmX9 hown hK hP hD hS 0 rfl rfl 22 (by decide) (hts _ (List.mem_of_getElem? (i := 6) rfl)) (fun _ h9 => h9) rfl (by decide +kernel) rfl rfl (Nat.le_of_ble_eq_true rfl) dX9_text_32 (fun H locs hP hD hS => ?_)
  have hP : va_P (dC, dI) vwCl [(h0, .inr (7, [.ref m0, v1, v2, v3, v4, v5, v6, v7, v8, v9, v10, .int 0, v12, .int 0, v14, v15, .int 0, .ref kq, .ref iq, .ref pq, .int 0, .int 0, .int 0, v23, v24, v25, v26, v27])), (m0, .inl (mc0, 38, .inl nf)), (kq, .inl (kc, 6, .inr (.inr (.inr (.inr kf))))), (iq, .inl (ic, 360, .inl f1)), (pq, .inl (pc, 120, .inr (.inl f2)))] H := hP
  have hD : va_D A [(h0, .inr (7, [.ref m0, v1, v2, v3, v4, v5, v6, v7, v8, v9, v10, .int 0, v12, .int 0, v14, v15, .int 0, .ref kq, .ref iq, .ref pq, .int 0, .int 0, .int 0, v23, v24, v25, v26, v27])), (m0, .inl (mc0, 38, .inl nf)), (kq, .inl (kc, 6, .inr (.inr (.inr (.inr kf))))), (iq, .inl (ic, 360, .inl f1)), (pq, .inl (pc, 120, .inr (.inl f2)))] := hD
  refine lv_aload_n hx hb dX9_text_35 rfl (lv_at hl 0 rfl) ?_
  refine lv_iconst (v := 0) hx hb dX9_text_36 (by decide) ?_
  refine va_put (D := (dC, dI)) (ci := 7) (v := .int 0) (ty := .int) (C := RX9) (T := TX9) (N := 28) hx hb hts inX9 tyX9 tyX9_ok nmX9 hown hK hP hD hS 0 rfl rfl 23 (by decide) (hts _ (List.mem_of_getElem? (i := 7) rfl)) (fun _ h9 => h9) rfl (by decide +kernel) rfl rfl (Nat.le_of_ble_eq_true rfl) dX9_text_37 (fun H locs hP hD hS => ?_)
  have hP : va_P (dC, dI) vwCl [(h0, .inr (7, [.ref m0, v1, v2, v3, v4, v5, v6, v7, v8, v9, v10, .int 0, v12, .int 0, v14, v15, .int 0, .ref kq, .ref iq, .ref pq, .int 0, .int 0, .int 0, .int 0, v24, v25, v26, v27])), (m0, .inl (mc0, 38, .inl nf)), (kq, .inl (kc, 6, .inr (.inr (.inr (.inr kf))))), (iq, .inl (ic, 360, .inl f1)), (pq, .inl (pc, 120, .inr (.inl f2)))] H := hP
  have hD : va_D A [(h0, .inr (7, [.ref m0, v1, v2, v3, v4, v5, v6, v7, v8, v9, v10, .int 0, v12, .int 0, v14, v15, .int 0, .ref kq, .ref iq, .ref pq, .int 0, .int 0, .int 0, .int 0, v24, v25, v26, v27])), (m0, .inl (mc0, 38, .inl nf)), (kq, .inl (kc, 6, .inr (.inr (.inr (.inr kf))))), (iq, .inl (ic, 360, .inl f1)), (pq, .inl (pc, 120, .inr (.inl f2)))] := hD
  refine lv_iconst (v := 0) hx hb dX9_text_40 (by decide) ?_
  refine lv_istore_n (lv' := [(1, .int 0), (0, .ref h0)]) hx hb dX9_text_41 rfl hl (by decide) rfl (fun ls hl => ?_)
  refine lv_iload_n hx hb dX9_text_42 rfl (lv_at hl 0 rfl) ?_
  refine lv_iconst (v := 4) hx hb dX9_text_43 (by decide) ?_
  refine lv_icmp_ge (tgt := 89) hx hb dX9_text_44 (by decide) (fun c => absurd c (by decide)) (fun _ => ?_)
  refine lv_aload_n hx hb dX9_text_47 rfl (lv_at hl 1 rfl) ?_
  refine lv_dup hx hb dX9_text_48 rfl ?_
  refine va_get (D := (dC, dI)) (ci := 7) (v := .int 0) (C := RX9) (T := TX9) (N := 28) hx hb hts inX9 hown hK hP 0 rfl rfl 23 (by decide) (hts _ (List.mem_of_getElem? (i := 7) rfl)) (fun _ h9 => h9) rfl dX9_text_49 ?_
  refine lv_aload_n hx hb dX9_text_52 rfl (lv_at hl 1 rfl) ?_
  refine va_get (D := (dC, dI)) (ci := 7) (v := .ref m0) (C := RX9) (T := TX9) (N := 28) hx hb hts inX9 hown hK hP 0 rfl rfl 0 (by decide) (hts _ (List.mem_of_getElem? (i := 4) rfl)) (fun _ h9 => h9) rfl dX9_text_53 ?_
  refine lv_bipush (v := 30) hx hb dX9_text_56 (by decide) ?_
  refine lv_iload_n hx hb dX9_text_58 rfl (lv_at hl 0 rfl) ?_
  refine lv_iadd hx hb dX9_text_59 ?_
  refine pp_ti (y := 30) (by decide) ?_
  refine va_iald hx hb hK hP 1 0 rfl rfl (vp_in_nI (n := 30) (by decide) (by decide)) dX9_text_60 ?_
  refine pp_ti (y := (-1)) ((hnf 30 (by decide)).trans (by decide)) ?_
  refine lv_if_ge (tgt := 68) hx hb dX9_text_61 (by decide) (fun c => absurd c (by decide)) (fun _ => ?_)
  refine lv_iconst (v := 0) hx hb dX9_text_64 (by decide) ?_
  refine lv_goto (tgt := 79) hx hb dX9_text_65 (by decide) ?_
  refine lv_ior hx hb dX9_text_79 ?_
  refine pp_ti (y := 0) (by decide) ?_
  refine va_put (D := (dC, dI)) (ci := 7) (v := .int 0) (ty := .int) (C := RX9) (T := TX9) (N := 28) hx hb hts inX9 tyX9 tyX9_ok nmX9 hown hK hP hD hS 0 rfl rfl 23 (by decide) (hts _ (List.mem_of_getElem? (i := 7) rfl)) (fun _ h9 => h9) rfl (by decide +kernel) rfl rfl (Nat.le_of_ble_eq_true rfl) dX9_text_80 (fun H locs hP hD hS => ?_)
  have hP : va_P (dC, dI) vwCl [(h0, .inr (7, [.ref m0, v1, v2, v3, v4, v5, v6, v7, v8, v9, v10, .int 0, v12, .int 0, v14, v15, .int 0, .ref kq, .ref iq, .ref pq, .int 0, .int 0, .int 0, .int 0, v24, v25, v26, v27])), (m0, .inl (mc0, 38, .inl nf)), (kq, .inl (kc, 6, .inr (.inr (.inr (.inr kf))))), (iq, .inl (ic, 360, .inl f1)), (pq, .inl (pc, 120, .inr (.inl f2)))] H := hP
  have hD : va_D A [(h0, .inr (7, [.ref m0, v1, v2, v3, v4, v5, v6, v7, v8, v9, v10, .int 0, v12, .int 0, v14, v15, .int 0, .ref kq, .ref iq, .ref pq, .int 0, .int 0, .int 0, .int 0, v24, v25, v26, v27])), (m0, .inl (mc0, 38, .inl nf)), (kq, .inl (kc, 6, .inr (.inr (.inr (.inr kf))))), (iq, .inl (ic, 360, .inl f1)), (pq, .inl (pc, 120, .inr (.inl f2)))] := hD
  refine lv_iinc (v := 1) (lv' := [(1, .int 1), (0, .ref h0)]) hx hb dX9_text_83 hl (k := 0) rfl (by decide) (by decide) rfl (fun ls hl => ?_)
  refine lv_goto (tgt := 42) hx hb dX9_text_86 (by decide) ?_
  refine lv_iload_n hx hb dX9_text_42 rfl (lv_at hl 0 rfl) ?_
  refine lv_iconst (v := 4) hx hb dX9_text_43 (by decide) ?_
  refine lv_icmp_ge (tgt := 89) hx hb dX9_text_44 (by decide) (fun c => absurd c (by decide)) (fun _ => ?_)
  refine lv_aload_n hx hb dX9_text_47 rfl (lv_at hl 1 rfl) ?_
  refine lv_dup hx hb dX9_text_48 rfl ?_
  refine va_get (D := (dC, dI)) (ci := 7) (v := .int 0) (C := RX9) (T := TX9) (N := 28) hx hb hts inX9 hown hK hP 0 rfl rfl 23 (by decide) (hts _ (List.mem_of_getElem? (i := 7) rfl)) (fun _ h9 => h9) rfl dX9_text_49 ?_
  refine lv_aload_n hx hb dX9_text_52 rfl (lv_at hl 1 rfl) ?_
  refine va_get (D := (dC, dI)) (ci := 7) (v := .ref m0) (C := RX9) (T := TX9) (N := 28) hx hb hts inX9 hown hK hP 0 rfl rfl 0 (by decide) (hts _ (List.mem_of_getElem? (i := 4) rfl)) (fun _ h9 => h9) rfl dX9_text_53 ?_
  refine lv_bipush (v := 30) hx hb dX9_text_56 (by decide) ?_
  refine lv_iload_n hx hb dX9_text_58 rfl (lv_at hl 0 rfl) ?_
  refine lv_iadd hx hb dX9_text_59 ?_
  refine pp_ti (y := 31) (by decide) ?_
  refine va_iald hx hb hK hP 1 0 rfl rfl (vp_in_nI (n := 31) (by decide) (by decide)) dX9_text_60 ?_
  refine pp_ti (y := (-1)) ((hnf 31 (by decide)).trans (by decide)) ?_
  refine lv_if_ge (tgt := 68) hx hb dX9_text_61 (by decide) (fun c => absurd c (by decide)) (fun _ => ?_)
  refine lv_iconst (v := 0) hx hb dX9_text_64 (by decide) ?_
  refine lv_goto (tgt := 79) hx hb dX9_text_65 (by decide) ?_
  refine lv_ior hx hb dX9_text_79 ?_
  refine pp_ti (y := 0) (by decide) ?_
  refine va_put (D := (dC, dI)) (ci := 7) (v := .int 0) (ty := .int) (C := RX9) (T := TX9) (N := 28) hx hb hts inX9 tyX9 tyX9_ok nmX9 hown hK hP hD hS 0 rfl rfl 23 (by decide) (hts _ (List.mem_of_getElem? (i := 7) rfl)) (fun _ h9 => h9) rfl (by decide +kernel) rfl rfl (Nat.le_of_ble_eq_true rfl) dX9_text_80 (fun H locs hP hD hS => ?_)
  have hP : va_P (dC, dI) vwCl [(h0, .inr (7, [.ref m0, v1, v2, v3, v4, v5, v6, v7, v8, v9, v10, .int 0, v12, .int 0, v14, v15, .int 0, .ref kq, .ref iq, .ref pq, .int 0, .int 0, .int 0, .int 0, v24, v25, v26, v27])), (m0, .inl (mc0, 38, .inl nf)), (kq, .inl (kc, 6, .inr (.inr (.inr (.inr kf))))), (iq, .inl (ic, 360, .inl f1)), (pq, .inl (pc, 120, .inr (.inl f2)))] H := hP
  have hD : va_D A [(h0, .inr (7, [.ref m0, v1, v2, v3, v4, v5, v6, v7, v8, v9, v10, .int 0, v12, .int 0, v14, v15, .int 0, .ref kq, .ref iq, .ref pq, .int 0, .int 0, .int 0, .int 0, v24, v25, v26, v27])), (m0, .inl (mc0, 38, .inl nf)), (kq, .inl (kc, 6, .inr (.inr (.inr (.inr kf))))), (iq, .inl (ic, 360, .inl f1)), (pq, .inl (pc, 120, .inr (.inl f2)))] := hD
  refine lv_iinc (v := 2) (lv' := [(1, .int 2), (0, .ref h0)]) hx hb dX9_text_83 hl (k := 0) rfl (by decide) (by decide) rfl (fun ls hl => ?_)
  refine lv_goto (tgt := 42) hx hb dX9_text_86 (by decide) ?_
  refine lv_iload_n hx hb dX9_text_42 rfl (lv_at hl 0 rfl) ?_
  refine lv_iconst (v := 4) hx hb dX9_text_43 (by decide) ?_
  refine lv_icmp_ge (tgt := 89) hx hb dX9_text_44 (by decide) (fun c => absurd c (by decide)) (fun _ => ?_)
  refine lv_aload_n hx hb dX9_text_47 rfl (lv_at hl 1 rfl) ?_
  refine lv_dup hx hb dX9_text_48 rfl ?_
  refine va_get (D := (dC, dI)) (ci := 7) (v := .int 0) (C := RX9) (T := TX9) (N := 28) hx hb hts inX9 hown hK hP 0 rfl rfl 23 (by decide) (hts _ (List.mem_of_getElem? (i := 7) rfl)) (fun _ h9 => h9) rfl dX9_text_49 ?_
  refine lv_aload_n hx hb dX9_text_52 rfl (lv_at hl 1 rfl) ?_
  refine va_get (D := (dC, dI)) (ci := 7) (v := .ref m0) (C := RX9) (T := TX9) (N := 28) hx hb hts inX9 hown hK hP 0 rfl rfl 0 (by decide) (hts _ (List.mem_of_getElem? (i := 4) rfl)) (fun _ h9 => h9) rfl dX9_text_53 ?_
  refine lv_bipush (v := 30) hx hb dX9_text_56 (by decide) ?_
  refine lv_iload_n hx hb dX9_text_58 rfl (lv_at hl 0 rfl) ?_
  refine lv_iadd hx hb dX9_text_59 ?_
  refine pp_ti (y := 32) (by decide) ?_
  refine va_iald hx hb hK hP 1 0 rfl rfl (vp_in_nI (n := 32) (by decide) (by decide)) dX9_text_60 ?_
  refine pp_ti (y := (-1)) ((hnf 32 (by decide)).trans (by decide)) ?_
  refine lv_if_ge (tgt := 68) hx hb dX9_text_61 (by decide) (fun c => absurd c (by decide)) (fun _ => ?_)
  refine lv_iconst (v := 0) hx hb dX9_text_64 (by decide) ?_
  refine lv_goto (tgt := 79) hx hb dX9_text_65 (by decide) ?_
  refine lv_ior hx hb dX9_text_79 ?_
  refine pp_ti (y := 0) (by decide) ?_
  refine va_put (D := (dC, dI)) (ci := 7) (v := .int 0) (ty := .int) (C := RX9) (T := TX9) (N := 28) hx hb hts inX9 tyX9 tyX9_ok nmX9 hown hK hP hD hS 0 rfl rfl 23 (by decide) (hts _ (List.mem_of_getElem? (i := 7) rfl)) (fun _ h9 => h9) rfl (by decide +kernel) rfl rfl (Nat.le_of_ble_eq_true rfl) dX9_text_80 (fun H locs hP hD hS => ?_)
  have hP : va_P (dC, dI) vwCl [(h0, .inr (7, [.ref m0, v1, v2, v3, v4, v5, v6, v7, v8, v9, v10, .int 0, v12, .int 0, v14, v15, .int 0, .ref kq, .ref iq, .ref pq, .int 0, .int 0, .int 0, .int 0, v24, v25, v26, v27])), (m0, .inl (mc0, 38, .inl nf)), (kq, .inl (kc, 6, .inr (.inr (.inr (.inr kf))))), (iq, .inl (ic, 360, .inl f1)), (pq, .inl (pc, 120, .inr (.inl f2)))] H := hP
  have hD : va_D A [(h0, .inr (7, [.ref m0, v1, v2, v3, v4, v5, v6, v7, v8, v9, v10, .int 0, v12, .int 0, v14, v15, .int 0, .ref kq, .ref iq, .ref pq, .int 0, .int 0, .int 0, .int 0, v24, v25, v26, v27])), (m0, .inl (mc0, 38, .inl nf)), (kq, .inl (kc, 6, .inr (.inr (.inr (.inr kf))))), (iq, .inl (ic, 360, .inl f1)), (pq, .inl (pc, 120, .inr (.inl f2)))] := hD
  refine lv_iinc (v := 3) (lv' := [(1, .int 3), (0, .ref h0)]) hx hb dX9_text_83 hl (k := 0) rfl (by decide) (by decide) rfl (fun ls hl => ?_)
  refine lv_goto (tgt := 42) hx hb dX9_text_86 (by decide) ?_
  refine lv_iload_n hx hb dX9_text_42 rfl (lv_at hl 0 rfl) ?_
  refine lv_iconst (v := 4) hx hb dX9_text_43 (by decide) ?_
  refine lv_icmp_ge (tgt := 89) hx hb dX9_text_44 (by decide) (fun c => absurd c (by decide)) (fun _ => ?_)
  refine lv_aload_n hx hb dX9_text_47 rfl (lv_at hl 1 rfl) ?_
  refine lv_dup hx hb dX9_text_48 rfl ?_
  refine va_get (D := (dC, dI)) (ci := 7) (v := .int 0) (C := RX9) (T := TX9) (N := 28) hx hb hts inX9 hown hK hP 0 rfl rfl 23 (by decide) (hts _ (List.mem_of_getElem? (i := 7) rfl)) (fun _ h9 => h9) rfl dX9_text_49 ?_
  refine lv_aload_n hx hb dX9_text_52 rfl (lv_at hl 1 rfl) ?_
  refine va_get (D := (dC, dI)) (ci := 7) (v := .ref m0) (C := RX9) (T := TX9) (N := 28) hx hb hts inX9 hown hK hP 0 rfl rfl 0 (by decide) (hts _ (List.mem_of_getElem? (i := 4) rfl)) (fun _ h9 => h9) rfl dX9_text_53 ?_
  refine lv_bipush (v := 30) hx hb dX9_text_56 (by decide) ?_
  refine lv_iload_n hx hb dX9_text_58 rfl (lv_at hl 0 rfl) ?_
  refine lv_iadd hx hb dX9_text_59 ?_
  refine pp_ti (y := 33) (by decide) ?_
  refine va_iald hx hb hK hP 1 0 rfl rfl (vp_in_nI (n := 33) (by decide) (by decide)) dX9_text_60 ?_
  refine pp_ti (y := (-1)) ((hnf 33 (by decide)).trans (by decide)) ?_
  refine lv_if_ge (tgt := 68) hx hb dX9_text_61 (by decide) (fun c => absurd c (by decide)) (fun _ => ?_)
  refine lv_iconst (v := 0) hx hb dX9_text_64 (by decide) ?_
  refine lv_goto (tgt := 79) hx hb dX9_text_65 (by decide) ?_
  refine lv_ior hx hb dX9_text_79 ?_
  refine pp_ti (y := 0) (by decide) ?_
  refine va_put (D := (dC, dI)) (ci := 7) (v := .int 0) (ty := .int) (C := RX9) (T := TX9) (N := 28) hx hb hts inX9 tyX9 tyX9_ok nmX9 hown hK hP hD hS 0 rfl rfl 23 (by decide) (hts _ (List.mem_of_getElem? (i := 7) rfl)) (fun _ h9 => h9) rfl (by decide +kernel) rfl rfl (Nat.le_of_ble_eq_true rfl) dX9_text_80 (fun H locs hP hD hS => ?_)
  have hP : va_P (dC, dI) vwCl [(h0, .inr (7, [.ref m0, v1, v2, v3, v4, v5, v6, v7, v8, v9, v10, .int 0, v12, .int 0, v14, v15, .int 0, .ref kq, .ref iq, .ref pq, .int 0, .int 0, .int 0, .int 0, v24, v25, v26, v27])), (m0, .inl (mc0, 38, .inl nf)), (kq, .inl (kc, 6, .inr (.inr (.inr (.inr kf))))), (iq, .inl (ic, 360, .inl f1)), (pq, .inl (pc, 120, .inr (.inl f2)))] H := hP
  have hD : va_D A [(h0, .inr (7, [.ref m0, v1, v2, v3, v4, v5, v6, v7, v8, v9, v10, .int 0, v12, .int 0, v14, v15, .int 0, .ref kq, .ref iq, .ref pq, .int 0, .int 0, .int 0, .int 0, v24, v25, v26, v27])), (m0, .inl (mc0, 38, .inl nf)), (kq, .inl (kc, 6, .inr (.inr (.inr (.inr kf))))), (iq, .inl (ic, 360, .inl f1)), (pq, .inl (pc, 120, .inr (.inl f2)))] := hD
  refine lv_iinc (v := 4) (lv' := [(1, .int 4), (0, .ref h0)]) hx hb dX9_text_83 hl (k := 0) rfl (by decide) (by decide) rfl (fun ls hl => ?_)
  refine lv_goto (tgt := 42) hx hb dX9_text_86 (by decide) ?_
  refine lv_iload_n hx hb dX9_text_42 rfl (lv_at hl 0 rfl) ?_
  refine lv_iconst (v := 4) hx hb dX9_text_43 (by decide) ?_
  refine lv_icmp_ge (tgt := 89) hx hb dX9_text_44 (by decide) (fun _ => ?_) (fun c => absurd (by decide) c)
  refine lv_aload_n hx hb dX9_text_89 rfl (lv_at hl 1 rfl) ?_
  have hPc := hP.sub (ws' := [(h0, .inr (7, [.ref m0, v1, v2, v3, v4, v5, v6, v7, v8, v9, v10, .int 0, v12, .int 0, v14, v15, .int 0, .ref kq, .ref iq, .ref pq, .int 0, .int 0, .int 0, .int 0, v24, v25, v26, v27]))]) [0] rfl
  have hKc := hK.sub (tys' := []) [] rfl
  have hDc := hD.sub (ws' := [(h0, .inr (7, [.ref m0, v1, v2, v3, v4, v5, v6, v7, v8, v9, v10, .int 0, v12, .int 0, v14, v15, .int 0, .ref kq, .ref iq, .ref pq, .int 0, .int 0, .int 0, .int 0, v24, v25, v26, v27]))]) [0] (by decide) rfl
  have hFc := va_free (wc := [(h0, .inr (7, [.ref m0, v1, v2, v3, v4, v5, v6, v7, v8, v9, v10, .int 0, v12, .int 0, v14, v15, .int 0, .ref kq, .ref iq, .ref pq, .int 0, .int 0, .int 0, .int 0, v24, v25, v26, v27]))]) hD hS hA [0] rfl
  refine va_callv (va_runV (As := []) (rest := []) ⟨hx, hb, hml, hown, hts⟩ (m_next l dC dI ad h0 (.ref m0) v1 v2 v3 v4 v5 v6 v7 v8 v9 v10 v12 v14 v15 (.int 0) (.ref kq) (.ref iq) (.ref pq) (.int 0) (.int 0) (.int 0) (.int 0) v24 v25 v26 v27 H.size ) (cwV 0 hts g_y_text_m_next_221 rfl rfl rfl (by decide +kernel) ⟨(Nat.le_of_ble_eq_true rfl), (Nat.le_of_ble_eq_true rfl)⟩) ⟨preM_blind, va_recv hKc hPc (ci := 7) (q0 := 0) rfl rfl, fun U hU hW => ⟨rfl, preM_at hU hW hPc hKc hDc hev⟩⟩ rfl rfl hl.1 rfl (lv_room (Nat.le_of_ble_eq_true rfl)) dX9_text_90 ⟨(Nat.le_of_ble_eq_true rfl), (Nat.le_of_ble_eq_true rfl)⟩) hS (fun q _ h => hFc q h) hFc (fun u t H1 locs ht hvm hw hB hz1 hk1 hS => ?_)
  obtain ⟨hP1, hK1, hD1⟩ := hB
  rw [ht] at hP1
  have hK1 := va_K.moved hvm.symm hK1
  obtain ⟨hP, hD⟩ := va_join (wr := [(m0, .inl (mc0, 38, .inl nf)), (kq, .inl (kc, 6, .inr (.inr (.inr (.inr kf))))), (iq, .inl (ic, 360, .inl f1)), (pq, .inl (pc, 120, .inr (.inl f2)))]) (w1 := [(h0, .inr (7, [.ref m0, v1, v2, v3, v4, v5, v6, v7, v8, v9, v10, .int 0, .int 0, .int 0, .int 0, .int 0, .int 0, .ref kq, .ref iq, .ref pq, .int 0, .int 0, .int 0, .int 0, v24, v25, v26, v27]))]) hP hD [0] [1, 2, 3, 4] rfl rfl (by decide) (by decide) hk1 hFc hP1 hD1
  generalize H1 = H at hP hS ⊢
  have hP : va_P (dC, dI) vwCl [(m0, .inl (mc0, 38, .inl nf)), (kq, .inl (kc, 6, .inr (.inr (.inr (.inr kf))))), (iq, .inl (ic, 360, .inl f1)), (pq, .inl (pc, 120, .inr (.inl f2))), (h0, .inr (7, [.ref m0, v1, v2, v3, v4, v5, v6, v7, v8, v9, v10, .int 0, .int 0, .int 0, .int 0, .int 0, .int 0, .ref kq, .ref iq, .ref pq, .int 0, .int 0, .int 0, .int 0, v24, v25, v26, v27]))] H := hP
  have hD : va_D A [(m0, .inl (mc0, 38, .inl nf)), (kq, .inl (kc, 6, .inr (.inr (.inr (.inr kf))))), (iq, .inl (ic, 360, .inl f1)), (pq, .inl (pc, 120, .inr (.inl f2))), (h0, .inr (7, [.ref m0, v1, v2, v3, v4, v5, v6, v7, v8, v9, v10, .int 0, .int 0, .int 0, .int 0, .int 0, .int 0, .ref kq, .ref iq, .ref pq, .int 0, .int 0, .int 0, .int 0, v24, v25, v26, v27]))] := hD
  refine lv_aload_n hx hb dX9_text_93 rfl (lv_at hl 1 rfl) ?_
  have hPc := hP.sub (ws' := [(h0, .inr (7, [.ref m0, v1, v2, v3, v4, v5, v6, v7, v8, v9, v10, .int 0, .int 0, .int 0, .int 0, .int 0, .int 0, .ref kq, .ref iq, .ref pq, .int 0, .int 0, .int 0, .int 0, v24, v25, v26, v27])), (kq, .inl (kc, 6, .inr (.inr (.inr (.inr kf))))), (iq, .inl (ic, 360, .inl f1)), (pq, .inl (pc, 120, .inr (.inl f2)))]) [4, 1, 2, 3] rfl
  have hKc := hK.sub (tys' := [(kc, .object "java/lang/String"), (ic, .int), (pc, .long)]) [1, 2, 3] rfl
  have hDc := hD.sub (ws' := [(h0, .inr (7, [.ref m0, v1, v2, v3, v4, v5, v6, v7, v8, v9, v10, .int 0, .int 0, .int 0, .int 0, .int 0, .int 0, .ref kq, .ref iq, .ref pq, .int 0, .int 0, .int 0, .int 0, v24, v25, v26, v27])), (kq, .inl (kc, 6, .inr (.inr (.inr (.inr kf))))), (iq, .inl (ic, 360, .inl f1)), (pq, .inl (pc, 120, .inr (.inl f2)))]) [4, 1, 2, 3] (by decide) rfl
  have hFc := va_free (wc := [(h0, .inr (7, [.ref m0, v1, v2, v3, v4, v5, v6, v7, v8, v9, v10, .int 0, .int 0, .int 0, .int 0, .int 0, .int 0, .ref kq, .ref iq, .ref pq, .int 0, .int 0, .int 0, .int 0, v24, v25, v26, v27])), (kq, .inl (kc, 6, .inr (.inr (.inr (.inr kf))))), (iq, .inl (ic, 360, .inl f1)), (pq, .inl (pc, 120, .inr (.inl f2)))]) hD hS hA [4, 1, 2, 3] rfl
  refine va_callv (va_runV (As := []) (rest := []) ⟨hx, hb, hml, hown, hts⟩ (m_readItem l dC dI ad h0 (.ref m0) v1 v2 v3 v4 v5 v6 v7 v8 v9 v10 (.int 0) (.int 0) (.int 0) kq iq pq (.int 0) (.int 0) v24 v25 v26 v27 kc kf ic f1 pc f2 H.size hkf) (cwV 0 hts g_y_text_m_readItem_278 rfl rfl rfl (by decide +kernel) ⟨(Nat.le_of_ble_eq_true rfl), (Nat.le_of_ble_eq_true rfl)⟩) ⟨preT_blind, va_recv hKc hPc (ci := 7) (q0 := 0) rfl rfl, fun U hU hW => ⟨rfl, preM_at hU hW hPc hKc hDc hev, sf_at hsf hS hFc hU hW⟩⟩ rfl rfl hl.1 rfl (lv_room (Nat.le_of_ble_eq_true rfl)) dX9_text_94 ⟨(Nat.le_of_ble_eq_true rfl), (Nat.le_of_ble_eq_true rfl)⟩) hS (fun q _ h => hFc q h) hFc (fun u t H1 locs ht hvm hw hB hz1 hk1 hS => ?_)
  obtain ⟨hP1, hK1, hD1⟩ := hB
  rw [ht] at hP1
  have hK1 := va_K.moved hvm.symm hK1
  obtain ⟨hP, hD⟩ := va_join (wr := [(m0, .inl (mc0, 38, .inl nf))]) (w1 := [(h0, .inr (7, [.ref m0, v1, v2, v3, v4, v5, v6, v7, v8, v9, v10, .int 0, .int 0, .int 0, .int 0, .int 0, .int 1, .ref kq, .ref iq, .ref pq, .int 1, .int 0, .int 0, .int 0, v24, v25, v26, v27]))]) hP hD [4, 1, 2, 3] [0] rfl rfl (by decide) (by decide) hk1 hFc hP1 hD1
  generalize H1 = H at hP hS ⊢
  have hP : va_P (dC, dI) vwCl [(m0, .inl (mc0, 38, .inl nf)), (h0, .inr (7, [.ref m0, v1, v2, v3, v4, v5, v6, v7, v8, v9, v10, .int 0, .int 0, .int 0, .int 0, .int 0, .int 1, .ref kq, .ref iq, .ref pq, .int 1, .int 0, .int 0, .int 0, v24, v25, v26, v27]))] H := hP
  have hD : va_D A [(m0, .inl (mc0, 38, .inl nf)), (h0, .inr (7, [.ref m0, v1, v2, v3, v4, v5, v6, v7, v8, v9, v10, .int 0, .int 0, .int 0, .int 0, .int 0, .int 1, .ref kq, .ref iq, .ref pq, .int 1, .int 0, .int 0, .int 0, v24, v25, v26, v27]))] := hD
  refine lv_aload_n hx hb dX9_text_97 rfl (lv_at hl 1 rfl) ?_
  refine va_get (D := (dC, dI)) (ci := 7) (v := .int 1) (C := RX9) (T := TX9) (N := 28) hx hb hts inX9 hown hK hP 1 rfl rfl 16 (by decide) (hts _ (List.mem_of_getElem? (i := 2) rfl)) (fun _ h9 => h9) rfl dX9_text_98 ?_
  refine lv_if_ne (tgt := 138) hx hb dX9_text_101 (by decide) (fun _ => ?_) (fun c => absurd c (by decide))
  refine lv_aload_n hx hb dX9_text_138 rfl (lv_at hl 1 rfl) ?_
  refine lv_aload_n hx hb dX9_text_139 rfl (lv_at hl 1 rfl) ?_
  refine va_get (D := (dC, dI)) (ci := 7) (v := .int 0) (C := RX9) (T := TX9) (N := 28) hx hb hts inX9 hown hK hP 1 rfl rfl 14 (by decide) (hts _ (List.mem_of_getElem? (i := 20) rfl)) (fun _ h9 => h9) rfl dX9_text_140 ?_
  refine lv_if_ne (tgt := 150) hx hb dX9_text_143 (by decide) (fun c => absurd (by decide) c) (fun _ => ?_)
  refine lv_iconst (v := 1) hx hb dX9_text_146 (by decide) ?_
  refine lv_goto (tgt := 151) hx hb dX9_text_147 (by decide) ?_
  have hPc := hP.sub (ws' := [(h0, .inr (7, [.ref m0, v1, v2, v3, v4, v5, v6, v7, v8, v9, v10, .int 0, .int 0, .int 0, .int 0, .int 0, .int 1, .ref kq, .ref iq, .ref pq, .int 1, .int 0, .int 0, .int 0, v24, v25, v26, v27]))]) [1] rfl
  have hKc := hK.sub (tys' := []) [] rfl
  have hDc := hD.sub (ws' := [(h0, .inr (7, [.ref m0, v1, v2, v3, v4, v5, v6, v7, v8, v9, v10, .int 0, .int 0, .int 0, .int 0, .int 0, .int 1, .ref kq, .ref iq, .ref pq, .int 1, .int 0, .int 0, .int 0, v24, v25, v26, v27]))]) [1] (by decide) rfl
  have hFc := va_free (wc := [(h0, .inr (7, [.ref m0, v1, v2, v3, v4, v5, v6, v7, v8, v9, v10, .int 0, .int 0, .int 0, .int 0, .int 0, .int 1, .ref kq, .ref iq, .ref pq, .int 1, .int 0, .int 0, .int 0, v24, v25, v26, v27]))]) hD hS hA [1] rfl
  refine va_callv (va_runV (As := [.int 1]) (rest := []) ⟨hx, hb, hml, hown, hts⟩ (m_must_b l dC dI ad h0 1 (.ref m0) v1 v2 v3 v4 v5 v6 v7 v8 v9 v10 (.int 0) (.int 0) (.int 0) (.int 0) (.int 0) (.ref kq) (.ref iq) (.ref pq) (.int 1) (.int 0) (.int 0) (.int 0) v24 v25 v26 v27 H.size ) (cwV 1 hts g_y_text_m_must_b_224 rfl rfl rfl (by decide +kernel) ⟨(Nat.le_of_ble_eq_true rfl), (Nat.le_of_ble_eq_true rfl)⟩) ⟨preM_blind, va_recv hKc hPc (ci := 7) (q0 := 0) rfl rfl, fun U hU hW => ⟨rfl, preM_at hU hW hPc hKc hDc hev⟩⟩ rfl rfl hl.1 rfl (lv_room (Nat.le_of_ble_eq_true rfl)) dX9_text_151 ⟨(Nat.le_of_ble_eq_true rfl), (Nat.le_of_ble_eq_true rfl)⟩) hS (fun q _ h => hFc q h) hFc (fun u t H1 locs ht hvm hw hB hz1 hk1 hS => ?_)
  obtain ⟨hP1, hK1, hD1⟩ := hB
  rw [ht] at hP1
  have hK1 := va_K.moved hvm.symm hK1
  obtain ⟨hP, hD⟩ := va_join (wr := [(m0, .inl (mc0, 38, .inl nf))]) (w1 := [(h0, .inr (7, [.ref m0, v1, v2, v3, v4, v5, v6, v7, v8, v9, v10, .int 0, .int 0, .int 0, .int 0, .int 0, .int 1, .ref kq, .ref iq, .ref pq, .int 1, .int 0, .int 0, .int 0, v24, v25, v26, v27]))]) hP hD [1] [0] rfl rfl (by decide) (by decide) hk1 hFc hP1 hD1
  generalize H1 = H at hP hS ⊢
  have hP : va_P (dC, dI) vwCl [(m0, .inl (mc0, 38, .inl nf)), (h0, .inr (7, [.ref m0, v1, v2, v3, v4, v5, v6, v7, v8, v9, v10, .int 0, .int 0, .int 0, .int 0, .int 0, .int 1, .ref kq, .ref iq, .ref pq, .int 1, .int 0, .int 0, .int 0, v24, v25, v26, v27]))] H := hP
  have hD : va_D A [(m0, .inl (mc0, 38, .inl nf)), (h0, .inr (7, [.ref m0, v1, v2, v3, v4, v5, v6, v7, v8, v9, v10, .int 0, .int 0, .int 0, .int 0, .int 0, .int 1, .ref kq, .ref iq, .ref pq, .int 1, .int 0, .int 0, .int 0, v24, v25, v26, v27]))] := hD
  refine lv_aload_n hx hb dX9_text_154 rfl (lv_at hl 1 rfl) ?_
  refine lv_iconst (v := 0) hx hb dX9_text_155 (by decide) ?_
  refine va_put (D := (dC, dI)) (ci := 7) (v := .int 0) (ty := .int) (C := RX9) (T := TX9) (N := 28) hx hb hts inX9 tyX9 tyX9_ok nmX9 hown hK hP hD hS 1 rfl rfl 11 (by decide) (hts _ (List.mem_of_getElem? (i := 18) rfl)) (fun _ h9 => h9) rfl (by decide +kernel) rfl rfl (Nat.le_of_ble_eq_true rfl) dX9_text_156 (fun H locs hP hD hS => ?_)
  have hP : va_P (dC, dI) vwCl [(m0, .inl (mc0, 38, .inl nf)), (h0, .inr (7, [.ref m0, v1, v2, v3, v4, v5, v6, v7, v8, v9, v10, .int 0, .int 0, .int 0, .int 0, .int 0, .int 1, .ref kq, .ref iq, .ref pq, .int 1, .int 0, .int 0, .int 0, v24, v25, v26, v27]))] H := hP
  have hD : va_D A [(m0, .inl (mc0, 38, .inl nf)), (h0, .inr (7, [.ref m0, v1, v2, v3, v4, v5, v6, v7, v8, v9, v10, .int 0, .int 0, .int 0, .int 0, .int 0, .int 1, .ref kq, .ref iq, .ref pq, .int 1, .int 0, .int 0, .int 0, v24, v25, v26, v27]))] := hD
  refine lv_aload_n hx hb dX9_text_159 rfl (lv_at hl 1 rfl) ?_
  refine va_get (D := (dC, dI)) (ci := 7) (v := .int 1) (C := RX9) (T := TX9) (N := 28) hx hb hts inX9 hown hK hP 1 rfl rfl 16 (by decide) (hts _ (List.mem_of_getElem? (i := 2) rfl)) (fun _ h9 => h9) rfl dX9_text_160 ?_
  refine lv_if_eq (tgt := 173) hx hb dX9_text_163 (by decide) (fun c => absurd c (by decide)) (fun _ => ?_)
  refine lv_iconst (v := (-1)) hx hb dX9_text_166 (by decide) ?_
  refine lv_aload_n hx hb dX9_text_167 rfl (lv_at hl 1 rfl) ?_
  refine va_get (D := (dC, dI)) (ci := 7) (v := .int 0) (C := RX9) (T := TX9) (N := 28) hx hb hts inX9 hown hK hP 1 rfl rfl 12 (by decide) (hts _ (List.mem_of_getElem? (i := 13) rfl)) (fun _ h9 => h9) rfl dX9_text_168 ?_
  refine lv_isub hx hb dX9_text_171 ?_
  refine pp_ti (y := (-1)) (by decide) ?_
  exact W.iret (v := (-1)) hx hb hr (fun t ht hW => ⟨⟨(-1), (), rfl, rfl, trivial⟩, hS.F ht⟩) hS.2.2 dX9_text_172

def w_m_dropAll : List Cond := .code yX9_dropAll cX9_dropAll 2 none :: (([.fieldLink RX9 9 "LampShapesModel" "now" "[I"] : List Cond) ++ wsX90)
set_option maxHeartbeats 4000000 in
set_option maxRecDepth 100000 in
theorem m_dropAll (l : Launch) (dC : Nat → ClassId) (dI : Nat → Nat → Nat) (ad : Nat → Nat) (h0 : Nat) (m0 : Nat) (v1 : Value) (v2 : Value) (v3 : Value) (v4 : Value) (v5 : Value) (v6 : Value) (v7 : Value) (v8 : Value) (v9 : Value) (v10 : Value) (v11 : Value) (v12 : Value) (v13 : Value) (v14 : Value) (v15 : Value) (v16 : Value) (v17 : Value) (v18 : Value) (v19 : Value) (v20 : Value) (v21 : Value) (v22 : Value) (v23 : Value) (v24 : Value) (v25 : Value) (v26 : Value) (v27 : Value) (mc0 : ClassId) (nf0 : Nat → Int32) (sz : Nat) : Met l yX9_dropAll w_m_dropAll ({ frames := 0, cells := 0, slots := 0, locals := 0 } : Room) (va_Pc [.ref h0] (preM dC dI ad [(mc0, .int)] [(h0, .inr (7, [.ref m0, v1, v2, v3, v4, v5, v6, v7, v8, v9, v10, v11, v12, v13, v14, v15, v16, v17, v18, v19, v20, v21, v22, v23, v24, v25, v26, v27])), (m0, .inl (mc0, 38, .inl nf0))] sz)) (va_Qv (fun (_ : Unit) => True) (fun _ t => ∃ (nf : Nat → Int32), (∀ j, j < 38 → nf j = (if 30 ≤ j then (-1) else nf0 j)) ∧ va_P (dC, dI) vwCl [(h0, .inr (7, [.ref m0, v1, v2, v3, v4, v5, v6, v7, v8, v9, v10, v11, v12, v13, v14, v15, v16, v17, v18, v19, v20, v21, v22, v23, v24, v25, v26, v27])), (m0, .inl (mc0, 38, .inl nf))] t.heap ∧ va_K (dC, dI) vwCl [(mc0, .int)] t ∧ va_D (va_A [(h0, .inr (7, [.ref m0, v1, v2, v3, v4, v5, v6, v7, v8, v9, v10, v11, v12, v13, v14, v15, v16, v17, v18, v19, v20, v21, v22, v23, v24, v25, v26, v27])), (m0, .inl (mc0, 38, .inl nf0))] sz) [(h0, .inr (7, [.ref m0, v1, v2, v3, v4, v5, v6, v7, v8, v9, v10, v11, v12, v13, v14, v15, v16, v17, v18, v19, v20, v21, v22, v23, v24, v25, v26, v27])), (m0, .inl (mc0, 38, .inl nf))]) (va_A [(h0, .inr (7, [.ref m0, v1, v2, v3, v4, v5, v6, v7, v8, v9, v10, v11, v12, v13, v14, v15, v16, v17, v18, v19, v20, v21, v22, v23, v24, v25, v26, v27])), (m0, .inl (mc0, 38, .inl nf0))] sz)) 0 0 (va_A [(h0, .inr (7, [.ref m0, v1, v2, v3, v4, v5, v6, v7, v8, v9, v10, v11, v12, v13, v14, v15, v16, v17, v18, v19, v20, v21, v22, v23, v24, v25, v26, v27])), (m0, .inl (mc0, 38, .inl nf0))] sz) := by
  refine Met.ofW (cc := cX9_dropAll) (maxL := 2) (ret := none) (by decide) rfl ?_
  intro p e s m args below meth c s₁ B hml hv
  obtain ⟨rfl, hsz, hP, hK, hD0, hev⟩ := hv
  have hx := B.exec
  have hb := B.bytes
  have hr := B.returns
  have hts := atoms_spec (ws := w_m_dropAll) B.pre
  have hown : s.vm.findClass RX9 = some m.cls := findClass_of_methodNamed B.named
  have hlocks := B.notSynchronized
  have inX9 : ∀ w ∈ wsX90, w ∈ w_m_dropAll := fun w h => List.mem_cons_of_mem _ (List.mem_append_right _ h)
  subst hsz
  have hD := hD0.self (sz := s.heap.size)
  generalize hAe : va_A [(h0, .inr (7, [.ref m0, v1, v2, v3, v4, v5, v6, v7, v8, v9, v10, v11, v12, v13, v14, v15, v16, v17, v18, v19, v20, v21, v22, v23, v24, v25, v26, v27])), (m0, .inl (mc0, 38, .inl nf0))] s.heap.size = A at hD ⊢
  have hA : ∀ q : Nat, s.heap.size ≤ q → A q := fun q h => by rw [← hAe]; exact Or.inr h
  have hS : va_S A s.heap s.heap [] := va_S.rf
  have hP : va_P (dC, dI) vwCl [(h0, .inr (7, [.ref m0, v1, v2, v3, v4, v5, v6, v7, v8, v9, v10, v11, v12, v13, v14, v15, v16, v17, v18, v19, v20, v21, v22, v23, v24, v25, v26, v27])), (m0, .inl (mc0, 38, .inl nf0))] s.heap := hP
  have hl := lv_entry ([.ref h0]) (n := 2) (Nat.le_of_ble_eq_true rfl)
  rw [lg_entry_eq]
  generalize (lg_sl ([.ref h0]) ++ List.replicate (2 - (lg_sl ([.ref h0])).length) Slot.unset).toArray = ls at hl ⊢
  have hl : lv_has ls 2 [(0, .ref h0)] := hl
  refine lv_iconst (v := 0) hx hb dX9_dropAll_0 (by decide) ?_
  refine lv_istore_n (lv' := [(1, .int 0), (0, .ref h0)]) hx hb dX9_dropAll_1 rfl hl (by decide) rfl (fun ls hl => ?_)
  refine lv_iload_n hx hb dX9_dropAll_2 rfl (lv_at hl 0 rfl) ?_
  refine lv_iconst (v := 4) hx hb dX9_dropAll_3 (by decide) ?_
  refine lv_icmp_ge (tgt := 33) hx hb dX9_dropAll_4 (by decide) (fun c => absurd c (by decide)) (fun _ => ?_)
  refine lv_aload_n hx hb dX9_dropAll_7 rfl (lv_at hl 1 rfl) ?_
  refine va_get (D := (dC, dI)) (ci := 7) (v := .ref m0) (C := RX9) (T := TX9) (N := 28) hx hb hts inX9 hown hK hP 0 rfl rfl 0 (by decide) (hts _ (List.mem_of_getElem? (i := 1) rfl)) (fun _ h9 => h9) rfl dX9_dropAll_8 ?_
  refine lv_bipush (v := 30) hx hb dX9_dropAll_11 (by decide) ?_
  refine lv_iload_n hx hb dX9_dropAll_13 rfl (lv_at hl 0 rfl) ?_
  refine lv_iadd hx hb dX9_dropAll_14 ?_
  refine pp_ti (y := 30) (by decide) ?_
  refine lv_iconst (v := (-1)) hx hb dX9_dropAll_15 (by decide) ?_
  refine va_iast hx hb hK hP hD hS 1 0 rfl rfl (vp_in_nI (n := 30) (by decide) (by decide)) dX9_dropAll_16 (fun H locs hP hD hS => ?_)
  have hP : va_P (dC, dI) vwCl [(h0, .inr (7, [.ref m0, v1, v2, v3, v4, v5, v6, v7, v8, v9, v10, v11, v12, v13, v14, v15, v16, v17, v18, v19, v20, v21, v22, v23, v24, v25, v26, v27])), (m0, .inl (mc0, 38, .inl (upd nf0 30 (-1))))] H := hP
  have hD : va_D A [(h0, .inr (7, [.ref m0, v1, v2, v3, v4, v5, v6, v7, v8, v9, v10, v11, v12, v13, v14, v15, v16, v17, v18, v19, v20, v21, v22, v23, v24, v25, v26, v27])), (m0, .inl (mc0, 38, .inl (upd nf0 30 (-1))))] := hD
  refine lv_aload_n hx hb dX9_dropAll_17 rfl (lv_at hl 1 rfl) ?_
  refine va_get (D := (dC, dI)) (ci := 7) (v := .ref m0) (C := RX9) (T := TX9) (N := 28) hx hb hts inX9 hown hK hP 0 rfl rfl 0 (by decide) (hts _ (List.mem_of_getElem? (i := 1) rfl)) (fun _ h9 => h9) rfl dX9_dropAll_18 ?_
  refine lv_bipush (v := 34) hx hb dX9_dropAll_21 (by decide) ?_
  refine lv_iload_n hx hb dX9_dropAll_23 rfl (lv_at hl 0 rfl) ?_
  refine lv_iadd hx hb dX9_dropAll_24 ?_
  refine pp_ti (y := 34) (by decide) ?_
  refine lv_iconst (v := (-1)) hx hb dX9_dropAll_25 (by decide) ?_
  refine va_iast hx hb hK hP hD hS 1 0 rfl rfl (vp_in_nI (n := 34) (by decide) (by decide)) dX9_dropAll_26 (fun H locs hP hD hS => ?_)
  have hP : va_P (dC, dI) vwCl [(h0, .inr (7, [.ref m0, v1, v2, v3, v4, v5, v6, v7, v8, v9, v10, v11, v12, v13, v14, v15, v16, v17, v18, v19, v20, v21, v22, v23, v24, v25, v26, v27])), (m0, .inl (mc0, 38, .inl (upd (upd nf0 30 (-1)) 34 (-1))))] H := hP
  have hD : va_D A [(h0, .inr (7, [.ref m0, v1, v2, v3, v4, v5, v6, v7, v8, v9, v10, v11, v12, v13, v14, v15, v16, v17, v18, v19, v20, v21, v22, v23, v24, v25, v26, v27])), (m0, .inl (mc0, 38, .inl (upd (upd nf0 30 (-1)) 34 (-1))))] := hD
  refine lv_iinc (v := 1) (lv' := [(1, .int 1), (0, .ref h0)]) hx hb dX9_dropAll_27 hl (k := 0) rfl (by decide) (by decide) rfl (fun ls hl => ?_)
  refine lv_goto (tgt := 2) hx hb dX9_dropAll_30 (by decide) ?_
  refine lv_iload_n hx hb dX9_dropAll_2 rfl (lv_at hl 0 rfl) ?_
  refine lv_iconst (v := 4) hx hb dX9_dropAll_3 (by decide) ?_
  refine lv_icmp_ge (tgt := 33) hx hb dX9_dropAll_4 (by decide) (fun c => absurd c (by decide)) (fun _ => ?_)
  refine lv_aload_n hx hb dX9_dropAll_7 rfl (lv_at hl 1 rfl) ?_
  refine va_get (D := (dC, dI)) (ci := 7) (v := .ref m0) (C := RX9) (T := TX9) (N := 28) hx hb hts inX9 hown hK hP 0 rfl rfl 0 (by decide) (hts _ (List.mem_of_getElem? (i := 1) rfl)) (fun _ h9 => h9) rfl dX9_dropAll_8 ?_
  refine lv_bipush (v := 30) hx hb dX9_dropAll_11 (by decide) ?_
  refine lv_iload_n hx hb dX9_dropAll_13 rfl (lv_at hl 0 rfl) ?_
  refine lv_iadd hx hb dX9_dropAll_14 ?_
  refine pp_ti (y := 31) (by decide) ?_
  refine lv_iconst (v := (-1)) hx hb dX9_dropAll_15 (by decide) ?_
  refine va_iast hx hb hK hP hD hS 1 0 rfl rfl (vp_in_nI (n := 31) (by decide) (by decide)) dX9_dropAll_16 (fun H locs hP hD hS => ?_)
  have hP : va_P (dC, dI) vwCl [(h0, .inr (7, [.ref m0, v1, v2, v3, v4, v5, v6, v7, v8, v9, v10, v11, v12, v13, v14, v15, v16, v17, v18, v19, v20, v21, v22, v23, v24, v25, v26, v27])), (m0, .inl (mc0, 38, .inl (upd (upd (upd nf0 30 (-1)) 34 (-1)) 31 (-1))))] H := hP
  have hD : va_D A [(h0, .inr (7, [.ref m0, v1, v2, v3, v4, v5, v6, v7, v8, v9, v10, v11, v12, v13, v14, v15, v16, v17, v18, v19, v20, v21, v22, v23, v24, v25, v26, v27])), (m0, .inl (mc0, 38, .inl (upd (upd (upd nf0 30 (-1)) 34 (-1)) 31 (-1))))] := hD
  refine lv_aload_n hx hb dX9_dropAll_17 rfl (lv_at hl 1 rfl) ?_
  refine va_get (D := (dC, dI)) (ci := 7) (v := .ref m0) (C := RX9) (T := TX9) (N := 28) hx hb hts inX9 hown hK hP 0 rfl rfl 0 (by decide) (hts _ (List.mem_of_getElem? (i := 1) rfl)) (fun _ h9 => h9) rfl dX9_dropAll_18 ?_
  refine lv_bipush (v := 34) hx hb dX9_dropAll_21 (by decide) ?_
  refine lv_iload_n hx hb dX9_dropAll_23 rfl (lv_at hl 0 rfl) ?_
  refine lv_iadd hx hb dX9_dropAll_24 ?_
  refine pp_ti (y := 35) (by decide) ?_
  refine lv_iconst (v := (-1)) hx hb dX9_dropAll_25 (by decide) ?_
  refine va_iast hx hb hK hP hD hS 1 0 rfl rfl (vp_in_nI (n := 35) (by decide) (by decide)) dX9_dropAll_26 (fun H locs hP hD hS => ?_)
  have hP : va_P (dC, dI) vwCl [(h0, .inr (7, [.ref m0, v1, v2, v3, v4, v5, v6, v7, v8, v9, v10, v11, v12, v13, v14, v15, v16, v17, v18, v19, v20, v21, v22, v23, v24, v25, v26, v27])), (m0, .inl (mc0, 38, .inl (upd (upd (upd (upd nf0 30 (-1)) 34 (-1)) 31 (-1)) 35 (-1))))] H := hP
  have hD : va_D A [(h0, .inr (7, [.ref m0, v1, v2, v3, v4, v5, v6, v7, v8, v9, v10, v11, v12, v13, v14, v15, v16, v17, v18, v19, v20, v21, v22, v23, v24, v25, v26, v27])), (m0, .inl (mc0, 38, .inl (upd (upd (upd (upd nf0 30 (-1)) 34 (-1)) 31 (-1)) 35 (-1))))] := hD
  refine lv_iinc (v := 2) (lv' := [(1, .int 2), (0, .ref h0)]) hx hb dX9_dropAll_27 hl (k := 0) rfl (by decide) (by decide) rfl (fun ls hl => ?_)
  refine lv_goto (tgt := 2) hx hb dX9_dropAll_30 (by decide) ?_
  refine lv_iload_n hx hb dX9_dropAll_2 rfl (lv_at hl 0 rfl) ?_
  refine lv_iconst (v := 4) hx hb dX9_dropAll_3 (by decide) ?_
  refine lv_icmp_ge (tgt := 33) hx hb dX9_dropAll_4 (by decide) (fun c => absurd c (by decide)) (fun _ => ?_)
  refine lv_aload_n hx hb dX9_dropAll_7 rfl (lv_at hl 1 rfl) ?_
  refine va_get (D := (dC, dI)) (ci := 7) (v := .ref m0) (C := RX9) (T := TX9) (N := 28) hx hb hts inX9 hown hK hP 0 rfl rfl 0 (by decide) (hts _ (List.mem_of_getElem? (i := 1) rfl)) (fun _ h9 => h9) rfl dX9_dropAll_8 ?_
  refine lv_bipush (v := 30) hx hb dX9_dropAll_11 (by decide) ?_
  refine lv_iload_n hx hb dX9_dropAll_13 rfl (lv_at hl 0 rfl) ?_
  refine lv_iadd hx hb dX9_dropAll_14 ?_
  refine pp_ti (y := 32) (by decide) ?_
  refine lv_iconst (v := (-1)) hx hb dX9_dropAll_15 (by decide) ?_
  refine va_iast hx hb hK hP hD hS 1 0 rfl rfl (vp_in_nI (n := 32) (by decide) (by decide)) dX9_dropAll_16 (fun H locs hP hD hS => ?_)
  have hP : va_P (dC, dI) vwCl [(h0, .inr (7, [.ref m0, v1, v2, v3, v4, v5, v6, v7, v8, v9, v10, v11, v12, v13, v14, v15, v16, v17, v18, v19, v20, v21, v22, v23, v24, v25, v26, v27])), (m0, .inl (mc0, 38, .inl (upd (upd (upd (upd (upd nf0 30 (-1)) 34 (-1)) 31 (-1)) 35 (-1)) 32 (-1))))] H := hP
  have hD : va_D A [(h0, .inr (7, [.ref m0, v1, v2, v3, v4, v5, v6, v7, v8, v9, v10, v11, v12, v13, v14, v15, v16, v17, v18, v19, v20, v21, v22, v23, v24, v25, v26, v27])), (m0, .inl (mc0, 38, .inl (upd (upd (upd (upd (upd nf0 30 (-1)) 34 (-1)) 31 (-1)) 35 (-1)) 32 (-1))))] := hD
  refine lv_aload_n hx hb dX9_dropAll_17 rfl (lv_at hl 1 rfl) ?_
  refine va_get (D := (dC, dI)) (ci := 7) (v := .ref m0) (C := RX9) (T := TX9) (N := 28) hx hb hts inX9 hown hK hP 0 rfl rfl 0 (by decide) (hts _ (List.mem_of_getElem? (i := 1) rfl)) (fun _ h9 => h9) rfl dX9_dropAll_18 ?_
  refine lv_bipush (v := 34) hx hb dX9_dropAll_21 (by decide) ?_
  refine lv_iload_n hx hb dX9_dropAll_23 rfl (lv_at hl 0 rfl) ?_
  refine lv_iadd hx hb dX9_dropAll_24 ?_
  refine pp_ti (y := 36) (by decide) ?_
  refine lv_iconst (v := (-1)) hx hb dX9_dropAll_25 (by decide) ?_
  refine va_iast hx hb hK hP hD hS 1 0 rfl rfl (vp_in_nI (n := 36) (by decide) (by decide)) dX9_dropAll_26 (fun H locs hP hD hS => ?_)
  have hP : va_P (dC, dI) vwCl [(h0, .inr (7, [.ref m0, v1, v2, v3, v4, v5, v6, v7, v8, v9, v10, v11, v12, v13, v14, v15, v16, v17, v18, v19, v20, v21, v22, v23, v24, v25, v26, v27])), (m0, .inl (mc0, 38, .inl (upd (upd (upd (upd (upd (upd nf0 30 (-1)) 34 (-1)) 31 (-1)) 35 (-1)) 32 (-1)) 36 (-1))))] H := hP
  have hD : va_D A [(h0, .inr (7, [.ref m0, v1, v2, v3, v4, v5, v6, v7, v8, v9, v10, v11, v12, v13, v14, v15, v16, v17, v18, v19, v20, v21, v22, v23, v24, v25, v26, v27])), (m0, .inl (mc0, 38, .inl (upd (upd (upd (upd (upd (upd nf0 30 (-1)) 34 (-1)) 31 (-1)) 35 (-1)) 32 (-1)) 36 (-1))))] := hD
  refine lv_iinc (v := 3) (lv' := [(1, .int 3), (0, .ref h0)]) hx hb dX9_dropAll_27 hl (k := 0) rfl (by decide) (by decide) rfl (fun ls hl => ?_)
  refine lv_goto (tgt := 2) hx hb dX9_dropAll_30 (by decide) ?_
  refine lv_iload_n hx hb dX9_dropAll_2 rfl (lv_at hl 0 rfl) ?_
  refine lv_iconst (v := 4) hx hb dX9_dropAll_3 (by decide) ?_
  refine lv_icmp_ge (tgt := 33) hx hb dX9_dropAll_4 (by decide) (fun c => absurd c (by decide)) (fun _ => ?_)
  refine lv_aload_n hx hb dX9_dropAll_7 rfl (lv_at hl 1 rfl) ?_
  refine va_get (D := (dC, dI)) (ci := 7) (v := .ref m0) (C := RX9) (T := TX9) (N := 28) hx hb hts inX9 hown hK hP 0 rfl rfl 0 (by decide) (hts _ (List.mem_of_getElem? (i := 1) rfl)) (fun _ h9 => h9) rfl dX9_dropAll_8 ?_
  refine lv_bipush (v := 30) hx hb dX9_dropAll_11 (by decide) ?_
  refine lv_iload_n hx hb dX9_dropAll_13 rfl (lv_at hl 0 rfl) ?_
  refine lv_iadd hx hb dX9_dropAll_14 ?_
  refine pp_ti (y := 33) (by decide) ?_
  refine lv_iconst (v := (-1)) hx hb dX9_dropAll_15 (by decide) ?_
  refine va_iast hx hb hK hP hD hS 1 0 rfl rfl (vp_in_nI (n := 33) (by decide) (by decide)) dX9_dropAll_16 (fun H locs hP hD hS => ?_)
  have hP : va_P (dC, dI) vwCl [(h0, .inr (7, [.ref m0, v1, v2, v3, v4, v5, v6, v7, v8, v9, v10, v11, v12, v13, v14, v15, v16, v17, v18, v19, v20, v21, v22, v23, v24, v25, v26, v27])), (m0, .inl (mc0, 38, .inl (upd (upd (upd (upd (upd (upd (upd nf0 30 (-1)) 34 (-1)) 31 (-1)) 35 (-1)) 32 (-1)) 36 (-1)) 33 (-1))))] H := hP
  have hD : va_D A [(h0, .inr (7, [.ref m0, v1, v2, v3, v4, v5, v6, v7, v8, v9, v10, v11, v12, v13, v14, v15, v16, v17, v18, v19, v20, v21, v22, v23, v24, v25, v26, v27])), (m0, .inl (mc0, 38, .inl (upd (upd (upd (upd (upd (upd (upd nf0 30 (-1)) 34 (-1)) 31 (-1)) 35 (-1)) 32 (-1)) 36 (-1)) 33 (-1))))] := hD
  refine lv_aload_n hx hb dX9_dropAll_17 rfl (lv_at hl 1 rfl) ?_
  refine va_get (D := (dC, dI)) (ci := 7) (v := .ref m0) (C := RX9) (T := TX9) (N := 28) hx hb hts inX9 hown hK hP 0 rfl rfl 0 (by decide) (hts _ (List.mem_of_getElem? (i := 1) rfl)) (fun _ h9 => h9) rfl dX9_dropAll_18 ?_
  refine lv_bipush (v := 34) hx hb dX9_dropAll_21 (by decide) ?_
  refine lv_iload_n hx hb dX9_dropAll_23 rfl (lv_at hl 0 rfl) ?_
  refine lv_iadd hx hb dX9_dropAll_24 ?_
  refine pp_ti (y := 37) (by decide) ?_
  refine lv_iconst (v := (-1)) hx hb dX9_dropAll_25 (by decide) ?_
  refine va_iast hx hb hK hP hD hS 1 0 rfl rfl (vp_in_nI (n := 37) (by decide) (by decide)) dX9_dropAll_26 (fun H locs hP hD hS => ?_)
  have hP : va_P (dC, dI) vwCl [(h0, .inr (7, [.ref m0, v1, v2, v3, v4, v5, v6, v7, v8, v9, v10, v11, v12, v13, v14, v15, v16, v17, v18, v19, v20, v21, v22, v23, v24, v25, v26, v27])), (m0, .inl (mc0, 38, .inl (upd (upd (upd (upd (upd (upd (upd (upd nf0 30 (-1)) 34 (-1)) 31 (-1)) 35 (-1)) 32 (-1)) 36 (-1)) 33 (-1)) 37 (-1))))] H := hP
  have hD : va_D A [(h0, .inr (7, [.ref m0, v1, v2, v3, v4, v5, v6, v7, v8, v9, v10, v11, v12, v13, v14, v15, v16, v17, v18, v19, v20, v21, v22, v23, v24, v25, v26, v27])), (m0, .inl (mc0, 38, .inl (upd (upd (upd (upd (upd (upd (upd (upd nf0 30 (-1)) 34 (-1)) 31 (-1)) 35 (-1)) 32 (-1)) 36 (-1)) 33 (-1)) 37 (-1))))] := hD
  refine lv_iinc (v := 4) (lv' := [(1, .int 4), (0, .ref h0)]) hx hb dX9_dropAll_27 hl (k := 0) rfl (by decide) (by decide) rfl (fun ls hl => ?_)
  refine lv_goto (tgt := 2) hx hb dX9_dropAll_30 (by decide) ?_
  refine lv_iload_n hx hb dX9_dropAll_2 rfl (lv_at hl 0 rfl) ?_
  refine lv_iconst (v := 4) hx hb dX9_dropAll_3 (by decide) ?_
  refine lv_icmp_ge (tgt := 33) hx hb dX9_dropAll_4 (by decide) (fun _ => ?_) (fun c => absurd (by decide) c)
  have hP9 := hP.sub (ws' := [(h0, .inr (7, [.ref m0, v1, v2, v3, v4, v5, v6, v7, v8, v9, v10, v11, v12, v13, v14, v15, v16, v17, v18, v19, v20, v21, v22, v23, v24, v25, v26, v27])), (m0, .inl (mc0, 38, .inl (upd (upd (upd (upd (upd (upd (upd (upd nf0 30 (-1)) 34 (-1)) 31 (-1)) 35 (-1)) 32 (-1)) 36 (-1)) 33 (-1)) 37 (-1))))]) [0, 1] rfl
  have hD9 := hD.sub (ws' := [(h0, .inr (7, [.ref m0, v1, v2, v3, v4, v5, v6, v7, v8, v9, v10, v11, v12, v13, v14, v15, v16, v17, v18, v19, v20, v21, v22, v23, v24, v25, v26, v27])), (m0, .inl (mc0, 38, .inl (upd (upd (upd (upd (upd (upd (upd (upd nf0 30 (-1)) 34 (-1)) 31 (-1)) 35 (-1)) 32 (-1)) 36 (-1)) 33 (-1)) 37 (-1))))]) [0, 1] (by decide) rfl
  have hK9 := hK.sub (tys' := [(mc0, .int)]) [0] rfl
  exact W.vret hx hb hr (fun t ht hW => ⟨⟨(), rfl, trivial, upd (upd (upd (upd (upd (upd (upd (upd nf0 30 (-1)) 34 (-1)) 31 (-1)) 35 (-1)) 32 (-1)) 36 (-1)) 33 (-1)) 37 (-1), (fun j hj => by match j, hj with | 0, _ => exact rfl | 1, _ => exact rfl | 2, _ => exact rfl | 3, _ => exact rfl | 4, _ => exact rfl | 5, _ => exact rfl | 6, _ => exact rfl | 7, _ => exact rfl | 8, _ => exact rfl | 9, _ => exact rfl | 10, _ => exact rfl | 11, _ => exact rfl | 12, _ => exact rfl | 13, _ => exact rfl | 14, _ => exact rfl | 15, _ => exact rfl | 16, _ => exact rfl | 17, _ => exact rfl | 18, _ => exact rfl | 19, _ => exact rfl | 20, _ => exact rfl | 21, _ => exact rfl | 22, _ => exact rfl | 23, _ => exact rfl | 24, _ => exact rfl | 25, _ => exact rfl | 26, _ => exact rfl | 27, _ => exact rfl | 28, _ => exact rfl | 29, _ => exact rfl | 30, _ => exact rfl | 31, _ => exact rfl | 32, _ => exact rfl | 33, _ => exact rfl | 34, _ => exact rfl | 35, _ => exact rfl | 36, _ => exact rfl | 37, _ => exact rfl | (j + 38), hj => omega), by rw [ht]; exact hP9, va_K.moved hW.alike hK9, hD9⟩, hS.F ht⟩) hS.2.2 dX9_dropAll_33

def w_c_X9_init : List Cond := .code yX9_init cX9_init 1 none :: (([.methodLink RX9 1 objectInit, .instanceMethod objectInit, .code objectInit ⟨#[0xb1]⟩ 1 none, .arrayClass .int, .fieldLink RX9 9 "LampShapesModel" "now" "[I", .fieldLink RX9 13 "LampShapesModel" "kept" "[I", .arrayClass .long, .fieldLink RX9 16 "LampShapesModel" "pictures" "[J", .fieldLink RX9 20 "LampShapesModel" "keptPictures" "[J", .fieldLink RX9 23 "LampShapesModel" "found" "[I", .fieldLink RX9 26 "LampShapesModel" "row" "[I", .fieldLink RX9 29 "LampShapesModel" "bestRow" "[I", .fieldLink RX9 32 "LampShapesModel" "tape" "[I", .classLink RX9 35 RJ0, .fieldLink RX9 49 "LampShapesModel" "kinds" "[Ljava/lang/String;", .fieldLink RX9 53 "LampShapesModel" "items" "[I", .fieldLink RX9 56 "LampShapesModel" "itemPictures" "[J", .fieldLink RX9 59 "LampShapesModel" "widths" "[I", .fieldLink RX9 62 "LampShapesModel" "sizes" "[I", .fieldLink RX9 65 "LampShapesModel" "numbers" "[J", .fieldLink RX9 68 "LampShapesModel" "moved" "[J", .methodLink RX9 71 yX9_dropAll, .instanceMethod yX9_dropAll, .selects RX9 yX9_dropAll yX9_dropAll, .initialized RX9, .code yX9_dropAll cX9_dropAll 2 none] : List Cond) ++ wsX90)
set_option maxRecDepth 20000 in
theorem g_c_X9_init_m_dropAll_71 : GoodIn w_c_X9_init (wsV RX9 71 RX9 yX9_dropAll w_m_dropAll) := goodIn_r _ [22, 23, 24, 25, 26, 5, 27, 28, 29, 30, 31, 32, 33, 34, 35, 36, 37, 38, 39, 40, 41, 42, 43, 44, 45, 46, 47, 48, 49, 50, 51, 52, 53, 54] rfl (by decide +kernel)
set_option maxHeartbeats 4000000 in
set_option maxRecDepth 100000 in
/-- LampShapesModel() -/
theorem c_X9_init (l : Launch) (dC : Nat → ClassId) (dI : Nat → Nat → Nat) (ad : Nat → Nat) (h0 : Nat) (sz : Nat) : Met l yX9_init w_c_X9_init ({ frames := 1, cells := 15, slots := 926, locals := 21 } : Room) (va_Pc [.ref h0] (preT dC dI ad [] [(h0, .inr (7, [.null, .null, .null, .null, .int 0, .null, .int 0, .null, .null, .int 0, .null, .int 0, .int 0, .int 0, .int 0, .int 0, .int 0, .null, .null, .null, .int 0, .int 0, .int 0, .int 0, .null, .null, .null, .null]))] sz)) (va_Qv (fun (_ : Unit) => True) (fun _ t => ∃ (m_now : Nat), ∃ (mc_now : ClassId), ∃ (m_kept : Nat), ∃ (mc_kept : ClassId), ∃ (m_pictures : Nat), ∃ (mc_pictures : ClassId), ∃ (m_keptPictures : Nat), ∃ (mc_keptPictures : ClassId), ∃ (m_found : Nat), ∃ (mc_found : ClassId), ∃ (m_row : Nat), ∃ (mc_row : ClassId), ∃ (m_bestRow : Nat), ∃ (mc_bestRow : ClassId), ∃ (m_tape : Nat), ∃ (mc_tape : ClassId), ∃ (m_kinds : Nat), ∃ (mc_kinds : ClassId), ∃ (m_items : Nat), ∃ (mc_items : ClassId), ∃ (m_itemPictures : Nat), ∃ (mc_itemPictures : ClassId), ∃ (m_widths : Nat), ∃ (mc_widths : ClassId), ∃ (m_sizes : Nat), ∃ (mc_sizes : ClassId), ∃ (m_numbers : Nat), ∃ (mc_numbers : ClassId), ∃ (m_moved : Nat), ∃ (mc_moved : ClassId), ∃ (m_nf : Nat → Int32), ∃ (m_kf : Nat → Option Nat), (∀ j, j < 38 → m_nf j = fr_n j) ∧ (∀ j, j < 6 → m_kf j = (some (ad (13 + j)))) ∧ va_P (dC, dI) vwCl [(h0, .inr (7, [.ref m_now, .ref m_kept, .ref m_pictures, .ref m_keptPictures, .int 0, .ref m_found, .int 0, .ref m_row, .ref m_bestRow, .int 0, .ref m_tape, .int 0, .int 0, .int 0, .int 0, .int 0, .int 0, .ref m_kinds, .ref m_items, .ref m_itemPictures, .int 0, .int 0, .int 0, .int 0, .ref m_widths, .ref m_sizes, .ref m_numbers, .ref m_moved])), (m_now, .inl (mc_now, 38, .inl m_nf)), (m_kept, .inl (mc_kept, 38, .inl (fun _ => 0))), (m_pictures, .inl (mc_pictures, 7, .inr (.inl (fun _ => 0)))), (m_keptPictures, .inl (mc_keptPictures, 7, .inr (.inl (fun _ => 0)))), (m_found, .inl (mc_found, 8, .inl (fun _ => 0))), (m_row, .inl (mc_row, 7, .inl (fun _ => 0))), (m_bestRow, .inl (mc_bestRow, 7, .inl (fun _ => 0))), (m_tape, .inl (mc_tape, 120, .inl (fun _ => 0))), (m_kinds, .inl (mc_kinds, 6, .inr (.inr (.inr (.inr m_kf))))), (m_items, .inl (mc_items, 360, .inl (fun _ => 0))), (m_itemPictures, .inl (mc_itemPictures, 120, .inr (.inl (fun _ => 0)))), (m_widths, .inl (mc_widths, 4, .inl (fun _ => 0))), (m_sizes, .inl (mc_sizes, 4, .inl (fun _ => 0))), (m_numbers, .inl (mc_numbers, 160, .inr (.inl (fun _ => 0)))), (m_moved, .inl (mc_moved, 40, .inr (.inl (fun _ => 0))))] t.heap ∧ va_K (dC, dI) vwCl [(mc_now, .int), (mc_kept, .int), (mc_pictures, .long), (mc_keptPictures, .long), (mc_found, .int), (mc_row, .int), (mc_bestRow, .int), (mc_tape, .int), (mc_kinds, .object "java/lang/String"), (mc_items, .int), (mc_itemPictures, .long), (mc_widths, .int), (mc_sizes, .int), (mc_numbers, .long), (mc_moved, .long)] t ∧ va_D (va_A [(h0, .inr (7, [.null, .null, .null, .null, .int 0, .null, .int 0, .null, .null, .int 0, .null, .int 0, .int 0, .int 0, .int 0, .int 0, .int 0, .null, .null, .null, .int 0, .int 0, .int 0, .int 0, .null, .null, .null, .null]))] sz) [(h0, .inr (7, [.ref m_now, .ref m_kept, .ref m_pictures, .ref m_keptPictures, .int 0, .ref m_found, .int 0, .ref m_row, .ref m_bestRow, .int 0, .ref m_tape, .int 0, .int 0, .int 0, .int 0, .int 0, .int 0, .ref m_kinds, .ref m_items, .ref m_itemPictures, .int 0, .int 0, .int 0, .int 0, .ref m_widths, .ref m_sizes, .ref m_numbers, .ref m_moved])), (m_now, .inl (mc_now, 38, .inl m_nf)), (m_kept, .inl (mc_kept, 38, .inl (fun _ => 0))), (m_pictures, .inl (mc_pictures, 7, .inr (.inl (fun _ => 0)))), (m_keptPictures, .inl (mc_keptPictures, 7, .inr (.inl (fun _ => 0)))), (m_found, .inl (mc_found, 8, .inl (fun _ => 0))), (m_row, .inl (mc_row, 7, .inl (fun _ => 0))), (m_bestRow, .inl (mc_bestRow, 7, .inl (fun _ => 0))), (m_tape, .inl (mc_tape, 120, .inl (fun _ => 0))), (m_kinds, .inl (mc_kinds, 6, .inr (.inr (.inr (.inr m_kf))))), (m_items, .inl (mc_items, 360, .inl (fun _ => 0))), (m_itemPictures, .inl (mc_itemPictures, 120, .inr (.inl (fun _ => 0)))), (m_widths, .inl (mc_widths, 4, .inl (fun _ => 0))), (m_sizes, .inl (mc_sizes, 4, .inl (fun _ => 0))), (m_numbers, .inl (mc_numbers, 160, .inr (.inl (fun _ => 0)))), (m_moved, .inl (mc_moved, 40, .inr (.inl (fun _ => 0))))]) (va_A [(h0, .inr (7, [.null, .null, .null, .null, .int 0, .null, .int 0, .null, .null, .int 0, .null, .int 0, .int 0, .int 0, .int 0, .int 0, .int 0, .null, .null, .null, .int 0, .int 0, .int 0, .int 0, .null, .null, .null, .null]))] sz)) 15 926 (va_A [(h0, .inr (7, [.null, .null, .null, .null, .int 0, .null, .int 0, .null, .null, .int 0, .null, .int 0, .int 0, .int 0, .int 0, .int 0, .int 0, .null, .null, .null, .int 0, .int 0, .int 0, .int 0, .null, .null, .null, .null]))] sz) := by
  refine Met.ofW (cc := cX9_init) (maxL := 1) (ret := none) (by decide) rfl ?_
  intro p e s m args below meth c s₁ B hml hv
  obtain ⟨rfl, ⟨hsz, hP, hK, hD0, hev⟩, hsf⟩ := hv
  have hx := B.exec
  have hb := B.bytes
  have hr := B.returns
  have hts := atoms_spec (ws := w_c_X9_init) B.pre
  have hown : s.vm.findClass RX9 = some m.cls := findClass_of_methodNamed B.named
  have hlocks := B.notSynchronized
  have hin : meth.name = "<init>" := (name_of_methodNamed B.named B.method).1
  have inX9 : ∀ w ∈ wsX90, w ∈ w_c_X9_init := fun w h => List.mem_cons_of_mem _ (List.mem_append_right _ h)
  subst hsz
  have hD := hD0.self (sz := s.heap.size)
  generalize hAe : va_A [(h0, .inr (7, [.null, .null, .null, .null, .int 0, .null, .int 0, .null, .null, .int 0, .null, .int 0, .int 0, .int 0, .int 0, .int 0, .int 0, .null, .null, .null, .int 0, .int 0, .int 0, .int 0, .null, .null, .null, .null]))] s.heap.size = A at hD hsf ⊢
  have hA : ∀ q : Nat, s.heap.size ≤ q → A q := fun q h => by rw [← hAe]; exact Or.inr h
  have hS : va_S A s.heap s.heap [] := va_S.rf
  have hP : va_P (dC, dI) vwCl [(h0, .inr (7, [.null, .null, .null, .null, .int 0, .null, .int 0, .null, .null, .int 0, .null, .int 0, .int 0, .int 0, .int 0, .int 0, .int 0, .null, .null, .null, .int 0, .int 0, .int 0, .int 0, .null, .null, .null, .null]))] s.heap := hP
  have hl := lv_entry ([.ref h0]) (n := 1) (Nat.le_of_ble_eq_true rfl)
  rw [lg_entry_eq]
  generalize (lg_sl ([.ref h0]) ++ List.replicate (1 - (lg_sl ([.ref h0])).length) Slot.unset).toArray = ls at hl ⊢
  have hl : lv_has ls 1 [(0, .ref h0)] := hl
  refine lv_aload_n hx hb dX9_init_0 rfl (lv_at hl 0 rfl) ?_
  refine W.objInit hx hb hown (hts _ (List.mem_of_getElem? (i := 1) rfl)) (hts _ (List.mem_of_getElem? (i := 2) rfl)) (hts _ (List.mem_of_getElem? (i := 3) rfl)) rfl (by rw [hml]; exact hl.1) rfl dX9_init_1 (Nat.le_of_ble_eq_true rfl) (Nat.le_of_ble_eq_true rfl) ?_
  refine W.eq (g2 := F0 m 4 ls []) rfl ?_
  refine lv_aload_n hx hb dX9_init_4 rfl (lv_at hl 0 rfl) ?_
  refine lv_bipush (v := 38) hx hb dX9_init_5 (by decide) ?_
  refine va_newa (atype := .int) (ty := .int) (N' := 38) (a0 := (38, .inl (fun _ => 0))) hx hb (hts _ (List.mem_of_getElem? (i := 4) rfl)) rfl hK hP hD hS hA (fun _ => rfl) (by decide) (by decide) (Nat.le_of_ble_eq_true rfl) (Nat.le_of_ble_eq_true rfl) (Nat.le_of_ble_eq_true rfl) dX9_init_7 (fun q_1 cA_2 H hK hP hD hS => ?_)
  refine W.widen (k := 1) (n := 38) (Nat.le_of_ble_eq_true rfl) (Nat.le_of_ble_eq_true rfl) ?_
  have hP : va_P (dC, dI) vwCl [(h0, .inr (7, [.null, .null, .null, .null, .int 0, .null, .int 0, .null, .null, .int 0, .null, .int 0, .int 0, .int 0, .int 0, .int 0, .int 0, .null, .null, .null, .int 0, .int 0, .int 0, .int 0, .null, .null, .null, .null])), (q_1, .inl (cA_2, 38, .inl (fun _ => 0)))] H := hP
  have hD : va_D A [(h0, .inr (7, [.null, .null, .null, .null, .int 0, .null, .int 0, .null, .null, .int 0, .null, .int 0, .int 0, .int 0, .int 0, .int 0, .int 0, .null, .null, .null, .int 0, .int 0, .int 0, .int 0, .null, .null, .null, .null])), (q_1, .inl (cA_2, 38, .inl (fun _ => 0)))] := hD
  have hK : va_K (dC, dI) vwCl [(cA_2, .int)] s := hK
  refine va_putF (D := (dC, dI)) (ci := 7) (v := .ref q_1) (ty := (.array .int)) (C := RX9) (T := TX9) (N := 28) hx hb hts inX9 tyX9 tyX9_ok nmX9 hown hK hP hD hS 0 rfl rfl 0 (by decide) (hts _ (List.mem_of_getElem? (i := 5) rfl)) (fun _ h9 => h9) rfl hin rfl (by decide +kernel) rfl rfl (Nat.le_of_ble_eq_true rfl) dX9_init_9 (fun H locs hP hD hS => ?_)
  have hP : va_P (dC, dI) vwCl [(h0, .inr (7, [.ref q_1, .null, .null, .null, .int 0, .null, .int 0, .null, .null, .int 0, .null, .int 0, .int 0, .int 0, .int 0, .int 0, .int 0, .null, .null, .null, .int 0, .int 0, .int 0, .int 0, .null, .null, .null, .null])), (q_1, .inl (cA_2, 38, .inl (fun _ => 0)))] H := hP
  have hD : va_D A [(h0, .inr (7, [.ref q_1, .null, .null, .null, .int 0, .null, .int 0, .null, .null, .int 0, .null, .int 0, .int 0, .int 0, .int 0, .int 0, .int 0, .null, .null, .null, .int 0, .int 0, .int 0, .int 0, .null, .null, .null, .null])), (q_1, .inl (cA_2, 38, .inl (fun _ => 0)))] := hD
  refine lv_aload_n hx hb dX9_init_12 rfl (lv_at hl 0 rfl) ?_
  refine lv_bipush (v := 38) hx hb dX9_init_13 (by decide) ?_
  refine va_newa (atype := .int) (ty := .int) (N' := 38) (a0 := (38, .inl (fun _ => 0))) hx hb (hts _ (List.mem_of_getElem? (i := 4) rfl)) rfl hK hP hD hS hA (fun _ => rfl) (by decide) (by decide) (Nat.le_of_ble_eq_true rfl) (Nat.le_of_ble_eq_true rfl) (Nat.le_of_ble_eq_true rfl) dX9_init_15 (fun q_3 cA_4 H hK hP hD hS => ?_)
  refine W.widen (k := 2) (n := 76) (Nat.le_of_ble_eq_true rfl) (Nat.le_of_ble_eq_true rfl) ?_
  have hP : va_P (dC, dI) vwCl [(h0, .inr (7, [.ref q_1, .null, .null, .null, .int 0, .null, .int 0, .null, .null, .int 0, .null, .int 0, .int 0, .int 0, .int 0, .int 0, .int 0, .null, .null, .null, .int 0, .int 0, .int 0, .int 0, .null, .null, .null, .null])), (q_1, .inl (cA_2, 38, .inl (fun _ => 0))), (q_3, .inl (cA_4, 38, .inl (fun _ => 0)))] H := hP
  have hD : va_D A [(h0, .inr (7, [.ref q_1, .null, .null, .null, .int 0, .null, .int 0, .null, .null, .int 0, .null, .int 0, .int 0, .int 0, .int 0, .int 0, .int 0, .null, .null, .null, .int 0, .int 0, .int 0, .int 0, .null, .null, .null, .null])), (q_1, .inl (cA_2, 38, .inl (fun _ => 0))), (q_3, .inl (cA_4, 38, .inl (fun _ => 0)))] := hD
  have hK : va_K (dC, dI) vwCl [(cA_2, .int), (cA_4, .int)] s := hK
  refine va_putF (D := (dC, dI)) (ci := 7) (v := .ref q_3) (ty := (.array .int)) (C := RX9) (T := TX9) (N := 28) hx hb hts inX9 tyX9 tyX9_ok nmX9 hown hK hP hD hS 0 rfl rfl 1 (by decide) (hts _ (List.mem_of_getElem? (i := 6) rfl)) (fun _ h9 => h9) rfl hin rfl (by decide +kernel) rfl rfl (Nat.le_of_ble_eq_true rfl) dX9_init_17 (fun H locs hP hD hS => ?_)
  have hP : va_P (dC, dI) vwCl [(h0, .inr (7, [.ref q_1, .ref q_3, .null, .null, .int 0, .null, .int 0, .null, .null, .int 0, .null, .int 0, .int 0, .int 0, .int 0, .int 0, .int 0, .null, .null, .null, .int 0, .int 0, .int 0, .int 0, .null, .null, .null, .null])), (q_1, .inl (cA_2, 38, .inl (fun _ => 0))), (q_3, .inl (cA_4, 38, .inl (fun _ => 0)))] H := hP
  have hD : va_D A [(h0, .inr (7, [.ref q_1, .ref q_3, .null, .null, .int 0, .null, .int 0, .null, .null, .int 0, .null, .int 0, .int 0, .int 0, .int 0, .int 0, .int 0, .null, .null, .null, .int 0, .int 0, .int 0, .int 0, .null, .null, .null, .null])), (q_1, .inl (cA_2, 38, .inl (fun _ => 0))), (q_3, .inl (cA_4, 38, .inl (fun _ => 0)))] := hD
  refine lv_aload_n hx hb dX9_init_20 rfl (lv_at hl 0 rfl) ?_
  refine lv_bipush (v := 7) hx hb dX9_init_21 (by decide) ?_
  refine va_newa (atype := .long) (ty := .long) (N' := 7) (a0 := (7, .inr (.inl (fun _ => 0)))) hx hb (hts _ (List.mem_of_getElem? (i := 7) rfl)) rfl hK hP hD hS hA (fun _ => rfl) (by decide) (by decide) (Nat.le_of_ble_eq_true rfl) (Nat.le_of_ble_eq_true rfl) (Nat.le_of_ble_eq_true rfl) dX9_init_23 (fun q_5 cA_6 H hK hP hD hS => ?_)
  refine W.widen (k := 3) (n := 83) (Nat.le_of_ble_eq_true rfl) (Nat.le_of_ble_eq_true rfl) ?_
  have hP : va_P (dC, dI) vwCl [(h0, .inr (7, [.ref q_1, .ref q_3, .null, .null, .int 0, .null, .int 0, .null, .null, .int 0, .null, .int 0, .int 0, .int 0, .int 0, .int 0, .int 0, .null, .null, .null, .int 0, .int 0, .int 0, .int 0, .null, .null, .null, .null])), (q_1, .inl (cA_2, 38, .inl (fun _ => 0))), (q_3, .inl (cA_4, 38, .inl (fun _ => 0))), (q_5, .inl (cA_6, 7, .inr (.inl (fun _ => 0))))] H := hP
  have hD : va_D A [(h0, .inr (7, [.ref q_1, .ref q_3, .null, .null, .int 0, .null, .int 0, .null, .null, .int 0, .null, .int 0, .int 0, .int 0, .int 0, .int 0, .int 0, .null, .null, .null, .int 0, .int 0, .int 0, .int 0, .null, .null, .null, .null])), (q_1, .inl (cA_2, 38, .inl (fun _ => 0))), (q_3, .inl (cA_4, 38, .inl (fun _ => 0))), (q_5, .inl (cA_6, 7, .inr (.inl (fun _ => 0))))] := hD
  have hK : va_K (dC, dI) vwCl [(cA_2, .int), (cA_4, .int), (cA_6, .long)] s := hK
  refine va_putF (D := (dC, dI)) (ci := 7) (v := .ref q_5) (ty := (.array .long)) (C := RX9) (T := TX9) (N := 28) hx hb hts inX9 tyX9 tyX9_ok nmX9 hown hK hP hD hS 0 rfl rfl 2 (by decide) (hts _ (List.mem_of_getElem? (i := 8) rfl)) (fun _ h9 => h9) rfl hin rfl (by decide +kernel) rfl rfl (Nat.le_of_ble_eq_true rfl) dX9_init_25 (fun H locs hP hD hS => ?_)
  have hP : va_P (dC, dI) vwCl [(h0, .inr (7, [.ref q_1, .ref q_3, .ref q_5, .null, .int 0, .null, .int 0, .null, .null, .int 0, .null, .int 0, .int 0, .int 0, .int 0, .int 0, .int 0, .null, .null, .null, .int 0, .int 0, .int 0, .int 0, .null, .null, .null, .null])), (q_1, .inl (cA_2, 38, .inl (fun _ => 0))), (q_3, .inl (cA_4, 38, .inl (fun _ => 0))), (q_5, .inl (cA_6, 7, .inr (.inl (fun _ => 0))))] H := hP
  have hD : va_D A [(h0, .inr (7, [.ref q_1, .ref q_3, .ref q_5, .null, .int 0, .null, .int 0, .null, .null, .int 0, .null, .int 0, .int 0, .int 0, .int 0, .int 0, .int 0, .null, .null, .null, .int 0, .int 0, .int 0, .int 0, .null, .null, .null, .null])), (q_1, .inl (cA_2, 38, .inl (fun _ => 0))), (q_3, .inl (cA_4, 38, .inl (fun _ => 0))), (q_5, .inl (cA_6, 7, .inr (.inl (fun _ => 0))))] := hD
  refine lv_aload_n hx hb dX9_init_28 rfl (lv_at hl 0 rfl) ?_
  refine lv_bipush (v := 7) hx hb dX9_init_29 (by decide) ?_
  refine va_newa (atype := .long) (ty := .long) (N' := 7) (a0 := (7, .inr (.inl (fun _ => 0)))) hx hb (hts _ (List.mem_of_getElem? (i := 7) rfl)) rfl hK hP hD hS hA (fun _ => rfl) (by decide) (by decide) (Nat.le_of_ble_eq_true rfl) (Nat.le_of_ble_eq_true rfl) (Nat.le_of_ble_eq_true rfl) dX9_init_31 (fun q_7 cA_8 H hK hP hD hS => ?_)
  refine W.widen (k := 4) (n := 90) (Nat.le_of_ble_eq_true rfl) (Nat.le_of_ble_eq_true rfl) ?_
  have hP : va_P (dC, dI) vwCl [(h0, .inr (7, [.ref q_1, .ref q_3, .ref q_5, .null, .int 0, .null, .int 0, .null, .null, .int 0, .null, .int 0, .int 0, .int 0, .int 0, .int 0, .int 0, .null, .null, .null, .int 0, .int 0, .int 0, .int 0, .null, .null, .null, .null])), (q_1, .inl (cA_2, 38, .inl (fun _ => 0))), (q_3, .inl (cA_4, 38, .inl (fun _ => 0))), (q_5, .inl (cA_6, 7, .inr (.inl (fun _ => 0)))), (q_7, .inl (cA_8, 7, .inr (.inl (fun _ => 0))))] H := hP
  have hD : va_D A [(h0, .inr (7, [.ref q_1, .ref q_3, .ref q_5, .null, .int 0, .null, .int 0, .null, .null, .int 0, .null, .int 0, .int 0, .int 0, .int 0, .int 0, .int 0, .null, .null, .null, .int 0, .int 0, .int 0, .int 0, .null, .null, .null, .null])), (q_1, .inl (cA_2, 38, .inl (fun _ => 0))), (q_3, .inl (cA_4, 38, .inl (fun _ => 0))), (q_5, .inl (cA_6, 7, .inr (.inl (fun _ => 0)))), (q_7, .inl (cA_8, 7, .inr (.inl (fun _ => 0))))] := hD
  have hK : va_K (dC, dI) vwCl [(cA_2, .int), (cA_4, .int), (cA_6, .long), (cA_8, .long)] s := hK
  refine va_putF (D := (dC, dI)) (ci := 7) (v := .ref q_7) (ty := (.array .long)) (C := RX9) (T := TX9) (N := 28) hx hb hts inX9 tyX9 tyX9_ok nmX9 hown hK hP hD hS 0 rfl rfl 3 (by decide) (hts _ (List.mem_of_getElem? (i := 9) rfl)) (fun _ h9 => h9) rfl hin rfl (by decide +kernel) rfl rfl (Nat.le_of_ble_eq_true rfl) dX9_init_33 (fun H locs hP hD hS => ?_)
  have hP : va_P (dC, dI) vwCl [(h0, .inr (7, [.ref q_1, .ref q_3, .ref q_5, .ref q_7, .int 0, .null, .int 0, .null, .null, .int 0, .null, .int 0, .int 0, .int 0, .int 0, .int 0, .int 0, .null, .null, .null, .int 0, .int 0, .int 0, .int 0, .null, .null, .null, .null])), (q_1, .inl (cA_2, 38, .inl (fun _ => 0))), (q_3, .inl (cA_4, 38, .inl (fun _ => 0))), (q_5, .inl (cA_6, 7, .inr (.inl (fun _ => 0)))), (q_7, .inl (cA_8, 7, .inr (.inl (fun _ => 0))))] H := hP
  have hD : va_D A [(h0, .inr (7, [.ref q_1, .ref q_3, .ref q_5, .ref q_7, .int 0, .null, .int 0, .null, .null, .int 0, .null, .int 0, .int 0, .int 0, .int 0, .int 0, .int 0, .null, .null, .null, .int 0, .int 0, .int 0, .int 0, .null, .null, .null, .null])), (q_1, .inl (cA_2, 38, .inl (fun _ => 0))), (q_3, .inl (cA_4, 38, .inl (fun _ => 0))), (q_5, .inl (cA_6, 7, .inr (.inl (fun _ => 0)))), (q_7, .inl (cA_8, 7, .inr (.inl (fun _ => 0))))] := hD
  refine lv_aload_n hx hb dX9_init_36 rfl (lv_at hl 0 rfl) ?_
  refine lv_bipush (v := 8) hx hb dX9_init_37 (by decide) ?_
  refine va_newa (atype := .int) (ty := .int) (N' := 8) (a0 := (8, .inl (fun _ => 0))) hx hb (hts _ (List.mem_of_getElem? (i := 4) rfl)) rfl hK hP hD hS hA (fun _ => rfl) (by decide) (by decide) (Nat.le_of_ble_eq_true rfl) (Nat.le_of_ble_eq_true rfl) (Nat.le_of_ble_eq_true rfl) dX9_init_39 (fun q_9 cA_10 H hK hP hD hS => ?_)
  refine W.widen (k := 5) (n := 98) (Nat.le_of_ble_eq_true rfl) (Nat.le_of_ble_eq_true rfl) ?_
  have hP : va_P (dC, dI) vwCl [(h0, .inr (7, [.ref q_1, .ref q_3, .ref q_5, .ref q_7, .int 0, .null, .int 0, .null, .null, .int 0, .null, .int 0, .int 0, .int 0, .int 0, .int 0, .int 0, .null, .null, .null, .int 0, .int 0, .int 0, .int 0, .null, .null, .null, .null])), (q_1, .inl (cA_2, 38, .inl (fun _ => 0))), (q_3, .inl (cA_4, 38, .inl (fun _ => 0))), (q_5, .inl (cA_6, 7, .inr (.inl (fun _ => 0)))), (q_7, .inl (cA_8, 7, .inr (.inl (fun _ => 0)))), (q_9, .inl (cA_10, 8, .inl (fun _ => 0)))] H := hP
  have hD : va_D A [(h0, .inr (7, [.ref q_1, .ref q_3, .ref q_5, .ref q_7, .int 0, .null, .int 0, .null, .null, .int 0, .null, .int 0, .int 0, .int 0, .int 0, .int 0, .int 0, .null, .null, .null, .int 0, .int 0, .int 0, .int 0, .null, .null, .null, .null])), (q_1, .inl (cA_2, 38, .inl (fun _ => 0))), (q_3, .inl (cA_4, 38, .inl (fun _ => 0))), (q_5, .inl (cA_6, 7, .inr (.inl (fun _ => 0)))), (q_7, .inl (cA_8, 7, .inr (.inl (fun _ => 0)))), (q_9, .inl (cA_10, 8, .inl (fun _ => 0)))] := hD
  have hK : va_K (dC, dI) vwCl [(cA_2, .int), (cA_4, .int), (cA_6, .long), (cA_8, .long), (cA_10, .int)] s := hK
  refine va_putF (D := (dC, dI)) (ci := 7) (v := .ref q_9) (ty := (.array .int)) (C := RX9) (T := TX9) (N := 28) hx hb hts inX9 tyX9 tyX9_ok nmX9 hown hK hP hD hS 0 rfl rfl 5 (by decide) (hts _ (List.mem_of_getElem? (i := 10) rfl)) (fun _ h9 => h9) rfl hin rfl (by decide +kernel) rfl rfl (Nat.le_of_ble_eq_true rfl) dX9_init_41 (fun H locs hP hD hS => ?_)
  have hP : va_P (dC, dI) vwCl [(h0, .inr (7, [.ref q_1, .ref q_3, .ref q_5, .ref q_7, .int 0, .ref q_9, .int 0, .null, .null, .int 0, .null, .int 0, .int 0, .int 0, .int 0, .int 0, .int 0, .null, .null, .null, .int 0, .int 0, .int 0, .int 0, .null, .null, .null, .null])), (q_1, .inl (cA_2, 38, .inl (fun _ => 0))), (q_3, .inl (cA_4, 38, .inl (fun _ => 0))), (q_5, .inl (cA_6, 7, .inr (.inl (fun _ => 0)))), (q_7, .inl (cA_8, 7, .inr (.inl (fun _ => 0)))), (q_9, .inl (cA_10, 8, .inl (fun _ => 0)))] H := hP
  have hD : va_D A [(h0, .inr (7, [.ref q_1, .ref q_3, .ref q_5, .ref q_7, .int 0, .ref q_9, .int 0, .null, .null, .int 0, .null, .int 0, .int 0, .int 0, .int 0, .int 0, .int 0, .null, .null, .null, .int 0, .int 0, .int 0, .int 0, .null, .null, .null, .null])), (q_1, .inl (cA_2, 38, .inl (fun _ => 0))), (q_3, .inl (cA_4, 38, .inl (fun _ => 0))), (q_5, .inl (cA_6, 7, .inr (.inl (fun _ => 0)))), (q_7, .inl (cA_8, 7, .inr (.inl (fun _ => 0)))), (q_9, .inl (cA_10, 8, .inl (fun _ => 0)))] := hD
  refine lv_aload_n hx hb dX9_init_44 rfl (lv_at hl 0 rfl) ?_
  refine lv_bipush (v := 7) hx hb dX9_init_45 (by decide) ?_
  refine va_newa (atype := .int) (ty := .int) (N' := 7) (a0 := (7, .inl (fun _ => 0))) hx hb (hts _ (List.mem_of_getElem? (i := 4) rfl)) rfl hK hP hD hS hA (fun _ => rfl) (by decide) (by decide) (Nat.le_of_ble_eq_true rfl) (Nat.le_of_ble_eq_true rfl) (Nat.le_of_ble_eq_true rfl) dX9_init_47 (fun q_11 cA_12 H hK hP hD hS => ?_)
  refine W.widen (k := 6) (n := 105) (Nat.le_of_ble_eq_true rfl) (Nat.le_of_ble_eq_true rfl) ?_
  have hP : va_P (dC, dI) vwCl [(h0, .inr (7, [.ref q_1, .ref q_3, .ref q_5, .ref q_7, .int 0, .ref q_9, .int 0, .null, .null, .int 0, .null, .int 0, .int 0, .int 0, .int 0, .int 0, .int 0, .null, .null, .null, .int 0, .int 0, .int 0, .int 0, .null, .null, .null, .null])), (q_1, .inl (cA_2, 38, .inl (fun _ => 0))), (q_3, .inl (cA_4, 38, .inl (fun _ => 0))), (q_5, .inl (cA_6, 7, .inr (.inl (fun _ => 0)))), (q_7, .inl (cA_8, 7, .inr (.inl (fun _ => 0)))), (q_9, .inl (cA_10, 8, .inl (fun _ => 0))), (q_11, .inl (cA_12, 7, .inl (fun _ => 0)))] H := hP
  have hD : va_D A [(h0, .inr (7, [.ref q_1, .ref q_3, .ref q_5, .ref q_7, .int 0, .ref q_9, .int 0, .null, .null, .int 0, .null, .int 0, .int 0, .int 0, .int 0, .int 0, .int 0, .null, .null, .null, .int 0, .int 0, .int 0, .int 0, .null, .null, .null, .null])), (q_1, .inl (cA_2, 38, .inl (fun _ => 0))), (q_3, .inl (cA_4, 38, .inl (fun _ => 0))), (q_5, .inl (cA_6, 7, .inr (.inl (fun _ => 0)))), (q_7, .inl (cA_8, 7, .inr (.inl (fun _ => 0)))), (q_9, .inl (cA_10, 8, .inl (fun _ => 0))), (q_11, .inl (cA_12, 7, .inl (fun _ => 0)))] := hD
  have hK : va_K (dC, dI) vwCl [(cA_2, .int), (cA_4, .int), (cA_6, .long), (cA_8, .long), (cA_10, .int), (cA_12, .int)] s := hK
  refine va_putF (D := (dC, dI)) (ci := 7) (v := .ref q_11) (ty := (.array .int)) (C := RX9) (T := TX9) (N := 28) hx hb hts inX9 tyX9 tyX9_ok nmX9 hown hK hP hD hS 0 rfl rfl 7 (by decide) (hts _ (List.mem_of_getElem? (i := 11) rfl)) (fun _ h9 => h9) rfl hin rfl (by decide +kernel) rfl rfl (Nat.le_of_ble_eq_true rfl) dX9_init_49 (fun H locs hP hD hS => ?_)
  have hP : va_P (dC, dI) vwCl [(h0, .inr (7, [.ref q_1, .ref q_3, .ref q_5, .ref q_7, .int 0, .ref q_9, .int 0, .ref q_11, .null, .int 0, .null, .int 0, .int 0, .int 0, .int 0, .int 0, .int 0, .null, .null, .null, .int 0, .int 0, .int 0, .int 0, .null, .null, .null, .null])), (q_1, .inl (cA_2, 38, .inl (fun _ => 0))), (q_3, .inl (cA_4, 38, .inl (fun _ => 0))), (q_5, .inl (cA_6, 7, .inr (.inl (fun _ => 0)))), (q_7, .inl (cA_8, 7, .inr (.inl (fun _ => 0)))), (q_9, .inl (cA_10, 8, .inl (fun _ => 0))), (q_11, .inl (cA_12, 7, .inl (fun _ => 0)))] H := hP
  have hD : va_D A [(h0, .inr (7, [.ref q_1, .ref q_3, .ref q_5, .ref q_7, .int 0, .ref q_9, .int 0, .ref q_11, .null, .int 0, .null, .int 0, .int 0, .int 0, .int 0, .int 0, .int 0, .null, .null, .null, .int 0, .int 0, .int 0, .int 0, .null, .null, .null, .null])), (q_1, .inl (cA_2, 38, .inl (fun _ => 0))), (q_3, .inl (cA_4, 38, .inl (fun _ => 0))), (q_5, .inl (cA_6, 7, .inr (.inl (fun _ => 0)))), (q_7, .inl (cA_8, 7, .inr (.inl (fun _ => 0)))), (q_9, .inl (cA_10, 8, .inl (fun _ => 0))), (q_11, .inl (cA_12, 7, .inl (fun _ => 0)))] := hD
  refine lv_aload_n hx hb dX9_init_52 rfl (lv_at hl 0 rfl) ?_
  refine lv_bipush (v := 7) hx hb dX9_init_53 (by decide) ?_
  refine va_newa (atype := .int) (ty := .int) (N' := 7) (a0 := (7, .inl (fun _ => 0))) hx hb (hts _ (List.mem_of_getElem? (i := 4) rfl)) rfl hK hP hD hS hA (fun _ => rfl) (by decide) (by decide) (Nat.le_of_ble_eq_true rfl) (Nat.le_of_ble_eq_true rfl) (Nat.le_of_ble_eq_true rfl) dX9_init_55 (fun q_13 cA_14 H hK hP hD hS => ?_)
  refine W.widen (k := 7) (n := 112) (Nat.le_of_ble_eq_true rfl) (Nat.le_of_ble_eq_true rfl) ?_
  have hP : va_P (dC, dI) vwCl [(h0, .inr (7, [.ref q_1, .ref q_3, .ref q_5, .ref q_7, .int 0, .ref q_9, .int 0, .ref q_11, .null, .int 0, .null, .int 0, .int 0, .int 0, .int 0, .int 0, .int 0, .null, .null, .null, .int 0, .int 0, .int 0, .int 0, .null, .null, .null, .null])), (q_1, .inl (cA_2, 38, .inl (fun _ => 0))), (q_3, .inl (cA_4, 38, .inl (fun _ => 0))), (q_5, .inl (cA_6, 7, .inr (.inl (fun _ => 0)))), (q_7, .inl (cA_8, 7, .inr (.inl (fun _ => 0)))), (q_9, .inl (cA_10, 8, .inl (fun _ => 0))), (q_11, .inl (cA_12, 7, .inl (fun _ => 0))), (q_13, .inl (cA_14, 7, .inl (fun _ => 0)))] H := hP
  have hD : va_D A [(h0, .inr (7, [.ref q_1, .ref q_3, .ref q_5, .ref q_7, .int 0, .ref q_9, .int 0, .ref q_11, .null, .int 0, .null, .int 0, .int 0, .int 0, .int 0, .int 0, .int 0, .null, .null, .null, .int 0, .int 0, .int 0, .int 0, .null, .null, .null, .null])), (q_1, .inl (cA_2, 38, .inl (fun _ => 0))), (q_3, .inl (cA_4, 38, .inl (fun _ => 0))), (q_5, .inl (cA_6, 7, .inr (.inl (fun _ => 0)))), (q_7, .inl (cA_8, 7, .inr (.inl (fun _ => 0)))), (q_9, .inl (cA_10, 8, .inl (fun _ => 0))), (q_11, .inl (cA_12, 7, .inl (fun _ => 0))), (q_13, .inl (cA_14, 7, .inl (fun _ => 0)))] := hD
  have hK : va_K (dC, dI) vwCl [(cA_2, .int), (cA_4, .int), (cA_6, .long), (cA_8, .long), (cA_10, .int), (cA_12, .int), (cA_14, .int)] s := hK
  refine va_putF (D := (dC, dI)) (ci := 7) (v := .ref q_13) (ty := (.array .int)) (C := RX9) (T := TX9) (N := 28) hx hb hts inX9 tyX9 tyX9_ok nmX9 hown hK hP hD hS 0 rfl rfl 8 (by decide) (hts _ (List.mem_of_getElem? (i := 12) rfl)) (fun _ h9 => h9) rfl hin rfl (by decide +kernel) rfl rfl (Nat.le_of_ble_eq_true rfl) dX9_init_57 (fun H locs hP hD hS => ?_)
  have hP : va_P (dC, dI) vwCl [(h0, .inr (7, [.ref q_1, .ref q_3, .ref q_5, .ref q_7, .int 0, .ref q_9, .int 0, .ref q_11, .ref q_13, .int 0, .null, .int 0, .int 0, .int 0, .int 0, .int 0, .int 0, .null, .null, .null, .int 0, .int 0, .int 0, .int 0, .null, .null, .null, .null])), (q_1, .inl (cA_2, 38, .inl (fun _ => 0))), (q_3, .inl (cA_4, 38, .inl (fun _ => 0))), (q_5, .inl (cA_6, 7, .inr (.inl (fun _ => 0)))), (q_7, .inl (cA_8, 7, .inr (.inl (fun _ => 0)))), (q_9, .inl (cA_10, 8, .inl (fun _ => 0))), (q_11, .inl (cA_12, 7, .inl (fun _ => 0))), (q_13, .inl (cA_14, 7, .inl (fun _ => 0)))] H := hP
  have hD : va_D A [(h0, .inr (7, [.ref q_1, .ref q_3, .ref q_5, .ref q_7, .int 0, .ref q_9, .int 0, .ref q_11, .ref q_13, .int 0, .null, .int 0, .int 0, .int 0, .int 0, .int 0, .int 0, .null, .null, .null, .int 0, .int 0, .int 0, .int 0, .null, .null, .null, .null])), (q_1, .inl (cA_2, 38, .inl (fun _ => 0))), (q_3, .inl (cA_4, 38, .inl (fun _ => 0))), (q_5, .inl (cA_6, 7, .inr (.inl (fun _ => 0)))), (q_7, .inl (cA_8, 7, .inr (.inl (fun _ => 0)))), (q_9, .inl (cA_10, 8, .inl (fun _ => 0))), (q_11, .inl (cA_12, 7, .inl (fun _ => 0))), (q_13, .inl (cA_14, 7, .inl (fun _ => 0)))] := hD
  refine lv_aload_n hx hb dX9_init_60 rfl (lv_at hl 0 rfl) ?_
  refine lv_bipush (v := 120) hx hb dX9_init_61 (by decide) ?_
  refine va_newa (atype := .int) (ty := .int) (N' := 120) (a0 := (120, .inl (fun _ => 0))) hx hb (hts _ (List.mem_of_getElem? (i := 4) rfl)) rfl hK hP hD hS hA (fun _ => rfl) (by decide) (by decide) (Nat.le_of_ble_eq_true rfl) (Nat.le_of_ble_eq_true rfl) (Nat.le_of_ble_eq_true rfl) dX9_init_63 (fun q_15 cA_16 H hK hP hD hS => ?_)
  refine W.widen (k := 8) (n := 232) (Nat.le_of_ble_eq_true rfl) (Nat.le_of_ble_eq_true rfl) ?_
  have hP : va_P (dC, dI) vwCl [(h0, .inr (7, [.ref q_1, .ref q_3, .ref q_5, .ref q_7, .int 0, .ref q_9, .int 0, .ref q_11, .ref q_13, .int 0, .null, .int 0, .int 0, .int 0, .int 0, .int 0, .int 0, .null, .null, .null, .int 0, .int 0, .int 0, .int 0, .null, .null, .null, .null])), (q_1, .inl (cA_2, 38, .inl (fun _ => 0))), (q_3, .inl (cA_4, 38, .inl (fun _ => 0))), (q_5, .inl (cA_6, 7, .inr (.inl (fun _ => 0)))), (q_7, .inl (cA_8, 7, .inr (.inl (fun _ => 0)))), (q_9, .inl (cA_10, 8, .inl (fun _ => 0))), (q_11, .inl (cA_12, 7, .inl (fun _ => 0))), (q_13, .inl (cA_14, 7, .inl (fun _ => 0))), (q_15, .inl (cA_16, 120, .inl (fun _ => 0)))] H := hP
  have hD : va_D A [(h0, .inr (7, [.ref q_1, .ref q_3, .ref q_5, .ref q_7, .int 0, .ref q_9, .int 0, .ref q_11, .ref q_13, .int 0, .null, .int 0, .int 0, .int 0, .int 0, .int 0, .int 0, .null, .null, .null, .int 0, .int 0, .int 0, .int 0, .null, .null, .null, .null])), (q_1, .inl (cA_2, 38, .inl (fun _ => 0))), (q_3, .inl (cA_4, 38, .inl (fun _ => 0))), (q_5, .inl (cA_6, 7, .inr (.inl (fun _ => 0)))), (q_7, .inl (cA_8, 7, .inr (.inl (fun _ => 0)))), (q_9, .inl (cA_10, 8, .inl (fun _ => 0))), (q_11, .inl (cA_12, 7, .inl (fun _ => 0))), (q_13, .inl (cA_14, 7, .inl (fun _ => 0))), (q_15, .inl (cA_16, 120, .inl (fun _ => 0)))] := hD
  have hK : va_K (dC, dI) vwCl [(cA_2, .int), (cA_4, .int), (cA_6, .long), (cA_8, .long), (cA_10, .int), (cA_12, .int), (cA_14, .int), (cA_16, .int)] s := hK
  refine va_putF (D := (dC, dI)) (ci := 7) (v := .ref q_15) (ty := (.array .int)) (C := RX9) (T := TX9) (N := 28) hx hb hts inX9 tyX9 tyX9_ok nmX9 hown hK hP hD hS 0 rfl rfl 10 (by decide) (hts _ (List.mem_of_getElem? (i := 13) rfl)) (fun _ h9 => h9) rfl hin rfl (by decide +kernel) rfl rfl (Nat.le_of_ble_eq_true rfl) dX9_init_65 (fun H locs hP hD hS => ?_)
  have hP : va_P (dC, dI) vwCl [(h0, .inr (7, [.ref q_1, .ref q_3, .ref q_5, .ref q_7, .int 0, .ref q_9, .int 0, .ref q_11, .ref q_13, .int 0, .ref q_15, .int 0, .int 0, .int 0, .int 0, .int 0, .int 0, .null, .null, .null, .int 0, .int 0, .int 0, .int 0, .null, .null, .null, .null])), (q_1, .inl (cA_2, 38, .inl (fun _ => 0))), (q_3, .inl (cA_4, 38, .inl (fun _ => 0))), (q_5, .inl (cA_6, 7, .inr (.inl (fun _ => 0)))), (q_7, .inl (cA_8, 7, .inr (.inl (fun _ => 0)))), (q_9, .inl (cA_10, 8, .inl (fun _ => 0))), (q_11, .inl (cA_12, 7, .inl (fun _ => 0))), (q_13, .inl (cA_14, 7, .inl (fun _ => 0))), (q_15, .inl (cA_16, 120, .inl (fun _ => 0)))] H := hP
  have hD : va_D A [(h0, .inr (7, [.ref q_1, .ref q_3, .ref q_5, .ref q_7, .int 0, .ref q_9, .int 0, .ref q_11, .ref q_13, .int 0, .ref q_15, .int 0, .int 0, .int 0, .int 0, .int 0, .int 0, .null, .null, .null, .int 0, .int 0, .int 0, .int 0, .null, .null, .null, .null])), (q_1, .inl (cA_2, 38, .inl (fun _ => 0))), (q_3, .inl (cA_4, 38, .inl (fun _ => 0))), (q_5, .inl (cA_6, 7, .inr (.inl (fun _ => 0)))), (q_7, .inl (cA_8, 7, .inr (.inl (fun _ => 0)))), (q_9, .inl (cA_10, 8, .inl (fun _ => 0))), (q_11, .inl (cA_12, 7, .inl (fun _ => 0))), (q_13, .inl (cA_14, 7, .inl (fun _ => 0))), (q_15, .inl (cA_16, 120, .inl (fun _ => 0)))] := hD
  refine lv_aload_n hx hb dX9_init_68 rfl (lv_at hl 0 rfl) ?_
  refine lv_bipush (v := 6) hx hb dX9_init_69 (by decide) ?_
  refine va_newq (C := RJ0) (N' := 6) hx hb hown (hts _ (List.mem_of_getElem? (i := 14) rfl)) (ev_ao hev (by decide +kernel)) hK hP hD hS hA (by decide) (by decide) (Nat.le_of_ble_eq_true rfl) (Nat.le_of_ble_eq_true rfl) (Nat.le_of_ble_eq_true rfl) dX9_init_71 (fun q_17 cA_18 H hK hP hD hS => ?_)
  refine W.widen (k := 9) (n := 238) (Nat.le_of_ble_eq_true rfl) (Nat.le_of_ble_eq_true rfl) ?_
  have hP : va_P (dC, dI) vwCl [(h0, .inr (7, [.ref q_1, .ref q_3, .ref q_5, .ref q_7, .int 0, .ref q_9, .int 0, .ref q_11, .ref q_13, .int 0, .ref q_15, .int 0, .int 0, .int 0, .int 0, .int 0, .int 0, .null, .null, .null, .int 0, .int 0, .int 0, .int 0, .null, .null, .null, .null])), (q_1, .inl (cA_2, 38, .inl (fun _ => 0))), (q_3, .inl (cA_4, 38, .inl (fun _ => 0))), (q_5, .inl (cA_6, 7, .inr (.inl (fun _ => 0)))), (q_7, .inl (cA_8, 7, .inr (.inl (fun _ => 0)))), (q_9, .inl (cA_10, 8, .inl (fun _ => 0))), (q_11, .inl (cA_12, 7, .inl (fun _ => 0))), (q_13, .inl (cA_14, 7, .inl (fun _ => 0))), (q_15, .inl (cA_16, 120, .inl (fun _ => 0))), (q_17, .inl (cA_18, 6, .inr (.inr (.inr (.inr (fun _ => none))))))] H := hP
  have hD : va_D A [(h0, .inr (7, [.ref q_1, .ref q_3, .ref q_5, .ref q_7, .int 0, .ref q_9, .int 0, .ref q_11, .ref q_13, .int 0, .ref q_15, .int 0, .int 0, .int 0, .int 0, .int 0, .int 0, .null, .null, .null, .int 0, .int 0, .int 0, .int 0, .null, .null, .null, .null])), (q_1, .inl (cA_2, 38, .inl (fun _ => 0))), (q_3, .inl (cA_4, 38, .inl (fun _ => 0))), (q_5, .inl (cA_6, 7, .inr (.inl (fun _ => 0)))), (q_7, .inl (cA_8, 7, .inr (.inl (fun _ => 0)))), (q_9, .inl (cA_10, 8, .inl (fun _ => 0))), (q_11, .inl (cA_12, 7, .inl (fun _ => 0))), (q_13, .inl (cA_14, 7, .inl (fun _ => 0))), (q_15, .inl (cA_16, 120, .inl (fun _ => 0))), (q_17, .inl (cA_18, 6, .inr (.inr (.inr (.inr (fun _ => none))))))] := hD
  have hK : va_K (dC, dI) vwCl [(cA_2, .int), (cA_4, .int), (cA_6, .long), (cA_8, .long), (cA_10, .int), (cA_12, .int), (cA_14, .int), (cA_16, .int), (cA_18, .object "java/lang/String")] s := hK
  refine lv_dup hx hb dX9_init_74 rfl ?_
  refine lv_iconst (v := 0) hx hb dX9_init_75 (by decide) ?_
  refine va_ldcS (tx := "shape") (q := ad 13) hx hb hown (ev_str hev 13 rfl) dX9_init_76 ?_
  refine va_astqM hx hb hK hP hD hS 9 8 rfl rfl (sf_any hsf hS 13 (by decide)) (vp_in_nI (n := 0) (by decide) (by decide)) dX9_init_78 (fun H locs hP hD hS => ?_)
  have hP : va_P (dC, dI) vwCl [(h0, .inr (7, [.ref q_1, .ref q_3, .ref q_5, .ref q_7, .int 0, .ref q_9, .int 0, .ref q_11, .ref q_13, .int 0, .ref q_15, .int 0, .int 0, .int 0, .int 0, .int 0, .int 0, .null, .null, .null, .int 0, .int 0, .int 0, .int 0, .null, .null, .null, .null])), (q_1, .inl (cA_2, 38, .inl (fun _ => 0))), (q_3, .inl (cA_4, 38, .inl (fun _ => 0))), (q_5, .inl (cA_6, 7, .inr (.inl (fun _ => 0)))), (q_7, .inl (cA_8, 7, .inr (.inl (fun _ => 0)))), (q_9, .inl (cA_10, 8, .inl (fun _ => 0))), (q_11, .inl (cA_12, 7, .inl (fun _ => 0))), (q_13, .inl (cA_14, 7, .inl (fun _ => 0))), (q_15, .inl (cA_16, 120, .inl (fun _ => 0))), (q_17, .inl (cA_18, 6, .inr (.inr (.inr (.inr (va_up (fun _ => none) 0 (some (ad 13))))))))] H := hP
  have hD : va_D A [(h0, .inr (7, [.ref q_1, .ref q_3, .ref q_5, .ref q_7, .int 0, .ref q_9, .int 0, .ref q_11, .ref q_13, .int 0, .ref q_15, .int 0, .int 0, .int 0, .int 0, .int 0, .int 0, .null, .null, .null, .int 0, .int 0, .int 0, .int 0, .null, .null, .null, .null])), (q_1, .inl (cA_2, 38, .inl (fun _ => 0))), (q_3, .inl (cA_4, 38, .inl (fun _ => 0))), (q_5, .inl (cA_6, 7, .inr (.inl (fun _ => 0)))), (q_7, .inl (cA_8, 7, .inr (.inl (fun _ => 0)))), (q_9, .inl (cA_10, 8, .inl (fun _ => 0))), (q_11, .inl (cA_12, 7, .inl (fun _ => 0))), (q_13, .inl (cA_14, 7, .inl (fun _ => 0))), (q_15, .inl (cA_16, 120, .inl (fun _ => 0))), (q_17, .inl (cA_18, 6, .inr (.inr (.inr (.inr (va_up (fun _ => none) 0 (some (ad 13))))))))] := hD
  refine lv_dup hx hb dX9_init_79 rfl ?_
  refine lv_iconst (v := 1) hx hb dX9_init_80 (by decide) ?_
  refine va_ldcS (tx := "turned") (q := ad 14) hx hb hown (ev_str hev 14 rfl) dX9_init_81 ?_
  refine va_astqM hx hb hK hP hD hS 9 8 rfl rfl (sf_any hsf hS 14 (by decide)) (vp_in_nI (n := 1) (by decide) (by decide)) dX9_init_83 (fun H locs hP hD hS => ?_)
  have hP : va_P (dC, dI) vwCl [(h0, .inr (7, [.ref q_1, .ref q_3, .ref q_5, .ref q_7, .int 0, .ref q_9, .int 0, .ref q_11, .ref q_13, .int 0, .ref q_15, .int 0, .int 0, .int 0, .int 0, .int 0, .int 0, .null, .null, .null, .int 0, .int 0, .int 0, .int 0, .null, .null, .null, .null])), (q_1, .inl (cA_2, 38, .inl (fun _ => 0))), (q_3, .inl (cA_4, 38, .inl (fun _ => 0))), (q_5, .inl (cA_6, 7, .inr (.inl (fun _ => 0)))), (q_7, .inl (cA_8, 7, .inr (.inl (fun _ => 0)))), (q_9, .inl (cA_10, 8, .inl (fun _ => 0))), (q_11, .inl (cA_12, 7, .inl (fun _ => 0))), (q_13, .inl (cA_14, 7, .inl (fun _ => 0))), (q_15, .inl (cA_16, 120, .inl (fun _ => 0))), (q_17, .inl (cA_18, 6, .inr (.inr (.inr (.inr (va_up (va_up (fun _ => none) 0 (some (ad 13))) 1 (some (ad 14))))))))] H := hP
  have hD : va_D A [(h0, .inr (7, [.ref q_1, .ref q_3, .ref q_5, .ref q_7, .int 0, .ref q_9, .int 0, .ref q_11, .ref q_13, .int 0, .ref q_15, .int 0, .int 0, .int 0, .int 0, .int 0, .int 0, .null, .null, .null, .int 0, .int 0, .int 0, .int 0, .null, .null, .null, .null])), (q_1, .inl (cA_2, 38, .inl (fun _ => 0))), (q_3, .inl (cA_4, 38, .inl (fun _ => 0))), (q_5, .inl (cA_6, 7, .inr (.inl (fun _ => 0)))), (q_7, .inl (cA_8, 7, .inr (.inl (fun _ => 0)))), (q_9, .inl (cA_10, 8, .inl (fun _ => 0))), (q_11, .inl (cA_12, 7, .inl (fun _ => 0))), (q_13, .inl (cA_14, 7, .inl (fun _ => 0))), (q_15, .inl (cA_16, 120, .inl (fun _ => 0))), (q_17, .inl (cA_18, 6, .inr (.inr (.inr (.inr (va_up (va_up (fun _ => none) 0 (some (ad 13))) 1 (some (ad 14))))))))] := hD
  refine lv_dup hx hb dX9_init_84 rfl ?_
  refine lv_iconst (v := 2) hx hb dX9_init_85 (by decide) ?_
  refine va_ldcS (tx := "mirrored") (q := ad 15) hx hb hown (ev_str hev 15 rfl) dX9_init_86 ?_
  refine va_astqM hx hb hK hP hD hS 9 8 rfl rfl (sf_any hsf hS 15 (by decide)) (vp_in_nI (n := 2) (by decide) (by decide)) dX9_init_88 (fun H locs hP hD hS => ?_)
  have hP : va_P (dC, dI) vwCl [(h0, .inr (7, [.ref q_1, .ref q_3, .ref q_5, .ref q_7, .int 0, .ref q_9, .int 0, .ref q_11, .ref q_13, .int 0, .ref q_15, .int 0, .int 0, .int 0, .int 0, .int 0, .int 0, .null, .null, .null, .int 0, .int 0, .int 0, .int 0, .null, .null, .null, .null])), (q_1, .inl (cA_2, 38, .inl (fun _ => 0))), (q_3, .inl (cA_4, 38, .inl (fun _ => 0))), (q_5, .inl (cA_6, 7, .inr (.inl (fun _ => 0)))), (q_7, .inl (cA_8, 7, .inr (.inl (fun _ => 0)))), (q_9, .inl (cA_10, 8, .inl (fun _ => 0))), (q_11, .inl (cA_12, 7, .inl (fun _ => 0))), (q_13, .inl (cA_14, 7, .inl (fun _ => 0))), (q_15, .inl (cA_16, 120, .inl (fun _ => 0))), (q_17, .inl (cA_18, 6, .inr (.inr (.inr (.inr (va_up (va_up (va_up (fun _ => none) 0 (some (ad 13))) 1 (some (ad 14))) 2 (some (ad 15))))))))] H := hP
  have hD : va_D A [(h0, .inr (7, [.ref q_1, .ref q_3, .ref q_5, .ref q_7, .int 0, .ref q_9, .int 0, .ref q_11, .ref q_13, .int 0, .ref q_15, .int 0, .int 0, .int 0, .int 0, .int 0, .int 0, .null, .null, .null, .int 0, .int 0, .int 0, .int 0, .null, .null, .null, .null])), (q_1, .inl (cA_2, 38, .inl (fun _ => 0))), (q_3, .inl (cA_4, 38, .inl (fun _ => 0))), (q_5, .inl (cA_6, 7, .inr (.inl (fun _ => 0)))), (q_7, .inl (cA_8, 7, .inr (.inl (fun _ => 0)))), (q_9, .inl (cA_10, 8, .inl (fun _ => 0))), (q_11, .inl (cA_12, 7, .inl (fun _ => 0))), (q_13, .inl (cA_14, 7, .inl (fun _ => 0))), (q_15, .inl (cA_16, 120, .inl (fun _ => 0))), (q_17, .inl (cA_18, 6, .inr (.inr (.inr (.inr (va_up (va_up (va_up (fun _ => none) 0 (some (ad 13))) 1 (some (ad 14))) 2 (some (ad 15))))))))] := hD
  refine lv_dup hx hb dX9_init_89 rfl ?_
  refine lv_iconst (v := 3) hx hb dX9_init_90 (by decide) ?_
  refine va_ldcS (tx := "hollow") (q := ad 16) hx hb hown (ev_str hev 16 rfl) dX9_init_91 ?_
  refine va_astqM hx hb hK hP hD hS 9 8 rfl rfl (sf_any hsf hS 16 (by decide)) (vp_in_nI (n := 3) (by decide) (by decide)) dX9_init_93 (fun H locs hP hD hS => ?_)
  have hP : va_P (dC, dI) vwCl [(h0, .inr (7, [.ref q_1, .ref q_3, .ref q_5, .ref q_7, .int 0, .ref q_9, .int 0, .ref q_11, .ref q_13, .int 0, .ref q_15, .int 0, .int 0, .int 0, .int 0, .int 0, .int 0, .null, .null, .null, .int 0, .int 0, .int 0, .int 0, .null, .null, .null, .null])), (q_1, .inl (cA_2, 38, .inl (fun _ => 0))), (q_3, .inl (cA_4, 38, .inl (fun _ => 0))), (q_5, .inl (cA_6, 7, .inr (.inl (fun _ => 0)))), (q_7, .inl (cA_8, 7, .inr (.inl (fun _ => 0)))), (q_9, .inl (cA_10, 8, .inl (fun _ => 0))), (q_11, .inl (cA_12, 7, .inl (fun _ => 0))), (q_13, .inl (cA_14, 7, .inl (fun _ => 0))), (q_15, .inl (cA_16, 120, .inl (fun _ => 0))), (q_17, .inl (cA_18, 6, .inr (.inr (.inr (.inr (va_up (va_up (va_up (va_up (fun _ => none) 0 (some (ad 13))) 1 (some (ad 14))) 2 (some (ad 15))) 3 (some (ad 16))))))))] H := hP
  have hD : va_D A [(h0, .inr (7, [.ref q_1, .ref q_3, .ref q_5, .ref q_7, .int 0, .ref q_9, .int 0, .ref q_11, .ref q_13, .int 0, .ref q_15, .int 0, .int 0, .int 0, .int 0, .int 0, .int 0, .null, .null, .null, .int 0, .int 0, .int 0, .int 0, .null, .null, .null, .null])), (q_1, .inl (cA_2, 38, .inl (fun _ => 0))), (q_3, .inl (cA_4, 38, .inl (fun _ => 0))), (q_5, .inl (cA_6, 7, .inr (.inl (fun _ => 0)))), (q_7, .inl (cA_8, 7, .inr (.inl (fun _ => 0)))), (q_9, .inl (cA_10, 8, .inl (fun _ => 0))), (q_11, .inl (cA_12, 7, .inl (fun _ => 0))), (q_13, .inl (cA_14, 7, .inl (fun _ => 0))), (q_15, .inl (cA_16, 120, .inl (fun _ => 0))), (q_17, .inl (cA_18, 6, .inr (.inr (.inr (.inr (va_up (va_up (va_up (va_up (fun _ => none) 0 (some (ad 13))) 1 (some (ad 14))) 2 (some (ad 15))) 3 (some (ad 16))))))))] := hD
  refine lv_dup hx hb dX9_init_94 rfl ?_
  refine lv_iconst (v := 4) hx hb dX9_init_95 (by decide) ?_
  refine va_ldcS (tx := "double") (q := ad 17) hx hb hown (ev_str hev 17 rfl) dX9_init_96 ?_
  refine va_astqM hx hb hK hP hD hS 9 8 rfl rfl (sf_any hsf hS 17 (by decide)) (vp_in_nI (n := 4) (by decide) (by decide)) dX9_init_98 (fun H locs hP hD hS => ?_)
  have hP : va_P (dC, dI) vwCl [(h0, .inr (7, [.ref q_1, .ref q_3, .ref q_5, .ref q_7, .int 0, .ref q_9, .int 0, .ref q_11, .ref q_13, .int 0, .ref q_15, .int 0, .int 0, .int 0, .int 0, .int 0, .int 0, .null, .null, .null, .int 0, .int 0, .int 0, .int 0, .null, .null, .null, .null])), (q_1, .inl (cA_2, 38, .inl (fun _ => 0))), (q_3, .inl (cA_4, 38, .inl (fun _ => 0))), (q_5, .inl (cA_6, 7, .inr (.inl (fun _ => 0)))), (q_7, .inl (cA_8, 7, .inr (.inl (fun _ => 0)))), (q_9, .inl (cA_10, 8, .inl (fun _ => 0))), (q_11, .inl (cA_12, 7, .inl (fun _ => 0))), (q_13, .inl (cA_14, 7, .inl (fun _ => 0))), (q_15, .inl (cA_16, 120, .inl (fun _ => 0))), (q_17, .inl (cA_18, 6, .inr (.inr (.inr (.inr (va_up (va_up (va_up (va_up (va_up (fun _ => none) 0 (some (ad 13))) 1 (some (ad 14))) 2 (some (ad 15))) 3 (some (ad 16))) 4 (some (ad 17))))))))] H := hP
  have hD : va_D A [(h0, .inr (7, [.ref q_1, .ref q_3, .ref q_5, .ref q_7, .int 0, .ref q_9, .int 0, .ref q_11, .ref q_13, .int 0, .ref q_15, .int 0, .int 0, .int 0, .int 0, .int 0, .int 0, .null, .null, .null, .int 0, .int 0, .int 0, .int 0, .null, .null, .null, .null])), (q_1, .inl (cA_2, 38, .inl (fun _ => 0))), (q_3, .inl (cA_4, 38, .inl (fun _ => 0))), (q_5, .inl (cA_6, 7, .inr (.inl (fun _ => 0)))), (q_7, .inl (cA_8, 7, .inr (.inl (fun _ => 0)))), (q_9, .inl (cA_10, 8, .inl (fun _ => 0))), (q_11, .inl (cA_12, 7, .inl (fun _ => 0))), (q_13, .inl (cA_14, 7, .inl (fun _ => 0))), (q_15, .inl (cA_16, 120, .inl (fun _ => 0))), (q_17, .inl (cA_18, 6, .inr (.inr (.inr (.inr (va_up (va_up (va_up (va_up (va_up (fun _ => none) 0 (some (ad 13))) 1 (some (ad 14))) 2 (some (ad 15))) 3 (some (ad 16))) 4 (some (ad 17))))))))] := hD
  refine lv_dup hx hb dX9_init_99 rfl ?_
  refine lv_iconst (v := 5) hx hb dX9_init_100 (by decide) ?_
  refine va_ldcS (tx := "filled") (q := ad 18) hx hb hown (ev_str hev 18 rfl) dX9_init_101 ?_
  refine va_astqM hx hb hK hP hD hS 9 8 rfl rfl (sf_any hsf hS 18 (by decide)) (vp_in_nI (n := 5) (by decide) (by decide)) dX9_init_103 (fun H locs hP hD hS => ?_)
  have hP : va_P (dC, dI) vwCl [(h0, .inr (7, [.ref q_1, .ref q_3, .ref q_5, .ref q_7, .int 0, .ref q_9, .int 0, .ref q_11, .ref q_13, .int 0, .ref q_15, .int 0, .int 0, .int 0, .int 0, .int 0, .int 0, .null, .null, .null, .int 0, .int 0, .int 0, .int 0, .null, .null, .null, .null])), (q_1, .inl (cA_2, 38, .inl (fun _ => 0))), (q_3, .inl (cA_4, 38, .inl (fun _ => 0))), (q_5, .inl (cA_6, 7, .inr (.inl (fun _ => 0)))), (q_7, .inl (cA_8, 7, .inr (.inl (fun _ => 0)))), (q_9, .inl (cA_10, 8, .inl (fun _ => 0))), (q_11, .inl (cA_12, 7, .inl (fun _ => 0))), (q_13, .inl (cA_14, 7, .inl (fun _ => 0))), (q_15, .inl (cA_16, 120, .inl (fun _ => 0))), (q_17, .inl (cA_18, 6, .inr (.inr (.inr (.inr (va_up (va_up (va_up (va_up (va_up (va_up (fun _ => none) 0 (some (ad 13))) 1 (some (ad 14))) 2 (some (ad 15))) 3 (some (ad 16))) 4 (some (ad 17))) 5 (some (ad 18))))))))] H := hP
  have hD : va_D A [(h0, .inr (7, [.ref q_1, .ref q_3, .ref q_5, .ref q_7, .int 0, .ref q_9, .int 0, .ref q_11, .ref q_13, .int 0, .ref q_15, .int 0, .int 0, .int 0, .int 0, .int 0, .int 0, .null, .null, .null, .int 0, .int 0, .int 0, .int 0, .null, .null, .null, .null])), (q_1, .inl (cA_2, 38, .inl (fun _ => 0))), (q_3, .inl (cA_4, 38, .inl (fun _ => 0))), (q_5, .inl (cA_6, 7, .inr (.inl (fun _ => 0)))), (q_7, .inl (cA_8, 7, .inr (.inl (fun _ => 0)))), (q_9, .inl (cA_10, 8, .inl (fun _ => 0))), (q_11, .inl (cA_12, 7, .inl (fun _ => 0))), (q_13, .inl (cA_14, 7, .inl (fun _ => 0))), (q_15, .inl (cA_16, 120, .inl (fun _ => 0))), (q_17, .inl (cA_18, 6, .inr (.inr (.inr (.inr (va_up (va_up (va_up (va_up (va_up (va_up (fun _ => none) 0 (some (ad 13))) 1 (some (ad 14))) 2 (some (ad 15))) 3 (some (ad 16))) 4 (some (ad 17))) 5 (some (ad 18))))))))] := hD
  refine va_putF (D := (dC, dI)) (ci := 7) (v := .ref q_17) (ty := (.array (.object "java/lang/String"))) (C := RX9) (T := TX9) (N := 28) hx hb hts inX9 tyX9 tyX9_ok nmX9 hown hK hP hD hS 0 rfl rfl 17 (by decide) (hts _ (List.mem_of_getElem? (i := 15) rfl)) (fun _ h9 => h9) rfl hin rfl (by decide +kernel) rfl rfl (Nat.le_of_ble_eq_true rfl) dX9_init_104 (fun H locs hP hD hS => ?_)
  have hP : va_P (dC, dI) vwCl [(h0, .inr (7, [.ref q_1, .ref q_3, .ref q_5, .ref q_7, .int 0, .ref q_9, .int 0, .ref q_11, .ref q_13, .int 0, .ref q_15, .int 0, .int 0, .int 0, .int 0, .int 0, .int 0, .ref q_17, .null, .null, .int 0, .int 0, .int 0, .int 0, .null, .null, .null, .null])), (q_1, .inl (cA_2, 38, .inl (fun _ => 0))), (q_3, .inl (cA_4, 38, .inl (fun _ => 0))), (q_5, .inl (cA_6, 7, .inr (.inl (fun _ => 0)))), (q_7, .inl (cA_8, 7, .inr (.inl (fun _ => 0)))), (q_9, .inl (cA_10, 8, .inl (fun _ => 0))), (q_11, .inl (cA_12, 7, .inl (fun _ => 0))), (q_13, .inl (cA_14, 7, .inl (fun _ => 0))), (q_15, .inl (cA_16, 120, .inl (fun _ => 0))), (q_17, .inl (cA_18, 6, .inr (.inr (.inr (.inr (va_up (va_up (va_up (va_up (va_up (va_up (fun _ => none) 0 (some (ad 13))) 1 (some (ad 14))) 2 (some (ad 15))) 3 (some (ad 16))) 4 (some (ad 17))) 5 (some (ad 18))))))))] H := hP
  have hD : va_D A [(h0, .inr (7, [.ref q_1, .ref q_3, .ref q_5, .ref q_7, .int 0, .ref q_9, .int 0, .ref q_11, .ref q_13, .int 0, .ref q_15, .int 0, .int 0, .int 0, .int 0, .int 0, .int 0, .ref q_17, .null, .null, .int 0, .int 0, .int 0, .int 0, .null, .null, .null, .null])), (q_1, .inl (cA_2, 38, .inl (fun _ => 0))), (q_3, .inl (cA_4, 38, .inl (fun _ => 0))), (q_5, .inl (cA_6, 7, .inr (.inl (fun _ => 0)))), (q_7, .inl (cA_8, 7, .inr (.inl (fun _ => 0)))), (q_9, .inl (cA_10, 8, .inl (fun _ => 0))), (q_11, .inl (cA_12, 7, .inl (fun _ => 0))), (q_13, .inl (cA_14, 7, .inl (fun _ => 0))), (q_15, .inl (cA_16, 120, .inl (fun _ => 0))), (q_17, .inl (cA_18, 6, .inr (.inr (.inr (.inr (va_up (va_up (va_up (va_up (va_up (va_up (fun _ => none) 0 (some (ad 13))) 1 (some (ad 14))) 2 (some (ad 15))) 3 (some (ad 16))) 4 (some (ad 17))) 5 (some (ad 18))))))))] := hD
  refine lv_aload_n hx hb dX9_init_107 rfl (lv_at hl 0 rfl) ?_
  refine lv_sipush (v := 360) hx hb dX9_init_108 (by decide) ?_
  refine va_newa (atype := .int) (ty := .int) (N' := 360) (a0 := (360, .inl (fun _ => 0))) hx hb (hts _ (List.mem_of_getElem? (i := 4) rfl)) rfl hK hP hD hS hA (fun _ => rfl) (by decide) (by decide) (Nat.le_of_ble_eq_true rfl) (Nat.le_of_ble_eq_true rfl) (Nat.le_of_ble_eq_true rfl) dX9_init_111 (fun q_19 cA_20 H hK hP hD hS => ?_)
  refine W.widen (k := 10) (n := 598) (Nat.le_of_ble_eq_true rfl) (Nat.le_of_ble_eq_true rfl) ?_
  have hP : va_P (dC, dI) vwCl [(h0, .inr (7, [.ref q_1, .ref q_3, .ref q_5, .ref q_7, .int 0, .ref q_9, .int 0, .ref q_11, .ref q_13, .int 0, .ref q_15, .int 0, .int 0, .int 0, .int 0, .int 0, .int 0, .ref q_17, .null, .null, .int 0, .int 0, .int 0, .int 0, .null, .null, .null, .null])), (q_1, .inl (cA_2, 38, .inl (fun _ => 0))), (q_3, .inl (cA_4, 38, .inl (fun _ => 0))), (q_5, .inl (cA_6, 7, .inr (.inl (fun _ => 0)))), (q_7, .inl (cA_8, 7, .inr (.inl (fun _ => 0)))), (q_9, .inl (cA_10, 8, .inl (fun _ => 0))), (q_11, .inl (cA_12, 7, .inl (fun _ => 0))), (q_13, .inl (cA_14, 7, .inl (fun _ => 0))), (q_15, .inl (cA_16, 120, .inl (fun _ => 0))), (q_17, .inl (cA_18, 6, .inr (.inr (.inr (.inr (va_up (va_up (va_up (va_up (va_up (va_up (fun _ => none) 0 (some (ad 13))) 1 (some (ad 14))) 2 (some (ad 15))) 3 (some (ad 16))) 4 (some (ad 17))) 5 (some (ad 18)))))))), (q_19, .inl (cA_20, 360, .inl (fun _ => 0)))] H := hP
  have hD : va_D A [(h0, .inr (7, [.ref q_1, .ref q_3, .ref q_5, .ref q_7, .int 0, .ref q_9, .int 0, .ref q_11, .ref q_13, .int 0, .ref q_15, .int 0, .int 0, .int 0, .int 0, .int 0, .int 0, .ref q_17, .null, .null, .int 0, .int 0, .int 0, .int 0, .null, .null, .null, .null])), (q_1, .inl (cA_2, 38, .inl (fun _ => 0))), (q_3, .inl (cA_4, 38, .inl (fun _ => 0))), (q_5, .inl (cA_6, 7, .inr (.inl (fun _ => 0)))), (q_7, .inl (cA_8, 7, .inr (.inl (fun _ => 0)))), (q_9, .inl (cA_10, 8, .inl (fun _ => 0))), (q_11, .inl (cA_12, 7, .inl (fun _ => 0))), (q_13, .inl (cA_14, 7, .inl (fun _ => 0))), (q_15, .inl (cA_16, 120, .inl (fun _ => 0))), (q_17, .inl (cA_18, 6, .inr (.inr (.inr (.inr (va_up (va_up (va_up (va_up (va_up (va_up (fun _ => none) 0 (some (ad 13))) 1 (some (ad 14))) 2 (some (ad 15))) 3 (some (ad 16))) 4 (some (ad 17))) 5 (some (ad 18)))))))), (q_19, .inl (cA_20, 360, .inl (fun _ => 0)))] := hD
  have hK : va_K (dC, dI) vwCl [(cA_2, .int), (cA_4, .int), (cA_6, .long), (cA_8, .long), (cA_10, .int), (cA_12, .int), (cA_14, .int), (cA_16, .int), (cA_18, .object "java/lang/String"), (cA_20, .int)] s := hK
  refine va_putF (D := (dC, dI)) (ci := 7) (v := .ref q_19) (ty := (.array .int)) (C := RX9) (T := TX9) (N := 28) hx hb hts inX9 tyX9 tyX9_ok nmX9 hown hK hP hD hS 0 rfl rfl 18 (by decide) (hts _ (List.mem_of_getElem? (i := 16) rfl)) (fun _ h9 => h9) rfl hin rfl (by decide +kernel) rfl rfl (Nat.le_of_ble_eq_true rfl) dX9_init_113 (fun H locs hP hD hS => ?_)
  have hP : va_P (dC, dI) vwCl [(h0, .inr (7, [.ref q_1, .ref q_3, .ref q_5, .ref q_7, .int 0, .ref q_9, .int 0, .ref q_11, .ref q_13, .int 0, .ref q_15, .int 0, .int 0, .int 0, .int 0, .int 0, .int 0, .ref q_17, .ref q_19, .null, .int 0, .int 0, .int 0, .int 0, .null, .null, .null, .null])), (q_1, .inl (cA_2, 38, .inl (fun _ => 0))), (q_3, .inl (cA_4, 38, .inl (fun _ => 0))), (q_5, .inl (cA_6, 7, .inr (.inl (fun _ => 0)))), (q_7, .inl (cA_8, 7, .inr (.inl (fun _ => 0)))), (q_9, .inl (cA_10, 8, .inl (fun _ => 0))), (q_11, .inl (cA_12, 7, .inl (fun _ => 0))), (q_13, .inl (cA_14, 7, .inl (fun _ => 0))), (q_15, .inl (cA_16, 120, .inl (fun _ => 0))), (q_17, .inl (cA_18, 6, .inr (.inr (.inr (.inr (va_up (va_up (va_up (va_up (va_up (va_up (fun _ => none) 0 (some (ad 13))) 1 (some (ad 14))) 2 (some (ad 15))) 3 (some (ad 16))) 4 (some (ad 17))) 5 (some (ad 18)))))))), (q_19, .inl (cA_20, 360, .inl (fun _ => 0)))] H := hP
  have hD : va_D A [(h0, .inr (7, [.ref q_1, .ref q_3, .ref q_5, .ref q_7, .int 0, .ref q_9, .int 0, .ref q_11, .ref q_13, .int 0, .ref q_15, .int 0, .int 0, .int 0, .int 0, .int 0, .int 0, .ref q_17, .ref q_19, .null, .int 0, .int 0, .int 0, .int 0, .null, .null, .null, .null])), (q_1, .inl (cA_2, 38, .inl (fun _ => 0))), (q_3, .inl (cA_4, 38, .inl (fun _ => 0))), (q_5, .inl (cA_6, 7, .inr (.inl (fun _ => 0)))), (q_7, .inl (cA_8, 7, .inr (.inl (fun _ => 0)))), (q_9, .inl (cA_10, 8, .inl (fun _ => 0))), (q_11, .inl (cA_12, 7, .inl (fun _ => 0))), (q_13, .inl (cA_14, 7, .inl (fun _ => 0))), (q_15, .inl (cA_16, 120, .inl (fun _ => 0))), (q_17, .inl (cA_18, 6, .inr (.inr (.inr (.inr (va_up (va_up (va_up (va_up (va_up (va_up (fun _ => none) 0 (some (ad 13))) 1 (some (ad 14))) 2 (some (ad 15))) 3 (some (ad 16))) 4 (some (ad 17))) 5 (some (ad 18)))))))), (q_19, .inl (cA_20, 360, .inl (fun _ => 0)))] := hD
  refine lv_aload_n hx hb dX9_init_116 rfl (lv_at hl 0 rfl) ?_
  refine lv_bipush (v := 120) hx hb dX9_init_117 (by decide) ?_
  refine va_newa (atype := .long) (ty := .long) (N' := 120) (a0 := (120, .inr (.inl (fun _ => 0)))) hx hb (hts _ (List.mem_of_getElem? (i := 7) rfl)) rfl hK hP hD hS hA (fun _ => rfl) (by decide) (by decide) (Nat.le_of_ble_eq_true rfl) (Nat.le_of_ble_eq_true rfl) (Nat.le_of_ble_eq_true rfl) dX9_init_119 (fun q_21 cA_22 H hK hP hD hS => ?_)
  refine W.widen (k := 11) (n := 718) (Nat.le_of_ble_eq_true rfl) (Nat.le_of_ble_eq_true rfl) ?_
  have hP : va_P (dC, dI) vwCl [(h0, .inr (7, [.ref q_1, .ref q_3, .ref q_5, .ref q_7, .int 0, .ref q_9, .int 0, .ref q_11, .ref q_13, .int 0, .ref q_15, .int 0, .int 0, .int 0, .int 0, .int 0, .int 0, .ref q_17, .ref q_19, .null, .int 0, .int 0, .int 0, .int 0, .null, .null, .null, .null])), (q_1, .inl (cA_2, 38, .inl (fun _ => 0))), (q_3, .inl (cA_4, 38, .inl (fun _ => 0))), (q_5, .inl (cA_6, 7, .inr (.inl (fun _ => 0)))), (q_7, .inl (cA_8, 7, .inr (.inl (fun _ => 0)))), (q_9, .inl (cA_10, 8, .inl (fun _ => 0))), (q_11, .inl (cA_12, 7, .inl (fun _ => 0))), (q_13, .inl (cA_14, 7, .inl (fun _ => 0))), (q_15, .inl (cA_16, 120, .inl (fun _ => 0))), (q_17, .inl (cA_18, 6, .inr (.inr (.inr (.inr (va_up (va_up (va_up (va_up (va_up (va_up (fun _ => none) 0 (some (ad 13))) 1 (some (ad 14))) 2 (some (ad 15))) 3 (some (ad 16))) 4 (some (ad 17))) 5 (some (ad 18)))))))), (q_19, .inl (cA_20, 360, .inl (fun _ => 0))), (q_21, .inl (cA_22, 120, .inr (.inl (fun _ => 0))))] H := hP
  have hD : va_D A [(h0, .inr (7, [.ref q_1, .ref q_3, .ref q_5, .ref q_7, .int 0, .ref q_9, .int 0, .ref q_11, .ref q_13, .int 0, .ref q_15, .int 0, .int 0, .int 0, .int 0, .int 0, .int 0, .ref q_17, .ref q_19, .null, .int 0, .int 0, .int 0, .int 0, .null, .null, .null, .null])), (q_1, .inl (cA_2, 38, .inl (fun _ => 0))), (q_3, .inl (cA_4, 38, .inl (fun _ => 0))), (q_5, .inl (cA_6, 7, .inr (.inl (fun _ => 0)))), (q_7, .inl (cA_8, 7, .inr (.inl (fun _ => 0)))), (q_9, .inl (cA_10, 8, .inl (fun _ => 0))), (q_11, .inl (cA_12, 7, .inl (fun _ => 0))), (q_13, .inl (cA_14, 7, .inl (fun _ => 0))), (q_15, .inl (cA_16, 120, .inl (fun _ => 0))), (q_17, .inl (cA_18, 6, .inr (.inr (.inr (.inr (va_up (va_up (va_up (va_up (va_up (va_up (fun _ => none) 0 (some (ad 13))) 1 (some (ad 14))) 2 (some (ad 15))) 3 (some (ad 16))) 4 (some (ad 17))) 5 (some (ad 18)))))))), (q_19, .inl (cA_20, 360, .inl (fun _ => 0))), (q_21, .inl (cA_22, 120, .inr (.inl (fun _ => 0))))] := hD
  have hK : va_K (dC, dI) vwCl [(cA_2, .int), (cA_4, .int), (cA_6, .long), (cA_8, .long), (cA_10, .int), (cA_12, .int), (cA_14, .int), (cA_16, .int), (cA_18, .object "java/lang/String"), (cA_20, .int), (cA_22, .long)] s := hK
  refine va_putF (D := (dC, dI)) (ci := 7) (v := .ref q_21) (ty := (.array .long)) (C := RX9) (T := TX9) (N := 28) hx hb hts inX9 tyX9 tyX9_ok nmX9 hown hK hP hD hS 0 rfl rfl 19 (by decide) (hts _ (List.mem_of_getElem? (i := 17) rfl)) (fun _ h9 => h9) rfl hin rfl (by decide +kernel) rfl rfl (Nat.le_of_ble_eq_true rfl) dX9_init_121 (fun H locs hP hD hS => ?_)
  have hP : va_P (dC, dI) vwCl [(h0, .inr (7, [.ref q_1, .ref q_3, .ref q_5, .ref q_7, .int 0, .ref q_9, .int 0, .ref q_11, .ref q_13, .int 0, .ref q_15, .int 0, .int 0, .int 0, .int 0, .int 0, .int 0, .ref q_17, .ref q_19, .ref q_21, .int 0, .int 0, .int 0, .int 0, .null, .null, .null, .null])), (q_1, .inl (cA_2, 38, .inl (fun _ => 0))), (q_3, .inl (cA_4, 38, .inl (fun _ => 0))), (q_5, .inl (cA_6, 7, .inr (.inl (fun _ => 0)))), (q_7, .inl (cA_8, 7, .inr (.inl (fun _ => 0)))), (q_9, .inl (cA_10, 8, .inl (fun _ => 0))), (q_11, .inl (cA_12, 7, .inl (fun _ => 0))), (q_13, .inl (cA_14, 7, .inl (fun _ => 0))), (q_15, .inl (cA_16, 120, .inl (fun _ => 0))), (q_17, .inl (cA_18, 6, .inr (.inr (.inr (.inr (va_up (va_up (va_up (va_up (va_up (va_up (fun _ => none) 0 (some (ad 13))) 1 (some (ad 14))) 2 (some (ad 15))) 3 (some (ad 16))) 4 (some (ad 17))) 5 (some (ad 18)))))))), (q_19, .inl (cA_20, 360, .inl (fun _ => 0))), (q_21, .inl (cA_22, 120, .inr (.inl (fun _ => 0))))] H := hP
  have hD : va_D A [(h0, .inr (7, [.ref q_1, .ref q_3, .ref q_5, .ref q_7, .int 0, .ref q_9, .int 0, .ref q_11, .ref q_13, .int 0, .ref q_15, .int 0, .int 0, .int 0, .int 0, .int 0, .int 0, .ref q_17, .ref q_19, .ref q_21, .int 0, .int 0, .int 0, .int 0, .null, .null, .null, .null])), (q_1, .inl (cA_2, 38, .inl (fun _ => 0))), (q_3, .inl (cA_4, 38, .inl (fun _ => 0))), (q_5, .inl (cA_6, 7, .inr (.inl (fun _ => 0)))), (q_7, .inl (cA_8, 7, .inr (.inl (fun _ => 0)))), (q_9, .inl (cA_10, 8, .inl (fun _ => 0))), (q_11, .inl (cA_12, 7, .inl (fun _ => 0))), (q_13, .inl (cA_14, 7, .inl (fun _ => 0))), (q_15, .inl (cA_16, 120, .inl (fun _ => 0))), (q_17, .inl (cA_18, 6, .inr (.inr (.inr (.inr (va_up (va_up (va_up (va_up (va_up (va_up (fun _ => none) 0 (some (ad 13))) 1 (some (ad 14))) 2 (some (ad 15))) 3 (some (ad 16))) 4 (some (ad 17))) 5 (some (ad 18)))))))), (q_19, .inl (cA_20, 360, .inl (fun _ => 0))), (q_21, .inl (cA_22, 120, .inr (.inl (fun _ => 0))))] := hD
  refine lv_aload_n hx hb dX9_init_124 rfl (lv_at hl 0 rfl) ?_
  refine lv_iconst (v := 4) hx hb dX9_init_125 (by decide) ?_
  refine va_newa (atype := .int) (ty := .int) (N' := 4) (a0 := (4, .inl (fun _ => 0))) hx hb (hts _ (List.mem_of_getElem? (i := 4) rfl)) rfl hK hP hD hS hA (fun _ => rfl) (by decide) (by decide) (Nat.le_of_ble_eq_true rfl) (Nat.le_of_ble_eq_true rfl) (Nat.le_of_ble_eq_true rfl) dX9_init_126 (fun q_23 cA_24 H hK hP hD hS => ?_)
  refine W.widen (k := 12) (n := 722) (Nat.le_of_ble_eq_true rfl) (Nat.le_of_ble_eq_true rfl) ?_
  have hP : va_P (dC, dI) vwCl [(h0, .inr (7, [.ref q_1, .ref q_3, .ref q_5, .ref q_7, .int 0, .ref q_9, .int 0, .ref q_11, .ref q_13, .int 0, .ref q_15, .int 0, .int 0, .int 0, .int 0, .int 0, .int 0, .ref q_17, .ref q_19, .ref q_21, .int 0, .int 0, .int 0, .int 0, .null, .null, .null, .null])), (q_1, .inl (cA_2, 38, .inl (fun _ => 0))), (q_3, .inl (cA_4, 38, .inl (fun _ => 0))), (q_5, .inl (cA_6, 7, .inr (.inl (fun _ => 0)))), (q_7, .inl (cA_8, 7, .inr (.inl (fun _ => 0)))), (q_9, .inl (cA_10, 8, .inl (fun _ => 0))), (q_11, .inl (cA_12, 7, .inl (fun _ => 0))), (q_13, .inl (cA_14, 7, .inl (fun _ => 0))), (q_15, .inl (cA_16, 120, .inl (fun _ => 0))), (q_17, .inl (cA_18, 6, .inr (.inr (.inr (.inr (va_up (va_up (va_up (va_up (va_up (va_up (fun _ => none) 0 (some (ad 13))) 1 (some (ad 14))) 2 (some (ad 15))) 3 (some (ad 16))) 4 (some (ad 17))) 5 (some (ad 18)))))))), (q_19, .inl (cA_20, 360, .inl (fun _ => 0))), (q_21, .inl (cA_22, 120, .inr (.inl (fun _ => 0)))), (q_23, .inl (cA_24, 4, .inl (fun _ => 0)))] H := hP
  have hD : va_D A [(h0, .inr (7, [.ref q_1, .ref q_3, .ref q_5, .ref q_7, .int 0, .ref q_9, .int 0, .ref q_11, .ref q_13, .int 0, .ref q_15, .int 0, .int 0, .int 0, .int 0, .int 0, .int 0, .ref q_17, .ref q_19, .ref q_21, .int 0, .int 0, .int 0, .int 0, .null, .null, .null, .null])), (q_1, .inl (cA_2, 38, .inl (fun _ => 0))), (q_3, .inl (cA_4, 38, .inl (fun _ => 0))), (q_5, .inl (cA_6, 7, .inr (.inl (fun _ => 0)))), (q_7, .inl (cA_8, 7, .inr (.inl (fun _ => 0)))), (q_9, .inl (cA_10, 8, .inl (fun _ => 0))), (q_11, .inl (cA_12, 7, .inl (fun _ => 0))), (q_13, .inl (cA_14, 7, .inl (fun _ => 0))), (q_15, .inl (cA_16, 120, .inl (fun _ => 0))), (q_17, .inl (cA_18, 6, .inr (.inr (.inr (.inr (va_up (va_up (va_up (va_up (va_up (va_up (fun _ => none) 0 (some (ad 13))) 1 (some (ad 14))) 2 (some (ad 15))) 3 (some (ad 16))) 4 (some (ad 17))) 5 (some (ad 18)))))))), (q_19, .inl (cA_20, 360, .inl (fun _ => 0))), (q_21, .inl (cA_22, 120, .inr (.inl (fun _ => 0)))), (q_23, .inl (cA_24, 4, .inl (fun _ => 0)))] := hD
  have hK : va_K (dC, dI) vwCl [(cA_2, .int), (cA_4, .int), (cA_6, .long), (cA_8, .long), (cA_10, .int), (cA_12, .int), (cA_14, .int), (cA_16, .int), (cA_18, .object "java/lang/String"), (cA_20, .int), (cA_22, .long), (cA_24, .int)] s := hK
  refine va_putF (D := (dC, dI)) (ci := 7) (v := .ref q_23) (ty := (.array .int)) (C := RX9) (T := TX9) (N := 28) hx hb hts inX9 tyX9 tyX9_ok nmX9 hown hK hP hD hS 0 rfl rfl 24 (by decide) (hts _ (List.mem_of_getElem? (i := 18) rfl)) (fun _ h9 => h9) rfl hin rfl (by decide +kernel) rfl rfl (Nat.le_of_ble_eq_true rfl) dX9_init_128 (fun H locs hP hD hS => ?_)
  have hP : va_P (dC, dI) vwCl [(h0, .inr (7, [.ref q_1, .ref q_3, .ref q_5, .ref q_7, .int 0, .ref q_9, .int 0, .ref q_11, .ref q_13, .int 0, .ref q_15, .int 0, .int 0, .int 0, .int 0, .int 0, .int 0, .ref q_17, .ref q_19, .ref q_21, .int 0, .int 0, .int 0, .int 0, .ref q_23, .null, .null, .null])), (q_1, .inl (cA_2, 38, .inl (fun _ => 0))), (q_3, .inl (cA_4, 38, .inl (fun _ => 0))), (q_5, .inl (cA_6, 7, .inr (.inl (fun _ => 0)))), (q_7, .inl (cA_8, 7, .inr (.inl (fun _ => 0)))), (q_9, .inl (cA_10, 8, .inl (fun _ => 0))), (q_11, .inl (cA_12, 7, .inl (fun _ => 0))), (q_13, .inl (cA_14, 7, .inl (fun _ => 0))), (q_15, .inl (cA_16, 120, .inl (fun _ => 0))), (q_17, .inl (cA_18, 6, .inr (.inr (.inr (.inr (va_up (va_up (va_up (va_up (va_up (va_up (fun _ => none) 0 (some (ad 13))) 1 (some (ad 14))) 2 (some (ad 15))) 3 (some (ad 16))) 4 (some (ad 17))) 5 (some (ad 18)))))))), (q_19, .inl (cA_20, 360, .inl (fun _ => 0))), (q_21, .inl (cA_22, 120, .inr (.inl (fun _ => 0)))), (q_23, .inl (cA_24, 4, .inl (fun _ => 0)))] H := hP
  have hD : va_D A [(h0, .inr (7, [.ref q_1, .ref q_3, .ref q_5, .ref q_7, .int 0, .ref q_9, .int 0, .ref q_11, .ref q_13, .int 0, .ref q_15, .int 0, .int 0, .int 0, .int 0, .int 0, .int 0, .ref q_17, .ref q_19, .ref q_21, .int 0, .int 0, .int 0, .int 0, .ref q_23, .null, .null, .null])), (q_1, .inl (cA_2, 38, .inl (fun _ => 0))), (q_3, .inl (cA_4, 38, .inl (fun _ => 0))), (q_5, .inl (cA_6, 7, .inr (.inl (fun _ => 0)))), (q_7, .inl (cA_8, 7, .inr (.inl (fun _ => 0)))), (q_9, .inl (cA_10, 8, .inl (fun _ => 0))), (q_11, .inl (cA_12, 7, .inl (fun _ => 0))), (q_13, .inl (cA_14, 7, .inl (fun _ => 0))), (q_15, .inl (cA_16, 120, .inl (fun _ => 0))), (q_17, .inl (cA_18, 6, .inr (.inr (.inr (.inr (va_up (va_up (va_up (va_up (va_up (va_up (fun _ => none) 0 (some (ad 13))) 1 (some (ad 14))) 2 (some (ad 15))) 3 (some (ad 16))) 4 (some (ad 17))) 5 (some (ad 18)))))))), (q_19, .inl (cA_20, 360, .inl (fun _ => 0))), (q_21, .inl (cA_22, 120, .inr (.inl (fun _ => 0)))), (q_23, .inl (cA_24, 4, .inl (fun _ => 0)))] := hD
  refine lv_aload_n hx hb dX9_init_131 rfl (lv_at hl 0 rfl) ?_
  refine lv_iconst (v := 4) hx hb dX9_init_132 (by decide) ?_
  refine va_newa (atype := .int) (ty := .int) (N' := 4) (a0 := (4, .inl (fun _ => 0))) hx hb (hts _ (List.mem_of_getElem? (i := 4) rfl)) rfl hK hP hD hS hA (fun _ => rfl) (by decide) (by decide) (Nat.le_of_ble_eq_true rfl) (Nat.le_of_ble_eq_true rfl) (Nat.le_of_ble_eq_true rfl) dX9_init_133 (fun q_25 cA_26 H hK hP hD hS => ?_)
  refine W.widen (k := 13) (n := 726) (Nat.le_of_ble_eq_true rfl) (Nat.le_of_ble_eq_true rfl) ?_
  have hP : va_P (dC, dI) vwCl [(h0, .inr (7, [.ref q_1, .ref q_3, .ref q_5, .ref q_7, .int 0, .ref q_9, .int 0, .ref q_11, .ref q_13, .int 0, .ref q_15, .int 0, .int 0, .int 0, .int 0, .int 0, .int 0, .ref q_17, .ref q_19, .ref q_21, .int 0, .int 0, .int 0, .int 0, .ref q_23, .null, .null, .null])), (q_1, .inl (cA_2, 38, .inl (fun _ => 0))), (q_3, .inl (cA_4, 38, .inl (fun _ => 0))), (q_5, .inl (cA_6, 7, .inr (.inl (fun _ => 0)))), (q_7, .inl (cA_8, 7, .inr (.inl (fun _ => 0)))), (q_9, .inl (cA_10, 8, .inl (fun _ => 0))), (q_11, .inl (cA_12, 7, .inl (fun _ => 0))), (q_13, .inl (cA_14, 7, .inl (fun _ => 0))), (q_15, .inl (cA_16, 120, .inl (fun _ => 0))), (q_17, .inl (cA_18, 6, .inr (.inr (.inr (.inr (va_up (va_up (va_up (va_up (va_up (va_up (fun _ => none) 0 (some (ad 13))) 1 (some (ad 14))) 2 (some (ad 15))) 3 (some (ad 16))) 4 (some (ad 17))) 5 (some (ad 18)))))))), (q_19, .inl (cA_20, 360, .inl (fun _ => 0))), (q_21, .inl (cA_22, 120, .inr (.inl (fun _ => 0)))), (q_23, .inl (cA_24, 4, .inl (fun _ => 0))), (q_25, .inl (cA_26, 4, .inl (fun _ => 0)))] H := hP
  have hD : va_D A [(h0, .inr (7, [.ref q_1, .ref q_3, .ref q_5, .ref q_7, .int 0, .ref q_9, .int 0, .ref q_11, .ref q_13, .int 0, .ref q_15, .int 0, .int 0, .int 0, .int 0, .int 0, .int 0, .ref q_17, .ref q_19, .ref q_21, .int 0, .int 0, .int 0, .int 0, .ref q_23, .null, .null, .null])), (q_1, .inl (cA_2, 38, .inl (fun _ => 0))), (q_3, .inl (cA_4, 38, .inl (fun _ => 0))), (q_5, .inl (cA_6, 7, .inr (.inl (fun _ => 0)))), (q_7, .inl (cA_8, 7, .inr (.inl (fun _ => 0)))), (q_9, .inl (cA_10, 8, .inl (fun _ => 0))), (q_11, .inl (cA_12, 7, .inl (fun _ => 0))), (q_13, .inl (cA_14, 7, .inl (fun _ => 0))), (q_15, .inl (cA_16, 120, .inl (fun _ => 0))), (q_17, .inl (cA_18, 6, .inr (.inr (.inr (.inr (va_up (va_up (va_up (va_up (va_up (va_up (fun _ => none) 0 (some (ad 13))) 1 (some (ad 14))) 2 (some (ad 15))) 3 (some (ad 16))) 4 (some (ad 17))) 5 (some (ad 18)))))))), (q_19, .inl (cA_20, 360, .inl (fun _ => 0))), (q_21, .inl (cA_22, 120, .inr (.inl (fun _ => 0)))), (q_23, .inl (cA_24, 4, .inl (fun _ => 0))), (q_25, .inl (cA_26, 4, .inl (fun _ => 0)))] := hD
  have hK : va_K (dC, dI) vwCl [(cA_2, .int), (cA_4, .int), (cA_6, .long), (cA_8, .long), (cA_10, .int), (cA_12, .int), (cA_14, .int), (cA_16, .int), (cA_18, .object "java/lang/String"), (cA_20, .int), (cA_22, .long), (cA_24, .int), (cA_26, .int)] s := hK
  refine va_putF (D := (dC, dI)) (ci := 7) (v := .ref q_25) (ty := (.array .int)) (C := RX9) (T := TX9) (N := 28) hx hb hts inX9 tyX9 tyX9_ok nmX9 hown hK hP hD hS 0 rfl rfl 25 (by decide) (hts _ (List.mem_of_getElem? (i := 19) rfl)) (fun _ h9 => h9) rfl hin rfl (by decide +kernel) rfl rfl (Nat.le_of_ble_eq_true rfl) dX9_init_135 (fun H locs hP hD hS => ?_)
  have hP : va_P (dC, dI) vwCl [(h0, .inr (7, [.ref q_1, .ref q_3, .ref q_5, .ref q_7, .int 0, .ref q_9, .int 0, .ref q_11, .ref q_13, .int 0, .ref q_15, .int 0, .int 0, .int 0, .int 0, .int 0, .int 0, .ref q_17, .ref q_19, .ref q_21, .int 0, .int 0, .int 0, .int 0, .ref q_23, .ref q_25, .null, .null])), (q_1, .inl (cA_2, 38, .inl (fun _ => 0))), (q_3, .inl (cA_4, 38, .inl (fun _ => 0))), (q_5, .inl (cA_6, 7, .inr (.inl (fun _ => 0)))), (q_7, .inl (cA_8, 7, .inr (.inl (fun _ => 0)))), (q_9, .inl (cA_10, 8, .inl (fun _ => 0))), (q_11, .inl (cA_12, 7, .inl (fun _ => 0))), (q_13, .inl (cA_14, 7, .inl (fun _ => 0))), (q_15, .inl (cA_16, 120, .inl (fun _ => 0))), (q_17, .inl (cA_18, 6, .inr (.inr (.inr (.inr (va_up (va_up (va_up (va_up (va_up (va_up (fun _ => none) 0 (some (ad 13))) 1 (some (ad 14))) 2 (some (ad 15))) 3 (some (ad 16))) 4 (some (ad 17))) 5 (some (ad 18)))))))), (q_19, .inl (cA_20, 360, .inl (fun _ => 0))), (q_21, .inl (cA_22, 120, .inr (.inl (fun _ => 0)))), (q_23, .inl (cA_24, 4, .inl (fun _ => 0))), (q_25, .inl (cA_26, 4, .inl (fun _ => 0)))] H := hP
  have hD : va_D A [(h0, .inr (7, [.ref q_1, .ref q_3, .ref q_5, .ref q_7, .int 0, .ref q_9, .int 0, .ref q_11, .ref q_13, .int 0, .ref q_15, .int 0, .int 0, .int 0, .int 0, .int 0, .int 0, .ref q_17, .ref q_19, .ref q_21, .int 0, .int 0, .int 0, .int 0, .ref q_23, .ref q_25, .null, .null])), (q_1, .inl (cA_2, 38, .inl (fun _ => 0))), (q_3, .inl (cA_4, 38, .inl (fun _ => 0))), (q_5, .inl (cA_6, 7, .inr (.inl (fun _ => 0)))), (q_7, .inl (cA_8, 7, .inr (.inl (fun _ => 0)))), (q_9, .inl (cA_10, 8, .inl (fun _ => 0))), (q_11, .inl (cA_12, 7, .inl (fun _ => 0))), (q_13, .inl (cA_14, 7, .inl (fun _ => 0))), (q_15, .inl (cA_16, 120, .inl (fun _ => 0))), (q_17, .inl (cA_18, 6, .inr (.inr (.inr (.inr (va_up (va_up (va_up (va_up (va_up (va_up (fun _ => none) 0 (some (ad 13))) 1 (some (ad 14))) 2 (some (ad 15))) 3 (some (ad 16))) 4 (some (ad 17))) 5 (some (ad 18)))))))), (q_19, .inl (cA_20, 360, .inl (fun _ => 0))), (q_21, .inl (cA_22, 120, .inr (.inl (fun _ => 0)))), (q_23, .inl (cA_24, 4, .inl (fun _ => 0))), (q_25, .inl (cA_26, 4, .inl (fun _ => 0)))] := hD
  refine lv_aload_n hx hb dX9_init_138 rfl (lv_at hl 0 rfl) ?_
  refine lv_sipush (v := 160) hx hb dX9_init_139 (by decide) ?_
  refine va_newa (atype := .long) (ty := .long) (N' := 160) (a0 := (160, .inr (.inl (fun _ => 0)))) hx hb (hts _ (List.mem_of_getElem? (i := 7) rfl)) rfl hK hP hD hS hA (fun _ => rfl) (by decide) (by decide) (Nat.le_of_ble_eq_true rfl) (Nat.le_of_ble_eq_true rfl) (Nat.le_of_ble_eq_true rfl) dX9_init_142 (fun q_27 cA_28 H hK hP hD hS => ?_)
  refine W.widen (k := 14) (n := 886) (Nat.le_of_ble_eq_true rfl) (Nat.le_of_ble_eq_true rfl) ?_
  have hP : va_P (dC, dI) vwCl [(h0, .inr (7, [.ref q_1, .ref q_3, .ref q_5, .ref q_7, .int 0, .ref q_9, .int 0, .ref q_11, .ref q_13, .int 0, .ref q_15, .int 0, .int 0, .int 0, .int 0, .int 0, .int 0, .ref q_17, .ref q_19, .ref q_21, .int 0, .int 0, .int 0, .int 0, .ref q_23, .ref q_25, .null, .null])), (q_1, .inl (cA_2, 38, .inl (fun _ => 0))), (q_3, .inl (cA_4, 38, .inl (fun _ => 0))), (q_5, .inl (cA_6, 7, .inr (.inl (fun _ => 0)))), (q_7, .inl (cA_8, 7, .inr (.inl (fun _ => 0)))), (q_9, .inl (cA_10, 8, .inl (fun _ => 0))), (q_11, .inl (cA_12, 7, .inl (fun _ => 0))), (q_13, .inl (cA_14, 7, .inl (fun _ => 0))), (q_15, .inl (cA_16, 120, .inl (fun _ => 0))), (q_17, .inl (cA_18, 6, .inr (.inr (.inr (.inr (va_up (va_up (va_up (va_up (va_up (va_up (fun _ => none) 0 (some (ad 13))) 1 (some (ad 14))) 2 (some (ad 15))) 3 (some (ad 16))) 4 (some (ad 17))) 5 (some (ad 18)))))))), (q_19, .inl (cA_20, 360, .inl (fun _ => 0))), (q_21, .inl (cA_22, 120, .inr (.inl (fun _ => 0)))), (q_23, .inl (cA_24, 4, .inl (fun _ => 0))), (q_25, .inl (cA_26, 4, .inl (fun _ => 0))), (q_27, .inl (cA_28, 160, .inr (.inl (fun _ => 0))))] H := hP
  have hD : va_D A [(h0, .inr (7, [.ref q_1, .ref q_3, .ref q_5, .ref q_7, .int 0, .ref q_9, .int 0, .ref q_11, .ref q_13, .int 0, .ref q_15, .int 0, .int 0, .int 0, .int 0, .int 0, .int 0, .ref q_17, .ref q_19, .ref q_21, .int 0, .int 0, .int 0, .int 0, .ref q_23, .ref q_25, .null, .null])), (q_1, .inl (cA_2, 38, .inl (fun _ => 0))), (q_3, .inl (cA_4, 38, .inl (fun _ => 0))), (q_5, .inl (cA_6, 7, .inr (.inl (fun _ => 0)))), (q_7, .inl (cA_8, 7, .inr (.inl (fun _ => 0)))), (q_9, .inl (cA_10, 8, .inl (fun _ => 0))), (q_11, .inl (cA_12, 7, .inl (fun _ => 0))), (q_13, .inl (cA_14, 7, .inl (fun _ => 0))), (q_15, .inl (cA_16, 120, .inl (fun _ => 0))), (q_17, .inl (cA_18, 6, .inr (.inr (.inr (.inr (va_up (va_up (va_up (va_up (va_up (va_up (fun _ => none) 0 (some (ad 13))) 1 (some (ad 14))) 2 (some (ad 15))) 3 (some (ad 16))) 4 (some (ad 17))) 5 (some (ad 18)))))))), (q_19, .inl (cA_20, 360, .inl (fun _ => 0))), (q_21, .inl (cA_22, 120, .inr (.inl (fun _ => 0)))), (q_23, .inl (cA_24, 4, .inl (fun _ => 0))), (q_25, .inl (cA_26, 4, .inl (fun _ => 0))), (q_27, .inl (cA_28, 160, .inr (.inl (fun _ => 0))))] := hD
  have hK : va_K (dC, dI) vwCl [(cA_2, .int), (cA_4, .int), (cA_6, .long), (cA_8, .long), (cA_10, .int), (cA_12, .int), (cA_14, .int), (cA_16, .int), (cA_18, .object "java/lang/String"), (cA_20, .int), (cA_22, .long), (cA_24, .int), (cA_26, .int), (cA_28, .long)] s := hK
  refine va_putF (D := (dC, dI)) (ci := 7) (v := .ref q_27) (ty := (.array .long)) (C := RX9) (T := TX9) (N := 28) hx hb hts inX9 tyX9 tyX9_ok nmX9 hown hK hP hD hS 0 rfl rfl 26 (by decide) (hts _ (List.mem_of_getElem? (i := 20) rfl)) (fun _ h9 => h9) rfl hin rfl (by decide +kernel) rfl rfl (Nat.le_of_ble_eq_true rfl) dX9_init_144 (fun H locs hP hD hS => ?_)
  have hP : va_P (dC, dI) vwCl [(h0, .inr (7, [.ref q_1, .ref q_3, .ref q_5, .ref q_7, .int 0, .ref q_9, .int 0, .ref q_11, .ref q_13, .int 0, .ref q_15, .int 0, .int 0, .int 0, .int 0, .int 0, .int 0, .ref q_17, .ref q_19, .ref q_21, .int 0, .int 0, .int 0, .int 0, .ref q_23, .ref q_25, .ref q_27, .null])), (q_1, .inl (cA_2, 38, .inl (fun _ => 0))), (q_3, .inl (cA_4, 38, .inl (fun _ => 0))), (q_5, .inl (cA_6, 7, .inr (.inl (fun _ => 0)))), (q_7, .inl (cA_8, 7, .inr (.inl (fun _ => 0)))), (q_9, .inl (cA_10, 8, .inl (fun _ => 0))), (q_11, .inl (cA_12, 7, .inl (fun _ => 0))), (q_13, .inl (cA_14, 7, .inl (fun _ => 0))), (q_15, .inl (cA_16, 120, .inl (fun _ => 0))), (q_17, .inl (cA_18, 6, .inr (.inr (.inr (.inr (va_up (va_up (va_up (va_up (va_up (va_up (fun _ => none) 0 (some (ad 13))) 1 (some (ad 14))) 2 (some (ad 15))) 3 (some (ad 16))) 4 (some (ad 17))) 5 (some (ad 18)))))))), (q_19, .inl (cA_20, 360, .inl (fun _ => 0))), (q_21, .inl (cA_22, 120, .inr (.inl (fun _ => 0)))), (q_23, .inl (cA_24, 4, .inl (fun _ => 0))), (q_25, .inl (cA_26, 4, .inl (fun _ => 0))), (q_27, .inl (cA_28, 160, .inr (.inl (fun _ => 0))))] H := hP
  have hD : va_D A [(h0, .inr (7, [.ref q_1, .ref q_3, .ref q_5, .ref q_7, .int 0, .ref q_9, .int 0, .ref q_11, .ref q_13, .int 0, .ref q_15, .int 0, .int 0, .int 0, .int 0, .int 0, .int 0, .ref q_17, .ref q_19, .ref q_21, .int 0, .int 0, .int 0, .int 0, .ref q_23, .ref q_25, .ref q_27, .null])), (q_1, .inl (cA_2, 38, .inl (fun _ => 0))), (q_3, .inl (cA_4, 38, .inl (fun _ => 0))), (q_5, .inl (cA_6, 7, .inr (.inl (fun _ => 0)))), (q_7, .inl (cA_8, 7, .inr (.inl (fun _ => 0)))), (q_9, .inl (cA_10, 8, .inl (fun _ => 0))), (q_11, .inl (cA_12, 7, .inl (fun _ => 0))), (q_13, .inl (cA_14, 7, .inl (fun _ => 0))), (q_15, .inl (cA_16, 120, .inl (fun _ => 0))), (q_17, .inl (cA_18, 6, .inr (.inr (.inr (.inr (va_up (va_up (va_up (va_up (va_up (va_up (fun _ => none) 0 (some (ad 13))) 1 (some (ad 14))) 2 (some (ad 15))) 3 (some (ad 16))) 4 (some (ad 17))) 5 (some (ad 18)))))))), (q_19, .inl (cA_20, 360, .inl (fun _ => 0))), (q_21, .inl (cA_22, 120, .inr (.inl (fun _ => 0)))), (q_23, .inl (cA_24, 4, .inl (fun _ => 0))), (q_25, .inl (cA_26, 4, .inl (fun _ => 0))), (q_27, .inl (cA_28, 160, .inr (.inl (fun _ => 0))))] := hD
  refine lv_aload_n hx hb dX9_init_147 rfl (lv_at hl 0 rfl) ?_
  refine lv_bipush (v := 40) hx hb dX9_init_148 (by decide) ?_
  refine va_newa (atype := .long) (ty := .long) (N' := 40) (a0 := (40, .inr (.inl (fun _ => 0)))) hx hb (hts _ (List.mem_of_getElem? (i := 7) rfl)) rfl hK hP hD hS hA (fun _ => rfl) (by decide) (by decide) (Nat.le_of_ble_eq_true rfl) (Nat.le_of_ble_eq_true rfl) (Nat.le_of_ble_eq_true rfl) dX9_init_150 (fun q_29 cA_30 H hK hP hD hS => ?_)
  refine W.widen (k := 15) (n := 926) (Nat.le_of_ble_eq_true rfl) (Nat.le_of_ble_eq_true rfl) ?_
  have hP : va_P (dC, dI) vwCl [(h0, .inr (7, [.ref q_1, .ref q_3, .ref q_5, .ref q_7, .int 0, .ref q_9, .int 0, .ref q_11, .ref q_13, .int 0, .ref q_15, .int 0, .int 0, .int 0, .int 0, .int 0, .int 0, .ref q_17, .ref q_19, .ref q_21, .int 0, .int 0, .int 0, .int 0, .ref q_23, .ref q_25, .ref q_27, .null])), (q_1, .inl (cA_2, 38, .inl (fun _ => 0))), (q_3, .inl (cA_4, 38, .inl (fun _ => 0))), (q_5, .inl (cA_6, 7, .inr (.inl (fun _ => 0)))), (q_7, .inl (cA_8, 7, .inr (.inl (fun _ => 0)))), (q_9, .inl (cA_10, 8, .inl (fun _ => 0))), (q_11, .inl (cA_12, 7, .inl (fun _ => 0))), (q_13, .inl (cA_14, 7, .inl (fun _ => 0))), (q_15, .inl (cA_16, 120, .inl (fun _ => 0))), (q_17, .inl (cA_18, 6, .inr (.inr (.inr (.inr (va_up (va_up (va_up (va_up (va_up (va_up (fun _ => none) 0 (some (ad 13))) 1 (some (ad 14))) 2 (some (ad 15))) 3 (some (ad 16))) 4 (some (ad 17))) 5 (some (ad 18)))))))), (q_19, .inl (cA_20, 360, .inl (fun _ => 0))), (q_21, .inl (cA_22, 120, .inr (.inl (fun _ => 0)))), (q_23, .inl (cA_24, 4, .inl (fun _ => 0))), (q_25, .inl (cA_26, 4, .inl (fun _ => 0))), (q_27, .inl (cA_28, 160, .inr (.inl (fun _ => 0)))), (q_29, .inl (cA_30, 40, .inr (.inl (fun _ => 0))))] H := hP
  have hD : va_D A [(h0, .inr (7, [.ref q_1, .ref q_3, .ref q_5, .ref q_7, .int 0, .ref q_9, .int 0, .ref q_11, .ref q_13, .int 0, .ref q_15, .int 0, .int 0, .int 0, .int 0, .int 0, .int 0, .ref q_17, .ref q_19, .ref q_21, .int 0, .int 0, .int 0, .int 0, .ref q_23, .ref q_25, .ref q_27, .null])), (q_1, .inl (cA_2, 38, .inl (fun _ => 0))), (q_3, .inl (cA_4, 38, .inl (fun _ => 0))), (q_5, .inl (cA_6, 7, .inr (.inl (fun _ => 0)))), (q_7, .inl (cA_8, 7, .inr (.inl (fun _ => 0)))), (q_9, .inl (cA_10, 8, .inl (fun _ => 0))), (q_11, .inl (cA_12, 7, .inl (fun _ => 0))), (q_13, .inl (cA_14, 7, .inl (fun _ => 0))), (q_15, .inl (cA_16, 120, .inl (fun _ => 0))), (q_17, .inl (cA_18, 6, .inr (.inr (.inr (.inr (va_up (va_up (va_up (va_up (va_up (va_up (fun _ => none) 0 (some (ad 13))) 1 (some (ad 14))) 2 (some (ad 15))) 3 (some (ad 16))) 4 (some (ad 17))) 5 (some (ad 18)))))))), (q_19, .inl (cA_20, 360, .inl (fun _ => 0))), (q_21, .inl (cA_22, 120, .inr (.inl (fun _ => 0)))), (q_23, .inl (cA_24, 4, .inl (fun _ => 0))), (q_25, .inl (cA_26, 4, .inl (fun _ => 0))), (q_27, .inl (cA_28, 160, .inr (.inl (fun _ => 0)))), (q_29, .inl (cA_30, 40, .inr (.inl (fun _ => 0))))] := hD
  have hK : va_K (dC, dI) vwCl [(cA_2, .int), (cA_4, .int), (cA_6, .long), (cA_8, .long), (cA_10, .int), (cA_12, .int), (cA_14, .int), (cA_16, .int), (cA_18, .object "java/lang/String"), (cA_20, .int), (cA_22, .long), (cA_24, .int), (cA_26, .int), (cA_28, .long), (cA_30, .long)] s := hK
  refine va_putF (D := (dC, dI)) (ci := 7) (v := .ref q_29) (ty := (.array .long)) (C := RX9) (T := TX9) (N := 28) hx hb hts inX9 tyX9 tyX9_ok nmX9 hown hK hP hD hS 0 rfl rfl 27 (by decide) (hts _ (List.mem_of_getElem? (i := 21) rfl)) (fun _ h9 => h9) rfl hin rfl (by decide +kernel) rfl rfl (Nat.le_of_ble_eq_true rfl) dX9_init_152 (fun H locs hP hD hS => ?_)
  have hP : va_P (dC, dI) vwCl [(h0, .inr (7, [.ref q_1, .ref q_3, .ref q_5, .ref q_7, .int 0, .ref q_9, .int 0, .ref q_11, .ref q_13, .int 0, .ref q_15, .int 0, .int 0, .int 0, .int 0, .int 0, .int 0, .ref q_17, .ref q_19, .ref q_21, .int 0, .int 0, .int 0, .int 0, .ref q_23, .ref q_25, .ref q_27, .ref q_29])), (q_1, .inl (cA_2, 38, .inl (fun _ => 0))), (q_3, .inl (cA_4, 38, .inl (fun _ => 0))), (q_5, .inl (cA_6, 7, .inr (.inl (fun _ => 0)))), (q_7, .inl (cA_8, 7, .inr (.inl (fun _ => 0)))), (q_9, .inl (cA_10, 8, .inl (fun _ => 0))), (q_11, .inl (cA_12, 7, .inl (fun _ => 0))), (q_13, .inl (cA_14, 7, .inl (fun _ => 0))), (q_15, .inl (cA_16, 120, .inl (fun _ => 0))), (q_17, .inl (cA_18, 6, .inr (.inr (.inr (.inr (va_up (va_up (va_up (va_up (va_up (va_up (fun _ => none) 0 (some (ad 13))) 1 (some (ad 14))) 2 (some (ad 15))) 3 (some (ad 16))) 4 (some (ad 17))) 5 (some (ad 18)))))))), (q_19, .inl (cA_20, 360, .inl (fun _ => 0))), (q_21, .inl (cA_22, 120, .inr (.inl (fun _ => 0)))), (q_23, .inl (cA_24, 4, .inl (fun _ => 0))), (q_25, .inl (cA_26, 4, .inl (fun _ => 0))), (q_27, .inl (cA_28, 160, .inr (.inl (fun _ => 0)))), (q_29, .inl (cA_30, 40, .inr (.inl (fun _ => 0))))] H := hP
  have hD : va_D A [(h0, .inr (7, [.ref q_1, .ref q_3, .ref q_5, .ref q_7, .int 0, .ref q_9, .int 0, .ref q_11, .ref q_13, .int 0, .ref q_15, .int 0, .int 0, .int 0, .int 0, .int 0, .int 0, .ref q_17, .ref q_19, .ref q_21, .int 0, .int 0, .int 0, .int 0, .ref q_23, .ref q_25, .ref q_27, .ref q_29])), (q_1, .inl (cA_2, 38, .inl (fun _ => 0))), (q_3, .inl (cA_4, 38, .inl (fun _ => 0))), (q_5, .inl (cA_6, 7, .inr (.inl (fun _ => 0)))), (q_7, .inl (cA_8, 7, .inr (.inl (fun _ => 0)))), (q_9, .inl (cA_10, 8, .inl (fun _ => 0))), (q_11, .inl (cA_12, 7, .inl (fun _ => 0))), (q_13, .inl (cA_14, 7, .inl (fun _ => 0))), (q_15, .inl (cA_16, 120, .inl (fun _ => 0))), (q_17, .inl (cA_18, 6, .inr (.inr (.inr (.inr (va_up (va_up (va_up (va_up (va_up (va_up (fun _ => none) 0 (some (ad 13))) 1 (some (ad 14))) 2 (some (ad 15))) 3 (some (ad 16))) 4 (some (ad 17))) 5 (some (ad 18)))))))), (q_19, .inl (cA_20, 360, .inl (fun _ => 0))), (q_21, .inl (cA_22, 120, .inr (.inl (fun _ => 0)))), (q_23, .inl (cA_24, 4, .inl (fun _ => 0))), (q_25, .inl (cA_26, 4, .inl (fun _ => 0))), (q_27, .inl (cA_28, 160, .inr (.inl (fun _ => 0)))), (q_29, .inl (cA_30, 40, .inr (.inl (fun _ => 0))))] := hD
  refine lv_aload_n hx hb dX9_init_155 rfl (lv_at hl 0 rfl) ?_
  refine va_get (D := (dC, dI)) (ci := 7) (v := .ref q_1) (C := RX9) (T := TX9) (N := 28) hx hb hts inX9 hown hK hP 0 rfl rfl 0 (by decide) (hts _ (List.mem_of_getElem? (i := 5) rfl)) (fun _ h9 => h9) rfl dX9_init_156 ?_
  refine lv_iconst (v := 2) hx hb dX9_init_159 (by decide) ?_
  refine lv_bipush (v := 63) hx hb dX9_init_160 (by decide) ?_
  refine va_iast hx hb hK hP hD hS 1 0 rfl rfl (vp_in_nI (n := 2) (by decide) (by decide)) dX9_init_162 (fun H locs hP hD hS => ?_)
  have hP : va_P (dC, dI) vwCl [(h0, .inr (7, [.ref q_1, .ref q_3, .ref q_5, .ref q_7, .int 0, .ref q_9, .int 0, .ref q_11, .ref q_13, .int 0, .ref q_15, .int 0, .int 0, .int 0, .int 0, .int 0, .int 0, .ref q_17, .ref q_19, .ref q_21, .int 0, .int 0, .int 0, .int 0, .ref q_23, .ref q_25, .ref q_27, .ref q_29])), (q_1, .inl (cA_2, 38, .inl (upd (fun _ => 0) 2 63))), (q_3, .inl (cA_4, 38, .inl (fun _ => 0))), (q_5, .inl (cA_6, 7, .inr (.inl (fun _ => 0)))), (q_7, .inl (cA_8, 7, .inr (.inl (fun _ => 0)))), (q_9, .inl (cA_10, 8, .inl (fun _ => 0))), (q_11, .inl (cA_12, 7, .inl (fun _ => 0))), (q_13, .inl (cA_14, 7, .inl (fun _ => 0))), (q_15, .inl (cA_16, 120, .inl (fun _ => 0))), (q_17, .inl (cA_18, 6, .inr (.inr (.inr (.inr (va_up (va_up (va_up (va_up (va_up (va_up (fun _ => none) 0 (some (ad 13))) 1 (some (ad 14))) 2 (some (ad 15))) 3 (some (ad 16))) 4 (some (ad 17))) 5 (some (ad 18)))))))), (q_19, .inl (cA_20, 360, .inl (fun _ => 0))), (q_21, .inl (cA_22, 120, .inr (.inl (fun _ => 0)))), (q_23, .inl (cA_24, 4, .inl (fun _ => 0))), (q_25, .inl (cA_26, 4, .inl (fun _ => 0))), (q_27, .inl (cA_28, 160, .inr (.inl (fun _ => 0)))), (q_29, .inl (cA_30, 40, .inr (.inl (fun _ => 0))))] H := hP
  have hD : va_D A [(h0, .inr (7, [.ref q_1, .ref q_3, .ref q_5, .ref q_7, .int 0, .ref q_9, .int 0, .ref q_11, .ref q_13, .int 0, .ref q_15, .int 0, .int 0, .int 0, .int 0, .int 0, .int 0, .ref q_17, .ref q_19, .ref q_21, .int 0, .int 0, .int 0, .int 0, .ref q_23, .ref q_25, .ref q_27, .ref q_29])), (q_1, .inl (cA_2, 38, .inl (upd (fun _ => 0) 2 63))), (q_3, .inl (cA_4, 38, .inl (fun _ => 0))), (q_5, .inl (cA_6, 7, .inr (.inl (fun _ => 0)))), (q_7, .inl (cA_8, 7, .inr (.inl (fun _ => 0)))), (q_9, .inl (cA_10, 8, .inl (fun _ => 0))), (q_11, .inl (cA_12, 7, .inl (fun _ => 0))), (q_13, .inl (cA_14, 7, .inl (fun _ => 0))), (q_15, .inl (cA_16, 120, .inl (fun _ => 0))), (q_17, .inl (cA_18, 6, .inr (.inr (.inr (.inr (va_up (va_up (va_up (va_up (va_up (va_up (fun _ => none) 0 (some (ad 13))) 1 (some (ad 14))) 2 (some (ad 15))) 3 (some (ad 16))) 4 (some (ad 17))) 5 (some (ad 18)))))))), (q_19, .inl (cA_20, 360, .inl (fun _ => 0))), (q_21, .inl (cA_22, 120, .inr (.inl (fun _ => 0)))), (q_23, .inl (cA_24, 4, .inl (fun _ => 0))), (q_25, .inl (cA_26, 4, .inl (fun _ => 0))), (q_27, .inl (cA_28, 160, .inr (.inl (fun _ => 0)))), (q_29, .inl (cA_30, 40, .inr (.inl (fun _ => 0))))] := hD
  refine lv_aload_n hx hb dX9_init_163 rfl (lv_at hl 0 rfl) ?_
  have hPc := hP.sub (ws' := [(h0, .inr (7, [.ref q_1, .ref q_3, .ref q_5, .ref q_7, .int 0, .ref q_9, .int 0, .ref q_11, .ref q_13, .int 0, .ref q_15, .int 0, .int 0, .int 0, .int 0, .int 0, .int 0, .ref q_17, .ref q_19, .ref q_21, .int 0, .int 0, .int 0, .int 0, .ref q_23, .ref q_25, .ref q_27, .ref q_29])), (q_1, .inl (cA_2, 38, .inl (upd (fun _ => 0) 2 63)))]) [0, 1] rfl
  have hKc := hK.sub (tys' := [(cA_2, .int)]) [0] rfl
  have hDc := hD.sub (ws' := [(h0, .inr (7, [.ref q_1, .ref q_3, .ref q_5, .ref q_7, .int 0, .ref q_9, .int 0, .ref q_11, .ref q_13, .int 0, .ref q_15, .int 0, .int 0, .int 0, .int 0, .int 0, .int 0, .ref q_17, .ref q_19, .ref q_21, .int 0, .int 0, .int 0, .int 0, .ref q_23, .ref q_25, .ref q_27, .ref q_29])), (q_1, .inl (cA_2, 38, .inl (upd (fun _ => 0) 2 63)))]) [0, 1] (by decide) rfl
  have hFc := va_free (wc := [(h0, .inr (7, [.ref q_1, .ref q_3, .ref q_5, .ref q_7, .int 0, .ref q_9, .int 0, .ref q_11, .ref q_13, .int 0, .ref q_15, .int 0, .int 0, .int 0, .int 0, .int 0, .int 0, .ref q_17, .ref q_19, .ref q_21, .int 0, .int 0, .int 0, .int 0, .ref q_23, .ref q_25, .ref q_27, .ref q_29])), (q_1, .inl (cA_2, 38, .inl (upd (fun _ => 0) 2 63)))]) hD hS hA [0, 1] rfl
  refine va_callv (va_runV (As := []) (rest := []) ⟨hx, hb, hml, hown, hts⟩ (m_dropAll l dC dI ad h0 q_1 (.ref q_3) (.ref q_5) (.ref q_7) (.int 0) (.ref q_9) (.int 0) (.ref q_11) (.ref q_13) (.int 0) (.ref q_15) (.int 0) (.int 0) (.int 0) (.int 0) (.int 0) (.int 0) (.ref q_17) (.ref q_19) (.ref q_21) (.int 0) (.int 0) (.int 0) (.int 0) (.ref q_23) (.ref q_25) (.ref q_27) (.ref q_29) cA_2 (upd (fun _ => 0) 2 63) H.size ) (cwV 0 hts g_c_X9_init_m_dropAll_71 rfl rfl rfl (by decide +kernel) ⟨(Nat.le_of_ble_eq_true rfl), (Nat.le_of_ble_eq_true rfl)⟩) ⟨preM_blind, va_recv hKc hPc (ci := 7) (q0 := 0) rfl rfl, fun U hU hW => ⟨rfl, preM_at hU hW hPc hKc hDc hev⟩⟩ rfl rfl hl.1 rfl (lv_room (Nat.le_of_ble_eq_true rfl)) dX9_init_164 ⟨(Nat.le_of_ble_eq_true rfl), (Nat.le_of_ble_eq_true rfl)⟩) hS (fun q _ h => hFc q h) hFc (fun u t H1 locs ht hvm hw hB hz1 hk1 hS => ?_)
  obtain ⟨nf_32, hq_33, hP1, hK1, hD1⟩ := hB
  rw [ht] at hP1
  have hK1 := va_K.moved hvm.symm hK1
  obtain ⟨hP, hD⟩ := va_join (wr := [(q_3, .inl (cA_4, 38, .inl (fun _ => 0))), (q_5, .inl (cA_6, 7, .inr (.inl (fun _ => 0)))), (q_7, .inl (cA_8, 7, .inr (.inl (fun _ => 0)))), (q_9, .inl (cA_10, 8, .inl (fun _ => 0))), (q_11, .inl (cA_12, 7, .inl (fun _ => 0))), (q_13, .inl (cA_14, 7, .inl (fun _ => 0))), (q_15, .inl (cA_16, 120, .inl (fun _ => 0))), (q_17, .inl (cA_18, 6, .inr (.inr (.inr (.inr (va_up (va_up (va_up (va_up (va_up (va_up (fun _ => none) 0 (some (ad 13))) 1 (some (ad 14))) 2 (some (ad 15))) 3 (some (ad 16))) 4 (some (ad 17))) 5 (some (ad 18)))))))), (q_19, .inl (cA_20, 360, .inl (fun _ => 0))), (q_21, .inl (cA_22, 120, .inr (.inl (fun _ => 0)))), (q_23, .inl (cA_24, 4, .inl (fun _ => 0))), (q_25, .inl (cA_26, 4, .inl (fun _ => 0))), (q_27, .inl (cA_28, 160, .inr (.inl (fun _ => 0)))), (q_29, .inl (cA_30, 40, .inr (.inl (fun _ => 0))))]) (w1 := [(h0, .inr (7, [.ref q_1, .ref q_3, .ref q_5, .ref q_7, .int 0, .ref q_9, .int 0, .ref q_11, .ref q_13, .int 0, .ref q_15, .int 0, .int 0, .int 0, .int 0, .int 0, .int 0, .ref q_17, .ref q_19, .ref q_21, .int 0, .int 0, .int 0, .int 0, .ref q_23, .ref q_25, .ref q_27, .ref q_29])), (q_1, .inl (cA_2, 38, .inl nf_32))]) hP hD [0, 1] [2, 3, 4, 5, 6, 7, 8, 9, 10, 11, 12, 13, 14, 15] rfl rfl (by decide) (by decide) hk1 hFc hP1 hD1
  generalize H1 = H at hP hS ⊢
  have hP : va_P (dC, dI) vwCl [(q_3, .inl (cA_4, 38, .inl (fun _ => 0))), (q_5, .inl (cA_6, 7, .inr (.inl (fun _ => 0)))), (q_7, .inl (cA_8, 7, .inr (.inl (fun _ => 0)))), (q_9, .inl (cA_10, 8, .inl (fun _ => 0))), (q_11, .inl (cA_12, 7, .inl (fun _ => 0))), (q_13, .inl (cA_14, 7, .inl (fun _ => 0))), (q_15, .inl (cA_16, 120, .inl (fun _ => 0))), (q_17, .inl (cA_18, 6, .inr (.inr (.inr (.inr (va_up (va_up (va_up (va_up (va_up (va_up (fun _ => none) 0 (some (ad 13))) 1 (some (ad 14))) 2 (some (ad 15))) 3 (some (ad 16))) 4 (some (ad 17))) 5 (some (ad 18)))))))), (q_19, .inl (cA_20, 360, .inl (fun _ => 0))), (q_21, .inl (cA_22, 120, .inr (.inl (fun _ => 0)))), (q_23, .inl (cA_24, 4, .inl (fun _ => 0))), (q_25, .inl (cA_26, 4, .inl (fun _ => 0))), (q_27, .inl (cA_28, 160, .inr (.inl (fun _ => 0)))), (q_29, .inl (cA_30, 40, .inr (.inl (fun _ => 0)))), (h0, .inr (7, [.ref q_1, .ref q_3, .ref q_5, .ref q_7, .int 0, .ref q_9, .int 0, .ref q_11, .ref q_13, .int 0, .ref q_15, .int 0, .int 0, .int 0, .int 0, .int 0, .int 0, .ref q_17, .ref q_19, .ref q_21, .int 0, .int 0, .int 0, .int 0, .ref q_23, .ref q_25, .ref q_27, .ref q_29])), (q_1, .inl (cA_2, 38, .inl nf_32))] H := hP
  have hD : va_D A [(q_3, .inl (cA_4, 38, .inl (fun _ => 0))), (q_5, .inl (cA_6, 7, .inr (.inl (fun _ => 0)))), (q_7, .inl (cA_8, 7, .inr (.inl (fun _ => 0)))), (q_9, .inl (cA_10, 8, .inl (fun _ => 0))), (q_11, .inl (cA_12, 7, .inl (fun _ => 0))), (q_13, .inl (cA_14, 7, .inl (fun _ => 0))), (q_15, .inl (cA_16, 120, .inl (fun _ => 0))), (q_17, .inl (cA_18, 6, .inr (.inr (.inr (.inr (va_up (va_up (va_up (va_up (va_up (va_up (fun _ => none) 0 (some (ad 13))) 1 (some (ad 14))) 2 (some (ad 15))) 3 (some (ad 16))) 4 (some (ad 17))) 5 (some (ad 18)))))))), (q_19, .inl (cA_20, 360, .inl (fun _ => 0))), (q_21, .inl (cA_22, 120, .inr (.inl (fun _ => 0)))), (q_23, .inl (cA_24, 4, .inl (fun _ => 0))), (q_25, .inl (cA_26, 4, .inl (fun _ => 0))), (q_27, .inl (cA_28, 160, .inr (.inl (fun _ => 0)))), (q_29, .inl (cA_30, 40, .inr (.inl (fun _ => 0)))), (h0, .inr (7, [.ref q_1, .ref q_3, .ref q_5, .ref q_7, .int 0, .ref q_9, .int 0, .ref q_11, .ref q_13, .int 0, .ref q_15, .int 0, .int 0, .int 0, .int 0, .int 0, .int 0, .ref q_17, .ref q_19, .ref q_21, .int 0, .int 0, .int 0, .int 0, .ref q_23, .ref q_25, .ref q_27, .ref q_29])), (q_1, .inl (cA_2, 38, .inl nf_32))] := hD
  have hP9 := hP.sub (ws' := [(h0, .inr (7, [.ref q_1, .ref q_3, .ref q_5, .ref q_7, .int 0, .ref q_9, .int 0, .ref q_11, .ref q_13, .int 0, .ref q_15, .int 0, .int 0, .int 0, .int 0, .int 0, .int 0, .ref q_17, .ref q_19, .ref q_21, .int 0, .int 0, .int 0, .int 0, .ref q_23, .ref q_25, .ref q_27, .ref q_29])), (q_1, .inl (cA_2, 38, .inl nf_32)), (q_3, .inl (cA_4, 38, .inl (fun _ => 0))), (q_5, .inl (cA_6, 7, .inr (.inl (fun _ => 0)))), (q_7, .inl (cA_8, 7, .inr (.inl (fun _ => 0)))), (q_9, .inl (cA_10, 8, .inl (fun _ => 0))), (q_11, .inl (cA_12, 7, .inl (fun _ => 0))), (q_13, .inl (cA_14, 7, .inl (fun _ => 0))), (q_15, .inl (cA_16, 120, .inl (fun _ => 0))), (q_17, .inl (cA_18, 6, .inr (.inr (.inr (.inr (va_up (va_up (va_up (va_up (va_up (va_up (fun _ => none) 0 (some (ad 13))) 1 (some (ad 14))) 2 (some (ad 15))) 3 (some (ad 16))) 4 (some (ad 17))) 5 (some (ad 18)))))))), (q_19, .inl (cA_20, 360, .inl (fun _ => 0))), (q_21, .inl (cA_22, 120, .inr (.inl (fun _ => 0)))), (q_23, .inl (cA_24, 4, .inl (fun _ => 0))), (q_25, .inl (cA_26, 4, .inl (fun _ => 0))), (q_27, .inl (cA_28, 160, .inr (.inl (fun _ => 0)))), (q_29, .inl (cA_30, 40, .inr (.inl (fun _ => 0))))]) [14, 15, 0, 1, 2, 3, 4, 5, 6, 7, 8, 9, 10, 11, 12, 13] rfl
  have hD9 := hD.sub (ws' := [(h0, .inr (7, [.ref q_1, .ref q_3, .ref q_5, .ref q_7, .int 0, .ref q_9, .int 0, .ref q_11, .ref q_13, .int 0, .ref q_15, .int 0, .int 0, .int 0, .int 0, .int 0, .int 0, .ref q_17, .ref q_19, .ref q_21, .int 0, .int 0, .int 0, .int 0, .ref q_23, .ref q_25, .ref q_27, .ref q_29])), (q_1, .inl (cA_2, 38, .inl nf_32)), (q_3, .inl (cA_4, 38, .inl (fun _ => 0))), (q_5, .inl (cA_6, 7, .inr (.inl (fun _ => 0)))), (q_7, .inl (cA_8, 7, .inr (.inl (fun _ => 0)))), (q_9, .inl (cA_10, 8, .inl (fun _ => 0))), (q_11, .inl (cA_12, 7, .inl (fun _ => 0))), (q_13, .inl (cA_14, 7, .inl (fun _ => 0))), (q_15, .inl (cA_16, 120, .inl (fun _ => 0))), (q_17, .inl (cA_18, 6, .inr (.inr (.inr (.inr (va_up (va_up (va_up (va_up (va_up (va_up (fun _ => none) 0 (some (ad 13))) 1 (some (ad 14))) 2 (some (ad 15))) 3 (some (ad 16))) 4 (some (ad 17))) 5 (some (ad 18)))))))), (q_19, .inl (cA_20, 360, .inl (fun _ => 0))), (q_21, .inl (cA_22, 120, .inr (.inl (fun _ => 0)))), (q_23, .inl (cA_24, 4, .inl (fun _ => 0))), (q_25, .inl (cA_26, 4, .inl (fun _ => 0))), (q_27, .inl (cA_28, 160, .inr (.inl (fun _ => 0)))), (q_29, .inl (cA_30, 40, .inr (.inl (fun _ => 0))))]) [14, 15, 0, 1, 2, 3, 4, 5, 6, 7, 8, 9, 10, 11, 12, 13] (by decide) rfl
  have hK9 := hK.sub (tys' := [(cA_2, .int), (cA_4, .int), (cA_6, .long), (cA_8, .long), (cA_10, .int), (cA_12, .int), (cA_14, .int), (cA_16, .int), (cA_18, .object "java/lang/String"), (cA_20, .int), (cA_22, .long), (cA_24, .int), (cA_26, .int), (cA_28, .long), (cA_30, .long)]) [0, 1, 2, 3, 4, 5, 6, 7, 8, 9, 10, 11, 12, 13, 14] rfl
  exact W.vret hx hb hr (fun t ht hW => ⟨⟨(), rfl, trivial, q_1, cA_2, q_3, cA_4, q_5, cA_6, q_7, cA_8, q_9, cA_10, q_11, cA_12, q_13, cA_14, q_15, cA_16, q_17, cA_18, q_19, cA_20, q_21, cA_22, q_23, cA_24, q_25, cA_26, q_27, cA_28, q_29, cA_30, nf_32, va_up (va_up (va_up (va_up (va_up (va_up (fun _ => none) 0 (some (ad 13))) 1 (some (ad 14))) 2 (some (ad 15))) 3 (some (ad 16))) 4 (some (ad 17))) 5 (some (ad 18)), (fun j hj => by match j, hj with | 0, _ => exact (hq_33 0 (by decide)).trans rfl | 1, _ => exact (hq_33 1 (by decide)).trans rfl | 2, _ => exact (hq_33 2 (by decide)).trans rfl | 3, _ => exact (hq_33 3 (by decide)).trans rfl | 4, _ => exact (hq_33 4 (by decide)).trans rfl | 5, _ => exact (hq_33 5 (by decide)).trans rfl | 6, _ => exact (hq_33 6 (by decide)).trans rfl | 7, _ => exact (hq_33 7 (by decide)).trans rfl | 8, _ => exact (hq_33 8 (by decide)).trans rfl | 9, _ => exact (hq_33 9 (by decide)).trans rfl | 10, _ => exact (hq_33 10 (by decide)).trans rfl | 11, _ => exact (hq_33 11 (by decide)).trans rfl | 12, _ => exact (hq_33 12 (by decide)).trans rfl | 13, _ => exact (hq_33 13 (by decide)).trans rfl | 14, _ => exact (hq_33 14 (by decide)).trans rfl | 15, _ => exact (hq_33 15 (by decide)).trans rfl | 16, _ => exact (hq_33 16 (by decide)).trans rfl | 17, _ => exact (hq_33 17 (by decide)).trans rfl | 18, _ => exact (hq_33 18 (by decide)).trans rfl | 19, _ => exact (hq_33 19 (by decide)).trans rfl | 20, _ => exact (hq_33 20 (by decide)).trans rfl | 21, _ => exact (hq_33 21 (by decide)).trans rfl | 22, _ => exact (hq_33 22 (by decide)).trans rfl | 23, _ => exact (hq_33 23 (by decide)).trans rfl | 24, _ => exact (hq_33 24 (by decide)).trans rfl | 25, _ => exact (hq_33 25 (by decide)).trans rfl | 26, _ => exact (hq_33 26 (by decide)).trans rfl | 27, _ => exact (hq_33 27 (by decide)).trans rfl | 28, _ => exact (hq_33 28 (by decide)).trans rfl | 29, _ => exact (hq_33 29 (by decide)).trans rfl | 30, _ => exact (hq_33 30 (by decide)).trans rfl | 31, _ => exact (hq_33 31 (by decide)).trans rfl | 32, _ => exact (hq_33 32 (by decide)).trans rfl | 33, _ => exact (hq_33 33 (by decide)).trans rfl | 34, _ => exact (hq_33 34 (by decide)).trans rfl | 35, _ => exact (hq_33 35 (by decide)).trans rfl | 36, _ => exact (hq_33 36 (by decide)).trans rfl | 37, _ => exact (hq_33 37 (by decide)).trans rfl | (j + 38), hj => omega), (fun j hj => by match j, hj with | 0, _ => rfl | 1, _ => rfl | 2, _ => rfl | 3, _ => rfl | 4, _ => rfl | 5, _ => rfl | (j + 6), hj => omega), by rw [ht]; exact hP9, va_K.moved hW.alike hK9, hD9⟩, hS.F ht⟩) hS.2.2 dX9_init_167

