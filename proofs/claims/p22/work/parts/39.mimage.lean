theorem dX9_copyAll_0 : decode cX9_copyAll 0 = .ok (.iconst 0, 1) := by decide +kernel
theorem dX9_copyAll_1 : decode cX9_copyAll 1 = .ok (.istore 4, 2) := by decide +kernel
theorem dX9_copyAll_3 : decode cX9_copyAll 3 = .ok (.iload 4, 2) := by decide +kernel
theorem dX9_copyAll_5 : decode cX9_copyAll 5 = .ok (.bipush 38, 2) := by decide +kernel
theorem dX9_copyAll_7 : decode cX9_copyAll 7 = .ok (.if_icmp .ge 17, 3) := by decide +kernel
theorem dX9_copyAll_10 : decode cX9_copyAll 10 = .ok (.aload_n 1, 1) := by decide +kernel
theorem dX9_copyAll_11 : decode cX9_copyAll 11 = .ok (.iload 4, 2) := by decide +kernel
theorem dX9_copyAll_13 : decode cX9_copyAll 13 = .ok (.aload_n 0, 1) := by decide +kernel
theorem dX9_copyAll_14 : decode cX9_copyAll 14 = .ok (.iload 4, 2) := by decide +kernel
theorem dX9_copyAll_16 : decode cX9_copyAll 16 = .ok (.iaload, 1) := by decide +kernel
theorem dX9_copyAll_17 : decode cX9_copyAll 17 = .ok (.iastore, 1) := by decide +kernel
theorem dX9_copyAll_18 : decode cX9_copyAll 18 = .ok (.iinc 4 1, 3) := by decide +kernel
theorem dX9_copyAll_21 : decode cX9_copyAll 21 = .ok (.goto (-18), 3) := by decide +kernel
theorem dX9_copyAll_24 : decode cX9_copyAll 24 = .ok (.iconst 0, 1) := by decide +kernel
theorem dX9_copyAll_25 : decode cX9_copyAll 25 = .ok (.istore 4, 2) := by decide +kernel
theorem dX9_copyAll_27 : decode cX9_copyAll 27 = .ok (.iload 4, 2) := by decide +kernel
theorem dX9_copyAll_29 : decode cX9_copyAll 29 = .ok (.bipush 7, 2) := by decide +kernel
theorem dX9_copyAll_31 : decode cX9_copyAll 31 = .ok (.if_icmp .ge 17, 3) := by decide +kernel
theorem dX9_copyAll_34 : decode cX9_copyAll 34 = .ok (.aload_n 3, 1) := by decide +kernel
theorem dX9_copyAll_35 : decode cX9_copyAll 35 = .ok (.iload 4, 2) := by decide +kernel
theorem dX9_copyAll_37 : decode cX9_copyAll 37 = .ok (.aload_n 2, 1) := by decide +kernel
theorem dX9_copyAll_38 : decode cX9_copyAll 38 = .ok (.iload 4, 2) := by decide +kernel
theorem dX9_copyAll_40 : decode cX9_copyAll 40 = .ok (.laload, 1) := by decide +kernel
theorem dX9_copyAll_41 : decode cX9_copyAll 41 = .ok (.lastore, 1) := by decide +kernel
theorem dX9_copyAll_42 : decode cX9_copyAll 42 = .ok (.iinc 4 1, 3) := by decide +kernel
theorem dX9_copyAll_45 : decode cX9_copyAll 45 = .ok (.goto (-18), 3) := by decide +kernel
theorem dX9_copyAll_48 : decode cX9_copyAll 48 = .ok (.return_, 1) := by decide +kernel
theorem dX9_image_0 : decode cX9_image 0 = .ok (.aload_n 0, 1) := by decide +kernel
theorem dX9_image_1 : decode cX9_image 1 = .ok (.getfield 9, 3) := by decide +kernel
theorem dX9_image_4 : decode cX9_image 4 = .ok (.aload_n 0, 1) := by decide +kernel
theorem dX9_image_5 : decode cX9_image 5 = .ok (.getfield 13, 3) := by decide +kernel
theorem dX9_image_8 : decode cX9_image 8 = .ok (.aload_n 0, 1) := by decide +kernel
theorem dX9_image_9 : decode cX9_image 9 = .ok (.getfield 16, 3) := by decide +kernel
theorem dX9_image_12 : decode cX9_image 12 = .ok (.aload_n 0, 1) := by decide +kernel
theorem dX9_image_13 : decode cX9_image 13 = .ok (.getfield 20, 3) := by decide +kernel
theorem dX9_image_16 : decode cX9_image 16 = .ok (.invokestatic 298, 3) := by decide +kernel
theorem dX9_image_19 : decode cX9_image 19 = .ok (.aload_n 0, 1) := by decide +kernel
theorem dX9_image_20 : decode cX9_image 20 = .ok (.iconst 1, 1) := by decide +kernel
theorem dX9_image_21 : decode cX9_image 21 = .ok (.putfield 302, 3) := by decide +kernel
theorem dX9_image_24 : decode cX9_image 24 = .ok (.iconst 1, 1) := by decide +kernel
theorem dX9_image_25 : decode cX9_image 25 = .ok (.ireturn, 1) := by decide +kernel
theorem dX9_undo_0 : decode cX9_undo 0 = .ok (.aload_n 0, 1) := by decide +kernel
theorem dX9_undo_1 : decode cX9_undo 1 = .ok (.getfield 302, 3) := by decide +kernel
theorem dX9_undo_4 : decode cX9_undo 4 = .ok (.ifCond .ne 10, 3) := by decide +kernel
theorem dX9_undo_7 : decode cX9_undo 7 = .ok (.aload_n 0, 1) := by decide +kernel
theorem dX9_undo_8 : decode cX9_undo 8 = .ok (.ldc 150, 2) := by decide +kernel
theorem dX9_undo_10 : decode cX9_undo 10 = .ok (.invokevirtual 84, 3) := by decide +kernel
theorem dX9_undo_13 : decode cX9_undo 13 = .ok (.ireturn, 1) := by decide +kernel
theorem dX9_undo_14 : decode cX9_undo 14 = .ok (.aload_n 0, 1) := by decide +kernel
theorem dX9_undo_15 : decode cX9_undo 15 = .ok (.getfield 13, 3) := by decide +kernel
theorem dX9_undo_18 : decode cX9_undo 18 = .ok (.aload_n 0, 1) := by decide +kernel
theorem dX9_undo_19 : decode cX9_undo 19 = .ok (.getfield 9, 3) := by decide +kernel
theorem dX9_undo_22 : decode cX9_undo 22 = .ok (.aload_n 0, 1) := by decide +kernel
theorem dX9_undo_23 : decode cX9_undo 23 = .ok (.getfield 20, 3) := by decide +kernel
theorem dX9_undo_26 : decode cX9_undo 26 = .ok (.aload_n 0, 1) := by decide +kernel
theorem dX9_undo_27 : decode cX9_undo 27 = .ok (.getfield 16, 3) := by decide +kernel
theorem dX9_undo_30 : decode cX9_undo 30 = .ok (.invokestatic 298, 3) := by decide +kernel
theorem dX9_undo_33 : decode cX9_undo 33 = .ok (.aload_n 0, 1) := by decide +kernel
theorem dX9_undo_34 : decode cX9_undo 34 = .ok (.getfield 9, 3) := by decide +kernel
theorem dX9_undo_37 : decode cX9_undo 37 = .ok (.iconst 0, 1) := by decide +kernel
theorem dX9_undo_38 : decode cX9_undo 38 = .ok (.iaload, 1) := by decide +kernel
theorem dX9_undo_39 : decode cX9_undo 39 = .ok (.ireturn, 1) := by decide +kernel
theorem dX9_forget_0 : decode cX9_forget 0 = .ok (.aload_n 0, 1) := by decide +kernel
theorem dX9_forget_1 : decode cX9_forget 1 = .ok (.getfield 302, 3) := by decide +kernel
theorem dX9_forget_4 : decode cX9_forget 4 = .ok (.ifCond .eq 7, 3) := by decide +kernel
theorem dX9_forget_7 : decode cX9_forget 7 = .ok (.iconst 1, 1) := by decide +kernel
theorem dX9_forget_8 : decode cX9_forget 8 = .ok (.goto 4, 3) := by decide +kernel
theorem dX9_forget_11 : decode cX9_forget 11 = .ok (.iconst 0, 1) := by decide +kernel
theorem dX9_forget_12 : decode cX9_forget 12 = .ok (.istore_n 1, 1) := by decide +kernel
theorem dX9_forget_13 : decode cX9_forget 13 = .ok (.aload_n 0, 1) := by decide +kernel
theorem dX9_forget_14 : decode cX9_forget 14 = .ok (.iconst 0, 1) := by decide +kernel
theorem dX9_forget_15 : decode cX9_forget 15 = .ok (.putfield 302, 3) := by decide +kernel
theorem dX9_forget_18 : decode cX9_forget 18 = .ok (.iload_n 1, 1) := by decide +kernel
theorem dX9_forget_19 : decode cX9_forget 19 = .ok (.ireturn, 1) := by decide +kernel
theorem dX9_count_0 : decode cX9_count 0 = .ok (.iconst 0, 1) := by decide +kernel
theorem dX9_count_1 : decode cX9_count 1 = .ok (.istore_n 2, 1) := by decide +kernel
theorem dX9_count_2 : decode cX9_count 2 = .ok (.iload_n 1, 1) := by decide +kernel
theorem dX9_count_3 : decode cX9_count 3 = .ok (.tableswitch 139 0 6 #[41, 48, 77, 84, 119, 127, 132], 41) := by decide +kernel
theorem dX9_count_44 : decode cX9_count 44 = .ok (.aload_n 0, 1) := by decide +kernel
theorem dX9_count_45 : decode cX9_count 45 = .ok (.getfield 9, 3) := by decide +kernel
theorem dX9_count_48 : decode cX9_count 48 = .ok (.iconst 0, 1) := by decide +kernel
theorem dX9_count_49 : decode cX9_count 49 = .ok (.iaload, 1) := by decide +kernel
theorem dX9_count_50 : decode cX9_count 50 = .ok (.ireturn, 1) := by decide +kernel
theorem dX9_count_51 : decode cX9_count 51 = .ok (.iconst 0, 1) := by decide +kernel
theorem dX9_count_52 : decode cX9_count 52 = .ok (.istore_n 3, 1) := by decide +kernel
theorem dX9_count_53 : decode cX9_count 53 = .ok (.iload_n 3, 1) := by decide +kernel
theorem dX9_count_54 : decode cX9_count 54 = .ok (.aload_n 0, 1) := by decide +kernel
theorem dX9_count_55 : decode cX9_count 55 = .ok (.getfield 9, 3) := by decide +kernel
theorem dX9_count_58 : decode cX9_count 58 = .ok (.iconst 0, 1) := by decide +kernel
theorem dX9_count_59 : decode cX9_count 59 = .ok (.iaload, 1) := by decide +kernel
theorem dX9_count_60 : decode cX9_count 60 = .ok (.if_icmp .ge 18, 3) := by decide +kernel
theorem dX9_count_63 : decode cX9_count 63 = .ok (.iload_n 2, 1) := by decide +kernel
theorem dX9_count_64 : decode cX9_count 64 = .ok (.aload_n 0, 1) := by decide +kernel
theorem dX9_count_65 : decode cX9_count 65 = .ok (.iload_n 3, 1) := by decide +kernel
theorem dX9_count_66 : decode cX9_count 66 = .ok (.iconst 2, 1) := by decide +kernel
theorem dX9_count_67 : decode cX9_count 67 = .ok (.invokevirtual 99, 3) := by decide +kernel
theorem dX9_count_70 : decode cX9_count 70 = .ok (.iadd, 1) := by decide +kernel
theorem dX9_count_71 : decode cX9_count 71 = .ok (.istore_n 2, 1) := by decide +kernel
theorem dX9_count_72 : decode cX9_count 72 = .ok (.iinc 3 1, 3) := by decide +kernel
theorem dX9_count_75 : decode cX9_count 75 = .ok (.goto (-22), 3) := by decide +kernel
theorem dX9_count_78 : decode cX9_count 78 = .ok (.iload_n 2, 1) := by decide +kernel
theorem dX9_count_79 : decode cX9_count 79 = .ok (.ireturn, 1) := by decide +kernel
theorem dX9_count_80 : decode cX9_count 80 = .ok (.aload_n 0, 1) := by decide +kernel
theorem dX9_count_81 : decode cX9_count 81 = .ok (.getfield 9, 3) := by decide +kernel
theorem dX9_count_84 : decode cX9_count 84 = .ok (.iconst 1, 1) := by decide +kernel
theorem dX9_count_85 : decode cX9_count 85 = .ok (.iaload, 1) := by decide +kernel
theorem dX9_count_86 : decode cX9_count 86 = .ok (.ireturn, 1) := by decide +kernel
theorem dX9_count_87 : decode cX9_count 87 = .ok (.iconst 0, 1) := by decide +kernel
theorem dX9_count_88 : decode cX9_count 88 = .ok (.istore_n 3, 1) := by decide +kernel
theorem dX9_count_89 : decode cX9_count 89 = .ok (.iload_n 3, 1) := by decide +kernel
theorem dX9_count_90 : decode cX9_count 90 = .ok (.iconst 4, 1) := by decide +kernel
theorem dX9_count_91 : decode cX9_count 91 = .ok (.if_icmp .ge 29, 3) := by decide +kernel
theorem dX9_count_94 : decode cX9_count 94 = .ok (.iload_n 2, 1) := by decide +kernel
theorem dX9_count_95 : decode cX9_count 95 = .ok (.aload_n 0, 1) := by decide +kernel
theorem dX9_count_96 : decode cX9_count 96 = .ok (.getfield 9, 3) := by decide +kernel
theorem dX9_count_99 : decode cX9_count 99 = .ok (.bipush 30, 2) := by decide +kernel
theorem dX9_count_101 : decode cX9_count 101 = .ok (.iload_n 3, 1) := by decide +kernel
theorem dX9_count_102 : decode cX9_count 102 = .ok (.iadd, 1) := by decide +kernel
theorem dX9_count_103 : decode cX9_count 103 = .ok (.iaload, 1) := by decide +kernel
theorem dX9_count_104 : decode cX9_count 104 = .ok (.ifCond .ge 7, 3) := by decide +kernel
theorem dX9_count_107 : decode cX9_count 107 = .ok (.iconst 0, 1) := by decide +kernel
theorem dX9_count_108 : decode cX9_count 108 = .ok (.goto 4, 3) := by decide +kernel
theorem dX9_count_111 : decode cX9_count 111 = .ok (.iconst 1, 1) := by decide +kernel
theorem dX9_count_112 : decode cX9_count 112 = .ok (.iadd, 1) := by decide +kernel
theorem dX9_count_113 : decode cX9_count 113 = .ok (.istore_n 2, 1) := by decide +kernel
theorem dX9_count_114 : decode cX9_count 114 = .ok (.iinc 3 1, 3) := by decide +kernel
theorem dX9_count_117 : decode cX9_count 117 = .ok (.goto (-28), 3) := by decide +kernel
theorem dX9_count_120 : decode cX9_count 120 = .ok (.iload_n 2, 1) := by decide +kernel
theorem dX9_count_121 : decode cX9_count 121 = .ok (.ireturn, 1) := by decide +kernel
theorem dX9_count_122 : decode cX9_count 122 = .ok (.aload_n 0, 1) := by decide +kernel
theorem dX9_count_123 : decode cX9_count 123 = .ok (.invokevirtual 146, 3) := by decide +kernel
theorem dX9_count_126 : decode cX9_count 126 = .ok (.invokestatic 158, 3) := by decide +kernel
theorem dX9_count_129 : decode cX9_count 129 = .ok (.ireturn, 1) := by decide +kernel
theorem dX9_count_130 : decode cX9_count 130 = .ok (.aload_n 0, 1) := by decide +kernel
theorem dX9_count_131 : decode cX9_count 131 = .ok (.getfield 188, 3) := by decide +kernel
theorem dX9_count_134 : decode cX9_count 134 = .ok (.ireturn, 1) := by decide +kernel
theorem dX9_count_135 : decode cX9_count 135 = .ok (.aload_n 0, 1) := by decide +kernel
theorem dX9_count_136 : decode cX9_count 136 = .ok (.getfield 9, 3) := by decide +kernel
theorem dX9_count_139 : decode cX9_count 139 = .ok (.iconst 2, 1) := by decide +kernel
theorem dX9_count_140 : decode cX9_count 140 = .ok (.iaload, 1) := by decide +kernel
theorem dX9_count_141 : decode cX9_count 141 = .ok (.ireturn, 1) := by decide +kernel
theorem dX9_count_142 : decode cX9_count 142 = .ok (.aload_n 0, 1) := by decide +kernel
theorem dX9_count_143 : decode cX9_count 143 = .ok (.ldc 74, 2) := by decide +kernel
theorem dX9_count_145 : decode cX9_count 145 = .ok (.invokevirtual 84, 3) := by decide +kernel
theorem dX9_count_148 : decode cX9_count 148 = .ok (.ireturn, 1) := by decide +kernel
theorem dX9_status_0 : decode cX9_status 0 = .ok (.iload_n 1, 1) := by decide +kernel
theorem dX9_status_1 : decode cX9_status 1 = .ok (.iconst (-1), 1) := by decide +kernel
theorem dX9_status_2 : decode cX9_status 2 = .ok (.bipush 6, 2) := by decide +kernel
theorem dX9_status_4 : decode cX9_status 4 = .ok (.invokestatic 75, 3) := by decide +kernel
theorem dX9_status_7 : decode cX9_status 7 = .ok (.ifCond .eq 14, 3) := by decide +kernel
theorem dX9_status_10 : decode cX9_status 10 = .ok (.aload_n 0, 1) := by decide +kernel
theorem dX9_status_11 : decode cX9_status 11 = .ok (.getfield 23, 3) := by decide +kernel
theorem dX9_status_14 : decode cX9_status 14 = .ok (.iload_n 1, 1) := by decide +kernel
theorem dX9_status_15 : decode cX9_status 15 = .ok (.iconst 1, 1) := by decide +kernel
theorem dX9_status_16 : decode cX9_status 16 = .ok (.iadd, 1) := by decide +kernel
theorem dX9_status_17 : decode cX9_status 17 = .ok (.iaload, 1) := by decide +kernel
theorem dX9_status_18 : decode cX9_status 18 = .ok (.goto 9, 3) := by decide +kernel
theorem dX9_status_21 : decode cX9_status 21 = .ok (.aload_n 0, 1) := by decide +kernel
theorem dX9_status_22 : decode cX9_status 22 = .ok (.ldc 74, 2) := by decide +kernel
theorem dX9_status_24 : decode cX9_status 24 = .ok (.invokevirtual 84, 3) := by decide +kernel
theorem dX9_status_27 : decode cX9_status 27 = .ok (.ireturn, 1) := by decide +kernel
/-- g is f as far as k -/
def mC (f g : Nat → Int32) (k : Int) : Prop := ∀ j : Nat, (j : Int) < k → g j = f j
theorem mC_0 (f g : Nat → Int32) : mC f g 0 := fun j h => by omega
theorem mC_s {f g : Nat → Int32} {x n k : Int32} (h : mC f g x.toInt) (e : n = f x.toNatClampNeg) (h0 : 0 ≤ x.toInt) (hk : k.toInt = x.toInt + 1) : mC f (upd g x.toNatClampNeg n) k.toInt := fun j hj => by
  have hc := pp_cl h0
  by_cases q : j = x.toNatClampNeg
  · rw [q, e]; unfold upd; rw [if_pos rfl]
  · have : upd g x.toNatClampNeg n j = g j := by unfold upd; rw [if_neg q]
    rw [this]; exact h j (by omega)
theorem mC_I {f g : Nat → Int32} (h : mC f g 38) (hI : mI f) : mI g := by
  unfold mI
  rw [h 0 (by decide), h 1 (by decide), h 30 (by decide), h 31 (by decide), h 32 (by decide), h 33 (by decide)]
  exact hI
theorem mC_e {f g : Nat → Int32} (h : mC f g 38) : (g 2).toInt = (f 2).toInt := by rw [h 2 (by decide)]

def w_m_copyAll : List Cond := .code yX9_copyAll cX9_copyAll 5 none :: (([] : List Cond))
set_option maxHeartbeats 4000000 in
set_option maxRecDepth 100000 in
theorem m_copyAll (l : Launch) (dC : Nat → ClassId) (dI : Nat → Nat → Nat) (ad : Nat → Nat) (q1 : Nat) (q2 : Nat) (q3 : Nat) (q4 : Nat) (c1 : ClassId) (fa : Nat → Int32) (c2 : ClassId) (fb : Nat → Int32) (c3 : ClassId) (fc : Nat → Int64) (c4 : ClassId) (fd : Nat → Int64) (sz : Nat) : Met l yX9_copyAll w_m_copyAll ({ frames := 0, cells := 0, slots := 0, locals := 0 } : Room) (va_Pc [.ref q1, .ref q2, .ref q3, .ref q4] (preM dC dI ad [(c1, .int), (c2, .int), (c3, .long), (c4, .long)] [(q1, .inl (c1, 38, .inl fa)), (q2, .inl (c2, 38, .inl fb)), (q3, .inl (c3, 7, .inr (.inl fc))), (q4, .inl (c4, 7, .inr (.inl fd)))] sz)) (va_Qv (fun (_ : Unit) => True) (fun _ t => ∃ (gb : Nat → Int32), ∃ (gd : Nat → Int64), (mC fa gb 38) ∧ va_P (dC, dI) vwCl [(q1, .inl (c1, 38, .inl fa)), (q2, .inl (c2, 38, .inl gb)), (q3, .inl (c3, 7, .inr (.inl fc))), (q4, .inl (c4, 7, .inr (.inl gd)))] t.heap ∧ va_K (dC, dI) vwCl [(c1, .int), (c2, .int), (c3, .long), (c4, .long)] t ∧ va_D (va_A [(q1, .inl (c1, 38, .inl fa)), (q2, .inl (c2, 38, .inl fb)), (q3, .inl (c3, 7, .inr (.inl fc))), (q4, .inl (c4, 7, .inr (.inl fd)))] sz) [(q1, .inl (c1, 38, .inl fa)), (q2, .inl (c2, 38, .inl gb)), (q3, .inl (c3, 7, .inr (.inl fc))), (q4, .inl (c4, 7, .inr (.inl gd)))]) (va_A [(q1, .inl (c1, 38, .inl fa)), (q2, .inl (c2, 38, .inl fb)), (q3, .inl (c3, 7, .inr (.inl fc))), (q4, .inl (c4, 7, .inr (.inl fd)))] sz)) 0 0 (va_A [(q1, .inl (c1, 38, .inl fa)), (q2, .inl (c2, 38, .inl fb)), (q3, .inl (c3, 7, .inr (.inl fc))), (q4, .inl (c4, 7, .inr (.inl fd)))] sz) := by
  refine Met.ofW (cc := cX9_copyAll) (maxL := 5) (ret := none) (by decide) rfl ?_
  intro p e s m args below meth c s₁ B hml hv
  obtain ⟨rfl, hsz, hP, hK, hD0, hev⟩ := hv
  have hx := B.exec
  have hb := B.bytes
  have hr := B.returns
  have hts := atoms_spec (ws := w_m_copyAll) B.pre
  have hown : s.vm.findClass RX9 = some m.cls := findClass_of_methodNamed B.named
  have hlocks := B.notSynchronized
  subst hsz
  have hD := hD0.self (sz := s.heap.size)
  generalize hAe : va_A [(q1, .inl (c1, 38, .inl fa)), (q2, .inl (c2, 38, .inl fb)), (q3, .inl (c3, 7, .inr (.inl fc))), (q4, .inl (c4, 7, .inr (.inl fd)))] s.heap.size = A at hD ⊢
  have hA : ∀ q : Nat, s.heap.size ≤ q → A q := fun q h => by rw [← hAe]; exact Or.inr h
  have hS : va_S A s.heap s.heap [] := va_S.rf
  have hP : va_P (dC, dI) vwCl [(q1, .inl (c1, 38, .inl fa)), (q2, .inl (c2, 38, .inl fb)), (q3, .inl (c3, 7, .inr (.inl fc))), (q4, .inl (c4, 7, .inr (.inl fd)))] s.heap := hP
  have hl := lv_entry ([.ref q1, .ref q2, .ref q3, .ref q4]) (n := 5) (Nat.le_of_ble_eq_true rfl)
  rw [lg_entry_eq]
  generalize (lg_sl ([.ref q1, .ref q2, .ref q3, .ref q4]) ++ List.replicate (5 - (lg_sl ([.ref q1, .ref q2, .ref q3, .ref q4])).length) Slot.unset).toArray = ls at hl ⊢
  have hl : lv_has ls 5 [(0, .ref q1), (1, .ref q2), (2, .ref q3), (3, .ref q4)] := hl
  refine lv_iconst (v := 0) hx hb dX9_copyAll_0 (by decide) ?_
  refine lv_istore (lv' := [(4, .int 0), (0, .ref q1), (1, .ref q2), (2, .ref q3), (3, .ref q4)]) hx hb dX9_copyAll_1 hl (by decide) rfl (fun ls hl => ?_)
  refine pp_loop (ι := Int32 × (Nat → Int32)) (fun ⟨v4_3, y1⟩ => (38 - v4_3.toInt).toNat) (fun ⟨v4_3, y1⟩ H locs ls => (mC fa y1 v4_3.toInt) ∧ (0 ≤ v4_3.toInt) ∧ (v4_3.toInt ≤ 38) ∧ va_P (dC, dI) vwCl [(q1, .inl (c1, 38, .inl fa)), (q2, .inl (c2, 38, .inl y1)), (q3, .inl (c3, 7, .inr (.inl fc))), (q4, .inl (c4, 7, .inr (.inl fd)))] H ∧ va_D A [(q1, .inl (c1, 38, .inl fa)), (q2, .inl (c2, 38, .inl y1)), (q3, .inl (c3, 7, .inr (.inl fc))), (q4, .inl (c4, 7, .inr (.inl fd)))] ∧ va_S A s.heap H locs ∧ lv_has ls 5 [(4, .int v4_3), (0, .ref q1), (1, .ref q2), (2, .ref q3), (3, .ref q4)]) ?_ (0, fb) _ _ _ ⟨(mC_0 _ _), (by first | omega | decide | (simp only [fa_lt, fa_le, fa_eq, and_true, true_and, and_false, false_and, not_true_eq_false, not_false_eq_true, li_0, li_1, li_2, li_3, li_4, li_5, li_6, li_7, li_8, li_9, li_10, li_12, li_15, li_16, li_20, li_30, li_34, li_38, li_40, li_63, li_64, li_65, li_78, li_120, li_1000, li_4000, li_10000, li_11077, li_255, li_65535, li_m1, li_m2, li_m1000000001, li_m1000000002, li_m1000000003, li_m1000000004, li_m1000000005, li_m1000000006, li_m1000000007, or_true, true_or, or_false, false_or, implies_true, true_implies, false_implies] <;> omega)), (by first | omega | decide | (simp only [fa_lt, fa_le, fa_eq, and_true, true_and, and_false, false_and, not_true_eq_false, not_false_eq_true, li_0, li_1, li_2, li_3, li_4, li_5, li_6, li_7, li_8, li_9, li_10, li_12, li_15, li_16, li_20, li_30, li_34, li_38, li_40, li_63, li_64, li_65, li_78, li_120, li_1000, li_4000, li_10000, li_11077, li_255, li_65535, li_m1, li_m2, li_m1000000001, li_m1000000002, li_m1000000003, li_m1000000004, li_m1000000005, li_m1000000006, li_m1000000007, or_true, true_or, or_false, false_or, implies_true, true_implies, false_implies] <;> omega)), hP.sub [0, 1, 2, 3] rfl, hD.sub [0, 1, 2, 3] (by decide) rfl, hS, lv_sub hl [0, 1, 2, 3, 4] rfl⟩
  intro k_1 ihk_1 u H locs ls hm hI
  obtain ⟨v4_3, y1⟩ := u
  obtain ⟨jk_1_0, jk_1_1, jk_1_2, hP, hD, hS, hl⟩ := hI
  have hmk_1 : (38 - v4_3.toInt).toNat < k_1 + 1 := hm
  clear hm
  have jk_1_0 : mC fa y1 v4_3.toInt := jk_1_0
  have jk_1_1 : 0 ≤ v4_3.toInt := jk_1_1
  have jk_1_2 : v4_3.toInt ≤ 38 := jk_1_2
  have hl : lv_has ls 5 [(4, .int v4_3), (0, .ref q1), (1, .ref q2), (2, .ref q3), (3, .ref q4)] := hl
  have hP : va_P (dC, dI) vwCl [(q1, .inl (c1, 38, .inl fa)), (q2, .inl (c2, 38, .inl y1)), (q3, .inl (c3, 7, .inr (.inl fc))), (q4, .inl (c4, 7, .inr (.inl fd)))] H := hP
  have hD : va_D A [(q1, .inl (c1, 38, .inl fa)), (q2, .inl (c2, 38, .inl y1)), (q3, .inl (c3, 7, .inr (.inl fc))), (q4, .inl (c4, 7, .inr (.inl fd)))] := hD
  refine lv_iload hx hb dX9_copyAll_3 (lv_at hl 0 rfl) ?_
  refine lv_bipush (v := 38) hx hb dX9_copyAll_5 (by decide) ?_
  refine lv_icmp_ge (tgt := 24) hx hb dX9_copyAll_7 (by decide) (fun c_2 => ?_) (fun c_2 => ?_)
  · skip
    have tc_2 : 38 ≤ v4_3.toInt := (fa_le _ _).mp c_2
    have hc9 : mC fa y1 38 := by
      have h9 : v4_3.toInt = 38 := by omega
      rw [← h9]; assumption
    refine lv_iconst (v := 0) hx hb dX9_copyAll_24 (by decide) ?_
    refine lv_istore (lv' := [(4, .int 0), (0, .ref q1), (1, .ref q2), (2, .ref q3), (3, .ref q4)]) hx hb dX9_copyAll_25 hl (by decide) rfl (fun ls hl => ?_)
    refine pp_loop (ι := Int32 × (Nat → Int64)) (fun ⟨v4_27, y2⟩ => (7 - v4_27.toInt).toNat) (fun ⟨v4_27, y2⟩ H locs ls => (0 ≤ v4_27.toInt) ∧ (v4_27.toInt ≤ 7) ∧ va_P (dC, dI) vwCl [(q1, .inl (c1, 38, .inl fa)), (q2, .inl (c2, 38, .inl y1)), (q3, .inl (c3, 7, .inr (.inl fc))), (q4, .inl (c4, 7, .inr (.inl y2)))] H ∧ va_D A [(q1, .inl (c1, 38, .inl fa)), (q2, .inl (c2, 38, .inl y1)), (q3, .inl (c3, 7, .inr (.inl fc))), (q4, .inl (c4, 7, .inr (.inl y2)))] ∧ va_S A s.heap H locs ∧ lv_has ls 5 [(4, .int v4_27), (0, .ref q1), (1, .ref q2), (2, .ref q3), (3, .ref q4)]) ?_ (0, fd) _ _ _ ⟨(by first | omega | decide | (simp only [fa_lt, fa_le, fa_eq, and_true, true_and, and_false, false_and, not_true_eq_false, not_false_eq_true, li_0, li_1, li_2, li_3, li_4, li_5, li_6, li_7, li_8, li_9, li_10, li_12, li_15, li_16, li_20, li_30, li_34, li_38, li_40, li_63, li_64, li_65, li_78, li_120, li_1000, li_4000, li_10000, li_11077, li_255, li_65535, li_m1, li_m2, li_m1000000001, li_m1000000002, li_m1000000003, li_m1000000004, li_m1000000005, li_m1000000006, li_m1000000007, or_true, true_or, or_false, false_or, implies_true, true_implies, false_implies] <;> omega)), (by first | omega | decide | (simp only [fa_lt, fa_le, fa_eq, and_true, true_and, and_false, false_and, not_true_eq_false, not_false_eq_true, li_0, li_1, li_2, li_3, li_4, li_5, li_6, li_7, li_8, li_9, li_10, li_12, li_15, li_16, li_20, li_30, li_34, li_38, li_40, li_63, li_64, li_65, li_78, li_120, li_1000, li_4000, li_10000, li_11077, li_255, li_65535, li_m1, li_m2, li_m1000000001, li_m1000000002, li_m1000000003, li_m1000000004, li_m1000000005, li_m1000000006, li_m1000000007, or_true, true_or, or_false, false_or, implies_true, true_implies, false_implies] <;> omega)), hP.sub [0, 1, 2, 3] rfl, hD.sub [0, 1, 2, 3] (by decide) rfl, hS, lv_sub hl [0, 1, 2, 3, 4] rfl⟩
    intro k_3 ihk_3 u H locs ls hm hI
    obtain ⟨v4_27, y2⟩ := u
    obtain ⟨jk_3_0, jk_3_1, hP, hD, hS, hl⟩ := hI
    have hmk_3 : (7 - v4_27.toInt).toNat < k_3 + 1 := hm
    clear hm
    have jk_3_0 : 0 ≤ v4_27.toInt := jk_3_0
    have jk_3_1 : v4_27.toInt ≤ 7 := jk_3_1
    have hl : lv_has ls 5 [(4, .int v4_27), (0, .ref q1), (1, .ref q2), (2, .ref q3), (3, .ref q4)] := hl
    have hP : va_P (dC, dI) vwCl [(q1, .inl (c1, 38, .inl fa)), (q2, .inl (c2, 38, .inl y1)), (q3, .inl (c3, 7, .inr (.inl fc))), (q4, .inl (c4, 7, .inr (.inl y2)))] H := hP
    have hD : va_D A [(q1, .inl (c1, 38, .inl fa)), (q2, .inl (c2, 38, .inl y1)), (q3, .inl (c3, 7, .inr (.inl fc))), (q4, .inl (c4, 7, .inr (.inl y2)))] := hD
    refine lv_iload hx hb dX9_copyAll_27 (lv_at hl 0 rfl) ?_
    refine lv_bipush (v := 7) hx hb dX9_copyAll_29 (by decide) ?_
    refine lv_icmp_ge (tgt := 48) hx hb dX9_copyAll_31 (by decide) (fun c_4 => ?_) (fun c_4 => ?_)
    · skip
      have tc_4 : 7 ≤ v4_27.toInt := (fa_le _ _).mp c_4
      have hP9 := hP.sub (ws' := [(q1, .inl (c1, 38, .inl fa)), (q2, .inl (c2, 38, .inl y1)), (q3, .inl (c3, 7, .inr (.inl fc))), (q4, .inl (c4, 7, .inr (.inl y2)))]) [0, 1, 2, 3] rfl
      have hD9 := hD.sub (ws' := [(q1, .inl (c1, 38, .inl fa)), (q2, .inl (c2, 38, .inl y1)), (q3, .inl (c3, 7, .inr (.inl fc))), (q4, .inl (c4, 7, .inr (.inl y2)))]) [0, 1, 2, 3] (by decide) rfl
      have hK9 := hK.sub (tys' := [(c1, .int), (c2, .int), (c3, .long), (c4, .long)]) [0, 1, 2, 3] rfl
      exact W.vret hx hb hr (fun t ht hW => ⟨⟨(), rfl, trivial, y1, y2, hc9, by rw [ht]; exact hP9, va_K.moved hW.alike hK9, hD9⟩, hS.F ht⟩) hS.2.2 dX9_copyAll_48
    · skip
      have tc_4 : ¬ 7 ≤ v4_27.toInt := fun h => c_4 ((fa_le _ _).mpr h)
      refine lv_aload_n hx hb dX9_copyAll_34 rfl (lv_at hl 4 rfl) ?_
      refine lv_iload hx hb dX9_copyAll_35 (lv_at hl 0 rfl) ?_
      refine lv_aload_n hx hb dX9_copyAll_37 rfl (lv_at hl 3 rfl) ?_
      refine lv_iload hx hb dX9_copyAll_38 (lv_at hl 0 rfl) ?_
      refine va_lald hx hb hK hP 2 2 rfl rfl (vp_in_iff.mpr ⟨by omega, by omega⟩) dX9_copyAll_40 ?_
      refine lv_topl (fun n_5 en_5 => ?_)
      refine va_last hx hb hK hP hD hS 3 3 rfl rfl (vp_in_iff.mpr ⟨by omega, by omega⟩) dX9_copyAll_41 (fun H locs hP hD hS => ?_)
      have hP : va_P (dC, dI) vwCl [(q1, .inl (c1, 38, .inl fa)), (q2, .inl (c2, 38, .inl y1)), (q3, .inl (c3, 7, .inr (.inl fc))), (q4, .inl (c4, 7, .inr (.inl (vp_updL y2 v4_27.toNatClampNeg n_5))))] H := hP
      have hD : va_D A [(q1, .inl (c1, 38, .inl fa)), (q2, .inl (c2, 38, .inl y1)), (q3, .inl (c3, 7, .inr (.inl fc))), (q4, .inl (c4, 7, .inr (.inl (vp_updL y2 v4_27.toNatClampNeg n_5))))] := hD
      obtain ⟨n_6, en_6⟩ : ∃ y : Int32, y = v4_27 + 1 := ⟨_, rfl⟩
      have tn_6 : n_6.toInt = v4_27.toInt + 1 := pp_add en_6 rfl rfl (by omega) (by omega)
      refine lv_iinc (v := n_6) (lv' := [(4, .int n_6), (0, .ref q1), (1, .ref q2), (2, .ref q3), (3, .ref q4)]) hx hb dX9_copyAll_42 hl (k := 0) rfl (by rw [en_6]; rfl) (by decide) rfl (fun ls hl => ?_)
      clear en_6
      refine lv_goto (tgt := 27) hx hb dX9_copyAll_45 (by decide) ?_
      exact ihk_3 (n_6, (vp_updL y2 v4_27.toNatClampNeg n_5)) _ _ _ (by show (7 - n_6.toInt).toNat < k_3; omega) ⟨(by first | omega | decide | (simp only [fa_lt, fa_le, fa_eq, and_true, true_and, and_false, false_and, not_true_eq_false, not_false_eq_true, li_0, li_1, li_2, li_3, li_4, li_5, li_6, li_7, li_8, li_9, li_10, li_12, li_15, li_16, li_20, li_30, li_34, li_38, li_40, li_63, li_64, li_65, li_78, li_120, li_1000, li_4000, li_10000, li_11077, li_255, li_65535, li_m1, li_m2, li_m1000000001, li_m1000000002, li_m1000000003, li_m1000000004, li_m1000000005, li_m1000000006, li_m1000000007, or_true, true_or, or_false, false_or, implies_true, true_implies, false_implies] <;> omega)), (by first | omega | decide | (simp only [fa_lt, fa_le, fa_eq, and_true, true_and, and_false, false_and, not_true_eq_false, not_false_eq_true, li_0, li_1, li_2, li_3, li_4, li_5, li_6, li_7, li_8, li_9, li_10, li_12, li_15, li_16, li_20, li_30, li_34, li_38, li_40, li_63, li_64, li_65, li_78, li_120, li_1000, li_4000, li_10000, li_11077, li_255, li_65535, li_m1, li_m2, li_m1000000001, li_m1000000002, li_m1000000003, li_m1000000004, li_m1000000005, li_m1000000006, li_m1000000007, or_true, true_or, or_false, false_or, implies_true, true_implies, false_implies] <;> omega)), hP.sub [0, 1, 2, 3] rfl, hD.sub [0, 1, 2, 3] (by decide) rfl, hS, lv_sub hl [0, 1, 2, 3, 4] rfl⟩
  · skip
    have tc_2 : ¬ 38 ≤ v4_3.toInt := fun h => c_2 ((fa_le _ _).mpr h)
    refine lv_aload_n hx hb dX9_copyAll_10 rfl (lv_at hl 2 rfl) ?_
    refine lv_iload hx hb dX9_copyAll_11 (lv_at hl 0 rfl) ?_
    refine lv_aload_n hx hb dX9_copyAll_13 rfl (lv_at hl 1 rfl) ?_
    refine lv_iload hx hb dX9_copyAll_14 (lv_at hl 0 rfl) ?_
    refine va_iald hx hb hK hP 0 0 rfl rfl (vp_in_iff.mpr ⟨by omega, by omega⟩) dX9_copyAll_16 ?_
    refine lv_topi (fun n_7 en_7 => ?_)
    refine va_iast hx hb hK hP hD hS 1 1 rfl rfl (vp_in_iff.mpr ⟨by omega, by omega⟩) dX9_copyAll_17 (fun H locs hP hD hS => ?_)
    have hP : va_P (dC, dI) vwCl [(q1, .inl (c1, 38, .inl fa)), (q2, .inl (c2, 38, .inl (upd y1 v4_3.toNatClampNeg n_7))), (q3, .inl (c3, 7, .inr (.inl fc))), (q4, .inl (c4, 7, .inr (.inl fd)))] H := hP
    have hD : va_D A [(q1, .inl (c1, 38, .inl fa)), (q2, .inl (c2, 38, .inl (upd y1 v4_3.toNatClampNeg n_7))), (q3, .inl (c3, 7, .inr (.inl fc))), (q4, .inl (c4, 7, .inr (.inl fd)))] := hD
    obtain ⟨n_8, en_8⟩ : ∃ y : Int32, y = v4_3 + 1 := ⟨_, rfl⟩
    have tn_8 : n_8.toInt = v4_3.toInt + 1 := pp_add en_8 rfl rfl (by omega) (by omega)
    refine lv_iinc (v := n_8) (lv' := [(4, .int n_8), (0, .ref q1), (1, .ref q2), (2, .ref q3), (3, .ref q4)]) hx hb dX9_copyAll_18 hl (k := 0) rfl (by rw [en_8]; rfl) (by decide) rfl (fun ls hl => ?_)
    clear en_8
    refine lv_goto (tgt := 3) hx hb dX9_copyAll_21 (by decide) ?_
    exact ihk_1 (n_8, (upd y1 v4_3.toNatClampNeg n_7)) _ _ _ (by show (38 - n_8.toInt).toNat < k_1; omega) ⟨(mC_s (by assumption) (by assumption) (by omega) (by omega)), (by first | omega | decide | (simp only [fa_lt, fa_le, fa_eq, and_true, true_and, and_false, false_and, not_true_eq_false, not_false_eq_true, li_0, li_1, li_2, li_3, li_4, li_5, li_6, li_7, li_8, li_9, li_10, li_12, li_15, li_16, li_20, li_30, li_34, li_38, li_40, li_63, li_64, li_65, li_78, li_120, li_1000, li_4000, li_10000, li_11077, li_255, li_65535, li_m1, li_m2, li_m1000000001, li_m1000000002, li_m1000000003, li_m1000000004, li_m1000000005, li_m1000000006, li_m1000000007, or_true, true_or, or_false, false_or, implies_true, true_implies, false_implies] <;> omega)), (by first | omega | decide | (simp only [fa_lt, fa_le, fa_eq, and_true, true_and, and_false, false_and, not_true_eq_false, not_false_eq_true, li_0, li_1, li_2, li_3, li_4, li_5, li_6, li_7, li_8, li_9, li_10, li_12, li_15, li_16, li_20, li_30, li_34, li_38, li_40, li_63, li_64, li_65, li_78, li_120, li_1000, li_4000, li_10000, li_11077, li_255, li_65535, li_m1, li_m2, li_m1000000001, li_m1000000002, li_m1000000003, li_m1000000004, li_m1000000005, li_m1000000006, li_m1000000007, or_true, true_or, or_false, false_or, implies_true, true_implies, false_implies] <;> omega)), hP.sub [0, 1, 2, 3] rfl, hD.sub [0, 1, 2, 3] (by decide) rfl, hS, lv_sub hl [0, 1, 2, 3, 4] rfl⟩

def w_m_image : List Cond := .code yX9_image cX9_image 1 (some .int) :: (([.fieldLink RX9 9 "LampShapesModel" "now" "[I", .fieldLink RX9 13 "LampShapesModel" "kept" "[I", .fieldLink RX9 16 "LampShapesModel" "pictures" "[J", .fieldLink RX9 20 "LampShapesModel" "keptPictures" "[J", .methodLink RX9 298 yX9_copyAll, .static yX9_copyAll, .initialized RX9, .code yX9_copyAll cX9_copyAll 5 none, .fieldLink RX9 302 "LampShapesModel" "isKept" "Z"] : List Cond) ++ wsX90)
set_option maxRecDepth 20000 in
theorem g_m_image_m_copyAll_298 : GoodIn w_m_image (va_wsS RX9 298 yX9_copyAll w_m_copyAll) := goodIn_r _ [5, 6, 7, 8] rfl (by decide +kernel)
set_option maxHeartbeats 4000000 in
set_option maxRecDepth 100000 in
theorem m_image (l : Launch) (dC : Nat → ClassId) (dI : Nat → Nat → Nat) (ad : Nat → Nat) (h0 : Nat) (a0 : Nat) (b0 : Nat) (p0 : Nat) (r0 : Nat) (ik : Int32) (v5 : Value) (v6 : Value) (v7 : Value) (v8 : Value) (v9 : Value) (v10 : Value) (v11 : Value) (v12 : Value) (v13 : Value) (v14 : Value) (v15 : Value) (v16 : Value) (v17 : Value) (v18 : Value) (v19 : Value) (v20 : Value) (v21 : Value) (v22 : Value) (v23 : Value) (v24 : Value) (v25 : Value) (v26 : Value) (v27 : Value) (ac : ClassId) (nf : Nat → Int32) (bc : ClassId) (kf : Nat → Int32) (pc : ClassId) (pf : Nat → Int64) (rc : ClassId) (qf : Nat → Int64) (sz : Nat) (hI : mI nf) : Met l yX9_image w_m_image ({ frames := 1, cells := 0, slots := 0, locals := 24 } : Room) (va_Pc [.ref h0] (preM dC dI ad [(ac, .int), (bc, .int), (pc, .long), (rc, .long)] [(h0, .inr (7, [.ref a0, .ref b0, .ref p0, .ref r0, .int ik, v5, v6, v7, v8, v9, v10, v11, v12, v13, v14, v15, v16, v17, v18, v19, v20, v21, v22, v23, v24, v25, v26, v27])), (a0, .inl (ac, 38, .inl nf)), (b0, .inl (bc, 38, .inl kf)), (p0, .inl (pc, 7, .inr (.inl pf))), (r0, .inl (rc, 7, .inr (.inl qf)))] sz)) (va_Qi (fun (r : Int32) (_ : Unit) => r.toInt = 1) (fun _ t => ∃ (kg : Nat → Int32), ∃ (qg : Nat → Int64), (mI kg) ∧ ((kg 2).toInt = (nf 2).toInt) ∧ va_P (dC, dI) vwCl [(h0, .inr (7, [.ref a0, .ref b0, .ref p0, .ref r0, .int 1, v5, v6, v7, v8, v9, v10, v11, v12, v13, v14, v15, v16, v17, v18, v19, v20, v21, v22, v23, v24, v25, v26, v27])), (a0, .inl (ac, 38, .inl nf)), (b0, .inl (bc, 38, .inl kg)), (p0, .inl (pc, 7, .inr (.inl pf))), (r0, .inl (rc, 7, .inr (.inl qg)))] t.heap ∧ va_K (dC, dI) vwCl [(ac, .int), (bc, .int), (pc, .long), (rc, .long)] t ∧ va_D (va_A [(h0, .inr (7, [.ref a0, .ref b0, .ref p0, .ref r0, .int ik, v5, v6, v7, v8, v9, v10, v11, v12, v13, v14, v15, v16, v17, v18, v19, v20, v21, v22, v23, v24, v25, v26, v27])), (a0, .inl (ac, 38, .inl nf)), (b0, .inl (bc, 38, .inl kf)), (p0, .inl (pc, 7, .inr (.inl pf))), (r0, .inl (rc, 7, .inr (.inl qf)))] sz) [(h0, .inr (7, [.ref a0, .ref b0, .ref p0, .ref r0, .int 1, v5, v6, v7, v8, v9, v10, v11, v12, v13, v14, v15, v16, v17, v18, v19, v20, v21, v22, v23, v24, v25, v26, v27])), (a0, .inl (ac, 38, .inl nf)), (b0, .inl (bc, 38, .inl kg)), (p0, .inl (pc, 7, .inr (.inl pf))), (r0, .inl (rc, 7, .inr (.inl qg)))]) (va_A [(h0, .inr (7, [.ref a0, .ref b0, .ref p0, .ref r0, .int ik, v5, v6, v7, v8, v9, v10, v11, v12, v13, v14, v15, v16, v17, v18, v19, v20, v21, v22, v23, v24, v25, v26, v27])), (a0, .inl (ac, 38, .inl nf)), (b0, .inl (bc, 38, .inl kf)), (p0, .inl (pc, 7, .inr (.inl pf))), (r0, .inl (rc, 7, .inr (.inl qf)))] sz)) 0 0 (va_A [(h0, .inr (7, [.ref a0, .ref b0, .ref p0, .ref r0, .int ik, v5, v6, v7, v8, v9, v10, v11, v12, v13, v14, v15, v16, v17, v18, v19, v20, v21, v22, v23, v24, v25, v26, v27])), (a0, .inl (ac, 38, .inl nf)), (b0, .inl (bc, 38, .inl kf)), (p0, .inl (pc, 7, .inr (.inl pf))), (r0, .inl (rc, 7, .inr (.inl qf)))] sz) := by
  refine Met.ofW (cc := cX9_image) (maxL := 1) (ret := (some .int)) (by decide) rfl ?_
  intro p e s m args below meth c s₁ B hml hv
  obtain ⟨rfl, hsz, hP, hK, hD0, hev⟩ := hv
  have hx := B.exec
  have hb := B.bytes
  have hr := B.returns
  have hts := atoms_spec (ws := w_m_image) B.pre
  have hown : s.vm.findClass RX9 = some m.cls := findClass_of_methodNamed B.named
  have hlocks := B.notSynchronized
  have inX9 : ∀ w ∈ wsX90, w ∈ w_m_image := fun w h => List.mem_cons_of_mem _ (List.mem_append_right _ h)
  subst hsz
  have hD := hD0.self (sz := s.heap.size)
  generalize hAe : va_A [(h0, .inr (7, [.ref a0, .ref b0, .ref p0, .ref r0, .int ik, v5, v6, v7, v8, v9, v10, v11, v12, v13, v14, v15, v16, v17, v18, v19, v20, v21, v22, v23, v24, v25, v26, v27])), (a0, .inl (ac, 38, .inl nf)), (b0, .inl (bc, 38, .inl kf)), (p0, .inl (pc, 7, .inr (.inl pf))), (r0, .inl (rc, 7, .inr (.inl qf)))] s.heap.size = A at hD ⊢
  have hA : ∀ q : Nat, s.heap.size ≤ q → A q := fun q h => by rw [← hAe]; exact Or.inr h
  have hS : va_S A s.heap s.heap [] := va_S.rf
  have hP : va_P (dC, dI) vwCl [(h0, .inr (7, [.ref a0, .ref b0, .ref p0, .ref r0, .int ik, v5, v6, v7, v8, v9, v10, v11, v12, v13, v14, v15, v16, v17, v18, v19, v20, v21, v22, v23, v24, v25, v26, v27])), (a0, .inl (ac, 38, .inl nf)), (b0, .inl (bc, 38, .inl kf)), (p0, .inl (pc, 7, .inr (.inl pf))), (r0, .inl (rc, 7, .inr (.inl qf)))] s.heap := hP
  have hl := lv_entry ([.ref h0]) (n := 1) (Nat.le_of_ble_eq_true rfl)
  rw [lg_entry_eq]
  generalize (lg_sl ([.ref h0]) ++ List.replicate (1 - (lg_sl ([.ref h0])).length) Slot.unset).toArray = ls at hl ⊢
  have hl : lv_has ls 1 [(0, .ref h0)] := hl
  refine lv_aload_n hx hb dX9_image_0 rfl (lv_at hl 0 rfl) ?_
  refine va_get (D := (dC, dI)) (ci := 7) (v := .ref a0) (C := RX9) (T := TX9) (N := 28) hx hb hts inX9 hown hK hP 0 rfl rfl 0 (by decide) (hts _ (List.mem_of_getElem? (i := 1) rfl)) (fun _ h9 => h9) rfl dX9_image_1 ?_
  refine lv_aload_n hx hb dX9_image_4 rfl (lv_at hl 0 rfl) ?_
  refine va_get (D := (dC, dI)) (ci := 7) (v := .ref b0) (C := RX9) (T := TX9) (N := 28) hx hb hts inX9 hown hK hP 0 rfl rfl 1 (by decide) (hts _ (List.mem_of_getElem? (i := 2) rfl)) (fun _ h9 => h9) rfl dX9_image_5 ?_
  refine lv_aload_n hx hb dX9_image_8 rfl (lv_at hl 0 rfl) ?_
  refine va_get (D := (dC, dI)) (ci := 7) (v := .ref p0) (C := RX9) (T := TX9) (N := 28) hx hb hts inX9 hown hK hP 0 rfl rfl 2 (by decide) (hts _ (List.mem_of_getElem? (i := 3) rfl)) (fun _ h9 => h9) rfl dX9_image_9 ?_
  refine lv_aload_n hx hb dX9_image_12 rfl (lv_at hl 0 rfl) ?_
  refine va_get (D := (dC, dI)) (ci := 7) (v := .ref r0) (C := RX9) (T := TX9) (N := 28) hx hb hts inX9 hown hK hP 0 rfl rfl 3 (by decide) (hts _ (List.mem_of_getElem? (i := 4) rfl)) (fun _ h9 => h9) rfl dX9_image_13 ?_
  have hPc := hP.sub (ws' := [(a0, .inl (ac, 38, .inl nf)), (b0, .inl (bc, 38, .inl kf)), (p0, .inl (pc, 7, .inr (.inl pf))), (r0, .inl (rc, 7, .inr (.inl qf)))]) [1, 2, 3, 4] rfl
  have hKc := hK.sub (tys' := [(ac, .int), (bc, .int), (pc, .long), (rc, .long)]) [0, 1, 2, 3] rfl
  have hDc := hD.sub (ws' := [(a0, .inl (ac, 38, .inl nf)), (b0, .inl (bc, 38, .inl kf)), (p0, .inl (pc, 7, .inr (.inl pf))), (r0, .inl (rc, 7, .inr (.inl qf)))]) [1, 2, 3, 4] (by decide) rfl
  have hFc := va_free (wc := [(a0, .inl (ac, 38, .inl nf)), (b0, .inl (bc, 38, .inl kf)), (p0, .inl (pc, 7, .inr (.inl pf))), (r0, .inl (rc, 7, .inr (.inl qf)))]) hD hS hA [1, 2, 3, 4] rfl
  refine va_callv (va_runS (As := [.ref a0, .ref b0, .ref p0, .ref r0]) (rest := []) ⟨hx, hb, hml, hown, hts⟩ (m_copyAll l dC dI ad a0 b0 p0 r0 ac nf bc kf pc pf rc qf s.heap.size ) (va_cwS 4 hts g_m_image_m_copyAll_298 rfl rfl rfl (by decide +kernel) ⟨(Nat.le_of_ble_eq_true rfl), (Nat.le_of_ble_eq_true rfl)⟩) ⟨preM_blind, fun U hU hW => ⟨rfl, preM_at hU hW hPc hKc hDc hev⟩⟩ rfl rfl hl.1 rfl (lv_room (Nat.le_of_ble_eq_true rfl)) dX9_image_16 ⟨(Nat.le_of_ble_eq_true rfl), (Nat.le_of_ble_eq_true rfl)⟩) hS (fun q _ h => hFc q h) hFc (fun u t H1 locs ht hvm hw hB hz1 hk1 hS => ?_)
  obtain ⟨gb_2, gd_3, hq_4, hP1, hK1, hD1⟩ := hB
  rw [ht] at hP1
  have hK1 := va_K.moved hvm.symm hK1
  obtain ⟨hP, hD⟩ := va_join (wr := [(h0, .inr (7, [.ref a0, .ref b0, .ref p0, .ref r0, .int ik, v5, v6, v7, v8, v9, v10, v11, v12, v13, v14, v15, v16, v17, v18, v19, v20, v21, v22, v23, v24, v25, v26, v27]))]) (w1 := [(a0, .inl (ac, 38, .inl nf)), (b0, .inl (bc, 38, .inl gb_2)), (p0, .inl (pc, 7, .inr (.inl pf))), (r0, .inl (rc, 7, .inr (.inl gd_3)))]) hP hD [1, 2, 3, 4] [0] rfl rfl (by decide) (by decide) hk1 hFc hP1 hD1
  generalize H1 = H at hP hS ⊢
  have hP : va_P (dC, dI) vwCl [(h0, .inr (7, [.ref a0, .ref b0, .ref p0, .ref r0, .int ik, v5, v6, v7, v8, v9, v10, v11, v12, v13, v14, v15, v16, v17, v18, v19, v20, v21, v22, v23, v24, v25, v26, v27])), (a0, .inl (ac, 38, .inl nf)), (b0, .inl (bc, 38, .inl gb_2)), (p0, .inl (pc, 7, .inr (.inl pf))), (r0, .inl (rc, 7, .inr (.inl gd_3)))] H := hP
  have hD : va_D A [(h0, .inr (7, [.ref a0, .ref b0, .ref p0, .ref r0, .int ik, v5, v6, v7, v8, v9, v10, v11, v12, v13, v14, v15, v16, v17, v18, v19, v20, v21, v22, v23, v24, v25, v26, v27])), (a0, .inl (ac, 38, .inl nf)), (b0, .inl (bc, 38, .inl gb_2)), (p0, .inl (pc, 7, .inr (.inl pf))), (r0, .inl (rc, 7, .inr (.inl gd_3)))] := hD
  refine lv_aload_n hx hb dX9_image_19 rfl (lv_at hl 0 rfl) ?_
  refine lv_iconst (v := 1) hx hb dX9_image_20 (by decide) ?_
  refine va_put (D := (dC, dI)) (ci := 7) (v := .int 1) (ty := .boolean) (C := RX9) (T := TX9) (N := 28) hx hb hts inX9 tyX9 tyX9_ok nmX9 hown hK hP hD hS 0 rfl rfl 4 (by decide) (hts _ (List.mem_of_getElem? (i := 9) rfl)) (fun _ h9 => h9) rfl (by decide +kernel) (by decide) rfl (Nat.le_of_ble_eq_true rfl) dX9_image_21 (fun H locs hP hD hS => ?_)
  have hP : va_P (dC, dI) vwCl [(h0, .inr (7, [.ref a0, .ref b0, .ref p0, .ref r0, .int 1, v5, v6, v7, v8, v9, v10, v11, v12, v13, v14, v15, v16, v17, v18, v19, v20, v21, v22, v23, v24, v25, v26, v27])), (a0, .inl (ac, 38, .inl nf)), (b0, .inl (bc, 38, .inl gb_2)), (p0, .inl (pc, 7, .inr (.inl pf))), (r0, .inl (rc, 7, .inr (.inl gd_3)))] H := hP
  have hD : va_D A [(h0, .inr (7, [.ref a0, .ref b0, .ref p0, .ref r0, .int 1, v5, v6, v7, v8, v9, v10, v11, v12, v13, v14, v15, v16, v17, v18, v19, v20, v21, v22, v23, v24, v25, v26, v27])), (a0, .inl (ac, 38, .inl nf)), (b0, .inl (bc, 38, .inl gb_2)), (p0, .inl (pc, 7, .inr (.inl pf))), (r0, .inl (rc, 7, .inr (.inl gd_3)))] := hD
  refine lv_iconst (v := 1) hx hb dX9_image_24 (by decide) ?_
  have hP9 := hP.sub (ws' := [(h0, .inr (7, [.ref a0, .ref b0, .ref p0, .ref r0, .int 1, v5, v6, v7, v8, v9, v10, v11, v12, v13, v14, v15, v16, v17, v18, v19, v20, v21, v22, v23, v24, v25, v26, v27])), (a0, .inl (ac, 38, .inl nf)), (b0, .inl (bc, 38, .inl gb_2)), (p0, .inl (pc, 7, .inr (.inl pf))), (r0, .inl (rc, 7, .inr (.inl gd_3)))]) [0, 1, 2, 3, 4] rfl
  have hD9 := hD.sub (ws' := [(h0, .inr (7, [.ref a0, .ref b0, .ref p0, .ref r0, .int 1, v5, v6, v7, v8, v9, v10, v11, v12, v13, v14, v15, v16, v17, v18, v19, v20, v21, v22, v23, v24, v25, v26, v27])), (a0, .inl (ac, 38, .inl nf)), (b0, .inl (bc, 38, .inl gb_2)), (p0, .inl (pc, 7, .inr (.inl pf))), (r0, .inl (rc, 7, .inr (.inl gd_3)))]) [0, 1, 2, 3, 4] (by decide) rfl
  have hK9 := hK.sub (tys' := [(ac, .int), (bc, .int), (pc, .long), (rc, .long)]) [0, 1, 2, 3] rfl
  exact W.iret (v := (1 : Int32)) hx hb hr (fun t ht hW => ⟨⟨(1 : Int32), (), rfl, (by first | omega | decide | (simp only [fa_lt, fa_le, fa_eq, and_true, true_and, and_false, false_and, not_true_eq_false, not_false_eq_true, li_0, li_1, li_2, li_3, li_4, li_5, li_6, li_7, li_8, li_9, li_10, li_12, li_15, li_16, li_20, li_30, li_34, li_38, li_40, li_63, li_64, li_65, li_78, li_120, li_1000, li_4000, li_10000, li_11077, li_255, li_65535, li_m1, li_m2, li_m1000000001, li_m1000000002, li_m1000000003, li_m1000000004, li_m1000000005, li_m1000000006, li_m1000000007, or_true, true_or, or_false, false_or, implies_true, true_implies, false_implies] <;> omega)), gb_2, gd_3, (mC_I hq_4 hI), (by first | omega | decide | (simp only [fa_lt, fa_le, fa_eq, and_true, true_and, and_false, false_and, not_true_eq_false, not_false_eq_true, li_0, li_1, li_2, li_3, li_4, li_5, li_6, li_7, li_8, li_9, li_10, li_12, li_15, li_16, li_20, li_30, li_34, li_38, li_40, li_63, li_64, li_65, li_78, li_120, li_1000, li_4000, li_10000, li_11077, li_255, li_65535, li_m1, li_m2, li_m1000000001, li_m1000000002, li_m1000000003, li_m1000000004, li_m1000000005, li_m1000000006, li_m1000000007, or_true, true_or, or_false, false_or, implies_true, true_implies, false_implies] <;> omega) | (have h9 := mC_e hq_4; omega) | (have h9 := mC_e hq_4; simp only [fa_lt, fa_le, fa_eq, and_true, true_and, and_false, false_and, not_true_eq_false, not_false_eq_true, li_0, li_1, li_2, li_3, li_4, li_5, li_6, li_7, li_8, li_9, li_10, li_12, li_15, li_16, li_20, li_30, li_34, li_38, li_40, li_63, li_64, li_65, li_78, li_120, li_1000, li_4000, li_10000, li_11077, li_255, li_65535, li_m1, li_m2, li_m1000000001, li_m1000000002, li_m1000000003, li_m1000000004, li_m1000000005, li_m1000000006, li_m1000000007, or_true, true_or, or_false, false_or, implies_true, true_implies, false_implies] <;> omega)), by rw [ht]; exact hP9, va_K.moved hW.alike hK9, hD9⟩, hS.F ht⟩) hS.2.2 dX9_image_25

def w_m_undo : List Cond := .code yX9_undo cX9_undo 1 (some .int) :: (([.fieldLink RX9 302 "LampShapesModel" "isKept" "Z", .fieldLink RX9 13 "LampShapesModel" "kept" "[I", .fieldLink RX9 9 "LampShapesModel" "now" "[I", .fieldLink RX9 20 "LampShapesModel" "keptPictures" "[J", .fieldLink RX9 16 "LampShapesModel" "pictures" "[J", .methodLink RX9 298 yX9_copyAll, .static yX9_copyAll, .initialized RX9, .code yX9_copyAll cX9_copyAll 5 none, .constant RX9 150 (-1000000004), .methodLink RX9 84 yX9_finding, .instanceMethod yX9_finding, .selects RX9 yX9_finding yX9_finding, .code yX9_finding cX9_finding 2 (some .int), .fieldLink RX9 23 "LampShapesModel" "found" "[I", .constant RX9 74 (-1000000001)] : List Cond) ++ wsX90)
set_option maxRecDepth 20000 in
theorem g_m_undo_m_copyAll_298 : GoodIn w_m_undo (va_wsS RX9 298 yX9_copyAll w_m_copyAll) := goodIn_r _ [6, 7, 8, 9] rfl (by decide +kernel)
set_option maxRecDepth 20000 in
theorem g_m_undo_mf_none_84 : GoodIn w_m_undo (wsV RX9 84 RX9 yX9_finding w_mf_none) := goodIn_r _ [11, 12, 13, 8, 14, 15, 16, 17, 18, 19, 20, 21, 22, 23, 24, 25, 26, 27, 28, 29, 30, 31, 32, 33, 34, 35, 36, 37, 38, 39, 40, 41, 42, 43, 44] rfl (by decide +kernel)
set_option maxHeartbeats 4000000 in
set_option maxRecDepth 100000 in
theorem m_undo (l : Launch) (dC : Nat → ClassId) (dI : Nat → Nat → Nat) (ad : Nat → Nat) (h0 : Nat) (a0 : Nat) (b0 : Nat) (p0 : Nat) (r0 : Nat) (ik : Int32) (t0 : Nat) (v6 : Value) (v7 : Value) (v8 : Value) (v9 : Value) (v10 : Value) (v11 : Value) (v12 : Value) (v13 : Value) (v14 : Value) (v15 : Value) (v16 : Value) (v17 : Value) (v18 : Value) (v19 : Value) (v20 : Value) (v21 : Value) (v22 : Value) (v23 : Value) (v24 : Value) (v25 : Value) (v26 : Value) (v27 : Value) (tc : ClassId) (tf : Nat → Int32) (ac : ClassId) (nf : Nat → Int32) (bc : ClassId) (kf : Nat → Int32) (pc : ClassId) (pf : Nat → Int64) (rc : ClassId) (qf : Nat → Int64) (sz : Nat) (hI : mI nf) (hJ : ik.toInt = 0 ∨ mI kf) : Met l yX9_undo w_m_undo ({ frames := 1, cells := 0, slots := 0, locals := 24 } : Room) (va_Pc [.ref h0] (preM dC dI ad [(tc, .int), (ac, .int), (bc, .int), (pc, .long), (rc, .long)] [(h0, .inr (7, [.ref a0, .ref b0, .ref p0, .ref r0, .int ik, .ref t0, v6, v7, v8, v9, v10, v11, v12, v13, v14, v15, v16, v17, v18, v19, v20, v21, v22, v23, v24, v25, v26, v27])), (t0, .inl (tc, 8, .inl tf)), (a0, .inl (ac, 38, .inl nf)), (b0, .inl (bc, 38, .inl kf)), (p0, .inl (pc, 7, .inr (.inl pf))), (r0, .inl (rc, 7, .inr (.inl qf)))] sz)) (va_Qi (fun (r : Int32) (_ : Unit) => True) (fun _ t => ∃ (tg : Nat → Int32), ∃ (ng : Nat → Int32), ∃ (pg : Nat → Int64), (mI ng) ∧ ((ik.toInt = 0 → (ng 2).toInt = (nf 2).toInt) ∧ (¬ ik.toInt = 0 → (ng 2).toInt = (kf 2).toInt)) ∧ va_P (dC, dI) vwCl [(h0, .inr (7, [.ref a0, .ref b0, .ref p0, .ref r0, .int ik, .ref t0, v6, v7, v8, v9, v10, v11, v12, v13, v14, v15, v16, v17, v18, v19, v20, v21, v22, v23, v24, v25, v26, v27])), (t0, .inl (tc, 8, .inl tg)), (a0, .inl (ac, 38, .inl ng)), (b0, .inl (bc, 38, .inl kf)), (p0, .inl (pc, 7, .inr (.inl pg))), (r0, .inl (rc, 7, .inr (.inl qf)))] t.heap ∧ va_K (dC, dI) vwCl [(tc, .int), (ac, .int), (bc, .int), (pc, .long), (rc, .long)] t ∧ va_D (va_A [(h0, .inr (7, [.ref a0, .ref b0, .ref p0, .ref r0, .int ik, .ref t0, v6, v7, v8, v9, v10, v11, v12, v13, v14, v15, v16, v17, v18, v19, v20, v21, v22, v23, v24, v25, v26, v27])), (t0, .inl (tc, 8, .inl tf)), (a0, .inl (ac, 38, .inl nf)), (b0, .inl (bc, 38, .inl kf)), (p0, .inl (pc, 7, .inr (.inl pf))), (r0, .inl (rc, 7, .inr (.inl qf)))] sz) [(h0, .inr (7, [.ref a0, .ref b0, .ref p0, .ref r0, .int ik, .ref t0, v6, v7, v8, v9, v10, v11, v12, v13, v14, v15, v16, v17, v18, v19, v20, v21, v22, v23, v24, v25, v26, v27])), (t0, .inl (tc, 8, .inl tg)), (a0, .inl (ac, 38, .inl ng)), (b0, .inl (bc, 38, .inl kf)), (p0, .inl (pc, 7, .inr (.inl pg))), (r0, .inl (rc, 7, .inr (.inl qf)))]) (va_A [(h0, .inr (7, [.ref a0, .ref b0, .ref p0, .ref r0, .int ik, .ref t0, v6, v7, v8, v9, v10, v11, v12, v13, v14, v15, v16, v17, v18, v19, v20, v21, v22, v23, v24, v25, v26, v27])), (t0, .inl (tc, 8, .inl tf)), (a0, .inl (ac, 38, .inl nf)), (b0, .inl (bc, 38, .inl kf)), (p0, .inl (pc, 7, .inr (.inl pf))), (r0, .inl (rc, 7, .inr (.inl qf)))] sz)) 0 0 (va_A [(h0, .inr (7, [.ref a0, .ref b0, .ref p0, .ref r0, .int ik, .ref t0, v6, v7, v8, v9, v10, v11, v12, v13, v14, v15, v16, v17, v18, v19, v20, v21, v22, v23, v24, v25, v26, v27])), (t0, .inl (tc, 8, .inl tf)), (a0, .inl (ac, 38, .inl nf)), (b0, .inl (bc, 38, .inl kf)), (p0, .inl (pc, 7, .inr (.inl pf))), (r0, .inl (rc, 7, .inr (.inl qf)))] sz) := by
  refine Met.ofW (cc := cX9_undo) (maxL := 1) (ret := (some .int)) (by decide) rfl ?_
  intro p e s m args below meth c s₁ B hml hv
  obtain ⟨rfl, hsz, hP, hK, hD0, hev⟩ := hv
  have hx := B.exec
  have hb := B.bytes
  have hr := B.returns
  have hts := atoms_spec (ws := w_m_undo) B.pre
  have hown : s.vm.findClass RX9 = some m.cls := findClass_of_methodNamed B.named
  have hlocks := B.notSynchronized
  have inX9 : ∀ w ∈ wsX90, w ∈ w_m_undo := fun w h => List.mem_cons_of_mem _ (List.mem_append_right _ h)
  subst hsz
  have hD := hD0.self (sz := s.heap.size)
  generalize hAe : va_A [(h0, .inr (7, [.ref a0, .ref b0, .ref p0, .ref r0, .int ik, .ref t0, v6, v7, v8, v9, v10, v11, v12, v13, v14, v15, v16, v17, v18, v19, v20, v21, v22, v23, v24, v25, v26, v27])), (t0, .inl (tc, 8, .inl tf)), (a0, .inl (ac, 38, .inl nf)), (b0, .inl (bc, 38, .inl kf)), (p0, .inl (pc, 7, .inr (.inl pf))), (r0, .inl (rc, 7, .inr (.inl qf)))] s.heap.size = A at hD ⊢
  have hA : ∀ q : Nat, s.heap.size ≤ q → A q := fun q h => by rw [← hAe]; exact Or.inr h
  have hS : va_S A s.heap s.heap [] := va_S.rf
  have hP : va_P (dC, dI) vwCl [(h0, .inr (7, [.ref a0, .ref b0, .ref p0, .ref r0, .int ik, .ref t0, v6, v7, v8, v9, v10, v11, v12, v13, v14, v15, v16, v17, v18, v19, v20, v21, v22, v23, v24, v25, v26, v27])), (t0, .inl (tc, 8, .inl tf)), (a0, .inl (ac, 38, .inl nf)), (b0, .inl (bc, 38, .inl kf)), (p0, .inl (pc, 7, .inr (.inl pf))), (r0, .inl (rc, 7, .inr (.inl qf)))] s.heap := hP
  have hl := lv_entry ([.ref h0]) (n := 1) (Nat.le_of_ble_eq_true rfl)
  rw [lg_entry_eq]
  generalize (lg_sl ([.ref h0]) ++ List.replicate (1 - (lg_sl ([.ref h0])).length) Slot.unset).toArray = ls at hl ⊢
  have hl : lv_has ls 1 [(0, .ref h0)] := hl
  refine lv_aload_n hx hb dX9_undo_0 rfl (lv_at hl 0 rfl) ?_
  refine va_get (D := (dC, dI)) (ci := 7) (v := .int ik) (C := RX9) (T := TX9) (N := 28) hx hb hts inX9 hown hK hP 0 rfl rfl 4 (by decide) (hts _ (List.mem_of_getElem? (i := 1) rfl)) (fun _ h9 => h9) rfl dX9_undo_1 ?_
  refine lv_if_ne (tgt := 14) hx hb dX9_undo_4 (by decide) (fun c_1 => ?_) (fun c_1 => ?_)
  · skip
    have tc_1 : ¬ ik.toInt = 0 := fun h => c_1 ((fa_eq _ _).mpr h)
    have hJ2 : mI kf := hJ.resolve_left (by omega)
    refine lv_aload_n hx hb dX9_undo_14 rfl (lv_at hl 0 rfl) ?_
    refine va_get (D := (dC, dI)) (ci := 7) (v := .ref b0) (C := RX9) (T := TX9) (N := 28) hx hb hts inX9 hown hK hP 0 rfl rfl 1 (by decide) (hts _ (List.mem_of_getElem? (i := 2) rfl)) (fun _ h9 => h9) rfl dX9_undo_15 ?_
    refine lv_aload_n hx hb dX9_undo_18 rfl (lv_at hl 0 rfl) ?_
    refine va_get (D := (dC, dI)) (ci := 7) (v := .ref a0) (C := RX9) (T := TX9) (N := 28) hx hb hts inX9 hown hK hP 0 rfl rfl 0 (by decide) (hts _ (List.mem_of_getElem? (i := 3) rfl)) (fun _ h9 => h9) rfl dX9_undo_19 ?_
    refine lv_aload_n hx hb dX9_undo_22 rfl (lv_at hl 0 rfl) ?_
    refine va_get (D := (dC, dI)) (ci := 7) (v := .ref r0) (C := RX9) (T := TX9) (N := 28) hx hb hts inX9 hown hK hP 0 rfl rfl 3 (by decide) (hts _ (List.mem_of_getElem? (i := 4) rfl)) (fun _ h9 => h9) rfl dX9_undo_23 ?_
    refine lv_aload_n hx hb dX9_undo_26 rfl (lv_at hl 0 rfl) ?_
    refine va_get (D := (dC, dI)) (ci := 7) (v := .ref p0) (C := RX9) (T := TX9) (N := 28) hx hb hts inX9 hown hK hP 0 rfl rfl 2 (by decide) (hts _ (List.mem_of_getElem? (i := 5) rfl)) (fun _ h9 => h9) rfl dX9_undo_27 ?_
    have hPc := hP.sub (ws' := [(b0, .inl (bc, 38, .inl kf)), (a0, .inl (ac, 38, .inl nf)), (r0, .inl (rc, 7, .inr (.inl qf))), (p0, .inl (pc, 7, .inr (.inl pf)))]) [3, 2, 5, 4] rfl
    have hKc := hK.sub (tys' := [(bc, .int), (ac, .int), (rc, .long), (pc, .long)]) [2, 1, 4, 3] rfl
    have hDc := hD.sub (ws' := [(b0, .inl (bc, 38, .inl kf)), (a0, .inl (ac, 38, .inl nf)), (r0, .inl (rc, 7, .inr (.inl qf))), (p0, .inl (pc, 7, .inr (.inl pf)))]) [3, 2, 5, 4] (by decide) rfl
    have hFc := va_free (wc := [(b0, .inl (bc, 38, .inl kf)), (a0, .inl (ac, 38, .inl nf)), (r0, .inl (rc, 7, .inr (.inl qf))), (p0, .inl (pc, 7, .inr (.inl pf)))]) hD hS hA [3, 2, 5, 4] rfl
    refine va_callv (va_runS (As := [.ref b0, .ref a0, .ref r0, .ref p0]) (rest := []) ⟨hx, hb, hml, hown, hts⟩ (m_copyAll l dC dI ad b0 a0 r0 p0 bc kf ac nf rc qf pc pf s.heap.size ) (va_cwS 4 hts g_m_undo_m_copyAll_298 rfl rfl rfl (by decide +kernel) ⟨(Nat.le_of_ble_eq_true rfl), (Nat.le_of_ble_eq_true rfl)⟩) ⟨preM_blind, fun U hU hW => ⟨rfl, preM_at hU hW hPc hKc hDc hev⟩⟩ rfl rfl hl.1 rfl (lv_room (Nat.le_of_ble_eq_true rfl)) dX9_undo_30 ⟨(Nat.le_of_ble_eq_true rfl), (Nat.le_of_ble_eq_true rfl)⟩) hS (fun q _ h => hFc q h) hFc (fun u t H1 locs ht hvm hw hB hz1 hk1 hS => ?_)
    obtain ⟨gb_3, gd_4, hq_5, hP1, hK1, hD1⟩ := hB
    rw [ht] at hP1
    have hK1 := va_K.moved hvm.symm hK1
    obtain ⟨hP, hD⟩ := va_join (wr := [(h0, .inr (7, [.ref a0, .ref b0, .ref p0, .ref r0, .int ik, .ref t0, v6, v7, v8, v9, v10, v11, v12, v13, v14, v15, v16, v17, v18, v19, v20, v21, v22, v23, v24, v25, v26, v27])), (t0, .inl (tc, 8, .inl tf))]) (w1 := [(b0, .inl (bc, 38, .inl kf)), (a0, .inl (ac, 38, .inl gb_3)), (r0, .inl (rc, 7, .inr (.inl qf))), (p0, .inl (pc, 7, .inr (.inl gd_4)))]) hP hD [3, 2, 5, 4] [0, 1] rfl rfl (by decide) (by decide) hk1 hFc hP1 hD1
    generalize H1 = H at hP hS ⊢
    have hP : va_P (dC, dI) vwCl [(h0, .inr (7, [.ref a0, .ref b0, .ref p0, .ref r0, .int ik, .ref t0, v6, v7, v8, v9, v10, v11, v12, v13, v14, v15, v16, v17, v18, v19, v20, v21, v22, v23, v24, v25, v26, v27])), (t0, .inl (tc, 8, .inl tf)), (b0, .inl (bc, 38, .inl kf)), (a0, .inl (ac, 38, .inl gb_3)), (r0, .inl (rc, 7, .inr (.inl qf))), (p0, .inl (pc, 7, .inr (.inl gd_4)))] H := hP
    have hD : va_D A [(h0, .inr (7, [.ref a0, .ref b0, .ref p0, .ref r0, .int ik, .ref t0, v6, v7, v8, v9, v10, v11, v12, v13, v14, v15, v16, v17, v18, v19, v20, v21, v22, v23, v24, v25, v26, v27])), (t0, .inl (tc, 8, .inl tf)), (b0, .inl (bc, 38, .inl kf)), (a0, .inl (ac, 38, .inl gb_3)), (r0, .inl (rc, 7, .inr (.inl qf))), (p0, .inl (pc, 7, .inr (.inl gd_4)))] := hD
    refine lv_aload_n hx hb dX9_undo_33 rfl (lv_at hl 0 rfl) ?_
    refine va_get (D := (dC, dI)) (ci := 7) (v := .ref a0) (C := RX9) (T := TX9) (N := 28) hx hb hts inX9 hown hK hP 0 rfl rfl 0 (by decide) (hts _ (List.mem_of_getElem? (i := 3) rfl)) (fun _ h9 => h9) rfl dX9_undo_34 ?_
    refine lv_iconst (v := 0) hx hb dX9_undo_37 (by decide) ?_
    refine va_iald hx hb hK hP 3 1 rfl rfl (vp_in_nI (n := 0) (by decide) (by decide)) dX9_undo_38 ?_
    refine pp_ti (y := gb_3 0) rfl ?_
    refine lv_topi (fun n_6 en_6 => ?_)
    have tn_6 : n_6.toInt = (gb_3 0).toInt := congrArg Int32.toInt en_6
    clear en_6
    have hP9 := hP.sub (ws' := [(h0, .inr (7, [.ref a0, .ref b0, .ref p0, .ref r0, .int ik, .ref t0, v6, v7, v8, v9, v10, v11, v12, v13, v14, v15, v16, v17, v18, v19, v20, v21, v22, v23, v24, v25, v26, v27])), (t0, .inl (tc, 8, .inl tf)), (a0, .inl (ac, 38, .inl gb_3)), (b0, .inl (bc, 38, .inl kf)), (p0, .inl (pc, 7, .inr (.inl gd_4))), (r0, .inl (rc, 7, .inr (.inl qf)))]) [0, 1, 3, 2, 5, 4] rfl
    have hD9 := hD.sub (ws' := [(h0, .inr (7, [.ref a0, .ref b0, .ref p0, .ref r0, .int ik, .ref t0, v6, v7, v8, v9, v10, v11, v12, v13, v14, v15, v16, v17, v18, v19, v20, v21, v22, v23, v24, v25, v26, v27])), (t0, .inl (tc, 8, .inl tf)), (a0, .inl (ac, 38, .inl gb_3)), (b0, .inl (bc, 38, .inl kf)), (p0, .inl (pc, 7, .inr (.inl gd_4))), (r0, .inl (rc, 7, .inr (.inl qf)))]) [0, 1, 3, 2, 5, 4] (by decide) rfl
    have hK9 := hK.sub (tys' := [(tc, .int), (ac, .int), (bc, .int), (pc, .long), (rc, .long)]) [0, 1, 2, 3, 4] rfl
    exact W.iret (v := n_6) hx hb hr (fun t ht hW => ⟨⟨n_6, (), rfl, trivial, tf, gb_3, gd_4, (mC_I hq_5 hJ2), (by first | omega | decide | (simp only [fa_lt, fa_le, fa_eq, and_true, true_and, and_false, false_and, not_true_eq_false, not_false_eq_true, li_0, li_1, li_2, li_3, li_4, li_5, li_6, li_7, li_8, li_9, li_10, li_12, li_15, li_16, li_20, li_30, li_34, li_38, li_40, li_63, li_64, li_65, li_78, li_120, li_1000, li_4000, li_10000, li_11077, li_255, li_65535, li_m1, li_m2, li_m1000000001, li_m1000000002, li_m1000000003, li_m1000000004, li_m1000000005, li_m1000000006, li_m1000000007, or_true, true_or, or_false, false_or, implies_true, true_implies, false_implies] <;> omega) | (have h9 := mC_e hq_5; omega) | (have h9 := mC_e hq_5; simp only [fa_lt, fa_le, fa_eq, and_true, true_and, and_false, false_and, not_true_eq_false, not_false_eq_true, li_0, li_1, li_2, li_3, li_4, li_5, li_6, li_7, li_8, li_9, li_10, li_12, li_15, li_16, li_20, li_30, li_34, li_38, li_40, li_63, li_64, li_65, li_78, li_120, li_1000, li_4000, li_10000, li_11077, li_255, li_65535, li_m1, li_m2, li_m1000000001, li_m1000000002, li_m1000000003, li_m1000000004, li_m1000000005, li_m1000000006, li_m1000000007, or_true, true_or, or_false, false_or, implies_true, true_implies, false_implies] <;> omega)), by rw [ht]; exact hP9, va_K.moved hW.alike hK9, hD9⟩, hS.F ht⟩) hS.2.2 dX9_undo_39
  · skip
    have tc_1 : ik.toInt = 0 := (fa_eq _ _).mp c_1
    refine lv_aload_n hx hb dX9_undo_7 rfl (lv_at hl 0 rfl) ?_
    refine lv_ldc hx hb hown (hts _ (List.mem_of_getElem? (i := 10) rfl)) dX9_undo_8 ?_
    have hPc := hP.sub (ws' := [(h0, .inr (7, [.ref a0, .ref b0, .ref p0, .ref r0, .int ik, .ref t0, v6, v7, v8, v9, v10, v11, v12, v13, v14, v15, v16, v17, v18, v19, v20, v21, v22, v23, v24, v25, v26, v27])), (t0, .inl (tc, 8, .inl tf))]) [0, 1] rfl
    have hKc := hK.sub (tys' := [(tc, .int)]) [0] rfl
    have hDc := hD.sub (ws' := [(h0, .inr (7, [.ref a0, .ref b0, .ref p0, .ref r0, .int ik, .ref t0, v6, v7, v8, v9, v10, v11, v12, v13, v14, v15, v16, v17, v18, v19, v20, v21, v22, v23, v24, v25, v26, v27])), (t0, .inl (tc, 8, .inl tf))]) [0, 1] (by decide) rfl
    have hFc := va_free (wc := [(h0, .inr (7, [.ref a0, .ref b0, .ref p0, .ref r0, .int ik, .ref t0, v6, v7, v8, v9, v10, v11, v12, v13, v14, v15, v16, v17, v18, v19, v20, v21, v22, v23, v24, v25, v26, v27])), (t0, .inl (tc, 8, .inl tf))]) hD hS hA [0, 1] rfl
    refine va_calli (va_runV (As := [.int (-1000000004)]) (rest := []) ⟨hx, hb, hml, hown, hts⟩ (mf_none l dC dI ad h0 (.ref a0) (.ref b0) (.ref p0) (.ref r0) (.int ik) t0 v6 v7 v8 v9 v10 v11 v12 v13 v14 v15 v16 v17 v18 v19 v20 v21 v22 v23 v24 v25 v26 v27 tc tf s.heap.size ) (cwV 1 hts g_m_undo_mf_none_84 rfl rfl rfl (by decide +kernel) ⟨(Nat.le_of_ble_eq_true rfl), (Nat.le_of_ble_eq_true rfl)⟩) ⟨preM_blind, va_recv hKc hPc (ci := 7) (q0 := 0) rfl rfl, fun U hU hW => ⟨rfl, preM_at hU hW hPc hKc hDc hev⟩⟩ rfl rfl hl.1 rfl (lv_room (Nat.le_of_ble_eq_true rfl)) dX9_undo_10 ⟨(Nat.le_of_ble_eq_true rfl), (Nat.le_of_ble_eq_true rfl)⟩) hS (fun q _ h => hFc q h) hFc (fun r_7 u t H1 locs ht hvm hw hB hz1 hk1 hS => ?_)
    obtain ⟨tg_8, hP1, hK1, hD1⟩ := hB
    rw [ht] at hP1
    have hK1 := va_K.moved hvm.symm hK1
    obtain ⟨hP, hD⟩ := va_join (wr := [(a0, .inl (ac, 38, .inl nf)), (b0, .inl (bc, 38, .inl kf)), (p0, .inl (pc, 7, .inr (.inl pf))), (r0, .inl (rc, 7, .inr (.inl qf)))]) (w1 := [(h0, .inr (7, [.ref a0, .ref b0, .ref p0, .ref r0, .int ik, .ref t0, v6, v7, v8, v9, v10, v11, v12, v13, v14, v15, v16, v17, v18, v19, v20, v21, v22, v23, v24, v25, v26, v27])), (t0, .inl (tc, 8, .inl tg_8))]) hP hD [0, 1] [2, 3, 4, 5] rfl rfl (by decide) (by decide) hk1 hFc hP1 hD1
    generalize H1 = H at hP hS ⊢
    have hP : va_P (dC, dI) vwCl [(a0, .inl (ac, 38, .inl nf)), (b0, .inl (bc, 38, .inl kf)), (p0, .inl (pc, 7, .inr (.inl pf))), (r0, .inl (rc, 7, .inr (.inl qf))), (h0, .inr (7, [.ref a0, .ref b0, .ref p0, .ref r0, .int ik, .ref t0, v6, v7, v8, v9, v10, v11, v12, v13, v14, v15, v16, v17, v18, v19, v20, v21, v22, v23, v24, v25, v26, v27])), (t0, .inl (tc, 8, .inl tg_8))] H := hP
    have hD : va_D A [(a0, .inl (ac, 38, .inl nf)), (b0, .inl (bc, 38, .inl kf)), (p0, .inl (pc, 7, .inr (.inl pf))), (r0, .inl (rc, 7, .inr (.inl qf))), (h0, .inr (7, [.ref a0, .ref b0, .ref p0, .ref r0, .int ik, .ref t0, v6, v7, v8, v9, v10, v11, v12, v13, v14, v15, v16, v17, v18, v19, v20, v21, v22, v23, v24, v25, v26, v27])), (t0, .inl (tc, 8, .inl tg_8))] := hD
    subst hw
    have hP9 := hP.sub (ws' := [(h0, .inr (7, [.ref a0, .ref b0, .ref p0, .ref r0, .int ik, .ref t0, v6, v7, v8, v9, v10, v11, v12, v13, v14, v15, v16, v17, v18, v19, v20, v21, v22, v23, v24, v25, v26, v27])), (t0, .inl (tc, 8, .inl tg_8)), (a0, .inl (ac, 38, .inl nf)), (b0, .inl (bc, 38, .inl kf)), (p0, .inl (pc, 7, .inr (.inl pf))), (r0, .inl (rc, 7, .inr (.inl qf)))]) [4, 5, 0, 1, 2, 3] rfl
    have hD9 := hD.sub (ws' := [(h0, .inr (7, [.ref a0, .ref b0, .ref p0, .ref r0, .int ik, .ref t0, v6, v7, v8, v9, v10, v11, v12, v13, v14, v15, v16, v17, v18, v19, v20, v21, v22, v23, v24, v25, v26, v27])), (t0, .inl (tc, 8, .inl tg_8)), (a0, .inl (ac, 38, .inl nf)), (b0, .inl (bc, 38, .inl kf)), (p0, .inl (pc, 7, .inr (.inl pf))), (r0, .inl (rc, 7, .inr (.inl qf)))]) [4, 5, 0, 1, 2, 3] (by decide) rfl
    have hK9 := hK.sub (tys' := [(tc, .int), (ac, .int), (bc, .int), (pc, .long), (rc, .long)]) [0, 1, 2, 3, 4] rfl
    exact W.iret (v := ((-1000000004) : Int32)) hx hb hr (fun t ht hW => ⟨⟨((-1000000004) : Int32), (), rfl, trivial, tg_8, nf, pf, hI, (by first | omega | decide | (simp only [fa_lt, fa_le, fa_eq, and_true, true_and, and_false, false_and, not_true_eq_false, not_false_eq_true, li_0, li_1, li_2, li_3, li_4, li_5, li_6, li_7, li_8, li_9, li_10, li_12, li_15, li_16, li_20, li_30, li_34, li_38, li_40, li_63, li_64, li_65, li_78, li_120, li_1000, li_4000, li_10000, li_11077, li_255, li_65535, li_m1, li_m2, li_m1000000001, li_m1000000002, li_m1000000003, li_m1000000004, li_m1000000005, li_m1000000006, li_m1000000007, or_true, true_or, or_false, false_or, implies_true, true_implies, false_implies] <;> omega)), by rw [ht]; exact hP9, va_K.moved hW.alike hK9, hD9⟩, hS.F ht⟩) hS.2.2 dX9_undo_13

def w_m_forget : List Cond := .code yX9_forget cX9_forget 2 (some .int) :: (([.fieldLink RX9 302 "LampShapesModel" "isKept" "Z"] : List Cond) ++ wsX90)
set_option maxHeartbeats 4000000 in
set_option maxRecDepth 100000 in
theorem m_forget (l : Launch) (dC : Nat → ClassId) (dI : Nat → Nat → Nat) (ad : Nat → Nat) (h0 : Nat) (v0 : Value) (v1 : Value) (v2 : Value) (v3 : Value) (ik : Int32) (v5 : Value) (v6 : Value) (v7 : Value) (v8 : Value) (v9 : Value) (v10 : Value) (v11 : Value) (v12 : Value) (v13 : Value) (v14 : Value) (v15 : Value) (v16 : Value) (v17 : Value) (v18 : Value) (v19 : Value) (v20 : Value) (v21 : Value) (v22 : Value) (v23 : Value) (v24 : Value) (v25 : Value) (v26 : Value) (v27 : Value) (sz : Nat) : Met l yX9_forget w_m_forget ({ frames := 0, cells := 0, slots := 0, locals := 0 } : Room) (va_Pc [.ref h0] (preM dC dI ad [] [(h0, .inr (7, [v0, v1, v2, v3, .int ik, v5, v6, v7, v8, v9, v10, v11, v12, v13, v14, v15, v16, v17, v18, v19, v20, v21, v22, v23, v24, v25, v26, v27]))] sz)) (va_Qi (fun (r : Int32) (_ : Unit) => (ik.toInt = 0 → r.toInt = 0) ∧ (¬ ik.toInt = 0 → r.toInt = 1)) (fun _ t => va_P (dC, dI) vwCl [(h0, .inr (7, [v0, v1, v2, v3, .int 0, v5, v6, v7, v8, v9, v10, v11, v12, v13, v14, v15, v16, v17, v18, v19, v20, v21, v22, v23, v24, v25, v26, v27]))] t.heap ∧ va_K (dC, dI) vwCl [] t ∧ va_D (va_A [(h0, .inr (7, [v0, v1, v2, v3, .int ik, v5, v6, v7, v8, v9, v10, v11, v12, v13, v14, v15, v16, v17, v18, v19, v20, v21, v22, v23, v24, v25, v26, v27]))] sz) [(h0, .inr (7, [v0, v1, v2, v3, .int 0, v5, v6, v7, v8, v9, v10, v11, v12, v13, v14, v15, v16, v17, v18, v19, v20, v21, v22, v23, v24, v25, v26, v27]))]) (va_A [(h0, .inr (7, [v0, v1, v2, v3, .int ik, v5, v6, v7, v8, v9, v10, v11, v12, v13, v14, v15, v16, v17, v18, v19, v20, v21, v22, v23, v24, v25, v26, v27]))] sz)) 0 0 (va_A [(h0, .inr (7, [v0, v1, v2, v3, .int ik, v5, v6, v7, v8, v9, v10, v11, v12, v13, v14, v15, v16, v17, v18, v19, v20, v21, v22, v23, v24, v25, v26, v27]))] sz) := by
  refine Met.ofW (cc := cX9_forget) (maxL := 2) (ret := (some .int)) (by decide) rfl ?_
  intro p e s m args below meth c s₁ B hml hv
  obtain ⟨rfl, hsz, hP, hK, hD0, hev⟩ := hv
  have hx := B.exec
  have hb := B.bytes
  have hr := B.returns
  have hts := atoms_spec (ws := w_m_forget) B.pre
  have hown : s.vm.findClass RX9 = some m.cls := findClass_of_methodNamed B.named
  have hlocks := B.notSynchronized
  have inX9 : ∀ w ∈ wsX90, w ∈ w_m_forget := fun w h => List.mem_cons_of_mem _ (List.mem_append_right _ h)
  subst hsz
  have hD := hD0.self (sz := s.heap.size)
  generalize hAe : va_A [(h0, .inr (7, [v0, v1, v2, v3, .int ik, v5, v6, v7, v8, v9, v10, v11, v12, v13, v14, v15, v16, v17, v18, v19, v20, v21, v22, v23, v24, v25, v26, v27]))] s.heap.size = A at hD ⊢
  have hA : ∀ q : Nat, s.heap.size ≤ q → A q := fun q h => by rw [← hAe]; exact Or.inr h
  have hS : va_S A s.heap s.heap [] := va_S.rf
  have hP : va_P (dC, dI) vwCl [(h0, .inr (7, [v0, v1, v2, v3, .int ik, v5, v6, v7, v8, v9, v10, v11, v12, v13, v14, v15, v16, v17, v18, v19, v20, v21, v22, v23, v24, v25, v26, v27]))] s.heap := hP
  have hl := lv_entry ([.ref h0]) (n := 2) (Nat.le_of_ble_eq_true rfl)
  rw [lg_entry_eq]
  generalize (lg_sl ([.ref h0]) ++ List.replicate (2 - (lg_sl ([.ref h0])).length) Slot.unset).toArray = ls at hl ⊢
  have hl : lv_has ls 2 [(0, .ref h0)] := hl
  refine lv_aload_n hx hb dX9_forget_0 rfl (lv_at hl 0 rfl) ?_
  refine va_get (D := (dC, dI)) (ci := 7) (v := .int ik) (C := RX9) (T := TX9) (N := 28) hx hb hts inX9 hown hK hP 0 rfl rfl 4 (by decide) (hts _ (List.mem_of_getElem? (i := 1) rfl)) (fun _ h9 => h9) rfl dX9_forget_1 ?_
  refine lv_if_eq (tgt := 11) hx hb dX9_forget_4 (by decide) (fun c_1 => ?_) (fun c_1 => ?_)
  · skip
    have tc_1 : ik.toInt = 0 := (fa_eq _ _).mp c_1
    refine lv_iconst (v := 0) hx hb dX9_forget_11 (by decide) ?_
    refine lv_istore_n (lv' := [(1, .int 0), (0, .ref h0)]) hx hb dX9_forget_12 rfl hl (by decide) rfl (fun ls hl => ?_)
    refine lv_aload_n hx hb dX9_forget_13 rfl (lv_at hl 1 rfl) ?_
    refine lv_iconst (v := 0) hx hb dX9_forget_14 (by decide) ?_
    refine va_put (D := (dC, dI)) (ci := 7) (v := .int 0) (ty := .boolean) (C := RX9) (T := TX9) (N := 28) hx hb hts inX9 tyX9 tyX9_ok nmX9 hown hK hP hD hS 0 rfl rfl 4 (by decide) (hts _ (List.mem_of_getElem? (i := 1) rfl)) (fun _ h9 => h9) rfl (by decide +kernel) (by decide) rfl (Nat.le_of_ble_eq_true rfl) dX9_forget_15 (fun H locs hP hD hS => ?_)
    have hP : va_P (dC, dI) vwCl [(h0, .inr (7, [v0, v1, v2, v3, .int 0, v5, v6, v7, v8, v9, v10, v11, v12, v13, v14, v15, v16, v17, v18, v19, v20, v21, v22, v23, v24, v25, v26, v27]))] H := hP
    have hD : va_D A [(h0, .inr (7, [v0, v1, v2, v3, .int 0, v5, v6, v7, v8, v9, v10, v11, v12, v13, v14, v15, v16, v17, v18, v19, v20, v21, v22, v23, v24, v25, v26, v27]))] := hD
    refine lv_iload_n hx hb dX9_forget_18 rfl (lv_at hl 0 rfl) ?_
    have hP9 := hP.sub (ws' := [(h0, .inr (7, [v0, v1, v2, v3, .int 0, v5, v6, v7, v8, v9, v10, v11, v12, v13, v14, v15, v16, v17, v18, v19, v20, v21, v22, v23, v24, v25, v26, v27]))]) [0] rfl
    have hD9 := hD.sub (ws' := [(h0, .inr (7, [v0, v1, v2, v3, .int 0, v5, v6, v7, v8, v9, v10, v11, v12, v13, v14, v15, v16, v17, v18, v19, v20, v21, v22, v23, v24, v25, v26, v27]))]) [0] (by decide) rfl
    have hK9 := hK.sub (tys' := []) [] rfl
    exact W.iret (v := (0 : Int32)) hx hb hr (fun t ht hW => ⟨⟨(0 : Int32), (), rfl, (by first | omega | decide | (simp only [fa_lt, fa_le, fa_eq, and_true, true_and, and_false, false_and, not_true_eq_false, not_false_eq_true, li_0, li_1, li_2, li_3, li_4, li_5, li_6, li_7, li_8, li_9, li_10, li_12, li_15, li_16, li_20, li_30, li_34, li_38, li_40, li_63, li_64, li_65, li_78, li_120, li_1000, li_4000, li_10000, li_11077, li_255, li_65535, li_m1, li_m2, li_m1000000001, li_m1000000002, li_m1000000003, li_m1000000004, li_m1000000005, li_m1000000006, li_m1000000007, or_true, true_or, or_false, false_or, implies_true, true_implies, false_implies] <;> omega)), by rw [ht]; exact hP9, va_K.moved hW.alike hK9, hD9⟩, hS.F ht⟩) hS.2.2 dX9_forget_19
  · skip
    have tc_1 : ¬ ik.toInt = 0 := fun h => c_1 ((fa_eq _ _).mpr h)
    refine lv_iconst (v := 1) hx hb dX9_forget_7 (by decide) ?_
    refine lv_goto (tgt := 12) hx hb dX9_forget_8 (by decide) ?_
    refine lv_istore_n (lv' := [(1, .int 1), (0, .ref h0)]) hx hb dX9_forget_12 rfl hl (by decide) rfl (fun ls hl => ?_)
    refine lv_aload_n hx hb dX9_forget_13 rfl (lv_at hl 1 rfl) ?_
    refine lv_iconst (v := 0) hx hb dX9_forget_14 (by decide) ?_
    refine va_put (D := (dC, dI)) (ci := 7) (v := .int 0) (ty := .boolean) (C := RX9) (T := TX9) (N := 28) hx hb hts inX9 tyX9 tyX9_ok nmX9 hown hK hP hD hS 0 rfl rfl 4 (by decide) (hts _ (List.mem_of_getElem? (i := 1) rfl)) (fun _ h9 => h9) rfl (by decide +kernel) (by decide) rfl (Nat.le_of_ble_eq_true rfl) dX9_forget_15 (fun H locs hP hD hS => ?_)
    have hP : va_P (dC, dI) vwCl [(h0, .inr (7, [v0, v1, v2, v3, .int 0, v5, v6, v7, v8, v9, v10, v11, v12, v13, v14, v15, v16, v17, v18, v19, v20, v21, v22, v23, v24, v25, v26, v27]))] H := hP
    have hD : va_D A [(h0, .inr (7, [v0, v1, v2, v3, .int 0, v5, v6, v7, v8, v9, v10, v11, v12, v13, v14, v15, v16, v17, v18, v19, v20, v21, v22, v23, v24, v25, v26, v27]))] := hD
    refine lv_iload_n hx hb dX9_forget_18 rfl (lv_at hl 0 rfl) ?_
    have hP9 := hP.sub (ws' := [(h0, .inr (7, [v0, v1, v2, v3, .int 0, v5, v6, v7, v8, v9, v10, v11, v12, v13, v14, v15, v16, v17, v18, v19, v20, v21, v22, v23, v24, v25, v26, v27]))]) [0] rfl
    have hD9 := hD.sub (ws' := [(h0, .inr (7, [v0, v1, v2, v3, .int 0, v5, v6, v7, v8, v9, v10, v11, v12, v13, v14, v15, v16, v17, v18, v19, v20, v21, v22, v23, v24, v25, v26, v27]))]) [0] (by decide) rfl
    have hK9 := hK.sub (tys' := []) [] rfl
    exact W.iret (v := (1 : Int32)) hx hb hr (fun t ht hW => ⟨⟨(1 : Int32), (), rfl, (by first | omega | decide | (simp only [fa_lt, fa_le, fa_eq, and_true, true_and, and_false, false_and, not_true_eq_false, not_false_eq_true, li_0, li_1, li_2, li_3, li_4, li_5, li_6, li_7, li_8, li_9, li_10, li_12, li_15, li_16, li_20, li_30, li_34, li_38, li_40, li_63, li_64, li_65, li_78, li_120, li_1000, li_4000, li_10000, li_11077, li_255, li_65535, li_m1, li_m2, li_m1000000001, li_m1000000002, li_m1000000003, li_m1000000004, li_m1000000005, li_m1000000006, li_m1000000007, or_true, true_or, or_false, false_or, implies_true, true_implies, false_implies] <;> omega)), by rw [ht]; exact hP9, va_K.moved hW.alike hK9, hD9⟩, hS.F ht⟩) hS.2.2 dX9_forget_19

def w_m_count : List Cond := .code yX9_count cX9_count 4 (some .int) :: (([.fieldLink RX9 9 "LampShapesModel" "now" "[I", .methodLink RX9 99 yX9_shapeIs, .instanceMethod yX9_shapeIs, .selects RX9 yX9_shapeIs yX9_shapeIs, .initialized RX9, .code yX9_shapeIs cX9_shapeIs 3 (some .int), .methodLink RX9 146 yX9_dark, .instanceMethod yX9_dark, .selects RX9 yX9_dark yX9_dark, .code yX9_dark cX9_dark 1 (some .long), .methodLink RX9 141 yX9_darkBut, .instanceMethod yX9_darkBut, .selects RX9 yX9_darkBut yX9_darkBut, .code yX9_darkBut cX9_darkBut 5 (some .long), .methodLink RX9 137 yX9_shadowIn, .instanceMethod yX9_shadowIn, .selects RX9 yX9_shadowIn yX9_shadowIn, .code yX9_shadowIn cX9_shadowIn 3 (some .long), .methodLink RX9 129 yX9_shadowOf, .instanceMethod yX9_shadowOf, .selects RX9 yX9_shadowOf yX9_shadowOf, .code yX9_shadowOf cX9_shadowOf 11 (some .long), .methodLink RX9 122 yX9_throwsOf, .static yX9_throwsOf, .code yX9_throwsOf cX9_throwsOf 8 (some .int), .methodLink RX9 112 yX9_mirrored, .static yX9_mirrored, .code yX9_mirrored cX9_mirrored 5 (some .int), .methodLink RX9 109 yX9_has, .static yX9_has, .code yX9_has cX9_has 3 (some .boolean), .methodLink RX9 75 yX9_within, .static yX9_within, .code yX9_within cX9_within 3 (some .boolean), .methodLink RX9 114 yX9_turned, .static yX9_turned, .code yX9_turned cX9_turned 7 (some .int), .methodLink RX9 119 yX9_isBetween, .static yX9_isBetween, .code yX9_isBetween cX9_isBetween 6 (some .boolean), .methodLink RX9 116 yX9_isInner, .static yX9_isInner, .code yX9_isInner cX9_isInner 3 (some .boolean), .methodLink RX9 158 yX9_bits, .static yX9_bits, .code yX9_bits cX9_bits 5 (some .int), .fieldLink RX9 188 "LampShapesModel" "taped" "I", .constant RX9 74 (-1000000001), .methodLink RX9 84 yX9_finding, .instanceMethod yX9_finding, .selects RX9 yX9_finding yX9_finding, .code yX9_finding cX9_finding 2 (some .int), .fieldLink RX9 23 "LampShapesModel" "found" "[I"] : List Cond) ++ wsX90)
set_option maxRecDepth 20000 in
theorem g_m_count_m_shapeIs_99 : GoodIn w_m_count (wsV RX9 99 RX9 yX9_shapeIs w_m_shapeIs) := goodIn_r _ [2, 3, 4, 5, 6, 1, 54, 55, 56, 57, 58, 59, 60, 61, 62, 63, 64, 65, 66, 67, 68, 69, 70, 71, 72, 73, 74, 75, 76, 77, 78, 79, 80, 81] rfl (by decide +kernel)
set_option maxRecDepth 20000 in
theorem g_m_count_m_dark_146 : GoodIn w_m_count (wsV RX9 146 RX9 yX9_dark w_m_dark) := goodIn_r _ [7, 8, 9, 5, 10, 11, 12, 13, 5, 14, 15, 16, 17, 18, 1, 2, 3, 4, 6, 19, 20, 21, 22, 23, 24, 25, 26, 27, 28, 29, 30, 31, 32, 33, 34, 35, 36, 37, 38, 39, 40, 41, 42, 43, 54, 55, 56, 57, 58, 59, 60, 61, 62, 63, 64, 65, 66, 67, 68, 69, 70, 71, 72, 73, 74, 75, 76, 77, 78, 79, 80, 81] rfl (by decide +kernel)
set_option maxRecDepth 20000 in
theorem g_m_count_m_bits2_158 : GoodIn w_m_count (va_wsS RX9 158 yX9_bits w_m_bits2) := goodIn_r _ [44, 45, 5, 46] rfl (by decide +kernel)
set_option maxRecDepth 20000 in
theorem g_m_count_mf_beyond_84 : GoodIn w_m_count (wsV RX9 84 RX9 yX9_finding w_mf_beyond) := goodIn_r _ [49, 50, 51, 5, 52, 53, 48, 54, 55, 56, 57, 58, 59, 60, 61, 62, 63, 64, 65, 66, 67, 68, 69, 70, 71, 72, 73, 74, 75, 76, 77, 78, 79, 80, 81] rfl (by decide +kernel)
set_option maxHeartbeats 4000000 in
set_option maxRecDepth 100000 in
theorem m_count (l : Launch) (dC : Nat → ClassId) (dI : Nat → Nat → Nat) (ad : Nat → Nat) (h0 : Nat) (a : Int32) (a0 : Nat) (v1 : Value) (v2 : Value) (v3 : Value) (v4 : Value) (t0 : Nat) (v6 : Value) (v7 : Value) (v8 : Value) (v9 : Value) (v10 : Value) (ts : Int32) (v12 : Value) (v13 : Value) (v14 : Value) (v15 : Value) (v16 : Value) (v17 : Value) (v18 : Value) (v19 : Value) (v20 : Value) (v21 : Value) (v22 : Value) (v23 : Value) (v24 : Value) (v25 : Value) (v26 : Value) (v27 : Value) (tc : ClassId) (tf : Nat → Int32) (ac : ClassId) (nf : Nat → Int32) (sz : Nat) (hI : mI nf) : Met l yX9_count w_m_count ({ frames := 8, cells := 0, slots := 0, locals := 193 } : Room) (va_Pc [.ref h0, .int a] (preM dC dI ad [(tc, .int), (ac, .int)] [(h0, .inr (7, [.ref a0, v1, v2, v3, v4, .ref t0, v6, v7, v8, v9, v10, .int ts, v12, v13, v14, v15, v16, v17, v18, v19, v20, v21, v22, v23, v24, v25, v26, v27])), (t0, .inl (tc, 8, .inl tf)), (a0, .inl (ac, 38, .inl nf))] sz)) (va_Qi (fun (r : Int32) (_ : Unit) => True) (fun _ t => ∃ (tg : Nat → Int32), va_P (dC, dI) vwCl [(h0, .inr (7, [.ref a0, v1, v2, v3, v4, .ref t0, v6, v7, v8, v9, v10, .int ts, v12, v13, v14, v15, v16, v17, v18, v19, v20, v21, v22, v23, v24, v25, v26, v27])), (t0, .inl (tc, 8, .inl tg)), (a0, .inl (ac, 38, .inl nf))] t.heap ∧ va_K (dC, dI) vwCl [(tc, .int), (ac, .int)] t ∧ va_D (va_A [(h0, .inr (7, [.ref a0, v1, v2, v3, v4, .ref t0, v6, v7, v8, v9, v10, .int ts, v12, v13, v14, v15, v16, v17, v18, v19, v20, v21, v22, v23, v24, v25, v26, v27])), (t0, .inl (tc, 8, .inl tf)), (a0, .inl (ac, 38, .inl nf))] sz) [(h0, .inr (7, [.ref a0, v1, v2, v3, v4, .ref t0, v6, v7, v8, v9, v10, .int ts, v12, v13, v14, v15, v16, v17, v18, v19, v20, v21, v22, v23, v24, v25, v26, v27])), (t0, .inl (tc, 8, .inl tg)), (a0, .inl (ac, 38, .inl nf))]) (va_A [(h0, .inr (7, [.ref a0, v1, v2, v3, v4, .ref t0, v6, v7, v8, v9, v10, .int ts, v12, v13, v14, v15, v16, v17, v18, v19, v20, v21, v22, v23, v24, v25, v26, v27])), (t0, .inl (tc, 8, .inl tf)), (a0, .inl (ac, 38, .inl nf))] sz)) 0 0 (va_A [(h0, .inr (7, [.ref a0, v1, v2, v3, v4, .ref t0, v6, v7, v8, v9, v10, .int ts, v12, v13, v14, v15, v16, v17, v18, v19, v20, v21, v22, v23, v24, v25, v26, v27])), (t0, .inl (tc, 8, .inl tf)), (a0, .inl (ac, 38, .inl nf))] sz) := by
  refine Met.ofW (cc := cX9_count) (maxL := 4) (ret := (some .int)) (by decide) rfl ?_
  intro p e s m args below meth c s₁ B hml hv
  obtain ⟨rfl, hsz, hP, hK, hD0, hev⟩ := hv
  have hx := B.exec
  have hb := B.bytes
  have hr := B.returns
  have hts := atoms_spec (ws := w_m_count) B.pre
  have hown : s.vm.findClass RX9 = some m.cls := findClass_of_methodNamed B.named
  have hlocks := B.notSynchronized
  have inX9 : ∀ w ∈ wsX90, w ∈ w_m_count := fun w h => List.mem_cons_of_mem _ (List.mem_append_right _ h)
  subst hsz
  have hD := hD0.self (sz := s.heap.size)
  generalize hAe : va_A [(h0, .inr (7, [.ref a0, v1, v2, v3, v4, .ref t0, v6, v7, v8, v9, v10, .int ts, v12, v13, v14, v15, v16, v17, v18, v19, v20, v21, v22, v23, v24, v25, v26, v27])), (t0, .inl (tc, 8, .inl tf)), (a0, .inl (ac, 38, .inl nf))] s.heap.size = A at hD ⊢
  have hA : ∀ q : Nat, s.heap.size ≤ q → A q := fun q h => by rw [← hAe]; exact Or.inr h
  have hS : va_S A s.heap s.heap [] := va_S.rf
  have hP : va_P (dC, dI) vwCl [(h0, .inr (7, [.ref a0, v1, v2, v3, v4, .ref t0, v6, v7, v8, v9, v10, .int ts, v12, v13, v14, v15, v16, v17, v18, v19, v20, v21, v22, v23, v24, v25, v26, v27])), (t0, .inl (tc, 8, .inl tf)), (a0, .inl (ac, 38, .inl nf))] s.heap := hP
  have hl := lv_entry ([.ref h0, .int a]) (n := 4) (Nat.le_of_ble_eq_true rfl)
  rw [lg_entry_eq]
  generalize (lg_sl ([.ref h0, .int a]) ++ List.replicate (4 - (lg_sl ([.ref h0, .int a])).length) Slot.unset).toArray = ls at hl ⊢
  have hl : lv_has ls 4 [(0, .ref h0), (1, .int a)] := hl
  refine lv_iconst (v := 0) hx hb dX9_count_0 (by decide) ?_
  refine lv_istore_n (lv' := [(2, .int 0), (0, .ref h0), (1, .int a)]) hx hb dX9_count_1 rfl hl (by decide) rfl (fun ls hl => ?_)
  refine lv_iload_n hx hb dX9_count_2 rfl (lv_at hl 2 rfl) ?_
  by_cases c_1 : a = 0
  · skip
    have tc_1 : a.toInt = 0 := (fa_eq _ _).mp c_1
    refine W.eq (g2 := F0 m 3 ls (.int 0 :: [])) (by rw [c_1]) ?_
    refine lv_tableIn (tgt := 44) hx hb dX9_count_3 (by decide) (by decide) rfl (by decide) ?_
    refine lv_aload_n hx hb dX9_count_44 rfl (lv_at hl 1 rfl) ?_
    refine va_get (D := (dC, dI)) (ci := 7) (v := .ref a0) (C := RX9) (T := TX9) (N := 28) hx hb hts inX9 hown hK hP 0 rfl rfl 0 (by decide) (hts _ (List.mem_of_getElem? (i := 1) rfl)) (fun _ h9 => h9) rfl dX9_count_45 ?_
    refine lv_iconst (v := 0) hx hb dX9_count_48 (by decide) ?_
    refine va_iald hx hb hK hP 2 1 rfl rfl (vp_in_nI (n := 0) (by decide) (by decide)) dX9_count_49 ?_
    refine pp_ti (y := nf 0) rfl ?_
    refine lv_topi (fun n_2 en_2 => ?_)
    have tn_2 : n_2.toInt = (nf 0).toInt ∧ 0 ≤ n_2.toInt ∧ n_2.toInt ≤ 9 := mI_r0 hI en_2
    clear en_2
    have hP9 := hP.sub (ws' := [(h0, .inr (7, [.ref a0, v1, v2, v3, v4, .ref t0, v6, v7, v8, v9, v10, .int ts, v12, v13, v14, v15, v16, v17, v18, v19, v20, v21, v22, v23, v24, v25, v26, v27])), (t0, .inl (tc, 8, .inl tf)), (a0, .inl (ac, 38, .inl nf))]) [0, 1, 2] rfl
    have hD9 := hD.sub (ws' := [(h0, .inr (7, [.ref a0, v1, v2, v3, v4, .ref t0, v6, v7, v8, v9, v10, .int ts, v12, v13, v14, v15, v16, v17, v18, v19, v20, v21, v22, v23, v24, v25, v26, v27])), (t0, .inl (tc, 8, .inl tf)), (a0, .inl (ac, 38, .inl nf))]) [0, 1, 2] (by decide) rfl
    have hK9 := hK.sub (tys' := [(tc, .int), (ac, .int)]) [0, 1] rfl
    exact W.iret (v := n_2) hx hb hr (fun t ht hW => ⟨⟨n_2, (), rfl, trivial, tf, by rw [ht]; exact hP9, va_K.moved hW.alike hK9, hD9⟩, hS.F ht⟩) hS.2.2 dX9_count_50
  · skip
    have tc_1 : ¬ a.toInt = 0 := fun h => c_1 ((fa_eq _ _).mpr h)
    by_cases c_3 : a = 1
    · skip
      have tc_3 : a.toInt = 1 := (fa_eq _ _).mp c_3
      refine W.eq (g2 := F0 m 3 ls (.int 1 :: [])) (by rw [c_3]) ?_
      refine lv_tableIn (tgt := 51) hx hb dX9_count_3 (by decide) (by decide) rfl (by decide) ?_
      refine lv_iconst (v := 0) hx hb dX9_count_51 (by decide) ?_
      refine lv_istore_n (lv' := [(3, .int 0), (2, .int 0), (0, .ref h0), (1, .int a)]) hx hb dX9_count_52 rfl hl (by decide) rfl (fun ls hl => ?_)
      refine pp_loop (ι := Int32 × Int32) (fun ⟨v3_53, v2_53⟩ => ((nf 0).toInt - v3_53.toInt).toNat) (fun ⟨v3_53, v2_53⟩ H locs ls => (0 ≤ v3_53.toInt) ∧ va_P (dC, dI) vwCl [(h0, .inr (7, [.ref a0, v1, v2, v3, v4, .ref t0, v6, v7, v8, v9, v10, .int ts, v12, v13, v14, v15, v16, v17, v18, v19, v20, v21, v22, v23, v24, v25, v26, v27])), (t0, .inl (tc, 8, .inl tf)), (a0, .inl (ac, 38, .inl nf))] H ∧ va_D A [(h0, .inr (7, [.ref a0, v1, v2, v3, v4, .ref t0, v6, v7, v8, v9, v10, .int ts, v12, v13, v14, v15, v16, v17, v18, v19, v20, v21, v22, v23, v24, v25, v26, v27])), (t0, .inl (tc, 8, .inl tf)), (a0, .inl (ac, 38, .inl nf))] ∧ va_S A s.heap H locs ∧ lv_has ls 4 [(3, .int v3_53), (2, .int v2_53), (0, .ref h0), (1, .int a)]) ?_ (0, 0) _ _ _ ⟨(by first | omega | decide | (simp only [fa_lt, fa_le, fa_eq, and_true, true_and, and_false, false_and, not_true_eq_false, not_false_eq_true, li_0, li_1, li_2, li_3, li_4, li_5, li_6, li_7, li_8, li_9, li_10, li_12, li_15, li_16, li_20, li_30, li_34, li_38, li_40, li_63, li_64, li_65, li_78, li_120, li_1000, li_4000, li_10000, li_11077, li_255, li_65535, li_m1, li_m2, li_m1000000001, li_m1000000002, li_m1000000003, li_m1000000004, li_m1000000005, li_m1000000006, li_m1000000007, or_true, true_or, or_false, false_or, implies_true, true_implies, false_implies] <;> omega)), hP.sub [0, 1, 2] rfl, hD.sub [0, 1, 2] (by decide) rfl, hS, lv_sub hl [0, 1, 2, 3] rfl⟩
      intro k_4 ihk_4 u H locs ls hm hI
      obtain ⟨v3_53, v2_53⟩ := u
      obtain ⟨jk_4_0, hP, hD, hS, hl⟩ := hI
      have hmk_4 : ((nf 0).toInt - v3_53.toInt).toNat < k_4 + 1 := hm
      clear hm
      have jk_4_0 : 0 ≤ v3_53.toInt := jk_4_0
      have hl : lv_has ls 4 [(3, .int v3_53), (2, .int v2_53), (0, .ref h0), (1, .int a)] := hl
      have hP : va_P (dC, dI) vwCl [(h0, .inr (7, [.ref a0, v1, v2, v3, v4, .ref t0, v6, v7, v8, v9, v10, .int ts, v12, v13, v14, v15, v16, v17, v18, v19, v20, v21, v22, v23, v24, v25, v26, v27])), (t0, .inl (tc, 8, .inl tf)), (a0, .inl (ac, 38, .inl nf))] H := hP
      have hD : va_D A [(h0, .inr (7, [.ref a0, v1, v2, v3, v4, .ref t0, v6, v7, v8, v9, v10, .int ts, v12, v13, v14, v15, v16, v17, v18, v19, v20, v21, v22, v23, v24, v25, v26, v27])), (t0, .inl (tc, 8, .inl tf)), (a0, .inl (ac, 38, .inl nf))] := hD
      refine lv_iload_n hx hb dX9_count_53 rfl (lv_at hl 0 rfl) ?_
      refine lv_aload_n hx hb dX9_count_54 rfl (lv_at hl 2 rfl) ?_
      refine va_get (D := (dC, dI)) (ci := 7) (v := .ref a0) (C := RX9) (T := TX9) (N := 28) hx hb hts inX9 hown hK hP 0 rfl rfl 0 (by decide) (hts _ (List.mem_of_getElem? (i := 1) rfl)) (fun _ h9 => h9) rfl dX9_count_55 ?_
      refine lv_iconst (v := 0) hx hb dX9_count_58 (by decide) ?_
      refine va_iald hx hb hK hP 2 1 rfl rfl (vp_in_nI (n := 0) (by decide) (by decide)) dX9_count_59 ?_
      refine pp_ti (y := nf 0) rfl ?_
      refine lv_topi (fun n_5 en_5 => ?_)
      have tn_5 : n_5.toInt = (nf 0).toInt ∧ 0 ≤ n_5.toInt ∧ n_5.toInt ≤ 9 := mI_r0 hI en_5
      clear en_5
      have rc_6_x := pp_rng v3_53
      have rc_6_y := pp_rng n_5
      refine lv_icmp_ge (tgt := 78) hx hb dX9_count_60 (by decide) (fun c_6 => ?_) (fun c_6 => ?_)
      · skip
        have tc_6 : n_5.toInt ≤ v3_53.toInt := (fa_le _ _).mp c_6
        refine lv_iload_n hx hb dX9_count_78 rfl (lv_at hl 1 rfl) ?_
        have hP9 := hP.sub (ws' := [(h0, .inr (7, [.ref a0, v1, v2, v3, v4, .ref t0, v6, v7, v8, v9, v10, .int ts, v12, v13, v14, v15, v16, v17, v18, v19, v20, v21, v22, v23, v24, v25, v26, v27])), (t0, .inl (tc, 8, .inl tf)), (a0, .inl (ac, 38, .inl nf))]) [0, 1, 2] rfl
        have hD9 := hD.sub (ws' := [(h0, .inr (7, [.ref a0, v1, v2, v3, v4, .ref t0, v6, v7, v8, v9, v10, .int ts, v12, v13, v14, v15, v16, v17, v18, v19, v20, v21, v22, v23, v24, v25, v26, v27])), (t0, .inl (tc, 8, .inl tf)), (a0, .inl (ac, 38, .inl nf))]) [0, 1, 2] (by decide) rfl
        have hK9 := hK.sub (tys' := [(tc, .int), (ac, .int)]) [0, 1] rfl
        exact W.iret (v := v2_53) hx hb hr (fun t ht hW => ⟨⟨v2_53, (), rfl, trivial, tf, by rw [ht]; exact hP9, va_K.moved hW.alike hK9, hD9⟩, hS.F ht⟩) hS.2.2 dX9_count_79
      · skip
        have tc_6 : ¬ n_5.toInt ≤ v3_53.toInt := fun h => c_6 ((fa_le _ _).mpr h)
        refine lv_iload_n hx hb dX9_count_63 rfl (lv_at hl 1 rfl) ?_
        refine lv_aload_n hx hb dX9_count_64 rfl (lv_at hl 2 rfl) ?_
        refine lv_iload_n hx hb dX9_count_65 rfl (lv_at hl 0 rfl) ?_
        refine lv_iconst (v := 2) hx hb dX9_count_66 (by decide) ?_
        have hPc := hP.sub (ws' := [(h0, .inr (7, [.ref a0, v1, v2, v3, v4, .ref t0, v6, v7, v8, v9, v10, .int ts, v12, v13, v14, v15, v16, v17, v18, v19, v20, v21, v22, v23, v24, v25, v26, v27])), (a0, .inl (ac, 38, .inl nf))]) [0, 2] rfl
        have hKc := hK.sub (tys' := [(ac, .int)]) [1] rfl
        refine vp_callSi (W.runV (As := [.int v3_53, .int 2]) (rest := [.int v2_53]) ⟨hx, hb, hml, hown, hts⟩ (m_shapeIs l dC dI ad h0 v3_53 2 a0 v1 v2 v3 v4 (.ref t0) v6 v7 v8 v9 v10 (.int ts) v12 v13 v14 v15 v16 v17 v18 v19 v20 v21 v22 v23 v24 v25 v26 v27 ac nf (by first | omega | decide | (simp only [fa_lt, fa_le, fa_eq, and_true, true_and, and_false, false_and, not_true_eq_false, not_false_eq_true, li_0, li_1, li_2, li_3, li_4, li_5, li_6, li_7, li_8, li_9, li_10, li_12, li_15, li_16, li_20, li_30, li_34, li_38, li_40, li_63, li_64, li_65, li_78, li_120, li_1000, li_4000, li_10000, li_11077, li_255, li_65535, li_m1, li_m2, li_m1000000001, li_m1000000002, li_m1000000003, li_m1000000004, li_m1000000005, li_m1000000006, li_m1000000007, or_true, true_or, or_false, false_or, implies_true, true_implies, false_implies] <;> omega)) (by first | omega | decide | (simp only [fa_lt, fa_le, fa_eq, and_true, true_and, and_false, false_and, not_true_eq_false, not_false_eq_true, li_0, li_1, li_2, li_3, li_4, li_5, li_6, li_7, li_8, li_9, li_10, li_12, li_15, li_16, li_20, li_30, li_34, li_38, li_40, li_63, li_64, li_65, li_78, li_120, li_1000, li_4000, li_10000, li_11077, li_255, li_65535, li_m1, li_m2, li_m1000000001, li_m1000000002, li_m1000000003, li_m1000000004, li_m1000000005, li_m1000000006, li_m1000000007, or_true, true_or, or_false, false_or, implies_true, true_implies, false_implies] <;> omega))) (cwV 2 hts g_m_count_m_shapeIs_99 rfl rfl rfl (by decide +kernel) ⟨(Nat.le_of_ble_eq_true rfl), (Nat.le_of_ble_eq_true rfl)⟩) ⟨preS_blind, va_recv hKc hPc (ci := 7) (q0 := 0) rfl rfl, fun U hU hW => ⟨rfl, preS_at hU hW hPc hKc hev⟩⟩ rfl rfl hl.1 rfl (lv_room (Nat.le_of_ble_eq_true rfl)) dX9_count_67 ⟨(Nat.le_of_ble_eq_true rfl), (Nat.le_of_ble_eq_true rfl)⟩) (fun r_7 hw => ?_)
        refine lv_iadd hx hb dX9_count_70 ?_
        refine lv_topi (fun n_8 en_8 => ?_)
        clear en_8
        refine lv_istore_n (lv' := [(2, .int n_8), (3, .int v3_53), (0, .ref h0), (1, .int a)]) hx hb dX9_count_71 rfl hl (by decide) rfl (fun ls hl => ?_)
        obtain ⟨n_9, en_9⟩ : ∃ y : Int32, y = v3_53 + 1 := ⟨_, rfl⟩
        have tn_9 : n_9.toInt = v3_53.toInt + 1 := pp_add en_9 rfl rfl (by omega) (by omega)
        refine lv_iinc (v := n_9) (lv' := [(3, .int n_9), (2, .int n_8), (0, .ref h0), (1, .int a)]) hx hb dX9_count_72 hl (k := 1) rfl (by rw [en_9]; rfl) (by decide) rfl (fun ls hl => ?_)
        clear en_9
        refine lv_goto (tgt := 53) hx hb dX9_count_75 (by decide) ?_
        exact ihk_4 (n_9, n_8) _ _ _ (by show ((nf 0).toInt - n_9.toInt).toNat < k_4; omega) ⟨(by first | omega | decide | (simp only [fa_lt, fa_le, fa_eq, and_true, true_and, and_false, false_and, not_true_eq_false, not_false_eq_true, li_0, li_1, li_2, li_3, li_4, li_5, li_6, li_7, li_8, li_9, li_10, li_12, li_15, li_16, li_20, li_30, li_34, li_38, li_40, li_63, li_64, li_65, li_78, li_120, li_1000, li_4000, li_10000, li_11077, li_255, li_65535, li_m1, li_m2, li_m1000000001, li_m1000000002, li_m1000000003, li_m1000000004, li_m1000000005, li_m1000000006, li_m1000000007, or_true, true_or, or_false, false_or, implies_true, true_implies, false_implies] <;> omega)), hP.sub [0, 1, 2] rfl, hD.sub [0, 1, 2] (by decide) rfl, hS, lv_sub hl [0, 1, 2, 3] rfl⟩
    · skip
      have tc_3 : ¬ a.toInt = 1 := fun h => c_3 ((fa_eq _ _).mpr h)
      by_cases c_10 : a = 2
      · skip
        have tc_10 : a.toInt = 2 := (fa_eq _ _).mp c_10
        refine W.eq (g2 := F0 m 3 ls (.int 2 :: [])) (by rw [c_10]) ?_
        refine lv_tableIn (tgt := 80) hx hb dX9_count_3 (by decide) (by decide) rfl (by decide) ?_
        refine lv_aload_n hx hb dX9_count_80 rfl (lv_at hl 1 rfl) ?_
        refine va_get (D := (dC, dI)) (ci := 7) (v := .ref a0) (C := RX9) (T := TX9) (N := 28) hx hb hts inX9 hown hK hP 0 rfl rfl 0 (by decide) (hts _ (List.mem_of_getElem? (i := 1) rfl)) (fun _ h9 => h9) rfl dX9_count_81 ?_
        refine lv_iconst (v := 1) hx hb dX9_count_84 (by decide) ?_
        refine va_iald hx hb hK hP 2 1 rfl rfl (vp_in_nI (n := 1) (by decide) (by decide)) dX9_count_85 ?_
        refine pp_ti (y := nf 1) rfl ?_
        refine lv_topi (fun n_11 en_11 => ?_)
        have tn_11 : n_11.toInt = (nf 1).toInt ∧ 0 ≤ n_11.toInt ∧ n_11.toInt ≤ 7 := mI_r1 hI en_11
        clear en_11
        have hP9 := hP.sub (ws' := [(h0, .inr (7, [.ref a0, v1, v2, v3, v4, .ref t0, v6, v7, v8, v9, v10, .int ts, v12, v13, v14, v15, v16, v17, v18, v19, v20, v21, v22, v23, v24, v25, v26, v27])), (t0, .inl (tc, 8, .inl tf)), (a0, .inl (ac, 38, .inl nf))]) [0, 1, 2] rfl
        have hD9 := hD.sub (ws' := [(h0, .inr (7, [.ref a0, v1, v2, v3, v4, .ref t0, v6, v7, v8, v9, v10, .int ts, v12, v13, v14, v15, v16, v17, v18, v19, v20, v21, v22, v23, v24, v25, v26, v27])), (t0, .inl (tc, 8, .inl tf)), (a0, .inl (ac, 38, .inl nf))]) [0, 1, 2] (by decide) rfl
        have hK9 := hK.sub (tys' := [(tc, .int), (ac, .int)]) [0, 1] rfl
        exact W.iret (v := n_11) hx hb hr (fun t ht hW => ⟨⟨n_11, (), rfl, trivial, tf, by rw [ht]; exact hP9, va_K.moved hW.alike hK9, hD9⟩, hS.F ht⟩) hS.2.2 dX9_count_86
      · skip
        have tc_10 : ¬ a.toInt = 2 := fun h => c_10 ((fa_eq _ _).mpr h)
        by_cases c_12 : a = 3
        · skip
          have tc_12 : a.toInt = 3 := (fa_eq _ _).mp c_12
          refine W.eq (g2 := F0 m 3 ls (.int 3 :: [])) (by rw [c_12]) ?_
          refine lv_tableIn (tgt := 87) hx hb dX9_count_3 (by decide) (by decide) rfl (by decide) ?_
          refine lv_iconst (v := 0) hx hb dX9_count_87 (by decide) ?_
          refine lv_istore_n (lv' := [(3, .int 0), (2, .int 0), (0, .ref h0), (1, .int a)]) hx hb dX9_count_88 rfl hl (by decide) rfl (fun ls hl => ?_)
          refine pp_loop (ι := Int32 × Int32) (fun ⟨v3_89, v2_89⟩ => (4 - v3_89.toInt).toNat) (fun ⟨v3_89, v2_89⟩ H locs ls => (0 ≤ v3_89.toInt) ∧ (v3_89.toInt ≤ 4) ∧ va_P (dC, dI) vwCl [(h0, .inr (7, [.ref a0, v1, v2, v3, v4, .ref t0, v6, v7, v8, v9, v10, .int ts, v12, v13, v14, v15, v16, v17, v18, v19, v20, v21, v22, v23, v24, v25, v26, v27])), (t0, .inl (tc, 8, .inl tf)), (a0, .inl (ac, 38, .inl nf))] H ∧ va_D A [(h0, .inr (7, [.ref a0, v1, v2, v3, v4, .ref t0, v6, v7, v8, v9, v10, .int ts, v12, v13, v14, v15, v16, v17, v18, v19, v20, v21, v22, v23, v24, v25, v26, v27])), (t0, .inl (tc, 8, .inl tf)), (a0, .inl (ac, 38, .inl nf))] ∧ va_S A s.heap H locs ∧ lv_has ls 4 [(3, .int v3_89), (2, .int v2_89), (0, .ref h0), (1, .int a)]) ?_ (0, 0) _ _ _ ⟨(by first | omega | decide | (simp only [fa_lt, fa_le, fa_eq, and_true, true_and, and_false, false_and, not_true_eq_false, not_false_eq_true, li_0, li_1, li_2, li_3, li_4, li_5, li_6, li_7, li_8, li_9, li_10, li_12, li_15, li_16, li_20, li_30, li_34, li_38, li_40, li_63, li_64, li_65, li_78, li_120, li_1000, li_4000, li_10000, li_11077, li_255, li_65535, li_m1, li_m2, li_m1000000001, li_m1000000002, li_m1000000003, li_m1000000004, li_m1000000005, li_m1000000006, li_m1000000007, or_true, true_or, or_false, false_or, implies_true, true_implies, false_implies] <;> omega)), (by first | omega | decide | (simp only [fa_lt, fa_le, fa_eq, and_true, true_and, and_false, false_and, not_true_eq_false, not_false_eq_true, li_0, li_1, li_2, li_3, li_4, li_5, li_6, li_7, li_8, li_9, li_10, li_12, li_15, li_16, li_20, li_30, li_34, li_38, li_40, li_63, li_64, li_65, li_78, li_120, li_1000, li_4000, li_10000, li_11077, li_255, li_65535, li_m1, li_m2, li_m1000000001, li_m1000000002, li_m1000000003, li_m1000000004, li_m1000000005, li_m1000000006, li_m1000000007, or_true, true_or, or_false, false_or, implies_true, true_implies, false_implies] <;> omega)), hP.sub [0, 1, 2] rfl, hD.sub [0, 1, 2] (by decide) rfl, hS, lv_sub hl [0, 1, 2, 3] rfl⟩
          intro k_13 ihk_13 u H locs ls hm hI
          obtain ⟨v3_89, v2_89⟩ := u
          obtain ⟨jk_13_0, jk_13_1, hP, hD, hS, hl⟩ := hI
          have hmk_13 : (4 - v3_89.toInt).toNat < k_13 + 1 := hm
          clear hm
          have jk_13_0 : 0 ≤ v3_89.toInt := jk_13_0
          have jk_13_1 : v3_89.toInt ≤ 4 := jk_13_1
          have hl : lv_has ls 4 [(3, .int v3_89), (2, .int v2_89), (0, .ref h0), (1, .int a)] := hl
          have hP : va_P (dC, dI) vwCl [(h0, .inr (7, [.ref a0, v1, v2, v3, v4, .ref t0, v6, v7, v8, v9, v10, .int ts, v12, v13, v14, v15, v16, v17, v18, v19, v20, v21, v22, v23, v24, v25, v26, v27])), (t0, .inl (tc, 8, .inl tf)), (a0, .inl (ac, 38, .inl nf))] H := hP
          have hD : va_D A [(h0, .inr (7, [.ref a0, v1, v2, v3, v4, .ref t0, v6, v7, v8, v9, v10, .int ts, v12, v13, v14, v15, v16, v17, v18, v19, v20, v21, v22, v23, v24, v25, v26, v27])), (t0, .inl (tc, 8, .inl tf)), (a0, .inl (ac, 38, .inl nf))] := hD
          refine lv_iload_n hx hb dX9_count_89 rfl (lv_at hl 0 rfl) ?_
          refine lv_iconst (v := 4) hx hb dX9_count_90 (by decide) ?_
          refine lv_icmp_ge (tgt := 120) hx hb dX9_count_91 (by decide) (fun c_14 => ?_) (fun c_14 => ?_)
          · skip
            have tc_14 : 4 ≤ v3_89.toInt := (fa_le _ _).mp c_14
            refine lv_iload_n hx hb dX9_count_120 rfl (lv_at hl 1 rfl) ?_
            have hP9 := hP.sub (ws' := [(h0, .inr (7, [.ref a0, v1, v2, v3, v4, .ref t0, v6, v7, v8, v9, v10, .int ts, v12, v13, v14, v15, v16, v17, v18, v19, v20, v21, v22, v23, v24, v25, v26, v27])), (t0, .inl (tc, 8, .inl tf)), (a0, .inl (ac, 38, .inl nf))]) [0, 1, 2] rfl
            have hD9 := hD.sub (ws' := [(h0, .inr (7, [.ref a0, v1, v2, v3, v4, .ref t0, v6, v7, v8, v9, v10, .int ts, v12, v13, v14, v15, v16, v17, v18, v19, v20, v21, v22, v23, v24, v25, v26, v27])), (t0, .inl (tc, 8, .inl tf)), (a0, .inl (ac, 38, .inl nf))]) [0, 1, 2] (by decide) rfl
            have hK9 := hK.sub (tys' := [(tc, .int), (ac, .int)]) [0, 1] rfl
            exact W.iret (v := v2_89) hx hb hr (fun t ht hW => ⟨⟨v2_89, (), rfl, trivial, tf, by rw [ht]; exact hP9, va_K.moved hW.alike hK9, hD9⟩, hS.F ht⟩) hS.2.2 dX9_count_121
          · skip
            have tc_14 : ¬ 4 ≤ v3_89.toInt := fun h => c_14 ((fa_le _ _).mpr h)
            refine lv_iload_n hx hb dX9_count_94 rfl (lv_at hl 1 rfl) ?_
            refine lv_aload_n hx hb dX9_count_95 rfl (lv_at hl 2 rfl) ?_
            refine va_get (D := (dC, dI)) (ci := 7) (v := .ref a0) (C := RX9) (T := TX9) (N := 28) hx hb hts inX9 hown hK hP 0 rfl rfl 0 (by decide) (hts _ (List.mem_of_getElem? (i := 1) rfl)) (fun _ h9 => h9) rfl dX9_count_96 ?_
            refine lv_bipush (v := 30) hx hb dX9_count_99 (by decide) ?_
            refine lv_iload_n hx hb dX9_count_101 rfl (lv_at hl 0 rfl) ?_
            refine lv_iadd hx hb dX9_count_102 ?_
            refine lv_topi (fun n_15 en_15 => ?_)
            have tn_15 : n_15.toInt = 30 + v3_89.toInt := pp_add en_15 rfl rfl (by omega) (by omega)
            clear en_15
            refine va_iald hx hb hK hP 2 1 rfl rfl (vp_in_iff.mpr ⟨by omega, by omega⟩) dX9_count_103 ?_
            refine lv_topi (fun n_16 en_16 => ?_)
            have tn_16 : (-1) ≤ n_16.toInt ∧ n_16.toInt ≤ 8 := mI_rh hI en_16 (by omega) (by omega)
            clear en_16
            refine lv_if_ge (tgt := 111) hx hb dX9_count_104 (by decide) (fun c_17 => ?_) (fun c_17 => ?_)
            · skip
              have tc_17 : 0 ≤ n_16.toInt := (fa_le _ _).mp c_17
              refine lv_iconst (v := 1) hx hb dX9_count_111 (by decide) ?_
              refine lv_iadd hx hb dX9_count_112 ?_
              refine lv_topi (fun n_18 en_18 => ?_)
              clear en_18
              refine lv_istore_n (lv' := [(2, .int n_18), (3, .int v3_89), (0, .ref h0), (1, .int a)]) hx hb dX9_count_113 rfl hl (by decide) rfl (fun ls hl => ?_)
              obtain ⟨n_19, en_19⟩ : ∃ y : Int32, y = v3_89 + 1 := ⟨_, rfl⟩
              have tn_19 : n_19.toInt = v3_89.toInt + 1 := pp_add en_19 rfl rfl (by omega) (by omega)
              refine lv_iinc (v := n_19) (lv' := [(3, .int n_19), (2, .int n_18), (0, .ref h0), (1, .int a)]) hx hb dX9_count_114 hl (k := 1) rfl (by rw [en_19]; rfl) (by decide) rfl (fun ls hl => ?_)
              clear en_19
              refine lv_goto (tgt := 89) hx hb dX9_count_117 (by decide) ?_
              exact ihk_13 (n_19, n_18) _ _ _ (by show (4 - n_19.toInt).toNat < k_13; omega) ⟨(by first | omega | decide | (simp only [fa_lt, fa_le, fa_eq, and_true, true_and, and_false, false_and, not_true_eq_false, not_false_eq_true, li_0, li_1, li_2, li_3, li_4, li_5, li_6, li_7, li_8, li_9, li_10, li_12, li_15, li_16, li_20, li_30, li_34, li_38, li_40, li_63, li_64, li_65, li_78, li_120, li_1000, li_4000, li_10000, li_11077, li_255, li_65535, li_m1, li_m2, li_m1000000001, li_m1000000002, li_m1000000003, li_m1000000004, li_m1000000005, li_m1000000006, li_m1000000007, or_true, true_or, or_false, false_or, implies_true, true_implies, false_implies] <;> omega)), (by first | omega | decide | (simp only [fa_lt, fa_le, fa_eq, and_true, true_and, and_false, false_and, not_true_eq_false, not_false_eq_true, li_0, li_1, li_2, li_3, li_4, li_5, li_6, li_7, li_8, li_9, li_10, li_12, li_15, li_16, li_20, li_30, li_34, li_38, li_40, li_63, li_64, li_65, li_78, li_120, li_1000, li_4000, li_10000, li_11077, li_255, li_65535, li_m1, li_m2, li_m1000000001, li_m1000000002, li_m1000000003, li_m1000000004, li_m1000000005, li_m1000000006, li_m1000000007, or_true, true_or, or_false, false_or, implies_true, true_implies, false_implies] <;> omega)), hP.sub [0, 1, 2] rfl, hD.sub [0, 1, 2] (by decide) rfl, hS, lv_sub hl [0, 1, 2, 3] rfl⟩
            · skip
              have tc_17 : ¬ 0 ≤ n_16.toInt := fun h => c_17 ((fa_le _ _).mpr h)
              refine lv_iconst (v := 0) hx hb dX9_count_107 (by decide) ?_
              refine lv_goto (tgt := 112) hx hb dX9_count_108 (by decide) ?_
              refine lv_iadd hx hb dX9_count_112 ?_
              refine lv_topi (fun n_20 en_20 => ?_)
              have tn_20 : n_20.toInt = v2_89.toInt + 0 := pp_add en_20 rfl rfl (by have := pp_rng v2_89; omega) (by have := pp_rng v2_89; omega)
              clear en_20
              refine lv_istore_n (lv' := [(2, .int n_20), (3, .int v3_89), (0, .ref h0), (1, .int a)]) hx hb dX9_count_113 rfl hl (by decide) rfl (fun ls hl => ?_)
              obtain ⟨n_21, en_21⟩ : ∃ y : Int32, y = v3_89 + 1 := ⟨_, rfl⟩
              have tn_21 : n_21.toInt = v3_89.toInt + 1 := pp_add en_21 rfl rfl (by omega) (by omega)
              refine lv_iinc (v := n_21) (lv' := [(3, .int n_21), (2, .int n_20), (0, .ref h0), (1, .int a)]) hx hb dX9_count_114 hl (k := 1) rfl (by rw [en_21]; rfl) (by decide) rfl (fun ls hl => ?_)
              clear en_21
              refine lv_goto (tgt := 89) hx hb dX9_count_117 (by decide) ?_
              exact ihk_13 (n_21, n_20) _ _ _ (by show (4 - n_21.toInt).toNat < k_13; omega) ⟨(by first | omega | decide | (simp only [fa_lt, fa_le, fa_eq, and_true, true_and, and_false, false_and, not_true_eq_false, not_false_eq_true, li_0, li_1, li_2, li_3, li_4, li_5, li_6, li_7, li_8, li_9, li_10, li_12, li_15, li_16, li_20, li_30, li_34, li_38, li_40, li_63, li_64, li_65, li_78, li_120, li_1000, li_4000, li_10000, li_11077, li_255, li_65535, li_m1, li_m2, li_m1000000001, li_m1000000002, li_m1000000003, li_m1000000004, li_m1000000005, li_m1000000006, li_m1000000007, or_true, true_or, or_false, false_or, implies_true, true_implies, false_implies] <;> omega)), (by first | omega | decide | (simp only [fa_lt, fa_le, fa_eq, and_true, true_and, and_false, false_and, not_true_eq_false, not_false_eq_true, li_0, li_1, li_2, li_3, li_4, li_5, li_6, li_7, li_8, li_9, li_10, li_12, li_15, li_16, li_20, li_30, li_34, li_38, li_40, li_63, li_64, li_65, li_78, li_120, li_1000, li_4000, li_10000, li_11077, li_255, li_65535, li_m1, li_m2, li_m1000000001, li_m1000000002, li_m1000000003, li_m1000000004, li_m1000000005, li_m1000000006, li_m1000000007, or_true, true_or, or_false, false_or, implies_true, true_implies, false_implies] <;> omega)), hP.sub [0, 1, 2] rfl, hD.sub [0, 1, 2] (by decide) rfl, hS, lv_sub hl [0, 1, 2, 3] rfl⟩
        · skip
          have tc_12 : ¬ a.toInt = 3 := fun h => c_12 ((fa_eq _ _).mpr h)
          by_cases c_22 : a = 4
          · skip
            have tc_22 : a.toInt = 4 := (fa_eq _ _).mp c_22
            refine W.eq (g2 := F0 m 3 ls (.int 4 :: [])) (by rw [c_22]) ?_
            refine lv_tableIn (tgt := 122) hx hb dX9_count_3 (by decide) (by decide) rfl (by decide) ?_
            refine lv_aload_n hx hb dX9_count_122 rfl (lv_at hl 1 rfl) ?_
            have hPc := hP.sub (ws' := [(h0, .inr (7, [.ref a0, v1, v2, v3, v4, .ref t0, v6, v7, v8, v9, v10, .int ts, v12, v13, v14, v15, v16, v17, v18, v19, v20, v21, v22, v23, v24, v25, v26, v27])), (a0, .inl (ac, 38, .inl nf))]) [0, 2] rfl
            have hKc := hK.sub (tys' := [(ac, .int)]) [1] rfl
            refine vp_callSl (W.runV (As := []) (rest := []) ⟨hx, hb, hml, hown, hts⟩ (m_dark l dC dI ad h0 a0 v1 v2 v3 v4 (.ref t0) v6 v7 v8 v9 v10 (.int ts) v12 v13 v14 v15 v16 v17 v18 v19 v20 v21 v22 v23 v24 v25 v26 v27 ac nf hI) (cwV 0 hts g_m_count_m_dark_146 rfl rfl rfl (by decide +kernel) ⟨(Nat.le_of_ble_eq_true rfl), (Nat.le_of_ble_eq_true rfl)⟩) ⟨preS_blind, va_recv hKc hPc (ci := 7) (q0 := 0) rfl rfl, fun U hU hW => ⟨rfl, preS_at hU hW hPc hKc hev⟩⟩ rfl rfl hl.1 rfl (lv_room (Nat.le_of_ble_eq_true rfl)) dX9_count_123 ⟨(Nat.le_of_ble_eq_true rfl), (Nat.le_of_ble_eq_true rfl)⟩) (fun r_23 hw => ?_)
            have hPc := hP.sub (ws' := []) [] rfl
            have hKc := hK.sub (tys' := []) [] rfl
            refine vp_callSi (W.runS (As := [.long r_23]) (rest := []) ⟨hx, hb, hml, hown, hts⟩ (m_bits2 l dC dI ad r_23 ) (va_cwS 1 hts g_m_count_m_bits2_158 rfl rfl rfl (by decide +kernel) ⟨(Nat.le_of_ble_eq_true rfl), (Nat.le_of_ble_eq_true rfl)⟩) ⟨preS_blind, fun U hU hW => ⟨rfl, preS_at hU hW hPc hKc hev⟩⟩ rfl rfl hl.1 rfl (lv_room (Nat.le_of_ble_eq_true rfl)) dX9_count_126 ⟨(Nat.le_of_ble_eq_true rfl), (Nat.le_of_ble_eq_true rfl)⟩) (fun r_24 hw => ?_)
            have hr_24 : (0 ≤ r_24.toInt ∧ r_24.toInt ≤ 64) ∧ (r_23.toBitVec.toNat < 512 → r_24.toInt = (pop9 r_23.toBitVec.toNat : Int)) := hw
            have hP9 := hP.sub (ws' := [(h0, .inr (7, [.ref a0, v1, v2, v3, v4, .ref t0, v6, v7, v8, v9, v10, .int ts, v12, v13, v14, v15, v16, v17, v18, v19, v20, v21, v22, v23, v24, v25, v26, v27])), (t0, .inl (tc, 8, .inl tf)), (a0, .inl (ac, 38, .inl nf))]) [0, 1, 2] rfl
            have hD9 := hD.sub (ws' := [(h0, .inr (7, [.ref a0, v1, v2, v3, v4, .ref t0, v6, v7, v8, v9, v10, .int ts, v12, v13, v14, v15, v16, v17, v18, v19, v20, v21, v22, v23, v24, v25, v26, v27])), (t0, .inl (tc, 8, .inl tf)), (a0, .inl (ac, 38, .inl nf))]) [0, 1, 2] (by decide) rfl
            have hK9 := hK.sub (tys' := [(tc, .int), (ac, .int)]) [0, 1] rfl
            exact W.iret (v := r_24) hx hb hr (fun t ht hW => ⟨⟨r_24, (), rfl, trivial, tf, by rw [ht]; exact hP9, va_K.moved hW.alike hK9, hD9⟩, hS.F ht⟩) hS.2.2 dX9_count_129
          · skip
            have tc_22 : ¬ a.toInt = 4 := fun h => c_22 ((fa_eq _ _).mpr h)
            by_cases c_25 : a = 5
            · skip
              have tc_25 : a.toInt = 5 := (fa_eq _ _).mp c_25
              refine W.eq (g2 := F0 m 3 ls (.int 5 :: [])) (by rw [c_25]) ?_
              refine lv_tableIn (tgt := 130) hx hb dX9_count_3 (by decide) (by decide) rfl (by decide) ?_
              refine lv_aload_n hx hb dX9_count_130 rfl (lv_at hl 1 rfl) ?_
              refine va_get (D := (dC, dI)) (ci := 7) (v := .int ts) (C := RX9) (T := TX9) (N := 28) hx hb hts inX9 hown hK hP 0 rfl rfl 11 (by decide) (hts _ (List.mem_of_getElem? (i := 47) rfl)) (fun _ h9 => h9) rfl dX9_count_131 ?_
              have hP9 := hP.sub (ws' := [(h0, .inr (7, [.ref a0, v1, v2, v3, v4, .ref t0, v6, v7, v8, v9, v10, .int ts, v12, v13, v14, v15, v16, v17, v18, v19, v20, v21, v22, v23, v24, v25, v26, v27])), (t0, .inl (tc, 8, .inl tf)), (a0, .inl (ac, 38, .inl nf))]) [0, 1, 2] rfl
              have hD9 := hD.sub (ws' := [(h0, .inr (7, [.ref a0, v1, v2, v3, v4, .ref t0, v6, v7, v8, v9, v10, .int ts, v12, v13, v14, v15, v16, v17, v18, v19, v20, v21, v22, v23, v24, v25, v26, v27])), (t0, .inl (tc, 8, .inl tf)), (a0, .inl (ac, 38, .inl nf))]) [0, 1, 2] (by decide) rfl
              have hK9 := hK.sub (tys' := [(tc, .int), (ac, .int)]) [0, 1] rfl
              exact W.iret (v := ts) hx hb hr (fun t ht hW => ⟨⟨ts, (), rfl, trivial, tf, by rw [ht]; exact hP9, va_K.moved hW.alike hK9, hD9⟩, hS.F ht⟩) hS.2.2 dX9_count_134
            · skip
              have tc_25 : ¬ a.toInt = 5 := fun h => c_25 ((fa_eq _ _).mpr h)
              by_cases c_26 : a = 6
              · skip
                have tc_26 : a.toInt = 6 := (fa_eq _ _).mp c_26
                refine W.eq (g2 := F0 m 3 ls (.int 6 :: [])) (by rw [c_26]) ?_
                refine lv_tableIn (tgt := 135) hx hb dX9_count_3 (by decide) (by decide) rfl (by decide) ?_
                refine lv_aload_n hx hb dX9_count_135 rfl (lv_at hl 1 rfl) ?_
                refine va_get (D := (dC, dI)) (ci := 7) (v := .ref a0) (C := RX9) (T := TX9) (N := 28) hx hb hts inX9 hown hK hP 0 rfl rfl 0 (by decide) (hts _ (List.mem_of_getElem? (i := 1) rfl)) (fun _ h9 => h9) rfl dX9_count_136 ?_
                refine lv_iconst (v := 2) hx hb dX9_count_139 (by decide) ?_
                refine va_iald hx hb hK hP 2 1 rfl rfl (vp_in_nI (n := 2) (by decide) (by decide)) dX9_count_140 ?_
                refine pp_ti (y := nf 2) rfl ?_
                refine lv_topi (fun n_27 en_27 => ?_)
                have tn_27 : n_27.toInt = (nf 2).toInt := congrArg Int32.toInt en_27
                clear en_27
                have hP9 := hP.sub (ws' := [(h0, .inr (7, [.ref a0, v1, v2, v3, v4, .ref t0, v6, v7, v8, v9, v10, .int ts, v12, v13, v14, v15, v16, v17, v18, v19, v20, v21, v22, v23, v24, v25, v26, v27])), (t0, .inl (tc, 8, .inl tf)), (a0, .inl (ac, 38, .inl nf))]) [0, 1, 2] rfl
                have hD9 := hD.sub (ws' := [(h0, .inr (7, [.ref a0, v1, v2, v3, v4, .ref t0, v6, v7, v8, v9, v10, .int ts, v12, v13, v14, v15, v16, v17, v18, v19, v20, v21, v22, v23, v24, v25, v26, v27])), (t0, .inl (tc, 8, .inl tf)), (a0, .inl (ac, 38, .inl nf))]) [0, 1, 2] (by decide) rfl
                have hK9 := hK.sub (tys' := [(tc, .int), (ac, .int)]) [0, 1] rfl
                exact W.iret (v := n_27) hx hb hr (fun t ht hW => ⟨⟨n_27, (), rfl, trivial, tf, by rw [ht]; exact hP9, va_K.moved hW.alike hK9, hD9⟩, hS.F ht⟩) hS.2.2 dX9_count_141
              · skip
                have tc_26 : ¬ a.toInt = 6 := fun h => c_26 ((fa_eq _ _).mpr h)
                refine lv_tableOut (tgt := 142) hx hb dX9_count_3 (by omega) (by decide) ?_
                refine lv_aload_n hx hb dX9_count_142 rfl (lv_at hl 1 rfl) ?_
                refine lv_ldc hx hb hown (hts _ (List.mem_of_getElem? (i := 48) rfl)) dX9_count_143 ?_
                have hPc := hP.sub (ws' := [(h0, .inr (7, [.ref a0, v1, v2, v3, v4, .ref t0, v6, v7, v8, v9, v10, .int ts, v12, v13, v14, v15, v16, v17, v18, v19, v20, v21, v22, v23, v24, v25, v26, v27])), (t0, .inl (tc, 8, .inl tf))]) [0, 1] rfl
                have hKc := hK.sub (tys' := [(tc, .int)]) [0] rfl
                have hDc := hD.sub (ws' := [(h0, .inr (7, [.ref a0, v1, v2, v3, v4, .ref t0, v6, v7, v8, v9, v10, .int ts, v12, v13, v14, v15, v16, v17, v18, v19, v20, v21, v22, v23, v24, v25, v26, v27])), (t0, .inl (tc, 8, .inl tf))]) [0, 1] (by decide) rfl
                have hFc := va_free (wc := [(h0, .inr (7, [.ref a0, v1, v2, v3, v4, .ref t0, v6, v7, v8, v9, v10, .int ts, v12, v13, v14, v15, v16, v17, v18, v19, v20, v21, v22, v23, v24, v25, v26, v27])), (t0, .inl (tc, 8, .inl tf))]) hD hS hA [0, 1] rfl
                refine va_calli (va_runV (As := [.int (-1000000001)]) (rest := []) ⟨hx, hb, hml, hown, hts⟩ (mf_beyond l dC dI ad h0 (.ref a0) v1 v2 v3 v4 t0 v6 v7 v8 v9 v10 (.int ts) v12 v13 v14 v15 v16 v17 v18 v19 v20 v21 v22 v23 v24 v25 v26 v27 tc tf s.heap.size ) (cwV 1 hts g_m_count_mf_beyond_84 rfl rfl rfl (by decide +kernel) ⟨(Nat.le_of_ble_eq_true rfl), (Nat.le_of_ble_eq_true rfl)⟩) ⟨preM_blind, va_recv hKc hPc (ci := 7) (q0 := 0) rfl rfl, fun U hU hW => ⟨rfl, preM_at hU hW hPc hKc hDc hev⟩⟩ rfl rfl hl.1 rfl (lv_room (Nat.le_of_ble_eq_true rfl)) dX9_count_145 ⟨(Nat.le_of_ble_eq_true rfl), (Nat.le_of_ble_eq_true rfl)⟩) hS (fun q _ h => hFc q h) hFc (fun r_28 u t H1 locs ht hvm hw hB hz1 hk1 hS => ?_)
                obtain ⟨tg_29, hP1, hK1, hD1⟩ := hB
                rw [ht] at hP1
                have hK1 := va_K.moved hvm.symm hK1
                obtain ⟨hP, hD⟩ := va_join (wr := [(a0, .inl (ac, 38, .inl nf))]) (w1 := [(h0, .inr (7, [.ref a0, v1, v2, v3, v4, .ref t0, v6, v7, v8, v9, v10, .int ts, v12, v13, v14, v15, v16, v17, v18, v19, v20, v21, v22, v23, v24, v25, v26, v27])), (t0, .inl (tc, 8, .inl tg_29))]) hP hD [0, 1] [2] rfl rfl (by decide) (by decide) hk1 hFc hP1 hD1
                generalize H1 = H at hP hS ⊢
                have hP : va_P (dC, dI) vwCl [(a0, .inl (ac, 38, .inl nf)), (h0, .inr (7, [.ref a0, v1, v2, v3, v4, .ref t0, v6, v7, v8, v9, v10, .int ts, v12, v13, v14, v15, v16, v17, v18, v19, v20, v21, v22, v23, v24, v25, v26, v27])), (t0, .inl (tc, 8, .inl tg_29))] H := hP
                have hD : va_D A [(a0, .inl (ac, 38, .inl nf)), (h0, .inr (7, [.ref a0, v1, v2, v3, v4, .ref t0, v6, v7, v8, v9, v10, .int ts, v12, v13, v14, v15, v16, v17, v18, v19, v20, v21, v22, v23, v24, v25, v26, v27])), (t0, .inl (tc, 8, .inl tg_29))] := hD
                subst hw
                have hP9 := hP.sub (ws' := [(h0, .inr (7, [.ref a0, v1, v2, v3, v4, .ref t0, v6, v7, v8, v9, v10, .int ts, v12, v13, v14, v15, v16, v17, v18, v19, v20, v21, v22, v23, v24, v25, v26, v27])), (t0, .inl (tc, 8, .inl tg_29)), (a0, .inl (ac, 38, .inl nf))]) [1, 2, 0] rfl
                have hD9 := hD.sub (ws' := [(h0, .inr (7, [.ref a0, v1, v2, v3, v4, .ref t0, v6, v7, v8, v9, v10, .int ts, v12, v13, v14, v15, v16, v17, v18, v19, v20, v21, v22, v23, v24, v25, v26, v27])), (t0, .inl (tc, 8, .inl tg_29)), (a0, .inl (ac, 38, .inl nf))]) [1, 2, 0] (by decide) rfl
                have hK9 := hK.sub (tys' := [(tc, .int), (ac, .int)]) [0, 1] rfl
                exact W.iret (v := ((-1000000001) : Int32)) hx hb hr (fun t ht hW => ⟨⟨((-1000000001) : Int32), (), rfl, trivial, tg_29, by rw [ht]; exact hP9, va_K.moved hW.alike hK9, hD9⟩, hS.F ht⟩) hS.2.2 dX9_count_148

def w_m_status : List Cond := .code yX9_status cX9_status 2 (some .int) :: (([.methodLink RX9 75 yX9_within, .static yX9_within, .initialized RX9, .code yX9_within cX9_within 3 (some .boolean), .constant RX9 74 (-1000000001), .methodLink RX9 84 yX9_finding, .instanceMethod yX9_finding, .selects RX9 yX9_finding yX9_finding, .code yX9_finding cX9_finding 2 (some .int), .fieldLink RX9 23 "LampShapesModel" "found" "[I"] : List Cond) ++ wsX90)
set_option maxRecDepth 20000 in
theorem g_m_status_m_within_75 : GoodIn w_m_status (va_wsS RX9 75 yX9_within w_m_within) := goodIn_r _ [1, 2, 3, 4] rfl (by decide +kernel)
set_option maxRecDepth 20000 in
theorem g_m_status_mf_beyond_84 : GoodIn w_m_status (wsV RX9 84 RX9 yX9_finding w_mf_beyond) := goodIn_r _ [6, 7, 8, 3, 9, 10, 5, 11, 12, 13, 14, 15, 16, 17, 18, 19, 20, 21, 22, 23, 24, 25, 26, 27, 28, 29, 30, 31, 32, 33, 34, 35, 36, 37, 38] rfl (by decide +kernel)
set_option maxHeartbeats 4000000 in
set_option maxRecDepth 100000 in
theorem m_status (l : Launch) (dC : Nat → ClassId) (dI : Nat → Nat → Nat) (ad : Nat → Nat) (h0 : Nat) (a : Int32) (v0 : Value) (v1 : Value) (v2 : Value) (v3 : Value) (v4 : Value) (t0 : Nat) (v6 : Value) (v7 : Value) (v8 : Value) (v9 : Value) (v10 : Value) (v11 : Value) (v12 : Value) (v13 : Value) (v14 : Value) (v15 : Value) (v16 : Value) (v17 : Value) (v18 : Value) (v19 : Value) (v20 : Value) (v21 : Value) (v22 : Value) (v23 : Value) (v24 : Value) (v25 : Value) (v26 : Value) (v27 : Value) (tc : ClassId) (tf : Nat → Int32) (sz : Nat) : Met l yX9_status w_m_status ({ frames := 1, cells := 0, slots := 0, locals := 22 } : Room) (va_Pc [.ref h0, .int a] (preM dC dI ad [(tc, .int)] [(h0, .inr (7, [v0, v1, v2, v3, v4, .ref t0, v6, v7, v8, v9, v10, v11, v12, v13, v14, v15, v16, v17, v18, v19, v20, v21, v22, v23, v24, v25, v26, v27])), (t0, .inl (tc, 8, .inl tf))] sz)) (va_Qi (fun (r : Int32) (_ : Unit) => True) (fun _ t => ∃ (tg : Nat → Int32), va_P (dC, dI) vwCl [(h0, .inr (7, [v0, v1, v2, v3, v4, .ref t0, v6, v7, v8, v9, v10, v11, v12, v13, v14, v15, v16, v17, v18, v19, v20, v21, v22, v23, v24, v25, v26, v27])), (t0, .inl (tc, 8, .inl tg))] t.heap ∧ va_K (dC, dI) vwCl [(tc, .int)] t ∧ va_D (va_A [(h0, .inr (7, [v0, v1, v2, v3, v4, .ref t0, v6, v7, v8, v9, v10, v11, v12, v13, v14, v15, v16, v17, v18, v19, v20, v21, v22, v23, v24, v25, v26, v27])), (t0, .inl (tc, 8, .inl tf))] sz) [(h0, .inr (7, [v0, v1, v2, v3, v4, .ref t0, v6, v7, v8, v9, v10, v11, v12, v13, v14, v15, v16, v17, v18, v19, v20, v21, v22, v23, v24, v25, v26, v27])), (t0, .inl (tc, 8, .inl tg))]) (va_A [(h0, .inr (7, [v0, v1, v2, v3, v4, .ref t0, v6, v7, v8, v9, v10, v11, v12, v13, v14, v15, v16, v17, v18, v19, v20, v21, v22, v23, v24, v25, v26, v27])), (t0, .inl (tc, 8, .inl tf))] sz)) 0 0 (va_A [(h0, .inr (7, [v0, v1, v2, v3, v4, .ref t0, v6, v7, v8, v9, v10, v11, v12, v13, v14, v15, v16, v17, v18, v19, v20, v21, v22, v23, v24, v25, v26, v27])), (t0, .inl (tc, 8, .inl tf))] sz) := by
  refine Met.ofW (cc := cX9_status) (maxL := 2) (ret := (some .int)) (by decide) rfl ?_
  intro p e s m args below meth c s₁ B hml hv
  obtain ⟨rfl, hsz, hP, hK, hD0, hev⟩ := hv
  have hx := B.exec
  have hb := B.bytes
  have hr := B.returns
  have hts := atoms_spec (ws := w_m_status) B.pre
  have hown : s.vm.findClass RX9 = some m.cls := findClass_of_methodNamed B.named
  have hlocks := B.notSynchronized
  have inX9 : ∀ w ∈ wsX90, w ∈ w_m_status := fun w h => List.mem_cons_of_mem _ (List.mem_append_right _ h)
  subst hsz
  have hD := hD0.self (sz := s.heap.size)
  generalize hAe : va_A [(h0, .inr (7, [v0, v1, v2, v3, v4, .ref t0, v6, v7, v8, v9, v10, v11, v12, v13, v14, v15, v16, v17, v18, v19, v20, v21, v22, v23, v24, v25, v26, v27])), (t0, .inl (tc, 8, .inl tf))] s.heap.size = A at hD ⊢
  have hA : ∀ q : Nat, s.heap.size ≤ q → A q := fun q h => by rw [← hAe]; exact Or.inr h
  have hS : va_S A s.heap s.heap [] := va_S.rf
  have hP : va_P (dC, dI) vwCl [(h0, .inr (7, [v0, v1, v2, v3, v4, .ref t0, v6, v7, v8, v9, v10, v11, v12, v13, v14, v15, v16, v17, v18, v19, v20, v21, v22, v23, v24, v25, v26, v27])), (t0, .inl (tc, 8, .inl tf))] s.heap := hP
  have hl := lv_entry ([.ref h0, .int a]) (n := 2) (Nat.le_of_ble_eq_true rfl)
  rw [lg_entry_eq]
  generalize (lg_sl ([.ref h0, .int a]) ++ List.replicate (2 - (lg_sl ([.ref h0, .int a])).length) Slot.unset).toArray = ls at hl ⊢
  have hl : lv_has ls 2 [(0, .ref h0), (1, .int a)] := hl
  refine lv_iload_n hx hb dX9_status_0 rfl (lv_at hl 1 rfl) ?_
  refine lv_iconst (v := (-1)) hx hb dX9_status_1 (by decide) ?_
  refine lv_bipush (v := 6) hx hb dX9_status_2 (by decide) ?_
  have hPc := hP.sub (ws' := []) [] rfl
  have hKc := hK.sub (tys' := []) [] rfl
  refine vp_callSi (W.runS (As := [.int a, .int (-1), .int 6]) (rest := []) ⟨hx, hb, hml, hown, hts⟩ (m_within l dC dI ad a (-1) 6 ) (va_cwS 3 hts g_m_status_m_within_75 rfl rfl rfl (by decide +kernel) ⟨(Nat.le_of_ble_eq_true rfl), (Nat.le_of_ble_eq_true rfl)⟩) ⟨preS_blind, fun U hU hW => ⟨rfl, preS_at hU hW hPc hKc hev⟩⟩ rfl rfl hl.1 rfl (lv_room (Nat.le_of_ble_eq_true rfl)) dX9_status_4 ⟨(Nat.le_of_ble_eq_true rfl), (Nat.le_of_ble_eq_true rfl)⟩) (fun r_1 hw => ?_)
  have hr_1 : (r_1.toInt = 1 ∧ (-1) ≤ a.toInt ∧ a.toInt ≤ 6) ∨ (r_1.toInt = 0 ∧ ¬ ((-1) ≤ a.toInt ∧ a.toInt ≤ 6)) := hw
  refine lv_if_eq (tgt := 21) hx hb dX9_status_7 (by decide) (fun c_2 => ?_) (fun c_2 => ?_)
  · skip
    have tc_2 : r_1.toInt = 0 := (fa_eq _ _).mp c_2
    refine lv_aload_n hx hb dX9_status_21 rfl (lv_at hl 0 rfl) ?_
    refine lv_ldc hx hb hown (hts _ (List.mem_of_getElem? (i := 5) rfl)) dX9_status_22 ?_
    have hPc := hP.sub (ws' := [(h0, .inr (7, [v0, v1, v2, v3, v4, .ref t0, v6, v7, v8, v9, v10, v11, v12, v13, v14, v15, v16, v17, v18, v19, v20, v21, v22, v23, v24, v25, v26, v27])), (t0, .inl (tc, 8, .inl tf))]) [0, 1] rfl
    have hKc := hK.sub (tys' := [(tc, .int)]) [0] rfl
    have hDc := hD.sub (ws' := [(h0, .inr (7, [v0, v1, v2, v3, v4, .ref t0, v6, v7, v8, v9, v10, v11, v12, v13, v14, v15, v16, v17, v18, v19, v20, v21, v22, v23, v24, v25, v26, v27])), (t0, .inl (tc, 8, .inl tf))]) [0, 1] (by decide) rfl
    have hFc := va_free (wc := [(h0, .inr (7, [v0, v1, v2, v3, v4, .ref t0, v6, v7, v8, v9, v10, v11, v12, v13, v14, v15, v16, v17, v18, v19, v20, v21, v22, v23, v24, v25, v26, v27])), (t0, .inl (tc, 8, .inl tf))]) hD hS hA [0, 1] rfl
    refine va_calli (va_runV (As := [.int (-1000000001)]) (rest := []) ⟨hx, hb, hml, hown, hts⟩ (mf_beyond l dC dI ad h0 v0 v1 v2 v3 v4 t0 v6 v7 v8 v9 v10 v11 v12 v13 v14 v15 v16 v17 v18 v19 v20 v21 v22 v23 v24 v25 v26 v27 tc tf s.heap.size ) (cwV 1 hts g_m_status_mf_beyond_84 rfl rfl rfl (by decide +kernel) ⟨(Nat.le_of_ble_eq_true rfl), (Nat.le_of_ble_eq_true rfl)⟩) ⟨preM_blind, va_recv hKc hPc (ci := 7) (q0 := 0) rfl rfl, fun U hU hW => ⟨rfl, preM_at hU hW hPc hKc hDc hev⟩⟩ rfl rfl hl.1 rfl (lv_room (Nat.le_of_ble_eq_true rfl)) dX9_status_24 ⟨(Nat.le_of_ble_eq_true rfl), (Nat.le_of_ble_eq_true rfl)⟩) hS (fun q _ h => hFc q h) hFc (fun r_3 u t H1 locs ht hvm hw hB hz1 hk1 hS => ?_)
    obtain ⟨tg_4, hP1, hK1, hD1⟩ := hB
    rw [ht] at hP1
    have hK1 := va_K.moved hvm.symm hK1
    obtain ⟨hP, hD⟩ := va_join (wr := []) (w1 := [(h0, .inr (7, [v0, v1, v2, v3, v4, .ref t0, v6, v7, v8, v9, v10, v11, v12, v13, v14, v15, v16, v17, v18, v19, v20, v21, v22, v23, v24, v25, v26, v27])), (t0, .inl (tc, 8, .inl tg_4))]) hP hD [0, 1] [] rfl rfl (by decide) (by decide) hk1 hFc hP1 hD1
    generalize H1 = H at hP hS ⊢
    have hP : va_P (dC, dI) vwCl [(h0, .inr (7, [v0, v1, v2, v3, v4, .ref t0, v6, v7, v8, v9, v10, v11, v12, v13, v14, v15, v16, v17, v18, v19, v20, v21, v22, v23, v24, v25, v26, v27])), (t0, .inl (tc, 8, .inl tg_4))] H := hP
    have hD : va_D A [(h0, .inr (7, [v0, v1, v2, v3, v4, .ref t0, v6, v7, v8, v9, v10, v11, v12, v13, v14, v15, v16, v17, v18, v19, v20, v21, v22, v23, v24, v25, v26, v27])), (t0, .inl (tc, 8, .inl tg_4))] := hD
    subst hw
    have hP9 := hP.sub (ws' := [(h0, .inr (7, [v0, v1, v2, v3, v4, .ref t0, v6, v7, v8, v9, v10, v11, v12, v13, v14, v15, v16, v17, v18, v19, v20, v21, v22, v23, v24, v25, v26, v27])), (t0, .inl (tc, 8, .inl tg_4))]) [0, 1] rfl
    have hD9 := hD.sub (ws' := [(h0, .inr (7, [v0, v1, v2, v3, v4, .ref t0, v6, v7, v8, v9, v10, v11, v12, v13, v14, v15, v16, v17, v18, v19, v20, v21, v22, v23, v24, v25, v26, v27])), (t0, .inl (tc, 8, .inl tg_4))]) [0, 1] (by decide) rfl
    have hK9 := hK.sub (tys' := [(tc, .int)]) [0] rfl
    exact W.iret (v := ((-1000000001) : Int32)) hx hb hr (fun t ht hW => ⟨⟨((-1000000001) : Int32), (), rfl, trivial, tg_4, by rw [ht]; exact hP9, va_K.moved hW.alike hK9, hD9⟩, hS.F ht⟩) hS.2.2 dX9_status_27
  · skip
    have tc_2 : ¬ r_1.toInt = 0 := fun h => c_2 ((fa_eq _ _).mpr h)
    have i_5 : (-1) ≤ a.toInt ∧ a.toInt ≤ 6 := by omega
    refine lv_aload_n hx hb dX9_status_10 rfl (lv_at hl 0 rfl) ?_
    refine va_get (D := (dC, dI)) (ci := 7) (v := .ref t0) (C := RX9) (T := TX9) (N := 28) hx hb hts inX9 hown hK hP 0 rfl rfl 5 (by decide) (hts _ (List.mem_of_getElem? (i := 10) rfl)) (fun _ h9 => h9) rfl dX9_status_11 ?_
    refine lv_iload_n hx hb dX9_status_14 rfl (lv_at hl 1 rfl) ?_
    refine lv_iconst (v := 1) hx hb dX9_status_15 (by decide) ?_
    refine lv_iadd hx hb dX9_status_16 ?_
    refine lv_topi (fun n_6 en_6 => ?_)
    have tn_6 : n_6.toInt = a.toInt + 1 := pp_add en_6 rfl rfl (by omega) (by omega)
    clear en_6
    refine va_iald hx hb hK hP 1 0 rfl rfl (vp_in_iff.mpr ⟨by omega, by omega⟩) dX9_status_17 ?_
    refine lv_topi (fun n_7 en_7 => ?_)
    clear en_7
    refine lv_goto (tgt := 27) hx hb dX9_status_18 (by decide) ?_
    have hP9 := hP.sub (ws' := [(h0, .inr (7, [v0, v1, v2, v3, v4, .ref t0, v6, v7, v8, v9, v10, v11, v12, v13, v14, v15, v16, v17, v18, v19, v20, v21, v22, v23, v24, v25, v26, v27])), (t0, .inl (tc, 8, .inl tf))]) [0, 1] rfl
    have hD9 := hD.sub (ws' := [(h0, .inr (7, [v0, v1, v2, v3, v4, .ref t0, v6, v7, v8, v9, v10, v11, v12, v13, v14, v15, v16, v17, v18, v19, v20, v21, v22, v23, v24, v25, v26, v27])), (t0, .inl (tc, 8, .inl tf))]) [0, 1] (by decide) rfl
    have hK9 := hK.sub (tys' := [(tc, .int)]) [0] rfl
    exact W.iret (v := n_7) hx hb hr (fun t ht hW => ⟨⟨n_7, (), rfl, trivial, tf, by rw [ht]; exact hP9, va_K.moved hW.alike hK9, hD9⟩, hS.F ht⟩) hS.2.2 dX9_status_27

