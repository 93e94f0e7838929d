theorem dX9_copy_0 : decode cX9_copy 0 = .ok (.iload_n 1, 1) := by decide +kernel
theorem dX9_copy_1 : decode cX9_copy 1 = .ok (.invokestatic 285, 3) := by decide +kernel
theorem dX9_copy_4 : decode cX9_copy 4 = .ok (.ifCond .eq 10, 3) := by decide +kernel
theorem dX9_copy_7 : decode cX9_copy 7 = .ok (.iload_n 3, 1) := by decide +kernel
theorem dX9_copy_8 : decode cX9_copy 8 = .ok (.invokestatic 285, 3) := by decide +kernel
theorem dX9_copy_11 : decode cX9_copy 11 = .ok (.ifCond .ne 10, 3) := by decide +kernel
theorem dX9_copy_14 : decode cX9_copy 14 = .ok (.aload_n 0, 1) := by decide +kernel
theorem dX9_copy_15 : decode cX9_copy 15 = .ok (.ldc 74, 2) := by decide +kernel
theorem dX9_copy_17 : decode cX9_copy 17 = .ok (.invokevirtual 84, 3) := by decide +kernel
theorem dX9_copy_20 : decode cX9_copy 20 = .ok (.ireturn, 1) := by decide +kernel
theorem dX9_copy_21 : decode cX9_copy 21 = .ok (.aload_n 0, 1) := by decide +kernel
theorem dX9_copy_22 : decode cX9_copy 22 = .ok (.getfield 59, 3) := by decide +kernel
theorem dX9_copy_25 : decode cX9_copy 25 = .ok (.iload_n 1, 1) := by decide +kernel
theorem dX9_copy_26 : decode cX9_copy 26 = .ok (.iaload, 1) := by decide +kernel
theorem dX9_copy_27 : decode cX9_copy 27 = .ok (.ifCond .eq 12, 3) := by decide +kernel
theorem dX9_copy_30 : decode cX9_copy 30 = .ok (.aload_n 0, 1) := by decide +kernel
theorem dX9_copy_31 : decode cX9_copy 31 = .ok (.getfield 59, 3) := by decide +kernel
theorem dX9_copy_34 : decode cX9_copy 34 = .ok (.iload_n 3, 1) := by decide +kernel
theorem dX9_copy_35 : decode cX9_copy 35 = .ok (.iaload, 1) := by decide +kernel
theorem dX9_copy_36 : decode cX9_copy 36 = .ok (.ifCond .ne 11, 3) := by decide +kernel
theorem dX9_copy_39 : decode cX9_copy 39 = .ok (.aload_n 0, 1) := by decide +kernel
theorem dX9_copy_40 : decode cX9_copy 40 = .ok (.ldc_w 288, 3) := by decide +kernel
theorem dX9_copy_43 : decode cX9_copy 43 = .ok (.invokevirtual 84, 3) := by decide +kernel
theorem dX9_copy_46 : decode cX9_copy 46 = .ok (.ireturn, 1) := by decide +kernel
theorem dX9_copy_47 : decode cX9_copy 47 = .ok (.aload_n 0, 1) := by decide +kernel
theorem dX9_copy_48 : decode cX9_copy 48 = .ok (.getfield 59, 3) := by decide +kernel
theorem dX9_copy_51 : decode cX9_copy 51 = .ok (.iload_n 1, 1) := by decide +kernel
theorem dX9_copy_52 : decode cX9_copy 52 = .ok (.iaload, 1) := by decide +kernel
theorem dX9_copy_53 : decode cX9_copy 53 = .ok (.aload_n 0, 1) := by decide +kernel
theorem dX9_copy_54 : decode cX9_copy 54 = .ok (.getfield 59, 3) := by decide +kernel
theorem dX9_copy_57 : decode cX9_copy 57 = .ok (.iload_n 3, 1) := by decide +kernel
theorem dX9_copy_58 : decode cX9_copy 58 = .ok (.iaload, 1) := by decide +kernel
theorem dX9_copy_59 : decode cX9_copy 59 = .ok (.if_icmp .eq 10, 3) := by decide +kernel
theorem dX9_copy_62 : decode cX9_copy 62 = .ok (.aload_n 0, 1) := by decide +kernel
theorem dX9_copy_63 : decode cX9_copy 63 = .ok (.ldc 108, 2) := by decide +kernel
theorem dX9_copy_65 : decode cX9_copy 65 = .ok (.invokevirtual 84, 3) := by decide +kernel
theorem dX9_copy_68 : decode cX9_copy 68 = .ok (.ireturn, 1) := by decide +kernel
theorem dX9_copy_69 : decode cX9_copy 69 = .ok (.iload_n 2, 1) := by decide +kernel
theorem dX9_copy_70 : decode cX9_copy 70 = .ok (.ifCond .lt 48, 3) := by decide +kernel
theorem dX9_copy_73 : decode cX9_copy 73 = .ok (.iload 4, 2) := by decide +kernel
theorem dX9_copy_75 : decode cX9_copy 75 = .ok (.ifCond .lt 43, 3) := by decide +kernel
theorem dX9_copy_78 : decode cX9_copy 78 = .ok (.iload 5, 2) := by decide +kernel
theorem dX9_copy_80 : decode cX9_copy 80 = .ok (.ifCond .lt 38, 3) := by decide +kernel
theorem dX9_copy_83 : decode cX9_copy 83 = .ok (.iload_n 2, 1) := by decide +kernel
theorem dX9_copy_84 : decode cX9_copy 84 = .ok (.i2l, 1) := by decide +kernel
theorem dX9_copy_85 : decode cX9_copy 85 = .ok (.iload 5, 2) := by decide +kernel
theorem dX9_copy_87 : decode cX9_copy 87 = .ok (.i2l, 1) := by decide +kernel
theorem dX9_copy_88 : decode cX9_copy 88 = .ok (.ladd, 1) := by decide +kernel
theorem dX9_copy_89 : decode cX9_copy 89 = .ok (.aload_n 0, 1) := by decide +kernel
theorem dX9_copy_90 : decode cX9_copy 90 = .ok (.getfield 62, 3) := by decide +kernel
theorem dX9_copy_93 : decode cX9_copy 93 = .ok (.iload_n 1, 1) := by decide +kernel
theorem dX9_copy_94 : decode cX9_copy 94 = .ok (.iaload, 1) := by decide +kernel
theorem dX9_copy_95 : decode cX9_copy 95 = .ok (.i2l, 1) := by decide +kernel
theorem dX9_copy_96 : decode cX9_copy 96 = .ok (.lcmp, 1) := by decide +kernel
theorem dX9_copy_97 : decode cX9_copy 97 = .ok (.ifCond .gt 21, 3) := by decide +kernel
theorem dX9_copy_100 : decode cX9_copy 100 = .ok (.iload 4, 2) := by decide +kernel
theorem dX9_copy_102 : decode cX9_copy 102 = .ok (.i2l, 1) := by decide +kernel
theorem dX9_copy_103 : decode cX9_copy 103 = .ok (.iload 5, 2) := by decide +kernel
theorem dX9_copy_105 : decode cX9_copy 105 = .ok (.i2l, 1) := by decide +kernel
theorem dX9_copy_106 : decode cX9_copy 106 = .ok (.ladd, 1) := by decide +kernel
theorem dX9_copy_107 : decode cX9_copy 107 = .ok (.aload_n 0, 1) := by decide +kernel
theorem dX9_copy_108 : decode cX9_copy 108 = .ok (.getfield 62, 3) := by decide +kernel
theorem dX9_copy_111 : decode cX9_copy 111 = .ok (.iload_n 3, 1) := by decide +kernel
theorem dX9_copy_112 : decode cX9_copy 112 = .ok (.iaload, 1) := by decide +kernel
theorem dX9_copy_113 : decode cX9_copy 113 = .ok (.i2l, 1) := by decide +kernel
theorem dX9_copy_114 : decode cX9_copy 114 = .ok (.lcmp, 1) := by decide +kernel
theorem dX9_copy_115 : decode cX9_copy 115 = .ok (.ifCond .le 10, 3) := by decide +kernel
theorem dX9_copy_118 : decode cX9_copy 118 = .ok (.aload_n 0, 1) := by decide +kernel
theorem dX9_copy_119 : decode cX9_copy 119 = .ok (.ldc 74, 2) := by decide +kernel
theorem dX9_copy_121 : decode cX9_copy 121 = .ok (.invokevirtual 84, 3) := by decide +kernel
theorem dX9_copy_124 : decode cX9_copy 124 = .ok (.ireturn, 1) := by decide +kernel
theorem dX9_copy_125 : decode cX9_copy 125 = .ok (.iconst 0, 1) := by decide +kernel
theorem dX9_copy_126 : decode cX9_copy 126 = .ok (.istore 6, 2) := by decide +kernel
theorem dX9_copy_128 : decode cX9_copy 128 = .ok (.iload 6, 2) := by decide +kernel
theorem dX9_copy_130 : decode cX9_copy 130 = .ok (.iload 5, 2) := by decide +kernel
theorem dX9_copy_132 : decode cX9_copy 132 = .ok (.if_icmp .ge 30, 3) := by decide +kernel
theorem dX9_copy_135 : decode cX9_copy 135 = .ok (.aload_n 0, 1) := by decide +kernel
theorem dX9_copy_136 : decode cX9_copy 136 = .ok (.getfield 68, 3) := by decide +kernel
theorem dX9_copy_139 : decode cX9_copy 139 = .ok (.iload 6, 2) := by decide +kernel
theorem dX9_copy_141 : decode cX9_copy 141 = .ok (.aload_n 0, 1) := by decide +kernel
theorem dX9_copy_142 : decode cX9_copy 142 = .ok (.getfield 65, 3) := by decide +kernel
theorem dX9_copy_145 : decode cX9_copy 145 = .ok (.bipush 40, 2) := by decide +kernel
theorem dX9_copy_147 : decode cX9_copy 147 = .ok (.iload_n 1, 1) := by decide +kernel
theorem dX9_copy_148 : decode cX9_copy 148 = .ok (.imul, 1) := by decide +kernel
theorem dX9_copy_149 : decode cX9_copy 149 = .ok (.iload_n 2, 1) := by decide +kernel
theorem dX9_copy_150 : decode cX9_copy 150 = .ok (.iadd, 1) := by decide +kernel
theorem dX9_copy_151 : decode cX9_copy 151 = .ok (.iload 6, 2) := by decide +kernel
theorem dX9_copy_153 : decode cX9_copy 153 = .ok (.iadd, 1) := by decide +kernel
theorem dX9_copy_154 : decode cX9_copy 154 = .ok (.laload, 1) := by decide +kernel
theorem dX9_copy_155 : decode cX9_copy 155 = .ok (.lastore, 1) := by decide +kernel
theorem dX9_copy_156 : decode cX9_copy 156 = .ok (.iinc 6 1, 3) := by decide +kernel
theorem dX9_copy_159 : decode cX9_copy 159 = .ok (.goto (-31), 3) := by decide +kernel
theorem dX9_copy_162 : decode cX9_copy 162 = .ok (.iconst 0, 1) := by decide +kernel
theorem dX9_copy_163 : decode cX9_copy 163 = .ok (.istore 6, 2) := by decide +kernel
theorem dX9_copy_165 : decode cX9_copy 165 = .ok (.iload 6, 2) := by decide +kernel
theorem dX9_copy_167 : decode cX9_copy 167 = .ok (.iload 5, 2) := by decide +kernel
theorem dX9_copy_169 : decode cX9_copy 169 = .ok (.if_icmp .ge 31, 3) := by decide +kernel
theorem dX9_copy_172 : decode cX9_copy 172 = .ok (.aload_n 0, 1) := by decide +kernel
theorem dX9_copy_173 : decode cX9_copy 173 = .ok (.getfield 65, 3) := by decide +kernel
theorem dX9_copy_176 : decode cX9_copy 176 = .ok (.bipush 40, 2) := by decide +kernel
theorem dX9_copy_178 : decode cX9_copy 178 = .ok (.iload_n 3, 1) := by decide +kernel
theorem dX9_copy_179 : decode cX9_copy 179 = .ok (.imul, 1) := by decide +kernel
theorem dX9_copy_180 : decode cX9_copy 180 = .ok (.iload 4, 2) := by decide +kernel
theorem dX9_copy_182 : decode cX9_copy 182 = .ok (.iadd, 1) := by decide +kernel
theorem dX9_copy_183 : decode cX9_copy 183 = .ok (.iload 6, 2) := by decide +kernel
theorem dX9_copy_185 : decode cX9_copy 185 = .ok (.iadd, 1) := by decide +kernel
theorem dX9_copy_186 : decode cX9_copy 186 = .ok (.aload_n 0, 1) := by decide +kernel
theorem dX9_copy_187 : decode cX9_copy 187 = .ok (.getfield 68, 3) := by decide +kernel
theorem dX9_copy_190 : decode cX9_copy 190 = .ok (.iload 6, 2) := by decide +kernel
theorem dX9_copy_192 : decode cX9_copy 192 = .ok (.laload, 1) := by decide +kernel
theorem dX9_copy_193 : decode cX9_copy 193 = .ok (.lastore, 1) := by decide +kernel
theorem dX9_copy_194 : decode cX9_copy 194 = .ok (.iinc 6 1, 3) := by decide +kernel
theorem dX9_copy_197 : decode cX9_copy 197 = .ok (.goto (-32), 3) := by decide +kernel
theorem dX9_copy_200 : decode cX9_copy 200 = .ok (.iload 5, 2) := by decide +kernel
theorem dX9_copy_202 : decode cX9_copy 202 = .ok (.ireturn, 1) := by decide +kernel
def w_m_copy : List Cond := .code yX9_copy cX9_copy 7 (some .int) :: (([.methodLink RX9 285 yX9_isSheet, .static yX9_isSheet, .initialized RX9, .code yX9_isSheet cX9_isSheet 1 (some .boolean), .methodLink RX9 75 yX9_within, .static yX9_within, .code yX9_within cX9_within 3 (some .boolean), .constant RX9 74 (-1000000001), .methodLink RX9 84 yX9_finding, .instanceMethod yX9_finding, .selects RX9 yX9_finding yX9_finding, .code yX9_finding cX9_finding 2 (some .int), .fieldLink RX9 23 "LampShapesModel" "found" "[I", .fieldLink RX9 59 "LampShapesModel" "widths" "[I", .constant RX9 288 (-1000000006), .fieldLink RX9 62 "LampShapesModel" "sizes" "[I", .fieldLink RX9 65 "LampShapesModel" "numbers" "[J", .fieldLink RX9 68 "LampShapesModel" "moved" "[J", .constant RX9 108 (-1000000003)] : List Cond) ++ wsX90)
set_option maxRecDepth 20000 in
theorem g_m_copy_m_isSheet_285 : GoodIn w_m_copy (va_wsS RX9 285 yX9_isSheet w_m_isSheet) := goodIn_r _ [1, 2, 3, 4, 5, 6, 3, 7] rfl (by decide +kernel)
set_option maxRecDepth 20000 in
theorem g_m_copy_mf_beyond_84 : GoodIn w_m_copy (wsV RX9 84 RX9 yX9_finding w_mf_beyond) := goodIn_r _ [9, 10, 11, 3, 12, 13, 8, 20, 21, 22, 23, 24, 25, 26, 27, 28, 29, 30, 31, 32, 33, 34, 35, 36, 37, 38, 39, 40, 41, 42, 43, 44, 45, 46, 47] rfl (by decide +kernel)
set_option maxRecDepth 20000 in
theorem g_m_copy_mf_missing_84 : GoodIn w_m_copy (wsV RX9 84 RX9 yX9_finding w_mf_missing) := goodIn_r _ [9, 10, 11, 3, 12, 13, 8, 20, 21, 22, 23, 24, 25, 26, 27, 28, 29, 30, 31, 32, 33, 34, 35, 36, 37, 38, 39, 40, 41, 42, 43, 44, 45, 46, 47] rfl (by decide +kernel)
set_option maxRecDepth 20000 in
theorem g_m_copy_mf_kind_84 : GoodIn w_m_copy (wsV RX9 84 RX9 yX9_finding w_mf_kind) := goodIn_r _ [9, 10, 11, 3, 12, 13, 8, 20, 21, 22, 23, 24, 25, 26, 27, 28, 29, 30, 31, 32, 33, 34, 35, 36, 37, 38, 39, 40, 41, 42, 43, 44, 45, 46, 47] rfl (by decide +kernel)
set_option maxHeartbeats 4000000 in
set_option maxRecDepth 100000 in
theorem m_copy (l : Launch) (dC : Nat → ClassId) (dI : Nat → Nat → Nat) (ad : Nat → Nat) (h0 : Nat) (sn : Int32) (i : Int32) (d : Int32) (j : Int32) (n : Int32) (v0 : Value) (v1 : Value) (v2 : Value) (v3 : Value) (v4 : Value) (t0 : Nat) (v6 : Value) (v7 : Value) (v8 : Value) (v9 : Value) (v10 : Value) (v11 : Value) (v12 : Value) (v13 : Value) (v14 : Value) (v15 : Value) (v16 : Value) (v17 : Value) (v18 : Value) (v19 : Value) (v20 : Value) (v21 : Value) (v22 : Value) (v23 : Value) (d0 : Nat) (s0 : Nat) (n0 : Nat) (m0 : Nat) (tc : ClassId) (tf : Nat → Int32) (dc : ClassId) (wf : Nat → Int32) (scx : ClassId) (zf : Nat → Int32) (nc : ClassId) (uf : Nat → Int64) (mc : ClassId) (vf : Nat → Int64) (sz : Nat) (hzf0 : 0 ≤ (zf 0).toInt ∧ (zf 0).toInt ≤ 40) (hzf1 : 0 ≤ (zf 1).toInt ∧ (zf 1).toInt ≤ 40) (hzf2 : 0 ≤ (zf 2).toInt ∧ (zf 2).toInt ≤ 40) (hzf3 : 0 ≤ (zf 3).toInt ∧ (zf 3).toInt ≤ 40) : Met l yX9_copy w_m_copy ({ frames := 2, cells := 0, slots := 0, locals := 42 } : Room) (va_Pc [.ref h0, .int sn, .int i, .int d, .int j, .int n] (preM dC dI ad [(tc, .int), (dc, .int), (scx, .int), (nc, .long), (mc, .long)] [(h0, .inr (7, [v0, v1, v2, v3, v4, .ref t0, v6, v7, v8, v9, v10, v11, v12, v13, v14, v15, v16, v17, v18, v19, v20, v21, v22, v23, .ref d0, .ref s0, .ref n0, .ref m0])), (t0, .inl (tc, 8, .inl tf)), (d0, .inl (dc, 4, .inl wf)), (s0, .inl (scx, 4, .inl zf)), (n0, .inl (nc, 160, .inr (.inl uf))), (m0, .inl (mc, 40, .inr (.inl vf)))] sz)) (va_Qi (fun (r : Int32) (_ : Unit) => True) (fun _ t => ∃ (tg : Nat → Int32), ∃ (ug : Nat → Int64), ∃ (vg : Nat → Int64), va_P (dC, dI) vwCl [(h0, .inr (7, [v0, v1, v2, v3, v4, .ref t0, v6, v7, v8, v9, v10, v11, v12, v13, v14, v15, v16, v17, v18, v19, v20, v21, v22, v23, .ref d0, .ref s0, .ref n0, .ref m0])), (t0, .inl (tc, 8, .inl tg)), (d0, .inl (dc, 4, .inl wf)), (s0, .inl (scx, 4, .inl zf)), (n0, .inl (nc, 160, .inr (.inl ug))), (m0, .inl (mc, 40, .inr (.inl vg)))] t.heap ∧ va_K (dC, dI) vwCl [(tc, .int), (dc, .int), (scx, .int), (nc, .long), (mc, .long)] t ∧ va_D (va_A [(h0, .inr (7, [v0, v1, v2, v3, v4, .ref t0, v6, v7, v8, v9, v10, v11, v12, v13, v14, v15, v16, v17, v18, v19, v20, v21, v22, v23, .ref d0, .ref s0, .ref n0, .ref m0])), (t0, .inl (tc, 8, .inl tf)), (d0, .inl (dc, 4, .inl wf)), (s0, .inl (scx, 4, .inl zf)), (n0, .inl (nc, 160, .inr (.inl uf))), (m0, .inl (mc, 40, .inr (.inl vf)))] sz) [(h0, .inr (7, [v0, v1, v2, v3, v4, .ref t0, v6, v7, v8, v9, v10, v11, v12, v13, v14, v15, v16, v17, v18, v19, v20, v21, v22, v23, .ref d0, .ref s0, .ref n0, .ref m0])), (t0, .inl (tc, 8, .inl tg)), (d0, .inl (dc, 4, .inl wf)), (s0, .inl (scx, 4, .inl zf)), (n0, .inl (nc, 160, .inr (.inl ug))), (m0, .inl (mc, 40, .inr (.inl vg)))]) (va_A [(h0, .inr (7, [v0, v1, v2, v3, v4, .ref t0, v6, v7, v8, v9, v10, v11, v12, v13, v14, v15, v16, v17, v18, v19, v20, v21, v22, v23, .ref d0, .ref s0, .ref n0, .ref m0])), (t0, .inl (tc, 8, .inl tf)), (d0, .inl (dc, 4, .inl wf)), (s0, .inl (scx, 4, .inl zf)), (n0, .inl (nc, 160, .inr (.inl uf))), (m0, .inl (mc, 40, .inr (.inl vf)))] sz)) 0 0 (va_A [(h0, .inr (7, [v0, v1, v2, v3, v4, .ref t0, v6, v7, v8, v9, v10, v11, v12, v13, v14, v15, v16, v17, v18, v19, v20, v21, v22, v23, .ref d0, .ref s0, .ref n0, .ref m0])), (t0, .inl (tc, 8, .inl tf)), (d0, .inl (dc, 4, .inl wf)), (s0, .inl (scx, 4, .inl zf)), (n0, .inl (nc, 160, .inr (.inl uf))), (m0, .inl (mc, 40, .inr (.inl vf)))] sz) := by
  refine Met.ofW (cc := cX9_copy) (maxL := 7) (ret := (some .int)) (by decide) rfl ?_
  intro p e s m args below meth c s₁ B hml hv
  obtain ⟨rfl, hsz, hP, hK, hD0, hev⟩ := hv
  have hx := B.exec
  have hb := B.bytes
  have hr := B.returns
  have hts := atoms_spec (ws := w_m_copy) B.pre
  have hown : s.vm.findClass RX9 = some m.cls := findClass_of_methodNamed B.named
  have hlocks := B.notSynchronized
  have inX9 : ∀ w ∈ wsX90, w ∈ w_m_copy := fun w h => List.mem_cons_of_mem _ (List.mem_append_right _ h)
  subst hsz
  have hD := hD0.self (sz := s.heap.size)
  generalize hAe : va_A [(h0, .inr (7, [v0, v1, v2, v3, v4, .ref t0, v6, v7, v8, v9, v10, v11, v12, v13, v14, v15, v16, v17, v18, v19, v20, v21, v22, v23, .ref d0, .ref s0, .ref n0, .ref m0])), (t0, .inl (tc, 8, .inl tf)), (d0, .inl (dc, 4, .inl wf)), (s0, .inl (scx, 4, .inl zf)), (n0, .inl (nc, 160, .inr (.inl uf))), (m0, .inl (mc, 40, .inr (.inl vf)))] s.heap.size = A at hD ⊢
  have hA : ∀ q : Nat, s.heap.size ≤ q → A q := fun q h => by rw [← hAe]; exact Or.inr h
  have hS : va_S A s.heap s.heap [] := va_S.rf
  have hP : va_P (dC, dI) vwCl [(h0, .inr (7, [v0, v1, v2, v3, v4, .ref t0, v6, v7, v8, v9, v10, v11, v12, v13, v14, v15, v16, v17, v18, v19, v20, v21, v22, v23, .ref d0, .ref s0, .ref n0, .ref m0])), (t0, .inl (tc, 8, .inl tf)), (d0, .inl (dc, 4, .inl wf)), (s0, .inl (scx, 4, .inl zf)), (n0, .inl (nc, 160, .inr (.inl uf))), (m0, .inl (mc, 40, .inr (.inl vf)))] s.heap := hP
  have hl := lv_entry ([.ref h0, .int sn, .int i, .int d, .int j, .int n]) (n := 7) (Nat.le_of_ble_eq_true rfl)
  rw [lg_entry_eq]
  generalize (lg_sl ([.ref h0, .int sn, .int i, .int d, .int j, .int n]) ++ List.replicate (7 - (lg_sl ([.ref h0, .int sn, .int i, .int d, .int j, .int n])).length) Slot.unset).toArray = ls at hl ⊢
  have hl : lv_has ls 7 [(0, .ref h0), (1, .int sn), (2, .int i), (3, .int d), (4, .int j), (5, .int n)] := hl
  refine lv_iload_n hx hb dX9_copy_0 rfl (lv_at hl 1 rfl) ?_
  have hPc := hP.sub (ws' := []) [] rfl
  have hKc := hK.sub (tys' := []) [] rfl
  refine vp_callSi (W.runS (As := [.int sn]) (rest := []) ⟨hx, hb, hml, hown, hts⟩ (m_isSheet l dC dI ad sn ) (va_cwS 1 hts g_m_copy_m_isSheet_285 rfl rfl rfl (by decide +kernel) ⟨(Nat.le_of_ble_eq_true rfl), (Nat.le_of_ble_eq_true rfl)⟩) ⟨preS_blind, fun U hU hW => ⟨rfl, preS_at hU hW hPc hKc hev⟩⟩ rfl rfl hl.1 rfl (lv_room (Nat.le_of_ble_eq_true rfl)) dX9_copy_1 ⟨(Nat.le_of_ble_eq_true rfl), (Nat.le_of_ble_eq_true rfl)⟩) (fun r_1 hw => ?_)
  have hr_1 : (r_1.toInt = 1 ∧ 0 ≤ sn.toInt ∧ sn.toInt ≤ 3) ∨ (r_1.toInt = 0 ∧ ¬ (0 ≤ sn.toInt ∧ sn.toInt ≤ 3)) := hw
  refine lv_if_eq (tgt := 14) hx hb dX9_copy_4 (by decide) (fun c_2 => ?_) (fun c_2 => ?_)
  · skip
    have tc_2 : r_1.toInt = 0 := (fa_eq _ _).mp c_2
    refine lv_aload_n hx hb dX9_copy_14 rfl (lv_at hl 0 rfl) ?_
    refine lv_ldc hx hb hown (hts _ (List.mem_of_getElem? (i := 8) rfl)) dX9_copy_15 ?_
    have hPc := hP.sub (ws' := [(h0, .inr (7, [v0, v1, v2, v3, v4, .ref t0, v6, v7, v8, v9, v10, v11, v12, v13, v14, v15, v16, v17, v18, v19, v20, v21, v22, v23, .ref d0, .ref s0, .ref n0, .ref m0])), (t0, .inl (tc, 8, .inl tf))]) [0, 1] rfl
    have hKc := hK.sub (tys' := [(tc, .int)]) [0] rfl
    have hDc := hD.sub (ws' := [(h0, .inr (7, [v0, v1, v2, v3, v4, .ref t0, v6, v7, v8, v9, v10, v11, v12, v13, v14, v15, v16, v17, v18, v19, v20, v21, v22, v23, .ref d0, .ref s0, .ref n0, .ref m0])), (t0, .inl (tc, 8, .inl tf))]) [0, 1] (by decide) rfl
    have hFc := va_free (wc := [(h0, .inr (7, [v0, v1, v2, v3, v4, .ref t0, v6, v7, v8, v9, v10, v11, v12, v13, v14, v15, v16, v17, v18, v19, v20, v21, v22, v23, .ref d0, .ref s0, .ref n0, .ref m0])), (t0, .inl (tc, 8, .inl tf))]) hD hS hA [0, 1] rfl
    refine va_calli (va_runV (As := [.int (-1000000001)]) (rest := []) ⟨hx, hb, hml, hown, hts⟩ (mf_beyond l dC dI ad h0 v0 v1 v2 v3 v4 t0 v6 v7 v8 v9 v10 v11 v12 v13 v14 v15 v16 v17 v18 v19 v20 v21 v22 v23 (.ref d0) (.ref s0) (.ref n0) (.ref m0) tc tf s.heap.size ) (cwV 1 hts g_m_copy_mf_beyond_84 rfl rfl rfl (by decide +kernel) ⟨(Nat.le_of_ble_eq_true rfl), (Nat.le_of_ble_eq_true rfl)⟩) ⟨preM_blind, va_recv hKc hPc (ci := 7) (q0 := 0) rfl rfl, fun U hU hW => ⟨rfl, preM_at hU hW hPc hKc hDc hev⟩⟩ rfl rfl hl.1 rfl (lv_room (Nat.le_of_ble_eq_true rfl)) dX9_copy_17 ⟨(Nat.le_of_ble_eq_true rfl), (Nat.le_of_ble_eq_true rfl)⟩) hS (fun q _ h => hFc q h) hFc (fun r_3 u t H1 locs ht hvm hw hB hz1 hk1 hS => ?_)
    obtain ⟨tg_4, hP1, hK1, hD1⟩ := hB
    rw [ht] at hP1
    have hK1 := va_K.moved hvm.symm hK1
    obtain ⟨hP, hD⟩ := va_join (wr := [(d0, .inl (dc, 4, .inl wf)), (s0, .inl (scx, 4, .inl zf)), (n0, .inl (nc, 160, .inr (.inl uf))), (m0, .inl (mc, 40, .inr (.inl vf)))]) (w1 := [(h0, .inr (7, [v0, v1, v2, v3, v4, .ref t0, v6, v7, v8, v9, v10, v11, v12, v13, v14, v15, v16, v17, v18, v19, v20, v21, v22, v23, .ref d0, .ref s0, .ref n0, .ref m0])), (t0, .inl (tc, 8, .inl tg_4))]) hP hD [0, 1] [2, 3, 4, 5] rfl rfl (by decide) (by decide) hk1 hFc hP1 hD1
    generalize H1 = H at hP hS ⊢
    have hP : va_P (dC, dI) vwCl [(d0, .inl (dc, 4, .inl wf)), (s0, .inl (scx, 4, .inl zf)), (n0, .inl (nc, 160, .inr (.inl uf))), (m0, .inl (mc, 40, .inr (.inl vf))), (h0, .inr (7, [v0, v1, v2, v3, v4, .ref t0, v6, v7, v8, v9, v10, v11, v12, v13, v14, v15, v16, v17, v18, v19, v20, v21, v22, v23, .ref d0, .ref s0, .ref n0, .ref m0])), (t0, .inl (tc, 8, .inl tg_4))] H := hP
    have hD : va_D A [(d0, .inl (dc, 4, .inl wf)), (s0, .inl (scx, 4, .inl zf)), (n0, .inl (nc, 160, .inr (.inl uf))), (m0, .inl (mc, 40, .inr (.inl vf))), (h0, .inr (7, [v0, v1, v2, v3, v4, .ref t0, v6, v7, v8, v9, v10, v11, v12, v13, v14, v15, v16, v17, v18, v19, v20, v21, v22, v23, .ref d0, .ref s0, .ref n0, .ref m0])), (t0, .inl (tc, 8, .inl tg_4))] := hD
    subst hw
    have hP9 := hP.sub (ws' := [(h0, .inr (7, [v0, v1, v2, v3, v4, .ref t0, v6, v7, v8, v9, v10, v11, v12, v13, v14, v15, v16, v17, v18, v19, v20, v21, v22, v23, .ref d0, .ref s0, .ref n0, .ref m0])), (t0, .inl (tc, 8, .inl tg_4)), (d0, .inl (dc, 4, .inl wf)), (s0, .inl (scx, 4, .inl zf)), (n0, .inl (nc, 160, .inr (.inl uf))), (m0, .inl (mc, 40, .inr (.inl vf)))]) [4, 5, 0, 1, 2, 3] rfl
    have hD9 := hD.sub (ws' := [(h0, .inr (7, [v0, v1, v2, v3, v4, .ref t0, v6, v7, v8, v9, v10, v11, v12, v13, v14, v15, v16, v17, v18, v19, v20, v21, v22, v23, .ref d0, .ref s0, .ref n0, .ref m0])), (t0, .inl (tc, 8, .inl tg_4)), (d0, .inl (dc, 4, .inl wf)), (s0, .inl (scx, 4, .inl zf)), (n0, .inl (nc, 160, .inr (.inl uf))), (m0, .inl (mc, 40, .inr (.inl vf)))]) [4, 5, 0, 1, 2, 3] (by decide) rfl
    have hK9 := hK.sub (tys' := [(tc, .int), (dc, .int), (scx, .int), (nc, .long), (mc, .long)]) [0, 1, 2, 3, 4] rfl
    exact W.iret (v := ((-1000000001) : Int32)) hx hb hr (fun t ht hW => ⟨⟨((-1000000001) : Int32), (), rfl, trivial, tg_4, uf, vf, by rw [ht]; exact hP9, va_K.moved hW.alike hK9, hD9⟩, hS.F ht⟩) hS.2.2 dX9_copy_20
  · skip
    have tc_2 : ¬ r_1.toInt = 0 := fun h => c_2 ((fa_eq _ _).mpr h)
    have i_5 : 0 ≤ sn.toInt ∧ sn.toInt ≤ 3 := by omega
    refine lv_iload_n hx hb dX9_copy_7 rfl (lv_at hl 3 rfl) ?_
    have hPc := hP.sub (ws' := []) [] rfl
    have hKc := hK.sub (tys' := []) [] rfl
    refine vp_callSi (W.runS (As := [.int d]) (rest := []) ⟨hx, hb, hml, hown, hts⟩ (m_isSheet l dC dI ad d ) (va_cwS 1 hts g_m_copy_m_isSheet_285 rfl rfl rfl (by decide +kernel) ⟨(Nat.le_of_ble_eq_true rfl), (Nat.le_of_ble_eq_true rfl)⟩) ⟨preS_blind, fun U hU hW => ⟨rfl, preS_at hU hW hPc hKc hev⟩⟩ rfl rfl hl.1 rfl (lv_room (Nat.le_of_ble_eq_true rfl)) dX9_copy_8 ⟨(Nat.le_of_ble_eq_true rfl), (Nat.le_of_ble_eq_true rfl)⟩) (fun r_6 hw => ?_)
    have hr_6 : (r_6.toInt = 1 ∧ 0 ≤ d.toInt ∧ d.toInt ≤ 3) ∨ (r_6.toInt = 0 ∧ ¬ (0 ≤ d.toInt ∧ d.toInt ≤ 3)) := hw
    refine lv_if_ne (tgt := 21) hx hb dX9_copy_11 (by decide) (fun c_7 => ?_) (fun c_7 => ?_)
    · skip
      have tc_7 : ¬ r_6.toInt = 0 := fun h => c_7 ((fa_eq _ _).mpr h)
      have i_8 : 0 ≤ d.toInt ∧ d.toInt ≤ 3 := by omega
      refine lv_aload_n hx hb dX9_copy_21 rfl (lv_at hl 0 rfl) ?_
      refine va_get (D := (dC, dI)) (ci := 7) (v := .ref d0) (C := RX9) (T := TX9) (N := 28) hx hb hts inX9 hown hK hP 0 rfl rfl 24 (by decide) (hts _ (List.mem_of_getElem? (i := 14) rfl)) (fun _ h9 => h9) rfl dX9_copy_22 ?_
      refine lv_iload_n hx hb dX9_copy_25 rfl (lv_at hl 1 rfl) ?_
      refine va_iald hx hb hK hP 2 1 rfl rfl (vp_in_iff.mpr ⟨by omega, by omega⟩) dX9_copy_26 ?_
      refine lv_topi (fun n_9 en_9 => ?_)
      clear en_9
      refine lv_if_eq (tgt := 39) hx hb dX9_copy_27 (by decide) (fun c_10 => ?_) (fun c_10 => ?_)
      · skip
        have tc_10 : n_9.toInt = 0 := (fa_eq _ _).mp c_10
        refine lv_aload_n hx hb dX9_copy_39 rfl (lv_at hl 0 rfl) ?_
        refine lv_ldcw hx hb hown (hts _ (List.mem_of_getElem? (i := 15) rfl)) dX9_copy_40 ?_
        have hPc := hP.sub (ws' := [(h0, .inr (7, [v0, v1, v2, v3, v4, .ref t0, v6, v7, v8, v9, v10, v11, v12, v13, v14, v15, v16, v17, v18, v19, v20, v21, v22, v23, .ref d0, .ref s0, .ref n0, .ref m0])), (t0, .inl (tc, 8, .inl tf))]) [0, 1] rfl
        have hKc := hK.sub (tys' := [(tc, .int)]) [0] rfl
        have hDc := hD.sub (ws' := [(h0, .inr (7, [v0, v1, v2, v3, v4, .ref t0, v6, v7, v8, v9, v10, v11, v12, v13, v14, v15, v16, v17, v18, v19, v20, v21, v22, v23, .ref d0, .ref s0, .ref n0, .ref m0])), (t0, .inl (tc, 8, .inl tf))]) [0, 1] (by decide) rfl
        have hFc := va_free (wc := [(h0, .inr (7, [v0, v1, v2, v3, v4, .ref t0, v6, v7, v8, v9, v10, v11, v12, v13, v14, v15, v16, v17, v18, v19, v20, v21, v22, v23, .ref d0, .ref s0, .ref n0, .ref m0])), (t0, .inl (tc, 8, .inl tf))]) hD hS hA [0, 1] rfl
        refine va_calli (va_runV (As := [.int (-1000000006)]) (rest := []) ⟨hx, hb, hml, hown, hts⟩ (mf_missing l dC dI ad h0 v0 v1 v2 v3 v4 t0 v6 v7 v8 v9 v10 v11 v12 v13 v14 v15 v16 v17 v18 v19 v20 v21 v22 v23 (.ref d0) (.ref s0) (.ref n0) (.ref m0) tc tf s.heap.size ) (cwV 1 hts g_m_copy_mf_missing_84 rfl rfl rfl (by decide +kernel) ⟨(Nat.le_of_ble_eq_true rfl), (Nat.le_of_ble_eq_true rfl)⟩) ⟨preM_blind, va_recv hKc hPc (ci := 7) (q0 := 0) rfl rfl, fun U hU hW => ⟨rfl, preM_at hU hW hPc hKc hDc hev⟩⟩ rfl rfl hl.1 rfl (lv_room (Nat.le_of_ble_eq_true rfl)) dX9_copy_43 ⟨(Nat.le_of_ble_eq_true rfl), (Nat.le_of_ble_eq_true rfl)⟩) hS (fun q _ h => hFc q h) hFc (fun r_11 u t H1 locs ht hvm hw hB hz1 hk1 hS => ?_)
        obtain ⟨tg_12, hP1, hK1, hD1⟩ := hB
        rw [ht] at hP1
        have hK1 := va_K.moved hvm.symm hK1
        obtain ⟨hP, hD⟩ := va_join (wr := [(d0, .inl (dc, 4, .inl wf)), (s0, .inl (scx, 4, .inl zf)), (n0, .inl (nc, 160, .inr (.inl uf))), (m0, .inl (mc, 40, .inr (.inl vf)))]) (w1 := [(h0, .inr (7, [v0, v1, v2, v3, v4, .ref t0, v6, v7, v8, v9, v10, v11, v12, v13, v14, v15, v16, v17, v18, v19, v20, v21, v22, v23, .ref d0, .ref s0, .ref n0, .ref m0])), (t0, .inl (tc, 8, .inl tg_12))]) hP hD [0, 1] [2, 3, 4, 5] rfl rfl (by decide) (by decide) hk1 hFc hP1 hD1
        generalize H1 = H at hP hS ⊢
        have hP : va_P (dC, dI) vwCl [(d0, .inl (dc, 4, .inl wf)), (s0, .inl (scx, 4, .inl zf)), (n0, .inl (nc, 160, .inr (.inl uf))), (m0, .inl (mc, 40, .inr (.inl vf))), (h0, .inr (7, [v0, v1, v2, v3, v4, .ref t0, v6, v7, v8, v9, v10, v11, v12, v13, v14, v15, v16, v17, v18, v19, v20, v21, v22, v23, .ref d0, .ref s0, .ref n0, .ref m0])), (t0, .inl (tc, 8, .inl tg_12))] H := hP
        have hD : va_D A [(d0, .inl (dc, 4, .inl wf)), (s0, .inl (scx, 4, .inl zf)), (n0, .inl (nc, 160, .inr (.inl uf))), (m0, .inl (mc, 40, .inr (.inl vf))), (h0, .inr (7, [v0, v1, v2, v3, v4, .ref t0, v6, v7, v8, v9, v10, v11, v12, v13, v14, v15, v16, v17, v18, v19, v20, v21, v22, v23, .ref d0, .ref s0, .ref n0, .ref m0])), (t0, .inl (tc, 8, .inl tg_12))] := hD
        subst hw
        have hP9 := hP.sub (ws' := [(h0, .inr (7, [v0, v1, v2, v3, v4, .ref t0, v6, v7, v8, v9, v10, v11, v12, v13, v14, v15, v16, v17, v18, v19, v20, v21, v22, v23, .ref d0, .ref s0, .ref n0, .ref m0])), (t0, .inl (tc, 8, .inl tg_12)), (d0, .inl (dc, 4, .inl wf)), (s0, .inl (scx, 4, .inl zf)), (n0, .inl (nc, 160, .inr (.inl uf))), (m0, .inl (mc, 40, .inr (.inl vf)))]) [4, 5, 0, 1, 2, 3] rfl
        have hD9 := hD.sub (ws' := [(h0, .inr (7, [v0, v1, v2, v3, v4, .ref t0, v6, v7, v8, v9, v10, v11, v12, v13, v14, v15, v16, v17, v18, v19, v20, v21, v22, v23, .ref d0, .ref s0, .ref n0, .ref m0])), (t0, .inl (tc, 8, .inl tg_12)), (d0, .inl (dc, 4, .inl wf)), (s0, .inl (scx, 4, .inl zf)), (n0, .inl (nc, 160, .inr (.inl uf))), (m0, .inl (mc, 40, .inr (.inl vf)))]) [4, 5, 0, 1, 2, 3] (by decide) rfl
        have hK9 := hK.sub (tys' := [(tc, .int), (dc, .int), (scx, .int), (nc, .long), (mc, .long)]) [0, 1, 2, 3, 4] rfl
        exact W.iret (v := ((-1000000006) : Int32)) hx hb hr (fun t ht hW => ⟨⟨((-1000000006) : Int32), (), rfl, trivial, tg_12, uf, vf, by rw [ht]; exact hP9, va_K.moved hW.alike hK9, hD9⟩, hS.F ht⟩) hS.2.2 dX9_copy_46
      · skip
        have tc_10 : ¬ n_9.toInt = 0 := fun h => c_10 ((fa_eq _ _).mpr h)
        refine lv_aload_n hx hb dX9_copy_30 rfl (lv_at hl 0 rfl) ?_
        refine va_get (D := (dC, dI)) (ci := 7) (v := .ref d0) (C := RX9) (T := TX9) (N := 28) hx hb hts inX9 hown hK hP 0 rfl rfl 24 (by decide) (hts _ (List.mem_of_getElem? (i := 14) rfl)) (fun _ h9 => h9) rfl dX9_copy_31 ?_
        refine lv_iload_n hx hb dX9_copy_34 rfl (lv_at hl 3 rfl) ?_
        refine va_iald hx hb hK hP 2 1 rfl rfl (vp_in_iff.mpr ⟨by omega, by omega⟩) dX9_copy_35 ?_
        refine lv_topi (fun n_13 en_13 => ?_)
        clear en_13
        refine lv_if_ne (tgt := 47) hx hb dX9_copy_36 (by decide) (fun c_14 => ?_) (fun c_14 => ?_)
        · skip
          have tc_14 : ¬ n_13.toInt = 0 := fun h => c_14 ((fa_eq _ _).mpr h)
          refine lv_aload_n hx hb dX9_copy_47 rfl (lv_at hl 0 rfl) ?_
          refine va_get (D := (dC, dI)) (ci := 7) (v := .ref d0) (C := RX9) (T := TX9) (N := 28) hx hb hts inX9 hown hK hP 0 rfl rfl 24 (by decide) (hts _ (List.mem_of_getElem? (i := 14) rfl)) (fun _ h9 => h9) rfl dX9_copy_48 ?_
          refine lv_iload_n hx hb dX9_copy_51 rfl (lv_at hl 1 rfl) ?_
          refine va_iald hx hb hK hP 2 1 rfl rfl (vp_in_iff.mpr ⟨by omega, by omega⟩) dX9_copy_52 ?_
          refine lv_topi (fun n_15 en_15 => ?_)
          clear en_15
          refine lv_aload_n hx hb dX9_copy_53 rfl (lv_at hl 0 rfl) ?_
          refine va_get (D := (dC, dI)) (ci := 7) (v := .ref d0) (C := RX9) (T := TX9) (N := 28) hx hb hts inX9 hown hK hP 0 rfl rfl 24 (by decide) (hts _ (List.mem_of_getElem? (i := 14) rfl)) (fun _ h9 => h9) rfl dX9_copy_54 ?_
          refine lv_iload_n hx hb dX9_copy_57 rfl (lv_at hl 3 rfl) ?_
          refine va_iald hx hb hK hP 2 1 rfl rfl (vp_in_iff.mpr ⟨by omega, by omega⟩) dX9_copy_58 ?_
          refine lv_topi (fun n_16 en_16 => ?_)
          clear en_16
          have rc_17_x := pp_rng n_15
          have rc_17_y := pp_rng n_16
          refine lv_icmp_eq (tgt := 69) hx hb dX9_copy_59 (by decide) (fun c_17 => ?_) (fun c_17 => ?_)
          · skip
            have tc_17 : n_15.toInt = n_16.toInt := (fa_eq _ _).mp c_17
            refine lv_iload_n hx hb dX9_copy_69 rfl (lv_at hl 2 rfl) ?_
            refine lv_if_lt (tgt := 118) hx hb dX9_copy_70 (by decide) (fun c_18 => ?_) (fun c_18 => ?_)
            · skip
              have tc_18 : i.toInt < 0 := (fa_lt _ _).mp c_18
              refine lv_aload_n hx hb dX9_copy_118 rfl (lv_at hl 0 rfl) ?_
              refine lv_ldc hx hb hown (hts _ (List.mem_of_getElem? (i := 8) rfl)) dX9_copy_119 ?_
              have hPc := hP.sub (ws' := [(h0, .inr (7, [v0, v1, v2, v3, v4, .ref t0, v6, v7, v8, v9, v10, v11, v12, v13, v14, v15, v16, v17, v18, v19, v20, v21, v22, v23, .ref d0, .ref s0, .ref n0, .ref m0])), (t0, .inl (tc, 8, .inl tf))]) [0, 1] rfl
              have hKc := hK.sub (tys' := [(tc, .int)]) [0] rfl
              have hDc := hD.sub (ws' := [(h0, .inr (7, [v0, v1, v2, v3, v4, .ref t0, v6, v7, v8, v9, v10, v11, v12, v13, v14, v15, v16, v17, v18, v19, v20, v21, v22, v23, .ref d0, .ref s0, .ref n0, .ref m0])), (t0, .inl (tc, 8, .inl tf))]) [0, 1] (by decide) rfl
              have hFc := va_free (wc := [(h0, .inr (7, [v0, v1, v2, v3, v4, .ref t0, v6, v7, v8, v9, v10, v11, v12, v13, v14, v15, v16, v17, v18, v19, v20, v21, v22, v23, .ref d0, .ref s0, .ref n0, .ref m0])), (t0, .inl (tc, 8, .inl tf))]) hD hS hA [0, 1] rfl
              refine va_calli (va_runV (As := [.int (-1000000001)]) (rest := []) ⟨hx, hb, hml, hown, hts⟩ (mf_beyond l dC dI ad h0 v0 v1 v2 v3 v4 t0 v6 v7 v8 v9 v10 v11 v12 v13 v14 v15 v16 v17 v18 v19 v20 v21 v22 v23 (.ref d0) (.ref s0) (.ref n0) (.ref m0) tc tf s.heap.size ) (cwV 1 hts g_m_copy_mf_beyond_84 rfl rfl rfl (by decide +kernel) ⟨(Nat.le_of_ble_eq_true rfl), (Nat.le_of_ble_eq_true rfl)⟩) ⟨preM_blind, va_recv hKc hPc (ci := 7) (q0 := 0) rfl rfl, fun U hU hW => ⟨rfl, preM_at hU hW hPc hKc hDc hev⟩⟩ rfl rfl hl.1 rfl (lv_room (Nat.le_of_ble_eq_true rfl)) dX9_copy_121 ⟨(Nat.le_of_ble_eq_true rfl), (Nat.le_of_ble_eq_true rfl)⟩) hS (fun q _ h => hFc q h) hFc (fun r_19 u t H1 locs ht hvm hw hB hz1 hk1 hS => ?_)
              obtain ⟨tg_20, hP1, hK1, hD1⟩ := hB
              rw [ht] at hP1
              have hK1 := va_K.moved hvm.symm hK1
              obtain ⟨hP, hD⟩ := va_join (wr := [(d0, .inl (dc, 4, .inl wf)), (s0, .inl (scx, 4, .inl zf)), (n0, .inl (nc, 160, .inr (.inl uf))), (m0, .inl (mc, 40, .inr (.inl vf)))]) (w1 := [(h0, .inr (7, [v0, v1, v2, v3, v4, .ref t0, v6, v7, v8, v9, v10, v11, v12, v13, v14, v15, v16, v17, v18, v19, v20, v21, v22, v23, .ref d0, .ref s0, .ref n0, .ref m0])), (t0, .inl (tc, 8, .inl tg_20))]) hP hD [0, 1] [2, 3, 4, 5] rfl rfl (by decide) (by decide) hk1 hFc hP1 hD1
              generalize H1 = H at hP hS ⊢
              have hP : va_P (dC, dI) vwCl [(d0, .inl (dc, 4, .inl wf)), (s0, .inl (scx, 4, .inl zf)), (n0, .inl (nc, 160, .inr (.inl uf))), (m0, .inl (mc, 40, .inr (.inl vf))), (h0, .inr (7, [v0, v1, v2, v3, v4, .ref t0, v6, v7, v8, v9, v10, v11, v12, v13, v14, v15, v16, v17, v18, v19, v20, v21, v22, v23, .ref d0, .ref s0, .ref n0, .ref m0])), (t0, .inl (tc, 8, .inl tg_20))] H := hP
              have hD : va_D A [(d0, .inl (dc, 4, .inl wf)), (s0, .inl (scx, 4, .inl zf)), (n0, .inl (nc, 160, .inr (.inl uf))), (m0, .inl (mc, 40, .inr (.inl vf))), (h0, .inr (7, [v0, v1, v2, v3, v4, .ref t0, v6, v7, v8, v9, v10, v11, v12, v13, v14, v15, v16, v17, v18, v19, v20, v21, v22, v23, .ref d0, .ref s0, .ref n0, .ref m0])), (t0, .inl (tc, 8, .inl tg_20))] := hD
              subst hw
              have hP9 := hP.sub (ws' := [(h0, .inr (7, [v0, v1, v2, v3, v4, .ref t0, v6, v7, v8, v9, v10, v11, v12, v13, v14, v15, v16, v17, v18, v19, v20, v21, v22, v23, .ref d0, .ref s0, .ref n0, .ref m0])), (t0, .inl (tc, 8, .inl tg_20)), (d0, .inl (dc, 4, .inl wf)), (s0, .inl (scx, 4, .inl zf)), (n0, .inl (nc, 160, .inr (.inl uf))), (m0, .inl (mc, 40, .inr (.inl vf)))]) [4, 5, 0, 1, 2, 3] rfl
              have hD9 := hD.sub (ws' := [(h0, .inr (7, [v0, v1, v2, v3, v4, .ref t0, v6, v7, v8, v9, v10, v11, v12, v13, v14, v15, v16, v17, v18, v19, v20, v21, v22, v23, .ref d0, .ref s0, .ref n0, .ref m0])), (t0, .inl (tc, 8, .inl tg_20)), (d0, .inl (dc, 4, .inl wf)), (s0, .inl (scx, 4, .inl zf)), (n0, .inl (nc, 160, .inr (.inl uf))), (m0, .inl (mc, 40, .inr (.inl vf)))]) [4, 5, 0, 1, 2, 3] (by decide) rfl
              have hK9 := hK.sub (tys' := [(tc, .int), (dc, .int), (scx, .int), (nc, .long), (mc, .long)]) [0, 1, 2, 3, 4] rfl
              exact W.iret (v := ((-1000000001) : Int32)) hx hb hr (fun t ht hW => ⟨⟨((-1000000001) : Int32), (), rfl, trivial, tg_20, uf, vf, by rw [ht]; exact hP9, va_K.moved hW.alike hK9, hD9⟩, hS.F ht⟩) hS.2.2 dX9_copy_124
            · skip
              have tc_18 : ¬ i.toInt < 0 := fun h => c_18 ((fa_lt _ _).mpr h)
              refine lv_iload hx hb dX9_copy_73 (lv_at hl 4 rfl) ?_
              refine lv_if_lt (tgt := 118) hx hb dX9_copy_75 (by decide) (fun c_21 => ?_) (fun c_21 => ?_)
              · skip
                have tc_21 : j.toInt < 0 := (fa_lt _ _).mp c_21
                refine lv_aload_n hx hb dX9_copy_118 rfl (lv_at hl 0 rfl) ?_
                refine lv_ldc hx hb hown (hts _ (List.mem_of_getElem? (i := 8) rfl)) dX9_copy_119 ?_
                have hPc := hP.sub (ws' := [(h0, .inr (7, [v0, v1, v2, v3, v4, .ref t0, v6, v7, v8, v9, v10, v11, v12, v13, v14, v15, v16, v17, v18, v19, v20, v21, v22, v23, .ref d0, .ref s0, .ref n0, .ref m0])), (t0, .inl (tc, 8, .inl tf))]) [0, 1] rfl
                have hKc := hK.sub (tys' := [(tc, .int)]) [0] rfl
                have hDc := hD.sub (ws' := [(h0, .inr (7, [v0, v1, v2, v3, v4, .ref t0, v6, v7, v8, v9, v10, v11, v12, v13, v14, v15, v16, v17, v18, v19, v20, v21, v22, v23, .ref d0, .ref s0, .ref n0, .ref m0])), (t0, .inl (tc, 8, .inl tf))]) [0, 1] (by decide) rfl
                have hFc := va_free (wc := [(h0, .inr (7, [v0, v1, v2, v3, v4, .ref t0, v6, v7, v8, v9, v10, v11, v12, v13, v14, v15, v16, v17, v18, v19, v20, v21, v22, v23, .ref d0, .ref s0, .ref n0, .ref m0])), (t0, .inl (tc, 8, .inl tf))]) hD hS hA [0, 1] rfl
                refine va_calli (va_runV (As := [.int (-1000000001)]) (rest := []) ⟨hx, hb, hml, hown, hts⟩ (mf_beyond l dC dI ad h0 v0 v1 v2 v3 v4 t0 v6 v7 v8 v9 v10 v11 v12 v13 v14 v15 v16 v17 v18 v19 v20 v21 v22 v23 (.ref d0) (.ref s0) (.ref n0) (.ref m0) tc tf s.heap.size ) (cwV 1 hts g_m_copy_mf_beyond_84 rfl rfl rfl (by decide +kernel) ⟨(Nat.le_of_ble_eq_true rfl), (Nat.le_of_ble_eq_true rfl)⟩) ⟨preM_blind, va_recv hKc hPc (ci := 7) (q0 := 0) rfl rfl, fun U hU hW => ⟨rfl, preM_at hU hW hPc hKc hDc hev⟩⟩ rfl rfl hl.1 rfl (lv_room (Nat.le_of_ble_eq_true rfl)) dX9_copy_121 ⟨(Nat.le_of_ble_eq_true rfl), (Nat.le_of_ble_eq_true rfl)⟩) hS (fun q _ h => hFc q h) hFc (fun r_22 u t H1 locs ht hvm hw hB hz1 hk1 hS => ?_)
                obtain ⟨tg_23, hP1, hK1, hD1⟩ := hB
                rw [ht] at hP1
                have hK1 := va_K.moved hvm.symm hK1
                obtain ⟨hP, hD⟩ := va_join (wr := [(d0, .inl (dc, 4, .inl wf)), (s0, .inl (scx, 4, .inl zf)), (n0, .inl (nc, 160, .inr (.inl uf))), (m0, .inl (mc, 40, .inr (.inl vf)))]) (w1 := [(h0, .inr (7, [v0, v1, v2, v3, v4, .ref t0, v6, v7, v8, v9, v10, v11, v12, v13, v14, v15, v16, v17, v18, v19, v20, v21, v22, v23, .ref d0, .ref s0, .ref n0, .ref m0])), (t0, .inl (tc, 8, .inl tg_23))]) hP hD [0, 1] [2, 3, 4, 5] rfl rfl (by decide) (by decide) hk1 hFc hP1 hD1
                generalize H1 = H at hP hS ⊢
                have hP : va_P (dC, dI) vwCl [(d0, .inl (dc, 4, .inl wf)), (s0, .inl (scx, 4, .inl zf)), (n0, .inl (nc, 160, .inr (.inl uf))), (m0, .inl (mc, 40, .inr (.inl vf))), (h0, .inr (7, [v0, v1, v2, v3, v4, .ref t0, v6, v7, v8, v9, v10, v11, v12, v13, v14, v15, v16, v17, v18, v19, v20, v21, v22, v23, .ref d0, .ref s0, .ref n0, .ref m0])), (t0, .inl (tc, 8, .inl tg_23))] H := hP
                have hD : va_D A [(d0, .inl (dc, 4, .inl wf)), (s0, .inl (scx, 4, .inl zf)), (n0, .inl (nc, 160, .inr (.inl uf))), (m0, .inl (mc, 40, .inr (.inl vf))), (h0, .inr (7, [v0, v1, v2, v3, v4, .ref t0, v6, v7, v8, v9, v10, v11, v12, v13, v14, v15, v16, v17, v18, v19, v20, v21, v22, v23, .ref d0, .ref s0, .ref n0, .ref m0])), (t0, .inl (tc, 8, .inl tg_23))] := hD
                subst hw
                have hP9 := hP.sub (ws' := [(h0, .inr (7, [v0, v1, v2, v3, v4, .ref t0, v6, v7, v8, v9, v10, v11, v12, v13, v14, v15, v16, v17, v18, v19, v20, v21, v22, v23, .ref d0, .ref s0, .ref n0, .ref m0])), (t0, .inl (tc, 8, .inl tg_23)), (d0, .inl (dc, 4, .inl wf)), (s0, .inl (scx, 4, .inl zf)), (n0, .inl (nc, 160, .inr (.inl uf))), (m0, .inl (mc, 40, .inr (.inl vf)))]) [4, 5, 0, 1, 2, 3] rfl
                have hD9 := hD.sub (ws' := [(h0, .inr (7, [v0, v1, v2, v3, v4, .ref t0, v6, v7, v8, v9, v10, v11, v12, v13, v14, v15, v16, v17, v18, v19, v20, v21, v22, v23, .ref d0, .ref s0, .ref n0, .ref m0])), (t0, .inl (tc, 8, .inl tg_23)), (d0, .inl (dc, 4, .inl wf)), (s0, .inl (scx, 4, .inl zf)), (n0, .inl (nc, 160, .inr (.inl uf))), (m0, .inl (mc, 40, .inr (.inl vf)))]) [4, 5, 0, 1, 2, 3] (by decide) rfl
                have hK9 := hK.sub (tys' := [(tc, .int), (dc, .int), (scx, .int), (nc, .long), (mc, .long)]) [0, 1, 2, 3, 4] rfl
                exact W.iret (v := ((-1000000001) : Int32)) hx hb hr (fun t ht hW => ⟨⟨((-1000000001) : Int32), (), rfl, trivial, tg_23, uf, vf, by rw [ht]; exact hP9, va_K.moved hW.alike hK9, hD9⟩, hS.F ht⟩) hS.2.2 dX9_copy_124
              · skip
                have tc_21 : ¬ j.toInt < 0 := fun h => c_21 ((fa_lt _ _).mpr h)
                refine lv_iload hx hb dX9_copy_78 (lv_at hl 5 rfl) ?_
                refine lv_if_lt (tgt := 118) hx hb dX9_copy_80 (by decide) (fun c_24 => ?_) (fun c_24 => ?_)
                · skip
                  have tc_24 : n.toInt < 0 := (fa_lt _ _).mp c_24
                  refine lv_aload_n hx hb dX9_copy_118 rfl (lv_at hl 0 rfl) ?_
                  refine lv_ldc hx hb hown (hts _ (List.mem_of_getElem? (i := 8) rfl)) dX9_copy_119 ?_
                  have hPc := hP.sub (ws' := [(h0, .inr (7, [v0, v1, v2, v3, v4, .ref t0, v6, v7, v8, v9, v10, v11, v12, v13, v14, v15, v16, v17, v18, v19, v20, v21, v22, v23, .ref d0, .ref s0, .ref n0, .ref m0])), (t0, .inl (tc, 8, .inl tf))]) [0, 1] rfl
                  have hKc := hK.sub (tys' := [(tc, .int)]) [0] rfl
                  have hDc := hD.sub (ws' := [(h0, .inr (7, [v0, v1, v2, v3, v4, .ref t0, v6, v7, v8, v9, v10, v11, v12, v13, v14, v15, v16, v17, v18, v19, v20, v21, v22, v23, .ref d0, .ref s0, .ref n0, .ref m0])), (t0, .inl (tc, 8, .inl tf))]) [0, 1] (by decide) rfl
                  have hFc := va_free (wc := [(h0, .inr (7, [v0, v1, v2, v3, v4, .ref t0, v6, v7, v8, v9, v10, v11, v12, v13, v14, v15, v16, v17, v18, v19, v20, v21, v22, v23, .ref d0, .ref s0, .ref n0, .ref m0])), (t0, .inl (tc, 8, .inl tf))]) hD hS hA [0, 1] rfl
                  refine va_calli (va_runV (As := [.int (-1000000001)]) (rest := []) ⟨hx, hb, hml, hown, hts⟩ (mf_beyond l dC dI ad h0 v0 v1 v2 v3 v4 t0 v6 v7 v8 v9 v10 v11 v12 v13 v14 v15 v16 v17 v18 v19 v20 v21 v22 v23 (.ref d0) (.ref s0) (.ref n0) (.ref m0) tc tf s.heap.size ) (cwV 1 hts g_m_copy_mf_beyond_84 rfl rfl rfl (by decide +kernel) ⟨(Nat.le_of_ble_eq_true rfl), (Nat.le_of_ble_eq_true rfl)⟩) ⟨preM_blind, va_recv hKc hPc (ci := 7) (q0 := 0) rfl rfl, fun U hU hW => ⟨rfl, preM_at hU hW hPc hKc hDc hev⟩⟩ rfl rfl hl.1 rfl (lv_room (Nat.le_of_ble_eq_true rfl)) dX9_copy_121 ⟨(Nat.le_of_ble_eq_true rfl), (Nat.le_of_ble_eq_true rfl)⟩) hS (fun q _ h => hFc q h) hFc (fun r_25 u t H1 locs ht hvm hw hB hz1 hk1 hS => ?_)
                  obtain ⟨tg_26, hP1, hK1, hD1⟩ := hB
                  rw [ht] at hP1
                  have hK1 := va_K.moved hvm.symm hK1
                  obtain ⟨hP, hD⟩ := va_join (wr := [(d0, .inl (dc, 4, .inl wf)), (s0, .inl (scx, 4, .inl zf)), (n0, .inl (nc, 160, .inr (.inl uf))), (m0, .inl (mc, 40, .inr (.inl vf)))]) (w1 := [(h0, .inr (7, [v0, v1, v2, v3, v4, .ref t0, v6, v7, v8, v9, v10, v11, v12, v13, v14, v15, v16, v17, v18, v19, v20, v21, v22, v23, .ref d0, .ref s0, .ref n0, .ref m0])), (t0, .inl (tc, 8, .inl tg_26))]) hP hD [0, 1] [2, 3, 4, 5] rfl rfl (by decide) (by decide) hk1 hFc hP1 hD1
                  generalize H1 = H at hP hS ⊢
                  have hP : va_P (dC, dI) vwCl [(d0, .inl (dc, 4, .inl wf)), (s0, .inl (scx, 4, .inl zf)), (n0, .inl (nc, 160, .inr (.inl uf))), (m0, .inl (mc, 40, .inr (.inl vf))), (h0, .inr (7, [v0, v1, v2, v3, v4, .ref t0, v6, v7, v8, v9, v10, v11, v12, v13, v14, v15, v16, v17, v18, v19, v20, v21, v22, v23, .ref d0, .ref s0, .ref n0, .ref m0])), (t0, .inl (tc, 8, .inl tg_26))] H := hP
                  have hD : va_D A [(d0, .inl (dc, 4, .inl wf)), (s0, .inl (scx, 4, .inl zf)), (n0, .inl (nc, 160, .inr (.inl uf))), (m0, .inl (mc, 40, .inr (.inl vf))), (h0, .inr (7, [v0, v1, v2, v3, v4, .ref t0, v6, v7, v8, v9, v10, v11, v12, v13, v14, v15, v16, v17, v18, v19, v20, v21, v22, v23, .ref d0, .ref s0, .ref n0, .ref m0])), (t0, .inl (tc, 8, .inl tg_26))] := hD
                  subst hw
                  have hP9 := hP.sub (ws' := [(h0, .inr (7, [v0, v1, v2, v3, v4, .ref t0, v6, v7, v8, v9, v10, v11, v12, v13, v14, v15, v16, v17, v18, v19, v20, v21, v22, v23, .ref d0, .ref s0, .ref n0, .ref m0])), (t0, .inl (tc, 8, .inl tg_26)), (d0, .inl (dc, 4, .inl wf)), (s0, .inl (scx, 4, .inl zf)), (n0, .inl (nc, 160, .inr (.inl uf))), (m0, .inl (mc, 40, .inr (.inl vf)))]) [4, 5, 0, 1, 2, 3] rfl
                  have hD9 := hD.sub (ws' := [(h0, .inr (7, [v0, v1, v2, v3, v4, .ref t0, v6, v7, v8, v9, v10, v11, v12, v13, v14, v15, v16, v17, v18, v19, v20, v21, v22, v23, .ref d0, .ref s0, .ref n0, .ref m0])), (t0, .inl (tc, 8, .inl tg_26)), (d0, .inl (dc, 4, .inl wf)), (s0, .inl (scx, 4, .inl zf)), (n0, .inl (nc, 160, .inr (.inl uf))), (m0, .inl (mc, 40, .inr (.inl vf)))]) [4, 5, 0, 1, 2, 3] (by decide) rfl
                  have hK9 := hK.sub (tys' := [(tc, .int), (dc, .int), (scx, .int), (nc, .long), (mc, .long)]) [0, 1, 2, 3, 4] rfl
                  exact W.iret (v := ((-1000000001) : Int32)) hx hb hr (fun t ht hW => ⟨⟨((-1000000001) : Int32), (), rfl, trivial, tg_26, uf, vf, by rw [ht]; exact hP9, va_K.moved hW.alike hK9, hD9⟩, hS.F ht⟩) hS.2.2 dX9_copy_124
                · skip
                  have tc_24 : ¬ n.toInt < 0 := fun h => c_24 ((fa_lt _ _).mpr h)
                  refine lv_iload_n hx hb dX9_copy_83 rfl (lv_at hl 2 rfl) ?_
                  obtain ⟨n_27, en_27⟩ : ∃ z : Int64, z = i.toInt64 := ⟨_, rfl⟩
                  refine lv_i2l (v := n_27) hx hb dX9_copy_84 en_27.symm ?_
                  have tn_27 : n_27.toInt = i.toInt := pp_i2l en_27
                  have rn_27 := pp_rng i
                  clear en_27
                  refine lv_iload hx hb dX9_copy_85 (lv_at hl 5 rfl) ?_
                  obtain ⟨n_28, en_28⟩ : ∃ z : Int64, z = n.toInt64 := ⟨_, rfl⟩
                  refine lv_i2l (v := n_28) hx hb dX9_copy_87 en_28.symm ?_
                  have tn_28 : n_28.toInt = n.toInt := pp_i2l en_28
                  have rn_28 := pp_rng n
                  clear en_28
                  refine lv_ladd hx hb dX9_copy_88 ?_
                  refine lv_topl (fun n_29 en_29 => ?_)
                  have tn_29 : n_29.toInt = n_27.toInt + n_28.toInt := pp_ladd en_29 (by omega) (by omega)
                  clear en_29
                  refine lv_aload_n hx hb dX9_copy_89 rfl (lv_at hl 0 rfl) ?_
                  refine va_get (D := (dC, dI)) (ci := 7) (v := .ref s0) (C := RX9) (T := TX9) (N := 28) hx hb hts inX9 hown hK hP 0 rfl rfl 25 (by decide) (hts _ (List.mem_of_getElem? (i := 16) rfl)) (fun _ h9 => h9) rfl dX9_copy_90 ?_
                  refine lv_iload_n hx hb dX9_copy_93 rfl (lv_at hl 1 rfl) ?_
                  refine va_iald hx hb hK hP 3 2 rfl rfl (vp_in_iff.mpr ⟨by omega, by omega⟩) dX9_copy_94 ?_
                  refine lv_topi (fun n_30 en_30 => ?_)
                  have tn_30 : 0 ≤ n_30.toInt ∧ n_30.toInt ≤ 40 := pp_z4 hzf0 hzf1 hzf2 hzf3 en_30 (by omega) (by omega)
                  clear en_30
                  obtain ⟨n_31, en_31⟩ : ∃ z : Int64, z = n_30.toInt64 := ⟨_, rfl⟩
                  refine lv_i2l (v := n_31) hx hb dX9_copy_95 en_31.symm ?_
                  have tn_31 : n_31.toInt = n_30.toInt := pp_i2l en_31
                  have rn_31 := pp_rng n_30
                  clear en_31
                  refine W.lcmp hx hb dX9_copy_96 ?_
                  refine lv_topi (fun n_32 en_32 => ?_)
                  have tn_32 : (0 < n_32.toInt → n_31.toInt < n_29.toInt) ∧ (n_32.toInt ≤ 0 → n_29.toInt ≤ n_31.toInt) := pp_lcmp en_32
                  clear en_32
                  refine lv_if_gt (tgt := 118) hx hb dX9_copy_97 (by decide) (fun c_33 => ?_) (fun c_33 => ?_)
                  · skip
                    have tc_33 : 0 < n_32.toInt := (fa_lt _ _).mp c_33
                    refine lv_aload_n hx hb dX9_copy_118 rfl (lv_at hl 0 rfl) ?_
                    refine lv_ldc hx hb hown (hts _ (List.mem_of_getElem? (i := 8) rfl)) dX9_copy_119 ?_
                    have hPc := hP.sub (ws' := [(h0, .inr (7, [v0, v1, v2, v3, v4, .ref t0, v6, v7, v8, v9, v10, v11, v12, v13, v14, v15, v16, v17, v18, v19, v20, v21, v22, v23, .ref d0, .ref s0, .ref n0, .ref m0])), (t0, .inl (tc, 8, .inl tf))]) [0, 1] rfl
                    have hKc := hK.sub (tys' := [(tc, .int)]) [0] rfl
                    have hDc := hD.sub (ws' := [(h0, .inr (7, [v0, v1, v2, v3, v4, .ref t0, v6, v7, v8, v9, v10, v11, v12, v13, v14, v15, v16, v17, v18, v19, v20, v21, v22, v23, .ref d0, .ref s0, .ref n0, .ref m0])), (t0, .inl (tc, 8, .inl tf))]) [0, 1] (by decide) rfl
                    have hFc := va_free (wc := [(h0, .inr (7, [v0, v1, v2, v3, v4, .ref t0, v6, v7, v8, v9, v10, v11, v12, v13, v14, v15, v16, v17, v18, v19, v20, v21, v22, v23, .ref d0, .ref s0, .ref n0, .ref m0])), (t0, .inl (tc, 8, .inl tf))]) hD hS hA [0, 1] rfl
                    refine va_calli (va_runV (As := [.int (-1000000001)]) (rest := []) ⟨hx, hb, hml, hown, hts⟩ (mf_beyond l dC dI ad h0 v0 v1 v2 v3 v4 t0 v6 v7 v8 v9 v10 v11 v12 v13 v14 v15 v16 v17 v18 v19 v20 v21 v22 v23 (.ref d0) (.ref s0) (.ref n0) (.ref m0) tc tf s.heap.size ) (cwV 1 hts g_m_copy_mf_beyond_84 rfl rfl rfl (by decide +kernel) ⟨(Nat.le_of_ble_eq_true rfl), (Nat.le_of_ble_eq_true rfl)⟩) ⟨preM_blind, va_recv hKc hPc (ci := 7) (q0 := 0) rfl rfl, fun U hU hW => ⟨rfl, preM_at hU hW hPc hKc hDc hev⟩⟩ rfl rfl hl.1 rfl (lv_room (Nat.le_of_ble_eq_true rfl)) dX9_copy_121 ⟨(Nat.le_of_ble_eq_true rfl), (Nat.le_of_ble_eq_true rfl)⟩) hS (fun q _ h => hFc q h) hFc (fun r_34 u t H1 locs ht hvm hw hB hz1 hk1 hS => ?_)
                    obtain ⟨tg_35, hP1, hK1, hD1⟩ := hB
                    rw [ht] at hP1
                    have hK1 := va_K.moved hvm.symm hK1
                    obtain ⟨hP, hD⟩ := va_join (wr := [(d0, .inl (dc, 4, .inl wf)), (s0, .inl (scx, 4, .inl zf)), (n0, .inl (nc, 160, .inr (.inl uf))), (m0, .inl (mc, 40, .inr (.inl vf)))]) (w1 := [(h0, .inr (7, [v0, v1, v2, v3, v4, .ref t0, v6, v7, v8, v9, v10, v11, v12, v13, v14, v15, v16, v17, v18, v19, v20, v21, v22, v23, .ref d0, .ref s0, .ref n0, .ref m0])), (t0, .inl (tc, 8, .inl tg_35))]) hP hD [0, 1] [2, 3, 4, 5] rfl rfl (by decide) (by decide) hk1 hFc hP1 hD1
                    generalize H1 = H at hP hS ⊢
                    have hP : va_P (dC, dI) vwCl [(d0, .inl (dc, 4, .inl wf)), (s0, .inl (scx, 4, .inl zf)), (n0, .inl (nc, 160, .inr (.inl uf))), (m0, .inl (mc, 40, .inr (.inl vf))), (h0, .inr (7, [v0, v1, v2, v3, v4, .ref t0, v6, v7, v8, v9, v10, v11, v12, v13, v14, v15, v16, v17, v18, v19, v20, v21, v22, v23, .ref d0, .ref s0, .ref n0, .ref m0])), (t0, .inl (tc, 8, .inl tg_35))] H := hP
                    have hD : va_D A [(d0, .inl (dc, 4, .inl wf)), (s0, .inl (scx, 4, .inl zf)), (n0, .inl (nc, 160, .inr (.inl uf))), (m0, .inl (mc, 40, .inr (.inl vf))), (h0, .inr (7, [v0, v1, v2, v3, v4, .ref t0, v6, v7, v8, v9, v10, v11, v12, v13, v14, v15, v16, v17, v18, v19, v20, v21, v22, v23, .ref d0, .ref s0, .ref n0, .ref m0])), (t0, .inl (tc, 8, .inl tg_35))] := hD
                    subst hw
                    have hP9 := hP.sub (ws' := [(h0, .inr (7, [v0, v1, v2, v3, v4, .ref t0, v6, v7, v8, v9, v10, v11, v12, v13, v14, v15, v16, v17, v18, v19, v20, v21, v22, v23, .ref d0, .ref s0, .ref n0, .ref m0])), (t0, .inl (tc, 8, .inl tg_35)), (d0, .inl (dc, 4, .inl wf)), (s0, .inl (scx, 4, .inl zf)), (n0, .inl (nc, 160, .inr (.inl uf))), (m0, .inl (mc, 40, .inr (.inl vf)))]) [4, 5, 0, 1, 2, 3] rfl
                    have hD9 := hD.sub (ws' := [(h0, .inr (7, [v0, v1, v2, v3, v4, .ref t0, v6, v7, v8, v9, v10, v11, v12, v13, v14, v15, v16, v17, v18, v19, v20, v21, v22, v23, .ref d0, .ref s0, .ref n0, .ref m0])), (t0, .inl (tc, 8, .inl tg_35)), (d0, .inl (dc, 4, .inl wf)), (s0, .inl (scx, 4, .inl zf)), (n0, .inl (nc, 160, .inr (.inl uf))), (m0, .inl (mc, 40, .inr (.inl vf)))]) [4, 5, 0, 1, 2, 3] (by decide) rfl
                    have hK9 := hK.sub (tys' := [(tc, .int), (dc, .int), (scx, .int), (nc, .long), (mc, .long)]) [0, 1, 2, 3, 4] rfl
                    exact W.iret (v := ((-1000000001) : Int32)) hx hb hr (fun t ht hW => ⟨⟨((-1000000001) : Int32), (), rfl, trivial, tg_35, uf, vf, by rw [ht]; exact hP9, va_K.moved hW.alike hK9, hD9⟩, hS.F ht⟩) hS.2.2 dX9_copy_124
                  · skip
                    have tc_33 : ¬ 0 < n_32.toInt := fun h => c_33 ((fa_lt _ _).mpr h)
                    refine lv_iload hx hb dX9_copy_100 (lv_at hl 4 rfl) ?_
                    obtain ⟨n_36, en_36⟩ : ∃ z : Int64, z = j.toInt64 := ⟨_, rfl⟩
                    refine lv_i2l (v := n_36) hx hb dX9_copy_102 en_36.symm ?_
                    have tn_36 : n_36.toInt = j.toInt := pp_i2l en_36
                    have rn_36 := pp_rng j
                    clear en_36
                    refine lv_iload hx hb dX9_copy_103 (lv_at hl 5 rfl) ?_
                    obtain ⟨n_37, en_37⟩ : ∃ z : Int64, z = n.toInt64 := ⟨_, rfl⟩
                    refine lv_i2l (v := n_37) hx hb dX9_copy_105 en_37.symm ?_
                    have tn_37 : n_37.toInt = n.toInt := pp_i2l en_37
                    have rn_37 := pp_rng n
                    clear en_37
                    refine lv_ladd hx hb dX9_copy_106 ?_
                    refine lv_topl (fun n_38 en_38 => ?_)
                    have tn_38 : n_38.toInt = n_36.toInt + n_37.toInt := pp_ladd en_38 (by omega) (by omega)
                    clear en_38
                    refine lv_aload_n hx hb dX9_copy_107 rfl (lv_at hl 0 rfl) ?_
                    refine va_get (D := (dC, dI)) (ci := 7) (v := .ref s0) (C := RX9) (T := TX9) (N := 28) hx hb hts inX9 hown hK hP 0 rfl rfl 25 (by decide) (hts _ (List.mem_of_getElem? (i := 16) rfl)) (fun _ h9 => h9) rfl dX9_copy_108 ?_
                    refine lv_iload_n hx hb dX9_copy_111 rfl (lv_at hl 3 rfl) ?_
                    refine va_iald hx hb hK hP 3 2 rfl rfl (vp_in_iff.mpr ⟨by omega, by omega⟩) dX9_copy_112 ?_
                    refine lv_topi (fun n_39 en_39 => ?_)
                    have tn_39 : 0 ≤ n_39.toInt ∧ n_39.toInt ≤ 40 := pp_z4 hzf0 hzf1 hzf2 hzf3 en_39 (by omega) (by omega)
                    clear en_39
                    obtain ⟨n_40, en_40⟩ : ∃ z : Int64, z = n_39.toInt64 := ⟨_, rfl⟩
                    refine lv_i2l (v := n_40) hx hb dX9_copy_113 en_40.symm ?_
                    have tn_40 : n_40.toInt = n_39.toInt := pp_i2l en_40
                    have rn_40 := pp_rng n_39
                    clear en_40
                    refine W.lcmp hx hb dX9_copy_114 ?_
                    refine lv_topi (fun n_41 en_41 => ?_)
                    have tn_41 : (0 < n_41.toInt → n_40.toInt < n_38.toInt) ∧ (n_41.toInt ≤ 0 → n_38.toInt ≤ n_40.toInt) := pp_lcmp en_41
                    clear en_41
                    refine lv_if_le (tgt := 125) hx hb dX9_copy_115 (by decide) (fun c_42 => ?_) (fun c_42 => ?_)
                    · skip
                      have tc_42 : n_41.toInt ≤ 0 := (fa_le _ _).mp c_42
                      have hb_i : 0 ≤ i.toInt ∧ i.toInt ≤ 40 := by omega
                      have hb_j : 0 ≤ j.toInt ∧ j.toInt ≤ 40 := by omega
                      have hb_n : 0 ≤ n.toInt ∧ n.toInt ≤ 40 := by omega
                      refine lv_iconst (v := 0) hx hb dX9_copy_125 (by decide) ?_
                      refine lv_istore (lv' := [(6, .int 0), (0, .ref h0), (1, .int sn), (2, .int i), (3, .int d), (4, .int j), (5, .int n)]) hx hb dX9_copy_126 hl (by decide) rfl (fun ls hl => ?_)
                      refine pp_loop (ι := Int32 × (Nat → Int64)) (fun ⟨v6_128, y0⟩ => (n.toInt - v6_128.toInt).toNat) (fun ⟨v6_128, y0⟩ H locs ls => (0 ≤ v6_128.toInt) ∧ va_P (dC, dI) vwCl [(h0, .inr (7, [v0, v1, v2, v3, v4, .ref t0, v6, v7, v8, v9, v10, v11, v12, v13, v14, v15, v16, v17, v18, v19, v20, v21, v22, v23, .ref d0, .ref s0, .ref n0, .ref m0])), (t0, .inl (tc, 8, .inl tf)), (d0, .inl (dc, 4, .inl wf)), (s0, .inl (scx, 4, .inl zf)), (n0, .inl (nc, 160, .inr (.inl uf))), (m0, .inl (mc, 40, .inr (.inl y0)))] H ∧ va_D A [(h0, .inr (7, [v0, v1, v2, v3, v4, .ref t0, v6, v7, v8, v9, v10, v11, v12, v13, v14, v15, v16, v17, v18, v19, v20, v21, v22, v23, .ref d0, .ref s0, .ref n0, .ref m0])), (t0, .inl (tc, 8, .inl tf)), (d0, .inl (dc, 4, .inl wf)), (s0, .inl (scx, 4, .inl zf)), (n0, .inl (nc, 160, .inr (.inl uf))), (m0, .inl (mc, 40, .inr (.inl y0)))] ∧ va_S A s.heap H locs ∧ lv_has ls 7 [(6, .int v6_128), (0, .ref h0), (1, .int sn), (2, .int i), (3, .int d), (4, .int j), (5, .int n)]) ?_ (0, vf) _ _ _ ⟨(by first | omega | decide | (simp only [fa_lt, fa_le, fa_eq, and_true, true_and, and_false, false_and, not_true_eq_false, not_false_eq_true, li_0, li_1, li_2, li_3, li_4, li_5, li_6, li_7, li_8, li_9, li_10, li_12, li_15, li_16, li_20, li_30, li_34, li_38, li_40, li_63, li_64, li_65, li_78, li_120, li_1000, li_4000, li_10000, li_11077, li_255, li_65535, li_m1, li_m2, li_m1000000001, li_m1000000002, li_m1000000003, li_m1000000004, li_m1000000005, li_m1000000006, li_m1000000007, or_true, true_or, or_false, false_or, implies_true, true_implies, false_implies] <;> omega)), hP.sub [0, 1, 2, 3, 4, 5] rfl, hD.sub [0, 1, 2, 3, 4, 5] (by decide) rfl, hS, lv_sub hl [0, 1, 2, 3, 4, 5, 6] rfl⟩
                      intro k_43 ihk_43 u H locs ls hm hI
                      obtain ⟨v6_128, y0⟩ := u
                      obtain ⟨jk_43_0, hP, hD, hS, hl⟩ := hI
                      have hmk_43 : (n.toInt - v6_128.toInt).toNat < k_43 + 1 := hm
                      clear hm
                      have jk_43_0 : 0 ≤ v6_128.toInt := jk_43_0
                      have hl : lv_has ls 7 [(6, .int v6_128), (0, .ref h0), (1, .int sn), (2, .int i), (3, .int d), (4, .int j), (5, .int n)] := hl
                      have hP : va_P (dC, dI) vwCl [(h0, .inr (7, [v0, v1, v2, v3, v4, .ref t0, v6, v7, v8, v9, v10, v11, v12, v13, v14, v15, v16, v17, v18, v19, v20, v21, v22, v23, .ref d0, .ref s0, .ref n0, .ref m0])), (t0, .inl (tc, 8, .inl tf)), (d0, .inl (dc, 4, .inl wf)), (s0, .inl (scx, 4, .inl zf)), (n0, .inl (nc, 160, .inr (.inl uf))), (m0, .inl (mc, 40, .inr (.inl y0)))] H := hP
                      have hD : va_D A [(h0, .inr (7, [v0, v1, v2, v3, v4, .ref t0, v6, v7, v8, v9, v10, v11, v12, v13, v14, v15, v16, v17, v18, v19, v20, v21, v22, v23, .ref d0, .ref s0, .ref n0, .ref m0])), (t0, .inl (tc, 8, .inl tf)), (d0, .inl (dc, 4, .inl wf)), (s0, .inl (scx, 4, .inl zf)), (n0, .inl (nc, 160, .inr (.inl uf))), (m0, .inl (mc, 40, .inr (.inl y0)))] := hD
                      refine lv_iload hx hb dX9_copy_128 (lv_at hl 0 rfl) ?_
                      refine lv_iload hx hb dX9_copy_130 (lv_at hl 6 rfl) ?_
                      have rc_44_x := pp_rng v6_128
                      have rc_44_y := pp_rng n
                      refine lv_icmp_ge (tgt := 162) hx hb dX9_copy_132 (by decide) (fun c_44 => ?_) (fun c_44 => ?_)
                      · skip
                        have tc_44 : n.toInt ≤ v6_128.toInt := (fa_le _ _).mp c_44
                        refine lv_iconst (v := 0) hx hb dX9_copy_162 (by decide) ?_
                        refine lv_istore (lv' := [(6, .int 0), (0, .ref h0), (1, .int sn), (2, .int i), (3, .int d), (4, .int j), (5, .int n)]) hx hb dX9_copy_163 hl (by decide) rfl (fun ls hl => ?_)
                        refine pp_loop (ι := Int32 × (Nat → Int64)) (fun ⟨v6_165, y1⟩ => (n.toInt - v6_165.toInt).toNat) (fun ⟨v6_165, y1⟩ H locs ls => (0 ≤ v6_165.toInt) ∧ va_P (dC, dI) vwCl [(h0, .inr (7, [v0, v1, v2, v3, v4, .ref t0, v6, v7, v8, v9, v10, v11, v12, v13, v14, v15, v16, v17, v18, v19, v20, v21, v22, v23, .ref d0, .ref s0, .ref n0, .ref m0])), (t0, .inl (tc, 8, .inl tf)), (d0, .inl (dc, 4, .inl wf)), (s0, .inl (scx, 4, .inl zf)), (n0, .inl (nc, 160, .inr (.inl y1))), (m0, .inl (mc, 40, .inr (.inl y0)))] H ∧ va_D A [(h0, .inr (7, [v0, v1, v2, v3, v4, .ref t0, v6, v7, v8, v9, v10, v11, v12, v13, v14, v15, v16, v17, v18, v19, v20, v21, v22, v23, .ref d0, .ref s0, .ref n0, .ref m0])), (t0, .inl (tc, 8, .inl tf)), (d0, .inl (dc, 4, .inl wf)), (s0, .inl (scx, 4, .inl zf)), (n0, .inl (nc, 160, .inr (.inl y1))), (m0, .inl (mc, 40, .inr (.inl y0)))] ∧ va_S A s.heap H locs ∧ lv_has ls 7 [(6, .int v6_165), (0, .ref h0), (1, .int sn), (2, .int i), (3, .int d), (4, .int j), (5, .int n)]) ?_ (0, uf) _ _ _ ⟨(by first | omega | decide | (simp only [fa_lt, fa_le, fa_eq, and_true, true_and, and_false, false_and, not_true_eq_false, not_false_eq_true, li_0, li_1, li_2, li_3, li_4, li_5, li_6, li_7, li_8, li_9, li_10, li_12, li_15, li_16, li_20, li_30, li_34, li_38, li_40, li_63, li_64, li_65, li_78, li_120, li_1000, li_4000, li_10000, li_11077, li_255, li_65535, li_m1, li_m2, li_m1000000001, li_m1000000002, li_m1000000003, li_m1000000004, li_m1000000005, li_m1000000006, li_m1000000007, or_true, true_or, or_false, false_or, implies_true, true_implies, false_implies] <;> omega)), hP.sub [0, 1, 2, 3, 4, 5] rfl, hD.sub [0, 1, 2, 3, 4, 5] (by decide) rfl, hS, lv_sub hl [0, 1, 2, 3, 4, 5, 6] rfl⟩
                        intro k_45 ihk_45 u H locs ls hm hI
                        obtain ⟨v6_165, y1⟩ := u
                        obtain ⟨jk_45_0, hP, hD, hS, hl⟩ := hI
                        have hmk_45 : (n.toInt - v6_165.toInt).toNat < k_45 + 1 := hm
                        clear hm
                        have jk_45_0 : 0 ≤ v6_165.toInt := jk_45_0
                        have hl : lv_has ls 7 [(6, .int v6_165), (0, .ref h0), (1, .int sn), (2, .int i), (3, .int d), (4, .int j), (5, .int n)] := hl
                        have hP : va_P (dC, dI) vwCl [(h0, .inr (7, [v0, v1, v2, v3, v4, .ref t0, v6, v7, v8, v9, v10, v11, v12, v13, v14, v15, v16, v17, v18, v19, v20, v21, v22, v23, .ref d0, .ref s0, .ref n0, .ref m0])), (t0, .inl (tc, 8, .inl tf)), (d0, .inl (dc, 4, .inl wf)), (s0, .inl (scx, 4, .inl zf)), (n0, .inl (nc, 160, .inr (.inl y1))), (m0, .inl (mc, 40, .inr (.inl y0)))] H := hP
                        have hD : va_D A [(h0, .inr (7, [v0, v1, v2, v3, v4, .ref t0, v6, v7, v8, v9, v10, v11, v12, v13, v14, v15, v16, v17, v18, v19, v20, v21, v22, v23, .ref d0, .ref s0, .ref n0, .ref m0])), (t0, .inl (tc, 8, .inl tf)), (d0, .inl (dc, 4, .inl wf)), (s0, .inl (scx, 4, .inl zf)), (n0, .inl (nc, 160, .inr (.inl y1))), (m0, .inl (mc, 40, .inr (.inl y0)))] := hD
                        refine lv_iload hx hb dX9_copy_165 (lv_at hl 0 rfl) ?_
                        refine lv_iload hx hb dX9_copy_167 (lv_at hl 6 rfl) ?_
                        have rc_46_x := pp_rng v6_165
                        have rc_46_y := pp_rng n
                        refine lv_icmp_ge (tgt := 200) hx hb dX9_copy_169 (by decide) (fun c_46 => ?_) (fun c_46 => ?_)
                        · skip
                          have tc_46 : n.toInt ≤ v6_165.toInt := (fa_le _ _).mp c_46
                          refine lv_iload hx hb dX9_copy_200 (lv_at hl 6 rfl) ?_
                          have hP9 := hP.sub (ws' := [(h0, .inr (7, [v0, v1, v2, v3, v4, .ref t0, v6, v7, v8, v9, v10, v11, v12, v13, v14, v15, v16, v17, v18, v19, v20, v21, v22, v23, .ref d0, .ref s0, .ref n0, .ref m0])), (t0, .inl (tc, 8, .inl tf)), (d0, .inl (dc, 4, .inl wf)), (s0, .inl (scx, 4, .inl zf)), (n0, .inl (nc, 160, .inr (.inl y1))), (m0, .inl (mc, 40, .inr (.inl y0)))]) [0, 1, 2, 3, 4, 5] rfl
                          have hD9 := hD.sub (ws' := [(h0, .inr (7, [v0, v1, v2, v3, v4, .ref t0, v6, v7, v8, v9, v10, v11, v12, v13, v14, v15, v16, v17, v18, v19, v20, v21, v22, v23, .ref d0, .ref s0, .ref n0, .ref m0])), (t0, .inl (tc, 8, .inl tf)), (d0, .inl (dc, 4, .inl wf)), (s0, .inl (scx, 4, .inl zf)), (n0, .inl (nc, 160, .inr (.inl y1))), (m0, .inl (mc, 40, .inr (.inl y0)))]) [0, 1, 2, 3, 4, 5] (by decide) rfl
                          have hK9 := hK.sub (tys' := [(tc, .int), (dc, .int), (scx, .int), (nc, .long), (mc, .long)]) [0, 1, 2, 3, 4] rfl
                          exact W.iret (v := n) hx hb hr (fun t ht hW => ⟨⟨n, (), rfl, trivial, tf, y1, y0, by rw [ht]; exact hP9, va_K.moved hW.alike hK9, hD9⟩, hS.F ht⟩) hS.2.2 dX9_copy_202
                        · skip
                          have tc_46 : ¬ n.toInt ≤ v6_165.toInt := fun h => c_46 ((fa_le _ _).mpr h)
                          refine lv_aload_n hx hb dX9_copy_172 rfl (lv_at hl 1 rfl) ?_
                          refine va_get (D := (dC, dI)) (ci := 7) (v := .ref n0) (C := RX9) (T := TX9) (N := 28) hx hb hts inX9 hown hK hP 0 rfl rfl 26 (by decide) (hts _ (List.mem_of_getElem? (i := 17) rfl)) (fun _ h9 => h9) rfl dX9_copy_173 ?_
                          refine lv_bipush (v := 40) hx hb dX9_copy_176 (by decide) ?_
                          refine lv_iload_n hx hb dX9_copy_178 rfl (lv_at hl 4 rfl) ?_
                          refine lv_imul hx hb dX9_copy_179 ?_
                          refine lv_topi (fun n_47 en_47 => ?_)
                          have tn_47 : n_47.toInt = 40 * d.toInt := pp_mul en_47 rfl rfl (by omega) (by omega)
                          clear en_47
                          refine lv_iload hx hb dX9_copy_180 (lv_at hl 5 rfl) ?_
                          refine lv_iadd hx hb dX9_copy_182 ?_
                          refine lv_topi (fun n_48 en_48 => ?_)
                          have tn_48 : n_48.toInt = n_47.toInt + j.toInt := pp_add en_48 rfl rfl (by omega) (by omega)
                          clear en_48
                          refine lv_iload hx hb dX9_copy_183 (lv_at hl 0 rfl) ?_
                          refine lv_iadd hx hb dX9_copy_185 ?_
                          refine lv_topi (fun n_49 en_49 => ?_)
                          have tn_49 : n_49.toInt = n_48.toInt + v6_165.toInt := pp_add en_49 rfl rfl (by omega) (by omega)
                          clear en_49
                          refine lv_aload_n hx hb dX9_copy_186 rfl (lv_at hl 1 rfl) ?_
                          refine va_get (D := (dC, dI)) (ci := 7) (v := .ref m0) (C := RX9) (T := TX9) (N := 28) hx hb hts inX9 hown hK hP 0 rfl rfl 27 (by decide) (hts _ (List.mem_of_getElem? (i := 18) rfl)) (fun _ h9 => h9) rfl dX9_copy_187 ?_
                          refine lv_iload hx hb dX9_copy_190 (lv_at hl 0 rfl) ?_
                          refine va_lald hx hb hK hP 5 4 rfl rfl (vp_in_iff.mpr ⟨by omega, by omega⟩) dX9_copy_192 ?_
                          refine lv_topl (fun n_50 en_50 => ?_)
                          clear en_50
                          refine va_last hx hb hK hP hD hS 4 3 rfl rfl (vp_in_iff.mpr ⟨by omega, by omega⟩) dX9_copy_193 (fun H locs hP hD hS => ?_)
                          have hP : va_P (dC, dI) vwCl [(h0, .inr (7, [v0, v1, v2, v3, v4, .ref t0, v6, v7, v8, v9, v10, v11, v12, v13, v14, v15, v16, v17, v18, v19, v20, v21, v22, v23, .ref d0, .ref s0, .ref n0, .ref m0])), (t0, .inl (tc, 8, .inl tf)), (d0, .inl (dc, 4, .inl wf)), (s0, .inl (scx, 4, .inl zf)), (n0, .inl (nc, 160, .inr (.inl (vp_updL y1 n_49.toNatClampNeg n_50)))), (m0, .inl (mc, 40, .inr (.inl y0)))] H := hP
                          have hD : va_D A [(h0, .inr (7, [v0, v1, v2, v3, v4, .ref t0, v6, v7, v8, v9, v10, v11, v12, v13, v14, v15, v16, v17, v18, v19, v20, v21, v22, v23, .ref d0, .ref s0, .ref n0, .ref m0])), (t0, .inl (tc, 8, .inl tf)), (d0, .inl (dc, 4, .inl wf)), (s0, .inl (scx, 4, .inl zf)), (n0, .inl (nc, 160, .inr (.inl (vp_updL y1 n_49.toNatClampNeg n_50)))), (m0, .inl (mc, 40, .inr (.inl y0)))] := hD
                          obtain ⟨n_51, en_51⟩ : ∃ y : Int32, y = v6_165 + 1 := ⟨_, rfl⟩
                          have tn_51 : n_51.toInt = v6_165.toInt + 1 := pp_add en_51 rfl rfl (by omega) (by omega)
                          refine lv_iinc (v := n_51) (lv' := [(6, .int n_51), (0, .ref h0), (1, .int sn), (2, .int i), (3, .int d), (4, .int j), (5, .int n)]) hx hb dX9_copy_194 hl (k := 0) rfl (by rw [en_51]; rfl) (by decide) rfl (fun ls hl => ?_)
                          clear en_51
                          refine lv_goto (tgt := 165) hx hb dX9_copy_197 (by decide) ?_
                          exact ihk_45 (n_51, (vp_updL y1 n_49.toNatClampNeg n_50)) _ _ _ (by show (n.toInt - n_51.toInt).toNat < k_45; omega) ⟨(by first | omega | decide | (simp only [fa_lt, fa_le, fa_eq, and_true, true_and, and_false, false_and, not_true_eq_false, not_false_eq_true, li_0, li_1, li_2, li_3, li_4, li_5, li_6, li_7, li_8, li_9, li_10, li_12, li_15, li_16, li_20, li_30, li_34, li_38, li_40, li_63, li_64, li_65, li_78, li_120, li_1000, li_4000, li_10000, li_11077, li_255, li_65535, li_m1, li_m2, li_m1000000001, li_m1000000002, li_m1000000003, li_m1000000004, li_m1000000005, li_m1000000006, li_m1000000007, or_true, true_or, or_false, false_or, implies_true, true_implies, false_implies] <;> omega)), hP.sub [0, 1, 2, 3, 4, 5] rfl, hD.sub [0, 1, 2, 3, 4, 5] (by decide) rfl, hS, lv_sub hl [0, 1, 2, 3, 4, 5, 6] rfl⟩
                      · skip
                        have tc_44 : ¬ n.toInt ≤ v6_128.toInt := fun h => c_44 ((fa_le _ _).mpr h)
                        refine lv_aload_n hx hb dX9_copy_135 rfl (lv_at hl 1 rfl) ?_
                        refine va_get (D := (dC, dI)) (ci := 7) (v := .ref m0) (C := RX9) (T := TX9) (N := 28) hx hb hts inX9 hown hK hP 0 rfl rfl 27 (by decide) (hts _ (List.mem_of_getElem? (i := 18) rfl)) (fun _ h9 => h9) rfl dX9_copy_136 ?_
                        refine lv_iload hx hb dX9_copy_139 (lv_at hl 0 rfl) ?_
                        refine lv_aload_n hx hb dX9_copy_141 rfl (lv_at hl 1 rfl) ?_
                        refine va_get (D := (dC, dI)) (ci := 7) (v := .ref n0) (C := RX9) (T := TX9) (N := 28) hx hb hts inX9 hown hK hP 0 rfl rfl 26 (by decide) (hts _ (List.mem_of_getElem? (i := 17) rfl)) (fun _ h9 => h9) rfl dX9_copy_142 ?_
                        refine lv_bipush (v := 40) hx hb dX9_copy_145 (by decide) ?_
                        refine lv_iload_n hx hb dX9_copy_147 rfl (lv_at hl 2 rfl) ?_
                        refine lv_imul hx hb dX9_copy_148 ?_
                        refine lv_topi (fun n_52 en_52 => ?_)
                        have tn_52 : n_52.toInt = 40 * sn.toInt := pp_mul en_52 rfl rfl (by omega) (by omega)
                        clear en_52
                        refine lv_iload_n hx hb dX9_copy_149 rfl (lv_at hl 3 rfl) ?_
                        refine lv_iadd hx hb dX9_copy_150 ?_
                        refine lv_topi (fun n_53 en_53 => ?_)
                        have tn_53 : n_53.toInt = n_52.toInt + i.toInt := pp_add en_53 rfl rfl (by omega) (by omega)
                        clear en_53
                        refine lv_iload hx hb dX9_copy_151 (lv_at hl 0 rfl) ?_
                        refine lv_iadd hx hb dX9_copy_153 ?_
                        refine lv_topi (fun n_54 en_54 => ?_)
                        have tn_54 : n_54.toInt = n_53.toInt + v6_128.toInt := pp_add en_54 rfl rfl (by omega) (by omega)
                        clear en_54
                        refine va_lald hx hb hK hP 4 3 rfl rfl (vp_in_iff.mpr ⟨by omega, by omega⟩) dX9_copy_154 ?_
                        refine lv_topl (fun n_55 en_55 => ?_)
                        clear en_55
                        refine va_last hx hb hK hP hD hS 5 4 rfl rfl (vp_in_iff.mpr ⟨by omega, by omega⟩) dX9_copy_155 (fun H locs hP hD hS => ?_)
                        have hP : va_P (dC, dI) vwCl [(h0, .inr (7, [v0, v1, v2, v3, v4, .ref t0, v6, v7, v8, v9, v10, v11, v12, v13, v14, v15, v16, v17, v18, v19, v20, v21, v22, v23, .ref d0, .ref s0, .ref n0, .ref m0])), (t0, .inl (tc, 8, .inl tf)), (d0, .inl (dc, 4, .inl wf)), (s0, .inl (scx, 4, .inl zf)), (n0, .inl (nc, 160, .inr (.inl uf))), (m0, .inl (mc, 40, .inr (.inl (vp_updL y0 v6_128.toNatClampNeg n_55))))] H := hP
                        have hD : va_D A [(h0, .inr (7, [v0, v1, v2, v3, v4, .ref t0, v6, v7, v8, v9, v10, v11, v12, v13, v14, v15, v16, v17, v18, v19, v20, v21, v22, v23, .ref d0, .ref s0, .ref n0, .ref m0])), (t0, .inl (tc, 8, .inl tf)), (d0, .inl (dc, 4, .inl wf)), (s0, .inl (scx, 4, .inl zf)), (n0, .inl (nc, 160, .inr (.inl uf))), (m0, .inl (mc, 40, .inr (.inl (vp_updL y0 v6_128.toNatClampNeg n_55))))] := hD
                        obtain ⟨n_56, en_56⟩ : ∃ y : Int32, y = v6_128 + 1 := ⟨_, rfl⟩
                        have tn_56 : n_56.toInt = v6_128.toInt + 1 := pp_add en_56 rfl rfl (by omega) (by omega)
                        refine lv_iinc (v := n_56) (lv' := [(6, .int n_56), (0, .ref h0), (1, .int sn), (2, .int i), (3, .int d), (4, .int j), (5, .int n)]) hx hb dX9_copy_156 hl (k := 0) rfl (by rw [en_56]; rfl) (by decide) rfl (fun ls hl => ?_)
                        clear en_56
                        refine lv_goto (tgt := 128) hx hb dX9_copy_159 (by decide) ?_
                        exact ihk_43 (n_56, (vp_updL y0 v6_128.toNatClampNeg n_55)) _ _ _ (by show (n.toInt - n_56.toInt).toNat < k_43; omega) ⟨(by first | omega | decide | (simp only [fa_lt, fa_le, fa_eq, and_true, true_and, and_false, false_and, not_true_eq_false, not_false_eq_true, li_0, li_1, li_2, li_3, li_4, li_5, li_6, li_7, li_8, li_9, li_10, li_12, li_15, li_16, li_20, li_30, li_34, li_38, li_40, li_63, li_64, li_65, li_78, li_120, li_1000, li_4000, li_10000, li_11077, li_255, li_65535, li_m1, li_m2, li_m1000000001, li_m1000000002, li_m1000000003, li_m1000000004, li_m1000000005, li_m1000000006, li_m1000000007, or_true, true_or, or_false, false_or, implies_true, true_implies, false_implies] <;> omega)), hP.sub [0, 1, 2, 3, 4, 5] rfl, hD.sub [0, 1, 2, 3, 4, 5] (by decide) rfl, hS, lv_sub hl [0, 1, 2, 3, 4, 5, 6] rfl⟩
                    · skip
                      have tc_42 : ¬ n_41.toInt ≤ 0 := fun h => c_42 ((fa_le _ _).mpr h)
                      refine lv_aload_n hx hb dX9_copy_118 rfl (lv_at hl 0 rfl) ?_
                      refine lv_ldc hx hb hown (hts _ (List.mem_of_getElem? (i := 8) rfl)) dX9_copy_119 ?_
                      have hPc := hP.sub (ws' := [(h0, .inr (7, [v0, v1, v2, v3, v4, .ref t0, v6, v7, v8, v9, v10, v11, v12, v13, v14, v15, v16, v17, v18, v19, v20, v21, v22, v23, .ref d0, .ref s0, .ref n0, .ref m0])), (t0, .inl (tc, 8, .inl tf))]) [0, 1] rfl
                      have hKc := hK.sub (tys' := [(tc, .int)]) [0] rfl
                      have hDc := hD.sub (ws' := [(h0, .inr (7, [v0, v1, v2, v3, v4, .ref t0, v6, v7, v8, v9, v10, v11, v12, v13, v14, v15, v16, v17, v18, v19, v20, v21, v22, v23, .ref d0, .ref s0, .ref n0, .ref m0])), (t0, .inl (tc, 8, .inl tf))]) [0, 1] (by decide) rfl
                      have hFc := va_free (wc := [(h0, .inr (7, [v0, v1, v2, v3, v4, .ref t0, v6, v7, v8, v9, v10, v11, v12, v13, v14, v15, v16, v17, v18, v19, v20, v21, v22, v23, .ref d0, .ref s0, .ref n0, .ref m0])), (t0, .inl (tc, 8, .inl tf))]) hD hS hA [0, 1] rfl
                      refine va_calli (va_runV (As := [.int (-1000000001)]) (rest := []) ⟨hx, hb, hml, hown, hts⟩ (mf_beyond l dC dI ad h0 v0 v1 v2 v3 v4 t0 v6 v7 v8 v9 v10 v11 v12 v13 v14 v15 v16 v17 v18 v19 v20 v21 v22 v23 (.ref d0) (.ref s0) (.ref n0) (.ref m0) tc tf s.heap.size ) (cwV 1 hts g_m_copy_mf_beyond_84 rfl rfl rfl (by decide +kernel) ⟨(Nat.le_of_ble_eq_true rfl), (Nat.le_of_ble_eq_true rfl)⟩) ⟨preM_blind, va_recv hKc hPc (ci := 7) (q0 := 0) rfl rfl, fun U hU hW => ⟨rfl, preM_at hU hW hPc hKc hDc hev⟩⟩ rfl rfl hl.1 rfl (lv_room (Nat.le_of_ble_eq_true rfl)) dX9_copy_121 ⟨(Nat.le_of_ble_eq_true rfl), (Nat.le_of_ble_eq_true rfl)⟩) hS (fun q _ h => hFc q h) hFc (fun r_57 u t H1 locs ht hvm hw hB hz1 hk1 hS => ?_)
                      obtain ⟨tg_58, hP1, hK1, hD1⟩ := hB
                      rw [ht] at hP1
                      have hK1 := va_K.moved hvm.symm hK1
                      obtain ⟨hP, hD⟩ := va_join (wr := [(d0, .inl (dc, 4, .inl wf)), (s0, .inl (scx, 4, .inl zf)), (n0, .inl (nc, 160, .inr (.inl uf))), (m0, .inl (mc, 40, .inr (.inl vf)))]) (w1 := [(h0, .inr (7, [v0, v1, v2, v3, v4, .ref t0, v6, v7, v8, v9, v10, v11, v12, v13, v14, v15, v16, v17, v18, v19, v20, v21, v22, v23, .ref d0, .ref s0, .ref n0, .ref m0])), (t0, .inl (tc, 8, .inl tg_58))]) hP hD [0, 1] [2, 3, 4, 5] rfl rfl (by decide) (by decide) hk1 hFc hP1 hD1
                      generalize H1 = H at hP hS ⊢
                      have hP : va_P (dC, dI) vwCl [(d0, .inl (dc, 4, .inl wf)), (s0, .inl (scx, 4, .inl zf)), (n0, .inl (nc, 160, .inr (.inl uf))), (m0, .inl (mc, 40, .inr (.inl vf))), (h0, .inr (7, [v0, v1, v2, v3, v4, .ref t0, v6, v7, v8, v9, v10, v11, v12, v13, v14, v15, v16, v17, v18, v19, v20, v21, v22, v23, .ref d0, .ref s0, .ref n0, .ref m0])), (t0, .inl (tc, 8, .inl tg_58))] H := hP
                      have hD : va_D A [(d0, .inl (dc, 4, .inl wf)), (s0, .inl (scx, 4, .inl zf)), (n0, .inl (nc, 160, .inr (.inl uf))), (m0, .inl (mc, 40, .inr (.inl vf))), (h0, .inr (7, [v0, v1, v2, v3, v4, .ref t0, v6, v7, v8, v9, v10, v11, v12, v13, v14, v15, v16, v17, v18, v19, v20, v21, v22, v23, .ref d0, .ref s0, .ref n0, .ref m0])), (t0, .inl (tc, 8, .inl tg_58))] := hD
                      subst hw
                      have hP9 := hP.sub (ws' := [(h0, .inr (7, [v0, v1, v2, v3, v4, .ref t0, v6, v7, v8, v9, v10, v11, v12, v13, v14, v15, v16, v17, v18, v19, v20, v21, v22, v23, .ref d0, .ref s0, .ref n0, .ref m0])), (t0, .inl (tc, 8, .inl tg_58)), (d0, .inl (dc, 4, .inl wf)), (s0, .inl (scx, 4, .inl zf)), (n0, .inl (nc, 160, .inr (.inl uf))), (m0, .inl (mc, 40, .inr (.inl vf)))]) [4, 5, 0, 1, 2, 3] rfl
                      have hD9 := hD.sub (ws' := [(h0, .inr (7, [v0, v1, v2, v3, v4, .ref t0, v6, v7, v8, v9, v10, v11, v12, v13, v14, v15, v16, v17, v18, v19, v20, v21, v22, v23, .ref d0, .ref s0, .ref n0, .ref m0])), (t0, .inl (tc, 8, .inl tg_58)), (d0, .inl (dc, 4, .inl wf)), (s0, .inl (scx, 4, .inl zf)), (n0, .inl (nc, 160, .inr (.inl uf))), (m0, .inl (mc, 40, .inr (.inl vf)))]) [4, 5, 0, 1, 2, 3] (by decide) rfl
                      have hK9 := hK.sub (tys' := [(tc, .int), (dc, .int), (scx, .int), (nc, .long), (mc, .long)]) [0, 1, 2, 3, 4] rfl
                      exact W.iret (v := ((-1000000001) : Int32)) hx hb hr (fun t ht hW => ⟨⟨((-1000000001) : Int32), (), rfl, trivial, tg_58, uf, vf, by rw [ht]; exact hP9, va_K.moved hW.alike hK9, hD9⟩, hS.F ht⟩) hS.2.2 dX9_copy_124
          · skip
            have tc_17 : ¬ n_15.toInt = n_16.toInt := fun h => c_17 ((fa_eq _ _).mpr h)
            refine lv_aload_n hx hb dX9_copy_62 rfl (lv_at hl 0 rfl) ?_
            refine lv_ldc hx hb hown (hts _ (List.mem_of_getElem? (i := 19) rfl)) dX9_copy_63 ?_
            have hPc := hP.sub (ws' := [(h0, .inr (7, [v0, v1, v2, v3, v4, .ref t0, v6, v7, v8, v9, v10, v11, v12, v13, v14, v15, v16, v17, v18, v19, v20, v21, v22, v23, .ref d0, .ref s0, .ref n0, .ref m0])), (t0, .inl (tc, 8, .inl tf))]) [0, 1] rfl
            have hKc := hK.sub (tys' := [(tc, .int)]) [0] rfl
            have hDc := hD.sub (ws' := [(h0, .inr (7, [v0, v1, v2, v3, v4, .ref t0, v6, v7, v8, v9, v10, v11, v12, v13, v14, v15, v16, v17, v18, v19, v20, v21, v22, v23, .ref d0, .ref s0, .ref n0, .ref m0])), (t0, .inl (tc, 8, .inl tf))]) [0, 1] (by decide) rfl
            have hFc := va_free (wc := [(h0, .inr (7, [v0, v1, v2, v3, v4, .ref t0, v6, v7, v8, v9, v10, v11, v12, v13, v14, v15, v16, v17, v18, v19, v20, v21, v22, v23, .ref d0, .ref s0, .ref n0, .ref m0])), (t0, .inl (tc, 8, .inl tf))]) hD hS hA [0, 1] rfl
            refine va_calli (va_runV (As := [.int (-1000000003)]) (rest := []) ⟨hx, hb, hml, hown, hts⟩ (mf_kind l dC dI ad h0 v0 v1 v2 v3 v4 t0 v6 v7 v8 v9 v10 v11 v12 v13 v14 v15 v16 v17 v18 v19 v20 v21 v22 v23 (.ref d0) (.ref s0) (.ref n0) (.ref m0) tc tf s.heap.size ) (cwV 1 hts g_m_copy_mf_kind_84 rfl rfl rfl (by decide +kernel) ⟨(Nat.le_of_ble_eq_true rfl), (Nat.le_of_ble_eq_true rfl)⟩) ⟨preM_blind, va_recv hKc hPc (ci := 7) (q0 := 0) rfl rfl, fun U hU hW => ⟨rfl, preM_at hU hW hPc hKc hDc hev⟩⟩ rfl rfl hl.1 rfl (lv_room (Nat.le_of_ble_eq_true rfl)) dX9_copy_65 ⟨(Nat.le_of_ble_eq_true rfl), (Nat.le_of_ble_eq_true rfl)⟩) hS (fun q _ h => hFc q h) hFc (fun r_59 u t H1 locs ht hvm hw hB hz1 hk1 hS => ?_)
            obtain ⟨tg_60, hP1, hK1, hD1⟩ := hB
            rw [ht] at hP1
            have hK1 := va_K.moved hvm.symm hK1
            obtain ⟨hP, hD⟩ := va_join (wr := [(d0, .inl (dc, 4, .inl wf)), (s0, .inl (scx, 4, .inl zf)), (n0, .inl (nc, 160, .inr (.inl uf))), (m0, .inl (mc, 40, .inr (.inl vf)))]) (w1 := [(h0, .inr (7, [v0, v1, v2, v3, v4, .ref t0, v6, v7, v8, v9, v10, v11, v12, v13, v14, v15, v16, v17, v18, v19, v20, v21, v22, v23, .ref d0, .ref s0, .ref n0, .ref m0])), (t0, .inl (tc, 8, .inl tg_60))]) hP hD [0, 1] [2, 3, 4, 5] rfl rfl (by decide) (by decide) hk1 hFc hP1 hD1
            generalize H1 = H at hP hS ⊢
            have hP : va_P (dC, dI) vwCl [(d0, .inl (dc, 4, .inl wf)), (s0, .inl (scx, 4, .inl zf)), (n0, .inl (nc, 160, .inr (.inl uf))), (m0, .inl (mc, 40, .inr (.inl vf))), (h0, .inr (7, [v0, v1, v2, v3, v4, .ref t0, v6, v7, v8, v9, v10, v11, v12, v13, v14, v15, v16, v17, v18, v19, v20, v21, v22, v23, .ref d0, .ref s0, .ref n0, .ref m0])), (t0, .inl (tc, 8, .inl tg_60))] H := hP
            have hD : va_D A [(d0, .inl (dc, 4, .inl wf)), (s0, .inl (scx, 4, .inl zf)), (n0, .inl (nc, 160, .inr (.inl uf))), (m0, .inl (mc, 40, .inr (.inl vf))), (h0, .inr (7, [v0, v1, v2, v3, v4, .ref t0, v6, v7, v8, v9, v10, v11, v12, v13, v14, v15, v16, v17, v18, v19, v20, v21, v22, v23, .ref d0, .ref s0, .ref n0, .ref m0])), (t0, .inl (tc, 8, .inl tg_60))] := hD
            subst hw
            have hP9 := hP.sub (ws' := [(h0, .inr (7, [v0, v1, v2, v3, v4, .ref t0, v6, v7, v8, v9, v10, v11, v12, v13, v14, v15, v16, v17, v18, v19, v20, v21, v22, v23, .ref d0, .ref s0, .ref n0, .ref m0])), (t0, .inl (tc, 8, .inl tg_60)), (d0, .inl (dc, 4, .inl wf)), (s0, .inl (scx, 4, .inl zf)), (n0, .inl (nc, 160, .inr (.inl uf))), (m0, .inl (mc, 40, .inr (.inl vf)))]) [4, 5, 0, 1, 2, 3] rfl
            have hD9 := hD.sub (ws' := [(h0, .inr (7, [v0, v1, v2, v3, v4, .ref t0, v6, v7, v8, v9, v10, v11, v12, v13, v14, v15, v16, v17, v18, v19, v20, v21, v22, v23, .ref d0, .ref s0, .ref n0, .ref m0])), (t0, .inl (tc, 8, .inl tg_60)), (d0, .inl (dc, 4, .inl wf)), (s0, .inl (scx, 4, .inl zf)), (n0, .inl (nc, 160, .inr (.inl uf))), (m0, .inl (mc, 40, .inr (.inl vf)))]) [4, 5, 0, 1, 2, 3] (by decide) rfl
            have hK9 := hK.sub (tys' := [(tc, .int), (dc, .int), (scx, .int), (nc, .long), (mc, .long)]) [0, 1, 2, 3, 4] rfl
            exact W.iret (v := ((-1000000003) : Int32)) hx hb hr (fun t ht hW => ⟨⟨((-1000000003) : Int32), (), rfl, trivial, tg_60, uf, vf, by rw [ht]; exact hP9, va_K.moved hW.alike hK9, hD9⟩, hS.F ht⟩) hS.2.2 dX9_copy_68
        · skip
          have tc_14 : n_13.toInt = 0 := (fa_eq _ _).mp c_14
          refine lv_aload_n hx hb dX9_copy_39 rfl (lv_at hl 0 rfl) ?_
          refine lv_ldcw hx hb hown (hts _ (List.mem_of_getElem? (i := 15) rfl)) dX9_copy_40 ?_
          have hPc := hP.sub (ws' := [(h0, .inr (7, [v0, v1, v2, v3, v4, .ref t0, v6, v7, v8, v9, v10, v11, v12, v13, v14, v15, v16, v17, v18, v19, v20, v21, v22, v23, .ref d0, .ref s0, .ref n0, .ref m0])), (t0, .inl (tc, 8, .inl tf))]) [0, 1] rfl
          have hKc := hK.sub (tys' := [(tc, .int)]) [0] rfl
          have hDc := hD.sub (ws' := [(h0, .inr (7, [v0, v1, v2, v3, v4, .ref t0, v6, v7, v8, v9, v10, v11, v12, v13, v14, v15, v16, v17, v18, v19, v20, v21, v22, v23, .ref d0, .ref s0, .ref n0, .ref m0])), (t0, .inl (tc, 8, .inl tf))]) [0, 1] (by decide) rfl
          have hFc := va_free (wc := [(h0, .inr (7, [v0, v1, v2, v3, v4, .ref t0, v6, v7, v8, v9, v10, v11, v12, v13, v14, v15, v16, v17, v18, v19, v20, v21, v22, v23, .ref d0, .ref s0, .ref n0, .ref m0])), (t0, .inl (tc, 8, .inl tf))]) hD hS hA [0, 1] rfl
          refine va_calli (va_runV (As := [.int (-1000000006)]) (rest := []) ⟨hx, hb, hml, hown, hts⟩ (mf_missing l dC dI ad h0 v0 v1 v2 v3 v4 t0 v6 v7 v8 v9 v10 v11 v12 v13 v14 v15 v16 v17 v18 v19 v20 v21 v22 v23 (.ref d0) (.ref s0) (.ref n0) (.ref m0) tc tf s.heap.size ) (cwV 1 hts g_m_copy_mf_missing_84 rfl rfl rfl (by decide +kernel) ⟨(Nat.le_of_ble_eq_true rfl), (Nat.le_of_ble_eq_true rfl)⟩) ⟨preM_blind, va_recv hKc hPc (ci := 7) (q0 := 0) rfl rfl, fun U hU hW => ⟨rfl, preM_at hU hW hPc hKc hDc hev⟩⟩ rfl rfl hl.1 rfl (lv_room (Nat.le_of_ble_eq_true rfl)) dX9_copy_43 ⟨(Nat.le_of_ble_eq_true rfl), (Nat.le_of_ble_eq_true rfl)⟩) hS (fun q _ h => hFc q h) hFc (fun r_61 u t H1 locs ht hvm hw hB hz1 hk1 hS => ?_)
          obtain ⟨tg_62, hP1, hK1, hD1⟩ := hB
          rw [ht] at hP1
          have hK1 := va_K.moved hvm.symm hK1
          obtain ⟨hP, hD⟩ := va_join (wr := [(d0, .inl (dc, 4, .inl wf)), (s0, .inl (scx, 4, .inl zf)), (n0, .inl (nc, 160, .inr (.inl uf))), (m0, .inl (mc, 40, .inr (.inl vf)))]) (w1 := [(h0, .inr (7, [v0, v1, v2, v3, v4, .ref t0, v6, v7, v8, v9, v10, v11, v12, v13, v14, v15, v16, v17, v18, v19, v20, v21, v22, v23, .ref d0, .ref s0, .ref n0, .ref m0])), (t0, .inl (tc, 8, .inl tg_62))]) hP hD [0, 1] [2, 3, 4, 5] rfl rfl (by decide) (by decide) hk1 hFc hP1 hD1
          generalize H1 = H at hP hS ⊢
          have hP : va_P (dC, dI) vwCl [(d0, .inl (dc, 4, .inl wf)), (s0, .inl (scx, 4, .inl zf)), (n0, .inl (nc, 160, .inr (.inl uf))), (m0, .inl (mc, 40, .inr (.inl vf))), (h0, .inr (7, [v0, v1, v2, v3, v4, .ref t0, v6, v7, v8, v9, v10, v11, v12, v13, v14, v15, v16, v17, v18, v19, v20, v21, v22, v23, .ref d0, .ref s0, .ref n0, .ref m0])), (t0, .inl (tc, 8, .inl tg_62))] H := hP
          have hD : va_D A [(d0, .inl (dc, 4, .inl wf)), (s0, .inl (scx, 4, .inl zf)), (n0, .inl (nc, 160, .inr (.inl uf))), (m0, .inl (mc, 40, .inr (.inl vf))), (h0, .inr (7, [v0, v1, v2, v3, v4, .ref t0, v6, v7, v8, v9, v10, v11, v12, v13, v14, v15, v16, v17, v18, v19, v20, v21, v22, v23, .ref d0, .ref s0, .ref n0, .ref m0])), (t0, .inl (tc, 8, .inl tg_62))] := hD
          subst hw
          have hP9 := hP.sub (ws' := [(h0, .inr (7, [v0, v1, v2, v3, v4, .ref t0, v6, v7, v8, v9, v10, v11, v12, v13, v14, v15, v16, v17, v18, v19, v20, v21, v22, v23, .ref d0, .ref s0, .ref n0, .ref m0])), (t0, .inl (tc, 8, .inl tg_62)), (d0, .inl (dc, 4, .inl wf)), (s0, .inl (scx, 4, .inl zf)), (n0, .inl (nc, 160, .inr (.inl uf))), (m0, .inl (mc, 40, .inr (.inl vf)))]) [4, 5, 0, 1, 2, 3] rfl
          have hD9 := hD.sub (ws' := [(h0, .inr (7, [v0, v1, v2, v3, v4, .ref t0, v6, v7, v8, v9, v10, v11, v12, v13, v14, v15, v16, v17, v18, v19, v20, v21, v22, v23, .ref d0, .ref s0, .ref n0, .ref m0])), (t0, .inl (tc, 8, .inl tg_62)), (d0, .inl (dc, 4, .inl wf)), (s0, .inl (scx, 4, .inl zf)), (n0, .inl (nc, 160, .inr (.inl uf))), (m0, .inl (mc, 40, .inr (.inl vf)))]) [4, 5, 0, 1, 2, 3] (by decide) rfl
          have hK9 := hK.sub (tys' := [(tc, .int), (dc, .int), (scx, .int), (nc, .long), (mc, .long)]) [0, 1, 2, 3, 4] rfl
          exact W.iret (v := ((-1000000006) : Int32)) hx hb hr (fun t ht hW => ⟨⟨((-1000000006) : Int32), (), rfl, trivial, tg_62, uf, vf, by rw [ht]; exact hP9, va_K.moved hW.alike hK9, hD9⟩, hS.F ht⟩) hS.2.2 dX9_copy_46
    · skip
      have tc_7 : r_6.toInt = 0 := (fa_eq _ _).mp c_7
      refine lv_aload_n hx hb dX9_copy_14 rfl (lv_at hl 0 rfl) ?_
      refine lv_ldc hx hb hown (hts _ (List.mem_of_getElem? (i := 8) rfl)) dX9_copy_15 ?_
      have hPc := hP.sub (ws' := [(h0, .inr (7, [v0, v1, v2, v3, v4, .ref t0, v6, v7, v8, v9, v10, v11, v12, v13, v14, v15, v16, v17, v18, v19, v20, v21, v22, v23, .ref d0, .ref s0, .ref n0, .ref m0])), (t0, .inl (tc, 8, .inl tf))]) [0, 1] rfl
      have hKc := hK.sub (tys' := [(tc, .int)]) [0] rfl
      have hDc := hD.sub (ws' := [(h0, .inr (7, [v0, v1, v2, v3, v4, .ref t0, v6, v7, v8, v9, v10, v11, v12, v13, v14, v15, v16, v17, v18, v19, v20, v21, v22, v23, .ref d0, .ref s0, .ref n0, .ref m0])), (t0, .inl (tc, 8, .inl tf))]) [0, 1] (by decide) rfl
      have hFc := va_free (wc := [(h0, .inr (7, [v0, v1, v2, v3, v4, .ref t0, v6, v7, v8, v9, v10, v11, v12, v13, v14, v15, v16, v17, v18, v19, v20, v21, v22, v23, .ref d0, .ref s0, .ref n0, .ref m0])), (t0, .inl (tc, 8, .inl tf))]) hD hS hA [0, 1] rfl
      refine va_calli (va_runV (As := [.int (-1000000001)]) (rest := []) ⟨hx, hb, hml, hown, hts⟩ (mf_beyond l dC dI ad h0 v0 v1 v2 v3 v4 t0 v6 v7 v8 v9 v10 v11 v12 v13 v14 v15 v16 v17 v18 v19 v20 v21 v22 v23 (.ref d0) (.ref s0) (.ref n0) (.ref m0) tc tf s.heap.size ) (cwV 1 hts g_m_copy_mf_beyond_84 rfl rfl rfl (by decide +kernel) ⟨(Nat.le_of_ble_eq_true rfl), (Nat.le_of_ble_eq_true rfl)⟩) ⟨preM_blind, va_recv hKc hPc (ci := 7) (q0 := 0) rfl rfl, fun U hU hW => ⟨rfl, preM_at hU hW hPc hKc hDc hev⟩⟩ rfl rfl hl.1 rfl (lv_room (Nat.le_of_ble_eq_true rfl)) dX9_copy_17 ⟨(Nat.le_of_ble_eq_true rfl), (Nat.le_of_ble_eq_true rfl)⟩) hS (fun q _ h => hFc q h) hFc (fun r_63 u t H1 locs ht hvm hw hB hz1 hk1 hS => ?_)
      obtain ⟨tg_64, hP1, hK1, hD1⟩ := hB
      rw [ht] at hP1
      have hK1 := va_K.moved hvm.symm hK1
      obtain ⟨hP, hD⟩ := va_join (wr := [(d0, .inl (dc, 4, .inl wf)), (s0, .inl (scx, 4, .inl zf)), (n0, .inl (nc, 160, .inr (.inl uf))), (m0, .inl (mc, 40, .inr (.inl vf)))]) (w1 := [(h0, .inr (7, [v0, v1, v2, v3, v4, .ref t0, v6, v7, v8, v9, v10, v11, v12, v13, v14, v15, v16, v17, v18, v19, v20, v21, v22, v23, .ref d0, .ref s0, .ref n0, .ref m0])), (t0, .inl (tc, 8, .inl tg_64))]) hP hD [0, 1] [2, 3, 4, 5] rfl rfl (by decide) (by decide) hk1 hFc hP1 hD1
      generalize H1 = H at hP hS ⊢
      have hP : va_P (dC, dI) vwCl [(d0, .inl (dc, 4, .inl wf)), (s0, .inl (scx, 4, .inl zf)), (n0, .inl (nc, 160, .inr (.inl uf))), (m0, .inl (mc, 40, .inr (.inl vf))), (h0, .inr (7, [v0, v1, v2, v3, v4, .ref t0, v6, v7, v8, v9, v10, v11, v12, v13, v14, v15, v16, v17, v18, v19, v20, v21, v22, v23, .ref d0, .ref s0, .ref n0, .ref m0])), (t0, .inl (tc, 8, .inl tg_64))] H := hP
      have hD : va_D A [(d0, .inl (dc, 4, .inl wf)), (s0, .inl (scx, 4, .inl zf)), (n0, .inl (nc, 160, .inr (.inl uf))), (m0, .inl (mc, 40, .inr (.inl vf))), (h0, .inr (7, [v0, v1, v2, v3, v4, .ref t0, v6, v7, v8, v9, v10, v11, v12, v13, v14, v15, v16, v17, v18, v19, v20, v21, v22, v23, .ref d0, .ref s0, .ref n0, .ref m0])), (t0, .inl (tc, 8, .inl tg_64))] := hD
      subst hw
      have hP9 := hP.sub (ws' := [(h0, .inr (7, [v0, v1, v2, v3, v4, .ref t0, v6, v7, v8, v9, v10, v11, v12, v13, v14, v15, v16, v17, v18, v19, v20, v21, v22, v23, .ref d0, .ref s0, .ref n0, .ref m0])), (t0, .inl (tc, 8, .inl tg_64)), (d0, .inl (dc, 4, .inl wf)), (s0, .inl (scx, 4, .inl zf)), (n0, .inl (nc, 160, .inr (.inl uf))), (m0, .inl (mc, 40, .inr (.inl vf)))]) [4, 5, 0, 1, 2, 3] rfl
      have hD9 := hD.sub (ws' := [(h0, .inr (7, [v0, v1, v2, v3, v4, .ref t0, v6, v7, v8, v9, v10, v11, v12, v13, v14, v15, v16, v17, v18, v19, v20, v21, v22, v23, .ref d0, .ref s0, .ref n0, .ref m0])), (t0, .inl (tc, 8, .inl tg_64)), (d0, .inl (dc, 4, .inl wf)), (s0, .inl (scx, 4, .inl zf)), (n0, .inl (nc, 160, .inr (.inl uf))), (m0, .inl (mc, 40, .inr (.inl vf)))]) [4, 5, 0, 1, 2, 3] (by decide) rfl
      have hK9 := hK.sub (tys' := [(tc, .int), (dc, .int), (scx, .int), (nc, .long), (mc, .long)]) [0, 1, 2, 3, 4] rfl
      exact W.iret (v := ((-1000000001) : Int32)) hx hb hr (fun t ht hW => ⟨⟨((-1000000001) : Int32), (), rfl, trivial, tg_64, uf, vf, by rw [ht]; exact hP9, va_K.moved hW.alike hK9, hD9⟩, hS.F ht⟩) hS.2.2 dX9_copy_20

