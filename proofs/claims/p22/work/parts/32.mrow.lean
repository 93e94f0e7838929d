theorem dX9_putIn_0 : decode cX9_putIn 0 = .ok (.aload_n 0, 1) := by decide +kernel
theorem dX9_putIn_1 : decode cX9_putIn 1 = .ok (.getfield 9, 3) := by decide +kernel
theorem dX9_putIn_4 : decode cX9_putIn 4 = .ok (.iload_n 1, 1) := by decide +kernel
theorem dX9_putIn_5 : decode cX9_putIn 5 = .ok (.iaload, 1) := by decide +kernel
theorem dX9_putIn_6 : decode cX9_putIn 6 = .ok (.istore_n 3, 1) := by decide +kernel
theorem dX9_putIn_7 : decode cX9_putIn 7 = .ok (.aload_n 0, 1) := by decide +kernel
theorem dX9_putIn_8 : decode cX9_putIn 8 = .ok (.getfield 9, 3) := by decide +kernel
theorem dX9_putIn_11 : decode cX9_putIn 11 = .ok (.iload_n 1, 1) := by decide +kernel
theorem dX9_putIn_12 : decode cX9_putIn 12 = .ok (.iload_n 2, 1) := by decide +kernel
theorem dX9_putIn_13 : decode cX9_putIn 13 = .ok (.iastore, 1) := by decide +kernel
theorem dX9_putIn_14 : decode cX9_putIn 14 = .ok (.iload_n 3, 1) := by decide +kernel
theorem dX9_putIn_15 : decode cX9_putIn 15 = .ok (.ireturn, 1) := by decide +kernel
theorem dX9_isShape_0 : decode cX9_isShape 0 = .ok (.iload_n 1, 1) := by decide +kernel
theorem dX9_isShape_1 : decode cX9_isShape 1 = .ok (.iconst 0, 1) := by decide +kernel
theorem dX9_isShape_2 : decode cX9_isShape 2 = .ok (.aload_n 0, 1) := by decide +kernel
theorem dX9_isShape_3 : decode cX9_isShape 3 = .ok (.getfield 9, 3) := by decide +kernel
theorem dX9_isShape_6 : decode cX9_isShape 6 = .ok (.iconst 0, 1) := by decide +kernel
theorem dX9_isShape_7 : decode cX9_isShape 7 = .ok (.iaload, 1) := by decide +kernel
theorem dX9_isShape_8 : decode cX9_isShape 8 = .ok (.iconst 1, 1) := by decide +kernel
theorem dX9_isShape_9 : decode cX9_isShape 9 = .ok (.isub, 1) := by decide +kernel
theorem dX9_isShape_10 : decode cX9_isShape 10 = .ok (.invokestatic 75, 3) := by decide +kernel
theorem dX9_isShape_13 : decode cX9_isShape 13 = .ok (.ireturn, 1) := by decide +kernel
theorem dX9_shapeIs_0 : decode cX9_shapeIs 0 = .ok (.aload_n 0, 1) := by decide +kernel
theorem dX9_shapeIs_1 : decode cX9_shapeIs 1 = .ok (.getfield 9, 3) := by decide +kernel
theorem dX9_shapeIs_4 : decode cX9_shapeIs 4 = .ok (.iconst 3, 1) := by decide +kernel
theorem dX9_shapeIs_5 : decode cX9_shapeIs 5 = .ok (.iconst 3, 1) := by decide +kernel
theorem dX9_shapeIs_6 : decode cX9_shapeIs 6 = .ok (.iload_n 1, 1) := by decide +kernel
theorem dX9_shapeIs_7 : decode cX9_shapeIs 7 = .ok (.imul, 1) := by decide +kernel
theorem dX9_shapeIs_8 : decode cX9_shapeIs 8 = .ok (.iadd, 1) := by decide +kernel
theorem dX9_shapeIs_9 : decode cX9_shapeIs 9 = .ok (.iload_n 2, 1) := by decide +kernel
theorem dX9_shapeIs_10 : decode cX9_shapeIs 10 = .ok (.iadd, 1) := by decide +kernel
theorem dX9_shapeIs_11 : decode cX9_shapeIs 11 = .ok (.iaload, 1) := by decide +kernel
theorem dX9_shapeIs_12 : decode cX9_shapeIs 12 = .ok (.ireturn, 1) := by decide +kernel
theorem dX9_made_0 : decode cX9_made 0 = .ok (.aload_n 0, 1) := by decide +kernel
theorem dX9_made_1 : decode cX9_made 1 = .ok (.getfield 9, 3) := by decide +kernel
theorem dX9_made_4 : decode cX9_made 4 = .ok (.iconst 0, 1) := by decide +kernel
theorem dX9_made_5 : decode cX9_made 5 = .ok (.iaload, 1) := by decide +kernel
theorem dX9_made_6 : decode cX9_made 6 = .ok (.istore_n 3, 1) := by decide +kernel
theorem dX9_made_7 : decode cX9_made 7 = .ok (.iconst 3, 1) := by decide +kernel
theorem dX9_made_8 : decode cX9_made 8 = .ok (.iconst 3, 1) := by decide +kernel
theorem dX9_made_9 : decode cX9_made 9 = .ok (.iload_n 3, 1) := by decide +kernel
theorem dX9_made_10 : decode cX9_made 10 = .ok (.imul, 1) := by decide +kernel
theorem dX9_made_11 : decode cX9_made 11 = .ok (.iadd, 1) := by decide +kernel
theorem dX9_made_12 : decode cX9_made 12 = .ok (.istore 4, 2) := by decide +kernel
theorem dX9_made_14 : decode cX9_made 14 = .ok (.aload_n 0, 1) := by decide +kernel
theorem dX9_made_15 : decode cX9_made 15 = .ok (.getfield 9, 3) := by decide +kernel
theorem dX9_made_18 : decode cX9_made 18 = .ok (.iload 4, 2) := by decide +kernel
theorem dX9_made_20 : decode cX9_made 20 = .ok (.iconst 0, 1) := by decide +kernel
theorem dX9_made_21 : decode cX9_made 21 = .ok (.iadd, 1) := by decide +kernel
theorem dX9_made_22 : decode cX9_made 22 = .ok (.iload_n 1, 1) := by decide +kernel
theorem dX9_made_23 : decode cX9_made 23 = .ok (.iastore, 1) := by decide +kernel
theorem dX9_made_24 : decode cX9_made 24 = .ok (.aload_n 0, 1) := by decide +kernel
theorem dX9_made_25 : decode cX9_made 25 = .ok (.getfield 9, 3) := by decide +kernel
theorem dX9_made_28 : decode cX9_made 28 = .ok (.iload 4, 2) := by decide +kernel
theorem dX9_made_30 : decode cX9_made 30 = .ok (.iconst 1, 1) := by decide +kernel
theorem dX9_made_31 : decode cX9_made 31 = .ok (.iadd, 1) := by decide +kernel
theorem dX9_made_32 : decode cX9_made 32 = .ok (.iload_n 2, 1) := by decide +kernel
theorem dX9_made_33 : decode cX9_made 33 = .ok (.iastore, 1) := by decide +kernel
theorem dX9_made_34 : decode cX9_made 34 = .ok (.aload_n 0, 1) := by decide +kernel
theorem dX9_made_35 : decode cX9_made 35 = .ok (.getfield 9, 3) := by decide +kernel
theorem dX9_made_38 : decode cX9_made 38 = .ok (.iload 4, 2) := by decide +kernel
theorem dX9_made_40 : decode cX9_made 40 = .ok (.iconst 2, 1) := by decide +kernel
theorem dX9_made_41 : decode cX9_made 41 = .ok (.iadd, 1) := by decide +kernel
theorem dX9_made_42 : decode cX9_made 42 = .ok (.iconst 0, 1) := by decide +kernel
theorem dX9_made_43 : decode cX9_made 43 = .ok (.iastore, 1) := by decide +kernel
theorem dX9_made_44 : decode cX9_made 44 = .ok (.aload_n 0, 1) := by decide +kernel
theorem dX9_made_45 : decode cX9_made 45 = .ok (.getfield 9, 3) := by decide +kernel
theorem dX9_made_48 : decode cX9_made 48 = .ok (.iconst 0, 1) := by decide +kernel
theorem dX9_made_49 : decode cX9_made 49 = .ok (.dup2, 1) := by decide +kernel
theorem dX9_made_50 : decode cX9_made 50 = .ok (.iaload, 1) := by decide +kernel
theorem dX9_made_51 : decode cX9_made 51 = .ok (.iconst 1, 1) := by decide +kernel
theorem dX9_made_52 : decode cX9_made 52 = .ok (.iadd, 1) := by decide +kernel
theorem dX9_made_53 : decode cX9_made 53 = .ok (.iastore, 1) := by decide +kernel
theorem dX9_made_54 : decode cX9_made 54 = .ok (.iload_n 3, 1) := by decide +kernel
theorem dX9_made_55 : decode cX9_made 55 = .ok (.ireturn, 1) := by decide +kernel
theorem dX9_holdOf_0 : decode cX9_holdOf 0 = .ok (.iconst (-1), 1) := by decide +kernel
theorem dX9_holdOf_1 : decode cX9_holdOf 1 = .ok (.istore_n 2, 1) := by decide +kernel
theorem dX9_holdOf_2 : decode cX9_holdOf 2 = .ok (.iconst 0, 1) := by decide +kernel
theorem dX9_holdOf_3 : decode cX9_holdOf 3 = .ok (.istore_n 3, 1) := by decide +kernel
theorem dX9_holdOf_4 : decode cX9_holdOf 4 = .ok (.iload_n 3, 1) := by decide +kernel
theorem dX9_holdOf_5 : decode cX9_holdOf 5 = .ok (.iconst 4, 1) := by decide +kernel
theorem dX9_holdOf_6 : decode cX9_holdOf 6 = .ok (.if_icmp .ge 28, 3) := by decide +kernel
theorem dX9_holdOf_9 : decode cX9_holdOf 9 = .ok (.aload_n 0, 1) := by decide +kernel
theorem dX9_holdOf_10 : decode cX9_holdOf 10 = .ok (.getfield 9, 3) := by decide +kernel
theorem dX9_holdOf_13 : decode cX9_holdOf 13 = .ok (.bipush 30, 2) := by decide +kernel
theorem dX9_holdOf_15 : decode cX9_holdOf 15 = .ok (.iload_n 3, 1) := by decide +kernel
theorem dX9_holdOf_16 : decode cX9_holdOf 16 = .ok (.iadd, 1) := by decide +kernel
theorem dX9_holdOf_17 : decode cX9_holdOf 17 = .ok (.iaload, 1) := by decide +kernel
theorem dX9_holdOf_18 : decode cX9_holdOf 18 = .ok (.iload_n 1, 1) := by decide +kernel
theorem dX9_holdOf_19 : decode cX9_holdOf 19 = .ok (.if_icmp .ne 7, 3) := by decide +kernel
theorem dX9_holdOf_22 : decode cX9_holdOf 22 = .ok (.iload_n 3, 1) := by decide +kernel
theorem dX9_holdOf_23 : decode cX9_holdOf 23 = .ok (.goto 4, 3) := by decide +kernel
theorem dX9_holdOf_26 : decode cX9_holdOf 26 = .ok (.iload_n 2, 1) := by decide +kernel
theorem dX9_holdOf_27 : decode cX9_holdOf 27 = .ok (.istore_n 2, 1) := by decide +kernel
theorem dX9_holdOf_28 : decode cX9_holdOf 28 = .ok (.iinc 3 1, 3) := by decide +kernel
theorem dX9_holdOf_31 : decode cX9_holdOf 31 = .ok (.goto (-27), 3) := by decide +kernel
theorem dX9_holdOf_34 : decode cX9_holdOf 34 = .ok (.iload_n 2, 1) := by decide +kernel
theorem dX9_holdOf_35 : decode cX9_holdOf 35 = .ok (.ireturn, 1) := by decide +kernel
theorem dX9_dropAll_0 : decode cX9_dropAll 0 = .ok (.iconst 0, 1) := by decide +kernel
theorem dX9_dropAll_1 : decode cX9_dropAll 1 = .ok (.istore_n 1, 1) := by decide +kernel
theorem dX9_dropAll_2 : decode cX9_dropAll 2 = .ok (.iload_n 1, 1) := by decide +kernel
theorem dX9_dropAll_3 : decode cX9_dropAll 3 = .ok (.iconst 4, 1) := by decide +kernel
theorem dX9_dropAll_4 : decode cX9_dropAll 4 = .ok (.if_icmp .ge 29, 3) := by decide +kernel
theorem dX9_dropAll_7 : decode cX9_dropAll 7 = .ok (.aload_n 0, 1) := by decide +kernel
theorem dX9_dropAll_8 : decode cX9_dropAll 8 = .ok (.getfield 9, 3) := by decide +kernel
theorem dX9_dropAll_11 : decode cX9_dropAll 11 = .ok (.bipush 30, 2) := by decide +kernel
theorem dX9_dropAll_13 : decode cX9_dropAll 13 = .ok (.iload_n 1, 1) := by decide +kernel
theorem dX9_dropAll_14 : decode cX9_dropAll 14 = .ok (.iadd, 1) := by decide +kernel
theorem dX9_dropAll_15 : decode cX9_dropAll 15 = .ok (.iconst (-1), 1) := by decide +kernel
theorem dX9_dropAll_16 : decode cX9_dropAll 16 = .ok (.iastore, 1) := by decide +kernel
theorem dX9_dropAll_17 : decode cX9_dropAll 17 = .ok (.aload_n 0, 1) := by decide +kernel
theorem dX9_dropAll_18 : decode cX9_dropAll 18 = .ok (.getfield 9, 3) := by decide +kernel
theorem dX9_dropAll_21 : decode cX9_dropAll 21 = .ok (.bipush 34, 2) := by decide +kernel
theorem dX9_dropAll_23 : decode cX9_dropAll 23 = .ok (.iload_n 1, 1) := by decide +kernel
theorem dX9_dropAll_24 : decode cX9_dropAll 24 = .ok (.iadd, 1) := by decide +kernel
theorem dX9_dropAll_25 : decode cX9_dropAll 25 = .ok (.iconst (-1), 1) := by decide +kernel
theorem dX9_dropAll_26 : decode cX9_dropAll 26 = .ok (.iastore, 1) := by decide +kernel
theorem dX9_dropAll_27 : decode cX9_dropAll 27 = .ok (.iinc 1 1, 3) := by decide +kernel
theorem dX9_dropAll_30 : decode cX9_dropAll 30 = .ok (.goto (-28), 3) := by decide +kernel
theorem dX9_dropAll_33 : decode cX9_dropAll 33 = .ok (.return_, 1) := by decide +kernel
theorem dX9_holds_0 : decode cX9_holds 0 = .ok (.aload_n 0, 1) := by decide +kernel
theorem dX9_holds_1 : decode cX9_holds 1 = .ok (.iconst (-1), 1) := by decide +kernel
theorem dX9_holds_2 : decode cX9_holds 2 = .ok (.invokevirtual 96, 3) := by decide +kernel
theorem dX9_holds_5 : decode cX9_holds 5 = .ok (.istore_n 3, 1) := by decide +kernel
theorem dX9_holds_6 : decode cX9_holds 6 = .ok (.iconst 3, 1) := by decide +kernel
theorem dX9_holds_7 : decode cX9_holds 7 = .ok (.istore 4, 2) := by decide +kernel
theorem dX9_holds_9 : decode cX9_holds 9 = .ok (.iload 4, 2) := by decide +kernel
theorem dX9_holds_11 : decode cX9_holds 11 = .ok (.ifCond .lt 29, 3) := by decide +kernel
theorem dX9_holds_14 : decode cX9_holds 14 = .ok (.aload_n 0, 1) := by decide +kernel
theorem dX9_holds_15 : decode cX9_holds 15 = .ok (.getfield 9, 3) := by decide +kernel
theorem dX9_holds_18 : decode cX9_holds 18 = .ok (.bipush 30, 2) := by decide +kernel
theorem dX9_holds_20 : decode cX9_holds 20 = .ok (.iload 4, 2) := by decide +kernel
theorem dX9_holds_22 : decode cX9_holds 22 = .ok (.iadd, 1) := by decide +kernel
theorem dX9_holds_23 : decode cX9_holds 23 = .ok (.iaload, 1) := by decide +kernel
theorem dX9_holds_24 : decode cX9_holds 24 = .ok (.ifCond .ge 8, 3) := by decide +kernel
theorem dX9_holds_27 : decode cX9_holds 27 = .ok (.iload 4, 2) := by decide +kernel
theorem dX9_holds_29 : decode cX9_holds 29 = .ok (.goto 4, 3) := by decide +kernel
theorem dX9_holds_32 : decode cX9_holds 32 = .ok (.iload_n 3, 1) := by decide +kernel
theorem dX9_holds_33 : decode cX9_holds 33 = .ok (.istore_n 3, 1) := by decide +kernel
theorem dX9_holds_34 : decode cX9_holds 34 = .ok (.iinc 4 (-1), 3) := by decide +kernel
theorem dX9_holds_37 : decode cX9_holds 37 = .ok (.goto (-28), 3) := by decide +kernel
theorem dX9_holds_40 : decode cX9_holds 40 = .ok (.aload_n 0, 1) := by decide +kernel
theorem dX9_holds_41 : decode cX9_holds 41 = .ok (.getfield 9, 3) := by decide +kernel
theorem dX9_holds_44 : decode cX9_holds 44 = .ok (.bipush 30, 2) := by decide +kernel
theorem dX9_holds_46 : decode cX9_holds 46 = .ok (.iload_n 3, 1) := by decide +kernel
theorem dX9_holds_47 : decode cX9_holds 47 = .ok (.iadd, 1) := by decide +kernel
theorem dX9_holds_48 : decode cX9_holds 48 = .ok (.iload_n 1, 1) := by decide +kernel
theorem dX9_holds_49 : decode cX9_holds 49 = .ok (.iastore, 1) := by decide +kernel
theorem dX9_holds_50 : decode cX9_holds 50 = .ok (.aload_n 0, 1) := by decide +kernel
theorem dX9_holds_51 : decode cX9_holds 51 = .ok (.getfield 9, 3) := by decide +kernel
theorem dX9_holds_54 : decode cX9_holds 54 = .ok (.bipush 34, 2) := by decide +kernel
theorem dX9_holds_56 : decode cX9_holds 56 = .ok (.iload_n 3, 1) := by decide +kernel
theorem dX9_holds_57 : decode cX9_holds 57 = .ok (.iadd, 1) := by decide +kernel
theorem dX9_holds_58 : decode cX9_holds 58 = .ok (.iload_n 2, 1) := by decide +kernel
theorem dX9_holds_59 : decode cX9_holds 59 = .ok (.iastore, 1) := by decide +kernel
theorem dX9_holds_60 : decode cX9_holds 60 = .ok (.iload_n 3, 1) := by decide +kernel
theorem dX9_holds_61 : decode cX9_holds 61 = .ok (.ireturn, 1) := by decide +kernel
theorem dX9_isScene_0 : decode cX9_isScene 0 = .ok (.iload_n 1, 1) := by decide +kernel
theorem dX9_isScene_1 : decode cX9_isScene 1 = .ok (.iconst 0, 1) := by decide +kernel
theorem dX9_isScene_2 : decode cX9_isScene 2 = .ok (.aload_n 0, 1) := by decide +kernel
theorem dX9_isScene_3 : decode cX9_isScene 3 = .ok (.getfield 9, 3) := by decide +kernel
theorem dX9_isScene_6 : decode cX9_isScene 6 = .ok (.iconst 1, 1) := by decide +kernel
theorem dX9_isScene_7 : decode cX9_isScene 7 = .ok (.iaload, 1) := by decide +kernel
theorem dX9_isScene_8 : decode cX9_isScene 8 = .ok (.iconst 1, 1) := by decide +kernel
theorem dX9_isScene_9 : decode cX9_isScene 9 = .ok (.isub, 1) := by decide +kernel
theorem dX9_isScene_10 : decode cX9_isScene 10 = .ok (.invokestatic 75, 3) := by decide +kernel
theorem dX9_isScene_13 : decode cX9_isScene 13 = .ok (.ireturn, 1) := by decide +kernel
def w_m_putIn : List Cond := .code yX9_putIn cX9_putIn 4 (some .int) :: (([.fieldLink RX9 9 "LampShapesModel" "now" "[I"] : List Cond) ++ wsX90)
set_option maxHeartbeats 4000000 in
set_option maxRecDepth 100000 in
theorem m_putIn (l : Launch) (dC : Nat → ClassId) (dI : Nat → Nat → Nat) (ad : Nat → Nat) (h0 : Nat) (k : Int32) (v : Int32) (a0 : Nat) (v1 : Value) (v2 : Value) (v3 : Value) (v4 : Value) (v5 : Value) (v6 : Value) (v7 : Value) (v8 : Value) (v9 : Value) (v10 : Value) (v11 : Value) (v12 : Value) (v13 : Value) (v14 : Value) (v15 : Value) (v16 : Value) (v17 : Value) (v18 : Value) (v19 : Value) (v20 : Value) (v21 : Value) (v22 : Value) (v23 : Value) (v24 : Value) (v25 : Value) (v26 : Value) (v27 : Value) (ac : ClassId) (nf : Nat → Int32) (sz : Nat) (hI : mI nf) (hk : 3 ≤ k.toInt ∧ k.toInt ≤ 37 ∧ ¬ (30 ≤ k.toInt ∧ k.toInt ≤ 33)) : Met l yX9_putIn w_m_putIn ({ frames := 0, cells := 0, slots := 0, locals := 0 } : Room) (va_Pc [.ref h0, .int k, .int v] (preM dC dI ad [(ac, .int)] [(h0, .inr (7, [.ref a0, v1, v2, v3, v4, v5, v6, v7, v8, v9, v10, v11, v12, v13, v14, v15, v16, v17, v18, v19, v20, v21, v22, v23, v24, v25, v26, v27])), (a0, .inl (ac, 38, .inl nf))] sz)) (va_Qi (fun (r : Int32) (_ : Unit) => True) (fun _ t => ∃ (ng : Nat → Int32), (mI ng) ∧ ((ng 0).toInt = (nf 0).toInt ∧ (ng 1).toInt = (nf 1).toInt ∧ (ng 2).toInt = (nf 2).toInt ∧ (ng 30).toInt = (nf 30).toInt ∧ (ng 31).toInt = (nf 31).toInt ∧ (ng 32).toInt = (nf 32).toInt ∧ (ng 33).toInt = (nf 33).toInt) ∧ va_P (dC, dI) vwCl [(h0, .inr (7, [.ref a0, v1, v2, v3, v4, v5, v6, v7, v8, v9, v10, v11, v12, v13, v14, v15, v16, v17, v18, v19, v20, v21, v22, v23, v24, v25, v26, v27])), (a0, .inl (ac, 38, .inl ng))] t.heap ∧ va_K (dC, dI) vwCl [(ac, .int)] t ∧ va_D (va_A [(h0, .inr (7, [.ref a0, v1, v2, v3, v4, v5, v6, v7, v8, v9, v10, v11, v12, v13, v14, v15, v16, v17, v18, v19, v20, v21, v22, v23, v24, v25, v26, v27])), (a0, .inl (ac, 38, .inl nf))] sz) [(h0, .inr (7, [.ref a0, v1, v2, v3, v4, v5, v6, v7, v8, v9, v10, v11, v12, v13, v14, v15, v16, v17, v18, v19, v20, v21, v22, v23, v24, v25, v26, v27])), (a0, .inl (ac, 38, .inl ng))]) (va_A [(h0, .inr (7, [.ref a0, v1, v2, v3, v4, v5, v6, v7, v8, v9, v10, v11, v12, v13, v14, v15, v16, v17, v18, v19, v20, v21, v22, v23, v24, v25, v26, v27])), (a0, .inl (ac, 38, .inl nf))] sz)) 0 0 (va_A [(h0, .inr (7, [.ref a0, v1, v2, v3, v4, v5, v6, v7, v8, v9, v10, v11, v12, v13, v14, v15, v16, v17, v18, v19, v20, v21, v22, v23, v24, v25, v26, v27])), (a0, .inl (ac, 38, .inl nf))] sz) := by
  refine Met.ofW (cc := cX9_putIn) (maxL := 4) (ret := (some .int)) (by decide) rfl ?_
  intro p e s m args below meth c s₁ B hml hv
  obtain ⟨rfl, hsz, hP, hK, hD0, hev⟩ := hv
  have hx := B.exec
  have hb := B.bytes
  have hr := B.returns
  have hts := atoms_spec (ws := w_m_putIn) B.pre
  have hown : s.vm.findClass RX9 = some m.cls := findClass_of_methodNamed B.named
  have hlocks := B.notSynchronized
  have inX9 : ∀ w ∈ wsX90, w ∈ w_m_putIn := fun w h => List.mem_cons_of_mem _ (List.mem_append_right _ h)
  subst hsz
  have hD := hD0.self (sz := s.heap.size)
  generalize hAe : va_A [(h0, .inr (7, [.ref a0, v1, v2, v3, v4, v5, v6, v7, v8, v9, v10, v11, v12, v13, v14, v15, v16, v17, v18, v19, v20, v21, v22, v23, v24, v25, v26, v27])), (a0, .inl (ac, 38, .inl nf))] s.heap.size = A at hD ⊢
  have hA : ∀ q : Nat, s.heap.size ≤ q → A q := fun q h => by rw [← hAe]; exact Or.inr h
  have hS : va_S A s.heap s.heap [] := va_S.rf
  have hP : va_P (dC, dI) vwCl [(h0, .inr (7, [.ref a0, v1, v2, v3, v4, v5, v6, v7, v8, v9, v10, v11, v12, v13, v14, v15, v16, v17, v18, v19, v20, v21, v22, v23, v24, v25, v26, v27])), (a0, .inl (ac, 38, .inl nf))] s.heap := hP
  have hl := lv_entry ([.ref h0, .int k, .int v]) (n := 4) (Nat.le_of_ble_eq_true rfl)
  rw [lg_entry_eq]
  generalize (lg_sl ([.ref h0, .int k, .int v]) ++ List.replicate (4 - (lg_sl ([.ref h0, .int k, .int v])).length) Slot.unset).toArray = ls at hl ⊢
  have hl : lv_has ls 4 [(0, .ref h0), (1, .int k), (2, .int v)] := hl
  refine lv_aload_n hx hb dX9_putIn_0 rfl (lv_at hl 0 rfl) ?_
  refine va_get (D := (dC, dI)) (ci := 7) (v := .ref a0) (C := RX9) (T := TX9) (N := 28) hx hb hts inX9 hown hK hP 0 rfl rfl 0 (by decide) (hts _ (List.mem_of_getElem? (i := 1) rfl)) (fun _ h9 => h9) rfl dX9_putIn_1 ?_
  refine lv_iload_n hx hb dX9_putIn_4 rfl (lv_at hl 1 rfl) ?_
  refine va_iald hx hb hK hP 1 0 rfl rfl (vp_in_iff.mpr ⟨by omega, by omega⟩) dX9_putIn_5 ?_
  refine lv_topi (fun n_1 en_1 => ?_)
  clear en_1
  refine lv_istore_n (lv' := [(3, .int n_1), (0, .ref h0), (1, .int k), (2, .int v)]) hx hb dX9_putIn_6 rfl hl (by decide) rfl (fun ls hl => ?_)
  refine lv_aload_n hx hb dX9_putIn_7 rfl (lv_at hl 1 rfl) ?_
  refine va_get (D := (dC, dI)) (ci := 7) (v := .ref a0) (C := RX9) (T := TX9) (N := 28) hx hb hts inX9 hown hK hP 0 rfl rfl 0 (by decide) (hts _ (List.mem_of_getElem? (i := 1) rfl)) (fun _ h9 => h9) rfl dX9_putIn_8 ?_
  refine lv_iload_n hx hb dX9_putIn_11 rfl (lv_at hl 2 rfl) ?_
  refine lv_iload_n hx hb dX9_putIn_12 rfl (lv_at hl 3 rfl) ?_
  refine va_iast hx hb hK hP hD hS 1 0 rfl rfl (vp_in_iff.mpr ⟨by omega, by omega⟩) dX9_putIn_13 (fun H locs hP hD hS => ?_)
  have hP : va_P (dC, dI) vwCl [(h0, .inr (7, [.ref a0, v1, v2, v3, v4, v5, v6, v7, v8, v9, v10, v11, v12, v13, v14, v15, v16, v17, v18, v19, v20, v21, v22, v23, v24, v25, v26, v27])), (a0, .inl (ac, 38, .inl (upd nf k.toNatClampNeg v)))] H := hP
  have hD : va_D A [(h0, .inr (7, [.ref a0, v1, v2, v3, v4, v5, v6, v7, v8, v9, v10, v11, v12, v13, v14, v15, v16, v17, v18, v19, v20, v21, v22, v23, v24, v25, v26, v27])), (a0, .inl (ac, 38, .inl (upd nf k.toNatClampNeg v)))] := hD
  have q_3 : ((upd nf k.toNatClampNeg v) 0).toInt = (nf 0).toInt := pp_up_ne (by omega) (by omega)
  have q_4 : ((upd nf k.toNatClampNeg v) 1).toInt = (nf 1).toInt := pp_up_ne (by omega) (by omega)
  have q_5 : ((upd nf k.toNatClampNeg v) 2).toInt = (nf 2).toInt := pp_up_ne (by omega) (by omega)
  have q_6 : (k.toInt = 30 → ((upd nf k.toNatClampNeg v) 30).toInt = v.toInt) ∧ (¬ k.toInt = 30 → ((upd nf k.toNatClampNeg v) 30).toInt = (nf 30).toInt) := pp_up_or (by omega) rfl
  have q_7 : (k.toInt = 31 → ((upd nf k.toNatClampNeg v) 31).toInt = v.toInt) ∧ (¬ k.toInt = 31 → ((upd nf k.toNatClampNeg v) 31).toInt = (nf 31).toInt) := pp_up_or (by omega) rfl
  have q_8 : (k.toInt = 32 → ((upd nf k.toNatClampNeg v) 32).toInt = v.toInt) ∧ (¬ k.toInt = 32 → ((upd nf k.toNatClampNeg v) 32).toInt = (nf 32).toInt) := pp_up_or (by omega) rfl
  have q_9 : (k.toInt = 33 → ((upd nf k.toNatClampNeg v) 33).toInt = v.toInt) ∧ (¬ k.toInt = 33 → ((upd nf k.toNatClampNeg v) 33).toInt = (nf 33).toInt) := pp_up_or (by omega) rfl
  have hI_10 : mI (upd nf k.toNatClampNeg v) := mI_01 hI (by have := mI_b hI; omega) (by have := mI_b hI; omega) (by omega) (by omega) (by omega) (by omega)
  generalize upd nf k.toNatClampNeg v = f_2 at hP hD q_3 q_4 q_5 q_6 q_7 q_8 q_9 hI_10
  have hP : va_P (dC, dI) vwCl [(h0, .inr (7, [.ref a0, v1, v2, v3, v4, v5, v6, v7, v8, v9, v10, v11, v12, v13, v14, v15, v16, v17, v18, v19, v20, v21, v22, v23, v24, v25, v26, v27])), (a0, .inl (ac, 38, .inl f_2))] H := hP
  have hD : va_D A [(h0, .inr (7, [.ref a0, v1, v2, v3, v4, v5, v6, v7, v8, v9, v10, v11, v12, v13, v14, v15, v16, v17, v18, v19, v20, v21, v22, v23, v24, v25, v26, v27])), (a0, .inl (ac, 38, .inl f_2))] := hD
  refine lv_iload_n hx hb dX9_putIn_14 rfl (lv_at hl 0 rfl) ?_
  have hP9 := hP.sub (ws' := [(h0, .inr (7, [.ref a0, v1, v2, v3, v4, v5, v6, v7, v8, v9, v10, v11, v12, v13, v14, v15, v16, v17, v18, v19, v20, v21, v22, v23, v24, v25, v26, v27])), (a0, .inl (ac, 38, .inl f_2))]) [0, 1] rfl
  have hD9 := hD.sub (ws' := [(h0, .inr (7, [.ref a0, v1, v2, v3, v4, v5, v6, v7, v8, v9, v10, v11, v12, v13, v14, v15, v16, v17, v18, v19, v20, v21, v22, v23, v24, v25, v26, v27])), (a0, .inl (ac, 38, .inl f_2))]) [0, 1] (by decide) rfl
  have hK9 := hK.sub (tys' := [(ac, .int)]) [0] rfl
  exact W.iret (v := n_1) hx hb hr (fun t ht hW => ⟨⟨n_1, (), rfl, trivial, f_2, hI_10, (by first | omega | decide | (simp only [fa_lt, fa_le, fa_eq, and_true, true_and, and_false, false_and, not_true_eq_false, not_false_eq_true, li_0, li_1, li_2, li_3, li_4, li_5, li_6, li_7, li_8, li_9, li_10, li_12, li_15, li_16, li_20, li_30, li_34, li_38, li_40, li_63, li_64, li_65, li_78, li_120, li_1000, li_4000, li_10000, li_11077, li_255, li_65535, li_m1, li_m2, li_m1000000001, li_m1000000002, li_m1000000003, li_m1000000004, li_m1000000005, li_m1000000006, li_m1000000007, or_true, true_or, or_false, false_or, implies_true, true_implies, false_implies] <;> omega)), by rw [ht]; exact hP9, va_K.moved hW.alike hK9, hD9⟩, hS.F ht⟩) hS.2.2 dX9_putIn_15

def w_m_putIn2 : List Cond := .code yX9_putIn cX9_putIn 4 (some .int) :: (([.fieldLink RX9 9 "LampShapesModel" "now" "[I"] : List Cond) ++ wsX90)
set_option maxHeartbeats 4000000 in
set_option maxRecDepth 100000 in
theorem m_putIn2 (l : Launch) (dC : Nat → ClassId) (dI : Nat → Nat → Nat) (ad : Nat → Nat) (h0 : Nat) (v : Int32) (a0 : Nat) (v1 : Value) (v2 : Value) (v3 : Value) (v4 : Value) (v5 : Value) (v6 : Value) (v7 : Value) (v8 : Value) (v9 : Value) (v10 : Value) (v11 : Value) (v12 : Value) (v13 : Value) (v14 : Value) (v15 : Value) (v16 : Value) (v17 : Value) (v18 : Value) (v19 : Value) (v20 : Value) (v21 : Value) (v22 : Value) (v23 : Value) (v24 : Value) (v25 : Value) (v26 : Value) (v27 : Value) (ac : ClassId) (nf : Nat → Int32) (sz : Nat) (hI : mI nf) : Met l yX9_putIn w_m_putIn2 ({ frames := 0, cells := 0, slots := 0, locals := 0 } : Room) (va_Pc [.ref h0, .int 2, .int v] (preM dC dI ad [(ac, .int)] [(h0, .inr (7, [.ref a0, v1, v2, v3, v4, v5, v6, v7, v8, v9, v10, v11, v12, v13, v14, v15, v16, v17, v18, v19, v20, v21, v22, v23, v24, v25, v26, v27])), (a0, .inl (ac, 38, .inl nf))] sz)) (va_Qi (fun (r : Int32) (_ : Unit) => r.toInt = (nf 2).toInt) (fun _ t => ∃ (ng : Nat → Int32), (mI ng) ∧ ((ng 0).toInt = (nf 0).toInt ∧ (ng 1).toInt = (nf 1).toInt ∧ (ng 30).toInt = (nf 30).toInt ∧ (ng 31).toInt = (nf 31).toInt ∧ (ng 32).toInt = (nf 32).toInt ∧ (ng 33).toInt = (nf 33).toInt) ∧ ((ng 2).toInt = v.toInt) ∧ va_P (dC, dI) vwCl [(h0, .inr (7, [.ref a0, v1, v2, v3, v4, v5, v6, v7, v8, v9, v10, v11, v12, v13, v14, v15, v16, v17, v18, v19, v20, v21, v22, v23, v24, v25, v26, v27])), (a0, .inl (ac, 38, .inl ng))] t.heap ∧ va_K (dC, dI) vwCl [(ac, .int)] t ∧ va_D (va_A [(h0, .inr (7, [.ref a0, v1, v2, v3, v4, v5, v6, v7, v8, v9, v10, v11, v12, v13, v14, v15, v16, v17, v18, v19, v20, v21, v22, v23, v24, v25, v26, v27])), (a0, .inl (ac, 38, .inl nf))] sz) [(h0, .inr (7, [.ref a0, v1, v2, v3, v4, v5, v6, v7, v8, v9, v10, v11, v12, v13, v14, v15, v16, v17, v18, v19, v20, v21, v22, v23, v24, v25, v26, v27])), (a0, .inl (ac, 38, .inl ng))]) (va_A [(h0, .inr (7, [.ref a0, v1, v2, v3, v4, v5, v6, v7, v8, v9, v10, v11, v12, v13, v14, v15, v16, v17, v18, v19, v20, v21, v22, v23, v24, v25, v26, v27])), (a0, .inl (ac, 38, .inl nf))] sz)) 0 0 (va_A [(h0, .inr (7, [.ref a0, v1, v2, v3, v4, v5, v6, v7, v8, v9, v10, v11, v12, v13, v14, v15, v16, v17, v18, v19, v20, v21, v22, v23, v24, v25, v26, v27])), (a0, .inl (ac, 38, .inl nf))] sz) := by
  refine Met.ofW (cc := cX9_putIn) (maxL := 4) (ret := (some .int)) (by decide) rfl ?_
  intro p e s m args below meth c s₁ B hml hv
  obtain ⟨rfl, hsz, hP, hK, hD0, hev⟩ := hv
  have hx := B.exec
  have hb := B.bytes
  have hr := B.returns
  have hts := atoms_spec (ws := w_m_putIn2) B.pre
  have hown : s.vm.findClass RX9 = some m.cls := findClass_of_methodNamed B.named
  have hlocks := B.notSynchronized
  have inX9 : ∀ w ∈ wsX90, w ∈ w_m_putIn2 := fun w h => List.mem_cons_of_mem _ (List.mem_append_right _ h)
  subst hsz
  have hD := hD0.self (sz := s.heap.size)
  generalize hAe : va_A [(h0, .inr (7, [.ref a0, v1, v2, v3, v4, v5, v6, v7, v8, v9, v10, v11, v12, v13, v14, v15, v16, v17, v18, v19, v20, v21, v22, v23, v24, v25, v26, v27])), (a0, .inl (ac, 38, .inl nf))] s.heap.size = A at hD ⊢
  have hA : ∀ q : Nat, s.heap.size ≤ q → A q := fun q h => by rw [← hAe]; exact Or.inr h
  have hS : va_S A s.heap s.heap [] := va_S.rf
  have hP : va_P (dC, dI) vwCl [(h0, .inr (7, [.ref a0, v1, v2, v3, v4, v5, v6, v7, v8, v9, v10, v11, v12, v13, v14, v15, v16, v17, v18, v19, v20, v21, v22, v23, v24, v25, v26, v27])), (a0, .inl (ac, 38, .inl nf))] s.heap := hP
  have hl := lv_entry ([.ref h0, .int 2, .int v]) (n := 4) (Nat.le_of_ble_eq_true rfl)
  rw [lg_entry_eq]
  generalize (lg_sl ([.ref h0, .int 2, .int v]) ++ List.replicate (4 - (lg_sl ([.ref h0, .int 2, .int v])).length) Slot.unset).toArray = ls at hl ⊢
  have hl : lv_has ls 4 [(0, .ref h0), (1, .int 2), (2, .int v)] := hl
  refine lv_aload_n hx hb dX9_putIn_0 rfl (lv_at hl 0 rfl) ?_
  refine va_get (D := (dC, dI)) (ci := 7) (v := .ref a0) (C := RX9) (T := TX9) (N := 28) hx hb hts inX9 hown hK hP 0 rfl rfl 0 (by decide) (hts _ (List.mem_of_getElem? (i := 1) rfl)) (fun _ h9 => h9) rfl dX9_putIn_1 ?_
  refine lv_iload_n hx hb dX9_putIn_4 rfl (lv_at hl 1 rfl) ?_
  refine va_iald hx hb hK hP 1 0 rfl rfl (vp_in_nI (n := 2) (by decide) (by decide)) dX9_putIn_5 ?_
  refine pp_ti (y := nf 2) rfl ?_
  refine lv_topi (fun n_1 en_1 => ?_)
  have tn_1 : n_1.toInt = (nf 2).toInt := congrArg Int32.toInt en_1
  clear en_1
  refine lv_istore_n (lv' := [(3, .int n_1), (0, .ref h0), (1, .int 2), (2, .int v)]) hx hb dX9_putIn_6 rfl hl (by decide) rfl (fun ls hl => ?_)
  refine lv_aload_n hx hb dX9_putIn_7 rfl (lv_at hl 1 rfl) ?_
  refine va_get (D := (dC, dI)) (ci := 7) (v := .ref a0) (C := RX9) (T := TX9) (N := 28) hx hb hts inX9 hown hK hP 0 rfl rfl 0 (by decide) (hts _ (List.mem_of_getElem? (i := 1) rfl)) (fun _ h9 => h9) rfl dX9_putIn_8 ?_
  refine lv_iload_n hx hb dX9_putIn_11 rfl (lv_at hl 2 rfl) ?_
  refine lv_iload_n hx hb dX9_putIn_12 rfl (lv_at hl 3 rfl) ?_
  refine va_iast hx hb hK hP hD hS 1 0 rfl rfl (vp_in_nI (n := 2) (by decide) (by decide)) dX9_putIn_13 (fun H locs hP hD hS => ?_)
  have hP : va_P (dC, dI) vwCl [(h0, .inr (7, [.ref a0, v1, v2, v3, v4, v5, v6, v7, v8, v9, v10, v11, v12, v13, v14, v15, v16, v17, v18, v19, v20, v21, v22, v23, v24, v25, v26, v27])), (a0, .inl (ac, 38, .inl (upd nf 2 v)))] H := hP
  have hD : va_D A [(h0, .inr (7, [.ref a0, v1, v2, v3, v4, v5, v6, v7, v8, v9, v10, v11, v12, v13, v14, v15, v16, v17, v18, v19, v20, v21, v22, v23, v24, v25, v26, v27])), (a0, .inl (ac, 38, .inl (upd nf 2 v)))] := hD
  have q_3 : ((upd nf 2 v) 0).toInt = (nf 0).toInt := pp_uN_ne (by decide)
  have q_4 : ((upd nf 2 v) 1).toInt = (nf 1).toInt := pp_uN_ne (by decide)
  have q_5 : ((upd nf 2 v) 2).toInt = v.toInt := pp_uN_eq rfl
  have q_6 : ((upd nf 2 v) 30).toInt = (nf 30).toInt := pp_uN_ne (by decide)
  have q_7 : ((upd nf 2 v) 31).toInt = (nf 31).toInt := pp_uN_ne (by decide)
  have q_8 : ((upd nf 2 v) 32).toInt = (nf 32).toInt := pp_uN_ne (by decide)
  have q_9 : ((upd nf 2 v) 33).toInt = (nf 33).toInt := pp_uN_ne (by decide)
  have hI_10 : mI (upd nf 2 v) := mI_01 hI (by have := mI_b hI; omega) (by have := mI_b hI; omega) (by omega) (by omega) (by omega) (by omega)
  generalize upd nf 2 v = f_2 at hP hD q_3 q_4 q_5 q_6 q_7 q_8 q_9 hI_10
  have hP : va_P (dC, dI) vwCl [(h0, .inr (7, [.ref a0, v1, v2, v3, v4, v5, v6, v7, v8, v9, v10, v11, v12, v13, v14, v15, v16, v17, v18, v19, v20, v21, v22, v23, v24, v25, v26, v27])), (a0, .inl (ac, 38, .inl f_2))] H := hP
  have hD : va_D A [(h0, .inr (7, [.ref a0, v1, v2, v3, v4, v5, v6, v7, v8, v9, v10, v11, v12, v13, v14, v15, v16, v17, v18, v19, v20, v21, v22, v23, v24, v25, v26, v27])), (a0, .inl (ac, 38, .inl f_2))] := hD
  refine lv_iload_n hx hb dX9_putIn_14 rfl (lv_at hl 0 rfl) ?_
  have hP9 := hP.sub (ws' := [(h0, .inr (7, [.ref a0, v1, v2, v3, v4, v5, v6, v7, v8, v9, v10, v11, v12, v13, v14, v15, v16, v17, v18, v19, v20, v21, v22, v23, v24, v25, v26, v27])), (a0, .inl (ac, 38, .inl f_2))]) [0, 1] rfl
  have hD9 := hD.sub (ws' := [(h0, .inr (7, [.ref a0, v1, v2, v3, v4, v5, v6, v7, v8, v9, v10, v11, v12, v13, v14, v15, v16, v17, v18, v19, v20, v21, v22, v23, v24, v25, v26, v27])), (a0, .inl (ac, 38, .inl f_2))]) [0, 1] (by decide) rfl
  have hK9 := hK.sub (tys' := [(ac, .int)]) [0] rfl
  exact W.iret (v := n_1) hx hb hr (fun t ht hW => ⟨⟨n_1, (), rfl, (by first | omega | decide | (simp only [fa_lt, fa_le, fa_eq, and_true, true_and, and_false, false_and, not_true_eq_false, not_false_eq_true, li_0, li_1, li_2, li_3, li_4, li_5, li_6, li_7, li_8, li_9, li_10, li_12, li_15, li_16, li_20, li_30, li_34, li_38, li_40, li_63, li_64, li_65, li_78, li_120, li_1000, li_4000, li_10000, li_11077, li_255, li_65535, li_m1, li_m2, li_m1000000001, li_m1000000002, li_m1000000003, li_m1000000004, li_m1000000005, li_m1000000006, li_m1000000007, or_true, true_or, or_false, false_or, implies_true, true_implies, false_implies] <;> omega)), f_2, hI_10, (by first | omega | decide | (simp only [fa_lt, fa_le, fa_eq, and_true, true_and, and_false, false_and, not_true_eq_false, not_false_eq_true, li_0, li_1, li_2, li_3, li_4, li_5, li_6, li_7, li_8, li_9, li_10, li_12, li_15, li_16, li_20, li_30, li_34, li_38, li_40, li_63, li_64, li_65, li_78, li_120, li_1000, li_4000, li_10000, li_11077, li_255, li_65535, li_m1, li_m2, li_m1000000001, li_m1000000002, li_m1000000003, li_m1000000004, li_m1000000005, li_m1000000006, li_m1000000007, or_true, true_or, or_false, false_or, implies_true, true_implies, false_implies] <;> omega)), (by first | omega | decide | (simp only [fa_lt, fa_le, fa_eq, and_true, true_and, and_false, false_and, not_true_eq_false, not_false_eq_true, li_0, li_1, li_2, li_3, li_4, li_5, li_6, li_7, li_8, li_9, li_10, li_12, li_15, li_16, li_20, li_30, li_34, li_38, li_40, li_63, li_64, li_65, li_78, li_120, li_1000, li_4000, li_10000, li_11077, li_255, li_65535, li_m1, li_m2, li_m1000000001, li_m1000000002, li_m1000000003, li_m1000000004, li_m1000000005, li_m1000000006, li_m1000000007, or_true, true_or, or_false, false_or, implies_true, true_implies, false_implies] <;> omega)), by rw [ht]; exact hP9, va_K.moved hW.alike hK9, hD9⟩, hS.F ht⟩) hS.2.2 dX9_putIn_15

def w_m_isShape : List Cond := .code yX9_isShape cX9_isShape 2 (some .boolean) :: (([.fieldLink RX9 9 "LampShapesModel" "now" "[I", .methodLink RX9 75 yX9_within, .static yX9_within, .initialized RX9, .code yX9_within cX9_within 3 (some .boolean)] : List Cond) ++ wsX90)
set_option maxRecDepth 20000 in
theorem g_m_isShape_m_within_75 : GoodIn w_m_isShape (va_wsS RX9 75 yX9_within w_m_within) := goodIn_r _ [2, 3, 4, 5] rfl (by decide +kernel)
set_option maxHeartbeats 4000000 in
set_option maxRecDepth 100000 in
theorem m_isShape (l : Launch) (dC : Nat → ClassId) (dI : Nat → Nat → Nat) (ad : Nat → Nat) (h0 : Nat) (k : Int32) (a0 : Nat) (v1 : Value) (v2 : Value) (v3 : Value) (v4 : Value) (v5 : Value) (v6 : Value) (v7 : Value) (v8 : Value) (v9 : Value) (v10 : Value) (v11 : Value) (v12 : Value) (v13 : Value) (v14 : Value) (v15 : Value) (v16 : Value) (v17 : Value) (v18 : Value) (v19 : Value) (v20 : Value) (v21 : Value) (v22 : Value) (v23 : Value) (v24 : Value) (v25 : Value) (v26 : Value) (v27 : Value) (ac : ClassId) (nf : Nat → Int32) (hI : mI nf) : Met l yX9_isShape w_m_isShape ({ frames := 1, cells := 0, slots := 0, locals := 22 } : Room) (va_Pc [.ref h0, .int k] (preS dC dI ad [(ac, .int)] [(h0, .inr (7, [.ref a0, v1, v2, v3, v4, v5, v6, v7, v8, v9, v10, v11, v12, v13, v14, v15, v16, v17, v18, v19, v20, v21, v22, v23, v24, v25, v26, v27])), (a0, .inl (ac, 38, .inl nf))])) (vp_Si (fun r => (r.toInt = 1 ∧ 0 ≤ k.toInt ∧ k.toInt < (nf 0).toInt ∧ k.toInt ≤ 8) ∨ r.toInt = 0)) 0 0 (fun _ => False) := by
  refine Met.ofW (cc := cX9_isShape) (maxL := 2) (ret := (some .boolean)) (by decide) rfl ?_
  intro p e s m args below meth c s₁ B hml hv
  obtain ⟨rfl, hP, hK, hev⟩ := hv
  have hx := B.exec
  have hb := B.bytes
  have hr := B.returns
  have hts := atoms_spec (ws := w_m_isShape) B.pre
  have hown : s.vm.findClass RX9 = some m.cls := findClass_of_methodNamed B.named
  have hlocks := B.notSynchronized
  have inX9 : ∀ w ∈ wsX90, w ∈ w_m_isShape := fun w h => List.mem_cons_of_mem _ (List.mem_append_right _ h)
  have hP : va_P (dC, dI) vwCl [(h0, .inr (7, [.ref a0, v1, v2, v3, v4, v5, v6, v7, v8, v9, v10, v11, v12, v13, v14, v15, v16, v17, v18, v19, v20, v21, v22, v23, v24, v25, v26, v27])), (a0, .inl (ac, 38, .inl nf))] s.heap := hP
  have hl := lv_entry ([.ref h0, .int k]) (n := 2) (Nat.le_of_ble_eq_true rfl)
  rw [lg_entry_eq]
  generalize (lg_sl ([.ref h0, .int k]) ++ List.replicate (2 - (lg_sl ([.ref h0, .int k])).length) Slot.unset).toArray = ls at hl ⊢
  have hl : lv_has ls 2 [(0, .ref h0), (1, .int k)] := hl
  refine lv_iload_n hx hb dX9_isShape_0 rfl (lv_at hl 1 rfl) ?_
  refine lv_iconst (v := 0) hx hb dX9_isShape_1 (by decide) ?_
  refine lv_aload_n hx hb dX9_isShape_2 rfl (lv_at hl 0 rfl) ?_
  refine va_get (D := (dC, dI)) (ci := 7) (v := .ref a0) (C := RX9) (T := TX9) (N := 28) hx hb hts inX9 hown hK hP 0 rfl rfl 0 (by decide) (hts _ (List.mem_of_getElem? (i := 1) rfl)) (fun _ h9 => h9) rfl dX9_isShape_3 ?_
  refine lv_iconst (v := 0) hx hb dX9_isShape_6 (by decide) ?_
  refine va_iald hx hb hK hP 1 0 rfl rfl (vp_in_nI (n := 0) (by decide) (by decide)) dX9_isShape_7 ?_
  refine pp_ti (y := nf 0) rfl ?_
  refine lv_topi (fun n_1 en_1 => ?_)
  have tn_1 : n_1.toInt = (nf 0).toInt ∧ 0 ≤ n_1.toInt ∧ n_1.toInt ≤ 9 := mI_r0 hI en_1
  clear en_1
  refine lv_iconst (v := 1) hx hb dX9_isShape_8 (by decide) ?_
  refine lv_isub hx hb dX9_isShape_9 ?_
  refine lv_topi (fun n_2 en_2 => ?_)
  have tn_2 : n_2.toInt = n_1.toInt - 1 := pp_sub en_2 rfl rfl (by omega) (by omega)
  clear en_2
  have hPc := hP.sub (ws' := []) [] rfl
  have hKc := hK.sub (tys' := []) [] rfl
  refine vp_callSi (W.runS (As := [.int k, .int 0, .int n_2]) (rest := []) ⟨hx, hb, hml, hown, hts⟩ (m_within l dC dI ad k 0 n_2 ) (va_cwS 3 hts g_m_isShape_m_within_75 rfl rfl rfl (by decide +kernel) ⟨(Nat.le_of_ble_eq_true rfl), (Nat.le_of_ble_eq_true rfl)⟩) ⟨preS_blind, fun U hU hW => ⟨rfl, preS_at hU hW hPc hKc hev⟩⟩ rfl rfl hl.1 rfl (lv_room (Nat.le_of_ble_eq_true rfl)) dX9_isShape_10 ⟨(Nat.le_of_ble_eq_true rfl), (Nat.le_of_ble_eq_true rfl)⟩) (fun r_3 hw => ?_)
  have hr_3 : (r_3.toInt = 1 ∧ 0 ≤ k.toInt ∧ k.toInt ≤ n_2.toInt) ∨ (r_3.toInt = 0 ∧ ¬ (0 ≤ k.toInt ∧ k.toInt ≤ n_2.toInt)) := hw
  exact W.zret (v := r_3) hx hb hr (pp_nb (by omega)) (fun t ht hW => ⟨r_3, rfl, (by first | omega | decide | (simp only [fa_lt, fa_le, fa_eq, and_true, true_and, and_false, false_and, not_true_eq_false, not_false_eq_true, li_0, li_1, li_2, li_3, li_4, li_5, li_6, li_7, li_8, li_9, li_10, li_12, li_15, li_16, li_20, li_30, li_34, li_38, li_40, li_63, li_64, li_65, li_78, li_120, li_1000, li_4000, li_10000, li_11077, li_255, li_65535, li_m1, li_m2, li_m1000000001, li_m1000000002, li_m1000000003, li_m1000000004, li_m1000000005, li_m1000000006, li_m1000000007, or_true, true_or, or_false, false_or, implies_true, true_implies, false_implies] <;> omega)), ht⟩) (fun _ h => absurd h List.not_mem_nil) dX9_isShape_13

def w_m_isScene : List Cond := .code yX9_isScene cX9_isScene 2 (some .boolean) :: (([.fieldLink RX9 9 "LampShapesModel" "now" "[I", .methodLink RX9 75 yX9_within, .static yX9_within, .initialized RX9, .code yX9_within cX9_within 3 (some .boolean)] : List Cond) ++ wsX90)
set_option maxRecDepth 20000 in
theorem g_m_isScene_m_within_75 : GoodIn w_m_isScene (va_wsS RX9 75 yX9_within w_m_within) := goodIn_r _ [2, 3, 4, 5] rfl (by decide +kernel)
set_option maxHeartbeats 4000000 in
set_option maxRecDepth 100000 in
theorem m_isScene (l : Launch) (dC : Nat → ClassId) (dI : Nat → Nat → Nat) (ad : Nat → Nat) (h0 : Nat) (k : Int32) (a0 : Nat) (v1 : Value) (v2 : Value) (v3 : Value) (v4 : Value) (v5 : Value) (v6 : Value) (v7 : Value) (v8 : Value) (v9 : Value) (v10 : Value) (v11 : Value) (v12 : Value) (v13 : Value) (v14 : Value) (v15 : Value) (v16 : Value) (v17 : Value) (v18 : Value) (v19 : Value) (v20 : Value) (v21 : Value) (v22 : Value) (v23 : Value) (v24 : Value) (v25 : Value) (v26 : Value) (v27 : Value) (ac : ClassId) (nf : Nat → Int32) (hI : mI nf) : Met l yX9_isScene w_m_isScene ({ frames := 1, cells := 0, slots := 0, locals := 22 } : Room) (va_Pc [.ref h0, .int k] (preS dC dI ad [(ac, .int)] [(h0, .inr (7, [.ref a0, v1, v2, v3, v4, v5, v6, v7, v8, v9, v10, v11, v12, v13, v14, v15, v16, v17, v18, v19, v20, v21, v22, v23, v24, v25, v26, v27])), (a0, .inl (ac, 38, .inl nf))])) (vp_Si (fun r => (r.toInt = 1 ∧ 0 ≤ k.toInt ∧ k.toInt < (nf 1).toInt ∧ k.toInt ≤ 6) ∨ r.toInt = 0)) 0 0 (fun _ => False) := by
  refine Met.ofW (cc := cX9_isScene) (maxL := 2) (ret := (some .boolean)) (by decide) rfl ?_
  intro p e s m args below meth c s₁ B hml hv
  obtain ⟨rfl, hP, hK, hev⟩ := hv
  have hx := B.exec
  have hb := B.bytes
  have hr := B.returns
  have hts := atoms_spec (ws := w_m_isScene) B.pre
  have hown : s.vm.findClass RX9 = some m.cls := findClass_of_methodNamed B.named
  have hlocks := B.notSynchronized
  have inX9 : ∀ w ∈ wsX90, w ∈ w_m_isScene := fun w h => List.mem_cons_of_mem _ (List.mem_append_right _ h)
  have hP : va_P (dC, dI) vwCl [(h0, .inr (7, [.ref a0, v1, v2, v3, v4, v5, v6, v7, v8, v9, v10, v11, v12, v13, v14, v15, v16, v17, v18, v19, v20, v21, v22, v23, v24, v25, v26, v27])), (a0, .inl (ac, 38, .inl nf))] s.heap := hP
  have hl := lv_entry ([.ref h0, .int k]) (n := 2) (Nat.le_of_ble_eq_true rfl)
  rw [lg_entry_eq]
  generalize (lg_sl ([.ref h0, .int k]) ++ List.replicate (2 - (lg_sl ([.ref h0, .int k])).length) Slot.unset).toArray = ls at hl ⊢
  have hl : lv_has ls 2 [(0, .ref h0), (1, .int k)] := hl
  refine lv_iload_n hx hb dX9_isScene_0 rfl (lv_at hl 1 rfl) ?_
  refine lv_iconst (v := 0) hx hb dX9_isScene_1 (by decide) ?_
  refine lv_aload_n hx hb dX9_isScene_2 rfl (lv_at hl 0 rfl) ?_
  refine va_get (D := (dC, dI)) (ci := 7) (v := .ref a0) (C := RX9) (T := TX9) (N := 28) hx hb hts inX9 hown hK hP 0 rfl rfl 0 (by decide) (hts _ (List.mem_of_getElem? (i := 1) rfl)) (fun _ h9 => h9) rfl dX9_isScene_3 ?_
  refine lv_iconst (v := 1) hx hb dX9_isScene_6 (by decide) ?_
  refine va_iald hx hb hK hP 1 0 rfl rfl (vp_in_nI (n := 1) (by decide) (by decide)) dX9_isScene_7 ?_
  refine pp_ti (y := nf 1) rfl ?_
  refine lv_topi (fun n_1 en_1 => ?_)
  have tn_1 : n_1.toInt = (nf 1).toInt ∧ 0 ≤ n_1.toInt ∧ n_1.toInt ≤ 7 := mI_r1 hI en_1
  clear en_1
  refine lv_iconst (v := 1) hx hb dX9_isScene_8 (by decide) ?_
  refine lv_isub hx hb dX9_isScene_9 ?_
  refine lv_topi (fun n_2 en_2 => ?_)
  have tn_2 : n_2.toInt = n_1.toInt - 1 := pp_sub en_2 rfl rfl (by omega) (by omega)
  clear en_2
  have hPc := hP.sub (ws' := []) [] rfl
  have hKc := hK.sub (tys' := []) [] rfl
  refine vp_callSi (W.runS (As := [.int k, .int 0, .int n_2]) (rest := []) ⟨hx, hb, hml, hown, hts⟩ (m_within l dC dI ad k 0 n_2 ) (va_cwS 3 hts g_m_isScene_m_within_75 rfl rfl rfl (by decide +kernel) ⟨(Nat.le_of_ble_eq_true rfl), (Nat.le_of_ble_eq_true rfl)⟩) ⟨preS_blind, fun U hU hW => ⟨rfl, preS_at hU hW hPc hKc hev⟩⟩ rfl rfl hl.1 rfl (lv_room (Nat.le_of_ble_eq_true rfl)) dX9_isScene_10 ⟨(Nat.le_of_ble_eq_true rfl), (Nat.le_of_ble_eq_true rfl)⟩) (fun r_3 hw => ?_)
  have hr_3 : (r_3.toInt = 1 ∧ 0 ≤ k.toInt ∧ k.toInt ≤ n_2.toInt) ∨ (r_3.toInt = 0 ∧ ¬ (0 ≤ k.toInt ∧ k.toInt ≤ n_2.toInt)) := hw
  exact W.zret (v := r_3) hx hb hr (pp_nb (by omega)) (fun t ht hW => ⟨r_3, rfl, (by first | omega | decide | (simp only [fa_lt, fa_le, fa_eq, and_true, true_and, and_false, false_and, not_true_eq_false, not_false_eq_true, li_0, li_1, li_2, li_3, li_4, li_5, li_6, li_7, li_8, li_9, li_10, li_12, li_15, li_16, li_20, li_30, li_34, li_38, li_40, li_63, li_64, li_65, li_78, li_120, li_1000, li_4000, li_10000, li_11077, li_255, li_65535, li_m1, li_m2, li_m1000000001, li_m1000000002, li_m1000000003, li_m1000000004, li_m1000000005, li_m1000000006, li_m1000000007, or_true, true_or, or_false, false_or, implies_true, true_implies, false_implies] <;> omega)), ht⟩) (fun _ h => absurd h List.not_mem_nil) dX9_isScene_13

def w_m_shapeIs : List Cond := .code yX9_shapeIs cX9_shapeIs 3 (some .int) :: (([.fieldLink RX9 9 "LampShapesModel" "now" "[I"] : List Cond) ++ wsX90)
set_option maxHeartbeats 4000000 in
set_option maxRecDepth 100000 in
theorem m_shapeIs (l : Launch) (dC : Nat → ClassId) (dI : Nat → Nat → Nat) (ad : Nat → Nat) (h0 : Nat) (k : Int32) (b : Int32) (a0 : Nat) (v1 : Value) (v2 : Value) (v3 : Value) (v4 : Value) (v5 : Value) (v6 : Value) (v7 : Value) (v8 : Value) (v9 : Value) (v10 : Value) (v11 : Value) (v12 : Value) (v13 : Value) (v14 : Value) (v15 : Value) (v16 : Value) (v17 : Value) (v18 : Value) (v19 : Value) (v20 : Value) (v21 : Value) (v22 : Value) (v23 : Value) (v24 : Value) (v25 : Value) (v26 : Value) (v27 : Value) (ac : ClassId) (nf : Nat → Int32) (hk : 0 ≤ k.toInt ∧ k.toInt ≤ 8) (hb : 0 ≤ b.toInt ∧ b.toInt ≤ 2) : Met l yX9_shapeIs w_m_shapeIs ({ frames := 0, cells := 0, slots := 0, locals := 0 } : Room) (va_Pc [.ref h0, .int k, .int b] (preS dC dI ad [(ac, .int)] [(h0, .inr (7, [.ref a0, v1, v2, v3, v4, v5, v6, v7, v8, v9, v10, v11, v12, v13, v14, v15, v16, v17, v18, v19, v20, v21, v22, v23, v24, v25, v26, v27])), (a0, .inl (ac, 38, .inl nf))])) (vp_Si (fun r => True)) 0 0 (fun _ => False) := by
  refine Met.ofW (cc := cX9_shapeIs) (maxL := 3) (ret := (some .int)) (by decide) rfl ?_
  intro p e s m args below meth c s₁ B hml hv
  obtain ⟨rfl, hP, hK, hev⟩ := hv
  have hx := B.exec
  have hb := B.bytes
  have hr := B.returns
  have hts := atoms_spec (ws := w_m_shapeIs) B.pre
  have hown : s.vm.findClass RX9 = some m.cls := findClass_of_methodNamed B.named
  have hlocks := B.notSynchronized
  have inX9 : ∀ w ∈ wsX90, w ∈ w_m_shapeIs := fun w h => List.mem_cons_of_mem _ (List.mem_append_right _ h)
  have hP : va_P (dC, dI) vwCl [(h0, .inr (7, [.ref a0, v1, v2, v3, v4, v5, v6, v7, v8, v9, v10, v11, v12, v13, v14, v15, v16, v17, v18, v19, v20, v21, v22, v23, v24, v25, v26, v27])), (a0, .inl (ac, 38, .inl nf))] s.heap := hP
  have hl := lv_entry ([.ref h0, .int k, .int b]) (n := 3) (Nat.le_of_ble_eq_true rfl)
  rw [lg_entry_eq]
  generalize (lg_sl ([.ref h0, .int k, .int b]) ++ List.replicate (3 - (lg_sl ([.ref h0, .int k, .int b])).length) Slot.unset).toArray = ls at hl ⊢
  have hl : lv_has ls 3 [(0, .ref h0), (1, .int k), (2, .int b)] := hl
  refine lv_aload_n hx hb dX9_shapeIs_0 rfl (lv_at hl 0 rfl) ?_
  refine va_get (D := (dC, dI)) (ci := 7) (v := .ref a0) (C := RX9) (T := TX9) (N := 28) hx hb hts inX9 hown hK hP 0 rfl rfl 0 (by decide) (hts _ (List.mem_of_getElem? (i := 1) rfl)) (fun _ h9 => h9) rfl dX9_shapeIs_1 ?_
  refine lv_iconst (v := 3) hx hb dX9_shapeIs_4 (by decide) ?_
  refine lv_iconst (v := 3) hx hb dX9_shapeIs_5 (by decide) ?_
  refine lv_iload_n hx hb dX9_shapeIs_6 rfl (lv_at hl 1 rfl) ?_
  refine lv_imul hx hb dX9_shapeIs_7 ?_
  refine lv_topi (fun n_1 en_1 => ?_)
  have tn_1 : n_1.toInt = 3 * k.toInt := pp_mul en_1 rfl rfl (by omega) (by omega)
  clear en_1
  refine lv_iadd hx hb dX9_shapeIs_8 ?_
  refine lv_topi (fun n_2 en_2 => ?_)
  have tn_2 : n_2.toInt = 3 + n_1.toInt := pp_add en_2 rfl rfl (by omega) (by omega)
  clear en_2
  refine lv_iload_n hx hb dX9_shapeIs_9 rfl (lv_at hl 2 rfl) ?_
  refine lv_iadd hx hb dX9_shapeIs_10 ?_
  refine lv_topi (fun n_3 en_3 => ?_)
  have tn_3 : n_3.toInt = n_2.toInt + b.toInt := pp_add en_3 rfl rfl (by omega) (by omega)
  clear en_3
  refine va_iald hx hb hK hP 1 0 rfl rfl (vp_in_iff.mpr ⟨by omega, by omega⟩) dX9_shapeIs_11 ?_
  refine lv_topi (fun n_4 en_4 => ?_)
  clear en_4
  exact W.iret (v := n_4) hx hb hr (fun t ht hW => ⟨n_4, rfl, trivial, ht⟩) (fun _ h => absurd h List.not_mem_nil) dX9_shapeIs_12

def w_m_made : List Cond := .code yX9_made cX9_made 5 (some .int) :: (([.fieldLink RX9 9 "LampShapesModel" "now" "[I"] : List Cond) ++ wsX90)
set_option maxHeartbeats 4000000 in
set_option maxRecDepth 100000 in
theorem m_made (l : Launch) (dC : Nat → ClassId) (dI : Nat → Nat → Nat) (ad : Nat → Nat) (h0 : Nat) (a : Int32) (b : Int32) (a0 : Nat) (v1 : Value) (v2 : Value) (v3 : Value) (v4 : Value) (v5 : Value) (v6 : Value) (v7 : Value) (v8 : Value) (v9 : Value) (v10 : Value) (v11 : Value) (v12 : Value) (v13 : Value) (v14 : Value) (v15 : Value) (v16 : Value) (v17 : Value) (v18 : Value) (v19 : Value) (v20 : Value) (v21 : Value) (v22 : Value) (v23 : Value) (v24 : Value) (v25 : Value) (v26 : Value) (v27 : Value) (ac : ClassId) (nf : Nat → Int32) (sz : Nat) (hI : mI nf) (hn : (nf 0).toInt ≤ 8) : Met l yX9_made w_m_made ({ frames := 0, cells := 0, slots := 0, locals := 0 } : Room) (va_Pc [.ref h0, .int a, .int b] (preM dC dI ad [(ac, .int)] [(h0, .inr (7, [.ref a0, v1, v2, v3, v4, v5, v6, v7, v8, v9, v10, v11, v12, v13, v14, v15, v16, v17, v18, v19, v20, v21, v22, v23, v24, v25, v26, v27])), (a0, .inl (ac, 38, .inl nf))] sz)) (va_Qi (fun (r : Int32) (_ : Unit) => True) (fun _ t => ∃ (ng : Nat → Int32), (mI ng) ∧ ((ng 0).toInt = (nf 0).toInt + 1) ∧ ((ng 1).toInt = (nf 1).toInt ∧ (ng 2).toInt = (nf 2).toInt ∧ (ng 30).toInt = (nf 30).toInt ∧ (ng 31).toInt = (nf 31).toInt ∧ (ng 32).toInt = (nf 32).toInt ∧ (ng 33).toInt = (nf 33).toInt) ∧ va_P (dC, dI) vwCl [(h0, .inr (7, [.ref a0, v1, v2, v3, v4, v5, v6, v7, v8, v9, v10, v11, v12, v13, v14, v15, v16, v17, v18, v19, v20, v21, v22, v23, v24, v25, v26, v27])), (a0, .inl (ac, 38, .inl ng))] t.heap ∧ va_K (dC, dI) vwCl [(ac, .int)] t ∧ va_D (va_A [(h0, .inr (7, [.ref a0, v1, v2, v3, v4, v5, v6, v7, v8, v9, v10, v11, v12, v13, v14, v15, v16, v17, v18, v19, v20, v21, v22, v23, v24, v25, v26, v27])), (a0, .inl (ac, 38, .inl nf))] sz) [(h0, .inr (7, [.ref a0, v1, v2, v3, v4, v5, v6, v7, v8, v9, v10, v11, v12, v13, v14, v15, v16, v17, v18, v19, v20, v21, v22, v23, v24, v25, v26, v27])), (a0, .inl (ac, 38, .inl ng))]) (va_A [(h0, .inr (7, [.ref a0, v1, v2, v3, v4, v5, v6, v7, v8, v9, v10, v11, v12, v13, v14, v15, v16, v17, v18, v19, v20, v21, v22, v23, v24, v25, v26, v27])), (a0, .inl (ac, 38, .inl nf))] sz)) 0 0 (va_A [(h0, .inr (7, [.ref a0, v1, v2, v3, v4, v5, v6, v7, v8, v9, v10, v11, v12, v13, v14, v15, v16, v17, v18, v19, v20, v21, v22, v23, v24, v25, v26, v27])), (a0, .inl (ac, 38, .inl nf))] sz) := by
  refine Met.ofW (cc := cX9_made) (maxL := 5) (ret := (some .int)) (by decide) rfl ?_
  intro p e s m args below meth c s₁ B hml hv
  obtain ⟨rfl, hsz, hP, hK, hD0, hev⟩ := hv
  have hx := B.exec
  have hb := B.bytes
  have hr := B.returns
  have hts := atoms_spec (ws := w_m_made) B.pre
  have hown : s.vm.findClass RX9 = some m.cls := findClass_of_methodNamed B.named
  have hlocks := B.notSynchronized
  have inX9 : ∀ w ∈ wsX90, w ∈ w_m_made := fun w h => List.mem_cons_of_mem _ (List.mem_append_right _ h)
  subst hsz
  have hD := hD0.self (sz := s.heap.size)
  generalize hAe : va_A [(h0, .inr (7, [.ref a0, v1, v2, v3, v4, v5, v6, v7, v8, v9, v10, v11, v12, v13, v14, v15, v16, v17, v18, v19, v20, v21, v22, v23, v24, v25, v26, v27])), (a0, .inl (ac, 38, .inl nf))] s.heap.size = A at hD ⊢
  have hA : ∀ q : Nat, s.heap.size ≤ q → A q := fun q h => by rw [← hAe]; exact Or.inr h
  have hS : va_S A s.heap s.heap [] := va_S.rf
  have hP : va_P (dC, dI) vwCl [(h0, .inr (7, [.ref a0, v1, v2, v3, v4, v5, v6, v7, v8, v9, v10, v11, v12, v13, v14, v15, v16, v17, v18, v19, v20, v21, v22, v23, v24, v25, v26, v27])), (a0, .inl (ac, 38, .inl nf))] s.heap := hP
  have hl := lv_entry ([.ref h0, .int a, .int b]) (n := 5) (Nat.le_of_ble_eq_true rfl)
  rw [lg_entry_eq]
  generalize (lg_sl ([.ref h0, .int a, .int b]) ++ List.replicate (5 - (lg_sl ([.ref h0, .int a, .int b])).length) Slot.unset).toArray = ls at hl ⊢
  have hl : lv_has ls 5 [(0, .ref h0), (1, .int a), (2, .int b)] := hl
  refine lv_aload_n hx hb dX9_made_0 rfl (lv_at hl 0 rfl) ?_
  refine va_get (D := (dC, dI)) (ci := 7) (v := .ref a0) (C := RX9) (T := TX9) (N := 28) hx hb hts inX9 hown hK hP 0 rfl rfl 0 (by decide) (hts _ (List.mem_of_getElem? (i := 1) rfl)) (fun _ h9 => h9) rfl dX9_made_1 ?_
  refine lv_iconst (v := 0) hx hb dX9_made_4 (by decide) ?_
  refine va_iald hx hb hK hP 1 0 rfl rfl (vp_in_nI (n := 0) (by decide) (by decide)) dX9_made_5 ?_
  refine pp_ti (y := nf 0) rfl ?_
  refine lv_topi (fun n_1 en_1 => ?_)
  have tn_1 : n_1.toInt = (nf 0).toInt ∧ 0 ≤ n_1.toInt ∧ n_1.toInt ≤ 9 := mI_r0 hI en_1
  clear en_1
  refine lv_istore_n (lv' := [(3, .int n_1), (0, .ref h0), (1, .int a), (2, .int b)]) hx hb dX9_made_6 rfl hl (by decide) rfl (fun ls hl => ?_)
  refine lv_iconst (v := 3) hx hb dX9_made_7 (by decide) ?_
  refine lv_iconst (v := 3) hx hb dX9_made_8 (by decide) ?_
  refine lv_iload_n hx hb dX9_made_9 rfl (lv_at hl 0 rfl) ?_
  refine lv_imul hx hb dX9_made_10 ?_
  refine lv_topi (fun n_2 en_2 => ?_)
  have tn_2 : n_2.toInt = 3 * n_1.toInt := pp_mul en_2 rfl rfl (by omega) (by omega)
  clear en_2
  refine lv_iadd hx hb dX9_made_11 ?_
  refine lv_topi (fun n_3 en_3 => ?_)
  have tn_3 : n_3.toInt = 3 + n_2.toInt := pp_add en_3 rfl rfl (by omega) (by omega)
  clear en_3
  refine lv_istore (lv' := [(4, .int n_3), (3, .int n_1), (0, .ref h0), (1, .int a), (2, .int b)]) hx hb dX9_made_12 hl (by decide) rfl (fun ls hl => ?_)
  refine lv_aload_n hx hb dX9_made_14 rfl (lv_at hl 2 rfl) ?_
  refine va_get (D := (dC, dI)) (ci := 7) (v := .ref a0) (C := RX9) (T := TX9) (N := 28) hx hb hts inX9 hown hK hP 0 rfl rfl 0 (by decide) (hts _ (List.mem_of_getElem? (i := 1) rfl)) (fun _ h9 => h9) rfl dX9_made_15 ?_
  refine lv_iload hx hb dX9_made_18 (lv_at hl 0 rfl) ?_
  refine lv_iconst (v := 0) hx hb dX9_made_20 (by decide) ?_
  refine lv_iadd hx hb dX9_made_21 ?_
  refine lv_topi (fun n_4 en_4 => ?_)
  have tn_4 : n_4.toInt = n_3.toInt + 0 := pp_add en_4 rfl rfl (by omega) (by omega)
  clear en_4
  refine lv_iload_n hx hb dX9_made_22 rfl (lv_at hl 3 rfl) ?_
  refine va_iast hx hb hK hP hD hS 1 0 rfl rfl (vp_in_iff.mpr ⟨by omega, by omega⟩) dX9_made_23 (fun H locs hP hD hS => ?_)
  have hP : va_P (dC, dI) vwCl [(h0, .inr (7, [.ref a0, v1, v2, v3, v4, v5, v6, v7, v8, v9, v10, v11, v12, v13, v14, v15, v16, v17, v18, v19, v20, v21, v22, v23, v24, v25, v26, v27])), (a0, .inl (ac, 38, .inl (upd nf n_4.toNatClampNeg a)))] H := hP
  have hD : va_D A [(h0, .inr (7, [.ref a0, v1, v2, v3, v4, v5, v6, v7, v8, v9, v10, v11, v12, v13, v14, v15, v16, v17, v18, v19, v20, v21, v22, v23, v24, v25, v26, v27])), (a0, .inl (ac, 38, .inl (upd nf n_4.toNatClampNeg a)))] := hD
  have q_6 : ((upd nf n_4.toNatClampNeg a) 0).toInt = (nf 0).toInt := pp_up_ne (by omega) (by omega)
  have q_7 : ((upd nf n_4.toNatClampNeg a) 1).toInt = (nf 1).toInt := pp_up_ne (by omega) (by omega)
  have q_8 : ((upd nf n_4.toNatClampNeg a) 2).toInt = (nf 2).toInt := pp_up_ne (by omega) (by omega)
  have q_9 : ((upd nf n_4.toNatClampNeg a) 30).toInt = (nf 30).toInt := pp_up_ne (by omega) (by omega)
  have q_10 : ((upd nf n_4.toNatClampNeg a) 31).toInt = (nf 31).toInt := pp_up_ne (by omega) (by omega)
  have q_11 : ((upd nf n_4.toNatClampNeg a) 32).toInt = (nf 32).toInt := pp_up_ne (by omega) (by omega)
  have q_12 : ((upd nf n_4.toNatClampNeg a) 33).toInt = (nf 33).toInt := pp_up_ne (by omega) (by omega)
  have hI_13 : mI (upd nf n_4.toNatClampNeg a) := mI_01 hI (by have := mI_b hI; omega) (by have := mI_b hI; omega) (by omega) (by omega) (by omega) (by omega)
  generalize upd nf n_4.toNatClampNeg a = f_5 at hP hD q_6 q_7 q_8 q_9 q_10 q_11 q_12 hI_13
  have hP : va_P (dC, dI) vwCl [(h0, .inr (7, [.ref a0, v1, v2, v3, v4, v5, v6, v7, v8, v9, v10, v11, v12, v13, v14, v15, v16, v17, v18, v19, v20, v21, v22, v23, v24, v25, v26, v27])), (a0, .inl (ac, 38, .inl f_5))] H := hP
  have hD : va_D A [(h0, .inr (7, [.ref a0, v1, v2, v3, v4, v5, v6, v7, v8, v9, v10, v11, v12, v13, v14, v15, v16, v17, v18, v19, v20, v21, v22, v23, v24, v25, v26, v27])), (a0, .inl (ac, 38, .inl f_5))] := hD
  refine lv_aload_n hx hb dX9_made_24 rfl (lv_at hl 2 rfl) ?_
  refine va_get (D := (dC, dI)) (ci := 7) (v := .ref a0) (C := RX9) (T := TX9) (N := 28) hx hb hts inX9 hown hK hP 0 rfl rfl 0 (by decide) (hts _ (List.mem_of_getElem? (i := 1) rfl)) (fun _ h9 => h9) rfl dX9_made_25 ?_
  refine lv_iload hx hb dX9_made_28 (lv_at hl 0 rfl) ?_
  refine lv_iconst (v := 1) hx hb dX9_made_30 (by decide) ?_
  refine lv_iadd hx hb dX9_made_31 ?_
  refine lv_topi (fun n_14 en_14 => ?_)
  have tn_14 : n_14.toInt = n_3.toInt + 1 := pp_add en_14 rfl rfl (by omega) (by omega)
  clear en_14
  refine lv_iload_n hx hb dX9_made_32 rfl (lv_at hl 4 rfl) ?_
  refine va_iast hx hb hK hP hD hS 1 0 rfl rfl (vp_in_iff.mpr ⟨by omega, by omega⟩) dX9_made_33 (fun H locs hP hD hS => ?_)
  have hP : va_P (dC, dI) vwCl [(h0, .inr (7, [.ref a0, v1, v2, v3, v4, v5, v6, v7, v8, v9, v10, v11, v12, v13, v14, v15, v16, v17, v18, v19, v20, v21, v22, v23, v24, v25, v26, v27])), (a0, .inl (ac, 38, .inl (upd f_5 n_14.toNatClampNeg b)))] H := hP
  have hD : va_D A [(h0, .inr (7, [.ref a0, v1, v2, v3, v4, v5, v6, v7, v8, v9, v10, v11, v12, v13, v14, v15, v16, v17, v18, v19, v20, v21, v22, v23, v24, v25, v26, v27])), (a0, .inl (ac, 38, .inl (upd f_5 n_14.toNatClampNeg b)))] := hD
  have q_16 : ((upd f_5 n_14.toNatClampNeg b) 0).toInt = (f_5 0).toInt := pp_up_ne (by omega) (by omega)
  have q_17 : ((upd f_5 n_14.toNatClampNeg b) 1).toInt = (f_5 1).toInt := pp_up_ne (by omega) (by omega)
  have q_18 : ((upd f_5 n_14.toNatClampNeg b) 2).toInt = (f_5 2).toInt := pp_up_ne (by omega) (by omega)
  have q_19 : ((upd f_5 n_14.toNatClampNeg b) 30).toInt = (f_5 30).toInt := pp_up_ne (by omega) (by omega)
  have q_20 : ((upd f_5 n_14.toNatClampNeg b) 31).toInt = (f_5 31).toInt := pp_up_ne (by omega) (by omega)
  have q_21 : ((upd f_5 n_14.toNatClampNeg b) 32).toInt = (f_5 32).toInt := pp_up_ne (by omega) (by omega)
  have q_22 : ((upd f_5 n_14.toNatClampNeg b) 33).toInt = (f_5 33).toInt := pp_up_ne (by omega) (by omega)
  have hI_23 : mI (upd f_5 n_14.toNatClampNeg b) := mI_01 hI_13 (by have := mI_b hI_13; omega) (by have := mI_b hI_13; omega) (by omega) (by omega) (by omega) (by omega)
  generalize upd f_5 n_14.toNatClampNeg b = f_15 at hP hD q_16 q_17 q_18 q_19 q_20 q_21 q_22 hI_23
  have hP : va_P (dC, dI) vwCl [(h0, .inr (7, [.ref a0, v1, v2, v3, v4, v5, v6, v7, v8, v9, v10, v11, v12, v13, v14, v15, v16, v17, v18, v19, v20, v21, v22, v23, v24, v25, v26, v27])), (a0, .inl (ac, 38, .inl f_15))] H := hP
  have hD : va_D A [(h0, .inr (7, [.ref a0, v1, v2, v3, v4, v5, v6, v7, v8, v9, v10, v11, v12, v13, v14, v15, v16, v17, v18, v19, v20, v21, v22, v23, v24, v25, v26, v27])), (a0, .inl (ac, 38, .inl f_15))] := hD
  refine lv_aload_n hx hb dX9_made_34 rfl (lv_at hl 2 rfl) ?_
  refine va_get (D := (dC, dI)) (ci := 7) (v := .ref a0) (C := RX9) (T := TX9) (N := 28) hx hb hts inX9 hown hK hP 0 rfl rfl 0 (by decide) (hts _ (List.mem_of_getElem? (i := 1) rfl)) (fun _ h9 => h9) rfl dX9_made_35 ?_
  refine lv_iload hx hb dX9_made_38 (lv_at hl 0 rfl) ?_
  refine lv_iconst (v := 2) hx hb dX9_made_40 (by decide) ?_
  refine lv_iadd hx hb dX9_made_41 ?_
  refine lv_topi (fun n_24 en_24 => ?_)
  have tn_24 : n_24.toInt = n_3.toInt + 2 := pp_add en_24 rfl rfl (by omega) (by omega)
  clear en_24
  refine lv_iconst (v := 0) hx hb dX9_made_42 (by decide) ?_
  refine va_iast hx hb hK hP hD hS 1 0 rfl rfl (vp_in_iff.mpr ⟨by omega, by omega⟩) dX9_made_43 (fun H locs hP hD hS => ?_)
  have hP : va_P (dC, dI) vwCl [(h0, .inr (7, [.ref a0, v1, v2, v3, v4, v5, v6, v7, v8, v9, v10, v11, v12, v13, v14, v15, v16, v17, v18, v19, v20, v21, v22, v23, v24, v25, v26, v27])), (a0, .inl (ac, 38, .inl (upd f_15 n_24.toNatClampNeg 0)))] H := hP
  have hD : va_D A [(h0, .inr (7, [.ref a0, v1, v2, v3, v4, v5, v6, v7, v8, v9, v10, v11, v12, v13, v14, v15, v16, v17, v18, v19, v20, v21, v22, v23, v24, v25, v26, v27])), (a0, .inl (ac, 38, .inl (upd f_15 n_24.toNatClampNeg 0)))] := hD
  have q_26 : ((upd f_15 n_24.toNatClampNeg 0) 0).toInt = (f_15 0).toInt := pp_up_ne (by omega) (by omega)
  have q_27 : ((upd f_15 n_24.toNatClampNeg 0) 1).toInt = (f_15 1).toInt := pp_up_ne (by omega) (by omega)
  have q_28 : ((upd f_15 n_24.toNatClampNeg 0) 2).toInt = (f_15 2).toInt := pp_up_ne (by omega) (by omega)
  have q_29 : ((upd f_15 n_24.toNatClampNeg 0) 30).toInt = (f_15 30).toInt := pp_up_ne (by omega) (by omega)
  have q_30 : ((upd f_15 n_24.toNatClampNeg 0) 31).toInt = (f_15 31).toInt := pp_up_ne (by omega) (by omega)
  have q_31 : ((upd f_15 n_24.toNatClampNeg 0) 32).toInt = (f_15 32).toInt := pp_up_ne (by omega) (by omega)
  have q_32 : ((upd f_15 n_24.toNatClampNeg 0) 33).toInt = (f_15 33).toInt := pp_up_ne (by omega) (by omega)
  have hI_33 : mI (upd f_15 n_24.toNatClampNeg 0) := mI_01 hI_23 (by have := mI_b hI_23; omega) (by have := mI_b hI_23; omega) (by omega) (by omega) (by omega) (by omega)
  generalize upd f_15 n_24.toNatClampNeg 0 = f_25 at hP hD q_26 q_27 q_28 q_29 q_30 q_31 q_32 hI_33
  have hP : va_P (dC, dI) vwCl [(h0, .inr (7, [.ref a0, v1, v2, v3, v4, v5, v6, v7, v8, v9, v10, v11, v12, v13, v14, v15, v16, v17, v18, v19, v20, v21, v22, v23, v24, v25, v26, v27])), (a0, .inl (ac, 38, .inl f_25))] H := hP
  have hD : va_D A [(h0, .inr (7, [.ref a0, v1, v2, v3, v4, v5, v6, v7, v8, v9, v10, v11, v12, v13, v14, v15, v16, v17, v18, v19, v20, v21, v22, v23, v24, v25, v26, v27])), (a0, .inl (ac, 38, .inl f_25))] := hD
  refine lv_aload_n hx hb dX9_made_44 rfl (lv_at hl 2 rfl) ?_
  refine va_get (D := (dC, dI)) (ci := 7) (v := .ref a0) (C := RX9) (T := TX9) (N := 28) hx hb hts inX9 hown hK hP 0 rfl rfl 0 (by decide) (hts _ (List.mem_of_getElem? (i := 1) rfl)) (fun _ h9 => h9) rfl dX9_made_45 ?_
  refine lv_iconst (v := 0) hx hb dX9_made_48 (by decide) ?_
  refine lv_dup2_11 hx hb dX9_made_49 rfl rfl ?_
  refine va_iald hx hb hK hP 1 0 rfl rfl (vp_in_nI (n := 0) (by decide) (by decide)) dX9_made_50 ?_
  refine pp_ti (y := f_25 0) rfl ?_
  refine lv_topi (fun n_34 en_34 => ?_)
  have tn_34 : n_34.toInt = (f_25 0).toInt ∧ 0 ≤ n_34.toInt ∧ n_34.toInt ≤ 9 := mI_r0 hI_33 en_34
  clear en_34
  refine lv_iconst (v := 1) hx hb dX9_made_51 (by decide) ?_
  refine lv_iadd hx hb dX9_made_52 ?_
  refine lv_topi (fun n_35 en_35 => ?_)
  have tn_35 : n_35.toInt = n_34.toInt + 1 := pp_add en_35 rfl rfl (by omega) (by omega)
  clear en_35
  refine va_iast hx hb hK hP hD hS 1 0 rfl rfl (vp_in_nI (n := 0) (by decide) (by decide)) dX9_made_53 (fun H locs hP hD hS => ?_)
  have hP : va_P (dC, dI) vwCl [(h0, .inr (7, [.ref a0, v1, v2, v3, v4, v5, v6, v7, v8, v9, v10, v11, v12, v13, v14, v15, v16, v17, v18, v19, v20, v21, v22, v23, v24, v25, v26, v27])), (a0, .inl (ac, 38, .inl (upd f_25 0 n_35)))] H := hP
  have hD : va_D A [(h0, .inr (7, [.ref a0, v1, v2, v3, v4, v5, v6, v7, v8, v9, v10, v11, v12, v13, v14, v15, v16, v17, v18, v19, v20, v21, v22, v23, v24, v25, v26, v27])), (a0, .inl (ac, 38, .inl (upd f_25 0 n_35)))] := hD
  have q_37 : ((upd f_25 0 n_35) 0).toInt = n_35.toInt := pp_uN_eq rfl
  have q_38 : ((upd f_25 0 n_35) 1).toInt = (f_25 1).toInt := pp_uN_ne (by decide)
  have q_39 : ((upd f_25 0 n_35) 2).toInt = (f_25 2).toInt := pp_uN_ne (by decide)
  have q_40 : ((upd f_25 0 n_35) 30).toInt = (f_25 30).toInt := pp_uN_ne (by decide)
  have q_41 : ((upd f_25 0 n_35) 31).toInt = (f_25 31).toInt := pp_uN_ne (by decide)
  have q_42 : ((upd f_25 0 n_35) 32).toInt = (f_25 32).toInt := pp_uN_ne (by decide)
  have q_43 : ((upd f_25 0 n_35) 33).toInt = (f_25 33).toInt := pp_uN_ne (by decide)
  have hI_44 : mI (upd f_25 0 n_35) := mI_01 hI_33 (by have := mI_b hI_33; omega) (by have := mI_b hI_33; omega) (by omega) (by omega) (by omega) (by omega)
  generalize upd f_25 0 n_35 = f_36 at hP hD q_37 q_38 q_39 q_40 q_41 q_42 q_43 hI_44
  have hP : va_P (dC, dI) vwCl [(h0, .inr (7, [.ref a0, v1, v2, v3, v4, v5, v6, v7, v8, v9, v10, v11, v12, v13, v14, v15, v16, v17, v18, v19, v20, v21, v22, v23, v24, v25, v26, v27])), (a0, .inl (ac, 38, .inl f_36))] H := hP
  have hD : va_D A [(h0, .inr (7, [.ref a0, v1, v2, v3, v4, v5, v6, v7, v8, v9, v10, v11, v12, v13, v14, v15, v16, v17, v18, v19, v20, v21, v22, v23, v24, v25, v26, v27])), (a0, .inl (ac, 38, .inl f_36))] := hD
  refine lv_iload_n hx hb dX9_made_54 rfl (lv_at hl 1 rfl) ?_
  have hP9 := hP.sub (ws' := [(h0, .inr (7, [.ref a0, v1, v2, v3, v4, v5, v6, v7, v8, v9, v10, v11, v12, v13, v14, v15, v16, v17, v18, v19, v20, v21, v22, v23, v24, v25, v26, v27])), (a0, .inl (ac, 38, .inl f_36))]) [0, 1] rfl
  have hD9 := hD.sub (ws' := [(h0, .inr (7, [.ref a0, v1, v2, v3, v4, v5, v6, v7, v8, v9, v10, v11, v12, v13, v14, v15, v16, v17, v18, v19, v20, v21, v22, v23, v24, v25, v26, v27])), (a0, .inl (ac, 38, .inl f_36))]) [0, 1] (by decide) rfl
  have hK9 := hK.sub (tys' := [(ac, .int)]) [0] rfl
  exact W.iret (v := n_1) hx hb hr (fun t ht hW => ⟨⟨n_1, (), rfl, trivial, f_36, hI_44, (by first | omega | decide | (simp only [fa_lt, fa_le, fa_eq, and_true, true_and, and_false, false_and, not_true_eq_false, not_false_eq_true, li_0, li_1, li_2, li_3, li_4, li_5, li_6, li_7, li_8, li_9, li_10, li_12, li_15, li_16, li_20, li_30, li_34, li_38, li_40, li_63, li_64, li_65, li_78, li_120, li_1000, li_4000, li_10000, li_11077, li_255, li_65535, li_m1, li_m2, li_m1000000001, li_m1000000002, li_m1000000003, li_m1000000004, li_m1000000005, li_m1000000006, li_m1000000007, or_true, true_or, or_false, false_or, implies_true, true_implies, false_implies] <;> omega)), (by first | omega | decide | (simp only [fa_lt, fa_le, fa_eq, and_true, true_and, and_false, false_and, not_true_eq_false, not_false_eq_true, li_0, li_1, li_2, li_3, li_4, li_5, li_6, li_7, li_8, li_9, li_10, li_12, li_15, li_16, li_20, li_30, li_34, li_38, li_40, li_63, li_64, li_65, li_78, li_120, li_1000, li_4000, li_10000, li_11077, li_255, li_65535, li_m1, li_m2, li_m1000000001, li_m1000000002, li_m1000000003, li_m1000000004, li_m1000000005, li_m1000000006, li_m1000000007, or_true, true_or, or_false, false_or, implies_true, true_implies, false_implies] <;> omega)), by rw [ht]; exact hP9, va_K.moved hW.alike hK9, hD9⟩, hS.F ht⟩) hS.2.2 dX9_made_55

/-- a shape a came into a HOLD that was free -/
def hput (f g : Nat → Int32) (a : Int) : Prop :=
  ((f 30).toInt < 0 ∧ (g 30).toInt = a ∧ (g 31).toInt = (f 31).toInt ∧ (g 32).toInt = (f 32).toInt ∧ (g 33).toInt = (f 33).toInt) ∨
  ((f 31).toInt < 0 ∧ (g 30).toInt = (f 30).toInt ∧ (g 31).toInt = a ∧ (g 32).toInt = (f 32).toInt ∧ (g 33).toInt = (f 33).toInt) ∨
  ((f 32).toInt < 0 ∧ (g 30).toInt = (f 30).toInt ∧ (g 31).toInt = (f 31).toInt ∧ (g 32).toInt = a ∧ (g 33).toInt = (f 33).toInt) ∨
  ((f 33).toInt < 0 ∧ (g 30).toInt = (f 30).toInt ∧ (g 31).toInt = (f 31).toInt ∧ (g 32).toInt = (f 32).toInt ∧ (g 33).toInt = a)
/-- how many HOLDS are free -/
def fr1 (x : Int) : Nat := if x < 0 then 1 else 0
def fr (f : Nat → Int32) : Nat := fr1 (f 30).toInt + fr1 (f 31).toInt + fr1 (f 32).toInt + fr1 (f 33).toInt
theorem fr1_n {x : Int} (h : x < 0) : fr1 x = 1 := if_pos h
theorem fr1_p {x : Int} (h : 0 ≤ x) : fr1 x = 0 := if_neg (by omega)
theorem fr_put {f g : Nat → Int32} {a : Int} (h : hput f g a) (h0 : 0 ≤ a) : fr g + 1 = fr f := by
  unfold fr
  rcases h with ⟨b, c, d, e, q⟩ | ⟨b, c, d, e, q⟩ | ⟨b, c, d, e, q⟩ | ⟨b, c, d, e, q⟩ <;> (rw [c, d, e, q, fr1_n b, fr1_p h0]; try omega)

def w_m_holdOf : List Cond := .code yX9_holdOf cX9_holdOf 4 (some .int) :: (([.fieldLink RX9 9 "LampShapesModel" "now" "[I"] : List Cond) ++ wsX90)
set_option maxHeartbeats 4000000 in
set_option maxRecDepth 100000 in
theorem m_holdOf (l : Launch) (dC : Nat → ClassId) (dI : Nat → Nat → Nat) (ad : Nat → Nat) (h0 : Nat) (k : Int32) (a0 : Nat) (v1 : Value) (v2 : Value) (v3 : Value) (v4 : Value) (v5 : Value) (v6 : Value) (v7 : Value) (v8 : Value) (v9 : Value) (v10 : Value) (v11 : Value) (v12 : Value) (v13 : Value) (v14 : Value) (v15 : Value) (v16 : Value) (v17 : Value) (v18 : Value) (v19 : Value) (v20 : Value) (v21 : Value) (v22 : Value) (v23 : Value) (v24 : Value) (v25 : Value) (v26 : Value) (v27 : Value) (ac : ClassId) (nf : Nat → Int32) (hI : mI nf) : Met l yX9_holdOf w_m_holdOf ({ frames := 0, cells := 0, slots := 0, locals := 0 } : Room) (va_Pc [.ref h0, .int k] (preS dC dI ad [(ac, .int)] [(h0, .inr (7, [.ref a0, v1, v2, v3, v4, v5, v6, v7, v8, v9, v10, v11, v12, v13, v14, v15, v16, v17, v18, v19, v20, v21, v22, v23, v24, v25, v26, v27])), (a0, .inl (ac, 38, .inl nf))])) (vp_Si (fun r => (-1) ≤ r.toInt ∧ r.toInt ≤ 3 ∧ ((0 ≤ r.toInt ∧ hF nf k.toInt) ∨ (r.toInt = (-1) ∧ ¬ hF nf k.toInt)))) 0 0 (fun _ => False) := by
  refine Met.ofW (cc := cX9_holdOf) (maxL := 4) (ret := (some .int)) (by decide) rfl ?_
  intro p e s m args below meth c s₁ B hml hv
  obtain ⟨rfl, hP, hK, hev⟩ := hv
  have hx := B.exec
  have hb := B.bytes
  have hr := B.returns
  have hts := atoms_spec (ws := w_m_holdOf) B.pre
  have hown : s.vm.findClass RX9 = some m.cls := findClass_of_methodNamed B.named
  have hlocks := B.notSynchronized
  have inX9 : ∀ w ∈ wsX90, w ∈ w_m_holdOf := fun w h => List.mem_cons_of_mem _ (List.mem_append_right _ h)
  have hP : va_P (dC, dI) vwCl [(h0, .inr (7, [.ref a0, v1, v2, v3, v4, v5, v6, v7, v8, v9, v10, v11, v12, v13, v14, v15, v16, v17, v18, v19, v20, v21, v22, v23, v24, v25, v26, v27])), (a0, .inl (ac, 38, .inl nf))] s.heap := hP
  have hl := lv_entry ([.ref h0, .int k]) (n := 4) (Nat.le_of_ble_eq_true rfl)
  rw [lg_entry_eq]
  generalize (lg_sl ([.ref h0, .int k]) ++ List.replicate (4 - (lg_sl ([.ref h0, .int k])).length) Slot.unset).toArray = ls at hl ⊢
  have hl : lv_has ls 4 [(0, .ref h0), (1, .int k)] := hl
  refine lv_iconst (v := (-1)) hx hb dX9_holdOf_0 (by decide) ?_
  refine lv_istore_n (lv' := [(2, .int (-1)), (0, .ref h0), (1, .int k)]) hx hb dX9_holdOf_1 rfl hl (by decide) rfl (fun ls hl => ?_)
  refine lv_iconst (v := 0) hx hb dX9_holdOf_2 (by decide) ?_
  refine lv_istore_n (lv' := [(3, .int 0), (2, .int (-1)), (0, .ref h0), (1, .int k)]) hx hb dX9_holdOf_3 rfl hl (by decide) rfl (fun ls hl => ?_)
  refine lv_iload_n hx hb dX9_holdOf_4 rfl (lv_at hl 0 rfl) ?_
  refine lv_iconst (v := 4) hx hb dX9_holdOf_5 (by decide) ?_
  refine lv_icmp_ge (tgt := 34) hx hb dX9_holdOf_6 (by decide) (fun c => absurd c (by decide)) (fun _ => ?_)
  refine lv_aload_n hx hb dX9_holdOf_9 rfl (lv_at hl 2 rfl) ?_
  refine va_get (D := (dC, dI)) (ci := 7) (v := .ref a0) (C := RX9) (T := TX9) (N := 28) hx hb hts inX9 hown hK hP 0 rfl rfl 0 (by decide) (hts _ (List.mem_of_getElem? (i := 1) rfl)) (fun _ h9 => h9) rfl dX9_holdOf_10 ?_
  refine lv_bipush (v := 30) hx hb dX9_holdOf_13 (by decide) ?_
  refine lv_iload_n hx hb dX9_holdOf_15 rfl (lv_at hl 0 rfl) ?_
  refine lv_iadd hx hb dX9_holdOf_16 ?_
  refine pp_ti (y := 30) (by decide) ?_
  refine va_iald hx hb hK hP 1 0 rfl rfl (vp_in_nI (n := 30) (by decide) (by decide)) dX9_holdOf_17 ?_
  refine pp_ti (y := nf 30) rfl ?_
  refine lv_topi (fun n_1 en_1 => ?_)
  have tn_1 : n_1.toInt = (nf 30).toInt ∧ (-1) ≤ n_1.toInt ∧ n_1.toInt ≤ 8 := mI_r30 hI en_1
  clear en_1
  refine lv_iload_n hx hb dX9_holdOf_18 rfl (lv_at hl 3 rfl) ?_
  have rc_2_x := pp_rng n_1
  have rc_2_y := pp_rng k
  refine lv_icmp_ne (tgt := 26) hx hb dX9_holdOf_19 (by decide) (fun c_2 => ?_) (fun c_2 => ?_)
  · skip
    have tc_2 : ¬ n_1.toInt = k.toInt := fun h => c_2 ((fa_eq _ _).mpr h)
    refine lv_iload_n hx hb dX9_holdOf_26 rfl (lv_at hl 1 rfl) ?_
    refine lv_istore_n (lv' := [(2, .int (-1)), (3, .int 0), (0, .ref h0), (1, .int k)]) hx hb dX9_holdOf_27 rfl hl (by decide) rfl (fun ls hl => ?_)
    refine lv_iinc (v := 1) (lv' := [(3, .int 1), (2, .int (-1)), (0, .ref h0), (1, .int k)]) hx hb dX9_holdOf_28 hl (k := 1) rfl (by decide) (by decide) rfl (fun ls hl => ?_)
    refine lv_goto (tgt := 4) hx hb dX9_holdOf_31 (by decide) ?_
    refine lv_iload_n hx hb dX9_holdOf_4 rfl (lv_at hl 0 rfl) ?_
    refine lv_iconst (v := 4) hx hb dX9_holdOf_5 (by decide) ?_
    refine lv_icmp_ge (tgt := 34) hx hb dX9_holdOf_6 (by decide) (fun c => absurd c (by decide)) (fun _ => ?_)
    refine lv_aload_n hx hb dX9_holdOf_9 rfl (lv_at hl 2 rfl) ?_
    refine va_get (D := (dC, dI)) (ci := 7) (v := .ref a0) (C := RX9) (T := TX9) (N := 28) hx hb hts inX9 hown hK hP 0 rfl rfl 0 (by decide) (hts _ (List.mem_of_getElem? (i := 1) rfl)) (fun _ h9 => h9) rfl dX9_holdOf_10 ?_
    refine lv_bipush (v := 30) hx hb dX9_holdOf_13 (by decide) ?_
    refine lv_iload_n hx hb dX9_holdOf_15 rfl (lv_at hl 0 rfl) ?_
    refine lv_iadd hx hb dX9_holdOf_16 ?_
    refine pp_ti (y := 31) (by decide) ?_
    refine va_iald hx hb hK hP 1 0 rfl rfl (vp_in_nI (n := 31) (by decide) (by decide)) dX9_holdOf_17 ?_
    refine pp_ti (y := nf 31) rfl ?_
    refine lv_topi (fun n_3 en_3 => ?_)
    have tn_3 : n_3.toInt = (nf 31).toInt ∧ (-1) ≤ n_3.toInt ∧ n_3.toInt ≤ 8 := mI_r31 hI en_3
    clear en_3
    refine lv_iload_n hx hb dX9_holdOf_18 rfl (lv_at hl 3 rfl) ?_
    have rc_4_x := pp_rng n_3
    have rc_4_y := pp_rng k
    refine lv_icmp_ne (tgt := 26) hx hb dX9_holdOf_19 (by decide) (fun c_4 => ?_) (fun c_4 => ?_)
    · skip
      have tc_4 : ¬ n_3.toInt = k.toInt := fun h => c_4 ((fa_eq _ _).mpr h)
      refine lv_iload_n hx hb dX9_holdOf_26 rfl (lv_at hl 1 rfl) ?_
      refine lv_istore_n (lv' := [(2, .int (-1)), (3, .int 1), (0, .ref h0), (1, .int k)]) hx hb dX9_holdOf_27 rfl hl (by decide) rfl (fun ls hl => ?_)
      refine lv_iinc (v := 2) (lv' := [(3, .int 2), (2, .int (-1)), (0, .ref h0), (1, .int k)]) hx hb dX9_holdOf_28 hl (k := 1) rfl (by decide) (by decide) rfl (fun ls hl => ?_)
      refine lv_goto (tgt := 4) hx hb dX9_holdOf_31 (by decide) ?_
      refine lv_iload_n hx hb dX9_holdOf_4 rfl (lv_at hl 0 rfl) ?_
      refine lv_iconst (v := 4) hx hb dX9_holdOf_5 (by decide) ?_
      refine lv_icmp_ge (tgt := 34) hx hb dX9_holdOf_6 (by decide) (fun c => absurd c (by decide)) (fun _ => ?_)
      refine lv_aload_n hx hb dX9_holdOf_9 rfl (lv_at hl 2 rfl) ?_
      refine va_get (D := (dC, dI)) (ci := 7) (v := .ref a0) (C := RX9) (T := TX9) (N := 28) hx hb hts inX9 hown hK hP 0 rfl rfl 0 (by decide) (hts _ (List.mem_of_getElem? (i := 1) rfl)) (fun _ h9 => h9) rfl dX9_holdOf_10 ?_
      refine lv_bipush (v := 30) hx hb dX9_holdOf_13 (by decide) ?_
      refine lv_iload_n hx hb dX9_holdOf_15 rfl (lv_at hl 0 rfl) ?_
      refine lv_iadd hx hb dX9_holdOf_16 ?_
      refine pp_ti (y := 32) (by decide) ?_
      refine va_iald hx hb hK hP 1 0 rfl rfl (vp_in_nI (n := 32) (by decide) (by decide)) dX9_holdOf_17 ?_
      refine pp_ti (y := nf 32) rfl ?_
      refine lv_topi (fun n_5 en_5 => ?_)
      have tn_5 : n_5.toInt = (nf 32).toInt ∧ (-1) ≤ n_5.toInt ∧ n_5.toInt ≤ 8 := mI_r32 hI en_5
      clear en_5
      refine lv_iload_n hx hb dX9_holdOf_18 rfl (lv_at hl 3 rfl) ?_
      have rc_6_x := pp_rng n_5
      have rc_6_y := pp_rng k
      refine lv_icmp_ne (tgt := 26) hx hb dX9_holdOf_19 (by decide) (fun c_6 => ?_) (fun c_6 => ?_)
      · skip
        have tc_6 : ¬ n_5.toInt = k.toInt := fun h => c_6 ((fa_eq _ _).mpr h)
        refine lv_iload_n hx hb dX9_holdOf_26 rfl (lv_at hl 1 rfl) ?_
        refine lv_istore_n (lv' := [(2, .int (-1)), (3, .int 2), (0, .ref h0), (1, .int k)]) hx hb dX9_holdOf_27 rfl hl (by decide) rfl (fun ls hl => ?_)
        refine lv_iinc (v := 3) (lv' := [(3, .int 3), (2, .int (-1)), (0, .ref h0), (1, .int k)]) hx hb dX9_holdOf_28 hl (k := 1) rfl (by decide) (by decide) rfl (fun ls hl => ?_)
        refine lv_goto (tgt := 4) hx hb dX9_holdOf_31 (by decide) ?_
        refine lv_iload_n hx hb dX9_holdOf_4 rfl (lv_at hl 0 rfl) ?_
        refine lv_iconst (v := 4) hx hb dX9_holdOf_5 (by decide) ?_
        refine lv_icmp_ge (tgt := 34) hx hb dX9_holdOf_6 (by decide) (fun c => absurd c (by decide)) (fun _ => ?_)
        refine lv_aload_n hx hb dX9_holdOf_9 rfl (lv_at hl 2 rfl) ?_
        refine va_get (D := (dC, dI)) (ci := 7) (v := .ref a0) (C := RX9) (T := TX9) (N := 28) hx hb hts inX9 hown hK hP 0 rfl rfl 0 (by decide) (hts _ (List.mem_of_getElem? (i := 1) rfl)) (fun _ h9 => h9) rfl dX9_holdOf_10 ?_
        refine lv_bipush (v := 30) hx hb dX9_holdOf_13 (by decide) ?_
        refine lv_iload_n hx hb dX9_holdOf_15 rfl (lv_at hl 0 rfl) ?_
        refine lv_iadd hx hb dX9_holdOf_16 ?_
        refine pp_ti (y := 33) (by decide) ?_
        refine va_iald hx hb hK hP 1 0 rfl rfl (vp_in_nI (n := 33) (by decide) (by decide)) dX9_holdOf_17 ?_
        refine pp_ti (y := nf 33) rfl ?_
        refine lv_topi (fun n_7 en_7 => ?_)
        have tn_7 : n_7.toInt = (nf 33).toInt ∧ (-1) ≤ n_7.toInt ∧ n_7.toInt ≤ 8 := mI_r33 hI en_7
        clear en_7
        refine lv_iload_n hx hb dX9_holdOf_18 rfl (lv_at hl 3 rfl) ?_
        have rc_8_x := pp_rng n_7
        have rc_8_y := pp_rng k
        refine lv_icmp_ne (tgt := 26) hx hb dX9_holdOf_19 (by decide) (fun c_8 => ?_) (fun c_8 => ?_)
        · skip
          have tc_8 : ¬ n_7.toInt = k.toInt := fun h => c_8 ((fa_eq _ _).mpr h)
          refine lv_iload_n hx hb dX9_holdOf_26 rfl (lv_at hl 1 rfl) ?_
          refine lv_istore_n (lv' := [(2, .int (-1)), (3, .int 3), (0, .ref h0), (1, .int k)]) hx hb dX9_holdOf_27 rfl hl (by decide) rfl (fun ls hl => ?_)
          refine lv_iinc (v := 4) (lv' := [(3, .int 4), (2, .int (-1)), (0, .ref h0), (1, .int k)]) hx hb dX9_holdOf_28 hl (k := 1) rfl (by decide) (by decide) rfl (fun ls hl => ?_)
          refine lv_goto (tgt := 4) hx hb dX9_holdOf_31 (by decide) ?_
          refine lv_iload_n hx hb dX9_holdOf_4 rfl (lv_at hl 0 rfl) ?_
          refine lv_iconst (v := 4) hx hb dX9_holdOf_5 (by decide) ?_
          refine lv_icmp_ge (tgt := 34) hx hb dX9_holdOf_6 (by decide) (fun _ => ?_) (fun c => absurd (by decide) c)
          refine lv_iload_n hx hb dX9_holdOf_34 rfl (lv_at hl 1 rfl) ?_
          exact W.iret (v := ((-1) : Int32)) hx hb hr (fun t ht hW => ⟨((-1) : Int32), rfl, (by unfold hF; first | omega | (simp only [fa_lt, fa_le, fa_eq, and_true, true_and, and_false, false_and, not_true_eq_false, not_false_eq_true, li_0, li_1, li_2, li_3, li_4, li_5, li_6, li_7, li_8, li_9, li_10, li_12, li_15, li_16, li_20, li_30, li_34, li_38, li_40, li_63, li_64, li_65, li_78, li_120, li_1000, li_4000, li_10000, li_11077, li_255, li_65535, li_m1, li_m2, li_m1000000001, li_m1000000002, li_m1000000003, li_m1000000004, li_m1000000005, li_m1000000006, li_m1000000007, or_true, true_or, or_false, false_or, implies_true, true_implies, false_implies] <;> omega)), ht⟩) (fun _ h => absurd h List.not_mem_nil) dX9_holdOf_35
        · skip
          have tc_8 : n_7.toInt = k.toInt := (fa_eq _ _).mp c_8
          refine lv_iload_n hx hb dX9_holdOf_22 rfl (lv_at hl 0 rfl) ?_
          refine lv_goto (tgt := 27) hx hb dX9_holdOf_23 (by decide) ?_
          refine lv_istore_n (lv' := [(2, .int 3), (3, .int 3), (0, .ref h0), (1, .int k)]) hx hb dX9_holdOf_27 rfl hl (by decide) rfl (fun ls hl => ?_)
          refine lv_iinc (v := 4) (lv' := [(3, .int 4), (2, .int 3), (0, .ref h0), (1, .int k)]) hx hb dX9_holdOf_28 hl (k := 1) rfl (by decide) (by decide) rfl (fun ls hl => ?_)
          refine lv_goto (tgt := 4) hx hb dX9_holdOf_31 (by decide) ?_
          refine lv_iload_n hx hb dX9_holdOf_4 rfl (lv_at hl 0 rfl) ?_
          refine lv_iconst (v := 4) hx hb dX9_holdOf_5 (by decide) ?_
          refine lv_icmp_ge (tgt := 34) hx hb dX9_holdOf_6 (by decide) (fun _ => ?_) (fun c => absurd (by decide) c)
          refine lv_iload_n hx hb dX9_holdOf_34 rfl (lv_at hl 1 rfl) ?_
          exact W.iret (v := (3 : Int32)) hx hb hr (fun t ht hW => ⟨(3 : Int32), rfl, (by unfold hF; first | omega | (simp only [fa_lt, fa_le, fa_eq, and_true, true_and, and_false, false_and, not_true_eq_false, not_false_eq_true, li_0, li_1, li_2, li_3, li_4, li_5, li_6, li_7, li_8, li_9, li_10, li_12, li_15, li_16, li_20, li_30, li_34, li_38, li_40, li_63, li_64, li_65, li_78, li_120, li_1000, li_4000, li_10000, li_11077, li_255, li_65535, li_m1, li_m2, li_m1000000001, li_m1000000002, li_m1000000003, li_m1000000004, li_m1000000005, li_m1000000006, li_m1000000007, or_true, true_or, or_false, false_or, implies_true, true_implies, false_implies] <;> omega)), ht⟩) (fun _ h => absurd h List.not_mem_nil) dX9_holdOf_35
      · skip
        have tc_6 : n_5.toInt = k.toInt := (fa_eq _ _).mp c_6
        refine lv_iload_n hx hb dX9_holdOf_22 rfl (lv_at hl 0 rfl) ?_
        refine lv_goto (tgt := 27) hx hb dX9_holdOf_23 (by decide) ?_
        refine lv_istore_n (lv' := [(2, .int 2), (3, .int 2), (0, .ref h0), (1, .int k)]) hx hb dX9_holdOf_27 rfl hl (by decide) rfl (fun ls hl => ?_)
        refine lv_iinc (v := 3) (lv' := [(3, .int 3), (2, .int 2), (0, .ref h0), (1, .int k)]) hx hb dX9_holdOf_28 hl (k := 1) rfl (by decide) (by decide) rfl (fun ls hl => ?_)
        refine lv_goto (tgt := 4) hx hb dX9_holdOf_31 (by decide) ?_
        refine lv_iload_n hx hb dX9_holdOf_4 rfl (lv_at hl 0 rfl) ?_
        refine lv_iconst (v := 4) hx hb dX9_holdOf_5 (by decide) ?_
        refine lv_icmp_ge (tgt := 34) hx hb dX9_holdOf_6 (by decide) (fun c => absurd c (by decide)) (fun _ => ?_)
        refine lv_aload_n hx hb dX9_holdOf_9 rfl (lv_at hl 2 rfl) ?_
        refine va_get (D := (dC, dI)) (ci := 7) (v := .ref a0) (C := RX9) (T := TX9) (N := 28) hx hb hts inX9 hown hK hP 0 rfl rfl 0 (by decide) (hts _ (List.mem_of_getElem? (i := 1) rfl)) (fun _ h9 => h9) rfl dX9_holdOf_10 ?_
        refine lv_bipush (v := 30) hx hb dX9_holdOf_13 (by decide) ?_
        refine lv_iload_n hx hb dX9_holdOf_15 rfl (lv_at hl 0 rfl) ?_
        refine lv_iadd hx hb dX9_holdOf_16 ?_
        refine pp_ti (y := 33) (by decide) ?_
        refine va_iald hx hb hK hP 1 0 rfl rfl (vp_in_nI (n := 33) (by decide) (by decide)) dX9_holdOf_17 ?_
        refine pp_ti (y := nf 33) rfl ?_
        refine lv_topi (fun n_9 en_9 => ?_)
        have tn_9 : n_9.toInt = (nf 33).toInt ∧ (-1) ≤ n_9.toInt ∧ n_9.toInt ≤ 8 := mI_r33 hI en_9
        clear en_9
        refine lv_iload_n hx hb dX9_holdOf_18 rfl (lv_at hl 3 rfl) ?_
        have rc_10_x := pp_rng n_9
        have rc_10_y := pp_rng k
        refine lv_icmp_ne (tgt := 26) hx hb dX9_holdOf_19 (by decide) (fun c_10 => ?_) (fun c_10 => ?_)
        · skip
          have tc_10 : ¬ n_9.toInt = k.toInt := fun h => c_10 ((fa_eq _ _).mpr h)
          refine lv_iload_n hx hb dX9_holdOf_26 rfl (lv_at hl 1 rfl) ?_
          refine lv_istore_n (lv' := [(2, .int 2), (3, .int 3), (0, .ref h0), (1, .int k)]) hx hb dX9_holdOf_27 rfl hl (by decide) rfl (fun ls hl => ?_)
          refine lv_iinc (v := 4) (lv' := [(3, .int 4), (2, .int 2), (0, .ref h0), (1, .int k)]) hx hb dX9_holdOf_28 hl (k := 1) rfl (by decide) (by decide) rfl (fun ls hl => ?_)
          refine lv_goto (tgt := 4) hx hb dX9_holdOf_31 (by decide) ?_
          refine lv_iload_n hx hb dX9_holdOf_4 rfl (lv_at hl 0 rfl) ?_
          refine lv_iconst (v := 4) hx hb dX9_holdOf_5 (by decide) ?_
          refine lv_icmp_ge (tgt := 34) hx hb dX9_holdOf_6 (by decide) (fun _ => ?_) (fun c => absurd (by decide) c)
          refine lv_iload_n hx hb dX9_holdOf_34 rfl (lv_at hl 1 rfl) ?_
          exact W.iret (v := (2 : Int32)) hx hb hr (fun t ht hW => ⟨(2 : Int32), rfl, (by unfold hF; first | omega | (simp only [fa_lt, fa_le, fa_eq, and_true, true_and, and_false, false_and, not_true_eq_false, not_false_eq_true, li_0, li_1, li_2, li_3, li_4, li_5, li_6, li_7, li_8, li_9, li_10, li_12, li_15, li_16, li_20, li_30, li_34, li_38, li_40, li_63, li_64, li_65, li_78, li_120, li_1000, li_4000, li_10000, li_11077, li_255, li_65535, li_m1, li_m2, li_m1000000001, li_m1000000002, li_m1000000003, li_m1000000004, li_m1000000005, li_m1000000006, li_m1000000007, or_true, true_or, or_false, false_or, implies_true, true_implies, false_implies] <;> omega)), ht⟩) (fun _ h => absurd h List.not_mem_nil) dX9_holdOf_35
        · skip
          have tc_10 : n_9.toInt = k.toInt := (fa_eq _ _).mp c_10
          refine lv_iload_n hx hb dX9_holdOf_22 rfl (lv_at hl 0 rfl) ?_
          refine lv_goto (tgt := 27) hx hb dX9_holdOf_23 (by decide) ?_
          refine lv_istore_n (lv' := [(2, .int 3), (3, .int 3), (0, .ref h0), (1, .int k)]) hx hb dX9_holdOf_27 rfl hl (by decide) rfl (fun ls hl => ?_)
          refine lv_iinc (v := 4) (lv' := [(3, .int 4), (2, .int 3), (0, .ref h0), (1, .int k)]) hx hb dX9_holdOf_28 hl (k := 1) rfl (by decide) (by decide) rfl (fun ls hl => ?_)
          refine lv_goto (tgt := 4) hx hb dX9_holdOf_31 (by decide) ?_
          refine lv_iload_n hx hb dX9_holdOf_4 rfl (lv_at hl 0 rfl) ?_
          refine lv_iconst (v := 4) hx hb dX9_holdOf_5 (by decide) ?_
          refine lv_icmp_ge (tgt := 34) hx hb dX9_holdOf_6 (by decide) (fun _ => ?_) (fun c => absurd (by decide) c)
          refine lv_iload_n hx hb dX9_holdOf_34 rfl (lv_at hl 1 rfl) ?_
          exact W.iret (v := (3 : Int32)) hx hb hr (fun t ht hW => ⟨(3 : Int32), rfl, (by unfold hF; first | omega | (simp only [fa_lt, fa_le, fa_eq, and_true, true_and, and_false, false_and, not_true_eq_false, not_false_eq_true, li_0, li_1, li_2, li_3, li_4, li_5, li_6, li_7, li_8, li_9, li_10, li_12, li_15, li_16, li_20, li_30, li_34, li_38, li_40, li_63, li_64, li_65, li_78, li_120, li_1000, li_4000, li_10000, li_11077, li_255, li_65535, li_m1, li_m2, li_m1000000001, li_m1000000002, li_m1000000003, li_m1000000004, li_m1000000005, li_m1000000006, li_m1000000007, or_true, true_or, or_false, false_or, implies_true, true_implies, false_implies] <;> omega)), ht⟩) (fun _ h => absurd h List.not_mem_nil) dX9_holdOf_35
    · skip
      have tc_4 : n_3.toInt = k.toInt := (fa_eq _ _).mp c_4
      refine lv_iload_n hx hb dX9_holdOf_22 rfl (lv_at hl 0 rfl) ?_
      refine lv_goto (tgt := 27) hx hb dX9_holdOf_23 (by decide) ?_
      refine lv_istore_n (lv' := [(2, .int 1), (3, .int 1), (0, .ref h0), (1, .int k)]) hx hb dX9_holdOf_27 rfl hl (by decide) rfl (fun ls hl => ?_)
      refine lv_iinc (v := 2) (lv' := [(3, .int 2), (2, .int 1), (0, .ref h0), (1, .int k)]) hx hb dX9_holdOf_28 hl (k := 1) rfl (by decide) (by decide) rfl (fun ls hl => ?_)
      refine lv_goto (tgt := 4) hx hb dX9_holdOf_31 (by decide) ?_
      refine lv_iload_n hx hb dX9_holdOf_4 rfl (lv_at hl 0 rfl) ?_
      refine lv_iconst (v := 4) hx hb dX9_holdOf_5 (by decide) ?_
      refine lv_icmp_ge (tgt := 34) hx hb dX9_holdOf_6 (by decide) (fun c => absurd c (by decide)) (fun _ => ?_)
      refine lv_aload_n hx hb dX9_holdOf_9 rfl (lv_at hl 2 rfl) ?_
      refine va_get (D := (dC, dI)) (ci := 7) (v := .ref a0) (C := RX9) (T := TX9) (N := 28) hx hb hts inX9 hown hK hP 0 rfl rfl 0 (by decide) (hts _ (List.mem_of_getElem? (i := 1) rfl)) (fun _ h9 => h9) rfl dX9_holdOf_10 ?_
      refine lv_bipush (v := 30) hx hb dX9_holdOf_13 (by decide) ?_
      refine lv_iload_n hx hb dX9_holdOf_15 rfl (lv_at hl 0 rfl) ?_
      refine lv_iadd hx hb dX9_holdOf_16 ?_
      refine pp_ti (y := 32) (by decide) ?_
      refine va_iald hx hb hK hP 1 0 rfl rfl (vp_in_nI (n := 32) (by decide) (by decide)) dX9_holdOf_17 ?_
      refine pp_ti (y := nf 32) rfl ?_
      refine lv_topi (fun n_11 en_11 => ?_)
      have tn_11 : n_11.toInt = (nf 32).toInt ∧ (-1) ≤ n_11.toInt ∧ n_11.toInt ≤ 8 := mI_r32 hI en_11
      clear en_11
      refine lv_iload_n hx hb dX9_holdOf_18 rfl (lv_at hl 3 rfl) ?_
      have rc_12_x := pp_rng n_11
      have rc_12_y := pp_rng k
      refine lv_icmp_ne (tgt := 26) hx hb dX9_holdOf_19 (by decide) (fun c_12 => ?_) (fun c_12 => ?_)
      · skip
        have tc_12 : ¬ n_11.toInt = k.toInt := fun h => c_12 ((fa_eq _ _).mpr h)
        refine lv_iload_n hx hb dX9_holdOf_26 rfl (lv_at hl 1 rfl) ?_
        refine lv_istore_n (lv' := [(2, .int 1), (3, .int 2), (0, .ref h0), (1, .int k)]) hx hb dX9_holdOf_27 rfl hl (by decide) rfl (fun ls hl => ?_)
        refine lv_iinc (v := 3) (lv' := [(3, .int 3), (2, .int 1), (0, .ref h0), (1, .int k)]) hx hb dX9_holdOf_28 hl (k := 1) rfl (by decide) (by decide) rfl (fun ls hl => ?_)
        refine lv_goto (tgt := 4) hx hb dX9_holdOf_31 (by decide) ?_
        refine lv_iload_n hx hb dX9_holdOf_4 rfl (lv_at hl 0 rfl) ?_
        refine lv_iconst (v := 4) hx hb dX9_holdOf_5 (by decide) ?_
        refine lv_icmp_ge (tgt := 34) hx hb dX9_holdOf_6 (by decide) (fun c => absurd c (by decide)) (fun _ => ?_)
        refine lv_aload_n hx hb dX9_holdOf_9 rfl (lv_at hl 2 rfl) ?_
        refine va_get (D := (dC, dI)) (ci := 7) (v := .ref a0) (C := RX9) (T := TX9) (N := 28) hx hb hts inX9 hown hK hP 0 rfl rfl 0 (by decide) (hts _ (List.mem_of_getElem? (i := 1) rfl)) (fun _ h9 => h9) rfl dX9_holdOf_10 ?_
        refine lv_bipush (v := 30) hx hb dX9_holdOf_13 (by decide) ?_
        refine lv_iload_n hx hb dX9_holdOf_15 rfl (lv_at hl 0 rfl) ?_
        refine lv_iadd hx hb dX9_holdOf_16 ?_
        refine pp_ti (y := 33) (by decide) ?_
        refine va_iald hx hb hK hP 1 0 rfl rfl (vp_in_nI (n := 33) (by decide) (by decide)) dX9_holdOf_17 ?_
        refine pp_ti (y := nf 33) rfl ?_
        refine lv_topi (fun n_13 en_13 => ?_)
        have tn_13 : n_13.toInt = (nf 33).toInt ∧ (-1) ≤ n_13.toInt ∧ n_13.toInt ≤ 8 := mI_r33 hI en_13
        clear en_13
        refine lv_iload_n hx hb dX9_holdOf_18 rfl (lv_at hl 3 rfl) ?_
        have rc_14_x := pp_rng n_13
        have rc_14_y := pp_rng k
        refine lv_icmp_ne (tgt := 26) hx hb dX9_holdOf_19 (by decide) (fun c_14 => ?_) (fun c_14 => ?_)
        · skip
          have tc_14 : ¬ n_13.toInt = k.toInt := fun h => c_14 ((fa_eq _ _).mpr h)
          refine lv_iload_n hx hb dX9_holdOf_26 rfl (lv_at hl 1 rfl) ?_
          refine lv_istore_n (lv' := [(2, .int 1), (3, .int 3), (0, .ref h0), (1, .int k)]) hx hb dX9_holdOf_27 rfl hl (by decide) rfl (fun ls hl => ?_)
          refine lv_iinc (v := 4) (lv' := [(3, .int 4), (2, .int 1), (0, .ref h0), (1, .int k)]) hx hb dX9_holdOf_28 hl (k := 1) rfl (by decide) (by decide) rfl (fun ls hl => ?_)
          refine lv_goto (tgt := 4) hx hb dX9_holdOf_31 (by decide) ?_
          refine lv_iload_n hx hb dX9_holdOf_4 rfl (lv_at hl 0 rfl) ?_
          refine lv_iconst (v := 4) hx hb dX9_holdOf_5 (by decide) ?_
          refine lv_icmp_ge (tgt := 34) hx hb dX9_holdOf_6 (by decide) (fun _ => ?_) (fun c => absurd (by decide) c)
          refine lv_iload_n hx hb dX9_holdOf_34 rfl (lv_at hl 1 rfl) ?_
          exact W.iret (v := (1 : Int32)) hx hb hr (fun t ht hW => ⟨(1 : Int32), rfl, (by unfold hF; first | omega | (simp only [fa_lt, fa_le, fa_eq, and_true, true_and, and_false, false_and, not_true_eq_false, not_false_eq_true, li_0, li_1, li_2, li_3, li_4, li_5, li_6, li_7, li_8, li_9, li_10, li_12, li_15, li_16, li_20, li_30, li_34, li_38, li_40, li_63, li_64, li_65, li_78, li_120, li_1000, li_4000, li_10000, li_11077, li_255, li_65535, li_m1, li_m2, li_m1000000001, li_m1000000002, li_m1000000003, li_m1000000004, li_m1000000005, li_m1000000006, li_m1000000007, or_true, true_or, or_false, false_or, implies_true, true_implies, false_implies] <;> omega)), ht⟩) (fun _ h => absurd h List.not_mem_nil) dX9_holdOf_35
        · skip
          have tc_14 : n_13.toInt = k.toInt := (fa_eq _ _).mp c_14
          refine lv_iload_n hx hb dX9_holdOf_22 rfl (lv_at hl 0 rfl) ?_
          refine lv_goto (tgt := 27) hx hb dX9_holdOf_23 (by decide) ?_
          refine lv_istore_n (lv' := [(2, .int 3), (3, .int 3), (0, .ref h0), (1, .int k)]) hx hb dX9_holdOf_27 rfl hl (by decide) rfl (fun ls hl => ?_)
          refine lv_iinc (v := 4) (lv' := [(3, .int 4), (2, .int 3), (0, .ref h0), (1, .int k)]) hx hb dX9_holdOf_28 hl (k := 1) rfl (by decide) (by decide) rfl (fun ls hl => ?_)
          refine lv_goto (tgt := 4) hx hb dX9_holdOf_31 (by decide) ?_
          refine lv_iload_n hx hb dX9_holdOf_4 rfl (lv_at hl 0 rfl) ?_
          refine lv_iconst (v := 4) hx hb dX9_holdOf_5 (by decide) ?_
          refine lv_icmp_ge (tgt := 34) hx hb dX9_holdOf_6 (by decide) (fun _ => ?_) (fun c => absurd (by decide) c)
          refine lv_iload_n hx hb dX9_holdOf_34 rfl (lv_at hl 1 rfl) ?_
          exact W.iret (v := (3 : Int32)) hx hb hr (fun t ht hW => ⟨(3 : Int32), rfl, (by unfold hF; first | omega | (simp only [fa_lt, fa_le, fa_eq, and_true, true_and, and_false, false_and, not_true_eq_false, not_false_eq_true, li_0, li_1, li_2, li_3, li_4, li_5, li_6, li_7, li_8, li_9, li_10, li_12, li_15, li_16, li_20, li_30, li_34, li_38, li_40, li_63, li_64, li_65, li_78, li_120, li_1000, li_4000, li_10000, li_11077, li_255, li_65535, li_m1, li_m2, li_m1000000001, li_m1000000002, li_m1000000003, li_m1000000004, li_m1000000005, li_m1000000006, li_m1000000007, or_true, true_or, or_false, false_or, implies_true, true_implies, false_implies] <;> omega)), ht⟩) (fun _ h => absurd h List.not_mem_nil) dX9_holdOf_35
      · skip
        have tc_12 : n_11.toInt = k.toInt := (fa_eq _ _).mp c_12
        refine lv_iload_n hx hb dX9_holdOf_22 rfl (lv_at hl 0 rfl) ?_
        refine lv_goto (tgt := 27) hx hb dX9_holdOf_23 (by decide) ?_
        refine lv_istore_n (lv' := [(2, .int 2), (3, .int 2), (0, .ref h0), (1, .int k)]) hx hb dX9_holdOf_27 rfl hl (by decide) rfl (fun ls hl => ?_)
        refine lv_iinc (v := 3) (lv' := [(3, .int 3), (2, .int 2), (0, .ref h0), (1, .int k)]) hx hb dX9_holdOf_28 hl (k := 1) rfl (by decide) (by decide) rfl (fun ls hl => ?_)
        refine lv_goto (tgt := 4) hx hb dX9_holdOf_31 (by decide) ?_
        refine lv_iload_n hx hb dX9_holdOf_4 rfl (lv_at hl 0 rfl) ?_
        refine lv_iconst (v := 4) hx hb dX9_holdOf_5 (by decide) ?_
        refine lv_icmp_ge (tgt := 34) hx hb dX9_holdOf_6 (by decide) (fun c => absurd c (by decide)) (fun _ => ?_)
        refine lv_aload_n hx hb dX9_holdOf_9 rfl (lv_at hl 2 rfl) ?_
        refine va_get (D := (dC, dI)) (ci := 7) (v := .ref a0) (C := RX9) (T := TX9) (N := 28) hx hb hts inX9 hown hK hP 0 rfl rfl 0 (by decide) (hts _ (List.mem_of_getElem? (i := 1) rfl)) (fun _ h9 => h9) rfl dX9_holdOf_10 ?_
        refine lv_bipush (v := 30) hx hb dX9_holdOf_13 (by decide) ?_
        refine lv_iload_n hx hb dX9_holdOf_15 rfl (lv_at hl 0 rfl) ?_
        refine lv_iadd hx hb dX9_holdOf_16 ?_
        refine pp_ti (y := 33) (by decide) ?_
        refine va_iald hx hb hK hP 1 0 rfl rfl (vp_in_nI (n := 33) (by decide) (by decide)) dX9_holdOf_17 ?_
        refine pp_ti (y := nf 33) rfl ?_
        refine lv_topi (fun n_15 en_15 => ?_)
        have tn_15 : n_15.toInt = (nf 33).toInt ∧ (-1) ≤ n_15.toInt ∧ n_15.toInt ≤ 8 := mI_r33 hI en_15
        clear en_15
        refine lv_iload_n hx hb dX9_holdOf_18 rfl (lv_at hl 3 rfl) ?_
        have rc_16_x := pp_rng n_15
        have rc_16_y := pp_rng k
        refine lv_icmp_ne (tgt := 26) hx hb dX9_holdOf_19 (by decide) (fun c_16 => ?_) (fun c_16 => ?_)
        · skip
          have tc_16 : ¬ n_15.toInt = k.toInt := fun h => c_16 ((fa_eq _ _).mpr h)
          refine lv_iload_n hx hb dX9_holdOf_26 rfl (lv_at hl 1 rfl) ?_
          refine lv_istore_n (lv' := [(2, .int 2), (3, .int 3), (0, .ref h0), (1, .int k)]) hx hb dX9_holdOf_27 rfl hl (by decide) rfl (fun ls hl => ?_)
          refine lv_iinc (v := 4) (lv' := [(3, .int 4), (2, .int 2), (0, .ref h0), (1, .int k)]) hx hb dX9_holdOf_28 hl (k := 1) rfl (by decide) (by decide) rfl (fun ls hl => ?_)
          refine lv_goto (tgt := 4) hx hb dX9_holdOf_31 (by decide) ?_
          refine lv_iload_n hx hb dX9_holdOf_4 rfl (lv_at hl 0 rfl) ?_
          refine lv_iconst (v := 4) hx hb dX9_holdOf_5 (by decide) ?_
          refine lv_icmp_ge (tgt := 34) hx hb dX9_holdOf_6 (by decide) (fun _ => ?_) (fun c => absurd (by decide) c)
          refine lv_iload_n hx hb dX9_holdOf_34 rfl (lv_at hl 1 rfl) ?_
          exact W.iret (v := (2 : Int32)) hx hb hr (fun t ht hW => ⟨(2 : Int32), rfl, (by unfold hF; first | omega | (simp only [fa_lt, fa_le, fa_eq, and_true, true_and, and_false, false_and, not_true_eq_false, not_false_eq_true, li_0, li_1, li_2, li_3, li_4, li_5, li_6, li_7, li_8, li_9, li_10, li_12, li_15, li_16, li_20, li_30, li_34, li_38, li_40, li_63, li_64, li_65, li_78, li_120, li_1000, li_4000, li_10000, li_11077, li_255, li_65535, li_m1, li_m2, li_m1000000001, li_m1000000002, li_m1000000003, li_m1000000004, li_m1000000005, li_m1000000006, li_m1000000007, or_true, true_or, or_false, false_or, implies_true, true_implies, false_implies] <;> omega)), ht⟩) (fun _ h => absurd h List.not_mem_nil) dX9_holdOf_35
        · skip
          have tc_16 : n_15.toInt = k.toInt := (fa_eq _ _).mp c_16
          refine lv_iload_n hx hb dX9_holdOf_22 rfl (lv_at hl 0 rfl) ?_
          refine lv_goto (tgt := 27) hx hb dX9_holdOf_23 (by decide) ?_
          refine lv_istore_n (lv' := [(2, .int 3), (3, .int 3), (0, .ref h0), (1, .int k)]) hx hb dX9_holdOf_27 rfl hl (by decide) rfl (fun ls hl => ?_)
          refine lv_iinc (v := 4) (lv' := [(3, .int 4), (2, .int 3), (0, .ref h0), (1, .int k)]) hx hb dX9_holdOf_28 hl (k := 1) rfl (by decide) (by decide) rfl (fun ls hl => ?_)
          refine lv_goto (tgt := 4) hx hb dX9_holdOf_31 (by decide) ?_
          refine lv_iload_n hx hb dX9_holdOf_4 rfl (lv_at hl 0 rfl) ?_
          refine lv_iconst (v := 4) hx hb dX9_holdOf_5 (by decide) ?_
          refine lv_icmp_ge (tgt := 34) hx hb dX9_holdOf_6 (by decide) (fun _ => ?_) (fun c => absurd (by decide) c)
          refine lv_iload_n hx hb dX9_holdOf_34 rfl (lv_at hl 1 rfl) ?_
          exact W.iret (v := (3 : Int32)) hx hb hr (fun t ht hW => ⟨(3 : Int32), rfl, (by unfold hF; first | omega | (simp only [fa_lt, fa_le, fa_eq, and_true, true_and, and_false, false_and, not_true_eq_false, not_false_eq_true, li_0, li_1, li_2, li_3, li_4, li_5, li_6, li_7, li_8, li_9, li_10, li_12, li_15, li_16, li_20, li_30, li_34, li_38, li_40, li_63, li_64, li_65, li_78, li_120, li_1000, li_4000, li_10000, li_11077, li_255, li_65535, li_m1, li_m2, li_m1000000001, li_m1000000002, li_m1000000003, li_m1000000004, li_m1000000005, li_m1000000006, li_m1000000007, or_true, true_or, or_false, false_or, implies_true, true_implies, false_implies] <;> omega)), ht⟩) (fun _ h => absurd h List.not_mem_nil) dX9_holdOf_35
  · skip
    have tc_2 : n_1.toInt = k.toInt := (fa_eq _ _).mp c_2
    refine lv_iload_n hx hb dX9_holdOf_22 rfl (lv_at hl 0 rfl) ?_
    refine lv_goto (tgt := 27) hx hb dX9_holdOf_23 (by decide) ?_
    refine lv_istore_n (lv' := [(2, .int 0), (3, .int 0), (0, .ref h0), (1, .int k)]) hx hb dX9_holdOf_27 rfl hl (by decide) rfl (fun ls hl => ?_)
    refine lv_iinc (v := 1) (lv' := [(3, .int 1), (2, .int 0), (0, .ref h0), (1, .int k)]) hx hb dX9_holdOf_28 hl (k := 1) rfl (by decide) (by decide) rfl (fun ls hl => ?_)
    refine lv_goto (tgt := 4) hx hb dX9_holdOf_31 (by decide) ?_
    refine lv_iload_n hx hb dX9_holdOf_4 rfl (lv_at hl 0 rfl) ?_
    refine lv_iconst (v := 4) hx hb dX9_holdOf_5 (by decide) ?_
    refine lv_icmp_ge (tgt := 34) hx hb dX9_holdOf_6 (by decide) (fun c => absurd c (by decide)) (fun _ => ?_)
    refine lv_aload_n hx hb dX9_holdOf_9 rfl (lv_at hl 2 rfl) ?_
    refine va_get (D := (dC, dI)) (ci := 7) (v := .ref a0) (C := RX9) (T := TX9) (N := 28) hx hb hts inX9 hown hK hP 0 rfl rfl 0 (by decide) (hts _ (List.mem_of_getElem? (i := 1) rfl)) (fun _ h9 => h9) rfl dX9_holdOf_10 ?_
    refine lv_bipush (v := 30) hx hb dX9_holdOf_13 (by decide) ?_
    refine lv_iload_n hx hb dX9_holdOf_15 rfl (lv_at hl 0 rfl) ?_
    refine lv_iadd hx hb dX9_holdOf_16 ?_
    refine pp_ti (y := 31) (by decide) ?_
    refine va_iald hx hb hK hP 1 0 rfl rfl (vp_in_nI (n := 31) (by decide) (by decide)) dX9_holdOf_17 ?_
    refine pp_ti (y := nf 31) rfl ?_
    refine lv_topi (fun n_17 en_17 => ?_)
    have tn_17 : n_17.toInt = (nf 31).toInt ∧ (-1) ≤ n_17.toInt ∧ n_17.toInt ≤ 8 := mI_r31 hI en_17
    clear en_17
    refine lv_iload_n hx hb dX9_holdOf_18 rfl (lv_at hl 3 rfl) ?_
    have rc_18_x := pp_rng n_17
    have rc_18_y := pp_rng k
    refine lv_icmp_ne (tgt := 26) hx hb dX9_holdOf_19 (by decide) (fun c_18 => ?_) (fun c_18 => ?_)
    · skip
      have tc_18 : ¬ n_17.toInt = k.toInt := fun h => c_18 ((fa_eq _ _).mpr h)
      refine lv_iload_n hx hb dX9_holdOf_26 rfl (lv_at hl 1 rfl) ?_
      refine lv_istore_n (lv' := [(2, .int 0), (3, .int 1), (0, .ref h0), (1, .int k)]) hx hb dX9_holdOf_27 rfl hl (by decide) rfl (fun ls hl => ?_)
      refine lv_iinc (v := 2) (lv' := [(3, .int 2), (2, .int 0), (0, .ref h0), (1, .int k)]) hx hb dX9_holdOf_28 hl (k := 1) rfl (by decide) (by decide) rfl (fun ls hl => ?_)
      refine lv_goto (tgt := 4) hx hb dX9_holdOf_31 (by decide) ?_
      refine lv_iload_n hx hb dX9_holdOf_4 rfl (lv_at hl 0 rfl) ?_
      refine lv_iconst (v := 4) hx hb dX9_holdOf_5 (by decide) ?_
      refine lv_icmp_ge (tgt := 34) hx hb dX9_holdOf_6 (by decide) (fun c => absurd c (by decide)) (fun _ => ?_)
      refine lv_aload_n hx hb dX9_holdOf_9 rfl (lv_at hl 2 rfl) ?_
      refine va_get (D := (dC, dI)) (ci := 7) (v := .ref a0) (C := RX9) (T := TX9) (N := 28) hx hb hts inX9 hown hK hP 0 rfl rfl 0 (by decide) (hts _ (List.mem_of_getElem? (i := 1) rfl)) (fun _ h9 => h9) rfl dX9_holdOf_10 ?_
      refine lv_bipush (v := 30) hx hb dX9_holdOf_13 (by decide) ?_
      refine lv_iload_n hx hb dX9_holdOf_15 rfl (lv_at hl 0 rfl) ?_
      refine lv_iadd hx hb dX9_holdOf_16 ?_
      refine pp_ti (y := 32) (by decide) ?_
      refine va_iald hx hb hK hP 1 0 rfl rfl (vp_in_nI (n := 32) (by decide) (by decide)) dX9_holdOf_17 ?_
      refine pp_ti (y := nf 32) rfl ?_
      refine lv_topi (fun n_19 en_19 => ?_)
      have tn_19 : n_19.toInt = (nf 32).toInt ∧ (-1) ≤ n_19.toInt ∧ n_19.toInt ≤ 8 := mI_r32 hI en_19
      clear en_19
      refine lv_iload_n hx hb dX9_holdOf_18 rfl (lv_at hl 3 rfl) ?_
      have rc_20_x := pp_rng n_19
      have rc_20_y := pp_rng k
      refine lv_icmp_ne (tgt := 26) hx hb dX9_holdOf_19 (by decide) (fun c_20 => ?_) (fun c_20 => ?_)
      · skip
        have tc_20 : ¬ n_19.toInt = k.toInt := fun h => c_20 ((fa_eq _ _).mpr h)
        refine lv_iload_n hx hb dX9_holdOf_26 rfl (lv_at hl 1 rfl) ?_
        refine lv_istore_n (lv' := [(2, .int 0), (3, .int 2), (0, .ref h0), (1, .int k)]) hx hb dX9_holdOf_27 rfl hl (by decide) rfl (fun ls hl => ?_)
        refine lv_iinc (v := 3) (lv' := [(3, .int 3), (2, .int 0), (0, .ref h0), (1, .int k)]) hx hb dX9_holdOf_28 hl (k := 1) rfl (by decide) (by decide) rfl (fun ls hl => ?_)
        refine lv_goto (tgt := 4) hx hb dX9_holdOf_31 (by decide) ?_
        refine lv_iload_n hx hb dX9_holdOf_4 rfl (lv_at hl 0 rfl) ?_
        refine lv_iconst (v := 4) hx hb dX9_holdOf_5 (by decide) ?_
        refine lv_icmp_ge (tgt := 34) hx hb dX9_holdOf_6 (by decide) (fun c => absurd c (by decide)) (fun _ => ?_)
        refine lv_aload_n hx hb dX9_holdOf_9 rfl (lv_at hl 2 rfl) ?_
        refine va_get (D := (dC, dI)) (ci := 7) (v := .ref a0) (C := RX9) (T := TX9) (N := 28) hx hb hts inX9 hown hK hP 0 rfl rfl 0 (by decide) (hts _ (List.mem_of_getElem? (i := 1) rfl)) (fun _ h9 => h9) rfl dX9_holdOf_10 ?_
        refine lv_bipush (v := 30) hx hb dX9_holdOf_13 (by decide) ?_
        refine lv_iload_n hx hb dX9_holdOf_15 rfl (lv_at hl 0 rfl) ?_
        refine lv_iadd hx hb dX9_holdOf_16 ?_
        refine pp_ti (y := 33) (by decide) ?_
        refine va_iald hx hb hK hP 1 0 rfl rfl (vp_in_nI (n := 33) (by decide) (by decide)) dX9_holdOf_17 ?_
        refine pp_ti (y := nf 33) rfl ?_
        refine lv_topi (fun n_21 en_21 => ?_)
        have tn_21 : n_21.toInt = (nf 33).toInt ∧ (-1) ≤ n_21.toInt ∧ n_21.toInt ≤ 8 := mI_r33 hI en_21
        clear en_21
        refine lv_iload_n hx hb dX9_holdOf_18 rfl (lv_at hl 3 rfl) ?_
        have rc_22_x := pp_rng n_21
        have rc_22_y := pp_rng k
        refine lv_icmp_ne (tgt := 26) hx hb dX9_holdOf_19 (by decide) (fun c_22 => ?_) (fun c_22 => ?_)
        · skip
          have tc_22 : ¬ n_21.toInt = k.toInt := fun h => c_22 ((fa_eq _ _).mpr h)
          refine lv_iload_n hx hb dX9_holdOf_26 rfl (lv_at hl 1 rfl) ?_
          refine lv_istore_n (lv' := [(2, .int 0), (3, .int 3), (0, .ref h0), (1, .int k)]) hx hb dX9_holdOf_27 rfl hl (by decide) rfl (fun ls hl => ?_)
          refine lv_iinc (v := 4) (lv' := [(3, .int 4), (2, .int 0), (0, .ref h0), (1, .int k)]) hx hb dX9_holdOf_28 hl (k := 1) rfl (by decide) (by decide) rfl (fun ls hl => ?_)
          refine lv_goto (tgt := 4) hx hb dX9_holdOf_31 (by decide) ?_
          refine lv_iload_n hx hb dX9_holdOf_4 rfl (lv_at hl 0 rfl) ?_
          refine lv_iconst (v := 4) hx hb dX9_holdOf_5 (by decide) ?_
          refine lv_icmp_ge (tgt := 34) hx hb dX9_holdOf_6 (by decide) (fun _ => ?_) (fun c => absurd (by decide) c)
          refine lv_iload_n hx hb dX9_holdOf_34 rfl (lv_at hl 1 rfl) ?_
          exact W.iret (v := (0 : Int32)) hx hb hr (fun t ht hW => ⟨(0 : Int32), rfl, (by unfold hF; first | omega | (simp only [fa_lt, fa_le, fa_eq, and_true, true_and, and_false, false_and, not_true_eq_false, not_false_eq_true, li_0, li_1, li_2, li_3, li_4, li_5, li_6, li_7, li_8, li_9, li_10, li_12, li_15, li_16, li_20, li_30, li_34, li_38, li_40, li_63, li_64, li_65, li_78, li_120, li_1000, li_4000, li_10000, li_11077, li_255, li_65535, li_m1, li_m2, li_m1000000001, li_m1000000002, li_m1000000003, li_m1000000004, li_m1000000005, li_m1000000006, li_m1000000007, or_true, true_or, or_false, false_or, implies_true, true_implies, false_implies] <;> omega)), ht⟩) (fun _ h => absurd h List.not_mem_nil) dX9_holdOf_35
        · skip
          have tc_22 : n_21.toInt = k.toInt := (fa_eq _ _).mp c_22
          refine lv_iload_n hx hb dX9_holdOf_22 rfl (lv_at hl 0 rfl) ?_
          refine lv_goto (tgt := 27) hx hb dX9_holdOf_23 (by decide) ?_
          refine lv_istore_n (lv' := [(2, .int 3), (3, .int 3), (0, .ref h0), (1, .int k)]) hx hb dX9_holdOf_27 rfl hl (by decide) rfl (fun ls hl => ?_)
          refine lv_iinc (v := 4) (lv' := [(3, .int 4), (2, .int 3), (0, .ref h0), (1, .int k)]) hx hb dX9_holdOf_28 hl (k := 1) rfl (by decide) (by decide) rfl (fun ls hl => ?_)
          refine lv_goto (tgt := 4) hx hb dX9_holdOf_31 (by decide) ?_
          refine lv_iload_n hx hb dX9_holdOf_4 rfl (lv_at hl 0 rfl) ?_
          refine lv_iconst (v := 4) hx hb dX9_holdOf_5 (by decide) ?_
          refine lv_icmp_ge (tgt := 34) hx hb dX9_holdOf_6 (by decide) (fun _ => ?_) (fun c => absurd (by decide) c)
          refine lv_iload_n hx hb dX9_holdOf_34 rfl (lv_at hl 1 rfl) ?_
          exact W.iret (v := (3 : Int32)) hx hb hr (fun t ht hW => ⟨(3 : Int32), rfl, (by unfold hF; first | omega | (simp only [fa_lt, fa_le, fa_eq, and_true, true_and, and_false, false_and, not_true_eq_false, not_false_eq_true, li_0, li_1, li_2, li_3, li_4, li_5, li_6, li_7, li_8, li_9, li_10, li_12, li_15, li_16, li_20, li_30, li_34, li_38, li_40, li_63, li_64, li_65, li_78, li_120, li_1000, li_4000, li_10000, li_11077, li_255, li_65535, li_m1, li_m2, li_m1000000001, li_m1000000002, li_m1000000003, li_m1000000004, li_m1000000005, li_m1000000006, li_m1000000007, or_true, true_or, or_false, false_or, implies_true, true_implies, false_implies] <;> omega)), ht⟩) (fun _ h => absurd h List.not_mem_nil) dX9_holdOf_35
      · skip
        have tc_20 : n_19.toInt = k.toInt := (fa_eq _ _).mp c_20
        refine lv_iload_n hx hb dX9_holdOf_22 rfl (lv_at hl 0 rfl) ?_
        refine lv_goto (tgt := 27) hx hb dX9_holdOf_23 (by decide) ?_
        refine lv_istore_n (lv' := [(2, .int 2), (3, .int 2), (0, .ref h0), (1, .int k)]) hx hb dX9_holdOf_27 rfl hl (by decide) rfl (fun ls hl => ?_)
        refine lv_iinc (v := 3) (lv' := [(3, .int 3), (2, .int 2), (0, .ref h0), (1, .int k)]) hx hb dX9_holdOf_28 hl (k := 1) rfl (by decide) (by decide) rfl (fun ls hl => ?_)
        refine lv_goto (tgt := 4) hx hb dX9_holdOf_31 (by decide) ?_
        refine lv_iload_n hx hb dX9_holdOf_4 rfl (lv_at hl 0 rfl) ?_
        refine lv_iconst (v := 4) hx hb dX9_holdOf_5 (by decide) ?_
        refine lv_icmp_ge (tgt := 34) hx hb dX9_holdOf_6 (by decide) (fun c => absurd c (by decide)) (fun _ => ?_)
        refine lv_aload_n hx hb dX9_holdOf_9 rfl (lv_at hl 2 rfl) ?_
        refine va_get (D := (dC, dI)) (ci := 7) (v := .ref a0) (C := RX9) (T := TX9) (N := 28) hx hb hts inX9 hown hK hP 0 rfl rfl 0 (by decide) (hts _ (List.mem_of_getElem? (i := 1) rfl)) (fun _ h9 => h9) rfl dX9_holdOf_10 ?_
        refine lv_bipush (v := 30) hx hb dX9_holdOf_13 (by decide) ?_
        refine lv_iload_n hx hb dX9_holdOf_15 rfl (lv_at hl 0 rfl) ?_
        refine lv_iadd hx hb dX9_holdOf_16 ?_
        refine pp_ti (y := 33) (by decide) ?_
        refine va_iald hx hb hK hP 1 0 rfl rfl (vp_in_nI (n := 33) (by decide) (by decide)) dX9_holdOf_17 ?_
        refine pp_ti (y := nf 33) rfl ?_
        refine lv_topi (fun n_23 en_23 => ?_)
        have tn_23 : n_23.toInt = (nf 33).toInt ∧ (-1) ≤ n_23.toInt ∧ n_23.toInt ≤ 8 := mI_r33 hI en_23
        clear en_23
        refine lv_iload_n hx hb dX9_holdOf_18 rfl (lv_at hl 3 rfl) ?_
        have rc_24_x := pp_rng n_23
        have rc_24_y := pp_rng k
        refine lv_icmp_ne (tgt := 26) hx hb dX9_holdOf_19 (by decide) (fun c_24 => ?_) (fun c_24 => ?_)
        · skip
          have tc_24 : ¬ n_23.toInt = k.toInt := fun h => c_24 ((fa_eq _ _).mpr h)
          refine lv_iload_n hx hb dX9_holdOf_26 rfl (lv_at hl 1 rfl) ?_
          refine lv_istore_n (lv' := [(2, .int 2), (3, .int 3), (0, .ref h0), (1, .int k)]) hx hb dX9_holdOf_27 rfl hl (by decide) rfl (fun ls hl => ?_)
          refine lv_iinc (v := 4) (lv' := [(3, .int 4), (2, .int 2), (0, .ref h0), (1, .int k)]) hx hb dX9_holdOf_28 hl (k := 1) rfl (by decide) (by decide) rfl (fun ls hl => ?_)
          refine lv_goto (tgt := 4) hx hb dX9_holdOf_31 (by decide) ?_
          refine lv_iload_n hx hb dX9_holdOf_4 rfl (lv_at hl 0 rfl) ?_
          refine lv_iconst (v := 4) hx hb dX9_holdOf_5 (by decide) ?_
          refine lv_icmp_ge (tgt := 34) hx hb dX9_holdOf_6 (by decide) (fun _ => ?_) (fun c => absurd (by decide) c)
          refine lv_iload_n hx hb dX9_holdOf_34 rfl (lv_at hl 1 rfl) ?_
          exact W.iret (v := (2 : Int32)) hx hb hr (fun t ht hW => ⟨(2 : Int32), rfl, (by unfold hF; first | omega | (simp only [fa_lt, fa_le, fa_eq, and_true, true_and, and_false, false_and, not_true_eq_false, not_false_eq_true, li_0, li_1, li_2, li_3, li_4, li_5, li_6, li_7, li_8, li_9, li_10, li_12, li_15, li_16, li_20, li_30, li_34, li_38, li_40, li_63, li_64, li_65, li_78, li_120, li_1000, li_4000, li_10000, li_11077, li_255, li_65535, li_m1, li_m2, li_m1000000001, li_m1000000002, li_m1000000003, li_m1000000004, li_m1000000005, li_m1000000006, li_m1000000007, or_true, true_or, or_false, false_or, implies_true, true_implies, false_implies] <;> omega)), ht⟩) (fun _ h => absurd h List.not_mem_nil) dX9_holdOf_35
        · skip
          have tc_24 : n_23.toInt = k.toInt := (fa_eq _ _).mp c_24
          refine lv_iload_n hx hb dX9_holdOf_22 rfl (lv_at hl 0 rfl) ?_
          refine lv_goto (tgt := 27) hx hb dX9_holdOf_23 (by decide) ?_
          refine lv_istore_n (lv' := [(2, .int 3), (3, .int 3), (0, .ref h0), (1, .int k)]) hx hb dX9_holdOf_27 rfl hl (by decide) rfl (fun ls hl => ?_)
          refine lv_iinc (v := 4) (lv' := [(3, .int 4), (2, .int 3), (0, .ref h0), (1, .int k)]) hx hb dX9_holdOf_28 hl (k := 1) rfl (by decide) (by decide) rfl (fun ls hl => ?_)
          refine lv_goto (tgt := 4) hx hb dX9_holdOf_31 (by decide) ?_
          refine lv_iload_n hx hb dX9_holdOf_4 rfl (lv_at hl 0 rfl) ?_
          refine lv_iconst (v := 4) hx hb dX9_holdOf_5 (by decide) ?_
          refine lv_icmp_ge (tgt := 34) hx hb dX9_holdOf_6 (by decide) (fun _ => ?_) (fun c => absurd (by decide) c)
          refine lv_iload_n hx hb dX9_holdOf_34 rfl (lv_at hl 1 rfl) ?_
          exact W.iret (v := (3 : Int32)) hx hb hr (fun t ht hW => ⟨(3 : Int32), rfl, (by unfold hF; first | omega | (simp only [fa_lt, fa_le, fa_eq, and_true, true_and, and_false, false_and, not_true_eq_false, not_false_eq_true, li_0, li_1, li_2, li_3, li_4, li_5, li_6, li_7, li_8, li_9, li_10, li_12, li_15, li_16, li_20, li_30, li_34, li_38, li_40, li_63, li_64, li_65, li_78, li_120, li_1000, li_4000, li_10000, li_11077, li_255, li_65535, li_m1, li_m2, li_m1000000001, li_m1000000002, li_m1000000003, li_m1000000004, li_m1000000005, li_m1000000006, li_m1000000007, or_true, true_or, or_false, false_or, implies_true, true_implies, false_implies] <;> omega)), ht⟩) (fun _ h => absurd h List.not_mem_nil) dX9_holdOf_35
    · skip
      have tc_18 : n_17.toInt = k.toInt := (fa_eq _ _).mp c_18
      refine lv_iload_n hx hb dX9_holdOf_22 rfl (lv_at hl 0 rfl) ?_
      refine lv_goto (tgt := 27) hx hb dX9_holdOf_23 (by decide) ?_
      refine lv_istore_n (lv' := [(2, .int 1), (3, .int 1), (0, .ref h0), (1, .int k)]) hx hb dX9_holdOf_27 rfl hl (by decide) rfl (fun ls hl => ?_)
      refine lv_iinc (v := 2) (lv' := [(3, .int 2), (2, .int 1), (0, .ref h0), (1, .int k)]) hx hb dX9_holdOf_28 hl (k := 1) rfl (by decide) (by decide) rfl (fun ls hl => ?_)
      refine lv_goto (tgt := 4) hx hb dX9_holdOf_31 (by decide) ?_
      refine lv_iload_n hx hb dX9_holdOf_4 rfl (lv_at hl 0 rfl) ?_
      refine lv_iconst (v := 4) hx hb dX9_holdOf_5 (by decide) ?_
      refine lv_icmp_ge (tgt := 34) hx hb dX9_holdOf_6 (by decide) (fun c => absurd c (by decide)) (fun _ => ?_)
      refine lv_aload_n hx hb dX9_holdOf_9 rfl (lv_at hl 2 rfl) ?_
      refine va_get (D := (dC, dI)) (ci := 7) (v := .ref a0) (C := RX9) (T := TX9) (N := 28) hx hb hts inX9 hown hK hP 0 rfl rfl 0 (by decide) (hts _ (List.mem_of_getElem? (i := 1) rfl)) (fun _ h9 => h9) rfl dX9_holdOf_10 ?_
      refine lv_bipush (v := 30) hx hb dX9_holdOf_13 (by decide) ?_
      refine lv_iload_n hx hb dX9_holdOf_15 rfl (lv_at hl 0 rfl) ?_
      refine lv_iadd hx hb dX9_holdOf_16 ?_
      refine pp_ti (y := 32) (by decide) ?_
      refine va_iald hx hb hK hP 1 0 rfl rfl (vp_in_nI (n := 32) (by decide) (by decide)) dX9_holdOf_17 ?_
      refine pp_ti (y := nf 32) rfl ?_
      refine lv_topi (fun n_25 en_25 => ?_)
      have tn_25 : n_25.toInt = (nf 32).toInt ∧ (-1) ≤ n_25.toInt ∧ n_25.toInt ≤ 8 := mI_r32 hI en_25
      clear en_25
      refine lv_iload_n hx hb dX9_holdOf_18 rfl (lv_at hl 3 rfl) ?_
      have rc_26_x := pp_rng n_25
      have rc_26_y := pp_rng k
      refine lv_icmp_ne (tgt := 26) hx hb dX9_holdOf_19 (by decide) (fun c_26 => ?_) (fun c_26 => ?_)
      · skip
        have tc_26 : ¬ n_25.toInt = k.toInt := fun h => c_26 ((fa_eq _ _).mpr h)
        refine lv_iload_n hx hb dX9_holdOf_26 rfl (lv_at hl 1 rfl) ?_
        refine lv_istore_n (lv' := [(2, .int 1), (3, .int 2), (0, .ref h0), (1, .int k)]) hx hb dX9_holdOf_27 rfl hl (by decide) rfl (fun ls hl => ?_)
        refine lv_iinc (v := 3) (lv' := [(3, .int 3), (2, .int 1), (0, .ref h0), (1, .int k)]) hx hb dX9_holdOf_28 hl (k := 1) rfl (by decide) (by decide) rfl (fun ls hl => ?_)
        refine lv_goto (tgt := 4) hx hb dX9_holdOf_31 (by decide) ?_
        refine lv_iload_n hx hb dX9_holdOf_4 rfl (lv_at hl 0 rfl) ?_
        refine lv_iconst (v := 4) hx hb dX9_holdOf_5 (by decide) ?_
        refine lv_icmp_ge (tgt := 34) hx hb dX9_holdOf_6 (by decide) (fun c => absurd c (by decide)) (fun _ => ?_)
        refine lv_aload_n hx hb dX9_holdOf_9 rfl (lv_at hl 2 rfl) ?_
        refine va_get (D := (dC, dI)) (ci := 7) (v := .ref a0) (C := RX9) (T := TX9) (N := 28) hx hb hts inX9 hown hK hP 0 rfl rfl 0 (by decide) (hts _ (List.mem_of_getElem? (i := 1) rfl)) (fun _ h9 => h9) rfl dX9_holdOf_10 ?_
        refine lv_bipush (v := 30) hx hb dX9_holdOf_13 (by decide) ?_
        refine lv_iload_n hx hb dX9_holdOf_15 rfl (lv_at hl 0 rfl) ?_
        refine lv_iadd hx hb dX9_holdOf_16 ?_
        refine pp_ti (y := 33) (by decide) ?_
        refine va_iald hx hb hK hP 1 0 rfl rfl (vp_in_nI (n := 33) (by decide) (by decide)) dX9_holdOf_17 ?_
        refine pp_ti (y := nf 33) rfl ?_
        refine lv_topi (fun n_27 en_27 => ?_)
        have tn_27 : n_27.toInt = (nf 33).toInt ∧ (-1) ≤ n_27.toInt ∧ n_27.toInt ≤ 8 := mI_r33 hI en_27
        clear en_27
        refine lv_iload_n hx hb dX9_holdOf_18 rfl (lv_at hl 3 rfl) ?_
        have rc_28_x := pp_rng n_27
        have rc_28_y := pp_rng k
        refine lv_icmp_ne (tgt := 26) hx hb dX9_holdOf_19 (by decide) (fun c_28 => ?_) (fun c_28 => ?_)
        · skip
          have tc_28 : ¬ n_27.toInt = k.toInt := fun h => c_28 ((fa_eq _ _).mpr h)
          refine lv_iload_n hx hb dX9_holdOf_26 rfl (lv_at hl 1 rfl) ?_
          refine lv_istore_n (lv' := [(2, .int 1), (3, .int 3), (0, .ref h0), (1, .int k)]) hx hb dX9_holdOf_27 rfl hl (by decide) rfl (fun ls hl => ?_)
          refine lv_iinc (v := 4) (lv' := [(3, .int 4), (2, .int 1), (0, .ref h0), (1, .int k)]) hx hb dX9_holdOf_28 hl (k := 1) rfl (by decide) (by decide) rfl (fun ls hl => ?_)
          refine lv_goto (tgt := 4) hx hb dX9_holdOf_31 (by decide) ?_
          refine lv_iload_n hx hb dX9_holdOf_4 rfl (lv_at hl 0 rfl) ?_
          refine lv_iconst (v := 4) hx hb dX9_holdOf_5 (by decide) ?_
          refine lv_icmp_ge (tgt := 34) hx hb dX9_holdOf_6 (by decide) (fun _ => ?_) (fun c => absurd (by decide) c)
          refine lv_iload_n hx hb dX9_holdOf_34 rfl (lv_at hl 1 rfl) ?_
          exact W.iret (v := (1 : Int32)) hx hb hr (fun t ht hW => ⟨(1 : Int32), rfl, (by unfold hF; first | omega | (simp only [fa_lt, fa_le, fa_eq, and_true, true_and, and_false, false_and, not_true_eq_false, not_false_eq_true, li_0, li_1, li_2, li_3, li_4, li_5, li_6, li_7, li_8, li_9, li_10, li_12, li_15, li_16, li_20, li_30, li_34, li_38, li_40, li_63, li_64, li_65, li_78, li_120, li_1000, li_4000, li_10000, li_11077, li_255, li_65535, li_m1, li_m2, li_m1000000001, li_m1000000002, li_m1000000003, li_m1000000004, li_m1000000005, li_m1000000006, li_m1000000007, or_true, true_or, or_false, false_or, implies_true, true_implies, false_implies] <;> omega)), ht⟩) (fun _ h => absurd h List.not_mem_nil) dX9_holdOf_35
        · skip
          have tc_28 : n_27.toInt = k.toInt := (fa_eq _ _).mp c_28
          refine lv_iload_n hx hb dX9_holdOf_22 rfl (lv_at hl 0 rfl) ?_
          refine lv_goto (tgt := 27) hx hb dX9_holdOf_23 (by decide) ?_
          refine lv_istore_n (lv' := [(2, .int 3), (3, .int 3), (0, .ref h0), (1, .int k)]) hx hb dX9_holdOf_27 rfl hl (by decide) rfl (fun ls hl => ?_)
          refine lv_iinc (v := 4) (lv' := [(3, .int 4), (2, .int 3), (0, .ref h0), (1, .int k)]) hx hb dX9_holdOf_28 hl (k := 1) rfl (by decide) (by decide) rfl (fun ls hl => ?_)
          refine lv_goto (tgt := 4) hx hb dX9_holdOf_31 (by decide) ?_
          refine lv_iload_n hx hb dX9_holdOf_4 rfl (lv_at hl 0 rfl) ?_
          refine lv_iconst (v := 4) hx hb dX9_holdOf_5 (by decide) ?_
          refine lv_icmp_ge (tgt := 34) hx hb dX9_holdOf_6 (by decide) (fun _ => ?_) (fun c => absurd (by decide) c)
          refine lv_iload_n hx hb dX9_holdOf_34 rfl (lv_at hl 1 rfl) ?_
          exact W.iret (v := (3 : Int32)) hx hb hr (fun t ht hW => ⟨(3 : Int32), rfl, (by unfold hF; first | omega | (simp only [fa_lt, fa_le, fa_eq, and_true, true_and, and_false, false_and, not_true_eq_false, not_false_eq_true, li_0, li_1, li_2, li_3, li_4, li_5, li_6, li_7, li_8, li_9, li_10, li_12, li_15, li_16, li_20, li_30, li_34, li_38, li_40, li_63, li_64, li_65, li_78, li_120, li_1000, li_4000, li_10000, li_11077, li_255, li_65535, li_m1, li_m2, li_m1000000001, li_m1000000002, li_m1000000003, li_m1000000004, li_m1000000005, li_m1000000006, li_m1000000007, or_true, true_or, or_false, false_or, implies_true, true_implies, false_implies] <;> omega)), ht⟩) (fun _ h => absurd h List.not_mem_nil) dX9_holdOf_35
      · skip
        have tc_26 : n_25.toInt = k.toInt := (fa_eq _ _).mp c_26
        refine lv_iload_n hx hb dX9_holdOf_22 rfl (lv_at hl 0 rfl) ?_
        refine lv_goto (tgt := 27) hx hb dX9_holdOf_23 (by decide) ?_
        refine lv_istore_n (lv' := [(2, .int 2), (3, .int 2), (0, .ref h0), (1, .int k)]) hx hb dX9_holdOf_27 rfl hl (by decide) rfl (fun ls hl => ?_)
        refine lv_iinc (v := 3) (lv' := [(3, .int 3), (2, .int 2), (0, .ref h0), (1, .int k)]) hx hb dX9_holdOf_28 hl (k := 1) rfl (by decide) (by decide) rfl (fun ls hl => ?_)
        refine lv_goto (tgt := 4) hx hb dX9_holdOf_31 (by decide) ?_
        refine lv_iload_n hx hb dX9_holdOf_4 rfl (lv_at hl 0 rfl) ?_
        refine lv_iconst (v := 4) hx hb dX9_holdOf_5 (by decide) ?_
        refine lv_icmp_ge (tgt := 34) hx hb dX9_holdOf_6 (by decide) (fun c => absurd c (by decide)) (fun _ => ?_)
        refine lv_aload_n hx hb dX9_holdOf_9 rfl (lv_at hl 2 rfl) ?_
        refine va_get (D := (dC, dI)) (ci := 7) (v := .ref a0) (C := RX9) (T := TX9) (N := 28) hx hb hts inX9 hown hK hP 0 rfl rfl 0 (by decide) (hts _ (List.mem_of_getElem? (i := 1) rfl)) (fun _ h9 => h9) rfl dX9_holdOf_10 ?_
        refine lv_bipush (v := 30) hx hb dX9_holdOf_13 (by decide) ?_
        refine lv_iload_n hx hb dX9_holdOf_15 rfl (lv_at hl 0 rfl) ?_
        refine lv_iadd hx hb dX9_holdOf_16 ?_
        refine pp_ti (y := 33) (by decide) ?_
        refine va_iald hx hb hK hP 1 0 rfl rfl (vp_in_nI (n := 33) (by decide) (by decide)) dX9_holdOf_17 ?_
        refine pp_ti (y := nf 33) rfl ?_
        refine lv_topi (fun n_29 en_29 => ?_)
        have tn_29 : n_29.toInt = (nf 33).toInt ∧ (-1) ≤ n_29.toInt ∧ n_29.toInt ≤ 8 := mI_r33 hI en_29
        clear en_29
        refine lv_iload_n hx hb dX9_holdOf_18 rfl (lv_at hl 3 rfl) ?_
        have rc_30_x := pp_rng n_29
        have rc_30_y := pp_rng k
        refine lv_icmp_ne (tgt := 26) hx hb dX9_holdOf_19 (by decide) (fun c_30 => ?_) (fun c_30 => ?_)
        · skip
          have tc_30 : ¬ n_29.toInt = k.toInt := fun h => c_30 ((fa_eq _ _).mpr h)
          refine lv_iload_n hx hb dX9_holdOf_26 rfl (lv_at hl 1 rfl) ?_
          refine lv_istore_n (lv' := [(2, .int 2), (3, .int 3), (0, .ref h0), (1, .int k)]) hx hb dX9_holdOf_27 rfl hl (by decide) rfl (fun ls hl => ?_)
          refine lv_iinc (v := 4) (lv' := [(3, .int 4), (2, .int 2), (0, .ref h0), (1, .int k)]) hx hb dX9_holdOf_28 hl (k := 1) rfl (by decide) (by decide) rfl (fun ls hl => ?_)
          refine lv_goto (tgt := 4) hx hb dX9_holdOf_31 (by decide) ?_
          refine lv_iload_n hx hb dX9_holdOf_4 rfl (lv_at hl 0 rfl) ?_
          refine lv_iconst (v := 4) hx hb dX9_holdOf_5 (by decide) ?_
          refine lv_icmp_ge (tgt := 34) hx hb dX9_holdOf_6 (by decide) (fun _ => ?_) (fun c => absurd (by decide) c)
          refine lv_iload_n hx hb dX9_holdOf_34 rfl (lv_at hl 1 rfl) ?_
          exact W.iret (v := (2 : Int32)) hx hb hr (fun t ht hW => ⟨(2 : Int32), rfl, (by unfold hF; first | omega | (simp only [fa_lt, fa_le, fa_eq, and_true, true_and, and_false, false_and, not_true_eq_false, not_false_eq_true, li_0, li_1, li_2, li_3, li_4, li_5, li_6, li_7, li_8, li_9, li_10, li_12, li_15, li_16, li_20, li_30, li_34, li_38, li_40, li_63, li_64, li_65, li_78, li_120, li_1000, li_4000, li_10000, li_11077, li_255, li_65535, li_m1, li_m2, li_m1000000001, li_m1000000002, li_m1000000003, li_m1000000004, li_m1000000005, li_m1000000006, li_m1000000007, or_true, true_or, or_false, false_or, implies_true, true_implies, false_implies] <;> omega)), ht⟩) (fun _ h => absurd h List.not_mem_nil) dX9_holdOf_35
        · skip
          have tc_30 : n_29.toInt = k.toInt := (fa_eq _ _).mp c_30
          refine lv_iload_n hx hb dX9_holdOf_22 rfl (lv_at hl 0 rfl) ?_
          refine lv_goto (tgt := 27) hx hb dX9_holdOf_23 (by decide) ?_
          refine lv_istore_n (lv' := [(2, .int 3), (3, .int 3), (0, .ref h0), (1, .int k)]) hx hb dX9_holdOf_27 rfl hl (by decide) rfl (fun ls hl => ?_)
          refine lv_iinc (v := 4) (lv' := [(3, .int 4), (2, .int 3), (0, .ref h0), (1, .int k)]) hx hb dX9_holdOf_28 hl (k := 1) rfl (by decide) (by decide) rfl (fun ls hl => ?_)
          refine lv_goto (tgt := 4) hx hb dX9_holdOf_31 (by decide) ?_
          refine lv_iload_n hx hb dX9_holdOf_4 rfl (lv_at hl 0 rfl) ?_
          refine lv_iconst (v := 4) hx hb dX9_holdOf_5 (by decide) ?_
          refine lv_icmp_ge (tgt := 34) hx hb dX9_holdOf_6 (by decide) (fun _ => ?_) (fun c => absurd (by decide) c)
          refine lv_iload_n hx hb dX9_holdOf_34 rfl (lv_at hl 1 rfl) ?_
          exact W.iret (v := (3 : Int32)) hx hb hr (fun t ht hW => ⟨(3 : Int32), rfl, (by unfold hF; first | omega | (simp only [fa_lt, fa_le, fa_eq, and_true, true_and, and_false, false_and, not_true_eq_false, not_false_eq_true, li_0, li_1, li_2, li_3, li_4, li_5, li_6, li_7, li_8, li_9, li_10, li_12, li_15, li_16, li_20, li_30, li_34, li_38, li_40, li_63, li_64, li_65, li_78, li_120, li_1000, li_4000, li_10000, li_11077, li_255, li_65535, li_m1, li_m2, li_m1000000001, li_m1000000002, li_m1000000003, li_m1000000004, li_m1000000005, li_m1000000006, li_m1000000007, or_true, true_or, or_false, false_or, implies_true, true_implies, false_implies] <;> omega)), ht⟩) (fun _ h => absurd h List.not_mem_nil) dX9_holdOf_35

def w_m_dropAll : List Cond := .code yX9_dropAll cX9_dropAll 2 none :: (([.fieldLink RX9 9 "LampShapesModel" "now" "[I"] : List Cond) ++ wsX90)
set_option maxHeartbeats 4000000 in
set_option maxRecDepth 100000 in
theorem m_dropAll (l : Launch) (dC : Nat → ClassId) (dI : Nat → Nat → Nat) (ad : Nat → Nat) (h0 : Nat) (a0 : Nat) (v1 : Value) (v2 : Value) (v3 : Value) (v4 : Value) (v5 : Value) (v6 : Value) (v7 : Value) (v8 : Value) (v9 : Value) (v10 : Value) (v11 : Value) (v12 : Value) (v13 : Value) (v14 : Value) (v15 : Value) (v16 : Value) (v17 : Value) (v18 : Value) (v19 : Value) (v20 : Value) (v21 : Value) (v22 : Value) (v23 : Value) (v24 : Value) (v25 : Value) (v26 : Value) (v27 : Value) (ac : ClassId) (nf : Nat → Int32) (sz : Nat) (hI : mI nf) : Met l yX9_dropAll w_m_dropAll ({ frames := 0, cells := 0, slots := 0, locals := 0 } : Room) (va_Pc [.ref h0] (preM dC dI ad [(ac, .int)] [(h0, .inr (7, [.ref a0, v1, v2, v3, v4, v5, v6, v7, v8, v9, v10, v11, v12, v13, v14, v15, v16, v17, v18, v19, v20, v21, v22, v23, v24, v25, v26, v27])), (a0, .inl (ac, 38, .inl nf))] sz)) (va_Qv (fun (_ : Unit) => True) (fun _ t => ∃ (ng : Nat → Int32), (mI ng) ∧ ((ng 0).toInt = (nf 0).toInt ∧ (ng 1).toInt = (nf 1).toInt ∧ (ng 2).toInt = (nf 2).toInt) ∧ ((ng 30).toInt = (-1) ∧ (ng 31).toInt = (-1) ∧ (ng 32).toInt = (-1) ∧ (ng 33).toInt = (-1)) ∧ va_P (dC, dI) vwCl [(h0, .inr (7, [.ref a0, v1, v2, v3, v4, v5, v6, v7, v8, v9, v10, v11, v12, v13, v14, v15, v16, v17, v18, v19, v20, v21, v22, v23, v24, v25, v26, v27])), (a0, .inl (ac, 38, .inl ng))] t.heap ∧ va_K (dC, dI) vwCl [(ac, .int)] t ∧ va_D (va_A [(h0, .inr (7, [.ref a0, v1, v2, v3, v4, v5, v6, v7, v8, v9, v10, v11, v12, v13, v14, v15, v16, v17, v18, v19, v20, v21, v22, v23, v24, v25, v26, v27])), (a0, .inl (ac, 38, .inl nf))] sz) [(h0, .inr (7, [.ref a0, v1, v2, v3, v4, v5, v6, v7, v8, v9, v10, v11, v12, v13, v14, v15, v16, v17, v18, v19, v20, v21, v22, v23, v24, v25, v26, v27])), (a0, .inl (ac, 38, .inl ng))]) (va_A [(h0, .inr (7, [.ref a0, v1, v2, v3, v4, v5, v6, v7, v8, v9, v10, v11, v12, v13, v14, v15, v16, v17, v18, v19, v20, v21, v22, v23, v24, v25, v26, v27])), (a0, .inl (ac, 38, .inl nf))] sz)) 0 0 (va_A [(h0, .inr (7, [.ref a0, v1, v2, v3, v4, v5, v6, v7, v8, v9, v10, v11, v12, v13, v14, v15, v16, v17, v18, v19, v20, v21, v22, v23, v24, v25, v26, v27])), (a0, .inl (ac, 38, .inl nf))] sz) := by
  refine Met.ofW (cc := cX9_dropAll) (maxL := 2) (ret := none) (by decide) rfl ?_
  intro p e s m args below meth c s₁ B hml hv
  obtain ⟨rfl, hsz, hP, hK, hD0, hev⟩ := hv
  have hx := B.exec
  have hb := B.bytes
  have hr := B.returns
  have hts := atoms_spec (ws := w_m_dropAll) B.pre
  have hown : s.vm.findClass RX9 = some m.cls := findClass_of_methodNamed B.named
  have hlocks := B.notSynchronized
  have inX9 : ∀ w ∈ wsX90, w ∈ w_m_dropAll := fun w h => List.mem_cons_of_mem _ (List.mem_append_right _ h)
  subst hsz
  have hD := hD0.self (sz := s.heap.size)
  generalize hAe : va_A [(h0, .inr (7, [.ref a0, v1, v2, v3, v4, v5, v6, v7, v8, v9, v10, v11, v12, v13, v14, v15, v16, v17, v18, v19, v20, v21, v22, v23, v24, v25, v26, v27])), (a0, .inl (ac, 38, .inl nf))] s.heap.size = A at hD ⊢
  have hA : ∀ q : Nat, s.heap.size ≤ q → A q := fun q h => by rw [← hAe]; exact Or.inr h
  have hS : va_S A s.heap s.heap [] := va_S.rf
  have hP : va_P (dC, dI) vwCl [(h0, .inr (7, [.ref a0, v1, v2, v3, v4, v5, v6, v7, v8, v9, v10, v11, v12, v13, v14, v15, v16, v17, v18, v19, v20, v21, v22, v23, v24, v25, v26, v27])), (a0, .inl (ac, 38, .inl nf))] s.heap := hP
  have hl := lv_entry ([.ref h0]) (n := 2) (Nat.le_of_ble_eq_true rfl)
  rw [lg_entry_eq]
  generalize (lg_sl ([.ref h0]) ++ List.replicate (2 - (lg_sl ([.ref h0])).length) Slot.unset).toArray = ls at hl ⊢
  have hl : lv_has ls 2 [(0, .ref h0)] := hl
  refine lv_iconst (v := 0) hx hb dX9_dropAll_0 (by decide) ?_
  refine lv_istore_n (lv' := [(1, .int 0), (0, .ref h0)]) hx hb dX9_dropAll_1 rfl hl (by decide) rfl (fun ls hl => ?_)
  refine lv_iload_n hx hb dX9_dropAll_2 rfl (lv_at hl 0 rfl) ?_
  refine lv_iconst (v := 4) hx hb dX9_dropAll_3 (by decide) ?_
  refine lv_icmp_ge (tgt := 33) hx hb dX9_dropAll_4 (by decide) (fun c => absurd c (by decide)) (fun _ => ?_)
  refine lv_aload_n hx hb dX9_dropAll_7 rfl (lv_at hl 1 rfl) ?_
  refine va_get (D := (dC, dI)) (ci := 7) (v := .ref a0) (C := RX9) (T := TX9) (N := 28) hx hb hts inX9 hown hK hP 0 rfl rfl 0 (by decide) (hts _ (List.mem_of_getElem? (i := 1) rfl)) (fun _ h9 => h9) rfl dX9_dropAll_8 ?_
  refine lv_bipush (v := 30) hx hb dX9_dropAll_11 (by decide) ?_
  refine lv_iload_n hx hb dX9_dropAll_13 rfl (lv_at hl 0 rfl) ?_
  refine lv_iadd hx hb dX9_dropAll_14 ?_
  refine pp_ti (y := 30) (by decide) ?_
  refine lv_iconst (v := (-1)) hx hb dX9_dropAll_15 (by decide) ?_
  refine va_iast hx hb hK hP hD hS 1 0 rfl rfl (vp_in_nI (n := 30) (by decide) (by decide)) dX9_dropAll_16 (fun H locs hP hD hS => ?_)
  have hP : va_P (dC, dI) vwCl [(h0, .inr (7, [.ref a0, v1, v2, v3, v4, v5, v6, v7, v8, v9, v10, v11, v12, v13, v14, v15, v16, v17, v18, v19, v20, v21, v22, v23, v24, v25, v26, v27])), (a0, .inl (ac, 38, .inl (upd nf 30 (-1))))] H := hP
  have hD : va_D A [(h0, .inr (7, [.ref a0, v1, v2, v3, v4, v5, v6, v7, v8, v9, v10, v11, v12, v13, v14, v15, v16, v17, v18, v19, v20, v21, v22, v23, v24, v25, v26, v27])), (a0, .inl (ac, 38, .inl (upd nf 30 (-1))))] := hD
  have q_2 : ((upd nf 30 (-1)) 0).toInt = (nf 0).toInt := pp_uN_ne (by decide)
  have q_3 : ((upd nf 30 (-1)) 1).toInt = (nf 1).toInt := pp_uN_ne (by decide)
  have q_4 : ((upd nf 30 (-1)) 2).toInt = (nf 2).toInt := pp_uN_ne (by decide)
  have q_5 : ((upd nf 30 (-1)) 30).toInt = (-1) := pp_uN_eq (by decide)
  have q_6 : ((upd nf 30 (-1)) 31).toInt = (nf 31).toInt := pp_uN_ne (by decide)
  have q_7 : ((upd nf 30 (-1)) 32).toInt = (nf 32).toInt := pp_uN_ne (by decide)
  have q_8 : ((upd nf 30 (-1)) 33).toInt = (nf 33).toInt := pp_uN_ne (by decide)
  have hI_9 : mI (upd nf 30 (-1)) := mI_hold hI (by decide) (by decide) (by first | decide | omega) (by first | decide | omega) (Or.inl (by decide))
  generalize upd nf 30 (-1) = f_1 at hP hD q_2 q_3 q_4 q_5 q_6 q_7 q_8 hI_9
  have hP : va_P (dC, dI) vwCl [(h0, .inr (7, [.ref a0, v1, v2, v3, v4, v5, v6, v7, v8, v9, v10, v11, v12, v13, v14, v15, v16, v17, v18, v19, v20, v21, v22, v23, v24, v25, v26, v27])), (a0, .inl (ac, 38, .inl f_1))] H := hP
  have hD : va_D A [(h0, .inr (7, [.ref a0, v1, v2, v3, v4, v5, v6, v7, v8, v9, v10, v11, v12, v13, v14, v15, v16, v17, v18, v19, v20, v21, v22, v23, v24, v25, v26, v27])), (a0, .inl (ac, 38, .inl f_1))] := hD
  refine lv_aload_n hx hb dX9_dropAll_17 rfl (lv_at hl 1 rfl) ?_
  refine va_get (D := (dC, dI)) (ci := 7) (v := .ref a0) (C := RX9) (T := TX9) (N := 28) hx hb hts inX9 hown hK hP 0 rfl rfl 0 (by decide) (hts _ (List.mem_of_getElem? (i := 1) rfl)) (fun _ h9 => h9) rfl dX9_dropAll_18 ?_
  refine lv_bipush (v := 34) hx hb dX9_dropAll_21 (by decide) ?_
  refine lv_iload_n hx hb dX9_dropAll_23 rfl (lv_at hl 0 rfl) ?_
  refine lv_iadd hx hb dX9_dropAll_24 ?_
  refine pp_ti (y := 34) (by decide) ?_
  refine lv_iconst (v := (-1)) hx hb dX9_dropAll_25 (by decide) ?_
  refine va_iast hx hb hK hP hD hS 1 0 rfl rfl (vp_in_nI (n := 34) (by decide) (by decide)) dX9_dropAll_26 (fun H locs hP hD hS => ?_)
  have hP : va_P (dC, dI) vwCl [(h0, .inr (7, [.ref a0, v1, v2, v3, v4, v5, v6, v7, v8, v9, v10, v11, v12, v13, v14, v15, v16, v17, v18, v19, v20, v21, v22, v23, v24, v25, v26, v27])), (a0, .inl (ac, 38, .inl (upd f_1 34 (-1))))] H := hP
  have hD : va_D A [(h0, .inr (7, [.ref a0, v1, v2, v3, v4, v5, v6, v7, v8, v9, v10, v11, v12, v13, v14, v15, v16, v17, v18, v19, v20, v21, v22, v23, v24, v25, v26, v27])), (a0, .inl (ac, 38, .inl (upd f_1 34 (-1))))] := hD
  have q_11 : ((upd f_1 34 (-1)) 0).toInt = (f_1 0).toInt := pp_uN_ne (by decide)
  have q_12 : ((upd f_1 34 (-1)) 1).toInt = (f_1 1).toInt := pp_uN_ne (by decide)
  have q_13 : ((upd f_1 34 (-1)) 2).toInt = (f_1 2).toInt := pp_uN_ne (by decide)
  have q_14 : ((upd f_1 34 (-1)) 30).toInt = (f_1 30).toInt := pp_uN_ne (by decide)
  have q_15 : ((upd f_1 34 (-1)) 31).toInt = (f_1 31).toInt := pp_uN_ne (by decide)
  have q_16 : ((upd f_1 34 (-1)) 32).toInt = (f_1 32).toInt := pp_uN_ne (by decide)
  have q_17 : ((upd f_1 34 (-1)) 33).toInt = (f_1 33).toInt := pp_uN_ne (by decide)
  have hI_18 : mI (upd f_1 34 (-1)) := mI_01 hI_9 (by have := mI_b hI_9; omega) (by have := mI_b hI_9; omega) (by omega) (by omega) (by omega) (by omega)
  generalize upd f_1 34 (-1) = f_10 at hP hD q_11 q_12 q_13 q_14 q_15 q_16 q_17 hI_18
  have hP : va_P (dC, dI) vwCl [(h0, .inr (7, [.ref a0, v1, v2, v3, v4, v5, v6, v7, v8, v9, v10, v11, v12, v13, v14, v15, v16, v17, v18, v19, v20, v21, v22, v23, v24, v25, v26, v27])), (a0, .inl (ac, 38, .inl f_10))] H := hP
  have hD : va_D A [(h0, .inr (7, [.ref a0, v1, v2, v3, v4, v5, v6, v7, v8, v9, v10, v11, v12, v13, v14, v15, v16, v17, v18, v19, v20, v21, v22, v23, v24, v25, v26, v27])), (a0, .inl (ac, 38, .inl f_10))] := hD
  refine lv_iinc (v := 1) (lv' := [(1, .int 1), (0, .ref h0)]) hx hb dX9_dropAll_27 hl (k := 0) rfl (by decide) (by decide) rfl (fun ls hl => ?_)
  refine lv_goto (tgt := 2) hx hb dX9_dropAll_30 (by decide) ?_
  refine lv_iload_n hx hb dX9_dropAll_2 rfl (lv_at hl 0 rfl) ?_
  refine lv_iconst (v := 4) hx hb dX9_dropAll_3 (by decide) ?_
  refine lv_icmp_ge (tgt := 33) hx hb dX9_dropAll_4 (by decide) (fun c => absurd c (by decide)) (fun _ => ?_)
  refine lv_aload_n hx hb dX9_dropAll_7 rfl (lv_at hl 1 rfl) ?_
  refine va_get (D := (dC, dI)) (ci := 7) (v := .ref a0) (C := RX9) (T := TX9) (N := 28) hx hb hts inX9 hown hK hP 0 rfl rfl 0 (by decide) (hts _ (List.mem_of_getElem? (i := 1) rfl)) (fun _ h9 => h9) rfl dX9_dropAll_8 ?_
  refine lv_bipush (v := 30) hx hb dX9_dropAll_11 (by decide) ?_
  refine lv_iload_n hx hb dX9_dropAll_13 rfl (lv_at hl 0 rfl) ?_
  refine lv_iadd hx hb dX9_dropAll_14 ?_
  refine pp_ti (y := 31) (by decide) ?_
  refine lv_iconst (v := (-1)) hx hb dX9_dropAll_15 (by decide) ?_
  refine va_iast hx hb hK hP hD hS 1 0 rfl rfl (vp_in_nI (n := 31) (by decide) (by decide)) dX9_dropAll_16 (fun H locs hP hD hS => ?_)
  have hP : va_P (dC, dI) vwCl [(h0, .inr (7, [.ref a0, v1, v2, v3, v4, v5, v6, v7, v8, v9, v10, v11, v12, v13, v14, v15, v16, v17, v18, v19, v20, v21, v22, v23, v24, v25, v26, v27])), (a0, .inl (ac, 38, .inl (upd f_10 31 (-1))))] H := hP
  have hD : va_D A [(h0, .inr (7, [.ref a0, v1, v2, v3, v4, v5, v6, v7, v8, v9, v10, v11, v12, v13, v14, v15, v16, v17, v18, v19, v20, v21, v22, v23, v24, v25, v26, v27])), (a0, .inl (ac, 38, .inl (upd f_10 31 (-1))))] := hD
  have q_20 : ((upd f_10 31 (-1)) 0).toInt = (f_10 0).toInt := pp_uN_ne (by decide)
  have q_21 : ((upd f_10 31 (-1)) 1).toInt = (f_10 1).toInt := pp_uN_ne (by decide)
  have q_22 : ((upd f_10 31 (-1)) 2).toInt = (f_10 2).toInt := pp_uN_ne (by decide)
  have q_23 : ((upd f_10 31 (-1)) 30).toInt = (f_10 30).toInt := pp_uN_ne (by decide)
  have q_24 : ((upd f_10 31 (-1)) 31).toInt = (-1) := pp_uN_eq (by decide)
  have q_25 : ((upd f_10 31 (-1)) 32).toInt = (f_10 32).toInt := pp_uN_ne (by decide)
  have q_26 : ((upd f_10 31 (-1)) 33).toInt = (f_10 33).toInt := pp_uN_ne (by decide)
  have hI_27 : mI (upd f_10 31 (-1)) := mI_hold hI_18 (by decide) (by decide) (by first | decide | omega) (by first | decide | omega) (Or.inl (by decide))
  generalize upd f_10 31 (-1) = f_19 at hP hD q_20 q_21 q_22 q_23 q_24 q_25 q_26 hI_27
  have hP : va_P (dC, dI) vwCl [(h0, .inr (7, [.ref a0, v1, v2, v3, v4, v5, v6, v7, v8, v9, v10, v11, v12, v13, v14, v15, v16, v17, v18, v19, v20, v21, v22, v23, v24, v25, v26, v27])), (a0, .inl (ac, 38, .inl f_19))] H := hP
  have hD : va_D A [(h0, .inr (7, [.ref a0, v1, v2, v3, v4, v5, v6, v7, v8, v9, v10, v11, v12, v13, v14, v15, v16, v17, v18, v19, v20, v21, v22, v23, v24, v25, v26, v27])), (a0, .inl (ac, 38, .inl f_19))] := hD
  refine lv_aload_n hx hb dX9_dropAll_17 rfl (lv_at hl 1 rfl) ?_
  refine va_get (D := (dC, dI)) (ci := 7) (v := .ref a0) (C := RX9) (T := TX9) (N := 28) hx hb hts inX9 hown hK hP 0 rfl rfl 0 (by decide) (hts _ (List.mem_of_getElem? (i := 1) rfl)) (fun _ h9 => h9) rfl dX9_dropAll_18 ?_
  refine lv_bipush (v := 34) hx hb dX9_dropAll_21 (by decide) ?_
  refine lv_iload_n hx hb dX9_dropAll_23 rfl (lv_at hl 0 rfl) ?_
  refine lv_iadd hx hb dX9_dropAll_24 ?_
  refine pp_ti (y := 35) (by decide) ?_
  refine lv_iconst (v := (-1)) hx hb dX9_dropAll_25 (by decide) ?_
  refine va_iast hx hb hK hP hD hS 1 0 rfl rfl (vp_in_nI (n := 35) (by decide) (by decide)) dX9_dropAll_26 (fun H locs hP hD hS => ?_)
  have hP : va_P (dC, dI) vwCl [(h0, .inr (7, [.ref a0, v1, v2, v3, v4, v5, v6, v7, v8, v9, v10, v11, v12, v13, v14, v15, v16, v17, v18, v19, v20, v21, v22, v23, v24, v25, v26, v27])), (a0, .inl (ac, 38, .inl (upd f_19 35 (-1))))] H := hP
  have hD : va_D A [(h0, .inr (7, [.ref a0, v1, v2, v3, v4, v5, v6, v7, v8, v9, v10, v11, v12, v13, v14, v15, v16, v17, v18, v19, v20, v21, v22, v23, v24, v25, v26, v27])), (a0, .inl (ac, 38, .inl (upd f_19 35 (-1))))] := hD
  have q_29 : ((upd f_19 35 (-1)) 0).toInt = (f_19 0).toInt := pp_uN_ne (by decide)
  have q_30 : ((upd f_19 35 (-1)) 1).toInt = (f_19 1).toInt := pp_uN_ne (by decide)
  have q_31 : ((upd f_19 35 (-1)) 2).toInt = (f_19 2).toInt := pp_uN_ne (by decide)
  have q_32 : ((upd f_19 35 (-1)) 30).toInt = (f_19 30).toInt := pp_uN_ne (by decide)
  have q_33 : ((upd f_19 35 (-1)) 31).toInt = (f_19 31).toInt := pp_uN_ne (by decide)
  have q_34 : ((upd f_19 35 (-1)) 32).toInt = (f_19 32).toInt := pp_uN_ne (by decide)
  have q_35 : ((upd f_19 35 (-1)) 33).toInt = (f_19 33).toInt := pp_uN_ne (by decide)
  have hI_36 : mI (upd f_19 35 (-1)) := mI_01 hI_27 (by have := mI_b hI_27; omega) (by have := mI_b hI_27; omega) (by omega) (by omega) (by omega) (by omega)
  generalize upd f_19 35 (-1) = f_28 at hP hD q_29 q_30 q_31 q_32 q_33 q_34 q_35 hI_36
  have hP : va_P (dC, dI) vwCl [(h0, .inr (7, [.ref a0, v1, v2, v3, v4, v5, v6, v7, v8, v9, v10, v11, v12, v13, v14, v15, v16, v17, v18, v19, v20, v21, v22, v23, v24, v25, v26, v27])), (a0, .inl (ac, 38, .inl f_28))] H := hP
  have hD : va_D A [(h0, .inr (7, [.ref a0, v1, v2, v3, v4, v5, v6, v7, v8, v9, v10, v11, v12, v13, v14, v15, v16, v17, v18, v19, v20, v21, v22, v23, v24, v25, v26, v27])), (a0, .inl (ac, 38, .inl f_28))] := hD
  refine lv_iinc (v := 2) (lv' := [(1, .int 2), (0, .ref h0)]) hx hb dX9_dropAll_27 hl (k := 0) rfl (by decide) (by decide) rfl (fun ls hl => ?_)
  refine lv_goto (tgt := 2) hx hb dX9_dropAll_30 (by decide) ?_
  refine lv_iload_n hx hb dX9_dropAll_2 rfl (lv_at hl 0 rfl) ?_
  refine lv_iconst (v := 4) hx hb dX9_dropAll_3 (by decide) ?_
  refine lv_icmp_ge (tgt := 33) hx hb dX9_dropAll_4 (by decide) (fun c => absurd c (by decide)) (fun _ => ?_)
  refine lv_aload_n hx hb dX9_dropAll_7 rfl (lv_at hl 1 rfl) ?_
  refine va_get (D := (dC, dI)) (ci := 7) (v := .ref a0) (C := RX9) (T := TX9) (N := 28) hx hb hts inX9 hown hK hP 0 rfl rfl 0 (by decide) (hts _ (List.mem_of_getElem? (i := 1) rfl)) (fun _ h9 => h9) rfl dX9_dropAll_8 ?_
  refine lv_bipush (v := 30) hx hb dX9_dropAll_11 (by decide) ?_
  refine lv_iload_n hx hb dX9_dropAll_13 rfl (lv_at hl 0 rfl) ?_
  refine lv_iadd hx hb dX9_dropAll_14 ?_
  refine pp_ti (y := 32) (by decide) ?_
  refine lv_iconst (v := (-1)) hx hb dX9_dropAll_15 (by decide) ?_
  refine va_iast hx hb hK hP hD hS 1 0 rfl rfl (vp_in_nI (n := 32) (by decide) (by decide)) dX9_dropAll_16 (fun H locs hP hD hS => ?_)
  have hP : va_P (dC, dI) vwCl [(h0, .inr (7, [.ref a0, v1, v2, v3, v4, v5, v6, v7, v8, v9, v10, v11, v12, v13, v14, v15, v16, v17, v18, v19, v20, v21, v22, v23, v24, v25, v26, v27])), (a0, .inl (ac, 38, .inl (upd f_28 32 (-1))))] H := hP
  have hD : va_D A [(h0, .inr (7, [.ref a0, v1, v2, v3, v4, v5, v6, v7, v8, v9, v10, v11, v12, v13, v14, v15, v16, v17, v18, v19, v20, v21, v22, v23, v24, v25, v26, v27])), (a0, .inl (ac, 38, .inl (upd f_28 32 (-1))))] := hD
  have q_38 : ((upd f_28 32 (-1)) 0).toInt = (f_28 0).toInt := pp_uN_ne (by decide)
  have q_39 : ((upd f_28 32 (-1)) 1).toInt = (f_28 1).toInt := pp_uN_ne (by decide)
  have q_40 : ((upd f_28 32 (-1)) 2).toInt = (f_28 2).toInt := pp_uN_ne (by decide)
  have q_41 : ((upd f_28 32 (-1)) 30).toInt = (f_28 30).toInt := pp_uN_ne (by decide)
  have q_42 : ((upd f_28 32 (-1)) 31).toInt = (f_28 31).toInt := pp_uN_ne (by decide)
  have q_43 : ((upd f_28 32 (-1)) 32).toInt = (-1) := pp_uN_eq (by decide)
  have q_44 : ((upd f_28 32 (-1)) 33).toInt = (f_28 33).toInt := pp_uN_ne (by decide)
  have hI_45 : mI (upd f_28 32 (-1)) := mI_hold hI_36 (by decide) (by decide) (by first | decide | omega) (by first | decide | omega) (Or.inl (by decide))
  generalize upd f_28 32 (-1) = f_37 at hP hD q_38 q_39 q_40 q_41 q_42 q_43 q_44 hI_45
  have hP : va_P (dC, dI) vwCl [(h0, .inr (7, [.ref a0, v1, v2, v3, v4, v5, v6, v7, v8, v9, v10, v11, v12, v13, v14, v15, v16, v17, v18, v19, v20, v21, v22, v23, v24, v25, v26, v27])), (a0, .inl (ac, 38, .inl f_37))] H := hP
  have hD : va_D A [(h0, .inr (7, [.ref a0, v1, v2, v3, v4, v5, v6, v7, v8, v9, v10, v11, v12, v13, v14, v15, v16, v17, v18, v19, v20, v21, v22, v23, v24, v25, v26, v27])), (a0, .inl (ac, 38, .inl f_37))] := hD
  refine lv_aload_n hx hb dX9_dropAll_17 rfl (lv_at hl 1 rfl) ?_
  refine va_get (D := (dC, dI)) (ci := 7) (v := .ref a0) (C := RX9) (T := TX9) (N := 28) hx hb hts inX9 hown hK hP 0 rfl rfl 0 (by decide) (hts _ (List.mem_of_getElem? (i := 1) rfl)) (fun _ h9 => h9) rfl dX9_dropAll_18 ?_
  refine lv_bipush (v := 34) hx hb dX9_dropAll_21 (by decide) ?_
  refine lv_iload_n hx hb dX9_dropAll_23 rfl (lv_at hl 0 rfl) ?_
  refine lv_iadd hx hb dX9_dropAll_24 ?_
  refine pp_ti (y := 36) (by decide) ?_
  refine lv_iconst (v := (-1)) hx hb dX9_dropAll_25 (by decide) ?_
  refine va_iast hx hb hK hP hD hS 1 0 rfl rfl (vp_in_nI (n := 36) (by decide) (by decide)) dX9_dropAll_26 (fun H locs hP hD hS => ?_)
  have hP : va_P (dC, dI) vwCl [(h0, .inr (7, [.ref a0, v1, v2, v3, v4, v5, v6, v7, v8, v9, v10, v11, v12, v13, v14, v15, v16, v17, v18, v19, v20, v21, v22, v23, v24, v25, v26, v27])), (a0, .inl (ac, 38, .inl (upd f_37 36 (-1))))] H := hP
  have hD : va_D A [(h0, .inr (7, [.ref a0, v1, v2, v3, v4, v5, v6, v7, v8, v9, v10, v11, v12, v13, v14, v15, v16, v17, v18, v19, v20, v21, v22, v23, v24, v25, v26, v27])), (a0, .inl (ac, 38, .inl (upd f_37 36 (-1))))] := hD
  have q_47 : ((upd f_37 36 (-1)) 0).toInt = (f_37 0).toInt := pp_uN_ne (by decide)
  have q_48 : ((upd f_37 36 (-1)) 1).toInt = (f_37 1).toInt := pp_uN_ne (by decide)
  have q_49 : ((upd f_37 36 (-1)) 2).toInt = (f_37 2).toInt := pp_uN_ne (by decide)
  have q_50 : ((upd f_37 36 (-1)) 30).toInt = (f_37 30).toInt := pp_uN_ne (by decide)
  have q_51 : ((upd f_37 36 (-1)) 31).toInt = (f_37 31).toInt := pp_uN_ne (by decide)
  have q_52 : ((upd f_37 36 (-1)) 32).toInt = (f_37 32).toInt := pp_uN_ne (by decide)
  have q_53 : ((upd f_37 36 (-1)) 33).toInt = (f_37 33).toInt := pp_uN_ne (by decide)
  have hI_54 : mI (upd f_37 36 (-1)) := mI_01 hI_45 (by have := mI_b hI_45; omega) (by have := mI_b hI_45; omega) (by omega) (by omega) (by omega) (by omega)
  generalize upd f_37 36 (-1) = f_46 at hP hD q_47 q_48 q_49 q_50 q_51 q_52 q_53 hI_54
  have hP : va_P (dC, dI) vwCl [(h0, .inr (7, [.ref a0, v1, v2, v3, v4, v5, v6, v7, v8, v9, v10, v11, v12, v13, v14, v15, v16, v17, v18, v19, v20, v21, v22, v23, v24, v25, v26, v27])), (a0, .inl (ac, 38, .inl f_46))] H := hP
  have hD : va_D A [(h0, .inr (7, [.ref a0, v1, v2, v3, v4, v5, v6, v7, v8, v9, v10, v11, v12, v13, v14, v15, v16, v17, v18, v19, v20, v21, v22, v23, v24, v25, v26, v27])), (a0, .inl (ac, 38, .inl f_46))] := hD
  refine lv_iinc (v := 3) (lv' := [(1, .int 3), (0, .ref h0)]) hx hb dX9_dropAll_27 hl (k := 0) rfl (by decide) (by decide) rfl (fun ls hl => ?_)
  refine lv_goto (tgt := 2) hx hb dX9_dropAll_30 (by decide) ?_
  refine lv_iload_n hx hb dX9_dropAll_2 rfl (lv_at hl 0 rfl) ?_
  refine lv_iconst (v := 4) hx hb dX9_dropAll_3 (by decide) ?_
  refine lv_icmp_ge (tgt := 33) hx hb dX9_dropAll_4 (by decide) (fun c => absurd c (by decide)) (fun _ => ?_)
  refine lv_aload_n hx hb dX9_dropAll_7 rfl (lv_at hl 1 rfl) ?_
  refine va_get (D := (dC, dI)) (ci := 7) (v := .ref a0) (C := RX9) (T := TX9) (N := 28) hx hb hts inX9 hown hK hP 0 rfl rfl 0 (by decide) (hts _ (List.mem_of_getElem? (i := 1) rfl)) (fun _ h9 => h9) rfl dX9_dropAll_8 ?_
  refine lv_bipush (v := 30) hx hb dX9_dropAll_11 (by decide) ?_
  refine lv_iload_n hx hb dX9_dropAll_13 rfl (lv_at hl 0 rfl) ?_
  refine lv_iadd hx hb dX9_dropAll_14 ?_
  refine pp_ti (y := 33) (by decide) ?_
  refine lv_iconst (v := (-1)) hx hb dX9_dropAll_15 (by decide) ?_
  refine va_iast hx hb hK hP hD hS 1 0 rfl rfl (vp_in_nI (n := 33) (by decide) (by decide)) dX9_dropAll_16 (fun H locs hP hD hS => ?_)
  have hP : va_P (dC, dI) vwCl [(h0, .inr (7, [.ref a0, v1, v2, v3, v4, v5, v6, v7, v8, v9, v10, v11, v12, v13, v14, v15, v16, v17, v18, v19, v20, v21, v22, v23, v24, v25, v26, v27])), (a0, .inl (ac, 38, .inl (upd f_46 33 (-1))))] H := hP
  have hD : va_D A [(h0, .inr (7, [.ref a0, v1, v2, v3, v4, v5, v6, v7, v8, v9, v10, v11, v12, v13, v14, v15, v16, v17, v18, v19, v20, v21, v22, v23, v24, v25, v26, v27])), (a0, .inl (ac, 38, .inl (upd f_46 33 (-1))))] := hD
  have q_56 : ((upd f_46 33 (-1)) 0).toInt = (f_46 0).toInt := pp_uN_ne (by decide)
  have q_57 : ((upd f_46 33 (-1)) 1).toInt = (f_46 1).toInt := pp_uN_ne (by decide)
  have q_58 : ((upd f_46 33 (-1)) 2).toInt = (f_46 2).toInt := pp_uN_ne (by decide)
  have q_59 : ((upd f_46 33 (-1)) 30).toInt = (f_46 30).toInt := pp_uN_ne (by decide)
  have q_60 : ((upd f_46 33 (-1)) 31).toInt = (f_46 31).toInt := pp_uN_ne (by decide)
  have q_61 : ((upd f_46 33 (-1)) 32).toInt = (f_46 32).toInt := pp_uN_ne (by decide)
  have q_62 : ((upd f_46 33 (-1)) 33).toInt = (-1) := pp_uN_eq (by decide)
  have hI_63 : mI (upd f_46 33 (-1)) := mI_hold hI_54 (by decide) (by decide) (by first | decide | omega) (by first | decide | omega) (Or.inl (by decide))
  generalize upd f_46 33 (-1) = f_55 at hP hD q_56 q_57 q_58 q_59 q_60 q_61 q_62 hI_63
  have hP : va_P (dC, dI) vwCl [(h0, .inr (7, [.ref a0, v1, v2, v3, v4, v5, v6, v7, v8, v9, v10, v11, v12, v13, v14, v15, v16, v17, v18, v19, v20, v21, v22, v23, v24, v25, v26, v27])), (a0, .inl (ac, 38, .inl f_55))] H := hP
  have hD : va_D A [(h0, .inr (7, [.ref a0, v1, v2, v3, v4, v5, v6, v7, v8, v9, v10, v11, v12, v13, v14, v15, v16, v17, v18, v19, v20, v21, v22, v23, v24, v25, v26, v27])), (a0, .inl (ac, 38, .inl f_55))] := hD
  refine lv_aload_n hx hb dX9_dropAll_17 rfl (lv_at hl 1 rfl) ?_
  refine va_get (D := (dC, dI)) (ci := 7) (v := .ref a0) (C := RX9) (T := TX9) (N := 28) hx hb hts inX9 hown hK hP 0 rfl rfl 0 (by decide) (hts _ (List.mem_of_getElem? (i := 1) rfl)) (fun _ h9 => h9) rfl dX9_dropAll_18 ?_
  refine lv_bipush (v := 34) hx hb dX9_dropAll_21 (by decide) ?_
  refine lv_iload_n hx hb dX9_dropAll_23 rfl (lv_at hl 0 rfl) ?_
  refine lv_iadd hx hb dX9_dropAll_24 ?_
  refine pp_ti (y := 37) (by decide) ?_
  refine lv_iconst (v := (-1)) hx hb dX9_dropAll_25 (by decide) ?_
  refine va_iast hx hb hK hP hD hS 1 0 rfl rfl (vp_in_nI (n := 37) (by decide) (by decide)) dX9_dropAll_26 (fun H locs hP hD hS => ?_)
  have hP : va_P (dC, dI) vwCl [(h0, .inr (7, [.ref a0, v1, v2, v3, v4, v5, v6, v7, v8, v9, v10, v11, v12, v13, v14, v15, v16, v17, v18, v19, v20, v21, v22, v23, v24, v25, v26, v27])), (a0, .inl (ac, 38, .inl (upd f_55 37 (-1))))] H := hP
  have hD : va_D A [(h0, .inr (7, [.ref a0, v1, v2, v3, v4, v5, v6, v7, v8, v9, v10, v11, v12, v13, v14, v15, v16, v17, v18, v19, v20, v21, v22, v23, v24, v25, v26, v27])), (a0, .inl (ac, 38, .inl (upd f_55 37 (-1))))] := hD
  have q_65 : ((upd f_55 37 (-1)) 0).toInt = (f_55 0).toInt := pp_uN_ne (by decide)
  have q_66 : ((upd f_55 37 (-1)) 1).toInt = (f_55 1).toInt := pp_uN_ne (by decide)
  have q_67 : ((upd f_55 37 (-1)) 2).toInt = (f_55 2).toInt := pp_uN_ne (by decide)
  have q_68 : ((upd f_55 37 (-1)) 30).toInt = (f_55 30).toInt := pp_uN_ne (by decide)
  have q_69 : ((upd f_55 37 (-1)) 31).toInt = (f_55 31).toInt := pp_uN_ne (by decide)
  have q_70 : ((upd f_55 37 (-1)) 32).toInt = (f_55 32).toInt := pp_uN_ne (by decide)
  have q_71 : ((upd f_55 37 (-1)) 33).toInt = (f_55 33).toInt := pp_uN_ne (by decide)
  have hI_72 : mI (upd f_55 37 (-1)) := mI_01 hI_63 (by have := mI_b hI_63; omega) (by have := mI_b hI_63; omega) (by omega) (by omega) (by omega) (by omega)
  generalize upd f_55 37 (-1) = f_64 at hP hD q_65 q_66 q_67 q_68 q_69 q_70 q_71 hI_72
  have hP : va_P (dC, dI) vwCl [(h0, .inr (7, [.ref a0, v1, v2, v3, v4, v5, v6, v7, v8, v9, v10, v11, v12, v13, v14, v15, v16, v17, v18, v19, v20, v21, v22, v23, v24, v25, v26, v27])), (a0, .inl (ac, 38, .inl f_64))] H := hP
  have hD : va_D A [(h0, .inr (7, [.ref a0, v1, v2, v3, v4, v5, v6, v7, v8, v9, v10, v11, v12, v13, v14, v15, v16, v17, v18, v19, v20, v21, v22, v23, v24, v25, v26, v27])), (a0, .inl (ac, 38, .inl f_64))] := hD
  refine lv_iinc (v := 4) (lv' := [(1, .int 4), (0, .ref h0)]) hx hb dX9_dropAll_27 hl (k := 0) rfl (by decide) (by decide) rfl (fun ls hl => ?_)
  refine lv_goto (tgt := 2) hx hb dX9_dropAll_30 (by decide) ?_
  refine lv_iload_n hx hb dX9_dropAll_2 rfl (lv_at hl 0 rfl) ?_
  refine lv_iconst (v := 4) hx hb dX9_dropAll_3 (by decide) ?_
  refine lv_icmp_ge (tgt := 33) hx hb dX9_dropAll_4 (by decide) (fun _ => ?_) (fun c => absurd (by decide) c)
  have hP9 := hP.sub (ws' := [(h0, .inr (7, [.ref a0, v1, v2, v3, v4, v5, v6, v7, v8, v9, v10, v11, v12, v13, v14, v15, v16, v17, v18, v19, v20, v21, v22, v23, v24, v25, v26, v27])), (a0, .inl (ac, 38, .inl f_64))]) [0, 1] rfl
  have hD9 := hD.sub (ws' := [(h0, .inr (7, [.ref a0, v1, v2, v3, v4, v5, v6, v7, v8, v9, v10, v11, v12, v13, v14, v15, v16, v17, v18, v19, v20, v21, v22, v23, v24, v25, v26, v27])), (a0, .inl (ac, 38, .inl f_64))]) [0, 1] (by decide) rfl
  have hK9 := hK.sub (tys' := [(ac, .int)]) [0] rfl
  exact W.vret hx hb hr (fun t ht hW => ⟨⟨(), rfl, trivial, f_64, hI_72, (by first | omega | decide | (simp only [fa_lt, fa_le, fa_eq, and_true, true_and, and_false, false_and, not_true_eq_false, not_false_eq_true, li_0, li_1, li_2, li_3, li_4, li_5, li_6, li_7, li_8, li_9, li_10, li_12, li_15, li_16, li_20, li_30, li_34, li_38, li_40, li_63, li_64, li_65, li_78, li_120, li_1000, li_4000, li_10000, li_11077, li_255, li_65535, li_m1, li_m2, li_m1000000001, li_m1000000002, li_m1000000003, li_m1000000004, li_m1000000005, li_m1000000006, li_m1000000007, or_true, true_or, or_false, false_or, implies_true, true_implies, false_implies] <;> omega)), (by first | omega | decide | (simp only [fa_lt, fa_le, fa_eq, and_true, true_and, and_false, false_and, not_true_eq_false, not_false_eq_true, li_0, li_1, li_2, li_3, li_4, li_5, li_6, li_7, li_8, li_9, li_10, li_12, li_15, li_16, li_20, li_30, li_34, li_38, li_40, li_63, li_64, li_65, li_78, li_120, li_1000, li_4000, li_10000, li_11077, li_255, li_65535, li_m1, li_m2, li_m1000000001, li_m1000000002, li_m1000000003, li_m1000000004, li_m1000000005, li_m1000000006, li_m1000000007, or_true, true_or, or_false, false_or, implies_true, true_implies, false_implies] <;> omega)), by rw [ht]; exact hP9, va_K.moved hW.alike hK9, hD9⟩, hS.F ht⟩) hS.2.2 dX9_dropAll_33

def w_m_holds : List Cond := .code yX9_holds cX9_holds 5 (some .int) :: (([.methodLink RX9 96 yX9_holdOf, .instanceMethod yX9_holdOf, .selects RX9 yX9_holdOf yX9_holdOf, .initialized RX9, .code yX9_holdOf cX9_holdOf 4 (some .int), .fieldLink RX9 9 "LampShapesModel" "now" "[I"] : List Cond) ++ wsX90)
set_option maxRecDepth 20000 in
theorem g_m_holds_m_holdOf_96 : GoodIn w_m_holds (wsV RX9 96 RX9 yX9_holdOf w_m_holdOf) := goodIn_r _ [1, 2, 3, 4, 5, 6, 7, 8, 9, 10, 11, 12, 13, 14, 15, 16, 17, 18, 19, 20, 21, 22, 23, 24, 25, 26, 27, 28, 29, 30, 31, 32, 33, 34] rfl (by decide +kernel)
set_option maxHeartbeats 4000000 in
set_option maxRecDepth 100000 in
theorem m_holds (l : Launch) (dC : Nat → ClassId) (dI : Nat → Nat → Nat) (ad : Nat → Nat) (h0 : Nat) (k : Int32) (b : Int32) (a0 : Nat) (v1 : Value) (v2 : Value) (v3 : Value) (v4 : Value) (v5 : Value) (v6 : Value) (v7 : Value) (v8 : Value) (v9 : Value) (v10 : Value) (v11 : Value) (v12 : Value) (v13 : Value) (v14 : Value) (v15 : Value) (v16 : Value) (v17 : Value) (v18 : Value) (v19 : Value) (v20 : Value) (v21 : Value) (v22 : Value) (v23 : Value) (v24 : Value) (v25 : Value) (v26 : Value) (v27 : Value) (ac : ClassId) (nf : Nat → Int32) (sz : Nat) (hI : mI nf) (hk : 0 ≤ k.toInt ∧ k.toInt ≤ 8) (hfr : hF nf (-1)) (hnh : ¬ hF nf k.toInt) : Met l yX9_holds w_m_holds ({ frames := 1, cells := 0, slots := 0, locals := 23 } : Room) (va_Pc [.ref h0, .int k, .int b] (preM dC dI ad [(ac, .int)] [(h0, .inr (7, [.ref a0, v1, v2, v3, v4, v5, v6, v7, v8, v9, v10, v11, v12, v13, v14, v15, v16, v17, v18, v19, v20, v21, v22, v23, v24, v25, v26, v27])), (a0, .inl (ac, 38, .inl nf))] sz)) (va_Qi (fun (r : Int32) (_ : Unit) => 0 ≤ r.toInt) (fun _ t => ∃ (ng : Nat → Int32), (mI ng) ∧ ((ng 0).toInt = (nf 0).toInt ∧ (ng 1).toInt = (nf 1).toInt ∧ (ng 2).toInt = (nf 2).toInt) ∧ (hput nf ng k.toInt) ∧ va_P (dC, dI) vwCl [(h0, .inr (7, [.ref a0, v1, v2, v3, v4, v5, v6, v7, v8, v9, v10, v11, v12, v13, v14, v15, v16, v17, v18, v19, v20, v21, v22, v23, v24, v25, v26, v27])), (a0, .inl (ac, 38, .inl ng))] t.heap ∧ va_K (dC, dI) vwCl [(ac, .int)] t ∧ va_D (va_A [(h0, .inr (7, [.ref a0, v1, v2, v3, v4, v5, v6, v7, v8, v9, v10, v11, v12, v13, v14, v15, v16, v17, v18, v19, v20, v21, v22, v23, v24, v25, v26, v27])), (a0, .inl (ac, 38, .inl nf))] sz) [(h0, .inr (7, [.ref a0, v1, v2, v3, v4, v5, v6, v7, v8, v9, v10, v11, v12, v13, v14, v15, v16, v17, v18, v19, v20, v21, v22, v23, v24, v25, v26, v27])), (a0, .inl (ac, 38, .inl ng))]) (va_A [(h0, .inr (7, [.ref a0, v1, v2, v3, v4, v5, v6, v7, v8, v9, v10, v11, v12, v13, v14, v15, v16, v17, v18, v19, v20, v21, v22, v23, v24, v25, v26, v27])), (a0, .inl (ac, 38, .inl nf))] sz)) 0 0 (va_A [(h0, .inr (7, [.ref a0, v1, v2, v3, v4, v5, v6, v7, v8, v9, v10, v11, v12, v13, v14, v15, v16, v17, v18, v19, v20, v21, v22, v23, v24, v25, v26, v27])), (a0, .inl (ac, 38, .inl nf))] sz) := by
  refine Met.ofW (cc := cX9_holds) (maxL := 5) (ret := (some .int)) (by decide) rfl ?_
  intro p e s m args below meth c s₁ B hml hv
  obtain ⟨rfl, hsz, hP, hK, hD0, hev⟩ := hv
  have hx := B.exec
  have hb := B.bytes
  have hr := B.returns
  have hts := atoms_spec (ws := w_m_holds) B.pre
  have hown : s.vm.findClass RX9 = some m.cls := findClass_of_methodNamed B.named
  have hlocks := B.notSynchronized
  have inX9 : ∀ w ∈ wsX90, w ∈ w_m_holds := fun w h => List.mem_cons_of_mem _ (List.mem_append_right _ h)
  subst hsz
  have hD := hD0.self (sz := s.heap.size)
  generalize hAe : va_A [(h0, .inr (7, [.ref a0, v1, v2, v3, v4, v5, v6, v7, v8, v9, v10, v11, v12, v13, v14, v15, v16, v17, v18, v19, v20, v21, v22, v23, v24, v25, v26, v27])), (a0, .inl (ac, 38, .inl nf))] s.heap.size = A at hD ⊢
  have hA : ∀ q : Nat, s.heap.size ≤ q → A q := fun q h => by rw [← hAe]; exact Or.inr h
  have hS : va_S A s.heap s.heap [] := va_S.rf
  have hP : va_P (dC, dI) vwCl [(h0, .inr (7, [.ref a0, v1, v2, v3, v4, v5, v6, v7, v8, v9, v10, v11, v12, v13, v14, v15, v16, v17, v18, v19, v20, v21, v22, v23, v24, v25, v26, v27])), (a0, .inl (ac, 38, .inl nf))] s.heap := hP
  have hl := lv_entry ([.ref h0, .int k, .int b]) (n := 5) (Nat.le_of_ble_eq_true rfl)
  rw [lg_entry_eq]
  generalize (lg_sl ([.ref h0, .int k, .int b]) ++ List.replicate (5 - (lg_sl ([.ref h0, .int k, .int b])).length) Slot.unset).toArray = ls at hl ⊢
  have hl : lv_has ls 5 [(0, .ref h0), (1, .int k), (2, .int b)] := hl
  refine lv_aload_n hx hb dX9_holds_0 rfl (lv_at hl 0 rfl) ?_
  refine lv_iconst (v := (-1)) hx hb dX9_holds_1 (by decide) ?_
  have hPc := hP.sub (ws' := [(h0, .inr (7, [.ref a0, v1, v2, v3, v4, v5, v6, v7, v8, v9, v10, v11, v12, v13, v14, v15, v16, v17, v18, v19, v20, v21, v22, v23, v24, v25, v26, v27])), (a0, .inl (ac, 38, .inl nf))]) [0, 1] rfl
  have hKc := hK.sub (tys' := [(ac, .int)]) [0] rfl
  refine vp_callSi (W.runV (As := [.int (-1)]) (rest := []) ⟨hx, hb, hml, hown, hts⟩ (m_holdOf l dC dI ad h0 (-1) a0 v1 v2 v3 v4 v5 v6 v7 v8 v9 v10 v11 v12 v13 v14 v15 v16 v17 v18 v19 v20 v21 v22 v23 v24 v25 v26 v27 ac nf hI) (cwV 1 hts g_m_holds_m_holdOf_96 rfl rfl rfl (by decide +kernel) ⟨(Nat.le_of_ble_eq_true rfl), (Nat.le_of_ble_eq_true rfl)⟩) ⟨preS_blind, va_recv hKc hPc (ci := 7) (q0 := 0) rfl rfl, fun U hU hW => ⟨rfl, preS_at hU hW hPc hKc hev⟩⟩ rfl rfl hl.1 rfl (lv_room (Nat.le_of_ble_eq_true rfl)) dX9_holds_2 ⟨(Nat.le_of_ble_eq_true rfl), (Nat.le_of_ble_eq_true rfl)⟩) (fun r_1 hw => ?_)
  have hr_1 : (-1) ≤ r_1.toInt ∧ r_1.toInt ≤ 3 ∧ ((0 ≤ r_1.toInt ∧ hF nf (-1)) ∨ (r_1.toInt = (-1) ∧ ¬ hF nf (-1))) := hw
  refine lv_istore_n (lv' := [(3, .int r_1), (0, .ref h0), (1, .int k), (2, .int b)]) hx hb dX9_holds_5 rfl hl (by decide) rfl (fun ls hl => ?_)
  refine lv_iconst (v := 3) hx hb dX9_holds_6 (by decide) ?_
  refine lv_istore (lv' := [(4, .int 3), (3, .int r_1), (0, .ref h0), (1, .int k), (2, .int b)]) hx hb dX9_holds_7 hl (by decide) rfl (fun ls hl => ?_)
  refine lv_iload hx hb dX9_holds_9 (lv_at hl 0 rfl) ?_
  refine lv_if_lt (tgt := 40) hx hb dX9_holds_11 (by decide) (fun c => absurd c (by decide)) (fun _ => ?_)
  refine lv_aload_n hx hb dX9_holds_14 rfl (lv_at hl 2 rfl) ?_
  refine va_get (D := (dC, dI)) (ci := 7) (v := .ref a0) (C := RX9) (T := TX9) (N := 28) hx hb hts inX9 hown hK hP 0 rfl rfl 0 (by decide) (hts _ (List.mem_of_getElem? (i := 6) rfl)) (fun _ h9 => h9) rfl dX9_holds_15 ?_
  refine lv_bipush (v := 30) hx hb dX9_holds_18 (by decide) ?_
  refine lv_iload hx hb dX9_holds_20 (lv_at hl 0 rfl) ?_
  refine lv_iadd hx hb dX9_holds_22 ?_
  refine pp_ti (y := 33) (by decide) ?_
  refine va_iald hx hb hK hP 1 0 rfl rfl (vp_in_nI (n := 33) (by decide) (by decide)) dX9_holds_23 ?_
  refine pp_ti (y := nf 33) rfl ?_
  refine lv_topi (fun n_2 en_2 => ?_)
  have tn_2 : n_2.toInt = (nf 33).toInt ∧ (-1) ≤ n_2.toInt ∧ n_2.toInt ≤ 8 := mI_r33 hI en_2
  clear en_2
  refine lv_if_ge (tgt := 32) hx hb dX9_holds_24 (by decide) (fun c_3 => ?_) (fun c_3 => ?_)
  · skip
    have tc_3 : 0 ≤ n_2.toInt := (fa_le _ _).mp c_3
    refine lv_iload_n hx hb dX9_holds_32 rfl (lv_at hl 1 rfl) ?_
    refine lv_istore_n (lv' := [(3, .int r_1), (4, .int 3), (0, .ref h0), (1, .int k), (2, .int b)]) hx hb dX9_holds_33 rfl hl (by decide) rfl (fun ls hl => ?_)
    refine lv_iinc (v := 2) (lv' := [(4, .int 2), (3, .int r_1), (0, .ref h0), (1, .int k), (2, .int b)]) hx hb dX9_holds_34 hl (k := 1) rfl (by decide) (by decide) rfl (fun ls hl => ?_)
    refine lv_goto (tgt := 9) hx hb dX9_holds_37 (by decide) ?_
    refine lv_iload hx hb dX9_holds_9 (lv_at hl 0 rfl) ?_
    refine lv_if_lt (tgt := 40) hx hb dX9_holds_11 (by decide) (fun c => absurd c (by decide)) (fun _ => ?_)
    refine lv_aload_n hx hb dX9_holds_14 rfl (lv_at hl 2 rfl) ?_
    refine va_get (D := (dC, dI)) (ci := 7) (v := .ref a0) (C := RX9) (T := TX9) (N := 28) hx hb hts inX9 hown hK hP 0 rfl rfl 0 (by decide) (hts _ (List.mem_of_getElem? (i := 6) rfl)) (fun _ h9 => h9) rfl dX9_holds_15 ?_
    refine lv_bipush (v := 30) hx hb dX9_holds_18 (by decide) ?_
    refine lv_iload hx hb dX9_holds_20 (lv_at hl 0 rfl) ?_
    refine lv_iadd hx hb dX9_holds_22 ?_
    refine pp_ti (y := 32) (by decide) ?_
    refine va_iald hx hb hK hP 1 0 rfl rfl (vp_in_nI (n := 32) (by decide) (by decide)) dX9_holds_23 ?_
    refine pp_ti (y := nf 32) rfl ?_
    refine lv_topi (fun n_4 en_4 => ?_)
    have tn_4 : n_4.toInt = (nf 32).toInt ∧ (-1) ≤ n_4.toInt ∧ n_4.toInt ≤ 8 := mI_r32 hI en_4
    clear en_4
    refine lv_if_ge (tgt := 32) hx hb dX9_holds_24 (by decide) (fun c_5 => ?_) (fun c_5 => ?_)
    · skip
      have tc_5 : 0 ≤ n_4.toInt := (fa_le _ _).mp c_5
      refine lv_iload_n hx hb dX9_holds_32 rfl (lv_at hl 1 rfl) ?_
      refine lv_istore_n (lv' := [(3, .int r_1), (4, .int 2), (0, .ref h0), (1, .int k), (2, .int b)]) hx hb dX9_holds_33 rfl hl (by decide) rfl (fun ls hl => ?_)
      refine lv_iinc (v := 1) (lv' := [(4, .int 1), (3, .int r_1), (0, .ref h0), (1, .int k), (2, .int b)]) hx hb dX9_holds_34 hl (k := 1) rfl (by decide) (by decide) rfl (fun ls hl => ?_)
      refine lv_goto (tgt := 9) hx hb dX9_holds_37 (by decide) ?_
      refine lv_iload hx hb dX9_holds_9 (lv_at hl 0 rfl) ?_
      refine lv_if_lt (tgt := 40) hx hb dX9_holds_11 (by decide) (fun c => absurd c (by decide)) (fun _ => ?_)
      refine lv_aload_n hx hb dX9_holds_14 rfl (lv_at hl 2 rfl) ?_
      refine va_get (D := (dC, dI)) (ci := 7) (v := .ref a0) (C := RX9) (T := TX9) (N := 28) hx hb hts inX9 hown hK hP 0 rfl rfl 0 (by decide) (hts _ (List.mem_of_getElem? (i := 6) rfl)) (fun _ h9 => h9) rfl dX9_holds_15 ?_
      refine lv_bipush (v := 30) hx hb dX9_holds_18 (by decide) ?_
      refine lv_iload hx hb dX9_holds_20 (lv_at hl 0 rfl) ?_
      refine lv_iadd hx hb dX9_holds_22 ?_
      refine pp_ti (y := 31) (by decide) ?_
      refine va_iald hx hb hK hP 1 0 rfl rfl (vp_in_nI (n := 31) (by decide) (by decide)) dX9_holds_23 ?_
      refine pp_ti (y := nf 31) rfl ?_
      refine lv_topi (fun n_6 en_6 => ?_)
      have tn_6 : n_6.toInt = (nf 31).toInt ∧ (-1) ≤ n_6.toInt ∧ n_6.toInt ≤ 8 := mI_r31 hI en_6
      clear en_6
      refine lv_if_ge (tgt := 32) hx hb dX9_holds_24 (by decide) (fun c_7 => ?_) (fun c_7 => ?_)
      · skip
        have tc_7 : 0 ≤ n_6.toInt := (fa_le _ _).mp c_7
        refine lv_iload_n hx hb dX9_holds_32 rfl (lv_at hl 1 rfl) ?_
        refine lv_istore_n (lv' := [(3, .int r_1), (4, .int 1), (0, .ref h0), (1, .int k), (2, .int b)]) hx hb dX9_holds_33 rfl hl (by decide) rfl (fun ls hl => ?_)
        refine lv_iinc (v := 0) (lv' := [(4, .int 0), (3, .int r_1), (0, .ref h0), (1, .int k), (2, .int b)]) hx hb dX9_holds_34 hl (k := 1) rfl (by decide) (by decide) rfl (fun ls hl => ?_)
        refine lv_goto (tgt := 9) hx hb dX9_holds_37 (by decide) ?_
        refine lv_iload hx hb dX9_holds_9 (lv_at hl 0 rfl) ?_
        refine lv_if_lt (tgt := 40) hx hb dX9_holds_11 (by decide) (fun c => absurd c (by decide)) (fun _ => ?_)
        refine lv_aload_n hx hb dX9_holds_14 rfl (lv_at hl 2 rfl) ?_
        refine va_get (D := (dC, dI)) (ci := 7) (v := .ref a0) (C := RX9) (T := TX9) (N := 28) hx hb hts inX9 hown hK hP 0 rfl rfl 0 (by decide) (hts _ (List.mem_of_getElem? (i := 6) rfl)) (fun _ h9 => h9) rfl dX9_holds_15 ?_
        refine lv_bipush (v := 30) hx hb dX9_holds_18 (by decide) ?_
        refine lv_iload hx hb dX9_holds_20 (lv_at hl 0 rfl) ?_
        refine lv_iadd hx hb dX9_holds_22 ?_
        refine pp_ti (y := 30) (by decide) ?_
        refine va_iald hx hb hK hP 1 0 rfl rfl (vp_in_nI (n := 30) (by decide) (by decide)) dX9_holds_23 ?_
        refine pp_ti (y := nf 30) rfl ?_
        refine lv_topi (fun n_8 en_8 => ?_)
        have tn_8 : n_8.toInt = (nf 30).toInt ∧ (-1) ≤ n_8.toInt ∧ n_8.toInt ≤ 8 := mI_r30 hI en_8
        clear en_8
        refine lv_if_ge (tgt := 32) hx hb dX9_holds_24 (by decide) (fun c_9 => ?_) (fun c_9 => ?_)
        · skip
          have tc_9 : 0 ≤ n_8.toInt := (fa_le _ _).mp c_9
          refine lv_iload_n hx hb dX9_holds_32 rfl (lv_at hl 1 rfl) ?_
          refine lv_istore_n (lv' := [(3, .int r_1), (4, .int 0), (0, .ref h0), (1, .int k), (2, .int b)]) hx hb dX9_holds_33 rfl hl (by decide) rfl (fun ls hl => ?_)
          refine lv_iinc (v := (-1)) (lv' := [(4, .int (-1)), (3, .int r_1), (0, .ref h0), (1, .int k), (2, .int b)]) hx hb dX9_holds_34 hl (k := 1) rfl (by decide) (by decide) rfl (fun ls hl => ?_)
          refine lv_goto (tgt := 9) hx hb dX9_holds_37 (by decide) ?_
          refine lv_iload hx hb dX9_holds_9 (lv_at hl 0 rfl) ?_
          refine lv_if_lt (tgt := 40) hx hb dX9_holds_11 (by decide) (fun _ => ?_) (fun c => absurd (by decide) c)
          exfalso; unfold hF at hfr; omega
        · skip
          have tc_9 : ¬ 0 ≤ n_8.toInt := fun h => c_9 ((fa_le _ _).mpr h)
          refine lv_iload hx hb dX9_holds_27 (lv_at hl 0 rfl) ?_
          refine lv_goto (tgt := 33) hx hb dX9_holds_29 (by decide) ?_
          refine lv_istore_n (lv' := [(3, .int 0), (4, .int 0), (0, .ref h0), (1, .int k), (2, .int b)]) hx hb dX9_holds_33 rfl hl (by decide) rfl (fun ls hl => ?_)
          refine lv_iinc (v := (-1)) (lv' := [(4, .int (-1)), (3, .int 0), (0, .ref h0), (1, .int k), (2, .int b)]) hx hb dX9_holds_34 hl (k := 1) rfl (by decide) (by decide) rfl (fun ls hl => ?_)
          refine lv_goto (tgt := 9) hx hb dX9_holds_37 (by decide) ?_
          refine lv_iload hx hb dX9_holds_9 (lv_at hl 0 rfl) ?_
          refine lv_if_lt (tgt := 40) hx hb dX9_holds_11 (by decide) (fun _ => ?_) (fun c => absurd (by decide) c)
          refine lv_aload_n hx hb dX9_holds_40 rfl (lv_at hl 2 rfl) ?_
          refine va_get (D := (dC, dI)) (ci := 7) (v := .ref a0) (C := RX9) (T := TX9) (N := 28) hx hb hts inX9 hown hK hP 0 rfl rfl 0 (by decide) (hts _ (List.mem_of_getElem? (i := 6) rfl)) (fun _ h9 => h9) rfl dX9_holds_41 ?_
          refine lv_bipush (v := 30) hx hb dX9_holds_44 (by decide) ?_
          refine lv_iload_n hx hb dX9_holds_46 rfl (lv_at hl 1 rfl) ?_
          refine lv_iadd hx hb dX9_holds_47 ?_
          refine pp_ti (y := 30) (by decide) ?_
          refine lv_iload_n hx hb dX9_holds_48 rfl (lv_at hl 3 rfl) ?_
          refine va_iast hx hb hK hP hD hS 1 0 rfl rfl (vp_in_nI (n := 30) (by decide) (by decide)) dX9_holds_49 (fun H locs hP hD hS => ?_)
          have hP : va_P (dC, dI) vwCl [(h0, .inr (7, [.ref a0, v1, v2, v3, v4, v5, v6, v7, v8, v9, v10, v11, v12, v13, v14, v15, v16, v17, v18, v19, v20, v21, v22, v23, v24, v25, v26, v27])), (a0, .inl (ac, 38, .inl (upd nf 30 k)))] H := hP
          have hD : va_D A [(h0, .inr (7, [.ref a0, v1, v2, v3, v4, v5, v6, v7, v8, v9, v10, v11, v12, v13, v14, v15, v16, v17, v18, v19, v20, v21, v22, v23, v24, v25, v26, v27])), (a0, .inl (ac, 38, .inl (upd nf 30 k)))] := hD
          have q_11 : ((upd nf 30 k) 0).toInt = (nf 0).toInt := pp_uN_ne (by decide)
          have q_12 : ((upd nf 30 k) 1).toInt = (nf 1).toInt := pp_uN_ne (by decide)
          have q_13 : ((upd nf 30 k) 2).toInt = (nf 2).toInt := pp_uN_ne (by decide)
          have q_14 : ((upd nf 30 k) 30).toInt = k.toInt := pp_uN_eq rfl
          have q_15 : ((upd nf 30 k) 31).toInt = (nf 31).toInt := pp_uN_ne (by decide)
          have q_16 : ((upd nf 30 k) 32).toInt = (nf 32).toInt := pp_uN_ne (by decide)
          have q_17 : ((upd nf 30 k) 33).toInt = (nf 33).toInt := pp_uN_ne (by decide)
          have hI_18 : mI (upd nf 30 k) := mI_hold hI (by decide) (by decide) (by first | decide | omega) (by first | decide | omega) (Or.inr hnh)
          generalize upd nf 30 k = f_10 at hP hD q_11 q_12 q_13 q_14 q_15 q_16 q_17 hI_18
          have hP : va_P (dC, dI) vwCl [(h0, .inr (7, [.ref a0, v1, v2, v3, v4, v5, v6, v7, v8, v9, v10, v11, v12, v13, v14, v15, v16, v17, v18, v19, v20, v21, v22, v23, v24, v25, v26, v27])), (a0, .inl (ac, 38, .inl f_10))] H := hP
          have hD : va_D A [(h0, .inr (7, [.ref a0, v1, v2, v3, v4, v5, v6, v7, v8, v9, v10, v11, v12, v13, v14, v15, v16, v17, v18, v19, v20, v21, v22, v23, v24, v25, v26, v27])), (a0, .inl (ac, 38, .inl f_10))] := hD
          refine lv_aload_n hx hb dX9_holds_50 rfl (lv_at hl 2 rfl) ?_
          refine va_get (D := (dC, dI)) (ci := 7) (v := .ref a0) (C := RX9) (T := TX9) (N := 28) hx hb hts inX9 hown hK hP 0 rfl rfl 0 (by decide) (hts _ (List.mem_of_getElem? (i := 6) rfl)) (fun _ h9 => h9) rfl dX9_holds_51 ?_
          refine lv_bipush (v := 34) hx hb dX9_holds_54 (by decide) ?_
          refine lv_iload_n hx hb dX9_holds_56 rfl (lv_at hl 1 rfl) ?_
          refine lv_iadd hx hb dX9_holds_57 ?_
          refine pp_ti (y := 34) (by decide) ?_
          refine lv_iload_n hx hb dX9_holds_58 rfl (lv_at hl 4 rfl) ?_
          refine va_iast hx hb hK hP hD hS 1 0 rfl rfl (vp_in_nI (n := 34) (by decide) (by decide)) dX9_holds_59 (fun H locs hP hD hS => ?_)
          have hP : va_P (dC, dI) vwCl [(h0, .inr (7, [.ref a0, v1, v2, v3, v4, v5, v6, v7, v8, v9, v10, v11, v12, v13, v14, v15, v16, v17, v18, v19, v20, v21, v22, v23, v24, v25, v26, v27])), (a0, .inl (ac, 38, .inl (upd f_10 34 b)))] H := hP
          have hD : va_D A [(h0, .inr (7, [.ref a0, v1, v2, v3, v4, v5, v6, v7, v8, v9, v10, v11, v12, v13, v14, v15, v16, v17, v18, v19, v20, v21, v22, v23, v24, v25, v26, v27])), (a0, .inl (ac, 38, .inl (upd f_10 34 b)))] := hD
          have q_20 : ((upd f_10 34 b) 0).toInt = (f_10 0).toInt := pp_uN_ne (by decide)
          have q_21 : ((upd f_10 34 b) 1).toInt = (f_10 1).toInt := pp_uN_ne (by decide)
          have q_22 : ((upd f_10 34 b) 2).toInt = (f_10 2).toInt := pp_uN_ne (by decide)
          have q_23 : ((upd f_10 34 b) 30).toInt = (f_10 30).toInt := pp_uN_ne (by decide)
          have q_24 : ((upd f_10 34 b) 31).toInt = (f_10 31).toInt := pp_uN_ne (by decide)
          have q_25 : ((upd f_10 34 b) 32).toInt = (f_10 32).toInt := pp_uN_ne (by decide)
          have q_26 : ((upd f_10 34 b) 33).toInt = (f_10 33).toInt := pp_uN_ne (by decide)
          have hI_27 : mI (upd f_10 34 b) := mI_01 hI_18 (by have := mI_b hI_18; omega) (by have := mI_b hI_18; omega) (by omega) (by omega) (by omega) (by omega)
          generalize upd f_10 34 b = f_19 at hP hD q_20 q_21 q_22 q_23 q_24 q_25 q_26 hI_27
          have hP : va_P (dC, dI) vwCl [(h0, .inr (7, [.ref a0, v1, v2, v3, v4, v5, v6, v7, v8, v9, v10, v11, v12, v13, v14, v15, v16, v17, v18, v19, v20, v21, v22, v23, v24, v25, v26, v27])), (a0, .inl (ac, 38, .inl f_19))] H := hP
          have hD : va_D A [(h0, .inr (7, [.ref a0, v1, v2, v3, v4, v5, v6, v7, v8, v9, v10, v11, v12, v13, v14, v15, v16, v17, v18, v19, v20, v21, v22, v23, v24, v25, v26, v27])), (a0, .inl (ac, 38, .inl f_19))] := hD
          refine lv_iload_n hx hb dX9_holds_60 rfl (lv_at hl 1 rfl) ?_
          have hP9 := hP.sub (ws' := [(h0, .inr (7, [.ref a0, v1, v2, v3, v4, v5, v6, v7, v8, v9, v10, v11, v12, v13, v14, v15, v16, v17, v18, v19, v20, v21, v22, v23, v24, v25, v26, v27])), (a0, .inl (ac, 38, .inl f_19))]) [0, 1] rfl
          have hD9 := hD.sub (ws' := [(h0, .inr (7, [.ref a0, v1, v2, v3, v4, v5, v6, v7, v8, v9, v10, v11, v12, v13, v14, v15, v16, v17, v18, v19, v20, v21, v22, v23, v24, v25, v26, v27])), (a0, .inl (ac, 38, .inl f_19))]) [0, 1] (by decide) rfl
          have hK9 := hK.sub (tys' := [(ac, .int)]) [0] rfl
          exact W.iret (v := (0 : Int32)) hx hb hr (fun t ht hW => ⟨⟨(0 : Int32), (), rfl, (by first | omega | decide | (simp only [fa_lt, fa_le, fa_eq, and_true, true_and, and_false, false_and, not_true_eq_false, not_false_eq_true, li_0, li_1, li_2, li_3, li_4, li_5, li_6, li_7, li_8, li_9, li_10, li_12, li_15, li_16, li_20, li_30, li_34, li_38, li_40, li_63, li_64, li_65, li_78, li_120, li_1000, li_4000, li_10000, li_11077, li_255, li_65535, li_m1, li_m2, li_m1000000001, li_m1000000002, li_m1000000003, li_m1000000004, li_m1000000005, li_m1000000006, li_m1000000007, or_true, true_or, or_false, false_or, implies_true, true_implies, false_implies] <;> omega)), f_19, hI_27, (by first | omega | decide | (simp only [fa_lt, fa_le, fa_eq, and_true, true_and, and_false, false_and, not_true_eq_false, not_false_eq_true, li_0, li_1, li_2, li_3, li_4, li_5, li_6, li_7, li_8, li_9, li_10, li_12, li_15, li_16, li_20, li_30, li_34, li_38, li_40, li_63, li_64, li_65, li_78, li_120, li_1000, li_4000, li_10000, li_11077, li_255, li_65535, li_m1, li_m2, li_m1000000001, li_m1000000002, li_m1000000003, li_m1000000004, li_m1000000005, li_m1000000006, li_m1000000007, or_true, true_or, or_false, false_or, implies_true, true_implies, false_implies] <;> omega)), (by unfold hput; omega), by rw [ht]; exact hP9, va_K.moved hW.alike hK9, hD9⟩, hS.F ht⟩) hS.2.2 dX9_holds_61
      · skip
        have tc_7 : ¬ 0 ≤ n_6.toInt := fun h => c_7 ((fa_le _ _).mpr h)
        refine lv_iload hx hb dX9_holds_27 (lv_at hl 0 rfl) ?_
        refine lv_goto (tgt := 33) hx hb dX9_holds_29 (by decide) ?_
        refine lv_istore_n (lv' := [(3, .int 1), (4, .int 1), (0, .ref h0), (1, .int k), (2, .int b)]) hx hb dX9_holds_33 rfl hl (by decide) rfl (fun ls hl => ?_)
        refine lv_iinc (v := 0) (lv' := [(4, .int 0), (3, .int 1), (0, .ref h0), (1, .int k), (2, .int b)]) hx hb dX9_holds_34 hl (k := 1) rfl (by decide) (by decide) rfl (fun ls hl => ?_)
        refine lv_goto (tgt := 9) hx hb dX9_holds_37 (by decide) ?_
        refine lv_iload hx hb dX9_holds_9 (lv_at hl 0 rfl) ?_
        refine lv_if_lt (tgt := 40) hx hb dX9_holds_11 (by decide) (fun c => absurd c (by decide)) (fun _ => ?_)
        refine lv_aload_n hx hb dX9_holds_14 rfl (lv_at hl 2 rfl) ?_
        refine va_get (D := (dC, dI)) (ci := 7) (v := .ref a0) (C := RX9) (T := TX9) (N := 28) hx hb hts inX9 hown hK hP 0 rfl rfl 0 (by decide) (hts _ (List.mem_of_getElem? (i := 6) rfl)) (fun _ h9 => h9) rfl dX9_holds_15 ?_
        refine lv_bipush (v := 30) hx hb dX9_holds_18 (by decide) ?_
        refine lv_iload hx hb dX9_holds_20 (lv_at hl 0 rfl) ?_
        refine lv_iadd hx hb dX9_holds_22 ?_
        refine pp_ti (y := 30) (by decide) ?_
        refine va_iald hx hb hK hP 1 0 rfl rfl (vp_in_nI (n := 30) (by decide) (by decide)) dX9_holds_23 ?_
        refine pp_ti (y := nf 30) rfl ?_
        refine lv_topi (fun n_28 en_28 => ?_)
        have tn_28 : n_28.toInt = (nf 30).toInt ∧ (-1) ≤ n_28.toInt ∧ n_28.toInt ≤ 8 := mI_r30 hI en_28
        clear en_28
        refine lv_if_ge (tgt := 32) hx hb dX9_holds_24 (by decide) (fun c_29 => ?_) (fun c_29 => ?_)
        · skip
          have tc_29 : 0 ≤ n_28.toInt := (fa_le _ _).mp c_29
          refine lv_iload_n hx hb dX9_holds_32 rfl (lv_at hl 1 rfl) ?_
          refine lv_istore_n (lv' := [(3, .int 1), (4, .int 0), (0, .ref h0), (1, .int k), (2, .int b)]) hx hb dX9_holds_33 rfl hl (by decide) rfl (fun ls hl => ?_)
          refine lv_iinc (v := (-1)) (lv' := [(4, .int (-1)), (3, .int 1), (0, .ref h0), (1, .int k), (2, .int b)]) hx hb dX9_holds_34 hl (k := 1) rfl (by decide) (by decide) rfl (fun ls hl => ?_)
          refine lv_goto (tgt := 9) hx hb dX9_holds_37 (by decide) ?_
          refine lv_iload hx hb dX9_holds_9 (lv_at hl 0 rfl) ?_
          refine lv_if_lt (tgt := 40) hx hb dX9_holds_11 (by decide) (fun _ => ?_) (fun c => absurd (by decide) c)
          refine lv_aload_n hx hb dX9_holds_40 rfl (lv_at hl 2 rfl) ?_
          refine va_get (D := (dC, dI)) (ci := 7) (v := .ref a0) (C := RX9) (T := TX9) (N := 28) hx hb hts inX9 hown hK hP 0 rfl rfl 0 (by decide) (hts _ (List.mem_of_getElem? (i := 6) rfl)) (fun _ h9 => h9) rfl dX9_holds_41 ?_
          refine lv_bipush (v := 30) hx hb dX9_holds_44 (by decide) ?_
          refine lv_iload_n hx hb dX9_holds_46 rfl (lv_at hl 1 rfl) ?_
          refine lv_iadd hx hb dX9_holds_47 ?_
          refine pp_ti (y := 31) (by decide) ?_
          refine lv_iload_n hx hb dX9_holds_48 rfl (lv_at hl 3 rfl) ?_
          refine va_iast hx hb hK hP hD hS 1 0 rfl rfl (vp_in_nI (n := 31) (by decide) (by decide)) dX9_holds_49 (fun H locs hP hD hS => ?_)
          have hP : va_P (dC, dI) vwCl [(h0, .inr (7, [.ref a0, v1, v2, v3, v4, v5, v6, v7, v8, v9, v10, v11, v12, v13, v14, v15, v16, v17, v18, v19, v20, v21, v22, v23, v24, v25, v26, v27])), (a0, .inl (ac, 38, .inl (upd nf 31 k)))] H := hP
          have hD : va_D A [(h0, .inr (7, [.ref a0, v1, v2, v3, v4, v5, v6, v7, v8, v9, v10, v11, v12, v13, v14, v15, v16, v17, v18, v19, v20, v21, v22, v23, v24, v25, v26, v27])), (a0, .inl (ac, 38, .inl (upd nf 31 k)))] := hD
          have q_31 : ((upd nf 31 k) 0).toInt = (nf 0).toInt := pp_uN_ne (by decide)
          have q_32 : ((upd nf 31 k) 1).toInt = (nf 1).toInt := pp_uN_ne (by decide)
          have q_33 : ((upd nf 31 k) 2).toInt = (nf 2).toInt := pp_uN_ne (by decide)
          have q_34 : ((upd nf 31 k) 30).toInt = (nf 30).toInt := pp_uN_ne (by decide)
          have q_35 : ((upd nf 31 k) 31).toInt = k.toInt := pp_uN_eq rfl
          have q_36 : ((upd nf 31 k) 32).toInt = (nf 32).toInt := pp_uN_ne (by decide)
          have q_37 : ((upd nf 31 k) 33).toInt = (nf 33).toInt := pp_uN_ne (by decide)
          have hI_38 : mI (upd nf 31 k) := mI_hold hI (by decide) (by decide) (by first | decide | omega) (by first | decide | omega) (Or.inr hnh)
          generalize upd nf 31 k = f_30 at hP hD q_31 q_32 q_33 q_34 q_35 q_36 q_37 hI_38
          have hP : va_P (dC, dI) vwCl [(h0, .inr (7, [.ref a0, v1, v2, v3, v4, v5, v6, v7, v8, v9, v10, v11, v12, v13, v14, v15, v16, v17, v18, v19, v20, v21, v22, v23, v24, v25, v26, v27])), (a0, .inl (ac, 38, .inl f_30))] H := hP
          have hD : va_D A [(h0, .inr (7, [.ref a0, v1, v2, v3, v4, v5, v6, v7, v8, v9, v10, v11, v12, v13, v14, v15, v16, v17, v18, v19, v20, v21, v22, v23, v24, v25, v26, v27])), (a0, .inl (ac, 38, .inl f_30))] := hD
          refine lv_aload_n hx hb dX9_holds_50 rfl (lv_at hl 2 rfl) ?_
          refine va_get (D := (dC, dI)) (ci := 7) (v := .ref a0) (C := RX9) (T := TX9) (N := 28) hx hb hts inX9 hown hK hP 0 rfl rfl 0 (by decide) (hts _ (List.mem_of_getElem? (i := 6) rfl)) (fun _ h9 => h9) rfl dX9_holds_51 ?_
          refine lv_bipush (v := 34) hx hb dX9_holds_54 (by decide) ?_
          refine lv_iload_n hx hb dX9_holds_56 rfl (lv_at hl 1 rfl) ?_
          refine lv_iadd hx hb dX9_holds_57 ?_
          refine pp_ti (y := 35) (by decide) ?_
          refine lv_iload_n hx hb dX9_holds_58 rfl (lv_at hl 4 rfl) ?_
          refine va_iast hx hb hK hP hD hS 1 0 rfl rfl (vp_in_nI (n := 35) (by decide) (by decide)) dX9_holds_59 (fun H locs hP hD hS => ?_)
          have hP : va_P (dC, dI) vwCl [(h0, .inr (7, [.ref a0, v1, v2, v3, v4, v5, v6, v7, v8, v9, v10, v11, v12, v13, v14, v15, v16, v17, v18, v19, v20, v21, v22, v23, v24, v25, v26, v27])), (a0, .inl (ac, 38, .inl (upd f_30 35 b)))] H := hP
          have hD : va_D A [(h0, .inr (7, [.ref a0, v1, v2, v3, v4, v5, v6, v7, v8, v9, v10, v11, v12, v13, v14, v15, v16, v17, v18, v19, v20, v21, v22, v23, v24, v25, v26, v27])), (a0, .inl (ac, 38, .inl (upd f_30 35 b)))] := hD
          have q_40 : ((upd f_30 35 b) 0).toInt = (f_30 0).toInt := pp_uN_ne (by decide)
          have q_41 : ((upd f_30 35 b) 1).toInt = (f_30 1).toInt := pp_uN_ne (by decide)
          have q_42 : ((upd f_30 35 b) 2).toInt = (f_30 2).toInt := pp_uN_ne (by decide)
          have q_43 : ((upd f_30 35 b) 30).toInt = (f_30 30).toInt := pp_uN_ne (by decide)
          have q_44 : ((upd f_30 35 b) 31).toInt = (f_30 31).toInt := pp_uN_ne (by decide)
          have q_45 : ((upd f_30 35 b) 32).toInt = (f_30 32).toInt := pp_uN_ne (by decide)
          have q_46 : ((upd f_30 35 b) 33).toInt = (f_30 33).toInt := pp_uN_ne (by decide)
          have hI_47 : mI (upd f_30 35 b) := mI_01 hI_38 (by have := mI_b hI_38; omega) (by have := mI_b hI_38; omega) (by omega) (by omega) (by omega) (by omega)
          generalize upd f_30 35 b = f_39 at hP hD q_40 q_41 q_42 q_43 q_44 q_45 q_46 hI_47
          have hP : va_P (dC, dI) vwCl [(h0, .inr (7, [.ref a0, v1, v2, v3, v4, v5, v6, v7, v8, v9, v10, v11, v12, v13, v14, v15, v16, v17, v18, v19, v20, v21, v22, v23, v24, v25, v26, v27])), (a0, .inl (ac, 38, .inl f_39))] H := hP
          have hD : va_D A [(h0, .inr (7, [.ref a0, v1, v2, v3, v4, v5, v6, v7, v8, v9, v10, v11, v12, v13, v14, v15, v16, v17, v18, v19, v20, v21, v22, v23, v24, v25, v26, v27])), (a0, .inl (ac, 38, .inl f_39))] := hD
          refine lv_iload_n hx hb dX9_holds_60 rfl (lv_at hl 1 rfl) ?_
          have hP9 := hP.sub (ws' := [(h0, .inr (7, [.ref a0, v1, v2, v3, v4, v5, v6, v7, v8, v9, v10, v11, v12, v13, v14, v15, v16, v17, v18, v19, v20, v21, v22, v23, v24, v25, v26, v27])), (a0, .inl (ac, 38, .inl f_39))]) [0, 1] rfl
          have hD9 := hD.sub (ws' := [(h0, .inr (7, [.ref a0, v1, v2, v3, v4, v5, v6, v7, v8, v9, v10, v11, v12, v13, v14, v15, v16, v17, v18, v19, v20, v21, v22, v23, v24, v25, v26, v27])), (a0, .inl (ac, 38, .inl f_39))]) [0, 1] (by decide) rfl
          have hK9 := hK.sub (tys' := [(ac, .int)]) [0] rfl
          exact W.iret (v := (1 : Int32)) hx hb hr (fun t ht hW => ⟨⟨(1 : Int32), (), rfl, (by first | omega | decide | (simp only [fa_lt, fa_le, fa_eq, and_true, true_and, and_false, false_and, not_true_eq_false, not_false_eq_true, li_0, li_1, li_2, li_3, li_4, li_5, li_6, li_7, li_8, li_9, li_10, li_12, li_15, li_16, li_20, li_30, li_34, li_38, li_40, li_63, li_64, li_65, li_78, li_120, li_1000, li_4000, li_10000, li_11077, li_255, li_65535, li_m1, li_m2, li_m1000000001, li_m1000000002, li_m1000000003, li_m1000000004, li_m1000000005, li_m1000000006, li_m1000000007, or_true, true_or, or_false, false_or, implies_true, true_implies, false_implies] <;> omega)), f_39, hI_47, (by first | omega | decide | (simp only [fa_lt, fa_le, fa_eq, and_true, true_and, and_false, false_and, not_true_eq_false, not_false_eq_true, li_0, li_1, li_2, li_3, li_4, li_5, li_6, li_7, li_8, li_9, li_10, li_12, li_15, li_16, li_20, li_30, li_34, li_38, li_40, li_63, li_64, li_65, li_78, li_120, li_1000, li_4000, li_10000, li_11077, li_255, li_65535, li_m1, li_m2, li_m1000000001, li_m1000000002, li_m1000000003, li_m1000000004, li_m1000000005, li_m1000000006, li_m1000000007, or_true, true_or, or_false, false_or, implies_true, true_implies, false_implies] <;> omega)), (by unfold hput; omega), by rw [ht]; exact hP9, va_K.moved hW.alike hK9, hD9⟩, hS.F ht⟩) hS.2.2 dX9_holds_61
        · skip
          have tc_29 : ¬ 0 ≤ n_28.toInt := fun h => c_29 ((fa_le _ _).mpr h)
          refine lv_iload hx hb dX9_holds_27 (lv_at hl 0 rfl) ?_
          refine lv_goto (tgt := 33) hx hb dX9_holds_29 (by decide) ?_
          refine lv_istore_n (lv' := [(3, .int 0), (4, .int 0), (0, .ref h0), (1, .int k), (2, .int b)]) hx hb dX9_holds_33 rfl hl (by decide) rfl (fun ls hl => ?_)
          refine lv_iinc (v := (-1)) (lv' := [(4, .int (-1)), (3, .int 0), (0, .ref h0), (1, .int k), (2, .int b)]) hx hb dX9_holds_34 hl (k := 1) rfl (by decide) (by decide) rfl (fun ls hl => ?_)
          refine lv_goto (tgt := 9) hx hb dX9_holds_37 (by decide) ?_
          refine lv_iload hx hb dX9_holds_9 (lv_at hl 0 rfl) ?_
          refine lv_if_lt (tgt := 40) hx hb dX9_holds_11 (by decide) (fun _ => ?_) (fun c => absurd (by decide) c)
          refine lv_aload_n hx hb dX9_holds_40 rfl (lv_at hl 2 rfl) ?_
          refine va_get (D := (dC, dI)) (ci := 7) (v := .ref a0) (C := RX9) (T := TX9) (N := 28) hx hb hts inX9 hown hK hP 0 rfl rfl 0 (by decide) (hts _ (List.mem_of_getElem? (i := 6) rfl)) (fun _ h9 => h9) rfl dX9_holds_41 ?_
          refine lv_bipush (v := 30) hx hb dX9_holds_44 (by decide) ?_
          refine lv_iload_n hx hb dX9_holds_46 rfl (lv_at hl 1 rfl) ?_
          refine lv_iadd hx hb dX9_holds_47 ?_
          refine pp_ti (y := 30) (by decide) ?_
          refine lv_iload_n hx hb dX9_holds_48 rfl (lv_at hl 3 rfl) ?_
          refine va_iast hx hb hK hP hD hS 1 0 rfl rfl (vp_in_nI (n := 30) (by decide) (by decide)) dX9_holds_49 (fun H locs hP hD hS => ?_)
          have hP : va_P (dC, dI) vwCl [(h0, .inr (7, [.ref a0, v1, v2, v3, v4, v5, v6, v7, v8, v9, v10, v11, v12, v13, v14, v15, v16, v17, v18, v19, v20, v21, v22, v23, v24, v25, v26, v27])), (a0, .inl (ac, 38, .inl (upd nf 30 k)))] H := hP
          have hD : va_D A [(h0, .inr (7, [.ref a0, v1, v2, v3, v4, v5, v6, v7, v8, v9, v10, v11, v12, v13, v14, v15, v16, v17, v18, v19, v20, v21, v22, v23, v24, v25, v26, v27])), (a0, .inl (ac, 38, .inl (upd nf 30 k)))] := hD
          have q_49 : ((upd nf 30 k) 0).toInt = (nf 0).toInt := pp_uN_ne (by decide)
          have q_50 : ((upd nf 30 k) 1).toInt = (nf 1).toInt := pp_uN_ne (by decide)
          have q_51 : ((upd nf 30 k) 2).toInt = (nf 2).toInt := pp_uN_ne (by decide)
          have q_52 : ((upd nf 30 k) 30).toInt = k.toInt := pp_uN_eq rfl
          have q_53 : ((upd nf 30 k) 31).toInt = (nf 31).toInt := pp_uN_ne (by decide)
          have q_54 : ((upd nf 30 k) 32).toInt = (nf 32).toInt := pp_uN_ne (by decide)
          have q_55 : ((upd nf 30 k) 33).toInt = (nf 33).toInt := pp_uN_ne (by decide)
          have hI_56 : mI (upd nf 30 k) := mI_hold hI (by decide) (by decide) (by first | decide | omega) (by first | decide | omega) (Or.inr hnh)
          generalize upd nf 30 k = f_48 at hP hD q_49 q_50 q_51 q_52 q_53 q_54 q_55 hI_56
          have hP : va_P (dC, dI) vwCl [(h0, .inr (7, [.ref a0, v1, v2, v3, v4, v5, v6, v7, v8, v9, v10, v11, v12, v13, v14, v15, v16, v17, v18, v19, v20, v21, v22, v23, v24, v25, v26, v27])), (a0, .inl (ac, 38, .inl f_48))] H := hP
          have hD : va_D A [(h0, .inr (7, [.ref a0, v1, v2, v3, v4, v5, v6, v7, v8, v9, v10, v11, v12, v13, v14, v15, v16, v17, v18, v19, v20, v21, v22, v23, v24, v25, v26, v27])), (a0, .inl (ac, 38, .inl f_48))] := hD
          refine lv_aload_n hx hb dX9_holds_50 rfl (lv_at hl 2 rfl) ?_
          refine va_get (D := (dC, dI)) (ci := 7) (v := .ref a0) (C := RX9) (T := TX9) (N := 28) hx hb hts inX9 hown hK hP 0 rfl rfl 0 (by decide) (hts _ (List.mem_of_getElem? (i := 6) rfl)) (fun _ h9 => h9) rfl dX9_holds_51 ?_
          refine lv_bipush (v := 34) hx hb dX9_holds_54 (by decide) ?_
          refine lv_iload_n hx hb dX9_holds_56 rfl (lv_at hl 1 rfl) ?_
          refine lv_iadd hx hb dX9_holds_57 ?_
          refine pp_ti (y := 34) (by decide) ?_
          refine lv_iload_n hx hb dX9_holds_58 rfl (lv_at hl 4 rfl) ?_
          refine va_iast hx hb hK hP hD hS 1 0 rfl rfl (vp_in_nI (n := 34) (by decide) (by decide)) dX9_holds_59 (fun H locs hP hD hS => ?_)
          have hP : va_P (dC, dI) vwCl [(h0, .inr (7, [.ref a0, v1, v2, v3, v4, v5, v6, v7, v8, v9, v10, v11, v12, v13, v14, v15, v16, v17, v18, v19, v20, v21, v22, v23, v24, v25, v26, v27])), (a0, .inl (ac, 38, .inl (upd f_48 34 b)))] H := hP
          have hD : va_D A [(h0, .inr (7, [.ref a0, v1, v2, v3, v4, v5, v6, v7, v8, v9, v10, v11, v12, v13, v14, v15, v16, v17, v18, v19, v20, v21, v22, v23, v24, v25, v26, v27])), (a0, .inl (ac, 38, .inl (upd f_48 34 b)))] := hD
          have q_58 : ((upd f_48 34 b) 0).toInt = (f_48 0).toInt := pp_uN_ne (by decide)
          have q_59 : ((upd f_48 34 b) 1).toInt = (f_48 1).toInt := pp_uN_ne (by decide)
          have q_60 : ((upd f_48 34 b) 2).toInt = (f_48 2).toInt := pp_uN_ne (by decide)
          have q_61 : ((upd f_48 34 b) 30).toInt = (f_48 30).toInt := pp_uN_ne (by decide)
          have q_62 : ((upd f_48 34 b) 31).toInt = (f_48 31).toInt := pp_uN_ne (by decide)
          have q_63 : ((upd f_48 34 b) 32).toInt = (f_48 32).toInt := pp_uN_ne (by decide)
          have q_64 : ((upd f_48 34 b) 33).toInt = (f_48 33).toInt := pp_uN_ne (by decide)
          have hI_65 : mI (upd f_48 34 b) := mI_01 hI_56 (by have := mI_b hI_56; omega) (by have := mI_b hI_56; omega) (by omega) (by omega) (by omega) (by omega)
          generalize upd f_48 34 b = f_57 at hP hD q_58 q_59 q_60 q_61 q_62 q_63 q_64 hI_65
          have hP : va_P (dC, dI) vwCl [(h0, .inr (7, [.ref a0, v1, v2, v3, v4, v5, v6, v7, v8, v9, v10, v11, v12, v13, v14, v15, v16, v17, v18, v19, v20, v21, v22, v23, v24, v25, v26, v27])), (a0, .inl (ac, 38, .inl f_57))] H := hP
          have hD : va_D A [(h0, .inr (7, [.ref a0, v1, v2, v3, v4, v5, v6, v7, v8, v9, v10, v11, v12, v13, v14, v15, v16, v17, v18, v19, v20, v21, v22, v23, v24, v25, v26, v27])), (a0, .inl (ac, 38, .inl f_57))] := hD
          refine lv_iload_n hx hb dX9_holds_60 rfl (lv_at hl 1 rfl) ?_
          have hP9 := hP.sub (ws' := [(h0, .inr (7, [.ref a0, v1, v2, v3, v4, v5, v6, v7, v8, v9, v10, v11, v12, v13, v14, v15, v16, v17, v18, v19, v20, v21, v22, v23, v24, v25, v26, v27])), (a0, .inl (ac, 38, .inl f_57))]) [0, 1] rfl
          have hD9 := hD.sub (ws' := [(h0, .inr (7, [.ref a0, v1, v2, v3, v4, v5, v6, v7, v8, v9, v10, v11, v12, v13, v14, v15, v16, v17, v18, v19, v20, v21, v22, v23, v24, v25, v26, v27])), (a0, .inl (ac, 38, .inl f_57))]) [0, 1] (by decide) rfl
          have hK9 := hK.sub (tys' := [(ac, .int)]) [0] rfl
          exact W.iret (v := (0 : Int32)) hx hb hr (fun t ht hW => ⟨⟨(0 : Int32), (), rfl, (by first | omega | decide | (simp only [fa_lt, fa_le, fa_eq, and_true, true_and, and_false, false_and, not_true_eq_false, not_false_eq_true, li_0, li_1, li_2, li_3, li_4, li_5, li_6, li_7, li_8, li_9, li_10, li_12, li_15, li_16, li_20, li_30, li_34, li_38, li_40, li_63, li_64, li_65, li_78, li_120, li_1000, li_4000, li_10000, li_11077, li_255, li_65535, li_m1, li_m2, li_m1000000001, li_m1000000002, li_m1000000003, li_m1000000004, li_m1000000005, li_m1000000006, li_m1000000007, or_true, true_or, or_false, false_or, implies_true, true_implies, false_implies] <;> omega)), f_57, hI_65, (by first | omega | decide | (simp only [fa_lt, fa_le, fa_eq, and_true, true_and, and_false, false_and, not_true_eq_false, not_false_eq_true, li_0, li_1, li_2, li_3, li_4, li_5, li_6, li_7, li_8, li_9, li_10, li_12, li_15, li_16, li_20, li_30, li_34, li_38, li_40, li_63, li_64, li_65, li_78, li_120, li_1000, li_4000, li_10000, li_11077, li_255, li_65535, li_m1, li_m2, li_m1000000001, li_m1000000002, li_m1000000003, li_m1000000004, li_m1000000005, li_m1000000006, li_m1000000007, or_true, true_or, or_false, false_or, implies_true, true_implies, false_implies] <;> omega)), (by unfold hput; omega), by rw [ht]; exact hP9, va_K.moved hW.alike hK9, hD9⟩, hS.F ht⟩) hS.2.2 dX9_holds_61
    · skip
      have tc_5 : ¬ 0 ≤ n_4.toInt := fun h => c_5 ((fa_le _ _).mpr h)
      refine lv_iload hx hb dX9_holds_27 (lv_at hl 0 rfl) ?_
      refine lv_goto (tgt := 33) hx hb dX9_holds_29 (by decide) ?_
      refine lv_istore_n (lv' := [(3, .int 2), (4, .int 2), (0, .ref h0), (1, .int k), (2, .int b)]) hx hb dX9_holds_33 rfl hl (by decide) rfl (fun ls hl => ?_)
      refine lv_iinc (v := 1) (lv' := [(4, .int 1), (3, .int 2), (0, .ref h0), (1, .int k), (2, .int b)]) hx hb dX9_holds_34 hl (k := 1) rfl (by decide) (by decide) rfl (fun ls hl => ?_)
      refine lv_goto (tgt := 9) hx hb dX9_holds_37 (by decide) ?_
      refine lv_iload hx hb dX9_holds_9 (lv_at hl 0 rfl) ?_
      refine lv_if_lt (tgt := 40) hx hb dX9_holds_11 (by decide) (fun c => absurd c (by decide)) (fun _ => ?_)
      refine lv_aload_n hx hb dX9_holds_14 rfl (lv_at hl 2 rfl) ?_
      refine va_get (D := (dC, dI)) (ci := 7) (v := .ref a0) (C := RX9) (T := TX9) (N := 28) hx hb hts inX9 hown hK hP 0 rfl rfl 0 (by decide) (hts _ (List.mem_of_getElem? (i := 6) rfl)) (fun _ h9 => h9) rfl dX9_holds_15 ?_
      refine lv_bipush (v := 30) hx hb dX9_holds_18 (by decide) ?_
      refine lv_iload hx hb dX9_holds_20 (lv_at hl 0 rfl) ?_
      refine lv_iadd hx hb dX9_holds_22 ?_
      refine pp_ti (y := 31) (by decide) ?_
      refine va_iald hx hb hK hP 1 0 rfl rfl (vp_in_nI (n := 31) (by decide) (by decide)) dX9_holds_23 ?_
      refine pp_ti (y := nf 31) rfl ?_
      refine lv_topi (fun n_66 en_66 => ?_)
      have tn_66 : n_66.toInt = (nf 31).toInt ∧ (-1) ≤ n_66.toInt ∧ n_66.toInt ≤ 8 := mI_r31 hI en_66
      clear en_66
      refine lv_if_ge (tgt := 32) hx hb dX9_holds_24 (by decide) (fun c_67 => ?_) (fun c_67 => ?_)
      · skip
        have tc_67 : 0 ≤ n_66.toInt := (fa_le _ _).mp c_67
        refine lv_iload_n hx hb dX9_holds_32 rfl (lv_at hl 1 rfl) ?_
        refine lv_istore_n (lv' := [(3, .int 2), (4, .int 1), (0, .ref h0), (1, .int k), (2, .int b)]) hx hb dX9_holds_33 rfl hl (by decide) rfl (fun ls hl => ?_)
        refine lv_iinc (v := 0) (lv' := [(4, .int 0), (3, .int 2), (0, .ref h0), (1, .int k), (2, .int b)]) hx hb dX9_holds_34 hl (k := 1) rfl (by decide) (by decide) rfl (fun ls hl => ?_)
        refine lv_goto (tgt := 9) hx hb dX9_holds_37 (by decide) ?_
        refine lv_iload hx hb dX9_holds_9 (lv_at hl 0 rfl) ?_
        refine lv_if_lt (tgt := 40) hx hb dX9_holds_11 (by decide) (fun c => absurd c (by decide)) (fun _ => ?_)
        refine lv_aload_n hx hb dX9_holds_14 rfl (lv_at hl 2 rfl) ?_
        refine va_get (D := (dC, dI)) (ci := 7) (v := .ref a0) (C := RX9) (T := TX9) (N := 28) hx hb hts inX9 hown hK hP 0 rfl rfl 0 (by decide) (hts _ (List.mem_of_getElem? (i := 6) rfl)) (fun _ h9 => h9) rfl dX9_holds_15 ?_
        refine lv_bipush (v := 30) hx hb dX9_holds_18 (by decide) ?_
        refine lv_iload hx hb dX9_holds_20 (lv_at hl 0 rfl) ?_
        refine lv_iadd hx hb dX9_holds_22 ?_
        refine pp_ti (y := 30) (by decide) ?_
        refine va_iald hx hb hK hP 1 0 rfl rfl (vp_in_nI (n := 30) (by decide) (by decide)) dX9_holds_23 ?_
        refine pp_ti (y := nf 30) rfl ?_
        refine lv_topi (fun n_68 en_68 => ?_)
        have tn_68 : n_68.toInt = (nf 30).toInt ∧ (-1) ≤ n_68.toInt ∧ n_68.toInt ≤ 8 := mI_r30 hI en_68
        clear en_68
        refine lv_if_ge (tgt := 32) hx hb dX9_holds_24 (by decide) (fun c_69 => ?_) (fun c_69 => ?_)
        · skip
          have tc_69 : 0 ≤ n_68.toInt := (fa_le _ _).mp c_69
          refine lv_iload_n hx hb dX9_holds_32 rfl (lv_at hl 1 rfl) ?_
          refine lv_istore_n (lv' := [(3, .int 2), (4, .int 0), (0, .ref h0), (1, .int k), (2, .int b)]) hx hb dX9_holds_33 rfl hl (by decide) rfl (fun ls hl => ?_)
          refine lv_iinc (v := (-1)) (lv' := [(4, .int (-1)), (3, .int 2), (0, .ref h0), (1, .int k), (2, .int b)]) hx hb dX9_holds_34 hl (k := 1) rfl (by decide) (by decide) rfl (fun ls hl => ?_)
          refine lv_goto (tgt := 9) hx hb dX9_holds_37 (by decide) ?_
          refine lv_iload hx hb dX9_holds_9 (lv_at hl 0 rfl) ?_
          refine lv_if_lt (tgt := 40) hx hb dX9_holds_11 (by decide) (fun _ => ?_) (fun c => absurd (by decide) c)
          refine lv_aload_n hx hb dX9_holds_40 rfl (lv_at hl 2 rfl) ?_
          refine va_get (D := (dC, dI)) (ci := 7) (v := .ref a0) (C := RX9) (T := TX9) (N := 28) hx hb hts inX9 hown hK hP 0 rfl rfl 0 (by decide) (hts _ (List.mem_of_getElem? (i := 6) rfl)) (fun _ h9 => h9) rfl dX9_holds_41 ?_
          refine lv_bipush (v := 30) hx hb dX9_holds_44 (by decide) ?_
          refine lv_iload_n hx hb dX9_holds_46 rfl (lv_at hl 1 rfl) ?_
          refine lv_iadd hx hb dX9_holds_47 ?_
          refine pp_ti (y := 32) (by decide) ?_
          refine lv_iload_n hx hb dX9_holds_48 rfl (lv_at hl 3 rfl) ?_
          refine va_iast hx hb hK hP hD hS 1 0 rfl rfl (vp_in_nI (n := 32) (by decide) (by decide)) dX9_holds_49 (fun H locs hP hD hS => ?_)
          have hP : va_P (dC, dI) vwCl [(h0, .inr (7, [.ref a0, v1, v2, v3, v4, v5, v6, v7, v8, v9, v10, v11, v12, v13, v14, v15, v16, v17, v18, v19, v20, v21, v22, v23, v24, v25, v26, v27])), (a0, .inl (ac, 38, .inl (upd nf 32 k)))] H := hP
          have hD : va_D A [(h0, .inr (7, [.ref a0, v1, v2, v3, v4, v5, v6, v7, v8, v9, v10, v11, v12, v13, v14, v15, v16, v17, v18, v19, v20, v21, v22, v23, v24, v25, v26, v27])), (a0, .inl (ac, 38, .inl (upd nf 32 k)))] := hD
          have q_71 : ((upd nf 32 k) 0).toInt = (nf 0).toInt := pp_uN_ne (by decide)
          have q_72 : ((upd nf 32 k) 1).toInt = (nf 1).toInt := pp_uN_ne (by decide)
          have q_73 : ((upd nf 32 k) 2).toInt = (nf 2).toInt := pp_uN_ne (by decide)
          have q_74 : ((upd nf 32 k) 30).toInt = (nf 30).toInt := pp_uN_ne (by decide)
          have q_75 : ((upd nf 32 k) 31).toInt = (nf 31).toInt := pp_uN_ne (by decide)
          have q_76 : ((upd nf 32 k) 32).toInt = k.toInt := pp_uN_eq rfl
          have q_77 : ((upd nf 32 k) 33).toInt = (nf 33).toInt := pp_uN_ne (by decide)
          have hI_78 : mI (upd nf 32 k) := mI_hold hI (by decide) (by decide) (by first | decide | omega) (by first | decide | omega) (Or.inr hnh)
          generalize upd nf 32 k = f_70 at hP hD q_71 q_72 q_73 q_74 q_75 q_76 q_77 hI_78
          have hP : va_P (dC, dI) vwCl [(h0, .inr (7, [.ref a0, v1, v2, v3, v4, v5, v6, v7, v8, v9, v10, v11, v12, v13, v14, v15, v16, v17, v18, v19, v20, v21, v22, v23, v24, v25, v26, v27])), (a0, .inl (ac, 38, .inl f_70))] H := hP
          have hD : va_D A [(h0, .inr (7, [.ref a0, v1, v2, v3, v4, v5, v6, v7, v8, v9, v10, v11, v12, v13, v14, v15, v16, v17, v18, v19, v20, v21, v22, v23, v24, v25, v26, v27])), (a0, .inl (ac, 38, .inl f_70))] := hD
          refine lv_aload_n hx hb dX9_holds_50 rfl (lv_at hl 2 rfl) ?_
          refine va_get (D := (dC, dI)) (ci := 7) (v := .ref a0) (C := RX9) (T := TX9) (N := 28) hx hb hts inX9 hown hK hP 0 rfl rfl 0 (by decide) (hts _ (List.mem_of_getElem? (i := 6) rfl)) (fun _ h9 => h9) rfl dX9_holds_51 ?_
          refine lv_bipush (v := 34) hx hb dX9_holds_54 (by decide) ?_
          refine lv_iload_n hx hb dX9_holds_56 rfl (lv_at hl 1 rfl) ?_
          refine lv_iadd hx hb dX9_holds_57 ?_
          refine pp_ti (y := 36) (by decide) ?_
          refine lv_iload_n hx hb dX9_holds_58 rfl (lv_at hl 4 rfl) ?_
          refine va_iast hx hb hK hP hD hS 1 0 rfl rfl (vp_in_nI (n := 36) (by decide) (by decide)) dX9_holds_59 (fun H locs hP hD hS => ?_)
          have hP : va_P (dC, dI) vwCl [(h0, .inr (7, [.ref a0, v1, v2, v3, v4, v5, v6, v7, v8, v9, v10, v11, v12, v13, v14, v15, v16, v17, v18, v19, v20, v21, v22, v23, v24, v25, v26, v27])), (a0, .inl (ac, 38, .inl (upd f_70 36 b)))] H := hP
          have hD : va_D A [(h0, .inr (7, [.ref a0, v1, v2, v3, v4, v5, v6, v7, v8, v9, v10, v11, v12, v13, v14, v15, v16, v17, v18, v19, v20, v21, v22, v23, v24, v25, v26, v27])), (a0, .inl (ac, 38, .inl (upd f_70 36 b)))] := hD
          have q_80 : ((upd f_70 36 b) 0).toInt = (f_70 0).toInt := pp_uN_ne (by decide)
          have q_81 : ((upd f_70 36 b) 1).toInt = (f_70 1).toInt := pp_uN_ne (by decide)
          have q_82 : ((upd f_70 36 b) 2).toInt = (f_70 2).toInt := pp_uN_ne (by decide)
          have q_83 : ((upd f_70 36 b) 30).toInt = (f_70 30).toInt := pp_uN_ne (by decide)
          have q_84 : ((upd f_70 36 b) 31).toInt = (f_70 31).toInt := pp_uN_ne (by decide)
          have q_85 : ((upd f_70 36 b) 32).toInt = (f_70 32).toInt := pp_uN_ne (by decide)
          have q_86 : ((upd f_70 36 b) 33).toInt = (f_70 33).toInt := pp_uN_ne (by decide)
          have hI_87 : mI (upd f_70 36 b) := mI_01 hI_78 (by have := mI_b hI_78; omega) (by have := mI_b hI_78; omega) (by omega) (by omega) (by omega) (by omega)
          generalize upd f_70 36 b = f_79 at hP hD q_80 q_81 q_82 q_83 q_84 q_85 q_86 hI_87
          have hP : va_P (dC, dI) vwCl [(h0, .inr (7, [.ref a0, v1, v2, v3, v4, v5, v6, v7, v8, v9, v10, v11, v12, v13, v14, v15, v16, v17, v18, v19, v20, v21, v22, v23, v24, v25, v26, v27])), (a0, .inl (ac, 38, .inl f_79))] H := hP
          have hD : va_D A [(h0, .inr (7, [.ref a0, v1, v2, v3, v4, v5, v6, v7, v8, v9, v10, v11, v12, v13, v14, v15, v16, v17, v18, v19, v20, v21, v22, v23, v24, v25, v26, v27])), (a0, .inl (ac, 38, .inl f_79))] := hD
          refine lv_iload_n hx hb dX9_holds_60 rfl (lv_at hl 1 rfl) ?_
          have hP9 := hP.sub (ws' := [(h0, .inr (7, [.ref a0, v1, v2, v3, v4, v5, v6, v7, v8, v9, v10, v11, v12, v13, v14, v15, v16, v17, v18, v19, v20, v21, v22, v23, v24, v25, v26, v27])), (a0, .inl (ac, 38, .inl f_79))]) [0, 1] rfl
          have hD9 := hD.sub (ws' := [(h0, .inr (7, [.ref a0, v1, v2, v3, v4, v5, v6, v7, v8, v9, v10, v11, v12, v13, v14, v15, v16, v17, v18, v19, v20, v21, v22, v23, v24, v25, v26, v27])), (a0, .inl (ac, 38, .inl f_79))]) [0, 1] (by decide) rfl
          have hK9 := hK.sub (tys' := [(ac, .int)]) [0] rfl
          exact W.iret (v := (2 : Int32)) hx hb hr (fun t ht hW => ⟨⟨(2 : Int32), (), rfl, (by first | omega | decide | (simp only [fa_lt, fa_le, fa_eq, and_true, true_and, and_false, false_and, not_true_eq_false, not_false_eq_true, li_0, li_1, li_2, li_3, li_4, li_5, li_6, li_7, li_8, li_9, li_10, li_12, li_15, li_16, li_20, li_30, li_34, li_38, li_40, li_63, li_64, li_65, li_78, li_120, li_1000, li_4000, li_10000, li_11077, li_255, li_65535, li_m1, li_m2, li_m1000000001, li_m1000000002, li_m1000000003, li_m1000000004, li_m1000000005, li_m1000000006, li_m1000000007, or_true, true_or, or_false, false_or, implies_true, true_implies, false_implies] <;> omega)), f_79, hI_87, (by first | omega | decide | (simp only [fa_lt, fa_le, fa_eq, and_true, true_and, and_false, false_and, not_true_eq_false, not_false_eq_true, li_0, li_1, li_2, li_3, li_4, li_5, li_6, li_7, li_8, li_9, li_10, li_12, li_15, li_16, li_20, li_30, li_34, li_38, li_40, li_63, li_64, li_65, li_78, li_120, li_1000, li_4000, li_10000, li_11077, li_255, li_65535, li_m1, li_m2, li_m1000000001, li_m1000000002, li_m1000000003, li_m1000000004, li_m1000000005, li_m1000000006, li_m1000000007, or_true, true_or, or_false, false_or, implies_true, true_implies, false_implies] <;> omega)), (by unfold hput; omega), by rw [ht]; exact hP9, va_K.moved hW.alike hK9, hD9⟩, hS.F ht⟩) hS.2.2 dX9_holds_61
        · skip
          have tc_69 : ¬ 0 ≤ n_68.toInt := fun h => c_69 ((fa_le _ _).mpr h)
          refine lv_iload hx hb dX9_holds_27 (lv_at hl 0 rfl) ?_
          refine lv_goto (tgt := 33) hx hb dX9_holds_29 (by decide) ?_
          refine lv_istore_n (lv' := [(3, .int 0), (4, .int 0), (0, .ref h0), (1, .int k), (2, .int b)]) hx hb dX9_holds_33 rfl hl (by decide) rfl (fun ls hl => ?_)
          refine lv_iinc (v := (-1)) (lv' := [(4, .int (-1)), (3, .int 0), (0, .ref h0), (1, .int k), (2, .int b)]) hx hb dX9_holds_34 hl (k := 1) rfl (by decide) (by decide) rfl (fun ls hl => ?_)
          refine lv_goto (tgt := 9) hx hb dX9_holds_37 (by decide) ?_
          refine lv_iload hx hb dX9_holds_9 (lv_at hl 0 rfl) ?_
          refine lv_if_lt (tgt := 40) hx hb dX9_holds_11 (by decide) (fun _ => ?_) (fun c => absurd (by decide) c)
          refine lv_aload_n hx hb dX9_holds_40 rfl (lv_at hl 2 rfl) ?_
          refine va_get (D := (dC, dI)) (ci := 7) (v := .ref a0) (C := RX9) (T := TX9) (N := 28) hx hb hts inX9 hown hK hP 0 rfl rfl 0 (by decide) (hts _ (List.mem_of_getElem? (i := 6) rfl)) (fun _ h9 => h9) rfl dX9_holds_41 ?_
          refine lv_bipush (v := 30) hx hb dX9_holds_44 (by decide) ?_
          refine lv_iload_n hx hb dX9_holds_46 rfl (lv_at hl 1 rfl) ?_
          refine lv_iadd hx hb dX9_holds_47 ?_
          refine pp_ti (y := 30) (by decide) ?_
          refine lv_iload_n hx hb dX9_holds_48 rfl (lv_at hl 3 rfl) ?_
          refine va_iast hx hb hK hP hD hS 1 0 rfl rfl (vp_in_nI (n := 30) (by decide) (by decide)) dX9_holds_49 (fun H locs hP hD hS => ?_)
          have hP : va_P (dC, dI) vwCl [(h0, .inr (7, [.ref a0, v1, v2, v3, v4, v5, v6, v7, v8, v9, v10, v11, v12, v13, v14, v15, v16, v17, v18, v19, v20, v21, v22, v23, v24, v25, v26, v27])), (a0, .inl (ac, 38, .inl (upd nf 30 k)))] H := hP
          have hD : va_D A [(h0, .inr (7, [.ref a0, v1, v2, v3, v4, v5, v6, v7, v8, v9, v10, v11, v12, v13, v14, v15, v16, v17, v18, v19, v20, v21, v22, v23, v24, v25, v26, v27])), (a0, .inl (ac, 38, .inl (upd nf 30 k)))] := hD
          have q_89 : ((upd nf 30 k) 0).toInt = (nf 0).toInt := pp_uN_ne (by decide)
          have q_90 : ((upd nf 30 k) 1).toInt = (nf 1).toInt := pp_uN_ne (by decide)
          have q_91 : ((upd nf 30 k) 2).toInt = (nf 2).toInt := pp_uN_ne (by decide)
          have q_92 : ((upd nf 30 k) 30).toInt = k.toInt := pp_uN_eq rfl
          have q_93 : ((upd nf 30 k) 31).toInt = (nf 31).toInt := pp_uN_ne (by decide)
          have q_94 : ((upd nf 30 k) 32).toInt = (nf 32).toInt := pp_uN_ne (by decide)
          have q_95 : ((upd nf 30 k) 33).toInt = (nf 33).toInt := pp_uN_ne (by decide)
          have hI_96 : mI (upd nf 30 k) := mI_hold hI (by decide) (by decide) (by first | decide | omega) (by first | decide | omega) (Or.inr hnh)
          generalize upd nf 30 k = f_88 at hP hD q_89 q_90 q_91 q_92 q_93 q_94 q_95 hI_96
          have hP : va_P (dC, dI) vwCl [(h0, .inr (7, [.ref a0, v1, v2, v3, v4, v5, v6, v7, v8, v9, v10, v11, v12, v13, v14, v15, v16, v17, v18, v19, v20, v21, v22, v23, v24, v25, v26, v27])), (a0, .inl (ac, 38, .inl f_88))] H := hP
          have hD : va_D A [(h0, .inr (7, [.ref a0, v1, v2, v3, v4, v5, v6, v7, v8, v9, v10, v11, v12, v13, v14, v15, v16, v17, v18, v19, v20, v21, v22, v23, v24, v25, v26, v27])), (a0, .inl (ac, 38, .inl f_88))] := hD
          refine lv_aload_n hx hb dX9_holds_50 rfl (lv_at hl 2 rfl) ?_
          refine va_get (D := (dC, dI)) (ci := 7) (v := .ref a0) (C := RX9) (T := TX9) (N := 28) hx hb hts inX9 hown hK hP 0 rfl rfl 0 (by decide) (hts _ (List.mem_of_getElem? (i := 6) rfl)) (fun _ h9 => h9) rfl dX9_holds_51 ?_
          refine lv_bipush (v := 34) hx hb dX9_holds_54 (by decide) ?_
          refine lv_iload_n hx hb dX9_holds_56 rfl (lv_at hl 1 rfl) ?_
          refine lv_iadd hx hb dX9_holds_57 ?_
          refine pp_ti (y := 34) (by decide) ?_
          refine lv_iload_n hx hb dX9_holds_58 rfl (lv_at hl 4 rfl) ?_
          refine va_iast hx hb hK hP hD hS 1 0 rfl rfl (vp_in_nI (n := 34) (by decide) (by decide)) dX9_holds_59 (fun H locs hP hD hS => ?_)
          have hP : va_P (dC, dI) vwCl [(h0, .inr (7, [.ref a0, v1, v2, v3, v4, v5, v6, v7, v8, v9, v10, v11, v12, v13, v14, v15, v16, v17, v18, v19, v20, v21, v22, v23, v24, v25, v26, v27])), (a0, .inl (ac, 38, .inl (upd f_88 34 b)))] H := hP
          have hD : va_D A [(h0, .inr (7, [.ref a0, v1, v2, v3, v4, v5, v6, v7, v8, v9, v10, v11, v12, v13, v14, v15, v16, v17, v18, v19, v20, v21, v22, v23, v24, v25, v26, v27])), (a0, .inl (ac, 38, .inl (upd f_88 34 b)))] := hD
          have q_98 : ((upd f_88 34 b) 0).toInt = (f_88 0).toInt := pp_uN_ne (by decide)
          have q_99 : ((upd f_88 34 b) 1).toInt = (f_88 1).toInt := pp_uN_ne (by decide)
          have q_100 : ((upd f_88 34 b) 2).toInt = (f_88 2).toInt := pp_uN_ne (by decide)
          have q_101 : ((upd f_88 34 b) 30).toInt = (f_88 30).toInt := pp_uN_ne (by decide)
          have q_102 : ((upd f_88 34 b) 31).toInt = (f_88 31).toInt := pp_uN_ne (by decide)
          have q_103 : ((upd f_88 34 b) 32).toInt = (f_88 32).toInt := pp_uN_ne (by decide)
          have q_104 : ((upd f_88 34 b) 33).toInt = (f_88 33).toInt := pp_uN_ne (by decide)
          have hI_105 : mI (upd f_88 34 b) := mI_01 hI_96 (by have := mI_b hI_96; omega) (by have := mI_b hI_96; omega) (by omega) (by omega) (by omega) (by omega)
          generalize upd f_88 34 b = f_97 at hP hD q_98 q_99 q_100 q_101 q_102 q_103 q_104 hI_105
          have hP : va_P (dC, dI) vwCl [(h0, .inr (7, [.ref a0, v1, v2, v3, v4, v5, v6, v7, v8, v9, v10, v11, v12, v13, v14, v15, v16, v17, v18, v19, v20, v21, v22, v23, v24, v25, v26, v27])), (a0, .inl (ac, 38, .inl f_97))] H := hP
          have hD : va_D A [(h0, .inr (7, [.ref a0, v1, v2, v3, v4, v5, v6, v7, v8, v9, v10, v11, v12, v13, v14, v15, v16, v17, v18, v19, v20, v21, v22, v23, v24, v25, v26, v27])), (a0, .inl (ac, 38, .inl f_97))] := hD
          refine lv_iload_n hx hb dX9_holds_60 rfl (lv_at hl 1 rfl) ?_
          have hP9 := hP.sub (ws' := [(h0, .inr (7, [.ref a0, v1, v2, v3, v4, v5, v6, v7, v8, v9, v10, v11, v12, v13, v14, v15, v16, v17, v18, v19, v20, v21, v22, v23, v24, v25, v26, v27])), (a0, .inl (ac, 38, .inl f_97))]) [0, 1] rfl
          have hD9 := hD.sub (ws' := [(h0, .inr (7, [.ref a0, v1, v2, v3, v4, v5, v6, v7, v8, v9, v10, v11, v12, v13, v14, v15, v16, v17, v18, v19, v20, v21, v22, v23, v24, v25, v26, v27])), (a0, .inl (ac, 38, .inl f_97))]) [0, 1] (by decide) rfl
          have hK9 := hK.sub (tys' := [(ac, .int)]) [0] rfl
          exact W.iret (v := (0 : Int32)) hx hb hr (fun t ht hW => ⟨⟨(0 : Int32), (), rfl, (by first | omega | decide | (simp only [fa_lt, fa_le, fa_eq, and_true, true_and, and_false, false_and, not_true_eq_false, not_false_eq_true, li_0, li_1, li_2, li_3, li_4, li_5, li_6, li_7, li_8, li_9, li_10, li_12, li_15, li_16, li_20, li_30, li_34, li_38, li_40, li_63, li_64, li_65, li_78, li_120, li_1000, li_4000, li_10000, li_11077, li_255, li_65535, li_m1, li_m2, li_m1000000001, li_m1000000002, li_m1000000003, li_m1000000004, li_m1000000005, li_m1000000006, li_m1000000007, or_true, true_or, or_false, false_or, implies_true, true_implies, false_implies] <;> omega)), f_97, hI_105, (by first | omega | decide | (simp only [fa_lt, fa_le, fa_eq, and_true, true_and, and_false, false_and, not_true_eq_false, not_false_eq_true, li_0, li_1, li_2, li_3, li_4, li_5, li_6, li_7, li_8, li_9, li_10, li_12, li_15, li_16, li_20, li_30, li_34, li_38, li_40, li_63, li_64, li_65, li_78, li_120, li_1000, li_4000, li_10000, li_11077, li_255, li_65535, li_m1, li_m2, li_m1000000001, li_m1000000002, li_m1000000003, li_m1000000004, li_m1000000005, li_m1000000006, li_m1000000007, or_true, true_or, or_false, false_or, implies_true, true_implies, false_implies] <;> omega)), (by unfold hput; omega), by rw [ht]; exact hP9, va_K.moved hW.alike hK9, hD9⟩, hS.F ht⟩) hS.2.2 dX9_holds_61
      · skip
        have tc_67 : ¬ 0 ≤ n_66.toInt := fun h => c_67 ((fa_le _ _).mpr h)
        refine lv_iload hx hb dX9_holds_27 (lv_at hl 0 rfl) ?_
        refine lv_goto (tgt := 33) hx hb dX9_holds_29 (by decide) ?_
        refine lv_istore_n (lv' := [(3, .int 1), (4, .int 1), (0, .ref h0), (1, .int k), (2, .int b)]) hx hb dX9_holds_33 rfl hl (by decide) rfl (fun ls hl => ?_)
        refine lv_iinc (v := 0) (lv' := [(4, .int 0), (3, .int 1), (0, .ref h0), (1, .int k), (2, .int b)]) hx hb dX9_holds_34 hl (k := 1) rfl (by decide) (by decide) rfl (fun ls hl => ?_)
        refine lv_goto (tgt := 9) hx hb dX9_holds_37 (by decide) ?_
        refine lv_iload hx hb dX9_holds_9 (lv_at hl 0 rfl) ?_
        refine lv_if_lt (tgt := 40) hx hb dX9_holds_11 (by decide) (fun c => absurd c (by decide)) (fun _ => ?_)
        refine lv_aload_n hx hb dX9_holds_14 rfl (lv_at hl 2 rfl) ?_
        refine va_get (D := (dC, dI)) (ci := 7) (v := .ref a0) (C := RX9) (T := TX9) (N := 28) hx hb hts inX9 hown hK hP 0 rfl rfl 0 (by decide) (hts _ (List.mem_of_getElem? (i := 6) rfl)) (fun _ h9 => h9) rfl dX9_holds_15 ?_
        refine lv_bipush (v := 30) hx hb dX9_holds_18 (by decide) ?_
        refine lv_iload hx hb dX9_holds_20 (lv_at hl 0 rfl) ?_
        refine lv_iadd hx hb dX9_holds_22 ?_
        refine pp_ti (y := 30) (by decide) ?_
        refine va_iald hx hb hK hP 1 0 rfl rfl (vp_in_nI (n := 30) (by decide) (by decide)) dX9_holds_23 ?_
        refine pp_ti (y := nf 30) rfl ?_
        refine lv_topi (fun n_106 en_106 => ?_)
        have tn_106 : n_106.toInt = (nf 30).toInt ∧ (-1) ≤ n_106.toInt ∧ n_106.toInt ≤ 8 := mI_r30 hI en_106
        clear en_106
        refine lv_if_ge (tgt := 32) hx hb dX9_holds_24 (by decide) (fun c_107 => ?_) (fun c_107 => ?_)
        · skip
          have tc_107 : 0 ≤ n_106.toInt := (fa_le _ _).mp c_107
          refine lv_iload_n hx hb dX9_holds_32 rfl (lv_at hl 1 rfl) ?_
          refine lv_istore_n (lv' := [(3, .int 1), (4, .int 0), (0, .ref h0), (1, .int k), (2, .int b)]) hx hb dX9_holds_33 rfl hl (by decide) rfl (fun ls hl => ?_)
          refine lv_iinc (v := (-1)) (lv' := [(4, .int (-1)), (3, .int 1), (0, .ref h0), (1, .int k), (2, .int b)]) hx hb dX9_holds_34 hl (k := 1) rfl (by decide) (by decide) rfl (fun ls hl => ?_)
          refine lv_goto (tgt := 9) hx hb dX9_holds_37 (by decide) ?_
          refine lv_iload hx hb dX9_holds_9 (lv_at hl 0 rfl) ?_
          refine lv_if_lt (tgt := 40) hx hb dX9_holds_11 (by decide) (fun _ => ?_) (fun c => absurd (by decide) c)
          refine lv_aload_n hx hb dX9_holds_40 rfl (lv_at hl 2 rfl) ?_
          refine va_get (D := (dC, dI)) (ci := 7) (v := .ref a0) (C := RX9) (T := TX9) (N := 28) hx hb hts inX9 hown hK hP 0 rfl rfl 0 (by decide) (hts _ (List.mem_of_getElem? (i := 6) rfl)) (fun _ h9 => h9) rfl dX9_holds_41 ?_
          refine lv_bipush (v := 30) hx hb dX9_holds_44 (by decide) ?_
          refine lv_iload_n hx hb dX9_holds_46 rfl (lv_at hl 1 rfl) ?_
          refine lv_iadd hx hb dX9_holds_47 ?_
          refine pp_ti (y := 31) (by decide) ?_
          refine lv_iload_n hx hb dX9_holds_48 rfl (lv_at hl 3 rfl) ?_
          refine va_iast hx hb hK hP hD hS 1 0 rfl rfl (vp_in_nI (n := 31) (by decide) (by decide)) dX9_holds_49 (fun H locs hP hD hS => ?_)
          have hP : va_P (dC, dI) vwCl [(h0, .inr (7, [.ref a0, v1, v2, v3, v4, v5, v6, v7, v8, v9, v10, v11, v12, v13, v14, v15, v16, v17, v18, v19, v20, v21, v22, v23, v24, v25, v26, v27])), (a0, .inl (ac, 38, .inl (upd nf 31 k)))] H := hP
          have hD : va_D A [(h0, .inr (7, [.ref a0, v1, v2, v3, v4, v5, v6, v7, v8, v9, v10, v11, v12, v13, v14, v15, v16, v17, v18, v19, v20, v21, v22, v23, v24, v25, v26, v27])), (a0, .inl (ac, 38, .inl (upd nf 31 k)))] := hD
          have q_109 : ((upd nf 31 k) 0).toInt = (nf 0).toInt := pp_uN_ne (by decide)
          have q_110 : ((upd nf 31 k) 1).toInt = (nf 1).toInt := pp_uN_ne (by decide)
          have q_111 : ((upd nf 31 k) 2).toInt = (nf 2).toInt := pp_uN_ne (by decide)
          have q_112 : ((upd nf 31 k) 30).toInt = (nf 30).toInt := pp_uN_ne (by decide)
          have q_113 : ((upd nf 31 k) 31).toInt = k.toInt := pp_uN_eq rfl
          have q_114 : ((upd nf 31 k) 32).toInt = (nf 32).toInt := pp_uN_ne (by decide)
          have q_115 : ((upd nf 31 k) 33).toInt = (nf 33).toInt := pp_uN_ne (by decide)
          have hI_116 : mI (upd nf 31 k) := mI_hold hI (by decide) (by decide) (by first | decide | omega) (by first | decide | omega) (Or.inr hnh)
          generalize upd nf 31 k = f_108 at hP hD q_109 q_110 q_111 q_112 q_113 q_114 q_115 hI_116
          have hP : va_P (dC, dI) vwCl [(h0, .inr (7, [.ref a0, v1, v2, v3, v4, v5, v6, v7, v8, v9, v10, v11, v12, v13, v14, v15, v16, v17, v18, v19, v20, v21, v22, v23, v24, v25, v26, v27])), (a0, .inl (ac, 38, .inl f_108))] H := hP
          have hD : va_D A [(h0, .inr (7, [.ref a0, v1, v2, v3, v4, v5, v6, v7, v8, v9, v10, v11, v12, v13, v14, v15, v16, v17, v18, v19, v20, v21, v22, v23, v24, v25, v26, v27])), (a0, .inl (ac, 38, .inl f_108))] := hD
          refine lv_aload_n hx hb dX9_holds_50 rfl (lv_at hl 2 rfl) ?_
          refine va_get (D := (dC, dI)) (ci := 7) (v := .ref a0) (C := RX9) (T := TX9) (N := 28) hx hb hts inX9 hown hK hP 0 rfl rfl 0 (by decide) (hts _ (List.mem_of_getElem? (i := 6) rfl)) (fun _ h9 => h9) rfl dX9_holds_51 ?_
          refine lv_bipush (v := 34) hx hb dX9_holds_54 (by decide) ?_
          refine lv_iload_n hx hb dX9_holds_56 rfl (lv_at hl 1 rfl) ?_
          refine lv_iadd hx hb dX9_holds_57 ?_
          refine pp_ti (y := 35) (by decide) ?_
          refine lv_iload_n hx hb dX9_holds_58 rfl (lv_at hl 4 rfl) ?_
          refine va_iast hx hb hK hP hD hS 1 0 rfl rfl (vp_in_nI (n := 35) (by decide) (by decide)) dX9_holds_59 (fun H locs hP hD hS => ?_)
          have hP : va_P (dC, dI) vwCl [(h0, .inr (7, [.ref a0, v1, v2, v3, v4, v5, v6, v7, v8, v9, v10, v11, v12, v13, v14, v15, v16, v17, v18, v19, v20, v21, v22, v23, v24, v25, v26, v27])), (a0, .inl (ac, 38, .inl (upd f_108 35 b)))] H := hP
          have hD : va_D A [(h0, .inr (7, [.ref a0, v1, v2, v3, v4, v5, v6, v7, v8, v9, v10, v11, v12, v13, v14, v15, v16, v17, v18, v19, v20, v21, v22, v23, v24, v25, v26, v27])), (a0, .inl (ac, 38, .inl (upd f_108 35 b)))] := hD
          have q_118 : ((upd f_108 35 b) 0).toInt = (f_108 0).toInt := pp_uN_ne (by decide)
          have q_119 : ((upd f_108 35 b) 1).toInt = (f_108 1).toInt := pp_uN_ne (by decide)
          have q_120 : ((upd f_108 35 b) 2).toInt = (f_108 2).toInt := pp_uN_ne (by decide)
          have q_121 : ((upd f_108 35 b) 30).toInt = (f_108 30).toInt := pp_uN_ne (by decide)
          have q_122 : ((upd f_108 35 b) 31).toInt = (f_108 31).toInt := pp_uN_ne (by decide)
          have q_123 : ((upd f_108 35 b) 32).toInt = (f_108 32).toInt := pp_uN_ne (by decide)
          have q_124 : ((upd f_108 35 b) 33).toInt = (f_108 33).toInt := pp_uN_ne (by decide)
          have hI_125 : mI (upd f_108 35 b) := mI_01 hI_116 (by have := mI_b hI_116; omega) (by have := mI_b hI_116; omega) (by omega) (by omega) (by omega) (by omega)
          generalize upd f_108 35 b = f_117 at hP hD q_118 q_119 q_120 q_121 q_122 q_123 q_124 hI_125
          have hP : va_P (dC, dI) vwCl [(h0, .inr (7, [.ref a0, v1, v2, v3, v4, v5, v6, v7, v8, v9, v10, v11, v12, v13, v14, v15, v16, v17, v18, v19, v20, v21, v22, v23, v24, v25, v26, v27])), (a0, .inl (ac, 38, .inl f_117))] H := hP
          have hD : va_D A [(h0, .inr (7, [.ref a0, v1, v2, v3, v4, v5, v6, v7, v8, v9, v10, v11, v12, v13, v14, v15, v16, v17, v18, v19, v20, v21, v22, v23, v24, v25, v26, v27])), (a0, .inl (ac, 38, .inl f_117))] := hD
          refine lv_iload_n hx hb dX9_holds_60 rfl (lv_at hl 1 rfl) ?_
          have hP9 := hP.sub (ws' := [(h0, .inr (7, [.ref a0, v1, v2, v3, v4, v5, v6, v7, v8, v9, v10, v11, v12, v13, v14, v15, v16, v17, v18, v19, v20, v21, v22, v23, v24, v25, v26, v27])), (a0, .inl (ac, 38, .inl f_117))]) [0, 1] rfl
          have hD9 := hD.sub (ws' := [(h0, .inr (7, [.ref a0, v1, v2, v3, v4, v5, v6, v7, v8, v9, v10, v11, v12, v13, v14, v15, v16, v17, v18, v19, v20, v21, v22, v23, v24, v25, v26, v27])), (a0, .inl (ac, 38, .inl f_117))]) [0, 1] (by decide) rfl
          have hK9 := hK.sub (tys' := [(ac, .int)]) [0] rfl
          exact W.iret (v := (1 : Int32)) hx hb hr (fun t ht hW => ⟨⟨(1 : Int32), (), rfl, (by first | omega | decide | (simp only [fa_lt, fa_le, fa_eq, and_true, true_and, and_false, false_and, not_true_eq_false, not_false_eq_true, li_0, li_1, li_2, li_3, li_4, li_5, li_6, li_7, li_8, li_9, li_10, li_12, li_15, li_16, li_20, li_30, li_34, li_38, li_40, li_63, li_64, li_65, li_78, li_120, li_1000, li_4000, li_10000, li_11077, li_255, li_65535, li_m1, li_m2, li_m1000000001, li_m1000000002, li_m1000000003, li_m1000000004, li_m1000000005, li_m1000000006, li_m1000000007, or_true, true_or, or_false, false_or, implies_true, true_implies, false_implies] <;> omega)), f_117, hI_125, (by first | omega | decide | (simp only [fa_lt, fa_le, fa_eq, and_true, true_and, and_false, false_and, not_true_eq_false, not_false_eq_true, li_0, li_1, li_2, li_3, li_4, li_5, li_6, li_7, li_8, li_9, li_10, li_12, li_15, li_16, li_20, li_30, li_34, li_38, li_40, li_63, li_64, li_65, li_78, li_120, li_1000, li_4000, li_10000, li_11077, li_255, li_65535, li_m1, li_m2, li_m1000000001, li_m1000000002, li_m1000000003, li_m1000000004, li_m1000000005, li_m1000000006, li_m1000000007, or_true, true_or, or_false, false_or, implies_true, true_implies, false_implies] <;> omega)), (by unfold hput; omega), by rw [ht]; exact hP9, va_K.moved hW.alike hK9, hD9⟩, hS.F ht⟩) hS.2.2 dX9_holds_61
        · skip
          have tc_107 : ¬ 0 ≤ n_106.toInt := fun h => c_107 ((fa_le _ _).mpr h)
          refine lv_iload hx hb dX9_holds_27 (lv_at hl 0 rfl) ?_
          refine lv_goto (tgt := 33) hx hb dX9_holds_29 (by decide) ?_
          refine lv_istore_n (lv' := [(3, .int 0), (4, .int 0), (0, .ref h0), (1, .int k), (2, .int b)]) hx hb dX9_holds_33 rfl hl (by decide) rfl (fun ls hl => ?_)
          refine lv_iinc (v := (-1)) (lv' := [(4, .int (-1)), (3, .int 0), (0, .ref h0), (1, .int k), (2, .int b)]) hx hb dX9_holds_34 hl (k := 1) rfl (by decide) (by decide) rfl (fun ls hl => ?_)
          refine lv_goto (tgt := 9) hx hb dX9_holds_37 (by decide) ?_
          refine lv_iload hx hb dX9_holds_9 (lv_at hl 0 rfl) ?_
          refine lv_if_lt (tgt := 40) hx hb dX9_holds_11 (by decide) (fun _ => ?_) (fun c => absurd (by decide) c)
          refine lv_aload_n hx hb dX9_holds_40 rfl (lv_at hl 2 rfl) ?_
          refine va_get (D := (dC, dI)) (ci := 7) (v := .ref a0) (C := RX9) (T := TX9) (N := 28) hx hb hts inX9 hown hK hP 0 rfl rfl 0 (by decide) (hts _ (List.mem_of_getElem? (i := 6) rfl)) (fun _ h9 => h9) rfl dX9_holds_41 ?_
          refine lv_bipush (v := 30) hx hb dX9_holds_44 (by decide) ?_
          refine lv_iload_n hx hb dX9_holds_46 rfl (lv_at hl 1 rfl) ?_
          refine lv_iadd hx hb dX9_holds_47 ?_
          refine pp_ti (y := 30) (by decide) ?_
          refine lv_iload_n hx hb dX9_holds_48 rfl (lv_at hl 3 rfl) ?_
          refine va_iast hx hb hK hP hD hS 1 0 rfl rfl (vp_in_nI (n := 30) (by decide) (by decide)) dX9_holds_49 (fun H locs hP hD hS => ?_)
          have hP : va_P (dC, dI) vwCl [(h0, .inr (7, [.ref a0, v1, v2, v3, v4, v5, v6, v7, v8, v9, v10, v11, v12, v13, v14, v15, v16, v17, v18, v19, v20, v21, v22, v23, v24, v25, v26, v27])), (a0, .inl (ac, 38, .inl (upd nf 30 k)))] H := hP
          have hD : va_D A [(h0, .inr (7, [.ref a0, v1, v2, v3, v4, v5, v6, v7, v8, v9, v10, v11, v12, v13, v14, v15, v16, v17, v18, v19, v20, v21, v22, v23, v24, v25, v26, v27])), (a0, .inl (ac, 38, .inl (upd nf 30 k)))] := hD
          have q_127 : ((upd nf 30 k) 0).toInt = (nf 0).toInt := pp_uN_ne (by decide)
          have q_128 : ((upd nf 30 k) 1).toInt = (nf 1).toInt := pp_uN_ne (by decide)
          have q_129 : ((upd nf 30 k) 2).toInt = (nf 2).toInt := pp_uN_ne (by decide)
          have q_130 : ((upd nf 30 k) 30).toInt = k.toInt := pp_uN_eq rfl
          have q_131 : ((upd nf 30 k) 31).toInt = (nf 31).toInt := pp_uN_ne (by decide)
          have q_132 : ((upd nf 30 k) 32).toInt = (nf 32).toInt := pp_uN_ne (by decide)
          have q_133 : ((upd nf 30 k) 33).toInt = (nf 33).toInt := pp_uN_ne (by decide)
          have hI_134 : mI (upd nf 30 k) := mI_hold hI (by decide) (by decide) (by first | decide | omega) (by first | decide | omega) (Or.inr hnh)
          generalize upd nf 30 k = f_126 at hP hD q_127 q_128 q_129 q_130 q_131 q_132 q_133 hI_134
          have hP : va_P (dC, dI) vwCl [(h0, .inr (7, [.ref a0, v1, v2, v3, v4, v5, v6, v7, v8, v9, v10, v11, v12, v13, v14, v15, v16, v17, v18, v19, v20, v21, v22, v23, v24, v25, v26, v27])), (a0, .inl (ac, 38, .inl f_126))] H := hP
          have hD : va_D A [(h0, .inr (7, [.ref a0, v1, v2, v3, v4, v5, v6, v7, v8, v9, v10, v11, v12, v13, v14, v15, v16, v17, v18, v19, v20, v21, v22, v23, v24, v25, v26, v27])), (a0, .inl (ac, 38, .inl f_126))] := hD
          refine lv_aload_n hx hb dX9_holds_50 rfl (lv_at hl 2 rfl) ?_
          refine va_get (D := (dC, dI)) (ci := 7) (v := .ref a0) (C := RX9) (T := TX9) (N := 28) hx hb hts inX9 hown hK hP 0 rfl rfl 0 (by decide) (hts _ (List.mem_of_getElem? (i := 6) rfl)) (fun _ h9 => h9) rfl dX9_holds_51 ?_
          refine lv_bipush (v := 34) hx hb dX9_holds_54 (by decide) ?_
          refine lv_iload_n hx hb dX9_holds_56 rfl (lv_at hl 1 rfl) ?_
          refine lv_iadd hx hb dX9_holds_57 ?_
          refine pp_ti (y := 34) (by decide) ?_
          refine lv_iload_n hx hb dX9_holds_58 rfl (lv_at hl 4 rfl) ?_
          refine va_iast hx hb hK hP hD hS 1 0 rfl rfl (vp_in_nI (n := 34) (by decide) (by decide)) dX9_holds_59 (fun H locs hP hD hS => ?_)
          have hP : va_P (dC, dI) vwCl [(h0, .inr (7, [.ref a0, v1, v2, v3, v4, v5, v6, v7, v8, v9, v10, v11, v12, v13, v14, v15, v16, v17, v18, v19, v20, v21, v22, v23, v24, v25, v26, v27])), (a0, .inl (ac, 38, .inl (upd f_126 34 b)))] H := hP
          have hD : va_D A [(h0, .inr (7, [.ref a0, v1, v2, v3, v4, v5, v6, v7, v8, v9, v10, v11, v12, v13, v14, v15, v16, v17, v18, v19, v20, v21, v22, v23, v24, v25, v26, v27])), (a0, .inl (ac, 38, .inl (upd f_126 34 b)))] := hD
          have q_136 : ((upd f_126 34 b) 0).toInt = (f_126 0).toInt := pp_uN_ne (by decide)
          have q_137 : ((upd f_126 34 b) 1).toInt = (f_126 1).toInt := pp_uN_ne (by decide)
          have q_138 : ((upd f_126 34 b) 2).toInt = (f_126 2).toInt := pp_uN_ne (by decide)
          have q_139 : ((upd f_126 34 b) 30).toInt = (f_126 30).toInt := pp_uN_ne (by decide)
          have q_140 : ((upd f_126 34 b) 31).toInt = (f_126 31).toInt := pp_uN_ne (by decide)
          have q_141 : ((upd f_126 34 b) 32).toInt = (f_126 32).toInt := pp_uN_ne (by decide)
          have q_142 : ((upd f_126 34 b) 33).toInt = (f_126 33).toInt := pp_uN_ne (by decide)
          have hI_143 : mI (upd f_126 34 b) := mI_01 hI_134 (by have := mI_b hI_134; omega) (by have := mI_b hI_134; omega) (by omega) (by omega) (by omega) (by omega)
          generalize upd f_126 34 b = f_135 at hP hD q_136 q_137 q_138 q_139 q_140 q_141 q_142 hI_143
          have hP : va_P (dC, dI) vwCl [(h0, .inr (7, [.ref a0, v1, v2, v3, v4, v5, v6, v7, v8, v9, v10, v11, v12, v13, v14, v15, v16, v17, v18, v19, v20, v21, v22, v23, v24, v25, v26, v27])), (a0, .inl (ac, 38, .inl f_135))] H := hP
          have hD : va_D A [(h0, .inr (7, [.ref a0, v1, v2, v3, v4, v5, v6, v7, v8, v9, v10, v11, v12, v13, v14, v15, v16, v17, v18, v19, v20, v21, v22, v23, v24, v25, v26, v27])), (a0, .inl (ac, 38, .inl f_135))] := hD
          refine lv_iload_n hx hb dX9_holds_60 rfl (lv_at hl 1 rfl) ?_
          have hP9 := hP.sub (ws' := [(h0, .inr (7, [.ref a0, v1, v2, v3, v4, v5, v6, v7, v8, v9, v10, v11, v12, v13, v14, v15, v16, v17, v18, v19, v20, v21, v22, v23, v24, v25, v26, v27])), (a0, .inl (ac, 38, .inl f_135))]) [0, 1] rfl
          have hD9 := hD.sub (ws' := [(h0, .inr (7, [.ref a0, v1, v2, v3, v4, v5, v6, v7, v8, v9, v10, v11, v12, v13, v14, v15, v16, v17, v18, v19, v20, v21, v22, v23, v24, v25, v26, v27])), (a0, .inl (ac, 38, .inl f_135))]) [0, 1] (by decide) rfl
          have hK9 := hK.sub (tys' := [(ac, .int)]) [0] rfl
          exact W.iret (v := (0 : Int32)) hx hb hr (fun t ht hW => ⟨⟨(0 : Int32), (), rfl, (by first | omega | decide | (simp only [fa_lt, fa_le, fa_eq, and_true, true_and, and_false, false_and, not_true_eq_false, not_false_eq_true, li_0, li_1, li_2, li_3, li_4, li_5, li_6, li_7, li_8, li_9, li_10, li_12, li_15, li_16, li_20, li_30, li_34, li_38, li_40, li_63, li_64, li_65, li_78, li_120, li_1000, li_4000, li_10000, li_11077, li_255, li_65535, li_m1, li_m2, li_m1000000001, li_m1000000002, li_m1000000003, li_m1000000004, li_m1000000005, li_m1000000006, li_m1000000007, or_true, true_or, or_false, false_or, implies_true, true_implies, false_implies] <;> omega)), f_135, hI_143, (by first | omega | decide | (simp only [fa_lt, fa_le, fa_eq, and_true, true_and, and_false, false_and, not_true_eq_false, not_false_eq_true, li_0, li_1, li_2, li_3, li_4, li_5, li_6, li_7, li_8, li_9, li_10, li_12, li_15, li_16, li_20, li_30, li_34, li_38, li_40, li_63, li_64, li_65, li_78, li_120, li_1000, li_4000, li_10000, li_11077, li_255, li_65535, li_m1, li_m2, li_m1000000001, li_m1000000002, li_m1000000003, li_m1000000004, li_m1000000005, li_m1000000006, li_m1000000007, or_true, true_or, or_false, false_or, implies_true, true_implies, false_implies] <;> omega)), (by unfold hput; omega), by rw [ht]; exact hP9, va_K.moved hW.alike hK9, hD9⟩, hS.F ht⟩) hS.2.2 dX9_holds_61
  · skip
    have tc_3 : ¬ 0 ≤ n_2.toInt := fun h => c_3 ((fa_le _ _).mpr h)
    refine lv_iload hx hb dX9_holds_27 (lv_at hl 0 rfl) ?_
    refine lv_goto (tgt := 33) hx hb dX9_holds_29 (by decide) ?_
    refine lv_istore_n (lv' := [(3, .int 3), (4, .int 3), (0, .ref h0), (1, .int k), (2, .int b)]) hx hb dX9_holds_33 rfl hl (by decide) rfl (fun ls hl => ?_)
    refine lv_iinc (v := 2) (lv' := [(4, .int 2), (3, .int 3), (0, .ref h0), (1, .int k), (2, .int b)]) hx hb dX9_holds_34 hl (k := 1) rfl (by decide) (by decide) rfl (fun ls hl => ?_)
    refine lv_goto (tgt := 9) hx hb dX9_holds_37 (by decide) ?_
    refine lv_iload hx hb dX9_holds_9 (lv_at hl 0 rfl) ?_
    refine lv_if_lt (tgt := 40) hx hb dX9_holds_11 (by decide) (fun c => absurd c (by decide)) (fun _ => ?_)
    refine lv_aload_n hx hb dX9_holds_14 rfl (lv_at hl 2 rfl) ?_
    refine va_get (D := (dC, dI)) (ci := 7) (v := .ref a0) (C := RX9) (T := TX9) (N := 28) hx hb hts inX9 hown hK hP 0 rfl rfl 0 (by decide) (hts _ (List.mem_of_getElem? (i := 6) rfl)) (fun _ h9 => h9) rfl dX9_holds_15 ?_
    refine lv_bipush (v := 30) hx hb dX9_holds_18 (by decide) ?_
    refine lv_iload hx hb dX9_holds_20 (lv_at hl 0 rfl) ?_
    refine lv_iadd hx hb dX9_holds_22 ?_
    refine pp_ti (y := 32) (by decide) ?_
    refine va_iald hx hb hK hP 1 0 rfl rfl (vp_in_nI (n := 32) (by decide) (by decide)) dX9_holds_23 ?_
    refine pp_ti (y := nf 32) rfl ?_
    refine lv_topi (fun n_144 en_144 => ?_)
    have tn_144 : n_144.toInt = (nf 32).toInt ∧ (-1) ≤ n_144.toInt ∧ n_144.toInt ≤ 8 := mI_r32 hI en_144
    clear en_144
    refine lv_if_ge (tgt := 32) hx hb dX9_holds_24 (by decide) (fun c_145 => ?_) (fun c_145 => ?_)
    · skip
      have tc_145 : 0 ≤ n_144.toInt := (fa_le _ _).mp c_145
      refine lv_iload_n hx hb dX9_holds_32 rfl (lv_at hl 1 rfl) ?_
      refine lv_istore_n (lv' := [(3, .int 3), (4, .int 2), (0, .ref h0), (1, .int k), (2, .int b)]) hx hb dX9_holds_33 rfl hl (by decide) rfl (fun ls hl => ?_)
      refine lv_iinc (v := 1) (lv' := [(4, .int 1), (3, .int 3), (0, .ref h0), (1, .int k), (2, .int b)]) hx hb dX9_holds_34 hl (k := 1) rfl (by decide) (by decide) rfl (fun ls hl => ?_)
      refine lv_goto (tgt := 9) hx hb dX9_holds_37 (by decide) ?_
      refine lv_iload hx hb dX9_holds_9 (lv_at hl 0 rfl) ?_
      refine lv_if_lt (tgt := 40) hx hb dX9_holds_11 (by decide) (fun c => absurd c (by decide)) (fun _ => ?_)
      refine lv_aload_n hx hb dX9_holds_14 rfl (lv_at hl 2 rfl) ?_
      refine va_get (D := (dC, dI)) (ci := 7) (v := .ref a0) (C := RX9) (T := TX9) (N := 28) hx hb hts inX9 hown hK hP 0 rfl rfl 0 (by decide) (hts _ (List.mem_of_getElem? (i := 6) rfl)) (fun _ h9 => h9) rfl dX9_holds_15 ?_
      refine lv_bipush (v := 30) hx hb dX9_holds_18 (by decide) ?_
      refine lv_iload hx hb dX9_holds_20 (lv_at hl 0 rfl) ?_
      refine lv_iadd hx hb dX9_holds_22 ?_
      refine pp_ti (y := 31) (by decide) ?_
      refine va_iald hx hb hK hP 1 0 rfl rfl (vp_in_nI (n := 31) (by decide) (by decide)) dX9_holds_23 ?_
      refine pp_ti (y := nf 31) rfl ?_
      refine lv_topi (fun n_146 en_146 => ?_)
      have tn_146 : n_146.toInt = (nf 31).toInt ∧ (-1) ≤ n_146.toInt ∧ n_146.toInt ≤ 8 := mI_r31 hI en_146
      clear en_146
      refine lv_if_ge (tgt := 32) hx hb dX9_holds_24 (by decide) (fun c_147 => ?_) (fun c_147 => ?_)
      · skip
        have tc_147 : 0 ≤ n_146.toInt := (fa_le _ _).mp c_147
        refine lv_iload_n hx hb dX9_holds_32 rfl (lv_at hl 1 rfl) ?_
        refine lv_istore_n (lv' := [(3, .int 3), (4, .int 1), (0, .ref h0), (1, .int k), (2, .int b)]) hx hb dX9_holds_33 rfl hl (by decide) rfl (fun ls hl => ?_)
        refine lv_iinc (v := 0) (lv' := [(4, .int 0), (3, .int 3), (0, .ref h0), (1, .int k), (2, .int b)]) hx hb dX9_holds_34 hl (k := 1) rfl (by decide) (by decide) rfl (fun ls hl => ?_)
        refine lv_goto (tgt := 9) hx hb dX9_holds_37 (by decide) ?_
        refine lv_iload hx hb dX9_holds_9 (lv_at hl 0 rfl) ?_
        refine lv_if_lt (tgt := 40) hx hb dX9_holds_11 (by decide) (fun c => absurd c (by decide)) (fun _ => ?_)
        refine lv_aload_n hx hb dX9_holds_14 rfl (lv_at hl 2 rfl) ?_
        refine va_get (D := (dC, dI)) (ci := 7) (v := .ref a0) (C := RX9) (T := TX9) (N := 28) hx hb hts inX9 hown hK hP 0 rfl rfl 0 (by decide) (hts _ (List.mem_of_getElem? (i := 6) rfl)) (fun _ h9 => h9) rfl dX9_holds_15 ?_
        refine lv_bipush (v := 30) hx hb dX9_holds_18 (by decide) ?_
        refine lv_iload hx hb dX9_holds_20 (lv_at hl 0 rfl) ?_
        refine lv_iadd hx hb dX9_holds_22 ?_
        refine pp_ti (y := 30) (by decide) ?_
        refine va_iald hx hb hK hP 1 0 rfl rfl (vp_in_nI (n := 30) (by decide) (by decide)) dX9_holds_23 ?_
        refine pp_ti (y := nf 30) rfl ?_
        refine lv_topi (fun n_148 en_148 => ?_)
        have tn_148 : n_148.toInt = (nf 30).toInt ∧ (-1) ≤ n_148.toInt ∧ n_148.toInt ≤ 8 := mI_r30 hI en_148
        clear en_148
        refine lv_if_ge (tgt := 32) hx hb dX9_holds_24 (by decide) (fun c_149 => ?_) (fun c_149 => ?_)
        · skip
          have tc_149 : 0 ≤ n_148.toInt := (fa_le _ _).mp c_149
          refine lv_iload_n hx hb dX9_holds_32 rfl (lv_at hl 1 rfl) ?_
          refine lv_istore_n (lv' := [(3, .int 3), (4, .int 0), (0, .ref h0), (1, .int k), (2, .int b)]) hx hb dX9_holds_33 rfl hl (by decide) rfl (fun ls hl => ?_)
          refine lv_iinc (v := (-1)) (lv' := [(4, .int (-1)), (3, .int 3), (0, .ref h0), (1, .int k), (2, .int b)]) hx hb dX9_holds_34 hl (k := 1) rfl (by decide) (by decide) rfl (fun ls hl => ?_)
          refine lv_goto (tgt := 9) hx hb dX9_holds_37 (by decide) ?_
          refine lv_iload hx hb dX9_holds_9 (lv_at hl 0 rfl) ?_
          refine lv_if_lt (tgt := 40) hx hb dX9_holds_11 (by decide) (fun _ => ?_) (fun c => absurd (by decide) c)
          refine lv_aload_n hx hb dX9_holds_40 rfl (lv_at hl 2 rfl) ?_
          refine va_get (D := (dC, dI)) (ci := 7) (v := .ref a0) (C := RX9) (T := TX9) (N := 28) hx hb hts inX9 hown hK hP 0 rfl rfl 0 (by decide) (hts _ (List.mem_of_getElem? (i := 6) rfl)) (fun _ h9 => h9) rfl dX9_holds_41 ?_
          refine lv_bipush (v := 30) hx hb dX9_holds_44 (by decide) ?_
          refine lv_iload_n hx hb dX9_holds_46 rfl (lv_at hl 1 rfl) ?_
          refine lv_iadd hx hb dX9_holds_47 ?_
          refine pp_ti (y := 33) (by decide) ?_
          refine lv_iload_n hx hb dX9_holds_48 rfl (lv_at hl 3 rfl) ?_
          refine va_iast hx hb hK hP hD hS 1 0 rfl rfl (vp_in_nI (n := 33) (by decide) (by decide)) dX9_holds_49 (fun H locs hP hD hS => ?_)
          have hP : va_P (dC, dI) vwCl [(h0, .inr (7, [.ref a0, v1, v2, v3, v4, v5, v6, v7, v8, v9, v10, v11, v12, v13, v14, v15, v16, v17, v18, v19, v20, v21, v22, v23, v24, v25, v26, v27])), (a0, .inl (ac, 38, .inl (upd nf 33 k)))] H := hP
          have hD : va_D A [(h0, .inr (7, [.ref a0, v1, v2, v3, v4, v5, v6, v7, v8, v9, v10, v11, v12, v13, v14, v15, v16, v17, v18, v19, v20, v21, v22, v23, v24, v25, v26, v27])), (a0, .inl (ac, 38, .inl (upd nf 33 k)))] := hD
          have q_151 : ((upd nf 33 k) 0).toInt = (nf 0).toInt := pp_uN_ne (by decide)
          have q_152 : ((upd nf 33 k) 1).toInt = (nf 1).toInt := pp_uN_ne (by decide)
          have q_153 : ((upd nf 33 k) 2).toInt = (nf 2).toInt := pp_uN_ne (by decide)
          have q_154 : ((upd nf 33 k) 30).toInt = (nf 30).toInt := pp_uN_ne (by decide)
          have q_155 : ((upd nf 33 k) 31).toInt = (nf 31).toInt := pp_uN_ne (by decide)
          have q_156 : ((upd nf 33 k) 32).toInt = (nf 32).toInt := pp_uN_ne (by decide)
          have q_157 : ((upd nf 33 k) 33).toInt = k.toInt := pp_uN_eq rfl
          have hI_158 : mI (upd nf 33 k) := mI_hold hI (by decide) (by decide) (by first | decide | omega) (by first | decide | omega) (Or.inr hnh)
          generalize upd nf 33 k = f_150 at hP hD q_151 q_152 q_153 q_154 q_155 q_156 q_157 hI_158
          have hP : va_P (dC, dI) vwCl [(h0, .inr (7, [.ref a0, v1, v2, v3, v4, v5, v6, v7, v8, v9, v10, v11, v12, v13, v14, v15, v16, v17, v18, v19, v20, v21, v22, v23, v24, v25, v26, v27])), (a0, .inl (ac, 38, .inl f_150))] H := hP
          have hD : va_D A [(h0, .inr (7, [.ref a0, v1, v2, v3, v4, v5, v6, v7, v8, v9, v10, v11, v12, v13, v14, v15, v16, v17, v18, v19, v20, v21, v22, v23, v24, v25, v26, v27])), (a0, .inl (ac, 38, .inl f_150))] := hD
          refine lv_aload_n hx hb dX9_holds_50 rfl (lv_at hl 2 rfl) ?_
          refine va_get (D := (dC, dI)) (ci := 7) (v := .ref a0) (C := RX9) (T := TX9) (N := 28) hx hb hts inX9 hown hK hP 0 rfl rfl 0 (by decide) (hts _ (List.mem_of_getElem? (i := 6) rfl)) (fun _ h9 => h9) rfl dX9_holds_51 ?_
          refine lv_bipush (v := 34) hx hb dX9_holds_54 (by decide) ?_
          refine lv_iload_n hx hb dX9_holds_56 rfl (lv_at hl 1 rfl) ?_
          refine lv_iadd hx hb dX9_holds_57 ?_
          refine pp_ti (y := 37) (by decide) ?_
          refine lv_iload_n hx hb dX9_holds_58 rfl (lv_at hl 4 rfl) ?_
          refine va_iast hx hb hK hP hD hS 1 0 rfl rfl (vp_in_nI (n := 37) (by decide) (by decide)) dX9_holds_59 (fun H locs hP hD hS => ?_)
          have hP : va_P (dC, dI) vwCl [(h0, .inr (7, [.ref a0, v1, v2, v3, v4, v5, v6, v7, v8, v9, v10, v11, v12, v13, v14, v15, v16, v17, v18, v19, v20, v21, v22, v23, v24, v25, v26, v27])), (a0, .inl (ac, 38, .inl (upd f_150 37 b)))] H := hP
          have hD : va_D A [(h0, .inr (7, [.ref a0, v1, v2, v3, v4, v5, v6, v7, v8, v9, v10, v11, v12, v13, v14, v15, v16, v17, v18, v19, v20, v21, v22, v23, v24, v25, v26, v27])), (a0, .inl (ac, 38, .inl (upd f_150 37 b)))] := hD
          have q_160 : ((upd f_150 37 b) 0).toInt = (f_150 0).toInt := pp_uN_ne (by decide)
          have q_161 : ((upd f_150 37 b) 1).toInt = (f_150 1).toInt := pp_uN_ne (by decide)
          have q_162 : ((upd f_150 37 b) 2).toInt = (f_150 2).toInt := pp_uN_ne (by decide)
          have q_163 : ((upd f_150 37 b) 30).toInt = (f_150 30).toInt := pp_uN_ne (by decide)
          have q_164 : ((upd f_150 37 b) 31).toInt = (f_150 31).toInt := pp_uN_ne (by decide)
          have q_165 : ((upd f_150 37 b) 32).toInt = (f_150 32).toInt := pp_uN_ne (by decide)
          have q_166 : ((upd f_150 37 b) 33).toInt = (f_150 33).toInt := pp_uN_ne (by decide)
          have hI_167 : mI (upd f_150 37 b) := mI_01 hI_158 (by have := mI_b hI_158; omega) (by have := mI_b hI_158; omega) (by omega) (by omega) (by omega) (by omega)
          generalize upd f_150 37 b = f_159 at hP hD q_160 q_161 q_162 q_163 q_164 q_165 q_166 hI_167
          have hP : va_P (dC, dI) vwCl [(h0, .inr (7, [.ref a0, v1, v2, v3, v4, v5, v6, v7, v8, v9, v10, v11, v12, v13, v14, v15, v16, v17, v18, v19, v20, v21, v22, v23, v24, v25, v26, v27])), (a0, .inl (ac, 38, .inl f_159))] H := hP
          have hD : va_D A [(h0, .inr (7, [.ref a0, v1, v2, v3, v4, v5, v6, v7, v8, v9, v10, v11, v12, v13, v14, v15, v16, v17, v18, v19, v20, v21, v22, v23, v24, v25, v26, v27])), (a0, .inl (ac, 38, .inl f_159))] := hD
          refine lv_iload_n hx hb dX9_holds_60 rfl (lv_at hl 1 rfl) ?_
          have hP9 := hP.sub (ws' := [(h0, .inr (7, [.ref a0, v1, v2, v3, v4, v5, v6, v7, v8, v9, v10, v11, v12, v13, v14, v15, v16, v17, v18, v19, v20, v21, v22, v23, v24, v25, v26, v27])), (a0, .inl (ac, 38, .inl f_159))]) [0, 1] rfl
          have hD9 := hD.sub (ws' := [(h0, .inr (7, [.ref a0, v1, v2, v3, v4, v5, v6, v7, v8, v9, v10, v11, v12, v13, v14, v15, v16, v17, v18, v19, v20, v21, v22, v23, v24, v25, v26, v27])), (a0, .inl (ac, 38, .inl f_159))]) [0, 1] (by decide) rfl
          have hK9 := hK.sub (tys' := [(ac, .int)]) [0] rfl
          exact W.iret (v := (3 : Int32)) hx hb hr (fun t ht hW => ⟨⟨(3 : Int32), (), rfl, (by first | omega | decide | (simp only [fa_lt, fa_le, fa_eq, and_true, true_and, and_false, false_and, not_true_eq_false, not_false_eq_true, li_0, li_1, li_2, li_3, li_4, li_5, li_6, li_7, li_8, li_9, li_10, li_12, li_15, li_16, li_20, li_30, li_34, li_38, li_40, li_63, li_64, li_65, li_78, li_120, li_1000, li_4000, li_10000, li_11077, li_255, li_65535, li_m1, li_m2, li_m1000000001, li_m1000000002, li_m1000000003, li_m1000000004, li_m1000000005, li_m1000000006, li_m1000000007, or_true, true_or, or_false, false_or, implies_true, true_implies, false_implies] <;> omega)), f_159, hI_167, (by first | omega | decide | (simp only [fa_lt, fa_le, fa_eq, and_true, true_and, and_false, false_and, not_true_eq_false, not_false_eq_true, li_0, li_1, li_2, li_3, li_4, li_5, li_6, li_7, li_8, li_9, li_10, li_12, li_15, li_16, li_20, li_30, li_34, li_38, li_40, li_63, li_64, li_65, li_78, li_120, li_1000, li_4000, li_10000, li_11077, li_255, li_65535, li_m1, li_m2, li_m1000000001, li_m1000000002, li_m1000000003, li_m1000000004, li_m1000000005, li_m1000000006, li_m1000000007, or_true, true_or, or_false, false_or, implies_true, true_implies, false_implies] <;> omega)), (by unfold hput; omega), by rw [ht]; exact hP9, va_K.moved hW.alike hK9, hD9⟩, hS.F ht⟩) hS.2.2 dX9_holds_61
        · skip
          have tc_149 : ¬ 0 ≤ n_148.toInt := fun h => c_149 ((fa_le _ _).mpr h)
          refine lv_iload hx hb dX9_holds_27 (lv_at hl 0 rfl) ?_
          refine lv_goto (tgt := 33) hx hb dX9_holds_29 (by decide) ?_
          refine lv_istore_n (lv' := [(3, .int 0), (4, .int 0), (0, .ref h0), (1, .int k), (2, .int b)]) hx hb dX9_holds_33 rfl hl (by decide) rfl (fun ls hl => ?_)
          refine lv_iinc (v := (-1)) (lv' := [(4, .int (-1)), (3, .int 0), (0, .ref h0), (1, .int k), (2, .int b)]) hx hb dX9_holds_34 hl (k := 1) rfl (by decide) (by decide) rfl (fun ls hl => ?_)
          refine lv_goto (tgt := 9) hx hb dX9_holds_37 (by decide) ?_
          refine lv_iload hx hb dX9_holds_9 (lv_at hl 0 rfl) ?_
          refine lv_if_lt (tgt := 40) hx hb dX9_holds_11 (by decide) (fun _ => ?_) (fun c => absurd (by decide) c)
          refine lv_aload_n hx hb dX9_holds_40 rfl (lv_at hl 2 rfl) ?_
          refine va_get (D := (dC, dI)) (ci := 7) (v := .ref a0) (C := RX9) (T := TX9) (N := 28) hx hb hts inX9 hown hK hP 0 rfl rfl 0 (by decide) (hts _ (List.mem_of_getElem? (i := 6) rfl)) (fun _ h9 => h9) rfl dX9_holds_41 ?_
          refine lv_bipush (v := 30) hx hb dX9_holds_44 (by decide) ?_
          refine lv_iload_n hx hb dX9_holds_46 rfl (lv_at hl 1 rfl) ?_
          refine lv_iadd hx hb dX9_holds_47 ?_
          refine pp_ti (y := 30) (by decide) ?_
          refine lv_iload_n hx hb dX9_holds_48 rfl (lv_at hl 3 rfl) ?_
          refine va_iast hx hb hK hP hD hS 1 0 rfl rfl (vp_in_nI (n := 30) (by decide) (by decide)) dX9_holds_49 (fun H locs hP hD hS => ?_)
          have hP : va_P (dC, dI) vwCl [(h0, .inr (7, [.ref a0, v1, v2, v3, v4, v5, v6, v7, v8, v9, v10, v11, v12, v13, v14, v15, v16, v17, v18, v19, v20, v21, v22, v23, v24, v25, v26, v27])), (a0, .inl (ac, 38, .inl (upd nf 30 k)))] H := hP
          have hD : va_D A [(h0, .inr (7, [.ref a0, v1, v2, v3, v4, v5, v6, v7, v8, v9, v10, v11, v12, v13, v14, v15, v16, v17, v18, v19, v20, v21, v22, v23, v24, v25, v26, v27])), (a0, .inl (ac, 38, .inl (upd nf 30 k)))] := hD
          have q_169 : ((upd nf 30 k) 0).toInt = (nf 0).toInt := pp_uN_ne (by decide)
          have q_170 : ((upd nf 30 k) 1).toInt = (nf 1).toInt := pp_uN_ne (by decide)
          have q_171 : ((upd nf 30 k) 2).toInt = (nf 2).toInt := pp_uN_ne (by decide)
          have q_172 : ((upd nf 30 k) 30).toInt = k.toInt := pp_uN_eq rfl
          have q_173 : ((upd nf 30 k) 31).toInt = (nf 31).toInt := pp_uN_ne (by decide)
          have q_174 : ((upd nf 30 k) 32).toInt = (nf 32).toInt := pp_uN_ne (by decide)
          have q_175 : ((upd nf 30 k) 33).toInt = (nf 33).toInt := pp_uN_ne (by decide)
          have hI_176 : mI (upd nf 30 k) := mI_hold hI (by decide) (by decide) (by first | decide | omega) (by first | decide | omega) (Or.inr hnh)
          generalize upd nf 30 k = f_168 at hP hD q_169 q_170 q_171 q_172 q_173 q_174 q_175 hI_176
          have hP : va_P (dC, dI) vwCl [(h0, .inr (7, [.ref a0, v1, v2, v3, v4, v5, v6, v7, v8, v9, v10, v11, v12, v13, v14, v15, v16, v17, v18, v19, v20, v21, v22, v23, v24, v25, v26, v27])), (a0, .inl (ac, 38, .inl f_168))] H := hP
          have hD : va_D A [(h0, .inr (7, [.ref a0, v1, v2, v3, v4, v5, v6, v7, v8, v9, v10, v11, v12, v13, v14, v15, v16, v17, v18, v19, v20, v21, v22, v23, v24, v25, v26, v27])), (a0, .inl (ac, 38, .inl f_168))] := hD
          refine lv_aload_n hx hb dX9_holds_50 rfl (lv_at hl 2 rfl) ?_
          refine va_get (D := (dC, dI)) (ci := 7) (v := .ref a0) (C := RX9) (T := TX9) (N := 28) hx hb hts inX9 hown hK hP 0 rfl rfl 0 (by decide) (hts _ (List.mem_of_getElem? (i := 6) rfl)) (fun _ h9 => h9) rfl dX9_holds_51 ?_
          refine lv_bipush (v := 34) hx hb dX9_holds_54 (by decide) ?_
          refine lv_iload_n hx hb dX9_holds_56 rfl (lv_at hl 1 rfl) ?_
          refine lv_iadd hx hb dX9_holds_57 ?_
          refine pp_ti (y := 34) (by decide) ?_
          refine lv_iload_n hx hb dX9_holds_58 rfl (lv_at hl 4 rfl) ?_
          refine va_iast hx hb hK hP hD hS 1 0 rfl rfl (vp_in_nI (n := 34) (by decide) (by decide)) dX9_holds_59 (fun H locs hP hD hS => ?_)
          have hP : va_P (dC, dI) vwCl [(h0, .inr (7, [.ref a0, v1, v2, v3, v4, v5, v6, v7, v8, v9, v10, v11, v12, v13, v14, v15, v16, v17, v18, v19, v20, v21, v22, v23, v24, v25, v26, v27])), (a0, .inl (ac, 38, .inl (upd f_168 34 b)))] H := hP
          have hD : va_D A [(h0, .inr (7, [.ref a0, v1, v2, v3, v4, v5, v6, v7, v8, v9, v10, v11, v12, v13, v14, v15, v16, v17, v18, v19, v20, v21, v22, v23, v24, v25, v26, v27])), (a0, .inl (ac, 38, .inl (upd f_168 34 b)))] := hD
          have q_178 : ((upd f_168 34 b) 0).toInt = (f_168 0).toInt := pp_uN_ne (by decide)
          have q_179 : ((upd f_168 34 b) 1).toInt = (f_168 1).toInt := pp_uN_ne (by decide)
          have q_180 : ((upd f_168 34 b) 2).toInt = (f_168 2).toInt := pp_uN_ne (by decide)
          have q_181 : ((upd f_168 34 b) 30).toInt = (f_168 30).toInt := pp_uN_ne (by decide)
          have q_182 : ((upd f_168 34 b) 31).toInt = (f_168 31).toInt := pp_uN_ne (by decide)
          have q_183 : ((upd f_168 34 b) 32).toInt = (f_168 32).toInt := pp_uN_ne (by decide)
          have q_184 : ((upd f_168 34 b) 33).toInt = (f_168 33).toInt := pp_uN_ne (by decide)
          have hI_185 : mI (upd f_168 34 b) := mI_01 hI_176 (by have := mI_b hI_176; omega) (by have := mI_b hI_176; omega) (by omega) (by omega) (by omega) (by omega)
          generalize upd f_168 34 b = f_177 at hP hD q_178 q_179 q_180 q_181 q_182 q_183 q_184 hI_185
          have hP : va_P (dC, dI) vwCl [(h0, .inr (7, [.ref a0, v1, v2, v3, v4, v5, v6, v7, v8, v9, v10, v11, v12, v13, v14, v15, v16, v17, v18, v19, v20, v21, v22, v23, v24, v25, v26, v27])), (a0, .inl (ac, 38, .inl f_177))] H := hP
          have hD : va_D A [(h0, .inr (7, [.ref a0, v1, v2, v3, v4, v5, v6, v7, v8, v9, v10, v11, v12, v13, v14, v15, v16, v17, v18, v19, v20, v21, v22, v23, v24, v25, v26, v27])), (a0, .inl (ac, 38, .inl f_177))] := hD
          refine lv_iload_n hx hb dX9_holds_60 rfl (lv_at hl 1 rfl) ?_
          have hP9 := hP.sub (ws' := [(h0, .inr (7, [.ref a0, v1, v2, v3, v4, v5, v6, v7, v8, v9, v10, v11, v12, v13, v14, v15, v16, v17, v18, v19, v20, v21, v22, v23, v24, v25, v26, v27])), (a0, .inl (ac, 38, .inl f_177))]) [0, 1] rfl
          have hD9 := hD.sub (ws' := [(h0, .inr (7, [.ref a0, v1, v2, v3, v4, v5, v6, v7, v8, v9, v10, v11, v12, v13, v14, v15, v16, v17, v18, v19, v20, v21, v22, v23, v24, v25, v26, v27])), (a0, .inl (ac, 38, .inl f_177))]) [0, 1] (by decide) rfl
          have hK9 := hK.sub (tys' := [(ac, .int)]) [0] rfl
          exact W.iret (v := (0 : Int32)) hx hb hr (fun t ht hW => ⟨⟨(0 : Int32), (), rfl, (by first | omega | decide | (simp only [fa_lt, fa_le, fa_eq, and_true, true_and, and_false, false_and, not_true_eq_false, not_false_eq_true, li_0, li_1, li_2, li_3, li_4, li_5, li_6, li_7, li_8, li_9, li_10, li_12, li_15, li_16, li_20, li_30, li_34, li_38, li_40, li_63, li_64, li_65, li_78, li_120, li_1000, li_4000, li_10000, li_11077, li_255, li_65535, li_m1, li_m2, li_m1000000001, li_m1000000002, li_m1000000003, li_m1000000004, li_m1000000005, li_m1000000006, li_m1000000007, or_true, true_or, or_false, false_or, implies_true, true_implies, false_implies] <;> omega)), f_177, hI_185, (by first | omega | decide | (simp only [fa_lt, fa_le, fa_eq, and_true, true_and, and_false, false_and, not_true_eq_false, not_false_eq_true, li_0, li_1, li_2, li_3, li_4, li_5, li_6, li_7, li_8, li_9, li_10, li_12, li_15, li_16, li_20, li_30, li_34, li_38, li_40, li_63, li_64, li_65, li_78, li_120, li_1000, li_4000, li_10000, li_11077, li_255, li_65535, li_m1, li_m2, li_m1000000001, li_m1000000002, li_m1000000003, li_m1000000004, li_m1000000005, li_m1000000006, li_m1000000007, or_true, true_or, or_false, false_or, implies_true, true_implies, false_implies] <;> omega)), (by unfold hput; omega), by rw [ht]; exact hP9, va_K.moved hW.alike hK9, hD9⟩, hS.F ht⟩) hS.2.2 dX9_holds_61
      · skip
        have tc_147 : ¬ 0 ≤ n_146.toInt := fun h => c_147 ((fa_le _ _).mpr h)
        refine lv_iload hx hb dX9_holds_27 (lv_at hl 0 rfl) ?_
        refine lv_goto (tgt := 33) hx hb dX9_holds_29 (by decide) ?_
        refine lv_istore_n (lv' := [(3, .int 1), (4, .int 1), (0, .ref h0), (1, .int k), (2, .int b)]) hx hb dX9_holds_33 rfl hl (by decide) rfl (fun ls hl => ?_)
        refine lv_iinc (v := 0) (lv' := [(4, .int 0), (3, .int 1), (0, .ref h0), (1, .int k), (2, .int b)]) hx hb dX9_holds_34 hl (k := 1) rfl (by decide) (by decide) rfl (fun ls hl => ?_)
        refine lv_goto (tgt := 9) hx hb dX9_holds_37 (by decide) ?_
        refine lv_iload hx hb dX9_holds_9 (lv_at hl 0 rfl) ?_
        refine lv_if_lt (tgt := 40) hx hb dX9_holds_11 (by decide) (fun c => absurd c (by decide)) (fun _ => ?_)
        refine lv_aload_n hx hb dX9_holds_14 rfl (lv_at hl 2 rfl) ?_
        refine va_get (D := (dC, dI)) (ci := 7) (v := .ref a0) (C := RX9) (T := TX9) (N := 28) hx hb hts inX9 hown hK hP 0 rfl rfl 0 (by decide) (hts _ (List.mem_of_getElem? (i := 6) rfl)) (fun _ h9 => h9) rfl dX9_holds_15 ?_
        refine lv_bipush (v := 30) hx hb dX9_holds_18 (by decide) ?_
        refine lv_iload hx hb dX9_holds_20 (lv_at hl 0 rfl) ?_
        refine lv_iadd hx hb dX9_holds_22 ?_
        refine pp_ti (y := 30) (by decide) ?_
        refine va_iald hx hb hK hP 1 0 rfl rfl (vp_in_nI (n := 30) (by decide) (by decide)) dX9_holds_23 ?_
        refine pp_ti (y := nf 30) rfl ?_
        refine lv_topi (fun n_186 en_186 => ?_)
        have tn_186 : n_186.toInt = (nf 30).toInt ∧ (-1) ≤ n_186.toInt ∧ n_186.toInt ≤ 8 := mI_r30 hI en_186
        clear en_186
        refine lv_if_ge (tgt := 32) hx hb dX9_holds_24 (by decide) (fun c_187 => ?_) (fun c_187 => ?_)
        · skip
          have tc_187 : 0 ≤ n_186.toInt := (fa_le _ _).mp c_187
          refine lv_iload_n hx hb dX9_holds_32 rfl (lv_at hl 1 rfl) ?_
          refine lv_istore_n (lv' := [(3, .int 1), (4, .int 0), (0, .ref h0), (1, .int k), (2, .int b)]) hx hb dX9_holds_33 rfl hl (by decide) rfl (fun ls hl => ?_)
          refine lv_iinc (v := (-1)) (lv' := [(4, .int (-1)), (3, .int 1), (0, .ref h0), (1, .int k), (2, .int b)]) hx hb dX9_holds_34 hl (k := 1) rfl (by decide) (by decide) rfl (fun ls hl => ?_)
          refine lv_goto (tgt := 9) hx hb dX9_holds_37 (by decide) ?_
          refine lv_iload hx hb dX9_holds_9 (lv_at hl 0 rfl) ?_
          refine lv_if_lt (tgt := 40) hx hb dX9_holds_11 (by decide) (fun _ => ?_) (fun c => absurd (by decide) c)
          refine lv_aload_n hx hb dX9_holds_40 rfl (lv_at hl 2 rfl) ?_
          refine va_get (D := (dC, dI)) (ci := 7) (v := .ref a0) (C := RX9) (T := TX9) (N := 28) hx hb hts inX9 hown hK hP 0 rfl rfl 0 (by decide) (hts _ (List.mem_of_getElem? (i := 6) rfl)) (fun _ h9 => h9) rfl dX9_holds_41 ?_
          refine lv_bipush (v := 30) hx hb dX9_holds_44 (by decide) ?_
          refine lv_iload_n hx hb dX9_holds_46 rfl (lv_at hl 1 rfl) ?_
          refine lv_iadd hx hb dX9_holds_47 ?_
          refine pp_ti (y := 31) (by decide) ?_
          refine lv_iload_n hx hb dX9_holds_48 rfl (lv_at hl 3 rfl) ?_
          refine va_iast hx hb hK hP hD hS 1 0 rfl rfl (vp_in_nI (n := 31) (by decide) (by decide)) dX9_holds_49 (fun H locs hP hD hS => ?_)
          have hP : va_P (dC, dI) vwCl [(h0, .inr (7, [.ref a0, v1, v2, v3, v4, v5, v6, v7, v8, v9, v10, v11, v12, v13, v14, v15, v16, v17, v18, v19, v20, v21, v22, v23, v24, v25, v26, v27])), (a0, .inl (ac, 38, .inl (upd nf 31 k)))] H := hP
          have hD : va_D A [(h0, .inr (7, [.ref a0, v1, v2, v3, v4, v5, v6, v7, v8, v9, v10, v11, v12, v13, v14, v15, v16, v17, v18, v19, v20, v21, v22, v23, v24, v25, v26, v27])), (a0, .inl (ac, 38, .inl (upd nf 31 k)))] := hD
          have q_189 : ((upd nf 31 k) 0).toInt = (nf 0).toInt := pp_uN_ne (by decide)
          have q_190 : ((upd nf 31 k) 1).toInt = (nf 1).toInt := pp_uN_ne (by decide)
          have q_191 : ((upd nf 31 k) 2).toInt = (nf 2).toInt := pp_uN_ne (by decide)
          have q_192 : ((upd nf 31 k) 30).toInt = (nf 30).toInt := pp_uN_ne (by decide)
          have q_193 : ((upd nf 31 k) 31).toInt = k.toInt := pp_uN_eq rfl
          have q_194 : ((upd nf 31 k) 32).toInt = (nf 32).toInt := pp_uN_ne (by decide)
          have q_195 : ((upd nf 31 k) 33).toInt = (nf 33).toInt := pp_uN_ne (by decide)
          have hI_196 : mI (upd nf 31 k) := mI_hold hI (by decide) (by decide) (by first | decide | omega) (by first | decide | omega) (Or.inr hnh)
          generalize upd nf 31 k = f_188 at hP hD q_189 q_190 q_191 q_192 q_193 q_194 q_195 hI_196
          have hP : va_P (dC, dI) vwCl [(h0, .inr (7, [.ref a0, v1, v2, v3, v4, v5, v6, v7, v8, v9, v10, v11, v12, v13, v14, v15, v16, v17, v18, v19, v20, v21, v22, v23, v24, v25, v26, v27])), (a0, .inl (ac, 38, .inl f_188))] H := hP
          have hD : va_D A [(h0, .inr (7, [.ref a0, v1, v2, v3, v4, v5, v6, v7, v8, v9, v10, v11, v12, v13, v14, v15, v16, v17, v18, v19, v20, v21, v22, v23, v24, v25, v26, v27])), (a0, .inl (ac, 38, .inl f_188))] := hD
          refine lv_aload_n hx hb dX9_holds_50 rfl (lv_at hl 2 rfl) ?_
          refine va_get (D := (dC, dI)) (ci := 7) (v := .ref a0) (C := RX9) (T := TX9) (N := 28) hx hb hts inX9 hown hK hP 0 rfl rfl 0 (by decide) (hts _ (List.mem_of_getElem? (i := 6) rfl)) (fun _ h9 => h9) rfl dX9_holds_51 ?_
          refine lv_bipush (v := 34) hx hb dX9_holds_54 (by decide) ?_
          refine lv_iload_n hx hb dX9_holds_56 rfl (lv_at hl 1 rfl) ?_
          refine lv_iadd hx hb dX9_holds_57 ?_
          refine pp_ti (y := 35) (by decide) ?_
          refine lv_iload_n hx hb dX9_holds_58 rfl (lv_at hl 4 rfl) ?_
          refine va_iast hx hb hK hP hD hS 1 0 rfl rfl (vp_in_nI (n := 35) (by decide) (by decide)) dX9_holds_59 (fun H locs hP hD hS => ?_)
          have hP : va_P (dC, dI) vwCl [(h0, .inr (7, [.ref a0, v1, v2, v3, v4, v5, v6, v7, v8, v9, v10, v11, v12, v13, v14, v15, v16, v17, v18, v19, v20, v21, v22, v23, v24, v25, v26, v27])), (a0, .inl (ac, 38, .inl (upd f_188 35 b)))] H := hP
          have hD : va_D A [(h0, .inr (7, [.ref a0, v1, v2, v3, v4, v5, v6, v7, v8, v9, v10, v11, v12, v13, v14, v15, v16, v17, v18, v19, v20, v21, v22, v23, v24, v25, v26, v27])), (a0, .inl (ac, 38, .inl (upd f_188 35 b)))] := hD
          have q_198 : ((upd f_188 35 b) 0).toInt = (f_188 0).toInt := pp_uN_ne (by decide)
          have q_199 : ((upd f_188 35 b) 1).toInt = (f_188 1).toInt := pp_uN_ne (by decide)
          have q_200 : ((upd f_188 35 b) 2).toInt = (f_188 2).toInt := pp_uN_ne (by decide)
          have q_201 : ((upd f_188 35 b) 30).toInt = (f_188 30).toInt := pp_uN_ne (by decide)
          have q_202 : ((upd f_188 35 b) 31).toInt = (f_188 31).toInt := pp_uN_ne (by decide)
          have q_203 : ((upd f_188 35 b) 32).toInt = (f_188 32).toInt := pp_uN_ne (by decide)
          have q_204 : ((upd f_188 35 b) 33).toInt = (f_188 33).toInt := pp_uN_ne (by decide)
          have hI_205 : mI (upd f_188 35 b) := mI_01 hI_196 (by have := mI_b hI_196; omega) (by have := mI_b hI_196; omega) (by omega) (by omega) (by omega) (by omega)
          generalize upd f_188 35 b = f_197 at hP hD q_198 q_199 q_200 q_201 q_202 q_203 q_204 hI_205
          have hP : va_P (dC, dI) vwCl [(h0, .inr (7, [.ref a0, v1, v2, v3, v4, v5, v6, v7, v8, v9, v10, v11, v12, v13, v14, v15, v16, v17, v18, v19, v20, v21, v22, v23, v24, v25, v26, v27])), (a0, .inl (ac, 38, .inl f_197))] H := hP
          have hD : va_D A [(h0, .inr (7, [.ref a0, v1, v2, v3, v4, v5, v6, v7, v8, v9, v10, v11, v12, v13, v14, v15, v16, v17, v18, v19, v20, v21, v22, v23, v24, v25, v26, v27])), (a0, .inl (ac, 38, .inl f_197))] := hD
          refine lv_iload_n hx hb dX9_holds_60 rfl (lv_at hl 1 rfl) ?_
          have hP9 := hP.sub (ws' := [(h0, .inr (7, [.ref a0, v1, v2, v3, v4, v5, v6, v7, v8, v9, v10, v11, v12, v13, v14, v15, v16, v17, v18, v19, v20, v21, v22, v23, v24, v25, v26, v27])), (a0, .inl (ac, 38, .inl f_197))]) [0, 1] rfl
          have hD9 := hD.sub (ws' := [(h0, .inr (7, [.ref a0, v1, v2, v3, v4, v5, v6, v7, v8, v9, v10, v11, v12, v13, v14, v15, v16, v17, v18, v19, v20, v21, v22, v23, v24, v25, v26, v27])), (a0, .inl (ac, 38, .inl f_197))]) [0, 1] (by decide) rfl
          have hK9 := hK.sub (tys' := [(ac, .int)]) [0] rfl
          exact W.iret (v := (1 : Int32)) hx hb hr (fun t ht hW => ⟨⟨(1 : Int32), (), rfl, (by first | omega | decide | (simp only [fa_lt, fa_le, fa_eq, and_true, true_and, and_false, false_and, not_true_eq_false, not_false_eq_true, li_0, li_1, li_2, li_3, li_4, li_5, li_6, li_7, li_8, li_9, li_10, li_12, li_15, li_16, li_20, li_30, li_34, li_38, li_40, li_63, li_64, li_65, li_78, li_120, li_1000, li_4000, li_10000, li_11077, li_255, li_65535, li_m1, li_m2, li_m1000000001, li_m1000000002, li_m1000000003, li_m1000000004, li_m1000000005, li_m1000000006, li_m1000000007, or_true, true_or, or_false, false_or, implies_true, true_implies, false_implies] <;> omega)), f_197, hI_205, (by first | omega | decide | (simp only [fa_lt, fa_le, fa_eq, and_true, true_and, and_false, false_and, not_true_eq_false, not_false_eq_true, li_0, li_1, li_2, li_3, li_4, li_5, li_6, li_7, li_8, li_9, li_10, li_12, li_15, li_16, li_20, li_30, li_34, li_38, li_40, li_63, li_64, li_65, li_78, li_120, li_1000, li_4000, li_10000, li_11077, li_255, li_65535, li_m1, li_m2, li_m1000000001, li_m1000000002, li_m1000000003, li_m1000000004, li_m1000000005, li_m1000000006, li_m1000000007, or_true, true_or, or_false, false_or, implies_true, true_implies, false_implies] <;> omega)), (by unfold hput; omega), by rw [ht]; exact hP9, va_K.moved hW.alike hK9, hD9⟩, hS.F ht⟩) hS.2.2 dX9_holds_61
        · skip
          have tc_187 : ¬ 0 ≤ n_186.toInt := fun h => c_187 ((fa_le _ _).mpr h)
          refine lv_iload hx hb dX9_holds_27 (lv_at hl 0 rfl) ?_
          refine lv_goto (tgt := 33) hx hb dX9_holds_29 (by decide) ?_
          refine lv_istore_n (lv' := [(3, .int 0), (4, .int 0), (0, .ref h0), (1, .int k), (2, .int b)]) hx hb dX9_holds_33 rfl hl (by decide) rfl (fun ls hl => ?_)
          refine lv_iinc (v := (-1)) (lv' := [(4, .int (-1)), (3, .int 0), (0, .ref h0), (1, .int k), (2, .int b)]) hx hb dX9_holds_34 hl (k := 1) rfl (by decide) (by decide) rfl (fun ls hl => ?_)
          refine lv_goto (tgt := 9) hx hb dX9_holds_37 (by decide) ?_
          refine lv_iload hx hb dX9_holds_9 (lv_at hl 0 rfl) ?_
          refine lv_if_lt (tgt := 40) hx hb dX9_holds_11 (by decide) (fun _ => ?_) (fun c => absurd (by decide) c)
          refine lv_aload_n hx hb dX9_holds_40 rfl (lv_at hl 2 rfl) ?_
          refine va_get (D := (dC, dI)) (ci := 7) (v := .ref a0) (C := RX9) (T := TX9) (N := 28) hx hb hts inX9 hown hK hP 0 rfl rfl 0 (by decide) (hts _ (List.mem_of_getElem? (i := 6) rfl)) (fun _ h9 => h9) rfl dX9_holds_41 ?_
          refine lv_bipush (v := 30) hx hb dX9_holds_44 (by decide) ?_
          refine lv_iload_n hx hb dX9_holds_46 rfl (lv_at hl 1 rfl) ?_
          refine lv_iadd hx hb dX9_holds_47 ?_
          refine pp_ti (y := 30) (by decide) ?_
          refine lv_iload_n hx hb dX9_holds_48 rfl (lv_at hl 3 rfl) ?_
          refine va_iast hx hb hK hP hD hS 1 0 rfl rfl (vp_in_nI (n := 30) (by decide) (by decide)) dX9_holds_49 (fun H locs hP hD hS => ?_)
          have hP : va_P (dC, dI) vwCl [(h0, .inr (7, [.ref a0, v1, v2, v3, v4, v5, v6, v7, v8, v9, v10, v11, v12, v13, v14, v15, v16, v17, v18, v19, v20, v21, v22, v23, v24, v25, v26, v27])), (a0, .inl (ac, 38, .inl (upd nf 30 k)))] H := hP
          have hD : va_D A [(h0, .inr (7, [.ref a0, v1, v2, v3, v4, v5, v6, v7, v8, v9, v10, v11, v12, v13, v14, v15, v16, v17, v18, v19, v20, v21, v22, v23, v24, v25, v26, v27])), (a0, .inl (ac, 38, .inl (upd nf 30 k)))] := hD
          have q_207 : ((upd nf 30 k) 0).toInt = (nf 0).toInt := pp_uN_ne (by decide)
          have q_208 : ((upd nf 30 k) 1).toInt = (nf 1).toInt := pp_uN_ne (by decide)
          have q_209 : ((upd nf 30 k) 2).toInt = (nf 2).toInt := pp_uN_ne (by decide)
          have q_210 : ((upd nf 30 k) 30).toInt = k.toInt := pp_uN_eq rfl
          have q_211 : ((upd nf 30 k) 31).toInt = (nf 31).toInt := pp_uN_ne (by decide)
          have q_212 : ((upd nf 30 k) 32).toInt = (nf 32).toInt := pp_uN_ne (by decide)
          have q_213 : ((upd nf 30 k) 33).toInt = (nf 33).toInt := pp_uN_ne (by decide)
          have hI_214 : mI (upd nf 30 k) := mI_hold hI (by decide) (by decide) (by first | decide | omega) (by first | decide | omega) (Or.inr hnh)
          generalize upd nf 30 k = f_206 at hP hD q_207 q_208 q_209 q_210 q_211 q_212 q_213 hI_214
          have hP : va_P (dC, dI) vwCl [(h0, .inr (7, [.ref a0, v1, v2, v3, v4, v5, v6, v7, v8, v9, v10, v11, v12, v13, v14, v15, v16, v17, v18, v19, v20, v21, v22, v23, v24, v25, v26, v27])), (a0, .inl (ac, 38, .inl f_206))] H := hP
          have hD : va_D A [(h0, .inr (7, [.ref a0, v1, v2, v3, v4, v5, v6, v7, v8, v9, v10, v11, v12, v13, v14, v15, v16, v17, v18, v19, v20, v21, v22, v23, v24, v25, v26, v27])), (a0, .inl (ac, 38, .inl f_206))] := hD
          refine lv_aload_n hx hb dX9_holds_50 rfl (lv_at hl 2 rfl) ?_
          refine va_get (D := (dC, dI)) (ci := 7) (v := .ref a0) (C := RX9) (T := TX9) (N := 28) hx hb hts inX9 hown hK hP 0 rfl rfl 0 (by decide) (hts _ (List.mem_of_getElem? (i := 6) rfl)) (fun _ h9 => h9) rfl dX9_holds_51 ?_
          refine lv_bipush (v := 34) hx hb dX9_holds_54 (by decide) ?_
          refine lv_iload_n hx hb dX9_holds_56 rfl (lv_at hl 1 rfl) ?_
          refine lv_iadd hx hb dX9_holds_57 ?_
          refine pp_ti (y := 34) (by decide) ?_
          refine lv_iload_n hx hb dX9_holds_58 rfl (lv_at hl 4 rfl) ?_
          refine va_iast hx hb hK hP hD hS 1 0 rfl rfl (vp_in_nI (n := 34) (by decide) (by decide)) dX9_holds_59 (fun H locs hP hD hS => ?_)
          have hP : va_P (dC, dI) vwCl [(h0, .inr (7, [.ref a0, v1, v2, v3, v4, v5, v6, v7, v8, v9, v10, v11, v12, v13, v14, v15, v16, v17, v18, v19, v20, v21, v22, v23, v24, v25, v26, v27])), (a0, .inl (ac, 38, .inl (upd f_206 34 b)))] H := hP
          have hD : va_D A [(h0, .inr (7, [.ref a0, v1, v2, v3, v4, v5, v6, v7, v8, v9, v10, v11, v12, v13, v14, v15, v16, v17, v18, v19, v20, v21, v22, v23, v24, v25, v26, v27])), (a0, .inl (ac, 38, .inl (upd f_206 34 b)))] := hD
          have q_216 : ((upd f_206 34 b) 0).toInt = (f_206 0).toInt := pp_uN_ne (by decide)
          have q_217 : ((upd f_206 34 b) 1).toInt = (f_206 1).toInt := pp_uN_ne (by decide)
          have q_218 : ((upd f_206 34 b) 2).toInt = (f_206 2).toInt := pp_uN_ne (by decide)
          have q_219 : ((upd f_206 34 b) 30).toInt = (f_206 30).toInt := pp_uN_ne (by decide)
          have q_220 : ((upd f_206 34 b) 31).toInt = (f_206 31).toInt := pp_uN_ne (by decide)
          have q_221 : ((upd f_206 34 b) 32).toInt = (f_206 32).toInt := pp_uN_ne (by decide)
          have q_222 : ((upd f_206 34 b) 33).toInt = (f_206 33).toInt := pp_uN_ne (by decide)
          have hI_223 : mI (upd f_206 34 b) := mI_01 hI_214 (by have := mI_b hI_214; omega) (by have := mI_b hI_214; omega) (by omega) (by omega) (by omega) (by omega)
          generalize upd f_206 34 b = f_215 at hP hD q_216 q_217 q_218 q_219 q_220 q_221 q_222 hI_223
          have hP : va_P (dC, dI) vwCl [(h0, .inr (7, [.ref a0, v1, v2, v3, v4, v5, v6, v7, v8, v9, v10, v11, v12, v13, v14, v15, v16, v17, v18, v19, v20, v21, v22, v23, v24, v25, v26, v27])), (a0, .inl (ac, 38, .inl f_215))] H := hP
          have hD : va_D A [(h0, .inr (7, [.ref a0, v1, v2, v3, v4, v5, v6, v7, v8, v9, v10, v11, v12, v13, v14, v15, v16, v17, v18, v19, v20, v21, v22, v23, v24, v25, v26, v27])), (a0, .inl (ac, 38, .inl f_215))] := hD
          refine lv_iload_n hx hb dX9_holds_60 rfl (lv_at hl 1 rfl) ?_
          have hP9 := hP.sub (ws' := [(h0, .inr (7, [.ref a0, v1, v2, v3, v4, v5, v6, v7, v8, v9, v10, v11, v12, v13, v14, v15, v16, v17, v18, v19, v20, v21, v22, v23, v24, v25, v26, v27])), (a0, .inl (ac, 38, .inl f_215))]) [0, 1] rfl
          have hD9 := hD.sub (ws' := [(h0, .inr (7, [.ref a0, v1, v2, v3, v4, v5, v6, v7, v8, v9, v10, v11, v12, v13, v14, v15, v16, v17, v18, v19, v20, v21, v22, v23, v24, v25, v26, v27])), (a0, .inl (ac, 38, .inl f_215))]) [0, 1] (by decide) rfl
          have hK9 := hK.sub (tys' := [(ac, .int)]) [0] rfl
          exact W.iret (v := (0 : Int32)) hx hb hr (fun t ht hW => ⟨⟨(0 : Int32), (), rfl, (by first | omega | decide | (simp only [fa_lt, fa_le, fa_eq, and_true, true_and, and_false, false_and, not_true_eq_false, not_false_eq_true, li_0, li_1, li_2, li_3, li_4, li_5, li_6, li_7, li_8, li_9, li_10, li_12, li_15, li_16, li_20, li_30, li_34, li_38, li_40, li_63, li_64, li_65, li_78, li_120, li_1000, li_4000, li_10000, li_11077, li_255, li_65535, li_m1, li_m2, li_m1000000001, li_m1000000002, li_m1000000003, li_m1000000004, li_m1000000005, li_m1000000006, li_m1000000007, or_true, true_or, or_false, false_or, implies_true, true_implies, false_implies] <;> omega)), f_215, hI_223, (by first | omega | decide | (simp only [fa_lt, fa_le, fa_eq, and_true, true_and, and_false, false_and, not_true_eq_false, not_false_eq_true, li_0, li_1, li_2, li_3, li_4, li_5, li_6, li_7, li_8, li_9, li_10, li_12, li_15, li_16, li_20, li_30, li_34, li_38, li_40, li_63, li_64, li_65, li_78, li_120, li_1000, li_4000, li_10000, li_11077, li_255, li_65535, li_m1, li_m2, li_m1000000001, li_m1000000002, li_m1000000003, li_m1000000004, li_m1000000005, li_m1000000006, li_m1000000007, or_true, true_or, or_false, false_or, implies_true, true_implies, false_implies] <;> omega)), (by unfold hput; omega), by rw [ht]; exact hP9, va_K.moved hW.alike hK9, hD9⟩, hS.F ht⟩) hS.2.2 dX9_holds_61
    · skip
      have tc_145 : ¬ 0 ≤ n_144.toInt := fun h => c_145 ((fa_le _ _).mpr h)
      refine lv_iload hx hb dX9_holds_27 (lv_at hl 0 rfl) ?_
      refine lv_goto (tgt := 33) hx hb dX9_holds_29 (by decide) ?_
      refine lv_istore_n (lv' := [(3, .int 2), (4, .int 2), (0, .ref h0), (1, .int k), (2, .int b)]) hx hb dX9_holds_33 rfl hl (by decide) rfl (fun ls hl => ?_)
      refine lv_iinc (v := 1) (lv' := [(4, .int 1), (3, .int 2), (0, .ref h0), (1, .int k), (2, .int b)]) hx hb dX9_holds_34 hl (k := 1) rfl (by decide) (by decide) rfl (fun ls hl => ?_)
      refine lv_goto (tgt := 9) hx hb dX9_holds_37 (by decide) ?_
      refine lv_iload hx hb dX9_holds_9 (lv_at hl 0 rfl) ?_
      refine lv_if_lt (tgt := 40) hx hb dX9_holds_11 (by decide) (fun c => absurd c (by decide)) (fun _ => ?_)
      refine lv_aload_n hx hb dX9_holds_14 rfl (lv_at hl 2 rfl) ?_
      refine va_get (D := (dC, dI)) (ci := 7) (v := .ref a0) (C := RX9) (T := TX9) (N := 28) hx hb hts inX9 hown hK hP 0 rfl rfl 0 (by decide) (hts _ (List.mem_of_getElem? (i := 6) rfl)) (fun _ h9 => h9) rfl dX9_holds_15 ?_
      refine lv_bipush (v := 30) hx hb dX9_holds_18 (by decide) ?_
      refine lv_iload hx hb dX9_holds_20 (lv_at hl 0 rfl) ?_
      refine lv_iadd hx hb dX9_holds_22 ?_
      refine pp_ti (y := 31) (by decide) ?_
      refine va_iald hx hb hK hP 1 0 rfl rfl (vp_in_nI (n := 31) (by decide) (by decide)) dX9_holds_23 ?_
      refine pp_ti (y := nf 31) rfl ?_
      refine lv_topi (fun n_224 en_224 => ?_)
      have tn_224 : n_224.toInt = (nf 31).toInt ∧ (-1) ≤ n_224.toInt ∧ n_224.toInt ≤ 8 := mI_r31 hI en_224
      clear en_224
      refine lv_if_ge (tgt := 32) hx hb dX9_holds_24 (by decide) (fun c_225 => ?_) (fun c_225 => ?_)
      · skip
        have tc_225 : 0 ≤ n_224.toInt := (fa_le _ _).mp c_225
        refine lv_iload_n hx hb dX9_holds_32 rfl (lv_at hl 1 rfl) ?_
        refine lv_istore_n (lv' := [(3, .int 2), (4, .int 1), (0, .ref h0), (1, .int k), (2, .int b)]) hx hb dX9_holds_33 rfl hl (by decide) rfl (fun ls hl => ?_)
        refine lv_iinc (v := 0) (lv' := [(4, .int 0), (3, .int 2), (0, .ref h0), (1, .int k), (2, .int b)]) hx hb dX9_holds_34 hl (k := 1) rfl (by decide) (by decide) rfl (fun ls hl => ?_)
        refine lv_goto (tgt := 9) hx hb dX9_holds_37 (by decide) ?_
        refine lv_iload hx hb dX9_holds_9 (lv_at hl 0 rfl) ?_
        refine lv_if_lt (tgt := 40) hx hb dX9_holds_11 (by decide) (fun c => absurd c (by decide)) (fun _ => ?_)
        refine lv_aload_n hx hb dX9_holds_14 rfl (lv_at hl 2 rfl) ?_
        refine va_get (D := (dC, dI)) (ci := 7) (v := .ref a0) (C := RX9) (T := TX9) (N := 28) hx hb hts inX9 hown hK hP 0 rfl rfl 0 (by decide) (hts _ (List.mem_of_getElem? (i := 6) rfl)) (fun _ h9 => h9) rfl dX9_holds_15 ?_
        refine lv_bipush (v := 30) hx hb dX9_holds_18 (by decide) ?_
        refine lv_iload hx hb dX9_holds_20 (lv_at hl 0 rfl) ?_
        refine lv_iadd hx hb dX9_holds_22 ?_
        refine pp_ti (y := 30) (by decide) ?_
        refine va_iald hx hb hK hP 1 0 rfl rfl (vp_in_nI (n := 30) (by decide) (by decide)) dX9_holds_23 ?_
        refine pp_ti (y := nf 30) rfl ?_
        refine lv_topi (fun n_226 en_226 => ?_)
        have tn_226 : n_226.toInt = (nf 30).toInt ∧ (-1) ≤ n_226.toInt ∧ n_226.toInt ≤ 8 := mI_r30 hI en_226
        clear en_226
        refine lv_if_ge (tgt := 32) hx hb dX9_holds_24 (by decide) (fun c_227 => ?_) (fun c_227 => ?_)
        · skip
          have tc_227 : 0 ≤ n_226.toInt := (fa_le _ _).mp c_227
          refine lv_iload_n hx hb dX9_holds_32 rfl (lv_at hl 1 rfl) ?_
          refine lv_istore_n (lv' := [(3, .int 2), (4, .int 0), (0, .ref h0), (1, .int k), (2, .int b)]) hx hb dX9_holds_33 rfl hl (by decide) rfl (fun ls hl => ?_)
          refine lv_iinc (v := (-1)) (lv' := [(4, .int (-1)), (3, .int 2), (0, .ref h0), (1, .int k), (2, .int b)]) hx hb dX9_holds_34 hl (k := 1) rfl (by decide) (by decide) rfl (fun ls hl => ?_)
          refine lv_goto (tgt := 9) hx hb dX9_holds_37 (by decide) ?_
          refine lv_iload hx hb dX9_holds_9 (lv_at hl 0 rfl) ?_
          refine lv_if_lt (tgt := 40) hx hb dX9_holds_11 (by decide) (fun _ => ?_) (fun c => absurd (by decide) c)
          refine lv_aload_n hx hb dX9_holds_40 rfl (lv_at hl 2 rfl) ?_
          refine va_get (D := (dC, dI)) (ci := 7) (v := .ref a0) (C := RX9) (T := TX9) (N := 28) hx hb hts inX9 hown hK hP 0 rfl rfl 0 (by decide) (hts _ (List.mem_of_getElem? (i := 6) rfl)) (fun _ h9 => h9) rfl dX9_holds_41 ?_
          refine lv_bipush (v := 30) hx hb dX9_holds_44 (by decide) ?_
          refine lv_iload_n hx hb dX9_holds_46 rfl (lv_at hl 1 rfl) ?_
          refine lv_iadd hx hb dX9_holds_47 ?_
          refine pp_ti (y := 32) (by decide) ?_
          refine lv_iload_n hx hb dX9_holds_48 rfl (lv_at hl 3 rfl) ?_
          refine va_iast hx hb hK hP hD hS 1 0 rfl rfl (vp_in_nI (n := 32) (by decide) (by decide)) dX9_holds_49 (fun H locs hP hD hS => ?_)
          have hP : va_P (dC, dI) vwCl [(h0, .inr (7, [.ref a0, v1, v2, v3, v4, v5, v6, v7, v8, v9, v10, v11, v12, v13, v14, v15, v16, v17, v18, v19, v20, v21, v22, v23, v24, v25, v26, v27])), (a0, .inl (ac, 38, .inl (upd nf 32 k)))] H := hP
          have hD : va_D A [(h0, .inr (7, [.ref a0, v1, v2, v3, v4, v5, v6, v7, v8, v9, v10, v11, v12, v13, v14, v15, v16, v17, v18, v19, v20, v21, v22, v23, v24, v25, v26, v27])), (a0, .inl (ac, 38, .inl (upd nf 32 k)))] := hD
          have q_229 : ((upd nf 32 k) 0).toInt = (nf 0).toInt := pp_uN_ne (by decide)
          have q_230 : ((upd nf 32 k) 1).toInt = (nf 1).toInt := pp_uN_ne (by decide)
          have q_231 : ((upd nf 32 k) 2).toInt = (nf 2).toInt := pp_uN_ne (by decide)
          have q_232 : ((upd nf 32 k) 30).toInt = (nf 30).toInt := pp_uN_ne (by decide)
          have q_233 : ((upd nf 32 k) 31).toInt = (nf 31).toInt := pp_uN_ne (by decide)
          have q_234 : ((upd nf 32 k) 32).toInt = k.toInt := pp_uN_eq rfl
          have q_235 : ((upd nf 32 k) 33).toInt = (nf 33).toInt := pp_uN_ne (by decide)
          have hI_236 : mI (upd nf 32 k) := mI_hold hI (by decide) (by decide) (by first | decide | omega) (by first | decide | omega) (Or.inr hnh)
          generalize upd nf 32 k = f_228 at hP hD q_229 q_230 q_231 q_232 q_233 q_234 q_235 hI_236
          have hP : va_P (dC, dI) vwCl [(h0, .inr (7, [.ref a0, v1, v2, v3, v4, v5, v6, v7, v8, v9, v10, v11, v12, v13, v14, v15, v16, v17, v18, v19, v20, v21, v22, v23, v24, v25, v26, v27])), (a0, .inl (ac, 38, .inl f_228))] H := hP
          have hD : va_D A [(h0, .inr (7, [.ref a0, v1, v2, v3, v4, v5, v6, v7, v8, v9, v10, v11, v12, v13, v14, v15, v16, v17, v18, v19, v20, v21, v22, v23, v24, v25, v26, v27])), (a0, .inl (ac, 38, .inl f_228))] := hD
          refine lv_aload_n hx hb dX9_holds_50 rfl (lv_at hl 2 rfl) ?_
          refine va_get (D := (dC, dI)) (ci := 7) (v := .ref a0) (C := RX9) (T := TX9) (N := 28) hx hb hts inX9 hown hK hP 0 rfl rfl 0 (by decide) (hts _ (List.mem_of_getElem? (i := 6) rfl)) (fun _ h9 => h9) rfl dX9_holds_51 ?_
          refine lv_bipush (v := 34) hx hb dX9_holds_54 (by decide) ?_
          refine lv_iload_n hx hb dX9_holds_56 rfl (lv_at hl 1 rfl) ?_
          refine lv_iadd hx hb dX9_holds_57 ?_
          refine pp_ti (y := 36) (by decide) ?_
          refine lv_iload_n hx hb dX9_holds_58 rfl (lv_at hl 4 rfl) ?_
          refine va_iast hx hb hK hP hD hS 1 0 rfl rfl (vp_in_nI (n := 36) (by decide) (by decide)) dX9_holds_59 (fun H locs hP hD hS => ?_)
          have hP : va_P (dC, dI) vwCl [(h0, .inr (7, [.ref a0, v1, v2, v3, v4, v5, v6, v7, v8, v9, v10, v11, v12, v13, v14, v15, v16, v17, v18, v19, v20, v21, v22, v23, v24, v25, v26, v27])), (a0, .inl (ac, 38, .inl (upd f_228 36 b)))] H := hP
          have hD : va_D A [(h0, .inr (7, [.ref a0, v1, v2, v3, v4, v5, v6, v7, v8, v9, v10, v11, v12, v13, v14, v15, v16, v17, v18, v19, v20, v21, v22, v23, v24, v25, v26, v27])), (a0, .inl (ac, 38, .inl (upd f_228 36 b)))] := hD
          have q_238 : ((upd f_228 36 b) 0).toInt = (f_228 0).toInt := pp_uN_ne (by decide)
          have q_239 : ((upd f_228 36 b) 1).toInt = (f_228 1).toInt := pp_uN_ne (by decide)
          have q_240 : ((upd f_228 36 b) 2).toInt = (f_228 2).toInt := pp_uN_ne (by decide)
          have q_241 : ((upd f_228 36 b) 30).toInt = (f_228 30).toInt := pp_uN_ne (by decide)
          have q_242 : ((upd f_228 36 b) 31).toInt = (f_228 31).toInt := pp_uN_ne (by decide)
          have q_243 : ((upd f_228 36 b) 32).toInt = (f_228 32).toInt := pp_uN_ne (by decide)
          have q_244 : ((upd f_228 36 b) 33).toInt = (f_228 33).toInt := pp_uN_ne (by decide)
          have hI_245 : mI (upd f_228 36 b) := mI_01 hI_236 (by have := mI_b hI_236; omega) (by have := mI_b hI_236; omega) (by omega) (by omega) (by omega) (by omega)
          generalize upd f_228 36 b = f_237 at hP hD q_238 q_239 q_240 q_241 q_242 q_243 q_244 hI_245
          have hP : va_P (dC, dI) vwCl [(h0, .inr (7, [.ref a0, v1, v2, v3, v4, v5, v6, v7, v8, v9, v10, v11, v12, v13, v14, v15, v16, v17, v18, v19, v20, v21, v22, v23, v24, v25, v26, v27])), (a0, .inl (ac, 38, .inl f_237))] H := hP
          have hD : va_D A [(h0, .inr (7, [.ref a0, v1, v2, v3, v4, v5, v6, v7, v8, v9, v10, v11, v12, v13, v14, v15, v16, v17, v18, v19, v20, v21, v22, v23, v24, v25, v26, v27])), (a0, .inl (ac, 38, .inl f_237))] := hD
          refine lv_iload_n hx hb dX9_holds_60 rfl (lv_at hl 1 rfl) ?_
          have hP9 := hP.sub (ws' := [(h0, .inr (7, [.ref a0, v1, v2, v3, v4, v5, v6, v7, v8, v9, v10, v11, v12, v13, v14, v15, v16, v17, v18, v19, v20, v21, v22, v23, v24, v25, v26, v27])), (a0, .inl (ac, 38, .inl f_237))]) [0, 1] rfl
          have hD9 := hD.sub (ws' := [(h0, .inr (7, [.ref a0, v1, v2, v3, v4, v5, v6, v7, v8, v9, v10, v11, v12, v13, v14, v15, v16, v17, v18, v19, v20, v21, v22, v23, v24, v25, v26, v27])), (a0, .inl (ac, 38, .inl f_237))]) [0, 1] (by decide) rfl
          have hK9 := hK.sub (tys' := [(ac, .int)]) [0] rfl
          exact W.iret (v := (2 : Int32)) hx hb hr (fun t ht hW => ⟨⟨(2 : Int32), (), rfl, (by first | omega | decide | (simp only [fa_lt, fa_le, fa_eq, and_true, true_and, and_false, false_and, not_true_eq_false, not_false_eq_true, li_0, li_1, li_2, li_3, li_4, li_5, li_6, li_7, li_8, li_9, li_10, li_12, li_15, li_16, li_20, li_30, li_34, li_38, li_40, li_63, li_64, li_65, li_78, li_120, li_1000, li_4000, li_10000, li_11077, li_255, li_65535, li_m1, li_m2, li_m1000000001, li_m1000000002, li_m1000000003, li_m1000000004, li_m1000000005, li_m1000000006, li_m1000000007, or_true, true_or, or_false, false_or, implies_true, true_implies, false_implies] <;> omega)), f_237, hI_245, (by first | omega | decide | (simp only [fa_lt, fa_le, fa_eq, and_true, true_and, and_false, false_and, not_true_eq_false, not_false_eq_true, li_0, li_1, li_2, li_3, li_4, li_5, li_6, li_7, li_8, li_9, li_10, li_12, li_15, li_16, li_20, li_30, li_34, li_38, li_40, li_63, li_64, li_65, li_78, li_120, li_1000, li_4000, li_10000, li_11077, li_255, li_65535, li_m1, li_m2, li_m1000000001, li_m1000000002, li_m1000000003, li_m1000000004, li_m1000000005, li_m1000000006, li_m1000000007, or_true, true_or, or_false, false_or, implies_true, true_implies, false_implies] <;> omega)), (by unfold hput; omega), by rw [ht]; exact hP9, va_K.moved hW.alike hK9, hD9⟩, hS.F ht⟩) hS.2.2 dX9_holds_61
        · skip
          have tc_227 : ¬ 0 ≤ n_226.toInt := fun h => c_227 ((fa_le _ _).mpr h)
          refine lv_iload hx hb dX9_holds_27 (lv_at hl 0 rfl) ?_
          refine lv_goto (tgt := 33) hx hb dX9_holds_29 (by decide) ?_
          refine lv_istore_n (lv' := [(3, .int 0), (4, .int 0), (0, .ref h0), (1, .int k), (2, .int b)]) hx hb dX9_holds_33 rfl hl (by decide) rfl (fun ls hl => ?_)
          refine lv_iinc (v := (-1)) (lv' := [(4, .int (-1)), (3, .int 0), (0, .ref h0), (1, .int k), (2, .int b)]) hx hb dX9_holds_34 hl (k := 1) rfl (by decide) (by decide) rfl (fun ls hl => ?_)
          refine lv_goto (tgt := 9) hx hb dX9_holds_37 (by decide) ?_
          refine lv_iload hx hb dX9_holds_9 (lv_at hl 0 rfl) ?_
          refine lv_if_lt (tgt := 40) hx hb dX9_holds_11 (by decide) (fun _ => ?_) (fun c => absurd (by decide) c)
          refine lv_aload_n hx hb dX9_holds_40 rfl (lv_at hl 2 rfl) ?_
          refine va_get (D := (dC, dI)) (ci := 7) (v := .ref a0) (C := RX9) (T := TX9) (N := 28) hx hb hts inX9 hown hK hP 0 rfl rfl 0 (by decide) (hts _ (List.mem_of_getElem? (i := 6) rfl)) (fun _ h9 => h9) rfl dX9_holds_41 ?_
          refine lv_bipush (v := 30) hx hb dX9_holds_44 (by decide) ?_
          refine lv_iload_n hx hb dX9_holds_46 rfl (lv_at hl 1 rfl) ?_
          refine lv_iadd hx hb dX9_holds_47 ?_
          refine pp_ti (y := 30) (by decide) ?_
          refine lv_iload_n hx hb dX9_holds_48 rfl (lv_at hl 3 rfl) ?_
          refine va_iast hx hb hK hP hD hS 1 0 rfl rfl (vp_in_nI (n := 30) (by decide) (by decide)) dX9_holds_49 (fun H locs hP hD hS => ?_)
          have hP : va_P (dC, dI) vwCl [(h0, .inr (7, [.ref a0, v1, v2, v3, v4, v5, v6, v7, v8, v9, v10, v11, v12, v13, v14, v15, v16, v17, v18, v19, v20, v21, v22, v23, v24, v25, v26, v27])), (a0, .inl (ac, 38, .inl (upd nf 30 k)))] H := hP
          have hD : va_D A [(h0, .inr (7, [.ref a0, v1, v2, v3, v4, v5, v6, v7, v8, v9, v10, v11, v12, v13, v14, v15, v16, v17, v18, v19, v20, v21, v22, v23, v24, v25, v26, v27])), (a0, .inl (ac, 38, .inl (upd nf 30 k)))] := hD
          have q_247 : ((upd nf 30 k) 0).toInt = (nf 0).toInt := pp_uN_ne (by decide)
          have q_248 : ((upd nf 30 k) 1).toInt = (nf 1).toInt := pp_uN_ne (by decide)
          have q_249 : ((upd nf 30 k) 2).toInt = (nf 2).toInt := pp_uN_ne (by decide)
          have q_250 : ((upd nf 30 k) 30).toInt = k.toInt := pp_uN_eq rfl
          have q_251 : ((upd nf 30 k) 31).toInt = (nf 31).toInt := pp_uN_ne (by decide)
          have q_252 : ((upd nf 30 k) 32).toInt = (nf 32).toInt := pp_uN_ne (by decide)
          have q_253 : ((upd nf 30 k) 33).toInt = (nf 33).toInt := pp_uN_ne (by decide)
          have hI_254 : mI (upd nf 30 k) := mI_hold hI (by decide) (by decide) (by first | decide | omega) (by first | decide | omega) (Or.inr hnh)
          generalize upd nf 30 k = f_246 at hP hD q_247 q_248 q_249 q_250 q_251 q_252 q_253 hI_254
          have hP : va_P (dC, dI) vwCl [(h0, .inr (7, [.ref a0, v1, v2, v3, v4, v5, v6, v7, v8, v9, v10, v11, v12, v13, v14, v15, v16, v17, v18, v19, v20, v21, v22, v23, v24, v25, v26, v27])), (a0, .inl (ac, 38, .inl f_246))] H := hP
          have hD : va_D A [(h0, .inr (7, [.ref a0, v1, v2, v3, v4, v5, v6, v7, v8, v9, v10, v11, v12, v13, v14, v15, v16, v17, v18, v19, v20, v21, v22, v23, v24, v25, v26, v27])), (a0, .inl (ac, 38, .inl f_246))] := hD
          refine lv_aload_n hx hb dX9_holds_50 rfl (lv_at hl 2 rfl) ?_
          refine va_get (D := (dC, dI)) (ci := 7) (v := .ref a0) (C := RX9) (T := TX9) (N := 28) hx hb hts inX9 hown hK hP 0 rfl rfl 0 (by decide) (hts _ (List.mem_of_getElem? (i := 6) rfl)) (fun _ h9 => h9) rfl dX9_holds_51 ?_
          refine lv_bipush (v := 34) hx hb dX9_holds_54 (by decide) ?_
          refine lv_iload_n hx hb dX9_holds_56 rfl (lv_at hl 1 rfl) ?_
          refine lv_iadd hx hb dX9_holds_57 ?_
          refine pp_ti (y := 34) (by decide) ?_
          refine lv_iload_n hx hb dX9_holds_58 rfl (lv_at hl 4 rfl) ?_
          refine va_iast hx hb hK hP hD hS 1 0 rfl rfl (vp_in_nI (n := 34) (by decide) (by decide)) dX9_holds_59 (fun H locs hP hD hS => ?_)
          have hP : va_P (dC, dI) vwCl [(h0, .inr (7, [.ref a0, v1, v2, v3, v4, v5, v6, v7, v8, v9, v10, v11, v12, v13, v14, v15, v16, v17, v18, v19, v20, v21, v22, v23, v24, v25, v26, v27])), (a0, .inl (ac, 38, .inl (upd f_246 34 b)))] H := hP
          have hD : va_D A [(h0, .inr (7, [.ref a0, v1, v2, v3, v4, v5, v6, v7, v8, v9, v10, v11, v12, v13, v14, v15, v16, v17, v18, v19, v20, v21, v22, v23, v24, v25, v26, v27])), (a0, .inl (ac, 38, .inl (upd f_246 34 b)))] := hD
          have q_256 : ((upd f_246 34 b) 0).toInt = (f_246 0).toInt := pp_uN_ne (by decide)
          have q_257 : ((upd f_246 34 b) 1).toInt = (f_246 1).toInt := pp_uN_ne (by decide)
          have q_258 : ((upd f_246 34 b) 2).toInt = (f_246 2).toInt := pp_uN_ne (by decide)
          have q_259 : ((upd f_246 34 b) 30).toInt = (f_246 30).toInt := pp_uN_ne (by decide)
          have q_260 : ((upd f_246 34 b) 31).toInt = (f_246 31).toInt := pp_uN_ne (by decide)
          have q_261 : ((upd f_246 34 b) 32).toInt = (f_246 32).toInt := pp_uN_ne (by decide)
          have q_262 : ((upd f_246 34 b) 33).toInt = (f_246 33).toInt := pp_uN_ne (by decide)
          have hI_263 : mI (upd f_246 34 b) := mI_01 hI_254 (by have := mI_b hI_254; omega) (by have := mI_b hI_254; omega) (by omega) (by omega) (by omega) (by omega)
          generalize upd f_246 34 b = f_255 at hP hD q_256 q_257 q_258 q_259 q_260 q_261 q_262 hI_263
          have hP : va_P (dC, dI) vwCl [(h0, .inr (7, [.ref a0, v1, v2, v3, v4, v5, v6, v7, v8, v9, v10, v11, v12, v13, v14, v15, v16, v17, v18, v19, v20, v21, v22, v23, v24, v25, v26, v27])), (a0, .inl (ac, 38, .inl f_255))] H := hP
          have hD : va_D A [(h0, .inr (7, [.ref a0, v1, v2, v3, v4, v5, v6, v7, v8, v9, v10, v11, v12, v13, v14, v15, v16, v17, v18, v19, v20, v21, v22, v23, v24, v25, v26, v27])), (a0, .inl (ac, 38, .inl f_255))] := hD
          refine lv_iload_n hx hb dX9_holds_60 rfl (lv_at hl 1 rfl) ?_
          have hP9 := hP.sub (ws' := [(h0, .inr (7, [.ref a0, v1, v2, v3, v4, v5, v6, v7, v8, v9, v10, v11, v12, v13, v14, v15, v16, v17, v18, v19, v20, v21, v22, v23, v24, v25, v26, v27])), (a0, .inl (ac, 38, .inl f_255))]) [0, 1] rfl
          have hD9 := hD.sub (ws' := [(h0, .inr (7, [.ref a0, v1, v2, v3, v4, v5, v6, v7, v8, v9, v10, v11, v12, v13, v14, v15, v16, v17, v18, v19, v20, v21, v22, v23, v24, v25, v26, v27])), (a0, .inl (ac, 38, .inl f_255))]) [0, 1] (by decide) rfl
          have hK9 := hK.sub (tys' := [(ac, .int)]) [0] rfl
          exact W.iret (v := (0 : Int32)) hx hb hr (fun t ht hW => ⟨⟨(0 : Int32), (), rfl, (by first | omega | decide | (simp only [fa_lt, fa_le, fa_eq, and_true, true_and, and_false, false_and, not_true_eq_false, not_false_eq_true, li_0, li_1, li_2, li_3, li_4, li_5, li_6, li_7, li_8, li_9, li_10, li_12, li_15, li_16, li_20, li_30, li_34, li_38, li_40, li_63, li_64, li_65, li_78, li_120, li_1000, li_4000, li_10000, li_11077, li_255, li_65535, li_m1, li_m2, li_m1000000001, li_m1000000002, li_m1000000003, li_m1000000004, li_m1000000005, li_m1000000006, li_m1000000007, or_true, true_or, or_false, false_or, implies_true, true_implies, false_implies] <;> omega)), f_255, hI_263, (by first | omega | decide | (simp only [fa_lt, fa_le, fa_eq, and_true, true_and, and_false, false_and, not_true_eq_false, not_false_eq_true, li_0, li_1, li_2, li_3, li_4, li_5, li_6, li_7, li_8, li_9, li_10, li_12, li_15, li_16, li_20, li_30, li_34, li_38, li_40, li_63, li_64, li_65, li_78, li_120, li_1000, li_4000, li_10000, li_11077, li_255, li_65535, li_m1, li_m2, li_m1000000001, li_m1000000002, li_m1000000003, li_m1000000004, li_m1000000005, li_m1000000006, li_m1000000007, or_true, true_or, or_false, false_or, implies_true, true_implies, false_implies] <;> omega)), (by unfold hput; omega), by rw [ht]; exact hP9, va_K.moved hW.alike hK9, hD9⟩, hS.F ht⟩) hS.2.2 dX9_holds_61
      · skip
        have tc_225 : ¬ 0 ≤ n_224.toInt := fun h => c_225 ((fa_le _ _).mpr h)
        refine lv_iload hx hb dX9_holds_27 (lv_at hl 0 rfl) ?_
        refine lv_goto (tgt := 33) hx hb dX9_holds_29 (by decide) ?_
        refine lv_istore_n (lv' := [(3, .int 1), (4, .int 1), (0, .ref h0), (1, .int k), (2, .int b)]) hx hb dX9_holds_33 rfl hl (by decide) rfl (fun ls hl => ?_)
        refine lv_iinc (v := 0) (lv' := [(4, .int 0), (3, .int 1), (0, .ref h0), (1, .int k), (2, .int b)]) hx hb dX9_holds_34 hl (k := 1) rfl (by decide) (by decide) rfl (fun ls hl => ?_)
        refine lv_goto (tgt := 9) hx hb dX9_holds_37 (by decide) ?_
        refine lv_iload hx hb dX9_holds_9 (lv_at hl 0 rfl) ?_
        refine lv_if_lt (tgt := 40) hx hb dX9_holds_11 (by decide) (fun c => absurd c (by decide)) (fun _ => ?_)
        refine lv_aload_n hx hb dX9_holds_14 rfl (lv_at hl 2 rfl) ?_
        refine va_get (D := (dC, dI)) (ci := 7) (v := .ref a0) (C := RX9) (T := TX9) (N := 28) hx hb hts inX9 hown hK hP 0 rfl rfl 0 (by decide) (hts _ (List.mem_of_getElem? (i := 6) rfl)) (fun _ h9 => h9) rfl dX9_holds_15 ?_
        refine lv_bipush (v := 30) hx hb dX9_holds_18 (by decide) ?_
        refine lv_iload hx hb dX9_holds_20 (lv_at hl 0 rfl) ?_
        refine lv_iadd hx hb dX9_holds_22 ?_
        refine pp_ti (y := 30) (by decide) ?_
        refine va_iald hx hb hK hP 1 0 rfl rfl (vp_in_nI (n := 30) (by decide) (by decide)) dX9_holds_23 ?_
        refine pp_ti (y := nf 30) rfl ?_
        refine lv_topi (fun n_264 en_264 => ?_)
        have tn_264 : n_264.toInt = (nf 30).toInt ∧ (-1) ≤ n_264.toInt ∧ n_264.toInt ≤ 8 := mI_r30 hI en_264
        clear en_264
        refine lv_if_ge (tgt := 32) hx hb dX9_holds_24 (by decide) (fun c_265 => ?_) (fun c_265 => ?_)
        · skip
          have tc_265 : 0 ≤ n_264.toInt := (fa_le _ _).mp c_265
          refine lv_iload_n hx hb dX9_holds_32 rfl (lv_at hl 1 rfl) ?_
          refine lv_istore_n (lv' := [(3, .int 1), (4, .int 0), (0, .ref h0), (1, .int k), (2, .int b)]) hx hb dX9_holds_33 rfl hl (by decide) rfl (fun ls hl => ?_)
          refine lv_iinc (v := (-1)) (lv' := [(4, .int (-1)), (3, .int 1), (0, .ref h0), (1, .int k), (2, .int b)]) hx hb dX9_holds_34 hl (k := 1) rfl (by decide) (by decide) rfl (fun ls hl => ?_)
          refine lv_goto (tgt := 9) hx hb dX9_holds_37 (by decide) ?_
          refine lv_iload hx hb dX9_holds_9 (lv_at hl 0 rfl) ?_
          refine lv_if_lt (tgt := 40) hx hb dX9_holds_11 (by decide) (fun _ => ?_) (fun c => absurd (by decide) c)
          refine lv_aload_n hx hb dX9_holds_40 rfl (lv_at hl 2 rfl) ?_
          refine va_get (D := (dC, dI)) (ci := 7) (v := .ref a0) (C := RX9) (T := TX9) (N := 28) hx hb hts inX9 hown hK hP 0 rfl rfl 0 (by decide) (hts _ (List.mem_of_getElem? (i := 6) rfl)) (fun _ h9 => h9) rfl dX9_holds_41 ?_
          refine lv_bipush (v := 30) hx hb dX9_holds_44 (by decide) ?_
          refine lv_iload_n hx hb dX9_holds_46 rfl (lv_at hl 1 rfl) ?_
          refine lv_iadd hx hb dX9_holds_47 ?_
          refine pp_ti (y := 31) (by decide) ?_
          refine lv_iload_n hx hb dX9_holds_48 rfl (lv_at hl 3 rfl) ?_
          refine va_iast hx hb hK hP hD hS 1 0 rfl rfl (vp_in_nI (n := 31) (by decide) (by decide)) dX9_holds_49 (fun H locs hP hD hS => ?_)
          have hP : va_P (dC, dI) vwCl [(h0, .inr (7, [.ref a0, v1, v2, v3, v4, v5, v6, v7, v8, v9, v10, v11, v12, v13, v14, v15, v16, v17, v18, v19, v20, v21, v22, v23, v24, v25, v26, v27])), (a0, .inl (ac, 38, .inl (upd nf 31 k)))] H := hP
          have hD : va_D A [(h0, .inr (7, [.ref a0, v1, v2, v3, v4, v5, v6, v7, v8, v9, v10, v11, v12, v13, v14, v15, v16, v17, v18, v19, v20, v21, v22, v23, v24, v25, v26, v27])), (a0, .inl (ac, 38, .inl (upd nf 31 k)))] := hD
          have q_267 : ((upd nf 31 k) 0).toInt = (nf 0).toInt := pp_uN_ne (by decide)
          have q_268 : ((upd nf 31 k) 1).toInt = (nf 1).toInt := pp_uN_ne (by decide)
          have q_269 : ((upd nf 31 k) 2).toInt = (nf 2).toInt := pp_uN_ne (by decide)
          have q_270 : ((upd nf 31 k) 30).toInt = (nf 30).toInt := pp_uN_ne (by decide)
          have q_271 : ((upd nf 31 k) 31).toInt = k.toInt := pp_uN_eq rfl
          have q_272 : ((upd nf 31 k) 32).toInt = (nf 32).toInt := pp_uN_ne (by decide)
          have q_273 : ((upd nf 31 k) 33).toInt = (nf 33).toInt := pp_uN_ne (by decide)
          have hI_274 : mI (upd nf 31 k) := mI_hold hI (by decide) (by decide) (by first | decide | omega) (by first | decide | omega) (Or.inr hnh)
          generalize upd nf 31 k = f_266 at hP hD q_267 q_268 q_269 q_270 q_271 q_272 q_273 hI_274
          have hP : va_P (dC, dI) vwCl [(h0, .inr (7, [.ref a0, v1, v2, v3, v4, v5, v6, v7, v8, v9, v10, v11, v12, v13, v14, v15, v16, v17, v18, v19, v20, v21, v22, v23, v24, v25, v26, v27])), (a0, .inl (ac, 38, .inl f_266))] H := hP
          have hD : va_D A [(h0, .inr (7, [.ref a0, v1, v2, v3, v4, v5, v6, v7, v8, v9, v10, v11, v12, v13, v14, v15, v16, v17, v18, v19, v20, v21, v22, v23, v24, v25, v26, v27])), (a0, .inl (ac, 38, .inl f_266))] := hD
          refine lv_aload_n hx hb dX9_holds_50 rfl (lv_at hl 2 rfl) ?_
          refine va_get (D := (dC, dI)) (ci := 7) (v := .ref a0) (C := RX9) (T := TX9) (N := 28) hx hb hts inX9 hown hK hP 0 rfl rfl 0 (by decide) (hts _ (List.mem_of_getElem? (i := 6) rfl)) (fun _ h9 => h9) rfl dX9_holds_51 ?_
          refine lv_bipush (v := 34) hx hb dX9_holds_54 (by decide) ?_
          refine lv_iload_n hx hb dX9_holds_56 rfl (lv_at hl 1 rfl) ?_
          refine lv_iadd hx hb dX9_holds_57 ?_
          refine pp_ti (y := 35) (by decide) ?_
          refine lv_iload_n hx hb dX9_holds_58 rfl (lv_at hl 4 rfl) ?_
          refine va_iast hx hb hK hP hD hS 1 0 rfl rfl (vp_in_nI (n := 35) (by decide) (by decide)) dX9_holds_59 (fun H locs hP hD hS => ?_)
          have hP : va_P (dC, dI) vwCl [(h0, .inr (7, [.ref a0, v1, v2, v3, v4, v5, v6, v7, v8, v9, v10, v11, v12, v13, v14, v15, v16, v17, v18, v19, v20, v21, v22, v23, v24, v25, v26, v27])), (a0, .inl (ac, 38, .inl (upd f_266 35 b)))] H := hP
          have hD : va_D A [(h0, .inr (7, [.ref a0, v1, v2, v3, v4, v5, v6, v7, v8, v9, v10, v11, v12, v13, v14, v15, v16, v17, v18, v19, v20, v21, v22, v23, v24, v25, v26, v27])), (a0, .inl (ac, 38, .inl (upd f_266 35 b)))] := hD
          have q_276 : ((upd f_266 35 b) 0).toInt = (f_266 0).toInt := pp_uN_ne (by decide)
          have q_277 : ((upd f_266 35 b) 1).toInt = (f_266 1).toInt := pp_uN_ne (by decide)
          have q_278 : ((upd f_266 35 b) 2).toInt = (f_266 2).toInt := pp_uN_ne (by decide)
          have q_279 : ((upd f_266 35 b) 30).toInt = (f_266 30).toInt := pp_uN_ne (by decide)
          have q_280 : ((upd f_266 35 b) 31).toInt = (f_266 31).toInt := pp_uN_ne (by decide)
          have q_281 : ((upd f_266 35 b) 32).toInt = (f_266 32).toInt := pp_uN_ne (by decide)
          have q_282 : ((upd f_266 35 b) 33).toInt = (f_266 33).toInt := pp_uN_ne (by decide)
          have hI_283 : mI (upd f_266 35 b) := mI_01 hI_274 (by have := mI_b hI_274; omega) (by have := mI_b hI_274; omega) (by omega) (by omega) (by omega) (by omega)
          generalize upd f_266 35 b = f_275 at hP hD q_276 q_277 q_278 q_279 q_280 q_281 q_282 hI_283
          have hP : va_P (dC, dI) vwCl [(h0, .inr (7, [.ref a0, v1, v2, v3, v4, v5, v6, v7, v8, v9, v10, v11, v12, v13, v14, v15, v16, v17, v18, v19, v20, v21, v22, v23, v24, v25, v26, v27])), (a0, .inl (ac, 38, .inl f_275))] H := hP
          have hD : va_D A [(h0, .inr (7, [.ref a0, v1, v2, v3, v4, v5, v6, v7, v8, v9, v10, v11, v12, v13, v14, v15, v16, v17, v18, v19, v20, v21, v22, v23, v24, v25, v26, v27])), (a0, .inl (ac, 38, .inl f_275))] := hD
          refine lv_iload_n hx hb dX9_holds_60 rfl (lv_at hl 1 rfl) ?_
          have hP9 := hP.sub (ws' := [(h0, .inr (7, [.ref a0, v1, v2, v3, v4, v5, v6, v7, v8, v9, v10, v11, v12, v13, v14, v15, v16, v17, v18, v19, v20, v21, v22, v23, v24, v25, v26, v27])), (a0, .inl (ac, 38, .inl f_275))]) [0, 1] rfl
          have hD9 := hD.sub (ws' := [(h0, .inr (7, [.ref a0, v1, v2, v3, v4, v5, v6, v7, v8, v9, v10, v11, v12, v13, v14, v15, v16, v17, v18, v19, v20, v21, v22, v23, v24, v25, v26, v27])), (a0, .inl (ac, 38, .inl f_275))]) [0, 1] (by decide) rfl
          have hK9 := hK.sub (tys' := [(ac, .int)]) [0] rfl
          exact W.iret (v := (1 : Int32)) hx hb hr (fun t ht hW => ⟨⟨(1 : Int32), (), rfl, (by first | omega | decide | (simp only [fa_lt, fa_le, fa_eq, and_true, true_and, and_false, false_and, not_true_eq_false, not_false_eq_true, li_0, li_1, li_2, li_3, li_4, li_5, li_6, li_7, li_8, li_9, li_10, li_12, li_15, li_16, li_20, li_30, li_34, li_38, li_40, li_63, li_64, li_65, li_78, li_120, li_1000, li_4000, li_10000, li_11077, li_255, li_65535, li_m1, li_m2, li_m1000000001, li_m1000000002, li_m1000000003, li_m1000000004, li_m1000000005, li_m1000000006, li_m1000000007, or_true, true_or, or_false, false_or, implies_true, true_implies, false_implies] <;> omega)), f_275, hI_283, (by first | omega | decide | (simp only [fa_lt, fa_le, fa_eq, and_true, true_and, and_false, false_and, not_true_eq_false, not_false_eq_true, li_0, li_1, li_2, li_3, li_4, li_5, li_6, li_7, li_8, li_9, li_10, li_12, li_15, li_16, li_20, li_30, li_34, li_38, li_40, li_63, li_64, li_65, li_78, li_120, li_1000, li_4000, li_10000, li_11077, li_255, li_65535, li_m1, li_m2, li_m1000000001, li_m1000000002, li_m1000000003, li_m1000000004, li_m1000000005, li_m1000000006, li_m1000000007, or_true, true_or, or_false, false_or, implies_true, true_implies, false_implies] <;> omega)), (by unfold hput; omega), by rw [ht]; exact hP9, va_K.moved hW.alike hK9, hD9⟩, hS.F ht⟩) hS.2.2 dX9_holds_61
        · skip
          have tc_265 : ¬ 0 ≤ n_264.toInt := fun h => c_265 ((fa_le _ _).mpr h)
          refine lv_iload hx hb dX9_holds_27 (lv_at hl 0 rfl) ?_
          refine lv_goto (tgt := 33) hx hb dX9_holds_29 (by decide) ?_
          refine lv_istore_n (lv' := [(3, .int 0), (4, .int 0), (0, .ref h0), (1, .int k), (2, .int b)]) hx hb dX9_holds_33 rfl hl (by decide) rfl (fun ls hl => ?_)
          refine lv_iinc (v := (-1)) (lv' := [(4, .int (-1)), (3, .int 0), (0, .ref h0), (1, .int k), (2, .int b)]) hx hb dX9_holds_34 hl (k := 1) rfl (by decide) (by decide) rfl (fun ls hl => ?_)
          refine lv_goto (tgt := 9) hx hb dX9_holds_37 (by decide) ?_
          refine lv_iload hx hb dX9_holds_9 (lv_at hl 0 rfl) ?_
          refine lv_if_lt (tgt := 40) hx hb dX9_holds_11 (by decide) (fun _ => ?_) (fun c => absurd (by decide) c)
          refine lv_aload_n hx hb dX9_holds_40 rfl (lv_at hl 2 rfl) ?_
          refine va_get (D := (dC, dI)) (ci := 7) (v := .ref a0) (C := RX9) (T := TX9) (N := 28) hx hb hts inX9 hown hK hP 0 rfl rfl 0 (by decide) (hts _ (List.mem_of_getElem? (i := 6) rfl)) (fun _ h9 => h9) rfl dX9_holds_41 ?_
          refine lv_bipush (v := 30) hx hb dX9_holds_44 (by decide) ?_
          refine lv_iload_n hx hb dX9_holds_46 rfl (lv_at hl 1 rfl) ?_
          refine lv_iadd hx hb dX9_holds_47 ?_
          refine pp_ti (y := 30) (by decide) ?_
          refine lv_iload_n hx hb dX9_holds_48 rfl (lv_at hl 3 rfl) ?_
          refine va_iast hx hb hK hP hD hS 1 0 rfl rfl (vp_in_nI (n := 30) (by decide) (by decide)) dX9_holds_49 (fun H locs hP hD hS => ?_)
          have hP : va_P (dC, dI) vwCl [(h0, .inr (7, [.ref a0, v1, v2, v3, v4, v5, v6, v7, v8, v9, v10, v11, v12, v13, v14, v15, v16, v17, v18, v19, v20, v21, v22, v23, v24, v25, v26, v27])), (a0, .inl (ac, 38, .inl (upd nf 30 k)))] H := hP
          have hD : va_D A [(h0, .inr (7, [.ref a0, v1, v2, v3, v4, v5, v6, v7, v8, v9, v10, v11, v12, v13, v14, v15, v16, v17, v18, v19, v20, v21, v22, v23, v24, v25, v26, v27])), (a0, .inl (ac, 38, .inl (upd nf 30 k)))] := hD
          have q_285 : ((upd nf 30 k) 0).toInt = (nf 0).toInt := pp_uN_ne (by decide)
          have q_286 : ((upd nf 30 k) 1).toInt = (nf 1).toInt := pp_uN_ne (by decide)
          have q_287 : ((upd nf 30 k) 2).toInt = (nf 2).toInt := pp_uN_ne (by decide)
          have q_288 : ((upd nf 30 k) 30).toInt = k.toInt := pp_uN_eq rfl
          have q_289 : ((upd nf 30 k) 31).toInt = (nf 31).toInt := pp_uN_ne (by decide)
          have q_290 : ((upd nf 30 k) 32).toInt = (nf 32).toInt := pp_uN_ne (by decide)
          have q_291 : ((upd nf 30 k) 33).toInt = (nf 33).toInt := pp_uN_ne (by decide)
          have hI_292 : mI (upd nf 30 k) := mI_hold hI (by decide) (by decide) (by first | decide | omega) (by first | decide | omega) (Or.inr hnh)
          generalize upd nf 30 k = f_284 at hP hD q_285 q_286 q_287 q_288 q_289 q_290 q_291 hI_292
          have hP : va_P (dC, dI) vwCl [(h0, .inr (7, [.ref a0, v1, v2, v3, v4, v5, v6, v7, v8, v9, v10, v11, v12, v13, v14, v15, v16, v17, v18, v19, v20, v21, v22, v23, v24, v25, v26, v27])), (a0, .inl (ac, 38, .inl f_284))] H := hP
          have hD : va_D A [(h0, .inr (7, [.ref a0, v1, v2, v3, v4, v5, v6, v7, v8, v9, v10, v11, v12, v13, v14, v15, v16, v17, v18, v19, v20, v21, v22, v23, v24, v25, v26, v27])), (a0, .inl (ac, 38, .inl f_284))] := hD
          refine lv_aload_n hx hb dX9_holds_50 rfl (lv_at hl 2 rfl) ?_
          refine va_get (D := (dC, dI)) (ci := 7) (v := .ref a0) (C := RX9) (T := TX9) (N := 28) hx hb hts inX9 hown hK hP 0 rfl rfl 0 (by decide) (hts _ (List.mem_of_getElem? (i := 6) rfl)) (fun _ h9 => h9) rfl dX9_holds_51 ?_
          refine lv_bipush (v := 34) hx hb dX9_holds_54 (by decide) ?_
          refine lv_iload_n hx hb dX9_holds_56 rfl (lv_at hl 1 rfl) ?_
          refine lv_iadd hx hb dX9_holds_57 ?_
          refine pp_ti (y := 34) (by decide) ?_
          refine lv_iload_n hx hb dX9_holds_58 rfl (lv_at hl 4 rfl) ?_
          refine va_iast hx hb hK hP hD hS 1 0 rfl rfl (vp_in_nI (n := 34) (by decide) (by decide)) dX9_holds_59 (fun H locs hP hD hS => ?_)
          have hP : va_P (dC, dI) vwCl [(h0, .inr (7, [.ref a0, v1, v2, v3, v4, v5, v6, v7, v8, v9, v10, v11, v12, v13, v14, v15, v16, v17, v18, v19, v20, v21, v22, v23, v24, v25, v26, v27])), (a0, .inl (ac, 38, .inl (upd f_284 34 b)))] H := hP
          have hD : va_D A [(h0, .inr (7, [.ref a0, v1, v2, v3, v4, v5, v6, v7, v8, v9, v10, v11, v12, v13, v14, v15, v16, v17, v18, v19, v20, v21, v22, v23, v24, v25, v26, v27])), (a0, .inl (ac, 38, .inl (upd f_284 34 b)))] := hD
          have q_294 : ((upd f_284 34 b) 0).toInt = (f_284 0).toInt := pp_uN_ne (by decide)
          have q_295 : ((upd f_284 34 b) 1).toInt = (f_284 1).toInt := pp_uN_ne (by decide)
          have q_296 : ((upd f_284 34 b) 2).toInt = (f_284 2).toInt := pp_uN_ne (by decide)
          have q_297 : ((upd f_284 34 b) 30).toInt = (f_284 30).toInt := pp_uN_ne (by decide)
          have q_298 : ((upd f_284 34 b) 31).toInt = (f_284 31).toInt := pp_uN_ne (by decide)
          have q_299 : ((upd f_284 34 b) 32).toInt = (f_284 32).toInt := pp_uN_ne (by decide)
          have q_300 : ((upd f_284 34 b) 33).toInt = (f_284 33).toInt := pp_uN_ne (by decide)
          have hI_301 : mI (upd f_284 34 b) := mI_01 hI_292 (by have := mI_b hI_292; omega) (by have := mI_b hI_292; omega) (by omega) (by omega) (by omega) (by omega)
          generalize upd f_284 34 b = f_293 at hP hD q_294 q_295 q_296 q_297 q_298 q_299 q_300 hI_301
          have hP : va_P (dC, dI) vwCl [(h0, .inr (7, [.ref a0, v1, v2, v3, v4, v5, v6, v7, v8, v9, v10, v11, v12, v13, v14, v15, v16, v17, v18, v19, v20, v21, v22, v23, v24, v25, v26, v27])), (a0, .inl (ac, 38, .inl f_293))] H := hP
          have hD : va_D A [(h0, .inr (7, [.ref a0, v1, v2, v3, v4, v5, v6, v7, v8, v9, v10, v11, v12, v13, v14, v15, v16, v17, v18, v19, v20, v21, v22, v23, v24, v25, v26, v27])), (a0, .inl (ac, 38, .inl f_293))] := hD
          refine lv_iload_n hx hb dX9_holds_60 rfl (lv_at hl 1 rfl) ?_
          have hP9 := hP.sub (ws' := [(h0, .inr (7, [.ref a0, v1, v2, v3, v4, v5, v6, v7, v8, v9, v10, v11, v12, v13, v14, v15, v16, v17, v18, v19, v20, v21, v22, v23, v24, v25, v26, v27])), (a0, .inl (ac, 38, .inl f_293))]) [0, 1] rfl
          have hD9 := hD.sub (ws' := [(h0, .inr (7, [.ref a0, v1, v2, v3, v4, v5, v6, v7, v8, v9, v10, v11, v12, v13, v14, v15, v16, v17, v18, v19, v20, v21, v22, v23, v24, v25, v26, v27])), (a0, .inl (ac, 38, .inl f_293))]) [0, 1] (by decide) rfl
          have hK9 := hK.sub (tys' := [(ac, .int)]) [0] rfl
          exact W.iret (v := (0 : Int32)) hx hb hr (fun t ht hW => ⟨⟨(0 : Int32), (), rfl, (by first | omega | decide | (simp only [fa_lt, fa_le, fa_eq, and_true, true_and, and_false, false_and, not_true_eq_false, not_false_eq_true, li_0, li_1, li_2, li_3, li_4, li_5, li_6, li_7, li_8, li_9, li_10, li_12, li_15, li_16, li_20, li_30, li_34, li_38, li_40, li_63, li_64, li_65, li_78, li_120, li_1000, li_4000, li_10000, li_11077, li_255, li_65535, li_m1, li_m2, li_m1000000001, li_m1000000002, li_m1000000003, li_m1000000004, li_m1000000005, li_m1000000006, li_m1000000007, or_true, true_or, or_false, false_or, implies_true, true_implies, false_implies] <;> omega)), f_293, hI_301, (by first | omega | decide | (simp only [fa_lt, fa_le, fa_eq, and_true, true_and, and_false, false_and, not_true_eq_false, not_false_eq_true, li_0, li_1, li_2, li_3, li_4, li_5, li_6, li_7, li_8, li_9, li_10, li_12, li_15, li_16, li_20, li_30, li_34, li_38, li_40, li_63, li_64, li_65, li_78, li_120, li_1000, li_4000, li_10000, li_11077, li_255, li_65535, li_m1, li_m2, li_m1000000001, li_m1000000002, li_m1000000003, li_m1000000004, li_m1000000005, li_m1000000006, li_m1000000007, or_true, true_or, or_false, false_or, implies_true, true_implies, false_implies] <;> omega)), (by unfold hput; omega), by rw [ht]; exact hP9, va_K.moved hW.alike hK9, hD9⟩, hS.F ht⟩) hS.2.2 dX9_holds_61

