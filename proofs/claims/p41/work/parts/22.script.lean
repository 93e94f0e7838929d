theorem dX4_advance_0 : decode cX4_advance 0 = .ok (.aload_n 0, 1) := by decide +kernel
theorem dX4_advance_1 : decode cX4_advance 1 = .ok (.aload_n 0, 1) := by decide +kernel
theorem dX4_advance_2 : decode cX4_advance 2 = .ok (.getfield 32, 3) := by decide +kernel
theorem dX4_advance_5 : decode cX4_advance 5 = .ok (.putfield 29, 3) := by decide +kernel
theorem dX4_advance_8 : decode cX4_advance 8 = .ok (.aload_n 0, 1) := by decide +kernel
theorem dX4_advance_9 : decode cX4_advance 9 = .ok (.getfield 29, 3) := by decide +kernel
theorem dX4_advance_12 : decode cX4_advance 12 = .ok (.aload_n 0, 1) := by decide +kernel
theorem dX4_advance_13 : decode cX4_advance 13 = .ok (.getfield 12, 3) := by decide +kernel
theorem dX4_advance_16 : decode cX4_advance 16 = .ok (.getfield 46, 3) := by decide +kernel
theorem dX4_advance_19 : decode cX4_advance 19 = .ok (.if_icmp .ge 35, 3) := by decide +kernel
theorem dX4_advance_22 : decode cX4_advance 22 = .ok (.aload_n 0, 1) := by decide +kernel
theorem dX4_advance_23 : decode cX4_advance 23 = .ok (.getfield 12, 3) := by decide +kernel
theorem dX4_advance_26 : decode cX4_advance 26 = .ok (.getfield 49, 3) := by decide +kernel
theorem dX4_advance_29 : decode cX4_advance 29 = .ok (.aload_n 0, 1) := by decide +kernel
theorem dX4_advance_30 : decode cX4_advance 30 = .ok (.getfield 29, 3) := by decide +kernel
theorem dX4_advance_33 : decode cX4_advance 33 = .ok (.iaload, 1) := by decide +kernel
theorem dX4_advance_34 : decode cX4_advance 34 = .ok (.invokestatic 53, 3) := by decide +kernel
theorem dX4_advance_37 : decode cX4_advance 37 = .ok (.iconst 5, 1) := by decide +kernel
theorem dX4_advance_38 : decode cX4_advance 38 = .ok (.if_icmp .ne 16, 3) := by decide +kernel
theorem dX4_advance_41 : decode cX4_advance 41 = .ok (.aload_n 0, 1) := by decide +kernel
theorem dX4_advance_42 : decode cX4_advance 42 = .ok (.dup, 1) := by decide +kernel
theorem dX4_advance_43 : decode cX4_advance 43 = .ok (.getfield 29, 3) := by decide +kernel
theorem dX4_advance_46 : decode cX4_advance 46 = .ok (.iconst 1, 1) := by decide +kernel
theorem dX4_advance_47 : decode cX4_advance 47 = .ok (.iadd, 1) := by decide +kernel
theorem dX4_advance_48 : decode cX4_advance 48 = .ok (.putfield 29, 3) := by decide +kernel
theorem dX4_advance_51 : decode cX4_advance 51 = .ok (.goto (-43), 3) := by decide +kernel
theorem dX4_advance_54 : decode cX4_advance 54 = .ok (.aload_n 0, 1) := by decide +kernel
theorem dX4_advance_55 : decode cX4_advance 55 = .ok (.aload_n 0, 1) := by decide +kernel
theorem dX4_advance_56 : decode cX4_advance 56 = .ok (.getfield 29, 3) := by decide +kernel
theorem dX4_advance_59 : decode cX4_advance 59 = .ok (.putfield 32, 3) := by decide +kernel
theorem dX4_advance_62 : decode cX4_advance 62 = .ok (.aload_n 0, 1) := by decide +kernel
theorem dX4_advance_63 : decode cX4_advance 63 = .ok (.getfield 29, 3) := by decide +kernel
theorem dX4_advance_66 : decode cX4_advance 66 = .ok (.aload_n 0, 1) := by decide +kernel
theorem dX4_advance_67 : decode cX4_advance 67 = .ok (.getfield 12, 3) := by decide +kernel
theorem dX4_advance_70 : decode cX4_advance 70 = .ok (.getfield 46, 3) := by decide +kernel
theorem dX4_advance_73 : decode cX4_advance 73 = .ok (.if_icmp .lt 9, 3) := by decide +kernel
theorem dX4_advance_76 : decode cX4_advance 76 = .ok (.aload_n 0, 1) := by decide +kernel
theorem dX4_advance_77 : decode cX4_advance 77 = .ok (.iconst 0, 1) := by decide +kernel
theorem dX4_advance_78 : decode cX4_advance 78 = .ok (.putfield 25, 3) := by decide +kernel
theorem dX4_advance_81 : decode cX4_advance 81 = .ok (.return_, 1) := by decide +kernel
theorem dX4_advance_82 : decode cX4_advance 82 = .ok (.aload_n 0, 1) := by decide +kernel
theorem dX4_advance_83 : decode cX4_advance 83 = .ok (.aload_n 0, 1) := by decide +kernel
theorem dX4_advance_84 : decode cX4_advance 84 = .ok (.getfield 12, 3) := by decide +kernel
theorem dX4_advance_87 : decode cX4_advance 87 = .ok (.getfield 49, 3) := by decide +kernel
theorem dX4_advance_90 : decode cX4_advance 90 = .ok (.aload_n 0, 1) := by decide +kernel
theorem dX4_advance_91 : decode cX4_advance 91 = .ok (.getfield 29, 3) := by decide +kernel
theorem dX4_advance_94 : decode cX4_advance 94 = .ok (.iaload, 1) := by decide +kernel
theorem dX4_advance_95 : decode cX4_advance 95 = .ok (.invokestatic 53, 3) := by decide +kernel
theorem dX4_advance_98 : decode cX4_advance 98 = .ok (.putfield 25, 3) := by decide +kernel
theorem dX4_advance_101 : decode cX4_advance 101 = .ok (.aload_n 0, 1) := by decide +kernel
theorem dX4_advance_102 : decode cX4_advance 102 = .ok (.dup, 1) := by decide +kernel
theorem dX4_advance_103 : decode cX4_advance 103 = .ok (.getfield 32, 3) := by decide +kernel
theorem dX4_advance_106 : decode cX4_advance 106 = .ok (.iconst 1, 1) := by decide +kernel
theorem dX4_advance_107 : decode cX4_advance 107 = .ok (.iadd, 1) := by decide +kernel
theorem dX4_advance_108 : decode cX4_advance 108 = .ok (.putfield 32, 3) := by decide +kernel
theorem dX4_advance_111 : decode cX4_advance 111 = .ok (.aload_n 0, 1) := by decide +kernel
theorem dX4_advance_112 : decode cX4_advance 112 = .ok (.getfield 25, 3) := by decide +kernel
theorem dX4_advance_115 : decode cX4_advance 115 = .ok (.iconst 4, 1) := by decide +kernel
theorem dX4_advance_116 : decode cX4_advance 116 = .ok (.if_icmp .eq 12, 3) := by decide +kernel
theorem dX4_advance_119 : decode cX4_advance 119 = .ok (.aload_n 0, 1) := by decide +kernel
theorem dX4_advance_120 : decode cX4_advance 120 = .ok (.getfield 25, 3) := by decide +kernel
theorem dX4_advance_123 : decode cX4_advance 123 = .ok (.bipush 6, 2) := by decide +kernel
theorem dX4_advance_125 : decode cX4_advance 125 = .ok (.if_icmp .ne 4, 3) := by decide +kernel
theorem dX4_advance_128 : decode cX4_advance 128 = .ok (.return_, 1) := by decide +kernel
theorem dX4_advance_129 : decode cX4_advance 129 = .ok (.aload_n 0, 1) := by decide +kernel
theorem dX4_advance_130 : decode cX4_advance 130 = .ok (.getfield 32, 3) := by decide +kernel
theorem dX4_advance_133 : decode cX4_advance 133 = .ok (.aload_n 0, 1) := by decide +kernel
theorem dX4_advance_134 : decode cX4_advance 134 = .ok (.getfield 12, 3) := by decide +kernel
theorem dX4_advance_137 : decode cX4_advance 137 = .ok (.getfield 46, 3) := by decide +kernel
theorem dX4_advance_140 : decode cX4_advance 140 = .ok (.if_icmp .ge 38, 3) := by decide +kernel
theorem dX4_advance_143 : decode cX4_advance 143 = .ok (.aload_n 0, 1) := by decide +kernel
theorem dX4_advance_144 : decode cX4_advance 144 = .ok (.getfield 12, 3) := by decide +kernel
theorem dX4_advance_147 : decode cX4_advance 147 = .ok (.getfield 49, 3) := by decide +kernel
theorem dX4_advance_150 : decode cX4_advance 150 = .ok (.aload_n 0, 1) := by decide +kernel
theorem dX4_advance_151 : decode cX4_advance 151 = .ok (.getfield 32, 3) := by decide +kernel
theorem dX4_advance_154 : decode cX4_advance 154 = .ok (.iaload, 1) := by decide +kernel
theorem dX4_advance_155 : decode cX4_advance 155 = .ok (.invokestatic 53, 3) := by decide +kernel
theorem dX4_advance_158 : decode cX4_advance 158 = .ok (.aload_n 0, 1) := by decide +kernel
theorem dX4_advance_159 : decode cX4_advance 159 = .ok (.getfield 25, 3) := by decide +kernel
theorem dX4_advance_162 : decode cX4_advance 162 = .ok (.if_icmp .ne 16, 3) := by decide +kernel
theorem dX4_advance_165 : decode cX4_advance 165 = .ok (.aload_n 0, 1) := by decide +kernel
theorem dX4_advance_166 : decode cX4_advance 166 = .ok (.dup, 1) := by decide +kernel
theorem dX4_advance_167 : decode cX4_advance 167 = .ok (.getfield 32, 3) := by decide +kernel
theorem dX4_advance_170 : decode cX4_advance 170 = .ok (.iconst 1, 1) := by decide +kernel
theorem dX4_advance_171 : decode cX4_advance 171 = .ok (.iadd, 1) := by decide +kernel
theorem dX4_advance_172 : decode cX4_advance 172 = .ok (.putfield 32, 3) := by decide +kernel
theorem dX4_advance_175 : decode cX4_advance 175 = .ok (.goto (-46), 3) := by decide +kernel
theorem dX4_advance_178 : decode cX4_advance 178 = .ok (.return_, 1) := by decide +kernel
theorem dX4_sortOf_0 : decode cX4_sortOf 0 = .ok (.iload_n 0, 1) := by decide +kernel
theorem dX4_sortOf_1 : decode cX4_sortOf 1 = .ok (.bipush 97, 2) := by decide +kernel
theorem dX4_sortOf_3 : decode cX4_sortOf 3 = .ok (.if_icmp .lt 11, 3) := by decide +kernel
theorem dX4_sortOf_6 : decode cX4_sortOf 6 = .ok (.iload_n 0, 1) := by decide +kernel
theorem dX4_sortOf_7 : decode cX4_sortOf 7 = .ok (.bipush 122, 2) := by decide +kernel
theorem dX4_sortOf_9 : decode cX4_sortOf 9 = .ok (.if_icmp .gt 5, 3) := by decide +kernel
theorem dX4_sortOf_12 : decode cX4_sortOf 12 = .ok (.iconst 1, 1) := by decide +kernel
theorem dX4_sortOf_13 : decode cX4_sortOf 13 = .ok (.ireturn, 1) := by decide +kernel
theorem dX4_sortOf_14 : decode cX4_sortOf 14 = .ok (.iload_n 0, 1) := by decide +kernel
theorem dX4_sortOf_15 : decode cX4_sortOf 15 = .ok (.bipush 48, 2) := by decide +kernel
theorem dX4_sortOf_17 : decode cX4_sortOf 17 = .ok (.if_icmp .lt 11, 3) := by decide +kernel
theorem dX4_sortOf_20 : decode cX4_sortOf 20 = .ok (.iload_n 0, 1) := by decide +kernel
theorem dX4_sortOf_21 : decode cX4_sortOf 21 = .ok (.bipush 57, 2) := by decide +kernel
theorem dX4_sortOf_23 : decode cX4_sortOf 23 = .ok (.if_icmp .gt 5, 3) := by decide +kernel
theorem dX4_sortOf_26 : decode cX4_sortOf 26 = .ok (.iconst 2, 1) := by decide +kernel
theorem dX4_sortOf_27 : decode cX4_sortOf 27 = .ok (.ireturn, 1) := by decide +kernel
theorem dX4_sortOf_28 : decode cX4_sortOf 28 = .ok (.iload_n 0, 1) := by decide +kernel
theorem dX4_sortOf_29 : decode cX4_sortOf 29 = .ok (.lookupswitch 49 #[(32, 47), (35, 43), (46, 43), (59, 45)], 43) := by decide +kernel
theorem dX4_sortOf_72 : decode cX4_sortOf 72 = .ok (.iconst 3, 1) := by decide +kernel
theorem dX4_sortOf_73 : decode cX4_sortOf 73 = .ok (.ireturn, 1) := by decide +kernel
theorem dX4_sortOf_74 : decode cX4_sortOf 74 = .ok (.iconst 4, 1) := by decide +kernel
theorem dX4_sortOf_75 : decode cX4_sortOf 75 = .ok (.ireturn, 1) := by decide +kernel
theorem dX4_sortOf_76 : decode cX4_sortOf 76 = .ok (.iconst 5, 1) := by decide +kernel
theorem dX4_sortOf_77 : decode cX4_sortOf 77 = .ok (.ireturn, 1) := by decide +kernel
theorem dX4_sortOf_78 : decode cX4_sortOf 78 = .ok (.bipush 6, 2) := by decide +kernel
theorem dX4_sortOf_80 : decode cX4_sortOf 80 = .ok (.ireturn, 1) := by decide +kernel
theorem dX4_isWord_0 : decode cX4_isWord 0 = .ok (.aload_n 0, 1) := by decide +kernel
theorem dX4_isWord_1 : decode cX4_isWord 1 = .ok (.getfield 25, 3) := by decide +kernel
theorem dX4_isWord_4 : decode cX4_isWord 4 = .ok (.iconst 1, 1) := by decide +kernel
theorem dX4_isWord_5 : decode cX4_isWord 5 = .ok (.if_icmp .ne 19, 3) := by decide +kernel
theorem dX4_isWord_8 : decode cX4_isWord 8 = .ok (.aload_n 0, 1) := by decide +kernel
theorem dX4_isWord_9 : decode cX4_isWord 9 = .ok (.getfield 32, 3) := by decide +kernel
theorem dX4_isWord_12 : decode cX4_isWord 12 = .ok (.aload_n 0, 1) := by decide +kernel
theorem dX4_isWord_13 : decode cX4_isWord 13 = .ok (.getfield 29, 3) := by decide +kernel
theorem dX4_isWord_16 : decode cX4_isWord 16 = .ok (.isub, 1) := by decide +kernel
theorem dX4_isWord_17 : decode cX4_isWord 17 = .ok (.aload_n 1, 1) := by decide +kernel
theorem dX4_isWord_18 : decode cX4_isWord 18 = .ok (.invokevirtual 57, 3) := by decide +kernel
theorem dX4_isWord_21 : decode cX4_isWord 21 = .ok (.if_icmp .eq 5, 3) := by decide +kernel
theorem dX4_isWord_24 : decode cX4_isWord 24 = .ok (.iconst 0, 1) := by decide +kernel
theorem dX4_isWord_25 : decode cX4_isWord 25 = .ok (.ireturn, 1) := by decide +kernel
theorem dX4_isWord_26 : decode cX4_isWord 26 = .ok (.iconst 0, 1) := by decide +kernel
theorem dX4_isWord_27 : decode cX4_isWord 27 = .ok (.istore_n 2, 1) := by decide +kernel
theorem dX4_isWord_28 : decode cX4_isWord 28 = .ok (.iload_n 2, 1) := by decide +kernel
theorem dX4_isWord_29 : decode cX4_isWord 29 = .ok (.aload_n 1, 1) := by decide +kernel
theorem dX4_isWord_30 : decode cX4_isWord 30 = .ok (.invokevirtual 57, 3) := by decide +kernel
theorem dX4_isWord_33 : decode cX4_isWord 33 = .ok (.if_icmp .ge 33, 3) := by decide +kernel
theorem dX4_isWord_36 : decode cX4_isWord 36 = .ok (.aload_n 0, 1) := by decide +kernel
theorem dX4_isWord_37 : decode cX4_isWord 37 = .ok (.getfield 12, 3) := by decide +kernel
theorem dX4_isWord_40 : decode cX4_isWord 40 = .ok (.getfield 49, 3) := by decide +kernel
theorem dX4_isWord_43 : decode cX4_isWord 43 = .ok (.aload_n 0, 1) := by decide +kernel
theorem dX4_isWord_44 : decode cX4_isWord 44 = .ok (.getfield 29, 3) := by decide +kernel
theorem dX4_isWord_47 : decode cX4_isWord 47 = .ok (.iload_n 2, 1) := by decide +kernel
theorem dX4_isWord_48 : decode cX4_isWord 48 = .ok (.iadd, 1) := by decide +kernel
theorem dX4_isWord_49 : decode cX4_isWord 49 = .ok (.iaload, 1) := by decide +kernel
theorem dX4_isWord_50 : decode cX4_isWord 50 = .ok (.aload_n 1, 1) := by decide +kernel
theorem dX4_isWord_51 : decode cX4_isWord 51 = .ok (.iload_n 2, 1) := by decide +kernel
theorem dX4_isWord_52 : decode cX4_isWord 52 = .ok (.invokevirtual 63, 3) := by decide +kernel
theorem dX4_isWord_55 : decode cX4_isWord 55 = .ok (.if_icmp .eq 5, 3) := by decide +kernel
theorem dX4_isWord_58 : decode cX4_isWord 58 = .ok (.iconst 0, 1) := by decide +kernel
theorem dX4_isWord_59 : decode cX4_isWord 59 = .ok (.ireturn, 1) := by decide +kernel
theorem dX4_isWord_60 : decode cX4_isWord 60 = .ok (.iinc 2 1, 3) := by decide +kernel
theorem dX4_isWord_63 : decode cX4_isWord 63 = .ok (.goto (-35), 3) := by decide +kernel
theorem dX4_isWord_66 : decode cX4_isWord 66 = .ok (.iconst 1, 1) := by decide +kernel
theorem dX4_isWord_67 : decode cX4_isWord 67 = .ok (.ireturn, 1) := by decide +kernel
def w_q_sortOf : List Cond := .code yX4_sortOf cX4_sortOf 1 (some .int) :: (([] : List Cond))
set_option maxHeartbeats 4000000 in
set_option maxRecDepth 100000 in
theorem q_sortOf (l : Launch) (dC : Nat → ClassId) (dI : Nat → Nat → Nat) (ad : Nat → Nat) (a : Int32) : Met l yX4_sortOf w_q_sortOf ({ frames := 0, cells := 0, slots := 0, locals := 0 } : Room) (va_Pc [.int a] (preS dC dI ad [] [])) (vp_Si (fun r => True)) 0 0 (fun _ => False) := by
  refine Met.ofW (cc := cX4_sortOf) (maxL := 1) (ret := (some .int)) (by decide) rfl ?_
  intro p e s m args below meth c s₁ B hml hv
  obtain ⟨rfl, hP, hK, hev⟩ := hv
  have hx := B.exec
  have hb := B.bytes
  have hr := B.returns
  have hts := atoms_spec (ws := w_q_sortOf) B.pre
  have hown : s.vm.findClass RX4 = some m.cls := findClass_of_methodNamed B.named
  have hlocks := B.notSynchronized
  have hP : va_P (dC, dI) vwCl [] s.heap := hP
  have hl := lv_entry ([.int a]) (n := 1) (Nat.le_of_ble_eq_true rfl)
  rw [lg_entry_eq]
  generalize (lg_sl ([.int a]) ++ List.replicate (1 - (lg_sl ([.int a])).length) Slot.unset).toArray = ls at hl ⊢
  have hl : lv_has ls 1 [(0, .int a)] := hl
  refine lv_iload_n hx hb dX4_sortOf_0 rfl (lv_at hl 0 rfl) ?_
  refine lv_bipush (v := 97) hx hb dX4_sortOf_1 (by decide) ?_
  refine lv_icmp_lt (tgt := 14) hx hb dX4_sortOf_3 (by decide) (fun c_1 => ?_) (fun c_1 => ?_)
  · skip
    have tc_1 : a.toInt < 97 := (fa_lt _ _).mp c_1
    refine lv_iload_n hx hb dX4_sortOf_14 rfl (lv_at hl 0 rfl) ?_
    refine lv_bipush (v := 48) hx hb dX4_sortOf_15 (by decide) ?_
    refine lv_icmp_lt (tgt := 28) hx hb dX4_sortOf_17 (by decide) (fun c_2 => ?_) (fun c_2 => ?_)
    · skip
      have tc_2 : a.toInt < 48 := (fa_lt _ _).mp c_2
      refine lv_iload_n hx hb dX4_sortOf_28 rfl (lv_at hl 0 rfl) ?_
      by_cases c_3 : a = 32
      · skip
        refine W.eq (g2 := F0 m 29 ls (.int 32 :: [])) (by rw [c_3]) ?_
        refine lv_lookup (tgt := 76) hx hb dX4_sortOf_29 (by decide) (by decide) (by decide) ?_
        refine lv_iconst (v := 5) hx hb dX4_sortOf_76 (by decide) ?_
        exact W.iret (v := (5 : Int32)) hx hb hr (fun t ht hW => ⟨(5 : Int32), rfl, trivial, ht⟩) (fun _ h => absurd h List.not_mem_nil) dX4_sortOf_77
      · skip
        by_cases c_4 : a = 35
        · skip
          refine W.eq (g2 := F0 m 29 ls (.int 35 :: [])) (by rw [c_4]) ?_
          refine lv_lookup (tgt := 72) hx hb dX4_sortOf_29 (by decide) (by decide) (by decide) ?_
          refine lv_iconst (v := 3) hx hb dX4_sortOf_72 (by decide) ?_
          exact W.iret (v := (3 : Int32)) hx hb hr (fun t ht hW => ⟨(3 : Int32), rfl, trivial, ht⟩) (fun _ h => absurd h List.not_mem_nil) dX4_sortOf_73
        · skip
          by_cases c_5 : a = 46
          · skip
            refine W.eq (g2 := F0 m 29 ls (.int 46 :: [])) (by rw [c_5]) ?_
            refine lv_lookup (tgt := 72) hx hb dX4_sortOf_29 (by decide) (by decide) (by decide) ?_
            refine lv_iconst (v := 3) hx hb dX4_sortOf_72 (by decide) ?_
            exact W.iret (v := (3 : Int32)) hx hb hr (fun t ht hW => ⟨(3 : Int32), rfl, trivial, ht⟩) (fun _ h => absurd h List.not_mem_nil) dX4_sortOf_73
          · skip
            by_cases c_6 : a = 59
            · skip
              refine W.eq (g2 := F0 m 29 ls (.int 59 :: [])) (by rw [c_6]) ?_
              refine lv_lookup (tgt := 74) hx hb dX4_sortOf_29 (by decide) (by decide) (by decide) ?_
              refine lv_iconst (v := 4) hx hb dX4_sortOf_74 (by decide) ?_
              exact W.iret (v := (4 : Int32)) hx hb hr (fun t ht hW => ⟨(4 : Int32), rfl, trivial, ht⟩) (fun _ h => absurd h List.not_mem_nil) dX4_sortOf_75
            · skip
              refine lv_lookup (tgt := 78) hx hb dX4_sortOf_29 (by decide) (by rw [lv_osw c_3 (k := 32) (by decide), lv_osw c_4 (k := 35) (by decide), lv_osw c_5 (k := 46) (by decide), lv_osw c_6 (k := 59) (by decide)]; rfl) (by decide) ?_
              refine lv_bipush (v := 6) hx hb dX4_sortOf_78 (by decide) ?_
              exact W.iret (v := (6 : Int32)) hx hb hr (fun t ht hW => ⟨(6 : Int32), rfl, trivial, ht⟩) (fun _ h => absurd h List.not_mem_nil) dX4_sortOf_80
    · skip
      have tc_2 : ¬ a.toInt < 48 := fun h => c_2 ((fa_lt _ _).mpr h)
      refine lv_iload_n hx hb dX4_sortOf_20 rfl (lv_at hl 0 rfl) ?_
      refine lv_bipush (v := 57) hx hb dX4_sortOf_21 (by decide) ?_
      refine lv_icmp_gt (tgt := 28) hx hb dX4_sortOf_23 (by decide) (fun c_7 => ?_) (fun c_7 => ?_)
      · skip
        have tc_7 : 57 < a.toInt := (fa_lt _ _).mp c_7
        refine lv_iload_n hx hb dX4_sortOf_28 rfl (lv_at hl 0 rfl) ?_
        by_cases c_8 : a = 32
        · skip
          refine W.eq (g2 := F0 m 29 ls (.int 32 :: [])) (by rw [c_8]) ?_
          refine lv_lookup (tgt := 76) hx hb dX4_sortOf_29 (by decide) (by decide) (by decide) ?_
          refine lv_iconst (v := 5) hx hb dX4_sortOf_76 (by decide) ?_
          exact W.iret (v := (5 : Int32)) hx hb hr (fun t ht hW => ⟨(5 : Int32), rfl, trivial, ht⟩) (fun _ h => absurd h List.not_mem_nil) dX4_sortOf_77
        · skip
          by_cases c_9 : a = 35
          · skip
            refine W.eq (g2 := F0 m 29 ls (.int 35 :: [])) (by rw [c_9]) ?_
            refine lv_lookup (tgt := 72) hx hb dX4_sortOf_29 (by decide) (by decide) (by decide) ?_
            refine lv_iconst (v := 3) hx hb dX4_sortOf_72 (by decide) ?_
            exact W.iret (v := (3 : Int32)) hx hb hr (fun t ht hW => ⟨(3 : Int32), rfl, trivial, ht⟩) (fun _ h => absurd h List.not_mem_nil) dX4_sortOf_73
          · skip
            by_cases c_10 : a = 46
            · skip
              refine W.eq (g2 := F0 m 29 ls (.int 46 :: [])) (by rw [c_10]) ?_
              refine lv_lookup (tgt := 72) hx hb dX4_sortOf_29 (by decide) (by decide) (by decide) ?_
              refine lv_iconst (v := 3) hx hb dX4_sortOf_72 (by decide) ?_
              exact W.iret (v := (3 : Int32)) hx hb hr (fun t ht hW => ⟨(3 : Int32), rfl, trivial, ht⟩) (fun _ h => absurd h List.not_mem_nil) dX4_sortOf_73
            · skip
              by_cases c_11 : a = 59
              · skip
                refine W.eq (g2 := F0 m 29 ls (.int 59 :: [])) (by rw [c_11]) ?_
                refine lv_lookup (tgt := 74) hx hb dX4_sortOf_29 (by decide) (by decide) (by decide) ?_
                refine lv_iconst (v := 4) hx hb dX4_sortOf_74 (by decide) ?_
                exact W.iret (v := (4 : Int32)) hx hb hr (fun t ht hW => ⟨(4 : Int32), rfl, trivial, ht⟩) (fun _ h => absurd h List.not_mem_nil) dX4_sortOf_75
              · skip
                refine lv_lookup (tgt := 78) hx hb dX4_sortOf_29 (by decide) (by rw [lv_osw c_8 (k := 32) (by decide), lv_osw c_9 (k := 35) (by decide), lv_osw c_10 (k := 46) (by decide), lv_osw c_11 (k := 59) (by decide)]; rfl) (by decide) ?_
                refine lv_bipush (v := 6) hx hb dX4_sortOf_78 (by decide) ?_
                exact W.iret (v := (6 : Int32)) hx hb hr (fun t ht hW => ⟨(6 : Int32), rfl, trivial, ht⟩) (fun _ h => absurd h List.not_mem_nil) dX4_sortOf_80
      · skip
        have tc_7 : ¬ 57 < a.toInt := fun h => c_7 ((fa_lt _ _).mpr h)
        refine lv_iconst (v := 2) hx hb dX4_sortOf_26 (by decide) ?_
        exact W.iret (v := (2 : Int32)) hx hb hr (fun t ht hW => ⟨(2 : Int32), rfl, trivial, ht⟩) (fun _ h => absurd h List.not_mem_nil) dX4_sortOf_27
  · skip
    have tc_1 : ¬ a.toInt < 97 := fun h => c_1 ((fa_lt _ _).mpr h)
    refine lv_iload_n hx hb dX4_sortOf_6 rfl (lv_at hl 0 rfl) ?_
    refine lv_bipush (v := 122) hx hb dX4_sortOf_7 (by decide) ?_
    refine lv_icmp_gt (tgt := 14) hx hb dX4_sortOf_9 (by decide) (fun c_12 => ?_) (fun c_12 => ?_)
    · skip
      have tc_12 : 122 < a.toInt := (fa_lt _ _).mp c_12
      refine lv_iload_n hx hb dX4_sortOf_14 rfl (lv_at hl 0 rfl) ?_
      refine lv_bipush (v := 48) hx hb dX4_sortOf_15 (by decide) ?_
      refine lv_icmp_lt (tgt := 28) hx hb dX4_sortOf_17 (by decide) (fun c_13 => ?_) (fun c_13 => ?_)
      · skip
        have tc_13 : a.toInt < 48 := (fa_lt _ _).mp c_13
        exfalso; omega
      · skip
        have tc_13 : ¬ a.toInt < 48 := fun h => c_13 ((fa_lt _ _).mpr h)
        refine lv_iload_n hx hb dX4_sortOf_20 rfl (lv_at hl 0 rfl) ?_
        refine lv_bipush (v := 57) hx hb dX4_sortOf_21 (by decide) ?_
        refine lv_icmp_gt (tgt := 28) hx hb dX4_sortOf_23 (by decide) (fun c_14 => ?_) (fun c_14 => ?_)
        · skip
          have tc_14 : 57 < a.toInt := (fa_lt _ _).mp c_14
          refine lv_iload_n hx hb dX4_sortOf_28 rfl (lv_at hl 0 rfl) ?_
          by_cases c_15 : a = 32
          · skip
            refine W.eq (g2 := F0 m 29 ls (.int 32 :: [])) (by rw [c_15]) ?_
            refine lv_lookup (tgt := 76) hx hb dX4_sortOf_29 (by decide) (by decide) (by decide) ?_
            refine lv_iconst (v := 5) hx hb dX4_sortOf_76 (by decide) ?_
            exact W.iret (v := (5 : Int32)) hx hb hr (fun t ht hW => ⟨(5 : Int32), rfl, trivial, ht⟩) (fun _ h => absurd h List.not_mem_nil) dX4_sortOf_77
          · skip
            by_cases c_16 : a = 35
            · skip
              refine W.eq (g2 := F0 m 29 ls (.int 35 :: [])) (by rw [c_16]) ?_
              refine lv_lookup (tgt := 72) hx hb dX4_sortOf_29 (by decide) (by decide) (by decide) ?_
              refine lv_iconst (v := 3) hx hb dX4_sortOf_72 (by decide) ?_
              exact W.iret (v := (3 : Int32)) hx hb hr (fun t ht hW => ⟨(3 : Int32), rfl, trivial, ht⟩) (fun _ h => absurd h List.not_mem_nil) dX4_sortOf_73
            · skip
              by_cases c_17 : a = 46
              · skip
                refine W.eq (g2 := F0 m 29 ls (.int 46 :: [])) (by rw [c_17]) ?_
                refine lv_lookup (tgt := 72) hx hb dX4_sortOf_29 (by decide) (by decide) (by decide) ?_
                refine lv_iconst (v := 3) hx hb dX4_sortOf_72 (by decide) ?_
                exact W.iret (v := (3 : Int32)) hx hb hr (fun t ht hW => ⟨(3 : Int32), rfl, trivial, ht⟩) (fun _ h => absurd h List.not_mem_nil) dX4_sortOf_73
              · skip
                by_cases c_18 : a = 59
                · skip
                  refine W.eq (g2 := F0 m 29 ls (.int 59 :: [])) (by rw [c_18]) ?_
                  refine lv_lookup (tgt := 74) hx hb dX4_sortOf_29 (by decide) (by decide) (by decide) ?_
                  refine lv_iconst (v := 4) hx hb dX4_sortOf_74 (by decide) ?_
                  exact W.iret (v := (4 : Int32)) hx hb hr (fun t ht hW => ⟨(4 : Int32), rfl, trivial, ht⟩) (fun _ h => absurd h List.not_mem_nil) dX4_sortOf_75
                · skip
                  refine lv_lookup (tgt := 78) hx hb dX4_sortOf_29 (by decide) (by rw [lv_osw c_15 (k := 32) (by decide), lv_osw c_16 (k := 35) (by decide), lv_osw c_17 (k := 46) (by decide), lv_osw c_18 (k := 59) (by decide)]; rfl) (by decide) ?_
                  refine lv_bipush (v := 6) hx hb dX4_sortOf_78 (by decide) ?_
                  exact W.iret (v := (6 : Int32)) hx hb hr (fun t ht hW => ⟨(6 : Int32), rfl, trivial, ht⟩) (fun _ h => absurd h List.not_mem_nil) dX4_sortOf_80
        · skip
          have tc_14 : ¬ 57 < a.toInt := fun h => c_14 ((fa_lt _ _).mpr h)
          exfalso; omega
    · skip
      have tc_12 : ¬ 122 < a.toInt := fun h => c_12 ((fa_lt _ _).mpr h)
      refine lv_iconst (v := 1) hx hb dX4_sortOf_12 (by decide) ?_
      exact W.iret (v := (1 : Int32)) hx hb hr (fun t ht hW => ⟨(1 : Int32), rfl, trivial, ht⟩) (fun _ h => absurd h List.not_mem_nil) dX4_sortOf_13

def w_q_advance : List Cond := .code yX4_advance cX4_advance 1 none :: (([.fieldLink RX4 32 "LampShapes$Script" "end" "I", .fieldLink RX4 29 "LampShapes$Script" "start" "I", .fieldLink RX4 12 "LampShapes$Script" "tape" "LLampShapes$Tape;", .methodLink RX4 53 yX4_sortOf, .static yX4_sortOf, .initialized RX4, .code yX4_sortOf cX4_sortOf 1 (some .int), .fieldLink RX4 25 "LampShapes$Script" "token" "I"] : List Cond) ++ wsX40 ++ wsX70)
set_option maxRecDepth 20000 in
theorem g_q_advance_q_sortOf_53 : GoodIn w_q_advance (va_wsS RX4 53 yX4_sortOf w_q_sortOf) := goodIn_r _ [4, 5, 6, 7] rfl (by decide +kernel)
set_option maxHeartbeats 4000000 in
set_option maxRecDepth 100000 in
theorem q_advance (l : Launch) (dC : Nat → ClassId) (dI : Nat → Nat → Nat) (ad : Nat → Nat) (h0 : Nat) (eh : Nat) (dh : Nat) (tk : Int32) (stt : Int32) (en : Int32) (dr : Int64) (ts : Int32) (q0 : Nat) (c0 : ClassId) (f0 : Nat → Int32) (sz : Nat) (hts2 : 0 ≤ ts.toInt ∧ ts.toInt ≤ 120) (hen : 0 ≤ en.toInt ∧ en.toInt ≤ ts.toInt) : Met l yX4_advance w_q_advance ({ frames := 1, cells := 0, slots := 0, locals := 20 } : Room) (va_Pc [.ref h0] (preM dC dI ad [(c0, .int)] [(h0, .inr (2, [.ref eh, .ref dh, .int tk, .int stt, .int en, .long dr])), (eh, .inr (5, [.int ts, .ref q0])), (q0, .inl (c0, 120, .inl f0))] sz)) (va_Qv (fun (_ : Unit) => True) (fun _ t => ∃ (tk2 : Int32), ∃ (st2 : Int32), ∃ (en2 : Int32), (0 ≤ st2.toInt ∧ st2.toInt ≤ en2.toInt ∧ en2.toInt ≤ ts.toInt) ∧ va_P (dC, dI) vwCl [(h0, .inr (2, [.ref eh, .ref dh, .int tk2, .int st2, .int en2, .long dr])), (eh, .inr (5, [.int ts, .ref q0])), (q0, .inl (c0, 120, .inl f0))] t.heap ∧ va_K (dC, dI) vwCl [(c0, .int)] t ∧ va_D (va_A [(h0, .inr (2, [.ref eh, .ref dh, .int tk, .int stt, .int en, .long dr])), (eh, .inr (5, [.int ts, .ref q0])), (q0, .inl (c0, 120, .inl f0))] sz) [(h0, .inr (2, [.ref eh, .ref dh, .int tk2, .int st2, .int en2, .long dr])), (eh, .inr (5, [.int ts, .ref q0])), (q0, .inl (c0, 120, .inl f0))]) (va_A [(h0, .inr (2, [.ref eh, .ref dh, .int tk, .int stt, .int en, .long dr])), (eh, .inr (5, [.int ts, .ref q0])), (q0, .inl (c0, 120, .inl f0))] sz)) 0 0 (va_A [(h0, .inr (2, [.ref eh, .ref dh, .int tk, .int stt, .int en, .long dr])), (eh, .inr (5, [.int ts, .ref q0])), (q0, .inl (c0, 120, .inl f0))] sz) := by
  refine Met.ofW (cc := cX4_advance) (maxL := 1) (ret := none) (by decide) rfl ?_
  intro p e s m args below meth c s₁ B hml hv
  obtain ⟨rfl, hsz, hP, hK, hD0, hev⟩ := hv
  have hx := B.exec
  have hb := B.bytes
  have hr := B.returns
  have hts := atoms_spec (ws := w_q_advance) B.pre
  have hown : s.vm.findClass RX4 = some m.cls := findClass_of_methodNamed B.named
  have hlocks := B.notSynchronized
  have inX4 : ∀ w ∈ wsX40, w ∈ w_q_advance := fun w h => List.mem_cons_of_mem _ (List.mem_append_left _ (List.mem_append_right _ h))
  have inX7 : ∀ w ∈ wsX70, w ∈ w_q_advance := fun w h => List.mem_cons_of_mem _ (List.mem_append_right _ h)
  subst hsz
  have hD := hD0.self (sz := s.heap.size)
  generalize hAe : va_A [(h0, .inr (2, [.ref eh, .ref dh, .int tk, .int stt, .int en, .long dr])), (eh, .inr (5, [.int ts, .ref q0])), (q0, .inl (c0, 120, .inl f0))] s.heap.size = A at hD ⊢
  have hA : ∀ q : Nat, s.heap.size ≤ q → A q := fun q h => by rw [← hAe]; exact Or.inr h
  have hS : va_S A s.heap s.heap [] := va_S.rf
  have hP : va_P (dC, dI) vwCl [(h0, .inr (2, [.ref eh, .ref dh, .int tk, .int stt, .int en, .long dr])), (eh, .inr (5, [.int ts, .ref q0])), (q0, .inl (c0, 120, .inl f0))] s.heap := hP
  have hl := lv_entry ([.ref h0]) (n := 1) (Nat.le_of_ble_eq_true rfl)
  rw [lg_entry_eq]
  generalize (lg_sl ([.ref h0]) ++ List.replicate (1 - (lg_sl ([.ref h0])).length) Slot.unset).toArray = ls at hl ⊢
  have hl : lv_has ls 1 [(0, .ref h0)] := hl
  refine lv_aload_n hx hb dX4_advance_0 rfl (lv_at hl 0 rfl) ?_
  refine lv_aload_n hx hb dX4_advance_1 rfl (lv_at hl 0 rfl) ?_
  refine va_get (D := (dC, dI)) (ci := 2) (v := .int en) (C := RX4) (T := TX4) (N := 6) hx hb hts inX4 hown hK hP 0 rfl rfl 4 (by decide) (hts _ (List.mem_of_getElem? (i := 1) rfl)) (fun _ h9 => h9) rfl dX4_advance_2 ?_
  refine va_put (D := (dC, dI)) (ci := 2) (v := .int en) (ty := .int) (C := RX4) (T := TX4) (N := 6) hx hb hts inX4 tyX4 tyX4_ok nmX4 hown hK hP hD hS 0 rfl rfl 3 (by decide) (hts _ (List.mem_of_getElem? (i := 2) rfl)) (fun _ h9 => h9) rfl (by decide +kernel) rfl rfl (Nat.le_of_ble_eq_true rfl) dX4_advance_5 (fun H locs hP hD hS => ?_)
  have hP : va_P (dC, dI) vwCl [(h0, .inr (2, [.ref eh, .ref dh, .int tk, .int en, .int en, .long dr])), (eh, .inr (5, [.int ts, .ref q0])), (q0, .inl (c0, 120, .inl f0))] H := hP
  have hD : va_D A [(h0, .inr (2, [.ref eh, .ref dh, .int tk, .int en, .int en, .long dr])), (eh, .inr (5, [.int ts, .ref q0])), (q0, .inl (c0, 120, .inl f0))] := hD
  refine pp_loop (ι := Int32) (fun y3 => (ts.toInt - y3.toInt).toNat) (fun y3 H locs ls => (0 ≤ y3.toInt ∧ y3.toInt ≤ ts.toInt) ∧ va_P (dC, dI) vwCl [(h0, .inr (2, [.ref eh, .ref dh, .int tk, .int y3, .int en, .long dr])), (eh, .inr (5, [.int ts, .ref q0])), (q0, .inl (c0, 120, .inl f0))] H ∧ va_D A [(h0, .inr (2, [.ref eh, .ref dh, .int tk, .int y3, .int en, .long dr])), (eh, .inr (5, [.int ts, .ref q0])), (q0, .inl (c0, 120, .inl f0))] ∧ va_S A s.heap H locs ∧ lv_has ls 1 [(0, .ref h0)]) ?_ en _ _ _ ⟨(by first | omega | decide | (simp only [fa_lt, fa_le, fa_eq, and_true, true_and, and_false, false_and, not_true_eq_false, not_false_eq_true, li_0, li_1, li_2, li_3, li_4, li_5, li_6, li_7, li_8, li_9, li_10, li_12, li_15, li_16, li_20, li_30, li_34, li_38, li_40, li_63, li_64, li_65, li_78, li_120, li_1000, li_4000, li_10000, li_11077, li_255, li_65535, li_m1, li_m2, li_m1000000001, li_m1000000002, li_m1000000003, li_m1000000004, li_m1000000005, li_m1000000006, li_m1000000007, or_true, true_or, or_false, false_or, implies_true, true_implies, false_implies] <;> omega)), hP.sub [0, 1, 2] rfl, hD.sub [0, 1, 2] (by decide) rfl, hS, lv_sub hl [0] rfl⟩
  intro k_1 ihk_1 u H locs ls hm hI
  obtain ⟨y3, rfl⟩ : ∃ z, z = u := ⟨_, rfl⟩
  obtain ⟨jk_1_0, hP, hD, hS, hl⟩ := hI
  have hmk_1 : (ts.toInt - y3.toInt).toNat < k_1 + 1 := hm
  clear hm
  have jk_1_0 : 0 ≤ y3.toInt ∧ y3.toInt ≤ ts.toInt := jk_1_0
  have hl : lv_has ls 1 [(0, .ref h0)] := hl
  have hP : va_P (dC, dI) vwCl [(h0, .inr (2, [.ref eh, .ref dh, .int tk, .int y3, .int en, .long dr])), (eh, .inr (5, [.int ts, .ref q0])), (q0, .inl (c0, 120, .inl f0))] H := hP
  have hD : va_D A [(h0, .inr (2, [.ref eh, .ref dh, .int tk, .int y3, .int en, .long dr])), (eh, .inr (5, [.int ts, .ref q0])), (q0, .inl (c0, 120, .inl f0))] := hD
  refine lv_aload_n hx hb dX4_advance_8 rfl (lv_at hl 0 rfl) ?_
  refine va_get (D := (dC, dI)) (ci := 2) (v := .int y3) (C := RX4) (T := TX4) (N := 6) hx hb hts inX4 hown hK hP 0 rfl rfl 3 (by decide) (hts _ (List.mem_of_getElem? (i := 2) rfl)) (fun _ h9 => h9) rfl dX4_advance_9 ?_
  refine lv_aload_n hx hb dX4_advance_12 rfl (lv_at hl 0 rfl) ?_
  refine va_get (D := (dC, dI)) (ci := 2) (v := .ref eh) (C := RX4) (T := TX4) (N := 6) hx hb hts inX4 hown hK hP 0 rfl rfl 0 (by decide) (hts _ (List.mem_of_getElem? (i := 3) rfl)) (fun _ h9 => h9) rfl dX4_advance_13 ?_
  refine va_getN (D := (dC, dI)) (ci := 5) (v := .int ts) (C := RX7) (T := TX7) (N := 2) hx hb hts inX7 hown hK hP 1 rfl rfl 0 (by decide) (ev_nest hev 16 rfl) (fun _ h9 => h9) rfl dX4_advance_16 ?_
  have rc_2_x := pp_rng y3
  have rc_2_y := pp_rng ts
  refine lv_icmp_ge (tgt := 54) hx hb dX4_advance_19 (by decide) (fun c_2 => ?_) (fun c_2 => ?_)
  · skip
    have tc_2 : ts.toInt ≤ y3.toInt := (fa_le _ _).mp c_2
    refine lv_aload_n hx hb dX4_advance_54 rfl (lv_at hl 0 rfl) ?_
    refine lv_aload_n hx hb dX4_advance_55 rfl (lv_at hl 0 rfl) ?_
    refine va_get (D := (dC, dI)) (ci := 2) (v := .int y3) (C := RX4) (T := TX4) (N := 6) hx hb hts inX4 hown hK hP 0 rfl rfl 3 (by decide) (hts _ (List.mem_of_getElem? (i := 2) rfl)) (fun _ h9 => h9) rfl dX4_advance_56 ?_
    refine va_put (D := (dC, dI)) (ci := 2) (v := .int y3) (ty := .int) (C := RX4) (T := TX4) (N := 6) hx hb hts inX4 tyX4 tyX4_ok nmX4 hown hK hP hD hS 0 rfl rfl 4 (by decide) (hts _ (List.mem_of_getElem? (i := 1) rfl)) (fun _ h9 => h9) rfl (by decide +kernel) rfl rfl (Nat.le_of_ble_eq_true rfl) dX4_advance_59 (fun H locs hP hD hS => ?_)
    have hP : va_P (dC, dI) vwCl [(h0, .inr (2, [.ref eh, .ref dh, .int tk, .int y3, .int y3, .long dr])), (eh, .inr (5, [.int ts, .ref q0])), (q0, .inl (c0, 120, .inl f0))] H := hP
    have hD : va_D A [(h0, .inr (2, [.ref eh, .ref dh, .int tk, .int y3, .int y3, .long dr])), (eh, .inr (5, [.int ts, .ref q0])), (q0, .inl (c0, 120, .inl f0))] := hD
    refine lv_aload_n hx hb dX4_advance_62 rfl (lv_at hl 0 rfl) ?_
    refine va_get (D := (dC, dI)) (ci := 2) (v := .int y3) (C := RX4) (T := TX4) (N := 6) hx hb hts inX4 hown hK hP 0 rfl rfl 3 (by decide) (hts _ (List.mem_of_getElem? (i := 2) rfl)) (fun _ h9 => h9) rfl dX4_advance_63 ?_
    refine lv_aload_n hx hb dX4_advance_66 rfl (lv_at hl 0 rfl) ?_
    refine va_get (D := (dC, dI)) (ci := 2) (v := .ref eh) (C := RX4) (T := TX4) (N := 6) hx hb hts inX4 hown hK hP 0 rfl rfl 0 (by decide) (hts _ (List.mem_of_getElem? (i := 3) rfl)) (fun _ h9 => h9) rfl dX4_advance_67 ?_
    refine va_getN (D := (dC, dI)) (ci := 5) (v := .int ts) (C := RX7) (T := TX7) (N := 2) hx hb hts inX7 hown hK hP 1 rfl rfl 0 (by decide) (ev_nest hev 16 rfl) (fun _ h9 => h9) rfl dX4_advance_70 ?_
    have rc_3_x := pp_rng y3
    have rc_3_y := pp_rng ts
    refine lv_icmp_lt (tgt := 82) hx hb dX4_advance_73 (by decide) (fun c_3 => ?_) (fun c_3 => ?_)
    · skip
      have tc_3 : y3.toInt < ts.toInt := (fa_lt _ _).mp c_3
      refine lv_aload_n hx hb dX4_advance_82 rfl (lv_at hl 0 rfl) ?_
      refine lv_aload_n hx hb dX4_advance_83 rfl (lv_at hl 0 rfl) ?_
      refine va_get (D := (dC, dI)) (ci := 2) (v := .ref eh) (C := RX4) (T := TX4) (N := 6) hx hb hts inX4 hown hK hP 0 rfl rfl 0 (by decide) (hts _ (List.mem_of_getElem? (i := 3) rfl)) (fun _ h9 => h9) rfl dX4_advance_84 ?_
      refine va_getN (D := (dC, dI)) (ci := 5) (v := .ref q0) (C := RX7) (T := TX7) (N := 2) hx hb hts inX7 hown hK hP 1 rfl rfl 1 (by decide) (ev_nest hev 18 rfl) (fun _ h9 => h9) rfl dX4_advance_87 ?_
      refine lv_aload_n hx hb dX4_advance_90 rfl (lv_at hl 0 rfl) ?_
      refine va_get (D := (dC, dI)) (ci := 2) (v := .int y3) (C := RX4) (T := TX4) (N := 6) hx hb hts inX4 hown hK hP 0 rfl rfl 3 (by decide) (hts _ (List.mem_of_getElem? (i := 2) rfl)) (fun _ h9 => h9) rfl dX4_advance_91 ?_
      refine va_iald hx hb hK hP 2 0 rfl rfl (vp_in_iff.mpr ⟨by omega, by omega⟩) dX4_advance_94 ?_
      refine lv_topi (fun n_4 en_4 => ?_)
      clear en_4
      have hPc := hP.sub (ws' := []) [] rfl
      have hKc := hK.sub (tys' := []) [] rfl
      refine vp_callSi (W.runS (As := [.int n_4]) (rest := [.ref h0]) ⟨hx, hb, hml, hown, hts⟩ (q_sortOf l dC dI ad n_4 ) (va_cwS 1 hts g_q_advance_q_sortOf_53 rfl rfl rfl (by decide +kernel) ⟨(Nat.le_of_ble_eq_true rfl), (Nat.le_of_ble_eq_true rfl)⟩) ⟨preS_blind, fun U hU hW => ⟨rfl, preS_at hU hW hPc hKc hev⟩⟩ rfl rfl hl.1 rfl (lv_room (Nat.le_of_ble_eq_true rfl)) dX4_advance_95 ⟨(Nat.le_of_ble_eq_true rfl), (Nat.le_of_ble_eq_true rfl)⟩) (fun r_5 hw => ?_)
      refine va_put (D := (dC, dI)) (ci := 2) (v := .int r_5) (ty := .int) (C := RX4) (T := TX4) (N := 6) hx hb hts inX4 tyX4 tyX4_ok nmX4 hown hK hP hD hS 0 rfl rfl 2 (by decide) (hts _ (List.mem_of_getElem? (i := 8) rfl)) (fun _ h9 => h9) rfl (by decide +kernel) rfl rfl (Nat.le_of_ble_eq_true rfl) dX4_advance_98 (fun H locs hP hD hS => ?_)
      have hP : va_P (dC, dI) vwCl [(h0, .inr (2, [.ref eh, .ref dh, .int r_5, .int y3, .int y3, .long dr])), (eh, .inr (5, [.int ts, .ref q0])), (q0, .inl (c0, 120, .inl f0))] H := hP
      have hD : va_D A [(h0, .inr (2, [.ref eh, .ref dh, .int r_5, .int y3, .int y3, .long dr])), (eh, .inr (5, [.int ts, .ref q0])), (q0, .inl (c0, 120, .inl f0))] := hD
      refine lv_aload_n hx hb dX4_advance_101 rfl (lv_at hl 0 rfl) ?_
      refine lv_dup hx hb dX4_advance_102 rfl ?_
      refine va_get (D := (dC, dI)) (ci := 2) (v := .int y3) (C := RX4) (T := TX4) (N := 6) hx hb hts inX4 hown hK hP 0 rfl rfl 4 (by decide) (hts _ (List.mem_of_getElem? (i := 1) rfl)) (fun _ h9 => h9) rfl dX4_advance_103 ?_
      refine lv_iconst (v := 1) hx hb dX4_advance_106 (by decide) ?_
      refine lv_iadd hx hb dX4_advance_107 ?_
      refine lv_topi (fun n_6 en_6 => ?_)
      have tn_6 : n_6.toInt = y3.toInt + 1 := pp_add en_6 rfl rfl (by omega) (by omega)
      clear en_6
      refine va_put (D := (dC, dI)) (ci := 2) (v := .int n_6) (ty := .int) (C := RX4) (T := TX4) (N := 6) hx hb hts inX4 tyX4 tyX4_ok nmX4 hown hK hP hD hS 0 rfl rfl 4 (by decide) (hts _ (List.mem_of_getElem? (i := 1) rfl)) (fun _ h9 => h9) rfl (by decide +kernel) rfl rfl (Nat.le_of_ble_eq_true rfl) dX4_advance_108 (fun H locs hP hD hS => ?_)
      have hP : va_P (dC, dI) vwCl [(h0, .inr (2, [.ref eh, .ref dh, .int r_5, .int y3, .int n_6, .long dr])), (eh, .inr (5, [.int ts, .ref q0])), (q0, .inl (c0, 120, .inl f0))] H := hP
      have hD : va_D A [(h0, .inr (2, [.ref eh, .ref dh, .int r_5, .int y3, .int n_6, .long dr])), (eh, .inr (5, [.int ts, .ref q0])), (q0, .inl (c0, 120, .inl f0))] := hD
      refine lv_aload_n hx hb dX4_advance_111 rfl (lv_at hl 0 rfl) ?_
      refine va_get (D := (dC, dI)) (ci := 2) (v := .int r_5) (C := RX4) (T := TX4) (N := 6) hx hb hts inX4 hown hK hP 0 rfl rfl 2 (by decide) (hts _ (List.mem_of_getElem? (i := 8) rfl)) (fun _ h9 => h9) rfl dX4_advance_112 ?_
      refine lv_iconst (v := 4) hx hb dX4_advance_115 (by decide) ?_
      refine lv_icmp_eq (tgt := 128) hx hb dX4_advance_116 (by decide) (fun c_7 => ?_) (fun c_7 => ?_)
      · skip
        have tc_7 : r_5.toInt = 4 := (fa_eq _ _).mp c_7
        have hP9 := hP.sub (ws' := [(h0, .inr (2, [.ref eh, .ref dh, .int r_5, .int y3, .int n_6, .long dr])), (eh, .inr (5, [.int ts, .ref q0])), (q0, .inl (c0, 120, .inl f0))]) [0, 1, 2] rfl
        have hD9 := hD.sub (ws' := [(h0, .inr (2, [.ref eh, .ref dh, .int r_5, .int y3, .int n_6, .long dr])), (eh, .inr (5, [.int ts, .ref q0])), (q0, .inl (c0, 120, .inl f0))]) [0, 1, 2] (by decide) rfl
        have hK9 := hK.sub (tys' := [(c0, .int)]) [0] rfl
        exact W.vret hx hb hr (fun t ht hW => ⟨⟨(), rfl, trivial, r_5, y3, n_6, (by first | omega | decide | (simp only [fa_lt, fa_le, fa_eq, and_true, true_and, and_false, false_and, not_true_eq_false, not_false_eq_true, li_0, li_1, li_2, li_3, li_4, li_5, li_6, li_7, li_8, li_9, li_10, li_12, li_15, li_16, li_20, li_30, li_34, li_38, li_40, li_63, li_64, li_65, li_78, li_120, li_1000, li_4000, li_10000, li_11077, li_255, li_65535, li_m1, li_m2, li_m1000000001, li_m1000000002, li_m1000000003, li_m1000000004, li_m1000000005, li_m1000000006, li_m1000000007, or_true, true_or, or_false, false_or, implies_true, true_implies, false_implies] <;> omega)), by rw [ht]; exact hP9, va_K.moved hW.alike hK9, hD9⟩, hS.F ht⟩) hS.2.2 dX4_advance_128
      · skip
        have tc_7 : ¬ r_5.toInt = 4 := fun h => c_7 ((fa_eq _ _).mpr h)
        refine lv_aload_n hx hb dX4_advance_119 rfl (lv_at hl 0 rfl) ?_
        refine va_get (D := (dC, dI)) (ci := 2) (v := .int r_5) (C := RX4) (T := TX4) (N := 6) hx hb hts inX4 hown hK hP 0 rfl rfl 2 (by decide) (hts _ (List.mem_of_getElem? (i := 8) rfl)) (fun _ h9 => h9) rfl dX4_advance_120 ?_
        refine lv_bipush (v := 6) hx hb dX4_advance_123 (by decide) ?_
        refine lv_icmp_ne (tgt := 129) hx hb dX4_advance_125 (by decide) (fun c_8 => ?_) (fun c_8 => ?_)
        · skip
          have tc_8 : ¬ r_5.toInt = 6 := fun h => c_8 ((fa_eq _ _).mpr h)
          refine pp_loop (ι := Int32) (fun y4 => (ts.toInt - y4.toInt).toNat) (fun y4 H locs ls => (y3.toInt ≤ y4.toInt ∧ y4.toInt ≤ ts.toInt) ∧ va_P (dC, dI) vwCl [(h0, .inr (2, [.ref eh, .ref dh, .int r_5, .int y3, .int y4, .long dr])), (eh, .inr (5, [.int ts, .ref q0])), (q0, .inl (c0, 120, .inl f0))] H ∧ va_D A [(h0, .inr (2, [.ref eh, .ref dh, .int r_5, .int y3, .int y4, .long dr])), (eh, .inr (5, [.int ts, .ref q0])), (q0, .inl (c0, 120, .inl f0))] ∧ va_S A s.heap H locs ∧ lv_has ls 1 [(0, .ref h0)]) ?_ n_6 _ _ _ ⟨(by first | omega | decide | (simp only [fa_lt, fa_le, fa_eq, and_true, true_and, and_false, false_and, not_true_eq_false, not_false_eq_true, li_0, li_1, li_2, li_3, li_4, li_5, li_6, li_7, li_8, li_9, li_10, li_12, li_15, li_16, li_20, li_30, li_34, li_38, li_40, li_63, li_64, li_65, li_78, li_120, li_1000, li_4000, li_10000, li_11077, li_255, li_65535, li_m1, li_m2, li_m1000000001, li_m1000000002, li_m1000000003, li_m1000000004, li_m1000000005, li_m1000000006, li_m1000000007, or_true, true_or, or_false, false_or, implies_true, true_implies, false_implies] <;> omega)), hP.sub [0, 1, 2] rfl, hD.sub [0, 1, 2] (by decide) rfl, hS, lv_sub hl [0] rfl⟩
          intro k_9 ihk_9 u H locs ls hm hI
          obtain ⟨y4, rfl⟩ : ∃ z, z = u := ⟨_, rfl⟩
          obtain ⟨jk_9_0, hP, hD, hS, hl⟩ := hI
          have hmk_9 : (ts.toInt - y4.toInt).toNat < k_9 + 1 := hm
          clear hm
          have jk_9_0 : y3.toInt ≤ y4.toInt ∧ y4.toInt ≤ ts.toInt := jk_9_0
          have hl : lv_has ls 1 [(0, .ref h0)] := hl
          have hP : va_P (dC, dI) vwCl [(h0, .inr (2, [.ref eh, .ref dh, .int r_5, .int y3, .int y4, .long dr])), (eh, .inr (5, [.int ts, .ref q0])), (q0, .inl (c0, 120, .inl f0))] H := hP
          have hD : va_D A [(h0, .inr (2, [.ref eh, .ref dh, .int r_5, .int y3, .int y4, .long dr])), (eh, .inr (5, [.int ts, .ref q0])), (q0, .inl (c0, 120, .inl f0))] := hD
          refine lv_aload_n hx hb dX4_advance_129 rfl (lv_at hl 0 rfl) ?_
          refine va_get (D := (dC, dI)) (ci := 2) (v := .int y4) (C := RX4) (T := TX4) (N := 6) hx hb hts inX4 hown hK hP 0 rfl rfl 4 (by decide) (hts _ (List.mem_of_getElem? (i := 1) rfl)) (fun _ h9 => h9) rfl dX4_advance_130 ?_
          refine lv_aload_n hx hb dX4_advance_133 rfl (lv_at hl 0 rfl) ?_
          refine va_get (D := (dC, dI)) (ci := 2) (v := .ref eh) (C := RX4) (T := TX4) (N := 6) hx hb hts inX4 hown hK hP 0 rfl rfl 0 (by decide) (hts _ (List.mem_of_getElem? (i := 3) rfl)) (fun _ h9 => h9) rfl dX4_advance_134 ?_
          refine va_getN (D := (dC, dI)) (ci := 5) (v := .int ts) (C := RX7) (T := TX7) (N := 2) hx hb hts inX7 hown hK hP 1 rfl rfl 0 (by decide) (ev_nest hev 16 rfl) (fun _ h9 => h9) rfl dX4_advance_137 ?_
          have rc_10_x := pp_rng y4
          have rc_10_y := pp_rng ts
          refine lv_icmp_ge (tgt := 178) hx hb dX4_advance_140 (by decide) (fun c_10 => ?_) (fun c_10 => ?_)
          · skip
            have tc_10 : ts.toInt ≤ y4.toInt := (fa_le _ _).mp c_10
            have hP9 := hP.sub (ws' := [(h0, .inr (2, [.ref eh, .ref dh, .int r_5, .int y3, .int y4, .long dr])), (eh, .inr (5, [.int ts, .ref q0])), (q0, .inl (c0, 120, .inl f0))]) [0, 1, 2] rfl
            have hD9 := hD.sub (ws' := [(h0, .inr (2, [.ref eh, .ref dh, .int r_5, .int y3, .int y4, .long dr])), (eh, .inr (5, [.int ts, .ref q0])), (q0, .inl (c0, 120, .inl f0))]) [0, 1, 2] (by decide) rfl
            have hK9 := hK.sub (tys' := [(c0, .int)]) [0] rfl
            exact W.vret hx hb hr (fun t ht hW => ⟨⟨(), rfl, trivial, r_5, y3, y4, (by first | omega | decide | (simp only [fa_lt, fa_le, fa_eq, and_true, true_and, and_false, false_and, not_true_eq_false, not_false_eq_true, li_0, li_1, li_2, li_3, li_4, li_5, li_6, li_7, li_8, li_9, li_10, li_12, li_15, li_16, li_20, li_30, li_34, li_38, li_40, li_63, li_64, li_65, li_78, li_120, li_1000, li_4000, li_10000, li_11077, li_255, li_65535, li_m1, li_m2, li_m1000000001, li_m1000000002, li_m1000000003, li_m1000000004, li_m1000000005, li_m1000000006, li_m1000000007, or_true, true_or, or_false, false_or, implies_true, true_implies, false_implies] <;> omega)), by rw [ht]; exact hP9, va_K.moved hW.alike hK9, hD9⟩, hS.F ht⟩) hS.2.2 dX4_advance_178
          · skip
            have tc_10 : ¬ ts.toInt ≤ y4.toInt := fun h => c_10 ((fa_le _ _).mpr h)
            refine lv_aload_n hx hb dX4_advance_143 rfl (lv_at hl 0 rfl) ?_
            refine va_get (D := (dC, dI)) (ci := 2) (v := .ref eh) (C := RX4) (T := TX4) (N := 6) hx hb hts inX4 hown hK hP 0 rfl rfl 0 (by decide) (hts _ (List.mem_of_getElem? (i := 3) rfl)) (fun _ h9 => h9) rfl dX4_advance_144 ?_
            refine va_getN (D := (dC, dI)) (ci := 5) (v := .ref q0) (C := RX7) (T := TX7) (N := 2) hx hb hts inX7 hown hK hP 1 rfl rfl 1 (by decide) (ev_nest hev 18 rfl) (fun _ h9 => h9) rfl dX4_advance_147 ?_
            refine lv_aload_n hx hb dX4_advance_150 rfl (lv_at hl 0 rfl) ?_
            refine va_get (D := (dC, dI)) (ci := 2) (v := .int y4) (C := RX4) (T := TX4) (N := 6) hx hb hts inX4 hown hK hP 0 rfl rfl 4 (by decide) (hts _ (List.mem_of_getElem? (i := 1) rfl)) (fun _ h9 => h9) rfl dX4_advance_151 ?_
            refine va_iald hx hb hK hP 2 0 rfl rfl (vp_in_iff.mpr ⟨by omega, by omega⟩) dX4_advance_154 ?_
            refine lv_topi (fun n_11 en_11 => ?_)
            clear en_11
            have hPc := hP.sub (ws' := []) [] rfl
            have hKc := hK.sub (tys' := []) [] rfl
            refine vp_callSi (W.runS (As := [.int n_11]) (rest := []) ⟨hx, hb, hml, hown, hts⟩ (q_sortOf l dC dI ad n_11 ) (va_cwS 1 hts g_q_advance_q_sortOf_53 rfl rfl rfl (by decide +kernel) ⟨(Nat.le_of_ble_eq_true rfl), (Nat.le_of_ble_eq_true rfl)⟩) ⟨preS_blind, fun U hU hW => ⟨rfl, preS_at hU hW hPc hKc hev⟩⟩ rfl rfl hl.1 rfl (lv_room (Nat.le_of_ble_eq_true rfl)) dX4_advance_155 ⟨(Nat.le_of_ble_eq_true rfl), (Nat.le_of_ble_eq_true rfl)⟩) (fun r_12 hw => ?_)
            refine lv_aload_n hx hb dX4_advance_158 rfl (lv_at hl 0 rfl) ?_
            refine va_get (D := (dC, dI)) (ci := 2) (v := .int r_5) (C := RX4) (T := TX4) (N := 6) hx hb hts inX4 hown hK hP 0 rfl rfl 2 (by decide) (hts _ (List.mem_of_getElem? (i := 8) rfl)) (fun _ h9 => h9) rfl dX4_advance_159 ?_
            have rc_13_x := pp_rng r_12
            have rc_13_y := pp_rng r_5
            refine lv_icmp_ne (tgt := 178) hx hb dX4_advance_162 (by decide) (fun c_13 => ?_) (fun c_13 => ?_)
            · skip
              have tc_13 : ¬ r_12.toInt = r_5.toInt := fun h => c_13 ((fa_eq _ _).mpr h)
              have hP9 := hP.sub (ws' := [(h0, .inr (2, [.ref eh, .ref dh, .int r_5, .int y3, .int y4, .long dr])), (eh, .inr (5, [.int ts, .ref q0])), (q0, .inl (c0, 120, .inl f0))]) [0, 1, 2] rfl
              have hD9 := hD.sub (ws' := [(h0, .inr (2, [.ref eh, .ref dh, .int r_5, .int y3, .int y4, .long dr])), (eh, .inr (5, [.int ts, .ref q0])), (q0, .inl (c0, 120, .inl f0))]) [0, 1, 2] (by decide) rfl
              have hK9 := hK.sub (tys' := [(c0, .int)]) [0] rfl
              exact W.vret hx hb hr (fun t ht hW => ⟨⟨(), rfl, trivial, r_5, y3, y4, (by first | omega | decide | (simp only [fa_lt, fa_le, fa_eq, and_true, true_and, and_false, false_and, not_true_eq_false, not_false_eq_true, li_0, li_1, li_2, li_3, li_4, li_5, li_6, li_7, li_8, li_9, li_10, li_12, li_15, li_16, li_20, li_30, li_34, li_38, li_40, li_63, li_64, li_65, li_78, li_120, li_1000, li_4000, li_10000, li_11077, li_255, li_65535, li_m1, li_m2, li_m1000000001, li_m1000000002, li_m1000000003, li_m1000000004, li_m1000000005, li_m1000000006, li_m1000000007, or_true, true_or, or_false, false_or, implies_true, true_implies, false_implies] <;> omega)), by rw [ht]; exact hP9, va_K.moved hW.alike hK9, hD9⟩, hS.F ht⟩) hS.2.2 dX4_advance_178
            · skip
              have tc_13 : r_12.toInt = r_5.toInt := (fa_eq _ _).mp c_13
              refine lv_aload_n hx hb dX4_advance_165 rfl (lv_at hl 0 rfl) ?_
              refine lv_dup hx hb dX4_advance_166 rfl ?_
              refine va_get (D := (dC, dI)) (ci := 2) (v := .int y4) (C := RX4) (T := TX4) (N := 6) hx hb hts inX4 hown hK hP 0 rfl rfl 4 (by decide) (hts _ (List.mem_of_getElem? (i := 1) rfl)) (fun _ h9 => h9) rfl dX4_advance_167 ?_
              refine lv_iconst (v := 1) hx hb dX4_advance_170 (by decide) ?_
              refine lv_iadd hx hb dX4_advance_171 ?_
              refine lv_topi (fun n_14 en_14 => ?_)
              have tn_14 : n_14.toInt = y4.toInt + 1 := pp_add en_14 rfl rfl (by omega) (by omega)
              clear en_14
              refine va_put (D := (dC, dI)) (ci := 2) (v := .int n_14) (ty := .int) (C := RX4) (T := TX4) (N := 6) hx hb hts inX4 tyX4 tyX4_ok nmX4 hown hK hP hD hS 0 rfl rfl 4 (by decide) (hts _ (List.mem_of_getElem? (i := 1) rfl)) (fun _ h9 => h9) rfl (by decide +kernel) rfl rfl (Nat.le_of_ble_eq_true rfl) dX4_advance_172 (fun H locs hP hD hS => ?_)
              have hP : va_P (dC, dI) vwCl [(h0, .inr (2, [.ref eh, .ref dh, .int r_5, .int y3, .int n_14, .long dr])), (eh, .inr (5, [.int ts, .ref q0])), (q0, .inl (c0, 120, .inl f0))] H := hP
              have hD : va_D A [(h0, .inr (2, [.ref eh, .ref dh, .int r_5, .int y3, .int n_14, .long dr])), (eh, .inr (5, [.int ts, .ref q0])), (q0, .inl (c0, 120, .inl f0))] := hD
              refine lv_goto (tgt := 129) hx hb dX4_advance_175 (by decide) ?_
              exact ihk_9 n_14 _ _ _ (by show (ts.toInt - n_14.toInt).toNat < k_9; omega) ⟨(by first | omega | decide | (simp only [fa_lt, fa_le, fa_eq, and_true, true_and, and_false, false_and, not_true_eq_false, not_false_eq_true, li_0, li_1, li_2, li_3, li_4, li_5, li_6, li_7, li_8, li_9, li_10, li_12, li_15, li_16, li_20, li_30, li_34, li_38, li_40, li_63, li_64, li_65, li_78, li_120, li_1000, li_4000, li_10000, li_11077, li_255, li_65535, li_m1, li_m2, li_m1000000001, li_m1000000002, li_m1000000003, li_m1000000004, li_m1000000005, li_m1000000006, li_m1000000007, or_true, true_or, or_false, false_or, implies_true, true_implies, false_implies] <;> omega)), hP.sub [0, 1, 2] rfl, hD.sub [0, 1, 2] (by decide) rfl, hS, lv_sub hl [0] rfl⟩
        · skip
          have tc_8 : r_5.toInt = 6 := (fa_eq _ _).mp c_8
          have hP9 := hP.sub (ws' := [(h0, .inr (2, [.ref eh, .ref dh, .int r_5, .int y3, .int n_6, .long dr])), (eh, .inr (5, [.int ts, .ref q0])), (q0, .inl (c0, 120, .inl f0))]) [0, 1, 2] rfl
          have hD9 := hD.sub (ws' := [(h0, .inr (2, [.ref eh, .ref dh, .int r_5, .int y3, .int n_6, .long dr])), (eh, .inr (5, [.int ts, .ref q0])), (q0, .inl (c0, 120, .inl f0))]) [0, 1, 2] (by decide) rfl
          have hK9 := hK.sub (tys' := [(c0, .int)]) [0] rfl
          exact W.vret hx hb hr (fun t ht hW => ⟨⟨(), rfl, trivial, r_5, y3, n_6, (by first | omega | decide | (simp only [fa_lt, fa_le, fa_eq, and_true, true_and, and_false, false_and, not_true_eq_false, not_false_eq_true, li_0, li_1, li_2, li_3, li_4, li_5, li_6, li_7, li_8, li_9, li_10, li_12, li_15, li_16, li_20, li_30, li_34, li_38, li_40, li_63, li_64, li_65, li_78, li_120, li_1000, li_4000, li_10000, li_11077, li_255, li_65535, li_m1, li_m2, li_m1000000001, li_m1000000002, li_m1000000003, li_m1000000004, li_m1000000005, li_m1000000006, li_m1000000007, or_true, true_or, or_false, false_or, implies_true, true_implies, false_implies] <;> omega)), by rw [ht]; exact hP9, va_K.moved hW.alike hK9, hD9⟩, hS.F ht⟩) hS.2.2 dX4_advance_128
    · skip
      have tc_3 : ¬ y3.toInt < ts.toInt := fun h => c_3 ((fa_lt _ _).mpr h)
      refine lv_aload_n hx hb dX4_advance_76 rfl (lv_at hl 0 rfl) ?_
      refine lv_iconst (v := 0) hx hb dX4_advance_77 (by decide) ?_
      refine va_put (D := (dC, dI)) (ci := 2) (v := .int 0) (ty := .int) (C := RX4) (T := TX4) (N := 6) hx hb hts inX4 tyX4 tyX4_ok nmX4 hown hK hP hD hS 0 rfl rfl 2 (by decide) (hts _ (List.mem_of_getElem? (i := 8) rfl)) (fun _ h9 => h9) rfl (by decide +kernel) rfl rfl (Nat.le_of_ble_eq_true rfl) dX4_advance_78 (fun H locs hP hD hS => ?_)
      have hP : va_P (dC, dI) vwCl [(h0, .inr (2, [.ref eh, .ref dh, .int 0, .int y3, .int y3, .long dr])), (eh, .inr (5, [.int ts, .ref q0])), (q0, .inl (c0, 120, .inl f0))] H := hP
      have hD : va_D A [(h0, .inr (2, [.ref eh, .ref dh, .int 0, .int y3, .int y3, .long dr])), (eh, .inr (5, [.int ts, .ref q0])), (q0, .inl (c0, 120, .inl f0))] := hD
      have hP9 := hP.sub (ws' := [(h0, .inr (2, [.ref eh, .ref dh, .int 0, .int y3, .int y3, .long dr])), (eh, .inr (5, [.int ts, .ref q0])), (q0, .inl (c0, 120, .inl f0))]) [0, 1, 2] rfl
      have hD9 := hD.sub (ws' := [(h0, .inr (2, [.ref eh, .ref dh, .int 0, .int y3, .int y3, .long dr])), (eh, .inr (5, [.int ts, .ref q0])), (q0, .inl (c0, 120, .inl f0))]) [0, 1, 2] (by decide) rfl
      have hK9 := hK.sub (tys' := [(c0, .int)]) [0] rfl
      exact W.vret hx hb hr (fun t ht hW => ⟨⟨(), rfl, trivial, 0, y3, y3, (by first | omega | decide | (simp only [fa_lt, fa_le, fa_eq, and_true, true_and, and_false, false_and, not_true_eq_false, not_false_eq_true, li_0, li_1, li_2, li_3, li_4, li_5, li_6, li_7, li_8, li_9, li_10, li_12, li_15, li_16, li_20, li_30, li_34, li_38, li_40, li_63, li_64, li_65, li_78, li_120, li_1000, li_4000, li_10000, li_11077, li_255, li_65535, li_m1, li_m2, li_m1000000001, li_m1000000002, li_m1000000003, li_m1000000004, li_m1000000005, li_m1000000006, li_m1000000007, or_true, true_or, or_false, false_or, implies_true, true_implies, false_implies] <;> omega)), by rw [ht]; exact hP9, va_K.moved hW.alike hK9, hD9⟩, hS.F ht⟩) hS.2.2 dX4_advance_81
  · skip
    have tc_2 : ¬ ts.toInt ≤ y3.toInt := fun h => c_2 ((fa_le _ _).mpr h)
    refine lv_aload_n hx hb dX4_advance_22 rfl (lv_at hl 0 rfl) ?_
    refine va_get (D := (dC, dI)) (ci := 2) (v := .ref eh) (C := RX4) (T := TX4) (N := 6) hx hb hts inX4 hown hK hP 0 rfl rfl 0 (by decide) (hts _ (List.mem_of_getElem? (i := 3) rfl)) (fun _ h9 => h9) rfl dX4_advance_23 ?_
    refine va_getN (D := (dC, dI)) (ci := 5) (v := .ref q0) (C := RX7) (T := TX7) (N := 2) hx hb hts inX7 hown hK hP 1 rfl rfl 1 (by decide) (ev_nest hev 18 rfl) (fun _ h9 => h9) rfl dX4_advance_26 ?_
    refine lv_aload_n hx hb dX4_advance_29 rfl (lv_at hl 0 rfl) ?_
    refine va_get (D := (dC, dI)) (ci := 2) (v := .int y3) (C := RX4) (T := TX4) (N := 6) hx hb hts inX4 hown hK hP 0 rfl rfl 3 (by decide) (hts _ (List.mem_of_getElem? (i := 2) rfl)) (fun _ h9 => h9) rfl dX4_advance_30 ?_
    refine va_iald hx hb hK hP 2 0 rfl rfl (vp_in_iff.mpr ⟨by omega, by omega⟩) dX4_advance_33 ?_
    refine lv_topi (fun n_15 en_15 => ?_)
    clear en_15
    have hPc := hP.sub (ws' := []) [] rfl
    have hKc := hK.sub (tys' := []) [] rfl
    refine vp_callSi (W.runS (As := [.int n_15]) (rest := []) ⟨hx, hb, hml, hown, hts⟩ (q_sortOf l dC dI ad n_15 ) (va_cwS 1 hts g_q_advance_q_sortOf_53 rfl rfl rfl (by decide +kernel) ⟨(Nat.le_of_ble_eq_true rfl), (Nat.le_of_ble_eq_true rfl)⟩) ⟨preS_blind, fun U hU hW => ⟨rfl, preS_at hU hW hPc hKc hev⟩⟩ rfl rfl hl.1 rfl (lv_room (Nat.le_of_ble_eq_true rfl)) dX4_advance_34 ⟨(Nat.le_of_ble_eq_true rfl), (Nat.le_of_ble_eq_true rfl)⟩) (fun r_16 hw => ?_)
    refine lv_iconst (v := 5) hx hb dX4_advance_37 (by decide) ?_
    refine lv_icmp_ne (tgt := 54) hx hb dX4_advance_38 (by decide) (fun c_17 => ?_) (fun c_17 => ?_)
    · skip
      have tc_17 : ¬ r_16.toInt = 5 := fun h => c_17 ((fa_eq _ _).mpr h)
      refine lv_aload_n hx hb dX4_advance_54 rfl (lv_at hl 0 rfl) ?_
      refine lv_aload_n hx hb dX4_advance_55 rfl (lv_at hl 0 rfl) ?_
      refine va_get (D := (dC, dI)) (ci := 2) (v := .int y3) (C := RX4) (T := TX4) (N := 6) hx hb hts inX4 hown hK hP 0 rfl rfl 3 (by decide) (hts _ (List.mem_of_getElem? (i := 2) rfl)) (fun _ h9 => h9) rfl dX4_advance_56 ?_
      refine va_put (D := (dC, dI)) (ci := 2) (v := .int y3) (ty := .int) (C := RX4) (T := TX4) (N := 6) hx hb hts inX4 tyX4 tyX4_ok nmX4 hown hK hP hD hS 0 rfl rfl 4 (by decide) (hts _ (List.mem_of_getElem? (i := 1) rfl)) (fun _ h9 => h9) rfl (by decide +kernel) rfl rfl (Nat.le_of_ble_eq_true rfl) dX4_advance_59 (fun H locs hP hD hS => ?_)
      have hP : va_P (dC, dI) vwCl [(h0, .inr (2, [.ref eh, .ref dh, .int tk, .int y3, .int y3, .long dr])), (eh, .inr (5, [.int ts, .ref q0])), (q0, .inl (c0, 120, .inl f0))] H := hP
      have hD : va_D A [(h0, .inr (2, [.ref eh, .ref dh, .int tk, .int y3, .int y3, .long dr])), (eh, .inr (5, [.int ts, .ref q0])), (q0, .inl (c0, 120, .inl f0))] := hD
      refine lv_aload_n hx hb dX4_advance_62 rfl (lv_at hl 0 rfl) ?_
      refine va_get (D := (dC, dI)) (ci := 2) (v := .int y3) (C := RX4) (T := TX4) (N := 6) hx hb hts inX4 hown hK hP 0 rfl rfl 3 (by decide) (hts _ (List.mem_of_getElem? (i := 2) rfl)) (fun _ h9 => h9) rfl dX4_advance_63 ?_
      refine lv_aload_n hx hb dX4_advance_66 rfl (lv_at hl 0 rfl) ?_
      refine va_get (D := (dC, dI)) (ci := 2) (v := .ref eh) (C := RX4) (T := TX4) (N := 6) hx hb hts inX4 hown hK hP 0 rfl rfl 0 (by decide) (hts _ (List.mem_of_getElem? (i := 3) rfl)) (fun _ h9 => h9) rfl dX4_advance_67 ?_
      refine va_getN (D := (dC, dI)) (ci := 5) (v := .int ts) (C := RX7) (T := TX7) (N := 2) hx hb hts inX7 hown hK hP 1 rfl rfl 0 (by decide) (ev_nest hev 16 rfl) (fun _ h9 => h9) rfl dX4_advance_70 ?_
      have rc_18_x := pp_rng y3
      have rc_18_y := pp_rng ts
      refine lv_icmp_lt (tgt := 82) hx hb dX4_advance_73 (by decide) (fun c_18 => ?_) (fun c_18 => ?_)
      · skip
        have tc_18 : y3.toInt < ts.toInt := (fa_lt _ _).mp c_18
        refine lv_aload_n hx hb dX4_advance_82 rfl (lv_at hl 0 rfl) ?_
        refine lv_aload_n hx hb dX4_advance_83 rfl (lv_at hl 0 rfl) ?_
        refine va_get (D := (dC, dI)) (ci := 2) (v := .ref eh) (C := RX4) (T := TX4) (N := 6) hx hb hts inX4 hown hK hP 0 rfl rfl 0 (by decide) (hts _ (List.mem_of_getElem? (i := 3) rfl)) (fun _ h9 => h9) rfl dX4_advance_84 ?_
        refine va_getN (D := (dC, dI)) (ci := 5) (v := .ref q0) (C := RX7) (T := TX7) (N := 2) hx hb hts inX7 hown hK hP 1 rfl rfl 1 (by decide) (ev_nest hev 18 rfl) (fun _ h9 => h9) rfl dX4_advance_87 ?_
        refine lv_aload_n hx hb dX4_advance_90 rfl (lv_at hl 0 rfl) ?_
        refine va_get (D := (dC, dI)) (ci := 2) (v := .int y3) (C := RX4) (T := TX4) (N := 6) hx hb hts inX4 hown hK hP 0 rfl rfl 3 (by decide) (hts _ (List.mem_of_getElem? (i := 2) rfl)) (fun _ h9 => h9) rfl dX4_advance_91 ?_
        refine va_iald hx hb hK hP 2 0 rfl rfl (vp_in_iff.mpr ⟨by omega, by omega⟩) dX4_advance_94 ?_
        refine lv_topi (fun n_19 en_19 => ?_)
        clear en_19
        have hPc := hP.sub (ws' := []) [] rfl
        have hKc := hK.sub (tys' := []) [] rfl
        refine vp_callSi (W.runS (As := [.int n_19]) (rest := [.ref h0]) ⟨hx, hb, hml, hown, hts⟩ (q_sortOf l dC dI ad n_19 ) (va_cwS 1 hts g_q_advance_q_sortOf_53 rfl rfl rfl (by decide +kernel) ⟨(Nat.le_of_ble_eq_true rfl), (Nat.le_of_ble_eq_true rfl)⟩) ⟨preS_blind, fun U hU hW => ⟨rfl, preS_at hU hW hPc hKc hev⟩⟩ rfl rfl hl.1 rfl (lv_room (Nat.le_of_ble_eq_true rfl)) dX4_advance_95 ⟨(Nat.le_of_ble_eq_true rfl), (Nat.le_of_ble_eq_true rfl)⟩) (fun r_20 hw => ?_)
        refine va_put (D := (dC, dI)) (ci := 2) (v := .int r_20) (ty := .int) (C := RX4) (T := TX4) (N := 6) hx hb hts inX4 tyX4 tyX4_ok nmX4 hown hK hP hD hS 0 rfl rfl 2 (by decide) (hts _ (List.mem_of_getElem? (i := 8) rfl)) (fun _ h9 => h9) rfl (by decide +kernel) rfl rfl (Nat.le_of_ble_eq_true rfl) dX4_advance_98 (fun H locs hP hD hS => ?_)
        have hP : va_P (dC, dI) vwCl [(h0, .inr (2, [.ref eh, .ref dh, .int r_20, .int y3, .int y3, .long dr])), (eh, .inr (5, [.int ts, .ref q0])), (q0, .inl (c0, 120, .inl f0))] H := hP
        have hD : va_D A [(h0, .inr (2, [.ref eh, .ref dh, .int r_20, .int y3, .int y3, .long dr])), (eh, .inr (5, [.int ts, .ref q0])), (q0, .inl (c0, 120, .inl f0))] := hD
        refine lv_aload_n hx hb dX4_advance_101 rfl (lv_at hl 0 rfl) ?_
        refine lv_dup hx hb dX4_advance_102 rfl ?_
        refine va_get (D := (dC, dI)) (ci := 2) (v := .int y3) (C := RX4) (T := TX4) (N := 6) hx hb hts inX4 hown hK hP 0 rfl rfl 4 (by decide) (hts _ (List.mem_of_getElem? (i := 1) rfl)) (fun _ h9 => h9) rfl dX4_advance_103 ?_
        refine lv_iconst (v := 1) hx hb dX4_advance_106 (by decide) ?_
        refine lv_iadd hx hb dX4_advance_107 ?_
        refine lv_topi (fun n_21 en_21 => ?_)
        have tn_21 : n_21.toInt = y3.toInt + 1 := pp_add en_21 rfl rfl (by omega) (by omega)
        clear en_21
        refine va_put (D := (dC, dI)) (ci := 2) (v := .int n_21) (ty := .int) (C := RX4) (T := TX4) (N := 6) hx hb hts inX4 tyX4 tyX4_ok nmX4 hown hK hP hD hS 0 rfl rfl 4 (by decide) (hts _ (List.mem_of_getElem? (i := 1) rfl)) (fun _ h9 => h9) rfl (by decide +kernel) rfl rfl (Nat.le_of_ble_eq_true rfl) dX4_advance_108 (fun H locs hP hD hS => ?_)
        have hP : va_P (dC, dI) vwCl [(h0, .inr (2, [.ref eh, .ref dh, .int r_20, .int y3, .int n_21, .long dr])), (eh, .inr (5, [.int ts, .ref q0])), (q0, .inl (c0, 120, .inl f0))] H := hP
        have hD : va_D A [(h0, .inr (2, [.ref eh, .ref dh, .int r_20, .int y3, .int n_21, .long dr])), (eh, .inr (5, [.int ts, .ref q0])), (q0, .inl (c0, 120, .inl f0))] := hD
        refine lv_aload_n hx hb dX4_advance_111 rfl (lv_at hl 0 rfl) ?_
        refine va_get (D := (dC, dI)) (ci := 2) (v := .int r_20) (C := RX4) (T := TX4) (N := 6) hx hb hts inX4 hown hK hP 0 rfl rfl 2 (by decide) (hts _ (List.mem_of_getElem? (i := 8) rfl)) (fun _ h9 => h9) rfl dX4_advance_112 ?_
        refine lv_iconst (v := 4) hx hb dX4_advance_115 (by decide) ?_
        refine lv_icmp_eq (tgt := 128) hx hb dX4_advance_116 (by decide) (fun c_22 => ?_) (fun c_22 => ?_)
        · skip
          have tc_22 : r_20.toInt = 4 := (fa_eq _ _).mp c_22
          have hP9 := hP.sub (ws' := [(h0, .inr (2, [.ref eh, .ref dh, .int r_20, .int y3, .int n_21, .long dr])), (eh, .inr (5, [.int ts, .ref q0])), (q0, .inl (c0, 120, .inl f0))]) [0, 1, 2] rfl
          have hD9 := hD.sub (ws' := [(h0, .inr (2, [.ref eh, .ref dh, .int r_20, .int y3, .int n_21, .long dr])), (eh, .inr (5, [.int ts, .ref q0])), (q0, .inl (c0, 120, .inl f0))]) [0, 1, 2] (by decide) rfl
          have hK9 := hK.sub (tys' := [(c0, .int)]) [0] rfl
          exact W.vret hx hb hr (fun t ht hW => ⟨⟨(), rfl, trivial, r_20, y3, n_21, (by first | omega | decide | (simp only [fa_lt, fa_le, fa_eq, and_true, true_and, and_false, false_and, not_true_eq_false, not_false_eq_true, li_0, li_1, li_2, li_3, li_4, li_5, li_6, li_7, li_8, li_9, li_10, li_12, li_15, li_16, li_20, li_30, li_34, li_38, li_40, li_63, li_64, li_65, li_78, li_120, li_1000, li_4000, li_10000, li_11077, li_255, li_65535, li_m1, li_m2, li_m1000000001, li_m1000000002, li_m1000000003, li_m1000000004, li_m1000000005, li_m1000000006, li_m1000000007, or_true, true_or, or_false, false_or, implies_true, true_implies, false_implies] <;> omega)), by rw [ht]; exact hP9, va_K.moved hW.alike hK9, hD9⟩, hS.F ht⟩) hS.2.2 dX4_advance_128
        · skip
          have tc_22 : ¬ r_20.toInt = 4 := fun h => c_22 ((fa_eq _ _).mpr h)
          refine lv_aload_n hx hb dX4_advance_119 rfl (lv_at hl 0 rfl) ?_
          refine va_get (D := (dC, dI)) (ci := 2) (v := .int r_20) (C := RX4) (T := TX4) (N := 6) hx hb hts inX4 hown hK hP 0 rfl rfl 2 (by decide) (hts _ (List.mem_of_getElem? (i := 8) rfl)) (fun _ h9 => h9) rfl dX4_advance_120 ?_
          refine lv_bipush (v := 6) hx hb dX4_advance_123 (by decide) ?_
          refine lv_icmp_ne (tgt := 129) hx hb dX4_advance_125 (by decide) (fun c_23 => ?_) (fun c_23 => ?_)
          · skip
            have tc_23 : ¬ r_20.toInt = 6 := fun h => c_23 ((fa_eq _ _).mpr h)
            refine pp_loop (ι := Int32) (fun y4 => (ts.toInt - y4.toInt).toNat) (fun y4 H locs ls => (y3.toInt ≤ y4.toInt ∧ y4.toInt ≤ ts.toInt) ∧ va_P (dC, dI) vwCl [(h0, .inr (2, [.ref eh, .ref dh, .int r_20, .int y3, .int y4, .long dr])), (eh, .inr (5, [.int ts, .ref q0])), (q0, .inl (c0, 120, .inl f0))] H ∧ va_D A [(h0, .inr (2, [.ref eh, .ref dh, .int r_20, .int y3, .int y4, .long dr])), (eh, .inr (5, [.int ts, .ref q0])), (q0, .inl (c0, 120, .inl f0))] ∧ va_S A s.heap H locs ∧ lv_has ls 1 [(0, .ref h0)]) ?_ n_21 _ _ _ ⟨(by first | omega | decide | (simp only [fa_lt, fa_le, fa_eq, and_true, true_and, and_false, false_and, not_true_eq_false, not_false_eq_true, li_0, li_1, li_2, li_3, li_4, li_5, li_6, li_7, li_8, li_9, li_10, li_12, li_15, li_16, li_20, li_30, li_34, li_38, li_40, li_63, li_64, li_65, li_78, li_120, li_1000, li_4000, li_10000, li_11077, li_255, li_65535, li_m1, li_m2, li_m1000000001, li_m1000000002, li_m1000000003, li_m1000000004, li_m1000000005, li_m1000000006, li_m1000000007, or_true, true_or, or_false, false_or, implies_true, true_implies, false_implies] <;> omega)), hP.sub [0, 1, 2] rfl, hD.sub [0, 1, 2] (by decide) rfl, hS, lv_sub hl [0] rfl⟩
            intro k_24 ihk_24 u H locs ls hm hI
            obtain ⟨y4, rfl⟩ : ∃ z, z = u := ⟨_, rfl⟩
            obtain ⟨jk_24_0, hP, hD, hS, hl⟩ := hI
            have hmk_24 : (ts.toInt - y4.toInt).toNat < k_24 + 1 := hm
            clear hm
            have jk_24_0 : y3.toInt ≤ y4.toInt ∧ y4.toInt ≤ ts.toInt := jk_24_0
            have hl : lv_has ls 1 [(0, .ref h0)] := hl
            have hP : va_P (dC, dI) vwCl [(h0, .inr (2, [.ref eh, .ref dh, .int r_20, .int y3, .int y4, .long dr])), (eh, .inr (5, [.int ts, .ref q0])), (q0, .inl (c0, 120, .inl f0))] H := hP
            have hD : va_D A [(h0, .inr (2, [.ref eh, .ref dh, .int r_20, .int y3, .int y4, .long dr])), (eh, .inr (5, [.int ts, .ref q0])), (q0, .inl (c0, 120, .inl f0))] := hD
            refine lv_aload_n hx hb dX4_advance_129 rfl (lv_at hl 0 rfl) ?_
            refine va_get (D := (dC, dI)) (ci := 2) (v := .int y4) (C := RX4) (T := TX4) (N := 6) hx hb hts inX4 hown hK hP 0 rfl rfl 4 (by decide) (hts _ (List.mem_of_getElem? (i := 1) rfl)) (fun _ h9 => h9) rfl dX4_advance_130 ?_
            refine lv_aload_n hx hb dX4_advance_133 rfl (lv_at hl 0 rfl) ?_
            refine va_get (D := (dC, dI)) (ci := 2) (v := .ref eh) (C := RX4) (T := TX4) (N := 6) hx hb hts inX4 hown hK hP 0 rfl rfl 0 (by decide) (hts _ (List.mem_of_getElem? (i := 3) rfl)) (fun _ h9 => h9) rfl dX4_advance_134 ?_
            refine va_getN (D := (dC, dI)) (ci := 5) (v := .int ts) (C := RX7) (T := TX7) (N := 2) hx hb hts inX7 hown hK hP 1 rfl rfl 0 (by decide) (ev_nest hev 16 rfl) (fun _ h9 => h9) rfl dX4_advance_137 ?_
            have rc_25_x := pp_rng y4
            have rc_25_y := pp_rng ts
            refine lv_icmp_ge (tgt := 178) hx hb dX4_advance_140 (by decide) (fun c_25 => ?_) (fun c_25 => ?_)
            · skip
              have tc_25 : ts.toInt ≤ y4.toInt := (fa_le _ _).mp c_25
              have hP9 := hP.sub (ws' := [(h0, .inr (2, [.ref eh, .ref dh, .int r_20, .int y3, .int y4, .long dr])), (eh, .inr (5, [.int ts, .ref q0])), (q0, .inl (c0, 120, .inl f0))]) [0, 1, 2] rfl
              have hD9 := hD.sub (ws' := [(h0, .inr (2, [.ref eh, .ref dh, .int r_20, .int y3, .int y4, .long dr])), (eh, .inr (5, [.int ts, .ref q0])), (q0, .inl (c0, 120, .inl f0))]) [0, 1, 2] (by decide) rfl
              have hK9 := hK.sub (tys' := [(c0, .int)]) [0] rfl
              exact W.vret hx hb hr (fun t ht hW => ⟨⟨(), rfl, trivial, r_20, y3, y4, (by first | omega | decide | (simp only [fa_lt, fa_le, fa_eq, and_true, true_and, and_false, false_and, not_true_eq_false, not_false_eq_true, li_0, li_1, li_2, li_3, li_4, li_5, li_6, li_7, li_8, li_9, li_10, li_12, li_15, li_16, li_20, li_30, li_34, li_38, li_40, li_63, li_64, li_65, li_78, li_120, li_1000, li_4000, li_10000, li_11077, li_255, li_65535, li_m1, li_m2, li_m1000000001, li_m1000000002, li_m1000000003, li_m1000000004, li_m1000000005, li_m1000000006, li_m1000000007, or_true, true_or, or_false, false_or, implies_true, true_implies, false_implies] <;> omega)), by rw [ht]; exact hP9, va_K.moved hW.alike hK9, hD9⟩, hS.F ht⟩) hS.2.2 dX4_advance_178
            · skip
              have tc_25 : ¬ ts.toInt ≤ y4.toInt := fun h => c_25 ((fa_le _ _).mpr h)
              refine lv_aload_n hx hb dX4_advance_143 rfl (lv_at hl 0 rfl) ?_
              refine va_get (D := (dC, dI)) (ci := 2) (v := .ref eh) (C := RX4) (T := TX4) (N := 6) hx hb hts inX4 hown hK hP 0 rfl rfl 0 (by decide) (hts _ (List.mem_of_getElem? (i := 3) rfl)) (fun _ h9 => h9) rfl dX4_advance_144 ?_
              refine va_getN (D := (dC, dI)) (ci := 5) (v := .ref q0) (C := RX7) (T := TX7) (N := 2) hx hb hts inX7 hown hK hP 1 rfl rfl 1 (by decide) (ev_nest hev 18 rfl) (fun _ h9 => h9) rfl dX4_advance_147 ?_
              refine lv_aload_n hx hb dX4_advance_150 rfl (lv_at hl 0 rfl) ?_
              refine va_get (D := (dC, dI)) (ci := 2) (v := .int y4) (C := RX4) (T := TX4) (N := 6) hx hb hts inX4 hown hK hP 0 rfl rfl 4 (by decide) (hts _ (List.mem_of_getElem? (i := 1) rfl)) (fun _ h9 => h9) rfl dX4_advance_151 ?_
              refine va_iald hx hb hK hP 2 0 rfl rfl (vp_in_iff.mpr ⟨by omega, by omega⟩) dX4_advance_154 ?_
              refine lv_topi (fun n_26 en_26 => ?_)
              clear en_26
              have hPc := hP.sub (ws' := []) [] rfl
              have hKc := hK.sub (tys' := []) [] rfl
              refine vp_callSi (W.runS (As := [.int n_26]) (rest := []) ⟨hx, hb, hml, hown, hts⟩ (q_sortOf l dC dI ad n_26 ) (va_cwS 1 hts g_q_advance_q_sortOf_53 rfl rfl rfl (by decide +kernel) ⟨(Nat.le_of_ble_eq_true rfl), (Nat.le_of_ble_eq_true rfl)⟩) ⟨preS_blind, fun U hU hW => ⟨rfl, preS_at hU hW hPc hKc hev⟩⟩ rfl rfl hl.1 rfl (lv_room (Nat.le_of_ble_eq_true rfl)) dX4_advance_155 ⟨(Nat.le_of_ble_eq_true rfl), (Nat.le_of_ble_eq_true rfl)⟩) (fun r_27 hw => ?_)
              refine lv_aload_n hx hb dX4_advance_158 rfl (lv_at hl 0 rfl) ?_
              refine va_get (D := (dC, dI)) (ci := 2) (v := .int r_20) (C := RX4) (T := TX4) (N := 6) hx hb hts inX4 hown hK hP 0 rfl rfl 2 (by decide) (hts _ (List.mem_of_getElem? (i := 8) rfl)) (fun _ h9 => h9) rfl dX4_advance_159 ?_
              have rc_28_x := pp_rng r_27
              have rc_28_y := pp_rng r_20
              refine lv_icmp_ne (tgt := 178) hx hb dX4_advance_162 (by decide) (fun c_28 => ?_) (fun c_28 => ?_)
              · skip
                have tc_28 : ¬ r_27.toInt = r_20.toInt := fun h => c_28 ((fa_eq _ _).mpr h)
                have hP9 := hP.sub (ws' := [(h0, .inr (2, [.ref eh, .ref dh, .int r_20, .int y3, .int y4, .long dr])), (eh, .inr (5, [.int ts, .ref q0])), (q0, .inl (c0, 120, .inl f0))]) [0, 1, 2] rfl
                have hD9 := hD.sub (ws' := [(h0, .inr (2, [.ref eh, .ref dh, .int r_20, .int y3, .int y4, .long dr])), (eh, .inr (5, [.int ts, .ref q0])), (q0, .inl (c0, 120, .inl f0))]) [0, 1, 2] (by decide) rfl
                have hK9 := hK.sub (tys' := [(c0, .int)]) [0] rfl
                exact W.vret hx hb hr (fun t ht hW => ⟨⟨(), rfl, trivial, r_20, y3, y4, (by first | omega | decide | (simp only [fa_lt, fa_le, fa_eq, and_true, true_and, and_false, false_and, not_true_eq_false, not_false_eq_true, li_0, li_1, li_2, li_3, li_4, li_5, li_6, li_7, li_8, li_9, li_10, li_12, li_15, li_16, li_20, li_30, li_34, li_38, li_40, li_63, li_64, li_65, li_78, li_120, li_1000, li_4000, li_10000, li_11077, li_255, li_65535, li_m1, li_m2, li_m1000000001, li_m1000000002, li_m1000000003, li_m1000000004, li_m1000000005, li_m1000000006, li_m1000000007, or_true, true_or, or_false, false_or, implies_true, true_implies, false_implies] <;> omega)), by rw [ht]; exact hP9, va_K.moved hW.alike hK9, hD9⟩, hS.F ht⟩) hS.2.2 dX4_advance_178
              · skip
                have tc_28 : r_27.toInt = r_20.toInt := (fa_eq _ _).mp c_28
                refine lv_aload_n hx hb dX4_advance_165 rfl (lv_at hl 0 rfl) ?_
                refine lv_dup hx hb dX4_advance_166 rfl ?_
                refine va_get (D := (dC, dI)) (ci := 2) (v := .int y4) (C := RX4) (T := TX4) (N := 6) hx hb hts inX4 hown hK hP 0 rfl rfl 4 (by decide) (hts _ (List.mem_of_getElem? (i := 1) rfl)) (fun _ h9 => h9) rfl dX4_advance_167 ?_
                refine lv_iconst (v := 1) hx hb dX4_advance_170 (by decide) ?_
                refine lv_iadd hx hb dX4_advance_171 ?_
                refine lv_topi (fun n_29 en_29 => ?_)
                have tn_29 : n_29.toInt = y4.toInt + 1 := pp_add en_29 rfl rfl (by omega) (by omega)
                clear en_29
                refine va_put (D := (dC, dI)) (ci := 2) (v := .int n_29) (ty := .int) (C := RX4) (T := TX4) (N := 6) hx hb hts inX4 tyX4 tyX4_ok nmX4 hown hK hP hD hS 0 rfl rfl 4 (by decide) (hts _ (List.mem_of_getElem? (i := 1) rfl)) (fun _ h9 => h9) rfl (by decide +kernel) rfl rfl (Nat.le_of_ble_eq_true rfl) dX4_advance_172 (fun H locs hP hD hS => ?_)
                have hP : va_P (dC, dI) vwCl [(h0, .inr (2, [.ref eh, .ref dh, .int r_20, .int y3, .int n_29, .long dr])), (eh, .inr (5, [.int ts, .ref q0])), (q0, .inl (c0, 120, .inl f0))] H := hP
                have hD : va_D A [(h0, .inr (2, [.ref eh, .ref dh, .int r_20, .int y3, .int n_29, .long dr])), (eh, .inr (5, [.int ts, .ref q0])), (q0, .inl (c0, 120, .inl f0))] := hD
                refine lv_goto (tgt := 129) hx hb dX4_advance_175 (by decide) ?_
                exact ihk_24 n_29 _ _ _ (by show (ts.toInt - n_29.toInt).toNat < k_24; omega) ⟨(by first | omega | decide | (simp only [fa_lt, fa_le, fa_eq, and_true, true_and, and_false, false_and, not_true_eq_false, not_false_eq_true, li_0, li_1, li_2, li_3, li_4, li_5, li_6, li_7, li_8, li_9, li_10, li_12, li_15, li_16, li_20, li_30, li_34, li_38, li_40, li_63, li_64, li_65, li_78, li_120, li_1000, li_4000, li_10000, li_11077, li_255, li_65535, li_m1, li_m2, li_m1000000001, li_m1000000002, li_m1000000003, li_m1000000004, li_m1000000005, li_m1000000006, li_m1000000007, or_true, true_or, or_false, false_or, implies_true, true_implies, false_implies] <;> omega)), hP.sub [0, 1, 2] rfl, hD.sub [0, 1, 2] (by decide) rfl, hS, lv_sub hl [0] rfl⟩
          · skip
            have tc_23 : r_20.toInt = 6 := (fa_eq _ _).mp c_23
            have hP9 := hP.sub (ws' := [(h0, .inr (2, [.ref eh, .ref dh, .int r_20, .int y3, .int n_21, .long dr])), (eh, .inr (5, [.int ts, .ref q0])), (q0, .inl (c0, 120, .inl f0))]) [0, 1, 2] rfl
            have hD9 := hD.sub (ws' := [(h0, .inr (2, [.ref eh, .ref dh, .int r_20, .int y3, .int n_21, .long dr])), (eh, .inr (5, [.int ts, .ref q0])), (q0, .inl (c0, 120, .inl f0))]) [0, 1, 2] (by decide) rfl
            have hK9 := hK.sub (tys' := [(c0, .int)]) [0] rfl
            exact W.vret hx hb hr (fun t ht hW => ⟨⟨(), rfl, trivial, r_20, y3, n_21, (by first | omega | decide | (simp only [fa_lt, fa_le, fa_eq, and_true, true_and, and_false, false_and, not_true_eq_false, not_false_eq_true, li_0, li_1, li_2, li_3, li_4, li_5, li_6, li_7, li_8, li_9, li_10, li_12, li_15, li_16, li_20, li_30, li_34, li_38, li_40, li_63, li_64, li_65, li_78, li_120, li_1000, li_4000, li_10000, li_11077, li_255, li_65535, li_m1, li_m2, li_m1000000001, li_m1000000002, li_m1000000003, li_m1000000004, li_m1000000005, li_m1000000006, li_m1000000007, or_true, true_or, or_false, false_or, implies_true, true_implies, false_implies] <;> omega)), by rw [ht]; exact hP9, va_K.moved hW.alike hK9, hD9⟩, hS.F ht⟩) hS.2.2 dX4_advance_128
      · skip
        have tc_18 : ¬ y3.toInt < ts.toInt := fun h => c_18 ((fa_lt _ _).mpr h)
        refine lv_aload_n hx hb dX4_advance_76 rfl (lv_at hl 0 rfl) ?_
        refine lv_iconst (v := 0) hx hb dX4_advance_77 (by decide) ?_
        refine va_put (D := (dC, dI)) (ci := 2) (v := .int 0) (ty := .int) (C := RX4) (T := TX4) (N := 6) hx hb hts inX4 tyX4 tyX4_ok nmX4 hown hK hP hD hS 0 rfl rfl 2 (by decide) (hts _ (List.mem_of_getElem? (i := 8) rfl)) (fun _ h9 => h9) rfl (by decide +kernel) rfl rfl (Nat.le_of_ble_eq_true rfl) dX4_advance_78 (fun H locs hP hD hS => ?_)
        have hP : va_P (dC, dI) vwCl [(h0, .inr (2, [.ref eh, .ref dh, .int 0, .int y3, .int y3, .long dr])), (eh, .inr (5, [.int ts, .ref q0])), (q0, .inl (c0, 120, .inl f0))] H := hP
        have hD : va_D A [(h0, .inr (2, [.ref eh, .ref dh, .int 0, .int y3, .int y3, .long dr])), (eh, .inr (5, [.int ts, .ref q0])), (q0, .inl (c0, 120, .inl f0))] := hD
        have hP9 := hP.sub (ws' := [(h0, .inr (2, [.ref eh, .ref dh, .int 0, .int y3, .int y3, .long dr])), (eh, .inr (5, [.int ts, .ref q0])), (q0, .inl (c0, 120, .inl f0))]) [0, 1, 2] rfl
        have hD9 := hD.sub (ws' := [(h0, .inr (2, [.ref eh, .ref dh, .int 0, .int y3, .int y3, .long dr])), (eh, .inr (5, [.int ts, .ref q0])), (q0, .inl (c0, 120, .inl f0))]) [0, 1, 2] (by decide) rfl
        have hK9 := hK.sub (tys' := [(c0, .int)]) [0] rfl
        exact W.vret hx hb hr (fun t ht hW => ⟨⟨(), rfl, trivial, 0, y3, y3, (by first | omega | decide | (simp only [fa_lt, fa_le, fa_eq, and_true, true_and, and_false, false_and, not_true_eq_false, not_false_eq_true, li_0, li_1, li_2, li_3, li_4, li_5, li_6, li_7, li_8, li_9, li_10, li_12, li_15, li_16, li_20, li_30, li_34, li_38, li_40, li_63, li_64, li_65, li_78, li_120, li_1000, li_4000, li_10000, li_11077, li_255, li_65535, li_m1, li_m2, li_m1000000001, li_m1000000002, li_m1000000003, li_m1000000004, li_m1000000005, li_m1000000006, li_m1000000007, or_true, true_or, or_false, false_or, implies_true, true_implies, false_implies] <;> omega)), by rw [ht]; exact hP9, va_K.moved hW.alike hK9, hD9⟩, hS.F ht⟩) hS.2.2 dX4_advance_81
    · skip
      have tc_17 : r_16.toInt = 5 := (fa_eq _ _).mp c_17
      refine lv_aload_n hx hb dX4_advance_41 rfl (lv_at hl 0 rfl) ?_
      refine lv_dup hx hb dX4_advance_42 rfl ?_
      refine va_get (D := (dC, dI)) (ci := 2) (v := .int y3) (C := RX4) (T := TX4) (N := 6) hx hb hts inX4 hown hK hP 0 rfl rfl 3 (by decide) (hts _ (List.mem_of_getElem? (i := 2) rfl)) (fun _ h9 => h9) rfl dX4_advance_43 ?_
      refine lv_iconst (v := 1) hx hb dX4_advance_46 (by decide) ?_
      refine lv_iadd hx hb dX4_advance_47 ?_
      refine lv_topi (fun n_30 en_30 => ?_)
      have tn_30 : n_30.toInt = y3.toInt + 1 := pp_add en_30 rfl rfl (by omega) (by omega)
      clear en_30
      refine va_put (D := (dC, dI)) (ci := 2) (v := .int n_30) (ty := .int) (C := RX4) (T := TX4) (N := 6) hx hb hts inX4 tyX4 tyX4_ok nmX4 hown hK hP hD hS 0 rfl rfl 3 (by decide) (hts _ (List.mem_of_getElem? (i := 2) rfl)) (fun _ h9 => h9) rfl (by decide +kernel) rfl rfl (Nat.le_of_ble_eq_true rfl) dX4_advance_48 (fun H locs hP hD hS => ?_)
      have hP : va_P (dC, dI) vwCl [(h0, .inr (2, [.ref eh, .ref dh, .int tk, .int n_30, .int en, .long dr])), (eh, .inr (5, [.int ts, .ref q0])), (q0, .inl (c0, 120, .inl f0))] H := hP
      have hD : va_D A [(h0, .inr (2, [.ref eh, .ref dh, .int tk, .int n_30, .int en, .long dr])), (eh, .inr (5, [.int ts, .ref q0])), (q0, .inl (c0, 120, .inl f0))] := hD
      refine lv_goto (tgt := 8) hx hb dX4_advance_51 (by decide) ?_
      exact ihk_1 n_30 _ _ _ (by show (ts.toInt - n_30.toInt).toNat < k_1; omega) ⟨(by first | omega | decide | (simp only [fa_lt, fa_le, fa_eq, and_true, true_and, and_false, false_and, not_true_eq_false, not_false_eq_true, li_0, li_1, li_2, li_3, li_4, li_5, li_6, li_7, li_8, li_9, li_10, li_12, li_15, li_16, li_20, li_30, li_34, li_38, li_40, li_63, li_64, li_65, li_78, li_120, li_1000, li_4000, li_10000, li_11077, li_255, li_65535, li_m1, li_m2, li_m1000000001, li_m1000000002, li_m1000000003, li_m1000000004, li_m1000000005, li_m1000000006, li_m1000000007, or_true, true_or, or_false, false_or, implies_true, true_implies, false_implies] <;> omega)), hP.sub [0, 1, 2] rfl, hD.sub [0, 1, 2] (by decide) rfl, hS, lv_sub hl [0] rfl⟩

def w_q_isWord : List Cond := .code yX4_isWord cX4_isWord 3 (some .boolean) :: (([.fieldLink RX4 25 "LampShapes$Script" "token" "I", .fieldLink RX4 32 "LampShapes$Script" "end" "I", .fieldLink RX4 29 "LampShapes$Script" "start" "I", .methodLink RX4 57 yJ0_length_8abf5, .instanceMethod yJ0_length_8abf5, .selects RJ0 yJ0_length_8abf5 yJ0_length_8abf5, .initialized RJ0, .code yJ0_length_8abf5 cJ0_length_8abf5 1 (some .int), .fieldLink RJ0 9 "java/lang/String" "value" "[B", .methodLink RJ0 335 yJ0_coder_7d493, .instanceMethod yJ0_coder_7d493, .selects RJ0 yJ0_coder_7d493 yJ0_coder_7d493, .code yJ0_coder_7d493 cJ0_coder_7d493 1 (some .byte), .fieldLink RJ0 38 "java/lang/String" "COMPACT_STRINGS" "Z", .fieldLink RJ0 15 "java/lang/String" "coder" "B", .fieldLink RX4 12 "LampShapes$Script" "tape" "LLampShapes$Tape;", .methodLink RX4 63 yJ0_charAt_5068e, .instanceMethod yJ0_charAt_5068e, .selects RJ0 yJ0_charAt_5068e yJ0_charAt_5068e, .code yJ0_charAt_5068e cJ0_charAt_5068e 2 (some .char), .methodLink RJ0 492 yJ0_isLatin1_aae02, .instanceMethod yJ0_isLatin1_aae02, .selects RJ0 yJ0_isLatin1_aae02 yJ0_isLatin1_aae02, .code yJ0_isLatin1_aae02 cJ0_isLatin1_aae02 1 (some .boolean), .methodLink RJ0 495 yJ1_charAt_3b067, .static yJ1_charAt_3b067, .initialized RJ1, .code yJ1_charAt_3b067 cJ1_charAt_3b067 2 (some .char), .methodLink RJ1 9 yJ0_checkIndex_df160, .static yJ0_checkIndex_df160, .code yJ0_checkIndex_df160 cJ0_checkIndex_df160 2 none, .fieldLink RJ0 1053 "jdk/internal/util/Preconditions" "SIOOBE_FORMATTER" "Ljava/util/function/BiFunction;", .methodLink RJ0 1059 yJ3_checkIndex_8e157, .static yJ3_checkIndex_8e157, .initialized RJ3, .code yJ3_checkIndex_8e157 cJ3_checkIndex_8e157 3 (some .int), .methodLink RJ0 498 yJ2_charAt_3b067, .static yJ2_charAt_3b067, .initialized RJ2, .code yJ2_charAt_3b067 cJ2_charAt_3b067 2 (some .char), .methodLink RJ2 67 yJ2_checkIndex_2214a, .static yJ2_checkIndex_2214a, .code yJ2_checkIndex_2214a cJ2_checkIndex_2214a 2 none, .methodLink RJ2 48 yJ2_length_9d52b, .static yJ2_length_9d52b, .code yJ2_length_9d52b cJ2_length_9d52b 1 (some .int), .methodLink RJ2 414 yJ0_checkIndex_df160, .methodLink RJ2 71 yJ2_getChar_3b067, .static yJ2_getChar_3b067, .code yJ2_getChar_3b067 cJ2_getChar_3b067 2 (some .char), .fieldLink RJ2 44 "java/lang/StringUTF16" "$assertionsDisabled" "Z", .fieldLink RJ2 59 "java/lang/StringUTF16" "HI_BYTE_SHIFT" "I", .fieldLink RJ2 63 "java/lang/StringUTF16" "LO_BYTE_SHIFT" "I"] : List Cond) ++ wsX40 ++ wsX70)
set_option maxRecDepth 20000 in
theorem g_q_isWord_c_length_57 : GoodIn w_q_isWord (wsV RX4 57 RJ0 yJ0_length_8abf5 w_c_length) := goodIn_r _ [4, 5, 6, 7, 8, 9, 10, 11, 12, 7, 13, 14, 15] rfl (by decide +kernel)
set_option maxRecDepth 20000 in
theorem g_q_isWord_c_charAt_63 : GoodIn w_q_isWord (wsV RX4 63 RJ0 yJ0_charAt_5068e w_c_charAt) := goodIn_r _ [17, 18, 19, 7, 20, 9, 21, 22, 23, 7, 24, 14, 15, 25, 26, 27, 28, 29, 30, 31, 32, 33, 34, 35, 36, 37, 38, 39, 40, 41, 42, 43, 44, 45, 46, 47, 48, 49, 50, 51, 52, 53] rfl (by decide +kernel)
set_option maxHeartbeats 4000000 in
set_option maxRecDepth 100000 in
theorem q_isWord (l : Launch) (dC : Nat → ClassId) (dI : Nat → Nat → Nat) (ad : Nat → Nat) (h0 : Nat) (kk : Nat) (eh : Nat) (dh : Nat) (tk : Int32) (stt : Int32) (en : Int32) (dr : Int64) (ts : Int32) (q0 : Nat) (c0 : ClassId) (f0 : Nat → Int32) (hkk : kk < 26) (hts2 : 0 ≤ ts.toInt ∧ ts.toInt ≤ 120) (hse : 0 ≤ stt.toInt ∧ stt.toInt ≤ en.toInt ∧ en.toInt ≤ ts.toInt) : Met l yX4_isWord w_q_isWord ({ frames := 4, cells := 0, slots := 0, locals := 85 } : Room) (va_Pc [.ref h0, .ref (ad kk)] (preST dC dI ad [(c0, .int)] [(h0, .inr (2, [.ref eh, .ref dh, .int tk, .int stt, .int en, .long dr])), (eh, .inr (5, [.int ts, .ref q0])), (q0, .inl (c0, 120, .inl f0))])) (vp_Si (fun r => r.toInt = 0 ∨ r.toInt = 1)) 0 0 (fun _ => False) := by
  refine Met.ofW (cc := cX4_isWord) (maxL := 3) (ret := (some .boolean)) (by decide) rfl ?_
  intro p e s m args below meth c s₁ B hml hv
  obtain ⟨rfl, ⟨hP, hK, hev⟩, hsf⟩ := hv
  have hS : va_S (fun _ => False) s.heap s.heap [] := va_S.rf
  have hx := B.exec
  have hb := B.bytes
  have hr := B.returns
  have hts := atoms_spec (ws := w_q_isWord) B.pre
  have hown : s.vm.findClass RX4 = some m.cls := findClass_of_methodNamed B.named
  have hlocks := B.notSynchronized
  have inX4 : ∀ w ∈ wsX40, w ∈ w_q_isWord := fun w h => List.mem_cons_of_mem _ (List.mem_append_left _ (List.mem_append_right _ h))
  have inX7 : ∀ w ∈ wsX70, w ∈ w_q_isWord := fun w h => List.mem_cons_of_mem _ (List.mem_append_right _ h)
  have hP : va_P (dC, dI) vwCl [(h0, .inr (2, [.ref eh, .ref dh, .int tk, .int stt, .int en, .long dr])), (eh, .inr (5, [.int ts, .ref q0])), (q0, .inl (c0, 120, .inl f0))] s.heap := hP
  have hl := lv_entry ([.ref h0, .ref (ad kk)]) (n := 3) (Nat.le_of_ble_eq_true rfl)
  rw [lg_entry_eq]
  generalize (lg_sl ([.ref h0, .ref (ad kk)]) ++ List.replicate (3 - (lg_sl ([.ref h0, .ref (ad kk)])).length) Slot.unset).toArray = ls at hl ⊢
  have hl : lv_has ls 3 [(0, .ref h0), (1, .ref (ad kk))] := hl
  refine lv_aload_n hx hb dX4_isWord_0 rfl (lv_at hl 0 rfl) ?_
  refine va_get (D := (dC, dI)) (ci := 2) (v := .int tk) (C := RX4) (T := TX4) (N := 6) hx hb hts inX4 hown hK hP 0 rfl rfl 2 (by decide) (hts _ (List.mem_of_getElem? (i := 1) rfl)) (fun _ h9 => h9) rfl dX4_isWord_1 ?_
  refine lv_iconst (v := 1) hx hb dX4_isWord_4 (by decide) ?_
  refine lv_icmp_ne (tgt := 24) hx hb dX4_isWord_5 (by decide) (fun c_1 => ?_) (fun c_1 => ?_)
  · skip
    have tc_1 : ¬ tk.toInt = 1 := fun h => c_1 ((fa_eq _ _).mpr h)
    refine lv_iconst (v := 0) hx hb dX4_isWord_24 (by decide) ?_
    exact W.zret (v := (0 : Int32)) hx hb hr (by decide) (fun t ht hW => ⟨(0 : Int32), rfl, (by first | omega | decide | (simp only [fa_lt, fa_le, fa_eq, and_true, true_and, and_false, false_and, not_true_eq_false, not_false_eq_true, li_0, li_1, li_2, li_3, li_4, li_5, li_6, li_7, li_8, li_9, li_10, li_12, li_15, li_16, li_20, li_30, li_34, li_38, li_40, li_63, li_64, li_65, li_78, li_120, li_1000, li_4000, li_10000, li_11077, li_255, li_65535, li_m1, li_m2, li_m1000000001, li_m1000000002, li_m1000000003, li_m1000000004, li_m1000000005, li_m1000000006, li_m1000000007, or_true, true_or, or_false, false_or, implies_true, true_implies, false_implies] <;> omega)), ht⟩) (fun _ h => absurd h List.not_mem_nil) dX4_isWord_25
  · skip
    have tc_1 : tk.toInt = 1 := (fa_eq _ _).mp c_1
    refine lv_aload_n hx hb dX4_isWord_8 rfl (lv_at hl 0 rfl) ?_
    refine va_get (D := (dC, dI)) (ci := 2) (v := .int en) (C := RX4) (T := TX4) (N := 6) hx hb hts inX4 hown hK hP 0 rfl rfl 4 (by decide) (hts _ (List.mem_of_getElem? (i := 2) rfl)) (fun _ h9 => h9) rfl dX4_isWord_9 ?_
    refine lv_aload_n hx hb dX4_isWord_12 rfl (lv_at hl 0 rfl) ?_
    refine va_get (D := (dC, dI)) (ci := 2) (v := .int stt) (C := RX4) (T := TX4) (N := 6) hx hb hts inX4 hown hK hP 0 rfl rfl 3 (by decide) (hts _ (List.mem_of_getElem? (i := 3) rfl)) (fun _ h9 => h9) rfl dX4_isWord_13 ?_
    refine lv_isub hx hb dX4_isWord_16 ?_
    refine lv_topi (fun n_2 en_2 => ?_)
    have tn_2 : n_2.toInt = en.toInt - stt.toInt := pp_sub en_2 rfl rfl (by have := pp_rng stt; omega) (by have := pp_rng stt; omega)
    clear en_2
    refine lv_aload_n hx hb dX4_isWord_17 rfl (lv_at hl 1 rfl) ?_
    have hPc := hP.sub (ws' := []) [] rfl
    have hKc := hK.sub (tys' := []) [] rfl
    refine vp_callSi (W.runV (As := []) (rest := [.int n_2]) ⟨hx, hb, hml, hown, hts⟩ (c_length l dC dI ad kk hkk) (cwV 0 hts g_q_isWord_c_length_57 rfl rfl rfl (by decide +kernel) ⟨(Nat.le_of_ble_eq_true rfl), (Nat.le_of_ble_eq_true rfl)⟩) ⟨preST_blind, sf_recv hsf hS kk hkk, fun U hU hW => ⟨rfl, preS_at hU hW hPc hKc hev, sf_at hsf hS (fun _ h => h.elim) hU hW⟩⟩ rfl rfl hl.1 rfl (lv_room (Nat.le_of_ble_eq_true rfl)) dX4_isWord_18 ⟨(Nat.le_of_ble_eq_true rfl), (Nat.le_of_ble_eq_true rfl)⟩) (fun r_3 hw => ?_)
    have hr_3 : r_3.toInt = (s_n kk : Int) := hw
    have rc_4_x := pp_rng n_2
    have rc_4_y := pp_rng r_3
    refine lv_icmp_eq (tgt := 26) hx hb dX4_isWord_21 (by decide) (fun c_4 => ?_) (fun c_4 => ?_)
    · skip
      have tc_4 : n_2.toInt = r_3.toInt := (fa_eq _ _).mp c_4
      refine lv_iconst (v := 0) hx hb dX4_isWord_26 (by decide) ?_
      refine lv_istore_n (lv' := [(2, .int 0), (0, .ref h0), (1, .ref (ad kk))]) hx hb dX4_isWord_27 rfl hl (by decide) rfl (fun ls hl => ?_)
      refine pp_loop (ι := Int32) (fun v2_28 => ((s_n kk : Int) - v2_28.toInt).toNat) (fun v2_28 H locs ls => (0 ≤ v2_28.toInt) ∧ H = s.heap ∧ locs = [] ∧ lv_has ls 3 [(2, .int v2_28), (0, .ref h0), (1, .ref (ad kk))]) ?_ 0 _ _ _ ⟨(by first | omega | decide | (simp only [fa_lt, fa_le, fa_eq, and_true, true_and, and_false, false_and, not_true_eq_false, not_false_eq_true, li_0, li_1, li_2, li_3, li_4, li_5, li_6, li_7, li_8, li_9, li_10, li_12, li_15, li_16, li_20, li_30, li_34, li_38, li_40, li_63, li_64, li_65, li_78, li_120, li_1000, li_4000, li_10000, li_11077, li_255, li_65535, li_m1, li_m2, li_m1000000001, li_m1000000002, li_m1000000003, li_m1000000004, li_m1000000005, li_m1000000006, li_m1000000007, or_true, true_or, or_false, false_or, implies_true, true_implies, false_implies] <;> omega)), rfl, rfl, lv_sub hl [0, 1, 2] rfl⟩
      intro k_5 ihk_5 u H locs ls hm hI
      obtain ⟨v2_28, rfl⟩ : ∃ z, z = u := ⟨_, rfl⟩
      obtain ⟨jk_5_0, rfl, rfl, hl⟩ := hI
      have hmk_5 : ((s_n kk : Int) - v2_28.toInt).toNat < k_5 + 1 := hm
      clear hm
      have jk_5_0 : 0 ≤ v2_28.toInt := jk_5_0
      have hl : lv_has ls 3 [(2, .int v2_28), (0, .ref h0), (1, .ref (ad kk))] := hl
      refine lv_iload_n hx hb dX4_isWord_28 rfl (lv_at hl 0 rfl) ?_
      refine lv_aload_n hx hb dX4_isWord_29 rfl (lv_at hl 2 rfl) ?_
      have hPc := hP.sub (ws' := []) [] rfl
      have hKc := hK.sub (tys' := []) [] rfl
      refine vp_callSi (W.runV (As := []) (rest := [.int v2_28]) ⟨hx, hb, hml, hown, hts⟩ (c_length l dC dI ad kk hkk) (cwV 0 hts g_q_isWord_c_length_57 rfl rfl rfl (by decide +kernel) ⟨(Nat.le_of_ble_eq_true rfl), (Nat.le_of_ble_eq_true rfl)⟩) ⟨preST_blind, sf_recv hsf hS kk hkk, fun U hU hW => ⟨rfl, preS_at hU hW hPc hKc hev, sf_at hsf hS (fun _ h => h.elim) hU hW⟩⟩ rfl rfl hl.1 rfl (lv_room (Nat.le_of_ble_eq_true rfl)) dX4_isWord_30 ⟨(Nat.le_of_ble_eq_true rfl), (Nat.le_of_ble_eq_true rfl)⟩) (fun r_6 hw => ?_)
      have hr_6 : r_6.toInt = (s_n kk : Int) := hw
      have rc_7_x := pp_rng v2_28
      have rc_7_y := pp_rng r_6
      refine lv_icmp_ge (tgt := 66) hx hb dX4_isWord_33 (by decide) (fun c_7 => ?_) (fun c_7 => ?_)
      · skip
        have tc_7 : r_6.toInt ≤ v2_28.toInt := (fa_le _ _).mp c_7
        refine lv_iconst (v := 1) hx hb dX4_isWord_66 (by decide) ?_
        exact W.zret (v := (1 : Int32)) hx hb hr (by decide) (fun t ht hW => ⟨(1 : Int32), rfl, (by first | omega | decide | (simp only [fa_lt, fa_le, fa_eq, and_true, true_and, and_false, false_and, not_true_eq_false, not_false_eq_true, li_0, li_1, li_2, li_3, li_4, li_5, li_6, li_7, li_8, li_9, li_10, li_12, li_15, li_16, li_20, li_30, li_34, li_38, li_40, li_63, li_64, li_65, li_78, li_120, li_1000, li_4000, li_10000, li_11077, li_255, li_65535, li_m1, li_m2, li_m1000000001, li_m1000000002, li_m1000000003, li_m1000000004, li_m1000000005, li_m1000000006, li_m1000000007, or_true, true_or, or_false, false_or, implies_true, true_implies, false_implies] <;> omega)), ht⟩) (fun _ h => absurd h List.not_mem_nil) dX4_isWord_67
      · skip
        have tc_7 : ¬ r_6.toInt ≤ v2_28.toInt := fun h => c_7 ((fa_le _ _).mpr h)
        refine lv_aload_n hx hb dX4_isWord_36 rfl (lv_at hl 1 rfl) ?_
        refine va_get (D := (dC, dI)) (ci := 2) (v := .ref eh) (C := RX4) (T := TX4) (N := 6) hx hb hts inX4 hown hK hP 0 rfl rfl 0 (by decide) (hts _ (List.mem_of_getElem? (i := 16) rfl)) (fun _ h9 => h9) rfl dX4_isWord_37 ?_
        refine va_getN (D := (dC, dI)) (ci := 5) (v := .ref q0) (C := RX7) (T := TX7) (N := 2) hx hb hts inX7 hown hK hP 1 rfl rfl 1 (by decide) (ev_nest hev 18 rfl) (fun _ h9 => h9) rfl dX4_isWord_40 ?_
        refine lv_aload_n hx hb dX4_isWord_43 rfl (lv_at hl 1 rfl) ?_
        refine va_get (D := (dC, dI)) (ci := 2) (v := .int stt) (C := RX4) (T := TX4) (N := 6) hx hb hts inX4 hown hK hP 0 rfl rfl 3 (by decide) (hts _ (List.mem_of_getElem? (i := 3) rfl)) (fun _ h9 => h9) rfl dX4_isWord_44 ?_
        refine lv_iload_n hx hb dX4_isWord_47 rfl (lv_at hl 0 rfl) ?_
        refine lv_iadd hx hb dX4_isWord_48 ?_
        refine lv_topi (fun n_8 en_8 => ?_)
        clear en_8
        refine va_iald hx hb hK hP 2 0 rfl rfl (vp_in_iff.mpr ⟨by omega, by omega⟩) dX4_isWord_49 ?_
        refine lv_topi (fun n_9 en_9 => ?_)
        clear en_9
        refine lv_aload_n hx hb dX4_isWord_50 rfl (lv_at hl 2 rfl) ?_
        refine lv_iload_n hx hb dX4_isWord_51 rfl (lv_at hl 0 rfl) ?_
        have hPc := hP.sub (ws' := []) [] rfl
        have hKc := hK.sub (tys' := []) [] rfl
        refine vp_callSi (W.runV (As := [.int v2_28]) (rest := [.int n_9]) ⟨hx, hb, hml, hown, hts⟩ (c_charAt l dC dI ad kk v2_28 hkk (by first | omega | decide | (simp only [fa_lt, fa_le, fa_eq, and_true, true_and, and_false, false_and, not_true_eq_false, not_false_eq_true, li_0, li_1, li_2, li_3, li_4, li_5, li_6, li_7, li_8, li_9, li_10, li_12, li_15, li_16, li_20, li_30, li_34, li_38, li_40, li_63, li_64, li_65, li_78, li_120, li_1000, li_4000, li_10000, li_11077, li_255, li_65535, li_m1, li_m2, li_m1000000001, li_m1000000002, li_m1000000003, li_m1000000004, li_m1000000005, li_m1000000006, li_m1000000007, or_true, true_or, or_false, false_or, implies_true, true_implies, false_implies] <;> omega))) (cwV 1 hts g_q_isWord_c_charAt_63 rfl rfl rfl (by decide +kernel) ⟨(Nat.le_of_ble_eq_true rfl), (Nat.le_of_ble_eq_true rfl)⟩) ⟨preST_blind, sf_recv hsf hS kk hkk, fun U hU hW => ⟨rfl, preS_at hU hW hPc hKc hev, sf_at hsf hS (fun _ h => h.elim) hU hW⟩⟩ rfl rfl hl.1 rfl (lv_room (Nat.le_of_ble_eq_true rfl)) dX4_isWord_52 ⟨(Nat.le_of_ble_eq_true rfl), (Nat.le_of_ble_eq_true rfl)⟩) (fun r_10 hw => ?_)
        have rc_11_x := pp_rng n_9
        have rc_11_y := pp_rng r_10
        refine lv_icmp_eq (tgt := 60) hx hb dX4_isWord_55 (by decide) (fun c_11 => ?_) (fun c_11 => ?_)
        · skip
          have tc_11 : n_9.toInt = r_10.toInt := (fa_eq _ _).mp c_11
          obtain ⟨n_12, en_12⟩ : ∃ y : Int32, y = v2_28 + 1 := ⟨_, rfl⟩
          have tn_12 : n_12.toInt = v2_28.toInt + 1 := pp_add en_12 rfl rfl (by have := pp_rng v2_28; omega) (by have := pp_rng v2_28; omega)
          refine lv_iinc (v := n_12) (lv' := [(2, .int n_12), (0, .ref h0), (1, .ref (ad kk))]) hx hb dX4_isWord_60 hl (k := 0) rfl (by rw [en_12]; rfl) (by decide) rfl (fun ls hl => ?_)
          clear en_12
          refine lv_goto (tgt := 28) hx hb dX4_isWord_63 (by decide) ?_
          exact ihk_5 n_12 _ _ _ (by show ((s_n kk : Int) - n_12.toInt).toNat < k_5; omega) ⟨(by first | omega | decide | (simp only [fa_lt, fa_le, fa_eq, and_true, true_and, and_false, false_and, not_true_eq_false, not_false_eq_true, li_0, li_1, li_2, li_3, li_4, li_5, li_6, li_7, li_8, li_9, li_10, li_12, li_15, li_16, li_20, li_30, li_34, li_38, li_40, li_63, li_64, li_65, li_78, li_120, li_1000, li_4000, li_10000, li_11077, li_255, li_65535, li_m1, li_m2, li_m1000000001, li_m1000000002, li_m1000000003, li_m1000000004, li_m1000000005, li_m1000000006, li_m1000000007, or_true, true_or, or_false, false_or, implies_true, true_implies, false_implies] <;> omega)), rfl, rfl, lv_sub hl [0, 1, 2] rfl⟩
        · skip
          have tc_11 : ¬ n_9.toInt = r_10.toInt := fun h => c_11 ((fa_eq _ _).mpr h)
          refine lv_iconst (v := 0) hx hb dX4_isWord_58 (by decide) ?_
          exact W.zret (v := (0 : Int32)) hx hb hr (by decide) (fun t ht hW => ⟨(0 : Int32), rfl, (by first | omega | decide | (simp only [fa_lt, fa_le, fa_eq, and_true, true_and, and_false, false_and, not_true_eq_false, not_false_eq_true, li_0, li_1, li_2, li_3, li_4, li_5, li_6, li_7, li_8, li_9, li_10, li_12, li_15, li_16, li_20, li_30, li_34, li_38, li_40, li_63, li_64, li_65, li_78, li_120, li_1000, li_4000, li_10000, li_11077, li_255, li_65535, li_m1, li_m2, li_m1000000001, li_m1000000002, li_m1000000003, li_m1000000004, li_m1000000005, li_m1000000006, li_m1000000007, or_true, true_or, or_false, false_or, implies_true, true_implies, false_implies] <;> omega)), ht⟩) (fun _ h => absurd h List.not_mem_nil) dX4_isWord_59
    · skip
      have tc_4 : ¬ n_2.toInt = r_3.toInt := fun h => c_4 ((fa_eq _ _).mpr h)
      refine lv_iconst (v := 0) hx hb dX4_isWord_24 (by decide) ?_
      exact W.zret (v := (0 : Int32)) hx hb hr (by decide) (fun t ht hW => ⟨(0 : Int32), rfl, (by first | omega | decide | (simp only [fa_lt, fa_le, fa_eq, and_true, true_and, and_false, false_and, not_true_eq_false, not_false_eq_true, li_0, li_1, li_2, li_3, li_4, li_5, li_6, li_7, li_8, li_9, li_10, li_12, li_15, li_16, li_20, li_30, li_34, li_38, li_40, li_63, li_64, li_65, li_78, li_120, li_1000, li_4000, li_10000, li_11077, li_255, li_65535, li_m1, li_m2, li_m1000000001, li_m1000000002, li_m1000000003, li_m1000000004, li_m1000000005, li_m1000000006, li_m1000000007, or_true, true_or, or_false, false_or, implies_true, true_implies, false_implies] <;> omega)), ht⟩) (fun _ h => absurd h List.not_mem_nil) dX4_isWord_25

