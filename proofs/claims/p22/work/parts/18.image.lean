theorem dX8_image_0 : decode cX8_image 0 = .ok (.aload_n 0, 1) := by decide +kernel
theorem dX8_image_1 : decode cX8_image 1 = .ok (.getfield 16, 3) := by decide +kernel
theorem dX8_image_4 : decode cX8_image 4 = .ok (.aload_n 0, 1) := by decide +kernel
theorem dX8_image_5 : decode cX8_image 5 = .ok (.getfield 10, 3) := by decide +kernel
theorem dX8_image_8 : decode cX8_image 8 = .ok (.invokevirtual 250, 3) := by decide +kernel
theorem dX8_image_11 : decode cX8_image 11 = .ok (.aload_n 0, 1) := by decide +kernel
theorem dX8_image_12 : decode cX8_image 12 = .ok (.iconst 1, 1) := by decide +kernel
theorem dX8_image_13 : decode cX8_image 13 = .ok (.putfield 50, 3) := by decide +kernel
theorem dX8_image_16 : decode cX8_image 16 = .ok (.iconst 1, 1) := by decide +kernel
theorem dX8_image_17 : decode cX8_image 17 = .ok (.ireturn, 1) := by decide +kernel
theorem dX8_undo_0 : decode cX8_undo 0 = .ok (.aload_n 0, 1) := by decide +kernel
theorem dX8_undo_1 : decode cX8_undo 1 = .ok (.getfield 50, 3) := by decide +kernel
theorem dX8_undo_4 : decode cX8_undo 4 = .ok (.ifCond .ne 10, 3) := by decide +kernel
theorem dX8_undo_7 : decode cX8_undo 7 = .ok (.aload_n 0, 1) := by decide +kernel
theorem dX8_undo_8 : decode cX8_undo 8 = .ok (.ldc 149, 2) := by decide +kernel
theorem dX8_undo_10 : decode cX8_undo 10 = .ok (.invokevirtual 63, 3) := by decide +kernel
theorem dX8_undo_13 : decode cX8_undo 13 = .ok (.ireturn, 1) := by decide +kernel
theorem dX8_undo_14 : decode cX8_undo 14 = .ok (.aload_n 0, 1) := by decide +kernel
theorem dX8_undo_15 : decode cX8_undo 15 = .ok (.getfield 10, 3) := by decide +kernel
theorem dX8_undo_18 : decode cX8_undo 18 = .ok (.aload_n 0, 1) := by decide +kernel
theorem dX8_undo_19 : decode cX8_undo 19 = .ok (.getfield 16, 3) := by decide +kernel
theorem dX8_undo_22 : decode cX8_undo 22 = .ok (.invokevirtual 250, 3) := by decide +kernel
theorem dX8_undo_25 : decode cX8_undo 25 = .ok (.aload_n 0, 1) := by decide +kernel
theorem dX8_undo_26 : decode cX8_undo 26 = .ok (.getfield 10, 3) := by decide +kernel
theorem dX8_undo_29 : decode cX8_undo 29 = .ok (.getfield 141, 3) := by decide +kernel
theorem dX8_undo_32 : decode cX8_undo 32 = .ok (.ireturn, 1) := by decide +kernel
theorem dX8_forget_0 : decode cX8_forget 0 = .ok (.aload_n 0, 1) := by decide +kernel
theorem dX8_forget_1 : decode cX8_forget 1 = .ok (.getfield 50, 3) := by decide +kernel
theorem dX8_forget_4 : decode cX8_forget 4 = .ok (.ifCond .eq 7, 3) := by decide +kernel
theorem dX8_forget_7 : decode cX8_forget 7 = .ok (.iconst 1, 1) := by decide +kernel
theorem dX8_forget_8 : decode cX8_forget 8 = .ok (.goto 4, 3) := by decide +kernel
theorem dX8_forget_11 : decode cX8_forget 11 = .ok (.iconst 0, 1) := by decide +kernel
theorem dX8_forget_12 : decode cX8_forget 12 = .ok (.istore_n 1, 1) := by decide +kernel
theorem dX8_forget_13 : decode cX8_forget 13 = .ok (.aload_n 0, 1) := by decide +kernel
theorem dX8_forget_14 : decode cX8_forget 14 = .ok (.iconst 0, 1) := by decide +kernel
theorem dX8_forget_15 : decode cX8_forget 15 = .ok (.putfield 50, 3) := by decide +kernel
theorem dX8_forget_18 : decode cX8_forget 18 = .ok (.iload_n 1, 1) := by decide +kernel
theorem dX8_forget_19 : decode cX8_forget 19 = .ok (.ireturn, 1) := by decide +kernel
theorem dX8_count_0 : decode cX8_count 0 = .ok (.iload_n 1, 1) := by decide +kernel
theorem dX8_count_1 : decode cX8_count 1 = .ok (.tableswitch 108 0 6 #[43, 51, 62, 70, 78, 89, 100], 43) := by decide +kernel
theorem dX8_count_44 : decode cX8_count 44 = .ok (.aload_n 0, 1) := by decide +kernel
theorem dX8_count_45 : decode cX8_count 45 = .ok (.getfield 10, 3) := by decide +kernel
theorem dX8_count_48 : decode cX8_count 48 = .ok (.getfield 141, 3) := by decide +kernel
theorem dX8_count_51 : decode cX8_count 51 = .ok (.ireturn, 1) := by decide +kernel
theorem dX8_count_52 : decode cX8_count 52 = .ok (.aload_n 0, 1) := by decide +kernel
theorem dX8_count_53 : decode cX8_count 53 = .ok (.getfield 10, 3) := by decide +kernel
theorem dX8_count_56 : decode cX8_count 56 = .ok (.getfield 297, 3) := by decide +kernel
theorem dX8_count_59 : decode cX8_count 59 = .ok (.invokestatic 229, 3) := by decide +kernel
theorem dX8_count_62 : decode cX8_count 62 = .ok (.ireturn, 1) := by decide +kernel
theorem dX8_count_63 : decode cX8_count 63 = .ok (.aload_n 0, 1) := by decide +kernel
theorem dX8_count_64 : decode cX8_count 64 = .ok (.getfield 10, 3) := by decide +kernel
theorem dX8_count_67 : decode cX8_count 67 = .ok (.getfield 204, 3) := by decide +kernel
theorem dX8_count_70 : decode cX8_count 70 = .ok (.ireturn, 1) := by decide +kernel
theorem dX8_count_71 : decode cX8_count 71 = .ok (.aload_n 0, 1) := by decide +kernel
theorem dX8_count_72 : decode cX8_count 72 = .ok (.getfield 10, 3) := by decide +kernel
theorem dX8_count_75 : decode cX8_count 75 = .ok (.invokevirtual 300, 3) := by decide +kernel
theorem dX8_count_78 : decode cX8_count 78 = .ok (.ireturn, 1) := by decide +kernel
theorem dX8_count_79 : decode cX8_count 79 = .ok (.aload_n 0, 1) := by decide +kernel
theorem dX8_count_80 : decode cX8_count 80 = .ok (.getfield 10, 3) := by decide +kernel
theorem dX8_count_83 : decode cX8_count 83 = .ok (.invokevirtual 134, 3) := by decide +kernel
theorem dX8_count_86 : decode cX8_count 86 = .ok (.invokestatic 303, 3) := by decide +kernel
theorem dX8_count_89 : decode cX8_count 89 = .ok (.ireturn, 1) := by decide +kernel
theorem dX8_count_90 : decode cX8_count 90 = .ok (.aload_n 0, 1) := by decide +kernel
theorem dX8_count_91 : decode cX8_count 91 = .ok (.getfield 36, 3) := by decide +kernel
theorem dX8_count_94 : decode cX8_count 94 = .ok (.getfield 232, 3) := by decide +kernel
theorem dX8_count_97 : decode cX8_count 97 = .ok (.getfield 244, 3) := by decide +kernel
theorem dX8_count_100 : decode cX8_count 100 = .ok (.ireturn, 1) := by decide +kernel
theorem dX8_count_101 : decode cX8_count 101 = .ok (.aload_n 0, 1) := by decide +kernel
theorem dX8_count_102 : decode cX8_count 102 = .ok (.getfield 10, 3) := by decide +kernel
theorem dX8_count_105 : decode cX8_count 105 = .ok (.getfield 171, 3) := by decide +kernel
theorem dX8_count_108 : decode cX8_count 108 = .ok (.ireturn, 1) := by decide +kernel
theorem dX8_count_109 : decode cX8_count 109 = .ok (.aload_n 0, 1) := by decide +kernel
theorem dX8_count_110 : decode cX8_count 110 = .ok (.ldc 62, 2) := by decide +kernel
theorem dX8_count_112 : decode cX8_count 112 = .ok (.invokevirtual 63, 3) := by decide +kernel
theorem dX8_count_115 : decode cX8_count 115 = .ok (.ireturn, 1) := by decide +kernel
theorem dX8_status_0 : decode cX8_status 0 = .ok (.iload_n 1, 1) := by decide +kernel
theorem dX8_status_1 : decode cX8_status 1 = .ok (.iconst (-1), 1) := by decide +kernel
theorem dX8_status_2 : decode cX8_status 2 = .ok (.if_icmp .lt 9, 3) := by decide +kernel
theorem dX8_status_5 : decode cX8_status 5 = .ok (.iload_n 1, 1) := by decide +kernel
theorem dX8_status_6 : decode cX8_status 6 = .ok (.bipush 7, 2) := by decide +kernel
theorem dX8_status_8 : decode cX8_status 8 = .ok (.if_icmp .lt 10, 3) := by decide +kernel
theorem dX8_status_11 : decode cX8_status 11 = .ok (.aload_n 0, 1) := by decide +kernel
theorem dX8_status_12 : decode cX8_status 12 = .ok (.ldc 62, 2) := by decide +kernel
theorem dX8_status_14 : decode cX8_status 14 = .ok (.invokevirtual 63, 3) := by decide +kernel
theorem dX8_status_17 : decode cX8_status 17 = .ok (.ireturn, 1) := by decide +kernel
theorem dX8_status_18 : decode cX8_status 18 = .ok (.iload_n 1, 1) := by decide +kernel
theorem dX8_status_19 : decode cX8_status 19 = .ok (.ifCond .lt 10, 3) := by decide +kernel
theorem dX8_status_22 : decode cX8_status 22 = .ok (.aload_n 0, 1) := by decide +kernel
theorem dX8_status_23 : decode cX8_status 23 = .ok (.getfield 46, 3) := by decide +kernel
theorem dX8_status_26 : decode cX8_status 26 = .ok (.iload_n 1, 1) := by decide +kernel
theorem dX8_status_27 : decode cX8_status 27 = .ok (.iaload, 1) := by decide +kernel
theorem dX8_status_28 : decode cX8_status 28 = .ok (.ireturn, 1) := by decide +kernel
theorem dX8_status_29 : decode cX8_status 29 = .ok (.iconst 0, 1) := by decide +kernel
theorem dX8_status_30 : decode cX8_status 30 = .ok (.istore_n 2, 1) := by decide +kernel
theorem dX8_status_31 : decode cX8_status 31 = .ok (.iconst 0, 1) := by decide +kernel
theorem dX8_status_32 : decode cX8_status 32 = .ok (.istore_n 3, 1) := by decide +kernel
theorem dX8_status_33 : decode cX8_status 33 = .ok (.iload_n 3, 1) := by decide +kernel
theorem dX8_status_34 : decode cX8_status 34 = .ok (.bipush 7, 2) := by decide +kernel
theorem dX8_status_36 : decode cX8_status 36 = .ok (.if_icmp .ge 18, 3) := by decide +kernel
theorem dX8_status_39 : decode cX8_status 39 = .ok (.iload_n 2, 1) := by decide +kernel
theorem dX8_status_40 : decode cX8_status 40 = .ok (.aload_n 0, 1) := by decide +kernel
theorem dX8_status_41 : decode cX8_status 41 = .ok (.getfield 46, 3) := by decide +kernel
theorem dX8_status_44 : decode cX8_status 44 = .ok (.iload_n 3, 1) := by decide +kernel
theorem dX8_status_45 : decode cX8_status 45 = .ok (.iaload, 1) := by decide +kernel
theorem dX8_status_46 : decode cX8_status 46 = .ok (.iadd, 1) := by decide +kernel
theorem dX8_status_47 : decode cX8_status 47 = .ok (.istore_n 2, 1) := by decide +kernel
theorem dX8_status_48 : decode cX8_status 48 = .ok (.iinc 3 1, 3) := by decide +kernel
theorem dX8_status_51 : decode cX8_status 51 = .ok (.goto (-18), 3) := by decide +kernel
theorem dX8_status_54 : decode cX8_status 54 = .ok (.iload_n 2, 1) := by decide +kernel
theorem dX8_status_55 : decode cX8_status 55 = .ok (.ireturn, 1) := by decide +kernel
def w_x_image : List Cond := .code yX8_image cX8_image 1 (some .int) :: (([.fieldLink RX8 16 "LampShapes" "kept" "LLampShapes$Stage;", .fieldLink RX8 10 "LampShapes" "now" "LLampShapes$Stage;", .methodLink RX8 250 yX6_takeAll, .instanceMethod yX6_takeAll, .selects RX6 yX6_takeAll yX6_takeAll, .initialized RX6, .code yX6_takeAll cX6_takeAll 2 none, .fieldLink RX6 9 "LampShapes$Stage" "shapes" "I", .fieldLink RX6 15 "LampShapes$Stage" "kinds" "[I", .methodLink RX6 41 arraycopyName, .native arraycopyName, .static arraycopyName, .initialized "java/lang/System", .fieldLink RX6 19 "LampShapes$Stage" "points" "[I", .fieldLink RX6 22 "LampShapes$Stage" "tornShapes" "I", .fieldLink RX6 25 "LampShapes$Stage" "heldShapes" "[I", .fieldLink RX6 28 "LampShapes$Stage" "heldPlacings" "[I", .fieldLink RX6 31 "LampShapes$Stage" "scenes" "I", .fieldLink RX6 34 "LampShapes$Stage" "pictures" "[J", .fieldLink RX6 38 "LampShapes$Stage" "allowed" "I", .fieldLink RX8 50 "LampShapes" "isKept" "Z"] : List Cond) ++ wsX80 ++ wsX60)
set_option maxRecDepth 20000 in
theorem g_x_image_s_takeAll_250 : GoodIn w_x_image (wsV RX8 250 RX6 yX6_takeAll w_s_takeAll) := goodIn_r _ [3, 4, 5, 6, 7, 8, 9, 10, 11, 12, 13, 14, 15, 16, 17, 18, 19, 20, 30, 31, 32, 33, 34, 35, 36, 37, 38] rfl (by decide +kernel)
set_option maxHeartbeats 4000000 in
set_option maxRecDepth 100000 in
theorem x_image (l : Launch) (dC : Nat → ClassId) (dI : Nat → Nat → Nat) (ad : Nat → Nat) (h0 : Nat) (ah : Nat) (bh : Nat) (v2 : Value) (v3 : Value) (v4 : Value) (v5 : Value) (v6 : Value) (ik : Int32) (sh : Int32) (q1 : Nat) (q2 : Nat) (tn : Int32) (q3 : Nat) (q4 : Nat) (sc : Int32) (q5 : Nat) (al : Int32) (c1 : ClassId) (f1 : Nat → Int32) (c2 : ClassId) (f2 : Nat → Int32) (c3 : ClassId) (f3 : Nat → Int32) (c4 : ClassId) (f4 : Nat → Int32) (c5 : ClassId) (f5 : Nat → Int64) (shk : Int32) (q1k : Nat) (q2k : Nat) (tnk : Int32) (q3k : Nat) (q4k : Nat) (sck : Int32) (q5k : Nat) (alk : Int32) (c1k : ClassId) (f1k : Nat → Int32) (c2k : ClassId) (f2k : Nat → Int32) (c3k : ClassId) (f3k : Nat → Int32) (c4k : ClassId) (f4k : Nat → Int32) (c5k : ClassId) (f5k : Nat → Int64) (sz : Nat) : Met l yX8_image w_x_image ({ frames := 2, cells := 0, slots := 0, locals := 61 } : Room) (va_Pc [.ref h0] (preM dC dI ad [(c1, .int), (c2, .int), (c3, .int), (c4, .int), (c5, .long), (c1k, .int), (c2k, .int), (c3k, .int), (c4k, .int), (c5k, .long)] [(h0, .inr (6, [.ref ah, .ref bh, v2, v3, v4, v5, v6, .int ik])), (ah, .inr (4, [.int sh, .ref q1, .ref q2, .int tn, .ref q3, .ref q4, .int sc, .ref q5, .int al])), (q1, .inl (c1, 9, .inl f1)), (q2, .inl (c2, 9, .inl f2)), (q3, .inl (c3, 4, .inl f3)), (q4, .inl (c4, 4, .inl f4)), (q5, .inl (c5, 7, .inr (.inl f5))), (bh, .inr (4, [.int shk, .ref q1k, .ref q2k, .int tnk, .ref q3k, .ref q4k, .int sck, .ref q5k, .int alk])), (q1k, .inl (c1k, 9, .inl f1k)), (q2k, .inl (c2k, 9, .inl f2k)), (q3k, .inl (c3k, 4, .inl f3k)), (q4k, .inl (c4k, 4, .inl f4k)), (q5k, .inl (c5k, 7, .inr (.inl f5k)))] sz)) (va_Qi (fun (r : Int32) (_ : Unit) => r.toInt = 1) (fun _ t => ∃ (g1k : Nat → Int32), ∃ (g2k : Nat → Int32), ∃ (g3k : Nat → Int32), ∃ (g4k : Nat → Int32), ∃ (g5k : Nat → Int64), va_P (dC, dI) vwCl [(h0, .inr (6, [.ref ah, .ref bh, v2, v3, v4, v5, v6, .int 1])), (ah, .inr (4, [.int sh, .ref q1, .ref q2, .int tn, .ref q3, .ref q4, .int sc, .ref q5, .int al])), (q1, .inl (c1, 9, .inl f1)), (q2, .inl (c2, 9, .inl f2)), (q3, .inl (c3, 4, .inl f3)), (q4, .inl (c4, 4, .inl f4)), (q5, .inl (c5, 7, .inr (.inl f5))), (bh, .inr (4, [.int sh, .ref q1k, .ref q2k, .int tn, .ref q3k, .ref q4k, .int sc, .ref q5k, .int al])), (q1k, .inl (c1k, 9, .inl g1k)), (q2k, .inl (c2k, 9, .inl g2k)), (q3k, .inl (c3k, 4, .inl g3k)), (q4k, .inl (c4k, 4, .inl g4k)), (q5k, .inl (c5k, 7, .inr (.inl g5k)))] t.heap ∧ va_K (dC, dI) vwCl [(c1, .int), (c2, .int), (c3, .int), (c4, .int), (c5, .long), (c1k, .int), (c2k, .int), (c3k, .int), (c4k, .int), (c5k, .long)] t ∧ va_D (va_A [(h0, .inr (6, [.ref ah, .ref bh, v2, v3, v4, v5, v6, .int ik])), (ah, .inr (4, [.int sh, .ref q1, .ref q2, .int tn, .ref q3, .ref q4, .int sc, .ref q5, .int al])), (q1, .inl (c1, 9, .inl f1)), (q2, .inl (c2, 9, .inl f2)), (q3, .inl (c3, 4, .inl f3)), (q4, .inl (c4, 4, .inl f4)), (q5, .inl (c5, 7, .inr (.inl f5))), (bh, .inr (4, [.int shk, .ref q1k, .ref q2k, .int tnk, .ref q3k, .ref q4k, .int sck, .ref q5k, .int alk])), (q1k, .inl (c1k, 9, .inl f1k)), (q2k, .inl (c2k, 9, .inl f2k)), (q3k, .inl (c3k, 4, .inl f3k)), (q4k, .inl (c4k, 4, .inl f4k)), (q5k, .inl (c5k, 7, .inr (.inl f5k)))] sz) [(h0, .inr (6, [.ref ah, .ref bh, v2, v3, v4, v5, v6, .int 1])), (ah, .inr (4, [.int sh, .ref q1, .ref q2, .int tn, .ref q3, .ref q4, .int sc, .ref q5, .int al])), (q1, .inl (c1, 9, .inl f1)), (q2, .inl (c2, 9, .inl f2)), (q3, .inl (c3, 4, .inl f3)), (q4, .inl (c4, 4, .inl f4)), (q5, .inl (c5, 7, .inr (.inl f5))), (bh, .inr (4, [.int sh, .ref q1k, .ref q2k, .int tn, .ref q3k, .ref q4k, .int sc, .ref q5k, .int al])), (q1k, .inl (c1k, 9, .inl g1k)), (q2k, .inl (c2k, 9, .inl g2k)), (q3k, .inl (c3k, 4, .inl g3k)), (q4k, .inl (c4k, 4, .inl g4k)), (q5k, .inl (c5k, 7, .inr (.inl g5k)))]) (va_A [(h0, .inr (6, [.ref ah, .ref bh, v2, v3, v4, v5, v6, .int ik])), (ah, .inr (4, [.int sh, .ref q1, .ref q2, .int tn, .ref q3, .ref q4, .int sc, .ref q5, .int al])), (q1, .inl (c1, 9, .inl f1)), (q2, .inl (c2, 9, .inl f2)), (q3, .inl (c3, 4, .inl f3)), (q4, .inl (c4, 4, .inl f4)), (q5, .inl (c5, 7, .inr (.inl f5))), (bh, .inr (4, [.int shk, .ref q1k, .ref q2k, .int tnk, .ref q3k, .ref q4k, .int sck, .ref q5k, .int alk])), (q1k, .inl (c1k, 9, .inl f1k)), (q2k, .inl (c2k, 9, .inl f2k)), (q3k, .inl (c3k, 4, .inl f3k)), (q4k, .inl (c4k, 4, .inl f4k)), (q5k, .inl (c5k, 7, .inr (.inl f5k)))] sz)) 0 0 (va_A [(h0, .inr (6, [.ref ah, .ref bh, v2, v3, v4, v5, v6, .int ik])), (ah, .inr (4, [.int sh, .ref q1, .ref q2, .int tn, .ref q3, .ref q4, .int sc, .ref q5, .int al])), (q1, .inl (c1, 9, .inl f1)), (q2, .inl (c2, 9, .inl f2)), (q3, .inl (c3, 4, .inl f3)), (q4, .inl (c4, 4, .inl f4)), (q5, .inl (c5, 7, .inr (.inl f5))), (bh, .inr (4, [.int shk, .ref q1k, .ref q2k, .int tnk, .ref q3k, .ref q4k, .int sck, .ref q5k, .int alk])), (q1k, .inl (c1k, 9, .inl f1k)), (q2k, .inl (c2k, 9, .inl f2k)), (q3k, .inl (c3k, 4, .inl f3k)), (q4k, .inl (c4k, 4, .inl f4k)), (q5k, .inl (c5k, 7, .inr (.inl f5k)))] sz) := by
  refine Met.ofW (cc := cX8_image) (maxL := 1) (ret := (some .int)) (by decide) rfl ?_
  intro p e s m args below meth c s₁ B hml hv
  obtain ⟨rfl, hsz, hP, hK, hD0, hev⟩ := hv
  have hx := B.exec
  have hb := B.bytes
  have hr := B.returns
  have hts := atoms_spec (ws := w_x_image) B.pre
  have hown : s.vm.findClass RX8 = some m.cls := findClass_of_methodNamed B.named
  have hlocks := B.notSynchronized
  have inX8 : ∀ w ∈ wsX80, w ∈ w_x_image := fun w h => List.mem_cons_of_mem _ (List.mem_append_left _ (List.mem_append_right _ h))
  have inX6 : ∀ w ∈ wsX60, w ∈ w_x_image := fun w h => List.mem_cons_of_mem _ (List.mem_append_right _ h)
  subst hsz
  have hD := hD0.self (sz := s.heap.size)
  generalize hAe : va_A [(h0, .inr (6, [.ref ah, .ref bh, v2, v3, v4, v5, v6, .int ik])), (ah, .inr (4, [.int sh, .ref q1, .ref q2, .int tn, .ref q3, .ref q4, .int sc, .ref q5, .int al])), (q1, .inl (c1, 9, .inl f1)), (q2, .inl (c2, 9, .inl f2)), (q3, .inl (c3, 4, .inl f3)), (q4, .inl (c4, 4, .inl f4)), (q5, .inl (c5, 7, .inr (.inl f5))), (bh, .inr (4, [.int shk, .ref q1k, .ref q2k, .int tnk, .ref q3k, .ref q4k, .int sck, .ref q5k, .int alk])), (q1k, .inl (c1k, 9, .inl f1k)), (q2k, .inl (c2k, 9, .inl f2k)), (q3k, .inl (c3k, 4, .inl f3k)), (q4k, .inl (c4k, 4, .inl f4k)), (q5k, .inl (c5k, 7, .inr (.inl f5k)))] s.heap.size = A at hD ⊢
  have hA : ∀ q : Nat, s.heap.size ≤ q → A q := fun q h => by rw [← hAe]; exact Or.inr h
  have hS : va_S A s.heap s.heap [] := va_S.rf
  have hP : va_P (dC, dI) vwCl [(h0, .inr (6, [.ref ah, .ref bh, v2, v3, v4, v5, v6, .int ik])), (ah, .inr (4, [.int sh, .ref q1, .ref q2, .int tn, .ref q3, .ref q4, .int sc, .ref q5, .int al])), (q1, .inl (c1, 9, .inl f1)), (q2, .inl (c2, 9, .inl f2)), (q3, .inl (c3, 4, .inl f3)), (q4, .inl (c4, 4, .inl f4)), (q5, .inl (c5, 7, .inr (.inl f5))), (bh, .inr (4, [.int shk, .ref q1k, .ref q2k, .int tnk, .ref q3k, .ref q4k, .int sck, .ref q5k, .int alk])), (q1k, .inl (c1k, 9, .inl f1k)), (q2k, .inl (c2k, 9, .inl f2k)), (q3k, .inl (c3k, 4, .inl f3k)), (q4k, .inl (c4k, 4, .inl f4k)), (q5k, .inl (c5k, 7, .inr (.inl f5k)))] s.heap := hP
  have hl := lv_entry ([.ref h0]) (n := 1) (Nat.le_of_ble_eq_true rfl)
  rw [lg_entry_eq]
  generalize (lg_sl ([.ref h0]) ++ List.replicate (1 - (lg_sl ([.ref h0])).length) Slot.unset).toArray = ls at hl ⊢
  have hl : lv_has ls 1 [(0, .ref h0)] := hl
  refine lv_aload_n hx hb dX8_image_0 rfl (lv_at hl 0 rfl) ?_
  refine va_get (D := (dC, dI)) (ci := 6) (v := .ref bh) (C := RX8) (T := TX8) (N := 8) hx hb hts inX8 hown hK hP 0 rfl rfl 1 (by decide) (hts _ (List.mem_of_getElem? (i := 1) rfl)) (fun _ h9 => h9) rfl dX8_image_1 ?_
  refine lv_aload_n hx hb dX8_image_4 rfl (lv_at hl 0 rfl) ?_
  refine va_get (D := (dC, dI)) (ci := 6) (v := .ref ah) (C := RX8) (T := TX8) (N := 8) hx hb hts inX8 hown hK hP 0 rfl rfl 0 (by decide) (hts _ (List.mem_of_getElem? (i := 2) rfl)) (fun _ h9 => h9) rfl dX8_image_5 ?_
  have hPc := hP.sub (ws' := [(bh, .inr (4, [.int shk, .ref q1k, .ref q2k, .int tnk, .ref q3k, .ref q4k, .int sck, .ref q5k, .int alk])), (q1k, .inl (c1k, 9, .inl f1k)), (q2k, .inl (c2k, 9, .inl f2k)), (q3k, .inl (c3k, 4, .inl f3k)), (q4k, .inl (c4k, 4, .inl f4k)), (q5k, .inl (c5k, 7, .inr (.inl f5k))), (ah, .inr (4, [.int sh, .ref q1, .ref q2, .int tn, .ref q3, .ref q4, .int sc, .ref q5, .int al])), (q1, .inl (c1, 9, .inl f1)), (q2, .inl (c2, 9, .inl f2)), (q3, .inl (c3, 4, .inl f3)), (q4, .inl (c4, 4, .inl f4)), (q5, .inl (c5, 7, .inr (.inl f5)))]) [7, 8, 9, 10, 11, 12, 1, 2, 3, 4, 5, 6] rfl
  have hKc := hK.sub (tys' := [(c1k, .int), (c2k, .int), (c3k, .int), (c4k, .int), (c5k, .long), (c1, .int), (c2, .int), (c3, .int), (c4, .int), (c5, .long)]) [5, 6, 7, 8, 9, 0, 1, 2, 3, 4] rfl
  have hDc := hD.sub (ws' := [(bh, .inr (4, [.int shk, .ref q1k, .ref q2k, .int tnk, .ref q3k, .ref q4k, .int sck, .ref q5k, .int alk])), (q1k, .inl (c1k, 9, .inl f1k)), (q2k, .inl (c2k, 9, .inl f2k)), (q3k, .inl (c3k, 4, .inl f3k)), (q4k, .inl (c4k, 4, .inl f4k)), (q5k, .inl (c5k, 7, .inr (.inl f5k))), (ah, .inr (4, [.int sh, .ref q1, .ref q2, .int tn, .ref q3, .ref q4, .int sc, .ref q5, .int al])), (q1, .inl (c1, 9, .inl f1)), (q2, .inl (c2, 9, .inl f2)), (q3, .inl (c3, 4, .inl f3)), (q4, .inl (c4, 4, .inl f4)), (q5, .inl (c5, 7, .inr (.inl f5)))]) [7, 8, 9, 10, 11, 12, 1, 2, 3, 4, 5, 6] (by decide) rfl
  have hFc := va_free (wc := [(bh, .inr (4, [.int shk, .ref q1k, .ref q2k, .int tnk, .ref q3k, .ref q4k, .int sck, .ref q5k, .int alk])), (q1k, .inl (c1k, 9, .inl f1k)), (q2k, .inl (c2k, 9, .inl f2k)), (q3k, .inl (c3k, 4, .inl f3k)), (q4k, .inl (c4k, 4, .inl f4k)), (q5k, .inl (c5k, 7, .inr (.inl f5k))), (ah, .inr (4, [.int sh, .ref q1, .ref q2, .int tn, .ref q3, .ref q4, .int sc, .ref q5, .int al])), (q1, .inl (c1, 9, .inl f1)), (q2, .inl (c2, 9, .inl f2)), (q3, .inl (c3, 4, .inl f3)), (q4, .inl (c4, 4, .inl f4)), (q5, .inl (c5, 7, .inr (.inl f5)))]) hD hS hA [7, 8, 9, 10, 11, 12, 1, 2, 3, 4, 5, 6] rfl
  refine va_callv (va_runV (As := [.ref ah]) (rest := []) ⟨hx, hb, hml, hown, hts⟩ (s_takeAll l dC dI ad bh ah shk q1k q2k tnk q3k q4k sck q5k alk c1k f1k c2k f2k c3k f3k c4k f4k c5k f5k sh q1 q2 tn q3 q4 sc q5 al c1 f1 c2 f2 c3 f3 c4 f4 c5 f5 s.heap.size ) (cwV 1 hts g_x_image_s_takeAll_250 rfl rfl rfl (by decide +kernel) ⟨(Nat.le_of_ble_eq_true rfl), (Nat.le_of_ble_eq_true rfl)⟩) ⟨preM_blind, va_recv hKc hPc (ci := 4) (q0 := 0) rfl rfl, fun U hU hW => ⟨rfl, preM_at hU hW hPc hKc hDc hev⟩⟩ rfl rfl hl.1 rfl (lv_room (Nat.le_of_ble_eq_true rfl)) dX8_image_8 ⟨(Nat.le_of_ble_eq_true rfl), (Nat.le_of_ble_eq_true rfl)⟩) hS (fun q _ h => hFc q h) hFc (fun u t H1 locs ht hvm hw hB hz1 hk1 hS => ?_)
  obtain ⟨g_2, g_3, g_4, g_5, g_6, hP1, hK1, hD1⟩ := hB
  rw [ht] at hP1
  have hK1 := va_K.moved hvm.symm hK1
  obtain ⟨hP, hD⟩ := va_join (wr := [(h0, .inr (6, [.ref ah, .ref bh, v2, v3, v4, v5, v6, .int ik]))]) (w1 := [(bh, .inr (4, [.int sh, .ref q1k, .ref q2k, .int tn, .ref q3k, .ref q4k, .int sc, .ref q5k, .int al])), (q1k, .inl (c1k, 9, .inl g_2)), (q2k, .inl (c2k, 9, .inl g_3)), (q3k, .inl (c3k, 4, .inl g_4)), (q4k, .inl (c4k, 4, .inl g_5)), (q5k, .inl (c5k, 7, .inr (.inl g_6))), (ah, .inr (4, [.int sh, .ref q1, .ref q2, .int tn, .ref q3, .ref q4, .int sc, .ref q5, .int al])), (q1, .inl (c1, 9, .inl f1)), (q2, .inl (c2, 9, .inl f2)), (q3, .inl (c3, 4, .inl f3)), (q4, .inl (c4, 4, .inl f4)), (q5, .inl (c5, 7, .inr (.inl f5)))]) hP hD [7, 8, 9, 10, 11, 12, 1, 2, 3, 4, 5, 6] [0] rfl rfl (by decide) (by decide) hk1 hFc hP1 hD1
  generalize H1 = H at hP hS ⊢
  have hP : va_P (dC, dI) vwCl [(h0, .inr (6, [.ref ah, .ref bh, v2, v3, v4, v5, v6, .int ik])), (bh, .inr (4, [.int sh, .ref q1k, .ref q2k, .int tn, .ref q3k, .ref q4k, .int sc, .ref q5k, .int al])), (q1k, .inl (c1k, 9, .inl g_2)), (q2k, .inl (c2k, 9, .inl g_3)), (q3k, .inl (c3k, 4, .inl g_4)), (q4k, .inl (c4k, 4, .inl g_5)), (q5k, .inl (c5k, 7, .inr (.inl g_6))), (ah, .inr (4, [.int sh, .ref q1, .ref q2, .int tn, .ref q3, .ref q4, .int sc, .ref q5, .int al])), (q1, .inl (c1, 9, .inl f1)), (q2, .inl (c2, 9, .inl f2)), (q3, .inl (c3, 4, .inl f3)), (q4, .inl (c4, 4, .inl f4)), (q5, .inl (c5, 7, .inr (.inl f5)))] H := hP
  have hD : va_D A [(h0, .inr (6, [.ref ah, .ref bh, v2, v3, v4, v5, v6, .int ik])), (bh, .inr (4, [.int sh, .ref q1k, .ref q2k, .int tn, .ref q3k, .ref q4k, .int sc, .ref q5k, .int al])), (q1k, .inl (c1k, 9, .inl g_2)), (q2k, .inl (c2k, 9, .inl g_3)), (q3k, .inl (c3k, 4, .inl g_4)), (q4k, .inl (c4k, 4, .inl g_5)), (q5k, .inl (c5k, 7, .inr (.inl g_6))), (ah, .inr (4, [.int sh, .ref q1, .ref q2, .int tn, .ref q3, .ref q4, .int sc, .ref q5, .int al])), (q1, .inl (c1, 9, .inl f1)), (q2, .inl (c2, 9, .inl f2)), (q3, .inl (c3, 4, .inl f3)), (q4, .inl (c4, 4, .inl f4)), (q5, .inl (c5, 7, .inr (.inl f5)))] := hD
  refine lv_aload_n hx hb dX8_image_11 rfl (lv_at hl 0 rfl) ?_
  refine lv_iconst (v := 1) hx hb dX8_image_12 (by decide) ?_
  refine va_put (D := (dC, dI)) (ci := 6) (v := .int 1) (ty := .boolean) (C := RX8) (T := TX8) (N := 8) hx hb hts inX8 tyX8 tyX8_ok nmX8 hown hK hP hD hS 0 rfl rfl 7 (by decide) (hts _ (List.mem_of_getElem? (i := 21) rfl)) (fun _ h9 => h9) rfl (by decide +kernel) (by decide) rfl (Nat.le_of_ble_eq_true rfl) dX8_image_13 (fun H locs hP hD hS => ?_)
  have hP : va_P (dC, dI) vwCl [(h0, .inr (6, [.ref ah, .ref bh, v2, v3, v4, v5, v6, .int 1])), (bh, .inr (4, [.int sh, .ref q1k, .ref q2k, .int tn, .ref q3k, .ref q4k, .int sc, .ref q5k, .int al])), (q1k, .inl (c1k, 9, .inl g_2)), (q2k, .inl (c2k, 9, .inl g_3)), (q3k, .inl (c3k, 4, .inl g_4)), (q4k, .inl (c4k, 4, .inl g_5)), (q5k, .inl (c5k, 7, .inr (.inl g_6))), (ah, .inr (4, [.int sh, .ref q1, .ref q2, .int tn, .ref q3, .ref q4, .int sc, .ref q5, .int al])), (q1, .inl (c1, 9, .inl f1)), (q2, .inl (c2, 9, .inl f2)), (q3, .inl (c3, 4, .inl f3)), (q4, .inl (c4, 4, .inl f4)), (q5, .inl (c5, 7, .inr (.inl f5)))] H := hP
  have hD : va_D A [(h0, .inr (6, [.ref ah, .ref bh, v2, v3, v4, v5, v6, .int 1])), (bh, .inr (4, [.int sh, .ref q1k, .ref q2k, .int tn, .ref q3k, .ref q4k, .int sc, .ref q5k, .int al])), (q1k, .inl (c1k, 9, .inl g_2)), (q2k, .inl (c2k, 9, .inl g_3)), (q3k, .inl (c3k, 4, .inl g_4)), (q4k, .inl (c4k, 4, .inl g_5)), (q5k, .inl (c5k, 7, .inr (.inl g_6))), (ah, .inr (4, [.int sh, .ref q1, .ref q2, .int tn, .ref q3, .ref q4, .int sc, .ref q5, .int al])), (q1, .inl (c1, 9, .inl f1)), (q2, .inl (c2, 9, .inl f2)), (q3, .inl (c3, 4, .inl f3)), (q4, .inl (c4, 4, .inl f4)), (q5, .inl (c5, 7, .inr (.inl f5)))] := hD
  refine lv_iconst (v := 1) hx hb dX8_image_16 (by decide) ?_
  have hP9 := hP.sub (ws' := [(h0, .inr (6, [.ref ah, .ref bh, v2, v3, v4, v5, v6, .int 1])), (ah, .inr (4, [.int sh, .ref q1, .ref q2, .int tn, .ref q3, .ref q4, .int sc, .ref q5, .int al])), (q1, .inl (c1, 9, .inl f1)), (q2, .inl (c2, 9, .inl f2)), (q3, .inl (c3, 4, .inl f3)), (q4, .inl (c4, 4, .inl f4)), (q5, .inl (c5, 7, .inr (.inl f5))), (bh, .inr (4, [.int sh, .ref q1k, .ref q2k, .int tn, .ref q3k, .ref q4k, .int sc, .ref q5k, .int al])), (q1k, .inl (c1k, 9, .inl g_2)), (q2k, .inl (c2k, 9, .inl g_3)), (q3k, .inl (c3k, 4, .inl g_4)), (q4k, .inl (c4k, 4, .inl g_5)), (q5k, .inl (c5k, 7, .inr (.inl g_6)))]) [0, 7, 8, 9, 10, 11, 12, 1, 2, 3, 4, 5, 6] rfl
  have hD9 := hD.sub (ws' := [(h0, .inr (6, [.ref ah, .ref bh, v2, v3, v4, v5, v6, .int 1])), (ah, .inr (4, [.int sh, .ref q1, .ref q2, .int tn, .ref q3, .ref q4, .int sc, .ref q5, .int al])), (q1, .inl (c1, 9, .inl f1)), (q2, .inl (c2, 9, .inl f2)), (q3, .inl (c3, 4, .inl f3)), (q4, .inl (c4, 4, .inl f4)), (q5, .inl (c5, 7, .inr (.inl f5))), (bh, .inr (4, [.int sh, .ref q1k, .ref q2k, .int tn, .ref q3k, .ref q4k, .int sc, .ref q5k, .int al])), (q1k, .inl (c1k, 9, .inl g_2)), (q2k, .inl (c2k, 9, .inl g_3)), (q3k, .inl (c3k, 4, .inl g_4)), (q4k, .inl (c4k, 4, .inl g_5)), (q5k, .inl (c5k, 7, .inr (.inl g_6)))]) [0, 7, 8, 9, 10, 11, 12, 1, 2, 3, 4, 5, 6] (by decide) rfl
  have hK9 := hK.sub (tys' := [(c1, .int), (c2, .int), (c3, .int), (c4, .int), (c5, .long), (c1k, .int), (c2k, .int), (c3k, .int), (c4k, .int), (c5k, .long)]) [0, 1, 2, 3, 4, 5, 6, 7, 8, 9] rfl
  exact W.iret (v := (1 : Int32)) hx hb hr (fun t ht hW => ⟨⟨(1 : Int32), (), rfl, (by first | omega | decide | (simp only [fa_lt, fa_le, fa_eq, and_true, true_and, and_false, false_and, not_true_eq_false, not_false_eq_true, li_0, li_1, li_2, li_3, li_4, li_5, li_6, li_7, li_8, li_9, li_10, li_12, li_15, li_16, li_20, li_30, li_34, li_38, li_40, li_63, li_64, li_65, li_78, li_120, li_1000, li_4000, li_10000, li_11077, li_255, li_65535, li_m1, li_m2, li_m1000000001, li_m1000000002, li_m1000000003, li_m1000000004, li_m1000000005, li_m1000000006, li_m1000000007, or_true, true_or, or_false, false_or, implies_true, true_implies, false_implies] <;> omega)), g_2, g_3, g_4, g_5, g_6, by rw [ht]; exact hP9, va_K.moved hW.alike hK9, hD9⟩, hS.F ht⟩) hS.2.2 dX8_image_17

def w_x_undo : List Cond := .code yX8_undo cX8_undo 1 (some .int) :: (([.fieldLink RX8 50 "LampShapes" "isKept" "Z", .fieldLink RX8 10 "LampShapes" "now" "LLampShapes$Stage;", .fieldLink RX8 16 "LampShapes" "kept" "LLampShapes$Stage;", .methodLink RX8 250 yX6_takeAll, .instanceMethod yX6_takeAll, .selects RX6 yX6_takeAll yX6_takeAll, .initialized RX6, .code yX6_takeAll cX6_takeAll 2 none, .fieldLink RX6 9 "LampShapes$Stage" "shapes" "I", .fieldLink RX6 15 "LampShapes$Stage" "kinds" "[I", .methodLink RX6 41 arraycopyName, .native arraycopyName, .static arraycopyName, .initialized "java/lang/System", .fieldLink RX6 19 "LampShapes$Stage" "points" "[I", .fieldLink RX6 22 "LampShapes$Stage" "tornShapes" "I", .fieldLink RX6 25 "LampShapes$Stage" "heldShapes" "[I", .fieldLink RX6 28 "LampShapes$Stage" "heldPlacings" "[I", .fieldLink RX6 31 "LampShapes$Stage" "scenes" "I", .fieldLink RX6 34 "LampShapes$Stage" "pictures" "[J", .fieldLink RX6 38 "LampShapes$Stage" "allowed" "I", .constant RX8 149 (-1000000004), .methodLink RX8 63 yX8_finding, .instanceMethod yX8_finding, .selects RX8 yX8_finding yX8_finding, .initialized RX8, .code yX8_finding cX8_finding 3 (some .int), .constant RX8 62 (-1000000001), .fieldLink RX8 46 "LampShapes" "told" "[I"] : List Cond) ++ wsX80 ++ wsX60)
set_option maxRecDepth 20000 in
theorem g_x_undo_s_takeAll_250 : GoodIn w_x_undo (wsV RX8 250 RX6 yX6_takeAll w_s_takeAll) := goodIn_r _ [4, 5, 6, 7, 8, 9, 10, 11, 12, 13, 14, 15, 16, 17, 18, 19, 20, 21, 38, 39, 40, 41, 42, 43, 44, 45, 46] rfl (by decide +kernel)
set_option maxRecDepth 20000 in
theorem g_x_undo_f_none_63 : GoodIn w_x_undo (wsV RX8 63 RX8 yX8_finding w_f_none) := goodIn_r _ [23, 24, 25, 26, 27, 28, 29, 30, 31, 32, 33, 34, 35, 36, 37] rfl (by decide +kernel)
set_option maxHeartbeats 4000000 in
set_option maxRecDepth 100000 in
theorem x_undo (l : Launch) (dC : Nat → ClassId) (dI : Nat → Nat → Nat) (ad : Nat → Nat) (h0 : Nat) (ah : Nat) (bh : Nat) (v2 : Value) (v3 : Value) (v4 : Value) (v5 : Value) (t0 : Nat) (ik : Int32) (tc : ClassId) (tf : Nat → Int32) (sh : Int32) (q1 : Nat) (q2 : Nat) (tn : Int32) (q3 : Nat) (q4 : Nat) (sc : Int32) (q5 : Nat) (al : Int32) (c1 : ClassId) (f1 : Nat → Int32) (c2 : ClassId) (f2 : Nat → Int32) (c3 : ClassId) (f3 : Nat → Int32) (c4 : ClassId) (f4 : Nat → Int32) (c5 : ClassId) (f5 : Nat → Int64) (shk : Int32) (q1k : Nat) (q2k : Nat) (tnk : Int32) (q3k : Nat) (q4k : Nat) (sck : Int32) (q5k : Nat) (alk : Int32) (c1k : ClassId) (f1k : Nat → Int32) (c2k : ClassId) (f2k : Nat → Int32) (c3k : ClassId) (f3k : Nat → Int32) (c4k : ClassId) (f4k : Nat → Int32) (c5k : ClassId) (f5k : Nat → Int64) (sz : Nat) (hsh : 0 ≤ sh.toInt ∧ sh.toInt ≤ 9) (hsc : 0 ≤ sc.toInt ∧ sc.toInt ≤ 7) (hshk : 0 ≤ shk.toInt ∧ shk.toInt ≤ 9) (hsck : 0 ≤ sck.toInt ∧ sck.toInt ≤ 7) : Met l yX8_undo w_x_undo ({ frames := 2, cells := 0, slots := 0, locals := 61 } : Room) (va_Pc [.ref h0] (preM dC dI ad [(tc, .int), (c1, .int), (c2, .int), (c3, .int), (c4, .int), (c5, .long), (c1k, .int), (c2k, .int), (c3k, .int), (c4k, .int), (c5k, .long)] [(h0, .inr (6, [.ref ah, .ref bh, v2, v3, v4, v5, .ref t0, .int ik])), (t0, .inl (tc, 7, .inl tf)), (ah, .inr (4, [.int sh, .ref q1, .ref q2, .int tn, .ref q3, .ref q4, .int sc, .ref q5, .int al])), (q1, .inl (c1, 9, .inl f1)), (q2, .inl (c2, 9, .inl f2)), (q3, .inl (c3, 4, .inl f3)), (q4, .inl (c4, 4, .inl f4)), (q5, .inl (c5, 7, .inr (.inl f5))), (bh, .inr (4, [.int shk, .ref q1k, .ref q2k, .int tnk, .ref q3k, .ref q4k, .int sck, .ref q5k, .int alk])), (q1k, .inl (c1k, 9, .inl f1k)), (q2k, .inl (c2k, 9, .inl f2k)), (q3k, .inl (c3k, 4, .inl f3k)), (q4k, .inl (c4k, 4, .inl f4k)), (q5k, .inl (c5k, 7, .inr (.inl f5k)))] sz)) (va_Qi (fun (r : Int32) (_ : Unit) => True) (fun _ t => ∃ (tg : Nat → Int32), ∃ (shy : Int32), ∃ (tny : Int32), ∃ (scy : Int32), ∃ (aly : Int32), ∃ (g1 : Nat → Int32), ∃ (g2 : Nat → Int32), ∃ (g3 : Nat → Int32), ∃ (g4 : Nat → Int32), ∃ (g5 : Nat → Int64), (0 ≤ shy.toInt ∧ shy.toInt ≤ 9) ∧ (0 ≤ scy.toInt ∧ scy.toInt ≤ 7) ∧ ((ik.toInt = 0 → aly.toInt = al.toInt) ∧ (¬ ik.toInt = 0 → aly.toInt = alk.toInt)) ∧ va_P (dC, dI) vwCl [(h0, .inr (6, [.ref ah, .ref bh, v2, v3, v4, v5, .ref t0, .int ik])), (t0, .inl (tc, 7, .inl tg)), (ah, .inr (4, [.int shy, .ref q1, .ref q2, .int tny, .ref q3, .ref q4, .int scy, .ref q5, .int aly])), (q1, .inl (c1, 9, .inl g1)), (q2, .inl (c2, 9, .inl g2)), (q3, .inl (c3, 4, .inl g3)), (q4, .inl (c4, 4, .inl g4)), (q5, .inl (c5, 7, .inr (.inl g5))), (bh, .inr (4, [.int shk, .ref q1k, .ref q2k, .int tnk, .ref q3k, .ref q4k, .int sck, .ref q5k, .int alk])), (q1k, .inl (c1k, 9, .inl f1k)), (q2k, .inl (c2k, 9, .inl f2k)), (q3k, .inl (c3k, 4, .inl f3k)), (q4k, .inl (c4k, 4, .inl f4k)), (q5k, .inl (c5k, 7, .inr (.inl f5k)))] t.heap ∧ va_K (dC, dI) vwCl [(tc, .int), (c1, .int), (c2, .int), (c3, .int), (c4, .int), (c5, .long), (c1k, .int), (c2k, .int), (c3k, .int), (c4k, .int), (c5k, .long)] t ∧ va_D (va_A [(h0, .inr (6, [.ref ah, .ref bh, v2, v3, v4, v5, .ref t0, .int ik])), (t0, .inl (tc, 7, .inl tf)), (ah, .inr (4, [.int sh, .ref q1, .ref q2, .int tn, .ref q3, .ref q4, .int sc, .ref q5, .int al])), (q1, .inl (c1, 9, .inl f1)), (q2, .inl (c2, 9, .inl f2)), (q3, .inl (c3, 4, .inl f3)), (q4, .inl (c4, 4, .inl f4)), (q5, .inl (c5, 7, .inr (.inl f5))), (bh, .inr (4, [.int shk, .ref q1k, .ref q2k, .int tnk, .ref q3k, .ref q4k, .int sck, .ref q5k, .int alk])), (q1k, .inl (c1k, 9, .inl f1k)), (q2k, .inl (c2k, 9, .inl f2k)), (q3k, .inl (c3k, 4, .inl f3k)), (q4k, .inl (c4k, 4, .inl f4k)), (q5k, .inl (c5k, 7, .inr (.inl f5k)))] sz) [(h0, .inr (6, [.ref ah, .ref bh, v2, v3, v4, v5, .ref t0, .int ik])), (t0, .inl (tc, 7, .inl tg)), (ah, .inr (4, [.int shy, .ref q1, .ref q2, .int tny, .ref q3, .ref q4, .int scy, .ref q5, .int aly])), (q1, .inl (c1, 9, .inl g1)), (q2, .inl (c2, 9, .inl g2)), (q3, .inl (c3, 4, .inl g3)), (q4, .inl (c4, 4, .inl g4)), (q5, .inl (c5, 7, .inr (.inl g5))), (bh, .inr (4, [.int shk, .ref q1k, .ref q2k, .int tnk, .ref q3k, .ref q4k, .int sck, .ref q5k, .int alk])), (q1k, .inl (c1k, 9, .inl f1k)), (q2k, .inl (c2k, 9, .inl f2k)), (q3k, .inl (c3k, 4, .inl f3k)), (q4k, .inl (c4k, 4, .inl f4k)), (q5k, .inl (c5k, 7, .inr (.inl f5k)))]) (va_A [(h0, .inr (6, [.ref ah, .ref bh, v2, v3, v4, v5, .ref t0, .int ik])), (t0, .inl (tc, 7, .inl tf)), (ah, .inr (4, [.int sh, .ref q1, .ref q2, .int tn, .ref q3, .ref q4, .int sc, .ref q5, .int al])), (q1, .inl (c1, 9, .inl f1)), (q2, .inl (c2, 9, .inl f2)), (q3, .inl (c3, 4, .inl f3)), (q4, .inl (c4, 4, .inl f4)), (q5, .inl (c5, 7, .inr (.inl f5))), (bh, .inr (4, [.int shk, .ref q1k, .ref q2k, .int tnk, .ref q3k, .ref q4k, .int sck, .ref q5k, .int alk])), (q1k, .inl (c1k, 9, .inl f1k)), (q2k, .inl (c2k, 9, .inl f2k)), (q3k, .inl (c3k, 4, .inl f3k)), (q4k, .inl (c4k, 4, .inl f4k)), (q5k, .inl (c5k, 7, .inr (.inl f5k)))] sz)) 0 0 (va_A [(h0, .inr (6, [.ref ah, .ref bh, v2, v3, v4, v5, .ref t0, .int ik])), (t0, .inl (tc, 7, .inl tf)), (ah, .inr (4, [.int sh, .ref q1, .ref q2, .int tn, .ref q3, .ref q4, .int sc, .ref q5, .int al])), (q1, .inl (c1, 9, .inl f1)), (q2, .inl (c2, 9, .inl f2)), (q3, .inl (c3, 4, .inl f3)), (q4, .inl (c4, 4, .inl f4)), (q5, .inl (c5, 7, .inr (.inl f5))), (bh, .inr (4, [.int shk, .ref q1k, .ref q2k, .int tnk, .ref q3k, .ref q4k, .int sck, .ref q5k, .int alk])), (q1k, .inl (c1k, 9, .inl f1k)), (q2k, .inl (c2k, 9, .inl f2k)), (q3k, .inl (c3k, 4, .inl f3k)), (q4k, .inl (c4k, 4, .inl f4k)), (q5k, .inl (c5k, 7, .inr (.inl f5k)))] sz) := by
  refine Met.ofW (cc := cX8_undo) (maxL := 1) (ret := (some .int)) (by decide) rfl ?_
  intro p e s m args below meth c s₁ B hml hv
  obtain ⟨rfl, hsz, hP, hK, hD0, hev⟩ := hv
  have hx := B.exec
  have hb := B.bytes
  have hr := B.returns
  have hts := atoms_spec (ws := w_x_undo) B.pre
  have hown : s.vm.findClass RX8 = some m.cls := findClass_of_methodNamed B.named
  have hlocks := B.notSynchronized
  have inX8 : ∀ w ∈ wsX80, w ∈ w_x_undo := fun w h => List.mem_cons_of_mem _ (List.mem_append_left _ (List.mem_append_right _ h))
  have inX6 : ∀ w ∈ wsX60, w ∈ w_x_undo := fun w h => List.mem_cons_of_mem _ (List.mem_append_right _ h)
  subst hsz
  have hD := hD0.self (sz := s.heap.size)
  generalize hAe : va_A [(h0, .inr (6, [.ref ah, .ref bh, v2, v3, v4, v5, .ref t0, .int ik])), (t0, .inl (tc, 7, .inl tf)), (ah, .inr (4, [.int sh, .ref q1, .ref q2, .int tn, .ref q3, .ref q4, .int sc, .ref q5, .int al])), (q1, .inl (c1, 9, .inl f1)), (q2, .inl (c2, 9, .inl f2)), (q3, .inl (c3, 4, .inl f3)), (q4, .inl (c4, 4, .inl f4)), (q5, .inl (c5, 7, .inr (.inl f5))), (bh, .inr (4, [.int shk, .ref q1k, .ref q2k, .int tnk, .ref q3k, .ref q4k, .int sck, .ref q5k, .int alk])), (q1k, .inl (c1k, 9, .inl f1k)), (q2k, .inl (c2k, 9, .inl f2k)), (q3k, .inl (c3k, 4, .inl f3k)), (q4k, .inl (c4k, 4, .inl f4k)), (q5k, .inl (c5k, 7, .inr (.inl f5k)))] s.heap.size = A at hD ⊢
  have hA : ∀ q : Nat, s.heap.size ≤ q → A q := fun q h => by rw [← hAe]; exact Or.inr h
  have hS : va_S A s.heap s.heap [] := va_S.rf
  have hP : va_P (dC, dI) vwCl [(h0, .inr (6, [.ref ah, .ref bh, v2, v3, v4, v5, .ref t0, .int ik])), (t0, .inl (tc, 7, .inl tf)), (ah, .inr (4, [.int sh, .ref q1, .ref q2, .int tn, .ref q3, .ref q4, .int sc, .ref q5, .int al])), (q1, .inl (c1, 9, .inl f1)), (q2, .inl (c2, 9, .inl f2)), (q3, .inl (c3, 4, .inl f3)), (q4, .inl (c4, 4, .inl f4)), (q5, .inl (c5, 7, .inr (.inl f5))), (bh, .inr (4, [.int shk, .ref q1k, .ref q2k, .int tnk, .ref q3k, .ref q4k, .int sck, .ref q5k, .int alk])), (q1k, .inl (c1k, 9, .inl f1k)), (q2k, .inl (c2k, 9, .inl f2k)), (q3k, .inl (c3k, 4, .inl f3k)), (q4k, .inl (c4k, 4, .inl f4k)), (q5k, .inl (c5k, 7, .inr (.inl f5k)))] s.heap := hP
  have hl := lv_entry ([.ref h0]) (n := 1) (Nat.le_of_ble_eq_true rfl)
  rw [lg_entry_eq]
  generalize (lg_sl ([.ref h0]) ++ List.replicate (1 - (lg_sl ([.ref h0])).length) Slot.unset).toArray = ls at hl ⊢
  have hl : lv_has ls 1 [(0, .ref h0)] := hl
  refine lv_aload_n hx hb dX8_undo_0 rfl (lv_at hl 0 rfl) ?_
  refine va_get (D := (dC, dI)) (ci := 6) (v := .int ik) (C := RX8) (T := TX8) (N := 8) hx hb hts inX8 hown hK hP 0 rfl rfl 7 (by decide) (hts _ (List.mem_of_getElem? (i := 1) rfl)) (fun _ h9 => h9) rfl dX8_undo_1 ?_
  refine lv_if_ne (tgt := 14) hx hb dX8_undo_4 (by decide) (fun c_1 => ?_) (fun c_1 => ?_)
  · skip
    have tc_1 : ¬ ik.toInt = 0 := fun h => c_1 ((fa_eq _ _).mpr h)
    refine lv_aload_n hx hb dX8_undo_14 rfl (lv_at hl 0 rfl) ?_
    refine va_get (D := (dC, dI)) (ci := 6) (v := .ref ah) (C := RX8) (T := TX8) (N := 8) hx hb hts inX8 hown hK hP 0 rfl rfl 0 (by decide) (hts _ (List.mem_of_getElem? (i := 2) rfl)) (fun _ h9 => h9) rfl dX8_undo_15 ?_
    refine lv_aload_n hx hb dX8_undo_18 rfl (lv_at hl 0 rfl) ?_
    refine va_get (D := (dC, dI)) (ci := 6) (v := .ref bh) (C := RX8) (T := TX8) (N := 8) hx hb hts inX8 hown hK hP 0 rfl rfl 1 (by decide) (hts _ (List.mem_of_getElem? (i := 3) rfl)) (fun _ h9 => h9) rfl dX8_undo_19 ?_
    have hPc := hP.sub (ws' := [(ah, .inr (4, [.int sh, .ref q1, .ref q2, .int tn, .ref q3, .ref q4, .int sc, .ref q5, .int al])), (q1, .inl (c1, 9, .inl f1)), (q2, .inl (c2, 9, .inl f2)), (q3, .inl (c3, 4, .inl f3)), (q4, .inl (c4, 4, .inl f4)), (q5, .inl (c5, 7, .inr (.inl f5))), (bh, .inr (4, [.int shk, .ref q1k, .ref q2k, .int tnk, .ref q3k, .ref q4k, .int sck, .ref q5k, .int alk])), (q1k, .inl (c1k, 9, .inl f1k)), (q2k, .inl (c2k, 9, .inl f2k)), (q3k, .inl (c3k, 4, .inl f3k)), (q4k, .inl (c4k, 4, .inl f4k)), (q5k, .inl (c5k, 7, .inr (.inl f5k)))]) [2, 3, 4, 5, 6, 7, 8, 9, 10, 11, 12, 13] rfl
    have hKc := hK.sub (tys' := [(c1, .int), (c2, .int), (c3, .int), (c4, .int), (c5, .long), (c1k, .int), (c2k, .int), (c3k, .int), (c4k, .int), (c5k, .long)]) [1, 2, 3, 4, 5, 6, 7, 8, 9, 10] rfl
    have hDc := hD.sub (ws' := [(ah, .inr (4, [.int sh, .ref q1, .ref q2, .int tn, .ref q3, .ref q4, .int sc, .ref q5, .int al])), (q1, .inl (c1, 9, .inl f1)), (q2, .inl (c2, 9, .inl f2)), (q3, .inl (c3, 4, .inl f3)), (q4, .inl (c4, 4, .inl f4)), (q5, .inl (c5, 7, .inr (.inl f5))), (bh, .inr (4, [.int shk, .ref q1k, .ref q2k, .int tnk, .ref q3k, .ref q4k, .int sck, .ref q5k, .int alk])), (q1k, .inl (c1k, 9, .inl f1k)), (q2k, .inl (c2k, 9, .inl f2k)), (q3k, .inl (c3k, 4, .inl f3k)), (q4k, .inl (c4k, 4, .inl f4k)), (q5k, .inl (c5k, 7, .inr (.inl f5k)))]) [2, 3, 4, 5, 6, 7, 8, 9, 10, 11, 12, 13] (by decide) rfl
    have hFc := va_free (wc := [(ah, .inr (4, [.int sh, .ref q1, .ref q2, .int tn, .ref q3, .ref q4, .int sc, .ref q5, .int al])), (q1, .inl (c1, 9, .inl f1)), (q2, .inl (c2, 9, .inl f2)), (q3, .inl (c3, 4, .inl f3)), (q4, .inl (c4, 4, .inl f4)), (q5, .inl (c5, 7, .inr (.inl f5))), (bh, .inr (4, [.int shk, .ref q1k, .ref q2k, .int tnk, .ref q3k, .ref q4k, .int sck, .ref q5k, .int alk])), (q1k, .inl (c1k, 9, .inl f1k)), (q2k, .inl (c2k, 9, .inl f2k)), (q3k, .inl (c3k, 4, .inl f3k)), (q4k, .inl (c4k, 4, .inl f4k)), (q5k, .inl (c5k, 7, .inr (.inl f5k)))]) hD hS hA [2, 3, 4, 5, 6, 7, 8, 9, 10, 11, 12, 13] rfl
    refine va_callv (va_runV (As := [.ref bh]) (rest := []) ⟨hx, hb, hml, hown, hts⟩ (s_takeAll l dC dI ad ah bh sh q1 q2 tn q3 q4 sc q5 al c1 f1 c2 f2 c3 f3 c4 f4 c5 f5 shk q1k q2k tnk q3k q4k sck q5k alk c1k f1k c2k f2k c3k f3k c4k f4k c5k f5k s.heap.size ) (cwV 1 hts g_x_undo_s_takeAll_250 rfl rfl rfl (by decide +kernel) ⟨(Nat.le_of_ble_eq_true rfl), (Nat.le_of_ble_eq_true rfl)⟩) ⟨preM_blind, va_recv hKc hPc (ci := 4) (q0 := 0) rfl rfl, fun U hU hW => ⟨rfl, preM_at hU hW hPc hKc hDc hev⟩⟩ rfl rfl hl.1 rfl (lv_room (Nat.le_of_ble_eq_true rfl)) dX8_undo_22 ⟨(Nat.le_of_ble_eq_true rfl), (Nat.le_of_ble_eq_true rfl)⟩) hS (fun q _ h => hFc q h) hFc (fun u t H1 locs ht hvm hw hB hz1 hk1 hS => ?_)
    obtain ⟨g_3, g_4, g_5, g_6, g_7, hP1, hK1, hD1⟩ := hB
    rw [ht] at hP1
    have hK1 := va_K.moved hvm.symm hK1
    obtain ⟨hP, hD⟩ := va_join (wr := [(h0, .inr (6, [.ref ah, .ref bh, v2, v3, v4, v5, .ref t0, .int ik])), (t0, .inl (tc, 7, .inl tf))]) (w1 := [(ah, .inr (4, [.int shk, .ref q1, .ref q2, .int tnk, .ref q3, .ref q4, .int sck, .ref q5, .int alk])), (q1, .inl (c1, 9, .inl g_3)), (q2, .inl (c2, 9, .inl g_4)), (q3, .inl (c3, 4, .inl g_5)), (q4, .inl (c4, 4, .inl g_6)), (q5, .inl (c5, 7, .inr (.inl g_7))), (bh, .inr (4, [.int shk, .ref q1k, .ref q2k, .int tnk, .ref q3k, .ref q4k, .int sck, .ref q5k, .int alk])), (q1k, .inl (c1k, 9, .inl f1k)), (q2k, .inl (c2k, 9, .inl f2k)), (q3k, .inl (c3k, 4, .inl f3k)), (q4k, .inl (c4k, 4, .inl f4k)), (q5k, .inl (c5k, 7, .inr (.inl f5k)))]) hP hD [2, 3, 4, 5, 6, 7, 8, 9, 10, 11, 12, 13] [0, 1] rfl rfl (by decide) (by decide) hk1 hFc hP1 hD1
    generalize H1 = H at hP hS ⊢
    have hP : va_P (dC, dI) vwCl [(h0, .inr (6, [.ref ah, .ref bh, v2, v3, v4, v5, .ref t0, .int ik])), (t0, .inl (tc, 7, .inl tf)), (ah, .inr (4, [.int shk, .ref q1, .ref q2, .int tnk, .ref q3, .ref q4, .int sck, .ref q5, .int alk])), (q1, .inl (c1, 9, .inl g_3)), (q2, .inl (c2, 9, .inl g_4)), (q3, .inl (c3, 4, .inl g_5)), (q4, .inl (c4, 4, .inl g_6)), (q5, .inl (c5, 7, .inr (.inl g_7))), (bh, .inr (4, [.int shk, .ref q1k, .ref q2k, .int tnk, .ref q3k, .ref q4k, .int sck, .ref q5k, .int alk])), (q1k, .inl (c1k, 9, .inl f1k)), (q2k, .inl (c2k, 9, .inl f2k)), (q3k, .inl (c3k, 4, .inl f3k)), (q4k, .inl (c4k, 4, .inl f4k)), (q5k, .inl (c5k, 7, .inr (.inl f5k)))] H := hP
    have hD : va_D A [(h0, .inr (6, [.ref ah, .ref bh, v2, v3, v4, v5, .ref t0, .int ik])), (t0, .inl (tc, 7, .inl tf)), (ah, .inr (4, [.int shk, .ref q1, .ref q2, .int tnk, .ref q3, .ref q4, .int sck, .ref q5, .int alk])), (q1, .inl (c1, 9, .inl g_3)), (q2, .inl (c2, 9, .inl g_4)), (q3, .inl (c3, 4, .inl g_5)), (q4, .inl (c4, 4, .inl g_6)), (q5, .inl (c5, 7, .inr (.inl g_7))), (bh, .inr (4, [.int shk, .ref q1k, .ref q2k, .int tnk, .ref q3k, .ref q4k, .int sck, .ref q5k, .int alk])), (q1k, .inl (c1k, 9, .inl f1k)), (q2k, .inl (c2k, 9, .inl f2k)), (q3k, .inl (c3k, 4, .inl f3k)), (q4k, .inl (c4k, 4, .inl f4k)), (q5k, .inl (c5k, 7, .inr (.inl f5k)))] := hD
    refine lv_aload_n hx hb dX8_undo_25 rfl (lv_at hl 0 rfl) ?_
    refine va_get (D := (dC, dI)) (ci := 6) (v := .ref ah) (C := RX8) (T := TX8) (N := 8) hx hb hts inX8 hown hK hP 0 rfl rfl 0 (by decide) (hts _ (List.mem_of_getElem? (i := 2) rfl)) (fun _ h9 => h9) rfl dX8_undo_26 ?_
    refine va_getN (D := (dC, dI)) (ci := 4) (v := .int shk) (C := RX6) (T := TX6) (N := 9) hx hb hts inX6 hown hK hP 2 rfl rfl 0 (by decide) (ev_nest hev 1 rfl) (fun _ h9 => h9) rfl dX8_undo_29 ?_
    have hP9 := hP.sub (ws' := [(h0, .inr (6, [.ref ah, .ref bh, v2, v3, v4, v5, .ref t0, .int ik])), (t0, .inl (tc, 7, .inl tf)), (ah, .inr (4, [.int shk, .ref q1, .ref q2, .int tnk, .ref q3, .ref q4, .int sck, .ref q5, .int alk])), (q1, .inl (c1, 9, .inl g_3)), (q2, .inl (c2, 9, .inl g_4)), (q3, .inl (c3, 4, .inl g_5)), (q4, .inl (c4, 4, .inl g_6)), (q5, .inl (c5, 7, .inr (.inl g_7))), (bh, .inr (4, [.int shk, .ref q1k, .ref q2k, .int tnk, .ref q3k, .ref q4k, .int sck, .ref q5k, .int alk])), (q1k, .inl (c1k, 9, .inl f1k)), (q2k, .inl (c2k, 9, .inl f2k)), (q3k, .inl (c3k, 4, .inl f3k)), (q4k, .inl (c4k, 4, .inl f4k)), (q5k, .inl (c5k, 7, .inr (.inl f5k)))]) [0, 1, 2, 3, 4, 5, 6, 7, 8, 9, 10, 11, 12, 13] rfl
    have hD9 := hD.sub (ws' := [(h0, .inr (6, [.ref ah, .ref bh, v2, v3, v4, v5, .ref t0, .int ik])), (t0, .inl (tc, 7, .inl tf)), (ah, .inr (4, [.int shk, .ref q1, .ref q2, .int tnk, .ref q3, .ref q4, .int sck, .ref q5, .int alk])), (q1, .inl (c1, 9, .inl g_3)), (q2, .inl (c2, 9, .inl g_4)), (q3, .inl (c3, 4, .inl g_5)), (q4, .inl (c4, 4, .inl g_6)), (q5, .inl (c5, 7, .inr (.inl g_7))), (bh, .inr (4, [.int shk, .ref q1k, .ref q2k, .int tnk, .ref q3k, .ref q4k, .int sck, .ref q5k, .int alk])), (q1k, .inl (c1k, 9, .inl f1k)), (q2k, .inl (c2k, 9, .inl f2k)), (q3k, .inl (c3k, 4, .inl f3k)), (q4k, .inl (c4k, 4, .inl f4k)), (q5k, .inl (c5k, 7, .inr (.inl f5k)))]) [0, 1, 2, 3, 4, 5, 6, 7, 8, 9, 10, 11, 12, 13] (by decide) rfl
    have hK9 := hK.sub (tys' := [(tc, .int), (c1, .int), (c2, .int), (c3, .int), (c4, .int), (c5, .long), (c1k, .int), (c2k, .int), (c3k, .int), (c4k, .int), (c5k, .long)]) [0, 1, 2, 3, 4, 5, 6, 7, 8, 9, 10] rfl
    exact W.iret (v := shk) hx hb hr (fun t ht hW => ⟨⟨shk, (), rfl, trivial, tf, shk, tnk, sck, alk, g_3, g_4, g_5, g_6, g_7, hshk, hsck, (by first | omega | decide | (simp only [fa_lt, fa_le, fa_eq, and_true, true_and, and_false, false_and, not_true_eq_false, not_false_eq_true, li_0, li_1, li_2, li_3, li_4, li_5, li_6, li_7, li_8, li_9, li_10, li_12, li_15, li_16, li_20, li_30, li_34, li_38, li_40, li_63, li_64, li_65, li_78, li_120, li_1000, li_4000, li_10000, li_11077, li_255, li_65535, li_m1, li_m2, li_m1000000001, li_m1000000002, li_m1000000003, li_m1000000004, li_m1000000005, li_m1000000006, li_m1000000007, or_true, true_or, or_false, false_or, implies_true, true_implies, false_implies] <;> omega)), by rw [ht]; exact hP9, va_K.moved hW.alike hK9, hD9⟩, hS.F ht⟩) hS.2.2 dX8_undo_32
  · skip
    have tc_1 : ik.toInt = 0 := (fa_eq _ _).mp c_1
    refine lv_aload_n hx hb dX8_undo_7 rfl (lv_at hl 0 rfl) ?_
    refine lv_ldc hx hb hown (hts _ (List.mem_of_getElem? (i := 22) rfl)) dX8_undo_8 ?_
    have hPc := hP.sub (ws' := [(h0, .inr (6, [.ref ah, .ref bh, v2, v3, v4, v5, .ref t0, .int ik])), (t0, .inl (tc, 7, .inl tf))]) [0, 1] rfl
    have hKc := hK.sub (tys' := [(tc, .int)]) [0] rfl
    have hDc := hD.sub (ws' := [(h0, .inr (6, [.ref ah, .ref bh, v2, v3, v4, v5, .ref t0, .int ik])), (t0, .inl (tc, 7, .inl tf))]) [0, 1] (by decide) rfl
    have hFc := va_free (wc := [(h0, .inr (6, [.ref ah, .ref bh, v2, v3, v4, v5, .ref t0, .int ik])), (t0, .inl (tc, 7, .inl tf))]) hD hS hA [0, 1] rfl
    refine va_calli (va_runV (As := [.int (-1000000004)]) (rest := []) ⟨hx, hb, hml, hown, hts⟩ (f_none l dC dI ad h0 (.ref ah) (.ref bh) v2 v3 v4 v5 t0 (.int ik) tc tf s.heap.size ) (cwV 1 hts g_x_undo_f_none_63 rfl rfl rfl (by decide +kernel) ⟨(Nat.le_of_ble_eq_true rfl), (Nat.le_of_ble_eq_true rfl)⟩) ⟨preM_blind, va_recv hKc hPc (ci := 6) (q0 := 0) rfl rfl, fun U hU hW => ⟨rfl, preM_at hU hW hPc hKc hDc hev⟩⟩ rfl rfl hl.1 rfl (lv_room (Nat.le_of_ble_eq_true rfl)) dX8_undo_10 ⟨(Nat.le_of_ble_eq_true rfl), (Nat.le_of_ble_eq_true rfl)⟩) hS (fun q _ h => hFc q h) hFc (fun r_8 u t H1 locs ht hvm hw hB hz1 hk1 hS => ?_)
    obtain ⟨tg_9, hP1, hK1, hD1⟩ := hB
    rw [ht] at hP1
    have hK1 := va_K.moved hvm.symm hK1
    obtain ⟨hP, hD⟩ := va_join (wr := [(ah, .inr (4, [.int sh, .ref q1, .ref q2, .int tn, .ref q3, .ref q4, .int sc, .ref q5, .int al])), (q1, .inl (c1, 9, .inl f1)), (q2, .inl (c2, 9, .inl f2)), (q3, .inl (c3, 4, .inl f3)), (q4, .inl (c4, 4, .inl f4)), (q5, .inl (c5, 7, .inr (.inl f5))), (bh, .inr (4, [.int shk, .ref q1k, .ref q2k, .int tnk, .ref q3k, .ref q4k, .int sck, .ref q5k, .int alk])), (q1k, .inl (c1k, 9, .inl f1k)), (q2k, .inl (c2k, 9, .inl f2k)), (q3k, .inl (c3k, 4, .inl f3k)), (q4k, .inl (c4k, 4, .inl f4k)), (q5k, .inl (c5k, 7, .inr (.inl f5k)))]) (w1 := [(h0, .inr (6, [.ref ah, .ref bh, v2, v3, v4, v5, .ref t0, .int ik])), (t0, .inl (tc, 7, .inl tg_9))]) hP hD [0, 1] [2, 3, 4, 5, 6, 7, 8, 9, 10, 11, 12, 13] rfl rfl (by decide) (by decide) hk1 hFc hP1 hD1
    generalize H1 = H at hP hS ⊢
    have hP : va_P (dC, dI) vwCl [(ah, .inr (4, [.int sh, .ref q1, .ref q2, .int tn, .ref q3, .ref q4, .int sc, .ref q5, .int al])), (q1, .inl (c1, 9, .inl f1)), (q2, .inl (c2, 9, .inl f2)), (q3, .inl (c3, 4, .inl f3)), (q4, .inl (c4, 4, .inl f4)), (q5, .inl (c5, 7, .inr (.inl f5))), (bh, .inr (4, [.int shk, .ref q1k, .ref q2k, .int tnk, .ref q3k, .ref q4k, .int sck, .ref q5k, .int alk])), (q1k, .inl (c1k, 9, .inl f1k)), (q2k, .inl (c2k, 9, .inl f2k)), (q3k, .inl (c3k, 4, .inl f3k)), (q4k, .inl (c4k, 4, .inl f4k)), (q5k, .inl (c5k, 7, .inr (.inl f5k))), (h0, .inr (6, [.ref ah, .ref bh, v2, v3, v4, v5, .ref t0, .int ik])), (t0, .inl (tc, 7, .inl tg_9))] H := hP
    have hD : va_D A [(ah, .inr (4, [.int sh, .ref q1, .ref q2, .int tn, .ref q3, .ref q4, .int sc, .ref q5, .int al])), (q1, .inl (c1, 9, .inl f1)), (q2, .inl (c2, 9, .inl f2)), (q3, .inl (c3, 4, .inl f3)), (q4, .inl (c4, 4, .inl f4)), (q5, .inl (c5, 7, .inr (.inl f5))), (bh, .inr (4, [.int shk, .ref q1k, .ref q2k, .int tnk, .ref q3k, .ref q4k, .int sck, .ref q5k, .int alk])), (q1k, .inl (c1k, 9, .inl f1k)), (q2k, .inl (c2k, 9, .inl f2k)), (q3k, .inl (c3k, 4, .inl f3k)), (q4k, .inl (c4k, 4, .inl f4k)), (q5k, .inl (c5k, 7, .inr (.inl f5k))), (h0, .inr (6, [.ref ah, .ref bh, v2, v3, v4, v5, .ref t0, .int ik])), (t0, .inl (tc, 7, .inl tg_9))] := hD
    subst hw
    have hP9 := hP.sub (ws' := [(h0, .inr (6, [.ref ah, .ref bh, v2, v3, v4, v5, .ref t0, .int ik])), (t0, .inl (tc, 7, .inl tg_9)), (ah, .inr (4, [.int sh, .ref q1, .ref q2, .int tn, .ref q3, .ref q4, .int sc, .ref q5, .int al])), (q1, .inl (c1, 9, .inl f1)), (q2, .inl (c2, 9, .inl f2)), (q3, .inl (c3, 4, .inl f3)), (q4, .inl (c4, 4, .inl f4)), (q5, .inl (c5, 7, .inr (.inl f5))), (bh, .inr (4, [.int shk, .ref q1k, .ref q2k, .int tnk, .ref q3k, .ref q4k, .int sck, .ref q5k, .int alk])), (q1k, .inl (c1k, 9, .inl f1k)), (q2k, .inl (c2k, 9, .inl f2k)), (q3k, .inl (c3k, 4, .inl f3k)), (q4k, .inl (c4k, 4, .inl f4k)), (q5k, .inl (c5k, 7, .inr (.inl f5k)))]) [12, 13, 0, 1, 2, 3, 4, 5, 6, 7, 8, 9, 10, 11] rfl
    have hD9 := hD.sub (ws' := [(h0, .inr (6, [.ref ah, .ref bh, v2, v3, v4, v5, .ref t0, .int ik])), (t0, .inl (tc, 7, .inl tg_9)), (ah, .inr (4, [.int sh, .ref q1, .ref q2, .int tn, .ref q3, .ref q4, .int sc, .ref q5, .int al])), (q1, .inl (c1, 9, .inl f1)), (q2, .inl (c2, 9, .inl f2)), (q3, .inl (c3, 4, .inl f3)), (q4, .inl (c4, 4, .inl f4)), (q5, .inl (c5, 7, .inr (.inl f5))), (bh, .inr (4, [.int shk, .ref q1k, .ref q2k, .int tnk, .ref q3k, .ref q4k, .int sck, .ref q5k, .int alk])), (q1k, .inl (c1k, 9, .inl f1k)), (q2k, .inl (c2k, 9, .inl f2k)), (q3k, .inl (c3k, 4, .inl f3k)), (q4k, .inl (c4k, 4, .inl f4k)), (q5k, .inl (c5k, 7, .inr (.inl f5k)))]) [12, 13, 0, 1, 2, 3, 4, 5, 6, 7, 8, 9, 10, 11] (by decide) rfl
    have hK9 := hK.sub (tys' := [(tc, .int), (c1, .int), (c2, .int), (c3, .int), (c4, .int), (c5, .long), (c1k, .int), (c2k, .int), (c3k, .int), (c4k, .int), (c5k, .long)]) [0, 1, 2, 3, 4, 5, 6, 7, 8, 9, 10] rfl
    exact W.iret (v := ((-1000000004) : Int32)) hx hb hr (fun t ht hW => ⟨⟨((-1000000004) : Int32), (), rfl, trivial, tg_9, sh, tn, sc, al, f1, f2, f3, f4, f5, hsh, hsc, (by first | omega | decide | (simp only [fa_lt, fa_le, fa_eq, and_true, true_and, and_false, false_and, not_true_eq_false, not_false_eq_true, li_0, li_1, li_2, li_3, li_4, li_5, li_6, li_7, li_8, li_9, li_10, li_12, li_15, li_16, li_20, li_30, li_34, li_38, li_40, li_63, li_64, li_65, li_78, li_120, li_1000, li_4000, li_10000, li_11077, li_255, li_65535, li_m1, li_m2, li_m1000000001, li_m1000000002, li_m1000000003, li_m1000000004, li_m1000000005, li_m1000000006, li_m1000000007, or_true, true_or, or_false, false_or, implies_true, true_implies, false_implies] <;> omega)), by rw [ht]; exact hP9, va_K.moved hW.alike hK9, hD9⟩, hS.F ht⟩) hS.2.2 dX8_undo_13

def w_x_forget : List Cond := .code yX8_forget cX8_forget 2 (some .int) :: (([.fieldLink RX8 50 "LampShapes" "isKept" "Z"] : List Cond) ++ wsX80)
set_option maxHeartbeats 4000000 in
set_option maxRecDepth 100000 in
theorem x_forget (l : Launch) (dC : Nat → ClassId) (dI : Nat → Nat → Nat) (ad : Nat → Nat) (h0 : Nat) (v0 : Value) (v1 : Value) (v2 : Value) (v3 : Value) (v4 : Value) (v5 : Value) (v6 : Value) (ik : Int32) (sz : Nat) : Met l yX8_forget w_x_forget ({ frames := 0, cells := 0, slots := 0, locals := 0 } : Room) (va_Pc [.ref h0] (preM dC dI ad [] [(h0, .inr (6, [v0, v1, v2, v3, v4, v5, v6, .int ik]))] sz)) (va_Qi (fun (r : Int32) (_ : Unit) => (ik.toInt = 0 → r.toInt = 0) ∧ (¬ ik.toInt = 0 → r.toInt = 1)) (fun _ t => va_P (dC, dI) vwCl [(h0, .inr (6, [v0, v1, v2, v3, v4, v5, v6, .int 0]))] t.heap ∧ va_K (dC, dI) vwCl [] t ∧ va_D (va_A [(h0, .inr (6, [v0, v1, v2, v3, v4, v5, v6, .int ik]))] sz) [(h0, .inr (6, [v0, v1, v2, v3, v4, v5, v6, .int 0]))]) (va_A [(h0, .inr (6, [v0, v1, v2, v3, v4, v5, v6, .int ik]))] sz)) 0 0 (va_A [(h0, .inr (6, [v0, v1, v2, v3, v4, v5, v6, .int ik]))] sz) := by
  refine Met.ofW (cc := cX8_forget) (maxL := 2) (ret := (some .int)) (by decide) rfl ?_
  intro p e s m args below meth c s₁ B hml hv
  obtain ⟨rfl, hsz, hP, hK, hD0, hev⟩ := hv
  have hx := B.exec
  have hb := B.bytes
  have hr := B.returns
  have hts := atoms_spec (ws := w_x_forget) B.pre
  have hown : s.vm.findClass RX8 = some m.cls := findClass_of_methodNamed B.named
  have hlocks := B.notSynchronized
  have inX8 : ∀ w ∈ wsX80, w ∈ w_x_forget := fun w h => List.mem_cons_of_mem _ (List.mem_append_right _ h)
  subst hsz
  have hD := hD0.self (sz := s.heap.size)
  generalize hAe : va_A [(h0, .inr (6, [v0, v1, v2, v3, v4, v5, v6, .int ik]))] s.heap.size = A at hD ⊢
  have hA : ∀ q : Nat, s.heap.size ≤ q → A q := fun q h => by rw [← hAe]; exact Or.inr h
  have hS : va_S A s.heap s.heap [] := va_S.rf
  have hP : va_P (dC, dI) vwCl [(h0, .inr (6, [v0, v1, v2, v3, v4, v5, v6, .int ik]))] s.heap := hP
  have hl := lv_entry ([.ref h0]) (n := 2) (Nat.le_of_ble_eq_true rfl)
  rw [lg_entry_eq]
  generalize (lg_sl ([.ref h0]) ++ List.replicate (2 - (lg_sl ([.ref h0])).length) Slot.unset).toArray = ls at hl ⊢
  have hl : lv_has ls 2 [(0, .ref h0)] := hl
  refine lv_aload_n hx hb dX8_forget_0 rfl (lv_at hl 0 rfl) ?_
  refine va_get (D := (dC, dI)) (ci := 6) (v := .int ik) (C := RX8) (T := TX8) (N := 8) hx hb hts inX8 hown hK hP 0 rfl rfl 7 (by decide) (hts _ (List.mem_of_getElem? (i := 1) rfl)) (fun _ h9 => h9) rfl dX8_forget_1 ?_
  refine lv_if_eq (tgt := 11) hx hb dX8_forget_4 (by decide) (fun c_1 => ?_) (fun c_1 => ?_)
  · skip
    have tc_1 : ik.toInt = 0 := (fa_eq _ _).mp c_1
    refine lv_iconst (v := 0) hx hb dX8_forget_11 (by decide) ?_
    refine lv_istore_n (lv' := [(1, .int 0), (0, .ref h0)]) hx hb dX8_forget_12 rfl hl (by decide) rfl (fun ls hl => ?_)
    refine lv_aload_n hx hb dX8_forget_13 rfl (lv_at hl 1 rfl) ?_
    refine lv_iconst (v := 0) hx hb dX8_forget_14 (by decide) ?_
    refine va_put (D := (dC, dI)) (ci := 6) (v := .int 0) (ty := .boolean) (C := RX8) (T := TX8) (N := 8) hx hb hts inX8 tyX8 tyX8_ok nmX8 hown hK hP hD hS 0 rfl rfl 7 (by decide) (hts _ (List.mem_of_getElem? (i := 1) rfl)) (fun _ h9 => h9) rfl (by decide +kernel) (by decide) rfl (Nat.le_of_ble_eq_true rfl) dX8_forget_15 (fun H locs hP hD hS => ?_)
    have hP : va_P (dC, dI) vwCl [(h0, .inr (6, [v0, v1, v2, v3, v4, v5, v6, .int 0]))] H := hP
    have hD : va_D A [(h0, .inr (6, [v0, v1, v2, v3, v4, v5, v6, .int 0]))] := hD
    refine lv_iload_n hx hb dX8_forget_18 rfl (lv_at hl 0 rfl) ?_
    have hP9 := hP.sub (ws' := [(h0, .inr (6, [v0, v1, v2, v3, v4, v5, v6, .int 0]))]) [0] rfl
    have hD9 := hD.sub (ws' := [(h0, .inr (6, [v0, v1, v2, v3, v4, v5, v6, .int 0]))]) [0] (by decide) rfl
    have hK9 := hK.sub (tys' := []) [] rfl
    exact W.iret (v := (0 : Int32)) hx hb hr (fun t ht hW => ⟨⟨(0 : Int32), (), rfl, (by first | omega | decide | (simp only [fa_lt, fa_le, fa_eq, and_true, true_and, and_false, false_and, not_true_eq_false, not_false_eq_true, li_0, li_1, li_2, li_3, li_4, li_5, li_6, li_7, li_8, li_9, li_10, li_12, li_15, li_16, li_20, li_30, li_34, li_38, li_40, li_63, li_64, li_65, li_78, li_120, li_1000, li_4000, li_10000, li_11077, li_255, li_65535, li_m1, li_m2, li_m1000000001, li_m1000000002, li_m1000000003, li_m1000000004, li_m1000000005, li_m1000000006, li_m1000000007, or_true, true_or, or_false, false_or, implies_true, true_implies, false_implies] <;> omega)), by rw [ht]; exact hP9, va_K.moved hW.alike hK9, hD9⟩, hS.F ht⟩) hS.2.2 dX8_forget_19
  · skip
    have tc_1 : ¬ ik.toInt = 0 := fun h => c_1 ((fa_eq _ _).mpr h)
    refine lv_iconst (v := 1) hx hb dX8_forget_7 (by decide) ?_
    refine lv_goto (tgt := 12) hx hb dX8_forget_8 (by decide) ?_
    refine lv_istore_n (lv' := [(1, .int 1), (0, .ref h0)]) hx hb dX8_forget_12 rfl hl (by decide) rfl (fun ls hl => ?_)
    refine lv_aload_n hx hb dX8_forget_13 rfl (lv_at hl 1 rfl) ?_
    refine lv_iconst (v := 0) hx hb dX8_forget_14 (by decide) ?_
    refine va_put (D := (dC, dI)) (ci := 6) (v := .int 0) (ty := .boolean) (C := RX8) (T := TX8) (N := 8) hx hb hts inX8 tyX8 tyX8_ok nmX8 hown hK hP hD hS 0 rfl rfl 7 (by decide) (hts _ (List.mem_of_getElem? (i := 1) rfl)) (fun _ h9 => h9) rfl (by decide +kernel) (by decide) rfl (Nat.le_of_ble_eq_true rfl) dX8_forget_15 (fun H locs hP hD hS => ?_)
    have hP : va_P (dC, dI) vwCl [(h0, .inr (6, [v0, v1, v2, v3, v4, v5, v6, .int 0]))] H := hP
    have hD : va_D A [(h0, .inr (6, [v0, v1, v2, v3, v4, v5, v6, .int 0]))] := hD
    refine lv_iload_n hx hb dX8_forget_18 rfl (lv_at hl 0 rfl) ?_
    have hP9 := hP.sub (ws' := [(h0, .inr (6, [v0, v1, v2, v3, v4, v5, v6, .int 0]))]) [0] rfl
    have hD9 := hD.sub (ws' := [(h0, .inr (6, [v0, v1, v2, v3, v4, v5, v6, .int 0]))]) [0] (by decide) rfl
    have hK9 := hK.sub (tys' := []) [] rfl
    exact W.iret (v := (1 : Int32)) hx hb hr (fun t ht hW => ⟨⟨(1 : Int32), (), rfl, (by first | omega | decide | (simp only [fa_lt, fa_le, fa_eq, and_true, true_and, and_false, false_and, not_true_eq_false, not_false_eq_true, li_0, li_1, li_2, li_3, li_4, li_5, li_6, li_7, li_8, li_9, li_10, li_12, li_15, li_16, li_20, li_30, li_34, li_38, li_40, li_63, li_64, li_65, li_78, li_120, li_1000, li_4000, li_10000, li_11077, li_255, li_65535, li_m1, li_m2, li_m1000000001, li_m1000000002, li_m1000000003, li_m1000000004, li_m1000000005, li_m1000000006, li_m1000000007, or_true, true_or, or_false, false_or, implies_true, true_implies, false_implies] <;> omega)), by rw [ht]; exact hP9, va_K.moved hW.alike hK9, hD9⟩, hS.F ht⟩) hS.2.2 dX8_forget_19

def w_x_count : List Cond := .code yX8_count cX8_count 2 (some .int) :: (([.fieldLink RX8 10 "LampShapes" "now" "LLampShapes$Stage;", .methodLink RX8 229 yJ6_bitCount_0f7a4, .static yJ6_bitCount_0f7a4, .initialized RJ6, .code yJ6_bitCount_0f7a4 cJ6_bitCount_0f7a4 1 (some .int), .constant RJ6 265 (1431655765), .constant RJ6 266 (858993459), .constant RJ6 267 (252645135), .methodLink RX8 300 yX6_holdsInUse, .instanceMethod yX6_holdsInUse, .selects RX6 yX6_holdsInUse yX6_holdsInUse, .initialized RX6, .code yX6_holdsInUse cX6_holdsInUse 3 (some .int), .fieldLink RX6 25 "LampShapes$Stage" "heldShapes" "[I", .methodLink RX8 134 yX6_darkCells, .instanceMethod yX6_darkCells, .selects RX6 yX6_darkCells yX6_darkCells, .code yX6_darkCells cX6_darkCells 4 (some .long), .methodLink RX6 88 yX6_cellsOfHold, .instanceMethod yX6_cellsOfHold, .selects RX6 yX6_cellsOfHold yX6_cellsOfHold, .code yX6_cellsOfHold cX6_cellsOfHold 3 (some .long), .methodLink RX6 78 yX6_hasShape, .instanceMethod yX6_hasShape, .selects RX6 yX6_hasShape yX6_hasShape, .code yX6_hasShape cX6_hasShape 2 (some .boolean), .fieldLink RX6 9 "LampShapes$Stage" "shapes" "I", .methodLink RX6 82 yX6_isTorn, .instanceMethod yX6_isTorn, .selects RX6 yX6_isTorn yX6_isTorn, .code yX6_isTorn cX6_isTorn 2 (some .boolean), .fieldLink RX6 22 "LampShapes$Stage" "tornShapes" "I", .fieldLink RX6 28 "LampShapes$Stage" "heldPlacings" "[I", .methodLink RX6 85 yX6_cellsBy, .instanceMethod yX6_cellsBy, .selects RX6 yX6_cellsBy yX6_cellsBy, .code yX6_cellsBy cX6_cellsBy 4 (some .long), .methodLink RX6 59 yX6_cornerBy, .instanceMethod yX6_cornerBy, .selects RX6 yX6_cornerBy yX6_cornerBy, .code yX6_cornerBy cX6_cornerBy 4 (some .long), .fieldLink RX6 15 "LampShapes$Stage" "kinds" "[I", .fieldLink RX6 19 "LampShapes$Stage" "points" "[I", .methodLink RX6 47 yX0_pointsBy, .static yX0_pointsBy, .initialized RX0, .code yX0_pointsBy cX0_pointsBy 3 (some .int), .methodLink RX0 15 yX0_turnedBy, .static yX0_turnedBy, .code yX0_turnedBy cX0_turnedBy 6 (some .int), .methodLink RX0 19 yX0_mirroredBy, .static yX0_mirroredBy, .code yX0_mirroredBy cX0_mirroredBy 2 (some .int), .constant RX0 31 (34952), .methodLink RX0 22 yX0_hollowed, .static yX0_hollowed, .code yX0_hollowed cX0_hollowed 5 (some .int), .constant RX0 32 (61166), .methodLink RX0 25 yX0_doubled, .static yX0_doubled, .code yX0_doubled cX0_doubled 1 (some .int), .constant RX0 33 (65535), .methodLink RX0 28 yX0_filled, .static yX0_filled, .code yX0_filled cX0_filled 6 (some .int), .methodLink RX6 53 yX1_cellsAtCorner, .static yX1_cellsAtCorner, .initialized RX1, .code yX1_cellsAtCorner cX1_cellsAtCorner 8 (some .long), .constantLong RX1 9 (771), .methodLink RX6 62 yX1_moved, .static yX1_moved, .code yX1_moved cX1_moved 6 (some .long), .constantLong RX1 13 (72340172838076673), .methodLink RX8 303 yJ13_bitCount_95d88, .static yJ13_bitCount_95d88, .initialized RJ13, .code yJ13_bitCount_95d88 cJ13_bitCount_95d88 2 (some .int), .constantLong RJ13 314 (6148914691236517205), .constantLong RJ13 316 (3689348814741910323), .constantLong RJ13 318 (1085102592571150095), .fieldLink RX8 36 "LampShapes" "script" "LLampShapes$Script;", .constant RX8 62 (-1000000001), .methodLink RX8 63 yX8_finding, .instanceMethod yX8_finding, .selects RX8 yX8_finding yX8_finding, .initialized RX8, .code yX8_finding cX8_finding 3 (some .int), .fieldLink RX8 46 "LampShapes" "told" "[I"] : List Cond) ++ wsX80 ++ wsX60 ++ wsX40 ++ wsX70)
set_option maxRecDepth 20000 in
theorem g_x_count_j_Ibit_229 : GoodIn w_x_count (va_wsS RX8 229 yJ6_bitCount_0f7a4 w_j_Ibit) := goodIn_r _ [2, 3, 4, 5, 6, 7, 8] rfl (by decide +kernel)
set_option maxRecDepth 20000 in
theorem g_x_count_s_holdsInUse_300 : GoodIn w_x_count (wsV RX8 300 RX6 yX6_holdsInUse w_s_holdsInUse) := goodIn_r _ [9, 10, 11, 12, 13, 14, 98, 99, 100, 101, 102, 103, 104, 105, 106] rfl (by decide +kernel)
set_option maxRecDepth 20000 in
theorem g_x_count_s_darkCells_134 : GoodIn w_x_count (wsV RX8 134 RX6 yX6_darkCells w_s_darkCells) := goodIn_r _ [15, 16, 17, 12, 18, 19, 20, 21, 12, 22, 14, 23, 24, 25, 26, 27, 28, 29, 30, 31, 32, 33, 34, 35, 36, 37, 38, 39, 40, 41, 42, 43, 44, 45, 46, 47, 48, 49, 50, 51, 52, 53, 54, 55, 56, 57, 58, 59, 60, 61, 62, 63, 64, 65, 66, 67, 68, 69, 70, 71, 72, 73, 74, 98, 99, 100, 101, 102, 103, 104, 105, 106] rfl (by decide +kernel)
set_option maxRecDepth 20000 in
theorem g_x_count_j_Lbit_303 : GoodIn w_x_count (va_wsS RX8 303 yJ13_bitCount_95d88 w_j_Lbit) := goodIn_r _ [75, 76, 77, 78, 79, 80, 81] rfl (by decide +kernel)
set_option maxRecDepth 20000 in
theorem g_x_count_f_beyond_63 : GoodIn w_x_count (wsV RX8 63 RX8 yX8_finding w_f_beyond) := goodIn_r _ [84, 85, 86, 87, 88, 83, 89, 90, 91, 92, 93, 94, 95, 96, 97] rfl (by decide +kernel)
set_option maxHeartbeats 4000000 in
set_option maxRecDepth 100000 in
theorem x_count (l : Launch) (dC : Nat → ClassId) (dI : Nat → Nat → Nat) (ad : Nat → Nat) (h0 : Nat) (a : Int32) (ah : Nat) (v1 : Value) (v2 : Value) (v3 : Value) (ch : Nat) (v5 : Value) (t0 : Nat) (v7 : Value) (tc : ClassId) (tf : Nat → Int32) (sh : Int32) (q1 : Nat) (q2 : Nat) (tn : Int32) (q3 : Nat) (q4 : Nat) (sc : Int32) (w7 : Value) (al : Int32) (c1 : ClassId) (f1 : Nat → Int32) (c2 : ClassId) (f2 : Nat → Int32) (c3 : ClassId) (f3 : Nat → Int32) (c4 : ClassId) (f4 : Nat → Int32) (eh : Nat) (y1 : Value) (y2 : Value) (y3 : Value) (y4 : Value) (y5 : Value) (ts : Int32) (z1 : Value) (sz : Nat) (hsh : 0 ≤ sh.toInt ∧ sh.toInt ≤ 9) : Met l yX8_count w_x_count ({ frames := 6, cells := 0, slots := 0, locals := 138 } : Room) (va_Pc [.ref h0, .int a] (preM dC dI ad [(tc, .int), (c1, .int), (c2, .int), (c3, .int), (c4, .int)] [(h0, .inr (6, [.ref ah, v1, v2, v3, .ref ch, v5, .ref t0, v7])), (t0, .inl (tc, 7, .inl tf)), (ah, .inr (4, [.int sh, .ref q1, .ref q2, .int tn, .ref q3, .ref q4, .int sc, w7, .int al])), (q1, .inl (c1, 9, .inl f1)), (q2, .inl (c2, 9, .inl f2)), (q3, .inl (c3, 4, .inl f3)), (q4, .inl (c4, 4, .inl f4)), (ch, .inr (2, [.ref eh, y1, y2, y3, y4, y5])), (eh, .inr (5, [.int ts, z1]))] sz)) (va_Qi (fun (r : Int32) (_ : Unit) => True) (fun _ t => ∃ (tg : Nat → Int32), va_P (dC, dI) vwCl [(h0, .inr (6, [.ref ah, v1, v2, v3, .ref ch, v5, .ref t0, v7])), (t0, .inl (tc, 7, .inl tg)), (ah, .inr (4, [.int sh, .ref q1, .ref q2, .int tn, .ref q3, .ref q4, .int sc, w7, .int al])), (q1, .inl (c1, 9, .inl f1)), (q2, .inl (c2, 9, .inl f2)), (q3, .inl (c3, 4, .inl f3)), (q4, .inl (c4, 4, .inl f4)), (ch, .inr (2, [.ref eh, y1, y2, y3, y4, y5])), (eh, .inr (5, [.int ts, z1]))] t.heap ∧ va_K (dC, dI) vwCl [(tc, .int), (c1, .int), (c2, .int), (c3, .int), (c4, .int)] t ∧ va_D (va_A [(h0, .inr (6, [.ref ah, v1, v2, v3, .ref ch, v5, .ref t0, v7])), (t0, .inl (tc, 7, .inl tf)), (ah, .inr (4, [.int sh, .ref q1, .ref q2, .int tn, .ref q3, .ref q4, .int sc, w7, .int al])), (q1, .inl (c1, 9, .inl f1)), (q2, .inl (c2, 9, .inl f2)), (q3, .inl (c3, 4, .inl f3)), (q4, .inl (c4, 4, .inl f4)), (ch, .inr (2, [.ref eh, y1, y2, y3, y4, y5])), (eh, .inr (5, [.int ts, z1]))] sz) [(h0, .inr (6, [.ref ah, v1, v2, v3, .ref ch, v5, .ref t0, v7])), (t0, .inl (tc, 7, .inl tg)), (ah, .inr (4, [.int sh, .ref q1, .ref q2, .int tn, .ref q3, .ref q4, .int sc, w7, .int al])), (q1, .inl (c1, 9, .inl f1)), (q2, .inl (c2, 9, .inl f2)), (q3, .inl (c3, 4, .inl f3)), (q4, .inl (c4, 4, .inl f4)), (ch, .inr (2, [.ref eh, y1, y2, y3, y4, y5])), (eh, .inr (5, [.int ts, z1]))]) (va_A [(h0, .inr (6, [.ref ah, v1, v2, v3, .ref ch, v5, .ref t0, v7])), (t0, .inl (tc, 7, .inl tf)), (ah, .inr (4, [.int sh, .ref q1, .ref q2, .int tn, .ref q3, .ref q4, .int sc, w7, .int al])), (q1, .inl (c1, 9, .inl f1)), (q2, .inl (c2, 9, .inl f2)), (q3, .inl (c3, 4, .inl f3)), (q4, .inl (c4, 4, .inl f4)), (ch, .inr (2, [.ref eh, y1, y2, y3, y4, y5])), (eh, .inr (5, [.int ts, z1]))] sz)) 0 0 (va_A [(h0, .inr (6, [.ref ah, v1, v2, v3, .ref ch, v5, .ref t0, v7])), (t0, .inl (tc, 7, .inl tf)), (ah, .inr (4, [.int sh, .ref q1, .ref q2, .int tn, .ref q3, .ref q4, .int sc, w7, .int al])), (q1, .inl (c1, 9, .inl f1)), (q2, .inl (c2, 9, .inl f2)), (q3, .inl (c3, 4, .inl f3)), (q4, .inl (c4, 4, .inl f4)), (ch, .inr (2, [.ref eh, y1, y2, y3, y4, y5])), (eh, .inr (5, [.int ts, z1]))] sz) := by
  refine Met.ofW (cc := cX8_count) (maxL := 2) (ret := (some .int)) (by decide) rfl ?_
  intro p e s m args below meth c s₁ B hml hv
  obtain ⟨rfl, hsz, hP, hK, hD0, hev⟩ := hv
  have hx := B.exec
  have hb := B.bytes
  have hr := B.returns
  have hts := atoms_spec (ws := w_x_count) B.pre
  have hown : s.vm.findClass RX8 = some m.cls := findClass_of_methodNamed B.named
  have hlocks := B.notSynchronized
  have inX8 : ∀ w ∈ wsX80, w ∈ w_x_count := fun w h => List.mem_cons_of_mem _ (List.mem_append_left _ (List.mem_append_left _ (List.mem_append_left _ (List.mem_append_right _ h))))
  have inX6 : ∀ w ∈ wsX60, w ∈ w_x_count := fun w h => List.mem_cons_of_mem _ (List.mem_append_left _ (List.mem_append_left _ (List.mem_append_right _ h)))
  have inX4 : ∀ w ∈ wsX40, w ∈ w_x_count := fun w h => List.mem_cons_of_mem _ (List.mem_append_left _ (List.mem_append_right _ h))
  have inX7 : ∀ w ∈ wsX70, w ∈ w_x_count := fun w h => List.mem_cons_of_mem _ (List.mem_append_right _ h)
  subst hsz
  have hD := hD0.self (sz := s.heap.size)
  generalize hAe : va_A [(h0, .inr (6, [.ref ah, v1, v2, v3, .ref ch, v5, .ref t0, v7])), (t0, .inl (tc, 7, .inl tf)), (ah, .inr (4, [.int sh, .ref q1, .ref q2, .int tn, .ref q3, .ref q4, .int sc, w7, .int al])), (q1, .inl (c1, 9, .inl f1)), (q2, .inl (c2, 9, .inl f2)), (q3, .inl (c3, 4, .inl f3)), (q4, .inl (c4, 4, .inl f4)), (ch, .inr (2, [.ref eh, y1, y2, y3, y4, y5])), (eh, .inr (5, [.int ts, z1]))] s.heap.size = A at hD ⊢
  have hA : ∀ q : Nat, s.heap.size ≤ q → A q := fun q h => by rw [← hAe]; exact Or.inr h
  have hS : va_S A s.heap s.heap [] := va_S.rf
  have hP : va_P (dC, dI) vwCl [(h0, .inr (6, [.ref ah, v1, v2, v3, .ref ch, v5, .ref t0, v7])), (t0, .inl (tc, 7, .inl tf)), (ah, .inr (4, [.int sh, .ref q1, .ref q2, .int tn, .ref q3, .ref q4, .int sc, w7, .int al])), (q1, .inl (c1, 9, .inl f1)), (q2, .inl (c2, 9, .inl f2)), (q3, .inl (c3, 4, .inl f3)), (q4, .inl (c4, 4, .inl f4)), (ch, .inr (2, [.ref eh, y1, y2, y3, y4, y5])), (eh, .inr (5, [.int ts, z1]))] s.heap := hP
  have hl := lv_entry ([.ref h0, .int a]) (n := 2) (Nat.le_of_ble_eq_true rfl)
  rw [lg_entry_eq]
  generalize (lg_sl ([.ref h0, .int a]) ++ List.replicate (2 - (lg_sl ([.ref h0, .int a])).length) Slot.unset).toArray = ls at hl ⊢
  have hl : lv_has ls 2 [(0, .ref h0), (1, .int a)] := hl
  refine lv_iload_n hx hb dX8_count_0 rfl (lv_at hl 1 rfl) ?_
  by_cases c_1 : a = 0
  · skip
    refine W.eq (g2 := F0 m 1 ls (.int 0 :: [])) (by rw [c_1]) ?_
    refine lv_tableIn (tgt := 44) hx hb dX8_count_1 (by decide) (by decide) rfl (by decide) ?_
    refine lv_aload_n hx hb dX8_count_44 rfl (lv_at hl 0 rfl) ?_
    refine va_get (D := (dC, dI)) (ci := 6) (v := .ref ah) (C := RX8) (T := TX8) (N := 8) hx hb hts inX8 hown hK hP 0 rfl rfl 0 (by decide) (hts _ (List.mem_of_getElem? (i := 1) rfl)) (fun _ h9 => h9) rfl dX8_count_45 ?_
    refine va_getN (D := (dC, dI)) (ci := 4) (v := .int sh) (C := RX6) (T := TX6) (N := 9) hx hb hts inX6 hown hK hP 2 rfl rfl 0 (by decide) (ev_nest hev 1 rfl) (fun _ h9 => h9) rfl dX8_count_48 ?_
    have hP9 := hP.sub (ws' := [(h0, .inr (6, [.ref ah, v1, v2, v3, .ref ch, v5, .ref t0, v7])), (t0, .inl (tc, 7, .inl tf)), (ah, .inr (4, [.int sh, .ref q1, .ref q2, .int tn, .ref q3, .ref q4, .int sc, w7, .int al])), (q1, .inl (c1, 9, .inl f1)), (q2, .inl (c2, 9, .inl f2)), (q3, .inl (c3, 4, .inl f3)), (q4, .inl (c4, 4, .inl f4)), (ch, .inr (2, [.ref eh, y1, y2, y3, y4, y5])), (eh, .inr (5, [.int ts, z1]))]) [0, 1, 2, 3, 4, 5, 6, 7, 8] rfl
    have hD9 := hD.sub (ws' := [(h0, .inr (6, [.ref ah, v1, v2, v3, .ref ch, v5, .ref t0, v7])), (t0, .inl (tc, 7, .inl tf)), (ah, .inr (4, [.int sh, .ref q1, .ref q2, .int tn, .ref q3, .ref q4, .int sc, w7, .int al])), (q1, .inl (c1, 9, .inl f1)), (q2, .inl (c2, 9, .inl f2)), (q3, .inl (c3, 4, .inl f3)), (q4, .inl (c4, 4, .inl f4)), (ch, .inr (2, [.ref eh, y1, y2, y3, y4, y5])), (eh, .inr (5, [.int ts, z1]))]) [0, 1, 2, 3, 4, 5, 6, 7, 8] (by decide) rfl
    have hK9 := hK.sub (tys' := [(tc, .int), (c1, .int), (c2, .int), (c3, .int), (c4, .int)]) [0, 1, 2, 3, 4] rfl
    exact W.iret (v := sh) hx hb hr (fun t ht hW => ⟨⟨sh, (), rfl, trivial, tf, by rw [ht]; exact hP9, va_K.moved hW.alike hK9, hD9⟩, hS.F ht⟩) hS.2.2 dX8_count_51
  · skip
    by_cases c_2 : a = 1
    · skip
      refine W.eq (g2 := F0 m 1 ls (.int 1 :: [])) (by rw [c_2]) ?_
      refine lv_tableIn (tgt := 52) hx hb dX8_count_1 (by decide) (by decide) rfl (by decide) ?_
      refine lv_aload_n hx hb dX8_count_52 rfl (lv_at hl 0 rfl) ?_
      refine va_get (D := (dC, dI)) (ci := 6) (v := .ref ah) (C := RX8) (T := TX8) (N := 8) hx hb hts inX8 hown hK hP 0 rfl rfl 0 (by decide) (hts _ (List.mem_of_getElem? (i := 1) rfl)) (fun _ h9 => h9) rfl dX8_count_53 ?_
      refine va_getN (D := (dC, dI)) (ci := 4) (v := .int tn) (C := RX6) (T := TX6) (N := 9) hx hb hts inX6 hown hK hP 2 rfl rfl 3 (by decide) (ev_nest hev 4 rfl) (fun _ h9 => h9) rfl dX8_count_56 ?_
      have hPc := hP.sub (ws' := []) [] rfl
      have hKc := hK.sub (tys' := []) [] rfl
      refine vp_callSi (W.runS (As := [.int tn]) (rest := []) ⟨hx, hb, hml, hown, hts⟩ (j_Ibit l dC dI ad tn ) (va_cwS 1 hts g_x_count_j_Ibit_229 rfl rfl rfl (by decide +kernel) ⟨(Nat.le_of_ble_eq_true rfl), (Nat.le_of_ble_eq_true rfl)⟩) ⟨preS_blind, fun U hU hW => ⟨rfl, preS_at hU hW hPc hKc hev⟩⟩ rfl rfl hl.1 rfl (lv_room (Nat.le_of_ble_eq_true rfl)) dX8_count_59 ⟨(Nat.le_of_ble_eq_true rfl), (Nat.le_of_ble_eq_true rfl)⟩) (fun r_3 hw => ?_)
      have hP9 := hP.sub (ws' := [(h0, .inr (6, [.ref ah, v1, v2, v3, .ref ch, v5, .ref t0, v7])), (t0, .inl (tc, 7, .inl tf)), (ah, .inr (4, [.int sh, .ref q1, .ref q2, .int tn, .ref q3, .ref q4, .int sc, w7, .int al])), (q1, .inl (c1, 9, .inl f1)), (q2, .inl (c2, 9, .inl f2)), (q3, .inl (c3, 4, .inl f3)), (q4, .inl (c4, 4, .inl f4)), (ch, .inr (2, [.ref eh, y1, y2, y3, y4, y5])), (eh, .inr (5, [.int ts, z1]))]) [0, 1, 2, 3, 4, 5, 6, 7, 8] rfl
      have hD9 := hD.sub (ws' := [(h0, .inr (6, [.ref ah, v1, v2, v3, .ref ch, v5, .ref t0, v7])), (t0, .inl (tc, 7, .inl tf)), (ah, .inr (4, [.int sh, .ref q1, .ref q2, .int tn, .ref q3, .ref q4, .int sc, w7, .int al])), (q1, .inl (c1, 9, .inl f1)), (q2, .inl (c2, 9, .inl f2)), (q3, .inl (c3, 4, .inl f3)), (q4, .inl (c4, 4, .inl f4)), (ch, .inr (2, [.ref eh, y1, y2, y3, y4, y5])), (eh, .inr (5, [.int ts, z1]))]) [0, 1, 2, 3, 4, 5, 6, 7, 8] (by decide) rfl
      have hK9 := hK.sub (tys' := [(tc, .int), (c1, .int), (c2, .int), (c3, .int), (c4, .int)]) [0, 1, 2, 3, 4] rfl
      exact W.iret (v := r_3) hx hb hr (fun t ht hW => ⟨⟨r_3, (), rfl, trivial, tf, by rw [ht]; exact hP9, va_K.moved hW.alike hK9, hD9⟩, hS.F ht⟩) hS.2.2 dX8_count_62
    · skip
      by_cases c_4 : a = 2
      · skip
        refine W.eq (g2 := F0 m 1 ls (.int 2 :: [])) (by rw [c_4]) ?_
        refine lv_tableIn (tgt := 63) hx hb dX8_count_1 (by decide) (by decide) rfl (by decide) ?_
        refine lv_aload_n hx hb dX8_count_63 rfl (lv_at hl 0 rfl) ?_
        refine va_get (D := (dC, dI)) (ci := 6) (v := .ref ah) (C := RX8) (T := TX8) (N := 8) hx hb hts inX8 hown hK hP 0 rfl rfl 0 (by decide) (hts _ (List.mem_of_getElem? (i := 1) rfl)) (fun _ h9 => h9) rfl dX8_count_64 ?_
        refine va_getN (D := (dC, dI)) (ci := 4) (v := .int sc) (C := RX6) (T := TX6) (N := 9) hx hb hts inX6 hown hK hP 2 rfl rfl 6 (by decide) (ev_nest hev 8 rfl) (fun _ h9 => h9) rfl dX8_count_67 ?_
        have hP9 := hP.sub (ws' := [(h0, .inr (6, [.ref ah, v1, v2, v3, .ref ch, v5, .ref t0, v7])), (t0, .inl (tc, 7, .inl tf)), (ah, .inr (4, [.int sh, .ref q1, .ref q2, .int tn, .ref q3, .ref q4, .int sc, w7, .int al])), (q1, .inl (c1, 9, .inl f1)), (q2, .inl (c2, 9, .inl f2)), (q3, .inl (c3, 4, .inl f3)), (q4, .inl (c4, 4, .inl f4)), (ch, .inr (2, [.ref eh, y1, y2, y3, y4, y5])), (eh, .inr (5, [.int ts, z1]))]) [0, 1, 2, 3, 4, 5, 6, 7, 8] rfl
        have hD9 := hD.sub (ws' := [(h0, .inr (6, [.ref ah, v1, v2, v3, .ref ch, v5, .ref t0, v7])), (t0, .inl (tc, 7, .inl tf)), (ah, .inr (4, [.int sh, .ref q1, .ref q2, .int tn, .ref q3, .ref q4, .int sc, w7, .int al])), (q1, .inl (c1, 9, .inl f1)), (q2, .inl (c2, 9, .inl f2)), (q3, .inl (c3, 4, .inl f3)), (q4, .inl (c4, 4, .inl f4)), (ch, .inr (2, [.ref eh, y1, y2, y3, y4, y5])), (eh, .inr (5, [.int ts, z1]))]) [0, 1, 2, 3, 4, 5, 6, 7, 8] (by decide) rfl
        have hK9 := hK.sub (tys' := [(tc, .int), (c1, .int), (c2, .int), (c3, .int), (c4, .int)]) [0, 1, 2, 3, 4] rfl
        exact W.iret (v := sc) hx hb hr (fun t ht hW => ⟨⟨sc, (), rfl, trivial, tf, by rw [ht]; exact hP9, va_K.moved hW.alike hK9, hD9⟩, hS.F ht⟩) hS.2.2 dX8_count_70
      · skip
        by_cases c_5 : a = 3
        · skip
          refine W.eq (g2 := F0 m 1 ls (.int 3 :: [])) (by rw [c_5]) ?_
          refine lv_tableIn (tgt := 71) hx hb dX8_count_1 (by decide) (by decide) rfl (by decide) ?_
          refine lv_aload_n hx hb dX8_count_71 rfl (lv_at hl 0 rfl) ?_
          refine va_get (D := (dC, dI)) (ci := 6) (v := .ref ah) (C := RX8) (T := TX8) (N := 8) hx hb hts inX8 hown hK hP 0 rfl rfl 0 (by decide) (hts _ (List.mem_of_getElem? (i := 1) rfl)) (fun _ h9 => h9) rfl dX8_count_72 ?_
          have hPc := hP.sub (ws' := [(ah, .inr (4, [.int sh, .ref q1, .ref q2, .int tn, .ref q3, .ref q4, .int sc, w7, .int al])), (q3, .inl (c3, 4, .inl f3))]) [2, 5] rfl
          have hKc := hK.sub (tys' := [(c3, .int)]) [3] rfl
          refine vp_callSi (W.runV (As := []) (rest := []) ⟨hx, hb, hml, hown, hts⟩ (s_holdsInUse l dC dI ad ah (.int sh) (.ref q1) (.ref q2) (.int tn) q3 (.ref q4) (.int sc) w7 (.int al) c3 f3 ) (cwV 0 hts g_x_count_s_holdsInUse_300 rfl rfl rfl (by decide +kernel) ⟨(Nat.le_of_ble_eq_true rfl), (Nat.le_of_ble_eq_true rfl)⟩) ⟨preS_blind, va_recv hKc hPc (ci := 4) (q0 := 0) rfl rfl, fun U hU hW => ⟨rfl, preS_at hU hW hPc hKc hev⟩⟩ rfl rfl hl.1 rfl (lv_room (Nat.le_of_ble_eq_true rfl)) dX8_count_75 ⟨(Nat.le_of_ble_eq_true rfl), (Nat.le_of_ble_eq_true rfl)⟩) (fun r_6 hw => ?_)
          have hP9 := hP.sub (ws' := [(h0, .inr (6, [.ref ah, v1, v2, v3, .ref ch, v5, .ref t0, v7])), (t0, .inl (tc, 7, .inl tf)), (ah, .inr (4, [.int sh, .ref q1, .ref q2, .int tn, .ref q3, .ref q4, .int sc, w7, .int al])), (q1, .inl (c1, 9, .inl f1)), (q2, .inl (c2, 9, .inl f2)), (q3, .inl (c3, 4, .inl f3)), (q4, .inl (c4, 4, .inl f4)), (ch, .inr (2, [.ref eh, y1, y2, y3, y4, y5])), (eh, .inr (5, [.int ts, z1]))]) [0, 1, 2, 3, 4, 5, 6, 7, 8] rfl
          have hD9 := hD.sub (ws' := [(h0, .inr (6, [.ref ah, v1, v2, v3, .ref ch, v5, .ref t0, v7])), (t0, .inl (tc, 7, .inl tf)), (ah, .inr (4, [.int sh, .ref q1, .ref q2, .int tn, .ref q3, .ref q4, .int sc, w7, .int al])), (q1, .inl (c1, 9, .inl f1)), (q2, .inl (c2, 9, .inl f2)), (q3, .inl (c3, 4, .inl f3)), (q4, .inl (c4, 4, .inl f4)), (ch, .inr (2, [.ref eh, y1, y2, y3, y4, y5])), (eh, .inr (5, [.int ts, z1]))]) [0, 1, 2, 3, 4, 5, 6, 7, 8] (by decide) rfl
          have hK9 := hK.sub (tys' := [(tc, .int), (c1, .int), (c2, .int), (c3, .int), (c4, .int)]) [0, 1, 2, 3, 4] rfl
          exact W.iret (v := r_6) hx hb hr (fun t ht hW => ⟨⟨r_6, (), rfl, trivial, tf, by rw [ht]; exact hP9, va_K.moved hW.alike hK9, hD9⟩, hS.F ht⟩) hS.2.2 dX8_count_78
        · skip
          by_cases c_7 : a = 4
          · skip
            refine W.eq (g2 := F0 m 1 ls (.int 4 :: [])) (by rw [c_7]) ?_
            refine lv_tableIn (tgt := 79) hx hb dX8_count_1 (by decide) (by decide) rfl (by decide) ?_
            refine lv_aload_n hx hb dX8_count_79 rfl (lv_at hl 0 rfl) ?_
            refine va_get (D := (dC, dI)) (ci := 6) (v := .ref ah) (C := RX8) (T := TX8) (N := 8) hx hb hts inX8 hown hK hP 0 rfl rfl 0 (by decide) (hts _ (List.mem_of_getElem? (i := 1) rfl)) (fun _ h9 => h9) rfl dX8_count_80 ?_
            have hPc := hP.sub (ws' := [(ah, .inr (4, [.int sh, .ref q1, .ref q2, .int tn, .ref q3, .ref q4, .int sc, w7, .int al])), (q1, .inl (c1, 9, .inl f1)), (q2, .inl (c2, 9, .inl f2)), (q3, .inl (c3, 4, .inl f3)), (q4, .inl (c4, 4, .inl f4))]) [2, 3, 4, 5, 6] rfl
            have hKc := hK.sub (tys' := [(c1, .int), (c2, .int), (c3, .int), (c4, .int)]) [1, 2, 3, 4] rfl
            refine vp_callSl (W.runV (As := []) (rest := []) ⟨hx, hb, hml, hown, hts⟩ (s_darkCells l dC dI ad ah sh q1 q2 tn q3 q4 (.int sc) w7 (.int al) c1 f1 c2 f2 c3 f3 c4 f4 hsh) (cwV 0 hts g_x_count_s_darkCells_134 rfl rfl rfl (by decide +kernel) ⟨(Nat.le_of_ble_eq_true rfl), (Nat.le_of_ble_eq_true rfl)⟩) ⟨preS_blind, va_recv hKc hPc (ci := 4) (q0 := 0) rfl rfl, fun U hU hW => ⟨rfl, preS_at hU hW hPc hKc hev⟩⟩ rfl rfl hl.1 rfl (lv_room (Nat.le_of_ble_eq_true rfl)) dX8_count_83 ⟨(Nat.le_of_ble_eq_true rfl), (Nat.le_of_ble_eq_true rfl)⟩) (fun r_8 hw => ?_)
            have hPc := hP.sub (ws' := []) [] rfl
            have hKc := hK.sub (tys' := []) [] rfl
            refine vp_callSi (W.runS (As := [.long r_8]) (rest := []) ⟨hx, hb, hml, hown, hts⟩ (j_Lbit l dC dI ad r_8 ) (va_cwS 1 hts g_x_count_j_Lbit_303 rfl rfl rfl (by decide +kernel) ⟨(Nat.le_of_ble_eq_true rfl), (Nat.le_of_ble_eq_true rfl)⟩) ⟨preS_blind, fun U hU hW => ⟨rfl, preS_at hU hW hPc hKc hev⟩⟩ rfl rfl hl.1 rfl (lv_room (Nat.le_of_ble_eq_true rfl)) dX8_count_86 ⟨(Nat.le_of_ble_eq_true rfl), (Nat.le_of_ble_eq_true rfl)⟩) (fun r_9 hw => ?_)
            have hP9 := hP.sub (ws' := [(h0, .inr (6, [.ref ah, v1, v2, v3, .ref ch, v5, .ref t0, v7])), (t0, .inl (tc, 7, .inl tf)), (ah, .inr (4, [.int sh, .ref q1, .ref q2, .int tn, .ref q3, .ref q4, .int sc, w7, .int al])), (q1, .inl (c1, 9, .inl f1)), (q2, .inl (c2, 9, .inl f2)), (q3, .inl (c3, 4, .inl f3)), (q4, .inl (c4, 4, .inl f4)), (ch, .inr (2, [.ref eh, y1, y2, y3, y4, y5])), (eh, .inr (5, [.int ts, z1]))]) [0, 1, 2, 3, 4, 5, 6, 7, 8] rfl
            have hD9 := hD.sub (ws' := [(h0, .inr (6, [.ref ah, v1, v2, v3, .ref ch, v5, .ref t0, v7])), (t0, .inl (tc, 7, .inl tf)), (ah, .inr (4, [.int sh, .ref q1, .ref q2, .int tn, .ref q3, .ref q4, .int sc, w7, .int al])), (q1, .inl (c1, 9, .inl f1)), (q2, .inl (c2, 9, .inl f2)), (q3, .inl (c3, 4, .inl f3)), (q4, .inl (c4, 4, .inl f4)), (ch, .inr (2, [.ref eh, y1, y2, y3, y4, y5])), (eh, .inr (5, [.int ts, z1]))]) [0, 1, 2, 3, 4, 5, 6, 7, 8] (by decide) rfl
            have hK9 := hK.sub (tys' := [(tc, .int), (c1, .int), (c2, .int), (c3, .int), (c4, .int)]) [0, 1, 2, 3, 4] rfl
            exact W.iret (v := r_9) hx hb hr (fun t ht hW => ⟨⟨r_9, (), rfl, trivial, tf, by rw [ht]; exact hP9, va_K.moved hW.alike hK9, hD9⟩, hS.F ht⟩) hS.2.2 dX8_count_89
          · skip
            by_cases c_10 : a = 5
            · skip
              refine W.eq (g2 := F0 m 1 ls (.int 5 :: [])) (by rw [c_10]) ?_
              refine lv_tableIn (tgt := 90) hx hb dX8_count_1 (by decide) (by decide) rfl (by decide) ?_
              refine lv_aload_n hx hb dX8_count_90 rfl (lv_at hl 0 rfl) ?_
              refine va_get (D := (dC, dI)) (ci := 6) (v := .ref ch) (C := RX8) (T := TX8) (N := 8) hx hb hts inX8 hown hK hP 0 rfl rfl 4 (by decide) (hts _ (List.mem_of_getElem? (i := 82) rfl)) (fun _ h9 => h9) rfl dX8_count_91 ?_
              refine va_getN (D := (dC, dI)) (ci := 2) (v := .ref eh) (C := RX4) (T := TX4) (N := 6) hx hb hts inX4 hown hK hP 7 rfl rfl 0 (by decide) (ev_nest hev 19 rfl) (fun _ h9 => h9) rfl dX8_count_94 ?_
              refine va_getN (D := (dC, dI)) (ci := 5) (v := .int ts) (C := RX7) (T := TX7) (N := 2) hx hb hts inX7 hown hK hP 8 rfl rfl 0 (by decide) (ev_nest hev 17 rfl) (fun _ h9 => h9) rfl dX8_count_97 ?_
              have hP9 := hP.sub (ws' := [(h0, .inr (6, [.ref ah, v1, v2, v3, .ref ch, v5, .ref t0, v7])), (t0, .inl (tc, 7, .inl tf)), (ah, .inr (4, [.int sh, .ref q1, .ref q2, .int tn, .ref q3, .ref q4, .int sc, w7, .int al])), (q1, .inl (c1, 9, .inl f1)), (q2, .inl (c2, 9, .inl f2)), (q3, .inl (c3, 4, .inl f3)), (q4, .inl (c4, 4, .inl f4)), (ch, .inr (2, [.ref eh, y1, y2, y3, y4, y5])), (eh, .inr (5, [.int ts, z1]))]) [0, 1, 2, 3, 4, 5, 6, 7, 8] rfl
              have hD9 := hD.sub (ws' := [(h0, .inr (6, [.ref ah, v1, v2, v3, .ref ch, v5, .ref t0, v7])), (t0, .inl (tc, 7, .inl tf)), (ah, .inr (4, [.int sh, .ref q1, .ref q2, .int tn, .ref q3, .ref q4, .int sc, w7, .int al])), (q1, .inl (c1, 9, .inl f1)), (q2, .inl (c2, 9, .inl f2)), (q3, .inl (c3, 4, .inl f3)), (q4, .inl (c4, 4, .inl f4)), (ch, .inr (2, [.ref eh, y1, y2, y3, y4, y5])), (eh, .inr (5, [.int ts, z1]))]) [0, 1, 2, 3, 4, 5, 6, 7, 8] (by decide) rfl
              have hK9 := hK.sub (tys' := [(tc, .int), (c1, .int), (c2, .int), (c3, .int), (c4, .int)]) [0, 1, 2, 3, 4] rfl
              exact W.iret (v := ts) hx hb hr (fun t ht hW => ⟨⟨ts, (), rfl, trivial, tf, by rw [ht]; exact hP9, va_K.moved hW.alike hK9, hD9⟩, hS.F ht⟩) hS.2.2 dX8_count_100
            · skip
              by_cases c_11 : a = 6
              · skip
                refine W.eq (g2 := F0 m 1 ls (.int 6 :: [])) (by rw [c_11]) ?_
                refine lv_tableIn (tgt := 101) hx hb dX8_count_1 (by decide) (by decide) rfl (by decide) ?_
                refine lv_aload_n hx hb dX8_count_101 rfl (lv_at hl 0 rfl) ?_
                refine va_get (D := (dC, dI)) (ci := 6) (v := .ref ah) (C := RX8) (T := TX8) (N := 8) hx hb hts inX8 hown hK hP 0 rfl rfl 0 (by decide) (hts _ (List.mem_of_getElem? (i := 1) rfl)) (fun _ h9 => h9) rfl dX8_count_102 ?_
                refine va_getN (D := (dC, dI)) (ci := 4) (v := .int al) (C := RX6) (T := TX6) (N := 9) hx hb hts inX6 hown hK hP 2 rfl rfl 8 (by decide) (ev_nest hev 11 rfl) (fun _ h9 => h9) rfl dX8_count_105 ?_
                have hP9 := hP.sub (ws' := [(h0, .inr (6, [.ref ah, v1, v2, v3, .ref ch, v5, .ref t0, v7])), (t0, .inl (tc, 7, .inl tf)), (ah, .inr (4, [.int sh, .ref q1, .ref q2, .int tn, .ref q3, .ref q4, .int sc, w7, .int al])), (q1, .inl (c1, 9, .inl f1)), (q2, .inl (c2, 9, .inl f2)), (q3, .inl (c3, 4, .inl f3)), (q4, .inl (c4, 4, .inl f4)), (ch, .inr (2, [.ref eh, y1, y2, y3, y4, y5])), (eh, .inr (5, [.int ts, z1]))]) [0, 1, 2, 3, 4, 5, 6, 7, 8] rfl
                have hD9 := hD.sub (ws' := [(h0, .inr (6, [.ref ah, v1, v2, v3, .ref ch, v5, .ref t0, v7])), (t0, .inl (tc, 7, .inl tf)), (ah, .inr (4, [.int sh, .ref q1, .ref q2, .int tn, .ref q3, .ref q4, .int sc, w7, .int al])), (q1, .inl (c1, 9, .inl f1)), (q2, .inl (c2, 9, .inl f2)), (q3, .inl (c3, 4, .inl f3)), (q4, .inl (c4, 4, .inl f4)), (ch, .inr (2, [.ref eh, y1, y2, y3, y4, y5])), (eh, .inr (5, [.int ts, z1]))]) [0, 1, 2, 3, 4, 5, 6, 7, 8] (by decide) rfl
                have hK9 := hK.sub (tys' := [(tc, .int), (c1, .int), (c2, .int), (c3, .int), (c4, .int)]) [0, 1, 2, 3, 4] rfl
                exact W.iret (v := al) hx hb hr (fun t ht hW => ⟨⟨al, (), rfl, trivial, tf, by rw [ht]; exact hP9, va_K.moved hW.alike hK9, hD9⟩, hS.F ht⟩) hS.2.2 dX8_count_108
              · skip
                refine lv_tableOut (tgt := 109) hx hb dX8_count_1 (by simp only [fa_lt, fa_le, fa_eq, and_true, true_and, and_false, false_and, not_true_eq_false, not_false_eq_true, li_0, li_1, li_2, li_3, li_4, li_5, li_6, li_7, li_8, li_9, li_10, li_12, li_15, li_16, li_20, li_30, li_34, li_38, li_40, li_63, li_64, li_65, li_78, li_120, li_1000, li_4000, li_10000, li_11077, li_255, li_65535, li_m1, li_m2, li_m1000000001, li_m1000000002, li_m1000000003, li_m1000000004, li_m1000000005, li_m1000000006, li_m1000000007, or_true, true_or, or_false, false_or, implies_true, true_implies, false_implies] at c_1 c_2 c_4 c_5 c_7 c_10 c_11 <;> omega) (by decide) ?_
                refine lv_aload_n hx hb dX8_count_109 rfl (lv_at hl 0 rfl) ?_
                refine lv_ldc hx hb hown (hts _ (List.mem_of_getElem? (i := 83) rfl)) dX8_count_110 ?_
                have hPc := hP.sub (ws' := [(h0, .inr (6, [.ref ah, v1, v2, v3, .ref ch, v5, .ref t0, v7])), (t0, .inl (tc, 7, .inl tf))]) [0, 1] rfl
                have hKc := hK.sub (tys' := [(tc, .int)]) [0] rfl
                have hDc := hD.sub (ws' := [(h0, .inr (6, [.ref ah, v1, v2, v3, .ref ch, v5, .ref t0, v7])), (t0, .inl (tc, 7, .inl tf))]) [0, 1] (by decide) rfl
                have hFc := va_free (wc := [(h0, .inr (6, [.ref ah, v1, v2, v3, .ref ch, v5, .ref t0, v7])), (t0, .inl (tc, 7, .inl tf))]) hD hS hA [0, 1] rfl
                refine va_calli (va_runV (As := [.int (-1000000001)]) (rest := []) ⟨hx, hb, hml, hown, hts⟩ (f_beyond l dC dI ad h0 (.ref ah) v1 v2 v3 (.ref ch) v5 t0 v7 tc tf s.heap.size ) (cwV 1 hts g_x_count_f_beyond_63 rfl rfl rfl (by decide +kernel) ⟨(Nat.le_of_ble_eq_true rfl), (Nat.le_of_ble_eq_true rfl)⟩) ⟨preM_blind, va_recv hKc hPc (ci := 6) (q0 := 0) rfl rfl, fun U hU hW => ⟨rfl, preM_at hU hW hPc hKc hDc hev⟩⟩ rfl rfl hl.1 rfl (lv_room (Nat.le_of_ble_eq_true rfl)) dX8_count_112 ⟨(Nat.le_of_ble_eq_true rfl), (Nat.le_of_ble_eq_true rfl)⟩) hS (fun q _ h => hFc q h) hFc (fun r_12 u t H1 locs ht hvm hw hB hz1 hk1 hS => ?_)
                obtain ⟨tg_13, hP1, hK1, hD1⟩ := hB
                rw [ht] at hP1
                have hK1 := va_K.moved hvm.symm hK1
                obtain ⟨hP, hD⟩ := va_join (wr := [(ah, .inr (4, [.int sh, .ref q1, .ref q2, .int tn, .ref q3, .ref q4, .int sc, w7, .int al])), (q1, .inl (c1, 9, .inl f1)), (q2, .inl (c2, 9, .inl f2)), (q3, .inl (c3, 4, .inl f3)), (q4, .inl (c4, 4, .inl f4)), (ch, .inr (2, [.ref eh, y1, y2, y3, y4, y5])), (eh, .inr (5, [.int ts, z1]))]) (w1 := [(h0, .inr (6, [.ref ah, v1, v2, v3, .ref ch, v5, .ref t0, v7])), (t0, .inl (tc, 7, .inl tg_13))]) hP hD [0, 1] [2, 3, 4, 5, 6, 7, 8] rfl rfl (by decide) (by decide) hk1 hFc hP1 hD1
                generalize H1 = H at hP hS ⊢
                have hP : va_P (dC, dI) vwCl [(ah, .inr (4, [.int sh, .ref q1, .ref q2, .int tn, .ref q3, .ref q4, .int sc, w7, .int al])), (q1, .inl (c1, 9, .inl f1)), (q2, .inl (c2, 9, .inl f2)), (q3, .inl (c3, 4, .inl f3)), (q4, .inl (c4, 4, .inl f4)), (ch, .inr (2, [.ref eh, y1, y2, y3, y4, y5])), (eh, .inr (5, [.int ts, z1])), (h0, .inr (6, [.ref ah, v1, v2, v3, .ref ch, v5, .ref t0, v7])), (t0, .inl (tc, 7, .inl tg_13))] H := hP
                have hD : va_D A [(ah, .inr (4, [.int sh, .ref q1, .ref q2, .int tn, .ref q3, .ref q4, .int sc, w7, .int al])), (q1, .inl (c1, 9, .inl f1)), (q2, .inl (c2, 9, .inl f2)), (q3, .inl (c3, 4, .inl f3)), (q4, .inl (c4, 4, .inl f4)), (ch, .inr (2, [.ref eh, y1, y2, y3, y4, y5])), (eh, .inr (5, [.int ts, z1])), (h0, .inr (6, [.ref ah, v1, v2, v3, .ref ch, v5, .ref t0, v7])), (t0, .inl (tc, 7, .inl tg_13))] := hD
                subst hw
                have hP9 := hP.sub (ws' := [(h0, .inr (6, [.ref ah, v1, v2, v3, .ref ch, v5, .ref t0, v7])), (t0, .inl (tc, 7, .inl tg_13)), (ah, .inr (4, [.int sh, .ref q1, .ref q2, .int tn, .ref q3, .ref q4, .int sc, w7, .int al])), (q1, .inl (c1, 9, .inl f1)), (q2, .inl (c2, 9, .inl f2)), (q3, .inl (c3, 4, .inl f3)), (q4, .inl (c4, 4, .inl f4)), (ch, .inr (2, [.ref eh, y1, y2, y3, y4, y5])), (eh, .inr (5, [.int ts, z1]))]) [7, 8, 0, 1, 2, 3, 4, 5, 6] rfl
                have hD9 := hD.sub (ws' := [(h0, .inr (6, [.ref ah, v1, v2, v3, .ref ch, v5, .ref t0, v7])), (t0, .inl (tc, 7, .inl tg_13)), (ah, .inr (4, [.int sh, .ref q1, .ref q2, .int tn, .ref q3, .ref q4, .int sc, w7, .int al])), (q1, .inl (c1, 9, .inl f1)), (q2, .inl (c2, 9, .inl f2)), (q3, .inl (c3, 4, .inl f3)), (q4, .inl (c4, 4, .inl f4)), (ch, .inr (2, [.ref eh, y1, y2, y3, y4, y5])), (eh, .inr (5, [.int ts, z1]))]) [7, 8, 0, 1, 2, 3, 4, 5, 6] (by decide) rfl
                have hK9 := hK.sub (tys' := [(tc, .int), (c1, .int), (c2, .int), (c3, .int), (c4, .int)]) [0, 1, 2, 3, 4] rfl
                exact W.iret (v := ((-1000000001) : Int32)) hx hb hr (fun t ht hW => ⟨⟨((-1000000001) : Int32), (), rfl, trivial, tg_13, by rw [ht]; exact hP9, va_K.moved hW.alike hK9, hD9⟩, hS.F ht⟩) hS.2.2 dX8_count_115

def w_x_status : List Cond := .code yX8_status cX8_status 4 (some .int) :: (([.constant RX8 62 (-1000000001), .methodLink RX8 63 yX8_finding, .instanceMethod yX8_finding, .selects RX8 yX8_finding yX8_finding, .initialized RX8, .code yX8_finding cX8_finding 3 (some .int), .fieldLink RX8 46 "LampShapes" "told" "[I"] : List Cond) ++ wsX80)
set_option maxRecDepth 20000 in
theorem g_x_status_f_beyond_63 : GoodIn w_x_status (wsV RX8 63 RX8 yX8_finding w_f_beyond) := goodIn_r _ [2, 3, 4, 5, 6, 1, 7, 8, 9, 10, 11, 12, 13, 14, 15] rfl (by decide +kernel)
set_option maxHeartbeats 4000000 in
set_option maxRecDepth 100000 in
theorem x_status (l : Launch) (dC : Nat → ClassId) (dI : Nat → Nat → Nat) (ad : Nat → Nat) (h0 : Nat) (a : Int32) (v0 : Value) (v1 : Value) (v2 : Value) (v3 : Value) (v4 : Value) (v5 : Value) (t0 : Nat) (v7 : Value) (tc : ClassId) (tf : Nat → Int32) (sz : Nat) : Met l yX8_status w_x_status ({ frames := 1, cells := 0, slots := 0, locals := 22 } : Room) (va_Pc [.ref h0, .int a] (preM dC dI ad [(tc, .int)] [(h0, .inr (6, [v0, v1, v2, v3, v4, v5, .ref t0, v7])), (t0, .inl (tc, 7, .inl tf))] sz)) (va_Qi (fun (r : Int32) (_ : Unit) => True) (fun _ t => ∃ (tg : Nat → Int32), va_P (dC, dI) vwCl [(h0, .inr (6, [v0, v1, v2, v3, v4, v5, .ref t0, v7])), (t0, .inl (tc, 7, .inl tg))] t.heap ∧ va_K (dC, dI) vwCl [(tc, .int)] t ∧ va_D (va_A [(h0, .inr (6, [v0, v1, v2, v3, v4, v5, .ref t0, v7])), (t0, .inl (tc, 7, .inl tf))] sz) [(h0, .inr (6, [v0, v1, v2, v3, v4, v5, .ref t0, v7])), (t0, .inl (tc, 7, .inl tg))]) (va_A [(h0, .inr (6, [v0, v1, v2, v3, v4, v5, .ref t0, v7])), (t0, .inl (tc, 7, .inl tf))] sz)) 0 0 (va_A [(h0, .inr (6, [v0, v1, v2, v3, v4, v5, .ref t0, v7])), (t0, .inl (tc, 7, .inl tf))] sz) := by
  refine Met.ofW (cc := cX8_status) (maxL := 4) (ret := (some .int)) (by decide) rfl ?_
  intro p e s m args below meth c s₁ B hml hv
  obtain ⟨rfl, hsz, hP, hK, hD0, hev⟩ := hv
  have hx := B.exec
  have hb := B.bytes
  have hr := B.returns
  have hts := atoms_spec (ws := w_x_status) B.pre
  have hown : s.vm.findClass RX8 = some m.cls := findClass_of_methodNamed B.named
  have hlocks := B.notSynchronized
  have inX8 : ∀ w ∈ wsX80, w ∈ w_x_status := fun w h => List.mem_cons_of_mem _ (List.mem_append_right _ h)
  subst hsz
  have hD := hD0.self (sz := s.heap.size)
  generalize hAe : va_A [(h0, .inr (6, [v0, v1, v2, v3, v4, v5, .ref t0, v7])), (t0, .inl (tc, 7, .inl tf))] s.heap.size = A at hD ⊢
  have hA : ∀ q : Nat, s.heap.size ≤ q → A q := fun q h => by rw [← hAe]; exact Or.inr h
  have hS : va_S A s.heap s.heap [] := va_S.rf
  have hP : va_P (dC, dI) vwCl [(h0, .inr (6, [v0, v1, v2, v3, v4, v5, .ref t0, v7])), (t0, .inl (tc, 7, .inl tf))] s.heap := hP
  have hl := lv_entry ([.ref h0, .int a]) (n := 4) (Nat.le_of_ble_eq_true rfl)
  rw [lg_entry_eq]
  generalize (lg_sl ([.ref h0, .int a]) ++ List.replicate (4 - (lg_sl ([.ref h0, .int a])).length) Slot.unset).toArray = ls at hl ⊢
  have hl : lv_has ls 4 [(0, .ref h0), (1, .int a)] := hl
  refine lv_iload_n hx hb dX8_status_0 rfl (lv_at hl 1 rfl) ?_
  refine lv_iconst (v := (-1)) hx hb dX8_status_1 (by decide) ?_
  refine lv_icmp_lt (tgt := 11) hx hb dX8_status_2 (by decide) (fun c_1 => ?_) (fun c_1 => ?_)
  · skip
    have tc_1 : a.toInt < (-1) := (fa_lt _ _).mp c_1
    refine lv_aload_n hx hb dX8_status_11 rfl (lv_at hl 0 rfl) ?_
    refine lv_ldc hx hb hown (hts _ (List.mem_of_getElem? (i := 1) rfl)) dX8_status_12 ?_
    have hPc := hP.sub (ws' := [(h0, .inr (6, [v0, v1, v2, v3, v4, v5, .ref t0, v7])), (t0, .inl (tc, 7, .inl tf))]) [0, 1] rfl
    have hKc := hK.sub (tys' := [(tc, .int)]) [0] rfl
    have hDc := hD.sub (ws' := [(h0, .inr (6, [v0, v1, v2, v3, v4, v5, .ref t0, v7])), (t0, .inl (tc, 7, .inl tf))]) [0, 1] (by decide) rfl
    have hFc := va_free (wc := [(h0, .inr (6, [v0, v1, v2, v3, v4, v5, .ref t0, v7])), (t0, .inl (tc, 7, .inl tf))]) hD hS hA [0, 1] rfl
    refine va_calli (va_runV (As := [.int (-1000000001)]) (rest := []) ⟨hx, hb, hml, hown, hts⟩ (f_beyond l dC dI ad h0 v0 v1 v2 v3 v4 v5 t0 v7 tc tf s.heap.size ) (cwV 1 hts g_x_status_f_beyond_63 rfl rfl rfl (by decide +kernel) ⟨(Nat.le_of_ble_eq_true rfl), (Nat.le_of_ble_eq_true rfl)⟩) ⟨preM_blind, va_recv hKc hPc (ci := 6) (q0 := 0) rfl rfl, fun U hU hW => ⟨rfl, preM_at hU hW hPc hKc hDc hev⟩⟩ rfl rfl hl.1 rfl (lv_room (Nat.le_of_ble_eq_true rfl)) dX8_status_14 ⟨(Nat.le_of_ble_eq_true rfl), (Nat.le_of_ble_eq_true rfl)⟩) hS (fun q _ h => hFc q h) hFc (fun r_2 u t H1 locs ht hvm hw hB hz1 hk1 hS => ?_)
    obtain ⟨tg_3, hP1, hK1, hD1⟩ := hB
    rw [ht] at hP1
    have hK1 := va_K.moved hvm.symm hK1
    obtain ⟨hP, hD⟩ := va_join (wr := []) (w1 := [(h0, .inr (6, [v0, v1, v2, v3, v4, v5, .ref t0, v7])), (t0, .inl (tc, 7, .inl tg_3))]) hP hD [0, 1] [] rfl rfl (by decide) (by decide) hk1 hFc hP1 hD1
    generalize H1 = H at hP hS ⊢
    have hP : va_P (dC, dI) vwCl [(h0, .inr (6, [v0, v1, v2, v3, v4, v5, .ref t0, v7])), (t0, .inl (tc, 7, .inl tg_3))] H := hP
    have hD : va_D A [(h0, .inr (6, [v0, v1, v2, v3, v4, v5, .ref t0, v7])), (t0, .inl (tc, 7, .inl tg_3))] := hD
    subst hw
    have hP9 := hP.sub (ws' := [(h0, .inr (6, [v0, v1, v2, v3, v4, v5, .ref t0, v7])), (t0, .inl (tc, 7, .inl tg_3))]) [0, 1] rfl
    have hD9 := hD.sub (ws' := [(h0, .inr (6, [v0, v1, v2, v3, v4, v5, .ref t0, v7])), (t0, .inl (tc, 7, .inl tg_3))]) [0, 1] (by decide) rfl
    have hK9 := hK.sub (tys' := [(tc, .int)]) [0] rfl
    exact W.iret (v := ((-1000000001) : Int32)) hx hb hr (fun t ht hW => ⟨⟨((-1000000001) : Int32), (), rfl, trivial, tg_3, by rw [ht]; exact hP9, va_K.moved hW.alike hK9, hD9⟩, hS.F ht⟩) hS.2.2 dX8_status_17
  · skip
    have tc_1 : ¬ a.toInt < (-1) := fun h => c_1 ((fa_lt _ _).mpr h)
    refine lv_iload_n hx hb dX8_status_5 rfl (lv_at hl 1 rfl) ?_
    refine lv_bipush (v := 7) hx hb dX8_status_6 (by decide) ?_
    refine lv_icmp_lt (tgt := 18) hx hb dX8_status_8 (by decide) (fun c_4 => ?_) (fun c_4 => ?_)
    · skip
      have tc_4 : a.toInt < 7 := (fa_lt _ _).mp c_4
      refine lv_iload_n hx hb dX8_status_18 rfl (lv_at hl 1 rfl) ?_
      refine lv_if_lt (tgt := 29) hx hb dX8_status_19 (by decide) (fun c_5 => ?_) (fun c_5 => ?_)
      · skip
        have tc_5 : a.toInt < 0 := (fa_lt _ _).mp c_5
        refine lv_iconst (v := 0) hx hb dX8_status_29 (by decide) ?_
        refine lv_istore_n (lv' := [(2, .int 0), (0, .ref h0), (1, .int a)]) hx hb dX8_status_30 rfl hl (by decide) rfl (fun ls hl => ?_)
        refine lv_iconst (v := 0) hx hb dX8_status_31 (by decide) ?_
        refine lv_istore_n (lv' := [(3, .int 0), (2, .int 0), (0, .ref h0), (1, .int a)]) hx hb dX8_status_32 rfl hl (by decide) rfl (fun ls hl => ?_)
        refine pp_loop (ι := Int32 × Int32) (fun ⟨v3_33, v2_33⟩ => (7 - v3_33.toInt).toNat) (fun ⟨v3_33, v2_33⟩ H locs ls => (0 ≤ v3_33.toInt) ∧ (v3_33.toInt ≤ 7) ∧ va_P (dC, dI) vwCl [(h0, .inr (6, [v0, v1, v2, v3, v4, v5, .ref t0, v7])), (t0, .inl (tc, 7, .inl tf))] H ∧ va_D A [(h0, .inr (6, [v0, v1, v2, v3, v4, v5, .ref t0, v7])), (t0, .inl (tc, 7, .inl tf))] ∧ va_S A s.heap H locs ∧ lv_has ls 4 [(3, .int v3_33), (2, .int v2_33), (0, .ref h0), (1, .int a)]) ?_ (0, 0) _ _ _ ⟨(by first | omega | decide | (simp only [fa_lt, fa_le, fa_eq, and_true, true_and, and_false, false_and, not_true_eq_false, not_false_eq_true, li_0, li_1, li_2, li_3, li_4, li_5, li_6, li_7, li_8, li_9, li_10, li_12, li_15, li_16, li_20, li_30, li_34, li_38, li_40, li_63, li_64, li_65, li_78, li_120, li_1000, li_4000, li_10000, li_11077, li_255, li_65535, li_m1, li_m2, li_m1000000001, li_m1000000002, li_m1000000003, li_m1000000004, li_m1000000005, li_m1000000006, li_m1000000007, or_true, true_or, or_false, false_or, implies_true, true_implies, false_implies] <;> omega)), (by first | omega | decide | (simp only [fa_lt, fa_le, fa_eq, and_true, true_and, and_false, false_and, not_true_eq_false, not_false_eq_true, li_0, li_1, li_2, li_3, li_4, li_5, li_6, li_7, li_8, li_9, li_10, li_12, li_15, li_16, li_20, li_30, li_34, li_38, li_40, li_63, li_64, li_65, li_78, li_120, li_1000, li_4000, li_10000, li_11077, li_255, li_65535, li_m1, li_m2, li_m1000000001, li_m1000000002, li_m1000000003, li_m1000000004, li_m1000000005, li_m1000000006, li_m1000000007, or_true, true_or, or_false, false_or, implies_true, true_implies, false_implies] <;> omega)), hP.sub [0, 1] rfl, hD.sub [0, 1] (by decide) rfl, hS, lv_sub hl [0, 1, 2, 3] rfl⟩
        intro k_6 ihk_6 u H locs ls hm hI
        obtain ⟨v3_33, v2_33⟩ := u
        obtain ⟨jk_6_0, jk_6_1, hP, hD, hS, hl⟩ := hI
        have hmk_6 : (7 - v3_33.toInt).toNat < k_6 + 1 := hm
        clear hm
        have jk_6_0 : 0 ≤ v3_33.toInt := jk_6_0
        have jk_6_1 : v3_33.toInt ≤ 7 := jk_6_1
        have hl : lv_has ls 4 [(3, .int v3_33), (2, .int v2_33), (0, .ref h0), (1, .int a)] := hl
        have hP : va_P (dC, dI) vwCl [(h0, .inr (6, [v0, v1, v2, v3, v4, v5, .ref t0, v7])), (t0, .inl (tc, 7, .inl tf))] H := hP
        have hD : va_D A [(h0, .inr (6, [v0, v1, v2, v3, v4, v5, .ref t0, v7])), (t0, .inl (tc, 7, .inl tf))] := hD
        refine lv_iload_n hx hb dX8_status_33 rfl (lv_at hl 0 rfl) ?_
        refine lv_bipush (v := 7) hx hb dX8_status_34 (by decide) ?_
        refine lv_icmp_ge (tgt := 54) hx hb dX8_status_36 (by decide) (fun c_7 => ?_) (fun c_7 => ?_)
        · skip
          have tc_7 : 7 ≤ v3_33.toInt := (fa_le _ _).mp c_7
          refine lv_iload_n hx hb dX8_status_54 rfl (lv_at hl 1 rfl) ?_
          have hP9 := hP.sub (ws' := [(h0, .inr (6, [v0, v1, v2, v3, v4, v5, .ref t0, v7])), (t0, .inl (tc, 7, .inl tf))]) [0, 1] rfl
          have hD9 := hD.sub (ws' := [(h0, .inr (6, [v0, v1, v2, v3, v4, v5, .ref t0, v7])), (t0, .inl (tc, 7, .inl tf))]) [0, 1] (by decide) rfl
          have hK9 := hK.sub (tys' := [(tc, .int)]) [0] rfl
          exact W.iret (v := v2_33) hx hb hr (fun t ht hW => ⟨⟨v2_33, (), rfl, trivial, tf, by rw [ht]; exact hP9, va_K.moved hW.alike hK9, hD9⟩, hS.F ht⟩) hS.2.2 dX8_status_55
        · skip
          have tc_7 : ¬ 7 ≤ v3_33.toInt := fun h => c_7 ((fa_le _ _).mpr h)
          refine lv_iload_n hx hb dX8_status_39 rfl (lv_at hl 1 rfl) ?_
          refine lv_aload_n hx hb dX8_status_40 rfl (lv_at hl 2 rfl) ?_
          refine va_get (D := (dC, dI)) (ci := 6) (v := .ref t0) (C := RX8) (T := TX8) (N := 8) hx hb hts inX8 hown hK hP 0 rfl rfl 6 (by decide) (hts _ (List.mem_of_getElem? (i := 7) rfl)) (fun _ h9 => h9) rfl dX8_status_41 ?_
          refine lv_iload_n hx hb dX8_status_44 rfl (lv_at hl 0 rfl) ?_
          refine va_iald hx hb hK hP 1 0 rfl rfl (vp_in_iff.mpr ⟨by omega, by omega⟩) dX8_status_45 ?_
          refine lv_topi (fun n_8 en_8 => ?_)
          clear en_8
          refine lv_iadd hx hb dX8_status_46 ?_
          refine lv_topi (fun n_9 en_9 => ?_)
          clear en_9
          refine lv_istore_n (lv' := [(2, .int n_9), (3, .int v3_33), (0, .ref h0), (1, .int a)]) hx hb dX8_status_47 rfl hl (by decide) rfl (fun ls hl => ?_)
          obtain ⟨n_10, en_10⟩ : ∃ y : Int32, y = v3_33 + 1 := ⟨_, rfl⟩
          have tn_10 : n_10.toInt = v3_33.toInt + 1 := pp_add en_10 rfl rfl (by omega) (by omega)
          refine lv_iinc (v := n_10) (lv' := [(3, .int n_10), (2, .int n_9), (0, .ref h0), (1, .int a)]) hx hb dX8_status_48 hl (k := 1) rfl (by rw [en_10]; rfl) (by decide) rfl (fun ls hl => ?_)
          clear en_10
          refine lv_goto (tgt := 33) hx hb dX8_status_51 (by decide) ?_
          exact ihk_6 (n_10, n_9) _ _ _ (by show (7 - n_10.toInt).toNat < k_6; omega) ⟨(by first | omega | decide | (simp only [fa_lt, fa_le, fa_eq, and_true, true_and, and_false, false_and, not_true_eq_false, not_false_eq_true, li_0, li_1, li_2, li_3, li_4, li_5, li_6, li_7, li_8, li_9, li_10, li_12, li_15, li_16, li_20, li_30, li_34, li_38, li_40, li_63, li_64, li_65, li_78, li_120, li_1000, li_4000, li_10000, li_11077, li_255, li_65535, li_m1, li_m2, li_m1000000001, li_m1000000002, li_m1000000003, li_m1000000004, li_m1000000005, li_m1000000006, li_m1000000007, or_true, true_or, or_false, false_or, implies_true, true_implies, false_implies] <;> omega)), (by first | omega | decide | (simp only [fa_lt, fa_le, fa_eq, and_true, true_and, and_false, false_and, not_true_eq_false, not_false_eq_true, li_0, li_1, li_2, li_3, li_4, li_5, li_6, li_7, li_8, li_9, li_10, li_12, li_15, li_16, li_20, li_30, li_34, li_38, li_40, li_63, li_64, li_65, li_78, li_120, li_1000, li_4000, li_10000, li_11077, li_255, li_65535, li_m1, li_m2, li_m1000000001, li_m1000000002, li_m1000000003, li_m1000000004, li_m1000000005, li_m1000000006, li_m1000000007, or_true, true_or, or_false, false_or, implies_true, true_implies, false_implies] <;> omega)), hP.sub [0, 1] rfl, hD.sub [0, 1] (by decide) rfl, hS, lv_sub hl [0, 1, 2, 3] rfl⟩
      · skip
        have tc_5 : ¬ a.toInt < 0 := fun h => c_5 ((fa_lt _ _).mpr h)
        refine lv_aload_n hx hb dX8_status_22 rfl (lv_at hl 0 rfl) ?_
        refine va_get (D := (dC, dI)) (ci := 6) (v := .ref t0) (C := RX8) (T := TX8) (N := 8) hx hb hts inX8 hown hK hP 0 rfl rfl 6 (by decide) (hts _ (List.mem_of_getElem? (i := 7) rfl)) (fun _ h9 => h9) rfl dX8_status_23 ?_
        refine lv_iload_n hx hb dX8_status_26 rfl (lv_at hl 1 rfl) ?_
        refine va_iald hx hb hK hP 1 0 rfl rfl (vp_in_iff.mpr ⟨by omega, by omega⟩) dX8_status_27 ?_
        refine lv_topi (fun n_11 en_11 => ?_)
        clear en_11
        have hP9 := hP.sub (ws' := [(h0, .inr (6, [v0, v1, v2, v3, v4, v5, .ref t0, v7])), (t0, .inl (tc, 7, .inl tf))]) [0, 1] rfl
        have hD9 := hD.sub (ws' := [(h0, .inr (6, [v0, v1, v2, v3, v4, v5, .ref t0, v7])), (t0, .inl (tc, 7, .inl tf))]) [0, 1] (by decide) rfl
        have hK9 := hK.sub (tys' := [(tc, .int)]) [0] rfl
        exact W.iret (v := n_11) hx hb hr (fun t ht hW => ⟨⟨n_11, (), rfl, trivial, tf, by rw [ht]; exact hP9, va_K.moved hW.alike hK9, hD9⟩, hS.F ht⟩) hS.2.2 dX8_status_28
    · skip
      have tc_4 : ¬ a.toInt < 7 := fun h => c_4 ((fa_lt _ _).mpr h)
      refine lv_aload_n hx hb dX8_status_11 rfl (lv_at hl 0 rfl) ?_
      refine lv_ldc hx hb hown (hts _ (List.mem_of_getElem? (i := 1) rfl)) dX8_status_12 ?_
      have hPc := hP.sub (ws' := [(h0, .inr (6, [v0, v1, v2, v3, v4, v5, .ref t0, v7])), (t0, .inl (tc, 7, .inl tf))]) [0, 1] rfl
      have hKc := hK.sub (tys' := [(tc, .int)]) [0] rfl
      have hDc := hD.sub (ws' := [(h0, .inr (6, [v0, v1, v2, v3, v4, v5, .ref t0, v7])), (t0, .inl (tc, 7, .inl tf))]) [0, 1] (by decide) rfl
      have hFc := va_free (wc := [(h0, .inr (6, [v0, v1, v2, v3, v4, v5, .ref t0, v7])), (t0, .inl (tc, 7, .inl tf))]) hD hS hA [0, 1] rfl
      refine va_calli (va_runV (As := [.int (-1000000001)]) (rest := []) ⟨hx, hb, hml, hown, hts⟩ (f_beyond l dC dI ad h0 v0 v1 v2 v3 v4 v5 t0 v7 tc tf s.heap.size ) (cwV 1 hts g_x_status_f_beyond_63 rfl rfl rfl (by decide +kernel) ⟨(Nat.le_of_ble_eq_true rfl), (Nat.le_of_ble_eq_true rfl)⟩) ⟨preM_blind, va_recv hKc hPc (ci := 6) (q0 := 0) rfl rfl, fun U hU hW => ⟨rfl, preM_at hU hW hPc hKc hDc hev⟩⟩ rfl rfl hl.1 rfl (lv_room (Nat.le_of_ble_eq_true rfl)) dX8_status_14 ⟨(Nat.le_of_ble_eq_true rfl), (Nat.le_of_ble_eq_true rfl)⟩) hS (fun q _ h => hFc q h) hFc (fun r_12 u t H1 locs ht hvm hw hB hz1 hk1 hS => ?_)
      obtain ⟨tg_13, hP1, hK1, hD1⟩ := hB
      rw [ht] at hP1
      have hK1 := va_K.moved hvm.symm hK1
      obtain ⟨hP, hD⟩ := va_join (wr := []) (w1 := [(h0, .inr (6, [v0, v1, v2, v3, v4, v5, .ref t0, v7])), (t0, .inl (tc, 7, .inl tg_13))]) hP hD [0, 1] [] rfl rfl (by decide) (by decide) hk1 hFc hP1 hD1
      generalize H1 = H at hP hS ⊢
      have hP : va_P (dC, dI) vwCl [(h0, .inr (6, [v0, v1, v2, v3, v4, v5, .ref t0, v7])), (t0, .inl (tc, 7, .inl tg_13))] H := hP
      have hD : va_D A [(h0, .inr (6, [v0, v1, v2, v3, v4, v5, .ref t0, v7])), (t0, .inl (tc, 7, .inl tg_13))] := hD
      subst hw
      have hP9 := hP.sub (ws' := [(h0, .inr (6, [v0, v1, v2, v3, v4, v5, .ref t0, v7])), (t0, .inl (tc, 7, .inl tg_13))]) [0, 1] rfl
      have hD9 := hD.sub (ws' := [(h0, .inr (6, [v0, v1, v2, v3, v4, v5, .ref t0, v7])), (t0, .inl (tc, 7, .inl tg_13))]) [0, 1] (by decide) rfl
      have hK9 := hK.sub (tys' := [(tc, .int)]) [0] rfl
      exact W.iret (v := ((-1000000001) : Int32)) hx hb hr (fun t ht hW => ⟨⟨((-1000000001) : Int32), (), rfl, trivial, tg_13, by rw [ht]; exact hP9, va_K.moved hW.alike hK9, hD9⟩, hS.F ht⟩) hS.2.2 dX8_status_17

