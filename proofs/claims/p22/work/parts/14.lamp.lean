theorem dX8_shape_0 : decode cX8_shape 0 = .ok (.iload_n 1, 1) := by decide +kernel
theorem dX8_shape_1 : decode cX8_shape 1 = .ok (.invokestatic 55, 3) := by decide +kernel
theorem dX8_shape_4 : decode cX8_shape 4 = .ok (.ifCond .eq 10, 3) := by decide +kernel
theorem dX8_shape_7 : decode cX8_shape 7 = .ok (.iload_n 2, 1) := by decide +kernel
theorem dX8_shape_8 : decode cX8_shape 8 = .ok (.invokestatic 59, 3) := by decide +kernel
theorem dX8_shape_11 : decode cX8_shape 11 = .ok (.ifCond .ne 10, 3) := by decide +kernel
theorem dX8_shape_14 : decode cX8_shape 14 = .ok (.aload_n 0, 1) := by decide +kernel
theorem dX8_shape_15 : decode cX8_shape 15 = .ok (.ldc 62, 2) := by decide +kernel
theorem dX8_shape_17 : decode cX8_shape 17 = .ok (.invokevirtual 63, 3) := by decide +kernel
theorem dX8_shape_20 : decode cX8_shape 20 = .ok (.ireturn, 1) := by decide +kernel
theorem dX8_shape_21 : decode cX8_shape 21 = .ok (.aload_n 0, 1) := by decide +kernel
theorem dX8_shape_22 : decode cX8_shape 22 = .ok (.getfield 10, 3) := by decide +kernel
theorem dX8_shape_25 : decode cX8_shape 25 = .ok (.invokevirtual 67, 3) := by decide +kernel
theorem dX8_shape_28 : decode cX8_shape 28 = .ok (.ifCond .ne 10, 3) := by decide +kernel
theorem dX8_shape_31 : decode cX8_shape 31 = .ok (.aload_n 0, 1) := by decide +kernel
theorem dX8_shape_32 : decode cX8_shape 32 = .ok (.ldc 71, 2) := by decide +kernel
theorem dX8_shape_34 : decode cX8_shape 34 = .ok (.invokevirtual 63, 3) := by decide +kernel
theorem dX8_shape_37 : decode cX8_shape 37 = .ok (.ireturn, 1) := by decide +kernel
theorem dX8_shape_38 : decode cX8_shape 38 = .ok (.aload_n 0, 1) := by decide +kernel
theorem dX8_shape_39 : decode cX8_shape 39 = .ok (.getfield 10, 3) := by decide +kernel
theorem dX8_shape_42 : decode cX8_shape 42 = .ok (.iload_n 1, 1) := by decide +kernel
theorem dX8_shape_43 : decode cX8_shape 43 = .ok (.iload_n 2, 1) := by decide +kernel
theorem dX8_shape_44 : decode cX8_shape 44 = .ok (.invokevirtual 72, 3) := by decide +kernel
theorem dX8_shape_47 : decode cX8_shape 47 = .ok (.ireturn, 1) := by decide +kernel
theorem dX8_of_0 : decode cX8_of 0 = .ok (.aload_n 0, 1) := by decide +kernel
theorem dX8_of_1 : decode cX8_of 1 = .ok (.getfield 10, 3) := by decide +kernel
theorem dX8_of_4 : decode cX8_of 4 = .ok (.iload_n 1, 1) := by decide +kernel
theorem dX8_of_5 : decode cX8_of 5 = .ok (.invokevirtual 76, 3) := by decide +kernel
theorem dX8_of_8 : decode cX8_of 8 = .ok (.ifCond .ne 10, 3) := by decide +kernel
theorem dX8_of_11 : decode cX8_of 11 = .ok (.aload_n 0, 1) := by decide +kernel
theorem dX8_of_12 : decode cX8_of 12 = .ok (.ldc 62, 2) := by decide +kernel
theorem dX8_of_14 : decode cX8_of 14 = .ok (.invokevirtual 63, 3) := by decide +kernel
theorem dX8_of_17 : decode cX8_of 17 = .ok (.ireturn, 1) := by decide +kernel
theorem dX8_of_18 : decode cX8_of 18 = .ok (.iload_n 2, 1) := by decide +kernel
theorem dX8_of_19 : decode cX8_of 19 = .ok (.tableswitch 75 0 3 #[29, 39, 49, 66], 29) := by decide +kernel
theorem dX8_of_48 : decode cX8_of 48 = .ok (.aload_n 0, 1) := by decide +kernel
theorem dX8_of_49 : decode cX8_of 49 = .ok (.getfield 10, 3) := by decide +kernel
theorem dX8_of_52 : decode cX8_of 52 = .ok (.getfield 79, 3) := by decide +kernel
theorem dX8_of_55 : decode cX8_of 55 = .ok (.iload_n 1, 1) := by decide +kernel
theorem dX8_of_56 : decode cX8_of 56 = .ok (.iaload, 1) := by decide +kernel
theorem dX8_of_57 : decode cX8_of 57 = .ok (.ireturn, 1) := by decide +kernel
theorem dX8_of_58 : decode cX8_of 58 = .ok (.aload_n 0, 1) := by decide +kernel
theorem dX8_of_59 : decode cX8_of 59 = .ok (.getfield 10, 3) := by decide +kernel
theorem dX8_of_62 : decode cX8_of 62 = .ok (.getfield 82, 3) := by decide +kernel
theorem dX8_of_65 : decode cX8_of 65 = .ok (.iload_n 1, 1) := by decide +kernel
theorem dX8_of_66 : decode cX8_of 66 = .ok (.iaload, 1) := by decide +kernel
theorem dX8_of_67 : decode cX8_of 67 = .ok (.ireturn, 1) := by decide +kernel
theorem dX8_of_68 : decode cX8_of 68 = .ok (.aload_n 0, 1) := by decide +kernel
theorem dX8_of_69 : decode cX8_of 69 = .ok (.getfield 10, 3) := by decide +kernel
theorem dX8_of_72 : decode cX8_of 72 = .ok (.iload_n 1, 1) := by decide +kernel
theorem dX8_of_73 : decode cX8_of 73 = .ok (.invokevirtual 85, 3) := by decide +kernel
theorem dX8_of_76 : decode cX8_of 76 = .ok (.ifCond .eq 7, 3) := by decide +kernel
theorem dX8_of_79 : decode cX8_of 79 = .ok (.iconst 1, 1) := by decide +kernel
theorem dX8_of_80 : decode cX8_of 80 = .ok (.goto 4, 3) := by decide +kernel
theorem dX8_of_83 : decode cX8_of 83 = .ok (.iconst 0, 1) := by decide +kernel
theorem dX8_of_84 : decode cX8_of 84 = .ok (.ireturn, 1) := by decide +kernel
theorem dX8_of_85 : decode cX8_of 85 = .ok (.aload_n 0, 1) := by decide +kernel
theorem dX8_of_86 : decode cX8_of 86 = .ok (.getfield 10, 3) := by decide +kernel
theorem dX8_of_89 : decode cX8_of 89 = .ok (.iload_n 1, 1) := by decide +kernel
theorem dX8_of_90 : decode cX8_of 90 = .ok (.invokevirtual 88, 3) := by decide +kernel
theorem dX8_of_93 : decode cX8_of 93 = .ok (.ireturn, 1) := by decide +kernel
theorem dX8_of_94 : decode cX8_of 94 = .ok (.aload_n 0, 1) := by decide +kernel
theorem dX8_of_95 : decode cX8_of 95 = .ok (.ldc 62, 2) := by decide +kernel
theorem dX8_of_97 : decode cX8_of 97 = .ok (.invokevirtual 63, 3) := by decide +kernel
theorem dX8_of_100 : decode cX8_of 100 = .ok (.ireturn, 1) := by decide +kernel
theorem dX8_cut_0 : decode cX8_cut 0 = .ok (.aload_n 0, 1) := by decide +kernel
theorem dX8_cut_1 : decode cX8_cut 1 = .ok (.getfield 10, 3) := by decide +kernel
theorem dX8_cut_4 : decode cX8_cut 4 = .ok (.iload_n 1, 1) := by decide +kernel
theorem dX8_cut_5 : decode cX8_cut 5 = .ok (.invokevirtual 76, 3) := by decide +kernel
theorem dX8_cut_8 : decode cX8_cut 8 = .ok (.ifCond .eq 10, 3) := by decide +kernel
theorem dX8_cut_11 : decode cX8_cut 11 = .ok (.iload_n 2, 1) := by decide +kernel
theorem dX8_cut_12 : decode cX8_cut 12 = .ok (.invokestatic 59, 3) := by decide +kernel
theorem dX8_cut_15 : decode cX8_cut 15 = .ok (.ifCond .ne 10, 3) := by decide +kernel
theorem dX8_cut_18 : decode cX8_cut 18 = .ok (.aload_n 0, 1) := by decide +kernel
theorem dX8_cut_19 : decode cX8_cut 19 = .ok (.ldc 62, 2) := by decide +kernel
theorem dX8_cut_21 : decode cX8_cut 21 = .ok (.invokevirtual 63, 3) := by decide +kernel
theorem dX8_cut_24 : decode cX8_cut 24 = .ok (.ireturn, 1) := by decide +kernel
theorem dX8_cut_25 : decode cX8_cut 25 = .ok (.aload_n 0, 1) := by decide +kernel
theorem dX8_cut_26 : decode cX8_cut 26 = .ok (.getfield 10, 3) := by decide +kernel
theorem dX8_cut_29 : decode cX8_cut 29 = .ok (.getfield 82, 3) := by decide +kernel
theorem dX8_cut_32 : decode cX8_cut 32 = .ok (.iload_n 1, 1) := by decide +kernel
theorem dX8_cut_33 : decode cX8_cut 33 = .ok (.iaload, 1) := by decide +kernel
theorem dX8_cut_34 : decode cX8_cut 34 = .ok (.istore_n 3, 1) := by decide +kernel
theorem dX8_cut_35 : decode cX8_cut 35 = .ok (.aload_n 0, 1) := by decide +kernel
theorem dX8_cut_36 : decode cX8_cut 36 = .ok (.getfield 10, 3) := by decide +kernel
theorem dX8_cut_39 : decode cX8_cut 39 = .ok (.getfield 82, 3) := by decide +kernel
theorem dX8_cut_42 : decode cX8_cut 42 = .ok (.iload_n 1, 1) := by decide +kernel
theorem dX8_cut_43 : decode cX8_cut 43 = .ok (.iload_n 2, 1) := by decide +kernel
theorem dX8_cut_44 : decode cX8_cut 44 = .ok (.iastore, 1) := by decide +kernel
theorem dX8_cut_45 : decode cX8_cut 45 = .ok (.iload_n 3, 1) := by decide +kernel
theorem dX8_cut_46 : decode cX8_cut 46 = .ok (.ireturn, 1) := by decide +kernel
theorem dX8_tear_0 : decode cX8_tear 0 = .ok (.aload_n 0, 1) := by decide +kernel
theorem dX8_tear_1 : decode cX8_tear 1 = .ok (.getfield 10, 3) := by decide +kernel
theorem dX8_tear_4 : decode cX8_tear 4 = .ok (.iload_n 1, 1) := by decide +kernel
theorem dX8_tear_5 : decode cX8_tear 5 = .ok (.invokevirtual 76, 3) := by decide +kernel
theorem dX8_tear_8 : decode cX8_tear 8 = .ok (.ifCond .ne 10, 3) := by decide +kernel
theorem dX8_tear_11 : decode cX8_tear 11 = .ok (.aload_n 0, 1) := by decide +kernel
theorem dX8_tear_12 : decode cX8_tear 12 = .ok (.ldc 62, 2) := by decide +kernel
theorem dX8_tear_14 : decode cX8_tear 14 = .ok (.invokevirtual 63, 3) := by decide +kernel
theorem dX8_tear_17 : decode cX8_tear 17 = .ok (.ireturn, 1) := by decide +kernel
theorem dX8_tear_18 : decode cX8_tear 18 = .ok (.aload_n 0, 1) := by decide +kernel
theorem dX8_tear_19 : decode cX8_tear 19 = .ok (.getfield 10, 3) := by decide +kernel
theorem dX8_tear_22 : decode cX8_tear 22 = .ok (.iload_n 1, 1) := by decide +kernel
theorem dX8_tear_23 : decode cX8_tear 23 = .ok (.invokevirtual 85, 3) := by decide +kernel
theorem dX8_tear_26 : decode cX8_tear 26 = .ok (.iload_n 2, 1) := by decide +kernel
theorem dX8_tear_27 : decode cX8_tear 27 = .ok (.if_icmp .ne 5, 3) := by decide +kernel
theorem dX8_tear_30 : decode cX8_tear 30 = .ok (.iconst 0, 1) := by decide +kernel
theorem dX8_tear_31 : decode cX8_tear 31 = .ok (.ireturn, 1) := by decide +kernel
theorem dX8_tear_32 : decode cX8_tear 32 = .ok (.aload_n 0, 1) := by decide +kernel
theorem dX8_tear_33 : decode cX8_tear 33 = .ok (.getfield 10, 3) := by decide +kernel
theorem dX8_tear_36 : decode cX8_tear 36 = .ok (.iload_n 1, 1) := by decide +kernel
theorem dX8_tear_37 : decode cX8_tear 37 = .ok (.iload_n 2, 1) := by decide +kernel
theorem dX8_tear_38 : decode cX8_tear 38 = .ok (.invokevirtual 91, 3) := by decide +kernel
theorem dX8_tear_41 : decode cX8_tear 41 = .ok (.iconst 1, 1) := by decide +kernel
theorem dX8_tear_42 : decode cX8_tear 42 = .ok (.ireturn, 1) := by decide +kernel
theorem dX8_become_0 : decode cX8_become 0 = .ok (.aload_n 0, 1) := by decide +kernel
theorem dX8_become_1 : decode cX8_become 1 = .ok (.getfield 10, 3) := by decide +kernel
theorem dX8_become_4 : decode cX8_become 4 = .ok (.iload_n 1, 1) := by decide +kernel
theorem dX8_become_5 : decode cX8_become 5 = .ok (.invokevirtual 76, 3) := by decide +kernel
theorem dX8_become_8 : decode cX8_become 8 = .ok (.ifCond .eq 10, 3) := by decide +kernel
theorem dX8_become_11 : decode cX8_become 11 = .ok (.iload_n 2, 1) := by decide +kernel
theorem dX8_become_12 : decode cX8_become 12 = .ok (.invokestatic 55, 3) := by decide +kernel
theorem dX8_become_15 : decode cX8_become 15 = .ok (.ifCond .ne 10, 3) := by decide +kernel
theorem dX8_become_18 : decode cX8_become 18 = .ok (.aload_n 0, 1) := by decide +kernel
theorem dX8_become_19 : decode cX8_become 19 = .ok (.ldc 62, 2) := by decide +kernel
theorem dX8_become_21 : decode cX8_become 21 = .ok (.invokevirtual 63, 3) := by decide +kernel
theorem dX8_become_24 : decode cX8_become 24 = .ok (.ireturn, 1) := by decide +kernel
theorem dX8_become_25 : decode cX8_become 25 = .ok (.aload_n 0, 1) := by decide +kernel
theorem dX8_become_26 : decode cX8_become 26 = .ok (.getfield 10, 3) := by decide +kernel
theorem dX8_become_29 : decode cX8_become 29 = .ok (.getfield 79, 3) := by decide +kernel
theorem dX8_become_32 : decode cX8_become 32 = .ok (.iload_n 1, 1) := by decide +kernel
theorem dX8_become_33 : decode cX8_become 33 = .ok (.iaload, 1) := by decide +kernel
theorem dX8_become_34 : decode cX8_become 34 = .ok (.istore_n 3, 1) := by decide +kernel
theorem dX8_become_35 : decode cX8_become 35 = .ok (.aload_n 0, 1) := by decide +kernel
theorem dX8_become_36 : decode cX8_become 36 = .ok (.getfield 10, 3) := by decide +kernel
theorem dX8_become_39 : decode cX8_become 39 = .ok (.getfield 79, 3) := by decide +kernel
theorem dX8_become_42 : decode cX8_become 42 = .ok (.iload_n 1, 1) := by decide +kernel
theorem dX8_become_43 : decode cX8_become 43 = .ok (.iload_n 2, 1) := by decide +kernel
theorem dX8_become_44 : decode cX8_become 44 = .ok (.iastore, 1) := by decide +kernel
theorem dX8_become_45 : decode cX8_become 45 = .ok (.iload_n 3, 1) := by decide +kernel
theorem dX8_become_46 : decode cX8_become 46 = .ok (.ireturn, 1) := by decide +kernel
theorem dX8_as_0 : decode cX8_as 0 = .ok (.aload_n 0, 1) := by decide +kernel
theorem dX8_as_1 : decode cX8_as 1 = .ok (.getfield 10, 3) := by decide +kernel
theorem dX8_as_4 : decode cX8_as 4 = .ok (.iload_n 1, 1) := by decide +kernel
theorem dX8_as_5 : decode cX8_as 5 = .ok (.invokevirtual 76, 3) := by decide +kernel
theorem dX8_as_8 : decode cX8_as 8 = .ok (.ifCond .eq 10, 3) := by decide +kernel
theorem dX8_as_11 : decode cX8_as 11 = .ok (.iload_n 2, 1) := by decide +kernel
theorem dX8_as_12 : decode cX8_as 12 = .ok (.invokestatic 55, 3) := by decide +kernel
theorem dX8_as_15 : decode cX8_as 15 = .ok (.ifCond .ne 10, 3) := by decide +kernel
theorem dX8_as_18 : decode cX8_as 18 = .ok (.aload_n 0, 1) := by decide +kernel
theorem dX8_as_19 : decode cX8_as 19 = .ok (.ldc 62, 2) := by decide +kernel
theorem dX8_as_21 : decode cX8_as 21 = .ok (.invokevirtual 63, 3) := by decide +kernel
theorem dX8_as_24 : decode cX8_as 24 = .ok (.ireturn, 1) := by decide +kernel
theorem dX8_as_25 : decode cX8_as 25 = .ok (.aload_n 0, 1) := by decide +kernel
theorem dX8_as_26 : decode cX8_as 26 = .ok (.getfield 10, 3) := by decide +kernel
theorem dX8_as_29 : decode cX8_as 29 = .ok (.getfield 79, 3) := by decide +kernel
theorem dX8_as_32 : decode cX8_as 32 = .ok (.iload_n 1, 1) := by decide +kernel
theorem dX8_as_33 : decode cX8_as 33 = .ok (.iaload, 1) := by decide +kernel
theorem dX8_as_34 : decode cX8_as 34 = .ok (.iload_n 2, 1) := by decide +kernel
theorem dX8_as_35 : decode cX8_as 35 = .ok (.invokestatic 95, 3) := by decide +kernel
theorem dX8_as_38 : decode cX8_as 38 = .ok (.ifCond .ne 10, 3) := by decide +kernel
theorem dX8_as_41 : decode cX8_as 41 = .ok (.aload_n 0, 1) := by decide +kernel
theorem dX8_as_42 : decode cX8_as 42 = .ok (.ldc 101, 2) := by decide +kernel
theorem dX8_as_44 : decode cX8_as 44 = .ok (.invokevirtual 63, 3) := by decide +kernel
theorem dX8_as_47 : decode cX8_as 47 = .ok (.ireturn, 1) := by decide +kernel
theorem dX8_as_48 : decode cX8_as 48 = .ok (.aload_n 0, 1) := by decide +kernel
theorem dX8_as_49 : decode cX8_as 49 = .ok (.getfield 10, 3) := by decide +kernel
theorem dX8_as_52 : decode cX8_as 52 = .ok (.getfield 82, 3) := by decide +kernel
theorem dX8_as_55 : decode cX8_as 55 = .ok (.iload_n 1, 1) := by decide +kernel
theorem dX8_as_56 : decode cX8_as 56 = .ok (.iaload, 1) := by decide +kernel
theorem dX8_as_57 : decode cX8_as 57 = .ok (.ireturn, 1) := by decide +kernel
theorem dX8_thrown_0 : decode cX8_thrown 0 = .ok (.aload_n 0, 1) := by decide +kernel
theorem dX8_thrown_1 : decode cX8_thrown 1 = .ok (.getfield 10, 3) := by decide +kernel
theorem dX8_thrown_4 : decode cX8_thrown 4 = .ok (.iload_n 1, 1) := by decide +kernel
theorem dX8_thrown_5 : decode cX8_thrown 5 = .ok (.invokevirtual 76, 3) := by decide +kernel
theorem dX8_thrown_8 : decode cX8_thrown 8 = .ok (.ifCond .eq 12, 3) := by decide +kernel
theorem dX8_thrown_11 : decode cX8_thrown 11 = .ok (.iload_n 2, 1) := by decide +kernel
theorem dX8_thrown_12 : decode cX8_thrown 12 = .ok (.ifCond .lt 8, 3) := by decide +kernel
theorem dX8_thrown_15 : decode cX8_thrown 15 = .ok (.iload_n 2, 1) := by decide +kernel
theorem dX8_thrown_16 : decode cX8_thrown 16 = .ok (.iconst 4, 1) := by decide +kernel
theorem dX8_thrown_17 : decode cX8_thrown 17 = .ok (.if_icmp .lt 10, 3) := by decide +kernel
theorem dX8_thrown_20 : decode cX8_thrown 20 = .ok (.aload_n 0, 1) := by decide +kernel
theorem dX8_thrown_21 : decode cX8_thrown 21 = .ok (.ldc 62, 2) := by decide +kernel
theorem dX8_thrown_23 : decode cX8_thrown 23 = .ok (.invokevirtual 63, 3) := by decide +kernel
theorem dX8_thrown_26 : decode cX8_thrown 26 = .ok (.ireturn, 1) := by decide +kernel
theorem dX8_thrown_27 : decode cX8_thrown 27 = .ok (.aload_n 0, 1) := by decide +kernel
theorem dX8_thrown_28 : decode cX8_thrown 28 = .ok (.getfield 10, 3) := by decide +kernel
theorem dX8_thrown_31 : decode cX8_thrown 31 = .ok (.getfield 79, 3) := by decide +kernel
theorem dX8_thrown_34 : decode cX8_thrown 34 = .ok (.iload_n 1, 1) := by decide +kernel
theorem dX8_thrown_35 : decode cX8_thrown 35 = .ok (.iaload, 1) := by decide +kernel
theorem dX8_thrown_36 : decode cX8_thrown 36 = .ok (.aload_n 0, 1) := by decide +kernel
theorem dX8_thrown_37 : decode cX8_thrown 37 = .ok (.getfield 10, 3) := by decide +kernel
theorem dX8_thrown_40 : decode cX8_thrown 40 = .ok (.getfield 82, 3) := by decide +kernel
theorem dX8_thrown_43 : decode cX8_thrown 43 = .ok (.iload_n 1, 1) := by decide +kernel
theorem dX8_thrown_44 : decode cX8_thrown 44 = .ok (.iaload, 1) := by decide +kernel
theorem dX8_thrown_45 : decode cX8_thrown 45 = .ok (.iload_n 2, 1) := by decide +kernel
theorem dX8_thrown_46 : decode cX8_thrown 46 = .ok (.invokestatic 102, 3) := by decide +kernel
theorem dX8_thrown_49 : decode cX8_thrown 49 = .ok (.ireturn, 1) := by decide +kernel
theorem dX8_shadow_0 : decode cX8_shadow 0 = .ok (.aload_n 0, 1) := by decide +kernel
theorem dX8_shadow_1 : decode cX8_shadow 1 = .ok (.getfield 10, 3) := by decide +kernel
theorem dX8_shadow_4 : decode cX8_shadow 4 = .ok (.iload_n 1, 1) := by decide +kernel
theorem dX8_shadow_5 : decode cX8_shadow 5 = .ok (.invokevirtual 76, 3) := by decide +kernel
theorem dX8_shadow_8 : decode cX8_shadow 8 = .ok (.ifCond .eq 10, 3) := by decide +kernel
theorem dX8_shadow_11 : decode cX8_shadow 11 = .ok (.iload_n 2, 1) := by decide +kernel
theorem dX8_shadow_12 : decode cX8_shadow 12 = .ok (.invokestatic 106, 3) := by decide +kernel
theorem dX8_shadow_15 : decode cX8_shadow 15 = .ok (.ifCond .ne 11, 3) := by decide +kernel
theorem dX8_shadow_18 : decode cX8_shadow 18 = .ok (.aload_n 0, 1) := by decide +kernel
theorem dX8_shadow_19 : decode cX8_shadow 19 = .ok (.ldc 62, 2) := by decide +kernel
theorem dX8_shadow_21 : decode cX8_shadow 21 = .ok (.invokevirtual 63, 3) := by decide +kernel
theorem dX8_shadow_24 : decode cX8_shadow 24 = .ok (.i2l, 1) := by decide +kernel
theorem dX8_shadow_25 : decode cX8_shadow 25 = .ok (.lreturn, 1) := by decide +kernel
theorem dX8_shadow_26 : decode cX8_shadow 26 = .ok (.aload_n 0, 1) := by decide +kernel
theorem dX8_shadow_27 : decode cX8_shadow 27 = .ok (.getfield 10, 3) := by decide +kernel
theorem dX8_shadow_30 : decode cX8_shadow 30 = .ok (.iload_n 1, 1) := by decide +kernel
theorem dX8_shadow_31 : decode cX8_shadow 31 = .ok (.iload_n 2, 1) := by decide +kernel
theorem dX8_shadow_32 : decode cX8_shadow 32 = .ok (.invokevirtual 111, 3) := by decide +kernel
theorem dX8_shadow_35 : decode cX8_shadow 35 = .ok (.lreturn, 1) := by decide +kernel
theorem dX8_hold_0 : decode cX8_hold 0 = .ok (.aload_n 0, 1) := by decide +kernel
theorem dX8_hold_1 : decode cX8_hold 1 = .ok (.getfield 10, 3) := by decide +kernel
theorem dX8_hold_4 : decode cX8_hold 4 = .ok (.iload_n 1, 1) := by decide +kernel
theorem dX8_hold_5 : decode cX8_hold 5 = .ok (.invokevirtual 76, 3) := by decide +kernel
theorem dX8_hold_8 : decode cX8_hold 8 = .ok (.ifCond .eq 10, 3) := by decide +kernel
theorem dX8_hold_11 : decode cX8_hold 11 = .ok (.iload_n 2, 1) := by decide +kernel
theorem dX8_hold_12 : decode cX8_hold 12 = .ok (.invokestatic 106, 3) := by decide +kernel
theorem dX8_hold_15 : decode cX8_hold 15 = .ok (.ifCond .ne 10, 3) := by decide +kernel
theorem dX8_hold_18 : decode cX8_hold 18 = .ok (.aload_n 0, 1) := by decide +kernel
theorem dX8_hold_19 : decode cX8_hold 19 = .ok (.ldc 62, 2) := by decide +kernel
theorem dX8_hold_21 : decode cX8_hold 21 = .ok (.invokevirtual 63, 3) := by decide +kernel
theorem dX8_hold_24 : decode cX8_hold 24 = .ok (.ireturn, 1) := by decide +kernel
theorem dX8_hold_25 : decode cX8_hold 25 = .ok (.aload_n 0, 1) := by decide +kernel
theorem dX8_hold_26 : decode cX8_hold 26 = .ok (.getfield 10, 3) := by decide +kernel
theorem dX8_hold_29 : decode cX8_hold 29 = .ok (.iload_n 1, 1) := by decide +kernel
theorem dX8_hold_30 : decode cX8_hold 30 = .ok (.invokevirtual 88, 3) := by decide +kernel
theorem dX8_hold_33 : decode cX8_hold 33 = .ok (.ifCond .lt 10, 3) := by decide +kernel
theorem dX8_hold_36 : decode cX8_hold 36 = .ok (.aload_n 0, 1) := by decide +kernel
theorem dX8_hold_37 : decode cX8_hold 37 = .ok (.ldc 115, 2) := by decide +kernel
theorem dX8_hold_39 : decode cX8_hold 39 = .ok (.invokevirtual 63, 3) := by decide +kernel
theorem dX8_hold_42 : decode cX8_hold 42 = .ok (.ireturn, 1) := by decide +kernel
theorem dX8_hold_43 : decode cX8_hold 43 = .ok (.aload_n 0, 1) := by decide +kernel
theorem dX8_hold_44 : decode cX8_hold 44 = .ok (.getfield 10, 3) := by decide +kernel
theorem dX8_hold_47 : decode cX8_hold 47 = .ok (.invokevirtual 116, 3) := by decide +kernel
theorem dX8_hold_50 : decode cX8_hold 50 = .ok (.istore_n 3, 1) := by decide +kernel
theorem dX8_hold_51 : decode cX8_hold 51 = .ok (.iload_n 3, 1) := by decide +kernel
theorem dX8_hold_52 : decode cX8_hold 52 = .ok (.ifCond .ge 10, 3) := by decide +kernel
theorem dX8_hold_55 : decode cX8_hold 55 = .ok (.aload_n 0, 1) := by decide +kernel
theorem dX8_hold_56 : decode cX8_hold 56 = .ok (.ldc 71, 2) := by decide +kernel
theorem dX8_hold_58 : decode cX8_hold 58 = .ok (.invokevirtual 63, 3) := by decide +kernel
theorem dX8_hold_61 : decode cX8_hold 61 = .ok (.ireturn, 1) := by decide +kernel
theorem dX8_hold_62 : decode cX8_hold 62 = .ok (.aload_n 0, 1) := by decide +kernel
theorem dX8_hold_63 : decode cX8_hold 63 = .ok (.getfield 10, 3) := by decide +kernel
theorem dX8_hold_66 : decode cX8_hold 66 = .ok (.iload_n 3, 1) := by decide +kernel
theorem dX8_hold_67 : decode cX8_hold 67 = .ok (.iload_n 1, 1) := by decide +kernel
theorem dX8_hold_68 : decode cX8_hold 68 = .ok (.iload_n 2, 1) := by decide +kernel
theorem dX8_hold_69 : decode cX8_hold 69 = .ok (.invokevirtual 120, 3) := by decide +kernel
theorem dX8_hold_72 : decode cX8_hold 72 = .ok (.iload_n 3, 1) := by decide +kernel
theorem dX8_hold_73 : decode cX8_hold 73 = .ok (.ireturn, 1) := by decide +kernel
theorem dX8_move_0 : decode cX8_move 0 = .ok (.aload_n 0, 1) := by decide +kernel
theorem dX8_move_1 : decode cX8_move 1 = .ok (.getfield 10, 3) := by decide +kernel
theorem dX8_move_4 : decode cX8_move 4 = .ok (.iload_n 1, 1) := by decide +kernel
theorem dX8_move_5 : decode cX8_move 5 = .ok (.invokevirtual 76, 3) := by decide +kernel
theorem dX8_move_8 : decode cX8_move 8 = .ok (.ifCond .eq 10, 3) := by decide +kernel
theorem dX8_move_11 : decode cX8_move 11 = .ok (.iload_n 2, 1) := by decide +kernel
theorem dX8_move_12 : decode cX8_move 12 = .ok (.invokestatic 106, 3) := by decide +kernel
theorem dX8_move_15 : decode cX8_move 15 = .ok (.ifCond .ne 10, 3) := by decide +kernel
theorem dX8_move_18 : decode cX8_move 18 = .ok (.aload_n 0, 1) := by decide +kernel
theorem dX8_move_19 : decode cX8_move 19 = .ok (.ldc 62, 2) := by decide +kernel
theorem dX8_move_21 : decode cX8_move 21 = .ok (.invokevirtual 63, 3) := by decide +kernel
theorem dX8_move_24 : decode cX8_move 24 = .ok (.ireturn, 1) := by decide +kernel
theorem dX8_move_25 : decode cX8_move 25 = .ok (.aload_n 0, 1) := by decide +kernel
theorem dX8_move_26 : decode cX8_move 26 = .ok (.getfield 10, 3) := by decide +kernel
theorem dX8_move_29 : decode cX8_move 29 = .ok (.iload_n 1, 1) := by decide +kernel
theorem dX8_move_30 : decode cX8_move 30 = .ok (.invokevirtual 88, 3) := by decide +kernel
theorem dX8_move_33 : decode cX8_move 33 = .ok (.istore_n 3, 1) := by decide +kernel
theorem dX8_move_34 : decode cX8_move 34 = .ok (.iload_n 3, 1) := by decide +kernel
theorem dX8_move_35 : decode cX8_move 35 = .ok (.ifCond .ge 10, 3) := by decide +kernel
theorem dX8_move_38 : decode cX8_move 38 = .ok (.aload_n 0, 1) := by decide +kernel
theorem dX8_move_39 : decode cX8_move 39 = .ok (.ldc 115, 2) := by decide +kernel
theorem dX8_move_41 : decode cX8_move 41 = .ok (.invokevirtual 63, 3) := by decide +kernel
theorem dX8_move_44 : decode cX8_move 44 = .ok (.ireturn, 1) := by decide +kernel
theorem dX8_move_45 : decode cX8_move 45 = .ok (.aload_n 0, 1) := by decide +kernel
theorem dX8_move_46 : decode cX8_move 46 = .ok (.getfield 10, 3) := by decide +kernel
theorem dX8_move_49 : decode cX8_move 49 = .ok (.getfield 124, 3) := by decide +kernel
theorem dX8_move_52 : decode cX8_move 52 = .ok (.iload_n 3, 1) := by decide +kernel
theorem dX8_move_53 : decode cX8_move 53 = .ok (.iaload, 1) := by decide +kernel
theorem dX8_move_54 : decode cX8_move 54 = .ok (.istore 4, 2) := by decide +kernel
theorem dX8_move_56 : decode cX8_move 56 = .ok (.aload_n 0, 1) := by decide +kernel
theorem dX8_move_57 : decode cX8_move 57 = .ok (.getfield 10, 3) := by decide +kernel
theorem dX8_move_60 : decode cX8_move 60 = .ok (.getfield 124, 3) := by decide +kernel
theorem dX8_move_63 : decode cX8_move 63 = .ok (.iload_n 3, 1) := by decide +kernel
theorem dX8_move_64 : decode cX8_move 64 = .ok (.iload_n 2, 1) := by decide +kernel
theorem dX8_move_65 : decode cX8_move 65 = .ok (.iastore, 1) := by decide +kernel
theorem dX8_move_66 : decode cX8_move 66 = .ok (.iload 4, 2) := by decide +kernel
theorem dX8_move_68 : decode cX8_move 68 = .ok (.ireturn, 1) := by decide +kernel
theorem dX8_drop_0 : decode cX8_drop 0 = .ok (.aload_n 0, 1) := by decide +kernel
theorem dX8_drop_1 : decode cX8_drop 1 = .ok (.getfield 10, 3) := by decide +kernel
theorem dX8_drop_4 : decode cX8_drop 4 = .ok (.iload_n 1, 1) := by decide +kernel
theorem dX8_drop_5 : decode cX8_drop 5 = .ok (.invokevirtual 76, 3) := by decide +kernel
theorem dX8_drop_8 : decode cX8_drop 8 = .ok (.ifCond .ne 10, 3) := by decide +kernel
theorem dX8_drop_11 : decode cX8_drop 11 = .ok (.aload_n 0, 1) := by decide +kernel
theorem dX8_drop_12 : decode cX8_drop 12 = .ok (.ldc 62, 2) := by decide +kernel
theorem dX8_drop_14 : decode cX8_drop 14 = .ok (.invokevirtual 63, 3) := by decide +kernel
theorem dX8_drop_17 : decode cX8_drop 17 = .ok (.ireturn, 1) := by decide +kernel
theorem dX8_drop_18 : decode cX8_drop 18 = .ok (.aload_n 0, 1) := by decide +kernel
theorem dX8_drop_19 : decode cX8_drop 19 = .ok (.getfield 10, 3) := by decide +kernel
theorem dX8_drop_22 : decode cX8_drop 22 = .ok (.iload_n 1, 1) := by decide +kernel
theorem dX8_drop_23 : decode cX8_drop 23 = .ok (.invokevirtual 88, 3) := by decide +kernel
theorem dX8_drop_26 : decode cX8_drop 26 = .ok (.istore_n 2, 1) := by decide +kernel
theorem dX8_drop_27 : decode cX8_drop 27 = .ok (.iload_n 2, 1) := by decide +kernel
theorem dX8_drop_28 : decode cX8_drop 28 = .ok (.ifCond .ge 10, 3) := by decide +kernel
theorem dX8_drop_31 : decode cX8_drop 31 = .ok (.aload_n 0, 1) := by decide +kernel
theorem dX8_drop_32 : decode cX8_drop 32 = .ok (.ldc 115, 2) := by decide +kernel
theorem dX8_drop_34 : decode cX8_drop 34 = .ok (.invokevirtual 63, 3) := by decide +kernel
theorem dX8_drop_37 : decode cX8_drop 37 = .ok (.ireturn, 1) := by decide +kernel
theorem dX8_drop_38 : decode cX8_drop 38 = .ok (.aload_n 0, 1) := by decide +kernel
theorem dX8_drop_39 : decode cX8_drop 39 = .ok (.getfield 10, 3) := by decide +kernel
theorem dX8_drop_42 : decode cX8_drop 42 = .ok (.iload_n 2, 1) := by decide +kernel
theorem dX8_drop_43 : decode cX8_drop 43 = .ok (.invokevirtual 127, 3) := by decide +kernel
theorem dX8_drop_46 : decode cX8_drop 46 = .ok (.iload_n 2, 1) := by decide +kernel
theorem dX8_drop_47 : decode cX8_drop 47 = .ok (.ireturn, 1) := by decide +kernel
theorem dX8_held_0 : decode cX8_held 0 = .ok (.iload_n 1, 1) := by decide +kernel
theorem dX8_held_1 : decode cX8_held 1 = .ok (.ifCond .lt 17, 3) := by decide +kernel
theorem dX8_held_4 : decode cX8_held 4 = .ok (.iload_n 1, 1) := by decide +kernel
theorem dX8_held_5 : decode cX8_held 5 = .ok (.iconst 4, 1) := by decide +kernel
theorem dX8_held_6 : decode cX8_held 6 = .ok (.if_icmp .ge 12, 3) := by decide +kernel
theorem dX8_held_9 : decode cX8_held 9 = .ok (.iload_n 2, 1) := by decide +kernel
theorem dX8_held_10 : decode cX8_held 10 = .ok (.ifCond .lt 8, 3) := by decide +kernel
theorem dX8_held_13 : decode cX8_held 13 = .ok (.iload_n 2, 1) := by decide +kernel
theorem dX8_held_14 : decode cX8_held 14 = .ok (.iconst 1, 1) := by decide +kernel
theorem dX8_held_15 : decode cX8_held 15 = .ok (.if_icmp .le 10, 3) := by decide +kernel
theorem dX8_held_18 : decode cX8_held 18 = .ok (.aload_n 0, 1) := by decide +kernel
theorem dX8_held_19 : decode cX8_held 19 = .ok (.ldc 62, 2) := by decide +kernel
theorem dX8_held_21 : decode cX8_held 21 = .ok (.invokevirtual 63, 3) := by decide +kernel
theorem dX8_held_24 : decode cX8_held 24 = .ok (.ireturn, 1) := by decide +kernel
theorem dX8_held_25 : decode cX8_held 25 = .ok (.iload_n 2, 1) := by decide +kernel
theorem dX8_held_26 : decode cX8_held 26 = .ok (.ifCond .ne 15, 3) := by decide +kernel
theorem dX8_held_29 : decode cX8_held 29 = .ok (.aload_n 0, 1) := by decide +kernel
theorem dX8_held_30 : decode cX8_held 30 = .ok (.getfield 10, 3) := by decide +kernel
theorem dX8_held_33 : decode cX8_held 33 = .ok (.getfield 131, 3) := by decide +kernel
theorem dX8_held_36 : decode cX8_held 36 = .ok (.iload_n 1, 1) := by decide +kernel
theorem dX8_held_37 : decode cX8_held 37 = .ok (.iaload, 1) := by decide +kernel
theorem dX8_held_38 : decode cX8_held 38 = .ok (.goto 12, 3) := by decide +kernel
theorem dX8_held_41 : decode cX8_held 41 = .ok (.aload_n 0, 1) := by decide +kernel
theorem dX8_held_42 : decode cX8_held 42 = .ok (.getfield 10, 3) := by decide +kernel
theorem dX8_held_45 : decode cX8_held 45 = .ok (.getfield 124, 3) := by decide +kernel
theorem dX8_held_48 : decode cX8_held 48 = .ok (.iload_n 1, 1) := by decide +kernel
theorem dX8_held_49 : decode cX8_held 49 = .ok (.iaload, 1) := by decide +kernel
theorem dX8_held_50 : decode cX8_held 50 = .ok (.ireturn, 1) := by decide +kernel
theorem dX8_dark_0 : decode cX8_dark 0 = .ok (.aload_n 0, 1) := by decide +kernel
theorem dX8_dark_1 : decode cX8_dark 1 = .ok (.getfield 10, 3) := by decide +kernel
theorem dX8_dark_4 : decode cX8_dark 4 = .ok (.invokevirtual 134, 3) := by decide +kernel
theorem dX8_dark_7 : decode cX8_dark 7 = .ok (.lreturn, 1) := by decide +kernel
theorem dX8_single_0 : decode cX8_single 0 = .ok (.aload_n 0, 1) := by decide +kernel
theorem dX8_single_1 : decode cX8_single 1 = .ok (.getfield 10, 3) := by decide +kernel
theorem dX8_single_4 : decode cX8_single 4 = .ok (.invokevirtual 138, 3) := by decide +kernel
theorem dX8_single_7 : decode cX8_single 7 = .ok (.lreturn, 1) := by decide +kernel
theorem dX8_spare_0 : decode cX8_spare 0 = .ok (.aload_n 0, 1) := by decide +kernel
theorem dX8_spare_1 : decode cX8_spare 1 = .ok (.getfield 10, 3) := by decide +kernel
theorem dX8_spare_4 : decode cX8_spare 4 = .ok (.invokevirtual 138, 3) := by decide +kernel
theorem dX8_spare_7 : decode cX8_spare 7 = .ok (.lstore_n 1, 1) := by decide +kernel
theorem dX8_spare_8 : decode cX8_spare 8 = .ok (.iconst 0, 1) := by decide +kernel
theorem dX8_spare_9 : decode cX8_spare 9 = .ok (.istore_n 3, 1) := by decide +kernel
theorem dX8_spare_10 : decode cX8_spare 10 = .ok (.iload_n 3, 1) := by decide +kernel
theorem dX8_spare_11 : decode cX8_spare 11 = .ok (.aload_n 0, 1) := by decide +kernel
theorem dX8_spare_12 : decode cX8_spare 12 = .ok (.getfield 10, 3) := by decide +kernel
theorem dX8_spare_15 : decode cX8_spare 15 = .ok (.getfield 141, 3) := by decide +kernel
theorem dX8_spare_18 : decode cX8_spare 18 = .ok (.if_icmp .ge 53, 3) := by decide +kernel
theorem dX8_spare_21 : decode cX8_spare 21 = .ok (.aload_n 0, 1) := by decide +kernel
theorem dX8_spare_22 : decode cX8_spare 22 = .ok (.getfield 10, 3) := by decide +kernel
theorem dX8_spare_25 : decode cX8_spare 25 = .ok (.iload_n 3, 1) := by decide +kernel
theorem dX8_spare_26 : decode cX8_spare 26 = .ok (.invokevirtual 88, 3) := by decide +kernel
theorem dX8_spare_29 : decode cX8_spare 29 = .ok (.istore 4, 2) := by decide +kernel
theorem dX8_spare_31 : decode cX8_spare 31 = .ok (.iload 4, 2) := by decide +kernel
theorem dX8_spare_33 : decode cX8_spare 33 = .ok (.ifCond .lt 32, 3) := by decide +kernel
theorem dX8_spare_36 : decode cX8_spare 36 = .ok (.aload_n 0, 1) := by decide +kernel
theorem dX8_spare_37 : decode cX8_spare 37 = .ok (.getfield 10, 3) := by decide +kernel
theorem dX8_spare_40 : decode cX8_spare 40 = .ok (.iload_n 3, 1) := by decide +kernel
theorem dX8_spare_41 : decode cX8_spare 41 = .ok (.invokevirtual 85, 3) := by decide +kernel
theorem dX8_spare_44 : decode cX8_spare 44 = .ok (.ifCond .ne 21, 3) := by decide +kernel
theorem dX8_spare_47 : decode cX8_spare 47 = .ok (.aload_n 0, 1) := by decide +kernel
theorem dX8_spare_48 : decode cX8_spare 48 = .ok (.getfield 10, 3) := by decide +kernel
theorem dX8_spare_51 : decode cX8_spare 51 = .ok (.iload 4, 2) := by decide +kernel
theorem dX8_spare_53 : decode cX8_spare 53 = .ok (.invokevirtual 145, 3) := by decide +kernel
theorem dX8_spare_56 : decode cX8_spare 56 = .ok (.lload_n 1, 1) := by decide +kernel
theorem dX8_spare_57 : decode cX8_spare 57 = .ok (.land, 1) := by decide +kernel
theorem dX8_spare_58 : decode cX8_spare 58 = .ok (.lconst 0, 1) := by decide +kernel
theorem dX8_spare_59 : decode cX8_spare 59 = .ok (.lcmp, 1) := by decide +kernel
theorem dX8_spare_60 : decode cX8_spare 60 = .ok (.ifCond .ne 5, 3) := by decide +kernel
theorem dX8_spare_63 : decode cX8_spare 63 = .ok (.iload_n 3, 1) := by decide +kernel
theorem dX8_spare_64 : decode cX8_spare 64 = .ok (.ireturn, 1) := by decide +kernel
theorem dX8_spare_65 : decode cX8_spare 65 = .ok (.iinc 3 1, 3) := by decide +kernel
theorem dX8_spare_68 : decode cX8_spare 68 = .ok (.goto (-58), 3) := by decide +kernel
theorem dX8_spare_71 : decode cX8_spare 71 = .ok (.aload_n 0, 1) := by decide +kernel
theorem dX8_spare_72 : decode cX8_spare 72 = .ok (.ldc 149, 2) := by decide +kernel
theorem dX8_spare_74 : decode cX8_spare 74 = .ok (.invokevirtual 63, 3) := by decide +kernel
theorem dX8_spare_77 : decode cX8_spare 77 = .ok (.ireturn, 1) := by decide +kernel
theorem dX8_scene_0 : decode cX8_scene 0 = .ok (.aload_n 0, 1) := by decide +kernel
theorem dX8_scene_1 : decode cX8_scene 1 = .ok (.getfield 10, 3) := by decide +kernel
theorem dX8_scene_4 : decode cX8_scene 4 = .ok (.invokevirtual 150, 3) := by decide +kernel
theorem dX8_scene_7 : decode cX8_scene 7 = .ok (.ifCond .ne 10, 3) := by decide +kernel
theorem dX8_scene_10 : decode cX8_scene 10 = .ok (.aload_n 0, 1) := by decide +kernel
theorem dX8_scene_11 : decode cX8_scene 11 = .ok (.ldc 71, 2) := by decide +kernel
theorem dX8_scene_13 : decode cX8_scene 13 = .ok (.invokevirtual 63, 3) := by decide +kernel
theorem dX8_scene_16 : decode cX8_scene 16 = .ok (.ireturn, 1) := by decide +kernel
theorem dX8_scene_17 : decode cX8_scene 17 = .ok (.aload_n 0, 1) := by decide +kernel
theorem dX8_scene_18 : decode cX8_scene 18 = .ok (.getfield 10, 3) := by decide +kernel
theorem dX8_scene_21 : decode cX8_scene 21 = .ok (.lload_n 1, 1) := by decide +kernel
theorem dX8_scene_22 : decode cX8_scene 22 = .ok (.invokevirtual 153, 3) := by decide +kernel
theorem dX8_scene_25 : decode cX8_scene 25 = .ok (.ireturn, 1) := by decide +kernel
theorem dX8_draw_0 : decode cX8_draw 0 = .ok (.aload_n 0, 1) := by decide +kernel
theorem dX8_draw_1 : decode cX8_draw 1 = .ok (.getfield 10, 3) := by decide +kernel
theorem dX8_draw_4 : decode cX8_draw 4 = .ok (.iload_n 1, 1) := by decide +kernel
theorem dX8_draw_5 : decode cX8_draw 5 = .ok (.invokevirtual 157, 3) := by decide +kernel
theorem dX8_draw_8 : decode cX8_draw 8 = .ok (.ifCond .ne 10, 3) := by decide +kernel
theorem dX8_draw_11 : decode cX8_draw 11 = .ok (.aload_n 0, 1) := by decide +kernel
theorem dX8_draw_12 : decode cX8_draw 12 = .ok (.ldc 62, 2) := by decide +kernel
theorem dX8_draw_14 : decode cX8_draw 14 = .ok (.invokevirtual 63, 3) := by decide +kernel
theorem dX8_draw_17 : decode cX8_draw 17 = .ok (.ireturn, 1) := by decide +kernel
theorem dX8_draw_18 : decode cX8_draw 18 = .ok (.aload_n 0, 1) := by decide +kernel
theorem dX8_draw_19 : decode cX8_draw 19 = .ok (.getfield 10, 3) := by decide +kernel
theorem dX8_draw_22 : decode cX8_draw 22 = .ok (.getfield 160, 3) := by decide +kernel
theorem dX8_draw_25 : decode cX8_draw 25 = .ok (.iload_n 1, 1) := by decide +kernel
theorem dX8_draw_26 : decode cX8_draw 26 = .ok (.laload, 1) := by decide +kernel
theorem dX8_draw_27 : decode cX8_draw 27 = .ok (.lstore_n 2, 1) := by decide +kernel
theorem dX8_draw_28 : decode cX8_draw 28 = .ok (.aload_n 0, 1) := by decide +kernel
theorem dX8_draw_29 : decode cX8_draw 29 = .ok (.getfield 10, 3) := by decide +kernel
theorem dX8_draw_32 : decode cX8_draw 32 = .ok (.getfield 160, 3) := by decide +kernel
theorem dX8_draw_35 : decode cX8_draw 35 = .ok (.iload_n 1, 1) := by decide +kernel
theorem dX8_draw_36 : decode cX8_draw 36 = .ok (.aload_n 0, 1) := by decide +kernel
theorem dX8_draw_37 : decode cX8_draw 37 = .ok (.getfield 10, 3) := by decide +kernel
theorem dX8_draw_40 : decode cX8_draw 40 = .ok (.invokevirtual 134, 3) := by decide +kernel
theorem dX8_draw_43 : decode cX8_draw 43 = .ok (.lastore, 1) := by decide +kernel
theorem dX8_draw_44 : decode cX8_draw 44 = .ok (.lload_n 2, 1) := by decide +kernel
theorem dX8_draw_45 : decode cX8_draw 45 = .ok (.aload_n 0, 1) := by decide +kernel
theorem dX8_draw_46 : decode cX8_draw 46 = .ok (.getfield 10, 3) := by decide +kernel
theorem dX8_draw_49 : decode cX8_draw 49 = .ok (.getfield 160, 3) := by decide +kernel
theorem dX8_draw_52 : decode cX8_draw 52 = .ok (.iload_n 1, 1) := by decide +kernel
theorem dX8_draw_53 : decode cX8_draw 53 = .ok (.laload, 1) := by decide +kernel
theorem dX8_draw_54 : decode cX8_draw 54 = .ok (.invokestatic 164, 3) := by decide +kernel
theorem dX8_draw_57 : decode cX8_draw 57 = .ok (.ireturn, 1) := by decide +kernel
theorem dX8_picture_0 : decode cX8_picture 0 = .ok (.aload_n 0, 1) := by decide +kernel
theorem dX8_picture_1 : decode cX8_picture 1 = .ok (.getfield 10, 3) := by decide +kernel
theorem dX8_picture_4 : decode cX8_picture 4 = .ok (.iload_n 1, 1) := by decide +kernel
theorem dX8_picture_5 : decode cX8_picture 5 = .ok (.invokevirtual 157, 3) := by decide +kernel
theorem dX8_picture_8 : decode cX8_picture 8 = .ok (.ifCond .ne 11, 3) := by decide +kernel
theorem dX8_picture_11 : decode cX8_picture 11 = .ok (.aload_n 0, 1) := by decide +kernel
theorem dX8_picture_12 : decode cX8_picture 12 = .ok (.ldc 62, 2) := by decide +kernel
theorem dX8_picture_14 : decode cX8_picture 14 = .ok (.invokevirtual 63, 3) := by decide +kernel
theorem dX8_picture_17 : decode cX8_picture 17 = .ok (.i2l, 1) := by decide +kernel
theorem dX8_picture_18 : decode cX8_picture 18 = .ok (.lreturn, 1) := by decide +kernel
theorem dX8_picture_19 : decode cX8_picture 19 = .ok (.aload_n 0, 1) := by decide +kernel
theorem dX8_picture_20 : decode cX8_picture 20 = .ok (.getfield 10, 3) := by decide +kernel
theorem dX8_picture_23 : decode cX8_picture 23 = .ok (.getfield 160, 3) := by decide +kernel
theorem dX8_picture_26 : decode cX8_picture 26 = .ok (.iload_n 1, 1) := by decide +kernel
theorem dX8_picture_27 : decode cX8_picture 27 = .ok (.laload, 1) := by decide +kernel
theorem dX8_picture_28 : decode cX8_picture 28 = .ok (.lreturn, 1) := by decide +kernel
theorem dX8_off_0 : decode cX8_off 0 = .ok (.aload_n 0, 1) := by decide +kernel
theorem dX8_off_1 : decode cX8_off 1 = .ok (.getfield 10, 3) := by decide +kernel
theorem dX8_off_4 : decode cX8_off 4 = .ok (.iload_n 1, 1) := by decide +kernel
theorem dX8_off_5 : decode cX8_off 5 = .ok (.invokevirtual 157, 3) := by decide +kernel
theorem dX8_off_8 : decode cX8_off 8 = .ok (.ifCond .ne 10, 3) := by decide +kernel
theorem dX8_off_11 : decode cX8_off 11 = .ok (.aload_n 0, 1) := by decide +kernel
theorem dX8_off_12 : decode cX8_off 12 = .ok (.ldc 62, 2) := by decide +kernel
theorem dX8_off_14 : decode cX8_off 14 = .ok (.invokevirtual 63, 3) := by decide +kernel
theorem dX8_off_17 : decode cX8_off 17 = .ok (.ireturn, 1) := by decide +kernel
theorem dX8_off_18 : decode cX8_off 18 = .ok (.aload_n 0, 1) := by decide +kernel
theorem dX8_off_19 : decode cX8_off 19 = .ok (.getfield 10, 3) := by decide +kernel
theorem dX8_off_22 : decode cX8_off 22 = .ok (.invokevirtual 134, 3) := by decide +kernel
theorem dX8_off_25 : decode cX8_off 25 = .ok (.aload_n 0, 1) := by decide +kernel
theorem dX8_off_26 : decode cX8_off 26 = .ok (.getfield 10, 3) := by decide +kernel
theorem dX8_off_29 : decode cX8_off 29 = .ok (.getfield 160, 3) := by decide +kernel
theorem dX8_off_32 : decode cX8_off 32 = .ok (.iload_n 1, 1) := by decide +kernel
theorem dX8_off_33 : decode cX8_off 33 = .ok (.laload, 1) := by decide +kernel
theorem dX8_off_34 : decode cX8_off 34 = .ok (.invokestatic 164, 3) := by decide +kernel
theorem dX8_off_37 : decode cX8_off 37 = .ok (.ireturn, 1) := by decide +kernel
theorem dX8_changes_0 : decode cX8_changes 0 = .ok (.aload_n 0, 1) := by decide +kernel
theorem dX8_changes_1 : decode cX8_changes 1 = .ok (.getfield 10, 3) := by decide +kernel
theorem dX8_changes_4 : decode cX8_changes 4 = .ok (.iload_n 1, 1) := by decide +kernel
theorem dX8_changes_5 : decode cX8_changes 5 = .ok (.invokevirtual 157, 3) := by decide +kernel
theorem dX8_changes_8 : decode cX8_changes 8 = .ok (.ifCond .eq 14, 3) := by decide +kernel
theorem dX8_changes_11 : decode cX8_changes 11 = .ok (.aload_n 0, 1) := by decide +kernel
theorem dX8_changes_12 : decode cX8_changes 12 = .ok (.getfield 10, 3) := by decide +kernel
theorem dX8_changes_15 : decode cX8_changes 15 = .ok (.iload_n 2, 1) := by decide +kernel
theorem dX8_changes_16 : decode cX8_changes 16 = .ok (.invokevirtual 157, 3) := by decide +kernel
theorem dX8_changes_19 : decode cX8_changes 19 = .ok (.ifCond .ne 10, 3) := by decide +kernel
theorem dX8_changes_22 : decode cX8_changes 22 = .ok (.aload_n 0, 1) := by decide +kernel
theorem dX8_changes_23 : decode cX8_changes 23 = .ok (.ldc 62, 2) := by decide +kernel
theorem dX8_changes_25 : decode cX8_changes 25 = .ok (.invokevirtual 63, 3) := by decide +kernel
theorem dX8_changes_28 : decode cX8_changes 28 = .ok (.ireturn, 1) := by decide +kernel
theorem dX8_changes_29 : decode cX8_changes 29 = .ok (.aload_n 0, 1) := by decide +kernel
theorem dX8_changes_30 : decode cX8_changes 30 = .ok (.getfield 10, 3) := by decide +kernel
theorem dX8_changes_33 : decode cX8_changes 33 = .ok (.iload_n 1, 1) := by decide +kernel
theorem dX8_changes_34 : decode cX8_changes 34 = .ok (.iload_n 2, 1) := by decide +kernel
theorem dX8_changes_35 : decode cX8_changes 35 = .ok (.invokevirtual 168, 3) := by decide +kernel
theorem dX8_changes_38 : decode cX8_changes 38 = .ok (.ireturn, 1) := by decide +kernel
theorem dX8_allow_0 : decode cX8_allow 0 = .ok (.iload_n 1, 1) := by decide +kernel
theorem dX8_allow_1 : decode cX8_allow 1 = .ok (.ifCond .lt 22, 3) := by decide +kernel
theorem dX8_allow_4 : decode cX8_allow 4 = .ok (.iload_n 1, 1) := by decide +kernel
theorem dX8_allow_5 : decode cX8_allow 5 = .ok (.bipush 63, 2) := by decide +kernel
theorem dX8_allow_7 : decode cX8_allow 7 = .ok (.if_icmp .gt 16, 3) := by decide +kernel
theorem dX8_allow_10 : decode cX8_allow 10 = .ok (.iload_n 1, 1) := by decide +kernel
theorem dX8_allow_11 : decode cX8_allow 11 = .ok (.bipush 15, 2) := by decide +kernel
theorem dX8_allow_13 : decode cX8_allow 13 = .ok (.iand, 1) := by decide +kernel
theorem dX8_allow_14 : decode cX8_allow 14 = .ok (.ifCond .eq 9, 3) := by decide +kernel
theorem dX8_allow_17 : decode cX8_allow 17 = .ok (.iload_n 1, 1) := by decide +kernel
theorem dX8_allow_18 : decode cX8_allow 18 = .ok (.iconst 4, 1) := by decide +kernel
theorem dX8_allow_19 : decode cX8_allow 19 = .ok (.ishr, 1) := by decide +kernel
theorem dX8_allow_20 : decode cX8_allow 20 = .ok (.ifCond .ne 10, 3) := by decide +kernel
theorem dX8_allow_23 : decode cX8_allow 23 = .ok (.aload_n 0, 1) := by decide +kernel
theorem dX8_allow_24 : decode cX8_allow 24 = .ok (.ldc 62, 2) := by decide +kernel
theorem dX8_allow_26 : decode cX8_allow 26 = .ok (.invokevirtual 63, 3) := by decide +kernel
theorem dX8_allow_29 : decode cX8_allow 29 = .ok (.ireturn, 1) := by decide +kernel
theorem dX8_allow_30 : decode cX8_allow 30 = .ok (.aload_n 0, 1) := by decide +kernel
theorem dX8_allow_31 : decode cX8_allow 31 = .ok (.getfield 10, 3) := by decide +kernel
theorem dX8_allow_34 : decode cX8_allow 34 = .ok (.getfield 171, 3) := by decide +kernel
theorem dX8_allow_37 : decode cX8_allow 37 = .ok (.istore_n 2, 1) := by decide +kernel
theorem dX8_allow_38 : decode cX8_allow 38 = .ok (.aload_n 0, 1) := by decide +kernel
theorem dX8_allow_39 : decode cX8_allow 39 = .ok (.getfield 10, 3) := by decide +kernel
theorem dX8_allow_42 : decode cX8_allow 42 = .ok (.iload_n 1, 1) := by decide +kernel
theorem dX8_allow_43 : decode cX8_allow 43 = .ok (.putfield 171, 3) := by decide +kernel
theorem dX8_allow_46 : decode cX8_allow 46 = .ok (.iload_n 2, 1) := by decide +kernel
theorem dX8_allow_47 : decode cX8_allow 47 = .ok (.ireturn, 1) := by decide +kernel
theorem dX8_nearest_0 : decode cX8_nearest 0 = .ok (.aload_n 0, 1) := by decide +kernel
theorem dX8_nearest_1 : decode cX8_nearest 1 = .ok (.getfield 10, 3) := by decide +kernel
theorem dX8_nearest_4 : decode cX8_nearest 4 = .ok (.iload_n 1, 1) := by decide +kernel
theorem dX8_nearest_5 : decode cX8_nearest 5 = .ok (.invokevirtual 76, 3) := by decide +kernel
theorem dX8_nearest_8 : decode cX8_nearest 8 = .ok (.ifCond .eq 23, 3) := by decide +kernel
theorem dX8_nearest_11 : decode cX8_nearest 11 = .ok (.aload_n 0, 1) := by decide +kernel
theorem dX8_nearest_12 : decode cX8_nearest 12 = .ok (.getfield 10, 3) := by decide +kernel
theorem dX8_nearest_15 : decode cX8_nearest 15 = .ok (.iload_n 2, 1) := by decide +kernel
theorem dX8_nearest_16 : decode cX8_nearest 16 = .ok (.invokevirtual 157, 3) := by decide +kernel
theorem dX8_nearest_19 : decode cX8_nearest 19 = .ok (.ifCond .eq 12, 3) := by decide +kernel
theorem dX8_nearest_22 : decode cX8_nearest 22 = .ok (.iload_n 3, 1) := by decide +kernel
theorem dX8_nearest_23 : decode cX8_nearest 23 = .ok (.ifCond .lt 8, 3) := by decide +kernel
theorem dX8_nearest_26 : decode cX8_nearest 26 = .ok (.iload_n 3, 1) := by decide +kernel
theorem dX8_nearest_27 : decode cX8_nearest 27 = .ok (.iconst 1, 1) := by decide +kernel
theorem dX8_nearest_28 : decode cX8_nearest 28 = .ok (.if_icmp .le 10, 3) := by decide +kernel
theorem dX8_nearest_31 : decode cX8_nearest 31 = .ok (.aload_n 0, 1) := by decide +kernel
theorem dX8_nearest_32 : decode cX8_nearest 32 = .ok (.ldc 62, 2) := by decide +kernel
theorem dX8_nearest_34 : decode cX8_nearest 34 = .ok (.invokevirtual 63, 3) := by decide +kernel
theorem dX8_nearest_37 : decode cX8_nearest 37 = .ok (.ireturn, 1) := by decide +kernel
theorem dX8_nearest_38 : decode cX8_nearest 38 = .ok (.aload_n 0, 1) := by decide +kernel
theorem dX8_nearest_39 : decode cX8_nearest 39 = .ok (.getfield 22, 3) := by decide +kernel
theorem dX8_nearest_42 : decode cX8_nearest 42 = .ok (.aload_n 0, 1) := by decide +kernel
theorem dX8_nearest_43 : decode cX8_nearest 43 = .ok (.getfield 10, 3) := by decide +kernel
theorem dX8_nearest_46 : decode cX8_nearest 46 = .ok (.iload_n 1, 1) := by decide +kernel
theorem dX8_nearest_47 : decode cX8_nearest 47 = .ok (.lconst 0, 1) := by decide +kernel
theorem dX8_nearest_48 : decode cX8_nearest 48 = .ok (.aload_n 0, 1) := by decide +kernel
theorem dX8_nearest_49 : decode cX8_nearest 49 = .ok (.getfield 10, 3) := by decide +kernel
theorem dX8_nearest_52 : decode cX8_nearest 52 = .ok (.getfield 160, 3) := by decide +kernel
theorem dX8_nearest_55 : decode cX8_nearest 55 = .ok (.iload_n 2, 1) := by decide +kernel
theorem dX8_nearest_56 : decode cX8_nearest 56 = .ok (.laload, 1) := by decide +kernel
theorem dX8_nearest_57 : decode cX8_nearest 57 = .ok (.invokevirtual 174, 3) := by decide +kernel
theorem dX8_nearest_60 : decode cX8_nearest 60 = .ok (.iload_n 3, 1) := by decide +kernel
theorem dX8_nearest_61 : decode cX8_nearest 61 = .ok (.ifCond .ne 13, 3) := by decide +kernel
theorem dX8_nearest_64 : decode cX8_nearest 64 = .ok (.aload_n 0, 1) := by decide +kernel
theorem dX8_nearest_65 : decode cX8_nearest 65 = .ok (.getfield 22, 3) := by decide +kernel
theorem dX8_nearest_68 : decode cX8_nearest 68 = .ok (.getfield 178, 3) := by decide +kernel
theorem dX8_nearest_71 : decode cX8_nearest 71 = .ok (.goto 10, 3) := by decide +kernel
theorem dX8_nearest_74 : decode cX8_nearest 74 = .ok (.aload_n 0, 1) := by decide +kernel
theorem dX8_nearest_75 : decode cX8_nearest 75 = .ok (.getfield 22, 3) := by decide +kernel
theorem dX8_nearest_78 : decode cX8_nearest 78 = .ok (.getfield 181, 3) := by decide +kernel
theorem dX8_nearest_81 : decode cX8_nearest 81 = .ok (.ireturn, 1) := by decide +kernel
theorem dX8_best_0 : decode cX8_best 0 = .ok (.aload_n 0, 1) := by decide +kernel
theorem dX8_best_1 : decode cX8_best 1 = .ok (.getfield 10, 3) := by decide +kernel
theorem dX8_best_4 : decode cX8_best 4 = .ok (.iload_n 1, 1) := by decide +kernel
theorem dX8_best_5 : decode cX8_best 5 = .ok (.invokevirtual 157, 3) := by decide +kernel
theorem dX8_best_8 : decode cX8_best 8 = .ok (.ifCond .ne 10, 3) := by decide +kernel
theorem dX8_best_11 : decode cX8_best 11 = .ok (.aload_n 0, 1) := by decide +kernel
theorem dX8_best_12 : decode cX8_best 12 = .ok (.ldc 62, 2) := by decide +kernel
theorem dX8_best_14 : decode cX8_best 14 = .ok (.invokevirtual 63, 3) := by decide +kernel
theorem dX8_best_17 : decode cX8_best 17 = .ok (.ireturn, 1) := by decide +kernel
theorem dX8_best_18 : decode cX8_best 18 = .ok (.aload_n 0, 1) := by decide +kernel
theorem dX8_best_19 : decode cX8_best 19 = .ok (.getfield 22, 3) := by decide +kernel
theorem dX8_best_22 : decode cX8_best 22 = .ok (.aload_n 0, 1) := by decide +kernel
theorem dX8_best_23 : decode cX8_best 23 = .ok (.getfield 10, 3) := by decide +kernel
theorem dX8_best_26 : decode cX8_best 26 = .ok (.iload_n 1, 1) := by decide +kernel
theorem dX8_best_27 : decode cX8_best 27 = .ok (.invokevirtual 184, 3) := by decide +kernel
theorem dX8_best_30 : decode cX8_best 30 = .ok (.istore_n 2, 1) := by decide +kernel
theorem dX8_best_31 : decode cX8_best 31 = .ok (.iload_n 2, 1) := by decide +kernel
theorem dX8_best_32 : decode cX8_best 32 = .ok (.ifCond .ne 10, 3) := by decide +kernel
theorem dX8_best_35 : decode cX8_best 35 = .ok (.aload_n 0, 1) := by decide +kernel
theorem dX8_best_36 : decode cX8_best 36 = .ok (.ldc 149, 2) := by decide +kernel
theorem dX8_best_38 : decode cX8_best 38 = .ok (.invokevirtual 63, 3) := by decide +kernel
theorem dX8_best_41 : decode cX8_best 41 = .ok (.ireturn, 1) := by decide +kernel
theorem dX8_best_42 : decode cX8_best 42 = .ok (.iload_n 2, 1) := by decide +kernel
theorem dX8_best_43 : decode cX8_best 43 = .ok (.invokestatic 188, 3) := by decide +kernel
theorem dX8_best_46 : decode cX8_best 46 = .ok (.ireturn, 1) := by decide +kernel
theorem dX8_play_0 : decode cX8_play 0 = .ok (.aload_n 0, 1) := by decide +kernel
theorem dX8_play_1 : decode cX8_play 1 = .ok (.getfield 10, 3) := by decide +kernel
theorem dX8_play_4 : decode cX8_play 4 = .ok (.iload_n 1, 1) := by decide +kernel
theorem dX8_play_5 : decode cX8_play 5 = .ok (.invokevirtual 157, 3) := by decide +kernel
theorem dX8_play_8 : decode cX8_play 8 = .ok (.ifCond .ne 10, 3) := by decide +kernel
theorem dX8_play_11 : decode cX8_play 11 = .ok (.aload_n 0, 1) := by decide +kernel
theorem dX8_play_12 : decode cX8_play 12 = .ok (.ldc 62, 2) := by decide +kernel
theorem dX8_play_14 : decode cX8_play 14 = .ok (.invokevirtual 63, 3) := by decide +kernel
theorem dX8_play_17 : decode cX8_play 17 = .ok (.ireturn, 1) := by decide +kernel
theorem dX8_play_18 : decode cX8_play 18 = .ok (.aload_n 0, 1) := by decide +kernel
theorem dX8_play_19 : decode cX8_play 19 = .ok (.getfield 10, 3) := by decide +kernel
theorem dX8_play_22 : decode cX8_play 22 = .ok (.invokevirtual 193, 3) := by decide +kernel
theorem dX8_play_25 : decode cX8_play 25 = .ok (.aload_n 0, 1) := by decide +kernel
theorem dX8_play_26 : decode cX8_play 26 = .ok (.getfield 10, 3) := by decide +kernel
theorem dX8_play_29 : decode cX8_play 29 = .ok (.getfield 160, 3) := by decide +kernel
theorem dX8_play_32 : decode cX8_play 32 = .ok (.iload_n 1, 1) := by decide +kernel
theorem dX8_play_33 : decode cX8_play 33 = .ok (.laload, 1) := by decide +kernel
theorem dX8_play_34 : decode cX8_play 34 = .ok (.lstore_n 2, 1) := by decide +kernel
theorem dX8_play_35 : decode cX8_play 35 = .ok (.iconst 0, 1) := by decide +kernel
theorem dX8_play_36 : decode cX8_play 36 = .ok (.istore 4, 2) := by decide +kernel
theorem dX8_play_38 : decode cX8_play 38 = .ok (.iload 4, 2) := by decide +kernel
theorem dX8_play_40 : decode cX8_play 40 = .ok (.iconst 4, 1) := by decide +kernel
theorem dX8_play_41 : decode cX8_play 41 = .ok (.if_icmp .ge 36, 3) := by decide +kernel
theorem dX8_play_44 : decode cX8_play 44 = .ok (.aload_n 0, 1) := by decide +kernel
theorem dX8_play_45 : decode cX8_play 45 = .ok (.getfield 22, 3) := by decide +kernel
theorem dX8_play_48 : decode cX8_play 48 = .ok (.aload_n 0, 1) := by decide +kernel
theorem dX8_play_49 : decode cX8_play 49 = .ok (.getfield 10, 3) := by decide +kernel
theorem dX8_play_52 : decode cX8_play 52 = .ok (.iload 4, 2) := by decide +kernel
theorem dX8_play_54 : decode cX8_play 54 = .ok (.aload_n 0, 1) := by decide +kernel
theorem dX8_play_55 : decode cX8_play 55 = .ok (.getfield 10, 3) := by decide +kernel
theorem dX8_play_58 : decode cX8_play 58 = .ok (.invokevirtual 134, 3) := by decide +kernel
theorem dX8_play_61 : decode cX8_play 61 = .ok (.lload_n 2, 1) := by decide +kernel
theorem dX8_play_62 : decode cX8_play 62 = .ok (.invokevirtual 196, 3) := by decide +kernel
theorem dX8_play_65 : decode cX8_play 65 = .ok (.ifCond .ne 6, 3) := by decide +kernel
theorem dX8_play_68 : decode cX8_play 68 = .ok (.goto 9, 3) := by decide +kernel
theorem dX8_play_71 : decode cX8_play 71 = .ok (.iinc 4 1, 3) := by decide +kernel
theorem dX8_play_74 : decode cX8_play 74 = .ok (.goto (-36), 3) := by decide +kernel
theorem dX8_play_77 : decode cX8_play 77 = .ok (.aload_n 0, 1) := by decide +kernel
theorem dX8_play_78 : decode cX8_play 78 = .ok (.getfield 10, 3) := by decide +kernel
theorem dX8_play_81 : decode cX8_play 81 = .ok (.invokevirtual 134, 3) := by decide +kernel
theorem dX8_play_84 : decode cX8_play 84 = .ok (.lload_n 2, 1) := by decide +kernel
theorem dX8_play_85 : decode cX8_play 85 = .ok (.invokestatic 164, 3) := by decide +kernel
theorem dX8_play_88 : decode cX8_play 88 = .ok (.ireturn, 1) := by decide +kernel
theorem dX8_fits_0 : decode cX8_fits 0 = .ok (.aload_n 0, 1) := by decide +kernel
theorem dX8_fits_1 : decode cX8_fits 1 = .ok (.getfield 10, 3) := by decide +kernel
theorem dX8_fits_4 : decode cX8_fits 4 = .ok (.iload_n 1, 1) := by decide +kernel
theorem dX8_fits_5 : decode cX8_fits 5 = .ok (.invokevirtual 76, 3) := by decide +kernel
theorem dX8_fits_8 : decode cX8_fits 8 = .ok (.ifCond .eq 14, 3) := by decide +kernel
theorem dX8_fits_11 : decode cX8_fits 11 = .ok (.aload_n 0, 1) := by decide +kernel
theorem dX8_fits_12 : decode cX8_fits 12 = .ok (.getfield 10, 3) := by decide +kernel
theorem dX8_fits_15 : decode cX8_fits 15 = .ok (.iload_n 2, 1) := by decide +kernel
theorem dX8_fits_16 : decode cX8_fits 16 = .ok (.invokevirtual 157, 3) := by decide +kernel
theorem dX8_fits_19 : decode cX8_fits 19 = .ok (.ifCond .ne 10, 3) := by decide +kernel
theorem dX8_fits_22 : decode cX8_fits 22 = .ok (.aload_n 0, 1) := by decide +kernel
theorem dX8_fits_23 : decode cX8_fits 23 = .ok (.ldc 62, 2) := by decide +kernel
theorem dX8_fits_25 : decode cX8_fits 25 = .ok (.invokevirtual 63, 3) := by decide +kernel
theorem dX8_fits_28 : decode cX8_fits 28 = .ok (.ireturn, 1) := by decide +kernel
theorem dX8_fits_29 : decode cX8_fits 29 = .ok (.aload_n 0, 1) := by decide +kernel
theorem dX8_fits_30 : decode cX8_fits 30 = .ok (.getfield 22, 3) := by decide +kernel
theorem dX8_fits_33 : decode cX8_fits 33 = .ok (.aload_n 0, 1) := by decide +kernel
theorem dX8_fits_34 : decode cX8_fits 34 = .ok (.getfield 10, 3) := by decide +kernel
theorem dX8_fits_37 : decode cX8_fits 37 = .ok (.iload_n 1, 1) := by decide +kernel
theorem dX8_fits_38 : decode cX8_fits 38 = .ok (.aload_n 0, 1) := by decide +kernel
theorem dX8_fits_39 : decode cX8_fits 39 = .ok (.getfield 10, 3) := by decide +kernel
theorem dX8_fits_42 : decode cX8_fits 42 = .ok (.getfield 160, 3) := by decide +kernel
theorem dX8_fits_45 : decode cX8_fits 45 = .ok (.iload_n 2, 1) := by decide +kernel
theorem dX8_fits_46 : decode cX8_fits 46 = .ok (.laload, 1) := by decide +kernel
theorem dX8_fits_47 : decode cX8_fits 47 = .ok (.invokevirtual 200, 3) := by decide +kernel
theorem dX8_fits_50 : decode cX8_fits 50 = .ok (.ireturn, 1) := by decide +kernel
theorem dX8_taken_0 : decode cX8_taken 0 = .ok (.aload_n 0, 1) := by decide +kernel
theorem dX8_taken_1 : decode cX8_taken 1 = .ok (.getfield 10, 3) := by decide +kernel
theorem dX8_taken_4 : decode cX8_taken 4 = .ok (.iload_n 1, 1) := by decide +kernel
theorem dX8_taken_5 : decode cX8_taken 5 = .ok (.invokevirtual 157, 3) := by decide +kernel
theorem dX8_taken_8 : decode cX8_taken 8 = .ok (.ifCond .eq 13, 3) := by decide +kernel
theorem dX8_taken_11 : decode cX8_taken 11 = .ok (.iload_n 2, 1) := by decide +kernel
theorem dX8_taken_12 : decode cX8_taken 12 = .ok (.ifCond .lt 9, 3) := by decide +kernel
theorem dX8_taken_15 : decode cX8_taken 15 = .ok (.iload_n 2, 1) := by decide +kernel
theorem dX8_taken_16 : decode cX8_taken 16 = .ok (.bipush 64, 2) := by decide +kernel
theorem dX8_taken_18 : decode cX8_taken 18 = .ok (.if_icmp .le 10, 3) := by decide +kernel
theorem dX8_taken_21 : decode cX8_taken 21 = .ok (.aload_n 0, 1) := by decide +kernel
theorem dX8_taken_22 : decode cX8_taken 22 = .ok (.ldc 62, 2) := by decide +kernel
theorem dX8_taken_24 : decode cX8_taken 24 = .ok (.invokevirtual 63, 3) := by decide +kernel
theorem dX8_taken_27 : decode cX8_taken 27 = .ok (.ireturn, 1) := by decide +kernel
theorem dX8_taken_28 : decode cX8_taken 28 = .ok (.iconst 0, 1) := by decide +kernel
theorem dX8_taken_29 : decode cX8_taken 29 = .ok (.istore_n 3, 1) := by decide +kernel
theorem dX8_taken_30 : decode cX8_taken 30 = .ok (.iconst 0, 1) := by decide +kernel
theorem dX8_taken_31 : decode cX8_taken 31 = .ok (.istore 4, 2) := by decide +kernel
theorem dX8_taken_33 : decode cX8_taken 33 = .ok (.iload 4, 2) := by decide +kernel
theorem dX8_taken_35 : decode cX8_taken 35 = .ok (.aload_n 0, 1) := by decide +kernel
theorem dX8_taken_36 : decode cX8_taken 36 = .ok (.getfield 10, 3) := by decide +kernel
theorem dX8_taken_39 : decode cX8_taken 39 = .ok (.getfield 204, 3) := by decide +kernel
theorem dX8_taken_42 : decode cX8_taken 42 = .ok (.if_icmp .ge 36, 3) := by decide +kernel
theorem dX8_taken_45 : decode cX8_taken 45 = .ok (.iload 4, 2) := by decide +kernel
theorem dX8_taken_47 : decode cX8_taken 47 = .ok (.iload_n 1, 1) := by decide +kernel
theorem dX8_taken_48 : decode cX8_taken 48 = .ok (.if_icmp .eq 24, 3) := by decide +kernel
theorem dX8_taken_51 : decode cX8_taken 51 = .ok (.aload_n 0, 1) := by decide +kernel
theorem dX8_taken_52 : decode cX8_taken 52 = .ok (.getfield 10, 3) := by decide +kernel
theorem dX8_taken_55 : decode cX8_taken 55 = .ok (.iload_n 1, 1) := by decide +kernel
theorem dX8_taken_56 : decode cX8_taken 56 = .ok (.iload 4, 2) := by decide +kernel
theorem dX8_taken_58 : decode cX8_taken 58 = .ok (.invokevirtual 207, 3) := by decide +kernel
theorem dX8_taken_61 : decode cX8_taken 61 = .ok (.iload_n 2, 1) := by decide +kernel
theorem dX8_taken_62 : decode cX8_taken 62 = .ok (.if_icmp .gt 10, 3) := by decide +kernel
theorem dX8_taken_65 : decode cX8_taken 65 = .ok (.iload_n 3, 1) := by decide +kernel
theorem dX8_taken_66 : decode cX8_taken 66 = .ok (.iconst 1, 1) := by decide +kernel
theorem dX8_taken_67 : decode cX8_taken 67 = .ok (.iload 4, 2) := by decide +kernel
theorem dX8_taken_69 : decode cX8_taken 69 = .ok (.ishl, 1) := by decide +kernel
theorem dX8_taken_70 : decode cX8_taken 70 = .ok (.ior, 1) := by decide +kernel
theorem dX8_taken_71 : decode cX8_taken 71 = .ok (.istore_n 3, 1) := by decide +kernel
theorem dX8_taken_72 : decode cX8_taken 72 = .ok (.iinc 4 1, 3) := by decide +kernel
theorem dX8_taken_75 : decode cX8_taken 75 = .ok (.goto (-42), 3) := by decide +kernel
theorem dX8_taken_78 : decode cX8_taken 78 = .ok (.iload_n 3, 1) := by decide +kernel
theorem dX8_taken_79 : decode cX8_taken 79 = .ok (.ireturn, 1) := by decide +kernel
theorem dX8_seen_0 : decode cX8_seen 0 = .ok (.aload_n 0, 1) := by decide +kernel
theorem dX8_seen_1 : decode cX8_seen 1 = .ok (.getfield 10, 3) := by decide +kernel
theorem dX8_seen_4 : decode cX8_seen 4 = .ok (.invokevirtual 134, 3) := by decide +kernel
theorem dX8_seen_7 : decode cX8_seen 7 = .ok (.lstore_n 1, 1) := by decide +kernel
theorem dX8_seen_8 : decode cX8_seen 8 = .ok (.iconst (-1), 1) := by decide +kernel
theorem dX8_seen_9 : decode cX8_seen 9 = .ok (.istore_n 3, 1) := by decide +kernel
theorem dX8_seen_10 : decode cX8_seen 10 = .ok (.bipush 65, 2) := by decide +kernel
theorem dX8_seen_12 : decode cX8_seen 12 = .ok (.istore 4, 2) := by decide +kernel
theorem dX8_seen_14 : decode cX8_seen 14 = .ok (.iconst 0, 1) := by decide +kernel
theorem dX8_seen_15 : decode cX8_seen 15 = .ok (.istore 5, 2) := by decide +kernel
theorem dX8_seen_17 : decode cX8_seen 17 = .ok (.iload 5, 2) := by decide +kernel
theorem dX8_seen_19 : decode cX8_seen 19 = .ok (.aload_n 0, 1) := by decide +kernel
theorem dX8_seen_20 : decode cX8_seen 20 = .ok (.getfield 10, 3) := by decide +kernel
theorem dX8_seen_23 : decode cX8_seen 23 = .ok (.getfield 204, 3) := by decide +kernel
theorem dX8_seen_26 : decode cX8_seen 26 = .ok (.if_icmp .ge 39, 3) := by decide +kernel
theorem dX8_seen_29 : decode cX8_seen 29 = .ok (.lload_n 1, 1) := by decide +kernel
theorem dX8_seen_30 : decode cX8_seen 30 = .ok (.aload_n 0, 1) := by decide +kernel
theorem dX8_seen_31 : decode cX8_seen 31 = .ok (.getfield 10, 3) := by decide +kernel
theorem dX8_seen_34 : decode cX8_seen 34 = .ok (.getfield 160, 3) := by decide +kernel
theorem dX8_seen_37 : decode cX8_seen 37 = .ok (.iload 5, 2) := by decide +kernel
theorem dX8_seen_39 : decode cX8_seen 39 = .ok (.laload, 1) := by decide +kernel
theorem dX8_seen_40 : decode cX8_seen 40 = .ok (.invokestatic 164, 3) := by decide +kernel
theorem dX8_seen_43 : decode cX8_seen 43 = .ok (.istore 6, 2) := by decide +kernel
theorem dX8_seen_45 : decode cX8_seen 45 = .ok (.iload 6, 2) := by decide +kernel
theorem dX8_seen_47 : decode cX8_seen 47 = .ok (.iload 4, 2) := by decide +kernel
theorem dX8_seen_49 : decode cX8_seen 49 = .ok (.if_icmp .ge 10, 3) := by decide +kernel
theorem dX8_seen_52 : decode cX8_seen 52 = .ok (.iload 6, 2) := by decide +kernel
theorem dX8_seen_54 : decode cX8_seen 54 = .ok (.istore 4, 2) := by decide +kernel
theorem dX8_seen_56 : decode cX8_seen 56 = .ok (.iload 5, 2) := by decide +kernel
theorem dX8_seen_58 : decode cX8_seen 58 = .ok (.istore_n 3, 1) := by decide +kernel
theorem dX8_seen_59 : decode cX8_seen 59 = .ok (.iinc 5 1, 3) := by decide +kernel
theorem dX8_seen_62 : decode cX8_seen 62 = .ok (.goto (-45), 3) := by decide +kernel
theorem dX8_seen_65 : decode cX8_seen 65 = .ok (.iload_n 3, 1) := by decide +kernel
theorem dX8_seen_66 : decode cX8_seen 66 = .ok (.ifCond .ge 12, 3) := by decide +kernel
theorem dX8_seen_69 : decode cX8_seen 69 = .ok (.aload_n 0, 1) := by decide +kernel
theorem dX8_seen_70 : decode cX8_seen 70 = .ok (.ldc 149, 2) := by decide +kernel
theorem dX8_seen_72 : decode cX8_seen 72 = .ok (.invokevirtual 63, 3) := by decide +kernel
theorem dX8_seen_75 : decode cX8_seen 75 = .ok (.goto 4, 3) := by decide +kernel
theorem dX8_seen_78 : decode cX8_seen 78 = .ok (.iload_n 3, 1) := by decide +kernel
theorem dX8_seen_79 : decode cX8_seen 79 = .ok (.ireturn, 1) := by decide +kernel
theorem dX8_order_0 : decode cX8_order 0 = .ok (.iload_n 1, 1) := by decide +kernel
theorem dX8_order_1 : decode cX8_order 1 = .ok (.iconst (-1), 1) := by decide +kernel
theorem dX8_order_2 : decode cX8_order 2 = .ok (.if_icmp .ge 10, 3) := by decide +kernel
theorem dX8_order_5 : decode cX8_order 5 = .ok (.aload_n 0, 1) := by decide +kernel
theorem dX8_order_6 : decode cX8_order 6 = .ok (.ldc 62, 2) := by decide +kernel
theorem dX8_order_8 : decode cX8_order 8 = .ok (.invokevirtual 63, 3) := by decide +kernel
theorem dX8_order_11 : decode cX8_order 11 = .ok (.ireturn, 1) := by decide +kernel
theorem dX8_order_12 : decode cX8_order 12 = .ok (.aload_n 0, 1) := by decide +kernel
theorem dX8_order_13 : decode cX8_order 13 = .ok (.getfield 10, 3) := by decide +kernel
theorem dX8_order_16 : decode cX8_order 16 = .ok (.getfield 204, 3) := by decide +kernel
theorem dX8_order_19 : decode cX8_order 19 = .ok (.bipush 6, 2) := by decide +kernel
theorem dX8_order_21 : decode cX8_order 21 = .ok (.if_icmp .le 10, 3) := by decide +kernel
theorem dX8_order_24 : decode cX8_order 24 = .ok (.aload_n 0, 1) := by decide +kernel
theorem dX8_order_25 : decode cX8_order 25 = .ok (.ldc 210, 2) := by decide +kernel
theorem dX8_order_27 : decode cX8_order 27 = .ok (.invokevirtual 63, 3) := by decide +kernel
theorem dX8_order_30 : decode cX8_order 30 = .ok (.ireturn, 1) := by decide +kernel
theorem dX8_order_31 : decode cX8_order 31 = .ok (.iload_n 1, 1) := by decide +kernel
theorem dX8_order_32 : decode cX8_order 32 = .ok (.aload_n 0, 1) := by decide +kernel
theorem dX8_order_33 : decode cX8_order 33 = .ok (.getfield 10, 3) := by decide +kernel
theorem dX8_order_36 : decode cX8_order 36 = .ok (.getfield 204, 3) := by decide +kernel
theorem dX8_order_39 : decode cX8_order 39 = .ok (.if_icmp .lt 10, 3) := by decide +kernel
theorem dX8_order_42 : decode cX8_order 42 = .ok (.aload_n 0, 1) := by decide +kernel
theorem dX8_order_43 : decode cX8_order 43 = .ok (.ldc 149, 2) := by decide +kernel
theorem dX8_order_45 : decode cX8_order 45 = .ok (.invokevirtual 63, 3) := by decide +kernel
theorem dX8_order_48 : decode cX8_order 48 = .ok (.ireturn, 1) := by decide +kernel
theorem dX8_order_49 : decode cX8_order 49 = .ok (.aload_n 0, 1) := by decide +kernel
theorem dX8_order_50 : decode cX8_order 50 = .ok (.getfield 29, 3) := by decide +kernel
theorem dX8_order_53 : decode cX8_order 53 = .ok (.aload_n 0, 1) := by decide +kernel
theorem dX8_order_54 : decode cX8_order 54 = .ok (.getfield 10, 3) := by decide +kernel
theorem dX8_order_57 : decode cX8_order 57 = .ok (.invokevirtual 211, 3) := by decide +kernel
theorem dX8_order_60 : decode cX8_order 60 = .ok (.iload_n 1, 1) := by decide +kernel
theorem dX8_order_61 : decode cX8_order 61 = .ok (.ifCond .ge 13, 3) := by decide +kernel
theorem dX8_order_64 : decode cX8_order 64 = .ok (.aload_n 0, 1) := by decide +kernel
theorem dX8_order_65 : decode cX8_order 65 = .ok (.getfield 29, 3) := by decide +kernel
theorem dX8_order_68 : decode cX8_order 68 = .ok (.getfield 215, 3) := by decide +kernel
theorem dX8_order_71 : decode cX8_order 71 = .ok (.goto 12, 3) := by decide +kernel
theorem dX8_order_74 : decode cX8_order 74 = .ok (.aload_n 0, 1) := by decide +kernel
theorem dX8_order_75 : decode cX8_order 75 = .ok (.getfield 29, 3) := by decide +kernel
theorem dX8_order_78 : decode cX8_order 78 = .ok (.getfield 218, 3) := by decide +kernel
theorem dX8_order_81 : decode cX8_order 81 = .ok (.iload_n 1, 1) := by decide +kernel
theorem dX8_order_82 : decode cX8_order 82 = .ok (.iaload, 1) := by decide +kernel
theorem dX8_order_83 : decode cX8_order 83 = .ok (.ireturn, 1) := by decide +kernel
theorem dX8_closest_0 : decode cX8_closest 0 = .ok (.bipush 65, 2) := by decide +kernel
theorem dX8_closest_2 : decode cX8_closest 2 = .ok (.istore_n 1, 1) := by decide +kernel
theorem dX8_closest_3 : decode cX8_closest 3 = .ok (.iconst 0, 1) := by decide +kernel
theorem dX8_closest_4 : decode cX8_closest 4 = .ok (.istore_n 2, 1) := by decide +kernel
theorem dX8_closest_5 : decode cX8_closest 5 = .ok (.iload_n 2, 1) := by decide +kernel
theorem dX8_closest_6 : decode cX8_closest 6 = .ok (.aload_n 0, 1) := by decide +kernel
theorem dX8_closest_7 : decode cX8_closest 7 = .ok (.getfield 10, 3) := by decide +kernel
theorem dX8_closest_10 : decode cX8_closest 10 = .ok (.getfield 204, 3) := by decide +kernel
theorem dX8_closest_13 : decode cX8_closest 13 = .ok (.if_icmp .ge 44, 3) := by decide +kernel
theorem dX8_closest_16 : decode cX8_closest 16 = .ok (.iload_n 2, 1) := by decide +kernel
theorem dX8_closest_17 : decode cX8_closest 17 = .ok (.iconst 1, 1) := by decide +kernel
theorem dX8_closest_18 : decode cX8_closest 18 = .ok (.iadd, 1) := by decide +kernel
theorem dX8_closest_19 : decode cX8_closest 19 = .ok (.istore_n 3, 1) := by decide +kernel
theorem dX8_closest_20 : decode cX8_closest 20 = .ok (.iload_n 3, 1) := by decide +kernel
theorem dX8_closest_21 : decode cX8_closest 21 = .ok (.aload_n 0, 1) := by decide +kernel
theorem dX8_closest_22 : decode cX8_closest 22 = .ok (.getfield 10, 3) := by decide +kernel
theorem dX8_closest_25 : decode cX8_closest 25 = .ok (.getfield 204, 3) := by decide +kernel
theorem dX8_closest_28 : decode cX8_closest 28 = .ok (.if_icmp .ge 23, 3) := by decide +kernel
theorem dX8_closest_31 : decode cX8_closest 31 = .ok (.iload_n 1, 1) := by decide +kernel
theorem dX8_closest_32 : decode cX8_closest 32 = .ok (.aload_n 0, 1) := by decide +kernel
theorem dX8_closest_33 : decode cX8_closest 33 = .ok (.getfield 10, 3) := by decide +kernel
theorem dX8_closest_36 : decode cX8_closest 36 = .ok (.iload_n 2, 1) := by decide +kernel
theorem dX8_closest_37 : decode cX8_closest 37 = .ok (.iload_n 3, 1) := by decide +kernel
theorem dX8_closest_38 : decode cX8_closest 38 = .ok (.invokevirtual 207, 3) := by decide +kernel
theorem dX8_closest_41 : decode cX8_closest 41 = .ok (.invokestatic 221, 3) := by decide +kernel
theorem dX8_closest_44 : decode cX8_closest 44 = .ok (.istore_n 1, 1) := by decide +kernel
theorem dX8_closest_45 : decode cX8_closest 45 = .ok (.iinc 3 1, 3) := by decide +kernel
theorem dX8_closest_48 : decode cX8_closest 48 = .ok (.goto (-28), 3) := by decide +kernel
theorem dX8_closest_51 : decode cX8_closest 51 = .ok (.iinc 2 1, 3) := by decide +kernel
theorem dX8_closest_54 : decode cX8_closest 54 = .ok (.goto (-49), 3) := by decide +kernel
theorem dX8_closest_57 : decode cX8_closest 57 = .ok (.iload_n 1, 1) := by decide +kernel
theorem dX8_closest_58 : decode cX8_closest 58 = .ok (.bipush 64, 2) := by decide +kernel
theorem dX8_closest_60 : decode cX8_closest 60 = .ok (.if_icmp .le 12, 3) := by decide +kernel
theorem dX8_closest_63 : decode cX8_closest 63 = .ok (.aload_n 0, 1) := by decide +kernel
theorem dX8_closest_64 : decode cX8_closest 64 = .ok (.ldc 149, 2) := by decide +kernel
theorem dX8_closest_66 : decode cX8_closest 66 = .ok (.invokevirtual 63, 3) := by decide +kernel
theorem dX8_closest_69 : decode cX8_closest 69 = .ok (.goto 4, 3) := by decide +kernel
theorem dX8_closest_72 : decode cX8_closest 72 = .ok (.iload_n 1, 1) := by decide +kernel
theorem dX8_closest_73 : decode cX8_closest 73 = .ok (.ireturn, 1) := by decide +kernel
theorem dX8_harmless_0 : decode cX8_harmless 0 = .ok (.aload_n 0, 1) := by decide +kernel
theorem dX8_harmless_1 : decode cX8_harmless 1 = .ok (.getfield 10, 3) := by decide +kernel
theorem dX8_harmless_4 : decode cX8_harmless 4 = .ok (.invokevirtual 226, 3) := by decide +kernel
theorem dX8_harmless_7 : decode cX8_harmless 7 = .ok (.istore_n 1, 1) := by decide +kernel
theorem dX8_harmless_8 : decode cX8_harmless 8 = .ok (.aload_n 0, 1) := by decide +kernel
theorem dX8_harmless_9 : decode cX8_harmless 9 = .ok (.getfield 10, 3) := by decide +kernel
theorem dX8_harmless_12 : decode cX8_harmless 12 = .ok (.getfield 204, 3) := by decide +kernel
theorem dX8_harmless_15 : decode cX8_harmless 15 = .ok (.ifCond .eq 7, 3) := by decide +kernel
theorem dX8_harmless_18 : decode cX8_harmless 18 = .ok (.iload_n 1, 1) := by decide +kernel
theorem dX8_harmless_19 : decode cX8_harmless 19 = .ok (.ifCond .ne 10, 3) := by decide +kernel
theorem dX8_harmless_22 : decode cX8_harmless 22 = .ok (.aload_n 0, 1) := by decide +kernel
theorem dX8_harmless_23 : decode cX8_harmless 23 = .ok (.ldc 149, 2) := by decide +kernel
theorem dX8_harmless_25 : decode cX8_harmless 25 = .ok (.invokevirtual 63, 3) := by decide +kernel
theorem dX8_harmless_28 : decode cX8_harmless 28 = .ok (.ireturn, 1) := by decide +kernel
theorem dX8_harmless_29 : decode cX8_harmless 29 = .ok (.iconst 0, 1) := by decide +kernel
theorem dX8_harmless_30 : decode cX8_harmless 30 = .ok (.istore_n 2, 1) := by decide +kernel
theorem dX8_harmless_31 : decode cX8_harmless 31 = .ok (.iconst 0, 1) := by decide +kernel
theorem dX8_harmless_32 : decode cX8_harmless 32 = .ok (.istore_n 3, 1) := by decide +kernel
theorem dX8_harmless_33 : decode cX8_harmless 33 = .ok (.iload_n 3, 1) := by decide +kernel
theorem dX8_harmless_34 : decode cX8_harmless 34 = .ok (.aload_n 0, 1) := by decide +kernel
theorem dX8_harmless_35 : decode cX8_harmless 35 = .ok (.getfield 10, 3) := by decide +kernel
theorem dX8_harmless_38 : decode cX8_harmless 38 = .ok (.getfield 204, 3) := by decide +kernel
theorem dX8_harmless_41 : decode cX8_harmless 41 = .ok (.if_icmp .ge 37, 3) := by decide +kernel
theorem dX8_harmless_44 : decode cX8_harmless 44 = .ok (.aload_n 0, 1) := by decide +kernel
theorem dX8_harmless_45 : decode cX8_harmless 45 = .ok (.getfield 22, 3) := by decide +kernel
theorem dX8_harmless_48 : decode cX8_harmless 48 = .ok (.aload_n 0, 1) := by decide +kernel
theorem dX8_harmless_49 : decode cX8_harmless 49 = .ok (.getfield 10, 3) := by decide +kernel
theorem dX8_harmless_52 : decode cX8_harmless 52 = .ok (.iload_n 3, 1) := by decide +kernel
theorem dX8_harmless_53 : decode cX8_harmless 53 = .ok (.invokevirtual 184, 3) := by decide +kernel
theorem dX8_harmless_56 : decode cX8_harmless 56 = .ok (.istore 4, 2) := by decide +kernel
theorem dX8_harmless_58 : decode cX8_harmless 58 = .ok (.iload 4, 2) := by decide +kernel
theorem dX8_harmless_60 : decode cX8_harmless 60 = .ok (.invokestatic 229, 3) := by decide +kernel
theorem dX8_harmless_63 : decode cX8_harmless 63 = .ok (.iconst 1, 1) := by decide +kernel
theorem dX8_harmless_64 : decode cX8_harmless 64 = .ok (.if_icmp .ne 8, 3) := by decide +kernel
theorem dX8_harmless_67 : decode cX8_harmless 67 = .ok (.iload_n 2, 1) := by decide +kernel
theorem dX8_harmless_68 : decode cX8_harmless 68 = .ok (.iload 4, 2) := by decide +kernel
theorem dX8_harmless_70 : decode cX8_harmless 70 = .ok (.ior, 1) := by decide +kernel
theorem dX8_harmless_71 : decode cX8_harmless 71 = .ok (.istore_n 2, 1) := by decide +kernel
theorem dX8_harmless_72 : decode cX8_harmless 72 = .ok (.iinc 3 1, 3) := by decide +kernel
theorem dX8_harmless_75 : decode cX8_harmless 75 = .ok (.goto (-42), 3) := by decide +kernel
theorem dX8_harmless_78 : decode cX8_harmless 78 = .ok (.iload_n 1, 1) := by decide +kernel
theorem dX8_harmless_79 : decode cX8_harmless 79 = .ok (.iload_n 2, 1) := by decide +kernel
theorem dX8_harmless_80 : decode cX8_harmless 80 = .ok (.iconst (-1), 1) := by decide +kernel
theorem dX8_harmless_81 : decode cX8_harmless 81 = .ok (.ixor, 1) := by decide +kernel
theorem dX8_harmless_82 : decode cX8_harmless 82 = .ok (.iand, 1) := by decide +kernel
theorem dX8_harmless_83 : decode cX8_harmless 83 = .ok (.ireturn, 1) := by decide +kernel
theorem dX8_feed_0 : decode cX8_feed 0 = .ok (.iload_n 2, 1) := by decide +kernel
theorem dX8_feed_1 : decode cX8_feed 1 = .ok (.iconst 1, 1) := by decide +kernel
theorem dX8_feed_2 : decode cX8_feed 2 = .ok (.if_icmp .lt 8, 3) := by decide +kernel
theorem dX8_feed_5 : decode cX8_feed 5 = .ok (.iload_n 2, 1) := by decide +kernel
theorem dX8_feed_6 : decode cX8_feed 6 = .ok (.iconst 4, 1) := by decide +kernel
theorem dX8_feed_7 : decode cX8_feed 7 = .ok (.if_icmp .le 10, 3) := by decide +kernel
theorem dX8_feed_10 : decode cX8_feed 10 = .ok (.aload_n 0, 1) := by decide +kernel
theorem dX8_feed_11 : decode cX8_feed 11 = .ok (.ldc 62, 2) := by decide +kernel
theorem dX8_feed_13 : decode cX8_feed 13 = .ok (.invokevirtual 63, 3) := by decide +kernel
theorem dX8_feed_16 : decode cX8_feed 16 = .ok (.ireturn, 1) := by decide +kernel
theorem dX8_feed_17 : decode cX8_feed 17 = .ok (.aload_n 0, 1) := by decide +kernel
theorem dX8_feed_18 : decode cX8_feed 18 = .ok (.getfield 36, 3) := by decide +kernel
theorem dX8_feed_21 : decode cX8_feed 21 = .ok (.getfield 232, 3) := by decide +kernel
theorem dX8_feed_24 : decode cX8_feed 24 = .ok (.iload_n 2, 1) := by decide +kernel
theorem dX8_feed_25 : decode cX8_feed 25 = .ok (.invokevirtual 236, 3) := by decide +kernel
theorem dX8_feed_28 : decode cX8_feed 28 = .ok (.ifCond .ne 10, 3) := by decide +kernel
theorem dX8_feed_31 : decode cX8_feed 31 = .ok (.aload_n 0, 1) := by decide +kernel
theorem dX8_feed_32 : decode cX8_feed 32 = .ok (.ldc 71, 2) := by decide +kernel
theorem dX8_feed_34 : decode cX8_feed 34 = .ok (.invokevirtual 63, 3) := by decide +kernel
theorem dX8_feed_37 : decode cX8_feed 37 = .ok (.ireturn, 1) := by decide +kernel
theorem dX8_feed_38 : decode cX8_feed 38 = .ok (.iload_n 2, 1) := by decide +kernel
theorem dX8_feed_39 : decode cX8_feed 39 = .ok (.iconst 1, 1) := by decide +kernel
theorem dX8_feed_40 : decode cX8_feed 40 = .ok (.isub, 1) := by decide +kernel
theorem dX8_feed_41 : decode cX8_feed 41 = .ok (.istore_n 3, 1) := by decide +kernel
theorem dX8_feed_42 : decode cX8_feed 42 = .ok (.iload_n 3, 1) := by decide +kernel
theorem dX8_feed_43 : decode cX8_feed 43 = .ok (.ifCond .lt 25, 3) := by decide +kernel
theorem dX8_feed_46 : decode cX8_feed 46 = .ok (.aload_n 0, 1) := by decide +kernel
theorem dX8_feed_47 : decode cX8_feed 47 = .ok (.getfield 36, 3) := by decide +kernel
theorem dX8_feed_50 : decode cX8_feed 50 = .ok (.getfield 232, 3) := by decide +kernel
theorem dX8_feed_53 : decode cX8_feed 53 = .ok (.iload_n 1, 1) := by decide +kernel
theorem dX8_feed_54 : decode cX8_feed 54 = .ok (.bipush 8, 2) := by decide +kernel
theorem dX8_feed_56 : decode cX8_feed 56 = .ok (.iload_n 3, 1) := by decide +kernel
theorem dX8_feed_57 : decode cX8_feed 57 = .ok (.imul, 1) := by decide +kernel
theorem dX8_feed_58 : decode cX8_feed 58 = .ok (.ishr, 1) := by decide +kernel
theorem dX8_feed_59 : decode cX8_feed 59 = .ok (.invokevirtual 241, 3) := by decide +kernel
theorem dX8_feed_62 : decode cX8_feed 62 = .ok (.iinc 3 (-1), 3) := by decide +kernel
theorem dX8_feed_65 : decode cX8_feed 65 = .ok (.goto (-23), 3) := by decide +kernel
theorem dX8_feed_68 : decode cX8_feed 68 = .ok (.aload_n 0, 1) := by decide +kernel
theorem dX8_feed_69 : decode cX8_feed 69 = .ok (.getfield 36, 3) := by decide +kernel
theorem dX8_feed_72 : decode cX8_feed 72 = .ok (.getfield 232, 3) := by decide +kernel
theorem dX8_feed_75 : decode cX8_feed 75 = .ok (.getfield 244, 3) := by decide +kernel
theorem dX8_feed_78 : decode cX8_feed 78 = .ok (.ireturn, 1) := by decide +kernel
theorem dX8_wipe_0 : decode cX8_wipe 0 = .ok (.aload_n 0, 1) := by decide +kernel
theorem dX8_wipe_1 : decode cX8_wipe 1 = .ok (.getfield 36, 3) := by decide +kernel
theorem dX8_wipe_4 : decode cX8_wipe 4 = .ok (.getfield 232, 3) := by decide +kernel
theorem dX8_wipe_7 : decode cX8_wipe 7 = .ok (.getfield 244, 3) := by decide +kernel
theorem dX8_wipe_10 : decode cX8_wipe 10 = .ok (.istore_n 1, 1) := by decide +kernel
theorem dX8_wipe_11 : decode cX8_wipe 11 = .ok (.aload_n 0, 1) := by decide +kernel
theorem dX8_wipe_12 : decode cX8_wipe 12 = .ok (.getfield 36, 3) := by decide +kernel
theorem dX8_wipe_15 : decode cX8_wipe 15 = .ok (.getfield 232, 3) := by decide +kernel
theorem dX8_wipe_18 : decode cX8_wipe 18 = .ok (.iconst 0, 1) := by decide +kernel
theorem dX8_wipe_19 : decode cX8_wipe 19 = .ok (.putfield 244, 3) := by decide +kernel
theorem dX8_wipe_22 : decode cX8_wipe 22 = .ok (.iload_n 1, 1) := by decide +kernel
theorem dX8_wipe_23 : decode cX8_wipe 23 = .ok (.ireturn, 1) := by decide +kernel
theorem dX8_finding_0 : decode cX8_finding 0 = .ok (.ldc 62, 2) := by decide +kernel
theorem dX8_finding_2 : decode cX8_finding 2 = .ok (.iload_n 1, 1) := by decide +kernel
theorem dX8_finding_3 : decode cX8_finding 3 = .ok (.isub, 1) := by decide +kernel
theorem dX8_finding_4 : decode cX8_finding 4 = .ok (.istore_n 2, 1) := by decide +kernel
theorem dX8_finding_5 : decode cX8_finding 5 = .ok (.iload_n 2, 1) := by decide +kernel
theorem dX8_finding_6 : decode cX8_finding 6 = .ok (.ifCond .lt 19, 3) := by decide +kernel
theorem dX8_finding_9 : decode cX8_finding 9 = .ok (.iload_n 2, 1) := by decide +kernel
theorem dX8_finding_10 : decode cX8_finding 10 = .ok (.bipush 7, 2) := by decide +kernel
theorem dX8_finding_12 : decode cX8_finding 12 = .ok (.if_icmp .ge 13, 3) := by decide +kernel
theorem dX8_finding_15 : decode cX8_finding 15 = .ok (.aload_n 0, 1) := by decide +kernel
theorem dX8_finding_16 : decode cX8_finding 16 = .ok (.getfield 46, 3) := by decide +kernel
theorem dX8_finding_19 : decode cX8_finding 19 = .ok (.iload_n 2, 1) := by decide +kernel
theorem dX8_finding_20 : decode cX8_finding 20 = .ok (.dup2, 1) := by decide +kernel
theorem dX8_finding_21 : decode cX8_finding 21 = .ok (.iaload, 1) := by decide +kernel
theorem dX8_finding_22 : decode cX8_finding 22 = .ok (.iconst 1, 1) := by decide +kernel
theorem dX8_finding_23 : decode cX8_finding 23 = .ok (.iadd, 1) := by decide +kernel
theorem dX8_finding_24 : decode cX8_finding 24 = .ok (.iastore, 1) := by decide +kernel
theorem dX8_finding_25 : decode cX8_finding 25 = .ok (.iload_n 1, 1) := by decide +kernel
theorem dX8_finding_26 : decode cX8_finding 26 = .ok (.ireturn, 1) := by decide +kernel
def w_f_beyond : List Cond := .code yX8_finding cX8_finding 3 (some .int) :: (([.constant RX8 62 (-1000000001), .fieldLink RX8 46 "LampShapes" "told" "[I"] : List Cond) ++ wsX80)
set_option maxHeartbeats 4000000 in
set_option maxRecDepth 100000 in
theorem f_beyond (l : Launch) (dC : Nat → ClassId) (dI : Nat → Nat → Nat) (ad : Nat → Nat) (h0 : Nat) (v0 : Value) (v1 : Value) (v2 : Value) (v3 : Value) (v4 : Value) (v5 : Value) (t0 : Nat) (v7 : Value) (tc : ClassId) (tf : Nat → Int32) (sz : Nat) : Met l yX8_finding w_f_beyond ({ frames := 0, cells := 0, slots := 0, locals := 0 } : Room) (va_Pc [.ref h0, .int (-1000000001)] (preM dC dI ad [(tc, .int)] [(h0, .inr (6, [v0, v1, v2, v3, v4, v5, .ref t0, v7])), (t0, .inl (tc, 7, .inl tf))] sz)) (va_Qi (fun (r : Int32) (_ : Unit) => (r = (-1000000001))) (fun _ t => ∃ (tg : Nat → Int32), va_P (dC, dI) vwCl [(h0, .inr (6, [v0, v1, v2, v3, v4, v5, .ref t0, v7])), (t0, .inl (tc, 7, .inl tg))] t.heap ∧ va_K (dC, dI) vwCl [(tc, .int)] t ∧ va_D (va_A [(h0, .inr (6, [v0, v1, v2, v3, v4, v5, .ref t0, v7])), (t0, .inl (tc, 7, .inl tf))] sz) [(h0, .inr (6, [v0, v1, v2, v3, v4, v5, .ref t0, v7])), (t0, .inl (tc, 7, .inl tg))]) (va_A [(h0, .inr (6, [v0, v1, v2, v3, v4, v5, .ref t0, v7])), (t0, .inl (tc, 7, .inl tf))] sz)) 0 0 (va_A [(h0, .inr (6, [v0, v1, v2, v3, v4, v5, .ref t0, v7])), (t0, .inl (tc, 7, .inl tf))] sz) := by
  refine Met.ofW (cc := cX8_finding) (maxL := 3) (ret := (some .int)) (by decide) rfl ?_
  intro p e s m args below meth c s₁ B hml hv
  obtain ⟨rfl, hsz, hP, hK, hD0, hev⟩ := hv
  have hx := B.exec
  have hb := B.bytes
  have hr := B.returns
  have hts := atoms_spec (ws := w_f_beyond) B.pre
  have hown : s.vm.findClass RX8 = some m.cls := findClass_of_methodNamed B.named
  have hlocks := B.notSynchronized
  have inX8 : ∀ w ∈ wsX80, w ∈ w_f_beyond := fun w h => List.mem_cons_of_mem _ (List.mem_append_right _ h)
  subst hsz
  have hD := hD0.self (sz := s.heap.size)
  generalize hAe : va_A [(h0, .inr (6, [v0, v1, v2, v3, v4, v5, .ref t0, v7])), (t0, .inl (tc, 7, .inl tf))] s.heap.size = A at hD ⊢
  have hA : ∀ q : Nat, s.heap.size ≤ q → A q := fun q h => by rw [← hAe]; exact Or.inr h
  have hS : va_S A s.heap s.heap [] := va_S.rf
  have hP : va_P (dC, dI) vwCl [(h0, .inr (6, [v0, v1, v2, v3, v4, v5, .ref t0, v7])), (t0, .inl (tc, 7, .inl tf))] s.heap := hP
  have hl := lv_entry ([.ref h0, .int (-1000000001)]) (n := 3) (Nat.le_of_ble_eq_true rfl)
  rw [lg_entry_eq]
  generalize (lg_sl ([.ref h0, .int (-1000000001)]) ++ List.replicate (3 - (lg_sl ([.ref h0, .int (-1000000001)])).length) Slot.unset).toArray = ls at hl ⊢
  have hl : lv_has ls 3 [(0, .ref h0), (1, .int (-1000000001))] := hl
  refine lv_ldc hx hb hown (hts _ (List.mem_of_getElem? (i := 1) rfl)) dX8_finding_0 ?_
  refine lv_iload_n hx hb dX8_finding_2 rfl (lv_at hl 1 rfl) ?_
  refine lv_isub hx hb dX8_finding_3 ?_
  refine pp_ti (y := 0) (by decide) ?_
  refine lv_istore_n (lv' := [(2, .int 0), (0, .ref h0), (1, .int (-1000000001))]) hx hb dX8_finding_4 rfl hl (by decide) rfl (fun ls hl => ?_)
  refine lv_iload_n hx hb dX8_finding_5 rfl (lv_at hl 0 rfl) ?_
  refine lv_if_lt (tgt := 25) hx hb dX8_finding_6 (by decide) (fun c => absurd c (by decide)) (fun _ => ?_)
  refine lv_iload_n hx hb dX8_finding_9 rfl (lv_at hl 0 rfl) ?_
  refine lv_bipush (v := 7) hx hb dX8_finding_10 (by decide) ?_
  refine lv_icmp_ge (tgt := 25) hx hb dX8_finding_12 (by decide) (fun c => absurd c (by decide)) (fun _ => ?_)
  refine lv_aload_n hx hb dX8_finding_15 rfl (lv_at hl 1 rfl) ?_
  refine va_get (D := (dC, dI)) (ci := 6) (v := .ref t0) (C := RX8) (T := TX8) (N := 8) hx hb hts inX8 hown hK hP 0 rfl rfl 6 (by decide) (hts _ (List.mem_of_getElem? (i := 2) rfl)) (fun _ h9 => h9) rfl dX8_finding_16 ?_
  refine lv_iload_n hx hb dX8_finding_19 rfl (lv_at hl 0 rfl) ?_
  refine lv_dup2_11 hx hb dX8_finding_20 rfl rfl ?_
  refine va_iald hx hb hK hP 1 0 rfl rfl (vp_in_nI (n := 0) (by decide) (by decide)) dX8_finding_21 ?_
  refine pp_ti (y := tf 0) rfl ?_
  refine lv_topi (fun n_1 en_1 => ?_)
  clear en_1
  refine lv_iconst (v := 1) hx hb dX8_finding_22 (by decide) ?_
  refine lv_iadd hx hb dX8_finding_23 ?_
  refine lv_topi (fun n_2 en_2 => ?_)
  clear en_2
  refine va_iast hx hb hK hP hD hS 1 0 rfl rfl (vp_in_nI (n := 0) (by decide) (by decide)) dX8_finding_24 (fun H locs hP hD hS => ?_)
  have hP : va_P (dC, dI) vwCl [(h0, .inr (6, [v0, v1, v2, v3, v4, v5, .ref t0, v7])), (t0, .inl (tc, 7, .inl (upd tf 0 n_2)))] H := hP
  have hD : va_D A [(h0, .inr (6, [v0, v1, v2, v3, v4, v5, .ref t0, v7])), (t0, .inl (tc, 7, .inl (upd tf 0 n_2)))] := hD
  refine lv_iload_n hx hb dX8_finding_25 rfl (lv_at hl 2 rfl) ?_
  have hP9 := hP.sub (ws' := [(h0, .inr (6, [v0, v1, v2, v3, v4, v5, .ref t0, v7])), (t0, .inl (tc, 7, .inl (upd tf 0 n_2)))]) [0, 1] rfl
  have hD9 := hD.sub (ws' := [(h0, .inr (6, [v0, v1, v2, v3, v4, v5, .ref t0, v7])), (t0, .inl (tc, 7, .inl (upd tf 0 n_2)))]) [0, 1] (by decide) rfl
  have hK9 := hK.sub (tys' := [(tc, .int)]) [0] rfl
  exact W.iret (v := (-1000000001)) hx hb hr (fun t ht hW => ⟨⟨(-1000000001), (), rfl, rfl, upd tf 0 n_2, by rw [ht]; exact hP9, va_K.moved hW.alike hK9, hD9⟩, hS.F ht⟩) hS.2.2 dX8_finding_26

def w_f_full : List Cond := .code yX8_finding cX8_finding 3 (some .int) :: (([.constant RX8 62 (-1000000001), .fieldLink RX8 46 "LampShapes" "told" "[I"] : List Cond) ++ wsX80)
set_option maxHeartbeats 4000000 in
set_option maxRecDepth 100000 in
theorem f_full (l : Launch) (dC : Nat → ClassId) (dI : Nat → Nat → Nat) (ad : Nat → Nat) (h0 : Nat) (v0 : Value) (v1 : Value) (v2 : Value) (v3 : Value) (v4 : Value) (v5 : Value) (t0 : Nat) (v7 : Value) (tc : ClassId) (tf : Nat → Int32) (sz : Nat) : Met l yX8_finding w_f_full ({ frames := 0, cells := 0, slots := 0, locals := 0 } : Room) (va_Pc [.ref h0, .int (-1000000002)] (preM dC dI ad [(tc, .int)] [(h0, .inr (6, [v0, v1, v2, v3, v4, v5, .ref t0, v7])), (t0, .inl (tc, 7, .inl tf))] sz)) (va_Qi (fun (r : Int32) (_ : Unit) => (r = (-1000000002))) (fun _ t => ∃ (tg : Nat → Int32), va_P (dC, dI) vwCl [(h0, .inr (6, [v0, v1, v2, v3, v4, v5, .ref t0, v7])), (t0, .inl (tc, 7, .inl tg))] t.heap ∧ va_K (dC, dI) vwCl [(tc, .int)] t ∧ va_D (va_A [(h0, .inr (6, [v0, v1, v2, v3, v4, v5, .ref t0, v7])), (t0, .inl (tc, 7, .inl tf))] sz) [(h0, .inr (6, [v0, v1, v2, v3, v4, v5, .ref t0, v7])), (t0, .inl (tc, 7, .inl tg))]) (va_A [(h0, .inr (6, [v0, v1, v2, v3, v4, v5, .ref t0, v7])), (t0, .inl (tc, 7, .inl tf))] sz)) 0 0 (va_A [(h0, .inr (6, [v0, v1, v2, v3, v4, v5, .ref t0, v7])), (t0, .inl (tc, 7, .inl tf))] sz) := by
  refine Met.ofW (cc := cX8_finding) (maxL := 3) (ret := (some .int)) (by decide) rfl ?_
  intro p e s m args below meth c s₁ B hml hv
  obtain ⟨rfl, hsz, hP, hK, hD0, hev⟩ := hv
  have hx := B.exec
  have hb := B.bytes
  have hr := B.returns
  have hts := atoms_spec (ws := w_f_full) B.pre
  have hown : s.vm.findClass RX8 = some m.cls := findClass_of_methodNamed B.named
  have hlocks := B.notSynchronized
  have inX8 : ∀ w ∈ wsX80, w ∈ w_f_full := fun w h => List.mem_cons_of_mem _ (List.mem_append_right _ h)
  subst hsz
  have hD := hD0.self (sz := s.heap.size)
  generalize hAe : va_A [(h0, .inr (6, [v0, v1, v2, v3, v4, v5, .ref t0, v7])), (t0, .inl (tc, 7, .inl tf))] s.heap.size = A at hD ⊢
  have hA : ∀ q : Nat, s.heap.size ≤ q → A q := fun q h => by rw [← hAe]; exact Or.inr h
  have hS : va_S A s.heap s.heap [] := va_S.rf
  have hP : va_P (dC, dI) vwCl [(h0, .inr (6, [v0, v1, v2, v3, v4, v5, .ref t0, v7])), (t0, .inl (tc, 7, .inl tf))] s.heap := hP
  have hl := lv_entry ([.ref h0, .int (-1000000002)]) (n := 3) (Nat.le_of_ble_eq_true rfl)
  rw [lg_entry_eq]
  generalize (lg_sl ([.ref h0, .int (-1000000002)]) ++ List.replicate (3 - (lg_sl ([.ref h0, .int (-1000000002)])).length) Slot.unset).toArray = ls at hl ⊢
  have hl : lv_has ls 3 [(0, .ref h0), (1, .int (-1000000002))] := hl
  refine lv_ldc hx hb hown (hts _ (List.mem_of_getElem? (i := 1) rfl)) dX8_finding_0 ?_
  refine lv_iload_n hx hb dX8_finding_2 rfl (lv_at hl 1 rfl) ?_
  refine lv_isub hx hb dX8_finding_3 ?_
  refine pp_ti (y := 1) (by decide) ?_
  refine lv_istore_n (lv' := [(2, .int 1), (0, .ref h0), (1, .int (-1000000002))]) hx hb dX8_finding_4 rfl hl (by decide) rfl (fun ls hl => ?_)
  refine lv_iload_n hx hb dX8_finding_5 rfl (lv_at hl 0 rfl) ?_
  refine lv_if_lt (tgt := 25) hx hb dX8_finding_6 (by decide) (fun c => absurd c (by decide)) (fun _ => ?_)
  refine lv_iload_n hx hb dX8_finding_9 rfl (lv_at hl 0 rfl) ?_
  refine lv_bipush (v := 7) hx hb dX8_finding_10 (by decide) ?_
  refine lv_icmp_ge (tgt := 25) hx hb dX8_finding_12 (by decide) (fun c => absurd c (by decide)) (fun _ => ?_)
  refine lv_aload_n hx hb dX8_finding_15 rfl (lv_at hl 1 rfl) ?_
  refine va_get (D := (dC, dI)) (ci := 6) (v := .ref t0) (C := RX8) (T := TX8) (N := 8) hx hb hts inX8 hown hK hP 0 rfl rfl 6 (by decide) (hts _ (List.mem_of_getElem? (i := 2) rfl)) (fun _ h9 => h9) rfl dX8_finding_16 ?_
  refine lv_iload_n hx hb dX8_finding_19 rfl (lv_at hl 0 rfl) ?_
  refine lv_dup2_11 hx hb dX8_finding_20 rfl rfl ?_
  refine va_iald hx hb hK hP 1 0 rfl rfl (vp_in_nI (n := 1) (by decide) (by decide)) dX8_finding_21 ?_
  refine pp_ti (y := tf 1) rfl ?_
  refine lv_topi (fun n_1 en_1 => ?_)
  clear en_1
  refine lv_iconst (v := 1) hx hb dX8_finding_22 (by decide) ?_
  refine lv_iadd hx hb dX8_finding_23 ?_
  refine lv_topi (fun n_2 en_2 => ?_)
  clear en_2
  refine va_iast hx hb hK hP hD hS 1 0 rfl rfl (vp_in_nI (n := 1) (by decide) (by decide)) dX8_finding_24 (fun H locs hP hD hS => ?_)
  have hP : va_P (dC, dI) vwCl [(h0, .inr (6, [v0, v1, v2, v3, v4, v5, .ref t0, v7])), (t0, .inl (tc, 7, .inl (upd tf 1 n_2)))] H := hP
  have hD : va_D A [(h0, .inr (6, [v0, v1, v2, v3, v4, v5, .ref t0, v7])), (t0, .inl (tc, 7, .inl (upd tf 1 n_2)))] := hD
  refine lv_iload_n hx hb dX8_finding_25 rfl (lv_at hl 2 rfl) ?_
  have hP9 := hP.sub (ws' := [(h0, .inr (6, [v0, v1, v2, v3, v4, v5, .ref t0, v7])), (t0, .inl (tc, 7, .inl (upd tf 1 n_2)))]) [0, 1] rfl
  have hD9 := hD.sub (ws' := [(h0, .inr (6, [v0, v1, v2, v3, v4, v5, .ref t0, v7])), (t0, .inl (tc, 7, .inl (upd tf 1 n_2)))]) [0, 1] (by decide) rfl
  have hK9 := hK.sub (tys' := [(tc, .int)]) [0] rfl
  exact W.iret (v := (-1000000002)) hx hb hr (fun t ht hW => ⟨⟨(-1000000002), (), rfl, rfl, upd tf 1 n_2, by rw [ht]; exact hP9, va_K.moved hW.alike hK9, hD9⟩, hS.F ht⟩) hS.2.2 dX8_finding_26

def w_f_kind : List Cond := .code yX8_finding cX8_finding 3 (some .int) :: (([.constant RX8 62 (-1000000001), .fieldLink RX8 46 "LampShapes" "told" "[I"] : List Cond) ++ wsX80)
set_option maxHeartbeats 4000000 in
set_option maxRecDepth 100000 in
theorem f_kind (l : Launch) (dC : Nat → ClassId) (dI : Nat → Nat → Nat) (ad : Nat → Nat) (h0 : Nat) (v0 : Value) (v1 : Value) (v2 : Value) (v3 : Value) (v4 : Value) (v5 : Value) (t0 : Nat) (v7 : Value) (tc : ClassId) (tf : Nat → Int32) (sz : Nat) : Met l yX8_finding w_f_kind ({ frames := 0, cells := 0, slots := 0, locals := 0 } : Room) (va_Pc [.ref h0, .int (-1000000003)] (preM dC dI ad [(tc, .int)] [(h0, .inr (6, [v0, v1, v2, v3, v4, v5, .ref t0, v7])), (t0, .inl (tc, 7, .inl tf))] sz)) (va_Qi (fun (r : Int32) (_ : Unit) => (r = (-1000000003))) (fun _ t => ∃ (tg : Nat → Int32), va_P (dC, dI) vwCl [(h0, .inr (6, [v0, v1, v2, v3, v4, v5, .ref t0, v7])), (t0, .inl (tc, 7, .inl tg))] t.heap ∧ va_K (dC, dI) vwCl [(tc, .int)] t ∧ va_D (va_A [(h0, .inr (6, [v0, v1, v2, v3, v4, v5, .ref t0, v7])), (t0, .inl (tc, 7, .inl tf))] sz) [(h0, .inr (6, [v0, v1, v2, v3, v4, v5, .ref t0, v7])), (t0, .inl (tc, 7, .inl tg))]) (va_A [(h0, .inr (6, [v0, v1, v2, v3, v4, v5, .ref t0, v7])), (t0, .inl (tc, 7, .inl tf))] sz)) 0 0 (va_A [(h0, .inr (6, [v0, v1, v2, v3, v4, v5, .ref t0, v7])), (t0, .inl (tc, 7, .inl tf))] sz) := by
  refine Met.ofW (cc := cX8_finding) (maxL := 3) (ret := (some .int)) (by decide) rfl ?_
  intro p e s m args below meth c s₁ B hml hv
  obtain ⟨rfl, hsz, hP, hK, hD0, hev⟩ := hv
  have hx := B.exec
  have hb := B.bytes
  have hr := B.returns
  have hts := atoms_spec (ws := w_f_kind) B.pre
  have hown : s.vm.findClass RX8 = some m.cls := findClass_of_methodNamed B.named
  have hlocks := B.notSynchronized
  have inX8 : ∀ w ∈ wsX80, w ∈ w_f_kind := fun w h => List.mem_cons_of_mem _ (List.mem_append_right _ h)
  subst hsz
  have hD := hD0.self (sz := s.heap.size)
  generalize hAe : va_A [(h0, .inr (6, [v0, v1, v2, v3, v4, v5, .ref t0, v7])), (t0, .inl (tc, 7, .inl tf))] s.heap.size = A at hD ⊢
  have hA : ∀ q : Nat, s.heap.size ≤ q → A q := fun q h => by rw [← hAe]; exact Or.inr h
  have hS : va_S A s.heap s.heap [] := va_S.rf
  have hP : va_P (dC, dI) vwCl [(h0, .inr (6, [v0, v1, v2, v3, v4, v5, .ref t0, v7])), (t0, .inl (tc, 7, .inl tf))] s.heap := hP
  have hl := lv_entry ([.ref h0, .int (-1000000003)]) (n := 3) (Nat.le_of_ble_eq_true rfl)
  rw [lg_entry_eq]
  generalize (lg_sl ([.ref h0, .int (-1000000003)]) ++ List.replicate (3 - (lg_sl ([.ref h0, .int (-1000000003)])).length) Slot.unset).toArray = ls at hl ⊢
  have hl : lv_has ls 3 [(0, .ref h0), (1, .int (-1000000003))] := hl
  refine lv_ldc hx hb hown (hts _ (List.mem_of_getElem? (i := 1) rfl)) dX8_finding_0 ?_
  refine lv_iload_n hx hb dX8_finding_2 rfl (lv_at hl 1 rfl) ?_
  refine lv_isub hx hb dX8_finding_3 ?_
  refine pp_ti (y := 2) (by decide) ?_
  refine lv_istore_n (lv' := [(2, .int 2), (0, .ref h0), (1, .int (-1000000003))]) hx hb dX8_finding_4 rfl hl (by decide) rfl (fun ls hl => ?_)
  refine lv_iload_n hx hb dX8_finding_5 rfl (lv_at hl 0 rfl) ?_
  refine lv_if_lt (tgt := 25) hx hb dX8_finding_6 (by decide) (fun c => absurd c (by decide)) (fun _ => ?_)
  refine lv_iload_n hx hb dX8_finding_9 rfl (lv_at hl 0 rfl) ?_
  refine lv_bipush (v := 7) hx hb dX8_finding_10 (by decide) ?_
  refine lv_icmp_ge (tgt := 25) hx hb dX8_finding_12 (by decide) (fun c => absurd c (by decide)) (fun _ => ?_)
  refine lv_aload_n hx hb dX8_finding_15 rfl (lv_at hl 1 rfl) ?_
  refine va_get (D := (dC, dI)) (ci := 6) (v := .ref t0) (C := RX8) (T := TX8) (N := 8) hx hb hts inX8 hown hK hP 0 rfl rfl 6 (by decide) (hts _ (List.mem_of_getElem? (i := 2) rfl)) (fun _ h9 => h9) rfl dX8_finding_16 ?_
  refine lv_iload_n hx hb dX8_finding_19 rfl (lv_at hl 0 rfl) ?_
  refine lv_dup2_11 hx hb dX8_finding_20 rfl rfl ?_
  refine va_iald hx hb hK hP 1 0 rfl rfl (vp_in_nI (n := 2) (by decide) (by decide)) dX8_finding_21 ?_
  refine pp_ti (y := tf 2) rfl ?_
  refine lv_topi (fun n_1 en_1 => ?_)
  clear en_1
  refine lv_iconst (v := 1) hx hb dX8_finding_22 (by decide) ?_
  refine lv_iadd hx hb dX8_finding_23 ?_
  refine lv_topi (fun n_2 en_2 => ?_)
  clear en_2
  refine va_iast hx hb hK hP hD hS 1 0 rfl rfl (vp_in_nI (n := 2) (by decide) (by decide)) dX8_finding_24 (fun H locs hP hD hS => ?_)
  have hP : va_P (dC, dI) vwCl [(h0, .inr (6, [v0, v1, v2, v3, v4, v5, .ref t0, v7])), (t0, .inl (tc, 7, .inl (upd tf 2 n_2)))] H := hP
  have hD : va_D A [(h0, .inr (6, [v0, v1, v2, v3, v4, v5, .ref t0, v7])), (t0, .inl (tc, 7, .inl (upd tf 2 n_2)))] := hD
  refine lv_iload_n hx hb dX8_finding_25 rfl (lv_at hl 2 rfl) ?_
  have hP9 := hP.sub (ws' := [(h0, .inr (6, [v0, v1, v2, v3, v4, v5, .ref t0, v7])), (t0, .inl (tc, 7, .inl (upd tf 2 n_2)))]) [0, 1] rfl
  have hD9 := hD.sub (ws' := [(h0, .inr (6, [v0, v1, v2, v3, v4, v5, .ref t0, v7])), (t0, .inl (tc, 7, .inl (upd tf 2 n_2)))]) [0, 1] (by decide) rfl
  have hK9 := hK.sub (tys' := [(tc, .int)]) [0] rfl
  exact W.iret (v := (-1000000003)) hx hb hr (fun t ht hW => ⟨⟨(-1000000003), (), rfl, rfl, upd tf 2 n_2, by rw [ht]; exact hP9, va_K.moved hW.alike hK9, hD9⟩, hS.F ht⟩) hS.2.2 dX8_finding_26

def w_f_none : List Cond := .code yX8_finding cX8_finding 3 (some .int) :: (([.constant RX8 62 (-1000000001), .fieldLink RX8 46 "LampShapes" "told" "[I"] : List Cond) ++ wsX80)
set_option maxHeartbeats 4000000 in
set_option maxRecDepth 100000 in
theorem f_none (l : Launch) (dC : Nat → ClassId) (dI : Nat → Nat → Nat) (ad : Nat → Nat) (h0 : Nat) (v0 : Value) (v1 : Value) (v2 : Value) (v3 : Value) (v4 : Value) (v5 : Value) (t0 : Nat) (v7 : Value) (tc : ClassId) (tf : Nat → Int32) (sz : Nat) : Met l yX8_finding w_f_none ({ frames := 0, cells := 0, slots := 0, locals := 0 } : Room) (va_Pc [.ref h0, .int (-1000000004)] (preM dC dI ad [(tc, .int)] [(h0, .inr (6, [v0, v1, v2, v3, v4, v5, .ref t0, v7])), (t0, .inl (tc, 7, .inl tf))] sz)) (va_Qi (fun (r : Int32) (_ : Unit) => (r = (-1000000004))) (fun _ t => ∃ (tg : Nat → Int32), va_P (dC, dI) vwCl [(h0, .inr (6, [v0, v1, v2, v3, v4, v5, .ref t0, v7])), (t0, .inl (tc, 7, .inl tg))] t.heap ∧ va_K (dC, dI) vwCl [(tc, .int)] t ∧ va_D (va_A [(h0, .inr (6, [v0, v1, v2, v3, v4, v5, .ref t0, v7])), (t0, .inl (tc, 7, .inl tf))] sz) [(h0, .inr (6, [v0, v1, v2, v3, v4, v5, .ref t0, v7])), (t0, .inl (tc, 7, .inl tg))]) (va_A [(h0, .inr (6, [v0, v1, v2, v3, v4, v5, .ref t0, v7])), (t0, .inl (tc, 7, .inl tf))] sz)) 0 0 (va_A [(h0, .inr (6, [v0, v1, v2, v3, v4, v5, .ref t0, v7])), (t0, .inl (tc, 7, .inl tf))] sz) := by
  refine Met.ofW (cc := cX8_finding) (maxL := 3) (ret := (some .int)) (by decide) rfl ?_
  intro p e s m args below meth c s₁ B hml hv
  obtain ⟨rfl, hsz, hP, hK, hD0, hev⟩ := hv
  have hx := B.exec
  have hb := B.bytes
  have hr := B.returns
  have hts := atoms_spec (ws := w_f_none) B.pre
  have hown : s.vm.findClass RX8 = some m.cls := findClass_of_methodNamed B.named
  have hlocks := B.notSynchronized
  have inX8 : ∀ w ∈ wsX80, w ∈ w_f_none := fun w h => List.mem_cons_of_mem _ (List.mem_append_right _ h)
  subst hsz
  have hD := hD0.self (sz := s.heap.size)
  generalize hAe : va_A [(h0, .inr (6, [v0, v1, v2, v3, v4, v5, .ref t0, v7])), (t0, .inl (tc, 7, .inl tf))] s.heap.size = A at hD ⊢
  have hA : ∀ q : Nat, s.heap.size ≤ q → A q := fun q h => by rw [← hAe]; exact Or.inr h
  have hS : va_S A s.heap s.heap [] := va_S.rf
  have hP : va_P (dC, dI) vwCl [(h0, .inr (6, [v0, v1, v2, v3, v4, v5, .ref t0, v7])), (t0, .inl (tc, 7, .inl tf))] s.heap := hP
  have hl := lv_entry ([.ref h0, .int (-1000000004)]) (n := 3) (Nat.le_of_ble_eq_true rfl)
  rw [lg_entry_eq]
  generalize (lg_sl ([.ref h0, .int (-1000000004)]) ++ List.replicate (3 - (lg_sl ([.ref h0, .int (-1000000004)])).length) Slot.unset).toArray = ls at hl ⊢
  have hl : lv_has ls 3 [(0, .ref h0), (1, .int (-1000000004))] := hl
  refine lv_ldc hx hb hown (hts _ (List.mem_of_getElem? (i := 1) rfl)) dX8_finding_0 ?_
  refine lv_iload_n hx hb dX8_finding_2 rfl (lv_at hl 1 rfl) ?_
  refine lv_isub hx hb dX8_finding_3 ?_
  refine pp_ti (y := 3) (by decide) ?_
  refine lv_istore_n (lv' := [(2, .int 3), (0, .ref h0), (1, .int (-1000000004))]) hx hb dX8_finding_4 rfl hl (by decide) rfl (fun ls hl => ?_)
  refine lv_iload_n hx hb dX8_finding_5 rfl (lv_at hl 0 rfl) ?_
  refine lv_if_lt (tgt := 25) hx hb dX8_finding_6 (by decide) (fun c => absurd c (by decide)) (fun _ => ?_)
  refine lv_iload_n hx hb dX8_finding_9 rfl (lv_at hl 0 rfl) ?_
  refine lv_bipush (v := 7) hx hb dX8_finding_10 (by decide) ?_
  refine lv_icmp_ge (tgt := 25) hx hb dX8_finding_12 (by decide) (fun c => absurd c (by decide)) (fun _ => ?_)
  refine lv_aload_n hx hb dX8_finding_15 rfl (lv_at hl 1 rfl) ?_
  refine va_get (D := (dC, dI)) (ci := 6) (v := .ref t0) (C := RX8) (T := TX8) (N := 8) hx hb hts inX8 hown hK hP 0 rfl rfl 6 (by decide) (hts _ (List.mem_of_getElem? (i := 2) rfl)) (fun _ h9 => h9) rfl dX8_finding_16 ?_
  refine lv_iload_n hx hb dX8_finding_19 rfl (lv_at hl 0 rfl) ?_
  refine lv_dup2_11 hx hb dX8_finding_20 rfl rfl ?_
  refine va_iald hx hb hK hP 1 0 rfl rfl (vp_in_nI (n := 3) (by decide) (by decide)) dX8_finding_21 ?_
  refine pp_ti (y := tf 3) rfl ?_
  refine lv_topi (fun n_1 en_1 => ?_)
  clear en_1
  refine lv_iconst (v := 1) hx hb dX8_finding_22 (by decide) ?_
  refine lv_iadd hx hb dX8_finding_23 ?_
  refine lv_topi (fun n_2 en_2 => ?_)
  clear en_2
  refine va_iast hx hb hK hP hD hS 1 0 rfl rfl (vp_in_nI (n := 3) (by decide) (by decide)) dX8_finding_24 (fun H locs hP hD hS => ?_)
  have hP : va_P (dC, dI) vwCl [(h0, .inr (6, [v0, v1, v2, v3, v4, v5, .ref t0, v7])), (t0, .inl (tc, 7, .inl (upd tf 3 n_2)))] H := hP
  have hD : va_D A [(h0, .inr (6, [v0, v1, v2, v3, v4, v5, .ref t0, v7])), (t0, .inl (tc, 7, .inl (upd tf 3 n_2)))] := hD
  refine lv_iload_n hx hb dX8_finding_25 rfl (lv_at hl 2 rfl) ?_
  have hP9 := hP.sub (ws' := [(h0, .inr (6, [v0, v1, v2, v3, v4, v5, .ref t0, v7])), (t0, .inl (tc, 7, .inl (upd tf 3 n_2)))]) [0, 1] rfl
  have hD9 := hD.sub (ws' := [(h0, .inr (6, [v0, v1, v2, v3, v4, v5, .ref t0, v7])), (t0, .inl (tc, 7, .inl (upd tf 3 n_2)))]) [0, 1] (by decide) rfl
  have hK9 := hK.sub (tys' := [(tc, .int)]) [0] rfl
  exact W.iret (v := (-1000000004)) hx hb hr (fun t ht hW => ⟨⟨(-1000000004), (), rfl, rfl, upd tf 3 n_2, by rw [ht]; exact hP9, va_K.moved hW.alike hK9, hD9⟩, hS.F ht⟩) hS.2.2 dX8_finding_26

def w_f_state : List Cond := .code yX8_finding cX8_finding 3 (some .int) :: (([.constant RX8 62 (-1000000001), .fieldLink RX8 46 "LampShapes" "told" "[I"] : List Cond) ++ wsX80)
set_option maxHeartbeats 4000000 in
set_option maxRecDepth 100000 in
theorem f_state (l : Launch) (dC : Nat → ClassId) (dI : Nat → Nat → Nat) (ad : Nat → Nat) (h0 : Nat) (v0 : Value) (v1 : Value) (v2 : Value) (v3 : Value) (v4 : Value) (v5 : Value) (t0 : Nat) (v7 : Value) (tc : ClassId) (tf : Nat → Int32) (sz : Nat) : Met l yX8_finding w_f_state ({ frames := 0, cells := 0, slots := 0, locals := 0 } : Room) (va_Pc [.ref h0, .int (-1000000005)] (preM dC dI ad [(tc, .int)] [(h0, .inr (6, [v0, v1, v2, v3, v4, v5, .ref t0, v7])), (t0, .inl (tc, 7, .inl tf))] sz)) (va_Qi (fun (r : Int32) (_ : Unit) => (r = (-1000000005))) (fun _ t => ∃ (tg : Nat → Int32), va_P (dC, dI) vwCl [(h0, .inr (6, [v0, v1, v2, v3, v4, v5, .ref t0, v7])), (t0, .inl (tc, 7, .inl tg))] t.heap ∧ va_K (dC, dI) vwCl [(tc, .int)] t ∧ va_D (va_A [(h0, .inr (6, [v0, v1, v2, v3, v4, v5, .ref t0, v7])), (t0, .inl (tc, 7, .inl tf))] sz) [(h0, .inr (6, [v0, v1, v2, v3, v4, v5, .ref t0, v7])), (t0, .inl (tc, 7, .inl tg))]) (va_A [(h0, .inr (6, [v0, v1, v2, v3, v4, v5, .ref t0, v7])), (t0, .inl (tc, 7, .inl tf))] sz)) 0 0 (va_A [(h0, .inr (6, [v0, v1, v2, v3, v4, v5, .ref t0, v7])), (t0, .inl (tc, 7, .inl tf))] sz) := by
  refine Met.ofW (cc := cX8_finding) (maxL := 3) (ret := (some .int)) (by decide) rfl ?_
  intro p e s m args below meth c s₁ B hml hv
  obtain ⟨rfl, hsz, hP, hK, hD0, hev⟩ := hv
  have hx := B.exec
  have hb := B.bytes
  have hr := B.returns
  have hts := atoms_spec (ws := w_f_state) B.pre
  have hown : s.vm.findClass RX8 = some m.cls := findClass_of_methodNamed B.named
  have hlocks := B.notSynchronized
  have inX8 : ∀ w ∈ wsX80, w ∈ w_f_state := fun w h => List.mem_cons_of_mem _ (List.mem_append_right _ h)
  subst hsz
  have hD := hD0.self (sz := s.heap.size)
  generalize hAe : va_A [(h0, .inr (6, [v0, v1, v2, v3, v4, v5, .ref t0, v7])), (t0, .inl (tc, 7, .inl tf))] s.heap.size = A at hD ⊢
  have hA : ∀ q : Nat, s.heap.size ≤ q → A q := fun q h => by rw [← hAe]; exact Or.inr h
  have hS : va_S A s.heap s.heap [] := va_S.rf
  have hP : va_P (dC, dI) vwCl [(h0, .inr (6, [v0, v1, v2, v3, v4, v5, .ref t0, v7])), (t0, .inl (tc, 7, .inl tf))] s.heap := hP
  have hl := lv_entry ([.ref h0, .int (-1000000005)]) (n := 3) (Nat.le_of_ble_eq_true rfl)
  rw [lg_entry_eq]
  generalize (lg_sl ([.ref h0, .int (-1000000005)]) ++ List.replicate (3 - (lg_sl ([.ref h0, .int (-1000000005)])).length) Slot.unset).toArray = ls at hl ⊢
  have hl : lv_has ls 3 [(0, .ref h0), (1, .int (-1000000005))] := hl
  refine lv_ldc hx hb hown (hts _ (List.mem_of_getElem? (i := 1) rfl)) dX8_finding_0 ?_
  refine lv_iload_n hx hb dX8_finding_2 rfl (lv_at hl 1 rfl) ?_
  refine lv_isub hx hb dX8_finding_3 ?_
  refine pp_ti (y := 4) (by decide) ?_
  refine lv_istore_n (lv' := [(2, .int 4), (0, .ref h0), (1, .int (-1000000005))]) hx hb dX8_finding_4 rfl hl (by decide) rfl (fun ls hl => ?_)
  refine lv_iload_n hx hb dX8_finding_5 rfl (lv_at hl 0 rfl) ?_
  refine lv_if_lt (tgt := 25) hx hb dX8_finding_6 (by decide) (fun c => absurd c (by decide)) (fun _ => ?_)
  refine lv_iload_n hx hb dX8_finding_9 rfl (lv_at hl 0 rfl) ?_
  refine lv_bipush (v := 7) hx hb dX8_finding_10 (by decide) ?_
  refine lv_icmp_ge (tgt := 25) hx hb dX8_finding_12 (by decide) (fun c => absurd c (by decide)) (fun _ => ?_)
  refine lv_aload_n hx hb dX8_finding_15 rfl (lv_at hl 1 rfl) ?_
  refine va_get (D := (dC, dI)) (ci := 6) (v := .ref t0) (C := RX8) (T := TX8) (N := 8) hx hb hts inX8 hown hK hP 0 rfl rfl 6 (by decide) (hts _ (List.mem_of_getElem? (i := 2) rfl)) (fun _ h9 => h9) rfl dX8_finding_16 ?_
  refine lv_iload_n hx hb dX8_finding_19 rfl (lv_at hl 0 rfl) ?_
  refine lv_dup2_11 hx hb dX8_finding_20 rfl rfl ?_
  refine va_iald hx hb hK hP 1 0 rfl rfl (vp_in_nI (n := 4) (by decide) (by decide)) dX8_finding_21 ?_
  refine pp_ti (y := tf 4) rfl ?_
  refine lv_topi (fun n_1 en_1 => ?_)
  clear en_1
  refine lv_iconst (v := 1) hx hb dX8_finding_22 (by decide) ?_
  refine lv_iadd hx hb dX8_finding_23 ?_
  refine lv_topi (fun n_2 en_2 => ?_)
  clear en_2
  refine va_iast hx hb hK hP hD hS 1 0 rfl rfl (vp_in_nI (n := 4) (by decide) (by decide)) dX8_finding_24 (fun H locs hP hD hS => ?_)
  have hP : va_P (dC, dI) vwCl [(h0, .inr (6, [v0, v1, v2, v3, v4, v5, .ref t0, v7])), (t0, .inl (tc, 7, .inl (upd tf 4 n_2)))] H := hP
  have hD : va_D A [(h0, .inr (6, [v0, v1, v2, v3, v4, v5, .ref t0, v7])), (t0, .inl (tc, 7, .inl (upd tf 4 n_2)))] := hD
  refine lv_iload_n hx hb dX8_finding_25 rfl (lv_at hl 2 rfl) ?_
  have hP9 := hP.sub (ws' := [(h0, .inr (6, [v0, v1, v2, v3, v4, v5, .ref t0, v7])), (t0, .inl (tc, 7, .inl (upd tf 4 n_2)))]) [0, 1] rfl
  have hD9 := hD.sub (ws' := [(h0, .inr (6, [v0, v1, v2, v3, v4, v5, .ref t0, v7])), (t0, .inl (tc, 7, .inl (upd tf 4 n_2)))]) [0, 1] (by decide) rfl
  have hK9 := hK.sub (tys' := [(tc, .int)]) [0] rfl
  exact W.iret (v := (-1000000005)) hx hb hr (fun t ht hW => ⟨⟨(-1000000005), (), rfl, rfl, upd tf 4 n_2, by rw [ht]; exact hP9, va_K.moved hW.alike hK9, hD9⟩, hS.F ht⟩) hS.2.2 dX8_finding_26

def w_f_missing : List Cond := .code yX8_finding cX8_finding 3 (some .int) :: (([.constant RX8 62 (-1000000001), .fieldLink RX8 46 "LampShapes" "told" "[I"] : List Cond) ++ wsX80)
set_option maxHeartbeats 4000000 in
set_option maxRecDepth 100000 in
theorem f_missing (l : Launch) (dC : Nat → ClassId) (dI : Nat → Nat → Nat) (ad : Nat → Nat) (h0 : Nat) (v0 : Value) (v1 : Value) (v2 : Value) (v3 : Value) (v4 : Value) (v5 : Value) (t0 : Nat) (v7 : Value) (tc : ClassId) (tf : Nat → Int32) (sz : Nat) : Met l yX8_finding w_f_missing ({ frames := 0, cells := 0, slots := 0, locals := 0 } : Room) (va_Pc [.ref h0, .int (-1000000006)] (preM dC dI ad [(tc, .int)] [(h0, .inr (6, [v0, v1, v2, v3, v4, v5, .ref t0, v7])), (t0, .inl (tc, 7, .inl tf))] sz)) (va_Qi (fun (r : Int32) (_ : Unit) => (r = (-1000000006))) (fun _ t => ∃ (tg : Nat → Int32), va_P (dC, dI) vwCl [(h0, .inr (6, [v0, v1, v2, v3, v4, v5, .ref t0, v7])), (t0, .inl (tc, 7, .inl tg))] t.heap ∧ va_K (dC, dI) vwCl [(tc, .int)] t ∧ va_D (va_A [(h0, .inr (6, [v0, v1, v2, v3, v4, v5, .ref t0, v7])), (t0, .inl (tc, 7, .inl tf))] sz) [(h0, .inr (6, [v0, v1, v2, v3, v4, v5, .ref t0, v7])), (t0, .inl (tc, 7, .inl tg))]) (va_A [(h0, .inr (6, [v0, v1, v2, v3, v4, v5, .ref t0, v7])), (t0, .inl (tc, 7, .inl tf))] sz)) 0 0 (va_A [(h0, .inr (6, [v0, v1, v2, v3, v4, v5, .ref t0, v7])), (t0, .inl (tc, 7, .inl tf))] sz) := by
  refine Met.ofW (cc := cX8_finding) (maxL := 3) (ret := (some .int)) (by decide) rfl ?_
  intro p e s m args below meth c s₁ B hml hv
  obtain ⟨rfl, hsz, hP, hK, hD0, hev⟩ := hv
  have hx := B.exec
  have hb := B.bytes
  have hr := B.returns
  have hts := atoms_spec (ws := w_f_missing) B.pre
  have hown : s.vm.findClass RX8 = some m.cls := findClass_of_methodNamed B.named
  have hlocks := B.notSynchronized
  have inX8 : ∀ w ∈ wsX80, w ∈ w_f_missing := fun w h => List.mem_cons_of_mem _ (List.mem_append_right _ h)
  subst hsz
  have hD := hD0.self (sz := s.heap.size)
  generalize hAe : va_A [(h0, .inr (6, [v0, v1, v2, v3, v4, v5, .ref t0, v7])), (t0, .inl (tc, 7, .inl tf))] s.heap.size = A at hD ⊢
  have hA : ∀ q : Nat, s.heap.size ≤ q → A q := fun q h => by rw [← hAe]; exact Or.inr h
  have hS : va_S A s.heap s.heap [] := va_S.rf
  have hP : va_P (dC, dI) vwCl [(h0, .inr (6, [v0, v1, v2, v3, v4, v5, .ref t0, v7])), (t0, .inl (tc, 7, .inl tf))] s.heap := hP
  have hl := lv_entry ([.ref h0, .int (-1000000006)]) (n := 3) (Nat.le_of_ble_eq_true rfl)
  rw [lg_entry_eq]
  generalize (lg_sl ([.ref h0, .int (-1000000006)]) ++ List.replicate (3 - (lg_sl ([.ref h0, .int (-1000000006)])).length) Slot.unset).toArray = ls at hl ⊢
  have hl : lv_has ls 3 [(0, .ref h0), (1, .int (-1000000006))] := hl
  refine lv_ldc hx hb hown (hts _ (List.mem_of_getElem? (i := 1) rfl)) dX8_finding_0 ?_
  refine lv_iload_n hx hb dX8_finding_2 rfl (lv_at hl 1 rfl) ?_
  refine lv_isub hx hb dX8_finding_3 ?_
  refine pp_ti (y := 5) (by decide) ?_
  refine lv_istore_n (lv' := [(2, .int 5), (0, .ref h0), (1, .int (-1000000006))]) hx hb dX8_finding_4 rfl hl (by decide) rfl (fun ls hl => ?_)
  refine lv_iload_n hx hb dX8_finding_5 rfl (lv_at hl 0 rfl) ?_
  refine lv_if_lt (tgt := 25) hx hb dX8_finding_6 (by decide) (fun c => absurd c (by decide)) (fun _ => ?_)
  refine lv_iload_n hx hb dX8_finding_9 rfl (lv_at hl 0 rfl) ?_
  refine lv_bipush (v := 7) hx hb dX8_finding_10 (by decide) ?_
  refine lv_icmp_ge (tgt := 25) hx hb dX8_finding_12 (by decide) (fun c => absurd c (by decide)) (fun _ => ?_)
  refine lv_aload_n hx hb dX8_finding_15 rfl (lv_at hl 1 rfl) ?_
  refine va_get (D := (dC, dI)) (ci := 6) (v := .ref t0) (C := RX8) (T := TX8) (N := 8) hx hb hts inX8 hown hK hP 0 rfl rfl 6 (by decide) (hts _ (List.mem_of_getElem? (i := 2) rfl)) (fun _ h9 => h9) rfl dX8_finding_16 ?_
  refine lv_iload_n hx hb dX8_finding_19 rfl (lv_at hl 0 rfl) ?_
  refine lv_dup2_11 hx hb dX8_finding_20 rfl rfl ?_
  refine va_iald hx hb hK hP 1 0 rfl rfl (vp_in_nI (n := 5) (by decide) (by decide)) dX8_finding_21 ?_
  refine pp_ti (y := tf 5) rfl ?_
  refine lv_topi (fun n_1 en_1 => ?_)
  clear en_1
  refine lv_iconst (v := 1) hx hb dX8_finding_22 (by decide) ?_
  refine lv_iadd hx hb dX8_finding_23 ?_
  refine lv_topi (fun n_2 en_2 => ?_)
  clear en_2
  refine va_iast hx hb hK hP hD hS 1 0 rfl rfl (vp_in_nI (n := 5) (by decide) (by decide)) dX8_finding_24 (fun H locs hP hD hS => ?_)
  have hP : va_P (dC, dI) vwCl [(h0, .inr (6, [v0, v1, v2, v3, v4, v5, .ref t0, v7])), (t0, .inl (tc, 7, .inl (upd tf 5 n_2)))] H := hP
  have hD : va_D A [(h0, .inr (6, [v0, v1, v2, v3, v4, v5, .ref t0, v7])), (t0, .inl (tc, 7, .inl (upd tf 5 n_2)))] := hD
  refine lv_iload_n hx hb dX8_finding_25 rfl (lv_at hl 2 rfl) ?_
  have hP9 := hP.sub (ws' := [(h0, .inr (6, [v0, v1, v2, v3, v4, v5, .ref t0, v7])), (t0, .inl (tc, 7, .inl (upd tf 5 n_2)))]) [0, 1] rfl
  have hD9 := hD.sub (ws' := [(h0, .inr (6, [v0, v1, v2, v3, v4, v5, .ref t0, v7])), (t0, .inl (tc, 7, .inl (upd tf 5 n_2)))]) [0, 1] (by decide) rfl
  have hK9 := hK.sub (tys' := [(tc, .int)]) [0] rfl
  exact W.iret (v := (-1000000006)) hx hb hr (fun t ht hW => ⟨⟨(-1000000006), (), rfl, rfl, upd tf 5 n_2, by rw [ht]; exact hP9, va_K.moved hW.alike hK9, hD9⟩, hS.F ht⟩) hS.2.2 dX8_finding_26

def w_f_size : List Cond := .code yX8_finding cX8_finding 3 (some .int) :: (([.constant RX8 62 (-1000000001), .fieldLink RX8 46 "LampShapes" "told" "[I"] : List Cond) ++ wsX80)
set_option maxHeartbeats 4000000 in
set_option maxRecDepth 100000 in
theorem f_size (l : Launch) (dC : Nat → ClassId) (dI : Nat → Nat → Nat) (ad : Nat → Nat) (h0 : Nat) (v0 : Value) (v1 : Value) (v2 : Value) (v3 : Value) (v4 : Value) (v5 : Value) (t0 : Nat) (v7 : Value) (tc : ClassId) (tf : Nat → Int32) (sz : Nat) : Met l yX8_finding w_f_size ({ frames := 0, cells := 0, slots := 0, locals := 0 } : Room) (va_Pc [.ref h0, .int (-1000000007)] (preM dC dI ad [(tc, .int)] [(h0, .inr (6, [v0, v1, v2, v3, v4, v5, .ref t0, v7])), (t0, .inl (tc, 7, .inl tf))] sz)) (va_Qi (fun (r : Int32) (_ : Unit) => (r = (-1000000007))) (fun _ t => ∃ (tg : Nat → Int32), va_P (dC, dI) vwCl [(h0, .inr (6, [v0, v1, v2, v3, v4, v5, .ref t0, v7])), (t0, .inl (tc, 7, .inl tg))] t.heap ∧ va_K (dC, dI) vwCl [(tc, .int)] t ∧ va_D (va_A [(h0, .inr (6, [v0, v1, v2, v3, v4, v5, .ref t0, v7])), (t0, .inl (tc, 7, .inl tf))] sz) [(h0, .inr (6, [v0, v1, v2, v3, v4, v5, .ref t0, v7])), (t0, .inl (tc, 7, .inl tg))]) (va_A [(h0, .inr (6, [v0, v1, v2, v3, v4, v5, .ref t0, v7])), (t0, .inl (tc, 7, .inl tf))] sz)) 0 0 (va_A [(h0, .inr (6, [v0, v1, v2, v3, v4, v5, .ref t0, v7])), (t0, .inl (tc, 7, .inl tf))] sz) := by
  refine Met.ofW (cc := cX8_finding) (maxL := 3) (ret := (some .int)) (by decide) rfl ?_
  intro p e s m args below meth c s₁ B hml hv
  obtain ⟨rfl, hsz, hP, hK, hD0, hev⟩ := hv
  have hx := B.exec
  have hb := B.bytes
  have hr := B.returns
  have hts := atoms_spec (ws := w_f_size) B.pre
  have hown : s.vm.findClass RX8 = some m.cls := findClass_of_methodNamed B.named
  have hlocks := B.notSynchronized
  have inX8 : ∀ w ∈ wsX80, w ∈ w_f_size := fun w h => List.mem_cons_of_mem _ (List.mem_append_right _ h)
  subst hsz
  have hD := hD0.self (sz := s.heap.size)
  generalize hAe : va_A [(h0, .inr (6, [v0, v1, v2, v3, v4, v5, .ref t0, v7])), (t0, .inl (tc, 7, .inl tf))] s.heap.size = A at hD ⊢
  have hA : ∀ q : Nat, s.heap.size ≤ q → A q := fun q h => by rw [← hAe]; exact Or.inr h
  have hS : va_S A s.heap s.heap [] := va_S.rf
  have hP : va_P (dC, dI) vwCl [(h0, .inr (6, [v0, v1, v2, v3, v4, v5, .ref t0, v7])), (t0, .inl (tc, 7, .inl tf))] s.heap := hP
  have hl := lv_entry ([.ref h0, .int (-1000000007)]) (n := 3) (Nat.le_of_ble_eq_true rfl)
  rw [lg_entry_eq]
  generalize (lg_sl ([.ref h0, .int (-1000000007)]) ++ List.replicate (3 - (lg_sl ([.ref h0, .int (-1000000007)])).length) Slot.unset).toArray = ls at hl ⊢
  have hl : lv_has ls 3 [(0, .ref h0), (1, .int (-1000000007))] := hl
  refine lv_ldc hx hb hown (hts _ (List.mem_of_getElem? (i := 1) rfl)) dX8_finding_0 ?_
  refine lv_iload_n hx hb dX8_finding_2 rfl (lv_at hl 1 rfl) ?_
  refine lv_isub hx hb dX8_finding_3 ?_
  refine pp_ti (y := 6) (by decide) ?_
  refine lv_istore_n (lv' := [(2, .int 6), (0, .ref h0), (1, .int (-1000000007))]) hx hb dX8_finding_4 rfl hl (by decide) rfl (fun ls hl => ?_)
  refine lv_iload_n hx hb dX8_finding_5 rfl (lv_at hl 0 rfl) ?_
  refine lv_if_lt (tgt := 25) hx hb dX8_finding_6 (by decide) (fun c => absurd c (by decide)) (fun _ => ?_)
  refine lv_iload_n hx hb dX8_finding_9 rfl (lv_at hl 0 rfl) ?_
  refine lv_bipush (v := 7) hx hb dX8_finding_10 (by decide) ?_
  refine lv_icmp_ge (tgt := 25) hx hb dX8_finding_12 (by decide) (fun c => absurd c (by decide)) (fun _ => ?_)
  refine lv_aload_n hx hb dX8_finding_15 rfl (lv_at hl 1 rfl) ?_
  refine va_get (D := (dC, dI)) (ci := 6) (v := .ref t0) (C := RX8) (T := TX8) (N := 8) hx hb hts inX8 hown hK hP 0 rfl rfl 6 (by decide) (hts _ (List.mem_of_getElem? (i := 2) rfl)) (fun _ h9 => h9) rfl dX8_finding_16 ?_
  refine lv_iload_n hx hb dX8_finding_19 rfl (lv_at hl 0 rfl) ?_
  refine lv_dup2_11 hx hb dX8_finding_20 rfl rfl ?_
  refine va_iald hx hb hK hP 1 0 rfl rfl (vp_in_nI (n := 6) (by decide) (by decide)) dX8_finding_21 ?_
  refine pp_ti (y := tf 6) rfl ?_
  refine lv_topi (fun n_1 en_1 => ?_)
  clear en_1
  refine lv_iconst (v := 1) hx hb dX8_finding_22 (by decide) ?_
  refine lv_iadd hx hb dX8_finding_23 ?_
  refine lv_topi (fun n_2 en_2 => ?_)
  clear en_2
  refine va_iast hx hb hK hP hD hS 1 0 rfl rfl (vp_in_nI (n := 6) (by decide) (by decide)) dX8_finding_24 (fun H locs hP hD hS => ?_)
  have hP : va_P (dC, dI) vwCl [(h0, .inr (6, [v0, v1, v2, v3, v4, v5, .ref t0, v7])), (t0, .inl (tc, 7, .inl (upd tf 6 n_2)))] H := hP
  have hD : va_D A [(h0, .inr (6, [v0, v1, v2, v3, v4, v5, .ref t0, v7])), (t0, .inl (tc, 7, .inl (upd tf 6 n_2)))] := hD
  refine lv_iload_n hx hb dX8_finding_25 rfl (lv_at hl 2 rfl) ?_
  have hP9 := hP.sub (ws' := [(h0, .inr (6, [v0, v1, v2, v3, v4, v5, .ref t0, v7])), (t0, .inl (tc, 7, .inl (upd tf 6 n_2)))]) [0, 1] rfl
  have hD9 := hD.sub (ws' := [(h0, .inr (6, [v0, v1, v2, v3, v4, v5, .ref t0, v7])), (t0, .inl (tc, 7, .inl (upd tf 6 n_2)))]) [0, 1] (by decide) rfl
  have hK9 := hK.sub (tys' := [(tc, .int)]) [0] rfl
  exact W.iret (v := (-1000000007)) hx hb hr (fun t ht hW => ⟨⟨(-1000000007), (), rfl, rfl, upd tf 6 n_2, by rw [ht]; exact hP9, va_K.moved hW.alike hK9, hD9⟩, hS.F ht⟩) hS.2.2 dX8_finding_26

def w_x_shape : List Cond := .code yX8_shape cX8_shape 3 (some .int) :: (([.methodLink RX8 55 yX8_isKind, .static yX8_isKind, .initialized RX8, .code yX8_isKind cX8_isKind 1 (some .boolean), .constant RX8 62 (-1000000001), .methodLink RX8 63 yX8_finding, .instanceMethod yX8_finding, .selects RX8 yX8_finding yX8_finding, .code yX8_finding cX8_finding 3 (some .int), .fieldLink RX8 46 "LampShapes" "told" "[I", .methodLink RX8 59 yX8_isPoints, .static yX8_isPoints, .code yX8_isPoints cX8_isPoints 1 (some .boolean), .constant RX8 307 (65535), .fieldLink RX8 10 "LampShapes" "now" "LLampShapes$Stage;", .methodLink RX8 67 yX6_hasRoomForShape, .instanceMethod yX6_hasRoomForShape, .selects RX6 yX6_hasRoomForShape yX6_hasRoomForShape, .initialized RX6, .code yX6_hasRoomForShape cX6_hasRoomForShape 1 (some .boolean), .fieldLink RX6 9 "LampShapes$Stage" "shapes" "I", .methodLink RX8 72 yX6_addShape, .instanceMethod yX6_addShape, .selects RX6 yX6_addShape yX6_addShape, .code yX6_addShape cX6_addShape 3 (some .int), .fieldLink RX6 15 "LampShapes$Stage" "kinds" "[I", .fieldLink RX6 19 "LampShapes$Stage" "points" "[I", .constant RX8 71 (-1000000002)] : List Cond) ++ wsX80 ++ wsX60)
set_option maxRecDepth 20000 in
theorem g_x_shape_x_isKind_55 : GoodIn w_x_shape (va_wsS RX8 55 yX8_isKind w_x_isKind) := goodIn_r _ [1, 2, 3, 4] rfl (by decide +kernel)
set_option maxRecDepth 20000 in
theorem g_x_shape_f_beyond_63 : GoodIn w_x_shape (wsV RX8 63 RX8 yX8_finding w_f_beyond) := goodIn_r _ [6, 7, 8, 3, 9, 5, 10, 29, 30, 31, 32, 33, 34, 35, 36] rfl (by decide +kernel)
set_option maxRecDepth 20000 in
theorem g_x_shape_x_isPoints_59 : GoodIn w_x_shape (va_wsS RX8 59 yX8_isPoints w_x_isPoints) := goodIn_r _ [11, 12, 3, 13, 14] rfl (by decide +kernel)
set_option maxRecDepth 20000 in
theorem g_x_shape_s_hasRoomForShape_67 : GoodIn w_x_shape (wsV RX8 67 RX6 yX6_hasRoomForShape w_s_hasRoomForShape) := goodIn_r _ [16, 17, 18, 19, 20, 21, 37, 38, 39, 40, 41, 42, 43, 44, 45] rfl (by decide +kernel)
set_option maxRecDepth 20000 in
theorem g_x_shape_s_addShape_72 : GoodIn w_x_shape (wsV RX8 72 RX6 yX6_addShape w_s_addShape) := goodIn_r _ [22, 23, 24, 19, 25, 26, 21, 27, 37, 38, 39, 40, 41, 42, 43, 44, 45] rfl (by decide +kernel)
set_option maxRecDepth 20000 in
theorem g_x_shape_f_full_63 : GoodIn w_x_shape (wsV RX8 63 RX8 yX8_finding w_f_full) := goodIn_r _ [6, 7, 8, 3, 9, 5, 10, 29, 30, 31, 32, 33, 34, 35, 36] rfl (by decide +kernel)
set_option maxHeartbeats 4000000 in
set_option maxRecDepth 100000 in
theorem x_shape (l : Launch) (dC : Nat → ClassId) (dI : Nat → Nat → Nat) (ad : Nat → Nat) (h0 : Nat) (a : Int32) (b : Int32) (ah : Nat) (v1 : Value) (v2 : Value) (v3 : Value) (v4 : Value) (v5 : Value) (t0 : Nat) (v7 : Value) (tc : ClassId) (tf : Nat → Int32) (sh : Int32) (q1 : Nat) (q2 : Nat) (w3 : Value) (w4 : Value) (w5 : Value) (w6 : Value) (w7 : Value) (w8 : Value) (c1 : ClassId) (f1 : Nat → Int32) (c2 : ClassId) (f2 : Nat → Int32) (sz : Nat) (hsh : 0 ≤ sh.toInt ∧ sh.toInt ≤ 9) : Met l yX8_shape w_x_shape ({ frames := 1, cells := 0, slots := 0, locals := 22 } : Room) (va_Pc [.ref h0, .int a, .int b] (preM dC dI ad [(tc, .int), (c1, .int), (c2, .int)] [(h0, .inr (6, [.ref ah, v1, v2, v3, v4, v5, .ref t0, v7])), (t0, .inl (tc, 7, .inl tf)), (ah, .inr (4, [.int sh, .ref q1, .ref q2, w3, w4, w5, w6, w7, w8])), (q1, .inl (c1, 9, .inl f1)), (q2, .inl (c2, 9, .inl f2))] sz)) (va_Qi (fun (r : Int32) (_ : Unit) => True) (fun _ t => ∃ (tg : Nat → Int32), ∃ (sh2 : Int32), ∃ (g1 : Nat → Int32), ∃ (g2 : Nat → Int32), (0 ≤ sh2.toInt ∧ sh2.toInt ≤ 9) ∧ va_P (dC, dI) vwCl [(h0, .inr (6, [.ref ah, v1, v2, v3, v4, v5, .ref t0, v7])), (t0, .inl (tc, 7, .inl tg)), (ah, .inr (4, [.int sh2, .ref q1, .ref q2, w3, w4, w5, w6, w7, w8])), (q1, .inl (c1, 9, .inl g1)), (q2, .inl (c2, 9, .inl g2))] t.heap ∧ va_K (dC, dI) vwCl [(tc, .int), (c1, .int), (c2, .int)] t ∧ va_D (va_A [(h0, .inr (6, [.ref ah, v1, v2, v3, v4, v5, .ref t0, v7])), (t0, .inl (tc, 7, .inl tf)), (ah, .inr (4, [.int sh, .ref q1, .ref q2, w3, w4, w5, w6, w7, w8])), (q1, .inl (c1, 9, .inl f1)), (q2, .inl (c2, 9, .inl f2))] sz) [(h0, .inr (6, [.ref ah, v1, v2, v3, v4, v5, .ref t0, v7])), (t0, .inl (tc, 7, .inl tg)), (ah, .inr (4, [.int sh2, .ref q1, .ref q2, w3, w4, w5, w6, w7, w8])), (q1, .inl (c1, 9, .inl g1)), (q2, .inl (c2, 9, .inl g2))]) (va_A [(h0, .inr (6, [.ref ah, v1, v2, v3, v4, v5, .ref t0, v7])), (t0, .inl (tc, 7, .inl tf)), (ah, .inr (4, [.int sh, .ref q1, .ref q2, w3, w4, w5, w6, w7, w8])), (q1, .inl (c1, 9, .inl f1)), (q2, .inl (c2, 9, .inl f2))] sz)) 0 0 (va_A [(h0, .inr (6, [.ref ah, v1, v2, v3, v4, v5, .ref t0, v7])), (t0, .inl (tc, 7, .inl tf)), (ah, .inr (4, [.int sh, .ref q1, .ref q2, w3, w4, w5, w6, w7, w8])), (q1, .inl (c1, 9, .inl f1)), (q2, .inl (c2, 9, .inl f2))] sz) := by
  refine Met.ofW (cc := cX8_shape) (maxL := 3) (ret := (some .int)) (by decide) rfl ?_
  intro p e s m args below meth c s₁ B hml hv
  obtain ⟨rfl, hsz, hP, hK, hD0, hev⟩ := hv
  have hx := B.exec
  have hb := B.bytes
  have hr := B.returns
  have hts := atoms_spec (ws := w_x_shape) B.pre
  have hown : s.vm.findClass RX8 = some m.cls := findClass_of_methodNamed B.named
  have hlocks := B.notSynchronized
  have inX8 : ∀ w ∈ wsX80, w ∈ w_x_shape := fun w h => List.mem_cons_of_mem _ (List.mem_append_left _ (List.mem_append_right _ h))
  have inX6 : ∀ w ∈ wsX60, w ∈ w_x_shape := fun w h => List.mem_cons_of_mem _ (List.mem_append_right _ h)
  subst hsz
  have hD := hD0.self (sz := s.heap.size)
  generalize hAe : va_A [(h0, .inr (6, [.ref ah, v1, v2, v3, v4, v5, .ref t0, v7])), (t0, .inl (tc, 7, .inl tf)), (ah, .inr (4, [.int sh, .ref q1, .ref q2, w3, w4, w5, w6, w7, w8])), (q1, .inl (c1, 9, .inl f1)), (q2, .inl (c2, 9, .inl f2))] s.heap.size = A at hD ⊢
  have hA : ∀ q : Nat, s.heap.size ≤ q → A q := fun q h => by rw [← hAe]; exact Or.inr h
  have hS : va_S A s.heap s.heap [] := va_S.rf
  have hP : va_P (dC, dI) vwCl [(h0, .inr (6, [.ref ah, v1, v2, v3, v4, v5, .ref t0, v7])), (t0, .inl (tc, 7, .inl tf)), (ah, .inr (4, [.int sh, .ref q1, .ref q2, w3, w4, w5, w6, w7, w8])), (q1, .inl (c1, 9, .inl f1)), (q2, .inl (c2, 9, .inl f2))] s.heap := hP
  have hl := lv_entry ([.ref h0, .int a, .int b]) (n := 3) (Nat.le_of_ble_eq_true rfl)
  rw [lg_entry_eq]
  generalize (lg_sl ([.ref h0, .int a, .int b]) ++ List.replicate (3 - (lg_sl ([.ref h0, .int a, .int b])).length) Slot.unset).toArray = ls at hl ⊢
  have hl : lv_has ls 3 [(0, .ref h0), (1, .int a), (2, .int b)] := hl
  refine lv_iload_n hx hb dX8_shape_0 rfl (lv_at hl 1 rfl) ?_
  have hPc := hP.sub (ws' := []) [] rfl
  have hKc := hK.sub (tys' := []) [] rfl
  refine vp_callSi (W.runS (As := [.int a]) (rest := []) ⟨hx, hb, hml, hown, hts⟩ (x_isKind l dC dI ad a ) (va_cwS 1 hts g_x_shape_x_isKind_55 rfl rfl rfl (by decide +kernel) ⟨(Nat.le_of_ble_eq_true rfl), (Nat.le_of_ble_eq_true rfl)⟩) ⟨preS_blind, fun U hU hW => ⟨rfl, preS_at hU hW hPc hKc hev⟩⟩ rfl rfl hl.1 rfl (lv_room (Nat.le_of_ble_eq_true rfl)) dX8_shape_1 ⟨(Nat.le_of_ble_eq_true rfl), (Nat.le_of_ble_eq_true rfl)⟩) (fun r_1 hw => ?_)
  refine lv_if_eq (tgt := 14) hx hb dX8_shape_4 (by decide) (fun c_2 => ?_) (fun c_2 => ?_)
  · skip
    have tc_2 : r_1.toInt = 0 := (fa_eq _ _).mp c_2
    refine lv_aload_n hx hb dX8_shape_14 rfl (lv_at hl 0 rfl) ?_
    refine lv_ldc hx hb hown (hts _ (List.mem_of_getElem? (i := 5) rfl)) dX8_shape_15 ?_
    have hPc := hP.sub (ws' := [(h0, .inr (6, [.ref ah, v1, v2, v3, v4, v5, .ref t0, v7])), (t0, .inl (tc, 7, .inl tf))]) [0, 1] rfl
    have hKc := hK.sub (tys' := [(tc, .int)]) [0] rfl
    have hDc := hD.sub (ws' := [(h0, .inr (6, [.ref ah, v1, v2, v3, v4, v5, .ref t0, v7])), (t0, .inl (tc, 7, .inl tf))]) [0, 1] (by decide) rfl
    have hFc := va_free (wc := [(h0, .inr (6, [.ref ah, v1, v2, v3, v4, v5, .ref t0, v7])), (t0, .inl (tc, 7, .inl tf))]) hD hS hA [0, 1] rfl
    refine va_calli (va_runV (As := [.int (-1000000001)]) (rest := []) ⟨hx, hb, hml, hown, hts⟩ (f_beyond l dC dI ad h0 (.ref ah) v1 v2 v3 v4 v5 t0 v7 tc tf s.heap.size ) (cwV 1 hts g_x_shape_f_beyond_63 rfl rfl rfl (by decide +kernel) ⟨(Nat.le_of_ble_eq_true rfl), (Nat.le_of_ble_eq_true rfl)⟩) ⟨preM_blind, va_recv hKc hPc (ci := 6) (q0 := 0) rfl rfl, fun U hU hW => ⟨rfl, preM_at hU hW hPc hKc hDc hev⟩⟩ rfl rfl hl.1 rfl (lv_room (Nat.le_of_ble_eq_true rfl)) dX8_shape_17 ⟨(Nat.le_of_ble_eq_true rfl), (Nat.le_of_ble_eq_true rfl)⟩) hS (fun q _ h => hFc q h) hFc (fun r_3 u t H1 locs ht hvm hw hB hz1 hk1 hS => ?_)
    obtain ⟨tg_4, hP1, hK1, hD1⟩ := hB
    rw [ht] at hP1
    have hK1 := va_K.moved hvm.symm hK1
    obtain ⟨hP, hD⟩ := va_join (wr := [(ah, .inr (4, [.int sh, .ref q1, .ref q2, w3, w4, w5, w6, w7, w8])), (q1, .inl (c1, 9, .inl f1)), (q2, .inl (c2, 9, .inl f2))]) (w1 := [(h0, .inr (6, [.ref ah, v1, v2, v3, v4, v5, .ref t0, v7])), (t0, .inl (tc, 7, .inl tg_4))]) hP hD [0, 1] [2, 3, 4] rfl rfl (by decide) (by decide) hk1 hFc hP1 hD1
    generalize H1 = H at hP hS ⊢
    have hP : va_P (dC, dI) vwCl [(ah, .inr (4, [.int sh, .ref q1, .ref q2, w3, w4, w5, w6, w7, w8])), (q1, .inl (c1, 9, .inl f1)), (q2, .inl (c2, 9, .inl f2)), (h0, .inr (6, [.ref ah, v1, v2, v3, v4, v5, .ref t0, v7])), (t0, .inl (tc, 7, .inl tg_4))] H := hP
    have hD : va_D A [(ah, .inr (4, [.int sh, .ref q1, .ref q2, w3, w4, w5, w6, w7, w8])), (q1, .inl (c1, 9, .inl f1)), (q2, .inl (c2, 9, .inl f2)), (h0, .inr (6, [.ref ah, v1, v2, v3, v4, v5, .ref t0, v7])), (t0, .inl (tc, 7, .inl tg_4))] := hD
    subst hw
    have hP9 := hP.sub (ws' := [(h0, .inr (6, [.ref ah, v1, v2, v3, v4, v5, .ref t0, v7])), (t0, .inl (tc, 7, .inl tg_4)), (ah, .inr (4, [.int sh, .ref q1, .ref q2, w3, w4, w5, w6, w7, w8])), (q1, .inl (c1, 9, .inl f1)), (q2, .inl (c2, 9, .inl f2))]) [3, 4, 0, 1, 2] rfl
    have hD9 := hD.sub (ws' := [(h0, .inr (6, [.ref ah, v1, v2, v3, v4, v5, .ref t0, v7])), (t0, .inl (tc, 7, .inl tg_4)), (ah, .inr (4, [.int sh, .ref q1, .ref q2, w3, w4, w5, w6, w7, w8])), (q1, .inl (c1, 9, .inl f1)), (q2, .inl (c2, 9, .inl f2))]) [3, 4, 0, 1, 2] (by decide) rfl
    have hK9 := hK.sub (tys' := [(tc, .int), (c1, .int), (c2, .int)]) [0, 1, 2] rfl
    exact W.iret (v := ((-1000000001) : Int32)) hx hb hr (fun t ht hW => ⟨⟨((-1000000001) : Int32), (), rfl, trivial, tg_4, sh, f1, f2, hsh, by rw [ht]; exact hP9, va_K.moved hW.alike hK9, hD9⟩, hS.F ht⟩) hS.2.2 dX8_shape_20
  · skip
    have tc_2 : ¬ r_1.toInt = 0 := fun h => c_2 ((fa_eq _ _).mpr h)
    refine lv_iload_n hx hb dX8_shape_7 rfl (lv_at hl 2 rfl) ?_
    have hPc := hP.sub (ws' := []) [] rfl
    have hKc := hK.sub (tys' := []) [] rfl
    refine vp_callSi (W.runS (As := [.int b]) (rest := []) ⟨hx, hb, hml, hown, hts⟩ (x_isPoints l dC dI ad b ) (va_cwS 1 hts g_x_shape_x_isPoints_59 rfl rfl rfl (by decide +kernel) ⟨(Nat.le_of_ble_eq_true rfl), (Nat.le_of_ble_eq_true rfl)⟩) ⟨preS_blind, fun U hU hW => ⟨rfl, preS_at hU hW hPc hKc hev⟩⟩ rfl rfl hl.1 rfl (lv_room (Nat.le_of_ble_eq_true rfl)) dX8_shape_8 ⟨(Nat.le_of_ble_eq_true rfl), (Nat.le_of_ble_eq_true rfl)⟩) (fun r_5 hw => ?_)
    refine lv_if_ne (tgt := 21) hx hb dX8_shape_11 (by decide) (fun c_6 => ?_) (fun c_6 => ?_)
    · skip
      have tc_6 : ¬ r_5.toInt = 0 := fun h => c_6 ((fa_eq _ _).mpr h)
      refine lv_aload_n hx hb dX8_shape_21 rfl (lv_at hl 0 rfl) ?_
      refine va_get (D := (dC, dI)) (ci := 6) (v := .ref ah) (C := RX8) (T := TX8) (N := 8) hx hb hts inX8 hown hK hP 0 rfl rfl 0 (by decide) (hts _ (List.mem_of_getElem? (i := 15) rfl)) (fun _ h9 => h9) rfl dX8_shape_22 ?_
      have hPc := hP.sub (ws' := [(ah, .inr (4, [.int sh, .ref q1, .ref q2, w3, w4, w5, w6, w7, w8]))]) [2] rfl
      have hKc := hK.sub (tys' := []) [] rfl
      refine vp_callSi (W.runV (As := []) (rest := []) ⟨hx, hb, hml, hown, hts⟩ (s_hasRoomForShape l dC dI ad ah sh (.ref q1) (.ref q2) w3 w4 w5 w6 w7 w8 ) (cwV 0 hts g_x_shape_s_hasRoomForShape_67 rfl rfl rfl (by decide +kernel) ⟨(Nat.le_of_ble_eq_true rfl), (Nat.le_of_ble_eq_true rfl)⟩) ⟨preS_blind, va_recv hKc hPc (ci := 4) (q0 := 0) rfl rfl, fun U hU hW => ⟨rfl, preS_at hU hW hPc hKc hev⟩⟩ rfl rfl hl.1 rfl (lv_room (Nat.le_of_ble_eq_true rfl)) dX8_shape_25 ⟨(Nat.le_of_ble_eq_true rfl), (Nat.le_of_ble_eq_true rfl)⟩) (fun r_7 hw => ?_)
      have hr_7 : (r_7.toInt = 1 ∧ sh.toInt < 9) ∨ r_7.toInt = 0 := hw
      refine lv_if_ne (tgt := 38) hx hb dX8_shape_28 (by decide) (fun c_8 => ?_) (fun c_8 => ?_)
      · skip
        have tc_8 : ¬ r_7.toInt = 0 := fun h => c_8 ((fa_eq _ _).mpr h)
        refine lv_aload_n hx hb dX8_shape_38 rfl (lv_at hl 0 rfl) ?_
        refine va_get (D := (dC, dI)) (ci := 6) (v := .ref ah) (C := RX8) (T := TX8) (N := 8) hx hb hts inX8 hown hK hP 0 rfl rfl 0 (by decide) (hts _ (List.mem_of_getElem? (i := 15) rfl)) (fun _ h9 => h9) rfl dX8_shape_39 ?_
        refine lv_iload_n hx hb dX8_shape_42 rfl (lv_at hl 1 rfl) ?_
        refine lv_iload_n hx hb dX8_shape_43 rfl (lv_at hl 2 rfl) ?_
        have hPc := hP.sub (ws' := [(ah, .inr (4, [.int sh, .ref q1, .ref q2, w3, w4, w5, w6, w7, w8])), (q1, .inl (c1, 9, .inl f1)), (q2, .inl (c2, 9, .inl f2))]) [2, 3, 4] rfl
        have hKc := hK.sub (tys' := [(c1, .int), (c2, .int)]) [1, 2] rfl
        have hDc := hD.sub (ws' := [(ah, .inr (4, [.int sh, .ref q1, .ref q2, w3, w4, w5, w6, w7, w8])), (q1, .inl (c1, 9, .inl f1)), (q2, .inl (c2, 9, .inl f2))]) [2, 3, 4] (by decide) rfl
        have hFc := va_free (wc := [(ah, .inr (4, [.int sh, .ref q1, .ref q2, w3, w4, w5, w6, w7, w8])), (q1, .inl (c1, 9, .inl f1)), (q2, .inl (c2, 9, .inl f2))]) hD hS hA [2, 3, 4] rfl
        refine va_calli (va_runV (As := [.int a, .int b]) (rest := []) ⟨hx, hb, hml, hown, hts⟩ (s_addShape l dC dI ad ah a b sh q1 q2 w3 w4 w5 w6 w7 w8 c1 f1 c2 f2 s.heap.size (by first | omega | decide | (simp only [fa_lt, fa_le, fa_eq, and_true, true_and, and_false, false_and, not_true_eq_false, not_false_eq_true, li_0, li_1, li_2, li_3, li_4, li_5, li_6, li_7, li_8, li_9, li_10, li_12, li_15, li_16, li_20, li_30, li_34, li_38, li_40, li_63, li_64, li_65, li_78, li_120, li_1000, li_4000, li_10000, li_11077, li_255, li_65535, li_m1, li_m2, li_m1000000001, li_m1000000002, li_m1000000003, li_m1000000004, li_m1000000005, li_m1000000006, li_m1000000007, or_true, true_or, or_false, false_or, implies_true, true_implies, false_implies] <;> omega))) (cwV 2 hts g_x_shape_s_addShape_72 rfl rfl rfl (by decide +kernel) ⟨(Nat.le_of_ble_eq_true rfl), (Nat.le_of_ble_eq_true rfl)⟩) ⟨preM_blind, va_recv hKc hPc (ci := 4) (q0 := 0) rfl rfl, fun U hU hW => ⟨rfl, preM_at hU hW hPc hKc hDc hev⟩⟩ rfl rfl hl.1 rfl (lv_room (Nat.le_of_ble_eq_true rfl)) dX8_shape_44 ⟨(Nat.le_of_ble_eq_true rfl), (Nat.le_of_ble_eq_true rfl)⟩) hS (fun q _ h => hFc q h) hFc (fun r_9 u t H1 locs ht hvm hw hB hz1 hk1 hS => ?_)
        obtain ⟨sh_10, g_11, g_12, hq_13, hP1, hK1, hD1⟩ := hB
        rw [ht] at hP1
        have hK1 := va_K.moved hvm.symm hK1
        obtain ⟨hP, hD⟩ := va_join (wr := [(h0, .inr (6, [.ref ah, v1, v2, v3, v4, v5, .ref t0, v7])), (t0, .inl (tc, 7, .inl tf))]) (w1 := [(ah, .inr (4, [.int sh_10, .ref q1, .ref q2, w3, w4, w5, w6, w7, w8])), (q1, .inl (c1, 9, .inl g_11)), (q2, .inl (c2, 9, .inl g_12))]) hP hD [2, 3, 4] [0, 1] rfl rfl (by decide) (by decide) hk1 hFc hP1 hD1
        generalize H1 = H at hP hS ⊢
        have hP : va_P (dC, dI) vwCl [(h0, .inr (6, [.ref ah, v1, v2, v3, v4, v5, .ref t0, v7])), (t0, .inl (tc, 7, .inl tf)), (ah, .inr (4, [.int sh_10, .ref q1, .ref q2, w3, w4, w5, w6, w7, w8])), (q1, .inl (c1, 9, .inl g_11)), (q2, .inl (c2, 9, .inl g_12))] H := hP
        have hD : va_D A [(h0, .inr (6, [.ref ah, v1, v2, v3, v4, v5, .ref t0, v7])), (t0, .inl (tc, 7, .inl tf)), (ah, .inr (4, [.int sh_10, .ref q1, .ref q2, w3, w4, w5, w6, w7, w8])), (q1, .inl (c1, 9, .inl g_11)), (q2, .inl (c2, 9, .inl g_12))] := hD
        have hP9 := hP.sub (ws' := [(h0, .inr (6, [.ref ah, v1, v2, v3, v4, v5, .ref t0, v7])), (t0, .inl (tc, 7, .inl tf)), (ah, .inr (4, [.int sh_10, .ref q1, .ref q2, w3, w4, w5, w6, w7, w8])), (q1, .inl (c1, 9, .inl g_11)), (q2, .inl (c2, 9, .inl g_12))]) [0, 1, 2, 3, 4] rfl
        have hD9 := hD.sub (ws' := [(h0, .inr (6, [.ref ah, v1, v2, v3, v4, v5, .ref t0, v7])), (t0, .inl (tc, 7, .inl tf)), (ah, .inr (4, [.int sh_10, .ref q1, .ref q2, w3, w4, w5, w6, w7, w8])), (q1, .inl (c1, 9, .inl g_11)), (q2, .inl (c2, 9, .inl g_12))]) [0, 1, 2, 3, 4] (by decide) rfl
        have hK9 := hK.sub (tys' := [(tc, .int), (c1, .int), (c2, .int)]) [0, 1, 2] rfl
        exact W.iret (v := r_9) hx hb hr (fun t ht hW => ⟨⟨r_9, (), rfl, trivial, tf, sh_10, g_11, g_12, (by first | omega | decide | (simp only [fa_lt, fa_le, fa_eq, and_true, true_and, and_false, false_and, not_true_eq_false, not_false_eq_true, li_0, li_1, li_2, li_3, li_4, li_5, li_6, li_7, li_8, li_9, li_10, li_12, li_15, li_16, li_20, li_30, li_34, li_38, li_40, li_63, li_64, li_65, li_78, li_120, li_1000, li_4000, li_10000, li_11077, li_255, li_65535, li_m1, li_m2, li_m1000000001, li_m1000000002, li_m1000000003, li_m1000000004, li_m1000000005, li_m1000000006, li_m1000000007, or_true, true_or, or_false, false_or, implies_true, true_implies, false_implies] <;> omega)), by rw [ht]; exact hP9, va_K.moved hW.alike hK9, hD9⟩, hS.F ht⟩) hS.2.2 dX8_shape_47
      · skip
        have tc_8 : r_7.toInt = 0 := (fa_eq _ _).mp c_8
        refine lv_aload_n hx hb dX8_shape_31 rfl (lv_at hl 0 rfl) ?_
        refine lv_ldc hx hb hown (hts _ (List.mem_of_getElem? (i := 28) rfl)) dX8_shape_32 ?_
        have hPc := hP.sub (ws' := [(h0, .inr (6, [.ref ah, v1, v2, v3, v4, v5, .ref t0, v7])), (t0, .inl (tc, 7, .inl tf))]) [0, 1] rfl
        have hKc := hK.sub (tys' := [(tc, .int)]) [0] rfl
        have hDc := hD.sub (ws' := [(h0, .inr (6, [.ref ah, v1, v2, v3, v4, v5, .ref t0, v7])), (t0, .inl (tc, 7, .inl tf))]) [0, 1] (by decide) rfl
        have hFc := va_free (wc := [(h0, .inr (6, [.ref ah, v1, v2, v3, v4, v5, .ref t0, v7])), (t0, .inl (tc, 7, .inl tf))]) hD hS hA [0, 1] rfl
        refine va_calli (va_runV (As := [.int (-1000000002)]) (rest := []) ⟨hx, hb, hml, hown, hts⟩ (f_full l dC dI ad h0 (.ref ah) v1 v2 v3 v4 v5 t0 v7 tc tf s.heap.size ) (cwV 1 hts g_x_shape_f_full_63 rfl rfl rfl (by decide +kernel) ⟨(Nat.le_of_ble_eq_true rfl), (Nat.le_of_ble_eq_true rfl)⟩) ⟨preM_blind, va_recv hKc hPc (ci := 6) (q0 := 0) rfl rfl, fun U hU hW => ⟨rfl, preM_at hU hW hPc hKc hDc hev⟩⟩ rfl rfl hl.1 rfl (lv_room (Nat.le_of_ble_eq_true rfl)) dX8_shape_34 ⟨(Nat.le_of_ble_eq_true rfl), (Nat.le_of_ble_eq_true rfl)⟩) hS (fun q _ h => hFc q h) hFc (fun r_14 u t H1 locs ht hvm hw hB hz1 hk1 hS => ?_)
        obtain ⟨tg_15, hP1, hK1, hD1⟩ := hB
        rw [ht] at hP1
        have hK1 := va_K.moved hvm.symm hK1
        obtain ⟨hP, hD⟩ := va_join (wr := [(ah, .inr (4, [.int sh, .ref q1, .ref q2, w3, w4, w5, w6, w7, w8])), (q1, .inl (c1, 9, .inl f1)), (q2, .inl (c2, 9, .inl f2))]) (w1 := [(h0, .inr (6, [.ref ah, v1, v2, v3, v4, v5, .ref t0, v7])), (t0, .inl (tc, 7, .inl tg_15))]) hP hD [0, 1] [2, 3, 4] rfl rfl (by decide) (by decide) hk1 hFc hP1 hD1
        generalize H1 = H at hP hS ⊢
        have hP : va_P (dC, dI) vwCl [(ah, .inr (4, [.int sh, .ref q1, .ref q2, w3, w4, w5, w6, w7, w8])), (q1, .inl (c1, 9, .inl f1)), (q2, .inl (c2, 9, .inl f2)), (h0, .inr (6, [.ref ah, v1, v2, v3, v4, v5, .ref t0, v7])), (t0, .inl (tc, 7, .inl tg_15))] H := hP
        have hD : va_D A [(ah, .inr (4, [.int sh, .ref q1, .ref q2, w3, w4, w5, w6, w7, w8])), (q1, .inl (c1, 9, .inl f1)), (q2, .inl (c2, 9, .inl f2)), (h0, .inr (6, [.ref ah, v1, v2, v3, v4, v5, .ref t0, v7])), (t0, .inl (tc, 7, .inl tg_15))] := hD
        subst hw
        have hP9 := hP.sub (ws' := [(h0, .inr (6, [.ref ah, v1, v2, v3, v4, v5, .ref t0, v7])), (t0, .inl (tc, 7, .inl tg_15)), (ah, .inr (4, [.int sh, .ref q1, .ref q2, w3, w4, w5, w6, w7, w8])), (q1, .inl (c1, 9, .inl f1)), (q2, .inl (c2, 9, .inl f2))]) [3, 4, 0, 1, 2] rfl
        have hD9 := hD.sub (ws' := [(h0, .inr (6, [.ref ah, v1, v2, v3, v4, v5, .ref t0, v7])), (t0, .inl (tc, 7, .inl tg_15)), (ah, .inr (4, [.int sh, .ref q1, .ref q2, w3, w4, w5, w6, w7, w8])), (q1, .inl (c1, 9, .inl f1)), (q2, .inl (c2, 9, .inl f2))]) [3, 4, 0, 1, 2] (by decide) rfl
        have hK9 := hK.sub (tys' := [(tc, .int), (c1, .int), (c2, .int)]) [0, 1, 2] rfl
        exact W.iret (v := ((-1000000002) : Int32)) hx hb hr (fun t ht hW => ⟨⟨((-1000000002) : Int32), (), rfl, trivial, tg_15, sh, f1, f2, hsh, by rw [ht]; exact hP9, va_K.moved hW.alike hK9, hD9⟩, hS.F ht⟩) hS.2.2 dX8_shape_37
    · skip
      have tc_6 : r_5.toInt = 0 := (fa_eq _ _).mp c_6
      refine lv_aload_n hx hb dX8_shape_14 rfl (lv_at hl 0 rfl) ?_
      refine lv_ldc hx hb hown (hts _ (List.mem_of_getElem? (i := 5) rfl)) dX8_shape_15 ?_
      have hPc := hP.sub (ws' := [(h0, .inr (6, [.ref ah, v1, v2, v3, v4, v5, .ref t0, v7])), (t0, .inl (tc, 7, .inl tf))]) [0, 1] rfl
      have hKc := hK.sub (tys' := [(tc, .int)]) [0] rfl
      have hDc := hD.sub (ws' := [(h0, .inr (6, [.ref ah, v1, v2, v3, v4, v5, .ref t0, v7])), (t0, .inl (tc, 7, .inl tf))]) [0, 1] (by decide) rfl
      have hFc := va_free (wc := [(h0, .inr (6, [.ref ah, v1, v2, v3, v4, v5, .ref t0, v7])), (t0, .inl (tc, 7, .inl tf))]) hD hS hA [0, 1] rfl
      refine va_calli (va_runV (As := [.int (-1000000001)]) (rest := []) ⟨hx, hb, hml, hown, hts⟩ (f_beyond l dC dI ad h0 (.ref ah) v1 v2 v3 v4 v5 t0 v7 tc tf s.heap.size ) (cwV 1 hts g_x_shape_f_beyond_63 rfl rfl rfl (by decide +kernel) ⟨(Nat.le_of_ble_eq_true rfl), (Nat.le_of_ble_eq_true rfl)⟩) ⟨preM_blind, va_recv hKc hPc (ci := 6) (q0 := 0) rfl rfl, fun U hU hW => ⟨rfl, preM_at hU hW hPc hKc hDc hev⟩⟩ rfl rfl hl.1 rfl (lv_room (Nat.le_of_ble_eq_true rfl)) dX8_shape_17 ⟨(Nat.le_of_ble_eq_true rfl), (Nat.le_of_ble_eq_true rfl)⟩) hS (fun q _ h => hFc q h) hFc (fun r_16 u t H1 locs ht hvm hw hB hz1 hk1 hS => ?_)
      obtain ⟨tg_17, hP1, hK1, hD1⟩ := hB
      rw [ht] at hP1
      have hK1 := va_K.moved hvm.symm hK1
      obtain ⟨hP, hD⟩ := va_join (wr := [(ah, .inr (4, [.int sh, .ref q1, .ref q2, w3, w4, w5, w6, w7, w8])), (q1, .inl (c1, 9, .inl f1)), (q2, .inl (c2, 9, .inl f2))]) (w1 := [(h0, .inr (6, [.ref ah, v1, v2, v3, v4, v5, .ref t0, v7])), (t0, .inl (tc, 7, .inl tg_17))]) hP hD [0, 1] [2, 3, 4] rfl rfl (by decide) (by decide) hk1 hFc hP1 hD1
      generalize H1 = H at hP hS ⊢
      have hP : va_P (dC, dI) vwCl [(ah, .inr (4, [.int sh, .ref q1, .ref q2, w3, w4, w5, w6, w7, w8])), (q1, .inl (c1, 9, .inl f1)), (q2, .inl (c2, 9, .inl f2)), (h0, .inr (6, [.ref ah, v1, v2, v3, v4, v5, .ref t0, v7])), (t0, .inl (tc, 7, .inl tg_17))] H := hP
      have hD : va_D A [(ah, .inr (4, [.int sh, .ref q1, .ref q2, w3, w4, w5, w6, w7, w8])), (q1, .inl (c1, 9, .inl f1)), (q2, .inl (c2, 9, .inl f2)), (h0, .inr (6, [.ref ah, v1, v2, v3, v4, v5, .ref t0, v7])), (t0, .inl (tc, 7, .inl tg_17))] := hD
      subst hw
      have hP9 := hP.sub (ws' := [(h0, .inr (6, [.ref ah, v1, v2, v3, v4, v5, .ref t0, v7])), (t0, .inl (tc, 7, .inl tg_17)), (ah, .inr (4, [.int sh, .ref q1, .ref q2, w3, w4, w5, w6, w7, w8])), (q1, .inl (c1, 9, .inl f1)), (q2, .inl (c2, 9, .inl f2))]) [3, 4, 0, 1, 2] rfl
      have hD9 := hD.sub (ws' := [(h0, .inr (6, [.ref ah, v1, v2, v3, v4, v5, .ref t0, v7])), (t0, .inl (tc, 7, .inl tg_17)), (ah, .inr (4, [.int sh, .ref q1, .ref q2, w3, w4, w5, w6, w7, w8])), (q1, .inl (c1, 9, .inl f1)), (q2, .inl (c2, 9, .inl f2))]) [3, 4, 0, 1, 2] (by decide) rfl
      have hK9 := hK.sub (tys' := [(tc, .int), (c1, .int), (c2, .int)]) [0, 1, 2] rfl
      exact W.iret (v := ((-1000000001) : Int32)) hx hb hr (fun t ht hW => ⟨⟨((-1000000001) : Int32), (), rfl, trivial, tg_17, sh, f1, f2, hsh, by rw [ht]; exact hP9, va_K.moved hW.alike hK9, hD9⟩, hS.F ht⟩) hS.2.2 dX8_shape_20

def w_x_of : List Cond := .code yX8_of cX8_of 3 (some .int) :: (([.fieldLink RX8 10 "LampShapes" "now" "LLampShapes$Stage;", .methodLink RX8 76 yX6_hasShape, .instanceMethod yX6_hasShape, .selects RX6 yX6_hasShape yX6_hasShape, .initialized RX6, .code yX6_hasShape cX6_hasShape 2 (some .boolean), .fieldLink RX6 9 "LampShapes$Stage" "shapes" "I", .methodLink RX8 85 yX6_isTorn, .instanceMethod yX6_isTorn, .selects RX6 yX6_isTorn yX6_isTorn, .code yX6_isTorn cX6_isTorn 2 (some .boolean), .fieldLink RX6 22 "LampShapes$Stage" "tornShapes" "I", .methodLink RX8 88 yX6_holdOf, .instanceMethod yX6_holdOf, .selects RX6 yX6_holdOf yX6_holdOf, .code yX6_holdOf cX6_holdOf 3 (some .int), .fieldLink RX6 25 "LampShapes$Stage" "heldShapes" "[I", .constant RX8 62 (-1000000001), .methodLink RX8 63 yX8_finding, .instanceMethod yX8_finding, .selects RX8 yX8_finding yX8_finding, .initialized RX8, .code yX8_finding cX8_finding 3 (some .int), .fieldLink RX8 46 "LampShapes" "told" "[I"] : List Cond) ++ wsX80 ++ wsX60)
set_option maxRecDepth 20000 in
theorem g_x_of_s_hasShape_76 : GoodIn w_x_of (wsV RX8 76 RX6 yX6_hasShape w_s_hasShape) := goodIn_r _ [2, 3, 4, 5, 6, 7, 33, 34, 35, 36, 37, 38, 39, 40, 41] rfl (by decide +kernel)
set_option maxRecDepth 20000 in
theorem g_x_of_s_isTorn_85 : GoodIn w_x_of (wsV RX8 85 RX6 yX6_isTorn w_s_isTorn) := goodIn_r _ [8, 9, 10, 5, 11, 12, 33, 34, 35, 36, 37, 38, 39, 40, 41] rfl (by decide +kernel)
set_option maxRecDepth 20000 in
theorem g_x_of_s_holdOf_88 : GoodIn w_x_of (wsV RX8 88 RX6 yX6_holdOf w_s_holdOf) := goodIn_r _ [13, 14, 15, 5, 16, 17, 33, 34, 35, 36, 37, 38, 39, 40, 41] rfl (by decide +kernel)
set_option maxRecDepth 20000 in
theorem g_x_of_f_beyond_63 : GoodIn w_x_of (wsV RX8 63 RX8 yX8_finding w_f_beyond) := goodIn_r _ [19, 20, 21, 22, 23, 18, 24, 25, 26, 27, 28, 29, 30, 31, 32] rfl (by decide +kernel)
set_option maxHeartbeats 4000000 in
set_option maxRecDepth 100000 in
theorem x_of (l : Launch) (dC : Nat → ClassId) (dI : Nat → Nat → Nat) (ad : Nat → Nat) (h0 : Nat) (a : Int32) (b : Int32) (ah : Nat) (v1 : Value) (v2 : Value) (v3 : Value) (v4 : Value) (v5 : Value) (t0 : Nat) (v7 : Value) (tc : ClassId) (tf : Nat → Int32) (sh : Int32) (q1 : Nat) (q2 : Nat) (tn : Int32) (q3 : Nat) (w5 : Value) (w6 : Value) (w7 : Value) (w8 : Value) (c1 : ClassId) (f1 : Nat → Int32) (c2 : ClassId) (f2 : Nat → Int32) (c3 : ClassId) (f3 : Nat → Int32) (sz : Nat) (hsh : 0 ≤ sh.toInt ∧ sh.toInt ≤ 9) : Met l yX8_of w_x_of ({ frames := 1, cells := 0, slots := 0, locals := 22 } : Room) (va_Pc [.ref h0, .int a, .int b] (preM dC dI ad [(tc, .int), (c1, .int), (c2, .int), (c3, .int)] [(h0, .inr (6, [.ref ah, v1, v2, v3, v4, v5, .ref t0, v7])), (t0, .inl (tc, 7, .inl tf)), (ah, .inr (4, [.int sh, .ref q1, .ref q2, .int tn, .ref q3, w5, w6, w7, w8])), (q1, .inl (c1, 9, .inl f1)), (q2, .inl (c2, 9, .inl f2)), (q3, .inl (c3, 4, .inl f3))] sz)) (va_Qi (fun (r : Int32) (_ : Unit) => True) (fun _ t => ∃ (tg : Nat → Int32), va_P (dC, dI) vwCl [(h0, .inr (6, [.ref ah, v1, v2, v3, v4, v5, .ref t0, v7])), (t0, .inl (tc, 7, .inl tg)), (ah, .inr (4, [.int sh, .ref q1, .ref q2, .int tn, .ref q3, w5, w6, w7, w8])), (q1, .inl (c1, 9, .inl f1)), (q2, .inl (c2, 9, .inl f2)), (q3, .inl (c3, 4, .inl f3))] t.heap ∧ va_K (dC, dI) vwCl [(tc, .int), (c1, .int), (c2, .int), (c3, .int)] t ∧ va_D (va_A [(h0, .inr (6, [.ref ah, v1, v2, v3, v4, v5, .ref t0, v7])), (t0, .inl (tc, 7, .inl tf)), (ah, .inr (4, [.int sh, .ref q1, .ref q2, .int tn, .ref q3, w5, w6, w7, w8])), (q1, .inl (c1, 9, .inl f1)), (q2, .inl (c2, 9, .inl f2)), (q3, .inl (c3, 4, .inl f3))] sz) [(h0, .inr (6, [.ref ah, v1, v2, v3, v4, v5, .ref t0, v7])), (t0, .inl (tc, 7, .inl tg)), (ah, .inr (4, [.int sh, .ref q1, .ref q2, .int tn, .ref q3, w5, w6, w7, w8])), (q1, .inl (c1, 9, .inl f1)), (q2, .inl (c2, 9, .inl f2)), (q3, .inl (c3, 4, .inl f3))]) (va_A [(h0, .inr (6, [.ref ah, v1, v2, v3, v4, v5, .ref t0, v7])), (t0, .inl (tc, 7, .inl tf)), (ah, .inr (4, [.int sh, .ref q1, .ref q2, .int tn, .ref q3, w5, w6, w7, w8])), (q1, .inl (c1, 9, .inl f1)), (q2, .inl (c2, 9, .inl f2)), (q3, .inl (c3, 4, .inl f3))] sz)) 0 0 (va_A [(h0, .inr (6, [.ref ah, v1, v2, v3, v4, v5, .ref t0, v7])), (t0, .inl (tc, 7, .inl tf)), (ah, .inr (4, [.int sh, .ref q1, .ref q2, .int tn, .ref q3, w5, w6, w7, w8])), (q1, .inl (c1, 9, .inl f1)), (q2, .inl (c2, 9, .inl f2)), (q3, .inl (c3, 4, .inl f3))] sz) := by
  refine Met.ofW (cc := cX8_of) (maxL := 3) (ret := (some .int)) (by decide) rfl ?_
  intro p e s m args below meth c s₁ B hml hv
  obtain ⟨rfl, hsz, hP, hK, hD0, hev⟩ := hv
  have hx := B.exec
  have hb := B.bytes
  have hr := B.returns
  have hts := atoms_spec (ws := w_x_of) B.pre
  have hown : s.vm.findClass RX8 = some m.cls := findClass_of_methodNamed B.named
  have hlocks := B.notSynchronized
  have inX8 : ∀ w ∈ wsX80, w ∈ w_x_of := fun w h => List.mem_cons_of_mem _ (List.mem_append_left _ (List.mem_append_right _ h))
  have inX6 : ∀ w ∈ wsX60, w ∈ w_x_of := fun w h => List.mem_cons_of_mem _ (List.mem_append_right _ h)
  subst hsz
  have hD := hD0.self (sz := s.heap.size)
  generalize hAe : va_A [(h0, .inr (6, [.ref ah, v1, v2, v3, v4, v5, .ref t0, v7])), (t0, .inl (tc, 7, .inl tf)), (ah, .inr (4, [.int sh, .ref q1, .ref q2, .int tn, .ref q3, w5, w6, w7, w8])), (q1, .inl (c1, 9, .inl f1)), (q2, .inl (c2, 9, .inl f2)), (q3, .inl (c3, 4, .inl f3))] s.heap.size = A at hD ⊢
  have hA : ∀ q : Nat, s.heap.size ≤ q → A q := fun q h => by rw [← hAe]; exact Or.inr h
  have hS : va_S A s.heap s.heap [] := va_S.rf
  have hP : va_P (dC, dI) vwCl [(h0, .inr (6, [.ref ah, v1, v2, v3, v4, v5, .ref t0, v7])), (t0, .inl (tc, 7, .inl tf)), (ah, .inr (4, [.int sh, .ref q1, .ref q2, .int tn, .ref q3, w5, w6, w7, w8])), (q1, .inl (c1, 9, .inl f1)), (q2, .inl (c2, 9, .inl f2)), (q3, .inl (c3, 4, .inl f3))] s.heap := hP
  have hl := lv_entry ([.ref h0, .int a, .int b]) (n := 3) (Nat.le_of_ble_eq_true rfl)
  rw [lg_entry_eq]
  generalize (lg_sl ([.ref h0, .int a, .int b]) ++ List.replicate (3 - (lg_sl ([.ref h0, .int a, .int b])).length) Slot.unset).toArray = ls at hl ⊢
  have hl : lv_has ls 3 [(0, .ref h0), (1, .int a), (2, .int b)] := hl
  refine lv_aload_n hx hb dX8_of_0 rfl (lv_at hl 0 rfl) ?_
  refine va_get (D := (dC, dI)) (ci := 6) (v := .ref ah) (C := RX8) (T := TX8) (N := 8) hx hb hts inX8 hown hK hP 0 rfl rfl 0 (by decide) (hts _ (List.mem_of_getElem? (i := 1) rfl)) (fun _ h9 => h9) rfl dX8_of_1 ?_
  refine lv_iload_n hx hb dX8_of_4 rfl (lv_at hl 1 rfl) ?_
  have hPc := hP.sub (ws' := [(ah, .inr (4, [.int sh, .ref q1, .ref q2, .int tn, .ref q3, w5, w6, w7, w8]))]) [2] rfl
  have hKc := hK.sub (tys' := []) [] rfl
  refine vp_callSi (W.runV (As := [.int a]) (rest := []) ⟨hx, hb, hml, hown, hts⟩ (s_hasShape l dC dI ad ah a sh (.ref q1) (.ref q2) (.int tn) (.ref q3) w5 w6 w7 w8 ) (cwV 1 hts g_x_of_s_hasShape_76 rfl rfl rfl (by decide +kernel) ⟨(Nat.le_of_ble_eq_true rfl), (Nat.le_of_ble_eq_true rfl)⟩) ⟨preS_blind, va_recv hKc hPc (ci := 4) (q0 := 0) rfl rfl, fun U hU hW => ⟨rfl, preS_at hU hW hPc hKc hev⟩⟩ rfl rfl hl.1 rfl (lv_room (Nat.le_of_ble_eq_true rfl)) dX8_of_5 ⟨(Nat.le_of_ble_eq_true rfl), (Nat.le_of_ble_eq_true rfl)⟩) (fun r_1 hw => ?_)
  have hr_1 : (r_1.toInt = 1 ∧ 0 ≤ a.toInt ∧ a.toInt < sh.toInt) ∨ r_1.toInt = 0 := hw
  refine lv_if_ne (tgt := 18) hx hb dX8_of_8 (by decide) (fun c_2 => ?_) (fun c_2 => ?_)
  · skip
    have tc_2 : ¬ r_1.toInt = 0 := fun h => c_2 ((fa_eq _ _).mpr h)
    refine lv_iload_n hx hb dX8_of_18 rfl (lv_at hl 2 rfl) ?_
    by_cases c_3 : b = 0
    · skip
      refine W.eq (g2 := F0 m 19 ls (.int 0 :: [])) (by rw [c_3]) ?_
      refine lv_tableIn (tgt := 48) hx hb dX8_of_19 (by decide) (by decide) rfl (by decide) ?_
      refine lv_aload_n hx hb dX8_of_48 rfl (lv_at hl 0 rfl) ?_
      refine va_get (D := (dC, dI)) (ci := 6) (v := .ref ah) (C := RX8) (T := TX8) (N := 8) hx hb hts inX8 hown hK hP 0 rfl rfl 0 (by decide) (hts _ (List.mem_of_getElem? (i := 1) rfl)) (fun _ h9 => h9) rfl dX8_of_49 ?_
      refine va_getN (D := (dC, dI)) (ci := 4) (v := .ref q1) (C := RX6) (T := TX6) (N := 9) hx hb hts inX6 hown hK hP 2 rfl rfl 1 (by decide) (ev_nest hev 2 rfl) (fun _ h9 => h9) rfl dX8_of_52 ?_
      refine lv_iload_n hx hb dX8_of_55 rfl (lv_at hl 1 rfl) ?_
      refine va_iald hx hb hK hP 3 1 rfl rfl (vp_in_iff.mpr ⟨by omega, by omega⟩) dX8_of_56 ?_
      refine lv_topi (fun n_4 en_4 => ?_)
      clear en_4
      have hP9 := hP.sub (ws' := [(h0, .inr (6, [.ref ah, v1, v2, v3, v4, v5, .ref t0, v7])), (t0, .inl (tc, 7, .inl tf)), (ah, .inr (4, [.int sh, .ref q1, .ref q2, .int tn, .ref q3, w5, w6, w7, w8])), (q1, .inl (c1, 9, .inl f1)), (q2, .inl (c2, 9, .inl f2)), (q3, .inl (c3, 4, .inl f3))]) [0, 1, 2, 3, 4, 5] rfl
      have hD9 := hD.sub (ws' := [(h0, .inr (6, [.ref ah, v1, v2, v3, v4, v5, .ref t0, v7])), (t0, .inl (tc, 7, .inl tf)), (ah, .inr (4, [.int sh, .ref q1, .ref q2, .int tn, .ref q3, w5, w6, w7, w8])), (q1, .inl (c1, 9, .inl f1)), (q2, .inl (c2, 9, .inl f2)), (q3, .inl (c3, 4, .inl f3))]) [0, 1, 2, 3, 4, 5] (by decide) rfl
      have hK9 := hK.sub (tys' := [(tc, .int), (c1, .int), (c2, .int), (c3, .int)]) [0, 1, 2, 3] rfl
      exact W.iret (v := n_4) hx hb hr (fun t ht hW => ⟨⟨n_4, (), rfl, trivial, tf, by rw [ht]; exact hP9, va_K.moved hW.alike hK9, hD9⟩, hS.F ht⟩) hS.2.2 dX8_of_57
    · skip
      by_cases c_5 : b = 1
      · skip
        refine W.eq (g2 := F0 m 19 ls (.int 1 :: [])) (by rw [c_5]) ?_
        refine lv_tableIn (tgt := 58) hx hb dX8_of_19 (by decide) (by decide) rfl (by decide) ?_
        refine lv_aload_n hx hb dX8_of_58 rfl (lv_at hl 0 rfl) ?_
        refine va_get (D := (dC, dI)) (ci := 6) (v := .ref ah) (C := RX8) (T := TX8) (N := 8) hx hb hts inX8 hown hK hP 0 rfl rfl 0 (by decide) (hts _ (List.mem_of_getElem? (i := 1) rfl)) (fun _ h9 => h9) rfl dX8_of_59 ?_
        refine va_getN (D := (dC, dI)) (ci := 4) (v := .ref q2) (C := RX6) (T := TX6) (N := 9) hx hb hts inX6 hown hK hP 2 rfl rfl 2 (by decide) (ev_nest hev 3 rfl) (fun _ h9 => h9) rfl dX8_of_62 ?_
        refine lv_iload_n hx hb dX8_of_65 rfl (lv_at hl 1 rfl) ?_
        refine va_iald hx hb hK hP 4 2 rfl rfl (vp_in_iff.mpr ⟨by omega, by omega⟩) dX8_of_66 ?_
        refine lv_topi (fun n_6 en_6 => ?_)
        clear en_6
        have hP9 := hP.sub (ws' := [(h0, .inr (6, [.ref ah, v1, v2, v3, v4, v5, .ref t0, v7])), (t0, .inl (tc, 7, .inl tf)), (ah, .inr (4, [.int sh, .ref q1, .ref q2, .int tn, .ref q3, w5, w6, w7, w8])), (q1, .inl (c1, 9, .inl f1)), (q2, .inl (c2, 9, .inl f2)), (q3, .inl (c3, 4, .inl f3))]) [0, 1, 2, 3, 4, 5] rfl
        have hD9 := hD.sub (ws' := [(h0, .inr (6, [.ref ah, v1, v2, v3, v4, v5, .ref t0, v7])), (t0, .inl (tc, 7, .inl tf)), (ah, .inr (4, [.int sh, .ref q1, .ref q2, .int tn, .ref q3, w5, w6, w7, w8])), (q1, .inl (c1, 9, .inl f1)), (q2, .inl (c2, 9, .inl f2)), (q3, .inl (c3, 4, .inl f3))]) [0, 1, 2, 3, 4, 5] (by decide) rfl
        have hK9 := hK.sub (tys' := [(tc, .int), (c1, .int), (c2, .int), (c3, .int)]) [0, 1, 2, 3] rfl
        exact W.iret (v := n_6) hx hb hr (fun t ht hW => ⟨⟨n_6, (), rfl, trivial, tf, by rw [ht]; exact hP9, va_K.moved hW.alike hK9, hD9⟩, hS.F ht⟩) hS.2.2 dX8_of_67
      · skip
        by_cases c_7 : b = 2
        · skip
          refine W.eq (g2 := F0 m 19 ls (.int 2 :: [])) (by rw [c_7]) ?_
          refine lv_tableIn (tgt := 68) hx hb dX8_of_19 (by decide) (by decide) rfl (by decide) ?_
          refine lv_aload_n hx hb dX8_of_68 rfl (lv_at hl 0 rfl) ?_
          refine va_get (D := (dC, dI)) (ci := 6) (v := .ref ah) (C := RX8) (T := TX8) (N := 8) hx hb hts inX8 hown hK hP 0 rfl rfl 0 (by decide) (hts _ (List.mem_of_getElem? (i := 1) rfl)) (fun _ h9 => h9) rfl dX8_of_69 ?_
          refine lv_iload_n hx hb dX8_of_72 rfl (lv_at hl 1 rfl) ?_
          have hPc := hP.sub (ws' := [(ah, .inr (4, [.int sh, .ref q1, .ref q2, .int tn, .ref q3, w5, w6, w7, w8]))]) [2] rfl
          have hKc := hK.sub (tys' := []) [] rfl
          refine vp_callSi (W.runV (As := [.int a]) (rest := []) ⟨hx, hb, hml, hown, hts⟩ (s_isTorn l dC dI ad ah a (.int sh) (.ref q1) (.ref q2) tn (.ref q3) w5 w6 w7 w8 ) (cwV 1 hts g_x_of_s_isTorn_85 rfl rfl rfl (by decide +kernel) ⟨(Nat.le_of_ble_eq_true rfl), (Nat.le_of_ble_eq_true rfl)⟩) ⟨preS_blind, va_recv hKc hPc (ci := 4) (q0 := 0) rfl rfl, fun U hU hW => ⟨rfl, preS_at hU hW hPc hKc hev⟩⟩ rfl rfl hl.1 rfl (lv_room (Nat.le_of_ble_eq_true rfl)) dX8_of_73 ⟨(Nat.le_of_ble_eq_true rfl), (Nat.le_of_ble_eq_true rfl)⟩) (fun r_8 hw => ?_)
          refine lv_if_eq (tgt := 83) hx hb dX8_of_76 (by decide) (fun c_9 => ?_) (fun c_9 => ?_)
          · skip
            have tc_9 : r_8.toInt = 0 := (fa_eq _ _).mp c_9
            refine lv_iconst (v := 0) hx hb dX8_of_83 (by decide) ?_
            have hP9 := hP.sub (ws' := [(h0, .inr (6, [.ref ah, v1, v2, v3, v4, v5, .ref t0, v7])), (t0, .inl (tc, 7, .inl tf)), (ah, .inr (4, [.int sh, .ref q1, .ref q2, .int tn, .ref q3, w5, w6, w7, w8])), (q1, .inl (c1, 9, .inl f1)), (q2, .inl (c2, 9, .inl f2)), (q3, .inl (c3, 4, .inl f3))]) [0, 1, 2, 3, 4, 5] rfl
            have hD9 := hD.sub (ws' := [(h0, .inr (6, [.ref ah, v1, v2, v3, v4, v5, .ref t0, v7])), (t0, .inl (tc, 7, .inl tf)), (ah, .inr (4, [.int sh, .ref q1, .ref q2, .int tn, .ref q3, w5, w6, w7, w8])), (q1, .inl (c1, 9, .inl f1)), (q2, .inl (c2, 9, .inl f2)), (q3, .inl (c3, 4, .inl f3))]) [0, 1, 2, 3, 4, 5] (by decide) rfl
            have hK9 := hK.sub (tys' := [(tc, .int), (c1, .int), (c2, .int), (c3, .int)]) [0, 1, 2, 3] rfl
            exact W.iret (v := (0 : Int32)) hx hb hr (fun t ht hW => ⟨⟨(0 : Int32), (), rfl, trivial, tf, by rw [ht]; exact hP9, va_K.moved hW.alike hK9, hD9⟩, hS.F ht⟩) hS.2.2 dX8_of_84
          · skip
            have tc_9 : ¬ r_8.toInt = 0 := fun h => c_9 ((fa_eq _ _).mpr h)
            refine lv_iconst (v := 1) hx hb dX8_of_79 (by decide) ?_
            refine lv_goto (tgt := 84) hx hb dX8_of_80 (by decide) ?_
            have hP9 := hP.sub (ws' := [(h0, .inr (6, [.ref ah, v1, v2, v3, v4, v5, .ref t0, v7])), (t0, .inl (tc, 7, .inl tf)), (ah, .inr (4, [.int sh, .ref q1, .ref q2, .int tn, .ref q3, w5, w6, w7, w8])), (q1, .inl (c1, 9, .inl f1)), (q2, .inl (c2, 9, .inl f2)), (q3, .inl (c3, 4, .inl f3))]) [0, 1, 2, 3, 4, 5] rfl
            have hD9 := hD.sub (ws' := [(h0, .inr (6, [.ref ah, v1, v2, v3, v4, v5, .ref t0, v7])), (t0, .inl (tc, 7, .inl tf)), (ah, .inr (4, [.int sh, .ref q1, .ref q2, .int tn, .ref q3, w5, w6, w7, w8])), (q1, .inl (c1, 9, .inl f1)), (q2, .inl (c2, 9, .inl f2)), (q3, .inl (c3, 4, .inl f3))]) [0, 1, 2, 3, 4, 5] (by decide) rfl
            have hK9 := hK.sub (tys' := [(tc, .int), (c1, .int), (c2, .int), (c3, .int)]) [0, 1, 2, 3] rfl
            exact W.iret (v := (1 : Int32)) hx hb hr (fun t ht hW => ⟨⟨(1 : Int32), (), rfl, trivial, tf, by rw [ht]; exact hP9, va_K.moved hW.alike hK9, hD9⟩, hS.F ht⟩) hS.2.2 dX8_of_84
        · skip
          by_cases c_10 : b = 3
          · skip
            refine W.eq (g2 := F0 m 19 ls (.int 3 :: [])) (by rw [c_10]) ?_
            refine lv_tableIn (tgt := 85) hx hb dX8_of_19 (by decide) (by decide) rfl (by decide) ?_
            refine lv_aload_n hx hb dX8_of_85 rfl (lv_at hl 0 rfl) ?_
            refine va_get (D := (dC, dI)) (ci := 6) (v := .ref ah) (C := RX8) (T := TX8) (N := 8) hx hb hts inX8 hown hK hP 0 rfl rfl 0 (by decide) (hts _ (List.mem_of_getElem? (i := 1) rfl)) (fun _ h9 => h9) rfl dX8_of_86 ?_
            refine lv_iload_n hx hb dX8_of_89 rfl (lv_at hl 1 rfl) ?_
            have hPc := hP.sub (ws' := [(ah, .inr (4, [.int sh, .ref q1, .ref q2, .int tn, .ref q3, w5, w6, w7, w8])), (q3, .inl (c3, 4, .inl f3))]) [2, 5] rfl
            have hKc := hK.sub (tys' := [(c3, .int)]) [3] rfl
            refine vp_callSi (W.runV (As := [.int a]) (rest := []) ⟨hx, hb, hml, hown, hts⟩ (s_holdOf l dC dI ad ah a (.int sh) (.ref q1) (.ref q2) (.int tn) q3 w5 w6 w7 w8 c3 f3 ) (cwV 1 hts g_x_of_s_holdOf_88 rfl rfl rfl (by decide +kernel) ⟨(Nat.le_of_ble_eq_true rfl), (Nat.le_of_ble_eq_true rfl)⟩) ⟨preS_blind, va_recv hKc hPc (ci := 4) (q0 := 0) rfl rfl, fun U hU hW => ⟨rfl, preS_at hU hW hPc hKc hev⟩⟩ rfl rfl hl.1 rfl (lv_room (Nat.le_of_ble_eq_true rfl)) dX8_of_90 ⟨(Nat.le_of_ble_eq_true rfl), (Nat.le_of_ble_eq_true rfl)⟩) (fun r_11 hw => ?_)
            have hr_11 : (-1) ≤ r_11.toInt ∧ r_11.toInt ≤ 3 := hw
            have hP9 := hP.sub (ws' := [(h0, .inr (6, [.ref ah, v1, v2, v3, v4, v5, .ref t0, v7])), (t0, .inl (tc, 7, .inl tf)), (ah, .inr (4, [.int sh, .ref q1, .ref q2, .int tn, .ref q3, w5, w6, w7, w8])), (q1, .inl (c1, 9, .inl f1)), (q2, .inl (c2, 9, .inl f2)), (q3, .inl (c3, 4, .inl f3))]) [0, 1, 2, 3, 4, 5] rfl
            have hD9 := hD.sub (ws' := [(h0, .inr (6, [.ref ah, v1, v2, v3, v4, v5, .ref t0, v7])), (t0, .inl (tc, 7, .inl tf)), (ah, .inr (4, [.int sh, .ref q1, .ref q2, .int tn, .ref q3, w5, w6, w7, w8])), (q1, .inl (c1, 9, .inl f1)), (q2, .inl (c2, 9, .inl f2)), (q3, .inl (c3, 4, .inl f3))]) [0, 1, 2, 3, 4, 5] (by decide) rfl
            have hK9 := hK.sub (tys' := [(tc, .int), (c1, .int), (c2, .int), (c3, .int)]) [0, 1, 2, 3] rfl
            exact W.iret (v := r_11) hx hb hr (fun t ht hW => ⟨⟨r_11, (), rfl, trivial, tf, by rw [ht]; exact hP9, va_K.moved hW.alike hK9, hD9⟩, hS.F ht⟩) hS.2.2 dX8_of_93
          · skip
            refine lv_tableOut (tgt := 94) hx hb dX8_of_19 (by simp only [fa_lt, fa_le, fa_eq, and_true, true_and, and_false, false_and, not_true_eq_false, not_false_eq_true, li_0, li_1, li_2, li_3, li_4, li_5, li_6, li_7, li_8, li_9, li_10, li_12, li_15, li_16, li_20, li_30, li_34, li_38, li_40, li_63, li_64, li_65, li_78, li_120, li_1000, li_4000, li_10000, li_11077, li_255, li_65535, li_m1, li_m2, li_m1000000001, li_m1000000002, li_m1000000003, li_m1000000004, li_m1000000005, li_m1000000006, li_m1000000007, or_true, true_or, or_false, false_or, implies_true, true_implies, false_implies] at c_3 c_5 c_7 c_10 <;> omega) (by decide) ?_
            refine lv_aload_n hx hb dX8_of_94 rfl (lv_at hl 0 rfl) ?_
            refine lv_ldc hx hb hown (hts _ (List.mem_of_getElem? (i := 18) rfl)) dX8_of_95 ?_
            have hPc := hP.sub (ws' := [(h0, .inr (6, [.ref ah, v1, v2, v3, v4, v5, .ref t0, v7])), (t0, .inl (tc, 7, .inl tf))]) [0, 1] rfl
            have hKc := hK.sub (tys' := [(tc, .int)]) [0] rfl
            have hDc := hD.sub (ws' := [(h0, .inr (6, [.ref ah, v1, v2, v3, v4, v5, .ref t0, v7])), (t0, .inl (tc, 7, .inl tf))]) [0, 1] (by decide) rfl
            have hFc := va_free (wc := [(h0, .inr (6, [.ref ah, v1, v2, v3, v4, v5, .ref t0, v7])), (t0, .inl (tc, 7, .inl tf))]) hD hS hA [0, 1] rfl
            refine va_calli (va_runV (As := [.int (-1000000001)]) (rest := []) ⟨hx, hb, hml, hown, hts⟩ (f_beyond l dC dI ad h0 (.ref ah) v1 v2 v3 v4 v5 t0 v7 tc tf s.heap.size ) (cwV 1 hts g_x_of_f_beyond_63 rfl rfl rfl (by decide +kernel) ⟨(Nat.le_of_ble_eq_true rfl), (Nat.le_of_ble_eq_true rfl)⟩) ⟨preM_blind, va_recv hKc hPc (ci := 6) (q0 := 0) rfl rfl, fun U hU hW => ⟨rfl, preM_at hU hW hPc hKc hDc hev⟩⟩ rfl rfl hl.1 rfl (lv_room (Nat.le_of_ble_eq_true rfl)) dX8_of_97 ⟨(Nat.le_of_ble_eq_true rfl), (Nat.le_of_ble_eq_true rfl)⟩) hS (fun q _ h => hFc q h) hFc (fun r_12 u t H1 locs ht hvm hw hB hz1 hk1 hS => ?_)
            obtain ⟨tg_13, hP1, hK1, hD1⟩ := hB
            rw [ht] at hP1
            have hK1 := va_K.moved hvm.symm hK1
            obtain ⟨hP, hD⟩ := va_join (wr := [(ah, .inr (4, [.int sh, .ref q1, .ref q2, .int tn, .ref q3, w5, w6, w7, w8])), (q1, .inl (c1, 9, .inl f1)), (q2, .inl (c2, 9, .inl f2)), (q3, .inl (c3, 4, .inl f3))]) (w1 := [(h0, .inr (6, [.ref ah, v1, v2, v3, v4, v5, .ref t0, v7])), (t0, .inl (tc, 7, .inl tg_13))]) hP hD [0, 1] [2, 3, 4, 5] rfl rfl (by decide) (by decide) hk1 hFc hP1 hD1
            generalize H1 = H at hP hS ⊢
            have hP : va_P (dC, dI) vwCl [(ah, .inr (4, [.int sh, .ref q1, .ref q2, .int tn, .ref q3, w5, w6, w7, w8])), (q1, .inl (c1, 9, .inl f1)), (q2, .inl (c2, 9, .inl f2)), (q3, .inl (c3, 4, .inl f3)), (h0, .inr (6, [.ref ah, v1, v2, v3, v4, v5, .ref t0, v7])), (t0, .inl (tc, 7, .inl tg_13))] H := hP
            have hD : va_D A [(ah, .inr (4, [.int sh, .ref q1, .ref q2, .int tn, .ref q3, w5, w6, w7, w8])), (q1, .inl (c1, 9, .inl f1)), (q2, .inl (c2, 9, .inl f2)), (q3, .inl (c3, 4, .inl f3)), (h0, .inr (6, [.ref ah, v1, v2, v3, v4, v5, .ref t0, v7])), (t0, .inl (tc, 7, .inl tg_13))] := hD
            subst hw
            have hP9 := hP.sub (ws' := [(h0, .inr (6, [.ref ah, v1, v2, v3, v4, v5, .ref t0, v7])), (t0, .inl (tc, 7, .inl tg_13)), (ah, .inr (4, [.int sh, .ref q1, .ref q2, .int tn, .ref q3, w5, w6, w7, w8])), (q1, .inl (c1, 9, .inl f1)), (q2, .inl (c2, 9, .inl f2)), (q3, .inl (c3, 4, .inl f3))]) [4, 5, 0, 1, 2, 3] rfl
            have hD9 := hD.sub (ws' := [(h0, .inr (6, [.ref ah, v1, v2, v3, v4, v5, .ref t0, v7])), (t0, .inl (tc, 7, .inl tg_13)), (ah, .inr (4, [.int sh, .ref q1, .ref q2, .int tn, .ref q3, w5, w6, w7, w8])), (q1, .inl (c1, 9, .inl f1)), (q2, .inl (c2, 9, .inl f2)), (q3, .inl (c3, 4, .inl f3))]) [4, 5, 0, 1, 2, 3] (by decide) rfl
            have hK9 := hK.sub (tys' := [(tc, .int), (c1, .int), (c2, .int), (c3, .int)]) [0, 1, 2, 3] rfl
            exact W.iret (v := ((-1000000001) : Int32)) hx hb hr (fun t ht hW => ⟨⟨((-1000000001) : Int32), (), rfl, trivial, tg_13, by rw [ht]; exact hP9, va_K.moved hW.alike hK9, hD9⟩, hS.F ht⟩) hS.2.2 dX8_of_100
  · skip
    have tc_2 : r_1.toInt = 0 := (fa_eq _ _).mp c_2
    refine lv_aload_n hx hb dX8_of_11 rfl (lv_at hl 0 rfl) ?_
    refine lv_ldc hx hb hown (hts _ (List.mem_of_getElem? (i := 18) rfl)) dX8_of_12 ?_
    have hPc := hP.sub (ws' := [(h0, .inr (6, [.ref ah, v1, v2, v3, v4, v5, .ref t0, v7])), (t0, .inl (tc, 7, .inl tf))]) [0, 1] rfl
    have hKc := hK.sub (tys' := [(tc, .int)]) [0] rfl
    have hDc := hD.sub (ws' := [(h0, .inr (6, [.ref ah, v1, v2, v3, v4, v5, .ref t0, v7])), (t0, .inl (tc, 7, .inl tf))]) [0, 1] (by decide) rfl
    have hFc := va_free (wc := [(h0, .inr (6, [.ref ah, v1, v2, v3, v4, v5, .ref t0, v7])), (t0, .inl (tc, 7, .inl tf))]) hD hS hA [0, 1] rfl
    refine va_calli (va_runV (As := [.int (-1000000001)]) (rest := []) ⟨hx, hb, hml, hown, hts⟩ (f_beyond l dC dI ad h0 (.ref ah) v1 v2 v3 v4 v5 t0 v7 tc tf s.heap.size ) (cwV 1 hts g_x_of_f_beyond_63 rfl rfl rfl (by decide +kernel) ⟨(Nat.le_of_ble_eq_true rfl), (Nat.le_of_ble_eq_true rfl)⟩) ⟨preM_blind, va_recv hKc hPc (ci := 6) (q0 := 0) rfl rfl, fun U hU hW => ⟨rfl, preM_at hU hW hPc hKc hDc hev⟩⟩ rfl rfl hl.1 rfl (lv_room (Nat.le_of_ble_eq_true rfl)) dX8_of_14 ⟨(Nat.le_of_ble_eq_true rfl), (Nat.le_of_ble_eq_true rfl)⟩) hS (fun q _ h => hFc q h) hFc (fun r_14 u t H1 locs ht hvm hw hB hz1 hk1 hS => ?_)
    obtain ⟨tg_15, hP1, hK1, hD1⟩ := hB
    rw [ht] at hP1
    have hK1 := va_K.moved hvm.symm hK1
    obtain ⟨hP, hD⟩ := va_join (wr := [(ah, .inr (4, [.int sh, .ref q1, .ref q2, .int tn, .ref q3, w5, w6, w7, w8])), (q1, .inl (c1, 9, .inl f1)), (q2, .inl (c2, 9, .inl f2)), (q3, .inl (c3, 4, .inl f3))]) (w1 := [(h0, .inr (6, [.ref ah, v1, v2, v3, v4, v5, .ref t0, v7])), (t0, .inl (tc, 7, .inl tg_15))]) hP hD [0, 1] [2, 3, 4, 5] rfl rfl (by decide) (by decide) hk1 hFc hP1 hD1
    generalize H1 = H at hP hS ⊢
    have hP : va_P (dC, dI) vwCl [(ah, .inr (4, [.int sh, .ref q1, .ref q2, .int tn, .ref q3, w5, w6, w7, w8])), (q1, .inl (c1, 9, .inl f1)), (q2, .inl (c2, 9, .inl f2)), (q3, .inl (c3, 4, .inl f3)), (h0, .inr (6, [.ref ah, v1, v2, v3, v4, v5, .ref t0, v7])), (t0, .inl (tc, 7, .inl tg_15))] H := hP
    have hD : va_D A [(ah, .inr (4, [.int sh, .ref q1, .ref q2, .int tn, .ref q3, w5, w6, w7, w8])), (q1, .inl (c1, 9, .inl f1)), (q2, .inl (c2, 9, .inl f2)), (q3, .inl (c3, 4, .inl f3)), (h0, .inr (6, [.ref ah, v1, v2, v3, v4, v5, .ref t0, v7])), (t0, .inl (tc, 7, .inl tg_15))] := hD
    subst hw
    have hP9 := hP.sub (ws' := [(h0, .inr (6, [.ref ah, v1, v2, v3, v4, v5, .ref t0, v7])), (t0, .inl (tc, 7, .inl tg_15)), (ah, .inr (4, [.int sh, .ref q1, .ref q2, .int tn, .ref q3, w5, w6, w7, w8])), (q1, .inl (c1, 9, .inl f1)), (q2, .inl (c2, 9, .inl f2)), (q3, .inl (c3, 4, .inl f3))]) [4, 5, 0, 1, 2, 3] rfl
    have hD9 := hD.sub (ws' := [(h0, .inr (6, [.ref ah, v1, v2, v3, v4, v5, .ref t0, v7])), (t0, .inl (tc, 7, .inl tg_15)), (ah, .inr (4, [.int sh, .ref q1, .ref q2, .int tn, .ref q3, w5, w6, w7, w8])), (q1, .inl (c1, 9, .inl f1)), (q2, .inl (c2, 9, .inl f2)), (q3, .inl (c3, 4, .inl f3))]) [4, 5, 0, 1, 2, 3] (by decide) rfl
    have hK9 := hK.sub (tys' := [(tc, .int), (c1, .int), (c2, .int), (c3, .int)]) [0, 1, 2, 3] rfl
    exact W.iret (v := ((-1000000001) : Int32)) hx hb hr (fun t ht hW => ⟨⟨((-1000000001) : Int32), (), rfl, trivial, tg_15, by rw [ht]; exact hP9, va_K.moved hW.alike hK9, hD9⟩, hS.F ht⟩) hS.2.2 dX8_of_17

def w_x_cut : List Cond := .code yX8_cut cX8_cut 4 (some .int) :: (([.fieldLink RX8 10 "LampShapes" "now" "LLampShapes$Stage;", .methodLink RX8 76 yX6_hasShape, .instanceMethod yX6_hasShape, .selects RX6 yX6_hasShape yX6_hasShape, .initialized RX6, .code yX6_hasShape cX6_hasShape 2 (some .boolean), .fieldLink RX6 9 "LampShapes$Stage" "shapes" "I", .constant RX8 62 (-1000000001), .methodLink RX8 63 yX8_finding, .instanceMethod yX8_finding, .selects RX8 yX8_finding yX8_finding, .initialized RX8, .code yX8_finding cX8_finding 3 (some .int), .fieldLink RX8 46 "LampShapes" "told" "[I", .methodLink RX8 59 yX8_isPoints, .static yX8_isPoints, .code yX8_isPoints cX8_isPoints 1 (some .boolean), .constant RX8 307 (65535)] : List Cond) ++ wsX80 ++ wsX60)
set_option maxRecDepth 20000 in
theorem g_x_cut_s_hasShape_76 : GoodIn w_x_cut (wsV RX8 76 RX6 yX6_hasShape w_s_hasShape) := goodIn_r _ [2, 3, 4, 5, 6, 7, 27, 28, 29, 30, 31, 32, 33, 34, 35] rfl (by decide +kernel)
set_option maxRecDepth 20000 in
theorem g_x_cut_f_beyond_63 : GoodIn w_x_cut (wsV RX8 63 RX8 yX8_finding w_f_beyond) := goodIn_r _ [9, 10, 11, 12, 13, 8, 14, 19, 20, 21, 22, 23, 24, 25, 26] rfl (by decide +kernel)
set_option maxRecDepth 20000 in
theorem g_x_cut_x_isPoints_59 : GoodIn w_x_cut (va_wsS RX8 59 yX8_isPoints w_x_isPoints) := goodIn_r _ [15, 16, 12, 17, 18] rfl (by decide +kernel)
set_option maxHeartbeats 4000000 in
set_option maxRecDepth 100000 in
theorem x_cut (l : Launch) (dC : Nat → ClassId) (dI : Nat → Nat → Nat) (ad : Nat → Nat) (h0 : Nat) (a : Int32) (b : Int32) (ah : Nat) (v1 : Value) (v2 : Value) (v3 : Value) (v4 : Value) (v5 : Value) (t0 : Nat) (v7 : Value) (tc : ClassId) (tf : Nat → Int32) (sh : Int32) (w1 : Value) (q2 : Nat) (w3 : Value) (w4 : Value) (w5 : Value) (w6 : Value) (w7 : Value) (w8 : Value) (c2 : ClassId) (f2 : Nat → Int32) (sz : Nat) (hsh : 0 ≤ sh.toInt ∧ sh.toInt ≤ 9) : Met l yX8_cut w_x_cut ({ frames := 1, cells := 0, slots := 0, locals := 22 } : Room) (va_Pc [.ref h0, .int a, .int b] (preM dC dI ad [(tc, .int), (c2, .int)] [(h0, .inr (6, [.ref ah, v1, v2, v3, v4, v5, .ref t0, v7])), (t0, .inl (tc, 7, .inl tf)), (ah, .inr (4, [.int sh, w1, .ref q2, w3, w4, w5, w6, w7, w8])), (q2, .inl (c2, 9, .inl f2))] sz)) (va_Qi (fun (r : Int32) (_ : Unit) => True) (fun _ t => ∃ (tg : Nat → Int32), ∃ (g2 : Nat → Int32), va_P (dC, dI) vwCl [(h0, .inr (6, [.ref ah, v1, v2, v3, v4, v5, .ref t0, v7])), (t0, .inl (tc, 7, .inl tg)), (ah, .inr (4, [.int sh, w1, .ref q2, w3, w4, w5, w6, w7, w8])), (q2, .inl (c2, 9, .inl g2))] t.heap ∧ va_K (dC, dI) vwCl [(tc, .int), (c2, .int)] t ∧ va_D (va_A [(h0, .inr (6, [.ref ah, v1, v2, v3, v4, v5, .ref t0, v7])), (t0, .inl (tc, 7, .inl tf)), (ah, .inr (4, [.int sh, w1, .ref q2, w3, w4, w5, w6, w7, w8])), (q2, .inl (c2, 9, .inl f2))] sz) [(h0, .inr (6, [.ref ah, v1, v2, v3, v4, v5, .ref t0, v7])), (t0, .inl (tc, 7, .inl tg)), (ah, .inr (4, [.int sh, w1, .ref q2, w3, w4, w5, w6, w7, w8])), (q2, .inl (c2, 9, .inl g2))]) (va_A [(h0, .inr (6, [.ref ah, v1, v2, v3, v4, v5, .ref t0, v7])), (t0, .inl (tc, 7, .inl tf)), (ah, .inr (4, [.int sh, w1, .ref q2, w3, w4, w5, w6, w7, w8])), (q2, .inl (c2, 9, .inl f2))] sz)) 0 0 (va_A [(h0, .inr (6, [.ref ah, v1, v2, v3, v4, v5, .ref t0, v7])), (t0, .inl (tc, 7, .inl tf)), (ah, .inr (4, [.int sh, w1, .ref q2, w3, w4, w5, w6, w7, w8])), (q2, .inl (c2, 9, .inl f2))] sz) := by
  refine Met.ofW (cc := cX8_cut) (maxL := 4) (ret := (some .int)) (by decide) rfl ?_
  intro p e s m args below meth c s₁ B hml hv
  obtain ⟨rfl, hsz, hP, hK, hD0, hev⟩ := hv
  have hx := B.exec
  have hb := B.bytes
  have hr := B.returns
  have hts := atoms_spec (ws := w_x_cut) B.pre
  have hown : s.vm.findClass RX8 = some m.cls := findClass_of_methodNamed B.named
  have hlocks := B.notSynchronized
  have inX8 : ∀ w ∈ wsX80, w ∈ w_x_cut := fun w h => List.mem_cons_of_mem _ (List.mem_append_left _ (List.mem_append_right _ h))
  have inX6 : ∀ w ∈ wsX60, w ∈ w_x_cut := fun w h => List.mem_cons_of_mem _ (List.mem_append_right _ h)
  subst hsz
  have hD := hD0.self (sz := s.heap.size)
  generalize hAe : va_A [(h0, .inr (6, [.ref ah, v1, v2, v3, v4, v5, .ref t0, v7])), (t0, .inl (tc, 7, .inl tf)), (ah, .inr (4, [.int sh, w1, .ref q2, w3, w4, w5, w6, w7, w8])), (q2, .inl (c2, 9, .inl f2))] s.heap.size = A at hD ⊢
  have hA : ∀ q : Nat, s.heap.size ≤ q → A q := fun q h => by rw [← hAe]; exact Or.inr h
  have hS : va_S A s.heap s.heap [] := va_S.rf
  have hP : va_P (dC, dI) vwCl [(h0, .inr (6, [.ref ah, v1, v2, v3, v4, v5, .ref t0, v7])), (t0, .inl (tc, 7, .inl tf)), (ah, .inr (4, [.int sh, w1, .ref q2, w3, w4, w5, w6, w7, w8])), (q2, .inl (c2, 9, .inl f2))] s.heap := hP
  have hl := lv_entry ([.ref h0, .int a, .int b]) (n := 4) (Nat.le_of_ble_eq_true rfl)
  rw [lg_entry_eq]
  generalize (lg_sl ([.ref h0, .int a, .int b]) ++ List.replicate (4 - (lg_sl ([.ref h0, .int a, .int b])).length) Slot.unset).toArray = ls at hl ⊢
  have hl : lv_has ls 4 [(0, .ref h0), (1, .int a), (2, .int b)] := hl
  refine lv_aload_n hx hb dX8_cut_0 rfl (lv_at hl 0 rfl) ?_
  refine va_get (D := (dC, dI)) (ci := 6) (v := .ref ah) (C := RX8) (T := TX8) (N := 8) hx hb hts inX8 hown hK hP 0 rfl rfl 0 (by decide) (hts _ (List.mem_of_getElem? (i := 1) rfl)) (fun _ h9 => h9) rfl dX8_cut_1 ?_
  refine lv_iload_n hx hb dX8_cut_4 rfl (lv_at hl 1 rfl) ?_
  have hPc := hP.sub (ws' := [(ah, .inr (4, [.int sh, w1, .ref q2, w3, w4, w5, w6, w7, w8]))]) [2] rfl
  have hKc := hK.sub (tys' := []) [] rfl
  refine vp_callSi (W.runV (As := [.int a]) (rest := []) ⟨hx, hb, hml, hown, hts⟩ (s_hasShape l dC dI ad ah a sh w1 (.ref q2) w3 w4 w5 w6 w7 w8 ) (cwV 1 hts g_x_cut_s_hasShape_76 rfl rfl rfl (by decide +kernel) ⟨(Nat.le_of_ble_eq_true rfl), (Nat.le_of_ble_eq_true rfl)⟩) ⟨preS_blind, va_recv hKc hPc (ci := 4) (q0 := 0) rfl rfl, fun U hU hW => ⟨rfl, preS_at hU hW hPc hKc hev⟩⟩ rfl rfl hl.1 rfl (lv_room (Nat.le_of_ble_eq_true rfl)) dX8_cut_5 ⟨(Nat.le_of_ble_eq_true rfl), (Nat.le_of_ble_eq_true rfl)⟩) (fun r_1 hw => ?_)
  have hr_1 : (r_1.toInt = 1 ∧ 0 ≤ a.toInt ∧ a.toInt < sh.toInt) ∨ r_1.toInt = 0 := hw
  refine lv_if_eq (tgt := 18) hx hb dX8_cut_8 (by decide) (fun c_2 => ?_) (fun c_2 => ?_)
  · skip
    have tc_2 : r_1.toInt = 0 := (fa_eq _ _).mp c_2
    refine lv_aload_n hx hb dX8_cut_18 rfl (lv_at hl 0 rfl) ?_
    refine lv_ldc hx hb hown (hts _ (List.mem_of_getElem? (i := 8) rfl)) dX8_cut_19 ?_
    have hPc := hP.sub (ws' := [(h0, .inr (6, [.ref ah, v1, v2, v3, v4, v5, .ref t0, v7])), (t0, .inl (tc, 7, .inl tf))]) [0, 1] rfl
    have hKc := hK.sub (tys' := [(tc, .int)]) [0] rfl
    have hDc := hD.sub (ws' := [(h0, .inr (6, [.ref ah, v1, v2, v3, v4, v5, .ref t0, v7])), (t0, .inl (tc, 7, .inl tf))]) [0, 1] (by decide) rfl
    have hFc := va_free (wc := [(h0, .inr (6, [.ref ah, v1, v2, v3, v4, v5, .ref t0, v7])), (t0, .inl (tc, 7, .inl tf))]) hD hS hA [0, 1] rfl
    refine va_calli (va_runV (As := [.int (-1000000001)]) (rest := []) ⟨hx, hb, hml, hown, hts⟩ (f_beyond l dC dI ad h0 (.ref ah) v1 v2 v3 v4 v5 t0 v7 tc tf s.heap.size ) (cwV 1 hts g_x_cut_f_beyond_63 rfl rfl rfl (by decide +kernel) ⟨(Nat.le_of_ble_eq_true rfl), (Nat.le_of_ble_eq_true rfl)⟩) ⟨preM_blind, va_recv hKc hPc (ci := 6) (q0 := 0) rfl rfl, fun U hU hW => ⟨rfl, preM_at hU hW hPc hKc hDc hev⟩⟩ rfl rfl hl.1 rfl (lv_room (Nat.le_of_ble_eq_true rfl)) dX8_cut_21 ⟨(Nat.le_of_ble_eq_true rfl), (Nat.le_of_ble_eq_true rfl)⟩) hS (fun q _ h => hFc q h) hFc (fun r_3 u t H1 locs ht hvm hw hB hz1 hk1 hS => ?_)
    obtain ⟨tg_4, hP1, hK1, hD1⟩ := hB
    rw [ht] at hP1
    have hK1 := va_K.moved hvm.symm hK1
    obtain ⟨hP, hD⟩ := va_join (wr := [(ah, .inr (4, [.int sh, w1, .ref q2, w3, w4, w5, w6, w7, w8])), (q2, .inl (c2, 9, .inl f2))]) (w1 := [(h0, .inr (6, [.ref ah, v1, v2, v3, v4, v5, .ref t0, v7])), (t0, .inl (tc, 7, .inl tg_4))]) hP hD [0, 1] [2, 3] rfl rfl (by decide) (by decide) hk1 hFc hP1 hD1
    generalize H1 = H at hP hS ⊢
    have hP : va_P (dC, dI) vwCl [(ah, .inr (4, [.int sh, w1, .ref q2, w3, w4, w5, w6, w7, w8])), (q2, .inl (c2, 9, .inl f2)), (h0, .inr (6, [.ref ah, v1, v2, v3, v4, v5, .ref t0, v7])), (t0, .inl (tc, 7, .inl tg_4))] H := hP
    have hD : va_D A [(ah, .inr (4, [.int sh, w1, .ref q2, w3, w4, w5, w6, w7, w8])), (q2, .inl (c2, 9, .inl f2)), (h0, .inr (6, [.ref ah, v1, v2, v3, v4, v5, .ref t0, v7])), (t0, .inl (tc, 7, .inl tg_4))] := hD
    subst hw
    have hP9 := hP.sub (ws' := [(h0, .inr (6, [.ref ah, v1, v2, v3, v4, v5, .ref t0, v7])), (t0, .inl (tc, 7, .inl tg_4)), (ah, .inr (4, [.int sh, w1, .ref q2, w3, w4, w5, w6, w7, w8])), (q2, .inl (c2, 9, .inl f2))]) [2, 3, 0, 1] rfl
    have hD9 := hD.sub (ws' := [(h0, .inr (6, [.ref ah, v1, v2, v3, v4, v5, .ref t0, v7])), (t0, .inl (tc, 7, .inl tg_4)), (ah, .inr (4, [.int sh, w1, .ref q2, w3, w4, w5, w6, w7, w8])), (q2, .inl (c2, 9, .inl f2))]) [2, 3, 0, 1] (by decide) rfl
    have hK9 := hK.sub (tys' := [(tc, .int), (c2, .int)]) [0, 1] rfl
    exact W.iret (v := ((-1000000001) : Int32)) hx hb hr (fun t ht hW => ⟨⟨((-1000000001) : Int32), (), rfl, trivial, tg_4, f2, by rw [ht]; exact hP9, va_K.moved hW.alike hK9, hD9⟩, hS.F ht⟩) hS.2.2 dX8_cut_24
  · skip
    have tc_2 : ¬ r_1.toInt = 0 := fun h => c_2 ((fa_eq _ _).mpr h)
    refine lv_iload_n hx hb dX8_cut_11 rfl (lv_at hl 2 rfl) ?_
    have hPc := hP.sub (ws' := []) [] rfl
    have hKc := hK.sub (tys' := []) [] rfl
    refine vp_callSi (W.runS (As := [.int b]) (rest := []) ⟨hx, hb, hml, hown, hts⟩ (x_isPoints l dC dI ad b ) (va_cwS 1 hts g_x_cut_x_isPoints_59 rfl rfl rfl (by decide +kernel) ⟨(Nat.le_of_ble_eq_true rfl), (Nat.le_of_ble_eq_true rfl)⟩) ⟨preS_blind, fun U hU hW => ⟨rfl, preS_at hU hW hPc hKc hev⟩⟩ rfl rfl hl.1 rfl (lv_room (Nat.le_of_ble_eq_true rfl)) dX8_cut_12 ⟨(Nat.le_of_ble_eq_true rfl), (Nat.le_of_ble_eq_true rfl)⟩) (fun r_5 hw => ?_)
    refine lv_if_ne (tgt := 25) hx hb dX8_cut_15 (by decide) (fun c_6 => ?_) (fun c_6 => ?_)
    · skip
      have tc_6 : ¬ r_5.toInt = 0 := fun h => c_6 ((fa_eq _ _).mpr h)
      refine lv_aload_n hx hb dX8_cut_25 rfl (lv_at hl 0 rfl) ?_
      refine va_get (D := (dC, dI)) (ci := 6) (v := .ref ah) (C := RX8) (T := TX8) (N := 8) hx hb hts inX8 hown hK hP 0 rfl rfl 0 (by decide) (hts _ (List.mem_of_getElem? (i := 1) rfl)) (fun _ h9 => h9) rfl dX8_cut_26 ?_
      refine va_getN (D := (dC, dI)) (ci := 4) (v := .ref q2) (C := RX6) (T := TX6) (N := 9) hx hb hts inX6 hown hK hP 2 rfl rfl 2 (by decide) (ev_nest hev 3 rfl) (fun _ h9 => h9) rfl dX8_cut_29 ?_
      refine lv_iload_n hx hb dX8_cut_32 rfl (lv_at hl 1 rfl) ?_
      refine va_iald hx hb hK hP 3 1 rfl rfl (vp_in_iff.mpr ⟨by omega, by omega⟩) dX8_cut_33 ?_
      refine lv_topi (fun n_7 en_7 => ?_)
      clear en_7
      refine lv_istore_n (lv' := [(3, .int n_7), (0, .ref h0), (1, .int a), (2, .int b)]) hx hb dX8_cut_34 rfl hl (by decide) rfl (fun ls hl => ?_)
      refine lv_aload_n hx hb dX8_cut_35 rfl (lv_at hl 1 rfl) ?_
      refine va_get (D := (dC, dI)) (ci := 6) (v := .ref ah) (C := RX8) (T := TX8) (N := 8) hx hb hts inX8 hown hK hP 0 rfl rfl 0 (by decide) (hts _ (List.mem_of_getElem? (i := 1) rfl)) (fun _ h9 => h9) rfl dX8_cut_36 ?_
      refine va_getN (D := (dC, dI)) (ci := 4) (v := .ref q2) (C := RX6) (T := TX6) (N := 9) hx hb hts inX6 hown hK hP 2 rfl rfl 2 (by decide) (ev_nest hev 3 rfl) (fun _ h9 => h9) rfl dX8_cut_39 ?_
      refine lv_iload_n hx hb dX8_cut_42 rfl (lv_at hl 2 rfl) ?_
      refine lv_iload_n hx hb dX8_cut_43 rfl (lv_at hl 3 rfl) ?_
      refine va_iast hx hb hK hP hD hS 3 1 rfl rfl (vp_in_iff.mpr ⟨by omega, by omega⟩) dX8_cut_44 (fun H locs hP hD hS => ?_)
      have hP : va_P (dC, dI) vwCl [(h0, .inr (6, [.ref ah, v1, v2, v3, v4, v5, .ref t0, v7])), (t0, .inl (tc, 7, .inl tf)), (ah, .inr (4, [.int sh, w1, .ref q2, w3, w4, w5, w6, w7, w8])), (q2, .inl (c2, 9, .inl (upd f2 a.toNatClampNeg b)))] H := hP
      have hD : va_D A [(h0, .inr (6, [.ref ah, v1, v2, v3, v4, v5, .ref t0, v7])), (t0, .inl (tc, 7, .inl tf)), (ah, .inr (4, [.int sh, w1, .ref q2, w3, w4, w5, w6, w7, w8])), (q2, .inl (c2, 9, .inl (upd f2 a.toNatClampNeg b)))] := hD
      refine lv_iload_n hx hb dX8_cut_45 rfl (lv_at hl 0 rfl) ?_
      have hP9 := hP.sub (ws' := [(h0, .inr (6, [.ref ah, v1, v2, v3, v4, v5, .ref t0, v7])), (t0, .inl (tc, 7, .inl tf)), (ah, .inr (4, [.int sh, w1, .ref q2, w3, w4, w5, w6, w7, w8])), (q2, .inl (c2, 9, .inl (upd f2 a.toNatClampNeg b)))]) [0, 1, 2, 3] rfl
      have hD9 := hD.sub (ws' := [(h0, .inr (6, [.ref ah, v1, v2, v3, v4, v5, .ref t0, v7])), (t0, .inl (tc, 7, .inl tf)), (ah, .inr (4, [.int sh, w1, .ref q2, w3, w4, w5, w6, w7, w8])), (q2, .inl (c2, 9, .inl (upd f2 a.toNatClampNeg b)))]) [0, 1, 2, 3] (by decide) rfl
      have hK9 := hK.sub (tys' := [(tc, .int), (c2, .int)]) [0, 1] rfl
      exact W.iret (v := n_7) hx hb hr (fun t ht hW => ⟨⟨n_7, (), rfl, trivial, tf, upd f2 a.toNatClampNeg b, by rw [ht]; exact hP9, va_K.moved hW.alike hK9, hD9⟩, hS.F ht⟩) hS.2.2 dX8_cut_46
    · skip
      have tc_6 : r_5.toInt = 0 := (fa_eq _ _).mp c_6
      refine lv_aload_n hx hb dX8_cut_18 rfl (lv_at hl 0 rfl) ?_
      refine lv_ldc hx hb hown (hts _ (List.mem_of_getElem? (i := 8) rfl)) dX8_cut_19 ?_
      have hPc := hP.sub (ws' := [(h0, .inr (6, [.ref ah, v1, v2, v3, v4, v5, .ref t0, v7])), (t0, .inl (tc, 7, .inl tf))]) [0, 1] rfl
      have hKc := hK.sub (tys' := [(tc, .int)]) [0] rfl
      have hDc := hD.sub (ws' := [(h0, .inr (6, [.ref ah, v1, v2, v3, v4, v5, .ref t0, v7])), (t0, .inl (tc, 7, .inl tf))]) [0, 1] (by decide) rfl
      have hFc := va_free (wc := [(h0, .inr (6, [.ref ah, v1, v2, v3, v4, v5, .ref t0, v7])), (t0, .inl (tc, 7, .inl tf))]) hD hS hA [0, 1] rfl
      refine va_calli (va_runV (As := [.int (-1000000001)]) (rest := []) ⟨hx, hb, hml, hown, hts⟩ (f_beyond l dC dI ad h0 (.ref ah) v1 v2 v3 v4 v5 t0 v7 tc tf s.heap.size ) (cwV 1 hts g_x_cut_f_beyond_63 rfl rfl rfl (by decide +kernel) ⟨(Nat.le_of_ble_eq_true rfl), (Nat.le_of_ble_eq_true rfl)⟩) ⟨preM_blind, va_recv hKc hPc (ci := 6) (q0 := 0) rfl rfl, fun U hU hW => ⟨rfl, preM_at hU hW hPc hKc hDc hev⟩⟩ rfl rfl hl.1 rfl (lv_room (Nat.le_of_ble_eq_true rfl)) dX8_cut_21 ⟨(Nat.le_of_ble_eq_true rfl), (Nat.le_of_ble_eq_true rfl)⟩) hS (fun q _ h => hFc q h) hFc (fun r_8 u t H1 locs ht hvm hw hB hz1 hk1 hS => ?_)
      obtain ⟨tg_9, hP1, hK1, hD1⟩ := hB
      rw [ht] at hP1
      have hK1 := va_K.moved hvm.symm hK1
      obtain ⟨hP, hD⟩ := va_join (wr := [(ah, .inr (4, [.int sh, w1, .ref q2, w3, w4, w5, w6, w7, w8])), (q2, .inl (c2, 9, .inl f2))]) (w1 := [(h0, .inr (6, [.ref ah, v1, v2, v3, v4, v5, .ref t0, v7])), (t0, .inl (tc, 7, .inl tg_9))]) hP hD [0, 1] [2, 3] rfl rfl (by decide) (by decide) hk1 hFc hP1 hD1
      generalize H1 = H at hP hS ⊢
      have hP : va_P (dC, dI) vwCl [(ah, .inr (4, [.int sh, w1, .ref q2, w3, w4, w5, w6, w7, w8])), (q2, .inl (c2, 9, .inl f2)), (h0, .inr (6, [.ref ah, v1, v2, v3, v4, v5, .ref t0, v7])), (t0, .inl (tc, 7, .inl tg_9))] H := hP
      have hD : va_D A [(ah, .inr (4, [.int sh, w1, .ref q2, w3, w4, w5, w6, w7, w8])), (q2, .inl (c2, 9, .inl f2)), (h0, .inr (6, [.ref ah, v1, v2, v3, v4, v5, .ref t0, v7])), (t0, .inl (tc, 7, .inl tg_9))] := hD
      subst hw
      have hP9 := hP.sub (ws' := [(h0, .inr (6, [.ref ah, v1, v2, v3, v4, v5, .ref t0, v7])), (t0, .inl (tc, 7, .inl tg_9)), (ah, .inr (4, [.int sh, w1, .ref q2, w3, w4, w5, w6, w7, w8])), (q2, .inl (c2, 9, .inl f2))]) [2, 3, 0, 1] rfl
      have hD9 := hD.sub (ws' := [(h0, .inr (6, [.ref ah, v1, v2, v3, v4, v5, .ref t0, v7])), (t0, .inl (tc, 7, .inl tg_9)), (ah, .inr (4, [.int sh, w1, .ref q2, w3, w4, w5, w6, w7, w8])), (q2, .inl (c2, 9, .inl f2))]) [2, 3, 0, 1] (by decide) rfl
      have hK9 := hK.sub (tys' := [(tc, .int), (c2, .int)]) [0, 1] rfl
      exact W.iret (v := ((-1000000001) : Int32)) hx hb hr (fun t ht hW => ⟨⟨((-1000000001) : Int32), (), rfl, trivial, tg_9, f2, by rw [ht]; exact hP9, va_K.moved hW.alike hK9, hD9⟩, hS.F ht⟩) hS.2.2 dX8_cut_24

def w_x_tear : List Cond := .code yX8_tear cX8_tear 3 (some .int) :: (([.fieldLink RX8 10 "LampShapes" "now" "LLampShapes$Stage;", .methodLink RX8 76 yX6_hasShape, .instanceMethod yX6_hasShape, .selects RX6 yX6_hasShape yX6_hasShape, .initialized RX6, .code yX6_hasShape cX6_hasShape 2 (some .boolean), .fieldLink RX6 9 "LampShapes$Stage" "shapes" "I", .methodLink RX8 85 yX6_isTorn, .instanceMethod yX6_isTorn, .selects RX6 yX6_isTorn yX6_isTorn, .code yX6_isTorn cX6_isTorn 2 (some .boolean), .fieldLink RX6 22 "LampShapes$Stage" "tornShapes" "I", .methodLink RX8 91 yX6_setTorn, .instanceMethod yX6_setTorn, .selects RX6 yX6_setTorn yX6_setTorn, .code yX6_setTorn cX6_setTorn 3 none, .constant RX8 62 (-1000000001), .methodLink RX8 63 yX8_finding, .instanceMethod yX8_finding, .selects RX8 yX8_finding yX8_finding, .initialized RX8, .code yX8_finding cX8_finding 3 (some .int), .fieldLink RX8 46 "LampShapes" "told" "[I"] : List Cond) ++ wsX80 ++ wsX60)
set_option maxRecDepth 20000 in
theorem g_x_tear_s_hasShape_76 : GoodIn w_x_tear (wsV RX8 76 RX6 yX6_hasShape w_s_hasShape) := goodIn_r _ [2, 3, 4, 5, 6, 7, 32, 33, 34, 35, 36, 37, 38, 39, 40] rfl (by decide +kernel)
set_option maxRecDepth 20000 in
theorem g_x_tear_s_isTorn_85 : GoodIn w_x_tear (wsV RX8 85 RX6 yX6_isTorn w_s_isTorn) := goodIn_r _ [8, 9, 10, 5, 11, 12, 32, 33, 34, 35, 36, 37, 38, 39, 40] rfl (by decide +kernel)
set_option maxRecDepth 20000 in
theorem g_x_tear_s_setTorn_91 : GoodIn w_x_tear (wsV RX8 91 RX6 yX6_setTorn w_s_setTorn) := goodIn_r _ [13, 14, 15, 5, 16, 12, 32, 33, 34, 35, 36, 37, 38, 39, 40] rfl (by decide +kernel)
set_option maxRecDepth 20000 in
theorem g_x_tear_f_beyond_63 : GoodIn w_x_tear (wsV RX8 63 RX8 yX8_finding w_f_beyond) := goodIn_r _ [18, 19, 20, 21, 22, 17, 23, 24, 25, 26, 27, 28, 29, 30, 31] rfl (by decide +kernel)
set_option maxHeartbeats 4000000 in
set_option maxRecDepth 100000 in
theorem x_tear (l : Launch) (dC : Nat → ClassId) (dI : Nat → Nat → Nat) (ad : Nat → Nat) (h0 : Nat) (a : Int32) (b : Int32) (ah : Nat) (v1 : Value) (v2 : Value) (v3 : Value) (v4 : Value) (v5 : Value) (t0 : Nat) (v7 : Value) (tc : ClassId) (tf : Nat → Int32) (sh : Int32) (w1 : Value) (w2 : Value) (tn : Int32) (w4 : Value) (w5 : Value) (w6 : Value) (w7 : Value) (w8 : Value) (sz : Nat) (hsh : 0 ≤ sh.toInt ∧ sh.toInt ≤ 9) : Met l yX8_tear w_x_tear ({ frames := 1, cells := 0, slots := 0, locals := 22 } : Room) (va_Pc [.ref h0, .int a, .int b] (preM dC dI ad [(tc, .int)] [(h0, .inr (6, [.ref ah, v1, v2, v3, v4, v5, .ref t0, v7])), (t0, .inl (tc, 7, .inl tf)), (ah, .inr (4, [.int sh, w1, w2, .int tn, w4, w5, w6, w7, w8]))] sz)) (va_Qi (fun (r : Int32) (_ : Unit) => True) (fun _ t => ∃ (tg : Nat → Int32), ∃ (tn2 : Int32), va_P (dC, dI) vwCl [(h0, .inr (6, [.ref ah, v1, v2, v3, v4, v5, .ref t0, v7])), (t0, .inl (tc, 7, .inl tg)), (ah, .inr (4, [.int sh, w1, w2, .int tn2, w4, w5, w6, w7, w8]))] t.heap ∧ va_K (dC, dI) vwCl [(tc, .int)] t ∧ va_D (va_A [(h0, .inr (6, [.ref ah, v1, v2, v3, v4, v5, .ref t0, v7])), (t0, .inl (tc, 7, .inl tf)), (ah, .inr (4, [.int sh, w1, w2, .int tn, w4, w5, w6, w7, w8]))] sz) [(h0, .inr (6, [.ref ah, v1, v2, v3, v4, v5, .ref t0, v7])), (t0, .inl (tc, 7, .inl tg)), (ah, .inr (4, [.int sh, w1, w2, .int tn2, w4, w5, w6, w7, w8]))]) (va_A [(h0, .inr (6, [.ref ah, v1, v2, v3, v4, v5, .ref t0, v7])), (t0, .inl (tc, 7, .inl tf)), (ah, .inr (4, [.int sh, w1, w2, .int tn, w4, w5, w6, w7, w8]))] sz)) 0 0 (va_A [(h0, .inr (6, [.ref ah, v1, v2, v3, v4, v5, .ref t0, v7])), (t0, .inl (tc, 7, .inl tf)), (ah, .inr (4, [.int sh, w1, w2, .int tn, w4, w5, w6, w7, w8]))] sz) := by
  refine Met.ofW (cc := cX8_tear) (maxL := 3) (ret := (some .int)) (by decide) rfl ?_
  intro p e s m args below meth c s₁ B hml hv
  obtain ⟨rfl, hsz, hP, hK, hD0, hev⟩ := hv
  have hx := B.exec
  have hb := B.bytes
  have hr := B.returns
  have hts := atoms_spec (ws := w_x_tear) B.pre
  have hown : s.vm.findClass RX8 = some m.cls := findClass_of_methodNamed B.named
  have hlocks := B.notSynchronized
  have inX8 : ∀ w ∈ wsX80, w ∈ w_x_tear := fun w h => List.mem_cons_of_mem _ (List.mem_append_left _ (List.mem_append_right _ h))
  have inX6 : ∀ w ∈ wsX60, w ∈ w_x_tear := fun w h => List.mem_cons_of_mem _ (List.mem_append_right _ h)
  subst hsz
  have hD := hD0.self (sz := s.heap.size)
  generalize hAe : va_A [(h0, .inr (6, [.ref ah, v1, v2, v3, v4, v5, .ref t0, v7])), (t0, .inl (tc, 7, .inl tf)), (ah, .inr (4, [.int sh, w1, w2, .int tn, w4, w5, w6, w7, w8]))] s.heap.size = A at hD ⊢
  have hA : ∀ q : Nat, s.heap.size ≤ q → A q := fun q h => by rw [← hAe]; exact Or.inr h
  have hS : va_S A s.heap s.heap [] := va_S.rf
  have hP : va_P (dC, dI) vwCl [(h0, .inr (6, [.ref ah, v1, v2, v3, v4, v5, .ref t0, v7])), (t0, .inl (tc, 7, .inl tf)), (ah, .inr (4, [.int sh, w1, w2, .int tn, w4, w5, w6, w7, w8]))] s.heap := hP
  have hl := lv_entry ([.ref h0, .int a, .int b]) (n := 3) (Nat.le_of_ble_eq_true rfl)
  rw [lg_entry_eq]
  generalize (lg_sl ([.ref h0, .int a, .int b]) ++ List.replicate (3 - (lg_sl ([.ref h0, .int a, .int b])).length) Slot.unset).toArray = ls at hl ⊢
  have hl : lv_has ls 3 [(0, .ref h0), (1, .int a), (2, .int b)] := hl
  refine lv_aload_n hx hb dX8_tear_0 rfl (lv_at hl 0 rfl) ?_
  refine va_get (D := (dC, dI)) (ci := 6) (v := .ref ah) (C := RX8) (T := TX8) (N := 8) hx hb hts inX8 hown hK hP 0 rfl rfl 0 (by decide) (hts _ (List.mem_of_getElem? (i := 1) rfl)) (fun _ h9 => h9) rfl dX8_tear_1 ?_
  refine lv_iload_n hx hb dX8_tear_4 rfl (lv_at hl 1 rfl) ?_
  have hPc := hP.sub (ws' := [(ah, .inr (4, [.int sh, w1, w2, .int tn, w4, w5, w6, w7, w8]))]) [2] rfl
  have hKc := hK.sub (tys' := []) [] rfl
  refine vp_callSi (W.runV (As := [.int a]) (rest := []) ⟨hx, hb, hml, hown, hts⟩ (s_hasShape l dC dI ad ah a sh w1 w2 (.int tn) w4 w5 w6 w7 w8 ) (cwV 1 hts g_x_tear_s_hasShape_76 rfl rfl rfl (by decide +kernel) ⟨(Nat.le_of_ble_eq_true rfl), (Nat.le_of_ble_eq_true rfl)⟩) ⟨preS_blind, va_recv hKc hPc (ci := 4) (q0 := 0) rfl rfl, fun U hU hW => ⟨rfl, preS_at hU hW hPc hKc hev⟩⟩ rfl rfl hl.1 rfl (lv_room (Nat.le_of_ble_eq_true rfl)) dX8_tear_5 ⟨(Nat.le_of_ble_eq_true rfl), (Nat.le_of_ble_eq_true rfl)⟩) (fun r_1 hw => ?_)
  have hr_1 : (r_1.toInt = 1 ∧ 0 ≤ a.toInt ∧ a.toInt < sh.toInt) ∨ r_1.toInt = 0 := hw
  refine lv_if_ne (tgt := 18) hx hb dX8_tear_8 (by decide) (fun c_2 => ?_) (fun c_2 => ?_)
  · skip
    have tc_2 : ¬ r_1.toInt = 0 := fun h => c_2 ((fa_eq _ _).mpr h)
    refine lv_aload_n hx hb dX8_tear_18 rfl (lv_at hl 0 rfl) ?_
    refine va_get (D := (dC, dI)) (ci := 6) (v := .ref ah) (C := RX8) (T := TX8) (N := 8) hx hb hts inX8 hown hK hP 0 rfl rfl 0 (by decide) (hts _ (List.mem_of_getElem? (i := 1) rfl)) (fun _ h9 => h9) rfl dX8_tear_19 ?_
    refine lv_iload_n hx hb dX8_tear_22 rfl (lv_at hl 1 rfl) ?_
    have hPc := hP.sub (ws' := [(ah, .inr (4, [.int sh, w1, w2, .int tn, w4, w5, w6, w7, w8]))]) [2] rfl
    have hKc := hK.sub (tys' := []) [] rfl
    refine vp_callSi (W.runV (As := [.int a]) (rest := []) ⟨hx, hb, hml, hown, hts⟩ (s_isTorn l dC dI ad ah a (.int sh) w1 w2 tn w4 w5 w6 w7 w8 ) (cwV 1 hts g_x_tear_s_isTorn_85 rfl rfl rfl (by decide +kernel) ⟨(Nat.le_of_ble_eq_true rfl), (Nat.le_of_ble_eq_true rfl)⟩) ⟨preS_blind, va_recv hKc hPc (ci := 4) (q0 := 0) rfl rfl, fun U hU hW => ⟨rfl, preS_at hU hW hPc hKc hev⟩⟩ rfl rfl hl.1 rfl (lv_room (Nat.le_of_ble_eq_true rfl)) dX8_tear_23 ⟨(Nat.le_of_ble_eq_true rfl), (Nat.le_of_ble_eq_true rfl)⟩) (fun r_3 hw => ?_)
    refine lv_iload_n hx hb dX8_tear_26 rfl (lv_at hl 2 rfl) ?_
    have rc_4_x := pp_rng r_3
    have rc_4_y := pp_rng b
    refine lv_icmp_ne (tgt := 32) hx hb dX8_tear_27 (by decide) (fun c_4 => ?_) (fun c_4 => ?_)
    · skip
      have tc_4 : ¬ r_3.toInt = b.toInt := fun h => c_4 ((fa_eq _ _).mpr h)
      refine lv_aload_n hx hb dX8_tear_32 rfl (lv_at hl 0 rfl) ?_
      refine va_get (D := (dC, dI)) (ci := 6) (v := .ref ah) (C := RX8) (T := TX8) (N := 8) hx hb hts inX8 hown hK hP 0 rfl rfl 0 (by decide) (hts _ (List.mem_of_getElem? (i := 1) rfl)) (fun _ h9 => h9) rfl dX8_tear_33 ?_
      refine lv_iload_n hx hb dX8_tear_36 rfl (lv_at hl 1 rfl) ?_
      refine lv_iload_n hx hb dX8_tear_37 rfl (lv_at hl 2 rfl) ?_
      have hPc := hP.sub (ws' := [(ah, .inr (4, [.int sh, w1, w2, .int tn, w4, w5, w6, w7, w8]))]) [2] rfl
      have hKc := hK.sub (tys' := []) [] rfl
      have hDc := hD.sub (ws' := [(ah, .inr (4, [.int sh, w1, w2, .int tn, w4, w5, w6, w7, w8]))]) [2] (by decide) rfl
      have hFc := va_free (wc := [(ah, .inr (4, [.int sh, w1, w2, .int tn, w4, w5, w6, w7, w8]))]) hD hS hA [2] rfl
      refine va_callv (va_runV (As := [.int a, .int b]) (rest := []) ⟨hx, hb, hml, hown, hts⟩ (s_setTorn l dC dI ad ah a b (.int sh) w1 w2 tn w4 w5 w6 w7 w8 s.heap.size ) (cwV 2 hts g_x_tear_s_setTorn_91 rfl rfl rfl (by decide +kernel) ⟨(Nat.le_of_ble_eq_true rfl), (Nat.le_of_ble_eq_true rfl)⟩) ⟨preM_blind, va_recv hKc hPc (ci := 4) (q0 := 0) rfl rfl, fun U hU hW => ⟨rfl, preM_at hU hW hPc hKc hDc hev⟩⟩ rfl rfl hl.1 rfl (lv_room (Nat.le_of_ble_eq_true rfl)) dX8_tear_38 ⟨(Nat.le_of_ble_eq_true rfl), (Nat.le_of_ble_eq_true rfl)⟩) hS (fun q _ h => hFc q h) hFc (fun u t H1 locs ht hvm hw hB hz1 hk1 hS => ?_)
      obtain ⟨tn_6, hP1, hK1, hD1⟩ := hB
      rw [ht] at hP1
      have hK1 := va_K.moved hvm.symm hK1
      obtain ⟨hP, hD⟩ := va_join (wr := [(h0, .inr (6, [.ref ah, v1, v2, v3, v4, v5, .ref t0, v7])), (t0, .inl (tc, 7, .inl tf))]) (w1 := [(ah, .inr (4, [.int sh, w1, w2, .int tn_6, w4, w5, w6, w7, w8]))]) hP hD [2] [0, 1] rfl rfl (by decide) (by decide) hk1 hFc hP1 hD1
      generalize H1 = H at hP hS ⊢
      have hP : va_P (dC, dI) vwCl [(h0, .inr (6, [.ref ah, v1, v2, v3, v4, v5, .ref t0, v7])), (t0, .inl (tc, 7, .inl tf)), (ah, .inr (4, [.int sh, w1, w2, .int tn_6, w4, w5, w6, w7, w8]))] H := hP
      have hD : va_D A [(h0, .inr (6, [.ref ah, v1, v2, v3, v4, v5, .ref t0, v7])), (t0, .inl (tc, 7, .inl tf)), (ah, .inr (4, [.int sh, w1, w2, .int tn_6, w4, w5, w6, w7, w8]))] := hD
      refine lv_iconst (v := 1) hx hb dX8_tear_41 (by decide) ?_
      have hP9 := hP.sub (ws' := [(h0, .inr (6, [.ref ah, v1, v2, v3, v4, v5, .ref t0, v7])), (t0, .inl (tc, 7, .inl tf)), (ah, .inr (4, [.int sh, w1, w2, .int tn_6, w4, w5, w6, w7, w8]))]) [0, 1, 2] rfl
      have hD9 := hD.sub (ws' := [(h0, .inr (6, [.ref ah, v1, v2, v3, v4, v5, .ref t0, v7])), (t0, .inl (tc, 7, .inl tf)), (ah, .inr (4, [.int sh, w1, w2, .int tn_6, w4, w5, w6, w7, w8]))]) [0, 1, 2] (by decide) rfl
      have hK9 := hK.sub (tys' := [(tc, .int)]) [0] rfl
      exact W.iret (v := (1 : Int32)) hx hb hr (fun t ht hW => ⟨⟨(1 : Int32), (), rfl, trivial, tf, tn_6, by rw [ht]; exact hP9, va_K.moved hW.alike hK9, hD9⟩, hS.F ht⟩) hS.2.2 dX8_tear_42
    · skip
      have tc_4 : r_3.toInt = b.toInt := (fa_eq _ _).mp c_4
      refine lv_iconst (v := 0) hx hb dX8_tear_30 (by decide) ?_
      have hP9 := hP.sub (ws' := [(h0, .inr (6, [.ref ah, v1, v2, v3, v4, v5, .ref t0, v7])), (t0, .inl (tc, 7, .inl tf)), (ah, .inr (4, [.int sh, w1, w2, .int tn, w4, w5, w6, w7, w8]))]) [0, 1, 2] rfl
      have hD9 := hD.sub (ws' := [(h0, .inr (6, [.ref ah, v1, v2, v3, v4, v5, .ref t0, v7])), (t0, .inl (tc, 7, .inl tf)), (ah, .inr (4, [.int sh, w1, w2, .int tn, w4, w5, w6, w7, w8]))]) [0, 1, 2] (by decide) rfl
      have hK9 := hK.sub (tys' := [(tc, .int)]) [0] rfl
      exact W.iret (v := (0 : Int32)) hx hb hr (fun t ht hW => ⟨⟨(0 : Int32), (), rfl, trivial, tf, tn, by rw [ht]; exact hP9, va_K.moved hW.alike hK9, hD9⟩, hS.F ht⟩) hS.2.2 dX8_tear_31
  · skip
    have tc_2 : r_1.toInt = 0 := (fa_eq _ _).mp c_2
    refine lv_aload_n hx hb dX8_tear_11 rfl (lv_at hl 0 rfl) ?_
    refine lv_ldc hx hb hown (hts _ (List.mem_of_getElem? (i := 17) rfl)) dX8_tear_12 ?_
    have hPc := hP.sub (ws' := [(h0, .inr (6, [.ref ah, v1, v2, v3, v4, v5, .ref t0, v7])), (t0, .inl (tc, 7, .inl tf))]) [0, 1] rfl
    have hKc := hK.sub (tys' := [(tc, .int)]) [0] rfl
    have hDc := hD.sub (ws' := [(h0, .inr (6, [.ref ah, v1, v2, v3, v4, v5, .ref t0, v7])), (t0, .inl (tc, 7, .inl tf))]) [0, 1] (by decide) rfl
    have hFc := va_free (wc := [(h0, .inr (6, [.ref ah, v1, v2, v3, v4, v5, .ref t0, v7])), (t0, .inl (tc, 7, .inl tf))]) hD hS hA [0, 1] rfl
    refine va_calli (va_runV (As := [.int (-1000000001)]) (rest := []) ⟨hx, hb, hml, hown, hts⟩ (f_beyond l dC dI ad h0 (.ref ah) v1 v2 v3 v4 v5 t0 v7 tc tf s.heap.size ) (cwV 1 hts g_x_tear_f_beyond_63 rfl rfl rfl (by decide +kernel) ⟨(Nat.le_of_ble_eq_true rfl), (Nat.le_of_ble_eq_true rfl)⟩) ⟨preM_blind, va_recv hKc hPc (ci := 6) (q0 := 0) rfl rfl, fun U hU hW => ⟨rfl, preM_at hU hW hPc hKc hDc hev⟩⟩ rfl rfl hl.1 rfl (lv_room (Nat.le_of_ble_eq_true rfl)) dX8_tear_14 ⟨(Nat.le_of_ble_eq_true rfl), (Nat.le_of_ble_eq_true rfl)⟩) hS (fun q _ h => hFc q h) hFc (fun r_7 u t H1 locs ht hvm hw hB hz1 hk1 hS => ?_)
    obtain ⟨tg_8, hP1, hK1, hD1⟩ := hB
    rw [ht] at hP1
    have hK1 := va_K.moved hvm.symm hK1
    obtain ⟨hP, hD⟩ := va_join (wr := [(ah, .inr (4, [.int sh, w1, w2, .int tn, w4, w5, w6, w7, w8]))]) (w1 := [(h0, .inr (6, [.ref ah, v1, v2, v3, v4, v5, .ref t0, v7])), (t0, .inl (tc, 7, .inl tg_8))]) hP hD [0, 1] [2] rfl rfl (by decide) (by decide) hk1 hFc hP1 hD1
    generalize H1 = H at hP hS ⊢
    have hP : va_P (dC, dI) vwCl [(ah, .inr (4, [.int sh, w1, w2, .int tn, w4, w5, w6, w7, w8])), (h0, .inr (6, [.ref ah, v1, v2, v3, v4, v5, .ref t0, v7])), (t0, .inl (tc, 7, .inl tg_8))] H := hP
    have hD : va_D A [(ah, .inr (4, [.int sh, w1, w2, .int tn, w4, w5, w6, w7, w8])), (h0, .inr (6, [.ref ah, v1, v2, v3, v4, v5, .ref t0, v7])), (t0, .inl (tc, 7, .inl tg_8))] := hD
    subst hw
    have hP9 := hP.sub (ws' := [(h0, .inr (6, [.ref ah, v1, v2, v3, v4, v5, .ref t0, v7])), (t0, .inl (tc, 7, .inl tg_8)), (ah, .inr (4, [.int sh, w1, w2, .int tn, w4, w5, w6, w7, w8]))]) [1, 2, 0] rfl
    have hD9 := hD.sub (ws' := [(h0, .inr (6, [.ref ah, v1, v2, v3, v4, v5, .ref t0, v7])), (t0, .inl (tc, 7, .inl tg_8)), (ah, .inr (4, [.int sh, w1, w2, .int tn, w4, w5, w6, w7, w8]))]) [1, 2, 0] (by decide) rfl
    have hK9 := hK.sub (tys' := [(tc, .int)]) [0] rfl
    exact W.iret (v := ((-1000000001) : Int32)) hx hb hr (fun t ht hW => ⟨⟨((-1000000001) : Int32), (), rfl, trivial, tg_8, tn, by rw [ht]; exact hP9, va_K.moved hW.alike hK9, hD9⟩, hS.F ht⟩) hS.2.2 dX8_tear_17

def w_x_become : List Cond := .code yX8_become cX8_become 4 (some .int) :: (([.fieldLink RX8 10 "LampShapes" "now" "LLampShapes$Stage;", .methodLink RX8 76 yX6_hasShape, .instanceMethod yX6_hasShape, .selects RX6 yX6_hasShape yX6_hasShape, .initialized RX6, .code yX6_hasShape cX6_hasShape 2 (some .boolean), .fieldLink RX6 9 "LampShapes$Stage" "shapes" "I", .constant RX8 62 (-1000000001), .methodLink RX8 63 yX8_finding, .instanceMethod yX8_finding, .selects RX8 yX8_finding yX8_finding, .initialized RX8, .code yX8_finding cX8_finding 3 (some .int), .fieldLink RX8 46 "LampShapes" "told" "[I", .methodLink RX8 55 yX8_isKind, .static yX8_isKind, .code yX8_isKind cX8_isKind 1 (some .boolean)] : List Cond) ++ wsX80 ++ wsX60)
set_option maxRecDepth 20000 in
theorem g_x_become_s_hasShape_76 : GoodIn w_x_become (wsV RX8 76 RX6 yX6_hasShape w_s_hasShape) := goodIn_r _ [2, 3, 4, 5, 6, 7, 26, 27, 28, 29, 30, 31, 32, 33, 34] rfl (by decide +kernel)
set_option maxRecDepth 20000 in
theorem g_x_become_f_beyond_63 : GoodIn w_x_become (wsV RX8 63 RX8 yX8_finding w_f_beyond) := goodIn_r _ [9, 10, 11, 12, 13, 8, 14, 18, 19, 20, 21, 22, 23, 24, 25] rfl (by decide +kernel)
set_option maxRecDepth 20000 in
theorem g_x_become_x_isKind_55 : GoodIn w_x_become (va_wsS RX8 55 yX8_isKind w_x_isKind) := goodIn_r _ [15, 16, 12, 17] rfl (by decide +kernel)
set_option maxHeartbeats 4000000 in
set_option maxRecDepth 100000 in
theorem x_become (l : Launch) (dC : Nat → ClassId) (dI : Nat → Nat → Nat) (ad : Nat → Nat) (h0 : Nat) (a : Int32) (b : Int32) (ah : Nat) (v1 : Value) (v2 : Value) (v3 : Value) (v4 : Value) (v5 : Value) (t0 : Nat) (v7 : Value) (tc : ClassId) (tf : Nat → Int32) (sh : Int32) (q1 : Nat) (w2 : Value) (w3 : Value) (w4 : Value) (w5 : Value) (w6 : Value) (w7 : Value) (w8 : Value) (c1 : ClassId) (f1 : Nat → Int32) (sz : Nat) (hsh : 0 ≤ sh.toInt ∧ sh.toInt ≤ 9) : Met l yX8_become w_x_become ({ frames := 1, cells := 0, slots := 0, locals := 22 } : Room) (va_Pc [.ref h0, .int a, .int b] (preM dC dI ad [(tc, .int), (c1, .int)] [(h0, .inr (6, [.ref ah, v1, v2, v3, v4, v5, .ref t0, v7])), (t0, .inl (tc, 7, .inl tf)), (ah, .inr (4, [.int sh, .ref q1, w2, w3, w4, w5, w6, w7, w8])), (q1, .inl (c1, 9, .inl f1))] sz)) (va_Qi (fun (r : Int32) (_ : Unit) => True) (fun _ t => ∃ (tg : Nat → Int32), ∃ (g1 : Nat → Int32), va_P (dC, dI) vwCl [(h0, .inr (6, [.ref ah, v1, v2, v3, v4, v5, .ref t0, v7])), (t0, .inl (tc, 7, .inl tg)), (ah, .inr (4, [.int sh, .ref q1, w2, w3, w4, w5, w6, w7, w8])), (q1, .inl (c1, 9, .inl g1))] t.heap ∧ va_K (dC, dI) vwCl [(tc, .int), (c1, .int)] t ∧ va_D (va_A [(h0, .inr (6, [.ref ah, v1, v2, v3, v4, v5, .ref t0, v7])), (t0, .inl (tc, 7, .inl tf)), (ah, .inr (4, [.int sh, .ref q1, w2, w3, w4, w5, w6, w7, w8])), (q1, .inl (c1, 9, .inl f1))] sz) [(h0, .inr (6, [.ref ah, v1, v2, v3, v4, v5, .ref t0, v7])), (t0, .inl (tc, 7, .inl tg)), (ah, .inr (4, [.int sh, .ref q1, w2, w3, w4, w5, w6, w7, w8])), (q1, .inl (c1, 9, .inl g1))]) (va_A [(h0, .inr (6, [.ref ah, v1, v2, v3, v4, v5, .ref t0, v7])), (t0, .inl (tc, 7, .inl tf)), (ah, .inr (4, [.int sh, .ref q1, w2, w3, w4, w5, w6, w7, w8])), (q1, .inl (c1, 9, .inl f1))] sz)) 0 0 (va_A [(h0, .inr (6, [.ref ah, v1, v2, v3, v4, v5, .ref t0, v7])), (t0, .inl (tc, 7, .inl tf)), (ah, .inr (4, [.int sh, .ref q1, w2, w3, w4, w5, w6, w7, w8])), (q1, .inl (c1, 9, .inl f1))] sz) := by
  refine Met.ofW (cc := cX8_become) (maxL := 4) (ret := (some .int)) (by decide) rfl ?_
  intro p e s m args below meth c s₁ B hml hv
  obtain ⟨rfl, hsz, hP, hK, hD0, hev⟩ := hv
  have hx := B.exec
  have hb := B.bytes
  have hr := B.returns
  have hts := atoms_spec (ws := w_x_become) B.pre
  have hown : s.vm.findClass RX8 = some m.cls := findClass_of_methodNamed B.named
  have hlocks := B.notSynchronized
  have inX8 : ∀ w ∈ wsX80, w ∈ w_x_become := fun w h => List.mem_cons_of_mem _ (List.mem_append_left _ (List.mem_append_right _ h))
  have inX6 : ∀ w ∈ wsX60, w ∈ w_x_become := fun w h => List.mem_cons_of_mem _ (List.mem_append_right _ h)
  subst hsz
  have hD := hD0.self (sz := s.heap.size)
  generalize hAe : va_A [(h0, .inr (6, [.ref ah, v1, v2, v3, v4, v5, .ref t0, v7])), (t0, .inl (tc, 7, .inl tf)), (ah, .inr (4, [.int sh, .ref q1, w2, w3, w4, w5, w6, w7, w8])), (q1, .inl (c1, 9, .inl f1))] s.heap.size = A at hD ⊢
  have hA : ∀ q : Nat, s.heap.size ≤ q → A q := fun q h => by rw [← hAe]; exact Or.inr h
  have hS : va_S A s.heap s.heap [] := va_S.rf
  have hP : va_P (dC, dI) vwCl [(h0, .inr (6, [.ref ah, v1, v2, v3, v4, v5, .ref t0, v7])), (t0, .inl (tc, 7, .inl tf)), (ah, .inr (4, [.int sh, .ref q1, w2, w3, w4, w5, w6, w7, w8])), (q1, .inl (c1, 9, .inl f1))] s.heap := hP
  have hl := lv_entry ([.ref h0, .int a, .int b]) (n := 4) (Nat.le_of_ble_eq_true rfl)
  rw [lg_entry_eq]
  generalize (lg_sl ([.ref h0, .int a, .int b]) ++ List.replicate (4 - (lg_sl ([.ref h0, .int a, .int b])).length) Slot.unset).toArray = ls at hl ⊢
  have hl : lv_has ls 4 [(0, .ref h0), (1, .int a), (2, .int b)] := hl
  refine lv_aload_n hx hb dX8_become_0 rfl (lv_at hl 0 rfl) ?_
  refine va_get (D := (dC, dI)) (ci := 6) (v := .ref ah) (C := RX8) (T := TX8) (N := 8) hx hb hts inX8 hown hK hP 0 rfl rfl 0 (by decide) (hts _ (List.mem_of_getElem? (i := 1) rfl)) (fun _ h9 => h9) rfl dX8_become_1 ?_
  refine lv_iload_n hx hb dX8_become_4 rfl (lv_at hl 1 rfl) ?_
  have hPc := hP.sub (ws' := [(ah, .inr (4, [.int sh, .ref q1, w2, w3, w4, w5, w6, w7, w8]))]) [2] rfl
  have hKc := hK.sub (tys' := []) [] rfl
  refine vp_callSi (W.runV (As := [.int a]) (rest := []) ⟨hx, hb, hml, hown, hts⟩ (s_hasShape l dC dI ad ah a sh (.ref q1) w2 w3 w4 w5 w6 w7 w8 ) (cwV 1 hts g_x_become_s_hasShape_76 rfl rfl rfl (by decide +kernel) ⟨(Nat.le_of_ble_eq_true rfl), (Nat.le_of_ble_eq_true rfl)⟩) ⟨preS_blind, va_recv hKc hPc (ci := 4) (q0 := 0) rfl rfl, fun U hU hW => ⟨rfl, preS_at hU hW hPc hKc hev⟩⟩ rfl rfl hl.1 rfl (lv_room (Nat.le_of_ble_eq_true rfl)) dX8_become_5 ⟨(Nat.le_of_ble_eq_true rfl), (Nat.le_of_ble_eq_true rfl)⟩) (fun r_1 hw => ?_)
  have hr_1 : (r_1.toInt = 1 ∧ 0 ≤ a.toInt ∧ a.toInt < sh.toInt) ∨ r_1.toInt = 0 := hw
  refine lv_if_eq (tgt := 18) hx hb dX8_become_8 (by decide) (fun c_2 => ?_) (fun c_2 => ?_)
  · skip
    have tc_2 : r_1.toInt = 0 := (fa_eq _ _).mp c_2
    refine lv_aload_n hx hb dX8_become_18 rfl (lv_at hl 0 rfl) ?_
    refine lv_ldc hx hb hown (hts _ (List.mem_of_getElem? (i := 8) rfl)) dX8_become_19 ?_
    have hPc := hP.sub (ws' := [(h0, .inr (6, [.ref ah, v1, v2, v3, v4, v5, .ref t0, v7])), (t0, .inl (tc, 7, .inl tf))]) [0, 1] rfl
    have hKc := hK.sub (tys' := [(tc, .int)]) [0] rfl
    have hDc := hD.sub (ws' := [(h0, .inr (6, [.ref ah, v1, v2, v3, v4, v5, .ref t0, v7])), (t0, .inl (tc, 7, .inl tf))]) [0, 1] (by decide) rfl
    have hFc := va_free (wc := [(h0, .inr (6, [.ref ah, v1, v2, v3, v4, v5, .ref t0, v7])), (t0, .inl (tc, 7, .inl tf))]) hD hS hA [0, 1] rfl
    refine va_calli (va_runV (As := [.int (-1000000001)]) (rest := []) ⟨hx, hb, hml, hown, hts⟩ (f_beyond l dC dI ad h0 (.ref ah) v1 v2 v3 v4 v5 t0 v7 tc tf s.heap.size ) (cwV 1 hts g_x_become_f_beyond_63 rfl rfl rfl (by decide +kernel) ⟨(Nat.le_of_ble_eq_true rfl), (Nat.le_of_ble_eq_true rfl)⟩) ⟨preM_blind, va_recv hKc hPc (ci := 6) (q0 := 0) rfl rfl, fun U hU hW => ⟨rfl, preM_at hU hW hPc hKc hDc hev⟩⟩ rfl rfl hl.1 rfl (lv_room (Nat.le_of_ble_eq_true rfl)) dX8_become_21 ⟨(Nat.le_of_ble_eq_true rfl), (Nat.le_of_ble_eq_true rfl)⟩) hS (fun q _ h => hFc q h) hFc (fun r_3 u t H1 locs ht hvm hw hB hz1 hk1 hS => ?_)
    obtain ⟨tg_4, hP1, hK1, hD1⟩ := hB
    rw [ht] at hP1
    have hK1 := va_K.moved hvm.symm hK1
    obtain ⟨hP, hD⟩ := va_join (wr := [(ah, .inr (4, [.int sh, .ref q1, w2, w3, w4, w5, w6, w7, w8])), (q1, .inl (c1, 9, .inl f1))]) (w1 := [(h0, .inr (6, [.ref ah, v1, v2, v3, v4, v5, .ref t0, v7])), (t0, .inl (tc, 7, .inl tg_4))]) hP hD [0, 1] [2, 3] rfl rfl (by decide) (by decide) hk1 hFc hP1 hD1
    generalize H1 = H at hP hS ⊢
    have hP : va_P (dC, dI) vwCl [(ah, .inr (4, [.int sh, .ref q1, w2, w3, w4, w5, w6, w7, w8])), (q1, .inl (c1, 9, .inl f1)), (h0, .inr (6, [.ref ah, v1, v2, v3, v4, v5, .ref t0, v7])), (t0, .inl (tc, 7, .inl tg_4))] H := hP
    have hD : va_D A [(ah, .inr (4, [.int sh, .ref q1, w2, w3, w4, w5, w6, w7, w8])), (q1, .inl (c1, 9, .inl f1)), (h0, .inr (6, [.ref ah, v1, v2, v3, v4, v5, .ref t0, v7])), (t0, .inl (tc, 7, .inl tg_4))] := hD
    subst hw
    have hP9 := hP.sub (ws' := [(h0, .inr (6, [.ref ah, v1, v2, v3, v4, v5, .ref t0, v7])), (t0, .inl (tc, 7, .inl tg_4)), (ah, .inr (4, [.int sh, .ref q1, w2, w3, w4, w5, w6, w7, w8])), (q1, .inl (c1, 9, .inl f1))]) [2, 3, 0, 1] rfl
    have hD9 := hD.sub (ws' := [(h0, .inr (6, [.ref ah, v1, v2, v3, v4, v5, .ref t0, v7])), (t0, .inl (tc, 7, .inl tg_4)), (ah, .inr (4, [.int sh, .ref q1, w2, w3, w4, w5, w6, w7, w8])), (q1, .inl (c1, 9, .inl f1))]) [2, 3, 0, 1] (by decide) rfl
    have hK9 := hK.sub (tys' := [(tc, .int), (c1, .int)]) [0, 1] rfl
    exact W.iret (v := ((-1000000001) : Int32)) hx hb hr (fun t ht hW => ⟨⟨((-1000000001) : Int32), (), rfl, trivial, tg_4, f1, by rw [ht]; exact hP9, va_K.moved hW.alike hK9, hD9⟩, hS.F ht⟩) hS.2.2 dX8_become_24
  · skip
    have tc_2 : ¬ r_1.toInt = 0 := fun h => c_2 ((fa_eq _ _).mpr h)
    refine lv_iload_n hx hb dX8_become_11 rfl (lv_at hl 2 rfl) ?_
    have hPc := hP.sub (ws' := []) [] rfl
    have hKc := hK.sub (tys' := []) [] rfl
    refine vp_callSi (W.runS (As := [.int b]) (rest := []) ⟨hx, hb, hml, hown, hts⟩ (x_isKind l dC dI ad b ) (va_cwS 1 hts g_x_become_x_isKind_55 rfl rfl rfl (by decide +kernel) ⟨(Nat.le_of_ble_eq_true rfl), (Nat.le_of_ble_eq_true rfl)⟩) ⟨preS_blind, fun U hU hW => ⟨rfl, preS_at hU hW hPc hKc hev⟩⟩ rfl rfl hl.1 rfl (lv_room (Nat.le_of_ble_eq_true rfl)) dX8_become_12 ⟨(Nat.le_of_ble_eq_true rfl), (Nat.le_of_ble_eq_true rfl)⟩) (fun r_5 hw => ?_)
    refine lv_if_ne (tgt := 25) hx hb dX8_become_15 (by decide) (fun c_6 => ?_) (fun c_6 => ?_)
    · skip
      have tc_6 : ¬ r_5.toInt = 0 := fun h => c_6 ((fa_eq _ _).mpr h)
      refine lv_aload_n hx hb dX8_become_25 rfl (lv_at hl 0 rfl) ?_
      refine va_get (D := (dC, dI)) (ci := 6) (v := .ref ah) (C := RX8) (T := TX8) (N := 8) hx hb hts inX8 hown hK hP 0 rfl rfl 0 (by decide) (hts _ (List.mem_of_getElem? (i := 1) rfl)) (fun _ h9 => h9) rfl dX8_become_26 ?_
      refine va_getN (D := (dC, dI)) (ci := 4) (v := .ref q1) (C := RX6) (T := TX6) (N := 9) hx hb hts inX6 hown hK hP 2 rfl rfl 1 (by decide) (ev_nest hev 2 rfl) (fun _ h9 => h9) rfl dX8_become_29 ?_
      refine lv_iload_n hx hb dX8_become_32 rfl (lv_at hl 1 rfl) ?_
      refine va_iald hx hb hK hP 3 1 rfl rfl (vp_in_iff.mpr ⟨by omega, by omega⟩) dX8_become_33 ?_
      refine lv_topi (fun n_7 en_7 => ?_)
      clear en_7
      refine lv_istore_n (lv' := [(3, .int n_7), (0, .ref h0), (1, .int a), (2, .int b)]) hx hb dX8_become_34 rfl hl (by decide) rfl (fun ls hl => ?_)
      refine lv_aload_n hx hb dX8_become_35 rfl (lv_at hl 1 rfl) ?_
      refine va_get (D := (dC, dI)) (ci := 6) (v := .ref ah) (C := RX8) (T := TX8) (N := 8) hx hb hts inX8 hown hK hP 0 rfl rfl 0 (by decide) (hts _ (List.mem_of_getElem? (i := 1) rfl)) (fun _ h9 => h9) rfl dX8_become_36 ?_
      refine va_getN (D := (dC, dI)) (ci := 4) (v := .ref q1) (C := RX6) (T := TX6) (N := 9) hx hb hts inX6 hown hK hP 2 rfl rfl 1 (by decide) (ev_nest hev 2 rfl) (fun _ h9 => h9) rfl dX8_become_39 ?_
      refine lv_iload_n hx hb dX8_become_42 rfl (lv_at hl 2 rfl) ?_
      refine lv_iload_n hx hb dX8_become_43 rfl (lv_at hl 3 rfl) ?_
      refine va_iast hx hb hK hP hD hS 3 1 rfl rfl (vp_in_iff.mpr ⟨by omega, by omega⟩) dX8_become_44 (fun H locs hP hD hS => ?_)
      have hP : va_P (dC, dI) vwCl [(h0, .inr (6, [.ref ah, v1, v2, v3, v4, v5, .ref t0, v7])), (t0, .inl (tc, 7, .inl tf)), (ah, .inr (4, [.int sh, .ref q1, w2, w3, w4, w5, w6, w7, w8])), (q1, .inl (c1, 9, .inl (upd f1 a.toNatClampNeg b)))] H := hP
      have hD : va_D A [(h0, .inr (6, [.ref ah, v1, v2, v3, v4, v5, .ref t0, v7])), (t0, .inl (tc, 7, .inl tf)), (ah, .inr (4, [.int sh, .ref q1, w2, w3, w4, w5, w6, w7, w8])), (q1, .inl (c1, 9, .inl (upd f1 a.toNatClampNeg b)))] := hD
      refine lv_iload_n hx hb dX8_become_45 rfl (lv_at hl 0 rfl) ?_
      have hP9 := hP.sub (ws' := [(h0, .inr (6, [.ref ah, v1, v2, v3, v4, v5, .ref t0, v7])), (t0, .inl (tc, 7, .inl tf)), (ah, .inr (4, [.int sh, .ref q1, w2, w3, w4, w5, w6, w7, w8])), (q1, .inl (c1, 9, .inl (upd f1 a.toNatClampNeg b)))]) [0, 1, 2, 3] rfl
      have hD9 := hD.sub (ws' := [(h0, .inr (6, [.ref ah, v1, v2, v3, v4, v5, .ref t0, v7])), (t0, .inl (tc, 7, .inl tf)), (ah, .inr (4, [.int sh, .ref q1, w2, w3, w4, w5, w6, w7, w8])), (q1, .inl (c1, 9, .inl (upd f1 a.toNatClampNeg b)))]) [0, 1, 2, 3] (by decide) rfl
      have hK9 := hK.sub (tys' := [(tc, .int), (c1, .int)]) [0, 1] rfl
      exact W.iret (v := n_7) hx hb hr (fun t ht hW => ⟨⟨n_7, (), rfl, trivial, tf, upd f1 a.toNatClampNeg b, by rw [ht]; exact hP9, va_K.moved hW.alike hK9, hD9⟩, hS.F ht⟩) hS.2.2 dX8_become_46
    · skip
      have tc_6 : r_5.toInt = 0 := (fa_eq _ _).mp c_6
      refine lv_aload_n hx hb dX8_become_18 rfl (lv_at hl 0 rfl) ?_
      refine lv_ldc hx hb hown (hts _ (List.mem_of_getElem? (i := 8) rfl)) dX8_become_19 ?_
      have hPc := hP.sub (ws' := [(h0, .inr (6, [.ref ah, v1, v2, v3, v4, v5, .ref t0, v7])), (t0, .inl (tc, 7, .inl tf))]) [0, 1] rfl
      have hKc := hK.sub (tys' := [(tc, .int)]) [0] rfl
      have hDc := hD.sub (ws' := [(h0, .inr (6, [.ref ah, v1, v2, v3, v4, v5, .ref t0, v7])), (t0, .inl (tc, 7, .inl tf))]) [0, 1] (by decide) rfl
      have hFc := va_free (wc := [(h0, .inr (6, [.ref ah, v1, v2, v3, v4, v5, .ref t0, v7])), (t0, .inl (tc, 7, .inl tf))]) hD hS hA [0, 1] rfl
      refine va_calli (va_runV (As := [.int (-1000000001)]) (rest := []) ⟨hx, hb, hml, hown, hts⟩ (f_beyond l dC dI ad h0 (.ref ah) v1 v2 v3 v4 v5 t0 v7 tc tf s.heap.size ) (cwV 1 hts g_x_become_f_beyond_63 rfl rfl rfl (by decide +kernel) ⟨(Nat.le_of_ble_eq_true rfl), (Nat.le_of_ble_eq_true rfl)⟩) ⟨preM_blind, va_recv hKc hPc (ci := 6) (q0 := 0) rfl rfl, fun U hU hW => ⟨rfl, preM_at hU hW hPc hKc hDc hev⟩⟩ rfl rfl hl.1 rfl (lv_room (Nat.le_of_ble_eq_true rfl)) dX8_become_21 ⟨(Nat.le_of_ble_eq_true rfl), (Nat.le_of_ble_eq_true rfl)⟩) hS (fun q _ h => hFc q h) hFc (fun r_8 u t H1 locs ht hvm hw hB hz1 hk1 hS => ?_)
      obtain ⟨tg_9, hP1, hK1, hD1⟩ := hB
      rw [ht] at hP1
      have hK1 := va_K.moved hvm.symm hK1
      obtain ⟨hP, hD⟩ := va_join (wr := [(ah, .inr (4, [.int sh, .ref q1, w2, w3, w4, w5, w6, w7, w8])), (q1, .inl (c1, 9, .inl f1))]) (w1 := [(h0, .inr (6, [.ref ah, v1, v2, v3, v4, v5, .ref t0, v7])), (t0, .inl (tc, 7, .inl tg_9))]) hP hD [0, 1] [2, 3] rfl rfl (by decide) (by decide) hk1 hFc hP1 hD1
      generalize H1 = H at hP hS ⊢
      have hP : va_P (dC, dI) vwCl [(ah, .inr (4, [.int sh, .ref q1, w2, w3, w4, w5, w6, w7, w8])), (q1, .inl (c1, 9, .inl f1)), (h0, .inr (6, [.ref ah, v1, v2, v3, v4, v5, .ref t0, v7])), (t0, .inl (tc, 7, .inl tg_9))] H := hP
      have hD : va_D A [(ah, .inr (4, [.int sh, .ref q1, w2, w3, w4, w5, w6, w7, w8])), (q1, .inl (c1, 9, .inl f1)), (h0, .inr (6, [.ref ah, v1, v2, v3, v4, v5, .ref t0, v7])), (t0, .inl (tc, 7, .inl tg_9))] := hD
      subst hw
      have hP9 := hP.sub (ws' := [(h0, .inr (6, [.ref ah, v1, v2, v3, v4, v5, .ref t0, v7])), (t0, .inl (tc, 7, .inl tg_9)), (ah, .inr (4, [.int sh, .ref q1, w2, w3, w4, w5, w6, w7, w8])), (q1, .inl (c1, 9, .inl f1))]) [2, 3, 0, 1] rfl
      have hD9 := hD.sub (ws' := [(h0, .inr (6, [.ref ah, v1, v2, v3, v4, v5, .ref t0, v7])), (t0, .inl (tc, 7, .inl tg_9)), (ah, .inr (4, [.int sh, .ref q1, w2, w3, w4, w5, w6, w7, w8])), (q1, .inl (c1, 9, .inl f1))]) [2, 3, 0, 1] (by decide) rfl
      have hK9 := hK.sub (tys' := [(tc, .int), (c1, .int)]) [0, 1] rfl
      exact W.iret (v := ((-1000000001) : Int32)) hx hb hr (fun t ht hW => ⟨⟨((-1000000001) : Int32), (), rfl, trivial, tg_9, f1, by rw [ht]; exact hP9, va_K.moved hW.alike hK9, hD9⟩, hS.F ht⟩) hS.2.2 dX8_become_24

def w_x_as : List Cond := .code yX8_as cX8_as 3 (some .int) :: (([.fieldLink RX8 10 "LampShapes" "now" "LLampShapes$Stage;", .methodLink RX8 76 yX6_hasShape, .instanceMethod yX6_hasShape, .selects RX6 yX6_hasShape yX6_hasShape, .initialized RX6, .code yX6_hasShape cX6_hasShape 2 (some .boolean), .fieldLink RX6 9 "LampShapes$Stage" "shapes" "I", .constant RX8 62 (-1000000001), .methodLink RX8 63 yX8_finding, .instanceMethod yX8_finding, .selects RX8 yX8_finding yX8_finding, .initialized RX8, .code yX8_finding cX8_finding 3 (some .int), .fieldLink RX8 46 "LampShapes" "told" "[I", .methodLink RX8 55 yX8_isKind, .static yX8_isKind, .code yX8_isKind cX8_isKind 1 (some .boolean), .methodLink RX8 95 yX0_isUnder, .static yX0_isUnder, .initialized RX0, .code yX0_isUnder cX0_isUnder 4 (some .boolean), .methodLink RX0 9 yX0_nextAbove, .static yX0_nextAbove, .code yX0_nextAbove cX0_nextAbove 1 (some .int), .constant RX8 101 (-1000000003)] : List Cond) ++ wsX80 ++ wsX60)
set_option maxRecDepth 20000 in
theorem g_x_as_s_hasShape_76 : GoodIn w_x_as (wsV RX8 76 RX6 yX6_hasShape w_s_hasShape) := goodIn_r _ [2, 3, 4, 5, 6, 7, 34, 35, 36, 37, 38, 39, 40, 41, 42] rfl (by decide +kernel)
set_option maxRecDepth 20000 in
theorem g_x_as_f_beyond_63 : GoodIn w_x_as (wsV RX8 63 RX8 yX8_finding w_f_beyond) := goodIn_r _ [9, 10, 11, 12, 13, 8, 14, 26, 27, 28, 29, 30, 31, 32, 33] rfl (by decide +kernel)
set_option maxRecDepth 20000 in
theorem g_x_as_x_isKind_55 : GoodIn w_x_as (va_wsS RX8 55 yX8_isKind w_x_isKind) := goodIn_r _ [15, 16, 12, 17] rfl (by decide +kernel)
set_option maxRecDepth 20000 in
theorem g_x_as_k_isUnder_95 : GoodIn w_x_as (va_wsS RX8 95 yX0_isUnder w_k_isUnder) := goodIn_r _ [18, 19, 20, 21, 22, 23, 20, 24] rfl (by decide +kernel)
set_option maxRecDepth 20000 in
theorem g_x_as_f_kind_63 : GoodIn w_x_as (wsV RX8 63 RX8 yX8_finding w_f_kind) := goodIn_r _ [9, 10, 11, 12, 13, 8, 14, 26, 27, 28, 29, 30, 31, 32, 33] rfl (by decide +kernel)
set_option maxHeartbeats 4000000 in
set_option maxRecDepth 100000 in
theorem x_as (l : Launch) (dC : Nat → ClassId) (dI : Nat → Nat → Nat) (ad : Nat → Nat) (h0 : Nat) (a : Int32) (b : Int32) (ah : Nat) (v1 : Value) (v2 : Value) (v3 : Value) (v4 : Value) (v5 : Value) (t0 : Nat) (v7 : Value) (tc : ClassId) (tf : Nat → Int32) (sh : Int32) (q1 : Nat) (q2 : Nat) (w3 : Value) (w4 : Value) (w5 : Value) (w6 : Value) (w7 : Value) (w8 : Value) (c1 : ClassId) (f1 : Nat → Int32) (c2 : ClassId) (f2 : Nat → Int32) (sz : Nat) (hsh : 0 ≤ sh.toInt ∧ sh.toInt ≤ 9) : Met l yX8_as w_x_as ({ frames := 2, cells := 0, slots := 0, locals := 43 } : Room) (va_Pc [.ref h0, .int a, .int b] (preM dC dI ad [(tc, .int), (c1, .int), (c2, .int)] [(h0, .inr (6, [.ref ah, v1, v2, v3, v4, v5, .ref t0, v7])), (t0, .inl (tc, 7, .inl tf)), (ah, .inr (4, [.int sh, .ref q1, .ref q2, w3, w4, w5, w6, w7, w8])), (q1, .inl (c1, 9, .inl f1)), (q2, .inl (c2, 9, .inl f2))] sz)) (va_Qi (fun (r : Int32) (_ : Unit) => True) (fun _ t => ∃ (tg : Nat → Int32), va_P (dC, dI) vwCl [(h0, .inr (6, [.ref ah, v1, v2, v3, v4, v5, .ref t0, v7])), (t0, .inl (tc, 7, .inl tg)), (ah, .inr (4, [.int sh, .ref q1, .ref q2, w3, w4, w5, w6, w7, w8])), (q1, .inl (c1, 9, .inl f1)), (q2, .inl (c2, 9, .inl f2))] t.heap ∧ va_K (dC, dI) vwCl [(tc, .int), (c1, .int), (c2, .int)] t ∧ va_D (va_A [(h0, .inr (6, [.ref ah, v1, v2, v3, v4, v5, .ref t0, v7])), (t0, .inl (tc, 7, .inl tf)), (ah, .inr (4, [.int sh, .ref q1, .ref q2, w3, w4, w5, w6, w7, w8])), (q1, .inl (c1, 9, .inl f1)), (q2, .inl (c2, 9, .inl f2))] sz) [(h0, .inr (6, [.ref ah, v1, v2, v3, v4, v5, .ref t0, v7])), (t0, .inl (tc, 7, .inl tg)), (ah, .inr (4, [.int sh, .ref q1, .ref q2, w3, w4, w5, w6, w7, w8])), (q1, .inl (c1, 9, .inl f1)), (q2, .inl (c2, 9, .inl f2))]) (va_A [(h0, .inr (6, [.ref ah, v1, v2, v3, v4, v5, .ref t0, v7])), (t0, .inl (tc, 7, .inl tf)), (ah, .inr (4, [.int sh, .ref q1, .ref q2, w3, w4, w5, w6, w7, w8])), (q1, .inl (c1, 9, .inl f1)), (q2, .inl (c2, 9, .inl f2))] sz)) 0 0 (va_A [(h0, .inr (6, [.ref ah, v1, v2, v3, v4, v5, .ref t0, v7])), (t0, .inl (tc, 7, .inl tf)), (ah, .inr (4, [.int sh, .ref q1, .ref q2, w3, w4, w5, w6, w7, w8])), (q1, .inl (c1, 9, .inl f1)), (q2, .inl (c2, 9, .inl f2))] sz) := by
  refine Met.ofW (cc := cX8_as) (maxL := 3) (ret := (some .int)) (by decide) rfl ?_
  intro p e s m args below meth c s₁ B hml hv
  obtain ⟨rfl, hsz, hP, hK, hD0, hev⟩ := hv
  have hx := B.exec
  have hb := B.bytes
  have hr := B.returns
  have hts := atoms_spec (ws := w_x_as) B.pre
  have hown : s.vm.findClass RX8 = some m.cls := findClass_of_methodNamed B.named
  have hlocks := B.notSynchronized
  have inX8 : ∀ w ∈ wsX80, w ∈ w_x_as := fun w h => List.mem_cons_of_mem _ (List.mem_append_left _ (List.mem_append_right _ h))
  have inX6 : ∀ w ∈ wsX60, w ∈ w_x_as := fun w h => List.mem_cons_of_mem _ (List.mem_append_right _ h)
  subst hsz
  have hD := hD0.self (sz := s.heap.size)
  generalize hAe : va_A [(h0, .inr (6, [.ref ah, v1, v2, v3, v4, v5, .ref t0, v7])), (t0, .inl (tc, 7, .inl tf)), (ah, .inr (4, [.int sh, .ref q1, .ref q2, w3, w4, w5, w6, w7, w8])), (q1, .inl (c1, 9, .inl f1)), (q2, .inl (c2, 9, .inl f2))] s.heap.size = A at hD ⊢
  have hA : ∀ q : Nat, s.heap.size ≤ q → A q := fun q h => by rw [← hAe]; exact Or.inr h
  have hS : va_S A s.heap s.heap [] := va_S.rf
  have hP : va_P (dC, dI) vwCl [(h0, .inr (6, [.ref ah, v1, v2, v3, v4, v5, .ref t0, v7])), (t0, .inl (tc, 7, .inl tf)), (ah, .inr (4, [.int sh, .ref q1, .ref q2, w3, w4, w5, w6, w7, w8])), (q1, .inl (c1, 9, .inl f1)), (q2, .inl (c2, 9, .inl f2))] s.heap := hP
  have hl := lv_entry ([.ref h0, .int a, .int b]) (n := 3) (Nat.le_of_ble_eq_true rfl)
  rw [lg_entry_eq]
  generalize (lg_sl ([.ref h0, .int a, .int b]) ++ List.replicate (3 - (lg_sl ([.ref h0, .int a, .int b])).length) Slot.unset).toArray = ls at hl ⊢
  have hl : lv_has ls 3 [(0, .ref h0), (1, .int a), (2, .int b)] := hl
  refine lv_aload_n hx hb dX8_as_0 rfl (lv_at hl 0 rfl) ?_
  refine va_get (D := (dC, dI)) (ci := 6) (v := .ref ah) (C := RX8) (T := TX8) (N := 8) hx hb hts inX8 hown hK hP 0 rfl rfl 0 (by decide) (hts _ (List.mem_of_getElem? (i := 1) rfl)) (fun _ h9 => h9) rfl dX8_as_1 ?_
  refine lv_iload_n hx hb dX8_as_4 rfl (lv_at hl 1 rfl) ?_
  have hPc := hP.sub (ws' := [(ah, .inr (4, [.int sh, .ref q1, .ref q2, w3, w4, w5, w6, w7, w8]))]) [2] rfl
  have hKc := hK.sub (tys' := []) [] rfl
  refine vp_callSi (W.runV (As := [.int a]) (rest := []) ⟨hx, hb, hml, hown, hts⟩ (s_hasShape l dC dI ad ah a sh (.ref q1) (.ref q2) w3 w4 w5 w6 w7 w8 ) (cwV 1 hts g_x_as_s_hasShape_76 rfl rfl rfl (by decide +kernel) ⟨(Nat.le_of_ble_eq_true rfl), (Nat.le_of_ble_eq_true rfl)⟩) ⟨preS_blind, va_recv hKc hPc (ci := 4) (q0 := 0) rfl rfl, fun U hU hW => ⟨rfl, preS_at hU hW hPc hKc hev⟩⟩ rfl rfl hl.1 rfl (lv_room (Nat.le_of_ble_eq_true rfl)) dX8_as_5 ⟨(Nat.le_of_ble_eq_true rfl), (Nat.le_of_ble_eq_true rfl)⟩) (fun r_1 hw => ?_)
  have hr_1 : (r_1.toInt = 1 ∧ 0 ≤ a.toInt ∧ a.toInt < sh.toInt) ∨ r_1.toInt = 0 := hw
  refine lv_if_eq (tgt := 18) hx hb dX8_as_8 (by decide) (fun c_2 => ?_) (fun c_2 => ?_)
  · skip
    have tc_2 : r_1.toInt = 0 := (fa_eq _ _).mp c_2
    refine lv_aload_n hx hb dX8_as_18 rfl (lv_at hl 0 rfl) ?_
    refine lv_ldc hx hb hown (hts _ (List.mem_of_getElem? (i := 8) rfl)) dX8_as_19 ?_
    have hPc := hP.sub (ws' := [(h0, .inr (6, [.ref ah, v1, v2, v3, v4, v5, .ref t0, v7])), (t0, .inl (tc, 7, .inl tf))]) [0, 1] rfl
    have hKc := hK.sub (tys' := [(tc, .int)]) [0] rfl
    have hDc := hD.sub (ws' := [(h0, .inr (6, [.ref ah, v1, v2, v3, v4, v5, .ref t0, v7])), (t0, .inl (tc, 7, .inl tf))]) [0, 1] (by decide) rfl
    have hFc := va_free (wc := [(h0, .inr (6, [.ref ah, v1, v2, v3, v4, v5, .ref t0, v7])), (t0, .inl (tc, 7, .inl tf))]) hD hS hA [0, 1] rfl
    refine va_calli (va_runV (As := [.int (-1000000001)]) (rest := []) ⟨hx, hb, hml, hown, hts⟩ (f_beyond l dC dI ad h0 (.ref ah) v1 v2 v3 v4 v5 t0 v7 tc tf s.heap.size ) (cwV 1 hts g_x_as_f_beyond_63 rfl rfl rfl (by decide +kernel) ⟨(Nat.le_of_ble_eq_true rfl), (Nat.le_of_ble_eq_true rfl)⟩) ⟨preM_blind, va_recv hKc hPc (ci := 6) (q0 := 0) rfl rfl, fun U hU hW => ⟨rfl, preM_at hU hW hPc hKc hDc hev⟩⟩ rfl rfl hl.1 rfl (lv_room (Nat.le_of_ble_eq_true rfl)) dX8_as_21 ⟨(Nat.le_of_ble_eq_true rfl), (Nat.le_of_ble_eq_true rfl)⟩) hS (fun q _ h => hFc q h) hFc (fun r_3 u t H1 locs ht hvm hw hB hz1 hk1 hS => ?_)
    obtain ⟨tg_4, hP1, hK1, hD1⟩ := hB
    rw [ht] at hP1
    have hK1 := va_K.moved hvm.symm hK1
    obtain ⟨hP, hD⟩ := va_join (wr := [(ah, .inr (4, [.int sh, .ref q1, .ref q2, w3, w4, w5, w6, w7, w8])), (q1, .inl (c1, 9, .inl f1)), (q2, .inl (c2, 9, .inl f2))]) (w1 := [(h0, .inr (6, [.ref ah, v1, v2, v3, v4, v5, .ref t0, v7])), (t0, .inl (tc, 7, .inl tg_4))]) hP hD [0, 1] [2, 3, 4] rfl rfl (by decide) (by decide) hk1 hFc hP1 hD1
    generalize H1 = H at hP hS ⊢
    have hP : va_P (dC, dI) vwCl [(ah, .inr (4, [.int sh, .ref q1, .ref q2, w3, w4, w5, w6, w7, w8])), (q1, .inl (c1, 9, .inl f1)), (q2, .inl (c2, 9, .inl f2)), (h0, .inr (6, [.ref ah, v1, v2, v3, v4, v5, .ref t0, v7])), (t0, .inl (tc, 7, .inl tg_4))] H := hP
    have hD : va_D A [(ah, .inr (4, [.int sh, .ref q1, .ref q2, w3, w4, w5, w6, w7, w8])), (q1, .inl (c1, 9, .inl f1)), (q2, .inl (c2, 9, .inl f2)), (h0, .inr (6, [.ref ah, v1, v2, v3, v4, v5, .ref t0, v7])), (t0, .inl (tc, 7, .inl tg_4))] := hD
    subst hw
    have hP9 := hP.sub (ws' := [(h0, .inr (6, [.ref ah, v1, v2, v3, v4, v5, .ref t0, v7])), (t0, .inl (tc, 7, .inl tg_4)), (ah, .inr (4, [.int sh, .ref q1, .ref q2, w3, w4, w5, w6, w7, w8])), (q1, .inl (c1, 9, .inl f1)), (q2, .inl (c2, 9, .inl f2))]) [3, 4, 0, 1, 2] rfl
    have hD9 := hD.sub (ws' := [(h0, .inr (6, [.ref ah, v1, v2, v3, v4, v5, .ref t0, v7])), (t0, .inl (tc, 7, .inl tg_4)), (ah, .inr (4, [.int sh, .ref q1, .ref q2, w3, w4, w5, w6, w7, w8])), (q1, .inl (c1, 9, .inl f1)), (q2, .inl (c2, 9, .inl f2))]) [3, 4, 0, 1, 2] (by decide) rfl
    have hK9 := hK.sub (tys' := [(tc, .int), (c1, .int), (c2, .int)]) [0, 1, 2] rfl
    exact W.iret (v := ((-1000000001) : Int32)) hx hb hr (fun t ht hW => ⟨⟨((-1000000001) : Int32), (), rfl, trivial, tg_4, by rw [ht]; exact hP9, va_K.moved hW.alike hK9, hD9⟩, hS.F ht⟩) hS.2.2 dX8_as_24
  · skip
    have tc_2 : ¬ r_1.toInt = 0 := fun h => c_2 ((fa_eq _ _).mpr h)
    refine lv_iload_n hx hb dX8_as_11 rfl (lv_at hl 2 rfl) ?_
    have hPc := hP.sub (ws' := []) [] rfl
    have hKc := hK.sub (tys' := []) [] rfl
    refine vp_callSi (W.runS (As := [.int b]) (rest := []) ⟨hx, hb, hml, hown, hts⟩ (x_isKind l dC dI ad b ) (va_cwS 1 hts g_x_as_x_isKind_55 rfl rfl rfl (by decide +kernel) ⟨(Nat.le_of_ble_eq_true rfl), (Nat.le_of_ble_eq_true rfl)⟩) ⟨preS_blind, fun U hU hW => ⟨rfl, preS_at hU hW hPc hKc hev⟩⟩ rfl rfl hl.1 rfl (lv_room (Nat.le_of_ble_eq_true rfl)) dX8_as_12 ⟨(Nat.le_of_ble_eq_true rfl), (Nat.le_of_ble_eq_true rfl)⟩) (fun r_5 hw => ?_)
    refine lv_if_ne (tgt := 25) hx hb dX8_as_15 (by decide) (fun c_6 => ?_) (fun c_6 => ?_)
    · skip
      have tc_6 : ¬ r_5.toInt = 0 := fun h => c_6 ((fa_eq _ _).mpr h)
      refine lv_aload_n hx hb dX8_as_25 rfl (lv_at hl 0 rfl) ?_
      refine va_get (D := (dC, dI)) (ci := 6) (v := .ref ah) (C := RX8) (T := TX8) (N := 8) hx hb hts inX8 hown hK hP 0 rfl rfl 0 (by decide) (hts _ (List.mem_of_getElem? (i := 1) rfl)) (fun _ h9 => h9) rfl dX8_as_26 ?_
      refine va_getN (D := (dC, dI)) (ci := 4) (v := .ref q1) (C := RX6) (T := TX6) (N := 9) hx hb hts inX6 hown hK hP 2 rfl rfl 1 (by decide) (ev_nest hev 2 rfl) (fun _ h9 => h9) rfl dX8_as_29 ?_
      refine lv_iload_n hx hb dX8_as_32 rfl (lv_at hl 1 rfl) ?_
      refine va_iald hx hb hK hP 3 1 rfl rfl (vp_in_iff.mpr ⟨by omega, by omega⟩) dX8_as_33 ?_
      refine lv_topi (fun n_7 en_7 => ?_)
      clear en_7
      refine lv_iload_n hx hb dX8_as_34 rfl (lv_at hl 2 rfl) ?_
      have hPc := hP.sub (ws' := []) [] rfl
      have hKc := hK.sub (tys' := []) [] rfl
      refine vp_callSi (W.runS (As := [.int n_7, .int b]) (rest := []) ⟨hx, hb, hml, hown, hts⟩ (k_isUnder l dC dI ad n_7 b ) (va_cwS 2 hts g_x_as_k_isUnder_95 rfl rfl rfl (by decide +kernel) ⟨(Nat.le_of_ble_eq_true rfl), (Nat.le_of_ble_eq_true rfl)⟩) ⟨preS_blind, fun U hU hW => ⟨rfl, preS_at hU hW hPc hKc hev⟩⟩ rfl rfl hl.1 rfl (lv_room (Nat.le_of_ble_eq_true rfl)) dX8_as_35 ⟨(Nat.le_of_ble_eq_true rfl), (Nat.le_of_ble_eq_true rfl)⟩) (fun r_8 hw => ?_)
      refine lv_if_ne (tgt := 48) hx hb dX8_as_38 (by decide) (fun c_9 => ?_) (fun c_9 => ?_)
      · skip
        have tc_9 : ¬ r_8.toInt = 0 := fun h => c_9 ((fa_eq _ _).mpr h)
        refine lv_aload_n hx hb dX8_as_48 rfl (lv_at hl 0 rfl) ?_
        refine va_get (D := (dC, dI)) (ci := 6) (v := .ref ah) (C := RX8) (T := TX8) (N := 8) hx hb hts inX8 hown hK hP 0 rfl rfl 0 (by decide) (hts _ (List.mem_of_getElem? (i := 1) rfl)) (fun _ h9 => h9) rfl dX8_as_49 ?_
        refine va_getN (D := (dC, dI)) (ci := 4) (v := .ref q2) (C := RX6) (T := TX6) (N := 9) hx hb hts inX6 hown hK hP 2 rfl rfl 2 (by decide) (ev_nest hev 3 rfl) (fun _ h9 => h9) rfl dX8_as_52 ?_
        refine lv_iload_n hx hb dX8_as_55 rfl (lv_at hl 1 rfl) ?_
        refine va_iald hx hb hK hP 4 2 rfl rfl (vp_in_iff.mpr ⟨by omega, by omega⟩) dX8_as_56 ?_
        refine lv_topi (fun n_10 en_10 => ?_)
        clear en_10
        have hP9 := hP.sub (ws' := [(h0, .inr (6, [.ref ah, v1, v2, v3, v4, v5, .ref t0, v7])), (t0, .inl (tc, 7, .inl tf)), (ah, .inr (4, [.int sh, .ref q1, .ref q2, w3, w4, w5, w6, w7, w8])), (q1, .inl (c1, 9, .inl f1)), (q2, .inl (c2, 9, .inl f2))]) [0, 1, 2, 3, 4] rfl
        have hD9 := hD.sub (ws' := [(h0, .inr (6, [.ref ah, v1, v2, v3, v4, v5, .ref t0, v7])), (t0, .inl (tc, 7, .inl tf)), (ah, .inr (4, [.int sh, .ref q1, .ref q2, w3, w4, w5, w6, w7, w8])), (q1, .inl (c1, 9, .inl f1)), (q2, .inl (c2, 9, .inl f2))]) [0, 1, 2, 3, 4] (by decide) rfl
        have hK9 := hK.sub (tys' := [(tc, .int), (c1, .int), (c2, .int)]) [0, 1, 2] rfl
        exact W.iret (v := n_10) hx hb hr (fun t ht hW => ⟨⟨n_10, (), rfl, trivial, tf, by rw [ht]; exact hP9, va_K.moved hW.alike hK9, hD9⟩, hS.F ht⟩) hS.2.2 dX8_as_57
      · skip
        have tc_9 : r_8.toInt = 0 := (fa_eq _ _).mp c_9
        refine lv_aload_n hx hb dX8_as_41 rfl (lv_at hl 0 rfl) ?_
        refine lv_ldc hx hb hown (hts _ (List.mem_of_getElem? (i := 25) rfl)) dX8_as_42 ?_
        have hPc := hP.sub (ws' := [(h0, .inr (6, [.ref ah, v1, v2, v3, v4, v5, .ref t0, v7])), (t0, .inl (tc, 7, .inl tf))]) [0, 1] rfl
        have hKc := hK.sub (tys' := [(tc, .int)]) [0] rfl
        have hDc := hD.sub (ws' := [(h0, .inr (6, [.ref ah, v1, v2, v3, v4, v5, .ref t0, v7])), (t0, .inl (tc, 7, .inl tf))]) [0, 1] (by decide) rfl
        have hFc := va_free (wc := [(h0, .inr (6, [.ref ah, v1, v2, v3, v4, v5, .ref t0, v7])), (t0, .inl (tc, 7, .inl tf))]) hD hS hA [0, 1] rfl
        refine va_calli (va_runV (As := [.int (-1000000003)]) (rest := []) ⟨hx, hb, hml, hown, hts⟩ (f_kind l dC dI ad h0 (.ref ah) v1 v2 v3 v4 v5 t0 v7 tc tf s.heap.size ) (cwV 1 hts g_x_as_f_kind_63 rfl rfl rfl (by decide +kernel) ⟨(Nat.le_of_ble_eq_true rfl), (Nat.le_of_ble_eq_true rfl)⟩) ⟨preM_blind, va_recv hKc hPc (ci := 6) (q0 := 0) rfl rfl, fun U hU hW => ⟨rfl, preM_at hU hW hPc hKc hDc hev⟩⟩ rfl rfl hl.1 rfl (lv_room (Nat.le_of_ble_eq_true rfl)) dX8_as_44 ⟨(Nat.le_of_ble_eq_true rfl), (Nat.le_of_ble_eq_true rfl)⟩) hS (fun q _ h => hFc q h) hFc (fun r_11 u t H1 locs ht hvm hw hB hz1 hk1 hS => ?_)
        obtain ⟨tg_12, hP1, hK1, hD1⟩ := hB
        rw [ht] at hP1
        have hK1 := va_K.moved hvm.symm hK1
        obtain ⟨hP, hD⟩ := va_join (wr := [(ah, .inr (4, [.int sh, .ref q1, .ref q2, w3, w4, w5, w6, w7, w8])), (q1, .inl (c1, 9, .inl f1)), (q2, .inl (c2, 9, .inl f2))]) (w1 := [(h0, .inr (6, [.ref ah, v1, v2, v3, v4, v5, .ref t0, v7])), (t0, .inl (tc, 7, .inl tg_12))]) hP hD [0, 1] [2, 3, 4] rfl rfl (by decide) (by decide) hk1 hFc hP1 hD1
        generalize H1 = H at hP hS ⊢
        have hP : va_P (dC, dI) vwCl [(ah, .inr (4, [.int sh, .ref q1, .ref q2, w3, w4, w5, w6, w7, w8])), (q1, .inl (c1, 9, .inl f1)), (q2, .inl (c2, 9, .inl f2)), (h0, .inr (6, [.ref ah, v1, v2, v3, v4, v5, .ref t0, v7])), (t0, .inl (tc, 7, .inl tg_12))] H := hP
        have hD : va_D A [(ah, .inr (4, [.int sh, .ref q1, .ref q2, w3, w4, w5, w6, w7, w8])), (q1, .inl (c1, 9, .inl f1)), (q2, .inl (c2, 9, .inl f2)), (h0, .inr (6, [.ref ah, v1, v2, v3, v4, v5, .ref t0, v7])), (t0, .inl (tc, 7, .inl tg_12))] := hD
        subst hw
        have hP9 := hP.sub (ws' := [(h0, .inr (6, [.ref ah, v1, v2, v3, v4, v5, .ref t0, v7])), (t0, .inl (tc, 7, .inl tg_12)), (ah, .inr (4, [.int sh, .ref q1, .ref q2, w3, w4, w5, w6, w7, w8])), (q1, .inl (c1, 9, .inl f1)), (q2, .inl (c2, 9, .inl f2))]) [3, 4, 0, 1, 2] rfl
        have hD9 := hD.sub (ws' := [(h0, .inr (6, [.ref ah, v1, v2, v3, v4, v5, .ref t0, v7])), (t0, .inl (tc, 7, .inl tg_12)), (ah, .inr (4, [.int sh, .ref q1, .ref q2, w3, w4, w5, w6, w7, w8])), (q1, .inl (c1, 9, .inl f1)), (q2, .inl (c2, 9, .inl f2))]) [3, 4, 0, 1, 2] (by decide) rfl
        have hK9 := hK.sub (tys' := [(tc, .int), (c1, .int), (c2, .int)]) [0, 1, 2] rfl
        exact W.iret (v := ((-1000000003) : Int32)) hx hb hr (fun t ht hW => ⟨⟨((-1000000003) : Int32), (), rfl, trivial, tg_12, by rw [ht]; exact hP9, va_K.moved hW.alike hK9, hD9⟩, hS.F ht⟩) hS.2.2 dX8_as_47
    · skip
      have tc_6 : r_5.toInt = 0 := (fa_eq _ _).mp c_6
      refine lv_aload_n hx hb dX8_as_18 rfl (lv_at hl 0 rfl) ?_
      refine lv_ldc hx hb hown (hts _ (List.mem_of_getElem? (i := 8) rfl)) dX8_as_19 ?_
      have hPc := hP.sub (ws' := [(h0, .inr (6, [.ref ah, v1, v2, v3, v4, v5, .ref t0, v7])), (t0, .inl (tc, 7, .inl tf))]) [0, 1] rfl
      have hKc := hK.sub (tys' := [(tc, .int)]) [0] rfl
      have hDc := hD.sub (ws' := [(h0, .inr (6, [.ref ah, v1, v2, v3, v4, v5, .ref t0, v7])), (t0, .inl (tc, 7, .inl tf))]) [0, 1] (by decide) rfl
      have hFc := va_free (wc := [(h0, .inr (6, [.ref ah, v1, v2, v3, v4, v5, .ref t0, v7])), (t0, .inl (tc, 7, .inl tf))]) hD hS hA [0, 1] rfl
      refine va_calli (va_runV (As := [.int (-1000000001)]) (rest := []) ⟨hx, hb, hml, hown, hts⟩ (f_beyond l dC dI ad h0 (.ref ah) v1 v2 v3 v4 v5 t0 v7 tc tf s.heap.size ) (cwV 1 hts g_x_as_f_beyond_63 rfl rfl rfl (by decide +kernel) ⟨(Nat.le_of_ble_eq_true rfl), (Nat.le_of_ble_eq_true rfl)⟩) ⟨preM_blind, va_recv hKc hPc (ci := 6) (q0 := 0) rfl rfl, fun U hU hW => ⟨rfl, preM_at hU hW hPc hKc hDc hev⟩⟩ rfl rfl hl.1 rfl (lv_room (Nat.le_of_ble_eq_true rfl)) dX8_as_21 ⟨(Nat.le_of_ble_eq_true rfl), (Nat.le_of_ble_eq_true rfl)⟩) hS (fun q _ h => hFc q h) hFc (fun r_13 u t H1 locs ht hvm hw hB hz1 hk1 hS => ?_)
      obtain ⟨tg_14, hP1, hK1, hD1⟩ := hB
      rw [ht] at hP1
      have hK1 := va_K.moved hvm.symm hK1
      obtain ⟨hP, hD⟩ := va_join (wr := [(ah, .inr (4, [.int sh, .ref q1, .ref q2, w3, w4, w5, w6, w7, w8])), (q1, .inl (c1, 9, .inl f1)), (q2, .inl (c2, 9, .inl f2))]) (w1 := [(h0, .inr (6, [.ref ah, v1, v2, v3, v4, v5, .ref t0, v7])), (t0, .inl (tc, 7, .inl tg_14))]) hP hD [0, 1] [2, 3, 4] rfl rfl (by decide) (by decide) hk1 hFc hP1 hD1
      generalize H1 = H at hP hS ⊢
      have hP : va_P (dC, dI) vwCl [(ah, .inr (4, [.int sh, .ref q1, .ref q2, w3, w4, w5, w6, w7, w8])), (q1, .inl (c1, 9, .inl f1)), (q2, .inl (c2, 9, .inl f2)), (h0, .inr (6, [.ref ah, v1, v2, v3, v4, v5, .ref t0, v7])), (t0, .inl (tc, 7, .inl tg_14))] H := hP
      have hD : va_D A [(ah, .inr (4, [.int sh, .ref q1, .ref q2, w3, w4, w5, w6, w7, w8])), (q1, .inl (c1, 9, .inl f1)), (q2, .inl (c2, 9, .inl f2)), (h0, .inr (6, [.ref ah, v1, v2, v3, v4, v5, .ref t0, v7])), (t0, .inl (tc, 7, .inl tg_14))] := hD
      subst hw
      have hP9 := hP.sub (ws' := [(h0, .inr (6, [.ref ah, v1, v2, v3, v4, v5, .ref t0, v7])), (t0, .inl (tc, 7, .inl tg_14)), (ah, .inr (4, [.int sh, .ref q1, .ref q2, w3, w4, w5, w6, w7, w8])), (q1, .inl (c1, 9, .inl f1)), (q2, .inl (c2, 9, .inl f2))]) [3, 4, 0, 1, 2] rfl
      have hD9 := hD.sub (ws' := [(h0, .inr (6, [.ref ah, v1, v2, v3, v4, v5, .ref t0, v7])), (t0, .inl (tc, 7, .inl tg_14)), (ah, .inr (4, [.int sh, .ref q1, .ref q2, w3, w4, w5, w6, w7, w8])), (q1, .inl (c1, 9, .inl f1)), (q2, .inl (c2, 9, .inl f2))]) [3, 4, 0, 1, 2] (by decide) rfl
      have hK9 := hK.sub (tys' := [(tc, .int), (c1, .int), (c2, .int)]) [0, 1, 2] rfl
      exact W.iret (v := ((-1000000001) : Int32)) hx hb hr (fun t ht hW => ⟨⟨((-1000000001) : Int32), (), rfl, trivial, tg_14, by rw [ht]; exact hP9, va_K.moved hW.alike hK9, hD9⟩, hS.F ht⟩) hS.2.2 dX8_as_24

def w_x_thrown : List Cond := .code yX8_thrown cX8_thrown 3 (some .int) :: (([.fieldLink RX8 10 "LampShapes" "now" "LLampShapes$Stage;", .methodLink RX8 76 yX6_hasShape, .instanceMethod yX6_hasShape, .selects RX6 yX6_hasShape yX6_hasShape, .initialized RX6, .code yX6_hasShape cX6_hasShape 2 (some .boolean), .fieldLink RX6 9 "LampShapes$Stage" "shapes" "I", .constant RX8 62 (-1000000001), .methodLink RX8 63 yX8_finding, .instanceMethod yX8_finding, .selects RX8 yX8_finding yX8_finding, .initialized RX8, .code yX8_finding cX8_finding 3 (some .int), .fieldLink RX8 46 "LampShapes" "told" "[I", .methodLink RX8 102 yX0_pointsBy, .static yX0_pointsBy, .initialized RX0, .code yX0_pointsBy cX0_pointsBy 3 (some .int), .methodLink RX0 15 yX0_turnedBy, .static yX0_turnedBy, .code yX0_turnedBy cX0_turnedBy 6 (some .int), .methodLink RX0 19 yX0_mirroredBy, .static yX0_mirroredBy, .code yX0_mirroredBy cX0_mirroredBy 2 (some .int), .constant RX0 31 (34952), .methodLink RX0 22 yX0_hollowed, .static yX0_hollowed, .code yX0_hollowed cX0_hollowed 5 (some .int), .constant RX0 32 (61166), .methodLink RX0 25 yX0_doubled, .static yX0_doubled, .code yX0_doubled cX0_doubled 1 (some .int), .constant RX0 33 (65535), .methodLink RX0 28 yX0_filled, .static yX0_filled, .code yX0_filled cX0_filled 6 (some .int)] : List Cond) ++ wsX80 ++ wsX60)
set_option maxRecDepth 20000 in
theorem g_x_thrown_s_hasShape_76 : GoodIn w_x_thrown (wsV RX8 76 RX6 yX6_hasShape w_s_hasShape) := goodIn_r _ [2, 3, 4, 5, 6, 7, 45, 46, 47, 48, 49, 50, 51, 52, 53] rfl (by decide +kernel)
set_option maxRecDepth 20000 in
theorem g_x_thrown_f_beyond_63 : GoodIn w_x_thrown (wsV RX8 63 RX8 yX8_finding w_f_beyond) := goodIn_r _ [9, 10, 11, 12, 13, 8, 14, 37, 38, 39, 40, 41, 42, 43, 44] rfl (by decide +kernel)
set_option maxRecDepth 20000 in
theorem g_x_thrown_k_pointsBy_102 : GoodIn w_x_thrown (va_wsS RX8 102 yX0_pointsBy w_k_pointsBy) := goodIn_r _ [15, 16, 17, 18, 19, 20, 17, 21, 22, 23, 24, 25, 26, 27, 28, 29, 30, 31, 32, 33, 34, 35, 36] rfl (by decide +kernel)
set_option maxHeartbeats 4000000 in
set_option maxRecDepth 100000 in
theorem x_thrown (l : Launch) (dC : Nat → ClassId) (dI : Nat → Nat → Nat) (ad : Nat → Nat) (h0 : Nat) (a : Int32) (b : Int32) (ah : Nat) (v1 : Value) (v2 : Value) (v3 : Value) (v4 : Value) (v5 : Value) (t0 : Nat) (v7 : Value) (tc : ClassId) (tf : Nat → Int32) (sh : Int32) (q1 : Nat) (q2 : Nat) (w3 : Value) (w4 : Value) (w5 : Value) (w6 : Value) (w7 : Value) (w8 : Value) (c1 : ClassId) (f1 : Nat → Int32) (c2 : ClassId) (f2 : Nat → Int32) (sz : Nat) (hsh : 0 ≤ sh.toInt ∧ sh.toInt ≤ 9) : Met l yX8_thrown w_x_thrown ({ frames := 2, cells := 0, slots := 0, locals := 47 } : Room) (va_Pc [.ref h0, .int a, .int b] (preM dC dI ad [(tc, .int), (c1, .int), (c2, .int)] [(h0, .inr (6, [.ref ah, v1, v2, v3, v4, v5, .ref t0, v7])), (t0, .inl (tc, 7, .inl tf)), (ah, .inr (4, [.int sh, .ref q1, .ref q2, w3, w4, w5, w6, w7, w8])), (q1, .inl (c1, 9, .inl f1)), (q2, .inl (c2, 9, .inl f2))] sz)) (va_Qi (fun (r : Int32) (_ : Unit) => True) (fun _ t => ∃ (tg : Nat → Int32), va_P (dC, dI) vwCl [(h0, .inr (6, [.ref ah, v1, v2, v3, v4, v5, .ref t0, v7])), (t0, .inl (tc, 7, .inl tg)), (ah, .inr (4, [.int sh, .ref q1, .ref q2, w3, w4, w5, w6, w7, w8])), (q1, .inl (c1, 9, .inl f1)), (q2, .inl (c2, 9, .inl f2))] t.heap ∧ va_K (dC, dI) vwCl [(tc, .int), (c1, .int), (c2, .int)] t ∧ va_D (va_A [(h0, .inr (6, [.ref ah, v1, v2, v3, v4, v5, .ref t0, v7])), (t0, .inl (tc, 7, .inl tf)), (ah, .inr (4, [.int sh, .ref q1, .ref q2, w3, w4, w5, w6, w7, w8])), (q1, .inl (c1, 9, .inl f1)), (q2, .inl (c2, 9, .inl f2))] sz) [(h0, .inr (6, [.ref ah, v1, v2, v3, v4, v5, .ref t0, v7])), (t0, .inl (tc, 7, .inl tg)), (ah, .inr (4, [.int sh, .ref q1, .ref q2, w3, w4, w5, w6, w7, w8])), (q1, .inl (c1, 9, .inl f1)), (q2, .inl (c2, 9, .inl f2))]) (va_A [(h0, .inr (6, [.ref ah, v1, v2, v3, v4, v5, .ref t0, v7])), (t0, .inl (tc, 7, .inl tf)), (ah, .inr (4, [.int sh, .ref q1, .ref q2, w3, w4, w5, w6, w7, w8])), (q1, .inl (c1, 9, .inl f1)), (q2, .inl (c2, 9, .inl f2))] sz)) 0 0 (va_A [(h0, .inr (6, [.ref ah, v1, v2, v3, v4, v5, .ref t0, v7])), (t0, .inl (tc, 7, .inl tf)), (ah, .inr (4, [.int sh, .ref q1, .ref q2, w3, w4, w5, w6, w7, w8])), (q1, .inl (c1, 9, .inl f1)), (q2, .inl (c2, 9, .inl f2))] sz) := by
  refine Met.ofW (cc := cX8_thrown) (maxL := 3) (ret := (some .int)) (by decide) rfl ?_
  intro p e s m args below meth c s₁ B hml hv
  obtain ⟨rfl, hsz, hP, hK, hD0, hev⟩ := hv
  have hx := B.exec
  have hb := B.bytes
  have hr := B.returns
  have hts := atoms_spec (ws := w_x_thrown) B.pre
  have hown : s.vm.findClass RX8 = some m.cls := findClass_of_methodNamed B.named
  have hlocks := B.notSynchronized
  have inX8 : ∀ w ∈ wsX80, w ∈ w_x_thrown := fun w h => List.mem_cons_of_mem _ (List.mem_append_left _ (List.mem_append_right _ h))
  have inX6 : ∀ w ∈ wsX60, w ∈ w_x_thrown := fun w h => List.mem_cons_of_mem _ (List.mem_append_right _ h)
  subst hsz
  have hD := hD0.self (sz := s.heap.size)
  generalize hAe : va_A [(h0, .inr (6, [.ref ah, v1, v2, v3, v4, v5, .ref t0, v7])), (t0, .inl (tc, 7, .inl tf)), (ah, .inr (4, [.int sh, .ref q1, .ref q2, w3, w4, w5, w6, w7, w8])), (q1, .inl (c1, 9, .inl f1)), (q2, .inl (c2, 9, .inl f2))] s.heap.size = A at hD ⊢
  have hA : ∀ q : Nat, s.heap.size ≤ q → A q := fun q h => by rw [← hAe]; exact Or.inr h
  have hS : va_S A s.heap s.heap [] := va_S.rf
  have hP : va_P (dC, dI) vwCl [(h0, .inr (6, [.ref ah, v1, v2, v3, v4, v5, .ref t0, v7])), (t0, .inl (tc, 7, .inl tf)), (ah, .inr (4, [.int sh, .ref q1, .ref q2, w3, w4, w5, w6, w7, w8])), (q1, .inl (c1, 9, .inl f1)), (q2, .inl (c2, 9, .inl f2))] s.heap := hP
  have hl := lv_entry ([.ref h0, .int a, .int b]) (n := 3) (Nat.le_of_ble_eq_true rfl)
  rw [lg_entry_eq]
  generalize (lg_sl ([.ref h0, .int a, .int b]) ++ List.replicate (3 - (lg_sl ([.ref h0, .int a, .int b])).length) Slot.unset).toArray = ls at hl ⊢
  have hl : lv_has ls 3 [(0, .ref h0), (1, .int a), (2, .int b)] := hl
  refine lv_aload_n hx hb dX8_thrown_0 rfl (lv_at hl 0 rfl) ?_
  refine va_get (D := (dC, dI)) (ci := 6) (v := .ref ah) (C := RX8) (T := TX8) (N := 8) hx hb hts inX8 hown hK hP 0 rfl rfl 0 (by decide) (hts _ (List.mem_of_getElem? (i := 1) rfl)) (fun _ h9 => h9) rfl dX8_thrown_1 ?_
  refine lv_iload_n hx hb dX8_thrown_4 rfl (lv_at hl 1 rfl) ?_
  have hPc := hP.sub (ws' := [(ah, .inr (4, [.int sh, .ref q1, .ref q2, w3, w4, w5, w6, w7, w8]))]) [2] rfl
  have hKc := hK.sub (tys' := []) [] rfl
  refine vp_callSi (W.runV (As := [.int a]) (rest := []) ⟨hx, hb, hml, hown, hts⟩ (s_hasShape l dC dI ad ah a sh (.ref q1) (.ref q2) w3 w4 w5 w6 w7 w8 ) (cwV 1 hts g_x_thrown_s_hasShape_76 rfl rfl rfl (by decide +kernel) ⟨(Nat.le_of_ble_eq_true rfl), (Nat.le_of_ble_eq_true rfl)⟩) ⟨preS_blind, va_recv hKc hPc (ci := 4) (q0 := 0) rfl rfl, fun U hU hW => ⟨rfl, preS_at hU hW hPc hKc hev⟩⟩ rfl rfl hl.1 rfl (lv_room (Nat.le_of_ble_eq_true rfl)) dX8_thrown_5 ⟨(Nat.le_of_ble_eq_true rfl), (Nat.le_of_ble_eq_true rfl)⟩) (fun r_1 hw => ?_)
  have hr_1 : (r_1.toInt = 1 ∧ 0 ≤ a.toInt ∧ a.toInt < sh.toInt) ∨ r_1.toInt = 0 := hw
  refine lv_if_eq (tgt := 20) hx hb dX8_thrown_8 (by decide) (fun c_2 => ?_) (fun c_2 => ?_)
  · skip
    have tc_2 : r_1.toInt = 0 := (fa_eq _ _).mp c_2
    refine lv_aload_n hx hb dX8_thrown_20 rfl (lv_at hl 0 rfl) ?_
    refine lv_ldc hx hb hown (hts _ (List.mem_of_getElem? (i := 8) rfl)) dX8_thrown_21 ?_
    have hPc := hP.sub (ws' := [(h0, .inr (6, [.ref ah, v1, v2, v3, v4, v5, .ref t0, v7])), (t0, .inl (tc, 7, .inl tf))]) [0, 1] rfl
    have hKc := hK.sub (tys' := [(tc, .int)]) [0] rfl
    have hDc := hD.sub (ws' := [(h0, .inr (6, [.ref ah, v1, v2, v3, v4, v5, .ref t0, v7])), (t0, .inl (tc, 7, .inl tf))]) [0, 1] (by decide) rfl
    have hFc := va_free (wc := [(h0, .inr (6, [.ref ah, v1, v2, v3, v4, v5, .ref t0, v7])), (t0, .inl (tc, 7, .inl tf))]) hD hS hA [0, 1] rfl
    refine va_calli (va_runV (As := [.int (-1000000001)]) (rest := []) ⟨hx, hb, hml, hown, hts⟩ (f_beyond l dC dI ad h0 (.ref ah) v1 v2 v3 v4 v5 t0 v7 tc tf s.heap.size ) (cwV 1 hts g_x_thrown_f_beyond_63 rfl rfl rfl (by decide +kernel) ⟨(Nat.le_of_ble_eq_true rfl), (Nat.le_of_ble_eq_true rfl)⟩) ⟨preM_blind, va_recv hKc hPc (ci := 6) (q0 := 0) rfl rfl, fun U hU hW => ⟨rfl, preM_at hU hW hPc hKc hDc hev⟩⟩ rfl rfl hl.1 rfl (lv_room (Nat.le_of_ble_eq_true rfl)) dX8_thrown_23 ⟨(Nat.le_of_ble_eq_true rfl), (Nat.le_of_ble_eq_true rfl)⟩) hS (fun q _ h => hFc q h) hFc (fun r_3 u t H1 locs ht hvm hw hB hz1 hk1 hS => ?_)
    obtain ⟨tg_4, hP1, hK1, hD1⟩ := hB
    rw [ht] at hP1
    have hK1 := va_K.moved hvm.symm hK1
    obtain ⟨hP, hD⟩ := va_join (wr := [(ah, .inr (4, [.int sh, .ref q1, .ref q2, w3, w4, w5, w6, w7, w8])), (q1, .inl (c1, 9, .inl f1)), (q2, .inl (c2, 9, .inl f2))]) (w1 := [(h0, .inr (6, [.ref ah, v1, v2, v3, v4, v5, .ref t0, v7])), (t0, .inl (tc, 7, .inl tg_4))]) hP hD [0, 1] [2, 3, 4] rfl rfl (by decide) (by decide) hk1 hFc hP1 hD1
    generalize H1 = H at hP hS ⊢
    have hP : va_P (dC, dI) vwCl [(ah, .inr (4, [.int sh, .ref q1, .ref q2, w3, w4, w5, w6, w7, w8])), (q1, .inl (c1, 9, .inl f1)), (q2, .inl (c2, 9, .inl f2)), (h0, .inr (6, [.ref ah, v1, v2, v3, v4, v5, .ref t0, v7])), (t0, .inl (tc, 7, .inl tg_4))] H := hP
    have hD : va_D A [(ah, .inr (4, [.int sh, .ref q1, .ref q2, w3, w4, w5, w6, w7, w8])), (q1, .inl (c1, 9, .inl f1)), (q2, .inl (c2, 9, .inl f2)), (h0, .inr (6, [.ref ah, v1, v2, v3, v4, v5, .ref t0, v7])), (t0, .inl (tc, 7, .inl tg_4))] := hD
    subst hw
    have hP9 := hP.sub (ws' := [(h0, .inr (6, [.ref ah, v1, v2, v3, v4, v5, .ref t0, v7])), (t0, .inl (tc, 7, .inl tg_4)), (ah, .inr (4, [.int sh, .ref q1, .ref q2, w3, w4, w5, w6, w7, w8])), (q1, .inl (c1, 9, .inl f1)), (q2, .inl (c2, 9, .inl f2))]) [3, 4, 0, 1, 2] rfl
    have hD9 := hD.sub (ws' := [(h0, .inr (6, [.ref ah, v1, v2, v3, v4, v5, .ref t0, v7])), (t0, .inl (tc, 7, .inl tg_4)), (ah, .inr (4, [.int sh, .ref q1, .ref q2, w3, w4, w5, w6, w7, w8])), (q1, .inl (c1, 9, .inl f1)), (q2, .inl (c2, 9, .inl f2))]) [3, 4, 0, 1, 2] (by decide) rfl
    have hK9 := hK.sub (tys' := [(tc, .int), (c1, .int), (c2, .int)]) [0, 1, 2] rfl
    exact W.iret (v := ((-1000000001) : Int32)) hx hb hr (fun t ht hW => ⟨⟨((-1000000001) : Int32), (), rfl, trivial, tg_4, by rw [ht]; exact hP9, va_K.moved hW.alike hK9, hD9⟩, hS.F ht⟩) hS.2.2 dX8_thrown_26
  · skip
    have tc_2 : ¬ r_1.toInt = 0 := fun h => c_2 ((fa_eq _ _).mpr h)
    refine lv_iload_n hx hb dX8_thrown_11 rfl (lv_at hl 2 rfl) ?_
    refine lv_if_lt (tgt := 20) hx hb dX8_thrown_12 (by decide) (fun c_5 => ?_) (fun c_5 => ?_)
    · skip
      have tc_5 : b.toInt < 0 := (fa_lt _ _).mp c_5
      refine lv_aload_n hx hb dX8_thrown_20 rfl (lv_at hl 0 rfl) ?_
      refine lv_ldc hx hb hown (hts _ (List.mem_of_getElem? (i := 8) rfl)) dX8_thrown_21 ?_
      have hPc := hP.sub (ws' := [(h0, .inr (6, [.ref ah, v1, v2, v3, v4, v5, .ref t0, v7])), (t0, .inl (tc, 7, .inl tf))]) [0, 1] rfl
      have hKc := hK.sub (tys' := [(tc, .int)]) [0] rfl
      have hDc := hD.sub (ws' := [(h0, .inr (6, [.ref ah, v1, v2, v3, v4, v5, .ref t0, v7])), (t0, .inl (tc, 7, .inl tf))]) [0, 1] (by decide) rfl
      have hFc := va_free (wc := [(h0, .inr (6, [.ref ah, v1, v2, v3, v4, v5, .ref t0, v7])), (t0, .inl (tc, 7, .inl tf))]) hD hS hA [0, 1] rfl
      refine va_calli (va_runV (As := [.int (-1000000001)]) (rest := []) ⟨hx, hb, hml, hown, hts⟩ (f_beyond l dC dI ad h0 (.ref ah) v1 v2 v3 v4 v5 t0 v7 tc tf s.heap.size ) (cwV 1 hts g_x_thrown_f_beyond_63 rfl rfl rfl (by decide +kernel) ⟨(Nat.le_of_ble_eq_true rfl), (Nat.le_of_ble_eq_true rfl)⟩) ⟨preM_blind, va_recv hKc hPc (ci := 6) (q0 := 0) rfl rfl, fun U hU hW => ⟨rfl, preM_at hU hW hPc hKc hDc hev⟩⟩ rfl rfl hl.1 rfl (lv_room (Nat.le_of_ble_eq_true rfl)) dX8_thrown_23 ⟨(Nat.le_of_ble_eq_true rfl), (Nat.le_of_ble_eq_true rfl)⟩) hS (fun q _ h => hFc q h) hFc (fun r_6 u t H1 locs ht hvm hw hB hz1 hk1 hS => ?_)
      obtain ⟨tg_7, hP1, hK1, hD1⟩ := hB
      rw [ht] at hP1
      have hK1 := va_K.moved hvm.symm hK1
      obtain ⟨hP, hD⟩ := va_join (wr := [(ah, .inr (4, [.int sh, .ref q1, .ref q2, w3, w4, w5, w6, w7, w8])), (q1, .inl (c1, 9, .inl f1)), (q2, .inl (c2, 9, .inl f2))]) (w1 := [(h0, .inr (6, [.ref ah, v1, v2, v3, v4, v5, .ref t0, v7])), (t0, .inl (tc, 7, .inl tg_7))]) hP hD [0, 1] [2, 3, 4] rfl rfl (by decide) (by decide) hk1 hFc hP1 hD1
      generalize H1 = H at hP hS ⊢
      have hP : va_P (dC, dI) vwCl [(ah, .inr (4, [.int sh, .ref q1, .ref q2, w3, w4, w5, w6, w7, w8])), (q1, .inl (c1, 9, .inl f1)), (q2, .inl (c2, 9, .inl f2)), (h0, .inr (6, [.ref ah, v1, v2, v3, v4, v5, .ref t0, v7])), (t0, .inl (tc, 7, .inl tg_7))] H := hP
      have hD : va_D A [(ah, .inr (4, [.int sh, .ref q1, .ref q2, w3, w4, w5, w6, w7, w8])), (q1, .inl (c1, 9, .inl f1)), (q2, .inl (c2, 9, .inl f2)), (h0, .inr (6, [.ref ah, v1, v2, v3, v4, v5, .ref t0, v7])), (t0, .inl (tc, 7, .inl tg_7))] := hD
      subst hw
      have hP9 := hP.sub (ws' := [(h0, .inr (6, [.ref ah, v1, v2, v3, v4, v5, .ref t0, v7])), (t0, .inl (tc, 7, .inl tg_7)), (ah, .inr (4, [.int sh, .ref q1, .ref q2, w3, w4, w5, w6, w7, w8])), (q1, .inl (c1, 9, .inl f1)), (q2, .inl (c2, 9, .inl f2))]) [3, 4, 0, 1, 2] rfl
      have hD9 := hD.sub (ws' := [(h0, .inr (6, [.ref ah, v1, v2, v3, v4, v5, .ref t0, v7])), (t0, .inl (tc, 7, .inl tg_7)), (ah, .inr (4, [.int sh, .ref q1, .ref q2, w3, w4, w5, w6, w7, w8])), (q1, .inl (c1, 9, .inl f1)), (q2, .inl (c2, 9, .inl f2))]) [3, 4, 0, 1, 2] (by decide) rfl
      have hK9 := hK.sub (tys' := [(tc, .int), (c1, .int), (c2, .int)]) [0, 1, 2] rfl
      exact W.iret (v := ((-1000000001) : Int32)) hx hb hr (fun t ht hW => ⟨⟨((-1000000001) : Int32), (), rfl, trivial, tg_7, by rw [ht]; exact hP9, va_K.moved hW.alike hK9, hD9⟩, hS.F ht⟩) hS.2.2 dX8_thrown_26
    · skip
      have tc_5 : ¬ b.toInt < 0 := fun h => c_5 ((fa_lt _ _).mpr h)
      refine lv_iload_n hx hb dX8_thrown_15 rfl (lv_at hl 2 rfl) ?_
      refine lv_iconst (v := 4) hx hb dX8_thrown_16 (by decide) ?_
      refine lv_icmp_lt (tgt := 27) hx hb dX8_thrown_17 (by decide) (fun c_8 => ?_) (fun c_8 => ?_)
      · skip
        have tc_8 : b.toInt < 4 := (fa_lt _ _).mp c_8
        refine lv_aload_n hx hb dX8_thrown_27 rfl (lv_at hl 0 rfl) ?_
        refine va_get (D := (dC, dI)) (ci := 6) (v := .ref ah) (C := RX8) (T := TX8) (N := 8) hx hb hts inX8 hown hK hP 0 rfl rfl 0 (by decide) (hts _ (List.mem_of_getElem? (i := 1) rfl)) (fun _ h9 => h9) rfl dX8_thrown_28 ?_
        refine va_getN (D := (dC, dI)) (ci := 4) (v := .ref q1) (C := RX6) (T := TX6) (N := 9) hx hb hts inX6 hown hK hP 2 rfl rfl 1 (by decide) (ev_nest hev 2 rfl) (fun _ h9 => h9) rfl dX8_thrown_31 ?_
        refine lv_iload_n hx hb dX8_thrown_34 rfl (lv_at hl 1 rfl) ?_
        refine va_iald hx hb hK hP 3 1 rfl rfl (vp_in_iff.mpr ⟨by omega, by omega⟩) dX8_thrown_35 ?_
        refine lv_topi (fun n_9 en_9 => ?_)
        clear en_9
        refine lv_aload_n hx hb dX8_thrown_36 rfl (lv_at hl 0 rfl) ?_
        refine va_get (D := (dC, dI)) (ci := 6) (v := .ref ah) (C := RX8) (T := TX8) (N := 8) hx hb hts inX8 hown hK hP 0 rfl rfl 0 (by decide) (hts _ (List.mem_of_getElem? (i := 1) rfl)) (fun _ h9 => h9) rfl dX8_thrown_37 ?_
        refine va_getN (D := (dC, dI)) (ci := 4) (v := .ref q2) (C := RX6) (T := TX6) (N := 9) hx hb hts inX6 hown hK hP 2 rfl rfl 2 (by decide) (ev_nest hev 3 rfl) (fun _ h9 => h9) rfl dX8_thrown_40 ?_
        refine lv_iload_n hx hb dX8_thrown_43 rfl (lv_at hl 1 rfl) ?_
        refine va_iald hx hb hK hP 4 2 rfl rfl (vp_in_iff.mpr ⟨by omega, by omega⟩) dX8_thrown_44 ?_
        refine lv_topi (fun n_10 en_10 => ?_)
        clear en_10
        refine lv_iload_n hx hb dX8_thrown_45 rfl (lv_at hl 2 rfl) ?_
        have hPc := hP.sub (ws' := []) [] rfl
        have hKc := hK.sub (tys' := []) [] rfl
        refine vp_callSi (W.runS (As := [.int n_9, .int n_10, .int b]) (rest := []) ⟨hx, hb, hml, hown, hts⟩ (k_pointsBy l dC dI ad n_9 n_10 b ) (va_cwS 3 hts g_x_thrown_k_pointsBy_102 rfl rfl rfl (by decide +kernel) ⟨(Nat.le_of_ble_eq_true rfl), (Nat.le_of_ble_eq_true rfl)⟩) ⟨preS_blind, fun U hU hW => ⟨rfl, preS_at hU hW hPc hKc hev⟩⟩ rfl rfl hl.1 rfl (lv_room (Nat.le_of_ble_eq_true rfl)) dX8_thrown_46 ⟨(Nat.le_of_ble_eq_true rfl), (Nat.le_of_ble_eq_true rfl)⟩) (fun r_11 hw => ?_)
        have hP9 := hP.sub (ws' := [(h0, .inr (6, [.ref ah, v1, v2, v3, v4, v5, .ref t0, v7])), (t0, .inl (tc, 7, .inl tf)), (ah, .inr (4, [.int sh, .ref q1, .ref q2, w3, w4, w5, w6, w7, w8])), (q1, .inl (c1, 9, .inl f1)), (q2, .inl (c2, 9, .inl f2))]) [0, 1, 2, 3, 4] rfl
        have hD9 := hD.sub (ws' := [(h0, .inr (6, [.ref ah, v1, v2, v3, v4, v5, .ref t0, v7])), (t0, .inl (tc, 7, .inl tf)), (ah, .inr (4, [.int sh, .ref q1, .ref q2, w3, w4, w5, w6, w7, w8])), (q1, .inl (c1, 9, .inl f1)), (q2, .inl (c2, 9, .inl f2))]) [0, 1, 2, 3, 4] (by decide) rfl
        have hK9 := hK.sub (tys' := [(tc, .int), (c1, .int), (c2, .int)]) [0, 1, 2] rfl
        exact W.iret (v := r_11) hx hb hr (fun t ht hW => ⟨⟨r_11, (), rfl, trivial, tf, by rw [ht]; exact hP9, va_K.moved hW.alike hK9, hD9⟩, hS.F ht⟩) hS.2.2 dX8_thrown_49
      · skip
        have tc_8 : ¬ b.toInt < 4 := fun h => c_8 ((fa_lt _ _).mpr h)
        refine lv_aload_n hx hb dX8_thrown_20 rfl (lv_at hl 0 rfl) ?_
        refine lv_ldc hx hb hown (hts _ (List.mem_of_getElem? (i := 8) rfl)) dX8_thrown_21 ?_
        have hPc := hP.sub (ws' := [(h0, .inr (6, [.ref ah, v1, v2, v3, v4, v5, .ref t0, v7])), (t0, .inl (tc, 7, .inl tf))]) [0, 1] rfl
        have hKc := hK.sub (tys' := [(tc, .int)]) [0] rfl
        have hDc := hD.sub (ws' := [(h0, .inr (6, [.ref ah, v1, v2, v3, v4, v5, .ref t0, v7])), (t0, .inl (tc, 7, .inl tf))]) [0, 1] (by decide) rfl
        have hFc := va_free (wc := [(h0, .inr (6, [.ref ah, v1, v2, v3, v4, v5, .ref t0, v7])), (t0, .inl (tc, 7, .inl tf))]) hD hS hA [0, 1] rfl
        refine va_calli (va_runV (As := [.int (-1000000001)]) (rest := []) ⟨hx, hb, hml, hown, hts⟩ (f_beyond l dC dI ad h0 (.ref ah) v1 v2 v3 v4 v5 t0 v7 tc tf s.heap.size ) (cwV 1 hts g_x_thrown_f_beyond_63 rfl rfl rfl (by decide +kernel) ⟨(Nat.le_of_ble_eq_true rfl), (Nat.le_of_ble_eq_true rfl)⟩) ⟨preM_blind, va_recv hKc hPc (ci := 6) (q0 := 0) rfl rfl, fun U hU hW => ⟨rfl, preM_at hU hW hPc hKc hDc hev⟩⟩ rfl rfl hl.1 rfl (lv_room (Nat.le_of_ble_eq_true rfl)) dX8_thrown_23 ⟨(Nat.le_of_ble_eq_true rfl), (Nat.le_of_ble_eq_true rfl)⟩) hS (fun q _ h => hFc q h) hFc (fun r_12 u t H1 locs ht hvm hw hB hz1 hk1 hS => ?_)
        obtain ⟨tg_13, hP1, hK1, hD1⟩ := hB
        rw [ht] at hP1
        have hK1 := va_K.moved hvm.symm hK1
        obtain ⟨hP, hD⟩ := va_join (wr := [(ah, .inr (4, [.int sh, .ref q1, .ref q2, w3, w4, w5, w6, w7, w8])), (q1, .inl (c1, 9, .inl f1)), (q2, .inl (c2, 9, .inl f2))]) (w1 := [(h0, .inr (6, [.ref ah, v1, v2, v3, v4, v5, .ref t0, v7])), (t0, .inl (tc, 7, .inl tg_13))]) hP hD [0, 1] [2, 3, 4] rfl rfl (by decide) (by decide) hk1 hFc hP1 hD1
        generalize H1 = H at hP hS ⊢
        have hP : va_P (dC, dI) vwCl [(ah, .inr (4, [.int sh, .ref q1, .ref q2, w3, w4, w5, w6, w7, w8])), (q1, .inl (c1, 9, .inl f1)), (q2, .inl (c2, 9, .inl f2)), (h0, .inr (6, [.ref ah, v1, v2, v3, v4, v5, .ref t0, v7])), (t0, .inl (tc, 7, .inl tg_13))] H := hP
        have hD : va_D A [(ah, .inr (4, [.int sh, .ref q1, .ref q2, w3, w4, w5, w6, w7, w8])), (q1, .inl (c1, 9, .inl f1)), (q2, .inl (c2, 9, .inl f2)), (h0, .inr (6, [.ref ah, v1, v2, v3, v4, v5, .ref t0, v7])), (t0, .inl (tc, 7, .inl tg_13))] := hD
        subst hw
        have hP9 := hP.sub (ws' := [(h0, .inr (6, [.ref ah, v1, v2, v3, v4, v5, .ref t0, v7])), (t0, .inl (tc, 7, .inl tg_13)), (ah, .inr (4, [.int sh, .ref q1, .ref q2, w3, w4, w5, w6, w7, w8])), (q1, .inl (c1, 9, .inl f1)), (q2, .inl (c2, 9, .inl f2))]) [3, 4, 0, 1, 2] rfl
        have hD9 := hD.sub (ws' := [(h0, .inr (6, [.ref ah, v1, v2, v3, v4, v5, .ref t0, v7])), (t0, .inl (tc, 7, .inl tg_13)), (ah, .inr (4, [.int sh, .ref q1, .ref q2, w3, w4, w5, w6, w7, w8])), (q1, .inl (c1, 9, .inl f1)), (q2, .inl (c2, 9, .inl f2))]) [3, 4, 0, 1, 2] (by decide) rfl
        have hK9 := hK.sub (tys' := [(tc, .int), (c1, .int), (c2, .int)]) [0, 1, 2] rfl
        exact W.iret (v := ((-1000000001) : Int32)) hx hb hr (fun t ht hW => ⟨⟨((-1000000001) : Int32), (), rfl, trivial, tg_13, by rw [ht]; exact hP9, va_K.moved hW.alike hK9, hD9⟩, hS.F ht⟩) hS.2.2 dX8_thrown_26

def w_x_shadow : List Cond := .code yX8_shadow cX8_shadow 3 (some .long) :: (([.fieldLink RX8 10 "LampShapes" "now" "LLampShapes$Stage;", .methodLink RX8 76 yX6_hasShape, .instanceMethod yX6_hasShape, .selects RX6 yX6_hasShape yX6_hasShape, .initialized RX6, .code yX6_hasShape cX6_hasShape 2 (some .boolean), .fieldLink RX6 9 "LampShapes$Stage" "shapes" "I", .constant RX8 62 (-1000000001), .methodLink RX8 63 yX8_finding, .instanceMethod yX8_finding, .selects RX8 yX8_finding yX8_finding, .initialized RX8, .code yX8_finding cX8_finding 3 (some .int), .fieldLink RX8 46 "LampShapes" "told" "[I", .methodLink RX8 106 yX1_isPlacing, .static yX1_isPlacing, .initialized RX1, .code yX1_isPlacing cX1_isPlacing 3 (some .boolean), .methodLink RX8 111 yX6_cellsBy, .instanceMethod yX6_cellsBy, .selects RX6 yX6_cellsBy yX6_cellsBy, .code yX6_cellsBy cX6_cellsBy 4 (some .long), .methodLink RX6 59 yX6_cornerBy, .instanceMethod yX6_cornerBy, .selects RX6 yX6_cornerBy yX6_cornerBy, .code yX6_cornerBy cX6_cornerBy 4 (some .long), .fieldLink RX6 15 "LampShapes$Stage" "kinds" "[I", .fieldLink RX6 19 "LampShapes$Stage" "points" "[I", .methodLink RX6 47 yX0_pointsBy, .static yX0_pointsBy, .initialized RX0, .code yX0_pointsBy cX0_pointsBy 3 (some .int), .methodLink RX0 15 yX0_turnedBy, .static yX0_turnedBy, .code yX0_turnedBy cX0_turnedBy 6 (some .int), .methodLink RX0 19 yX0_mirroredBy, .static yX0_mirroredBy, .code yX0_mirroredBy cX0_mirroredBy 2 (some .int), .constant RX0 31 (34952), .methodLink RX0 22 yX0_hollowed, .static yX0_hollowed, .code yX0_hollowed cX0_hollowed 5 (some .int), .constant RX0 32 (61166), .methodLink RX0 25 yX0_doubled, .static yX0_doubled, .code yX0_doubled cX0_doubled 1 (some .int), .constant RX0 33 (65535), .methodLink RX0 28 yX0_filled, .static yX0_filled, .code yX0_filled cX0_filled 6 (some .int), .methodLink RX6 53 yX1_cellsAtCorner, .static yX1_cellsAtCorner, .code yX1_cellsAtCorner cX1_cellsAtCorner 8 (some .long), .constantLong RX1 9 (771), .methodLink RX6 62 yX1_moved, .static yX1_moved, .code yX1_moved cX1_moved 6 (some .long), .constantLong RX1 13 (72340172838076673)] : List Cond) ++ wsX80 ++ wsX60)
set_option maxRecDepth 20000 in
theorem g_x_shadow_s_hasShape_76 : GoodIn w_x_shadow (wsV RX8 76 RX6 yX6_hasShape w_s_hasShape) := goodIn_r _ [2, 3, 4, 5, 6, 7, 67, 68, 69, 70, 71, 72, 73, 74, 75] rfl (by decide +kernel)
set_option maxRecDepth 20000 in
theorem g_x_shadow_f_beyond_63 : GoodIn w_x_shadow (wsV RX8 63 RX8 yX8_finding w_f_beyond) := goodIn_r _ [9, 10, 11, 12, 13, 8, 14, 59, 60, 61, 62, 63, 64, 65, 66] rfl (by decide +kernel)
set_option maxRecDepth 20000 in
theorem g_x_shadow_l_isPlacing_106 : GoodIn w_x_shadow (va_wsS RX8 106 yX1_isPlacing w_l_isPlacing) := goodIn_r _ [15, 16, 17, 18] rfl (by decide +kernel)
set_option maxRecDepth 20000 in
theorem g_x_shadow_s_cellsBy_111 : GoodIn w_x_shadow (wsV RX8 111 RX6 yX6_cellsBy w_s_cellsBy) := goodIn_r _ [19, 20, 21, 5, 22, 23, 24, 25, 5, 26, 27, 28, 29, 30, 31, 32, 33, 34, 35, 36, 37, 38, 39, 40, 41, 42, 43, 44, 45, 46, 47, 48, 49, 50, 51, 52, 17, 53, 54, 55, 56, 57, 58, 67, 68, 69, 70, 71, 72, 73, 74, 75] rfl (by decide +kernel)
set_option maxHeartbeats 4000000 in
set_option maxRecDepth 100000 in
theorem x_shadow (l : Launch) (dC : Nat → ClassId) (dI : Nat → Nat → Nat) (ad : Nat → Nat) (h0 : Nat) (a : Int32) (b : Int32) (ah : Nat) (v1 : Value) (v2 : Value) (v3 : Value) (v4 : Value) (v5 : Value) (t0 : Nat) (v7 : Value) (tc : ClassId) (tf : Nat → Int32) (sh : Int32) (q1 : Nat) (q2 : Nat) (w3 : Value) (w4 : Value) (w5 : Value) (w6 : Value) (w7 : Value) (w8 : Value) (c1 : ClassId) (f1 : Nat → Int32) (c2 : ClassId) (f2 : Nat → Int32) (sz : Nat) (hsh : 0 ≤ sh.toInt ∧ sh.toInt ≤ 9) : Met l yX8_shadow w_x_shadow ({ frames := 4, cells := 0, slots := 0, locals := 93 } : Room) (va_Pc [.ref h0, .int a, .int b] (preM dC dI ad [(tc, .int), (c1, .int), (c2, .int)] [(h0, .inr (6, [.ref ah, v1, v2, v3, v4, v5, .ref t0, v7])), (t0, .inl (tc, 7, .inl tf)), (ah, .inr (4, [.int sh, .ref q1, .ref q2, w3, w4, w5, w6, w7, w8])), (q1, .inl (c1, 9, .inl f1)), (q2, .inl (c2, 9, .inl f2))] sz)) (va_Ql (fun (r : Int64) (_ : Unit) => True) (fun _ t => ∃ (tg : Nat → Int32), va_P (dC, dI) vwCl [(h0, .inr (6, [.ref ah, v1, v2, v3, v4, v5, .ref t0, v7])), (t0, .inl (tc, 7, .inl tg)), (ah, .inr (4, [.int sh, .ref q1, .ref q2, w3, w4, w5, w6, w7, w8])), (q1, .inl (c1, 9, .inl f1)), (q2, .inl (c2, 9, .inl f2))] t.heap ∧ va_K (dC, dI) vwCl [(tc, .int), (c1, .int), (c2, .int)] t ∧ va_D (va_A [(h0, .inr (6, [.ref ah, v1, v2, v3, v4, v5, .ref t0, v7])), (t0, .inl (tc, 7, .inl tf)), (ah, .inr (4, [.int sh, .ref q1, .ref q2, w3, w4, w5, w6, w7, w8])), (q1, .inl (c1, 9, .inl f1)), (q2, .inl (c2, 9, .inl f2))] sz) [(h0, .inr (6, [.ref ah, v1, v2, v3, v4, v5, .ref t0, v7])), (t0, .inl (tc, 7, .inl tg)), (ah, .inr (4, [.int sh, .ref q1, .ref q2, w3, w4, w5, w6, w7, w8])), (q1, .inl (c1, 9, .inl f1)), (q2, .inl (c2, 9, .inl f2))]) (va_A [(h0, .inr (6, [.ref ah, v1, v2, v3, v4, v5, .ref t0, v7])), (t0, .inl (tc, 7, .inl tf)), (ah, .inr (4, [.int sh, .ref q1, .ref q2, w3, w4, w5, w6, w7, w8])), (q1, .inl (c1, 9, .inl f1)), (q2, .inl (c2, 9, .inl f2))] sz)) 0 0 (va_A [(h0, .inr (6, [.ref ah, v1, v2, v3, v4, v5, .ref t0, v7])), (t0, .inl (tc, 7, .inl tf)), (ah, .inr (4, [.int sh, .ref q1, .ref q2, w3, w4, w5, w6, w7, w8])), (q1, .inl (c1, 9, .inl f1)), (q2, .inl (c2, 9, .inl f2))] sz) := by
  refine Met.ofW (cc := cX8_shadow) (maxL := 3) (ret := (some .long)) (by decide) rfl ?_
  intro p e s m args below meth c s₁ B hml hv
  obtain ⟨rfl, hsz, hP, hK, hD0, hev⟩ := hv
  have hx := B.exec
  have hb := B.bytes
  have hr := B.returns
  have hts := atoms_spec (ws := w_x_shadow) B.pre
  have hown : s.vm.findClass RX8 = some m.cls := findClass_of_methodNamed B.named
  have hlocks := B.notSynchronized
  have inX8 : ∀ w ∈ wsX80, w ∈ w_x_shadow := fun w h => List.mem_cons_of_mem _ (List.mem_append_left _ (List.mem_append_right _ h))
  have inX6 : ∀ w ∈ wsX60, w ∈ w_x_shadow := fun w h => List.mem_cons_of_mem _ (List.mem_append_right _ h)
  subst hsz
  have hD := hD0.self (sz := s.heap.size)
  generalize hAe : va_A [(h0, .inr (6, [.ref ah, v1, v2, v3, v4, v5, .ref t0, v7])), (t0, .inl (tc, 7, .inl tf)), (ah, .inr (4, [.int sh, .ref q1, .ref q2, w3, w4, w5, w6, w7, w8])), (q1, .inl (c1, 9, .inl f1)), (q2, .inl (c2, 9, .inl f2))] s.heap.size = A at hD ⊢
  have hA : ∀ q : Nat, s.heap.size ≤ q → A q := fun q h => by rw [← hAe]; exact Or.inr h
  have hS : va_S A s.heap s.heap [] := va_S.rf
  have hP : va_P (dC, dI) vwCl [(h0, .inr (6, [.ref ah, v1, v2, v3, v4, v5, .ref t0, v7])), (t0, .inl (tc, 7, .inl tf)), (ah, .inr (4, [.int sh, .ref q1, .ref q2, w3, w4, w5, w6, w7, w8])), (q1, .inl (c1, 9, .inl f1)), (q2, .inl (c2, 9, .inl f2))] s.heap := hP
  have hl := lv_entry ([.ref h0, .int a, .int b]) (n := 3) (Nat.le_of_ble_eq_true rfl)
  rw [lg_entry_eq]
  generalize (lg_sl ([.ref h0, .int a, .int b]) ++ List.replicate (3 - (lg_sl ([.ref h0, .int a, .int b])).length) Slot.unset).toArray = ls at hl ⊢
  have hl : lv_has ls 3 [(0, .ref h0), (1, .int a), (2, .int b)] := hl
  refine lv_aload_n hx hb dX8_shadow_0 rfl (lv_at hl 0 rfl) ?_
  refine va_get (D := (dC, dI)) (ci := 6) (v := .ref ah) (C := RX8) (T := TX8) (N := 8) hx hb hts inX8 hown hK hP 0 rfl rfl 0 (by decide) (hts _ (List.mem_of_getElem? (i := 1) rfl)) (fun _ h9 => h9) rfl dX8_shadow_1 ?_
  refine lv_iload_n hx hb dX8_shadow_4 rfl (lv_at hl 1 rfl) ?_
  have hPc := hP.sub (ws' := [(ah, .inr (4, [.int sh, .ref q1, .ref q2, w3, w4, w5, w6, w7, w8]))]) [2] rfl
  have hKc := hK.sub (tys' := []) [] rfl
  refine vp_callSi (W.runV (As := [.int a]) (rest := []) ⟨hx, hb, hml, hown, hts⟩ (s_hasShape l dC dI ad ah a sh (.ref q1) (.ref q2) w3 w4 w5 w6 w7 w8 ) (cwV 1 hts g_x_shadow_s_hasShape_76 rfl rfl rfl (by decide +kernel) ⟨(Nat.le_of_ble_eq_true rfl), (Nat.le_of_ble_eq_true rfl)⟩) ⟨preS_blind, va_recv hKc hPc (ci := 4) (q0 := 0) rfl rfl, fun U hU hW => ⟨rfl, preS_at hU hW hPc hKc hev⟩⟩ rfl rfl hl.1 rfl (lv_room (Nat.le_of_ble_eq_true rfl)) dX8_shadow_5 ⟨(Nat.le_of_ble_eq_true rfl), (Nat.le_of_ble_eq_true rfl)⟩) (fun r_1 hw => ?_)
  have hr_1 : (r_1.toInt = 1 ∧ 0 ≤ a.toInt ∧ a.toInt < sh.toInt) ∨ r_1.toInt = 0 := hw
  refine lv_if_eq (tgt := 18) hx hb dX8_shadow_8 (by decide) (fun c_2 => ?_) (fun c_2 => ?_)
  · skip
    have tc_2 : r_1.toInt = 0 := (fa_eq _ _).mp c_2
    refine lv_aload_n hx hb dX8_shadow_18 rfl (lv_at hl 0 rfl) ?_
    refine lv_ldc hx hb hown (hts _ (List.mem_of_getElem? (i := 8) rfl)) dX8_shadow_19 ?_
    have hPc := hP.sub (ws' := [(h0, .inr (6, [.ref ah, v1, v2, v3, v4, v5, .ref t0, v7])), (t0, .inl (tc, 7, .inl tf))]) [0, 1] rfl
    have hKc := hK.sub (tys' := [(tc, .int)]) [0] rfl
    have hDc := hD.sub (ws' := [(h0, .inr (6, [.ref ah, v1, v2, v3, v4, v5, .ref t0, v7])), (t0, .inl (tc, 7, .inl tf))]) [0, 1] (by decide) rfl
    have hFc := va_free (wc := [(h0, .inr (6, [.ref ah, v1, v2, v3, v4, v5, .ref t0, v7])), (t0, .inl (tc, 7, .inl tf))]) hD hS hA [0, 1] rfl
    refine va_calli (va_runV (As := [.int (-1000000001)]) (rest := []) ⟨hx, hb, hml, hown, hts⟩ (f_beyond l dC dI ad h0 (.ref ah) v1 v2 v3 v4 v5 t0 v7 tc tf s.heap.size ) (cwV 1 hts g_x_shadow_f_beyond_63 rfl rfl rfl (by decide +kernel) ⟨(Nat.le_of_ble_eq_true rfl), (Nat.le_of_ble_eq_true rfl)⟩) ⟨preM_blind, va_recv hKc hPc (ci := 6) (q0 := 0) rfl rfl, fun U hU hW => ⟨rfl, preM_at hU hW hPc hKc hDc hev⟩⟩ rfl rfl hl.1 rfl (lv_room (Nat.le_of_ble_eq_true rfl)) dX8_shadow_21 ⟨(Nat.le_of_ble_eq_true rfl), (Nat.le_of_ble_eq_true rfl)⟩) hS (fun q _ h => hFc q h) hFc (fun r_3 u t H1 locs ht hvm hw hB hz1 hk1 hS => ?_)
    obtain ⟨tg_4, hP1, hK1, hD1⟩ := hB
    rw [ht] at hP1
    have hK1 := va_K.moved hvm.symm hK1
    obtain ⟨hP, hD⟩ := va_join (wr := [(ah, .inr (4, [.int sh, .ref q1, .ref q2, w3, w4, w5, w6, w7, w8])), (q1, .inl (c1, 9, .inl f1)), (q2, .inl (c2, 9, .inl f2))]) (w1 := [(h0, .inr (6, [.ref ah, v1, v2, v3, v4, v5, .ref t0, v7])), (t0, .inl (tc, 7, .inl tg_4))]) hP hD [0, 1] [2, 3, 4] rfl rfl (by decide) (by decide) hk1 hFc hP1 hD1
    generalize H1 = H at hP hS ⊢
    have hP : va_P (dC, dI) vwCl [(ah, .inr (4, [.int sh, .ref q1, .ref q2, w3, w4, w5, w6, w7, w8])), (q1, .inl (c1, 9, .inl f1)), (q2, .inl (c2, 9, .inl f2)), (h0, .inr (6, [.ref ah, v1, v2, v3, v4, v5, .ref t0, v7])), (t0, .inl (tc, 7, .inl tg_4))] H := hP
    have hD : va_D A [(ah, .inr (4, [.int sh, .ref q1, .ref q2, w3, w4, w5, w6, w7, w8])), (q1, .inl (c1, 9, .inl f1)), (q2, .inl (c2, 9, .inl f2)), (h0, .inr (6, [.ref ah, v1, v2, v3, v4, v5, .ref t0, v7])), (t0, .inl (tc, 7, .inl tg_4))] := hD
    subst hw
    refine lv_i2l (v := (-1000000001)) hx hb dX8_shadow_24 (by decide) ?_
    have hP9 := hP.sub (ws' := [(h0, .inr (6, [.ref ah, v1, v2, v3, v4, v5, .ref t0, v7])), (t0, .inl (tc, 7, .inl tg_4)), (ah, .inr (4, [.int sh, .ref q1, .ref q2, w3, w4, w5, w6, w7, w8])), (q1, .inl (c1, 9, .inl f1)), (q2, .inl (c2, 9, .inl f2))]) [3, 4, 0, 1, 2] rfl
    have hD9 := hD.sub (ws' := [(h0, .inr (6, [.ref ah, v1, v2, v3, v4, v5, .ref t0, v7])), (t0, .inl (tc, 7, .inl tg_4)), (ah, .inr (4, [.int sh, .ref q1, .ref q2, w3, w4, w5, w6, w7, w8])), (q1, .inl (c1, 9, .inl f1)), (q2, .inl (c2, 9, .inl f2))]) [3, 4, 0, 1, 2] (by decide) rfl
    have hK9 := hK.sub (tys' := [(tc, .int), (c1, .int), (c2, .int)]) [0, 1, 2] rfl
    exact W.lret (v := ((-1000000001) : Int64)) hx hb hr (fun t ht hW => ⟨⟨((-1000000001) : Int64), (), rfl, trivial, tg_4, by rw [ht]; exact hP9, va_K.moved hW.alike hK9, hD9⟩, hS.F ht⟩) hS.2.2 dX8_shadow_25
  · skip
    have tc_2 : ¬ r_1.toInt = 0 := fun h => c_2 ((fa_eq _ _).mpr h)
    refine lv_iload_n hx hb dX8_shadow_11 rfl (lv_at hl 2 rfl) ?_
    have hPc := hP.sub (ws' := []) [] rfl
    have hKc := hK.sub (tys' := []) [] rfl
    refine vp_callSi (W.runS (As := [.int b]) (rest := []) ⟨hx, hb, hml, hown, hts⟩ (l_isPlacing l dC dI ad b ) (va_cwS 1 hts g_x_shadow_l_isPlacing_106 rfl rfl rfl (by decide +kernel) ⟨(Nat.le_of_ble_eq_true rfl), (Nat.le_of_ble_eq_true rfl)⟩) ⟨preS_blind, fun U hU hW => ⟨rfl, preS_at hU hW hPc hKc hev⟩⟩ rfl rfl hl.1 rfl (lv_room (Nat.le_of_ble_eq_true rfl)) dX8_shadow_12 ⟨(Nat.le_of_ble_eq_true rfl), (Nat.le_of_ble_eq_true rfl)⟩) (fun r_5 hw => ?_)
    refine lv_if_ne (tgt := 26) hx hb dX8_shadow_15 (by decide) (fun c_6 => ?_) (fun c_6 => ?_)
    · skip
      have tc_6 : ¬ r_5.toInt = 0 := fun h => c_6 ((fa_eq _ _).mpr h)
      refine lv_aload_n hx hb dX8_shadow_26 rfl (lv_at hl 0 rfl) ?_
      refine va_get (D := (dC, dI)) (ci := 6) (v := .ref ah) (C := RX8) (T := TX8) (N := 8) hx hb hts inX8 hown hK hP 0 rfl rfl 0 (by decide) (hts _ (List.mem_of_getElem? (i := 1) rfl)) (fun _ h9 => h9) rfl dX8_shadow_27 ?_
      refine lv_iload_n hx hb dX8_shadow_30 rfl (lv_at hl 1 rfl) ?_
      refine lv_iload_n hx hb dX8_shadow_31 rfl (lv_at hl 2 rfl) ?_
      have hPc := hP.sub (ws' := [(ah, .inr (4, [.int sh, .ref q1, .ref q2, w3, w4, w5, w6, w7, w8])), (q1, .inl (c1, 9, .inl f1)), (q2, .inl (c2, 9, .inl f2))]) [2, 3, 4] rfl
      have hKc := hK.sub (tys' := [(c1, .int), (c2, .int)]) [1, 2] rfl
      refine vp_callSl (W.runV (As := [.int a, .int b]) (rest := []) ⟨hx, hb, hml, hown, hts⟩ (s_cellsBy l dC dI ad ah a b (.int sh) q1 q2 w3 w4 w5 w6 w7 w8 c1 f1 c2 f2 (by first | omega | decide | (simp only [fa_lt, fa_le, fa_eq, and_true, true_and, and_false, false_and, not_true_eq_false, not_false_eq_true, li_0, li_1, li_2, li_3, li_4, li_5, li_6, li_7, li_8, li_9, li_10, li_12, li_15, li_16, li_20, li_30, li_34, li_38, li_40, li_63, li_64, li_65, li_78, li_120, li_1000, li_4000, li_10000, li_11077, li_255, li_65535, li_m1, li_m2, li_m1000000001, li_m1000000002, li_m1000000003, li_m1000000004, li_m1000000005, li_m1000000006, li_m1000000007, or_true, true_or, or_false, false_or, implies_true, true_implies, false_implies] <;> omega))) (cwV 2 hts g_x_shadow_s_cellsBy_111 rfl rfl rfl (by decide +kernel) ⟨(Nat.le_of_ble_eq_true rfl), (Nat.le_of_ble_eq_true rfl)⟩) ⟨preS_blind, va_recv hKc hPc (ci := 4) (q0 := 0) rfl rfl, fun U hU hW => ⟨rfl, preS_at hU hW hPc hKc hev⟩⟩ rfl rfl hl.1 rfl (lv_room (Nat.le_of_ble_eq_true rfl)) dX8_shadow_32 ⟨(Nat.le_of_ble_eq_true rfl), (Nat.le_of_ble_eq_true rfl)⟩) (fun r_7 hw => ?_)
      have hP9 := hP.sub (ws' := [(h0, .inr (6, [.ref ah, v1, v2, v3, v4, v5, .ref t0, v7])), (t0, .inl (tc, 7, .inl tf)), (ah, .inr (4, [.int sh, .ref q1, .ref q2, w3, w4, w5, w6, w7, w8])), (q1, .inl (c1, 9, .inl f1)), (q2, .inl (c2, 9, .inl f2))]) [0, 1, 2, 3, 4] rfl
      have hD9 := hD.sub (ws' := [(h0, .inr (6, [.ref ah, v1, v2, v3, v4, v5, .ref t0, v7])), (t0, .inl (tc, 7, .inl tf)), (ah, .inr (4, [.int sh, .ref q1, .ref q2, w3, w4, w5, w6, w7, w8])), (q1, .inl (c1, 9, .inl f1)), (q2, .inl (c2, 9, .inl f2))]) [0, 1, 2, 3, 4] (by decide) rfl
      have hK9 := hK.sub (tys' := [(tc, .int), (c1, .int), (c2, .int)]) [0, 1, 2] rfl
      exact W.lret (v := r_7) hx hb hr (fun t ht hW => ⟨⟨r_7, (), rfl, trivial, tf, by rw [ht]; exact hP9, va_K.moved hW.alike hK9, hD9⟩, hS.F ht⟩) hS.2.2 dX8_shadow_35
    · skip
      have tc_6 : r_5.toInt = 0 := (fa_eq _ _).mp c_6
      refine lv_aload_n hx hb dX8_shadow_18 rfl (lv_at hl 0 rfl) ?_
      refine lv_ldc hx hb hown (hts _ (List.mem_of_getElem? (i := 8) rfl)) dX8_shadow_19 ?_
      have hPc := hP.sub (ws' := [(h0, .inr (6, [.ref ah, v1, v2, v3, v4, v5, .ref t0, v7])), (t0, .inl (tc, 7, .inl tf))]) [0, 1] rfl
      have hKc := hK.sub (tys' := [(tc, .int)]) [0] rfl
      have hDc := hD.sub (ws' := [(h0, .inr (6, [.ref ah, v1, v2, v3, v4, v5, .ref t0, v7])), (t0, .inl (tc, 7, .inl tf))]) [0, 1] (by decide) rfl
      have hFc := va_free (wc := [(h0, .inr (6, [.ref ah, v1, v2, v3, v4, v5, .ref t0, v7])), (t0, .inl (tc, 7, .inl tf))]) hD hS hA [0, 1] rfl
      refine va_calli (va_runV (As := [.int (-1000000001)]) (rest := []) ⟨hx, hb, hml, hown, hts⟩ (f_beyond l dC dI ad h0 (.ref ah) v1 v2 v3 v4 v5 t0 v7 tc tf s.heap.size ) (cwV 1 hts g_x_shadow_f_beyond_63 rfl rfl rfl (by decide +kernel) ⟨(Nat.le_of_ble_eq_true rfl), (Nat.le_of_ble_eq_true rfl)⟩) ⟨preM_blind, va_recv hKc hPc (ci := 6) (q0 := 0) rfl rfl, fun U hU hW => ⟨rfl, preM_at hU hW hPc hKc hDc hev⟩⟩ rfl rfl hl.1 rfl (lv_room (Nat.le_of_ble_eq_true rfl)) dX8_shadow_21 ⟨(Nat.le_of_ble_eq_true rfl), (Nat.le_of_ble_eq_true rfl)⟩) hS (fun q _ h => hFc q h) hFc (fun r_8 u t H1 locs ht hvm hw hB hz1 hk1 hS => ?_)
      obtain ⟨tg_9, hP1, hK1, hD1⟩ := hB
      rw [ht] at hP1
      have hK1 := va_K.moved hvm.symm hK1
      obtain ⟨hP, hD⟩ := va_join (wr := [(ah, .inr (4, [.int sh, .ref q1, .ref q2, w3, w4, w5, w6, w7, w8])), (q1, .inl (c1, 9, .inl f1)), (q2, .inl (c2, 9, .inl f2))]) (w1 := [(h0, .inr (6, [.ref ah, v1, v2, v3, v4, v5, .ref t0, v7])), (t0, .inl (tc, 7, .inl tg_9))]) hP hD [0, 1] [2, 3, 4] rfl rfl (by decide) (by decide) hk1 hFc hP1 hD1
      generalize H1 = H at hP hS ⊢
      have hP : va_P (dC, dI) vwCl [(ah, .inr (4, [.int sh, .ref q1, .ref q2, w3, w4, w5, w6, w7, w8])), (q1, .inl (c1, 9, .inl f1)), (q2, .inl (c2, 9, .inl f2)), (h0, .inr (6, [.ref ah, v1, v2, v3, v4, v5, .ref t0, v7])), (t0, .inl (tc, 7, .inl tg_9))] H := hP
      have hD : va_D A [(ah, .inr (4, [.int sh, .ref q1, .ref q2, w3, w4, w5, w6, w7, w8])), (q1, .inl (c1, 9, .inl f1)), (q2, .inl (c2, 9, .inl f2)), (h0, .inr (6, [.ref ah, v1, v2, v3, v4, v5, .ref t0, v7])), (t0, .inl (tc, 7, .inl tg_9))] := hD
      subst hw
      refine lv_i2l (v := (-1000000001)) hx hb dX8_shadow_24 (by decide) ?_
      have hP9 := hP.sub (ws' := [(h0, .inr (6, [.ref ah, v1, v2, v3, v4, v5, .ref t0, v7])), (t0, .inl (tc, 7, .inl tg_9)), (ah, .inr (4, [.int sh, .ref q1, .ref q2, w3, w4, w5, w6, w7, w8])), (q1, .inl (c1, 9, .inl f1)), (q2, .inl (c2, 9, .inl f2))]) [3, 4, 0, 1, 2] rfl
      have hD9 := hD.sub (ws' := [(h0, .inr (6, [.ref ah, v1, v2, v3, v4, v5, .ref t0, v7])), (t0, .inl (tc, 7, .inl tg_9)), (ah, .inr (4, [.int sh, .ref q1, .ref q2, w3, w4, w5, w6, w7, w8])), (q1, .inl (c1, 9, .inl f1)), (q2, .inl (c2, 9, .inl f2))]) [3, 4, 0, 1, 2] (by decide) rfl
      have hK9 := hK.sub (tys' := [(tc, .int), (c1, .int), (c2, .int)]) [0, 1, 2] rfl
      exact W.lret (v := ((-1000000001) : Int64)) hx hb hr (fun t ht hW => ⟨⟨((-1000000001) : Int64), (), rfl, trivial, tg_9, by rw [ht]; exact hP9, va_K.moved hW.alike hK9, hD9⟩, hS.F ht⟩) hS.2.2 dX8_shadow_25

def w_x_hold : List Cond := .code yX8_hold cX8_hold 4 (some .int) :: (([.fieldLink RX8 10 "LampShapes" "now" "LLampShapes$Stage;", .methodLink RX8 76 yX6_hasShape, .instanceMethod yX6_hasShape, .selects RX6 yX6_hasShape yX6_hasShape, .initialized RX6, .code yX6_hasShape cX6_hasShape 2 (some .boolean), .fieldLink RX6 9 "LampShapes$Stage" "shapes" "I", .constant RX8 62 (-1000000001), .methodLink RX8 63 yX8_finding, .instanceMethod yX8_finding, .selects RX8 yX8_finding yX8_finding, .initialized RX8, .code yX8_finding cX8_finding 3 (some .int), .fieldLink RX8 46 "LampShapes" "told" "[I", .methodLink RX8 106 yX1_isPlacing, .static yX1_isPlacing, .initialized RX1, .code yX1_isPlacing cX1_isPlacing 3 (some .boolean), .methodLink RX8 88 yX6_holdOf, .instanceMethod yX6_holdOf, .selects RX6 yX6_holdOf yX6_holdOf, .code yX6_holdOf cX6_holdOf 3 (some .int), .fieldLink RX6 25 "LampShapes$Stage" "heldShapes" "[I", .methodLink RX8 116 yX6_freeHold, .instanceMethod yX6_freeHold, .selects RX6 yX6_freeHold yX6_freeHold, .code yX6_freeHold cX6_freeHold 1 (some .int), .methodLink RX6 66 yX6_holdOf, .methodLink RX8 120 yX6_take, .instanceMethod yX6_take, .selects RX6 yX6_take yX6_take, .code yX6_take cX6_take 4 none, .fieldLink RX6 28 "LampShapes$Stage" "heldPlacings" "[I", .constant RX8 71 (-1000000002), .constant RX8 115 (-1000000005)] : List Cond) ++ wsX80 ++ wsX60)
set_option maxRecDepth 20000 in
theorem g_x_hold_s_hasShape_76 : GoodIn w_x_hold (wsV RX8 76 RX6 yX6_hasShape w_s_hasShape) := goodIn_r _ [2, 3, 4, 5, 6, 7, 44, 45, 46, 47, 48, 49, 50, 51, 52] rfl (by decide +kernel)
set_option maxRecDepth 20000 in
theorem g_x_hold_f_beyond_63 : GoodIn w_x_hold (wsV RX8 63 RX8 yX8_finding w_f_beyond) := goodIn_r _ [9, 10, 11, 12, 13, 8, 14, 36, 37, 38, 39, 40, 41, 42, 43] rfl (by decide +kernel)
set_option maxRecDepth 20000 in
theorem g_x_hold_l_isPlacing_106 : GoodIn w_x_hold (va_wsS RX8 106 yX1_isPlacing w_l_isPlacing) := goodIn_r _ [15, 16, 17, 18] rfl (by decide +kernel)
set_option maxRecDepth 20000 in
theorem g_x_hold_s_holdOf_88 : GoodIn w_x_hold (wsV RX8 88 RX6 yX6_holdOf w_s_holdOf) := goodIn_r _ [19, 20, 21, 5, 22, 23, 44, 45, 46, 47, 48, 49, 50, 51, 52] rfl (by decide +kernel)
set_option maxRecDepth 20000 in
theorem g_x_hold_s_freeHold_116 : GoodIn w_x_hold (wsV RX8 116 RX6 yX6_freeHold w_s_freeHold) := goodIn_r _ [24, 25, 26, 5, 27, 28, 20, 21, 5, 22, 23, 44, 45, 46, 47, 48, 49, 50, 51, 52] rfl (by decide +kernel)
set_option maxRecDepth 20000 in
theorem g_x_hold_s_take_120 : GoodIn w_x_hold (wsV RX8 120 RX6 yX6_take w_s_take) := goodIn_r _ [29, 30, 31, 5, 32, 23, 33, 44, 45, 46, 47, 48, 49, 50, 51, 52] rfl (by decide +kernel)
set_option maxRecDepth 20000 in
theorem g_x_hold_f_full_63 : GoodIn w_x_hold (wsV RX8 63 RX8 yX8_finding w_f_full) := goodIn_r _ [9, 10, 11, 12, 13, 8, 14, 36, 37, 38, 39, 40, 41, 42, 43] rfl (by decide +kernel)
set_option maxRecDepth 20000 in
theorem g_x_hold_f_state_63 : GoodIn w_x_hold (wsV RX8 63 RX8 yX8_finding w_f_state) := goodIn_r _ [9, 10, 11, 12, 13, 8, 14, 36, 37, 38, 39, 40, 41, 42, 43] rfl (by decide +kernel)
set_option maxHeartbeats 4000000 in
set_option maxRecDepth 100000 in
theorem x_hold (l : Launch) (dC : Nat → ClassId) (dI : Nat → Nat → Nat) (ad : Nat → Nat) (h0 : Nat) (a : Int32) (b : Int32) (ah : Nat) (v1 : Value) (v2 : Value) (v3 : Value) (v4 : Value) (v5 : Value) (t0 : Nat) (v7 : Value) (tc : ClassId) (tf : Nat → Int32) (sh : Int32) (w1 : Value) (w2 : Value) (w3 : Value) (q3 : Nat) (q4 : Nat) (w6 : Value) (w7 : Value) (w8 : Value) (c3 : ClassId) (f3 : Nat → Int32) (c4 : ClassId) (f4 : Nat → Int32) (sz : Nat) (hsh : 0 ≤ sh.toInt ∧ sh.toInt ≤ 9) : Met l yX8_hold w_x_hold ({ frames := 2, cells := 0, slots := 0, locals := 42 } : Room) (va_Pc [.ref h0, .int a, .int b] (preM dC dI ad [(tc, .int), (c3, .int), (c4, .int)] [(h0, .inr (6, [.ref ah, v1, v2, v3, v4, v5, .ref t0, v7])), (t0, .inl (tc, 7, .inl tf)), (ah, .inr (4, [.int sh, w1, w2, w3, .ref q3, .ref q4, w6, w7, w8])), (q3, .inl (c3, 4, .inl f3)), (q4, .inl (c4, 4, .inl f4))] sz)) (va_Qi (fun (r : Int32) (_ : Unit) => True) (fun _ t => ∃ (tg : Nat → Int32), ∃ (g3 : Nat → Int32), ∃ (g4 : Nat → Int32), va_P (dC, dI) vwCl [(h0, .inr (6, [.ref ah, v1, v2, v3, v4, v5, .ref t0, v7])), (t0, .inl (tc, 7, .inl tg)), (ah, .inr (4, [.int sh, w1, w2, w3, .ref q3, .ref q4, w6, w7, w8])), (q3, .inl (c3, 4, .inl g3)), (q4, .inl (c4, 4, .inl g4))] t.heap ∧ va_K (dC, dI) vwCl [(tc, .int), (c3, .int), (c4, .int)] t ∧ va_D (va_A [(h0, .inr (6, [.ref ah, v1, v2, v3, v4, v5, .ref t0, v7])), (t0, .inl (tc, 7, .inl tf)), (ah, .inr (4, [.int sh, w1, w2, w3, .ref q3, .ref q4, w6, w7, w8])), (q3, .inl (c3, 4, .inl f3)), (q4, .inl (c4, 4, .inl f4))] sz) [(h0, .inr (6, [.ref ah, v1, v2, v3, v4, v5, .ref t0, v7])), (t0, .inl (tc, 7, .inl tg)), (ah, .inr (4, [.int sh, w1, w2, w3, .ref q3, .ref q4, w6, w7, w8])), (q3, .inl (c3, 4, .inl g3)), (q4, .inl (c4, 4, .inl g4))]) (va_A [(h0, .inr (6, [.ref ah, v1, v2, v3, v4, v5, .ref t0, v7])), (t0, .inl (tc, 7, .inl tf)), (ah, .inr (4, [.int sh, w1, w2, w3, .ref q3, .ref q4, w6, w7, w8])), (q3, .inl (c3, 4, .inl f3)), (q4, .inl (c4, 4, .inl f4))] sz)) 0 0 (va_A [(h0, .inr (6, [.ref ah, v1, v2, v3, v4, v5, .ref t0, v7])), (t0, .inl (tc, 7, .inl tf)), (ah, .inr (4, [.int sh, w1, w2, w3, .ref q3, .ref q4, w6, w7, w8])), (q3, .inl (c3, 4, .inl f3)), (q4, .inl (c4, 4, .inl f4))] sz) := by
  refine Met.ofW (cc := cX8_hold) (maxL := 4) (ret := (some .int)) (by decide) rfl ?_
  intro p e s m args below meth c s₁ B hml hv
  obtain ⟨rfl, hsz, hP, hK, hD0, hev⟩ := hv
  have hx := B.exec
  have hb := B.bytes
  have hr := B.returns
  have hts := atoms_spec (ws := w_x_hold) B.pre
  have hown : s.vm.findClass RX8 = some m.cls := findClass_of_methodNamed B.named
  have hlocks := B.notSynchronized
  have inX8 : ∀ w ∈ wsX80, w ∈ w_x_hold := fun w h => List.mem_cons_of_mem _ (List.mem_append_left _ (List.mem_append_right _ h))
  have inX6 : ∀ w ∈ wsX60, w ∈ w_x_hold := fun w h => List.mem_cons_of_mem _ (List.mem_append_right _ h)
  subst hsz
  have hD := hD0.self (sz := s.heap.size)
  generalize hAe : va_A [(h0, .inr (6, [.ref ah, v1, v2, v3, v4, v5, .ref t0, v7])), (t0, .inl (tc, 7, .inl tf)), (ah, .inr (4, [.int sh, w1, w2, w3, .ref q3, .ref q4, w6, w7, w8])), (q3, .inl (c3, 4, .inl f3)), (q4, .inl (c4, 4, .inl f4))] s.heap.size = A at hD ⊢
  have hA : ∀ q : Nat, s.heap.size ≤ q → A q := fun q h => by rw [← hAe]; exact Or.inr h
  have hS : va_S A s.heap s.heap [] := va_S.rf
  have hP : va_P (dC, dI) vwCl [(h0, .inr (6, [.ref ah, v1, v2, v3, v4, v5, .ref t0, v7])), (t0, .inl (tc, 7, .inl tf)), (ah, .inr (4, [.int sh, w1, w2, w3, .ref q3, .ref q4, w6, w7, w8])), (q3, .inl (c3, 4, .inl f3)), (q4, .inl (c4, 4, .inl f4))] s.heap := hP
  have hl := lv_entry ([.ref h0, .int a, .int b]) (n := 4) (Nat.le_of_ble_eq_true rfl)
  rw [lg_entry_eq]
  generalize (lg_sl ([.ref h0, .int a, .int b]) ++ List.replicate (4 - (lg_sl ([.ref h0, .int a, .int b])).length) Slot.unset).toArray = ls at hl ⊢
  have hl : lv_has ls 4 [(0, .ref h0), (1, .int a), (2, .int b)] := hl
  refine lv_aload_n hx hb dX8_hold_0 rfl (lv_at hl 0 rfl) ?_
  refine va_get (D := (dC, dI)) (ci := 6) (v := .ref ah) (C := RX8) (T := TX8) (N := 8) hx hb hts inX8 hown hK hP 0 rfl rfl 0 (by decide) (hts _ (List.mem_of_getElem? (i := 1) rfl)) (fun _ h9 => h9) rfl dX8_hold_1 ?_
  refine lv_iload_n hx hb dX8_hold_4 rfl (lv_at hl 1 rfl) ?_
  have hPc := hP.sub (ws' := [(ah, .inr (4, [.int sh, w1, w2, w3, .ref q3, .ref q4, w6, w7, w8]))]) [2] rfl
  have hKc := hK.sub (tys' := []) [] rfl
  refine vp_callSi (W.runV (As := [.int a]) (rest := []) ⟨hx, hb, hml, hown, hts⟩ (s_hasShape l dC dI ad ah a sh w1 w2 w3 (.ref q3) (.ref q4) w6 w7 w8 ) (cwV 1 hts g_x_hold_s_hasShape_76 rfl rfl rfl (by decide +kernel) ⟨(Nat.le_of_ble_eq_true rfl), (Nat.le_of_ble_eq_true rfl)⟩) ⟨preS_blind, va_recv hKc hPc (ci := 4) (q0 := 0) rfl rfl, fun U hU hW => ⟨rfl, preS_at hU hW hPc hKc hev⟩⟩ rfl rfl hl.1 rfl (lv_room (Nat.le_of_ble_eq_true rfl)) dX8_hold_5 ⟨(Nat.le_of_ble_eq_true rfl), (Nat.le_of_ble_eq_true rfl)⟩) (fun r_1 hw => ?_)
  have hr_1 : (r_1.toInt = 1 ∧ 0 ≤ a.toInt ∧ a.toInt < sh.toInt) ∨ r_1.toInt = 0 := hw
  refine lv_if_eq (tgt := 18) hx hb dX8_hold_8 (by decide) (fun c_2 => ?_) (fun c_2 => ?_)
  · skip
    have tc_2 : r_1.toInt = 0 := (fa_eq _ _).mp c_2
    refine lv_aload_n hx hb dX8_hold_18 rfl (lv_at hl 0 rfl) ?_
    refine lv_ldc hx hb hown (hts _ (List.mem_of_getElem? (i := 8) rfl)) dX8_hold_19 ?_
    have hPc := hP.sub (ws' := [(h0, .inr (6, [.ref ah, v1, v2, v3, v4, v5, .ref t0, v7])), (t0, .inl (tc, 7, .inl tf))]) [0, 1] rfl
    have hKc := hK.sub (tys' := [(tc, .int)]) [0] rfl
    have hDc := hD.sub (ws' := [(h0, .inr (6, [.ref ah, v1, v2, v3, v4, v5, .ref t0, v7])), (t0, .inl (tc, 7, .inl tf))]) [0, 1] (by decide) rfl
    have hFc := va_free (wc := [(h0, .inr (6, [.ref ah, v1, v2, v3, v4, v5, .ref t0, v7])), (t0, .inl (tc, 7, .inl tf))]) hD hS hA [0, 1] rfl
    refine va_calli (va_runV (As := [.int (-1000000001)]) (rest := []) ⟨hx, hb, hml, hown, hts⟩ (f_beyond l dC dI ad h0 (.ref ah) v1 v2 v3 v4 v5 t0 v7 tc tf s.heap.size ) (cwV 1 hts g_x_hold_f_beyond_63 rfl rfl rfl (by decide +kernel) ⟨(Nat.le_of_ble_eq_true rfl), (Nat.le_of_ble_eq_true rfl)⟩) ⟨preM_blind, va_recv hKc hPc (ci := 6) (q0 := 0) rfl rfl, fun U hU hW => ⟨rfl, preM_at hU hW hPc hKc hDc hev⟩⟩ rfl rfl hl.1 rfl (lv_room (Nat.le_of_ble_eq_true rfl)) dX8_hold_21 ⟨(Nat.le_of_ble_eq_true rfl), (Nat.le_of_ble_eq_true rfl)⟩) hS (fun q _ h => hFc q h) hFc (fun r_3 u t H1 locs ht hvm hw hB hz1 hk1 hS => ?_)
    obtain ⟨tg_4, hP1, hK1, hD1⟩ := hB
    rw [ht] at hP1
    have hK1 := va_K.moved hvm.symm hK1
    obtain ⟨hP, hD⟩ := va_join (wr := [(ah, .inr (4, [.int sh, w1, w2, w3, .ref q3, .ref q4, w6, w7, w8])), (q3, .inl (c3, 4, .inl f3)), (q4, .inl (c4, 4, .inl f4))]) (w1 := [(h0, .inr (6, [.ref ah, v1, v2, v3, v4, v5, .ref t0, v7])), (t0, .inl (tc, 7, .inl tg_4))]) hP hD [0, 1] [2, 3, 4] rfl rfl (by decide) (by decide) hk1 hFc hP1 hD1
    generalize H1 = H at hP hS ⊢
    have hP : va_P (dC, dI) vwCl [(ah, .inr (4, [.int sh, w1, w2, w3, .ref q3, .ref q4, w6, w7, w8])), (q3, .inl (c3, 4, .inl f3)), (q4, .inl (c4, 4, .inl f4)), (h0, .inr (6, [.ref ah, v1, v2, v3, v4, v5, .ref t0, v7])), (t0, .inl (tc, 7, .inl tg_4))] H := hP
    have hD : va_D A [(ah, .inr (4, [.int sh, w1, w2, w3, .ref q3, .ref q4, w6, w7, w8])), (q3, .inl (c3, 4, .inl f3)), (q4, .inl (c4, 4, .inl f4)), (h0, .inr (6, [.ref ah, v1, v2, v3, v4, v5, .ref t0, v7])), (t0, .inl (tc, 7, .inl tg_4))] := hD
    subst hw
    have hP9 := hP.sub (ws' := [(h0, .inr (6, [.ref ah, v1, v2, v3, v4, v5, .ref t0, v7])), (t0, .inl (tc, 7, .inl tg_4)), (ah, .inr (4, [.int sh, w1, w2, w3, .ref q3, .ref q4, w6, w7, w8])), (q3, .inl (c3, 4, .inl f3)), (q4, .inl (c4, 4, .inl f4))]) [3, 4, 0, 1, 2] rfl
    have hD9 := hD.sub (ws' := [(h0, .inr (6, [.ref ah, v1, v2, v3, v4, v5, .ref t0, v7])), (t0, .inl (tc, 7, .inl tg_4)), (ah, .inr (4, [.int sh, w1, w2, w3, .ref q3, .ref q4, w6, w7, w8])), (q3, .inl (c3, 4, .inl f3)), (q4, .inl (c4, 4, .inl f4))]) [3, 4, 0, 1, 2] (by decide) rfl
    have hK9 := hK.sub (tys' := [(tc, .int), (c3, .int), (c4, .int)]) [0, 1, 2] rfl
    exact W.iret (v := ((-1000000001) : Int32)) hx hb hr (fun t ht hW => ⟨⟨((-1000000001) : Int32), (), rfl, trivial, tg_4, f3, f4, by rw [ht]; exact hP9, va_K.moved hW.alike hK9, hD9⟩, hS.F ht⟩) hS.2.2 dX8_hold_24
  · skip
    have tc_2 : ¬ r_1.toInt = 0 := fun h => c_2 ((fa_eq _ _).mpr h)
    refine lv_iload_n hx hb dX8_hold_11 rfl (lv_at hl 2 rfl) ?_
    have hPc := hP.sub (ws' := []) [] rfl
    have hKc := hK.sub (tys' := []) [] rfl
    refine vp_callSi (W.runS (As := [.int b]) (rest := []) ⟨hx, hb, hml, hown, hts⟩ (l_isPlacing l dC dI ad b ) (va_cwS 1 hts g_x_hold_l_isPlacing_106 rfl rfl rfl (by decide +kernel) ⟨(Nat.le_of_ble_eq_true rfl), (Nat.le_of_ble_eq_true rfl)⟩) ⟨preS_blind, fun U hU hW => ⟨rfl, preS_at hU hW hPc hKc hev⟩⟩ rfl rfl hl.1 rfl (lv_room (Nat.le_of_ble_eq_true rfl)) dX8_hold_12 ⟨(Nat.le_of_ble_eq_true rfl), (Nat.le_of_ble_eq_true rfl)⟩) (fun r_5 hw => ?_)
    refine lv_if_ne (tgt := 25) hx hb dX8_hold_15 (by decide) (fun c_6 => ?_) (fun c_6 => ?_)
    · skip
      have tc_6 : ¬ r_5.toInt = 0 := fun h => c_6 ((fa_eq _ _).mpr h)
      refine lv_aload_n hx hb dX8_hold_25 rfl (lv_at hl 0 rfl) ?_
      refine va_get (D := (dC, dI)) (ci := 6) (v := .ref ah) (C := RX8) (T := TX8) (N := 8) hx hb hts inX8 hown hK hP 0 rfl rfl 0 (by decide) (hts _ (List.mem_of_getElem? (i := 1) rfl)) (fun _ h9 => h9) rfl dX8_hold_26 ?_
      refine lv_iload_n hx hb dX8_hold_29 rfl (lv_at hl 1 rfl) ?_
      have hPc := hP.sub (ws' := [(ah, .inr (4, [.int sh, w1, w2, w3, .ref q3, .ref q4, w6, w7, w8])), (q3, .inl (c3, 4, .inl f3))]) [2, 3] rfl
      have hKc := hK.sub (tys' := [(c3, .int)]) [1] rfl
      refine vp_callSi (W.runV (As := [.int a]) (rest := []) ⟨hx, hb, hml, hown, hts⟩ (s_holdOf l dC dI ad ah a (.int sh) w1 w2 w3 q3 (.ref q4) w6 w7 w8 c3 f3 ) (cwV 1 hts g_x_hold_s_holdOf_88 rfl rfl rfl (by decide +kernel) ⟨(Nat.le_of_ble_eq_true rfl), (Nat.le_of_ble_eq_true rfl)⟩) ⟨preS_blind, va_recv hKc hPc (ci := 4) (q0 := 0) rfl rfl, fun U hU hW => ⟨rfl, preS_at hU hW hPc hKc hev⟩⟩ rfl rfl hl.1 rfl (lv_room (Nat.le_of_ble_eq_true rfl)) dX8_hold_30 ⟨(Nat.le_of_ble_eq_true rfl), (Nat.le_of_ble_eq_true rfl)⟩) (fun r_7 hw => ?_)
      have hr_7 : (-1) ≤ r_7.toInt ∧ r_7.toInt ≤ 3 := hw
      refine lv_if_lt (tgt := 43) hx hb dX8_hold_33 (by decide) (fun c_8 => ?_) (fun c_8 => ?_)
      · skip
        have tc_8 : r_7.toInt < 0 := (fa_lt _ _).mp c_8
        refine lv_aload_n hx hb dX8_hold_43 rfl (lv_at hl 0 rfl) ?_
        refine va_get (D := (dC, dI)) (ci := 6) (v := .ref ah) (C := RX8) (T := TX8) (N := 8) hx hb hts inX8 hown hK hP 0 rfl rfl 0 (by decide) (hts _ (List.mem_of_getElem? (i := 1) rfl)) (fun _ h9 => h9) rfl dX8_hold_44 ?_
        have hPc := hP.sub (ws' := [(ah, .inr (4, [.int sh, w1, w2, w3, .ref q3, .ref q4, w6, w7, w8])), (q3, .inl (c3, 4, .inl f3))]) [2, 3] rfl
        have hKc := hK.sub (tys' := [(c3, .int)]) [1] rfl
        refine vp_callSi (W.runV (As := []) (rest := []) ⟨hx, hb, hml, hown, hts⟩ (s_freeHold l dC dI ad ah (.int sh) w1 w2 w3 q3 (.ref q4) w6 w7 w8 c3 f3 ) (cwV 0 hts g_x_hold_s_freeHold_116 rfl rfl rfl (by decide +kernel) ⟨(Nat.le_of_ble_eq_true rfl), (Nat.le_of_ble_eq_true rfl)⟩) ⟨preS_blind, va_recv hKc hPc (ci := 4) (q0 := 0) rfl rfl, fun U hU hW => ⟨rfl, preS_at hU hW hPc hKc hev⟩⟩ rfl rfl hl.1 rfl (lv_room (Nat.le_of_ble_eq_true rfl)) dX8_hold_47 ⟨(Nat.le_of_ble_eq_true rfl), (Nat.le_of_ble_eq_true rfl)⟩) (fun r_9 hw => ?_)
        have hr_9 : (-1) ≤ r_9.toInt ∧ r_9.toInt ≤ 3 := hw
        refine lv_istore_n (lv' := [(3, .int r_9), (0, .ref h0), (1, .int a), (2, .int b)]) hx hb dX8_hold_50 rfl hl (by decide) rfl (fun ls hl => ?_)
        refine lv_iload_n hx hb dX8_hold_51 rfl (lv_at hl 0 rfl) ?_
        refine lv_if_ge (tgt := 62) hx hb dX8_hold_52 (by decide) (fun c_10 => ?_) (fun c_10 => ?_)
        · skip
          have tc_10 : 0 ≤ r_9.toInt := (fa_le _ _).mp c_10
          refine lv_aload_n hx hb dX8_hold_62 rfl (lv_at hl 1 rfl) ?_
          refine va_get (D := (dC, dI)) (ci := 6) (v := .ref ah) (C := RX8) (T := TX8) (N := 8) hx hb hts inX8 hown hK hP 0 rfl rfl 0 (by decide) (hts _ (List.mem_of_getElem? (i := 1) rfl)) (fun _ h9 => h9) rfl dX8_hold_63 ?_
          refine lv_iload_n hx hb dX8_hold_66 rfl (lv_at hl 0 rfl) ?_
          refine lv_iload_n hx hb dX8_hold_67 rfl (lv_at hl 2 rfl) ?_
          refine lv_iload_n hx hb dX8_hold_68 rfl (lv_at hl 3 rfl) ?_
          have hPc := hP.sub (ws' := [(ah, .inr (4, [.int sh, w1, w2, w3, .ref q3, .ref q4, w6, w7, w8])), (q3, .inl (c3, 4, .inl f3)), (q4, .inl (c4, 4, .inl f4))]) [2, 3, 4] rfl
          have hKc := hK.sub (tys' := [(c3, .int), (c4, .int)]) [1, 2] rfl
          have hDc := hD.sub (ws' := [(ah, .inr (4, [.int sh, w1, w2, w3, .ref q3, .ref q4, w6, w7, w8])), (q3, .inl (c3, 4, .inl f3)), (q4, .inl (c4, 4, .inl f4))]) [2, 3, 4] (by decide) rfl
          have hFc := va_free (wc := [(ah, .inr (4, [.int sh, w1, w2, w3, .ref q3, .ref q4, w6, w7, w8])), (q3, .inl (c3, 4, .inl f3)), (q4, .inl (c4, 4, .inl f4))]) hD hS hA [2, 3, 4] rfl
          refine va_callv (va_runV (As := [.int r_9, .int a, .int b]) (rest := []) ⟨hx, hb, hml, hown, hts⟩ (s_take l dC dI ad ah r_9 a b (.int sh) w1 w2 w3 q3 q4 w6 w7 w8 c3 f3 c4 f4 s.heap.size (by first | omega | decide | (simp only [fa_lt, fa_le, fa_eq, and_true, true_and, and_false, false_and, not_true_eq_false, not_false_eq_true, li_0, li_1, li_2, li_3, li_4, li_5, li_6, li_7, li_8, li_9, li_10, li_12, li_15, li_16, li_20, li_30, li_34, li_38, li_40, li_63, li_64, li_65, li_78, li_120, li_1000, li_4000, li_10000, li_11077, li_255, li_65535, li_m1, li_m2, li_m1000000001, li_m1000000002, li_m1000000003, li_m1000000004, li_m1000000005, li_m1000000006, li_m1000000007, or_true, true_or, or_false, false_or, implies_true, true_implies, false_implies] <;> omega))) (cwV 3 hts g_x_hold_s_take_120 rfl rfl rfl (by decide +kernel) ⟨(Nat.le_of_ble_eq_true rfl), (Nat.le_of_ble_eq_true rfl)⟩) ⟨preM_blind, va_recv hKc hPc (ci := 4) (q0 := 0) rfl rfl, fun U hU hW => ⟨rfl, preM_at hU hW hPc hKc hDc hev⟩⟩ rfl rfl hl.1 rfl (lv_room (Nat.le_of_ble_eq_true rfl)) dX8_hold_69 ⟨(Nat.le_of_ble_eq_true rfl), (Nat.le_of_ble_eq_true rfl)⟩) hS (fun q _ h => hFc q h) hFc (fun u t H1 locs ht hvm hw hB hz1 hk1 hS => ?_)
          obtain ⟨g_12, g_13, hP1, hK1, hD1⟩ := hB
          rw [ht] at hP1
          have hK1 := va_K.moved hvm.symm hK1
          obtain ⟨hP, hD⟩ := va_join (wr := [(h0, .inr (6, [.ref ah, v1, v2, v3, v4, v5, .ref t0, v7])), (t0, .inl (tc, 7, .inl tf))]) (w1 := [(ah, .inr (4, [.int sh, w1, w2, w3, .ref q3, .ref q4, w6, w7, w8])), (q3, .inl (c3, 4, .inl g_12)), (q4, .inl (c4, 4, .inl g_13))]) hP hD [2, 3, 4] [0, 1] rfl rfl (by decide) (by decide) hk1 hFc hP1 hD1
          generalize H1 = H at hP hS ⊢
          have hP : va_P (dC, dI) vwCl [(h0, .inr (6, [.ref ah, v1, v2, v3, v4, v5, .ref t0, v7])), (t0, .inl (tc, 7, .inl tf)), (ah, .inr (4, [.int sh, w1, w2, w3, .ref q3, .ref q4, w6, w7, w8])), (q3, .inl (c3, 4, .inl g_12)), (q4, .inl (c4, 4, .inl g_13))] H := hP
          have hD : va_D A [(h0, .inr (6, [.ref ah, v1, v2, v3, v4, v5, .ref t0, v7])), (t0, .inl (tc, 7, .inl tf)), (ah, .inr (4, [.int sh, w1, w2, w3, .ref q3, .ref q4, w6, w7, w8])), (q3, .inl (c3, 4, .inl g_12)), (q4, .inl (c4, 4, .inl g_13))] := hD
          refine lv_iload_n hx hb dX8_hold_72 rfl (lv_at hl 0 rfl) ?_
          have hP9 := hP.sub (ws' := [(h0, .inr (6, [.ref ah, v1, v2, v3, v4, v5, .ref t0, v7])), (t0, .inl (tc, 7, .inl tf)), (ah, .inr (4, [.int sh, w1, w2, w3, .ref q3, .ref q4, w6, w7, w8])), (q3, .inl (c3, 4, .inl g_12)), (q4, .inl (c4, 4, .inl g_13))]) [0, 1, 2, 3, 4] rfl
          have hD9 := hD.sub (ws' := [(h0, .inr (6, [.ref ah, v1, v2, v3, v4, v5, .ref t0, v7])), (t0, .inl (tc, 7, .inl tf)), (ah, .inr (4, [.int sh, w1, w2, w3, .ref q3, .ref q4, w6, w7, w8])), (q3, .inl (c3, 4, .inl g_12)), (q4, .inl (c4, 4, .inl g_13))]) [0, 1, 2, 3, 4] (by decide) rfl
          have hK9 := hK.sub (tys' := [(tc, .int), (c3, .int), (c4, .int)]) [0, 1, 2] rfl
          exact W.iret (v := r_9) hx hb hr (fun t ht hW => ⟨⟨r_9, (), rfl, trivial, tf, g_12, g_13, by rw [ht]; exact hP9, va_K.moved hW.alike hK9, hD9⟩, hS.F ht⟩) hS.2.2 dX8_hold_73
        · skip
          have tc_10 : ¬ 0 ≤ r_9.toInt := fun h => c_10 ((fa_le _ _).mpr h)
          refine lv_aload_n hx hb dX8_hold_55 rfl (lv_at hl 1 rfl) ?_
          refine lv_ldc hx hb hown (hts _ (List.mem_of_getElem? (i := 34) rfl)) dX8_hold_56 ?_
          have hPc := hP.sub (ws' := [(h0, .inr (6, [.ref ah, v1, v2, v3, v4, v5, .ref t0, v7])), (t0, .inl (tc, 7, .inl tf))]) [0, 1] rfl
          have hKc := hK.sub (tys' := [(tc, .int)]) [0] rfl
          have hDc := hD.sub (ws' := [(h0, .inr (6, [.ref ah, v1, v2, v3, v4, v5, .ref t0, v7])), (t0, .inl (tc, 7, .inl tf))]) [0, 1] (by decide) rfl
          have hFc := va_free (wc := [(h0, .inr (6, [.ref ah, v1, v2, v3, v4, v5, .ref t0, v7])), (t0, .inl (tc, 7, .inl tf))]) hD hS hA [0, 1] rfl
          refine va_calli (va_runV (As := [.int (-1000000002)]) (rest := []) ⟨hx, hb, hml, hown, hts⟩ (f_full l dC dI ad h0 (.ref ah) v1 v2 v3 v4 v5 t0 v7 tc tf s.heap.size ) (cwV 1 hts g_x_hold_f_full_63 rfl rfl rfl (by decide +kernel) ⟨(Nat.le_of_ble_eq_true rfl), (Nat.le_of_ble_eq_true rfl)⟩) ⟨preM_blind, va_recv hKc hPc (ci := 6) (q0 := 0) rfl rfl, fun U hU hW => ⟨rfl, preM_at hU hW hPc hKc hDc hev⟩⟩ rfl rfl hl.1 rfl (lv_room (Nat.le_of_ble_eq_true rfl)) dX8_hold_58 ⟨(Nat.le_of_ble_eq_true rfl), (Nat.le_of_ble_eq_true rfl)⟩) hS (fun q _ h => hFc q h) hFc (fun r_14 u t H1 locs ht hvm hw hB hz1 hk1 hS => ?_)
          obtain ⟨tg_15, hP1, hK1, hD1⟩ := hB
          rw [ht] at hP1
          have hK1 := va_K.moved hvm.symm hK1
          obtain ⟨hP, hD⟩ := va_join (wr := [(ah, .inr (4, [.int sh, w1, w2, w3, .ref q3, .ref q4, w6, w7, w8])), (q3, .inl (c3, 4, .inl f3)), (q4, .inl (c4, 4, .inl f4))]) (w1 := [(h0, .inr (6, [.ref ah, v1, v2, v3, v4, v5, .ref t0, v7])), (t0, .inl (tc, 7, .inl tg_15))]) hP hD [0, 1] [2, 3, 4] rfl rfl (by decide) (by decide) hk1 hFc hP1 hD1
          generalize H1 = H at hP hS ⊢
          have hP : va_P (dC, dI) vwCl [(ah, .inr (4, [.int sh, w1, w2, w3, .ref q3, .ref q4, w6, w7, w8])), (q3, .inl (c3, 4, .inl f3)), (q4, .inl (c4, 4, .inl f4)), (h0, .inr (6, [.ref ah, v1, v2, v3, v4, v5, .ref t0, v7])), (t0, .inl (tc, 7, .inl tg_15))] H := hP
          have hD : va_D A [(ah, .inr (4, [.int sh, w1, w2, w3, .ref q3, .ref q4, w6, w7, w8])), (q3, .inl (c3, 4, .inl f3)), (q4, .inl (c4, 4, .inl f4)), (h0, .inr (6, [.ref ah, v1, v2, v3, v4, v5, .ref t0, v7])), (t0, .inl (tc, 7, .inl tg_15))] := hD
          subst hw
          have hP9 := hP.sub (ws' := [(h0, .inr (6, [.ref ah, v1, v2, v3, v4, v5, .ref t0, v7])), (t0, .inl (tc, 7, .inl tg_15)), (ah, .inr (4, [.int sh, w1, w2, w3, .ref q3, .ref q4, w6, w7, w8])), (q3, .inl (c3, 4, .inl f3)), (q4, .inl (c4, 4, .inl f4))]) [3, 4, 0, 1, 2] rfl
          have hD9 := hD.sub (ws' := [(h0, .inr (6, [.ref ah, v1, v2, v3, v4, v5, .ref t0, v7])), (t0, .inl (tc, 7, .inl tg_15)), (ah, .inr (4, [.int sh, w1, w2, w3, .ref q3, .ref q4, w6, w7, w8])), (q3, .inl (c3, 4, .inl f3)), (q4, .inl (c4, 4, .inl f4))]) [3, 4, 0, 1, 2] (by decide) rfl
          have hK9 := hK.sub (tys' := [(tc, .int), (c3, .int), (c4, .int)]) [0, 1, 2] rfl
          exact W.iret (v := ((-1000000002) : Int32)) hx hb hr (fun t ht hW => ⟨⟨((-1000000002) : Int32), (), rfl, trivial, tg_15, f3, f4, by rw [ht]; exact hP9, va_K.moved hW.alike hK9, hD9⟩, hS.F ht⟩) hS.2.2 dX8_hold_61
      · skip
        have tc_8 : ¬ r_7.toInt < 0 := fun h => c_8 ((fa_lt _ _).mpr h)
        refine lv_aload_n hx hb dX8_hold_36 rfl (lv_at hl 0 rfl) ?_
        refine lv_ldc hx hb hown (hts _ (List.mem_of_getElem? (i := 35) rfl)) dX8_hold_37 ?_
        have hPc := hP.sub (ws' := [(h0, .inr (6, [.ref ah, v1, v2, v3, v4, v5, .ref t0, v7])), (t0, .inl (tc, 7, .inl tf))]) [0, 1] rfl
        have hKc := hK.sub (tys' := [(tc, .int)]) [0] rfl
        have hDc := hD.sub (ws' := [(h0, .inr (6, [.ref ah, v1, v2, v3, v4, v5, .ref t0, v7])), (t0, .inl (tc, 7, .inl tf))]) [0, 1] (by decide) rfl
        have hFc := va_free (wc := [(h0, .inr (6, [.ref ah, v1, v2, v3, v4, v5, .ref t0, v7])), (t0, .inl (tc, 7, .inl tf))]) hD hS hA [0, 1] rfl
        refine va_calli (va_runV (As := [.int (-1000000005)]) (rest := []) ⟨hx, hb, hml, hown, hts⟩ (f_state l dC dI ad h0 (.ref ah) v1 v2 v3 v4 v5 t0 v7 tc tf s.heap.size ) (cwV 1 hts g_x_hold_f_state_63 rfl rfl rfl (by decide +kernel) ⟨(Nat.le_of_ble_eq_true rfl), (Nat.le_of_ble_eq_true rfl)⟩) ⟨preM_blind, va_recv hKc hPc (ci := 6) (q0 := 0) rfl rfl, fun U hU hW => ⟨rfl, preM_at hU hW hPc hKc hDc hev⟩⟩ rfl rfl hl.1 rfl (lv_room (Nat.le_of_ble_eq_true rfl)) dX8_hold_39 ⟨(Nat.le_of_ble_eq_true rfl), (Nat.le_of_ble_eq_true rfl)⟩) hS (fun q _ h => hFc q h) hFc (fun r_16 u t H1 locs ht hvm hw hB hz1 hk1 hS => ?_)
        obtain ⟨tg_17, hP1, hK1, hD1⟩ := hB
        rw [ht] at hP1
        have hK1 := va_K.moved hvm.symm hK1
        obtain ⟨hP, hD⟩ := va_join (wr := [(ah, .inr (4, [.int sh, w1, w2, w3, .ref q3, .ref q4, w6, w7, w8])), (q3, .inl (c3, 4, .inl f3)), (q4, .inl (c4, 4, .inl f4))]) (w1 := [(h0, .inr (6, [.ref ah, v1, v2, v3, v4, v5, .ref t0, v7])), (t0, .inl (tc, 7, .inl tg_17))]) hP hD [0, 1] [2, 3, 4] rfl rfl (by decide) (by decide) hk1 hFc hP1 hD1
        generalize H1 = H at hP hS ⊢
        have hP : va_P (dC, dI) vwCl [(ah, .inr (4, [.int sh, w1, w2, w3, .ref q3, .ref q4, w6, w7, w8])), (q3, .inl (c3, 4, .inl f3)), (q4, .inl (c4, 4, .inl f4)), (h0, .inr (6, [.ref ah, v1, v2, v3, v4, v5, .ref t0, v7])), (t0, .inl (tc, 7, .inl tg_17))] H := hP
        have hD : va_D A [(ah, .inr (4, [.int sh, w1, w2, w3, .ref q3, .ref q4, w6, w7, w8])), (q3, .inl (c3, 4, .inl f3)), (q4, .inl (c4, 4, .inl f4)), (h0, .inr (6, [.ref ah, v1, v2, v3, v4, v5, .ref t0, v7])), (t0, .inl (tc, 7, .inl tg_17))] := hD
        subst hw
        have hP9 := hP.sub (ws' := [(h0, .inr (6, [.ref ah, v1, v2, v3, v4, v5, .ref t0, v7])), (t0, .inl (tc, 7, .inl tg_17)), (ah, .inr (4, [.int sh, w1, w2, w3, .ref q3, .ref q4, w6, w7, w8])), (q3, .inl (c3, 4, .inl f3)), (q4, .inl (c4, 4, .inl f4))]) [3, 4, 0, 1, 2] rfl
        have hD9 := hD.sub (ws' := [(h0, .inr (6, [.ref ah, v1, v2, v3, v4, v5, .ref t0, v7])), (t0, .inl (tc, 7, .inl tg_17)), (ah, .inr (4, [.int sh, w1, w2, w3, .ref q3, .ref q4, w6, w7, w8])), (q3, .inl (c3, 4, .inl f3)), (q4, .inl (c4, 4, .inl f4))]) [3, 4, 0, 1, 2] (by decide) rfl
        have hK9 := hK.sub (tys' := [(tc, .int), (c3, .int), (c4, .int)]) [0, 1, 2] rfl
        exact W.iret (v := ((-1000000005) : Int32)) hx hb hr (fun t ht hW => ⟨⟨((-1000000005) : Int32), (), rfl, trivial, tg_17, f3, f4, by rw [ht]; exact hP9, va_K.moved hW.alike hK9, hD9⟩, hS.F ht⟩) hS.2.2 dX8_hold_42
    · skip
      have tc_6 : r_5.toInt = 0 := (fa_eq _ _).mp c_6
      refine lv_aload_n hx hb dX8_hold_18 rfl (lv_at hl 0 rfl) ?_
      refine lv_ldc hx hb hown (hts _ (List.mem_of_getElem? (i := 8) rfl)) dX8_hold_19 ?_
      have hPc := hP.sub (ws' := [(h0, .inr (6, [.ref ah, v1, v2, v3, v4, v5, .ref t0, v7])), (t0, .inl (tc, 7, .inl tf))]) [0, 1] rfl
      have hKc := hK.sub (tys' := [(tc, .int)]) [0] rfl
      have hDc := hD.sub (ws' := [(h0, .inr (6, [.ref ah, v1, v2, v3, v4, v5, .ref t0, v7])), (t0, .inl (tc, 7, .inl tf))]) [0, 1] (by decide) rfl
      have hFc := va_free (wc := [(h0, .inr (6, [.ref ah, v1, v2, v3, v4, v5, .ref t0, v7])), (t0, .inl (tc, 7, .inl tf))]) hD hS hA [0, 1] rfl
      refine va_calli (va_runV (As := [.int (-1000000001)]) (rest := []) ⟨hx, hb, hml, hown, hts⟩ (f_beyond l dC dI ad h0 (.ref ah) v1 v2 v3 v4 v5 t0 v7 tc tf s.heap.size ) (cwV 1 hts g_x_hold_f_beyond_63 rfl rfl rfl (by decide +kernel) ⟨(Nat.le_of_ble_eq_true rfl), (Nat.le_of_ble_eq_true rfl)⟩) ⟨preM_blind, va_recv hKc hPc (ci := 6) (q0 := 0) rfl rfl, fun U hU hW => ⟨rfl, preM_at hU hW hPc hKc hDc hev⟩⟩ rfl rfl hl.1 rfl (lv_room (Nat.le_of_ble_eq_true rfl)) dX8_hold_21 ⟨(Nat.le_of_ble_eq_true rfl), (Nat.le_of_ble_eq_true rfl)⟩) hS (fun q _ h => hFc q h) hFc (fun r_18 u t H1 locs ht hvm hw hB hz1 hk1 hS => ?_)
      obtain ⟨tg_19, hP1, hK1, hD1⟩ := hB
      rw [ht] at hP1
      have hK1 := va_K.moved hvm.symm hK1
      obtain ⟨hP, hD⟩ := va_join (wr := [(ah, .inr (4, [.int sh, w1, w2, w3, .ref q3, .ref q4, w6, w7, w8])), (q3, .inl (c3, 4, .inl f3)), (q4, .inl (c4, 4, .inl f4))]) (w1 := [(h0, .inr (6, [.ref ah, v1, v2, v3, v4, v5, .ref t0, v7])), (t0, .inl (tc, 7, .inl tg_19))]) hP hD [0, 1] [2, 3, 4] rfl rfl (by decide) (by decide) hk1 hFc hP1 hD1
      generalize H1 = H at hP hS ⊢
      have hP : va_P (dC, dI) vwCl [(ah, .inr (4, [.int sh, w1, w2, w3, .ref q3, .ref q4, w6, w7, w8])), (q3, .inl (c3, 4, .inl f3)), (q4, .inl (c4, 4, .inl f4)), (h0, .inr (6, [.ref ah, v1, v2, v3, v4, v5, .ref t0, v7])), (t0, .inl (tc, 7, .inl tg_19))] H := hP
      have hD : va_D A [(ah, .inr (4, [.int sh, w1, w2, w3, .ref q3, .ref q4, w6, w7, w8])), (q3, .inl (c3, 4, .inl f3)), (q4, .inl (c4, 4, .inl f4)), (h0, .inr (6, [.ref ah, v1, v2, v3, v4, v5, .ref t0, v7])), (t0, .inl (tc, 7, .inl tg_19))] := hD
      subst hw
      have hP9 := hP.sub (ws' := [(h0, .inr (6, [.ref ah, v1, v2, v3, v4, v5, .ref t0, v7])), (t0, .inl (tc, 7, .inl tg_19)), (ah, .inr (4, [.int sh, w1, w2, w3, .ref q3, .ref q4, w6, w7, w8])), (q3, .inl (c3, 4, .inl f3)), (q4, .inl (c4, 4, .inl f4))]) [3, 4, 0, 1, 2] rfl
      have hD9 := hD.sub (ws' := [(h0, .inr (6, [.ref ah, v1, v2, v3, v4, v5, .ref t0, v7])), (t0, .inl (tc, 7, .inl tg_19)), (ah, .inr (4, [.int sh, w1, w2, w3, .ref q3, .ref q4, w6, w7, w8])), (q3, .inl (c3, 4, .inl f3)), (q4, .inl (c4, 4, .inl f4))]) [3, 4, 0, 1, 2] (by decide) rfl
      have hK9 := hK.sub (tys' := [(tc, .int), (c3, .int), (c4, .int)]) [0, 1, 2] rfl
      exact W.iret (v := ((-1000000001) : Int32)) hx hb hr (fun t ht hW => ⟨⟨((-1000000001) : Int32), (), rfl, trivial, tg_19, f3, f4, by rw [ht]; exact hP9, va_K.moved hW.alike hK9, hD9⟩, hS.F ht⟩) hS.2.2 dX8_hold_24

def w_x_move : List Cond := .code yX8_move cX8_move 5 (some .int) :: (([.fieldLink RX8 10 "LampShapes" "now" "LLampShapes$Stage;", .methodLink RX8 76 yX6_hasShape, .instanceMethod yX6_hasShape, .selects RX6 yX6_hasShape yX6_hasShape, .initialized RX6, .code yX6_hasShape cX6_hasShape 2 (some .boolean), .fieldLink RX6 9 "LampShapes$Stage" "shapes" "I", .constant RX8 62 (-1000000001), .methodLink RX8 63 yX8_finding, .instanceMethod yX8_finding, .selects RX8 yX8_finding yX8_finding, .initialized RX8, .code yX8_finding cX8_finding 3 (some .int), .fieldLink RX8 46 "LampShapes" "told" "[I", .methodLink RX8 106 yX1_isPlacing, .static yX1_isPlacing, .initialized RX1, .code yX1_isPlacing cX1_isPlacing 3 (some .boolean), .methodLink RX8 88 yX6_holdOf, .instanceMethod yX6_holdOf, .selects RX6 yX6_holdOf yX6_holdOf, .code yX6_holdOf cX6_holdOf 3 (some .int), .fieldLink RX6 25 "LampShapes$Stage" "heldShapes" "[I", .constant RX8 115 (-1000000005)] : List Cond) ++ wsX80 ++ wsX60)
set_option maxRecDepth 20000 in
theorem g_x_move_s_hasShape_76 : GoodIn w_x_move (wsV RX8 76 RX6 yX6_hasShape w_s_hasShape) := goodIn_r _ [2, 3, 4, 5, 6, 7, 33, 34, 35, 36, 37, 38, 39, 40, 41] rfl (by decide +kernel)
set_option maxRecDepth 20000 in
theorem g_x_move_f_beyond_63 : GoodIn w_x_move (wsV RX8 63 RX8 yX8_finding w_f_beyond) := goodIn_r _ [9, 10, 11, 12, 13, 8, 14, 25, 26, 27, 28, 29, 30, 31, 32] rfl (by decide +kernel)
set_option maxRecDepth 20000 in
theorem g_x_move_l_isPlacing_106 : GoodIn w_x_move (va_wsS RX8 106 yX1_isPlacing w_l_isPlacing) := goodIn_r _ [15, 16, 17, 18] rfl (by decide +kernel)
set_option maxRecDepth 20000 in
theorem g_x_move_s_holdOf_88 : GoodIn w_x_move (wsV RX8 88 RX6 yX6_holdOf w_s_holdOf) := goodIn_r _ [19, 20, 21, 5, 22, 23, 33, 34, 35, 36, 37, 38, 39, 40, 41] rfl (by decide +kernel)
set_option maxRecDepth 20000 in
theorem g_x_move_f_state_63 : GoodIn w_x_move (wsV RX8 63 RX8 yX8_finding w_f_state) := goodIn_r _ [9, 10, 11, 12, 13, 8, 14, 25, 26, 27, 28, 29, 30, 31, 32] rfl (by decide +kernel)
set_option maxHeartbeats 4000000 in
set_option maxRecDepth 100000 in
theorem x_move (l : Launch) (dC : Nat → ClassId) (dI : Nat → Nat → Nat) (ad : Nat → Nat) (h0 : Nat) (a : Int32) (b : Int32) (ah : Nat) (v1 : Value) (v2 : Value) (v3 : Value) (v4 : Value) (v5 : Value) (t0 : Nat) (v7 : Value) (tc : ClassId) (tf : Nat → Int32) (sh : Int32) (w1 : Value) (w2 : Value) (w3 : Value) (q3 : Nat) (q4 : Nat) (w6 : Value) (w7 : Value) (w8 : Value) (c3 : ClassId) (f3 : Nat → Int32) (c4 : ClassId) (f4 : Nat → Int32) (sz : Nat) (hsh : 0 ≤ sh.toInt ∧ sh.toInt ≤ 9) : Met l yX8_move w_x_move ({ frames := 1, cells := 0, slots := 0, locals := 22 } : Room) (va_Pc [.ref h0, .int a, .int b] (preM dC dI ad [(tc, .int), (c3, .int), (c4, .int)] [(h0, .inr (6, [.ref ah, v1, v2, v3, v4, v5, .ref t0, v7])), (t0, .inl (tc, 7, .inl tf)), (ah, .inr (4, [.int sh, w1, w2, w3, .ref q3, .ref q4, w6, w7, w8])), (q3, .inl (c3, 4, .inl f3)), (q4, .inl (c4, 4, .inl f4))] sz)) (va_Qi (fun (r : Int32) (_ : Unit) => True) (fun _ t => ∃ (tg : Nat → Int32), ∃ (g3 : Nat → Int32), ∃ (g4 : Nat → Int32), va_P (dC, dI) vwCl [(h0, .inr (6, [.ref ah, v1, v2, v3, v4, v5, .ref t0, v7])), (t0, .inl (tc, 7, .inl tg)), (ah, .inr (4, [.int sh, w1, w2, w3, .ref q3, .ref q4, w6, w7, w8])), (q3, .inl (c3, 4, .inl g3)), (q4, .inl (c4, 4, .inl g4))] t.heap ∧ va_K (dC, dI) vwCl [(tc, .int), (c3, .int), (c4, .int)] t ∧ va_D (va_A [(h0, .inr (6, [.ref ah, v1, v2, v3, v4, v5, .ref t0, v7])), (t0, .inl (tc, 7, .inl tf)), (ah, .inr (4, [.int sh, w1, w2, w3, .ref q3, .ref q4, w6, w7, w8])), (q3, .inl (c3, 4, .inl f3)), (q4, .inl (c4, 4, .inl f4))] sz) [(h0, .inr (6, [.ref ah, v1, v2, v3, v4, v5, .ref t0, v7])), (t0, .inl (tc, 7, .inl tg)), (ah, .inr (4, [.int sh, w1, w2, w3, .ref q3, .ref q4, w6, w7, w8])), (q3, .inl (c3, 4, .inl g3)), (q4, .inl (c4, 4, .inl g4))]) (va_A [(h0, .inr (6, [.ref ah, v1, v2, v3, v4, v5, .ref t0, v7])), (t0, .inl (tc, 7, .inl tf)), (ah, .inr (4, [.int sh, w1, w2, w3, .ref q3, .ref q4, w6, w7, w8])), (q3, .inl (c3, 4, .inl f3)), (q4, .inl (c4, 4, .inl f4))] sz)) 0 0 (va_A [(h0, .inr (6, [.ref ah, v1, v2, v3, v4, v5, .ref t0, v7])), (t0, .inl (tc, 7, .inl tf)), (ah, .inr (4, [.int sh, w1, w2, w3, .ref q3, .ref q4, w6, w7, w8])), (q3, .inl (c3, 4, .inl f3)), (q4, .inl (c4, 4, .inl f4))] sz) := by
  refine Met.ofW (cc := cX8_move) (maxL := 5) (ret := (some .int)) (by decide) rfl ?_
  intro p e s m args below meth c s₁ B hml hv
  obtain ⟨rfl, hsz, hP, hK, hD0, hev⟩ := hv
  have hx := B.exec
  have hb := B.bytes
  have hr := B.returns
  have hts := atoms_spec (ws := w_x_move) B.pre
  have hown : s.vm.findClass RX8 = some m.cls := findClass_of_methodNamed B.named
  have hlocks := B.notSynchronized
  have inX8 : ∀ w ∈ wsX80, w ∈ w_x_move := fun w h => List.mem_cons_of_mem _ (List.mem_append_left _ (List.mem_append_right _ h))
  have inX6 : ∀ w ∈ wsX60, w ∈ w_x_move := fun w h => List.mem_cons_of_mem _ (List.mem_append_right _ h)
  subst hsz
  have hD := hD0.self (sz := s.heap.size)
  generalize hAe : va_A [(h0, .inr (6, [.ref ah, v1, v2, v3, v4, v5, .ref t0, v7])), (t0, .inl (tc, 7, .inl tf)), (ah, .inr (4, [.int sh, w1, w2, w3, .ref q3, .ref q4, w6, w7, w8])), (q3, .inl (c3, 4, .inl f3)), (q4, .inl (c4, 4, .inl f4))] s.heap.size = A at hD ⊢
  have hA : ∀ q : Nat, s.heap.size ≤ q → A q := fun q h => by rw [← hAe]; exact Or.inr h
  have hS : va_S A s.heap s.heap [] := va_S.rf
  have hP : va_P (dC, dI) vwCl [(h0, .inr (6, [.ref ah, v1, v2, v3, v4, v5, .ref t0, v7])), (t0, .inl (tc, 7, .inl tf)), (ah, .inr (4, [.int sh, w1, w2, w3, .ref q3, .ref q4, w6, w7, w8])), (q3, .inl (c3, 4, .inl f3)), (q4, .inl (c4, 4, .inl f4))] s.heap := hP
  have hl := lv_entry ([.ref h0, .int a, .int b]) (n := 5) (Nat.le_of_ble_eq_true rfl)
  rw [lg_entry_eq]
  generalize (lg_sl ([.ref h0, .int a, .int b]) ++ List.replicate (5 - (lg_sl ([.ref h0, .int a, .int b])).length) Slot.unset).toArray = ls at hl ⊢
  have hl : lv_has ls 5 [(0, .ref h0), (1, .int a), (2, .int b)] := hl
  refine lv_aload_n hx hb dX8_move_0 rfl (lv_at hl 0 rfl) ?_
  refine va_get (D := (dC, dI)) (ci := 6) (v := .ref ah) (C := RX8) (T := TX8) (N := 8) hx hb hts inX8 hown hK hP 0 rfl rfl 0 (by decide) (hts _ (List.mem_of_getElem? (i := 1) rfl)) (fun _ h9 => h9) rfl dX8_move_1 ?_
  refine lv_iload_n hx hb dX8_move_4 rfl (lv_at hl 1 rfl) ?_
  have hPc := hP.sub (ws' := [(ah, .inr (4, [.int sh, w1, w2, w3, .ref q3, .ref q4, w6, w7, w8]))]) [2] rfl
  have hKc := hK.sub (tys' := []) [] rfl
  refine vp_callSi (W.runV (As := [.int a]) (rest := []) ⟨hx, hb, hml, hown, hts⟩ (s_hasShape l dC dI ad ah a sh w1 w2 w3 (.ref q3) (.ref q4) w6 w7 w8 ) (cwV 1 hts g_x_move_s_hasShape_76 rfl rfl rfl (by decide +kernel) ⟨(Nat.le_of_ble_eq_true rfl), (Nat.le_of_ble_eq_true rfl)⟩) ⟨preS_blind, va_recv hKc hPc (ci := 4) (q0 := 0) rfl rfl, fun U hU hW => ⟨rfl, preS_at hU hW hPc hKc hev⟩⟩ rfl rfl hl.1 rfl (lv_room (Nat.le_of_ble_eq_true rfl)) dX8_move_5 ⟨(Nat.le_of_ble_eq_true rfl), (Nat.le_of_ble_eq_true rfl)⟩) (fun r_1 hw => ?_)
  have hr_1 : (r_1.toInt = 1 ∧ 0 ≤ a.toInt ∧ a.toInt < sh.toInt) ∨ r_1.toInt = 0 := hw
  refine lv_if_eq (tgt := 18) hx hb dX8_move_8 (by decide) (fun c_2 => ?_) (fun c_2 => ?_)
  · skip
    have tc_2 : r_1.toInt = 0 := (fa_eq _ _).mp c_2
    refine lv_aload_n hx hb dX8_move_18 rfl (lv_at hl 0 rfl) ?_
    refine lv_ldc hx hb hown (hts _ (List.mem_of_getElem? (i := 8) rfl)) dX8_move_19 ?_
    have hPc := hP.sub (ws' := [(h0, .inr (6, [.ref ah, v1, v2, v3, v4, v5, .ref t0, v7])), (t0, .inl (tc, 7, .inl tf))]) [0, 1] rfl
    have hKc := hK.sub (tys' := [(tc, .int)]) [0] rfl
    have hDc := hD.sub (ws' := [(h0, .inr (6, [.ref ah, v1, v2, v3, v4, v5, .ref t0, v7])), (t0, .inl (tc, 7, .inl tf))]) [0, 1] (by decide) rfl
    have hFc := va_free (wc := [(h0, .inr (6, [.ref ah, v1, v2, v3, v4, v5, .ref t0, v7])), (t0, .inl (tc, 7, .inl tf))]) hD hS hA [0, 1] rfl
    refine va_calli (va_runV (As := [.int (-1000000001)]) (rest := []) ⟨hx, hb, hml, hown, hts⟩ (f_beyond l dC dI ad h0 (.ref ah) v1 v2 v3 v4 v5 t0 v7 tc tf s.heap.size ) (cwV 1 hts g_x_move_f_beyond_63 rfl rfl rfl (by decide +kernel) ⟨(Nat.le_of_ble_eq_true rfl), (Nat.le_of_ble_eq_true rfl)⟩) ⟨preM_blind, va_recv hKc hPc (ci := 6) (q0 := 0) rfl rfl, fun U hU hW => ⟨rfl, preM_at hU hW hPc hKc hDc hev⟩⟩ rfl rfl hl.1 rfl (lv_room (Nat.le_of_ble_eq_true rfl)) dX8_move_21 ⟨(Nat.le_of_ble_eq_true rfl), (Nat.le_of_ble_eq_true rfl)⟩) hS (fun q _ h => hFc q h) hFc (fun r_3 u t H1 locs ht hvm hw hB hz1 hk1 hS => ?_)
    obtain ⟨tg_4, hP1, hK1, hD1⟩ := hB
    rw [ht] at hP1
    have hK1 := va_K.moved hvm.symm hK1
    obtain ⟨hP, hD⟩ := va_join (wr := [(ah, .inr (4, [.int sh, w1, w2, w3, .ref q3, .ref q4, w6, w7, w8])), (q3, .inl (c3, 4, .inl f3)), (q4, .inl (c4, 4, .inl f4))]) (w1 := [(h0, .inr (6, [.ref ah, v1, v2, v3, v4, v5, .ref t0, v7])), (t0, .inl (tc, 7, .inl tg_4))]) hP hD [0, 1] [2, 3, 4] rfl rfl (by decide) (by decide) hk1 hFc hP1 hD1
    generalize H1 = H at hP hS ⊢
    have hP : va_P (dC, dI) vwCl [(ah, .inr (4, [.int sh, w1, w2, w3, .ref q3, .ref q4, w6, w7, w8])), (q3, .inl (c3, 4, .inl f3)), (q4, .inl (c4, 4, .inl f4)), (h0, .inr (6, [.ref ah, v1, v2, v3, v4, v5, .ref t0, v7])), (t0, .inl (tc, 7, .inl tg_4))] H := hP
    have hD : va_D A [(ah, .inr (4, [.int sh, w1, w2, w3, .ref q3, .ref q4, w6, w7, w8])), (q3, .inl (c3, 4, .inl f3)), (q4, .inl (c4, 4, .inl f4)), (h0, .inr (6, [.ref ah, v1, v2, v3, v4, v5, .ref t0, v7])), (t0, .inl (tc, 7, .inl tg_4))] := hD
    subst hw
    have hP9 := hP.sub (ws' := [(h0, .inr (6, [.ref ah, v1, v2, v3, v4, v5, .ref t0, v7])), (t0, .inl (tc, 7, .inl tg_4)), (ah, .inr (4, [.int sh, w1, w2, w3, .ref q3, .ref q4, w6, w7, w8])), (q3, .inl (c3, 4, .inl f3)), (q4, .inl (c4, 4, .inl f4))]) [3, 4, 0, 1, 2] rfl
    have hD9 := hD.sub (ws' := [(h0, .inr (6, [.ref ah, v1, v2, v3, v4, v5, .ref t0, v7])), (t0, .inl (tc, 7, .inl tg_4)), (ah, .inr (4, [.int sh, w1, w2, w3, .ref q3, .ref q4, w6, w7, w8])), (q3, .inl (c3, 4, .inl f3)), (q4, .inl (c4, 4, .inl f4))]) [3, 4, 0, 1, 2] (by decide) rfl
    have hK9 := hK.sub (tys' := [(tc, .int), (c3, .int), (c4, .int)]) [0, 1, 2] rfl
    exact W.iret (v := ((-1000000001) : Int32)) hx hb hr (fun t ht hW => ⟨⟨((-1000000001) : Int32), (), rfl, trivial, tg_4, f3, f4, by rw [ht]; exact hP9, va_K.moved hW.alike hK9, hD9⟩, hS.F ht⟩) hS.2.2 dX8_move_24
  · skip
    have tc_2 : ¬ r_1.toInt = 0 := fun h => c_2 ((fa_eq _ _).mpr h)
    refine lv_iload_n hx hb dX8_move_11 rfl (lv_at hl 2 rfl) ?_
    have hPc := hP.sub (ws' := []) [] rfl
    have hKc := hK.sub (tys' := []) [] rfl
    refine vp_callSi (W.runS (As := [.int b]) (rest := []) ⟨hx, hb, hml, hown, hts⟩ (l_isPlacing l dC dI ad b ) (va_cwS 1 hts g_x_move_l_isPlacing_106 rfl rfl rfl (by decide +kernel) ⟨(Nat.le_of_ble_eq_true rfl), (Nat.le_of_ble_eq_true rfl)⟩) ⟨preS_blind, fun U hU hW => ⟨rfl, preS_at hU hW hPc hKc hev⟩⟩ rfl rfl hl.1 rfl (lv_room (Nat.le_of_ble_eq_true rfl)) dX8_move_12 ⟨(Nat.le_of_ble_eq_true rfl), (Nat.le_of_ble_eq_true rfl)⟩) (fun r_5 hw => ?_)
    refine lv_if_ne (tgt := 25) hx hb dX8_move_15 (by decide) (fun c_6 => ?_) (fun c_6 => ?_)
    · skip
      have tc_6 : ¬ r_5.toInt = 0 := fun h => c_6 ((fa_eq _ _).mpr h)
      refine lv_aload_n hx hb dX8_move_25 rfl (lv_at hl 0 rfl) ?_
      refine va_get (D := (dC, dI)) (ci := 6) (v := .ref ah) (C := RX8) (T := TX8) (N := 8) hx hb hts inX8 hown hK hP 0 rfl rfl 0 (by decide) (hts _ (List.mem_of_getElem? (i := 1) rfl)) (fun _ h9 => h9) rfl dX8_move_26 ?_
      refine lv_iload_n hx hb dX8_move_29 rfl (lv_at hl 1 rfl) ?_
      have hPc := hP.sub (ws' := [(ah, .inr (4, [.int sh, w1, w2, w3, .ref q3, .ref q4, w6, w7, w8])), (q3, .inl (c3, 4, .inl f3))]) [2, 3] rfl
      have hKc := hK.sub (tys' := [(c3, .int)]) [1] rfl
      refine vp_callSi (W.runV (As := [.int a]) (rest := []) ⟨hx, hb, hml, hown, hts⟩ (s_holdOf l dC dI ad ah a (.int sh) w1 w2 w3 q3 (.ref q4) w6 w7 w8 c3 f3 ) (cwV 1 hts g_x_move_s_holdOf_88 rfl rfl rfl (by decide +kernel) ⟨(Nat.le_of_ble_eq_true rfl), (Nat.le_of_ble_eq_true rfl)⟩) ⟨preS_blind, va_recv hKc hPc (ci := 4) (q0 := 0) rfl rfl, fun U hU hW => ⟨rfl, preS_at hU hW hPc hKc hev⟩⟩ rfl rfl hl.1 rfl (lv_room (Nat.le_of_ble_eq_true rfl)) dX8_move_30 ⟨(Nat.le_of_ble_eq_true rfl), (Nat.le_of_ble_eq_true rfl)⟩) (fun r_7 hw => ?_)
      have hr_7 : (-1) ≤ r_7.toInt ∧ r_7.toInt ≤ 3 := hw
      refine lv_istore_n (lv' := [(3, .int r_7), (0, .ref h0), (1, .int a), (2, .int b)]) hx hb dX8_move_33 rfl hl (by decide) rfl (fun ls hl => ?_)
      refine lv_iload_n hx hb dX8_move_34 rfl (lv_at hl 0 rfl) ?_
      refine lv_if_ge (tgt := 45) hx hb dX8_move_35 (by decide) (fun c_8 => ?_) (fun c_8 => ?_)
      · skip
        have tc_8 : 0 ≤ r_7.toInt := (fa_le _ _).mp c_8
        refine lv_aload_n hx hb dX8_move_45 rfl (lv_at hl 1 rfl) ?_
        refine va_get (D := (dC, dI)) (ci := 6) (v := .ref ah) (C := RX8) (T := TX8) (N := 8) hx hb hts inX8 hown hK hP 0 rfl rfl 0 (by decide) (hts _ (List.mem_of_getElem? (i := 1) rfl)) (fun _ h9 => h9) rfl dX8_move_46 ?_
        refine va_getN (D := (dC, dI)) (ci := 4) (v := .ref q4) (C := RX6) (T := TX6) (N := 9) hx hb hts inX6 hown hK hP 2 rfl rfl 5 (by decide) (ev_nest hev 6 rfl) (fun _ h9 => h9) rfl dX8_move_49 ?_
        refine lv_iload_n hx hb dX8_move_52 rfl (lv_at hl 0 rfl) ?_
        refine va_iald hx hb hK hP 4 2 rfl rfl (vp_in_iff.mpr ⟨by omega, by omega⟩) dX8_move_53 ?_
        refine lv_topi (fun n_9 en_9 => ?_)
        clear en_9
        refine lv_istore (lv' := [(4, .int n_9), (3, .int r_7), (0, .ref h0), (1, .int a), (2, .int b)]) hx hb dX8_move_54 hl (by decide) rfl (fun ls hl => ?_)
        refine lv_aload_n hx hb dX8_move_56 rfl (lv_at hl 2 rfl) ?_
        refine va_get (D := (dC, dI)) (ci := 6) (v := .ref ah) (C := RX8) (T := TX8) (N := 8) hx hb hts inX8 hown hK hP 0 rfl rfl 0 (by decide) (hts _ (List.mem_of_getElem? (i := 1) rfl)) (fun _ h9 => h9) rfl dX8_move_57 ?_
        refine va_getN (D := (dC, dI)) (ci := 4) (v := .ref q4) (C := RX6) (T := TX6) (N := 9) hx hb hts inX6 hown hK hP 2 rfl rfl 5 (by decide) (ev_nest hev 6 rfl) (fun _ h9 => h9) rfl dX8_move_60 ?_
        refine lv_iload_n hx hb dX8_move_63 rfl (lv_at hl 1 rfl) ?_
        refine lv_iload_n hx hb dX8_move_64 rfl (lv_at hl 4 rfl) ?_
        refine va_iast hx hb hK hP hD hS 4 2 rfl rfl (vp_in_iff.mpr ⟨by omega, by omega⟩) dX8_move_65 (fun H locs hP hD hS => ?_)
        have hP : va_P (dC, dI) vwCl [(h0, .inr (6, [.ref ah, v1, v2, v3, v4, v5, .ref t0, v7])), (t0, .inl (tc, 7, .inl tf)), (ah, .inr (4, [.int sh, w1, w2, w3, .ref q3, .ref q4, w6, w7, w8])), (q3, .inl (c3, 4, .inl f3)), (q4, .inl (c4, 4, .inl (upd f4 r_7.toNatClampNeg b)))] H := hP
        have hD : va_D A [(h0, .inr (6, [.ref ah, v1, v2, v3, v4, v5, .ref t0, v7])), (t0, .inl (tc, 7, .inl tf)), (ah, .inr (4, [.int sh, w1, w2, w3, .ref q3, .ref q4, w6, w7, w8])), (q3, .inl (c3, 4, .inl f3)), (q4, .inl (c4, 4, .inl (upd f4 r_7.toNatClampNeg b)))] := hD
        refine lv_iload hx hb dX8_move_66 (lv_at hl 0 rfl) ?_
        have hP9 := hP.sub (ws' := [(h0, .inr (6, [.ref ah, v1, v2, v3, v4, v5, .ref t0, v7])), (t0, .inl (tc, 7, .inl tf)), (ah, .inr (4, [.int sh, w1, w2, w3, .ref q3, .ref q4, w6, w7, w8])), (q3, .inl (c3, 4, .inl f3)), (q4, .inl (c4, 4, .inl (upd f4 r_7.toNatClampNeg b)))]) [0, 1, 2, 3, 4] rfl
        have hD9 := hD.sub (ws' := [(h0, .inr (6, [.ref ah, v1, v2, v3, v4, v5, .ref t0, v7])), (t0, .inl (tc, 7, .inl tf)), (ah, .inr (4, [.int sh, w1, w2, w3, .ref q3, .ref q4, w6, w7, w8])), (q3, .inl (c3, 4, .inl f3)), (q4, .inl (c4, 4, .inl (upd f4 r_7.toNatClampNeg b)))]) [0, 1, 2, 3, 4] (by decide) rfl
        have hK9 := hK.sub (tys' := [(tc, .int), (c3, .int), (c4, .int)]) [0, 1, 2] rfl
        exact W.iret (v := n_9) hx hb hr (fun t ht hW => ⟨⟨n_9, (), rfl, trivial, tf, f3, upd f4 r_7.toNatClampNeg b, by rw [ht]; exact hP9, va_K.moved hW.alike hK9, hD9⟩, hS.F ht⟩) hS.2.2 dX8_move_68
      · skip
        have tc_8 : ¬ 0 ≤ r_7.toInt := fun h => c_8 ((fa_le _ _).mpr h)
        refine lv_aload_n hx hb dX8_move_38 rfl (lv_at hl 1 rfl) ?_
        refine lv_ldc hx hb hown (hts _ (List.mem_of_getElem? (i := 24) rfl)) dX8_move_39 ?_
        have hPc := hP.sub (ws' := [(h0, .inr (6, [.ref ah, v1, v2, v3, v4, v5, .ref t0, v7])), (t0, .inl (tc, 7, .inl tf))]) [0, 1] rfl
        have hKc := hK.sub (tys' := [(tc, .int)]) [0] rfl
        have hDc := hD.sub (ws' := [(h0, .inr (6, [.ref ah, v1, v2, v3, v4, v5, .ref t0, v7])), (t0, .inl (tc, 7, .inl tf))]) [0, 1] (by decide) rfl
        have hFc := va_free (wc := [(h0, .inr (6, [.ref ah, v1, v2, v3, v4, v5, .ref t0, v7])), (t0, .inl (tc, 7, .inl tf))]) hD hS hA [0, 1] rfl
        refine va_calli (va_runV (As := [.int (-1000000005)]) (rest := []) ⟨hx, hb, hml, hown, hts⟩ (f_state l dC dI ad h0 (.ref ah) v1 v2 v3 v4 v5 t0 v7 tc tf s.heap.size ) (cwV 1 hts g_x_move_f_state_63 rfl rfl rfl (by decide +kernel) ⟨(Nat.le_of_ble_eq_true rfl), (Nat.le_of_ble_eq_true rfl)⟩) ⟨preM_blind, va_recv hKc hPc (ci := 6) (q0 := 0) rfl rfl, fun U hU hW => ⟨rfl, preM_at hU hW hPc hKc hDc hev⟩⟩ rfl rfl hl.1 rfl (lv_room (Nat.le_of_ble_eq_true rfl)) dX8_move_41 ⟨(Nat.le_of_ble_eq_true rfl), (Nat.le_of_ble_eq_true rfl)⟩) hS (fun q _ h => hFc q h) hFc (fun r_10 u t H1 locs ht hvm hw hB hz1 hk1 hS => ?_)
        obtain ⟨tg_11, hP1, hK1, hD1⟩ := hB
        rw [ht] at hP1
        have hK1 := va_K.moved hvm.symm hK1
        obtain ⟨hP, hD⟩ := va_join (wr := [(ah, .inr (4, [.int sh, w1, w2, w3, .ref q3, .ref q4, w6, w7, w8])), (q3, .inl (c3, 4, .inl f3)), (q4, .inl (c4, 4, .inl f4))]) (w1 := [(h0, .inr (6, [.ref ah, v1, v2, v3, v4, v5, .ref t0, v7])), (t0, .inl (tc, 7, .inl tg_11))]) hP hD [0, 1] [2, 3, 4] rfl rfl (by decide) (by decide) hk1 hFc hP1 hD1
        generalize H1 = H at hP hS ⊢
        have hP : va_P (dC, dI) vwCl [(ah, .inr (4, [.int sh, w1, w2, w3, .ref q3, .ref q4, w6, w7, w8])), (q3, .inl (c3, 4, .inl f3)), (q4, .inl (c4, 4, .inl f4)), (h0, .inr (6, [.ref ah, v1, v2, v3, v4, v5, .ref t0, v7])), (t0, .inl (tc, 7, .inl tg_11))] H := hP
        have hD : va_D A [(ah, .inr (4, [.int sh, w1, w2, w3, .ref q3, .ref q4, w6, w7, w8])), (q3, .inl (c3, 4, .inl f3)), (q4, .inl (c4, 4, .inl f4)), (h0, .inr (6, [.ref ah, v1, v2, v3, v4, v5, .ref t0, v7])), (t0, .inl (tc, 7, .inl tg_11))] := hD
        subst hw
        have hP9 := hP.sub (ws' := [(h0, .inr (6, [.ref ah, v1, v2, v3, v4, v5, .ref t0, v7])), (t0, .inl (tc, 7, .inl tg_11)), (ah, .inr (4, [.int sh, w1, w2, w3, .ref q3, .ref q4, w6, w7, w8])), (q3, .inl (c3, 4, .inl f3)), (q4, .inl (c4, 4, .inl f4))]) [3, 4, 0, 1, 2] rfl
        have hD9 := hD.sub (ws' := [(h0, .inr (6, [.ref ah, v1, v2, v3, v4, v5, .ref t0, v7])), (t0, .inl (tc, 7, .inl tg_11)), (ah, .inr (4, [.int sh, w1, w2, w3, .ref q3, .ref q4, w6, w7, w8])), (q3, .inl (c3, 4, .inl f3)), (q4, .inl (c4, 4, .inl f4))]) [3, 4, 0, 1, 2] (by decide) rfl
        have hK9 := hK.sub (tys' := [(tc, .int), (c3, .int), (c4, .int)]) [0, 1, 2] rfl
        exact W.iret (v := ((-1000000005) : Int32)) hx hb hr (fun t ht hW => ⟨⟨((-1000000005) : Int32), (), rfl, trivial, tg_11, f3, f4, by rw [ht]; exact hP9, va_K.moved hW.alike hK9, hD9⟩, hS.F ht⟩) hS.2.2 dX8_move_44
    · skip
      have tc_6 : r_5.toInt = 0 := (fa_eq _ _).mp c_6
      refine lv_aload_n hx hb dX8_move_18 rfl (lv_at hl 0 rfl) ?_
      refine lv_ldc hx hb hown (hts _ (List.mem_of_getElem? (i := 8) rfl)) dX8_move_19 ?_
      have hPc := hP.sub (ws' := [(h0, .inr (6, [.ref ah, v1, v2, v3, v4, v5, .ref t0, v7])), (t0, .inl (tc, 7, .inl tf))]) [0, 1] rfl
      have hKc := hK.sub (tys' := [(tc, .int)]) [0] rfl
      have hDc := hD.sub (ws' := [(h0, .inr (6, [.ref ah, v1, v2, v3, v4, v5, .ref t0, v7])), (t0, .inl (tc, 7, .inl tf))]) [0, 1] (by decide) rfl
      have hFc := va_free (wc := [(h0, .inr (6, [.ref ah, v1, v2, v3, v4, v5, .ref t0, v7])), (t0, .inl (tc, 7, .inl tf))]) hD hS hA [0, 1] rfl
      refine va_calli (va_runV (As := [.int (-1000000001)]) (rest := []) ⟨hx, hb, hml, hown, hts⟩ (f_beyond l dC dI ad h0 (.ref ah) v1 v2 v3 v4 v5 t0 v7 tc tf s.heap.size ) (cwV 1 hts g_x_move_f_beyond_63 rfl rfl rfl (by decide +kernel) ⟨(Nat.le_of_ble_eq_true rfl), (Nat.le_of_ble_eq_true rfl)⟩) ⟨preM_blind, va_recv hKc hPc (ci := 6) (q0 := 0) rfl rfl, fun U hU hW => ⟨rfl, preM_at hU hW hPc hKc hDc hev⟩⟩ rfl rfl hl.1 rfl (lv_room (Nat.le_of_ble_eq_true rfl)) dX8_move_21 ⟨(Nat.le_of_ble_eq_true rfl), (Nat.le_of_ble_eq_true rfl)⟩) hS (fun q _ h => hFc q h) hFc (fun r_12 u t H1 locs ht hvm hw hB hz1 hk1 hS => ?_)
      obtain ⟨tg_13, hP1, hK1, hD1⟩ := hB
      rw [ht] at hP1
      have hK1 := va_K.moved hvm.symm hK1
      obtain ⟨hP, hD⟩ := va_join (wr := [(ah, .inr (4, [.int sh, w1, w2, w3, .ref q3, .ref q4, w6, w7, w8])), (q3, .inl (c3, 4, .inl f3)), (q4, .inl (c4, 4, .inl f4))]) (w1 := [(h0, .inr (6, [.ref ah, v1, v2, v3, v4, v5, .ref t0, v7])), (t0, .inl (tc, 7, .inl tg_13))]) hP hD [0, 1] [2, 3, 4] rfl rfl (by decide) (by decide) hk1 hFc hP1 hD1
      generalize H1 = H at hP hS ⊢
      have hP : va_P (dC, dI) vwCl [(ah, .inr (4, [.int sh, w1, w2, w3, .ref q3, .ref q4, w6, w7, w8])), (q3, .inl (c3, 4, .inl f3)), (q4, .inl (c4, 4, .inl f4)), (h0, .inr (6, [.ref ah, v1, v2, v3, v4, v5, .ref t0, v7])), (t0, .inl (tc, 7, .inl tg_13))] H := hP
      have hD : va_D A [(ah, .inr (4, [.int sh, w1, w2, w3, .ref q3, .ref q4, w6, w7, w8])), (q3, .inl (c3, 4, .inl f3)), (q4, .inl (c4, 4, .inl f4)), (h0, .inr (6, [.ref ah, v1, v2, v3, v4, v5, .ref t0, v7])), (t0, .inl (tc, 7, .inl tg_13))] := hD
      subst hw
      have hP9 := hP.sub (ws' := [(h0, .inr (6, [.ref ah, v1, v2, v3, v4, v5, .ref t0, v7])), (t0, .inl (tc, 7, .inl tg_13)), (ah, .inr (4, [.int sh, w1, w2, w3, .ref q3, .ref q4, w6, w7, w8])), (q3, .inl (c3, 4, .inl f3)), (q4, .inl (c4, 4, .inl f4))]) [3, 4, 0, 1, 2] rfl
      have hD9 := hD.sub (ws' := [(h0, .inr (6, [.ref ah, v1, v2, v3, v4, v5, .ref t0, v7])), (t0, .inl (tc, 7, .inl tg_13)), (ah, .inr (4, [.int sh, w1, w2, w3, .ref q3, .ref q4, w6, w7, w8])), (q3, .inl (c3, 4, .inl f3)), (q4, .inl (c4, 4, .inl f4))]) [3, 4, 0, 1, 2] (by decide) rfl
      have hK9 := hK.sub (tys' := [(tc, .int), (c3, .int), (c4, .int)]) [0, 1, 2] rfl
      exact W.iret (v := ((-1000000001) : Int32)) hx hb hr (fun t ht hW => ⟨⟨((-1000000001) : Int32), (), rfl, trivial, tg_13, f3, f4, by rw [ht]; exact hP9, va_K.moved hW.alike hK9, hD9⟩, hS.F ht⟩) hS.2.2 dX8_move_24

def w_x_drop : List Cond := .code yX8_drop cX8_drop 3 (some .int) :: (([.fieldLink RX8 10 "LampShapes" "now" "LLampShapes$Stage;", .methodLink RX8 76 yX6_hasShape, .instanceMethod yX6_hasShape, .selects RX6 yX6_hasShape yX6_hasShape, .initialized RX6, .code yX6_hasShape cX6_hasShape 2 (some .boolean), .fieldLink RX6 9 "LampShapes$Stage" "shapes" "I", .methodLink RX8 88 yX6_holdOf, .instanceMethod yX6_holdOf, .selects RX6 yX6_holdOf yX6_holdOf, .code yX6_holdOf cX6_holdOf 3 (some .int), .fieldLink RX6 25 "LampShapes$Stage" "heldShapes" "[I", .methodLink RX8 127 yX6_release, .instanceMethod yX6_release, .selects RX6 yX6_release yX6_release, .code yX6_release cX6_release 2 none, .methodLink RX6 70 yX6_take, .instanceMethod yX6_take, .selects RX6 yX6_take yX6_take, .code yX6_take cX6_take 4 none, .fieldLink RX6 28 "LampShapes$Stage" "heldPlacings" "[I", .constant RX8 115 (-1000000005), .methodLink RX8 63 yX8_finding, .instanceMethod yX8_finding, .selects RX8 yX8_finding yX8_finding, .initialized RX8, .code yX8_finding cX8_finding 3 (some .int), .constant RX8 62 (-1000000001), .fieldLink RX8 46 "LampShapes" "told" "[I"] : List Cond) ++ wsX80 ++ wsX60)
set_option maxRecDepth 20000 in
theorem g_x_drop_s_hasShape_76 : GoodIn w_x_drop (wsV RX8 76 RX6 yX6_hasShape w_s_hasShape) := goodIn_r _ [2, 3, 4, 5, 6, 7, 38, 39, 40, 41, 42, 43, 44, 45, 46] rfl (by decide +kernel)
set_option maxRecDepth 20000 in
theorem g_x_drop_s_holdOf_88 : GoodIn w_x_drop (wsV RX8 88 RX6 yX6_holdOf w_s_holdOf) := goodIn_r _ [8, 9, 10, 5, 11, 12, 38, 39, 40, 41, 42, 43, 44, 45, 46] rfl (by decide +kernel)
set_option maxRecDepth 20000 in
theorem g_x_drop_s_release_127 : GoodIn w_x_drop (wsV RX8 127 RX6 yX6_release w_s_release) := goodIn_r _ [13, 14, 15, 5, 16, 17, 18, 19, 5, 20, 12, 21, 38, 39, 40, 41, 42, 43, 44, 45, 46] rfl (by decide +kernel)
set_option maxRecDepth 20000 in
theorem g_x_drop_f_state_63 : GoodIn w_x_drop (wsV RX8 63 RX8 yX8_finding w_f_state) := goodIn_r _ [23, 24, 25, 26, 27, 28, 29, 30, 31, 32, 33, 34, 35, 36, 37] rfl (by decide +kernel)
set_option maxRecDepth 20000 in
theorem g_x_drop_f_beyond_63 : GoodIn w_x_drop (wsV RX8 63 RX8 yX8_finding w_f_beyond) := goodIn_r _ [23, 24, 25, 26, 27, 28, 29, 30, 31, 32, 33, 34, 35, 36, 37] rfl (by decide +kernel)
set_option maxHeartbeats 4000000 in
set_option maxRecDepth 100000 in
theorem x_drop (l : Launch) (dC : Nat → ClassId) (dI : Nat → Nat → Nat) (ad : Nat → Nat) (h0 : Nat) (a : Int32) (ah : Nat) (v1 : Value) (v2 : Value) (v3 : Value) (v4 : Value) (v5 : Value) (t0 : Nat) (v7 : Value) (tc : ClassId) (tf : Nat → Int32) (sh : Int32) (w1 : Value) (w2 : Value) (w3 : Value) (q3 : Nat) (q4 : Nat) (w6 : Value) (w7 : Value) (w8 : Value) (c3 : ClassId) (f3 : Nat → Int32) (c4 : ClassId) (f4 : Nat → Int32) (sz : Nat) (hsh : 0 ≤ sh.toInt ∧ sh.toInt ≤ 9) : Met l yX8_drop w_x_drop ({ frames := 2, cells := 0, slots := 0, locals := 44 } : Room) (va_Pc [.ref h0, .int a] (preM dC dI ad [(tc, .int), (c3, .int), (c4, .int)] [(h0, .inr (6, [.ref ah, v1, v2, v3, v4, v5, .ref t0, v7])), (t0, .inl (tc, 7, .inl tf)), (ah, .inr (4, [.int sh, w1, w2, w3, .ref q3, .ref q4, w6, w7, w8])), (q3, .inl (c3, 4, .inl f3)), (q4, .inl (c4, 4, .inl f4))] sz)) (va_Qi (fun (r : Int32) (_ : Unit) => True) (fun _ t => ∃ (tg : Nat → Int32), ∃ (g3 : Nat → Int32), ∃ (g4 : Nat → Int32), va_P (dC, dI) vwCl [(h0, .inr (6, [.ref ah, v1, v2, v3, v4, v5, .ref t0, v7])), (t0, .inl (tc, 7, .inl tg)), (ah, .inr (4, [.int sh, w1, w2, w3, .ref q3, .ref q4, w6, w7, w8])), (q3, .inl (c3, 4, .inl g3)), (q4, .inl (c4, 4, .inl g4))] t.heap ∧ va_K (dC, dI) vwCl [(tc, .int), (c3, .int), (c4, .int)] t ∧ va_D (va_A [(h0, .inr (6, [.ref ah, v1, v2, v3, v4, v5, .ref t0, v7])), (t0, .inl (tc, 7, .inl tf)), (ah, .inr (4, [.int sh, w1, w2, w3, .ref q3, .ref q4, w6, w7, w8])), (q3, .inl (c3, 4, .inl f3)), (q4, .inl (c4, 4, .inl f4))] sz) [(h0, .inr (6, [.ref ah, v1, v2, v3, v4, v5, .ref t0, v7])), (t0, .inl (tc, 7, .inl tg)), (ah, .inr (4, [.int sh, w1, w2, w3, .ref q3, .ref q4, w6, w7, w8])), (q3, .inl (c3, 4, .inl g3)), (q4, .inl (c4, 4, .inl g4))]) (va_A [(h0, .inr (6, [.ref ah, v1, v2, v3, v4, v5, .ref t0, v7])), (t0, .inl (tc, 7, .inl tf)), (ah, .inr (4, [.int sh, w1, w2, w3, .ref q3, .ref q4, w6, w7, w8])), (q3, .inl (c3, 4, .inl f3)), (q4, .inl (c4, 4, .inl f4))] sz)) 0 0 (va_A [(h0, .inr (6, [.ref ah, v1, v2, v3, v4, v5, .ref t0, v7])), (t0, .inl (tc, 7, .inl tf)), (ah, .inr (4, [.int sh, w1, w2, w3, .ref q3, .ref q4, w6, w7, w8])), (q3, .inl (c3, 4, .inl f3)), (q4, .inl (c4, 4, .inl f4))] sz) := by
  refine Met.ofW (cc := cX8_drop) (maxL := 3) (ret := (some .int)) (by decide) rfl ?_
  intro p e s m args below meth c s₁ B hml hv
  obtain ⟨rfl, hsz, hP, hK, hD0, hev⟩ := hv
  have hx := B.exec
  have hb := B.bytes
  have hr := B.returns
  have hts := atoms_spec (ws := w_x_drop) B.pre
  have hown : s.vm.findClass RX8 = some m.cls := findClass_of_methodNamed B.named
  have hlocks := B.notSynchronized
  have inX8 : ∀ w ∈ wsX80, w ∈ w_x_drop := fun w h => List.mem_cons_of_mem _ (List.mem_append_left _ (List.mem_append_right _ h))
  have inX6 : ∀ w ∈ wsX60, w ∈ w_x_drop := fun w h => List.mem_cons_of_mem _ (List.mem_append_right _ h)
  subst hsz
  have hD := hD0.self (sz := s.heap.size)
  generalize hAe : va_A [(h0, .inr (6, [.ref ah, v1, v2, v3, v4, v5, .ref t0, v7])), (t0, .inl (tc, 7, .inl tf)), (ah, .inr (4, [.int sh, w1, w2, w3, .ref q3, .ref q4, w6, w7, w8])), (q3, .inl (c3, 4, .inl f3)), (q4, .inl (c4, 4, .inl f4))] s.heap.size = A at hD ⊢
  have hA : ∀ q : Nat, s.heap.size ≤ q → A q := fun q h => by rw [← hAe]; exact Or.inr h
  have hS : va_S A s.heap s.heap [] := va_S.rf
  have hP : va_P (dC, dI) vwCl [(h0, .inr (6, [.ref ah, v1, v2, v3, v4, v5, .ref t0, v7])), (t0, .inl (tc, 7, .inl tf)), (ah, .inr (4, [.int sh, w1, w2, w3, .ref q3, .ref q4, w6, w7, w8])), (q3, .inl (c3, 4, .inl f3)), (q4, .inl (c4, 4, .inl f4))] s.heap := hP
  have hl := lv_entry ([.ref h0, .int a]) (n := 3) (Nat.le_of_ble_eq_true rfl)
  rw [lg_entry_eq]
  generalize (lg_sl ([.ref h0, .int a]) ++ List.replicate (3 - (lg_sl ([.ref h0, .int a])).length) Slot.unset).toArray = ls at hl ⊢
  have hl : lv_has ls 3 [(0, .ref h0), (1, .int a)] := hl
  refine lv_aload_n hx hb dX8_drop_0 rfl (lv_at hl 0 rfl) ?_
  refine va_get (D := (dC, dI)) (ci := 6) (v := .ref ah) (C := RX8) (T := TX8) (N := 8) hx hb hts inX8 hown hK hP 0 rfl rfl 0 (by decide) (hts _ (List.mem_of_getElem? (i := 1) rfl)) (fun _ h9 => h9) rfl dX8_drop_1 ?_
  refine lv_iload_n hx hb dX8_drop_4 rfl (lv_at hl 1 rfl) ?_
  have hPc := hP.sub (ws' := [(ah, .inr (4, [.int sh, w1, w2, w3, .ref q3, .ref q4, w6, w7, w8]))]) [2] rfl
  have hKc := hK.sub (tys' := []) [] rfl
  refine vp_callSi (W.runV (As := [.int a]) (rest := []) ⟨hx, hb, hml, hown, hts⟩ (s_hasShape l dC dI ad ah a sh w1 w2 w3 (.ref q3) (.ref q4) w6 w7 w8 ) (cwV 1 hts g_x_drop_s_hasShape_76 rfl rfl rfl (by decide +kernel) ⟨(Nat.le_of_ble_eq_true rfl), (Nat.le_of_ble_eq_true rfl)⟩) ⟨preS_blind, va_recv hKc hPc (ci := 4) (q0 := 0) rfl rfl, fun U hU hW => ⟨rfl, preS_at hU hW hPc hKc hev⟩⟩ rfl rfl hl.1 rfl (lv_room (Nat.le_of_ble_eq_true rfl)) dX8_drop_5 ⟨(Nat.le_of_ble_eq_true rfl), (Nat.le_of_ble_eq_true rfl)⟩) (fun r_1 hw => ?_)
  have hr_1 : (r_1.toInt = 1 ∧ 0 ≤ a.toInt ∧ a.toInt < sh.toInt) ∨ r_1.toInt = 0 := hw
  refine lv_if_ne (tgt := 18) hx hb dX8_drop_8 (by decide) (fun c_2 => ?_) (fun c_2 => ?_)
  · skip
    have tc_2 : ¬ r_1.toInt = 0 := fun h => c_2 ((fa_eq _ _).mpr h)
    refine lv_aload_n hx hb dX8_drop_18 rfl (lv_at hl 0 rfl) ?_
    refine va_get (D := (dC, dI)) (ci := 6) (v := .ref ah) (C := RX8) (T := TX8) (N := 8) hx hb hts inX8 hown hK hP 0 rfl rfl 0 (by decide) (hts _ (List.mem_of_getElem? (i := 1) rfl)) (fun _ h9 => h9) rfl dX8_drop_19 ?_
    refine lv_iload_n hx hb dX8_drop_22 rfl (lv_at hl 1 rfl) ?_
    have hPc := hP.sub (ws' := [(ah, .inr (4, [.int sh, w1, w2, w3, .ref q3, .ref q4, w6, w7, w8])), (q3, .inl (c3, 4, .inl f3))]) [2, 3] rfl
    have hKc := hK.sub (tys' := [(c3, .int)]) [1] rfl
    refine vp_callSi (W.runV (As := [.int a]) (rest := []) ⟨hx, hb, hml, hown, hts⟩ (s_holdOf l dC dI ad ah a (.int sh) w1 w2 w3 q3 (.ref q4) w6 w7 w8 c3 f3 ) (cwV 1 hts g_x_drop_s_holdOf_88 rfl rfl rfl (by decide +kernel) ⟨(Nat.le_of_ble_eq_true rfl), (Nat.le_of_ble_eq_true rfl)⟩) ⟨preS_blind, va_recv hKc hPc (ci := 4) (q0 := 0) rfl rfl, fun U hU hW => ⟨rfl, preS_at hU hW hPc hKc hev⟩⟩ rfl rfl hl.1 rfl (lv_room (Nat.le_of_ble_eq_true rfl)) dX8_drop_23 ⟨(Nat.le_of_ble_eq_true rfl), (Nat.le_of_ble_eq_true rfl)⟩) (fun r_3 hw => ?_)
    have hr_3 : (-1) ≤ r_3.toInt ∧ r_3.toInt ≤ 3 := hw
    refine lv_istore_n (lv' := [(2, .int r_3), (0, .ref h0), (1, .int a)]) hx hb dX8_drop_26 rfl hl (by decide) rfl (fun ls hl => ?_)
    refine lv_iload_n hx hb dX8_drop_27 rfl (lv_at hl 0 rfl) ?_
    refine lv_if_ge (tgt := 38) hx hb dX8_drop_28 (by decide) (fun c_4 => ?_) (fun c_4 => ?_)
    · skip
      have tc_4 : 0 ≤ r_3.toInt := (fa_le _ _).mp c_4
      refine lv_aload_n hx hb dX8_drop_38 rfl (lv_at hl 1 rfl) ?_
      refine va_get (D := (dC, dI)) (ci := 6) (v := .ref ah) (C := RX8) (T := TX8) (N := 8) hx hb hts inX8 hown hK hP 0 rfl rfl 0 (by decide) (hts _ (List.mem_of_getElem? (i := 1) rfl)) (fun _ h9 => h9) rfl dX8_drop_39 ?_
      refine lv_iload_n hx hb dX8_drop_42 rfl (lv_at hl 0 rfl) ?_
      have hPc := hP.sub (ws' := [(ah, .inr (4, [.int sh, w1, w2, w3, .ref q3, .ref q4, w6, w7, w8])), (q3, .inl (c3, 4, .inl f3)), (q4, .inl (c4, 4, .inl f4))]) [2, 3, 4] rfl
      have hKc := hK.sub (tys' := [(c3, .int), (c4, .int)]) [1, 2] rfl
      have hDc := hD.sub (ws' := [(ah, .inr (4, [.int sh, w1, w2, w3, .ref q3, .ref q4, w6, w7, w8])), (q3, .inl (c3, 4, .inl f3)), (q4, .inl (c4, 4, .inl f4))]) [2, 3, 4] (by decide) rfl
      have hFc := va_free (wc := [(ah, .inr (4, [.int sh, w1, w2, w3, .ref q3, .ref q4, w6, w7, w8])), (q3, .inl (c3, 4, .inl f3)), (q4, .inl (c4, 4, .inl f4))]) hD hS hA [2, 3, 4] rfl
      refine va_callv (va_runV (As := [.int r_3]) (rest := []) ⟨hx, hb, hml, hown, hts⟩ (s_release l dC dI ad ah r_3 (.int sh) w1 w2 w3 q3 q4 w6 w7 w8 c3 f3 c4 f4 s.heap.size (by first | omega | decide | (simp only [fa_lt, fa_le, fa_eq, and_true, true_and, and_false, false_and, not_true_eq_false, not_false_eq_true, li_0, li_1, li_2, li_3, li_4, li_5, li_6, li_7, li_8, li_9, li_10, li_12, li_15, li_16, li_20, li_30, li_34, li_38, li_40, li_63, li_64, li_65, li_78, li_120, li_1000, li_4000, li_10000, li_11077, li_255, li_65535, li_m1, li_m2, li_m1000000001, li_m1000000002, li_m1000000003, li_m1000000004, li_m1000000005, li_m1000000006, li_m1000000007, or_true, true_or, or_false, false_or, implies_true, true_implies, false_implies] <;> omega))) (cwV 1 hts g_x_drop_s_release_127 rfl rfl rfl (by decide +kernel) ⟨(Nat.le_of_ble_eq_true rfl), (Nat.le_of_ble_eq_true rfl)⟩) ⟨preM_blind, va_recv hKc hPc (ci := 4) (q0 := 0) rfl rfl, fun U hU hW => ⟨rfl, preM_at hU hW hPc hKc hDc hev⟩⟩ rfl rfl hl.1 rfl (lv_room (Nat.le_of_ble_eq_true rfl)) dX8_drop_43 ⟨(Nat.le_of_ble_eq_true rfl), (Nat.le_of_ble_eq_true rfl)⟩) hS (fun q _ h => hFc q h) hFc (fun u t H1 locs ht hvm hw hB hz1 hk1 hS => ?_)
      obtain ⟨g_6, g_7, hP1, hK1, hD1⟩ := hB
      rw [ht] at hP1
      have hK1 := va_K.moved hvm.symm hK1
      obtain ⟨hP, hD⟩ := va_join (wr := [(h0, .inr (6, [.ref ah, v1, v2, v3, v4, v5, .ref t0, v7])), (t0, .inl (tc, 7, .inl tf))]) (w1 := [(ah, .inr (4, [.int sh, w1, w2, w3, .ref q3, .ref q4, w6, w7, w8])), (q3, .inl (c3, 4, .inl g_6)), (q4, .inl (c4, 4, .inl g_7))]) hP hD [2, 3, 4] [0, 1] rfl rfl (by decide) (by decide) hk1 hFc hP1 hD1
      generalize H1 = H at hP hS ⊢
      have hP : va_P (dC, dI) vwCl [(h0, .inr (6, [.ref ah, v1, v2, v3, v4, v5, .ref t0, v7])), (t0, .inl (tc, 7, .inl tf)), (ah, .inr (4, [.int sh, w1, w2, w3, .ref q3, .ref q4, w6, w7, w8])), (q3, .inl (c3, 4, .inl g_6)), (q4, .inl (c4, 4, .inl g_7))] H := hP
      have hD : va_D A [(h0, .inr (6, [.ref ah, v1, v2, v3, v4, v5, .ref t0, v7])), (t0, .inl (tc, 7, .inl tf)), (ah, .inr (4, [.int sh, w1, w2, w3, .ref q3, .ref q4, w6, w7, w8])), (q3, .inl (c3, 4, .inl g_6)), (q4, .inl (c4, 4, .inl g_7))] := hD
      refine lv_iload_n hx hb dX8_drop_46 rfl (lv_at hl 0 rfl) ?_
      have hP9 := hP.sub (ws' := [(h0, .inr (6, [.ref ah, v1, v2, v3, v4, v5, .ref t0, v7])), (t0, .inl (tc, 7, .inl tf)), (ah, .inr (4, [.int sh, w1, w2, w3, .ref q3, .ref q4, w6, w7, w8])), (q3, .inl (c3, 4, .inl g_6)), (q4, .inl (c4, 4, .inl g_7))]) [0, 1, 2, 3, 4] rfl
      have hD9 := hD.sub (ws' := [(h0, .inr (6, [.ref ah, v1, v2, v3, v4, v5, .ref t0, v7])), (t0, .inl (tc, 7, .inl tf)), (ah, .inr (4, [.int sh, w1, w2, w3, .ref q3, .ref q4, w6, w7, w8])), (q3, .inl (c3, 4, .inl g_6)), (q4, .inl (c4, 4, .inl g_7))]) [0, 1, 2, 3, 4] (by decide) rfl
      have hK9 := hK.sub (tys' := [(tc, .int), (c3, .int), (c4, .int)]) [0, 1, 2] rfl
      exact W.iret (v := r_3) hx hb hr (fun t ht hW => ⟨⟨r_3, (), rfl, trivial, tf, g_6, g_7, by rw [ht]; exact hP9, va_K.moved hW.alike hK9, hD9⟩, hS.F ht⟩) hS.2.2 dX8_drop_47
    · skip
      have tc_4 : ¬ 0 ≤ r_3.toInt := fun h => c_4 ((fa_le _ _).mpr h)
      refine lv_aload_n hx hb dX8_drop_31 rfl (lv_at hl 1 rfl) ?_
      refine lv_ldc hx hb hown (hts _ (List.mem_of_getElem? (i := 22) rfl)) dX8_drop_32 ?_
      have hPc := hP.sub (ws' := [(h0, .inr (6, [.ref ah, v1, v2, v3, v4, v5, .ref t0, v7])), (t0, .inl (tc, 7, .inl tf))]) [0, 1] rfl
      have hKc := hK.sub (tys' := [(tc, .int)]) [0] rfl
      have hDc := hD.sub (ws' := [(h0, .inr (6, [.ref ah, v1, v2, v3, v4, v5, .ref t0, v7])), (t0, .inl (tc, 7, .inl tf))]) [0, 1] (by decide) rfl
      have hFc := va_free (wc := [(h0, .inr (6, [.ref ah, v1, v2, v3, v4, v5, .ref t0, v7])), (t0, .inl (tc, 7, .inl tf))]) hD hS hA [0, 1] rfl
      refine va_calli (va_runV (As := [.int (-1000000005)]) (rest := []) ⟨hx, hb, hml, hown, hts⟩ (f_state l dC dI ad h0 (.ref ah) v1 v2 v3 v4 v5 t0 v7 tc tf s.heap.size ) (cwV 1 hts g_x_drop_f_state_63 rfl rfl rfl (by decide +kernel) ⟨(Nat.le_of_ble_eq_true rfl), (Nat.le_of_ble_eq_true rfl)⟩) ⟨preM_blind, va_recv hKc hPc (ci := 6) (q0 := 0) rfl rfl, fun U hU hW => ⟨rfl, preM_at hU hW hPc hKc hDc hev⟩⟩ rfl rfl hl.1 rfl (lv_room (Nat.le_of_ble_eq_true rfl)) dX8_drop_34 ⟨(Nat.le_of_ble_eq_true rfl), (Nat.le_of_ble_eq_true rfl)⟩) hS (fun q _ h => hFc q h) hFc (fun r_8 u t H1 locs ht hvm hw hB hz1 hk1 hS => ?_)
      obtain ⟨tg_9, hP1, hK1, hD1⟩ := hB
      rw [ht] at hP1
      have hK1 := va_K.moved hvm.symm hK1
      obtain ⟨hP, hD⟩ := va_join (wr := [(ah, .inr (4, [.int sh, w1, w2, w3, .ref q3, .ref q4, w6, w7, w8])), (q3, .inl (c3, 4, .inl f3)), (q4, .inl (c4, 4, .inl f4))]) (w1 := [(h0, .inr (6, [.ref ah, v1, v2, v3, v4, v5, .ref t0, v7])), (t0, .inl (tc, 7, .inl tg_9))]) hP hD [0, 1] [2, 3, 4] rfl rfl (by decide) (by decide) hk1 hFc hP1 hD1
      generalize H1 = H at hP hS ⊢
      have hP : va_P (dC, dI) vwCl [(ah, .inr (4, [.int sh, w1, w2, w3, .ref q3, .ref q4, w6, w7, w8])), (q3, .inl (c3, 4, .inl f3)), (q4, .inl (c4, 4, .inl f4)), (h0, .inr (6, [.ref ah, v1, v2, v3, v4, v5, .ref t0, v7])), (t0, .inl (tc, 7, .inl tg_9))] H := hP
      have hD : va_D A [(ah, .inr (4, [.int sh, w1, w2, w3, .ref q3, .ref q4, w6, w7, w8])), (q3, .inl (c3, 4, .inl f3)), (q4, .inl (c4, 4, .inl f4)), (h0, .inr (6, [.ref ah, v1, v2, v3, v4, v5, .ref t0, v7])), (t0, .inl (tc, 7, .inl tg_9))] := hD
      subst hw
      have hP9 := hP.sub (ws' := [(h0, .inr (6, [.ref ah, v1, v2, v3, v4, v5, .ref t0, v7])), (t0, .inl (tc, 7, .inl tg_9)), (ah, .inr (4, [.int sh, w1, w2, w3, .ref q3, .ref q4, w6, w7, w8])), (q3, .inl (c3, 4, .inl f3)), (q4, .inl (c4, 4, .inl f4))]) [3, 4, 0, 1, 2] rfl
      have hD9 := hD.sub (ws' := [(h0, .inr (6, [.ref ah, v1, v2, v3, v4, v5, .ref t0, v7])), (t0, .inl (tc, 7, .inl tg_9)), (ah, .inr (4, [.int sh, w1, w2, w3, .ref q3, .ref q4, w6, w7, w8])), (q3, .inl (c3, 4, .inl f3)), (q4, .inl (c4, 4, .inl f4))]) [3, 4, 0, 1, 2] (by decide) rfl
      have hK9 := hK.sub (tys' := [(tc, .int), (c3, .int), (c4, .int)]) [0, 1, 2] rfl
      exact W.iret (v := ((-1000000005) : Int32)) hx hb hr (fun t ht hW => ⟨⟨((-1000000005) : Int32), (), rfl, trivial, tg_9, f3, f4, by rw [ht]; exact hP9, va_K.moved hW.alike hK9, hD9⟩, hS.F ht⟩) hS.2.2 dX8_drop_37
  · skip
    have tc_2 : r_1.toInt = 0 := (fa_eq _ _).mp c_2
    refine lv_aload_n hx hb dX8_drop_11 rfl (lv_at hl 0 rfl) ?_
    refine lv_ldc hx hb hown (hts _ (List.mem_of_getElem? (i := 28) rfl)) dX8_drop_12 ?_
    have hPc := hP.sub (ws' := [(h0, .inr (6, [.ref ah, v1, v2, v3, v4, v5, .ref t0, v7])), (t0, .inl (tc, 7, .inl tf))]) [0, 1] rfl
    have hKc := hK.sub (tys' := [(tc, .int)]) [0] rfl
    have hDc := hD.sub (ws' := [(h0, .inr (6, [.ref ah, v1, v2, v3, v4, v5, .ref t0, v7])), (t0, .inl (tc, 7, .inl tf))]) [0, 1] (by decide) rfl
    have hFc := va_free (wc := [(h0, .inr (6, [.ref ah, v1, v2, v3, v4, v5, .ref t0, v7])), (t0, .inl (tc, 7, .inl tf))]) hD hS hA [0, 1] rfl
    refine va_calli (va_runV (As := [.int (-1000000001)]) (rest := []) ⟨hx, hb, hml, hown, hts⟩ (f_beyond l dC dI ad h0 (.ref ah) v1 v2 v3 v4 v5 t0 v7 tc tf s.heap.size ) (cwV 1 hts g_x_drop_f_beyond_63 rfl rfl rfl (by decide +kernel) ⟨(Nat.le_of_ble_eq_true rfl), (Nat.le_of_ble_eq_true rfl)⟩) ⟨preM_blind, va_recv hKc hPc (ci := 6) (q0 := 0) rfl rfl, fun U hU hW => ⟨rfl, preM_at hU hW hPc hKc hDc hev⟩⟩ rfl rfl hl.1 rfl (lv_room (Nat.le_of_ble_eq_true rfl)) dX8_drop_14 ⟨(Nat.le_of_ble_eq_true rfl), (Nat.le_of_ble_eq_true rfl)⟩) hS (fun q _ h => hFc q h) hFc (fun r_10 u t H1 locs ht hvm hw hB hz1 hk1 hS => ?_)
    obtain ⟨tg_11, hP1, hK1, hD1⟩ := hB
    rw [ht] at hP1
    have hK1 := va_K.moved hvm.symm hK1
    obtain ⟨hP, hD⟩ := va_join (wr := [(ah, .inr (4, [.int sh, w1, w2, w3, .ref q3, .ref q4, w6, w7, w8])), (q3, .inl (c3, 4, .inl f3)), (q4, .inl (c4, 4, .inl f4))]) (w1 := [(h0, .inr (6, [.ref ah, v1, v2, v3, v4, v5, .ref t0, v7])), (t0, .inl (tc, 7, .inl tg_11))]) hP hD [0, 1] [2, 3, 4] rfl rfl (by decide) (by decide) hk1 hFc hP1 hD1
    generalize H1 = H at hP hS ⊢
    have hP : va_P (dC, dI) vwCl [(ah, .inr (4, [.int sh, w1, w2, w3, .ref q3, .ref q4, w6, w7, w8])), (q3, .inl (c3, 4, .inl f3)), (q4, .inl (c4, 4, .inl f4)), (h0, .inr (6, [.ref ah, v1, v2, v3, v4, v5, .ref t0, v7])), (t0, .inl (tc, 7, .inl tg_11))] H := hP
    have hD : va_D A [(ah, .inr (4, [.int sh, w1, w2, w3, .ref q3, .ref q4, w6, w7, w8])), (q3, .inl (c3, 4, .inl f3)), (q4, .inl (c4, 4, .inl f4)), (h0, .inr (6, [.ref ah, v1, v2, v3, v4, v5, .ref t0, v7])), (t0, .inl (tc, 7, .inl tg_11))] := hD
    subst hw
    have hP9 := hP.sub (ws' := [(h0, .inr (6, [.ref ah, v1, v2, v3, v4, v5, .ref t0, v7])), (t0, .inl (tc, 7, .inl tg_11)), (ah, .inr (4, [.int sh, w1, w2, w3, .ref q3, .ref q4, w6, w7, w8])), (q3, .inl (c3, 4, .inl f3)), (q4, .inl (c4, 4, .inl f4))]) [3, 4, 0, 1, 2] rfl
    have hD9 := hD.sub (ws' := [(h0, .inr (6, [.ref ah, v1, v2, v3, v4, v5, .ref t0, v7])), (t0, .inl (tc, 7, .inl tg_11)), (ah, .inr (4, [.int sh, w1, w2, w3, .ref q3, .ref q4, w6, w7, w8])), (q3, .inl (c3, 4, .inl f3)), (q4, .inl (c4, 4, .inl f4))]) [3, 4, 0, 1, 2] (by decide) rfl
    have hK9 := hK.sub (tys' := [(tc, .int), (c3, .int), (c4, .int)]) [0, 1, 2] rfl
    exact W.iret (v := ((-1000000001) : Int32)) hx hb hr (fun t ht hW => ⟨⟨((-1000000001) : Int32), (), rfl, trivial, tg_11, f3, f4, by rw [ht]; exact hP9, va_K.moved hW.alike hK9, hD9⟩, hS.F ht⟩) hS.2.2 dX8_drop_17

def w_x_held : List Cond := .code yX8_held cX8_held 3 (some .int) :: (([.constant RX8 62 (-1000000001), .methodLink RX8 63 yX8_finding, .instanceMethod yX8_finding, .selects RX8 yX8_finding yX8_finding, .initialized RX8, .code yX8_finding cX8_finding 3 (some .int), .fieldLink RX8 46 "LampShapes" "told" "[I", .fieldLink RX8 10 "LampShapes" "now" "LLampShapes$Stage;"] : List Cond) ++ wsX80 ++ wsX60)
set_option maxRecDepth 20000 in
theorem g_x_held_f_beyond_63 : GoodIn w_x_held (wsV RX8 63 RX8 yX8_finding w_f_beyond) := goodIn_r _ [2, 3, 4, 5, 6, 1, 7, 9, 10, 11, 12, 13, 14, 15, 16] rfl (by decide +kernel)
set_option maxHeartbeats 4000000 in
set_option maxRecDepth 100000 in
theorem x_held (l : Launch) (dC : Nat → ClassId) (dI : Nat → Nat → Nat) (ad : Nat → Nat) (h0 : Nat) (a : Int32) (b : Int32) (ah : Nat) (v1 : Value) (v2 : Value) (v3 : Value) (v4 : Value) (v5 : Value) (t0 : Nat) (v7 : Value) (tc : ClassId) (tf : Nat → Int32) (w0 : Value) (w1 : Value) (w2 : Value) (w3 : Value) (q3 : Nat) (q4 : Nat) (w6 : Value) (w7 : Value) (w8 : Value) (c3 : ClassId) (f3 : Nat → Int32) (c4 : ClassId) (f4 : Nat → Int32) (sz : Nat) : Met l yX8_held w_x_held ({ frames := 1, cells := 0, slots := 0, locals := 22 } : Room) (va_Pc [.ref h0, .int a, .int b] (preM dC dI ad [(tc, .int), (c3, .int), (c4, .int)] [(h0, .inr (6, [.ref ah, v1, v2, v3, v4, v5, .ref t0, v7])), (t0, .inl (tc, 7, .inl tf)), (ah, .inr (4, [w0, w1, w2, w3, .ref q3, .ref q4, w6, w7, w8])), (q3, .inl (c3, 4, .inl f3)), (q4, .inl (c4, 4, .inl f4))] sz)) (va_Qi (fun (r : Int32) (_ : Unit) => True) (fun _ t => ∃ (tg : Nat → Int32), va_P (dC, dI) vwCl [(h0, .inr (6, [.ref ah, v1, v2, v3, v4, v5, .ref t0, v7])), (t0, .inl (tc, 7, .inl tg)), (ah, .inr (4, [w0, w1, w2, w3, .ref q3, .ref q4, w6, w7, w8])), (q3, .inl (c3, 4, .inl f3)), (q4, .inl (c4, 4, .inl f4))] t.heap ∧ va_K (dC, dI) vwCl [(tc, .int), (c3, .int), (c4, .int)] t ∧ va_D (va_A [(h0, .inr (6, [.ref ah, v1, v2, v3, v4, v5, .ref t0, v7])), (t0, .inl (tc, 7, .inl tf)), (ah, .inr (4, [w0, w1, w2, w3, .ref q3, .ref q4, w6, w7, w8])), (q3, .inl (c3, 4, .inl f3)), (q4, .inl (c4, 4, .inl f4))] sz) [(h0, .inr (6, [.ref ah, v1, v2, v3, v4, v5, .ref t0, v7])), (t0, .inl (tc, 7, .inl tg)), (ah, .inr (4, [w0, w1, w2, w3, .ref q3, .ref q4, w6, w7, w8])), (q3, .inl (c3, 4, .inl f3)), (q4, .inl (c4, 4, .inl f4))]) (va_A [(h0, .inr (6, [.ref ah, v1, v2, v3, v4, v5, .ref t0, v7])), (t0, .inl (tc, 7, .inl tf)), (ah, .inr (4, [w0, w1, w2, w3, .ref q3, .ref q4, w6, w7, w8])), (q3, .inl (c3, 4, .inl f3)), (q4, .inl (c4, 4, .inl f4))] sz)) 0 0 (va_A [(h0, .inr (6, [.ref ah, v1, v2, v3, v4, v5, .ref t0, v7])), (t0, .inl (tc, 7, .inl tf)), (ah, .inr (4, [w0, w1, w2, w3, .ref q3, .ref q4, w6, w7, w8])), (q3, .inl (c3, 4, .inl f3)), (q4, .inl (c4, 4, .inl f4))] sz) := by
  refine Met.ofW (cc := cX8_held) (maxL := 3) (ret := (some .int)) (by decide) rfl ?_
  intro p e s m args below meth c s₁ B hml hv
  obtain ⟨rfl, hsz, hP, hK, hD0, hev⟩ := hv
  have hx := B.exec
  have hb := B.bytes
  have hr := B.returns
  have hts := atoms_spec (ws := w_x_held) B.pre
  have hown : s.vm.findClass RX8 = some m.cls := findClass_of_methodNamed B.named
  have hlocks := B.notSynchronized
  have inX8 : ∀ w ∈ wsX80, w ∈ w_x_held := fun w h => List.mem_cons_of_mem _ (List.mem_append_left _ (List.mem_append_right _ h))
  have inX6 : ∀ w ∈ wsX60, w ∈ w_x_held := fun w h => List.mem_cons_of_mem _ (List.mem_append_right _ h)
  subst hsz
  have hD := hD0.self (sz := s.heap.size)
  generalize hAe : va_A [(h0, .inr (6, [.ref ah, v1, v2, v3, v4, v5, .ref t0, v7])), (t0, .inl (tc, 7, .inl tf)), (ah, .inr (4, [w0, w1, w2, w3, .ref q3, .ref q4, w6, w7, w8])), (q3, .inl (c3, 4, .inl f3)), (q4, .inl (c4, 4, .inl f4))] s.heap.size = A at hD ⊢
  have hA : ∀ q : Nat, s.heap.size ≤ q → A q := fun q h => by rw [← hAe]; exact Or.inr h
  have hS : va_S A s.heap s.heap [] := va_S.rf
  have hP : va_P (dC, dI) vwCl [(h0, .inr (6, [.ref ah, v1, v2, v3, v4, v5, .ref t0, v7])), (t0, .inl (tc, 7, .inl tf)), (ah, .inr (4, [w0, w1, w2, w3, .ref q3, .ref q4, w6, w7, w8])), (q3, .inl (c3, 4, .inl f3)), (q4, .inl (c4, 4, .inl f4))] s.heap := hP
  have hl := lv_entry ([.ref h0, .int a, .int b]) (n := 3) (Nat.le_of_ble_eq_true rfl)
  rw [lg_entry_eq]
  generalize (lg_sl ([.ref h0, .int a, .int b]) ++ List.replicate (3 - (lg_sl ([.ref h0, .int a, .int b])).length) Slot.unset).toArray = ls at hl ⊢
  have hl : lv_has ls 3 [(0, .ref h0), (1, .int a), (2, .int b)] := hl
  refine lv_iload_n hx hb dX8_held_0 rfl (lv_at hl 1 rfl) ?_
  refine lv_if_lt (tgt := 18) hx hb dX8_held_1 (by decide) (fun c_1 => ?_) (fun c_1 => ?_)
  · skip
    have tc_1 : a.toInt < 0 := (fa_lt _ _).mp c_1
    refine lv_aload_n hx hb dX8_held_18 rfl (lv_at hl 0 rfl) ?_
    refine lv_ldc hx hb hown (hts _ (List.mem_of_getElem? (i := 1) rfl)) dX8_held_19 ?_
    have hPc := hP.sub (ws' := [(h0, .inr (6, [.ref ah, v1, v2, v3, v4, v5, .ref t0, v7])), (t0, .inl (tc, 7, .inl tf))]) [0, 1] rfl
    have hKc := hK.sub (tys' := [(tc, .int)]) [0] rfl
    have hDc := hD.sub (ws' := [(h0, .inr (6, [.ref ah, v1, v2, v3, v4, v5, .ref t0, v7])), (t0, .inl (tc, 7, .inl tf))]) [0, 1] (by decide) rfl
    have hFc := va_free (wc := [(h0, .inr (6, [.ref ah, v1, v2, v3, v4, v5, .ref t0, v7])), (t0, .inl (tc, 7, .inl tf))]) hD hS hA [0, 1] rfl
    refine va_calli (va_runV (As := [.int (-1000000001)]) (rest := []) ⟨hx, hb, hml, hown, hts⟩ (f_beyond l dC dI ad h0 (.ref ah) v1 v2 v3 v4 v5 t0 v7 tc tf s.heap.size ) (cwV 1 hts g_x_held_f_beyond_63 rfl rfl rfl (by decide +kernel) ⟨(Nat.le_of_ble_eq_true rfl), (Nat.le_of_ble_eq_true rfl)⟩) ⟨preM_blind, va_recv hKc hPc (ci := 6) (q0 := 0) rfl rfl, fun U hU hW => ⟨rfl, preM_at hU hW hPc hKc hDc hev⟩⟩ rfl rfl hl.1 rfl (lv_room (Nat.le_of_ble_eq_true rfl)) dX8_held_21 ⟨(Nat.le_of_ble_eq_true rfl), (Nat.le_of_ble_eq_true rfl)⟩) hS (fun q _ h => hFc q h) hFc (fun r_2 u t H1 locs ht hvm hw hB hz1 hk1 hS => ?_)
    obtain ⟨tg_3, hP1, hK1, hD1⟩ := hB
    rw [ht] at hP1
    have hK1 := va_K.moved hvm.symm hK1
    obtain ⟨hP, hD⟩ := va_join (wr := [(ah, .inr (4, [w0, w1, w2, w3, .ref q3, .ref q4, w6, w7, w8])), (q3, .inl (c3, 4, .inl f3)), (q4, .inl (c4, 4, .inl f4))]) (w1 := [(h0, .inr (6, [.ref ah, v1, v2, v3, v4, v5, .ref t0, v7])), (t0, .inl (tc, 7, .inl tg_3))]) hP hD [0, 1] [2, 3, 4] rfl rfl (by decide) (by decide) hk1 hFc hP1 hD1
    generalize H1 = H at hP hS ⊢
    have hP : va_P (dC, dI) vwCl [(ah, .inr (4, [w0, w1, w2, w3, .ref q3, .ref q4, w6, w7, w8])), (q3, .inl (c3, 4, .inl f3)), (q4, .inl (c4, 4, .inl f4)), (h0, .inr (6, [.ref ah, v1, v2, v3, v4, v5, .ref t0, v7])), (t0, .inl (tc, 7, .inl tg_3))] H := hP
    have hD : va_D A [(ah, .inr (4, [w0, w1, w2, w3, .ref q3, .ref q4, w6, w7, w8])), (q3, .inl (c3, 4, .inl f3)), (q4, .inl (c4, 4, .inl f4)), (h0, .inr (6, [.ref ah, v1, v2, v3, v4, v5, .ref t0, v7])), (t0, .inl (tc, 7, .inl tg_3))] := hD
    subst hw
    have hP9 := hP.sub (ws' := [(h0, .inr (6, [.ref ah, v1, v2, v3, v4, v5, .ref t0, v7])), (t0, .inl (tc, 7, .inl tg_3)), (ah, .inr (4, [w0, w1, w2, w3, .ref q3, .ref q4, w6, w7, w8])), (q3, .inl (c3, 4, .inl f3)), (q4, .inl (c4, 4, .inl f4))]) [3, 4, 0, 1, 2] rfl
    have hD9 := hD.sub (ws' := [(h0, .inr (6, [.ref ah, v1, v2, v3, v4, v5, .ref t0, v7])), (t0, .inl (tc, 7, .inl tg_3)), (ah, .inr (4, [w0, w1, w2, w3, .ref q3, .ref q4, w6, w7, w8])), (q3, .inl (c3, 4, .inl f3)), (q4, .inl (c4, 4, .inl f4))]) [3, 4, 0, 1, 2] (by decide) rfl
    have hK9 := hK.sub (tys' := [(tc, .int), (c3, .int), (c4, .int)]) [0, 1, 2] rfl
    exact W.iret (v := ((-1000000001) : Int32)) hx hb hr (fun t ht hW => ⟨⟨((-1000000001) : Int32), (), rfl, trivial, tg_3, by rw [ht]; exact hP9, va_K.moved hW.alike hK9, hD9⟩, hS.F ht⟩) hS.2.2 dX8_held_24
  · skip
    have tc_1 : ¬ a.toInt < 0 := fun h => c_1 ((fa_lt _ _).mpr h)
    refine lv_iload_n hx hb dX8_held_4 rfl (lv_at hl 1 rfl) ?_
    refine lv_iconst (v := 4) hx hb dX8_held_5 (by decide) ?_
    refine lv_icmp_ge (tgt := 18) hx hb dX8_held_6 (by decide) (fun c_4 => ?_) (fun c_4 => ?_)
    · skip
      have tc_4 : 4 ≤ a.toInt := (fa_le _ _).mp c_4
      refine lv_aload_n hx hb dX8_held_18 rfl (lv_at hl 0 rfl) ?_
      refine lv_ldc hx hb hown (hts _ (List.mem_of_getElem? (i := 1) rfl)) dX8_held_19 ?_
      have hPc := hP.sub (ws' := [(h0, .inr (6, [.ref ah, v1, v2, v3, v4, v5, .ref t0, v7])), (t0, .inl (tc, 7, .inl tf))]) [0, 1] rfl
      have hKc := hK.sub (tys' := [(tc, .int)]) [0] rfl
      have hDc := hD.sub (ws' := [(h0, .inr (6, [.ref ah, v1, v2, v3, v4, v5, .ref t0, v7])), (t0, .inl (tc, 7, .inl tf))]) [0, 1] (by decide) rfl
      have hFc := va_free (wc := [(h0, .inr (6, [.ref ah, v1, v2, v3, v4, v5, .ref t0, v7])), (t0, .inl (tc, 7, .inl tf))]) hD hS hA [0, 1] rfl
      refine va_calli (va_runV (As := [.int (-1000000001)]) (rest := []) ⟨hx, hb, hml, hown, hts⟩ (f_beyond l dC dI ad h0 (.ref ah) v1 v2 v3 v4 v5 t0 v7 tc tf s.heap.size ) (cwV 1 hts g_x_held_f_beyond_63 rfl rfl rfl (by decide +kernel) ⟨(Nat.le_of_ble_eq_true rfl), (Nat.le_of_ble_eq_true rfl)⟩) ⟨preM_blind, va_recv hKc hPc (ci := 6) (q0 := 0) rfl rfl, fun U hU hW => ⟨rfl, preM_at hU hW hPc hKc hDc hev⟩⟩ rfl rfl hl.1 rfl (lv_room (Nat.le_of_ble_eq_true rfl)) dX8_held_21 ⟨(Nat.le_of_ble_eq_true rfl), (Nat.le_of_ble_eq_true rfl)⟩) hS (fun q _ h => hFc q h) hFc (fun r_5 u t H1 locs ht hvm hw hB hz1 hk1 hS => ?_)
      obtain ⟨tg_6, hP1, hK1, hD1⟩ := hB
      rw [ht] at hP1
      have hK1 := va_K.moved hvm.symm hK1
      obtain ⟨hP, hD⟩ := va_join (wr := [(ah, .inr (4, [w0, w1, w2, w3, .ref q3, .ref q4, w6, w7, w8])), (q3, .inl (c3, 4, .inl f3)), (q4, .inl (c4, 4, .inl f4))]) (w1 := [(h0, .inr (6, [.ref ah, v1, v2, v3, v4, v5, .ref t0, v7])), (t0, .inl (tc, 7, .inl tg_6))]) hP hD [0, 1] [2, 3, 4] rfl rfl (by decide) (by decide) hk1 hFc hP1 hD1
      generalize H1 = H at hP hS ⊢
      have hP : va_P (dC, dI) vwCl [(ah, .inr (4, [w0, w1, w2, w3, .ref q3, .ref q4, w6, w7, w8])), (q3, .inl (c3, 4, .inl f3)), (q4, .inl (c4, 4, .inl f4)), (h0, .inr (6, [.ref ah, v1, v2, v3, v4, v5, .ref t0, v7])), (t0, .inl (tc, 7, .inl tg_6))] H := hP
      have hD : va_D A [(ah, .inr (4, [w0, w1, w2, w3, .ref q3, .ref q4, w6, w7, w8])), (q3, .inl (c3, 4, .inl f3)), (q4, .inl (c4, 4, .inl f4)), (h0, .inr (6, [.ref ah, v1, v2, v3, v4, v5, .ref t0, v7])), (t0, .inl (tc, 7, .inl tg_6))] := hD
      subst hw
      have hP9 := hP.sub (ws' := [(h0, .inr (6, [.ref ah, v1, v2, v3, v4, v5, .ref t0, v7])), (t0, .inl (tc, 7, .inl tg_6)), (ah, .inr (4, [w0, w1, w2, w3, .ref q3, .ref q4, w6, w7, w8])), (q3, .inl (c3, 4, .inl f3)), (q4, .inl (c4, 4, .inl f4))]) [3, 4, 0, 1, 2] rfl
      have hD9 := hD.sub (ws' := [(h0, .inr (6, [.ref ah, v1, v2, v3, v4, v5, .ref t0, v7])), (t0, .inl (tc, 7, .inl tg_6)), (ah, .inr (4, [w0, w1, w2, w3, .ref q3, .ref q4, w6, w7, w8])), (q3, .inl (c3, 4, .inl f3)), (q4, .inl (c4, 4, .inl f4))]) [3, 4, 0, 1, 2] (by decide) rfl
      have hK9 := hK.sub (tys' := [(tc, .int), (c3, .int), (c4, .int)]) [0, 1, 2] rfl
      exact W.iret (v := ((-1000000001) : Int32)) hx hb hr (fun t ht hW => ⟨⟨((-1000000001) : Int32), (), rfl, trivial, tg_6, by rw [ht]; exact hP9, va_K.moved hW.alike hK9, hD9⟩, hS.F ht⟩) hS.2.2 dX8_held_24
    · skip
      have tc_4 : ¬ 4 ≤ a.toInt := fun h => c_4 ((fa_le _ _).mpr h)
      refine lv_iload_n hx hb dX8_held_9 rfl (lv_at hl 2 rfl) ?_
      refine lv_if_lt (tgt := 18) hx hb dX8_held_10 (by decide) (fun c_7 => ?_) (fun c_7 => ?_)
      · skip
        have tc_7 : b.toInt < 0 := (fa_lt _ _).mp c_7
        refine lv_aload_n hx hb dX8_held_18 rfl (lv_at hl 0 rfl) ?_
        refine lv_ldc hx hb hown (hts _ (List.mem_of_getElem? (i := 1) rfl)) dX8_held_19 ?_
        have hPc := hP.sub (ws' := [(h0, .inr (6, [.ref ah, v1, v2, v3, v4, v5, .ref t0, v7])), (t0, .inl (tc, 7, .inl tf))]) [0, 1] rfl
        have hKc := hK.sub (tys' := [(tc, .int)]) [0] rfl
        have hDc := hD.sub (ws' := [(h0, .inr (6, [.ref ah, v1, v2, v3, v4, v5, .ref t0, v7])), (t0, .inl (tc, 7, .inl tf))]) [0, 1] (by decide) rfl
        have hFc := va_free (wc := [(h0, .inr (6, [.ref ah, v1, v2, v3, v4, v5, .ref t0, v7])), (t0, .inl (tc, 7, .inl tf))]) hD hS hA [0, 1] rfl
        refine va_calli (va_runV (As := [.int (-1000000001)]) (rest := []) ⟨hx, hb, hml, hown, hts⟩ (f_beyond l dC dI ad h0 (.ref ah) v1 v2 v3 v4 v5 t0 v7 tc tf s.heap.size ) (cwV 1 hts g_x_held_f_beyond_63 rfl rfl rfl (by decide +kernel) ⟨(Nat.le_of_ble_eq_true rfl), (Nat.le_of_ble_eq_true rfl)⟩) ⟨preM_blind, va_recv hKc hPc (ci := 6) (q0 := 0) rfl rfl, fun U hU hW => ⟨rfl, preM_at hU hW hPc hKc hDc hev⟩⟩ rfl rfl hl.1 rfl (lv_room (Nat.le_of_ble_eq_true rfl)) dX8_held_21 ⟨(Nat.le_of_ble_eq_true rfl), (Nat.le_of_ble_eq_true rfl)⟩) hS (fun q _ h => hFc q h) hFc (fun r_8 u t H1 locs ht hvm hw hB hz1 hk1 hS => ?_)
        obtain ⟨tg_9, hP1, hK1, hD1⟩ := hB
        rw [ht] at hP1
        have hK1 := va_K.moved hvm.symm hK1
        obtain ⟨hP, hD⟩ := va_join (wr := [(ah, .inr (4, [w0, w1, w2, w3, .ref q3, .ref q4, w6, w7, w8])), (q3, .inl (c3, 4, .inl f3)), (q4, .inl (c4, 4, .inl f4))]) (w1 := [(h0, .inr (6, [.ref ah, v1, v2, v3, v4, v5, .ref t0, v7])), (t0, .inl (tc, 7, .inl tg_9))]) hP hD [0, 1] [2, 3, 4] rfl rfl (by decide) (by decide) hk1 hFc hP1 hD1
        generalize H1 = H at hP hS ⊢
        have hP : va_P (dC, dI) vwCl [(ah, .inr (4, [w0, w1, w2, w3, .ref q3, .ref q4, w6, w7, w8])), (q3, .inl (c3, 4, .inl f3)), (q4, .inl (c4, 4, .inl f4)), (h0, .inr (6, [.ref ah, v1, v2, v3, v4, v5, .ref t0, v7])), (t0, .inl (tc, 7, .inl tg_9))] H := hP
        have hD : va_D A [(ah, .inr (4, [w0, w1, w2, w3, .ref q3, .ref q4, w6, w7, w8])), (q3, .inl (c3, 4, .inl f3)), (q4, .inl (c4, 4, .inl f4)), (h0, .inr (6, [.ref ah, v1, v2, v3, v4, v5, .ref t0, v7])), (t0, .inl (tc, 7, .inl tg_9))] := hD
        subst hw
        have hP9 := hP.sub (ws' := [(h0, .inr (6, [.ref ah, v1, v2, v3, v4, v5, .ref t0, v7])), (t0, .inl (tc, 7, .inl tg_9)), (ah, .inr (4, [w0, w1, w2, w3, .ref q3, .ref q4, w6, w7, w8])), (q3, .inl (c3, 4, .inl f3)), (q4, .inl (c4, 4, .inl f4))]) [3, 4, 0, 1, 2] rfl
        have hD9 := hD.sub (ws' := [(h0, .inr (6, [.ref ah, v1, v2, v3, v4, v5, .ref t0, v7])), (t0, .inl (tc, 7, .inl tg_9)), (ah, .inr (4, [w0, w1, w2, w3, .ref q3, .ref q4, w6, w7, w8])), (q3, .inl (c3, 4, .inl f3)), (q4, .inl (c4, 4, .inl f4))]) [3, 4, 0, 1, 2] (by decide) rfl
        have hK9 := hK.sub (tys' := [(tc, .int), (c3, .int), (c4, .int)]) [0, 1, 2] rfl
        exact W.iret (v := ((-1000000001) : Int32)) hx hb hr (fun t ht hW => ⟨⟨((-1000000001) : Int32), (), rfl, trivial, tg_9, by rw [ht]; exact hP9, va_K.moved hW.alike hK9, hD9⟩, hS.F ht⟩) hS.2.2 dX8_held_24
      · skip
        have tc_7 : ¬ b.toInt < 0 := fun h => c_7 ((fa_lt _ _).mpr h)
        refine lv_iload_n hx hb dX8_held_13 rfl (lv_at hl 2 rfl) ?_
        refine lv_iconst (v := 1) hx hb dX8_held_14 (by decide) ?_
        refine lv_icmp_le (tgt := 25) hx hb dX8_held_15 (by decide) (fun c_10 => ?_) (fun c_10 => ?_)
        · skip
          have tc_10 : b.toInt ≤ 1 := (fa_le _ _).mp c_10
          refine lv_iload_n hx hb dX8_held_25 rfl (lv_at hl 2 rfl) ?_
          refine lv_if_ne (tgt := 41) hx hb dX8_held_26 (by decide) (fun c_11 => ?_) (fun c_11 => ?_)
          · skip
            have tc_11 : ¬ b.toInt = 0 := fun h => c_11 ((fa_eq _ _).mpr h)
            refine lv_aload_n hx hb dX8_held_41 rfl (lv_at hl 0 rfl) ?_
            refine va_get (D := (dC, dI)) (ci := 6) (v := .ref ah) (C := RX8) (T := TX8) (N := 8) hx hb hts inX8 hown hK hP 0 rfl rfl 0 (by decide) (hts _ (List.mem_of_getElem? (i := 8) rfl)) (fun _ h9 => h9) rfl dX8_held_42 ?_
            refine va_getN (D := (dC, dI)) (ci := 4) (v := .ref q4) (C := RX6) (T := TX6) (N := 9) hx hb hts inX6 hown hK hP 2 rfl rfl 5 (by decide) (ev_nest hev 6 rfl) (fun _ h9 => h9) rfl dX8_held_45 ?_
            refine lv_iload_n hx hb dX8_held_48 rfl (lv_at hl 1 rfl) ?_
            refine va_iald hx hb hK hP 4 2 rfl rfl (vp_in_iff.mpr ⟨by omega, by omega⟩) dX8_held_49 ?_
            refine lv_topi (fun n_12 en_12 => ?_)
            clear en_12
            have hP9 := hP.sub (ws' := [(h0, .inr (6, [.ref ah, v1, v2, v3, v4, v5, .ref t0, v7])), (t0, .inl (tc, 7, .inl tf)), (ah, .inr (4, [w0, w1, w2, w3, .ref q3, .ref q4, w6, w7, w8])), (q3, .inl (c3, 4, .inl f3)), (q4, .inl (c4, 4, .inl f4))]) [0, 1, 2, 3, 4] rfl
            have hD9 := hD.sub (ws' := [(h0, .inr (6, [.ref ah, v1, v2, v3, v4, v5, .ref t0, v7])), (t0, .inl (tc, 7, .inl tf)), (ah, .inr (4, [w0, w1, w2, w3, .ref q3, .ref q4, w6, w7, w8])), (q3, .inl (c3, 4, .inl f3)), (q4, .inl (c4, 4, .inl f4))]) [0, 1, 2, 3, 4] (by decide) rfl
            have hK9 := hK.sub (tys' := [(tc, .int), (c3, .int), (c4, .int)]) [0, 1, 2] rfl
            exact W.iret (v := n_12) hx hb hr (fun t ht hW => ⟨⟨n_12, (), rfl, trivial, tf, by rw [ht]; exact hP9, va_K.moved hW.alike hK9, hD9⟩, hS.F ht⟩) hS.2.2 dX8_held_50
          · skip
            have tc_11 : b.toInt = 0 := (fa_eq _ _).mp c_11
            refine lv_aload_n hx hb dX8_held_29 rfl (lv_at hl 0 rfl) ?_
            refine va_get (D := (dC, dI)) (ci := 6) (v := .ref ah) (C := RX8) (T := TX8) (N := 8) hx hb hts inX8 hown hK hP 0 rfl rfl 0 (by decide) (hts _ (List.mem_of_getElem? (i := 8) rfl)) (fun _ h9 => h9) rfl dX8_held_30 ?_
            refine va_getN (D := (dC, dI)) (ci := 4) (v := .ref q3) (C := RX6) (T := TX6) (N := 9) hx hb hts inX6 hown hK hP 2 rfl rfl 4 (by decide) (ev_nest hev 5 rfl) (fun _ h9 => h9) rfl dX8_held_33 ?_
            refine lv_iload_n hx hb dX8_held_36 rfl (lv_at hl 1 rfl) ?_
            refine va_iald hx hb hK hP 3 1 rfl rfl (vp_in_iff.mpr ⟨by omega, by omega⟩) dX8_held_37 ?_
            refine lv_topi (fun n_13 en_13 => ?_)
            clear en_13
            refine lv_goto (tgt := 50) hx hb dX8_held_38 (by decide) ?_
            have hP9 := hP.sub (ws' := [(h0, .inr (6, [.ref ah, v1, v2, v3, v4, v5, .ref t0, v7])), (t0, .inl (tc, 7, .inl tf)), (ah, .inr (4, [w0, w1, w2, w3, .ref q3, .ref q4, w6, w7, w8])), (q3, .inl (c3, 4, .inl f3)), (q4, .inl (c4, 4, .inl f4))]) [0, 1, 2, 3, 4] rfl
            have hD9 := hD.sub (ws' := [(h0, .inr (6, [.ref ah, v1, v2, v3, v4, v5, .ref t0, v7])), (t0, .inl (tc, 7, .inl tf)), (ah, .inr (4, [w0, w1, w2, w3, .ref q3, .ref q4, w6, w7, w8])), (q3, .inl (c3, 4, .inl f3)), (q4, .inl (c4, 4, .inl f4))]) [0, 1, 2, 3, 4] (by decide) rfl
            have hK9 := hK.sub (tys' := [(tc, .int), (c3, .int), (c4, .int)]) [0, 1, 2] rfl
            exact W.iret (v := n_13) hx hb hr (fun t ht hW => ⟨⟨n_13, (), rfl, trivial, tf, by rw [ht]; exact hP9, va_K.moved hW.alike hK9, hD9⟩, hS.F ht⟩) hS.2.2 dX8_held_50
        · skip
          have tc_10 : ¬ b.toInt ≤ 1 := fun h => c_10 ((fa_le _ _).mpr h)
          refine lv_aload_n hx hb dX8_held_18 rfl (lv_at hl 0 rfl) ?_
          refine lv_ldc hx hb hown (hts _ (List.mem_of_getElem? (i := 1) rfl)) dX8_held_19 ?_
          have hPc := hP.sub (ws' := [(h0, .inr (6, [.ref ah, v1, v2, v3, v4, v5, .ref t0, v7])), (t0, .inl (tc, 7, .inl tf))]) [0, 1] rfl
          have hKc := hK.sub (tys' := [(tc, .int)]) [0] rfl
          have hDc := hD.sub (ws' := [(h0, .inr (6, [.ref ah, v1, v2, v3, v4, v5, .ref t0, v7])), (t0, .inl (tc, 7, .inl tf))]) [0, 1] (by decide) rfl
          have hFc := va_free (wc := [(h0, .inr (6, [.ref ah, v1, v2, v3, v4, v5, .ref t0, v7])), (t0, .inl (tc, 7, .inl tf))]) hD hS hA [0, 1] rfl
          refine va_calli (va_runV (As := [.int (-1000000001)]) (rest := []) ⟨hx, hb, hml, hown, hts⟩ (f_beyond l dC dI ad h0 (.ref ah) v1 v2 v3 v4 v5 t0 v7 tc tf s.heap.size ) (cwV 1 hts g_x_held_f_beyond_63 rfl rfl rfl (by decide +kernel) ⟨(Nat.le_of_ble_eq_true rfl), (Nat.le_of_ble_eq_true rfl)⟩) ⟨preM_blind, va_recv hKc hPc (ci := 6) (q0 := 0) rfl rfl, fun U hU hW => ⟨rfl, preM_at hU hW hPc hKc hDc hev⟩⟩ rfl rfl hl.1 rfl (lv_room (Nat.le_of_ble_eq_true rfl)) dX8_held_21 ⟨(Nat.le_of_ble_eq_true rfl), (Nat.le_of_ble_eq_true rfl)⟩) hS (fun q _ h => hFc q h) hFc (fun r_14 u t H1 locs ht hvm hw hB hz1 hk1 hS => ?_)
          obtain ⟨tg_15, hP1, hK1, hD1⟩ := hB
          rw [ht] at hP1
          have hK1 := va_K.moved hvm.symm hK1
          obtain ⟨hP, hD⟩ := va_join (wr := [(ah, .inr (4, [w0, w1, w2, w3, .ref q3, .ref q4, w6, w7, w8])), (q3, .inl (c3, 4, .inl f3)), (q4, .inl (c4, 4, .inl f4))]) (w1 := [(h0, .inr (6, [.ref ah, v1, v2, v3, v4, v5, .ref t0, v7])), (t0, .inl (tc, 7, .inl tg_15))]) hP hD [0, 1] [2, 3, 4] rfl rfl (by decide) (by decide) hk1 hFc hP1 hD1
          generalize H1 = H at hP hS ⊢
          have hP : va_P (dC, dI) vwCl [(ah, .inr (4, [w0, w1, w2, w3, .ref q3, .ref q4, w6, w7, w8])), (q3, .inl (c3, 4, .inl f3)), (q4, .inl (c4, 4, .inl f4)), (h0, .inr (6, [.ref ah, v1, v2, v3, v4, v5, .ref t0, v7])), (t0, .inl (tc, 7, .inl tg_15))] H := hP
          have hD : va_D A [(ah, .inr (4, [w0, w1, w2, w3, .ref q3, .ref q4, w6, w7, w8])), (q3, .inl (c3, 4, .inl f3)), (q4, .inl (c4, 4, .inl f4)), (h0, .inr (6, [.ref ah, v1, v2, v3, v4, v5, .ref t0, v7])), (t0, .inl (tc, 7, .inl tg_15))] := hD
          subst hw
          have hP9 := hP.sub (ws' := [(h0, .inr (6, [.ref ah, v1, v2, v3, v4, v5, .ref t0, v7])), (t0, .inl (tc, 7, .inl tg_15)), (ah, .inr (4, [w0, w1, w2, w3, .ref q3, .ref q4, w6, w7, w8])), (q3, .inl (c3, 4, .inl f3)), (q4, .inl (c4, 4, .inl f4))]) [3, 4, 0, 1, 2] rfl
          have hD9 := hD.sub (ws' := [(h0, .inr (6, [.ref ah, v1, v2, v3, v4, v5, .ref t0, v7])), (t0, .inl (tc, 7, .inl tg_15)), (ah, .inr (4, [w0, w1, w2, w3, .ref q3, .ref q4, w6, w7, w8])), (q3, .inl (c3, 4, .inl f3)), (q4, .inl (c4, 4, .inl f4))]) [3, 4, 0, 1, 2] (by decide) rfl
          have hK9 := hK.sub (tys' := [(tc, .int), (c3, .int), (c4, .int)]) [0, 1, 2] rfl
          exact W.iret (v := ((-1000000001) : Int32)) hx hb hr (fun t ht hW => ⟨⟨((-1000000001) : Int32), (), rfl, trivial, tg_15, by rw [ht]; exact hP9, va_K.moved hW.alike hK9, hD9⟩, hS.F ht⟩) hS.2.2 dX8_held_24

def w_x_dark : List Cond := .code yX8_dark cX8_dark 1 (some .long) :: (([.fieldLink RX8 10 "LampShapes" "now" "LLampShapes$Stage;", .methodLink RX8 134 yX6_darkCells, .instanceMethod yX6_darkCells, .selects RX6 yX6_darkCells yX6_darkCells, .initialized RX6, .code yX6_darkCells cX6_darkCells 4 (some .long), .methodLink RX6 88 yX6_cellsOfHold, .instanceMethod yX6_cellsOfHold, .selects RX6 yX6_cellsOfHold yX6_cellsOfHold, .code yX6_cellsOfHold cX6_cellsOfHold 3 (some .long), .fieldLink RX6 25 "LampShapes$Stage" "heldShapes" "[I", .methodLink RX6 78 yX6_hasShape, .instanceMethod yX6_hasShape, .selects RX6 yX6_hasShape yX6_hasShape, .code yX6_hasShape cX6_hasShape 2 (some .boolean), .fieldLink RX6 9 "LampShapes$Stage" "shapes" "I", .methodLink RX6 82 yX6_isTorn, .instanceMethod yX6_isTorn, .selects RX6 yX6_isTorn yX6_isTorn, .code yX6_isTorn cX6_isTorn 2 (some .boolean), .fieldLink RX6 22 "LampShapes$Stage" "tornShapes" "I", .fieldLink RX6 28 "LampShapes$Stage" "heldPlacings" "[I", .methodLink RX6 85 yX6_cellsBy, .instanceMethod yX6_cellsBy, .selects RX6 yX6_cellsBy yX6_cellsBy, .code yX6_cellsBy cX6_cellsBy 4 (some .long), .methodLink RX6 59 yX6_cornerBy, .instanceMethod yX6_cornerBy, .selects RX6 yX6_cornerBy yX6_cornerBy, .code yX6_cornerBy cX6_cornerBy 4 (some .long), .fieldLink RX6 15 "LampShapes$Stage" "kinds" "[I", .fieldLink RX6 19 "LampShapes$Stage" "points" "[I", .methodLink RX6 47 yX0_pointsBy, .static yX0_pointsBy, .initialized RX0, .code yX0_pointsBy cX0_pointsBy 3 (some .int), .methodLink RX0 15 yX0_turnedBy, .static yX0_turnedBy, .code yX0_turnedBy cX0_turnedBy 6 (some .int), .methodLink RX0 19 yX0_mirroredBy, .static yX0_mirroredBy, .code yX0_mirroredBy cX0_mirroredBy 2 (some .int), .constant RX0 31 (34952), .methodLink RX0 22 yX0_hollowed, .static yX0_hollowed, .code yX0_hollowed cX0_hollowed 5 (some .int), .constant RX0 32 (61166), .methodLink RX0 25 yX0_doubled, .static yX0_doubled, .code yX0_doubled cX0_doubled 1 (some .int), .constant RX0 33 (65535), .methodLink RX0 28 yX0_filled, .static yX0_filled, .code yX0_filled cX0_filled 6 (some .int), .methodLink RX6 53 yX1_cellsAtCorner, .static yX1_cellsAtCorner, .initialized RX1, .code yX1_cellsAtCorner cX1_cellsAtCorner 8 (some .long), .constantLong RX1 9 (771), .methodLink RX6 62 yX1_moved, .static yX1_moved, .code yX1_moved cX1_moved 6 (some .long), .constantLong RX1 13 (72340172838076673)] : List Cond) ++ wsX80 ++ wsX60)
set_option maxRecDepth 20000 in
theorem g_x_dark_s_darkCells_134 : GoodIn w_x_dark (wsV RX8 134 RX6 yX6_darkCells w_s_darkCells) := goodIn_r _ [2, 3, 4, 5, 6, 7, 8, 9, 5, 10, 11, 12, 13, 14, 15, 16, 17, 18, 19, 20, 21, 22, 23, 24, 25, 26, 27, 28, 29, 30, 31, 32, 33, 34, 35, 36, 37, 38, 39, 40, 41, 42, 43, 44, 45, 46, 47, 48, 49, 50, 51, 52, 53, 54, 55, 56, 57, 58, 59, 60, 61, 62, 63, 72, 73, 74, 75, 76, 77, 78, 79, 80] rfl (by decide +kernel)
set_option maxHeartbeats 4000000 in
set_option maxRecDepth 100000 in
theorem x_dark (l : Launch) (dC : Nat → ClassId) (dI : Nat → Nat → Nat) (ad : Nat → Nat) (h0 : Nat) (ah : Nat) (v1 : Value) (v2 : Value) (v3 : Value) (v4 : Value) (v5 : Value) (v6 : Value) (v7 : Value) (sh : Int32) (q1 : Nat) (q2 : Nat) (tn : Int32) (q3 : Nat) (q4 : Nat) (w6 : Value) (w7 : Value) (w8 : Value) (c1 : ClassId) (f1 : Nat → Int32) (c2 : ClassId) (f2 : Nat → Int32) (c3 : ClassId) (f3 : Nat → Int32) (c4 : ClassId) (f4 : Nat → Int32) (hsh : 0 ≤ sh.toInt ∧ sh.toInt ≤ 9) : Met l yX8_dark w_x_dark ({ frames := 6, cells := 0, slots := 0, locals := 138 } : Room) (va_Pc [.ref h0] (preS dC dI ad [(c1, .int), (c2, .int), (c3, .int), (c4, .int)] [(h0, .inr (6, [.ref ah, v1, v2, v3, v4, v5, v6, v7])), (ah, .inr (4, [.int sh, .ref q1, .ref q2, .int tn, .ref q3, .ref q4, w6, w7, w8])), (q1, .inl (c1, 9, .inl f1)), (q2, .inl (c2, 9, .inl f2)), (q3, .inl (c3, 4, .inl f3)), (q4, .inl (c4, 4, .inl f4))])) (vp_Sl (fun r => True)) 0 0 (fun _ => False) := by
  refine Met.ofW (cc := cX8_dark) (maxL := 1) (ret := (some .long)) (by decide) rfl ?_
  intro p e s m args below meth c s₁ B hml hv
  obtain ⟨rfl, hP, hK, hev⟩ := hv
  have hx := B.exec
  have hb := B.bytes
  have hr := B.returns
  have hts := atoms_spec (ws := w_x_dark) B.pre
  have hown : s.vm.findClass RX8 = some m.cls := findClass_of_methodNamed B.named
  have hlocks := B.notSynchronized
  have inX8 : ∀ w ∈ wsX80, w ∈ w_x_dark := fun w h => List.mem_cons_of_mem _ (List.mem_append_left _ (List.mem_append_right _ h))
  have inX6 : ∀ w ∈ wsX60, w ∈ w_x_dark := fun w h => List.mem_cons_of_mem _ (List.mem_append_right _ h)
  have hP : va_P (dC, dI) vwCl [(h0, .inr (6, [.ref ah, v1, v2, v3, v4, v5, v6, v7])), (ah, .inr (4, [.int sh, .ref q1, .ref q2, .int tn, .ref q3, .ref q4, w6, w7, w8])), (q1, .inl (c1, 9, .inl f1)), (q2, .inl (c2, 9, .inl f2)), (q3, .inl (c3, 4, .inl f3)), (q4, .inl (c4, 4, .inl f4))] s.heap := hP
  have hl := lv_entry ([.ref h0]) (n := 1) (Nat.le_of_ble_eq_true rfl)
  rw [lg_entry_eq]
  generalize (lg_sl ([.ref h0]) ++ List.replicate (1 - (lg_sl ([.ref h0])).length) Slot.unset).toArray = ls at hl ⊢
  have hl : lv_has ls 1 [(0, .ref h0)] := hl
  refine lv_aload_n hx hb dX8_dark_0 rfl (lv_at hl 0 rfl) ?_
  refine va_get (D := (dC, dI)) (ci := 6) (v := .ref ah) (C := RX8) (T := TX8) (N := 8) hx hb hts inX8 hown hK hP 0 rfl rfl 0 (by decide) (hts _ (List.mem_of_getElem? (i := 1) rfl)) (fun _ h9 => h9) rfl dX8_dark_1 ?_
  have hPc := hP.sub (ws' := [(ah, .inr (4, [.int sh, .ref q1, .ref q2, .int tn, .ref q3, .ref q4, w6, w7, w8])), (q1, .inl (c1, 9, .inl f1)), (q2, .inl (c2, 9, .inl f2)), (q3, .inl (c3, 4, .inl f3)), (q4, .inl (c4, 4, .inl f4))]) [1, 2, 3, 4, 5] rfl
  have hKc := hK.sub (tys' := [(c1, .int), (c2, .int), (c3, .int), (c4, .int)]) [0, 1, 2, 3] rfl
  refine vp_callSl (W.runV (As := []) (rest := []) ⟨hx, hb, hml, hown, hts⟩ (s_darkCells l dC dI ad ah sh q1 q2 tn q3 q4 w6 w7 w8 c1 f1 c2 f2 c3 f3 c4 f4 hsh) (cwV 0 hts g_x_dark_s_darkCells_134 rfl rfl rfl (by decide +kernel) ⟨(Nat.le_of_ble_eq_true rfl), (Nat.le_of_ble_eq_true rfl)⟩) ⟨preS_blind, va_recv hKc hPc (ci := 4) (q0 := 0) rfl rfl, fun U hU hW => ⟨rfl, preS_at hU hW hPc hKc hev⟩⟩ rfl rfl hl.1 rfl (lv_room (Nat.le_of_ble_eq_true rfl)) dX8_dark_4 ⟨(Nat.le_of_ble_eq_true rfl), (Nat.le_of_ble_eq_true rfl)⟩) (fun r_1 hw => ?_)
  exact W.lret (v := r_1) hx hb hr (fun t ht hW => ⟨r_1, rfl, trivial, ht⟩) (fun _ h => absurd h List.not_mem_nil) dX8_dark_7

def w_x_single : List Cond := .code yX8_single cX8_single 1 (some .long) :: (([.fieldLink RX8 10 "LampShapes" "now" "LLampShapes$Stage;", .methodLink RX8 138 yX6_singleCells, .instanceMethod yX6_singleCells, .selects RX6 yX6_singleCells yX6_singleCells, .initialized RX6, .code yX6_singleCells cX6_singleCells 8 (some .long), .constantLong RX6 92 (-1), .methodLink RX6 88 yX6_cellsOfHold, .instanceMethod yX6_cellsOfHold, .selects RX6 yX6_cellsOfHold yX6_cellsOfHold, .code yX6_cellsOfHold cX6_cellsOfHold 3 (some .long), .fieldLink RX6 25 "LampShapes$Stage" "heldShapes" "[I", .methodLink RX6 78 yX6_hasShape, .instanceMethod yX6_hasShape, .selects RX6 yX6_hasShape yX6_hasShape, .code yX6_hasShape cX6_hasShape 2 (some .boolean), .fieldLink RX6 9 "LampShapes$Stage" "shapes" "I", .methodLink RX6 82 yX6_isTorn, .instanceMethod yX6_isTorn, .selects RX6 yX6_isTorn yX6_isTorn, .code yX6_isTorn cX6_isTorn 2 (some .boolean), .fieldLink RX6 22 "LampShapes$Stage" "tornShapes" "I", .fieldLink RX6 28 "LampShapes$Stage" "heldPlacings" "[I", .methodLink RX6 85 yX6_cellsBy, .instanceMethod yX6_cellsBy, .selects RX6 yX6_cellsBy yX6_cellsBy, .code yX6_cellsBy cX6_cellsBy 4 (some .long), .methodLink RX6 59 yX6_cornerBy, .instanceMethod yX6_cornerBy, .selects RX6 yX6_cornerBy yX6_cornerBy, .code yX6_cornerBy cX6_cornerBy 4 (some .long), .fieldLink RX6 15 "LampShapes$Stage" "kinds" "[I", .fieldLink RX6 19 "LampShapes$Stage" "points" "[I", .methodLink RX6 47 yX0_pointsBy, .static yX0_pointsBy, .initialized RX0, .code yX0_pointsBy cX0_pointsBy 3 (some .int), .methodLink RX0 15 yX0_turnedBy, .static yX0_turnedBy, .code yX0_turnedBy cX0_turnedBy 6 (some .int), .methodLink RX0 19 yX0_mirroredBy, .static yX0_mirroredBy, .code yX0_mirroredBy cX0_mirroredBy 2 (some .int), .constant RX0 31 (34952), .methodLink RX0 22 yX0_hollowed, .static yX0_hollowed, .code yX0_hollowed cX0_hollowed 5 (some .int), .constant RX0 32 (61166), .methodLink RX0 25 yX0_doubled, .static yX0_doubled, .code yX0_doubled cX0_doubled 1 (some .int), .constant RX0 33 (65535), .methodLink RX0 28 yX0_filled, .static yX0_filled, .code yX0_filled cX0_filled 6 (some .int), .methodLink RX6 53 yX1_cellsAtCorner, .static yX1_cellsAtCorner, .initialized RX1, .code yX1_cellsAtCorner cX1_cellsAtCorner 8 (some .long), .constantLong RX1 9 (771), .methodLink RX6 62 yX1_moved, .static yX1_moved, .code yX1_moved cX1_moved 6 (some .long), .constantLong RX1 13 (72340172838076673)] : List Cond) ++ wsX80 ++ wsX60)
set_option maxRecDepth 20000 in
theorem g_x_single_s_singleCells_138 : GoodIn w_x_single (wsV RX8 138 RX6 yX6_singleCells w_s_singleCells) := goodIn_r _ [2, 3, 4, 5, 6, 7, 8, 9, 10, 5, 11, 12, 13, 14, 15, 16, 17, 18, 19, 20, 21, 22, 23, 24, 25, 26, 27, 28, 29, 30, 31, 32, 33, 34, 35, 36, 37, 38, 39, 40, 41, 42, 43, 44, 45, 46, 47, 48, 49, 50, 51, 52, 53, 54, 55, 56, 57, 58, 59, 60, 61, 62, 63, 64, 73, 74, 75, 76, 77, 78, 79, 80, 81] rfl (by decide +kernel)
set_option maxHeartbeats 4000000 in
set_option maxRecDepth 100000 in
theorem x_single (l : Launch) (dC : Nat → ClassId) (dI : Nat → Nat → Nat) (ad : Nat → Nat) (h0 : Nat) (ah : Nat) (v1 : Value) (v2 : Value) (v3 : Value) (v4 : Value) (v5 : Value) (v6 : Value) (v7 : Value) (sh : Int32) (q1 : Nat) (q2 : Nat) (tn : Int32) (q3 : Nat) (q4 : Nat) (w6 : Value) (w7 : Value) (w8 : Value) (c1 : ClassId) (f1 : Nat → Int32) (c2 : ClassId) (f2 : Nat → Int32) (c3 : ClassId) (f3 : Nat → Int32) (c4 : ClassId) (f4 : Nat → Int32) (hsh : 0 ≤ sh.toInt ∧ sh.toInt ≤ 9) : Met l yX8_single w_x_single ({ frames := 6, cells := 0, slots := 0, locals := 142 } : Room) (va_Pc [.ref h0] (preS dC dI ad [(c1, .int), (c2, .int), (c3, .int), (c4, .int)] [(h0, .inr (6, [.ref ah, v1, v2, v3, v4, v5, v6, v7])), (ah, .inr (4, [.int sh, .ref q1, .ref q2, .int tn, .ref q3, .ref q4, w6, w7, w8])), (q1, .inl (c1, 9, .inl f1)), (q2, .inl (c2, 9, .inl f2)), (q3, .inl (c3, 4, .inl f3)), (q4, .inl (c4, 4, .inl f4))])) (vp_Sl (fun r => True)) 0 0 (fun _ => False) := by
  refine Met.ofW (cc := cX8_single) (maxL := 1) (ret := (some .long)) (by decide) rfl ?_
  intro p e s m args below meth c s₁ B hml hv
  obtain ⟨rfl, hP, hK, hev⟩ := hv
  have hx := B.exec
  have hb := B.bytes
  have hr := B.returns
  have hts := atoms_spec (ws := w_x_single) B.pre
  have hown : s.vm.findClass RX8 = some m.cls := findClass_of_methodNamed B.named
  have hlocks := B.notSynchronized
  have inX8 : ∀ w ∈ wsX80, w ∈ w_x_single := fun w h => List.mem_cons_of_mem _ (List.mem_append_left _ (List.mem_append_right _ h))
  have inX6 : ∀ w ∈ wsX60, w ∈ w_x_single := fun w h => List.mem_cons_of_mem _ (List.mem_append_right _ h)
  have hP : va_P (dC, dI) vwCl [(h0, .inr (6, [.ref ah, v1, v2, v3, v4, v5, v6, v7])), (ah, .inr (4, [.int sh, .ref q1, .ref q2, .int tn, .ref q3, .ref q4, w6, w7, w8])), (q1, .inl (c1, 9, .inl f1)), (q2, .inl (c2, 9, .inl f2)), (q3, .inl (c3, 4, .inl f3)), (q4, .inl (c4, 4, .inl f4))] s.heap := hP
  have hl := lv_entry ([.ref h0]) (n := 1) (Nat.le_of_ble_eq_true rfl)
  rw [lg_entry_eq]
  generalize (lg_sl ([.ref h0]) ++ List.replicate (1 - (lg_sl ([.ref h0])).length) Slot.unset).toArray = ls at hl ⊢
  have hl : lv_has ls 1 [(0, .ref h0)] := hl
  refine lv_aload_n hx hb dX8_single_0 rfl (lv_at hl 0 rfl) ?_
  refine va_get (D := (dC, dI)) (ci := 6) (v := .ref ah) (C := RX8) (T := TX8) (N := 8) hx hb hts inX8 hown hK hP 0 rfl rfl 0 (by decide) (hts _ (List.mem_of_getElem? (i := 1) rfl)) (fun _ h9 => h9) rfl dX8_single_1 ?_
  have hPc := hP.sub (ws' := [(ah, .inr (4, [.int sh, .ref q1, .ref q2, .int tn, .ref q3, .ref q4, w6, w7, w8])), (q1, .inl (c1, 9, .inl f1)), (q2, .inl (c2, 9, .inl f2)), (q3, .inl (c3, 4, .inl f3)), (q4, .inl (c4, 4, .inl f4))]) [1, 2, 3, 4, 5] rfl
  have hKc := hK.sub (tys' := [(c1, .int), (c2, .int), (c3, .int), (c4, .int)]) [0, 1, 2, 3] rfl
  refine vp_callSl (W.runV (As := []) (rest := []) ⟨hx, hb, hml, hown, hts⟩ (s_singleCells l dC dI ad ah sh q1 q2 tn q3 q4 w6 w7 w8 c1 f1 c2 f2 c3 f3 c4 f4 hsh) (cwV 0 hts g_x_single_s_singleCells_138 rfl rfl rfl (by decide +kernel) ⟨(Nat.le_of_ble_eq_true rfl), (Nat.le_of_ble_eq_true rfl)⟩) ⟨preS_blind, va_recv hKc hPc (ci := 4) (q0 := 0) rfl rfl, fun U hU hW => ⟨rfl, preS_at hU hW hPc hKc hev⟩⟩ rfl rfl hl.1 rfl (lv_room (Nat.le_of_ble_eq_true rfl)) dX8_single_4 ⟨(Nat.le_of_ble_eq_true rfl), (Nat.le_of_ble_eq_true rfl)⟩) (fun r_1 hw => ?_)
  exact W.lret (v := r_1) hx hb hr (fun t ht hW => ⟨r_1, rfl, trivial, ht⟩) (fun _ h => absurd h List.not_mem_nil) dX8_single_7

def w_x_spare : List Cond := .code yX8_spare cX8_spare 5 (some .int) :: (([.fieldLink RX8 10 "LampShapes" "now" "LLampShapes$Stage;", .methodLink RX8 138 yX6_singleCells, .instanceMethod yX6_singleCells, .selects RX6 yX6_singleCells yX6_singleCells, .initialized RX6, .code yX6_singleCells cX6_singleCells 8 (some .long), .constantLong RX6 92 (-1), .methodLink RX6 88 yX6_cellsOfHold, .instanceMethod yX6_cellsOfHold, .selects RX6 yX6_cellsOfHold yX6_cellsOfHold, .code yX6_cellsOfHold cX6_cellsOfHold 3 (some .long), .fieldLink RX6 25 "LampShapes$Stage" "heldShapes" "[I", .methodLink RX6 78 yX6_hasShape, .instanceMethod yX6_hasShape, .selects RX6 yX6_hasShape yX6_hasShape, .code yX6_hasShape cX6_hasShape 2 (some .boolean), .fieldLink RX6 9 "LampShapes$Stage" "shapes" "I", .methodLink RX6 82 yX6_isTorn, .instanceMethod yX6_isTorn, .selects RX6 yX6_isTorn yX6_isTorn, .code yX6_isTorn cX6_isTorn 2 (some .boolean), .fieldLink RX6 22 "LampShapes$Stage" "tornShapes" "I", .fieldLink RX6 28 "LampShapes$Stage" "heldPlacings" "[I", .methodLink RX6 85 yX6_cellsBy, .instanceMethod yX6_cellsBy, .selects RX6 yX6_cellsBy yX6_cellsBy, .code yX6_cellsBy cX6_cellsBy 4 (some .long), .methodLink RX6 59 yX6_cornerBy, .instanceMethod yX6_cornerBy, .selects RX6 yX6_cornerBy yX6_cornerBy, .code yX6_cornerBy cX6_cornerBy 4 (some .long), .fieldLink RX6 15 "LampShapes$Stage" "kinds" "[I", .fieldLink RX6 19 "LampShapes$Stage" "points" "[I", .methodLink RX6 47 yX0_pointsBy, .static yX0_pointsBy, .initialized RX0, .code yX0_pointsBy cX0_pointsBy 3 (some .int), .methodLink RX0 15 yX0_turnedBy, .static yX0_turnedBy, .code yX0_turnedBy cX0_turnedBy 6 (some .int), .methodLink RX0 19 yX0_mirroredBy, .static yX0_mirroredBy, .code yX0_mirroredBy cX0_mirroredBy 2 (some .int), .constant RX0 31 (34952), .methodLink RX0 22 yX0_hollowed, .static yX0_hollowed, .code yX0_hollowed cX0_hollowed 5 (some .int), .constant RX0 32 (61166), .methodLink RX0 25 yX0_doubled, .static yX0_doubled, .code yX0_doubled cX0_doubled 1 (some .int), .constant RX0 33 (65535), .methodLink RX0 28 yX0_filled, .static yX0_filled, .code yX0_filled cX0_filled 6 (some .int), .methodLink RX6 53 yX1_cellsAtCorner, .static yX1_cellsAtCorner, .initialized RX1, .code yX1_cellsAtCorner cX1_cellsAtCorner 8 (some .long), .constantLong RX1 9 (771), .methodLink RX6 62 yX1_moved, .static yX1_moved, .code yX1_moved cX1_moved 6 (some .long), .constantLong RX1 13 (72340172838076673), .constant RX8 149 (-1000000004), .methodLink RX8 63 yX8_finding, .instanceMethod yX8_finding, .selects RX8 yX8_finding yX8_finding, .initialized RX8, .code yX8_finding cX8_finding 3 (some .int), .constant RX8 62 (-1000000001), .fieldLink RX8 46 "LampShapes" "told" "[I", .methodLink RX8 88 yX6_holdOf, .instanceMethod yX6_holdOf, .selects RX6 yX6_holdOf yX6_holdOf, .code yX6_holdOf cX6_holdOf 3 (some .int), .methodLink RX8 85 yX6_isTorn, .methodLink RX8 145 yX6_cellsOfHold] : List Cond) ++ wsX80 ++ wsX60)
set_option maxRecDepth 20000 in
theorem g_x_spare_s_singleCells_138 : GoodIn w_x_spare (wsV RX8 138 RX6 yX6_singleCells w_s_singleCells) := goodIn_r _ [2, 3, 4, 5, 6, 7, 8, 9, 10, 5, 11, 12, 13, 14, 15, 16, 17, 18, 19, 20, 21, 22, 23, 24, 25, 26, 27, 28, 29, 30, 31, 32, 33, 34, 35, 36, 37, 38, 39, 40, 41, 42, 43, 44, 45, 46, 47, 48, 49, 50, 51, 52, 53, 54, 55, 56, 57, 58, 59, 60, 61, 62, 63, 64, 87, 88, 89, 90, 91, 92, 93, 94, 95] rfl (by decide +kernel)
set_option maxRecDepth 20000 in
theorem g_x_spare_f_none_63 : GoodIn w_x_spare (wsV RX8 63 RX8 yX8_finding w_f_none) := goodIn_r _ [66, 67, 68, 69, 70, 71, 72, 79, 80, 81, 82, 83, 84, 85, 86] rfl (by decide +kernel)
set_option maxRecDepth 20000 in
theorem g_x_spare_s_holdOf_88 : GoodIn w_x_spare (wsV RX8 88 RX6 yX6_holdOf w_s_holdOf) := goodIn_r _ [73, 74, 75, 5, 76, 12, 87, 88, 89, 90, 91, 92, 93, 94, 95] rfl (by decide +kernel)
set_option maxRecDepth 20000 in
theorem g_x_spare_s_isTorn_85 : GoodIn w_x_spare (wsV RX8 85 RX6 yX6_isTorn w_s_isTorn) := goodIn_r _ [77, 19, 20, 5, 21, 22, 87, 88, 89, 90, 91, 92, 93, 94, 95] rfl (by decide +kernel)
set_option maxRecDepth 20000 in
theorem g_x_spare_s_cellsOfHold_145 : GoodIn w_x_spare (wsV RX8 145 RX6 yX6_cellsOfHold w_s_cellsOfHold) := goodIn_r _ [78, 9, 10, 5, 11, 12, 13, 14, 15, 5, 16, 17, 18, 19, 20, 21, 22, 23, 24, 25, 26, 27, 28, 29, 30, 31, 32, 33, 34, 35, 36, 37, 38, 39, 40, 41, 42, 43, 44, 45, 46, 47, 48, 49, 50, 51, 52, 53, 54, 55, 56, 57, 58, 59, 60, 61, 62, 63, 64, 87, 88, 89, 90, 91, 92, 93, 94, 95] rfl (by decide +kernel)
set_option maxHeartbeats 4000000 in
set_option maxRecDepth 100000 in
theorem x_spare (l : Launch) (dC : Nat → ClassId) (dI : Nat → Nat → Nat) (ad : Nat → Nat) (h0 : Nat) (ah : Nat) (v1 : Value) (v2 : Value) (v3 : Value) (v4 : Value) (v5 : Value) (t0 : Nat) (v7 : Value) (tc : ClassId) (tf : Nat → Int32) (sh : Int32) (q1 : Nat) (q2 : Nat) (tn : Int32) (q3 : Nat) (q4 : Nat) (w6 : Value) (w7 : Value) (w8 : Value) (c1 : ClassId) (f1 : Nat → Int32) (c2 : ClassId) (f2 : Nat → Int32) (c3 : ClassId) (f3 : Nat → Int32) (c4 : ClassId) (f4 : Nat → Int32) (sz : Nat) (hsh : 0 ≤ sh.toInt ∧ sh.toInt ≤ 9) : Met l yX8_spare w_x_spare ({ frames := 6, cells := 0, slots := 0, locals := 142 } : Room) (va_Pc [.ref h0] (preM dC dI ad [(tc, .int), (c1, .int), (c2, .int), (c3, .int), (c4, .int)] [(h0, .inr (6, [.ref ah, v1, v2, v3, v4, v5, .ref t0, v7])), (t0, .inl (tc, 7, .inl tf)), (ah, .inr (4, [.int sh, .ref q1, .ref q2, .int tn, .ref q3, .ref q4, w6, w7, w8])), (q1, .inl (c1, 9, .inl f1)), (q2, .inl (c2, 9, .inl f2)), (q3, .inl (c3, 4, .inl f3)), (q4, .inl (c4, 4, .inl f4))] sz)) (va_Qi (fun (r : Int32) (_ : Unit) => True) (fun _ t => ∃ (tg : Nat → Int32), va_P (dC, dI) vwCl [(h0, .inr (6, [.ref ah, v1, v2, v3, v4, v5, .ref t0, v7])), (t0, .inl (tc, 7, .inl tg)), (ah, .inr (4, [.int sh, .ref q1, .ref q2, .int tn, .ref q3, .ref q4, w6, w7, w8])), (q1, .inl (c1, 9, .inl f1)), (q2, .inl (c2, 9, .inl f2)), (q3, .inl (c3, 4, .inl f3)), (q4, .inl (c4, 4, .inl f4))] t.heap ∧ va_K (dC, dI) vwCl [(tc, .int), (c1, .int), (c2, .int), (c3, .int), (c4, .int)] t ∧ va_D (va_A [(h0, .inr (6, [.ref ah, v1, v2, v3, v4, v5, .ref t0, v7])), (t0, .inl (tc, 7, .inl tf)), (ah, .inr (4, [.int sh, .ref q1, .ref q2, .int tn, .ref q3, .ref q4, w6, w7, w8])), (q1, .inl (c1, 9, .inl f1)), (q2, .inl (c2, 9, .inl f2)), (q3, .inl (c3, 4, .inl f3)), (q4, .inl (c4, 4, .inl f4))] sz) [(h0, .inr (6, [.ref ah, v1, v2, v3, v4, v5, .ref t0, v7])), (t0, .inl (tc, 7, .inl tg)), (ah, .inr (4, [.int sh, .ref q1, .ref q2, .int tn, .ref q3, .ref q4, w6, w7, w8])), (q1, .inl (c1, 9, .inl f1)), (q2, .inl (c2, 9, .inl f2)), (q3, .inl (c3, 4, .inl f3)), (q4, .inl (c4, 4, .inl f4))]) (va_A [(h0, .inr (6, [.ref ah, v1, v2, v3, v4, v5, .ref t0, v7])), (t0, .inl (tc, 7, .inl tf)), (ah, .inr (4, [.int sh, .ref q1, .ref q2, .int tn, .ref q3, .ref q4, w6, w7, w8])), (q1, .inl (c1, 9, .inl f1)), (q2, .inl (c2, 9, .inl f2)), (q3, .inl (c3, 4, .inl f3)), (q4, .inl (c4, 4, .inl f4))] sz)) 0 0 (va_A [(h0, .inr (6, [.ref ah, v1, v2, v3, v4, v5, .ref t0, v7])), (t0, .inl (tc, 7, .inl tf)), (ah, .inr (4, [.int sh, .ref q1, .ref q2, .int tn, .ref q3, .ref q4, w6, w7, w8])), (q1, .inl (c1, 9, .inl f1)), (q2, .inl (c2, 9, .inl f2)), (q3, .inl (c3, 4, .inl f3)), (q4, .inl (c4, 4, .inl f4))] sz) := by
  refine Met.ofW (cc := cX8_spare) (maxL := 5) (ret := (some .int)) (by decide) rfl ?_
  intro p e s m args below meth c s₁ B hml hv
  obtain ⟨rfl, hsz, hP, hK, hD0, hev⟩ := hv
  have hx := B.exec
  have hb := B.bytes
  have hr := B.returns
  have hts := atoms_spec (ws := w_x_spare) B.pre
  have hown : s.vm.findClass RX8 = some m.cls := findClass_of_methodNamed B.named
  have hlocks := B.notSynchronized
  have inX8 : ∀ w ∈ wsX80, w ∈ w_x_spare := fun w h => List.mem_cons_of_mem _ (List.mem_append_left _ (List.mem_append_right _ h))
  have inX6 : ∀ w ∈ wsX60, w ∈ w_x_spare := fun w h => List.mem_cons_of_mem _ (List.mem_append_right _ h)
  subst hsz
  have hD := hD0.self (sz := s.heap.size)
  generalize hAe : va_A [(h0, .inr (6, [.ref ah, v1, v2, v3, v4, v5, .ref t0, v7])), (t0, .inl (tc, 7, .inl tf)), (ah, .inr (4, [.int sh, .ref q1, .ref q2, .int tn, .ref q3, .ref q4, w6, w7, w8])), (q1, .inl (c1, 9, .inl f1)), (q2, .inl (c2, 9, .inl f2)), (q3, .inl (c3, 4, .inl f3)), (q4, .inl (c4, 4, .inl f4))] s.heap.size = A at hD ⊢
  have hA : ∀ q : Nat, s.heap.size ≤ q → A q := fun q h => by rw [← hAe]; exact Or.inr h
  have hS : va_S A s.heap s.heap [] := va_S.rf
  have hP : va_P (dC, dI) vwCl [(h0, .inr (6, [.ref ah, v1, v2, v3, v4, v5, .ref t0, v7])), (t0, .inl (tc, 7, .inl tf)), (ah, .inr (4, [.int sh, .ref q1, .ref q2, .int tn, .ref q3, .ref q4, w6, w7, w8])), (q1, .inl (c1, 9, .inl f1)), (q2, .inl (c2, 9, .inl f2)), (q3, .inl (c3, 4, .inl f3)), (q4, .inl (c4, 4, .inl f4))] s.heap := hP
  have hl := lv_entry ([.ref h0]) (n := 5) (Nat.le_of_ble_eq_true rfl)
  rw [lg_entry_eq]
  generalize (lg_sl ([.ref h0]) ++ List.replicate (5 - (lg_sl ([.ref h0])).length) Slot.unset).toArray = ls at hl ⊢
  have hl : lv_has ls 5 [(0, .ref h0)] := hl
  refine lv_aload_n hx hb dX8_spare_0 rfl (lv_at hl 0 rfl) ?_
  refine va_get (D := (dC, dI)) (ci := 6) (v := .ref ah) (C := RX8) (T := TX8) (N := 8) hx hb hts inX8 hown hK hP 0 rfl rfl 0 (by decide) (hts _ (List.mem_of_getElem? (i := 1) rfl)) (fun _ h9 => h9) rfl dX8_spare_1 ?_
  have hPc := hP.sub (ws' := [(ah, .inr (4, [.int sh, .ref q1, .ref q2, .int tn, .ref q3, .ref q4, w6, w7, w8])), (q1, .inl (c1, 9, .inl f1)), (q2, .inl (c2, 9, .inl f2)), (q3, .inl (c3, 4, .inl f3)), (q4, .inl (c4, 4, .inl f4))]) [2, 3, 4, 5, 6] rfl
  have hKc := hK.sub (tys' := [(c1, .int), (c2, .int), (c3, .int), (c4, .int)]) [1, 2, 3, 4] rfl
  refine vp_callSl (W.runV (As := []) (rest := []) ⟨hx, hb, hml, hown, hts⟩ (s_singleCells l dC dI ad ah sh q1 q2 tn q3 q4 w6 w7 w8 c1 f1 c2 f2 c3 f3 c4 f4 hsh) (cwV 0 hts g_x_spare_s_singleCells_138 rfl rfl rfl (by decide +kernel) ⟨(Nat.le_of_ble_eq_true rfl), (Nat.le_of_ble_eq_true rfl)⟩) ⟨preS_blind, va_recv hKc hPc (ci := 4) (q0 := 0) rfl rfl, fun U hU hW => ⟨rfl, preS_at hU hW hPc hKc hev⟩⟩ rfl rfl hl.1 rfl (lv_room (Nat.le_of_ble_eq_true rfl)) dX8_spare_4 ⟨(Nat.le_of_ble_eq_true rfl), (Nat.le_of_ble_eq_true rfl)⟩) (fun r_1 hw => ?_)
  refine lv_lstore_n (lv' := [(1, .long r_1), (0, .ref h0)]) hx hb dX8_spare_7 rfl hl (by decide) rfl (fun ls hl => ?_)
  refine lv_iconst (v := 0) hx hb dX8_spare_8 (by decide) ?_
  refine lv_istore_n (lv' := [(3, .int 0), (1, .long r_1), (0, .ref h0)]) hx hb dX8_spare_9 rfl hl (by decide) rfl (fun ls hl => ?_)
  refine pp_loop (ι := Int32) (fun v3_10 => (sh.toInt - v3_10.toInt).toNat) (fun v3_10 H locs ls => (0 ≤ v3_10.toInt) ∧ va_P (dC, dI) vwCl [(h0, .inr (6, [.ref ah, v1, v2, v3, v4, v5, .ref t0, v7])), (t0, .inl (tc, 7, .inl tf)), (ah, .inr (4, [.int sh, .ref q1, .ref q2, .int tn, .ref q3, .ref q4, w6, w7, w8])), (q1, .inl (c1, 9, .inl f1)), (q2, .inl (c2, 9, .inl f2)), (q3, .inl (c3, 4, .inl f3)), (q4, .inl (c4, 4, .inl f4))] H ∧ va_D A [(h0, .inr (6, [.ref ah, v1, v2, v3, v4, v5, .ref t0, v7])), (t0, .inl (tc, 7, .inl tf)), (ah, .inr (4, [.int sh, .ref q1, .ref q2, .int tn, .ref q3, .ref q4, w6, w7, w8])), (q1, .inl (c1, 9, .inl f1)), (q2, .inl (c2, 9, .inl f2)), (q3, .inl (c3, 4, .inl f3)), (q4, .inl (c4, 4, .inl f4))] ∧ va_S A s.heap H locs ∧ lv_has ls 5 [(3, .int v3_10), (1, .long r_1), (0, .ref h0)]) ?_ 0 _ _ _ ⟨(by first | omega | decide | (simp only [fa_lt, fa_le, fa_eq, and_true, true_and, and_false, false_and, not_true_eq_false, not_false_eq_true, li_0, li_1, li_2, li_3, li_4, li_5, li_6, li_7, li_8, li_9, li_10, li_12, li_15, li_16, li_20, li_30, li_34, li_38, li_40, li_63, li_64, li_65, li_78, li_120, li_1000, li_4000, li_10000, li_11077, li_255, li_65535, li_m1, li_m2, li_m1000000001, li_m1000000002, li_m1000000003, li_m1000000004, li_m1000000005, li_m1000000006, li_m1000000007, or_true, true_or, or_false, false_or, implies_true, true_implies, false_implies] <;> omega)), hP.sub [0, 1, 2, 3, 4, 5, 6] rfl, hD.sub [0, 1, 2, 3, 4, 5, 6] (by decide) rfl, hS, lv_sub hl [0, 1, 2] rfl⟩
  intro k_2 ihk_2 u H locs ls hm hI
  obtain ⟨v3_10, rfl⟩ : ∃ z, z = u := ⟨_, rfl⟩
  obtain ⟨jk_2_0, hP, hD, hS, hl⟩ := hI
  have hmk_2 : (sh.toInt - v3_10.toInt).toNat < k_2 + 1 := hm
  clear hm
  have jk_2_0 : 0 ≤ v3_10.toInt := jk_2_0
  have hl : lv_has ls 5 [(3, .int v3_10), (1, .long r_1), (0, .ref h0)] := hl
  have hP : va_P (dC, dI) vwCl [(h0, .inr (6, [.ref ah, v1, v2, v3, v4, v5, .ref t0, v7])), (t0, .inl (tc, 7, .inl tf)), (ah, .inr (4, [.int sh, .ref q1, .ref q2, .int tn, .ref q3, .ref q4, w6, w7, w8])), (q1, .inl (c1, 9, .inl f1)), (q2, .inl (c2, 9, .inl f2)), (q3, .inl (c3, 4, .inl f3)), (q4, .inl (c4, 4, .inl f4))] H := hP
  have hD : va_D A [(h0, .inr (6, [.ref ah, v1, v2, v3, v4, v5, .ref t0, v7])), (t0, .inl (tc, 7, .inl tf)), (ah, .inr (4, [.int sh, .ref q1, .ref q2, .int tn, .ref q3, .ref q4, w6, w7, w8])), (q1, .inl (c1, 9, .inl f1)), (q2, .inl (c2, 9, .inl f2)), (q3, .inl (c3, 4, .inl f3)), (q4, .inl (c4, 4, .inl f4))] := hD
  refine lv_iload_n hx hb dX8_spare_10 rfl (lv_at hl 0 rfl) ?_
  refine lv_aload_n hx hb dX8_spare_11 rfl (lv_at hl 2 rfl) ?_
  refine va_get (D := (dC, dI)) (ci := 6) (v := .ref ah) (C := RX8) (T := TX8) (N := 8) hx hb hts inX8 hown hK hP 0 rfl rfl 0 (by decide) (hts _ (List.mem_of_getElem? (i := 1) rfl)) (fun _ h9 => h9) rfl dX8_spare_12 ?_
  refine va_getN (D := (dC, dI)) (ci := 4) (v := .int sh) (C := RX6) (T := TX6) (N := 9) hx hb hts inX6 hown hK hP 2 rfl rfl 0 (by decide) (ev_nest hev 1 rfl) (fun _ h9 => h9) rfl dX8_spare_15 ?_
  have rc_3_x := pp_rng v3_10
  have rc_3_y := pp_rng sh
  refine lv_icmp_ge (tgt := 71) hx hb dX8_spare_18 (by decide) (fun c_3 => ?_) (fun c_3 => ?_)
  · skip
    have tc_3 : sh.toInt ≤ v3_10.toInt := (fa_le _ _).mp c_3
    refine lv_aload_n hx hb dX8_spare_71 rfl (lv_at hl 2 rfl) ?_
    refine lv_ldc hx hb hown (hts _ (List.mem_of_getElem? (i := 65) rfl)) dX8_spare_72 ?_
    have hPc := hP.sub (ws' := [(h0, .inr (6, [.ref ah, v1, v2, v3, v4, v5, .ref t0, v7])), (t0, .inl (tc, 7, .inl tf))]) [0, 1] rfl
    have hKc := hK.sub (tys' := [(tc, .int)]) [0] rfl
    have hDc := hD.sub (ws' := [(h0, .inr (6, [.ref ah, v1, v2, v3, v4, v5, .ref t0, v7])), (t0, .inl (tc, 7, .inl tf))]) [0, 1] (by decide) rfl
    have hFc := va_free (wc := [(h0, .inr (6, [.ref ah, v1, v2, v3, v4, v5, .ref t0, v7])), (t0, .inl (tc, 7, .inl tf))]) hD hS hA [0, 1] rfl
    refine va_calli (va_runV (As := [.int (-1000000004)]) (rest := []) ⟨hx, hb, hml, hown, hts⟩ (f_none l dC dI ad h0 (.ref ah) v1 v2 v3 v4 v5 t0 v7 tc tf H.size ) (cwV 1 hts g_x_spare_f_none_63 rfl rfl rfl (by decide +kernel) ⟨(Nat.le_of_ble_eq_true rfl), (Nat.le_of_ble_eq_true rfl)⟩) ⟨preM_blind, va_recv hKc hPc (ci := 6) (q0 := 0) rfl rfl, fun U hU hW => ⟨rfl, preM_at hU hW hPc hKc hDc hev⟩⟩ rfl rfl hl.1 rfl (lv_room (Nat.le_of_ble_eq_true rfl)) dX8_spare_74 ⟨(Nat.le_of_ble_eq_true rfl), (Nat.le_of_ble_eq_true rfl)⟩) hS (fun q _ h => hFc q h) hFc (fun r_4 u t H1 locs ht hvm hw hB hz1 hk1 hS => ?_)
    obtain ⟨tg_5, hP1, hK1, hD1⟩ := hB
    rw [ht] at hP1
    have hK1 := va_K.moved hvm.symm hK1
    obtain ⟨hP, hD⟩ := va_join (wr := [(ah, .inr (4, [.int sh, .ref q1, .ref q2, .int tn, .ref q3, .ref q4, w6, w7, w8])), (q1, .inl (c1, 9, .inl f1)), (q2, .inl (c2, 9, .inl f2)), (q3, .inl (c3, 4, .inl f3)), (q4, .inl (c4, 4, .inl f4))]) (w1 := [(h0, .inr (6, [.ref ah, v1, v2, v3, v4, v5, .ref t0, v7])), (t0, .inl (tc, 7, .inl tg_5))]) hP hD [0, 1] [2, 3, 4, 5, 6] rfl rfl (by decide) (by decide) hk1 hFc hP1 hD1
    generalize H1 = H at hP hS ⊢
    have hP : va_P (dC, dI) vwCl [(ah, .inr (4, [.int sh, .ref q1, .ref q2, .int tn, .ref q3, .ref q4, w6, w7, w8])), (q1, .inl (c1, 9, .inl f1)), (q2, .inl (c2, 9, .inl f2)), (q3, .inl (c3, 4, .inl f3)), (q4, .inl (c4, 4, .inl f4)), (h0, .inr (6, [.ref ah, v1, v2, v3, v4, v5, .ref t0, v7])), (t0, .inl (tc, 7, .inl tg_5))] H := hP
    have hD : va_D A [(ah, .inr (4, [.int sh, .ref q1, .ref q2, .int tn, .ref q3, .ref q4, w6, w7, w8])), (q1, .inl (c1, 9, .inl f1)), (q2, .inl (c2, 9, .inl f2)), (q3, .inl (c3, 4, .inl f3)), (q4, .inl (c4, 4, .inl f4)), (h0, .inr (6, [.ref ah, v1, v2, v3, v4, v5, .ref t0, v7])), (t0, .inl (tc, 7, .inl tg_5))] := hD
    subst hw
    have hP9 := hP.sub (ws' := [(h0, .inr (6, [.ref ah, v1, v2, v3, v4, v5, .ref t0, v7])), (t0, .inl (tc, 7, .inl tg_5)), (ah, .inr (4, [.int sh, .ref q1, .ref q2, .int tn, .ref q3, .ref q4, w6, w7, w8])), (q1, .inl (c1, 9, .inl f1)), (q2, .inl (c2, 9, .inl f2)), (q3, .inl (c3, 4, .inl f3)), (q4, .inl (c4, 4, .inl f4))]) [5, 6, 0, 1, 2, 3, 4] rfl
    have hD9 := hD.sub (ws' := [(h0, .inr (6, [.ref ah, v1, v2, v3, v4, v5, .ref t0, v7])), (t0, .inl (tc, 7, .inl tg_5)), (ah, .inr (4, [.int sh, .ref q1, .ref q2, .int tn, .ref q3, .ref q4, w6, w7, w8])), (q1, .inl (c1, 9, .inl f1)), (q2, .inl (c2, 9, .inl f2)), (q3, .inl (c3, 4, .inl f3)), (q4, .inl (c4, 4, .inl f4))]) [5, 6, 0, 1, 2, 3, 4] (by decide) rfl
    have hK9 := hK.sub (tys' := [(tc, .int), (c1, .int), (c2, .int), (c3, .int), (c4, .int)]) [0, 1, 2, 3, 4] rfl
    exact W.iret (v := ((-1000000004) : Int32)) hx hb hr (fun t ht hW => ⟨⟨((-1000000004) : Int32), (), rfl, trivial, tg_5, by rw [ht]; exact hP9, va_K.moved hW.alike hK9, hD9⟩, hS.F ht⟩) hS.2.2 dX8_spare_77
  · skip
    have tc_3 : ¬ sh.toInt ≤ v3_10.toInt := fun h => c_3 ((fa_le _ _).mpr h)
    refine lv_aload_n hx hb dX8_spare_21 rfl (lv_at hl 2 rfl) ?_
    refine va_get (D := (dC, dI)) (ci := 6) (v := .ref ah) (C := RX8) (T := TX8) (N := 8) hx hb hts inX8 hown hK hP 0 rfl rfl 0 (by decide) (hts _ (List.mem_of_getElem? (i := 1) rfl)) (fun _ h9 => h9) rfl dX8_spare_22 ?_
    refine lv_iload_n hx hb dX8_spare_25 rfl (lv_at hl 0 rfl) ?_
    have hPc := hP.sub (ws' := [(ah, .inr (4, [.int sh, .ref q1, .ref q2, .int tn, .ref q3, .ref q4, w6, w7, w8])), (q3, .inl (c3, 4, .inl f3))]) [2, 5] rfl
    have hKc := hK.sub (tys' := [(c3, .int)]) [3] rfl
    refine vp_callSi (W.runV (As := [.int v3_10]) (rest := []) ⟨hx, hb, hml, hown, hts⟩ (s_holdOf l dC dI ad ah v3_10 (.int sh) (.ref q1) (.ref q2) (.int tn) q3 (.ref q4) w6 w7 w8 c3 f3 ) (cwV 1 hts g_x_spare_s_holdOf_88 rfl rfl rfl (by decide +kernel) ⟨(Nat.le_of_ble_eq_true rfl), (Nat.le_of_ble_eq_true rfl)⟩) ⟨preS_blind, va_recv hKc hPc (ci := 4) (q0 := 0) rfl rfl, fun U hU hW => ⟨rfl, preS_at hU hW hPc hKc hev⟩⟩ rfl rfl hl.1 rfl (lv_room (Nat.le_of_ble_eq_true rfl)) dX8_spare_26 ⟨(Nat.le_of_ble_eq_true rfl), (Nat.le_of_ble_eq_true rfl)⟩) (fun r_6 hw => ?_)
    have hr_6 : (-1) ≤ r_6.toInt ∧ r_6.toInt ≤ 3 := hw
    refine lv_istore (lv' := [(4, .int r_6), (3, .int v3_10), (1, .long r_1), (0, .ref h0)]) hx hb dX8_spare_29 hl (by decide) rfl (fun ls hl => ?_)
    refine lv_iload hx hb dX8_spare_31 (lv_at hl 0 rfl) ?_
    refine lv_if_lt (tgt := 65) hx hb dX8_spare_33 (by decide) (fun c_7 => ?_) (fun c_7 => ?_)
    · skip
      have tc_7 : r_6.toInt < 0 := (fa_lt _ _).mp c_7
      obtain ⟨n_8, en_8⟩ : ∃ y : Int32, y = v3_10 + 1 := ⟨_, rfl⟩
      have tn_8 : n_8.toInt = v3_10.toInt + 1 := pp_add en_8 rfl rfl (by omega) (by omega)
      refine lv_iinc (v := n_8) (lv' := [(3, .int n_8), (4, .int r_6), (1, .long r_1), (0, .ref h0)]) hx hb dX8_spare_65 hl (k := 1) rfl (by rw [en_8]; rfl) (by decide) rfl (fun ls hl => ?_)
      clear en_8
      refine lv_goto (tgt := 10) hx hb dX8_spare_68 (by decide) ?_
      exact ihk_2 n_8 _ _ _ (by show (sh.toInt - n_8.toInt).toNat < k_2; omega) ⟨(by first | omega | decide | (simp only [fa_lt, fa_le, fa_eq, and_true, true_and, and_false, false_and, not_true_eq_false, not_false_eq_true, li_0, li_1, li_2, li_3, li_4, li_5, li_6, li_7, li_8, li_9, li_10, li_12, li_15, li_16, li_20, li_30, li_34, li_38, li_40, li_63, li_64, li_65, li_78, li_120, li_1000, li_4000, li_10000, li_11077, li_255, li_65535, li_m1, li_m2, li_m1000000001, li_m1000000002, li_m1000000003, li_m1000000004, li_m1000000005, li_m1000000006, li_m1000000007, or_true, true_or, or_false, false_or, implies_true, true_implies, false_implies] <;> omega)), hP.sub [0, 1, 2, 3, 4, 5, 6] rfl, hD.sub [0, 1, 2, 3, 4, 5, 6] (by decide) rfl, hS, lv_sub hl [0, 2, 3] rfl⟩
    · skip
      have tc_7 : ¬ r_6.toInt < 0 := fun h => c_7 ((fa_lt _ _).mpr h)
      refine lv_aload_n hx hb dX8_spare_36 rfl (lv_at hl 3 rfl) ?_
      refine va_get (D := (dC, dI)) (ci := 6) (v := .ref ah) (C := RX8) (T := TX8) (N := 8) hx hb hts inX8 hown hK hP 0 rfl rfl 0 (by decide) (hts _ (List.mem_of_getElem? (i := 1) rfl)) (fun _ h9 => h9) rfl dX8_spare_37 ?_
      refine lv_iload_n hx hb dX8_spare_40 rfl (lv_at hl 1 rfl) ?_
      have hPc := hP.sub (ws' := [(ah, .inr (4, [.int sh, .ref q1, .ref q2, .int tn, .ref q3, .ref q4, w6, w7, w8]))]) [2] rfl
      have hKc := hK.sub (tys' := []) [] rfl
      refine vp_callSi (W.runV (As := [.int v3_10]) (rest := []) ⟨hx, hb, hml, hown, hts⟩ (s_isTorn l dC dI ad ah v3_10 (.int sh) (.ref q1) (.ref q2) tn (.ref q3) (.ref q4) w6 w7 w8 ) (cwV 1 hts g_x_spare_s_isTorn_85 rfl rfl rfl (by decide +kernel) ⟨(Nat.le_of_ble_eq_true rfl), (Nat.le_of_ble_eq_true rfl)⟩) ⟨preS_blind, va_recv hKc hPc (ci := 4) (q0 := 0) rfl rfl, fun U hU hW => ⟨rfl, preS_at hU hW hPc hKc hev⟩⟩ rfl rfl hl.1 rfl (lv_room (Nat.le_of_ble_eq_true rfl)) dX8_spare_41 ⟨(Nat.le_of_ble_eq_true rfl), (Nat.le_of_ble_eq_true rfl)⟩) (fun r_9 hw => ?_)
      refine lv_if_ne (tgt := 65) hx hb dX8_spare_44 (by decide) (fun c_10 => ?_) (fun c_10 => ?_)
      · skip
        have tc_10 : ¬ r_9.toInt = 0 := fun h => c_10 ((fa_eq _ _).mpr h)
        obtain ⟨n_11, en_11⟩ : ∃ y : Int32, y = v3_10 + 1 := ⟨_, rfl⟩
        have tn_11 : n_11.toInt = v3_10.toInt + 1 := pp_add en_11 rfl rfl (by omega) (by omega)
        refine lv_iinc (v := n_11) (lv' := [(3, .int n_11), (4, .int r_6), (1, .long r_1), (0, .ref h0)]) hx hb dX8_spare_65 hl (k := 1) rfl (by rw [en_11]; rfl) (by decide) rfl (fun ls hl => ?_)
        clear en_11
        refine lv_goto (tgt := 10) hx hb dX8_spare_68 (by decide) ?_
        exact ihk_2 n_11 _ _ _ (by show (sh.toInt - n_11.toInt).toNat < k_2; omega) ⟨(by first | omega | decide | (simp only [fa_lt, fa_le, fa_eq, and_true, true_and, and_false, false_and, not_true_eq_false, not_false_eq_true, li_0, li_1, li_2, li_3, li_4, li_5, li_6, li_7, li_8, li_9, li_10, li_12, li_15, li_16, li_20, li_30, li_34, li_38, li_40, li_63, li_64, li_65, li_78, li_120, li_1000, li_4000, li_10000, li_11077, li_255, li_65535, li_m1, li_m2, li_m1000000001, li_m1000000002, li_m1000000003, li_m1000000004, li_m1000000005, li_m1000000006, li_m1000000007, or_true, true_or, or_false, false_or, implies_true, true_implies, false_implies] <;> omega)), hP.sub [0, 1, 2, 3, 4, 5, 6] rfl, hD.sub [0, 1, 2, 3, 4, 5, 6] (by decide) rfl, hS, lv_sub hl [0, 2, 3] rfl⟩
      · skip
        have tc_10 : r_9.toInt = 0 := (fa_eq _ _).mp c_10
        refine lv_aload_n hx hb dX8_spare_47 rfl (lv_at hl 3 rfl) ?_
        refine va_get (D := (dC, dI)) (ci := 6) (v := .ref ah) (C := RX8) (T := TX8) (N := 8) hx hb hts inX8 hown hK hP 0 rfl rfl 0 (by decide) (hts _ (List.mem_of_getElem? (i := 1) rfl)) (fun _ h9 => h9) rfl dX8_spare_48 ?_
        refine lv_iload hx hb dX8_spare_51 (lv_at hl 0 rfl) ?_
        have hPc := hP.sub (ws' := [(ah, .inr (4, [.int sh, .ref q1, .ref q2, .int tn, .ref q3, .ref q4, w6, w7, w8])), (q1, .inl (c1, 9, .inl f1)), (q2, .inl (c2, 9, .inl f2)), (q3, .inl (c3, 4, .inl f3)), (q4, .inl (c4, 4, .inl f4))]) [2, 3, 4, 5, 6] rfl
        have hKc := hK.sub (tys' := [(c1, .int), (c2, .int), (c3, .int), (c4, .int)]) [1, 2, 3, 4] rfl
        refine vp_callSl (W.runV (As := [.int r_6]) (rest := []) ⟨hx, hb, hml, hown, hts⟩ (s_cellsOfHold l dC dI ad ah r_6 sh q1 q2 tn q3 q4 w6 w7 w8 c1 f1 c2 f2 c3 f3 c4 f4 hsh (by first | omega | decide | (simp only [fa_lt, fa_le, fa_eq, and_true, true_and, and_false, false_and, not_true_eq_false, not_false_eq_true, li_0, li_1, li_2, li_3, li_4, li_5, li_6, li_7, li_8, li_9, li_10, li_12, li_15, li_16, li_20, li_30, li_34, li_38, li_40, li_63, li_64, li_65, li_78, li_120, li_1000, li_4000, li_10000, li_11077, li_255, li_65535, li_m1, li_m2, li_m1000000001, li_m1000000002, li_m1000000003, li_m1000000004, li_m1000000005, li_m1000000006, li_m1000000007, or_true, true_or, or_false, false_or, implies_true, true_implies, false_implies] <;> omega))) (cwV 1 hts g_x_spare_s_cellsOfHold_145 rfl rfl rfl (by decide +kernel) ⟨(Nat.le_of_ble_eq_true rfl), (Nat.le_of_ble_eq_true rfl)⟩) ⟨preS_blind, va_recv hKc hPc (ci := 4) (q0 := 0) rfl rfl, fun U hU hW => ⟨rfl, preS_at hU hW hPc hKc hev⟩⟩ rfl rfl hl.1 rfl (lv_room (Nat.le_of_ble_eq_true rfl)) dX8_spare_53 ⟨(Nat.le_of_ble_eq_true rfl), (Nat.le_of_ble_eq_true rfl)⟩) (fun r_12 hw => ?_)
        refine lv_lload_n hx hb dX8_spare_56 rfl (lv_at hl 2 rfl) ?_
        refine lv_land hx hb dX8_spare_57 ?_
        refine lv_topl (fun n_13 en_13 => ?_)
        clear en_13
        refine lv_lconst (v := 0) hx hb dX8_spare_58 (by decide) ?_
        refine W.lcmp hx hb dX8_spare_59 ?_
        refine lv_topi (fun n_14 en_14 => ?_)
        refine lv_if_ne (tgt := 65) hx hb dX8_spare_60 (by decide) (fun c_15 => ?_) (fun c_15 => ?_)
        · skip
          have tc_15 : ¬ n_14.toInt = 0 := fun h => c_15 ((fa_eq _ _).mpr h)
          have zc_15 : ¬ n_13 = (0 : Int64) := pp_lc_ne en_14 c_15
          obtain ⟨n_16, en_16⟩ : ∃ y : Int32, y = v3_10 + 1 := ⟨_, rfl⟩
          have tn_16 : n_16.toInt = v3_10.toInt + 1 := pp_add en_16 rfl rfl (by omega) (by omega)
          refine lv_iinc (v := n_16) (lv' := [(3, .int n_16), (4, .int r_6), (1, .long r_1), (0, .ref h0)]) hx hb dX8_spare_65 hl (k := 1) rfl (by rw [en_16]; rfl) (by decide) rfl (fun ls hl => ?_)
          clear en_16
          refine lv_goto (tgt := 10) hx hb dX8_spare_68 (by decide) ?_
          exact ihk_2 n_16 _ _ _ (by show (sh.toInt - n_16.toInt).toNat < k_2; omega) ⟨(by first | omega | decide | (simp only [fa_lt, fa_le, fa_eq, and_true, true_and, and_false, false_and, not_true_eq_false, not_false_eq_true, li_0, li_1, li_2, li_3, li_4, li_5, li_6, li_7, li_8, li_9, li_10, li_12, li_15, li_16, li_20, li_30, li_34, li_38, li_40, li_63, li_64, li_65, li_78, li_120, li_1000, li_4000, li_10000, li_11077, li_255, li_65535, li_m1, li_m2, li_m1000000001, li_m1000000002, li_m1000000003, li_m1000000004, li_m1000000005, li_m1000000006, li_m1000000007, or_true, true_or, or_false, false_or, implies_true, true_implies, false_implies] <;> omega)), hP.sub [0, 1, 2, 3, 4, 5, 6] rfl, hD.sub [0, 1, 2, 3, 4, 5, 6] (by decide) rfl, hS, lv_sub hl [0, 2, 3] rfl⟩
        · skip
          have tc_15 : n_14.toInt = 0 := (fa_eq _ _).mp c_15
          refine lv_iload_n hx hb dX8_spare_63 rfl (lv_at hl 1 rfl) ?_
          have hP9 := hP.sub (ws' := [(h0, .inr (6, [.ref ah, v1, v2, v3, v4, v5, .ref t0, v7])), (t0, .inl (tc, 7, .inl tf)), (ah, .inr (4, [.int sh, .ref q1, .ref q2, .int tn, .ref q3, .ref q4, w6, w7, w8])), (q1, .inl (c1, 9, .inl f1)), (q2, .inl (c2, 9, .inl f2)), (q3, .inl (c3, 4, .inl f3)), (q4, .inl (c4, 4, .inl f4))]) [0, 1, 2, 3, 4, 5, 6] rfl
          have hD9 := hD.sub (ws' := [(h0, .inr (6, [.ref ah, v1, v2, v3, v4, v5, .ref t0, v7])), (t0, .inl (tc, 7, .inl tf)), (ah, .inr (4, [.int sh, .ref q1, .ref q2, .int tn, .ref q3, .ref q4, w6, w7, w8])), (q1, .inl (c1, 9, .inl f1)), (q2, .inl (c2, 9, .inl f2)), (q3, .inl (c3, 4, .inl f3)), (q4, .inl (c4, 4, .inl f4))]) [0, 1, 2, 3, 4, 5, 6] (by decide) rfl
          have hK9 := hK.sub (tys' := [(tc, .int), (c1, .int), (c2, .int), (c3, .int), (c4, .int)]) [0, 1, 2, 3, 4] rfl
          exact W.iret (v := v3_10) hx hb hr (fun t ht hW => ⟨⟨v3_10, (), rfl, trivial, tf, by rw [ht]; exact hP9, va_K.moved hW.alike hK9, hD9⟩, hS.F ht⟩) hS.2.2 dX8_spare_64

def w_x_scene : List Cond := .code yX8_scene cX8_scene 3 (some .int) :: (([.fieldLink RX8 10 "LampShapes" "now" "LLampShapes$Stage;", .methodLink RX8 150 yX6_hasRoomForScene, .instanceMethod yX6_hasRoomForScene, .selects RX6 yX6_hasRoomForScene yX6_hasRoomForScene, .initialized RX6, .code yX6_hasRoomForScene cX6_hasRoomForScene 1 (some .boolean), .fieldLink RX6 31 "LampShapes$Stage" "scenes" "I", .methodLink RX8 153 yX6_addScene, .instanceMethod yX6_addScene, .selects RX6 yX6_addScene yX6_addScene, .code yX6_addScene cX6_addScene 3 (some .int), .fieldLink RX6 34 "LampShapes$Stage" "pictures" "[J", .constant RX8 71 (-1000000002), .methodLink RX8 63 yX8_finding, .instanceMethod yX8_finding, .selects RX8 yX8_finding yX8_finding, .initialized RX8, .code yX8_finding cX8_finding 3 (some .int), .constant RX8 62 (-1000000001), .fieldLink RX8 46 "LampShapes" "told" "[I"] : List Cond) ++ wsX80 ++ wsX60)
set_option maxRecDepth 20000 in
theorem g_x_scene_s_hasRoomForScene_150 : GoodIn w_x_scene (wsV RX8 150 RX6 yX6_hasRoomForScene w_s_hasRoomForScene) := goodIn_r _ [2, 3, 4, 5, 6, 7, 29, 30, 31, 32, 33, 34, 35, 36, 37] rfl (by decide +kernel)
set_option maxRecDepth 20000 in
theorem g_x_scene_s_addScene_153 : GoodIn w_x_scene (wsV RX8 153 RX6 yX6_addScene w_s_addScene) := goodIn_r _ [8, 9, 10, 5, 11, 12, 7, 29, 30, 31, 32, 33, 34, 35, 36, 37] rfl (by decide +kernel)
set_option maxRecDepth 20000 in
theorem g_x_scene_f_full_63 : GoodIn w_x_scene (wsV RX8 63 RX8 yX8_finding w_f_full) := goodIn_r _ [14, 15, 16, 17, 18, 19, 20, 21, 22, 23, 24, 25, 26, 27, 28] rfl (by decide +kernel)
set_option maxHeartbeats 4000000 in
set_option maxRecDepth 100000 in
theorem x_scene (l : Launch) (dC : Nat → ClassId) (dI : Nat → Nat → Nat) (ad : Nat → Nat) (h0 : Nat) (a : Int64) (ah : Nat) (v1 : Value) (v2 : Value) (v3 : Value) (v4 : Value) (v5 : Value) (t0 : Nat) (v7 : Value) (tc : ClassId) (tf : Nat → Int32) (w0 : Value) (w1 : Value) (w2 : Value) (w3 : Value) (w4 : Value) (w5 : Value) (sc : Int32) (q5 : Nat) (w8 : Value) (c5 : ClassId) (f5 : Nat → Int64) (sz : Nat) (hsc : 0 ≤ sc.toInt ∧ sc.toInt ≤ 7) : Met l yX8_scene w_x_scene ({ frames := 1, cells := 0, slots := 0, locals := 22 } : Room) (va_Pc [.ref h0, .long a] (preM dC dI ad [(tc, .int), (c5, .long)] [(h0, .inr (6, [.ref ah, v1, v2, v3, v4, v5, .ref t0, v7])), (t0, .inl (tc, 7, .inl tf)), (ah, .inr (4, [w0, w1, w2, w3, w4, w5, .int sc, .ref q5, w8])), (q5, .inl (c5, 7, .inr (.inl f5)))] sz)) (va_Qi (fun (r : Int32) (_ : Unit) => True) (fun _ t => ∃ (tg : Nat → Int32), ∃ (sc2 : Int32), ∃ (g5 : Nat → Int64), (0 ≤ sc2.toInt ∧ sc2.toInt ≤ 7) ∧ va_P (dC, dI) vwCl [(h0, .inr (6, [.ref ah, v1, v2, v3, v4, v5, .ref t0, v7])), (t0, .inl (tc, 7, .inl tg)), (ah, .inr (4, [w0, w1, w2, w3, w4, w5, .int sc2, .ref q5, w8])), (q5, .inl (c5, 7, .inr (.inl g5)))] t.heap ∧ va_K (dC, dI) vwCl [(tc, .int), (c5, .long)] t ∧ va_D (va_A [(h0, .inr (6, [.ref ah, v1, v2, v3, v4, v5, .ref t0, v7])), (t0, .inl (tc, 7, .inl tf)), (ah, .inr (4, [w0, w1, w2, w3, w4, w5, .int sc, .ref q5, w8])), (q5, .inl (c5, 7, .inr (.inl f5)))] sz) [(h0, .inr (6, [.ref ah, v1, v2, v3, v4, v5, .ref t0, v7])), (t0, .inl (tc, 7, .inl tg)), (ah, .inr (4, [w0, w1, w2, w3, w4, w5, .int sc2, .ref q5, w8])), (q5, .inl (c5, 7, .inr (.inl g5)))]) (va_A [(h0, .inr (6, [.ref ah, v1, v2, v3, v4, v5, .ref t0, v7])), (t0, .inl (tc, 7, .inl tf)), (ah, .inr (4, [w0, w1, w2, w3, w4, w5, .int sc, .ref q5, w8])), (q5, .inl (c5, 7, .inr (.inl f5)))] sz)) 0 0 (va_A [(h0, .inr (6, [.ref ah, v1, v2, v3, v4, v5, .ref t0, v7])), (t0, .inl (tc, 7, .inl tf)), (ah, .inr (4, [w0, w1, w2, w3, w4, w5, .int sc, .ref q5, w8])), (q5, .inl (c5, 7, .inr (.inl f5)))] sz) := by
  refine Met.ofW (cc := cX8_scene) (maxL := 3) (ret := (some .int)) (by decide) rfl ?_
  intro p e s m args below meth c s₁ B hml hv
  obtain ⟨rfl, hsz, hP, hK, hD0, hev⟩ := hv
  have hx := B.exec
  have hb := B.bytes
  have hr := B.returns
  have hts := atoms_spec (ws := w_x_scene) B.pre
  have hown : s.vm.findClass RX8 = some m.cls := findClass_of_methodNamed B.named
  have hlocks := B.notSynchronized
  have inX8 : ∀ w ∈ wsX80, w ∈ w_x_scene := fun w h => List.mem_cons_of_mem _ (List.mem_append_left _ (List.mem_append_right _ h))
  have inX6 : ∀ w ∈ wsX60, w ∈ w_x_scene := fun w h => List.mem_cons_of_mem _ (List.mem_append_right _ h)
  subst hsz
  have hD := hD0.self (sz := s.heap.size)
  generalize hAe : va_A [(h0, .inr (6, [.ref ah, v1, v2, v3, v4, v5, .ref t0, v7])), (t0, .inl (tc, 7, .inl tf)), (ah, .inr (4, [w0, w1, w2, w3, w4, w5, .int sc, .ref q5, w8])), (q5, .inl (c5, 7, .inr (.inl f5)))] s.heap.size = A at hD ⊢
  have hA : ∀ q : Nat, s.heap.size ≤ q → A q := fun q h => by rw [← hAe]; exact Or.inr h
  have hS : va_S A s.heap s.heap [] := va_S.rf
  have hP : va_P (dC, dI) vwCl [(h0, .inr (6, [.ref ah, v1, v2, v3, v4, v5, .ref t0, v7])), (t0, .inl (tc, 7, .inl tf)), (ah, .inr (4, [w0, w1, w2, w3, w4, w5, .int sc, .ref q5, w8])), (q5, .inl (c5, 7, .inr (.inl f5)))] s.heap := hP
  have hl := lv_entry ([.ref h0, .long a]) (n := 3) (Nat.le_of_ble_eq_true rfl)
  rw [lg_entry_eq]
  generalize (lg_sl ([.ref h0, .long a]) ++ List.replicate (3 - (lg_sl ([.ref h0, .long a])).length) Slot.unset).toArray = ls at hl ⊢
  have hl : lv_has ls 3 [(0, .ref h0), (1, .long a)] := hl
  refine lv_aload_n hx hb dX8_scene_0 rfl (lv_at hl 0 rfl) ?_
  refine va_get (D := (dC, dI)) (ci := 6) (v := .ref ah) (C := RX8) (T := TX8) (N := 8) hx hb hts inX8 hown hK hP 0 rfl rfl 0 (by decide) (hts _ (List.mem_of_getElem? (i := 1) rfl)) (fun _ h9 => h9) rfl dX8_scene_1 ?_
  have hPc := hP.sub (ws' := [(ah, .inr (4, [w0, w1, w2, w3, w4, w5, .int sc, .ref q5, w8]))]) [2] rfl
  have hKc := hK.sub (tys' := []) [] rfl
  refine vp_callSi (W.runV (As := []) (rest := []) ⟨hx, hb, hml, hown, hts⟩ (s_hasRoomForScene l dC dI ad ah w0 w1 w2 w3 w4 w5 sc (.ref q5) w8 ) (cwV 0 hts g_x_scene_s_hasRoomForScene_150 rfl rfl rfl (by decide +kernel) ⟨(Nat.le_of_ble_eq_true rfl), (Nat.le_of_ble_eq_true rfl)⟩) ⟨preS_blind, va_recv hKc hPc (ci := 4) (q0 := 0) rfl rfl, fun U hU hW => ⟨rfl, preS_at hU hW hPc hKc hev⟩⟩ rfl rfl hl.1 rfl (lv_room (Nat.le_of_ble_eq_true rfl)) dX8_scene_4 ⟨(Nat.le_of_ble_eq_true rfl), (Nat.le_of_ble_eq_true rfl)⟩) (fun r_1 hw => ?_)
  have hr_1 : (r_1.toInt = 1 ∧ sc.toInt < 7) ∨ r_1.toInt = 0 := hw
  refine lv_if_ne (tgt := 17) hx hb dX8_scene_7 (by decide) (fun c_2 => ?_) (fun c_2 => ?_)
  · skip
    have tc_2 : ¬ r_1.toInt = 0 := fun h => c_2 ((fa_eq _ _).mpr h)
    refine lv_aload_n hx hb dX8_scene_17 rfl (lv_at hl 0 rfl) ?_
    refine va_get (D := (dC, dI)) (ci := 6) (v := .ref ah) (C := RX8) (T := TX8) (N := 8) hx hb hts inX8 hown hK hP 0 rfl rfl 0 (by decide) (hts _ (List.mem_of_getElem? (i := 1) rfl)) (fun _ h9 => h9) rfl dX8_scene_18 ?_
    refine lv_lload_n hx hb dX8_scene_21 rfl (lv_at hl 1 rfl) ?_
    have hPc := hP.sub (ws' := [(ah, .inr (4, [w0, w1, w2, w3, w4, w5, .int sc, .ref q5, w8])), (q5, .inl (c5, 7, .inr (.inl f5)))]) [2, 3] rfl
    have hKc := hK.sub (tys' := [(c5, .long)]) [1] rfl
    have hDc := hD.sub (ws' := [(ah, .inr (4, [w0, w1, w2, w3, w4, w5, .int sc, .ref q5, w8])), (q5, .inl (c5, 7, .inr (.inl f5)))]) [2, 3] (by decide) rfl
    have hFc := va_free (wc := [(ah, .inr (4, [w0, w1, w2, w3, w4, w5, .int sc, .ref q5, w8])), (q5, .inl (c5, 7, .inr (.inl f5)))]) hD hS hA [2, 3] rfl
    refine va_calli (va_runV (As := [.long a]) (rest := []) ⟨hx, hb, hml, hown, hts⟩ (s_addScene l dC dI ad ah a w0 w1 w2 w3 w4 w5 sc q5 w8 c5 f5 s.heap.size (by first | omega | decide | (simp only [fa_lt, fa_le, fa_eq, and_true, true_and, and_false, false_and, not_true_eq_false, not_false_eq_true, li_0, li_1, li_2, li_3, li_4, li_5, li_6, li_7, li_8, li_9, li_10, li_12, li_15, li_16, li_20, li_30, li_34, li_38, li_40, li_63, li_64, li_65, li_78, li_120, li_1000, li_4000, li_10000, li_11077, li_255, li_65535, li_m1, li_m2, li_m1000000001, li_m1000000002, li_m1000000003, li_m1000000004, li_m1000000005, li_m1000000006, li_m1000000007, or_true, true_or, or_false, false_or, implies_true, true_implies, false_implies] <;> omega))) (cwV 1 hts g_x_scene_s_addScene_153 rfl rfl rfl (by decide +kernel) ⟨(Nat.le_of_ble_eq_true rfl), (Nat.le_of_ble_eq_true rfl)⟩) ⟨preM_blind, va_recv hKc hPc (ci := 4) (q0 := 0) rfl rfl, fun U hU hW => ⟨rfl, preM_at hU hW hPc hKc hDc hev⟩⟩ rfl rfl hl.1 rfl (lv_room (Nat.le_of_ble_eq_true rfl)) dX8_scene_22 ⟨(Nat.le_of_ble_eq_true rfl), (Nat.le_of_ble_eq_true rfl)⟩) hS (fun q _ h => hFc q h) hFc (fun r_3 u t H1 locs ht hvm hw hB hz1 hk1 hS => ?_)
    obtain ⟨sc_4, g_5, hq_6, hP1, hK1, hD1⟩ := hB
    rw [ht] at hP1
    have hK1 := va_K.moved hvm.symm hK1
    obtain ⟨hP, hD⟩ := va_join (wr := [(h0, .inr (6, [.ref ah, v1, v2, v3, v4, v5, .ref t0, v7])), (t0, .inl (tc, 7, .inl tf))]) (w1 := [(ah, .inr (4, [w0, w1, w2, w3, w4, w5, .int sc_4, .ref q5, w8])), (q5, .inl (c5, 7, .inr (.inl g_5)))]) hP hD [2, 3] [0, 1] rfl rfl (by decide) (by decide) hk1 hFc hP1 hD1
    generalize H1 = H at hP hS ⊢
    have hP : va_P (dC, dI) vwCl [(h0, .inr (6, [.ref ah, v1, v2, v3, v4, v5, .ref t0, v7])), (t0, .inl (tc, 7, .inl tf)), (ah, .inr (4, [w0, w1, w2, w3, w4, w5, .int sc_4, .ref q5, w8])), (q5, .inl (c5, 7, .inr (.inl g_5)))] H := hP
    have hD : va_D A [(h0, .inr (6, [.ref ah, v1, v2, v3, v4, v5, .ref t0, v7])), (t0, .inl (tc, 7, .inl tf)), (ah, .inr (4, [w0, w1, w2, w3, w4, w5, .int sc_4, .ref q5, w8])), (q5, .inl (c5, 7, .inr (.inl g_5)))] := hD
    have hP9 := hP.sub (ws' := [(h0, .inr (6, [.ref ah, v1, v2, v3, v4, v5, .ref t0, v7])), (t0, .inl (tc, 7, .inl tf)), (ah, .inr (4, [w0, w1, w2, w3, w4, w5, .int sc_4, .ref q5, w8])), (q5, .inl (c5, 7, .inr (.inl g_5)))]) [0, 1, 2, 3] rfl
    have hD9 := hD.sub (ws' := [(h0, .inr (6, [.ref ah, v1, v2, v3, v4, v5, .ref t0, v7])), (t0, .inl (tc, 7, .inl tf)), (ah, .inr (4, [w0, w1, w2, w3, w4, w5, .int sc_4, .ref q5, w8])), (q5, .inl (c5, 7, .inr (.inl g_5)))]) [0, 1, 2, 3] (by decide) rfl
    have hK9 := hK.sub (tys' := [(tc, .int), (c5, .long)]) [0, 1] rfl
    exact W.iret (v := r_3) hx hb hr (fun t ht hW => ⟨⟨r_3, (), rfl, trivial, tf, sc_4, g_5, (by first | omega | decide | (simp only [fa_lt, fa_le, fa_eq, and_true, true_and, and_false, false_and, not_true_eq_false, not_false_eq_true, li_0, li_1, li_2, li_3, li_4, li_5, li_6, li_7, li_8, li_9, li_10, li_12, li_15, li_16, li_20, li_30, li_34, li_38, li_40, li_63, li_64, li_65, li_78, li_120, li_1000, li_4000, li_10000, li_11077, li_255, li_65535, li_m1, li_m2, li_m1000000001, li_m1000000002, li_m1000000003, li_m1000000004, li_m1000000005, li_m1000000006, li_m1000000007, or_true, true_or, or_false, false_or, implies_true, true_implies, false_implies] <;> omega)), by rw [ht]; exact hP9, va_K.moved hW.alike hK9, hD9⟩, hS.F ht⟩) hS.2.2 dX8_scene_25
  · skip
    have tc_2 : r_1.toInt = 0 := (fa_eq _ _).mp c_2
    refine lv_aload_n hx hb dX8_scene_10 rfl (lv_at hl 0 rfl) ?_
    refine lv_ldc hx hb hown (hts _ (List.mem_of_getElem? (i := 13) rfl)) dX8_scene_11 ?_
    have hPc := hP.sub (ws' := [(h0, .inr (6, [.ref ah, v1, v2, v3, v4, v5, .ref t0, v7])), (t0, .inl (tc, 7, .inl tf))]) [0, 1] rfl
    have hKc := hK.sub (tys' := [(tc, .int)]) [0] rfl
    have hDc := hD.sub (ws' := [(h0, .inr (6, [.ref ah, v1, v2, v3, v4, v5, .ref t0, v7])), (t0, .inl (tc, 7, .inl tf))]) [0, 1] (by decide) rfl
    have hFc := va_free (wc := [(h0, .inr (6, [.ref ah, v1, v2, v3, v4, v5, .ref t0, v7])), (t0, .inl (tc, 7, .inl tf))]) hD hS hA [0, 1] rfl
    refine va_calli (va_runV (As := [.int (-1000000002)]) (rest := []) ⟨hx, hb, hml, hown, hts⟩ (f_full l dC dI ad h0 (.ref ah) v1 v2 v3 v4 v5 t0 v7 tc tf s.heap.size ) (cwV 1 hts g_x_scene_f_full_63 rfl rfl rfl (by decide +kernel) ⟨(Nat.le_of_ble_eq_true rfl), (Nat.le_of_ble_eq_true rfl)⟩) ⟨preM_blind, va_recv hKc hPc (ci := 6) (q0 := 0) rfl rfl, fun U hU hW => ⟨rfl, preM_at hU hW hPc hKc hDc hev⟩⟩ rfl rfl hl.1 rfl (lv_room (Nat.le_of_ble_eq_true rfl)) dX8_scene_13 ⟨(Nat.le_of_ble_eq_true rfl), (Nat.le_of_ble_eq_true rfl)⟩) hS (fun q _ h => hFc q h) hFc (fun r_7 u t H1 locs ht hvm hw hB hz1 hk1 hS => ?_)
    obtain ⟨tg_8, hP1, hK1, hD1⟩ := hB
    rw [ht] at hP1
    have hK1 := va_K.moved hvm.symm hK1
    obtain ⟨hP, hD⟩ := va_join (wr := [(ah, .inr (4, [w0, w1, w2, w3, w4, w5, .int sc, .ref q5, w8])), (q5, .inl (c5, 7, .inr (.inl f5)))]) (w1 := [(h0, .inr (6, [.ref ah, v1, v2, v3, v4, v5, .ref t0, v7])), (t0, .inl (tc, 7, .inl tg_8))]) hP hD [0, 1] [2, 3] rfl rfl (by decide) (by decide) hk1 hFc hP1 hD1
    generalize H1 = H at hP hS ⊢
    have hP : va_P (dC, dI) vwCl [(ah, .inr (4, [w0, w1, w2, w3, w4, w5, .int sc, .ref q5, w8])), (q5, .inl (c5, 7, .inr (.inl f5))), (h0, .inr (6, [.ref ah, v1, v2, v3, v4, v5, .ref t0, v7])), (t0, .inl (tc, 7, .inl tg_8))] H := hP
    have hD : va_D A [(ah, .inr (4, [w0, w1, w2, w3, w4, w5, .int sc, .ref q5, w8])), (q5, .inl (c5, 7, .inr (.inl f5))), (h0, .inr (6, [.ref ah, v1, v2, v3, v4, v5, .ref t0, v7])), (t0, .inl (tc, 7, .inl tg_8))] := hD
    subst hw
    have hP9 := hP.sub (ws' := [(h0, .inr (6, [.ref ah, v1, v2, v3, v4, v5, .ref t0, v7])), (t0, .inl (tc, 7, .inl tg_8)), (ah, .inr (4, [w0, w1, w2, w3, w4, w5, .int sc, .ref q5, w8])), (q5, .inl (c5, 7, .inr (.inl f5)))]) [2, 3, 0, 1] rfl
    have hD9 := hD.sub (ws' := [(h0, .inr (6, [.ref ah, v1, v2, v3, v4, v5, .ref t0, v7])), (t0, .inl (tc, 7, .inl tg_8)), (ah, .inr (4, [w0, w1, w2, w3, w4, w5, .int sc, .ref q5, w8])), (q5, .inl (c5, 7, .inr (.inl f5)))]) [2, 3, 0, 1] (by decide) rfl
    have hK9 := hK.sub (tys' := [(tc, .int), (c5, .long)]) [0, 1] rfl
    exact W.iret (v := ((-1000000002) : Int32)) hx hb hr (fun t ht hW => ⟨⟨((-1000000002) : Int32), (), rfl, trivial, tg_8, sc, f5, hsc, by rw [ht]; exact hP9, va_K.moved hW.alike hK9, hD9⟩, hS.F ht⟩) hS.2.2 dX8_scene_16

def w_x_draw : List Cond := .code yX8_draw cX8_draw 4 (some .int) :: (([.fieldLink RX8 10 "LampShapes" "now" "LLampShapes$Stage;", .methodLink RX8 157 yX6_hasScene, .instanceMethod yX6_hasScene, .selects RX6 yX6_hasScene yX6_hasScene, .initialized RX6, .code yX6_hasScene cX6_hasScene 2 (some .boolean), .fieldLink RX6 31 "LampShapes$Stage" "scenes" "I", .methodLink RX8 134 yX6_darkCells, .instanceMethod yX6_darkCells, .selects RX6 yX6_darkCells yX6_darkCells, .code yX6_darkCells cX6_darkCells 4 (some .long), .methodLink RX6 88 yX6_cellsOfHold, .instanceMethod yX6_cellsOfHold, .selects RX6 yX6_cellsOfHold yX6_cellsOfHold, .code yX6_cellsOfHold cX6_cellsOfHold 3 (some .long), .fieldLink RX6 25 "LampShapes$Stage" "heldShapes" "[I", .methodLink RX6 78 yX6_hasShape, .instanceMethod yX6_hasShape, .selects RX6 yX6_hasShape yX6_hasShape, .code yX6_hasShape cX6_hasShape 2 (some .boolean), .fieldLink RX6 9 "LampShapes$Stage" "shapes" "I", .methodLink RX6 82 yX6_isTorn, .instanceMethod yX6_isTorn, .selects RX6 yX6_isTorn yX6_isTorn, .code yX6_isTorn cX6_isTorn 2 (some .boolean), .fieldLink RX6 22 "LampShapes$Stage" "tornShapes" "I", .fieldLink RX6 28 "LampShapes$Stage" "heldPlacings" "[I", .methodLink RX6 85 yX6_cellsBy, .instanceMethod yX6_cellsBy, .selects RX6 yX6_cellsBy yX6_cellsBy, .code yX6_cellsBy cX6_cellsBy 4 (some .long), .methodLink RX6 59 yX6_cornerBy, .instanceMethod yX6_cornerBy, .selects RX6 yX6_cornerBy yX6_cornerBy, .code yX6_cornerBy cX6_cornerBy 4 (some .long), .fieldLink RX6 15 "LampShapes$Stage" "kinds" "[I", .fieldLink RX6 19 "LampShapes$Stage" "points" "[I", .methodLink RX6 47 yX0_pointsBy, .static yX0_pointsBy, .initialized RX0, .code yX0_pointsBy cX0_pointsBy 3 (some .int), .methodLink RX0 15 yX0_turnedBy, .static yX0_turnedBy, .code yX0_turnedBy cX0_turnedBy 6 (some .int), .methodLink RX0 19 yX0_mirroredBy, .static yX0_mirroredBy, .code yX0_mirroredBy cX0_mirroredBy 2 (some .int), .constant RX0 31 (34952), .methodLink RX0 22 yX0_hollowed, .static yX0_hollowed, .code yX0_hollowed cX0_hollowed 5 (some .int), .constant RX0 32 (61166), .methodLink RX0 25 yX0_doubled, .static yX0_doubled, .code yX0_doubled cX0_doubled 1 (some .int), .constant RX0 33 (65535), .methodLink RX0 28 yX0_filled, .static yX0_filled, .code yX0_filled cX0_filled 6 (some .int), .methodLink RX6 53 yX1_cellsAtCorner, .static yX1_cellsAtCorner, .initialized RX1, .code yX1_cellsAtCorner cX1_cellsAtCorner 8 (some .long), .constantLong RX1 9 (771), .methodLink RX6 62 yX1_moved, .static yX1_moved, .code yX1_moved cX1_moved 6 (some .long), .constantLong RX1 13 (72340172838076673), .methodLink RX8 164 yX1_cellsOff, .static yX1_cellsOff, .code yX1_cellsOff cX1_cellsOff 4 (some .int), .methodLink RX1 15 yJ13_bitCount_95d88, .static yJ13_bitCount_95d88, .initialized RJ13, .code yJ13_bitCount_95d88 cJ13_bitCount_95d88 2 (some .int), .constantLong RJ13 314 (6148914691236517205), .constantLong RJ13 316 (3689348814741910323), .constantLong RJ13 318 (1085102592571150095), .constant RX8 62 (-1000000001), .methodLink RX8 63 yX8_finding, .instanceMethod yX8_finding, .selects RX8 yX8_finding yX8_finding, .initialized RX8, .code yX8_finding cX8_finding 3 (some .int), .fieldLink RX8 46 "LampShapes" "told" "[I"] : List Cond) ++ wsX80 ++ wsX60)
set_option maxRecDepth 20000 in
theorem g_x_draw_s_hasScene_157 : GoodIn w_x_draw (wsV RX8 157 RX6 yX6_hasScene w_s_hasScene) := goodIn_r _ [2, 3, 4, 5, 6, 7, 94, 95, 96, 97, 98, 99, 100, 101, 102] rfl (by decide +kernel)
set_option maxRecDepth 20000 in
theorem g_x_draw_s_darkCells_134 : GoodIn w_x_draw (wsV RX8 134 RX6 yX6_darkCells w_s_darkCells) := goodIn_r _ [8, 9, 10, 5, 11, 12, 13, 14, 5, 15, 16, 17, 18, 19, 20, 21, 22, 23, 24, 25, 26, 27, 28, 29, 30, 31, 32, 33, 34, 35, 36, 37, 38, 39, 40, 41, 42, 43, 44, 45, 46, 47, 48, 49, 50, 51, 52, 53, 54, 55, 56, 57, 58, 59, 60, 61, 62, 63, 64, 65, 66, 67, 68, 94, 95, 96, 97, 98, 99, 100, 101, 102] rfl (by decide +kernel)
set_option maxRecDepth 20000 in
theorem g_x_draw_l_cellsOff_164 : GoodIn w_x_draw (va_wsS RX8 164 yX1_cellsOff w_l_cellsOff) := goodIn_r _ [69, 70, 62, 71, 72, 73, 74, 75, 76, 77, 78] rfl (by decide +kernel)
set_option maxRecDepth 20000 in
theorem g_x_draw_f_beyond_63 : GoodIn w_x_draw (wsV RX8 63 RX8 yX8_finding w_f_beyond) := goodIn_r _ [80, 81, 82, 83, 84, 79, 85, 86, 87, 88, 89, 90, 91, 92, 93] rfl (by decide +kernel)
set_option maxHeartbeats 4000000 in
set_option maxRecDepth 100000 in
theorem x_draw (l : Launch) (dC : Nat → ClassId) (dI : Nat → Nat → Nat) (ad : Nat → Nat) (h0 : Nat) (a : Int32) (ah : Nat) (v1 : Value) (v2 : Value) (v3 : Value) (v4 : Value) (v5 : Value) (t0 : Nat) (v7 : Value) (tc : ClassId) (tf : Nat → Int32) (sh : Int32) (q1 : Nat) (q2 : Nat) (tn : Int32) (q3 : Nat) (q4 : Nat) (sc : Int32) (q5 : Nat) (w8 : Value) (c1 : ClassId) (f1 : Nat → Int32) (c2 : ClassId) (f2 : Nat → Int32) (c3 : ClassId) (f3 : Nat → Int32) (c4 : ClassId) (f4 : Nat → Int32) (c5 : ClassId) (f5 : Nat → Int64) (sz : Nat) (hsh : 0 ≤ sh.toInt ∧ sh.toInt ≤ 9) (hsc : 0 ≤ sc.toInt ∧ sc.toInt ≤ 7) : Met l yX8_draw w_x_draw ({ frames := 6, cells := 0, slots := 0, locals := 138 } : Room) (va_Pc [.ref h0, .int a] (preM dC dI ad [(tc, .int), (c1, .int), (c2, .int), (c3, .int), (c4, .int), (c5, .long)] [(h0, .inr (6, [.ref ah, v1, v2, v3, v4, v5, .ref t0, v7])), (t0, .inl (tc, 7, .inl tf)), (ah, .inr (4, [.int sh, .ref q1, .ref q2, .int tn, .ref q3, .ref q4, .int sc, .ref q5, w8])), (q1, .inl (c1, 9, .inl f1)), (q2, .inl (c2, 9, .inl f2)), (q3, .inl (c3, 4, .inl f3)), (q4, .inl (c4, 4, .inl f4)), (q5, .inl (c5, 7, .inr (.inl f5)))] sz)) (va_Qi (fun (r : Int32) (_ : Unit) => True) (fun _ t => ∃ (tg : Nat → Int32), ∃ (g5 : Nat → Int64), va_P (dC, dI) vwCl [(h0, .inr (6, [.ref ah, v1, v2, v3, v4, v5, .ref t0, v7])), (t0, .inl (tc, 7, .inl tg)), (ah, .inr (4, [.int sh, .ref q1, .ref q2, .int tn, .ref q3, .ref q4, .int sc, .ref q5, w8])), (q1, .inl (c1, 9, .inl f1)), (q2, .inl (c2, 9, .inl f2)), (q3, .inl (c3, 4, .inl f3)), (q4, .inl (c4, 4, .inl f4)), (q5, .inl (c5, 7, .inr (.inl g5)))] t.heap ∧ va_K (dC, dI) vwCl [(tc, .int), (c1, .int), (c2, .int), (c3, .int), (c4, .int), (c5, .long)] t ∧ va_D (va_A [(h0, .inr (6, [.ref ah, v1, v2, v3, v4, v5, .ref t0, v7])), (t0, .inl (tc, 7, .inl tf)), (ah, .inr (4, [.int sh, .ref q1, .ref q2, .int tn, .ref q3, .ref q4, .int sc, .ref q5, w8])), (q1, .inl (c1, 9, .inl f1)), (q2, .inl (c2, 9, .inl f2)), (q3, .inl (c3, 4, .inl f3)), (q4, .inl (c4, 4, .inl f4)), (q5, .inl (c5, 7, .inr (.inl f5)))] sz) [(h0, .inr (6, [.ref ah, v1, v2, v3, v4, v5, .ref t0, v7])), (t0, .inl (tc, 7, .inl tg)), (ah, .inr (4, [.int sh, .ref q1, .ref q2, .int tn, .ref q3, .ref q4, .int sc, .ref q5, w8])), (q1, .inl (c1, 9, .inl f1)), (q2, .inl (c2, 9, .inl f2)), (q3, .inl (c3, 4, .inl f3)), (q4, .inl (c4, 4, .inl f4)), (q5, .inl (c5, 7, .inr (.inl g5)))]) (va_A [(h0, .inr (6, [.ref ah, v1, v2, v3, v4, v5, .ref t0, v7])), (t0, .inl (tc, 7, .inl tf)), (ah, .inr (4, [.int sh, .ref q1, .ref q2, .int tn, .ref q3, .ref q4, .int sc, .ref q5, w8])), (q1, .inl (c1, 9, .inl f1)), (q2, .inl (c2, 9, .inl f2)), (q3, .inl (c3, 4, .inl f3)), (q4, .inl (c4, 4, .inl f4)), (q5, .inl (c5, 7, .inr (.inl f5)))] sz)) 0 0 (va_A [(h0, .inr (6, [.ref ah, v1, v2, v3, v4, v5, .ref t0, v7])), (t0, .inl (tc, 7, .inl tf)), (ah, .inr (4, [.int sh, .ref q1, .ref q2, .int tn, .ref q3, .ref q4, .int sc, .ref q5, w8])), (q1, .inl (c1, 9, .inl f1)), (q2, .inl (c2, 9, .inl f2)), (q3, .inl (c3, 4, .inl f3)), (q4, .inl (c4, 4, .inl f4)), (q5, .inl (c5, 7, .inr (.inl f5)))] sz) := by
  refine Met.ofW (cc := cX8_draw) (maxL := 4) (ret := (some .int)) (by decide) rfl ?_
  intro p e s m args below meth c s₁ B hml hv
  obtain ⟨rfl, hsz, hP, hK, hD0, hev⟩ := hv
  have hx := B.exec
  have hb := B.bytes
  have hr := B.returns
  have hts := atoms_spec (ws := w_x_draw) B.pre
  have hown : s.vm.findClass RX8 = some m.cls := findClass_of_methodNamed B.named
  have hlocks := B.notSynchronized
  have inX8 : ∀ w ∈ wsX80, w ∈ w_x_draw := fun w h => List.mem_cons_of_mem _ (List.mem_append_left _ (List.mem_append_right _ h))
  have inX6 : ∀ w ∈ wsX60, w ∈ w_x_draw := fun w h => List.mem_cons_of_mem _ (List.mem_append_right _ h)
  subst hsz
  have hD := hD0.self (sz := s.heap.size)
  generalize hAe : va_A [(h0, .inr (6, [.ref ah, v1, v2, v3, v4, v5, .ref t0, v7])), (t0, .inl (tc, 7, .inl tf)), (ah, .inr (4, [.int sh, .ref q1, .ref q2, .int tn, .ref q3, .ref q4, .int sc, .ref q5, w8])), (q1, .inl (c1, 9, .inl f1)), (q2, .inl (c2, 9, .inl f2)), (q3, .inl (c3, 4, .inl f3)), (q4, .inl (c4, 4, .inl f4)), (q5, .inl (c5, 7, .inr (.inl f5)))] s.heap.size = A at hD ⊢
  have hA : ∀ q : Nat, s.heap.size ≤ q → A q := fun q h => by rw [← hAe]; exact Or.inr h
  have hS : va_S A s.heap s.heap [] := va_S.rf
  have hP : va_P (dC, dI) vwCl [(h0, .inr (6, [.ref ah, v1, v2, v3, v4, v5, .ref t0, v7])), (t0, .inl (tc, 7, .inl tf)), (ah, .inr (4, [.int sh, .ref q1, .ref q2, .int tn, .ref q3, .ref q4, .int sc, .ref q5, w8])), (q1, .inl (c1, 9, .inl f1)), (q2, .inl (c2, 9, .inl f2)), (q3, .inl (c3, 4, .inl f3)), (q4, .inl (c4, 4, .inl f4)), (q5, .inl (c5, 7, .inr (.inl f5)))] s.heap := hP
  have hl := lv_entry ([.ref h0, .int a]) (n := 4) (Nat.le_of_ble_eq_true rfl)
  rw [lg_entry_eq]
  generalize (lg_sl ([.ref h0, .int a]) ++ List.replicate (4 - (lg_sl ([.ref h0, .int a])).length) Slot.unset).toArray = ls at hl ⊢
  have hl : lv_has ls 4 [(0, .ref h0), (1, .int a)] := hl
  refine lv_aload_n hx hb dX8_draw_0 rfl (lv_at hl 0 rfl) ?_
  refine va_get (D := (dC, dI)) (ci := 6) (v := .ref ah) (C := RX8) (T := TX8) (N := 8) hx hb hts inX8 hown hK hP 0 rfl rfl 0 (by decide) (hts _ (List.mem_of_getElem? (i := 1) rfl)) (fun _ h9 => h9) rfl dX8_draw_1 ?_
  refine lv_iload_n hx hb dX8_draw_4 rfl (lv_at hl 1 rfl) ?_
  have hPc := hP.sub (ws' := [(ah, .inr (4, [.int sh, .ref q1, .ref q2, .int tn, .ref q3, .ref q4, .int sc, .ref q5, w8]))]) [2] rfl
  have hKc := hK.sub (tys' := []) [] rfl
  refine vp_callSi (W.runV (As := [.int a]) (rest := []) ⟨hx, hb, hml, hown, hts⟩ (s_hasScene l dC dI ad ah a (.int sh) (.ref q1) (.ref q2) (.int tn) (.ref q3) (.ref q4) sc (.ref q5) w8 ) (cwV 1 hts g_x_draw_s_hasScene_157 rfl rfl rfl (by decide +kernel) ⟨(Nat.le_of_ble_eq_true rfl), (Nat.le_of_ble_eq_true rfl)⟩) ⟨preS_blind, va_recv hKc hPc (ci := 4) (q0 := 0) rfl rfl, fun U hU hW => ⟨rfl, preS_at hU hW hPc hKc hev⟩⟩ rfl rfl hl.1 rfl (lv_room (Nat.le_of_ble_eq_true rfl)) dX8_draw_5 ⟨(Nat.le_of_ble_eq_true rfl), (Nat.le_of_ble_eq_true rfl)⟩) (fun r_1 hw => ?_)
  have hr_1 : (r_1.toInt = 1 ∧ 0 ≤ a.toInt ∧ a.toInt < sc.toInt) ∨ r_1.toInt = 0 := hw
  refine lv_if_ne (tgt := 18) hx hb dX8_draw_8 (by decide) (fun c_2 => ?_) (fun c_2 => ?_)
  · skip
    have tc_2 : ¬ r_1.toInt = 0 := fun h => c_2 ((fa_eq _ _).mpr h)
    refine lv_aload_n hx hb dX8_draw_18 rfl (lv_at hl 0 rfl) ?_
    refine va_get (D := (dC, dI)) (ci := 6) (v := .ref ah) (C := RX8) (T := TX8) (N := 8) hx hb hts inX8 hown hK hP 0 rfl rfl 0 (by decide) (hts _ (List.mem_of_getElem? (i := 1) rfl)) (fun _ h9 => h9) rfl dX8_draw_19 ?_
    refine va_getN (D := (dC, dI)) (ci := 4) (v := .ref q5) (C := RX6) (T := TX6) (N := 9) hx hb hts inX6 hown hK hP 2 rfl rfl 7 (by decide) (ev_nest hev 10 rfl) (fun _ h9 => h9) rfl dX8_draw_22 ?_
    refine lv_iload_n hx hb dX8_draw_25 rfl (lv_at hl 1 rfl) ?_
    refine va_lald hx hb hK hP 7 5 rfl rfl (vp_in_iff.mpr ⟨by omega, by omega⟩) dX8_draw_26 ?_
    refine lv_topl (fun n_3 en_3 => ?_)
    clear en_3
    refine lv_lstore_n (lv' := [(2, .long n_3), (0, .ref h0), (1, .int a)]) hx hb dX8_draw_27 rfl hl (by decide) rfl (fun ls hl => ?_)
    refine lv_aload_n hx hb dX8_draw_28 rfl (lv_at hl 1 rfl) ?_
    refine va_get (D := (dC, dI)) (ci := 6) (v := .ref ah) (C := RX8) (T := TX8) (N := 8) hx hb hts inX8 hown hK hP 0 rfl rfl 0 (by decide) (hts _ (List.mem_of_getElem? (i := 1) rfl)) (fun _ h9 => h9) rfl dX8_draw_29 ?_
    refine va_getN (D := (dC, dI)) (ci := 4) (v := .ref q5) (C := RX6) (T := TX6) (N := 9) hx hb hts inX6 hown hK hP 2 rfl rfl 7 (by decide) (ev_nest hev 10 rfl) (fun _ h9 => h9) rfl dX8_draw_32 ?_
    refine lv_iload_n hx hb dX8_draw_35 rfl (lv_at hl 2 rfl) ?_
    refine lv_aload_n hx hb dX8_draw_36 rfl (lv_at hl 1 rfl) ?_
    refine va_get (D := (dC, dI)) (ci := 6) (v := .ref ah) (C := RX8) (T := TX8) (N := 8) hx hb hts inX8 hown hK hP 0 rfl rfl 0 (by decide) (hts _ (List.mem_of_getElem? (i := 1) rfl)) (fun _ h9 => h9) rfl dX8_draw_37 ?_
    have hPc := hP.sub (ws' := [(ah, .inr (4, [.int sh, .ref q1, .ref q2, .int tn, .ref q3, .ref q4, .int sc, .ref q5, w8])), (q1, .inl (c1, 9, .inl f1)), (q2, .inl (c2, 9, .inl f2)), (q3, .inl (c3, 4, .inl f3)), (q4, .inl (c4, 4, .inl f4))]) [2, 3, 4, 5, 6] rfl
    have hKc := hK.sub (tys' := [(c1, .int), (c2, .int), (c3, .int), (c4, .int)]) [1, 2, 3, 4] rfl
    refine vp_callSl (W.runV (As := []) (rest := [.int a, .ref q5]) ⟨hx, hb, hml, hown, hts⟩ (s_darkCells l dC dI ad ah sh q1 q2 tn q3 q4 (.int sc) (.ref q5) w8 c1 f1 c2 f2 c3 f3 c4 f4 hsh) (cwV 0 hts g_x_draw_s_darkCells_134 rfl rfl rfl (by decide +kernel) ⟨(Nat.le_of_ble_eq_true rfl), (Nat.le_of_ble_eq_true rfl)⟩) ⟨preS_blind, va_recv hKc hPc (ci := 4) (q0 := 0) rfl rfl, fun U hU hW => ⟨rfl, preS_at hU hW hPc hKc hev⟩⟩ rfl rfl hl.1 rfl (lv_room (Nat.le_of_ble_eq_true rfl)) dX8_draw_40 ⟨(Nat.le_of_ble_eq_true rfl), (Nat.le_of_ble_eq_true rfl)⟩) (fun r_4 hw => ?_)
    refine va_last hx hb hK hP hD hS 7 5 rfl rfl (vp_in_iff.mpr ⟨by omega, by omega⟩) dX8_draw_43 (fun H locs hP hD hS => ?_)
    have hP : va_P (dC, dI) vwCl [(h0, .inr (6, [.ref ah, v1, v2, v3, v4, v5, .ref t0, v7])), (t0, .inl (tc, 7, .inl tf)), (ah, .inr (4, [.int sh, .ref q1, .ref q2, .int tn, .ref q3, .ref q4, .int sc, .ref q5, w8])), (q1, .inl (c1, 9, .inl f1)), (q2, .inl (c2, 9, .inl f2)), (q3, .inl (c3, 4, .inl f3)), (q4, .inl (c4, 4, .inl f4)), (q5, .inl (c5, 7, .inr (.inl (vp_updL f5 a.toNatClampNeg r_4))))] H := hP
    have hD : va_D A [(h0, .inr (6, [.ref ah, v1, v2, v3, v4, v5, .ref t0, v7])), (t0, .inl (tc, 7, .inl tf)), (ah, .inr (4, [.int sh, .ref q1, .ref q2, .int tn, .ref q3, .ref q4, .int sc, .ref q5, w8])), (q1, .inl (c1, 9, .inl f1)), (q2, .inl (c2, 9, .inl f2)), (q3, .inl (c3, 4, .inl f3)), (q4, .inl (c4, 4, .inl f4)), (q5, .inl (c5, 7, .inr (.inl (vp_updL f5 a.toNatClampNeg r_4))))] := hD
    refine lv_lload_n hx hb dX8_draw_44 rfl (lv_at hl 0 rfl) ?_
    refine lv_aload_n hx hb dX8_draw_45 rfl (lv_at hl 1 rfl) ?_
    refine va_get (D := (dC, dI)) (ci := 6) (v := .ref ah) (C := RX8) (T := TX8) (N := 8) hx hb hts inX8 hown hK hP 0 rfl rfl 0 (by decide) (hts _ (List.mem_of_getElem? (i := 1) rfl)) (fun _ h9 => h9) rfl dX8_draw_46 ?_
    refine va_getN (D := (dC, dI)) (ci := 4) (v := .ref q5) (C := RX6) (T := TX6) (N := 9) hx hb hts inX6 hown hK hP 2 rfl rfl 7 (by decide) (ev_nest hev 10 rfl) (fun _ h9 => h9) rfl dX8_draw_49 ?_
    refine lv_iload_n hx hb dX8_draw_52 rfl (lv_at hl 2 rfl) ?_
    refine va_lald hx hb hK hP 7 5 rfl rfl (vp_in_iff.mpr ⟨by omega, by omega⟩) dX8_draw_53 ?_
    refine lv_topl (fun n_5 en_5 => ?_)
    clear en_5
    have hPc := hP.sub (ws' := []) [] rfl
    have hKc := hK.sub (tys' := []) [] rfl
    refine vp_callSi (W.runS (As := [.long n_3, .long n_5]) (rest := []) ⟨hx, hb, hml, hown, hts⟩ (l_cellsOff l dC dI ad n_3 n_5 ) (va_cwS 2 hts g_x_draw_l_cellsOff_164 rfl rfl rfl (by decide +kernel) ⟨(Nat.le_of_ble_eq_true rfl), (Nat.le_of_ble_eq_true rfl)⟩) ⟨preS_blind, fun U hU hW => ⟨rfl, preS_at hU hW hPc hKc hev⟩⟩ rfl rfl hl.1 rfl (lv_room (Nat.le_of_ble_eq_true rfl)) dX8_draw_54 ⟨(Nat.le_of_ble_eq_true rfl), (Nat.le_of_ble_eq_true rfl)⟩) (fun r_6 hw => ?_)
    have hP9 := hP.sub (ws' := [(h0, .inr (6, [.ref ah, v1, v2, v3, v4, v5, .ref t0, v7])), (t0, .inl (tc, 7, .inl tf)), (ah, .inr (4, [.int sh, .ref q1, .ref q2, .int tn, .ref q3, .ref q4, .int sc, .ref q5, w8])), (q1, .inl (c1, 9, .inl f1)), (q2, .inl (c2, 9, .inl f2)), (q3, .inl (c3, 4, .inl f3)), (q4, .inl (c4, 4, .inl f4)), (q5, .inl (c5, 7, .inr (.inl (vp_updL f5 a.toNatClampNeg r_4))))]) [0, 1, 2, 3, 4, 5, 6, 7] rfl
    have hD9 := hD.sub (ws' := [(h0, .inr (6, [.ref ah, v1, v2, v3, v4, v5, .ref t0, v7])), (t0, .inl (tc, 7, .inl tf)), (ah, .inr (4, [.int sh, .ref q1, .ref q2, .int tn, .ref q3, .ref q4, .int sc, .ref q5, w8])), (q1, .inl (c1, 9, .inl f1)), (q2, .inl (c2, 9, .inl f2)), (q3, .inl (c3, 4, .inl f3)), (q4, .inl (c4, 4, .inl f4)), (q5, .inl (c5, 7, .inr (.inl (vp_updL f5 a.toNatClampNeg r_4))))]) [0, 1, 2, 3, 4, 5, 6, 7] (by decide) rfl
    have hK9 := hK.sub (tys' := [(tc, .int), (c1, .int), (c2, .int), (c3, .int), (c4, .int), (c5, .long)]) [0, 1, 2, 3, 4, 5] rfl
    exact W.iret (v := r_6) hx hb hr (fun t ht hW => ⟨⟨r_6, (), rfl, trivial, tf, vp_updL f5 a.toNatClampNeg r_4, by rw [ht]; exact hP9, va_K.moved hW.alike hK9, hD9⟩, hS.F ht⟩) hS.2.2 dX8_draw_57
  · skip
    have tc_2 : r_1.toInt = 0 := (fa_eq _ _).mp c_2
    refine lv_aload_n hx hb dX8_draw_11 rfl (lv_at hl 0 rfl) ?_
    refine lv_ldc hx hb hown (hts _ (List.mem_of_getElem? (i := 79) rfl)) dX8_draw_12 ?_
    have hPc := hP.sub (ws' := [(h0, .inr (6, [.ref ah, v1, v2, v3, v4, v5, .ref t0, v7])), (t0, .inl (tc, 7, .inl tf))]) [0, 1] rfl
    have hKc := hK.sub (tys' := [(tc, .int)]) [0] rfl
    have hDc := hD.sub (ws' := [(h0, .inr (6, [.ref ah, v1, v2, v3, v4, v5, .ref t0, v7])), (t0, .inl (tc, 7, .inl tf))]) [0, 1] (by decide) rfl
    have hFc := va_free (wc := [(h0, .inr (6, [.ref ah, v1, v2, v3, v4, v5, .ref t0, v7])), (t0, .inl (tc, 7, .inl tf))]) hD hS hA [0, 1] rfl
    refine va_calli (va_runV (As := [.int (-1000000001)]) (rest := []) ⟨hx, hb, hml, hown, hts⟩ (f_beyond l dC dI ad h0 (.ref ah) v1 v2 v3 v4 v5 t0 v7 tc tf s.heap.size ) (cwV 1 hts g_x_draw_f_beyond_63 rfl rfl rfl (by decide +kernel) ⟨(Nat.le_of_ble_eq_true rfl), (Nat.le_of_ble_eq_true rfl)⟩) ⟨preM_blind, va_recv hKc hPc (ci := 6) (q0 := 0) rfl rfl, fun U hU hW => ⟨rfl, preM_at hU hW hPc hKc hDc hev⟩⟩ rfl rfl hl.1 rfl (lv_room (Nat.le_of_ble_eq_true rfl)) dX8_draw_14 ⟨(Nat.le_of_ble_eq_true rfl), (Nat.le_of_ble_eq_true rfl)⟩) hS (fun q _ h => hFc q h) hFc (fun r_7 u t H1 locs ht hvm hw hB hz1 hk1 hS => ?_)
    obtain ⟨tg_8, hP1, hK1, hD1⟩ := hB
    rw [ht] at hP1
    have hK1 := va_K.moved hvm.symm hK1
    obtain ⟨hP, hD⟩ := va_join (wr := [(ah, .inr (4, [.int sh, .ref q1, .ref q2, .int tn, .ref q3, .ref q4, .int sc, .ref q5, w8])), (q1, .inl (c1, 9, .inl f1)), (q2, .inl (c2, 9, .inl f2)), (q3, .inl (c3, 4, .inl f3)), (q4, .inl (c4, 4, .inl f4)), (q5, .inl (c5, 7, .inr (.inl f5)))]) (w1 := [(h0, .inr (6, [.ref ah, v1, v2, v3, v4, v5, .ref t0, v7])), (t0, .inl (tc, 7, .inl tg_8))]) hP hD [0, 1] [2, 3, 4, 5, 6, 7] rfl rfl (by decide) (by decide) hk1 hFc hP1 hD1
    generalize H1 = H at hP hS ⊢
    have hP : va_P (dC, dI) vwCl [(ah, .inr (4, [.int sh, .ref q1, .ref q2, .int tn, .ref q3, .ref q4, .int sc, .ref q5, w8])), (q1, .inl (c1, 9, .inl f1)), (q2, .inl (c2, 9, .inl f2)), (q3, .inl (c3, 4, .inl f3)), (q4, .inl (c4, 4, .inl f4)), (q5, .inl (c5, 7, .inr (.inl f5))), (h0, .inr (6, [.ref ah, v1, v2, v3, v4, v5, .ref t0, v7])), (t0, .inl (tc, 7, .inl tg_8))] H := hP
    have hD : va_D A [(ah, .inr (4, [.int sh, .ref q1, .ref q2, .int tn, .ref q3, .ref q4, .int sc, .ref q5, w8])), (q1, .inl (c1, 9, .inl f1)), (q2, .inl (c2, 9, .inl f2)), (q3, .inl (c3, 4, .inl f3)), (q4, .inl (c4, 4, .inl f4)), (q5, .inl (c5, 7, .inr (.inl f5))), (h0, .inr (6, [.ref ah, v1, v2, v3, v4, v5, .ref t0, v7])), (t0, .inl (tc, 7, .inl tg_8))] := hD
    subst hw
    have hP9 := hP.sub (ws' := [(h0, .inr (6, [.ref ah, v1, v2, v3, v4, v5, .ref t0, v7])), (t0, .inl (tc, 7, .inl tg_8)), (ah, .inr (4, [.int sh, .ref q1, .ref q2, .int tn, .ref q3, .ref q4, .int sc, .ref q5, w8])), (q1, .inl (c1, 9, .inl f1)), (q2, .inl (c2, 9, .inl f2)), (q3, .inl (c3, 4, .inl f3)), (q4, .inl (c4, 4, .inl f4)), (q5, .inl (c5, 7, .inr (.inl f5)))]) [6, 7, 0, 1, 2, 3, 4, 5] rfl
    have hD9 := hD.sub (ws' := [(h0, .inr (6, [.ref ah, v1, v2, v3, v4, v5, .ref t0, v7])), (t0, .inl (tc, 7, .inl tg_8)), (ah, .inr (4, [.int sh, .ref q1, .ref q2, .int tn, .ref q3, .ref q4, .int sc, .ref q5, w8])), (q1, .inl (c1, 9, .inl f1)), (q2, .inl (c2, 9, .inl f2)), (q3, .inl (c3, 4, .inl f3)), (q4, .inl (c4, 4, .inl f4)), (q5, .inl (c5, 7, .inr (.inl f5)))]) [6, 7, 0, 1, 2, 3, 4, 5] (by decide) rfl
    have hK9 := hK.sub (tys' := [(tc, .int), (c1, .int), (c2, .int), (c3, .int), (c4, .int), (c5, .long)]) [0, 1, 2, 3, 4, 5] rfl
    exact W.iret (v := ((-1000000001) : Int32)) hx hb hr (fun t ht hW => ⟨⟨((-1000000001) : Int32), (), rfl, trivial, tg_8, f5, by rw [ht]; exact hP9, va_K.moved hW.alike hK9, hD9⟩, hS.F ht⟩) hS.2.2 dX8_draw_17

def w_x_off : List Cond := .code yX8_off cX8_off 2 (some .int) :: (([.fieldLink RX8 10 "LampShapes" "now" "LLampShapes$Stage;", .methodLink RX8 157 yX6_hasScene, .instanceMethod yX6_hasScene, .selects RX6 yX6_hasScene yX6_hasScene, .initialized RX6, .code yX6_hasScene cX6_hasScene 2 (some .boolean), .fieldLink RX6 31 "LampShapes$Stage" "scenes" "I", .methodLink RX8 134 yX6_darkCells, .instanceMethod yX6_darkCells, .selects RX6 yX6_darkCells yX6_darkCells, .code yX6_darkCells cX6_darkCells 4 (some .long), .methodLink RX6 88 yX6_cellsOfHold, .instanceMethod yX6_cellsOfHold, .selects RX6 yX6_cellsOfHold yX6_cellsOfHold, .code yX6_cellsOfHold cX6_cellsOfHold 3 (some .long), .fieldLink RX6 25 "LampShapes$Stage" "heldShapes" "[I", .methodLink RX6 78 yX6_hasShape, .instanceMethod yX6_hasShape, .selects RX6 yX6_hasShape yX6_hasShape, .code yX6_hasShape cX6_hasShape 2 (some .boolean), .fieldLink RX6 9 "LampShapes$Stage" "shapes" "I", .methodLink RX6 82 yX6_isTorn, .instanceMethod yX6_isTorn, .selects RX6 yX6_isTorn yX6_isTorn, .code yX6_isTorn cX6_isTorn 2 (some .boolean), .fieldLink RX6 22 "LampShapes$Stage" "tornShapes" "I", .fieldLink RX6 28 "LampShapes$Stage" "heldPlacings" "[I", .methodLink RX6 85 yX6_cellsBy, .instanceMethod yX6_cellsBy, .selects RX6 yX6_cellsBy yX6_cellsBy, .code yX6_cellsBy cX6_cellsBy 4 (some .long), .methodLink RX6 59 yX6_cornerBy, .instanceMethod yX6_cornerBy, .selects RX6 yX6_cornerBy yX6_cornerBy, .code yX6_cornerBy cX6_cornerBy 4 (some .long), .fieldLink RX6 15 "LampShapes$Stage" "kinds" "[I", .fieldLink RX6 19 "LampShapes$Stage" "points" "[I", .methodLink RX6 47 yX0_pointsBy, .static yX0_pointsBy, .initialized RX0, .code yX0_pointsBy cX0_pointsBy 3 (some .int), .methodLink RX0 15 yX0_turnedBy, .static yX0_turnedBy, .code yX0_turnedBy cX0_turnedBy 6 (some .int), .methodLink RX0 19 yX0_mirroredBy, .static yX0_mirroredBy, .code yX0_mirroredBy cX0_mirroredBy 2 (some .int), .constant RX0 31 (34952), .methodLink RX0 22 yX0_hollowed, .static yX0_hollowed, .code yX0_hollowed cX0_hollowed 5 (some .int), .constant RX0 32 (61166), .methodLink RX0 25 yX0_doubled, .static yX0_doubled, .code yX0_doubled cX0_doubled 1 (some .int), .constant RX0 33 (65535), .methodLink RX0 28 yX0_filled, .static yX0_filled, .code yX0_filled cX0_filled 6 (some .int), .methodLink RX6 53 yX1_cellsAtCorner, .static yX1_cellsAtCorner, .initialized RX1, .code yX1_cellsAtCorner cX1_cellsAtCorner 8 (some .long), .constantLong RX1 9 (771), .methodLink RX6 62 yX1_moved, .static yX1_moved, .code yX1_moved cX1_moved 6 (some .long), .constantLong RX1 13 (72340172838076673), .methodLink RX8 164 yX1_cellsOff, .static yX1_cellsOff, .code yX1_cellsOff cX1_cellsOff 4 (some .int), .methodLink RX1 15 yJ13_bitCount_95d88, .static yJ13_bitCount_95d88, .initialized RJ13, .code yJ13_bitCount_95d88 cJ13_bitCount_95d88 2 (some .int), .constantLong RJ13 314 (6148914691236517205), .constantLong RJ13 316 (3689348814741910323), .constantLong RJ13 318 (1085102592571150095), .constant RX8 62 (-1000000001), .methodLink RX8 63 yX8_finding, .instanceMethod yX8_finding, .selects RX8 yX8_finding yX8_finding, .initialized RX8, .code yX8_finding cX8_finding 3 (some .int), .fieldLink RX8 46 "LampShapes" "told" "[I"] : List Cond) ++ wsX80 ++ wsX60)
set_option maxRecDepth 20000 in
theorem g_x_off_s_hasScene_157 : GoodIn w_x_off (wsV RX8 157 RX6 yX6_hasScene w_s_hasScene) := goodIn_r _ [2, 3, 4, 5, 6, 7, 94, 95, 96, 97, 98, 99, 100, 101, 102] rfl (by decide +kernel)
set_option maxRecDepth 20000 in
theorem g_x_off_s_darkCells_134 : GoodIn w_x_off (wsV RX8 134 RX6 yX6_darkCells w_s_darkCells) := goodIn_r _ [8, 9, 10, 5, 11, 12, 13, 14, 5, 15, 16, 17, 18, 19, 20, 21, 22, 23, 24, 25, 26, 27, 28, 29, 30, 31, 32, 33, 34, 35, 36, 37, 38, 39, 40, 41, 42, 43, 44, 45, 46, 47, 48, 49, 50, 51, 52, 53, 54, 55, 56, 57, 58, 59, 60, 61, 62, 63, 64, 65, 66, 67, 68, 94, 95, 96, 97, 98, 99, 100, 101, 102] rfl (by decide +kernel)
set_option maxRecDepth 20000 in
theorem g_x_off_l_cellsOff_164 : GoodIn w_x_off (va_wsS RX8 164 yX1_cellsOff w_l_cellsOff) := goodIn_r _ [69, 70, 62, 71, 72, 73, 74, 75, 76, 77, 78] rfl (by decide +kernel)
set_option maxRecDepth 20000 in
theorem g_x_off_f_beyond_63 : GoodIn w_x_off (wsV RX8 63 RX8 yX8_finding w_f_beyond) := goodIn_r _ [80, 81, 82, 83, 84, 79, 85, 86, 87, 88, 89, 90, 91, 92, 93] rfl (by decide +kernel)
set_option maxHeartbeats 4000000 in
set_option maxRecDepth 100000 in
theorem x_off (l : Launch) (dC : Nat → ClassId) (dI : Nat → Nat → Nat) (ad : Nat → Nat) (h0 : Nat) (a : Int32) (ah : Nat) (v1 : Value) (v2 : Value) (v3 : Value) (v4 : Value) (v5 : Value) (t0 : Nat) (v7 : Value) (tc : ClassId) (tf : Nat → Int32) (sh : Int32) (q1 : Nat) (q2 : Nat) (tn : Int32) (q3 : Nat) (q4 : Nat) (sc : Int32) (q5 : Nat) (w8 : Value) (c1 : ClassId) (f1 : Nat → Int32) (c2 : ClassId) (f2 : Nat → Int32) (c3 : ClassId) (f3 : Nat → Int32) (c4 : ClassId) (f4 : Nat → Int32) (c5 : ClassId) (f5 : Nat → Int64) (sz : Nat) (hsh : 0 ≤ sh.toInt ∧ sh.toInt ≤ 9) (hsc : 0 ≤ sc.toInt ∧ sc.toInt ≤ 7) : Met l yX8_off w_x_off ({ frames := 6, cells := 0, slots := 0, locals := 138 } : Room) (va_Pc [.ref h0, .int a] (preM dC dI ad [(tc, .int), (c1, .int), (c2, .int), (c3, .int), (c4, .int), (c5, .long)] [(h0, .inr (6, [.ref ah, v1, v2, v3, v4, v5, .ref t0, v7])), (t0, .inl (tc, 7, .inl tf)), (ah, .inr (4, [.int sh, .ref q1, .ref q2, .int tn, .ref q3, .ref q4, .int sc, .ref q5, w8])), (q1, .inl (c1, 9, .inl f1)), (q2, .inl (c2, 9, .inl f2)), (q3, .inl (c3, 4, .inl f3)), (q4, .inl (c4, 4, .inl f4)), (q5, .inl (c5, 7, .inr (.inl f5)))] sz)) (va_Qi (fun (r : Int32) (_ : Unit) => True) (fun _ t => ∃ (tg : Nat → Int32), va_P (dC, dI) vwCl [(h0, .inr (6, [.ref ah, v1, v2, v3, v4, v5, .ref t0, v7])), (t0, .inl (tc, 7, .inl tg)), (ah, .inr (4, [.int sh, .ref q1, .ref q2, .int tn, .ref q3, .ref q4, .int sc, .ref q5, w8])), (q1, .inl (c1, 9, .inl f1)), (q2, .inl (c2, 9, .inl f2)), (q3, .inl (c3, 4, .inl f3)), (q4, .inl (c4, 4, .inl f4)), (q5, .inl (c5, 7, .inr (.inl f5)))] t.heap ∧ va_K (dC, dI) vwCl [(tc, .int), (c1, .int), (c2, .int), (c3, .int), (c4, .int), (c5, .long)] t ∧ va_D (va_A [(h0, .inr (6, [.ref ah, v1, v2, v3, v4, v5, .ref t0, v7])), (t0, .inl (tc, 7, .inl tf)), (ah, .inr (4, [.int sh, .ref q1, .ref q2, .int tn, .ref q3, .ref q4, .int sc, .ref q5, w8])), (q1, .inl (c1, 9, .inl f1)), (q2, .inl (c2, 9, .inl f2)), (q3, .inl (c3, 4, .inl f3)), (q4, .inl (c4, 4, .inl f4)), (q5, .inl (c5, 7, .inr (.inl f5)))] sz) [(h0, .inr (6, [.ref ah, v1, v2, v3, v4, v5, .ref t0, v7])), (t0, .inl (tc, 7, .inl tg)), (ah, .inr (4, [.int sh, .ref q1, .ref q2, .int tn, .ref q3, .ref q4, .int sc, .ref q5, w8])), (q1, .inl (c1, 9, .inl f1)), (q2, .inl (c2, 9, .inl f2)), (q3, .inl (c3, 4, .inl f3)), (q4, .inl (c4, 4, .inl f4)), (q5, .inl (c5, 7, .inr (.inl f5)))]) (va_A [(h0, .inr (6, [.ref ah, v1, v2, v3, v4, v5, .ref t0, v7])), (t0, .inl (tc, 7, .inl tf)), (ah, .inr (4, [.int sh, .ref q1, .ref q2, .int tn, .ref q3, .ref q4, .int sc, .ref q5, w8])), (q1, .inl (c1, 9, .inl f1)), (q2, .inl (c2, 9, .inl f2)), (q3, .inl (c3, 4, .inl f3)), (q4, .inl (c4, 4, .inl f4)), (q5, .inl (c5, 7, .inr (.inl f5)))] sz)) 0 0 (va_A [(h0, .inr (6, [.ref ah, v1, v2, v3, v4, v5, .ref t0, v7])), (t0, .inl (tc, 7, .inl tf)), (ah, .inr (4, [.int sh, .ref q1, .ref q2, .int tn, .ref q3, .ref q4, .int sc, .ref q5, w8])), (q1, .inl (c1, 9, .inl f1)), (q2, .inl (c2, 9, .inl f2)), (q3, .inl (c3, 4, .inl f3)), (q4, .inl (c4, 4, .inl f4)), (q5, .inl (c5, 7, .inr (.inl f5)))] sz) := by
  refine Met.ofW (cc := cX8_off) (maxL := 2) (ret := (some .int)) (by decide) rfl ?_
  intro p e s m args below meth c s₁ B hml hv
  obtain ⟨rfl, hsz, hP, hK, hD0, hev⟩ := hv
  have hx := B.exec
  have hb := B.bytes
  have hr := B.returns
  have hts := atoms_spec (ws := w_x_off) B.pre
  have hown : s.vm.findClass RX8 = some m.cls := findClass_of_methodNamed B.named
  have hlocks := B.notSynchronized
  have inX8 : ∀ w ∈ wsX80, w ∈ w_x_off := fun w h => List.mem_cons_of_mem _ (List.mem_append_left _ (List.mem_append_right _ h))
  have inX6 : ∀ w ∈ wsX60, w ∈ w_x_off := fun w h => List.mem_cons_of_mem _ (List.mem_append_right _ h)
  subst hsz
  have hD := hD0.self (sz := s.heap.size)
  generalize hAe : va_A [(h0, .inr (6, [.ref ah, v1, v2, v3, v4, v5, .ref t0, v7])), (t0, .inl (tc, 7, .inl tf)), (ah, .inr (4, [.int sh, .ref q1, .ref q2, .int tn, .ref q3, .ref q4, .int sc, .ref q5, w8])), (q1, .inl (c1, 9, .inl f1)), (q2, .inl (c2, 9, .inl f2)), (q3, .inl (c3, 4, .inl f3)), (q4, .inl (c4, 4, .inl f4)), (q5, .inl (c5, 7, .inr (.inl f5)))] s.heap.size = A at hD ⊢
  have hA : ∀ q : Nat, s.heap.size ≤ q → A q := fun q h => by rw [← hAe]; exact Or.inr h
  have hS : va_S A s.heap s.heap [] := va_S.rf
  have hP : va_P (dC, dI) vwCl [(h0, .inr (6, [.ref ah, v1, v2, v3, v4, v5, .ref t0, v7])), (t0, .inl (tc, 7, .inl tf)), (ah, .inr (4, [.int sh, .ref q1, .ref q2, .int tn, .ref q3, .ref q4, .int sc, .ref q5, w8])), (q1, .inl (c1, 9, .inl f1)), (q2, .inl (c2, 9, .inl f2)), (q3, .inl (c3, 4, .inl f3)), (q4, .inl (c4, 4, .inl f4)), (q5, .inl (c5, 7, .inr (.inl f5)))] s.heap := hP
  have hl := lv_entry ([.ref h0, .int a]) (n := 2) (Nat.le_of_ble_eq_true rfl)
  rw [lg_entry_eq]
  generalize (lg_sl ([.ref h0, .int a]) ++ List.replicate (2 - (lg_sl ([.ref h0, .int a])).length) Slot.unset).toArray = ls at hl ⊢
  have hl : lv_has ls 2 [(0, .ref h0), (1, .int a)] := hl
  refine lv_aload_n hx hb dX8_off_0 rfl (lv_at hl 0 rfl) ?_
  refine va_get (D := (dC, dI)) (ci := 6) (v := .ref ah) (C := RX8) (T := TX8) (N := 8) hx hb hts inX8 hown hK hP 0 rfl rfl 0 (by decide) (hts _ (List.mem_of_getElem? (i := 1) rfl)) (fun _ h9 => h9) rfl dX8_off_1 ?_
  refine lv_iload_n hx hb dX8_off_4 rfl (lv_at hl 1 rfl) ?_
  have hPc := hP.sub (ws' := [(ah, .inr (4, [.int sh, .ref q1, .ref q2, .int tn, .ref q3, .ref q4, .int sc, .ref q5, w8]))]) [2] rfl
  have hKc := hK.sub (tys' := []) [] rfl
  refine vp_callSi (W.runV (As := [.int a]) (rest := []) ⟨hx, hb, hml, hown, hts⟩ (s_hasScene l dC dI ad ah a (.int sh) (.ref q1) (.ref q2) (.int tn) (.ref q3) (.ref q4) sc (.ref q5) w8 ) (cwV 1 hts g_x_off_s_hasScene_157 rfl rfl rfl (by decide +kernel) ⟨(Nat.le_of_ble_eq_true rfl), (Nat.le_of_ble_eq_true rfl)⟩) ⟨preS_blind, va_recv hKc hPc (ci := 4) (q0 := 0) rfl rfl, fun U hU hW => ⟨rfl, preS_at hU hW hPc hKc hev⟩⟩ rfl rfl hl.1 rfl (lv_room (Nat.le_of_ble_eq_true rfl)) dX8_off_5 ⟨(Nat.le_of_ble_eq_true rfl), (Nat.le_of_ble_eq_true rfl)⟩) (fun r_1 hw => ?_)
  have hr_1 : (r_1.toInt = 1 ∧ 0 ≤ a.toInt ∧ a.toInt < sc.toInt) ∨ r_1.toInt = 0 := hw
  refine lv_if_ne (tgt := 18) hx hb dX8_off_8 (by decide) (fun c_2 => ?_) (fun c_2 => ?_)
  · skip
    have tc_2 : ¬ r_1.toInt = 0 := fun h => c_2 ((fa_eq _ _).mpr h)
    refine lv_aload_n hx hb dX8_off_18 rfl (lv_at hl 0 rfl) ?_
    refine va_get (D := (dC, dI)) (ci := 6) (v := .ref ah) (C := RX8) (T := TX8) (N := 8) hx hb hts inX8 hown hK hP 0 rfl rfl 0 (by decide) (hts _ (List.mem_of_getElem? (i := 1) rfl)) (fun _ h9 => h9) rfl dX8_off_19 ?_
    have hPc := hP.sub (ws' := [(ah, .inr (4, [.int sh, .ref q1, .ref q2, .int tn, .ref q3, .ref q4, .int sc, .ref q5, w8])), (q1, .inl (c1, 9, .inl f1)), (q2, .inl (c2, 9, .inl f2)), (q3, .inl (c3, 4, .inl f3)), (q4, .inl (c4, 4, .inl f4))]) [2, 3, 4, 5, 6] rfl
    have hKc := hK.sub (tys' := [(c1, .int), (c2, .int), (c3, .int), (c4, .int)]) [1, 2, 3, 4] rfl
    refine vp_callSl (W.runV (As := []) (rest := []) ⟨hx, hb, hml, hown, hts⟩ (s_darkCells l dC dI ad ah sh q1 q2 tn q3 q4 (.int sc) (.ref q5) w8 c1 f1 c2 f2 c3 f3 c4 f4 hsh) (cwV 0 hts g_x_off_s_darkCells_134 rfl rfl rfl (by decide +kernel) ⟨(Nat.le_of_ble_eq_true rfl), (Nat.le_of_ble_eq_true rfl)⟩) ⟨preS_blind, va_recv hKc hPc (ci := 4) (q0 := 0) rfl rfl, fun U hU hW => ⟨rfl, preS_at hU hW hPc hKc hev⟩⟩ rfl rfl hl.1 rfl (lv_room (Nat.le_of_ble_eq_true rfl)) dX8_off_22 ⟨(Nat.le_of_ble_eq_true rfl), (Nat.le_of_ble_eq_true rfl)⟩) (fun r_3 hw => ?_)
    refine lv_aload_n hx hb dX8_off_25 rfl (lv_at hl 0 rfl) ?_
    refine va_get (D := (dC, dI)) (ci := 6) (v := .ref ah) (C := RX8) (T := TX8) (N := 8) hx hb hts inX8 hown hK hP 0 rfl rfl 0 (by decide) (hts _ (List.mem_of_getElem? (i := 1) rfl)) (fun _ h9 => h9) rfl dX8_off_26 ?_
    refine va_getN (D := (dC, dI)) (ci := 4) (v := .ref q5) (C := RX6) (T := TX6) (N := 9) hx hb hts inX6 hown hK hP 2 rfl rfl 7 (by decide) (ev_nest hev 10 rfl) (fun _ h9 => h9) rfl dX8_off_29 ?_
    refine lv_iload_n hx hb dX8_off_32 rfl (lv_at hl 1 rfl) ?_
    refine va_lald hx hb hK hP 7 5 rfl rfl (vp_in_iff.mpr ⟨by omega, by omega⟩) dX8_off_33 ?_
    refine lv_topl (fun n_4 en_4 => ?_)
    clear en_4
    have hPc := hP.sub (ws' := []) [] rfl
    have hKc := hK.sub (tys' := []) [] rfl
    refine vp_callSi (W.runS (As := [.long r_3, .long n_4]) (rest := []) ⟨hx, hb, hml, hown, hts⟩ (l_cellsOff l dC dI ad r_3 n_4 ) (va_cwS 2 hts g_x_off_l_cellsOff_164 rfl rfl rfl (by decide +kernel) ⟨(Nat.le_of_ble_eq_true rfl), (Nat.le_of_ble_eq_true rfl)⟩) ⟨preS_blind, fun U hU hW => ⟨rfl, preS_at hU hW hPc hKc hev⟩⟩ rfl rfl hl.1 rfl (lv_room (Nat.le_of_ble_eq_true rfl)) dX8_off_34 ⟨(Nat.le_of_ble_eq_true rfl), (Nat.le_of_ble_eq_true rfl)⟩) (fun r_5 hw => ?_)
    have hP9 := hP.sub (ws' := [(h0, .inr (6, [.ref ah, v1, v2, v3, v4, v5, .ref t0, v7])), (t0, .inl (tc, 7, .inl tf)), (ah, .inr (4, [.int sh, .ref q1, .ref q2, .int tn, .ref q3, .ref q4, .int sc, .ref q5, w8])), (q1, .inl (c1, 9, .inl f1)), (q2, .inl (c2, 9, .inl f2)), (q3, .inl (c3, 4, .inl f3)), (q4, .inl (c4, 4, .inl f4)), (q5, .inl (c5, 7, .inr (.inl f5)))]) [0, 1, 2, 3, 4, 5, 6, 7] rfl
    have hD9 := hD.sub (ws' := [(h0, .inr (6, [.ref ah, v1, v2, v3, v4, v5, .ref t0, v7])), (t0, .inl (tc, 7, .inl tf)), (ah, .inr (4, [.int sh, .ref q1, .ref q2, .int tn, .ref q3, .ref q4, .int sc, .ref q5, w8])), (q1, .inl (c1, 9, .inl f1)), (q2, .inl (c2, 9, .inl f2)), (q3, .inl (c3, 4, .inl f3)), (q4, .inl (c4, 4, .inl f4)), (q5, .inl (c5, 7, .inr (.inl f5)))]) [0, 1, 2, 3, 4, 5, 6, 7] (by decide) rfl
    have hK9 := hK.sub (tys' := [(tc, .int), (c1, .int), (c2, .int), (c3, .int), (c4, .int), (c5, .long)]) [0, 1, 2, 3, 4, 5] rfl
    exact W.iret (v := r_5) hx hb hr (fun t ht hW => ⟨⟨r_5, (), rfl, trivial, tf, by rw [ht]; exact hP9, va_K.moved hW.alike hK9, hD9⟩, hS.F ht⟩) hS.2.2 dX8_off_37
  · skip
    have tc_2 : r_1.toInt = 0 := (fa_eq _ _).mp c_2
    refine lv_aload_n hx hb dX8_off_11 rfl (lv_at hl 0 rfl) ?_
    refine lv_ldc hx hb hown (hts _ (List.mem_of_getElem? (i := 79) rfl)) dX8_off_12 ?_
    have hPc := hP.sub (ws' := [(h0, .inr (6, [.ref ah, v1, v2, v3, v4, v5, .ref t0, v7])), (t0, .inl (tc, 7, .inl tf))]) [0, 1] rfl
    have hKc := hK.sub (tys' := [(tc, .int)]) [0] rfl
    have hDc := hD.sub (ws' := [(h0, .inr (6, [.ref ah, v1, v2, v3, v4, v5, .ref t0, v7])), (t0, .inl (tc, 7, .inl tf))]) [0, 1] (by decide) rfl
    have hFc := va_free (wc := [(h0, .inr (6, [.ref ah, v1, v2, v3, v4, v5, .ref t0, v7])), (t0, .inl (tc, 7, .inl tf))]) hD hS hA [0, 1] rfl
    refine va_calli (va_runV (As := [.int (-1000000001)]) (rest := []) ⟨hx, hb, hml, hown, hts⟩ (f_beyond l dC dI ad h0 (.ref ah) v1 v2 v3 v4 v5 t0 v7 tc tf s.heap.size ) (cwV 1 hts g_x_off_f_beyond_63 rfl rfl rfl (by decide +kernel) ⟨(Nat.le_of_ble_eq_true rfl), (Nat.le_of_ble_eq_true rfl)⟩) ⟨preM_blind, va_recv hKc hPc (ci := 6) (q0 := 0) rfl rfl, fun U hU hW => ⟨rfl, preM_at hU hW hPc hKc hDc hev⟩⟩ rfl rfl hl.1 rfl (lv_room (Nat.le_of_ble_eq_true rfl)) dX8_off_14 ⟨(Nat.le_of_ble_eq_true rfl), (Nat.le_of_ble_eq_true rfl)⟩) hS (fun q _ h => hFc q h) hFc (fun r_6 u t H1 locs ht hvm hw hB hz1 hk1 hS => ?_)
    obtain ⟨tg_7, hP1, hK1, hD1⟩ := hB
    rw [ht] at hP1
    have hK1 := va_K.moved hvm.symm hK1
    obtain ⟨hP, hD⟩ := va_join (wr := [(ah, .inr (4, [.int sh, .ref q1, .ref q2, .int tn, .ref q3, .ref q4, .int sc, .ref q5, w8])), (q1, .inl (c1, 9, .inl f1)), (q2, .inl (c2, 9, .inl f2)), (q3, .inl (c3, 4, .inl f3)), (q4, .inl (c4, 4, .inl f4)), (q5, .inl (c5, 7, .inr (.inl f5)))]) (w1 := [(h0, .inr (6, [.ref ah, v1, v2, v3, v4, v5, .ref t0, v7])), (t0, .inl (tc, 7, .inl tg_7))]) hP hD [0, 1] [2, 3, 4, 5, 6, 7] rfl rfl (by decide) (by decide) hk1 hFc hP1 hD1
    generalize H1 = H at hP hS ⊢
    have hP : va_P (dC, dI) vwCl [(ah, .inr (4, [.int sh, .ref q1, .ref q2, .int tn, .ref q3, .ref q4, .int sc, .ref q5, w8])), (q1, .inl (c1, 9, .inl f1)), (q2, .inl (c2, 9, .inl f2)), (q3, .inl (c3, 4, .inl f3)), (q4, .inl (c4, 4, .inl f4)), (q5, .inl (c5, 7, .inr (.inl f5))), (h0, .inr (6, [.ref ah, v1, v2, v3, v4, v5, .ref t0, v7])), (t0, .inl (tc, 7, .inl tg_7))] H := hP
    have hD : va_D A [(ah, .inr (4, [.int sh, .ref q1, .ref q2, .int tn, .ref q3, .ref q4, .int sc, .ref q5, w8])), (q1, .inl (c1, 9, .inl f1)), (q2, .inl (c2, 9, .inl f2)), (q3, .inl (c3, 4, .inl f3)), (q4, .inl (c4, 4, .inl f4)), (q5, .inl (c5, 7, .inr (.inl f5))), (h0, .inr (6, [.ref ah, v1, v2, v3, v4, v5, .ref t0, v7])), (t0, .inl (tc, 7, .inl tg_7))] := hD
    subst hw
    have hP9 := hP.sub (ws' := [(h0, .inr (6, [.ref ah, v1, v2, v3, v4, v5, .ref t0, v7])), (t0, .inl (tc, 7, .inl tg_7)), (ah, .inr (4, [.int sh, .ref q1, .ref q2, .int tn, .ref q3, .ref q4, .int sc, .ref q5, w8])), (q1, .inl (c1, 9, .inl f1)), (q2, .inl (c2, 9, .inl f2)), (q3, .inl (c3, 4, .inl f3)), (q4, .inl (c4, 4, .inl f4)), (q5, .inl (c5, 7, .inr (.inl f5)))]) [6, 7, 0, 1, 2, 3, 4, 5] rfl
    have hD9 := hD.sub (ws' := [(h0, .inr (6, [.ref ah, v1, v2, v3, v4, v5, .ref t0, v7])), (t0, .inl (tc, 7, .inl tg_7)), (ah, .inr (4, [.int sh, .ref q1, .ref q2, .int tn, .ref q3, .ref q4, .int sc, .ref q5, w8])), (q1, .inl (c1, 9, .inl f1)), (q2, .inl (c2, 9, .inl f2)), (q3, .inl (c3, 4, .inl f3)), (q4, .inl (c4, 4, .inl f4)), (q5, .inl (c5, 7, .inr (.inl f5)))]) [6, 7, 0, 1, 2, 3, 4, 5] (by decide) rfl
    have hK9 := hK.sub (tys' := [(tc, .int), (c1, .int), (c2, .int), (c3, .int), (c4, .int), (c5, .long)]) [0, 1, 2, 3, 4, 5] rfl
    exact W.iret (v := ((-1000000001) : Int32)) hx hb hr (fun t ht hW => ⟨⟨((-1000000001) : Int32), (), rfl, trivial, tg_7, by rw [ht]; exact hP9, va_K.moved hW.alike hK9, hD9⟩, hS.F ht⟩) hS.2.2 dX8_off_17

def w_x_seen : List Cond := .code yX8_seen cX8_seen 7 (some .int) :: (([.fieldLink RX8 10 "LampShapes" "now" "LLampShapes$Stage;", .methodLink RX8 134 yX6_darkCells, .instanceMethod yX6_darkCells, .selects RX6 yX6_darkCells yX6_darkCells, .initialized RX6, .code yX6_darkCells cX6_darkCells 4 (some .long), .methodLink RX6 88 yX6_cellsOfHold, .instanceMethod yX6_cellsOfHold, .selects RX6 yX6_cellsOfHold yX6_cellsOfHold, .code yX6_cellsOfHold cX6_cellsOfHold 3 (some .long), .fieldLink RX6 25 "LampShapes$Stage" "heldShapes" "[I", .methodLink RX6 78 yX6_hasShape, .instanceMethod yX6_hasShape, .selects RX6 yX6_hasShape yX6_hasShape, .code yX6_hasShape cX6_hasShape 2 (some .boolean), .fieldLink RX6 9 "LampShapes$Stage" "shapes" "I", .methodLink RX6 82 yX6_isTorn, .instanceMethod yX6_isTorn, .selects RX6 yX6_isTorn yX6_isTorn, .code yX6_isTorn cX6_isTorn 2 (some .boolean), .fieldLink RX6 22 "LampShapes$Stage" "tornShapes" "I", .fieldLink RX6 28 "LampShapes$Stage" "heldPlacings" "[I", .methodLink RX6 85 yX6_cellsBy, .instanceMethod yX6_cellsBy, .selects RX6 yX6_cellsBy yX6_cellsBy, .code yX6_cellsBy cX6_cellsBy 4 (some .long), .methodLink RX6 59 yX6_cornerBy, .instanceMethod yX6_cornerBy, .selects RX6 yX6_cornerBy yX6_cornerBy, .code yX6_cornerBy cX6_cornerBy 4 (some .long), .fieldLink RX6 15 "LampShapes$Stage" "kinds" "[I", .fieldLink RX6 19 "LampShapes$Stage" "points" "[I", .methodLink RX6 47 yX0_pointsBy, .static yX0_pointsBy, .initialized RX0, .code yX0_pointsBy cX0_pointsBy 3 (some .int), .methodLink RX0 15 yX0_turnedBy, .static yX0_turnedBy, .code yX0_turnedBy cX0_turnedBy 6 (some .int), .methodLink RX0 19 yX0_mirroredBy, .static yX0_mirroredBy, .code yX0_mirroredBy cX0_mirroredBy 2 (some .int), .constant RX0 31 (34952), .methodLink RX0 22 yX0_hollowed, .static yX0_hollowed, .code yX0_hollowed cX0_hollowed 5 (some .int), .constant RX0 32 (61166), .methodLink RX0 25 yX0_doubled, .static yX0_doubled, .code yX0_doubled cX0_doubled 1 (some .int), .constant RX0 33 (65535), .methodLink RX0 28 yX0_filled, .static yX0_filled, .code yX0_filled cX0_filled 6 (some .int), .methodLink RX6 53 yX1_cellsAtCorner, .static yX1_cellsAtCorner, .initialized RX1, .code yX1_cellsAtCorner cX1_cellsAtCorner 8 (some .long), .constantLong RX1 9 (771), .methodLink RX6 62 yX1_moved, .static yX1_moved, .code yX1_moved cX1_moved 6 (some .long), .constantLong RX1 13 (72340172838076673), .constant RX8 149 (-1000000004), .methodLink RX8 63 yX8_finding, .instanceMethod yX8_finding, .selects RX8 yX8_finding yX8_finding, .initialized RX8, .code yX8_finding cX8_finding 3 (some .int), .constant RX8 62 (-1000000001), .fieldLink RX8 46 "LampShapes" "told" "[I", .methodLink RX8 164 yX1_cellsOff, .static yX1_cellsOff, .code yX1_cellsOff cX1_cellsOff 4 (some .int), .methodLink RX1 15 yJ13_bitCount_95d88, .static yJ13_bitCount_95d88, .initialized RJ13, .code yJ13_bitCount_95d88 cJ13_bitCount_95d88 2 (some .int), .constantLong RJ13 314 (6148914691236517205), .constantLong RJ13 316 (3689348814741910323), .constantLong RJ13 318 (1085102592571150095)] : List Cond) ++ wsX80 ++ wsX60)
set_option maxRecDepth 20000 in
theorem g_x_seen_s_darkCells_134 : GoodIn w_x_seen (wsV RX8 134 RX6 yX6_darkCells w_s_darkCells) := goodIn_r _ [2, 3, 4, 5, 6, 7, 8, 9, 5, 10, 11, 12, 13, 14, 15, 16, 17, 18, 19, 20, 21, 22, 23, 24, 25, 26, 27, 28, 29, 30, 31, 32, 33, 34, 35, 36, 37, 38, 39, 40, 41, 42, 43, 44, 45, 46, 47, 48, 49, 50, 51, 52, 53, 54, 55, 56, 57, 58, 59, 60, 61, 62, 63, 90, 91, 92, 93, 94, 95, 96, 97, 98] rfl (by decide +kernel)
set_option maxRecDepth 20000 in
theorem g_x_seen_f_none_63 : GoodIn w_x_seen (wsV RX8 63 RX8 yX8_finding w_f_none) := goodIn_r _ [65, 66, 67, 68, 69, 70, 71, 82, 83, 84, 85, 86, 87, 88, 89] rfl (by decide +kernel)
set_option maxRecDepth 20000 in
theorem g_x_seen_l_cellsOff_164 : GoodIn w_x_seen (va_wsS RX8 164 yX1_cellsOff w_l_cellsOff) := goodIn_r _ [72, 73, 57, 74, 75, 76, 77, 78, 79, 80, 81] rfl (by decide +kernel)
set_option maxHeartbeats 4000000 in
set_option maxRecDepth 100000 in
theorem x_seen (l : Launch) (dC : Nat → ClassId) (dI : Nat → Nat → Nat) (ad : Nat → Nat) (h0 : Nat) (ah : Nat) (v1 : Value) (v2 : Value) (v3 : Value) (v4 : Value) (v5 : Value) (t0 : Nat) (v7 : Value) (tc : ClassId) (tf : Nat → Int32) (sh : Int32) (q1 : Nat) (q2 : Nat) (tn : Int32) (q3 : Nat) (q4 : Nat) (sc : Int32) (q5 : Nat) (w8 : Value) (c1 : ClassId) (f1 : Nat → Int32) (c2 : ClassId) (f2 : Nat → Int32) (c3 : ClassId) (f3 : Nat → Int32) (c4 : ClassId) (f4 : Nat → Int32) (c5 : ClassId) (f5 : Nat → Int64) (sz : Nat) (hsh : 0 ≤ sh.toInt ∧ sh.toInt ≤ 9) (hsc : 0 ≤ sc.toInt ∧ sc.toInt ≤ 7) : Met l yX8_seen w_x_seen ({ frames := 6, cells := 0, slots := 0, locals := 138 } : Room) (va_Pc [.ref h0] (preM dC dI ad [(tc, .int), (c1, .int), (c2, .int), (c3, .int), (c4, .int), (c5, .long)] [(h0, .inr (6, [.ref ah, v1, v2, v3, v4, v5, .ref t0, v7])), (t0, .inl (tc, 7, .inl tf)), (ah, .inr (4, [.int sh, .ref q1, .ref q2, .int tn, .ref q3, .ref q4, .int sc, .ref q5, w8])), (q1, .inl (c1, 9, .inl f1)), (q2, .inl (c2, 9, .inl f2)), (q3, .inl (c3, 4, .inl f3)), (q4, .inl (c4, 4, .inl f4)), (q5, .inl (c5, 7, .inr (.inl f5)))] sz)) (va_Qi (fun (r : Int32) (_ : Unit) => True) (fun _ t => ∃ (tg : Nat → Int32), va_P (dC, dI) vwCl [(h0, .inr (6, [.ref ah, v1, v2, v3, v4, v5, .ref t0, v7])), (t0, .inl (tc, 7, .inl tg)), (ah, .inr (4, [.int sh, .ref q1, .ref q2, .int tn, .ref q3, .ref q4, .int sc, .ref q5, w8])), (q1, .inl (c1, 9, .inl f1)), (q2, .inl (c2, 9, .inl f2)), (q3, .inl (c3, 4, .inl f3)), (q4, .inl (c4, 4, .inl f4)), (q5, .inl (c5, 7, .inr (.inl f5)))] t.heap ∧ va_K (dC, dI) vwCl [(tc, .int), (c1, .int), (c2, .int), (c3, .int), (c4, .int), (c5, .long)] t ∧ va_D (va_A [(h0, .inr (6, [.ref ah, v1, v2, v3, v4, v5, .ref t0, v7])), (t0, .inl (tc, 7, .inl tf)), (ah, .inr (4, [.int sh, .ref q1, .ref q2, .int tn, .ref q3, .ref q4, .int sc, .ref q5, w8])), (q1, .inl (c1, 9, .inl f1)), (q2, .inl (c2, 9, .inl f2)), (q3, .inl (c3, 4, .inl f3)), (q4, .inl (c4, 4, .inl f4)), (q5, .inl (c5, 7, .inr (.inl f5)))] sz) [(h0, .inr (6, [.ref ah, v1, v2, v3, v4, v5, .ref t0, v7])), (t0, .inl (tc, 7, .inl tg)), (ah, .inr (4, [.int sh, .ref q1, .ref q2, .int tn, .ref q3, .ref q4, .int sc, .ref q5, w8])), (q1, .inl (c1, 9, .inl f1)), (q2, .inl (c2, 9, .inl f2)), (q3, .inl (c3, 4, .inl f3)), (q4, .inl (c4, 4, .inl f4)), (q5, .inl (c5, 7, .inr (.inl f5)))]) (va_A [(h0, .inr (6, [.ref ah, v1, v2, v3, v4, v5, .ref t0, v7])), (t0, .inl (tc, 7, .inl tf)), (ah, .inr (4, [.int sh, .ref q1, .ref q2, .int tn, .ref q3, .ref q4, .int sc, .ref q5, w8])), (q1, .inl (c1, 9, .inl f1)), (q2, .inl (c2, 9, .inl f2)), (q3, .inl (c3, 4, .inl f3)), (q4, .inl (c4, 4, .inl f4)), (q5, .inl (c5, 7, .inr (.inl f5)))] sz)) 0 0 (va_A [(h0, .inr (6, [.ref ah, v1, v2, v3, v4, v5, .ref t0, v7])), (t0, .inl (tc, 7, .inl tf)), (ah, .inr (4, [.int sh, .ref q1, .ref q2, .int tn, .ref q3, .ref q4, .int sc, .ref q5, w8])), (q1, .inl (c1, 9, .inl f1)), (q2, .inl (c2, 9, .inl f2)), (q3, .inl (c3, 4, .inl f3)), (q4, .inl (c4, 4, .inl f4)), (q5, .inl (c5, 7, .inr (.inl f5)))] sz) := by
  refine Met.ofW (cc := cX8_seen) (maxL := 7) (ret := (some .int)) (by decide) rfl ?_
  intro p e s m args below meth c s₁ B hml hv
  obtain ⟨rfl, hsz, hP, hK, hD0, hev⟩ := hv
  have hx := B.exec
  have hb := B.bytes
  have hr := B.returns
  have hts := atoms_spec (ws := w_x_seen) B.pre
  have hown : s.vm.findClass RX8 = some m.cls := findClass_of_methodNamed B.named
  have hlocks := B.notSynchronized
  have inX8 : ∀ w ∈ wsX80, w ∈ w_x_seen := fun w h => List.mem_cons_of_mem _ (List.mem_append_left _ (List.mem_append_right _ h))
  have inX6 : ∀ w ∈ wsX60, w ∈ w_x_seen := fun w h => List.mem_cons_of_mem _ (List.mem_append_right _ h)
  subst hsz
  have hD := hD0.self (sz := s.heap.size)
  generalize hAe : va_A [(h0, .inr (6, [.ref ah, v1, v2, v3, v4, v5, .ref t0, v7])), (t0, .inl (tc, 7, .inl tf)), (ah, .inr (4, [.int sh, .ref q1, .ref q2, .int tn, .ref q3, .ref q4, .int sc, .ref q5, w8])), (q1, .inl (c1, 9, .inl f1)), (q2, .inl (c2, 9, .inl f2)), (q3, .inl (c3, 4, .inl f3)), (q4, .inl (c4, 4, .inl f4)), (q5, .inl (c5, 7, .inr (.inl f5)))] s.heap.size = A at hD ⊢
  have hA : ∀ q : Nat, s.heap.size ≤ q → A q := fun q h => by rw [← hAe]; exact Or.inr h
  have hS : va_S A s.heap s.heap [] := va_S.rf
  have hP : va_P (dC, dI) vwCl [(h0, .inr (6, [.ref ah, v1, v2, v3, v4, v5, .ref t0, v7])), (t0, .inl (tc, 7, .inl tf)), (ah, .inr (4, [.int sh, .ref q1, .ref q2, .int tn, .ref q3, .ref q4, .int sc, .ref q5, w8])), (q1, .inl (c1, 9, .inl f1)), (q2, .inl (c2, 9, .inl f2)), (q3, .inl (c3, 4, .inl f3)), (q4, .inl (c4, 4, .inl f4)), (q5, .inl (c5, 7, .inr (.inl f5)))] s.heap := hP
  have hl := lv_entry ([.ref h0]) (n := 7) (Nat.le_of_ble_eq_true rfl)
  rw [lg_entry_eq]
  generalize (lg_sl ([.ref h0]) ++ List.replicate (7 - (lg_sl ([.ref h0])).length) Slot.unset).toArray = ls at hl ⊢
  have hl : lv_has ls 7 [(0, .ref h0)] := hl
  refine lv_aload_n hx hb dX8_seen_0 rfl (lv_at hl 0 rfl) ?_
  refine va_get (D := (dC, dI)) (ci := 6) (v := .ref ah) (C := RX8) (T := TX8) (N := 8) hx hb hts inX8 hown hK hP 0 rfl rfl 0 (by decide) (hts _ (List.mem_of_getElem? (i := 1) rfl)) (fun _ h9 => h9) rfl dX8_seen_1 ?_
  have hPc := hP.sub (ws' := [(ah, .inr (4, [.int sh, .ref q1, .ref q2, .int tn, .ref q3, .ref q4, .int sc, .ref q5, w8])), (q1, .inl (c1, 9, .inl f1)), (q2, .inl (c2, 9, .inl f2)), (q3, .inl (c3, 4, .inl f3)), (q4, .inl (c4, 4, .inl f4))]) [2, 3, 4, 5, 6] rfl
  have hKc := hK.sub (tys' := [(c1, .int), (c2, .int), (c3, .int), (c4, .int)]) [1, 2, 3, 4] rfl
  refine vp_callSl (W.runV (As := []) (rest := []) ⟨hx, hb, hml, hown, hts⟩ (s_darkCells l dC dI ad ah sh q1 q2 tn q3 q4 (.int sc) (.ref q5) w8 c1 f1 c2 f2 c3 f3 c4 f4 hsh) (cwV 0 hts g_x_seen_s_darkCells_134 rfl rfl rfl (by decide +kernel) ⟨(Nat.le_of_ble_eq_true rfl), (Nat.le_of_ble_eq_true rfl)⟩) ⟨preS_blind, va_recv hKc hPc (ci := 4) (q0 := 0) rfl rfl, fun U hU hW => ⟨rfl, preS_at hU hW hPc hKc hev⟩⟩ rfl rfl hl.1 rfl (lv_room (Nat.le_of_ble_eq_true rfl)) dX8_seen_4 ⟨(Nat.le_of_ble_eq_true rfl), (Nat.le_of_ble_eq_true rfl)⟩) (fun r_1 hw => ?_)
  refine lv_lstore_n (lv' := [(1, .long r_1), (0, .ref h0)]) hx hb dX8_seen_7 rfl hl (by decide) rfl (fun ls hl => ?_)
  refine lv_iconst (v := (-1)) hx hb dX8_seen_8 (by decide) ?_
  refine lv_istore_n (lv' := [(3, .int (-1)), (1, .long r_1), (0, .ref h0)]) hx hb dX8_seen_9 rfl hl (by decide) rfl (fun ls hl => ?_)
  refine lv_bipush (v := 65) hx hb dX8_seen_10 (by decide) ?_
  refine lv_istore (lv' := [(4, .int 65), (3, .int (-1)), (1, .long r_1), (0, .ref h0)]) hx hb dX8_seen_12 hl (by decide) rfl (fun ls hl => ?_)
  refine lv_iconst (v := 0) hx hb dX8_seen_14 (by decide) ?_
  refine lv_istore (lv' := [(5, .int 0), (4, .int 65), (3, .int (-1)), (1, .long r_1), (0, .ref h0)]) hx hb dX8_seen_15 hl (by decide) rfl (fun ls hl => ?_)
  refine pp_loop (ι := Int32 × Int32 × Int32) (fun ⟨v5_17, v4_17, v3_17⟩ => (sc.toInt - v5_17.toInt).toNat) (fun ⟨v5_17, v4_17, v3_17⟩ H locs ls => (0 ≤ v5_17.toInt) ∧ va_P (dC, dI) vwCl [(h0, .inr (6, [.ref ah, v1, v2, v3, v4, v5, .ref t0, v7])), (t0, .inl (tc, 7, .inl tf)), (ah, .inr (4, [.int sh, .ref q1, .ref q2, .int tn, .ref q3, .ref q4, .int sc, .ref q5, w8])), (q1, .inl (c1, 9, .inl f1)), (q2, .inl (c2, 9, .inl f2)), (q3, .inl (c3, 4, .inl f3)), (q4, .inl (c4, 4, .inl f4)), (q5, .inl (c5, 7, .inr (.inl f5)))] H ∧ va_D A [(h0, .inr (6, [.ref ah, v1, v2, v3, v4, v5, .ref t0, v7])), (t0, .inl (tc, 7, .inl tf)), (ah, .inr (4, [.int sh, .ref q1, .ref q2, .int tn, .ref q3, .ref q4, .int sc, .ref q5, w8])), (q1, .inl (c1, 9, .inl f1)), (q2, .inl (c2, 9, .inl f2)), (q3, .inl (c3, 4, .inl f3)), (q4, .inl (c4, 4, .inl f4)), (q5, .inl (c5, 7, .inr (.inl f5)))] ∧ va_S A s.heap H locs ∧ lv_has ls 7 [(5, .int v5_17), (4, .int v4_17), (3, .int v3_17), (1, .long r_1), (0, .ref h0)]) ?_ (0, 65, (-1)) _ _ _ ⟨(by first | omega | decide | (simp only [fa_lt, fa_le, fa_eq, and_true, true_and, and_false, false_and, not_true_eq_false, not_false_eq_true, li_0, li_1, li_2, li_3, li_4, li_5, li_6, li_7, li_8, li_9, li_10, li_12, li_15, li_16, li_20, li_30, li_34, li_38, li_40, li_63, li_64, li_65, li_78, li_120, li_1000, li_4000, li_10000, li_11077, li_255, li_65535, li_m1, li_m2, li_m1000000001, li_m1000000002, li_m1000000003, li_m1000000004, li_m1000000005, li_m1000000006, li_m1000000007, or_true, true_or, or_false, false_or, implies_true, true_implies, false_implies] <;> omega)), hP.sub [0, 1, 2, 3, 4, 5, 6, 7] rfl, hD.sub [0, 1, 2, 3, 4, 5, 6, 7] (by decide) rfl, hS, lv_sub hl [0, 1, 2, 3, 4] rfl⟩
  intro k_2 ihk_2 u H locs ls hm hI
  obtain ⟨v5_17, v4_17, v3_17⟩ := u
  obtain ⟨jk_2_0, hP, hD, hS, hl⟩ := hI
  have hmk_2 : (sc.toInt - v5_17.toInt).toNat < k_2 + 1 := hm
  clear hm
  have jk_2_0 : 0 ≤ v5_17.toInt := jk_2_0
  have hl : lv_has ls 7 [(5, .int v5_17), (4, .int v4_17), (3, .int v3_17), (1, .long r_1), (0, .ref h0)] := hl
  have hP : va_P (dC, dI) vwCl [(h0, .inr (6, [.ref ah, v1, v2, v3, v4, v5, .ref t0, v7])), (t0, .inl (tc, 7, .inl tf)), (ah, .inr (4, [.int sh, .ref q1, .ref q2, .int tn, .ref q3, .ref q4, .int sc, .ref q5, w8])), (q1, .inl (c1, 9, .inl f1)), (q2, .inl (c2, 9, .inl f2)), (q3, .inl (c3, 4, .inl f3)), (q4, .inl (c4, 4, .inl f4)), (q5, .inl (c5, 7, .inr (.inl f5)))] H := hP
  have hD : va_D A [(h0, .inr (6, [.ref ah, v1, v2, v3, v4, v5, .ref t0, v7])), (t0, .inl (tc, 7, .inl tf)), (ah, .inr (4, [.int sh, .ref q1, .ref q2, .int tn, .ref q3, .ref q4, .int sc, .ref q5, w8])), (q1, .inl (c1, 9, .inl f1)), (q2, .inl (c2, 9, .inl f2)), (q3, .inl (c3, 4, .inl f3)), (q4, .inl (c4, 4, .inl f4)), (q5, .inl (c5, 7, .inr (.inl f5)))] := hD
  refine lv_iload hx hb dX8_seen_17 (lv_at hl 0 rfl) ?_
  refine lv_aload_n hx hb dX8_seen_19 rfl (lv_at hl 4 rfl) ?_
  refine va_get (D := (dC, dI)) (ci := 6) (v := .ref ah) (C := RX8) (T := TX8) (N := 8) hx hb hts inX8 hown hK hP 0 rfl rfl 0 (by decide) (hts _ (List.mem_of_getElem? (i := 1) rfl)) (fun _ h9 => h9) rfl dX8_seen_20 ?_
  refine va_getN (D := (dC, dI)) (ci := 4) (v := .int sc) (C := RX6) (T := TX6) (N := 9) hx hb hts inX6 hown hK hP 2 rfl rfl 6 (by decide) (ev_nest hev 8 rfl) (fun _ h9 => h9) rfl dX8_seen_23 ?_
  have rc_3_x := pp_rng v5_17
  have rc_3_y := pp_rng sc
  refine lv_icmp_ge (tgt := 65) hx hb dX8_seen_26 (by decide) (fun c_3 => ?_) (fun c_3 => ?_)
  · skip
    have tc_3 : sc.toInt ≤ v5_17.toInt := (fa_le _ _).mp c_3
    refine lv_iload_n hx hb dX8_seen_65 rfl (lv_at hl 2 rfl) ?_
    refine lv_if_ge (tgt := 78) hx hb dX8_seen_66 (by decide) (fun c_4 => ?_) (fun c_4 => ?_)
    · skip
      have tc_4 : 0 ≤ v3_17.toInt := (fa_le _ _).mp c_4
      refine lv_iload_n hx hb dX8_seen_78 rfl (lv_at hl 2 rfl) ?_
      have hP9 := hP.sub (ws' := [(h0, .inr (6, [.ref ah, v1, v2, v3, v4, v5, .ref t0, v7])), (t0, .inl (tc, 7, .inl tf)), (ah, .inr (4, [.int sh, .ref q1, .ref q2, .int tn, .ref q3, .ref q4, .int sc, .ref q5, w8])), (q1, .inl (c1, 9, .inl f1)), (q2, .inl (c2, 9, .inl f2)), (q3, .inl (c3, 4, .inl f3)), (q4, .inl (c4, 4, .inl f4)), (q5, .inl (c5, 7, .inr (.inl f5)))]) [0, 1, 2, 3, 4, 5, 6, 7] rfl
      have hD9 := hD.sub (ws' := [(h0, .inr (6, [.ref ah, v1, v2, v3, v4, v5, .ref t0, v7])), (t0, .inl (tc, 7, .inl tf)), (ah, .inr (4, [.int sh, .ref q1, .ref q2, .int tn, .ref q3, .ref q4, .int sc, .ref q5, w8])), (q1, .inl (c1, 9, .inl f1)), (q2, .inl (c2, 9, .inl f2)), (q3, .inl (c3, 4, .inl f3)), (q4, .inl (c4, 4, .inl f4)), (q5, .inl (c5, 7, .inr (.inl f5)))]) [0, 1, 2, 3, 4, 5, 6, 7] (by decide) rfl
      have hK9 := hK.sub (tys' := [(tc, .int), (c1, .int), (c2, .int), (c3, .int), (c4, .int), (c5, .long)]) [0, 1, 2, 3, 4, 5] rfl
      exact W.iret (v := v3_17) hx hb hr (fun t ht hW => ⟨⟨v3_17, (), rfl, trivial, tf, by rw [ht]; exact hP9, va_K.moved hW.alike hK9, hD9⟩, hS.F ht⟩) hS.2.2 dX8_seen_79
    · skip
      have tc_4 : ¬ 0 ≤ v3_17.toInt := fun h => c_4 ((fa_le _ _).mpr h)
      refine lv_aload_n hx hb dX8_seen_69 rfl (lv_at hl 4 rfl) ?_
      refine lv_ldc hx hb hown (hts _ (List.mem_of_getElem? (i := 64) rfl)) dX8_seen_70 ?_
      have hPc := hP.sub (ws' := [(h0, .inr (6, [.ref ah, v1, v2, v3, v4, v5, .ref t0, v7])), (t0, .inl (tc, 7, .inl tf))]) [0, 1] rfl
      have hKc := hK.sub (tys' := [(tc, .int)]) [0] rfl
      have hDc := hD.sub (ws' := [(h0, .inr (6, [.ref ah, v1, v2, v3, v4, v5, .ref t0, v7])), (t0, .inl (tc, 7, .inl tf))]) [0, 1] (by decide) rfl
      have hFc := va_free (wc := [(h0, .inr (6, [.ref ah, v1, v2, v3, v4, v5, .ref t0, v7])), (t0, .inl (tc, 7, .inl tf))]) hD hS hA [0, 1] rfl
      refine va_calli (va_runV (As := [.int (-1000000004)]) (rest := []) ⟨hx, hb, hml, hown, hts⟩ (f_none l dC dI ad h0 (.ref ah) v1 v2 v3 v4 v5 t0 v7 tc tf H.size ) (cwV 1 hts g_x_seen_f_none_63 rfl rfl rfl (by decide +kernel) ⟨(Nat.le_of_ble_eq_true rfl), (Nat.le_of_ble_eq_true rfl)⟩) ⟨preM_blind, va_recv hKc hPc (ci := 6) (q0 := 0) rfl rfl, fun U hU hW => ⟨rfl, preM_at hU hW hPc hKc hDc hev⟩⟩ rfl rfl hl.1 rfl (lv_room (Nat.le_of_ble_eq_true rfl)) dX8_seen_72 ⟨(Nat.le_of_ble_eq_true rfl), (Nat.le_of_ble_eq_true rfl)⟩) hS (fun q _ h => hFc q h) hFc (fun r_5 u t H1 locs ht hvm hw hB hz1 hk1 hS => ?_)
      obtain ⟨tg_6, hP1, hK1, hD1⟩ := hB
      rw [ht] at hP1
      have hK1 := va_K.moved hvm.symm hK1
      obtain ⟨hP, hD⟩ := va_join (wr := [(ah, .inr (4, [.int sh, .ref q1, .ref q2, .int tn, .ref q3, .ref q4, .int sc, .ref q5, w8])), (q1, .inl (c1, 9, .inl f1)), (q2, .inl (c2, 9, .inl f2)), (q3, .inl (c3, 4, .inl f3)), (q4, .inl (c4, 4, .inl f4)), (q5, .inl (c5, 7, .inr (.inl f5)))]) (w1 := [(h0, .inr (6, [.ref ah, v1, v2, v3, v4, v5, .ref t0, v7])), (t0, .inl (tc, 7, .inl tg_6))]) hP hD [0, 1] [2, 3, 4, 5, 6, 7] rfl rfl (by decide) (by decide) hk1 hFc hP1 hD1
      generalize H1 = H at hP hS ⊢
      have hP : va_P (dC, dI) vwCl [(ah, .inr (4, [.int sh, .ref q1, .ref q2, .int tn, .ref q3, .ref q4, .int sc, .ref q5, w8])), (q1, .inl (c1, 9, .inl f1)), (q2, .inl (c2, 9, .inl f2)), (q3, .inl (c3, 4, .inl f3)), (q4, .inl (c4, 4, .inl f4)), (q5, .inl (c5, 7, .inr (.inl f5))), (h0, .inr (6, [.ref ah, v1, v2, v3, v4, v5, .ref t0, v7])), (t0, .inl (tc, 7, .inl tg_6))] H := hP
      have hD : va_D A [(ah, .inr (4, [.int sh, .ref q1, .ref q2, .int tn, .ref q3, .ref q4, .int sc, .ref q5, w8])), (q1, .inl (c1, 9, .inl f1)), (q2, .inl (c2, 9, .inl f2)), (q3, .inl (c3, 4, .inl f3)), (q4, .inl (c4, 4, .inl f4)), (q5, .inl (c5, 7, .inr (.inl f5))), (h0, .inr (6, [.ref ah, v1, v2, v3, v4, v5, .ref t0, v7])), (t0, .inl (tc, 7, .inl tg_6))] := hD
      subst hw
      refine lv_goto (tgt := 79) hx hb dX8_seen_75 (by decide) ?_
      have hP9 := hP.sub (ws' := [(h0, .inr (6, [.ref ah, v1, v2, v3, v4, v5, .ref t0, v7])), (t0, .inl (tc, 7, .inl tg_6)), (ah, .inr (4, [.int sh, .ref q1, .ref q2, .int tn, .ref q3, .ref q4, .int sc, .ref q5, w8])), (q1, .inl (c1, 9, .inl f1)), (q2, .inl (c2, 9, .inl f2)), (q3, .inl (c3, 4, .inl f3)), (q4, .inl (c4, 4, .inl f4)), (q5, .inl (c5, 7, .inr (.inl f5)))]) [6, 7, 0, 1, 2, 3, 4, 5] rfl
      have hD9 := hD.sub (ws' := [(h0, .inr (6, [.ref ah, v1, v2, v3, v4, v5, .ref t0, v7])), (t0, .inl (tc, 7, .inl tg_6)), (ah, .inr (4, [.int sh, .ref q1, .ref q2, .int tn, .ref q3, .ref q4, .int sc, .ref q5, w8])), (q1, .inl (c1, 9, .inl f1)), (q2, .inl (c2, 9, .inl f2)), (q3, .inl (c3, 4, .inl f3)), (q4, .inl (c4, 4, .inl f4)), (q5, .inl (c5, 7, .inr (.inl f5)))]) [6, 7, 0, 1, 2, 3, 4, 5] (by decide) rfl
      have hK9 := hK.sub (tys' := [(tc, .int), (c1, .int), (c2, .int), (c3, .int), (c4, .int), (c5, .long)]) [0, 1, 2, 3, 4, 5] rfl
      exact W.iret (v := ((-1000000004) : Int32)) hx hb hr (fun t ht hW => ⟨⟨((-1000000004) : Int32), (), rfl, trivial, tg_6, by rw [ht]; exact hP9, va_K.moved hW.alike hK9, hD9⟩, hS.F ht⟩) hS.2.2 dX8_seen_79
  · skip
    have tc_3 : ¬ sc.toInt ≤ v5_17.toInt := fun h => c_3 ((fa_le _ _).mpr h)
    refine lv_lload_n hx hb dX8_seen_29 rfl (lv_at hl 3 rfl) ?_
    refine lv_aload_n hx hb dX8_seen_30 rfl (lv_at hl 4 rfl) ?_
    refine va_get (D := (dC, dI)) (ci := 6) (v := .ref ah) (C := RX8) (T := TX8) (N := 8) hx hb hts inX8 hown hK hP 0 rfl rfl 0 (by decide) (hts _ (List.mem_of_getElem? (i := 1) rfl)) (fun _ h9 => h9) rfl dX8_seen_31 ?_
    refine va_getN (D := (dC, dI)) (ci := 4) (v := .ref q5) (C := RX6) (T := TX6) (N := 9) hx hb hts inX6 hown hK hP 2 rfl rfl 7 (by decide) (ev_nest hev 10 rfl) (fun _ h9 => h9) rfl dX8_seen_34 ?_
    refine lv_iload hx hb dX8_seen_37 (lv_at hl 0 rfl) ?_
    refine va_lald hx hb hK hP 7 5 rfl rfl (vp_in_iff.mpr ⟨by omega, by omega⟩) dX8_seen_39 ?_
    refine lv_topl (fun n_7 en_7 => ?_)
    clear en_7
    have hPc := hP.sub (ws' := []) [] rfl
    have hKc := hK.sub (tys' := []) [] rfl
    refine vp_callSi (W.runS (As := [.long r_1, .long n_7]) (rest := []) ⟨hx, hb, hml, hown, hts⟩ (l_cellsOff l dC dI ad r_1 n_7 ) (va_cwS 2 hts g_x_seen_l_cellsOff_164 rfl rfl rfl (by decide +kernel) ⟨(Nat.le_of_ble_eq_true rfl), (Nat.le_of_ble_eq_true rfl)⟩) ⟨preS_blind, fun U hU hW => ⟨rfl, preS_at hU hW hPc hKc hev⟩⟩ rfl rfl hl.1 rfl (lv_room (Nat.le_of_ble_eq_true rfl)) dX8_seen_40 ⟨(Nat.le_of_ble_eq_true rfl), (Nat.le_of_ble_eq_true rfl)⟩) (fun r_8 hw => ?_)
    refine lv_istore (lv' := [(6, .int r_8), (5, .int v5_17), (4, .int v4_17), (3, .int v3_17), (1, .long r_1), (0, .ref h0)]) hx hb dX8_seen_43 hl (by decide) rfl (fun ls hl => ?_)
    refine lv_iload hx hb dX8_seen_45 (lv_at hl 0 rfl) ?_
    refine lv_iload hx hb dX8_seen_47 (lv_at hl 2 rfl) ?_
    have rc_9_x := pp_rng r_8
    have rc_9_y := pp_rng v4_17
    refine lv_icmp_ge (tgt := 59) hx hb dX8_seen_49 (by decide) (fun c_9 => ?_) (fun c_9 => ?_)
    · skip
      have tc_9 : v4_17.toInt ≤ r_8.toInt := (fa_le _ _).mp c_9
      obtain ⟨n_10, en_10⟩ : ∃ y : Int32, y = v5_17 + 1 := ⟨_, rfl⟩
      have tn_10 : n_10.toInt = v5_17.toInt + 1 := pp_add en_10 rfl rfl (by omega) (by omega)
      refine lv_iinc (v := n_10) (lv' := [(5, .int n_10), (6, .int r_8), (4, .int v4_17), (3, .int v3_17), (1, .long r_1), (0, .ref h0)]) hx hb dX8_seen_59 hl (k := 1) rfl (by rw [en_10]; rfl) (by decide) rfl (fun ls hl => ?_)
      clear en_10
      refine lv_goto (tgt := 17) hx hb dX8_seen_62 (by decide) ?_
      exact ihk_2 (n_10, v4_17, v3_17) _ _ _ (by show (sc.toInt - n_10.toInt).toNat < k_2; omega) ⟨(by first | omega | decide | (simp only [fa_lt, fa_le, fa_eq, and_true, true_and, and_false, false_and, not_true_eq_false, not_false_eq_true, li_0, li_1, li_2, li_3, li_4, li_5, li_6, li_7, li_8, li_9, li_10, li_12, li_15, li_16, li_20, li_30, li_34, li_38, li_40, li_63, li_64, li_65, li_78, li_120, li_1000, li_4000, li_10000, li_11077, li_255, li_65535, li_m1, li_m2, li_m1000000001, li_m1000000002, li_m1000000003, li_m1000000004, li_m1000000005, li_m1000000006, li_m1000000007, or_true, true_or, or_false, false_or, implies_true, true_implies, false_implies] <;> omega)), hP.sub [0, 1, 2, 3, 4, 5, 6, 7] rfl, hD.sub [0, 1, 2, 3, 4, 5, 6, 7] (by decide) rfl, hS, lv_sub hl [0, 2, 3, 4, 5] rfl⟩
    · skip
      have tc_9 : ¬ v4_17.toInt ≤ r_8.toInt := fun h => c_9 ((fa_le _ _).mpr h)
      refine lv_iload hx hb dX8_seen_52 (lv_at hl 0 rfl) ?_
      refine lv_istore (lv' := [(4, .int r_8), (6, .int r_8), (5, .int v5_17), (3, .int v3_17), (1, .long r_1), (0, .ref h0)]) hx hb dX8_seen_54 hl (by decide) rfl (fun ls hl => ?_)
      refine lv_iload hx hb dX8_seen_56 (lv_at hl 2 rfl) ?_
      refine lv_istore_n (lv' := [(3, .int v5_17), (4, .int r_8), (6, .int r_8), (5, .int v5_17), (1, .long r_1), (0, .ref h0)]) hx hb dX8_seen_58 rfl hl (by decide) rfl (fun ls hl => ?_)
      obtain ⟨n_11, en_11⟩ : ∃ y : Int32, y = v5_17 + 1 := ⟨_, rfl⟩
      have tn_11 : n_11.toInt = v5_17.toInt + 1 := pp_add en_11 rfl rfl (by omega) (by omega)
      refine lv_iinc (v := n_11) (lv' := [(5, .int n_11), (3, .int v5_17), (4, .int r_8), (6, .int r_8), (1, .long r_1), (0, .ref h0)]) hx hb dX8_seen_59 hl (k := 3) rfl (by rw [en_11]; rfl) (by decide) rfl (fun ls hl => ?_)
      clear en_11
      refine lv_goto (tgt := 17) hx hb dX8_seen_62 (by decide) ?_
      exact ihk_2 (n_11, r_8, v5_17) _ _ _ (by show (sc.toInt - n_11.toInt).toNat < k_2; omega) ⟨(by first | omega | decide | (simp only [fa_lt, fa_le, fa_eq, and_true, true_and, and_false, false_and, not_true_eq_false, not_false_eq_true, li_0, li_1, li_2, li_3, li_4, li_5, li_6, li_7, li_8, li_9, li_10, li_12, li_15, li_16, li_20, li_30, li_34, li_38, li_40, li_63, li_64, li_65, li_78, li_120, li_1000, li_4000, li_10000, li_11077, li_255, li_65535, li_m1, li_m2, li_m1000000001, li_m1000000002, li_m1000000003, li_m1000000004, li_m1000000005, li_m1000000006, li_m1000000007, or_true, true_or, or_false, false_or, implies_true, true_implies, false_implies] <;> omega)), hP.sub [0, 1, 2, 3, 4, 5, 6, 7] rfl, hD.sub [0, 1, 2, 3, 4, 5, 6, 7] (by decide) rfl, hS, lv_sub hl [0, 2, 1, 4, 5] rfl⟩

def w_x_picture : List Cond := .code yX8_picture cX8_picture 2 (some .long) :: (([.fieldLink RX8 10 "LampShapes" "now" "LLampShapes$Stage;", .methodLink RX8 157 yX6_hasScene, .instanceMethod yX6_hasScene, .selects RX6 yX6_hasScene yX6_hasScene, .initialized RX6, .code yX6_hasScene cX6_hasScene 2 (some .boolean), .fieldLink RX6 31 "LampShapes$Stage" "scenes" "I", .constant RX8 62 (-1000000001), .methodLink RX8 63 yX8_finding, .instanceMethod yX8_finding, .selects RX8 yX8_finding yX8_finding, .initialized RX8, .code yX8_finding cX8_finding 3 (some .int), .fieldLink RX8 46 "LampShapes" "told" "[I"] : List Cond) ++ wsX80 ++ wsX60)
set_option maxRecDepth 20000 in
theorem g_x_picture_s_hasScene_157 : GoodIn w_x_picture (wsV RX8 157 RX6 yX6_hasScene w_s_hasScene) := goodIn_r _ [2, 3, 4, 5, 6, 7, 23, 24, 25, 26, 27, 28, 29, 30, 31] rfl (by decide +kernel)
set_option maxRecDepth 20000 in
theorem g_x_picture_f_beyond_63 : GoodIn w_x_picture (wsV RX8 63 RX8 yX8_finding w_f_beyond) := goodIn_r _ [9, 10, 11, 12, 13, 8, 14, 15, 16, 17, 18, 19, 20, 21, 22] rfl (by decide +kernel)
set_option maxHeartbeats 4000000 in
set_option maxRecDepth 100000 in
theorem x_picture (l : Launch) (dC : Nat → ClassId) (dI : Nat → Nat → Nat) (ad : Nat → Nat) (h0 : Nat) (a : Int32) (ah : Nat) (v1 : Value) (v2 : Value) (v3 : Value) (v4 : Value) (v5 : Value) (t0 : Nat) (v7 : Value) (tc : ClassId) (tf : Nat → Int32) (w0 : Value) (w1 : Value) (w2 : Value) (w3 : Value) (w4 : Value) (w5 : Value) (sc : Int32) (q5 : Nat) (w8 : Value) (c5 : ClassId) (f5 : Nat → Int64) (sz : Nat) (hsc : 0 ≤ sc.toInt ∧ sc.toInt ≤ 7) : Met l yX8_picture w_x_picture ({ frames := 1, cells := 0, slots := 0, locals := 22 } : Room) (va_Pc [.ref h0, .int a] (preM dC dI ad [(tc, .int), (c5, .long)] [(h0, .inr (6, [.ref ah, v1, v2, v3, v4, v5, .ref t0, v7])), (t0, .inl (tc, 7, .inl tf)), (ah, .inr (4, [w0, w1, w2, w3, w4, w5, .int sc, .ref q5, w8])), (q5, .inl (c5, 7, .inr (.inl f5)))] sz)) (va_Ql (fun (r : Int64) (_ : Unit) => True) (fun _ t => ∃ (tg : Nat → Int32), va_P (dC, dI) vwCl [(h0, .inr (6, [.ref ah, v1, v2, v3, v4, v5, .ref t0, v7])), (t0, .inl (tc, 7, .inl tg)), (ah, .inr (4, [w0, w1, w2, w3, w4, w5, .int sc, .ref q5, w8])), (q5, .inl (c5, 7, .inr (.inl f5)))] t.heap ∧ va_K (dC, dI) vwCl [(tc, .int), (c5, .long)] t ∧ va_D (va_A [(h0, .inr (6, [.ref ah, v1, v2, v3, v4, v5, .ref t0, v7])), (t0, .inl (tc, 7, .inl tf)), (ah, .inr (4, [w0, w1, w2, w3, w4, w5, .int sc, .ref q5, w8])), (q5, .inl (c5, 7, .inr (.inl f5)))] sz) [(h0, .inr (6, [.ref ah, v1, v2, v3, v4, v5, .ref t0, v7])), (t0, .inl (tc, 7, .inl tg)), (ah, .inr (4, [w0, w1, w2, w3, w4, w5, .int sc, .ref q5, w8])), (q5, .inl (c5, 7, .inr (.inl f5)))]) (va_A [(h0, .inr (6, [.ref ah, v1, v2, v3, v4, v5, .ref t0, v7])), (t0, .inl (tc, 7, .inl tf)), (ah, .inr (4, [w0, w1, w2, w3, w4, w5, .int sc, .ref q5, w8])), (q5, .inl (c5, 7, .inr (.inl f5)))] sz)) 0 0 (va_A [(h0, .inr (6, [.ref ah, v1, v2, v3, v4, v5, .ref t0, v7])), (t0, .inl (tc, 7, .inl tf)), (ah, .inr (4, [w0, w1, w2, w3, w4, w5, .int sc, .ref q5, w8])), (q5, .inl (c5, 7, .inr (.inl f5)))] sz) := by
  refine Met.ofW (cc := cX8_picture) (maxL := 2) (ret := (some .long)) (by decide) rfl ?_
  intro p e s m args below meth c s₁ B hml hv
  obtain ⟨rfl, hsz, hP, hK, hD0, hev⟩ := hv
  have hx := B.exec
  have hb := B.bytes
  have hr := B.returns
  have hts := atoms_spec (ws := w_x_picture) B.pre
  have hown : s.vm.findClass RX8 = some m.cls := findClass_of_methodNamed B.named
  have hlocks := B.notSynchronized
  have inX8 : ∀ w ∈ wsX80, w ∈ w_x_picture := fun w h => List.mem_cons_of_mem _ (List.mem_append_left _ (List.mem_append_right _ h))
  have inX6 : ∀ w ∈ wsX60, w ∈ w_x_picture := fun w h => List.mem_cons_of_mem _ (List.mem_append_right _ h)
  subst hsz
  have hD := hD0.self (sz := s.heap.size)
  generalize hAe : va_A [(h0, .inr (6, [.ref ah, v1, v2, v3, v4, v5, .ref t0, v7])), (t0, .inl (tc, 7, .inl tf)), (ah, .inr (4, [w0, w1, w2, w3, w4, w5, .int sc, .ref q5, w8])), (q5, .inl (c5, 7, .inr (.inl f5)))] s.heap.size = A at hD ⊢
  have hA : ∀ q : Nat, s.heap.size ≤ q → A q := fun q h => by rw [← hAe]; exact Or.inr h
  have hS : va_S A s.heap s.heap [] := va_S.rf
  have hP : va_P (dC, dI) vwCl [(h0, .inr (6, [.ref ah, v1, v2, v3, v4, v5, .ref t0, v7])), (t0, .inl (tc, 7, .inl tf)), (ah, .inr (4, [w0, w1, w2, w3, w4, w5, .int sc, .ref q5, w8])), (q5, .inl (c5, 7, .inr (.inl f5)))] s.heap := hP
  have hl := lv_entry ([.ref h0, .int a]) (n := 2) (Nat.le_of_ble_eq_true rfl)
  rw [lg_entry_eq]
  generalize (lg_sl ([.ref h0, .int a]) ++ List.replicate (2 - (lg_sl ([.ref h0, .int a])).length) Slot.unset).toArray = ls at hl ⊢
  have hl : lv_has ls 2 [(0, .ref h0), (1, .int a)] := hl
  refine lv_aload_n hx hb dX8_picture_0 rfl (lv_at hl 0 rfl) ?_
  refine va_get (D := (dC, dI)) (ci := 6) (v := .ref ah) (C := RX8) (T := TX8) (N := 8) hx hb hts inX8 hown hK hP 0 rfl rfl 0 (by decide) (hts _ (List.mem_of_getElem? (i := 1) rfl)) (fun _ h9 => h9) rfl dX8_picture_1 ?_
  refine lv_iload_n hx hb dX8_picture_4 rfl (lv_at hl 1 rfl) ?_
  have hPc := hP.sub (ws' := [(ah, .inr (4, [w0, w1, w2, w3, w4, w5, .int sc, .ref q5, w8]))]) [2] rfl
  have hKc := hK.sub (tys' := []) [] rfl
  refine vp_callSi (W.runV (As := [.int a]) (rest := []) ⟨hx, hb, hml, hown, hts⟩ (s_hasScene l dC dI ad ah a w0 w1 w2 w3 w4 w5 sc (.ref q5) w8 ) (cwV 1 hts g_x_picture_s_hasScene_157 rfl rfl rfl (by decide +kernel) ⟨(Nat.le_of_ble_eq_true rfl), (Nat.le_of_ble_eq_true rfl)⟩) ⟨preS_blind, va_recv hKc hPc (ci := 4) (q0 := 0) rfl rfl, fun U hU hW => ⟨rfl, preS_at hU hW hPc hKc hev⟩⟩ rfl rfl hl.1 rfl (lv_room (Nat.le_of_ble_eq_true rfl)) dX8_picture_5 ⟨(Nat.le_of_ble_eq_true rfl), (Nat.le_of_ble_eq_true rfl)⟩) (fun r_1 hw => ?_)
  have hr_1 : (r_1.toInt = 1 ∧ 0 ≤ a.toInt ∧ a.toInt < sc.toInt) ∨ r_1.toInt = 0 := hw
  refine lv_if_ne (tgt := 19) hx hb dX8_picture_8 (by decide) (fun c_2 => ?_) (fun c_2 => ?_)
  · skip
    have tc_2 : ¬ r_1.toInt = 0 := fun h => c_2 ((fa_eq _ _).mpr h)
    refine lv_aload_n hx hb dX8_picture_19 rfl (lv_at hl 0 rfl) ?_
    refine va_get (D := (dC, dI)) (ci := 6) (v := .ref ah) (C := RX8) (T := TX8) (N := 8) hx hb hts inX8 hown hK hP 0 rfl rfl 0 (by decide) (hts _ (List.mem_of_getElem? (i := 1) rfl)) (fun _ h9 => h9) rfl dX8_picture_20 ?_
    refine va_getN (D := (dC, dI)) (ci := 4) (v := .ref q5) (C := RX6) (T := TX6) (N := 9) hx hb hts inX6 hown hK hP 2 rfl rfl 7 (by decide) (ev_nest hev 10 rfl) (fun _ h9 => h9) rfl dX8_picture_23 ?_
    refine lv_iload_n hx hb dX8_picture_26 rfl (lv_at hl 1 rfl) ?_
    refine va_lald hx hb hK hP 3 1 rfl rfl (vp_in_iff.mpr ⟨by omega, by omega⟩) dX8_picture_27 ?_
    refine lv_topl (fun n_3 en_3 => ?_)
    clear en_3
    have hP9 := hP.sub (ws' := [(h0, .inr (6, [.ref ah, v1, v2, v3, v4, v5, .ref t0, v7])), (t0, .inl (tc, 7, .inl tf)), (ah, .inr (4, [w0, w1, w2, w3, w4, w5, .int sc, .ref q5, w8])), (q5, .inl (c5, 7, .inr (.inl f5)))]) [0, 1, 2, 3] rfl
    have hD9 := hD.sub (ws' := [(h0, .inr (6, [.ref ah, v1, v2, v3, v4, v5, .ref t0, v7])), (t0, .inl (tc, 7, .inl tf)), (ah, .inr (4, [w0, w1, w2, w3, w4, w5, .int sc, .ref q5, w8])), (q5, .inl (c5, 7, .inr (.inl f5)))]) [0, 1, 2, 3] (by decide) rfl
    have hK9 := hK.sub (tys' := [(tc, .int), (c5, .long)]) [0, 1] rfl
    exact W.lret (v := n_3) hx hb hr (fun t ht hW => ⟨⟨n_3, (), rfl, trivial, tf, by rw [ht]; exact hP9, va_K.moved hW.alike hK9, hD9⟩, hS.F ht⟩) hS.2.2 dX8_picture_28
  · skip
    have tc_2 : r_1.toInt = 0 := (fa_eq _ _).mp c_2
    refine lv_aload_n hx hb dX8_picture_11 rfl (lv_at hl 0 rfl) ?_
    refine lv_ldc hx hb hown (hts _ (List.mem_of_getElem? (i := 8) rfl)) dX8_picture_12 ?_
    have hPc := hP.sub (ws' := [(h0, .inr (6, [.ref ah, v1, v2, v3, v4, v5, .ref t0, v7])), (t0, .inl (tc, 7, .inl tf))]) [0, 1] rfl
    have hKc := hK.sub (tys' := [(tc, .int)]) [0] rfl
    have hDc := hD.sub (ws' := [(h0, .inr (6, [.ref ah, v1, v2, v3, v4, v5, .ref t0, v7])), (t0, .inl (tc, 7, .inl tf))]) [0, 1] (by decide) rfl
    have hFc := va_free (wc := [(h0, .inr (6, [.ref ah, v1, v2, v3, v4, v5, .ref t0, v7])), (t0, .inl (tc, 7, .inl tf))]) hD hS hA [0, 1] rfl
    refine va_calli (va_runV (As := [.int (-1000000001)]) (rest := []) ⟨hx, hb, hml, hown, hts⟩ (f_beyond l dC dI ad h0 (.ref ah) v1 v2 v3 v4 v5 t0 v7 tc tf s.heap.size ) (cwV 1 hts g_x_picture_f_beyond_63 rfl rfl rfl (by decide +kernel) ⟨(Nat.le_of_ble_eq_true rfl), (Nat.le_of_ble_eq_true rfl)⟩) ⟨preM_blind, va_recv hKc hPc (ci := 6) (q0 := 0) rfl rfl, fun U hU hW => ⟨rfl, preM_at hU hW hPc hKc hDc hev⟩⟩ rfl rfl hl.1 rfl (lv_room (Nat.le_of_ble_eq_true rfl)) dX8_picture_14 ⟨(Nat.le_of_ble_eq_true rfl), (Nat.le_of_ble_eq_true rfl)⟩) hS (fun q _ h => hFc q h) hFc (fun r_4 u t H1 locs ht hvm hw hB hz1 hk1 hS => ?_)
    obtain ⟨tg_5, hP1, hK1, hD1⟩ := hB
    rw [ht] at hP1
    have hK1 := va_K.moved hvm.symm hK1
    obtain ⟨hP, hD⟩ := va_join (wr := [(ah, .inr (4, [w0, w1, w2, w3, w4, w5, .int sc, .ref q5, w8])), (q5, .inl (c5, 7, .inr (.inl f5)))]) (w1 := [(h0, .inr (6, [.ref ah, v1, v2, v3, v4, v5, .ref t0, v7])), (t0, .inl (tc, 7, .inl tg_5))]) hP hD [0, 1] [2, 3] rfl rfl (by decide) (by decide) hk1 hFc hP1 hD1
    generalize H1 = H at hP hS ⊢
    have hP : va_P (dC, dI) vwCl [(ah, .inr (4, [w0, w1, w2, w3, w4, w5, .int sc, .ref q5, w8])), (q5, .inl (c5, 7, .inr (.inl f5))), (h0, .inr (6, [.ref ah, v1, v2, v3, v4, v5, .ref t0, v7])), (t0, .inl (tc, 7, .inl tg_5))] H := hP
    have hD : va_D A [(ah, .inr (4, [w0, w1, w2, w3, w4, w5, .int sc, .ref q5, w8])), (q5, .inl (c5, 7, .inr (.inl f5))), (h0, .inr (6, [.ref ah, v1, v2, v3, v4, v5, .ref t0, v7])), (t0, .inl (tc, 7, .inl tg_5))] := hD
    subst hw
    refine lv_i2l (v := (-1000000001)) hx hb dX8_picture_17 (by decide) ?_
    have hP9 := hP.sub (ws' := [(h0, .inr (6, [.ref ah, v1, v2, v3, v4, v5, .ref t0, v7])), (t0, .inl (tc, 7, .inl tg_5)), (ah, .inr (4, [w0, w1, w2, w3, w4, w5, .int sc, .ref q5, w8])), (q5, .inl (c5, 7, .inr (.inl f5)))]) [2, 3, 0, 1] rfl
    have hD9 := hD.sub (ws' := [(h0, .inr (6, [.ref ah, v1, v2, v3, v4, v5, .ref t0, v7])), (t0, .inl (tc, 7, .inl tg_5)), (ah, .inr (4, [w0, w1, w2, w3, w4, w5, .int sc, .ref q5, w8])), (q5, .inl (c5, 7, .inr (.inl f5)))]) [2, 3, 0, 1] (by decide) rfl
    have hK9 := hK.sub (tys' := [(tc, .int), (c5, .long)]) [0, 1] rfl
    exact W.lret (v := ((-1000000001) : Int64)) hx hb hr (fun t ht hW => ⟨⟨((-1000000001) : Int64), (), rfl, trivial, tg_5, by rw [ht]; exact hP9, va_K.moved hW.alike hK9, hD9⟩, hS.F ht⟩) hS.2.2 dX8_picture_18

def w_x_changes : List Cond := .code yX8_changes cX8_changes 3 (some .int) :: (([.fieldLink RX8 10 "LampShapes" "now" "LLampShapes$Stage;", .methodLink RX8 157 yX6_hasScene, .instanceMethod yX6_hasScene, .selects RX6 yX6_hasScene yX6_hasScene, .initialized RX6, .code yX6_hasScene cX6_hasScene 2 (some .boolean), .fieldLink RX6 31 "LampShapes$Stage" "scenes" "I", .constant RX8 62 (-1000000001), .methodLink RX8 63 yX8_finding, .instanceMethod yX8_finding, .selects RX8 yX8_finding yX8_finding, .initialized RX8, .code yX8_finding cX8_finding 3 (some .int), .fieldLink RX8 46 "LampShapes" "told" "[I", .methodLink RX8 168 yX6_changesBetween, .instanceMethod yX6_changesBetween, .selects RX6 yX6_changesBetween yX6_changesBetween, .code yX6_changesBetween cX6_changesBetween 3 (some .int), .methodLink RX6 98 yX6_offBetween, .instanceMethod yX6_offBetween, .selects RX6 yX6_offBetween yX6_offBetween, .code yX6_offBetween cX6_offBetween 3 (some .int), .fieldLink RX6 34 "LampShapes$Stage" "pictures" "[J", .methodLink RX6 94 yX1_cellsOff, .static yX1_cellsOff, .initialized RX1, .code yX1_cellsOff cX1_cellsOff 4 (some .int), .methodLink RX1 15 yJ13_bitCount_95d88, .static yJ13_bitCount_95d88, .initialized RJ13, .code yJ13_bitCount_95d88 cJ13_bitCount_95d88 2 (some .int), .constantLong RJ13 314 (6148914691236517205), .constantLong RJ13 316 (3689348814741910323), .constantLong RJ13 318 (1085102592571150095)] : List Cond) ++ wsX80 ++ wsX60)
set_option maxRecDepth 20000 in
theorem g_x_changes_s_hasScene_157 : GoodIn w_x_changes (wsV RX8 157 RX6 yX6_hasScene w_s_hasScene) := goodIn_r _ [2, 3, 4, 5, 6, 7, 43, 44, 45, 46, 47, 48, 49, 50, 51] rfl (by decide +kernel)
set_option maxRecDepth 20000 in
theorem g_x_changes_f_beyond_63 : GoodIn w_x_changes (wsV RX8 63 RX8 yX8_finding w_f_beyond) := goodIn_r _ [9, 10, 11, 12, 13, 8, 14, 35, 36, 37, 38, 39, 40, 41, 42] rfl (by decide +kernel)
set_option maxRecDepth 20000 in
theorem g_x_changes_s_changesBetween_168 : GoodIn w_x_changes (wsV RX8 168 RX6 yX6_changesBetween w_s_changesBetween) := goodIn_r _ [15, 16, 17, 5, 18, 19, 20, 21, 5, 22, 23, 24, 25, 26, 27, 28, 29, 30, 31, 32, 33, 34, 43, 44, 45, 46, 47, 48, 49, 50, 51] rfl (by decide +kernel)
set_option maxHeartbeats 4000000 in
set_option maxRecDepth 100000 in
theorem x_changes (l : Launch) (dC : Nat → ClassId) (dI : Nat → Nat → Nat) (ad : Nat → Nat) (h0 : Nat) (a : Int32) (b : Int32) (ah : Nat) (v1 : Value) (v2 : Value) (v3 : Value) (v4 : Value) (v5 : Value) (t0 : Nat) (v7 : Value) (tc : ClassId) (tf : Nat → Int32) (w0 : Value) (w1 : Value) (w2 : Value) (w3 : Value) (w4 : Value) (w5 : Value) (sc : Int32) (q5 : Nat) (w8 : Value) (c5 : ClassId) (f5 : Nat → Int64) (sz : Nat) (hsc : 0 ≤ sc.toInt ∧ sc.toInt ≤ 7) : Met l yX8_changes w_x_changes ({ frames := 4, cells := 0, slots := 0, locals := 88 } : Room) (va_Pc [.ref h0, .int a, .int b] (preM dC dI ad [(tc, .int), (c5, .long)] [(h0, .inr (6, [.ref ah, v1, v2, v3, v4, v5, .ref t0, v7])), (t0, .inl (tc, 7, .inl tf)), (ah, .inr (4, [w0, w1, w2, w3, w4, w5, .int sc, .ref q5, w8])), (q5, .inl (c5, 7, .inr (.inl f5)))] sz)) (va_Qi (fun (r : Int32) (_ : Unit) => True) (fun _ t => ∃ (tg : Nat → Int32), va_P (dC, dI) vwCl [(h0, .inr (6, [.ref ah, v1, v2, v3, v4, v5, .ref t0, v7])), (t0, .inl (tc, 7, .inl tg)), (ah, .inr (4, [w0, w1, w2, w3, w4, w5, .int sc, .ref q5, w8])), (q5, .inl (c5, 7, .inr (.inl f5)))] t.heap ∧ va_K (dC, dI) vwCl [(tc, .int), (c5, .long)] t ∧ va_D (va_A [(h0, .inr (6, [.ref ah, v1, v2, v3, v4, v5, .ref t0, v7])), (t0, .inl (tc, 7, .inl tf)), (ah, .inr (4, [w0, w1, w2, w3, w4, w5, .int sc, .ref q5, w8])), (q5, .inl (c5, 7, .inr (.inl f5)))] sz) [(h0, .inr (6, [.ref ah, v1, v2, v3, v4, v5, .ref t0, v7])), (t0, .inl (tc, 7, .inl tg)), (ah, .inr (4, [w0, w1, w2, w3, w4, w5, .int sc, .ref q5, w8])), (q5, .inl (c5, 7, .inr (.inl f5)))]) (va_A [(h0, .inr (6, [.ref ah, v1, v2, v3, v4, v5, .ref t0, v7])), (t0, .inl (tc, 7, .inl tf)), (ah, .inr (4, [w0, w1, w2, w3, w4, w5, .int sc, .ref q5, w8])), (q5, .inl (c5, 7, .inr (.inl f5)))] sz)) 0 0 (va_A [(h0, .inr (6, [.ref ah, v1, v2, v3, v4, v5, .ref t0, v7])), (t0, .inl (tc, 7, .inl tf)), (ah, .inr (4, [w0, w1, w2, w3, w4, w5, .int sc, .ref q5, w8])), (q5, .inl (c5, 7, .inr (.inl f5)))] sz) := by
  refine Met.ofW (cc := cX8_changes) (maxL := 3) (ret := (some .int)) (by decide) rfl ?_
  intro p e s m args below meth c s₁ B hml hv
  obtain ⟨rfl, hsz, hP, hK, hD0, hev⟩ := hv
  have hx := B.exec
  have hb := B.bytes
  have hr := B.returns
  have hts := atoms_spec (ws := w_x_changes) B.pre
  have hown : s.vm.findClass RX8 = some m.cls := findClass_of_methodNamed B.named
  have hlocks := B.notSynchronized
  have inX8 : ∀ w ∈ wsX80, w ∈ w_x_changes := fun w h => List.mem_cons_of_mem _ (List.mem_append_left _ (List.mem_append_right _ h))
  have inX6 : ∀ w ∈ wsX60, w ∈ w_x_changes := fun w h => List.mem_cons_of_mem _ (List.mem_append_right _ h)
  subst hsz
  have hD := hD0.self (sz := s.heap.size)
  generalize hAe : va_A [(h0, .inr (6, [.ref ah, v1, v2, v3, v4, v5, .ref t0, v7])), (t0, .inl (tc, 7, .inl tf)), (ah, .inr (4, [w0, w1, w2, w3, w4, w5, .int sc, .ref q5, w8])), (q5, .inl (c5, 7, .inr (.inl f5)))] s.heap.size = A at hD ⊢
  have hA : ∀ q : Nat, s.heap.size ≤ q → A q := fun q h => by rw [← hAe]; exact Or.inr h
  have hS : va_S A s.heap s.heap [] := va_S.rf
  have hP : va_P (dC, dI) vwCl [(h0, .inr (6, [.ref ah, v1, v2, v3, v4, v5, .ref t0, v7])), (t0, .inl (tc, 7, .inl tf)), (ah, .inr (4, [w0, w1, w2, w3, w4, w5, .int sc, .ref q5, w8])), (q5, .inl (c5, 7, .inr (.inl f5)))] s.heap := hP
  have hl := lv_entry ([.ref h0, .int a, .int b]) (n := 3) (Nat.le_of_ble_eq_true rfl)
  rw [lg_entry_eq]
  generalize (lg_sl ([.ref h0, .int a, .int b]) ++ List.replicate (3 - (lg_sl ([.ref h0, .int a, .int b])).length) Slot.unset).toArray = ls at hl ⊢
  have hl : lv_has ls 3 [(0, .ref h0), (1, .int a), (2, .int b)] := hl
  refine lv_aload_n hx hb dX8_changes_0 rfl (lv_at hl 0 rfl) ?_
  refine va_get (D := (dC, dI)) (ci := 6) (v := .ref ah) (C := RX8) (T := TX8) (N := 8) hx hb hts inX8 hown hK hP 0 rfl rfl 0 (by decide) (hts _ (List.mem_of_getElem? (i := 1) rfl)) (fun _ h9 => h9) rfl dX8_changes_1 ?_
  refine lv_iload_n hx hb dX8_changes_4 rfl (lv_at hl 1 rfl) ?_
  have hPc := hP.sub (ws' := [(ah, .inr (4, [w0, w1, w2, w3, w4, w5, .int sc, .ref q5, w8]))]) [2] rfl
  have hKc := hK.sub (tys' := []) [] rfl
  refine vp_callSi (W.runV (As := [.int a]) (rest := []) ⟨hx, hb, hml, hown, hts⟩ (s_hasScene l dC dI ad ah a w0 w1 w2 w3 w4 w5 sc (.ref q5) w8 ) (cwV 1 hts g_x_changes_s_hasScene_157 rfl rfl rfl (by decide +kernel) ⟨(Nat.le_of_ble_eq_true rfl), (Nat.le_of_ble_eq_true rfl)⟩) ⟨preS_blind, va_recv hKc hPc (ci := 4) (q0 := 0) rfl rfl, fun U hU hW => ⟨rfl, preS_at hU hW hPc hKc hev⟩⟩ rfl rfl hl.1 rfl (lv_room (Nat.le_of_ble_eq_true rfl)) dX8_changes_5 ⟨(Nat.le_of_ble_eq_true rfl), (Nat.le_of_ble_eq_true rfl)⟩) (fun r_1 hw => ?_)
  have hr_1 : (r_1.toInt = 1 ∧ 0 ≤ a.toInt ∧ a.toInt < sc.toInt) ∨ r_1.toInt = 0 := hw
  refine lv_if_eq (tgt := 22) hx hb dX8_changes_8 (by decide) (fun c_2 => ?_) (fun c_2 => ?_)
  · skip
    have tc_2 : r_1.toInt = 0 := (fa_eq _ _).mp c_2
    refine lv_aload_n hx hb dX8_changes_22 rfl (lv_at hl 0 rfl) ?_
    refine lv_ldc hx hb hown (hts _ (List.mem_of_getElem? (i := 8) rfl)) dX8_changes_23 ?_
    have hPc := hP.sub (ws' := [(h0, .inr (6, [.ref ah, v1, v2, v3, v4, v5, .ref t0, v7])), (t0, .inl (tc, 7, .inl tf))]) [0, 1] rfl
    have hKc := hK.sub (tys' := [(tc, .int)]) [0] rfl
    have hDc := hD.sub (ws' := [(h0, .inr (6, [.ref ah, v1, v2, v3, v4, v5, .ref t0, v7])), (t0, .inl (tc, 7, .inl tf))]) [0, 1] (by decide) rfl
    have hFc := va_free (wc := [(h0, .inr (6, [.ref ah, v1, v2, v3, v4, v5, .ref t0, v7])), (t0, .inl (tc, 7, .inl tf))]) hD hS hA [0, 1] rfl
    refine va_calli (va_runV (As := [.int (-1000000001)]) (rest := []) ⟨hx, hb, hml, hown, hts⟩ (f_beyond l dC dI ad h0 (.ref ah) v1 v2 v3 v4 v5 t0 v7 tc tf s.heap.size ) (cwV 1 hts g_x_changes_f_beyond_63 rfl rfl rfl (by decide +kernel) ⟨(Nat.le_of_ble_eq_true rfl), (Nat.le_of_ble_eq_true rfl)⟩) ⟨preM_blind, va_recv hKc hPc (ci := 6) (q0 := 0) rfl rfl, fun U hU hW => ⟨rfl, preM_at hU hW hPc hKc hDc hev⟩⟩ rfl rfl hl.1 rfl (lv_room (Nat.le_of_ble_eq_true rfl)) dX8_changes_25 ⟨(Nat.le_of_ble_eq_true rfl), (Nat.le_of_ble_eq_true rfl)⟩) hS (fun q _ h => hFc q h) hFc (fun r_3 u t H1 locs ht hvm hw hB hz1 hk1 hS => ?_)
    obtain ⟨tg_4, hP1, hK1, hD1⟩ := hB
    rw [ht] at hP1
    have hK1 := va_K.moved hvm.symm hK1
    obtain ⟨hP, hD⟩ := va_join (wr := [(ah, .inr (4, [w0, w1, w2, w3, w4, w5, .int sc, .ref q5, w8])), (q5, .inl (c5, 7, .inr (.inl f5)))]) (w1 := [(h0, .inr (6, [.ref ah, v1, v2, v3, v4, v5, .ref t0, v7])), (t0, .inl (tc, 7, .inl tg_4))]) hP hD [0, 1] [2, 3] rfl rfl (by decide) (by decide) hk1 hFc hP1 hD1
    generalize H1 = H at hP hS ⊢
    have hP : va_P (dC, dI) vwCl [(ah, .inr (4, [w0, w1, w2, w3, w4, w5, .int sc, .ref q5, w8])), (q5, .inl (c5, 7, .inr (.inl f5))), (h0, .inr (6, [.ref ah, v1, v2, v3, v4, v5, .ref t0, v7])), (t0, .inl (tc, 7, .inl tg_4))] H := hP
    have hD : va_D A [(ah, .inr (4, [w0, w1, w2, w3, w4, w5, .int sc, .ref q5, w8])), (q5, .inl (c5, 7, .inr (.inl f5))), (h0, .inr (6, [.ref ah, v1, v2, v3, v4, v5, .ref t0, v7])), (t0, .inl (tc, 7, .inl tg_4))] := hD
    subst hw
    have hP9 := hP.sub (ws' := [(h0, .inr (6, [.ref ah, v1, v2, v3, v4, v5, .ref t0, v7])), (t0, .inl (tc, 7, .inl tg_4)), (ah, .inr (4, [w0, w1, w2, w3, w4, w5, .int sc, .ref q5, w8])), (q5, .inl (c5, 7, .inr (.inl f5)))]) [2, 3, 0, 1] rfl
    have hD9 := hD.sub (ws' := [(h0, .inr (6, [.ref ah, v1, v2, v3, v4, v5, .ref t0, v7])), (t0, .inl (tc, 7, .inl tg_4)), (ah, .inr (4, [w0, w1, w2, w3, w4, w5, .int sc, .ref q5, w8])), (q5, .inl (c5, 7, .inr (.inl f5)))]) [2, 3, 0, 1] (by decide) rfl
    have hK9 := hK.sub (tys' := [(tc, .int), (c5, .long)]) [0, 1] rfl
    exact W.iret (v := ((-1000000001) : Int32)) hx hb hr (fun t ht hW => ⟨⟨((-1000000001) : Int32), (), rfl, trivial, tg_4, by rw [ht]; exact hP9, va_K.moved hW.alike hK9, hD9⟩, hS.F ht⟩) hS.2.2 dX8_changes_28
  · skip
    have tc_2 : ¬ r_1.toInt = 0 := fun h => c_2 ((fa_eq _ _).mpr h)
    refine lv_aload_n hx hb dX8_changes_11 rfl (lv_at hl 0 rfl) ?_
    refine va_get (D := (dC, dI)) (ci := 6) (v := .ref ah) (C := RX8) (T := TX8) (N := 8) hx hb hts inX8 hown hK hP 0 rfl rfl 0 (by decide) (hts _ (List.mem_of_getElem? (i := 1) rfl)) (fun _ h9 => h9) rfl dX8_changes_12 ?_
    refine lv_iload_n hx hb dX8_changes_15 rfl (lv_at hl 2 rfl) ?_
    have hPc := hP.sub (ws' := [(ah, .inr (4, [w0, w1, w2, w3, w4, w5, .int sc, .ref q5, w8]))]) [2] rfl
    have hKc := hK.sub (tys' := []) [] rfl
    refine vp_callSi (W.runV (As := [.int b]) (rest := []) ⟨hx, hb, hml, hown, hts⟩ (s_hasScene l dC dI ad ah b w0 w1 w2 w3 w4 w5 sc (.ref q5) w8 ) (cwV 1 hts g_x_changes_s_hasScene_157 rfl rfl rfl (by decide +kernel) ⟨(Nat.le_of_ble_eq_true rfl), (Nat.le_of_ble_eq_true rfl)⟩) ⟨preS_blind, va_recv hKc hPc (ci := 4) (q0 := 0) rfl rfl, fun U hU hW => ⟨rfl, preS_at hU hW hPc hKc hev⟩⟩ rfl rfl hl.1 rfl (lv_room (Nat.le_of_ble_eq_true rfl)) dX8_changes_16 ⟨(Nat.le_of_ble_eq_true rfl), (Nat.le_of_ble_eq_true rfl)⟩) (fun r_5 hw => ?_)
    have hr_5 : (r_5.toInt = 1 ∧ 0 ≤ b.toInt ∧ b.toInt < sc.toInt) ∨ r_5.toInt = 0 := hw
    refine lv_if_ne (tgt := 29) hx hb dX8_changes_19 (by decide) (fun c_6 => ?_) (fun c_6 => ?_)
    · skip
      have tc_6 : ¬ r_5.toInt = 0 := fun h => c_6 ((fa_eq _ _).mpr h)
      refine lv_aload_n hx hb dX8_changes_29 rfl (lv_at hl 0 rfl) ?_
      refine va_get (D := (dC, dI)) (ci := 6) (v := .ref ah) (C := RX8) (T := TX8) (N := 8) hx hb hts inX8 hown hK hP 0 rfl rfl 0 (by decide) (hts _ (List.mem_of_getElem? (i := 1) rfl)) (fun _ h9 => h9) rfl dX8_changes_30 ?_
      refine lv_iload_n hx hb dX8_changes_33 rfl (lv_at hl 1 rfl) ?_
      refine lv_iload_n hx hb dX8_changes_34 rfl (lv_at hl 2 rfl) ?_
      have hPc := hP.sub (ws' := [(ah, .inr (4, [w0, w1, w2, w3, w4, w5, .int sc, .ref q5, w8])), (q5, .inl (c5, 7, .inr (.inl f5)))]) [2, 3] rfl
      have hKc := hK.sub (tys' := [(c5, .long)]) [1] rfl
      refine vp_callSi (W.runV (As := [.int a, .int b]) (rest := []) ⟨hx, hb, hml, hown, hts⟩ (s_changesBetween l dC dI ad ah a b w0 w1 w2 w3 w4 w5 (.int sc) q5 w8 c5 f5 (by first | omega | decide | (simp only [fa_lt, fa_le, fa_eq, and_true, true_and, and_false, false_and, not_true_eq_false, not_false_eq_true, li_0, li_1, li_2, li_3, li_4, li_5, li_6, li_7, li_8, li_9, li_10, li_12, li_15, li_16, li_20, li_30, li_34, li_38, li_40, li_63, li_64, li_65, li_78, li_120, li_1000, li_4000, li_10000, li_11077, li_255, li_65535, li_m1, li_m2, li_m1000000001, li_m1000000002, li_m1000000003, li_m1000000004, li_m1000000005, li_m1000000006, li_m1000000007, or_true, true_or, or_false, false_or, implies_true, true_implies, false_implies] <;> omega)) (by first | omega | decide | (simp only [fa_lt, fa_le, fa_eq, and_true, true_and, and_false, false_and, not_true_eq_false, not_false_eq_true, li_0, li_1, li_2, li_3, li_4, li_5, li_6, li_7, li_8, li_9, li_10, li_12, li_15, li_16, li_20, li_30, li_34, li_38, li_40, li_63, li_64, li_65, li_78, li_120, li_1000, li_4000, li_10000, li_11077, li_255, li_65535, li_m1, li_m2, li_m1000000001, li_m1000000002, li_m1000000003, li_m1000000004, li_m1000000005, li_m1000000006, li_m1000000007, or_true, true_or, or_false, false_or, implies_true, true_implies, false_implies] <;> omega))) (cwV 2 hts g_x_changes_s_changesBetween_168 rfl rfl rfl (by decide +kernel) ⟨(Nat.le_of_ble_eq_true rfl), (Nat.le_of_ble_eq_true rfl)⟩) ⟨preS_blind, va_recv hKc hPc (ci := 4) (q0 := 0) rfl rfl, fun U hU hW => ⟨rfl, preS_at hU hW hPc hKc hev⟩⟩ rfl rfl hl.1 rfl (lv_room (Nat.le_of_ble_eq_true rfl)) dX8_changes_35 ⟨(Nat.le_of_ble_eq_true rfl), (Nat.le_of_ble_eq_true rfl)⟩) (fun r_7 hw => ?_)
      have hP9 := hP.sub (ws' := [(h0, .inr (6, [.ref ah, v1, v2, v3, v4, v5, .ref t0, v7])), (t0, .inl (tc, 7, .inl tf)), (ah, .inr (4, [w0, w1, w2, w3, w4, w5, .int sc, .ref q5, w8])), (q5, .inl (c5, 7, .inr (.inl f5)))]) [0, 1, 2, 3] rfl
      have hD9 := hD.sub (ws' := [(h0, .inr (6, [.ref ah, v1, v2, v3, v4, v5, .ref t0, v7])), (t0, .inl (tc, 7, .inl tf)), (ah, .inr (4, [w0, w1, w2, w3, w4, w5, .int sc, .ref q5, w8])), (q5, .inl (c5, 7, .inr (.inl f5)))]) [0, 1, 2, 3] (by decide) rfl
      have hK9 := hK.sub (tys' := [(tc, .int), (c5, .long)]) [0, 1] rfl
      exact W.iret (v := r_7) hx hb hr (fun t ht hW => ⟨⟨r_7, (), rfl, trivial, tf, by rw [ht]; exact hP9, va_K.moved hW.alike hK9, hD9⟩, hS.F ht⟩) hS.2.2 dX8_changes_38
    · skip
      have tc_6 : r_5.toInt = 0 := (fa_eq _ _).mp c_6
      refine lv_aload_n hx hb dX8_changes_22 rfl (lv_at hl 0 rfl) ?_
      refine lv_ldc hx hb hown (hts _ (List.mem_of_getElem? (i := 8) rfl)) dX8_changes_23 ?_
      have hPc := hP.sub (ws' := [(h0, .inr (6, [.ref ah, v1, v2, v3, v4, v5, .ref t0, v7])), (t0, .inl (tc, 7, .inl tf))]) [0, 1] rfl
      have hKc := hK.sub (tys' := [(tc, .int)]) [0] rfl
      have hDc := hD.sub (ws' := [(h0, .inr (6, [.ref ah, v1, v2, v3, v4, v5, .ref t0, v7])), (t0, .inl (tc, 7, .inl tf))]) [0, 1] (by decide) rfl
      have hFc := va_free (wc := [(h0, .inr (6, [.ref ah, v1, v2, v3, v4, v5, .ref t0, v7])), (t0, .inl (tc, 7, .inl tf))]) hD hS hA [0, 1] rfl
      refine va_calli (va_runV (As := [.int (-1000000001)]) (rest := []) ⟨hx, hb, hml, hown, hts⟩ (f_beyond l dC dI ad h0 (.ref ah) v1 v2 v3 v4 v5 t0 v7 tc tf s.heap.size ) (cwV 1 hts g_x_changes_f_beyond_63 rfl rfl rfl (by decide +kernel) ⟨(Nat.le_of_ble_eq_true rfl), (Nat.le_of_ble_eq_true rfl)⟩) ⟨preM_blind, va_recv hKc hPc (ci := 6) (q0 := 0) rfl rfl, fun U hU hW => ⟨rfl, preM_at hU hW hPc hKc hDc hev⟩⟩ rfl rfl hl.1 rfl (lv_room (Nat.le_of_ble_eq_true rfl)) dX8_changes_25 ⟨(Nat.le_of_ble_eq_true rfl), (Nat.le_of_ble_eq_true rfl)⟩) hS (fun q _ h => hFc q h) hFc (fun r_8 u t H1 locs ht hvm hw hB hz1 hk1 hS => ?_)
      obtain ⟨tg_9, hP1, hK1, hD1⟩ := hB
      rw [ht] at hP1
      have hK1 := va_K.moved hvm.symm hK1
      obtain ⟨hP, hD⟩ := va_join (wr := [(ah, .inr (4, [w0, w1, w2, w3, w4, w5, .int sc, .ref q5, w8])), (q5, .inl (c5, 7, .inr (.inl f5)))]) (w1 := [(h0, .inr (6, [.ref ah, v1, v2, v3, v4, v5, .ref t0, v7])), (t0, .inl (tc, 7, .inl tg_9))]) hP hD [0, 1] [2, 3] rfl rfl (by decide) (by decide) hk1 hFc hP1 hD1
      generalize H1 = H at hP hS ⊢
      have hP : va_P (dC, dI) vwCl [(ah, .inr (4, [w0, w1, w2, w3, w4, w5, .int sc, .ref q5, w8])), (q5, .inl (c5, 7, .inr (.inl f5))), (h0, .inr (6, [.ref ah, v1, v2, v3, v4, v5, .ref t0, v7])), (t0, .inl (tc, 7, .inl tg_9))] H := hP
      have hD : va_D A [(ah, .inr (4, [w0, w1, w2, w3, w4, w5, .int sc, .ref q5, w8])), (q5, .inl (c5, 7, .inr (.inl f5))), (h0, .inr (6, [.ref ah, v1, v2, v3, v4, v5, .ref t0, v7])), (t0, .inl (tc, 7, .inl tg_9))] := hD
      subst hw
      have hP9 := hP.sub (ws' := [(h0, .inr (6, [.ref ah, v1, v2, v3, v4, v5, .ref t0, v7])), (t0, .inl (tc, 7, .inl tg_9)), (ah, .inr (4, [w0, w1, w2, w3, w4, w5, .int sc, .ref q5, w8])), (q5, .inl (c5, 7, .inr (.inl f5)))]) [2, 3, 0, 1] rfl
      have hD9 := hD.sub (ws' := [(h0, .inr (6, [.ref ah, v1, v2, v3, v4, v5, .ref t0, v7])), (t0, .inl (tc, 7, .inl tg_9)), (ah, .inr (4, [w0, w1, w2, w3, w4, w5, .int sc, .ref q5, w8])), (q5, .inl (c5, 7, .inr (.inl f5)))]) [2, 3, 0, 1] (by decide) rfl
      have hK9 := hK.sub (tys' := [(tc, .int), (c5, .long)]) [0, 1] rfl
      exact W.iret (v := ((-1000000001) : Int32)) hx hb hr (fun t ht hW => ⟨⟨((-1000000001) : Int32), (), rfl, trivial, tg_9, by rw [ht]; exact hP9, va_K.moved hW.alike hK9, hD9⟩, hS.F ht⟩) hS.2.2 dX8_changes_28

def w_x_taken : List Cond := .code yX8_taken cX8_taken 5 (some .int) :: (([.fieldLink RX8 10 "LampShapes" "now" "LLampShapes$Stage;", .methodLink RX8 157 yX6_hasScene, .instanceMethod yX6_hasScene, .selects RX6 yX6_hasScene yX6_hasScene, .initialized RX6, .code yX6_hasScene cX6_hasScene 2 (some .boolean), .fieldLink RX6 31 "LampShapes$Stage" "scenes" "I", .constant RX8 62 (-1000000001), .methodLink RX8 63 yX8_finding, .instanceMethod yX8_finding, .selects RX8 yX8_finding yX8_finding, .initialized RX8, .code yX8_finding cX8_finding 3 (some .int), .fieldLink RX8 46 "LampShapes" "told" "[I", .methodLink RX8 207 yX6_offBetween, .instanceMethod yX6_offBetween, .selects RX6 yX6_offBetween yX6_offBetween, .code yX6_offBetween cX6_offBetween 3 (some .int), .fieldLink RX6 34 "LampShapes$Stage" "pictures" "[J", .methodLink RX6 94 yX1_cellsOff, .static yX1_cellsOff, .initialized RX1, .code yX1_cellsOff cX1_cellsOff 4 (some .int), .methodLink RX1 15 yJ13_bitCount_95d88, .static yJ13_bitCount_95d88, .initialized RJ13, .code yJ13_bitCount_95d88 cJ13_bitCount_95d88 2 (some .int), .constantLong RJ13 314 (6148914691236517205), .constantLong RJ13 316 (3689348814741910323), .constantLong RJ13 318 (1085102592571150095)] : List Cond) ++ wsX80 ++ wsX60)
set_option maxRecDepth 20000 in
theorem g_x_taken_s_hasScene_157 : GoodIn w_x_taken (wsV RX8 157 RX6 yX6_hasScene w_s_hasScene) := goodIn_r _ [2, 3, 4, 5, 6, 7, 39, 40, 41, 42, 43, 44, 45, 46, 47] rfl (by decide +kernel)
set_option maxRecDepth 20000 in
theorem g_x_taken_f_beyond_63 : GoodIn w_x_taken (wsV RX8 63 RX8 yX8_finding w_f_beyond) := goodIn_r _ [9, 10, 11, 12, 13, 8, 14, 31, 32, 33, 34, 35, 36, 37, 38] rfl (by decide +kernel)
set_option maxRecDepth 20000 in
theorem g_x_taken_s_offBetween_207 : GoodIn w_x_taken (wsV RX8 207 RX6 yX6_offBetween w_s_offBetween) := goodIn_r _ [15, 16, 17, 5, 18, 19, 20, 21, 22, 23, 24, 25, 26, 27, 28, 29, 30, 39, 40, 41, 42, 43, 44, 45, 46, 47] rfl (by decide +kernel)
set_option maxHeartbeats 4000000 in
set_option maxRecDepth 100000 in
theorem x_taken (l : Launch) (dC : Nat → ClassId) (dI : Nat → Nat → Nat) (ad : Nat → Nat) (h0 : Nat) (a : Int32) (b : Int32) (ah : Nat) (v1 : Value) (v2 : Value) (v3 : Value) (v4 : Value) (v5 : Value) (t0 : Nat) (v7 : Value) (tc : ClassId) (tf : Nat → Int32) (w0 : Value) (w1 : Value) (w2 : Value) (w3 : Value) (w4 : Value) (w5 : Value) (sc : Int32) (q5 : Nat) (w8 : Value) (c5 : ClassId) (f5 : Nat → Int64) (sz : Nat) (hsc : 0 ≤ sc.toInt ∧ sc.toInt ≤ 7) : Met l yX8_taken w_x_taken ({ frames := 3, cells := 0, slots := 0, locals := 66 } : Room) (va_Pc [.ref h0, .int a, .int b] (preM dC dI ad [(tc, .int), (c5, .long)] [(h0, .inr (6, [.ref ah, v1, v2, v3, v4, v5, .ref t0, v7])), (t0, .inl (tc, 7, .inl tf)), (ah, .inr (4, [w0, w1, w2, w3, w4, w5, .int sc, .ref q5, w8])), (q5, .inl (c5, 7, .inr (.inl f5)))] sz)) (va_Qi (fun (r : Int32) (_ : Unit) => True) (fun _ t => ∃ (tg : Nat → Int32), va_P (dC, dI) vwCl [(h0, .inr (6, [.ref ah, v1, v2, v3, v4, v5, .ref t0, v7])), (t0, .inl (tc, 7, .inl tg)), (ah, .inr (4, [w0, w1, w2, w3, w4, w5, .int sc, .ref q5, w8])), (q5, .inl (c5, 7, .inr (.inl f5)))] t.heap ∧ va_K (dC, dI) vwCl [(tc, .int), (c5, .long)] t ∧ va_D (va_A [(h0, .inr (6, [.ref ah, v1, v2, v3, v4, v5, .ref t0, v7])), (t0, .inl (tc, 7, .inl tf)), (ah, .inr (4, [w0, w1, w2, w3, w4, w5, .int sc, .ref q5, w8])), (q5, .inl (c5, 7, .inr (.inl f5)))] sz) [(h0, .inr (6, [.ref ah, v1, v2, v3, v4, v5, .ref t0, v7])), (t0, .inl (tc, 7, .inl tg)), (ah, .inr (4, [w0, w1, w2, w3, w4, w5, .int sc, .ref q5, w8])), (q5, .inl (c5, 7, .inr (.inl f5)))]) (va_A [(h0, .inr (6, [.ref ah, v1, v2, v3, v4, v5, .ref t0, v7])), (t0, .inl (tc, 7, .inl tf)), (ah, .inr (4, [w0, w1, w2, w3, w4, w5, .int sc, .ref q5, w8])), (q5, .inl (c5, 7, .inr (.inl f5)))] sz)) 0 0 (va_A [(h0, .inr (6, [.ref ah, v1, v2, v3, v4, v5, .ref t0, v7])), (t0, .inl (tc, 7, .inl tf)), (ah, .inr (4, [w0, w1, w2, w3, w4, w5, .int sc, .ref q5, w8])), (q5, .inl (c5, 7, .inr (.inl f5)))] sz) := by
  refine Met.ofW (cc := cX8_taken) (maxL := 5) (ret := (some .int)) (by decide) rfl ?_
  intro p e s m args below meth c s₁ B hml hv
  obtain ⟨rfl, hsz, hP, hK, hD0, hev⟩ := hv
  have hx := B.exec
  have hb := B.bytes
  have hr := B.returns
  have hts := atoms_spec (ws := w_x_taken) B.pre
  have hown : s.vm.findClass RX8 = some m.cls := findClass_of_methodNamed B.named
  have hlocks := B.notSynchronized
  have inX8 : ∀ w ∈ wsX80, w ∈ w_x_taken := fun w h => List.mem_cons_of_mem _ (List.mem_append_left _ (List.mem_append_right _ h))
  have inX6 : ∀ w ∈ wsX60, w ∈ w_x_taken := fun w h => List.mem_cons_of_mem _ (List.mem_append_right _ h)
  subst hsz
  have hD := hD0.self (sz := s.heap.size)
  generalize hAe : va_A [(h0, .inr (6, [.ref ah, v1, v2, v3, v4, v5, .ref t0, v7])), (t0, .inl (tc, 7, .inl tf)), (ah, .inr (4, [w0, w1, w2, w3, w4, w5, .int sc, .ref q5, w8])), (q5, .inl (c5, 7, .inr (.inl f5)))] s.heap.size = A at hD ⊢
  have hA : ∀ q : Nat, s.heap.size ≤ q → A q := fun q h => by rw [← hAe]; exact Or.inr h
  have hS : va_S A s.heap s.heap [] := va_S.rf
  have hP : va_P (dC, dI) vwCl [(h0, .inr (6, [.ref ah, v1, v2, v3, v4, v5, .ref t0, v7])), (t0, .inl (tc, 7, .inl tf)), (ah, .inr (4, [w0, w1, w2, w3, w4, w5, .int sc, .ref q5, w8])), (q5, .inl (c5, 7, .inr (.inl f5)))] s.heap := hP
  have hl := lv_entry ([.ref h0, .int a, .int b]) (n := 5) (Nat.le_of_ble_eq_true rfl)
  rw [lg_entry_eq]
  generalize (lg_sl ([.ref h0, .int a, .int b]) ++ List.replicate (5 - (lg_sl ([.ref h0, .int a, .int b])).length) Slot.unset).toArray = ls at hl ⊢
  have hl : lv_has ls 5 [(0, .ref h0), (1, .int a), (2, .int b)] := hl
  refine lv_aload_n hx hb dX8_taken_0 rfl (lv_at hl 0 rfl) ?_
  refine va_get (D := (dC, dI)) (ci := 6) (v := .ref ah) (C := RX8) (T := TX8) (N := 8) hx hb hts inX8 hown hK hP 0 rfl rfl 0 (by decide) (hts _ (List.mem_of_getElem? (i := 1) rfl)) (fun _ h9 => h9) rfl dX8_taken_1 ?_
  refine lv_iload_n hx hb dX8_taken_4 rfl (lv_at hl 1 rfl) ?_
  have hPc := hP.sub (ws' := [(ah, .inr (4, [w0, w1, w2, w3, w4, w5, .int sc, .ref q5, w8]))]) [2] rfl
  have hKc := hK.sub (tys' := []) [] rfl
  refine vp_callSi (W.runV (As := [.int a]) (rest := []) ⟨hx, hb, hml, hown, hts⟩ (s_hasScene l dC dI ad ah a w0 w1 w2 w3 w4 w5 sc (.ref q5) w8 ) (cwV 1 hts g_x_taken_s_hasScene_157 rfl rfl rfl (by decide +kernel) ⟨(Nat.le_of_ble_eq_true rfl), (Nat.le_of_ble_eq_true rfl)⟩) ⟨preS_blind, va_recv hKc hPc (ci := 4) (q0 := 0) rfl rfl, fun U hU hW => ⟨rfl, preS_at hU hW hPc hKc hev⟩⟩ rfl rfl hl.1 rfl (lv_room (Nat.le_of_ble_eq_true rfl)) dX8_taken_5 ⟨(Nat.le_of_ble_eq_true rfl), (Nat.le_of_ble_eq_true rfl)⟩) (fun r_1 hw => ?_)
  have hr_1 : (r_1.toInt = 1 ∧ 0 ≤ a.toInt ∧ a.toInt < sc.toInt) ∨ r_1.toInt = 0 := hw
  refine lv_if_eq (tgt := 21) hx hb dX8_taken_8 (by decide) (fun c_2 => ?_) (fun c_2 => ?_)
  · skip
    have tc_2 : r_1.toInt = 0 := (fa_eq _ _).mp c_2
    refine lv_aload_n hx hb dX8_taken_21 rfl (lv_at hl 0 rfl) ?_
    refine lv_ldc hx hb hown (hts _ (List.mem_of_getElem? (i := 8) rfl)) dX8_taken_22 ?_
    have hPc := hP.sub (ws' := [(h0, .inr (6, [.ref ah, v1, v2, v3, v4, v5, .ref t0, v7])), (t0, .inl (tc, 7, .inl tf))]) [0, 1] rfl
    have hKc := hK.sub (tys' := [(tc, .int)]) [0] rfl
    have hDc := hD.sub (ws' := [(h0, .inr (6, [.ref ah, v1, v2, v3, v4, v5, .ref t0, v7])), (t0, .inl (tc, 7, .inl tf))]) [0, 1] (by decide) rfl
    have hFc := va_free (wc := [(h0, .inr (6, [.ref ah, v1, v2, v3, v4, v5, .ref t0, v7])), (t0, .inl (tc, 7, .inl tf))]) hD hS hA [0, 1] rfl
    refine va_calli (va_runV (As := [.int (-1000000001)]) (rest := []) ⟨hx, hb, hml, hown, hts⟩ (f_beyond l dC dI ad h0 (.ref ah) v1 v2 v3 v4 v5 t0 v7 tc tf s.heap.size ) (cwV 1 hts g_x_taken_f_beyond_63 rfl rfl rfl (by decide +kernel) ⟨(Nat.le_of_ble_eq_true rfl), (Nat.le_of_ble_eq_true rfl)⟩) ⟨preM_blind, va_recv hKc hPc (ci := 6) (q0 := 0) rfl rfl, fun U hU hW => ⟨rfl, preM_at hU hW hPc hKc hDc hev⟩⟩ rfl rfl hl.1 rfl (lv_room (Nat.le_of_ble_eq_true rfl)) dX8_taken_24 ⟨(Nat.le_of_ble_eq_true rfl), (Nat.le_of_ble_eq_true rfl)⟩) hS (fun q _ h => hFc q h) hFc (fun r_3 u t H1 locs ht hvm hw hB hz1 hk1 hS => ?_)
    obtain ⟨tg_4, hP1, hK1, hD1⟩ := hB
    rw [ht] at hP1
    have hK1 := va_K.moved hvm.symm hK1
    obtain ⟨hP, hD⟩ := va_join (wr := [(ah, .inr (4, [w0, w1, w2, w3, w4, w5, .int sc, .ref q5, w8])), (q5, .inl (c5, 7, .inr (.inl f5)))]) (w1 := [(h0, .inr (6, [.ref ah, v1, v2, v3, v4, v5, .ref t0, v7])), (t0, .inl (tc, 7, .inl tg_4))]) hP hD [0, 1] [2, 3] rfl rfl (by decide) (by decide) hk1 hFc hP1 hD1
    generalize H1 = H at hP hS ⊢
    have hP : va_P (dC, dI) vwCl [(ah, .inr (4, [w0, w1, w2, w3, w4, w5, .int sc, .ref q5, w8])), (q5, .inl (c5, 7, .inr (.inl f5))), (h0, .inr (6, [.ref ah, v1, v2, v3, v4, v5, .ref t0, v7])), (t0, .inl (tc, 7, .inl tg_4))] H := hP
    have hD : va_D A [(ah, .inr (4, [w0, w1, w2, w3, w4, w5, .int sc, .ref q5, w8])), (q5, .inl (c5, 7, .inr (.inl f5))), (h0, .inr (6, [.ref ah, v1, v2, v3, v4, v5, .ref t0, v7])), (t0, .inl (tc, 7, .inl tg_4))] := hD
    subst hw
    have hP9 := hP.sub (ws' := [(h0, .inr (6, [.ref ah, v1, v2, v3, v4, v5, .ref t0, v7])), (t0, .inl (tc, 7, .inl tg_4)), (ah, .inr (4, [w0, w1, w2, w3, w4, w5, .int sc, .ref q5, w8])), (q5, .inl (c5, 7, .inr (.inl f5)))]) [2, 3, 0, 1] rfl
    have hD9 := hD.sub (ws' := [(h0, .inr (6, [.ref ah, v1, v2, v3, v4, v5, .ref t0, v7])), (t0, .inl (tc, 7, .inl tg_4)), (ah, .inr (4, [w0, w1, w2, w3, w4, w5, .int sc, .ref q5, w8])), (q5, .inl (c5, 7, .inr (.inl f5)))]) [2, 3, 0, 1] (by decide) rfl
    have hK9 := hK.sub (tys' := [(tc, .int), (c5, .long)]) [0, 1] rfl
    exact W.iret (v := ((-1000000001) : Int32)) hx hb hr (fun t ht hW => ⟨⟨((-1000000001) : Int32), (), rfl, trivial, tg_4, by rw [ht]; exact hP9, va_K.moved hW.alike hK9, hD9⟩, hS.F ht⟩) hS.2.2 dX8_taken_27
  · skip
    have tc_2 : ¬ r_1.toInt = 0 := fun h => c_2 ((fa_eq _ _).mpr h)
    refine lv_iload_n hx hb dX8_taken_11 rfl (lv_at hl 2 rfl) ?_
    refine lv_if_lt (tgt := 21) hx hb dX8_taken_12 (by decide) (fun c_5 => ?_) (fun c_5 => ?_)
    · skip
      have tc_5 : b.toInt < 0 := (fa_lt _ _).mp c_5
      refine lv_aload_n hx hb dX8_taken_21 rfl (lv_at hl 0 rfl) ?_
      refine lv_ldc hx hb hown (hts _ (List.mem_of_getElem? (i := 8) rfl)) dX8_taken_22 ?_
      have hPc := hP.sub (ws' := [(h0, .inr (6, [.ref ah, v1, v2, v3, v4, v5, .ref t0, v7])), (t0, .inl (tc, 7, .inl tf))]) [0, 1] rfl
      have hKc := hK.sub (tys' := [(tc, .int)]) [0] rfl
      have hDc := hD.sub (ws' := [(h0, .inr (6, [.ref ah, v1, v2, v3, v4, v5, .ref t0, v7])), (t0, .inl (tc, 7, .inl tf))]) [0, 1] (by decide) rfl
      have hFc := va_free (wc := [(h0, .inr (6, [.ref ah, v1, v2, v3, v4, v5, .ref t0, v7])), (t0, .inl (tc, 7, .inl tf))]) hD hS hA [0, 1] rfl
      refine va_calli (va_runV (As := [.int (-1000000001)]) (rest := []) ⟨hx, hb, hml, hown, hts⟩ (f_beyond l dC dI ad h0 (.ref ah) v1 v2 v3 v4 v5 t0 v7 tc tf s.heap.size ) (cwV 1 hts g_x_taken_f_beyond_63 rfl rfl rfl (by decide +kernel) ⟨(Nat.le_of_ble_eq_true rfl), (Nat.le_of_ble_eq_true rfl)⟩) ⟨preM_blind, va_recv hKc hPc (ci := 6) (q0 := 0) rfl rfl, fun U hU hW => ⟨rfl, preM_at hU hW hPc hKc hDc hev⟩⟩ rfl rfl hl.1 rfl (lv_room (Nat.le_of_ble_eq_true rfl)) dX8_taken_24 ⟨(Nat.le_of_ble_eq_true rfl), (Nat.le_of_ble_eq_true rfl)⟩) hS (fun q _ h => hFc q h) hFc (fun r_6 u t H1 locs ht hvm hw hB hz1 hk1 hS => ?_)
      obtain ⟨tg_7, hP1, hK1, hD1⟩ := hB
      rw [ht] at hP1
      have hK1 := va_K.moved hvm.symm hK1
      obtain ⟨hP, hD⟩ := va_join (wr := [(ah, .inr (4, [w0, w1, w2, w3, w4, w5, .int sc, .ref q5, w8])), (q5, .inl (c5, 7, .inr (.inl f5)))]) (w1 := [(h0, .inr (6, [.ref ah, v1, v2, v3, v4, v5, .ref t0, v7])), (t0, .inl (tc, 7, .inl tg_7))]) hP hD [0, 1] [2, 3] rfl rfl (by decide) (by decide) hk1 hFc hP1 hD1
      generalize H1 = H at hP hS ⊢
      have hP : va_P (dC, dI) vwCl [(ah, .inr (4, [w0, w1, w2, w3, w4, w5, .int sc, .ref q5, w8])), (q5, .inl (c5, 7, .inr (.inl f5))), (h0, .inr (6, [.ref ah, v1, v2, v3, v4, v5, .ref t0, v7])), (t0, .inl (tc, 7, .inl tg_7))] H := hP
      have hD : va_D A [(ah, .inr (4, [w0, w1, w2, w3, w4, w5, .int sc, .ref q5, w8])), (q5, .inl (c5, 7, .inr (.inl f5))), (h0, .inr (6, [.ref ah, v1, v2, v3, v4, v5, .ref t0, v7])), (t0, .inl (tc, 7, .inl tg_7))] := hD
      subst hw
      have hP9 := hP.sub (ws' := [(h0, .inr (6, [.ref ah, v1, v2, v3, v4, v5, .ref t0, v7])), (t0, .inl (tc, 7, .inl tg_7)), (ah, .inr (4, [w0, w1, w2, w3, w4, w5, .int sc, .ref q5, w8])), (q5, .inl (c5, 7, .inr (.inl f5)))]) [2, 3, 0, 1] rfl
      have hD9 := hD.sub (ws' := [(h0, .inr (6, [.ref ah, v1, v2, v3, v4, v5, .ref t0, v7])), (t0, .inl (tc, 7, .inl tg_7)), (ah, .inr (4, [w0, w1, w2, w3, w4, w5, .int sc, .ref q5, w8])), (q5, .inl (c5, 7, .inr (.inl f5)))]) [2, 3, 0, 1] (by decide) rfl
      have hK9 := hK.sub (tys' := [(tc, .int), (c5, .long)]) [0, 1] rfl
      exact W.iret (v := ((-1000000001) : Int32)) hx hb hr (fun t ht hW => ⟨⟨((-1000000001) : Int32), (), rfl, trivial, tg_7, by rw [ht]; exact hP9, va_K.moved hW.alike hK9, hD9⟩, hS.F ht⟩) hS.2.2 dX8_taken_27
    · skip
      have tc_5 : ¬ b.toInt < 0 := fun h => c_5 ((fa_lt _ _).mpr h)
      refine lv_iload_n hx hb dX8_taken_15 rfl (lv_at hl 2 rfl) ?_
      refine lv_bipush (v := 64) hx hb dX8_taken_16 (by decide) ?_
      refine lv_icmp_le (tgt := 28) hx hb dX8_taken_18 (by decide) (fun c_8 => ?_) (fun c_8 => ?_)
      · skip
        have tc_8 : b.toInt ≤ 64 := (fa_le _ _).mp c_8
        refine lv_iconst (v := 0) hx hb dX8_taken_28 (by decide) ?_
        refine lv_istore_n (lv' := [(3, .int 0), (0, .ref h0), (1, .int a), (2, .int b)]) hx hb dX8_taken_29 rfl hl (by decide) rfl (fun ls hl => ?_)
        refine lv_iconst (v := 0) hx hb dX8_taken_30 (by decide) ?_
        refine lv_istore (lv' := [(4, .int 0), (3, .int 0), (0, .ref h0), (1, .int a), (2, .int b)]) hx hb dX8_taken_31 hl (by decide) rfl (fun ls hl => ?_)
        refine pp_loop (ι := Int32 × Int32) (fun ⟨v4_33, v3_33⟩ => (sc.toInt - v4_33.toInt).toNat) (fun ⟨v4_33, v3_33⟩ H locs ls => (0 ≤ v4_33.toInt) ∧ va_P (dC, dI) vwCl [(h0, .inr (6, [.ref ah, v1, v2, v3, v4, v5, .ref t0, v7])), (t0, .inl (tc, 7, .inl tf)), (ah, .inr (4, [w0, w1, w2, w3, w4, w5, .int sc, .ref q5, w8])), (q5, .inl (c5, 7, .inr (.inl f5)))] H ∧ va_D A [(h0, .inr (6, [.ref ah, v1, v2, v3, v4, v5, .ref t0, v7])), (t0, .inl (tc, 7, .inl tf)), (ah, .inr (4, [w0, w1, w2, w3, w4, w5, .int sc, .ref q5, w8])), (q5, .inl (c5, 7, .inr (.inl f5)))] ∧ va_S A s.heap H locs ∧ lv_has ls 5 [(4, .int v4_33), (3, .int v3_33), (0, .ref h0), (1, .int a), (2, .int b)]) ?_ (0, 0) _ _ _ ⟨(by first | omega | decide | (simp only [fa_lt, fa_le, fa_eq, and_true, true_and, and_false, false_and, not_true_eq_false, not_false_eq_true, li_0, li_1, li_2, li_3, li_4, li_5, li_6, li_7, li_8, li_9, li_10, li_12, li_15, li_16, li_20, li_30, li_34, li_38, li_40, li_63, li_64, li_65, li_78, li_120, li_1000, li_4000, li_10000, li_11077, li_255, li_65535, li_m1, li_m2, li_m1000000001, li_m1000000002, li_m1000000003, li_m1000000004, li_m1000000005, li_m1000000006, li_m1000000007, or_true, true_or, or_false, false_or, implies_true, true_implies, false_implies] <;> omega)), hP.sub [0, 1, 2, 3] rfl, hD.sub [0, 1, 2, 3] (by decide) rfl, hS, lv_sub hl [0, 1, 2, 3, 4] rfl⟩
        intro k_9 ihk_9 u H locs ls hm hI
        obtain ⟨v4_33, v3_33⟩ := u
        obtain ⟨jk_9_0, hP, hD, hS, hl⟩ := hI
        have hmk_9 : (sc.toInt - v4_33.toInt).toNat < k_9 + 1 := hm
        clear hm
        have jk_9_0 : 0 ≤ v4_33.toInt := jk_9_0
        have hl : lv_has ls 5 [(4, .int v4_33), (3, .int v3_33), (0, .ref h0), (1, .int a), (2, .int b)] := hl
        have hP : va_P (dC, dI) vwCl [(h0, .inr (6, [.ref ah, v1, v2, v3, v4, v5, .ref t0, v7])), (t0, .inl (tc, 7, .inl tf)), (ah, .inr (4, [w0, w1, w2, w3, w4, w5, .int sc, .ref q5, w8])), (q5, .inl (c5, 7, .inr (.inl f5)))] H := hP
        have hD : va_D A [(h0, .inr (6, [.ref ah, v1, v2, v3, v4, v5, .ref t0, v7])), (t0, .inl (tc, 7, .inl tf)), (ah, .inr (4, [w0, w1, w2, w3, w4, w5, .int sc, .ref q5, w8])), (q5, .inl (c5, 7, .inr (.inl f5)))] := hD
        refine lv_iload hx hb dX8_taken_33 (lv_at hl 0 rfl) ?_
        refine lv_aload_n hx hb dX8_taken_35 rfl (lv_at hl 2 rfl) ?_
        refine va_get (D := (dC, dI)) (ci := 6) (v := .ref ah) (C := RX8) (T := TX8) (N := 8) hx hb hts inX8 hown hK hP 0 rfl rfl 0 (by decide) (hts _ (List.mem_of_getElem? (i := 1) rfl)) (fun _ h9 => h9) rfl dX8_taken_36 ?_
        refine va_getN (D := (dC, dI)) (ci := 4) (v := .int sc) (C := RX6) (T := TX6) (N := 9) hx hb hts inX6 hown hK hP 2 rfl rfl 6 (by decide) (ev_nest hev 8 rfl) (fun _ h9 => h9) rfl dX8_taken_39 ?_
        have rc_10_x := pp_rng v4_33
        have rc_10_y := pp_rng sc
        refine lv_icmp_ge (tgt := 78) hx hb dX8_taken_42 (by decide) (fun c_10 => ?_) (fun c_10 => ?_)
        · skip
          have tc_10 : sc.toInt ≤ v4_33.toInt := (fa_le _ _).mp c_10
          refine lv_iload_n hx hb dX8_taken_78 rfl (lv_at hl 1 rfl) ?_
          have hP9 := hP.sub (ws' := [(h0, .inr (6, [.ref ah, v1, v2, v3, v4, v5, .ref t0, v7])), (t0, .inl (tc, 7, .inl tf)), (ah, .inr (4, [w0, w1, w2, w3, w4, w5, .int sc, .ref q5, w8])), (q5, .inl (c5, 7, .inr (.inl f5)))]) [0, 1, 2, 3] rfl
          have hD9 := hD.sub (ws' := [(h0, .inr (6, [.ref ah, v1, v2, v3, v4, v5, .ref t0, v7])), (t0, .inl (tc, 7, .inl tf)), (ah, .inr (4, [w0, w1, w2, w3, w4, w5, .int sc, .ref q5, w8])), (q5, .inl (c5, 7, .inr (.inl f5)))]) [0, 1, 2, 3] (by decide) rfl
          have hK9 := hK.sub (tys' := [(tc, .int), (c5, .long)]) [0, 1] rfl
          exact W.iret (v := v3_33) hx hb hr (fun t ht hW => ⟨⟨v3_33, (), rfl, trivial, tf, by rw [ht]; exact hP9, va_K.moved hW.alike hK9, hD9⟩, hS.F ht⟩) hS.2.2 dX8_taken_79
        · skip
          have tc_10 : ¬ sc.toInt ≤ v4_33.toInt := fun h => c_10 ((fa_le _ _).mpr h)
          refine lv_iload hx hb dX8_taken_45 (lv_at hl 0 rfl) ?_
          refine lv_iload_n hx hb dX8_taken_47 rfl (lv_at hl 3 rfl) ?_
          have rc_11_x := pp_rng v4_33
          have rc_11_y := pp_rng a
          refine lv_icmp_eq (tgt := 72) hx hb dX8_taken_48 (by decide) (fun c_11 => ?_) (fun c_11 => ?_)
          · skip
            have tc_11 : v4_33.toInt = a.toInt := (fa_eq _ _).mp c_11
            obtain ⟨n_12, en_12⟩ : ∃ y : Int32, y = v4_33 + 1 := ⟨_, rfl⟩
            have tn_12 : n_12.toInt = v4_33.toInt + 1 := pp_add en_12 rfl rfl (by omega) (by omega)
            refine lv_iinc (v := n_12) (lv' := [(4, .int n_12), (3, .int v3_33), (0, .ref h0), (1, .int a), (2, .int b)]) hx hb dX8_taken_72 hl (k := 0) rfl (by rw [en_12]; rfl) (by decide) rfl (fun ls hl => ?_)
            clear en_12
            refine lv_goto (tgt := 33) hx hb dX8_taken_75 (by decide) ?_
            exact ihk_9 (n_12, v3_33) _ _ _ (by show (sc.toInt - n_12.toInt).toNat < k_9; omega) ⟨(by first | omega | decide | (simp only [fa_lt, fa_le, fa_eq, and_true, true_and, and_false, false_and, not_true_eq_false, not_false_eq_true, li_0, li_1, li_2, li_3, li_4, li_5, li_6, li_7, li_8, li_9, li_10, li_12, li_15, li_16, li_20, li_30, li_34, li_38, li_40, li_63, li_64, li_65, li_78, li_120, li_1000, li_4000, li_10000, li_11077, li_255, li_65535, li_m1, li_m2, li_m1000000001, li_m1000000002, li_m1000000003, li_m1000000004, li_m1000000005, li_m1000000006, li_m1000000007, or_true, true_or, or_false, false_or, implies_true, true_implies, false_implies] <;> omega)), hP.sub [0, 1, 2, 3] rfl, hD.sub [0, 1, 2, 3] (by decide) rfl, hS, lv_sub hl [0, 1, 2, 3, 4] rfl⟩
          · skip
            have tc_11 : ¬ v4_33.toInt = a.toInt := fun h => c_11 ((fa_eq _ _).mpr h)
            refine lv_aload_n hx hb dX8_taken_51 rfl (lv_at hl 2 rfl) ?_
            refine va_get (D := (dC, dI)) (ci := 6) (v := .ref ah) (C := RX8) (T := TX8) (N := 8) hx hb hts inX8 hown hK hP 0 rfl rfl 0 (by decide) (hts _ (List.mem_of_getElem? (i := 1) rfl)) (fun _ h9 => h9) rfl dX8_taken_52 ?_
            refine lv_iload_n hx hb dX8_taken_55 rfl (lv_at hl 3 rfl) ?_
            refine lv_iload hx hb dX8_taken_56 (lv_at hl 0 rfl) ?_
            have hPc := hP.sub (ws' := [(ah, .inr (4, [w0, w1, w2, w3, w4, w5, .int sc, .ref q5, w8])), (q5, .inl (c5, 7, .inr (.inl f5)))]) [2, 3] rfl
            have hKc := hK.sub (tys' := [(c5, .long)]) [1] rfl
            refine vp_callSi (W.runV (As := [.int a, .int v4_33]) (rest := []) ⟨hx, hb, hml, hown, hts⟩ (s_offBetween l dC dI ad ah a v4_33 w0 w1 w2 w3 w4 w5 (.int sc) q5 w8 c5 f5 (by first | omega | decide | (simp only [fa_lt, fa_le, fa_eq, and_true, true_and, and_false, false_and, not_true_eq_false, not_false_eq_true, li_0, li_1, li_2, li_3, li_4, li_5, li_6, li_7, li_8, li_9, li_10, li_12, li_15, li_16, li_20, li_30, li_34, li_38, li_40, li_63, li_64, li_65, li_78, li_120, li_1000, li_4000, li_10000, li_11077, li_255, li_65535, li_m1, li_m2, li_m1000000001, li_m1000000002, li_m1000000003, li_m1000000004, li_m1000000005, li_m1000000006, li_m1000000007, or_true, true_or, or_false, false_or, implies_true, true_implies, false_implies] <;> omega)) (by first | omega | decide | (simp only [fa_lt, fa_le, fa_eq, and_true, true_and, and_false, false_and, not_true_eq_false, not_false_eq_true, li_0, li_1, li_2, li_3, li_4, li_5, li_6, li_7, li_8, li_9, li_10, li_12, li_15, li_16, li_20, li_30, li_34, li_38, li_40, li_63, li_64, li_65, li_78, li_120, li_1000, li_4000, li_10000, li_11077, li_255, li_65535, li_m1, li_m2, li_m1000000001, li_m1000000002, li_m1000000003, li_m1000000004, li_m1000000005, li_m1000000006, li_m1000000007, or_true, true_or, or_false, false_or, implies_true, true_implies, false_implies] <;> omega))) (cwV 2 hts g_x_taken_s_offBetween_207 rfl rfl rfl (by decide +kernel) ⟨(Nat.le_of_ble_eq_true rfl), (Nat.le_of_ble_eq_true rfl)⟩) ⟨preS_blind, va_recv hKc hPc (ci := 4) (q0 := 0) rfl rfl, fun U hU hW => ⟨rfl, preS_at hU hW hPc hKc hev⟩⟩ rfl rfl hl.1 rfl (lv_room (Nat.le_of_ble_eq_true rfl)) dX8_taken_58 ⟨(Nat.le_of_ble_eq_true rfl), (Nat.le_of_ble_eq_true rfl)⟩) (fun r_13 hw => ?_)
            refine lv_iload_n hx hb dX8_taken_61 rfl (lv_at hl 4 rfl) ?_
            have rc_14_x := pp_rng r_13
            have rc_14_y := pp_rng b
            refine lv_icmp_gt (tgt := 72) hx hb dX8_taken_62 (by decide) (fun c_14 => ?_) (fun c_14 => ?_)
            · skip
              have tc_14 : b.toInt < r_13.toInt := (fa_lt _ _).mp c_14
              obtain ⟨n_15, en_15⟩ : ∃ y : Int32, y = v4_33 + 1 := ⟨_, rfl⟩
              have tn_15 : n_15.toInt = v4_33.toInt + 1 := pp_add en_15 rfl rfl (by omega) (by omega)
              refine lv_iinc (v := n_15) (lv' := [(4, .int n_15), (3, .int v3_33), (0, .ref h0), (1, .int a), (2, .int b)]) hx hb dX8_taken_72 hl (k := 0) rfl (by rw [en_15]; rfl) (by decide) rfl (fun ls hl => ?_)
              clear en_15
              refine lv_goto (tgt := 33) hx hb dX8_taken_75 (by decide) ?_
              exact ihk_9 (n_15, v3_33) _ _ _ (by show (sc.toInt - n_15.toInt).toNat < k_9; omega) ⟨(by first | omega | decide | (simp only [fa_lt, fa_le, fa_eq, and_true, true_and, and_false, false_and, not_true_eq_false, not_false_eq_true, li_0, li_1, li_2, li_3, li_4, li_5, li_6, li_7, li_8, li_9, li_10, li_12, li_15, li_16, li_20, li_30, li_34, li_38, li_40, li_63, li_64, li_65, li_78, li_120, li_1000, li_4000, li_10000, li_11077, li_255, li_65535, li_m1, li_m2, li_m1000000001, li_m1000000002, li_m1000000003, li_m1000000004, li_m1000000005, li_m1000000006, li_m1000000007, or_true, true_or, or_false, false_or, implies_true, true_implies, false_implies] <;> omega)), hP.sub [0, 1, 2, 3] rfl, hD.sub [0, 1, 2, 3] (by decide) rfl, hS, lv_sub hl [0, 1, 2, 3, 4] rfl⟩
            · skip
              have tc_14 : ¬ b.toInt < r_13.toInt := fun h => c_14 ((fa_lt _ _).mpr h)
              refine lv_iload_n hx hb dX8_taken_65 rfl (lv_at hl 1 rfl) ?_
              refine lv_iconst (v := 1) hx hb dX8_taken_66 (by decide) ?_
              refine lv_iload hx hb dX8_taken_67 (lv_at hl 0 rfl) ?_
              refine lv_ishl hx hb dX8_taken_69 ?_
              refine lv_topi (fun n_16 en_16 => ?_)
              clear en_16
              refine lv_ior hx hb dX8_taken_70 ?_
              refine lv_topi (fun n_17 en_17 => ?_)
              clear en_17
              refine lv_istore_n (lv' := [(3, .int n_17), (4, .int v4_33), (0, .ref h0), (1, .int a), (2, .int b)]) hx hb dX8_taken_71 rfl hl (by decide) rfl (fun ls hl => ?_)
              obtain ⟨n_18, en_18⟩ : ∃ y : Int32, y = v4_33 + 1 := ⟨_, rfl⟩
              have tn_18 : n_18.toInt = v4_33.toInt + 1 := pp_add en_18 rfl rfl (by omega) (by omega)
              refine lv_iinc (v := n_18) (lv' := [(4, .int n_18), (3, .int n_17), (0, .ref h0), (1, .int a), (2, .int b)]) hx hb dX8_taken_72 hl (k := 1) rfl (by rw [en_18]; rfl) (by decide) rfl (fun ls hl => ?_)
              clear en_18
              refine lv_goto (tgt := 33) hx hb dX8_taken_75 (by decide) ?_
              exact ihk_9 (n_18, n_17) _ _ _ (by show (sc.toInt - n_18.toInt).toNat < k_9; omega) ⟨(by first | omega | decide | (simp only [fa_lt, fa_le, fa_eq, and_true, true_and, and_false, false_and, not_true_eq_false, not_false_eq_true, li_0, li_1, li_2, li_3, li_4, li_5, li_6, li_7, li_8, li_9, li_10, li_12, li_15, li_16, li_20, li_30, li_34, li_38, li_40, li_63, li_64, li_65, li_78, li_120, li_1000, li_4000, li_10000, li_11077, li_255, li_65535, li_m1, li_m2, li_m1000000001, li_m1000000002, li_m1000000003, li_m1000000004, li_m1000000005, li_m1000000006, li_m1000000007, or_true, true_or, or_false, false_or, implies_true, true_implies, false_implies] <;> omega)), hP.sub [0, 1, 2, 3] rfl, hD.sub [0, 1, 2, 3] (by decide) rfl, hS, lv_sub hl [0, 1, 2, 3, 4] rfl⟩
      · skip
        have tc_8 : ¬ b.toInt ≤ 64 := fun h => c_8 ((fa_le _ _).mpr h)
        refine lv_aload_n hx hb dX8_taken_21 rfl (lv_at hl 0 rfl) ?_
        refine lv_ldc hx hb hown (hts _ (List.mem_of_getElem? (i := 8) rfl)) dX8_taken_22 ?_
        have hPc := hP.sub (ws' := [(h0, .inr (6, [.ref ah, v1, v2, v3, v4, v5, .ref t0, v7])), (t0, .inl (tc, 7, .inl tf))]) [0, 1] rfl
        have hKc := hK.sub (tys' := [(tc, .int)]) [0] rfl
        have hDc := hD.sub (ws' := [(h0, .inr (6, [.ref ah, v1, v2, v3, v4, v5, .ref t0, v7])), (t0, .inl (tc, 7, .inl tf))]) [0, 1] (by decide) rfl
        have hFc := va_free (wc := [(h0, .inr (6, [.ref ah, v1, v2, v3, v4, v5, .ref t0, v7])), (t0, .inl (tc, 7, .inl tf))]) hD hS hA [0, 1] rfl
        refine va_calli (va_runV (As := [.int (-1000000001)]) (rest := []) ⟨hx, hb, hml, hown, hts⟩ (f_beyond l dC dI ad h0 (.ref ah) v1 v2 v3 v4 v5 t0 v7 tc tf s.heap.size ) (cwV 1 hts g_x_taken_f_beyond_63 rfl rfl rfl (by decide +kernel) ⟨(Nat.le_of_ble_eq_true rfl), (Nat.le_of_ble_eq_true rfl)⟩) ⟨preM_blind, va_recv hKc hPc (ci := 6) (q0 := 0) rfl rfl, fun U hU hW => ⟨rfl, preM_at hU hW hPc hKc hDc hev⟩⟩ rfl rfl hl.1 rfl (lv_room (Nat.le_of_ble_eq_true rfl)) dX8_taken_24 ⟨(Nat.le_of_ble_eq_true rfl), (Nat.le_of_ble_eq_true rfl)⟩) hS (fun q _ h => hFc q h) hFc (fun r_19 u t H1 locs ht hvm hw hB hz1 hk1 hS => ?_)
        obtain ⟨tg_20, hP1, hK1, hD1⟩ := hB
        rw [ht] at hP1
        have hK1 := va_K.moved hvm.symm hK1
        obtain ⟨hP, hD⟩ := va_join (wr := [(ah, .inr (4, [w0, w1, w2, w3, w4, w5, .int sc, .ref q5, w8])), (q5, .inl (c5, 7, .inr (.inl f5)))]) (w1 := [(h0, .inr (6, [.ref ah, v1, v2, v3, v4, v5, .ref t0, v7])), (t0, .inl (tc, 7, .inl tg_20))]) hP hD [0, 1] [2, 3] rfl rfl (by decide) (by decide) hk1 hFc hP1 hD1
        generalize H1 = H at hP hS ⊢
        have hP : va_P (dC, dI) vwCl [(ah, .inr (4, [w0, w1, w2, w3, w4, w5, .int sc, .ref q5, w8])), (q5, .inl (c5, 7, .inr (.inl f5))), (h0, .inr (6, [.ref ah, v1, v2, v3, v4, v5, .ref t0, v7])), (t0, .inl (tc, 7, .inl tg_20))] H := hP
        have hD : va_D A [(ah, .inr (4, [w0, w1, w2, w3, w4, w5, .int sc, .ref q5, w8])), (q5, .inl (c5, 7, .inr (.inl f5))), (h0, .inr (6, [.ref ah, v1, v2, v3, v4, v5, .ref t0, v7])), (t0, .inl (tc, 7, .inl tg_20))] := hD
        subst hw
        have hP9 := hP.sub (ws' := [(h0, .inr (6, [.ref ah, v1, v2, v3, v4, v5, .ref t0, v7])), (t0, .inl (tc, 7, .inl tg_20)), (ah, .inr (4, [w0, w1, w2, w3, w4, w5, .int sc, .ref q5, w8])), (q5, .inl (c5, 7, .inr (.inl f5)))]) [2, 3, 0, 1] rfl
        have hD9 := hD.sub (ws' := [(h0, .inr (6, [.ref ah, v1, v2, v3, v4, v5, .ref t0, v7])), (t0, .inl (tc, 7, .inl tg_20)), (ah, .inr (4, [w0, w1, w2, w3, w4, w5, .int sc, .ref q5, w8])), (q5, .inl (c5, 7, .inr (.inl f5)))]) [2, 3, 0, 1] (by decide) rfl
        have hK9 := hK.sub (tys' := [(tc, .int), (c5, .long)]) [0, 1] rfl
        exact W.iret (v := ((-1000000001) : Int32)) hx hb hr (fun t ht hW => ⟨⟨((-1000000001) : Int32), (), rfl, trivial, tg_20, by rw [ht]; exact hP9, va_K.moved hW.alike hK9, hD9⟩, hS.F ht⟩) hS.2.2 dX8_taken_27

def w_x_closest : List Cond := .code yX8_closest cX8_closest 4 (some .int) :: (([.fieldLink RX8 10 "LampShapes" "now" "LLampShapes$Stage;", .constant RX8 149 (-1000000004), .methodLink RX8 63 yX8_finding, .instanceMethod yX8_finding, .selects RX8 yX8_finding yX8_finding, .initialized RX8, .code yX8_finding cX8_finding 3 (some .int), .constant RX8 62 (-1000000001), .fieldLink RX8 46 "LampShapes" "told" "[I", .methodLink RX8 207 yX6_offBetween, .instanceMethod yX6_offBetween, .selects RX6 yX6_offBetween yX6_offBetween, .initialized RX6, .code yX6_offBetween cX6_offBetween 3 (some .int), .fieldLink RX6 34 "LampShapes$Stage" "pictures" "[J", .methodLink RX6 94 yX1_cellsOff, .static yX1_cellsOff, .initialized RX1, .code yX1_cellsOff cX1_cellsOff 4 (some .int), .methodLink RX1 15 yJ13_bitCount_95d88, .static yJ13_bitCount_95d88, .initialized RJ13, .code yJ13_bitCount_95d88 cJ13_bitCount_95d88 2 (some .int), .constantLong RJ13 314 (6148914691236517205), .constantLong RJ13 316 (3689348814741910323), .constantLong RJ13 318 (1085102592571150095), .methodLink RX8 221 Lib.Math.min.name, .static Lib.Math.min.name, .initialized "java/lang/Math", .code Lib.Math.min.name Lib.Math.min.code 2 (some .int)] : List Cond) ++ wsX80 ++ wsX60)
set_option maxRecDepth 20000 in
theorem g_x_closest_f_none_63 : GoodIn w_x_closest (wsV RX8 63 RX8 yX8_finding w_f_none) := goodIn_r _ [3, 4, 5, 6, 7, 8, 9, 31, 32, 33, 34, 35, 36, 37, 38] rfl (by decide +kernel)
set_option maxRecDepth 20000 in
theorem g_x_closest_s_offBetween_207 : GoodIn w_x_closest (wsV RX8 207 RX6 yX6_offBetween w_s_offBetween) := goodIn_r _ [10, 11, 12, 13, 14, 15, 16, 17, 18, 19, 20, 21, 22, 23, 24, 25, 26, 39, 40, 41, 42, 43, 44, 45, 46, 47] rfl (by decide +kernel)
set_option maxHeartbeats 4000000 in
set_option maxRecDepth 100000 in
theorem x_closest (l : Launch) (dC : Nat → ClassId) (dI : Nat → Nat → Nat) (ad : Nat → Nat) (h0 : Nat) (ah : Nat) (v1 : Value) (v2 : Value) (v3 : Value) (v4 : Value) (v5 : Value) (t0 : Nat) (v7 : Value) (tc : ClassId) (tf : Nat → Int32) (w0 : Value) (w1 : Value) (w2 : Value) (w3 : Value) (w4 : Value) (w5 : Value) (sc : Int32) (q5 : Nat) (w8 : Value) (c5 : ClassId) (f5 : Nat → Int64) (sz : Nat) (hsc : 0 ≤ sc.toInt ∧ sc.toInt ≤ 7) : Met l yX8_closest w_x_closest ({ frames := 3, cells := 0, slots := 0, locals := 66 } : Room) (va_Pc [.ref h0] (preM dC dI ad [(tc, .int), (c5, .long)] [(h0, .inr (6, [.ref ah, v1, v2, v3, v4, v5, .ref t0, v7])), (t0, .inl (tc, 7, .inl tf)), (ah, .inr (4, [w0, w1, w2, w3, w4, w5, .int sc, .ref q5, w8])), (q5, .inl (c5, 7, .inr (.inl f5)))] sz)) (va_Qi (fun (r : Int32) (_ : Unit) => True) (fun _ t => ∃ (tg : Nat → Int32), va_P (dC, dI) vwCl [(h0, .inr (6, [.ref ah, v1, v2, v3, v4, v5, .ref t0, v7])), (t0, .inl (tc, 7, .inl tg)), (ah, .inr (4, [w0, w1, w2, w3, w4, w5, .int sc, .ref q5, w8])), (q5, .inl (c5, 7, .inr (.inl f5)))] t.heap ∧ va_K (dC, dI) vwCl [(tc, .int), (c5, .long)] t ∧ va_D (va_A [(h0, .inr (6, [.ref ah, v1, v2, v3, v4, v5, .ref t0, v7])), (t0, .inl (tc, 7, .inl tf)), (ah, .inr (4, [w0, w1, w2, w3, w4, w5, .int sc, .ref q5, w8])), (q5, .inl (c5, 7, .inr (.inl f5)))] sz) [(h0, .inr (6, [.ref ah, v1, v2, v3, v4, v5, .ref t0, v7])), (t0, .inl (tc, 7, .inl tg)), (ah, .inr (4, [w0, w1, w2, w3, w4, w5, .int sc, .ref q5, w8])), (q5, .inl (c5, 7, .inr (.inl f5)))]) (va_A [(h0, .inr (6, [.ref ah, v1, v2, v3, v4, v5, .ref t0, v7])), (t0, .inl (tc, 7, .inl tf)), (ah, .inr (4, [w0, w1, w2, w3, w4, w5, .int sc, .ref q5, w8])), (q5, .inl (c5, 7, .inr (.inl f5)))] sz)) 0 0 (va_A [(h0, .inr (6, [.ref ah, v1, v2, v3, v4, v5, .ref t0, v7])), (t0, .inl (tc, 7, .inl tf)), (ah, .inr (4, [w0, w1, w2, w3, w4, w5, .int sc, .ref q5, w8])), (q5, .inl (c5, 7, .inr (.inl f5)))] sz) := by
  refine Met.ofW (cc := cX8_closest) (maxL := 4) (ret := (some .int)) (by decide) rfl ?_
  intro p e s m args below meth c s₁ B hml hv
  obtain ⟨rfl, hsz, hP, hK, hD0, hev⟩ := hv
  have hx := B.exec
  have hb := B.bytes
  have hr := B.returns
  have hts := atoms_spec (ws := w_x_closest) B.pre
  have hown : s.vm.findClass RX8 = some m.cls := findClass_of_methodNamed B.named
  have hlocks := B.notSynchronized
  have inX8 : ∀ w ∈ wsX80, w ∈ w_x_closest := fun w h => List.mem_cons_of_mem _ (List.mem_append_left _ (List.mem_append_right _ h))
  have inX6 : ∀ w ∈ wsX60, w ∈ w_x_closest := fun w h => List.mem_cons_of_mem _ (List.mem_append_right _ h)
  subst hsz
  have hD := hD0.self (sz := s.heap.size)
  generalize hAe : va_A [(h0, .inr (6, [.ref ah, v1, v2, v3, v4, v5, .ref t0, v7])), (t0, .inl (tc, 7, .inl tf)), (ah, .inr (4, [w0, w1, w2, w3, w4, w5, .int sc, .ref q5, w8])), (q5, .inl (c5, 7, .inr (.inl f5)))] s.heap.size = A at hD ⊢
  have hA : ∀ q : Nat, s.heap.size ≤ q → A q := fun q h => by rw [← hAe]; exact Or.inr h
  have hS : va_S A s.heap s.heap [] := va_S.rf
  have hP : va_P (dC, dI) vwCl [(h0, .inr (6, [.ref ah, v1, v2, v3, v4, v5, .ref t0, v7])), (t0, .inl (tc, 7, .inl tf)), (ah, .inr (4, [w0, w1, w2, w3, w4, w5, .int sc, .ref q5, w8])), (q5, .inl (c5, 7, .inr (.inl f5)))] s.heap := hP
  have hl := lv_entry ([.ref h0]) (n := 4) (Nat.le_of_ble_eq_true rfl)
  rw [lg_entry_eq]
  generalize (lg_sl ([.ref h0]) ++ List.replicate (4 - (lg_sl ([.ref h0])).length) Slot.unset).toArray = ls at hl ⊢
  have hl : lv_has ls 4 [(0, .ref h0)] := hl
  refine lv_bipush (v := 65) hx hb dX8_closest_0 (by decide) ?_
  refine lv_istore_n (lv' := [(1, .int 65), (0, .ref h0)]) hx hb dX8_closest_2 rfl hl (by decide) rfl (fun ls hl => ?_)
  refine lv_iconst (v := 0) hx hb dX8_closest_3 (by decide) ?_
  refine lv_istore_n (lv' := [(2, .int 0), (1, .int 65), (0, .ref h0)]) hx hb dX8_closest_4 rfl hl (by decide) rfl (fun ls hl => ?_)
  refine pp_loop (ι := Int32 × Int32) (fun ⟨v2_5, v1_5⟩ => (sc.toInt - v2_5.toInt).toNat) (fun ⟨v2_5, v1_5⟩ H locs ls => (0 ≤ v2_5.toInt) ∧ va_P (dC, dI) vwCl [(h0, .inr (6, [.ref ah, v1, v2, v3, v4, v5, .ref t0, v7])), (t0, .inl (tc, 7, .inl tf)), (ah, .inr (4, [w0, w1, w2, w3, w4, w5, .int sc, .ref q5, w8])), (q5, .inl (c5, 7, .inr (.inl f5)))] H ∧ va_D A [(h0, .inr (6, [.ref ah, v1, v2, v3, v4, v5, .ref t0, v7])), (t0, .inl (tc, 7, .inl tf)), (ah, .inr (4, [w0, w1, w2, w3, w4, w5, .int sc, .ref q5, w8])), (q5, .inl (c5, 7, .inr (.inl f5)))] ∧ va_S A s.heap H locs ∧ lv_has ls 4 [(2, .int v2_5), (1, .int v1_5), (0, .ref h0)]) ?_ (0, 65) _ _ _ ⟨(by first | omega | decide | (simp only [fa_lt, fa_le, fa_eq, and_true, true_and, and_false, false_and, not_true_eq_false, not_false_eq_true, li_0, li_1, li_2, li_3, li_4, li_5, li_6, li_7, li_8, li_9, li_10, li_12, li_15, li_16, li_20, li_30, li_34, li_38, li_40, li_63, li_64, li_65, li_78, li_120, li_1000, li_4000, li_10000, li_11077, li_255, li_65535, li_m1, li_m2, li_m1000000001, li_m1000000002, li_m1000000003, li_m1000000004, li_m1000000005, li_m1000000006, li_m1000000007, or_true, true_or, or_false, false_or, implies_true, true_implies, false_implies] <;> omega)), hP.sub [0, 1, 2, 3] rfl, hD.sub [0, 1, 2, 3] (by decide) rfl, hS, lv_sub hl [0, 1, 2] rfl⟩
  intro k_1 ihk_1 u H locs ls hm hI
  obtain ⟨v2_5, v1_5⟩ := u
  obtain ⟨jk_1_0, hP, hD, hS, hl⟩ := hI
  have hmk_1 : (sc.toInt - v2_5.toInt).toNat < k_1 + 1 := hm
  clear hm
  have jk_1_0 : 0 ≤ v2_5.toInt := jk_1_0
  have hl : lv_has ls 4 [(2, .int v2_5), (1, .int v1_5), (0, .ref h0)] := hl
  have hP : va_P (dC, dI) vwCl [(h0, .inr (6, [.ref ah, v1, v2, v3, v4, v5, .ref t0, v7])), (t0, .inl (tc, 7, .inl tf)), (ah, .inr (4, [w0, w1, w2, w3, w4, w5, .int sc, .ref q5, w8])), (q5, .inl (c5, 7, .inr (.inl f5)))] H := hP
  have hD : va_D A [(h0, .inr (6, [.ref ah, v1, v2, v3, v4, v5, .ref t0, v7])), (t0, .inl (tc, 7, .inl tf)), (ah, .inr (4, [w0, w1, w2, w3, w4, w5, .int sc, .ref q5, w8])), (q5, .inl (c5, 7, .inr (.inl f5)))] := hD
  refine lv_iload_n hx hb dX8_closest_5 rfl (lv_at hl 0 rfl) ?_
  refine lv_aload_n hx hb dX8_closest_6 rfl (lv_at hl 2 rfl) ?_
  refine va_get (D := (dC, dI)) (ci := 6) (v := .ref ah) (C := RX8) (T := TX8) (N := 8) hx hb hts inX8 hown hK hP 0 rfl rfl 0 (by decide) (hts _ (List.mem_of_getElem? (i := 1) rfl)) (fun _ h9 => h9) rfl dX8_closest_7 ?_
  refine va_getN (D := (dC, dI)) (ci := 4) (v := .int sc) (C := RX6) (T := TX6) (N := 9) hx hb hts inX6 hown hK hP 2 rfl rfl 6 (by decide) (ev_nest hev 8 rfl) (fun _ h9 => h9) rfl dX8_closest_10 ?_
  have rc_2_x := pp_rng v2_5
  have rc_2_y := pp_rng sc
  refine lv_icmp_ge (tgt := 57) hx hb dX8_closest_13 (by decide) (fun c_2 => ?_) (fun c_2 => ?_)
  · skip
    have tc_2 : sc.toInt ≤ v2_5.toInt := (fa_le _ _).mp c_2
    refine lv_iload_n hx hb dX8_closest_57 rfl (lv_at hl 1 rfl) ?_
    refine lv_bipush (v := 64) hx hb dX8_closest_58 (by decide) ?_
    refine lv_icmp_le (tgt := 72) hx hb dX8_closest_60 (by decide) (fun c_3 => ?_) (fun c_3 => ?_)
    · skip
      have tc_3 : v1_5.toInt ≤ 64 := (fa_le _ _).mp c_3
      refine lv_iload_n hx hb dX8_closest_72 rfl (lv_at hl 1 rfl) ?_
      have hP9 := hP.sub (ws' := [(h0, .inr (6, [.ref ah, v1, v2, v3, v4, v5, .ref t0, v7])), (t0, .inl (tc, 7, .inl tf)), (ah, .inr (4, [w0, w1, w2, w3, w4, w5, .int sc, .ref q5, w8])), (q5, .inl (c5, 7, .inr (.inl f5)))]) [0, 1, 2, 3] rfl
      have hD9 := hD.sub (ws' := [(h0, .inr (6, [.ref ah, v1, v2, v3, v4, v5, .ref t0, v7])), (t0, .inl (tc, 7, .inl tf)), (ah, .inr (4, [w0, w1, w2, w3, w4, w5, .int sc, .ref q5, w8])), (q5, .inl (c5, 7, .inr (.inl f5)))]) [0, 1, 2, 3] (by decide) rfl
      have hK9 := hK.sub (tys' := [(tc, .int), (c5, .long)]) [0, 1] rfl
      exact W.iret (v := v1_5) hx hb hr (fun t ht hW => ⟨⟨v1_5, (), rfl, trivial, tf, by rw [ht]; exact hP9, va_K.moved hW.alike hK9, hD9⟩, hS.F ht⟩) hS.2.2 dX8_closest_73
    · skip
      have tc_3 : ¬ v1_5.toInt ≤ 64 := fun h => c_3 ((fa_le _ _).mpr h)
      refine lv_aload_n hx hb dX8_closest_63 rfl (lv_at hl 2 rfl) ?_
      refine lv_ldc hx hb hown (hts _ (List.mem_of_getElem? (i := 2) rfl)) dX8_closest_64 ?_
      have hPc := hP.sub (ws' := [(h0, .inr (6, [.ref ah, v1, v2, v3, v4, v5, .ref t0, v7])), (t0, .inl (tc, 7, .inl tf))]) [0, 1] rfl
      have hKc := hK.sub (tys' := [(tc, .int)]) [0] rfl
      have hDc := hD.sub (ws' := [(h0, .inr (6, [.ref ah, v1, v2, v3, v4, v5, .ref t0, v7])), (t0, .inl (tc, 7, .inl tf))]) [0, 1] (by decide) rfl
      have hFc := va_free (wc := [(h0, .inr (6, [.ref ah, v1, v2, v3, v4, v5, .ref t0, v7])), (t0, .inl (tc, 7, .inl tf))]) hD hS hA [0, 1] rfl
      refine va_calli (va_runV (As := [.int (-1000000004)]) (rest := []) ⟨hx, hb, hml, hown, hts⟩ (f_none l dC dI ad h0 (.ref ah) v1 v2 v3 v4 v5 t0 v7 tc tf H.size ) (cwV 1 hts g_x_closest_f_none_63 rfl rfl rfl (by decide +kernel) ⟨(Nat.le_of_ble_eq_true rfl), (Nat.le_of_ble_eq_true rfl)⟩) ⟨preM_blind, va_recv hKc hPc (ci := 6) (q0 := 0) rfl rfl, fun U hU hW => ⟨rfl, preM_at hU hW hPc hKc hDc hev⟩⟩ rfl rfl hl.1 rfl (lv_room (Nat.le_of_ble_eq_true rfl)) dX8_closest_66 ⟨(Nat.le_of_ble_eq_true rfl), (Nat.le_of_ble_eq_true rfl)⟩) hS (fun q _ h => hFc q h) hFc (fun r_4 u t H1 locs ht hvm hw hB hz1 hk1 hS => ?_)
      obtain ⟨tg_5, hP1, hK1, hD1⟩ := hB
      rw [ht] at hP1
      have hK1 := va_K.moved hvm.symm hK1
      obtain ⟨hP, hD⟩ := va_join (wr := [(ah, .inr (4, [w0, w1, w2, w3, w4, w5, .int sc, .ref q5, w8])), (q5, .inl (c5, 7, .inr (.inl f5)))]) (w1 := [(h0, .inr (6, [.ref ah, v1, v2, v3, v4, v5, .ref t0, v7])), (t0, .inl (tc, 7, .inl tg_5))]) hP hD [0, 1] [2, 3] rfl rfl (by decide) (by decide) hk1 hFc hP1 hD1
      generalize H1 = H at hP hS ⊢
      have hP : va_P (dC, dI) vwCl [(ah, .inr (4, [w0, w1, w2, w3, w4, w5, .int sc, .ref q5, w8])), (q5, .inl (c5, 7, .inr (.inl f5))), (h0, .inr (6, [.ref ah, v1, v2, v3, v4, v5, .ref t0, v7])), (t0, .inl (tc, 7, .inl tg_5))] H := hP
      have hD : va_D A [(ah, .inr (4, [w0, w1, w2, w3, w4, w5, .int sc, .ref q5, w8])), (q5, .inl (c5, 7, .inr (.inl f5))), (h0, .inr (6, [.ref ah, v1, v2, v3, v4, v5, .ref t0, v7])), (t0, .inl (tc, 7, .inl tg_5))] := hD
      subst hw
      refine lv_goto (tgt := 73) hx hb dX8_closest_69 (by decide) ?_
      have hP9 := hP.sub (ws' := [(h0, .inr (6, [.ref ah, v1, v2, v3, v4, v5, .ref t0, v7])), (t0, .inl (tc, 7, .inl tg_5)), (ah, .inr (4, [w0, w1, w2, w3, w4, w5, .int sc, .ref q5, w8])), (q5, .inl (c5, 7, .inr (.inl f5)))]) [2, 3, 0, 1] rfl
      have hD9 := hD.sub (ws' := [(h0, .inr (6, [.ref ah, v1, v2, v3, v4, v5, .ref t0, v7])), (t0, .inl (tc, 7, .inl tg_5)), (ah, .inr (4, [w0, w1, w2, w3, w4, w5, .int sc, .ref q5, w8])), (q5, .inl (c5, 7, .inr (.inl f5)))]) [2, 3, 0, 1] (by decide) rfl
      have hK9 := hK.sub (tys' := [(tc, .int), (c5, .long)]) [0, 1] rfl
      exact W.iret (v := ((-1000000004) : Int32)) hx hb hr (fun t ht hW => ⟨⟨((-1000000004) : Int32), (), rfl, trivial, tg_5, by rw [ht]; exact hP9, va_K.moved hW.alike hK9, hD9⟩, hS.F ht⟩) hS.2.2 dX8_closest_73
  · skip
    have tc_2 : ¬ sc.toInt ≤ v2_5.toInt := fun h => c_2 ((fa_le _ _).mpr h)
    refine lv_iload_n hx hb dX8_closest_16 rfl (lv_at hl 0 rfl) ?_
    refine lv_iconst (v := 1) hx hb dX8_closest_17 (by decide) ?_
    refine lv_iadd hx hb dX8_closest_18 ?_
    refine lv_topi (fun n_6 en_6 => ?_)
    have tn_6 : n_6.toInt = v2_5.toInt + 1 := pp_add en_6 rfl rfl (by omega) (by omega)
    clear en_6
    refine lv_istore_n (lv' := [(3, .int n_6), (2, .int v2_5), (1, .int v1_5), (0, .ref h0)]) hx hb dX8_closest_19 rfl hl (by decide) rfl (fun ls hl => ?_)
    refine pp_loop (ι := Int32 × Int32) (fun ⟨v3_20, v1_20⟩ => (sc.toInt - v3_20.toInt).toNat) (fun ⟨v3_20, v1_20⟩ H locs ls => (n_6.toInt ≤ v3_20.toInt) ∧ va_P (dC, dI) vwCl [(h0, .inr (6, [.ref ah, v1, v2, v3, v4, v5, .ref t0, v7])), (t0, .inl (tc, 7, .inl tf)), (ah, .inr (4, [w0, w1, w2, w3, w4, w5, .int sc, .ref q5, w8])), (q5, .inl (c5, 7, .inr (.inl f5)))] H ∧ va_D A [(h0, .inr (6, [.ref ah, v1, v2, v3, v4, v5, .ref t0, v7])), (t0, .inl (tc, 7, .inl tf)), (ah, .inr (4, [w0, w1, w2, w3, w4, w5, .int sc, .ref q5, w8])), (q5, .inl (c5, 7, .inr (.inl f5)))] ∧ va_S A s.heap H locs ∧ lv_has ls 4 [(3, .int v3_20), (2, .int v2_5), (1, .int v1_20), (0, .ref h0)]) ?_ (n_6, v1_5) _ _ _ ⟨(by first | omega | decide | (simp only [fa_lt, fa_le, fa_eq, and_true, true_and, and_false, false_and, not_true_eq_false, not_false_eq_true, li_0, li_1, li_2, li_3, li_4, li_5, li_6, li_7, li_8, li_9, li_10, li_12, li_15, li_16, li_20, li_30, li_34, li_38, li_40, li_63, li_64, li_65, li_78, li_120, li_1000, li_4000, li_10000, li_11077, li_255, li_65535, li_m1, li_m2, li_m1000000001, li_m1000000002, li_m1000000003, li_m1000000004, li_m1000000005, li_m1000000006, li_m1000000007, or_true, true_or, or_false, false_or, implies_true, true_implies, false_implies] <;> omega)), hP.sub [0, 1, 2, 3] rfl, hD.sub [0, 1, 2, 3] (by decide) rfl, hS, lv_sub hl [0, 1, 2, 3] rfl⟩
    intro k_7 ihk_7 u H locs ls hm hI
    obtain ⟨v3_20, v1_20⟩ := u
    obtain ⟨jk_7_0, hP, hD, hS, hl⟩ := hI
    have hmk_7 : (sc.toInt - v3_20.toInt).toNat < k_7 + 1 := hm
    clear hm
    have jk_7_0 : n_6.toInt ≤ v3_20.toInt := jk_7_0
    have hl : lv_has ls 4 [(3, .int v3_20), (2, .int v2_5), (1, .int v1_20), (0, .ref h0)] := hl
    have hP : va_P (dC, dI) vwCl [(h0, .inr (6, [.ref ah, v1, v2, v3, v4, v5, .ref t0, v7])), (t0, .inl (tc, 7, .inl tf)), (ah, .inr (4, [w0, w1, w2, w3, w4, w5, .int sc, .ref q5, w8])), (q5, .inl (c5, 7, .inr (.inl f5)))] H := hP
    have hD : va_D A [(h0, .inr (6, [.ref ah, v1, v2, v3, v4, v5, .ref t0, v7])), (t0, .inl (tc, 7, .inl tf)), (ah, .inr (4, [w0, w1, w2, w3, w4, w5, .int sc, .ref q5, w8])), (q5, .inl (c5, 7, .inr (.inl f5)))] := hD
    refine lv_iload_n hx hb dX8_closest_20 rfl (lv_at hl 0 rfl) ?_
    refine lv_aload_n hx hb dX8_closest_21 rfl (lv_at hl 3 rfl) ?_
    refine va_get (D := (dC, dI)) (ci := 6) (v := .ref ah) (C := RX8) (T := TX8) (N := 8) hx hb hts inX8 hown hK hP 0 rfl rfl 0 (by decide) (hts _ (List.mem_of_getElem? (i := 1) rfl)) (fun _ h9 => h9) rfl dX8_closest_22 ?_
    refine va_getN (D := (dC, dI)) (ci := 4) (v := .int sc) (C := RX6) (T := TX6) (N := 9) hx hb hts inX6 hown hK hP 2 rfl rfl 6 (by decide) (ev_nest hev 8 rfl) (fun _ h9 => h9) rfl dX8_closest_25 ?_
    have rc_8_x := pp_rng v3_20
    have rc_8_y := pp_rng sc
    refine lv_icmp_ge (tgt := 51) hx hb dX8_closest_28 (by decide) (fun c_8 => ?_) (fun c_8 => ?_)
    · skip
      have tc_8 : sc.toInt ≤ v3_20.toInt := (fa_le _ _).mp c_8
      obtain ⟨n_9, en_9⟩ : ∃ y : Int32, y = v2_5 + 1 := ⟨_, rfl⟩
      have tn_9 : n_9.toInt = v2_5.toInt + 1 := pp_add en_9 rfl rfl (by omega) (by omega)
      refine lv_iinc (v := n_9) (lv' := [(2, .int n_9), (3, .int v3_20), (1, .int v1_20), (0, .ref h0)]) hx hb dX8_closest_51 hl (k := 1) rfl (by rw [en_9]; rfl) (by decide) rfl (fun ls hl => ?_)
      clear en_9
      refine lv_goto (tgt := 5) hx hb dX8_closest_54 (by decide) ?_
      exact ihk_1 (n_9, v1_20) _ _ _ (by show (sc.toInt - n_9.toInt).toNat < k_1; omega) ⟨(by first | omega | decide | (simp only [fa_lt, fa_le, fa_eq, and_true, true_and, and_false, false_and, not_true_eq_false, not_false_eq_true, li_0, li_1, li_2, li_3, li_4, li_5, li_6, li_7, li_8, li_9, li_10, li_12, li_15, li_16, li_20, li_30, li_34, li_38, li_40, li_63, li_64, li_65, li_78, li_120, li_1000, li_4000, li_10000, li_11077, li_255, li_65535, li_m1, li_m2, li_m1000000001, li_m1000000002, li_m1000000003, li_m1000000004, li_m1000000005, li_m1000000006, li_m1000000007, or_true, true_or, or_false, false_or, implies_true, true_implies, false_implies] <;> omega)), hP.sub [0, 1, 2, 3] rfl, hD.sub [0, 1, 2, 3] (by decide) rfl, hS, lv_sub hl [0, 2, 3] rfl⟩
    · skip
      have tc_8 : ¬ sc.toInt ≤ v3_20.toInt := fun h => c_8 ((fa_le _ _).mpr h)
      refine lv_iload_n hx hb dX8_closest_31 rfl (lv_at hl 2 rfl) ?_
      refine lv_aload_n hx hb dX8_closest_32 rfl (lv_at hl 3 rfl) ?_
      refine va_get (D := (dC, dI)) (ci := 6) (v := .ref ah) (C := RX8) (T := TX8) (N := 8) hx hb hts inX8 hown hK hP 0 rfl rfl 0 (by decide) (hts _ (List.mem_of_getElem? (i := 1) rfl)) (fun _ h9 => h9) rfl dX8_closest_33 ?_
      refine lv_iload_n hx hb dX8_closest_36 rfl (lv_at hl 1 rfl) ?_
      refine lv_iload_n hx hb dX8_closest_37 rfl (lv_at hl 0 rfl) ?_
      have hPc := hP.sub (ws' := [(ah, .inr (4, [w0, w1, w2, w3, w4, w5, .int sc, .ref q5, w8])), (q5, .inl (c5, 7, .inr (.inl f5)))]) [2, 3] rfl
      have hKc := hK.sub (tys' := [(c5, .long)]) [1] rfl
      refine vp_callSi (W.runV (As := [.int v2_5, .int v3_20]) (rest := [.int v1_20]) ⟨hx, hb, hml, hown, hts⟩ (s_offBetween l dC dI ad ah v2_5 v3_20 w0 w1 w2 w3 w4 w5 (.int sc) q5 w8 c5 f5 (by first | omega | decide | (simp only [fa_lt, fa_le, fa_eq, and_true, true_and, and_false, false_and, not_true_eq_false, not_false_eq_true, li_0, li_1, li_2, li_3, li_4, li_5, li_6, li_7, li_8, li_9, li_10, li_12, li_15, li_16, li_20, li_30, li_34, li_38, li_40, li_63, li_64, li_65, li_78, li_120, li_1000, li_4000, li_10000, li_11077, li_255, li_65535, li_m1, li_m2, li_m1000000001, li_m1000000002, li_m1000000003, li_m1000000004, li_m1000000005, li_m1000000006, li_m1000000007, or_true, true_or, or_false, false_or, implies_true, true_implies, false_implies] <;> omega)) (by first | omega | decide | (simp only [fa_lt, fa_le, fa_eq, and_true, true_and, and_false, false_and, not_true_eq_false, not_false_eq_true, li_0, li_1, li_2, li_3, li_4, li_5, li_6, li_7, li_8, li_9, li_10, li_12, li_15, li_16, li_20, li_30, li_34, li_38, li_40, li_63, li_64, li_65, li_78, li_120, li_1000, li_4000, li_10000, li_11077, li_255, li_65535, li_m1, li_m2, li_m1000000001, li_m1000000002, li_m1000000003, li_m1000000004, li_m1000000005, li_m1000000006, li_m1000000007, or_true, true_or, or_false, false_or, implies_true, true_implies, false_implies] <;> omega))) (cwV 2 hts g_x_closest_s_offBetween_207 rfl rfl rfl (by decide +kernel) ⟨(Nat.le_of_ble_eq_true rfl), (Nat.le_of_ble_eq_true rfl)⟩) ⟨preS_blind, va_recv hKc hPc (ci := 4) (q0 := 0) rfl rfl, fun U hU hW => ⟨rfl, preS_at hU hW hPc hKc hev⟩⟩ rfl rfl hl.1 rfl (lv_room (Nat.le_of_ble_eq_true rfl)) dX8_closest_38 ⟨(Nat.le_of_ble_eq_true rfl), (Nat.le_of_ble_eq_true rfl)⟩) (fun r_10 hw => ?_)
      refine va_mmin hx hb (by rw [hml]; exact hl.1.symm) hown (hts _ (List.mem_of_getElem? (i := 27) rfl)) (hts _ (List.mem_of_getElem? (i := 28) rfl)) (hts _ (List.mem_of_getElem? (i := 29) rfl)) (hts _ (List.mem_of_getElem? (i := 30) rfl)) (Nat.le_of_ble_eq_true rfl) (Nat.le_of_ble_eq_true rfl) (Nat.le_of_ble_eq_true rfl) (Nat.le_of_ble_eq_true rfl) dX8_closest_41 ?_
      refine lv_topi (fun n_11 en_11 => ?_)
      have tn_11 : n_11.toInt ≤ v1_20.toInt ∧ n_11.toInt ≤ r_10.toInt ∧ (n_11.toInt = v1_20.toInt ∨ n_11.toInt = r_10.toInt) := pp_min en_11
      refine lv_istore_n (lv' := [(1, .int n_11), (3, .int v3_20), (2, .int v2_5), (0, .ref h0)]) hx hb dX8_closest_44 rfl hl (by decide) rfl (fun ls hl => ?_)
      obtain ⟨n_12, en_12⟩ : ∃ y : Int32, y = v3_20 + 1 := ⟨_, rfl⟩
      have tn_12 : n_12.toInt = v3_20.toInt + 1 := pp_add en_12 rfl rfl (by omega) (by omega)
      refine lv_iinc (v := n_12) (lv' := [(3, .int n_12), (1, .int n_11), (2, .int v2_5), (0, .ref h0)]) hx hb dX8_closest_45 hl (k := 1) rfl (by rw [en_12]; rfl) (by decide) rfl (fun ls hl => ?_)
      clear en_12
      refine lv_goto (tgt := 20) hx hb dX8_closest_48 (by decide) ?_
      exact ihk_7 (n_12, n_11) _ _ _ (by show (sc.toInt - n_12.toInt).toNat < k_7; omega) ⟨(by first | omega | decide | (simp only [fa_lt, fa_le, fa_eq, and_true, true_and, and_false, false_and, not_true_eq_false, not_false_eq_true, li_0, li_1, li_2, li_3, li_4, li_5, li_6, li_7, li_8, li_9, li_10, li_12, li_15, li_16, li_20, li_30, li_34, li_38, li_40, li_63, li_64, li_65, li_78, li_120, li_1000, li_4000, li_10000, li_11077, li_255, li_65535, li_m1, li_m2, li_m1000000001, li_m1000000002, li_m1000000003, li_m1000000004, li_m1000000005, li_m1000000006, li_m1000000007, or_true, true_or, or_false, false_or, implies_true, true_implies, false_implies] <;> omega)), hP.sub [0, 1, 2, 3] rfl, hD.sub [0, 1, 2, 3] (by decide) rfl, hS, lv_sub hl [0, 2, 1, 3] rfl⟩

def w_x_nearest : List Cond := .code yX8_nearest cX8_nearest 4 (some .int) :: (([.fieldLink RX8 10 "LampShapes" "now" "LLampShapes$Stage;", .methodLink RX8 76 yX6_hasShape, .instanceMethod yX6_hasShape, .selects RX6 yX6_hasShape yX6_hasShape, .initialized RX6, .code yX6_hasShape cX6_hasShape 2 (some .boolean), .fieldLink RX6 9 "LampShapes$Stage" "shapes" "I", .constant RX8 62 (-1000000001), .methodLink RX8 63 yX8_finding, .instanceMethod yX8_finding, .selects RX8 yX8_finding yX8_finding, .initialized RX8, .code yX8_finding cX8_finding 3 (some .int), .fieldLink RX8 46 "LampShapes" "told" "[I", .methodLink RX8 157 yX6_hasScene, .instanceMethod yX6_hasScene, .selects RX6 yX6_hasScene yX6_hasScene, .code yX6_hasScene cX6_hasScene 2 (some .boolean), .fieldLink RX6 31 "LampShapes$Stage" "scenes" "I", .fieldLink RX8 22 "LampShapes" "search" "LLampShapes$Search;", .methodLink RX8 174 yX5_seek, .instanceMethod yX5_seek, .selects RX5 yX5_seek yX5_seek, .initialized RX5, .code yX5_seek cX5_seek 8 none, .fieldLink RX5 9 "LampShapes$Search" "placing" "I", .fieldLink RX5 15 "LampShapes$Search" "least" "I", .methodLink RX5 18 yX6_isAllowed, .instanceMethod yX6_isAllowed, .selects RX6 yX6_isAllowed yX6_isAllowed, .code yX6_isAllowed cX6_isAllowed 4 (some .boolean), .fieldLink RX6 38 "LampShapes$Stage" "allowed" "I", .methodLink RX5 24 yX6_cornerBy, .instanceMethod yX6_cornerBy, .selects RX6 yX6_cornerBy yX6_cornerBy, .code yX6_cornerBy cX6_cornerBy 4 (some .long), .fieldLink RX6 15 "LampShapes$Stage" "kinds" "[I", .fieldLink RX6 19 "LampShapes$Stage" "points" "[I", .methodLink RX6 47 yX0_pointsBy, .static yX0_pointsBy, .initialized RX0, .code yX0_pointsBy cX0_pointsBy 3 (some .int), .methodLink RX0 15 yX0_turnedBy, .static yX0_turnedBy, .code yX0_turnedBy cX0_turnedBy 6 (some .int), .methodLink RX0 19 yX0_mirroredBy, .static yX0_mirroredBy, .code yX0_mirroredBy cX0_mirroredBy 2 (some .int), .constant RX0 31 (34952), .methodLink RX0 22 yX0_hollowed, .static yX0_hollowed, .code yX0_hollowed cX0_hollowed 5 (some .int), .constant RX0 32 (61166), .methodLink RX0 25 yX0_doubled, .static yX0_doubled, .code yX0_doubled cX0_doubled 1 (some .int), .constant RX0 33 (65535), .methodLink RX0 28 yX0_filled, .static yX0_filled, .code yX0_filled cX0_filled 6 (some .int), .methodLink RX6 53 yX1_cellsAtCorner, .static yX1_cellsAtCorner, .initialized RX1, .code yX1_cellsAtCorner cX1_cellsAtCorner 8 (some .long), .constantLong RX1 9 (771), .methodLink RX5 28 yX5_seekByWay, .instanceMethod yX5_seekByWay, .selects RX5 yX5_seekByWay yX5_seekByWay, .code yX5_seekByWay cX5_seekByWay 11 none, .methodLink RX5 32 yX1_moved, .static yX1_moved, .code yX1_moved cX1_moved 6 (some .long), .constantLong RX1 13 (72340172838076673), .methodLink RX5 38 yX1_cellsOff, .static yX1_cellsOff, .code yX1_cellsOff cX1_cellsOff 4 (some .int), .methodLink RX1 15 yJ13_bitCount_95d88, .static yJ13_bitCount_95d88, .initialized RJ13, .code yJ13_bitCount_95d88 cJ13_bitCount_95d88 2 (some .int), .constantLong RJ13 314 (6148914691236517205), .constantLong RJ13 316 (3689348814741910323), .constantLong RJ13 318 (1085102592571150095), .methodLink RX5 42 yX1_placingAt, .static yX1_placingAt, .code yX1_placingAt cX1_placingAt 3 (some .int)] : List Cond) ++ wsX80 ++ wsX60 ++ wsX50)
set_option maxRecDepth 20000 in
theorem g_x_nearest_s_hasShape_76 : GoodIn w_x_nearest (wsV RX8 76 RX6 yX6_hasShape w_s_hasShape) := goodIn_r _ [2, 3, 4, 5, 6, 7, 95, 96, 97, 98, 99, 100, 101, 102, 103] rfl (by decide +kernel)
set_option maxRecDepth 20000 in
theorem g_x_nearest_f_beyond_63 : GoodIn w_x_nearest (wsV RX8 63 RX8 yX8_finding w_f_beyond) := goodIn_r _ [9, 10, 11, 12, 13, 8, 14, 87, 88, 89, 90, 91, 92, 93, 94] rfl (by decide +kernel)
set_option maxRecDepth 20000 in
theorem g_x_nearest_s_hasScene_157 : GoodIn w_x_nearest (wsV RX8 157 RX6 yX6_hasScene w_s_hasScene) := goodIn_r _ [15, 16, 17, 5, 18, 19, 95, 96, 97, 98, 99, 100, 101, 102, 103] rfl (by decide +kernel)
set_option maxRecDepth 20000 in
theorem g_x_nearest_r_seek_174 : GoodIn w_x_nearest (wsV RX8 174 RX5 yX5_seek w_r_seek) := goodIn_r _ [21, 22, 23, 24, 25, 26, 27, 28, 29, 30, 5, 31, 32, 33, 34, 35, 36, 37, 38, 39, 40, 41, 42, 43, 44, 45, 46, 47, 48, 49, 50, 51, 52, 53, 54, 55, 56, 57, 58, 59, 60, 61, 62, 63, 64, 65, 66, 67, 68, 24, 69, 70, 71, 72, 73, 74, 75, 76, 77, 78, 79, 80, 81, 82, 83, 84, 85, 86, 104, 105, 95, 96, 97, 98, 99, 100, 101, 102, 103] rfl (by decide +kernel)
set_option maxHeartbeats 4000000 in
set_option maxRecDepth 100000 in
theorem x_nearest (l : Launch) (dC : Nat → ClassId) (dI : Nat → Nat → Nat) (ad : Nat → Nat) (h0 : Nat) (a : Int32) (b : Int32) (a3 : Int32) (ah : Nat) (v1 : Value) (sh0 : Nat) (v3 : Value) (v4 : Value) (v5 : Value) (t0 : Nat) (v7 : Value) (tc : ClassId) (tf : Nat → Int32) (pl : Int32) (lst : Int32) (sh : Int32) (q1 : Nat) (q2 : Nat) (w3 : Value) (w4 : Value) (w5 : Value) (sc : Int32) (q5 : Nat) (al : Int32) (c1 : ClassId) (f1 : Nat → Int32) (c2 : ClassId) (f2 : Nat → Int32) (c5 : ClassId) (f5 : Nat → Int64) (sz : Nat) (hsh : 0 ≤ sh.toInt ∧ sh.toInt ≤ 9) (hsc : 0 ≤ sc.toInt ∧ sc.toInt ≤ 7) : Met l yX8_nearest w_x_nearest ({ frames := 4, cells := 0, slots := 0, locals := 101 } : Room) (va_Pc [.ref h0, .int a, .int b, .int a3] (preM dC dI ad [(tc, .int), (c1, .int), (c2, .int), (c5, .long)] [(h0, .inr (6, [.ref ah, v1, .ref sh0, v3, v4, v5, .ref t0, v7])), (t0, .inl (tc, 7, .inl tf)), (sh0, .inr (3, [.int pl, .int lst])), (ah, .inr (4, [.int sh, .ref q1, .ref q2, w3, w4, w5, .int sc, .ref q5, .int al])), (q1, .inl (c1, 9, .inl f1)), (q2, .inl (c2, 9, .inl f2)), (q5, .inl (c5, 7, .inr (.inl f5)))] sz)) (va_Qi (fun (r : Int32) (_ : Unit) => True) (fun _ t => ∃ (tg : Nat → Int32), ∃ (pl2 : Int32), ∃ (lst2 : Int32), va_P (dC, dI) vwCl [(h0, .inr (6, [.ref ah, v1, .ref sh0, v3, v4, v5, .ref t0, v7])), (t0, .inl (tc, 7, .inl tg)), (sh0, .inr (3, [.int pl2, .int lst2])), (ah, .inr (4, [.int sh, .ref q1, .ref q2, w3, w4, w5, .int sc, .ref q5, .int al])), (q1, .inl (c1, 9, .inl f1)), (q2, .inl (c2, 9, .inl f2)), (q5, .inl (c5, 7, .inr (.inl f5)))] t.heap ∧ va_K (dC, dI) vwCl [(tc, .int), (c1, .int), (c2, .int), (c5, .long)] t ∧ va_D (va_A [(h0, .inr (6, [.ref ah, v1, .ref sh0, v3, v4, v5, .ref t0, v7])), (t0, .inl (tc, 7, .inl tf)), (sh0, .inr (3, [.int pl, .int lst])), (ah, .inr (4, [.int sh, .ref q1, .ref q2, w3, w4, w5, .int sc, .ref q5, .int al])), (q1, .inl (c1, 9, .inl f1)), (q2, .inl (c2, 9, .inl f2)), (q5, .inl (c5, 7, .inr (.inl f5)))] sz) [(h0, .inr (6, [.ref ah, v1, .ref sh0, v3, v4, v5, .ref t0, v7])), (t0, .inl (tc, 7, .inl tg)), (sh0, .inr (3, [.int pl2, .int lst2])), (ah, .inr (4, [.int sh, .ref q1, .ref q2, w3, w4, w5, .int sc, .ref q5, .int al])), (q1, .inl (c1, 9, .inl f1)), (q2, .inl (c2, 9, .inl f2)), (q5, .inl (c5, 7, .inr (.inl f5)))]) (va_A [(h0, .inr (6, [.ref ah, v1, .ref sh0, v3, v4, v5, .ref t0, v7])), (t0, .inl (tc, 7, .inl tf)), (sh0, .inr (3, [.int pl, .int lst])), (ah, .inr (4, [.int sh, .ref q1, .ref q2, w3, w4, w5, .int sc, .ref q5, .int al])), (q1, .inl (c1, 9, .inl f1)), (q2, .inl (c2, 9, .inl f2)), (q5, .inl (c5, 7, .inr (.inl f5)))] sz)) 0 0 (va_A [(h0, .inr (6, [.ref ah, v1, .ref sh0, v3, v4, v5, .ref t0, v7])), (t0, .inl (tc, 7, .inl tf)), (sh0, .inr (3, [.int pl, .int lst])), (ah, .inr (4, [.int sh, .ref q1, .ref q2, w3, w4, w5, .int sc, .ref q5, .int al])), (q1, .inl (c1, 9, .inl f1)), (q2, .inl (c2, 9, .inl f2)), (q5, .inl (c5, 7, .inr (.inl f5)))] sz) := by
  refine Met.ofW (cc := cX8_nearest) (maxL := 4) (ret := (some .int)) (by decide) rfl ?_
  intro p e s m args below meth c s₁ B hml hv
  obtain ⟨rfl, hsz, hP, hK, hD0, hev⟩ := hv
  have hx := B.exec
  have hb := B.bytes
  have hr := B.returns
  have hts := atoms_spec (ws := w_x_nearest) B.pre
  have hown : s.vm.findClass RX8 = some m.cls := findClass_of_methodNamed B.named
  have hlocks := B.notSynchronized
  have inX8 : ∀ w ∈ wsX80, w ∈ w_x_nearest := fun w h => List.mem_cons_of_mem _ (List.mem_append_left _ (List.mem_append_left _ (List.mem_append_right _ h)))
  have inX6 : ∀ w ∈ wsX60, w ∈ w_x_nearest := fun w h => List.mem_cons_of_mem _ (List.mem_append_left _ (List.mem_append_right _ h))
  have inX5 : ∀ w ∈ wsX50, w ∈ w_x_nearest := fun w h => List.mem_cons_of_mem _ (List.mem_append_right _ h)
  subst hsz
  have hD := hD0.self (sz := s.heap.size)
  generalize hAe : va_A [(h0, .inr (6, [.ref ah, v1, .ref sh0, v3, v4, v5, .ref t0, v7])), (t0, .inl (tc, 7, .inl tf)), (sh0, .inr (3, [.int pl, .int lst])), (ah, .inr (4, [.int sh, .ref q1, .ref q2, w3, w4, w5, .int sc, .ref q5, .int al])), (q1, .inl (c1, 9, .inl f1)), (q2, .inl (c2, 9, .inl f2)), (q5, .inl (c5, 7, .inr (.inl f5)))] s.heap.size = A at hD ⊢
  have hA : ∀ q : Nat, s.heap.size ≤ q → A q := fun q h => by rw [← hAe]; exact Or.inr h
  have hS : va_S A s.heap s.heap [] := va_S.rf
  have hP : va_P (dC, dI) vwCl [(h0, .inr (6, [.ref ah, v1, .ref sh0, v3, v4, v5, .ref t0, v7])), (t0, .inl (tc, 7, .inl tf)), (sh0, .inr (3, [.int pl, .int lst])), (ah, .inr (4, [.int sh, .ref q1, .ref q2, w3, w4, w5, .int sc, .ref q5, .int al])), (q1, .inl (c1, 9, .inl f1)), (q2, .inl (c2, 9, .inl f2)), (q5, .inl (c5, 7, .inr (.inl f5)))] s.heap := hP
  have hl := lv_entry ([.ref h0, .int a, .int b, .int a3]) (n := 4) (Nat.le_of_ble_eq_true rfl)
  rw [lg_entry_eq]
  generalize (lg_sl ([.ref h0, .int a, .int b, .int a3]) ++ List.replicate (4 - (lg_sl ([.ref h0, .int a, .int b, .int a3])).length) Slot.unset).toArray = ls at hl ⊢
  have hl : lv_has ls 4 [(0, .ref h0), (1, .int a), (2, .int b), (3, .int a3)] := hl
  refine lv_aload_n hx hb dX8_nearest_0 rfl (lv_at hl 0 rfl) ?_
  refine va_get (D := (dC, dI)) (ci := 6) (v := .ref ah) (C := RX8) (T := TX8) (N := 8) hx hb hts inX8 hown hK hP 0 rfl rfl 0 (by decide) (hts _ (List.mem_of_getElem? (i := 1) rfl)) (fun _ h9 => h9) rfl dX8_nearest_1 ?_
  refine lv_iload_n hx hb dX8_nearest_4 rfl (lv_at hl 1 rfl) ?_
  have hPc := hP.sub (ws' := [(ah, .inr (4, [.int sh, .ref q1, .ref q2, w3, w4, w5, .int sc, .ref q5, .int al]))]) [3] rfl
  have hKc := hK.sub (tys' := []) [] rfl
  refine vp_callSi (W.runV (As := [.int a]) (rest := []) ⟨hx, hb, hml, hown, hts⟩ (s_hasShape l dC dI ad ah a sh (.ref q1) (.ref q2) w3 w4 w5 (.int sc) (.ref q5) (.int al) ) (cwV 1 hts g_x_nearest_s_hasShape_76 rfl rfl rfl (by decide +kernel) ⟨(Nat.le_of_ble_eq_true rfl), (Nat.le_of_ble_eq_true rfl)⟩) ⟨preS_blind, va_recv hKc hPc (ci := 4) (q0 := 0) rfl rfl, fun U hU hW => ⟨rfl, preS_at hU hW hPc hKc hev⟩⟩ rfl rfl hl.1 rfl (lv_room (Nat.le_of_ble_eq_true rfl)) dX8_nearest_5 ⟨(Nat.le_of_ble_eq_true rfl), (Nat.le_of_ble_eq_true rfl)⟩) (fun r_1 hw => ?_)
  have hr_1 : (r_1.toInt = 1 ∧ 0 ≤ a.toInt ∧ a.toInt < sh.toInt) ∨ r_1.toInt = 0 := hw
  refine lv_if_eq (tgt := 31) hx hb dX8_nearest_8 (by decide) (fun c_2 => ?_) (fun c_2 => ?_)
  · skip
    have tc_2 : r_1.toInt = 0 := (fa_eq _ _).mp c_2
    refine lv_aload_n hx hb dX8_nearest_31 rfl (lv_at hl 0 rfl) ?_
    refine lv_ldc hx hb hown (hts _ (List.mem_of_getElem? (i := 8) rfl)) dX8_nearest_32 ?_
    have hPc := hP.sub (ws' := [(h0, .inr (6, [.ref ah, v1, .ref sh0, v3, v4, v5, .ref t0, v7])), (t0, .inl (tc, 7, .inl tf))]) [0, 1] rfl
    have hKc := hK.sub (tys' := [(tc, .int)]) [0] rfl
    have hDc := hD.sub (ws' := [(h0, .inr (6, [.ref ah, v1, .ref sh0, v3, v4, v5, .ref t0, v7])), (t0, .inl (tc, 7, .inl tf))]) [0, 1] (by decide) rfl
    have hFc := va_free (wc := [(h0, .inr (6, [.ref ah, v1, .ref sh0, v3, v4, v5, .ref t0, v7])), (t0, .inl (tc, 7, .inl tf))]) hD hS hA [0, 1] rfl
    refine va_calli (va_runV (As := [.int (-1000000001)]) (rest := []) ⟨hx, hb, hml, hown, hts⟩ (f_beyond l dC dI ad h0 (.ref ah) v1 (.ref sh0) v3 v4 v5 t0 v7 tc tf s.heap.size ) (cwV 1 hts g_x_nearest_f_beyond_63 rfl rfl rfl (by decide +kernel) ⟨(Nat.le_of_ble_eq_true rfl), (Nat.le_of_ble_eq_true rfl)⟩) ⟨preM_blind, va_recv hKc hPc (ci := 6) (q0 := 0) rfl rfl, fun U hU hW => ⟨rfl, preM_at hU hW hPc hKc hDc hev⟩⟩ rfl rfl hl.1 rfl (lv_room (Nat.le_of_ble_eq_true rfl)) dX8_nearest_34 ⟨(Nat.le_of_ble_eq_true rfl), (Nat.le_of_ble_eq_true rfl)⟩) hS (fun q _ h => hFc q h) hFc (fun r_3 u t H1 locs ht hvm hw hB hz1 hk1 hS => ?_)
    obtain ⟨tg_4, hP1, hK1, hD1⟩ := hB
    rw [ht] at hP1
    have hK1 := va_K.moved hvm.symm hK1
    obtain ⟨hP, hD⟩ := va_join (wr := [(sh0, .inr (3, [.int pl, .int lst])), (ah, .inr (4, [.int sh, .ref q1, .ref q2, w3, w4, w5, .int sc, .ref q5, .int al])), (q1, .inl (c1, 9, .inl f1)), (q2, .inl (c2, 9, .inl f2)), (q5, .inl (c5, 7, .inr (.inl f5)))]) (w1 := [(h0, .inr (6, [.ref ah, v1, .ref sh0, v3, v4, v5, .ref t0, v7])), (t0, .inl (tc, 7, .inl tg_4))]) hP hD [0, 1] [2, 3, 4, 5, 6] rfl rfl (by decide) (by decide) hk1 hFc hP1 hD1
    generalize H1 = H at hP hS ⊢
    have hP : va_P (dC, dI) vwCl [(sh0, .inr (3, [.int pl, .int lst])), (ah, .inr (4, [.int sh, .ref q1, .ref q2, w3, w4, w5, .int sc, .ref q5, .int al])), (q1, .inl (c1, 9, .inl f1)), (q2, .inl (c2, 9, .inl f2)), (q5, .inl (c5, 7, .inr (.inl f5))), (h0, .inr (6, [.ref ah, v1, .ref sh0, v3, v4, v5, .ref t0, v7])), (t0, .inl (tc, 7, .inl tg_4))] H := hP
    have hD : va_D A [(sh0, .inr (3, [.int pl, .int lst])), (ah, .inr (4, [.int sh, .ref q1, .ref q2, w3, w4, w5, .int sc, .ref q5, .int al])), (q1, .inl (c1, 9, .inl f1)), (q2, .inl (c2, 9, .inl f2)), (q5, .inl (c5, 7, .inr (.inl f5))), (h0, .inr (6, [.ref ah, v1, .ref sh0, v3, v4, v5, .ref t0, v7])), (t0, .inl (tc, 7, .inl tg_4))] := hD
    subst hw
    have hP9 := hP.sub (ws' := [(h0, .inr (6, [.ref ah, v1, .ref sh0, v3, v4, v5, .ref t0, v7])), (t0, .inl (tc, 7, .inl tg_4)), (sh0, .inr (3, [.int pl, .int lst])), (ah, .inr (4, [.int sh, .ref q1, .ref q2, w3, w4, w5, .int sc, .ref q5, .int al])), (q1, .inl (c1, 9, .inl f1)), (q2, .inl (c2, 9, .inl f2)), (q5, .inl (c5, 7, .inr (.inl f5)))]) [5, 6, 0, 1, 2, 3, 4] rfl
    have hD9 := hD.sub (ws' := [(h0, .inr (6, [.ref ah, v1, .ref sh0, v3, v4, v5, .ref t0, v7])), (t0, .inl (tc, 7, .inl tg_4)), (sh0, .inr (3, [.int pl, .int lst])), (ah, .inr (4, [.int sh, .ref q1, .ref q2, w3, w4, w5, .int sc, .ref q5, .int al])), (q1, .inl (c1, 9, .inl f1)), (q2, .inl (c2, 9, .inl f2)), (q5, .inl (c5, 7, .inr (.inl f5)))]) [5, 6, 0, 1, 2, 3, 4] (by decide) rfl
    have hK9 := hK.sub (tys' := [(tc, .int), (c1, .int), (c2, .int), (c5, .long)]) [0, 1, 2, 3] rfl
    exact W.iret (v := ((-1000000001) : Int32)) hx hb hr (fun t ht hW => ⟨⟨((-1000000001) : Int32), (), rfl, trivial, tg_4, pl, lst, by rw [ht]; exact hP9, va_K.moved hW.alike hK9, hD9⟩, hS.F ht⟩) hS.2.2 dX8_nearest_37
  · skip
    have tc_2 : ¬ r_1.toInt = 0 := fun h => c_2 ((fa_eq _ _).mpr h)
    refine lv_aload_n hx hb dX8_nearest_11 rfl (lv_at hl 0 rfl) ?_
    refine va_get (D := (dC, dI)) (ci := 6) (v := .ref ah) (C := RX8) (T := TX8) (N := 8) hx hb hts inX8 hown hK hP 0 rfl rfl 0 (by decide) (hts _ (List.mem_of_getElem? (i := 1) rfl)) (fun _ h9 => h9) rfl dX8_nearest_12 ?_
    refine lv_iload_n hx hb dX8_nearest_15 rfl (lv_at hl 2 rfl) ?_
    have hPc := hP.sub (ws' := [(ah, .inr (4, [.int sh, .ref q1, .ref q2, w3, w4, w5, .int sc, .ref q5, .int al]))]) [3] rfl
    have hKc := hK.sub (tys' := []) [] rfl
    refine vp_callSi (W.runV (As := [.int b]) (rest := []) ⟨hx, hb, hml, hown, hts⟩ (s_hasScene l dC dI ad ah b (.int sh) (.ref q1) (.ref q2) w3 w4 w5 sc (.ref q5) (.int al) ) (cwV 1 hts g_x_nearest_s_hasScene_157 rfl rfl rfl (by decide +kernel) ⟨(Nat.le_of_ble_eq_true rfl), (Nat.le_of_ble_eq_true rfl)⟩) ⟨preS_blind, va_recv hKc hPc (ci := 4) (q0 := 0) rfl rfl, fun U hU hW => ⟨rfl, preS_at hU hW hPc hKc hev⟩⟩ rfl rfl hl.1 rfl (lv_room (Nat.le_of_ble_eq_true rfl)) dX8_nearest_16 ⟨(Nat.le_of_ble_eq_true rfl), (Nat.le_of_ble_eq_true rfl)⟩) (fun r_5 hw => ?_)
    have hr_5 : (r_5.toInt = 1 ∧ 0 ≤ b.toInt ∧ b.toInt < sc.toInt) ∨ r_5.toInt = 0 := hw
    refine lv_if_eq (tgt := 31) hx hb dX8_nearest_19 (by decide) (fun c_6 => ?_) (fun c_6 => ?_)
    · skip
      have tc_6 : r_5.toInt = 0 := (fa_eq _ _).mp c_6
      refine lv_aload_n hx hb dX8_nearest_31 rfl (lv_at hl 0 rfl) ?_
      refine lv_ldc hx hb hown (hts _ (List.mem_of_getElem? (i := 8) rfl)) dX8_nearest_32 ?_
      have hPc := hP.sub (ws' := [(h0, .inr (6, [.ref ah, v1, .ref sh0, v3, v4, v5, .ref t0, v7])), (t0, .inl (tc, 7, .inl tf))]) [0, 1] rfl
      have hKc := hK.sub (tys' := [(tc, .int)]) [0] rfl
      have hDc := hD.sub (ws' := [(h0, .inr (6, [.ref ah, v1, .ref sh0, v3, v4, v5, .ref t0, v7])), (t0, .inl (tc, 7, .inl tf))]) [0, 1] (by decide) rfl
      have hFc := va_free (wc := [(h0, .inr (6, [.ref ah, v1, .ref sh0, v3, v4, v5, .ref t0, v7])), (t0, .inl (tc, 7, .inl tf))]) hD hS hA [0, 1] rfl
      refine va_calli (va_runV (As := [.int (-1000000001)]) (rest := []) ⟨hx, hb, hml, hown, hts⟩ (f_beyond l dC dI ad h0 (.ref ah) v1 (.ref sh0) v3 v4 v5 t0 v7 tc tf s.heap.size ) (cwV 1 hts g_x_nearest_f_beyond_63 rfl rfl rfl (by decide +kernel) ⟨(Nat.le_of_ble_eq_true rfl), (Nat.le_of_ble_eq_true rfl)⟩) ⟨preM_blind, va_recv hKc hPc (ci := 6) (q0 := 0) rfl rfl, fun U hU hW => ⟨rfl, preM_at hU hW hPc hKc hDc hev⟩⟩ rfl rfl hl.1 rfl (lv_room (Nat.le_of_ble_eq_true rfl)) dX8_nearest_34 ⟨(Nat.le_of_ble_eq_true rfl), (Nat.le_of_ble_eq_true rfl)⟩) hS (fun q _ h => hFc q h) hFc (fun r_7 u t H1 locs ht hvm hw hB hz1 hk1 hS => ?_)
      obtain ⟨tg_8, hP1, hK1, hD1⟩ := hB
      rw [ht] at hP1
      have hK1 := va_K.moved hvm.symm hK1
      obtain ⟨hP, hD⟩ := va_join (wr := [(sh0, .inr (3, [.int pl, .int lst])), (ah, .inr (4, [.int sh, .ref q1, .ref q2, w3, w4, w5, .int sc, .ref q5, .int al])), (q1, .inl (c1, 9, .inl f1)), (q2, .inl (c2, 9, .inl f2)), (q5, .inl (c5, 7, .inr (.inl f5)))]) (w1 := [(h0, .inr (6, [.ref ah, v1, .ref sh0, v3, v4, v5, .ref t0, v7])), (t0, .inl (tc, 7, .inl tg_8))]) hP hD [0, 1] [2, 3, 4, 5, 6] rfl rfl (by decide) (by decide) hk1 hFc hP1 hD1
      generalize H1 = H at hP hS ⊢
      have hP : va_P (dC, dI) vwCl [(sh0, .inr (3, [.int pl, .int lst])), (ah, .inr (4, [.int sh, .ref q1, .ref q2, w3, w4, w5, .int sc, .ref q5, .int al])), (q1, .inl (c1, 9, .inl f1)), (q2, .inl (c2, 9, .inl f2)), (q5, .inl (c5, 7, .inr (.inl f5))), (h0, .inr (6, [.ref ah, v1, .ref sh0, v3, v4, v5, .ref t0, v7])), (t0, .inl (tc, 7, .inl tg_8))] H := hP
      have hD : va_D A [(sh0, .inr (3, [.int pl, .int lst])), (ah, .inr (4, [.int sh, .ref q1, .ref q2, w3, w4, w5, .int sc, .ref q5, .int al])), (q1, .inl (c1, 9, .inl f1)), (q2, .inl (c2, 9, .inl f2)), (q5, .inl (c5, 7, .inr (.inl f5))), (h0, .inr (6, [.ref ah, v1, .ref sh0, v3, v4, v5, .ref t0, v7])), (t0, .inl (tc, 7, .inl tg_8))] := hD
      subst hw
      have hP9 := hP.sub (ws' := [(h0, .inr (6, [.ref ah, v1, .ref sh0, v3, v4, v5, .ref t0, v7])), (t0, .inl (tc, 7, .inl tg_8)), (sh0, .inr (3, [.int pl, .int lst])), (ah, .inr (4, [.int sh, .ref q1, .ref q2, w3, w4, w5, .int sc, .ref q5, .int al])), (q1, .inl (c1, 9, .inl f1)), (q2, .inl (c2, 9, .inl f2)), (q5, .inl (c5, 7, .inr (.inl f5)))]) [5, 6, 0, 1, 2, 3, 4] rfl
      have hD9 := hD.sub (ws' := [(h0, .inr (6, [.ref ah, v1, .ref sh0, v3, v4, v5, .ref t0, v7])), (t0, .inl (tc, 7, .inl tg_8)), (sh0, .inr (3, [.int pl, .int lst])), (ah, .inr (4, [.int sh, .ref q1, .ref q2, w3, w4, w5, .int sc, .ref q5, .int al])), (q1, .inl (c1, 9, .inl f1)), (q2, .inl (c2, 9, .inl f2)), (q5, .inl (c5, 7, .inr (.inl f5)))]) [5, 6, 0, 1, 2, 3, 4] (by decide) rfl
      have hK9 := hK.sub (tys' := [(tc, .int), (c1, .int), (c2, .int), (c5, .long)]) [0, 1, 2, 3] rfl
      exact W.iret (v := ((-1000000001) : Int32)) hx hb hr (fun t ht hW => ⟨⟨((-1000000001) : Int32), (), rfl, trivial, tg_8, pl, lst, by rw [ht]; exact hP9, va_K.moved hW.alike hK9, hD9⟩, hS.F ht⟩) hS.2.2 dX8_nearest_37
    · skip
      have tc_6 : ¬ r_5.toInt = 0 := fun h => c_6 ((fa_eq _ _).mpr h)
      refine lv_iload_n hx hb dX8_nearest_22 rfl (lv_at hl 3 rfl) ?_
      refine lv_if_lt (tgt := 31) hx hb dX8_nearest_23 (by decide) (fun c_9 => ?_) (fun c_9 => ?_)
      · skip
        have tc_9 : a3.toInt < 0 := (fa_lt _ _).mp c_9
        refine lv_aload_n hx hb dX8_nearest_31 rfl (lv_at hl 0 rfl) ?_
        refine lv_ldc hx hb hown (hts _ (List.mem_of_getElem? (i := 8) rfl)) dX8_nearest_32 ?_
        have hPc := hP.sub (ws' := [(h0, .inr (6, [.ref ah, v1, .ref sh0, v3, v4, v5, .ref t0, v7])), (t0, .inl (tc, 7, .inl tf))]) [0, 1] rfl
        have hKc := hK.sub (tys' := [(tc, .int)]) [0] rfl
        have hDc := hD.sub (ws' := [(h0, .inr (6, [.ref ah, v1, .ref sh0, v3, v4, v5, .ref t0, v7])), (t0, .inl (tc, 7, .inl tf))]) [0, 1] (by decide) rfl
        have hFc := va_free (wc := [(h0, .inr (6, [.ref ah, v1, .ref sh0, v3, v4, v5, .ref t0, v7])), (t0, .inl (tc, 7, .inl tf))]) hD hS hA [0, 1] rfl
        refine va_calli (va_runV (As := [.int (-1000000001)]) (rest := []) ⟨hx, hb, hml, hown, hts⟩ (f_beyond l dC dI ad h0 (.ref ah) v1 (.ref sh0) v3 v4 v5 t0 v7 tc tf s.heap.size ) (cwV 1 hts g_x_nearest_f_beyond_63 rfl rfl rfl (by decide +kernel) ⟨(Nat.le_of_ble_eq_true rfl), (Nat.le_of_ble_eq_true rfl)⟩) ⟨preM_blind, va_recv hKc hPc (ci := 6) (q0 := 0) rfl rfl, fun U hU hW => ⟨rfl, preM_at hU hW hPc hKc hDc hev⟩⟩ rfl rfl hl.1 rfl (lv_room (Nat.le_of_ble_eq_true rfl)) dX8_nearest_34 ⟨(Nat.le_of_ble_eq_true rfl), (Nat.le_of_ble_eq_true rfl)⟩) hS (fun q _ h => hFc q h) hFc (fun r_10 u t H1 locs ht hvm hw hB hz1 hk1 hS => ?_)
        obtain ⟨tg_11, hP1, hK1, hD1⟩ := hB
        rw [ht] at hP1
        have hK1 := va_K.moved hvm.symm hK1
        obtain ⟨hP, hD⟩ := va_join (wr := [(sh0, .inr (3, [.int pl, .int lst])), (ah, .inr (4, [.int sh, .ref q1, .ref q2, w3, w4, w5, .int sc, .ref q5, .int al])), (q1, .inl (c1, 9, .inl f1)), (q2, .inl (c2, 9, .inl f2)), (q5, .inl (c5, 7, .inr (.inl f5)))]) (w1 := [(h0, .inr (6, [.ref ah, v1, .ref sh0, v3, v4, v5, .ref t0, v7])), (t0, .inl (tc, 7, .inl tg_11))]) hP hD [0, 1] [2, 3, 4, 5, 6] rfl rfl (by decide) (by decide) hk1 hFc hP1 hD1
        generalize H1 = H at hP hS ⊢
        have hP : va_P (dC, dI) vwCl [(sh0, .inr (3, [.int pl, .int lst])), (ah, .inr (4, [.int sh, .ref q1, .ref q2, w3, w4, w5, .int sc, .ref q5, .int al])), (q1, .inl (c1, 9, .inl f1)), (q2, .inl (c2, 9, .inl f2)), (q5, .inl (c5, 7, .inr (.inl f5))), (h0, .inr (6, [.ref ah, v1, .ref sh0, v3, v4, v5, .ref t0, v7])), (t0, .inl (tc, 7, .inl tg_11))] H := hP
        have hD : va_D A [(sh0, .inr (3, [.int pl, .int lst])), (ah, .inr (4, [.int sh, .ref q1, .ref q2, w3, w4, w5, .int sc, .ref q5, .int al])), (q1, .inl (c1, 9, .inl f1)), (q2, .inl (c2, 9, .inl f2)), (q5, .inl (c5, 7, .inr (.inl f5))), (h0, .inr (6, [.ref ah, v1, .ref sh0, v3, v4, v5, .ref t0, v7])), (t0, .inl (tc, 7, .inl tg_11))] := hD
        subst hw
        have hP9 := hP.sub (ws' := [(h0, .inr (6, [.ref ah, v1, .ref sh0, v3, v4, v5, .ref t0, v7])), (t0, .inl (tc, 7, .inl tg_11)), (sh0, .inr (3, [.int pl, .int lst])), (ah, .inr (4, [.int sh, .ref q1, .ref q2, w3, w4, w5, .int sc, .ref q5, .int al])), (q1, .inl (c1, 9, .inl f1)), (q2, .inl (c2, 9, .inl f2)), (q5, .inl (c5, 7, .inr (.inl f5)))]) [5, 6, 0, 1, 2, 3, 4] rfl
        have hD9 := hD.sub (ws' := [(h0, .inr (6, [.ref ah, v1, .ref sh0, v3, v4, v5, .ref t0, v7])), (t0, .inl (tc, 7, .inl tg_11)), (sh0, .inr (3, [.int pl, .int lst])), (ah, .inr (4, [.int sh, .ref q1, .ref q2, w3, w4, w5, .int sc, .ref q5, .int al])), (q1, .inl (c1, 9, .inl f1)), (q2, .inl (c2, 9, .inl f2)), (q5, .inl (c5, 7, .inr (.inl f5)))]) [5, 6, 0, 1, 2, 3, 4] (by decide) rfl
        have hK9 := hK.sub (tys' := [(tc, .int), (c1, .int), (c2, .int), (c5, .long)]) [0, 1, 2, 3] rfl
        exact W.iret (v := ((-1000000001) : Int32)) hx hb hr (fun t ht hW => ⟨⟨((-1000000001) : Int32), (), rfl, trivial, tg_11, pl, lst, by rw [ht]; exact hP9, va_K.moved hW.alike hK9, hD9⟩, hS.F ht⟩) hS.2.2 dX8_nearest_37
      · skip
        have tc_9 : ¬ a3.toInt < 0 := fun h => c_9 ((fa_lt _ _).mpr h)
        refine lv_iload_n hx hb dX8_nearest_26 rfl (lv_at hl 3 rfl) ?_
        refine lv_iconst (v := 1) hx hb dX8_nearest_27 (by decide) ?_
        refine lv_icmp_le (tgt := 38) hx hb dX8_nearest_28 (by decide) (fun c_12 => ?_) (fun c_12 => ?_)
        · skip
          have tc_12 : a3.toInt ≤ 1 := (fa_le _ _).mp c_12
          refine lv_aload_n hx hb dX8_nearest_38 rfl (lv_at hl 0 rfl) ?_
          refine va_get (D := (dC, dI)) (ci := 6) (v := .ref sh0) (C := RX8) (T := TX8) (N := 8) hx hb hts inX8 hown hK hP 0 rfl rfl 2 (by decide) (hts _ (List.mem_of_getElem? (i := 20) rfl)) (fun _ h9 => h9) rfl dX8_nearest_39 ?_
          refine lv_aload_n hx hb dX8_nearest_42 rfl (lv_at hl 0 rfl) ?_
          refine va_get (D := (dC, dI)) (ci := 6) (v := .ref ah) (C := RX8) (T := TX8) (N := 8) hx hb hts inX8 hown hK hP 0 rfl rfl 0 (by decide) (hts _ (List.mem_of_getElem? (i := 1) rfl)) (fun _ h9 => h9) rfl dX8_nearest_43 ?_
          refine lv_iload_n hx hb dX8_nearest_46 rfl (lv_at hl 1 rfl) ?_
          refine lv_lconst (v := 0) hx hb dX8_nearest_47 (by decide) ?_
          refine lv_aload_n hx hb dX8_nearest_48 rfl (lv_at hl 0 rfl) ?_
          refine va_get (D := (dC, dI)) (ci := 6) (v := .ref ah) (C := RX8) (T := TX8) (N := 8) hx hb hts inX8 hown hK hP 0 rfl rfl 0 (by decide) (hts _ (List.mem_of_getElem? (i := 1) rfl)) (fun _ h9 => h9) rfl dX8_nearest_49 ?_
          refine va_getN (D := (dC, dI)) (ci := 4) (v := .ref q5) (C := RX6) (T := TX6) (N := 9) hx hb hts inX6 hown hK hP 3 rfl rfl 7 (by decide) (ev_nest hev 10 rfl) (fun _ h9 => h9) rfl dX8_nearest_52 ?_
          refine lv_iload_n hx hb dX8_nearest_55 rfl (lv_at hl 2 rfl) ?_
          refine va_lald hx hb hK hP 6 3 rfl rfl (vp_in_iff.mpr ⟨by omega, by omega⟩) dX8_nearest_56 ?_
          refine lv_topl (fun n_13 en_13 => ?_)
          clear en_13
          have hPc := hP.sub (ws' := [(sh0, .inr (3, [.int pl, .int lst])), (ah, .inr (4, [.int sh, .ref q1, .ref q2, w3, w4, w5, .int sc, .ref q5, .int al])), (q1, .inl (c1, 9, .inl f1)), (q2, .inl (c2, 9, .inl f2))]) [2, 3, 4, 5] rfl
          have hKc := hK.sub (tys' := [(c1, .int), (c2, .int)]) [1, 2] rfl
          have hDc := hD.sub (ws' := [(sh0, .inr (3, [.int pl, .int lst])), (ah, .inr (4, [.int sh, .ref q1, .ref q2, w3, w4, w5, .int sc, .ref q5, .int al])), (q1, .inl (c1, 9, .inl f1)), (q2, .inl (c2, 9, .inl f2))]) [2, 3, 4, 5] (by decide) rfl
          have hFc := va_free (wc := [(sh0, .inr (3, [.int pl, .int lst])), (ah, .inr (4, [.int sh, .ref q1, .ref q2, w3, w4, w5, .int sc, .ref q5, .int al])), (q1, .inl (c1, 9, .inl f1)), (q2, .inl (c2, 9, .inl f2))]) hD hS hA [2, 3, 4, 5] rfl
          refine va_callv (va_runV (As := [.ref ah, .int a, .long 0, .long n_13]) (rest := []) ⟨hx, hb, hml, hown, hts⟩ (r_seek l dC dI ad sh0 ah a 0 n_13 pl lst (.int sh) q1 q2 w3 w4 w5 (.int sc) (.ref q5) al c1 f1 c2 f2 s.heap.size (by first | omega | decide | (simp only [fa_lt, fa_le, fa_eq, and_true, true_and, and_false, false_and, not_true_eq_false, not_false_eq_true, li_0, li_1, li_2, li_3, li_4, li_5, li_6, li_7, li_8, li_9, li_10, li_12, li_15, li_16, li_20, li_30, li_34, li_38, li_40, li_63, li_64, li_65, li_78, li_120, li_1000, li_4000, li_10000, li_11077, li_255, li_65535, li_m1, li_m2, li_m1000000001, li_m1000000002, li_m1000000003, li_m1000000004, li_m1000000005, li_m1000000006, li_m1000000007, or_true, true_or, or_false, false_or, implies_true, true_implies, false_implies] <;> omega))) (cwV 4 hts g_x_nearest_r_seek_174 rfl rfl rfl (by decide +kernel) ⟨(Nat.le_of_ble_eq_true rfl), (Nat.le_of_ble_eq_true rfl)⟩) ⟨preM_blind, va_recv hKc hPc (ci := 3) (q0 := 0) rfl rfl, fun U hU hW => ⟨rfl, preM_at hU hW hPc hKc hDc hev⟩⟩ rfl rfl hl.1 rfl (lv_room (Nat.le_of_ble_eq_true rfl)) dX8_nearest_57 ⟨(Nat.le_of_ble_eq_true rfl), (Nat.le_of_ble_eq_true rfl)⟩) hS (fun q _ h => hFc q h) hFc (fun u t H1 locs ht hvm hw hB hz1 hk1 hS => ?_)
          obtain ⟨pl_15, lst_16, hP1, hK1, hD1⟩ := hB
          rw [ht] at hP1
          have hK1 := va_K.moved hvm.symm hK1
          obtain ⟨hP, hD⟩ := va_join (wr := [(h0, .inr (6, [.ref ah, v1, .ref sh0, v3, v4, v5, .ref t0, v7])), (t0, .inl (tc, 7, .inl tf)), (q5, .inl (c5, 7, .inr (.inl f5)))]) (w1 := [(sh0, .inr (3, [.int pl_15, .int lst_16])), (ah, .inr (4, [.int sh, .ref q1, .ref q2, w3, w4, w5, .int sc, .ref q5, .int al])), (q1, .inl (c1, 9, .inl f1)), (q2, .inl (c2, 9, .inl f2))]) hP hD [2, 3, 4, 5] [0, 1, 6] rfl rfl (by decide) (by decide) hk1 hFc hP1 hD1
          generalize H1 = H at hP hS ⊢
          have hP : va_P (dC, dI) vwCl [(h0, .inr (6, [.ref ah, v1, .ref sh0, v3, v4, v5, .ref t0, v7])), (t0, .inl (tc, 7, .inl tf)), (q5, .inl (c5, 7, .inr (.inl f5))), (sh0, .inr (3, [.int pl_15, .int lst_16])), (ah, .inr (4, [.int sh, .ref q1, .ref q2, w3, w4, w5, .int sc, .ref q5, .int al])), (q1, .inl (c1, 9, .inl f1)), (q2, .inl (c2, 9, .inl f2))] H := hP
          have hD : va_D A [(h0, .inr (6, [.ref ah, v1, .ref sh0, v3, v4, v5, .ref t0, v7])), (t0, .inl (tc, 7, .inl tf)), (q5, .inl (c5, 7, .inr (.inl f5))), (sh0, .inr (3, [.int pl_15, .int lst_16])), (ah, .inr (4, [.int sh, .ref q1, .ref q2, w3, w4, w5, .int sc, .ref q5, .int al])), (q1, .inl (c1, 9, .inl f1)), (q2, .inl (c2, 9, .inl f2))] := hD
          refine lv_iload_n hx hb dX8_nearest_60 rfl (lv_at hl 3 rfl) ?_
          refine lv_if_ne (tgt := 74) hx hb dX8_nearest_61 (by decide) (fun c_17 => ?_) (fun c_17 => ?_)
          · skip
            have tc_17 : ¬ a3.toInt = 0 := fun h => c_17 ((fa_eq _ _).mpr h)
            refine lv_aload_n hx hb dX8_nearest_74 rfl (lv_at hl 0 rfl) ?_
            refine va_get (D := (dC, dI)) (ci := 6) (v := .ref sh0) (C := RX8) (T := TX8) (N := 8) hx hb hts inX8 hown hK hP 0 rfl rfl 2 (by decide) (hts _ (List.mem_of_getElem? (i := 20) rfl)) (fun _ h9 => h9) rfl dX8_nearest_75 ?_
            refine va_getN (D := (dC, dI)) (ci := 3) (v := .int lst_16) (C := RX5) (T := TX5) (N := 2) hx hb hts inX5 hown hK hP 3 rfl rfl 1 (by decide) (ev_nest hev 13 rfl) (fun _ h9 => h9) rfl dX8_nearest_78 ?_
            have hP9 := hP.sub (ws' := [(h0, .inr (6, [.ref ah, v1, .ref sh0, v3, v4, v5, .ref t0, v7])), (t0, .inl (tc, 7, .inl tf)), (sh0, .inr (3, [.int pl_15, .int lst_16])), (ah, .inr (4, [.int sh, .ref q1, .ref q2, w3, w4, w5, .int sc, .ref q5, .int al])), (q1, .inl (c1, 9, .inl f1)), (q2, .inl (c2, 9, .inl f2)), (q5, .inl (c5, 7, .inr (.inl f5)))]) [0, 1, 3, 4, 5, 6, 2] rfl
            have hD9 := hD.sub (ws' := [(h0, .inr (6, [.ref ah, v1, .ref sh0, v3, v4, v5, .ref t0, v7])), (t0, .inl (tc, 7, .inl tf)), (sh0, .inr (3, [.int pl_15, .int lst_16])), (ah, .inr (4, [.int sh, .ref q1, .ref q2, w3, w4, w5, .int sc, .ref q5, .int al])), (q1, .inl (c1, 9, .inl f1)), (q2, .inl (c2, 9, .inl f2)), (q5, .inl (c5, 7, .inr (.inl f5)))]) [0, 1, 3, 4, 5, 6, 2] (by decide) rfl
            have hK9 := hK.sub (tys' := [(tc, .int), (c1, .int), (c2, .int), (c5, .long)]) [0, 1, 2, 3] rfl
            exact W.iret (v := lst_16) hx hb hr (fun t ht hW => ⟨⟨lst_16, (), rfl, trivial, tf, pl_15, lst_16, by rw [ht]; exact hP9, va_K.moved hW.alike hK9, hD9⟩, hS.F ht⟩) hS.2.2 dX8_nearest_81
          · skip
            have tc_17 : a3.toInt = 0 := (fa_eq _ _).mp c_17
            refine lv_aload_n hx hb dX8_nearest_64 rfl (lv_at hl 0 rfl) ?_
            refine va_get (D := (dC, dI)) (ci := 6) (v := .ref sh0) (C := RX8) (T := TX8) (N := 8) hx hb hts inX8 hown hK hP 0 rfl rfl 2 (by decide) (hts _ (List.mem_of_getElem? (i := 20) rfl)) (fun _ h9 => h9) rfl dX8_nearest_65 ?_
            refine va_getN (D := (dC, dI)) (ci := 3) (v := .int pl_15) (C := RX5) (T := TX5) (N := 2) hx hb hts inX5 hown hK hP 3 rfl rfl 0 (by decide) (ev_nest hev 12 rfl) (fun _ h9 => h9) rfl dX8_nearest_68 ?_
            refine lv_goto (tgt := 81) hx hb dX8_nearest_71 (by decide) ?_
            have hP9 := hP.sub (ws' := [(h0, .inr (6, [.ref ah, v1, .ref sh0, v3, v4, v5, .ref t0, v7])), (t0, .inl (tc, 7, .inl tf)), (sh0, .inr (3, [.int pl_15, .int lst_16])), (ah, .inr (4, [.int sh, .ref q1, .ref q2, w3, w4, w5, .int sc, .ref q5, .int al])), (q1, .inl (c1, 9, .inl f1)), (q2, .inl (c2, 9, .inl f2)), (q5, .inl (c5, 7, .inr (.inl f5)))]) [0, 1, 3, 4, 5, 6, 2] rfl
            have hD9 := hD.sub (ws' := [(h0, .inr (6, [.ref ah, v1, .ref sh0, v3, v4, v5, .ref t0, v7])), (t0, .inl (tc, 7, .inl tf)), (sh0, .inr (3, [.int pl_15, .int lst_16])), (ah, .inr (4, [.int sh, .ref q1, .ref q2, w3, w4, w5, .int sc, .ref q5, .int al])), (q1, .inl (c1, 9, .inl f1)), (q2, .inl (c2, 9, .inl f2)), (q5, .inl (c5, 7, .inr (.inl f5)))]) [0, 1, 3, 4, 5, 6, 2] (by decide) rfl
            have hK9 := hK.sub (tys' := [(tc, .int), (c1, .int), (c2, .int), (c5, .long)]) [0, 1, 2, 3] rfl
            exact W.iret (v := pl_15) hx hb hr (fun t ht hW => ⟨⟨pl_15, (), rfl, trivial, tf, pl_15, lst_16, by rw [ht]; exact hP9, va_K.moved hW.alike hK9, hD9⟩, hS.F ht⟩) hS.2.2 dX8_nearest_81
        · skip
          have tc_12 : ¬ a3.toInt ≤ 1 := fun h => c_12 ((fa_le _ _).mpr h)
          refine lv_aload_n hx hb dX8_nearest_31 rfl (lv_at hl 0 rfl) ?_
          refine lv_ldc hx hb hown (hts _ (List.mem_of_getElem? (i := 8) rfl)) dX8_nearest_32 ?_
          have hPc := hP.sub (ws' := [(h0, .inr (6, [.ref ah, v1, .ref sh0, v3, v4, v5, .ref t0, v7])), (t0, .inl (tc, 7, .inl tf))]) [0, 1] rfl
          have hKc := hK.sub (tys' := [(tc, .int)]) [0] rfl
          have hDc := hD.sub (ws' := [(h0, .inr (6, [.ref ah, v1, .ref sh0, v3, v4, v5, .ref t0, v7])), (t0, .inl (tc, 7, .inl tf))]) [0, 1] (by decide) rfl
          have hFc := va_free (wc := [(h0, .inr (6, [.ref ah, v1, .ref sh0, v3, v4, v5, .ref t0, v7])), (t0, .inl (tc, 7, .inl tf))]) hD hS hA [0, 1] rfl
          refine va_calli (va_runV (As := [.int (-1000000001)]) (rest := []) ⟨hx, hb, hml, hown, hts⟩ (f_beyond l dC dI ad h0 (.ref ah) v1 (.ref sh0) v3 v4 v5 t0 v7 tc tf s.heap.size ) (cwV 1 hts g_x_nearest_f_beyond_63 rfl rfl rfl (by decide +kernel) ⟨(Nat.le_of_ble_eq_true rfl), (Nat.le_of_ble_eq_true rfl)⟩) ⟨preM_blind, va_recv hKc hPc (ci := 6) (q0 := 0) rfl rfl, fun U hU hW => ⟨rfl, preM_at hU hW hPc hKc hDc hev⟩⟩ rfl rfl hl.1 rfl (lv_room (Nat.le_of_ble_eq_true rfl)) dX8_nearest_34 ⟨(Nat.le_of_ble_eq_true rfl), (Nat.le_of_ble_eq_true rfl)⟩) hS (fun q _ h => hFc q h) hFc (fun r_18 u t H1 locs ht hvm hw hB hz1 hk1 hS => ?_)
          obtain ⟨tg_19, hP1, hK1, hD1⟩ := hB
          rw [ht] at hP1
          have hK1 := va_K.moved hvm.symm hK1
          obtain ⟨hP, hD⟩ := va_join (wr := [(sh0, .inr (3, [.int pl, .int lst])), (ah, .inr (4, [.int sh, .ref q1, .ref q2, w3, w4, w5, .int sc, .ref q5, .int al])), (q1, .inl (c1, 9, .inl f1)), (q2, .inl (c2, 9, .inl f2)), (q5, .inl (c5, 7, .inr (.inl f5)))]) (w1 := [(h0, .inr (6, [.ref ah, v1, .ref sh0, v3, v4, v5, .ref t0, v7])), (t0, .inl (tc, 7, .inl tg_19))]) hP hD [0, 1] [2, 3, 4, 5, 6] rfl rfl (by decide) (by decide) hk1 hFc hP1 hD1
          generalize H1 = H at hP hS ⊢
          have hP : va_P (dC, dI) vwCl [(sh0, .inr (3, [.int pl, .int lst])), (ah, .inr (4, [.int sh, .ref q1, .ref q2, w3, w4, w5, .int sc, .ref q5, .int al])), (q1, .inl (c1, 9, .inl f1)), (q2, .inl (c2, 9, .inl f2)), (q5, .inl (c5, 7, .inr (.inl f5))), (h0, .inr (6, [.ref ah, v1, .ref sh0, v3, v4, v5, .ref t0, v7])), (t0, .inl (tc, 7, .inl tg_19))] H := hP
          have hD : va_D A [(sh0, .inr (3, [.int pl, .int lst])), (ah, .inr (4, [.int sh, .ref q1, .ref q2, w3, w4, w5, .int sc, .ref q5, .int al])), (q1, .inl (c1, 9, .inl f1)), (q2, .inl (c2, 9, .inl f2)), (q5, .inl (c5, 7, .inr (.inl f5))), (h0, .inr (6, [.ref ah, v1, .ref sh0, v3, v4, v5, .ref t0, v7])), (t0, .inl (tc, 7, .inl tg_19))] := hD
          subst hw
          have hP9 := hP.sub (ws' := [(h0, .inr (6, [.ref ah, v1, .ref sh0, v3, v4, v5, .ref t0, v7])), (t0, .inl (tc, 7, .inl tg_19)), (sh0, .inr (3, [.int pl, .int lst])), (ah, .inr (4, [.int sh, .ref q1, .ref q2, w3, w4, w5, .int sc, .ref q5, .int al])), (q1, .inl (c1, 9, .inl f1)), (q2, .inl (c2, 9, .inl f2)), (q5, .inl (c5, 7, .inr (.inl f5)))]) [5, 6, 0, 1, 2, 3, 4] rfl
          have hD9 := hD.sub (ws' := [(h0, .inr (6, [.ref ah, v1, .ref sh0, v3, v4, v5, .ref t0, v7])), (t0, .inl (tc, 7, .inl tg_19)), (sh0, .inr (3, [.int pl, .int lst])), (ah, .inr (4, [.int sh, .ref q1, .ref q2, w3, w4, w5, .int sc, .ref q5, .int al])), (q1, .inl (c1, 9, .inl f1)), (q2, .inl (c2, 9, .inl f2)), (q5, .inl (c5, 7, .inr (.inl f5)))]) [5, 6, 0, 1, 2, 3, 4] (by decide) rfl
          have hK9 := hK.sub (tys' := [(tc, .int), (c1, .int), (c2, .int), (c5, .long)]) [0, 1, 2, 3] rfl
          exact W.iret (v := ((-1000000001) : Int32)) hx hb hr (fun t ht hW => ⟨⟨((-1000000001) : Int32), (), rfl, trivial, tg_19, pl, lst, by rw [ht]; exact hP9, va_K.moved hW.alike hK9, hD9⟩, hS.F ht⟩) hS.2.2 dX8_nearest_37

def w_x_fits : List Cond := .code yX8_fits cX8_fits 3 (some .int) :: (([.fieldLink RX8 10 "LampShapes" "now" "LLampShapes$Stage;", .methodLink RX8 76 yX6_hasShape, .instanceMethod yX6_hasShape, .selects RX6 yX6_hasShape yX6_hasShape, .initialized RX6, .code yX6_hasShape cX6_hasShape 2 (some .boolean), .fieldLink RX6 9 "LampShapes$Stage" "shapes" "I", .constant RX8 62 (-1000000001), .methodLink RX8 63 yX8_finding, .instanceMethod yX8_finding, .selects RX8 yX8_finding yX8_finding, .initialized RX8, .code yX8_finding cX8_finding 3 (some .int), .fieldLink RX8 46 "LampShapes" "told" "[I", .methodLink RX8 157 yX6_hasScene, .instanceMethod yX6_hasScene, .selects RX6 yX6_hasScene yX6_hasScene, .code yX6_hasScene cX6_hasScene 2 (some .boolean), .fieldLink RX6 31 "LampShapes$Stage" "scenes" "I", .fieldLink RX8 22 "LampShapes" "search" "LLampShapes$Search;", .methodLink RX8 200 yX5_placingsWithin, .instanceMethod yX5_placingsWithin, .selects RX5 yX5_placingsWithin yX5_placingsWithin, .initialized RX5, .code yX5_placingsWithin cX5_placingsWithin 7 (some .int), .methodLink RX5 18 yX6_isAllowed, .instanceMethod yX6_isAllowed, .selects RX6 yX6_isAllowed yX6_isAllowed, .code yX6_isAllowed cX6_isAllowed 4 (some .boolean), .fieldLink RX6 38 "LampShapes$Stage" "allowed" "I", .methodLink RX5 24 yX6_cornerBy, .instanceMethod yX6_cornerBy, .selects RX6 yX6_cornerBy yX6_cornerBy, .code yX6_cornerBy cX6_cornerBy 4 (some .long), .fieldLink RX6 15 "LampShapes$Stage" "kinds" "[I", .fieldLink RX6 19 "LampShapes$Stage" "points" "[I", .methodLink RX6 47 yX0_pointsBy, .static yX0_pointsBy, .initialized RX0, .code yX0_pointsBy cX0_pointsBy 3 (some .int), .methodLink RX0 15 yX0_turnedBy, .static yX0_turnedBy, .code yX0_turnedBy cX0_turnedBy 6 (some .int), .methodLink RX0 19 yX0_mirroredBy, .static yX0_mirroredBy, .code yX0_mirroredBy cX0_mirroredBy 2 (some .int), .constant RX0 31 (34952), .methodLink RX0 22 yX0_hollowed, .static yX0_hollowed, .code yX0_hollowed cX0_hollowed 5 (some .int), .constant RX0 32 (61166), .methodLink RX0 25 yX0_doubled, .static yX0_doubled, .code yX0_doubled cX0_doubled 1 (some .int), .constant RX0 33 (65535), .methodLink RX0 28 yX0_filled, .static yX0_filled, .code yX0_filled cX0_filled 6 (some .int), .methodLink RX6 53 yX1_cellsAtCorner, .static yX1_cellsAtCorner, .initialized RX1, .code yX1_cellsAtCorner cX1_cellsAtCorner 8 (some .long), .constantLong RX1 9 (771), .methodLink RX5 68 yX5_placesWithin, .static yX5_placesWithin, .code yX5_placesWithin cX5_placesWithin 9 (some .int), .methodLink RX5 32 yX1_moved, .static yX1_moved, .code yX1_moved cX1_moved 6 (some .long), .constantLong RX1 13 (72340172838076673), .constantLong RX5 71 (-1)] : List Cond) ++ wsX80 ++ wsX60)
set_option maxRecDepth 20000 in
theorem g_x_fits_s_hasShape_76 : GoodIn w_x_fits (wsV RX8 76 RX6 yX6_hasShape w_s_hasShape) := goodIn_r _ [2, 3, 4, 5, 6, 7, 80, 81, 82, 83, 84, 85, 86, 87, 88] rfl (by decide +kernel)
set_option maxRecDepth 20000 in
theorem g_x_fits_f_beyond_63 : GoodIn w_x_fits (wsV RX8 63 RX8 yX8_finding w_f_beyond) := goodIn_r _ [9, 10, 11, 12, 13, 8, 14, 72, 73, 74, 75, 76, 77, 78, 79] rfl (by decide +kernel)
set_option maxRecDepth 20000 in
theorem g_x_fits_s_hasScene_157 : GoodIn w_x_fits (wsV RX8 157 RX6 yX6_hasScene w_s_hasScene) := goodIn_r _ [15, 16, 17, 5, 18, 19, 80, 81, 82, 83, 84, 85, 86, 87, 88] rfl (by decide +kernel)
set_option maxRecDepth 20000 in
theorem g_x_fits_r_placingsWithin_200 : GoodIn w_x_fits (wsV RX8 200 RX5 yX5_placingsWithin w_r_placingsWithin) := goodIn_r _ [21, 22, 23, 24, 25, 26, 27, 28, 5, 29, 30, 31, 32, 33, 34, 35, 36, 37, 38, 39, 40, 41, 42, 43, 44, 45, 46, 47, 48, 49, 50, 51, 52, 53, 54, 55, 56, 57, 58, 59, 60, 61, 62, 63, 64, 65, 24, 66, 67, 68, 69, 70, 71, 80, 81, 82, 83, 84, 85, 86, 87, 88] rfl (by decide +kernel)
set_option maxHeartbeats 4000000 in
set_option maxRecDepth 100000 in
theorem x_fits (l : Launch) (dC : Nat → ClassId) (dI : Nat → Nat → Nat) (ad : Nat → Nat) (h0 : Nat) (a : Int32) (b : Int32) (ah : Nat) (v1 : Value) (sh0 : Nat) (v3 : Value) (v4 : Value) (v5 : Value) (t0 : Nat) (v7 : Value) (tc : ClassId) (tf : Nat → Int32) (pl : Int32) (lst : Int32) (sh : Int32) (q1 : Nat) (q2 : Nat) (w3 : Value) (w4 : Value) (w5 : Value) (sc : Int32) (q5 : Nat) (al : Int32) (c1 : ClassId) (f1 : Nat → Int32) (c2 : ClassId) (f2 : Nat → Int32) (c5 : ClassId) (f5 : Nat → Int64) (sz : Nat) (hsh : 0 ≤ sh.toInt ∧ sh.toInt ≤ 9) (hsc : 0 ≤ sc.toInt ∧ sc.toInt ≤ 7) : Met l yX8_fits w_x_fits ({ frames := 4, cells := 0, slots := 0, locals := 96 } : Room) (va_Pc [.ref h0, .int a, .int b] (preM dC dI ad [(tc, .int), (c1, .int), (c2, .int), (c5, .long)] [(h0, .inr (6, [.ref ah, v1, .ref sh0, v3, v4, v5, .ref t0, v7])), (t0, .inl (tc, 7, .inl tf)), (sh0, .inr (3, [.int pl, .int lst])), (ah, .inr (4, [.int sh, .ref q1, .ref q2, w3, w4, w5, .int sc, .ref q5, .int al])), (q1, .inl (c1, 9, .inl f1)), (q2, .inl (c2, 9, .inl f2)), (q5, .inl (c5, 7, .inr (.inl f5)))] sz)) (va_Qi (fun (r : Int32) (_ : Unit) => True) (fun _ t => ∃ (tg : Nat → Int32), va_P (dC, dI) vwCl [(h0, .inr (6, [.ref ah, v1, .ref sh0, v3, v4, v5, .ref t0, v7])), (t0, .inl (tc, 7, .inl tg)), (sh0, .inr (3, [.int pl, .int lst])), (ah, .inr (4, [.int sh, .ref q1, .ref q2, w3, w4, w5, .int sc, .ref q5, .int al])), (q1, .inl (c1, 9, .inl f1)), (q2, .inl (c2, 9, .inl f2)), (q5, .inl (c5, 7, .inr (.inl f5)))] t.heap ∧ va_K (dC, dI) vwCl [(tc, .int), (c1, .int), (c2, .int), (c5, .long)] t ∧ va_D (va_A [(h0, .inr (6, [.ref ah, v1, .ref sh0, v3, v4, v5, .ref t0, v7])), (t0, .inl (tc, 7, .inl tf)), (sh0, .inr (3, [.int pl, .int lst])), (ah, .inr (4, [.int sh, .ref q1, .ref q2, w3, w4, w5, .int sc, .ref q5, .int al])), (q1, .inl (c1, 9, .inl f1)), (q2, .inl (c2, 9, .inl f2)), (q5, .inl (c5, 7, .inr (.inl f5)))] sz) [(h0, .inr (6, [.ref ah, v1, .ref sh0, v3, v4, v5, .ref t0, v7])), (t0, .inl (tc, 7, .inl tg)), (sh0, .inr (3, [.int pl, .int lst])), (ah, .inr (4, [.int sh, .ref q1, .ref q2, w3, w4, w5, .int sc, .ref q5, .int al])), (q1, .inl (c1, 9, .inl f1)), (q2, .inl (c2, 9, .inl f2)), (q5, .inl (c5, 7, .inr (.inl f5)))]) (va_A [(h0, .inr (6, [.ref ah, v1, .ref sh0, v3, v4, v5, .ref t0, v7])), (t0, .inl (tc, 7, .inl tf)), (sh0, .inr (3, [.int pl, .int lst])), (ah, .inr (4, [.int sh, .ref q1, .ref q2, w3, w4, w5, .int sc, .ref q5, .int al])), (q1, .inl (c1, 9, .inl f1)), (q2, .inl (c2, 9, .inl f2)), (q5, .inl (c5, 7, .inr (.inl f5)))] sz)) 0 0 (va_A [(h0, .inr (6, [.ref ah, v1, .ref sh0, v3, v4, v5, .ref t0, v7])), (t0, .inl (tc, 7, .inl tf)), (sh0, .inr (3, [.int pl, .int lst])), (ah, .inr (4, [.int sh, .ref q1, .ref q2, w3, w4, w5, .int sc, .ref q5, .int al])), (q1, .inl (c1, 9, .inl f1)), (q2, .inl (c2, 9, .inl f2)), (q5, .inl (c5, 7, .inr (.inl f5)))] sz) := by
  refine Met.ofW (cc := cX8_fits) (maxL := 3) (ret := (some .int)) (by decide) rfl ?_
  intro p e s m args below meth c s₁ B hml hv
  obtain ⟨rfl, hsz, hP, hK, hD0, hev⟩ := hv
  have hx := B.exec
  have hb := B.bytes
  have hr := B.returns
  have hts := atoms_spec (ws := w_x_fits) B.pre
  have hown : s.vm.findClass RX8 = some m.cls := findClass_of_methodNamed B.named
  have hlocks := B.notSynchronized
  have inX8 : ∀ w ∈ wsX80, w ∈ w_x_fits := fun w h => List.mem_cons_of_mem _ (List.mem_append_left _ (List.mem_append_right _ h))
  have inX6 : ∀ w ∈ wsX60, w ∈ w_x_fits := fun w h => List.mem_cons_of_mem _ (List.mem_append_right _ h)
  subst hsz
  have hD := hD0.self (sz := s.heap.size)
  generalize hAe : va_A [(h0, .inr (6, [.ref ah, v1, .ref sh0, v3, v4, v5, .ref t0, v7])), (t0, .inl (tc, 7, .inl tf)), (sh0, .inr (3, [.int pl, .int lst])), (ah, .inr (4, [.int sh, .ref q1, .ref q2, w3, w4, w5, .int sc, .ref q5, .int al])), (q1, .inl (c1, 9, .inl f1)), (q2, .inl (c2, 9, .inl f2)), (q5, .inl (c5, 7, .inr (.inl f5)))] s.heap.size = A at hD ⊢
  have hA : ∀ q : Nat, s.heap.size ≤ q → A q := fun q h => by rw [← hAe]; exact Or.inr h
  have hS : va_S A s.heap s.heap [] := va_S.rf
  have hP : va_P (dC, dI) vwCl [(h0, .inr (6, [.ref ah, v1, .ref sh0, v3, v4, v5, .ref t0, v7])), (t0, .inl (tc, 7, .inl tf)), (sh0, .inr (3, [.int pl, .int lst])), (ah, .inr (4, [.int sh, .ref q1, .ref q2, w3, w4, w5, .int sc, .ref q5, .int al])), (q1, .inl (c1, 9, .inl f1)), (q2, .inl (c2, 9, .inl f2)), (q5, .inl (c5, 7, .inr (.inl f5)))] s.heap := hP
  have hl := lv_entry ([.ref h0, .int a, .int b]) (n := 3) (Nat.le_of_ble_eq_true rfl)
  rw [lg_entry_eq]
  generalize (lg_sl ([.ref h0, .int a, .int b]) ++ List.replicate (3 - (lg_sl ([.ref h0, .int a, .int b])).length) Slot.unset).toArray = ls at hl ⊢
  have hl : lv_has ls 3 [(0, .ref h0), (1, .int a), (2, .int b)] := hl
  refine lv_aload_n hx hb dX8_fits_0 rfl (lv_at hl 0 rfl) ?_
  refine va_get (D := (dC, dI)) (ci := 6) (v := .ref ah) (C := RX8) (T := TX8) (N := 8) hx hb hts inX8 hown hK hP 0 rfl rfl 0 (by decide) (hts _ (List.mem_of_getElem? (i := 1) rfl)) (fun _ h9 => h9) rfl dX8_fits_1 ?_
  refine lv_iload_n hx hb dX8_fits_4 rfl (lv_at hl 1 rfl) ?_
  have hPc := hP.sub (ws' := [(ah, .inr (4, [.int sh, .ref q1, .ref q2, w3, w4, w5, .int sc, .ref q5, .int al]))]) [3] rfl
  have hKc := hK.sub (tys' := []) [] rfl
  refine vp_callSi (W.runV (As := [.int a]) (rest := []) ⟨hx, hb, hml, hown, hts⟩ (s_hasShape l dC dI ad ah a sh (.ref q1) (.ref q2) w3 w4 w5 (.int sc) (.ref q5) (.int al) ) (cwV 1 hts g_x_fits_s_hasShape_76 rfl rfl rfl (by decide +kernel) ⟨(Nat.le_of_ble_eq_true rfl), (Nat.le_of_ble_eq_true rfl)⟩) ⟨preS_blind, va_recv hKc hPc (ci := 4) (q0 := 0) rfl rfl, fun U hU hW => ⟨rfl, preS_at hU hW hPc hKc hev⟩⟩ rfl rfl hl.1 rfl (lv_room (Nat.le_of_ble_eq_true rfl)) dX8_fits_5 ⟨(Nat.le_of_ble_eq_true rfl), (Nat.le_of_ble_eq_true rfl)⟩) (fun r_1 hw => ?_)
  have hr_1 : (r_1.toInt = 1 ∧ 0 ≤ a.toInt ∧ a.toInt < sh.toInt) ∨ r_1.toInt = 0 := hw
  refine lv_if_eq (tgt := 22) hx hb dX8_fits_8 (by decide) (fun c_2 => ?_) (fun c_2 => ?_)
  · skip
    have tc_2 : r_1.toInt = 0 := (fa_eq _ _).mp c_2
    refine lv_aload_n hx hb dX8_fits_22 rfl (lv_at hl 0 rfl) ?_
    refine lv_ldc hx hb hown (hts _ (List.mem_of_getElem? (i := 8) rfl)) dX8_fits_23 ?_
    have hPc := hP.sub (ws' := [(h0, .inr (6, [.ref ah, v1, .ref sh0, v3, v4, v5, .ref t0, v7])), (t0, .inl (tc, 7, .inl tf))]) [0, 1] rfl
    have hKc := hK.sub (tys' := [(tc, .int)]) [0] rfl
    have hDc := hD.sub (ws' := [(h0, .inr (6, [.ref ah, v1, .ref sh0, v3, v4, v5, .ref t0, v7])), (t0, .inl (tc, 7, .inl tf))]) [0, 1] (by decide) rfl
    have hFc := va_free (wc := [(h0, .inr (6, [.ref ah, v1, .ref sh0, v3, v4, v5, .ref t0, v7])), (t0, .inl (tc, 7, .inl tf))]) hD hS hA [0, 1] rfl
    refine va_calli (va_runV (As := [.int (-1000000001)]) (rest := []) ⟨hx, hb, hml, hown, hts⟩ (f_beyond l dC dI ad h0 (.ref ah) v1 (.ref sh0) v3 v4 v5 t0 v7 tc tf s.heap.size ) (cwV 1 hts g_x_fits_f_beyond_63 rfl rfl rfl (by decide +kernel) ⟨(Nat.le_of_ble_eq_true rfl), (Nat.le_of_ble_eq_true rfl)⟩) ⟨preM_blind, va_recv hKc hPc (ci := 6) (q0 := 0) rfl rfl, fun U hU hW => ⟨rfl, preM_at hU hW hPc hKc hDc hev⟩⟩ rfl rfl hl.1 rfl (lv_room (Nat.le_of_ble_eq_true rfl)) dX8_fits_25 ⟨(Nat.le_of_ble_eq_true rfl), (Nat.le_of_ble_eq_true rfl)⟩) hS (fun q _ h => hFc q h) hFc (fun r_3 u t H1 locs ht hvm hw hB hz1 hk1 hS => ?_)
    obtain ⟨tg_4, hP1, hK1, hD1⟩ := hB
    rw [ht] at hP1
    have hK1 := va_K.moved hvm.symm hK1
    obtain ⟨hP, hD⟩ := va_join (wr := [(sh0, .inr (3, [.int pl, .int lst])), (ah, .inr (4, [.int sh, .ref q1, .ref q2, w3, w4, w5, .int sc, .ref q5, .int al])), (q1, .inl (c1, 9, .inl f1)), (q2, .inl (c2, 9, .inl f2)), (q5, .inl (c5, 7, .inr (.inl f5)))]) (w1 := [(h0, .inr (6, [.ref ah, v1, .ref sh0, v3, v4, v5, .ref t0, v7])), (t0, .inl (tc, 7, .inl tg_4))]) hP hD [0, 1] [2, 3, 4, 5, 6] rfl rfl (by decide) (by decide) hk1 hFc hP1 hD1
    generalize H1 = H at hP hS ⊢
    have hP : va_P (dC, dI) vwCl [(sh0, .inr (3, [.int pl, .int lst])), (ah, .inr (4, [.int sh, .ref q1, .ref q2, w3, w4, w5, .int sc, .ref q5, .int al])), (q1, .inl (c1, 9, .inl f1)), (q2, .inl (c2, 9, .inl f2)), (q5, .inl (c5, 7, .inr (.inl f5))), (h0, .inr (6, [.ref ah, v1, .ref sh0, v3, v4, v5, .ref t0, v7])), (t0, .inl (tc, 7, .inl tg_4))] H := hP
    have hD : va_D A [(sh0, .inr (3, [.int pl, .int lst])), (ah, .inr (4, [.int sh, .ref q1, .ref q2, w3, w4, w5, .int sc, .ref q5, .int al])), (q1, .inl (c1, 9, .inl f1)), (q2, .inl (c2, 9, .inl f2)), (q5, .inl (c5, 7, .inr (.inl f5))), (h0, .inr (6, [.ref ah, v1, .ref sh0, v3, v4, v5, .ref t0, v7])), (t0, .inl (tc, 7, .inl tg_4))] := hD
    subst hw
    have hP9 := hP.sub (ws' := [(h0, .inr (6, [.ref ah, v1, .ref sh0, v3, v4, v5, .ref t0, v7])), (t0, .inl (tc, 7, .inl tg_4)), (sh0, .inr (3, [.int pl, .int lst])), (ah, .inr (4, [.int sh, .ref q1, .ref q2, w3, w4, w5, .int sc, .ref q5, .int al])), (q1, .inl (c1, 9, .inl f1)), (q2, .inl (c2, 9, .inl f2)), (q5, .inl (c5, 7, .inr (.inl f5)))]) [5, 6, 0, 1, 2, 3, 4] rfl
    have hD9 := hD.sub (ws' := [(h0, .inr (6, [.ref ah, v1, .ref sh0, v3, v4, v5, .ref t0, v7])), (t0, .inl (tc, 7, .inl tg_4)), (sh0, .inr (3, [.int pl, .int lst])), (ah, .inr (4, [.int sh, .ref q1, .ref q2, w3, w4, w5, .int sc, .ref q5, .int al])), (q1, .inl (c1, 9, .inl f1)), (q2, .inl (c2, 9, .inl f2)), (q5, .inl (c5, 7, .inr (.inl f5)))]) [5, 6, 0, 1, 2, 3, 4] (by decide) rfl
    have hK9 := hK.sub (tys' := [(tc, .int), (c1, .int), (c2, .int), (c5, .long)]) [0, 1, 2, 3] rfl
    exact W.iret (v := ((-1000000001) : Int32)) hx hb hr (fun t ht hW => ⟨⟨((-1000000001) : Int32), (), rfl, trivial, tg_4, by rw [ht]; exact hP9, va_K.moved hW.alike hK9, hD9⟩, hS.F ht⟩) hS.2.2 dX8_fits_28
  · skip
    have tc_2 : ¬ r_1.toInt = 0 := fun h => c_2 ((fa_eq _ _).mpr h)
    refine lv_aload_n hx hb dX8_fits_11 rfl (lv_at hl 0 rfl) ?_
    refine va_get (D := (dC, dI)) (ci := 6) (v := .ref ah) (C := RX8) (T := TX8) (N := 8) hx hb hts inX8 hown hK hP 0 rfl rfl 0 (by decide) (hts _ (List.mem_of_getElem? (i := 1) rfl)) (fun _ h9 => h9) rfl dX8_fits_12 ?_
    refine lv_iload_n hx hb dX8_fits_15 rfl (lv_at hl 2 rfl) ?_
    have hPc := hP.sub (ws' := [(ah, .inr (4, [.int sh, .ref q1, .ref q2, w3, w4, w5, .int sc, .ref q5, .int al]))]) [3] rfl
    have hKc := hK.sub (tys' := []) [] rfl
    refine vp_callSi (W.runV (As := [.int b]) (rest := []) ⟨hx, hb, hml, hown, hts⟩ (s_hasScene l dC dI ad ah b (.int sh) (.ref q1) (.ref q2) w3 w4 w5 sc (.ref q5) (.int al) ) (cwV 1 hts g_x_fits_s_hasScene_157 rfl rfl rfl (by decide +kernel) ⟨(Nat.le_of_ble_eq_true rfl), (Nat.le_of_ble_eq_true rfl)⟩) ⟨preS_blind, va_recv hKc hPc (ci := 4) (q0 := 0) rfl rfl, fun U hU hW => ⟨rfl, preS_at hU hW hPc hKc hev⟩⟩ rfl rfl hl.1 rfl (lv_room (Nat.le_of_ble_eq_true rfl)) dX8_fits_16 ⟨(Nat.le_of_ble_eq_true rfl), (Nat.le_of_ble_eq_true rfl)⟩) (fun r_5 hw => ?_)
    have hr_5 : (r_5.toInt = 1 ∧ 0 ≤ b.toInt ∧ b.toInt < sc.toInt) ∨ r_5.toInt = 0 := hw
    refine lv_if_ne (tgt := 29) hx hb dX8_fits_19 (by decide) (fun c_6 => ?_) (fun c_6 => ?_)
    · skip
      have tc_6 : ¬ r_5.toInt = 0 := fun h => c_6 ((fa_eq _ _).mpr h)
      refine lv_aload_n hx hb dX8_fits_29 rfl (lv_at hl 0 rfl) ?_
      refine va_get (D := (dC, dI)) (ci := 6) (v := .ref sh0) (C := RX8) (T := TX8) (N := 8) hx hb hts inX8 hown hK hP 0 rfl rfl 2 (by decide) (hts _ (List.mem_of_getElem? (i := 20) rfl)) (fun _ h9 => h9) rfl dX8_fits_30 ?_
      refine lv_aload_n hx hb dX8_fits_33 rfl (lv_at hl 0 rfl) ?_
      refine va_get (D := (dC, dI)) (ci := 6) (v := .ref ah) (C := RX8) (T := TX8) (N := 8) hx hb hts inX8 hown hK hP 0 rfl rfl 0 (by decide) (hts _ (List.mem_of_getElem? (i := 1) rfl)) (fun _ h9 => h9) rfl dX8_fits_34 ?_
      refine lv_iload_n hx hb dX8_fits_37 rfl (lv_at hl 1 rfl) ?_
      refine lv_aload_n hx hb dX8_fits_38 rfl (lv_at hl 0 rfl) ?_
      refine va_get (D := (dC, dI)) (ci := 6) (v := .ref ah) (C := RX8) (T := TX8) (N := 8) hx hb hts inX8 hown hK hP 0 rfl rfl 0 (by decide) (hts _ (List.mem_of_getElem? (i := 1) rfl)) (fun _ h9 => h9) rfl dX8_fits_39 ?_
      refine va_getN (D := (dC, dI)) (ci := 4) (v := .ref q5) (C := RX6) (T := TX6) (N := 9) hx hb hts inX6 hown hK hP 3 rfl rfl 7 (by decide) (ev_nest hev 10 rfl) (fun _ h9 => h9) rfl dX8_fits_42 ?_
      refine lv_iload_n hx hb dX8_fits_45 rfl (lv_at hl 2 rfl) ?_
      refine va_lald hx hb hK hP 6 3 rfl rfl (vp_in_iff.mpr ⟨by omega, by omega⟩) dX8_fits_46 ?_
      refine lv_topl (fun n_7 en_7 => ?_)
      clear en_7
      have hPc := hP.sub (ws' := [(sh0, .inr (3, [.int pl, .int lst])), (ah, .inr (4, [.int sh, .ref q1, .ref q2, w3, w4, w5, .int sc, .ref q5, .int al])), (q1, .inl (c1, 9, .inl f1)), (q2, .inl (c2, 9, .inl f2))]) [2, 3, 4, 5] rfl
      have hKc := hK.sub (tys' := [(c1, .int), (c2, .int)]) [1, 2] rfl
      refine vp_callSi (W.runV (As := [.ref ah, .int a, .long n_7]) (rest := []) ⟨hx, hb, hml, hown, hts⟩ (r_placingsWithin l dC dI ad sh0 ah a n_7 pl lst (.int sh) q1 q2 w3 w4 w5 (.int sc) (.ref q5) al c1 f1 c2 f2 (by first | omega | decide | (simp only [fa_lt, fa_le, fa_eq, and_true, true_and, and_false, false_and, not_true_eq_false, not_false_eq_true, li_0, li_1, li_2, li_3, li_4, li_5, li_6, li_7, li_8, li_9, li_10, li_12, li_15, li_16, li_20, li_30, li_34, li_38, li_40, li_63, li_64, li_65, li_78, li_120, li_1000, li_4000, li_10000, li_11077, li_255, li_65535, li_m1, li_m2, li_m1000000001, li_m1000000002, li_m1000000003, li_m1000000004, li_m1000000005, li_m1000000006, li_m1000000007, or_true, true_or, or_false, false_or, implies_true, true_implies, false_implies] <;> omega))) (cwV 3 hts g_x_fits_r_placingsWithin_200 rfl rfl rfl (by decide +kernel) ⟨(Nat.le_of_ble_eq_true rfl), (Nat.le_of_ble_eq_true rfl)⟩) ⟨preS_blind, va_recv hKc hPc (ci := 3) (q0 := 0) rfl rfl, fun U hU hW => ⟨rfl, preS_at hU hW hPc hKc hev⟩⟩ rfl rfl hl.1 rfl (lv_room (Nat.le_of_ble_eq_true rfl)) dX8_fits_47 ⟨(Nat.le_of_ble_eq_true rfl), (Nat.le_of_ble_eq_true rfl)⟩) (fun r_8 hw => ?_)
      have hP9 := hP.sub (ws' := [(h0, .inr (6, [.ref ah, v1, .ref sh0, v3, v4, v5, .ref t0, v7])), (t0, .inl (tc, 7, .inl tf)), (sh0, .inr (3, [.int pl, .int lst])), (ah, .inr (4, [.int sh, .ref q1, .ref q2, w3, w4, w5, .int sc, .ref q5, .int al])), (q1, .inl (c1, 9, .inl f1)), (q2, .inl (c2, 9, .inl f2)), (q5, .inl (c5, 7, .inr (.inl f5)))]) [0, 1, 2, 3, 4, 5, 6] rfl
      have hD9 := hD.sub (ws' := [(h0, .inr (6, [.ref ah, v1, .ref sh0, v3, v4, v5, .ref t0, v7])), (t0, .inl (tc, 7, .inl tf)), (sh0, .inr (3, [.int pl, .int lst])), (ah, .inr (4, [.int sh, .ref q1, .ref q2, w3, w4, w5, .int sc, .ref q5, .int al])), (q1, .inl (c1, 9, .inl f1)), (q2, .inl (c2, 9, .inl f2)), (q5, .inl (c5, 7, .inr (.inl f5)))]) [0, 1, 2, 3, 4, 5, 6] (by decide) rfl
      have hK9 := hK.sub (tys' := [(tc, .int), (c1, .int), (c2, .int), (c5, .long)]) [0, 1, 2, 3] rfl
      exact W.iret (v := r_8) hx hb hr (fun t ht hW => ⟨⟨r_8, (), rfl, trivial, tf, by rw [ht]; exact hP9, va_K.moved hW.alike hK9, hD9⟩, hS.F ht⟩) hS.2.2 dX8_fits_50
    · skip
      have tc_6 : r_5.toInt = 0 := (fa_eq _ _).mp c_6
      refine lv_aload_n hx hb dX8_fits_22 rfl (lv_at hl 0 rfl) ?_
      refine lv_ldc hx hb hown (hts _ (List.mem_of_getElem? (i := 8) rfl)) dX8_fits_23 ?_
      have hPc := hP.sub (ws' := [(h0, .inr (6, [.ref ah, v1, .ref sh0, v3, v4, v5, .ref t0, v7])), (t0, .inl (tc, 7, .inl tf))]) [0, 1] rfl
      have hKc := hK.sub (tys' := [(tc, .int)]) [0] rfl
      have hDc := hD.sub (ws' := [(h0, .inr (6, [.ref ah, v1, .ref sh0, v3, v4, v5, .ref t0, v7])), (t0, .inl (tc, 7, .inl tf))]) [0, 1] (by decide) rfl
      have hFc := va_free (wc := [(h0, .inr (6, [.ref ah, v1, .ref sh0, v3, v4, v5, .ref t0, v7])), (t0, .inl (tc, 7, .inl tf))]) hD hS hA [0, 1] rfl
      refine va_calli (va_runV (As := [.int (-1000000001)]) (rest := []) ⟨hx, hb, hml, hown, hts⟩ (f_beyond l dC dI ad h0 (.ref ah) v1 (.ref sh0) v3 v4 v5 t0 v7 tc tf s.heap.size ) (cwV 1 hts g_x_fits_f_beyond_63 rfl rfl rfl (by decide +kernel) ⟨(Nat.le_of_ble_eq_true rfl), (Nat.le_of_ble_eq_true rfl)⟩) ⟨preM_blind, va_recv hKc hPc (ci := 6) (q0 := 0) rfl rfl, fun U hU hW => ⟨rfl, preM_at hU hW hPc hKc hDc hev⟩⟩ rfl rfl hl.1 rfl (lv_room (Nat.le_of_ble_eq_true rfl)) dX8_fits_25 ⟨(Nat.le_of_ble_eq_true rfl), (Nat.le_of_ble_eq_true rfl)⟩) hS (fun q _ h => hFc q h) hFc (fun r_9 u t H1 locs ht hvm hw hB hz1 hk1 hS => ?_)
      obtain ⟨tg_10, hP1, hK1, hD1⟩ := hB
      rw [ht] at hP1
      have hK1 := va_K.moved hvm.symm hK1
      obtain ⟨hP, hD⟩ := va_join (wr := [(sh0, .inr (3, [.int pl, .int lst])), (ah, .inr (4, [.int sh, .ref q1, .ref q2, w3, w4, w5, .int sc, .ref q5, .int al])), (q1, .inl (c1, 9, .inl f1)), (q2, .inl (c2, 9, .inl f2)), (q5, .inl (c5, 7, .inr (.inl f5)))]) (w1 := [(h0, .inr (6, [.ref ah, v1, .ref sh0, v3, v4, v5, .ref t0, v7])), (t0, .inl (tc, 7, .inl tg_10))]) hP hD [0, 1] [2, 3, 4, 5, 6] rfl rfl (by decide) (by decide) hk1 hFc hP1 hD1
      generalize H1 = H at hP hS ⊢
      have hP : va_P (dC, dI) vwCl [(sh0, .inr (3, [.int pl, .int lst])), (ah, .inr (4, [.int sh, .ref q1, .ref q2, w3, w4, w5, .int sc, .ref q5, .int al])), (q1, .inl (c1, 9, .inl f1)), (q2, .inl (c2, 9, .inl f2)), (q5, .inl (c5, 7, .inr (.inl f5))), (h0, .inr (6, [.ref ah, v1, .ref sh0, v3, v4, v5, .ref t0, v7])), (t0, .inl (tc, 7, .inl tg_10))] H := hP
      have hD : va_D A [(sh0, .inr (3, [.int pl, .int lst])), (ah, .inr (4, [.int sh, .ref q1, .ref q2, w3, w4, w5, .int sc, .ref q5, .int al])), (q1, .inl (c1, 9, .inl f1)), (q2, .inl (c2, 9, .inl f2)), (q5, .inl (c5, 7, .inr (.inl f5))), (h0, .inr (6, [.ref ah, v1, .ref sh0, v3, v4, v5, .ref t0, v7])), (t0, .inl (tc, 7, .inl tg_10))] := hD
      subst hw
      have hP9 := hP.sub (ws' := [(h0, .inr (6, [.ref ah, v1, .ref sh0, v3, v4, v5, .ref t0, v7])), (t0, .inl (tc, 7, .inl tg_10)), (sh0, .inr (3, [.int pl, .int lst])), (ah, .inr (4, [.int sh, .ref q1, .ref q2, w3, w4, w5, .int sc, .ref q5, .int al])), (q1, .inl (c1, 9, .inl f1)), (q2, .inl (c2, 9, .inl f2)), (q5, .inl (c5, 7, .inr (.inl f5)))]) [5, 6, 0, 1, 2, 3, 4] rfl
      have hD9 := hD.sub (ws' := [(h0, .inr (6, [.ref ah, v1, .ref sh0, v3, v4, v5, .ref t0, v7])), (t0, .inl (tc, 7, .inl tg_10)), (sh0, .inr (3, [.int pl, .int lst])), (ah, .inr (4, [.int sh, .ref q1, .ref q2, w3, w4, w5, .int sc, .ref q5, .int al])), (q1, .inl (c1, 9, .inl f1)), (q2, .inl (c2, 9, .inl f2)), (q5, .inl (c5, 7, .inr (.inl f5)))]) [5, 6, 0, 1, 2, 3, 4] (by decide) rfl
      have hK9 := hK.sub (tys' := [(tc, .int), (c1, .int), (c2, .int), (c5, .long)]) [0, 1, 2, 3] rfl
      exact W.iret (v := ((-1000000001) : Int32)) hx hb hr (fun t ht hW => ⟨⟨((-1000000001) : Int32), (), rfl, trivial, tg_10, by rw [ht]; exact hP9, va_K.moved hW.alike hK9, hD9⟩, hS.F ht⟩) hS.2.2 dX8_fits_28

def w_x_best : List Cond := .code yX8_best cX8_best 3 (some .int) :: (([.fieldLink RX8 10 "LampShapes" "now" "LLampShapes$Stage;", .methodLink RX8 157 yX6_hasScene, .instanceMethod yX6_hasScene, .selects RX6 yX6_hasScene yX6_hasScene, .initialized RX6, .code yX6_hasScene cX6_hasScene 2 (some .boolean), .fieldLink RX6 31 "LampShapes$Stage" "scenes" "I", .fieldLink RX8 22 "LampShapes" "search" "LLampShapes$Search;", .methodLink RX8 184 yX5_nearestOnes, .instanceMethod yX5_nearestOnes, .selects RX5 yX5_nearestOnes yX5_nearestOnes, .initialized RX5, .code yX5_nearestOnes cX5_nearestOnes 6 (some .int), .methodLink RX5 49 yX6_isTorn, .instanceMethod yX6_isTorn, .selects RX6 yX6_isTorn yX6_isTorn, .code yX6_isTorn cX6_isTorn 2 (some .boolean), .fieldLink RX6 22 "LampShapes$Stage" "tornShapes" "I", .methodLink RX5 56 yX5_seek, .instanceMethod yX5_seek, .selects RX5 yX5_seek yX5_seek, .code yX5_seek cX5_seek 8 none, .fieldLink RX5 9 "LampShapes$Search" "placing" "I", .fieldLink RX5 15 "LampShapes$Search" "least" "I", .methodLink RX5 18 yX6_isAllowed, .instanceMethod yX6_isAllowed, .selects RX6 yX6_isAllowed yX6_isAllowed, .code yX6_isAllowed cX6_isAllowed 4 (some .boolean), .fieldLink RX6 38 "LampShapes$Stage" "allowed" "I", .methodLink RX5 24 yX6_cornerBy, .instanceMethod yX6_cornerBy, .selects RX6 yX6_cornerBy yX6_cornerBy, .code yX6_cornerBy cX6_cornerBy 4 (some .long), .fieldLink RX6 15 "LampShapes$Stage" "kinds" "[I", .fieldLink RX6 19 "LampShapes$Stage" "points" "[I", .methodLink RX6 47 yX0_pointsBy, .static yX0_pointsBy, .initialized RX0, .code yX0_pointsBy cX0_pointsBy 3 (some .int), .methodLink RX0 15 yX0_turnedBy, .static yX0_turnedBy, .code yX0_turnedBy cX0_turnedBy 6 (some .int), .methodLink RX0 19 yX0_mirroredBy, .static yX0_mirroredBy, .code yX0_mirroredBy cX0_mirroredBy 2 (some .int), .constant RX0 31 (34952), .methodLink RX0 22 yX0_hollowed, .static yX0_hollowed, .code yX0_hollowed cX0_hollowed 5 (some .int), .constant RX0 32 (61166), .methodLink RX0 25 yX0_doubled, .static yX0_doubled, .code yX0_doubled cX0_doubled 1 (some .int), .constant RX0 33 (65535), .methodLink RX0 28 yX0_filled, .static yX0_filled, .code yX0_filled cX0_filled 6 (some .int), .methodLink RX6 53 yX1_cellsAtCorner, .static yX1_cellsAtCorner, .initialized RX1, .code yX1_cellsAtCorner cX1_cellsAtCorner 8 (some .long), .constantLong RX1 9 (771), .methodLink RX5 28 yX5_seekByWay, .instanceMethod yX5_seekByWay, .selects RX5 yX5_seekByWay yX5_seekByWay, .code yX5_seekByWay cX5_seekByWay 11 none, .methodLink RX5 32 yX1_moved, .static yX1_moved, .code yX1_moved cX1_moved 6 (some .long), .constantLong RX1 13 (72340172838076673), .methodLink RX5 38 yX1_cellsOff, .static yX1_cellsOff, .code yX1_cellsOff cX1_cellsOff 4 (some .int), .methodLink RX1 15 yJ13_bitCount_95d88, .static yJ13_bitCount_95d88, .initialized RJ13, .code yJ13_bitCount_95d88 cJ13_bitCount_95d88 2 (some .int), .constantLong RJ13 314 (6148914691236517205), .constantLong RJ13 316 (3689348814741910323), .constantLong RJ13 318 (1085102592571150095), .methodLink RX5 42 yX1_placingAt, .static yX1_placingAt, .code yX1_placingAt cX1_placingAt 3 (some .int), .methodLink RX8 188 yJ6_numberOfTrailingZeros_0f7a4, .static yJ6_numberOfTrailingZeros_0f7a4, .initialized RJ6, .code yJ6_numberOfTrailingZeros_0f7a4 cJ6_numberOfTrailingZeros_0f7a4 2 (some .int), .constant RJ6 264 (65536), .constant RX8 149 (-1000000004), .methodLink RX8 63 yX8_finding, .instanceMethod yX8_finding, .selects RX8 yX8_finding yX8_finding, .initialized RX8, .code yX8_finding cX8_finding 3 (some .int), .constant RX8 62 (-1000000001), .fieldLink RX8 46 "LampShapes" "told" "[I"] : List Cond) ++ wsX80 ++ wsX60 ++ wsX50)
set_option maxRecDepth 20000 in
theorem g_x_best_s_hasScene_157 : GoodIn w_x_best (wsV RX8 157 RX6 yX6_hasScene w_s_hasScene) := goodIn_r _ [2, 3, 4, 5, 6, 7, 105, 106, 107, 108, 109, 110, 111, 112, 113] rfl (by decide +kernel)
set_option maxRecDepth 20000 in
theorem g_x_best_r_nearestOnes_184 : GoodIn w_x_best (wsV RX8 184 RX5 yX5_nearestOnes w_r_nearestOnes) := goodIn_r _ [9, 10, 11, 12, 13, 14, 15, 16, 5, 17, 18, 19, 20, 21, 12, 22, 23, 24, 25, 26, 27, 28, 29, 30, 31, 32, 33, 34, 35, 36, 37, 38, 39, 40, 41, 42, 43, 44, 45, 46, 47, 48, 49, 50, 51, 52, 53, 54, 55, 56, 57, 58, 59, 60, 61, 62, 63, 64, 65, 66, 67, 68, 69, 70, 71, 72, 73, 74, 75, 76, 77, 78, 79, 80, 81, 82, 83, 105, 106, 107, 108, 109, 110, 111, 112, 113, 114, 115] rfl (by decide +kernel)
set_option maxRecDepth 20000 in
theorem g_x_best_j_ntz_188 : GoodIn w_x_best (va_wsS RX8 188 yJ6_numberOfTrailingZeros_0f7a4 w_j_ntz) := goodIn_r _ [84, 85, 86, 87, 88] rfl (by decide +kernel)
set_option maxRecDepth 20000 in
theorem g_x_best_f_none_63 : GoodIn w_x_best (wsV RX8 63 RX8 yX8_finding w_f_none) := goodIn_r _ [90, 91, 92, 93, 94, 95, 96, 97, 98, 99, 100, 101, 102, 103, 104] rfl (by decide +kernel)
set_option maxRecDepth 20000 in
theorem g_x_best_f_beyond_63 : GoodIn w_x_best (wsV RX8 63 RX8 yX8_finding w_f_beyond) := goodIn_r _ [90, 91, 92, 93, 94, 95, 96, 97, 98, 99, 100, 101, 102, 103, 104] rfl (by decide +kernel)
set_option maxHeartbeats 4000000 in
set_option maxRecDepth 100000 in
theorem x_best (l : Launch) (dC : Nat → ClassId) (dI : Nat → Nat → Nat) (ad : Nat → Nat) (h0 : Nat) (a : Int32) (ah : Nat) (v1 : Value) (sh0 : Nat) (v3 : Value) (v4 : Value) (v5 : Value) (t0 : Nat) (v7 : Value) (tc : ClassId) (tf : Nat → Int32) (pl : Int32) (lst : Int32) (sh : Int32) (q1 : Nat) (q2 : Nat) (tn : Int32) (w4 : Value) (w5 : Value) (sc : Int32) (q5 : Nat) (al : Int32) (c1 : ClassId) (f1 : Nat → Int32) (c2 : ClassId) (f2 : Nat → Int32) (c5 : ClassId) (f5 : Nat → Int64) (sz : Nat) (hsh : 0 ≤ sh.toInt ∧ sh.toInt ≤ 9) (hsc : 0 ≤ sc.toInt ∧ sc.toInt ≤ 7) : Met l yX8_best w_x_best ({ frames := 5, cells := 0, slots := 0, locals := 126 } : Room) (va_Pc [.ref h0, .int a] (preM dC dI ad [(tc, .int), (c1, .int), (c2, .int), (c5, .long)] [(h0, .inr (6, [.ref ah, v1, .ref sh0, v3, v4, v5, .ref t0, v7])), (t0, .inl (tc, 7, .inl tf)), (sh0, .inr (3, [.int pl, .int lst])), (ah, .inr (4, [.int sh, .ref q1, .ref q2, .int tn, w4, w5, .int sc, .ref q5, .int al])), (q1, .inl (c1, 9, .inl f1)), (q2, .inl (c2, 9, .inl f2)), (q5, .inl (c5, 7, .inr (.inl f5)))] sz)) (va_Qi (fun (r : Int32) (_ : Unit) => True) (fun _ t => ∃ (tg : Nat → Int32), ∃ (pl2 : Int32), ∃ (lst2 : Int32), va_P (dC, dI) vwCl [(h0, .inr (6, [.ref ah, v1, .ref sh0, v3, v4, v5, .ref t0, v7])), (t0, .inl (tc, 7, .inl tg)), (sh0, .inr (3, [.int pl2, .int lst2])), (ah, .inr (4, [.int sh, .ref q1, .ref q2, .int tn, w4, w5, .int sc, .ref q5, .int al])), (q1, .inl (c1, 9, .inl f1)), (q2, .inl (c2, 9, .inl f2)), (q5, .inl (c5, 7, .inr (.inl f5)))] t.heap ∧ va_K (dC, dI) vwCl [(tc, .int), (c1, .int), (c2, .int), (c5, .long)] t ∧ va_D (va_A [(h0, .inr (6, [.ref ah, v1, .ref sh0, v3, v4, v5, .ref t0, v7])), (t0, .inl (tc, 7, .inl tf)), (sh0, .inr (3, [.int pl, .int lst])), (ah, .inr (4, [.int sh, .ref q1, .ref q2, .int tn, w4, w5, .int sc, .ref q5, .int al])), (q1, .inl (c1, 9, .inl f1)), (q2, .inl (c2, 9, .inl f2)), (q5, .inl (c5, 7, .inr (.inl f5)))] sz) [(h0, .inr (6, [.ref ah, v1, .ref sh0, v3, v4, v5, .ref t0, v7])), (t0, .inl (tc, 7, .inl tg)), (sh0, .inr (3, [.int pl2, .int lst2])), (ah, .inr (4, [.int sh, .ref q1, .ref q2, .int tn, w4, w5, .int sc, .ref q5, .int al])), (q1, .inl (c1, 9, .inl f1)), (q2, .inl (c2, 9, .inl f2)), (q5, .inl (c5, 7, .inr (.inl f5)))]) (va_A [(h0, .inr (6, [.ref ah, v1, .ref sh0, v3, v4, v5, .ref t0, v7])), (t0, .inl (tc, 7, .inl tf)), (sh0, .inr (3, [.int pl, .int lst])), (ah, .inr (4, [.int sh, .ref q1, .ref q2, .int tn, w4, w5, .int sc, .ref q5, .int al])), (q1, .inl (c1, 9, .inl f1)), (q2, .inl (c2, 9, .inl f2)), (q5, .inl (c5, 7, .inr (.inl f5)))] sz)) 0 0 (va_A [(h0, .inr (6, [.ref ah, v1, .ref sh0, v3, v4, v5, .ref t0, v7])), (t0, .inl (tc, 7, .inl tf)), (sh0, .inr (3, [.int pl, .int lst])), (ah, .inr (4, [.int sh, .ref q1, .ref q2, .int tn, w4, w5, .int sc, .ref q5, .int al])), (q1, .inl (c1, 9, .inl f1)), (q2, .inl (c2, 9, .inl f2)), (q5, .inl (c5, 7, .inr (.inl f5)))] sz) := by
  refine Met.ofW (cc := cX8_best) (maxL := 3) (ret := (some .int)) (by decide) rfl ?_
  intro p e s m args below meth c s₁ B hml hv
  obtain ⟨rfl, hsz, hP, hK, hD0, hev⟩ := hv
  have hx := B.exec
  have hb := B.bytes
  have hr := B.returns
  have hts := atoms_spec (ws := w_x_best) B.pre
  have hown : s.vm.findClass RX8 = some m.cls := findClass_of_methodNamed B.named
  have hlocks := B.notSynchronized
  have inX8 : ∀ w ∈ wsX80, w ∈ w_x_best := fun w h => List.mem_cons_of_mem _ (List.mem_append_left _ (List.mem_append_left _ (List.mem_append_right _ h)))
  have inX6 : ∀ w ∈ wsX60, w ∈ w_x_best := fun w h => List.mem_cons_of_mem _ (List.mem_append_left _ (List.mem_append_right _ h))
  have inX5 : ∀ w ∈ wsX50, w ∈ w_x_best := fun w h => List.mem_cons_of_mem _ (List.mem_append_right _ h)
  subst hsz
  have hD := hD0.self (sz := s.heap.size)
  generalize hAe : va_A [(h0, .inr (6, [.ref ah, v1, .ref sh0, v3, v4, v5, .ref t0, v7])), (t0, .inl (tc, 7, .inl tf)), (sh0, .inr (3, [.int pl, .int lst])), (ah, .inr (4, [.int sh, .ref q1, .ref q2, .int tn, w4, w5, .int sc, .ref q5, .int al])), (q1, .inl (c1, 9, .inl f1)), (q2, .inl (c2, 9, .inl f2)), (q5, .inl (c5, 7, .inr (.inl f5)))] s.heap.size = A at hD ⊢
  have hA : ∀ q : Nat, s.heap.size ≤ q → A q := fun q h => by rw [← hAe]; exact Or.inr h
  have hS : va_S A s.heap s.heap [] := va_S.rf
  have hP : va_P (dC, dI) vwCl [(h0, .inr (6, [.ref ah, v1, .ref sh0, v3, v4, v5, .ref t0, v7])), (t0, .inl (tc, 7, .inl tf)), (sh0, .inr (3, [.int pl, .int lst])), (ah, .inr (4, [.int sh, .ref q1, .ref q2, .int tn, w4, w5, .int sc, .ref q5, .int al])), (q1, .inl (c1, 9, .inl f1)), (q2, .inl (c2, 9, .inl f2)), (q5, .inl (c5, 7, .inr (.inl f5)))] s.heap := hP
  have hl := lv_entry ([.ref h0, .int a]) (n := 3) (Nat.le_of_ble_eq_true rfl)
  rw [lg_entry_eq]
  generalize (lg_sl ([.ref h0, .int a]) ++ List.replicate (3 - (lg_sl ([.ref h0, .int a])).length) Slot.unset).toArray = ls at hl ⊢
  have hl : lv_has ls 3 [(0, .ref h0), (1, .int a)] := hl
  refine lv_aload_n hx hb dX8_best_0 rfl (lv_at hl 0 rfl) ?_
  refine va_get (D := (dC, dI)) (ci := 6) (v := .ref ah) (C := RX8) (T := TX8) (N := 8) hx hb hts inX8 hown hK hP 0 rfl rfl 0 (by decide) (hts _ (List.mem_of_getElem? (i := 1) rfl)) (fun _ h9 => h9) rfl dX8_best_1 ?_
  refine lv_iload_n hx hb dX8_best_4 rfl (lv_at hl 1 rfl) ?_
  have hPc := hP.sub (ws' := [(ah, .inr (4, [.int sh, .ref q1, .ref q2, .int tn, w4, w5, .int sc, .ref q5, .int al]))]) [3] rfl
  have hKc := hK.sub (tys' := []) [] rfl
  refine vp_callSi (W.runV (As := [.int a]) (rest := []) ⟨hx, hb, hml, hown, hts⟩ (s_hasScene l dC dI ad ah a (.int sh) (.ref q1) (.ref q2) (.int tn) w4 w5 sc (.ref q5) (.int al) ) (cwV 1 hts g_x_best_s_hasScene_157 rfl rfl rfl (by decide +kernel) ⟨(Nat.le_of_ble_eq_true rfl), (Nat.le_of_ble_eq_true rfl)⟩) ⟨preS_blind, va_recv hKc hPc (ci := 4) (q0 := 0) rfl rfl, fun U hU hW => ⟨rfl, preS_at hU hW hPc hKc hev⟩⟩ rfl rfl hl.1 rfl (lv_room (Nat.le_of_ble_eq_true rfl)) dX8_best_5 ⟨(Nat.le_of_ble_eq_true rfl), (Nat.le_of_ble_eq_true rfl)⟩) (fun r_1 hw => ?_)
  have hr_1 : (r_1.toInt = 1 ∧ 0 ≤ a.toInt ∧ a.toInt < sc.toInt) ∨ r_1.toInt = 0 := hw
  refine lv_if_ne (tgt := 18) hx hb dX8_best_8 (by decide) (fun c_2 => ?_) (fun c_2 => ?_)
  · skip
    have tc_2 : ¬ r_1.toInt = 0 := fun h => c_2 ((fa_eq _ _).mpr h)
    refine lv_aload_n hx hb dX8_best_18 rfl (lv_at hl 0 rfl) ?_
    refine va_get (D := (dC, dI)) (ci := 6) (v := .ref sh0) (C := RX8) (T := TX8) (N := 8) hx hb hts inX8 hown hK hP 0 rfl rfl 2 (by decide) (hts _ (List.mem_of_getElem? (i := 8) rfl)) (fun _ h9 => h9) rfl dX8_best_19 ?_
    refine lv_aload_n hx hb dX8_best_22 rfl (lv_at hl 0 rfl) ?_
    refine va_get (D := (dC, dI)) (ci := 6) (v := .ref ah) (C := RX8) (T := TX8) (N := 8) hx hb hts inX8 hown hK hP 0 rfl rfl 0 (by decide) (hts _ (List.mem_of_getElem? (i := 1) rfl)) (fun _ h9 => h9) rfl dX8_best_23 ?_
    refine lv_iload_n hx hb dX8_best_26 rfl (lv_at hl 1 rfl) ?_
    have hPc := hP.sub (ws' := [(sh0, .inr (3, [.int pl, .int lst])), (ah, .inr (4, [.int sh, .ref q1, .ref q2, .int tn, w4, w5, .int sc, .ref q5, .int al])), (q1, .inl (c1, 9, .inl f1)), (q2, .inl (c2, 9, .inl f2)), (q5, .inl (c5, 7, .inr (.inl f5)))]) [2, 3, 4, 5, 6] rfl
    have hKc := hK.sub (tys' := [(c1, .int), (c2, .int), (c5, .long)]) [1, 2, 3] rfl
    have hDc := hD.sub (ws' := [(sh0, .inr (3, [.int pl, .int lst])), (ah, .inr (4, [.int sh, .ref q1, .ref q2, .int tn, w4, w5, .int sc, .ref q5, .int al])), (q1, .inl (c1, 9, .inl f1)), (q2, .inl (c2, 9, .inl f2)), (q5, .inl (c5, 7, .inr (.inl f5)))]) [2, 3, 4, 5, 6] (by decide) rfl
    have hFc := va_free (wc := [(sh0, .inr (3, [.int pl, .int lst])), (ah, .inr (4, [.int sh, .ref q1, .ref q2, .int tn, w4, w5, .int sc, .ref q5, .int al])), (q1, .inl (c1, 9, .inl f1)), (q2, .inl (c2, 9, .inl f2)), (q5, .inl (c5, 7, .inr (.inl f5)))]) hD hS hA [2, 3, 4, 5, 6] rfl
    refine va_calli (va_runV (As := [.ref ah, .int a]) (rest := []) ⟨hx, hb, hml, hown, hts⟩ (r_nearestOnes l dC dI ad sh0 ah a pl lst sh q1 q2 tn w4 w5 (.int sc) q5 al c1 f1 c2 f2 c5 f5 s.heap.size hsh (by first | omega | decide | (simp only [fa_lt, fa_le, fa_eq, and_true, true_and, and_false, false_and, not_true_eq_false, not_false_eq_true, li_0, li_1, li_2, li_3, li_4, li_5, li_6, li_7, li_8, li_9, li_10, li_12, li_15, li_16, li_20, li_30, li_34, li_38, li_40, li_63, li_64, li_65, li_78, li_120, li_1000, li_4000, li_10000, li_11077, li_255, li_65535, li_m1, li_m2, li_m1000000001, li_m1000000002, li_m1000000003, li_m1000000004, li_m1000000005, li_m1000000006, li_m1000000007, or_true, true_or, or_false, false_or, implies_true, true_implies, false_implies] <;> omega))) (cwV 2 hts g_x_best_r_nearestOnes_184 rfl rfl rfl (by decide +kernel) ⟨(Nat.le_of_ble_eq_true rfl), (Nat.le_of_ble_eq_true rfl)⟩) ⟨preM_blind, va_recv hKc hPc (ci := 3) (q0 := 0) rfl rfl, fun U hU hW => ⟨rfl, preM_at hU hW hPc hKc hDc hev⟩⟩ rfl rfl hl.1 rfl (lv_room (Nat.le_of_ble_eq_true rfl)) dX8_best_27 ⟨(Nat.le_of_ble_eq_true rfl), (Nat.le_of_ble_eq_true rfl)⟩) hS (fun q _ h => hFc q h) hFc (fun r_3 u t H1 locs ht hvm hw hB hz1 hk1 hS => ?_)
    obtain ⟨pl_4, lst_5, hP1, hK1, hD1⟩ := hB
    rw [ht] at hP1
    have hK1 := va_K.moved hvm.symm hK1
    obtain ⟨hP, hD⟩ := va_join (wr := [(h0, .inr (6, [.ref ah, v1, .ref sh0, v3, v4, v5, .ref t0, v7])), (t0, .inl (tc, 7, .inl tf))]) (w1 := [(sh0, .inr (3, [.int pl_4, .int lst_5])), (ah, .inr (4, [.int sh, .ref q1, .ref q2, .int tn, w4, w5, .int sc, .ref q5, .int al])), (q1, .inl (c1, 9, .inl f1)), (q2, .inl (c2, 9, .inl f2)), (q5, .inl (c5, 7, .inr (.inl f5)))]) hP hD [2, 3, 4, 5, 6] [0, 1] rfl rfl (by decide) (by decide) hk1 hFc hP1 hD1
    generalize H1 = H at hP hS ⊢
    have hP : va_P (dC, dI) vwCl [(h0, .inr (6, [.ref ah, v1, .ref sh0, v3, v4, v5, .ref t0, v7])), (t0, .inl (tc, 7, .inl tf)), (sh0, .inr (3, [.int pl_4, .int lst_5])), (ah, .inr (4, [.int sh, .ref q1, .ref q2, .int tn, w4, w5, .int sc, .ref q5, .int al])), (q1, .inl (c1, 9, .inl f1)), (q2, .inl (c2, 9, .inl f2)), (q5, .inl (c5, 7, .inr (.inl f5)))] H := hP
    have hD : va_D A [(h0, .inr (6, [.ref ah, v1, .ref sh0, v3, v4, v5, .ref t0, v7])), (t0, .inl (tc, 7, .inl tf)), (sh0, .inr (3, [.int pl_4, .int lst_5])), (ah, .inr (4, [.int sh, .ref q1, .ref q2, .int tn, w4, w5, .int sc, .ref q5, .int al])), (q1, .inl (c1, 9, .inl f1)), (q2, .inl (c2, 9, .inl f2)), (q5, .inl (c5, 7, .inr (.inl f5)))] := hD
    refine lv_istore_n (lv' := [(2, .int r_3), (0, .ref h0), (1, .int a)]) hx hb dX8_best_30 rfl hl (by decide) rfl (fun ls hl => ?_)
    refine lv_iload_n hx hb dX8_best_31 rfl (lv_at hl 0 rfl) ?_
    refine lv_if_ne (tgt := 42) hx hb dX8_best_32 (by decide) (fun c_6 => ?_) (fun c_6 => ?_)
    · skip
      have tc_6 : ¬ r_3.toInt = 0 := fun h => c_6 ((fa_eq _ _).mpr h)
      refine lv_iload_n hx hb dX8_best_42 rfl (lv_at hl 0 rfl) ?_
      have hPc := hP.sub (ws' := []) [] rfl
      have hKc := hK.sub (tys' := []) [] rfl
      refine vp_callSi (W.runS (As := [.int r_3]) (rest := []) ⟨hx, hb, hml, hown, hts⟩ (j_ntz l dC dI ad r_3 ) (va_cwS 1 hts g_x_best_j_ntz_188 rfl rfl rfl (by decide +kernel) ⟨(Nat.le_of_ble_eq_true rfl), (Nat.le_of_ble_eq_true rfl)⟩) ⟨preS_blind, fun U hU hW => ⟨rfl, preS_at hU hW hPc hKc hev⟩⟩ rfl rfl hl.1 rfl (lv_room (Nat.le_of_ble_eq_true rfl)) dX8_best_43 ⟨(Nat.le_of_ble_eq_true rfl), (Nat.le_of_ble_eq_true rfl)⟩) (fun r_7 hw => ?_)
      have hP9 := hP.sub (ws' := [(h0, .inr (6, [.ref ah, v1, .ref sh0, v3, v4, v5, .ref t0, v7])), (t0, .inl (tc, 7, .inl tf)), (sh0, .inr (3, [.int pl_4, .int lst_5])), (ah, .inr (4, [.int sh, .ref q1, .ref q2, .int tn, w4, w5, .int sc, .ref q5, .int al])), (q1, .inl (c1, 9, .inl f1)), (q2, .inl (c2, 9, .inl f2)), (q5, .inl (c5, 7, .inr (.inl f5)))]) [0, 1, 2, 3, 4, 5, 6] rfl
      have hD9 := hD.sub (ws' := [(h0, .inr (6, [.ref ah, v1, .ref sh0, v3, v4, v5, .ref t0, v7])), (t0, .inl (tc, 7, .inl tf)), (sh0, .inr (3, [.int pl_4, .int lst_5])), (ah, .inr (4, [.int sh, .ref q1, .ref q2, .int tn, w4, w5, .int sc, .ref q5, .int al])), (q1, .inl (c1, 9, .inl f1)), (q2, .inl (c2, 9, .inl f2)), (q5, .inl (c5, 7, .inr (.inl f5)))]) [0, 1, 2, 3, 4, 5, 6] (by decide) rfl
      have hK9 := hK.sub (tys' := [(tc, .int), (c1, .int), (c2, .int), (c5, .long)]) [0, 1, 2, 3] rfl
      exact W.iret (v := r_7) hx hb hr (fun t ht hW => ⟨⟨r_7, (), rfl, trivial, tf, pl_4, lst_5, by rw [ht]; exact hP9, va_K.moved hW.alike hK9, hD9⟩, hS.F ht⟩) hS.2.2 dX8_best_46
    · skip
      have tc_6 : r_3.toInt = 0 := (fa_eq _ _).mp c_6
      refine lv_aload_n hx hb dX8_best_35 rfl (lv_at hl 1 rfl) ?_
      refine lv_ldc hx hb hown (hts _ (List.mem_of_getElem? (i := 89) rfl)) dX8_best_36 ?_
      have hPc := hP.sub (ws' := [(h0, .inr (6, [.ref ah, v1, .ref sh0, v3, v4, v5, .ref t0, v7])), (t0, .inl (tc, 7, .inl tf))]) [0, 1] rfl
      have hKc := hK.sub (tys' := [(tc, .int)]) [0] rfl
      have hDc := hD.sub (ws' := [(h0, .inr (6, [.ref ah, v1, .ref sh0, v3, v4, v5, .ref t0, v7])), (t0, .inl (tc, 7, .inl tf))]) [0, 1] (by decide) rfl
      have hFc := va_free (wc := [(h0, .inr (6, [.ref ah, v1, .ref sh0, v3, v4, v5, .ref t0, v7])), (t0, .inl (tc, 7, .inl tf))]) hD hS hA [0, 1] rfl
      refine va_calli (va_runV (As := [.int (-1000000004)]) (rest := []) ⟨hx, hb, hml, hown, hts⟩ (f_none l dC dI ad h0 (.ref ah) v1 (.ref sh0) v3 v4 v5 t0 v7 tc tf H.size ) (cwV 1 hts g_x_best_f_none_63 rfl rfl rfl (by decide +kernel) ⟨(Nat.le_of_ble_eq_true rfl), (Nat.le_of_ble_eq_true rfl)⟩) ⟨preM_blind, va_recv hKc hPc (ci := 6) (q0 := 0) rfl rfl, fun U hU hW => ⟨rfl, preM_at hU hW hPc hKc hDc hev⟩⟩ rfl rfl hl.1 rfl (lv_room (Nat.le_of_ble_eq_true rfl)) dX8_best_38 ⟨(Nat.le_of_ble_eq_true rfl), (Nat.le_of_ble_eq_true rfl)⟩) hS (fun q _ h => hFc q h) hFc (fun r_8 u t H1 locs ht hvm hw hB hz1 hk1 hS => ?_)
      obtain ⟨tg_9, hP1, hK1, hD1⟩ := hB
      rw [ht] at hP1
      have hK1 := va_K.moved hvm.symm hK1
      obtain ⟨hP, hD⟩ := va_join (wr := [(sh0, .inr (3, [.int pl_4, .int lst_5])), (ah, .inr (4, [.int sh, .ref q1, .ref q2, .int tn, w4, w5, .int sc, .ref q5, .int al])), (q1, .inl (c1, 9, .inl f1)), (q2, .inl (c2, 9, .inl f2)), (q5, .inl (c5, 7, .inr (.inl f5)))]) (w1 := [(h0, .inr (6, [.ref ah, v1, .ref sh0, v3, v4, v5, .ref t0, v7])), (t0, .inl (tc, 7, .inl tg_9))]) hP hD [0, 1] [2, 3, 4, 5, 6] rfl rfl (by decide) (by decide) hk1 hFc hP1 hD1
      generalize H1 = H at hP hS ⊢
      have hP : va_P (dC, dI) vwCl [(sh0, .inr (3, [.int pl_4, .int lst_5])), (ah, .inr (4, [.int sh, .ref q1, .ref q2, .int tn, w4, w5, .int sc, .ref q5, .int al])), (q1, .inl (c1, 9, .inl f1)), (q2, .inl (c2, 9, .inl f2)), (q5, .inl (c5, 7, .inr (.inl f5))), (h0, .inr (6, [.ref ah, v1, .ref sh0, v3, v4, v5, .ref t0, v7])), (t0, .inl (tc, 7, .inl tg_9))] H := hP
      have hD : va_D A [(sh0, .inr (3, [.int pl_4, .int lst_5])), (ah, .inr (4, [.int sh, .ref q1, .ref q2, .int tn, w4, w5, .int sc, .ref q5, .int al])), (q1, .inl (c1, 9, .inl f1)), (q2, .inl (c2, 9, .inl f2)), (q5, .inl (c5, 7, .inr (.inl f5))), (h0, .inr (6, [.ref ah, v1, .ref sh0, v3, v4, v5, .ref t0, v7])), (t0, .inl (tc, 7, .inl tg_9))] := hD
      subst hw
      have hP9 := hP.sub (ws' := [(h0, .inr (6, [.ref ah, v1, .ref sh0, v3, v4, v5, .ref t0, v7])), (t0, .inl (tc, 7, .inl tg_9)), (sh0, .inr (3, [.int pl_4, .int lst_5])), (ah, .inr (4, [.int sh, .ref q1, .ref q2, .int tn, w4, w5, .int sc, .ref q5, .int al])), (q1, .inl (c1, 9, .inl f1)), (q2, .inl (c2, 9, .inl f2)), (q5, .inl (c5, 7, .inr (.inl f5)))]) [5, 6, 0, 1, 2, 3, 4] rfl
      have hD9 := hD.sub (ws' := [(h0, .inr (6, [.ref ah, v1, .ref sh0, v3, v4, v5, .ref t0, v7])), (t0, .inl (tc, 7, .inl tg_9)), (sh0, .inr (3, [.int pl_4, .int lst_5])), (ah, .inr (4, [.int sh, .ref q1, .ref q2, .int tn, w4, w5, .int sc, .ref q5, .int al])), (q1, .inl (c1, 9, .inl f1)), (q2, .inl (c2, 9, .inl f2)), (q5, .inl (c5, 7, .inr (.inl f5)))]) [5, 6, 0, 1, 2, 3, 4] (by decide) rfl
      have hK9 := hK.sub (tys' := [(tc, .int), (c1, .int), (c2, .int), (c5, .long)]) [0, 1, 2, 3] rfl
      exact W.iret (v := ((-1000000004) : Int32)) hx hb hr (fun t ht hW => ⟨⟨((-1000000004) : Int32), (), rfl, trivial, tg_9, pl_4, lst_5, by rw [ht]; exact hP9, va_K.moved hW.alike hK9, hD9⟩, hS.F ht⟩) hS.2.2 dX8_best_41
  · skip
    have tc_2 : r_1.toInt = 0 := (fa_eq _ _).mp c_2
    refine lv_aload_n hx hb dX8_best_11 rfl (lv_at hl 0 rfl) ?_
    refine lv_ldc hx hb hown (hts _ (List.mem_of_getElem? (i := 95) rfl)) dX8_best_12 ?_
    have hPc := hP.sub (ws' := [(h0, .inr (6, [.ref ah, v1, .ref sh0, v3, v4, v5, .ref t0, v7])), (t0, .inl (tc, 7, .inl tf))]) [0, 1] rfl
    have hKc := hK.sub (tys' := [(tc, .int)]) [0] rfl
    have hDc := hD.sub (ws' := [(h0, .inr (6, [.ref ah, v1, .ref sh0, v3, v4, v5, .ref t0, v7])), (t0, .inl (tc, 7, .inl tf))]) [0, 1] (by decide) rfl
    have hFc := va_free (wc := [(h0, .inr (6, [.ref ah, v1, .ref sh0, v3, v4, v5, .ref t0, v7])), (t0, .inl (tc, 7, .inl tf))]) hD hS hA [0, 1] rfl
    refine va_calli (va_runV (As := [.int (-1000000001)]) (rest := []) ⟨hx, hb, hml, hown, hts⟩ (f_beyond l dC dI ad h0 (.ref ah) v1 (.ref sh0) v3 v4 v5 t0 v7 tc tf s.heap.size ) (cwV 1 hts g_x_best_f_beyond_63 rfl rfl rfl (by decide +kernel) ⟨(Nat.le_of_ble_eq_true rfl), (Nat.le_of_ble_eq_true rfl)⟩) ⟨preM_blind, va_recv hKc hPc (ci := 6) (q0 := 0) rfl rfl, fun U hU hW => ⟨rfl, preM_at hU hW hPc hKc hDc hev⟩⟩ rfl rfl hl.1 rfl (lv_room (Nat.le_of_ble_eq_true rfl)) dX8_best_14 ⟨(Nat.le_of_ble_eq_true rfl), (Nat.le_of_ble_eq_true rfl)⟩) hS (fun q _ h => hFc q h) hFc (fun r_10 u t H1 locs ht hvm hw hB hz1 hk1 hS => ?_)
    obtain ⟨tg_11, hP1, hK1, hD1⟩ := hB
    rw [ht] at hP1
    have hK1 := va_K.moved hvm.symm hK1
    obtain ⟨hP, hD⟩ := va_join (wr := [(sh0, .inr (3, [.int pl, .int lst])), (ah, .inr (4, [.int sh, .ref q1, .ref q2, .int tn, w4, w5, .int sc, .ref q5, .int al])), (q1, .inl (c1, 9, .inl f1)), (q2, .inl (c2, 9, .inl f2)), (q5, .inl (c5, 7, .inr (.inl f5)))]) (w1 := [(h0, .inr (6, [.ref ah, v1, .ref sh0, v3, v4, v5, .ref t0, v7])), (t0, .inl (tc, 7, .inl tg_11))]) hP hD [0, 1] [2, 3, 4, 5, 6] rfl rfl (by decide) (by decide) hk1 hFc hP1 hD1
    generalize H1 = H at hP hS ⊢
    have hP : va_P (dC, dI) vwCl [(sh0, .inr (3, [.int pl, .int lst])), (ah, .inr (4, [.int sh, .ref q1, .ref q2, .int tn, w4, w5, .int sc, .ref q5, .int al])), (q1, .inl (c1, 9, .inl f1)), (q2, .inl (c2, 9, .inl f2)), (q5, .inl (c5, 7, .inr (.inl f5))), (h0, .inr (6, [.ref ah, v1, .ref sh0, v3, v4, v5, .ref t0, v7])), (t0, .inl (tc, 7, .inl tg_11))] H := hP
    have hD : va_D A [(sh0, .inr (3, [.int pl, .int lst])), (ah, .inr (4, [.int sh, .ref q1, .ref q2, .int tn, w4, w5, .int sc, .ref q5, .int al])), (q1, .inl (c1, 9, .inl f1)), (q2, .inl (c2, 9, .inl f2)), (q5, .inl (c5, 7, .inr (.inl f5))), (h0, .inr (6, [.ref ah, v1, .ref sh0, v3, v4, v5, .ref t0, v7])), (t0, .inl (tc, 7, .inl tg_11))] := hD
    subst hw
    have hP9 := hP.sub (ws' := [(h0, .inr (6, [.ref ah, v1, .ref sh0, v3, v4, v5, .ref t0, v7])), (t0, .inl (tc, 7, .inl tg_11)), (sh0, .inr (3, [.int pl, .int lst])), (ah, .inr (4, [.int sh, .ref q1, .ref q2, .int tn, w4, w5, .int sc, .ref q5, .int al])), (q1, .inl (c1, 9, .inl f1)), (q2, .inl (c2, 9, .inl f2)), (q5, .inl (c5, 7, .inr (.inl f5)))]) [5, 6, 0, 1, 2, 3, 4] rfl
    have hD9 := hD.sub (ws' := [(h0, .inr (6, [.ref ah, v1, .ref sh0, v3, v4, v5, .ref t0, v7])), (t0, .inl (tc, 7, .inl tg_11)), (sh0, .inr (3, [.int pl, .int lst])), (ah, .inr (4, [.int sh, .ref q1, .ref q2, .int tn, w4, w5, .int sc, .ref q5, .int al])), (q1, .inl (c1, 9, .inl f1)), (q2, .inl (c2, 9, .inl f2)), (q5, .inl (c5, 7, .inr (.inl f5)))]) [5, 6, 0, 1, 2, 3, 4] (by decide) rfl
    have hK9 := hK.sub (tys' := [(tc, .int), (c1, .int), (c2, .int), (c5, .long)]) [0, 1, 2, 3] rfl
    exact W.iret (v := ((-1000000001) : Int32)) hx hb hr (fun t ht hW => ⟨⟨((-1000000001) : Int32), (), rfl, trivial, tg_11, pl, lst, by rw [ht]; exact hP9, va_K.moved hW.alike hK9, hD9⟩, hS.F ht⟩) hS.2.2 dX8_best_17

def w_x_harmless : List Cond := .code yX8_harmless cX8_harmless 5 (some .int) :: (([.fieldLink RX8 10 "LampShapes" "now" "LLampShapes$Stage;", .methodLink RX8 226 yX6_wholeShapes, .instanceMethod yX6_wholeShapes, .selects RX6 yX6_wholeShapes yX6_wholeShapes, .initialized RX6, .code yX6_wholeShapes cX6_wholeShapes 1 (some .int), .fieldLink RX6 9 "LampShapes$Stage" "shapes" "I", .fieldLink RX6 22 "LampShapes$Stage" "tornShapes" "I", .constant RX8 149 (-1000000004), .methodLink RX8 63 yX8_finding, .instanceMethod yX8_finding, .selects RX8 yX8_finding yX8_finding, .initialized RX8, .code yX8_finding cX8_finding 3 (some .int), .constant RX8 62 (-1000000001), .fieldLink RX8 46 "LampShapes" "told" "[I", .fieldLink RX8 22 "LampShapes" "search" "LLampShapes$Search;", .methodLink RX8 184 yX5_nearestOnes, .instanceMethod yX5_nearestOnes, .selects RX5 yX5_nearestOnes yX5_nearestOnes, .initialized RX5, .code yX5_nearestOnes cX5_nearestOnes 6 (some .int), .methodLink RX5 49 yX6_isTorn, .instanceMethod yX6_isTorn, .selects RX6 yX6_isTorn yX6_isTorn, .code yX6_isTorn cX6_isTorn 2 (some .boolean), .methodLink RX5 56 yX5_seek, .instanceMethod yX5_seek, .selects RX5 yX5_seek yX5_seek, .code yX5_seek cX5_seek 8 none, .fieldLink RX5 9 "LampShapes$Search" "placing" "I", .fieldLink RX5 15 "LampShapes$Search" "least" "I", .methodLink RX5 18 yX6_isAllowed, .instanceMethod yX6_isAllowed, .selects RX6 yX6_isAllowed yX6_isAllowed, .code yX6_isAllowed cX6_isAllowed 4 (some .boolean), .fieldLink RX6 38 "LampShapes$Stage" "allowed" "I", .methodLink RX5 24 yX6_cornerBy, .instanceMethod yX6_cornerBy, .selects RX6 yX6_cornerBy yX6_cornerBy, .code yX6_cornerBy cX6_cornerBy 4 (some .long), .fieldLink RX6 15 "LampShapes$Stage" "kinds" "[I", .fieldLink RX6 19 "LampShapes$Stage" "points" "[I", .methodLink RX6 47 yX0_pointsBy, .static yX0_pointsBy, .initialized RX0, .code yX0_pointsBy cX0_pointsBy 3 (some .int), .methodLink RX0 15 yX0_turnedBy, .static yX0_turnedBy, .code yX0_turnedBy cX0_turnedBy 6 (some .int), .methodLink RX0 19 yX0_mirroredBy, .static yX0_mirroredBy, .code yX0_mirroredBy cX0_mirroredBy 2 (some .int), .constant RX0 31 (34952), .methodLink RX0 22 yX0_hollowed, .static yX0_hollowed, .code yX0_hollowed cX0_hollowed 5 (some .int), .constant RX0 32 (61166), .methodLink RX0 25 yX0_doubled, .static yX0_doubled, .code yX0_doubled cX0_doubled 1 (some .int), .constant RX0 33 (65535), .methodLink RX0 28 yX0_filled, .static yX0_filled, .code yX0_filled cX0_filled 6 (some .int), .methodLink RX6 53 yX1_cellsAtCorner, .static yX1_cellsAtCorner, .initialized RX1, .code yX1_cellsAtCorner cX1_cellsAtCorner 8 (some .long), .constantLong RX1 9 (771), .methodLink RX5 28 yX5_seekByWay, .instanceMethod yX5_seekByWay, .selects RX5 yX5_seekByWay yX5_seekByWay, .code yX5_seekByWay cX5_seekByWay 11 none, .methodLink RX5 32 yX1_moved, .static yX1_moved, .code yX1_moved cX1_moved 6 (some .long), .constantLong RX1 13 (72340172838076673), .methodLink RX5 38 yX1_cellsOff, .static yX1_cellsOff, .code yX1_cellsOff cX1_cellsOff 4 (some .int), .methodLink RX1 15 yJ13_bitCount_95d88, .static yJ13_bitCount_95d88, .initialized RJ13, .code yJ13_bitCount_95d88 cJ13_bitCount_95d88 2 (some .int), .constantLong RJ13 314 (6148914691236517205), .constantLong RJ13 316 (3689348814741910323), .constantLong RJ13 318 (1085102592571150095), .methodLink RX5 42 yX1_placingAt, .static yX1_placingAt, .code yX1_placingAt cX1_placingAt 3 (some .int), .methodLink RX8 229 yJ6_bitCount_0f7a4, .static yJ6_bitCount_0f7a4, .initialized RJ6, .code yJ6_bitCount_0f7a4 cJ6_bitCount_0f7a4 1 (some .int), .constant RJ6 265 (1431655765), .constant RJ6 266 (858993459), .constant RJ6 267 (252645135)] : List Cond) ++ wsX80 ++ wsX60 ++ wsX50)
set_option maxRecDepth 20000 in
theorem g_x_harmless_s_wholeShapes_226 : GoodIn w_x_harmless (wsV RX8 226 RX6 yX6_wholeShapes w_s_wholeShapes) := goodIn_r _ [2, 3, 4, 5, 6, 7, 8, 107, 108, 109, 110, 111, 112, 113, 114, 115] rfl (by decide +kernel)
set_option maxRecDepth 20000 in
theorem g_x_harmless_f_none_63 : GoodIn w_x_harmless (wsV RX8 63 RX8 yX8_finding w_f_none) := goodIn_r _ [10, 11, 12, 13, 14, 15, 16, 99, 100, 101, 102, 103, 104, 105, 106] rfl (by decide +kernel)
set_option maxRecDepth 20000 in
theorem g_x_harmless_r_nearestOnes_184 : GoodIn w_x_harmless (wsV RX8 184 RX5 yX5_nearestOnes w_r_nearestOnes) := goodIn_r _ [18, 19, 20, 21, 22, 23, 24, 25, 5, 26, 8, 27, 28, 29, 21, 30, 31, 32, 33, 34, 35, 36, 37, 38, 39, 40, 41, 42, 43, 44, 45, 46, 47, 48, 49, 50, 51, 52, 53, 54, 55, 56, 57, 58, 59, 60, 61, 62, 63, 64, 65, 66, 67, 68, 69, 70, 71, 72, 73, 74, 75, 76, 77, 78, 79, 80, 81, 82, 83, 84, 85, 86, 87, 88, 89, 90, 91, 107, 108, 109, 110, 111, 112, 113, 114, 115, 116, 117] rfl (by decide +kernel)
set_option maxRecDepth 20000 in
theorem g_x_harmless_j_Ibit_229 : GoodIn w_x_harmless (va_wsS RX8 229 yJ6_bitCount_0f7a4 w_j_Ibit) := goodIn_r _ [92, 93, 94, 95, 96, 97, 98] rfl (by decide +kernel)
set_option maxHeartbeats 4000000 in
set_option maxRecDepth 100000 in
theorem x_harmless (l : Launch) (dC : Nat → ClassId) (dI : Nat → Nat → Nat) (ad : Nat → Nat) (h0 : Nat) (ah : Nat) (v1 : Value) (sh0 : Nat) (v3 : Value) (v4 : Value) (v5 : Value) (t0 : Nat) (v7 : Value) (tc : ClassId) (tf : Nat → Int32) (pl : Int32) (lst : Int32) (sh : Int32) (q1 : Nat) (q2 : Nat) (tn : Int32) (w4 : Value) (w5 : Value) (sc : Int32) (q5 : Nat) (al : Int32) (c1 : ClassId) (f1 : Nat → Int32) (c2 : ClassId) (f2 : Nat → Int32) (c5 : ClassId) (f5 : Nat → Int64) (sz : Nat) (hsh : 0 ≤ sh.toInt ∧ sh.toInt ≤ 9) (hsc : 0 ≤ sc.toInt ∧ sc.toInt ≤ 7) : Met l yX8_harmless w_x_harmless ({ frames := 5, cells := 0, slots := 0, locals := 126 } : Room) (va_Pc [.ref h0] (preM dC dI ad [(tc, .int), (c1, .int), (c2, .int), (c5, .long)] [(h0, .inr (6, [.ref ah, v1, .ref sh0, v3, v4, v5, .ref t0, v7])), (t0, .inl (tc, 7, .inl tf)), (sh0, .inr (3, [.int pl, .int lst])), (ah, .inr (4, [.int sh, .ref q1, .ref q2, .int tn, w4, w5, .int sc, .ref q5, .int al])), (q1, .inl (c1, 9, .inl f1)), (q2, .inl (c2, 9, .inl f2)), (q5, .inl (c5, 7, .inr (.inl f5)))] sz)) (va_Qi (fun (r : Int32) (_ : Unit) => True) (fun _ t => ∃ (tg : Nat → Int32), ∃ (pl2 : Int32), ∃ (lst2 : Int32), va_P (dC, dI) vwCl [(h0, .inr (6, [.ref ah, v1, .ref sh0, v3, v4, v5, .ref t0, v7])), (t0, .inl (tc, 7, .inl tg)), (sh0, .inr (3, [.int pl2, .int lst2])), (ah, .inr (4, [.int sh, .ref q1, .ref q2, .int tn, w4, w5, .int sc, .ref q5, .int al])), (q1, .inl (c1, 9, .inl f1)), (q2, .inl (c2, 9, .inl f2)), (q5, .inl (c5, 7, .inr (.inl f5)))] t.heap ∧ va_K (dC, dI) vwCl [(tc, .int), (c1, .int), (c2, .int), (c5, .long)] t ∧ va_D (va_A [(h0, .inr (6, [.ref ah, v1, .ref sh0, v3, v4, v5, .ref t0, v7])), (t0, .inl (tc, 7, .inl tf)), (sh0, .inr (3, [.int pl, .int lst])), (ah, .inr (4, [.int sh, .ref q1, .ref q2, .int tn, w4, w5, .int sc, .ref q5, .int al])), (q1, .inl (c1, 9, .inl f1)), (q2, .inl (c2, 9, .inl f2)), (q5, .inl (c5, 7, .inr (.inl f5)))] sz) [(h0, .inr (6, [.ref ah, v1, .ref sh0, v3, v4, v5, .ref t0, v7])), (t0, .inl (tc, 7, .inl tg)), (sh0, .inr (3, [.int pl2, .int lst2])), (ah, .inr (4, [.int sh, .ref q1, .ref q2, .int tn, w4, w5, .int sc, .ref q5, .int al])), (q1, .inl (c1, 9, .inl f1)), (q2, .inl (c2, 9, .inl f2)), (q5, .inl (c5, 7, .inr (.inl f5)))]) (va_A [(h0, .inr (6, [.ref ah, v1, .ref sh0, v3, v4, v5, .ref t0, v7])), (t0, .inl (tc, 7, .inl tf)), (sh0, .inr (3, [.int pl, .int lst])), (ah, .inr (4, [.int sh, .ref q1, .ref q2, .int tn, w4, w5, .int sc, .ref q5, .int al])), (q1, .inl (c1, 9, .inl f1)), (q2, .inl (c2, 9, .inl f2)), (q5, .inl (c5, 7, .inr (.inl f5)))] sz)) 0 0 (va_A [(h0, .inr (6, [.ref ah, v1, .ref sh0, v3, v4, v5, .ref t0, v7])), (t0, .inl (tc, 7, .inl tf)), (sh0, .inr (3, [.int pl, .int lst])), (ah, .inr (4, [.int sh, .ref q1, .ref q2, .int tn, w4, w5, .int sc, .ref q5, .int al])), (q1, .inl (c1, 9, .inl f1)), (q2, .inl (c2, 9, .inl f2)), (q5, .inl (c5, 7, .inr (.inl f5)))] sz) := by
  refine Met.ofW (cc := cX8_harmless) (maxL := 5) (ret := (some .int)) (by decide) rfl ?_
  intro p e s m args below meth c s₁ B hml hv
  obtain ⟨rfl, hsz, hP, hK, hD0, hev⟩ := hv
  have hx := B.exec
  have hb := B.bytes
  have hr := B.returns
  have hts := atoms_spec (ws := w_x_harmless) B.pre
  have hown : s.vm.findClass RX8 = some m.cls := findClass_of_methodNamed B.named
  have hlocks := B.notSynchronized
  have inX8 : ∀ w ∈ wsX80, w ∈ w_x_harmless := fun w h => List.mem_cons_of_mem _ (List.mem_append_left _ (List.mem_append_left _ (List.mem_append_right _ h)))
  have inX6 : ∀ w ∈ wsX60, w ∈ w_x_harmless := fun w h => List.mem_cons_of_mem _ (List.mem_append_left _ (List.mem_append_right _ h))
  have inX5 : ∀ w ∈ wsX50, w ∈ w_x_harmless := fun w h => List.mem_cons_of_mem _ (List.mem_append_right _ h)
  subst hsz
  have hD := hD0.self (sz := s.heap.size)
  generalize hAe : va_A [(h0, .inr (6, [.ref ah, v1, .ref sh0, v3, v4, v5, .ref t0, v7])), (t0, .inl (tc, 7, .inl tf)), (sh0, .inr (3, [.int pl, .int lst])), (ah, .inr (4, [.int sh, .ref q1, .ref q2, .int tn, w4, w5, .int sc, .ref q5, .int al])), (q1, .inl (c1, 9, .inl f1)), (q2, .inl (c2, 9, .inl f2)), (q5, .inl (c5, 7, .inr (.inl f5)))] s.heap.size = A at hD ⊢
  have hA : ∀ q : Nat, s.heap.size ≤ q → A q := fun q h => by rw [← hAe]; exact Or.inr h
  have hS : va_S A s.heap s.heap [] := va_S.rf
  have hP : va_P (dC, dI) vwCl [(h0, .inr (6, [.ref ah, v1, .ref sh0, v3, v4, v5, .ref t0, v7])), (t0, .inl (tc, 7, .inl tf)), (sh0, .inr (3, [.int pl, .int lst])), (ah, .inr (4, [.int sh, .ref q1, .ref q2, .int tn, w4, w5, .int sc, .ref q5, .int al])), (q1, .inl (c1, 9, .inl f1)), (q2, .inl (c2, 9, .inl f2)), (q5, .inl (c5, 7, .inr (.inl f5)))] s.heap := hP
  have hl := lv_entry ([.ref h0]) (n := 5) (Nat.le_of_ble_eq_true rfl)
  rw [lg_entry_eq]
  generalize (lg_sl ([.ref h0]) ++ List.replicate (5 - (lg_sl ([.ref h0])).length) Slot.unset).toArray = ls at hl ⊢
  have hl : lv_has ls 5 [(0, .ref h0)] := hl
  refine lv_aload_n hx hb dX8_harmless_0 rfl (lv_at hl 0 rfl) ?_
  refine va_get (D := (dC, dI)) (ci := 6) (v := .ref ah) (C := RX8) (T := TX8) (N := 8) hx hb hts inX8 hown hK hP 0 rfl rfl 0 (by decide) (hts _ (List.mem_of_getElem? (i := 1) rfl)) (fun _ h9 => h9) rfl dX8_harmless_1 ?_
  have hPc := hP.sub (ws' := [(ah, .inr (4, [.int sh, .ref q1, .ref q2, .int tn, w4, w5, .int sc, .ref q5, .int al]))]) [3] rfl
  have hKc := hK.sub (tys' := []) [] rfl
  refine vp_callSi (W.runV (As := []) (rest := []) ⟨hx, hb, hml, hown, hts⟩ (s_wholeShapes l dC dI ad ah sh (.ref q1) (.ref q2) tn w4 w5 (.int sc) (.ref q5) (.int al) ) (cwV 0 hts g_x_harmless_s_wholeShapes_226 rfl rfl rfl (by decide +kernel) ⟨(Nat.le_of_ble_eq_true rfl), (Nat.le_of_ble_eq_true rfl)⟩) ⟨preS_blind, va_recv hKc hPc (ci := 4) (q0 := 0) rfl rfl, fun U hU hW => ⟨rfl, preS_at hU hW hPc hKc hev⟩⟩ rfl rfl hl.1 rfl (lv_room (Nat.le_of_ble_eq_true rfl)) dX8_harmless_4 ⟨(Nat.le_of_ble_eq_true rfl), (Nat.le_of_ble_eq_true rfl)⟩) (fun r_1 hw => ?_)
  refine lv_istore_n (lv' := [(1, .int r_1), (0, .ref h0)]) hx hb dX8_harmless_7 rfl hl (by decide) rfl (fun ls hl => ?_)
  refine lv_aload_n hx hb dX8_harmless_8 rfl (lv_at hl 1 rfl) ?_
  refine va_get (D := (dC, dI)) (ci := 6) (v := .ref ah) (C := RX8) (T := TX8) (N := 8) hx hb hts inX8 hown hK hP 0 rfl rfl 0 (by decide) (hts _ (List.mem_of_getElem? (i := 1) rfl)) (fun _ h9 => h9) rfl dX8_harmless_9 ?_
  refine va_getN (D := (dC, dI)) (ci := 4) (v := .int sc) (C := RX6) (T := TX6) (N := 9) hx hb hts inX6 hown hK hP 3 rfl rfl 6 (by decide) (ev_nest hev 8 rfl) (fun _ h9 => h9) rfl dX8_harmless_12 ?_
  refine lv_if_eq (tgt := 22) hx hb dX8_harmless_15 (by decide) (fun c_2 => ?_) (fun c_2 => ?_)
  · skip
    have tc_2 : sc.toInt = 0 := (fa_eq _ _).mp c_2
    refine lv_aload_n hx hb dX8_harmless_22 rfl (lv_at hl 1 rfl) ?_
    refine lv_ldc hx hb hown (hts _ (List.mem_of_getElem? (i := 9) rfl)) dX8_harmless_23 ?_
    have hPc := hP.sub (ws' := [(h0, .inr (6, [.ref ah, v1, .ref sh0, v3, v4, v5, .ref t0, v7])), (t0, .inl (tc, 7, .inl tf))]) [0, 1] rfl
    have hKc := hK.sub (tys' := [(tc, .int)]) [0] rfl
    have hDc := hD.sub (ws' := [(h0, .inr (6, [.ref ah, v1, .ref sh0, v3, v4, v5, .ref t0, v7])), (t0, .inl (tc, 7, .inl tf))]) [0, 1] (by decide) rfl
    have hFc := va_free (wc := [(h0, .inr (6, [.ref ah, v1, .ref sh0, v3, v4, v5, .ref t0, v7])), (t0, .inl (tc, 7, .inl tf))]) hD hS hA [0, 1] rfl
    refine va_calli (va_runV (As := [.int (-1000000004)]) (rest := []) ⟨hx, hb, hml, hown, hts⟩ (f_none l dC dI ad h0 (.ref ah) v1 (.ref sh0) v3 v4 v5 t0 v7 tc tf s.heap.size ) (cwV 1 hts g_x_harmless_f_none_63 rfl rfl rfl (by decide +kernel) ⟨(Nat.le_of_ble_eq_true rfl), (Nat.le_of_ble_eq_true rfl)⟩) ⟨preM_blind, va_recv hKc hPc (ci := 6) (q0 := 0) rfl rfl, fun U hU hW => ⟨rfl, preM_at hU hW hPc hKc hDc hev⟩⟩ rfl rfl hl.1 rfl (lv_room (Nat.le_of_ble_eq_true rfl)) dX8_harmless_25 ⟨(Nat.le_of_ble_eq_true rfl), (Nat.le_of_ble_eq_true rfl)⟩) hS (fun q _ h => hFc q h) hFc (fun r_3 u t H1 locs ht hvm hw hB hz1 hk1 hS => ?_)
    obtain ⟨tg_4, hP1, hK1, hD1⟩ := hB
    rw [ht] at hP1
    have hK1 := va_K.moved hvm.symm hK1
    obtain ⟨hP, hD⟩ := va_join (wr := [(sh0, .inr (3, [.int pl, .int lst])), (ah, .inr (4, [.int sh, .ref q1, .ref q2, .int tn, w4, w5, .int sc, .ref q5, .int al])), (q1, .inl (c1, 9, .inl f1)), (q2, .inl (c2, 9, .inl f2)), (q5, .inl (c5, 7, .inr (.inl f5)))]) (w1 := [(h0, .inr (6, [.ref ah, v1, .ref sh0, v3, v4, v5, .ref t0, v7])), (t0, .inl (tc, 7, .inl tg_4))]) hP hD [0, 1] [2, 3, 4, 5, 6] rfl rfl (by decide) (by decide) hk1 hFc hP1 hD1
    generalize H1 = H at hP hS ⊢
    have hP : va_P (dC, dI) vwCl [(sh0, .inr (3, [.int pl, .int lst])), (ah, .inr (4, [.int sh, .ref q1, .ref q2, .int tn, w4, w5, .int sc, .ref q5, .int al])), (q1, .inl (c1, 9, .inl f1)), (q2, .inl (c2, 9, .inl f2)), (q5, .inl (c5, 7, .inr (.inl f5))), (h0, .inr (6, [.ref ah, v1, .ref sh0, v3, v4, v5, .ref t0, v7])), (t0, .inl (tc, 7, .inl tg_4))] H := hP
    have hD : va_D A [(sh0, .inr (3, [.int pl, .int lst])), (ah, .inr (4, [.int sh, .ref q1, .ref q2, .int tn, w4, w5, .int sc, .ref q5, .int al])), (q1, .inl (c1, 9, .inl f1)), (q2, .inl (c2, 9, .inl f2)), (q5, .inl (c5, 7, .inr (.inl f5))), (h0, .inr (6, [.ref ah, v1, .ref sh0, v3, v4, v5, .ref t0, v7])), (t0, .inl (tc, 7, .inl tg_4))] := hD
    subst hw
    have hP9 := hP.sub (ws' := [(h0, .inr (6, [.ref ah, v1, .ref sh0, v3, v4, v5, .ref t0, v7])), (t0, .inl (tc, 7, .inl tg_4)), (sh0, .inr (3, [.int pl, .int lst])), (ah, .inr (4, [.int sh, .ref q1, .ref q2, .int tn, w4, w5, .int sc, .ref q5, .int al])), (q1, .inl (c1, 9, .inl f1)), (q2, .inl (c2, 9, .inl f2)), (q5, .inl (c5, 7, .inr (.inl f5)))]) [5, 6, 0, 1, 2, 3, 4] rfl
    have hD9 := hD.sub (ws' := [(h0, .inr (6, [.ref ah, v1, .ref sh0, v3, v4, v5, .ref t0, v7])), (t0, .inl (tc, 7, .inl tg_4)), (sh0, .inr (3, [.int pl, .int lst])), (ah, .inr (4, [.int sh, .ref q1, .ref q2, .int tn, w4, w5, .int sc, .ref q5, .int al])), (q1, .inl (c1, 9, .inl f1)), (q2, .inl (c2, 9, .inl f2)), (q5, .inl (c5, 7, .inr (.inl f5)))]) [5, 6, 0, 1, 2, 3, 4] (by decide) rfl
    have hK9 := hK.sub (tys' := [(tc, .int), (c1, .int), (c2, .int), (c5, .long)]) [0, 1, 2, 3] rfl
    exact W.iret (v := ((-1000000004) : Int32)) hx hb hr (fun t ht hW => ⟨⟨((-1000000004) : Int32), (), rfl, trivial, tg_4, pl, lst, by rw [ht]; exact hP9, va_K.moved hW.alike hK9, hD9⟩, hS.F ht⟩) hS.2.2 dX8_harmless_28
  · skip
    have tc_2 : ¬ sc.toInt = 0 := fun h => c_2 ((fa_eq _ _).mpr h)
    refine lv_iload_n hx hb dX8_harmless_18 rfl (lv_at hl 0 rfl) ?_
    refine lv_if_ne (tgt := 29) hx hb dX8_harmless_19 (by decide) (fun c_5 => ?_) (fun c_5 => ?_)
    · skip
      have tc_5 : ¬ r_1.toInt = 0 := fun h => c_5 ((fa_eq _ _).mpr h)
      refine lv_iconst (v := 0) hx hb dX8_harmless_29 (by decide) ?_
      refine lv_istore_n (lv' := [(2, .int 0), (1, .int r_1), (0, .ref h0)]) hx hb dX8_harmless_30 rfl hl (by decide) rfl (fun ls hl => ?_)
      refine lv_iconst (v := 0) hx hb dX8_harmless_31 (by decide) ?_
      refine lv_istore_n (lv' := [(3, .int 0), (2, .int 0), (1, .int r_1), (0, .ref h0)]) hx hb dX8_harmless_32 rfl hl (by decide) rfl (fun ls hl => ?_)
      refine pp_loop (ι := Int32 × Int32 × Int32 × Int32) (fun ⟨v3_33, v2_33, y0, y1⟩ => (sc.toInt - v3_33.toInt).toNat) (fun ⟨v3_33, v2_33, y0, y1⟩ H locs ls => (0 ≤ v3_33.toInt) ∧ va_P (dC, dI) vwCl [(h0, .inr (6, [.ref ah, v1, .ref sh0, v3, v4, v5, .ref t0, v7])), (t0, .inl (tc, 7, .inl tf)), (sh0, .inr (3, [.int y0, .int y1])), (ah, .inr (4, [.int sh, .ref q1, .ref q2, .int tn, w4, w5, .int sc, .ref q5, .int al])), (q1, .inl (c1, 9, .inl f1)), (q2, .inl (c2, 9, .inl f2)), (q5, .inl (c5, 7, .inr (.inl f5)))] H ∧ va_D A [(h0, .inr (6, [.ref ah, v1, .ref sh0, v3, v4, v5, .ref t0, v7])), (t0, .inl (tc, 7, .inl tf)), (sh0, .inr (3, [.int y0, .int y1])), (ah, .inr (4, [.int sh, .ref q1, .ref q2, .int tn, w4, w5, .int sc, .ref q5, .int al])), (q1, .inl (c1, 9, .inl f1)), (q2, .inl (c2, 9, .inl f2)), (q5, .inl (c5, 7, .inr (.inl f5)))] ∧ va_S A s.heap H locs ∧ lv_has ls 5 [(3, .int v3_33), (2, .int v2_33), (1, .int r_1), (0, .ref h0)]) ?_ (0, 0, pl, lst) _ _ _ ⟨(by first | omega | decide | (simp only [fa_lt, fa_le, fa_eq, and_true, true_and, and_false, false_and, not_true_eq_false, not_false_eq_true, li_0, li_1, li_2, li_3, li_4, li_5, li_6, li_7, li_8, li_9, li_10, li_12, li_15, li_16, li_20, li_30, li_34, li_38, li_40, li_63, li_64, li_65, li_78, li_120, li_1000, li_4000, li_10000, li_11077, li_255, li_65535, li_m1, li_m2, li_m1000000001, li_m1000000002, li_m1000000003, li_m1000000004, li_m1000000005, li_m1000000006, li_m1000000007, or_true, true_or, or_false, false_or, implies_true, true_implies, false_implies] <;> omega)), hP.sub [0, 1, 2, 3, 4, 5, 6] rfl, hD.sub [0, 1, 2, 3, 4, 5, 6] (by decide) rfl, hS, lv_sub hl [0, 1, 2, 3] rfl⟩
      intro k_6 ihk_6 u H locs ls hm hI
      obtain ⟨v3_33, v2_33, y0, y1⟩ := u
      obtain ⟨jk_6_0, hP, hD, hS, hl⟩ := hI
      have hmk_6 : (sc.toInt - v3_33.toInt).toNat < k_6 + 1 := hm
      clear hm
      have jk_6_0 : 0 ≤ v3_33.toInt := jk_6_0
      have hl : lv_has ls 5 [(3, .int v3_33), (2, .int v2_33), (1, .int r_1), (0, .ref h0)] := hl
      have hP : va_P (dC, dI) vwCl [(h0, .inr (6, [.ref ah, v1, .ref sh0, v3, v4, v5, .ref t0, v7])), (t0, .inl (tc, 7, .inl tf)), (sh0, .inr (3, [.int y0, .int y1])), (ah, .inr (4, [.int sh, .ref q1, .ref q2, .int tn, w4, w5, .int sc, .ref q5, .int al])), (q1, .inl (c1, 9, .inl f1)), (q2, .inl (c2, 9, .inl f2)), (q5, .inl (c5, 7, .inr (.inl f5)))] H := hP
      have hD : va_D A [(h0, .inr (6, [.ref ah, v1, .ref sh0, v3, v4, v5, .ref t0, v7])), (t0, .inl (tc, 7, .inl tf)), (sh0, .inr (3, [.int y0, .int y1])), (ah, .inr (4, [.int sh, .ref q1, .ref q2, .int tn, w4, w5, .int sc, .ref q5, .int al])), (q1, .inl (c1, 9, .inl f1)), (q2, .inl (c2, 9, .inl f2)), (q5, .inl (c5, 7, .inr (.inl f5)))] := hD
      refine lv_iload_n hx hb dX8_harmless_33 rfl (lv_at hl 0 rfl) ?_
      refine lv_aload_n hx hb dX8_harmless_34 rfl (lv_at hl 3 rfl) ?_
      refine va_get (D := (dC, dI)) (ci := 6) (v := .ref ah) (C := RX8) (T := TX8) (N := 8) hx hb hts inX8 hown hK hP 0 rfl rfl 0 (by decide) (hts _ (List.mem_of_getElem? (i := 1) rfl)) (fun _ h9 => h9) rfl dX8_harmless_35 ?_
      refine va_getN (D := (dC, dI)) (ci := 4) (v := .int sc) (C := RX6) (T := TX6) (N := 9) hx hb hts inX6 hown hK hP 3 rfl rfl 6 (by decide) (ev_nest hev 8 rfl) (fun _ h9 => h9) rfl dX8_harmless_38 ?_
      have rc_7_x := pp_rng v3_33
      have rc_7_y := pp_rng sc
      refine lv_icmp_ge (tgt := 78) hx hb dX8_harmless_41 (by decide) (fun c_7 => ?_) (fun c_7 => ?_)
      · skip
        have tc_7 : sc.toInt ≤ v3_33.toInt := (fa_le _ _).mp c_7
        refine lv_iload_n hx hb dX8_harmless_78 rfl (lv_at hl 2 rfl) ?_
        refine lv_iload_n hx hb dX8_harmless_79 rfl (lv_at hl 1 rfl) ?_
        refine lv_iconst (v := (-1)) hx hb dX8_harmless_80 (by decide) ?_
        refine lv_ixor hx hb dX8_harmless_81 ?_
        refine lv_topi (fun n_8 en_8 => ?_)
        clear en_8
        refine lv_iand hx hb dX8_harmless_82 ?_
        refine lv_topi (fun n_9 en_9 => ?_)
        clear en_9
        have hP9 := hP.sub (ws' := [(h0, .inr (6, [.ref ah, v1, .ref sh0, v3, v4, v5, .ref t0, v7])), (t0, .inl (tc, 7, .inl tf)), (sh0, .inr (3, [.int y0, .int y1])), (ah, .inr (4, [.int sh, .ref q1, .ref q2, .int tn, w4, w5, .int sc, .ref q5, .int al])), (q1, .inl (c1, 9, .inl f1)), (q2, .inl (c2, 9, .inl f2)), (q5, .inl (c5, 7, .inr (.inl f5)))]) [0, 1, 2, 3, 4, 5, 6] rfl
        have hD9 := hD.sub (ws' := [(h0, .inr (6, [.ref ah, v1, .ref sh0, v3, v4, v5, .ref t0, v7])), (t0, .inl (tc, 7, .inl tf)), (sh0, .inr (3, [.int y0, .int y1])), (ah, .inr (4, [.int sh, .ref q1, .ref q2, .int tn, w4, w5, .int sc, .ref q5, .int al])), (q1, .inl (c1, 9, .inl f1)), (q2, .inl (c2, 9, .inl f2)), (q5, .inl (c5, 7, .inr (.inl f5)))]) [0, 1, 2, 3, 4, 5, 6] (by decide) rfl
        have hK9 := hK.sub (tys' := [(tc, .int), (c1, .int), (c2, .int), (c5, .long)]) [0, 1, 2, 3] rfl
        exact W.iret (v := n_9) hx hb hr (fun t ht hW => ⟨⟨n_9, (), rfl, trivial, tf, y0, y1, by rw [ht]; exact hP9, va_K.moved hW.alike hK9, hD9⟩, hS.F ht⟩) hS.2.2 dX8_harmless_83
      · skip
        have tc_7 : ¬ sc.toInt ≤ v3_33.toInt := fun h => c_7 ((fa_le _ _).mpr h)
        refine lv_aload_n hx hb dX8_harmless_44 rfl (lv_at hl 3 rfl) ?_
        refine va_get (D := (dC, dI)) (ci := 6) (v := .ref sh0) (C := RX8) (T := TX8) (N := 8) hx hb hts inX8 hown hK hP 0 rfl rfl 2 (by decide) (hts _ (List.mem_of_getElem? (i := 17) rfl)) (fun _ h9 => h9) rfl dX8_harmless_45 ?_
        refine lv_aload_n hx hb dX8_harmless_48 rfl (lv_at hl 3 rfl) ?_
        refine va_get (D := (dC, dI)) (ci := 6) (v := .ref ah) (C := RX8) (T := TX8) (N := 8) hx hb hts inX8 hown hK hP 0 rfl rfl 0 (by decide) (hts _ (List.mem_of_getElem? (i := 1) rfl)) (fun _ h9 => h9) rfl dX8_harmless_49 ?_
        refine lv_iload_n hx hb dX8_harmless_52 rfl (lv_at hl 0 rfl) ?_
        have hPc := hP.sub (ws' := [(sh0, .inr (3, [.int y0, .int y1])), (ah, .inr (4, [.int sh, .ref q1, .ref q2, .int tn, w4, w5, .int sc, .ref q5, .int al])), (q1, .inl (c1, 9, .inl f1)), (q2, .inl (c2, 9, .inl f2)), (q5, .inl (c5, 7, .inr (.inl f5)))]) [2, 3, 4, 5, 6] rfl
        have hKc := hK.sub (tys' := [(c1, .int), (c2, .int), (c5, .long)]) [1, 2, 3] rfl
        have hDc := hD.sub (ws' := [(sh0, .inr (3, [.int y0, .int y1])), (ah, .inr (4, [.int sh, .ref q1, .ref q2, .int tn, w4, w5, .int sc, .ref q5, .int al])), (q1, .inl (c1, 9, .inl f1)), (q2, .inl (c2, 9, .inl f2)), (q5, .inl (c5, 7, .inr (.inl f5)))]) [2, 3, 4, 5, 6] (by decide) rfl
        have hFc := va_free (wc := [(sh0, .inr (3, [.int y0, .int y1])), (ah, .inr (4, [.int sh, .ref q1, .ref q2, .int tn, w4, w5, .int sc, .ref q5, .int al])), (q1, .inl (c1, 9, .inl f1)), (q2, .inl (c2, 9, .inl f2)), (q5, .inl (c5, 7, .inr (.inl f5)))]) hD hS hA [2, 3, 4, 5, 6] rfl
        refine va_calli (va_runV (As := [.ref ah, .int v3_33]) (rest := []) ⟨hx, hb, hml, hown, hts⟩ (r_nearestOnes l dC dI ad sh0 ah v3_33 y0 y1 sh q1 q2 tn w4 w5 (.int sc) q5 al c1 f1 c2 f2 c5 f5 H.size hsh (by first | omega | decide | (simp only [fa_lt, fa_le, fa_eq, and_true, true_and, and_false, false_and, not_true_eq_false, not_false_eq_true, li_0, li_1, li_2, li_3, li_4, li_5, li_6, li_7, li_8, li_9, li_10, li_12, li_15, li_16, li_20, li_30, li_34, li_38, li_40, li_63, li_64, li_65, li_78, li_120, li_1000, li_4000, li_10000, li_11077, li_255, li_65535, li_m1, li_m2, li_m1000000001, li_m1000000002, li_m1000000003, li_m1000000004, li_m1000000005, li_m1000000006, li_m1000000007, or_true, true_or, or_false, false_or, implies_true, true_implies, false_implies] <;> omega))) (cwV 2 hts g_x_harmless_r_nearestOnes_184 rfl rfl rfl (by decide +kernel) ⟨(Nat.le_of_ble_eq_true rfl), (Nat.le_of_ble_eq_true rfl)⟩) ⟨preM_blind, va_recv hKc hPc (ci := 3) (q0 := 0) rfl rfl, fun U hU hW => ⟨rfl, preM_at hU hW hPc hKc hDc hev⟩⟩ rfl rfl hl.1 rfl (lv_room (Nat.le_of_ble_eq_true rfl)) dX8_harmless_53 ⟨(Nat.le_of_ble_eq_true rfl), (Nat.le_of_ble_eq_true rfl)⟩) hS (fun q _ h => hFc q h) hFc (fun r_10 u t H1 locs ht hvm hw hB hz1 hk1 hS => ?_)
        obtain ⟨pl_11, lst_12, hP1, hK1, hD1⟩ := hB
        rw [ht] at hP1
        have hK1 := va_K.moved hvm.symm hK1
        obtain ⟨hP, hD⟩ := va_join (wr := [(h0, .inr (6, [.ref ah, v1, .ref sh0, v3, v4, v5, .ref t0, v7])), (t0, .inl (tc, 7, .inl tf))]) (w1 := [(sh0, .inr (3, [.int pl_11, .int lst_12])), (ah, .inr (4, [.int sh, .ref q1, .ref q2, .int tn, w4, w5, .int sc, .ref q5, .int al])), (q1, .inl (c1, 9, .inl f1)), (q2, .inl (c2, 9, .inl f2)), (q5, .inl (c5, 7, .inr (.inl f5)))]) hP hD [2, 3, 4, 5, 6] [0, 1] rfl rfl (by decide) (by decide) hk1 hFc hP1 hD1
        generalize H1 = H at hP hS ⊢
        have hP : va_P (dC, dI) vwCl [(h0, .inr (6, [.ref ah, v1, .ref sh0, v3, v4, v5, .ref t0, v7])), (t0, .inl (tc, 7, .inl tf)), (sh0, .inr (3, [.int pl_11, .int lst_12])), (ah, .inr (4, [.int sh, .ref q1, .ref q2, .int tn, w4, w5, .int sc, .ref q5, .int al])), (q1, .inl (c1, 9, .inl f1)), (q2, .inl (c2, 9, .inl f2)), (q5, .inl (c5, 7, .inr (.inl f5)))] H := hP
        have hD : va_D A [(h0, .inr (6, [.ref ah, v1, .ref sh0, v3, v4, v5, .ref t0, v7])), (t0, .inl (tc, 7, .inl tf)), (sh0, .inr (3, [.int pl_11, .int lst_12])), (ah, .inr (4, [.int sh, .ref q1, .ref q2, .int tn, w4, w5, .int sc, .ref q5, .int al])), (q1, .inl (c1, 9, .inl f1)), (q2, .inl (c2, 9, .inl f2)), (q5, .inl (c5, 7, .inr (.inl f5)))] := hD
        refine lv_istore (lv' := [(4, .int r_10), (3, .int v3_33), (2, .int v2_33), (1, .int r_1), (0, .ref h0)]) hx hb dX8_harmless_56 hl (by decide) rfl (fun ls hl => ?_)
        refine lv_iload hx hb dX8_harmless_58 (lv_at hl 0 rfl) ?_
        have hPc := hP.sub (ws' := []) [] rfl
        have hKc := hK.sub (tys' := []) [] rfl
        refine vp_callSi (W.runS (As := [.int r_10]) (rest := []) ⟨hx, hb, hml, hown, hts⟩ (j_Ibit l dC dI ad r_10 ) (va_cwS 1 hts g_x_harmless_j_Ibit_229 rfl rfl rfl (by decide +kernel) ⟨(Nat.le_of_ble_eq_true rfl), (Nat.le_of_ble_eq_true rfl)⟩) ⟨preS_blind, fun U hU hW => ⟨rfl, preS_at hU hW hPc hKc hev⟩⟩ rfl rfl hl.1 rfl (lv_room (Nat.le_of_ble_eq_true rfl)) dX8_harmless_60 ⟨(Nat.le_of_ble_eq_true rfl), (Nat.le_of_ble_eq_true rfl)⟩) (fun r_13 hw => ?_)
        refine lv_iconst (v := 1) hx hb dX8_harmless_63 (by decide) ?_
        refine lv_icmp_ne (tgt := 72) hx hb dX8_harmless_64 (by decide) (fun c_14 => ?_) (fun c_14 => ?_)
        · skip
          have tc_14 : ¬ r_13.toInt = 1 := fun h => c_14 ((fa_eq _ _).mpr h)
          obtain ⟨n_15, en_15⟩ : ∃ y : Int32, y = v3_33 + 1 := ⟨_, rfl⟩
          have tn_15 : n_15.toInt = v3_33.toInt + 1 := pp_add en_15 rfl rfl (by omega) (by omega)
          refine lv_iinc (v := n_15) (lv' := [(3, .int n_15), (4, .int r_10), (2, .int v2_33), (1, .int r_1), (0, .ref h0)]) hx hb dX8_harmless_72 hl (k := 1) rfl (by rw [en_15]; rfl) (by decide) rfl (fun ls hl => ?_)
          clear en_15
          refine lv_goto (tgt := 33) hx hb dX8_harmless_75 (by decide) ?_
          exact ihk_6 (n_15, v2_33, pl_11, lst_12) _ _ _ (by show (sc.toInt - n_15.toInt).toNat < k_6; omega) ⟨(by first | omega | decide | (simp only [fa_lt, fa_le, fa_eq, and_true, true_and, and_false, false_and, not_true_eq_false, not_false_eq_true, li_0, li_1, li_2, li_3, li_4, li_5, li_6, li_7, li_8, li_9, li_10, li_12, li_15, li_16, li_20, li_30, li_34, li_38, li_40, li_63, li_64, li_65, li_78, li_120, li_1000, li_4000, li_10000, li_11077, li_255, li_65535, li_m1, li_m2, li_m1000000001, li_m1000000002, li_m1000000003, li_m1000000004, li_m1000000005, li_m1000000006, li_m1000000007, or_true, true_or, or_false, false_or, implies_true, true_implies, false_implies] <;> omega)), hP.sub [0, 1, 2, 3, 4, 5, 6] rfl, hD.sub [0, 1, 2, 3, 4, 5, 6] (by decide) rfl, hS, lv_sub hl [0, 2, 3, 4] rfl⟩
        · skip
          have tc_14 : r_13.toInt = 1 := (fa_eq _ _).mp c_14
          refine lv_iload_n hx hb dX8_harmless_67 rfl (lv_at hl 2 rfl) ?_
          refine lv_iload hx hb dX8_harmless_68 (lv_at hl 0 rfl) ?_
          refine lv_ior hx hb dX8_harmless_70 ?_
          refine lv_topi (fun n_16 en_16 => ?_)
          clear en_16
          refine lv_istore_n (lv' := [(2, .int n_16), (4, .int r_10), (3, .int v3_33), (1, .int r_1), (0, .ref h0)]) hx hb dX8_harmless_71 rfl hl (by decide) rfl (fun ls hl => ?_)
          obtain ⟨n_17, en_17⟩ : ∃ y : Int32, y = v3_33 + 1 := ⟨_, rfl⟩
          have tn_17 : n_17.toInt = v3_33.toInt + 1 := pp_add en_17 rfl rfl (by omega) (by omega)
          refine lv_iinc (v := n_17) (lv' := [(3, .int n_17), (2, .int n_16), (4, .int r_10), (1, .int r_1), (0, .ref h0)]) hx hb dX8_harmless_72 hl (k := 2) rfl (by rw [en_17]; rfl) (by decide) rfl (fun ls hl => ?_)
          clear en_17
          refine lv_goto (tgt := 33) hx hb dX8_harmless_75 (by decide) ?_
          exact ihk_6 (n_17, n_16, pl_11, lst_12) _ _ _ (by show (sc.toInt - n_17.toInt).toNat < k_6; omega) ⟨(by first | omega | decide | (simp only [fa_lt, fa_le, fa_eq, and_true, true_and, and_false, false_and, not_true_eq_false, not_false_eq_true, li_0, li_1, li_2, li_3, li_4, li_5, li_6, li_7, li_8, li_9, li_10, li_12, li_15, li_16, li_20, li_30, li_34, li_38, li_40, li_63, li_64, li_65, li_78, li_120, li_1000, li_4000, li_10000, li_11077, li_255, li_65535, li_m1, li_m2, li_m1000000001, li_m1000000002, li_m1000000003, li_m1000000004, li_m1000000005, li_m1000000006, li_m1000000007, or_true, true_or, or_false, false_or, implies_true, true_implies, false_implies] <;> omega)), hP.sub [0, 1, 2, 3, 4, 5, 6] rfl, hD.sub [0, 1, 2, 3, 4, 5, 6] (by decide) rfl, hS, lv_sub hl [0, 1, 3, 4] rfl⟩
    · skip
      have tc_5 : r_1.toInt = 0 := (fa_eq _ _).mp c_5
      refine lv_aload_n hx hb dX8_harmless_22 rfl (lv_at hl 1 rfl) ?_
      refine lv_ldc hx hb hown (hts _ (List.mem_of_getElem? (i := 9) rfl)) dX8_harmless_23 ?_
      have hPc := hP.sub (ws' := [(h0, .inr (6, [.ref ah, v1, .ref sh0, v3, v4, v5, .ref t0, v7])), (t0, .inl (tc, 7, .inl tf))]) [0, 1] rfl
      have hKc := hK.sub (tys' := [(tc, .int)]) [0] rfl
      have hDc := hD.sub (ws' := [(h0, .inr (6, [.ref ah, v1, .ref sh0, v3, v4, v5, .ref t0, v7])), (t0, .inl (tc, 7, .inl tf))]) [0, 1] (by decide) rfl
      have hFc := va_free (wc := [(h0, .inr (6, [.ref ah, v1, .ref sh0, v3, v4, v5, .ref t0, v7])), (t0, .inl (tc, 7, .inl tf))]) hD hS hA [0, 1] rfl
      refine va_calli (va_runV (As := [.int (-1000000004)]) (rest := []) ⟨hx, hb, hml, hown, hts⟩ (f_none l dC dI ad h0 (.ref ah) v1 (.ref sh0) v3 v4 v5 t0 v7 tc tf s.heap.size ) (cwV 1 hts g_x_harmless_f_none_63 rfl rfl rfl (by decide +kernel) ⟨(Nat.le_of_ble_eq_true rfl), (Nat.le_of_ble_eq_true rfl)⟩) ⟨preM_blind, va_recv hKc hPc (ci := 6) (q0 := 0) rfl rfl, fun U hU hW => ⟨rfl, preM_at hU hW hPc hKc hDc hev⟩⟩ rfl rfl hl.1 rfl (lv_room (Nat.le_of_ble_eq_true rfl)) dX8_harmless_25 ⟨(Nat.le_of_ble_eq_true rfl), (Nat.le_of_ble_eq_true rfl)⟩) hS (fun q _ h => hFc q h) hFc (fun r_18 u t H1 locs ht hvm hw hB hz1 hk1 hS => ?_)
      obtain ⟨tg_19, hP1, hK1, hD1⟩ := hB
      rw [ht] at hP1
      have hK1 := va_K.moved hvm.symm hK1
      obtain ⟨hP, hD⟩ := va_join (wr := [(sh0, .inr (3, [.int pl, .int lst])), (ah, .inr (4, [.int sh, .ref q1, .ref q2, .int tn, w4, w5, .int sc, .ref q5, .int al])), (q1, .inl (c1, 9, .inl f1)), (q2, .inl (c2, 9, .inl f2)), (q5, .inl (c5, 7, .inr (.inl f5)))]) (w1 := [(h0, .inr (6, [.ref ah, v1, .ref sh0, v3, v4, v5, .ref t0, v7])), (t0, .inl (tc, 7, .inl tg_19))]) hP hD [0, 1] [2, 3, 4, 5, 6] rfl rfl (by decide) (by decide) hk1 hFc hP1 hD1
      generalize H1 = H at hP hS ⊢
      have hP : va_P (dC, dI) vwCl [(sh0, .inr (3, [.int pl, .int lst])), (ah, .inr (4, [.int sh, .ref q1, .ref q2, .int tn, w4, w5, .int sc, .ref q5, .int al])), (q1, .inl (c1, 9, .inl f1)), (q2, .inl (c2, 9, .inl f2)), (q5, .inl (c5, 7, .inr (.inl f5))), (h0, .inr (6, [.ref ah, v1, .ref sh0, v3, v4, v5, .ref t0, v7])), (t0, .inl (tc, 7, .inl tg_19))] H := hP
      have hD : va_D A [(sh0, .inr (3, [.int pl, .int lst])), (ah, .inr (4, [.int sh, .ref q1, .ref q2, .int tn, w4, w5, .int sc, .ref q5, .int al])), (q1, .inl (c1, 9, .inl f1)), (q2, .inl (c2, 9, .inl f2)), (q5, .inl (c5, 7, .inr (.inl f5))), (h0, .inr (6, [.ref ah, v1, .ref sh0, v3, v4, v5, .ref t0, v7])), (t0, .inl (tc, 7, .inl tg_19))] := hD
      subst hw
      have hP9 := hP.sub (ws' := [(h0, .inr (6, [.ref ah, v1, .ref sh0, v3, v4, v5, .ref t0, v7])), (t0, .inl (tc, 7, .inl tg_19)), (sh0, .inr (3, [.int pl, .int lst])), (ah, .inr (4, [.int sh, .ref q1, .ref q2, .int tn, w4, w5, .int sc, .ref q5, .int al])), (q1, .inl (c1, 9, .inl f1)), (q2, .inl (c2, 9, .inl f2)), (q5, .inl (c5, 7, .inr (.inl f5)))]) [5, 6, 0, 1, 2, 3, 4] rfl
      have hD9 := hD.sub (ws' := [(h0, .inr (6, [.ref ah, v1, .ref sh0, v3, v4, v5, .ref t0, v7])), (t0, .inl (tc, 7, .inl tg_19)), (sh0, .inr (3, [.int pl, .int lst])), (ah, .inr (4, [.int sh, .ref q1, .ref q2, .int tn, w4, w5, .int sc, .ref q5, .int al])), (q1, .inl (c1, 9, .inl f1)), (q2, .inl (c2, 9, .inl f2)), (q5, .inl (c5, 7, .inr (.inl f5)))]) [5, 6, 0, 1, 2, 3, 4] (by decide) rfl
      have hK9 := hK.sub (tys' := [(tc, .int), (c1, .int), (c2, .int), (c5, .long)]) [0, 1, 2, 3] rfl
      exact W.iret (v := ((-1000000004) : Int32)) hx hb hr (fun t ht hW => ⟨⟨((-1000000004) : Int32), (), rfl, trivial, tg_19, pl, lst, by rw [ht]; exact hP9, va_K.moved hW.alike hK9, hD9⟩, hS.F ht⟩) hS.2.2 dX8_harmless_28

def w_x_play : List Cond := .code yX8_play cX8_play 5 (some .int) :: (([.fieldLink RX8 10 "LampShapes" "now" "LLampShapes$Stage;", .methodLink RX8 157 yX6_hasScene, .instanceMethod yX6_hasScene, .selects RX6 yX6_hasScene yX6_hasScene, .initialized RX6, .code yX6_hasScene cX6_hasScene 2 (some .boolean), .fieldLink RX6 31 "LampShapes$Stage" "scenes" "I", .methodLink RX8 193 yX6_emptyHands, .instanceMethod yX6_emptyHands, .selects RX6 yX6_emptyHands yX6_emptyHands, .code yX6_emptyHands cX6_emptyHands 2 none, .methodLink RX6 74 yX6_release, .instanceMethod yX6_release, .selects RX6 yX6_release yX6_release, .code yX6_release cX6_release 2 none, .methodLink RX6 70 yX6_take, .instanceMethod yX6_take, .selects RX6 yX6_take yX6_take, .code yX6_take cX6_take 4 none, .fieldLink RX6 25 "LampShapes$Stage" "heldShapes" "[I", .fieldLink RX6 28 "LampShapes$Stage" "heldPlacings" "[I", .methodLink RX8 134 yX6_darkCells, .instanceMethod yX6_darkCells, .selects RX6 yX6_darkCells yX6_darkCells, .code yX6_darkCells cX6_darkCells 4 (some .long), .methodLink RX6 88 yX6_cellsOfHold, .instanceMethod yX6_cellsOfHold, .selects RX6 yX6_cellsOfHold yX6_cellsOfHold, .code yX6_cellsOfHold cX6_cellsOfHold 3 (some .long), .methodLink RX6 78 yX6_hasShape, .instanceMethod yX6_hasShape, .selects RX6 yX6_hasShape yX6_hasShape, .code yX6_hasShape cX6_hasShape 2 (some .boolean), .fieldLink RX6 9 "LampShapes$Stage" "shapes" "I", .methodLink RX6 82 yX6_isTorn, .instanceMethod yX6_isTorn, .selects RX6 yX6_isTorn yX6_isTorn, .code yX6_isTorn cX6_isTorn 2 (some .boolean), .fieldLink RX6 22 "LampShapes$Stage" "tornShapes" "I", .methodLink RX6 85 yX6_cellsBy, .instanceMethod yX6_cellsBy, .selects RX6 yX6_cellsBy yX6_cellsBy, .code yX6_cellsBy cX6_cellsBy 4 (some .long), .methodLink RX6 59 yX6_cornerBy, .instanceMethod yX6_cornerBy, .selects RX6 yX6_cornerBy yX6_cornerBy, .code yX6_cornerBy cX6_cornerBy 4 (some .long), .fieldLink RX6 15 "LampShapes$Stage" "kinds" "[I", .fieldLink RX6 19 "LampShapes$Stage" "points" "[I", .methodLink RX6 47 yX0_pointsBy, .static yX0_pointsBy, .initialized RX0, .code yX0_pointsBy cX0_pointsBy 3 (some .int), .methodLink RX0 15 yX0_turnedBy, .static yX0_turnedBy, .code yX0_turnedBy cX0_turnedBy 6 (some .int), .methodLink RX0 19 yX0_mirroredBy, .static yX0_mirroredBy, .code yX0_mirroredBy cX0_mirroredBy 2 (some .int), .constant RX0 31 (34952), .methodLink RX0 22 yX0_hollowed, .static yX0_hollowed, .code yX0_hollowed cX0_hollowed 5 (some .int), .constant RX0 32 (61166), .methodLink RX0 25 yX0_doubled, .static yX0_doubled, .code yX0_doubled cX0_doubled 1 (some .int), .constant RX0 33 (65535), .methodLink RX0 28 yX0_filled, .static yX0_filled, .code yX0_filled cX0_filled 6 (some .int), .methodLink RX6 53 yX1_cellsAtCorner, .static yX1_cellsAtCorner, .initialized RX1, .code yX1_cellsAtCorner cX1_cellsAtCorner 8 (some .long), .constantLong RX1 9 (771), .methodLink RX6 62 yX1_moved, .static yX1_moved, .code yX1_moved cX1_moved 6 (some .long), .constantLong RX1 13 (72340172838076673), .methodLink RX8 164 yX1_cellsOff, .static yX1_cellsOff, .code yX1_cellsOff cX1_cellsOff 4 (some .int), .methodLink RX1 15 yJ13_bitCount_95d88, .static yJ13_bitCount_95d88, .initialized RJ13, .code yJ13_bitCount_95d88 cJ13_bitCount_95d88 2 (some .int), .constantLong RJ13 314 (6148914691236517205), .constantLong RJ13 316 (3689348814741910323), .constantLong RJ13 318 (1085102592571150095), .fieldLink RX8 22 "LampShapes" "search" "LLampShapes$Search;", .methodLink RX8 196 yX5_addOne, .instanceMethod yX5_addOne, .selects RX5 yX5_addOne yX5_addOne, .initialized RX5, .code yX5_addOne cX5_addOne 11 (some .boolean), .methodLink RX5 38 yX1_cellsOff, .methodLink RX5 64 yX6_take, .methodLink RX5 49 yX6_isTorn, .methodLink RX5 60 yX6_holdOf, .instanceMethod yX6_holdOf, .selects RX6 yX6_holdOf yX6_holdOf, .code yX6_holdOf cX6_holdOf 3 (some .int), .methodLink RX5 56 yX5_seek, .instanceMethod yX5_seek, .selects RX5 yX5_seek yX5_seek, .code yX5_seek cX5_seek 8 none, .fieldLink RX5 9 "LampShapes$Search" "placing" "I", .fieldLink RX5 15 "LampShapes$Search" "least" "I", .methodLink RX5 18 yX6_isAllowed, .instanceMethod yX6_isAllowed, .selects RX6 yX6_isAllowed yX6_isAllowed, .code yX6_isAllowed cX6_isAllowed 4 (some .boolean), .fieldLink RX6 38 "LampShapes$Stage" "allowed" "I", .methodLink RX5 24 yX6_cornerBy, .methodLink RX5 28 yX5_seekByWay, .instanceMethod yX5_seekByWay, .selects RX5 yX5_seekByWay yX5_seekByWay, .code yX5_seekByWay cX5_seekByWay 11 none, .methodLink RX5 32 yX1_moved, .methodLink RX5 42 yX1_placingAt, .static yX1_placingAt, .code yX1_placingAt cX1_placingAt 3 (some .int), .constant RX8 62 (-1000000001), .methodLink RX8 63 yX8_finding, .instanceMethod yX8_finding, .selects RX8 yX8_finding yX8_finding, .initialized RX8, .code yX8_finding cX8_finding 3 (some .int), .fieldLink RX8 46 "LampShapes" "told" "[I"] : List Cond) ++ wsX80 ++ wsX60 ++ wsX50)
set_option maxRecDepth 20000 in
theorem g_x_play_s_hasScene_157 : GoodIn w_x_play (wsV RX8 157 RX6 yX6_hasScene w_s_hasScene) := goodIn_r _ [2, 3, 4, 5, 6, 7, 139, 140, 141, 142, 143, 144, 145, 146, 147] rfl (by decide +kernel)
set_option maxRecDepth 20000 in
theorem g_x_play_s_emptyHands_193 : GoodIn w_x_play (wsV RX8 193 RX6 yX6_emptyHands w_s_emptyHands) := goodIn_r _ [8, 9, 10, 5, 11, 12, 13, 14, 5, 15, 16, 17, 18, 19, 20, 21, 139, 140, 141, 142, 143, 144, 145, 146, 147] rfl (by decide +kernel)
set_option maxRecDepth 20000 in
theorem g_x_play_s_darkCells_134 : GoodIn w_x_play (wsV RX8 134 RX6 yX6_darkCells w_s_darkCells) := goodIn_r _ [22, 23, 24, 5, 25, 26, 27, 28, 5, 29, 20, 30, 31, 32, 33, 34, 35, 36, 37, 38, 39, 21, 40, 41, 42, 43, 44, 45, 46, 47, 48, 49, 50, 51, 52, 53, 54, 55, 56, 57, 58, 59, 60, 61, 62, 63, 64, 65, 66, 67, 68, 69, 70, 71, 72, 73, 74, 75, 76, 77, 78, 79, 80, 139, 140, 141, 142, 143, 144, 145, 146, 147] rfl (by decide +kernel)
set_option maxRecDepth 20000 in
theorem g_x_play_l_cellsOff_164 : GoodIn w_x_play (va_wsS RX8 164 yX1_cellsOff w_l_cellsOff) := goodIn_r _ [81, 82, 74, 83, 84, 85, 86, 87, 88, 89, 90] rfl (by decide +kernel)
set_option maxRecDepth 20000 in
theorem g_x_play_r_addOne_196 : GoodIn w_x_play (wsV RX8 196 RX5 yX5_addOne w_r_addOne) := goodIn_r _ [92, 93, 94, 95, 96, 97, 82, 74, 83, 84, 85, 86, 87, 88, 89, 90, 98, 17, 18, 5, 19, 20, 21, 99, 36, 37, 38, 39, 100, 101, 102, 103, 104, 105, 106, 95, 107, 108, 109, 110, 111, 112, 113, 114, 115, 45, 46, 47, 48, 49, 50, 51, 52, 53, 54, 55, 56, 57, 58, 59, 60, 61, 62, 63, 64, 65, 66, 67, 68, 69, 70, 71, 72, 73, 75, 76, 116, 117, 118, 119, 120, 78, 79, 80, 121, 122, 123, 139, 140, 141, 142, 143, 144, 145, 146, 147, 148, 149] rfl (by decide +kernel)
set_option maxRecDepth 20000 in
theorem g_x_play_f_beyond_63 : GoodIn w_x_play (wsV RX8 63 RX8 yX8_finding w_f_beyond) := goodIn_r _ [125, 126, 127, 128, 129, 124, 130, 131, 132, 133, 134, 135, 136, 137, 138] rfl (by decide +kernel)
set_option maxHeartbeats 4000000 in
set_option maxRecDepth 100000 in
theorem x_play (l : Launch) (dC : Nat → ClassId) (dI : Nat → Nat → Nat) (ad : Nat → Nat) (h0 : Nat) (a : Int32) (ah : Nat) (v1 : Value) (sh0 : Nat) (v3 : Value) (v4 : Value) (v5 : Value) (t0 : Nat) (v7 : Value) (tc : ClassId) (tf : Nat → Int32) (pl : Int32) (lst : Int32) (sh : Int32) (q1 : Nat) (q2 : Nat) (tn : Int32) (q3 : Nat) (q4 : Nat) (sc : Int32) (q5 : Nat) (al : Int32) (c1 : ClassId) (f1 : Nat → Int32) (c2 : ClassId) (f2 : Nat → Int32) (c3 : ClassId) (f3 : Nat → Int32) (c4 : ClassId) (f4 : Nat → Int32) (c5 : ClassId) (f5 : Nat → Int64) (sz : Nat) (hsh : 0 ≤ sh.toInt ∧ sh.toInt ≤ 9) (hsc : 0 ≤ sc.toInt ∧ sc.toInt ≤ 7) : Met l yX8_play w_x_play ({ frames := 6, cells := 0, slots := 0, locals := 138 } : Room) (va_Pc [.ref h0, .int a] (preM dC dI ad [(tc, .int), (c1, .int), (c2, .int), (c3, .int), (c4, .int), (c5, .long)] [(h0, .inr (6, [.ref ah, v1, .ref sh0, v3, v4, v5, .ref t0, v7])), (t0, .inl (tc, 7, .inl tf)), (sh0, .inr (3, [.int pl, .int lst])), (ah, .inr (4, [.int sh, .ref q1, .ref q2, .int tn, .ref q3, .ref q4, .int sc, .ref q5, .int al])), (q1, .inl (c1, 9, .inl f1)), (q2, .inl (c2, 9, .inl f2)), (q3, .inl (c3, 4, .inl f3)), (q4, .inl (c4, 4, .inl f4)), (q5, .inl (c5, 7, .inr (.inl f5)))] sz)) (va_Qi (fun (r : Int32) (_ : Unit) => True) (fun _ t => ∃ (tg : Nat → Int32), ∃ (pl2 : Int32), ∃ (lst2 : Int32), ∃ (g3 : Nat → Int32), ∃ (g4 : Nat → Int32), va_P (dC, dI) vwCl [(h0, .inr (6, [.ref ah, v1, .ref sh0, v3, v4, v5, .ref t0, v7])), (t0, .inl (tc, 7, .inl tg)), (sh0, .inr (3, [.int pl2, .int lst2])), (ah, .inr (4, [.int sh, .ref q1, .ref q2, .int tn, .ref q3, .ref q4, .int sc, .ref q5, .int al])), (q1, .inl (c1, 9, .inl f1)), (q2, .inl (c2, 9, .inl f2)), (q3, .inl (c3, 4, .inl g3)), (q4, .inl (c4, 4, .inl g4)), (q5, .inl (c5, 7, .inr (.inl f5)))] t.heap ∧ va_K (dC, dI) vwCl [(tc, .int), (c1, .int), (c2, .int), (c3, .int), (c4, .int), (c5, .long)] t ∧ va_D (va_A [(h0, .inr (6, [.ref ah, v1, .ref sh0, v3, v4, v5, .ref t0, v7])), (t0, .inl (tc, 7, .inl tf)), (sh0, .inr (3, [.int pl, .int lst])), (ah, .inr (4, [.int sh, .ref q1, .ref q2, .int tn, .ref q3, .ref q4, .int sc, .ref q5, .int al])), (q1, .inl (c1, 9, .inl f1)), (q2, .inl (c2, 9, .inl f2)), (q3, .inl (c3, 4, .inl f3)), (q4, .inl (c4, 4, .inl f4)), (q5, .inl (c5, 7, .inr (.inl f5)))] sz) [(h0, .inr (6, [.ref ah, v1, .ref sh0, v3, v4, v5, .ref t0, v7])), (t0, .inl (tc, 7, .inl tg)), (sh0, .inr (3, [.int pl2, .int lst2])), (ah, .inr (4, [.int sh, .ref q1, .ref q2, .int tn, .ref q3, .ref q4, .int sc, .ref q5, .int al])), (q1, .inl (c1, 9, .inl f1)), (q2, .inl (c2, 9, .inl f2)), (q3, .inl (c3, 4, .inl g3)), (q4, .inl (c4, 4, .inl g4)), (q5, .inl (c5, 7, .inr (.inl f5)))]) (va_A [(h0, .inr (6, [.ref ah, v1, .ref sh0, v3, v4, v5, .ref t0, v7])), (t0, .inl (tc, 7, .inl tf)), (sh0, .inr (3, [.int pl, .int lst])), (ah, .inr (4, [.int sh, .ref q1, .ref q2, .int tn, .ref q3, .ref q4, .int sc, .ref q5, .int al])), (q1, .inl (c1, 9, .inl f1)), (q2, .inl (c2, 9, .inl f2)), (q3, .inl (c3, 4, .inl f3)), (q4, .inl (c4, 4, .inl f4)), (q5, .inl (c5, 7, .inr (.inl f5)))] sz)) 0 0 (va_A [(h0, .inr (6, [.ref ah, v1, .ref sh0, v3, v4, v5, .ref t0, v7])), (t0, .inl (tc, 7, .inl tf)), (sh0, .inr (3, [.int pl, .int lst])), (ah, .inr (4, [.int sh, .ref q1, .ref q2, .int tn, .ref q3, .ref q4, .int sc, .ref q5, .int al])), (q1, .inl (c1, 9, .inl f1)), (q2, .inl (c2, 9, .inl f2)), (q3, .inl (c3, 4, .inl f3)), (q4, .inl (c4, 4, .inl f4)), (q5, .inl (c5, 7, .inr (.inl f5)))] sz) := by
  refine Met.ofW (cc := cX8_play) (maxL := 5) (ret := (some .int)) (by decide) rfl ?_
  intro p e s m args below meth c s₁ B hml hv
  obtain ⟨rfl, hsz, hP, hK, hD0, hev⟩ := hv
  have hx := B.exec
  have hb := B.bytes
  have hr := B.returns
  have hts := atoms_spec (ws := w_x_play) B.pre
  have hown : s.vm.findClass RX8 = some m.cls := findClass_of_methodNamed B.named
  have hlocks := B.notSynchronized
  have inX8 : ∀ w ∈ wsX80, w ∈ w_x_play := fun w h => List.mem_cons_of_mem _ (List.mem_append_left _ (List.mem_append_left _ (List.mem_append_right _ h)))
  have inX6 : ∀ w ∈ wsX60, w ∈ w_x_play := fun w h => List.mem_cons_of_mem _ (List.mem_append_left _ (List.mem_append_right _ h))
  have inX5 : ∀ w ∈ wsX50, w ∈ w_x_play := fun w h => List.mem_cons_of_mem _ (List.mem_append_right _ h)
  subst hsz
  have hD := hD0.self (sz := s.heap.size)
  generalize hAe : va_A [(h0, .inr (6, [.ref ah, v1, .ref sh0, v3, v4, v5, .ref t0, v7])), (t0, .inl (tc, 7, .inl tf)), (sh0, .inr (3, [.int pl, .int lst])), (ah, .inr (4, [.int sh, .ref q1, .ref q2, .int tn, .ref q3, .ref q4, .int sc, .ref q5, .int al])), (q1, .inl (c1, 9, .inl f1)), (q2, .inl (c2, 9, .inl f2)), (q3, .inl (c3, 4, .inl f3)), (q4, .inl (c4, 4, .inl f4)), (q5, .inl (c5, 7, .inr (.inl f5)))] s.heap.size = A at hD ⊢
  have hA : ∀ q : Nat, s.heap.size ≤ q → A q := fun q h => by rw [← hAe]; exact Or.inr h
  have hS : va_S A s.heap s.heap [] := va_S.rf
  have hP : va_P (dC, dI) vwCl [(h0, .inr (6, [.ref ah, v1, .ref sh0, v3, v4, v5, .ref t0, v7])), (t0, .inl (tc, 7, .inl tf)), (sh0, .inr (3, [.int pl, .int lst])), (ah, .inr (4, [.int sh, .ref q1, .ref q2, .int tn, .ref q3, .ref q4, .int sc, .ref q5, .int al])), (q1, .inl (c1, 9, .inl f1)), (q2, .inl (c2, 9, .inl f2)), (q3, .inl (c3, 4, .inl f3)), (q4, .inl (c4, 4, .inl f4)), (q5, .inl (c5, 7, .inr (.inl f5)))] s.heap := hP
  have hl := lv_entry ([.ref h0, .int a]) (n := 5) (Nat.le_of_ble_eq_true rfl)
  rw [lg_entry_eq]
  generalize (lg_sl ([.ref h0, .int a]) ++ List.replicate (5 - (lg_sl ([.ref h0, .int a])).length) Slot.unset).toArray = ls at hl ⊢
  have hl : lv_has ls 5 [(0, .ref h0), (1, .int a)] := hl
  refine lv_aload_n hx hb dX8_play_0 rfl (lv_at hl 0 rfl) ?_
  refine va_get (D := (dC, dI)) (ci := 6) (v := .ref ah) (C := RX8) (T := TX8) (N := 8) hx hb hts inX8 hown hK hP 0 rfl rfl 0 (by decide) (hts _ (List.mem_of_getElem? (i := 1) rfl)) (fun _ h9 => h9) rfl dX8_play_1 ?_
  refine lv_iload_n hx hb dX8_play_4 rfl (lv_at hl 1 rfl) ?_
  have hPc := hP.sub (ws' := [(ah, .inr (4, [.int sh, .ref q1, .ref q2, .int tn, .ref q3, .ref q4, .int sc, .ref q5, .int al]))]) [3] rfl
  have hKc := hK.sub (tys' := []) [] rfl
  refine vp_callSi (W.runV (As := [.int a]) (rest := []) ⟨hx, hb, hml, hown, hts⟩ (s_hasScene l dC dI ad ah a (.int sh) (.ref q1) (.ref q2) (.int tn) (.ref q3) (.ref q4) sc (.ref q5) (.int al) ) (cwV 1 hts g_x_play_s_hasScene_157 rfl rfl rfl (by decide +kernel) ⟨(Nat.le_of_ble_eq_true rfl), (Nat.le_of_ble_eq_true rfl)⟩) ⟨preS_blind, va_recv hKc hPc (ci := 4) (q0 := 0) rfl rfl, fun U hU hW => ⟨rfl, preS_at hU hW hPc hKc hev⟩⟩ rfl rfl hl.1 rfl (lv_room (Nat.le_of_ble_eq_true rfl)) dX8_play_5 ⟨(Nat.le_of_ble_eq_true rfl), (Nat.le_of_ble_eq_true rfl)⟩) (fun r_1 hw => ?_)
  have hr_1 : (r_1.toInt = 1 ∧ 0 ≤ a.toInt ∧ a.toInt < sc.toInt) ∨ r_1.toInt = 0 := hw
  refine lv_if_ne (tgt := 18) hx hb dX8_play_8 (by decide) (fun c_2 => ?_) (fun c_2 => ?_)
  · skip
    have tc_2 : ¬ r_1.toInt = 0 := fun h => c_2 ((fa_eq _ _).mpr h)
    refine lv_aload_n hx hb dX8_play_18 rfl (lv_at hl 0 rfl) ?_
    refine va_get (D := (dC, dI)) (ci := 6) (v := .ref ah) (C := RX8) (T := TX8) (N := 8) hx hb hts inX8 hown hK hP 0 rfl rfl 0 (by decide) (hts _ (List.mem_of_getElem? (i := 1) rfl)) (fun _ h9 => h9) rfl dX8_play_19 ?_
    have hPc := hP.sub (ws' := [(ah, .inr (4, [.int sh, .ref q1, .ref q2, .int tn, .ref q3, .ref q4, .int sc, .ref q5, .int al])), (q3, .inl (c3, 4, .inl f3)), (q4, .inl (c4, 4, .inl f4))]) [3, 6, 7] rfl
    have hKc := hK.sub (tys' := [(c3, .int), (c4, .int)]) [3, 4] rfl
    have hDc := hD.sub (ws' := [(ah, .inr (4, [.int sh, .ref q1, .ref q2, .int tn, .ref q3, .ref q4, .int sc, .ref q5, .int al])), (q3, .inl (c3, 4, .inl f3)), (q4, .inl (c4, 4, .inl f4))]) [3, 6, 7] (by decide) rfl
    have hFc := va_free (wc := [(ah, .inr (4, [.int sh, .ref q1, .ref q2, .int tn, .ref q3, .ref q4, .int sc, .ref q5, .int al])), (q3, .inl (c3, 4, .inl f3)), (q4, .inl (c4, 4, .inl f4))]) hD hS hA [3, 6, 7] rfl
    refine va_callv (va_runV (As := []) (rest := []) ⟨hx, hb, hml, hown, hts⟩ (s_emptyHands l dC dI ad ah (.int sh) (.ref q1) (.ref q2) (.int tn) q3 q4 (.int sc) (.ref q5) (.int al) c3 f3 c4 f4 s.heap.size ) (cwV 0 hts g_x_play_s_emptyHands_193 rfl rfl rfl (by decide +kernel) ⟨(Nat.le_of_ble_eq_true rfl), (Nat.le_of_ble_eq_true rfl)⟩) ⟨preM_blind, va_recv hKc hPc (ci := 4) (q0 := 0) rfl rfl, fun U hU hW => ⟨rfl, preM_at hU hW hPc hKc hDc hev⟩⟩ rfl rfl hl.1 rfl (lv_room (Nat.le_of_ble_eq_true rfl)) dX8_play_22 ⟨(Nat.le_of_ble_eq_true rfl), (Nat.le_of_ble_eq_true rfl)⟩) hS (fun q _ h => hFc q h) hFc (fun u t H1 locs ht hvm hw hB hz1 hk1 hS => ?_)
    obtain ⟨g_4, g_5, hP1, hK1, hD1⟩ := hB
    rw [ht] at hP1
    have hK1 := va_K.moved hvm.symm hK1
    obtain ⟨hP, hD⟩ := va_join (wr := [(h0, .inr (6, [.ref ah, v1, .ref sh0, v3, v4, v5, .ref t0, v7])), (t0, .inl (tc, 7, .inl tf)), (sh0, .inr (3, [.int pl, .int lst])), (q1, .inl (c1, 9, .inl f1)), (q2, .inl (c2, 9, .inl f2)), (q5, .inl (c5, 7, .inr (.inl f5)))]) (w1 := [(ah, .inr (4, [.int sh, .ref q1, .ref q2, .int tn, .ref q3, .ref q4, .int sc, .ref q5, .int al])), (q3, .inl (c3, 4, .inl g_4)), (q4, .inl (c4, 4, .inl g_5))]) hP hD [3, 6, 7] [0, 1, 2, 4, 5, 8] rfl rfl (by decide) (by decide) hk1 hFc hP1 hD1
    generalize H1 = H at hP hS ⊢
    have hP : va_P (dC, dI) vwCl [(h0, .inr (6, [.ref ah, v1, .ref sh0, v3, v4, v5, .ref t0, v7])), (t0, .inl (tc, 7, .inl tf)), (sh0, .inr (3, [.int pl, .int lst])), (q1, .inl (c1, 9, .inl f1)), (q2, .inl (c2, 9, .inl f2)), (q5, .inl (c5, 7, .inr (.inl f5))), (ah, .inr (4, [.int sh, .ref q1, .ref q2, .int tn, .ref q3, .ref q4, .int sc, .ref q5, .int al])), (q3, .inl (c3, 4, .inl g_4)), (q4, .inl (c4, 4, .inl g_5))] H := hP
    have hD : va_D A [(h0, .inr (6, [.ref ah, v1, .ref sh0, v3, v4, v5, .ref t0, v7])), (t0, .inl (tc, 7, .inl tf)), (sh0, .inr (3, [.int pl, .int lst])), (q1, .inl (c1, 9, .inl f1)), (q2, .inl (c2, 9, .inl f2)), (q5, .inl (c5, 7, .inr (.inl f5))), (ah, .inr (4, [.int sh, .ref q1, .ref q2, .int tn, .ref q3, .ref q4, .int sc, .ref q5, .int al])), (q3, .inl (c3, 4, .inl g_4)), (q4, .inl (c4, 4, .inl g_5))] := hD
    refine lv_aload_n hx hb dX8_play_25 rfl (lv_at hl 0 rfl) ?_
    refine va_get (D := (dC, dI)) (ci := 6) (v := .ref ah) (C := RX8) (T := TX8) (N := 8) hx hb hts inX8 hown hK hP 0 rfl rfl 0 (by decide) (hts _ (List.mem_of_getElem? (i := 1) rfl)) (fun _ h9 => h9) rfl dX8_play_26 ?_
    refine va_getN (D := (dC, dI)) (ci := 4) (v := .ref q5) (C := RX6) (T := TX6) (N := 9) hx hb hts inX6 hown hK hP 6 rfl rfl 7 (by decide) (ev_nest hev 10 rfl) (fun _ h9 => h9) rfl dX8_play_29 ?_
    refine lv_iload_n hx hb dX8_play_32 rfl (lv_at hl 1 rfl) ?_
    refine va_lald hx hb hK hP 5 5 rfl rfl (vp_in_iff.mpr ⟨by omega, by omega⟩) dX8_play_33 ?_
    refine lv_topl (fun n_6 en_6 => ?_)
    clear en_6
    refine lv_lstore_n (lv' := [(2, .long n_6), (0, .ref h0), (1, .int a)]) hx hb dX8_play_34 rfl hl (by decide) rfl (fun ls hl => ?_)
    refine lv_iconst (v := 0) hx hb dX8_play_35 (by decide) ?_
    refine lv_istore (lv' := [(4, .int 0), (2, .long n_6), (0, .ref h0), (1, .int a)]) hx hb dX8_play_36 hl (by decide) rfl (fun ls hl => ?_)
    refine pp_loop (ι := Int32 × Int32 × Int32 × (Nat → Int32) × (Nat → Int32)) (fun ⟨v4_38, y0, y1, y3, y4⟩ => (4 - v4_38.toInt).toNat) (fun ⟨v4_38, y0, y1, y3, y4⟩ H locs ls => (0 ≤ v4_38.toInt) ∧ (v4_38.toInt ≤ 4) ∧ va_P (dC, dI) vwCl [(h0, .inr (6, [.ref ah, v1, .ref sh0, v3, v4, v5, .ref t0, v7])), (t0, .inl (tc, 7, .inl tf)), (sh0, .inr (3, [.int y0, .int y1])), (q1, .inl (c1, 9, .inl f1)), (q2, .inl (c2, 9, .inl f2)), (q5, .inl (c5, 7, .inr (.inl f5))), (ah, .inr (4, [.int sh, .ref q1, .ref q2, .int tn, .ref q3, .ref q4, .int sc, .ref q5, .int al])), (q3, .inl (c3, 4, .inl y3)), (q4, .inl (c4, 4, .inl y4))] H ∧ va_D A [(h0, .inr (6, [.ref ah, v1, .ref sh0, v3, v4, v5, .ref t0, v7])), (t0, .inl (tc, 7, .inl tf)), (sh0, .inr (3, [.int y0, .int y1])), (q1, .inl (c1, 9, .inl f1)), (q2, .inl (c2, 9, .inl f2)), (q5, .inl (c5, 7, .inr (.inl f5))), (ah, .inr (4, [.int sh, .ref q1, .ref q2, .int tn, .ref q3, .ref q4, .int sc, .ref q5, .int al])), (q3, .inl (c3, 4, .inl y3)), (q4, .inl (c4, 4, .inl y4))] ∧ va_S A s.heap H locs ∧ lv_has ls 5 [(4, .int v4_38), (2, .long n_6), (0, .ref h0), (1, .int a)]) ?_ (0, pl, lst, g_4, g_5) _ _ _ ⟨(by first | omega | decide | (simp only [fa_lt, fa_le, fa_eq, and_true, true_and, and_false, false_and, not_true_eq_false, not_false_eq_true, li_0, li_1, li_2, li_3, li_4, li_5, li_6, li_7, li_8, li_9, li_10, li_12, li_15, li_16, li_20, li_30, li_34, li_38, li_40, li_63, li_64, li_65, li_78, li_120, li_1000, li_4000, li_10000, li_11077, li_255, li_65535, li_m1, li_m2, li_m1000000001, li_m1000000002, li_m1000000003, li_m1000000004, li_m1000000005, li_m1000000006, li_m1000000007, or_true, true_or, or_false, false_or, implies_true, true_implies, false_implies] <;> omega)), (by first | omega | decide | (simp only [fa_lt, fa_le, fa_eq, and_true, true_and, and_false, false_and, not_true_eq_false, not_false_eq_true, li_0, li_1, li_2, li_3, li_4, li_5, li_6, li_7, li_8, li_9, li_10, li_12, li_15, li_16, li_20, li_30, li_34, li_38, li_40, li_63, li_64, li_65, li_78, li_120, li_1000, li_4000, li_10000, li_11077, li_255, li_65535, li_m1, li_m2, li_m1000000001, li_m1000000002, li_m1000000003, li_m1000000004, li_m1000000005, li_m1000000006, li_m1000000007, or_true, true_or, or_false, false_or, implies_true, true_implies, false_implies] <;> omega)), hP.sub [0, 1, 2, 3, 4, 5, 6, 7, 8] rfl, hD.sub [0, 1, 2, 3, 4, 5, 6, 7, 8] (by decide) rfl, hS, lv_sub hl [0, 1, 2, 3] rfl⟩
    intro k_7 ihk_7 u H locs ls hm hI
    obtain ⟨v4_38, y0, y1, y3, y4⟩ := u
    obtain ⟨jk_7_0, jk_7_1, hP, hD, hS, hl⟩ := hI
    have hmk_7 : (4 - v4_38.toInt).toNat < k_7 + 1 := hm
    clear hm
    have jk_7_0 : 0 ≤ v4_38.toInt := jk_7_0
    have jk_7_1 : v4_38.toInt ≤ 4 := jk_7_1
    have hl : lv_has ls 5 [(4, .int v4_38), (2, .long n_6), (0, .ref h0), (1, .int a)] := hl
    have hP : va_P (dC, dI) vwCl [(h0, .inr (6, [.ref ah, v1, .ref sh0, v3, v4, v5, .ref t0, v7])), (t0, .inl (tc, 7, .inl tf)), (sh0, .inr (3, [.int y0, .int y1])), (q1, .inl (c1, 9, .inl f1)), (q2, .inl (c2, 9, .inl f2)), (q5, .inl (c5, 7, .inr (.inl f5))), (ah, .inr (4, [.int sh, .ref q1, .ref q2, .int tn, .ref q3, .ref q4, .int sc, .ref q5, .int al])), (q3, .inl (c3, 4, .inl y3)), (q4, .inl (c4, 4, .inl y4))] H := hP
    have hD : va_D A [(h0, .inr (6, [.ref ah, v1, .ref sh0, v3, v4, v5, .ref t0, v7])), (t0, .inl (tc, 7, .inl tf)), (sh0, .inr (3, [.int y0, .int y1])), (q1, .inl (c1, 9, .inl f1)), (q2, .inl (c2, 9, .inl f2)), (q5, .inl (c5, 7, .inr (.inl f5))), (ah, .inr (4, [.int sh, .ref q1, .ref q2, .int tn, .ref q3, .ref q4, .int sc, .ref q5, .int al])), (q3, .inl (c3, 4, .inl y3)), (q4, .inl (c4, 4, .inl y4))] := hD
    refine lv_iload hx hb dX8_play_38 (lv_at hl 0 rfl) ?_
    refine lv_iconst (v := 4) hx hb dX8_play_40 (by decide) ?_
    refine lv_icmp_ge (tgt := 77) hx hb dX8_play_41 (by decide) (fun c_8 => ?_) (fun c_8 => ?_)
    · skip
      have tc_8 : 4 ≤ v4_38.toInt := (fa_le _ _).mp c_8
      refine lv_aload_n hx hb dX8_play_77 rfl (lv_at hl 2 rfl) ?_
      refine va_get (D := (dC, dI)) (ci := 6) (v := .ref ah) (C := RX8) (T := TX8) (N := 8) hx hb hts inX8 hown hK hP 0 rfl rfl 0 (by decide) (hts _ (List.mem_of_getElem? (i := 1) rfl)) (fun _ h9 => h9) rfl dX8_play_78 ?_
      have hPc := hP.sub (ws' := [(ah, .inr (4, [.int sh, .ref q1, .ref q2, .int tn, .ref q3, .ref q4, .int sc, .ref q5, .int al])), (q1, .inl (c1, 9, .inl f1)), (q2, .inl (c2, 9, .inl f2)), (q3, .inl (c3, 4, .inl y3)), (q4, .inl (c4, 4, .inl y4))]) [6, 3, 4, 7, 8] rfl
      have hKc := hK.sub (tys' := [(c1, .int), (c2, .int), (c3, .int), (c4, .int)]) [1, 2, 3, 4] rfl
      refine vp_callSl (W.runV (As := []) (rest := []) ⟨hx, hb, hml, hown, hts⟩ (s_darkCells l dC dI ad ah sh q1 q2 tn q3 q4 (.int sc) (.ref q5) (.int al) c1 f1 c2 f2 c3 y3 c4 y4 hsh) (cwV 0 hts g_x_play_s_darkCells_134 rfl rfl rfl (by decide +kernel) ⟨(Nat.le_of_ble_eq_true rfl), (Nat.le_of_ble_eq_true rfl)⟩) ⟨preS_blind, va_recv hKc hPc (ci := 4) (q0 := 0) rfl rfl, fun U hU hW => ⟨rfl, preS_at hU hW hPc hKc hev⟩⟩ rfl rfl hl.1 rfl (lv_room (Nat.le_of_ble_eq_true rfl)) dX8_play_81 ⟨(Nat.le_of_ble_eq_true rfl), (Nat.le_of_ble_eq_true rfl)⟩) (fun r_9 hw => ?_)
      refine lv_lload_n hx hb dX8_play_84 rfl (lv_at hl 1 rfl) ?_
      have hPc := hP.sub (ws' := []) [] rfl
      have hKc := hK.sub (tys' := []) [] rfl
      refine vp_callSi (W.runS (As := [.long r_9, .long n_6]) (rest := []) ⟨hx, hb, hml, hown, hts⟩ (l_cellsOff l dC dI ad r_9 n_6 ) (va_cwS 2 hts g_x_play_l_cellsOff_164 rfl rfl rfl (by decide +kernel) ⟨(Nat.le_of_ble_eq_true rfl), (Nat.le_of_ble_eq_true rfl)⟩) ⟨preS_blind, fun U hU hW => ⟨rfl, preS_at hU hW hPc hKc hev⟩⟩ rfl rfl hl.1 rfl (lv_room (Nat.le_of_ble_eq_true rfl)) dX8_play_85 ⟨(Nat.le_of_ble_eq_true rfl), (Nat.le_of_ble_eq_true rfl)⟩) (fun r_10 hw => ?_)
      have hP9 := hP.sub (ws' := [(h0, .inr (6, [.ref ah, v1, .ref sh0, v3, v4, v5, .ref t0, v7])), (t0, .inl (tc, 7, .inl tf)), (sh0, .inr (3, [.int y0, .int y1])), (ah, .inr (4, [.int sh, .ref q1, .ref q2, .int tn, .ref q3, .ref q4, .int sc, .ref q5, .int al])), (q1, .inl (c1, 9, .inl f1)), (q2, .inl (c2, 9, .inl f2)), (q3, .inl (c3, 4, .inl y3)), (q4, .inl (c4, 4, .inl y4)), (q5, .inl (c5, 7, .inr (.inl f5)))]) [0, 1, 2, 6, 3, 4, 7, 8, 5] rfl
      have hD9 := hD.sub (ws' := [(h0, .inr (6, [.ref ah, v1, .ref sh0, v3, v4, v5, .ref t0, v7])), (t0, .inl (tc, 7, .inl tf)), (sh0, .inr (3, [.int y0, .int y1])), (ah, .inr (4, [.int sh, .ref q1, .ref q2, .int tn, .ref q3, .ref q4, .int sc, .ref q5, .int al])), (q1, .inl (c1, 9, .inl f1)), (q2, .inl (c2, 9, .inl f2)), (q3, .inl (c3, 4, .inl y3)), (q4, .inl (c4, 4, .inl y4)), (q5, .inl (c5, 7, .inr (.inl f5)))]) [0, 1, 2, 6, 3, 4, 7, 8, 5] (by decide) rfl
      have hK9 := hK.sub (tys' := [(tc, .int), (c1, .int), (c2, .int), (c3, .int), (c4, .int), (c5, .long)]) [0, 1, 2, 3, 4, 5] rfl
      exact W.iret (v := r_10) hx hb hr (fun t ht hW => ⟨⟨r_10, (), rfl, trivial, tf, y0, y1, y3, y4, by rw [ht]; exact hP9, va_K.moved hW.alike hK9, hD9⟩, hS.F ht⟩) hS.2.2 dX8_play_88
    · skip
      have tc_8 : ¬ 4 ≤ v4_38.toInt := fun h => c_8 ((fa_le _ _).mpr h)
      refine lv_aload_n hx hb dX8_play_44 rfl (lv_at hl 2 rfl) ?_
      refine va_get (D := (dC, dI)) (ci := 6) (v := .ref sh0) (C := RX8) (T := TX8) (N := 8) hx hb hts inX8 hown hK hP 0 rfl rfl 2 (by decide) (hts _ (List.mem_of_getElem? (i := 91) rfl)) (fun _ h9 => h9) rfl dX8_play_45 ?_
      refine lv_aload_n hx hb dX8_play_48 rfl (lv_at hl 2 rfl) ?_
      refine va_get (D := (dC, dI)) (ci := 6) (v := .ref ah) (C := RX8) (T := TX8) (N := 8) hx hb hts inX8 hown hK hP 0 rfl rfl 0 (by decide) (hts _ (List.mem_of_getElem? (i := 1) rfl)) (fun _ h9 => h9) rfl dX8_play_49 ?_
      refine lv_iload hx hb dX8_play_52 (lv_at hl 0 rfl) ?_
      refine lv_aload_n hx hb dX8_play_54 rfl (lv_at hl 2 rfl) ?_
      refine va_get (D := (dC, dI)) (ci := 6) (v := .ref ah) (C := RX8) (T := TX8) (N := 8) hx hb hts inX8 hown hK hP 0 rfl rfl 0 (by decide) (hts _ (List.mem_of_getElem? (i := 1) rfl)) (fun _ h9 => h9) rfl dX8_play_55 ?_
      have hPc := hP.sub (ws' := [(ah, .inr (4, [.int sh, .ref q1, .ref q2, .int tn, .ref q3, .ref q4, .int sc, .ref q5, .int al])), (q1, .inl (c1, 9, .inl f1)), (q2, .inl (c2, 9, .inl f2)), (q3, .inl (c3, 4, .inl y3)), (q4, .inl (c4, 4, .inl y4))]) [6, 3, 4, 7, 8] rfl
      have hKc := hK.sub (tys' := [(c1, .int), (c2, .int), (c3, .int), (c4, .int)]) [1, 2, 3, 4] rfl
      refine vp_callSl (W.runV (As := []) (rest := [.int v4_38, .ref ah, .ref sh0]) ⟨hx, hb, hml, hown, hts⟩ (s_darkCells l dC dI ad ah sh q1 q2 tn q3 q4 (.int sc) (.ref q5) (.int al) c1 f1 c2 f2 c3 y3 c4 y4 hsh) (cwV 0 hts g_x_play_s_darkCells_134 rfl rfl rfl (by decide +kernel) ⟨(Nat.le_of_ble_eq_true rfl), (Nat.le_of_ble_eq_true rfl)⟩) ⟨preS_blind, va_recv hKc hPc (ci := 4) (q0 := 0) rfl rfl, fun U hU hW => ⟨rfl, preS_at hU hW hPc hKc hev⟩⟩ rfl rfl hl.1 rfl (lv_room (Nat.le_of_ble_eq_true rfl)) dX8_play_58 ⟨(Nat.le_of_ble_eq_true rfl), (Nat.le_of_ble_eq_true rfl)⟩) (fun r_11 hw => ?_)
      refine lv_lload_n hx hb dX8_play_61 rfl (lv_at hl 1 rfl) ?_
      have hPc := hP.sub (ws' := [(sh0, .inr (3, [.int y0, .int y1])), (ah, .inr (4, [.int sh, .ref q1, .ref q2, .int tn, .ref q3, .ref q4, .int sc, .ref q5, .int al])), (q1, .inl (c1, 9, .inl f1)), (q2, .inl (c2, 9, .inl f2)), (q3, .inl (c3, 4, .inl y3)), (q4, .inl (c4, 4, .inl y4))]) [2, 6, 3, 4, 7, 8] rfl
      have hKc := hK.sub (tys' := [(c1, .int), (c2, .int), (c3, .int), (c4, .int)]) [1, 2, 3, 4] rfl
      have hDc := hD.sub (ws' := [(sh0, .inr (3, [.int y0, .int y1])), (ah, .inr (4, [.int sh, .ref q1, .ref q2, .int tn, .ref q3, .ref q4, .int sc, .ref q5, .int al])), (q1, .inl (c1, 9, .inl f1)), (q2, .inl (c2, 9, .inl f2)), (q3, .inl (c3, 4, .inl y3)), (q4, .inl (c4, 4, .inl y4))]) [2, 6, 3, 4, 7, 8] (by decide) rfl
      have hFc := va_free (wc := [(sh0, .inr (3, [.int y0, .int y1])), (ah, .inr (4, [.int sh, .ref q1, .ref q2, .int tn, .ref q3, .ref q4, .int sc, .ref q5, .int al])), (q1, .inl (c1, 9, .inl f1)), (q2, .inl (c2, 9, .inl f2)), (q3, .inl (c3, 4, .inl y3)), (q4, .inl (c4, 4, .inl y4))]) hD hS hA [2, 6, 3, 4, 7, 8] rfl
      refine va_calli (va_runV (As := [.ref ah, .int v4_38, .long r_11, .long n_6]) (rest := []) ⟨hx, hb, hml, hown, hts⟩ (r_addOne l dC dI ad sh0 ah v4_38 r_11 n_6 y0 y1 sh q1 q2 tn q3 q4 (.int sc) (.ref q5) al c1 f1 c2 f2 c3 y3 c4 y4 H.size hsh (by first | omega | decide | (simp only [fa_lt, fa_le, fa_eq, and_true, true_and, and_false, false_and, not_true_eq_false, not_false_eq_true, li_0, li_1, li_2, li_3, li_4, li_5, li_6, li_7, li_8, li_9, li_10, li_12, li_15, li_16, li_20, li_30, li_34, li_38, li_40, li_63, li_64, li_65, li_78, li_120, li_1000, li_4000, li_10000, li_11077, li_255, li_65535, li_m1, li_m2, li_m1000000001, li_m1000000002, li_m1000000003, li_m1000000004, li_m1000000005, li_m1000000006, li_m1000000007, or_true, true_or, or_false, false_or, implies_true, true_implies, false_implies] <;> omega))) (cwV 4 hts g_x_play_r_addOne_196 rfl rfl rfl (by decide +kernel) ⟨(Nat.le_of_ble_eq_true rfl), (Nat.le_of_ble_eq_true rfl)⟩) ⟨preM_blind, va_recv hKc hPc (ci := 3) (q0 := 0) rfl rfl, fun U hU hW => ⟨rfl, preM_at hU hW hPc hKc hDc hev⟩⟩ rfl rfl hl.1 rfl (lv_room (Nat.le_of_ble_eq_true rfl)) dX8_play_62 ⟨(Nat.le_of_ble_eq_true rfl), (Nat.le_of_ble_eq_true rfl)⟩) hS (fun q _ h => hFc q h) hFc (fun r_12 u t H1 locs ht hvm hw hB hz1 hk1 hS => ?_)
      obtain ⟨pl_13, lst_14, g_15, g_16, hP1, hK1, hD1⟩ := hB
      rw [ht] at hP1
      have hK1 := va_K.moved hvm.symm hK1
      obtain ⟨hP, hD⟩ := va_join (wr := [(h0, .inr (6, [.ref ah, v1, .ref sh0, v3, v4, v5, .ref t0, v7])), (t0, .inl (tc, 7, .inl tf)), (q5, .inl (c5, 7, .inr (.inl f5)))]) (w1 := [(sh0, .inr (3, [.int pl_13, .int lst_14])), (ah, .inr (4, [.int sh, .ref q1, .ref q2, .int tn, .ref q3, .ref q4, .int sc, .ref q5, .int al])), (q1, .inl (c1, 9, .inl f1)), (q2, .inl (c2, 9, .inl f2)), (q3, .inl (c3, 4, .inl g_15)), (q4, .inl (c4, 4, .inl g_16))]) hP hD [2, 6, 3, 4, 7, 8] [0, 1, 5] rfl rfl (by decide) (by decide) hk1 hFc hP1 hD1
      generalize H1 = H at hP hS ⊢
      have hP : va_P (dC, dI) vwCl [(h0, .inr (6, [.ref ah, v1, .ref sh0, v3, v4, v5, .ref t0, v7])), (t0, .inl (tc, 7, .inl tf)), (q5, .inl (c5, 7, .inr (.inl f5))), (sh0, .inr (3, [.int pl_13, .int lst_14])), (ah, .inr (4, [.int sh, .ref q1, .ref q2, .int tn, .ref q3, .ref q4, .int sc, .ref q5, .int al])), (q1, .inl (c1, 9, .inl f1)), (q2, .inl (c2, 9, .inl f2)), (q3, .inl (c3, 4, .inl g_15)), (q4, .inl (c4, 4, .inl g_16))] H := hP
      have hD : va_D A [(h0, .inr (6, [.ref ah, v1, .ref sh0, v3, v4, v5, .ref t0, v7])), (t0, .inl (tc, 7, .inl tf)), (q5, .inl (c5, 7, .inr (.inl f5))), (sh0, .inr (3, [.int pl_13, .int lst_14])), (ah, .inr (4, [.int sh, .ref q1, .ref q2, .int tn, .ref q3, .ref q4, .int sc, .ref q5, .int al])), (q1, .inl (c1, 9, .inl f1)), (q2, .inl (c2, 9, .inl f2)), (q3, .inl (c3, 4, .inl g_15)), (q4, .inl (c4, 4, .inl g_16))] := hD
      refine lv_if_ne (tgt := 71) hx hb dX8_play_65 (by decide) (fun c_17 => ?_) (fun c_17 => ?_)
      · skip
        have tc_17 : ¬ r_12.toInt = 0 := fun h => c_17 ((fa_eq _ _).mpr h)
        obtain ⟨n_18, en_18⟩ : ∃ y : Int32, y = v4_38 + 1 := ⟨_, rfl⟩
        have tn_18 : n_18.toInt = v4_38.toInt + 1 := pp_add en_18 rfl rfl (by omega) (by omega)
        refine lv_iinc (v := n_18) (lv' := [(4, .int n_18), (2, .long n_6), (0, .ref h0), (1, .int a)]) hx hb dX8_play_71 hl (k := 0) rfl (by rw [en_18]; rfl) (by decide) rfl (fun ls hl => ?_)
        clear en_18
        refine lv_goto (tgt := 38) hx hb dX8_play_74 (by decide) ?_
        exact ihk_7 (n_18, pl_13, lst_14, g_15, g_16) _ _ _ (by show (4 - n_18.toInt).toNat < k_7; omega) ⟨(by first | omega | decide | (simp only [fa_lt, fa_le, fa_eq, and_true, true_and, and_false, false_and, not_true_eq_false, not_false_eq_true, li_0, li_1, li_2, li_3, li_4, li_5, li_6, li_7, li_8, li_9, li_10, li_12, li_15, li_16, li_20, li_30, li_34, li_38, li_40, li_63, li_64, li_65, li_78, li_120, li_1000, li_4000, li_10000, li_11077, li_255, li_65535, li_m1, li_m2, li_m1000000001, li_m1000000002, li_m1000000003, li_m1000000004, li_m1000000005, li_m1000000006, li_m1000000007, or_true, true_or, or_false, false_or, implies_true, true_implies, false_implies] <;> omega)), (by first | omega | decide | (simp only [fa_lt, fa_le, fa_eq, and_true, true_and, and_false, false_and, not_true_eq_false, not_false_eq_true, li_0, li_1, li_2, li_3, li_4, li_5, li_6, li_7, li_8, li_9, li_10, li_12, li_15, li_16, li_20, li_30, li_34, li_38, li_40, li_63, li_64, li_65, li_78, li_120, li_1000, li_4000, li_10000, li_11077, li_255, li_65535, li_m1, li_m2, li_m1000000001, li_m1000000002, li_m1000000003, li_m1000000004, li_m1000000005, li_m1000000006, li_m1000000007, or_true, true_or, or_false, false_or, implies_true, true_implies, false_implies] <;> omega)), hP.sub [0, 1, 3, 5, 6, 2, 4, 7, 8] rfl, hD.sub [0, 1, 3, 5, 6, 2, 4, 7, 8] (by decide) rfl, hS, lv_sub hl [0, 1, 2, 3] rfl⟩
      · skip
        have tc_17 : r_12.toInt = 0 := (fa_eq _ _).mp c_17
        refine lv_goto (tgt := 77) hx hb dX8_play_68 (by decide) ?_
        refine lv_aload_n hx hb dX8_play_77 rfl (lv_at hl 2 rfl) ?_
        refine va_get (D := (dC, dI)) (ci := 6) (v := .ref ah) (C := RX8) (T := TX8) (N := 8) hx hb hts inX8 hown hK hP 0 rfl rfl 0 (by decide) (hts _ (List.mem_of_getElem? (i := 1) rfl)) (fun _ h9 => h9) rfl dX8_play_78 ?_
        have hPc := hP.sub (ws' := [(ah, .inr (4, [.int sh, .ref q1, .ref q2, .int tn, .ref q3, .ref q4, .int sc, .ref q5, .int al])), (q1, .inl (c1, 9, .inl f1)), (q2, .inl (c2, 9, .inl f2)), (q3, .inl (c3, 4, .inl g_15)), (q4, .inl (c4, 4, .inl g_16))]) [4, 5, 6, 7, 8] rfl
        have hKc := hK.sub (tys' := [(c1, .int), (c2, .int), (c3, .int), (c4, .int)]) [1, 2, 3, 4] rfl
        refine vp_callSl (W.runV (As := []) (rest := []) ⟨hx, hb, hml, hown, hts⟩ (s_darkCells l dC dI ad ah sh q1 q2 tn q3 q4 (.int sc) (.ref q5) (.int al) c1 f1 c2 f2 c3 g_15 c4 g_16 hsh) (cwV 0 hts g_x_play_s_darkCells_134 rfl rfl rfl (by decide +kernel) ⟨(Nat.le_of_ble_eq_true rfl), (Nat.le_of_ble_eq_true rfl)⟩) ⟨preS_blind, va_recv hKc hPc (ci := 4) (q0 := 0) rfl rfl, fun U hU hW => ⟨rfl, preS_at hU hW hPc hKc hev⟩⟩ rfl rfl hl.1 rfl (lv_room (Nat.le_of_ble_eq_true rfl)) dX8_play_81 ⟨(Nat.le_of_ble_eq_true rfl), (Nat.le_of_ble_eq_true rfl)⟩) (fun r_19 hw => ?_)
        refine lv_lload_n hx hb dX8_play_84 rfl (lv_at hl 1 rfl) ?_
        have hPc := hP.sub (ws' := []) [] rfl
        have hKc := hK.sub (tys' := []) [] rfl
        refine vp_callSi (W.runS (As := [.long r_19, .long n_6]) (rest := []) ⟨hx, hb, hml, hown, hts⟩ (l_cellsOff l dC dI ad r_19 n_6 ) (va_cwS 2 hts g_x_play_l_cellsOff_164 rfl rfl rfl (by decide +kernel) ⟨(Nat.le_of_ble_eq_true rfl), (Nat.le_of_ble_eq_true rfl)⟩) ⟨preS_blind, fun U hU hW => ⟨rfl, preS_at hU hW hPc hKc hev⟩⟩ rfl rfl hl.1 rfl (lv_room (Nat.le_of_ble_eq_true rfl)) dX8_play_85 ⟨(Nat.le_of_ble_eq_true rfl), (Nat.le_of_ble_eq_true rfl)⟩) (fun r_20 hw => ?_)
        have hP9 := hP.sub (ws' := [(h0, .inr (6, [.ref ah, v1, .ref sh0, v3, v4, v5, .ref t0, v7])), (t0, .inl (tc, 7, .inl tf)), (sh0, .inr (3, [.int pl_13, .int lst_14])), (ah, .inr (4, [.int sh, .ref q1, .ref q2, .int tn, .ref q3, .ref q4, .int sc, .ref q5, .int al])), (q1, .inl (c1, 9, .inl f1)), (q2, .inl (c2, 9, .inl f2)), (q3, .inl (c3, 4, .inl g_15)), (q4, .inl (c4, 4, .inl g_16)), (q5, .inl (c5, 7, .inr (.inl f5)))]) [0, 1, 3, 4, 5, 6, 7, 8, 2] rfl
        have hD9 := hD.sub (ws' := [(h0, .inr (6, [.ref ah, v1, .ref sh0, v3, v4, v5, .ref t0, v7])), (t0, .inl (tc, 7, .inl tf)), (sh0, .inr (3, [.int pl_13, .int lst_14])), (ah, .inr (4, [.int sh, .ref q1, .ref q2, .int tn, .ref q3, .ref q4, .int sc, .ref q5, .int al])), (q1, .inl (c1, 9, .inl f1)), (q2, .inl (c2, 9, .inl f2)), (q3, .inl (c3, 4, .inl g_15)), (q4, .inl (c4, 4, .inl g_16)), (q5, .inl (c5, 7, .inr (.inl f5)))]) [0, 1, 3, 4, 5, 6, 7, 8, 2] (by decide) rfl
        have hK9 := hK.sub (tys' := [(tc, .int), (c1, .int), (c2, .int), (c3, .int), (c4, .int), (c5, .long)]) [0, 1, 2, 3, 4, 5] rfl
        exact W.iret (v := r_20) hx hb hr (fun t ht hW => ⟨⟨r_20, (), rfl, trivial, tf, pl_13, lst_14, g_15, g_16, by rw [ht]; exact hP9, va_K.moved hW.alike hK9, hD9⟩, hS.F ht⟩) hS.2.2 dX8_play_88
  · skip
    have tc_2 : r_1.toInt = 0 := (fa_eq _ _).mp c_2
    refine lv_aload_n hx hb dX8_play_11 rfl (lv_at hl 0 rfl) ?_
    refine lv_ldc hx hb hown (hts _ (List.mem_of_getElem? (i := 124) rfl)) dX8_play_12 ?_
    have hPc := hP.sub (ws' := [(h0, .inr (6, [.ref ah, v1, .ref sh0, v3, v4, v5, .ref t0, v7])), (t0, .inl (tc, 7, .inl tf))]) [0, 1] rfl
    have hKc := hK.sub (tys' := [(tc, .int)]) [0] rfl
    have hDc := hD.sub (ws' := [(h0, .inr (6, [.ref ah, v1, .ref sh0, v3, v4, v5, .ref t0, v7])), (t0, .inl (tc, 7, .inl tf))]) [0, 1] (by decide) rfl
    have hFc := va_free (wc := [(h0, .inr (6, [.ref ah, v1, .ref sh0, v3, v4, v5, .ref t0, v7])), (t0, .inl (tc, 7, .inl tf))]) hD hS hA [0, 1] rfl
    refine va_calli (va_runV (As := [.int (-1000000001)]) (rest := []) ⟨hx, hb, hml, hown, hts⟩ (f_beyond l dC dI ad h0 (.ref ah) v1 (.ref sh0) v3 v4 v5 t0 v7 tc tf s.heap.size ) (cwV 1 hts g_x_play_f_beyond_63 rfl rfl rfl (by decide +kernel) ⟨(Nat.le_of_ble_eq_true rfl), (Nat.le_of_ble_eq_true rfl)⟩) ⟨preM_blind, va_recv hKc hPc (ci := 6) (q0 := 0) rfl rfl, fun U hU hW => ⟨rfl, preM_at hU hW hPc hKc hDc hev⟩⟩ rfl rfl hl.1 rfl (lv_room (Nat.le_of_ble_eq_true rfl)) dX8_play_14 ⟨(Nat.le_of_ble_eq_true rfl), (Nat.le_of_ble_eq_true rfl)⟩) hS (fun q _ h => hFc q h) hFc (fun r_21 u t H1 locs ht hvm hw hB hz1 hk1 hS => ?_)
    obtain ⟨tg_22, hP1, hK1, hD1⟩ := hB
    rw [ht] at hP1
    have hK1 := va_K.moved hvm.symm hK1
    obtain ⟨hP, hD⟩ := va_join (wr := [(sh0, .inr (3, [.int pl, .int lst])), (ah, .inr (4, [.int sh, .ref q1, .ref q2, .int tn, .ref q3, .ref q4, .int sc, .ref q5, .int al])), (q1, .inl (c1, 9, .inl f1)), (q2, .inl (c2, 9, .inl f2)), (q3, .inl (c3, 4, .inl f3)), (q4, .inl (c4, 4, .inl f4)), (q5, .inl (c5, 7, .inr (.inl f5)))]) (w1 := [(h0, .inr (6, [.ref ah, v1, .ref sh0, v3, v4, v5, .ref t0, v7])), (t0, .inl (tc, 7, .inl tg_22))]) hP hD [0, 1] [2, 3, 4, 5, 6, 7, 8] rfl rfl (by decide) (by decide) hk1 hFc hP1 hD1
    generalize H1 = H at hP hS ⊢
    have hP : va_P (dC, dI) vwCl [(sh0, .inr (3, [.int pl, .int lst])), (ah, .inr (4, [.int sh, .ref q1, .ref q2, .int tn, .ref q3, .ref q4, .int sc, .ref q5, .int al])), (q1, .inl (c1, 9, .inl f1)), (q2, .inl (c2, 9, .inl f2)), (q3, .inl (c3, 4, .inl f3)), (q4, .inl (c4, 4, .inl f4)), (q5, .inl (c5, 7, .inr (.inl f5))), (h0, .inr (6, [.ref ah, v1, .ref sh0, v3, v4, v5, .ref t0, v7])), (t0, .inl (tc, 7, .inl tg_22))] H := hP
    have hD : va_D A [(sh0, .inr (3, [.int pl, .int lst])), (ah, .inr (4, [.int sh, .ref q1, .ref q2, .int tn, .ref q3, .ref q4, .int sc, .ref q5, .int al])), (q1, .inl (c1, 9, .inl f1)), (q2, .inl (c2, 9, .inl f2)), (q3, .inl (c3, 4, .inl f3)), (q4, .inl (c4, 4, .inl f4)), (q5, .inl (c5, 7, .inr (.inl f5))), (h0, .inr (6, [.ref ah, v1, .ref sh0, v3, v4, v5, .ref t0, v7])), (t0, .inl (tc, 7, .inl tg_22))] := hD
    subst hw
    have hP9 := hP.sub (ws' := [(h0, .inr (6, [.ref ah, v1, .ref sh0, v3, v4, v5, .ref t0, v7])), (t0, .inl (tc, 7, .inl tg_22)), (sh0, .inr (3, [.int pl, .int lst])), (ah, .inr (4, [.int sh, .ref q1, .ref q2, .int tn, .ref q3, .ref q4, .int sc, .ref q5, .int al])), (q1, .inl (c1, 9, .inl f1)), (q2, .inl (c2, 9, .inl f2)), (q3, .inl (c3, 4, .inl f3)), (q4, .inl (c4, 4, .inl f4)), (q5, .inl (c5, 7, .inr (.inl f5)))]) [7, 8, 0, 1, 2, 3, 4, 5, 6] rfl
    have hD9 := hD.sub (ws' := [(h0, .inr (6, [.ref ah, v1, .ref sh0, v3, v4, v5, .ref t0, v7])), (t0, .inl (tc, 7, .inl tg_22)), (sh0, .inr (3, [.int pl, .int lst])), (ah, .inr (4, [.int sh, .ref q1, .ref q2, .int tn, .ref q3, .ref q4, .int sc, .ref q5, .int al])), (q1, .inl (c1, 9, .inl f1)), (q2, .inl (c2, 9, .inl f2)), (q3, .inl (c3, 4, .inl f3)), (q4, .inl (c4, 4, .inl f4)), (q5, .inl (c5, 7, .inr (.inl f5)))]) [7, 8, 0, 1, 2, 3, 4, 5, 6] (by decide) rfl
    have hK9 := hK.sub (tys' := [(tc, .int), (c1, .int), (c2, .int), (c3, .int), (c4, .int), (c5, .long)]) [0, 1, 2, 3, 4, 5] rfl
    exact W.iret (v := ((-1000000001) : Int32)) hx hb hr (fun t ht hW => ⟨⟨((-1000000001) : Int32), (), rfl, trivial, tg_22, pl, lst, f3, f4, by rw [ht]; exact hP9, va_K.moved hW.alike hK9, hD9⟩, hS.F ht⟩) hS.2.2 dX8_play_17

def w_x_allow : List Cond := .code yX8_allow cX8_allow 3 (some .int) :: (([.constant RX8 62 (-1000000001), .methodLink RX8 63 yX8_finding, .instanceMethod yX8_finding, .selects RX8 yX8_finding yX8_finding, .initialized RX8, .code yX8_finding cX8_finding 3 (some .int), .fieldLink RX8 46 "LampShapes" "told" "[I", .fieldLink RX8 10 "LampShapes" "now" "LLampShapes$Stage;"] : List Cond) ++ wsX80 ++ wsX60)
set_option maxRecDepth 20000 in
theorem g_x_allow_f_beyond_63 : GoodIn w_x_allow (wsV RX8 63 RX8 yX8_finding w_f_beyond) := goodIn_r _ [2, 3, 4, 5, 6, 1, 7, 9, 10, 11, 12, 13, 14, 15, 16] rfl (by decide +kernel)
set_option maxHeartbeats 4000000 in
set_option maxRecDepth 100000 in
theorem x_allow (l : Launch) (dC : Nat → ClassId) (dI : Nat → Nat → Nat) (ad : Nat → Nat) (h0 : Nat) (a : Int32) (ah : Nat) (v1 : Value) (v2 : Value) (v3 : Value) (v4 : Value) (v5 : Value) (t0 : Nat) (v7 : Value) (tc : ClassId) (tf : Nat → Int32) (w0 : Value) (w1 : Value) (w2 : Value) (w3 : Value) (w4 : Value) (w5 : Value) (w6 : Value) (w7 : Value) (al : Int32) (sz : Nat) : Met l yX8_allow w_x_allow ({ frames := 1, cells := 0, slots := 0, locals := 22 } : Room) (va_Pc [.ref h0, .int a] (preM dC dI ad [(tc, .int)] [(h0, .inr (6, [.ref ah, v1, v2, v3, v4, v5, .ref t0, v7])), (t0, .inl (tc, 7, .inl tf)), (ah, .inr (4, [w0, w1, w2, w3, w4, w5, w6, w7, .int al]))] sz)) (va_Qi (fun (r : Int32) (_ : Unit) => ((0 ≤ a.toInt ∧ a.toInt ≤ 63 ∧ ¬ (a &&& 15).toInt = 0 ∧ 15 < a.toInt) → r.toInt = al.toInt) ∧ (¬ (0 ≤ a.toInt ∧ a.toInt ≤ 63 ∧ ¬ (a &&& 15).toInt = 0 ∧ 15 < a.toInt) → r.toInt = (-1000000001))) (fun _ t => ∃ (tg : Nat → Int32), ∃ (al2 : Int32), (((0 ≤ a.toInt ∧ a.toInt ≤ 63 ∧ ¬ (a &&& 15).toInt = 0 ∧ 15 < a.toInt) → al2.toInt = a.toInt) ∧ (¬ (0 ≤ a.toInt ∧ a.toInt ≤ 63 ∧ ¬ (a &&& 15).toInt = 0 ∧ 15 < a.toInt) → al2.toInt = al.toInt)) ∧ va_P (dC, dI) vwCl [(h0, .inr (6, [.ref ah, v1, v2, v3, v4, v5, .ref t0, v7])), (t0, .inl (tc, 7, .inl tg)), (ah, .inr (4, [w0, w1, w2, w3, w4, w5, w6, w7, .int al2]))] t.heap ∧ va_K (dC, dI) vwCl [(tc, .int)] t ∧ va_D (va_A [(h0, .inr (6, [.ref ah, v1, v2, v3, v4, v5, .ref t0, v7])), (t0, .inl (tc, 7, .inl tf)), (ah, .inr (4, [w0, w1, w2, w3, w4, w5, w6, w7, .int al]))] sz) [(h0, .inr (6, [.ref ah, v1, v2, v3, v4, v5, .ref t0, v7])), (t0, .inl (tc, 7, .inl tg)), (ah, .inr (4, [w0, w1, w2, w3, w4, w5, w6, w7, .int al2]))]) (va_A [(h0, .inr (6, [.ref ah, v1, v2, v3, v4, v5, .ref t0, v7])), (t0, .inl (tc, 7, .inl tf)), (ah, .inr (4, [w0, w1, w2, w3, w4, w5, w6, w7, .int al]))] sz)) 0 0 (va_A [(h0, .inr (6, [.ref ah, v1, v2, v3, v4, v5, .ref t0, v7])), (t0, .inl (tc, 7, .inl tf)), (ah, .inr (4, [w0, w1, w2, w3, w4, w5, w6, w7, .int al]))] sz) := by
  refine Met.ofW (cc := cX8_allow) (maxL := 3) (ret := (some .int)) (by decide) rfl ?_
  intro p e s m args below meth c s₁ B hml hv
  obtain ⟨rfl, hsz, hP, hK, hD0, hev⟩ := hv
  have hx := B.exec
  have hb := B.bytes
  have hr := B.returns
  have hts := atoms_spec (ws := w_x_allow) B.pre
  have hown : s.vm.findClass RX8 = some m.cls := findClass_of_methodNamed B.named
  have hlocks := B.notSynchronized
  have inX8 : ∀ w ∈ wsX80, w ∈ w_x_allow := fun w h => List.mem_cons_of_mem _ (List.mem_append_left _ (List.mem_append_right _ h))
  have inX6 : ∀ w ∈ wsX60, w ∈ w_x_allow := fun w h => List.mem_cons_of_mem _ (List.mem_append_right _ h)
  subst hsz
  have hD := hD0.self (sz := s.heap.size)
  generalize hAe : va_A [(h0, .inr (6, [.ref ah, v1, v2, v3, v4, v5, .ref t0, v7])), (t0, .inl (tc, 7, .inl tf)), (ah, .inr (4, [w0, w1, w2, w3, w4, w5, w6, w7, .int al]))] s.heap.size = A at hD ⊢
  have hA : ∀ q : Nat, s.heap.size ≤ q → A q := fun q h => by rw [← hAe]; exact Or.inr h
  have hS : va_S A s.heap s.heap [] := va_S.rf
  have hP : va_P (dC, dI) vwCl [(h0, .inr (6, [.ref ah, v1, v2, v3, v4, v5, .ref t0, v7])), (t0, .inl (tc, 7, .inl tf)), (ah, .inr (4, [w0, w1, w2, w3, w4, w5, w6, w7, .int al]))] s.heap := hP
  have hl := lv_entry ([.ref h0, .int a]) (n := 3) (Nat.le_of_ble_eq_true rfl)
  rw [lg_entry_eq]
  generalize (lg_sl ([.ref h0, .int a]) ++ List.replicate (3 - (lg_sl ([.ref h0, .int a])).length) Slot.unset).toArray = ls at hl ⊢
  have hl : lv_has ls 3 [(0, .ref h0), (1, .int a)] := hl
  refine lv_iload_n hx hb dX8_allow_0 rfl (lv_at hl 1 rfl) ?_
  refine lv_if_lt (tgt := 23) hx hb dX8_allow_1 (by decide) (fun c_1 => ?_) (fun c_1 => ?_)
  · skip
    have tc_1 : a.toInt < 0 := (fa_lt _ _).mp c_1
    refine lv_aload_n hx hb dX8_allow_23 rfl (lv_at hl 0 rfl) ?_
    refine lv_ldc hx hb hown (hts _ (List.mem_of_getElem? (i := 1) rfl)) dX8_allow_24 ?_
    have hPc := hP.sub (ws' := [(h0, .inr (6, [.ref ah, v1, v2, v3, v4, v5, .ref t0, v7])), (t0, .inl (tc, 7, .inl tf))]) [0, 1] rfl
    have hKc := hK.sub (tys' := [(tc, .int)]) [0] rfl
    have hDc := hD.sub (ws' := [(h0, .inr (6, [.ref ah, v1, v2, v3, v4, v5, .ref t0, v7])), (t0, .inl (tc, 7, .inl tf))]) [0, 1] (by decide) rfl
    have hFc := va_free (wc := [(h0, .inr (6, [.ref ah, v1, v2, v3, v4, v5, .ref t0, v7])), (t0, .inl (tc, 7, .inl tf))]) hD hS hA [0, 1] rfl
    refine va_calli (va_runV (As := [.int (-1000000001)]) (rest := []) ⟨hx, hb, hml, hown, hts⟩ (f_beyond l dC dI ad h0 (.ref ah) v1 v2 v3 v4 v5 t0 v7 tc tf s.heap.size ) (cwV 1 hts g_x_allow_f_beyond_63 rfl rfl rfl (by decide +kernel) ⟨(Nat.le_of_ble_eq_true rfl), (Nat.le_of_ble_eq_true rfl)⟩) ⟨preM_blind, va_recv hKc hPc (ci := 6) (q0 := 0) rfl rfl, fun U hU hW => ⟨rfl, preM_at hU hW hPc hKc hDc hev⟩⟩ rfl rfl hl.1 rfl (lv_room (Nat.le_of_ble_eq_true rfl)) dX8_allow_26 ⟨(Nat.le_of_ble_eq_true rfl), (Nat.le_of_ble_eq_true rfl)⟩) hS (fun q _ h => hFc q h) hFc (fun r_2 u t H1 locs ht hvm hw hB hz1 hk1 hS => ?_)
    obtain ⟨tg_3, hP1, hK1, hD1⟩ := hB
    rw [ht] at hP1
    have hK1 := va_K.moved hvm.symm hK1
    obtain ⟨hP, hD⟩ := va_join (wr := [(ah, .inr (4, [w0, w1, w2, w3, w4, w5, w6, w7, .int al]))]) (w1 := [(h0, .inr (6, [.ref ah, v1, v2, v3, v4, v5, .ref t0, v7])), (t0, .inl (tc, 7, .inl tg_3))]) hP hD [0, 1] [2] rfl rfl (by decide) (by decide) hk1 hFc hP1 hD1
    generalize H1 = H at hP hS ⊢
    have hP : va_P (dC, dI) vwCl [(ah, .inr (4, [w0, w1, w2, w3, w4, w5, w6, w7, .int al])), (h0, .inr (6, [.ref ah, v1, v2, v3, v4, v5, .ref t0, v7])), (t0, .inl (tc, 7, .inl tg_3))] H := hP
    have hD : va_D A [(ah, .inr (4, [w0, w1, w2, w3, w4, w5, w6, w7, .int al])), (h0, .inr (6, [.ref ah, v1, v2, v3, v4, v5, .ref t0, v7])), (t0, .inl (tc, 7, .inl tg_3))] := hD
    subst hw
    have hP9 := hP.sub (ws' := [(h0, .inr (6, [.ref ah, v1, v2, v3, v4, v5, .ref t0, v7])), (t0, .inl (tc, 7, .inl tg_3)), (ah, .inr (4, [w0, w1, w2, w3, w4, w5, w6, w7, .int al]))]) [1, 2, 0] rfl
    have hD9 := hD.sub (ws' := [(h0, .inr (6, [.ref ah, v1, v2, v3, v4, v5, .ref t0, v7])), (t0, .inl (tc, 7, .inl tg_3)), (ah, .inr (4, [w0, w1, w2, w3, w4, w5, w6, w7, .int al]))]) [1, 2, 0] (by decide) rfl
    have hK9 := hK.sub (tys' := [(tc, .int)]) [0] rfl
    exact W.iret (v := ((-1000000001) : Int32)) hx hb hr (fun t ht hW => ⟨⟨((-1000000001) : Int32), (), rfl, (by first | omega | decide | (simp only [fa_lt, fa_le, fa_eq, and_true, true_and, and_false, false_and, not_true_eq_false, not_false_eq_true, li_0, li_1, li_2, li_3, li_4, li_5, li_6, li_7, li_8, li_9, li_10, li_12, li_15, li_16, li_20, li_30, li_34, li_38, li_40, li_63, li_64, li_65, li_78, li_120, li_1000, li_4000, li_10000, li_11077, li_255, li_65535, li_m1, li_m2, li_m1000000001, li_m1000000002, li_m1000000003, li_m1000000004, li_m1000000005, li_m1000000006, li_m1000000007, or_true, true_or, or_false, false_or, implies_true, true_implies, false_implies] <;> omega)), tg_3, al, (by first | omega | decide | (simp only [fa_lt, fa_le, fa_eq, and_true, true_and, and_false, false_and, not_true_eq_false, not_false_eq_true, li_0, li_1, li_2, li_3, li_4, li_5, li_6, li_7, li_8, li_9, li_10, li_12, li_15, li_16, li_20, li_30, li_34, li_38, li_40, li_63, li_64, li_65, li_78, li_120, li_1000, li_4000, li_10000, li_11077, li_255, li_65535, li_m1, li_m2, li_m1000000001, li_m1000000002, li_m1000000003, li_m1000000004, li_m1000000005, li_m1000000006, li_m1000000007, or_true, true_or, or_false, false_or, implies_true, true_implies, false_implies] <;> omega)), by rw [ht]; exact hP9, va_K.moved hW.alike hK9, hD9⟩, hS.F ht⟩) hS.2.2 dX8_allow_29
  · skip
    have tc_1 : ¬ a.toInt < 0 := fun h => c_1 ((fa_lt _ _).mpr h)
    refine lv_iload_n hx hb dX8_allow_4 rfl (lv_at hl 1 rfl) ?_
    refine lv_bipush (v := 63) hx hb dX8_allow_5 (by decide) ?_
    refine lv_icmp_gt (tgt := 23) hx hb dX8_allow_7 (by decide) (fun c_4 => ?_) (fun c_4 => ?_)
    · skip
      have tc_4 : 63 < a.toInt := (fa_lt _ _).mp c_4
      refine lv_aload_n hx hb dX8_allow_23 rfl (lv_at hl 0 rfl) ?_
      refine lv_ldc hx hb hown (hts _ (List.mem_of_getElem? (i := 1) rfl)) dX8_allow_24 ?_
      have hPc := hP.sub (ws' := [(h0, .inr (6, [.ref ah, v1, v2, v3, v4, v5, .ref t0, v7])), (t0, .inl (tc, 7, .inl tf))]) [0, 1] rfl
      have hKc := hK.sub (tys' := [(tc, .int)]) [0] rfl
      have hDc := hD.sub (ws' := [(h0, .inr (6, [.ref ah, v1, v2, v3, v4, v5, .ref t0, v7])), (t0, .inl (tc, 7, .inl tf))]) [0, 1] (by decide) rfl
      have hFc := va_free (wc := [(h0, .inr (6, [.ref ah, v1, v2, v3, v4, v5, .ref t0, v7])), (t0, .inl (tc, 7, .inl tf))]) hD hS hA [0, 1] rfl
      refine va_calli (va_runV (As := [.int (-1000000001)]) (rest := []) ⟨hx, hb, hml, hown, hts⟩ (f_beyond l dC dI ad h0 (.ref ah) v1 v2 v3 v4 v5 t0 v7 tc tf s.heap.size ) (cwV 1 hts g_x_allow_f_beyond_63 rfl rfl rfl (by decide +kernel) ⟨(Nat.le_of_ble_eq_true rfl), (Nat.le_of_ble_eq_true rfl)⟩) ⟨preM_blind, va_recv hKc hPc (ci := 6) (q0 := 0) rfl rfl, fun U hU hW => ⟨rfl, preM_at hU hW hPc hKc hDc hev⟩⟩ rfl rfl hl.1 rfl (lv_room (Nat.le_of_ble_eq_true rfl)) dX8_allow_26 ⟨(Nat.le_of_ble_eq_true rfl), (Nat.le_of_ble_eq_true rfl)⟩) hS (fun q _ h => hFc q h) hFc (fun r_5 u t H1 locs ht hvm hw hB hz1 hk1 hS => ?_)
      obtain ⟨tg_6, hP1, hK1, hD1⟩ := hB
      rw [ht] at hP1
      have hK1 := va_K.moved hvm.symm hK1
      obtain ⟨hP, hD⟩ := va_join (wr := [(ah, .inr (4, [w0, w1, w2, w3, w4, w5, w6, w7, .int al]))]) (w1 := [(h0, .inr (6, [.ref ah, v1, v2, v3, v4, v5, .ref t0, v7])), (t0, .inl (tc, 7, .inl tg_6))]) hP hD [0, 1] [2] rfl rfl (by decide) (by decide) hk1 hFc hP1 hD1
      generalize H1 = H at hP hS ⊢
      have hP : va_P (dC, dI) vwCl [(ah, .inr (4, [w0, w1, w2, w3, w4, w5, w6, w7, .int al])), (h0, .inr (6, [.ref ah, v1, v2, v3, v4, v5, .ref t0, v7])), (t0, .inl (tc, 7, .inl tg_6))] H := hP
      have hD : va_D A [(ah, .inr (4, [w0, w1, w2, w3, w4, w5, w6, w7, .int al])), (h0, .inr (6, [.ref ah, v1, v2, v3, v4, v5, .ref t0, v7])), (t0, .inl (tc, 7, .inl tg_6))] := hD
      subst hw
      have hP9 := hP.sub (ws' := [(h0, .inr (6, [.ref ah, v1, v2, v3, v4, v5, .ref t0, v7])), (t0, .inl (tc, 7, .inl tg_6)), (ah, .inr (4, [w0, w1, w2, w3, w4, w5, w6, w7, .int al]))]) [1, 2, 0] rfl
      have hD9 := hD.sub (ws' := [(h0, .inr (6, [.ref ah, v1, v2, v3, v4, v5, .ref t0, v7])), (t0, .inl (tc, 7, .inl tg_6)), (ah, .inr (4, [w0, w1, w2, w3, w4, w5, w6, w7, .int al]))]) [1, 2, 0] (by decide) rfl
      have hK9 := hK.sub (tys' := [(tc, .int)]) [0] rfl
      exact W.iret (v := ((-1000000001) : Int32)) hx hb hr (fun t ht hW => ⟨⟨((-1000000001) : Int32), (), rfl, (by first | omega | decide | (simp only [fa_lt, fa_le, fa_eq, and_true, true_and, and_false, false_and, not_true_eq_false, not_false_eq_true, li_0, li_1, li_2, li_3, li_4, li_5, li_6, li_7, li_8, li_9, li_10, li_12, li_15, li_16, li_20, li_30, li_34, li_38, li_40, li_63, li_64, li_65, li_78, li_120, li_1000, li_4000, li_10000, li_11077, li_255, li_65535, li_m1, li_m2, li_m1000000001, li_m1000000002, li_m1000000003, li_m1000000004, li_m1000000005, li_m1000000006, li_m1000000007, or_true, true_or, or_false, false_or, implies_true, true_implies, false_implies] <;> omega)), tg_6, al, (by first | omega | decide | (simp only [fa_lt, fa_le, fa_eq, and_true, true_and, and_false, false_and, not_true_eq_false, not_false_eq_true, li_0, li_1, li_2, li_3, li_4, li_5, li_6, li_7, li_8, li_9, li_10, li_12, li_15, li_16, li_20, li_30, li_34, li_38, li_40, li_63, li_64, li_65, li_78, li_120, li_1000, li_4000, li_10000, li_11077, li_255, li_65535, li_m1, li_m2, li_m1000000001, li_m1000000002, li_m1000000003, li_m1000000004, li_m1000000005, li_m1000000006, li_m1000000007, or_true, true_or, or_false, false_or, implies_true, true_implies, false_implies] <;> omega)), by rw [ht]; exact hP9, va_K.moved hW.alike hK9, hD9⟩, hS.F ht⟩) hS.2.2 dX8_allow_29
    · skip
      have tc_4 : ¬ 63 < a.toInt := fun h => c_4 ((fa_lt _ _).mpr h)
      refine lv_iload_n hx hb dX8_allow_10 rfl (lv_at hl 1 rfl) ?_
      refine lv_bipush (v := 15) hx hb dX8_allow_11 (by decide) ?_
      refine lv_iand hx hb dX8_allow_13 ?_
      refine lv_topi (fun n_7 en_7 => ?_)
      have tn_7 : n_7.toInt = (a &&& 15).toInt := by rw [en_7]
      clear en_7
      refine lv_if_eq (tgt := 23) hx hb dX8_allow_14 (by decide) (fun c_8 => ?_) (fun c_8 => ?_)
      · skip
        have tc_8 : n_7.toInt = 0 := (fa_eq _ _).mp c_8
        refine lv_aload_n hx hb dX8_allow_23 rfl (lv_at hl 0 rfl) ?_
        refine lv_ldc hx hb hown (hts _ (List.mem_of_getElem? (i := 1) rfl)) dX8_allow_24 ?_
        have hPc := hP.sub (ws' := [(h0, .inr (6, [.ref ah, v1, v2, v3, v4, v5, .ref t0, v7])), (t0, .inl (tc, 7, .inl tf))]) [0, 1] rfl
        have hKc := hK.sub (tys' := [(tc, .int)]) [0] rfl
        have hDc := hD.sub (ws' := [(h0, .inr (6, [.ref ah, v1, v2, v3, v4, v5, .ref t0, v7])), (t0, .inl (tc, 7, .inl tf))]) [0, 1] (by decide) rfl
        have hFc := va_free (wc := [(h0, .inr (6, [.ref ah, v1, v2, v3, v4, v5, .ref t0, v7])), (t0, .inl (tc, 7, .inl tf))]) hD hS hA [0, 1] rfl
        refine va_calli (va_runV (As := [.int (-1000000001)]) (rest := []) ⟨hx, hb, hml, hown, hts⟩ (f_beyond l dC dI ad h0 (.ref ah) v1 v2 v3 v4 v5 t0 v7 tc tf s.heap.size ) (cwV 1 hts g_x_allow_f_beyond_63 rfl rfl rfl (by decide +kernel) ⟨(Nat.le_of_ble_eq_true rfl), (Nat.le_of_ble_eq_true rfl)⟩) ⟨preM_blind, va_recv hKc hPc (ci := 6) (q0 := 0) rfl rfl, fun U hU hW => ⟨rfl, preM_at hU hW hPc hKc hDc hev⟩⟩ rfl rfl hl.1 rfl (lv_room (Nat.le_of_ble_eq_true rfl)) dX8_allow_26 ⟨(Nat.le_of_ble_eq_true rfl), (Nat.le_of_ble_eq_true rfl)⟩) hS (fun q _ h => hFc q h) hFc (fun r_9 u t H1 locs ht hvm hw hB hz1 hk1 hS => ?_)
        obtain ⟨tg_10, hP1, hK1, hD1⟩ := hB
        rw [ht] at hP1
        have hK1 := va_K.moved hvm.symm hK1
        obtain ⟨hP, hD⟩ := va_join (wr := [(ah, .inr (4, [w0, w1, w2, w3, w4, w5, w6, w7, .int al]))]) (w1 := [(h0, .inr (6, [.ref ah, v1, v2, v3, v4, v5, .ref t0, v7])), (t0, .inl (tc, 7, .inl tg_10))]) hP hD [0, 1] [2] rfl rfl (by decide) (by decide) hk1 hFc hP1 hD1
        generalize H1 = H at hP hS ⊢
        have hP : va_P (dC, dI) vwCl [(ah, .inr (4, [w0, w1, w2, w3, w4, w5, w6, w7, .int al])), (h0, .inr (6, [.ref ah, v1, v2, v3, v4, v5, .ref t0, v7])), (t0, .inl (tc, 7, .inl tg_10))] H := hP
        have hD : va_D A [(ah, .inr (4, [w0, w1, w2, w3, w4, w5, w6, w7, .int al])), (h0, .inr (6, [.ref ah, v1, v2, v3, v4, v5, .ref t0, v7])), (t0, .inl (tc, 7, .inl tg_10))] := hD
        subst hw
        have hP9 := hP.sub (ws' := [(h0, .inr (6, [.ref ah, v1, v2, v3, v4, v5, .ref t0, v7])), (t0, .inl (tc, 7, .inl tg_10)), (ah, .inr (4, [w0, w1, w2, w3, w4, w5, w6, w7, .int al]))]) [1, 2, 0] rfl
        have hD9 := hD.sub (ws' := [(h0, .inr (6, [.ref ah, v1, v2, v3, v4, v5, .ref t0, v7])), (t0, .inl (tc, 7, .inl tg_10)), (ah, .inr (4, [w0, w1, w2, w3, w4, w5, w6, w7, .int al]))]) [1, 2, 0] (by decide) rfl
        have hK9 := hK.sub (tys' := [(tc, .int)]) [0] rfl
        exact W.iret (v := ((-1000000001) : Int32)) hx hb hr (fun t ht hW => ⟨⟨((-1000000001) : Int32), (), rfl, (by first | omega | decide | (simp only [fa_lt, fa_le, fa_eq, and_true, true_and, and_false, false_and, not_true_eq_false, not_false_eq_true, li_0, li_1, li_2, li_3, li_4, li_5, li_6, li_7, li_8, li_9, li_10, li_12, li_15, li_16, li_20, li_30, li_34, li_38, li_40, li_63, li_64, li_65, li_78, li_120, li_1000, li_4000, li_10000, li_11077, li_255, li_65535, li_m1, li_m2, li_m1000000001, li_m1000000002, li_m1000000003, li_m1000000004, li_m1000000005, li_m1000000006, li_m1000000007, or_true, true_or, or_false, false_or, implies_true, true_implies, false_implies] <;> omega)), tg_10, al, (by first | omega | decide | (simp only [fa_lt, fa_le, fa_eq, and_true, true_and, and_false, false_and, not_true_eq_false, not_false_eq_true, li_0, li_1, li_2, li_3, li_4, li_5, li_6, li_7, li_8, li_9, li_10, li_12, li_15, li_16, li_20, li_30, li_34, li_38, li_40, li_63, li_64, li_65, li_78, li_120, li_1000, li_4000, li_10000, li_11077, li_255, li_65535, li_m1, li_m2, li_m1000000001, li_m1000000002, li_m1000000003, li_m1000000004, li_m1000000005, li_m1000000006, li_m1000000007, or_true, true_or, or_false, false_or, implies_true, true_implies, false_implies] <;> omega)), by rw [ht]; exact hP9, va_K.moved hW.alike hK9, hD9⟩, hS.F ht⟩) hS.2.2 dX8_allow_29
      · skip
        have tc_8 : ¬ n_7.toInt = 0 := fun h => c_8 ((fa_eq _ _).mpr h)
        refine lv_iload_n hx hb dX8_allow_17 rfl (lv_at hl 1 rfl) ?_
        refine lv_iconst (v := 4) hx hb dX8_allow_18 (by decide) ?_
        refine lv_ishr hx hb dX8_allow_19 ?_
        refine lv_topi (fun n_11 en_11 => ?_)
        have tn_11 := pp_shr4t en_11
        clear en_11
        refine lv_if_ne (tgt := 30) hx hb dX8_allow_20 (by decide) (fun c_12 => ?_) (fun c_12 => ?_)
        · skip
          have tc_12 : ¬ n_11.toInt = 0 := fun h => c_12 ((fa_eq _ _).mpr h)
          refine lv_aload_n hx hb dX8_allow_30 rfl (lv_at hl 0 rfl) ?_
          refine va_get (D := (dC, dI)) (ci := 6) (v := .ref ah) (C := RX8) (T := TX8) (N := 8) hx hb hts inX8 hown hK hP 0 rfl rfl 0 (by decide) (hts _ (List.mem_of_getElem? (i := 8) rfl)) (fun _ h9 => h9) rfl dX8_allow_31 ?_
          refine va_getN (D := (dC, dI)) (ci := 4) (v := .int al) (C := RX6) (T := TX6) (N := 9) hx hb hts inX6 hown hK hP 2 rfl rfl 8 (by decide) (ev_nest hev 11 rfl) (fun _ h9 => h9) rfl dX8_allow_34 ?_
          refine lv_istore_n (lv' := [(2, .int al), (0, .ref h0), (1, .int a)]) hx hb dX8_allow_37 rfl hl (by decide) rfl (fun ls hl => ?_)
          refine lv_aload_n hx hb dX8_allow_38 rfl (lv_at hl 1 rfl) ?_
          refine va_get (D := (dC, dI)) (ci := 6) (v := .ref ah) (C := RX8) (T := TX8) (N := 8) hx hb hts inX8 hown hK hP 0 rfl rfl 0 (by decide) (hts _ (List.mem_of_getElem? (i := 8) rfl)) (fun _ h9 => h9) rfl dX8_allow_39 ?_
          refine lv_iload_n hx hb dX8_allow_42 rfl (lv_at hl 2 rfl) ?_
          refine va_putN (D := (dC, dI)) (ci := 4) (v := .int a) (ty := .int) (C := RX6) (T := TX6) (N := 9) hx hb hts inX6 tyX6 tyX6_ok nmX6 hown hK hP hD hS 2 rfl rfl 8 (by decide) (ev_nest hev 11 rfl) (fun _ h9 => h9) rfl (by decide +kernel) rfl rfl (Nat.le_of_ble_eq_true rfl) dX8_allow_43 (fun H locs hP hD hS => ?_)
          have hP : va_P (dC, dI) vwCl [(h0, .inr (6, [.ref ah, v1, v2, v3, v4, v5, .ref t0, v7])), (t0, .inl (tc, 7, .inl tf)), (ah, .inr (4, [w0, w1, w2, w3, w4, w5, w6, w7, .int a]))] H := hP
          have hD : va_D A [(h0, .inr (6, [.ref ah, v1, v2, v3, v4, v5, .ref t0, v7])), (t0, .inl (tc, 7, .inl tf)), (ah, .inr (4, [w0, w1, w2, w3, w4, w5, w6, w7, .int a]))] := hD
          refine lv_iload_n hx hb dX8_allow_46 rfl (lv_at hl 0 rfl) ?_
          have hP9 := hP.sub (ws' := [(h0, .inr (6, [.ref ah, v1, v2, v3, v4, v5, .ref t0, v7])), (t0, .inl (tc, 7, .inl tf)), (ah, .inr (4, [w0, w1, w2, w3, w4, w5, w6, w7, .int a]))]) [0, 1, 2] rfl
          have hD9 := hD.sub (ws' := [(h0, .inr (6, [.ref ah, v1, v2, v3, v4, v5, .ref t0, v7])), (t0, .inl (tc, 7, .inl tf)), (ah, .inr (4, [w0, w1, w2, w3, w4, w5, w6, w7, .int a]))]) [0, 1, 2] (by decide) rfl
          have hK9 := hK.sub (tys' := [(tc, .int)]) [0] rfl
          exact W.iret (v := al) hx hb hr (fun t ht hW => ⟨⟨al, (), rfl, (by first | omega | decide | (simp only [fa_lt, fa_le, fa_eq, and_true, true_and, and_false, false_and, not_true_eq_false, not_false_eq_true, li_0, li_1, li_2, li_3, li_4, li_5, li_6, li_7, li_8, li_9, li_10, li_12, li_15, li_16, li_20, li_30, li_34, li_38, li_40, li_63, li_64, li_65, li_78, li_120, li_1000, li_4000, li_10000, li_11077, li_255, li_65535, li_m1, li_m2, li_m1000000001, li_m1000000002, li_m1000000003, li_m1000000004, li_m1000000005, li_m1000000006, li_m1000000007, or_true, true_or, or_false, false_or, implies_true, true_implies, false_implies] <;> omega)), tf, a, (by first | omega | decide | (simp only [fa_lt, fa_le, fa_eq, and_true, true_and, and_false, false_and, not_true_eq_false, not_false_eq_true, li_0, li_1, li_2, li_3, li_4, li_5, li_6, li_7, li_8, li_9, li_10, li_12, li_15, li_16, li_20, li_30, li_34, li_38, li_40, li_63, li_64, li_65, li_78, li_120, li_1000, li_4000, li_10000, li_11077, li_255, li_65535, li_m1, li_m2, li_m1000000001, li_m1000000002, li_m1000000003, li_m1000000004, li_m1000000005, li_m1000000006, li_m1000000007, or_true, true_or, or_false, false_or, implies_true, true_implies, false_implies] <;> omega)), by rw [ht]; exact hP9, va_K.moved hW.alike hK9, hD9⟩, hS.F ht⟩) hS.2.2 dX8_allow_47
        · skip
          have tc_12 : n_11.toInt = 0 := (fa_eq _ _).mp c_12
          refine lv_aload_n hx hb dX8_allow_23 rfl (lv_at hl 0 rfl) ?_
          refine lv_ldc hx hb hown (hts _ (List.mem_of_getElem? (i := 1) rfl)) dX8_allow_24 ?_
          have hPc := hP.sub (ws' := [(h0, .inr (6, [.ref ah, v1, v2, v3, v4, v5, .ref t0, v7])), (t0, .inl (tc, 7, .inl tf))]) [0, 1] rfl
          have hKc := hK.sub (tys' := [(tc, .int)]) [0] rfl
          have hDc := hD.sub (ws' := [(h0, .inr (6, [.ref ah, v1, v2, v3, v4, v5, .ref t0, v7])), (t0, .inl (tc, 7, .inl tf))]) [0, 1] (by decide) rfl
          have hFc := va_free (wc := [(h0, .inr (6, [.ref ah, v1, v2, v3, v4, v5, .ref t0, v7])), (t0, .inl (tc, 7, .inl tf))]) hD hS hA [0, 1] rfl
          refine va_calli (va_runV (As := [.int (-1000000001)]) (rest := []) ⟨hx, hb, hml, hown, hts⟩ (f_beyond l dC dI ad h0 (.ref ah) v1 v2 v3 v4 v5 t0 v7 tc tf s.heap.size ) (cwV 1 hts g_x_allow_f_beyond_63 rfl rfl rfl (by decide +kernel) ⟨(Nat.le_of_ble_eq_true rfl), (Nat.le_of_ble_eq_true rfl)⟩) ⟨preM_blind, va_recv hKc hPc (ci := 6) (q0 := 0) rfl rfl, fun U hU hW => ⟨rfl, preM_at hU hW hPc hKc hDc hev⟩⟩ rfl rfl hl.1 rfl (lv_room (Nat.le_of_ble_eq_true rfl)) dX8_allow_26 ⟨(Nat.le_of_ble_eq_true rfl), (Nat.le_of_ble_eq_true rfl)⟩) hS (fun q _ h => hFc q h) hFc (fun r_13 u t H1 locs ht hvm hw hB hz1 hk1 hS => ?_)
          obtain ⟨tg_14, hP1, hK1, hD1⟩ := hB
          rw [ht] at hP1
          have hK1 := va_K.moved hvm.symm hK1
          obtain ⟨hP, hD⟩ := va_join (wr := [(ah, .inr (4, [w0, w1, w2, w3, w4, w5, w6, w7, .int al]))]) (w1 := [(h0, .inr (6, [.ref ah, v1, v2, v3, v4, v5, .ref t0, v7])), (t0, .inl (tc, 7, .inl tg_14))]) hP hD [0, 1] [2] rfl rfl (by decide) (by decide) hk1 hFc hP1 hD1
          generalize H1 = H at hP hS ⊢
          have hP : va_P (dC, dI) vwCl [(ah, .inr (4, [w0, w1, w2, w3, w4, w5, w6, w7, .int al])), (h0, .inr (6, [.ref ah, v1, v2, v3, v4, v5, .ref t0, v7])), (t0, .inl (tc, 7, .inl tg_14))] H := hP
          have hD : va_D A [(ah, .inr (4, [w0, w1, w2, w3, w4, w5, w6, w7, .int al])), (h0, .inr (6, [.ref ah, v1, v2, v3, v4, v5, .ref t0, v7])), (t0, .inl (tc, 7, .inl tg_14))] := hD
          subst hw
          have hP9 := hP.sub (ws' := [(h0, .inr (6, [.ref ah, v1, v2, v3, v4, v5, .ref t0, v7])), (t0, .inl (tc, 7, .inl tg_14)), (ah, .inr (4, [w0, w1, w2, w3, w4, w5, w6, w7, .int al]))]) [1, 2, 0] rfl
          have hD9 := hD.sub (ws' := [(h0, .inr (6, [.ref ah, v1, v2, v3, v4, v5, .ref t0, v7])), (t0, .inl (tc, 7, .inl tg_14)), (ah, .inr (4, [w0, w1, w2, w3, w4, w5, w6, w7, .int al]))]) [1, 2, 0] (by decide) rfl
          have hK9 := hK.sub (tys' := [(tc, .int)]) [0] rfl
          exact W.iret (v := ((-1000000001) : Int32)) hx hb hr (fun t ht hW => ⟨⟨((-1000000001) : Int32), (), rfl, (by first | omega | decide | (simp only [fa_lt, fa_le, fa_eq, and_true, true_and, and_false, false_and, not_true_eq_false, not_false_eq_true, li_0, li_1, li_2, li_3, li_4, li_5, li_6, li_7, li_8, li_9, li_10, li_12, li_15, li_16, li_20, li_30, li_34, li_38, li_40, li_63, li_64, li_65, li_78, li_120, li_1000, li_4000, li_10000, li_11077, li_255, li_65535, li_m1, li_m2, li_m1000000001, li_m1000000002, li_m1000000003, li_m1000000004, li_m1000000005, li_m1000000006, li_m1000000007, or_true, true_or, or_false, false_or, implies_true, true_implies, false_implies] <;> omega)), tg_14, al, (by first | omega | decide | (simp only [fa_lt, fa_le, fa_eq, and_true, true_and, and_false, false_and, not_true_eq_false, not_false_eq_true, li_0, li_1, li_2, li_3, li_4, li_5, li_6, li_7, li_8, li_9, li_10, li_12, li_15, li_16, li_20, li_30, li_34, li_38, li_40, li_63, li_64, li_65, li_78, li_120, li_1000, li_4000, li_10000, li_11077, li_255, li_65535, li_m1, li_m2, li_m1000000001, li_m1000000002, li_m1000000003, li_m1000000004, li_m1000000005, li_m1000000006, li_m1000000007, or_true, true_or, or_false, false_or, implies_true, true_implies, false_implies] <;> omega)), by rw [ht]; exact hP9, va_K.moved hW.alike hK9, hD9⟩, hS.F ht⟩) hS.2.2 dX8_allow_29

def w_x_order : List Cond := .code yX8_order cX8_order 2 (some .int) :: (([.fieldLink RX8 10 "LampShapes" "now" "LLampShapes$Stage;", .fieldLink RX8 29 "LampShapes" "route" "LLampShapes$Route;", .methodLink RX8 211 yX3_plan, .instanceMethod yX3_plan, .selects RX3 yX3_plan yX3_plan, .initialized RX3, .code yX3_plan cX3_plan 6 none, .methodLink RX3 27 Lib.Math.min.name, .static Lib.Math.min.name, .initialized "java/lang/Math", .code Lib.Math.min.name Lib.Math.min.code 2 (some .int), .methodLink RX3 40 yX3_walk, .instanceMethod yX3_walk, .selects RX3 yX3_walk yX3_walk, .code yX3_walk cX3_walk 7 none, .fieldLink RX3 9 "LampShapes$Route" "cost" "I", .methodLink RX3 33 yX3_bestNext, .instanceMethod yX3_bestNext, .selects RX3 yX3_bestNext yX3_bestNext, .code yX3_bestNext cX3_bestNext 9 (some .int), .methodLink RX3 37 yX3_costVia, .instanceMethod yX3_costVia, .selects RX3 yX3_costVia yX3_costVia, .code yX3_costVia cX3_costVia 6 (some .int), .methodLink RX3 44 yX6_changesBetween, .instanceMethod yX6_changesBetween, .selects RX6 yX6_changesBetween yX6_changesBetween, .initialized RX6, .code yX6_changesBetween cX6_changesBetween 3 (some .int), .methodLink RX6 98 yX6_offBetween, .instanceMethod yX6_offBetween, .selects RX6 yX6_offBetween yX6_offBetween, .code yX6_offBetween cX6_offBetween 3 (some .int), .fieldLink RX6 34 "LampShapes$Stage" "pictures" "[J", .methodLink RX6 94 yX1_cellsOff, .static yX1_cellsOff, .initialized RX1, .code yX1_cellsOff cX1_cellsOff 4 (some .int), .methodLink RX1 15 yJ13_bitCount_95d88, .static yJ13_bitCount_95d88, .initialized RJ13, .code yJ13_bitCount_95d88 cJ13_bitCount_95d88 2 (some .int), .constantLong RJ13 314 (6148914691236517205), .constantLong RJ13 316 (3689348814741910323), .constantLong RJ13 318 (1085102592571150095), .fieldLink RX3 19 "LampShapes$Route" "rest" "[I", .fieldLink RX3 15 "LampShapes$Route" "steps" "[I", .constant RX8 149 (-1000000004), .methodLink RX8 63 yX8_finding, .instanceMethod yX8_finding, .selects RX8 yX8_finding yX8_finding, .initialized RX8, .code yX8_finding cX8_finding 3 (some .int), .constant RX8 62 (-1000000001), .fieldLink RX8 46 "LampShapes" "told" "[I", .constant RX8 210 (-1000000007)] : List Cond) ++ wsX80 ++ wsX60 ++ wsX30)
set_option maxRecDepth 20000 in
theorem g_x_order_o_plan_211 : GoodIn w_x_order (wsV RX8 211 RX3 yX3_plan w_o_plan) := goodIn_r _ [3, 4, 5, 6, 7, 8, 9, 10, 11, 12, 13, 14, 6, 15, 16, 17, 18, 19, 20, 21, 22, 23, 24, 25, 26, 27, 28, 29, 30, 31, 32, 33, 34, 35, 36, 37, 38, 39, 40, 41, 42, 43, 44, 45, 46, 47, 65, 66, 67, 68, 69, 70, 71, 72, 73, 74, 75, 76] rfl (by decide +kernel)
set_option maxRecDepth 20000 in
theorem g_x_order_f_none_63 : GoodIn w_x_order (wsV RX8 63 RX8 yX8_finding w_f_none) := goodIn_r _ [49, 50, 51, 52, 53, 54, 55, 57, 58, 59, 60, 61, 62, 63, 64] rfl (by decide +kernel)
set_option maxRecDepth 20000 in
theorem g_x_order_f_size_63 : GoodIn w_x_order (wsV RX8 63 RX8 yX8_finding w_f_size) := goodIn_r _ [49, 50, 51, 52, 53, 54, 55, 57, 58, 59, 60, 61, 62, 63, 64] rfl (by decide +kernel)
set_option maxRecDepth 20000 in
theorem g_x_order_f_beyond_63 : GoodIn w_x_order (wsV RX8 63 RX8 yX8_finding w_f_beyond) := goodIn_r _ [49, 50, 51, 52, 53, 54, 55, 57, 58, 59, 60, 61, 62, 63, 64] rfl (by decide +kernel)
set_option maxHeartbeats 4000000 in
set_option maxRecDepth 100000 in
theorem x_order (l : Launch) (dC : Nat → ClassId) (dI : Nat → Nat → Nat) (ad : Nat → Nat) (h0 : Nat) (a : Int32) (ah : Nat) (v1 : Value) (v2 : Value) (rh : Nat) (v4 : Value) (v5 : Value) (t0 : Nat) (v7 : Value) (tc : ClassId) (tf : Nat → Int32) (co : Int32) (qs : Nat) (qr : Nat) (cs : ClassId) (fs : Nat → Int32) (cr : ClassId) (fr : Nat → Int32) (w0 : Value) (w1 : Value) (w2 : Value) (w3 : Value) (w4 : Value) (w5 : Value) (sc : Int32) (q5 : Nat) (w8 : Value) (c5 : ClassId) (f5 : Nat → Int64) (sz : Nat) (hsc : 0 ≤ sc.toInt ∧ sc.toInt ≤ 7) : Met l yX8_order w_x_order ({ frames := 8, cells := 0, slots := 0, locals := 192 } : Room) (va_Pc [.ref h0, .int a] (preM dC dI ad [(tc, .int), (cs, .int), (cr, .int), (c5, .long)] [(h0, .inr (6, [.ref ah, v1, v2, .ref rh, v4, v5, .ref t0, v7])), (t0, .inl (tc, 7, .inl tf)), (rh, .inr (1, [.int co, .ref qs, .ref qr])), (qs, .inl (cs, 6, .inl fs)), (qr, .inl (cr, 384, .inl fr)), (ah, .inr (4, [w0, w1, w2, w3, w4, w5, .int sc, .ref q5, w8])), (q5, .inl (c5, 7, .inr (.inl f5)))] sz)) (va_Qi (fun (r : Int32) (_ : Unit) => True) (fun _ t => ∃ (tg : Nat → Int32), ∃ (co2 : Int32), ∃ (gs : Nat → Int32), ∃ (gr : Nat → Int32), va_P (dC, dI) vwCl [(h0, .inr (6, [.ref ah, v1, v2, .ref rh, v4, v5, .ref t0, v7])), (t0, .inl (tc, 7, .inl tg)), (rh, .inr (1, [.int co2, .ref qs, .ref qr])), (qs, .inl (cs, 6, .inl gs)), (qr, .inl (cr, 384, .inl gr)), (ah, .inr (4, [w0, w1, w2, w3, w4, w5, .int sc, .ref q5, w8])), (q5, .inl (c5, 7, .inr (.inl f5)))] t.heap ∧ va_K (dC, dI) vwCl [(tc, .int), (cs, .int), (cr, .int), (c5, .long)] t ∧ va_D (va_A [(h0, .inr (6, [.ref ah, v1, v2, .ref rh, v4, v5, .ref t0, v7])), (t0, .inl (tc, 7, .inl tf)), (rh, .inr (1, [.int co, .ref qs, .ref qr])), (qs, .inl (cs, 6, .inl fs)), (qr, .inl (cr, 384, .inl fr)), (ah, .inr (4, [w0, w1, w2, w3, w4, w5, .int sc, .ref q5, w8])), (q5, .inl (c5, 7, .inr (.inl f5)))] sz) [(h0, .inr (6, [.ref ah, v1, v2, .ref rh, v4, v5, .ref t0, v7])), (t0, .inl (tc, 7, .inl tg)), (rh, .inr (1, [.int co2, .ref qs, .ref qr])), (qs, .inl (cs, 6, .inl gs)), (qr, .inl (cr, 384, .inl gr)), (ah, .inr (4, [w0, w1, w2, w3, w4, w5, .int sc, .ref q5, w8])), (q5, .inl (c5, 7, .inr (.inl f5)))]) (va_A [(h0, .inr (6, [.ref ah, v1, v2, .ref rh, v4, v5, .ref t0, v7])), (t0, .inl (tc, 7, .inl tf)), (rh, .inr (1, [.int co, .ref qs, .ref qr])), (qs, .inl (cs, 6, .inl fs)), (qr, .inl (cr, 384, .inl fr)), (ah, .inr (4, [w0, w1, w2, w3, w4, w5, .int sc, .ref q5, w8])), (q5, .inl (c5, 7, .inr (.inl f5)))] sz)) 0 0 (va_A [(h0, .inr (6, [.ref ah, v1, v2, .ref rh, v4, v5, .ref t0, v7])), (t0, .inl (tc, 7, .inl tf)), (rh, .inr (1, [.int co, .ref qs, .ref qr])), (qs, .inl (cs, 6, .inl fs)), (qr, .inl (cr, 384, .inl fr)), (ah, .inr (4, [w0, w1, w2, w3, w4, w5, .int sc, .ref q5, w8])), (q5, .inl (c5, 7, .inr (.inl f5)))] sz) := by
  refine Met.ofW (cc := cX8_order) (maxL := 2) (ret := (some .int)) (by decide) rfl ?_
  intro p e s m args below meth c s₁ B hml hv
  obtain ⟨rfl, hsz, hP, hK, hD0, hev⟩ := hv
  have hx := B.exec
  have hb := B.bytes
  have hr := B.returns
  have hts := atoms_spec (ws := w_x_order) B.pre
  have hown : s.vm.findClass RX8 = some m.cls := findClass_of_methodNamed B.named
  have hlocks := B.notSynchronized
  have inX8 : ∀ w ∈ wsX80, w ∈ w_x_order := fun w h => List.mem_cons_of_mem _ (List.mem_append_left _ (List.mem_append_left _ (List.mem_append_right _ h)))
  have inX6 : ∀ w ∈ wsX60, w ∈ w_x_order := fun w h => List.mem_cons_of_mem _ (List.mem_append_left _ (List.mem_append_right _ h))
  have inX3 : ∀ w ∈ wsX30, w ∈ w_x_order := fun w h => List.mem_cons_of_mem _ (List.mem_append_right _ h)
  subst hsz
  have hD := hD0.self (sz := s.heap.size)
  generalize hAe : va_A [(h0, .inr (6, [.ref ah, v1, v2, .ref rh, v4, v5, .ref t0, v7])), (t0, .inl (tc, 7, .inl tf)), (rh, .inr (1, [.int co, .ref qs, .ref qr])), (qs, .inl (cs, 6, .inl fs)), (qr, .inl (cr, 384, .inl fr)), (ah, .inr (4, [w0, w1, w2, w3, w4, w5, .int sc, .ref q5, w8])), (q5, .inl (c5, 7, .inr (.inl f5)))] s.heap.size = A at hD ⊢
  have hA : ∀ q : Nat, s.heap.size ≤ q → A q := fun q h => by rw [← hAe]; exact Or.inr h
  have hS : va_S A s.heap s.heap [] := va_S.rf
  have hP : va_P (dC, dI) vwCl [(h0, .inr (6, [.ref ah, v1, v2, .ref rh, v4, v5, .ref t0, v7])), (t0, .inl (tc, 7, .inl tf)), (rh, .inr (1, [.int co, .ref qs, .ref qr])), (qs, .inl (cs, 6, .inl fs)), (qr, .inl (cr, 384, .inl fr)), (ah, .inr (4, [w0, w1, w2, w3, w4, w5, .int sc, .ref q5, w8])), (q5, .inl (c5, 7, .inr (.inl f5)))] s.heap := hP
  have hl := lv_entry ([.ref h0, .int a]) (n := 2) (Nat.le_of_ble_eq_true rfl)
  rw [lg_entry_eq]
  generalize (lg_sl ([.ref h0, .int a]) ++ List.replicate (2 - (lg_sl ([.ref h0, .int a])).length) Slot.unset).toArray = ls at hl ⊢
  have hl : lv_has ls 2 [(0, .ref h0), (1, .int a)] := hl
  refine lv_iload_n hx hb dX8_order_0 rfl (lv_at hl 1 rfl) ?_
  refine lv_iconst (v := (-1)) hx hb dX8_order_1 (by decide) ?_
  refine lv_icmp_ge (tgt := 12) hx hb dX8_order_2 (by decide) (fun c_1 => ?_) (fun c_1 => ?_)
  · skip
    have tc_1 : (-1) ≤ a.toInt := (fa_le _ _).mp c_1
    refine lv_aload_n hx hb dX8_order_12 rfl (lv_at hl 0 rfl) ?_
    refine va_get (D := (dC, dI)) (ci := 6) (v := .ref ah) (C := RX8) (T := TX8) (N := 8) hx hb hts inX8 hown hK hP 0 rfl rfl 0 (by decide) (hts _ (List.mem_of_getElem? (i := 1) rfl)) (fun _ h9 => h9) rfl dX8_order_13 ?_
    refine va_getN (D := (dC, dI)) (ci := 4) (v := .int sc) (C := RX6) (T := TX6) (N := 9) hx hb hts inX6 hown hK hP 5 rfl rfl 6 (by decide) (ev_nest hev 8 rfl) (fun _ h9 => h9) rfl dX8_order_16 ?_
    refine lv_bipush (v := 6) hx hb dX8_order_19 (by decide) ?_
    refine lv_icmp_le (tgt := 31) hx hb dX8_order_21 (by decide) (fun c_2 => ?_) (fun c_2 => ?_)
    · skip
      have tc_2 : sc.toInt ≤ 6 := (fa_le _ _).mp c_2
      refine lv_iload_n hx hb dX8_order_31 rfl (lv_at hl 1 rfl) ?_
      refine lv_aload_n hx hb dX8_order_32 rfl (lv_at hl 0 rfl) ?_
      refine va_get (D := (dC, dI)) (ci := 6) (v := .ref ah) (C := RX8) (T := TX8) (N := 8) hx hb hts inX8 hown hK hP 0 rfl rfl 0 (by decide) (hts _ (List.mem_of_getElem? (i := 1) rfl)) (fun _ h9 => h9) rfl dX8_order_33 ?_
      refine va_getN (D := (dC, dI)) (ci := 4) (v := .int sc) (C := RX6) (T := TX6) (N := 9) hx hb hts inX6 hown hK hP 5 rfl rfl 6 (by decide) (ev_nest hev 8 rfl) (fun _ h9 => h9) rfl dX8_order_36 ?_
      have rc_3_x := pp_rng a
      have rc_3_y := pp_rng sc
      refine lv_icmp_lt (tgt := 49) hx hb dX8_order_39 (by decide) (fun c_3 => ?_) (fun c_3 => ?_)
      · skip
        have tc_3 : a.toInt < sc.toInt := (fa_lt _ _).mp c_3
        refine lv_aload_n hx hb dX8_order_49 rfl (lv_at hl 0 rfl) ?_
        refine va_get (D := (dC, dI)) (ci := 6) (v := .ref rh) (C := RX8) (T := TX8) (N := 8) hx hb hts inX8 hown hK hP 0 rfl rfl 3 (by decide) (hts _ (List.mem_of_getElem? (i := 2) rfl)) (fun _ h9 => h9) rfl dX8_order_50 ?_
        refine lv_aload_n hx hb dX8_order_53 rfl (lv_at hl 0 rfl) ?_
        refine va_get (D := (dC, dI)) (ci := 6) (v := .ref ah) (C := RX8) (T := TX8) (N := 8) hx hb hts inX8 hown hK hP 0 rfl rfl 0 (by decide) (hts _ (List.mem_of_getElem? (i := 1) rfl)) (fun _ h9 => h9) rfl dX8_order_54 ?_
        have hPc := hP.sub (ws' := [(rh, .inr (1, [.int co, .ref qs, .ref qr])), (qs, .inl (cs, 6, .inl fs)), (qr, .inl (cr, 384, .inl fr)), (ah, .inr (4, [w0, w1, w2, w3, w4, w5, .int sc, .ref q5, w8])), (q5, .inl (c5, 7, .inr (.inl f5)))]) [2, 3, 4, 5, 6] rfl
        have hKc := hK.sub (tys' := [(cs, .int), (cr, .int), (c5, .long)]) [1, 2, 3] rfl
        have hDc := hD.sub (ws' := [(rh, .inr (1, [.int co, .ref qs, .ref qr])), (qs, .inl (cs, 6, .inl fs)), (qr, .inl (cr, 384, .inl fr)), (ah, .inr (4, [w0, w1, w2, w3, w4, w5, .int sc, .ref q5, w8])), (q5, .inl (c5, 7, .inr (.inl f5)))]) [2, 3, 4, 5, 6] (by decide) rfl
        have hFc := va_free (wc := [(rh, .inr (1, [.int co, .ref qs, .ref qr])), (qs, .inl (cs, 6, .inl fs)), (qr, .inl (cr, 384, .inl fr)), (ah, .inr (4, [w0, w1, w2, w3, w4, w5, .int sc, .ref q5, w8])), (q5, .inl (c5, 7, .inr (.inl f5)))]) hD hS hA [2, 3, 4, 5, 6] rfl
        refine va_callv (va_runV (As := [.ref ah]) (rest := []) ⟨hx, hb, hml, hown, hts⟩ (o_plan l dC dI ad rh ah co qs qr cs fs cr fr w0 w1 w2 w3 w4 w5 sc q5 w8 c5 f5 s.heap.size hsc) (cwV 1 hts g_x_order_o_plan_211 rfl rfl rfl (by decide +kernel) ⟨(Nat.le_of_ble_eq_true rfl), (Nat.le_of_ble_eq_true rfl)⟩) ⟨preM_blind, va_recv hKc hPc (ci := 1) (q0 := 0) rfl rfl, fun U hU hW => ⟨rfl, preM_at hU hW hPc hKc hDc hev⟩⟩ rfl rfl hl.1 rfl (lv_room (Nat.le_of_ble_eq_true rfl)) dX8_order_57 ⟨(Nat.le_of_ble_eq_true rfl), (Nat.le_of_ble_eq_true rfl)⟩) hS (fun q _ h => hFc q h) hFc (fun u t H1 locs ht hvm hw hB hz1 hk1 hS => ?_)
        obtain ⟨co_5, gs_6, gr_7, hP1, hK1, hD1⟩ := hB
        rw [ht] at hP1
        have hK1 := va_K.moved hvm.symm hK1
        obtain ⟨hP, hD⟩ := va_join (wr := [(h0, .inr (6, [.ref ah, v1, v2, .ref rh, v4, v5, .ref t0, v7])), (t0, .inl (tc, 7, .inl tf))]) (w1 := [(rh, .inr (1, [.int co_5, .ref qs, .ref qr])), (qs, .inl (cs, 6, .inl gs_6)), (qr, .inl (cr, 384, .inl gr_7)), (ah, .inr (4, [w0, w1, w2, w3, w4, w5, .int sc, .ref q5, w8])), (q5, .inl (c5, 7, .inr (.inl f5)))]) hP hD [2, 3, 4, 5, 6] [0, 1] rfl rfl (by decide) (by decide) hk1 hFc hP1 hD1
        generalize H1 = H at hP hS ⊢
        have hP : va_P (dC, dI) vwCl [(h0, .inr (6, [.ref ah, v1, v2, .ref rh, v4, v5, .ref t0, v7])), (t0, .inl (tc, 7, .inl tf)), (rh, .inr (1, [.int co_5, .ref qs, .ref qr])), (qs, .inl (cs, 6, .inl gs_6)), (qr, .inl (cr, 384, .inl gr_7)), (ah, .inr (4, [w0, w1, w2, w3, w4, w5, .int sc, .ref q5, w8])), (q5, .inl (c5, 7, .inr (.inl f5)))] H := hP
        have hD : va_D A [(h0, .inr (6, [.ref ah, v1, v2, .ref rh, v4, v5, .ref t0, v7])), (t0, .inl (tc, 7, .inl tf)), (rh, .inr (1, [.int co_5, .ref qs, .ref qr])), (qs, .inl (cs, 6, .inl gs_6)), (qr, .inl (cr, 384, .inl gr_7)), (ah, .inr (4, [w0, w1, w2, w3, w4, w5, .int sc, .ref q5, w8])), (q5, .inl (c5, 7, .inr (.inl f5)))] := hD
        refine lv_iload_n hx hb dX8_order_60 rfl (lv_at hl 1 rfl) ?_
        refine lv_if_ge (tgt := 74) hx hb dX8_order_61 (by decide) (fun c_8 => ?_) (fun c_8 => ?_)
        · skip
          have tc_8 : 0 ≤ a.toInt := (fa_le _ _).mp c_8
          refine lv_aload_n hx hb dX8_order_74 rfl (lv_at hl 0 rfl) ?_
          refine va_get (D := (dC, dI)) (ci := 6) (v := .ref rh) (C := RX8) (T := TX8) (N := 8) hx hb hts inX8 hown hK hP 0 rfl rfl 3 (by decide) (hts _ (List.mem_of_getElem? (i := 2) rfl)) (fun _ h9 => h9) rfl dX8_order_75 ?_
          refine va_getN (D := (dC, dI)) (ci := 1) (v := .ref qs) (C := RX3) (T := TX3) (N := 3) hx hb hts inX3 hown hK hP 2 rfl rfl 1 (by decide) (ev_nest hev 15 rfl) (fun _ h9 => h9) rfl dX8_order_78 ?_
          refine lv_iload_n hx hb dX8_order_81 rfl (lv_at hl 1 rfl) ?_
          refine va_iald hx hb hK hP 3 1 rfl rfl (vp_in_iff.mpr ⟨by omega, by omega⟩) dX8_order_82 ?_
          refine lv_topi (fun n_9 en_9 => ?_)
          clear en_9
          have hP9 := hP.sub (ws' := [(h0, .inr (6, [.ref ah, v1, v2, .ref rh, v4, v5, .ref t0, v7])), (t0, .inl (tc, 7, .inl tf)), (rh, .inr (1, [.int co_5, .ref qs, .ref qr])), (qs, .inl (cs, 6, .inl gs_6)), (qr, .inl (cr, 384, .inl gr_7)), (ah, .inr (4, [w0, w1, w2, w3, w4, w5, .int sc, .ref q5, w8])), (q5, .inl (c5, 7, .inr (.inl f5)))]) [0, 1, 2, 3, 4, 5, 6] rfl
          have hD9 := hD.sub (ws' := [(h0, .inr (6, [.ref ah, v1, v2, .ref rh, v4, v5, .ref t0, v7])), (t0, .inl (tc, 7, .inl tf)), (rh, .inr (1, [.int co_5, .ref qs, .ref qr])), (qs, .inl (cs, 6, .inl gs_6)), (qr, .inl (cr, 384, .inl gr_7)), (ah, .inr (4, [w0, w1, w2, w3, w4, w5, .int sc, .ref q5, w8])), (q5, .inl (c5, 7, .inr (.inl f5)))]) [0, 1, 2, 3, 4, 5, 6] (by decide) rfl
          have hK9 := hK.sub (tys' := [(tc, .int), (cs, .int), (cr, .int), (c5, .long)]) [0, 1, 2, 3] rfl
          exact W.iret (v := n_9) hx hb hr (fun t ht hW => ⟨⟨n_9, (), rfl, trivial, tf, co_5, gs_6, gr_7, by rw [ht]; exact hP9, va_K.moved hW.alike hK9, hD9⟩, hS.F ht⟩) hS.2.2 dX8_order_83
        · skip
          have tc_8 : ¬ 0 ≤ a.toInt := fun h => c_8 ((fa_le _ _).mpr h)
          refine lv_aload_n hx hb dX8_order_64 rfl (lv_at hl 0 rfl) ?_
          refine va_get (D := (dC, dI)) (ci := 6) (v := .ref rh) (C := RX8) (T := TX8) (N := 8) hx hb hts inX8 hown hK hP 0 rfl rfl 3 (by decide) (hts _ (List.mem_of_getElem? (i := 2) rfl)) (fun _ h9 => h9) rfl dX8_order_65 ?_
          refine va_getN (D := (dC, dI)) (ci := 1) (v := .int co_5) (C := RX3) (T := TX3) (N := 3) hx hb hts inX3 hown hK hP 2 rfl rfl 0 (by decide) (ev_nest hev 14 rfl) (fun _ h9 => h9) rfl dX8_order_68 ?_
          refine lv_goto (tgt := 83) hx hb dX8_order_71 (by decide) ?_
          have hP9 := hP.sub (ws' := [(h0, .inr (6, [.ref ah, v1, v2, .ref rh, v4, v5, .ref t0, v7])), (t0, .inl (tc, 7, .inl tf)), (rh, .inr (1, [.int co_5, .ref qs, .ref qr])), (qs, .inl (cs, 6, .inl gs_6)), (qr, .inl (cr, 384, .inl gr_7)), (ah, .inr (4, [w0, w1, w2, w3, w4, w5, .int sc, .ref q5, w8])), (q5, .inl (c5, 7, .inr (.inl f5)))]) [0, 1, 2, 3, 4, 5, 6] rfl
          have hD9 := hD.sub (ws' := [(h0, .inr (6, [.ref ah, v1, v2, .ref rh, v4, v5, .ref t0, v7])), (t0, .inl (tc, 7, .inl tf)), (rh, .inr (1, [.int co_5, .ref qs, .ref qr])), (qs, .inl (cs, 6, .inl gs_6)), (qr, .inl (cr, 384, .inl gr_7)), (ah, .inr (4, [w0, w1, w2, w3, w4, w5, .int sc, .ref q5, w8])), (q5, .inl (c5, 7, .inr (.inl f5)))]) [0, 1, 2, 3, 4, 5, 6] (by decide) rfl
          have hK9 := hK.sub (tys' := [(tc, .int), (cs, .int), (cr, .int), (c5, .long)]) [0, 1, 2, 3] rfl
          exact W.iret (v := co_5) hx hb hr (fun t ht hW => ⟨⟨co_5, (), rfl, trivial, tf, co_5, gs_6, gr_7, by rw [ht]; exact hP9, va_K.moved hW.alike hK9, hD9⟩, hS.F ht⟩) hS.2.2 dX8_order_83
      · skip
        have tc_3 : ¬ a.toInt < sc.toInt := fun h => c_3 ((fa_lt _ _).mpr h)
        refine lv_aload_n hx hb dX8_order_42 rfl (lv_at hl 0 rfl) ?_
        refine lv_ldc hx hb hown (hts _ (List.mem_of_getElem? (i := 48) rfl)) dX8_order_43 ?_
        have hPc := hP.sub (ws' := [(h0, .inr (6, [.ref ah, v1, v2, .ref rh, v4, v5, .ref t0, v7])), (t0, .inl (tc, 7, .inl tf))]) [0, 1] rfl
        have hKc := hK.sub (tys' := [(tc, .int)]) [0] rfl
        have hDc := hD.sub (ws' := [(h0, .inr (6, [.ref ah, v1, v2, .ref rh, v4, v5, .ref t0, v7])), (t0, .inl (tc, 7, .inl tf))]) [0, 1] (by decide) rfl
        have hFc := va_free (wc := [(h0, .inr (6, [.ref ah, v1, v2, .ref rh, v4, v5, .ref t0, v7])), (t0, .inl (tc, 7, .inl tf))]) hD hS hA [0, 1] rfl
        refine va_calli (va_runV (As := [.int (-1000000004)]) (rest := []) ⟨hx, hb, hml, hown, hts⟩ (f_none l dC dI ad h0 (.ref ah) v1 v2 (.ref rh) v4 v5 t0 v7 tc tf s.heap.size ) (cwV 1 hts g_x_order_f_none_63 rfl rfl rfl (by decide +kernel) ⟨(Nat.le_of_ble_eq_true rfl), (Nat.le_of_ble_eq_true rfl)⟩) ⟨preM_blind, va_recv hKc hPc (ci := 6) (q0 := 0) rfl rfl, fun U hU hW => ⟨rfl, preM_at hU hW hPc hKc hDc hev⟩⟩ rfl rfl hl.1 rfl (lv_room (Nat.le_of_ble_eq_true rfl)) dX8_order_45 ⟨(Nat.le_of_ble_eq_true rfl), (Nat.le_of_ble_eq_true rfl)⟩) hS (fun q _ h => hFc q h) hFc (fun r_10 u t H1 locs ht hvm hw hB hz1 hk1 hS => ?_)
        obtain ⟨tg_11, hP1, hK1, hD1⟩ := hB
        rw [ht] at hP1
        have hK1 := va_K.moved hvm.symm hK1
        obtain ⟨hP, hD⟩ := va_join (wr := [(rh, .inr (1, [.int co, .ref qs, .ref qr])), (qs, .inl (cs, 6, .inl fs)), (qr, .inl (cr, 384, .inl fr)), (ah, .inr (4, [w0, w1, w2, w3, w4, w5, .int sc, .ref q5, w8])), (q5, .inl (c5, 7, .inr (.inl f5)))]) (w1 := [(h0, .inr (6, [.ref ah, v1, v2, .ref rh, v4, v5, .ref t0, v7])), (t0, .inl (tc, 7, .inl tg_11))]) hP hD [0, 1] [2, 3, 4, 5, 6] rfl rfl (by decide) (by decide) hk1 hFc hP1 hD1
        generalize H1 = H at hP hS ⊢
        have hP : va_P (dC, dI) vwCl [(rh, .inr (1, [.int co, .ref qs, .ref qr])), (qs, .inl (cs, 6, .inl fs)), (qr, .inl (cr, 384, .inl fr)), (ah, .inr (4, [w0, w1, w2, w3, w4, w5, .int sc, .ref q5, w8])), (q5, .inl (c5, 7, .inr (.inl f5))), (h0, .inr (6, [.ref ah, v1, v2, .ref rh, v4, v5, .ref t0, v7])), (t0, .inl (tc, 7, .inl tg_11))] H := hP
        have hD : va_D A [(rh, .inr (1, [.int co, .ref qs, .ref qr])), (qs, .inl (cs, 6, .inl fs)), (qr, .inl (cr, 384, .inl fr)), (ah, .inr (4, [w0, w1, w2, w3, w4, w5, .int sc, .ref q5, w8])), (q5, .inl (c5, 7, .inr (.inl f5))), (h0, .inr (6, [.ref ah, v1, v2, .ref rh, v4, v5, .ref t0, v7])), (t0, .inl (tc, 7, .inl tg_11))] := hD
        subst hw
        have hP9 := hP.sub (ws' := [(h0, .inr (6, [.ref ah, v1, v2, .ref rh, v4, v5, .ref t0, v7])), (t0, .inl (tc, 7, .inl tg_11)), (rh, .inr (1, [.int co, .ref qs, .ref qr])), (qs, .inl (cs, 6, .inl fs)), (qr, .inl (cr, 384, .inl fr)), (ah, .inr (4, [w0, w1, w2, w3, w4, w5, .int sc, .ref q5, w8])), (q5, .inl (c5, 7, .inr (.inl f5)))]) [5, 6, 0, 1, 2, 3, 4] rfl
        have hD9 := hD.sub (ws' := [(h0, .inr (6, [.ref ah, v1, v2, .ref rh, v4, v5, .ref t0, v7])), (t0, .inl (tc, 7, .inl tg_11)), (rh, .inr (1, [.int co, .ref qs, .ref qr])), (qs, .inl (cs, 6, .inl fs)), (qr, .inl (cr, 384, .inl fr)), (ah, .inr (4, [w0, w1, w2, w3, w4, w5, .int sc, .ref q5, w8])), (q5, .inl (c5, 7, .inr (.inl f5)))]) [5, 6, 0, 1, 2, 3, 4] (by decide) rfl
        have hK9 := hK.sub (tys' := [(tc, .int), (cs, .int), (cr, .int), (c5, .long)]) [0, 1, 2, 3] rfl
        exact W.iret (v := ((-1000000004) : Int32)) hx hb hr (fun t ht hW => ⟨⟨((-1000000004) : Int32), (), rfl, trivial, tg_11, co, fs, fr, by rw [ht]; exact hP9, va_K.moved hW.alike hK9, hD9⟩, hS.F ht⟩) hS.2.2 dX8_order_48
    · skip
      have tc_2 : ¬ sc.toInt ≤ 6 := fun h => c_2 ((fa_le _ _).mpr h)
      refine lv_aload_n hx hb dX8_order_24 rfl (lv_at hl 0 rfl) ?_
      refine lv_ldc hx hb hown (hts _ (List.mem_of_getElem? (i := 56) rfl)) dX8_order_25 ?_
      have hPc := hP.sub (ws' := [(h0, .inr (6, [.ref ah, v1, v2, .ref rh, v4, v5, .ref t0, v7])), (t0, .inl (tc, 7, .inl tf))]) [0, 1] rfl
      have hKc := hK.sub (tys' := [(tc, .int)]) [0] rfl
      have hDc := hD.sub (ws' := [(h0, .inr (6, [.ref ah, v1, v2, .ref rh, v4, v5, .ref t0, v7])), (t0, .inl (tc, 7, .inl tf))]) [0, 1] (by decide) rfl
      have hFc := va_free (wc := [(h0, .inr (6, [.ref ah, v1, v2, .ref rh, v4, v5, .ref t0, v7])), (t0, .inl (tc, 7, .inl tf))]) hD hS hA [0, 1] rfl
      refine va_calli (va_runV (As := [.int (-1000000007)]) (rest := []) ⟨hx, hb, hml, hown, hts⟩ (f_size l dC dI ad h0 (.ref ah) v1 v2 (.ref rh) v4 v5 t0 v7 tc tf s.heap.size ) (cwV 1 hts g_x_order_f_size_63 rfl rfl rfl (by decide +kernel) ⟨(Nat.le_of_ble_eq_true rfl), (Nat.le_of_ble_eq_true rfl)⟩) ⟨preM_blind, va_recv hKc hPc (ci := 6) (q0 := 0) rfl rfl, fun U hU hW => ⟨rfl, preM_at hU hW hPc hKc hDc hev⟩⟩ rfl rfl hl.1 rfl (lv_room (Nat.le_of_ble_eq_true rfl)) dX8_order_27 ⟨(Nat.le_of_ble_eq_true rfl), (Nat.le_of_ble_eq_true rfl)⟩) hS (fun q _ h => hFc q h) hFc (fun r_12 u t H1 locs ht hvm hw hB hz1 hk1 hS => ?_)
      obtain ⟨tg_13, hP1, hK1, hD1⟩ := hB
      rw [ht] at hP1
      have hK1 := va_K.moved hvm.symm hK1
      obtain ⟨hP, hD⟩ := va_join (wr := [(rh, .inr (1, [.int co, .ref qs, .ref qr])), (qs, .inl (cs, 6, .inl fs)), (qr, .inl (cr, 384, .inl fr)), (ah, .inr (4, [w0, w1, w2, w3, w4, w5, .int sc, .ref q5, w8])), (q5, .inl (c5, 7, .inr (.inl f5)))]) (w1 := [(h0, .inr (6, [.ref ah, v1, v2, .ref rh, v4, v5, .ref t0, v7])), (t0, .inl (tc, 7, .inl tg_13))]) hP hD [0, 1] [2, 3, 4, 5, 6] rfl rfl (by decide) (by decide) hk1 hFc hP1 hD1
      generalize H1 = H at hP hS ⊢
      have hP : va_P (dC, dI) vwCl [(rh, .inr (1, [.int co, .ref qs, .ref qr])), (qs, .inl (cs, 6, .inl fs)), (qr, .inl (cr, 384, .inl fr)), (ah, .inr (4, [w0, w1, w2, w3, w4, w5, .int sc, .ref q5, w8])), (q5, .inl (c5, 7, .inr (.inl f5))), (h0, .inr (6, [.ref ah, v1, v2, .ref rh, v4, v5, .ref t0, v7])), (t0, .inl (tc, 7, .inl tg_13))] H := hP
      have hD : va_D A [(rh, .inr (1, [.int co, .ref qs, .ref qr])), (qs, .inl (cs, 6, .inl fs)), (qr, .inl (cr, 384, .inl fr)), (ah, .inr (4, [w0, w1, w2, w3, w4, w5, .int sc, .ref q5, w8])), (q5, .inl (c5, 7, .inr (.inl f5))), (h0, .inr (6, [.ref ah, v1, v2, .ref rh, v4, v5, .ref t0, v7])), (t0, .inl (tc, 7, .inl tg_13))] := hD
      subst hw
      have hP9 := hP.sub (ws' := [(h0, .inr (6, [.ref ah, v1, v2, .ref rh, v4, v5, .ref t0, v7])), (t0, .inl (tc, 7, .inl tg_13)), (rh, .inr (1, [.int co, .ref qs, .ref qr])), (qs, .inl (cs, 6, .inl fs)), (qr, .inl (cr, 384, .inl fr)), (ah, .inr (4, [w0, w1, w2, w3, w4, w5, .int sc, .ref q5, w8])), (q5, .inl (c5, 7, .inr (.inl f5)))]) [5, 6, 0, 1, 2, 3, 4] rfl
      have hD9 := hD.sub (ws' := [(h0, .inr (6, [.ref ah, v1, v2, .ref rh, v4, v5, .ref t0, v7])), (t0, .inl (tc, 7, .inl tg_13)), (rh, .inr (1, [.int co, .ref qs, .ref qr])), (qs, .inl (cs, 6, .inl fs)), (qr, .inl (cr, 384, .inl fr)), (ah, .inr (4, [w0, w1, w2, w3, w4, w5, .int sc, .ref q5, w8])), (q5, .inl (c5, 7, .inr (.inl f5)))]) [5, 6, 0, 1, 2, 3, 4] (by decide) rfl
      have hK9 := hK.sub (tys' := [(tc, .int), (cs, .int), (cr, .int), (c5, .long)]) [0, 1, 2, 3] rfl
      exact W.iret (v := ((-1000000007) : Int32)) hx hb hr (fun t ht hW => ⟨⟨((-1000000007) : Int32), (), rfl, trivial, tg_13, co, fs, fr, by rw [ht]; exact hP9, va_K.moved hW.alike hK9, hD9⟩, hS.F ht⟩) hS.2.2 dX8_order_30
  · skip
    have tc_1 : ¬ (-1) ≤ a.toInt := fun h => c_1 ((fa_le _ _).mpr h)
    refine lv_aload_n hx hb dX8_order_5 rfl (lv_at hl 0 rfl) ?_
    refine lv_ldc hx hb hown (hts _ (List.mem_of_getElem? (i := 54) rfl)) dX8_order_6 ?_
    have hPc := hP.sub (ws' := [(h0, .inr (6, [.ref ah, v1, v2, .ref rh, v4, v5, .ref t0, v7])), (t0, .inl (tc, 7, .inl tf))]) [0, 1] rfl
    have hKc := hK.sub (tys' := [(tc, .int)]) [0] rfl
    have hDc := hD.sub (ws' := [(h0, .inr (6, [.ref ah, v1, v2, .ref rh, v4, v5, .ref t0, v7])), (t0, .inl (tc, 7, .inl tf))]) [0, 1] (by decide) rfl
    have hFc := va_free (wc := [(h0, .inr (6, [.ref ah, v1, v2, .ref rh, v4, v5, .ref t0, v7])), (t0, .inl (tc, 7, .inl tf))]) hD hS hA [0, 1] rfl
    refine va_calli (va_runV (As := [.int (-1000000001)]) (rest := []) ⟨hx, hb, hml, hown, hts⟩ (f_beyond l dC dI ad h0 (.ref ah) v1 v2 (.ref rh) v4 v5 t0 v7 tc tf s.heap.size ) (cwV 1 hts g_x_order_f_beyond_63 rfl rfl rfl (by decide +kernel) ⟨(Nat.le_of_ble_eq_true rfl), (Nat.le_of_ble_eq_true rfl)⟩) ⟨preM_blind, va_recv hKc hPc (ci := 6) (q0 := 0) rfl rfl, fun U hU hW => ⟨rfl, preM_at hU hW hPc hKc hDc hev⟩⟩ rfl rfl hl.1 rfl (lv_room (Nat.le_of_ble_eq_true rfl)) dX8_order_8 ⟨(Nat.le_of_ble_eq_true rfl), (Nat.le_of_ble_eq_true rfl)⟩) hS (fun q _ h => hFc q h) hFc (fun r_14 u t H1 locs ht hvm hw hB hz1 hk1 hS => ?_)
    obtain ⟨tg_15, hP1, hK1, hD1⟩ := hB
    rw [ht] at hP1
    have hK1 := va_K.moved hvm.symm hK1
    obtain ⟨hP, hD⟩ := va_join (wr := [(rh, .inr (1, [.int co, .ref qs, .ref qr])), (qs, .inl (cs, 6, .inl fs)), (qr, .inl (cr, 384, .inl fr)), (ah, .inr (4, [w0, w1, w2, w3, w4, w5, .int sc, .ref q5, w8])), (q5, .inl (c5, 7, .inr (.inl f5)))]) (w1 := [(h0, .inr (6, [.ref ah, v1, v2, .ref rh, v4, v5, .ref t0, v7])), (t0, .inl (tc, 7, .inl tg_15))]) hP hD [0, 1] [2, 3, 4, 5, 6] rfl rfl (by decide) (by decide) hk1 hFc hP1 hD1
    generalize H1 = H at hP hS ⊢
    have hP : va_P (dC, dI) vwCl [(rh, .inr (1, [.int co, .ref qs, .ref qr])), (qs, .inl (cs, 6, .inl fs)), (qr, .inl (cr, 384, .inl fr)), (ah, .inr (4, [w0, w1, w2, w3, w4, w5, .int sc, .ref q5, w8])), (q5, .inl (c5, 7, .inr (.inl f5))), (h0, .inr (6, [.ref ah, v1, v2, .ref rh, v4, v5, .ref t0, v7])), (t0, .inl (tc, 7, .inl tg_15))] H := hP
    have hD : va_D A [(rh, .inr (1, [.int co, .ref qs, .ref qr])), (qs, .inl (cs, 6, .inl fs)), (qr, .inl (cr, 384, .inl fr)), (ah, .inr (4, [w0, w1, w2, w3, w4, w5, .int sc, .ref q5, w8])), (q5, .inl (c5, 7, .inr (.inl f5))), (h0, .inr (6, [.ref ah, v1, v2, .ref rh, v4, v5, .ref t0, v7])), (t0, .inl (tc, 7, .inl tg_15))] := hD
    subst hw
    have hP9 := hP.sub (ws' := [(h0, .inr (6, [.ref ah, v1, v2, .ref rh, v4, v5, .ref t0, v7])), (t0, .inl (tc, 7, .inl tg_15)), (rh, .inr (1, [.int co, .ref qs, .ref qr])), (qs, .inl (cs, 6, .inl fs)), (qr, .inl (cr, 384, .inl fr)), (ah, .inr (4, [w0, w1, w2, w3, w4, w5, .int sc, .ref q5, w8])), (q5, .inl (c5, 7, .inr (.inl f5)))]) [5, 6, 0, 1, 2, 3, 4] rfl
    have hD9 := hD.sub (ws' := [(h0, .inr (6, [.ref ah, v1, v2, .ref rh, v4, v5, .ref t0, v7])), (t0, .inl (tc, 7, .inl tg_15)), (rh, .inr (1, [.int co, .ref qs, .ref qr])), (qs, .inl (cs, 6, .inl fs)), (qr, .inl (cr, 384, .inl fr)), (ah, .inr (4, [w0, w1, w2, w3, w4, w5, .int sc, .ref q5, w8])), (q5, .inl (c5, 7, .inr (.inl f5)))]) [5, 6, 0, 1, 2, 3, 4] (by decide) rfl
    have hK9 := hK.sub (tys' := [(tc, .int), (cs, .int), (cr, .int), (c5, .long)]) [0, 1, 2, 3] rfl
    exact W.iret (v := ((-1000000001) : Int32)) hx hb hr (fun t ht hW => ⟨⟨((-1000000001) : Int32), (), rfl, trivial, tg_15, co, fs, fr, by rw [ht]; exact hP9, va_K.moved hW.alike hK9, hD9⟩, hS.F ht⟩) hS.2.2 dX8_order_11

def w_x_feed : List Cond := .code yX8_feed cX8_feed 4 (some .int) :: (([.constant RX8 62 (-1000000001), .methodLink RX8 63 yX8_finding, .instanceMethod yX8_finding, .selects RX8 yX8_finding yX8_finding, .initialized RX8, .code yX8_finding cX8_finding 3 (some .int), .fieldLink RX8 46 "LampShapes" "told" "[I", .fieldLink RX8 36 "LampShapes" "script" "LLampShapes$Script;", .methodLink RX8 236 yX7_hasRoomFor, .instanceMethod yX7_hasRoomFor, .selects RX7 yX7_hasRoomFor yX7_hasRoomFor, .initialized RX7, .code yX7_hasRoomFor cX7_hasRoomFor 2 (some .boolean), .fieldLink RX7 9 "LampShapes$Tape" "size" "I", .methodLink RX8 241 yX7_add, .instanceMethod yX7_add, .selects RX7 yX7_add yX7_add, .code yX7_add cX7_add 2 none, .fieldLink RX7 15 "LampShapes$Tape" "bytes" "[I", .constant RX8 71 (-1000000002)] : List Cond) ++ wsX80 ++ wsX40 ++ wsX70)
set_option maxRecDepth 20000 in
theorem g_x_feed_f_beyond_63 : GoodIn w_x_feed (wsV RX8 63 RX8 yX8_finding w_f_beyond) := goodIn_r _ [2, 3, 4, 5, 6, 1, 7, 21, 22, 23, 24, 25, 26, 27, 28] rfl (by decide +kernel)
set_option maxRecDepth 20000 in
theorem g_x_feed_t_hasRoomFor_236 : GoodIn w_x_feed (wsV RX8 236 RX7 yX7_hasRoomFor w_t_hasRoomFor) := goodIn_r _ [9, 10, 11, 12, 13, 14, 35, 36] rfl (by decide +kernel)
set_option maxRecDepth 20000 in
theorem g_x_feed_t_add_241 : GoodIn w_x_feed (wsV RX8 241 RX7 yX7_add w_t_add) := goodIn_r _ [15, 16, 17, 12, 18, 19, 14, 35, 36] rfl (by decide +kernel)
set_option maxRecDepth 20000 in
theorem g_x_feed_f_full_63 : GoodIn w_x_feed (wsV RX8 63 RX8 yX8_finding w_f_full) := goodIn_r _ [2, 3, 4, 5, 6, 1, 7, 21, 22, 23, 24, 25, 26, 27, 28] rfl (by decide +kernel)
set_option maxHeartbeats 4000000 in
set_option maxRecDepth 100000 in
theorem x_feed (l : Launch) (dC : Nat → ClassId) (dI : Nat → Nat → Nat) (ad : Nat → Nat) (h0 : Nat) (a : Int32) (n : Int32) (v0 : Value) (v1 : Value) (v2 : Value) (v3 : Value) (ch : Nat) (v5 : Value) (t0 : Nat) (v7 : Value) (tc : ClassId) (tf : Nat → Int32) (eh : Nat) (y1 : Value) (y2 : Value) (y3 : Value) (y4 : Value) (y5 : Value) (ts : Int32) (q0 : Nat) (c0 : ClassId) (f0 : Nat → Int32) (sz : Nat) (ht : 0 ≤ ts.toInt ∧ ts.toInt ≤ 120) : Met l yX8_feed w_x_feed ({ frames := 1, cells := 0, slots := 0, locals := 22 } : Room) (va_Pc [.ref h0, .int a, .int n] (preM dC dI ad [(tc, .int), (c0, .int)] [(h0, .inr (6, [v0, v1, v2, v3, .ref ch, v5, .ref t0, v7])), (t0, .inl (tc, 7, .inl tf)), (ch, .inr (2, [.ref eh, y1, y2, y3, y4, y5])), (eh, .inr (5, [.int ts, .ref q0])), (q0, .inl (c0, 120, .inl f0))] sz)) (va_Qi (fun (r : Int32) (_ : Unit) => ((1 ≤ n.toInt ∧ n.toInt ≤ 4 ∧ ts.toInt + n.toInt ≤ 120) → r.toInt = ts.toInt + n.toInt) ∧ (¬ (1 ≤ n.toInt ∧ n.toInt ≤ 4 ∧ ts.toInt + n.toInt ≤ 120) → (1 ≤ n.toInt ∧ n.toInt ≤ 4) → r.toInt = (-1000000002)) ∧ (¬ (1 ≤ n.toInt ∧ n.toInt ≤ 4) → r.toInt = (-1000000001))) (fun _ t => ∃ (tg : Nat → Int32), ∃ (ts2 : Int32), ∃ (g0 : Nat → Int32), (((1 ≤ n.toInt ∧ n.toInt ≤ 4 ∧ ts.toInt + n.toInt ≤ 120) → ts2.toInt = ts.toInt + n.toInt) ∧ (¬ (1 ≤ n.toInt ∧ n.toInt ≤ 4 ∧ ts.toInt + n.toInt ≤ 120) → ts2.toInt = ts.toInt)) ∧ va_P (dC, dI) vwCl [(h0, .inr (6, [v0, v1, v2, v3, .ref ch, v5, .ref t0, v7])), (t0, .inl (tc, 7, .inl tg)), (ch, .inr (2, [.ref eh, y1, y2, y3, y4, y5])), (eh, .inr (5, [.int ts2, .ref q0])), (q0, .inl (c0, 120, .inl g0))] t.heap ∧ va_K (dC, dI) vwCl [(tc, .int), (c0, .int)] t ∧ va_D (va_A [(h0, .inr (6, [v0, v1, v2, v3, .ref ch, v5, .ref t0, v7])), (t0, .inl (tc, 7, .inl tf)), (ch, .inr (2, [.ref eh, y1, y2, y3, y4, y5])), (eh, .inr (5, [.int ts, .ref q0])), (q0, .inl (c0, 120, .inl f0))] sz) [(h0, .inr (6, [v0, v1, v2, v3, .ref ch, v5, .ref t0, v7])), (t0, .inl (tc, 7, .inl tg)), (ch, .inr (2, [.ref eh, y1, y2, y3, y4, y5])), (eh, .inr (5, [.int ts2, .ref q0])), (q0, .inl (c0, 120, .inl g0))]) (va_A [(h0, .inr (6, [v0, v1, v2, v3, .ref ch, v5, .ref t0, v7])), (t0, .inl (tc, 7, .inl tf)), (ch, .inr (2, [.ref eh, y1, y2, y3, y4, y5])), (eh, .inr (5, [.int ts, .ref q0])), (q0, .inl (c0, 120, .inl f0))] sz)) 0 0 (va_A [(h0, .inr (6, [v0, v1, v2, v3, .ref ch, v5, .ref t0, v7])), (t0, .inl (tc, 7, .inl tf)), (ch, .inr (2, [.ref eh, y1, y2, y3, y4, y5])), (eh, .inr (5, [.int ts, .ref q0])), (q0, .inl (c0, 120, .inl f0))] sz) := by
  refine Met.ofW (cc := cX8_feed) (maxL := 4) (ret := (some .int)) (by decide) rfl ?_
  intro p e s m args below meth c s₁ B hml hv
  obtain ⟨rfl, hsz, hP, hK, hD0, hev⟩ := hv
  have hx := B.exec
  have hb := B.bytes
  have hr := B.returns
  have hts := atoms_spec (ws := w_x_feed) B.pre
  have hown : s.vm.findClass RX8 = some m.cls := findClass_of_methodNamed B.named
  have hlocks := B.notSynchronized
  have inX8 : ∀ w ∈ wsX80, w ∈ w_x_feed := fun w h => List.mem_cons_of_mem _ (List.mem_append_left _ (List.mem_append_left _ (List.mem_append_right _ h)))
  have inX4 : ∀ w ∈ wsX40, w ∈ w_x_feed := fun w h => List.mem_cons_of_mem _ (List.mem_append_left _ (List.mem_append_right _ h))
  have inX7 : ∀ w ∈ wsX70, w ∈ w_x_feed := fun w h => List.mem_cons_of_mem _ (List.mem_append_right _ h)
  subst hsz
  have hD := hD0.self (sz := s.heap.size)
  generalize hAe : va_A [(h0, .inr (6, [v0, v1, v2, v3, .ref ch, v5, .ref t0, v7])), (t0, .inl (tc, 7, .inl tf)), (ch, .inr (2, [.ref eh, y1, y2, y3, y4, y5])), (eh, .inr (5, [.int ts, .ref q0])), (q0, .inl (c0, 120, .inl f0))] s.heap.size = A at hD ⊢
  have hA : ∀ q : Nat, s.heap.size ≤ q → A q := fun q h => by rw [← hAe]; exact Or.inr h
  have hS : va_S A s.heap s.heap [] := va_S.rf
  have hP : va_P (dC, dI) vwCl [(h0, .inr (6, [v0, v1, v2, v3, .ref ch, v5, .ref t0, v7])), (t0, .inl (tc, 7, .inl tf)), (ch, .inr (2, [.ref eh, y1, y2, y3, y4, y5])), (eh, .inr (5, [.int ts, .ref q0])), (q0, .inl (c0, 120, .inl f0))] s.heap := hP
  have hl := lv_entry ([.ref h0, .int a, .int n]) (n := 4) (Nat.le_of_ble_eq_true rfl)
  rw [lg_entry_eq]
  generalize (lg_sl ([.ref h0, .int a, .int n]) ++ List.replicate (4 - (lg_sl ([.ref h0, .int a, .int n])).length) Slot.unset).toArray = ls at hl ⊢
  have hl : lv_has ls 4 [(0, .ref h0), (1, .int a), (2, .int n)] := hl
  refine lv_iload_n hx hb dX8_feed_0 rfl (lv_at hl 2 rfl) ?_
  refine lv_iconst (v := 1) hx hb dX8_feed_1 (by decide) ?_
  refine lv_icmp_lt (tgt := 10) hx hb dX8_feed_2 (by decide) (fun c_1 => ?_) (fun c_1 => ?_)
  · skip
    have tc_1 : n.toInt < 1 := (fa_lt _ _).mp c_1
    refine lv_aload_n hx hb dX8_feed_10 rfl (lv_at hl 0 rfl) ?_
    refine lv_ldc hx hb hown (hts _ (List.mem_of_getElem? (i := 1) rfl)) dX8_feed_11 ?_
    have hPc := hP.sub (ws' := [(h0, .inr (6, [v0, v1, v2, v3, .ref ch, v5, .ref t0, v7])), (t0, .inl (tc, 7, .inl tf))]) [0, 1] rfl
    have hKc := hK.sub (tys' := [(tc, .int)]) [0] rfl
    have hDc := hD.sub (ws' := [(h0, .inr (6, [v0, v1, v2, v3, .ref ch, v5, .ref t0, v7])), (t0, .inl (tc, 7, .inl tf))]) [0, 1] (by decide) rfl
    have hFc := va_free (wc := [(h0, .inr (6, [v0, v1, v2, v3, .ref ch, v5, .ref t0, v7])), (t0, .inl (tc, 7, .inl tf))]) hD hS hA [0, 1] rfl
    refine va_calli (va_runV (As := [.int (-1000000001)]) (rest := []) ⟨hx, hb, hml, hown, hts⟩ (f_beyond l dC dI ad h0 v0 v1 v2 v3 (.ref ch) v5 t0 v7 tc tf s.heap.size ) (cwV 1 hts g_x_feed_f_beyond_63 rfl rfl rfl (by decide +kernel) ⟨(Nat.le_of_ble_eq_true rfl), (Nat.le_of_ble_eq_true rfl)⟩) ⟨preM_blind, va_recv hKc hPc (ci := 6) (q0 := 0) rfl rfl, fun U hU hW => ⟨rfl, preM_at hU hW hPc hKc hDc hev⟩⟩ rfl rfl hl.1 rfl (lv_room (Nat.le_of_ble_eq_true rfl)) dX8_feed_13 ⟨(Nat.le_of_ble_eq_true rfl), (Nat.le_of_ble_eq_true rfl)⟩) hS (fun q _ h => hFc q h) hFc (fun r_2 u t H1 locs ht hvm hw hB hz1 hk1 hS => ?_)
    obtain ⟨tg_3, hP1, hK1, hD1⟩ := hB
    rw [ht] at hP1
    have hK1 := va_K.moved hvm.symm hK1
    obtain ⟨hP, hD⟩ := va_join (wr := [(ch, .inr (2, [.ref eh, y1, y2, y3, y4, y5])), (eh, .inr (5, [.int ts, .ref q0])), (q0, .inl (c0, 120, .inl f0))]) (w1 := [(h0, .inr (6, [v0, v1, v2, v3, .ref ch, v5, .ref t0, v7])), (t0, .inl (tc, 7, .inl tg_3))]) hP hD [0, 1] [2, 3, 4] rfl rfl (by decide) (by decide) hk1 hFc hP1 hD1
    generalize H1 = H at hP hS ⊢
    have hP : va_P (dC, dI) vwCl [(ch, .inr (2, [.ref eh, y1, y2, y3, y4, y5])), (eh, .inr (5, [.int ts, .ref q0])), (q0, .inl (c0, 120, .inl f0)), (h0, .inr (6, [v0, v1, v2, v3, .ref ch, v5, .ref t0, v7])), (t0, .inl (tc, 7, .inl tg_3))] H := hP
    have hD : va_D A [(ch, .inr (2, [.ref eh, y1, y2, y3, y4, y5])), (eh, .inr (5, [.int ts, .ref q0])), (q0, .inl (c0, 120, .inl f0)), (h0, .inr (6, [v0, v1, v2, v3, .ref ch, v5, .ref t0, v7])), (t0, .inl (tc, 7, .inl tg_3))] := hD
    subst hw
    have hP9 := hP.sub (ws' := [(h0, .inr (6, [v0, v1, v2, v3, .ref ch, v5, .ref t0, v7])), (t0, .inl (tc, 7, .inl tg_3)), (ch, .inr (2, [.ref eh, y1, y2, y3, y4, y5])), (eh, .inr (5, [.int ts, .ref q0])), (q0, .inl (c0, 120, .inl f0))]) [3, 4, 0, 1, 2] rfl
    have hD9 := hD.sub (ws' := [(h0, .inr (6, [v0, v1, v2, v3, .ref ch, v5, .ref t0, v7])), (t0, .inl (tc, 7, .inl tg_3)), (ch, .inr (2, [.ref eh, y1, y2, y3, y4, y5])), (eh, .inr (5, [.int ts, .ref q0])), (q0, .inl (c0, 120, .inl f0))]) [3, 4, 0, 1, 2] (by decide) rfl
    have hK9 := hK.sub (tys' := [(tc, .int), (c0, .int)]) [0, 1] rfl
    exact W.iret (v := ((-1000000001) : Int32)) hx hb hr (fun t ht hW => ⟨⟨((-1000000001) : Int32), (), rfl, (by first | omega | decide | (simp only [fa_lt, fa_le, fa_eq, and_true, true_and, and_false, false_and, not_true_eq_false, not_false_eq_true, li_0, li_1, li_2, li_3, li_4, li_5, li_6, li_7, li_8, li_9, li_10, li_12, li_15, li_16, li_20, li_30, li_34, li_38, li_40, li_63, li_64, li_65, li_78, li_120, li_1000, li_4000, li_10000, li_11077, li_255, li_65535, li_m1, li_m2, li_m1000000001, li_m1000000002, li_m1000000003, li_m1000000004, li_m1000000005, li_m1000000006, li_m1000000007, or_true, true_or, or_false, false_or, implies_true, true_implies, false_implies] <;> omega)), tg_3, ts, f0, (by first | omega | decide | (simp only [fa_lt, fa_le, fa_eq, and_true, true_and, and_false, false_and, not_true_eq_false, not_false_eq_true, li_0, li_1, li_2, li_3, li_4, li_5, li_6, li_7, li_8, li_9, li_10, li_12, li_15, li_16, li_20, li_30, li_34, li_38, li_40, li_63, li_64, li_65, li_78, li_120, li_1000, li_4000, li_10000, li_11077, li_255, li_65535, li_m1, li_m2, li_m1000000001, li_m1000000002, li_m1000000003, li_m1000000004, li_m1000000005, li_m1000000006, li_m1000000007, or_true, true_or, or_false, false_or, implies_true, true_implies, false_implies] <;> omega)), by rw [ht]; exact hP9, va_K.moved hW.alike hK9, hD9⟩, hS.F ht⟩) hS.2.2 dX8_feed_16
  · skip
    have tc_1 : ¬ n.toInt < 1 := fun h => c_1 ((fa_lt _ _).mpr h)
    refine lv_iload_n hx hb dX8_feed_5 rfl (lv_at hl 2 rfl) ?_
    refine lv_iconst (v := 4) hx hb dX8_feed_6 (by decide) ?_
    refine lv_icmp_le (tgt := 17) hx hb dX8_feed_7 (by decide) (fun c_4 => ?_) (fun c_4 => ?_)
    · skip
      have tc_4 : n.toInt ≤ 4 := (fa_le _ _).mp c_4
      refine lv_aload_n hx hb dX8_feed_17 rfl (lv_at hl 0 rfl) ?_
      refine va_get (D := (dC, dI)) (ci := 6) (v := .ref ch) (C := RX8) (T := TX8) (N := 8) hx hb hts inX8 hown hK hP 0 rfl rfl 4 (by decide) (hts _ (List.mem_of_getElem? (i := 8) rfl)) (fun _ h9 => h9) rfl dX8_feed_18 ?_
      refine va_getN (D := (dC, dI)) (ci := 2) (v := .ref eh) (C := RX4) (T := TX4) (N := 6) hx hb hts inX4 hown hK hP 2 rfl rfl 0 (by decide) (ev_nest hev 19 rfl) (fun _ h9 => h9) rfl dX8_feed_21 ?_
      refine lv_iload_n hx hb dX8_feed_24 rfl (lv_at hl 2 rfl) ?_
      have hPc := hP.sub (ws' := [(eh, .inr (5, [.int ts, .ref q0]))]) [3] rfl
      have hKc := hK.sub (tys' := []) [] rfl
      refine vp_callSi (W.runV (As := [.int n]) (rest := []) ⟨hx, hb, hml, hown, hts⟩ (t_hasRoomFor l dC dI ad eh n ts (.ref q0) ht) (cwV 1 hts g_x_feed_t_hasRoomFor_236 rfl rfl rfl (by decide +kernel) ⟨(Nat.le_of_ble_eq_true rfl), (Nat.le_of_ble_eq_true rfl)⟩) ⟨preS_blind, va_recv hKc hPc (ci := 5) (q0 := 0) rfl rfl, fun U hU hW => ⟨rfl, preS_at hU hW hPc hKc hev⟩⟩ rfl rfl hl.1 rfl (lv_room (Nat.le_of_ble_eq_true rfl)) dX8_feed_25 ⟨(Nat.le_of_ble_eq_true rfl), (Nat.le_of_ble_eq_true rfl)⟩) (fun r_5 hw => ?_)
      have hr_5 : (r_5.toInt = 1 ∧ n.toInt + ts.toInt ≤ 120) ∨ (r_5.toInt = 0 ∧ ¬ n.toInt + ts.toInt ≤ 120) := hw
      refine lv_if_ne (tgt := 38) hx hb dX8_feed_28 (by decide) (fun c_6 => ?_) (fun c_6 => ?_)
      · skip
        have tc_6 : ¬ r_5.toInt = 0 := fun h => c_6 ((fa_eq _ _).mpr h)
        refine lv_iload_n hx hb dX8_feed_38 rfl (lv_at hl 2 rfl) ?_
        refine lv_iconst (v := 1) hx hb dX8_feed_39 (by decide) ?_
        refine lv_isub hx hb dX8_feed_40 ?_
        refine lv_topi (fun n_7 en_7 => ?_)
        have tn_7 : n_7.toInt = n.toInt - 1 := pp_sub en_7 rfl rfl (by omega) (by omega)
        clear en_7
        refine lv_istore_n (lv' := [(3, .int n_7), (0, .ref h0), (1, .int a), (2, .int n)]) hx hb dX8_feed_41 rfl hl (by decide) rfl (fun ls hl => ?_)
        refine pp_loop (ι := Int32 × Int32 × (Nat → Int32)) (fun ⟨v3_42, y0, z0⟩ => (v3_42.toInt + 1 - 0).toNat) (fun ⟨v3_42, y0, z0⟩ H locs ls => (y0.toInt + v3_42.toInt + 1 = ts.toInt + n.toInt) ∧ (v3_42.toInt ≤ n_7.toInt) ∧ ((-1) ≤ v3_42.toInt) ∧ va_P (dC, dI) vwCl [(h0, .inr (6, [v0, v1, v2, v3, .ref ch, v5, .ref t0, v7])), (t0, .inl (tc, 7, .inl tf)), (ch, .inr (2, [.ref eh, y1, y2, y3, y4, y5])), (eh, .inr (5, [.int y0, .ref q0])), (q0, .inl (c0, 120, .inl z0))] H ∧ va_D A [(h0, .inr (6, [v0, v1, v2, v3, .ref ch, v5, .ref t0, v7])), (t0, .inl (tc, 7, .inl tf)), (ch, .inr (2, [.ref eh, y1, y2, y3, y4, y5])), (eh, .inr (5, [.int y0, .ref q0])), (q0, .inl (c0, 120, .inl z0))] ∧ va_S A s.heap H locs ∧ lv_has ls 4 [(3, .int v3_42), (0, .ref h0), (1, .int a), (2, .int n)]) ?_ (n_7, ts, f0) _ _ _ ⟨(by first | omega | decide | (simp only [fa_lt, fa_le, fa_eq, and_true, true_and, and_false, false_and, not_true_eq_false, not_false_eq_true, li_0, li_1, li_2, li_3, li_4, li_5, li_6, li_7, li_8, li_9, li_10, li_12, li_15, li_16, li_20, li_30, li_34, li_38, li_40, li_63, li_64, li_65, li_78, li_120, li_1000, li_4000, li_10000, li_11077, li_255, li_65535, li_m1, li_m2, li_m1000000001, li_m1000000002, li_m1000000003, li_m1000000004, li_m1000000005, li_m1000000006, li_m1000000007, or_true, true_or, or_false, false_or, implies_true, true_implies, false_implies] <;> omega)), (by first | omega | decide | (simp only [fa_lt, fa_le, fa_eq, and_true, true_and, and_false, false_and, not_true_eq_false, not_false_eq_true, li_0, li_1, li_2, li_3, li_4, li_5, li_6, li_7, li_8, li_9, li_10, li_12, li_15, li_16, li_20, li_30, li_34, li_38, li_40, li_63, li_64, li_65, li_78, li_120, li_1000, li_4000, li_10000, li_11077, li_255, li_65535, li_m1, li_m2, li_m1000000001, li_m1000000002, li_m1000000003, li_m1000000004, li_m1000000005, li_m1000000006, li_m1000000007, or_true, true_or, or_false, false_or, implies_true, true_implies, false_implies] <;> omega)), (by first | omega | decide | (simp only [fa_lt, fa_le, fa_eq, and_true, true_and, and_false, false_and, not_true_eq_false, not_false_eq_true, li_0, li_1, li_2, li_3, li_4, li_5, li_6, li_7, li_8, li_9, li_10, li_12, li_15, li_16, li_20, li_30, li_34, li_38, li_40, li_63, li_64, li_65, li_78, li_120, li_1000, li_4000, li_10000, li_11077, li_255, li_65535, li_m1, li_m2, li_m1000000001, li_m1000000002, li_m1000000003, li_m1000000004, li_m1000000005, li_m1000000006, li_m1000000007, or_true, true_or, or_false, false_or, implies_true, true_implies, false_implies] <;> omega)), hP.sub [0, 1, 2, 3, 4] rfl, hD.sub [0, 1, 2, 3, 4] (by decide) rfl, hS, lv_sub hl [0, 1, 2, 3] rfl⟩
        intro k_8 ihk_8 u H locs ls hm hI
        obtain ⟨v3_42, y0, z0⟩ := u
        obtain ⟨jk_8_0, jk_8_1, jk_8_2, hP, hD, hS, hl⟩ := hI
        have hmk_8 : (v3_42.toInt + 1 - 0).toNat < k_8 + 1 := hm
        clear hm
        have jk_8_0 : y0.toInt + v3_42.toInt + 1 = ts.toInt + n.toInt := jk_8_0
        have jk_8_1 : v3_42.toInt ≤ n_7.toInt := jk_8_1
        have jk_8_2 : (-1) ≤ v3_42.toInt := jk_8_2
        have hl : lv_has ls 4 [(3, .int v3_42), (0, .ref h0), (1, .int a), (2, .int n)] := hl
        have hP : va_P (dC, dI) vwCl [(h0, .inr (6, [v0, v1, v2, v3, .ref ch, v5, .ref t0, v7])), (t0, .inl (tc, 7, .inl tf)), (ch, .inr (2, [.ref eh, y1, y2, y3, y4, y5])), (eh, .inr (5, [.int y0, .ref q0])), (q0, .inl (c0, 120, .inl z0))] H := hP
        have hD : va_D A [(h0, .inr (6, [v0, v1, v2, v3, .ref ch, v5, .ref t0, v7])), (t0, .inl (tc, 7, .inl tf)), (ch, .inr (2, [.ref eh, y1, y2, y3, y4, y5])), (eh, .inr (5, [.int y0, .ref q0])), (q0, .inl (c0, 120, .inl z0))] := hD
        refine lv_iload_n hx hb dX8_feed_42 rfl (lv_at hl 0 rfl) ?_
        refine lv_if_lt (tgt := 68) hx hb dX8_feed_43 (by decide) (fun c_9 => ?_) (fun c_9 => ?_)
        · skip
          have tc_9 : v3_42.toInt < 0 := (fa_lt _ _).mp c_9
          refine lv_aload_n hx hb dX8_feed_68 rfl (lv_at hl 1 rfl) ?_
          refine va_get (D := (dC, dI)) (ci := 6) (v := .ref ch) (C := RX8) (T := TX8) (N := 8) hx hb hts inX8 hown hK hP 0 rfl rfl 4 (by decide) (hts _ (List.mem_of_getElem? (i := 8) rfl)) (fun _ h9 => h9) rfl dX8_feed_69 ?_
          refine va_getN (D := (dC, dI)) (ci := 2) (v := .ref eh) (C := RX4) (T := TX4) (N := 6) hx hb hts inX4 hown hK hP 2 rfl rfl 0 (by decide) (ev_nest hev 19 rfl) (fun _ h9 => h9) rfl dX8_feed_72 ?_
          refine va_getN (D := (dC, dI)) (ci := 5) (v := .int y0) (C := RX7) (T := TX7) (N := 2) hx hb hts inX7 hown hK hP 3 rfl rfl 0 (by decide) (ev_nest hev 17 rfl) (fun _ h9 => h9) rfl dX8_feed_75 ?_
          have hP9 := hP.sub (ws' := [(h0, .inr (6, [v0, v1, v2, v3, .ref ch, v5, .ref t0, v7])), (t0, .inl (tc, 7, .inl tf)), (ch, .inr (2, [.ref eh, y1, y2, y3, y4, y5])), (eh, .inr (5, [.int y0, .ref q0])), (q0, .inl (c0, 120, .inl z0))]) [0, 1, 2, 3, 4] rfl
          have hD9 := hD.sub (ws' := [(h0, .inr (6, [v0, v1, v2, v3, .ref ch, v5, .ref t0, v7])), (t0, .inl (tc, 7, .inl tf)), (ch, .inr (2, [.ref eh, y1, y2, y3, y4, y5])), (eh, .inr (5, [.int y0, .ref q0])), (q0, .inl (c0, 120, .inl z0))]) [0, 1, 2, 3, 4] (by decide) rfl
          have hK9 := hK.sub (tys' := [(tc, .int), (c0, .int)]) [0, 1] rfl
          exact W.iret (v := y0) hx hb hr (fun t ht hW => ⟨⟨y0, (), rfl, (by first | omega | decide | (simp only [fa_lt, fa_le, fa_eq, and_true, true_and, and_false, false_and, not_true_eq_false, not_false_eq_true, li_0, li_1, li_2, li_3, li_4, li_5, li_6, li_7, li_8, li_9, li_10, li_12, li_15, li_16, li_20, li_30, li_34, li_38, li_40, li_63, li_64, li_65, li_78, li_120, li_1000, li_4000, li_10000, li_11077, li_255, li_65535, li_m1, li_m2, li_m1000000001, li_m1000000002, li_m1000000003, li_m1000000004, li_m1000000005, li_m1000000006, li_m1000000007, or_true, true_or, or_false, false_or, implies_true, true_implies, false_implies] <;> omega)), tf, y0, z0, (by first | omega | decide | (simp only [fa_lt, fa_le, fa_eq, and_true, true_and, and_false, false_and, not_true_eq_false, not_false_eq_true, li_0, li_1, li_2, li_3, li_4, li_5, li_6, li_7, li_8, li_9, li_10, li_12, li_15, li_16, li_20, li_30, li_34, li_38, li_40, li_63, li_64, li_65, li_78, li_120, li_1000, li_4000, li_10000, li_11077, li_255, li_65535, li_m1, li_m2, li_m1000000001, li_m1000000002, li_m1000000003, li_m1000000004, li_m1000000005, li_m1000000006, li_m1000000007, or_true, true_or, or_false, false_or, implies_true, true_implies, false_implies] <;> omega)), by rw [ht]; exact hP9, va_K.moved hW.alike hK9, hD9⟩, hS.F ht⟩) hS.2.2 dX8_feed_78
        · skip
          have tc_9 : ¬ v3_42.toInt < 0 := fun h => c_9 ((fa_lt _ _).mpr h)
          refine lv_aload_n hx hb dX8_feed_46 rfl (lv_at hl 1 rfl) ?_
          refine va_get (D := (dC, dI)) (ci := 6) (v := .ref ch) (C := RX8) (T := TX8) (N := 8) hx hb hts inX8 hown hK hP 0 rfl rfl 4 (by decide) (hts _ (List.mem_of_getElem? (i := 8) rfl)) (fun _ h9 => h9) rfl dX8_feed_47 ?_
          refine va_getN (D := (dC, dI)) (ci := 2) (v := .ref eh) (C := RX4) (T := TX4) (N := 6) hx hb hts inX4 hown hK hP 2 rfl rfl 0 (by decide) (ev_nest hev 19 rfl) (fun _ h9 => h9) rfl dX8_feed_50 ?_
          refine lv_iload_n hx hb dX8_feed_53 rfl (lv_at hl 2 rfl) ?_
          refine lv_bipush (v := 8) hx hb dX8_feed_54 (by decide) ?_
          refine lv_iload_n hx hb dX8_feed_56 rfl (lv_at hl 0 rfl) ?_
          refine lv_imul hx hb dX8_feed_57 ?_
          refine lv_topi (fun n_10 en_10 => ?_)
          have tn_10 : n_10.toInt = 8 * v3_42.toInt := pp_mul en_10 rfl rfl (by omega) (by omega)
          clear en_10
          refine lv_ishr hx hb dX8_feed_58 ?_
          refine lv_topi (fun n_11 en_11 => ?_)
          clear en_11
          have hPc := hP.sub (ws' := [(eh, .inr (5, [.int y0, .ref q0])), (q0, .inl (c0, 120, .inl z0))]) [3, 4] rfl
          have hKc := hK.sub (tys' := [(c0, .int)]) [1] rfl
          have hDc := hD.sub (ws' := [(eh, .inr (5, [.int y0, .ref q0])), (q0, .inl (c0, 120, .inl z0))]) [3, 4] (by decide) rfl
          have hFc := va_free (wc := [(eh, .inr (5, [.int y0, .ref q0])), (q0, .inl (c0, 120, .inl z0))]) hD hS hA [3, 4] rfl
          refine va_callv (va_runV (As := [.int n_11]) (rest := []) ⟨hx, hb, hml, hown, hts⟩ (t_add l dC dI ad eh n_11 y0 q0 c0 z0 H.size (by first | omega | decide | (simp only [fa_lt, fa_le, fa_eq, and_true, true_and, and_false, false_and, not_true_eq_false, not_false_eq_true, li_0, li_1, li_2, li_3, li_4, li_5, li_6, li_7, li_8, li_9, li_10, li_12, li_15, li_16, li_20, li_30, li_34, li_38, li_40, li_63, li_64, li_65, li_78, li_120, li_1000, li_4000, li_10000, li_11077, li_255, li_65535, li_m1, li_m2, li_m1000000001, li_m1000000002, li_m1000000003, li_m1000000004, li_m1000000005, li_m1000000006, li_m1000000007, or_true, true_or, or_false, false_or, implies_true, true_implies, false_implies] <;> omega))) (cwV 1 hts g_x_feed_t_add_241 rfl rfl rfl (by decide +kernel) ⟨(Nat.le_of_ble_eq_true rfl), (Nat.le_of_ble_eq_true rfl)⟩) ⟨preM_blind, va_recv hKc hPc (ci := 5) (q0 := 0) rfl rfl, fun U hU hW => ⟨rfl, preM_at hU hW hPc hKc hDc hev⟩⟩ rfl rfl hl.1 rfl (lv_room (Nat.le_of_ble_eq_true rfl)) dX8_feed_59 ⟨(Nat.le_of_ble_eq_true rfl), (Nat.le_of_ble_eq_true rfl)⟩) hS (fun q _ h => hFc q h) hFc (fun u t H1 locs ht hvm hw hB hz1 hk1 hS => ?_)
          obtain ⟨ts_13, g_14, hq_15, hP1, hK1, hD1⟩ := hB
          rw [ht] at hP1
          have hK1 := va_K.moved hvm.symm hK1
          obtain ⟨hP, hD⟩ := va_join (wr := [(h0, .inr (6, [v0, v1, v2, v3, .ref ch, v5, .ref t0, v7])), (t0, .inl (tc, 7, .inl tf)), (ch, .inr (2, [.ref eh, y1, y2, y3, y4, y5]))]) (w1 := [(eh, .inr (5, [.int ts_13, .ref q0])), (q0, .inl (c0, 120, .inl g_14))]) hP hD [3, 4] [0, 1, 2] rfl rfl (by decide) (by decide) hk1 hFc hP1 hD1
          generalize H1 = H at hP hS ⊢
          have hP : va_P (dC, dI) vwCl [(h0, .inr (6, [v0, v1, v2, v3, .ref ch, v5, .ref t0, v7])), (t0, .inl (tc, 7, .inl tf)), (ch, .inr (2, [.ref eh, y1, y2, y3, y4, y5])), (eh, .inr (5, [.int ts_13, .ref q0])), (q0, .inl (c0, 120, .inl g_14))] H := hP
          have hD : va_D A [(h0, .inr (6, [v0, v1, v2, v3, .ref ch, v5, .ref t0, v7])), (t0, .inl (tc, 7, .inl tf)), (ch, .inr (2, [.ref eh, y1, y2, y3, y4, y5])), (eh, .inr (5, [.int ts_13, .ref q0])), (q0, .inl (c0, 120, .inl g_14))] := hD
          obtain ⟨n_16, en_16⟩ : ∃ y : Int32, y = v3_42 + (-1) := ⟨_, rfl⟩
          have tn_16 : n_16.toInt = v3_42.toInt + (-1) := pp_add en_16 rfl rfl (by omega) (by omega)
          refine lv_iinc (v := n_16) (lv' := [(3, .int n_16), (0, .ref h0), (1, .int a), (2, .int n)]) hx hb dX8_feed_62 hl (k := 0) rfl (by rw [en_16]; rfl) (by decide) rfl (fun ls hl => ?_)
          clear en_16
          refine lv_goto (tgt := 42) hx hb dX8_feed_65 (by decide) ?_
          exact ihk_8 (n_16, ts_13, g_14) _ _ _ (by show (n_16.toInt + 1 - 0).toNat < k_8; omega) ⟨(by first | omega | decide | (simp only [fa_lt, fa_le, fa_eq, and_true, true_and, and_false, false_and, not_true_eq_false, not_false_eq_true, li_0, li_1, li_2, li_3, li_4, li_5, li_6, li_7, li_8, li_9, li_10, li_12, li_15, li_16, li_20, li_30, li_34, li_38, li_40, li_63, li_64, li_65, li_78, li_120, li_1000, li_4000, li_10000, li_11077, li_255, li_65535, li_m1, li_m2, li_m1000000001, li_m1000000002, li_m1000000003, li_m1000000004, li_m1000000005, li_m1000000006, li_m1000000007, or_true, true_or, or_false, false_or, implies_true, true_implies, false_implies] <;> omega)), (by first | omega | decide | (simp only [fa_lt, fa_le, fa_eq, and_true, true_and, and_false, false_and, not_true_eq_false, not_false_eq_true, li_0, li_1, li_2, li_3, li_4, li_5, li_6, li_7, li_8, li_9, li_10, li_12, li_15, li_16, li_20, li_30, li_34, li_38, li_40, li_63, li_64, li_65, li_78, li_120, li_1000, li_4000, li_10000, li_11077, li_255, li_65535, li_m1, li_m2, li_m1000000001, li_m1000000002, li_m1000000003, li_m1000000004, li_m1000000005, li_m1000000006, li_m1000000007, or_true, true_or, or_false, false_or, implies_true, true_implies, false_implies] <;> omega)), (by first | omega | decide | (simp only [fa_lt, fa_le, fa_eq, and_true, true_and, and_false, false_and, not_true_eq_false, not_false_eq_true, li_0, li_1, li_2, li_3, li_4, li_5, li_6, li_7, li_8, li_9, li_10, li_12, li_15, li_16, li_20, li_30, li_34, li_38, li_40, li_63, li_64, li_65, li_78, li_120, li_1000, li_4000, li_10000, li_11077, li_255, li_65535, li_m1, li_m2, li_m1000000001, li_m1000000002, li_m1000000003, li_m1000000004, li_m1000000005, li_m1000000006, li_m1000000007, or_true, true_or, or_false, false_or, implies_true, true_implies, false_implies] <;> omega)), hP.sub [0, 1, 2, 3, 4] rfl, hD.sub [0, 1, 2, 3, 4] (by decide) rfl, hS, lv_sub hl [0, 1, 2, 3] rfl⟩
      · skip
        have tc_6 : r_5.toInt = 0 := (fa_eq _ _).mp c_6
        refine lv_aload_n hx hb dX8_feed_31 rfl (lv_at hl 0 rfl) ?_
        refine lv_ldc hx hb hown (hts _ (List.mem_of_getElem? (i := 20) rfl)) dX8_feed_32 ?_
        have hPc := hP.sub (ws' := [(h0, .inr (6, [v0, v1, v2, v3, .ref ch, v5, .ref t0, v7])), (t0, .inl (tc, 7, .inl tf))]) [0, 1] rfl
        have hKc := hK.sub (tys' := [(tc, .int)]) [0] rfl
        have hDc := hD.sub (ws' := [(h0, .inr (6, [v0, v1, v2, v3, .ref ch, v5, .ref t0, v7])), (t0, .inl (tc, 7, .inl tf))]) [0, 1] (by decide) rfl
        have hFc := va_free (wc := [(h0, .inr (6, [v0, v1, v2, v3, .ref ch, v5, .ref t0, v7])), (t0, .inl (tc, 7, .inl tf))]) hD hS hA [0, 1] rfl
        refine va_calli (va_runV (As := [.int (-1000000002)]) (rest := []) ⟨hx, hb, hml, hown, hts⟩ (f_full l dC dI ad h0 v0 v1 v2 v3 (.ref ch) v5 t0 v7 tc tf s.heap.size ) (cwV 1 hts g_x_feed_f_full_63 rfl rfl rfl (by decide +kernel) ⟨(Nat.le_of_ble_eq_true rfl), (Nat.le_of_ble_eq_true rfl)⟩) ⟨preM_blind, va_recv hKc hPc (ci := 6) (q0 := 0) rfl rfl, fun U hU hW => ⟨rfl, preM_at hU hW hPc hKc hDc hev⟩⟩ rfl rfl hl.1 rfl (lv_room (Nat.le_of_ble_eq_true rfl)) dX8_feed_34 ⟨(Nat.le_of_ble_eq_true rfl), (Nat.le_of_ble_eq_true rfl)⟩) hS (fun q _ h => hFc q h) hFc (fun r_17 u t H1 locs ht hvm hw hB hz1 hk1 hS => ?_)
        obtain ⟨tg_18, hP1, hK1, hD1⟩ := hB
        rw [ht] at hP1
        have hK1 := va_K.moved hvm.symm hK1
        obtain ⟨hP, hD⟩ := va_join (wr := [(ch, .inr (2, [.ref eh, y1, y2, y3, y4, y5])), (eh, .inr (5, [.int ts, .ref q0])), (q0, .inl (c0, 120, .inl f0))]) (w1 := [(h0, .inr (6, [v0, v1, v2, v3, .ref ch, v5, .ref t0, v7])), (t0, .inl (tc, 7, .inl tg_18))]) hP hD [0, 1] [2, 3, 4] rfl rfl (by decide) (by decide) hk1 hFc hP1 hD1
        generalize H1 = H at hP hS ⊢
        have hP : va_P (dC, dI) vwCl [(ch, .inr (2, [.ref eh, y1, y2, y3, y4, y5])), (eh, .inr (5, [.int ts, .ref q0])), (q0, .inl (c0, 120, .inl f0)), (h0, .inr (6, [v0, v1, v2, v3, .ref ch, v5, .ref t0, v7])), (t0, .inl (tc, 7, .inl tg_18))] H := hP
        have hD : va_D A [(ch, .inr (2, [.ref eh, y1, y2, y3, y4, y5])), (eh, .inr (5, [.int ts, .ref q0])), (q0, .inl (c0, 120, .inl f0)), (h0, .inr (6, [v0, v1, v2, v3, .ref ch, v5, .ref t0, v7])), (t0, .inl (tc, 7, .inl tg_18))] := hD
        subst hw
        have hP9 := hP.sub (ws' := [(h0, .inr (6, [v0, v1, v2, v3, .ref ch, v5, .ref t0, v7])), (t0, .inl (tc, 7, .inl tg_18)), (ch, .inr (2, [.ref eh, y1, y2, y3, y4, y5])), (eh, .inr (5, [.int ts, .ref q0])), (q0, .inl (c0, 120, .inl f0))]) [3, 4, 0, 1, 2] rfl
        have hD9 := hD.sub (ws' := [(h0, .inr (6, [v0, v1, v2, v3, .ref ch, v5, .ref t0, v7])), (t0, .inl (tc, 7, .inl tg_18)), (ch, .inr (2, [.ref eh, y1, y2, y3, y4, y5])), (eh, .inr (5, [.int ts, .ref q0])), (q0, .inl (c0, 120, .inl f0))]) [3, 4, 0, 1, 2] (by decide) rfl
        have hK9 := hK.sub (tys' := [(tc, .int), (c0, .int)]) [0, 1] rfl
        exact W.iret (v := ((-1000000002) : Int32)) hx hb hr (fun t ht hW => ⟨⟨((-1000000002) : Int32), (), rfl, (by first | omega | decide | (simp only [fa_lt, fa_le, fa_eq, and_true, true_and, and_false, false_and, not_true_eq_false, not_false_eq_true, li_0, li_1, li_2, li_3, li_4, li_5, li_6, li_7, li_8, li_9, li_10, li_12, li_15, li_16, li_20, li_30, li_34, li_38, li_40, li_63, li_64, li_65, li_78, li_120, li_1000, li_4000, li_10000, li_11077, li_255, li_65535, li_m1, li_m2, li_m1000000001, li_m1000000002, li_m1000000003, li_m1000000004, li_m1000000005, li_m1000000006, li_m1000000007, or_true, true_or, or_false, false_or, implies_true, true_implies, false_implies] <;> omega)), tg_18, ts, f0, (by first | omega | decide | (simp only [fa_lt, fa_le, fa_eq, and_true, true_and, and_false, false_and, not_true_eq_false, not_false_eq_true, li_0, li_1, li_2, li_3, li_4, li_5, li_6, li_7, li_8, li_9, li_10, li_12, li_15, li_16, li_20, li_30, li_34, li_38, li_40, li_63, li_64, li_65, li_78, li_120, li_1000, li_4000, li_10000, li_11077, li_255, li_65535, li_m1, li_m2, li_m1000000001, li_m1000000002, li_m1000000003, li_m1000000004, li_m1000000005, li_m1000000006, li_m1000000007, or_true, true_or, or_false, false_or, implies_true, true_implies, false_implies] <;> omega)), by rw [ht]; exact hP9, va_K.moved hW.alike hK9, hD9⟩, hS.F ht⟩) hS.2.2 dX8_feed_37
    · skip
      have tc_4 : ¬ n.toInt ≤ 4 := fun h => c_4 ((fa_le _ _).mpr h)
      refine lv_aload_n hx hb dX8_feed_10 rfl (lv_at hl 0 rfl) ?_
      refine lv_ldc hx hb hown (hts _ (List.mem_of_getElem? (i := 1) rfl)) dX8_feed_11 ?_
      have hPc := hP.sub (ws' := [(h0, .inr (6, [v0, v1, v2, v3, .ref ch, v5, .ref t0, v7])), (t0, .inl (tc, 7, .inl tf))]) [0, 1] rfl
      have hKc := hK.sub (tys' := [(tc, .int)]) [0] rfl
      have hDc := hD.sub (ws' := [(h0, .inr (6, [v0, v1, v2, v3, .ref ch, v5, .ref t0, v7])), (t0, .inl (tc, 7, .inl tf))]) [0, 1] (by decide) rfl
      have hFc := va_free (wc := [(h0, .inr (6, [v0, v1, v2, v3, .ref ch, v5, .ref t0, v7])), (t0, .inl (tc, 7, .inl tf))]) hD hS hA [0, 1] rfl
      refine va_calli (va_runV (As := [.int (-1000000001)]) (rest := []) ⟨hx, hb, hml, hown, hts⟩ (f_beyond l dC dI ad h0 v0 v1 v2 v3 (.ref ch) v5 t0 v7 tc tf s.heap.size ) (cwV 1 hts g_x_feed_f_beyond_63 rfl rfl rfl (by decide +kernel) ⟨(Nat.le_of_ble_eq_true rfl), (Nat.le_of_ble_eq_true rfl)⟩) ⟨preM_blind, va_recv hKc hPc (ci := 6) (q0 := 0) rfl rfl, fun U hU hW => ⟨rfl, preM_at hU hW hPc hKc hDc hev⟩⟩ rfl rfl hl.1 rfl (lv_room (Nat.le_of_ble_eq_true rfl)) dX8_feed_13 ⟨(Nat.le_of_ble_eq_true rfl), (Nat.le_of_ble_eq_true rfl)⟩) hS (fun q _ h => hFc q h) hFc (fun r_19 u t H1 locs ht hvm hw hB hz1 hk1 hS => ?_)
      obtain ⟨tg_20, hP1, hK1, hD1⟩ := hB
      rw [ht] at hP1
      have hK1 := va_K.moved hvm.symm hK1
      obtain ⟨hP, hD⟩ := va_join (wr := [(ch, .inr (2, [.ref eh, y1, y2, y3, y4, y5])), (eh, .inr (5, [.int ts, .ref q0])), (q0, .inl (c0, 120, .inl f0))]) (w1 := [(h0, .inr (6, [v0, v1, v2, v3, .ref ch, v5, .ref t0, v7])), (t0, .inl (tc, 7, .inl tg_20))]) hP hD [0, 1] [2, 3, 4] rfl rfl (by decide) (by decide) hk1 hFc hP1 hD1
      generalize H1 = H at hP hS ⊢
      have hP : va_P (dC, dI) vwCl [(ch, .inr (2, [.ref eh, y1, y2, y3, y4, y5])), (eh, .inr (5, [.int ts, .ref q0])), (q0, .inl (c0, 120, .inl f0)), (h0, .inr (6, [v0, v1, v2, v3, .ref ch, v5, .ref t0, v7])), (t0, .inl (tc, 7, .inl tg_20))] H := hP
      have hD : va_D A [(ch, .inr (2, [.ref eh, y1, y2, y3, y4, y5])), (eh, .inr (5, [.int ts, .ref q0])), (q0, .inl (c0, 120, .inl f0)), (h0, .inr (6, [v0, v1, v2, v3, .ref ch, v5, .ref t0, v7])), (t0, .inl (tc, 7, .inl tg_20))] := hD
      subst hw
      have hP9 := hP.sub (ws' := [(h0, .inr (6, [v0, v1, v2, v3, .ref ch, v5, .ref t0, v7])), (t0, .inl (tc, 7, .inl tg_20)), (ch, .inr (2, [.ref eh, y1, y2, y3, y4, y5])), (eh, .inr (5, [.int ts, .ref q0])), (q0, .inl (c0, 120, .inl f0))]) [3, 4, 0, 1, 2] rfl
      have hD9 := hD.sub (ws' := [(h0, .inr (6, [v0, v1, v2, v3, .ref ch, v5, .ref t0, v7])), (t0, .inl (tc, 7, .inl tg_20)), (ch, .inr (2, [.ref eh, y1, y2, y3, y4, y5])), (eh, .inr (5, [.int ts, .ref q0])), (q0, .inl (c0, 120, .inl f0))]) [3, 4, 0, 1, 2] (by decide) rfl
      have hK9 := hK.sub (tys' := [(tc, .int), (c0, .int)]) [0, 1] rfl
      exact W.iret (v := ((-1000000001) : Int32)) hx hb hr (fun t ht hW => ⟨⟨((-1000000001) : Int32), (), rfl, (by first | omega | decide | (simp only [fa_lt, fa_le, fa_eq, and_true, true_and, and_false, false_and, not_true_eq_false, not_false_eq_true, li_0, li_1, li_2, li_3, li_4, li_5, li_6, li_7, li_8, li_9, li_10, li_12, li_15, li_16, li_20, li_30, li_34, li_38, li_40, li_63, li_64, li_65, li_78, li_120, li_1000, li_4000, li_10000, li_11077, li_255, li_65535, li_m1, li_m2, li_m1000000001, li_m1000000002, li_m1000000003, li_m1000000004, li_m1000000005, li_m1000000006, li_m1000000007, or_true, true_or, or_false, false_or, implies_true, true_implies, false_implies] <;> omega)), tg_20, ts, f0, (by first | omega | decide | (simp only [fa_lt, fa_le, fa_eq, and_true, true_and, and_false, false_and, not_true_eq_false, not_false_eq_true, li_0, li_1, li_2, li_3, li_4, li_5, li_6, li_7, li_8, li_9, li_10, li_12, li_15, li_16, li_20, li_30, li_34, li_38, li_40, li_63, li_64, li_65, li_78, li_120, li_1000, li_4000, li_10000, li_11077, li_255, li_65535, li_m1, li_m2, li_m1000000001, li_m1000000002, li_m1000000003, li_m1000000004, li_m1000000005, li_m1000000006, li_m1000000007, or_true, true_or, or_false, false_or, implies_true, true_implies, false_implies] <;> omega)), by rw [ht]; exact hP9, va_K.moved hW.alike hK9, hD9⟩, hS.F ht⟩) hS.2.2 dX8_feed_16

def w_x_wipe : List Cond := .code yX8_wipe cX8_wipe 2 (some .int) :: (([.fieldLink RX8 36 "LampShapes" "script" "LLampShapes$Script;"] : List Cond) ++ wsX80 ++ wsX40 ++ wsX70)
set_option maxHeartbeats 4000000 in
set_option maxRecDepth 100000 in
theorem x_wipe (l : Launch) (dC : Nat → ClassId) (dI : Nat → Nat → Nat) (ad : Nat → Nat) (h0 : Nat) (v0 : Value) (v1 : Value) (v2 : Value) (v3 : Value) (ch : Nat) (v5 : Value) (v6 : Value) (v7 : Value) (eh : Nat) (y1 : Value) (y2 : Value) (y3 : Value) (y4 : Value) (y5 : Value) (ts : Int32) (z1 : Value) (sz : Nat) : Met l yX8_wipe w_x_wipe ({ frames := 0, cells := 0, slots := 0, locals := 0 } : Room) (va_Pc [.ref h0] (preM dC dI ad [] [(h0, .inr (6, [v0, v1, v2, v3, .ref ch, v5, v6, v7])), (ch, .inr (2, [.ref eh, y1, y2, y3, y4, y5])), (eh, .inr (5, [.int ts, z1]))] sz)) (va_Qi (fun (r : Int32) (_ : Unit) => r.toInt = ts.toInt) (fun _ t => va_P (dC, dI) vwCl [(h0, .inr (6, [v0, v1, v2, v3, .ref ch, v5, v6, v7])), (ch, .inr (2, [.ref eh, y1, y2, y3, y4, y5])), (eh, .inr (5, [.int 0, z1]))] t.heap ∧ va_K (dC, dI) vwCl [] t ∧ va_D (va_A [(h0, .inr (6, [v0, v1, v2, v3, .ref ch, v5, v6, v7])), (ch, .inr (2, [.ref eh, y1, y2, y3, y4, y5])), (eh, .inr (5, [.int ts, z1]))] sz) [(h0, .inr (6, [v0, v1, v2, v3, .ref ch, v5, v6, v7])), (ch, .inr (2, [.ref eh, y1, y2, y3, y4, y5])), (eh, .inr (5, [.int 0, z1]))]) (va_A [(h0, .inr (6, [v0, v1, v2, v3, .ref ch, v5, v6, v7])), (ch, .inr (2, [.ref eh, y1, y2, y3, y4, y5])), (eh, .inr (5, [.int ts, z1]))] sz)) 0 0 (va_A [(h0, .inr (6, [v0, v1, v2, v3, .ref ch, v5, v6, v7])), (ch, .inr (2, [.ref eh, y1, y2, y3, y4, y5])), (eh, .inr (5, [.int ts, z1]))] sz) := by
  refine Met.ofW (cc := cX8_wipe) (maxL := 2) (ret := (some .int)) (by decide) rfl ?_
  intro p e s m args below meth c s₁ B hml hv
  obtain ⟨rfl, hsz, hP, hK, hD0, hev⟩ := hv
  have hx := B.exec
  have hb := B.bytes
  have hr := B.returns
  have hts := atoms_spec (ws := w_x_wipe) B.pre
  have hown : s.vm.findClass RX8 = some m.cls := findClass_of_methodNamed B.named
  have hlocks := B.notSynchronized
  have inX8 : ∀ w ∈ wsX80, w ∈ w_x_wipe := fun w h => List.mem_cons_of_mem _ (List.mem_append_left _ (List.mem_append_left _ (List.mem_append_right _ h)))
  have inX4 : ∀ w ∈ wsX40, w ∈ w_x_wipe := fun w h => List.mem_cons_of_mem _ (List.mem_append_left _ (List.mem_append_right _ h))
  have inX7 : ∀ w ∈ wsX70, w ∈ w_x_wipe := fun w h => List.mem_cons_of_mem _ (List.mem_append_right _ h)
  subst hsz
  have hD := hD0.self (sz := s.heap.size)
  generalize hAe : va_A [(h0, .inr (6, [v0, v1, v2, v3, .ref ch, v5, v6, v7])), (ch, .inr (2, [.ref eh, y1, y2, y3, y4, y5])), (eh, .inr (5, [.int ts, z1]))] s.heap.size = A at hD ⊢
  have hA : ∀ q : Nat, s.heap.size ≤ q → A q := fun q h => by rw [← hAe]; exact Or.inr h
  have hS : va_S A s.heap s.heap [] := va_S.rf
  have hP : va_P (dC, dI) vwCl [(h0, .inr (6, [v0, v1, v2, v3, .ref ch, v5, v6, v7])), (ch, .inr (2, [.ref eh, y1, y2, y3, y4, y5])), (eh, .inr (5, [.int ts, z1]))] s.heap := hP
  have hl := lv_entry ([.ref h0]) (n := 2) (Nat.le_of_ble_eq_true rfl)
  rw [lg_entry_eq]
  generalize (lg_sl ([.ref h0]) ++ List.replicate (2 - (lg_sl ([.ref h0])).length) Slot.unset).toArray = ls at hl ⊢
  have hl : lv_has ls 2 [(0, .ref h0)] := hl
  refine lv_aload_n hx hb dX8_wipe_0 rfl (lv_at hl 0 rfl) ?_
  refine va_get (D := (dC, dI)) (ci := 6) (v := .ref ch) (C := RX8) (T := TX8) (N := 8) hx hb hts inX8 hown hK hP 0 rfl rfl 4 (by decide) (hts _ (List.mem_of_getElem? (i := 1) rfl)) (fun _ h9 => h9) rfl dX8_wipe_1 ?_
  refine va_getN (D := (dC, dI)) (ci := 2) (v := .ref eh) (C := RX4) (T := TX4) (N := 6) hx hb hts inX4 hown hK hP 1 rfl rfl 0 (by decide) (ev_nest hev 19 rfl) (fun _ h9 => h9) rfl dX8_wipe_4 ?_
  refine va_getN (D := (dC, dI)) (ci := 5) (v := .int ts) (C := RX7) (T := TX7) (N := 2) hx hb hts inX7 hown hK hP 2 rfl rfl 0 (by decide) (ev_nest hev 17 rfl) (fun _ h9 => h9) rfl dX8_wipe_7 ?_
  refine lv_istore_n (lv' := [(1, .int ts), (0, .ref h0)]) hx hb dX8_wipe_10 rfl hl (by decide) rfl (fun ls hl => ?_)
  refine lv_aload_n hx hb dX8_wipe_11 rfl (lv_at hl 1 rfl) ?_
  refine va_get (D := (dC, dI)) (ci := 6) (v := .ref ch) (C := RX8) (T := TX8) (N := 8) hx hb hts inX8 hown hK hP 0 rfl rfl 4 (by decide) (hts _ (List.mem_of_getElem? (i := 1) rfl)) (fun _ h9 => h9) rfl dX8_wipe_12 ?_
  refine va_getN (D := (dC, dI)) (ci := 2) (v := .ref eh) (C := RX4) (T := TX4) (N := 6) hx hb hts inX4 hown hK hP 1 rfl rfl 0 (by decide) (ev_nest hev 19 rfl) (fun _ h9 => h9) rfl dX8_wipe_15 ?_
  refine lv_iconst (v := 0) hx hb dX8_wipe_18 (by decide) ?_
  refine va_putN (D := (dC, dI)) (ci := 5) (v := .int 0) (ty := .int) (C := RX7) (T := TX7) (N := 2) hx hb hts inX7 tyX7 tyX7_ok nmX7 hown hK hP hD hS 2 rfl rfl 0 (by decide) (ev_nest hev 17 rfl) (fun _ h9 => h9) rfl (by decide +kernel) rfl rfl (Nat.le_of_ble_eq_true rfl) dX8_wipe_19 (fun H locs hP hD hS => ?_)
  have hP : va_P (dC, dI) vwCl [(h0, .inr (6, [v0, v1, v2, v3, .ref ch, v5, v6, v7])), (ch, .inr (2, [.ref eh, y1, y2, y3, y4, y5])), (eh, .inr (5, [.int 0, z1]))] H := hP
  have hD : va_D A [(h0, .inr (6, [v0, v1, v2, v3, .ref ch, v5, v6, v7])), (ch, .inr (2, [.ref eh, y1, y2, y3, y4, y5])), (eh, .inr (5, [.int 0, z1]))] := hD
  refine lv_iload_n hx hb dX8_wipe_22 rfl (lv_at hl 0 rfl) ?_
  have hP9 := hP.sub (ws' := [(h0, .inr (6, [v0, v1, v2, v3, .ref ch, v5, v6, v7])), (ch, .inr (2, [.ref eh, y1, y2, y3, y4, y5])), (eh, .inr (5, [.int 0, z1]))]) [0, 1, 2] rfl
  have hD9 := hD.sub (ws' := [(h0, .inr (6, [v0, v1, v2, v3, .ref ch, v5, v6, v7])), (ch, .inr (2, [.ref eh, y1, y2, y3, y4, y5])), (eh, .inr (5, [.int 0, z1]))]) [0, 1, 2] (by decide) rfl
  have hK9 := hK.sub (tys' := []) [] rfl
  exact W.iret (v := ts) hx hb hr (fun t ht hW => ⟨⟨ts, (), rfl, (by first | omega | decide | (simp only [fa_lt, fa_le, fa_eq, and_true, true_and, and_false, false_and, not_true_eq_false, not_false_eq_true, li_0, li_1, li_2, li_3, li_4, li_5, li_6, li_7, li_8, li_9, li_10, li_12, li_15, li_16, li_20, li_30, li_34, li_38, li_40, li_63, li_64, li_65, li_78, li_120, li_1000, li_4000, li_10000, li_11077, li_255, li_65535, li_m1, li_m2, li_m1000000001, li_m1000000002, li_m1000000003, li_m1000000004, li_m1000000005, li_m1000000006, li_m1000000007, or_true, true_or, or_false, false_or, implies_true, true_implies, false_implies] <;> omega)), by rw [ht]; exact hP9, va_K.moved hW.alike hK9, hD9⟩, hS.F ht⟩) hS.2.2 dX8_wipe_23

